section
-- ===== PART A: goes FIRST, ahead of the names: the tables' words, and 'selects' of the private methods out of them =====
/-- a private method of a class that the tables say can be made, by its rows of tables_1 -/
def lw_okq (q : MethodName × Nat) : Prop := (q.1.cls ≠ "java/lang/invoke/MethodHandle" ∧ q.1.cls ≠ "java/lang/invoke/VarHandle") ∧ Cond.instantiable q.1.cls q.2 ∈ tables_1 ∧ Cond.privateMethod q.1 ∈ tables_1 ∧ Cond.instanceMethod q.1 ∈ tables_1
theorem lw_p0 : lw_okq (⟨"ClassMaker4$Program", "isByteNumber", "(I)Z"⟩, 5) := ⟨⟨by decide +kernel, by decide +kernel⟩, List.mem_of_getElem? (i := 117) (by decide +kernel), List.mem_of_getElem? (i := 161) (by decide +kernel), List.mem_of_getElem? (i := 162) (by decide +kernel)⟩
theorem lw_p1 : lw_okq (⟨"ClassMaker4$Program", "isTarget", "(I)Z"⟩, 5) := ⟨⟨by decide +kernel, by decide +kernel⟩, List.mem_of_getElem? (i := 117) (by decide +kernel), List.mem_of_getElem? (i := 165) (by decide +kernel), List.mem_of_getElem? (i := 166) (by decide +kernel)⟩
theorem lw_p2 : lw_okq (⟨"ClassMaker4", "findUnit", "(I)LClassMaker4$RunUnit;"⟩, 5) := ⟨⟨by decide +kernel, by decide +kernel⟩, List.mem_of_getElem? (i := 25) (by decide +kernel), List.mem_of_getElem? (i := 246) (by decide +kernel), List.mem_of_getElem? (i := 247) (by decide +kernel)⟩
theorem lw_p3 : lw_okq (⟨"ClassMaker4$Machine", "follow", "(LClassMaker4$RunUnit;LClassMaker4$MadeClass;LClassMaker4$Row;II)I"⟩, 1) := ⟨⟨by decide +kernel, by decide +kernel⟩, List.mem_of_getElem? (i := 58) (by decide +kernel), List.mem_of_getElem? (i := 342) (by decide +kernel), List.mem_of_getElem? (i := 343) (by decide +kernel)⟩
theorem lw_p4 : lw_okq (⟨"ClassMaker4$Machine", "callProgram", "(LClassMaker4$RunUnit;LClassMaker4$MadeClass;II)Z"⟩, 1) := ⟨⟨by decide +kernel, by decide +kernel⟩, List.mem_of_getElem? (i := 58) (by decide +kernel), List.mem_of_getElem? (i := 354) (by decide +kernel), List.mem_of_getElem? (i := 355) (by decide +kernel)⟩
theorem lw_p5 : lw_okq (⟨"ClassMaker4$Machine", "calledClass", "(LClassMaker4$RunUnit;LClassMaker4$Program;)LClassMaker4$MadeClass;"⟩, 1) := ⟨⟨by decide +kernel, by decide +kernel⟩, List.mem_of_getElem? (i := 58) (by decide +kernel), List.mem_of_getElem? (i := 359) (by decide +kernel), List.mem_of_getElem? (i := 360) (by decide +kernel)⟩
theorem lw_p6 : lw_okq (⟨"ClassMaker4$MadeClass", "setByte", "(II)I"⟩, 9) := ⟨⟨by decide +kernel, by decide +kernel⟩, List.mem_of_getElem? (i := 257) (by decide +kernel), List.mem_of_getElem? (i := 379) (by decide +kernel), List.mem_of_getElem? (i := 380) (by decide +kernel)⟩
theorem lw_p7 : lw_okq (⟨"ClassMaker4$FileMaker", "writeConstants", "(II)V"⟩, 5) := ⟨⟨by decide +kernel, by decide +kernel⟩, List.mem_of_getElem? (i := 68) (by decide +kernel), List.mem_of_getElem? (i := 427) (by decide +kernel), List.mem_of_getElem? (i := 428) (by decide +kernel)⟩
theorem lw_p8 : lw_okq (⟨"ClassMaker4$FileMaker", "u4", "(I)V"⟩, 5) := ⟨⟨by decide +kernel, by decide +kernel⟩, List.mem_of_getElem? (i := 68) (by decide +kernel), List.mem_of_getElem? (i := 432) (by decide +kernel), List.mem_of_getElem? (i := 433) (by decide +kernel)⟩
theorem lw_p9 : lw_okq (⟨"ClassMaker4$FileMaker", "u2", "(I)V"⟩, 5) := ⟨⟨by decide +kernel, by decide +kernel⟩, List.mem_of_getElem? (i := 68) (by decide +kernel), List.mem_of_getElem? (i := 436) (by decide +kernel), List.mem_of_getElem? (i := 437) (by decide +kernel)⟩
theorem lw_p10 : lw_okq (⟨"ClassMaker4$FileMaker", "u1", "(I)V"⟩, 5) := ⟨⟨by decide +kernel, by decide +kernel⟩, List.mem_of_getElem? (i := 68) (by decide +kernel), List.mem_of_getElem? (i := 440) (by decide +kernel), List.mem_of_getElem? (i := 441) (by decide +kernel)⟩
theorem lw_p11 : lw_okq (⟨"ClassMaker4$FileMaker", "numberedText", "(CI)V"⟩, 5) := ⟨⟨by decide +kernel, by decide +kernel⟩, List.mem_of_getElem? (i := 68) (by decide +kernel), List.mem_of_getElem? (i := 444) (by decide +kernel), List.mem_of_getElem? (i := 445) (by decide +kernel)⟩
theorem lw_p12 : lw_okq (⟨"ClassMaker4$FileMaker", "classConstant", "(I)V"⟩, 5) := ⟨⟨by decide +kernel, by decide +kernel⟩, List.mem_of_getElem? (i := 68) (by decide +kernel), List.mem_of_getElem? (i := 448) (by decide +kernel), List.mem_of_getElem? (i := 449) (by decide +kernel)⟩
theorem lw_p13 : lw_okq (⟨"ClassMaker4$FileMaker", "text", "(Ljava/lang/String;)V"⟩, 5) := ⟨⟨by decide +kernel, by decide +kernel⟩, List.mem_of_getElem? (i := 68) (by decide +kernel), List.mem_of_getElem? (i := 453) (by decide +kernel), List.mem_of_getElem? (i := 454) (by decide +kernel)⟩
theorem lw_p14 : lw_okq (⟨"ClassMaker4$FileMaker", "pair", "(III)V"⟩, 5) := ⟨⟨by decide +kernel, by decide +kernel⟩, List.mem_of_getElem? (i := 68) (by decide +kernel), List.mem_of_getElem? (i := 507) (by decide +kernel), List.mem_of_getElem? (i := 508) (by decide +kernel)⟩
theorem lw_p15 : lw_okq (⟨"ClassMaker4$FileMaker", "writeFace", "(I)V"⟩, 5) := ⟨⟨by decide +kernel, by decide +kernel⟩, List.mem_of_getElem? (i := 68) (by decide +kernel), List.mem_of_getElem? (i := 521) (by decide +kernel), List.mem_of_getElem? (i := 522) (by decide +kernel)⟩
def lw_privs_1 : List (MethodName × Nat) := [(⟨"ClassMaker4$Program", "isByteNumber", "(I)Z"⟩, 5), (⟨"ClassMaker4$Program", "isTarget", "(I)Z"⟩, 5), (⟨"ClassMaker4", "findUnit", "(I)LClassMaker4$RunUnit;"⟩, 5), (⟨"ClassMaker4$Machine", "follow", "(LClassMaker4$RunUnit;LClassMaker4$MadeClass;LClassMaker4$Row;II)I"⟩, 1), (⟨"ClassMaker4$Machine", "callProgram", "(LClassMaker4$RunUnit;LClassMaker4$MadeClass;II)Z"⟩, 1), (⟨"ClassMaker4$Machine", "calledClass", "(LClassMaker4$RunUnit;LClassMaker4$Program;)LClassMaker4$MadeClass;"⟩, 1), (⟨"ClassMaker4$MadeClass", "setByte", "(II)I"⟩, 9), (⟨"ClassMaker4$FileMaker", "writeConstants", "(II)V"⟩, 5), (⟨"ClassMaker4$FileMaker", "u4", "(I)V"⟩, 5), (⟨"ClassMaker4$FileMaker", "u2", "(I)V"⟩, 5), (⟨"ClassMaker4$FileMaker", "u1", "(I)V"⟩, 5), (⟨"ClassMaker4$FileMaker", "numberedText", "(CI)V"⟩, 5), (⟨"ClassMaker4$FileMaker", "classConstant", "(I)V"⟩, 5), (⟨"ClassMaker4$FileMaker", "text", "(Ljava/lang/String;)V"⟩, 5), (⟨"ClassMaker4$FileMaker", "pair", "(III)V"⟩, 5), (⟨"ClassMaker4$FileMaker", "writeFace", "(I)V"⟩, 5)]
theorem lw_r1 : ∀ q ∈ lw_privs_1, lw_okq q := List.forall_mem_cons.mpr ⟨lw_p0, List.forall_mem_cons.mpr ⟨lw_p1, List.forall_mem_cons.mpr ⟨lw_p2, List.forall_mem_cons.mpr ⟨lw_p3, List.forall_mem_cons.mpr ⟨lw_p4, List.forall_mem_cons.mpr ⟨lw_p5, List.forall_mem_cons.mpr ⟨lw_p6, List.forall_mem_cons.mpr ⟨lw_p7, List.forall_mem_cons.mpr ⟨lw_p8, List.forall_mem_cons.mpr ⟨lw_p9, List.forall_mem_cons.mpr ⟨lw_p10, List.forall_mem_cons.mpr ⟨lw_p11, List.forall_mem_cons.mpr ⟨lw_p12, List.forall_mem_cons.mpr ⟨lw_p13, List.forall_mem_cons.mpr ⟨lw_p14, List.forall_mem_cons.mpr ⟨lw_p15, fun _ h => absurd h List.not_mem_nil⟩⟩⟩⟩⟩⟩⟩⟩⟩⟩⟩⟩⟩⟩⟩⟩
theorem lw_p16 : lw_okq (⟨"ClassMaker4$FileMaker", "writeStart", "(LClassMaker4$Program;)V"⟩, 5) := ⟨⟨by decide +kernel, by decide +kernel⟩, List.mem_of_getElem? (i := 68) (by decide +kernel), List.mem_of_getElem? (i := 525) (by decide +kernel), List.mem_of_getElem? (i := 526) (by decide +kernel)⟩
theorem lw_p17 : lw_okq (⟨"ClassMaker4$FileMaker", "methodHead", "(IIIII)V"⟩, 5) := ⟨⟨by decide +kernel, by decide +kernel⟩, List.mem_of_getElem? (i := 68) (by decide +kernel), List.mem_of_getElem? (i := 529) (by decide +kernel), List.mem_of_getElem? (i := 530) (by decide +kernel)⟩
theorem lw_p18 : lw_okq (⟨"ClassMaker4$FileMaker", "push", "(I)V"⟩, 5) := ⟨⟨by decide +kernel, by decide +kernel⟩, List.mem_of_getElem? (i := 68) (by decide +kernel), List.mem_of_getElem? (i := 533) (by decide +kernel), List.mem_of_getElem? (i := 534) (by decide +kernel)⟩
theorem lw_p19 : lw_okq (⟨"ClassMaker4$FileMaker", "withIndex", "(II)V"⟩, 5) := ⟨⟨by decide +kernel, by decide +kernel⟩, List.mem_of_getElem? (i := 68) (by decide +kernel), List.mem_of_getElem? (i := 537) (by decide +kernel), List.mem_of_getElem? (i := 538) (by decide +kernel)⟩
theorem lw_p20 : lw_okq (⟨"ClassMaker4$FileMaker", "methodEnd", "()V"⟩, 5) := ⟨⟨by decide +kernel, by decide +kernel⟩, List.mem_of_getElem? (i := 68) (by decide +kernel), List.mem_of_getElem? (i := 541) (by decide +kernel), List.mem_of_getElem? (i := 542) (by decide +kernel)⟩
theorem lw_p21 : lw_okq (⟨"ClassMaker4$FileMaker", "writeMember", "(LClassMaker4$Program;I)V"⟩, 5) := ⟨⟨by decide +kernel, by decide +kernel⟩, List.mem_of_getElem? (i := 68) (by decide +kernel), List.mem_of_getElem? (i := 548) (by decide +kernel), List.mem_of_getElem? (i := 549) (by decide +kernel)⟩
theorem lw_p22 : lw_okq (⟨"ClassMaker4$FileMaker", "layOutRows", "(LClassMaker4$Program;I)I"⟩, 5) := ⟨⟨by decide +kernel, by decide +kernel⟩, List.mem_of_getElem? (i := 68) (by decide +kernel), List.mem_of_getElem? (i := 552) (by decide +kernel), List.mem_of_getElem? (i := 553) (by decide +kernel)⟩
theorem lw_p23 : lw_okq (⟨"ClassMaker4$FileMaker", "lengthOf", "(LClassMaker4$Row;)I"⟩, 5) := ⟨⟨by decide +kernel, by decide +kernel⟩, List.mem_of_getElem? (i := 68) (by decide +kernel), List.mem_of_getElem? (i := 557) (by decide +kernel), List.mem_of_getElem? (i := 558) (by decide +kernel)⟩
theorem lw_p24 : lw_okq (⟨"ClassMaker4$FileMaker", "jumpLength", "(I)I"⟩, 5) := ⟨⟨by decide +kernel, by decide +kernel⟩, List.mem_of_getElem? (i := 68) (by decide +kernel), List.mem_of_getElem? (i := 563) (by decide +kernel), List.mem_of_getElem? (i := 564) (by decide +kernel)⟩
theorem lw_p25 : lw_okq (⟨"ClassMaker4$FileMaker", "isInside", "(I)Z"⟩, 5) := ⟨⟨by decide +kernel, by decide +kernel⟩, List.mem_of_getElem? (i := 68) (by decide +kernel), List.mem_of_getElem? (i := 567) (by decide +kernel), List.mem_of_getElem? (i := 568) (by decide +kernel)⟩
theorem lw_p26 : lw_okq (⟨"ClassMaker4$FileMaker", "writeRow", "(LClassMaker4$Row;I)V"⟩, 5) := ⟨⟨by decide +kernel, by decide +kernel⟩, List.mem_of_getElem? (i := 68) (by decide +kernel), List.mem_of_getElem? (i := 571) (by decide +kernel), List.mem_of_getElem? (i := 572) (by decide +kernel)⟩
theorem lw_p27 : lw_okq (⟨"ClassMaker4$FileMaker", "address", "(I)V"⟩, 5) := ⟨⟨by decide +kernel, by decide +kernel⟩, List.mem_of_getElem? (i := 68) (by decide +kernel), List.mem_of_getElem? (i := 575) (by decide +kernel), List.mem_of_getElem? (i := 576) (by decide +kernel)⟩
theorem lw_p28 : lw_okq (⟨"ClassMaker4$FileMaker", "load", "(I)V"⟩, 5) := ⟨⟨by decide +kernel, by decide +kernel⟩, List.mem_of_getElem? (i := 68) (by decide +kernel), List.mem_of_getElem? (i := 579) (by decide +kernel), List.mem_of_getElem? (i := 580) (by decide +kernel)⟩
theorem lw_p29 : lw_okq (⟨"ClassMaker4$FileMaker", "jump", "(II)V"⟩, 5) := ⟨⟨by decide +kernel, by decide +kernel⟩, List.mem_of_getElem? (i := 68) (by decide +kernel), List.mem_of_getElem? (i := 583) (by decide +kernel), List.mem_of_getElem? (i := 584) (by decide +kernel)⟩
theorem lw_p30 : lw_okq (⟨"ClassMaker4$FileMaker", "hand", "(II)V"⟩, 5) := ⟨⟨by decide +kernel, by decide +kernel⟩, List.mem_of_getElem? (i := 68) (by decide +kernel), List.mem_of_getElem? (i := 587) (by decide +kernel), List.mem_of_getElem? (i := 588) (by decide +kernel)⟩
theorem lw_p31 : lw_okq (⟨"ClassMaker4$FileMaker", "arithmeticOf", "(I)I"⟩, 5) := ⟨⟨by decide +kernel, by decide +kernel⟩, List.mem_of_getElem? (i := 68) (by decide +kernel), List.mem_of_getElem? (i := 591) (by decide +kernel), List.mem_of_getElem? (i := 592) (by decide +kernel)⟩
def lw_privs_2 : List (MethodName × Nat) := [(⟨"ClassMaker4$FileMaker", "writeStart", "(LClassMaker4$Program;)V"⟩, 5), (⟨"ClassMaker4$FileMaker", "methodHead", "(IIIII)V"⟩, 5), (⟨"ClassMaker4$FileMaker", "push", "(I)V"⟩, 5), (⟨"ClassMaker4$FileMaker", "withIndex", "(II)V"⟩, 5), (⟨"ClassMaker4$FileMaker", "methodEnd", "()V"⟩, 5), (⟨"ClassMaker4$FileMaker", "writeMember", "(LClassMaker4$Program;I)V"⟩, 5), (⟨"ClassMaker4$FileMaker", "layOutRows", "(LClassMaker4$Program;I)I"⟩, 5), (⟨"ClassMaker4$FileMaker", "lengthOf", "(LClassMaker4$Row;)I"⟩, 5), (⟨"ClassMaker4$FileMaker", "jumpLength", "(I)I"⟩, 5), (⟨"ClassMaker4$FileMaker", "isInside", "(I)Z"⟩, 5), (⟨"ClassMaker4$FileMaker", "writeRow", "(LClassMaker4$Row;I)V"⟩, 5), (⟨"ClassMaker4$FileMaker", "address", "(I)V"⟩, 5), (⟨"ClassMaker4$FileMaker", "load", "(I)V"⟩, 5), (⟨"ClassMaker4$FileMaker", "jump", "(II)V"⟩, 5), (⟨"ClassMaker4$FileMaker", "hand", "(II)V"⟩, 5), (⟨"ClassMaker4$FileMaker", "arithmeticOf", "(I)I"⟩, 5)]
theorem lw_r2 : ∀ q ∈ lw_privs_2, lw_okq q := List.forall_mem_cons.mpr ⟨lw_p16, List.forall_mem_cons.mpr ⟨lw_p17, List.forall_mem_cons.mpr ⟨lw_p18, List.forall_mem_cons.mpr ⟨lw_p19, List.forall_mem_cons.mpr ⟨lw_p20, List.forall_mem_cons.mpr ⟨lw_p21, List.forall_mem_cons.mpr ⟨lw_p22, List.forall_mem_cons.mpr ⟨lw_p23, List.forall_mem_cons.mpr ⟨lw_p24, List.forall_mem_cons.mpr ⟨lw_p25, List.forall_mem_cons.mpr ⟨lw_p26, List.forall_mem_cons.mpr ⟨lw_p27, List.forall_mem_cons.mpr ⟨lw_p28, List.forall_mem_cons.mpr ⟨lw_p29, List.forall_mem_cons.mpr ⟨lw_p30, List.forall_mem_cons.mpr ⟨lw_p31, fun _ h => absurd h List.not_mem_nil⟩⟩⟩⟩⟩⟩⟩⟩⟩⟩⟩⟩⟩⟩⟩⟩
theorem lw_p32 : lw_okq (⟨"java/lang/Throwable", "fillInStackTrace", "(I)Ljava/lang/Throwable;"⟩, 6) := ⟨⟨by decide +kernel, by decide +kernel⟩, List.mem_of_getElem? (i := 658) (by decide +kernel), List.mem_of_getElem? (i := 656) (by decide +kernel), List.mem_of_getElem? (i := 657) (by decide +kernel)⟩
theorem lw_p33 : lw_okq (⟨"ClassMaker4Model", "isProgram", "(I)Z"⟩, 31) := ⟨⟨by decide +kernel, by decide +kernel⟩, List.mem_of_getElem? (i := 744) (by decide +kernel), List.mem_of_getElem? (i := 857) (by decide +kernel), List.mem_of_getElem? (i := 858) (by decide +kernel)⟩
theorem lw_p34 : lw_okq (⟨"ClassMaker4Model", "isRow", "(IIII)Z"⟩, 31) := ⟨⟨by decide +kernel, by decide +kernel⟩, List.mem_of_getElem? (i := 744) (by decide +kernel), List.mem_of_getElem? (i := 861) (by decide +kernel), List.mem_of_getElem? (i := 862) (by decide +kernel)⟩
theorem lw_p35 : lw_okq (⟨"ClassMaker4Model", "isUnit", "(I)Z"⟩, 31) := ⟨⟨by decide +kernel, by decide +kernel⟩, List.mem_of_getElem? (i := 744) (by decide +kernel), List.mem_of_getElem? (i := 876) (by decide +kernel), List.mem_of_getElem? (i := 877) (by decide +kernel)⟩
theorem lw_p36 : lw_okq (⟨"ClassMaker4Model", "made", "(II)I"⟩, 31) := ⟨⟨by decide +kernel, by decide +kernel⟩, List.mem_of_getElem? (i := 744) (by decide +kernel), List.mem_of_getElem? (i := 880) (by decide +kernel), List.mem_of_getElem? (i := 881) (by decide +kernel)⟩
theorem lw_p37 : lw_okq (⟨"ClassMaker4Model", "latestOf", "(II)I"⟩, 31) := ⟨⟨by decide +kernel, by decide +kernel⟩, List.mem_of_getElem? (i := 744) (by decide +kernel), List.mem_of_getElem? (i := 884) (by decide +kernel), List.mem_of_getElem? (i := 885) (by decide +kernel)⟩
theorem lw_p38 : lw_okq (⟨"ClassMaker4Model", "enter", "(I)I"⟩, 31) := ⟨⟨by decide +kernel, by decide +kernel⟩, List.mem_of_getElem? (i := 744) (by decide +kernel), List.mem_of_getElem? (i := 904) (by decide +kernel), List.mem_of_getElem? (i := 905) (by decide +kernel)⟩
theorem lw_p39 : lw_okq (⟨"ClassMaker4Model", "step", "(II)I"⟩, 31) := ⟨⟨by decide +kernel, by decide +kernel⟩, List.mem_of_getElem? (i := 744) (by decide +kernel), List.mem_of_getElem? (i := 908) (by decide +kernel), List.mem_of_getElem? (i := 909) (by decide +kernel)⟩
theorem lw_p40 : lw_okq (⟨"ClassMaker4Model", "called", "(II)I"⟩, 31) := ⟨⟨by decide +kernel, by decide +kernel⟩, List.mem_of_getElem? (i := 744) (by decide +kernel), List.mem_of_getElem? (i := 912) (by decide +kernel), List.mem_of_getElem? (i := 913) (by decide +kernel)⟩
theorem lw_p41 : lw_okq (⟨"ClassMaker4Model", "build", "(I)V"⟩, 31) := ⟨⟨by decide +kernel, by decide +kernel⟩, List.mem_of_getElem? (i := 744) (by decide +kernel), List.mem_of_getElem? (i := 936) (by decide +kernel), List.mem_of_getElem? (i := 937) (by decide +kernel)⟩
theorem lw_p42 : lw_okq (⟨"ClassMaker4Model", "u4", "(I)V"⟩, 31) := ⟨⟨by decide +kernel, by decide +kernel⟩, List.mem_of_getElem? (i := 744) (by decide +kernel), List.mem_of_getElem? (i := 941) (by decide +kernel), List.mem_of_getElem? (i := 942) (by decide +kernel)⟩
theorem lw_p43 : lw_okq (⟨"ClassMaker4Model", "u2", "(I)V"⟩, 31) := ⟨⟨by decide +kernel, by decide +kernel⟩, List.mem_of_getElem? (i := 744) (by decide +kernel), List.mem_of_getElem? (i := 945) (by decide +kernel), List.mem_of_getElem? (i := 946) (by decide +kernel)⟩
theorem lw_p44 : lw_okq (⟨"ClassMaker4Model", "u1", "(I)V"⟩, 31) := ⟨⟨by decide +kernel, by decide +kernel⟩, List.mem_of_getElem? (i := 744) (by decide +kernel), List.mem_of_getElem? (i := 949) (by decide +kernel), List.mem_of_getElem? (i := 950) (by decide +kernel)⟩
theorem lw_p45 : lw_okq (⟨"ClassMaker4Model", "constants", "(II)V"⟩, 31) := ⟨⟨by decide +kernel, by decide +kernel⟩, List.mem_of_getElem? (i := 744) (by decide +kernel), List.mem_of_getElem? (i := 953) (by decide +kernel), List.mem_of_getElem? (i := 954) (by decide +kernel)⟩
theorem lw_p46 : lw_okq (⟨"ClassMaker4Model", "utf", "(JJ)V"⟩, 31) := ⟨⟨by decide +kernel, by decide +kernel⟩, List.mem_of_getElem? (i := 744) (by decide +kernel), List.mem_of_getElem? (i := 960) (by decide +kernel), List.mem_of_getElem? (i := 961) (by decide +kernel)⟩
theorem lw_p47 : lw_okq (⟨"ClassMaker4Model", "signs", "(J)V"⟩, 31) := ⟨⟨by decide +kernel, by decide +kernel⟩, List.mem_of_getElem? (i := 744) (by decide +kernel), List.mem_of_getElem? (i := 964) (by decide +kernel), List.mem_of_getElem? (i := 965) (by decide +kernel)⟩
def lw_privs_3 : List (MethodName × Nat) := [(⟨"java/lang/Throwable", "fillInStackTrace", "(I)Ljava/lang/Throwable;"⟩, 6), (⟨"ClassMaker4Model", "isProgram", "(I)Z"⟩, 31), (⟨"ClassMaker4Model", "isRow", "(IIII)Z"⟩, 31), (⟨"ClassMaker4Model", "isUnit", "(I)Z"⟩, 31), (⟨"ClassMaker4Model", "made", "(II)I"⟩, 31), (⟨"ClassMaker4Model", "latestOf", "(II)I"⟩, 31), (⟨"ClassMaker4Model", "enter", "(I)I"⟩, 31), (⟨"ClassMaker4Model", "step", "(II)I"⟩, 31), (⟨"ClassMaker4Model", "called", "(II)I"⟩, 31), (⟨"ClassMaker4Model", "build", "(I)V"⟩, 31), (⟨"ClassMaker4Model", "u4", "(I)V"⟩, 31), (⟨"ClassMaker4Model", "u2", "(I)V"⟩, 31), (⟨"ClassMaker4Model", "u1", "(I)V"⟩, 31), (⟨"ClassMaker4Model", "constants", "(II)V"⟩, 31), (⟨"ClassMaker4Model", "utf", "(JJ)V"⟩, 31), (⟨"ClassMaker4Model", "signs", "(J)V"⟩, 31)]
theorem lw_r3 : ∀ q ∈ lw_privs_3, lw_okq q := List.forall_mem_cons.mpr ⟨lw_p32, List.forall_mem_cons.mpr ⟨lw_p33, List.forall_mem_cons.mpr ⟨lw_p34, List.forall_mem_cons.mpr ⟨lw_p35, List.forall_mem_cons.mpr ⟨lw_p36, List.forall_mem_cons.mpr ⟨lw_p37, List.forall_mem_cons.mpr ⟨lw_p38, List.forall_mem_cons.mpr ⟨lw_p39, List.forall_mem_cons.mpr ⟨lw_p40, List.forall_mem_cons.mpr ⟨lw_p41, List.forall_mem_cons.mpr ⟨lw_p42, List.forall_mem_cons.mpr ⟨lw_p43, List.forall_mem_cons.mpr ⟨lw_p44, List.forall_mem_cons.mpr ⟨lw_p45, List.forall_mem_cons.mpr ⟨lw_p46, List.forall_mem_cons.mpr ⟨lw_p47, fun _ h => absurd h List.not_mem_nil⟩⟩⟩⟩⟩⟩⟩⟩⟩⟩⟩⟩⟩⟩⟩⟩
theorem lw_p48 : lw_okq (⟨"ClassMaker4Model", "classed", "(I)V"⟩, 31) := ⟨⟨by decide +kernel, by decide +kernel⟩, List.mem_of_getElem? (i := 744) (by decide +kernel), List.mem_of_getElem? (i := 969) (by decide +kernel), List.mem_of_getElem? (i := 970) (by decide +kernel)⟩
theorem lw_p49 : lw_okq (⟨"ClassMaker4Model", "pair", "(III)V"⟩, 31) := ⟨⟨by decide +kernel, by decide +kernel⟩, List.mem_of_getElem? (i := 744) (by decide +kernel), List.mem_of_getElem? (i := 977) (by decide +kernel), List.mem_of_getElem? (i := 978) (by decide +kernel)⟩
theorem lw_p50 : lw_okq (⟨"ClassMaker4Model", "method", "(IIIII)V"⟩, 31) := ⟨⟨by decide +kernel, by decide +kernel⟩, List.mem_of_getElem? (i := 744) (by decide +kernel), List.mem_of_getElem? (i := 991) (by decide +kernel), List.mem_of_getElem? (i := 992) (by decide +kernel)⟩
theorem lw_p51 : lw_okq (⟨"ClassMaker4Model", "push", "(I)V"⟩, 31) := ⟨⟨by decide +kernel, by decide +kernel⟩, List.mem_of_getElem? (i := 744) (by decide +kernel), List.mem_of_getElem? (i := 996) (by decide +kernel), List.mem_of_getElem? (i := 997) (by decide +kernel)⟩
theorem lw_p52 : lw_okq (⟨"ClassMaker4Model", "member", "(III)V"⟩, 31) := ⟨⟨by decide +kernel, by decide +kernel⟩, List.mem_of_getElem? (i := 744) (by decide +kernel), List.mem_of_getElem? (i := 1000) (by decide +kernel), List.mem_of_getElem? (i := 1001) (by decide +kernel)⟩
theorem lw_p53 : lw_okq (⟨"ClassMaker4Model", "begins", "(IIII)I"⟩, 31) := ⟨⟨by decide +kernel, by decide +kernel⟩, List.mem_of_getElem? (i := 744) (by decide +kernel), List.mem_of_getElem? (i := 1004) (by decide +kernel), List.mem_of_getElem? (i := 1005) (by decide +kernel)⟩
theorem lw_p54 : lw_okq (⟨"ClassMaker4Model", "bytesOf", "(III)I"⟩, 31) := ⟨⟨by decide +kernel, by decide +kernel⟩, List.mem_of_getElem? (i := 744) (by decide +kernel), List.mem_of_getElem? (i := 1008) (by decide +kernel), List.mem_of_getElem? (i := 1009) (by decide +kernel)⟩
theorem lw_p55 : lw_okq (⟨"ClassMaker4Model", "going", "(III)I"⟩, 31) := ⟨⟨by decide +kernel, by decide +kernel⟩, List.mem_of_getElem? (i := 744) (by decide +kernel), List.mem_of_getElem? (i := 1012) (by decide +kernel), List.mem_of_getElem? (i := 1013) (by decide +kernel)⟩
theorem lw_p56 : lw_okq (⟨"ClassMaker4Model", "row", "(IIII)V"⟩, 31) := ⟨⟨by decide +kernel, by decide +kernel⟩, List.mem_of_getElem? (i := 744) (by decide +kernel), List.mem_of_getElem? (i := 1019) (by decide +kernel), List.mem_of_getElem? (i := 1020) (by decide +kernel)⟩
theorem lw_p57 : lw_okq (⟨"ClassMaker4Model", "words", "()V"⟩, 31) := ⟨⟨by decide +kernel, by decide +kernel⟩, List.mem_of_getElem? (i := 744) (by decide +kernel), List.mem_of_getElem? (i := 1023) (by decide +kernel), List.mem_of_getElem? (i := 1024) (by decide +kernel)⟩
theorem lw_p58 : lw_okq (⟨"ClassMaker4Model", "load", "(I)V"⟩, 31) := ⟨⟨by decide +kernel, by decide +kernel⟩, List.mem_of_getElem? (i := 744) (by decide +kernel), List.mem_of_getElem? (i := 1027) (by decide +kernel), List.mem_of_getElem? (i := 1028) (by decide +kernel)⟩
theorem lw_p59 : lw_okq (⟨"ClassMaker4Model", "goes", "(IIIII)V"⟩, 31) := ⟨⟨by decide +kernel, by decide +kernel⟩, List.mem_of_getElem? (i := 744) (by decide +kernel), List.mem_of_getElem? (i := 1031) (by decide +kernel), List.mem_of_getElem? (i := 1032) (by decide +kernel)⟩
def lw_privs_4 : List (MethodName × Nat) := [(⟨"ClassMaker4Model", "classed", "(I)V"⟩, 31), (⟨"ClassMaker4Model", "pair", "(III)V"⟩, 31), (⟨"ClassMaker4Model", "method", "(IIIII)V"⟩, 31), (⟨"ClassMaker4Model", "push", "(I)V"⟩, 31), (⟨"ClassMaker4Model", "member", "(III)V"⟩, 31), (⟨"ClassMaker4Model", "begins", "(IIII)I"⟩, 31), (⟨"ClassMaker4Model", "bytesOf", "(III)I"⟩, 31), (⟨"ClassMaker4Model", "going", "(III)I"⟩, 31), (⟨"ClassMaker4Model", "row", "(IIII)V"⟩, 31), (⟨"ClassMaker4Model", "words", "()V"⟩, 31), (⟨"ClassMaker4Model", "load", "(I)V"⟩, 31), (⟨"ClassMaker4Model", "goes", "(IIIII)V"⟩, 31)]
theorem lw_r4 : ∀ q ∈ lw_privs_4, lw_okq q := List.forall_mem_cons.mpr ⟨lw_p48, List.forall_mem_cons.mpr ⟨lw_p49, List.forall_mem_cons.mpr ⟨lw_p50, List.forall_mem_cons.mpr ⟨lw_p51, List.forall_mem_cons.mpr ⟨lw_p52, List.forall_mem_cons.mpr ⟨lw_p53, List.forall_mem_cons.mpr ⟨lw_p54, List.forall_mem_cons.mpr ⟨lw_p55, List.forall_mem_cons.mpr ⟨lw_p56, List.forall_mem_cons.mpr ⟨lw_p57, List.forall_mem_cons.mpr ⟨lw_p58, List.forall_mem_cons.mpr ⟨lw_p59, fun _ h => absurd h List.not_mem_nil⟩⟩⟩⟩⟩⟩⟩⟩⟩⟩⟩⟩
def lw_privs : List (MethodName × Nat) := lw_privs_1 ++ (lw_privs_2 ++ (lw_privs_3 ++ (lw_privs_4)))
def lw_tbl : List Cond := k2_sels lw_privs ++ tables_1
theorem lw_privs_ok : ∀ q ∈ lw_privs, lw_okq q := by
  show ∀ q ∈ lw_privs_1 ++ (lw_privs_2 ++ (lw_privs_3 ++ (lw_privs_4))), lw_okq q
  exact List.forall_mem_append.mpr ⟨lw_r1, List.forall_mem_append.mpr ⟨lw_r2, List.forall_mem_append.mpr ⟨lw_r3, lw_r4⟩⟩⟩
/-- the tables' good words: every method's list of words is its own code and these -/
def wU : List Cond := lw_tbl.filter goodWord
theorem wU_tbl : ∀ w ∈ wU, w ∈ lw_tbl := fun _ h => (List.mem_filter.mp h).1
theorem wU_good : ∀ w ∈ wU, goodWord w = true := fun _ h => (List.mem_filter.mp h).2
end
section
def RX0 : String := "ClassMaker4$FileMaker"
def TX0 : u_T := fun k => match k with
  | 0 => ("ClassMaker4$FileMaker", "bytes", "[B", true)
  | 1 => ("ClassMaker4$FileMaker", "starts", "[I", true)
  | 2 => ("ClassMaker4$FileMaker", "length", "I", false)
  | 3 => ("ClassMaker4$FileMaker", "firstRow", "I", false)
  | _ => ("ClassMaker4$FileMaker", "lastRow", "I", false)
def tyX0 : Nat → FieldType := fun k => match k with
  | 0 => .array .byte
  | 1 => .array .int
  | 2 => .int
  | 3 => .int
  | _ => .int
theorem nmX0 : ∀ a, a < 5 → ∀ b, b < 5 → a ≠ b → (TX0 a).2.1 ≠ (TX0 b).2.1 := by decide +kernel
theorem tyX0_ok : ∀ k, k < 5 → parseFieldDescriptor (TX0 k).2.2.1 = some (tyX0 k) := by decide +kernel
abbrev cX0_init : ByteArray := prog_2_method_1_code
def yX0_init : MethodName := ⟨RX0, "<init>", "()V"⟩
abbrev cX0_fileOf : ByteArray := prog_2_method_2_code
def yX0_fileOf : MethodName := ⟨RX0, "fileOf", "(LClassMaker4$MadeClass;)[B"⟩
abbrev cX0_writeConstants : ByteArray := prog_2_method_3_code
def yX0_writeConstants : MethodName := ⟨RX0, "writeConstants", "(II)V"⟩
abbrev cX0_writeFace : ByteArray := prog_2_method_4_code
def yX0_writeFace : MethodName := ⟨RX0, "writeFace", "(I)V"⟩
abbrev cX0_writeStart : ByteArray := prog_2_method_5_code
def yX0_writeStart : MethodName := ⟨RX0, "writeStart", "(LClassMaker4$Program;)V"⟩
abbrev cX0_writeMember : ByteArray := prog_2_method_6_code
def yX0_writeMember : MethodName := ⟨RX0, "writeMember", "(LClassMaker4$Program;I)V"⟩
abbrev cX0_layOutRows : ByteArray := prog_2_method_7_code
def yX0_layOutRows : MethodName := ⟨RX0, "layOutRows", "(LClassMaker4$Program;I)I"⟩
abbrev cX0_lengthOf : ByteArray := prog_2_method_8_code
def yX0_lengthOf : MethodName := ⟨RX0, "lengthOf", "(LClassMaker4$Row;)I"⟩
abbrev cX0_jumpLength : ByteArray := prog_2_method_9_code
def yX0_jumpLength : MethodName := ⟨RX0, "jumpLength", "(I)I"⟩
abbrev cX0_isInside : ByteArray := prog_2_method_10_code
def yX0_isInside : MethodName := ⟨RX0, "isInside", "(I)Z"⟩
abbrev cX0_writeRow : ByteArray := prog_2_method_11_code
def yX0_writeRow : MethodName := ⟨RX0, "writeRow", "(LClassMaker4$Row;I)V"⟩
abbrev cX0_arithmeticOf : ByteArray := prog_2_method_12_code
def yX0_arithmeticOf : MethodName := ⟨RX0, "arithmeticOf", "(I)I"⟩
abbrev cX0_address : ByteArray := prog_2_method_13_code
def yX0_address : MethodName := ⟨RX0, "address", "(I)V"⟩
abbrev cX0_load : ByteArray := prog_2_method_14_code
def yX0_load : MethodName := ⟨RX0, "load", "(I)V"⟩
abbrev cX0_hand : ByteArray := prog_2_method_15_code
def yX0_hand : MethodName := ⟨RX0, "hand", "(II)V"⟩
abbrev cX0_jump : ByteArray := prog_2_method_16_code
def yX0_jump : MethodName := ⟨RX0, "jump", "(II)V"⟩
abbrev cX0_push : ByteArray := prog_2_method_17_code
def yX0_push : MethodName := ⟨RX0, "push", "(I)V"⟩
abbrev cX0_withIndex : ByteArray := prog_2_method_18_code
def yX0_withIndex : MethodName := ⟨RX0, "withIndex", "(II)V"⟩
abbrev cX0_methodHead : ByteArray := prog_2_method_19_code
def yX0_methodHead : MethodName := ⟨RX0, "methodHead", "(IIIII)V"⟩
abbrev cX0_methodEnd : ByteArray := prog_2_method_20_code
def yX0_methodEnd : MethodName := ⟨RX0, "methodEnd", "()V"⟩
abbrev cX0_text : ByteArray := prog_2_method_21_code
def yX0_text : MethodName := ⟨RX0, "text", "(Ljava/lang/String;)V"⟩
abbrev cX0_numberedText : ByteArray := prog_2_method_22_code
def yX0_numberedText : MethodName := ⟨RX0, "numberedText", "(CI)V"⟩
abbrev cX0_classConstant : ByteArray := prog_2_method_23_code
def yX0_classConstant : MethodName := ⟨RX0, "classConstant", "(I)V"⟩
abbrev cX0_pair : ByteArray := prog_2_method_24_code
def yX0_pair : MethodName := ⟨RX0, "pair", "(III)V"⟩
abbrev cX0_u4 : ByteArray := prog_2_method_25_code
def yX0_u4 : MethodName := ⟨RX0, "u4", "(I)V"⟩
abbrev cX0_u2 : ByteArray := prog_2_method_26_code
def yX0_u2 : MethodName := ⟨RX0, "u2", "(I)V"⟩
abbrev cX0_u1 : ByteArray := prog_2_method_27_code
def yX0_u1 : MethodName := ⟨RX0, "u1", "(I)V"⟩
def RX1 : String := "ClassMaker4$Machine"
def TX1 : u_T := fun k => match k with
  | _ => ("ClassMaker4$Machine", "store", "LClassMaker4$Store;", true)
def tyX1 : Nat → FieldType := fun k => match k with
  | _ => .object "ClassMaker4$Store"
theorem nmX1 : ∀ a, a < 1 → ∀ b, b < 1 → a ≠ b → (TX1 a).2.1 ≠ (TX1 b).2.1 := by decide +kernel
theorem tyX1_ok : ∀ k, k < 1 → parseFieldDescriptor (TX1 k).2.2.1 = some (tyX1 k) := by decide +kernel
abbrev cX1_init : ByteArray := prog_3_method_1_code
def yX1_init : MethodName := ⟨RX1, "<init>", "(LClassMaker4$Store;)V"⟩
abbrev cX1_enter : ByteArray := prog_3_method_2_code
def yX1_enter : MethodName := ⟨RX1, "enter", "(LClassMaker4$RunUnit;LClassMaker4$MadeClass;I)Z"⟩
abbrev cX1_follow : ByteArray := prog_3_method_3_code
def yX1_follow : MethodName := ⟨RX1, "follow", "(LClassMaker4$RunUnit;LClassMaker4$MadeClass;LClassMaker4$Row;II)I"⟩
abbrev cX1_callProgram : ByteArray := prog_3_method_4_code
def yX1_callProgram : MethodName := ⟨RX1, "callProgram", "(LClassMaker4$RunUnit;LClassMaker4$MadeClass;II)Z"⟩
abbrev cX1_calledClass : ByteArray := prog_3_method_5_code
def yX1_calledClass : MethodName := ⟨RX1, "calledClass", "(LClassMaker4$RunUnit;LClassMaker4$Program;)LClassMaker4$MadeClass;"⟩
def RX2 : String := "ClassMaker4$MadeClass"
def TX2 : u_T := fun k => match k with
  | 0 => ("ClassMaker4$MadeClass", "number", "I", true)
  | 1 => ("ClassMaker4$MadeClass", "home", "LClassMaker4$RunUnit;", true)
  | 2 => ("ClassMaker4$MadeClass", "source", "LClassMaker4$Program;", true)
  | 3 => ("ClassMaker4$MadeClass", "rowCount", "I", true)
  | 4 => ("ClassMaker4$MadeClass", "working", "[B", true)
  | 5 => ("ClassMaker4$MadeClass", "file", "[B", false)
  | 6 => ("ClassMaker4$MadeClass", "started", "Z", false)
  | 7 => ("ClassMaker4$MadeClass", "startFailed", "Z", false)
  | _ => ("ClassMaker4$MadeClass", "dropped", "Z", false)
def tyX2 : Nat → FieldType := fun k => match k with
  | 0 => .int
  | 1 => .object "ClassMaker4$RunUnit"
  | 2 => .object "ClassMaker4$Program"
  | 3 => .int
  | 4 => .array .byte
  | 5 => .array .byte
  | 6 => .boolean
  | 7 => .boolean
  | _ => .boolean
theorem nmX2 : ∀ a, a < 9 → ∀ b, b < 9 → a ≠ b → (TX2 a).2.1 ≠ (TX2 b).2.1 := by decide +kernel
theorem tyX2_ok : ∀ k, k < 9 → parseFieldDescriptor (TX2 k).2.2.1 = some (tyX2 k) := by decide +kernel
abbrev cX2_init : ByteArray := prog_4_method_1_code
def yX2_init : MethodName := ⟨RX2, "<init>", "(ILClassMaker4$RunUnit;LClassMaker4$Program;)V"⟩
abbrev cX2_start : ByteArray := prog_4_method_2_code
def yX2_start : MethodName := ⟨RX2, "start", "()Z"⟩
abbrev cX2_findRow : ByteArray := prog_4_method_3_code
def yX2_findRow : MethodName := ⟨RX2, "findRow", "(I)LClassMaker4$Row;"⟩
abbrev cX2_hasByte : ByteArray := prog_4_method_4_code
def yX2_hasByte : MethodName := ⟨RX2, "hasByte", "(I)Z"⟩
abbrev cX2_valueOf : ByteArray := prog_4_method_5_code
def yX2_valueOf : MethodName := ⟨RX2, "valueOf", "(I)I"⟩
abbrev cX2_setByte : ByteArray := prog_4_method_6_code
def yX2_setByte : MethodName := ⟨RX2, "setByte", "(II)I"⟩
abbrev cX2_work : ByteArray := prog_4_method_7_code
def yX2_work : MethodName := ⟨RX2, "work", "(LClassMaker4$Row;)I"⟩
def RX3 : String := "ClassMaker4$Program"
def TX3 : u_T := fun k => match k with
  | 0 => ("ClassMaker4$Program", "number", "I", true)
  | 1 => ("ClassMaker4$Program", "size", "I", true)
  | 2 => ("ClassMaker4$Program", "startFails", "Z", true)
  | 3 => ("ClassMaker4$Program", "rows", "[LClassMaker4$Row;", true)
  | _ => ("ClassMaker4$Program", "rowCount", "I", false)
def tyX3 : Nat → FieldType := fun k => match k with
  | 0 => .int
  | 1 => .int
  | 2 => .boolean
  | 3 => .array (.object "ClassMaker4$Row")
  | _ => .int
theorem nmX3 : ∀ a, a < 5 → ∀ b, b < 5 → a ≠ b → (TX3 a).2.1 ≠ (TX3 b).2.1 := by decide +kernel
theorem tyX3_ok : ∀ k, k < 5 → parseFieldDescriptor (TX3 k).2.2.1 = some (tyX3 k) := by decide +kernel
abbrev cX3_init : ByteArray := prog_5_method_1_code
def yX3_init : MethodName := ⟨RX3, "<init>", "(IIZ)V"⟩
abbrev cX3_takes : ByteArray := prog_5_method_2_code
def yX3_takes : MethodName := ⟨RX3, "takes", "(III)Z"⟩
abbrev cX3_isByteNumber : ByteArray := prog_5_method_3_code
def yX3_isByteNumber : MethodName := ⟨RX3, "isByteNumber", "(I)Z"⟩
abbrev cX3_isTarget : ByteArray := prog_5_method_4_code
def yX3_isTarget : MethodName := ⟨RX3, "isTarget", "(I)Z"⟩
abbrev cX3_addRow : ByteArray := prog_5_method_5_code
def yX3_addRow : MethodName := ⟨RX3, "addRow", "(III)I"⟩
abbrev cX3_findRow : ByteArray := prog_5_method_6_code
def yX3_findRow : MethodName := ⟨RX3, "findRow", "(I)LClassMaker4$Row;"⟩
def RX4 : String := "ClassMaker4$Row"
def TX4 : u_T := fun k => match k with
  | 0 => ("ClassMaker4$Row", "op", "I", true)
  | 1 => ("ClassMaker4$Row", "a", "I", true)
  | _ => ("ClassMaker4$Row", "b", "I", true)
def tyX4 : Nat → FieldType := fun k => match k with
  | 0 => .int
  | 1 => .int
  | _ => .int
theorem nmX4 : ∀ a, a < 3 → ∀ b, b < 3 → a ≠ b → (TX4 a).2.1 ≠ (TX4 b).2.1 := by decide +kernel
theorem tyX4_ok : ∀ k, k < 3 → parseFieldDescriptor (TX4 k).2.2.1 = some (tyX4 k) := by decide +kernel
abbrev cX4_init : ByteArray := prog_6_method_1_code
def yX4_init : MethodName := ⟨RX4, "<init>", "(III)V"⟩
def RX5 : String := "ClassMaker4$RunUnit"
def TX5 : u_T := fun k => match k with
  | 0 => ("ClassMaker4$RunUnit", "latest", "[LClassMaker4$MadeClass;", true)
  | 1 => ("ClassMaker4$RunUnit", "marks", "[B", true)
  | 2 => ("ClassMaker4$RunUnit", "ended", "Z", false)
  | 3 => ("ClassMaker4$RunUnit", "hasRun", "Z", false)
  | 4 => ("ClassMaker4$RunUnit", "failure", "I", false)
  | 5 => ("ClassMaker4$RunUnit", "endedBy", "I", false)
  | 6 => ("ClassMaker4$RunUnit", "stoppedWith", "I", false)
  | 7 => ("ClassMaker4$RunUnit", "steps", "I", false)
  | _ => ("ClassMaker4$RunUnit", "markCount", "I", false)
def tyX5 : Nat → FieldType := fun k => match k with
  | 0 => .array (.object "ClassMaker4$MadeClass")
  | 1 => .array .byte
  | 2 => .boolean
  | 3 => .boolean
  | 4 => .int
  | 5 => .int
  | 6 => .int
  | 7 => .int
  | _ => .int
theorem nmX5 : ∀ a, a < 9 → ∀ b, b < 9 → a ≠ b → (TX5 a).2.1 ≠ (TX5 b).2.1 := by decide +kernel
theorem tyX5_ok : ∀ k, k < 9 → parseFieldDescriptor (TX5 k).2.2.1 = some (tyX5 k) := by decide +kernel
abbrev cX5_init : ByteArray := prog_7_method_1_code
def yX5_init : MethodName := ⟨RX5, "<init>", "()V"⟩
abbrev cX5_latestOf : ByteArray := prog_7_method_2_code
def yX5_latestOf : MethodName := ⟨RX5, "latestOf", "(LClassMaker4$Program;)LClassMaker4$MadeClass;"⟩
abbrev cX5_setLatest : ByteArray := prog_7_method_3_code
def yX5_setLatest : MethodName := ⟨RX5, "setLatest", "(LClassMaker4$Program;LClassMaker4$MadeClass;)V"⟩
abbrev cX5_beginRun : ByteArray := prog_7_method_4_code
def yX5_beginRun : MethodName := ⟨RX5, "beginRun", "()V"⟩
abbrev cX5_takeStep : ByteArray := prog_7_method_5_code
def yX5_takeStep : MethodName := ⟨RX5, "takeStep", "()Z"⟩
abbrev cX5_noteMark : ByteArray := prog_7_method_6_code
def yX5_noteMark : MethodName := ⟨RX5, "noteMark", "(I)V"⟩
abbrev cX5_markAt : ByteArray := prog_7_method_7_code
def yX5_markAt : MethodName := ⟨RX5, "markAt", "(I)I"⟩
abbrev cX5_abend : ByteArray := prog_7_method_8_code
def yX5_abend : MethodName := ⟨RX5, "abend", "(ILClassMaker4$Program;)V"⟩
abbrev cX5_stop : ByteArray := prog_7_method_9_code
def yX5_stop : MethodName := ⟨RX5, "stop", "(ILClassMaker4$Program;)V"⟩
def RX6 : String := "ClassMaker4$Store"
def TX6 : u_T := fun k => match k with
  | 0 => ("ClassMaker4$Store", "programs", "[LClassMaker4$Program;", true)
  | 1 => ("ClassMaker4$Store", "classes", "[LClassMaker4$MadeClass;", true)
  | 2 => ("ClassMaker4$Store", "programCount", "I", false)
  | _ => ("ClassMaker4$Store", "classCount", "I", false)
def tyX6 : Nat → FieldType := fun k => match k with
  | 0 => .array (.object "ClassMaker4$Program")
  | 1 => .array (.object "ClassMaker4$MadeClass")
  | 2 => .int
  | _ => .int
theorem nmX6 : ∀ a, a < 4 → ∀ b, b < 4 → a ≠ b → (TX6 a).2.1 ≠ (TX6 b).2.1 := by decide +kernel
theorem tyX6_ok : ∀ k, k < 4 → parseFieldDescriptor (TX6 k).2.2.1 = some (tyX6 k) := by decide +kernel
abbrev cX6_init : ByteArray := prog_8_method_1_code
def yX6_init : MethodName := ⟨RX6, "<init>", "()V"⟩
abbrev cX6_addProgram : ByteArray := prog_8_method_2_code
def yX6_addProgram : MethodName := ⟨RX6, "addProgram", "(IZ)I"⟩
abbrev cX6_findProgram : ByteArray := prog_8_method_3_code
def yX6_findProgram : MethodName := ⟨RX6, "findProgram", "(I)LClassMaker4$Program;"⟩
abbrev cX6_findClass : ByteArray := prog_8_method_4_code
def yX6_findClass : MethodName := ⟨RX6, "findClass", "(I)LClassMaker4$MadeClass;"⟩
abbrev cX6_classFor : ByteArray := prog_8_method_5_code
def yX6_classFor : MethodName := ⟨RX6, "classFor", "(LClassMaker4$RunUnit;LClassMaker4$Program;)LClassMaker4$MadeClass;"⟩
abbrev cX6_haveCommonClass : ByteArray := prog_8_method_6_code
def yX6_haveCommonClass : MethodName := ⟨RX6, "haveCommonClass", "(LClassMaker4$RunUnit;LClassMaker4$RunUnit;)Z"⟩
def RX7 : String := "ClassMaker4"
def TX7 : u_T := fun k => match k with
  | 0 => ("ClassMaker4", "store", "LClassMaker4$Store;", true)
  | 1 => ("ClassMaker4", "machine", "LClassMaker4$Machine;", true)
  | 2 => ("ClassMaker4", "files", "LClassMaker4$FileMaker;", true)
  | 3 => ("ClassMaker4", "units", "[LClassMaker4$RunUnit;", true)
  | _ => ("ClassMaker4", "unitCount", "I", false)
def tyX7 : Nat → FieldType := fun k => match k with
  | 0 => .object "ClassMaker4$Store"
  | 1 => .object "ClassMaker4$Machine"
  | 2 => .object "ClassMaker4$FileMaker"
  | 3 => .array (.object "ClassMaker4$RunUnit")
  | _ => .int
theorem nmX7 : ∀ a, a < 5 → ∀ b, b < 5 → a ≠ b → (TX7 a).2.1 ≠ (TX7 b).2.1 := by decide +kernel
theorem tyX7_ok : ∀ k, k < 5 → parseFieldDescriptor (TX7 k).2.2.1 = some (tyX7 k) := by decide +kernel
abbrev cX7_init : ByteArray := prog_1_method_1_code
def yX7_init : MethodName := ⟨RX7, "<init>", "()V"⟩
abbrev cX7_program : ByteArray := prog_1_method_2_code
def yX7_program : MethodName := ⟨RX7, "program", "(IZ)I"⟩
abbrev cX7_code : ByteArray := prog_1_method_3_code
def yX7_code : MethodName := ⟨RX7, "code", "(IIII)I"⟩
abbrev cX7_unit : ByteArray := prog_1_method_4_code
def yX7_unit : MethodName := ⟨RX7, "unit", "()I"⟩
abbrev cX7_make : ByteArray := prog_1_method_5_code
def yX7_make : MethodName := ⟨RX7, "make", "(II)I"⟩
abbrev cX7_run : ByteArray := prog_1_method_6_code
def yX7_run : MethodName := ⟨RX7, "run", "(II)I"⟩
abbrev cX7_at : ByteArray := prog_1_method_7_code
def yX7_at : MethodName := ⟨RX7, "at", "(III)B"⟩
abbrev cX7_raised : ByteArray := prog_1_method_8_code
def yX7_raised : MethodName := ⟨RX7, "raised", "(I)I"⟩
abbrev cX7_told : ByteArray := prog_1_method_9_code
def yX7_told : MethodName := ⟨RX7, "told", "(II)I"⟩
abbrev cX7_mark : ByteArray := prog_1_method_10_code
def yX7_mark : MethodName := ⟨RX7, "mark", "(II)I"⟩
abbrev cX7_octet : ByteArray := prog_1_method_11_code
def yX7_octet : MethodName := ⟨RX7, "octet", "(II)B"⟩
abbrev cX7_shares : ByteArray := prog_1_method_12_code
def yX7_shares : MethodName := ⟨RX7, "shares", "(II)Z"⟩
abbrev cX7_cancel : ByteArray := prog_1_method_13_code
def yX7_cancel : MethodName := ⟨RX7, "cancel", "(II)I"⟩
abbrev cX7_plain : ByteArray := prog_1_method_14_code
def yX7_plain : MethodName := ⟨RX7, "plain", "(IJJ)J"⟩
abbrev cX7_state : ByteArray := prog_1_method_15_code
def yX7_state : MethodName := ⟨RX7, "state", "(I)I"⟩
abbrev cX7_count : ByteArray := prog_1_method_16_code
def yX7_count : MethodName := ⟨RX7, "count", "(I)I"⟩
abbrev cX7_findUnit : ByteArray := prog_1_method_17_code
def yX7_findUnit : MethodName := ⟨RX7, "findUnit", "(I)LClassMaker4$RunUnit;"⟩
def RX8 : String := "ClassMaker4Model"
def TX8 : u_T := fun k => match k with
  | 0 => ("ClassMaker4Model", "thrown", "I", false)
  | 1 => ("ClassMaker4Model", "programs", "I", false)
  | 2 => ("ClassMaker4Model", "units", "I", false)
  | 3 => ("ClassMaker4Model", "classes", "I", false)
  | 4 => ("ClassMaker4Model", "size", "[I", true)
  | 5 => ("ClassMaker4Model", "rows", "[I", true)
  | 6 => ("ClassMaker4Model", "op", "[I", true)
  | 7 => ("ClassMaker4Model", "one", "[I", true)
  | 8 => ("ClassMaker4Model", "two", "[I", true)
  | 9 => ("ClassMaker4Model", "fails", "[Z", true)
  | 10 => ("ClassMaker4Model", "unitOf", "[I", true)
  | 11 => ("ClassMaker4Model", "programOf", "[I", true)
  | 12 => ("ClassMaker4Model", "rowsOf", "[I", true)
  | 13 => ("ClassMaker4Model", "dropped", "[Z", true)
  | 14 => ("ClassMaker4Model", "started", "[Z", true)
  | 15 => ("ClassMaker4Model", "failed", "[Z", true)
  | 16 => ("ClassMaker4Model", "ended", "[Z", true)
  | 17 => ("ClassMaker4Model", "ran", "[Z", true)
  | 18 => ("ClassMaker4Model", "latest", "[I", true)
  | 19 => ("ClassMaker4Model", "raised", "[I", true)
  | 20 => ("ClassMaker4Model", "by", "[I", true)
  | 21 => ("ClassMaker4Model", "stopped", "[I", true)
  | 22 => ("ClassMaker4Model", "steps", "[I", true)
  | 23 => ("ClassMaker4Model", "marked", "[I", true)
  | 24 => ("ClassMaker4Model", "work", "[B", true)
  | 25 => ("ClassMaker4Model", "mark", "[I", true)
  | 26 => ("ClassMaker4Model", "high", "I", false)
  | 27 => ("ClassMaker4Model", "running", "[I", true)
  | 28 => ("ClassMaker4Model", "next", "[I", true)
  | 29 => ("ClassMaker4Model", "length", "I", false)
  | _ => ("ClassMaker4Model", "file", "[I", true)
def tyX8 : Nat → FieldType := fun k => match k with
  | 0 => .int
  | 1 => .int
  | 2 => .int
  | 3 => .int
  | 4 => .array .int
  | 5 => .array .int
  | 6 => .array .int
  | 7 => .array .int
  | 8 => .array .int
  | 9 => .array .boolean
  | 10 => .array .int
  | 11 => .array .int
  | 12 => .array .int
  | 13 => .array .boolean
  | 14 => .array .boolean
  | 15 => .array .boolean
  | 16 => .array .boolean
  | 17 => .array .boolean
  | 18 => .array .int
  | 19 => .array .int
  | 20 => .array .int
  | 21 => .array .int
  | 22 => .array .int
  | 23 => .array .int
  | 24 => .array .byte
  | 25 => .array .int
  | 26 => .int
  | 27 => .array .int
  | 28 => .array .int
  | 29 => .int
  | _ => .array .int
theorem nmX8 : ∀ a, a < 31 → ∀ b, b < 31 → a ≠ b → (TX8 a).2.1 ≠ (TX8 b).2.1 := by decide +kernel
theorem tyX8_ok : ∀ k, k < 31 → parseFieldDescriptor (TX8 k).2.2.1 = some (tyX8 k) := by decide +kernel
abbrev cX8_init : ByteArray := prog_10_method_1_code
def yX8_init : MethodName := ⟨RX8, "<init>", "()V"⟩
abbrev cX8_thrown : ByteArray := prog_10_method_2_code
def yX8_thrown : MethodName := ⟨RX8, "thrown", "()I"⟩
abbrev cX8_isProgram : ByteArray := prog_10_method_3_code
def yX8_isProgram : MethodName := ⟨RX8, "isProgram", "(I)Z"⟩
abbrev cX8_isUnit : ByteArray := prog_10_method_4_code
def yX8_isUnit : MethodName := ⟨RX8, "isUnit", "(I)Z"⟩
abbrev cX8_program : ByteArray := prog_10_method_5_code
def yX8_program : MethodName := ⟨RX8, "program", "(IZ)I"⟩
abbrev cX8_isIn : ByteArray := prog_10_method_6_code
def yX8_isIn : MethodName := ⟨RX8, "isIn", "(III)Z"⟩
abbrev cX8_isRow : ByteArray := prog_10_method_7_code
def yX8_isRow : MethodName := ⟨RX8, "isRow", "(IIII)Z"⟩
abbrev cX8_code : ByteArray := prog_10_method_8_code
def yX8_code : MethodName := ⟨RX8, "code", "(IIII)I"⟩
abbrev cX8_unit : ByteArray := prog_10_method_9_code
def yX8_unit : MethodName := ⟨RX8, "unit", "()I"⟩
abbrev cX8_latestOf : ByteArray := prog_10_method_10_code
def yX8_latestOf : MethodName := ⟨RX8, "latestOf", "(II)I"⟩
abbrev cX8_made : ByteArray := prog_10_method_11_code
def yX8_made : MethodName := ⟨RX8, "made", "(II)I"⟩
abbrev cX8_make : ByteArray := prog_10_method_12_code
def yX8_make : MethodName := ⟨RX8, "make", "(II)I"⟩
abbrev cX8_cancel : ByteArray := prog_10_method_13_code
def yX8_cancel : MethodName := ⟨RX8, "cancel", "(II)I"⟩
abbrev cX8_shares : ByteArray := prog_10_method_14_code
def yX8_shares : MethodName := ⟨RX8, "shares", "(II)Z"⟩
abbrev cX8_state : ByteArray := prog_10_method_15_code
def yX8_state : MethodName := ⟨RX8, "state", "(I)I"⟩
abbrev cX8_enter : ByteArray := prog_10_method_16_code
def yX8_enter : MethodName := ⟨RX8, "enter", "(I)I"⟩
abbrev cX8_called : ByteArray := prog_10_method_17_code
def yX8_called : MethodName := ⟨RX8, "called", "(II)I"⟩
abbrev cX8_step : ByteArray := prog_10_method_18_code
def yX8_step : MethodName := ⟨RX8, "step", "(II)I"⟩
abbrev cX8_run : ByteArray := prog_10_method_19_code
def yX8_run : MethodName := ⟨RX8, "run", "(II)I"⟩
abbrev cX8_at : ByteArray := prog_10_method_20_code
def yX8_at : MethodName := ⟨RX8, "at", "(III)B"⟩
abbrev cX8_raised : ByteArray := prog_10_method_21_code
def yX8_raised : MethodName := ⟨RX8, "raised", "(I)I"⟩
abbrev cX8_told : ByteArray := prog_10_method_22_code
def yX8_told : MethodName := ⟨RX8, "told", "(II)I"⟩
abbrev cX8_mark : ByteArray := prog_10_method_23_code
def yX8_mark : MethodName := ⟨RX8, "mark", "(II)I"⟩
abbrev cX8_u1 : ByteArray := prog_10_method_24_code
def yX8_u1 : MethodName := ⟨RX8, "u1", "(I)V"⟩
abbrev cX8_u2 : ByteArray := prog_10_method_25_code
def yX8_u2 : MethodName := ⟨RX8, "u2", "(I)V"⟩
abbrev cX8_u4 : ByteArray := prog_10_method_26_code
def yX8_u4 : MethodName := ⟨RX8, "u4", "(I)V"⟩
abbrev cX8_utf : ByteArray := prog_10_method_27_code
def yX8_utf : MethodName := ⟨RX8, "utf", "(JJ)V"⟩
abbrev cX8_signs : ByteArray := prog_10_method_28_code
def yX8_signs : MethodName := ⟨RX8, "signs", "(J)V"⟩
abbrev cX8_pair : ByteArray := prog_10_method_29_code
def yX8_pair : MethodName := ⟨RX8, "pair", "(III)V"⟩
abbrev cX8_classed : ByteArray := prog_10_method_30_code
def yX8_classed : MethodName := ⟨RX8, "classed", "(I)V"⟩
abbrev cX8_named : ByteArray := prog_10_method_31_code
def yX8_named : MethodName := ⟨RX8, "named", "(II)J"⟩
abbrev cX8_constants : ByteArray := prog_10_method_32_code
def yX8_constants : MethodName := ⟨RX8, "constants", "(II)V"⟩
abbrev cX8_method : ByteArray := prog_10_method_33_code
def yX8_method : MethodName := ⟨RX8, "method", "(IIIII)V"⟩
abbrev cX8_isWithin : ByteArray := prog_10_method_34_code
def yX8_isWithin : MethodName := ⟨RX8, "isWithin", "(III)Z"⟩
abbrev cX8_going : ByteArray := prog_10_method_35_code
def yX8_going : MethodName := ⟨RX8, "going", "(III)I"⟩
abbrev cX8_bytesOf : ByteArray := prog_10_method_36_code
def yX8_bytesOf : MethodName := ⟨RX8, "bytesOf", "(III)I"⟩
abbrev cX8_begins : ByteArray := prog_10_method_37_code
def yX8_begins : MethodName := ⟨RX8, "begins", "(IIII)I"⟩
abbrev cX8_words : ByteArray := prog_10_method_38_code
def yX8_words : MethodName := ⟨RX8, "words", "()V"⟩
abbrev cX8_push : ByteArray := prog_10_method_39_code
def yX8_push : MethodName := ⟨RX8, "push", "(I)V"⟩
abbrev cX8_load : ByteArray := prog_10_method_40_code
def yX8_load : MethodName := ⟨RX8, "load", "(I)V"⟩
abbrev cX8_goes : ByteArray := prog_10_method_41_code
def yX8_goes : MethodName := ⟨RX8, "goes", "(IIIII)V"⟩
abbrev cX8_row : ByteArray := prog_10_method_42_code
def yX8_row : MethodName := ⟨RX8, "row", "(IIII)V"⟩
abbrev cX8_member : ByteArray := prog_10_method_43_code
def yX8_member : MethodName := ⟨RX8, "member", "(III)V"⟩
abbrev cX8_build : ByteArray := prog_10_method_44_code
def yX8_build : MethodName := ⟨RX8, "build", "(I)V"⟩
abbrev cX8_octet : ByteArray := prog_10_method_45_code
def yX8_octet : MethodName := ⟨RX8, "octet", "(II)B"⟩
abbrev cX8_plain : ByteArray := prog_10_method_46_code
def yX8_plain : MethodName := ⟨RX8, "plain", "(IJJ)J"⟩
abbrev cX8_count : ByteArray := prog_10_method_47_code
def yX8_count : MethodName := ⟨RX8, "count", "(I)I"⟩
def RJx00060 : String := "java/lang/ArrayIndexOutOfBoundsException"
def TJx00060 : u_T := fun k => match k with
  | 0 => ("java/lang/Throwable", "cause", "Ljava/lang/Throwable;", false)
  | 1 => ("java/lang/Throwable", "stackTrace", "[Ljava/lang/StackTraceElement;", false)
  | 2 => ("java/lang/Throwable", "suppressedExceptions", "Ljava/util/List;", false)
  | 3 => ("java/lang/Throwable", "detailMessage", "Ljava/lang/String;", false)
  | 4 => ("java/lang/Throwable", "backtrace", "Ljava/lang/Object;", false)
  | _ => ("java/lang/Throwable", "depth", "I", false)
def tyJx00060 : Nat → FieldType := fun k => match k with
  | 0 => .object "java/lang/Throwable"
  | 1 => .array (.object "java/lang/StackTraceElement")
  | 2 => .object "java/util/List"
  | 3 => .object "java/lang/String"
  | 4 => .object "java/lang/Object"
  | _ => .int
theorem nmJx00060 : ∀ a, a < 6 → ∀ b, b < 6 → a ≠ b → (TJx00060 a).2.1 ≠ (TJx00060 b).2.1 := by decide +kernel
theorem tyJx00060_ok : ∀ k, k < 6 → parseFieldDescriptor (TJx00060 k).2.2.1 = some (tyJx00060 k) := by decide +kernel
abbrev cJx00060_init_a7421 : ByteArray := prog_12_method_2_code
def yJx00060_init_a7421 : MethodName := ⟨RJx00060, "<init>", "(Ljava/lang/String;)V"⟩
def RJx8e188 : String := "java/lang/Cloneable"
def TJx8e188 : u_T := fun k => match k with
  | _ => ("", "", "", false)
def tyJx8e188 : Nat → FieldType := fun k => match k with
  | _ => .int
theorem nmJx8e188 : ∀ a, a < 0 → ∀ b, b < 0 → a ≠ b → (TJx8e188 a).2.1 ≠ (TJx8e188 b).2.1 := by decide +kernel
theorem tyJx8e188_ok : ∀ k, k < 0 → parseFieldDescriptor (TJx8e188 k).2.2.1 = some (tyJx8e188 k) := by decide +kernel
def RJ9 : String := "java/lang/Math"
def TJ9 : u_T := fun k => match k with
  | _ => ("", "", "", false)
def tyJ9 : Nat → FieldType := fun k => match k with
  | _ => .int
theorem nmJ9 : ∀ a, a < 0 → ∀ b, b < 0 → a ≠ b → (TJ9 a).2.1 ≠ (TJ9 b).2.1 := by decide +kernel
theorem tyJ9_ok : ∀ k, k < 0 → parseFieldDescriptor (TJ9 k).2.2.1 = some (tyJ9 k) := by decide +kernel
abbrev cJ9_min_7cf53 : ByteArray := prog_16_method_69_code
def yJ9_min_7cf53 : MethodName := ⟨RJ9, "min", "(II)I"⟩
abbrev cJ9_min_f86c9 : ByteArray := prog_16_method_70_code
def yJ9_min_f86c9 : MethodName := ⟨RJ9, "min", "(JJ)J"⟩
def RJxde1cd : String := "java/lang/NegativeArraySizeException"
def TJxde1cd : u_T := fun k => match k with
  | 0 => ("java/lang/Throwable", "cause", "Ljava/lang/Throwable;", false)
  | 1 => ("java/lang/Throwable", "stackTrace", "[Ljava/lang/StackTraceElement;", false)
  | 2 => ("java/lang/Throwable", "suppressedExceptions", "Ljava/util/List;", false)
  | 3 => ("java/lang/Throwable", "detailMessage", "Ljava/lang/String;", false)
  | 4 => ("java/lang/Throwable", "backtrace", "Ljava/lang/Object;", false)
  | _ => ("java/lang/Throwable", "depth", "I", false)
def tyJxde1cd : Nat → FieldType := fun k => match k with
  | 0 => .object "java/lang/Throwable"
  | 1 => .array (.object "java/lang/StackTraceElement")
  | 2 => .object "java/util/List"
  | 3 => .object "java/lang/String"
  | 4 => .object "java/lang/Object"
  | _ => .int
theorem nmJxde1cd : ∀ a, a < 6 → ∀ b, b < 6 → a ≠ b → (TJxde1cd a).2.1 ≠ (TJxde1cd b).2.1 := by decide +kernel
theorem tyJxde1cd_ok : ∀ k, k < 6 → parseFieldDescriptor (TJxde1cd k).2.2.1 = some (tyJxde1cd k) := by decide +kernel
abbrev cJxde1cd_init_a7421 : ByteArray := prog_17_method_2_code
def yJxde1cd_init_a7421 : MethodName := ⟨RJxde1cd, "<init>", "(Ljava/lang/String;)V"⟩
def RJ0 : String := "java/lang/String"
def TJ0 : u_T := fun k => match k with
  | _ => ("", "", "", false)
def tyJ0 : Nat → FieldType := fun k => match k with
  | _ => .int
theorem nmJ0 : ∀ a, a < 0 → ∀ b, b < 0 → a ≠ b → (TJ0 a).2.1 ≠ (TJ0 b).2.1 := by decide +kernel
theorem tyJ0_ok : ∀ k, k < 0 → parseFieldDescriptor (TJ0 k).2.2.1 = some (tyJ0 k) := by decide +kernel
abbrev cJ0_length_8abf5 : ByteArray := prog_19_method_54_code
def yJ0_length_8abf5 : MethodName := ⟨RJ0, "length", "()I"⟩
abbrev cJ0_charAt_5068e : ByteArray := prog_19_method_56_code
def yJ0_charAt_5068e : MethodName := ⟨RJ0, "charAt", "(I)C"⟩
abbrev cJ0_coder_7d493 : ByteArray := prog_19_method_152_code
def yJ0_coder_7d493 : MethodName := ⟨RJ0, "coder", "()B"⟩
abbrev cJ0_isLatin1_aae02 : ByteArray := prog_19_method_154_code
def yJ0_isLatin1_aae02 : MethodName := ⟨RJ0, "isLatin1", "()Z"⟩
abbrev cJ0_checkIndex_df160 : ByteArray := prog_19_method_155_code
def yJ0_checkIndex_df160 : MethodName := ⟨RJ0, "checkIndex", "(II)V"⟩
def RJ1 : String := "java/lang/StringLatin1"
def TJ1 : u_T := fun k => match k with
  | _ => ("", "", "", false)
def tyJ1 : Nat → FieldType := fun k => match k with
  | _ => .int
theorem nmJ1 : ∀ a, a < 0 → ∀ b, b < 0 → a ≠ b → (TJ1 a).2.1 ≠ (TJ1 b).2.1 := by decide +kernel
theorem tyJ1_ok : ∀ k, k < 0 → parseFieldDescriptor (TJ1 k).2.2.1 = some (tyJ1 k) := by decide +kernel
abbrev cJ1_charAt_3b067 : ByteArray := prog_20_method_2_code
def yJ1_charAt_3b067 : MethodName := ⟨RJ1, "charAt", "([BI)C"⟩
def RJ2 : String := "java/lang/StringUTF16"
def TJ2 : u_T := fun k => match k with
  | _ => ("", "", "", false)
def tyJ2 : Nat → FieldType := fun k => match k with
  | _ => .int
theorem nmJ2 : ∀ a, a < 0 → ∀ b, b < 0 → a ≠ b → (TJ2 a).2.1 ≠ (TJ2 b).2.1 := by decide +kernel
theorem tyJ2_ok : ∀ k, k < 0 → parseFieldDescriptor (TJ2 k).2.2.1 = some (tyJ2 k) := by decide +kernel
abbrev cJ2_getChar_3b067 : ByteArray := prog_21_method_5_code
def yJ2_getChar_3b067 : MethodName := ⟨RJ2, "getChar", "([BI)C"⟩
abbrev cJ2_length_9d52b : ByteArray := prog_21_method_6_code
def yJ2_length_9d52b : MethodName := ⟨RJ2, "length", "([B)I"⟩
abbrev cJ2_charAt_3b067 : ByteArray := prog_21_method_83_code
def yJ2_charAt_3b067 : MethodName := ⟨RJ2, "charAt", "([BI)C"⟩
abbrev cJ2_checkIndex_2214a : ByteArray := prog_21_method_91_code
def yJ2_checkIndex_2214a : MethodName := ⟨RJ2, "checkIndex", "(I[B)V"⟩
def RJ10 : String := "java/lang/System"
def TJ10 : u_T := fun k => match k with
  | _ => ("", "", "", false)
def tyJ10 : Nat → FieldType := fun k => match k with
  | _ => .int
theorem nmJ10 : ∀ a, a < 0 → ∀ b, b < 0 → a ≠ b → (TJ10 a).2.1 ≠ (TJ10 b).2.1 := by decide +kernel
theorem tyJ10_ok : ∀ k, k < 0 → parseFieldDescriptor (TJ10 k).2.2.1 = some (tyJ10 k) := by decide +kernel
def RJ7 : String := "java/util/Arrays"
def TJ7 : u_T := fun k => match k with
  | _ => ("", "", "", false)
def tyJ7 : Nat → FieldType := fun k => match k with
  | _ => .int
theorem nmJ7 : ∀ a, a < 0 → ∀ b, b < 0 → a ≠ b → (TJ7 a).2.1 ≠ (TJ7 b).2.1 := by decide +kernel
theorem tyJ7_ok : ∀ k, k < 0 → parseFieldDescriptor (TJ7 k).2.2.1 = some (tyJ7 k) := by decide +kernel
abbrev cJ7_fill_031fb : ByteArray := prog_24_method_109_code
def yJ7_fill_031fb : MethodName := ⟨RJ7, "fill", "([BB)V"⟩
abbrev cJ7_copyOf_9075b : ByteArray := prog_24_method_121_code
def yJ7_copyOf_9075b : MethodName := ⟨RJ7, "copyOf", "([BI)[B"⟩
def RJ3 : String := "jdk/internal/util/Preconditions"
def TJ3 : u_T := fun k => match k with
  | _ => ("", "", "", false)
def tyJ3 : Nat → FieldType := fun k => match k with
  | _ => .int
theorem nmJ3 : ∀ a, a < 0 → ∀ b, b < 0 → a ≠ b → (TJ3 a).2.1 ≠ (TJ3 b).2.1 := by decide +kernel
theorem tyJ3_ok : ∀ k, k < 0 → parseFieldDescriptor (TJ3 k).2.2.1 = some (tyJ3 k) := by decide +kernel
abbrev cJ3_checkIndex_8e157 : ByteArray := prog_25_method_11_code
def yJ3_checkIndex_8e157 : MethodName := ⟨RJ3, "checkIndex", "(IILjava/util/function/BiFunction;)I"⟩
def RL : String := "ClassMaker4Law"
abbrev cL_at : ByteArray := method_3_code
def yL_at : MethodName := ⟨RL, "at", "(LClassMaker4;III[J)I"⟩
abbrev cL_octet : ByteArray := method_4_code
def yL_octet : MethodName := ⟨RL, "octet", "(LClassMaker4;II[J)I"⟩
abbrev cL_plain : ByteArray := method_5_code
def yL_plain : MethodName := ⟨RL, "plain", "(LClassMaker4;IJJ[J)I"⟩
abbrev cL_law : ByteArray := code
def yL_law : MethodName := ⟨RL, "law", "([I)Z"⟩
abbrev vwCl : List vw_C := [(RJx00060, TJx00060, 6), (RJxde1cd, TJxde1cd, 6), (RX0, TX0, 5), (RX1, TX1, 1), (RX2, TX2, 9), (RX3, TX3, 5), (RX4, TX4, 3), (RX5, TX5, 9), (RX6, TX6, 4), (RX7, TX7, 5), (RX8, TX8, 31)]
end
section
theorem un_L : Cond.initialized RL ∈ wU := List.mem_filter.mpr ⟨List.mem_append_right _ (List.mem_append_left _ (List.mem_of_getElem? (i := 0) rfl)), rfl⟩
theorem un_X7 : Cond.initialized RX7 ∈ wU := List.mem_filter.mpr ⟨List.mem_append_right _ (List.mem_append_left _ (List.mem_of_getElem? (i := 1) rfl)), rfl⟩
theorem un_X6 : Cond.initialized RX6 ∈ wU := List.mem_filter.mpr ⟨List.mem_append_right _ (List.mem_append_left _ (List.mem_of_getElem? (i := 2) rfl)), rfl⟩
theorem un_X1 : Cond.initialized RX1 ∈ wU := List.mem_filter.mpr ⟨List.mem_append_right _ (List.mem_append_left _ (List.mem_of_getElem? (i := 3) rfl)), rfl⟩
theorem un_X0 : Cond.initialized RX0 ∈ wU := List.mem_filter.mpr ⟨List.mem_append_right _ (List.mem_append_left _ (List.mem_of_getElem? (i := 4) rfl)), rfl⟩
theorem un_X8 : Cond.initialized RX8 ∈ wU := List.mem_filter.mpr ⟨List.mem_append_right _ (List.mem_append_left _ (List.mem_of_getElem? (i := 5) rfl)), rfl⟩
theorem un_X3 : Cond.initialized RX3 ∈ wU := List.mem_filter.mpr ⟨List.mem_append_right _ (List.mem_append_left _ (List.mem_of_getElem? (i := 6) rfl)), rfl⟩
theorem un_X4 : Cond.initialized RX4 ∈ wU := List.mem_filter.mpr ⟨List.mem_append_right _ (List.mem_append_left _ (List.mem_of_getElem? (i := 7) rfl)), rfl⟩
theorem un_X5 : Cond.initialized RX5 ∈ wU := List.mem_filter.mpr ⟨List.mem_append_right _ (List.mem_append_left _ (List.mem_of_getElem? (i := 8) rfl)), rfl⟩
theorem un_X2 : Cond.initialized RX2 ∈ wU := List.mem_filter.mpr ⟨List.mem_append_right _ (List.mem_append_left _ (List.mem_of_getElem? (i := 9) rfl)), rfl⟩
theorem un_J7 : Cond.initialized RJ7 ∈ wU := List.mem_filter.mpr ⟨List.mem_append_right _ (List.mem_append_left _ (List.mem_of_getElem? (i := 10) rfl)), rfl⟩
theorem un_Jx00060 : Cond.initialized RJx00060 ∈ wU := List.mem_filter.mpr ⟨List.mem_append_right _ (List.mem_append_left _ (List.mem_of_getElem? (i := 15) rfl)), rfl⟩
theorem un_J0 : Cond.initialized RJ0 ∈ wU := List.mem_filter.mpr ⟨List.mem_append_right _ (List.mem_append_left _ (List.mem_of_getElem? (i := 16) rfl)), rfl⟩
theorem un_J1 : Cond.initialized RJ1 ∈ wU := List.mem_filter.mpr ⟨List.mem_append_right _ (List.mem_append_left _ (List.mem_of_getElem? (i := 17) rfl)), rfl⟩
theorem un_J3 : Cond.initialized RJ3 ∈ wU := List.mem_filter.mpr ⟨List.mem_append_right _ (List.mem_append_left _ (List.mem_of_getElem? (i := 18) rfl)), rfl⟩
theorem un_J2 : Cond.initialized RJ2 ∈ wU := List.mem_filter.mpr ⟨List.mem_append_right _ (List.mem_append_left _ (List.mem_of_getElem? (i := 19) rfl)), rfl⟩
theorem un_J9 : Cond.initialized RJ9 ∈ wU := List.mem_filter.mpr ⟨List.mem_append_right _ (List.mem_append_left _ (List.mem_of_getElem? (i := 20) rfl)), rfl⟩
theorem un_J10 : Cond.initialized RJ10 ∈ wU := List.mem_filter.mpr ⟨List.mem_append_right _ (List.mem_append_left _ (List.mem_of_getElem? (i := 21) rfl)), rfl⟩
theorem un_Jxde1cd : Cond.initialized RJxde1cd ∈ wU := List.mem_filter.mpr ⟨List.mem_append_right _ (List.mem_append_left _ (List.mem_of_getElem? (i := 23) rfl)), rfl⟩
theorem ul_L_8 : Cond.classLink RL 8 RX7 ∈ wU := List.mem_filter.mpr ⟨List.mem_append_right _ (List.mem_append_left _ (List.mem_of_getElem? (i := 24) rfl)), rfl⟩
theorem ut_X7 : Cond.instantiable RX7 5 ∈ wU := List.mem_filter.mpr ⟨List.mem_append_right _ (List.mem_append_left _ (List.mem_of_getElem? (i := 25) rfl)), rfl⟩
theorem um_L_27 : Cond.methodLink RL 27 yX7_init ∈ wU := List.mem_filter.mpr ⟨List.mem_append_right _ (List.mem_append_left _ (List.mem_of_getElem? (i := 26) rfl)), rfl⟩
theorem ui_X7_init : Cond.instanceMethod yX7_init ∈ wU := List.mem_filter.mpr ⟨List.mem_append_right _ (List.mem_append_left _ (List.mem_of_getElem? (i := 27) rfl)), rfl⟩
theorem uc_X7_init : Cond.code yX7_init cX7_init 1 none ∈ wU := List.mem_filter.mpr ⟨List.mem_append_right _ (List.mem_append_left _ (List.mem_of_getElem? (i := 28) rfl)), rfl⟩
theorem um_X7_1 : Cond.methodLink RX7 1 objectInit ∈ wU := List.mem_filter.mpr ⟨List.mem_append_right _ (List.mem_append_left _ (List.mem_of_getElem? (i := 29) rfl)), rfl⟩
theorem ui_obj : Cond.instanceMethod objectInit ∈ wU := List.mem_filter.mpr ⟨List.mem_append_right _ (List.mem_append_left _ (List.mem_of_getElem? (i := 30) rfl)), rfl⟩
theorem uc_obj : Cond.code objectInit ⟨#[0xb1]⟩ 1 none ∈ wU := List.mem_filter.mpr ⟨List.mem_append_right _ (List.mem_append_left _ (List.mem_of_getElem? (i := 31) rfl)), rfl⟩
theorem ul_X7_7 : Cond.classLink RX7 7 RX6 ∈ wU := List.mem_filter.mpr ⟨List.mem_append_right _ (List.mem_append_left _ (List.mem_of_getElem? (i := 32) rfl)), rfl⟩
theorem ut_X6 : Cond.instantiable RX6 4 ∈ wU := List.mem_filter.mpr ⟨List.mem_append_right _ (List.mem_append_left _ (List.mem_of_getElem? (i := 33) rfl)), rfl⟩
theorem um_X7_9 : Cond.methodLink RX7 9 yX6_init ∈ wU := List.mem_filter.mpr ⟨List.mem_append_right _ (List.mem_append_left _ (List.mem_of_getElem? (i := 34) rfl)), rfl⟩
theorem ui_X6_init : Cond.instanceMethod yX6_init ∈ wU := List.mem_filter.mpr ⟨List.mem_append_right _ (List.mem_append_left _ (List.mem_of_getElem? (i := 35) rfl)), rfl⟩
theorem uc_X6_init : Cond.code yX6_init cX6_init 1 none ∈ wU := List.mem_filter.mpr ⟨List.mem_append_right _ (List.mem_append_left _ (List.mem_of_getElem? (i := 36) rfl)), rfl⟩
theorem um_X6_3 : Cond.methodLink RX6 3 objectInit ∈ wU := List.mem_filter.mpr ⟨List.mem_append_right _ (List.mem_append_left _ (List.mem_of_getElem? (i := 37) rfl)), rfl⟩
theorem ul_X6_9 : Cond.classLink RX6 9 RX3 ∈ wU := List.mem_filter.mpr ⟨List.mem_append_right _ (List.mem_append_left _ (List.mem_of_getElem? (i := 38) rfl)), rfl⟩
theorem ul_X6_17 : Cond.classLink RX6 17 RX2 ∈ wU := List.mem_filter.mpr ⟨List.mem_append_right _ (List.mem_append_left _ (List.mem_of_getElem? (i := 40) rfl)), rfl⟩
theorem uf_X6_11 : Cond.fieldLink RX6 11 "ClassMaker4$Store" "programs" "[LClassMaker4$Program;" ∈ wU := List.mem_filter.mpr ⟨List.mem_append_right _ (List.mem_append_left _ (List.mem_of_getElem? (i := 42) rfl)), rfl⟩
theorem uf_X6_19 : Cond.fieldLink RX6 19 "ClassMaker4$Store" "classes" "[LClassMaker4$MadeClass;" ∈ wU := List.mem_filter.mpr ⟨List.mem_append_right _ (List.mem_append_left _ (List.mem_of_getElem? (i := 43) rfl)), rfl⟩
theorem uf_X6_23 : Cond.fieldLink RX6 23 "ClassMaker4$Store" "programCount" "I" ∈ wU := List.mem_filter.mpr ⟨List.mem_append_right _ (List.mem_append_left _ (List.mem_of_getElem? (i := 44) rfl)), rfl⟩
theorem uf_X7_173 : Cond.fieldLink RX7 173 "ClassMaker4$Store" "programCount" "I" ∈ wU := List.mem_filter.mpr ⟨List.mem_append_right _ (List.mem_append_left _ (List.mem_of_getElem? (i := 45) rfl)), rfl⟩
theorem uf_X6_30 : Cond.fieldLink RX6 30 "ClassMaker4$Store" "classCount" "I" ∈ wU := List.mem_filter.mpr ⟨List.mem_append_right _ (List.mem_append_left _ (List.mem_of_getElem? (i := 46) rfl)), rfl⟩
theorem uf_X7_176 : Cond.fieldLink RX7 176 "ClassMaker4$Store" "classCount" "I" ∈ wU := List.mem_filter.mpr ⟨List.mem_append_right _ (List.mem_append_left _ (List.mem_of_getElem? (i := 47) rfl)), rfl⟩
theorem ul_X7_16 : Cond.classLink RX7 16 RX1 ∈ wU := List.mem_filter.mpr ⟨List.mem_append_right _ (List.mem_append_left _ (List.mem_of_getElem? (i := 57) rfl)), rfl⟩
theorem ut_X1 : Cond.instantiable RX1 1 ∈ wU := List.mem_filter.mpr ⟨List.mem_append_right _ (List.mem_append_left _ (List.mem_of_getElem? (i := 58) rfl)), rfl⟩
theorem um_X7_18 : Cond.methodLink RX7 18 yX1_init ∈ wU := List.mem_filter.mpr ⟨List.mem_append_right _ (List.mem_append_left _ (List.mem_of_getElem? (i := 59) rfl)), rfl⟩
theorem ui_X1_init : Cond.instanceMethod yX1_init ∈ wU := List.mem_filter.mpr ⟨List.mem_append_right _ (List.mem_append_left _ (List.mem_of_getElem? (i := 60) rfl)), rfl⟩
theorem uc_X1_init : Cond.code yX1_init cX1_init 2 none ∈ wU := List.mem_filter.mpr ⟨List.mem_append_right _ (List.mem_append_left _ (List.mem_of_getElem? (i := 61) rfl)), rfl⟩
theorem um_X1_3 : Cond.methodLink RX1 3 objectInit ∈ wU := List.mem_filter.mpr ⟨List.mem_append_right _ (List.mem_append_left _ (List.mem_of_getElem? (i := 62) rfl)), rfl⟩
theorem uf_X1_9 : Cond.fieldLink RX1 9 "ClassMaker4$Machine" "store" "LClassMaker4$Store;" ∈ wU := List.mem_filter.mpr ⟨List.mem_append_right _ (List.mem_append_left _ (List.mem_of_getElem? (i := 63) rfl)), rfl⟩
theorem ul_X7_25 : Cond.classLink RX7 25 RX0 ∈ wU := List.mem_filter.mpr ⟨List.mem_append_right _ (List.mem_append_left _ (List.mem_of_getElem? (i := 67) rfl)), rfl⟩
theorem ut_X0 : Cond.instantiable RX0 5 ∈ wU := List.mem_filter.mpr ⟨List.mem_append_right _ (List.mem_append_left _ (List.mem_of_getElem? (i := 68) rfl)), rfl⟩
theorem um_X7_27 : Cond.methodLink RX7 27 yX0_init ∈ wU := List.mem_filter.mpr ⟨List.mem_append_right _ (List.mem_append_left _ (List.mem_of_getElem? (i := 69) rfl)), rfl⟩
theorem ui_X0_init : Cond.instanceMethod yX0_init ∈ wU := List.mem_filter.mpr ⟨List.mem_append_right _ (List.mem_append_left _ (List.mem_of_getElem? (i := 70) rfl)), rfl⟩
theorem uc_X0_init : Cond.code yX0_init cX0_init 1 none ∈ wU := List.mem_filter.mpr ⟨List.mem_append_right _ (List.mem_append_left _ (List.mem_of_getElem? (i := 71) rfl)), rfl⟩
theorem um_X0_3 : Cond.methodLink RX0 3 objectInit ∈ wU := List.mem_filter.mpr ⟨List.mem_append_right _ (List.mem_append_left _ (List.mem_of_getElem? (i := 72) rfl)), rfl⟩
theorem uf_X0_11 : Cond.fieldLink RX0 11 "ClassMaker4$FileMaker" "bytes" "[B" ∈ wU := List.mem_filter.mpr ⟨List.mem_append_right _ (List.mem_append_left _ (List.mem_of_getElem? (i := 73) rfl)), rfl⟩
theorem uf_X0_15 : Cond.fieldLink RX0 15 "ClassMaker4$FileMaker" "starts" "[I" ∈ wU := List.mem_filter.mpr ⟨List.mem_append_right _ (List.mem_append_left _ (List.mem_of_getElem? (i := 74) rfl)), rfl⟩
theorem uf_X0_28 : Cond.fieldLink RX0 28 "ClassMaker4$FileMaker" "length" "I" ∈ wU := List.mem_filter.mpr ⟨List.mem_append_right _ (List.mem_append_left _ (List.mem_of_getElem? (i := 75) rfl)), rfl⟩
theorem uf_X0_52 : Cond.fieldLink RX0 52 "ClassMaker4$FileMaker" "firstRow" "I" ∈ wU := List.mem_filter.mpr ⟨List.mem_append_right _ (List.mem_append_left _ (List.mem_of_getElem? (i := 76) rfl)), rfl⟩
theorem uf_X0_61 : Cond.fieldLink RX0 61 "ClassMaker4$FileMaker" "lastRow" "I" ∈ wU := List.mem_filter.mpr ⟨List.mem_append_right _ (List.mem_append_left _ (List.mem_of_getElem? (i := 77) rfl)), rfl⟩
theorem ua_byte : Cond.arrayClass .byte ∈ wU := List.mem_filter.mpr ⟨List.mem_append_right _ (List.mem_append_left _ (List.mem_of_getElem? (i := 89) rfl)), rfl⟩
theorem ua_int : Cond.arrayClass .int ∈ wU := List.mem_filter.mpr ⟨List.mem_append_right _ (List.mem_append_left _ (List.mem_of_getElem? (i := 90) rfl)), rfl⟩
theorem ul_X7_32 : Cond.classLink RX7 32 RX5 ∈ wU := List.mem_filter.mpr ⟨List.mem_append_right _ (List.mem_append_left _ (List.mem_of_getElem? (i := 91) rfl)), rfl⟩
theorem uf_X7_10 : Cond.fieldLink RX7 10 "ClassMaker4" "store" "LClassMaker4$Store;" ∈ wU := List.mem_filter.mpr ⟨List.mem_append_right _ (List.mem_append_left _ (List.mem_of_getElem? (i := 93) rfl)), rfl⟩
theorem uf_X7_21 : Cond.fieldLink RX7 21 "ClassMaker4" "machine" "LClassMaker4$Machine;" ∈ wU := List.mem_filter.mpr ⟨List.mem_append_right _ (List.mem_append_left _ (List.mem_of_getElem? (i := 94) rfl)), rfl⟩
theorem uf_X7_28 : Cond.fieldLink RX7 28 "ClassMaker4" "files" "LClassMaker4$FileMaker;" ∈ wU := List.mem_filter.mpr ⟨List.mem_append_right _ (List.mem_append_left _ (List.mem_of_getElem? (i := 95) rfl)), rfl⟩
theorem uf_X7_34 : Cond.fieldLink RX7 34 "ClassMaker4" "units" "[LClassMaker4$RunUnit;" ∈ wU := List.mem_filter.mpr ⟨List.mem_append_right _ (List.mem_append_left _ (List.mem_of_getElem? (i := 96) rfl)), rfl⟩
theorem uf_X7_56 : Cond.fieldLink RX7 56 "ClassMaker4" "unitCount" "I" ∈ wU := List.mem_filter.mpr ⟨List.mem_append_right _ (List.mem_append_left _ (List.mem_of_getElem? (i := 97) rfl)), rfl⟩
theorem um_L_31 : Cond.methodLink RL 31 yX7_program ∈ wU := List.mem_filter.mpr ⟨List.mem_append_right _ (List.mem_append_left _ (List.mem_of_getElem? (i := 109) rfl)), rfl⟩
theorem ui_X7_program : Cond.instanceMethod yX7_program ∈ wU := List.mem_filter.mpr ⟨List.mem_append_right _ (List.mem_append_left _ (List.mem_of_getElem? (i := 110) rfl)), rfl⟩
theorem us_X7_program : Cond.selects RX7 yX7_program yX7_program ∈ wU := List.mem_filter.mpr ⟨List.mem_append_right _ (List.mem_append_left _ (List.mem_of_getElem? (i := 111) rfl)), rfl⟩
theorem uc_X7_program : Cond.code yX7_program cX7_program 3 (some .int) ∈ wU := List.mem_filter.mpr ⟨List.mem_append_right _ (List.mem_append_left _ (List.mem_of_getElem? (i := 112) rfl)), rfl⟩
theorem um_X7_38 : Cond.methodLink RX7 38 yX6_addProgram ∈ wU := List.mem_filter.mpr ⟨List.mem_append_right _ (List.mem_append_left _ (List.mem_of_getElem? (i := 113) rfl)), rfl⟩
theorem ui_X6_addProgram : Cond.instanceMethod yX6_addProgram ∈ wU := List.mem_filter.mpr ⟨List.mem_append_right _ (List.mem_append_left _ (List.mem_of_getElem? (i := 114) rfl)), rfl⟩
theorem us_X6_addProgram : Cond.selects RX6 yX6_addProgram yX6_addProgram ∈ wU := List.mem_filter.mpr ⟨List.mem_append_right _ (List.mem_append_left _ (List.mem_of_getElem? (i := 115) rfl)), rfl⟩
theorem uc_X6_addProgram : Cond.code yX6_addProgram cX6_addProgram 3 (some .int) ∈ wU := List.mem_filter.mpr ⟨List.mem_append_right _ (List.mem_append_left _ (List.mem_of_getElem? (i := 116) rfl)), rfl⟩
theorem ut_X3 : Cond.instantiable RX3 5 ∈ wU := List.mem_filter.mpr ⟨List.mem_append_right _ (List.mem_append_left _ (List.mem_of_getElem? (i := 117) rfl)), rfl⟩
theorem um_X6_27 : Cond.methodLink RX6 27 yX3_init ∈ wU := List.mem_filter.mpr ⟨List.mem_append_right _ (List.mem_append_left _ (List.mem_of_getElem? (i := 118) rfl)), rfl⟩
theorem ui_X3_init : Cond.instanceMethod yX3_init ∈ wU := List.mem_filter.mpr ⟨List.mem_append_right _ (List.mem_append_left _ (List.mem_of_getElem? (i := 119) rfl)), rfl⟩
theorem uc_X3_init : Cond.code yX3_init cX3_init 4 none ∈ wU := List.mem_filter.mpr ⟨List.mem_append_right _ (List.mem_append_left _ (List.mem_of_getElem? (i := 120) rfl)), rfl⟩
theorem um_X3_3 : Cond.methodLink RX3 3 objectInit ∈ wU := List.mem_filter.mpr ⟨List.mem_append_right _ (List.mem_append_left _ (List.mem_of_getElem? (i := 121) rfl)), rfl⟩
theorem ul_X3_22 : Cond.classLink RX3 22 RX4 ∈ wU := List.mem_filter.mpr ⟨List.mem_append_right _ (List.mem_append_left _ (List.mem_of_getElem? (i := 122) rfl)), rfl⟩
theorem uf_X3_9 : Cond.fieldLink RX3 9 "ClassMaker4$Program" "number" "I" ∈ wU := List.mem_filter.mpr ⟨List.mem_append_right _ (List.mem_append_left _ (List.mem_of_getElem? (i := 124) rfl)), rfl⟩
theorem uf_X5_21 : Cond.fieldLink RX5 21 "ClassMaker4$Program" "number" "I" ∈ wU := List.mem_filter.mpr ⟨List.mem_append_right _ (List.mem_append_left _ (List.mem_of_getElem? (i := 125) rfl)), rfl⟩
theorem uf_X0_35 : Cond.fieldLink RX0 35 "ClassMaker4$Program" "number" "I" ∈ wU := List.mem_filter.mpr ⟨List.mem_append_right _ (List.mem_append_left _ (List.mem_of_getElem? (i := 126) rfl)), rfl⟩
theorem uf_X3_15 : Cond.fieldLink RX3 15 "ClassMaker4$Program" "size" "I" ∈ wU := List.mem_filter.mpr ⟨List.mem_append_right _ (List.mem_append_left _ (List.mem_of_getElem? (i := 127) rfl)), rfl⟩
theorem uf_X2_29 : Cond.fieldLink RX2 29 "ClassMaker4$Program" "size" "I" ∈ wU := List.mem_filter.mpr ⟨List.mem_append_right _ (List.mem_append_left _ (List.mem_of_getElem? (i := 128) rfl)), rfl⟩
theorem uf_X0_129 : Cond.fieldLink RX0 129 "ClassMaker4$Program" "size" "I" ∈ wU := List.mem_filter.mpr ⟨List.mem_append_right _ (List.mem_append_left _ (List.mem_of_getElem? (i := 129) rfl)), rfl⟩
theorem uf_X3_18 : Cond.fieldLink RX3 18 "ClassMaker4$Program" "startFails" "Z" ∈ wU := List.mem_filter.mpr ⟨List.mem_append_right _ (List.mem_append_left _ (List.mem_of_getElem? (i := 130) rfl)), rfl⟩
theorem uf_X2_40 : Cond.fieldLink RX2 40 "ClassMaker4$Program" "startFails" "Z" ∈ wU := List.mem_filter.mpr ⟨List.mem_append_right _ (List.mem_append_left _ (List.mem_of_getElem? (i := 131) rfl)), rfl⟩
theorem uf_X0_118 : Cond.fieldLink RX0 118 "ClassMaker4$Program" "startFails" "Z" ∈ wU := List.mem_filter.mpr ⟨List.mem_append_right _ (List.mem_append_left _ (List.mem_of_getElem? (i := 132) rfl)), rfl⟩
theorem uf_X3_24 : Cond.fieldLink RX3 24 "ClassMaker4$Program" "rows" "[LClassMaker4$Row;" ∈ wU := List.mem_filter.mpr ⟨List.mem_append_right _ (List.mem_append_left _ (List.mem_of_getElem? (i := 133) rfl)), rfl⟩
theorem uf_X2_23 : Cond.fieldLink RX2 23 "ClassMaker4$Program" "rowCount" "I" ∈ wU := List.mem_filter.mpr ⟨List.mem_append_right _ (List.mem_append_left _ (List.mem_of_getElem? (i := 134) rfl)), rfl⟩
theorem uf_X3_35 : Cond.fieldLink RX3 35 "ClassMaker4$Program" "rowCount" "I" ∈ wU := List.mem_filter.mpr ⟨List.mem_append_right _ (List.mem_append_left _ (List.mem_of_getElem? (i := 135) rfl)), rfl⟩
theorem uf_X6_42 : Cond.fieldLink RX6 42 "ClassMaker4$Program" "rowCount" "I" ∈ wU := List.mem_filter.mpr ⟨List.mem_append_right _ (List.mem_append_left _ (List.mem_of_getElem? (i := 136) rfl)), rfl⟩
theorem um_L_36 : Cond.methodLink RL 36 yX7_code ∈ wU := List.mem_filter.mpr ⟨List.mem_append_right _ (List.mem_append_left _ (List.mem_of_getElem? (i := 148) rfl)), rfl⟩
theorem ui_X7_code : Cond.instanceMethod yX7_code ∈ wU := List.mem_filter.mpr ⟨List.mem_append_right _ (List.mem_append_left _ (List.mem_of_getElem? (i := 149) rfl)), rfl⟩
theorem us_X7_code : Cond.selects RX7 yX7_code yX7_code ∈ wU := List.mem_filter.mpr ⟨List.mem_append_right _ (List.mem_append_left _ (List.mem_of_getElem? (i := 150) rfl)), rfl⟩
theorem uc_X7_code : Cond.code yX7_code cX7_code 6 (some .int) ∈ wU := List.mem_filter.mpr ⟨List.mem_append_right _ (List.mem_append_left _ (List.mem_of_getElem? (i := 151) rfl)), rfl⟩
theorem um_X7_42 : Cond.methodLink RX7 42 yX6_findProgram ∈ wU := List.mem_filter.mpr ⟨List.mem_append_right _ (List.mem_append_left _ (List.mem_of_getElem? (i := 152) rfl)), rfl⟩
theorem ui_X6_findProgram : Cond.instanceMethod yX6_findProgram ∈ wU := List.mem_filter.mpr ⟨List.mem_append_right _ (List.mem_append_left _ (List.mem_of_getElem? (i := 153) rfl)), rfl⟩
theorem us_X6_findProgram : Cond.selects RX6 yX6_findProgram yX6_findProgram ∈ wU := List.mem_filter.mpr ⟨List.mem_append_right _ (List.mem_append_left _ (List.mem_of_getElem? (i := 154) rfl)), rfl⟩
theorem uc_X6_findProgram : Cond.code yX6_findProgram cX6_findProgram 2 (some (.object "ClassMaker4$Program")) ∈ wU := List.mem_filter.mpr ⟨List.mem_append_right _ (List.mem_append_left _ (List.mem_of_getElem? (i := 155) rfl)), rfl⟩
theorem um_X7_46 : Cond.methodLink RX7 46 yX3_takes ∈ wU := List.mem_filter.mpr ⟨List.mem_append_right _ (List.mem_append_left _ (List.mem_of_getElem? (i := 156) rfl)), rfl⟩
theorem ui_X3_takes : Cond.instanceMethod yX3_takes ∈ wU := List.mem_filter.mpr ⟨List.mem_append_right _ (List.mem_append_left _ (List.mem_of_getElem? (i := 157) rfl)), rfl⟩
theorem us_X3_takes : Cond.selects RX3 yX3_takes yX3_takes ∈ wU := List.mem_filter.mpr ⟨List.mem_append_right _ (List.mem_append_left _ (List.mem_of_getElem? (i := 158) rfl)), rfl⟩
theorem uc_X3_takes : Cond.code yX3_takes cX3_takes 4 (some .boolean) ∈ wU := List.mem_filter.mpr ⟨List.mem_append_right _ (List.mem_append_left _ (List.mem_of_getElem? (i := 159) rfl)), rfl⟩
theorem um_X3_28 : Cond.methodLink RX3 28 yX3_isByteNumber ∈ wU := List.mem_filter.mpr ⟨List.mem_append_right _ (List.mem_append_left _ (List.mem_of_getElem? (i := 160) rfl)), rfl⟩
theorem ui_X3_isByteNumber : Cond.instanceMethod yX3_isByteNumber ∈ wU := List.mem_filter.mpr ⟨List.mem_append_right _ (List.mem_append_left _ (List.mem_of_getElem? (i := 162) rfl)), rfl⟩
theorem uc_X3_isByteNumber : Cond.code yX3_isByteNumber cX3_isByteNumber 2 (some .boolean) ∈ wU := List.mem_filter.mpr ⟨List.mem_append_right _ (List.mem_append_left _ (List.mem_of_getElem? (i := 163) rfl)), rfl⟩
theorem um_X3_32 : Cond.methodLink RX3 32 yX3_isTarget ∈ wU := List.mem_filter.mpr ⟨List.mem_append_right _ (List.mem_append_left _ (List.mem_of_getElem? (i := 164) rfl)), rfl⟩
theorem ui_X3_isTarget : Cond.instanceMethod yX3_isTarget ∈ wU := List.mem_filter.mpr ⟨List.mem_append_right _ (List.mem_append_left _ (List.mem_of_getElem? (i := 166) rfl)), rfl⟩
theorem uc_X3_isTarget : Cond.code yX3_isTarget cX3_isTarget 2 (some .boolean) ∈ wU := List.mem_filter.mpr ⟨List.mem_append_right _ (List.mem_append_left _ (List.mem_of_getElem? (i := 167) rfl)), rfl⟩
theorem um_X7_52 : Cond.methodLink RX7 52 yX3_addRow ∈ wU := List.mem_filter.mpr ⟨List.mem_append_right _ (List.mem_append_left _ (List.mem_of_getElem? (i := 168) rfl)), rfl⟩
theorem ui_X3_addRow : Cond.instanceMethod yX3_addRow ∈ wU := List.mem_filter.mpr ⟨List.mem_append_right _ (List.mem_append_left _ (List.mem_of_getElem? (i := 169) rfl)), rfl⟩
theorem us_X3_addRow : Cond.selects RX3 yX3_addRow yX3_addRow ∈ wU := List.mem_filter.mpr ⟨List.mem_append_right _ (List.mem_append_left _ (List.mem_of_getElem? (i := 170) rfl)), rfl⟩
theorem uc_X3_addRow : Cond.code yX3_addRow cX3_addRow 4 (some .int) ∈ wU := List.mem_filter.mpr ⟨List.mem_append_right _ (List.mem_append_left _ (List.mem_of_getElem? (i := 171) rfl)), rfl⟩
theorem ut_X4 : Cond.instantiable RX4 3 ∈ wU := List.mem_filter.mpr ⟨List.mem_append_right _ (List.mem_append_left _ (List.mem_of_getElem? (i := 172) rfl)), rfl⟩
theorem um_X3_38 : Cond.methodLink RX3 38 yX4_init ∈ wU := List.mem_filter.mpr ⟨List.mem_append_right _ (List.mem_append_left _ (List.mem_of_getElem? (i := 173) rfl)), rfl⟩
theorem ui_X4_init : Cond.instanceMethod yX4_init ∈ wU := List.mem_filter.mpr ⟨List.mem_append_right _ (List.mem_append_left _ (List.mem_of_getElem? (i := 174) rfl)), rfl⟩
theorem uc_X4_init : Cond.code yX4_init cX4_init 4 none ∈ wU := List.mem_filter.mpr ⟨List.mem_append_right _ (List.mem_append_left _ (List.mem_of_getElem? (i := 175) rfl)), rfl⟩
theorem um_X4_1 : Cond.methodLink RX4 1 objectInit ∈ wU := List.mem_filter.mpr ⟨List.mem_append_right _ (List.mem_append_left _ (List.mem_of_getElem? (i := 176) rfl)), rfl⟩
theorem uf_X4_7 : Cond.fieldLink RX4 7 "ClassMaker4$Row" "op" "I" ∈ wU := List.mem_filter.mpr ⟨List.mem_append_right _ (List.mem_append_left _ (List.mem_of_getElem? (i := 177) rfl)), rfl⟩
theorem uf_X1_42 : Cond.fieldLink RX1 42 "ClassMaker4$Row" "op" "I" ∈ wU := List.mem_filter.mpr ⟨List.mem_append_right _ (List.mem_append_left _ (List.mem_of_getElem? (i := 178) rfl)), rfl⟩
theorem uf_X2_72 : Cond.fieldLink RX2 72 "ClassMaker4$Row" "op" "I" ∈ wU := List.mem_filter.mpr ⟨List.mem_append_right _ (List.mem_append_left _ (List.mem_of_getElem? (i := 179) rfl)), rfl⟩
theorem uf_X0_156 : Cond.fieldLink RX0 156 "ClassMaker4$Row" "op" "I" ∈ wU := List.mem_filter.mpr ⟨List.mem_append_right _ (List.mem_append_left _ (List.mem_of_getElem? (i := 180) rfl)), rfl⟩
theorem uf_X4_13 : Cond.fieldLink RX4 13 "ClassMaker4$Row" "a" "I" ∈ wU := List.mem_filter.mpr ⟨List.mem_append_right _ (List.mem_append_left _ (List.mem_of_getElem? (i := 181) rfl)), rfl⟩
theorem uf_X1_48 : Cond.fieldLink RX1 48 "ClassMaker4$Row" "a" "I" ∈ wU := List.mem_filter.mpr ⟨List.mem_append_right _ (List.mem_append_left _ (List.mem_of_getElem? (i := 182) rfl)), rfl⟩
theorem uf_X2_60 : Cond.fieldLink RX2 60 "ClassMaker4$Row" "a" "I" ∈ wU := List.mem_filter.mpr ⟨List.mem_append_right _ (List.mem_append_left _ (List.mem_of_getElem? (i := 183) rfl)), rfl⟩
theorem uf_X0_174 : Cond.fieldLink RX0 174 "ClassMaker4$Row" "a" "I" ∈ wU := List.mem_filter.mpr ⟨List.mem_append_right _ (List.mem_append_left _ (List.mem_of_getElem? (i := 184) rfl)), rfl⟩
theorem uf_X4_16 : Cond.fieldLink RX4 16 "ClassMaker4$Row" "b" "I" ∈ wU := List.mem_filter.mpr ⟨List.mem_append_right _ (List.mem_append_left _ (List.mem_of_getElem? (i := 185) rfl)), rfl⟩
theorem uf_X1_55 : Cond.fieldLink RX1 55 "ClassMaker4$Row" "b" "I" ∈ wU := List.mem_filter.mpr ⟨List.mem_append_right _ (List.mem_append_left _ (List.mem_of_getElem? (i := 186) rfl)), rfl⟩
theorem uf_X2_69 : Cond.fieldLink RX2 69 "ClassMaker4$Row" "b" "I" ∈ wU := List.mem_filter.mpr ⟨List.mem_append_right _ (List.mem_append_left _ (List.mem_of_getElem? (i := 187) rfl)), rfl⟩
theorem uf_X0_164 : Cond.fieldLink RX0 164 "ClassMaker4$Row" "b" "I" ∈ wU := List.mem_filter.mpr ⟨List.mem_append_right _ (List.mem_append_left _ (List.mem_of_getElem? (i := 188) rfl)), rfl⟩
theorem um_L_41 : Cond.methodLink RL 41 yX7_unit ∈ wU := List.mem_filter.mpr ⟨List.mem_append_right _ (List.mem_append_left _ (List.mem_of_getElem? (i := 196) rfl)), rfl⟩
theorem ui_X7_unit : Cond.instanceMethod yX7_unit ∈ wU := List.mem_filter.mpr ⟨List.mem_append_right _ (List.mem_append_left _ (List.mem_of_getElem? (i := 197) rfl)), rfl⟩
theorem us_X7_unit : Cond.selects RX7 yX7_unit yX7_unit ∈ wU := List.mem_filter.mpr ⟨List.mem_append_right _ (List.mem_append_left _ (List.mem_of_getElem? (i := 198) rfl)), rfl⟩
theorem uc_X7_unit : Cond.code yX7_unit cX7_unit 1 (some .int) ∈ wU := List.mem_filter.mpr ⟨List.mem_append_right _ (List.mem_append_left _ (List.mem_of_getElem? (i := 199) rfl)), rfl⟩
theorem ut_X5 : Cond.instantiable RX5 9 ∈ wU := List.mem_filter.mpr ⟨List.mem_append_right _ (List.mem_append_left _ (List.mem_of_getElem? (i := 200) rfl)), rfl⟩
theorem um_X7_60 : Cond.methodLink RX7 60 yX5_init ∈ wU := List.mem_filter.mpr ⟨List.mem_append_right _ (List.mem_append_left _ (List.mem_of_getElem? (i := 201) rfl)), rfl⟩
theorem ui_X5_init : Cond.instanceMethod yX5_init ∈ wU := List.mem_filter.mpr ⟨List.mem_append_right _ (List.mem_append_left _ (List.mem_of_getElem? (i := 202) rfl)), rfl⟩
theorem uc_X5_init : Cond.code yX5_init cX5_init 1 none ∈ wU := List.mem_filter.mpr ⟨List.mem_append_right _ (List.mem_append_left _ (List.mem_of_getElem? (i := 203) rfl)), rfl⟩
theorem um_X5_3 : Cond.methodLink RX5 3 objectInit ∈ wU := List.mem_filter.mpr ⟨List.mem_append_right _ (List.mem_append_left _ (List.mem_of_getElem? (i := 204) rfl)), rfl⟩
theorem ul_X5_9 : Cond.classLink RX5 9 RX2 ∈ wU := List.mem_filter.mpr ⟨List.mem_append_right _ (List.mem_append_left _ (List.mem_of_getElem? (i := 205) rfl)), rfl⟩
theorem uf_X5_11 : Cond.fieldLink RX5 11 "ClassMaker4$RunUnit" "latest" "[LClassMaker4$MadeClass;" ∈ wU := List.mem_filter.mpr ⟨List.mem_append_right _ (List.mem_append_left _ (List.mem_of_getElem? (i := 206) rfl)), rfl⟩
theorem uf_X5_17 : Cond.fieldLink RX5 17 "ClassMaker4$RunUnit" "marks" "[B" ∈ wU := List.mem_filter.mpr ⟨List.mem_append_right _ (List.mem_append_left _ (List.mem_of_getElem? (i := 207) rfl)), rfl⟩
theorem uf_X7_65 : Cond.fieldLink RX7 65 "ClassMaker4$RunUnit" "ended" "Z" ∈ wU := List.mem_filter.mpr ⟨List.mem_append_right _ (List.mem_append_left _ (List.mem_of_getElem? (i := 208) rfl)), rfl⟩
theorem uf_X5_46 : Cond.fieldLink RX5 46 "ClassMaker4$RunUnit" "ended" "Z" ∈ wU := List.mem_filter.mpr ⟨List.mem_append_right _ (List.mem_append_left _ (List.mem_of_getElem? (i := 209) rfl)), rfl⟩
theorem uf_X5_27 : Cond.fieldLink RX5 27 "ClassMaker4$RunUnit" "hasRun" "Z" ∈ wU := List.mem_filter.mpr ⟨List.mem_append_right _ (List.mem_append_left _ (List.mem_of_getElem? (i := 210) rfl)), rfl⟩
theorem uf_X7_110 : Cond.fieldLink RX7 110 "ClassMaker4$RunUnit" "hasRun" "Z" ∈ wU := List.mem_filter.mpr ⟨List.mem_append_right _ (List.mem_append_left _ (List.mem_of_getElem? (i := 211) rfl)), rfl⟩
theorem uf_X5_31 : Cond.fieldLink RX5 31 "ClassMaker4$RunUnit" "failure" "I" ∈ wU := List.mem_filter.mpr ⟨List.mem_append_right _ (List.mem_append_left _ (List.mem_of_getElem? (i := 212) rfl)), rfl⟩
theorem uf_X7_89 : Cond.fieldLink RX7 89 "ClassMaker4$RunUnit" "failure" "I" ∈ wU := List.mem_filter.mpr ⟨List.mem_append_right _ (List.mem_append_left _ (List.mem_of_getElem? (i := 213) rfl)), rfl⟩
theorem uf_X5_34 : Cond.fieldLink RX5 34 "ClassMaker4$RunUnit" "endedBy" "I" ∈ wU := List.mem_filter.mpr ⟨List.mem_append_right _ (List.mem_append_left _ (List.mem_of_getElem? (i := 214) rfl)), rfl⟩
theorem uf_X7_113 : Cond.fieldLink RX7 113 "ClassMaker4$RunUnit" "endedBy" "I" ∈ wU := List.mem_filter.mpr ⟨List.mem_append_right _ (List.mem_append_left _ (List.mem_of_getElem? (i := 215) rfl)), rfl⟩
theorem uf_X5_37 : Cond.fieldLink RX5 37 "ClassMaker4$RunUnit" "stoppedWith" "I" ∈ wU := List.mem_filter.mpr ⟨List.mem_append_right _ (List.mem_append_left _ (List.mem_of_getElem? (i := 216) rfl)), rfl⟩
theorem uf_X7_116 : Cond.fieldLink RX7 116 "ClassMaker4$RunUnit" "stoppedWith" "I" ∈ wU := List.mem_filter.mpr ⟨List.mem_append_right _ (List.mem_append_left _ (List.mem_of_getElem? (i := 217) rfl)), rfl⟩
theorem uf_X5_40 : Cond.fieldLink RX5 40 "ClassMaker4$RunUnit" "steps" "I" ∈ wU := List.mem_filter.mpr ⟨List.mem_append_right _ (List.mem_append_left _ (List.mem_of_getElem? (i := 218) rfl)), rfl⟩
theorem uf_X7_119 : Cond.fieldLink RX7 119 "ClassMaker4$RunUnit" "steps" "I" ∈ wU := List.mem_filter.mpr ⟨List.mem_append_right _ (List.mem_append_left _ (List.mem_of_getElem? (i := 219) rfl)), rfl⟩
theorem uf_X5_43 : Cond.fieldLink RX5 43 "ClassMaker4$RunUnit" "markCount" "I" ∈ wU := List.mem_filter.mpr ⟨List.mem_append_right _ (List.mem_append_left _ (List.mem_of_getElem? (i := 220) rfl)), rfl⟩
theorem uf_X7_122 : Cond.fieldLink RX7 122 "ClassMaker4$RunUnit" "markCount" "I" ∈ wU := List.mem_filter.mpr ⟨List.mem_append_right _ (List.mem_append_left _ (List.mem_of_getElem? (i := 221) rfl)), rfl⟩
theorem um_L_46 : Cond.methodLink RL 46 yX7_make ∈ wU := List.mem_filter.mpr ⟨List.mem_append_right _ (List.mem_append_right _ (List.mem_append_left _ (List.mem_of_getElem? (i := 1) rfl))), rfl⟩
theorem ui_X7_make : Cond.instanceMethod yX7_make ∈ wU := List.mem_filter.mpr ⟨List.mem_append_right _ (List.mem_append_right _ (List.mem_append_left _ (List.mem_of_getElem? (i := 2) rfl))), rfl⟩
theorem us_X7_make : Cond.selects RX7 yX7_make yX7_make ∈ wU := List.mem_filter.mpr ⟨List.mem_append_right _ (List.mem_append_right _ (List.mem_append_left _ (List.mem_of_getElem? (i := 3) rfl))), rfl⟩
theorem uc_X7_make : Cond.code yX7_make cX7_make 6 (some .int) ∈ wU := List.mem_filter.mpr ⟨List.mem_append_right _ (List.mem_append_right _ (List.mem_append_left _ (List.mem_of_getElem? (i := 4) rfl))), rfl⟩
theorem um_X7_61 : Cond.methodLink RX7 61 yX7_findUnit ∈ wU := List.mem_filter.mpr ⟨List.mem_append_right _ (List.mem_append_right _ (List.mem_append_left _ (List.mem_of_getElem? (i := 5) rfl))), rfl⟩
theorem ui_X7_findUnit : Cond.instanceMethod yX7_findUnit ∈ wU := List.mem_filter.mpr ⟨List.mem_append_right _ (List.mem_append_right _ (List.mem_append_left _ (List.mem_of_getElem? (i := 7) rfl))), rfl⟩
theorem uc_X7_findUnit : Cond.code yX7_findUnit cX7_findUnit 2 (some (.object "ClassMaker4$RunUnit")) ∈ wU := List.mem_filter.mpr ⟨List.mem_append_right _ (List.mem_append_right _ (List.mem_append_left _ (List.mem_of_getElem? (i := 8) rfl))), rfl⟩
theorem um_X7_69 : Cond.methodLink RX7 69 yX6_classFor ∈ wU := List.mem_filter.mpr ⟨List.mem_append_right _ (List.mem_append_right _ (List.mem_append_left _ (List.mem_of_getElem? (i := 9) rfl))), rfl⟩
theorem ui_X6_classFor : Cond.instanceMethod yX6_classFor ∈ wU := List.mem_filter.mpr ⟨List.mem_append_right _ (List.mem_append_right _ (List.mem_append_left _ (List.mem_of_getElem? (i := 10) rfl))), rfl⟩
theorem us_X6_classFor : Cond.selects RX6 yX6_classFor yX6_classFor ∈ wU := List.mem_filter.mpr ⟨List.mem_append_right _ (List.mem_append_right _ (List.mem_append_left _ (List.mem_of_getElem? (i := 11) rfl))), rfl⟩
theorem uc_X6_classFor : Cond.code yX6_classFor cX6_classFor 5 (some (.object "ClassMaker4$MadeClass")) ∈ wU := List.mem_filter.mpr ⟨List.mem_append_right _ (List.mem_append_right _ (List.mem_append_left _ (List.mem_of_getElem? (i := 12) rfl))), rfl⟩
theorem um_X6_33 : Cond.methodLink RX6 33 yX5_latestOf ∈ wU := List.mem_filter.mpr ⟨List.mem_append_right _ (List.mem_append_right _ (List.mem_append_left _ (List.mem_of_getElem? (i := 13) rfl))), rfl⟩
theorem ui_X5_latestOf : Cond.instanceMethod yX5_latestOf ∈ wU := List.mem_filter.mpr ⟨List.mem_append_right _ (List.mem_append_right _ (List.mem_append_left _ (List.mem_of_getElem? (i := 14) rfl))), rfl⟩
theorem us_X5_latestOf : Cond.selects RX5 yX5_latestOf yX5_latestOf ∈ wU := List.mem_filter.mpr ⟨List.mem_append_right _ (List.mem_append_right _ (List.mem_append_left _ (List.mem_of_getElem? (i := 15) rfl))), rfl⟩
theorem uc_X5_latestOf : Cond.code yX5_latestOf cX5_latestOf 3 (some (.object "ClassMaker4$MadeClass")) ∈ wU := List.mem_filter.mpr ⟨List.mem_append_right _ (List.mem_append_right _ (List.mem_append_left _ (List.mem_of_getElem? (i := 16) rfl))), rfl⟩
theorem ut_X2 : Cond.instantiable RX2 9 ∈ wU := List.mem_filter.mpr ⟨List.mem_append_right _ (List.mem_append_right _ (List.mem_append_left _ (List.mem_of_getElem? (i := 17) rfl))), rfl⟩
theorem um_X6_47 : Cond.methodLink RX6 47 yX2_init ∈ wU := List.mem_filter.mpr ⟨List.mem_append_right _ (List.mem_append_right _ (List.mem_append_left _ (List.mem_of_getElem? (i := 18) rfl))), rfl⟩
theorem ui_X2_init : Cond.instanceMethod yX2_init ∈ wU := List.mem_filter.mpr ⟨List.mem_append_right _ (List.mem_append_right _ (List.mem_append_left _ (List.mem_of_getElem? (i := 19) rfl))), rfl⟩
theorem uc_X2_init : Cond.code yX2_init cX2_init 4 none ∈ wU := List.mem_filter.mpr ⟨List.mem_append_right _ (List.mem_append_right _ (List.mem_append_left _ (List.mem_of_getElem? (i := 20) rfl))), rfl⟩
theorem um_X2_3 : Cond.methodLink RX2 3 objectInit ∈ wU := List.mem_filter.mpr ⟨List.mem_append_right _ (List.mem_append_right _ (List.mem_append_left _ (List.mem_of_getElem? (i := 21) rfl))), rfl⟩
theorem uf_X2_9 : Cond.fieldLink RX2 9 "ClassMaker4$MadeClass" "number" "I" ∈ wU := List.mem_filter.mpr ⟨List.mem_append_right _ (List.mem_append_right _ (List.mem_append_left _ (List.mem_of_getElem? (i := 22) rfl))), rfl⟩
theorem uf_X7_73 : Cond.fieldLink RX7 73 "ClassMaker4$MadeClass" "number" "I" ∈ wU := List.mem_filter.mpr ⟨List.mem_append_right _ (List.mem_append_right _ (List.mem_append_left _ (List.mem_of_getElem? (i := 23) rfl))), rfl⟩
theorem uf_X2_15 : Cond.fieldLink RX2 15 "ClassMaker4$MadeClass" "home" "LClassMaker4$RunUnit;" ∈ wU := List.mem_filter.mpr ⟨List.mem_append_right _ (List.mem_append_right _ (List.mem_append_left _ (List.mem_of_getElem? (i := 24) rfl))), rfl⟩
theorem uf_X6_54 : Cond.fieldLink RX6 54 "ClassMaker4$MadeClass" "home" "LClassMaker4$RunUnit;" ∈ wU := List.mem_filter.mpr ⟨List.mem_append_right _ (List.mem_append_right _ (List.mem_append_left _ (List.mem_of_getElem? (i := 25) rfl))), rfl⟩
theorem uf_X7_166 : Cond.fieldLink RX7 166 "ClassMaker4$MadeClass" "home" "LClassMaker4$RunUnit;" ∈ wU := List.mem_filter.mpr ⟨List.mem_append_right _ (List.mem_append_right _ (List.mem_append_left _ (List.mem_of_getElem? (i := 26) rfl))), rfl⟩
theorem uf_X2_19 : Cond.fieldLink RX2 19 "ClassMaker4$MadeClass" "source" "LClassMaker4$Program;" ∈ wU := List.mem_filter.mpr ⟨List.mem_append_right _ (List.mem_append_right _ (List.mem_append_left _ (List.mem_of_getElem? (i := 27) rfl))), rfl⟩
theorem uf_X1_21 : Cond.fieldLink RX1 21 "ClassMaker4$MadeClass" "source" "LClassMaker4$Program;" ∈ wU := List.mem_filter.mpr ⟨List.mem_append_right _ (List.mem_append_right _ (List.mem_append_left _ (List.mem_of_getElem? (i := 28) rfl))), rfl⟩
theorem uf_X0_31 : Cond.fieldLink RX0 31 "ClassMaker4$MadeClass" "source" "LClassMaker4$Program;" ∈ wU := List.mem_filter.mpr ⟨List.mem_append_right _ (List.mem_append_right _ (List.mem_append_left _ (List.mem_of_getElem? (i := 29) rfl))), rfl⟩
theorem uf_X2_28 : Cond.fieldLink RX2 28 "ClassMaker4$MadeClass" "rowCount" "I" ∈ wU := List.mem_filter.mpr ⟨List.mem_append_right _ (List.mem_append_right _ (List.mem_append_left _ (List.mem_of_getElem? (i := 30) rfl))), rfl⟩
theorem uf_X0_24 : Cond.fieldLink RX0 24 "ClassMaker4$MadeClass" "rowCount" "I" ∈ wU := List.mem_filter.mpr ⟨List.mem_append_right _ (List.mem_append_right _ (List.mem_append_left _ (List.mem_of_getElem? (i := 31) rfl))), rfl⟩
theorem uf_X6_39 : Cond.fieldLink RX6 39 "ClassMaker4$MadeClass" "rowCount" "I" ∈ wU := List.mem_filter.mpr ⟨List.mem_append_right _ (List.mem_append_right _ (List.mem_append_left _ (List.mem_of_getElem? (i := 32) rfl))), rfl⟩
theorem uf_X2_32 : Cond.fieldLink RX2 32 "ClassMaker4$MadeClass" "working" "[B" ∈ wU := List.mem_filter.mpr ⟨List.mem_append_right _ (List.mem_append_right _ (List.mem_append_left _ (List.mem_of_getElem? (i := 33) rfl))), rfl⟩
theorem uf_X7_106 : Cond.fieldLink RX7 106 "ClassMaker4$MadeClass" "working" "[B" ∈ wU := List.mem_filter.mpr ⟨List.mem_append_right _ (List.mem_append_right _ (List.mem_append_left _ (List.mem_of_getElem? (i := 34) rfl))), rfl⟩
theorem uf_X0_19 : Cond.fieldLink RX0 19 "ClassMaker4$MadeClass" "file" "[B" ∈ wU := List.mem_filter.mpr ⟨List.mem_append_right _ (List.mem_append_right _ (List.mem_append_left _ (List.mem_of_getElem? (i := 35) rfl))), rfl⟩
theorem uf_X2_36 : Cond.fieldLink RX2 36 "ClassMaker4$MadeClass" "started" "Z" ∈ wU := List.mem_filter.mpr ⟨List.mem_append_right _ (List.mem_append_right _ (List.mem_append_left _ (List.mem_of_getElem? (i := 36) rfl))), rfl⟩
theorem uf_X7_92 : Cond.fieldLink RX7 92 "ClassMaker4$MadeClass" "started" "Z" ∈ wU := List.mem_filter.mpr ⟨List.mem_append_right _ (List.mem_append_right _ (List.mem_append_left _ (List.mem_of_getElem? (i := 37) rfl))), rfl⟩
theorem uf_X2_43 : Cond.fieldLink RX2 43 "ClassMaker4$MadeClass" "startFailed" "Z" ∈ wU := List.mem_filter.mpr ⟨List.mem_append_right _ (List.mem_append_right _ (List.mem_append_left _ (List.mem_of_getElem? (i := 38) rfl))), rfl⟩
theorem uf_X7_163 : Cond.fieldLink RX7 163 "ClassMaker4$MadeClass" "startFailed" "Z" ∈ wU := List.mem_filter.mpr ⟨List.mem_append_right _ (List.mem_append_right _ (List.mem_append_left _ (List.mem_of_getElem? (i := 39) rfl))), rfl⟩
theorem uf_X6_43 : Cond.fieldLink RX6 43 "ClassMaker4$MadeClass" "dropped" "Z" ∈ wU := List.mem_filter.mpr ⟨List.mem_append_right _ (List.mem_append_right _ (List.mem_append_left _ (List.mem_of_getElem? (i := 40) rfl))), rfl⟩
theorem uf_X7_170 : Cond.fieldLink RX7 170 "ClassMaker4$MadeClass" "dropped" "Z" ∈ wU := List.mem_filter.mpr ⟨List.mem_append_right _ (List.mem_append_right _ (List.mem_append_left _ (List.mem_of_getElem? (i := 41) rfl))), rfl⟩
theorem um_X6_50 : Cond.methodLink RX6 50 yX5_setLatest ∈ wU := List.mem_filter.mpr ⟨List.mem_append_right _ (List.mem_append_right _ (List.mem_append_left _ (List.mem_of_getElem? (i := 61) rfl))), rfl⟩
theorem ui_X5_setLatest : Cond.instanceMethod yX5_setLatest ∈ wU := List.mem_filter.mpr ⟨List.mem_append_right _ (List.mem_append_right _ (List.mem_append_left _ (List.mem_of_getElem? (i := 62) rfl))), rfl⟩
theorem us_X5_setLatest : Cond.selects RX5 yX5_setLatest yX5_setLatest ∈ wU := List.mem_filter.mpr ⟨List.mem_append_right _ (List.mem_append_right _ (List.mem_append_left _ (List.mem_of_getElem? (i := 63) rfl))), rfl⟩
theorem uc_X5_setLatest : Cond.code yX5_setLatest cX5_setLatest 4 none ∈ wU := List.mem_filter.mpr ⟨List.mem_append_right _ (List.mem_append_right _ (List.mem_append_left _ (List.mem_of_getElem? (i := 64) rfl))), rfl⟩
theorem um_L_51 : Cond.methodLink RL 51 yX7_run ∈ wU := List.mem_filter.mpr ⟨List.mem_append_right _ (List.mem_append_right _ (List.mem_append_left _ (List.mem_of_getElem? (i := 65) rfl))), rfl⟩
theorem ui_X7_run : Cond.instanceMethod yX7_run ∈ wU := List.mem_filter.mpr ⟨List.mem_append_right _ (List.mem_append_right _ (List.mem_append_left _ (List.mem_of_getElem? (i := 66) rfl))), rfl⟩
theorem us_X7_run : Cond.selects RX7 yX7_run yX7_run ∈ wU := List.mem_filter.mpr ⟨List.mem_append_right _ (List.mem_append_right _ (List.mem_append_left _ (List.mem_of_getElem? (i := 67) rfl))), rfl⟩
theorem uc_X7_run : Cond.code yX7_run cX7_run 6 (some .int) ∈ wU := List.mem_filter.mpr ⟨List.mem_append_right _ (List.mem_append_right _ (List.mem_append_left _ (List.mem_of_getElem? (i := 68) rfl))), rfl⟩
theorem um_X7_78 : Cond.methodLink RX7 78 yX5_latestOf ∈ wU := List.mem_filter.mpr ⟨List.mem_append_right _ (List.mem_append_right _ (List.mem_append_left _ (List.mem_of_getElem? (i := 69) rfl))), rfl⟩
theorem um_X7_82 : Cond.methodLink RX7 82 yX5_beginRun ∈ wU := List.mem_filter.mpr ⟨List.mem_append_right _ (List.mem_append_right _ (List.mem_append_left _ (List.mem_of_getElem? (i := 70) rfl))), rfl⟩
theorem ui_X5_beginRun : Cond.instanceMethod yX5_beginRun ∈ wU := List.mem_filter.mpr ⟨List.mem_append_right _ (List.mem_append_right _ (List.mem_append_left _ (List.mem_of_getElem? (i := 71) rfl))), rfl⟩
theorem us_X5_beginRun : Cond.selects RX5 yX5_beginRun yX5_beginRun ∈ wU := List.mem_filter.mpr ⟨List.mem_append_right _ (List.mem_append_right _ (List.mem_append_left _ (List.mem_of_getElem? (i := 72) rfl))), rfl⟩
theorem uc_X5_beginRun : Cond.code yX5_beginRun cX5_beginRun 1 none ∈ wU := List.mem_filter.mpr ⟨List.mem_append_right _ (List.mem_append_right _ (List.mem_append_left _ (List.mem_of_getElem? (i := 73) rfl))), rfl⟩
theorem um_X7_85 : Cond.methodLink RX7 85 yX1_enter ∈ wU := List.mem_filter.mpr ⟨List.mem_append_right _ (List.mem_append_right _ (List.mem_append_left _ (List.mem_of_getElem? (i := 74) rfl))), rfl⟩
theorem ui_X1_enter : Cond.instanceMethod yX1_enter ∈ wU := List.mem_filter.mpr ⟨List.mem_append_right _ (List.mem_append_right _ (List.mem_append_left _ (List.mem_of_getElem? (i := 75) rfl))), rfl⟩
theorem us_X1_enter : Cond.selects RX1 yX1_enter yX1_enter ∈ wU := List.mem_filter.mpr ⟨List.mem_append_right _ (List.mem_append_right _ (List.mem_append_left _ (List.mem_of_getElem? (i := 76) rfl))), rfl⟩
theorem uc_X1_enter : Cond.code yX1_enter cX1_enter 7 (some .boolean) ∈ wU := List.mem_filter.mpr ⟨List.mem_append_right _ (List.mem_append_right _ (List.mem_append_left _ (List.mem_of_getElem? (i := 77) rfl))), rfl⟩
theorem um_X1_15 : Cond.methodLink RX1 15 yX2_start ∈ wU := List.mem_filter.mpr ⟨List.mem_append_right _ (List.mem_append_right _ (List.mem_append_left _ (List.mem_of_getElem? (i := 78) rfl))), rfl⟩
theorem ui_X2_start : Cond.instanceMethod yX2_start ∈ wU := List.mem_filter.mpr ⟨List.mem_append_right _ (List.mem_append_right _ (List.mem_append_left _ (List.mem_of_getElem? (i := 79) rfl))), rfl⟩
theorem us_X2_start : Cond.selects RX2 yX2_start yX2_start ∈ wU := List.mem_filter.mpr ⟨List.mem_append_right _ (List.mem_append_right _ (List.mem_append_left _ (List.mem_of_getElem? (i := 80) rfl))), rfl⟩
theorem uc_X2_start : Cond.code yX2_start cX2_start 1 (some .boolean) ∈ wU := List.mem_filter.mpr ⟨List.mem_append_right _ (List.mem_append_right _ (List.mem_append_left _ (List.mem_of_getElem? (i := 81) rfl))), rfl⟩
theorem um_X2_46 : Cond.methodLink RX2 46 yJ7_fill_031fb ∈ wU := List.mem_filter.mpr ⟨List.mem_append_right _ (List.mem_append_right _ (List.mem_append_left _ (List.mem_of_getElem? (i := 82) rfl))), rfl⟩
theorem ust_J7_fill_031fb : Cond.static yJ7_fill_031fb ∈ wU := List.mem_filter.mpr ⟨List.mem_append_right _ (List.mem_append_right _ (List.mem_append_left _ (List.mem_of_getElem? (i := 83) rfl))), rfl⟩
theorem uc_J7_fill_031fb : Cond.code yJ7_fill_031fb cJ7_fill_031fb 4 none ∈ wU := List.mem_filter.mpr ⟨List.mem_append_right _ (List.mem_append_right _ (List.mem_append_left _ (List.mem_of_getElem? (i := 84) rfl))), rfl⟩
theorem um_X1_25 : Cond.methodLink RX1 25 yX5_abend ∈ wU := List.mem_filter.mpr ⟨List.mem_append_right _ (List.mem_append_right _ (List.mem_append_left _ (List.mem_of_getElem? (i := 85) rfl))), rfl⟩
theorem ui_X5_abend : Cond.instanceMethod yX5_abend ∈ wU := List.mem_filter.mpr ⟨List.mem_append_right _ (List.mem_append_right _ (List.mem_append_left _ (List.mem_of_getElem? (i := 86) rfl))), rfl⟩
theorem us_X5_abend : Cond.selects RX5 yX5_abend yX5_abend ∈ wU := List.mem_filter.mpr ⟨List.mem_append_right _ (List.mem_append_right _ (List.mem_append_left _ (List.mem_of_getElem? (i := 87) rfl))), rfl⟩
theorem uc_X5_abend : Cond.code yX5_abend cX5_abend 3 none ∈ wU := List.mem_filter.mpr ⟨List.mem_append_right _ (List.mem_append_right _ (List.mem_append_left _ (List.mem_of_getElem? (i := 88) rfl))), rfl⟩
theorem um_X1_31 : Cond.methodLink RX1 31 yX2_findRow ∈ wU := List.mem_filter.mpr ⟨List.mem_append_right _ (List.mem_append_right _ (List.mem_append_left _ (List.mem_of_getElem? (i := 89) rfl))), rfl⟩
theorem ui_X2_findRow : Cond.instanceMethod yX2_findRow ∈ wU := List.mem_filter.mpr ⟨List.mem_append_right _ (List.mem_append_right _ (List.mem_append_left _ (List.mem_of_getElem? (i := 90) rfl))), rfl⟩
theorem us_X2_findRow : Cond.selects RX2 yX2_findRow yX2_findRow ∈ wU := List.mem_filter.mpr ⟨List.mem_append_right _ (List.mem_append_right _ (List.mem_append_left _ (List.mem_of_getElem? (i := 91) rfl))), rfl⟩
theorem uc_X2_findRow : Cond.code yX2_findRow cX2_findRow 2 (some (.object "ClassMaker4$Row")) ∈ wU := List.mem_filter.mpr ⟨List.mem_append_right _ (List.mem_append_right _ (List.mem_append_left _ (List.mem_of_getElem? (i := 92) rfl))), rfl⟩
theorem um_X2_52 : Cond.methodLink RX2 52 yX3_findRow ∈ wU := List.mem_filter.mpr ⟨List.mem_append_right _ (List.mem_append_right _ (List.mem_append_left _ (List.mem_of_getElem? (i := 93) rfl))), rfl⟩
theorem ui_X3_findRow : Cond.instanceMethod yX3_findRow ∈ wU := List.mem_filter.mpr ⟨List.mem_append_right _ (List.mem_append_right _ (List.mem_append_left _ (List.mem_of_getElem? (i := 94) rfl))), rfl⟩
theorem us_X3_findRow : Cond.selects RX3 yX3_findRow yX3_findRow ∈ wU := List.mem_filter.mpr ⟨List.mem_append_right _ (List.mem_append_right _ (List.mem_append_left _ (List.mem_of_getElem? (i := 95) rfl))), rfl⟩
theorem uc_X3_findRow : Cond.code yX3_findRow cX3_findRow 2 (some (.object "ClassMaker4$Row")) ∈ wU := List.mem_filter.mpr ⟨List.mem_append_right _ (List.mem_append_right _ (List.mem_append_left _ (List.mem_of_getElem? (i := 96) rfl))), rfl⟩
theorem um_X1_35 : Cond.methodLink RX1 35 yX5_takeStep ∈ wU := List.mem_filter.mpr ⟨List.mem_append_right _ (List.mem_append_right _ (List.mem_append_left _ (List.mem_of_getElem? (i := 97) rfl))), rfl⟩
theorem ui_X5_takeStep : Cond.instanceMethod yX5_takeStep ∈ wU := List.mem_filter.mpr ⟨List.mem_append_right _ (List.mem_append_right _ (List.mem_append_left _ (List.mem_of_getElem? (i := 98) rfl))), rfl⟩
theorem us_X5_takeStep : Cond.selects RX5 yX5_takeStep yX5_takeStep ∈ wU := List.mem_filter.mpr ⟨List.mem_append_right _ (List.mem_append_right _ (List.mem_append_left _ (List.mem_of_getElem? (i := 99) rfl))), rfl⟩
theorem uc_X5_takeStep : Cond.code yX5_takeStep cX5_takeStep 1 (some .boolean) ∈ wU := List.mem_filter.mpr ⟨List.mem_append_right _ (List.mem_append_right _ (List.mem_append_left _ (List.mem_of_getElem? (i := 100) rfl))), rfl⟩
theorem um_X1_38 : Cond.methodLink RX1 38 yX1_follow ∈ wU := List.mem_filter.mpr ⟨List.mem_append_right _ (List.mem_append_right _ (List.mem_append_left _ (List.mem_of_getElem? (i := 101) rfl))), rfl⟩
theorem ui_X1_follow : Cond.instanceMethod yX1_follow ∈ wU := List.mem_filter.mpr ⟨List.mem_append_right _ (List.mem_append_right _ (List.mem_append_left _ (List.mem_of_getElem? (i := 103) rfl))), rfl⟩
theorem uc_X1_follow : Cond.code yX1_follow cX1_follow 7 (some .int) ∈ wU := List.mem_filter.mpr ⟨List.mem_append_right _ (List.mem_append_right _ (List.mem_append_left _ (List.mem_of_getElem? (i := 104) rfl))), rfl⟩
theorem um_X1_51 : Cond.methodLink RX1 51 yX2_valueOf ∈ wU := List.mem_filter.mpr ⟨List.mem_append_right _ (List.mem_append_right _ (List.mem_append_left _ (List.mem_of_getElem? (i := 105) rfl))), rfl⟩
theorem ui_X2_valueOf : Cond.instanceMethod yX2_valueOf ∈ wU := List.mem_filter.mpr ⟨List.mem_append_right _ (List.mem_append_right _ (List.mem_append_left _ (List.mem_of_getElem? (i := 106) rfl))), rfl⟩
theorem us_X2_valueOf : Cond.selects RX2 yX2_valueOf yX2_valueOf ∈ wU := List.mem_filter.mpr ⟨List.mem_append_right _ (List.mem_append_right _ (List.mem_append_left _ (List.mem_of_getElem? (i := 107) rfl))), rfl⟩
theorem uc_X2_valueOf : Cond.code yX2_valueOf cX2_valueOf 2 (some .int) ∈ wU := List.mem_filter.mpr ⟨List.mem_append_right _ (List.mem_append_right _ (List.mem_append_left _ (List.mem_of_getElem? (i := 108) rfl))), rfl⟩
theorem um_X2_56 : Cond.methodLink RX2 56 yX2_hasByte ∈ wU := List.mem_filter.mpr ⟨List.mem_append_right _ (List.mem_append_right _ (List.mem_append_left _ (List.mem_of_getElem? (i := 109) rfl))), rfl⟩
theorem ui_X2_hasByte : Cond.instanceMethod yX2_hasByte ∈ wU := List.mem_filter.mpr ⟨List.mem_append_right _ (List.mem_append_right _ (List.mem_append_left _ (List.mem_of_getElem? (i := 110) rfl))), rfl⟩
theorem us_X2_hasByte : Cond.selects RX2 yX2_hasByte yX2_hasByte ∈ wU := List.mem_filter.mpr ⟨List.mem_append_right _ (List.mem_append_right _ (List.mem_append_left _ (List.mem_of_getElem? (i := 111) rfl))), rfl⟩
theorem uc_X2_hasByte : Cond.code yX2_hasByte cX2_hasByte 2 (some .boolean) ∈ wU := List.mem_filter.mpr ⟨List.mem_append_right _ (List.mem_append_right _ (List.mem_append_left _ (List.mem_of_getElem? (i := 112) rfl))), rfl⟩
theorem um_X1_58 : Cond.methodLink RX1 58 yX1_callProgram ∈ wU := List.mem_filter.mpr ⟨List.mem_append_right _ (List.mem_append_right _ (List.mem_append_left _ (List.mem_of_getElem? (i := 113) rfl))), rfl⟩
theorem ui_X1_callProgram : Cond.instanceMethod yX1_callProgram ∈ wU := List.mem_filter.mpr ⟨List.mem_append_right _ (List.mem_append_right _ (List.mem_append_left _ (List.mem_of_getElem? (i := 115) rfl))), rfl⟩
theorem uc_X1_callProgram : Cond.code yX1_callProgram cX1_callProgram 6 (some .boolean) ∈ wU := List.mem_filter.mpr ⟨List.mem_append_right _ (List.mem_append_right _ (List.mem_append_left _ (List.mem_of_getElem? (i := 116) rfl))), rfl⟩
theorem um_X1_73 : Cond.methodLink RX1 73 yX6_findProgram ∈ wU := List.mem_filter.mpr ⟨List.mem_append_right _ (List.mem_append_right _ (List.mem_append_left _ (List.mem_of_getElem? (i := 117) rfl))), rfl⟩
theorem um_X1_79 : Cond.methodLink RX1 79 yX1_calledClass ∈ wU := List.mem_filter.mpr ⟨List.mem_append_right _ (List.mem_append_right _ (List.mem_append_left _ (List.mem_of_getElem? (i := 118) rfl))), rfl⟩
theorem ui_X1_calledClass : Cond.instanceMethod yX1_calledClass ∈ wU := List.mem_filter.mpr ⟨List.mem_append_right _ (List.mem_append_right _ (List.mem_append_left _ (List.mem_of_getElem? (i := 120) rfl))), rfl⟩
theorem uc_X1_calledClass : Cond.code yX1_calledClass cX1_calledClass 4 (some (.object "ClassMaker4$MadeClass")) ∈ wU := List.mem_filter.mpr ⟨List.mem_append_right _ (List.mem_append_right _ (List.mem_append_left _ (List.mem_of_getElem? (i := 121) rfl))), rfl⟩
theorem um_X1_87 : Cond.methodLink RX1 87 yX5_latestOf ∈ wU := List.mem_filter.mpr ⟨List.mem_append_right _ (List.mem_append_right _ (List.mem_append_left _ (List.mem_of_getElem? (i := 122) rfl))), rfl⟩
theorem um_X1_91 : Cond.methodLink RX1 91 yX6_classFor ∈ wU := List.mem_filter.mpr ⟨List.mem_append_right _ (List.mem_append_right _ (List.mem_append_left _ (List.mem_of_getElem? (i := 123) rfl))), rfl⟩
theorem um_X1_83 : Cond.methodLink RX1 83 yX1_enter ∈ wU := List.mem_filter.mpr ⟨List.mem_append_right _ (List.mem_append_right _ (List.mem_append_left _ (List.mem_of_getElem? (i := 124) rfl))), rfl⟩
theorem um_X1_62 : Cond.methodLink RX1 62 yX5_noteMark ∈ wU := List.mem_filter.mpr ⟨List.mem_append_right _ (List.mem_append_right _ (List.mem_append_left _ (List.mem_of_getElem? (i := 125) rfl))), rfl⟩
theorem ui_X5_noteMark : Cond.instanceMethod yX5_noteMark ∈ wU := List.mem_filter.mpr ⟨List.mem_append_right _ (List.mem_append_right _ (List.mem_append_left _ (List.mem_of_getElem? (i := 126) rfl))), rfl⟩
theorem us_X5_noteMark : Cond.selects RX5 yX5_noteMark yX5_noteMark ∈ wU := List.mem_filter.mpr ⟨List.mem_append_right _ (List.mem_append_right _ (List.mem_append_left _ (List.mem_of_getElem? (i := 127) rfl))), rfl⟩
theorem uc_X5_noteMark : Cond.code yX5_noteMark cX5_noteMark 2 none ∈ wU := List.mem_filter.mpr ⟨List.mem_append_right _ (List.mem_append_right _ (List.mem_append_left _ (List.mem_of_getElem? (i := 128) rfl))), rfl⟩
theorem um_X1_66 : Cond.methodLink RX1 66 yX5_stop ∈ wU := List.mem_filter.mpr ⟨List.mem_append_right _ (List.mem_append_right _ (List.mem_append_left _ (List.mem_of_getElem? (i := 129) rfl))), rfl⟩
theorem ui_X5_stop : Cond.instanceMethod yX5_stop ∈ wU := List.mem_filter.mpr ⟨List.mem_append_right _ (List.mem_append_right _ (List.mem_append_left _ (List.mem_of_getElem? (i := 130) rfl))), rfl⟩
theorem us_X5_stop : Cond.selects RX5 yX5_stop yX5_stop ∈ wU := List.mem_filter.mpr ⟨List.mem_append_right _ (List.mem_append_right _ (List.mem_append_left _ (List.mem_of_getElem? (i := 131) rfl))), rfl⟩
theorem uc_X5_stop : Cond.code yX5_stop cX5_stop 3 none ∈ wU := List.mem_filter.mpr ⟨List.mem_append_right _ (List.mem_append_right _ (List.mem_append_left _ (List.mem_of_getElem? (i := 132) rfl))), rfl⟩
theorem um_X1_69 : Cond.methodLink RX1 69 yX2_work ∈ wU := List.mem_filter.mpr ⟨List.mem_append_right _ (List.mem_append_right _ (List.mem_append_left _ (List.mem_of_getElem? (i := 133) rfl))), rfl⟩
theorem ui_X2_work : Cond.instanceMethod yX2_work ∈ wU := List.mem_filter.mpr ⟨List.mem_append_right _ (List.mem_append_right _ (List.mem_append_left _ (List.mem_of_getElem? (i := 134) rfl))), rfl⟩
theorem us_X2_work : Cond.selects RX2 yX2_work yX2_work ∈ wU := List.mem_filter.mpr ⟨List.mem_append_right _ (List.mem_append_right _ (List.mem_append_left _ (List.mem_of_getElem? (i := 135) rfl))), rfl⟩
theorem uc_X2_work : Cond.code yX2_work cX2_work 4 (some .int) ∈ wU := List.mem_filter.mpr ⟨List.mem_append_right _ (List.mem_append_right _ (List.mem_append_left _ (List.mem_of_getElem? (i := 136) rfl))), rfl⟩
theorem um_X2_65 : Cond.methodLink RX2 65 yX2_valueOf ∈ wU := List.mem_filter.mpr ⟨List.mem_append_right _ (List.mem_append_right _ (List.mem_append_left _ (List.mem_of_getElem? (i := 137) rfl))), rfl⟩
theorem um_X2_75 : Cond.methodLink RX2 75 yX2_setByte ∈ wU := List.mem_filter.mpr ⟨List.mem_append_right _ (List.mem_append_right _ (List.mem_append_left _ (List.mem_of_getElem? (i := 138) rfl))), rfl⟩
theorem ui_X2_setByte : Cond.instanceMethod yX2_setByte ∈ wU := List.mem_filter.mpr ⟨List.mem_append_right _ (List.mem_append_right _ (List.mem_append_left _ (List.mem_of_getElem? (i := 140) rfl))), rfl⟩
theorem uc_X2_setByte : Cond.code yX2_setByte cX2_setByte 3 (some .int) ∈ wU := List.mem_filter.mpr ⟨List.mem_append_right _ (List.mem_append_right _ (List.mem_append_left _ (List.mem_of_getElem? (i := 141) rfl))), rfl⟩
theorem um_L_64 : Cond.methodLink RL 64 yX7_raised ∈ wU := List.mem_filter.mpr ⟨List.mem_append_right _ (List.mem_append_right _ (List.mem_append_left _ (List.mem_of_getElem? (i := 142) rfl))), rfl⟩
theorem ui_X7_raised : Cond.instanceMethod yX7_raised ∈ wU := List.mem_filter.mpr ⟨List.mem_append_right _ (List.mem_append_right _ (List.mem_append_left _ (List.mem_of_getElem? (i := 143) rfl))), rfl⟩
theorem us_X7_raised : Cond.selects RX7 yX7_raised yX7_raised ∈ wU := List.mem_filter.mpr ⟨List.mem_append_right _ (List.mem_append_right _ (List.mem_append_left _ (List.mem_of_getElem? (i := 144) rfl))), rfl⟩
theorem uc_X7_raised : Cond.code yX7_raised cX7_raised 3 (some .int) ∈ wU := List.mem_filter.mpr ⟨List.mem_append_right _ (List.mem_append_right _ (List.mem_append_left _ (List.mem_of_getElem? (i := 145) rfl))), rfl⟩
theorem um_L_69 : Cond.methodLink RL 69 yX7_told ∈ wU := List.mem_filter.mpr ⟨List.mem_append_right _ (List.mem_append_right _ (List.mem_append_left _ (List.mem_of_getElem? (i := 146) rfl))), rfl⟩
theorem ui_X7_told : Cond.instanceMethod yX7_told ∈ wU := List.mem_filter.mpr ⟨List.mem_append_right _ (List.mem_append_right _ (List.mem_append_left _ (List.mem_of_getElem? (i := 147) rfl))), rfl⟩
theorem us_X7_told : Cond.selects RX7 yX7_told yX7_told ∈ wU := List.mem_filter.mpr ⟨List.mem_append_right _ (List.mem_append_right _ (List.mem_append_left _ (List.mem_of_getElem? (i := 148) rfl))), rfl⟩
theorem uc_X7_told : Cond.code yX7_told cX7_told 4 (some .int) ∈ wU := List.mem_filter.mpr ⟨List.mem_append_right _ (List.mem_append_right _ (List.mem_append_left _ (List.mem_of_getElem? (i := 149) rfl))), rfl⟩
theorem um_L_73 : Cond.methodLink RL 73 yX7_mark ∈ wU := List.mem_filter.mpr ⟨List.mem_append_right _ (List.mem_append_right _ (List.mem_append_left _ (List.mem_of_getElem? (i := 150) rfl))), rfl⟩
theorem ui_X7_mark : Cond.instanceMethod yX7_mark ∈ wU := List.mem_filter.mpr ⟨List.mem_append_right _ (List.mem_append_right _ (List.mem_append_left _ (List.mem_of_getElem? (i := 151) rfl))), rfl⟩
theorem us_X7_mark : Cond.selects RX7 yX7_mark yX7_mark ∈ wU := List.mem_filter.mpr ⟨List.mem_append_right _ (List.mem_append_right _ (List.mem_append_left _ (List.mem_of_getElem? (i := 152) rfl))), rfl⟩
theorem uc_X7_mark : Cond.code yX7_mark cX7_mark 4 (some .int) ∈ wU := List.mem_filter.mpr ⟨List.mem_append_right _ (List.mem_append_right _ (List.mem_append_left _ (List.mem_of_getElem? (i := 153) rfl))), rfl⟩
theorem um_X7_125 : Cond.methodLink RX7 125 yX5_markAt ∈ wU := List.mem_filter.mpr ⟨List.mem_append_right _ (List.mem_append_right _ (List.mem_append_left _ (List.mem_of_getElem? (i := 154) rfl))), rfl⟩
theorem ui_X5_markAt : Cond.instanceMethod yX5_markAt ∈ wU := List.mem_filter.mpr ⟨List.mem_append_right _ (List.mem_append_right _ (List.mem_append_left _ (List.mem_of_getElem? (i := 155) rfl))), rfl⟩
theorem us_X5_markAt : Cond.selects RX5 yX5_markAt yX5_markAt ∈ wU := List.mem_filter.mpr ⟨List.mem_append_right _ (List.mem_append_right _ (List.mem_append_left _ (List.mem_of_getElem? (i := 156) rfl))), rfl⟩
theorem uc_X5_markAt : Cond.code yX5_markAt cX5_markAt 2 (some .int) ∈ wU := List.mem_filter.mpr ⟨List.mem_append_right _ (List.mem_append_right _ (List.mem_append_left _ (List.mem_of_getElem? (i := 157) rfl))), rfl⟩
theorem um_L_81 : Cond.methodLink RL 81 yX7_shares ∈ wU := List.mem_filter.mpr ⟨List.mem_append_right _ (List.mem_append_right _ (List.mem_append_left _ (List.mem_of_getElem? (i := 158) rfl))), rfl⟩
theorem ui_X7_shares : Cond.instanceMethod yX7_shares ∈ wU := List.mem_filter.mpr ⟨List.mem_append_right _ (List.mem_append_right _ (List.mem_append_left _ (List.mem_of_getElem? (i := 159) rfl))), rfl⟩
theorem us_X7_shares : Cond.selects RX7 yX7_shares yX7_shares ∈ wU := List.mem_filter.mpr ⟨List.mem_append_right _ (List.mem_append_right _ (List.mem_append_left _ (List.mem_of_getElem? (i := 160) rfl))), rfl⟩
theorem uc_X7_shares : Cond.code yX7_shares cX7_shares 5 (some .boolean) ∈ wU := List.mem_filter.mpr ⟨List.mem_append_right _ (List.mem_append_right _ (List.mem_append_left _ (List.mem_of_getElem? (i := 161) rfl))), rfl⟩
theorem um_X7_141 : Cond.methodLink RX7 141 yX6_haveCommonClass ∈ wU := List.mem_filter.mpr ⟨List.mem_append_right _ (List.mem_append_right _ (List.mem_append_left _ (List.mem_of_getElem? (i := 162) rfl))), rfl⟩
theorem ui_X6_haveCommonClass : Cond.instanceMethod yX6_haveCommonClass ∈ wU := List.mem_filter.mpr ⟨List.mem_append_right _ (List.mem_append_right _ (List.mem_append_left _ (List.mem_of_getElem? (i := 163) rfl))), rfl⟩
theorem us_X6_haveCommonClass : Cond.selects RX6 yX6_haveCommonClass yX6_haveCommonClass ∈ wU := List.mem_filter.mpr ⟨List.mem_append_right _ (List.mem_append_right _ (List.mem_append_left _ (List.mem_of_getElem? (i := 164) rfl))), rfl⟩
theorem uc_X6_haveCommonClass : Cond.code yX6_haveCommonClass cX6_haveCommonClass 5 (some .boolean) ∈ wU := List.mem_filter.mpr ⟨List.mem_append_right _ (List.mem_append_right _ (List.mem_append_left _ (List.mem_of_getElem? (i := 165) rfl))), rfl⟩
theorem um_L_86 : Cond.methodLink RL 86 yX7_cancel ∈ wU := List.mem_filter.mpr ⟨List.mem_append_right _ (List.mem_append_right _ (List.mem_append_left _ (List.mem_of_getElem? (i := 166) rfl))), rfl⟩
theorem ui_X7_cancel : Cond.instanceMethod yX7_cancel ∈ wU := List.mem_filter.mpr ⟨List.mem_append_right _ (List.mem_append_right _ (List.mem_append_left _ (List.mem_of_getElem? (i := 167) rfl))), rfl⟩
theorem us_X7_cancel : Cond.selects RX7 yX7_cancel yX7_cancel ∈ wU := List.mem_filter.mpr ⟨List.mem_append_right _ (List.mem_append_right _ (List.mem_append_left _ (List.mem_of_getElem? (i := 168) rfl))), rfl⟩
theorem uc_X7_cancel : Cond.code yX7_cancel cX7_cancel 6 (some .int) ∈ wU := List.mem_filter.mpr ⟨List.mem_append_right _ (List.mem_append_right _ (List.mem_append_left _ (List.mem_of_getElem? (i := 169) rfl))), rfl⟩
theorem um_L_96 : Cond.methodLink RL 96 yX7_state ∈ wU := List.mem_filter.mpr ⟨List.mem_append_right _ (List.mem_append_right _ (List.mem_append_left _ (List.mem_of_getElem? (i := 170) rfl))), rfl⟩
theorem ui_X7_state : Cond.instanceMethod yX7_state ∈ wU := List.mem_filter.mpr ⟨List.mem_append_right _ (List.mem_append_right _ (List.mem_append_left _ (List.mem_of_getElem? (i := 171) rfl))), rfl⟩
theorem us_X7_state : Cond.selects RX7 yX7_state yX7_state ∈ wU := List.mem_filter.mpr ⟨List.mem_append_right _ (List.mem_append_right _ (List.mem_append_left _ (List.mem_of_getElem? (i := 172) rfl))), rfl⟩
theorem uc_X7_state : Cond.code yX7_state cX7_state 3 (some .int) ∈ wU := List.mem_filter.mpr ⟨List.mem_append_right _ (List.mem_append_right _ (List.mem_append_left _ (List.mem_of_getElem? (i := 173) rfl))), rfl⟩
theorem um_X7_129 : Cond.methodLink RX7 129 yX6_findClass ∈ wU := List.mem_filter.mpr ⟨List.mem_append_right _ (List.mem_append_right _ (List.mem_append_left _ (List.mem_of_getElem? (i := 174) rfl))), rfl⟩
theorem ui_X6_findClass : Cond.instanceMethod yX6_findClass ∈ wU := List.mem_filter.mpr ⟨List.mem_append_right _ (List.mem_append_right _ (List.mem_append_left _ (List.mem_of_getElem? (i := 175) rfl))), rfl⟩
theorem us_X6_findClass : Cond.selects RX6 yX6_findClass yX6_findClass ∈ wU := List.mem_filter.mpr ⟨List.mem_append_right _ (List.mem_append_right _ (List.mem_append_left _ (List.mem_of_getElem? (i := 176) rfl))), rfl⟩
theorem uc_X6_findClass : Cond.code yX6_findClass cX6_findClass 2 (some (.object "ClassMaker4$MadeClass")) ∈ wU := List.mem_filter.mpr ⟨List.mem_append_right _ (List.mem_append_right _ (List.mem_append_left _ (List.mem_of_getElem? (i := 177) rfl))), rfl⟩
theorem um_L_100 : Cond.methodLink RL 100 yX7_count ∈ wU := List.mem_filter.mpr ⟨List.mem_append_right _ (List.mem_append_right _ (List.mem_append_left _ (List.mem_of_getElem? (i := 178) rfl))), rfl⟩
theorem ui_X7_count : Cond.instanceMethod yX7_count ∈ wU := List.mem_filter.mpr ⟨List.mem_append_right _ (List.mem_append_right _ (List.mem_append_left _ (List.mem_of_getElem? (i := 179) rfl))), rfl⟩
theorem us_X7_count : Cond.selects RX7 yX7_count yX7_count ∈ wU := List.mem_filter.mpr ⟨List.mem_append_right _ (List.mem_append_right _ (List.mem_append_left _ (List.mem_of_getElem? (i := 180) rfl))), rfl⟩
theorem uc_X7_count : Cond.code yX7_count cX7_count 3 (some .int) ∈ wU := List.mem_filter.mpr ⟨List.mem_append_right _ (List.mem_append_right _ (List.mem_append_left _ (List.mem_of_getElem? (i := 181) rfl))), rfl⟩
theorem um_X7_135 : Cond.methodLink RX7 135 yX0_fileOf ∈ wU := List.mem_filter.mpr ⟨List.mem_append_right _ (List.mem_append_right _ (List.mem_append_left _ (List.mem_of_getElem? (i := 182) rfl))), rfl⟩
theorem ui_X0_fileOf : Cond.instanceMethod yX0_fileOf ∈ wU := List.mem_filter.mpr ⟨List.mem_append_right _ (List.mem_append_right _ (List.mem_append_left _ (List.mem_of_getElem? (i := 183) rfl))), rfl⟩
theorem us_X0_fileOf : Cond.selects RX0 yX0_fileOf yX0_fileOf ∈ wU := List.mem_filter.mpr ⟨List.mem_append_right _ (List.mem_append_right _ (List.mem_append_left _ (List.mem_of_getElem? (i := 184) rfl))), rfl⟩
theorem uc_X0_fileOf : Cond.code yX0_fileOf cX0_fileOf 4 (some (.array .byte)) ∈ wU := List.mem_filter.mpr ⟨List.mem_append_right _ (List.mem_append_right _ (List.mem_append_left _ (List.mem_of_getElem? (i := 185) rfl))), rfl⟩
theorem um_X0_40 : Cond.methodLink RX0 40 yX0_writeConstants ∈ wU := List.mem_filter.mpr ⟨List.mem_append_right _ (List.mem_append_right _ (List.mem_append_left _ (List.mem_of_getElem? (i := 186) rfl))), rfl⟩
theorem ui_X0_writeConstants : Cond.instanceMethod yX0_writeConstants ∈ wU := List.mem_filter.mpr ⟨List.mem_append_right _ (List.mem_append_right _ (List.mem_append_left _ (List.mem_of_getElem? (i := 188) rfl))), rfl⟩
theorem uc_X0_writeConstants : Cond.code yX0_writeConstants cX0_writeConstants 4 none ∈ wU := List.mem_filter.mpr ⟨List.mem_append_right _ (List.mem_append_right _ (List.mem_append_left _ (List.mem_of_getElem? (i := 189) rfl))), rfl⟩
theorem uk_X0_77 : Cond.constant RX0 77 (-889275714) ∈ wU := List.mem_filter.mpr ⟨List.mem_append_right _ (List.mem_append_right _ (List.mem_append_left _ (List.mem_of_getElem? (i := 190) rfl))), rfl⟩
theorem um_X0_78 : Cond.methodLink RX0 78 yX0_u4 ∈ wU := List.mem_filter.mpr ⟨List.mem_append_right _ (List.mem_append_right _ (List.mem_append_left _ (List.mem_of_getElem? (i := 191) rfl))), rfl⟩
theorem ui_X0_u4 : Cond.instanceMethod yX0_u4 ∈ wU := List.mem_filter.mpr ⟨List.mem_append_right _ (List.mem_append_right _ (List.mem_append_left _ (List.mem_of_getElem? (i := 193) rfl))), rfl⟩
theorem uc_X0_u4 : Cond.code yX0_u4 cX0_u4 2 none ∈ wU := List.mem_filter.mpr ⟨List.mem_append_right _ (List.mem_append_right _ (List.mem_append_left _ (List.mem_of_getElem? (i := 194) rfl))), rfl⟩
theorem um_X0_68 : Cond.methodLink RX0 68 yX0_u2 ∈ wU := List.mem_filter.mpr ⟨List.mem_append_right _ (List.mem_append_right _ (List.mem_append_left _ (List.mem_of_getElem? (i := 195) rfl))), rfl⟩
theorem ui_X0_u2 : Cond.instanceMethod yX0_u2 ∈ wU := List.mem_filter.mpr ⟨List.mem_append_right _ (List.mem_append_right _ (List.mem_append_left _ (List.mem_of_getElem? (i := 197) rfl))), rfl⟩
theorem uc_X0_u2 : Cond.code yX0_u2 cX0_u2 2 none ∈ wU := List.mem_filter.mpr ⟨List.mem_append_right _ (List.mem_append_right _ (List.mem_append_left _ (List.mem_of_getElem? (i := 198) rfl))), rfl⟩
theorem um_X0_126 : Cond.methodLink RX0 126 yX0_u1 ∈ wU := List.mem_filter.mpr ⟨List.mem_append_right _ (List.mem_append_right _ (List.mem_append_left _ (List.mem_of_getElem? (i := 199) rfl))), rfl⟩
theorem ui_X0_u1 : Cond.instanceMethod yX0_u1 ∈ wU := List.mem_filter.mpr ⟨List.mem_append_right _ (List.mem_append_right _ (List.mem_append_left _ (List.mem_of_getElem? (i := 201) rfl))), rfl⟩
theorem uc_X0_u1 : Cond.code yX0_u1 cX0_u1 2 none ∈ wU := List.mem_filter.mpr ⟨List.mem_append_right _ (List.mem_append_right _ (List.mem_append_left _ (List.mem_of_getElem? (i := 202) rfl))), rfl⟩
theorem um_X0_81 : Cond.methodLink RX0 81 yX0_numberedText ∈ wU := List.mem_filter.mpr ⟨List.mem_append_right _ (List.mem_append_right _ (List.mem_append_left _ (List.mem_of_getElem? (i := 203) rfl))), rfl⟩
theorem ui_X0_numberedText : Cond.instanceMethod yX0_numberedText ∈ wU := List.mem_filter.mpr ⟨List.mem_append_right _ (List.mem_append_right _ (List.mem_append_left _ (List.mem_of_getElem? (i := 205) rfl))), rfl⟩
theorem uc_X0_numberedText : Cond.code yX0_numberedText cX0_numberedText 3 none ∈ wU := List.mem_filter.mpr ⟨List.mem_append_right _ (List.mem_append_right _ (List.mem_append_left _ (List.mem_of_getElem? (i := 206) rfl))), rfl⟩
theorem um_X0_85 : Cond.methodLink RX0 85 yX0_classConstant ∈ wU := List.mem_filter.mpr ⟨List.mem_append_right _ (List.mem_append_right _ (List.mem_append_left _ (List.mem_of_getElem? (i := 207) rfl))), rfl⟩
theorem ui_X0_classConstant : Cond.instanceMethod yX0_classConstant ∈ wU := List.mem_filter.mpr ⟨List.mem_append_right _ (List.mem_append_right _ (List.mem_append_left _ (List.mem_of_getElem? (i := 209) rfl))), rfl⟩
theorem uc_X0_classConstant : Cond.code yX0_classConstant cX0_classConstant 2 none ∈ wU := List.mem_filter.mpr ⟨List.mem_append_right _ (List.mem_append_right _ (List.mem_append_left _ (List.mem_of_getElem? (i := 210) rfl))), rfl⟩
theorem um_X0_89 : Cond.methodLink RX0 89 yX0_text ∈ wU := List.mem_filter.mpr ⟨List.mem_append_right _ (List.mem_append_right _ (List.mem_append_left _ (List.mem_of_getElem? (i := 212) rfl))), rfl⟩
theorem ui_X0_text : Cond.instanceMethod yX0_text ∈ wU := List.mem_filter.mpr ⟨List.mem_append_right _ (List.mem_append_right _ (List.mem_append_left _ (List.mem_of_getElem? (i := 214) rfl))), rfl⟩
theorem uc_X0_text : Cond.code yX0_text cX0_text 3 none ∈ wU := List.mem_filter.mpr ⟨List.mem_append_right _ (List.mem_append_right _ (List.mem_append_left _ (List.mem_of_getElem? (i := 215) rfl))), rfl⟩
theorem um_X0_192 : Cond.methodLink RX0 192 yJ0_length_8abf5 ∈ wU := List.mem_filter.mpr ⟨List.mem_append_right _ (List.mem_append_right _ (List.mem_append_left _ (List.mem_of_getElem? (i := 216) rfl))), rfl⟩
theorem ui_J0_length_8abf5 : Cond.instanceMethod yJ0_length_8abf5 ∈ wU := List.mem_filter.mpr ⟨List.mem_append_right _ (List.mem_append_right _ (List.mem_append_left _ (List.mem_of_getElem? (i := 217) rfl))), rfl⟩
theorem us_J0_length_8abf5 : Cond.selects RJ0 yJ0_length_8abf5 yJ0_length_8abf5 ∈ wU := List.mem_filter.mpr ⟨List.mem_append_right _ (List.mem_append_right _ (List.mem_append_left _ (List.mem_of_getElem? (i := 218) rfl))), rfl⟩
theorem uc_J0_length_8abf5 : Cond.code yJ0_length_8abf5 cJ0_length_8abf5 1 (some .int) ∈ wU := List.mem_filter.mpr ⟨List.mem_append_right _ (List.mem_append_right _ (List.mem_append_left _ (List.mem_of_getElem? (i := 219) rfl))), rfl⟩
theorem um_J0_335 : Cond.methodLink RJ0 335 yJ0_coder_7d493 ∈ wU := List.mem_filter.mpr ⟨List.mem_append_right _ (List.mem_append_right _ (List.mem_append_left _ (List.mem_of_getElem? (i := 220) rfl))), rfl⟩
theorem ui_J0_coder_7d493 : Cond.instanceMethod yJ0_coder_7d493 ∈ wU := List.mem_filter.mpr ⟨List.mem_append_right _ (List.mem_append_right _ (List.mem_append_left _ (List.mem_of_getElem? (i := 221) rfl))), rfl⟩
theorem us_J0_coder_7d493 : Cond.selects RJ0 yJ0_coder_7d493 yJ0_coder_7d493 ∈ wU := List.mem_filter.mpr ⟨List.mem_append_right _ (List.mem_append_right _ (List.mem_append_left _ (List.mem_of_getElem? (i := 222) rfl))), rfl⟩
theorem uc_J0_coder_7d493 : Cond.code yJ0_coder_7d493 cJ0_coder_7d493 1 (some .byte) ∈ wU := List.mem_filter.mpr ⟨List.mem_append_right _ (List.mem_append_right _ (List.mem_append_left _ (List.mem_of_getElem? (i := 223) rfl))), rfl⟩
theorem uf_J0_38 : Cond.fieldLink RJ0 38 "java/lang/String" "COMPACT_STRINGS" "Z" ∈ wU := List.mem_filter.mpr ⟨List.mem_append_right _ (List.mem_append_right _ (List.mem_append_left _ (List.mem_of_getElem? (i := 224) rfl))), rfl⟩
theorem um_X0_197 : Cond.methodLink RX0 197 yJ0_charAt_5068e ∈ wU := List.mem_filter.mpr ⟨List.mem_append_right _ (List.mem_append_right _ (List.mem_append_left _ (List.mem_of_getElem? (i := 226) rfl))), rfl⟩
theorem ui_J0_charAt_5068e : Cond.instanceMethod yJ0_charAt_5068e ∈ wU := List.mem_filter.mpr ⟨List.mem_append_right _ (List.mem_append_right _ (List.mem_append_left _ (List.mem_of_getElem? (i := 227) rfl))), rfl⟩
theorem us_J0_charAt_5068e : Cond.selects RJ0 yJ0_charAt_5068e yJ0_charAt_5068e ∈ wU := List.mem_filter.mpr ⟨List.mem_append_right _ (List.mem_append_right _ (List.mem_append_left _ (List.mem_of_getElem? (i := 228) rfl))), rfl⟩
theorem uc_J0_charAt_5068e : Cond.code yJ0_charAt_5068e cJ0_charAt_5068e 2 (some .char) ∈ wU := List.mem_filter.mpr ⟨List.mem_append_right _ (List.mem_append_right _ (List.mem_append_left _ (List.mem_of_getElem? (i := 229) rfl))), rfl⟩
theorem um_J0_492 : Cond.methodLink RJ0 492 yJ0_isLatin1_aae02 ∈ wU := List.mem_filter.mpr ⟨List.mem_append_right _ (List.mem_append_right _ (List.mem_append_left _ (List.mem_of_getElem? (i := 230) rfl))), rfl⟩
theorem ui_J0_isLatin1_aae02 : Cond.instanceMethod yJ0_isLatin1_aae02 ∈ wU := List.mem_filter.mpr ⟨List.mem_append_right _ (List.mem_append_right _ (List.mem_append_left _ (List.mem_of_getElem? (i := 231) rfl))), rfl⟩
theorem us_J0_isLatin1_aae02 : Cond.selects RJ0 yJ0_isLatin1_aae02 yJ0_isLatin1_aae02 ∈ wU := List.mem_filter.mpr ⟨List.mem_append_right _ (List.mem_append_right _ (List.mem_append_left _ (List.mem_of_getElem? (i := 232) rfl))), rfl⟩
theorem uc_J0_isLatin1_aae02 : Cond.code yJ0_isLatin1_aae02 cJ0_isLatin1_aae02 1 (some .boolean) ∈ wU := List.mem_filter.mpr ⟨List.mem_append_right _ (List.mem_append_right _ (List.mem_append_left _ (List.mem_of_getElem? (i := 233) rfl))), rfl⟩
theorem um_J0_495 : Cond.methodLink RJ0 495 yJ1_charAt_3b067 ∈ wU := List.mem_filter.mpr ⟨List.mem_append_right _ (List.mem_append_right _ (List.mem_append_left _ (List.mem_of_getElem? (i := 234) rfl))), rfl⟩
theorem ust_J1_charAt_3b067 : Cond.static yJ1_charAt_3b067 ∈ wU := List.mem_filter.mpr ⟨List.mem_append_right _ (List.mem_append_right _ (List.mem_append_left _ (List.mem_of_getElem? (i := 235) rfl))), rfl⟩
theorem uc_J1_charAt_3b067 : Cond.code yJ1_charAt_3b067 cJ1_charAt_3b067 2 (some .char) ∈ wU := List.mem_filter.mpr ⟨List.mem_append_right _ (List.mem_append_right _ (List.mem_append_left _ (List.mem_of_getElem? (i := 236) rfl))), rfl⟩
theorem um_J1_9 : Cond.methodLink RJ1 9 yJ0_checkIndex_df160 ∈ wU := List.mem_filter.mpr ⟨List.mem_append_right _ (List.mem_append_right _ (List.mem_append_left _ (List.mem_of_getElem? (i := 237) rfl))), rfl⟩
theorem ust_J0_checkIndex_df160 : Cond.static yJ0_checkIndex_df160 ∈ wU := List.mem_filter.mpr ⟨List.mem_append_right _ (List.mem_append_right _ (List.mem_append_left _ (List.mem_of_getElem? (i := 238) rfl))), rfl⟩
theorem uc_J0_checkIndex_df160 : Cond.code yJ0_checkIndex_df160 cJ0_checkIndex_df160 2 none ∈ wU := List.mem_filter.mpr ⟨List.mem_append_right _ (List.mem_append_right _ (List.mem_append_left _ (List.mem_of_getElem? (i := 239) rfl))), rfl⟩
theorem uf_J0_1053 : Cond.fieldLink RJ0 1053 "jdk/internal/util/Preconditions" "SIOOBE_FORMATTER" "Ljava/util/function/BiFunction;" ∈ wU := List.mem_filter.mpr ⟨List.mem_append_right _ (List.mem_append_right _ (List.mem_append_right _ (List.mem_append_left _ (List.mem_of_getElem? (i := 0) rfl)))), rfl⟩
theorem um_J0_1059 : Cond.methodLink RJ0 1059 yJ3_checkIndex_8e157 ∈ wU := List.mem_filter.mpr ⟨List.mem_append_right _ (List.mem_append_right _ (List.mem_append_right _ (List.mem_append_left _ (List.mem_of_getElem? (i := 2) rfl)))), rfl⟩
theorem ust_J3_checkIndex_8e157 : Cond.static yJ3_checkIndex_8e157 ∈ wU := List.mem_filter.mpr ⟨List.mem_append_right _ (List.mem_append_right _ (List.mem_append_right _ (List.mem_append_left _ (List.mem_of_getElem? (i := 3) rfl)))), rfl⟩
theorem uc_J3_checkIndex_8e157 : Cond.code yJ3_checkIndex_8e157 cJ3_checkIndex_8e157 3 (some .int) ∈ wU := List.mem_filter.mpr ⟨List.mem_append_right _ (List.mem_append_right _ (List.mem_append_right _ (List.mem_append_left _ (List.mem_of_getElem? (i := 4) rfl)))), rfl⟩
theorem um_J0_498 : Cond.methodLink RJ0 498 yJ2_charAt_3b067 ∈ wU := List.mem_filter.mpr ⟨List.mem_append_right _ (List.mem_append_right _ (List.mem_append_right _ (List.mem_append_left _ (List.mem_of_getElem? (i := 5) rfl)))), rfl⟩
theorem ust_J2_charAt_3b067 : Cond.static yJ2_charAt_3b067 ∈ wU := List.mem_filter.mpr ⟨List.mem_append_right _ (List.mem_append_right _ (List.mem_append_right _ (List.mem_append_left _ (List.mem_of_getElem? (i := 6) rfl)))), rfl⟩
theorem uc_J2_charAt_3b067 : Cond.code yJ2_charAt_3b067 cJ2_charAt_3b067 2 (some .char) ∈ wU := List.mem_filter.mpr ⟨List.mem_append_right _ (List.mem_append_right _ (List.mem_append_right _ (List.mem_append_left _ (List.mem_of_getElem? (i := 7) rfl)))), rfl⟩
theorem um_J2_67 : Cond.methodLink RJ2 67 yJ2_checkIndex_2214a ∈ wU := List.mem_filter.mpr ⟨List.mem_append_right _ (List.mem_append_right _ (List.mem_append_right _ (List.mem_append_left _ (List.mem_of_getElem? (i := 8) rfl)))), rfl⟩
theorem ust_J2_checkIndex_2214a : Cond.static yJ2_checkIndex_2214a ∈ wU := List.mem_filter.mpr ⟨List.mem_append_right _ (List.mem_append_right _ (List.mem_append_right _ (List.mem_append_left _ (List.mem_of_getElem? (i := 9) rfl)))), rfl⟩
theorem uc_J2_checkIndex_2214a : Cond.code yJ2_checkIndex_2214a cJ2_checkIndex_2214a 2 none ∈ wU := List.mem_filter.mpr ⟨List.mem_append_right _ (List.mem_append_right _ (List.mem_append_right _ (List.mem_append_left _ (List.mem_of_getElem? (i := 10) rfl)))), rfl⟩
theorem um_J2_48 : Cond.methodLink RJ2 48 yJ2_length_9d52b ∈ wU := List.mem_filter.mpr ⟨List.mem_append_right _ (List.mem_append_right _ (List.mem_append_right _ (List.mem_append_left _ (List.mem_of_getElem? (i := 11) rfl)))), rfl⟩
theorem ust_J2_length_9d52b : Cond.static yJ2_length_9d52b ∈ wU := List.mem_filter.mpr ⟨List.mem_append_right _ (List.mem_append_right _ (List.mem_append_right _ (List.mem_append_left _ (List.mem_of_getElem? (i := 12) rfl)))), rfl⟩
theorem uc_J2_length_9d52b : Cond.code yJ2_length_9d52b cJ2_length_9d52b 1 (some .int) ∈ wU := List.mem_filter.mpr ⟨List.mem_append_right _ (List.mem_append_right _ (List.mem_append_right _ (List.mem_append_left _ (List.mem_of_getElem? (i := 13) rfl)))), rfl⟩
theorem um_J2_414 : Cond.methodLink RJ2 414 yJ0_checkIndex_df160 ∈ wU := List.mem_filter.mpr ⟨List.mem_append_right _ (List.mem_append_right _ (List.mem_append_right _ (List.mem_append_left _ (List.mem_of_getElem? (i := 14) rfl)))), rfl⟩
theorem um_J2_71 : Cond.methodLink RJ2 71 yJ2_getChar_3b067 ∈ wU := List.mem_filter.mpr ⟨List.mem_append_right _ (List.mem_append_right _ (List.mem_append_right _ (List.mem_append_left _ (List.mem_of_getElem? (i := 15) rfl)))), rfl⟩
theorem ust_J2_getChar_3b067 : Cond.static yJ2_getChar_3b067 ∈ wU := List.mem_filter.mpr ⟨List.mem_append_right _ (List.mem_append_right _ (List.mem_append_right _ (List.mem_append_left _ (List.mem_of_getElem? (i := 16) rfl)))), rfl⟩
theorem uc_J2_getChar_3b067 : Cond.code yJ2_getChar_3b067 cJ2_getChar_3b067 2 (some .char) ∈ wU := List.mem_filter.mpr ⟨List.mem_append_right _ (List.mem_append_right _ (List.mem_append_right _ (List.mem_append_left _ (List.mem_of_getElem? (i := 17) rfl)))), rfl⟩
theorem uf_J2_44 : Cond.fieldLink RJ2 44 "java/lang/StringUTF16" "$assertionsDisabled" "Z" ∈ wU := List.mem_filter.mpr ⟨List.mem_append_right _ (List.mem_append_right _ (List.mem_append_right _ (List.mem_append_left _ (List.mem_of_getElem? (i := 18) rfl)))), rfl⟩
theorem uf_J2_59 : Cond.fieldLink RJ2 59 "java/lang/StringUTF16" "HI_BYTE_SHIFT" "I" ∈ wU := List.mem_filter.mpr ⟨List.mem_append_right _ (List.mem_append_right _ (List.mem_append_right _ (List.mem_append_left _ (List.mem_of_getElem? (i := 20) rfl)))), rfl⟩
theorem uf_J2_63 : Cond.fieldLink RJ2 63 "java/lang/StringUTF16" "LO_BYTE_SHIFT" "I" ∈ wU := List.mem_filter.mpr ⟨List.mem_append_right _ (List.mem_append_right _ (List.mem_append_right _ (List.mem_append_left _ (List.mem_of_getElem? (i := 22) rfl)))), rfl⟩
theorem um_X0_96 : Cond.methodLink RX0 96 yX0_pair ∈ wU := List.mem_filter.mpr ⟨List.mem_append_right _ (List.mem_append_right _ (List.mem_append_right _ (List.mem_append_left _ (List.mem_of_getElem? (i := 26) rfl)))), rfl⟩
theorem ui_X0_pair : Cond.instanceMethod yX0_pair ∈ wU := List.mem_filter.mpr ⟨List.mem_append_right _ (List.mem_append_right _ (List.mem_append_right _ (List.mem_append_left _ (List.mem_of_getElem? (i := 28) rfl)))), rfl⟩
theorem uc_X0_pair : Cond.code yX0_pair cX0_pair 4 none ∈ wU := List.mem_filter.mpr ⟨List.mem_append_right _ (List.mem_append_right _ (List.mem_append_right _ (List.mem_append_left _ (List.mem_of_getElem? (i := 29) rfl)))), rfl⟩
theorem um_X0_44 : Cond.methodLink RX0 44 yX0_writeFace ∈ wU := List.mem_filter.mpr ⟨List.mem_append_right _ (List.mem_append_right _ (List.mem_append_right _ (List.mem_append_left _ (List.mem_of_getElem? (i := 40) rfl)))), rfl⟩
theorem ui_X0_writeFace : Cond.instanceMethod yX0_writeFace ∈ wU := List.mem_filter.mpr ⟨List.mem_append_right _ (List.mem_append_right _ (List.mem_append_right _ (List.mem_append_left _ (List.mem_of_getElem? (i := 42) rfl)))), rfl⟩
theorem uc_X0_writeFace : Cond.code yX0_writeFace cX0_writeFace 2 none ∈ wU := List.mem_filter.mpr ⟨List.mem_append_right _ (List.mem_append_right _ (List.mem_append_right _ (List.mem_append_left _ (List.mem_of_getElem? (i := 43) rfl)))), rfl⟩
theorem um_X0_48 : Cond.methodLink RX0 48 yX0_writeStart ∈ wU := List.mem_filter.mpr ⟨List.mem_append_right _ (List.mem_append_right _ (List.mem_append_right _ (List.mem_append_left _ (List.mem_of_getElem? (i := 44) rfl)))), rfl⟩
theorem ui_X0_writeStart : Cond.instanceMethod yX0_writeStart ∈ wU := List.mem_filter.mpr ⟨List.mem_append_right _ (List.mem_append_right _ (List.mem_append_right _ (List.mem_append_left _ (List.mem_of_getElem? (i := 46) rfl)))), rfl⟩
theorem uc_X0_writeStart : Cond.code yX0_writeStart cX0_writeStart 3 none ∈ wU := List.mem_filter.mpr ⟨List.mem_append_right _ (List.mem_append_right _ (List.mem_append_right _ (List.mem_append_left _ (List.mem_of_getElem? (i := 47) rfl)))), rfl⟩
theorem um_X0_122 : Cond.methodLink RX0 122 yX0_methodHead ∈ wU := List.mem_filter.mpr ⟨List.mem_append_right _ (List.mem_append_right _ (List.mem_append_right _ (List.mem_append_left _ (List.mem_of_getElem? (i := 48) rfl)))), rfl⟩
theorem ui_X0_methodHead : Cond.instanceMethod yX0_methodHead ∈ wU := List.mem_filter.mpr ⟨List.mem_append_right _ (List.mem_append_right _ (List.mem_append_right _ (List.mem_append_left _ (List.mem_of_getElem? (i := 50) rfl)))), rfl⟩
theorem uc_X0_methodHead : Cond.code yX0_methodHead cX0_methodHead 6 none ∈ wU := List.mem_filter.mpr ⟨List.mem_append_right _ (List.mem_append_right _ (List.mem_append_right _ (List.mem_append_left _ (List.mem_of_getElem? (i := 51) rfl)))), rfl⟩
theorem um_X0_131 : Cond.methodLink RX0 131 yX0_push ∈ wU := List.mem_filter.mpr ⟨List.mem_append_right _ (List.mem_append_right _ (List.mem_append_right _ (List.mem_append_left _ (List.mem_of_getElem? (i := 52) rfl)))), rfl⟩
theorem ui_X0_push : Cond.instanceMethod yX0_push ∈ wU := List.mem_filter.mpr ⟨List.mem_append_right _ (List.mem_append_right _ (List.mem_append_right _ (List.mem_append_left _ (List.mem_of_getElem? (i := 54) rfl)))), rfl⟩
theorem uc_X0_push : Cond.code yX0_push cX0_push 2 none ∈ wU := List.mem_filter.mpr ⟨List.mem_append_right _ (List.mem_append_right _ (List.mem_append_right _ (List.mem_append_left _ (List.mem_of_getElem? (i := 55) rfl)))), rfl⟩
theorem um_X0_134 : Cond.methodLink RX0 134 yX0_withIndex ∈ wU := List.mem_filter.mpr ⟨List.mem_append_right _ (List.mem_append_right _ (List.mem_append_right _ (List.mem_append_left _ (List.mem_of_getElem? (i := 56) rfl)))), rfl⟩
theorem ui_X0_withIndex : Cond.instanceMethod yX0_withIndex ∈ wU := List.mem_filter.mpr ⟨List.mem_append_right _ (List.mem_append_right _ (List.mem_append_right _ (List.mem_append_left _ (List.mem_of_getElem? (i := 58) rfl)))), rfl⟩
theorem uc_X0_withIndex : Cond.code yX0_withIndex cX0_withIndex 3 none ∈ wU := List.mem_filter.mpr ⟨List.mem_append_right _ (List.mem_append_right _ (List.mem_append_right _ (List.mem_append_left _ (List.mem_of_getElem? (i := 59) rfl)))), rfl⟩
theorem um_X0_137 : Cond.methodLink RX0 137 yX0_methodEnd ∈ wU := List.mem_filter.mpr ⟨List.mem_append_right _ (List.mem_append_right _ (List.mem_append_right _ (List.mem_append_left _ (List.mem_of_getElem? (i := 60) rfl)))), rfl⟩
theorem ui_X0_methodEnd : Cond.instanceMethod yX0_methodEnd ∈ wU := List.mem_filter.mpr ⟨List.mem_append_right _ (List.mem_append_right _ (List.mem_append_right _ (List.mem_append_left _ (List.mem_of_getElem? (i := 62) rfl)))), rfl⟩
theorem uc_X0_methodEnd : Cond.code yX0_methodEnd cX0_methodEnd 1 none ∈ wU := List.mem_filter.mpr ⟨List.mem_append_right _ (List.mem_append_right _ (List.mem_append_right _ (List.mem_append_left _ (List.mem_of_getElem? (i := 63) rfl)))), rfl⟩
theorem um_X0_55 : Cond.methodLink RX0 55 yJ9_min_7cf53 ∈ wU := List.mem_filter.mpr ⟨List.mem_append_right _ (List.mem_append_right _ (List.mem_append_right _ (List.mem_append_left _ (List.mem_of_getElem? (i := 64) rfl)))), rfl⟩
theorem ust_J9_min_7cf53 : Cond.static yJ9_min_7cf53 ∈ wU := List.mem_filter.mpr ⟨List.mem_append_right _ (List.mem_append_right _ (List.mem_append_right _ (List.mem_append_left _ (List.mem_of_getElem? (i := 65) rfl)))), rfl⟩
theorem uc_J9_min_7cf53 : Cond.code yJ9_min_7cf53 cJ9_min_7cf53 2 (some .int) ∈ wU := List.mem_filter.mpr ⟨List.mem_append_right _ (List.mem_append_right _ (List.mem_append_right _ (List.mem_append_left _ (List.mem_of_getElem? (i := 66) rfl)))), rfl⟩
theorem um_X0_64 : Cond.methodLink RX0 64 yX0_writeMember ∈ wU := List.mem_filter.mpr ⟨List.mem_append_right _ (List.mem_append_right _ (List.mem_append_right _ (List.mem_append_left _ (List.mem_of_getElem? (i := 67) rfl)))), rfl⟩
theorem ui_X0_writeMember : Cond.instanceMethod yX0_writeMember ∈ wU := List.mem_filter.mpr ⟨List.mem_append_right _ (List.mem_append_right _ (List.mem_append_right _ (List.mem_append_left _ (List.mem_of_getElem? (i := 69) rfl)))), rfl⟩
theorem uc_X0_writeMember : Cond.code yX0_writeMember cX0_writeMember 7 none ∈ wU := List.mem_filter.mpr ⟨List.mem_append_right _ (List.mem_append_right _ (List.mem_append_right _ (List.mem_append_left _ (List.mem_of_getElem? (i := 70) rfl)))), rfl⟩
theorem um_X0_140 : Cond.methodLink RX0 140 yX0_layOutRows ∈ wU := List.mem_filter.mpr ⟨List.mem_append_right _ (List.mem_append_right _ (List.mem_append_right _ (List.mem_append_left _ (List.mem_of_getElem? (i := 71) rfl)))), rfl⟩
theorem ui_X0_layOutRows : Cond.instanceMethod yX0_layOutRows ∈ wU := List.mem_filter.mpr ⟨List.mem_append_right _ (List.mem_append_right _ (List.mem_append_right _ (List.mem_append_left _ (List.mem_of_getElem? (i := 73) rfl)))), rfl⟩
theorem uc_X0_layOutRows : Cond.code yX0_layOutRows cX0_layOutRows 6 (some .int) ∈ wU := List.mem_filter.mpr ⟨List.mem_append_right _ (List.mem_append_right _ (List.mem_append_right _ (List.mem_append_left _ (List.mem_of_getElem? (i := 74) rfl)))), rfl⟩
theorem um_X0_144 : Cond.methodLink RX0 144 yX3_findRow ∈ wU := List.mem_filter.mpr ⟨List.mem_append_right _ (List.mem_append_right _ (List.mem_append_right _ (List.mem_append_left _ (List.mem_of_getElem? (i := 75) rfl)))), rfl⟩
theorem um_X0_152 : Cond.methodLink RX0 152 yX0_lengthOf ∈ wU := List.mem_filter.mpr ⟨List.mem_append_right _ (List.mem_append_right _ (List.mem_append_right _ (List.mem_append_left _ (List.mem_of_getElem? (i := 76) rfl)))), rfl⟩
theorem ui_X0_lengthOf : Cond.instanceMethod yX0_lengthOf ∈ wU := List.mem_filter.mpr ⟨List.mem_append_right _ (List.mem_append_right _ (List.mem_append_right _ (List.mem_append_left _ (List.mem_of_getElem? (i := 78) rfl)))), rfl⟩
theorem uc_X0_lengthOf : Cond.code yX0_lengthOf cX0_lengthOf 4 (some .int) ∈ wU := List.mem_filter.mpr ⟨List.mem_append_right _ (List.mem_append_right _ (List.mem_append_right _ (List.mem_append_left _ (List.mem_of_getElem? (i := 79) rfl)))), rfl⟩
theorem uf_X0_161 : Cond.fieldLink RX0 161 "ClassMaker4$FileMaker" "ROW_LENGTHS" "[I" ∈ wU := List.mem_filter.mpr ⟨List.mem_append_right _ (List.mem_append_right _ (List.mem_append_right _ (List.mem_append_left _ (List.mem_of_getElem? (i := 80) rfl)))), rfl⟩
theorem um_X0_167 : Cond.methodLink RX0 167 yX0_jumpLength ∈ wU := List.mem_filter.mpr ⟨List.mem_append_right _ (List.mem_append_right _ (List.mem_append_right _ (List.mem_append_left _ (List.mem_of_getElem? (i := 82) rfl)))), rfl⟩
theorem ui_X0_jumpLength : Cond.instanceMethod yX0_jumpLength ∈ wU := List.mem_filter.mpr ⟨List.mem_append_right _ (List.mem_append_right _ (List.mem_append_right _ (List.mem_append_left _ (List.mem_of_getElem? (i := 84) rfl)))), rfl⟩
theorem uc_X0_jumpLength : Cond.code yX0_jumpLength cX0_jumpLength 2 (some .int) ∈ wU := List.mem_filter.mpr ⟨List.mem_append_right _ (List.mem_append_right _ (List.mem_append_right _ (List.mem_append_left _ (List.mem_of_getElem? (i := 85) rfl)))), rfl⟩
theorem um_X0_170 : Cond.methodLink RX0 170 yX0_isInside ∈ wU := List.mem_filter.mpr ⟨List.mem_append_right _ (List.mem_append_right _ (List.mem_append_right _ (List.mem_append_left _ (List.mem_of_getElem? (i := 86) rfl)))), rfl⟩
theorem ui_X0_isInside : Cond.instanceMethod yX0_isInside ∈ wU := List.mem_filter.mpr ⟨List.mem_append_right _ (List.mem_append_right _ (List.mem_append_right _ (List.mem_append_left _ (List.mem_of_getElem? (i := 88) rfl)))), rfl⟩
theorem uc_X0_isInside : Cond.code yX0_isInside cX0_isInside 2 (some .boolean) ∈ wU := List.mem_filter.mpr ⟨List.mem_append_right _ (List.mem_append_right _ (List.mem_append_right _ (List.mem_append_left _ (List.mem_of_getElem? (i := 89) rfl)))), rfl⟩
theorem um_X0_148 : Cond.methodLink RX0 148 yX0_writeRow ∈ wU := List.mem_filter.mpr ⟨List.mem_append_right _ (List.mem_append_right _ (List.mem_append_right _ (List.mem_append_left _ (List.mem_of_getElem? (i := 90) rfl)))), rfl⟩
theorem ui_X0_writeRow : Cond.instanceMethod yX0_writeRow ∈ wU := List.mem_filter.mpr ⟨List.mem_append_right _ (List.mem_append_right _ (List.mem_append_right _ (List.mem_append_left _ (List.mem_of_getElem? (i := 92) rfl)))), rfl⟩
theorem uc_X0_writeRow : Cond.code yX0_writeRow cX0_writeRow 3 none ∈ wU := List.mem_filter.mpr ⟨List.mem_append_right _ (List.mem_append_right _ (List.mem_append_right _ (List.mem_append_left _ (List.mem_of_getElem? (i := 93) rfl)))), rfl⟩
theorem um_X0_177 : Cond.methodLink RX0 177 yX0_address ∈ wU := List.mem_filter.mpr ⟨List.mem_append_right _ (List.mem_append_right _ (List.mem_append_right _ (List.mem_append_left _ (List.mem_of_getElem? (i := 94) rfl)))), rfl⟩
theorem ui_X0_address : Cond.instanceMethod yX0_address ∈ wU := List.mem_filter.mpr ⟨List.mem_append_right _ (List.mem_append_right _ (List.mem_append_right _ (List.mem_append_left _ (List.mem_of_getElem? (i := 96) rfl)))), rfl⟩
theorem uc_X0_address : Cond.code yX0_address cX0_address 2 none ∈ wU := List.mem_filter.mpr ⟨List.mem_append_right _ (List.mem_append_right _ (List.mem_append_right _ (List.mem_append_left _ (List.mem_of_getElem? (i := 97) rfl)))), rfl⟩
theorem um_X0_180 : Cond.methodLink RX0 180 yX0_load ∈ wU := List.mem_filter.mpr ⟨List.mem_append_right _ (List.mem_append_right _ (List.mem_append_right _ (List.mem_append_left _ (List.mem_of_getElem? (i := 98) rfl)))), rfl⟩
theorem ui_X0_load : Cond.instanceMethod yX0_load ∈ wU := List.mem_filter.mpr ⟨List.mem_append_right _ (List.mem_append_right _ (List.mem_append_right _ (List.mem_append_left _ (List.mem_of_getElem? (i := 100) rfl)))), rfl⟩
theorem uc_X0_load : Cond.code yX0_load cX0_load 2 none ∈ wU := List.mem_filter.mpr ⟨List.mem_append_right _ (List.mem_append_right _ (List.mem_append_right _ (List.mem_append_left _ (List.mem_of_getElem? (i := 101) rfl)))), rfl⟩
theorem um_X0_183 : Cond.methodLink RX0 183 yX0_jump ∈ wU := List.mem_filter.mpr ⟨List.mem_append_right _ (List.mem_append_right _ (List.mem_append_right _ (List.mem_append_left _ (List.mem_of_getElem? (i := 102) rfl)))), rfl⟩
theorem ui_X0_jump : Cond.instanceMethod yX0_jump ∈ wU := List.mem_filter.mpr ⟨List.mem_append_right _ (List.mem_append_right _ (List.mem_append_right _ (List.mem_append_left _ (List.mem_of_getElem? (i := 104) rfl)))), rfl⟩
theorem uc_X0_jump : Cond.code yX0_jump cX0_jump 4 none ∈ wU := List.mem_filter.mpr ⟨List.mem_append_right _ (List.mem_append_right _ (List.mem_append_right _ (List.mem_append_left _ (List.mem_of_getElem? (i := 105) rfl)))), rfl⟩
theorem um_X0_186 : Cond.methodLink RX0 186 yX0_hand ∈ wU := List.mem_filter.mpr ⟨List.mem_append_right _ (List.mem_append_right _ (List.mem_append_right _ (List.mem_append_left _ (List.mem_of_getElem? (i := 106) rfl)))), rfl⟩
theorem ui_X0_hand : Cond.instanceMethod yX0_hand ∈ wU := List.mem_filter.mpr ⟨List.mem_append_right _ (List.mem_append_right _ (List.mem_append_right _ (List.mem_append_left _ (List.mem_of_getElem? (i := 108) rfl)))), rfl⟩
theorem uc_X0_hand : Cond.code yX0_hand cX0_hand 3 none ∈ wU := List.mem_filter.mpr ⟨List.mem_append_right _ (List.mem_append_right _ (List.mem_append_right _ (List.mem_append_left _ (List.mem_of_getElem? (i := 109) rfl)))), rfl⟩
theorem um_X0_189 : Cond.methodLink RX0 189 yX0_arithmeticOf ∈ wU := List.mem_filter.mpr ⟨List.mem_append_right _ (List.mem_append_right _ (List.mem_append_right _ (List.mem_append_left _ (List.mem_of_getElem? (i := 110) rfl)))), rfl⟩
theorem ui_X0_arithmeticOf : Cond.instanceMethod yX0_arithmeticOf ∈ wU := List.mem_filter.mpr ⟨List.mem_append_right _ (List.mem_append_right _ (List.mem_append_right _ (List.mem_append_left _ (List.mem_of_getElem? (i := 112) rfl)))), rfl⟩
theorem uc_X0_arithmeticOf : Cond.code yX0_arithmeticOf cX0_arithmeticOf 2 (some .int) ∈ wU := List.mem_filter.mpr ⟨List.mem_append_right _ (List.mem_append_right _ (List.mem_append_right _ (List.mem_append_left _ (List.mem_of_getElem? (i := 113) rfl)))), rfl⟩
theorem um_X0_71 : Cond.methodLink RX0 71 yJ7_copyOf_9075b ∈ wU := List.mem_filter.mpr ⟨List.mem_append_right _ (List.mem_append_right _ (List.mem_append_right _ (List.mem_append_left _ (List.mem_of_getElem? (i := 114) rfl)))), rfl⟩
theorem ust_J7_copyOf_9075b : Cond.static yJ7_copyOf_9075b ∈ wU := List.mem_filter.mpr ⟨List.mem_append_right _ (List.mem_append_right _ (List.mem_append_right _ (List.mem_append_left _ (List.mem_of_getElem? (i := 115) rfl)))), rfl⟩
theorem uc_J7_copyOf_9075b : Cond.code yJ7_copyOf_9075b cJ7_copyOf_9075b 3 (some (.array .byte)) ∈ wU := List.mem_filter.mpr ⟨List.mem_append_right _ (List.mem_append_right _ (List.mem_append_right _ (List.mem_append_left _ (List.mem_of_getElem? (i := 116) rfl)))), rfl⟩
theorem ul_J7_311 : Cond.classLink RJ7 311 "[B" ∈ wU := List.mem_filter.mpr ⟨List.mem_append_right _ (List.mem_append_right _ (List.mem_append_right _ (List.mem_append_left _ (List.mem_of_getElem? (i := 123) rfl)))), rfl⟩
theorem um_J7_304 : Cond.methodLink RJ7 304 yJ9_min_7cf53 ∈ wU := List.mem_filter.mpr ⟨List.mem_append_right _ (List.mem_append_right _ (List.mem_append_right _ (List.mem_append_left _ (List.mem_of_getElem? (i := 124) rfl)))), rfl⟩
theorem um_L_55 : Cond.methodLink RL 55 yL_at ∈ wU := List.mem_filter.mpr ⟨List.mem_append_right _ (List.mem_append_right _ (List.mem_append_right _ (List.mem_append_left _ (List.mem_of_getElem? (i := 128) rfl)))), rfl⟩
theorem ust_L_at : Cond.static yL_at ∈ wU := List.mem_filter.mpr ⟨List.mem_append_right _ (List.mem_append_right _ (List.mem_append_right _ (List.mem_append_left _ (List.mem_of_getElem? (i := 129) rfl)))), rfl⟩
theorem ul_L_13 : Cond.classLink RL 13 RJx00060 ∈ wU := List.mem_filter.mpr ⟨List.mem_append_right _ (List.mem_append_right _ (List.mem_append_right _ (List.mem_append_left _ (List.mem_of_getElem? (i := 131) rfl)))), rfl⟩
theorem um_L_7 : Cond.methodLink RL 7 yX7_at ∈ wU := List.mem_filter.mpr ⟨List.mem_append_right _ (List.mem_append_right _ (List.mem_append_right _ (List.mem_append_left _ (List.mem_of_getElem? (i := 132) rfl)))), rfl⟩
theorem ui_X7_at : Cond.instanceMethod yX7_at ∈ wU := List.mem_filter.mpr ⟨List.mem_append_right _ (List.mem_append_right _ (List.mem_append_right _ (List.mem_append_left _ (List.mem_of_getElem? (i := 133) rfl)))), rfl⟩
theorem us_X7_at : Cond.selects RX7 yX7_at yX7_at ∈ wU := List.mem_filter.mpr ⟨List.mem_append_right _ (List.mem_append_right _ (List.mem_append_right _ (List.mem_append_left _ (List.mem_of_getElem? (i := 134) rfl)))), rfl⟩
theorem uc_X7_at : Cond.code yX7_at cX7_at 7 (some .byte) ∈ wU := List.mem_filter.mpr ⟨List.mem_append_right _ (List.mem_append_right _ (List.mem_append_right _ (List.mem_append_left _ (List.mem_of_getElem? (i := 135) rfl)))), rfl⟩
theorem um_X7_95 : Cond.methodLink RX7 95 yX2_hasByte ∈ wU := List.mem_filter.mpr ⟨List.mem_append_right _ (List.mem_append_right _ (List.mem_append_right _ (List.mem_append_left _ (List.mem_of_getElem? (i := 136) rfl)))), rfl⟩
theorem ul_X7_99 : Cond.classLink RX7 99 RJx00060 ∈ wU := List.mem_filter.mpr ⟨List.mem_append_right _ (List.mem_append_right _ (List.mem_append_right _ (List.mem_append_left _ (List.mem_of_getElem? (i := 137) rfl)))), rfl⟩
theorem ut_Jx00060 : Cond.instantiable RJx00060 6 ∈ wU := List.mem_filter.mpr ⟨List.mem_append_right _ (List.mem_append_right _ (List.mem_append_right _ (List.mem_append_left _ (List.mem_of_getElem? (i := 138) rfl)))), rfl⟩
theorem um_X7_103 : Cond.methodLink RX7 103 yJx00060_init_a7421 ∈ wU := List.mem_filter.mpr ⟨List.mem_append_right _ (List.mem_append_right _ (List.mem_append_right _ (List.mem_append_left _ (List.mem_of_getElem? (i := 181) rfl)))), rfl⟩
theorem ui_Jx00060_init_a7421 : Cond.instanceMethod yJx00060_init_a7421 ∈ wU := List.mem_filter.mpr ⟨List.mem_append_right _ (List.mem_append_right _ (List.mem_append_right _ (List.mem_append_left _ (List.mem_of_getElem? (i := 182) rfl)))), rfl⟩
theorem uc_Jx00060_init_a7421 : Cond.code yJx00060_init_a7421 cJx00060_init_a7421 2 none ∈ wU := List.mem_filter.mpr ⟨List.mem_append_right _ (List.mem_append_right _ (List.mem_append_right _ (List.mem_append_left _ (List.mem_of_getElem? (i := 183) rfl)))), rfl⟩
theorem um_L_77 : Cond.methodLink RL 77 yL_octet ∈ wU := List.mem_filter.mpr ⟨List.mem_append_right _ (List.mem_append_right _ (List.mem_append_right _ (List.mem_append_left _ (List.mem_of_getElem? (i := 209) rfl)))), rfl⟩
theorem ust_L_octet : Cond.static yL_octet ∈ wU := List.mem_filter.mpr ⟨List.mem_append_right _ (List.mem_append_right _ (List.mem_append_right _ (List.mem_append_left _ (List.mem_of_getElem? (i := 210) rfl)))), rfl⟩
theorem um_L_15 : Cond.methodLink RL 15 yX7_octet ∈ wU := List.mem_filter.mpr ⟨List.mem_append_right _ (List.mem_append_right _ (List.mem_append_right _ (List.mem_append_left _ (List.mem_of_getElem? (i := 212) rfl)))), rfl⟩
theorem ui_X7_octet : Cond.instanceMethod yX7_octet ∈ wU := List.mem_filter.mpr ⟨List.mem_append_right _ (List.mem_append_right _ (List.mem_append_right _ (List.mem_append_left _ (List.mem_of_getElem? (i := 213) rfl)))), rfl⟩
theorem us_X7_octet : Cond.selects RX7 yX7_octet yX7_octet ∈ wU := List.mem_filter.mpr ⟨List.mem_append_right _ (List.mem_append_right _ (List.mem_append_right _ (List.mem_append_left _ (List.mem_of_getElem? (i := 214) rfl)))), rfl⟩
theorem uc_X7_octet : Cond.code yX7_octet cX7_octet 5 (some .byte) ∈ wU := List.mem_filter.mpr ⟨List.mem_append_right _ (List.mem_append_right _ (List.mem_append_right _ (List.mem_append_left _ (List.mem_of_getElem? (i := 215) rfl)))), rfl⟩
theorem um_L_92 : Cond.methodLink RL 92 yL_plain ∈ wU := List.mem_filter.mpr ⟨List.mem_append_right _ (List.mem_append_right _ (List.mem_append_right _ (List.mem_append_left _ (List.mem_of_getElem? (i := 218) rfl)))), rfl⟩
theorem ust_L_plain : Cond.static yL_plain ∈ wU := List.mem_filter.mpr ⟨List.mem_append_right _ (List.mem_append_right _ (List.mem_append_right _ (List.mem_append_left _ (List.mem_of_getElem? (i := 219) rfl)))), rfl⟩
theorem ul_L_23 : Cond.classLink RL 23 "java/lang/ArithmeticException" ∈ wU := List.mem_filter.mpr ⟨List.mem_append_right _ (List.mem_append_right _ (List.mem_append_right _ (List.mem_append_left _ (List.mem_of_getElem? (i := 221) rfl)))), rfl⟩
theorem ul_L_25 : Cond.classLink RL 25 RJxde1cd ∈ wU := List.mem_filter.mpr ⟨List.mem_append_right _ (List.mem_append_right _ (List.mem_append_right _ (List.mem_append_left _ (List.mem_of_getElem? (i := 222) rfl)))), rfl⟩
theorem um_L_19 : Cond.methodLink RL 19 yX7_plain ∈ wU := List.mem_filter.mpr ⟨List.mem_append_right _ (List.mem_append_right _ (List.mem_append_right _ (List.mem_append_left _ (List.mem_of_getElem? (i := 223) rfl)))), rfl⟩
theorem ui_X7_plain : Cond.instanceMethod yX7_plain ∈ wU := List.mem_filter.mpr ⟨List.mem_append_right _ (List.mem_append_right _ (List.mem_append_right _ (List.mem_append_left _ (List.mem_of_getElem? (i := 224) rfl)))), rfl⟩
theorem us_X7_plain : Cond.selects RX7 yX7_plain yX7_plain ∈ wU := List.mem_filter.mpr ⟨List.mem_append_right _ (List.mem_append_right _ (List.mem_append_right _ (List.mem_append_left _ (List.mem_of_getElem? (i := 225) rfl)))), rfl⟩
theorem uc_X7_plain : Cond.code yX7_plain cX7_plain 6 (some .long) ∈ wU := List.mem_filter.mpr ⟨List.mem_append_right _ (List.mem_append_right _ (List.mem_append_right _ (List.mem_append_left _ (List.mem_of_getElem? (i := 226) rfl)))), rfl⟩
theorem ul_X7_145 : Cond.classLink RX7 145 "java/lang/ArithmeticException" ∈ wU := List.mem_filter.mpr ⟨List.mem_append_right _ (List.mem_append_right _ (List.mem_append_right _ (List.mem_append_left _ (List.mem_of_getElem? (i := 227) rfl)))), rfl⟩
theorem ul_X7_150 : Cond.classLink RX7 150 RJxde1cd ∈ wU := List.mem_filter.mpr ⟨List.mem_append_right _ (List.mem_append_right _ (List.mem_append_right _ (List.mem_append_right _ (List.mem_append_left _ (List.mem_of_getElem? (i := 3) rfl))))), rfl⟩
theorem ut_Jxde1cd : Cond.instantiable RJxde1cd 6 ∈ wU := List.mem_filter.mpr ⟨List.mem_append_right _ (List.mem_append_right _ (List.mem_append_right _ (List.mem_append_right _ (List.mem_append_left _ (List.mem_of_getElem? (i := 4) rfl))))), rfl⟩
theorem um_X7_154 : Cond.methodLink RX7 154 yJxde1cd_init_a7421 ∈ wU := List.mem_filter.mpr ⟨List.mem_append_right _ (List.mem_append_right _ (List.mem_append_right _ (List.mem_append_right _ (List.mem_append_left _ (List.mem_of_getElem? (i := 13) rfl))))), rfl⟩
theorem ui_Jxde1cd_init_a7421 : Cond.instanceMethod yJxde1cd_init_a7421 ∈ wU := List.mem_filter.mpr ⟨List.mem_append_right _ (List.mem_append_right _ (List.mem_append_right _ (List.mem_append_right _ (List.mem_append_left _ (List.mem_of_getElem? (i := 14) rfl))))), rfl⟩
theorem uc_Jxde1cd_init_a7421 : Cond.code yJxde1cd_init_a7421 cJxde1cd_init_a7421 2 none ∈ wU := List.mem_filter.mpr ⟨List.mem_append_right _ (List.mem_append_right _ (List.mem_append_right _ (List.mem_append_right _ (List.mem_append_left _ (List.mem_of_getElem? (i := 15) rfl))))), rfl⟩
theorem uk_X7_155 : Cond.constantLong RX7 155 (1000) ∈ wU := List.mem_filter.mpr ⟨List.mem_append_right _ (List.mem_append_right _ (List.mem_append_right _ (List.mem_append_right _ (List.mem_append_left _ (List.mem_of_getElem? (i := 19) rfl))))), rfl⟩
theorem um_X7_157 : Cond.methodLink RX7 157 yJ9_min_f86c9 ∈ wU := List.mem_filter.mpr ⟨List.mem_append_right _ (List.mem_append_right _ (List.mem_append_right _ (List.mem_append_right _ (List.mem_append_left _ (List.mem_of_getElem? (i := 20) rfl))))), rfl⟩
theorem ust_J9_min_f86c9 : Cond.static yJ9_min_f86c9 ∈ wU := List.mem_filter.mpr ⟨List.mem_append_right _ (List.mem_append_right _ (List.mem_append_right _ (List.mem_append_right _ (List.mem_append_left _ (List.mem_of_getElem? (i := 21) rfl))))), rfl⟩
theorem uc_J9_min_f86c9 : Cond.code yJ9_min_f86c9 cJ9_min_f86c9 4 (some .long) ∈ wU := List.mem_filter.mpr ⟨List.mem_append_right _ (List.mem_append_right _ (List.mem_append_right _ (List.mem_append_right _ (List.mem_append_left _ (List.mem_of_getElem? (i := 22) rfl))))), rfl⟩
theorem ul_L_28 : Cond.classLink RL 28 RX8 ∈ wU := List.mem_filter.mpr ⟨List.mem_append_right _ (List.mem_append_right _ (List.mem_append_right _ (List.mem_append_right _ (List.mem_append_left _ (List.mem_of_getElem? (i := 23) rfl))))), rfl⟩
theorem ut_X8 : Cond.instantiable RX8 31 ∈ wU := List.mem_filter.mpr ⟨List.mem_append_right _ (List.mem_append_right _ (List.mem_append_right _ (List.mem_append_right _ (List.mem_append_left _ (List.mem_of_getElem? (i := 24) rfl))))), rfl⟩
theorem um_L_30 : Cond.methodLink RL 30 yX8_init ∈ wU := List.mem_filter.mpr ⟨List.mem_append_right _ (List.mem_append_right _ (List.mem_append_right _ (List.mem_append_right _ (List.mem_append_left _ (List.mem_of_getElem? (i := 25) rfl))))), rfl⟩
theorem ui_X8_init : Cond.instanceMethod yX8_init ∈ wU := List.mem_filter.mpr ⟨List.mem_append_right _ (List.mem_append_right _ (List.mem_append_right _ (List.mem_append_right _ (List.mem_append_left _ (List.mem_of_getElem? (i := 26) rfl))))), rfl⟩
theorem uc_X8_init : Cond.code yX8_init cX8_init 1 none ∈ wU := List.mem_filter.mpr ⟨List.mem_append_right _ (List.mem_append_right _ (List.mem_append_right _ (List.mem_append_right _ (List.mem_append_left _ (List.mem_of_getElem? (i := 27) rfl))))), rfl⟩
theorem um_X8_1 : Cond.methodLink RX8 1 objectInit ∈ wU := List.mem_filter.mpr ⟨List.mem_append_right _ (List.mem_append_right _ (List.mem_append_right _ (List.mem_append_right _ (List.mem_append_left _ (List.mem_of_getElem? (i := 28) rfl))))), rfl⟩
theorem uf_X8_87 : Cond.fieldLink RX8 87 "ClassMaker4Model" "thrown" "I" ∈ wU := List.mem_filter.mpr ⟨List.mem_append_right _ (List.mem_append_right _ (List.mem_append_right _ (List.mem_append_right _ (List.mem_append_left _ (List.mem_of_getElem? (i := 29) rfl))))), rfl⟩
theorem uf_X8_91 : Cond.fieldLink RX8 91 "ClassMaker4Model" "programs" "I" ∈ wU := List.mem_filter.mpr ⟨List.mem_append_right _ (List.mem_append_right _ (List.mem_append_right _ (List.mem_append_right _ (List.mem_append_left _ (List.mem_of_getElem? (i := 30) rfl))))), rfl⟩
theorem uf_X8_94 : Cond.fieldLink RX8 94 "ClassMaker4Model" "units" "I" ∈ wU := List.mem_filter.mpr ⟨List.mem_append_right _ (List.mem_append_right _ (List.mem_append_right _ (List.mem_append_right _ (List.mem_append_left _ (List.mem_of_getElem? (i := 31) rfl))))), rfl⟩
theorem uf_X8_113 : Cond.fieldLink RX8 113 "ClassMaker4Model" "classes" "I" ∈ wU := List.mem_filter.mpr ⟨List.mem_append_right _ (List.mem_append_right _ (List.mem_append_right _ (List.mem_append_right _ (List.mem_append_left _ (List.mem_of_getElem? (i := 32) rfl))))), rfl⟩
theorem uf_X8_7 : Cond.fieldLink RX8 7 "ClassMaker4Model" "size" "[I" ∈ wU := List.mem_filter.mpr ⟨List.mem_append_right _ (List.mem_append_right _ (List.mem_append_right _ (List.mem_append_right _ (List.mem_append_left _ (List.mem_of_getElem? (i := 33) rfl))))), rfl⟩
theorem uf_X8_13 : Cond.fieldLink RX8 13 "ClassMaker4Model" "rows" "[I" ∈ wU := List.mem_filter.mpr ⟨List.mem_append_right _ (List.mem_append_right _ (List.mem_append_right _ (List.mem_append_right _ (List.mem_append_left _ (List.mem_of_getElem? (i := 34) rfl))))), rfl⟩
theorem uf_X8_16 : Cond.fieldLink RX8 16 "ClassMaker4Model" "op" "[I" ∈ wU := List.mem_filter.mpr ⟨List.mem_append_right _ (List.mem_append_right _ (List.mem_append_right _ (List.mem_append_right _ (List.mem_append_left _ (List.mem_of_getElem? (i := 35) rfl))))), rfl⟩
theorem uf_X8_19 : Cond.fieldLink RX8 19 "ClassMaker4Model" "one" "[I" ∈ wU := List.mem_filter.mpr ⟨List.mem_append_right _ (List.mem_append_right _ (List.mem_append_right _ (List.mem_append_right _ (List.mem_append_left _ (List.mem_of_getElem? (i := 36) rfl))))), rfl⟩
theorem uf_X8_22 : Cond.fieldLink RX8 22 "ClassMaker4Model" "two" "[I" ∈ wU := List.mem_filter.mpr ⟨List.mem_append_right _ (List.mem_append_right _ (List.mem_append_right _ (List.mem_append_right _ (List.mem_append_left _ (List.mem_of_getElem? (i := 37) rfl))))), rfl⟩
theorem uf_X8_25 : Cond.fieldLink RX8 25 "ClassMaker4Model" "fails" "[Z" ∈ wU := List.mem_filter.mpr ⟨List.mem_append_right _ (List.mem_append_right _ (List.mem_append_right _ (List.mem_append_right _ (List.mem_append_left _ (List.mem_of_getElem? (i := 38) rfl))))), rfl⟩
theorem uf_X8_29 : Cond.fieldLink RX8 29 "ClassMaker4Model" "unitOf" "[I" ∈ wU := List.mem_filter.mpr ⟨List.mem_append_right _ (List.mem_append_right _ (List.mem_append_right _ (List.mem_append_right _ (List.mem_append_left _ (List.mem_of_getElem? (i := 39) rfl))))), rfl⟩
theorem uf_X8_32 : Cond.fieldLink RX8 32 "ClassMaker4Model" "programOf" "[I" ∈ wU := List.mem_filter.mpr ⟨List.mem_append_right _ (List.mem_append_right _ (List.mem_append_right _ (List.mem_append_right _ (List.mem_append_left _ (List.mem_of_getElem? (i := 40) rfl))))), rfl⟩
theorem uf_X8_35 : Cond.fieldLink RX8 35 "ClassMaker4Model" "rowsOf" "[I" ∈ wU := List.mem_filter.mpr ⟨List.mem_append_right _ (List.mem_append_right _ (List.mem_append_right _ (List.mem_append_right _ (List.mem_append_left _ (List.mem_of_getElem? (i := 41) rfl))))), rfl⟩
theorem uf_X8_38 : Cond.fieldLink RX8 38 "ClassMaker4Model" "dropped" "[Z" ∈ wU := List.mem_filter.mpr ⟨List.mem_append_right _ (List.mem_append_right _ (List.mem_append_right _ (List.mem_append_right _ (List.mem_append_left _ (List.mem_of_getElem? (i := 42) rfl))))), rfl⟩
theorem uf_X8_41 : Cond.fieldLink RX8 41 "ClassMaker4Model" "started" "[Z" ∈ wU := List.mem_filter.mpr ⟨List.mem_append_right _ (List.mem_append_right _ (List.mem_append_right _ (List.mem_append_right _ (List.mem_append_left _ (List.mem_of_getElem? (i := 43) rfl))))), rfl⟩
theorem uf_X8_44 : Cond.fieldLink RX8 44 "ClassMaker4Model" "failed" "[Z" ∈ wU := List.mem_filter.mpr ⟨List.mem_append_right _ (List.mem_append_right _ (List.mem_append_right _ (List.mem_append_right _ (List.mem_append_left _ (List.mem_of_getElem? (i := 44) rfl))))), rfl⟩
theorem uf_X8_47 : Cond.fieldLink RX8 47 "ClassMaker4Model" "ended" "[Z" ∈ wU := List.mem_filter.mpr ⟨List.mem_append_right _ (List.mem_append_right _ (List.mem_append_right _ (List.mem_append_right _ (List.mem_append_left _ (List.mem_of_getElem? (i := 45) rfl))))), rfl⟩
theorem uf_X8_50 : Cond.fieldLink RX8 50 "ClassMaker4Model" "ran" "[Z" ∈ wU := List.mem_filter.mpr ⟨List.mem_append_right _ (List.mem_append_right _ (List.mem_append_right _ (List.mem_append_right _ (List.mem_append_left _ (List.mem_of_getElem? (i := 46) rfl))))), rfl⟩
theorem uf_X8_53 : Cond.fieldLink RX8 53 "ClassMaker4Model" "latest" "[I" ∈ wU := List.mem_filter.mpr ⟨List.mem_append_right _ (List.mem_append_right _ (List.mem_append_right _ (List.mem_append_right _ (List.mem_append_left _ (List.mem_of_getElem? (i := 47) rfl))))), rfl⟩
theorem uf_X8_56 : Cond.fieldLink RX8 56 "ClassMaker4Model" "raised" "[I" ∈ wU := List.mem_filter.mpr ⟨List.mem_append_right _ (List.mem_append_right _ (List.mem_append_right _ (List.mem_append_right _ (List.mem_append_left _ (List.mem_of_getElem? (i := 48) rfl))))), rfl⟩
theorem uf_X8_59 : Cond.fieldLink RX8 59 "ClassMaker4Model" "by" "[I" ∈ wU := List.mem_filter.mpr ⟨List.mem_append_right _ (List.mem_append_right _ (List.mem_append_right _ (List.mem_append_right _ (List.mem_append_left _ (List.mem_of_getElem? (i := 49) rfl))))), rfl⟩
theorem uf_X8_62 : Cond.fieldLink RX8 62 "ClassMaker4Model" "stopped" "[I" ∈ wU := List.mem_filter.mpr ⟨List.mem_append_right _ (List.mem_append_right _ (List.mem_append_right _ (List.mem_append_right _ (List.mem_append_left _ (List.mem_of_getElem? (i := 50) rfl))))), rfl⟩
theorem uf_X8_65 : Cond.fieldLink RX8 65 "ClassMaker4Model" "steps" "[I" ∈ wU := List.mem_filter.mpr ⟨List.mem_append_right _ (List.mem_append_right _ (List.mem_append_right _ (List.mem_append_right _ (List.mem_append_left _ (List.mem_of_getElem? (i := 51) rfl))))), rfl⟩
theorem uf_X8_68 : Cond.fieldLink RX8 68 "ClassMaker4Model" "marked" "[I" ∈ wU := List.mem_filter.mpr ⟨List.mem_append_right _ (List.mem_append_right _ (List.mem_append_right _ (List.mem_append_right _ (List.mem_append_left _ (List.mem_of_getElem? (i := 52) rfl))))), rfl⟩
theorem uf_X8_71 : Cond.fieldLink RX8 71 "ClassMaker4Model" "work" "[B" ∈ wU := List.mem_filter.mpr ⟨List.mem_append_right _ (List.mem_append_right _ (List.mem_append_right _ (List.mem_append_right _ (List.mem_append_left _ (List.mem_of_getElem? (i := 53) rfl))))), rfl⟩
theorem uf_X8_75 : Cond.fieldLink RX8 75 "ClassMaker4Model" "mark" "[I" ∈ wU := List.mem_filter.mpr ⟨List.mem_append_right _ (List.mem_append_right _ (List.mem_append_right _ (List.mem_append_right _ (List.mem_append_left _ (List.mem_of_getElem? (i := 54) rfl))))), rfl⟩
theorem uf_X8_122 : Cond.fieldLink RX8 122 "ClassMaker4Model" "high" "I" ∈ wU := List.mem_filter.mpr ⟨List.mem_append_right _ (List.mem_append_right _ (List.mem_append_right _ (List.mem_append_right _ (List.mem_append_left _ (List.mem_of_getElem? (i := 55) rfl))))), rfl⟩
theorem uf_X8_78 : Cond.fieldLink RX8 78 "ClassMaker4Model" "running" "[I" ∈ wU := List.mem_filter.mpr ⟨List.mem_append_right _ (List.mem_append_right _ (List.mem_append_right _ (List.mem_append_right _ (List.mem_append_left _ (List.mem_of_getElem? (i := 56) rfl))))), rfl⟩
theorem uf_X8_81 : Cond.fieldLink RX8 81 "ClassMaker4Model" "next" "[I" ∈ wU := List.mem_filter.mpr ⟨List.mem_append_right _ (List.mem_append_right _ (List.mem_append_right _ (List.mem_append_right _ (List.mem_append_left _ (List.mem_of_getElem? (i := 57) rfl))))), rfl⟩
theorem uf_X8_135 : Cond.fieldLink RX8 135 "ClassMaker4Model" "length" "I" ∈ wU := List.mem_filter.mpr ⟨List.mem_append_right _ (List.mem_append_right _ (List.mem_append_right _ (List.mem_append_right _ (List.mem_append_left _ (List.mem_of_getElem? (i := 58) rfl))))), rfl⟩
theorem uf_X8_84 : Cond.fieldLink RX8 84 "ClassMaker4Model" "file" "[I" ∈ wU := List.mem_filter.mpr ⟨List.mem_append_right _ (List.mem_append_right _ (List.mem_append_right _ (List.mem_append_right _ (List.mem_append_left _ (List.mem_of_getElem? (i := 59) rfl))))), rfl⟩
theorem ua_boolean : Cond.arrayClass .boolean ∈ wU := List.mem_filter.mpr ⟨List.mem_append_right _ (List.mem_append_right _ (List.mem_append_right _ (List.mem_append_right _ (List.mem_append_left _ (List.mem_of_getElem? (i := 123) rfl))))), rfl⟩
theorem um_L_61 : Cond.methodLink RL 61 yX8_thrown ∈ wU := List.mem_filter.mpr ⟨List.mem_append_right _ (List.mem_append_right _ (List.mem_append_right _ (List.mem_append_right _ (List.mem_append_left _ (List.mem_of_getElem? (i := 124) rfl))))), rfl⟩
theorem ui_X8_thrown : Cond.instanceMethod yX8_thrown ∈ wU := List.mem_filter.mpr ⟨List.mem_append_right _ (List.mem_append_right _ (List.mem_append_right _ (List.mem_append_right _ (List.mem_append_left _ (List.mem_of_getElem? (i := 125) rfl))))), rfl⟩
theorem us_X8_thrown : Cond.selects RX8 yX8_thrown yX8_thrown ∈ wU := List.mem_filter.mpr ⟨List.mem_append_right _ (List.mem_append_right _ (List.mem_append_right _ (List.mem_append_right _ (List.mem_append_left _ (List.mem_of_getElem? (i := 126) rfl))))), rfl⟩
theorem uc_X8_thrown : Cond.code yX8_thrown cX8_thrown 1 (some .int) ∈ wU := List.mem_filter.mpr ⟨List.mem_append_right _ (List.mem_append_right _ (List.mem_append_right _ (List.mem_append_right _ (List.mem_append_left _ (List.mem_of_getElem? (i := 127) rfl))))), rfl⟩
theorem um_L_35 : Cond.methodLink RL 35 yX8_program ∈ wU := List.mem_filter.mpr ⟨List.mem_append_right _ (List.mem_append_right _ (List.mem_append_right _ (List.mem_append_right _ (List.mem_append_left _ (List.mem_of_getElem? (i := 128) rfl))))), rfl⟩
theorem ui_X8_program : Cond.instanceMethod yX8_program ∈ wU := List.mem_filter.mpr ⟨List.mem_append_right _ (List.mem_append_right _ (List.mem_append_right _ (List.mem_append_right _ (List.mem_append_left _ (List.mem_of_getElem? (i := 129) rfl))))), rfl⟩
theorem us_X8_program : Cond.selects RX8 yX8_program yX8_program ∈ wU := List.mem_filter.mpr ⟨List.mem_append_right _ (List.mem_append_right _ (List.mem_append_right _ (List.mem_append_right _ (List.mem_append_left _ (List.mem_of_getElem? (i := 130) rfl))))), rfl⟩
theorem uc_X8_program : Cond.code yX8_program cX8_program 3 (some .int) ∈ wU := List.mem_filter.mpr ⟨List.mem_append_right _ (List.mem_append_right _ (List.mem_append_right _ (List.mem_append_right _ (List.mem_append_left _ (List.mem_of_getElem? (i := 131) rfl))))), rfl⟩
theorem um_L_40 : Cond.methodLink RL 40 yX8_code ∈ wU := List.mem_filter.mpr ⟨List.mem_append_right _ (List.mem_append_right _ (List.mem_append_right _ (List.mem_append_right _ (List.mem_append_left _ (List.mem_of_getElem? (i := 132) rfl))))), rfl⟩
theorem ui_X8_code : Cond.instanceMethod yX8_code ∈ wU := List.mem_filter.mpr ⟨List.mem_append_right _ (List.mem_append_right _ (List.mem_append_right _ (List.mem_append_right _ (List.mem_append_left _ (List.mem_of_getElem? (i := 133) rfl))))), rfl⟩
theorem us_X8_code : Cond.selects RX8 yX8_code yX8_code ∈ wU := List.mem_filter.mpr ⟨List.mem_append_right _ (List.mem_append_right _ (List.mem_append_right _ (List.mem_append_right _ (List.mem_append_left _ (List.mem_of_getElem? (i := 134) rfl))))), rfl⟩
theorem uc_X8_code : Cond.code yX8_code cX8_code 6 (some .int) ∈ wU := List.mem_filter.mpr ⟨List.mem_append_right _ (List.mem_append_right _ (List.mem_append_right _ (List.mem_append_right _ (List.mem_append_left _ (List.mem_of_getElem? (i := 135) rfl))))), rfl⟩
theorem um_X8_101 : Cond.methodLink RX8 101 yX8_isProgram ∈ wU := List.mem_filter.mpr ⟨List.mem_append_right _ (List.mem_append_right _ (List.mem_append_right _ (List.mem_append_right _ (List.mem_append_left _ (List.mem_of_getElem? (i := 136) rfl))))), rfl⟩
theorem ui_X8_isProgram : Cond.instanceMethod yX8_isProgram ∈ wU := List.mem_filter.mpr ⟨List.mem_append_right _ (List.mem_append_right _ (List.mem_append_right _ (List.mem_append_right _ (List.mem_append_left _ (List.mem_of_getElem? (i := 138) rfl))))), rfl⟩
theorem uc_X8_isProgram : Cond.code yX8_isProgram cX8_isProgram 2 (some .boolean) ∈ wU := List.mem_filter.mpr ⟨List.mem_append_right _ (List.mem_append_right _ (List.mem_append_right _ (List.mem_append_right _ (List.mem_append_left _ (List.mem_of_getElem? (i := 139) rfl))))), rfl⟩
theorem um_X8_105 : Cond.methodLink RX8 105 yX8_isRow ∈ wU := List.mem_filter.mpr ⟨List.mem_append_right _ (List.mem_append_right _ (List.mem_append_right _ (List.mem_append_right _ (List.mem_append_left _ (List.mem_of_getElem? (i := 140) rfl))))), rfl⟩
theorem ui_X8_isRow : Cond.instanceMethod yX8_isRow ∈ wU := List.mem_filter.mpr ⟨List.mem_append_right _ (List.mem_append_right _ (List.mem_append_right _ (List.mem_append_right _ (List.mem_append_left _ (List.mem_of_getElem? (i := 142) rfl))))), rfl⟩
theorem uc_X8_isRow : Cond.code yX8_isRow cX8_isRow 6 (some .boolean) ∈ wU := List.mem_filter.mpr ⟨List.mem_append_right _ (List.mem_append_right _ (List.mem_append_right _ (List.mem_append_right _ (List.mem_append_left _ (List.mem_of_getElem? (i := 143) rfl))))), rfl⟩
theorem um_X8_97 : Cond.methodLink RX8 97 yX8_isIn ∈ wU := List.mem_filter.mpr ⟨List.mem_append_right _ (List.mem_append_right _ (List.mem_append_right _ (List.mem_append_right _ (List.mem_append_left _ (List.mem_of_getElem? (i := 144) rfl))))), rfl⟩
theorem ust_X8_isIn : Cond.static yX8_isIn ∈ wU := List.mem_filter.mpr ⟨List.mem_append_right _ (List.mem_append_right _ (List.mem_append_right _ (List.mem_append_right _ (List.mem_append_left _ (List.mem_of_getElem? (i := 145) rfl))))), rfl⟩
theorem uc_X8_isIn : Cond.code yX8_isIn cX8_isIn 3 (some .boolean) ∈ wU := List.mem_filter.mpr ⟨List.mem_append_right _ (List.mem_append_right _ (List.mem_append_right _ (List.mem_append_right _ (List.mem_append_left _ (List.mem_of_getElem? (i := 146) rfl))))), rfl⟩
theorem um_L_45 : Cond.methodLink RL 45 yX8_unit ∈ wU := List.mem_filter.mpr ⟨List.mem_append_right _ (List.mem_append_right _ (List.mem_append_right _ (List.mem_append_right _ (List.mem_append_left _ (List.mem_of_getElem? (i := 147) rfl))))), rfl⟩
theorem ui_X8_unit : Cond.instanceMethod yX8_unit ∈ wU := List.mem_filter.mpr ⟨List.mem_append_right _ (List.mem_append_right _ (List.mem_append_right _ (List.mem_append_right _ (List.mem_append_left _ (List.mem_of_getElem? (i := 148) rfl))))), rfl⟩
theorem us_X8_unit : Cond.selects RX8 yX8_unit yX8_unit ∈ wU := List.mem_filter.mpr ⟨List.mem_append_right _ (List.mem_append_right _ (List.mem_append_right _ (List.mem_append_right _ (List.mem_append_left _ (List.mem_of_getElem? (i := 149) rfl))))), rfl⟩
theorem uc_X8_unit : Cond.code yX8_unit cX8_unit 1 (some .int) ∈ wU := List.mem_filter.mpr ⟨List.mem_append_right _ (List.mem_append_right _ (List.mem_append_right _ (List.mem_append_right _ (List.mem_append_left _ (List.mem_of_getElem? (i := 150) rfl))))), rfl⟩
theorem um_L_50 : Cond.methodLink RL 50 yX8_make ∈ wU := List.mem_filter.mpr ⟨List.mem_append_right _ (List.mem_append_right _ (List.mem_append_right _ (List.mem_append_right _ (List.mem_append_left _ (List.mem_of_getElem? (i := 151) rfl))))), rfl⟩
theorem ui_X8_make : Cond.instanceMethod yX8_make ∈ wU := List.mem_filter.mpr ⟨List.mem_append_right _ (List.mem_append_right _ (List.mem_append_right _ (List.mem_append_right _ (List.mem_append_left _ (List.mem_of_getElem? (i := 152) rfl))))), rfl⟩
theorem us_X8_make : Cond.selects RX8 yX8_make yX8_make ∈ wU := List.mem_filter.mpr ⟨List.mem_append_right _ (List.mem_append_right _ (List.mem_append_right _ (List.mem_append_right _ (List.mem_append_left _ (List.mem_of_getElem? (i := 153) rfl))))), rfl⟩
theorem uc_X8_make : Cond.code yX8_make cX8_make 3 (some .int) ∈ wU := List.mem_filter.mpr ⟨List.mem_append_right _ (List.mem_append_right _ (List.mem_append_right _ (List.mem_append_right _ (List.mem_append_left _ (List.mem_of_getElem? (i := 154) rfl))))), rfl⟩
theorem um_X8_116 : Cond.methodLink RX8 116 yX8_isUnit ∈ wU := List.mem_filter.mpr ⟨List.mem_append_right _ (List.mem_append_right _ (List.mem_append_right _ (List.mem_append_right _ (List.mem_append_left _ (List.mem_of_getElem? (i := 155) rfl))))), rfl⟩
theorem ui_X8_isUnit : Cond.instanceMethod yX8_isUnit ∈ wU := List.mem_filter.mpr ⟨List.mem_append_right _ (List.mem_append_right _ (List.mem_append_right _ (List.mem_append_right _ (List.mem_append_left _ (List.mem_of_getElem? (i := 157) rfl))))), rfl⟩
theorem uc_X8_isUnit : Cond.code yX8_isUnit cX8_isUnit 2 (some .boolean) ∈ wU := List.mem_filter.mpr ⟨List.mem_append_right _ (List.mem_append_right _ (List.mem_append_right _ (List.mem_append_right _ (List.mem_append_left _ (List.mem_of_getElem? (i := 158) rfl))))), rfl⟩
theorem um_X8_119 : Cond.methodLink RX8 119 yX8_made ∈ wU := List.mem_filter.mpr ⟨List.mem_append_right _ (List.mem_append_right _ (List.mem_append_right _ (List.mem_append_right _ (List.mem_append_left _ (List.mem_of_getElem? (i := 159) rfl))))), rfl⟩
theorem ui_X8_made : Cond.instanceMethod yX8_made ∈ wU := List.mem_filter.mpr ⟨List.mem_append_right _ (List.mem_append_right _ (List.mem_append_right _ (List.mem_append_right _ (List.mem_append_left _ (List.mem_of_getElem? (i := 161) rfl))))), rfl⟩
theorem uc_X8_made : Cond.code yX8_made cX8_made 4 (some .int) ∈ wU := List.mem_filter.mpr ⟨List.mem_append_right _ (List.mem_append_right _ (List.mem_append_right _ (List.mem_append_right _ (List.mem_append_left _ (List.mem_of_getElem? (i := 162) rfl))))), rfl⟩
theorem um_X8_109 : Cond.methodLink RX8 109 yX8_latestOf ∈ wU := List.mem_filter.mpr ⟨List.mem_append_right _ (List.mem_append_right _ (List.mem_append_right _ (List.mem_append_right _ (List.mem_append_left _ (List.mem_of_getElem? (i := 163) rfl))))), rfl⟩
theorem ui_X8_latestOf : Cond.instanceMethod yX8_latestOf ∈ wU := List.mem_filter.mpr ⟨List.mem_append_right _ (List.mem_append_right _ (List.mem_append_right _ (List.mem_append_right _ (List.mem_append_left _ (List.mem_of_getElem? (i := 165) rfl))))), rfl⟩
theorem uc_X8_latestOf : Cond.code yX8_latestOf cX8_latestOf 3 (some .int) ∈ wU := List.mem_filter.mpr ⟨List.mem_append_right _ (List.mem_append_right _ (List.mem_append_right _ (List.mem_append_right _ (List.mem_append_left _ (List.mem_of_getElem? (i := 166) rfl))))), rfl⟩
theorem um_L_89 : Cond.methodLink RL 89 yX8_cancel ∈ wU := List.mem_filter.mpr ⟨List.mem_append_right _ (List.mem_append_right _ (List.mem_append_right _ (List.mem_append_right _ (List.mem_append_left _ (List.mem_of_getElem? (i := 167) rfl))))), rfl⟩
theorem ui_X8_cancel : Cond.instanceMethod yX8_cancel ∈ wU := List.mem_filter.mpr ⟨List.mem_append_right _ (List.mem_append_right _ (List.mem_append_right _ (List.mem_append_right _ (List.mem_append_left _ (List.mem_of_getElem? (i := 168) rfl))))), rfl⟩
theorem us_X8_cancel : Cond.selects RX8 yX8_cancel yX8_cancel ∈ wU := List.mem_filter.mpr ⟨List.mem_append_right _ (List.mem_append_right _ (List.mem_append_right _ (List.mem_append_right _ (List.mem_append_left _ (List.mem_of_getElem? (i := 169) rfl))))), rfl⟩
theorem uc_X8_cancel : Cond.code yX8_cancel cX8_cancel 4 (some .int) ∈ wU := List.mem_filter.mpr ⟨List.mem_append_right _ (List.mem_append_right _ (List.mem_append_right _ (List.mem_append_right _ (List.mem_append_left _ (List.mem_of_getElem? (i := 170) rfl))))), rfl⟩
theorem um_L_85 : Cond.methodLink RL 85 yX8_shares ∈ wU := List.mem_filter.mpr ⟨List.mem_append_right _ (List.mem_append_right _ (List.mem_append_right _ (List.mem_append_right _ (List.mem_append_left _ (List.mem_of_getElem? (i := 171) rfl))))), rfl⟩
theorem ui_X8_shares : Cond.instanceMethod yX8_shares ∈ wU := List.mem_filter.mpr ⟨List.mem_append_right _ (List.mem_append_right _ (List.mem_append_right _ (List.mem_append_right _ (List.mem_append_left _ (List.mem_of_getElem? (i := 172) rfl))))), rfl⟩
theorem us_X8_shares : Cond.selects RX8 yX8_shares yX8_shares ∈ wU := List.mem_filter.mpr ⟨List.mem_append_right _ (List.mem_append_right _ (List.mem_append_right _ (List.mem_append_right _ (List.mem_append_left _ (List.mem_of_getElem? (i := 173) rfl))))), rfl⟩
theorem uc_X8_shares : Cond.code yX8_shares cX8_shares 5 (some .boolean) ∈ wU := List.mem_filter.mpr ⟨List.mem_append_right _ (List.mem_append_right _ (List.mem_append_right _ (List.mem_append_right _ (List.mem_append_left _ (List.mem_of_getElem? (i := 174) rfl))))), rfl⟩
theorem um_L_99 : Cond.methodLink RL 99 yX8_state ∈ wU := List.mem_filter.mpr ⟨List.mem_append_right _ (List.mem_append_right _ (List.mem_append_right _ (List.mem_append_right _ (List.mem_append_left _ (List.mem_of_getElem? (i := 175) rfl))))), rfl⟩
theorem ui_X8_state : Cond.instanceMethod yX8_state ∈ wU := List.mem_filter.mpr ⟨List.mem_append_right _ (List.mem_append_right _ (List.mem_append_right _ (List.mem_append_right _ (List.mem_append_left _ (List.mem_of_getElem? (i := 176) rfl))))), rfl⟩
theorem us_X8_state : Cond.selects RX8 yX8_state yX8_state ∈ wU := List.mem_filter.mpr ⟨List.mem_append_right _ (List.mem_append_right _ (List.mem_append_right _ (List.mem_append_right _ (List.mem_append_left _ (List.mem_of_getElem? (i := 177) rfl))))), rfl⟩
theorem uc_X8_state : Cond.code yX8_state cX8_state 2 (some .int) ∈ wU := List.mem_filter.mpr ⟨List.mem_append_right _ (List.mem_append_right _ (List.mem_append_right _ (List.mem_append_right _ (List.mem_append_left _ (List.mem_of_getElem? (i := 178) rfl))))), rfl⟩
theorem um_L_54 : Cond.methodLink RL 54 yX8_run ∈ wU := List.mem_filter.mpr ⟨List.mem_append_right _ (List.mem_append_right _ (List.mem_append_right _ (List.mem_append_right _ (List.mem_append_left _ (List.mem_of_getElem? (i := 179) rfl))))), rfl⟩
theorem ui_X8_run : Cond.instanceMethod yX8_run ∈ wU := List.mem_filter.mpr ⟨List.mem_append_right _ (List.mem_append_right _ (List.mem_append_right _ (List.mem_append_right _ (List.mem_append_left _ (List.mem_of_getElem? (i := 180) rfl))))), rfl⟩
theorem us_X8_run : Cond.selects RX8 yX8_run yX8_run ∈ wU := List.mem_filter.mpr ⟨List.mem_append_right _ (List.mem_append_right _ (List.mem_append_right _ (List.mem_append_right _ (List.mem_append_left _ (List.mem_of_getElem? (i := 181) rfl))))), rfl⟩
theorem uc_X8_run : Cond.code yX8_run cX8_run 7 (some .int) ∈ wU := List.mem_filter.mpr ⟨List.mem_append_right _ (List.mem_append_right _ (List.mem_append_right _ (List.mem_append_right _ (List.mem_append_left _ (List.mem_of_getElem? (i := 182) rfl))))), rfl⟩
theorem um_X8_125 : Cond.methodLink RX8 125 yX8_enter ∈ wU := List.mem_filter.mpr ⟨List.mem_append_right _ (List.mem_append_right _ (List.mem_append_right _ (List.mem_append_right _ (List.mem_append_left _ (List.mem_of_getElem? (i := 183) rfl))))), rfl⟩
theorem ui_X8_enter : Cond.instanceMethod yX8_enter ∈ wU := List.mem_filter.mpr ⟨List.mem_append_right _ (List.mem_append_right _ (List.mem_append_right _ (List.mem_append_right _ (List.mem_append_left _ (List.mem_of_getElem? (i := 185) rfl))))), rfl⟩
theorem uc_X8_enter : Cond.code yX8_enter cX8_enter 5 (some .int) ∈ wU := List.mem_filter.mpr ⟨List.mem_append_right _ (List.mem_append_right _ (List.mem_append_right _ (List.mem_append_right _ (List.mem_append_left _ (List.mem_of_getElem? (i := 186) rfl))))), rfl⟩
theorem um_X8_132 : Cond.methodLink RX8 132 yX8_step ∈ wU := List.mem_filter.mpr ⟨List.mem_append_right _ (List.mem_append_right _ (List.mem_append_right _ (List.mem_append_right _ (List.mem_append_left _ (List.mem_of_getElem? (i := 187) rfl))))), rfl⟩
theorem ui_X8_step : Cond.instanceMethod yX8_step ∈ wU := List.mem_filter.mpr ⟨List.mem_append_right _ (List.mem_append_right _ (List.mem_append_right _ (List.mem_append_right _ (List.mem_append_left _ (List.mem_of_getElem? (i := 189) rfl))))), rfl⟩
theorem uc_X8_step : Cond.code yX8_step cX8_step 12 (some .int) ∈ wU := List.mem_filter.mpr ⟨List.mem_append_right _ (List.mem_append_right _ (List.mem_append_right _ (List.mem_append_right _ (List.mem_append_left _ (List.mem_of_getElem? (i := 190) rfl))))), rfl⟩
theorem um_X8_129 : Cond.methodLink RX8 129 yX8_called ∈ wU := List.mem_filter.mpr ⟨List.mem_append_right _ (List.mem_append_right _ (List.mem_append_right _ (List.mem_append_right _ (List.mem_append_left _ (List.mem_of_getElem? (i := 191) rfl))))), rfl⟩
theorem ui_X8_called : Cond.instanceMethod yX8_called ∈ wU := List.mem_filter.mpr ⟨List.mem_append_right _ (List.mem_append_right _ (List.mem_append_right _ (List.mem_append_right _ (List.mem_append_left _ (List.mem_of_getElem? (i := 193) rfl))))), rfl⟩
theorem uc_X8_called : Cond.code yX8_called cX8_called 4 (some .int) ∈ wU := List.mem_filter.mpr ⟨List.mem_append_right _ (List.mem_append_right _ (List.mem_append_right _ (List.mem_append_right _ (List.mem_append_left _ (List.mem_of_getElem? (i := 194) rfl))))), rfl⟩
theorem um_L_60 : Cond.methodLink RL 60 yX8_at ∈ wU := List.mem_filter.mpr ⟨List.mem_append_right _ (List.mem_append_right _ (List.mem_append_right _ (List.mem_append_right _ (List.mem_append_left _ (List.mem_of_getElem? (i := 195) rfl))))), rfl⟩
theorem ui_X8_at : Cond.instanceMethod yX8_at ∈ wU := List.mem_filter.mpr ⟨List.mem_append_right _ (List.mem_append_right _ (List.mem_append_right _ (List.mem_append_right _ (List.mem_append_left _ (List.mem_of_getElem? (i := 196) rfl))))), rfl⟩
theorem us_X8_at : Cond.selects RX8 yX8_at yX8_at ∈ wU := List.mem_filter.mpr ⟨List.mem_append_right _ (List.mem_append_right _ (List.mem_append_right _ (List.mem_append_right _ (List.mem_append_left _ (List.mem_of_getElem? (i := 197) rfl))))), rfl⟩
theorem uc_X8_at : Cond.code yX8_at cX8_at 5 (some .byte) ∈ wU := List.mem_filter.mpr ⟨List.mem_append_right _ (List.mem_append_right _ (List.mem_append_right _ (List.mem_append_right _ (List.mem_append_left _ (List.mem_of_getElem? (i := 198) rfl))))), rfl⟩
theorem um_L_68 : Cond.methodLink RL 68 yX8_raised ∈ wU := List.mem_filter.mpr ⟨List.mem_append_right _ (List.mem_append_right _ (List.mem_append_right _ (List.mem_append_right _ (List.mem_append_left _ (List.mem_of_getElem? (i := 199) rfl))))), rfl⟩
theorem ui_X8_raised : Cond.instanceMethod yX8_raised ∈ wU := List.mem_filter.mpr ⟨List.mem_append_right _ (List.mem_append_right _ (List.mem_append_right _ (List.mem_append_right _ (List.mem_append_left _ (List.mem_of_getElem? (i := 200) rfl))))), rfl⟩
theorem us_X8_raised : Cond.selects RX8 yX8_raised yX8_raised ∈ wU := List.mem_filter.mpr ⟨List.mem_append_right _ (List.mem_append_right _ (List.mem_append_right _ (List.mem_append_right _ (List.mem_append_left _ (List.mem_of_getElem? (i := 201) rfl))))), rfl⟩
theorem uc_X8_raised : Cond.code yX8_raised cX8_raised 2 (some .int) ∈ wU := List.mem_filter.mpr ⟨List.mem_append_right _ (List.mem_append_right _ (List.mem_append_right _ (List.mem_append_right _ (List.mem_append_left _ (List.mem_of_getElem? (i := 202) rfl))))), rfl⟩
theorem um_L_72 : Cond.methodLink RL 72 yX8_told ∈ wU := List.mem_filter.mpr ⟨List.mem_append_right _ (List.mem_append_right _ (List.mem_append_right _ (List.mem_append_right _ (List.mem_append_left _ (List.mem_of_getElem? (i := 203) rfl))))), rfl⟩
theorem ui_X8_told : Cond.instanceMethod yX8_told ∈ wU := List.mem_filter.mpr ⟨List.mem_append_right _ (List.mem_append_right _ (List.mem_append_right _ (List.mem_append_right _ (List.mem_append_left _ (List.mem_of_getElem? (i := 204) rfl))))), rfl⟩
theorem us_X8_told : Cond.selects RX8 yX8_told yX8_told ∈ wU := List.mem_filter.mpr ⟨List.mem_append_right _ (List.mem_append_right _ (List.mem_append_right _ (List.mem_append_right _ (List.mem_append_left _ (List.mem_of_getElem? (i := 205) rfl))))), rfl⟩
theorem uc_X8_told : Cond.code yX8_told cX8_told 3 (some .int) ∈ wU := List.mem_filter.mpr ⟨List.mem_append_right _ (List.mem_append_right _ (List.mem_append_right _ (List.mem_append_right _ (List.mem_append_left _ (List.mem_of_getElem? (i := 206) rfl))))), rfl⟩
theorem um_L_76 : Cond.methodLink RL 76 yX8_mark ∈ wU := List.mem_filter.mpr ⟨List.mem_append_right _ (List.mem_append_right _ (List.mem_append_right _ (List.mem_append_right _ (List.mem_append_left _ (List.mem_of_getElem? (i := 207) rfl))))), rfl⟩
theorem ui_X8_mark : Cond.instanceMethod yX8_mark ∈ wU := List.mem_filter.mpr ⟨List.mem_append_right _ (List.mem_append_right _ (List.mem_append_right _ (List.mem_append_right _ (List.mem_append_left _ (List.mem_of_getElem? (i := 208) rfl))))), rfl⟩
theorem us_X8_mark : Cond.selects RX8 yX8_mark yX8_mark ∈ wU := List.mem_filter.mpr ⟨List.mem_append_right _ (List.mem_append_right _ (List.mem_append_right _ (List.mem_append_right _ (List.mem_append_left _ (List.mem_of_getElem? (i := 209) rfl))))), rfl⟩
theorem uc_X8_mark : Cond.code yX8_mark cX8_mark 3 (some .int) ∈ wU := List.mem_filter.mpr ⟨List.mem_append_right _ (List.mem_append_right _ (List.mem_append_right _ (List.mem_append_right _ (List.mem_append_left _ (List.mem_of_getElem? (i := 210) rfl))))), rfl⟩
theorem um_L_80 : Cond.methodLink RL 80 yX8_octet ∈ wU := List.mem_filter.mpr ⟨List.mem_append_right _ (List.mem_append_right _ (List.mem_append_right _ (List.mem_append_right _ (List.mem_append_left _ (List.mem_of_getElem? (i := 211) rfl))))), rfl⟩
theorem ui_X8_octet : Cond.instanceMethod yX8_octet ∈ wU := List.mem_filter.mpr ⟨List.mem_append_right _ (List.mem_append_right _ (List.mem_append_right _ (List.mem_append_right _ (List.mem_append_left _ (List.mem_of_getElem? (i := 212) rfl))))), rfl⟩
theorem us_X8_octet : Cond.selects RX8 yX8_octet yX8_octet ∈ wU := List.mem_filter.mpr ⟨List.mem_append_right _ (List.mem_append_right _ (List.mem_append_right _ (List.mem_append_right _ (List.mem_append_left _ (List.mem_of_getElem? (i := 213) rfl))))), rfl⟩
theorem uc_X8_octet : Cond.code yX8_octet cX8_octet 3 (some .byte) ∈ wU := List.mem_filter.mpr ⟨List.mem_append_right _ (List.mem_append_right _ (List.mem_append_right _ (List.mem_append_right _ (List.mem_append_left _ (List.mem_of_getElem? (i := 214) rfl))))), rfl⟩
theorem um_X8_240 : Cond.methodLink RX8 240 yX8_build ∈ wU := List.mem_filter.mpr ⟨List.mem_append_right _ (List.mem_append_right _ (List.mem_append_right _ (List.mem_append_right _ (List.mem_append_left _ (List.mem_of_getElem? (i := 215) rfl))))), rfl⟩
theorem ui_X8_build : Cond.instanceMethod yX8_build ∈ wU := List.mem_filter.mpr ⟨List.mem_append_right _ (List.mem_append_right _ (List.mem_append_right _ (List.mem_append_right _ (List.mem_append_left _ (List.mem_of_getElem? (i := 217) rfl))))), rfl⟩
theorem uc_X8_build : Cond.code yX8_build cX8_build 6 none ∈ wU := List.mem_filter.mpr ⟨List.mem_append_right _ (List.mem_append_right _ (List.mem_append_right _ (List.mem_append_right _ (List.mem_append_left _ (List.mem_of_getElem? (i := 218) rfl))))), rfl⟩
theorem uk_X8_231 : Cond.constant RX8 231 (-889275714) ∈ wU := List.mem_filter.mpr ⟨List.mem_append_right _ (List.mem_append_right _ (List.mem_append_right _ (List.mem_append_right _ (List.mem_append_left _ (List.mem_of_getElem? (i := 219) rfl))))), rfl⟩
theorem um_X8_194 : Cond.methodLink RX8 194 yX8_u4 ∈ wU := List.mem_filter.mpr ⟨List.mem_append_right _ (List.mem_append_right _ (List.mem_append_right _ (List.mem_append_right _ (List.mem_append_left _ (List.mem_of_getElem? (i := 220) rfl))))), rfl⟩
theorem ui_X8_u4 : Cond.instanceMethod yX8_u4 ∈ wU := List.mem_filter.mpr ⟨List.mem_append_right _ (List.mem_append_right _ (List.mem_append_right _ (List.mem_append_right _ (List.mem_append_left _ (List.mem_of_getElem? (i := 222) rfl))))), rfl⟩
theorem uc_X8_u4 : Cond.code yX8_u4 cX8_u4 2 none ∈ wU := List.mem_filter.mpr ⟨List.mem_append_right _ (List.mem_append_right _ (List.mem_append_right _ (List.mem_append_right _ (List.mem_append_left _ (List.mem_of_getElem? (i := 223) rfl))))), rfl⟩
theorem um_X8_142 : Cond.methodLink RX8 142 yX8_u2 ∈ wU := List.mem_filter.mpr ⟨List.mem_append_right _ (List.mem_append_right _ (List.mem_append_right _ (List.mem_append_right _ (List.mem_append_left _ (List.mem_of_getElem? (i := 224) rfl))))), rfl⟩
theorem ui_X8_u2 : Cond.instanceMethod yX8_u2 ∈ wU := List.mem_filter.mpr ⟨List.mem_append_right _ (List.mem_append_right _ (List.mem_append_right _ (List.mem_append_right _ (List.mem_append_left _ (List.mem_of_getElem? (i := 226) rfl))))), rfl⟩
theorem uc_X8_u2 : Cond.code yX8_u2 cX8_u2 2 none ∈ wU := List.mem_filter.mpr ⟨List.mem_append_right _ (List.mem_append_right _ (List.mem_append_right _ (List.mem_append_right _ (List.mem_append_left _ (List.mem_of_getElem? (i := 227) rfl))))), rfl⟩
theorem um_X8_138 : Cond.methodLink RX8 138 yX8_u1 ∈ wU := List.mem_filter.mpr ⟨List.mem_append_right _ (List.mem_append_right _ (List.mem_append_right _ (List.mem_append_right _ (List.mem_append_left _ (List.mem_of_getElem? (i := 228) rfl))))), rfl⟩
theorem ui_X8_u1 : Cond.instanceMethod yX8_u1 ∈ wU := List.mem_filter.mpr ⟨List.mem_append_right _ (List.mem_append_right _ (List.mem_append_right _ (List.mem_append_right _ (List.mem_append_left _ (List.mem_of_getElem? (i := 230) rfl))))), rfl⟩
theorem uc_X8_u1 : Cond.code yX8_u1 cX8_u1 2 none ∈ wU := List.mem_filter.mpr ⟨List.mem_append_right _ (List.mem_append_right _ (List.mem_append_right _ (List.mem_append_right _ (List.mem_append_left _ (List.mem_of_getElem? (i := 231) rfl))))), rfl⟩
theorem um_X8_232 : Cond.methodLink RX8 232 yX8_constants ∈ wU := List.mem_filter.mpr ⟨List.mem_append_right _ (List.mem_append_right _ (List.mem_append_right _ (List.mem_append_right _ (List.mem_append_left _ (List.mem_of_getElem? (i := 232) rfl))))), rfl⟩
theorem ui_X8_constants : Cond.instanceMethod yX8_constants ∈ wU := List.mem_filter.mpr ⟨List.mem_append_right _ (List.mem_append_right _ (List.mem_append_right _ (List.mem_append_right _ (List.mem_append_left _ (List.mem_of_getElem? (i := 234) rfl))))), rfl⟩
theorem uc_X8_constants : Cond.code yX8_constants cX8_constants 4 none ∈ wU := List.mem_filter.mpr ⟨List.mem_append_right _ (List.mem_append_right _ (List.mem_append_right _ (List.mem_append_right _ (List.mem_append_left _ (List.mem_of_getElem? (i := 235) rfl))))), rfl⟩
theorem um_X8_151 : Cond.methodLink RX8 151 yX8_named ∈ wU := List.mem_filter.mpr ⟨List.mem_append_right _ (List.mem_append_right _ (List.mem_append_right _ (List.mem_append_right _ (List.mem_append_left _ (List.mem_of_getElem? (i := 236) rfl))))), rfl⟩
theorem ust_X8_named : Cond.static yX8_named ∈ wU := List.mem_filter.mpr ⟨List.mem_append_right _ (List.mem_append_right _ (List.mem_append_right _ (List.mem_append_right _ (List.mem_append_left _ (List.mem_of_getElem? (i := 237) rfl))))), rfl⟩
theorem uc_X8_named : Cond.code yX8_named cX8_named 2 (some .long) ∈ wU := List.mem_filter.mpr ⟨List.mem_append_right _ (List.mem_append_right _ (List.mem_append_right _ (List.mem_append_right _ (List.mem_append_left _ (List.mem_of_getElem? (i := 238) rfl))))), rfl⟩
theorem um_X8_155 : Cond.methodLink RX8 155 yX8_utf ∈ wU := List.mem_filter.mpr ⟨List.mem_append_right _ (List.mem_append_right _ (List.mem_append_right _ (List.mem_append_right _ (List.mem_append_left _ (List.mem_of_getElem? (i := 239) rfl))))), rfl⟩
theorem ui_X8_utf : Cond.instanceMethod yX8_utf ∈ wU := List.mem_filter.mpr ⟨List.mem_append_right _ (List.mem_append_right _ (List.mem_append_right _ (List.mem_append_right _ (List.mem_append_right _ ((List.mem_of_getElem? (i := 1) rfl)))))), rfl⟩
theorem uc_X8_utf : Cond.code yX8_utf cX8_utf 6 none ∈ wU := List.mem_filter.mpr ⟨List.mem_append_right _ (List.mem_append_right _ (List.mem_append_right _ (List.mem_append_right _ (List.mem_append_right _ ((List.mem_of_getElem? (i := 2) rfl)))))), rfl⟩
theorem um_X8_145 : Cond.methodLink RX8 145 yX8_signs ∈ wU := List.mem_filter.mpr ⟨List.mem_append_right _ (List.mem_append_right _ (List.mem_append_right _ (List.mem_append_right _ (List.mem_append_right _ ((List.mem_of_getElem? (i := 3) rfl)))))), rfl⟩
theorem ui_X8_signs : Cond.instanceMethod yX8_signs ∈ wU := List.mem_filter.mpr ⟨List.mem_append_right _ (List.mem_append_right _ (List.mem_append_right _ (List.mem_append_right _ (List.mem_append_right _ ((List.mem_of_getElem? (i := 5) rfl)))))), rfl⟩
theorem uc_X8_signs : Cond.code yX8_signs cX8_signs 4 none ∈ wU := List.mem_filter.mpr ⟨List.mem_append_right _ (List.mem_append_right _ (List.mem_append_right _ (List.mem_append_right _ (List.mem_append_right _ ((List.mem_of_getElem? (i := 6) rfl)))))), rfl⟩
theorem uk_X8_149 : Cond.constantLong RX8 149 (255) ∈ wU := List.mem_filter.mpr ⟨List.mem_append_right _ (List.mem_append_right _ (List.mem_append_right _ (List.mem_append_right _ (List.mem_append_right _ ((List.mem_of_getElem? (i := 7) rfl)))))), rfl⟩
theorem um_X8_159 : Cond.methodLink RX8 159 yX8_classed ∈ wU := List.mem_filter.mpr ⟨List.mem_append_right _ (List.mem_append_right _ (List.mem_append_right _ (List.mem_append_right _ (List.mem_append_right _ ((List.mem_of_getElem? (i := 8) rfl)))))), rfl⟩
theorem ui_X8_classed : Cond.instanceMethod yX8_classed ∈ wU := List.mem_filter.mpr ⟨List.mem_append_right _ (List.mem_append_right _ (List.mem_append_right _ (List.mem_append_right _ (List.mem_append_right _ ((List.mem_of_getElem? (i := 10) rfl)))))), rfl⟩
theorem uc_X8_classed : Cond.code yX8_classed cX8_classed 2 none ∈ wU := List.mem_filter.mpr ⟨List.mem_append_right _ (List.mem_append_right _ (List.mem_append_right _ (List.mem_append_right _ (List.mem_append_right _ ((List.mem_of_getElem? (i := 11) rfl)))))), rfl⟩
theorem uk_X8_162 : Cond.constantLong RX8 162 (7665538200540832110) ∈ wU := List.mem_filter.mpr ⟨List.mem_append_right _ (List.mem_append_right _ (List.mem_append_right _ (List.mem_append_right _ (List.mem_append_right _ ((List.mem_of_getElem? (i := 12) rfl)))))), rfl⟩
theorem uk_X8_164 : Cond.constantLong RX8 164 (7435248793922397044) ∈ wU := List.mem_filter.mpr ⟨List.mem_append_right _ (List.mem_append_right _ (List.mem_append_right _ (List.mem_append_right _ (List.mem_append_right _ ((List.mem_of_getElem? (i := 13) rfl)))))), rfl⟩
theorem uk_X8_166 : Cond.constantLong RX8 166 (87) ∈ wU := List.mem_filter.mpr ⟨List.mem_append_right _ (List.mem_append_right _ (List.mem_append_right _ (List.mem_append_right _ (List.mem_append_right _ ((List.mem_of_getElem? (i := 14) rfl)))))), rfl⟩
theorem uk_X8_168 : Cond.constantLong RX8 168 (23362) ∈ wU := List.mem_filter.mpr ⟨List.mem_append_right _ (List.mem_append_right _ (List.mem_append_right _ (List.mem_append_right _ (List.mem_append_right _ ((List.mem_of_getElem? (i := 15) rfl)))))), rfl⟩
theorem um_X8_170 : Cond.methodLink RX8 170 yX8_pair ∈ wU := List.mem_filter.mpr ⟨List.mem_append_right _ (List.mem_append_right _ (List.mem_append_right _ (List.mem_append_right _ (List.mem_append_right _ ((List.mem_of_getElem? (i := 16) rfl)))))), rfl⟩
theorem ui_X8_pair : Cond.instanceMethod yX8_pair ∈ wU := List.mem_filter.mpr ⟨List.mem_append_right _ (List.mem_append_right _ (List.mem_append_right _ (List.mem_append_right _ (List.mem_append_right _ ((List.mem_of_getElem? (i := 18) rfl)))))), rfl⟩
theorem uc_X8_pair : Cond.code yX8_pair cX8_pair 4 none ∈ wU := List.mem_filter.mpr ⟨List.mem_append_right _ (List.mem_append_right _ (List.mem_append_right _ (List.mem_append_right _ (List.mem_append_right _ ((List.mem_of_getElem? (i := 19) rfl)))))), rfl⟩
theorem uk_X8_174 : Cond.constantLong RX8 174 (75) ∈ wU := List.mem_filter.mpr ⟨List.mem_append_right _ (List.mem_append_right _ (List.mem_append_right _ (List.mem_append_right _ (List.mem_append_right _ ((List.mem_of_getElem? (i := 20) rfl)))))), rfl⟩
theorem uk_X8_176 : Cond.constantLong RX8 176 (1667329132) ∈ wU := List.mem_filter.mpr ⟨List.mem_append_right _ (List.mem_append_right _ (List.mem_append_right _ (List.mem_append_right _ (List.mem_append_right _ ((List.mem_of_getElem? (i := 21) rfl)))))), rfl⟩
theorem uk_X8_178 : Cond.constantLong RX8 178 (675883350) ∈ wU := List.mem_filter.mpr ⟨List.mem_append_right _ (List.mem_append_right _ (List.mem_append_right _ (List.mem_append_right _ (List.mem_append_right _ ((List.mem_of_getElem? (i := 22) rfl)))))), rfl⟩
theorem uk_X8_180 : Cond.constantLong RX8 180 (1835102827) ∈ wU := List.mem_filter.mpr ⟨List.mem_append_right _ (List.mem_append_right _ (List.mem_append_right _ (List.mem_append_right _ (List.mem_append_right _ ((List.mem_of_getElem? (i := 23) rfl)))))), rfl⟩
theorem uk_X8_182 : Cond.constantLong RX8 182 (1937010544) ∈ wU := List.mem_filter.mpr ⟨List.mem_append_right _ (List.mem_append_right _ (List.mem_append_right _ (List.mem_append_right _ (List.mem_append_right _ ((List.mem_of_getElem? (i := 24) rfl)))))), rfl⟩
theorem uk_X8_184 : Cond.constantLong RX8 184 (1936292453) ∈ wU := List.mem_filter.mpr ⟨List.mem_append_right _ (List.mem_append_right _ (List.mem_append_right _ (List.mem_append_right _ (List.mem_append_right _ ((List.mem_of_getElem? (i := 25) rfl)))))), rfl⟩
theorem uk_X8_186 : Cond.constantLong RX8 186 (1131373669) ∈ wU := List.mem_filter.mpr ⟨List.mem_append_right _ (List.mem_append_right _ (List.mem_append_right _ (List.mem_append_right _ (List.mem_append_right _ ((List.mem_of_getElem? (i := 26) rfl)))))), rfl⟩
theorem uk_X8_188 : Cond.constantLong RX8 188 (675883337) ∈ wU := List.mem_filter.mpr ⟨List.mem_append_right _ (List.mem_append_right _ (List.mem_append_right _ (List.mem_append_right _ (List.mem_append_right _ ((List.mem_of_getElem? (i := 27) rfl)))))), rfl⟩
theorem uk_X8_190 : Cond.constantLong RX8 190 (4351440865049801790) ∈ wU := List.mem_filter.mpr ⟨List.mem_append_right _ (List.mem_append_right _ (List.mem_append_right _ (List.mem_append_right _ (List.mem_append_right _ ((List.mem_of_getElem? (i := 28) rfl)))))), rfl⟩
theorem uk_X8_192 : Cond.constantLong RX8 192 (2632022) ∈ wU := List.mem_filter.mpr ⟨List.mem_append_right _ (List.mem_append_right _ (List.mem_append_right _ (List.mem_append_right _ (List.mem_append_right _ ((List.mem_of_getElem? (i := 29) rfl)))))), rfl⟩
theorem um_X8_224 : Cond.methodLink RX8 224 yX8_method ∈ wU := List.mem_filter.mpr ⟨List.mem_append_right _ (List.mem_append_right _ (List.mem_append_right _ (List.mem_append_right _ (List.mem_append_right _ ((List.mem_of_getElem? (i := 30) rfl)))))), rfl⟩
theorem ui_X8_method : Cond.instanceMethod yX8_method ∈ wU := List.mem_filter.mpr ⟨List.mem_append_right _ (List.mem_append_right _ (List.mem_append_right _ (List.mem_append_right _ (List.mem_append_right _ ((List.mem_of_getElem? (i := 32) rfl)))))), rfl⟩
theorem uc_X8_method : Cond.code yX8_method cX8_method 6 none ∈ wU := List.mem_filter.mpr ⟨List.mem_append_right _ (List.mem_append_right _ (List.mem_append_right _ (List.mem_append_right _ (List.mem_append_right _ ((List.mem_of_getElem? (i := 33) rfl)))))), rfl⟩
theorem uk_X8_236 : Cond.constant RX8 236 (50555991) ∈ wU := List.mem_filter.mpr ⟨List.mem_append_right _ (List.mem_append_right _ (List.mem_append_right _ (List.mem_append_right _ (List.mem_append_right _ ((List.mem_of_getElem? (i := 34) rfl)))))), rfl⟩
theorem um_X8_210 : Cond.methodLink RX8 210 yX8_push ∈ wU := List.mem_filter.mpr ⟨List.mem_append_right _ (List.mem_append_right _ (List.mem_append_right _ (List.mem_append_right _ (List.mem_append_right _ ((List.mem_of_getElem? (i := 35) rfl)))))), rfl⟩
theorem ui_X8_push : Cond.instanceMethod yX8_push ∈ wU := List.mem_filter.mpr ⟨List.mem_append_right _ (List.mem_append_right _ (List.mem_append_right _ (List.mem_append_right _ (List.mem_append_right _ ((List.mem_of_getElem? (i := 37) rfl)))))), rfl⟩
theorem uc_X8_push : Cond.code yX8_push cX8_push 2 none ∈ wU := List.mem_filter.mpr ⟨List.mem_append_right _ (List.mem_append_right _ (List.mem_append_right _ (List.mem_append_right _ (List.mem_append_right _ ((List.mem_of_getElem? (i := 38) rfl)))))), rfl⟩
theorem um_X8_237 : Cond.methodLink RX8 237 yX8_member ∈ wU := List.mem_filter.mpr ⟨List.mem_append_right _ (List.mem_append_right _ (List.mem_append_right _ (List.mem_append_right _ (List.mem_append_right _ ((List.mem_of_getElem? (i := 39) rfl)))))), rfl⟩
theorem ui_X8_member : Cond.instanceMethod yX8_member ∈ wU := List.mem_filter.mpr ⟨List.mem_append_right _ (List.mem_append_right _ (List.mem_append_right _ (List.mem_append_right _ (List.mem_append_right _ ((List.mem_of_getElem? (i := 41) rfl)))))), rfl⟩
theorem uc_X8_member : Cond.code yX8_member cX8_member 8 none ∈ wU := List.mem_filter.mpr ⟨List.mem_append_right _ (List.mem_append_right _ (List.mem_append_right _ (List.mem_append_right _ (List.mem_append_right _ ((List.mem_of_getElem? (i := 42) rfl)))))), rfl⟩
theorem um_X8_213 : Cond.methodLink RX8 213 yX8_begins ∈ wU := List.mem_filter.mpr ⟨List.mem_append_right _ (List.mem_append_right _ (List.mem_append_right _ (List.mem_append_right _ (List.mem_append_right _ ((List.mem_of_getElem? (i := 43) rfl)))))), rfl⟩
theorem ui_X8_begins : Cond.instanceMethod yX8_begins ∈ wU := List.mem_filter.mpr ⟨List.mem_append_right _ (List.mem_append_right _ (List.mem_append_right _ (List.mem_append_right _ (List.mem_append_right _ ((List.mem_of_getElem? (i := 45) rfl)))))), rfl⟩
theorem uc_X8_begins : Cond.code yX8_begins cX8_begins 7 (some .int) ∈ wU := List.mem_filter.mpr ⟨List.mem_append_right _ (List.mem_append_right _ (List.mem_append_right _ (List.mem_append_right _ (List.mem_append_right _ ((List.mem_of_getElem? (i := 46) rfl)))))), rfl⟩
theorem um_X8_204 : Cond.methodLink RX8 204 yX8_bytesOf ∈ wU := List.mem_filter.mpr ⟨List.mem_append_right _ (List.mem_append_right _ (List.mem_append_right _ (List.mem_append_right _ (List.mem_append_right _ ((List.mem_of_getElem? (i := 47) rfl)))))), rfl⟩
theorem ui_X8_bytesOf : Cond.instanceMethod yX8_bytesOf ∈ wU := List.mem_filter.mpr ⟨List.mem_append_right _ (List.mem_append_right _ (List.mem_append_right _ (List.mem_append_right _ (List.mem_append_right _ ((List.mem_of_getElem? (i := 49) rfl)))))), rfl⟩
theorem uc_X8_bytesOf : Cond.code yX8_bytesOf cX8_bytesOf 4 (some .int) ∈ wU := List.mem_filter.mpr ⟨List.mem_append_right _ (List.mem_append_right _ (List.mem_append_right _ (List.mem_append_right _ (List.mem_append_right _ ((List.mem_of_getElem? (i := 50) rfl)))))), rfl⟩
theorem um_X8_200 : Cond.methodLink RX8 200 yX8_going ∈ wU := List.mem_filter.mpr ⟨List.mem_append_right _ (List.mem_append_right _ (List.mem_append_right _ (List.mem_append_right _ (List.mem_append_right _ ((List.mem_of_getElem? (i := 51) rfl)))))), rfl⟩
theorem ui_X8_going : Cond.instanceMethod yX8_going ∈ wU := List.mem_filter.mpr ⟨List.mem_append_right _ (List.mem_append_right _ (List.mem_append_right _ (List.mem_append_right _ (List.mem_append_right _ ((List.mem_of_getElem? (i := 53) rfl)))))), rfl⟩
theorem uc_X8_going : Cond.code yX8_going cX8_going 4 (some .int) ∈ wU := List.mem_filter.mpr ⟨List.mem_append_right _ (List.mem_append_right _ (List.mem_append_right _ (List.mem_append_right _ (List.mem_append_right _ ((List.mem_of_getElem? (i := 54) rfl)))))), rfl⟩
theorem um_X8_197 : Cond.methodLink RX8 197 yX8_isWithin ∈ wU := List.mem_filter.mpr ⟨List.mem_append_right _ (List.mem_append_right _ (List.mem_append_right _ (List.mem_append_right _ (List.mem_append_right _ ((List.mem_of_getElem? (i := 55) rfl)))))), rfl⟩
theorem ust_X8_isWithin : Cond.static yX8_isWithin ∈ wU := List.mem_filter.mpr ⟨List.mem_append_right _ (List.mem_append_right _ (List.mem_append_right _ (List.mem_append_right _ (List.mem_append_right _ ((List.mem_of_getElem? (i := 56) rfl)))))), rfl⟩
theorem uc_X8_isWithin : Cond.code yX8_isWithin cX8_isWithin 3 (some .boolean) ∈ wU := List.mem_filter.mpr ⟨List.mem_append_right _ (List.mem_append_right _ (List.mem_append_right _ (List.mem_append_right _ (List.mem_append_right _ ((List.mem_of_getElem? (i := 57) rfl)))))), rfl⟩
theorem um_X8_227 : Cond.methodLink RX8 227 yX8_row ∈ wU := List.mem_filter.mpr ⟨List.mem_append_right _ (List.mem_append_right _ (List.mem_append_right _ (List.mem_append_right _ (List.mem_append_right _ ((List.mem_of_getElem? (i := 58) rfl)))))), rfl⟩
theorem ui_X8_row : Cond.instanceMethod yX8_row ∈ wU := List.mem_filter.mpr ⟨List.mem_append_right _ (List.mem_append_right _ (List.mem_append_right _ (List.mem_append_right _ (List.mem_append_right _ ((List.mem_of_getElem? (i := 60) rfl)))))), rfl⟩
theorem uc_X8_row : Cond.code yX8_row cX8_row 10 none ∈ wU := List.mem_filter.mpr ⟨List.mem_append_right _ (List.mem_append_right _ (List.mem_append_right _ (List.mem_append_right _ (List.mem_append_right _ ((List.mem_of_getElem? (i := 61) rfl)))))), rfl⟩
theorem um_X8_207 : Cond.methodLink RX8 207 yX8_words ∈ wU := List.mem_filter.mpr ⟨List.mem_append_right _ (List.mem_append_right _ (List.mem_append_right _ (List.mem_append_right _ (List.mem_append_right _ ((List.mem_of_getElem? (i := 62) rfl)))))), rfl⟩
theorem ui_X8_words : Cond.instanceMethod yX8_words ∈ wU := List.mem_filter.mpr ⟨List.mem_append_right _ (List.mem_append_right _ (List.mem_append_right _ (List.mem_append_right _ (List.mem_append_right _ ((List.mem_of_getElem? (i := 64) rfl)))))), rfl⟩
theorem uc_X8_words : Cond.code yX8_words cX8_words 1 none ∈ wU := List.mem_filter.mpr ⟨List.mem_append_right _ (List.mem_append_right _ (List.mem_append_right _ (List.mem_append_right _ (List.mem_append_right _ ((List.mem_of_getElem? (i := 65) rfl)))))), rfl⟩
theorem um_X8_217 : Cond.methodLink RX8 217 yX8_load ∈ wU := List.mem_filter.mpr ⟨List.mem_append_right _ (List.mem_append_right _ (List.mem_append_right _ (List.mem_append_right _ (List.mem_append_right _ ((List.mem_of_getElem? (i := 66) rfl)))))), rfl⟩
theorem ui_X8_load : Cond.instanceMethod yX8_load ∈ wU := List.mem_filter.mpr ⟨List.mem_append_right _ (List.mem_append_right _ (List.mem_append_right _ (List.mem_append_right _ (List.mem_append_right _ ((List.mem_of_getElem? (i := 68) rfl)))))), rfl⟩
theorem uc_X8_load : Cond.code yX8_load cX8_load 2 none ∈ wU := List.mem_filter.mpr ⟨List.mem_append_right _ (List.mem_append_right _ (List.mem_append_right _ (List.mem_append_right _ (List.mem_append_right _ ((List.mem_of_getElem? (i := 69) rfl)))))), rfl⟩
theorem um_X8_220 : Cond.methodLink RX8 220 yX8_goes ∈ wU := List.mem_filter.mpr ⟨List.mem_append_right _ (List.mem_append_right _ (List.mem_append_right _ (List.mem_append_right _ (List.mem_append_right _ ((List.mem_of_getElem? (i := 70) rfl)))))), rfl⟩
theorem ui_X8_goes : Cond.instanceMethod yX8_goes ∈ wU := List.mem_filter.mpr ⟨List.mem_append_right _ (List.mem_append_right _ (List.mem_append_right _ (List.mem_append_right _ (List.mem_append_right _ ((List.mem_of_getElem? (i := 72) rfl)))))), rfl⟩
theorem uc_X8_goes : Cond.code yX8_goes cX8_goes 6 none ∈ wU := List.mem_filter.mpr ⟨List.mem_append_right _ (List.mem_append_right _ (List.mem_append_right _ (List.mem_append_right _ (List.mem_append_right _ ((List.mem_of_getElem? (i := 73) rfl)))))), rfl⟩
theorem um_L_95 : Cond.methodLink RL 95 yX8_plain ∈ wU := List.mem_filter.mpr ⟨List.mem_append_right _ (List.mem_append_right _ (List.mem_append_right _ (List.mem_append_right _ (List.mem_append_right _ ((List.mem_of_getElem? (i := 74) rfl)))))), rfl⟩
theorem ui_X8_plain : Cond.instanceMethod yX8_plain ∈ wU := List.mem_filter.mpr ⟨List.mem_append_right _ (List.mem_append_right _ (List.mem_append_right _ (List.mem_append_right _ (List.mem_append_right _ ((List.mem_of_getElem? (i := 75) rfl)))))), rfl⟩
theorem us_X8_plain : Cond.selects RX8 yX8_plain yX8_plain ∈ wU := List.mem_filter.mpr ⟨List.mem_append_right _ (List.mem_append_right _ (List.mem_append_right _ (List.mem_append_right _ (List.mem_append_right _ ((List.mem_of_getElem? (i := 76) rfl)))))), rfl⟩
theorem uc_X8_plain : Cond.code yX8_plain cX8_plain 6 (some .long) ∈ wU := List.mem_filter.mpr ⟨List.mem_append_right _ (List.mem_append_right _ (List.mem_append_right _ (List.mem_append_right _ (List.mem_append_right _ ((List.mem_of_getElem? (i := 77) rfl)))))), rfl⟩
theorem uk_X8_243 : Cond.constantLong RX8 243 (-1) ∈ wU := List.mem_filter.mpr ⟨List.mem_append_right _ (List.mem_append_right _ (List.mem_append_right _ (List.mem_append_right _ (List.mem_append_right _ ((List.mem_of_getElem? (i := 78) rfl)))))), rfl⟩
theorem uk_X8_245 : Cond.constantLong RX8 245 (1000) ∈ wU := List.mem_filter.mpr ⟨List.mem_append_right _ (List.mem_append_right _ (List.mem_append_right _ (List.mem_append_right _ (List.mem_append_right _ ((List.mem_of_getElem? (i := 79) rfl)))))), rfl⟩
theorem um_L_103 : Cond.methodLink RL 103 yX8_count ∈ wU := List.mem_filter.mpr ⟨List.mem_append_right _ (List.mem_append_right _ (List.mem_append_right _ (List.mem_append_right _ (List.mem_append_right _ ((List.mem_of_getElem? (i := 80) rfl)))))), rfl⟩
theorem ui_X8_count : Cond.instanceMethod yX8_count ∈ wU := List.mem_filter.mpr ⟨List.mem_append_right _ (List.mem_append_right _ (List.mem_append_right _ (List.mem_append_right _ (List.mem_append_right _ ((List.mem_of_getElem? (i := 81) rfl)))))), rfl⟩
theorem us_X8_count : Cond.selects RX8 yX8_count yX8_count ∈ wU := List.mem_filter.mpr ⟨List.mem_append_right _ (List.mem_append_right _ (List.mem_append_right _ (List.mem_append_right _ (List.mem_append_right _ ((List.mem_of_getElem? (i := 82) rfl)))))), rfl⟩
theorem uc_X8_count : Cond.code yX8_count cX8_count 2 (some .int) ∈ wU := List.mem_filter.mpr ⟨List.mem_append_right _ (List.mem_append_right _ (List.mem_append_right _ (List.mem_append_right _ (List.mem_append_right _ ((List.mem_of_getElem? (i := 83) rfl)))))), rfl⟩
theorem uk_L_90 : Cond.constantLong RL 90 (4294967295) ∈ wU := List.mem_filter.mpr ⟨List.mem_append_right _ (List.mem_append_right _ (List.mem_append_right _ (List.mem_append_right _ (List.mem_append_right _ ((List.mem_of_getElem? (i := 84) rfl)))))), rfl⟩
theorem ua_long : Cond.arrayClass .long ∈ wU := List.mem_filter.mpr ⟨List.mem_append_right _ (List.mem_append_right _ (List.mem_append_right _ (List.mem_append_right _ (List.mem_append_right _ ((List.mem_of_getElem? (i := 85) rfl)))))), rfl⟩
theorem uf_J0_9 : Cond.fieldLink RJ0 9 "java/lang/String" "value" "[B" ∈ wU := List.mem_filter.mpr ⟨List.mem_append_right _ (List.mem_append_right _ (List.mem_append_right _ (List.mem_append_right _ (List.mem_append_right _ ((List.mem_of_getElem? (i := 87) rfl)))))), rfl⟩
theorem uf_J0_15 : Cond.fieldLink RJ0 15 "java/lang/String" "coder" "B" ∈ wU := List.mem_filter.mpr ⟨List.mem_append_right _ (List.mem_append_right _ (List.mem_append_right _ (List.mem_append_right _ (List.mem_append_right _ ((List.mem_of_getElem? (i := 88) rfl)))))), rfl⟩
theorem us_X3_isByteNumber : Cond.selects RX3 yX3_isByteNumber yX3_isByteNumber ∈ wU := List.mem_filter.mpr ⟨List.mem_append_left _ (List.mem_of_getElem? (i := 0) rfl), rfl⟩
theorem us_X3_isTarget : Cond.selects RX3 yX3_isTarget yX3_isTarget ∈ wU := List.mem_filter.mpr ⟨List.mem_append_left _ (List.mem_of_getElem? (i := 1) rfl), rfl⟩
theorem us_X7_findUnit : Cond.selects RX7 yX7_findUnit yX7_findUnit ∈ wU := List.mem_filter.mpr ⟨List.mem_append_left _ (List.mem_of_getElem? (i := 2) rfl), rfl⟩
theorem us_X1_follow : Cond.selects RX1 yX1_follow yX1_follow ∈ wU := List.mem_filter.mpr ⟨List.mem_append_left _ (List.mem_of_getElem? (i := 3) rfl), rfl⟩
theorem us_X1_callProgram : Cond.selects RX1 yX1_callProgram yX1_callProgram ∈ wU := List.mem_filter.mpr ⟨List.mem_append_left _ (List.mem_of_getElem? (i := 4) rfl), rfl⟩
theorem us_X1_calledClass : Cond.selects RX1 yX1_calledClass yX1_calledClass ∈ wU := List.mem_filter.mpr ⟨List.mem_append_left _ (List.mem_of_getElem? (i := 5) rfl), rfl⟩
theorem us_X2_setByte : Cond.selects RX2 yX2_setByte yX2_setByte ∈ wU := List.mem_filter.mpr ⟨List.mem_append_left _ (List.mem_of_getElem? (i := 6) rfl), rfl⟩
theorem us_X0_writeConstants : Cond.selects RX0 yX0_writeConstants yX0_writeConstants ∈ wU := List.mem_filter.mpr ⟨List.mem_append_left _ (List.mem_of_getElem? (i := 7) rfl), rfl⟩
theorem us_X0_u4 : Cond.selects RX0 yX0_u4 yX0_u4 ∈ wU := List.mem_filter.mpr ⟨List.mem_append_left _ (List.mem_of_getElem? (i := 8) rfl), rfl⟩
theorem us_X0_u2 : Cond.selects RX0 yX0_u2 yX0_u2 ∈ wU := List.mem_filter.mpr ⟨List.mem_append_left _ (List.mem_of_getElem? (i := 9) rfl), rfl⟩
theorem us_X0_u1 : Cond.selects RX0 yX0_u1 yX0_u1 ∈ wU := List.mem_filter.mpr ⟨List.mem_append_left _ (List.mem_of_getElem? (i := 10) rfl), rfl⟩
theorem us_X0_numberedText : Cond.selects RX0 yX0_numberedText yX0_numberedText ∈ wU := List.mem_filter.mpr ⟨List.mem_append_left _ (List.mem_of_getElem? (i := 11) rfl), rfl⟩
theorem us_X0_classConstant : Cond.selects RX0 yX0_classConstant yX0_classConstant ∈ wU := List.mem_filter.mpr ⟨List.mem_append_left _ (List.mem_of_getElem? (i := 12) rfl), rfl⟩
theorem us_X0_text : Cond.selects RX0 yX0_text yX0_text ∈ wU := List.mem_filter.mpr ⟨List.mem_append_left _ (List.mem_of_getElem? (i := 13) rfl), rfl⟩
theorem us_X0_pair : Cond.selects RX0 yX0_pair yX0_pair ∈ wU := List.mem_filter.mpr ⟨List.mem_append_left _ (List.mem_of_getElem? (i := 14) rfl), rfl⟩
theorem us_X0_writeFace : Cond.selects RX0 yX0_writeFace yX0_writeFace ∈ wU := List.mem_filter.mpr ⟨List.mem_append_left _ (List.mem_of_getElem? (i := 15) rfl), rfl⟩
theorem us_X0_writeStart : Cond.selects RX0 yX0_writeStart yX0_writeStart ∈ wU := List.mem_filter.mpr ⟨List.mem_append_left _ (List.mem_of_getElem? (i := 16) rfl), rfl⟩
theorem us_X0_methodHead : Cond.selects RX0 yX0_methodHead yX0_methodHead ∈ wU := List.mem_filter.mpr ⟨List.mem_append_left _ (List.mem_of_getElem? (i := 17) rfl), rfl⟩
theorem us_X0_push : Cond.selects RX0 yX0_push yX0_push ∈ wU := List.mem_filter.mpr ⟨List.mem_append_left _ (List.mem_of_getElem? (i := 18) rfl), rfl⟩
theorem us_X0_withIndex : Cond.selects RX0 yX0_withIndex yX0_withIndex ∈ wU := List.mem_filter.mpr ⟨List.mem_append_left _ (List.mem_of_getElem? (i := 19) rfl), rfl⟩
theorem us_X0_methodEnd : Cond.selects RX0 yX0_methodEnd yX0_methodEnd ∈ wU := List.mem_filter.mpr ⟨List.mem_append_left _ (List.mem_of_getElem? (i := 20) rfl), rfl⟩
theorem us_X0_writeMember : Cond.selects RX0 yX0_writeMember yX0_writeMember ∈ wU := List.mem_filter.mpr ⟨List.mem_append_left _ (List.mem_of_getElem? (i := 21) rfl), rfl⟩
theorem us_X0_layOutRows : Cond.selects RX0 yX0_layOutRows yX0_layOutRows ∈ wU := List.mem_filter.mpr ⟨List.mem_append_left _ (List.mem_of_getElem? (i := 22) rfl), rfl⟩
theorem us_X0_lengthOf : Cond.selects RX0 yX0_lengthOf yX0_lengthOf ∈ wU := List.mem_filter.mpr ⟨List.mem_append_left _ (List.mem_of_getElem? (i := 23) rfl), rfl⟩
theorem us_X0_jumpLength : Cond.selects RX0 yX0_jumpLength yX0_jumpLength ∈ wU := List.mem_filter.mpr ⟨List.mem_append_left _ (List.mem_of_getElem? (i := 24) rfl), rfl⟩
theorem us_X0_isInside : Cond.selects RX0 yX0_isInside yX0_isInside ∈ wU := List.mem_filter.mpr ⟨List.mem_append_left _ (List.mem_of_getElem? (i := 25) rfl), rfl⟩
theorem us_X0_writeRow : Cond.selects RX0 yX0_writeRow yX0_writeRow ∈ wU := List.mem_filter.mpr ⟨List.mem_append_left _ (List.mem_of_getElem? (i := 26) rfl), rfl⟩
theorem us_X0_address : Cond.selects RX0 yX0_address yX0_address ∈ wU := List.mem_filter.mpr ⟨List.mem_append_left _ (List.mem_of_getElem? (i := 27) rfl), rfl⟩
theorem us_X0_load : Cond.selects RX0 yX0_load yX0_load ∈ wU := List.mem_filter.mpr ⟨List.mem_append_left _ (List.mem_of_getElem? (i := 28) rfl), rfl⟩
theorem us_X0_jump : Cond.selects RX0 yX0_jump yX0_jump ∈ wU := List.mem_filter.mpr ⟨List.mem_append_left _ (List.mem_of_getElem? (i := 29) rfl), rfl⟩
theorem us_X0_hand : Cond.selects RX0 yX0_hand yX0_hand ∈ wU := List.mem_filter.mpr ⟨List.mem_append_left _ (List.mem_of_getElem? (i := 30) rfl), rfl⟩
theorem us_X0_arithmeticOf : Cond.selects RX0 yX0_arithmeticOf yX0_arithmeticOf ∈ wU := List.mem_filter.mpr ⟨List.mem_append_left _ (List.mem_of_getElem? (i := 31) rfl), rfl⟩
theorem us_X8_isProgram : Cond.selects RX8 yX8_isProgram yX8_isProgram ∈ wU := List.mem_filter.mpr ⟨List.mem_append_left _ (List.mem_of_getElem? (i := 33) rfl), rfl⟩
theorem us_X8_isRow : Cond.selects RX8 yX8_isRow yX8_isRow ∈ wU := List.mem_filter.mpr ⟨List.mem_append_left _ (List.mem_of_getElem? (i := 34) rfl), rfl⟩
theorem us_X8_isUnit : Cond.selects RX8 yX8_isUnit yX8_isUnit ∈ wU := List.mem_filter.mpr ⟨List.mem_append_left _ (List.mem_of_getElem? (i := 35) rfl), rfl⟩
theorem us_X8_made : Cond.selects RX8 yX8_made yX8_made ∈ wU := List.mem_filter.mpr ⟨List.mem_append_left _ (List.mem_of_getElem? (i := 36) rfl), rfl⟩
theorem us_X8_latestOf : Cond.selects RX8 yX8_latestOf yX8_latestOf ∈ wU := List.mem_filter.mpr ⟨List.mem_append_left _ (List.mem_of_getElem? (i := 37) rfl), rfl⟩
theorem us_X8_enter : Cond.selects RX8 yX8_enter yX8_enter ∈ wU := List.mem_filter.mpr ⟨List.mem_append_left _ (List.mem_of_getElem? (i := 38) rfl), rfl⟩
theorem us_X8_step : Cond.selects RX8 yX8_step yX8_step ∈ wU := List.mem_filter.mpr ⟨List.mem_append_left _ (List.mem_of_getElem? (i := 39) rfl), rfl⟩
theorem us_X8_called : Cond.selects RX8 yX8_called yX8_called ∈ wU := List.mem_filter.mpr ⟨List.mem_append_left _ (List.mem_of_getElem? (i := 40) rfl), rfl⟩
theorem us_X8_build : Cond.selects RX8 yX8_build yX8_build ∈ wU := List.mem_filter.mpr ⟨List.mem_append_left _ (List.mem_of_getElem? (i := 41) rfl), rfl⟩
theorem us_X8_u4 : Cond.selects RX8 yX8_u4 yX8_u4 ∈ wU := List.mem_filter.mpr ⟨List.mem_append_left _ (List.mem_of_getElem? (i := 42) rfl), rfl⟩
theorem us_X8_u2 : Cond.selects RX8 yX8_u2 yX8_u2 ∈ wU := List.mem_filter.mpr ⟨List.mem_append_left _ (List.mem_of_getElem? (i := 43) rfl), rfl⟩
theorem us_X8_u1 : Cond.selects RX8 yX8_u1 yX8_u1 ∈ wU := List.mem_filter.mpr ⟨List.mem_append_left _ (List.mem_of_getElem? (i := 44) rfl), rfl⟩
theorem us_X8_constants : Cond.selects RX8 yX8_constants yX8_constants ∈ wU := List.mem_filter.mpr ⟨List.mem_append_left _ (List.mem_of_getElem? (i := 45) rfl), rfl⟩
theorem us_X8_utf : Cond.selects RX8 yX8_utf yX8_utf ∈ wU := List.mem_filter.mpr ⟨List.mem_append_left _ (List.mem_of_getElem? (i := 46) rfl), rfl⟩
theorem us_X8_signs : Cond.selects RX8 yX8_signs yX8_signs ∈ wU := List.mem_filter.mpr ⟨List.mem_append_left _ (List.mem_of_getElem? (i := 47) rfl), rfl⟩
theorem us_X8_classed : Cond.selects RX8 yX8_classed yX8_classed ∈ wU := List.mem_filter.mpr ⟨List.mem_append_left _ (List.mem_of_getElem? (i := 48) rfl), rfl⟩
theorem us_X8_pair : Cond.selects RX8 yX8_pair yX8_pair ∈ wU := List.mem_filter.mpr ⟨List.mem_append_left _ (List.mem_of_getElem? (i := 49) rfl), rfl⟩
theorem us_X8_method : Cond.selects RX8 yX8_method yX8_method ∈ wU := List.mem_filter.mpr ⟨List.mem_append_left _ (List.mem_of_getElem? (i := 50) rfl), rfl⟩
theorem us_X8_push : Cond.selects RX8 yX8_push yX8_push ∈ wU := List.mem_filter.mpr ⟨List.mem_append_left _ (List.mem_of_getElem? (i := 51) rfl), rfl⟩
theorem us_X8_member : Cond.selects RX8 yX8_member yX8_member ∈ wU := List.mem_filter.mpr ⟨List.mem_append_left _ (List.mem_of_getElem? (i := 52) rfl), rfl⟩
theorem us_X8_begins : Cond.selects RX8 yX8_begins yX8_begins ∈ wU := List.mem_filter.mpr ⟨List.mem_append_left _ (List.mem_of_getElem? (i := 53) rfl), rfl⟩
theorem us_X8_bytesOf : Cond.selects RX8 yX8_bytesOf yX8_bytesOf ∈ wU := List.mem_filter.mpr ⟨List.mem_append_left _ (List.mem_of_getElem? (i := 54) rfl), rfl⟩
theorem us_X8_going : Cond.selects RX8 yX8_going yX8_going ∈ wU := List.mem_filter.mpr ⟨List.mem_append_left _ (List.mem_of_getElem? (i := 55) rfl), rfl⟩
theorem us_X8_row : Cond.selects RX8 yX8_row yX8_row ∈ wU := List.mem_filter.mpr ⟨List.mem_append_left _ (List.mem_of_getElem? (i := 56) rfl), rfl⟩
theorem us_X8_words : Cond.selects RX8 yX8_words yX8_words ∈ wU := List.mem_filter.mpr ⟨List.mem_append_left _ (List.mem_of_getElem? (i := 57) rfl), rfl⟩
theorem us_X8_load : Cond.selects RX8 yX8_load yX8_load ∈ wU := List.mem_filter.mpr ⟨List.mem_append_left _ (List.mem_of_getElem? (i := 58) rfl), rfl⟩
theorem us_X8_goes : Cond.selects RX8 yX8_goes yX8_goes ∈ wU := List.mem_filter.mpr ⟨List.mem_append_left _ (List.mem_of_getElem? (i := 59) rfl), rfl⟩
theorem ux_X0 : ∀ w ∈ u_ws RX0 TX0 5, w ∈ wU := by
  intro w hw
  obtain ⟨k, hk, rfl⟩ := List.mem_map.mp hw
  have hk := List.mem_range.mp hk
  refine List.mem_filter.mpr ⟨?_, ?_⟩
  · match k, hk with
    | 0, _ => exact (List.mem_append_right _ (List.mem_append_left _ (List.mem_of_getElem? (i := 78) rfl)) : u_lay RX0 TX0 0 ∈ lw_tbl)
    | 1, _ => exact (List.mem_append_right _ (List.mem_append_left _ (List.mem_of_getElem? (i := 80) rfl)) : u_lay RX0 TX0 1 ∈ lw_tbl)
    | 2, _ => exact (List.mem_append_right _ (List.mem_append_left _ (List.mem_of_getElem? (i := 82) rfl)) : u_lay RX0 TX0 2 ∈ lw_tbl)
    | 3, _ => exact (List.mem_append_right _ (List.mem_append_left _ (List.mem_of_getElem? (i := 84) rfl)) : u_lay RX0 TX0 3 ∈ lw_tbl)
    | 4, _ => exact (List.mem_append_right _ (List.mem_append_left _ (List.mem_of_getElem? (i := 86) rfl)) : u_lay RX0 TX0 4 ∈ lw_tbl)
    | k + 5, h => omega
  · unfold u_lay; split <;> rfl
theorem ux_X1 : ∀ w ∈ u_ws RX1 TX1 1, w ∈ wU := by
  intro w hw
  obtain ⟨k, hk, rfl⟩ := List.mem_map.mp hw
  have hk := List.mem_range.mp hk
  refine List.mem_filter.mpr ⟨?_, ?_⟩
  · match k, hk with
    | 0, _ => exact (List.mem_append_right _ (List.mem_append_left _ (List.mem_of_getElem? (i := 64) rfl)) : u_lay RX1 TX1 0 ∈ lw_tbl)
    | k + 1, h => omega
  · unfold u_lay; split <;> rfl
theorem ux_X2 : ∀ w ∈ u_ws RX2 TX2 9, w ∈ wU := by
  intro w hw
  obtain ⟨k, hk, rfl⟩ := List.mem_map.mp hw
  have hk := List.mem_range.mp hk
  refine List.mem_filter.mpr ⟨?_, ?_⟩
  · match k, hk with
    | 0, _ => exact (List.mem_append_right _ (List.mem_append_right _ (List.mem_append_left _ (List.mem_of_getElem? (i := 42) rfl))) : u_lay RX2 TX2 0 ∈ lw_tbl)
    | 1, _ => exact (List.mem_append_right _ (List.mem_append_right _ (List.mem_append_left _ (List.mem_of_getElem? (i := 44) rfl))) : u_lay RX2 TX2 1 ∈ lw_tbl)
    | 2, _ => exact (List.mem_append_right _ (List.mem_append_right _ (List.mem_append_left _ (List.mem_of_getElem? (i := 46) rfl))) : u_lay RX2 TX2 2 ∈ lw_tbl)
    | 3, _ => exact (List.mem_append_right _ (List.mem_append_right _ (List.mem_append_left _ (List.mem_of_getElem? (i := 48) rfl))) : u_lay RX2 TX2 3 ∈ lw_tbl)
    | 4, _ => exact (List.mem_append_right _ (List.mem_append_right _ (List.mem_append_left _ (List.mem_of_getElem? (i := 50) rfl))) : u_lay RX2 TX2 4 ∈ lw_tbl)
    | 5, _ => exact (List.mem_append_right _ (List.mem_append_right _ (List.mem_append_left _ (List.mem_of_getElem? (i := 52) rfl))) : u_lay RX2 TX2 5 ∈ lw_tbl)
    | 6, _ => exact (List.mem_append_right _ (List.mem_append_right _ (List.mem_append_left _ (List.mem_of_getElem? (i := 54) rfl))) : u_lay RX2 TX2 6 ∈ lw_tbl)
    | 7, _ => exact (List.mem_append_right _ (List.mem_append_right _ (List.mem_append_left _ (List.mem_of_getElem? (i := 56) rfl))) : u_lay RX2 TX2 7 ∈ lw_tbl)
    | 8, _ => exact (List.mem_append_right _ (List.mem_append_right _ (List.mem_append_left _ (List.mem_of_getElem? (i := 58) rfl))) : u_lay RX2 TX2 8 ∈ lw_tbl)
    | k + 9, h => omega
  · unfold u_lay; split <;> rfl
theorem ux_X3 : ∀ w ∈ u_ws RX3 TX3 5, w ∈ wU := by
  intro w hw
  obtain ⟨k, hk, rfl⟩ := List.mem_map.mp hw
  have hk := List.mem_range.mp hk
  refine List.mem_filter.mpr ⟨?_, ?_⟩
  · match k, hk with
    | 0, _ => exact (List.mem_append_right _ (List.mem_append_left _ (List.mem_of_getElem? (i := 137) rfl)) : u_lay RX3 TX3 0 ∈ lw_tbl)
    | 1, _ => exact (List.mem_append_right _ (List.mem_append_left _ (List.mem_of_getElem? (i := 139) rfl)) : u_lay RX3 TX3 1 ∈ lw_tbl)
    | 2, _ => exact (List.mem_append_right _ (List.mem_append_left _ (List.mem_of_getElem? (i := 141) rfl)) : u_lay RX3 TX3 2 ∈ lw_tbl)
    | 3, _ => exact (List.mem_append_right _ (List.mem_append_left _ (List.mem_of_getElem? (i := 143) rfl)) : u_lay RX3 TX3 3 ∈ lw_tbl)
    | 4, _ => exact (List.mem_append_right _ (List.mem_append_left _ (List.mem_of_getElem? (i := 145) rfl)) : u_lay RX3 TX3 4 ∈ lw_tbl)
    | k + 5, h => omega
  · unfold u_lay; split <;> rfl
theorem ux_X4 : ∀ w ∈ u_ws RX4 TX4 3, w ∈ wU := by
  intro w hw
  obtain ⟨k, hk, rfl⟩ := List.mem_map.mp hw
  have hk := List.mem_range.mp hk
  refine List.mem_filter.mpr ⟨?_, ?_⟩
  · match k, hk with
    | 0, _ => exact (List.mem_append_right _ (List.mem_append_left _ (List.mem_of_getElem? (i := 189) rfl)) : u_lay RX4 TX4 0 ∈ lw_tbl)
    | 1, _ => exact (List.mem_append_right _ (List.mem_append_left _ (List.mem_of_getElem? (i := 191) rfl)) : u_lay RX4 TX4 1 ∈ lw_tbl)
    | 2, _ => exact (List.mem_append_right _ (List.mem_append_left _ (List.mem_of_getElem? (i := 193) rfl)) : u_lay RX4 TX4 2 ∈ lw_tbl)
    | k + 3, h => omega
  · unfold u_lay; split <;> rfl
theorem ux_X5 : ∀ w ∈ u_ws RX5 TX5 9, w ∈ wU := by
  intro w hw
  obtain ⟨k, hk, rfl⟩ := List.mem_map.mp hw
  have hk := List.mem_range.mp hk
  refine List.mem_filter.mpr ⟨?_, ?_⟩
  · match k, hk with
    | 0, _ => exact (List.mem_append_right _ (List.mem_append_left _ (List.mem_of_getElem? (i := 222) rfl)) : u_lay RX5 TX5 0 ∈ lw_tbl)
    | 1, _ => exact (List.mem_append_right _ (List.mem_append_left _ (List.mem_of_getElem? (i := 224) rfl)) : u_lay RX5 TX5 1 ∈ lw_tbl)
    | 2, _ => exact (List.mem_append_right _ (List.mem_append_left _ (List.mem_of_getElem? (i := 226) rfl)) : u_lay RX5 TX5 2 ∈ lw_tbl)
    | 3, _ => exact (List.mem_append_right _ (List.mem_append_left _ (List.mem_of_getElem? (i := 228) rfl)) : u_lay RX5 TX5 3 ∈ lw_tbl)
    | 4, _ => exact (List.mem_append_right _ (List.mem_append_left _ (List.mem_of_getElem? (i := 230) rfl)) : u_lay RX5 TX5 4 ∈ lw_tbl)
    | 5, _ => exact (List.mem_append_right _ (List.mem_append_left _ (List.mem_of_getElem? (i := 232) rfl)) : u_lay RX5 TX5 5 ∈ lw_tbl)
    | 6, _ => exact (List.mem_append_right _ (List.mem_append_left _ (List.mem_of_getElem? (i := 234) rfl)) : u_lay RX5 TX5 6 ∈ lw_tbl)
    | 7, _ => exact (List.mem_append_right _ (List.mem_append_left _ (List.mem_of_getElem? (i := 236) rfl)) : u_lay RX5 TX5 7 ∈ lw_tbl)
    | 8, _ => exact (List.mem_append_right _ (List.mem_append_left _ (List.mem_of_getElem? (i := 238) rfl)) : u_lay RX5 TX5 8 ∈ lw_tbl)
    | k + 9, h => omega
  · unfold u_lay; split <;> rfl
theorem ux_X6 : ∀ w ∈ u_ws RX6 TX6 4, w ∈ wU := by
  intro w hw
  obtain ⟨k, hk, rfl⟩ := List.mem_map.mp hw
  have hk := List.mem_range.mp hk
  refine List.mem_filter.mpr ⟨?_, ?_⟩
  · match k, hk with
    | 0, _ => exact (List.mem_append_right _ (List.mem_append_left _ (List.mem_of_getElem? (i := 48) rfl)) : u_lay RX6 TX6 0 ∈ lw_tbl)
    | 1, _ => exact (List.mem_append_right _ (List.mem_append_left _ (List.mem_of_getElem? (i := 50) rfl)) : u_lay RX6 TX6 1 ∈ lw_tbl)
    | 2, _ => exact (List.mem_append_right _ (List.mem_append_left _ (List.mem_of_getElem? (i := 52) rfl)) : u_lay RX6 TX6 2 ∈ lw_tbl)
    | 3, _ => exact (List.mem_append_right _ (List.mem_append_left _ (List.mem_of_getElem? (i := 54) rfl)) : u_lay RX6 TX6 3 ∈ lw_tbl)
    | k + 4, h => omega
  · unfold u_lay; split <;> rfl
theorem ux_X7 : ∀ w ∈ u_ws RX7 TX7 5, w ∈ wU := by
  intro w hw
  obtain ⟨k, hk, rfl⟩ := List.mem_map.mp hw
  have hk := List.mem_range.mp hk
  refine List.mem_filter.mpr ⟨?_, ?_⟩
  · match k, hk with
    | 0, _ => exact (List.mem_append_right _ (List.mem_append_left _ (List.mem_of_getElem? (i := 98) rfl)) : u_lay RX7 TX7 0 ∈ lw_tbl)
    | 1, _ => exact (List.mem_append_right _ (List.mem_append_left _ (List.mem_of_getElem? (i := 100) rfl)) : u_lay RX7 TX7 1 ∈ lw_tbl)
    | 2, _ => exact (List.mem_append_right _ (List.mem_append_left _ (List.mem_of_getElem? (i := 102) rfl)) : u_lay RX7 TX7 2 ∈ lw_tbl)
    | 3, _ => exact (List.mem_append_right _ (List.mem_append_left _ (List.mem_of_getElem? (i := 104) rfl)) : u_lay RX7 TX7 3 ∈ lw_tbl)
    | 4, _ => exact (List.mem_append_right _ (List.mem_append_left _ (List.mem_of_getElem? (i := 106) rfl)) : u_lay RX7 TX7 4 ∈ lw_tbl)
    | k + 5, h => omega
  · unfold u_lay; split <;> rfl
theorem ux_X8 : ∀ w ∈ u_ws RX8 TX8 31, w ∈ wU := by
  intro w hw
  obtain ⟨k, hk, rfl⟩ := List.mem_map.mp hw
  have hk := List.mem_range.mp hk
  refine List.mem_filter.mpr ⟨?_, ?_⟩
  · match k, hk with
    | 0, _ => exact (List.mem_append_right _ (List.mem_append_right _ (List.mem_append_right _ (List.mem_append_right _ (List.mem_append_left _ (List.mem_of_getElem? (i := 60) rfl))))) : u_lay RX8 TX8 0 ∈ lw_tbl)
    | 1, _ => exact (List.mem_append_right _ (List.mem_append_right _ (List.mem_append_right _ (List.mem_append_right _ (List.mem_append_left _ (List.mem_of_getElem? (i := 62) rfl))))) : u_lay RX8 TX8 1 ∈ lw_tbl)
    | 2, _ => exact (List.mem_append_right _ (List.mem_append_right _ (List.mem_append_right _ (List.mem_append_right _ (List.mem_append_left _ (List.mem_of_getElem? (i := 64) rfl))))) : u_lay RX8 TX8 2 ∈ lw_tbl)
    | 3, _ => exact (List.mem_append_right _ (List.mem_append_right _ (List.mem_append_right _ (List.mem_append_right _ (List.mem_append_left _ (List.mem_of_getElem? (i := 66) rfl))))) : u_lay RX8 TX8 3 ∈ lw_tbl)
    | 4, _ => exact (List.mem_append_right _ (List.mem_append_right _ (List.mem_append_right _ (List.mem_append_right _ (List.mem_append_left _ (List.mem_of_getElem? (i := 68) rfl))))) : u_lay RX8 TX8 4 ∈ lw_tbl)
    | 5, _ => exact (List.mem_append_right _ (List.mem_append_right _ (List.mem_append_right _ (List.mem_append_right _ (List.mem_append_left _ (List.mem_of_getElem? (i := 70) rfl))))) : u_lay RX8 TX8 5 ∈ lw_tbl)
    | 6, _ => exact (List.mem_append_right _ (List.mem_append_right _ (List.mem_append_right _ (List.mem_append_right _ (List.mem_append_left _ (List.mem_of_getElem? (i := 72) rfl))))) : u_lay RX8 TX8 6 ∈ lw_tbl)
    | 7, _ => exact (List.mem_append_right _ (List.mem_append_right _ (List.mem_append_right _ (List.mem_append_right _ (List.mem_append_left _ (List.mem_of_getElem? (i := 74) rfl))))) : u_lay RX8 TX8 7 ∈ lw_tbl)
    | 8, _ => exact (List.mem_append_right _ (List.mem_append_right _ (List.mem_append_right _ (List.mem_append_right _ (List.mem_append_left _ (List.mem_of_getElem? (i := 76) rfl))))) : u_lay RX8 TX8 8 ∈ lw_tbl)
    | 9, _ => exact (List.mem_append_right _ (List.mem_append_right _ (List.mem_append_right _ (List.mem_append_right _ (List.mem_append_left _ (List.mem_of_getElem? (i := 78) rfl))))) : u_lay RX8 TX8 9 ∈ lw_tbl)
    | 10, _ => exact (List.mem_append_right _ (List.mem_append_right _ (List.mem_append_right _ (List.mem_append_right _ (List.mem_append_left _ (List.mem_of_getElem? (i := 80) rfl))))) : u_lay RX8 TX8 10 ∈ lw_tbl)
    | 11, _ => exact (List.mem_append_right _ (List.mem_append_right _ (List.mem_append_right _ (List.mem_append_right _ (List.mem_append_left _ (List.mem_of_getElem? (i := 82) rfl))))) : u_lay RX8 TX8 11 ∈ lw_tbl)
    | 12, _ => exact (List.mem_append_right _ (List.mem_append_right _ (List.mem_append_right _ (List.mem_append_right _ (List.mem_append_left _ (List.mem_of_getElem? (i := 84) rfl))))) : u_lay RX8 TX8 12 ∈ lw_tbl)
    | 13, _ => exact (List.mem_append_right _ (List.mem_append_right _ (List.mem_append_right _ (List.mem_append_right _ (List.mem_append_left _ (List.mem_of_getElem? (i := 86) rfl))))) : u_lay RX8 TX8 13 ∈ lw_tbl)
    | 14, _ => exact (List.mem_append_right _ (List.mem_append_right _ (List.mem_append_right _ (List.mem_append_right _ (List.mem_append_left _ (List.mem_of_getElem? (i := 88) rfl))))) : u_lay RX8 TX8 14 ∈ lw_tbl)
    | 15, _ => exact (List.mem_append_right _ (List.mem_append_right _ (List.mem_append_right _ (List.mem_append_right _ (List.mem_append_left _ (List.mem_of_getElem? (i := 90) rfl))))) : u_lay RX8 TX8 15 ∈ lw_tbl)
    | 16, _ => exact (List.mem_append_right _ (List.mem_append_right _ (List.mem_append_right _ (List.mem_append_right _ (List.mem_append_left _ (List.mem_of_getElem? (i := 92) rfl))))) : u_lay RX8 TX8 16 ∈ lw_tbl)
    | 17, _ => exact (List.mem_append_right _ (List.mem_append_right _ (List.mem_append_right _ (List.mem_append_right _ (List.mem_append_left _ (List.mem_of_getElem? (i := 94) rfl))))) : u_lay RX8 TX8 17 ∈ lw_tbl)
    | 18, _ => exact (List.mem_append_right _ (List.mem_append_right _ (List.mem_append_right _ (List.mem_append_right _ (List.mem_append_left _ (List.mem_of_getElem? (i := 96) rfl))))) : u_lay RX8 TX8 18 ∈ lw_tbl)
    | 19, _ => exact (List.mem_append_right _ (List.mem_append_right _ (List.mem_append_right _ (List.mem_append_right _ (List.mem_append_left _ (List.mem_of_getElem? (i := 98) rfl))))) : u_lay RX8 TX8 19 ∈ lw_tbl)
    | 20, _ => exact (List.mem_append_right _ (List.mem_append_right _ (List.mem_append_right _ (List.mem_append_right _ (List.mem_append_left _ (List.mem_of_getElem? (i := 100) rfl))))) : u_lay RX8 TX8 20 ∈ lw_tbl)
    | 21, _ => exact (List.mem_append_right _ (List.mem_append_right _ (List.mem_append_right _ (List.mem_append_right _ (List.mem_append_left _ (List.mem_of_getElem? (i := 102) rfl))))) : u_lay RX8 TX8 21 ∈ lw_tbl)
    | 22, _ => exact (List.mem_append_right _ (List.mem_append_right _ (List.mem_append_right _ (List.mem_append_right _ (List.mem_append_left _ (List.mem_of_getElem? (i := 104) rfl))))) : u_lay RX8 TX8 22 ∈ lw_tbl)
    | 23, _ => exact (List.mem_append_right _ (List.mem_append_right _ (List.mem_append_right _ (List.mem_append_right _ (List.mem_append_left _ (List.mem_of_getElem? (i := 106) rfl))))) : u_lay RX8 TX8 23 ∈ lw_tbl)
    | 24, _ => exact (List.mem_append_right _ (List.mem_append_right _ (List.mem_append_right _ (List.mem_append_right _ (List.mem_append_left _ (List.mem_of_getElem? (i := 108) rfl))))) : u_lay RX8 TX8 24 ∈ lw_tbl)
    | 25, _ => exact (List.mem_append_right _ (List.mem_append_right _ (List.mem_append_right _ (List.mem_append_right _ (List.mem_append_left _ (List.mem_of_getElem? (i := 110) rfl))))) : u_lay RX8 TX8 25 ∈ lw_tbl)
    | 26, _ => exact (List.mem_append_right _ (List.mem_append_right _ (List.mem_append_right _ (List.mem_append_right _ (List.mem_append_left _ (List.mem_of_getElem? (i := 112) rfl))))) : u_lay RX8 TX8 26 ∈ lw_tbl)
    | 27, _ => exact (List.mem_append_right _ (List.mem_append_right _ (List.mem_append_right _ (List.mem_append_right _ (List.mem_append_left _ (List.mem_of_getElem? (i := 114) rfl))))) : u_lay RX8 TX8 27 ∈ lw_tbl)
    | 28, _ => exact (List.mem_append_right _ (List.mem_append_right _ (List.mem_append_right _ (List.mem_append_right _ (List.mem_append_left _ (List.mem_of_getElem? (i := 116) rfl))))) : u_lay RX8 TX8 28 ∈ lw_tbl)
    | 29, _ => exact (List.mem_append_right _ (List.mem_append_right _ (List.mem_append_right _ (List.mem_append_right _ (List.mem_append_left _ (List.mem_of_getElem? (i := 118) rfl))))) : u_lay RX8 TX8 29 ∈ lw_tbl)
    | 30, _ => exact (List.mem_append_right _ (List.mem_append_right _ (List.mem_append_right _ (List.mem_append_right _ (List.mem_append_left _ (List.mem_of_getElem? (i := 120) rfl))))) : u_lay RX8 TX8 30 ∈ lw_tbl)
    | k + 31, h => omega
  · unfold u_lay; split <;> rfl
end
section
theorem dX0_init_0 : decode cX0_init 0 = .ok (.aload_n 0, 1) := by decide +kernel
theorem dX0_init_1 : decode cX0_init 1 = .ok (.invokespecial 3, 3) := by decide +kernel
theorem dX0_init_4 : decode cX0_init 4 = .ok (.aload_n 0, 1) := by decide +kernel
theorem dX0_init_5 : decode cX0_init 5 = .ok (.sipush 2048, 3) := by decide +kernel
theorem dX0_init_8 : decode cX0_init 8 = .ok (.newarray .byte, 2) := by decide +kernel
theorem dX0_init_10 : decode cX0_init 10 = .ok (.putfield 11, 3) := by decide +kernel
theorem dX0_init_13 : decode cX0_init 13 = .ok (.aload_n 0, 1) := by decide +kernel
theorem dX0_init_14 : decode cX0_init 14 = .ok (.bipush 11, 2) := by decide +kernel
theorem dX0_init_16 : decode cX0_init 16 = .ok (.newarray .int, 2) := by decide +kernel
theorem dX0_init_18 : decode cX0_init 18 = .ok (.putfield 15, 3) := by decide +kernel
theorem dX0_init_21 : decode cX0_init 21 = .ok (.return_, 1) := by decide +kernel
theorem dX0_fileOf_0 : decode cX0_fileOf 0 = .ok (.aload_n 1, 1) := by decide +kernel
theorem dX0_fileOf_1 : decode cX0_fileOf 1 = .ok (.getfield 19, 3) := by decide +kernel
theorem dX0_fileOf_4 : decode cX0_fileOf 4 = .ok (.ifnonnull 118, 3) := by decide +kernel
theorem dX0_fileOf_7 : decode cX0_fileOf 7 = .ok (.aload_n 1, 1) := by decide +kernel
theorem dX0_fileOf_8 : decode cX0_fileOf 8 = .ok (.getfield 24, 3) := by decide +kernel
theorem dX0_fileOf_11 : decode cX0_fileOf 11 = .ok (.bipush 10, 2) := by decide +kernel
theorem dX0_fileOf_13 : decode cX0_fileOf 13 = .ok (.iadd, 1) := by decide +kernel
theorem dX0_fileOf_14 : decode cX0_fileOf 14 = .ok (.iconst 1, 1) := by decide +kernel
theorem dX0_fileOf_15 : decode cX0_fileOf 15 = .ok (.isub, 1) := by decide +kernel
theorem dX0_fileOf_16 : decode cX0_fileOf 16 = .ok (.bipush 10, 2) := by decide +kernel
theorem dX0_fileOf_18 : decode cX0_fileOf 18 = .ok (.idiv, 1) := by decide +kernel
theorem dX0_fileOf_19 : decode cX0_fileOf 19 = .ok (.istore_n 2, 1) := by decide +kernel
theorem dX0_fileOf_20 : decode cX0_fileOf 20 = .ok (.aload_n 0, 1) := by decide +kernel
theorem dX0_fileOf_21 : decode cX0_fileOf 21 = .ok (.iconst 0, 1) := by decide +kernel
theorem dX0_fileOf_22 : decode cX0_fileOf 22 = .ok (.putfield 28, 3) := by decide +kernel
theorem dX0_fileOf_25 : decode cX0_fileOf 25 = .ok (.aload_n 0, 1) := by decide +kernel
theorem dX0_fileOf_26 : decode cX0_fileOf 26 = .ok (.aload_n 1, 1) := by decide +kernel
theorem dX0_fileOf_27 : decode cX0_fileOf 27 = .ok (.getfield 31, 3) := by decide +kernel
theorem dX0_fileOf_30 : decode cX0_fileOf 30 = .ok (.getfield 35, 3) := by decide +kernel
theorem dX0_fileOf_33 : decode cX0_fileOf 33 = .ok (.iload_n 2, 1) := by decide +kernel
theorem dX0_fileOf_34 : decode cX0_fileOf 34 = .ok (.invokevirtual 40, 3) := by decide +kernel
theorem dX0_fileOf_37 : decode cX0_fileOf 37 = .ok (.aload_n 0, 1) := by decide +kernel
theorem dX0_fileOf_38 : decode cX0_fileOf 38 = .ok (.iload_n 2, 1) := by decide +kernel
theorem dX0_fileOf_39 : decode cX0_fileOf 39 = .ok (.invokevirtual 44, 3) := by decide +kernel
theorem dX0_fileOf_42 : decode cX0_fileOf 42 = .ok (.aload_n 0, 1) := by decide +kernel
theorem dX0_fileOf_43 : decode cX0_fileOf 43 = .ok (.aload_n 1, 1) := by decide +kernel
theorem dX0_fileOf_44 : decode cX0_fileOf 44 = .ok (.getfield 31, 3) := by decide +kernel
theorem dX0_fileOf_47 : decode cX0_fileOf 47 = .ok (.invokevirtual 48, 3) := by decide +kernel
theorem dX0_fileOf_50 : decode cX0_fileOf 50 = .ok (.iconst 0, 1) := by decide +kernel
theorem dX0_fileOf_51 : decode cX0_fileOf 51 = .ok (.istore_n 3, 1) := by decide +kernel
theorem dX0_fileOf_52 : decode cX0_fileOf 52 = .ok (.iload_n 3, 1) := by decide +kernel
theorem dX0_fileOf_53 : decode cX0_fileOf 53 = .ok (.iload_n 2, 1) := by decide +kernel
theorem dX0_fileOf_54 : decode cX0_fileOf 54 = .ok (.if_icmp .ge 48, 3) := by decide +kernel
theorem dX0_fileOf_57 : decode cX0_fileOf 57 = .ok (.aload_n 0, 1) := by decide +kernel
theorem dX0_fileOf_58 : decode cX0_fileOf 58 = .ok (.iload_n 3, 1) := by decide +kernel
theorem dX0_fileOf_59 : decode cX0_fileOf 59 = .ok (.bipush 10, 2) := by decide +kernel
theorem dX0_fileOf_61 : decode cX0_fileOf 61 = .ok (.imul, 1) := by decide +kernel
theorem dX0_fileOf_62 : decode cX0_fileOf 62 = .ok (.iconst 1, 1) := by decide +kernel
theorem dX0_fileOf_63 : decode cX0_fileOf 63 = .ok (.iadd, 1) := by decide +kernel
theorem dX0_fileOf_64 : decode cX0_fileOf 64 = .ok (.putfield 52, 3) := by decide +kernel
theorem dX0_fileOf_67 : decode cX0_fileOf 67 = .ok (.aload_n 0, 1) := by decide +kernel
theorem dX0_fileOf_68 : decode cX0_fileOf 68 = .ok (.aload_n 0, 1) := by decide +kernel
theorem dX0_fileOf_69 : decode cX0_fileOf 69 = .ok (.getfield 52, 3) := by decide +kernel
theorem dX0_fileOf_72 : decode cX0_fileOf 72 = .ok (.bipush 10, 2) := by decide +kernel
theorem dX0_fileOf_74 : decode cX0_fileOf 74 = .ok (.iadd, 1) := by decide +kernel
theorem dX0_fileOf_75 : decode cX0_fileOf 75 = .ok (.iconst 1, 1) := by decide +kernel
theorem dX0_fileOf_76 : decode cX0_fileOf 76 = .ok (.isub, 1) := by decide +kernel
theorem dX0_fileOf_77 : decode cX0_fileOf 77 = .ok (.aload_n 1, 1) := by decide +kernel
theorem dX0_fileOf_78 : decode cX0_fileOf 78 = .ok (.getfield 24, 3) := by decide +kernel
theorem dX0_fileOf_81 : decode cX0_fileOf 81 = .ok (.invokestatic 55, 3) := by decide +kernel
theorem dX0_fileOf_84 : decode cX0_fileOf 84 = .ok (.putfield 61, 3) := by decide +kernel
theorem dX0_fileOf_87 : decode cX0_fileOf 87 = .ok (.aload_n 0, 1) := by decide +kernel
theorem dX0_fileOf_88 : decode cX0_fileOf 88 = .ok (.aload_n 1, 1) := by decide +kernel
theorem dX0_fileOf_89 : decode cX0_fileOf 89 = .ok (.getfield 31, 3) := by decide +kernel
theorem dX0_fileOf_92 : decode cX0_fileOf 92 = .ok (.iload_n 3, 1) := by decide +kernel
theorem dX0_fileOf_93 : decode cX0_fileOf 93 = .ok (.invokevirtual 64, 3) := by decide +kernel
theorem dX0_fileOf_96 : decode cX0_fileOf 96 = .ok (.iinc 3 1, 3) := by decide +kernel
theorem dX0_fileOf_99 : decode cX0_fileOf 99 = .ok (.goto (-47), 3) := by decide +kernel
theorem dX0_fileOf_102 : decode cX0_fileOf 102 = .ok (.aload_n 0, 1) := by decide +kernel
theorem dX0_fileOf_103 : decode cX0_fileOf 103 = .ok (.iconst 0, 1) := by decide +kernel
theorem dX0_fileOf_104 : decode cX0_fileOf 104 = .ok (.invokevirtual 68, 3) := by decide +kernel
theorem dX0_fileOf_107 : decode cX0_fileOf 107 = .ok (.aload_n 1, 1) := by decide +kernel
theorem dX0_fileOf_108 : decode cX0_fileOf 108 = .ok (.aload_n 0, 1) := by decide +kernel
theorem dX0_fileOf_109 : decode cX0_fileOf 109 = .ok (.getfield 11, 3) := by decide +kernel
theorem dX0_fileOf_112 : decode cX0_fileOf 112 = .ok (.aload_n 0, 1) := by decide +kernel
theorem dX0_fileOf_113 : decode cX0_fileOf 113 = .ok (.getfield 28, 3) := by decide +kernel
theorem dX0_fileOf_116 : decode cX0_fileOf 116 = .ok (.invokestatic 71, 3) := by decide +kernel
theorem dX0_fileOf_119 : decode cX0_fileOf 119 = .ok (.putfield 19, 3) := by decide +kernel
theorem dX0_fileOf_122 : decode cX0_fileOf 122 = .ok (.aload_n 1, 1) := by decide +kernel
theorem dX0_fileOf_123 : decode cX0_fileOf 123 = .ok (.getfield 19, 3) := by decide +kernel
theorem dX0_fileOf_126 : decode cX0_fileOf 126 = .ok (.areturn, 1) := by decide +kernel
theorem dX0_writeConstants_0 : decode cX0_writeConstants 0 = .ok (.aload_n 0, 1) := by decide +kernel
theorem dX0_writeConstants_1 : decode cX0_writeConstants 1 = .ok (.ldc 77, 2) := by decide +kernel
theorem dX0_writeConstants_3 : decode cX0_writeConstants 3 = .ok (.invokevirtual 78, 3) := by decide +kernel
theorem dX0_writeConstants_6 : decode cX0_writeConstants 6 = .ok (.aload_n 0, 1) := by decide +kernel
theorem dX0_writeConstants_7 : decode cX0_writeConstants 7 = .ok (.iconst 0, 1) := by decide +kernel
theorem dX0_writeConstants_8 : decode cX0_writeConstants 8 = .ok (.invokevirtual 68, 3) := by decide +kernel
theorem dX0_writeConstants_11 : decode cX0_writeConstants 11 = .ok (.aload_n 0, 1) := by decide +kernel
theorem dX0_writeConstants_12 : decode cX0_writeConstants 12 = .ok (.bipush 46, 2) := by decide +kernel
theorem dX0_writeConstants_14 : decode cX0_writeConstants 14 = .ok (.invokevirtual 68, 3) := by decide +kernel
theorem dX0_writeConstants_17 : decode cX0_writeConstants 17 = .ok (.aload_n 0, 1) := by decide +kernel
theorem dX0_writeConstants_18 : decode cX0_writeConstants 18 = .ok (.bipush 28, 2) := by decide +kernel
theorem dX0_writeConstants_20 : decode cX0_writeConstants 20 = .ok (.iload_n 2, 1) := by decide +kernel
theorem dX0_writeConstants_21 : decode cX0_writeConstants 21 = .ok (.iadd, 1) := by decide +kernel
theorem dX0_writeConstants_22 : decode cX0_writeConstants 22 = .ok (.invokevirtual 68, 3) := by decide +kernel
theorem dX0_writeConstants_25 : decode cX0_writeConstants 25 = .ok (.aload_n 0, 1) := by decide +kernel
theorem dX0_writeConstants_26 : decode cX0_writeConstants 26 = .ok (.bipush 80, 2) := by decide +kernel
theorem dX0_writeConstants_28 : decode cX0_writeConstants 28 = .ok (.iload_n 1, 1) := by decide +kernel
theorem dX0_writeConstants_29 : decode cX0_writeConstants 29 = .ok (.invokevirtual 81, 3) := by decide +kernel
theorem dX0_writeConstants_32 : decode cX0_writeConstants 32 = .ok (.aload_n 0, 1) := by decide +kernel
theorem dX0_writeConstants_33 : decode cX0_writeConstants 33 = .ok (.iconst 1, 1) := by decide +kernel
theorem dX0_writeConstants_34 : decode cX0_writeConstants 34 = .ok (.invokevirtual 85, 3) := by decide +kernel
theorem dX0_writeConstants_37 : decode cX0_writeConstants 37 = .ok (.aload_n 0, 1) := by decide +kernel
theorem dX0_writeConstants_38 : decode cX0_writeConstants 38 = .ok (.ldc 88, 2) := by decide +kernel
theorem dX0_writeConstants_40 : decode cX0_writeConstants 40 = .ok (.invokevirtual 89, 3) := by decide +kernel
theorem dX0_writeConstants_43 : decode cX0_writeConstants 43 = .ok (.aload_n 0, 1) := by decide +kernel
theorem dX0_writeConstants_44 : decode cX0_writeConstants 44 = .ok (.iconst 3, 1) := by decide +kernel
theorem dX0_writeConstants_45 : decode cX0_writeConstants 45 = .ok (.invokevirtual 85, 3) := by decide +kernel
theorem dX0_writeConstants_48 : decode cX0_writeConstants 48 = .ok (.aload_n 0, 1) := by decide +kernel
theorem dX0_writeConstants_49 : decode cX0_writeConstants 49 = .ok (.ldc 93, 2) := by decide +kernel
theorem dX0_writeConstants_51 : decode cX0_writeConstants 51 = .ok (.invokevirtual 89, 3) := by decide +kernel
theorem dX0_writeConstants_54 : decode cX0_writeConstants 54 = .ok (.aload_n 0, 1) := by decide +kernel
theorem dX0_writeConstants_55 : decode cX0_writeConstants 55 = .ok (.ldc 95, 2) := by decide +kernel
theorem dX0_writeConstants_57 : decode cX0_writeConstants 57 = .ok (.invokevirtual 89, 3) := by decide +kernel
theorem dX0_writeConstants_60 : decode cX0_writeConstants 60 = .ok (.aload_n 0, 1) := by decide +kernel
theorem dX0_writeConstants_61 : decode cX0_writeConstants 61 = .ok (.bipush 12, 2) := by decide +kernel
theorem dX0_writeConstants_63 : decode cX0_writeConstants 63 = .ok (.iconst 5, 1) := by decide +kernel
theorem dX0_writeConstants_64 : decode cX0_writeConstants 64 = .ok (.bipush 6, 2) := by decide +kernel
theorem dX0_writeConstants_66 : decode cX0_writeConstants 66 = .ok (.invokevirtual 96, 3) := by decide +kernel
theorem dX0_writeConstants_69 : decode cX0_writeConstants 69 = .ok (.aload_n 0, 1) := by decide +kernel
theorem dX0_writeConstants_70 : decode cX0_writeConstants 70 = .ok (.bipush 9, 2) := by decide +kernel
theorem dX0_writeConstants_72 : decode cX0_writeConstants 72 = .ok (.iconst 2, 1) := by decide +kernel
theorem dX0_writeConstants_73 : decode cX0_writeConstants 73 = .ok (.bipush 7, 2) := by decide +kernel
theorem dX0_writeConstants_75 : decode cX0_writeConstants 75 = .ok (.invokevirtual 96, 3) := by decide +kernel
theorem dX0_writeConstants_78 : decode cX0_writeConstants 78 = .ok (.aload_n 0, 1) := by decide +kernel
theorem dX0_writeConstants_79 : decode cX0_writeConstants 79 = .ok (.ldc 100, 2) := by decide +kernel
theorem dX0_writeConstants_81 : decode cX0_writeConstants 81 = .ok (.invokevirtual 89, 3) := by decide +kernel
theorem dX0_writeConstants_84 : decode cX0_writeConstants 84 = .ok (.aload_n 0, 1) := by decide +kernel
theorem dX0_writeConstants_85 : decode cX0_writeConstants 85 = .ok (.bipush 9, 2) := by decide +kernel
theorem dX0_writeConstants_87 : decode cX0_writeConstants 87 = .ok (.invokevirtual 85, 3) := by decide +kernel
theorem dX0_writeConstants_90 : decode cX0_writeConstants 90 = .ok (.aload_n 0, 1) := by decide +kernel
theorem dX0_writeConstants_91 : decode cX0_writeConstants 91 = .ok (.ldc 102, 2) := by decide +kernel
theorem dX0_writeConstants_93 : decode cX0_writeConstants 93 = .ok (.invokevirtual 89, 3) := by decide +kernel
theorem dX0_writeConstants_96 : decode cX0_writeConstants 96 = .ok (.aload_n 0, 1) := by decide +kernel
theorem dX0_writeConstants_97 : decode cX0_writeConstants 97 = .ok (.ldc 104, 2) := by decide +kernel
theorem dX0_writeConstants_99 : decode cX0_writeConstants 99 = .ok (.invokevirtual 89, 3) := by decide +kernel
theorem dX0_writeConstants_102 : decode cX0_writeConstants 102 = .ok (.aload_n 0, 1) := by decide +kernel
theorem dX0_writeConstants_103 : decode cX0_writeConstants 103 = .ok (.bipush 12, 2) := by decide +kernel
theorem dX0_writeConstants_105 : decode cX0_writeConstants 105 = .ok (.bipush 11, 2) := by decide +kernel
theorem dX0_writeConstants_107 : decode cX0_writeConstants 107 = .ok (.bipush 12, 2) := by decide +kernel
theorem dX0_writeConstants_109 : decode cX0_writeConstants 109 = .ok (.invokevirtual 96, 3) := by decide +kernel
theorem dX0_writeConstants_112 : decode cX0_writeConstants 112 = .ok (.aload_n 0, 1) := by decide +kernel
theorem dX0_writeConstants_113 : decode cX0_writeConstants 113 = .ok (.bipush 10, 2) := by decide +kernel
theorem dX0_writeConstants_115 : decode cX0_writeConstants 115 = .ok (.bipush 10, 2) := by decide +kernel
theorem dX0_writeConstants_117 : decode cX0_writeConstants 117 = .ok (.bipush 13, 2) := by decide +kernel
theorem dX0_writeConstants_119 : decode cX0_writeConstants 119 = .ok (.invokevirtual 96, 3) := by decide +kernel
theorem dX0_writeConstants_122 : decode cX0_writeConstants 122 = .ok (.aload_n 0, 1) := by decide +kernel
theorem dX0_writeConstants_123 : decode cX0_writeConstants 123 = .ok (.ldc 105, 2) := by decide +kernel
theorem dX0_writeConstants_125 : decode cX0_writeConstants 125 = .ok (.invokevirtual 89, 3) := by decide +kernel
theorem dX0_writeConstants_128 : decode cX0_writeConstants 128 = .ok (.aload_n 0, 1) := by decide +kernel
theorem dX0_writeConstants_129 : decode cX0_writeConstants 129 = .ok (.bipush 12, 2) := by decide +kernel
theorem dX0_writeConstants_131 : decode cX0_writeConstants 131 = .ok (.bipush 15, 2) := by decide +kernel
theorem dX0_writeConstants_133 : decode cX0_writeConstants 133 = .ok (.bipush 12, 2) := by decide +kernel
theorem dX0_writeConstants_135 : decode cX0_writeConstants 135 = .ok (.invokevirtual 96, 3) := by decide +kernel
theorem dX0_writeConstants_138 : decode cX0_writeConstants 138 = .ok (.aload_n 0, 1) := by decide +kernel
theorem dX0_writeConstants_139 : decode cX0_writeConstants 139 = .ok (.bipush 10, 2) := by decide +kernel
theorem dX0_writeConstants_141 : decode cX0_writeConstants 141 = .ok (.bipush 10, 2) := by decide +kernel
theorem dX0_writeConstants_143 : decode cX0_writeConstants 143 = .ok (.bipush 16, 2) := by decide +kernel
theorem dX0_writeConstants_145 : decode cX0_writeConstants 145 = .ok (.invokevirtual 96, 3) := by decide +kernel
theorem dX0_writeConstants_148 : decode cX0_writeConstants 148 = .ok (.aload_n 0, 1) := by decide +kernel
theorem dX0_writeConstants_149 : decode cX0_writeConstants 149 = .ok (.ldc 107, 2) := by decide +kernel
theorem dX0_writeConstants_151 : decode cX0_writeConstants 151 = .ok (.invokevirtual 89, 3) := by decide +kernel
theorem dX0_writeConstants_154 : decode cX0_writeConstants 154 = .ok (.aload_n 0, 1) := by decide +kernel
theorem dX0_writeConstants_155 : decode cX0_writeConstants 155 = .ok (.bipush 12, 2) := by decide +kernel
theorem dX0_writeConstants_157 : decode cX0_writeConstants 157 = .ok (.bipush 18, 2) := by decide +kernel
theorem dX0_writeConstants_159 : decode cX0_writeConstants 159 = .ok (.bipush 12, 2) := by decide +kernel
theorem dX0_writeConstants_161 : decode cX0_writeConstants 161 = .ok (.invokevirtual 96, 3) := by decide +kernel
theorem dX0_writeConstants_164 : decode cX0_writeConstants 164 = .ok (.aload_n 0, 1) := by decide +kernel
theorem dX0_writeConstants_165 : decode cX0_writeConstants 165 = .ok (.bipush 10, 2) := by decide +kernel
theorem dX0_writeConstants_167 : decode cX0_writeConstants 167 = .ok (.bipush 10, 2) := by decide +kernel
theorem dX0_writeConstants_169 : decode cX0_writeConstants 169 = .ok (.bipush 19, 2) := by decide +kernel
theorem dX0_writeConstants_171 : decode cX0_writeConstants 171 = .ok (.invokevirtual 96, 3) := by decide +kernel
theorem dX0_writeConstants_174 : decode cX0_writeConstants 174 = .ok (.aload_n 0, 1) := by decide +kernel
theorem dX0_writeConstants_175 : decode cX0_writeConstants 175 = .ok (.ldc 109, 2) := by decide +kernel
theorem dX0_writeConstants_177 : decode cX0_writeConstants 177 = .ok (.invokevirtual 89, 3) := by decide +kernel
theorem dX0_writeConstants_180 : decode cX0_writeConstants 180 = .ok (.aload_n 0, 1) := by decide +kernel
theorem dX0_writeConstants_181 : decode cX0_writeConstants 181 = .ok (.bipush 12, 2) := by decide +kernel
theorem dX0_writeConstants_183 : decode cX0_writeConstants 183 = .ok (.bipush 21, 2) := by decide +kernel
theorem dX0_writeConstants_185 : decode cX0_writeConstants 185 = .ok (.bipush 12, 2) := by decide +kernel
theorem dX0_writeConstants_187 : decode cX0_writeConstants 187 = .ok (.invokevirtual 96, 3) := by decide +kernel
theorem dX0_writeConstants_190 : decode cX0_writeConstants 190 = .ok (.aload_n 0, 1) := by decide +kernel
theorem dX0_writeConstants_191 : decode cX0_writeConstants 191 = .ok (.bipush 10, 2) := by decide +kernel
theorem dX0_writeConstants_193 : decode cX0_writeConstants 193 = .ok (.bipush 10, 2) := by decide +kernel
theorem dX0_writeConstants_195 : decode cX0_writeConstants 195 = .ok (.bipush 22, 2) := by decide +kernel
theorem dX0_writeConstants_197 : decode cX0_writeConstants 197 = .ok (.invokevirtual 96, 3) := by decide +kernel
theorem dX0_writeConstants_200 : decode cX0_writeConstants 200 = .ok (.aload_n 0, 1) := by decide +kernel
theorem dX0_writeConstants_201 : decode cX0_writeConstants 201 = .ok (.ldc 111, 2) := by decide +kernel
theorem dX0_writeConstants_203 : decode cX0_writeConstants 203 = .ok (.invokevirtual 89, 3) := by decide +kernel
theorem dX0_writeConstants_206 : decode cX0_writeConstants 206 = .ok (.aload_n 0, 1) := by decide +kernel
theorem dX0_writeConstants_207 : decode cX0_writeConstants 207 = .ok (.ldc 113, 2) := by decide +kernel
theorem dX0_writeConstants_209 : decode cX0_writeConstants 209 = .ok (.invokevirtual 89, 3) := by decide +kernel
theorem dX0_writeConstants_212 : decode cX0_writeConstants 212 = .ok (.aload_n 0, 1) := by decide +kernel
theorem dX0_writeConstants_213 : decode cX0_writeConstants 213 = .ok (.ldc 115, 2) := by decide +kernel
theorem dX0_writeConstants_215 : decode cX0_writeConstants 215 = .ok (.invokevirtual 89, 3) := by decide +kernel
theorem dX0_writeConstants_218 : decode cX0_writeConstants 218 = .ok (.aload_n 0, 1) := by decide +kernel
theorem dX0_writeConstants_219 : decode cX0_writeConstants 219 = .ok (.ldc 117, 2) := by decide +kernel
theorem dX0_writeConstants_221 : decode cX0_writeConstants 221 = .ok (.invokevirtual 89, 3) := by decide +kernel
theorem dX0_writeConstants_224 : decode cX0_writeConstants 224 = .ok (.iconst 0, 1) := by decide +kernel
theorem dX0_writeConstants_225 : decode cX0_writeConstants 225 = .ok (.istore_n 3, 1) := by decide +kernel
theorem dX0_writeConstants_226 : decode cX0_writeConstants 226 = .ok (.iload_n 3, 1) := by decide +kernel
theorem dX0_writeConstants_227 : decode cX0_writeConstants 227 = .ok (.iload_n 2, 1) := by decide +kernel
theorem dX0_writeConstants_228 : decode cX0_writeConstants 228 = .ok (.if_icmp .ge 16, 3) := by decide +kernel
theorem dX0_writeConstants_231 : decode cX0_writeConstants 231 = .ok (.aload_n 0, 1) := by decide +kernel
theorem dX0_writeConstants_232 : decode cX0_writeConstants 232 = .ok (.bipush 109, 2) := by decide +kernel
theorem dX0_writeConstants_234 : decode cX0_writeConstants 234 = .ok (.iload_n 3, 1) := by decide +kernel
theorem dX0_writeConstants_235 : decode cX0_writeConstants 235 = .ok (.invokevirtual 81, 3) := by decide +kernel
theorem dX0_writeConstants_238 : decode cX0_writeConstants 238 = .ok (.iinc 3 1, 3) := by decide +kernel
theorem dX0_writeConstants_241 : decode cX0_writeConstants 241 = .ok (.goto (-15), 3) := by decide +kernel
theorem dX0_writeConstants_244 : decode cX0_writeConstants 244 = .ok (.return_, 1) := by decide +kernel
theorem dX0_writeFace_0 : decode cX0_writeFace 0 = .ok (.aload_n 0, 1) := by decide +kernel
theorem dX0_writeFace_1 : decode cX0_writeFace 1 = .ok (.bipush 33, 2) := by decide +kernel
theorem dX0_writeFace_3 : decode cX0_writeFace 3 = .ok (.invokevirtual 68, 3) := by decide +kernel
theorem dX0_writeFace_6 : decode cX0_writeFace 6 = .ok (.aload_n 0, 1) := by decide +kernel
theorem dX0_writeFace_7 : decode cX0_writeFace 7 = .ok (.iconst 2, 1) := by decide +kernel
theorem dX0_writeFace_8 : decode cX0_writeFace 8 = .ok (.invokevirtual 68, 3) := by decide +kernel
theorem dX0_writeFace_11 : decode cX0_writeFace 11 = .ok (.aload_n 0, 1) := by decide +kernel
theorem dX0_writeFace_12 : decode cX0_writeFace 12 = .ok (.iconst 4, 1) := by decide +kernel
theorem dX0_writeFace_13 : decode cX0_writeFace 13 = .ok (.invokevirtual 68, 3) := by decide +kernel
theorem dX0_writeFace_16 : decode cX0_writeFace 16 = .ok (.aload_n 0, 1) := by decide +kernel
theorem dX0_writeFace_17 : decode cX0_writeFace 17 = .ok (.iconst 0, 1) := by decide +kernel
theorem dX0_writeFace_18 : decode cX0_writeFace 18 = .ok (.invokevirtual 68, 3) := by decide +kernel
theorem dX0_writeFace_21 : decode cX0_writeFace 21 = .ok (.aload_n 0, 1) := by decide +kernel
theorem dX0_writeFace_22 : decode cX0_writeFace 22 = .ok (.iconst 1, 1) := by decide +kernel
theorem dX0_writeFace_23 : decode cX0_writeFace 23 = .ok (.invokevirtual 68, 3) := by decide +kernel
theorem dX0_writeFace_26 : decode cX0_writeFace 26 = .ok (.aload_n 0, 1) := by decide +kernel
theorem dX0_writeFace_27 : decode cX0_writeFace 27 = .ok (.bipush 8, 2) := by decide +kernel
theorem dX0_writeFace_29 : decode cX0_writeFace 29 = .ok (.invokevirtual 68, 3) := by decide +kernel
theorem dX0_writeFace_32 : decode cX0_writeFace 32 = .ok (.aload_n 0, 1) := by decide +kernel
theorem dX0_writeFace_33 : decode cX0_writeFace 33 = .ok (.iconst 5, 1) := by decide +kernel
theorem dX0_writeFace_34 : decode cX0_writeFace 34 = .ok (.invokevirtual 68, 3) := by decide +kernel
theorem dX0_writeFace_37 : decode cX0_writeFace 37 = .ok (.aload_n 0, 1) := by decide +kernel
theorem dX0_writeFace_38 : decode cX0_writeFace 38 = .ok (.bipush 6, 2) := by decide +kernel
theorem dX0_writeFace_40 : decode cX0_writeFace 40 = .ok (.invokevirtual 68, 3) := by decide +kernel
theorem dX0_writeFace_43 : decode cX0_writeFace 43 = .ok (.aload_n 0, 1) := by decide +kernel
theorem dX0_writeFace_44 : decode cX0_writeFace 44 = .ok (.iconst 0, 1) := by decide +kernel
theorem dX0_writeFace_45 : decode cX0_writeFace 45 = .ok (.invokevirtual 68, 3) := by decide +kernel
theorem dX0_writeFace_48 : decode cX0_writeFace 48 = .ok (.aload_n 0, 1) := by decide +kernel
theorem dX0_writeFace_49 : decode cX0_writeFace 49 = .ok (.iconst 1, 1) := by decide +kernel
theorem dX0_writeFace_50 : decode cX0_writeFace 50 = .ok (.iload_n 1, 1) := by decide +kernel
theorem dX0_writeFace_51 : decode cX0_writeFace 51 = .ok (.iadd, 1) := by decide +kernel
theorem dX0_writeFace_52 : decode cX0_writeFace 52 = .ok (.invokevirtual 68, 3) := by decide +kernel
theorem dX0_writeFace_55 : decode cX0_writeFace 55 = .ok (.return_, 1) := by decide +kernel
theorem dX0_writeStart_0 : decode cX0_writeStart 0 = .ok (.aload_n 1, 1) := by decide +kernel
theorem dX0_writeStart_1 : decode cX0_writeStart 1 = .ok (.getfield 118, 3) := by decide +kernel
theorem dX0_writeStart_4 : decode cX0_writeStart 4 = .ok (.ifCond .eq 8, 3) := by decide +kernel
theorem dX0_writeStart_7 : decode cX0_writeStart 7 = .ok (.bipush 12, 2) := by decide +kernel
theorem dX0_writeStart_9 : decode cX0_writeStart 9 = .ok (.goto 5, 3) := by decide +kernel
theorem dX0_writeStart_12 : decode cX0_writeStart 12 = .ok (.bipush 8, 2) := by decide +kernel
theorem dX0_writeStart_14 : decode cX0_writeStart 14 = .ok (.istore_n 2, 1) := by decide +kernel
theorem dX0_writeStart_15 : decode cX0_writeStart 15 = .ok (.aload_n 0, 1) := by decide +kernel
theorem dX0_writeStart_16 : decode cX0_writeStart 16 = .ok (.bipush 26, 2) := by decide +kernel
theorem dX0_writeStart_18 : decode cX0_writeStart 18 = .ok (.bipush 27, 2) := by decide +kernel
theorem dX0_writeStart_20 : decode cX0_writeStart 20 = .ok (.iconst 2, 1) := by decide +kernel
theorem dX0_writeStart_21 : decode cX0_writeStart 21 = .ok (.iconst 0, 1) := by decide +kernel
theorem dX0_writeStart_22 : decode cX0_writeStart 22 = .ok (.iload_n 2, 1) := by decide +kernel
theorem dX0_writeStart_23 : decode cX0_writeStart 23 = .ok (.invokevirtual 122, 3) := by decide +kernel
theorem dX0_writeStart_26 : decode cX0_writeStart 26 = .ok (.aload_n 1, 1) := by decide +kernel
theorem dX0_writeStart_27 : decode cX0_writeStart 27 = .ok (.getfield 118, 3) := by decide +kernel
theorem dX0_writeStart_30 : decode cX0_writeStart 30 = .ok (.ifCond .eq 25, 3) := by decide +kernel
theorem dX0_writeStart_33 : decode cX0_writeStart 33 = .ok (.aload_n 0, 1) := by decide +kernel
theorem dX0_writeStart_34 : decode cX0_writeStart 34 = .ok (.iconst 3, 1) := by decide +kernel
theorem dX0_writeStart_35 : decode cX0_writeStart 35 = .ok (.invokevirtual 126, 3) := by decide +kernel
theorem dX0_writeStart_38 : decode cX0_writeStart 38 = .ok (.aload_n 0, 1) := by decide +kernel
theorem dX0_writeStart_39 : decode cX0_writeStart 39 = .ok (.iconst 3, 1) := by decide +kernel
theorem dX0_writeStart_40 : decode cX0_writeStart 40 = .ok (.invokevirtual 126, 3) := by decide +kernel
theorem dX0_writeStart_43 : decode cX0_writeStart 43 = .ok (.aload_n 0, 1) := by decide +kernel
theorem dX0_writeStart_44 : decode cX0_writeStart 44 = .ok (.bipush 108, 2) := by decide +kernel
theorem dX0_writeStart_46 : decode cX0_writeStart 46 = .ok (.invokevirtual 126, 3) := by decide +kernel
theorem dX0_writeStart_49 : decode cX0_writeStart 49 = .ok (.aload_n 0, 1) := by decide +kernel
theorem dX0_writeStart_50 : decode cX0_writeStart 50 = .ok (.bipush 87, 2) := by decide +kernel
theorem dX0_writeStart_52 : decode cX0_writeStart 52 = .ok (.invokevirtual 126, 3) := by decide +kernel
theorem dX0_writeStart_55 : decode cX0_writeStart 55 = .ok (.aload_n 0, 1) := by decide +kernel
theorem dX0_writeStart_56 : decode cX0_writeStart 56 = .ok (.aload_n 1, 1) := by decide +kernel
theorem dX0_writeStart_57 : decode cX0_writeStart 57 = .ok (.getfield 129, 3) := by decide +kernel
theorem dX0_writeStart_60 : decode cX0_writeStart 60 = .ok (.invokevirtual 131, 3) := by decide +kernel
theorem dX0_writeStart_63 : decode cX0_writeStart 63 = .ok (.aload_n 0, 1) := by decide +kernel
theorem dX0_writeStart_64 : decode cX0_writeStart 64 = .ok (.sipush 188, 3) := by decide +kernel
theorem dX0_writeStart_67 : decode cX0_writeStart 67 = .ok (.invokevirtual 126, 3) := by decide +kernel
theorem dX0_writeStart_70 : decode cX0_writeStart 70 = .ok (.aload_n 0, 1) := by decide +kernel
theorem dX0_writeStart_71 : decode cX0_writeStart 71 = .ok (.bipush 8, 2) := by decide +kernel
theorem dX0_writeStart_73 : decode cX0_writeStart 73 = .ok (.invokevirtual 126, 3) := by decide +kernel
theorem dX0_writeStart_76 : decode cX0_writeStart 76 = .ok (.aload_n 0, 1) := by decide +kernel
theorem dX0_writeStart_77 : decode cX0_writeStart 77 = .ok (.sipush 179, 3) := by decide +kernel
theorem dX0_writeStart_80 : decode cX0_writeStart 80 = .ok (.bipush 8, 2) := by decide +kernel
theorem dX0_writeStart_82 : decode cX0_writeStart 82 = .ok (.invokevirtual 134, 3) := by decide +kernel
theorem dX0_writeStart_85 : decode cX0_writeStart 85 = .ok (.aload_n 0, 1) := by decide +kernel
theorem dX0_writeStart_86 : decode cX0_writeStart 86 = .ok (.sipush 177, 3) := by decide +kernel
theorem dX0_writeStart_89 : decode cX0_writeStart 89 = .ok (.invokevirtual 126, 3) := by decide +kernel
theorem dX0_writeStart_92 : decode cX0_writeStart 92 = .ok (.aload_n 0, 1) := by decide +kernel
theorem dX0_writeStart_93 : decode cX0_writeStart 93 = .ok (.invokevirtual 137, 3) := by decide +kernel
theorem dX0_writeStart_96 : decode cX0_writeStart 96 = .ok (.return_, 1) := by decide +kernel
theorem dX0_writeMember_0 : decode cX0_writeMember 0 = .ok (.aload_n 0, 1) := by decide +kernel
theorem dX0_writeMember_1 : decode cX0_writeMember 1 = .ok (.getfield 61, 3) := by decide +kernel
theorem dX0_writeMember_4 : decode cX0_writeMember 4 = .ok (.aload_n 0, 1) := by decide +kernel
theorem dX0_writeMember_5 : decode cX0_writeMember 5 = .ok (.getfield 52, 3) := by decide +kernel
theorem dX0_writeMember_8 : decode cX0_writeMember 8 = .ok (.isub, 1) := by decide +kernel
theorem dX0_writeMember_9 : decode cX0_writeMember 9 = .ok (.iconst 1, 1) := by decide +kernel
theorem dX0_writeMember_10 : decode cX0_writeMember 10 = .ok (.iadd, 1) := by decide +kernel
theorem dX0_writeMember_11 : decode cX0_writeMember 11 = .ok (.istore_n 3, 1) := by decide +kernel
theorem dX0_writeMember_12 : decode cX0_writeMember 12 = .ok (.aload_n 0, 1) := by decide +kernel
theorem dX0_writeMember_13 : decode cX0_writeMember 13 = .ok (.aload_n 1, 1) := by decide +kernel
theorem dX0_writeMember_14 : decode cX0_writeMember 14 = .ok (.bipush 16, 2) := by decide +kernel
theorem dX0_writeMember_16 : decode cX0_writeMember 16 = .ok (.iconst 4, 1) := by decide +kernel
theorem dX0_writeMember_17 : decode cX0_writeMember 17 = .ok (.iload_n 3, 1) := by decide +kernel
theorem dX0_writeMember_18 : decode cX0_writeMember 18 = .ok (.imul, 1) := by decide +kernel
theorem dX0_writeMember_19 : decode cX0_writeMember 19 = .ok (.iadd, 1) := by decide +kernel
theorem dX0_writeMember_20 : decode cX0_writeMember 20 = .ok (.invokevirtual 140, 3) := by decide +kernel
theorem dX0_writeMember_23 : decode cX0_writeMember 23 = .ok (.istore 4, 2) := by decide +kernel
theorem dX0_writeMember_25 : decode cX0_writeMember 25 = .ok (.aload_n 0, 1) := by decide +kernel
theorem dX0_writeMember_26 : decode cX0_writeMember 26 = .ok (.bipush 28, 2) := by decide +kernel
theorem dX0_writeMember_28 : decode cX0_writeMember 28 = .ok (.iload_n 2, 1) := by decide +kernel
theorem dX0_writeMember_29 : decode cX0_writeMember 29 = .ok (.iadd, 1) := by decide +kernel
theorem dX0_writeMember_30 : decode cX0_writeMember 30 = .ok (.bipush 25, 2) := by decide +kernel
theorem dX0_writeMember_32 : decode cX0_writeMember 32 = .ok (.iconst 5, 1) := by decide +kernel
theorem dX0_writeMember_33 : decode cX0_writeMember 33 = .ok (.iconst 1, 1) := by decide +kernel
theorem dX0_writeMember_34 : decode cX0_writeMember 34 = .ok (.iload 4, 2) := by decide +kernel
theorem dX0_writeMember_36 : decode cX0_writeMember 36 = .ok (.iconst 4, 1) := by decide +kernel
theorem dX0_writeMember_37 : decode cX0_writeMember 37 = .ok (.iadd, 1) := by decide +kernel
theorem dX0_writeMember_38 : decode cX0_writeMember 38 = .ok (.invokevirtual 122, 3) := by decide +kernel
theorem dX0_writeMember_41 : decode cX0_writeMember 41 = .ok (.aload_n 0, 1) := by decide +kernel
theorem dX0_writeMember_42 : decode cX0_writeMember 42 = .ok (.bipush 26, 2) := by decide +kernel
theorem dX0_writeMember_44 : decode cX0_writeMember 44 = .ok (.invokevirtual 126, 3) := by decide +kernel
theorem dX0_writeMember_47 : decode cX0_writeMember 47 = .ok (.aload_n 0, 1) := by decide +kernel
theorem dX0_writeMember_48 : decode cX0_writeMember 48 = .ok (.sipush 170, 3) := by decide +kernel
theorem dX0_writeMember_51 : decode cX0_writeMember 51 = .ok (.invokevirtual 126, 3) := by decide +kernel
theorem dX0_writeMember_54 : decode cX0_writeMember 54 = .ok (.aload_n 0, 1) := by decide +kernel
theorem dX0_writeMember_55 : decode cX0_writeMember 55 = .ok (.iconst 0, 1) := by decide +kernel
theorem dX0_writeMember_56 : decode cX0_writeMember 56 = .ok (.invokevirtual 68, 3) := by decide +kernel
theorem dX0_writeMember_59 : decode cX0_writeMember 59 = .ok (.aload_n 0, 1) := by decide +kernel
theorem dX0_writeMember_60 : decode cX0_writeMember 60 = .ok (.iload 4, 2) := by decide +kernel
theorem dX0_writeMember_62 : decode cX0_writeMember 62 = .ok (.iconst 1, 1) := by decide +kernel
theorem dX0_writeMember_63 : decode cX0_writeMember 63 = .ok (.isub, 1) := by decide +kernel
theorem dX0_writeMember_64 : decode cX0_writeMember 64 = .ok (.invokevirtual 78, 3) := by decide +kernel
theorem dX0_writeMember_67 : decode cX0_writeMember 67 = .ok (.aload_n 0, 1) := by decide +kernel
theorem dX0_writeMember_68 : decode cX0_writeMember 68 = .ok (.aload_n 0, 1) := by decide +kernel
theorem dX0_writeMember_69 : decode cX0_writeMember 69 = .ok (.getfield 52, 3) := by decide +kernel
theorem dX0_writeMember_72 : decode cX0_writeMember 72 = .ok (.invokevirtual 78, 3) := by decide +kernel
theorem dX0_writeMember_75 : decode cX0_writeMember 75 = .ok (.aload_n 0, 1) := by decide +kernel
theorem dX0_writeMember_76 : decode cX0_writeMember 76 = .ok (.aload_n 0, 1) := by decide +kernel
theorem dX0_writeMember_77 : decode cX0_writeMember 77 = .ok (.getfield 61, 3) := by decide +kernel
theorem dX0_writeMember_80 : decode cX0_writeMember 80 = .ok (.invokevirtual 78, 3) := by decide +kernel
theorem dX0_writeMember_83 : decode cX0_writeMember 83 = .ok (.iconst 0, 1) := by decide +kernel
theorem dX0_writeMember_84 : decode cX0_writeMember 84 = .ok (.istore 5, 2) := by decide +kernel
theorem dX0_writeMember_86 : decode cX0_writeMember 86 = .ok (.iload 5, 2) := by decide +kernel
theorem dX0_writeMember_88 : decode cX0_writeMember 88 = .ok (.iload_n 3, 1) := by decide +kernel
theorem dX0_writeMember_89 : decode cX0_writeMember 89 = .ok (.if_icmp .ge 32, 3) := by decide +kernel
theorem dX0_writeMember_92 : decode cX0_writeMember 92 = .ok (.iload 5, 2) := by decide +kernel
theorem dX0_writeMember_94 : decode cX0_writeMember 94 = .ok (.aload_n 0, 1) := by decide +kernel
theorem dX0_writeMember_95 : decode cX0_writeMember 95 = .ok (.getfield 15, 3) := by decide +kernel
theorem dX0_writeMember_98 : decode cX0_writeMember 98 = .ok (.arraylength, 1) := by decide +kernel
theorem dX0_writeMember_99 : decode cX0_writeMember 99 = .ok (.if_icmp .ge 22, 3) := by decide +kernel
theorem dX0_writeMember_102 : decode cX0_writeMember 102 = .ok (.aload_n 0, 1) := by decide +kernel
theorem dX0_writeMember_103 : decode cX0_writeMember 103 = .ok (.aload_n 0, 1) := by decide +kernel
theorem dX0_writeMember_104 : decode cX0_writeMember 104 = .ok (.getfield 15, 3) := by decide +kernel
theorem dX0_writeMember_107 : decode cX0_writeMember 107 = .ok (.iload 5, 2) := by decide +kernel
theorem dX0_writeMember_109 : decode cX0_writeMember 109 = .ok (.iaload, 1) := by decide +kernel
theorem dX0_writeMember_110 : decode cX0_writeMember 110 = .ok (.iconst 1, 1) := by decide +kernel
theorem dX0_writeMember_111 : decode cX0_writeMember 111 = .ok (.isub, 1) := by decide +kernel
theorem dX0_writeMember_112 : decode cX0_writeMember 112 = .ok (.invokevirtual 78, 3) := by decide +kernel
theorem dX0_writeMember_115 : decode cX0_writeMember 115 = .ok (.iinc 5 1, 3) := by decide +kernel
theorem dX0_writeMember_118 : decode cX0_writeMember 118 = .ok (.goto (-32), 3) := by decide +kernel
theorem dX0_writeMember_121 : decode cX0_writeMember 121 = .ok (.iconst 0, 1) := by decide +kernel
theorem dX0_writeMember_122 : decode cX0_writeMember 122 = .ok (.istore 5, 2) := by decide +kernel
theorem dX0_writeMember_124 : decode cX0_writeMember 124 = .ok (.iload 5, 2) := by decide +kernel
theorem dX0_writeMember_126 : decode cX0_writeMember 126 = .ok (.iload_n 3, 1) := by decide +kernel
theorem dX0_writeMember_127 : decode cX0_writeMember 127 = .ok (.if_icmp .ge 50, 3) := by decide +kernel
theorem dX0_writeMember_130 : decode cX0_writeMember 130 = .ok (.iload 5, 2) := by decide +kernel
theorem dX0_writeMember_132 : decode cX0_writeMember 132 = .ok (.aload_n 0, 1) := by decide +kernel
theorem dX0_writeMember_133 : decode cX0_writeMember 133 = .ok (.getfield 15, 3) := by decide +kernel
theorem dX0_writeMember_136 : decode cX0_writeMember 136 = .ok (.arraylength, 1) := by decide +kernel
theorem dX0_writeMember_137 : decode cX0_writeMember 137 = .ok (.if_icmp .ge 40, 3) := by decide +kernel
theorem dX0_writeMember_140 : decode cX0_writeMember 140 = .ok (.aload_n 1, 1) := by decide +kernel
theorem dX0_writeMember_141 : decode cX0_writeMember 141 = .ok (.aload_n 0, 1) := by decide +kernel
theorem dX0_writeMember_142 : decode cX0_writeMember 142 = .ok (.getfield 52, 3) := by decide +kernel
theorem dX0_writeMember_145 : decode cX0_writeMember 145 = .ok (.iload 5, 2) := by decide +kernel
theorem dX0_writeMember_147 : decode cX0_writeMember 147 = .ok (.iadd, 1) := by decide +kernel
theorem dX0_writeMember_148 : decode cX0_writeMember 148 = .ok (.invokevirtual 144, 3) := by decide +kernel
theorem dX0_writeMember_151 : decode cX0_writeMember 151 = .ok (.astore 6, 2) := by decide +kernel
theorem dX0_writeMember_153 : decode cX0_writeMember 153 = .ok (.aload 6, 2) := by decide +kernel
theorem dX0_writeMember_155 : decode cX0_writeMember 155 = .ok (.ifnull 16, 3) := by decide +kernel
theorem dX0_writeMember_158 : decode cX0_writeMember 158 = .ok (.aload_n 0, 1) := by decide +kernel
theorem dX0_writeMember_159 : decode cX0_writeMember 159 = .ok (.aload 6, 2) := by decide +kernel
theorem dX0_writeMember_161 : decode cX0_writeMember 161 = .ok (.aload_n 0, 1) := by decide +kernel
theorem dX0_writeMember_162 : decode cX0_writeMember 162 = .ok (.getfield 15, 3) := by decide +kernel
theorem dX0_writeMember_165 : decode cX0_writeMember 165 = .ok (.iload 5, 2) := by decide +kernel
theorem dX0_writeMember_167 : decode cX0_writeMember 167 = .ok (.iaload, 1) := by decide +kernel
theorem dX0_writeMember_168 : decode cX0_writeMember 168 = .ok (.invokevirtual 148, 3) := by decide +kernel
theorem dX0_writeMember_171 : decode cX0_writeMember 171 = .ok (.iinc 5 1, 3) := by decide +kernel
theorem dX0_writeMember_174 : decode cX0_writeMember 174 = .ok (.goto (-50), 3) := by decide +kernel
theorem dX0_writeMember_177 : decode cX0_writeMember 177 = .ok (.aload_n 0, 1) := by decide +kernel
theorem dX0_writeMember_178 : decode cX0_writeMember 178 = .ok (.bipush 17, 2) := by decide +kernel
theorem dX0_writeMember_180 : decode cX0_writeMember 180 = .ok (.aload_n 0, 1) := by decide +kernel
theorem dX0_writeMember_181 : decode cX0_writeMember 181 = .ok (.getfield 61, 3) := by decide +kernel
theorem dX0_writeMember_184 : decode cX0_writeMember 184 = .ok (.iconst 1, 1) := by decide +kernel
theorem dX0_writeMember_185 : decode cX0_writeMember 185 = .ok (.iadd, 1) := by decide +kernel
theorem dX0_writeMember_186 : decode cX0_writeMember 186 = .ok (.invokevirtual 134, 3) := by decide +kernel
theorem dX0_writeMember_189 : decode cX0_writeMember 189 = .ok (.aload_n 0, 1) := by decide +kernel
theorem dX0_writeMember_190 : decode cX0_writeMember 190 = .ok (.sipush 172, 3) := by decide +kernel
theorem dX0_writeMember_193 : decode cX0_writeMember 193 = .ok (.invokevirtual 126, 3) := by decide +kernel
theorem dX0_writeMember_196 : decode cX0_writeMember 196 = .ok (.aload_n 0, 1) := by decide +kernel
theorem dX0_writeMember_197 : decode cX0_writeMember 197 = .ok (.invokevirtual 137, 3) := by decide +kernel
theorem dX0_writeMember_200 : decode cX0_writeMember 200 = .ok (.return_, 1) := by decide +kernel
theorem dX0_layOutRows_0 : decode cX0_layOutRows 0 = .ok (.iload_n 2, 1) := by decide +kernel
theorem dX0_layOutRows_1 : decode cX0_layOutRows 1 = .ok (.istore_n 3, 1) := by decide +kernel
theorem dX0_layOutRows_2 : decode cX0_layOutRows 2 = .ok (.iconst 0, 1) := by decide +kernel
theorem dX0_layOutRows_3 : decode cX0_layOutRows 3 = .ok (.istore 4, 2) := by decide +kernel
theorem dX0_layOutRows_5 : decode cX0_layOutRows 5 = .ok (.iload 4, 2) := by decide +kernel
theorem dX0_layOutRows_7 : decode cX0_layOutRows 7 = .ok (.aload_n 0, 1) := by decide +kernel
theorem dX0_layOutRows_8 : decode cX0_layOutRows 8 = .ok (.getfield 61, 3) := by decide +kernel
theorem dX0_layOutRows_11 : decode cX0_layOutRows 11 = .ok (.aload_n 0, 1) := by decide +kernel
theorem dX0_layOutRows_12 : decode cX0_layOutRows 12 = .ok (.getfield 52, 3) := by decide +kernel
theorem dX0_layOutRows_15 : decode cX0_layOutRows 15 = .ok (.isub, 1) := by decide +kernel
theorem dX0_layOutRows_16 : decode cX0_layOutRows 16 = .ok (.if_icmp .gt 54, 3) := by decide +kernel
theorem dX0_layOutRows_19 : decode cX0_layOutRows 19 = .ok (.iload 4, 2) := by decide +kernel
theorem dX0_layOutRows_21 : decode cX0_layOutRows 21 = .ok (.aload_n 0, 1) := by decide +kernel
theorem dX0_layOutRows_22 : decode cX0_layOutRows 22 = .ok (.getfield 15, 3) := by decide +kernel
theorem dX0_layOutRows_25 : decode cX0_layOutRows 25 = .ok (.arraylength, 1) := by decide +kernel
theorem dX0_layOutRows_26 : decode cX0_layOutRows 26 = .ok (.if_icmp .ge 44, 3) := by decide +kernel
theorem dX0_layOutRows_29 : decode cX0_layOutRows 29 = .ok (.aload_n 0, 1) := by decide +kernel
theorem dX0_layOutRows_30 : decode cX0_layOutRows 30 = .ok (.getfield 15, 3) := by decide +kernel
theorem dX0_layOutRows_33 : decode cX0_layOutRows 33 = .ok (.iload 4, 2) := by decide +kernel
theorem dX0_layOutRows_35 : decode cX0_layOutRows 35 = .ok (.iload_n 3, 1) := by decide +kernel
theorem dX0_layOutRows_36 : decode cX0_layOutRows 36 = .ok (.iastore, 1) := by decide +kernel
theorem dX0_layOutRows_37 : decode cX0_layOutRows 37 = .ok (.aload_n 1, 1) := by decide +kernel
theorem dX0_layOutRows_38 : decode cX0_layOutRows 38 = .ok (.aload_n 0, 1) := by decide +kernel
theorem dX0_layOutRows_39 : decode cX0_layOutRows 39 = .ok (.getfield 52, 3) := by decide +kernel
theorem dX0_layOutRows_42 : decode cX0_layOutRows 42 = .ok (.iload 4, 2) := by decide +kernel
theorem dX0_layOutRows_44 : decode cX0_layOutRows 44 = .ok (.iadd, 1) := by decide +kernel
theorem dX0_layOutRows_45 : decode cX0_layOutRows 45 = .ok (.invokevirtual 144, 3) := by decide +kernel
theorem dX0_layOutRows_48 : decode cX0_layOutRows 48 = .ok (.astore 5, 2) := by decide +kernel
theorem dX0_layOutRows_50 : decode cX0_layOutRows 50 = .ok (.aload 5, 2) := by decide +kernel
theorem dX0_layOutRows_52 : decode cX0_layOutRows 52 = .ok (.ifnull 12, 3) := by decide +kernel
theorem dX0_layOutRows_55 : decode cX0_layOutRows 55 = .ok (.iload_n 3, 1) := by decide +kernel
theorem dX0_layOutRows_56 : decode cX0_layOutRows 56 = .ok (.aload_n 0, 1) := by decide +kernel
theorem dX0_layOutRows_57 : decode cX0_layOutRows 57 = .ok (.aload 5, 2) := by decide +kernel
theorem dX0_layOutRows_59 : decode cX0_layOutRows 59 = .ok (.invokevirtual 152, 3) := by decide +kernel
theorem dX0_layOutRows_62 : decode cX0_layOutRows 62 = .ok (.iadd, 1) := by decide +kernel
theorem dX0_layOutRows_63 : decode cX0_layOutRows 63 = .ok (.istore_n 3, 1) := by decide +kernel
theorem dX0_layOutRows_64 : decode cX0_layOutRows 64 = .ok (.iinc 4 1, 3) := by decide +kernel
theorem dX0_layOutRows_67 : decode cX0_layOutRows 67 = .ok (.goto (-62), 3) := by decide +kernel
theorem dX0_layOutRows_70 : decode cX0_layOutRows 70 = .ok (.iload_n 3, 1) := by decide +kernel
theorem dX0_layOutRows_71 : decode cX0_layOutRows 71 = .ok (.ireturn, 1) := by decide +kernel
theorem dX0_lengthOf_0 : decode cX0_lengthOf 0 = .ok (.aload_n 1, 1) := by decide +kernel
theorem dX0_lengthOf_1 : decode cX0_lengthOf 1 = .ok (.getfield 156, 3) := by decide +kernel
theorem dX0_lengthOf_4 : decode cX0_lengthOf 4 = .ok (.ifCond .lt 25, 3) := by decide +kernel
theorem dX0_lengthOf_7 : decode cX0_lengthOf 7 = .ok (.aload_n 1, 1) := by decide +kernel
theorem dX0_lengthOf_8 : decode cX0_lengthOf 8 = .ok (.getfield 156, 3) := by decide +kernel
theorem dX0_lengthOf_11 : decode cX0_lengthOf 11 = .ok (.getstatic 161, 3) := by decide +kernel
theorem dX0_lengthOf_14 : decode cX0_lengthOf 14 = .ok (.arraylength, 1) := by decide +kernel
theorem dX0_lengthOf_15 : decode cX0_lengthOf 15 = .ok (.if_icmp .ge 14, 3) := by decide +kernel
theorem dX0_lengthOf_18 : decode cX0_lengthOf 18 = .ok (.getstatic 161, 3) := by decide +kernel
theorem dX0_lengthOf_21 : decode cX0_lengthOf 21 = .ok (.aload_n 1, 1) := by decide +kernel
theorem dX0_lengthOf_22 : decode cX0_lengthOf 22 = .ok (.getfield 156, 3) := by decide +kernel
theorem dX0_lengthOf_25 : decode cX0_lengthOf 25 = .ok (.iaload, 1) := by decide +kernel
theorem dX0_lengthOf_26 : decode cX0_lengthOf 26 = .ok (.goto 4, 3) := by decide +kernel
theorem dX0_lengthOf_29 : decode cX0_lengthOf 29 = .ok (.iconst 0, 1) := by decide +kernel
theorem dX0_lengthOf_30 : decode cX0_lengthOf 30 = .ok (.istore_n 2, 1) := by decide +kernel
theorem dX0_lengthOf_31 : decode cX0_lengthOf 31 = .ok (.aload_n 1, 1) := by decide +kernel
theorem dX0_lengthOf_32 : decode cX0_lengthOf 32 = .ok (.getfield 156, 3) := by decide +kernel
theorem dX0_lengthOf_35 : decode cX0_lengthOf 35 = .ok (.bipush 8, 2) := by decide +kernel
theorem dX0_lengthOf_37 : decode cX0_lengthOf 37 = .ok (.if_icmp .eq 12, 3) := by decide +kernel
theorem dX0_lengthOf_40 : decode cX0_lengthOf 40 = .ok (.aload_n 1, 1) := by decide +kernel
theorem dX0_lengthOf_41 : decode cX0_lengthOf 41 = .ok (.getfield 156, 3) := by decide +kernel
theorem dX0_lengthOf_44 : decode cX0_lengthOf 44 = .ok (.bipush 9, 2) := by decide +kernel
theorem dX0_lengthOf_46 : decode cX0_lengthOf 46 = .ok (.if_icmp .ne 7, 3) := by decide +kernel
theorem dX0_lengthOf_49 : decode cX0_lengthOf 49 = .ok (.iconst 1, 1) := by decide +kernel
theorem dX0_lengthOf_50 : decode cX0_lengthOf 50 = .ok (.goto 4, 3) := by decide +kernel
theorem dX0_lengthOf_53 : decode cX0_lengthOf 53 = .ok (.iconst 0, 1) := by decide +kernel
theorem dX0_lengthOf_54 : decode cX0_lengthOf 54 = .ok (.istore_n 3, 1) := by decide +kernel
theorem dX0_lengthOf_55 : decode cX0_lengthOf 55 = .ok (.iload_n 3, 1) := by decide +kernel
theorem dX0_lengthOf_56 : decode cX0_lengthOf 56 = .ok (.ifCond .eq 16, 3) := by decide +kernel
theorem dX0_lengthOf_59 : decode cX0_lengthOf 59 = .ok (.iload_n 2, 1) := by decide +kernel
theorem dX0_lengthOf_60 : decode cX0_lengthOf 60 = .ok (.aload_n 0, 1) := by decide +kernel
theorem dX0_lengthOf_61 : decode cX0_lengthOf 61 = .ok (.aload_n 1, 1) := by decide +kernel
theorem dX0_lengthOf_62 : decode cX0_lengthOf 62 = .ok (.getfield 164, 3) := by decide +kernel
theorem dX0_lengthOf_65 : decode cX0_lengthOf 65 = .ok (.invokevirtual 167, 3) := by decide +kernel
theorem dX0_lengthOf_68 : decode cX0_lengthOf 68 = .ok (.iadd, 1) := by decide +kernel
theorem dX0_lengthOf_69 : decode cX0_lengthOf 69 = .ok (.goto 4, 3) := by decide +kernel
theorem dX0_lengthOf_72 : decode cX0_lengthOf 72 = .ok (.iload_n 2, 1) := by decide +kernel
theorem dX0_lengthOf_73 : decode cX0_lengthOf 73 = .ok (.ireturn, 1) := by decide +kernel
theorem dX0_jumpLength_0 : decode cX0_jumpLength 0 = .ok (.aload_n 0, 1) := by decide +kernel
theorem dX0_jumpLength_1 : decode cX0_jumpLength 1 = .ok (.iload_n 1, 1) := by decide +kernel
theorem dX0_jumpLength_2 : decode cX0_jumpLength 2 = .ok (.invokevirtual 170, 3) := by decide +kernel
theorem dX0_jumpLength_5 : decode cX0_jumpLength 5 = .ok (.ifCond .eq 7, 3) := by decide +kernel
theorem dX0_jumpLength_8 : decode cX0_jumpLength 8 = .ok (.iconst 3, 1) := by decide +kernel
theorem dX0_jumpLength_9 : decode cX0_jumpLength 9 = .ok (.goto 4, 3) := by decide +kernel
theorem dX0_jumpLength_12 : decode cX0_jumpLength 12 = .ok (.iconst 4, 1) := by decide +kernel
theorem dX0_jumpLength_13 : decode cX0_jumpLength 13 = .ok (.ireturn, 1) := by decide +kernel
theorem dX0_isInside_0 : decode cX0_isInside 0 = .ok (.iload_n 1, 1) := by decide +kernel
theorem dX0_isInside_1 : decode cX0_isInside 1 = .ok (.aload_n 0, 1) := by decide +kernel
theorem dX0_isInside_2 : decode cX0_isInside 2 = .ok (.getfield 52, 3) := by decide +kernel
theorem dX0_isInside_5 : decode cX0_isInside 5 = .ok (.if_icmp .lt 15, 3) := by decide +kernel
theorem dX0_isInside_8 : decode cX0_isInside 8 = .ok (.iload_n 1, 1) := by decide +kernel
theorem dX0_isInside_9 : decode cX0_isInside 9 = .ok (.aload_n 0, 1) := by decide +kernel
theorem dX0_isInside_10 : decode cX0_isInside 10 = .ok (.getfield 61, 3) := by decide +kernel
theorem dX0_isInside_13 : decode cX0_isInside 13 = .ok (.if_icmp .gt 7, 3) := by decide +kernel
theorem dX0_isInside_16 : decode cX0_isInside 16 = .ok (.iconst 1, 1) := by decide +kernel
theorem dX0_isInside_17 : decode cX0_isInside 17 = .ok (.goto 4, 3) := by decide +kernel
theorem dX0_isInside_20 : decode cX0_isInside 20 = .ok (.iconst 0, 1) := by decide +kernel
theorem dX0_isInside_21 : decode cX0_isInside 21 = .ok (.ireturn, 1) := by decide +kernel
theorem dX0_writeRow_0 : decode cX0_writeRow 0 = .ok (.aload_n 1, 1) := by decide +kernel
theorem dX0_writeRow_1 : decode cX0_writeRow 1 = .ok (.getfield 156, 3) := by decide +kernel
theorem dX0_writeRow_4 : decode cX0_writeRow 4 = .ok (.tableswitch 287 0 13 #[72, 97, 287, 287, 287, 287, 287, 122, 156, 198, 210, 223, 236, 249], 72) := by decide +kernel
theorem dX0_writeRow_76 : decode cX0_writeRow 76 = .ok (.aload_n 0, 1) := by decide +kernel
theorem dX0_writeRow_77 : decode cX0_writeRow 77 = .ok (.aload_n 1, 1) := by decide +kernel
theorem dX0_writeRow_78 : decode cX0_writeRow 78 = .ok (.getfield 174, 3) := by decide +kernel
theorem dX0_writeRow_81 : decode cX0_writeRow 81 = .ok (.invokevirtual 177, 3) := by decide +kernel
theorem dX0_writeRow_84 : decode cX0_writeRow 84 = .ok (.aload_n 0, 1) := by decide +kernel
theorem dX0_writeRow_85 : decode cX0_writeRow 85 = .ok (.aload_n 1, 1) := by decide +kernel
theorem dX0_writeRow_86 : decode cX0_writeRow 86 = .ok (.getfield 164, 3) := by decide +kernel
theorem dX0_writeRow_89 : decode cX0_writeRow 89 = .ok (.invokevirtual 131, 3) := by decide +kernel
theorem dX0_writeRow_92 : decode cX0_writeRow 92 = .ok (.aload_n 0, 1) := by decide +kernel
theorem dX0_writeRow_93 : decode cX0_writeRow 93 = .ok (.bipush 84, 2) := by decide +kernel
theorem dX0_writeRow_95 : decode cX0_writeRow 95 = .ok (.invokevirtual 126, 3) := by decide +kernel
theorem dX0_writeRow_98 : decode cX0_writeRow 98 = .ok (.goto 242, 3) := by decide +kernel
theorem dX0_writeRow_101 : decode cX0_writeRow 101 = .ok (.aload_n 0, 1) := by decide +kernel
theorem dX0_writeRow_102 : decode cX0_writeRow 102 = .ok (.aload_n 1, 1) := by decide +kernel
theorem dX0_writeRow_103 : decode cX0_writeRow 103 = .ok (.getfield 174, 3) := by decide +kernel
theorem dX0_writeRow_106 : decode cX0_writeRow 106 = .ok (.invokevirtual 177, 3) := by decide +kernel
theorem dX0_writeRow_109 : decode cX0_writeRow 109 = .ok (.aload_n 0, 1) := by decide +kernel
theorem dX0_writeRow_110 : decode cX0_writeRow 110 = .ok (.aload_n 1, 1) := by decide +kernel
theorem dX0_writeRow_111 : decode cX0_writeRow 111 = .ok (.getfield 164, 3) := by decide +kernel
theorem dX0_writeRow_114 : decode cX0_writeRow 114 = .ok (.invokevirtual 180, 3) := by decide +kernel
theorem dX0_writeRow_117 : decode cX0_writeRow 117 = .ok (.aload_n 0, 1) := by decide +kernel
theorem dX0_writeRow_118 : decode cX0_writeRow 118 = .ok (.bipush 84, 2) := by decide +kernel
theorem dX0_writeRow_120 : decode cX0_writeRow 120 = .ok (.invokevirtual 126, 3) := by decide +kernel
theorem dX0_writeRow_123 : decode cX0_writeRow 123 = .ok (.goto 217, 3) := by decide +kernel
theorem dX0_writeRow_126 : decode cX0_writeRow 126 = .ok (.aload_n 0, 1) := by decide +kernel
theorem dX0_writeRow_127 : decode cX0_writeRow 127 = .ok (.sipush 178, 3) := by decide +kernel
theorem dX0_writeRow_130 : decode cX0_writeRow 130 = .ok (.bipush 8, 2) := by decide +kernel
theorem dX0_writeRow_132 : decode cX0_writeRow 132 = .ok (.invokevirtual 134, 3) := by decide +kernel
theorem dX0_writeRow_135 : decode cX0_writeRow 135 = .ok (.aload_n 0, 1) := by decide +kernel
theorem dX0_writeRow_136 : decode cX0_writeRow 136 = .ok (.aload_n 1, 1) := by decide +kernel
theorem dX0_writeRow_137 : decode cX0_writeRow 137 = .ok (.getfield 174, 3) := by decide +kernel
theorem dX0_writeRow_140 : decode cX0_writeRow 140 = .ok (.invokevirtual 180, 3) := by decide +kernel
theorem dX0_writeRow_143 : decode cX0_writeRow 143 = .ok (.aload_n 0, 1) := by decide +kernel
theorem dX0_writeRow_144 : decode cX0_writeRow 144 = .ok (.aload_n 1, 1) := by decide +kernel
theorem dX0_writeRow_145 : decode cX0_writeRow 145 = .ok (.getfield 164, 3) := by decide +kernel
theorem dX0_writeRow_148 : decode cX0_writeRow 148 = .ok (.invokevirtual 180, 3) := by decide +kernel
theorem dX0_writeRow_151 : decode cX0_writeRow 151 = .ok (.aload_n 0, 1) := by decide +kernel
theorem dX0_writeRow_152 : decode cX0_writeRow 152 = .ok (.bipush 84, 2) := by decide +kernel
theorem dX0_writeRow_154 : decode cX0_writeRow 154 = .ok (.invokevirtual 126, 3) := by decide +kernel
theorem dX0_writeRow_157 : decode cX0_writeRow 157 = .ok (.goto 183, 3) := by decide +kernel
theorem dX0_writeRow_160 : decode cX0_writeRow 160 = .ok (.aload_n 0, 1) := by decide +kernel
theorem dX0_writeRow_161 : decode cX0_writeRow 161 = .ok (.aload_n 1, 1) := by decide +kernel
theorem dX0_writeRow_162 : decode cX0_writeRow 162 = .ok (.getfield 174, 3) := by decide +kernel
theorem dX0_writeRow_165 : decode cX0_writeRow 165 = .ok (.invokevirtual 180, 3) := by decide +kernel
theorem dX0_writeRow_168 : decode cX0_writeRow 168 = .ok (.aload_n 0, 1) := by decide +kernel
theorem dX0_writeRow_169 : decode cX0_writeRow 169 = .ok (.sipush 154, 3) := by decide +kernel
theorem dX0_writeRow_172 : decode cX0_writeRow 172 = .ok (.iconst 3, 1) := by decide +kernel
theorem dX0_writeRow_173 : decode cX0_writeRow 173 = .ok (.aload_n 0, 1) := by decide +kernel
theorem dX0_writeRow_174 : decode cX0_writeRow 174 = .ok (.aload_n 1, 1) := by decide +kernel
theorem dX0_writeRow_175 : decode cX0_writeRow 175 = .ok (.getfield 164, 3) := by decide +kernel
theorem dX0_writeRow_178 : decode cX0_writeRow 178 = .ok (.invokevirtual 167, 3) := by decide +kernel
theorem dX0_writeRow_181 : decode cX0_writeRow 181 = .ok (.iadd, 1) := by decide +kernel
theorem dX0_writeRow_182 : decode cX0_writeRow 182 = .ok (.invokevirtual 134, 3) := by decide +kernel
theorem dX0_writeRow_185 : decode cX0_writeRow 185 = .ok (.aload_n 0, 1) := by decide +kernel
theorem dX0_writeRow_186 : decode cX0_writeRow 186 = .ok (.aload_n 1, 1) := by decide +kernel
theorem dX0_writeRow_187 : decode cX0_writeRow 187 = .ok (.getfield 164, 3) := by decide +kernel
theorem dX0_writeRow_190 : decode cX0_writeRow 190 = .ok (.iload_n 2, 1) := by decide +kernel
theorem dX0_writeRow_191 : decode cX0_writeRow 191 = .ok (.bipush 6, 2) := by decide +kernel
theorem dX0_writeRow_193 : decode cX0_writeRow 193 = .ok (.iadd, 1) := by decide +kernel
theorem dX0_writeRow_194 : decode cX0_writeRow 194 = .ok (.iconst 3, 1) := by decide +kernel
theorem dX0_writeRow_195 : decode cX0_writeRow 195 = .ok (.iadd, 1) := by decide +kernel
theorem dX0_writeRow_196 : decode cX0_writeRow 196 = .ok (.invokevirtual 183, 3) := by decide +kernel
theorem dX0_writeRow_199 : decode cX0_writeRow 199 = .ok (.goto 141, 3) := by decide +kernel
theorem dX0_writeRow_202 : decode cX0_writeRow 202 = .ok (.aload_n 0, 1) := by decide +kernel
theorem dX0_writeRow_203 : decode cX0_writeRow 203 = .ok (.aload_n 1, 1) := by decide +kernel
theorem dX0_writeRow_204 : decode cX0_writeRow 204 = .ok (.getfield 164, 3) := by decide +kernel
theorem dX0_writeRow_207 : decode cX0_writeRow 207 = .ok (.iload_n 2, 1) := by decide +kernel
theorem dX0_writeRow_208 : decode cX0_writeRow 208 = .ok (.invokevirtual 183, 3) := by decide +kernel
theorem dX0_writeRow_211 : decode cX0_writeRow 211 = .ok (.goto 129, 3) := by decide +kernel
theorem dX0_writeRow_214 : decode cX0_writeRow 214 = .ok (.aload_n 0, 1) := by decide +kernel
theorem dX0_writeRow_215 : decode cX0_writeRow 215 = .ok (.aload_n 1, 1) := by decide +kernel
theorem dX0_writeRow_216 : decode cX0_writeRow 216 = .ok (.getfield 174, 3) := by decide +kernel
theorem dX0_writeRow_219 : decode cX0_writeRow 219 = .ok (.bipush 14, 2) := by decide +kernel
theorem dX0_writeRow_221 : decode cX0_writeRow 221 = .ok (.invokevirtual 186, 3) := by decide +kernel
theorem dX0_writeRow_224 : decode cX0_writeRow 224 = .ok (.goto 116, 3) := by decide +kernel
theorem dX0_writeRow_227 : decode cX0_writeRow 227 = .ok (.aload_n 0, 1) := by decide +kernel
theorem dX0_writeRow_228 : decode cX0_writeRow 228 = .ok (.aload_n 1, 1) := by decide +kernel
theorem dX0_writeRow_229 : decode cX0_writeRow 229 = .ok (.getfield 174, 3) := by decide +kernel
theorem dX0_writeRow_232 : decode cX0_writeRow 232 = .ok (.bipush 17, 2) := by decide +kernel
theorem dX0_writeRow_234 : decode cX0_writeRow 234 = .ok (.invokevirtual 186, 3) := by decide +kernel
theorem dX0_writeRow_237 : decode cX0_writeRow 237 = .ok (.goto 103, 3) := by decide +kernel
theorem dX0_writeRow_240 : decode cX0_writeRow 240 = .ok (.aload_n 0, 1) := by decide +kernel
theorem dX0_writeRow_241 : decode cX0_writeRow 241 = .ok (.aload_n 1, 1) := by decide +kernel
theorem dX0_writeRow_242 : decode cX0_writeRow 242 = .ok (.getfield 174, 3) := by decide +kernel
theorem dX0_writeRow_245 : decode cX0_writeRow 245 = .ok (.bipush 20, 2) := by decide +kernel
theorem dX0_writeRow_247 : decode cX0_writeRow 247 = .ok (.invokevirtual 186, 3) := by decide +kernel
theorem dX0_writeRow_250 : decode cX0_writeRow 250 = .ok (.goto 90, 3) := by decide +kernel
theorem dX0_writeRow_253 : decode cX0_writeRow 253 = .ok (.aload_n 0, 1) := by decide +kernel
theorem dX0_writeRow_254 : decode cX0_writeRow 254 = .ok (.aload_n 1, 1) := by decide +kernel
theorem dX0_writeRow_255 : decode cX0_writeRow 255 = .ok (.getfield 174, 3) := by decide +kernel
theorem dX0_writeRow_258 : decode cX0_writeRow 258 = .ok (.invokevirtual 180, 3) := by decide +kernel
theorem dX0_writeRow_261 : decode cX0_writeRow 261 = .ok (.aload_n 0, 1) := by decide +kernel
theorem dX0_writeRow_262 : decode cX0_writeRow 262 = .ok (.aload_n 1, 1) := by decide +kernel
theorem dX0_writeRow_263 : decode cX0_writeRow 263 = .ok (.getfield 164, 3) := by decide +kernel
theorem dX0_writeRow_266 : decode cX0_writeRow 266 = .ok (.invokevirtual 131, 3) := by decide +kernel
theorem dX0_writeRow_269 : decode cX0_writeRow 269 = .ok (.aload_n 0, 1) := by decide +kernel
theorem dX0_writeRow_270 : decode cX0_writeRow 270 = .ok (.sipush 164, 3) := by decide +kernel
theorem dX0_writeRow_273 : decode cX0_writeRow 273 = .ok (.bipush 8, 2) := by decide +kernel
theorem dX0_writeRow_275 : decode cX0_writeRow 275 = .ok (.invokevirtual 134, 3) := by decide +kernel
theorem dX0_writeRow_278 : decode cX0_writeRow 278 = .ok (.aload_n 0, 1) := by decide +kernel
theorem dX0_writeRow_279 : decode cX0_writeRow 279 = .ok (.aload_n 1, 1) := by decide +kernel
theorem dX0_writeRow_280 : decode cX0_writeRow 280 = .ok (.getfield 174, 3) := by decide +kernel
theorem dX0_writeRow_283 : decode cX0_writeRow 283 = .ok (.bipush 23, 2) := by decide +kernel
theorem dX0_writeRow_285 : decode cX0_writeRow 285 = .ok (.invokevirtual 186, 3) := by decide +kernel
theorem dX0_writeRow_288 : decode cX0_writeRow 288 = .ok (.goto 52, 3) := by decide +kernel
theorem dX0_writeRow_291 : decode cX0_writeRow 291 = .ok (.aload_n 0, 1) := by decide +kernel
theorem dX0_writeRow_292 : decode cX0_writeRow 292 = .ok (.aload_n 1, 1) := by decide +kernel
theorem dX0_writeRow_293 : decode cX0_writeRow 293 = .ok (.getfield 174, 3) := by decide +kernel
theorem dX0_writeRow_296 : decode cX0_writeRow 296 = .ok (.invokevirtual 177, 3) := by decide +kernel
theorem dX0_writeRow_299 : decode cX0_writeRow 299 = .ok (.aload_n 0, 1) := by decide +kernel
theorem dX0_writeRow_300 : decode cX0_writeRow 300 = .ok (.aload_n 1, 1) := by decide +kernel
theorem dX0_writeRow_301 : decode cX0_writeRow 301 = .ok (.getfield 174, 3) := by decide +kernel
theorem dX0_writeRow_304 : decode cX0_writeRow 304 = .ok (.invokevirtual 180, 3) := by decide +kernel
theorem dX0_writeRow_307 : decode cX0_writeRow 307 = .ok (.aload_n 0, 1) := by decide +kernel
theorem dX0_writeRow_308 : decode cX0_writeRow 308 = .ok (.aload_n 1, 1) := by decide +kernel
theorem dX0_writeRow_309 : decode cX0_writeRow 309 = .ok (.getfield 164, 3) := by decide +kernel
theorem dX0_writeRow_312 : decode cX0_writeRow 312 = .ok (.invokevirtual 180, 3) := by decide +kernel
theorem dX0_writeRow_315 : decode cX0_writeRow 315 = .ok (.aload_n 0, 1) := by decide +kernel
theorem dX0_writeRow_316 : decode cX0_writeRow 316 = .ok (.aload_n 0, 1) := by decide +kernel
theorem dX0_writeRow_317 : decode cX0_writeRow 317 = .ok (.aload_n 1, 1) := by decide +kernel
theorem dX0_writeRow_318 : decode cX0_writeRow 318 = .ok (.getfield 156, 3) := by decide +kernel
theorem dX0_writeRow_321 : decode cX0_writeRow 321 = .ok (.invokevirtual 189, 3) := by decide +kernel
theorem dX0_writeRow_324 : decode cX0_writeRow 324 = .ok (.invokevirtual 126, 3) := by decide +kernel
theorem dX0_writeRow_327 : decode cX0_writeRow 327 = .ok (.aload_n 0, 1) := by decide +kernel
theorem dX0_writeRow_328 : decode cX0_writeRow 328 = .ok (.sipush 145, 3) := by decide +kernel
theorem dX0_writeRow_331 : decode cX0_writeRow 331 = .ok (.invokevirtual 126, 3) := by decide +kernel
theorem dX0_writeRow_334 : decode cX0_writeRow 334 = .ok (.aload_n 0, 1) := by decide +kernel
theorem dX0_writeRow_335 : decode cX0_writeRow 335 = .ok (.bipush 84, 2) := by decide +kernel
theorem dX0_writeRow_337 : decode cX0_writeRow 337 = .ok (.invokevirtual 126, 3) := by decide +kernel
theorem dX0_writeRow_340 : decode cX0_writeRow 340 = .ok (.return_, 1) := by decide +kernel
theorem dX0_arithmeticOf_0 : decode cX0_arithmeticOf 0 = .ok (.iload_n 1, 1) := by decide +kernel
theorem dX0_arithmeticOf_1 : decode cX0_arithmeticOf 1 = .ok (.tableswitch 43 2 5 #[31, 34, 37, 40], 31) := by decide +kernel
theorem dX0_arithmeticOf_32 : decode cX0_arithmeticOf 32 = .ok (.bipush 96, 2) := by decide +kernel
theorem dX0_arithmeticOf_34 : decode cX0_arithmeticOf 34 = .ok (.ireturn, 1) := by decide +kernel
theorem dX0_arithmeticOf_35 : decode cX0_arithmeticOf 35 = .ok (.bipush 100, 2) := by decide +kernel
theorem dX0_arithmeticOf_37 : decode cX0_arithmeticOf 37 = .ok (.ireturn, 1) := by decide +kernel
theorem dX0_arithmeticOf_38 : decode cX0_arithmeticOf 38 = .ok (.bipush 104, 2) := by decide +kernel
theorem dX0_arithmeticOf_40 : decode cX0_arithmeticOf 40 = .ok (.ireturn, 1) := by decide +kernel
theorem dX0_arithmeticOf_41 : decode cX0_arithmeticOf 41 = .ok (.bipush 108, 2) := by decide +kernel
theorem dX0_arithmeticOf_43 : decode cX0_arithmeticOf 43 = .ok (.ireturn, 1) := by decide +kernel
theorem dX0_arithmeticOf_44 : decode cX0_arithmeticOf 44 = .ok (.bipush 112, 2) := by decide +kernel
theorem dX0_arithmeticOf_46 : decode cX0_arithmeticOf 46 = .ok (.ireturn, 1) := by decide +kernel
theorem dX0_address_0 : decode cX0_address 0 = .ok (.aload_n 0, 1) := by decide +kernel
theorem dX0_address_1 : decode cX0_address 1 = .ok (.sipush 178, 3) := by decide +kernel
theorem dX0_address_4 : decode cX0_address 4 = .ok (.bipush 8, 2) := by decide +kernel
theorem dX0_address_6 : decode cX0_address 6 = .ok (.invokevirtual 134, 3) := by decide +kernel
theorem dX0_address_9 : decode cX0_address 9 = .ok (.aload_n 0, 1) := by decide +kernel
theorem dX0_address_10 : decode cX0_address 10 = .ok (.iload_n 1, 1) := by decide +kernel
theorem dX0_address_11 : decode cX0_address 11 = .ok (.invokevirtual 131, 3) := by decide +kernel
theorem dX0_address_14 : decode cX0_address 14 = .ok (.return_, 1) := by decide +kernel
theorem dX0_load_0 : decode cX0_load 0 = .ok (.aload_n 0, 1) := by decide +kernel
theorem dX0_load_1 : decode cX0_load 1 = .ok (.sipush 178, 3) := by decide +kernel
theorem dX0_load_4 : decode cX0_load 4 = .ok (.bipush 8, 2) := by decide +kernel
theorem dX0_load_6 : decode cX0_load 6 = .ok (.invokevirtual 134, 3) := by decide +kernel
theorem dX0_load_9 : decode cX0_load 9 = .ok (.aload_n 0, 1) := by decide +kernel
theorem dX0_load_10 : decode cX0_load 10 = .ok (.iload_n 1, 1) := by decide +kernel
theorem dX0_load_11 : decode cX0_load 11 = .ok (.invokevirtual 131, 3) := by decide +kernel
theorem dX0_load_14 : decode cX0_load 14 = .ok (.aload_n 0, 1) := by decide +kernel
theorem dX0_load_15 : decode cX0_load 15 = .ok (.bipush 51, 2) := by decide +kernel
theorem dX0_load_17 : decode cX0_load 17 = .ok (.invokevirtual 126, 3) := by decide +kernel
theorem dX0_load_20 : decode cX0_load 20 = .ok (.return_, 1) := by decide +kernel
theorem dX0_hand_0 : decode cX0_hand 0 = .ok (.aload_n 0, 1) := by decide +kernel
theorem dX0_hand_1 : decode cX0_hand 1 = .ok (.iload_n 1, 1) := by decide +kernel
theorem dX0_hand_2 : decode cX0_hand 2 = .ok (.invokevirtual 131, 3) := by decide +kernel
theorem dX0_hand_5 : decode cX0_hand 5 = .ok (.aload_n 0, 1) := by decide +kernel
theorem dX0_hand_6 : decode cX0_hand 6 = .ok (.sipush 184, 3) := by decide +kernel
theorem dX0_hand_9 : decode cX0_hand 9 = .ok (.iload_n 2, 1) := by decide +kernel
theorem dX0_hand_10 : decode cX0_hand 10 = .ok (.invokevirtual 134, 3) := by decide +kernel
theorem dX0_hand_13 : decode cX0_hand 13 = .ok (.return_, 1) := by decide +kernel
theorem dX0_jump_0 : decode cX0_jump 0 = .ok (.iload_n 1, 1) := by decide +kernel
theorem dX0_jump_1 : decode cX0_jump 1 = .ok (.aload_n 0, 1) := by decide +kernel
theorem dX0_jump_2 : decode cX0_jump 2 = .ok (.getfield 52, 3) := by decide +kernel
theorem dX0_jump_5 : decode cX0_jump 5 = .ok (.isub, 1) := by decide +kernel
theorem dX0_jump_6 : decode cX0_jump 6 = .ok (.istore_n 3, 1) := by decide +kernel
theorem dX0_jump_7 : decode cX0_jump 7 = .ok (.aload_n 0, 1) := by decide +kernel
theorem dX0_jump_8 : decode cX0_jump 8 = .ok (.iload_n 1, 1) := by decide +kernel
theorem dX0_jump_9 : decode cX0_jump 9 = .ok (.invokevirtual 170, 3) := by decide +kernel
theorem dX0_jump_12 : decode cX0_jump 12 = .ok (.ifCond .eq 34, 3) := by decide +kernel
theorem dX0_jump_15 : decode cX0_jump 15 = .ok (.iload_n 3, 1) := by decide +kernel
theorem dX0_jump_16 : decode cX0_jump 16 = .ok (.ifCond .lt 30, 3) := by decide +kernel
theorem dX0_jump_19 : decode cX0_jump 19 = .ok (.iload_n 3, 1) := by decide +kernel
theorem dX0_jump_20 : decode cX0_jump 20 = .ok (.aload_n 0, 1) := by decide +kernel
theorem dX0_jump_21 : decode cX0_jump 21 = .ok (.getfield 15, 3) := by decide +kernel
theorem dX0_jump_24 : decode cX0_jump 24 = .ok (.arraylength, 1) := by decide +kernel
theorem dX0_jump_25 : decode cX0_jump 25 = .ok (.if_icmp .ge 21, 3) := by decide +kernel
theorem dX0_jump_28 : decode cX0_jump 28 = .ok (.aload_n 0, 1) := by decide +kernel
theorem dX0_jump_29 : decode cX0_jump 29 = .ok (.sipush 167, 3) := by decide +kernel
theorem dX0_jump_32 : decode cX0_jump 32 = .ok (.aload_n 0, 1) := by decide +kernel
theorem dX0_jump_33 : decode cX0_jump 33 = .ok (.getfield 15, 3) := by decide +kernel
theorem dX0_jump_36 : decode cX0_jump 36 = .ok (.iload_n 3, 1) := by decide +kernel
theorem dX0_jump_37 : decode cX0_jump 37 = .ok (.iaload, 1) := by decide +kernel
theorem dX0_jump_38 : decode cX0_jump 38 = .ok (.iload_n 2, 1) := by decide +kernel
theorem dX0_jump_39 : decode cX0_jump 39 = .ok (.isub, 1) := by decide +kernel
theorem dX0_jump_40 : decode cX0_jump 40 = .ok (.invokevirtual 134, 3) := by decide +kernel
theorem dX0_jump_43 : decode cX0_jump 43 = .ok (.goto 17, 3) := by decide +kernel
theorem dX0_jump_46 : decode cX0_jump 46 = .ok (.aload_n 0, 1) := by decide +kernel
theorem dX0_jump_47 : decode cX0_jump 47 = .ok (.bipush 17, 2) := by decide +kernel
theorem dX0_jump_49 : decode cX0_jump 49 = .ok (.iload_n 1, 1) := by decide +kernel
theorem dX0_jump_50 : decode cX0_jump 50 = .ok (.invokevirtual 134, 3) := by decide +kernel
theorem dX0_jump_53 : decode cX0_jump 53 = .ok (.aload_n 0, 1) := by decide +kernel
theorem dX0_jump_54 : decode cX0_jump 54 = .ok (.sipush 172, 3) := by decide +kernel
theorem dX0_jump_57 : decode cX0_jump 57 = .ok (.invokevirtual 126, 3) := by decide +kernel
theorem dX0_jump_60 : decode cX0_jump 60 = .ok (.return_, 1) := by decide +kernel
theorem dX0_push_0 : decode cX0_push 0 = .ok (.aload_n 0, 1) := by decide +kernel
theorem dX0_push_1 : decode cX0_push 1 = .ok (.bipush 16, 2) := by decide +kernel
theorem dX0_push_3 : decode cX0_push 3 = .ok (.invokevirtual 126, 3) := by decide +kernel
theorem dX0_push_6 : decode cX0_push 6 = .ok (.aload_n 0, 1) := by decide +kernel
theorem dX0_push_7 : decode cX0_push 7 = .ok (.iload_n 1, 1) := by decide +kernel
theorem dX0_push_8 : decode cX0_push 8 = .ok (.invokevirtual 126, 3) := by decide +kernel
theorem dX0_push_11 : decode cX0_push 11 = .ok (.return_, 1) := by decide +kernel
theorem dX0_withIndex_0 : decode cX0_withIndex 0 = .ok (.aload_n 0, 1) := by decide +kernel
theorem dX0_withIndex_1 : decode cX0_withIndex 1 = .ok (.iload_n 1, 1) := by decide +kernel
theorem dX0_withIndex_2 : decode cX0_withIndex 2 = .ok (.invokevirtual 126, 3) := by decide +kernel
theorem dX0_withIndex_5 : decode cX0_withIndex 5 = .ok (.aload_n 0, 1) := by decide +kernel
theorem dX0_withIndex_6 : decode cX0_withIndex 6 = .ok (.iload_n 2, 1) := by decide +kernel
theorem dX0_withIndex_7 : decode cX0_withIndex 7 = .ok (.bipush 8, 2) := by decide +kernel
theorem dX0_withIndex_9 : decode cX0_withIndex 9 = .ok (.ishr, 1) := by decide +kernel
theorem dX0_withIndex_10 : decode cX0_withIndex 10 = .ok (.invokevirtual 126, 3) := by decide +kernel
theorem dX0_withIndex_13 : decode cX0_withIndex 13 = .ok (.aload_n 0, 1) := by decide +kernel
theorem dX0_withIndex_14 : decode cX0_withIndex 14 = .ok (.iload_n 2, 1) := by decide +kernel
theorem dX0_withIndex_15 : decode cX0_withIndex 15 = .ok (.invokevirtual 126, 3) := by decide +kernel
theorem dX0_withIndex_18 : decode cX0_withIndex 18 = .ok (.return_, 1) := by decide +kernel
theorem dX0_methodHead_0 : decode cX0_methodHead 0 = .ok (.aload_n 0, 1) := by decide +kernel
theorem dX0_methodHead_1 : decode cX0_methodHead 1 = .ok (.bipush 8, 2) := by decide +kernel
theorem dX0_methodHead_3 : decode cX0_methodHead 3 = .ok (.invokevirtual 68, 3) := by decide +kernel
theorem dX0_methodHead_6 : decode cX0_methodHead 6 = .ok (.aload_n 0, 1) := by decide +kernel
theorem dX0_methodHead_7 : decode cX0_methodHead 7 = .ok (.iload_n 1, 1) := by decide +kernel
theorem dX0_methodHead_8 : decode cX0_methodHead 8 = .ok (.invokevirtual 68, 3) := by decide +kernel
theorem dX0_methodHead_11 : decode cX0_methodHead 11 = .ok (.aload_n 0, 1) := by decide +kernel
theorem dX0_methodHead_12 : decode cX0_methodHead 12 = .ok (.iload_n 2, 1) := by decide +kernel
theorem dX0_methodHead_13 : decode cX0_methodHead 13 = .ok (.invokevirtual 68, 3) := by decide +kernel
theorem dX0_methodHead_16 : decode cX0_methodHead 16 = .ok (.aload_n 0, 1) := by decide +kernel
theorem dX0_methodHead_17 : decode cX0_methodHead 17 = .ok (.iconst 1, 1) := by decide +kernel
theorem dX0_methodHead_18 : decode cX0_methodHead 18 = .ok (.invokevirtual 68, 3) := by decide +kernel
theorem dX0_methodHead_21 : decode cX0_methodHead 21 = .ok (.aload_n 0, 1) := by decide +kernel
theorem dX0_methodHead_22 : decode cX0_methodHead 22 = .ok (.bipush 24, 2) := by decide +kernel
theorem dX0_methodHead_24 : decode cX0_methodHead 24 = .ok (.invokevirtual 68, 3) := by decide +kernel
theorem dX0_methodHead_27 : decode cX0_methodHead 27 = .ok (.aload_n 0, 1) := by decide +kernel
theorem dX0_methodHead_28 : decode cX0_methodHead 28 = .ok (.bipush 12, 2) := by decide +kernel
theorem dX0_methodHead_30 : decode cX0_methodHead 30 = .ok (.iload 5, 2) := by decide +kernel
theorem dX0_methodHead_32 : decode cX0_methodHead 32 = .ok (.iadd, 1) := by decide +kernel
theorem dX0_methodHead_33 : decode cX0_methodHead 33 = .ok (.invokevirtual 78, 3) := by decide +kernel
theorem dX0_methodHead_36 : decode cX0_methodHead 36 = .ok (.aload_n 0, 1) := by decide +kernel
theorem dX0_methodHead_37 : decode cX0_methodHead 37 = .ok (.iload_n 3, 1) := by decide +kernel
theorem dX0_methodHead_38 : decode cX0_methodHead 38 = .ok (.invokevirtual 68, 3) := by decide +kernel
theorem dX0_methodHead_41 : decode cX0_methodHead 41 = .ok (.aload_n 0, 1) := by decide +kernel
theorem dX0_methodHead_42 : decode cX0_methodHead 42 = .ok (.iload 4, 2) := by decide +kernel
theorem dX0_methodHead_44 : decode cX0_methodHead 44 = .ok (.invokevirtual 68, 3) := by decide +kernel
theorem dX0_methodHead_47 : decode cX0_methodHead 47 = .ok (.aload_n 0, 1) := by decide +kernel
theorem dX0_methodHead_48 : decode cX0_methodHead 48 = .ok (.iload 5, 2) := by decide +kernel
theorem dX0_methodHead_50 : decode cX0_methodHead 50 = .ok (.invokevirtual 78, 3) := by decide +kernel
theorem dX0_methodHead_53 : decode cX0_methodHead 53 = .ok (.return_, 1) := by decide +kernel
theorem dX0_methodEnd_0 : decode cX0_methodEnd 0 = .ok (.aload_n 0, 1) := by decide +kernel
theorem dX0_methodEnd_1 : decode cX0_methodEnd 1 = .ok (.iconst 0, 1) := by decide +kernel
theorem dX0_methodEnd_2 : decode cX0_methodEnd 2 = .ok (.invokevirtual 68, 3) := by decide +kernel
theorem dX0_methodEnd_5 : decode cX0_methodEnd 5 = .ok (.aload_n 0, 1) := by decide +kernel
theorem dX0_methodEnd_6 : decode cX0_methodEnd 6 = .ok (.iconst 0, 1) := by decide +kernel
theorem dX0_methodEnd_7 : decode cX0_methodEnd 7 = .ok (.invokevirtual 68, 3) := by decide +kernel
theorem dX0_methodEnd_10 : decode cX0_methodEnd 10 = .ok (.return_, 1) := by decide +kernel
theorem dX0_text_0 : decode cX0_text 0 = .ok (.aload_n 0, 1) := by decide +kernel
theorem dX0_text_1 : decode cX0_text 1 = .ok (.iconst 1, 1) := by decide +kernel
theorem dX0_text_2 : decode cX0_text 2 = .ok (.invokevirtual 126, 3) := by decide +kernel
theorem dX0_text_5 : decode cX0_text 5 = .ok (.aload_n 0, 1) := by decide +kernel
theorem dX0_text_6 : decode cX0_text 6 = .ok (.aload_n 1, 1) := by decide +kernel
theorem dX0_text_7 : decode cX0_text 7 = .ok (.invokevirtual 192, 3) := by decide +kernel
theorem dX0_text_10 : decode cX0_text 10 = .ok (.invokevirtual 68, 3) := by decide +kernel
theorem dX0_text_13 : decode cX0_text 13 = .ok (.iconst 0, 1) := by decide +kernel
theorem dX0_text_14 : decode cX0_text 14 = .ok (.istore_n 2, 1) := by decide +kernel
theorem dX0_text_15 : decode cX0_text 15 = .ok (.iload_n 2, 1) := by decide +kernel
theorem dX0_text_16 : decode cX0_text 16 = .ok (.aload_n 1, 1) := by decide +kernel
theorem dX0_text_17 : decode cX0_text 17 = .ok (.invokevirtual 192, 3) := by decide +kernel
theorem dX0_text_20 : decode cX0_text 20 = .ok (.if_icmp .ge 18, 3) := by decide +kernel
theorem dX0_text_23 : decode cX0_text 23 = .ok (.aload_n 0, 1) := by decide +kernel
theorem dX0_text_24 : decode cX0_text 24 = .ok (.aload_n 1, 1) := by decide +kernel
theorem dX0_text_25 : decode cX0_text 25 = .ok (.iload_n 2, 1) := by decide +kernel
theorem dX0_text_26 : decode cX0_text 26 = .ok (.invokevirtual 197, 3) := by decide +kernel
theorem dX0_text_29 : decode cX0_text 29 = .ok (.invokevirtual 126, 3) := by decide +kernel
theorem dX0_text_32 : decode cX0_text 32 = .ok (.iinc 2 1, 3) := by decide +kernel
theorem dX0_text_35 : decode cX0_text 35 = .ok (.goto (-20), 3) := by decide +kernel
theorem dX0_text_38 : decode cX0_text 38 = .ok (.return_, 1) := by decide +kernel
theorem dX0_numberedText_0 : decode cX0_numberedText 0 = .ok (.aload_n 0, 1) := by decide +kernel
theorem dX0_numberedText_1 : decode cX0_numberedText 1 = .ok (.iconst 1, 1) := by decide +kernel
theorem dX0_numberedText_2 : decode cX0_numberedText 2 = .ok (.invokevirtual 126, 3) := by decide +kernel
theorem dX0_numberedText_5 : decode cX0_numberedText 5 = .ok (.aload_n 0, 1) := by decide +kernel
theorem dX0_numberedText_6 : decode cX0_numberedText 6 = .ok (.iload_n 2, 1) := by decide +kernel
theorem dX0_numberedText_7 : decode cX0_numberedText 7 = .ok (.bipush 10, 2) := by decide +kernel
theorem dX0_numberedText_9 : decode cX0_numberedText 9 = .ok (.if_icmp .ge 7, 3) := by decide +kernel
theorem dX0_numberedText_12 : decode cX0_numberedText 12 = .ok (.iconst 2, 1) := by decide +kernel
theorem dX0_numberedText_13 : decode cX0_numberedText 13 = .ok (.goto 4, 3) := by decide +kernel
theorem dX0_numberedText_16 : decode cX0_numberedText 16 = .ok (.iconst 3, 1) := by decide +kernel
theorem dX0_numberedText_17 : decode cX0_numberedText 17 = .ok (.invokevirtual 68, 3) := by decide +kernel
theorem dX0_numberedText_20 : decode cX0_numberedText 20 = .ok (.aload_n 0, 1) := by decide +kernel
theorem dX0_numberedText_21 : decode cX0_numberedText 21 = .ok (.iload_n 1, 1) := by decide +kernel
theorem dX0_numberedText_22 : decode cX0_numberedText 22 = .ok (.invokevirtual 126, 3) := by decide +kernel
theorem dX0_numberedText_25 : decode cX0_numberedText 25 = .ok (.iload_n 2, 1) := by decide +kernel
theorem dX0_numberedText_26 : decode cX0_numberedText 26 = .ok (.bipush 10, 2) := by decide +kernel
theorem dX0_numberedText_28 : decode cX0_numberedText 28 = .ok (.if_icmp .lt 14, 3) := by decide +kernel
theorem dX0_numberedText_31 : decode cX0_numberedText 31 = .ok (.aload_n 0, 1) := by decide +kernel
theorem dX0_numberedText_32 : decode cX0_numberedText 32 = .ok (.bipush 48, 2) := by decide +kernel
theorem dX0_numberedText_34 : decode cX0_numberedText 34 = .ok (.iload_n 2, 1) := by decide +kernel
theorem dX0_numberedText_35 : decode cX0_numberedText 35 = .ok (.bipush 10, 2) := by decide +kernel
theorem dX0_numberedText_37 : decode cX0_numberedText 37 = .ok (.idiv, 1) := by decide +kernel
theorem dX0_numberedText_38 : decode cX0_numberedText 38 = .ok (.iadd, 1) := by decide +kernel
theorem dX0_numberedText_39 : decode cX0_numberedText 39 = .ok (.invokevirtual 126, 3) := by decide +kernel
theorem dX0_numberedText_42 : decode cX0_numberedText 42 = .ok (.aload_n 0, 1) := by decide +kernel
theorem dX0_numberedText_43 : decode cX0_numberedText 43 = .ok (.bipush 48, 2) := by decide +kernel
theorem dX0_numberedText_45 : decode cX0_numberedText 45 = .ok (.iload_n 2, 1) := by decide +kernel
theorem dX0_numberedText_46 : decode cX0_numberedText 46 = .ok (.bipush 10, 2) := by decide +kernel
theorem dX0_numberedText_48 : decode cX0_numberedText 48 = .ok (.irem, 1) := by decide +kernel
theorem dX0_numberedText_49 : decode cX0_numberedText 49 = .ok (.iadd, 1) := by decide +kernel
theorem dX0_numberedText_50 : decode cX0_numberedText 50 = .ok (.invokevirtual 126, 3) := by decide +kernel
theorem dX0_numberedText_53 : decode cX0_numberedText 53 = .ok (.return_, 1) := by decide +kernel
theorem dX0_classConstant_0 : decode cX0_classConstant 0 = .ok (.aload_n 0, 1) := by decide +kernel
theorem dX0_classConstant_1 : decode cX0_classConstant 1 = .ok (.bipush 7, 2) := by decide +kernel
theorem dX0_classConstant_3 : decode cX0_classConstant 3 = .ok (.invokevirtual 126, 3) := by decide +kernel
theorem dX0_classConstant_6 : decode cX0_classConstant 6 = .ok (.aload_n 0, 1) := by decide +kernel
theorem dX0_classConstant_7 : decode cX0_classConstant 7 = .ok (.iload_n 1, 1) := by decide +kernel
theorem dX0_classConstant_8 : decode cX0_classConstant 8 = .ok (.invokevirtual 68, 3) := by decide +kernel
theorem dX0_classConstant_11 : decode cX0_classConstant 11 = .ok (.return_, 1) := by decide +kernel
theorem dX0_pair_0 : decode cX0_pair 0 = .ok (.aload_n 0, 1) := by decide +kernel
theorem dX0_pair_1 : decode cX0_pair 1 = .ok (.iload_n 1, 1) := by decide +kernel
theorem dX0_pair_2 : decode cX0_pair 2 = .ok (.invokevirtual 126, 3) := by decide +kernel
theorem dX0_pair_5 : decode cX0_pair 5 = .ok (.aload_n 0, 1) := by decide +kernel
theorem dX0_pair_6 : decode cX0_pair 6 = .ok (.iload_n 2, 1) := by decide +kernel
theorem dX0_pair_7 : decode cX0_pair 7 = .ok (.invokevirtual 68, 3) := by decide +kernel
theorem dX0_pair_10 : decode cX0_pair 10 = .ok (.aload_n 0, 1) := by decide +kernel
theorem dX0_pair_11 : decode cX0_pair 11 = .ok (.iload_n 3, 1) := by decide +kernel
theorem dX0_pair_12 : decode cX0_pair 12 = .ok (.invokevirtual 68, 3) := by decide +kernel
theorem dX0_pair_15 : decode cX0_pair 15 = .ok (.return_, 1) := by decide +kernel
theorem dX0_u4_0 : decode cX0_u4 0 = .ok (.aload_n 0, 1) := by decide +kernel
theorem dX0_u4_1 : decode cX0_u4 1 = .ok (.iload_n 1, 1) := by decide +kernel
theorem dX0_u4_2 : decode cX0_u4 2 = .ok (.bipush 16, 2) := by decide +kernel
theorem dX0_u4_4 : decode cX0_u4 4 = .ok (.ishr, 1) := by decide +kernel
theorem dX0_u4_5 : decode cX0_u4 5 = .ok (.invokevirtual 68, 3) := by decide +kernel
theorem dX0_u4_8 : decode cX0_u4 8 = .ok (.aload_n 0, 1) := by decide +kernel
theorem dX0_u4_9 : decode cX0_u4 9 = .ok (.iload_n 1, 1) := by decide +kernel
theorem dX0_u4_10 : decode cX0_u4 10 = .ok (.invokevirtual 68, 3) := by decide +kernel
theorem dX0_u4_13 : decode cX0_u4 13 = .ok (.return_, 1) := by decide +kernel
theorem dX0_u2_0 : decode cX0_u2 0 = .ok (.aload_n 0, 1) := by decide +kernel
theorem dX0_u2_1 : decode cX0_u2 1 = .ok (.iload_n 1, 1) := by decide +kernel
theorem dX0_u2_2 : decode cX0_u2 2 = .ok (.bipush 8, 2) := by decide +kernel
theorem dX0_u2_4 : decode cX0_u2 4 = .ok (.ishr, 1) := by decide +kernel
theorem dX0_u2_5 : decode cX0_u2 5 = .ok (.invokevirtual 126, 3) := by decide +kernel
theorem dX0_u2_8 : decode cX0_u2 8 = .ok (.aload_n 0, 1) := by decide +kernel
theorem dX0_u2_9 : decode cX0_u2 9 = .ok (.iload_n 1, 1) := by decide +kernel
theorem dX0_u2_10 : decode cX0_u2 10 = .ok (.invokevirtual 126, 3) := by decide +kernel
theorem dX0_u2_13 : decode cX0_u2 13 = .ok (.return_, 1) := by decide +kernel
theorem dX0_u1_0 : decode cX0_u1 0 = .ok (.aload_n 0, 1) := by decide +kernel
theorem dX0_u1_1 : decode cX0_u1 1 = .ok (.getfield 28, 3) := by decide +kernel
theorem dX0_u1_4 : decode cX0_u1 4 = .ok (.ifCond .lt 36, 3) := by decide +kernel
theorem dX0_u1_7 : decode cX0_u1 7 = .ok (.aload_n 0, 1) := by decide +kernel
theorem dX0_u1_8 : decode cX0_u1 8 = .ok (.getfield 28, 3) := by decide +kernel
theorem dX0_u1_11 : decode cX0_u1 11 = .ok (.aload_n 0, 1) := by decide +kernel
theorem dX0_u1_12 : decode cX0_u1 12 = .ok (.getfield 11, 3) := by decide +kernel
theorem dX0_u1_15 : decode cX0_u1 15 = .ok (.arraylength, 1) := by decide +kernel
theorem dX0_u1_16 : decode cX0_u1 16 = .ok (.if_icmp .ge 24, 3) := by decide +kernel
theorem dX0_u1_19 : decode cX0_u1 19 = .ok (.aload_n 0, 1) := by decide +kernel
theorem dX0_u1_20 : decode cX0_u1 20 = .ok (.getfield 11, 3) := by decide +kernel
theorem dX0_u1_23 : decode cX0_u1 23 = .ok (.aload_n 0, 1) := by decide +kernel
theorem dX0_u1_24 : decode cX0_u1 24 = .ok (.getfield 28, 3) := by decide +kernel
theorem dX0_u1_27 : decode cX0_u1 27 = .ok (.iload_n 1, 1) := by decide +kernel
theorem dX0_u1_28 : decode cX0_u1 28 = .ok (.i2b, 1) := by decide +kernel
theorem dX0_u1_29 : decode cX0_u1 29 = .ok (.bastore, 1) := by decide +kernel
theorem dX0_u1_30 : decode cX0_u1 30 = .ok (.aload_n 0, 1) := by decide +kernel
theorem dX0_u1_31 : decode cX0_u1 31 = .ok (.dup, 1) := by decide +kernel
theorem dX0_u1_32 : decode cX0_u1 32 = .ok (.getfield 28, 3) := by decide +kernel
theorem dX0_u1_35 : decode cX0_u1 35 = .ok (.iconst 1, 1) := by decide +kernel
theorem dX0_u1_36 : decode cX0_u1 36 = .ok (.iadd, 1) := by decide +kernel
theorem dX0_u1_37 : decode cX0_u1 37 = .ok (.putfield 28, 3) := by decide +kernel
theorem dX0_u1_40 : decode cX0_u1 40 = .ok (.return_, 1) := by decide +kernel
theorem dX1_init_0 : decode cX1_init 0 = .ok (.aload_n 0, 1) := by decide +kernel
theorem dX1_init_1 : decode cX1_init 1 = .ok (.invokespecial 3, 3) := by decide +kernel
theorem dX1_init_4 : decode cX1_init 4 = .ok (.aload_n 0, 1) := by decide +kernel
theorem dX1_init_5 : decode cX1_init 5 = .ok (.aload_n 1, 1) := by decide +kernel
theorem dX1_init_6 : decode cX1_init 6 = .ok (.putfield 9, 3) := by decide +kernel
theorem dX1_init_9 : decode cX1_init 9 = .ok (.return_, 1) := by decide +kernel
theorem dX1_enter_0 : decode cX1_enter 0 = .ok (.aload_n 2, 1) := by decide +kernel
theorem dX1_enter_1 : decode cX1_enter 1 = .ok (.invokevirtual 15, 3) := by decide +kernel
theorem dX1_enter_4 : decode cX1_enter 4 = .ok (.ifCond .ne 14, 3) := by decide +kernel
theorem dX1_enter_7 : decode cX1_enter 7 = .ok (.aload_n 1, 1) := by decide +kernel
theorem dX1_enter_8 : decode cX1_enter 8 = .ok (.iconst 5, 1) := by decide +kernel
theorem dX1_enter_9 : decode cX1_enter 9 = .ok (.aload_n 2, 1) := by decide +kernel
theorem dX1_enter_10 : decode cX1_enter 10 = .ok (.getfield 21, 3) := by decide +kernel
theorem dX1_enter_13 : decode cX1_enter 13 = .ok (.invokevirtual 25, 3) := by decide +kernel
theorem dX1_enter_16 : decode cX1_enter 16 = .ok (.iconst 0, 1) := by decide +kernel
theorem dX1_enter_17 : decode cX1_enter 17 = .ok (.ireturn, 1) := by decide +kernel
theorem dX1_enter_18 : decode cX1_enter 18 = .ok (.iconst 1, 1) := by decide +kernel
theorem dX1_enter_19 : decode cX1_enter 19 = .ok (.istore 4, 2) := by decide +kernel
theorem dX1_enter_21 : decode cX1_enter 21 = .ok (.iconst 0, 1) := by decide +kernel
theorem dX1_enter_22 : decode cX1_enter 22 = .ok (.istore 5, 2) := by decide +kernel
theorem dX1_enter_24 : decode cX1_enter 24 = .ok (.iload 5, 2) := by decide +kernel
theorem dX1_enter_26 : decode cX1_enter 26 = .ok (.sipush 1000, 3) := by decide +kernel
theorem dX1_enter_29 : decode cX1_enter 29 = .ok (.if_icmp .gt 63, 3) := by decide +kernel
theorem dX1_enter_32 : decode cX1_enter 32 = .ok (.aload_n 2, 1) := by decide +kernel
theorem dX1_enter_33 : decode cX1_enter 33 = .ok (.iload 4, 2) := by decide +kernel
theorem dX1_enter_35 : decode cX1_enter 35 = .ok (.invokevirtual 31, 3) := by decide +kernel
theorem dX1_enter_38 : decode cX1_enter 38 = .ok (.astore 6, 2) := by decide +kernel
theorem dX1_enter_40 : decode cX1_enter 40 = .ok (.aload 6, 2) := by decide +kernel
theorem dX1_enter_42 : decode cX1_enter 42 = .ok (.ifnonnull 5, 3) := by decide +kernel
theorem dX1_enter_45 : decode cX1_enter 45 = .ok (.iconst 1, 1) := by decide +kernel
theorem dX1_enter_46 : decode cX1_enter 46 = .ok (.ireturn, 1) := by decide +kernel
theorem dX1_enter_47 : decode cX1_enter 47 = .ok (.aload_n 1, 1) := by decide +kernel
theorem dX1_enter_48 : decode cX1_enter 48 = .ok (.invokevirtual 35, 3) := by decide +kernel
theorem dX1_enter_51 : decode cX1_enter 51 = .ok (.ifCond .ne 15, 3) := by decide +kernel
theorem dX1_enter_54 : decode cX1_enter 54 = .ok (.aload_n 1, 1) := by decide +kernel
theorem dX1_enter_55 : decode cX1_enter 55 = .ok (.bipush 7, 2) := by decide +kernel
theorem dX1_enter_57 : decode cX1_enter 57 = .ok (.aload_n 2, 1) := by decide +kernel
theorem dX1_enter_58 : decode cX1_enter 58 = .ok (.getfield 21, 3) := by decide +kernel
theorem dX1_enter_61 : decode cX1_enter 61 = .ok (.invokevirtual 25, 3) := by decide +kernel
theorem dX1_enter_64 : decode cX1_enter 64 = .ok (.iconst 0, 1) := by decide +kernel
theorem dX1_enter_65 : decode cX1_enter 65 = .ok (.ireturn, 1) := by decide +kernel
theorem dX1_enter_66 : decode cX1_enter 66 = .ok (.aload_n 0, 1) := by decide +kernel
theorem dX1_enter_67 : decode cX1_enter 67 = .ok (.aload_n 1, 1) := by decide +kernel
theorem dX1_enter_68 : decode cX1_enter 68 = .ok (.aload_n 2, 1) := by decide +kernel
theorem dX1_enter_69 : decode cX1_enter 69 = .ok (.aload 6, 2) := by decide +kernel
theorem dX1_enter_71 : decode cX1_enter 71 = .ok (.iload 4, 2) := by decide +kernel
theorem dX1_enter_73 : decode cX1_enter 73 = .ok (.iload_n 3, 1) := by decide +kernel
theorem dX1_enter_74 : decode cX1_enter 74 = .ok (.invokevirtual 38, 3) := by decide +kernel
theorem dX1_enter_77 : decode cX1_enter 77 = .ok (.istore 4, 2) := by decide +kernel
theorem dX1_enter_79 : decode cX1_enter 79 = .ok (.iload 4, 2) := by decide +kernel
theorem dX1_enter_81 : decode cX1_enter 81 = .ok (.ifCond .ne 5, 3) := by decide +kernel
theorem dX1_enter_84 : decode cX1_enter 84 = .ok (.iconst 0, 1) := by decide +kernel
theorem dX1_enter_85 : decode cX1_enter 85 = .ok (.ireturn, 1) := by decide +kernel
theorem dX1_enter_86 : decode cX1_enter 86 = .ok (.iinc 5 1, 3) := by decide +kernel
theorem dX1_enter_89 : decode cX1_enter 89 = .ok (.goto (-65), 3) := by decide +kernel
theorem dX1_enter_92 : decode cX1_enter 92 = .ok (.iconst 0, 1) := by decide +kernel
theorem dX1_enter_93 : decode cX1_enter 93 = .ok (.ireturn, 1) := by decide +kernel
theorem dX1_follow_0 : decode cX1_follow 0 = .ok (.aload_n 3, 1) := by decide +kernel
theorem dX1_follow_1 : decode cX1_follow 1 = .ok (.getfield 42, 3) := by decide +kernel
theorem dX1_follow_4 : decode cX1_follow 4 = .ok (.tableswitch 115 8 12 #[36, 59, 64, 88, 101], 36) := by decide +kernel
theorem dX1_follow_40 : decode cX1_follow 40 = .ok (.aload_n 2, 1) := by decide +kernel
theorem dX1_follow_41 : decode cX1_follow 41 = .ok (.aload_n 3, 1) := by decide +kernel
theorem dX1_follow_42 : decode cX1_follow 42 = .ok (.getfield 48, 3) := by decide +kernel
theorem dX1_follow_45 : decode cX1_follow 45 = .ok (.invokevirtual 51, 3) := by decide +kernel
theorem dX1_follow_48 : decode cX1_follow 48 = .ok (.ifCond .ne 10, 3) := by decide +kernel
theorem dX1_follow_51 : decode cX1_follow 51 = .ok (.aload_n 3, 1) := by decide +kernel
theorem dX1_follow_52 : decode cX1_follow 52 = .ok (.getfield 55, 3) := by decide +kernel
theorem dX1_follow_55 : decode cX1_follow 55 = .ok (.goto 7, 3) := by decide +kernel
theorem dX1_follow_58 : decode cX1_follow 58 = .ok (.iload 4, 2) := by decide +kernel
theorem dX1_follow_60 : decode cX1_follow 60 = .ok (.iconst 1, 1) := by decide +kernel
theorem dX1_follow_61 : decode cX1_follow 61 = .ok (.iadd, 1) := by decide +kernel
theorem dX1_follow_62 : decode cX1_follow 62 = .ok (.ireturn, 1) := by decide +kernel
theorem dX1_follow_63 : decode cX1_follow 63 = .ok (.aload_n 3, 1) := by decide +kernel
theorem dX1_follow_64 : decode cX1_follow 64 = .ok (.getfield 55, 3) := by decide +kernel
theorem dX1_follow_67 : decode cX1_follow 67 = .ok (.ireturn, 1) := by decide +kernel
theorem dX1_follow_68 : decode cX1_follow 68 = .ok (.aload_n 0, 1) := by decide +kernel
theorem dX1_follow_69 : decode cX1_follow 69 = .ok (.aload_n 1, 1) := by decide +kernel
theorem dX1_follow_70 : decode cX1_follow 70 = .ok (.aload_n 2, 1) := by decide +kernel
theorem dX1_follow_71 : decode cX1_follow 71 = .ok (.aload_n 3, 1) := by decide +kernel
theorem dX1_follow_72 : decode cX1_follow 72 = .ok (.getfield 48, 3) := by decide +kernel
theorem dX1_follow_75 : decode cX1_follow 75 = .ok (.iload 5, 2) := by decide +kernel
theorem dX1_follow_77 : decode cX1_follow 77 = .ok (.invokevirtual 58, 3) := by decide +kernel
theorem dX1_follow_80 : decode cX1_follow 80 = .ok (.ifCond .eq 10, 3) := by decide +kernel
theorem dX1_follow_83 : decode cX1_follow 83 = .ok (.iload 4, 2) := by decide +kernel
theorem dX1_follow_85 : decode cX1_follow 85 = .ok (.iconst 1, 1) := by decide +kernel
theorem dX1_follow_86 : decode cX1_follow 86 = .ok (.iadd, 1) := by decide +kernel
theorem dX1_follow_87 : decode cX1_follow 87 = .ok (.goto 4, 3) := by decide +kernel
theorem dX1_follow_90 : decode cX1_follow 90 = .ok (.iconst 0, 1) := by decide +kernel
theorem dX1_follow_91 : decode cX1_follow 91 = .ok (.ireturn, 1) := by decide +kernel
theorem dX1_follow_92 : decode cX1_follow 92 = .ok (.aload_n 1, 1) := by decide +kernel
theorem dX1_follow_93 : decode cX1_follow 93 = .ok (.aload_n 3, 1) := by decide +kernel
theorem dX1_follow_94 : decode cX1_follow 94 = .ok (.getfield 48, 3) := by decide +kernel
theorem dX1_follow_97 : decode cX1_follow 97 = .ok (.invokevirtual 62, 3) := by decide +kernel
theorem dX1_follow_100 : decode cX1_follow 100 = .ok (.iload 4, 2) := by decide +kernel
theorem dX1_follow_102 : decode cX1_follow 102 = .ok (.iconst 1, 1) := by decide +kernel
theorem dX1_follow_103 : decode cX1_follow 103 = .ok (.iadd, 1) := by decide +kernel
theorem dX1_follow_104 : decode cX1_follow 104 = .ok (.ireturn, 1) := by decide +kernel
theorem dX1_follow_105 : decode cX1_follow 105 = .ok (.aload_n 1, 1) := by decide +kernel
theorem dX1_follow_106 : decode cX1_follow 106 = .ok (.aload_n 3, 1) := by decide +kernel
theorem dX1_follow_107 : decode cX1_follow 107 = .ok (.getfield 48, 3) := by decide +kernel
theorem dX1_follow_110 : decode cX1_follow 110 = .ok (.aload_n 2, 1) := by decide +kernel
theorem dX1_follow_111 : decode cX1_follow 111 = .ok (.getfield 21, 3) := by decide +kernel
theorem dX1_follow_114 : decode cX1_follow 114 = .ok (.invokevirtual 66, 3) := by decide +kernel
theorem dX1_follow_117 : decode cX1_follow 117 = .ok (.iconst 0, 1) := by decide +kernel
theorem dX1_follow_118 : decode cX1_follow 118 = .ok (.ireturn, 1) := by decide +kernel
theorem dX1_follow_119 : decode cX1_follow 119 = .ok (.aload_n 2, 1) := by decide +kernel
theorem dX1_follow_120 : decode cX1_follow 120 = .ok (.aload_n 3, 1) := by decide +kernel
theorem dX1_follow_121 : decode cX1_follow 121 = .ok (.invokevirtual 69, 3) := by decide +kernel
theorem dX1_follow_124 : decode cX1_follow 124 = .ok (.istore 6, 2) := by decide +kernel
theorem dX1_follow_126 : decode cX1_follow 126 = .ok (.iload 6, 2) := by decide +kernel
theorem dX1_follow_128 : decode cX1_follow 128 = .ok (.ifCond .ne 8, 3) := by decide +kernel
theorem dX1_follow_131 : decode cX1_follow 131 = .ok (.iload 4, 2) := by decide +kernel
theorem dX1_follow_133 : decode cX1_follow 133 = .ok (.iconst 1, 1) := by decide +kernel
theorem dX1_follow_134 : decode cX1_follow 134 = .ok (.iadd, 1) := by decide +kernel
theorem dX1_follow_135 : decode cX1_follow 135 = .ok (.ireturn, 1) := by decide +kernel
theorem dX1_follow_136 : decode cX1_follow 136 = .ok (.aload_n 1, 1) := by decide +kernel
theorem dX1_follow_137 : decode cX1_follow 137 = .ok (.iload 6, 2) := by decide +kernel
theorem dX1_follow_139 : decode cX1_follow 139 = .ok (.aload_n 2, 1) := by decide +kernel
theorem dX1_follow_140 : decode cX1_follow 140 = .ok (.getfield 21, 3) := by decide +kernel
theorem dX1_follow_143 : decode cX1_follow 143 = .ok (.invokevirtual 25, 3) := by decide +kernel
theorem dX1_follow_146 : decode cX1_follow 146 = .ok (.iconst 0, 1) := by decide +kernel
theorem dX1_follow_147 : decode cX1_follow 147 = .ok (.ireturn, 1) := by decide +kernel
theorem dX1_callProgram_0 : decode cX1_callProgram 0 = .ok (.iload 4, 2) := by decide +kernel
theorem dX1_callProgram_2 : decode cX1_callProgram 2 = .ok (.bipush 10, 2) := by decide +kernel
theorem dX1_callProgram_4 : decode cX1_callProgram 4 = .ok (.if_icmp .lt 14, 3) := by decide +kernel
theorem dX1_callProgram_7 : decode cX1_callProgram 7 = .ok (.aload_n 1, 1) := by decide +kernel
theorem dX1_callProgram_8 : decode cX1_callProgram 8 = .ok (.iconst 3, 1) := by decide +kernel
theorem dX1_callProgram_9 : decode cX1_callProgram 9 = .ok (.aload_n 2, 1) := by decide +kernel
theorem dX1_callProgram_10 : decode cX1_callProgram 10 = .ok (.getfield 21, 3) := by decide +kernel
theorem dX1_callProgram_13 : decode cX1_callProgram 13 = .ok (.invokevirtual 25, 3) := by decide +kernel
theorem dX1_callProgram_16 : decode cX1_callProgram 16 = .ok (.iconst 0, 1) := by decide +kernel
theorem dX1_callProgram_17 : decode cX1_callProgram 17 = .ok (.ireturn, 1) := by decide +kernel
theorem dX1_callProgram_18 : decode cX1_callProgram 18 = .ok (.aload_n 0, 1) := by decide +kernel
theorem dX1_callProgram_19 : decode cX1_callProgram 19 = .ok (.aload_n 1, 1) := by decide +kernel
theorem dX1_callProgram_20 : decode cX1_callProgram 20 = .ok (.aload_n 0, 1) := by decide +kernel
theorem dX1_callProgram_21 : decode cX1_callProgram 21 = .ok (.getfield 9, 3) := by decide +kernel
theorem dX1_callProgram_24 : decode cX1_callProgram 24 = .ok (.iload_n 3, 1) := by decide +kernel
theorem dX1_callProgram_25 : decode cX1_callProgram 25 = .ok (.invokevirtual 73, 3) := by decide +kernel
theorem dX1_callProgram_28 : decode cX1_callProgram 28 = .ok (.invokevirtual 79, 3) := by decide +kernel
theorem dX1_callProgram_31 : decode cX1_callProgram 31 = .ok (.astore 5, 2) := by decide +kernel
theorem dX1_callProgram_33 : decode cX1_callProgram 33 = .ok (.aload 5, 2) := by decide +kernel
theorem dX1_callProgram_35 : decode cX1_callProgram 35 = .ok (.ifnonnull 15, 3) := by decide +kernel
theorem dX1_callProgram_38 : decode cX1_callProgram 38 = .ok (.aload_n 1, 1) := by decide +kernel
theorem dX1_callProgram_39 : decode cX1_callProgram 39 = .ok (.bipush 6, 2) := by decide +kernel
theorem dX1_callProgram_41 : decode cX1_callProgram 41 = .ok (.aload_n 2, 1) := by decide +kernel
theorem dX1_callProgram_42 : decode cX1_callProgram 42 = .ok (.getfield 21, 3) := by decide +kernel
theorem dX1_callProgram_45 : decode cX1_callProgram 45 = .ok (.invokevirtual 25, 3) := by decide +kernel
theorem dX1_callProgram_48 : decode cX1_callProgram 48 = .ok (.iconst 0, 1) := by decide +kernel
theorem dX1_callProgram_49 : decode cX1_callProgram 49 = .ok (.ireturn, 1) := by decide +kernel
theorem dX1_callProgram_50 : decode cX1_callProgram 50 = .ok (.aload_n 0, 1) := by decide +kernel
theorem dX1_callProgram_51 : decode cX1_callProgram 51 = .ok (.aload_n 1, 1) := by decide +kernel
theorem dX1_callProgram_52 : decode cX1_callProgram 52 = .ok (.aload 5, 2) := by decide +kernel
theorem dX1_callProgram_54 : decode cX1_callProgram 54 = .ok (.iload 4, 2) := by decide +kernel
theorem dX1_callProgram_56 : decode cX1_callProgram 56 = .ok (.iconst 1, 1) := by decide +kernel
theorem dX1_callProgram_57 : decode cX1_callProgram 57 = .ok (.iadd, 1) := by decide +kernel
theorem dX1_callProgram_58 : decode cX1_callProgram 58 = .ok (.invokevirtual 83, 3) := by decide +kernel
theorem dX1_callProgram_61 : decode cX1_callProgram 61 = .ok (.ireturn, 1) := by decide +kernel
theorem dX1_calledClass_0 : decode cX1_calledClass 0 = .ok (.aload_n 2, 1) := by decide +kernel
theorem dX1_calledClass_1 : decode cX1_calledClass 1 = .ok (.ifnonnull 5, 3) := by decide +kernel
theorem dX1_calledClass_4 : decode cX1_calledClass 4 = .ok (.aconst_null, 1) := by decide +kernel
theorem dX1_calledClass_5 : decode cX1_calledClass 5 = .ok (.areturn, 1) := by decide +kernel
theorem dX1_calledClass_6 : decode cX1_calledClass 6 = .ok (.aload_n 1, 1) := by decide +kernel
theorem dX1_calledClass_7 : decode cX1_calledClass 7 = .ok (.aload_n 2, 1) := by decide +kernel
theorem dX1_calledClass_8 : decode cX1_calledClass 8 = .ok (.invokevirtual 87, 3) := by decide +kernel
theorem dX1_calledClass_11 : decode cX1_calledClass 11 = .ok (.astore_n 3, 1) := by decide +kernel
theorem dX1_calledClass_12 : decode cX1_calledClass 12 = .ok (.aload_n 3, 1) := by decide +kernel
theorem dX1_calledClass_13 : decode cX1_calledClass 13 = .ok (.ifnull 7, 3) := by decide +kernel
theorem dX1_calledClass_16 : decode cX1_calledClass 16 = .ok (.aload_n 3, 1) := by decide +kernel
theorem dX1_calledClass_17 : decode cX1_calledClass 17 = .ok (.goto 12, 3) := by decide +kernel
theorem dX1_calledClass_20 : decode cX1_calledClass 20 = .ok (.aload_n 0, 1) := by decide +kernel
theorem dX1_calledClass_21 : decode cX1_calledClass 21 = .ok (.getfield 9, 3) := by decide +kernel
theorem dX1_calledClass_24 : decode cX1_calledClass 24 = .ok (.aload_n 1, 1) := by decide +kernel
theorem dX1_calledClass_25 : decode cX1_calledClass 25 = .ok (.aload_n 2, 1) := by decide +kernel
theorem dX1_calledClass_26 : decode cX1_calledClass 26 = .ok (.invokevirtual 91, 3) := by decide +kernel
theorem dX1_calledClass_29 : decode cX1_calledClass 29 = .ok (.areturn, 1) := by decide +kernel
theorem dX2_init_0 : decode cX2_init 0 = .ok (.aload_n 0, 1) := by decide +kernel
theorem dX2_init_1 : decode cX2_init 1 = .ok (.invokespecial 3, 3) := by decide +kernel
theorem dX2_init_4 : decode cX2_init 4 = .ok (.aload_n 0, 1) := by decide +kernel
theorem dX2_init_5 : decode cX2_init 5 = .ok (.iload_n 1, 1) := by decide +kernel
theorem dX2_init_6 : decode cX2_init 6 = .ok (.putfield 9, 3) := by decide +kernel
theorem dX2_init_9 : decode cX2_init 9 = .ok (.aload_n 0, 1) := by decide +kernel
theorem dX2_init_10 : decode cX2_init 10 = .ok (.aload_n 2, 1) := by decide +kernel
theorem dX2_init_11 : decode cX2_init 11 = .ok (.putfield 15, 3) := by decide +kernel
theorem dX2_init_14 : decode cX2_init 14 = .ok (.aload_n 0, 1) := by decide +kernel
theorem dX2_init_15 : decode cX2_init 15 = .ok (.aload_n 3, 1) := by decide +kernel
theorem dX2_init_16 : decode cX2_init 16 = .ok (.putfield 19, 3) := by decide +kernel
theorem dX2_init_19 : decode cX2_init 19 = .ok (.aload_n 0, 1) := by decide +kernel
theorem dX2_init_20 : decode cX2_init 20 = .ok (.aload_n 3, 1) := by decide +kernel
theorem dX2_init_21 : decode cX2_init 21 = .ok (.getfield 23, 3) := by decide +kernel
theorem dX2_init_24 : decode cX2_init 24 = .ok (.putfield 28, 3) := by decide +kernel
theorem dX2_init_27 : decode cX2_init 27 = .ok (.aload_n 0, 1) := by decide +kernel
theorem dX2_init_28 : decode cX2_init 28 = .ok (.aload_n 3, 1) := by decide +kernel
theorem dX2_init_29 : decode cX2_init 29 = .ok (.getfield 29, 3) := by decide +kernel
theorem dX2_init_32 : decode cX2_init 32 = .ok (.newarray .byte, 2) := by decide +kernel
theorem dX2_init_34 : decode cX2_init 34 = .ok (.putfield 32, 3) := by decide +kernel
theorem dX2_init_37 : decode cX2_init 37 = .ok (.return_, 1) := by decide +kernel
theorem dX2_start_0 : decode cX2_start 0 = .ok (.aload_n 0, 1) := by decide +kernel
theorem dX2_start_1 : decode cX2_start 1 = .ok (.getfield 36, 3) := by decide +kernel
theorem dX2_start_4 : decode cX2_start 4 = .ok (.ifCond .eq 5, 3) := by decide +kernel
theorem dX2_start_7 : decode cX2_start 7 = .ok (.iconst 1, 1) := by decide +kernel
theorem dX2_start_8 : decode cX2_start 8 = .ok (.ireturn, 1) := by decide +kernel
theorem dX2_start_9 : decode cX2_start 9 = .ok (.aload_n 0, 1) := by decide +kernel
theorem dX2_start_10 : decode cX2_start 10 = .ok (.getfield 19, 3) := by decide +kernel
theorem dX2_start_13 : decode cX2_start 13 = .ok (.getfield 40, 3) := by decide +kernel
theorem dX2_start_16 : decode cX2_start 16 = .ok (.ifCond .eq 10, 3) := by decide +kernel
theorem dX2_start_19 : decode cX2_start 19 = .ok (.aload_n 0, 1) := by decide +kernel
theorem dX2_start_20 : decode cX2_start 20 = .ok (.iconst 1, 1) := by decide +kernel
theorem dX2_start_21 : decode cX2_start 21 = .ok (.putfield 43, 3) := by decide +kernel
theorem dX2_start_24 : decode cX2_start 24 = .ok (.iconst 0, 1) := by decide +kernel
theorem dX2_start_25 : decode cX2_start 25 = .ok (.ireturn, 1) := by decide +kernel
theorem dX2_start_26 : decode cX2_start 26 = .ok (.aload_n 0, 1) := by decide +kernel
theorem dX2_start_27 : decode cX2_start 27 = .ok (.getfield 32, 3) := by decide +kernel
theorem dX2_start_30 : decode cX2_start 30 = .ok (.iconst 0, 1) := by decide +kernel
theorem dX2_start_31 : decode cX2_start 31 = .ok (.invokestatic 46, 3) := by decide +kernel
theorem dX2_start_34 : decode cX2_start 34 = .ok (.aload_n 0, 1) := by decide +kernel
theorem dX2_start_35 : decode cX2_start 35 = .ok (.iconst 1, 1) := by decide +kernel
theorem dX2_start_36 : decode cX2_start 36 = .ok (.putfield 36, 3) := by decide +kernel
theorem dX2_start_39 : decode cX2_start 39 = .ok (.iconst 1, 1) := by decide +kernel
theorem dX2_start_40 : decode cX2_start 40 = .ok (.ireturn, 1) := by decide +kernel
theorem dX2_findRow_0 : decode cX2_findRow 0 = .ok (.iload_n 1, 1) := by decide +kernel
theorem dX2_findRow_1 : decode cX2_findRow 1 = .ok (.aload_n 0, 1) := by decide +kernel
theorem dX2_findRow_2 : decode cX2_findRow 2 = .ok (.getfield 28, 3) := by decide +kernel
theorem dX2_findRow_5 : decode cX2_findRow 5 = .ok (.if_icmp .gt 14, 3) := by decide +kernel
theorem dX2_findRow_8 : decode cX2_findRow 8 = .ok (.aload_n 0, 1) := by decide +kernel
theorem dX2_findRow_9 : decode cX2_findRow 9 = .ok (.getfield 19, 3) := by decide +kernel
theorem dX2_findRow_12 : decode cX2_findRow 12 = .ok (.iload_n 1, 1) := by decide +kernel
theorem dX2_findRow_13 : decode cX2_findRow 13 = .ok (.invokevirtual 52, 3) := by decide +kernel
theorem dX2_findRow_16 : decode cX2_findRow 16 = .ok (.goto 4, 3) := by decide +kernel
theorem dX2_findRow_19 : decode cX2_findRow 19 = .ok (.aconst_null, 1) := by decide +kernel
theorem dX2_findRow_20 : decode cX2_findRow 20 = .ok (.areturn, 1) := by decide +kernel
theorem dX2_hasByte_0 : decode cX2_hasByte 0 = .ok (.iload_n 1, 1) := by decide +kernel
theorem dX2_hasByte_1 : decode cX2_hasByte 1 = .ok (.ifCond .lt 16, 3) := by decide +kernel
theorem dX2_hasByte_4 : decode cX2_hasByte 4 = .ok (.iload_n 1, 1) := by decide +kernel
theorem dX2_hasByte_5 : decode cX2_hasByte 5 = .ok (.aload_n 0, 1) := by decide +kernel
theorem dX2_hasByte_6 : decode cX2_hasByte 6 = .ok (.getfield 32, 3) := by decide +kernel
theorem dX2_hasByte_9 : decode cX2_hasByte 9 = .ok (.arraylength, 1) := by decide +kernel
theorem dX2_hasByte_10 : decode cX2_hasByte 10 = .ok (.if_icmp .ge 7, 3) := by decide +kernel
theorem dX2_hasByte_13 : decode cX2_hasByte 13 = .ok (.iconst 1, 1) := by decide +kernel
theorem dX2_hasByte_14 : decode cX2_hasByte 14 = .ok (.goto 4, 3) := by decide +kernel
theorem dX2_hasByte_17 : decode cX2_hasByte 17 = .ok (.iconst 0, 1) := by decide +kernel
theorem dX2_hasByte_18 : decode cX2_hasByte 18 = .ok (.ireturn, 1) := by decide +kernel
theorem dX2_valueOf_0 : decode cX2_valueOf 0 = .ok (.aload_n 0, 1) := by decide +kernel
theorem dX2_valueOf_1 : decode cX2_valueOf 1 = .ok (.iload_n 1, 1) := by decide +kernel
theorem dX2_valueOf_2 : decode cX2_valueOf 2 = .ok (.invokevirtual 56, 3) := by decide +kernel
theorem dX2_valueOf_5 : decode cX2_valueOf 5 = .ok (.ifCond .eq 12, 3) := by decide +kernel
theorem dX2_valueOf_8 : decode cX2_valueOf 8 = .ok (.aload_n 0, 1) := by decide +kernel
theorem dX2_valueOf_9 : decode cX2_valueOf 9 = .ok (.getfield 32, 3) := by decide +kernel
theorem dX2_valueOf_12 : decode cX2_valueOf 12 = .ok (.iload_n 1, 1) := by decide +kernel
theorem dX2_valueOf_13 : decode cX2_valueOf 13 = .ok (.baload, 1) := by decide +kernel
theorem dX2_valueOf_14 : decode cX2_valueOf 14 = .ok (.goto 4, 3) := by decide +kernel
theorem dX2_valueOf_17 : decode cX2_valueOf 17 = .ok (.iconst 0, 1) := by decide +kernel
theorem dX2_valueOf_18 : decode cX2_valueOf 18 = .ok (.ireturn, 1) := by decide +kernel
theorem dX2_setByte_0 : decode cX2_setByte 0 = .ok (.aload_n 0, 1) := by decide +kernel
theorem dX2_setByte_1 : decode cX2_setByte 1 = .ok (.iload_n 1, 1) := by decide +kernel
theorem dX2_setByte_2 : decode cX2_setByte 2 = .ok (.invokevirtual 56, 3) := by decide +kernel
theorem dX2_setByte_5 : decode cX2_setByte 5 = .ok (.ifCond .ne 5, 3) := by decide +kernel
theorem dX2_setByte_8 : decode cX2_setByte 8 = .ok (.iconst 2, 1) := by decide +kernel
theorem dX2_setByte_9 : decode cX2_setByte 9 = .ok (.ireturn, 1) := by decide +kernel
theorem dX2_setByte_10 : decode cX2_setByte 10 = .ok (.aload_n 0, 1) := by decide +kernel
theorem dX2_setByte_11 : decode cX2_setByte 11 = .ok (.getfield 32, 3) := by decide +kernel
theorem dX2_setByte_14 : decode cX2_setByte 14 = .ok (.iload_n 1, 1) := by decide +kernel
theorem dX2_setByte_15 : decode cX2_setByte 15 = .ok (.iload_n 2, 1) := by decide +kernel
theorem dX2_setByte_16 : decode cX2_setByte 16 = .ok (.i2b, 1) := by decide +kernel
theorem dX2_setByte_17 : decode cX2_setByte 17 = .ok (.bastore, 1) := by decide +kernel
theorem dX2_setByte_18 : decode cX2_setByte 18 = .ok (.iconst 0, 1) := by decide +kernel
theorem dX2_setByte_19 : decode cX2_setByte 19 = .ok (.ireturn, 1) := by decide +kernel
theorem dX2_work_0 : decode cX2_work 0 = .ok (.aload_n 0, 1) := by decide +kernel
theorem dX2_work_1 : decode cX2_work 1 = .ok (.aload_n 1, 1) := by decide +kernel
theorem dX2_work_2 : decode cX2_work 2 = .ok (.getfield 60, 3) := by decide +kernel
theorem dX2_work_5 : decode cX2_work 5 = .ok (.invokevirtual 65, 3) := by decide +kernel
theorem dX2_work_8 : decode cX2_work 8 = .ok (.istore_n 2, 1) := by decide +kernel
theorem dX2_work_9 : decode cX2_work 9 = .ok (.aload_n 0, 1) := by decide +kernel
theorem dX2_work_10 : decode cX2_work 10 = .ok (.aload_n 1, 1) := by decide +kernel
theorem dX2_work_11 : decode cX2_work 11 = .ok (.getfield 69, 3) := by decide +kernel
theorem dX2_work_14 : decode cX2_work 14 = .ok (.invokevirtual 65, 3) := by decide +kernel
theorem dX2_work_17 : decode cX2_work 17 = .ok (.istore_n 3, 1) := by decide +kernel
theorem dX2_work_18 : decode cX2_work 18 = .ok (.aload_n 1, 1) := by decide +kernel
theorem dX2_work_19 : decode cX2_work 19 = .ok (.getfield 72, 3) := by decide +kernel
theorem dX2_work_22 : decode cX2_work 22 = .ok (.tableswitch 190 0 13 #[70, 83, 93, 105, 117, 129, 149, 169, 190, 190, 190, 190, 190, 176], 70) := by decide +kernel
theorem dX2_work_92 : decode cX2_work 92 = .ok (.aload_n 0, 1) := by decide +kernel
theorem dX2_work_93 : decode cX2_work 93 = .ok (.aload_n 1, 1) := by decide +kernel
theorem dX2_work_94 : decode cX2_work 94 = .ok (.getfield 60, 3) := by decide +kernel
theorem dX2_work_97 : decode cX2_work 97 = .ok (.aload_n 1, 1) := by decide +kernel
theorem dX2_work_98 : decode cX2_work 98 = .ok (.getfield 69, 3) := by decide +kernel
theorem dX2_work_101 : decode cX2_work 101 = .ok (.invokevirtual 75, 3) := by decide +kernel
theorem dX2_work_104 : decode cX2_work 104 = .ok (.ireturn, 1) := by decide +kernel
theorem dX2_work_105 : decode cX2_work 105 = .ok (.aload_n 0, 1) := by decide +kernel
theorem dX2_work_106 : decode cX2_work 106 = .ok (.aload_n 1, 1) := by decide +kernel
theorem dX2_work_107 : decode cX2_work 107 = .ok (.getfield 60, 3) := by decide +kernel
theorem dX2_work_110 : decode cX2_work 110 = .ok (.iload_n 3, 1) := by decide +kernel
theorem dX2_work_111 : decode cX2_work 111 = .ok (.invokevirtual 75, 3) := by decide +kernel
theorem dX2_work_114 : decode cX2_work 114 = .ok (.ireturn, 1) := by decide +kernel
theorem dX2_work_115 : decode cX2_work 115 = .ok (.aload_n 0, 1) := by decide +kernel
theorem dX2_work_116 : decode cX2_work 116 = .ok (.aload_n 1, 1) := by decide +kernel
theorem dX2_work_117 : decode cX2_work 117 = .ok (.getfield 60, 3) := by decide +kernel
theorem dX2_work_120 : decode cX2_work 120 = .ok (.iload_n 2, 1) := by decide +kernel
theorem dX2_work_121 : decode cX2_work 121 = .ok (.iload_n 3, 1) := by decide +kernel
theorem dX2_work_122 : decode cX2_work 122 = .ok (.iadd, 1) := by decide +kernel
theorem dX2_work_123 : decode cX2_work 123 = .ok (.invokevirtual 75, 3) := by decide +kernel
theorem dX2_work_126 : decode cX2_work 126 = .ok (.ireturn, 1) := by decide +kernel
theorem dX2_work_127 : decode cX2_work 127 = .ok (.aload_n 0, 1) := by decide +kernel
theorem dX2_work_128 : decode cX2_work 128 = .ok (.aload_n 1, 1) := by decide +kernel
theorem dX2_work_129 : decode cX2_work 129 = .ok (.getfield 60, 3) := by decide +kernel
theorem dX2_work_132 : decode cX2_work 132 = .ok (.iload_n 2, 1) := by decide +kernel
theorem dX2_work_133 : decode cX2_work 133 = .ok (.iload_n 3, 1) := by decide +kernel
theorem dX2_work_134 : decode cX2_work 134 = .ok (.isub, 1) := by decide +kernel
theorem dX2_work_135 : decode cX2_work 135 = .ok (.invokevirtual 75, 3) := by decide +kernel
theorem dX2_work_138 : decode cX2_work 138 = .ok (.ireturn, 1) := by decide +kernel
theorem dX2_work_139 : decode cX2_work 139 = .ok (.aload_n 0, 1) := by decide +kernel
theorem dX2_work_140 : decode cX2_work 140 = .ok (.aload_n 1, 1) := by decide +kernel
theorem dX2_work_141 : decode cX2_work 141 = .ok (.getfield 60, 3) := by decide +kernel
theorem dX2_work_144 : decode cX2_work 144 = .ok (.iload_n 2, 1) := by decide +kernel
theorem dX2_work_145 : decode cX2_work 145 = .ok (.iload_n 3, 1) := by decide +kernel
theorem dX2_work_146 : decode cX2_work 146 = .ok (.imul, 1) := by decide +kernel
theorem dX2_work_147 : decode cX2_work 147 = .ok (.invokevirtual 75, 3) := by decide +kernel
theorem dX2_work_150 : decode cX2_work 150 = .ok (.ireturn, 1) := by decide +kernel
theorem dX2_work_151 : decode cX2_work 151 = .ok (.iload_n 3, 1) := by decide +kernel
theorem dX2_work_152 : decode cX2_work 152 = .ok (.ifCond .ne 7, 3) := by decide +kernel
theorem dX2_work_155 : decode cX2_work 155 = .ok (.iconst 1, 1) := by decide +kernel
theorem dX2_work_156 : decode cX2_work 156 = .ok (.goto 14, 3) := by decide +kernel
theorem dX2_work_159 : decode cX2_work 159 = .ok (.aload_n 0, 1) := by decide +kernel
theorem dX2_work_160 : decode cX2_work 160 = .ok (.aload_n 1, 1) := by decide +kernel
theorem dX2_work_161 : decode cX2_work 161 = .ok (.getfield 60, 3) := by decide +kernel
theorem dX2_work_164 : decode cX2_work 164 = .ok (.iload_n 2, 1) := by decide +kernel
theorem dX2_work_165 : decode cX2_work 165 = .ok (.iload_n 3, 1) := by decide +kernel
theorem dX2_work_166 : decode cX2_work 166 = .ok (.idiv, 1) := by decide +kernel
theorem dX2_work_167 : decode cX2_work 167 = .ok (.invokevirtual 75, 3) := by decide +kernel
theorem dX2_work_170 : decode cX2_work 170 = .ok (.ireturn, 1) := by decide +kernel
theorem dX2_work_171 : decode cX2_work 171 = .ok (.iload_n 3, 1) := by decide +kernel
theorem dX2_work_172 : decode cX2_work 172 = .ok (.ifCond .ne 7, 3) := by decide +kernel
theorem dX2_work_175 : decode cX2_work 175 = .ok (.iconst 1, 1) := by decide +kernel
theorem dX2_work_176 : decode cX2_work 176 = .ok (.goto 14, 3) := by decide +kernel
theorem dX2_work_179 : decode cX2_work 179 = .ok (.aload_n 0, 1) := by decide +kernel
theorem dX2_work_180 : decode cX2_work 180 = .ok (.aload_n 1, 1) := by decide +kernel
theorem dX2_work_181 : decode cX2_work 181 = .ok (.getfield 60, 3) := by decide +kernel
theorem dX2_work_184 : decode cX2_work 184 = .ok (.iload_n 2, 1) := by decide +kernel
theorem dX2_work_185 : decode cX2_work 185 = .ok (.iload_n 3, 1) := by decide +kernel
theorem dX2_work_186 : decode cX2_work 186 = .ok (.irem, 1) := by decide +kernel
theorem dX2_work_187 : decode cX2_work 187 = .ok (.invokevirtual 75, 3) := by decide +kernel
theorem dX2_work_190 : decode cX2_work 190 = .ok (.ireturn, 1) := by decide +kernel
theorem dX2_work_191 : decode cX2_work 191 = .ok (.aload_n 0, 1) := by decide +kernel
theorem dX2_work_192 : decode cX2_work 192 = .ok (.iload_n 2, 1) := by decide +kernel
theorem dX2_work_193 : decode cX2_work 193 = .ok (.iload_n 3, 1) := by decide +kernel
theorem dX2_work_194 : decode cX2_work 194 = .ok (.invokevirtual 75, 3) := by decide +kernel
theorem dX2_work_197 : decode cX2_work 197 = .ok (.ireturn, 1) := by decide +kernel
theorem dX2_work_198 : decode cX2_work 198 = .ok (.iload_n 2, 1) := by decide +kernel
theorem dX2_work_199 : decode cX2_work 199 = .ok (.aload_n 1, 1) := by decide +kernel
theorem dX2_work_200 : decode cX2_work 200 = .ok (.getfield 69, 3) := by decide +kernel
theorem dX2_work_203 : decode cX2_work 203 = .ok (.if_icmp .le 7, 3) := by decide +kernel
theorem dX2_work_206 : decode cX2_work 206 = .ok (.iconst 4, 1) := by decide +kernel
theorem dX2_work_207 : decode cX2_work 207 = .ok (.goto 4, 3) := by decide +kernel
theorem dX2_work_210 : decode cX2_work 210 = .ok (.iconst 0, 1) := by decide +kernel
theorem dX2_work_211 : decode cX2_work 211 = .ok (.ireturn, 1) := by decide +kernel
theorem dX2_work_212 : decode cX2_work 212 = .ok (.iconst 0, 1) := by decide +kernel
theorem dX2_work_213 : decode cX2_work 213 = .ok (.ireturn, 1) := by decide +kernel
theorem dX3_init_0 : decode cX3_init 0 = .ok (.aload_n 0, 1) := by decide +kernel
theorem dX3_init_1 : decode cX3_init 1 = .ok (.invokespecial 3, 3) := by decide +kernel
theorem dX3_init_4 : decode cX3_init 4 = .ok (.aload_n 0, 1) := by decide +kernel
theorem dX3_init_5 : decode cX3_init 5 = .ok (.iload_n 1, 1) := by decide +kernel
theorem dX3_init_6 : decode cX3_init 6 = .ok (.putfield 9, 3) := by decide +kernel
theorem dX3_init_9 : decode cX3_init 9 = .ok (.aload_n 0, 1) := by decide +kernel
theorem dX3_init_10 : decode cX3_init 10 = .ok (.iload_n 2, 1) := by decide +kernel
theorem dX3_init_11 : decode cX3_init 11 = .ok (.putfield 15, 3) := by decide +kernel
theorem dX3_init_14 : decode cX3_init 14 = .ok (.aload_n 0, 1) := by decide +kernel
theorem dX3_init_15 : decode cX3_init 15 = .ok (.iload_n 3, 1) := by decide +kernel
theorem dX3_init_16 : decode cX3_init 16 = .ok (.putfield 18, 3) := by decide +kernel
theorem dX3_init_19 : decode cX3_init 19 = .ok (.aload_n 0, 1) := by decide +kernel
theorem dX3_init_20 : decode cX3_init 20 = .ok (.bipush 60, 2) := by decide +kernel
theorem dX3_init_22 : decode cX3_init 22 = .ok (.anewarray 22, 3) := by decide +kernel
theorem dX3_init_25 : decode cX3_init 25 = .ok (.putfield 24, 3) := by decide +kernel
theorem dX3_init_28 : decode cX3_init 28 = .ok (.return_, 1) := by decide +kernel
theorem dX3_takes_0 : decode cX3_takes 0 = .ok (.iload_n 1, 1) := by decide +kernel
theorem dX3_takes_1 : decode cX3_takes 1 = .ok (.tableswitch 180 0 13 #[71, 97, 97, 97, 97, 97, 97, 97, 119, 141, 147, 164, 164, 71], 71) := by decide +kernel
theorem dX3_takes_72 : decode cX3_takes 72 = .ok (.aload_n 0, 1) := by decide +kernel
theorem dX3_takes_73 : decode cX3_takes 73 = .ok (.iload_n 2, 1) := by decide +kernel
theorem dX3_takes_74 : decode cX3_takes 74 = .ok (.invokevirtual 28, 3) := by decide +kernel
theorem dX3_takes_77 : decode cX3_takes 77 = .ok (.ifCond .eq 19, 3) := by decide +kernel
theorem dX3_takes_80 : decode cX3_takes 80 = .ok (.iload_n 3, 1) := by decide +kernel
theorem dX3_takes_81 : decode cX3_takes 81 = .ok (.bipush (-128), 2) := by decide +kernel
theorem dX3_takes_83 : decode cX3_takes 83 = .ok (.if_icmp .lt 13, 3) := by decide +kernel
theorem dX3_takes_86 : decode cX3_takes 86 = .ok (.iload_n 3, 1) := by decide +kernel
theorem dX3_takes_87 : decode cX3_takes 87 = .ok (.bipush 127, 2) := by decide +kernel
theorem dX3_takes_89 : decode cX3_takes 89 = .ok (.if_icmp .gt 7, 3) := by decide +kernel
theorem dX3_takes_92 : decode cX3_takes 92 = .ok (.iconst 1, 1) := by decide +kernel
theorem dX3_takes_93 : decode cX3_takes 93 = .ok (.goto 4, 3) := by decide +kernel
theorem dX3_takes_96 : decode cX3_takes 96 = .ok (.iconst 0, 1) := by decide +kernel
theorem dX3_takes_97 : decode cX3_takes 97 = .ok (.ireturn, 1) := by decide +kernel
theorem dX3_takes_98 : decode cX3_takes 98 = .ok (.aload_n 0, 1) := by decide +kernel
theorem dX3_takes_99 : decode cX3_takes 99 = .ok (.iload_n 2, 1) := by decide +kernel
theorem dX3_takes_100 : decode cX3_takes 100 = .ok (.invokevirtual 28, 3) := by decide +kernel
theorem dX3_takes_103 : decode cX3_takes 103 = .ok (.ifCond .eq 15, 3) := by decide +kernel
theorem dX3_takes_106 : decode cX3_takes 106 = .ok (.aload_n 0, 1) := by decide +kernel
theorem dX3_takes_107 : decode cX3_takes 107 = .ok (.iload_n 3, 1) := by decide +kernel
theorem dX3_takes_108 : decode cX3_takes 108 = .ok (.invokevirtual 28, 3) := by decide +kernel
theorem dX3_takes_111 : decode cX3_takes 111 = .ok (.ifCond .eq 7, 3) := by decide +kernel
theorem dX3_takes_114 : decode cX3_takes 114 = .ok (.iconst 1, 1) := by decide +kernel
theorem dX3_takes_115 : decode cX3_takes 115 = .ok (.goto 4, 3) := by decide +kernel
theorem dX3_takes_118 : decode cX3_takes 118 = .ok (.iconst 0, 1) := by decide +kernel
theorem dX3_takes_119 : decode cX3_takes 119 = .ok (.ireturn, 1) := by decide +kernel
theorem dX3_takes_120 : decode cX3_takes 120 = .ok (.aload_n 0, 1) := by decide +kernel
theorem dX3_takes_121 : decode cX3_takes 121 = .ok (.iload_n 2, 1) := by decide +kernel
theorem dX3_takes_122 : decode cX3_takes 122 = .ok (.invokevirtual 28, 3) := by decide +kernel
theorem dX3_takes_125 : decode cX3_takes 125 = .ok (.ifCond .eq 15, 3) := by decide +kernel
theorem dX3_takes_128 : decode cX3_takes 128 = .ok (.aload_n 0, 1) := by decide +kernel
theorem dX3_takes_129 : decode cX3_takes 129 = .ok (.iload_n 3, 1) := by decide +kernel
theorem dX3_takes_130 : decode cX3_takes 130 = .ok (.invokevirtual 32, 3) := by decide +kernel
theorem dX3_takes_133 : decode cX3_takes 133 = .ok (.ifCond .eq 7, 3) := by decide +kernel
theorem dX3_takes_136 : decode cX3_takes 136 = .ok (.iconst 1, 1) := by decide +kernel
theorem dX3_takes_137 : decode cX3_takes 137 = .ok (.goto 4, 3) := by decide +kernel
theorem dX3_takes_140 : decode cX3_takes 140 = .ok (.iconst 0, 1) := by decide +kernel
theorem dX3_takes_141 : decode cX3_takes 141 = .ok (.ireturn, 1) := by decide +kernel
theorem dX3_takes_142 : decode cX3_takes 142 = .ok (.aload_n 0, 1) := by decide +kernel
theorem dX3_takes_143 : decode cX3_takes 143 = .ok (.iload_n 3, 1) := by decide +kernel
theorem dX3_takes_144 : decode cX3_takes 144 = .ok (.invokevirtual 32, 3) := by decide +kernel
theorem dX3_takes_147 : decode cX3_takes 147 = .ok (.ireturn, 1) := by decide +kernel
theorem dX3_takes_148 : decode cX3_takes 148 = .ok (.iload_n 2, 1) := by decide +kernel
theorem dX3_takes_149 : decode cX3_takes 149 = .ok (.iconst 1, 1) := by decide +kernel
theorem dX3_takes_150 : decode cX3_takes 150 = .ok (.if_icmp .lt 13, 3) := by decide +kernel
theorem dX3_takes_153 : decode cX3_takes 153 = .ok (.iload_n 2, 1) := by decide +kernel
theorem dX3_takes_154 : decode cX3_takes 154 = .ok (.bipush 12, 2) := by decide +kernel
theorem dX3_takes_156 : decode cX3_takes 156 = .ok (.if_icmp .gt 7, 3) := by decide +kernel
theorem dX3_takes_159 : decode cX3_takes 159 = .ok (.iconst 1, 1) := by decide +kernel
theorem dX3_takes_160 : decode cX3_takes 160 = .ok (.goto 4, 3) := by decide +kernel
theorem dX3_takes_163 : decode cX3_takes 163 = .ok (.iconst 0, 1) := by decide +kernel
theorem dX3_takes_164 : decode cX3_takes 164 = .ok (.ireturn, 1) := by decide +kernel
theorem dX3_takes_165 : decode cX3_takes 165 = .ok (.iload_n 2, 1) := by decide +kernel
theorem dX3_takes_166 : decode cX3_takes 166 = .ok (.ifCond .lt 13, 3) := by decide +kernel
theorem dX3_takes_169 : decode cX3_takes 169 = .ok (.iload_n 2, 1) := by decide +kernel
theorem dX3_takes_170 : decode cX3_takes 170 = .ok (.bipush 127, 2) := by decide +kernel
theorem dX3_takes_172 : decode cX3_takes 172 = .ok (.if_icmp .gt 7, 3) := by decide +kernel
theorem dX3_takes_175 : decode cX3_takes 175 = .ok (.iconst 1, 1) := by decide +kernel
theorem dX3_takes_176 : decode cX3_takes 176 = .ok (.goto 4, 3) := by decide +kernel
theorem dX3_takes_179 : decode cX3_takes 179 = .ok (.iconst 0, 1) := by decide +kernel
theorem dX3_takes_180 : decode cX3_takes 180 = .ok (.ireturn, 1) := by decide +kernel
theorem dX3_takes_181 : decode cX3_takes 181 = .ok (.iconst 0, 1) := by decide +kernel
theorem dX3_takes_182 : decode cX3_takes 182 = .ok (.ireturn, 1) := by decide +kernel
theorem dX3_isByteNumber_0 : decode cX3_isByteNumber 0 = .ok (.iload_n 1, 1) := by decide +kernel
theorem dX3_isByteNumber_1 : decode cX3_isByteNumber 1 = .ok (.ifCond .lt 15, 3) := by decide +kernel
theorem dX3_isByteNumber_4 : decode cX3_isByteNumber 4 = .ok (.iload_n 1, 1) := by decide +kernel
theorem dX3_isByteNumber_5 : decode cX3_isByteNumber 5 = .ok (.aload_n 0, 1) := by decide +kernel
theorem dX3_isByteNumber_6 : decode cX3_isByteNumber 6 = .ok (.getfield 15, 3) := by decide +kernel
theorem dX3_isByteNumber_9 : decode cX3_isByteNumber 9 = .ok (.if_icmp .ge 7, 3) := by decide +kernel
theorem dX3_isByteNumber_12 : decode cX3_isByteNumber 12 = .ok (.iconst 1, 1) := by decide +kernel
theorem dX3_isByteNumber_13 : decode cX3_isByteNumber 13 = .ok (.goto 4, 3) := by decide +kernel
theorem dX3_isByteNumber_16 : decode cX3_isByteNumber 16 = .ok (.iconst 0, 1) := by decide +kernel
theorem dX3_isByteNumber_17 : decode cX3_isByteNumber 17 = .ok (.ireturn, 1) := by decide +kernel
theorem dX3_isTarget_0 : decode cX3_isTarget 0 = .ok (.iload_n 1, 1) := by decide +kernel
theorem dX3_isTarget_1 : decode cX3_isTarget 1 = .ok (.iconst 1, 1) := by decide +kernel
theorem dX3_isTarget_2 : decode cX3_isTarget 2 = .ok (.if_icmp .lt 13, 3) := by decide +kernel
theorem dX3_isTarget_5 : decode cX3_isTarget 5 = .ok (.iload_n 1, 1) := by decide +kernel
theorem dX3_isTarget_6 : decode cX3_isTarget 6 = .ok (.bipush 61, 2) := by decide +kernel
theorem dX3_isTarget_8 : decode cX3_isTarget 8 = .ok (.if_icmp .gt 7, 3) := by decide +kernel
theorem dX3_isTarget_11 : decode cX3_isTarget 11 = .ok (.iconst 1, 1) := by decide +kernel
theorem dX3_isTarget_12 : decode cX3_isTarget 12 = .ok (.goto 4, 3) := by decide +kernel
theorem dX3_isTarget_15 : decode cX3_isTarget 15 = .ok (.iconst 0, 1) := by decide +kernel
theorem dX3_isTarget_16 : decode cX3_isTarget 16 = .ok (.ireturn, 1) := by decide +kernel
theorem dX3_addRow_0 : decode cX3_addRow 0 = .ok (.aload_n 0, 1) := by decide +kernel
theorem dX3_addRow_1 : decode cX3_addRow 1 = .ok (.getfield 35, 3) := by decide +kernel
theorem dX3_addRow_4 : decode cX3_addRow 4 = .ok (.aload_n 0, 1) := by decide +kernel
theorem dX3_addRow_5 : decode cX3_addRow 5 = .ok (.getfield 24, 3) := by decide +kernel
theorem dX3_addRow_8 : decode cX3_addRow 8 = .ok (.arraylength, 1) := by decide +kernel
theorem dX3_addRow_9 : decode cX3_addRow 9 = .ok (.if_icmp .lt 5, 3) := by decide +kernel
theorem dX3_addRow_12 : decode cX3_addRow 12 = .ok (.iconst (-1), 1) := by decide +kernel
theorem dX3_addRow_13 : decode cX3_addRow 13 = .ok (.ireturn, 1) := by decide +kernel
theorem dX3_addRow_14 : decode cX3_addRow 14 = .ok (.aload_n 0, 1) := by decide +kernel
theorem dX3_addRow_15 : decode cX3_addRow 15 = .ok (.getfield 24, 3) := by decide +kernel
theorem dX3_addRow_18 : decode cX3_addRow 18 = .ok (.aload_n 0, 1) := by decide +kernel
theorem dX3_addRow_19 : decode cX3_addRow 19 = .ok (.getfield 35, 3) := by decide +kernel
theorem dX3_addRow_22 : decode cX3_addRow 22 = .ok (.new 22, 3) := by decide +kernel
theorem dX3_addRow_25 : decode cX3_addRow 25 = .ok (.dup, 1) := by decide +kernel
theorem dX3_addRow_26 : decode cX3_addRow 26 = .ok (.iload_n 1, 1) := by decide +kernel
theorem dX3_addRow_27 : decode cX3_addRow 27 = .ok (.iload_n 2, 1) := by decide +kernel
theorem dX3_addRow_28 : decode cX3_addRow 28 = .ok (.iload_n 3, 1) := by decide +kernel
theorem dX3_addRow_29 : decode cX3_addRow 29 = .ok (.invokespecial 38, 3) := by decide +kernel
theorem dX3_addRow_32 : decode cX3_addRow 32 = .ok (.aastore, 1) := by decide +kernel
theorem dX3_addRow_33 : decode cX3_addRow 33 = .ok (.aload_n 0, 1) := by decide +kernel
theorem dX3_addRow_34 : decode cX3_addRow 34 = .ok (.dup, 1) := by decide +kernel
theorem dX3_addRow_35 : decode cX3_addRow 35 = .ok (.getfield 35, 3) := by decide +kernel
theorem dX3_addRow_38 : decode cX3_addRow 38 = .ok (.iconst 1, 1) := by decide +kernel
theorem dX3_addRow_39 : decode cX3_addRow 39 = .ok (.iadd, 1) := by decide +kernel
theorem dX3_addRow_40 : decode cX3_addRow 40 = .ok (.putfield 35, 3) := by decide +kernel
theorem dX3_addRow_43 : decode cX3_addRow 43 = .ok (.aload_n 0, 1) := by decide +kernel
theorem dX3_addRow_44 : decode cX3_addRow 44 = .ok (.getfield 35, 3) := by decide +kernel
theorem dX3_addRow_47 : decode cX3_addRow 47 = .ok (.ireturn, 1) := by decide +kernel
theorem dX3_findRow_0 : decode cX3_findRow 0 = .ok (.iload_n 1, 1) := by decide +kernel
theorem dX3_findRow_1 : decode cX3_findRow 1 = .ok (.iconst 1, 1) := by decide +kernel
theorem dX3_findRow_2 : decode cX3_findRow 2 = .ok (.if_icmp .lt 22, 3) := by decide +kernel
theorem dX3_findRow_5 : decode cX3_findRow 5 = .ok (.iload_n 1, 1) := by decide +kernel
theorem dX3_findRow_6 : decode cX3_findRow 6 = .ok (.aload_n 0, 1) := by decide +kernel
theorem dX3_findRow_7 : decode cX3_findRow 7 = .ok (.getfield 35, 3) := by decide +kernel
theorem dX3_findRow_10 : decode cX3_findRow 10 = .ok (.if_icmp .gt 14, 3) := by decide +kernel
theorem dX3_findRow_13 : decode cX3_findRow 13 = .ok (.aload_n 0, 1) := by decide +kernel
theorem dX3_findRow_14 : decode cX3_findRow 14 = .ok (.getfield 24, 3) := by decide +kernel
theorem dX3_findRow_17 : decode cX3_findRow 17 = .ok (.iload_n 1, 1) := by decide +kernel
theorem dX3_findRow_18 : decode cX3_findRow 18 = .ok (.iconst 1, 1) := by decide +kernel
theorem dX3_findRow_19 : decode cX3_findRow 19 = .ok (.isub, 1) := by decide +kernel
theorem dX3_findRow_20 : decode cX3_findRow 20 = .ok (.aaload, 1) := by decide +kernel
theorem dX3_findRow_21 : decode cX3_findRow 21 = .ok (.goto 4, 3) := by decide +kernel
theorem dX3_findRow_24 : decode cX3_findRow 24 = .ok (.aconst_null, 1) := by decide +kernel
theorem dX3_findRow_25 : decode cX3_findRow 25 = .ok (.areturn, 1) := by decide +kernel
theorem dX4_init_0 : decode cX4_init 0 = .ok (.aload_n 0, 1) := by decide +kernel
theorem dX4_init_1 : decode cX4_init 1 = .ok (.invokespecial 1, 3) := by decide +kernel
theorem dX4_init_4 : decode cX4_init 4 = .ok (.aload_n 0, 1) := by decide +kernel
theorem dX4_init_5 : decode cX4_init 5 = .ok (.iload_n 1, 1) := by decide +kernel
theorem dX4_init_6 : decode cX4_init 6 = .ok (.putfield 7, 3) := by decide +kernel
theorem dX4_init_9 : decode cX4_init 9 = .ok (.aload_n 0, 1) := by decide +kernel
theorem dX4_init_10 : decode cX4_init 10 = .ok (.iload_n 2, 1) := by decide +kernel
theorem dX4_init_11 : decode cX4_init 11 = .ok (.putfield 13, 3) := by decide +kernel
theorem dX4_init_14 : decode cX4_init 14 = .ok (.aload_n 0, 1) := by decide +kernel
theorem dX4_init_15 : decode cX4_init 15 = .ok (.iload_n 3, 1) := by decide +kernel
theorem dX4_init_16 : decode cX4_init 16 = .ok (.putfield 16, 3) := by decide +kernel
theorem dX4_init_19 : decode cX4_init 19 = .ok (.return_, 1) := by decide +kernel
theorem dX5_init_0 : decode cX5_init 0 = .ok (.aload_n 0, 1) := by decide +kernel
theorem dX5_init_1 : decode cX5_init 1 = .ok (.invokespecial 3, 3) := by decide +kernel
theorem dX5_init_4 : decode cX5_init 4 = .ok (.aload_n 0, 1) := by decide +kernel
theorem dX5_init_5 : decode cX5_init 5 = .ok (.bipush 12, 2) := by decide +kernel
theorem dX5_init_7 : decode cX5_init 7 = .ok (.anewarray 9, 3) := by decide +kernel
theorem dX5_init_10 : decode cX5_init 10 = .ok (.putfield 11, 3) := by decide +kernel
theorem dX5_init_13 : decode cX5_init 13 = .ok (.aload_n 0, 1) := by decide +kernel
theorem dX5_init_14 : decode cX5_init 14 = .ok (.bipush 100, 2) := by decide +kernel
theorem dX5_init_16 : decode cX5_init 16 = .ok (.newarray .byte, 2) := by decide +kernel
theorem dX5_init_18 : decode cX5_init 18 = .ok (.putfield 17, 3) := by decide +kernel
theorem dX5_init_21 : decode cX5_init 21 = .ok (.return_, 1) := by decide +kernel
theorem dX5_latestOf_0 : decode cX5_latestOf 0 = .ok (.aload_n 1, 1) := by decide +kernel
theorem dX5_latestOf_1 : decode cX5_latestOf 1 = .ok (.getfield 21, 3) := by decide +kernel
theorem dX5_latestOf_4 : decode cX5_latestOf 4 = .ok (.iconst 1, 1) := by decide +kernel
theorem dX5_latestOf_5 : decode cX5_latestOf 5 = .ok (.isub, 1) := by decide +kernel
theorem dX5_latestOf_6 : decode cX5_latestOf 6 = .ok (.istore_n 2, 1) := by decide +kernel
theorem dX5_latestOf_7 : decode cX5_latestOf 7 = .ok (.iload_n 2, 1) := by decide +kernel
theorem dX5_latestOf_8 : decode cX5_latestOf 8 = .ok (.ifCond .lt 21, 3) := by decide +kernel
theorem dX5_latestOf_11 : decode cX5_latestOf 11 = .ok (.iload_n 2, 1) := by decide +kernel
theorem dX5_latestOf_12 : decode cX5_latestOf 12 = .ok (.aload_n 0, 1) := by decide +kernel
theorem dX5_latestOf_13 : decode cX5_latestOf 13 = .ok (.getfield 11, 3) := by decide +kernel
theorem dX5_latestOf_16 : decode cX5_latestOf 16 = .ok (.arraylength, 1) := by decide +kernel
theorem dX5_latestOf_17 : decode cX5_latestOf 17 = .ok (.if_icmp .ge 12, 3) := by decide +kernel
theorem dX5_latestOf_20 : decode cX5_latestOf 20 = .ok (.aload_n 0, 1) := by decide +kernel
theorem dX5_latestOf_21 : decode cX5_latestOf 21 = .ok (.getfield 11, 3) := by decide +kernel
theorem dX5_latestOf_24 : decode cX5_latestOf 24 = .ok (.iload_n 2, 1) := by decide +kernel
theorem dX5_latestOf_25 : decode cX5_latestOf 25 = .ok (.aaload, 1) := by decide +kernel
theorem dX5_latestOf_26 : decode cX5_latestOf 26 = .ok (.goto 4, 3) := by decide +kernel
theorem dX5_latestOf_29 : decode cX5_latestOf 29 = .ok (.aconst_null, 1) := by decide +kernel
theorem dX5_latestOf_30 : decode cX5_latestOf 30 = .ok (.areturn, 1) := by decide +kernel
theorem dX5_setLatest_0 : decode cX5_setLatest 0 = .ok (.aload_n 1, 1) := by decide +kernel
theorem dX5_setLatest_1 : decode cX5_setLatest 1 = .ok (.getfield 21, 3) := by decide +kernel
theorem dX5_setLatest_4 : decode cX5_setLatest 4 = .ok (.iconst 1, 1) := by decide +kernel
theorem dX5_setLatest_5 : decode cX5_setLatest 5 = .ok (.isub, 1) := by decide +kernel
theorem dX5_setLatest_6 : decode cX5_setLatest 6 = .ok (.istore_n 3, 1) := by decide +kernel
theorem dX5_setLatest_7 : decode cX5_setLatest 7 = .ok (.iload_n 3, 1) := by decide +kernel
theorem dX5_setLatest_8 : decode cX5_setLatest 8 = .ok (.ifCond .lt 19, 3) := by decide +kernel
theorem dX5_setLatest_11 : decode cX5_setLatest 11 = .ok (.iload_n 3, 1) := by decide +kernel
theorem dX5_setLatest_12 : decode cX5_setLatest 12 = .ok (.aload_n 0, 1) := by decide +kernel
theorem dX5_setLatest_13 : decode cX5_setLatest 13 = .ok (.getfield 11, 3) := by decide +kernel
theorem dX5_setLatest_16 : decode cX5_setLatest 16 = .ok (.arraylength, 1) := by decide +kernel
theorem dX5_setLatest_17 : decode cX5_setLatest 17 = .ok (.if_icmp .ge 10, 3) := by decide +kernel
theorem dX5_setLatest_20 : decode cX5_setLatest 20 = .ok (.aload_n 0, 1) := by decide +kernel
theorem dX5_setLatest_21 : decode cX5_setLatest 21 = .ok (.getfield 11, 3) := by decide +kernel
theorem dX5_setLatest_24 : decode cX5_setLatest 24 = .ok (.iload_n 3, 1) := by decide +kernel
theorem dX5_setLatest_25 : decode cX5_setLatest 25 = .ok (.aload_n 2, 1) := by decide +kernel
theorem dX5_setLatest_26 : decode cX5_setLatest 26 = .ok (.aastore, 1) := by decide +kernel
theorem dX5_setLatest_27 : decode cX5_setLatest 27 = .ok (.return_, 1) := by decide +kernel
theorem dX5_beginRun_0 : decode cX5_beginRun 0 = .ok (.aload_n 0, 1) := by decide +kernel
theorem dX5_beginRun_1 : decode cX5_beginRun 1 = .ok (.iconst 1, 1) := by decide +kernel
theorem dX5_beginRun_2 : decode cX5_beginRun 2 = .ok (.putfield 27, 3) := by decide +kernel
theorem dX5_beginRun_5 : decode cX5_beginRun 5 = .ok (.aload_n 0, 1) := by decide +kernel
theorem dX5_beginRun_6 : decode cX5_beginRun 6 = .ok (.iconst 0, 1) := by decide +kernel
theorem dX5_beginRun_7 : decode cX5_beginRun 7 = .ok (.putfield 31, 3) := by decide +kernel
theorem dX5_beginRun_10 : decode cX5_beginRun 10 = .ok (.aload_n 0, 1) := by decide +kernel
theorem dX5_beginRun_11 : decode cX5_beginRun 11 = .ok (.iconst (-1), 1) := by decide +kernel
theorem dX5_beginRun_12 : decode cX5_beginRun 12 = .ok (.putfield 34, 3) := by decide +kernel
theorem dX5_beginRun_15 : decode cX5_beginRun 15 = .ok (.aload_n 0, 1) := by decide +kernel
theorem dX5_beginRun_16 : decode cX5_beginRun 16 = .ok (.iconst (-1), 1) := by decide +kernel
theorem dX5_beginRun_17 : decode cX5_beginRun 17 = .ok (.putfield 37, 3) := by decide +kernel
theorem dX5_beginRun_20 : decode cX5_beginRun 20 = .ok (.aload_n 0, 1) := by decide +kernel
theorem dX5_beginRun_21 : decode cX5_beginRun 21 = .ok (.iconst 0, 1) := by decide +kernel
theorem dX5_beginRun_22 : decode cX5_beginRun 22 = .ok (.putfield 40, 3) := by decide +kernel
theorem dX5_beginRun_25 : decode cX5_beginRun 25 = .ok (.aload_n 0, 1) := by decide +kernel
theorem dX5_beginRun_26 : decode cX5_beginRun 26 = .ok (.iconst 0, 1) := by decide +kernel
theorem dX5_beginRun_27 : decode cX5_beginRun 27 = .ok (.putfield 43, 3) := by decide +kernel
theorem dX5_beginRun_30 : decode cX5_beginRun 30 = .ok (.return_, 1) := by decide +kernel
theorem dX5_takeStep_0 : decode cX5_takeStep 0 = .ok (.aload_n 0, 1) := by decide +kernel
theorem dX5_takeStep_1 : decode cX5_takeStep 1 = .ok (.getfield 40, 3) := by decide +kernel
theorem dX5_takeStep_4 : decode cX5_takeStep 4 = .ok (.sipush 1000, 3) := by decide +kernel
theorem dX5_takeStep_7 : decode cX5_takeStep 7 = .ok (.if_icmp .lt 5, 3) := by decide +kernel
theorem dX5_takeStep_10 : decode cX5_takeStep 10 = .ok (.iconst 0, 1) := by decide +kernel
theorem dX5_takeStep_11 : decode cX5_takeStep 11 = .ok (.ireturn, 1) := by decide +kernel
theorem dX5_takeStep_12 : decode cX5_takeStep 12 = .ok (.aload_n 0, 1) := by decide +kernel
theorem dX5_takeStep_13 : decode cX5_takeStep 13 = .ok (.dup, 1) := by decide +kernel
theorem dX5_takeStep_14 : decode cX5_takeStep 14 = .ok (.getfield 40, 3) := by decide +kernel
theorem dX5_takeStep_17 : decode cX5_takeStep 17 = .ok (.iconst 1, 1) := by decide +kernel
theorem dX5_takeStep_18 : decode cX5_takeStep 18 = .ok (.iadd, 1) := by decide +kernel
theorem dX5_takeStep_19 : decode cX5_takeStep 19 = .ok (.putfield 40, 3) := by decide +kernel
theorem dX5_takeStep_22 : decode cX5_takeStep 22 = .ok (.iconst 1, 1) := by decide +kernel
theorem dX5_takeStep_23 : decode cX5_takeStep 23 = .ok (.ireturn, 1) := by decide +kernel
theorem dX5_noteMark_0 : decode cX5_noteMark 0 = .ok (.aload_n 0, 1) := by decide +kernel
theorem dX5_noteMark_1 : decode cX5_noteMark 1 = .ok (.getfield 43, 3) := by decide +kernel
theorem dX5_noteMark_4 : decode cX5_noteMark 4 = .ok (.aload_n 0, 1) := by decide +kernel
theorem dX5_noteMark_5 : decode cX5_noteMark 5 = .ok (.getfield 17, 3) := by decide +kernel
theorem dX5_noteMark_8 : decode cX5_noteMark 8 = .ok (.arraylength, 1) := by decide +kernel
theorem dX5_noteMark_9 : decode cX5_noteMark 9 = .ok (.if_icmp .ge 24, 3) := by decide +kernel
theorem dX5_noteMark_12 : decode cX5_noteMark 12 = .ok (.aload_n 0, 1) := by decide +kernel
theorem dX5_noteMark_13 : decode cX5_noteMark 13 = .ok (.getfield 17, 3) := by decide +kernel
theorem dX5_noteMark_16 : decode cX5_noteMark 16 = .ok (.aload_n 0, 1) := by decide +kernel
theorem dX5_noteMark_17 : decode cX5_noteMark 17 = .ok (.getfield 43, 3) := by decide +kernel
theorem dX5_noteMark_20 : decode cX5_noteMark 20 = .ok (.iload_n 1, 1) := by decide +kernel
theorem dX5_noteMark_21 : decode cX5_noteMark 21 = .ok (.i2b, 1) := by decide +kernel
theorem dX5_noteMark_22 : decode cX5_noteMark 22 = .ok (.bastore, 1) := by decide +kernel
theorem dX5_noteMark_23 : decode cX5_noteMark 23 = .ok (.aload_n 0, 1) := by decide +kernel
theorem dX5_noteMark_24 : decode cX5_noteMark 24 = .ok (.dup, 1) := by decide +kernel
theorem dX5_noteMark_25 : decode cX5_noteMark 25 = .ok (.getfield 43, 3) := by decide +kernel
theorem dX5_noteMark_28 : decode cX5_noteMark 28 = .ok (.iconst 1, 1) := by decide +kernel
theorem dX5_noteMark_29 : decode cX5_noteMark 29 = .ok (.iadd, 1) := by decide +kernel
theorem dX5_noteMark_30 : decode cX5_noteMark 30 = .ok (.putfield 43, 3) := by decide +kernel
theorem dX5_noteMark_33 : decode cX5_noteMark 33 = .ok (.return_, 1) := by decide +kernel
theorem dX5_markAt_0 : decode cX5_markAt 0 = .ok (.iload_n 1, 1) := by decide +kernel
theorem dX5_markAt_1 : decode cX5_markAt 1 = .ok (.ifCond .lt 29, 3) := by decide +kernel
theorem dX5_markAt_4 : decode cX5_markAt 4 = .ok (.iload_n 1, 1) := by decide +kernel
theorem dX5_markAt_5 : decode cX5_markAt 5 = .ok (.aload_n 0, 1) := by decide +kernel
theorem dX5_markAt_6 : decode cX5_markAt 6 = .ok (.getfield 43, 3) := by decide +kernel
theorem dX5_markAt_9 : decode cX5_markAt 9 = .ok (.if_icmp .ge 21, 3) := by decide +kernel
theorem dX5_markAt_12 : decode cX5_markAt 12 = .ok (.iload_n 1, 1) := by decide +kernel
theorem dX5_markAt_13 : decode cX5_markAt 13 = .ok (.aload_n 0, 1) := by decide +kernel
theorem dX5_markAt_14 : decode cX5_markAt 14 = .ok (.getfield 17, 3) := by decide +kernel
theorem dX5_markAt_17 : decode cX5_markAt 17 = .ok (.arraylength, 1) := by decide +kernel
theorem dX5_markAt_18 : decode cX5_markAt 18 = .ok (.if_icmp .ge 12, 3) := by decide +kernel
theorem dX5_markAt_21 : decode cX5_markAt 21 = .ok (.aload_n 0, 1) := by decide +kernel
theorem dX5_markAt_22 : decode cX5_markAt 22 = .ok (.getfield 17, 3) := by decide +kernel
theorem dX5_markAt_25 : decode cX5_markAt 25 = .ok (.iload_n 1, 1) := by decide +kernel
theorem dX5_markAt_26 : decode cX5_markAt 26 = .ok (.baload, 1) := by decide +kernel
theorem dX5_markAt_27 : decode cX5_markAt 27 = .ok (.goto 4, 3) := by decide +kernel
theorem dX5_markAt_30 : decode cX5_markAt 30 = .ok (.iconst (-1), 1) := by decide +kernel
theorem dX5_markAt_31 : decode cX5_markAt 31 = .ok (.ireturn, 1) := by decide +kernel
theorem dX5_abend_0 : decode cX5_abend 0 = .ok (.aload_n 0, 1) := by decide +kernel
theorem dX5_abend_1 : decode cX5_abend 1 = .ok (.iload_n 1, 1) := by decide +kernel
theorem dX5_abend_2 : decode cX5_abend 2 = .ok (.putfield 31, 3) := by decide +kernel
theorem dX5_abend_5 : decode cX5_abend 5 = .ok (.aload_n 0, 1) := by decide +kernel
theorem dX5_abend_6 : decode cX5_abend 6 = .ok (.aload_n 2, 1) := by decide +kernel
theorem dX5_abend_7 : decode cX5_abend 7 = .ok (.getfield 21, 3) := by decide +kernel
theorem dX5_abend_10 : decode cX5_abend 10 = .ok (.putfield 34, 3) := by decide +kernel
theorem dX5_abend_13 : decode cX5_abend 13 = .ok (.iload_n 1, 1) := by decide +kernel
theorem dX5_abend_14 : decode cX5_abend 14 = .ok (.iconst 5, 1) := by decide +kernel
theorem dX5_abend_15 : decode cX5_abend 15 = .ok (.if_icmp .ne 8, 3) := by decide +kernel
theorem dX5_abend_18 : decode cX5_abend 18 = .ok (.aload_n 0, 1) := by decide +kernel
theorem dX5_abend_19 : decode cX5_abend 19 = .ok (.iconst 1, 1) := by decide +kernel
theorem dX5_abend_20 : decode cX5_abend 20 = .ok (.putfield 46, 3) := by decide +kernel
theorem dX5_abend_23 : decode cX5_abend 23 = .ok (.return_, 1) := by decide +kernel
theorem dX5_stop_0 : decode cX5_stop 0 = .ok (.aload_n 0, 1) := by decide +kernel
theorem dX5_stop_1 : decode cX5_stop 1 = .ok (.iload_n 1, 1) := by decide +kernel
theorem dX5_stop_2 : decode cX5_stop 2 = .ok (.putfield 37, 3) := by decide +kernel
theorem dX5_stop_5 : decode cX5_stop 5 = .ok (.aload_n 0, 1) := by decide +kernel
theorem dX5_stop_6 : decode cX5_stop 6 = .ok (.aload_n 2, 1) := by decide +kernel
theorem dX5_stop_7 : decode cX5_stop 7 = .ok (.getfield 21, 3) := by decide +kernel
theorem dX5_stop_10 : decode cX5_stop 10 = .ok (.putfield 34, 3) := by decide +kernel
theorem dX5_stop_13 : decode cX5_stop 13 = .ok (.aload_n 0, 1) := by decide +kernel
theorem dX5_stop_14 : decode cX5_stop 14 = .ok (.iconst 1, 1) := by decide +kernel
theorem dX5_stop_15 : decode cX5_stop 15 = .ok (.putfield 46, 3) := by decide +kernel
theorem dX5_stop_18 : decode cX5_stop 18 = .ok (.return_, 1) := by decide +kernel
theorem dX6_init_0 : decode cX6_init 0 = .ok (.aload_n 0, 1) := by decide +kernel
theorem dX6_init_1 : decode cX6_init 1 = .ok (.invokespecial 3, 3) := by decide +kernel
theorem dX6_init_4 : decode cX6_init 4 = .ok (.aload_n 0, 1) := by decide +kernel
theorem dX6_init_5 : decode cX6_init 5 = .ok (.bipush 12, 2) := by decide +kernel
theorem dX6_init_7 : decode cX6_init 7 = .ok (.anewarray 9, 3) := by decide +kernel
theorem dX6_init_10 : decode cX6_init 10 = .ok (.putfield 11, 3) := by decide +kernel
theorem dX6_init_13 : decode cX6_init 13 = .ok (.aload_n 0, 1) := by decide +kernel
theorem dX6_init_14 : decode cX6_init 14 = .ok (.bipush 40, 2) := by decide +kernel
theorem dX6_init_16 : decode cX6_init 16 = .ok (.anewarray 17, 3) := by decide +kernel
theorem dX6_init_19 : decode cX6_init 19 = .ok (.putfield 19, 3) := by decide +kernel
theorem dX6_init_22 : decode cX6_init 22 = .ok (.return_, 1) := by decide +kernel
theorem dX6_addProgram_0 : decode cX6_addProgram 0 = .ok (.aload_n 0, 1) := by decide +kernel
theorem dX6_addProgram_1 : decode cX6_addProgram 1 = .ok (.getfield 23, 3) := by decide +kernel
theorem dX6_addProgram_4 : decode cX6_addProgram 4 = .ok (.aload_n 0, 1) := by decide +kernel
theorem dX6_addProgram_5 : decode cX6_addProgram 5 = .ok (.getfield 11, 3) := by decide +kernel
theorem dX6_addProgram_8 : decode cX6_addProgram 8 = .ok (.arraylength, 1) := by decide +kernel
theorem dX6_addProgram_9 : decode cX6_addProgram 9 = .ok (.if_icmp .lt 5, 3) := by decide +kernel
theorem dX6_addProgram_12 : decode cX6_addProgram 12 = .ok (.iconst (-1), 1) := by decide +kernel
theorem dX6_addProgram_13 : decode cX6_addProgram 13 = .ok (.ireturn, 1) := by decide +kernel
theorem dX6_addProgram_14 : decode cX6_addProgram 14 = .ok (.aload_n 0, 1) := by decide +kernel
theorem dX6_addProgram_15 : decode cX6_addProgram 15 = .ok (.getfield 11, 3) := by decide +kernel
theorem dX6_addProgram_18 : decode cX6_addProgram 18 = .ok (.aload_n 0, 1) := by decide +kernel
theorem dX6_addProgram_19 : decode cX6_addProgram 19 = .ok (.getfield 23, 3) := by decide +kernel
theorem dX6_addProgram_22 : decode cX6_addProgram 22 = .ok (.new 9, 3) := by decide +kernel
theorem dX6_addProgram_25 : decode cX6_addProgram 25 = .ok (.dup, 1) := by decide +kernel
theorem dX6_addProgram_26 : decode cX6_addProgram 26 = .ok (.aload_n 0, 1) := by decide +kernel
theorem dX6_addProgram_27 : decode cX6_addProgram 27 = .ok (.getfield 23, 3) := by decide +kernel
theorem dX6_addProgram_30 : decode cX6_addProgram 30 = .ok (.iconst 1, 1) := by decide +kernel
theorem dX6_addProgram_31 : decode cX6_addProgram 31 = .ok (.iadd, 1) := by decide +kernel
theorem dX6_addProgram_32 : decode cX6_addProgram 32 = .ok (.iload_n 1, 1) := by decide +kernel
theorem dX6_addProgram_33 : decode cX6_addProgram 33 = .ok (.iload_n 2, 1) := by decide +kernel
theorem dX6_addProgram_34 : decode cX6_addProgram 34 = .ok (.invokespecial 27, 3) := by decide +kernel
theorem dX6_addProgram_37 : decode cX6_addProgram 37 = .ok (.aastore, 1) := by decide +kernel
theorem dX6_addProgram_38 : decode cX6_addProgram 38 = .ok (.aload_n 0, 1) := by decide +kernel
theorem dX6_addProgram_39 : decode cX6_addProgram 39 = .ok (.dup, 1) := by decide +kernel
theorem dX6_addProgram_40 : decode cX6_addProgram 40 = .ok (.getfield 23, 3) := by decide +kernel
theorem dX6_addProgram_43 : decode cX6_addProgram 43 = .ok (.iconst 1, 1) := by decide +kernel
theorem dX6_addProgram_44 : decode cX6_addProgram 44 = .ok (.iadd, 1) := by decide +kernel
theorem dX6_addProgram_45 : decode cX6_addProgram 45 = .ok (.putfield 23, 3) := by decide +kernel
theorem dX6_addProgram_48 : decode cX6_addProgram 48 = .ok (.aload_n 0, 1) := by decide +kernel
theorem dX6_addProgram_49 : decode cX6_addProgram 49 = .ok (.getfield 23, 3) := by decide +kernel
theorem dX6_addProgram_52 : decode cX6_addProgram 52 = .ok (.ireturn, 1) := by decide +kernel
theorem dX6_findProgram_0 : decode cX6_findProgram 0 = .ok (.iload_n 1, 1) := by decide +kernel
theorem dX6_findProgram_1 : decode cX6_findProgram 1 = .ok (.iconst 1, 1) := by decide +kernel
theorem dX6_findProgram_2 : decode cX6_findProgram 2 = .ok (.if_icmp .lt 22, 3) := by decide +kernel
theorem dX6_findProgram_5 : decode cX6_findProgram 5 = .ok (.iload_n 1, 1) := by decide +kernel
theorem dX6_findProgram_6 : decode cX6_findProgram 6 = .ok (.aload_n 0, 1) := by decide +kernel
theorem dX6_findProgram_7 : decode cX6_findProgram 7 = .ok (.getfield 23, 3) := by decide +kernel
theorem dX6_findProgram_10 : decode cX6_findProgram 10 = .ok (.if_icmp .gt 14, 3) := by decide +kernel
theorem dX6_findProgram_13 : decode cX6_findProgram 13 = .ok (.aload_n 0, 1) := by decide +kernel
theorem dX6_findProgram_14 : decode cX6_findProgram 14 = .ok (.getfield 11, 3) := by decide +kernel
theorem dX6_findProgram_17 : decode cX6_findProgram 17 = .ok (.iload_n 1, 1) := by decide +kernel
theorem dX6_findProgram_18 : decode cX6_findProgram 18 = .ok (.iconst 1, 1) := by decide +kernel
theorem dX6_findProgram_19 : decode cX6_findProgram 19 = .ok (.isub, 1) := by decide +kernel
theorem dX6_findProgram_20 : decode cX6_findProgram 20 = .ok (.aaload, 1) := by decide +kernel
theorem dX6_findProgram_21 : decode cX6_findProgram 21 = .ok (.goto 4, 3) := by decide +kernel
theorem dX6_findProgram_24 : decode cX6_findProgram 24 = .ok (.aconst_null, 1) := by decide +kernel
theorem dX6_findProgram_25 : decode cX6_findProgram 25 = .ok (.areturn, 1) := by decide +kernel
theorem dX6_findClass_0 : decode cX6_findClass 0 = .ok (.iload_n 1, 1) := by decide +kernel
theorem dX6_findClass_1 : decode cX6_findClass 1 = .ok (.iconst 1, 1) := by decide +kernel
theorem dX6_findClass_2 : decode cX6_findClass 2 = .ok (.if_icmp .lt 22, 3) := by decide +kernel
theorem dX6_findClass_5 : decode cX6_findClass 5 = .ok (.iload_n 1, 1) := by decide +kernel
theorem dX6_findClass_6 : decode cX6_findClass 6 = .ok (.aload_n 0, 1) := by decide +kernel
theorem dX6_findClass_7 : decode cX6_findClass 7 = .ok (.getfield 30, 3) := by decide +kernel
theorem dX6_findClass_10 : decode cX6_findClass 10 = .ok (.if_icmp .gt 14, 3) := by decide +kernel
theorem dX6_findClass_13 : decode cX6_findClass 13 = .ok (.aload_n 0, 1) := by decide +kernel
theorem dX6_findClass_14 : decode cX6_findClass 14 = .ok (.getfield 19, 3) := by decide +kernel
theorem dX6_findClass_17 : decode cX6_findClass 17 = .ok (.iload_n 1, 1) := by decide +kernel
theorem dX6_findClass_18 : decode cX6_findClass 18 = .ok (.iconst 1, 1) := by decide +kernel
theorem dX6_findClass_19 : decode cX6_findClass 19 = .ok (.isub, 1) := by decide +kernel
theorem dX6_findClass_20 : decode cX6_findClass 20 = .ok (.aaload, 1) := by decide +kernel
theorem dX6_findClass_21 : decode cX6_findClass 21 = .ok (.goto 4, 3) := by decide +kernel
theorem dX6_findClass_24 : decode cX6_findClass 24 = .ok (.aconst_null, 1) := by decide +kernel
theorem dX6_findClass_25 : decode cX6_findClass 25 = .ok (.areturn, 1) := by decide +kernel
theorem dX6_classFor_0 : decode cX6_classFor 0 = .ok (.aload_n 1, 1) := by decide +kernel
theorem dX6_classFor_1 : decode cX6_classFor 1 = .ok (.aload_n 2, 1) := by decide +kernel
theorem dX6_classFor_2 : decode cX6_classFor 2 = .ok (.invokevirtual 33, 3) := by decide +kernel
theorem dX6_classFor_5 : decode cX6_classFor 5 = .ok (.astore_n 3, 1) := by decide +kernel
theorem dX6_classFor_6 : decode cX6_classFor 6 = .ok (.aload_n 3, 1) := by decide +kernel
theorem dX6_classFor_7 : decode cX6_classFor 7 = .ok (.ifnull 16, 3) := by decide +kernel
theorem dX6_classFor_10 : decode cX6_classFor 10 = .ok (.aload_n 3, 1) := by decide +kernel
theorem dX6_classFor_11 : decode cX6_classFor 11 = .ok (.getfield 39, 3) := by decide +kernel
theorem dX6_classFor_14 : decode cX6_classFor 14 = .ok (.aload_n 2, 1) := by decide +kernel
theorem dX6_classFor_15 : decode cX6_classFor 15 = .ok (.getfield 42, 3) := by decide +kernel
theorem dX6_classFor_18 : decode cX6_classFor 18 = .ok (.if_icmp .ne 5, 3) := by decide +kernel
theorem dX6_classFor_21 : decode cX6_classFor 21 = .ok (.aload_n 3, 1) := by decide +kernel
theorem dX6_classFor_22 : decode cX6_classFor 22 = .ok (.areturn, 1) := by decide +kernel
theorem dX6_classFor_23 : decode cX6_classFor 23 = .ok (.aload_n 0, 1) := by decide +kernel
theorem dX6_classFor_24 : decode cX6_classFor 24 = .ok (.getfield 30, 3) := by decide +kernel
theorem dX6_classFor_27 : decode cX6_classFor 27 = .ok (.aload_n 0, 1) := by decide +kernel
theorem dX6_classFor_28 : decode cX6_classFor 28 = .ok (.getfield 19, 3) := by decide +kernel
theorem dX6_classFor_31 : decode cX6_classFor 31 = .ok (.arraylength, 1) := by decide +kernel
theorem dX6_classFor_32 : decode cX6_classFor 32 = .ok (.if_icmp .lt 5, 3) := by decide +kernel
theorem dX6_classFor_35 : decode cX6_classFor 35 = .ok (.aconst_null, 1) := by decide +kernel
theorem dX6_classFor_36 : decode cX6_classFor 36 = .ok (.areturn, 1) := by decide +kernel
theorem dX6_classFor_37 : decode cX6_classFor 37 = .ok (.aload_n 3, 1) := by decide +kernel
theorem dX6_classFor_38 : decode cX6_classFor 38 = .ok (.ifnull 8, 3) := by decide +kernel
theorem dX6_classFor_41 : decode cX6_classFor 41 = .ok (.aload_n 3, 1) := by decide +kernel
theorem dX6_classFor_42 : decode cX6_classFor 42 = .ok (.iconst 1, 1) := by decide +kernel
theorem dX6_classFor_43 : decode cX6_classFor 43 = .ok (.putfield 43, 3) := by decide +kernel
theorem dX6_classFor_46 : decode cX6_classFor 46 = .ok (.new 17, 3) := by decide +kernel
theorem dX6_classFor_49 : decode cX6_classFor 49 = .ok (.dup, 1) := by decide +kernel
theorem dX6_classFor_50 : decode cX6_classFor 50 = .ok (.aload_n 0, 1) := by decide +kernel
theorem dX6_classFor_51 : decode cX6_classFor 51 = .ok (.getfield 30, 3) := by decide +kernel
theorem dX6_classFor_54 : decode cX6_classFor 54 = .ok (.iconst 1, 1) := by decide +kernel
theorem dX6_classFor_55 : decode cX6_classFor 55 = .ok (.iadd, 1) := by decide +kernel
theorem dX6_classFor_56 : decode cX6_classFor 56 = .ok (.aload_n 1, 1) := by decide +kernel
theorem dX6_classFor_57 : decode cX6_classFor 57 = .ok (.aload_n 2, 1) := by decide +kernel
theorem dX6_classFor_58 : decode cX6_classFor 58 = .ok (.invokespecial 47, 3) := by decide +kernel
theorem dX6_classFor_61 : decode cX6_classFor 61 = .ok (.astore 4, 2) := by decide +kernel
theorem dX6_classFor_63 : decode cX6_classFor 63 = .ok (.aload_n 0, 1) := by decide +kernel
theorem dX6_classFor_64 : decode cX6_classFor 64 = .ok (.getfield 19, 3) := by decide +kernel
theorem dX6_classFor_67 : decode cX6_classFor 67 = .ok (.aload_n 0, 1) := by decide +kernel
theorem dX6_classFor_68 : decode cX6_classFor 68 = .ok (.getfield 30, 3) := by decide +kernel
theorem dX6_classFor_71 : decode cX6_classFor 71 = .ok (.aload 4, 2) := by decide +kernel
theorem dX6_classFor_73 : decode cX6_classFor 73 = .ok (.aastore, 1) := by decide +kernel
theorem dX6_classFor_74 : decode cX6_classFor 74 = .ok (.aload_n 0, 1) := by decide +kernel
theorem dX6_classFor_75 : decode cX6_classFor 75 = .ok (.dup, 1) := by decide +kernel
theorem dX6_classFor_76 : decode cX6_classFor 76 = .ok (.getfield 30, 3) := by decide +kernel
theorem dX6_classFor_79 : decode cX6_classFor 79 = .ok (.iconst 1, 1) := by decide +kernel
theorem dX6_classFor_80 : decode cX6_classFor 80 = .ok (.iadd, 1) := by decide +kernel
theorem dX6_classFor_81 : decode cX6_classFor 81 = .ok (.putfield 30, 3) := by decide +kernel
theorem dX6_classFor_84 : decode cX6_classFor 84 = .ok (.aload_n 1, 1) := by decide +kernel
theorem dX6_classFor_85 : decode cX6_classFor 85 = .ok (.aload_n 2, 1) := by decide +kernel
theorem dX6_classFor_86 : decode cX6_classFor 86 = .ok (.aload 4, 2) := by decide +kernel
theorem dX6_classFor_88 : decode cX6_classFor 88 = .ok (.invokevirtual 50, 3) := by decide +kernel
theorem dX6_classFor_91 : decode cX6_classFor 91 = .ok (.aload 4, 2) := by decide +kernel
theorem dX6_classFor_93 : decode cX6_classFor 93 = .ok (.areturn, 1) := by decide +kernel
theorem dX6_haveCommonClass_0 : decode cX6_haveCommonClass 0 = .ok (.iconst 0, 1) := by decide +kernel
theorem dX6_haveCommonClass_1 : decode cX6_haveCommonClass 1 = .ok (.istore_n 3, 1) := by decide +kernel
theorem dX6_haveCommonClass_2 : decode cX6_haveCommonClass 2 = .ok (.iload_n 3, 1) := by decide +kernel
theorem dX6_haveCommonClass_3 : decode cX6_haveCommonClass 3 = .ok (.aload_n 0, 1) := by decide +kernel
theorem dX6_haveCommonClass_4 : decode cX6_haveCommonClass 4 = .ok (.getfield 30, 3) := by decide +kernel
theorem dX6_haveCommonClass_7 : decode cX6_haveCommonClass 7 = .ok (.if_icmp .ge 51, 3) := by decide +kernel
theorem dX6_haveCommonClass_10 : decode cX6_haveCommonClass 10 = .ok (.iload_n 3, 1) := by decide +kernel
theorem dX6_haveCommonClass_11 : decode cX6_haveCommonClass 11 = .ok (.aload_n 0, 1) := by decide +kernel
theorem dX6_haveCommonClass_12 : decode cX6_haveCommonClass 12 = .ok (.getfield 19, 3) := by decide +kernel
theorem dX6_haveCommonClass_15 : decode cX6_haveCommonClass 15 = .ok (.arraylength, 1) := by decide +kernel
theorem dX6_haveCommonClass_16 : decode cX6_haveCommonClass 16 = .ok (.if_icmp .ge 42, 3) := by decide +kernel
theorem dX6_haveCommonClass_19 : decode cX6_haveCommonClass 19 = .ok (.aload_n 0, 1) := by decide +kernel
theorem dX6_haveCommonClass_20 : decode cX6_haveCommonClass 20 = .ok (.getfield 19, 3) := by decide +kernel
theorem dX6_haveCommonClass_23 : decode cX6_haveCommonClass 23 = .ok (.iload_n 3, 1) := by decide +kernel
theorem dX6_haveCommonClass_24 : decode cX6_haveCommonClass 24 = .ok (.aaload, 1) := by decide +kernel
theorem dX6_haveCommonClass_25 : decode cX6_haveCommonClass 25 = .ok (.astore 4, 2) := by decide +kernel
theorem dX6_haveCommonClass_27 : decode cX6_haveCommonClass 27 = .ok (.aload 4, 2) := by decide +kernel
theorem dX6_haveCommonClass_29 : decode cX6_haveCommonClass 29 = .ok (.ifnull 23, 3) := by decide +kernel
theorem dX6_haveCommonClass_32 : decode cX6_haveCommonClass 32 = .ok (.aload 4, 2) := by decide +kernel
theorem dX6_haveCommonClass_34 : decode cX6_haveCommonClass 34 = .ok (.getfield 54, 3) := by decide +kernel
theorem dX6_haveCommonClass_37 : decode cX6_haveCommonClass 37 = .ok (.aload_n 1, 1) := by decide +kernel
theorem dX6_haveCommonClass_38 : decode cX6_haveCommonClass 38 = .ok (.if_acmp .ne 14, 3) := by decide +kernel
theorem dX6_haveCommonClass_41 : decode cX6_haveCommonClass 41 = .ok (.aload 4, 2) := by decide +kernel
theorem dX6_haveCommonClass_43 : decode cX6_haveCommonClass 43 = .ok (.getfield 54, 3) := by decide +kernel
theorem dX6_haveCommonClass_46 : decode cX6_haveCommonClass 46 = .ok (.aload_n 2, 1) := by decide +kernel
theorem dX6_haveCommonClass_47 : decode cX6_haveCommonClass 47 = .ok (.if_acmp .ne 5, 3) := by decide +kernel
theorem dX6_haveCommonClass_50 : decode cX6_haveCommonClass 50 = .ok (.iconst 1, 1) := by decide +kernel
theorem dX6_haveCommonClass_51 : decode cX6_haveCommonClass 51 = .ok (.ireturn, 1) := by decide +kernel
theorem dX6_haveCommonClass_52 : decode cX6_haveCommonClass 52 = .ok (.iinc 3 1, 3) := by decide +kernel
theorem dX6_haveCommonClass_55 : decode cX6_haveCommonClass 55 = .ok (.goto (-53), 3) := by decide +kernel
theorem dX6_haveCommonClass_58 : decode cX6_haveCommonClass 58 = .ok (.iconst 0, 1) := by decide +kernel
theorem dX6_haveCommonClass_59 : decode cX6_haveCommonClass 59 = .ok (.ireturn, 1) := by decide +kernel
theorem dX7_init_0 : decode cX7_init 0 = .ok (.aload_n 0, 1) := by decide +kernel
theorem dX7_init_1 : decode cX7_init 1 = .ok (.invokespecial 1, 3) := by decide +kernel
theorem dX7_init_4 : decode cX7_init 4 = .ok (.aload_n 0, 1) := by decide +kernel
theorem dX7_init_5 : decode cX7_init 5 = .ok (.new 7, 3) := by decide +kernel
theorem dX7_init_8 : decode cX7_init 8 = .ok (.dup, 1) := by decide +kernel
theorem dX7_init_9 : decode cX7_init 9 = .ok (.invokespecial 9, 3) := by decide +kernel
theorem dX7_init_12 : decode cX7_init 12 = .ok (.putfield 10, 3) := by decide +kernel
theorem dX7_init_15 : decode cX7_init 15 = .ok (.aload_n 0, 1) := by decide +kernel
theorem dX7_init_16 : decode cX7_init 16 = .ok (.new 16, 3) := by decide +kernel
theorem dX7_init_19 : decode cX7_init 19 = .ok (.dup, 1) := by decide +kernel
end
section
theorem dX7_init_20 : decode cX7_init 20 = .ok (.aload_n 0, 1) := by decide +kernel
theorem dX7_init_21 : decode cX7_init 21 = .ok (.getfield 10, 3) := by decide +kernel
theorem dX7_init_24 : decode cX7_init 24 = .ok (.invokespecial 18, 3) := by decide +kernel
theorem dX7_init_27 : decode cX7_init 27 = .ok (.putfield 21, 3) := by decide +kernel
theorem dX7_init_30 : decode cX7_init 30 = .ok (.aload_n 0, 1) := by decide +kernel
theorem dX7_init_31 : decode cX7_init 31 = .ok (.new 25, 3) := by decide +kernel
theorem dX7_init_34 : decode cX7_init 34 = .ok (.dup, 1) := by decide +kernel
theorem dX7_init_35 : decode cX7_init 35 = .ok (.invokespecial 27, 3) := by decide +kernel
theorem dX7_init_38 : decode cX7_init 38 = .ok (.putfield 28, 3) := by decide +kernel
theorem dX7_init_41 : decode cX7_init 41 = .ok (.aload_n 0, 1) := by decide +kernel
theorem dX7_init_42 : decode cX7_init 42 = .ok (.bipush 8, 2) := by decide +kernel
theorem dX7_init_44 : decode cX7_init 44 = .ok (.anewarray 32, 3) := by decide +kernel
theorem dX7_init_47 : decode cX7_init 47 = .ok (.putfield 34, 3) := by decide +kernel
theorem dX7_init_50 : decode cX7_init 50 = .ok (.return_, 1) := by decide +kernel
theorem dX7_program_0 : decode cX7_program 0 = .ok (.iload_n 1, 1) := by decide +kernel
theorem dX7_program_1 : decode cX7_program 1 = .ok (.iconst 1, 1) := by decide +kernel
theorem dX7_program_2 : decode cX7_program 2 = .ok (.if_icmp .lt 9, 3) := by decide +kernel
theorem dX7_program_5 : decode cX7_program 5 = .ok (.iload_n 1, 1) := by decide +kernel
theorem dX7_program_6 : decode cX7_program 6 = .ok (.bipush 100, 2) := by decide +kernel
theorem dX7_program_8 : decode cX7_program 8 = .ok (.if_icmp .le 6, 3) := by decide +kernel
theorem dX7_program_11 : decode cX7_program 11 = .ok (.bipush (-4), 2) := by decide +kernel
theorem dX7_program_13 : decode cX7_program 13 = .ok (.ireturn, 1) := by decide +kernel
theorem dX7_program_14 : decode cX7_program 14 = .ok (.aload_n 0, 1) := by decide +kernel
theorem dX7_program_15 : decode cX7_program 15 = .ok (.getfield 10, 3) := by decide +kernel
theorem dX7_program_18 : decode cX7_program 18 = .ok (.iload_n 1, 1) := by decide +kernel
theorem dX7_program_19 : decode cX7_program 19 = .ok (.iload_n 2, 1) := by decide +kernel
theorem dX7_program_20 : decode cX7_program 20 = .ok (.invokevirtual 38, 3) := by decide +kernel
theorem dX7_program_23 : decode cX7_program 23 = .ok (.ireturn, 1) := by decide +kernel
theorem dX7_code_0 : decode cX7_code 0 = .ok (.aload_n 0, 1) := by decide +kernel
theorem dX7_code_1 : decode cX7_code 1 = .ok (.getfield 10, 3) := by decide +kernel
theorem dX7_code_4 : decode cX7_code 4 = .ok (.iload_n 1, 1) := by decide +kernel
theorem dX7_code_5 : decode cX7_code 5 = .ok (.invokevirtual 42, 3) := by decide +kernel
theorem dX7_code_8 : decode cX7_code 8 = .ok (.astore 5, 2) := by decide +kernel
theorem dX7_code_10 : decode cX7_code 10 = .ok (.aload 5, 2) := by decide +kernel
theorem dX7_code_12 : decode cX7_code 12 = .ok (.ifnonnull 6, 3) := by decide +kernel
theorem dX7_code_15 : decode cX7_code 15 = .ok (.bipush (-2), 2) := by decide +kernel
theorem dX7_code_17 : decode cX7_code 17 = .ok (.ireturn, 1) := by decide +kernel
theorem dX7_code_18 : decode cX7_code 18 = .ok (.aload 5, 2) := by decide +kernel
theorem dX7_code_20 : decode cX7_code 20 = .ok (.iload_n 2, 1) := by decide +kernel
theorem dX7_code_21 : decode cX7_code 21 = .ok (.iload_n 3, 1) := by decide +kernel
theorem dX7_code_22 : decode cX7_code 22 = .ok (.iload 4, 2) := by decide +kernel
theorem dX7_code_24 : decode cX7_code 24 = .ok (.invokevirtual 46, 3) := by decide +kernel
theorem dX7_code_27 : decode cX7_code 27 = .ok (.ifCond .ne 6, 3) := by decide +kernel
theorem dX7_code_30 : decode cX7_code 30 = .ok (.bipush (-4), 2) := by decide +kernel
theorem dX7_code_32 : decode cX7_code 32 = .ok (.ireturn, 1) := by decide +kernel
theorem dX7_code_33 : decode cX7_code 33 = .ok (.aload 5, 2) := by decide +kernel
theorem dX7_code_35 : decode cX7_code 35 = .ok (.iload_n 2, 1) := by decide +kernel
theorem dX7_code_36 : decode cX7_code 36 = .ok (.iload_n 3, 1) := by decide +kernel
theorem dX7_code_37 : decode cX7_code 37 = .ok (.iload 4, 2) := by decide +kernel
theorem dX7_code_39 : decode cX7_code 39 = .ok (.invokevirtual 52, 3) := by decide +kernel
theorem dX7_code_42 : decode cX7_code 42 = .ok (.ireturn, 1) := by decide +kernel
theorem dX7_unit_0 : decode cX7_unit 0 = .ok (.aload_n 0, 1) := by decide +kernel
theorem dX7_unit_1 : decode cX7_unit 1 = .ok (.getfield 56, 3) := by decide +kernel
theorem dX7_unit_4 : decode cX7_unit 4 = .ok (.aload_n 0, 1) := by decide +kernel
theorem dX7_unit_5 : decode cX7_unit 5 = .ok (.getfield 34, 3) := by decide +kernel
theorem dX7_unit_8 : decode cX7_unit 8 = .ok (.arraylength, 1) := by decide +kernel
theorem dX7_unit_9 : decode cX7_unit 9 = .ok (.if_icmp .lt 5, 3) := by decide +kernel
theorem dX7_unit_12 : decode cX7_unit 12 = .ok (.iconst (-1), 1) := by decide +kernel
theorem dX7_unit_13 : decode cX7_unit 13 = .ok (.ireturn, 1) := by decide +kernel
theorem dX7_unit_14 : decode cX7_unit 14 = .ok (.aload_n 0, 1) := by decide +kernel
theorem dX7_unit_15 : decode cX7_unit 15 = .ok (.getfield 34, 3) := by decide +kernel
theorem dX7_unit_18 : decode cX7_unit 18 = .ok (.aload_n 0, 1) := by decide +kernel
theorem dX7_unit_19 : decode cX7_unit 19 = .ok (.getfield 56, 3) := by decide +kernel
theorem dX7_unit_22 : decode cX7_unit 22 = .ok (.new 32, 3) := by decide +kernel
theorem dX7_unit_25 : decode cX7_unit 25 = .ok (.dup, 1) := by decide +kernel
theorem dX7_unit_26 : decode cX7_unit 26 = .ok (.invokespecial 60, 3) := by decide +kernel
theorem dX7_unit_29 : decode cX7_unit 29 = .ok (.aastore, 1) := by decide +kernel
theorem dX7_unit_30 : decode cX7_unit 30 = .ok (.aload_n 0, 1) := by decide +kernel
theorem dX7_unit_31 : decode cX7_unit 31 = .ok (.dup, 1) := by decide +kernel
theorem dX7_unit_32 : decode cX7_unit 32 = .ok (.getfield 56, 3) := by decide +kernel
theorem dX7_unit_35 : decode cX7_unit 35 = .ok (.iconst 1, 1) := by decide +kernel
theorem dX7_unit_36 : decode cX7_unit 36 = .ok (.iadd, 1) := by decide +kernel
theorem dX7_unit_37 : decode cX7_unit 37 = .ok (.putfield 56, 3) := by decide +kernel
theorem dX7_unit_40 : decode cX7_unit 40 = .ok (.aload_n 0, 1) := by decide +kernel
theorem dX7_unit_41 : decode cX7_unit 41 = .ok (.getfield 56, 3) := by decide +kernel
theorem dX7_unit_44 : decode cX7_unit 44 = .ok (.ireturn, 1) := by decide +kernel
theorem dX7_make_0 : decode cX7_make 0 = .ok (.aload_n 0, 1) := by decide +kernel
theorem dX7_make_1 : decode cX7_make 1 = .ok (.iload_n 1, 1) := by decide +kernel
theorem dX7_make_2 : decode cX7_make 2 = .ok (.invokevirtual 61, 3) := by decide +kernel
theorem dX7_make_5 : decode cX7_make 5 = .ok (.astore_n 3, 1) := by decide +kernel
theorem dX7_make_6 : decode cX7_make 6 = .ok (.aload_n 0, 1) := by decide +kernel
theorem dX7_make_7 : decode cX7_make 7 = .ok (.getfield 10, 3) := by decide +kernel
theorem dX7_make_10 : decode cX7_make 10 = .ok (.iload_n 2, 1) := by decide +kernel
theorem dX7_make_11 : decode cX7_make 11 = .ok (.invokevirtual 42, 3) := by decide +kernel
theorem dX7_make_14 : decode cX7_make 14 = .ok (.astore 4, 2) := by decide +kernel
theorem dX7_make_16 : decode cX7_make 16 = .ok (.aload_n 3, 1) := by decide +kernel
theorem dX7_make_17 : decode cX7_make 17 = .ok (.ifnull 8, 3) := by decide +kernel
theorem dX7_make_20 : decode cX7_make 20 = .ok (.aload 4, 2) := by decide +kernel
theorem dX7_make_22 : decode cX7_make 22 = .ok (.ifnonnull 6, 3) := by decide +kernel
theorem dX7_make_25 : decode cX7_make 25 = .ok (.bipush (-2), 2) := by decide +kernel
theorem dX7_make_27 : decode cX7_make 27 = .ok (.ireturn, 1) := by decide +kernel
theorem dX7_make_28 : decode cX7_make 28 = .ok (.aload_n 3, 1) := by decide +kernel
theorem dX7_make_29 : decode cX7_make 29 = .ok (.getfield 65, 3) := by decide +kernel
theorem dX7_make_32 : decode cX7_make 32 = .ok (.ifCond .eq 6, 3) := by decide +kernel
theorem dX7_make_35 : decode cX7_make 35 = .ok (.bipush (-5), 2) := by decide +kernel
theorem dX7_make_37 : decode cX7_make 37 = .ok (.ireturn, 1) := by decide +kernel
theorem dX7_make_38 : decode cX7_make 38 = .ok (.aload_n 0, 1) := by decide +kernel
theorem dX7_make_39 : decode cX7_make 39 = .ok (.getfield 10, 3) := by decide +kernel
theorem dX7_make_42 : decode cX7_make 42 = .ok (.aload_n 3, 1) := by decide +kernel
theorem dX7_make_43 : decode cX7_make 43 = .ok (.aload 4, 2) := by decide +kernel
theorem dX7_make_45 : decode cX7_make 45 = .ok (.invokevirtual 69, 3) := by decide +kernel
theorem dX7_make_48 : decode cX7_make 48 = .ok (.astore 5, 2) := by decide +kernel
theorem dX7_make_50 : decode cX7_make 50 = .ok (.aload 5, 2) := by decide +kernel
theorem dX7_make_52 : decode cX7_make 52 = .ok (.ifnonnull 7, 3) := by decide +kernel
theorem dX7_make_55 : decode cX7_make 55 = .ok (.iconst (-1), 1) := by decide +kernel
theorem dX7_make_56 : decode cX7_make 56 = .ok (.goto 8, 3) := by decide +kernel
theorem dX7_make_59 : decode cX7_make 59 = .ok (.aload 5, 2) := by decide +kernel
theorem dX7_make_61 : decode cX7_make 61 = .ok (.getfield 73, 3) := by decide +kernel
theorem dX7_make_64 : decode cX7_make 64 = .ok (.ireturn, 1) := by decide +kernel
theorem dX7_run_0 : decode cX7_run 0 = .ok (.aload_n 0, 1) := by decide +kernel
theorem dX7_run_1 : decode cX7_run 1 = .ok (.iload_n 1, 1) := by decide +kernel
theorem dX7_run_2 : decode cX7_run 2 = .ok (.invokevirtual 61, 3) := by decide +kernel
theorem dX7_run_5 : decode cX7_run 5 = .ok (.astore_n 3, 1) := by decide +kernel
theorem dX7_run_6 : decode cX7_run 6 = .ok (.aload_n 0, 1) := by decide +kernel
theorem dX7_run_7 : decode cX7_run 7 = .ok (.getfield 10, 3) := by decide +kernel
theorem dX7_run_10 : decode cX7_run 10 = .ok (.iload_n 2, 1) := by decide +kernel
theorem dX7_run_11 : decode cX7_run 11 = .ok (.invokevirtual 42, 3) := by decide +kernel
theorem dX7_run_14 : decode cX7_run 14 = .ok (.astore 4, 2) := by decide +kernel
theorem dX7_run_16 : decode cX7_run 16 = .ok (.aload_n 3, 1) := by decide +kernel
theorem dX7_run_17 : decode cX7_run 17 = .ok (.ifnull 8, 3) := by decide +kernel
theorem dX7_run_20 : decode cX7_run 20 = .ok (.aload 4, 2) := by decide +kernel
theorem dX7_run_22 : decode cX7_run 22 = .ok (.ifnonnull 6, 3) := by decide +kernel
theorem dX7_run_25 : decode cX7_run 25 = .ok (.bipush (-2), 2) := by decide +kernel
theorem dX7_run_27 : decode cX7_run 27 = .ok (.ireturn, 1) := by decide +kernel
theorem dX7_run_28 : decode cX7_run 28 = .ok (.aload_n 3, 1) := by decide +kernel
theorem dX7_run_29 : decode cX7_run 29 = .ok (.aload 4, 2) := by decide +kernel
theorem dX7_run_31 : decode cX7_run 31 = .ok (.invokevirtual 78, 3) := by decide +kernel
theorem dX7_run_34 : decode cX7_run 34 = .ok (.astore 5, 2) := by decide +kernel
theorem dX7_run_36 : decode cX7_run 36 = .ok (.aload_n 3, 1) := by decide +kernel
theorem dX7_run_37 : decode cX7_run 37 = .ok (.getfield 65, 3) := by decide +kernel
theorem dX7_run_40 : decode cX7_run 40 = .ok (.ifCond .ne 8, 3) := by decide +kernel
theorem dX7_run_43 : decode cX7_run 43 = .ok (.aload 5, 2) := by decide +kernel
theorem dX7_run_45 : decode cX7_run 45 = .ok (.ifnonnull 6, 3) := by decide +kernel
theorem dX7_run_48 : decode cX7_run 48 = .ok (.bipush (-5), 2) := by decide +kernel
theorem dX7_run_50 : decode cX7_run 50 = .ok (.ireturn, 1) := by decide +kernel
theorem dX7_run_51 : decode cX7_run 51 = .ok (.aload_n 3, 1) := by decide +kernel
theorem dX7_run_52 : decode cX7_run 52 = .ok (.invokevirtual 82, 3) := by decide +kernel
theorem dX7_run_55 : decode cX7_run 55 = .ok (.aload_n 0, 1) := by decide +kernel
theorem dX7_run_56 : decode cX7_run 56 = .ok (.getfield 21, 3) := by decide +kernel
theorem dX7_run_59 : decode cX7_run 59 = .ok (.aload_n 3, 1) := by decide +kernel
theorem dX7_run_60 : decode cX7_run 60 = .ok (.aload 5, 2) := by decide +kernel
theorem dX7_run_62 : decode cX7_run 62 = .ok (.iconst 0, 1) := by decide +kernel
theorem dX7_run_63 : decode cX7_run 63 = .ok (.invokevirtual 85, 3) := by decide +kernel
theorem dX7_run_66 : decode cX7_run 66 = .ok (.pop, 1) := by decide +kernel
theorem dX7_run_67 : decode cX7_run 67 = .ok (.aload_n 3, 1) := by decide +kernel
theorem dX7_run_68 : decode cX7_run 68 = .ok (.getfield 89, 3) := by decide +kernel
theorem dX7_run_71 : decode cX7_run 71 = .ok (.ifCond .ne 7, 3) := by decide +kernel
theorem dX7_run_74 : decode cX7_run 74 = .ok (.iconst 1, 1) := by decide +kernel
theorem dX7_run_75 : decode cX7_run 75 = .ok (.goto 4, 3) := by decide +kernel
theorem dX7_run_78 : decode cX7_run 78 = .ok (.iconst 2, 1) := by decide +kernel
theorem dX7_run_79 : decode cX7_run 79 = .ok (.ireturn, 1) := by decide +kernel
theorem dX7_at_0 : decode cX7_at 0 = .ok (.aload_n 0, 1) := by decide +kernel
theorem dX7_at_1 : decode cX7_at 1 = .ok (.iload_n 1, 1) := by decide +kernel
theorem dX7_at_2 : decode cX7_at 2 = .ok (.invokevirtual 61, 3) := by decide +kernel
theorem dX7_at_5 : decode cX7_at 5 = .ok (.astore 4, 2) := by decide +kernel
theorem dX7_at_7 : decode cX7_at 7 = .ok (.aload_n 0, 1) := by decide +kernel
theorem dX7_at_8 : decode cX7_at 8 = .ok (.getfield 10, 3) := by decide +kernel
theorem dX7_at_11 : decode cX7_at 11 = .ok (.iload_n 2, 1) := by decide +kernel
theorem dX7_at_12 : decode cX7_at 12 = .ok (.invokevirtual 42, 3) := by decide +kernel
theorem dX7_at_15 : decode cX7_at 15 = .ok (.astore 5, 2) := by decide +kernel
theorem dX7_at_17 : decode cX7_at 17 = .ok (.aload 4, 2) := by decide +kernel
theorem dX7_at_19 : decode cX7_at 19 = .ok (.ifnull 8, 3) := by decide +kernel
theorem dX7_at_22 : decode cX7_at 22 = .ok (.aload 5, 2) := by decide +kernel
theorem dX7_at_24 : decode cX7_at 24 = .ok (.ifnonnull 7, 3) := by decide +kernel
theorem dX7_at_27 : decode cX7_at 27 = .ok (.aconst_null, 1) := by decide +kernel
theorem dX7_at_28 : decode cX7_at 28 = .ok (.goto 10, 3) := by decide +kernel
theorem dX7_at_31 : decode cX7_at 31 = .ok (.aload 4, 2) := by decide +kernel
theorem dX7_at_33 : decode cX7_at 33 = .ok (.aload 5, 2) := by decide +kernel
theorem dX7_at_35 : decode cX7_at 35 = .ok (.invokevirtual 78, 3) := by decide +kernel
theorem dX7_at_38 : decode cX7_at 38 = .ok (.astore 6, 2) := by decide +kernel
theorem dX7_at_40 : decode cX7_at 40 = .ok (.aload 6, 2) := by decide +kernel
theorem dX7_at_42 : decode cX7_at 42 = .ok (.ifnull 20, 3) := by decide +kernel
theorem dX7_at_45 : decode cX7_at 45 = .ok (.aload 6, 2) := by decide +kernel
theorem dX7_at_47 : decode cX7_at 47 = .ok (.getfield 92, 3) := by decide +kernel
theorem dX7_at_50 : decode cX7_at 50 = .ok (.ifCond .eq 12, 3) := by decide +kernel
theorem dX7_at_53 : decode cX7_at 53 = .ok (.aload 6, 2) := by decide +kernel
theorem dX7_at_55 : decode cX7_at 55 = .ok (.iload_n 3, 1) := by decide +kernel
theorem dX7_at_56 : decode cX7_at 56 = .ok (.invokevirtual 95, 3) := by decide +kernel
theorem dX7_at_59 : decode cX7_at 59 = .ok (.ifCond .ne 13, 3) := by decide +kernel
theorem dX7_at_62 : decode cX7_at 62 = .ok (.new 99, 3) := by decide +kernel
theorem dX7_at_65 : decode cX7_at 65 = .ok (.dup, 1) := by decide +kernel
theorem dX7_at_66 : decode cX7_at 66 = .ok (.ldc 101, 2) := by decide +kernel
theorem dX7_at_68 : decode cX7_at 68 = .ok (.invokespecial 103, 3) := by decide +kernel
theorem dX7_at_71 : decode cX7_at 71 = .ok (.athrow, 1) := by decide +kernel
theorem dX7_at_72 : decode cX7_at 72 = .ok (.aload 6, 2) := by decide +kernel
theorem dX7_at_74 : decode cX7_at 74 = .ok (.getfield 106, 3) := by decide +kernel
theorem dX7_at_77 : decode cX7_at 77 = .ok (.iload_n 3, 1) := by decide +kernel
theorem dX7_at_78 : decode cX7_at 78 = .ok (.baload, 1) := by decide +kernel
theorem dX7_at_79 : decode cX7_at 79 = .ok (.ireturn, 1) := by decide +kernel
theorem dX7_raised_0 : decode cX7_raised 0 = .ok (.aload_n 0, 1) := by decide +kernel
theorem dX7_raised_1 : decode cX7_raised 1 = .ok (.iload_n 1, 1) := by decide +kernel
theorem dX7_raised_2 : decode cX7_raised 2 = .ok (.invokevirtual 61, 3) := by decide +kernel
theorem dX7_raised_5 : decode cX7_raised 5 = .ok (.astore_n 2, 1) := by decide +kernel
theorem dX7_raised_6 : decode cX7_raised 6 = .ok (.aload_n 2, 1) := by decide +kernel
theorem dX7_raised_7 : decode cX7_raised 7 = .ok (.ifnonnull 8, 3) := by decide +kernel
theorem dX7_raised_10 : decode cX7_raised 10 = .ok (.bipush (-2), 2) := by decide +kernel
theorem dX7_raised_12 : decode cX7_raised 12 = .ok (.goto 7, 3) := by decide +kernel
theorem dX7_raised_15 : decode cX7_raised 15 = .ok (.aload_n 2, 1) := by decide +kernel
theorem dX7_raised_16 : decode cX7_raised 16 = .ok (.getfield 89, 3) := by decide +kernel
theorem dX7_raised_19 : decode cX7_raised 19 = .ok (.ireturn, 1) := by decide +kernel
theorem dX7_told_0 : decode cX7_told 0 = .ok (.aload_n 0, 1) := by decide +kernel
theorem dX7_told_1 : decode cX7_told 1 = .ok (.iload_n 1, 1) := by decide +kernel
theorem dX7_told_2 : decode cX7_told 2 = .ok (.invokevirtual 61, 3) := by decide +kernel
theorem dX7_told_5 : decode cX7_told 5 = .ok (.astore_n 3, 1) := by decide +kernel
theorem dX7_told_6 : decode cX7_told 6 = .ok (.aload_n 3, 1) := by decide +kernel
theorem dX7_told_7 : decode cX7_told 7 = .ok (.ifnonnull 6, 3) := by decide +kernel
theorem dX7_told_10 : decode cX7_told 10 = .ok (.bipush (-2), 2) := by decide +kernel
theorem dX7_told_12 : decode cX7_told 12 = .ok (.ireturn, 1) := by decide +kernel
theorem dX7_told_13 : decode cX7_told 13 = .ok (.aload_n 3, 1) := by decide +kernel
theorem dX7_told_14 : decode cX7_told 14 = .ok (.getfield 110, 3) := by decide +kernel
theorem dX7_told_17 : decode cX7_told 17 = .ok (.ifCond .ne 5, 3) := by decide +kernel
theorem dX7_told_20 : decode cX7_told 20 = .ok (.iconst (-1), 1) := by decide +kernel
theorem dX7_told_21 : decode cX7_told 21 = .ok (.ireturn, 1) := by decide +kernel
theorem dX7_told_22 : decode cX7_told 22 = .ok (.iload_n 2, 1) := by decide +kernel
theorem dX7_told_23 : decode cX7_told 23 = .ok (.tableswitch 49 0 3 #[29, 34, 39, 44], 29) := by decide +kernel
theorem dX7_told_52 : decode cX7_told 52 = .ok (.aload_n 3, 1) := by decide +kernel
theorem dX7_told_53 : decode cX7_told 53 = .ok (.getfield 113, 3) := by decide +kernel
theorem dX7_told_56 : decode cX7_told 56 = .ok (.ireturn, 1) := by decide +kernel
theorem dX7_told_57 : decode cX7_told 57 = .ok (.aload_n 3, 1) := by decide +kernel
theorem dX7_told_58 : decode cX7_told 58 = .ok (.getfield 116, 3) := by decide +kernel
theorem dX7_told_61 : decode cX7_told 61 = .ok (.ireturn, 1) := by decide +kernel
theorem dX7_told_62 : decode cX7_told 62 = .ok (.aload_n 3, 1) := by decide +kernel
theorem dX7_told_63 : decode cX7_told 63 = .ok (.getfield 119, 3) := by decide +kernel
theorem dX7_told_66 : decode cX7_told 66 = .ok (.ireturn, 1) := by decide +kernel
theorem dX7_told_67 : decode cX7_told 67 = .ok (.aload_n 3, 1) := by decide +kernel
theorem dX7_told_68 : decode cX7_told 68 = .ok (.getfield 122, 3) := by decide +kernel
theorem dX7_told_71 : decode cX7_told 71 = .ok (.ireturn, 1) := by decide +kernel
theorem dX7_told_72 : decode cX7_told 72 = .ok (.iconst (-1), 1) := by decide +kernel
theorem dX7_told_73 : decode cX7_told 73 = .ok (.ireturn, 1) := by decide +kernel
theorem dX7_mark_0 : decode cX7_mark 0 = .ok (.aload_n 0, 1) := by decide +kernel
theorem dX7_mark_1 : decode cX7_mark 1 = .ok (.iload_n 1, 1) := by decide +kernel
theorem dX7_mark_2 : decode cX7_mark 2 = .ok (.invokevirtual 61, 3) := by decide +kernel
theorem dX7_mark_5 : decode cX7_mark 5 = .ok (.astore_n 3, 1) := by decide +kernel
theorem dX7_mark_6 : decode cX7_mark 6 = .ok (.aload_n 3, 1) := by decide +kernel
theorem dX7_mark_7 : decode cX7_mark 7 = .ok (.ifnonnull 7, 3) := by decide +kernel
theorem dX7_mark_10 : decode cX7_mark 10 = .ok (.iconst (-1), 1) := by decide +kernel
theorem dX7_mark_11 : decode cX7_mark 11 = .ok (.goto 8, 3) := by decide +kernel
theorem dX7_mark_14 : decode cX7_mark 14 = .ok (.aload_n 3, 1) := by decide +kernel
theorem dX7_mark_15 : decode cX7_mark 15 = .ok (.iload_n 2, 1) := by decide +kernel
theorem dX7_mark_16 : decode cX7_mark 16 = .ok (.invokevirtual 125, 3) := by decide +kernel
theorem dX7_mark_19 : decode cX7_mark 19 = .ok (.ireturn, 1) := by decide +kernel
theorem dX7_octet_0 : decode cX7_octet 0 = .ok (.aload_n 0, 1) := by decide +kernel
theorem dX7_octet_1 : decode cX7_octet 1 = .ok (.getfield 10, 3) := by decide +kernel
theorem dX7_octet_4 : decode cX7_octet 4 = .ok (.iload_n 1, 1) := by decide +kernel
theorem dX7_octet_5 : decode cX7_octet 5 = .ok (.invokevirtual 129, 3) := by decide +kernel
theorem dX7_octet_8 : decode cX7_octet 8 = .ok (.astore_n 3, 1) := by decide +kernel
theorem dX7_octet_9 : decode cX7_octet 9 = .ok (.aload_n 3, 1) := by decide +kernel
theorem dX7_octet_10 : decode cX7_octet 10 = .ok (.ifnonnull 13, 3) := by decide +kernel
theorem dX7_octet_13 : decode cX7_octet 13 = .ok (.new 99, 3) := by decide +kernel
theorem dX7_octet_16 : decode cX7_octet 16 = .ok (.dup, 1) := by decide +kernel
theorem dX7_octet_17 : decode cX7_octet 17 = .ok (.ldc 133, 2) := by decide +kernel
theorem dX7_octet_19 : decode cX7_octet 19 = .ok (.invokespecial 103, 3) := by decide +kernel
theorem dX7_octet_22 : decode cX7_octet 22 = .ok (.athrow, 1) := by decide +kernel
theorem dX7_octet_23 : decode cX7_octet 23 = .ok (.aload_n 0, 1) := by decide +kernel
theorem dX7_octet_24 : decode cX7_octet 24 = .ok (.getfield 28, 3) := by decide +kernel
theorem dX7_octet_27 : decode cX7_octet 27 = .ok (.aload_n 3, 1) := by decide +kernel
theorem dX7_octet_28 : decode cX7_octet 28 = .ok (.invokevirtual 135, 3) := by decide +kernel
theorem dX7_octet_31 : decode cX7_octet 31 = .ok (.astore 4, 2) := by decide +kernel
theorem dX7_octet_33 : decode cX7_octet 33 = .ok (.iload_n 2, 1) := by decide +kernel
theorem dX7_octet_34 : decode cX7_octet 34 = .ok (.ifCond .lt 10, 3) := by decide +kernel
theorem dX7_octet_37 : decode cX7_octet 37 = .ok (.iload_n 2, 1) := by decide +kernel
theorem dX7_octet_38 : decode cX7_octet 38 = .ok (.aload 4, 2) := by decide +kernel
theorem dX7_octet_40 : decode cX7_octet 40 = .ok (.arraylength, 1) := by decide +kernel
theorem dX7_octet_41 : decode cX7_octet 41 = .ok (.if_icmp .lt 13, 3) := by decide +kernel
theorem dX7_octet_44 : decode cX7_octet 44 = .ok (.new 99, 3) := by decide +kernel
theorem dX7_octet_47 : decode cX7_octet 47 = .ok (.dup, 1) := by decide +kernel
theorem dX7_octet_48 : decode cX7_octet 48 = .ok (.ldc 139, 2) := by decide +kernel
theorem dX7_octet_50 : decode cX7_octet 50 = .ok (.invokespecial 103, 3) := by decide +kernel
theorem dX7_octet_53 : decode cX7_octet 53 = .ok (.athrow, 1) := by decide +kernel
theorem dX7_octet_54 : decode cX7_octet 54 = .ok (.aload 4, 2) := by decide +kernel
theorem dX7_octet_56 : decode cX7_octet 56 = .ok (.iload_n 2, 1) := by decide +kernel
theorem dX7_octet_57 : decode cX7_octet 57 = .ok (.baload, 1) := by decide +kernel
theorem dX7_octet_58 : decode cX7_octet 58 = .ok (.ireturn, 1) := by decide +kernel
theorem dX7_shares_0 : decode cX7_shares 0 = .ok (.aload_n 0, 1) := by decide +kernel
theorem dX7_shares_1 : decode cX7_shares 1 = .ok (.iload_n 1, 1) := by decide +kernel
theorem dX7_shares_2 : decode cX7_shares 2 = .ok (.invokevirtual 61, 3) := by decide +kernel
theorem dX7_shares_5 : decode cX7_shares 5 = .ok (.astore_n 3, 1) := by decide +kernel
theorem dX7_shares_6 : decode cX7_shares 6 = .ok (.aload_n 0, 1) := by decide +kernel
theorem dX7_shares_7 : decode cX7_shares 7 = .ok (.iload_n 2, 1) := by decide +kernel
theorem dX7_shares_8 : decode cX7_shares 8 = .ok (.invokevirtual 61, 3) := by decide +kernel
theorem dX7_shares_11 : decode cX7_shares 11 = .ok (.astore 4, 2) := by decide +kernel
theorem dX7_shares_13 : decode cX7_shares 13 = .ok (.aload_n 3, 1) := by decide +kernel
theorem dX7_shares_14 : decode cX7_shares 14 = .ok (.ifnull 25, 3) := by decide +kernel
theorem dX7_shares_17 : decode cX7_shares 17 = .ok (.aload 4, 2) := by decide +kernel
theorem dX7_shares_19 : decode cX7_shares 19 = .ok (.ifnull 20, 3) := by decide +kernel
theorem dX7_shares_22 : decode cX7_shares 22 = .ok (.aload_n 0, 1) := by decide +kernel
theorem dX7_shares_23 : decode cX7_shares 23 = .ok (.getfield 10, 3) := by decide +kernel
theorem dX7_shares_26 : decode cX7_shares 26 = .ok (.aload_n 3, 1) := by decide +kernel
theorem dX7_shares_27 : decode cX7_shares 27 = .ok (.aload 4, 2) := by decide +kernel
theorem dX7_shares_29 : decode cX7_shares 29 = .ok (.invokevirtual 141, 3) := by decide +kernel
theorem dX7_shares_32 : decode cX7_shares 32 = .ok (.ifCond .eq 7, 3) := by decide +kernel
theorem dX7_shares_35 : decode cX7_shares 35 = .ok (.iconst 1, 1) := by decide +kernel
theorem dX7_shares_36 : decode cX7_shares 36 = .ok (.goto 4, 3) := by decide +kernel
theorem dX7_shares_39 : decode cX7_shares 39 = .ok (.iconst 0, 1) := by decide +kernel
theorem dX7_shares_40 : decode cX7_shares 40 = .ok (.ireturn, 1) := by decide +kernel
theorem dX7_cancel_0 : decode cX7_cancel 0 = .ok (.aload_n 0, 1) := by decide +kernel
theorem dX7_cancel_1 : decode cX7_cancel 1 = .ok (.iload_n 1, 1) := by decide +kernel
theorem dX7_cancel_2 : decode cX7_cancel 2 = .ok (.invokevirtual 61, 3) := by decide +kernel
theorem dX7_cancel_5 : decode cX7_cancel 5 = .ok (.astore_n 3, 1) := by decide +kernel
theorem dX7_cancel_6 : decode cX7_cancel 6 = .ok (.aload_n 0, 1) := by decide +kernel
theorem dX7_cancel_7 : decode cX7_cancel 7 = .ok (.getfield 10, 3) := by decide +kernel
theorem dX7_cancel_10 : decode cX7_cancel 10 = .ok (.iload_n 2, 1) := by decide +kernel
theorem dX7_cancel_11 : decode cX7_cancel 11 = .ok (.invokevirtual 42, 3) := by decide +kernel
theorem dX7_cancel_14 : decode cX7_cancel 14 = .ok (.astore 4, 2) := by decide +kernel
theorem dX7_cancel_16 : decode cX7_cancel 16 = .ok (.aload_n 3, 1) := by decide +kernel
theorem dX7_cancel_17 : decode cX7_cancel 17 = .ok (.ifnull 8, 3) := by decide +kernel
theorem dX7_cancel_20 : decode cX7_cancel 20 = .ok (.aload 4, 2) := by decide +kernel
theorem dX7_cancel_22 : decode cX7_cancel 22 = .ok (.ifnonnull 6, 3) := by decide +kernel
theorem dX7_cancel_25 : decode cX7_cancel 25 = .ok (.bipush (-2), 2) := by decide +kernel
theorem dX7_cancel_27 : decode cX7_cancel 27 = .ok (.ireturn, 1) := by decide +kernel
theorem dX7_cancel_28 : decode cX7_cancel 28 = .ok (.aload_n 3, 1) := by decide +kernel
theorem dX7_cancel_29 : decode cX7_cancel 29 = .ok (.getfield 65, 3) := by decide +kernel
theorem dX7_cancel_32 : decode cX7_cancel 32 = .ok (.ifCond .eq 6, 3) := by decide +kernel
theorem dX7_cancel_35 : decode cX7_cancel 35 = .ok (.bipush (-5), 2) := by decide +kernel
theorem dX7_cancel_37 : decode cX7_cancel 37 = .ok (.ireturn, 1) := by decide +kernel
theorem dX7_cancel_38 : decode cX7_cancel 38 = .ok (.aload_n 3, 1) := by decide +kernel
theorem dX7_cancel_39 : decode cX7_cancel 39 = .ok (.aload 4, 2) := by decide +kernel
theorem dX7_cancel_41 : decode cX7_cancel 41 = .ok (.invokevirtual 78, 3) := by decide +kernel
theorem dX7_cancel_44 : decode cX7_cancel 44 = .ok (.astore 5, 2) := by decide +kernel
theorem dX7_cancel_46 : decode cX7_cancel 46 = .ok (.aload 5, 2) := by decide +kernel
theorem dX7_cancel_48 : decode cX7_cancel 48 = .ok (.ifnull 11, 3) := by decide +kernel
theorem dX7_cancel_51 : decode cX7_cancel 51 = .ok (.aload 5, 2) := by decide +kernel
theorem dX7_cancel_53 : decode cX7_cancel 53 = .ok (.getfield 92, 3) := by decide +kernel
theorem dX7_cancel_56 : decode cX7_cancel 56 = .ok (.ifCond .ne 5, 3) := by decide +kernel
theorem dX7_cancel_59 : decode cX7_cancel 59 = .ok (.iconst 0, 1) := by decide +kernel
theorem dX7_cancel_60 : decode cX7_cancel 60 = .ok (.ireturn, 1) := by decide +kernel
theorem dX7_cancel_61 : decode cX7_cancel 61 = .ok (.aload 5, 2) := by decide +kernel
theorem dX7_cancel_63 : decode cX7_cancel 63 = .ok (.iconst 0, 1) := by decide +kernel
theorem dX7_cancel_64 : decode cX7_cancel 64 = .ok (.putfield 92, 3) := by decide +kernel
theorem dX7_cancel_67 : decode cX7_cancel 67 = .ok (.iconst 1, 1) := by decide +kernel
theorem dX7_cancel_68 : decode cX7_cancel 68 = .ok (.ireturn, 1) := by decide +kernel
theorem dX7_plain_0 : decode cX7_plain 0 = .ok (.iload_n 1, 1) := by decide +kernel
theorem dX7_plain_1 : decode cX7_plain 1 = .ok (.iconst 3, 1) := by decide +kernel
theorem dX7_plain_2 : decode cX7_plain 2 = .ok (.if_icmp .eq 8, 3) := by decide +kernel
theorem dX7_plain_5 : decode cX7_plain 5 = .ok (.iload_n 1, 1) := by decide +kernel
theorem dX7_plain_6 : decode cX7_plain 6 = .ok (.iconst 4, 1) := by decide +kernel
theorem dX7_plain_7 : decode cX7_plain 7 = .ok (.if_icmp .ne 20, 3) := by decide +kernel
theorem dX7_plain_10 : decode cX7_plain 10 = .ok (.lload 4, 2) := by decide +kernel
theorem dX7_plain_12 : decode cX7_plain 12 = .ok (.lconst 0, 1) := by decide +kernel
theorem dX7_plain_13 : decode cX7_plain 13 = .ok (.lcmp, 1) := by decide +kernel
theorem dX7_plain_14 : decode cX7_plain 14 = .ok (.ifCond .ne 13, 3) := by decide +kernel
theorem dX7_plain_17 : decode cX7_plain 17 = .ok (.new 145, 3) := by decide +kernel
theorem dX7_plain_20 : decode cX7_plain 20 = .ok (.dup, 1) := by decide +kernel
theorem dX7_plain_21 : decode cX7_plain 21 = .ok (.ldc 147, 2) := by decide +kernel
theorem dX7_plain_23 : decode cX7_plain 23 = .ok (.invokespecial 149, 3) := by decide +kernel
theorem dX7_plain_26 : decode cX7_plain 26 = .ok (.athrow, 1) := by decide +kernel
theorem dX7_plain_27 : decode cX7_plain 27 = .ok (.iload_n 1, 1) := by decide +kernel
theorem dX7_plain_28 : decode cX7_plain 28 = .ok (.iconst 5, 1) := by decide +kernel
theorem dX7_plain_29 : decode cX7_plain 29 = .ok (.if_icmp .ne 19, 3) := by decide +kernel
theorem dX7_plain_32 : decode cX7_plain 32 = .ok (.lload_n 2, 1) := by decide +kernel
theorem dX7_plain_33 : decode cX7_plain 33 = .ok (.lconst 0, 1) := by decide +kernel
theorem dX7_plain_34 : decode cX7_plain 34 = .ok (.lcmp, 1) := by decide +kernel
theorem dX7_plain_35 : decode cX7_plain 35 = .ok (.ifCond .ge 13, 3) := by decide +kernel
theorem dX7_plain_38 : decode cX7_plain 38 = .ok (.new 150, 3) := by decide +kernel
theorem dX7_plain_41 : decode cX7_plain 41 = .ok (.dup, 1) := by decide +kernel
theorem dX7_plain_42 : decode cX7_plain 42 = .ok (.ldc 152, 2) := by decide +kernel
theorem dX7_plain_44 : decode cX7_plain 44 = .ok (.invokespecial 154, 3) := by decide +kernel
theorem dX7_plain_47 : decode cX7_plain 47 = .ok (.athrow, 1) := by decide +kernel
theorem dX7_plain_48 : decode cX7_plain 48 = .ok (.iload_n 1, 1) := by decide +kernel
theorem dX7_plain_49 : decode cX7_plain 49 = .ok (.tableswitch 72 0 5 #[39, 44, 49, 54, 59, 64], 39) := by decide +kernel
theorem dX7_plain_88 : decode cX7_plain 88 = .ok (.lload_n 2, 1) := by decide +kernel
theorem dX7_plain_89 : decode cX7_plain 89 = .ok (.lload 4, 2) := by decide +kernel
theorem dX7_plain_91 : decode cX7_plain 91 = .ok (.ladd, 1) := by decide +kernel
theorem dX7_plain_92 : decode cX7_plain 92 = .ok (.lreturn, 1) := by decide +kernel
theorem dX7_plain_93 : decode cX7_plain 93 = .ok (.lload_n 2, 1) := by decide +kernel
theorem dX7_plain_94 : decode cX7_plain 94 = .ok (.lload 4, 2) := by decide +kernel
theorem dX7_plain_96 : decode cX7_plain 96 = .ok (.lsub, 1) := by decide +kernel
theorem dX7_plain_97 : decode cX7_plain 97 = .ok (.lreturn, 1) := by decide +kernel
theorem dX7_plain_98 : decode cX7_plain 98 = .ok (.lload_n 2, 1) := by decide +kernel
theorem dX7_plain_99 : decode cX7_plain 99 = .ok (.lload 4, 2) := by decide +kernel
theorem dX7_plain_101 : decode cX7_plain 101 = .ok (.lmul, 1) := by decide +kernel
theorem dX7_plain_102 : decode cX7_plain 102 = .ok (.lreturn, 1) := by decide +kernel
theorem dX7_plain_103 : decode cX7_plain 103 = .ok (.lload_n 2, 1) := by decide +kernel
theorem dX7_plain_104 : decode cX7_plain 104 = .ok (.lload 4, 2) := by decide +kernel
theorem dX7_plain_106 : decode cX7_plain 106 = .ok (.ldiv, 1) := by decide +kernel
theorem dX7_plain_107 : decode cX7_plain 107 = .ok (.lreturn, 1) := by decide +kernel
theorem dX7_plain_108 : decode cX7_plain 108 = .ok (.lload_n 2, 1) := by decide +kernel
theorem dX7_plain_109 : decode cX7_plain 109 = .ok (.lload 4, 2) := by decide +kernel
theorem dX7_plain_111 : decode cX7_plain 111 = .ok (.lrem, 1) := by decide +kernel
theorem dX7_plain_112 : decode cX7_plain 112 = .ok (.lreturn, 1) := by decide +kernel
theorem dX7_plain_113 : decode cX7_plain 113 = .ok (.lload_n 2, 1) := by decide +kernel
theorem dX7_plain_114 : decode cX7_plain 114 = .ok (.ldc2_w 155, 3) := by decide +kernel
theorem dX7_plain_117 : decode cX7_plain 117 = .ok (.invokestatic 157, 3) := by decide +kernel
theorem dX7_plain_120 : decode cX7_plain 120 = .ok (.lreturn, 1) := by decide +kernel
theorem dX7_plain_121 : decode cX7_plain 121 = .ok (.lconst 0, 1) := by decide +kernel
theorem dX7_plain_122 : decode cX7_plain 122 = .ok (.lreturn, 1) := by decide +kernel
theorem dX7_state_0 : decode cX7_state 0 = .ok (.aload_n 0, 1) := by decide +kernel
theorem dX7_state_1 : decode cX7_state 1 = .ok (.getfield 10, 3) := by decide +kernel
theorem dX7_state_4 : decode cX7_state 4 = .ok (.iload_n 1, 1) := by decide +kernel
theorem dX7_state_5 : decode cX7_state 5 = .ok (.invokevirtual 129, 3) := by decide +kernel
theorem dX7_state_8 : decode cX7_state 8 = .ok (.astore_n 2, 1) := by decide +kernel
theorem dX7_state_9 : decode cX7_state 9 = .ok (.aload_n 2, 1) := by decide +kernel
theorem dX7_state_10 : decode cX7_state 10 = .ok (.ifnonnull 6, 3) := by decide +kernel
theorem dX7_state_13 : decode cX7_state 13 = .ok (.bipush (-2), 2) := by decide +kernel
theorem dX7_state_15 : decode cX7_state 15 = .ok (.ireturn, 1) := by decide +kernel
theorem dX7_state_16 : decode cX7_state 16 = .ok (.aload_n 2, 1) := by decide +kernel
theorem dX7_state_17 : decode cX7_state 17 = .ok (.getfield 163, 3) := by decide +kernel
theorem dX7_state_20 : decode cX7_state 20 = .ok (.ifCond .eq 5, 3) := by decide +kernel
theorem dX7_state_23 : decode cX7_state 23 = .ok (.iconst 2, 1) := by decide +kernel
theorem dX7_state_24 : decode cX7_state 24 = .ok (.ireturn, 1) := by decide +kernel
theorem dX7_state_25 : decode cX7_state 25 = .ok (.aload_n 2, 1) := by decide +kernel
theorem dX7_state_26 : decode cX7_state 26 = .ok (.getfield 166, 3) := by decide +kernel
theorem dX7_state_29 : decode cX7_state 29 = .ok (.getfield 65, 3) := by decide +kernel
theorem dX7_state_32 : decode cX7_state 32 = .ok (.ifCond .eq 5, 3) := by decide +kernel
theorem dX7_state_35 : decode cX7_state 35 = .ok (.iconst 4, 1) := by decide +kernel
theorem dX7_state_36 : decode cX7_state 36 = .ok (.ireturn, 1) := by decide +kernel
theorem dX7_state_37 : decode cX7_state 37 = .ok (.aload_n 2, 1) := by decide +kernel
theorem dX7_state_38 : decode cX7_state 38 = .ok (.getfield 170, 3) := by decide +kernel
theorem dX7_state_41 : decode cX7_state 41 = .ok (.ifCond .eq 5, 3) := by decide +kernel
theorem dX7_state_44 : decode cX7_state 44 = .ok (.iconst 3, 1) := by decide +kernel
theorem dX7_state_45 : decode cX7_state 45 = .ok (.ireturn, 1) := by decide +kernel
theorem dX7_state_46 : decode cX7_state 46 = .ok (.aload_n 2, 1) := by decide +kernel
theorem dX7_state_47 : decode cX7_state 47 = .ok (.getfield 92, 3) := by decide +kernel
theorem dX7_state_50 : decode cX7_state 50 = .ok (.ifCond .eq 7, 3) := by decide +kernel
theorem dX7_state_53 : decode cX7_state 53 = .ok (.iconst 1, 1) := by decide +kernel
theorem dX7_state_54 : decode cX7_state 54 = .ok (.goto 4, 3) := by decide +kernel
theorem dX7_state_57 : decode cX7_state 57 = .ok (.iconst 0, 1) := by decide +kernel
theorem dX7_state_58 : decode cX7_state 58 = .ok (.ireturn, 1) := by decide +kernel
theorem dX7_count_0 : decode cX7_count 0 = .ok (.iload_n 1, 1) := by decide +kernel
theorem dX7_count_1 : decode cX7_count 1 = .ok (.tableswitch 85 0 3 #[31, 39, 44, 52], 31) := by decide +kernel
theorem dX7_count_32 : decode cX7_count 32 = .ok (.aload_n 0, 1) := by decide +kernel
theorem dX7_count_33 : decode cX7_count 33 = .ok (.getfield 10, 3) := by decide +kernel
theorem dX7_count_36 : decode cX7_count 36 = .ok (.getfield 173, 3) := by decide +kernel
theorem dX7_count_39 : decode cX7_count 39 = .ok (.ireturn, 1) := by decide +kernel
theorem dX7_count_40 : decode cX7_count 40 = .ok (.aload_n 0, 1) := by decide +kernel
theorem dX7_count_41 : decode cX7_count 41 = .ok (.getfield 56, 3) := by decide +kernel
theorem dX7_count_44 : decode cX7_count 44 = .ok (.ireturn, 1) := by decide +kernel
theorem dX7_count_45 : decode cX7_count 45 = .ok (.aload_n 0, 1) := by decide +kernel
theorem dX7_count_46 : decode cX7_count 46 = .ok (.getfield 10, 3) := by decide +kernel
theorem dX7_count_49 : decode cX7_count 49 = .ok (.getfield 176, 3) := by decide +kernel
theorem dX7_count_52 : decode cX7_count 52 = .ok (.ireturn, 1) := by decide +kernel
theorem dX7_count_53 : decode cX7_count 53 = .ok (.aload_n 0, 1) := by decide +kernel
theorem dX7_count_54 : decode cX7_count 54 = .ok (.getfield 10, 3) := by decide +kernel
theorem dX7_count_57 : decode cX7_count 57 = .ok (.aload_n 0, 1) := by decide +kernel
theorem dX7_count_58 : decode cX7_count 58 = .ok (.getfield 10, 3) := by decide +kernel
theorem dX7_count_61 : decode cX7_count 61 = .ok (.getfield 176, 3) := by decide +kernel
theorem dX7_count_64 : decode cX7_count 64 = .ok (.invokevirtual 129, 3) := by decide +kernel
theorem dX7_count_67 : decode cX7_count 67 = .ok (.astore_n 2, 1) := by decide +kernel
theorem dX7_count_68 : decode cX7_count 68 = .ok (.aload_n 2, 1) := by decide +kernel
theorem dX7_count_69 : decode cX7_count 69 = .ok (.ifnonnull 7, 3) := by decide +kernel
theorem dX7_count_72 : decode cX7_count 72 = .ok (.iconst 0, 1) := by decide +kernel
theorem dX7_count_73 : decode cX7_count 73 = .ok (.goto 12, 3) := by decide +kernel
theorem dX7_count_76 : decode cX7_count 76 = .ok (.aload_n 0, 1) := by decide +kernel
theorem dX7_count_77 : decode cX7_count 77 = .ok (.getfield 28, 3) := by decide +kernel
theorem dX7_count_80 : decode cX7_count 80 = .ok (.aload_n 2, 1) := by decide +kernel
theorem dX7_count_81 : decode cX7_count 81 = .ok (.invokevirtual 135, 3) := by decide +kernel
theorem dX7_count_84 : decode cX7_count 84 = .ok (.arraylength, 1) := by decide +kernel
theorem dX7_count_85 : decode cX7_count 85 = .ok (.ireturn, 1) := by decide +kernel
theorem dX7_count_86 : decode cX7_count 86 = .ok (.iconst (-1), 1) := by decide +kernel
theorem dX7_count_87 : decode cX7_count 87 = .ok (.ireturn, 1) := by decide +kernel
theorem dX7_findUnit_0 : decode cX7_findUnit 0 = .ok (.iload_n 1, 1) := by decide +kernel
theorem dX7_findUnit_1 : decode cX7_findUnit 1 = .ok (.iconst 1, 1) := by decide +kernel
theorem dX7_findUnit_2 : decode cX7_findUnit 2 = .ok (.if_icmp .lt 22, 3) := by decide +kernel
theorem dX7_findUnit_5 : decode cX7_findUnit 5 = .ok (.iload_n 1, 1) := by decide +kernel
theorem dX7_findUnit_6 : decode cX7_findUnit 6 = .ok (.aload_n 0, 1) := by decide +kernel
theorem dX7_findUnit_7 : decode cX7_findUnit 7 = .ok (.getfield 56, 3) := by decide +kernel
theorem dX7_findUnit_10 : decode cX7_findUnit 10 = .ok (.if_icmp .gt 14, 3) := by decide +kernel
theorem dX7_findUnit_13 : decode cX7_findUnit 13 = .ok (.aload_n 0, 1) := by decide +kernel
theorem dX7_findUnit_14 : decode cX7_findUnit 14 = .ok (.getfield 34, 3) := by decide +kernel
theorem dX7_findUnit_17 : decode cX7_findUnit 17 = .ok (.iload_n 1, 1) := by decide +kernel
theorem dX7_findUnit_18 : decode cX7_findUnit 18 = .ok (.iconst 1, 1) := by decide +kernel
theorem dX7_findUnit_19 : decode cX7_findUnit 19 = .ok (.isub, 1) := by decide +kernel
theorem dX7_findUnit_20 : decode cX7_findUnit 20 = .ok (.aaload, 1) := by decide +kernel
theorem dX7_findUnit_21 : decode cX7_findUnit 21 = .ok (.goto 4, 3) := by decide +kernel
theorem dX7_findUnit_24 : decode cX7_findUnit 24 = .ok (.aconst_null, 1) := by decide +kernel
theorem dX7_findUnit_25 : decode cX7_findUnit 25 = .ok (.areturn, 1) := by decide +kernel
theorem dX8_init_0 : decode cX8_init 0 = .ok (.aload_n 0, 1) := by decide +kernel
theorem dX8_init_1 : decode cX8_init 1 = .ok (.invokespecial 1, 3) := by decide +kernel
theorem dX8_init_4 : decode cX8_init 4 = .ok (.aload_n 0, 1) := by decide +kernel
theorem dX8_init_5 : decode cX8_init 5 = .ok (.bipush 13, 2) := by decide +kernel
theorem dX8_init_7 : decode cX8_init 7 = .ok (.newarray .int, 2) := by decide +kernel
theorem dX8_init_9 : decode cX8_init 9 = .ok (.putfield 7, 3) := by decide +kernel
theorem dX8_init_12 : decode cX8_init 12 = .ok (.aload_n 0, 1) := by decide +kernel
theorem dX8_init_13 : decode cX8_init 13 = .ok (.bipush 13, 2) := by decide +kernel
theorem dX8_init_15 : decode cX8_init 15 = .ok (.newarray .int, 2) := by decide +kernel
theorem dX8_init_17 : decode cX8_init 17 = .ok (.putfield 13, 3) := by decide +kernel
theorem dX8_init_20 : decode cX8_init 20 = .ok (.aload_n 0, 1) := by decide +kernel
theorem dX8_init_21 : decode cX8_init 21 = .ok (.sipush 793, 3) := by decide +kernel
theorem dX8_init_24 : decode cX8_init 24 = .ok (.newarray .int, 2) := by decide +kernel
theorem dX8_init_26 : decode cX8_init 26 = .ok (.putfield 16, 3) := by decide +kernel
theorem dX8_init_29 : decode cX8_init 29 = .ok (.aload_n 0, 1) := by decide +kernel
theorem dX8_init_30 : decode cX8_init 30 = .ok (.sipush 793, 3) := by decide +kernel
theorem dX8_init_33 : decode cX8_init 33 = .ok (.newarray .int, 2) := by decide +kernel
theorem dX8_init_35 : decode cX8_init 35 = .ok (.putfield 19, 3) := by decide +kernel
theorem dX8_init_38 : decode cX8_init 38 = .ok (.aload_n 0, 1) := by decide +kernel
theorem dX8_init_39 : decode cX8_init 39 = .ok (.sipush 793, 3) := by decide +kernel
theorem dX8_init_42 : decode cX8_init 42 = .ok (.newarray .int, 2) := by decide +kernel
theorem dX8_init_44 : decode cX8_init 44 = .ok (.putfield 22, 3) := by decide +kernel
theorem dX8_init_47 : decode cX8_init 47 = .ok (.aload_n 0, 1) := by decide +kernel
theorem dX8_init_48 : decode cX8_init 48 = .ok (.bipush 13, 2) := by decide +kernel
theorem dX8_init_50 : decode cX8_init 50 = .ok (.newarray .boolean, 2) := by decide +kernel
theorem dX8_init_52 : decode cX8_init 52 = .ok (.putfield 25, 3) := by decide +kernel
theorem dX8_init_55 : decode cX8_init 55 = .ok (.aload_n 0, 1) := by decide +kernel
theorem dX8_init_56 : decode cX8_init 56 = .ok (.bipush 41, 2) := by decide +kernel
theorem dX8_init_58 : decode cX8_init 58 = .ok (.newarray .int, 2) := by decide +kernel
theorem dX8_init_60 : decode cX8_init 60 = .ok (.putfield 29, 3) := by decide +kernel
theorem dX8_init_63 : decode cX8_init 63 = .ok (.aload_n 0, 1) := by decide +kernel
theorem dX8_init_64 : decode cX8_init 64 = .ok (.bipush 41, 2) := by decide +kernel
theorem dX8_init_66 : decode cX8_init 66 = .ok (.newarray .int, 2) := by decide +kernel
theorem dX8_init_68 : decode cX8_init 68 = .ok (.putfield 32, 3) := by decide +kernel
theorem dX8_init_71 : decode cX8_init 71 = .ok (.aload_n 0, 1) := by decide +kernel
theorem dX8_init_72 : decode cX8_init 72 = .ok (.bipush 41, 2) := by decide +kernel
theorem dX8_init_74 : decode cX8_init 74 = .ok (.newarray .int, 2) := by decide +kernel
theorem dX8_init_76 : decode cX8_init 76 = .ok (.putfield 35, 3) := by decide +kernel
theorem dX8_init_79 : decode cX8_init 79 = .ok (.aload_n 0, 1) := by decide +kernel
theorem dX8_init_80 : decode cX8_init 80 = .ok (.bipush 41, 2) := by decide +kernel
theorem dX8_init_82 : decode cX8_init 82 = .ok (.newarray .boolean, 2) := by decide +kernel
theorem dX8_init_84 : decode cX8_init 84 = .ok (.putfield 38, 3) := by decide +kernel
theorem dX8_init_87 : decode cX8_init 87 = .ok (.aload_n 0, 1) := by decide +kernel
theorem dX8_init_88 : decode cX8_init 88 = .ok (.bipush 41, 2) := by decide +kernel
theorem dX8_init_90 : decode cX8_init 90 = .ok (.newarray .boolean, 2) := by decide +kernel
theorem dX8_init_92 : decode cX8_init 92 = .ok (.putfield 41, 3) := by decide +kernel
theorem dX8_init_95 : decode cX8_init 95 = .ok (.aload_n 0, 1) := by decide +kernel
theorem dX8_init_96 : decode cX8_init 96 = .ok (.bipush 41, 2) := by decide +kernel
theorem dX8_init_98 : decode cX8_init 98 = .ok (.newarray .boolean, 2) := by decide +kernel
theorem dX8_init_100 : decode cX8_init 100 = .ok (.putfield 44, 3) := by decide +kernel
theorem dX8_init_103 : decode cX8_init 103 = .ok (.aload_n 0, 1) := by decide +kernel
theorem dX8_init_104 : decode cX8_init 104 = .ok (.bipush 9, 2) := by decide +kernel
theorem dX8_init_106 : decode cX8_init 106 = .ok (.newarray .boolean, 2) := by decide +kernel
theorem dX8_init_108 : decode cX8_init 108 = .ok (.putfield 47, 3) := by decide +kernel
theorem dX8_init_111 : decode cX8_init 111 = .ok (.aload_n 0, 1) := by decide +kernel
theorem dX8_init_112 : decode cX8_init 112 = .ok (.bipush 9, 2) := by decide +kernel
theorem dX8_init_114 : decode cX8_init 114 = .ok (.newarray .boolean, 2) := by decide +kernel
theorem dX8_init_116 : decode cX8_init 116 = .ok (.putfield 50, 3) := by decide +kernel
theorem dX8_init_119 : decode cX8_init 119 = .ok (.aload_n 0, 1) := by decide +kernel
theorem dX8_init_120 : decode cX8_init 120 = .ok (.sipush 130, 3) := by decide +kernel
theorem dX8_init_123 : decode cX8_init 123 = .ok (.newarray .int, 2) := by decide +kernel
theorem dX8_init_125 : decode cX8_init 125 = .ok (.putfield 53, 3) := by decide +kernel
theorem dX8_init_128 : decode cX8_init 128 = .ok (.aload_n 0, 1) := by decide +kernel
theorem dX8_init_129 : decode cX8_init 129 = .ok (.bipush 9, 2) := by decide +kernel
theorem dX8_init_131 : decode cX8_init 131 = .ok (.newarray .int, 2) := by decide +kernel
theorem dX8_init_133 : decode cX8_init 133 = .ok (.putfield 56, 3) := by decide +kernel
theorem dX8_init_136 : decode cX8_init 136 = .ok (.aload_n 0, 1) := by decide +kernel
theorem dX8_init_137 : decode cX8_init 137 = .ok (.bipush 9, 2) := by decide +kernel
theorem dX8_init_139 : decode cX8_init 139 = .ok (.newarray .int, 2) := by decide +kernel
theorem dX8_init_141 : decode cX8_init 141 = .ok (.putfield 59, 3) := by decide +kernel
theorem dX8_init_144 : decode cX8_init 144 = .ok (.aload_n 0, 1) := by decide +kernel
theorem dX8_init_145 : decode cX8_init 145 = .ok (.bipush 9, 2) := by decide +kernel
theorem dX8_init_147 : decode cX8_init 147 = .ok (.newarray .int, 2) := by decide +kernel
theorem dX8_init_149 : decode cX8_init 149 = .ok (.putfield 62, 3) := by decide +kernel
theorem dX8_init_152 : decode cX8_init 152 = .ok (.aload_n 0, 1) := by decide +kernel
theorem dX8_init_153 : decode cX8_init 153 = .ok (.bipush 9, 2) := by decide +kernel
theorem dX8_init_155 : decode cX8_init 155 = .ok (.newarray .int, 2) := by decide +kernel
theorem dX8_init_157 : decode cX8_init 157 = .ok (.putfield 65, 3) := by decide +kernel
theorem dX8_init_160 : decode cX8_init 160 = .ok (.aload_n 0, 1) := by decide +kernel
theorem dX8_init_161 : decode cX8_init 161 = .ok (.bipush 9, 2) := by decide +kernel
theorem dX8_init_163 : decode cX8_init 163 = .ok (.newarray .int, 2) := by decide +kernel
theorem dX8_init_165 : decode cX8_init 165 = .ok (.putfield 68, 3) := by decide +kernel
theorem dX8_init_168 : decode cX8_init 168 = .ok (.aload_n 0, 1) := by decide +kernel
theorem dX8_init_169 : decode cX8_init 169 = .ok (.sipush 12000, 3) := by decide +kernel
theorem dX8_init_172 : decode cX8_init 172 = .ok (.newarray .byte, 2) := by decide +kernel
theorem dX8_init_174 : decode cX8_init 174 = .ok (.putfield 71, 3) := by decide +kernel
theorem dX8_init_177 : decode cX8_init 177 = .ok (.aload_n 0, 1) := by decide +kernel
theorem dX8_init_178 : decode cX8_init 178 = .ok (.sipush 900, 3) := by decide +kernel
theorem dX8_init_181 : decode cX8_init 181 = .ok (.newarray .int, 2) := by decide +kernel
theorem dX8_init_183 : decode cX8_init 183 = .ok (.putfield 75, 3) := by decide +kernel
theorem dX8_init_186 : decode cX8_init 186 = .ok (.aload_n 0, 1) := by decide +kernel
theorem dX8_init_187 : decode cX8_init 187 = .ok (.bipush 12, 2) := by decide +kernel
theorem dX8_init_189 : decode cX8_init 189 = .ok (.newarray .int, 2) := by decide +kernel
theorem dX8_init_191 : decode cX8_init 191 = .ok (.putfield 78, 3) := by decide +kernel
theorem dX8_init_194 : decode cX8_init 194 = .ok (.aload_n 0, 1) := by decide +kernel
theorem dX8_init_195 : decode cX8_init 195 = .ok (.bipush 12, 2) := by decide +kernel
theorem dX8_init_197 : decode cX8_init 197 = .ok (.newarray .int, 2) := by decide +kernel
theorem dX8_init_199 : decode cX8_init 199 = .ok (.putfield 81, 3) := by decide +kernel
theorem dX8_init_202 : decode cX8_init 202 = .ok (.aload_n 0, 1) := by decide +kernel
theorem dX8_init_203 : decode cX8_init 203 = .ok (.sipush 3000, 3) := by decide +kernel
theorem dX8_init_206 : decode cX8_init 206 = .ok (.newarray .int, 2) := by decide +kernel
theorem dX8_init_208 : decode cX8_init 208 = .ok (.putfield 84, 3) := by decide +kernel
theorem dX8_init_211 : decode cX8_init 211 = .ok (.return_, 1) := by decide +kernel
theorem dX8_thrown_0 : decode cX8_thrown 0 = .ok (.aload_n 0, 1) := by decide +kernel
theorem dX8_thrown_1 : decode cX8_thrown 1 = .ok (.getfield 87, 3) := by decide +kernel
theorem dX8_thrown_4 : decode cX8_thrown 4 = .ok (.ireturn, 1) := by decide +kernel
theorem dX8_isProgram_0 : decode cX8_isProgram 0 = .ok (.iload_n 1, 1) := by decide +kernel
theorem dX8_isProgram_1 : decode cX8_isProgram 1 = .ok (.iconst 1, 1) := by decide +kernel
theorem dX8_isProgram_2 : decode cX8_isProgram 2 = .ok (.if_icmp .lt 15, 3) := by decide +kernel
theorem dX8_isProgram_5 : decode cX8_isProgram 5 = .ok (.iload_n 1, 1) := by decide +kernel
theorem dX8_isProgram_6 : decode cX8_isProgram 6 = .ok (.aload_n 0, 1) := by decide +kernel
theorem dX8_isProgram_7 : decode cX8_isProgram 7 = .ok (.getfield 91, 3) := by decide +kernel
theorem dX8_isProgram_10 : decode cX8_isProgram 10 = .ok (.if_icmp .gt 7, 3) := by decide +kernel
theorem dX8_isProgram_13 : decode cX8_isProgram 13 = .ok (.iconst 1, 1) := by decide +kernel
theorem dX8_isProgram_14 : decode cX8_isProgram 14 = .ok (.goto 4, 3) := by decide +kernel
theorem dX8_isProgram_17 : decode cX8_isProgram 17 = .ok (.iconst 0, 1) := by decide +kernel
theorem dX8_isProgram_18 : decode cX8_isProgram 18 = .ok (.ireturn, 1) := by decide +kernel
theorem dX8_isUnit_0 : decode cX8_isUnit 0 = .ok (.iload_n 1, 1) := by decide +kernel
theorem dX8_isUnit_1 : decode cX8_isUnit 1 = .ok (.iconst 1, 1) := by decide +kernel
theorem dX8_isUnit_2 : decode cX8_isUnit 2 = .ok (.if_icmp .lt 15, 3) := by decide +kernel
theorem dX8_isUnit_5 : decode cX8_isUnit 5 = .ok (.iload_n 1, 1) := by decide +kernel
theorem dX8_isUnit_6 : decode cX8_isUnit 6 = .ok (.aload_n 0, 1) := by decide +kernel
theorem dX8_isUnit_7 : decode cX8_isUnit 7 = .ok (.getfield 94, 3) := by decide +kernel
theorem dX8_isUnit_10 : decode cX8_isUnit 10 = .ok (.if_icmp .gt 7, 3) := by decide +kernel
theorem dX8_isUnit_13 : decode cX8_isUnit 13 = .ok (.iconst 1, 1) := by decide +kernel
theorem dX8_isUnit_14 : decode cX8_isUnit 14 = .ok (.goto 4, 3) := by decide +kernel
theorem dX8_isUnit_17 : decode cX8_isUnit 17 = .ok (.iconst 0, 1) := by decide +kernel
theorem dX8_isUnit_18 : decode cX8_isUnit 18 = .ok (.ireturn, 1) := by decide +kernel
theorem dX8_program_0 : decode cX8_program 0 = .ok (.aload_n 0, 1) := by decide +kernel
theorem dX8_program_1 : decode cX8_program 1 = .ok (.iconst 0, 1) := by decide +kernel
theorem dX8_program_2 : decode cX8_program 2 = .ok (.putfield 87, 3) := by decide +kernel
theorem dX8_program_5 : decode cX8_program 5 = .ok (.iload_n 1, 1) := by decide +kernel
theorem dX8_program_6 : decode cX8_program 6 = .ok (.iconst 1, 1) := by decide +kernel
theorem dX8_program_7 : decode cX8_program 7 = .ok (.if_icmp .lt 9, 3) := by decide +kernel
theorem dX8_program_10 : decode cX8_program 10 = .ok (.iload_n 1, 1) := by decide +kernel
theorem dX8_program_11 : decode cX8_program 11 = .ok (.bipush 100, 2) := by decide +kernel
theorem dX8_program_13 : decode cX8_program 13 = .ok (.if_icmp .le 6, 3) := by decide +kernel
theorem dX8_program_16 : decode cX8_program 16 = .ok (.bipush (-4), 2) := by decide +kernel
theorem dX8_program_18 : decode cX8_program 18 = .ok (.ireturn, 1) := by decide +kernel
theorem dX8_program_19 : decode cX8_program 19 = .ok (.aload_n 0, 1) := by decide +kernel
theorem dX8_program_20 : decode cX8_program 20 = .ok (.getfield 91, 3) := by decide +kernel
theorem dX8_program_23 : decode cX8_program 23 = .ok (.bipush 12, 2) := by decide +kernel
theorem dX8_program_25 : decode cX8_program 25 = .ok (.if_icmp .ne 5, 3) := by decide +kernel
theorem dX8_program_28 : decode cX8_program 28 = .ok (.iconst (-1), 1) := by decide +kernel
theorem dX8_program_29 : decode cX8_program 29 = .ok (.ireturn, 1) := by decide +kernel
theorem dX8_program_30 : decode cX8_program 30 = .ok (.aload_n 0, 1) := by decide +kernel
theorem dX8_program_31 : decode cX8_program 31 = .ok (.dup, 1) := by decide +kernel
theorem dX8_program_32 : decode cX8_program 32 = .ok (.getfield 91, 3) := by decide +kernel
theorem dX8_program_35 : decode cX8_program 35 = .ok (.iconst 1, 1) := by decide +kernel
theorem dX8_program_36 : decode cX8_program 36 = .ok (.iadd, 1) := by decide +kernel
theorem dX8_program_37 : decode cX8_program 37 = .ok (.putfield 91, 3) := by decide +kernel
theorem dX8_program_40 : decode cX8_program 40 = .ok (.aload_n 0, 1) := by decide +kernel
theorem dX8_program_41 : decode cX8_program 41 = .ok (.getfield 7, 3) := by decide +kernel
theorem dX8_program_44 : decode cX8_program 44 = .ok (.aload_n 0, 1) := by decide +kernel
theorem dX8_program_45 : decode cX8_program 45 = .ok (.getfield 91, 3) := by decide +kernel
theorem dX8_program_48 : decode cX8_program 48 = .ok (.iload_n 1, 1) := by decide +kernel
theorem dX8_program_49 : decode cX8_program 49 = .ok (.iastore, 1) := by decide +kernel
theorem dX8_program_50 : decode cX8_program 50 = .ok (.aload_n 0, 1) := by decide +kernel
theorem dX8_program_51 : decode cX8_program 51 = .ok (.getfield 25, 3) := by decide +kernel
theorem dX8_program_54 : decode cX8_program 54 = .ok (.aload_n 0, 1) := by decide +kernel
theorem dX8_program_55 : decode cX8_program 55 = .ok (.getfield 91, 3) := by decide +kernel
theorem dX8_program_58 : decode cX8_program 58 = .ok (.iload_n 2, 1) := by decide +kernel
theorem dX8_program_59 : decode cX8_program 59 = .ok (.bastore, 1) := by decide +kernel
theorem dX8_program_60 : decode cX8_program 60 = .ok (.aload_n 0, 1) := by decide +kernel
theorem dX8_program_61 : decode cX8_program 61 = .ok (.getfield 91, 3) := by decide +kernel
theorem dX8_program_64 : decode cX8_program 64 = .ok (.ireturn, 1) := by decide +kernel
theorem dX8_isIn_0 : decode cX8_isIn 0 = .ok (.iload_n 0, 1) := by decide +kernel
theorem dX8_isIn_1 : decode cX8_isIn 1 = .ok (.iload_n 1, 1) := by decide +kernel
theorem dX8_isIn_2 : decode cX8_isIn 2 = .ok (.if_icmp .lt 12, 3) := by decide +kernel
theorem dX8_isIn_5 : decode cX8_isIn 5 = .ok (.iload_n 0, 1) := by decide +kernel
theorem dX8_isIn_6 : decode cX8_isIn 6 = .ok (.iload_n 2, 1) := by decide +kernel
theorem dX8_isIn_7 : decode cX8_isIn 7 = .ok (.if_icmp .gt 7, 3) := by decide +kernel
theorem dX8_isIn_10 : decode cX8_isIn 10 = .ok (.iconst 1, 1) := by decide +kernel
theorem dX8_isIn_11 : decode cX8_isIn 11 = .ok (.goto 4, 3) := by decide +kernel
theorem dX8_isIn_14 : decode cX8_isIn 14 = .ok (.iconst 0, 1) := by decide +kernel
theorem dX8_isIn_15 : decode cX8_isIn 15 = .ok (.ireturn, 1) := by decide +kernel
theorem dX8_isRow_0 : decode cX8_isRow 0 = .ok (.iload_n 3, 1) := by decide +kernel
theorem dX8_isRow_1 : decode cX8_isRow 1 = .ok (.iconst 0, 1) := by decide +kernel
theorem dX8_isRow_2 : decode cX8_isRow 2 = .ok (.aload_n 0, 1) := by decide +kernel
theorem dX8_isRow_3 : decode cX8_isRow 3 = .ok (.getfield 7, 3) := by decide +kernel
theorem dX8_isRow_6 : decode cX8_isRow 6 = .ok (.iload_n 1, 1) := by decide +kernel
theorem dX8_isRow_7 : decode cX8_isRow 7 = .ok (.iaload, 1) := by decide +kernel
theorem dX8_isRow_8 : decode cX8_isRow 8 = .ok (.iconst 1, 1) := by decide +kernel
theorem dX8_isRow_9 : decode cX8_isRow 9 = .ok (.isub, 1) := by decide +kernel
theorem dX8_isRow_10 : decode cX8_isRow 10 = .ok (.invokestatic 97, 3) := by decide +kernel
theorem dX8_isRow_13 : decode cX8_isRow 13 = .ok (.istore 5, 2) := by decide +kernel
theorem dX8_isRow_15 : decode cX8_isRow 15 = .ok (.iload_n 2, 1) := by decide +kernel
theorem dX8_isRow_16 : decode cX8_isRow 16 = .ok (.tableswitch 142 0 13 #[72, 142, 142, 142, 142, 142, 142, 142, 95, 117, 126, 134, 134, 72], 72) := by decide +kernel
theorem dX8_isRow_88 : decode cX8_isRow 88 = .ok (.iload 5, 2) := by decide +kernel
theorem dX8_isRow_90 : decode cX8_isRow 90 = .ok (.ifCond .eq 19, 3) := by decide +kernel
theorem dX8_isRow_93 : decode cX8_isRow 93 = .ok (.iload 4, 2) := by decide +kernel
theorem dX8_isRow_95 : decode cX8_isRow 95 = .ok (.bipush (-128), 2) := by decide +kernel
theorem dX8_isRow_97 : decode cX8_isRow 97 = .ok (.bipush 127, 2) := by decide +kernel
theorem dX8_isRow_99 : decode cX8_isRow 99 = .ok (.invokestatic 97, 3) := by decide +kernel
theorem dX8_isRow_102 : decode cX8_isRow 102 = .ok (.ifCond .eq 7, 3) := by decide +kernel
theorem dX8_isRow_105 : decode cX8_isRow 105 = .ok (.iconst 1, 1) := by decide +kernel
theorem dX8_isRow_106 : decode cX8_isRow 106 = .ok (.goto 4, 3) := by decide +kernel
theorem dX8_isRow_109 : decode cX8_isRow 109 = .ok (.iconst 0, 1) := by decide +kernel
theorem dX8_isRow_110 : decode cX8_isRow 110 = .ok (.ireturn, 1) := by decide +kernel
theorem dX8_isRow_111 : decode cX8_isRow 111 = .ok (.iload 5, 2) := by decide +kernel
theorem dX8_isRow_113 : decode cX8_isRow 113 = .ok (.ifCond .eq 18, 3) := by decide +kernel
theorem dX8_isRow_116 : decode cX8_isRow 116 = .ok (.iload 4, 2) := by decide +kernel
theorem dX8_isRow_118 : decode cX8_isRow 118 = .ok (.iconst 1, 1) := by decide +kernel
theorem dX8_isRow_119 : decode cX8_isRow 119 = .ok (.bipush 61, 2) := by decide +kernel
theorem dX8_isRow_121 : decode cX8_isRow 121 = .ok (.invokestatic 97, 3) := by decide +kernel
theorem dX8_isRow_124 : decode cX8_isRow 124 = .ok (.ifCond .eq 7, 3) := by decide +kernel
theorem dX8_isRow_127 : decode cX8_isRow 127 = .ok (.iconst 1, 1) := by decide +kernel
theorem dX8_isRow_128 : decode cX8_isRow 128 = .ok (.goto 4, 3) := by decide +kernel
theorem dX8_isRow_131 : decode cX8_isRow 131 = .ok (.iconst 0, 1) := by decide +kernel
theorem dX8_isRow_132 : decode cX8_isRow 132 = .ok (.ireturn, 1) := by decide +kernel
theorem dX8_isRow_133 : decode cX8_isRow 133 = .ok (.iload 4, 2) := by decide +kernel
theorem dX8_isRow_135 : decode cX8_isRow 135 = .ok (.iconst 1, 1) := by decide +kernel
theorem dX8_isRow_136 : decode cX8_isRow 136 = .ok (.bipush 61, 2) := by decide +kernel
theorem dX8_isRow_138 : decode cX8_isRow 138 = .ok (.invokestatic 97, 3) := by decide +kernel
theorem dX8_isRow_141 : decode cX8_isRow 141 = .ok (.ireturn, 1) := by decide +kernel
theorem dX8_isRow_142 : decode cX8_isRow 142 = .ok (.iload_n 3, 1) := by decide +kernel
theorem dX8_isRow_143 : decode cX8_isRow 143 = .ok (.iconst 1, 1) := by decide +kernel
theorem dX8_isRow_144 : decode cX8_isRow 144 = .ok (.bipush 12, 2) := by decide +kernel
theorem dX8_isRow_146 : decode cX8_isRow 146 = .ok (.invokestatic 97, 3) := by decide +kernel
theorem dX8_isRow_149 : decode cX8_isRow 149 = .ok (.ireturn, 1) := by decide +kernel
theorem dX8_isRow_150 : decode cX8_isRow 150 = .ok (.iload_n 3, 1) := by decide +kernel
theorem dX8_isRow_151 : decode cX8_isRow 151 = .ok (.iconst 0, 1) := by decide +kernel
theorem dX8_isRow_152 : decode cX8_isRow 152 = .ok (.bipush 127, 2) := by decide +kernel
theorem dX8_isRow_154 : decode cX8_isRow 154 = .ok (.invokestatic 97, 3) := by decide +kernel
theorem dX8_isRow_157 : decode cX8_isRow 157 = .ok (.ireturn, 1) := by decide +kernel
theorem dX8_isRow_158 : decode cX8_isRow 158 = .ok (.iload_n 2, 1) := by decide +kernel
theorem dX8_isRow_159 : decode cX8_isRow 159 = .ok (.ifCond .le 35, 3) := by decide +kernel
theorem dX8_isRow_162 : decode cX8_isRow 162 = .ok (.iload_n 2, 1) := by decide +kernel
theorem dX8_isRow_163 : decode cX8_isRow 163 = .ok (.bipush 8, 2) := by decide +kernel
theorem dX8_isRow_165 : decode cX8_isRow 165 = .ok (.if_icmp .ge 29, 3) := by decide +kernel
theorem dX8_isRow_168 : decode cX8_isRow 168 = .ok (.iload 5, 2) := by decide +kernel
theorem dX8_isRow_170 : decode cX8_isRow 170 = .ok (.ifCond .eq 24, 3) := by decide +kernel
theorem dX8_isRow_173 : decode cX8_isRow 173 = .ok (.iload 4, 2) := by decide +kernel
theorem dX8_isRow_175 : decode cX8_isRow 175 = .ok (.iconst 0, 1) := by decide +kernel
theorem dX8_isRow_176 : decode cX8_isRow 176 = .ok (.aload_n 0, 1) := by decide +kernel
theorem dX8_isRow_177 : decode cX8_isRow 177 = .ok (.getfield 7, 3) := by decide +kernel
theorem dX8_isRow_180 : decode cX8_isRow 180 = .ok (.iload_n 1, 1) := by decide +kernel
theorem dX8_isRow_181 : decode cX8_isRow 181 = .ok (.iaload, 1) := by decide +kernel
theorem dX8_isRow_182 : decode cX8_isRow 182 = .ok (.iconst 1, 1) := by decide +kernel
theorem dX8_isRow_183 : decode cX8_isRow 183 = .ok (.isub, 1) := by decide +kernel
theorem dX8_isRow_184 : decode cX8_isRow 184 = .ok (.invokestatic 97, 3) := by decide +kernel
theorem dX8_isRow_187 : decode cX8_isRow 187 = .ok (.ifCond .eq 7, 3) := by decide +kernel
theorem dX8_isRow_190 : decode cX8_isRow 190 = .ok (.iconst 1, 1) := by decide +kernel
theorem dX8_isRow_191 : decode cX8_isRow 191 = .ok (.goto 4, 3) := by decide +kernel
theorem dX8_isRow_194 : decode cX8_isRow 194 = .ok (.iconst 0, 1) := by decide +kernel
theorem dX8_isRow_195 : decode cX8_isRow 195 = .ok (.ireturn, 1) := by decide +kernel
theorem dX8_code_0 : decode cX8_code 0 = .ok (.aload_n 0, 1) := by decide +kernel
theorem dX8_code_1 : decode cX8_code 1 = .ok (.iconst 0, 1) := by decide +kernel
theorem dX8_code_2 : decode cX8_code 2 = .ok (.putfield 87, 3) := by decide +kernel
theorem dX8_code_5 : decode cX8_code 5 = .ok (.aload_n 0, 1) := by decide +kernel
theorem dX8_code_6 : decode cX8_code 6 = .ok (.iload_n 1, 1) := by decide +kernel
theorem dX8_code_7 : decode cX8_code 7 = .ok (.invokevirtual 101, 3) := by decide +kernel
theorem dX8_code_10 : decode cX8_code 10 = .ok (.ifCond .ne 6, 3) := by decide +kernel
theorem dX8_code_13 : decode cX8_code 13 = .ok (.bipush (-2), 2) := by decide +kernel
theorem dX8_code_15 : decode cX8_code 15 = .ok (.ireturn, 1) := by decide +kernel
theorem dX8_code_16 : decode cX8_code 16 = .ok (.aload_n 0, 1) := by decide +kernel
theorem dX8_code_17 : decode cX8_code 17 = .ok (.iload_n 1, 1) := by decide +kernel
theorem dX8_code_18 : decode cX8_code 18 = .ok (.iload_n 2, 1) := by decide +kernel
theorem dX8_code_19 : decode cX8_code 19 = .ok (.iload_n 3, 1) := by decide +kernel
theorem dX8_code_20 : decode cX8_code 20 = .ok (.iload 4, 2) := by decide +kernel
theorem dX8_code_22 : decode cX8_code 22 = .ok (.invokevirtual 105, 3) := by decide +kernel
theorem dX8_code_25 : decode cX8_code 25 = .ok (.ifCond .ne 6, 3) := by decide +kernel
theorem dX8_code_28 : decode cX8_code 28 = .ok (.bipush (-4), 2) := by decide +kernel
theorem dX8_code_30 : decode cX8_code 30 = .ok (.ireturn, 1) := by decide +kernel
theorem dX8_code_31 : decode cX8_code 31 = .ok (.aload_n 0, 1) := by decide +kernel
theorem dX8_code_32 : decode cX8_code 32 = .ok (.getfield 13, 3) := by decide +kernel
theorem dX8_code_35 : decode cX8_code 35 = .ok (.iload_n 1, 1) := by decide +kernel
theorem dX8_code_36 : decode cX8_code 36 = .ok (.iaload, 1) := by decide +kernel
theorem dX8_code_37 : decode cX8_code 37 = .ok (.bipush 60, 2) := by decide +kernel
theorem dX8_code_39 : decode cX8_code 39 = .ok (.if_icmp .ne 5, 3) := by decide +kernel
theorem dX8_code_42 : decode cX8_code 42 = .ok (.iconst (-1), 1) := by decide +kernel
theorem dX8_code_43 : decode cX8_code 43 = .ok (.ireturn, 1) := by decide +kernel
theorem dX8_code_44 : decode cX8_code 44 = .ok (.aload_n 0, 1) := by decide +kernel
theorem dX8_code_45 : decode cX8_code 45 = .ok (.getfield 13, 3) := by decide +kernel
theorem dX8_code_48 : decode cX8_code 48 = .ok (.iload_n 1, 1) := by decide +kernel
theorem dX8_code_49 : decode cX8_code 49 = .ok (.dup2, 1) := by decide +kernel
theorem dX8_code_50 : decode cX8_code 50 = .ok (.iaload, 1) := by decide +kernel
theorem dX8_code_51 : decode cX8_code 51 = .ok (.iconst 1, 1) := by decide +kernel
theorem dX8_code_52 : decode cX8_code 52 = .ok (.iadd, 1) := by decide +kernel
theorem dX8_code_53 : decode cX8_code 53 = .ok (.iastore, 1) := by decide +kernel
theorem dX8_code_54 : decode cX8_code 54 = .ok (.bipush 60, 2) := by decide +kernel
theorem dX8_code_56 : decode cX8_code 56 = .ok (.iload_n 1, 1) := by decide +kernel
theorem dX8_code_57 : decode cX8_code 57 = .ok (.imul, 1) := by decide +kernel
theorem dX8_code_58 : decode cX8_code 58 = .ok (.aload_n 0, 1) := by decide +kernel
theorem dX8_code_59 : decode cX8_code 59 = .ok (.getfield 13, 3) := by decide +kernel
theorem dX8_code_62 : decode cX8_code 62 = .ok (.iload_n 1, 1) := by decide +kernel
theorem dX8_code_63 : decode cX8_code 63 = .ok (.iaload, 1) := by decide +kernel
theorem dX8_code_64 : decode cX8_code 64 = .ok (.iadd, 1) := by decide +kernel
theorem dX8_code_65 : decode cX8_code 65 = .ok (.istore 5, 2) := by decide +kernel
theorem dX8_code_67 : decode cX8_code 67 = .ok (.aload_n 0, 1) := by decide +kernel
theorem dX8_code_68 : decode cX8_code 68 = .ok (.getfield 16, 3) := by decide +kernel
theorem dX8_code_71 : decode cX8_code 71 = .ok (.iload 5, 2) := by decide +kernel
theorem dX8_code_73 : decode cX8_code 73 = .ok (.iload_n 2, 1) := by decide +kernel
theorem dX8_code_74 : decode cX8_code 74 = .ok (.iastore, 1) := by decide +kernel
theorem dX8_code_75 : decode cX8_code 75 = .ok (.aload_n 0, 1) := by decide +kernel
theorem dX8_code_76 : decode cX8_code 76 = .ok (.getfield 19, 3) := by decide +kernel
theorem dX8_code_79 : decode cX8_code 79 = .ok (.iload 5, 2) := by decide +kernel
theorem dX8_code_81 : decode cX8_code 81 = .ok (.iload_n 3, 1) := by decide +kernel
theorem dX8_code_82 : decode cX8_code 82 = .ok (.iastore, 1) := by decide +kernel
theorem dX8_code_83 : decode cX8_code 83 = .ok (.aload_n 0, 1) := by decide +kernel
theorem dX8_code_84 : decode cX8_code 84 = .ok (.getfield 22, 3) := by decide +kernel
theorem dX8_code_87 : decode cX8_code 87 = .ok (.iload 5, 2) := by decide +kernel
theorem dX8_code_89 : decode cX8_code 89 = .ok (.iload 4, 2) := by decide +kernel
theorem dX8_code_91 : decode cX8_code 91 = .ok (.iastore, 1) := by decide +kernel
theorem dX8_code_92 : decode cX8_code 92 = .ok (.aload_n 0, 1) := by decide +kernel
theorem dX8_code_93 : decode cX8_code 93 = .ok (.getfield 13, 3) := by decide +kernel
theorem dX8_code_96 : decode cX8_code 96 = .ok (.iload_n 1, 1) := by decide +kernel
theorem dX8_code_97 : decode cX8_code 97 = .ok (.iaload, 1) := by decide +kernel
theorem dX8_code_98 : decode cX8_code 98 = .ok (.ireturn, 1) := by decide +kernel
theorem dX8_unit_0 : decode cX8_unit 0 = .ok (.aload_n 0, 1) := by decide +kernel
theorem dX8_unit_1 : decode cX8_unit 1 = .ok (.iconst 0, 1) := by decide +kernel
theorem dX8_unit_2 : decode cX8_unit 2 = .ok (.putfield 87, 3) := by decide +kernel
theorem dX8_unit_5 : decode cX8_unit 5 = .ok (.aload_n 0, 1) := by decide +kernel
theorem dX8_unit_6 : decode cX8_unit 6 = .ok (.getfield 94, 3) := by decide +kernel
theorem dX8_unit_9 : decode cX8_unit 9 = .ok (.bipush 8, 2) := by decide +kernel
theorem dX8_unit_11 : decode cX8_unit 11 = .ok (.if_icmp .ne 5, 3) := by decide +kernel
theorem dX8_unit_14 : decode cX8_unit 14 = .ok (.iconst (-1), 1) := by decide +kernel
theorem dX8_unit_15 : decode cX8_unit 15 = .ok (.ireturn, 1) := by decide +kernel
theorem dX8_unit_16 : decode cX8_unit 16 = .ok (.aload_n 0, 1) := by decide +kernel
theorem dX8_unit_17 : decode cX8_unit 17 = .ok (.dup, 1) := by decide +kernel
theorem dX8_unit_18 : decode cX8_unit 18 = .ok (.getfield 94, 3) := by decide +kernel
theorem dX8_unit_21 : decode cX8_unit 21 = .ok (.iconst 1, 1) := by decide +kernel
theorem dX8_unit_22 : decode cX8_unit 22 = .ok (.iadd, 1) := by decide +kernel
theorem dX8_unit_23 : decode cX8_unit 23 = .ok (.putfield 94, 3) := by decide +kernel
theorem dX8_unit_26 : decode cX8_unit 26 = .ok (.aload_n 0, 1) := by decide +kernel
theorem dX8_unit_27 : decode cX8_unit 27 = .ok (.getfield 94, 3) := by decide +kernel
theorem dX8_unit_30 : decode cX8_unit 30 = .ok (.ireturn, 1) := by decide +kernel
theorem dX8_latestOf_0 : decode cX8_latestOf 0 = .ok (.aload_n 0, 1) := by decide +kernel
theorem dX8_latestOf_1 : decode cX8_latestOf 1 = .ok (.getfield 53, 3) := by decide +kernel
theorem dX8_latestOf_4 : decode cX8_latestOf 4 = .ok (.bipush 13, 2) := by decide +kernel
theorem dX8_latestOf_6 : decode cX8_latestOf 6 = .ok (.iload_n 1, 1) := by decide +kernel
theorem dX8_latestOf_7 : decode cX8_latestOf 7 = .ok (.imul, 1) := by decide +kernel
theorem dX8_latestOf_8 : decode cX8_latestOf 8 = .ok (.iload_n 2, 1) := by decide +kernel
theorem dX8_latestOf_9 : decode cX8_latestOf 9 = .ok (.iadd, 1) := by decide +kernel
theorem dX8_latestOf_10 : decode cX8_latestOf 10 = .ok (.iaload, 1) := by decide +kernel
theorem dX8_latestOf_11 : decode cX8_latestOf 11 = .ok (.ireturn, 1) := by decide +kernel
theorem dX8_made_0 : decode cX8_made 0 = .ok (.aload_n 0, 1) := by decide +kernel
theorem dX8_made_1 : decode cX8_made 1 = .ok (.iload_n 1, 1) := by decide +kernel
theorem dX8_made_2 : decode cX8_made 2 = .ok (.iload_n 2, 1) := by decide +kernel
theorem dX8_made_3 : decode cX8_made 3 = .ok (.invokevirtual 109, 3) := by decide +kernel
theorem dX8_made_6 : decode cX8_made 6 = .ok (.istore_n 3, 1) := by decide +kernel
theorem dX8_made_7 : decode cX8_made 7 = .ok (.iload_n 3, 1) := by decide +kernel
theorem dX8_made_8 : decode cX8_made 8 = .ok (.ifCond .le 20, 3) := by decide +kernel
theorem dX8_made_11 : decode cX8_made 11 = .ok (.aload_n 0, 1) := by decide +kernel
theorem dX8_made_12 : decode cX8_made 12 = .ok (.getfield 35, 3) := by decide +kernel
theorem dX8_made_15 : decode cX8_made 15 = .ok (.iload_n 3, 1) := by decide +kernel
theorem dX8_made_16 : decode cX8_made 16 = .ok (.iaload, 1) := by decide +kernel
theorem dX8_made_17 : decode cX8_made 17 = .ok (.aload_n 0, 1) := by decide +kernel
theorem dX8_made_18 : decode cX8_made 18 = .ok (.getfield 13, 3) := by decide +kernel
theorem dX8_made_21 : decode cX8_made 21 = .ok (.iload_n 2, 1) := by decide +kernel
theorem dX8_made_22 : decode cX8_made 22 = .ok (.iaload, 1) := by decide +kernel
theorem dX8_made_23 : decode cX8_made 23 = .ok (.if_icmp .ne 5, 3) := by decide +kernel
theorem dX8_made_26 : decode cX8_made 26 = .ok (.iload_n 3, 1) := by decide +kernel
theorem dX8_made_27 : decode cX8_made 27 = .ok (.ireturn, 1) := by decide +kernel
theorem dX8_made_28 : decode cX8_made 28 = .ok (.aload_n 0, 1) := by decide +kernel
theorem dX8_made_29 : decode cX8_made 29 = .ok (.getfield 113, 3) := by decide +kernel
theorem dX8_made_32 : decode cX8_made 32 = .ok (.bipush 40, 2) := by decide +kernel
theorem dX8_made_34 : decode cX8_made 34 = .ok (.if_icmp .ne 5, 3) := by decide +kernel
theorem dX8_made_37 : decode cX8_made 37 = .ok (.iconst (-1), 1) := by decide +kernel
theorem dX8_made_38 : decode cX8_made 38 = .ok (.ireturn, 1) := by decide +kernel
theorem dX8_made_39 : decode cX8_made 39 = .ok (.aload_n 0, 1) := by decide +kernel
theorem dX8_made_40 : decode cX8_made 40 = .ok (.dup, 1) := by decide +kernel
theorem dX8_made_41 : decode cX8_made 41 = .ok (.getfield 113, 3) := by decide +kernel
theorem dX8_made_44 : decode cX8_made 44 = .ok (.iconst 1, 1) := by decide +kernel
theorem dX8_made_45 : decode cX8_made 45 = .ok (.iadd, 1) := by decide +kernel
theorem dX8_made_46 : decode cX8_made 46 = .ok (.putfield 113, 3) := by decide +kernel
theorem dX8_made_49 : decode cX8_made 49 = .ok (.aload_n 0, 1) := by decide +kernel
theorem dX8_made_50 : decode cX8_made 50 = .ok (.getfield 29, 3) := by decide +kernel
theorem dX8_made_53 : decode cX8_made 53 = .ok (.aload_n 0, 1) := by decide +kernel
theorem dX8_made_54 : decode cX8_made 54 = .ok (.getfield 113, 3) := by decide +kernel
theorem dX8_made_57 : decode cX8_made 57 = .ok (.iload_n 1, 1) := by decide +kernel
theorem dX8_made_58 : decode cX8_made 58 = .ok (.iastore, 1) := by decide +kernel
theorem dX8_made_59 : decode cX8_made 59 = .ok (.aload_n 0, 1) := by decide +kernel
theorem dX8_made_60 : decode cX8_made 60 = .ok (.getfield 32, 3) := by decide +kernel
theorem dX8_made_63 : decode cX8_made 63 = .ok (.aload_n 0, 1) := by decide +kernel
theorem dX8_made_64 : decode cX8_made 64 = .ok (.getfield 113, 3) := by decide +kernel
theorem dX8_made_67 : decode cX8_made 67 = .ok (.iload_n 2, 1) := by decide +kernel
theorem dX8_made_68 : decode cX8_made 68 = .ok (.iastore, 1) := by decide +kernel
theorem dX8_made_69 : decode cX8_made 69 = .ok (.aload_n 0, 1) := by decide +kernel
theorem dX8_made_70 : decode cX8_made 70 = .ok (.getfield 35, 3) := by decide +kernel
theorem dX8_made_73 : decode cX8_made 73 = .ok (.aload_n 0, 1) := by decide +kernel
theorem dX8_made_74 : decode cX8_made 74 = .ok (.getfield 113, 3) := by decide +kernel
theorem dX8_made_77 : decode cX8_made 77 = .ok (.aload_n 0, 1) := by decide +kernel
theorem dX8_made_78 : decode cX8_made 78 = .ok (.getfield 13, 3) := by decide +kernel
theorem dX8_made_81 : decode cX8_made 81 = .ok (.iload_n 2, 1) := by decide +kernel
theorem dX8_made_82 : decode cX8_made 82 = .ok (.iaload, 1) := by decide +kernel
theorem dX8_made_83 : decode cX8_made 83 = .ok (.iastore, 1) := by decide +kernel
theorem dX8_made_84 : decode cX8_made 84 = .ok (.iload_n 3, 1) := by decide +kernel
theorem dX8_made_85 : decode cX8_made 85 = .ok (.ifCond .le 17, 3) := by decide +kernel
theorem dX8_made_88 : decode cX8_made 88 = .ok (.aload_n 0, 1) := by decide +kernel
theorem dX8_made_89 : decode cX8_made 89 = .ok (.getfield 38, 3) := by decide +kernel
theorem dX8_made_92 : decode cX8_made 92 = .ok (.iload_n 3, 1) := by decide +kernel
theorem dX8_made_93 : decode cX8_made 93 = .ok (.iconst 1, 1) := by decide +kernel
theorem dX8_made_94 : decode cX8_made 94 = .ok (.bastore, 1) := by decide +kernel
theorem dX8_made_95 : decode cX8_made 95 = .ok (.aload_n 0, 1) := by decide +kernel
theorem dX8_made_96 : decode cX8_made 96 = .ok (.getfield 41, 3) := by decide +kernel
theorem dX8_made_99 : decode cX8_made 99 = .ok (.iload_n 3, 1) := by decide +kernel
theorem dX8_made_100 : decode cX8_made 100 = .ok (.iconst 0, 1) := by decide +kernel
theorem dX8_made_101 : decode cX8_made 101 = .ok (.bastore, 1) := by decide +kernel
theorem dX8_made_102 : decode cX8_made 102 = .ok (.aload_n 0, 1) := by decide +kernel
theorem dX8_made_103 : decode cX8_made 103 = .ok (.getfield 53, 3) := by decide +kernel
theorem dX8_made_106 : decode cX8_made 106 = .ok (.bipush 13, 2) := by decide +kernel
theorem dX8_made_108 : decode cX8_made 108 = .ok (.iload_n 1, 1) := by decide +kernel
theorem dX8_made_109 : decode cX8_made 109 = .ok (.imul, 1) := by decide +kernel
theorem dX8_made_110 : decode cX8_made 110 = .ok (.iload_n 2, 1) := by decide +kernel
theorem dX8_made_111 : decode cX8_made 111 = .ok (.iadd, 1) := by decide +kernel
theorem dX8_made_112 : decode cX8_made 112 = .ok (.aload_n 0, 1) := by decide +kernel
theorem dX8_made_113 : decode cX8_made 113 = .ok (.getfield 113, 3) := by decide +kernel
theorem dX8_made_116 : decode cX8_made 116 = .ok (.iastore, 1) := by decide +kernel
theorem dX8_made_117 : decode cX8_made 117 = .ok (.aload_n 0, 1) := by decide +kernel
theorem dX8_made_118 : decode cX8_made 118 = .ok (.getfield 113, 3) := by decide +kernel
theorem dX8_made_121 : decode cX8_made 121 = .ok (.ireturn, 1) := by decide +kernel
theorem dX8_make_0 : decode cX8_make 0 = .ok (.aload_n 0, 1) := by decide +kernel
theorem dX8_make_1 : decode cX8_make 1 = .ok (.iconst 0, 1) := by decide +kernel
theorem dX8_make_2 : decode cX8_make 2 = .ok (.putfield 87, 3) := by decide +kernel
theorem dX8_make_5 : decode cX8_make 5 = .ok (.aload_n 0, 1) := by decide +kernel
theorem dX8_make_6 : decode cX8_make 6 = .ok (.iload_n 1, 1) := by decide +kernel
theorem dX8_make_7 : decode cX8_make 7 = .ok (.invokevirtual 116, 3) := by decide +kernel
theorem dX8_make_10 : decode cX8_make 10 = .ok (.ifCond .eq 11, 3) := by decide +kernel
theorem dX8_make_13 : decode cX8_make 13 = .ok (.aload_n 0, 1) := by decide +kernel
theorem dX8_make_14 : decode cX8_make 14 = .ok (.iload_n 2, 1) := by decide +kernel
theorem dX8_make_15 : decode cX8_make 15 = .ok (.invokevirtual 101, 3) := by decide +kernel
theorem dX8_make_18 : decode cX8_make 18 = .ok (.ifCond .ne 6, 3) := by decide +kernel
theorem dX8_make_21 : decode cX8_make 21 = .ok (.bipush (-2), 2) := by decide +kernel
theorem dX8_make_23 : decode cX8_make 23 = .ok (.ireturn, 1) := by decide +kernel
theorem dX8_make_24 : decode cX8_make 24 = .ok (.aload_n 0, 1) := by decide +kernel
theorem dX8_make_25 : decode cX8_make 25 = .ok (.getfield 47, 3) := by decide +kernel
theorem dX8_make_28 : decode cX8_make 28 = .ok (.iload_n 1, 1) := by decide +kernel
theorem dX8_make_29 : decode cX8_make 29 = .ok (.baload, 1) := by decide +kernel
theorem dX8_make_30 : decode cX8_make 30 = .ok (.ifCond .eq 8, 3) := by decide +kernel
theorem dX8_make_33 : decode cX8_make 33 = .ok (.bipush (-5), 2) := by decide +kernel
theorem dX8_make_35 : decode cX8_make 35 = .ok (.goto 9, 3) := by decide +kernel
theorem dX8_make_38 : decode cX8_make 38 = .ok (.aload_n 0, 1) := by decide +kernel
theorem dX8_make_39 : decode cX8_make 39 = .ok (.iload_n 1, 1) := by decide +kernel
theorem dX8_make_40 : decode cX8_make 40 = .ok (.iload_n 2, 1) := by decide +kernel
theorem dX8_make_41 : decode cX8_make 41 = .ok (.invokevirtual 119, 3) := by decide +kernel
theorem dX8_make_44 : decode cX8_make 44 = .ok (.ireturn, 1) := by decide +kernel
theorem dX8_cancel_0 : decode cX8_cancel 0 = .ok (.aload_n 0, 1) := by decide +kernel
theorem dX8_cancel_1 : decode cX8_cancel 1 = .ok (.iconst 0, 1) := by decide +kernel
theorem dX8_cancel_2 : decode cX8_cancel 2 = .ok (.putfield 87, 3) := by decide +kernel
theorem dX8_cancel_5 : decode cX8_cancel 5 = .ok (.aload_n 0, 1) := by decide +kernel
theorem dX8_cancel_6 : decode cX8_cancel 6 = .ok (.iload_n 1, 1) := by decide +kernel
theorem dX8_cancel_7 : decode cX8_cancel 7 = .ok (.invokevirtual 116, 3) := by decide +kernel
theorem dX8_cancel_10 : decode cX8_cancel 10 = .ok (.ifCond .eq 11, 3) := by decide +kernel
theorem dX8_cancel_13 : decode cX8_cancel 13 = .ok (.aload_n 0, 1) := by decide +kernel
theorem dX8_cancel_14 : decode cX8_cancel 14 = .ok (.iload_n 2, 1) := by decide +kernel
theorem dX8_cancel_15 : decode cX8_cancel 15 = .ok (.invokevirtual 101, 3) := by decide +kernel
theorem dX8_cancel_18 : decode cX8_cancel 18 = .ok (.ifCond .ne 6, 3) := by decide +kernel
theorem dX8_cancel_21 : decode cX8_cancel 21 = .ok (.bipush (-2), 2) := by decide +kernel
theorem dX8_cancel_23 : decode cX8_cancel 23 = .ok (.ireturn, 1) := by decide +kernel
theorem dX8_cancel_24 : decode cX8_cancel 24 = .ok (.aload_n 0, 1) := by decide +kernel
theorem dX8_cancel_25 : decode cX8_cancel 25 = .ok (.getfield 47, 3) := by decide +kernel
theorem dX8_cancel_28 : decode cX8_cancel 28 = .ok (.iload_n 1, 1) := by decide +kernel
theorem dX8_cancel_29 : decode cX8_cancel 29 = .ok (.baload, 1) := by decide +kernel
theorem dX8_cancel_30 : decode cX8_cancel 30 = .ok (.ifCond .eq 6, 3) := by decide +kernel
theorem dX8_cancel_33 : decode cX8_cancel 33 = .ok (.bipush (-5), 2) := by decide +kernel
theorem dX8_cancel_35 : decode cX8_cancel 35 = .ok (.ireturn, 1) := by decide +kernel
theorem dX8_cancel_36 : decode cX8_cancel 36 = .ok (.aload_n 0, 1) := by decide +kernel
theorem dX8_cancel_37 : decode cX8_cancel 37 = .ok (.iload_n 1, 1) := by decide +kernel
theorem dX8_cancel_38 : decode cX8_cancel 38 = .ok (.iload_n 2, 1) := by decide +kernel
theorem dX8_cancel_39 : decode cX8_cancel 39 = .ok (.invokevirtual 109, 3) := by decide +kernel
theorem dX8_cancel_42 : decode cX8_cancel 42 = .ok (.istore_n 3, 1) := by decide +kernel
theorem dX8_cancel_43 : decode cX8_cancel 43 = .ok (.iload_n 3, 1) := by decide +kernel
theorem dX8_cancel_44 : decode cX8_cancel 44 = .ok (.ifCond .eq 12, 3) := by decide +kernel
theorem dX8_cancel_47 : decode cX8_cancel 47 = .ok (.aload_n 0, 1) := by decide +kernel
theorem dX8_cancel_48 : decode cX8_cancel 48 = .ok (.getfield 41, 3) := by decide +kernel
theorem dX8_cancel_51 : decode cX8_cancel 51 = .ok (.iload_n 3, 1) := by decide +kernel
theorem dX8_cancel_52 : decode cX8_cancel 52 = .ok (.baload, 1) := by decide +kernel
theorem dX8_cancel_53 : decode cX8_cancel 53 = .ok (.ifCond .ne 5, 3) := by decide +kernel
theorem dX8_cancel_56 : decode cX8_cancel 56 = .ok (.iconst 0, 1) := by decide +kernel
theorem dX8_cancel_57 : decode cX8_cancel 57 = .ok (.ireturn, 1) := by decide +kernel
theorem dX8_cancel_58 : decode cX8_cancel 58 = .ok (.aload_n 0, 1) := by decide +kernel
theorem dX8_cancel_59 : decode cX8_cancel 59 = .ok (.getfield 41, 3) := by decide +kernel
theorem dX8_cancel_62 : decode cX8_cancel 62 = .ok (.iload_n 3, 1) := by decide +kernel
theorem dX8_cancel_63 : decode cX8_cancel 63 = .ok (.iconst 0, 1) := by decide +kernel
theorem dX8_cancel_64 : decode cX8_cancel 64 = .ok (.bastore, 1) := by decide +kernel
theorem dX8_cancel_65 : decode cX8_cancel 65 = .ok (.iconst 1, 1) := by decide +kernel
theorem dX8_cancel_66 : decode cX8_cancel 66 = .ok (.ireturn, 1) := by decide +kernel
theorem dX8_shares_0 : decode cX8_shares 0 = .ok (.aload_n 0, 1) := by decide +kernel
theorem dX8_shares_1 : decode cX8_shares 1 = .ok (.iconst 0, 1) := by decide +kernel
theorem dX8_shares_2 : decode cX8_shares 2 = .ok (.putfield 87, 3) := by decide +kernel
theorem dX8_shares_5 : decode cX8_shares 5 = .ok (.iconst 0, 1) := by decide +kernel
theorem dX8_shares_6 : decode cX8_shares 6 = .ok (.istore_n 3, 1) := by decide +kernel
theorem dX8_shares_7 : decode cX8_shares 7 = .ok (.iconst 1, 1) := by decide +kernel
theorem dX8_shares_8 : decode cX8_shares 8 = .ok (.istore 4, 2) := by decide +kernel
theorem dX8_shares_10 : decode cX8_shares 10 = .ok (.iload 4, 2) := by decide +kernel
theorem dX8_shares_12 : decode cX8_shares 12 = .ok (.aload_n 0, 1) := by decide +kernel
theorem dX8_shares_13 : decode cX8_shares 13 = .ok (.getfield 113, 3) := by decide +kernel
theorem dX8_shares_16 : decode cX8_shares 16 = .ok (.if_icmp .gt 30, 3) := by decide +kernel
theorem dX8_shares_19 : decode cX8_shares 19 = .ok (.iload_n 3, 1) := by decide +kernel
theorem dX8_shares_20 : decode cX8_shares 20 = .ok (.ifCond .ne 14, 3) := by decide +kernel
theorem dX8_shares_23 : decode cX8_shares 23 = .ok (.aload_n 0, 1) := by decide +kernel
theorem dX8_shares_24 : decode cX8_shares 24 = .ok (.getfield 29, 3) := by decide +kernel
theorem dX8_shares_27 : decode cX8_shares 27 = .ok (.iload 4, 2) := by decide +kernel
theorem dX8_shares_29 : decode cX8_shares 29 = .ok (.iaload, 1) := by decide +kernel
theorem dX8_shares_30 : decode cX8_shares 30 = .ok (.iload_n 1, 1) := by decide +kernel
theorem dX8_shares_31 : decode cX8_shares 31 = .ok (.if_icmp .ne 7, 3) := by decide +kernel
theorem dX8_shares_34 : decode cX8_shares 34 = .ok (.iconst 1, 1) := by decide +kernel
theorem dX8_shares_35 : decode cX8_shares 35 = .ok (.goto 4, 3) := by decide +kernel
theorem dX8_shares_38 : decode cX8_shares 38 = .ok (.iconst 0, 1) := by decide +kernel
theorem dX8_shares_39 : decode cX8_shares 39 = .ok (.istore_n 3, 1) := by decide +kernel
theorem dX8_shares_40 : decode cX8_shares 40 = .ok (.iinc 4 1, 3) := by decide +kernel
theorem dX8_shares_43 : decode cX8_shares 43 = .ok (.goto (-33), 3) := by decide +kernel
theorem dX8_shares_46 : decode cX8_shares 46 = .ok (.iload_n 3, 1) := by decide +kernel
theorem dX8_shares_47 : decode cX8_shares 47 = .ok (.ifCond .eq 12, 3) := by decide +kernel
theorem dX8_shares_50 : decode cX8_shares 50 = .ok (.iload_n 1, 1) := by decide +kernel
theorem dX8_shares_51 : decode cX8_shares 51 = .ok (.iload_n 2, 1) := by decide +kernel
theorem dX8_shares_52 : decode cX8_shares 52 = .ok (.if_icmp .ne 7, 3) := by decide +kernel
theorem dX8_shares_55 : decode cX8_shares 55 = .ok (.iconst 1, 1) := by decide +kernel
theorem dX8_shares_56 : decode cX8_shares 56 = .ok (.goto 4, 3) := by decide +kernel
theorem dX8_shares_59 : decode cX8_shares 59 = .ok (.iconst 0, 1) := by decide +kernel
theorem dX8_shares_60 : decode cX8_shares 60 = .ok (.ireturn, 1) := by decide +kernel
theorem dX8_state_0 : decode cX8_state 0 = .ok (.aload_n 0, 1) := by decide +kernel
theorem dX8_state_1 : decode cX8_state 1 = .ok (.iconst 0, 1) := by decide +kernel
theorem dX8_state_2 : decode cX8_state 2 = .ok (.putfield 87, 3) := by decide +kernel
theorem dX8_state_5 : decode cX8_state 5 = .ok (.iload_n 1, 1) := by decide +kernel
theorem dX8_state_6 : decode cX8_state 6 = .ok (.iconst 1, 1) := by decide +kernel
theorem dX8_state_7 : decode cX8_state 7 = .ok (.if_icmp .lt 11, 3) := by decide +kernel
theorem dX8_state_10 : decode cX8_state 10 = .ok (.iload_n 1, 1) := by decide +kernel
theorem dX8_state_11 : decode cX8_state 11 = .ok (.aload_n 0, 1) := by decide +kernel
theorem dX8_state_12 : decode cX8_state 12 = .ok (.getfield 113, 3) := by decide +kernel
theorem dX8_state_15 : decode cX8_state 15 = .ok (.if_icmp .le 6, 3) := by decide +kernel
theorem dX8_state_18 : decode cX8_state 18 = .ok (.bipush (-2), 2) := by decide +kernel
theorem dX8_state_20 : decode cX8_state 20 = .ok (.ireturn, 1) := by decide +kernel
theorem dX8_state_21 : decode cX8_state 21 = .ok (.aload_n 0, 1) := by decide +kernel
theorem dX8_state_22 : decode cX8_state 22 = .ok (.getfield 44, 3) := by decide +kernel
theorem dX8_state_25 : decode cX8_state 25 = .ok (.iload_n 1, 1) := by decide +kernel
theorem dX8_state_26 : decode cX8_state 26 = .ok (.baload, 1) := by decide +kernel
theorem dX8_state_27 : decode cX8_state 27 = .ok (.ifCond .eq 5, 3) := by decide +kernel
theorem dX8_state_30 : decode cX8_state 30 = .ok (.iconst 2, 1) := by decide +kernel
theorem dX8_state_31 : decode cX8_state 31 = .ok (.ireturn, 1) := by decide +kernel
theorem dX8_state_32 : decode cX8_state 32 = .ok (.aload_n 0, 1) := by decide +kernel
theorem dX8_state_33 : decode cX8_state 33 = .ok (.getfield 47, 3) := by decide +kernel
theorem dX8_state_36 : decode cX8_state 36 = .ok (.aload_n 0, 1) := by decide +kernel
theorem dX8_state_37 : decode cX8_state 37 = .ok (.getfield 29, 3) := by decide +kernel
theorem dX8_state_40 : decode cX8_state 40 = .ok (.iload_n 1, 1) := by decide +kernel
theorem dX8_state_41 : decode cX8_state 41 = .ok (.iaload, 1) := by decide +kernel
theorem dX8_state_42 : decode cX8_state 42 = .ok (.baload, 1) := by decide +kernel
theorem dX8_state_43 : decode cX8_state 43 = .ok (.ifCond .eq 7, 3) := by decide +kernel
theorem dX8_state_46 : decode cX8_state 46 = .ok (.iconst 4, 1) := by decide +kernel
theorem dX8_state_47 : decode cX8_state 47 = .ok (.goto 30, 3) := by decide +kernel
theorem dX8_state_50 : decode cX8_state 50 = .ok (.aload_n 0, 1) := by decide +kernel
theorem dX8_state_51 : decode cX8_state 51 = .ok (.getfield 38, 3) := by decide +kernel
theorem dX8_state_54 : decode cX8_state 54 = .ok (.iload_n 1, 1) := by decide +kernel
theorem dX8_state_55 : decode cX8_state 55 = .ok (.baload, 1) := by decide +kernel
theorem dX8_state_56 : decode cX8_state 56 = .ok (.ifCond .eq 7, 3) := by decide +kernel
theorem dX8_state_59 : decode cX8_state 59 = .ok (.iconst 3, 1) := by decide +kernel
theorem dX8_state_60 : decode cX8_state 60 = .ok (.goto 17, 3) := by decide +kernel
theorem dX8_state_63 : decode cX8_state 63 = .ok (.aload_n 0, 1) := by decide +kernel
theorem dX8_state_64 : decode cX8_state 64 = .ok (.getfield 41, 3) := by decide +kernel
theorem dX8_state_67 : decode cX8_state 67 = .ok (.iload_n 1, 1) := by decide +kernel
theorem dX8_state_68 : decode cX8_state 68 = .ok (.baload, 1) := by decide +kernel
theorem dX8_state_69 : decode cX8_state 69 = .ok (.ifCond .eq 7, 3) := by decide +kernel
theorem dX8_state_72 : decode cX8_state 72 = .ok (.iconst 1, 1) := by decide +kernel
theorem dX8_state_73 : decode cX8_state 73 = .ok (.goto 4, 3) := by decide +kernel
theorem dX8_state_76 : decode cX8_state 76 = .ok (.iconst 0, 1) := by decide +kernel
theorem dX8_state_77 : decode cX8_state 77 = .ok (.ireturn, 1) := by decide +kernel
theorem dX8_enter_0 : decode cX8_enter 0 = .ok (.aload_n 0, 1) := by decide +kernel
theorem dX8_enter_1 : decode cX8_enter 1 = .ok (.getfield 29, 3) := by decide +kernel
theorem dX8_enter_4 : decode cX8_enter 4 = .ok (.iload_n 1, 1) := by decide +kernel
theorem dX8_enter_5 : decode cX8_enter 5 = .ok (.iaload, 1) := by decide +kernel
theorem dX8_enter_6 : decode cX8_enter 6 = .ok (.istore_n 2, 1) := by decide +kernel
theorem dX8_enter_7 : decode cX8_enter 7 = .ok (.aload_n 0, 1) := by decide +kernel
theorem dX8_enter_8 : decode cX8_enter 8 = .ok (.getfield 32, 3) := by decide +kernel
theorem dX8_enter_11 : decode cX8_enter 11 = .ok (.iload_n 1, 1) := by decide +kernel
theorem dX8_enter_12 : decode cX8_enter 12 = .ok (.iaload, 1) := by decide +kernel
theorem dX8_enter_13 : decode cX8_enter 13 = .ok (.istore_n 3, 1) := by decide +kernel
theorem dX8_enter_14 : decode cX8_enter 14 = .ok (.aload_n 0, 1) := by decide +kernel
theorem dX8_enter_15 : decode cX8_enter 15 = .ok (.getfield 78, 3) := by decide +kernel
theorem dX8_enter_18 : decode cX8_enter 18 = .ok (.aload_n 0, 1) := by decide +kernel
theorem dX8_enter_19 : decode cX8_enter 19 = .ok (.getfield 122, 3) := by decide +kernel
theorem dX8_enter_22 : decode cX8_enter 22 = .ok (.iload_n 1, 1) := by decide +kernel
theorem dX8_enter_23 : decode cX8_enter 23 = .ok (.iastore, 1) := by decide +kernel
theorem dX8_enter_24 : decode cX8_enter 24 = .ok (.aload_n 0, 1) := by decide +kernel
theorem dX8_enter_25 : decode cX8_enter 25 = .ok (.getfield 81, 3) := by decide +kernel
theorem dX8_enter_28 : decode cX8_enter 28 = .ok (.aload_n 0, 1) := by decide +kernel
theorem dX8_enter_29 : decode cX8_enter 29 = .ok (.getfield 122, 3) := by decide +kernel
theorem dX8_enter_32 : decode cX8_enter 32 = .ok (.iconst 1, 1) := by decide +kernel
theorem dX8_enter_33 : decode cX8_enter 33 = .ok (.iastore, 1) := by decide +kernel
theorem dX8_enter_34 : decode cX8_enter 34 = .ok (.aload_n 0, 1) := by decide +kernel
theorem dX8_enter_35 : decode cX8_enter 35 = .ok (.dup, 1) := by decide +kernel
theorem dX8_enter_36 : decode cX8_enter 36 = .ok (.getfield 122, 3) := by decide +kernel
theorem dX8_enter_39 : decode cX8_enter 39 = .ok (.iconst 1, 1) := by decide +kernel
theorem dX8_enter_40 : decode cX8_enter 40 = .ok (.iadd, 1) := by decide +kernel
theorem dX8_enter_41 : decode cX8_enter 41 = .ok (.putfield 122, 3) := by decide +kernel
theorem dX8_enter_44 : decode cX8_enter 44 = .ok (.aload_n 0, 1) := by decide +kernel
theorem dX8_enter_45 : decode cX8_enter 45 = .ok (.getfield 41, 3) := by decide +kernel
theorem dX8_enter_48 : decode cX8_enter 48 = .ok (.iload_n 1, 1) := by decide +kernel
theorem dX8_enter_49 : decode cX8_enter 49 = .ok (.baload, 1) := by decide +kernel
theorem dX8_enter_50 : decode cX8_enter 50 = .ok (.ifCond .eq 5, 3) := by decide +kernel
theorem dX8_enter_53 : decode cX8_enter 53 = .ok (.iconst 0, 1) := by decide +kernel
theorem dX8_enter_54 : decode cX8_enter 54 = .ok (.ireturn, 1) := by decide +kernel
theorem dX8_enter_55 : decode cX8_enter 55 = .ok (.aload_n 0, 1) := by decide +kernel
theorem dX8_enter_56 : decode cX8_enter 56 = .ok (.getfield 25, 3) := by decide +kernel
theorem dX8_enter_59 : decode cX8_enter 59 = .ok (.iload_n 3, 1) := by decide +kernel
theorem dX8_enter_60 : decode cX8_enter 60 = .ok (.baload, 1) := by decide +kernel
theorem dX8_enter_61 : decode cX8_enter 61 = .ok (.ifCond .eq 19, 3) := by decide +kernel
theorem dX8_enter_64 : decode cX8_enter 64 = .ok (.aload_n 0, 1) := by decide +kernel
theorem dX8_enter_65 : decode cX8_enter 65 = .ok (.getfield 44, 3) := by decide +kernel
theorem dX8_enter_68 : decode cX8_enter 68 = .ok (.iload_n 1, 1) := by decide +kernel
theorem dX8_enter_69 : decode cX8_enter 69 = .ok (.iconst 1, 1) := by decide +kernel
theorem dX8_enter_70 : decode cX8_enter 70 = .ok (.bastore, 1) := by decide +kernel
theorem dX8_enter_71 : decode cX8_enter 71 = .ok (.aload_n 0, 1) := by decide +kernel
theorem dX8_enter_72 : decode cX8_enter 72 = .ok (.getfield 47, 3) := by decide +kernel
theorem dX8_enter_75 : decode cX8_enter 75 = .ok (.iload_n 2, 1) := by decide +kernel
theorem dX8_enter_76 : decode cX8_enter 76 = .ok (.iconst 1, 1) := by decide +kernel
theorem dX8_enter_77 : decode cX8_enter 77 = .ok (.bastore, 1) := by decide +kernel
theorem dX8_enter_78 : decode cX8_enter 78 = .ok (.iconst 5, 1) := by decide +kernel
theorem dX8_enter_79 : decode cX8_enter 79 = .ok (.ireturn, 1) := by decide +kernel
theorem dX8_enter_80 : decode cX8_enter 80 = .ok (.iconst 0, 1) := by decide +kernel
theorem dX8_enter_81 : decode cX8_enter 81 = .ok (.istore 4, 2) := by decide +kernel
theorem dX8_enter_83 : decode cX8_enter 83 = .ok (.iload 4, 2) := by decide +kernel
theorem dX8_enter_85 : decode cX8_enter 85 = .ok (.bipush 100, 2) := by decide +kernel
theorem dX8_enter_87 : decode cX8_enter 87 = .ok (.if_icmp .ge 35, 3) := by decide +kernel
theorem dX8_enter_90 : decode cX8_enter 90 = .ok (.aload_n 0, 1) := by decide +kernel
theorem dX8_enter_91 : decode cX8_enter 91 = .ok (.getfield 71, 3) := by decide +kernel
theorem dX8_enter_94 : decode cX8_enter 94 = .ok (.sipush 1200, 3) := by decide +kernel
theorem dX8_enter_97 : decode cX8_enter 97 = .ok (.iload_n 2, 1) := by decide +kernel
theorem dX8_enter_98 : decode cX8_enter 98 = .ok (.imul, 1) := by decide +kernel
theorem dX8_enter_99 : decode cX8_enter 99 = .ok (.sipush 1200, 3) := by decide +kernel
theorem dX8_enter_102 : decode cX8_enter 102 = .ok (.isub, 1) := by decide +kernel
theorem dX8_enter_103 : decode cX8_enter 103 = .ok (.bipush 100, 2) := by decide +kernel
theorem dX8_enter_105 : decode cX8_enter 105 = .ok (.iload_n 3, 1) := by decide +kernel
theorem dX8_enter_106 : decode cX8_enter 106 = .ok (.imul, 1) := by decide +kernel
theorem dX8_enter_107 : decode cX8_enter 107 = .ok (.iadd, 1) := by decide +kernel
theorem dX8_enter_108 : decode cX8_enter 108 = .ok (.bipush 100, 2) := by decide +kernel
theorem dX8_enter_110 : decode cX8_enter 110 = .ok (.isub, 1) := by decide +kernel
theorem dX8_enter_111 : decode cX8_enter 111 = .ok (.iload 4, 2) := by decide +kernel
theorem dX8_enter_113 : decode cX8_enter 113 = .ok (.iadd, 1) := by decide +kernel
theorem dX8_enter_114 : decode cX8_enter 114 = .ok (.iconst 0, 1) := by decide +kernel
theorem dX8_enter_115 : decode cX8_enter 115 = .ok (.bastore, 1) := by decide +kernel
theorem dX8_enter_116 : decode cX8_enter 116 = .ok (.iinc 4 1, 3) := by decide +kernel
theorem dX8_enter_119 : decode cX8_enter 119 = .ok (.goto (-36), 3) := by decide +kernel
theorem dX8_enter_122 : decode cX8_enter 122 = .ok (.aload_n 0, 1) := by decide +kernel
theorem dX8_enter_123 : decode cX8_enter 123 = .ok (.getfield 41, 3) := by decide +kernel
theorem dX8_enter_126 : decode cX8_enter 126 = .ok (.iload_n 1, 1) := by decide +kernel
theorem dX8_enter_127 : decode cX8_enter 127 = .ok (.iconst 1, 1) := by decide +kernel
theorem dX8_enter_128 : decode cX8_enter 128 = .ok (.bastore, 1) := by decide +kernel
theorem dX8_enter_129 : decode cX8_enter 129 = .ok (.iconst 0, 1) := by decide +kernel
theorem dX8_enter_130 : decode cX8_enter 130 = .ok (.ireturn, 1) := by decide +kernel
theorem dX8_called_0 : decode cX8_called 0 = .ok (.aload_n 0, 1) := by decide +kernel
theorem dX8_called_1 : decode cX8_called 1 = .ok (.getfield 122, 3) := by decide +kernel
theorem dX8_called_4 : decode cX8_called 4 = .ok (.bipush 11, 2) := by decide +kernel
theorem dX8_called_6 : decode cX8_called 6 = .ok (.if_icmp .ne 5, 3) := by decide +kernel
theorem dX8_called_9 : decode cX8_called 9 = .ok (.iconst 3, 1) := by decide +kernel
theorem dX8_called_10 : decode cX8_called 10 = .ok (.ireturn, 1) := by decide +kernel
theorem dX8_called_11 : decode cX8_called 11 = .ok (.aload_n 0, 1) := by decide +kernel
theorem dX8_called_12 : decode cX8_called 12 = .ok (.iload_n 2, 1) := by decide +kernel
theorem dX8_called_13 : decode cX8_called 13 = .ok (.invokevirtual 101, 3) := by decide +kernel
theorem dX8_called_16 : decode cX8_called 16 = .ok (.ifCond .ne 6, 3) := by decide +kernel
theorem dX8_called_19 : decode cX8_called 19 = .ok (.bipush 6, 2) := by decide +kernel
theorem dX8_called_21 : decode cX8_called 21 = .ok (.ireturn, 1) := by decide +kernel
theorem dX8_called_22 : decode cX8_called 22 = .ok (.aload_n 0, 1) := by decide +kernel
theorem dX8_called_23 : decode cX8_called 23 = .ok (.iload_n 1, 1) := by decide +kernel
theorem dX8_called_24 : decode cX8_called 24 = .ok (.iload_n 2, 1) := by decide +kernel
theorem dX8_called_25 : decode cX8_called 25 = .ok (.invokevirtual 109, 3) := by decide +kernel
theorem dX8_called_28 : decode cX8_called 28 = .ok (.istore_n 3, 1) := by decide +kernel
theorem dX8_called_29 : decode cX8_called 29 = .ok (.iload_n 3, 1) := by decide +kernel
theorem dX8_called_30 : decode cX8_called 30 = .ok (.ifCond .ne 10, 3) := by decide +kernel
theorem dX8_called_33 : decode cX8_called 33 = .ok (.aload_n 0, 1) := by decide +kernel
theorem dX8_called_34 : decode cX8_called 34 = .ok (.iload_n 1, 1) := by decide +kernel
theorem dX8_called_35 : decode cX8_called 35 = .ok (.iload_n 2, 1) := by decide +kernel
theorem dX8_called_36 : decode cX8_called 36 = .ok (.invokevirtual 119, 3) := by decide +kernel
theorem dX8_called_39 : decode cX8_called 39 = .ok (.istore_n 3, 1) := by decide +kernel
theorem dX8_called_40 : decode cX8_called 40 = .ok (.iload_n 3, 1) := by decide +kernel
theorem dX8_called_41 : decode cX8_called 41 = .ok (.iconst (-1), 1) := by decide +kernel
theorem dX8_called_42 : decode cX8_called 42 = .ok (.if_icmp .ne 8, 3) := by decide +kernel
theorem dX8_called_45 : decode cX8_called 45 = .ok (.bipush 6, 2) := by decide +kernel
theorem dX8_called_47 : decode cX8_called 47 = .ok (.goto 8, 3) := by decide +kernel
theorem dX8_called_50 : decode cX8_called 50 = .ok (.aload_n 0, 1) := by decide +kernel
theorem dX8_called_51 : decode cX8_called 51 = .ok (.iload_n 3, 1) := by decide +kernel
theorem dX8_called_52 : decode cX8_called 52 = .ok (.invokevirtual 125, 3) := by decide +kernel
theorem dX8_called_55 : decode cX8_called 55 = .ok (.ireturn, 1) := by decide +kernel
theorem dX8_step_0 : decode cX8_step 0 = .ok (.aload_n 0, 1) := by decide +kernel
theorem dX8_step_1 : decode cX8_step 1 = .ok (.getfield 29, 3) := by decide +kernel
theorem dX8_step_4 : decode cX8_step 4 = .ok (.iload_n 1, 1) := by decide +kernel
theorem dX8_step_5 : decode cX8_step 5 = .ok (.iaload, 1) := by decide +kernel
theorem dX8_step_6 : decode cX8_step 6 = .ok (.istore_n 3, 1) := by decide +kernel
theorem dX8_step_7 : decode cX8_step 7 = .ok (.aload_n 0, 1) := by decide +kernel
theorem dX8_step_8 : decode cX8_step 8 = .ok (.getfield 32, 3) := by decide +kernel
theorem dX8_step_11 : decode cX8_step 11 = .ok (.iload_n 1, 1) := by decide +kernel
theorem dX8_step_12 : decode cX8_step 12 = .ok (.iaload, 1) := by decide +kernel
theorem dX8_step_13 : decode cX8_step 13 = .ok (.istore 4, 2) := by decide +kernel
theorem dX8_step_15 : decode cX8_step 15 = .ok (.sipush 1200, 3) := by decide +kernel
theorem dX8_step_18 : decode cX8_step 18 = .ok (.iload_n 3, 1) := by decide +kernel
theorem dX8_step_19 : decode cX8_step 19 = .ok (.imul, 1) := by decide +kernel
theorem dX8_step_20 : decode cX8_step 20 = .ok (.sipush 1200, 3) := by decide +kernel
theorem dX8_step_23 : decode cX8_step 23 = .ok (.isub, 1) := by decide +kernel
theorem dX8_step_24 : decode cX8_step 24 = .ok (.bipush 100, 2) := by decide +kernel
theorem dX8_step_26 : decode cX8_step 26 = .ok (.iload 4, 2) := by decide +kernel
theorem dX8_step_28 : decode cX8_step 28 = .ok (.imul, 1) := by decide +kernel
theorem dX8_step_29 : decode cX8_step 29 = .ok (.iadd, 1) := by decide +kernel
theorem dX8_step_30 : decode cX8_step 30 = .ok (.bipush 100, 2) := by decide +kernel
theorem dX8_step_32 : decode cX8_step 32 = .ok (.isub, 1) := by decide +kernel
theorem dX8_step_33 : decode cX8_step 33 = .ok (.istore 5, 2) := by decide +kernel
theorem dX8_step_35 : decode cX8_step 35 = .ok (.bipush 60, 2) := by decide +kernel
theorem dX8_step_37 : decode cX8_step 37 = .ok (.iload 4, 2) := by decide +kernel
theorem dX8_step_39 : decode cX8_step 39 = .ok (.imul, 1) := by decide +kernel
theorem dX8_step_40 : decode cX8_step 40 = .ok (.iload_n 2, 1) := by decide +kernel
theorem dX8_step_41 : decode cX8_step 41 = .ok (.iadd, 1) := by decide +kernel
theorem dX8_step_42 : decode cX8_step 42 = .ok (.istore 6, 2) := by decide +kernel
theorem dX8_step_44 : decode cX8_step 44 = .ok (.aload_n 0, 1) := by decide +kernel
theorem dX8_step_45 : decode cX8_step 45 = .ok (.getfield 19, 3) := by decide +kernel
theorem dX8_step_48 : decode cX8_step 48 = .ok (.iload 6, 2) := by decide +kernel
theorem dX8_step_50 : decode cX8_step 50 = .ok (.iaload, 1) := by decide +kernel
theorem dX8_step_51 : decode cX8_step 51 = .ok (.istore 7, 2) := by decide +kernel
theorem dX8_step_53 : decode cX8_step 53 = .ok (.aload_n 0, 1) := by decide +kernel
theorem dX8_step_54 : decode cX8_step 54 = .ok (.getfield 22, 3) := by decide +kernel
theorem dX8_step_57 : decode cX8_step 57 = .ok (.iload 6, 2) := by decide +kernel
theorem dX8_step_59 : decode cX8_step 59 = .ok (.iaload, 1) := by decide +kernel
theorem dX8_step_60 : decode cX8_step 60 = .ok (.istore 8, 2) := by decide +kernel
theorem dX8_step_62 : decode cX8_step 62 = .ok (.aload_n 0, 1) := by decide +kernel
theorem dX8_step_63 : decode cX8_step 63 = .ok (.getfield 16, 3) := by decide +kernel
theorem dX8_step_66 : decode cX8_step 66 = .ok (.iload 6, 2) := by decide +kernel
theorem dX8_step_68 : decode cX8_step 68 = .ok (.iaload, 1) := by decide +kernel
theorem dX8_step_69 : decode cX8_step 69 = .ok (.istore 9, 2) := by decide +kernel
theorem dX8_step_71 : decode cX8_step 71 = .ok (.iload 9, 2) := by decide +kernel
theorem dX8_step_73 : decode cX8_step 73 = .ok (.bipush 9, 2) := by decide +kernel
theorem dX8_step_75 : decode cX8_step 75 = .ok (.if_icmp .lt 10, 3) := by decide +kernel
theorem dX8_step_78 : decode cX8_step 78 = .ok (.iload 9, 2) := by decide +kernel
theorem dX8_step_80 : decode cX8_step 80 = .ok (.bipush 13, 2) := by decide +kernel
theorem dX8_step_82 : decode cX8_step 82 = .ok (.if_icmp .ne 16, 3) := by decide +kernel
theorem dX8_step_85 : decode cX8_step 85 = .ok (.aload_n 0, 1) := by decide +kernel
theorem dX8_step_86 : decode cX8_step 86 = .ok (.getfield 71, 3) := by decide +kernel
theorem dX8_step_89 : decode cX8_step 89 = .ok (.iload 5, 2) := by decide +kernel
theorem dX8_step_91 : decode cX8_step 91 = .ok (.iload 7, 2) := by decide +kernel
theorem dX8_step_93 : decode cX8_step 93 = .ok (.iadd, 1) := by decide +kernel
theorem dX8_step_94 : decode cX8_step 94 = .ok (.baload, 1) := by decide +kernel
theorem dX8_step_95 : decode cX8_step 95 = .ok (.goto 4, 3) := by decide +kernel
theorem dX8_step_98 : decode cX8_step 98 = .ok (.iconst 0, 1) := by decide +kernel
theorem dX8_step_99 : decode cX8_step 99 = .ok (.istore 10, 2) := by decide +kernel
theorem dX8_step_101 : decode cX8_step 101 = .ok (.iload 9, 2) := by decide +kernel
theorem dX8_step_103 : decode cX8_step 103 = .ok (.ifCond .le 23, 3) := by decide +kernel
theorem dX8_step_106 : decode cX8_step 106 = .ok (.iload 9, 2) := by decide +kernel
theorem dX8_step_108 : decode cX8_step 108 = .ok (.bipush 8, 2) := by decide +kernel
theorem dX8_step_110 : decode cX8_step 110 = .ok (.if_icmp .ge 16, 3) := by decide +kernel
theorem dX8_step_113 : decode cX8_step 113 = .ok (.aload_n 0, 1) := by decide +kernel
theorem dX8_step_114 : decode cX8_step 114 = .ok (.getfield 71, 3) := by decide +kernel
theorem dX8_step_117 : decode cX8_step 117 = .ok (.iload 5, 2) := by decide +kernel
theorem dX8_step_119 : decode cX8_step 119 = .ok (.iload 8, 2) := by decide +kernel
theorem dX8_step_121 : decode cX8_step 121 = .ok (.iadd, 1) := by decide +kernel
theorem dX8_step_122 : decode cX8_step 122 = .ok (.baload, 1) := by decide +kernel
theorem dX8_step_123 : decode cX8_step 123 = .ok (.goto 4, 3) := by decide +kernel
theorem dX8_step_126 : decode cX8_step 126 = .ok (.iconst 0, 1) := by decide +kernel
theorem dX8_step_127 : decode cX8_step 127 = .ok (.istore 11, 2) := by decide +kernel
theorem dX8_step_129 : decode cX8_step 129 = .ok (.iload 9, 2) := by decide +kernel
theorem dX8_step_131 : decode cX8_step 131 = .ok (.iconst 5, 1) := by decide +kernel
theorem dX8_step_132 : decode cX8_step 132 = .ok (.if_icmp .eq 10, 3) := by decide +kernel
theorem dX8_step_135 : decode cX8_step 135 = .ok (.iload 9, 2) := by decide +kernel
theorem dX8_step_137 : decode cX8_step 137 = .ok (.bipush 6, 2) := by decide +kernel
theorem dX8_step_139 : decode cX8_step 139 = .ok (.if_icmp .ne 10, 3) := by decide +kernel
theorem dX8_step_142 : decode cX8_step 142 = .ok (.iload 11, 2) := by decide +kernel
theorem dX8_step_144 : decode cX8_step 144 = .ok (.ifCond .ne 5, 3) := by decide +kernel
theorem dX8_step_147 : decode cX8_step 147 = .ok (.iconst 1, 1) := by decide +kernel
theorem dX8_step_148 : decode cX8_step 148 = .ok (.ireturn, 1) := by decide +kernel
theorem dX8_step_149 : decode cX8_step 149 = .ok (.iload 9, 2) := by decide +kernel
theorem dX8_step_151 : decode cX8_step 151 = .ok (.tableswitch 324 0 12 #[65, 80, 95, 113, 131, 149, 167, 185, 219, 239, 254, 262, 306], 65) := by decide +kernel
theorem dX8_step_216 : decode cX8_step 216 = .ok (.aload_n 0, 1) := by decide +kernel
theorem dX8_step_217 : decode cX8_step 217 = .ok (.getfield 71, 3) := by decide +kernel
theorem dX8_step_220 : decode cX8_step 220 = .ok (.iload 5, 2) := by decide +kernel
theorem dX8_step_222 : decode cX8_step 222 = .ok (.iload 7, 2) := by decide +kernel
theorem dX8_step_224 : decode cX8_step 224 = .ok (.iadd, 1) := by decide +kernel
theorem dX8_step_225 : decode cX8_step 225 = .ok (.iload 8, 2) := by decide +kernel
theorem dX8_step_227 : decode cX8_step 227 = .ok (.i2b, 1) := by decide +kernel
theorem dX8_step_228 : decode cX8_step 228 = .ok (.bastore, 1) := by decide +kernel
theorem dX8_step_229 : decode cX8_step 229 = .ok (.iconst 0, 1) := by decide +kernel
theorem dX8_step_230 : decode cX8_step 230 = .ok (.ireturn, 1) := by decide +kernel
theorem dX8_step_231 : decode cX8_step 231 = .ok (.aload_n 0, 1) := by decide +kernel
theorem dX8_step_232 : decode cX8_step 232 = .ok (.getfield 71, 3) := by decide +kernel
theorem dX8_step_235 : decode cX8_step 235 = .ok (.iload 5, 2) := by decide +kernel
theorem dX8_step_237 : decode cX8_step 237 = .ok (.iload 7, 2) := by decide +kernel
theorem dX8_step_239 : decode cX8_step 239 = .ok (.iadd, 1) := by decide +kernel
theorem dX8_step_240 : decode cX8_step 240 = .ok (.iload 11, 2) := by decide +kernel
theorem dX8_step_242 : decode cX8_step 242 = .ok (.i2b, 1) := by decide +kernel
theorem dX8_step_243 : decode cX8_step 243 = .ok (.bastore, 1) := by decide +kernel
theorem dX8_step_244 : decode cX8_step 244 = .ok (.iconst 0, 1) := by decide +kernel
theorem dX8_step_245 : decode cX8_step 245 = .ok (.ireturn, 1) := by decide +kernel
theorem dX8_step_246 : decode cX8_step 246 = .ok (.aload_n 0, 1) := by decide +kernel
theorem dX8_step_247 : decode cX8_step 247 = .ok (.getfield 71, 3) := by decide +kernel
theorem dX8_step_250 : decode cX8_step 250 = .ok (.iload 5, 2) := by decide +kernel
theorem dX8_step_252 : decode cX8_step 252 = .ok (.iload 7, 2) := by decide +kernel
theorem dX8_step_254 : decode cX8_step 254 = .ok (.iadd, 1) := by decide +kernel
theorem dX8_step_255 : decode cX8_step 255 = .ok (.iload 10, 2) := by decide +kernel
theorem dX8_step_257 : decode cX8_step 257 = .ok (.iload 11, 2) := by decide +kernel
theorem dX8_step_259 : decode cX8_step 259 = .ok (.iadd, 1) := by decide +kernel
theorem dX8_step_260 : decode cX8_step 260 = .ok (.i2b, 1) := by decide +kernel
theorem dX8_step_261 : decode cX8_step 261 = .ok (.bastore, 1) := by decide +kernel
theorem dX8_step_262 : decode cX8_step 262 = .ok (.iconst 0, 1) := by decide +kernel
theorem dX8_step_263 : decode cX8_step 263 = .ok (.ireturn, 1) := by decide +kernel
theorem dX8_step_264 : decode cX8_step 264 = .ok (.aload_n 0, 1) := by decide +kernel
theorem dX8_step_265 : decode cX8_step 265 = .ok (.getfield 71, 3) := by decide +kernel
theorem dX8_step_268 : decode cX8_step 268 = .ok (.iload 5, 2) := by decide +kernel
theorem dX8_step_270 : decode cX8_step 270 = .ok (.iload 7, 2) := by decide +kernel
theorem dX8_step_272 : decode cX8_step 272 = .ok (.iadd, 1) := by decide +kernel
theorem dX8_step_273 : decode cX8_step 273 = .ok (.iload 10, 2) := by decide +kernel
theorem dX8_step_275 : decode cX8_step 275 = .ok (.iload 11, 2) := by decide +kernel
theorem dX8_step_277 : decode cX8_step 277 = .ok (.isub, 1) := by decide +kernel
theorem dX8_step_278 : decode cX8_step 278 = .ok (.i2b, 1) := by decide +kernel
theorem dX8_step_279 : decode cX8_step 279 = .ok (.bastore, 1) := by decide +kernel
theorem dX8_step_280 : decode cX8_step 280 = .ok (.iconst 0, 1) := by decide +kernel
theorem dX8_step_281 : decode cX8_step 281 = .ok (.ireturn, 1) := by decide +kernel
theorem dX8_step_282 : decode cX8_step 282 = .ok (.aload_n 0, 1) := by decide +kernel
theorem dX8_step_283 : decode cX8_step 283 = .ok (.getfield 71, 3) := by decide +kernel
theorem dX8_step_286 : decode cX8_step 286 = .ok (.iload 5, 2) := by decide +kernel
theorem dX8_step_288 : decode cX8_step 288 = .ok (.iload 7, 2) := by decide +kernel
theorem dX8_step_290 : decode cX8_step 290 = .ok (.iadd, 1) := by decide +kernel
theorem dX8_step_291 : decode cX8_step 291 = .ok (.iload 10, 2) := by decide +kernel
theorem dX8_step_293 : decode cX8_step 293 = .ok (.iload 11, 2) := by decide +kernel
theorem dX8_step_295 : decode cX8_step 295 = .ok (.imul, 1) := by decide +kernel
theorem dX8_step_296 : decode cX8_step 296 = .ok (.i2b, 1) := by decide +kernel
theorem dX8_step_297 : decode cX8_step 297 = .ok (.bastore, 1) := by decide +kernel
theorem dX8_step_298 : decode cX8_step 298 = .ok (.iconst 0, 1) := by decide +kernel
theorem dX8_step_299 : decode cX8_step 299 = .ok (.ireturn, 1) := by decide +kernel
theorem dX8_step_300 : decode cX8_step 300 = .ok (.aload_n 0, 1) := by decide +kernel
theorem dX8_step_301 : decode cX8_step 301 = .ok (.getfield 71, 3) := by decide +kernel
theorem dX8_step_304 : decode cX8_step 304 = .ok (.iload 5, 2) := by decide +kernel
theorem dX8_step_306 : decode cX8_step 306 = .ok (.iload 7, 2) := by decide +kernel
theorem dX8_step_308 : decode cX8_step 308 = .ok (.iadd, 1) := by decide +kernel
theorem dX8_step_309 : decode cX8_step 309 = .ok (.iload 10, 2) := by decide +kernel
theorem dX8_step_311 : decode cX8_step 311 = .ok (.iload 11, 2) := by decide +kernel
theorem dX8_step_313 : decode cX8_step 313 = .ok (.idiv, 1) := by decide +kernel
theorem dX8_step_314 : decode cX8_step 314 = .ok (.i2b, 1) := by decide +kernel
theorem dX8_step_315 : decode cX8_step 315 = .ok (.bastore, 1) := by decide +kernel
theorem dX8_step_316 : decode cX8_step 316 = .ok (.iconst 0, 1) := by decide +kernel
theorem dX8_step_317 : decode cX8_step 317 = .ok (.ireturn, 1) := by decide +kernel
theorem dX8_step_318 : decode cX8_step 318 = .ok (.aload_n 0, 1) := by decide +kernel
theorem dX8_step_319 : decode cX8_step 319 = .ok (.getfield 71, 3) := by decide +kernel
theorem dX8_step_322 : decode cX8_step 322 = .ok (.iload 5, 2) := by decide +kernel
theorem dX8_step_324 : decode cX8_step 324 = .ok (.iload 7, 2) := by decide +kernel
theorem dX8_step_326 : decode cX8_step 326 = .ok (.iadd, 1) := by decide +kernel
theorem dX8_step_327 : decode cX8_step 327 = .ok (.iload 10, 2) := by decide +kernel
theorem dX8_step_329 : decode cX8_step 329 = .ok (.iload 11, 2) := by decide +kernel
theorem dX8_step_331 : decode cX8_step 331 = .ok (.irem, 1) := by decide +kernel
theorem dX8_step_332 : decode cX8_step 332 = .ok (.i2b, 1) := by decide +kernel
theorem dX8_step_333 : decode cX8_step 333 = .ok (.bastore, 1) := by decide +kernel
theorem dX8_step_334 : decode cX8_step 334 = .ok (.iconst 0, 1) := by decide +kernel
theorem dX8_step_335 : decode cX8_step 335 = .ok (.ireturn, 1) := by decide +kernel
theorem dX8_step_336 : decode cX8_step 336 = .ok (.iload 10, 2) := by decide +kernel
theorem dX8_step_338 : decode cX8_step 338 = .ok (.ifCond .lt 15, 3) := by decide +kernel
theorem dX8_step_341 : decode cX8_step 341 = .ok (.iload 10, 2) := by decide +kernel
theorem dX8_step_343 : decode cX8_step 343 = .ok (.aload_n 0, 1) := by decide +kernel
theorem dX8_step_344 : decode cX8_step 344 = .ok (.getfield 7, 3) := by decide +kernel
theorem dX8_step_347 : decode cX8_step 347 = .ok (.iload 4, 2) := by decide +kernel
theorem dX8_step_349 : decode cX8_step 349 = .ok (.iaload, 1) := by decide +kernel
theorem dX8_step_350 : decode cX8_step 350 = .ok (.if_icmp .lt 5, 3) := by decide +kernel
theorem dX8_step_353 : decode cX8_step 353 = .ok (.iconst 2, 1) := by decide +kernel
theorem dX8_step_354 : decode cX8_step 354 = .ok (.ireturn, 1) := by decide +kernel
theorem dX8_step_355 : decode cX8_step 355 = .ok (.aload_n 0, 1) := by decide +kernel
theorem dX8_step_356 : decode cX8_step 356 = .ok (.getfield 71, 3) := by decide +kernel
theorem dX8_step_359 : decode cX8_step 359 = .ok (.iload 5, 2) := by decide +kernel
theorem dX8_step_361 : decode cX8_step 361 = .ok (.iload 10, 2) := by decide +kernel
theorem dX8_step_363 : decode cX8_step 363 = .ok (.iadd, 1) := by decide +kernel
theorem dX8_step_364 : decode cX8_step 364 = .ok (.iload 11, 2) := by decide +kernel
theorem dX8_step_366 : decode cX8_step 366 = .ok (.i2b, 1) := by decide +kernel
theorem dX8_step_367 : decode cX8_step 367 = .ok (.bastore, 1) := by decide +kernel
theorem dX8_step_368 : decode cX8_step 368 = .ok (.iconst 0, 1) := by decide +kernel
theorem dX8_step_369 : decode cX8_step 369 = .ok (.ireturn, 1) := by decide +kernel
theorem dX8_step_370 : decode cX8_step 370 = .ok (.iload 10, 2) := by decide +kernel
theorem dX8_step_372 : decode cX8_step 372 = .ok (.ifCond .ne 16, 3) := by decide +kernel
theorem dX8_step_375 : decode cX8_step 375 = .ok (.aload_n 0, 1) := by decide +kernel
theorem dX8_step_376 : decode cX8_step 376 = .ok (.getfield 81, 3) := by decide +kernel
theorem dX8_step_379 : decode cX8_step 379 = .ok (.aload_n 0, 1) := by decide +kernel
theorem dX8_step_380 : decode cX8_step 380 = .ok (.getfield 122, 3) := by decide +kernel
theorem dX8_step_383 : decode cX8_step 383 = .ok (.iconst 1, 1) := by decide +kernel
theorem dX8_step_384 : decode cX8_step 384 = .ok (.isub, 1) := by decide +kernel
theorem dX8_step_385 : decode cX8_step 385 = .ok (.iload 8, 2) := by decide +kernel
theorem dX8_step_387 : decode cX8_step 387 = .ok (.iastore, 1) := by decide +kernel
theorem dX8_step_388 : decode cX8_step 388 = .ok (.iconst 0, 1) := by decide +kernel
theorem dX8_step_389 : decode cX8_step 389 = .ok (.ireturn, 1) := by decide +kernel
theorem dX8_step_390 : decode cX8_step 390 = .ok (.aload_n 0, 1) := by decide +kernel
theorem dX8_step_391 : decode cX8_step 391 = .ok (.getfield 81, 3) := by decide +kernel
theorem dX8_step_394 : decode cX8_step 394 = .ok (.aload_n 0, 1) := by decide +kernel
theorem dX8_step_395 : decode cX8_step 395 = .ok (.getfield 122, 3) := by decide +kernel
theorem dX8_step_398 : decode cX8_step 398 = .ok (.iconst 1, 1) := by decide +kernel
theorem dX8_step_399 : decode cX8_step 399 = .ok (.isub, 1) := by decide +kernel
theorem dX8_step_400 : decode cX8_step 400 = .ok (.iload 8, 2) := by decide +kernel
theorem dX8_step_402 : decode cX8_step 402 = .ok (.iastore, 1) := by decide +kernel
theorem dX8_step_403 : decode cX8_step 403 = .ok (.iconst 0, 1) := by decide +kernel
theorem dX8_step_404 : decode cX8_step 404 = .ok (.ireturn, 1) := by decide +kernel
theorem dX8_step_405 : decode cX8_step 405 = .ok (.aload_n 0, 1) := by decide +kernel
theorem dX8_step_406 : decode cX8_step 406 = .ok (.iload_n 3, 1) := by decide +kernel
theorem dX8_step_407 : decode cX8_step 407 = .ok (.iload 7, 2) := by decide +kernel
theorem dX8_step_409 : decode cX8_step 409 = .ok (.invokevirtual 129, 3) := by decide +kernel
theorem dX8_step_412 : decode cX8_step 412 = .ok (.ireturn, 1) := by decide +kernel
theorem dX8_step_413 : decode cX8_step 413 = .ok (.aload_n 0, 1) := by decide +kernel
theorem dX8_step_414 : decode cX8_step 414 = .ok (.getfield 68, 3) := by decide +kernel
theorem dX8_step_417 : decode cX8_step 417 = .ok (.iload_n 3, 1) := by decide +kernel
theorem dX8_step_418 : decode cX8_step 418 = .ok (.iaload, 1) := by decide +kernel
theorem dX8_step_419 : decode cX8_step 419 = .ok (.bipush 100, 2) := by decide +kernel
theorem dX8_step_421 : decode cX8_step 421 = .ok (.if_icmp .ge 34, 3) := by decide +kernel
theorem dX8_step_424 : decode cX8_step 424 = .ok (.aload_n 0, 1) := by decide +kernel
theorem dX8_step_425 : decode cX8_step 425 = .ok (.getfield 75, 3) := by decide +kernel
theorem dX8_step_428 : decode cX8_step 428 = .ok (.bipush 100, 2) := by decide +kernel
theorem dX8_step_430 : decode cX8_step 430 = .ok (.iload_n 3, 1) := by decide +kernel
theorem dX8_step_431 : decode cX8_step 431 = .ok (.imul, 1) := by decide +kernel
theorem dX8_step_432 : decode cX8_step 432 = .ok (.bipush 100, 2) := by decide +kernel
theorem dX8_step_434 : decode cX8_step 434 = .ok (.isub, 1) := by decide +kernel
theorem dX8_step_435 : decode cX8_step 435 = .ok (.aload_n 0, 1) := by decide +kernel
theorem dX8_step_436 : decode cX8_step 436 = .ok (.getfield 68, 3) := by decide +kernel
theorem dX8_step_439 : decode cX8_step 439 = .ok (.iload_n 3, 1) := by decide +kernel
theorem dX8_step_440 : decode cX8_step 440 = .ok (.iaload, 1) := by decide +kernel
theorem dX8_step_441 : decode cX8_step 441 = .ok (.iadd, 1) := by decide +kernel
theorem dX8_step_442 : decode cX8_step 442 = .ok (.iload 7, 2) := by decide +kernel
theorem dX8_step_444 : decode cX8_step 444 = .ok (.iastore, 1) := by decide +kernel
theorem dX8_step_445 : decode cX8_step 445 = .ok (.aload_n 0, 1) := by decide +kernel
theorem dX8_step_446 : decode cX8_step 446 = .ok (.getfield 68, 3) := by decide +kernel
theorem dX8_step_449 : decode cX8_step 449 = .ok (.iload_n 3, 1) := by decide +kernel
theorem dX8_step_450 : decode cX8_step 450 = .ok (.dup2, 1) := by decide +kernel
theorem dX8_step_451 : decode cX8_step 451 = .ok (.iaload, 1) := by decide +kernel
theorem dX8_step_452 : decode cX8_step 452 = .ok (.iconst 1, 1) := by decide +kernel
theorem dX8_step_453 : decode cX8_step 453 = .ok (.iadd, 1) := by decide +kernel
theorem dX8_step_454 : decode cX8_step 454 = .ok (.iastore, 1) := by decide +kernel
theorem dX8_step_455 : decode cX8_step 455 = .ok (.iconst 0, 1) := by decide +kernel
theorem dX8_step_456 : decode cX8_step 456 = .ok (.ireturn, 1) := by decide +kernel
theorem dX8_step_457 : decode cX8_step 457 = .ok (.aload_n 0, 1) := by decide +kernel
theorem dX8_step_458 : decode cX8_step 458 = .ok (.getfield 62, 3) := by decide +kernel
theorem dX8_step_461 : decode cX8_step 461 = .ok (.iload_n 3, 1) := by decide +kernel
theorem dX8_step_462 : decode cX8_step 462 = .ok (.iload 7, 2) := by decide +kernel
theorem dX8_step_464 : decode cX8_step 464 = .ok (.iastore, 1) := by decide +kernel
theorem dX8_step_465 : decode cX8_step 465 = .ok (.aload_n 0, 1) := by decide +kernel
theorem dX8_step_466 : decode cX8_step 466 = .ok (.getfield 47, 3) := by decide +kernel
theorem dX8_step_469 : decode cX8_step 469 = .ok (.iload_n 3, 1) := by decide +kernel
theorem dX8_step_470 : decode cX8_step 470 = .ok (.iconst 1, 1) := by decide +kernel
theorem dX8_step_471 : decode cX8_step 471 = .ok (.bastore, 1) := by decide +kernel
theorem dX8_step_472 : decode cX8_step 472 = .ok (.bipush 99, 2) := by decide +kernel
theorem dX8_step_474 : decode cX8_step 474 = .ok (.ireturn, 1) := by decide +kernel
theorem dX8_step_475 : decode cX8_step 475 = .ok (.iload 10, 2) := by decide +kernel
theorem dX8_step_477 : decode cX8_step 477 = .ok (.iload 8, 2) := by decide +kernel
theorem dX8_step_479 : decode cX8_step 479 = .ok (.if_icmp .le 7, 3) := by decide +kernel
theorem dX8_step_482 : decode cX8_step 482 = .ok (.iconst 4, 1) := by decide +kernel
theorem dX8_step_483 : decode cX8_step 483 = .ok (.goto 4, 3) := by decide +kernel
theorem dX8_step_486 : decode cX8_step 486 = .ok (.iconst 0, 1) := by decide +kernel
theorem dX8_step_487 : decode cX8_step 487 = .ok (.ireturn, 1) := by decide +kernel
theorem dX8_run_0 : decode cX8_run 0 = .ok (.aload_n 0, 1) := by decide +kernel
theorem dX8_run_1 : decode cX8_run 1 = .ok (.iconst 0, 1) := by decide +kernel
theorem dX8_run_2 : decode cX8_run 2 = .ok (.putfield 87, 3) := by decide +kernel
theorem dX8_run_5 : decode cX8_run 5 = .ok (.aload_n 0, 1) := by decide +kernel
theorem dX8_run_6 : decode cX8_run 6 = .ok (.iload_n 1, 1) := by decide +kernel
theorem dX8_run_7 : decode cX8_run 7 = .ok (.invokevirtual 116, 3) := by decide +kernel
theorem dX8_run_10 : decode cX8_run 10 = .ok (.ifCond .eq 11, 3) := by decide +kernel
theorem dX8_run_13 : decode cX8_run 13 = .ok (.aload_n 0, 1) := by decide +kernel
theorem dX8_run_14 : decode cX8_run 14 = .ok (.iload_n 2, 1) := by decide +kernel
theorem dX8_run_15 : decode cX8_run 15 = .ok (.invokevirtual 101, 3) := by decide +kernel
theorem dX8_run_18 : decode cX8_run 18 = .ok (.ifCond .ne 6, 3) := by decide +kernel
theorem dX8_run_21 : decode cX8_run 21 = .ok (.bipush (-2), 2) := by decide +kernel
theorem dX8_run_23 : decode cX8_run 23 = .ok (.ireturn, 1) := by decide +kernel
theorem dX8_run_24 : decode cX8_run 24 = .ok (.aload_n 0, 1) := by decide +kernel
theorem dX8_run_25 : decode cX8_run 25 = .ok (.iload_n 1, 1) := by decide +kernel
theorem dX8_run_26 : decode cX8_run 26 = .ok (.iload_n 2, 1) := by decide +kernel
theorem dX8_run_27 : decode cX8_run 27 = .ok (.invokevirtual 109, 3) := by decide +kernel
theorem dX8_run_30 : decode cX8_run 30 = .ok (.istore_n 3, 1) := by decide +kernel
theorem dX8_run_31 : decode cX8_run 31 = .ok (.aload_n 0, 1) := by decide +kernel
theorem dX8_run_32 : decode cX8_run 32 = .ok (.getfield 47, 3) := by decide +kernel
theorem dX8_run_35 : decode cX8_run 35 = .ok (.iload_n 1, 1) := by decide +kernel
theorem dX8_run_36 : decode cX8_run 36 = .ok (.baload, 1) := by decide +kernel
theorem dX8_run_37 : decode cX8_run 37 = .ok (.ifCond .ne 7, 3) := by decide +kernel
theorem dX8_run_40 : decode cX8_run 40 = .ok (.iload_n 3, 1) := by decide +kernel
theorem dX8_run_41 : decode cX8_run 41 = .ok (.ifCond .ne 6, 3) := by decide +kernel
theorem dX8_run_44 : decode cX8_run 44 = .ok (.bipush (-5), 2) := by decide +kernel
theorem dX8_run_46 : decode cX8_run 46 = .ok (.ireturn, 1) := by decide +kernel
theorem dX8_run_47 : decode cX8_run 47 = .ok (.aload_n 0, 1) := by decide +kernel
theorem dX8_run_48 : decode cX8_run 48 = .ok (.getfield 50, 3) := by decide +kernel
theorem dX8_run_51 : decode cX8_run 51 = .ok (.iload_n 1, 1) := by decide +kernel
theorem dX8_run_52 : decode cX8_run 52 = .ok (.iconst 1, 1) := by decide +kernel
theorem dX8_run_53 : decode cX8_run 53 = .ok (.bastore, 1) := by decide +kernel
theorem dX8_run_54 : decode cX8_run 54 = .ok (.aload_n 0, 1) := by decide +kernel
theorem dX8_run_55 : decode cX8_run 55 = .ok (.getfield 56, 3) := by decide +kernel
theorem dX8_run_58 : decode cX8_run 58 = .ok (.iload_n 1, 1) := by decide +kernel
theorem dX8_run_59 : decode cX8_run 59 = .ok (.iconst 0, 1) := by decide +kernel
theorem dX8_run_60 : decode cX8_run 60 = .ok (.iastore, 1) := by decide +kernel
theorem dX8_run_61 : decode cX8_run 61 = .ok (.aload_n 0, 1) := by decide +kernel
theorem dX8_run_62 : decode cX8_run 62 = .ok (.getfield 59, 3) := by decide +kernel
theorem dX8_run_65 : decode cX8_run 65 = .ok (.iload_n 1, 1) := by decide +kernel
theorem dX8_run_66 : decode cX8_run 66 = .ok (.iconst (-1), 1) := by decide +kernel
theorem dX8_run_67 : decode cX8_run 67 = .ok (.iastore, 1) := by decide +kernel
theorem dX8_run_68 : decode cX8_run 68 = .ok (.aload_n 0, 1) := by decide +kernel
theorem dX8_run_69 : decode cX8_run 69 = .ok (.getfield 62, 3) := by decide +kernel
theorem dX8_run_72 : decode cX8_run 72 = .ok (.iload_n 1, 1) := by decide +kernel
theorem dX8_run_73 : decode cX8_run 73 = .ok (.iconst (-1), 1) := by decide +kernel
theorem dX8_run_74 : decode cX8_run 74 = .ok (.iastore, 1) := by decide +kernel
theorem dX8_run_75 : decode cX8_run 75 = .ok (.aload_n 0, 1) := by decide +kernel
theorem dX8_run_76 : decode cX8_run 76 = .ok (.getfield 65, 3) := by decide +kernel
theorem dX8_run_79 : decode cX8_run 79 = .ok (.iload_n 1, 1) := by decide +kernel
theorem dX8_run_80 : decode cX8_run 80 = .ok (.iconst 0, 1) := by decide +kernel
theorem dX8_run_81 : decode cX8_run 81 = .ok (.iastore, 1) := by decide +kernel
theorem dX8_run_82 : decode cX8_run 82 = .ok (.aload_n 0, 1) := by decide +kernel
theorem dX8_run_83 : decode cX8_run 83 = .ok (.getfield 68, 3) := by decide +kernel
theorem dX8_run_86 : decode cX8_run 86 = .ok (.iload_n 1, 1) := by decide +kernel
theorem dX8_run_87 : decode cX8_run 87 = .ok (.iconst 0, 1) := by decide +kernel
theorem dX8_run_88 : decode cX8_run 88 = .ok (.iastore, 1) := by decide +kernel
theorem dX8_run_89 : decode cX8_run 89 = .ok (.aload_n 0, 1) := by decide +kernel
theorem dX8_run_90 : decode cX8_run 90 = .ok (.iconst 0, 1) := by decide +kernel
theorem dX8_run_91 : decode cX8_run 91 = .ok (.putfield 122, 3) := by decide +kernel
theorem dX8_run_94 : decode cX8_run 94 = .ok (.aload_n 0, 1) := by decide +kernel
theorem dX8_run_95 : decode cX8_run 95 = .ok (.iload_n 3, 1) := by decide +kernel
theorem dX8_run_96 : decode cX8_run 96 = .ok (.invokevirtual 125, 3) := by decide +kernel
theorem dX8_run_99 : decode cX8_run 99 = .ok (.istore 4, 2) := by decide +kernel
theorem dX8_run_101 : decode cX8_run 101 = .ok (.iload 4, 2) := by decide +kernel
theorem dX8_run_103 : decode cX8_run 103 = .ok (.ifCond .ne 142, 3) := by decide +kernel
theorem dX8_run_106 : decode cX8_run 106 = .ok (.aload_n 0, 1) := by decide +kernel
theorem dX8_run_107 : decode cX8_run 107 = .ok (.getfield 122, 3) := by decide +kernel
theorem dX8_run_110 : decode cX8_run 110 = .ok (.ifCond .le 135, 3) := by decide +kernel
theorem dX8_run_113 : decode cX8_run 113 = .ok (.aload_n 0, 1) := by decide +kernel
theorem dX8_run_114 : decode cX8_run 114 = .ok (.getfield 122, 3) := by decide +kernel
theorem dX8_run_117 : decode cX8_run 117 = .ok (.iconst 1, 1) := by decide +kernel
theorem dX8_run_118 : decode cX8_run 118 = .ok (.isub, 1) := by decide +kernel
theorem dX8_run_119 : decode cX8_run 119 = .ok (.istore 5, 2) := by decide +kernel
theorem dX8_run_121 : decode cX8_run 121 = .ok (.aload_n 0, 1) := by decide +kernel
theorem dX8_run_122 : decode cX8_run 122 = .ok (.getfield 81, 3) := by decide +kernel
theorem dX8_run_125 : decode cX8_run 125 = .ok (.iload 5, 2) := by decide +kernel
theorem dX8_run_127 : decode cX8_run 127 = .ok (.iaload, 1) := by decide +kernel
theorem dX8_run_128 : decode cX8_run 128 = .ok (.istore 6, 2) := by decide +kernel
theorem dX8_run_130 : decode cX8_run 130 = .ok (.iload 6, 2) := by decide +kernel
theorem dX8_run_132 : decode cX8_run 132 = .ok (.aload_n 0, 1) := by decide +kernel
theorem dX8_run_133 : decode cX8_run 133 = .ok (.getfield 35, 3) := by decide +kernel
theorem dX8_run_136 : decode cX8_run 136 = .ok (.aload_n 0, 1) := by decide +kernel
theorem dX8_run_137 : decode cX8_run 137 = .ok (.getfield 78, 3) := by decide +kernel
theorem dX8_run_140 : decode cX8_run 140 = .ok (.iload 5, 2) := by decide +kernel
theorem dX8_run_142 : decode cX8_run 142 = .ok (.iaload, 1) := by decide +kernel
theorem dX8_run_143 : decode cX8_run 143 = .ok (.iaload, 1) := by decide +kernel
theorem dX8_run_144 : decode cX8_run 144 = .ok (.if_icmp .le 16, 3) := by decide +kernel
theorem dX8_run_147 : decode cX8_run 147 = .ok (.aload_n 0, 1) := by decide +kernel
theorem dX8_run_148 : decode cX8_run 148 = .ok (.dup, 1) := by decide +kernel
theorem dX8_run_149 : decode cX8_run 149 = .ok (.getfield 122, 3) := by decide +kernel
theorem dX8_run_152 : decode cX8_run 152 = .ok (.iconst 1, 1) := by decide +kernel
theorem dX8_run_153 : decode cX8_run 153 = .ok (.isub, 1) := by decide +kernel
theorem dX8_run_154 : decode cX8_run 154 = .ok (.putfield 122, 3) := by decide +kernel
theorem dX8_run_157 : decode cX8_run 157 = .ok (.goto (-56), 3) := by decide +kernel
theorem dX8_run_160 : decode cX8_run 160 = .ok (.aload_n 0, 1) := by decide +kernel
theorem dX8_run_161 : decode cX8_run 161 = .ok (.getfield 59, 3) := by decide +kernel
theorem dX8_run_164 : decode cX8_run 164 = .ok (.iload_n 1, 1) := by decide +kernel
theorem dX8_run_165 : decode cX8_run 165 = .ok (.aload_n 0, 1) := by decide +kernel
theorem dX8_run_166 : decode cX8_run 166 = .ok (.getfield 32, 3) := by decide +kernel
theorem dX8_run_169 : decode cX8_run 169 = .ok (.aload_n 0, 1) := by decide +kernel
theorem dX8_run_170 : decode cX8_run 170 = .ok (.getfield 78, 3) := by decide +kernel
theorem dX8_run_173 : decode cX8_run 173 = .ok (.iload 5, 2) := by decide +kernel
theorem dX8_run_175 : decode cX8_run 175 = .ok (.iaload, 1) := by decide +kernel
theorem dX8_run_176 : decode cX8_run 176 = .ok (.iaload, 1) := by decide +kernel
theorem dX8_run_177 : decode cX8_run 177 = .ok (.iastore, 1) := by decide +kernel
theorem dX8_run_178 : decode cX8_run 178 = .ok (.aload_n 0, 1) := by decide +kernel
theorem dX8_run_179 : decode cX8_run 179 = .ok (.getfield 81, 3) := by decide +kernel
theorem dX8_run_182 : decode cX8_run 182 = .ok (.iload 5, 2) := by decide +kernel
theorem dX8_run_184 : decode cX8_run 184 = .ok (.iload 6, 2) := by decide +kernel
theorem dX8_run_186 : decode cX8_run 186 = .ok (.iconst 1, 1) := by decide +kernel
theorem dX8_run_187 : decode cX8_run 187 = .ok (.iadd, 1) := by decide +kernel
theorem dX8_run_188 : decode cX8_run 188 = .ok (.iastore, 1) := by decide +kernel
theorem dX8_run_189 : decode cX8_run 189 = .ok (.aload_n 0, 1) := by decide +kernel
theorem dX8_run_190 : decode cX8_run 190 = .ok (.getfield 65, 3) := by decide +kernel
theorem dX8_run_193 : decode cX8_run 193 = .ok (.iload_n 1, 1) := by decide +kernel
theorem dX8_run_194 : decode cX8_run 194 = .ok (.iaload, 1) := by decide +kernel
theorem dX8_run_195 : decode cX8_run 195 = .ok (.sipush 1000, 3) := by decide +kernel
theorem dX8_run_198 : decode cX8_run 198 = .ok (.if_icmp .ne 8, 3) := by decide +kernel
theorem dX8_run_201 : decode cX8_run 201 = .ok (.bipush 7, 2) := by decide +kernel
theorem dX8_run_203 : decode cX8_run 203 = .ok (.goto 4, 3) := by decide +kernel
theorem dX8_run_206 : decode cX8_run 206 = .ok (.iconst 0, 1) := by decide +kernel
theorem dX8_run_207 : decode cX8_run 207 = .ok (.istore 4, 2) := by decide +kernel
theorem dX8_run_209 : decode cX8_run 209 = .ok (.iload 4, 2) := by decide +kernel
theorem dX8_run_211 : decode cX8_run 211 = .ok (.ifCond .le 6, 3) := by decide +kernel
theorem dX8_run_214 : decode cX8_run 214 = .ok (.goto (-113), 3) := by decide +kernel
theorem dX8_run_217 : decode cX8_run 217 = .ok (.aload_n 0, 1) := by decide +kernel
theorem dX8_run_218 : decode cX8_run 218 = .ok (.getfield 65, 3) := by decide +kernel
theorem dX8_run_221 : decode cX8_run 221 = .ok (.iload_n 1, 1) := by decide +kernel
theorem dX8_run_222 : decode cX8_run 222 = .ok (.dup2, 1) := by decide +kernel
theorem dX8_run_223 : decode cX8_run 223 = .ok (.iaload, 1) := by decide +kernel
theorem dX8_run_224 : decode cX8_run 224 = .ok (.iconst 1, 1) := by decide +kernel
theorem dX8_run_225 : decode cX8_run 225 = .ok (.iadd, 1) := by decide +kernel
theorem dX8_run_226 : decode cX8_run 226 = .ok (.iastore, 1) := by decide +kernel
theorem dX8_run_227 : decode cX8_run 227 = .ok (.aload_n 0, 1) := by decide +kernel
theorem dX8_run_228 : decode cX8_run 228 = .ok (.aload_n 0, 1) := by decide +kernel
theorem dX8_run_229 : decode cX8_run 229 = .ok (.getfield 78, 3) := by decide +kernel
theorem dX8_run_232 : decode cX8_run 232 = .ok (.iload 5, 2) := by decide +kernel
theorem dX8_run_234 : decode cX8_run 234 = .ok (.iaload, 1) := by decide +kernel
theorem dX8_run_235 : decode cX8_run 235 = .ok (.iload 6, 2) := by decide +kernel
theorem dX8_run_237 : decode cX8_run 237 = .ok (.invokevirtual 132, 3) := by decide +kernel
theorem dX8_run_240 : decode cX8_run 240 = .ok (.istore 4, 2) := by decide +kernel
theorem dX8_run_242 : decode cX8_run 242 = .ok (.goto (-141), 3) := by decide +kernel
theorem dX8_run_245 : decode cX8_run 245 = .ok (.iload 4, 2) := by decide +kernel
theorem dX8_run_247 : decode cX8_run 247 = .ok (.iconst 5, 1) := by decide +kernel
theorem dX8_run_248 : decode cX8_run 248 = .ok (.if_icmp .ne 25, 3) := by decide +kernel
theorem dX8_run_251 : decode cX8_run 251 = .ok (.aload_n 0, 1) := by decide +kernel
theorem dX8_run_252 : decode cX8_run 252 = .ok (.getfield 59, 3) := by decide +kernel
theorem dX8_run_255 : decode cX8_run 255 = .ok (.iload_n 1, 1) := by decide +kernel
theorem dX8_run_256 : decode cX8_run 256 = .ok (.aload_n 0, 1) := by decide +kernel
theorem dX8_run_257 : decode cX8_run 257 = .ok (.getfield 32, 3) := by decide +kernel
theorem dX8_run_260 : decode cX8_run 260 = .ok (.aload_n 0, 1) := by decide +kernel
theorem dX8_run_261 : decode cX8_run 261 = .ok (.getfield 78, 3) := by decide +kernel
theorem dX8_run_264 : decode cX8_run 264 = .ok (.aload_n 0, 1) := by decide +kernel
theorem dX8_run_265 : decode cX8_run 265 = .ok (.getfield 122, 3) := by decide +kernel
theorem dX8_run_268 : decode cX8_run 268 = .ok (.iconst 1, 1) := by decide +kernel
theorem dX8_run_269 : decode cX8_run 269 = .ok (.isub, 1) := by decide +kernel
theorem dX8_run_270 : decode cX8_run 270 = .ok (.iaload, 1) := by decide +kernel
theorem dX8_run_271 : decode cX8_run 271 = .ok (.iaload, 1) := by decide +kernel
theorem dX8_run_272 : decode cX8_run 272 = .ok (.iastore, 1) := by decide +kernel
theorem dX8_run_273 : decode cX8_run 273 = .ok (.iload 4, 2) := by decide +kernel
theorem dX8_run_275 : decode cX8_run 275 = .ok (.ifCond .ne 10, 3) := by decide +kernel
theorem dX8_run_278 : decode cX8_run 278 = .ok (.aload_n 0, 1) := by decide +kernel
theorem dX8_run_279 : decode cX8_run 279 = .ok (.getfield 59, 3) := by decide +kernel
theorem dX8_run_282 : decode cX8_run 282 = .ok (.iload_n 1, 1) := by decide +kernel
theorem dX8_run_283 : decode cX8_run 283 = .ok (.iconst (-1), 1) := by decide +kernel
theorem dX8_run_284 : decode cX8_run 284 = .ok (.iastore, 1) := by decide +kernel
theorem dX8_run_285 : decode cX8_run 285 = .ok (.aload_n 0, 1) := by decide +kernel
theorem dX8_run_286 : decode cX8_run 286 = .ok (.getfield 56, 3) := by decide +kernel
theorem dX8_run_289 : decode cX8_run 289 = .ok (.iload_n 1, 1) := by decide +kernel
theorem dX8_run_290 : decode cX8_run 290 = .ok (.iload 4, 2) := by decide +kernel
theorem dX8_run_292 : decode cX8_run 292 = .ok (.bipush 99, 2) := by decide +kernel
theorem dX8_run_294 : decode cX8_run 294 = .ok (.if_icmp .ne 7, 3) := by decide +kernel
theorem dX8_run_297 : decode cX8_run 297 = .ok (.iconst 0, 1) := by decide +kernel
theorem dX8_run_298 : decode cX8_run 298 = .ok (.goto 5, 3) := by decide +kernel
theorem dX8_run_301 : decode cX8_run 301 = .ok (.iload 4, 2) := by decide +kernel
theorem dX8_run_303 : decode cX8_run 303 = .ok (.iastore, 1) := by decide +kernel
theorem dX8_run_304 : decode cX8_run 304 = .ok (.iload 4, 2) := by decide +kernel
theorem dX8_run_306 : decode cX8_run 306 = .ok (.ifCond .eq 10, 3) := by decide +kernel
theorem dX8_run_309 : decode cX8_run 309 = .ok (.iload 4, 2) := by decide +kernel
theorem dX8_run_311 : decode cX8_run 311 = .ok (.bipush 99, 2) := by decide +kernel
theorem dX8_run_313 : decode cX8_run 313 = .ok (.if_icmp .ne 7, 3) := by decide +kernel
theorem dX8_run_316 : decode cX8_run 316 = .ok (.iconst 1, 1) := by decide +kernel
theorem dX8_run_317 : decode cX8_run 317 = .ok (.goto 4, 3) := by decide +kernel
theorem dX8_run_320 : decode cX8_run 320 = .ok (.iconst 2, 1) := by decide +kernel
theorem dX8_run_321 : decode cX8_run 321 = .ok (.ireturn, 1) := by decide +kernel
theorem dX8_at_0 : decode cX8_at 0 = .ok (.aload_n 0, 1) := by decide +kernel
theorem dX8_at_1 : decode cX8_at 1 = .ok (.iload_n 1, 1) := by decide +kernel
theorem dX8_at_2 : decode cX8_at 2 = .ok (.invokevirtual 116, 3) := by decide +kernel
theorem dX8_at_5 : decode cX8_at 5 = .ok (.ifCond .eq 52, 3) := by decide +kernel
theorem dX8_at_8 : decode cX8_at 8 = .ok (.aload_n 0, 1) := by decide +kernel
theorem dX8_at_9 : decode cX8_at 9 = .ok (.iload_n 2, 1) := by decide +kernel
theorem dX8_at_10 : decode cX8_at 10 = .ok (.invokevirtual 101, 3) := by decide +kernel
theorem dX8_at_13 : decode cX8_at 13 = .ok (.ifCond .eq 44, 3) := by decide +kernel
theorem dX8_at_16 : decode cX8_at 16 = .ok (.aload_n 0, 1) := by decide +kernel
theorem dX8_at_17 : decode cX8_at 17 = .ok (.iload_n 1, 1) := by decide +kernel
theorem dX8_at_18 : decode cX8_at 18 = .ok (.iload_n 2, 1) := by decide +kernel
theorem dX8_at_19 : decode cX8_at 19 = .ok (.invokevirtual 109, 3) := by decide +kernel
theorem dX8_at_22 : decode cX8_at 22 = .ok (.ifCond .le 35, 3) := by decide +kernel
theorem dX8_at_25 : decode cX8_at 25 = .ok (.aload_n 0, 1) := by decide +kernel
theorem dX8_at_26 : decode cX8_at 26 = .ok (.getfield 41, 3) := by decide +kernel
theorem dX8_at_29 : decode cX8_at 29 = .ok (.aload_n 0, 1) := by decide +kernel
theorem dX8_at_30 : decode cX8_at 30 = .ok (.iload_n 1, 1) := by decide +kernel
theorem dX8_at_31 : decode cX8_at 31 = .ok (.iload_n 2, 1) := by decide +kernel
theorem dX8_at_32 : decode cX8_at 32 = .ok (.invokevirtual 109, 3) := by decide +kernel
theorem dX8_at_35 : decode cX8_at 35 = .ok (.baload, 1) := by decide +kernel
theorem dX8_at_36 : decode cX8_at 36 = .ok (.ifCond .eq 21, 3) := by decide +kernel
theorem dX8_at_39 : decode cX8_at 39 = .ok (.iload_n 3, 1) := by decide +kernel
theorem dX8_at_40 : decode cX8_at 40 = .ok (.ifCond .lt 17, 3) := by decide +kernel
theorem dX8_at_43 : decode cX8_at 43 = .ok (.iload_n 3, 1) := by decide +kernel
theorem dX8_at_44 : decode cX8_at 44 = .ok (.aload_n 0, 1) := by decide +kernel
theorem dX8_at_45 : decode cX8_at 45 = .ok (.getfield 7, 3) := by decide +kernel
theorem dX8_at_48 : decode cX8_at 48 = .ok (.iload_n 2, 1) := by decide +kernel
theorem dX8_at_49 : decode cX8_at 49 = .ok (.iaload, 1) := by decide +kernel
theorem dX8_at_50 : decode cX8_at 50 = .ok (.if_icmp .ge 7, 3) := by decide +kernel
theorem dX8_at_53 : decode cX8_at 53 = .ok (.iconst 1, 1) := by decide +kernel
theorem dX8_at_54 : decode cX8_at 54 = .ok (.goto 4, 3) := by decide +kernel
theorem dX8_at_57 : decode cX8_at 57 = .ok (.iconst 0, 1) := by decide +kernel
theorem dX8_at_58 : decode cX8_at 58 = .ok (.istore 4, 2) := by decide +kernel
theorem dX8_at_60 : decode cX8_at 60 = .ok (.aload_n 0, 1) := by decide +kernel
theorem dX8_at_61 : decode cX8_at 61 = .ok (.iload 4, 2) := by decide +kernel
theorem dX8_at_63 : decode cX8_at 63 = .ok (.ifCond .eq 7, 3) := by decide +kernel
theorem dX8_at_66 : decode cX8_at 66 = .ok (.iconst 0, 1) := by decide +kernel
theorem dX8_at_67 : decode cX8_at 67 = .ok (.goto 4, 3) := by decide +kernel
theorem dX8_at_70 : decode cX8_at 70 = .ok (.iconst 1, 1) := by decide +kernel
theorem dX8_at_71 : decode cX8_at 71 = .ok (.putfield 87, 3) := by decide +kernel
theorem dX8_at_74 : decode cX8_at 74 = .ok (.iload 4, 2) := by decide +kernel
theorem dX8_at_76 : decode cX8_at 76 = .ok (.ifCond .eq 30, 3) := by decide +kernel
theorem dX8_at_79 : decode cX8_at 79 = .ok (.aload_n 0, 1) := by decide +kernel
theorem dX8_at_80 : decode cX8_at 80 = .ok (.getfield 71, 3) := by decide +kernel
theorem dX8_at_83 : decode cX8_at 83 = .ok (.sipush 1200, 3) := by decide +kernel
theorem dX8_at_86 : decode cX8_at 86 = .ok (.iload_n 1, 1) := by decide +kernel
theorem dX8_at_87 : decode cX8_at 87 = .ok (.imul, 1) := by decide +kernel
theorem dX8_at_88 : decode cX8_at 88 = .ok (.sipush 1200, 3) := by decide +kernel
theorem dX8_at_91 : decode cX8_at 91 = .ok (.isub, 1) := by decide +kernel
theorem dX8_at_92 : decode cX8_at 92 = .ok (.bipush 100, 2) := by decide +kernel
theorem dX8_at_94 : decode cX8_at 94 = .ok (.iload_n 2, 1) := by decide +kernel
theorem dX8_at_95 : decode cX8_at 95 = .ok (.imul, 1) := by decide +kernel
theorem dX8_at_96 : decode cX8_at 96 = .ok (.iadd, 1) := by decide +kernel
theorem dX8_at_97 : decode cX8_at 97 = .ok (.bipush 100, 2) := by decide +kernel
theorem dX8_at_99 : decode cX8_at 99 = .ok (.isub, 1) := by decide +kernel
theorem dX8_at_100 : decode cX8_at 100 = .ok (.iload_n 3, 1) := by decide +kernel
theorem dX8_at_101 : decode cX8_at 101 = .ok (.iadd, 1) := by decide +kernel
theorem dX8_at_102 : decode cX8_at 102 = .ok (.baload, 1) := by decide +kernel
theorem dX8_at_103 : decode cX8_at 103 = .ok (.goto 4, 3) := by decide +kernel
theorem dX8_at_106 : decode cX8_at 106 = .ok (.iconst 0, 1) := by decide +kernel
theorem dX8_at_107 : decode cX8_at 107 = .ok (.ireturn, 1) := by decide +kernel
theorem dX8_raised_0 : decode cX8_raised 0 = .ok (.aload_n 0, 1) := by decide +kernel
theorem dX8_raised_1 : decode cX8_raised 1 = .ok (.iconst 0, 1) := by decide +kernel
theorem dX8_raised_2 : decode cX8_raised 2 = .ok (.putfield 87, 3) := by decide +kernel
theorem dX8_raised_5 : decode cX8_raised 5 = .ok (.aload_n 0, 1) := by decide +kernel
theorem dX8_raised_6 : decode cX8_raised 6 = .ok (.iload_n 1, 1) := by decide +kernel
theorem dX8_raised_7 : decode cX8_raised 7 = .ok (.invokevirtual 116, 3) := by decide +kernel
theorem dX8_raised_10 : decode cX8_raised 10 = .ok (.ifCond .eq 12, 3) := by decide +kernel
theorem dX8_raised_13 : decode cX8_raised 13 = .ok (.aload_n 0, 1) := by decide +kernel
theorem dX8_raised_14 : decode cX8_raised 14 = .ok (.getfield 56, 3) := by decide +kernel
theorem dX8_raised_17 : decode cX8_raised 17 = .ok (.iload_n 1, 1) := by decide +kernel
theorem dX8_raised_18 : decode cX8_raised 18 = .ok (.iaload, 1) := by decide +kernel
theorem dX8_raised_19 : decode cX8_raised 19 = .ok (.goto 5, 3) := by decide +kernel
theorem dX8_raised_22 : decode cX8_raised 22 = .ok (.bipush (-2), 2) := by decide +kernel
theorem dX8_raised_24 : decode cX8_raised 24 = .ok (.ireturn, 1) := by decide +kernel
theorem dX8_told_0 : decode cX8_told 0 = .ok (.aload_n 0, 1) := by decide +kernel
theorem dX8_told_1 : decode cX8_told 1 = .ok (.iconst 0, 1) := by decide +kernel
theorem dX8_told_2 : decode cX8_told 2 = .ok (.putfield 87, 3) := by decide +kernel
theorem dX8_told_5 : decode cX8_told 5 = .ok (.aload_n 0, 1) := by decide +kernel
theorem dX8_told_6 : decode cX8_told 6 = .ok (.iload_n 1, 1) := by decide +kernel
theorem dX8_told_7 : decode cX8_told 7 = .ok (.invokevirtual 116, 3) := by decide +kernel
theorem dX8_told_10 : decode cX8_told 10 = .ok (.ifCond .ne 6, 3) := by decide +kernel
theorem dX8_told_13 : decode cX8_told 13 = .ok (.bipush (-2), 2) := by decide +kernel
theorem dX8_told_15 : decode cX8_told 15 = .ok (.ireturn, 1) := by decide +kernel
theorem dX8_told_16 : decode cX8_told 16 = .ok (.aload_n 0, 1) := by decide +kernel
theorem dX8_told_17 : decode cX8_told 17 = .ok (.getfield 50, 3) := by decide +kernel
theorem dX8_told_20 : decode cX8_told 20 = .ok (.iload_n 1, 1) := by decide +kernel
theorem dX8_told_21 : decode cX8_told 21 = .ok (.baload, 1) := by decide +kernel
theorem dX8_told_22 : decode cX8_told 22 = .ok (.ifCond .ne 5, 3) := by decide +kernel
theorem dX8_told_25 : decode cX8_told 25 = .ok (.iconst (-1), 1) := by decide +kernel
theorem dX8_told_26 : decode cX8_told 26 = .ok (.ireturn, 1) := by decide +kernel
theorem dX8_told_27 : decode cX8_told 27 = .ok (.iload_n 2, 1) := by decide +kernel
theorem dX8_told_28 : decode cX8_told 28 = .ok (.tableswitch 60 0 3 #[32, 39, 46, 53], 32) := by decide +kernel
theorem dX8_told_60 : decode cX8_told 60 = .ok (.aload_n 0, 1) := by decide +kernel
theorem dX8_told_61 : decode cX8_told 61 = .ok (.getfield 59, 3) := by decide +kernel
theorem dX8_told_64 : decode cX8_told 64 = .ok (.iload_n 1, 1) := by decide +kernel
theorem dX8_told_65 : decode cX8_told 65 = .ok (.iaload, 1) := by decide +kernel
theorem dX8_told_66 : decode cX8_told 66 = .ok (.ireturn, 1) := by decide +kernel
theorem dX8_told_67 : decode cX8_told 67 = .ok (.aload_n 0, 1) := by decide +kernel
theorem dX8_told_68 : decode cX8_told 68 = .ok (.getfield 62, 3) := by decide +kernel
theorem dX8_told_71 : decode cX8_told 71 = .ok (.iload_n 1, 1) := by decide +kernel
theorem dX8_told_72 : decode cX8_told 72 = .ok (.iaload, 1) := by decide +kernel
theorem dX8_told_73 : decode cX8_told 73 = .ok (.ireturn, 1) := by decide +kernel
theorem dX8_told_74 : decode cX8_told 74 = .ok (.aload_n 0, 1) := by decide +kernel
theorem dX8_told_75 : decode cX8_told 75 = .ok (.getfield 65, 3) := by decide +kernel
theorem dX8_told_78 : decode cX8_told 78 = .ok (.iload_n 1, 1) := by decide +kernel
theorem dX8_told_79 : decode cX8_told 79 = .ok (.iaload, 1) := by decide +kernel
theorem dX8_told_80 : decode cX8_told 80 = .ok (.ireturn, 1) := by decide +kernel
theorem dX8_told_81 : decode cX8_told 81 = .ok (.aload_n 0, 1) := by decide +kernel
theorem dX8_told_82 : decode cX8_told 82 = .ok (.getfield 68, 3) := by decide +kernel
theorem dX8_told_85 : decode cX8_told 85 = .ok (.iload_n 1, 1) := by decide +kernel
theorem dX8_told_86 : decode cX8_told 86 = .ok (.iaload, 1) := by decide +kernel
theorem dX8_told_87 : decode cX8_told 87 = .ok (.ireturn, 1) := by decide +kernel
theorem dX8_told_88 : decode cX8_told 88 = .ok (.iconst (-1), 1) := by decide +kernel
theorem dX8_told_89 : decode cX8_told 89 = .ok (.ireturn, 1) := by decide +kernel
end
section
theorem dX8_mark_0 : decode cX8_mark 0 = .ok (.aload_n 0, 1) := by decide +kernel
theorem dX8_mark_1 : decode cX8_mark 1 = .ok (.iconst 0, 1) := by decide +kernel
theorem dX8_mark_2 : decode cX8_mark 2 = .ok (.putfield 87, 3) := by decide +kernel
theorem dX8_mark_5 : decode cX8_mark 5 = .ok (.aload_n 0, 1) := by decide +kernel
theorem dX8_mark_6 : decode cX8_mark 6 = .ok (.iload_n 1, 1) := by decide +kernel
theorem dX8_mark_7 : decode cX8_mark 7 = .ok (.invokevirtual 116, 3) := by decide +kernel
theorem dX8_mark_10 : decode cX8_mark 10 = .ok (.ifCond .eq 34, 3) := by decide +kernel
theorem dX8_mark_13 : decode cX8_mark 13 = .ok (.iload_n 2, 1) := by decide +kernel
theorem dX8_mark_14 : decode cX8_mark 14 = .ok (.ifCond .lt 30, 3) := by decide +kernel
theorem dX8_mark_17 : decode cX8_mark 17 = .ok (.iload_n 2, 1) := by decide +kernel
theorem dX8_mark_18 : decode cX8_mark 18 = .ok (.aload_n 0, 1) := by decide +kernel
theorem dX8_mark_19 : decode cX8_mark 19 = .ok (.getfield 68, 3) := by decide +kernel
theorem dX8_mark_22 : decode cX8_mark 22 = .ok (.iload_n 1, 1) := by decide +kernel
theorem dX8_mark_23 : decode cX8_mark 23 = .ok (.iaload, 1) := by decide +kernel
theorem dX8_mark_24 : decode cX8_mark 24 = .ok (.if_icmp .ge 20, 3) := by decide +kernel
theorem dX8_mark_27 : decode cX8_mark 27 = .ok (.aload_n 0, 1) := by decide +kernel
theorem dX8_mark_28 : decode cX8_mark 28 = .ok (.getfield 75, 3) := by decide +kernel
theorem dX8_mark_31 : decode cX8_mark 31 = .ok (.bipush 100, 2) := by decide +kernel
theorem dX8_mark_33 : decode cX8_mark 33 = .ok (.iload_n 1, 1) := by decide +kernel
theorem dX8_mark_34 : decode cX8_mark 34 = .ok (.imul, 1) := by decide +kernel
theorem dX8_mark_35 : decode cX8_mark 35 = .ok (.bipush 100, 2) := by decide +kernel
theorem dX8_mark_37 : decode cX8_mark 37 = .ok (.isub, 1) := by decide +kernel
theorem dX8_mark_38 : decode cX8_mark 38 = .ok (.iload_n 2, 1) := by decide +kernel
theorem dX8_mark_39 : decode cX8_mark 39 = .ok (.iadd, 1) := by decide +kernel
theorem dX8_mark_40 : decode cX8_mark 40 = .ok (.iaload, 1) := by decide +kernel
theorem dX8_mark_41 : decode cX8_mark 41 = .ok (.goto 4, 3) := by decide +kernel
theorem dX8_mark_44 : decode cX8_mark 44 = .ok (.iconst (-1), 1) := by decide +kernel
theorem dX8_mark_45 : decode cX8_mark 45 = .ok (.ireturn, 1) := by decide +kernel
theorem dX8_u1_0 : decode cX8_u1 0 = .ok (.aload_n 0, 1) := by decide +kernel
theorem dX8_u1_1 : decode cX8_u1 1 = .ok (.getfield 84, 3) := by decide +kernel
theorem dX8_u1_4 : decode cX8_u1 4 = .ok (.aload_n 0, 1) := by decide +kernel
theorem dX8_u1_5 : decode cX8_u1 5 = .ok (.getfield 135, 3) := by decide +kernel
theorem dX8_u1_8 : decode cX8_u1 8 = .ok (.iload_n 1, 1) := by decide +kernel
theorem dX8_u1_9 : decode cX8_u1 9 = .ok (.sipush 255, 3) := by decide +kernel
theorem dX8_u1_12 : decode cX8_u1 12 = .ok (.iand, 1) := by decide +kernel
theorem dX8_u1_13 : decode cX8_u1 13 = .ok (.iastore, 1) := by decide +kernel
theorem dX8_u1_14 : decode cX8_u1 14 = .ok (.aload_n 0, 1) := by decide +kernel
theorem dX8_u1_15 : decode cX8_u1 15 = .ok (.dup, 1) := by decide +kernel
theorem dX8_u1_16 : decode cX8_u1 16 = .ok (.getfield 135, 3) := by decide +kernel
theorem dX8_u1_19 : decode cX8_u1 19 = .ok (.iconst 1, 1) := by decide +kernel
theorem dX8_u1_20 : decode cX8_u1 20 = .ok (.iadd, 1) := by decide +kernel
theorem dX8_u1_21 : decode cX8_u1 21 = .ok (.putfield 135, 3) := by decide +kernel
theorem dX8_u1_24 : decode cX8_u1 24 = .ok (.return_, 1) := by decide +kernel
theorem dX8_u2_0 : decode cX8_u2 0 = .ok (.aload_n 0, 1) := by decide +kernel
theorem dX8_u2_1 : decode cX8_u2 1 = .ok (.iload_n 1, 1) := by decide +kernel
theorem dX8_u2_2 : decode cX8_u2 2 = .ok (.bipush 8, 2) := by decide +kernel
theorem dX8_u2_4 : decode cX8_u2 4 = .ok (.ishr, 1) := by decide +kernel
theorem dX8_u2_5 : decode cX8_u2 5 = .ok (.invokevirtual 138, 3) := by decide +kernel
theorem dX8_u2_8 : decode cX8_u2 8 = .ok (.aload_n 0, 1) := by decide +kernel
theorem dX8_u2_9 : decode cX8_u2 9 = .ok (.iload_n 1, 1) := by decide +kernel
theorem dX8_u2_10 : decode cX8_u2 10 = .ok (.invokevirtual 138, 3) := by decide +kernel
theorem dX8_u2_13 : decode cX8_u2 13 = .ok (.return_, 1) := by decide +kernel
theorem dX8_u4_0 : decode cX8_u4 0 = .ok (.aload_n 0, 1) := by decide +kernel
theorem dX8_u4_1 : decode cX8_u4 1 = .ok (.iload_n 1, 1) := by decide +kernel
theorem dX8_u4_2 : decode cX8_u4 2 = .ok (.bipush 16, 2) := by decide +kernel
theorem dX8_u4_4 : decode cX8_u4 4 = .ok (.ishr, 1) := by decide +kernel
theorem dX8_u4_5 : decode cX8_u4 5 = .ok (.invokevirtual 142, 3) := by decide +kernel
theorem dX8_u4_8 : decode cX8_u4 8 = .ok (.aload_n 0, 1) := by decide +kernel
theorem dX8_u4_9 : decode cX8_u4 9 = .ok (.iload_n 1, 1) := by decide +kernel
theorem dX8_u4_10 : decode cX8_u4 10 = .ok (.invokevirtual 142, 3) := by decide +kernel
theorem dX8_u4_13 : decode cX8_u4 13 = .ok (.return_, 1) := by decide +kernel
theorem dX8_utf_0 : decode cX8_utf 0 = .ok (.aload_n 0, 1) := by decide +kernel
theorem dX8_utf_1 : decode cX8_utf 1 = .ok (.iconst 1, 1) := by decide +kernel
theorem dX8_utf_2 : decode cX8_utf 2 = .ok (.invokevirtual 138, 3) := by decide +kernel
theorem dX8_utf_5 : decode cX8_utf 5 = .ok (.aload_n 0, 1) := by decide +kernel
theorem dX8_utf_6 : decode cX8_utf 6 = .ok (.getfield 135, 3) := by decide +kernel
theorem dX8_utf_9 : decode cX8_utf 9 = .ok (.istore 5, 2) := by decide +kernel
theorem dX8_utf_11 : decode cX8_utf 11 = .ok (.aload_n 0, 1) := by decide +kernel
theorem dX8_utf_12 : decode cX8_utf 12 = .ok (.iconst 0, 1) := by decide +kernel
theorem dX8_utf_13 : decode cX8_utf 13 = .ok (.invokevirtual 142, 3) := by decide +kernel
theorem dX8_utf_16 : decode cX8_utf 16 = .ok (.aload_n 0, 1) := by decide +kernel
theorem dX8_utf_17 : decode cX8_utf 17 = .ok (.lload_n 1, 1) := by decide +kernel
theorem dX8_utf_18 : decode cX8_utf 18 = .ok (.invokevirtual 145, 3) := by decide +kernel
theorem dX8_utf_21 : decode cX8_utf 21 = .ok (.aload_n 0, 1) := by decide +kernel
theorem dX8_utf_22 : decode cX8_utf 22 = .ok (.lload_n 3, 1) := by decide +kernel
theorem dX8_utf_23 : decode cX8_utf 23 = .ok (.invokevirtual 145, 3) := by decide +kernel
theorem dX8_utf_26 : decode cX8_utf 26 = .ok (.aload_n 0, 1) := by decide +kernel
theorem dX8_utf_27 : decode cX8_utf 27 = .ok (.getfield 84, 3) := by decide +kernel
theorem dX8_utf_30 : decode cX8_utf 30 = .ok (.iload 5, 2) := by decide +kernel
theorem dX8_utf_32 : decode cX8_utf 32 = .ok (.iconst 1, 1) := by decide +kernel
theorem dX8_utf_33 : decode cX8_utf 33 = .ok (.iadd, 1) := by decide +kernel
theorem dX8_utf_34 : decode cX8_utf 34 = .ok (.aload_n 0, 1) := by decide +kernel
theorem dX8_utf_35 : decode cX8_utf 35 = .ok (.getfield 135, 3) := by decide +kernel
theorem dX8_utf_38 : decode cX8_utf 38 = .ok (.iload 5, 2) := by decide +kernel
theorem dX8_utf_40 : decode cX8_utf 40 = .ok (.isub, 1) := by decide +kernel
theorem dX8_utf_41 : decode cX8_utf 41 = .ok (.iconst 2, 1) := by decide +kernel
theorem dX8_utf_42 : decode cX8_utf 42 = .ok (.isub, 1) := by decide +kernel
theorem dX8_utf_43 : decode cX8_utf 43 = .ok (.iastore, 1) := by decide +kernel
theorem dX8_utf_44 : decode cX8_utf 44 = .ok (.return_, 1) := by decide +kernel
theorem dX8_signs_0 : decode cX8_signs 0 = .ok (.bipush 56, 2) := by decide +kernel
theorem dX8_signs_2 : decode cX8_signs 2 = .ok (.istore_n 3, 1) := by decide +kernel
theorem dX8_signs_3 : decode cX8_signs 3 = .ok (.iload_n 3, 1) := by decide +kernel
theorem dX8_signs_4 : decode cX8_signs 4 = .ok (.ifCond .lt 29, 3) := by decide +kernel
theorem dX8_signs_7 : decode cX8_signs 7 = .ok (.lload_n 1, 1) := by decide +kernel
theorem dX8_signs_8 : decode cX8_signs 8 = .ok (.iload_n 3, 1) := by decide +kernel
theorem dX8_signs_9 : decode cX8_signs 9 = .ok (.lshr, 1) := by decide +kernel
theorem dX8_signs_10 : decode cX8_signs 10 = .ok (.ldc2_w 149, 3) := by decide +kernel
theorem dX8_signs_13 : decode cX8_signs 13 = .ok (.land, 1) := by decide +kernel
theorem dX8_signs_14 : decode cX8_signs 14 = .ok (.lconst 0, 1) := by decide +kernel
theorem dX8_signs_15 : decode cX8_signs 15 = .ok (.lcmp, 1) := by decide +kernel
theorem dX8_signs_16 : decode cX8_signs 16 = .ok (.ifCond .eq 11, 3) := by decide +kernel
theorem dX8_signs_19 : decode cX8_signs 19 = .ok (.aload_n 0, 1) := by decide +kernel
theorem dX8_signs_20 : decode cX8_signs 20 = .ok (.lload_n 1, 1) := by decide +kernel
theorem dX8_signs_21 : decode cX8_signs 21 = .ok (.iload_n 3, 1) := by decide +kernel
theorem dX8_signs_22 : decode cX8_signs 22 = .ok (.lshr, 1) := by decide +kernel
theorem dX8_signs_23 : decode cX8_signs 23 = .ok (.l2i, 1) := by decide +kernel
theorem dX8_signs_24 : decode cX8_signs 24 = .ok (.invokevirtual 138, 3) := by decide +kernel
theorem dX8_signs_27 : decode cX8_signs 27 = .ok (.iinc 3 (-8), 3) := by decide +kernel
theorem dX8_signs_30 : decode cX8_signs 30 = .ok (.goto (-27), 3) := by decide +kernel
theorem dX8_signs_33 : decode cX8_signs 33 = .ok (.return_, 1) := by decide +kernel
theorem dX8_pair_0 : decode cX8_pair 0 = .ok (.aload_n 0, 1) := by decide +kernel
theorem dX8_pair_1 : decode cX8_pair 1 = .ok (.iload_n 1, 1) := by decide +kernel
theorem dX8_pair_2 : decode cX8_pair 2 = .ok (.invokevirtual 138, 3) := by decide +kernel
theorem dX8_pair_5 : decode cX8_pair 5 = .ok (.aload_n 0, 1) := by decide +kernel
theorem dX8_pair_6 : decode cX8_pair 6 = .ok (.iload_n 2, 1) := by decide +kernel
theorem dX8_pair_7 : decode cX8_pair 7 = .ok (.invokevirtual 142, 3) := by decide +kernel
theorem dX8_pair_10 : decode cX8_pair 10 = .ok (.aload_n 0, 1) := by decide +kernel
theorem dX8_pair_11 : decode cX8_pair 11 = .ok (.iload_n 3, 1) := by decide +kernel
theorem dX8_pair_12 : decode cX8_pair 12 = .ok (.invokevirtual 142, 3) := by decide +kernel
theorem dX8_pair_15 : decode cX8_pair 15 = .ok (.return_, 1) := by decide +kernel
theorem dX8_classed_0 : decode cX8_classed 0 = .ok (.aload_n 0, 1) := by decide +kernel
theorem dX8_classed_1 : decode cX8_classed 1 = .ok (.bipush 7, 2) := by decide +kernel
theorem dX8_classed_3 : decode cX8_classed 3 = .ok (.invokevirtual 138, 3) := by decide +kernel
theorem dX8_classed_6 : decode cX8_classed 6 = .ok (.aload_n 0, 1) := by decide +kernel
theorem dX8_classed_7 : decode cX8_classed 7 = .ok (.iload_n 1, 1) := by decide +kernel
theorem dX8_classed_8 : decode cX8_classed 8 = .ok (.invokevirtual 142, 3) := by decide +kernel
theorem dX8_classed_11 : decode cX8_classed 11 = .ok (.return_, 1) := by decide +kernel
theorem dX8_named_0 : decode cX8_named 0 = .ok (.iload_n 1, 1) := by decide +kernel
theorem dX8_named_1 : decode cX8_named 1 = .ok (.bipush 10, 2) := by decide +kernel
theorem dX8_named_3 : decode cX8_named 3 = .ok (.if_icmp .ge 17, 3) := by decide +kernel
theorem dX8_named_6 : decode cX8_named 6 = .ok (.iload_n 0, 1) := by decide +kernel
theorem dX8_named_7 : decode cX8_named 7 = .ok (.i2l, 1) := by decide +kernel
theorem dX8_named_8 : decode cX8_named 8 = .ok (.bipush 8, 2) := by decide +kernel
theorem dX8_named_10 : decode cX8_named 10 = .ok (.lshl, 1) := by decide +kernel
theorem dX8_named_11 : decode cX8_named 11 = .ok (.bipush 48, 2) := by decide +kernel
theorem dX8_named_13 : decode cX8_named 13 = .ok (.iload_n 1, 1) := by decide +kernel
theorem dX8_named_14 : decode cX8_named 14 = .ok (.iadd, 1) := by decide +kernel
theorem dX8_named_15 : decode cX8_named 15 = .ok (.i2l, 1) := by decide +kernel
theorem dX8_named_16 : decode cX8_named 16 = .ok (.lor, 1) := by decide +kernel
theorem dX8_named_17 : decode cX8_named 17 = .ok (.goto 29, 3) := by decide +kernel
theorem dX8_named_20 : decode cX8_named 20 = .ok (.iload_n 0, 1) := by decide +kernel
theorem dX8_named_21 : decode cX8_named 21 = .ok (.i2l, 1) := by decide +kernel
theorem dX8_named_22 : decode cX8_named 22 = .ok (.bipush 16, 2) := by decide +kernel
theorem dX8_named_24 : decode cX8_named 24 = .ok (.lshl, 1) := by decide +kernel
theorem dX8_named_25 : decode cX8_named 25 = .ok (.bipush 48, 2) := by decide +kernel
theorem dX8_named_27 : decode cX8_named 27 = .ok (.iload_n 1, 1) := by decide +kernel
theorem dX8_named_28 : decode cX8_named 28 = .ok (.bipush 10, 2) := by decide +kernel
theorem dX8_named_30 : decode cX8_named 30 = .ok (.idiv, 1) := by decide +kernel
theorem dX8_named_31 : decode cX8_named 31 = .ok (.iadd, 1) := by decide +kernel
theorem dX8_named_32 : decode cX8_named 32 = .ok (.bipush 8, 2) := by decide +kernel
theorem dX8_named_34 : decode cX8_named 34 = .ok (.ishl, 1) := by decide +kernel
theorem dX8_named_35 : decode cX8_named 35 = .ok (.i2l, 1) := by decide +kernel
theorem dX8_named_36 : decode cX8_named 36 = .ok (.lor, 1) := by decide +kernel
theorem dX8_named_37 : decode cX8_named 37 = .ok (.bipush 48, 2) := by decide +kernel
theorem dX8_named_39 : decode cX8_named 39 = .ok (.iload_n 1, 1) := by decide +kernel
theorem dX8_named_40 : decode cX8_named 40 = .ok (.bipush 10, 2) := by decide +kernel
theorem dX8_named_42 : decode cX8_named 42 = .ok (.irem, 1) := by decide +kernel
theorem dX8_named_43 : decode cX8_named 43 = .ok (.iadd, 1) := by decide +kernel
theorem dX8_named_44 : decode cX8_named 44 = .ok (.i2l, 1) := by decide +kernel
theorem dX8_named_45 : decode cX8_named 45 = .ok (.lor, 1) := by decide +kernel
theorem dX8_named_46 : decode cX8_named 46 = .ok (.lreturn, 1) := by decide +kernel
theorem dX8_constants_0 : decode cX8_constants 0 = .ok (.aload_n 0, 1) := by decide +kernel
theorem dX8_constants_1 : decode cX8_constants 1 = .ok (.bipush 28, 2) := by decide +kernel
theorem dX8_constants_3 : decode cX8_constants 3 = .ok (.iload_n 2, 1) := by decide +kernel
theorem dX8_constants_4 : decode cX8_constants 4 = .ok (.iadd, 1) := by decide +kernel
theorem dX8_constants_5 : decode cX8_constants 5 = .ok (.invokevirtual 142, 3) := by decide +kernel
theorem dX8_constants_8 : decode cX8_constants 8 = .ok (.aload_n 0, 1) := by decide +kernel
theorem dX8_constants_9 : decode cX8_constants 9 = .ok (.bipush 80, 2) := by decide +kernel
theorem dX8_constants_11 : decode cX8_constants 11 = .ok (.iload_n 1, 1) := by decide +kernel
theorem dX8_constants_12 : decode cX8_constants 12 = .ok (.invokestatic 151, 3) := by decide +kernel
theorem dX8_constants_15 : decode cX8_constants 15 = .ok (.lconst 0, 1) := by decide +kernel
theorem dX8_constants_16 : decode cX8_constants 16 = .ok (.invokevirtual 155, 3) := by decide +kernel
theorem dX8_constants_19 : decode cX8_constants 19 = .ok (.aload_n 0, 1) := by decide +kernel
theorem dX8_constants_20 : decode cX8_constants 20 = .ok (.iconst 1, 1) := by decide +kernel
theorem dX8_constants_21 : decode cX8_constants 21 = .ok (.invokevirtual 159, 3) := by decide +kernel
theorem dX8_constants_24 : decode cX8_constants 24 = .ok (.aload_n 0, 1) := by decide +kernel
theorem dX8_constants_25 : decode cX8_constants 25 = .ok (.ldc2_w 162, 3) := by decide +kernel
theorem dX8_constants_28 : decode cX8_constants 28 = .ok (.ldc2_w 164, 3) := by decide +kernel
theorem dX8_constants_31 : decode cX8_constants 31 = .ok (.invokevirtual 155, 3) := by decide +kernel
theorem dX8_constants_34 : decode cX8_constants 34 = .ok (.aload_n 0, 1) := by decide +kernel
theorem dX8_constants_35 : decode cX8_constants 35 = .ok (.iconst 3, 1) := by decide +kernel
theorem dX8_constants_36 : decode cX8_constants 36 = .ok (.invokevirtual 159, 3) := by decide +kernel
theorem dX8_constants_39 : decode cX8_constants 39 = .ok (.aload_n 0, 1) := by decide +kernel
theorem dX8_constants_40 : decode cX8_constants 40 = .ok (.ldc2_w 166, 3) := by decide +kernel
theorem dX8_constants_43 : decode cX8_constants 43 = .ok (.lconst 0, 1) := by decide +kernel
theorem dX8_constants_44 : decode cX8_constants 44 = .ok (.invokevirtual 155, 3) := by decide +kernel
theorem dX8_constants_47 : decode cX8_constants 47 = .ok (.aload_n 0, 1) := by decide +kernel
theorem dX8_constants_48 : decode cX8_constants 48 = .ok (.ldc2_w 168, 3) := by decide +kernel
theorem dX8_constants_51 : decode cX8_constants 51 = .ok (.lconst 0, 1) := by decide +kernel
theorem dX8_constants_52 : decode cX8_constants 52 = .ok (.invokevirtual 155, 3) := by decide +kernel
theorem dX8_constants_55 : decode cX8_constants 55 = .ok (.aload_n 0, 1) := by decide +kernel
theorem dX8_constants_56 : decode cX8_constants 56 = .ok (.bipush 12, 2) := by decide +kernel
theorem dX8_constants_58 : decode cX8_constants 58 = .ok (.iconst 5, 1) := by decide +kernel
theorem dX8_constants_59 : decode cX8_constants 59 = .ok (.bipush 6, 2) := by decide +kernel
theorem dX8_constants_61 : decode cX8_constants 61 = .ok (.invokevirtual 170, 3) := by decide +kernel
theorem dX8_constants_64 : decode cX8_constants 64 = .ok (.aload_n 0, 1) := by decide +kernel
theorem dX8_constants_65 : decode cX8_constants 65 = .ok (.bipush 9, 2) := by decide +kernel
theorem dX8_constants_67 : decode cX8_constants 67 = .ok (.iconst 2, 1) := by decide +kernel
theorem dX8_constants_68 : decode cX8_constants 68 = .ok (.bipush 7, 2) := by decide +kernel
theorem dX8_constants_70 : decode cX8_constants 70 = .ok (.invokevirtual 170, 3) := by decide +kernel
theorem dX8_constants_73 : decode cX8_constants 73 = .ok (.aload_n 0, 1) := by decide +kernel
theorem dX8_constants_74 : decode cX8_constants 74 = .ok (.ldc2_w 174, 3) := by decide +kernel
theorem dX8_constants_77 : decode cX8_constants 77 = .ok (.lconst 0, 1) := by decide +kernel
theorem dX8_constants_78 : decode cX8_constants 78 = .ok (.invokevirtual 155, 3) := by decide +kernel
theorem dX8_constants_81 : decode cX8_constants 81 = .ok (.aload_n 0, 1) := by decide +kernel
theorem dX8_constants_82 : decode cX8_constants 82 = .ok (.bipush 9, 2) := by decide +kernel
theorem dX8_constants_84 : decode cX8_constants 84 = .ok (.invokevirtual 159, 3) := by decide +kernel
theorem dX8_constants_87 : decode cX8_constants 87 = .ok (.aload_n 0, 1) := by decide +kernel
theorem dX8_constants_88 : decode cX8_constants 88 = .ok (.ldc2_w 176, 3) := by decide +kernel
theorem dX8_constants_91 : decode cX8_constants 91 = .ok (.lconst 0, 1) := by decide +kernel
theorem dX8_constants_92 : decode cX8_constants 92 = .ok (.invokevirtual 155, 3) := by decide +kernel
theorem dX8_constants_95 : decode cX8_constants 95 = .ok (.aload_n 0, 1) := by decide +kernel
theorem dX8_constants_96 : decode cX8_constants 96 = .ok (.ldc2_w 178, 3) := by decide +kernel
theorem dX8_constants_99 : decode cX8_constants 99 = .ok (.lconst 0, 1) := by decide +kernel
theorem dX8_constants_100 : decode cX8_constants 100 = .ok (.invokevirtual 155, 3) := by decide +kernel
theorem dX8_constants_103 : decode cX8_constants 103 = .ok (.aload_n 0, 1) := by decide +kernel
theorem dX8_constants_104 : decode cX8_constants 104 = .ok (.bipush 12, 2) := by decide +kernel
theorem dX8_constants_106 : decode cX8_constants 106 = .ok (.bipush 11, 2) := by decide +kernel
theorem dX8_constants_108 : decode cX8_constants 108 = .ok (.bipush 12, 2) := by decide +kernel
theorem dX8_constants_110 : decode cX8_constants 110 = .ok (.invokevirtual 170, 3) := by decide +kernel
theorem dX8_constants_113 : decode cX8_constants 113 = .ok (.aload_n 0, 1) := by decide +kernel
theorem dX8_constants_114 : decode cX8_constants 114 = .ok (.bipush 10, 2) := by decide +kernel
theorem dX8_constants_116 : decode cX8_constants 116 = .ok (.bipush 10, 2) := by decide +kernel
theorem dX8_constants_118 : decode cX8_constants 118 = .ok (.bipush 13, 2) := by decide +kernel
theorem dX8_constants_120 : decode cX8_constants 120 = .ok (.invokevirtual 170, 3) := by decide +kernel
theorem dX8_constants_123 : decode cX8_constants 123 = .ok (.aload_n 0, 1) := by decide +kernel
theorem dX8_constants_124 : decode cX8_constants 124 = .ok (.ldc2_w 180, 3) := by decide +kernel
theorem dX8_constants_127 : decode cX8_constants 127 = .ok (.lconst 0, 1) := by decide +kernel
theorem dX8_constants_128 : decode cX8_constants 128 = .ok (.invokevirtual 155, 3) := by decide +kernel
theorem dX8_constants_131 : decode cX8_constants 131 = .ok (.aload_n 0, 1) := by decide +kernel
theorem dX8_constants_132 : decode cX8_constants 132 = .ok (.bipush 12, 2) := by decide +kernel
theorem dX8_constants_134 : decode cX8_constants 134 = .ok (.bipush 15, 2) := by decide +kernel
theorem dX8_constants_136 : decode cX8_constants 136 = .ok (.bipush 12, 2) := by decide +kernel
theorem dX8_constants_138 : decode cX8_constants 138 = .ok (.invokevirtual 170, 3) := by decide +kernel
theorem dX8_constants_141 : decode cX8_constants 141 = .ok (.aload_n 0, 1) := by decide +kernel
theorem dX8_constants_142 : decode cX8_constants 142 = .ok (.bipush 10, 2) := by decide +kernel
theorem dX8_constants_144 : decode cX8_constants 144 = .ok (.bipush 10, 2) := by decide +kernel
theorem dX8_constants_146 : decode cX8_constants 146 = .ok (.bipush 16, 2) := by decide +kernel
theorem dX8_constants_148 : decode cX8_constants 148 = .ok (.invokevirtual 170, 3) := by decide +kernel
theorem dX8_constants_151 : decode cX8_constants 151 = .ok (.aload_n 0, 1) := by decide +kernel
theorem dX8_constants_152 : decode cX8_constants 152 = .ok (.ldc2_w 182, 3) := by decide +kernel
theorem dX8_constants_155 : decode cX8_constants 155 = .ok (.lconst 0, 1) := by decide +kernel
theorem dX8_constants_156 : decode cX8_constants 156 = .ok (.invokevirtual 155, 3) := by decide +kernel
theorem dX8_constants_159 : decode cX8_constants 159 = .ok (.aload_n 0, 1) := by decide +kernel
theorem dX8_constants_160 : decode cX8_constants 160 = .ok (.bipush 12, 2) := by decide +kernel
theorem dX8_constants_162 : decode cX8_constants 162 = .ok (.bipush 18, 2) := by decide +kernel
theorem dX8_constants_164 : decode cX8_constants 164 = .ok (.bipush 12, 2) := by decide +kernel
theorem dX8_constants_166 : decode cX8_constants 166 = .ok (.invokevirtual 170, 3) := by decide +kernel
theorem dX8_constants_169 : decode cX8_constants 169 = .ok (.aload_n 0, 1) := by decide +kernel
theorem dX8_constants_170 : decode cX8_constants 170 = .ok (.bipush 10, 2) := by decide +kernel
theorem dX8_constants_172 : decode cX8_constants 172 = .ok (.bipush 10, 2) := by decide +kernel
theorem dX8_constants_174 : decode cX8_constants 174 = .ok (.bipush 19, 2) := by decide +kernel
theorem dX8_constants_176 : decode cX8_constants 176 = .ok (.invokevirtual 170, 3) := by decide +kernel
theorem dX8_constants_179 : decode cX8_constants 179 = .ok (.aload_n 0, 1) := by decide +kernel
theorem dX8_constants_180 : decode cX8_constants 180 = .ok (.ldc2_w 184, 3) := by decide +kernel
theorem dX8_constants_183 : decode cX8_constants 183 = .ok (.lconst 0, 1) := by decide +kernel
theorem dX8_constants_184 : decode cX8_constants 184 = .ok (.invokevirtual 155, 3) := by decide +kernel
theorem dX8_constants_187 : decode cX8_constants 187 = .ok (.aload_n 0, 1) := by decide +kernel
theorem dX8_constants_188 : decode cX8_constants 188 = .ok (.bipush 12, 2) := by decide +kernel
theorem dX8_constants_190 : decode cX8_constants 190 = .ok (.bipush 21, 2) := by decide +kernel
theorem dX8_constants_192 : decode cX8_constants 192 = .ok (.bipush 12, 2) := by decide +kernel
theorem dX8_constants_194 : decode cX8_constants 194 = .ok (.invokevirtual 170, 3) := by decide +kernel
theorem dX8_constants_197 : decode cX8_constants 197 = .ok (.aload_n 0, 1) := by decide +kernel
theorem dX8_constants_198 : decode cX8_constants 198 = .ok (.bipush 10, 2) := by decide +kernel
theorem dX8_constants_200 : decode cX8_constants 200 = .ok (.bipush 10, 2) := by decide +kernel
theorem dX8_constants_202 : decode cX8_constants 202 = .ok (.bipush 22, 2) := by decide +kernel
theorem dX8_constants_204 : decode cX8_constants 204 = .ok (.invokevirtual 170, 3) := by decide +kernel
theorem dX8_constants_207 : decode cX8_constants 207 = .ok (.aload_n 0, 1) := by decide +kernel
theorem dX8_constants_208 : decode cX8_constants 208 = .ok (.ldc2_w 186, 3) := by decide +kernel
theorem dX8_constants_211 : decode cX8_constants 211 = .ok (.lconst 0, 1) := by decide +kernel
theorem dX8_constants_212 : decode cX8_constants 212 = .ok (.invokevirtual 155, 3) := by decide +kernel
theorem dX8_constants_215 : decode cX8_constants 215 = .ok (.aload_n 0, 1) := by decide +kernel
theorem dX8_constants_216 : decode cX8_constants 216 = .ok (.ldc2_w 188, 3) := by decide +kernel
theorem dX8_constants_219 : decode cX8_constants 219 = .ok (.lconst 0, 1) := by decide +kernel
theorem dX8_constants_220 : decode cX8_constants 220 = .ok (.invokevirtual 155, 3) := by decide +kernel
theorem dX8_constants_223 : decode cX8_constants 223 = .ok (.aload_n 0, 1) := by decide +kernel
theorem dX8_constants_224 : decode cX8_constants 224 = .ok (.ldc2_w 190, 3) := by decide +kernel
theorem dX8_constants_227 : decode cX8_constants 227 = .ok (.lconst 0, 1) := by decide +kernel
theorem dX8_constants_228 : decode cX8_constants 228 = .ok (.invokevirtual 155, 3) := by decide +kernel
theorem dX8_constants_231 : decode cX8_constants 231 = .ok (.aload_n 0, 1) := by decide +kernel
theorem dX8_constants_232 : decode cX8_constants 232 = .ok (.ldc2_w 192, 3) := by decide +kernel
theorem dX8_constants_235 : decode cX8_constants 235 = .ok (.lconst 0, 1) := by decide +kernel
theorem dX8_constants_236 : decode cX8_constants 236 = .ok (.invokevirtual 155, 3) := by decide +kernel
theorem dX8_constants_239 : decode cX8_constants 239 = .ok (.iconst 0, 1) := by decide +kernel
theorem dX8_constants_240 : decode cX8_constants 240 = .ok (.istore_n 3, 1) := by decide +kernel
theorem dX8_constants_241 : decode cX8_constants 241 = .ok (.iload_n 3, 1) := by decide +kernel
theorem dX8_constants_242 : decode cX8_constants 242 = .ok (.iload_n 2, 1) := by decide +kernel
theorem dX8_constants_243 : decode cX8_constants 243 = .ok (.if_icmp .ge 20, 3) := by decide +kernel
theorem dX8_constants_246 : decode cX8_constants 246 = .ok (.aload_n 0, 1) := by decide +kernel
theorem dX8_constants_247 : decode cX8_constants 247 = .ok (.bipush 109, 2) := by decide +kernel
theorem dX8_constants_249 : decode cX8_constants 249 = .ok (.iload_n 3, 1) := by decide +kernel
theorem dX8_constants_250 : decode cX8_constants 250 = .ok (.invokestatic 151, 3) := by decide +kernel
theorem dX8_constants_253 : decode cX8_constants 253 = .ok (.lconst 0, 1) := by decide +kernel
theorem dX8_constants_254 : decode cX8_constants 254 = .ok (.invokevirtual 155, 3) := by decide +kernel
theorem dX8_constants_257 : decode cX8_constants 257 = .ok (.iinc 3 1, 3) := by decide +kernel
theorem dX8_constants_260 : decode cX8_constants 260 = .ok (.goto (-19), 3) := by decide +kernel
theorem dX8_constants_263 : decode cX8_constants 263 = .ok (.return_, 1) := by decide +kernel
theorem dX8_method_0 : decode cX8_method 0 = .ok (.aload_n 0, 1) := by decide +kernel
theorem dX8_method_1 : decode cX8_method 1 = .ok (.bipush 8, 2) := by decide +kernel
theorem dX8_method_3 : decode cX8_method 3 = .ok (.invokevirtual 142, 3) := by decide +kernel
theorem dX8_method_6 : decode cX8_method 6 = .ok (.aload_n 0, 1) := by decide +kernel
theorem dX8_method_7 : decode cX8_method 7 = .ok (.iload_n 1, 1) := by decide +kernel
theorem dX8_method_8 : decode cX8_method 8 = .ok (.invokevirtual 142, 3) := by decide +kernel
theorem dX8_method_11 : decode cX8_method 11 = .ok (.aload_n 0, 1) := by decide +kernel
theorem dX8_method_12 : decode cX8_method 12 = .ok (.iload_n 2, 1) := by decide +kernel
theorem dX8_method_13 : decode cX8_method 13 = .ok (.invokevirtual 142, 3) := by decide +kernel
theorem dX8_method_16 : decode cX8_method 16 = .ok (.aload_n 0, 1) := by decide +kernel
theorem dX8_method_17 : decode cX8_method 17 = .ok (.iconst 1, 1) := by decide +kernel
theorem dX8_method_18 : decode cX8_method 18 = .ok (.invokevirtual 142, 3) := by decide +kernel
theorem dX8_method_21 : decode cX8_method 21 = .ok (.aload_n 0, 1) := by decide +kernel
theorem dX8_method_22 : decode cX8_method 22 = .ok (.bipush 24, 2) := by decide +kernel
theorem dX8_method_24 : decode cX8_method 24 = .ok (.invokevirtual 142, 3) := by decide +kernel
theorem dX8_method_27 : decode cX8_method 27 = .ok (.aload_n 0, 1) := by decide +kernel
theorem dX8_method_28 : decode cX8_method 28 = .ok (.bipush 12, 2) := by decide +kernel
theorem dX8_method_30 : decode cX8_method 30 = .ok (.iload 5, 2) := by decide +kernel
theorem dX8_method_32 : decode cX8_method 32 = .ok (.iadd, 1) := by decide +kernel
theorem dX8_method_33 : decode cX8_method 33 = .ok (.invokevirtual 194, 3) := by decide +kernel
theorem dX8_method_36 : decode cX8_method 36 = .ok (.aload_n 0, 1) := by decide +kernel
theorem dX8_method_37 : decode cX8_method 37 = .ok (.iload_n 3, 1) := by decide +kernel
theorem dX8_method_38 : decode cX8_method 38 = .ok (.invokevirtual 142, 3) := by decide +kernel
theorem dX8_method_41 : decode cX8_method 41 = .ok (.aload_n 0, 1) := by decide +kernel
theorem dX8_method_42 : decode cX8_method 42 = .ok (.iload 4, 2) := by decide +kernel
theorem dX8_method_44 : decode cX8_method 44 = .ok (.invokevirtual 142, 3) := by decide +kernel
theorem dX8_method_47 : decode cX8_method 47 = .ok (.aload_n 0, 1) := by decide +kernel
theorem dX8_method_48 : decode cX8_method 48 = .ok (.iload 5, 2) := by decide +kernel
theorem dX8_method_50 : decode cX8_method 50 = .ok (.invokevirtual 194, 3) := by decide +kernel
theorem dX8_method_53 : decode cX8_method 53 = .ok (.return_, 1) := by decide +kernel
theorem dX8_isWithin_0 : decode cX8_isWithin 0 = .ok (.iload_n 0, 1) := by decide +kernel
theorem dX8_isWithin_1 : decode cX8_isWithin 1 = .ok (.iload_n 1, 1) := by decide +kernel
theorem dX8_isWithin_2 : decode cX8_isWithin 2 = .ok (.if_icmp .lt 12, 3) := by decide +kernel
theorem dX8_isWithin_5 : decode cX8_isWithin 5 = .ok (.iload_n 0, 1) := by decide +kernel
theorem dX8_isWithin_6 : decode cX8_isWithin 6 = .ok (.iload_n 2, 1) := by decide +kernel
theorem dX8_isWithin_7 : decode cX8_isWithin 7 = .ok (.if_icmp .gt 7, 3) := by decide +kernel
theorem dX8_isWithin_10 : decode cX8_isWithin 10 = .ok (.iconst 1, 1) := by decide +kernel
theorem dX8_isWithin_11 : decode cX8_isWithin 11 = .ok (.goto 4, 3) := by decide +kernel
theorem dX8_isWithin_14 : decode cX8_isWithin 14 = .ok (.iconst 0, 1) := by decide +kernel
theorem dX8_isWithin_15 : decode cX8_isWithin 15 = .ok (.ireturn, 1) := by decide +kernel
theorem dX8_going_0 : decode cX8_going 0 = .ok (.iload_n 1, 1) := by decide +kernel
theorem dX8_going_1 : decode cX8_going 1 = .ok (.iload_n 2, 1) := by decide +kernel
theorem dX8_going_2 : decode cX8_going 2 = .ok (.iload_n 3, 1) := by decide +kernel
theorem dX8_going_3 : decode cX8_going 3 = .ok (.invokestatic 197, 3) := by decide +kernel
theorem dX8_going_6 : decode cX8_going 6 = .ok (.ifCond .eq 7, 3) := by decide +kernel
theorem dX8_going_9 : decode cX8_going 9 = .ok (.iconst 3, 1) := by decide +kernel
theorem dX8_going_10 : decode cX8_going 10 = .ok (.goto 4, 3) := by decide +kernel
theorem dX8_going_13 : decode cX8_going 13 = .ok (.iconst 4, 1) := by decide +kernel
theorem dX8_going_14 : decode cX8_going 14 = .ok (.ireturn, 1) := by decide +kernel
theorem dX8_bytesOf_0 : decode cX8_bytesOf 0 = .ok (.aload_n 0, 1) := by decide +kernel
theorem dX8_bytesOf_1 : decode cX8_bytesOf 1 = .ok (.getfield 16, 3) := by decide +kernel
theorem dX8_bytesOf_4 : decode cX8_bytesOf 4 = .ok (.iload_n 1, 1) := by decide +kernel
theorem dX8_bytesOf_5 : decode cX8_bytesOf 5 = .ok (.iaload, 1) := by decide +kernel
theorem dX8_bytesOf_6 : decode cX8_bytesOf 6 = .ok (.tableswitch 110 0 13 #[70, 73, 110, 110, 110, 110, 110, 76, 79, 95, 108, 108, 108, 76], 70) := by decide +kernel
theorem dX8_bytesOf_76 : decode cX8_bytesOf 76 = .ok (.bipush 8, 2) := by decide +kernel
theorem dX8_bytesOf_78 : decode cX8_bytesOf 78 = .ok (.ireturn, 1) := by decide +kernel
theorem dX8_bytesOf_79 : decode cX8_bytesOf 79 = .ok (.bipush 12, 2) := by decide +kernel
theorem dX8_bytesOf_81 : decode cX8_bytesOf 81 = .ok (.ireturn, 1) := by decide +kernel
theorem dX8_bytesOf_82 : decode cX8_bytesOf 82 = .ok (.bipush 16, 2) := by decide +kernel
theorem dX8_bytesOf_84 : decode cX8_bytesOf 84 = .ok (.ireturn, 1) := by decide +kernel
theorem dX8_bytesOf_85 : decode cX8_bytesOf 85 = .ok (.bipush 9, 2) := by decide +kernel
theorem dX8_bytesOf_87 : decode cX8_bytesOf 87 = .ok (.aload_n 0, 1) := by decide +kernel
theorem dX8_bytesOf_88 : decode cX8_bytesOf 88 = .ok (.aload_n 0, 1) := by decide +kernel
theorem dX8_bytesOf_89 : decode cX8_bytesOf 89 = .ok (.getfield 22, 3) := by decide +kernel
theorem dX8_bytesOf_92 : decode cX8_bytesOf 92 = .ok (.iload_n 1, 1) := by decide +kernel
theorem dX8_bytesOf_93 : decode cX8_bytesOf 93 = .ok (.iaload, 1) := by decide +kernel
theorem dX8_bytesOf_94 : decode cX8_bytesOf 94 = .ok (.iload_n 2, 1) := by decide +kernel
theorem dX8_bytesOf_95 : decode cX8_bytesOf 95 = .ok (.iload_n 3, 1) := by decide +kernel
theorem dX8_bytesOf_96 : decode cX8_bytesOf 96 = .ok (.invokevirtual 200, 3) := by decide +kernel
theorem dX8_bytesOf_99 : decode cX8_bytesOf 99 = .ok (.iadd, 1) := by decide +kernel
theorem dX8_bytesOf_100 : decode cX8_bytesOf 100 = .ok (.ireturn, 1) := by decide +kernel
theorem dX8_bytesOf_101 : decode cX8_bytesOf 101 = .ok (.aload_n 0, 1) := by decide +kernel
theorem dX8_bytesOf_102 : decode cX8_bytesOf 102 = .ok (.aload_n 0, 1) := by decide +kernel
theorem dX8_bytesOf_103 : decode cX8_bytesOf 103 = .ok (.getfield 22, 3) := by decide +kernel
theorem dX8_bytesOf_106 : decode cX8_bytesOf 106 = .ok (.iload_n 1, 1) := by decide +kernel
theorem dX8_bytesOf_107 : decode cX8_bytesOf 107 = .ok (.iaload, 1) := by decide +kernel
theorem dX8_bytesOf_108 : decode cX8_bytesOf 108 = .ok (.iload_n 2, 1) := by decide +kernel
theorem dX8_bytesOf_109 : decode cX8_bytesOf 109 = .ok (.iload_n 3, 1) := by decide +kernel
theorem dX8_bytesOf_110 : decode cX8_bytesOf 110 = .ok (.invokevirtual 200, 3) := by decide +kernel
theorem dX8_bytesOf_113 : decode cX8_bytesOf 113 = .ok (.ireturn, 1) := by decide +kernel
theorem dX8_bytesOf_114 : decode cX8_bytesOf 114 = .ok (.iconst 5, 1) := by decide +kernel
theorem dX8_bytesOf_115 : decode cX8_bytesOf 115 = .ok (.ireturn, 1) := by decide +kernel
theorem dX8_bytesOf_116 : decode cX8_bytesOf 116 = .ok (.bipush 20, 2) := by decide +kernel
theorem dX8_bytesOf_118 : decode cX8_bytesOf 118 = .ok (.ireturn, 1) := by decide +kernel
theorem dX8_begins_0 : decode cX8_begins 0 = .ok (.bipush 16, 2) := by decide +kernel
theorem dX8_begins_2 : decode cX8_begins 2 = .ok (.iconst 4, 1) := by decide +kernel
theorem dX8_begins_3 : decode cX8_begins 3 = .ok (.iload 4, 2) := by decide +kernel
theorem dX8_begins_5 : decode cX8_begins 5 = .ok (.iload_n 3, 1) := by decide +kernel
theorem dX8_begins_6 : decode cX8_begins 6 = .ok (.isub, 1) := by decide +kernel
theorem dX8_begins_7 : decode cX8_begins 7 = .ok (.iconst 1, 1) := by decide +kernel
theorem dX8_begins_8 : decode cX8_begins 8 = .ok (.iadd, 1) := by decide +kernel
theorem dX8_begins_9 : decode cX8_begins 9 = .ok (.imul, 1) := by decide +kernel
theorem dX8_begins_10 : decode cX8_begins 10 = .ok (.iadd, 1) := by decide +kernel
theorem dX8_begins_11 : decode cX8_begins 11 = .ok (.istore 5, 2) := by decide +kernel
theorem dX8_begins_13 : decode cX8_begins 13 = .ok (.iload_n 3, 1) := by decide +kernel
theorem dX8_begins_14 : decode cX8_begins 14 = .ok (.istore 6, 2) := by decide +kernel
theorem dX8_begins_16 : decode cX8_begins 16 = .ok (.iload 6, 2) := by decide +kernel
theorem dX8_begins_18 : decode cX8_begins 18 = .ok (.iload_n 2, 1) := by decide +kernel
theorem dX8_begins_19 : decode cX8_begins 19 = .ok (.if_icmp .ge 28, 3) := by decide +kernel
theorem dX8_begins_22 : decode cX8_begins 22 = .ok (.iload 5, 2) := by decide +kernel
theorem dX8_begins_24 : decode cX8_begins 24 = .ok (.aload_n 0, 1) := by decide +kernel
theorem dX8_begins_25 : decode cX8_begins 25 = .ok (.bipush 60, 2) := by decide +kernel
theorem dX8_begins_27 : decode cX8_begins 27 = .ok (.iload_n 1, 1) := by decide +kernel
theorem dX8_begins_28 : decode cX8_begins 28 = .ok (.imul, 1) := by decide +kernel
theorem dX8_begins_29 : decode cX8_begins 29 = .ok (.iload 6, 2) := by decide +kernel
theorem dX8_begins_31 : decode cX8_begins 31 = .ok (.iadd, 1) := by decide +kernel
theorem dX8_begins_32 : decode cX8_begins 32 = .ok (.iload_n 3, 1) := by decide +kernel
theorem dX8_begins_33 : decode cX8_begins 33 = .ok (.iload 4, 2) := by decide +kernel
theorem dX8_begins_35 : decode cX8_begins 35 = .ok (.invokevirtual 204, 3) := by decide +kernel
theorem dX8_begins_38 : decode cX8_begins 38 = .ok (.iadd, 1) := by decide +kernel
theorem dX8_begins_39 : decode cX8_begins 39 = .ok (.istore 5, 2) := by decide +kernel
theorem dX8_begins_41 : decode cX8_begins 41 = .ok (.iinc 6 1, 3) := by decide +kernel
theorem dX8_begins_44 : decode cX8_begins 44 = .ok (.goto (-28), 3) := by decide +kernel
theorem dX8_begins_47 : decode cX8_begins 47 = .ok (.iload 5, 2) := by decide +kernel
theorem dX8_begins_49 : decode cX8_begins 49 = .ok (.ireturn, 1) := by decide +kernel
theorem dX8_words_0 : decode cX8_words 0 = .ok (.aload_n 0, 1) := by decide +kernel
theorem dX8_words_1 : decode cX8_words 1 = .ok (.sipush 178, 3) := by decide +kernel
theorem dX8_words_4 : decode cX8_words 4 = .ok (.invokevirtual 138, 3) := by decide +kernel
theorem dX8_words_7 : decode cX8_words 7 = .ok (.aload_n 0, 1) := by decide +kernel
theorem dX8_words_8 : decode cX8_words 8 = .ok (.bipush 8, 2) := by decide +kernel
theorem dX8_words_10 : decode cX8_words 10 = .ok (.invokevirtual 142, 3) := by decide +kernel
theorem dX8_words_13 : decode cX8_words 13 = .ok (.return_, 1) := by decide +kernel
theorem dX8_push_0 : decode cX8_push 0 = .ok (.aload_n 0, 1) := by decide +kernel
theorem dX8_push_1 : decode cX8_push 1 = .ok (.bipush 16, 2) := by decide +kernel
theorem dX8_push_3 : decode cX8_push 3 = .ok (.invokevirtual 138, 3) := by decide +kernel
theorem dX8_push_6 : decode cX8_push 6 = .ok (.aload_n 0, 1) := by decide +kernel
theorem dX8_push_7 : decode cX8_push 7 = .ok (.iload_n 1, 1) := by decide +kernel
theorem dX8_push_8 : decode cX8_push 8 = .ok (.invokevirtual 138, 3) := by decide +kernel
theorem dX8_push_11 : decode cX8_push 11 = .ok (.return_, 1) := by decide +kernel
theorem dX8_load_0 : decode cX8_load 0 = .ok (.aload_n 0, 1) := by decide +kernel
theorem dX8_load_1 : decode cX8_load 1 = .ok (.invokevirtual 207, 3) := by decide +kernel
theorem dX8_load_4 : decode cX8_load 4 = .ok (.aload_n 0, 1) := by decide +kernel
theorem dX8_load_5 : decode cX8_load 5 = .ok (.iload_n 1, 1) := by decide +kernel
theorem dX8_load_6 : decode cX8_load 6 = .ok (.invokevirtual 210, 3) := by decide +kernel
theorem dX8_load_9 : decode cX8_load 9 = .ok (.aload_n 0, 1) := by decide +kernel
theorem dX8_load_10 : decode cX8_load 10 = .ok (.bipush 51, 2) := by decide +kernel
theorem dX8_load_12 : decode cX8_load 12 = .ok (.invokevirtual 138, 3) := by decide +kernel
theorem dX8_load_15 : decode cX8_load 15 = .ok (.return_, 1) := by decide +kernel
theorem dX8_goes_0 : decode cX8_goes 0 = .ok (.iload_n 2, 1) := by decide +kernel
theorem dX8_goes_1 : decode cX8_goes 1 = .ok (.iload_n 3, 1) := by decide +kernel
theorem dX8_goes_2 : decode cX8_goes 2 = .ok (.iload 4, 2) := by decide +kernel
theorem dX8_goes_4 : decode cX8_goes 4 = .ok (.invokestatic 197, 3) := by decide +kernel
theorem dX8_goes_7 : decode cX8_goes 7 = .ok (.ifCond .eq 27, 3) := by decide +kernel
theorem dX8_goes_10 : decode cX8_goes 10 = .ok (.aload_n 0, 1) := by decide +kernel
theorem dX8_goes_11 : decode cX8_goes 11 = .ok (.sipush 167, 3) := by decide +kernel
theorem dX8_goes_14 : decode cX8_goes 14 = .ok (.invokevirtual 138, 3) := by decide +kernel
theorem dX8_goes_17 : decode cX8_goes 17 = .ok (.aload_n 0, 1) := by decide +kernel
theorem dX8_goes_18 : decode cX8_goes 18 = .ok (.aload_n 0, 1) := by decide +kernel
theorem dX8_goes_19 : decode cX8_goes 19 = .ok (.iload_n 1, 1) := by decide +kernel
theorem dX8_goes_20 : decode cX8_goes 20 = .ok (.iload_n 2, 1) := by decide +kernel
theorem dX8_goes_21 : decode cX8_goes 21 = .ok (.iload_n 3, 1) := by decide +kernel
theorem dX8_goes_22 : decode cX8_goes 22 = .ok (.iload 4, 2) := by decide +kernel
theorem dX8_goes_24 : decode cX8_goes 24 = .ok (.invokevirtual 213, 3) := by decide +kernel
theorem dX8_goes_27 : decode cX8_goes 27 = .ok (.iload 5, 2) := by decide +kernel
theorem dX8_goes_29 : decode cX8_goes 29 = .ok (.isub, 1) := by decide +kernel
theorem dX8_goes_30 : decode cX8_goes 30 = .ok (.invokevirtual 142, 3) := by decide +kernel
theorem dX8_goes_33 : decode cX8_goes 33 = .ok (.return_, 1) := by decide +kernel
theorem dX8_goes_34 : decode cX8_goes 34 = .ok (.aload_n 0, 1) := by decide +kernel
theorem dX8_goes_35 : decode cX8_goes 35 = .ok (.bipush 17, 2) := by decide +kernel
theorem dX8_goes_37 : decode cX8_goes 37 = .ok (.invokevirtual 138, 3) := by decide +kernel
theorem dX8_goes_40 : decode cX8_goes 40 = .ok (.aload_n 0, 1) := by decide +kernel
theorem dX8_goes_41 : decode cX8_goes 41 = .ok (.iload_n 2, 1) := by decide +kernel
theorem dX8_goes_42 : decode cX8_goes 42 = .ok (.invokevirtual 142, 3) := by decide +kernel
theorem dX8_goes_45 : decode cX8_goes 45 = .ok (.aload_n 0, 1) := by decide +kernel
theorem dX8_goes_46 : decode cX8_goes 46 = .ok (.sipush 172, 3) := by decide +kernel
theorem dX8_goes_49 : decode cX8_goes 49 = .ok (.invokevirtual 138, 3) := by decide +kernel
theorem dX8_goes_52 : decode cX8_goes 52 = .ok (.return_, 1) := by decide +kernel
theorem dX8_row_0 : decode cX8_row 0 = .ok (.bipush 60, 2) := by decide +kernel
theorem dX8_row_2 : decode cX8_row 2 = .ok (.iload_n 1, 1) := by decide +kernel
theorem dX8_row_3 : decode cX8_row 3 = .ok (.imul, 1) := by decide +kernel
theorem dX8_row_4 : decode cX8_row 4 = .ok (.iload_n 2, 1) := by decide +kernel
theorem dX8_row_5 : decode cX8_row 5 = .ok (.iadd, 1) := by decide +kernel
theorem dX8_row_6 : decode cX8_row 6 = .ok (.istore 5, 2) := by decide +kernel
theorem dX8_row_8 : decode cX8_row 8 = .ok (.aload_n 0, 1) := by decide +kernel
theorem dX8_row_9 : decode cX8_row 9 = .ok (.getfield 16, 3) := by decide +kernel
theorem dX8_row_12 : decode cX8_row 12 = .ok (.iload 5, 2) := by decide +kernel
theorem dX8_row_14 : decode cX8_row 14 = .ok (.iaload, 1) := by decide +kernel
theorem dX8_row_15 : decode cX8_row 15 = .ok (.istore 6, 2) := by decide +kernel
theorem dX8_row_17 : decode cX8_row 17 = .ok (.aload_n 0, 1) := by decide +kernel
theorem dX8_row_18 : decode cX8_row 18 = .ok (.getfield 19, 3) := by decide +kernel
theorem dX8_row_21 : decode cX8_row 21 = .ok (.iload 5, 2) := by decide +kernel
theorem dX8_row_23 : decode cX8_row 23 = .ok (.iaload, 1) := by decide +kernel
theorem dX8_row_24 : decode cX8_row 24 = .ok (.istore 7, 2) := by decide +kernel
theorem dX8_row_26 : decode cX8_row 26 = .ok (.aload_n 0, 1) := by decide +kernel
theorem dX8_row_27 : decode cX8_row 27 = .ok (.getfield 22, 3) := by decide +kernel
theorem dX8_row_30 : decode cX8_row 30 = .ok (.iload 5, 2) := by decide +kernel
theorem dX8_row_32 : decode cX8_row 32 = .ok (.iaload, 1) := by decide +kernel
theorem dX8_row_33 : decode cX8_row 33 = .ok (.istore 8, 2) := by decide +kernel
theorem dX8_row_35 : decode cX8_row 35 = .ok (.aload_n 0, 1) := by decide +kernel
theorem dX8_row_36 : decode cX8_row 36 = .ok (.iload_n 1, 1) := by decide +kernel
theorem dX8_row_37 : decode cX8_row 37 = .ok (.iload_n 2, 1) := by decide +kernel
theorem dX8_row_38 : decode cX8_row 38 = .ok (.iload_n 3, 1) := by decide +kernel
theorem dX8_row_39 : decode cX8_row 39 = .ok (.iload 4, 2) := by decide +kernel
theorem dX8_row_41 : decode cX8_row 41 = .ok (.invokevirtual 213, 3) := by decide +kernel
theorem dX8_row_44 : decode cX8_row 44 = .ok (.istore 9, 2) := by decide +kernel
theorem dX8_row_46 : decode cX8_row 46 = .ok (.iload 6, 2) := by decide +kernel
theorem dX8_row_48 : decode cX8_row 48 = .ok (.bipush 7, 2) := by decide +kernel
theorem dX8_row_50 : decode cX8_row 50 = .ok (.if_icmp .ge 86, 3) := by decide +kernel
theorem dX8_row_53 : decode cX8_row 53 = .ok (.aload_n 0, 1) := by decide +kernel
theorem dX8_row_54 : decode cX8_row 54 = .ok (.invokevirtual 207, 3) := by decide +kernel
theorem dX8_row_57 : decode cX8_row 57 = .ok (.aload_n 0, 1) := by decide +kernel
theorem dX8_row_58 : decode cX8_row 58 = .ok (.iload 7, 2) := by decide +kernel
theorem dX8_row_60 : decode cX8_row 60 = .ok (.invokevirtual 210, 3) := by decide +kernel
theorem dX8_row_63 : decode cX8_row 63 = .ok (.iload 6, 2) := by decide +kernel
theorem dX8_row_65 : decode cX8_row 65 = .ok (.ifCond .ne 9, 3) := by decide +kernel
theorem dX8_row_68 : decode cX8_row 68 = .ok (.aload_n 0, 1) := by decide +kernel
theorem dX8_row_69 : decode cX8_row 69 = .ok (.iload 8, 2) := by decide +kernel
theorem dX8_row_71 : decode cX8_row 71 = .ok (.invokevirtual 210, 3) := by decide +kernel
theorem dX8_row_74 : decode cX8_row 74 = .ok (.iload 6, 2) := by decide +kernel
theorem dX8_row_76 : decode cX8_row 76 = .ok (.iconst 1, 1) := by decide +kernel
theorem dX8_row_77 : decode cX8_row 77 = .ok (.if_icmp .le 9, 3) := by decide +kernel
theorem dX8_row_80 : decode cX8_row 80 = .ok (.aload_n 0, 1) := by decide +kernel
theorem dX8_row_81 : decode cX8_row 81 = .ok (.iload 7, 2) := by decide +kernel
theorem dX8_row_83 : decode cX8_row 83 = .ok (.invokevirtual 217, 3) := by decide +kernel
theorem dX8_row_86 : decode cX8_row 86 = .ok (.iload 6, 2) := by decide +kernel
theorem dX8_row_88 : decode cX8_row 88 = .ok (.ifCond .le 9, 3) := by decide +kernel
theorem dX8_row_91 : decode cX8_row 91 = .ok (.aload_n 0, 1) := by decide +kernel
theorem dX8_row_92 : decode cX8_row 92 = .ok (.iload 8, 2) := by decide +kernel
theorem dX8_row_94 : decode cX8_row 94 = .ok (.invokevirtual 217, 3) := by decide +kernel
theorem dX8_row_97 : decode cX8_row 97 = .ok (.iload 6, 2) := by decide +kernel
theorem dX8_row_99 : decode cX8_row 99 = .ok (.iconst 1, 1) := by decide +kernel
theorem dX8_row_100 : decode cX8_row 100 = .ok (.if_icmp .le 14, 3) := by decide +kernel
theorem dX8_row_103 : decode cX8_row 103 = .ok (.aload_n 0, 1) := by decide +kernel
theorem dX8_row_104 : decode cX8_row 104 = .ok (.bipush 88, 2) := by decide +kernel
theorem dX8_row_106 : decode cX8_row 106 = .ok (.iconst 4, 1) := by decide +kernel
theorem dX8_row_107 : decode cX8_row 107 = .ok (.iload 6, 2) := by decide +kernel
theorem dX8_row_109 : decode cX8_row 109 = .ok (.imul, 1) := by decide +kernel
theorem dX8_row_110 : decode cX8_row 110 = .ok (.iadd, 1) := by decide +kernel
theorem dX8_row_111 : decode cX8_row 111 = .ok (.invokevirtual 138, 3) := by decide +kernel
theorem dX8_row_114 : decode cX8_row 114 = .ok (.iload 6, 2) := by decide +kernel
theorem dX8_row_116 : decode cX8_row 116 = .ok (.iconst 1, 1) := by decide +kernel
theorem dX8_row_117 : decode cX8_row 117 = .ok (.if_icmp .le 10, 3) := by decide +kernel
theorem dX8_row_120 : decode cX8_row 120 = .ok (.aload_n 0, 1) := by decide +kernel
theorem dX8_row_121 : decode cX8_row 121 = .ok (.sipush 145, 3) := by decide +kernel
theorem dX8_row_124 : decode cX8_row 124 = .ok (.invokevirtual 138, 3) := by decide +kernel
theorem dX8_row_127 : decode cX8_row 127 = .ok (.aload_n 0, 1) := by decide +kernel
theorem dX8_row_128 : decode cX8_row 128 = .ok (.bipush 84, 2) := by decide +kernel
theorem dX8_row_130 : decode cX8_row 130 = .ok (.invokevirtual 138, 3) := by decide +kernel
theorem dX8_row_133 : decode cX8_row 133 = .ok (.goto 207, 3) := by decide +kernel
theorem dX8_row_136 : decode cX8_row 136 = .ok (.iload 6, 2) := by decide +kernel
theorem dX8_row_138 : decode cX8_row 138 = .ok (.bipush 7, 2) := by decide +kernel
theorem dX8_row_140 : decode cX8_row 140 = .ok (.if_icmp .ne 28, 3) := by decide +kernel
theorem dX8_row_143 : decode cX8_row 143 = .ok (.aload_n 0, 1) := by decide +kernel
theorem dX8_row_144 : decode cX8_row 144 = .ok (.invokevirtual 207, 3) := by decide +kernel
theorem dX8_row_147 : decode cX8_row 147 = .ok (.aload_n 0, 1) := by decide +kernel
theorem dX8_row_148 : decode cX8_row 148 = .ok (.iload 7, 2) := by decide +kernel
theorem dX8_row_150 : decode cX8_row 150 = .ok (.invokevirtual 217, 3) := by decide +kernel
theorem dX8_row_153 : decode cX8_row 153 = .ok (.aload_n 0, 1) := by decide +kernel
theorem dX8_row_154 : decode cX8_row 154 = .ok (.iload 8, 2) := by decide +kernel
theorem dX8_row_156 : decode cX8_row 156 = .ok (.invokevirtual 217, 3) := by decide +kernel
theorem dX8_row_159 : decode cX8_row 159 = .ok (.aload_n 0, 1) := by decide +kernel
theorem dX8_row_160 : decode cX8_row 160 = .ok (.bipush 84, 2) := by decide +kernel
theorem dX8_row_162 : decode cX8_row 162 = .ok (.invokevirtual 138, 3) := by decide +kernel
theorem dX8_row_165 : decode cX8_row 165 = .ok (.goto 175, 3) := by decide +kernel
theorem dX8_row_168 : decode cX8_row 168 = .ok (.iload 6, 2) := by decide +kernel
theorem dX8_row_170 : decode cX8_row 170 = .ok (.bipush 8, 2) := by decide +kernel
theorem dX8_row_172 : decode cX8_row 172 = .ok (.if_icmp .ne 49, 3) := by decide +kernel
theorem dX8_row_175 : decode cX8_row 175 = .ok (.aload_n 0, 1) := by decide +kernel
theorem dX8_row_176 : decode cX8_row 176 = .ok (.iload 7, 2) := by decide +kernel
theorem dX8_row_178 : decode cX8_row 178 = .ok (.invokevirtual 217, 3) := by decide +kernel
theorem dX8_row_181 : decode cX8_row 181 = .ok (.aload_n 0, 1) := by decide +kernel
theorem dX8_row_182 : decode cX8_row 182 = .ok (.sipush 154, 3) := by decide +kernel
theorem dX8_row_185 : decode cX8_row 185 = .ok (.invokevirtual 138, 3) := by decide +kernel
theorem dX8_row_188 : decode cX8_row 188 = .ok (.aload_n 0, 1) := by decide +kernel
theorem dX8_row_189 : decode cX8_row 189 = .ok (.iconst 3, 1) := by decide +kernel
theorem dX8_row_190 : decode cX8_row 190 = .ok (.aload_n 0, 1) := by decide +kernel
theorem dX8_row_191 : decode cX8_row 191 = .ok (.iload 8, 2) := by decide +kernel
theorem dX8_row_193 : decode cX8_row 193 = .ok (.iload_n 3, 1) := by decide +kernel
theorem dX8_row_194 : decode cX8_row 194 = .ok (.iload 4, 2) := by decide +kernel
theorem dX8_row_196 : decode cX8_row 196 = .ok (.invokevirtual 200, 3) := by decide +kernel
theorem dX8_row_199 : decode cX8_row 199 = .ok (.iadd, 1) := by decide +kernel
theorem dX8_row_200 : decode cX8_row 200 = .ok (.invokevirtual 142, 3) := by decide +kernel
theorem dX8_row_203 : decode cX8_row 203 = .ok (.aload_n 0, 1) := by decide +kernel
theorem dX8_row_204 : decode cX8_row 204 = .ok (.iload_n 1, 1) := by decide +kernel
theorem dX8_row_205 : decode cX8_row 205 = .ok (.iload 8, 2) := by decide +kernel
theorem dX8_row_207 : decode cX8_row 207 = .ok (.iload_n 3, 1) := by decide +kernel
theorem dX8_row_208 : decode cX8_row 208 = .ok (.iload 4, 2) := by decide +kernel
theorem dX8_row_210 : decode cX8_row 210 = .ok (.iload 9, 2) := by decide +kernel
theorem dX8_row_212 : decode cX8_row 212 = .ok (.bipush 9, 2) := by decide +kernel
theorem dX8_row_214 : decode cX8_row 214 = .ok (.iadd, 1) := by decide +kernel
theorem dX8_row_215 : decode cX8_row 215 = .ok (.invokevirtual 220, 3) := by decide +kernel
theorem dX8_row_218 : decode cX8_row 218 = .ok (.goto 122, 3) := by decide +kernel
theorem dX8_row_221 : decode cX8_row 221 = .ok (.iload 6, 2) := by decide +kernel
theorem dX8_row_223 : decode cX8_row 223 = .ok (.bipush 9, 2) := by decide +kernel
theorem dX8_row_225 : decode cX8_row 225 = .ok (.if_icmp .ne 18, 3) := by decide +kernel
theorem dX8_row_228 : decode cX8_row 228 = .ok (.aload_n 0, 1) := by decide +kernel
theorem dX8_row_229 : decode cX8_row 229 = .ok (.iload_n 1, 1) := by decide +kernel
theorem dX8_row_230 : decode cX8_row 230 = .ok (.iload 8, 2) := by decide +kernel
theorem dX8_row_232 : decode cX8_row 232 = .ok (.iload_n 3, 1) := by decide +kernel
theorem dX8_row_233 : decode cX8_row 233 = .ok (.iload 4, 2) := by decide +kernel
theorem dX8_row_235 : decode cX8_row 235 = .ok (.iload 9, 2) := by decide +kernel
theorem dX8_row_237 : decode cX8_row 237 = .ok (.invokevirtual 220, 3) := by decide +kernel
theorem dX8_row_240 : decode cX8_row 240 = .ok (.goto 100, 3) := by decide +kernel
theorem dX8_row_243 : decode cX8_row 243 = .ok (.iload 6, 2) := by decide +kernel
theorem dX8_row_245 : decode cX8_row 245 = .ok (.bipush 13, 2) := by decide +kernel
theorem dX8_row_247 : decode cX8_row 247 = .ok (.if_icmp .ge 49, 3) := by decide +kernel
theorem dX8_row_250 : decode cX8_row 250 = .ok (.aload_n 0, 1) := by decide +kernel
theorem dX8_row_251 : decode cX8_row 251 = .ok (.iload 7, 2) := by decide +kernel
theorem dX8_row_253 : decode cX8_row 253 = .ok (.invokevirtual 210, 3) := by decide +kernel
theorem dX8_row_256 : decode cX8_row 256 = .ok (.aload_n 0, 1) := by decide +kernel
theorem dX8_row_257 : decode cX8_row 257 = .ok (.sipush 184, 3) := by decide +kernel
theorem dX8_row_260 : decode cX8_row 260 = .ok (.invokevirtual 138, 3) := by decide +kernel
theorem dX8_row_263 : decode cX8_row 263 = .ok (.aload_n 0, 1) := by decide +kernel
theorem dX8_row_264 : decode cX8_row 264 = .ok (.iload 6, 2) := by decide +kernel
theorem dX8_row_266 : decode cX8_row 266 = .ok (.bipush 10, 2) := by decide +kernel
theorem dX8_row_268 : decode cX8_row 268 = .ok (.if_icmp .ne 8, 3) := by decide +kernel
theorem dX8_row_271 : decode cX8_row 271 = .ok (.bipush 14, 2) := by decide +kernel
theorem dX8_row_273 : decode cX8_row 273 = .ok (.goto 17, 3) := by decide +kernel
theorem dX8_row_276 : decode cX8_row 276 = .ok (.iload 6, 2) := by decide +kernel
theorem dX8_row_278 : decode cX8_row 278 = .ok (.bipush 11, 2) := by decide +kernel
theorem dX8_row_280 : decode cX8_row 280 = .ok (.if_icmp .ne 8, 3) := by decide +kernel
theorem dX8_row_283 : decode cX8_row 283 = .ok (.bipush 17, 2) := by decide +kernel
theorem dX8_row_285 : decode cX8_row 285 = .ok (.goto 5, 3) := by decide +kernel
theorem dX8_row_288 : decode cX8_row 288 = .ok (.bipush 20, 2) := by decide +kernel
theorem dX8_row_290 : decode cX8_row 290 = .ok (.invokevirtual 142, 3) := by decide +kernel
theorem dX8_row_293 : decode cX8_row 293 = .ok (.goto 47, 3) := by decide +kernel
theorem dX8_row_296 : decode cX8_row 296 = .ok (.aload_n 0, 1) := by decide +kernel
theorem dX8_row_297 : decode cX8_row 297 = .ok (.iload 7, 2) := by decide +kernel
theorem dX8_row_299 : decode cX8_row 299 = .ok (.invokevirtual 217, 3) := by decide +kernel
theorem dX8_row_302 : decode cX8_row 302 = .ok (.aload_n 0, 1) := by decide +kernel
theorem dX8_row_303 : decode cX8_row 303 = .ok (.iload 8, 2) := by decide +kernel
theorem dX8_row_305 : decode cX8_row 305 = .ok (.invokevirtual 210, 3) := by decide +kernel
theorem dX8_row_308 : decode cX8_row 308 = .ok (.aload_n 0, 1) := by decide +kernel
theorem dX8_row_309 : decode cX8_row 309 = .ok (.sipush 164, 3) := by decide +kernel
theorem dX8_row_312 : decode cX8_row 312 = .ok (.invokevirtual 138, 3) := by decide +kernel
theorem dX8_row_315 : decode cX8_row 315 = .ok (.aload_n 0, 1) := by decide +kernel
theorem dX8_row_316 : decode cX8_row 316 = .ok (.bipush 8, 2) := by decide +kernel
theorem dX8_row_318 : decode cX8_row 318 = .ok (.invokevirtual 142, 3) := by decide +kernel
theorem dX8_row_321 : decode cX8_row 321 = .ok (.aload_n 0, 1) := by decide +kernel
theorem dX8_row_322 : decode cX8_row 322 = .ok (.iload 7, 2) := by decide +kernel
theorem dX8_row_324 : decode cX8_row 324 = .ok (.invokevirtual 210, 3) := by decide +kernel
theorem dX8_row_327 : decode cX8_row 327 = .ok (.aload_n 0, 1) := by decide +kernel
theorem dX8_row_328 : decode cX8_row 328 = .ok (.sipush 184, 3) := by decide +kernel
theorem dX8_row_331 : decode cX8_row 331 = .ok (.invokevirtual 138, 3) := by decide +kernel
theorem dX8_row_334 : decode cX8_row 334 = .ok (.aload_n 0, 1) := by decide +kernel
theorem dX8_row_335 : decode cX8_row 335 = .ok (.bipush 23, 2) := by decide +kernel
theorem dX8_row_337 : decode cX8_row 337 = .ok (.invokevirtual 142, 3) := by decide +kernel
theorem dX8_row_340 : decode cX8_row 340 = .ok (.return_, 1) := by decide +kernel
theorem dX8_member_0 : decode cX8_member 0 = .ok (.bipush 10, 2) := by decide +kernel
theorem dX8_member_2 : decode cX8_member 2 = .ok (.iload_n 2, 1) := by decide +kernel
theorem dX8_member_3 : decode cX8_member 3 = .ok (.imul, 1) := by decide +kernel
theorem dX8_member_4 : decode cX8_member 4 = .ok (.iconst 1, 1) := by decide +kernel
theorem dX8_member_5 : decode cX8_member 5 = .ok (.iadd, 1) := by decide +kernel
theorem dX8_member_6 : decode cX8_member 6 = .ok (.istore 4, 2) := by decide +kernel
theorem dX8_member_8 : decode cX8_member 8 = .ok (.iload_n 3, 1) := by decide +kernel
theorem dX8_member_9 : decode cX8_member 9 = .ok (.iload 4, 2) := by decide +kernel
theorem dX8_member_11 : decode cX8_member 11 = .ok (.isub, 1) := by decide +kernel
theorem dX8_member_12 : decode cX8_member 12 = .ok (.iconst 1, 1) := by decide +kernel
theorem dX8_member_13 : decode cX8_member 13 = .ok (.iadd, 1) := by decide +kernel
theorem dX8_member_14 : decode cX8_member 14 = .ok (.istore 5, 2) := by decide +kernel
theorem dX8_member_16 : decode cX8_member 16 = .ok (.aload_n 0, 1) := by decide +kernel
theorem dX8_member_17 : decode cX8_member 17 = .ok (.iload_n 1, 1) := by decide +kernel
theorem dX8_member_18 : decode cX8_member 18 = .ok (.iload_n 3, 1) := by decide +kernel
theorem dX8_member_19 : decode cX8_member 19 = .ok (.iconst 1, 1) := by decide +kernel
theorem dX8_member_20 : decode cX8_member 20 = .ok (.iadd, 1) := by decide +kernel
theorem dX8_member_21 : decode cX8_member 21 = .ok (.iload 4, 2) := by decide +kernel
theorem dX8_member_23 : decode cX8_member 23 = .ok (.iload_n 3, 1) := by decide +kernel
theorem dX8_member_24 : decode cX8_member 24 = .ok (.invokevirtual 213, 3) := by decide +kernel
theorem dX8_member_27 : decode cX8_member 27 = .ok (.istore 6, 2) := by decide +kernel
theorem dX8_member_29 : decode cX8_member 29 = .ok (.aload_n 0, 1) := by decide +kernel
theorem dX8_member_30 : decode cX8_member 30 = .ok (.bipush 28, 2) := by decide +kernel
theorem dX8_member_32 : decode cX8_member 32 = .ok (.iload_n 2, 1) := by decide +kernel
theorem dX8_member_33 : decode cX8_member 33 = .ok (.iadd, 1) := by decide +kernel
theorem dX8_member_34 : decode cX8_member 34 = .ok (.bipush 25, 2) := by decide +kernel
theorem dX8_member_36 : decode cX8_member 36 = .ok (.iconst 5, 1) := by decide +kernel
theorem dX8_member_37 : decode cX8_member 37 = .ok (.iconst 1, 1) := by decide +kernel
theorem dX8_member_38 : decode cX8_member 38 = .ok (.iload 6, 2) := by decide +kernel
theorem dX8_member_40 : decode cX8_member 40 = .ok (.iconst 4, 1) := by decide +kernel
theorem dX8_member_41 : decode cX8_member 41 = .ok (.iadd, 1) := by decide +kernel
theorem dX8_member_42 : decode cX8_member 42 = .ok (.invokevirtual 224, 3) := by decide +kernel
theorem dX8_member_45 : decode cX8_member 45 = .ok (.aload_n 0, 1) := by decide +kernel
theorem dX8_member_46 : decode cX8_member 46 = .ok (.bipush 26, 2) := by decide +kernel
theorem dX8_member_48 : decode cX8_member 48 = .ok (.invokevirtual 138, 3) := by decide +kernel
theorem dX8_member_51 : decode cX8_member 51 = .ok (.aload_n 0, 1) := by decide +kernel
theorem dX8_member_52 : decode cX8_member 52 = .ok (.sipush 170, 3) := by decide +kernel
theorem dX8_member_55 : decode cX8_member 55 = .ok (.invokevirtual 138, 3) := by decide +kernel
theorem dX8_member_58 : decode cX8_member 58 = .ok (.aload_n 0, 1) := by decide +kernel
theorem dX8_member_59 : decode cX8_member 59 = .ok (.iconst 0, 1) := by decide +kernel
theorem dX8_member_60 : decode cX8_member 60 = .ok (.invokevirtual 142, 3) := by decide +kernel
theorem dX8_member_63 : decode cX8_member 63 = .ok (.aload_n 0, 1) := by decide +kernel
theorem dX8_member_64 : decode cX8_member 64 = .ok (.iload 6, 2) := by decide +kernel
theorem dX8_member_66 : decode cX8_member 66 = .ok (.iconst 1, 1) := by decide +kernel
theorem dX8_member_67 : decode cX8_member 67 = .ok (.isub, 1) := by decide +kernel
theorem dX8_member_68 : decode cX8_member 68 = .ok (.invokevirtual 194, 3) := by decide +kernel
theorem dX8_member_71 : decode cX8_member 71 = .ok (.aload_n 0, 1) := by decide +kernel
theorem dX8_member_72 : decode cX8_member 72 = .ok (.iload 4, 2) := by decide +kernel
theorem dX8_member_74 : decode cX8_member 74 = .ok (.invokevirtual 194, 3) := by decide +kernel
theorem dX8_member_77 : decode cX8_member 77 = .ok (.aload_n 0, 1) := by decide +kernel
theorem dX8_member_78 : decode cX8_member 78 = .ok (.iload_n 3, 1) := by decide +kernel
theorem dX8_member_79 : decode cX8_member 79 = .ok (.invokevirtual 194, 3) := by decide +kernel
theorem dX8_member_82 : decode cX8_member 82 = .ok (.iconst 0, 1) := by decide +kernel
theorem dX8_member_83 : decode cX8_member 83 = .ok (.istore 7, 2) := by decide +kernel
theorem dX8_member_85 : decode cX8_member 85 = .ok (.iload 7, 2) := by decide +kernel
theorem dX8_member_87 : decode cX8_member 87 = .ok (.iload 5, 2) := by decide +kernel
theorem dX8_member_89 : decode cX8_member 89 = .ok (.if_icmp .ge 28, 3) := by decide +kernel
theorem dX8_member_92 : decode cX8_member 92 = .ok (.aload_n 0, 1) := by decide +kernel
theorem dX8_member_93 : decode cX8_member 93 = .ok (.aload_n 0, 1) := by decide +kernel
theorem dX8_member_94 : decode cX8_member 94 = .ok (.iload_n 1, 1) := by decide +kernel
theorem dX8_member_95 : decode cX8_member 95 = .ok (.iload 4, 2) := by decide +kernel
theorem dX8_member_97 : decode cX8_member 97 = .ok (.iload 7, 2) := by decide +kernel
theorem dX8_member_99 : decode cX8_member 99 = .ok (.iadd, 1) := by decide +kernel
theorem dX8_member_100 : decode cX8_member 100 = .ok (.iload 4, 2) := by decide +kernel
theorem dX8_member_102 : decode cX8_member 102 = .ok (.iload_n 3, 1) := by decide +kernel
theorem dX8_member_103 : decode cX8_member 103 = .ok (.invokevirtual 213, 3) := by decide +kernel
theorem dX8_member_106 : decode cX8_member 106 = .ok (.iconst 1, 1) := by decide +kernel
theorem dX8_member_107 : decode cX8_member 107 = .ok (.isub, 1) := by decide +kernel
theorem dX8_member_108 : decode cX8_member 108 = .ok (.invokevirtual 194, 3) := by decide +kernel
theorem dX8_member_111 : decode cX8_member 111 = .ok (.iinc 7 1, 3) := by decide +kernel
theorem dX8_member_114 : decode cX8_member 114 = .ok (.goto (-29), 3) := by decide +kernel
theorem dX8_member_117 : decode cX8_member 117 = .ok (.iload 4, 2) := by decide +kernel
theorem dX8_member_119 : decode cX8_member 119 = .ok (.istore 7, 2) := by decide +kernel
theorem dX8_member_121 : decode cX8_member 121 = .ok (.iload 7, 2) := by decide +kernel
theorem dX8_member_123 : decode cX8_member 123 = .ok (.iload_n 3, 1) := by decide +kernel
theorem dX8_member_124 : decode cX8_member 124 = .ok (.if_icmp .gt 19, 3) := by decide +kernel
theorem dX8_member_127 : decode cX8_member 127 = .ok (.aload_n 0, 1) := by decide +kernel
theorem dX8_member_128 : decode cX8_member 128 = .ok (.iload_n 1, 1) := by decide +kernel
theorem dX8_member_129 : decode cX8_member 129 = .ok (.iload 7, 2) := by decide +kernel
theorem dX8_member_131 : decode cX8_member 131 = .ok (.iload 4, 2) := by decide +kernel
theorem dX8_member_133 : decode cX8_member 133 = .ok (.iload_n 3, 1) := by decide +kernel
theorem dX8_member_134 : decode cX8_member 134 = .ok (.invokevirtual 227, 3) := by decide +kernel
theorem dX8_member_137 : decode cX8_member 137 = .ok (.iinc 7 1, 3) := by decide +kernel
theorem dX8_member_140 : decode cX8_member 140 = .ok (.goto (-19), 3) := by decide +kernel
theorem dX8_member_143 : decode cX8_member 143 = .ok (.aload_n 0, 1) := by decide +kernel
theorem dX8_member_144 : decode cX8_member 144 = .ok (.bipush 17, 2) := by decide +kernel
theorem dX8_member_146 : decode cX8_member 146 = .ok (.invokevirtual 138, 3) := by decide +kernel
theorem dX8_member_149 : decode cX8_member 149 = .ok (.aload_n 0, 1) := by decide +kernel
theorem dX8_member_150 : decode cX8_member 150 = .ok (.iload_n 3, 1) := by decide +kernel
theorem dX8_member_151 : decode cX8_member 151 = .ok (.iconst 1, 1) := by decide +kernel
theorem dX8_member_152 : decode cX8_member 152 = .ok (.iadd, 1) := by decide +kernel
theorem dX8_member_153 : decode cX8_member 153 = .ok (.invokevirtual 142, 3) := by decide +kernel
theorem dX8_member_156 : decode cX8_member 156 = .ok (.aload_n 0, 1) := by decide +kernel
theorem dX8_member_157 : decode cX8_member 157 = .ok (.sipush 172, 3) := by decide +kernel
theorem dX8_member_160 : decode cX8_member 160 = .ok (.invokevirtual 138, 3) := by decide +kernel
theorem dX8_member_163 : decode cX8_member 163 = .ok (.aload_n 0, 1) := by decide +kernel
theorem dX8_member_164 : decode cX8_member 164 = .ok (.iconst 0, 1) := by decide +kernel
theorem dX8_member_165 : decode cX8_member 165 = .ok (.invokevirtual 194, 3) := by decide +kernel
theorem dX8_member_168 : decode cX8_member 168 = .ok (.return_, 1) := by decide +kernel
theorem dX8_build_0 : decode cX8_build 0 = .ok (.aload_n 0, 1) := by decide +kernel
theorem dX8_build_1 : decode cX8_build 1 = .ok (.iconst 0, 1) := by decide +kernel
theorem dX8_build_2 : decode cX8_build 2 = .ok (.putfield 135, 3) := by decide +kernel
theorem dX8_build_5 : decode cX8_build 5 = .ok (.aload_n 0, 1) := by decide +kernel
theorem dX8_build_6 : decode cX8_build 6 = .ok (.getfield 32, 3) := by decide +kernel
theorem dX8_build_9 : decode cX8_build 9 = .ok (.iload_n 1, 1) := by decide +kernel
theorem dX8_build_10 : decode cX8_build 10 = .ok (.iaload, 1) := by decide +kernel
theorem dX8_build_11 : decode cX8_build 11 = .ok (.istore_n 2, 1) := by decide +kernel
theorem dX8_build_12 : decode cX8_build 12 = .ok (.aload_n 0, 1) := by decide +kernel
theorem dX8_build_13 : decode cX8_build 13 = .ok (.getfield 35, 3) := by decide +kernel
theorem dX8_build_16 : decode cX8_build 16 = .ok (.iload_n 1, 1) := by decide +kernel
theorem dX8_build_17 : decode cX8_build 17 = .ok (.iaload, 1) := by decide +kernel
theorem dX8_build_18 : decode cX8_build 18 = .ok (.istore_n 3, 1) := by decide +kernel
theorem dX8_build_19 : decode cX8_build 19 = .ok (.iload_n 3, 1) := by decide +kernel
theorem dX8_build_20 : decode cX8_build 20 = .ok (.bipush 9, 2) := by decide +kernel
theorem dX8_build_22 : decode cX8_build 22 = .ok (.iadd, 1) := by decide +kernel
theorem dX8_build_23 : decode cX8_build 23 = .ok (.bipush 10, 2) := by decide +kernel
theorem dX8_build_25 : decode cX8_build 25 = .ok (.idiv, 1) := by decide +kernel
theorem dX8_build_26 : decode cX8_build 26 = .ok (.istore 4, 2) := by decide +kernel
theorem dX8_build_28 : decode cX8_build 28 = .ok (.aload_n 0, 1) := by decide +kernel
theorem dX8_build_29 : decode cX8_build 29 = .ok (.ldc 231, 2) := by decide +kernel
theorem dX8_build_31 : decode cX8_build 31 = .ok (.invokevirtual 194, 3) := by decide +kernel
theorem dX8_build_34 : decode cX8_build 34 = .ok (.aload_n 0, 1) := by decide +kernel
theorem dX8_build_35 : decode cX8_build 35 = .ok (.iconst 0, 1) := by decide +kernel
theorem dX8_build_36 : decode cX8_build 36 = .ok (.invokevirtual 142, 3) := by decide +kernel
theorem dX8_build_39 : decode cX8_build 39 = .ok (.aload_n 0, 1) := by decide +kernel
theorem dX8_build_40 : decode cX8_build 40 = .ok (.bipush 46, 2) := by decide +kernel
theorem dX8_build_42 : decode cX8_build 42 = .ok (.invokevirtual 142, 3) := by decide +kernel
theorem dX8_build_45 : decode cX8_build 45 = .ok (.aload_n 0, 1) := by decide +kernel
theorem dX8_build_46 : decode cX8_build 46 = .ok (.iload_n 2, 1) := by decide +kernel
theorem dX8_build_47 : decode cX8_build 47 = .ok (.iload 4, 2) := by decide +kernel
theorem dX8_build_49 : decode cX8_build 49 = .ok (.invokevirtual 232, 3) := by decide +kernel
theorem dX8_build_52 : decode cX8_build 52 = .ok (.aload_n 0, 1) := by decide +kernel
theorem dX8_build_53 : decode cX8_build 53 = .ok (.bipush 33, 2) := by decide +kernel
theorem dX8_build_55 : decode cX8_build 55 = .ok (.invokevirtual 142, 3) := by decide +kernel
theorem dX8_build_58 : decode cX8_build 58 = .ok (.aload_n 0, 1) := by decide +kernel
theorem dX8_build_59 : decode cX8_build 59 = .ok (.iconst 2, 1) := by decide +kernel
theorem dX8_build_60 : decode cX8_build 60 = .ok (.invokevirtual 142, 3) := by decide +kernel
theorem dX8_build_63 : decode cX8_build 63 = .ok (.aload_n 0, 1) := by decide +kernel
theorem dX8_build_64 : decode cX8_build 64 = .ok (.iconst 4, 1) := by decide +kernel
theorem dX8_build_65 : decode cX8_build 65 = .ok (.invokevirtual 142, 3) := by decide +kernel
theorem dX8_build_68 : decode cX8_build 68 = .ok (.aload_n 0, 1) := by decide +kernel
theorem dX8_build_69 : decode cX8_build 69 = .ok (.iconst 0, 1) := by decide +kernel
theorem dX8_build_70 : decode cX8_build 70 = .ok (.invokevirtual 142, 3) := by decide +kernel
theorem dX8_build_73 : decode cX8_build 73 = .ok (.aload_n 0, 1) := by decide +kernel
theorem dX8_build_74 : decode cX8_build 74 = .ok (.iconst 1, 1) := by decide +kernel
theorem dX8_build_75 : decode cX8_build 75 = .ok (.invokevirtual 142, 3) := by decide +kernel
theorem dX8_build_78 : decode cX8_build 78 = .ok (.aload_n 0, 1) := by decide +kernel
theorem dX8_build_79 : decode cX8_build 79 = .ok (.bipush 8, 2) := by decide +kernel
theorem dX8_build_81 : decode cX8_build 81 = .ok (.invokevirtual 142, 3) := by decide +kernel
theorem dX8_build_84 : decode cX8_build 84 = .ok (.aload_n 0, 1) := by decide +kernel
theorem dX8_build_85 : decode cX8_build 85 = .ok (.iconst 5, 1) := by decide +kernel
theorem dX8_build_86 : decode cX8_build 86 = .ok (.invokevirtual 142, 3) := by decide +kernel
theorem dX8_build_89 : decode cX8_build 89 = .ok (.aload_n 0, 1) := by decide +kernel
theorem dX8_build_90 : decode cX8_build 90 = .ok (.bipush 6, 2) := by decide +kernel
theorem dX8_build_92 : decode cX8_build 92 = .ok (.invokevirtual 142, 3) := by decide +kernel
theorem dX8_build_95 : decode cX8_build 95 = .ok (.aload_n 0, 1) := by decide +kernel
theorem dX8_build_96 : decode cX8_build 96 = .ok (.iconst 0, 1) := by decide +kernel
theorem dX8_build_97 : decode cX8_build 97 = .ok (.invokevirtual 142, 3) := by decide +kernel
theorem dX8_build_100 : decode cX8_build 100 = .ok (.aload_n 0, 1) := by decide +kernel
theorem dX8_build_101 : decode cX8_build 101 = .ok (.iconst 1, 1) := by decide +kernel
theorem dX8_build_102 : decode cX8_build 102 = .ok (.iload 4, 2) := by decide +kernel
theorem dX8_build_104 : decode cX8_build 104 = .ok (.iadd, 1) := by decide +kernel
theorem dX8_build_105 : decode cX8_build 105 = .ok (.invokevirtual 142, 3) := by decide +kernel
theorem dX8_build_108 : decode cX8_build 108 = .ok (.aload_n 0, 1) := by decide +kernel
theorem dX8_build_109 : decode cX8_build 109 = .ok (.bipush 26, 2) := by decide +kernel
theorem dX8_build_111 : decode cX8_build 111 = .ok (.bipush 27, 2) := by decide +kernel
theorem dX8_build_113 : decode cX8_build 113 = .ok (.iconst 2, 1) := by decide +kernel
theorem dX8_build_114 : decode cX8_build 114 = .ok (.iconst 0, 1) := by decide +kernel
theorem dX8_build_115 : decode cX8_build 115 = .ok (.aload_n 0, 1) := by decide +kernel
theorem dX8_build_116 : decode cX8_build 116 = .ok (.getfield 25, 3) := by decide +kernel
theorem dX8_build_119 : decode cX8_build 119 = .ok (.iload_n 2, 1) := by decide +kernel
theorem dX8_build_120 : decode cX8_build 120 = .ok (.baload, 1) := by decide +kernel
theorem dX8_build_121 : decode cX8_build 121 = .ok (.ifCond .eq 8, 3) := by decide +kernel
theorem dX8_build_124 : decode cX8_build 124 = .ok (.bipush 12, 2) := by decide +kernel
theorem dX8_build_126 : decode cX8_build 126 = .ok (.goto 5, 3) := by decide +kernel
theorem dX8_build_129 : decode cX8_build 129 = .ok (.bipush 8, 2) := by decide +kernel
theorem dX8_build_131 : decode cX8_build 131 = .ok (.invokevirtual 224, 3) := by decide +kernel
theorem dX8_build_134 : decode cX8_build 134 = .ok (.aload_n 0, 1) := by decide +kernel
theorem dX8_build_135 : decode cX8_build 135 = .ok (.getfield 25, 3) := by decide +kernel
theorem dX8_build_138 : decode cX8_build 138 = .ok (.iload_n 2, 1) := by decide +kernel
theorem dX8_build_139 : decode cX8_build 139 = .ok (.baload, 1) := by decide +kernel
theorem dX8_build_140 : decode cX8_build 140 = .ok (.ifCond .eq 9, 3) := by decide +kernel
theorem dX8_build_143 : decode cX8_build 143 = .ok (.aload_n 0, 1) := by decide +kernel
theorem dX8_build_144 : decode cX8_build 144 = .ok (.ldc 236, 2) := by decide +kernel
theorem dX8_build_146 : decode cX8_build 146 = .ok (.invokevirtual 194, 3) := by decide +kernel
theorem dX8_build_149 : decode cX8_build 149 = .ok (.aload_n 0, 1) := by decide +kernel
theorem dX8_build_150 : decode cX8_build 150 = .ok (.aload_n 0, 1) := by decide +kernel
theorem dX8_build_151 : decode cX8_build 151 = .ok (.getfield 7, 3) := by decide +kernel
theorem dX8_build_154 : decode cX8_build 154 = .ok (.iload_n 2, 1) := by decide +kernel
theorem dX8_build_155 : decode cX8_build 155 = .ok (.iaload, 1) := by decide +kernel
theorem dX8_build_156 : decode cX8_build 156 = .ok (.invokevirtual 210, 3) := by decide +kernel
theorem dX8_build_159 : decode cX8_build 159 = .ok (.aload_n 0, 1) := by decide +kernel
theorem dX8_build_160 : decode cX8_build 160 = .ok (.sipush 188, 3) := by decide +kernel
theorem dX8_build_163 : decode cX8_build 163 = .ok (.invokevirtual 138, 3) := by decide +kernel
theorem dX8_build_166 : decode cX8_build 166 = .ok (.aload_n 0, 1) := by decide +kernel
theorem dX8_build_167 : decode cX8_build 167 = .ok (.bipush 8, 2) := by decide +kernel
theorem dX8_build_169 : decode cX8_build 169 = .ok (.invokevirtual 138, 3) := by decide +kernel
theorem dX8_build_172 : decode cX8_build 172 = .ok (.aload_n 0, 1) := by decide +kernel
theorem dX8_build_173 : decode cX8_build 173 = .ok (.sipush 179, 3) := by decide +kernel
theorem dX8_build_176 : decode cX8_build 176 = .ok (.invokevirtual 138, 3) := by decide +kernel
theorem dX8_build_179 : decode cX8_build 179 = .ok (.aload_n 0, 1) := by decide +kernel
theorem dX8_build_180 : decode cX8_build 180 = .ok (.bipush 8, 2) := by decide +kernel
theorem dX8_build_182 : decode cX8_build 182 = .ok (.invokevirtual 142, 3) := by decide +kernel
theorem dX8_build_185 : decode cX8_build 185 = .ok (.aload_n 0, 1) := by decide +kernel
theorem dX8_build_186 : decode cX8_build 186 = .ok (.sipush 177, 3) := by decide +kernel
theorem dX8_build_189 : decode cX8_build 189 = .ok (.invokevirtual 138, 3) := by decide +kernel
theorem dX8_build_192 : decode cX8_build 192 = .ok (.aload_n 0, 1) := by decide +kernel
theorem dX8_build_193 : decode cX8_build 193 = .ok (.iconst 0, 1) := by decide +kernel
theorem dX8_build_194 : decode cX8_build 194 = .ok (.invokevirtual 194, 3) := by decide +kernel
theorem dX8_build_197 : decode cX8_build 197 = .ok (.iconst 0, 1) := by decide +kernel
theorem dX8_build_198 : decode cX8_build 198 = .ok (.istore 5, 2) := by decide +kernel
theorem dX8_build_200 : decode cX8_build 200 = .ok (.iload 5, 2) := by decide +kernel
theorem dX8_build_202 : decode cX8_build 202 = .ok (.iload 4, 2) := by decide +kernel
theorem dX8_build_204 : decode cX8_build 204 = .ok (.if_icmp .ge 40, 3) := by decide +kernel
theorem dX8_build_207 : decode cX8_build 207 = .ok (.aload_n 0, 1) := by decide +kernel
theorem dX8_build_208 : decode cX8_build 208 = .ok (.iload_n 2, 1) := by decide +kernel
theorem dX8_build_209 : decode cX8_build 209 = .ok (.iload 5, 2) := by decide +kernel
theorem dX8_build_211 : decode cX8_build 211 = .ok (.iload_n 3, 1) := by decide +kernel
theorem dX8_build_212 : decode cX8_build 212 = .ok (.bipush 10, 2) := by decide +kernel
theorem dX8_build_214 : decode cX8_build 214 = .ok (.iload 5, 2) := by decide +kernel
theorem dX8_build_216 : decode cX8_build 216 = .ok (.imul, 1) := by decide +kernel
theorem dX8_build_217 : decode cX8_build 217 = .ok (.bipush 10, 2) := by decide +kernel
theorem dX8_build_219 : decode cX8_build 219 = .ok (.iadd, 1) := by decide +kernel
theorem dX8_build_220 : decode cX8_build 220 = .ok (.if_icmp .ge 7, 3) := by decide +kernel
theorem dX8_build_223 : decode cX8_build 223 = .ok (.iload_n 3, 1) := by decide +kernel
theorem dX8_build_224 : decode cX8_build 224 = .ok (.goto 11, 3) := by decide +kernel
theorem dX8_build_227 : decode cX8_build 227 = .ok (.bipush 10, 2) := by decide +kernel
theorem dX8_build_229 : decode cX8_build 229 = .ok (.iload 5, 2) := by decide +kernel
theorem dX8_build_231 : decode cX8_build 231 = .ok (.imul, 1) := by decide +kernel
theorem dX8_build_232 : decode cX8_build 232 = .ok (.bipush 10, 2) := by decide +kernel
theorem dX8_build_234 : decode cX8_build 234 = .ok (.iadd, 1) := by decide +kernel
theorem dX8_build_235 : decode cX8_build 235 = .ok (.invokevirtual 237, 3) := by decide +kernel
theorem dX8_build_238 : decode cX8_build 238 = .ok (.iinc 5 1, 3) := by decide +kernel
theorem dX8_build_241 : decode cX8_build 241 = .ok (.goto (-41), 3) := by decide +kernel
theorem dX8_build_244 : decode cX8_build 244 = .ok (.aload_n 0, 1) := by decide +kernel
theorem dX8_build_245 : decode cX8_build 245 = .ok (.iconst 0, 1) := by decide +kernel
theorem dX8_build_246 : decode cX8_build 246 = .ok (.invokevirtual 142, 3) := by decide +kernel
theorem dX8_build_249 : decode cX8_build 249 = .ok (.return_, 1) := by decide +kernel
theorem dX8_octet_0 : decode cX8_octet 0 = .ok (.aload_n 0, 1) := by decide +kernel
theorem dX8_octet_1 : decode cX8_octet 1 = .ok (.iconst 1, 1) := by decide +kernel
theorem dX8_octet_2 : decode cX8_octet 2 = .ok (.putfield 87, 3) := by decide +kernel
theorem dX8_octet_5 : decode cX8_octet 5 = .ok (.iload_n 1, 1) := by decide +kernel
theorem dX8_octet_6 : decode cX8_octet 6 = .ok (.iconst 1, 1) := by decide +kernel
theorem dX8_octet_7 : decode cX8_octet 7 = .ok (.if_icmp .lt 11, 3) := by decide +kernel
theorem dX8_octet_10 : decode cX8_octet 10 = .ok (.iload_n 1, 1) := by decide +kernel
theorem dX8_octet_11 : decode cX8_octet 11 = .ok (.aload_n 0, 1) := by decide +kernel
theorem dX8_octet_12 : decode cX8_octet 12 = .ok (.getfield 113, 3) := by decide +kernel
theorem dX8_octet_15 : decode cX8_octet 15 = .ok (.if_icmp .le 5, 3) := by decide +kernel
theorem dX8_octet_18 : decode cX8_octet 18 = .ok (.iconst 0, 1) := by decide +kernel
theorem dX8_octet_19 : decode cX8_octet 19 = .ok (.ireturn, 1) := by decide +kernel
theorem dX8_octet_20 : decode cX8_octet 20 = .ok (.aload_n 0, 1) := by decide +kernel
theorem dX8_octet_21 : decode cX8_octet 21 = .ok (.iload_n 1, 1) := by decide +kernel
theorem dX8_octet_22 : decode cX8_octet 22 = .ok (.invokevirtual 240, 3) := by decide +kernel
theorem dX8_octet_25 : decode cX8_octet 25 = .ok (.aload_n 0, 1) := by decide +kernel
theorem dX8_octet_26 : decode cX8_octet 26 = .ok (.iload_n 2, 1) := by decide +kernel
theorem dX8_octet_27 : decode cX8_octet 27 = .ok (.ifCond .lt 15, 3) := by decide +kernel
theorem dX8_octet_30 : decode cX8_octet 30 = .ok (.iload_n 2, 1) := by decide +kernel
theorem dX8_octet_31 : decode cX8_octet 31 = .ok (.aload_n 0, 1) := by decide +kernel
theorem dX8_octet_32 : decode cX8_octet 32 = .ok (.getfield 135, 3) := by decide +kernel
theorem dX8_octet_35 : decode cX8_octet 35 = .ok (.if_icmp .ge 7, 3) := by decide +kernel
theorem dX8_octet_38 : decode cX8_octet 38 = .ok (.iconst 0, 1) := by decide +kernel
theorem dX8_octet_39 : decode cX8_octet 39 = .ok (.goto 4, 3) := by decide +kernel
theorem dX8_octet_42 : decode cX8_octet 42 = .ok (.iconst 1, 1) := by decide +kernel
theorem dX8_octet_43 : decode cX8_octet 43 = .ok (.putfield 87, 3) := by decide +kernel
theorem dX8_octet_46 : decode cX8_octet 46 = .ok (.aload_n 0, 1) := by decide +kernel
theorem dX8_octet_47 : decode cX8_octet 47 = .ok (.getfield 87, 3) := by decide +kernel
theorem dX8_octet_50 : decode cX8_octet 50 = .ok (.ifCond .ne 13, 3) := by decide +kernel
theorem dX8_octet_53 : decode cX8_octet 53 = .ok (.aload_n 0, 1) := by decide +kernel
theorem dX8_octet_54 : decode cX8_octet 54 = .ok (.getfield 84, 3) := by decide +kernel
theorem dX8_octet_57 : decode cX8_octet 57 = .ok (.iload_n 2, 1) := by decide +kernel
theorem dX8_octet_58 : decode cX8_octet 58 = .ok (.iaload, 1) := by decide +kernel
theorem dX8_octet_59 : decode cX8_octet 59 = .ok (.i2b, 1) := by decide +kernel
theorem dX8_octet_60 : decode cX8_octet 60 = .ok (.goto 4, 3) := by decide +kernel
theorem dX8_octet_63 : decode cX8_octet 63 = .ok (.iconst 0, 1) := by decide +kernel
theorem dX8_octet_64 : decode cX8_octet 64 = .ok (.ireturn, 1) := by decide +kernel
theorem dX8_plain_0 : decode cX8_plain 0 = .ok (.aload_n 0, 1) := by decide +kernel
theorem dX8_plain_1 : decode cX8_plain 1 = .ok (.iload_n 1, 1) := by decide +kernel
theorem dX8_plain_2 : decode cX8_plain 2 = .ok (.iconst 3, 1) := by decide +kernel
theorem dX8_plain_3 : decode cX8_plain 3 = .ok (.if_icmp .eq 8, 3) := by decide +kernel
theorem dX8_plain_6 : decode cX8_plain 6 = .ok (.iload_n 1, 1) := by decide +kernel
theorem dX8_plain_7 : decode cX8_plain 7 = .ok (.iconst 4, 1) := by decide +kernel
theorem dX8_plain_8 : decode cX8_plain 8 = .ok (.if_icmp .ne 14, 3) := by decide +kernel
theorem dX8_plain_11 : decode cX8_plain 11 = .ok (.lload 4, 2) := by decide +kernel
theorem dX8_plain_13 : decode cX8_plain 13 = .ok (.lconst 0, 1) := by decide +kernel
theorem dX8_plain_14 : decode cX8_plain 14 = .ok (.lcmp, 1) := by decide +kernel
theorem dX8_plain_15 : decode cX8_plain 15 = .ok (.ifCond .ne 7, 3) := by decide +kernel
theorem dX8_plain_18 : decode cX8_plain 18 = .ok (.iconst 1, 1) := by decide +kernel
theorem dX8_plain_19 : decode cX8_plain 19 = .ok (.goto 19, 3) := by decide +kernel
theorem dX8_plain_22 : decode cX8_plain 22 = .ok (.iload_n 1, 1) := by decide +kernel
theorem dX8_plain_23 : decode cX8_plain 23 = .ok (.iconst 5, 1) := by decide +kernel
theorem dX8_plain_24 : decode cX8_plain 24 = .ok (.if_icmp .ne 13, 3) := by decide +kernel
theorem dX8_plain_27 : decode cX8_plain 27 = .ok (.lload_n 2, 1) := by decide +kernel
theorem dX8_plain_28 : decode cX8_plain 28 = .ok (.lconst 0, 1) := by decide +kernel
theorem dX8_plain_29 : decode cX8_plain 29 = .ok (.lcmp, 1) := by decide +kernel
theorem dX8_plain_30 : decode cX8_plain 30 = .ok (.ifCond .ge 7, 3) := by decide +kernel
theorem dX8_plain_33 : decode cX8_plain 33 = .ok (.iconst 2, 1) := by decide +kernel
theorem dX8_plain_34 : decode cX8_plain 34 = .ok (.goto 4, 3) := by decide +kernel
theorem dX8_plain_37 : decode cX8_plain 37 = .ok (.iconst 0, 1) := by decide +kernel
theorem dX8_plain_38 : decode cX8_plain 38 = .ok (.putfield 87, 3) := by decide +kernel
theorem dX8_plain_41 : decode cX8_plain 41 = .ok (.aload_n 0, 1) := by decide +kernel
theorem dX8_plain_42 : decode cX8_plain 42 = .ok (.getfield 87, 3) := by decide +kernel
theorem dX8_plain_45 : decode cX8_plain 45 = .ok (.ifCond .le 5, 3) := by decide +kernel
theorem dX8_plain_48 : decode cX8_plain 48 = .ok (.lconst 0, 1) := by decide +kernel
theorem dX8_plain_49 : decode cX8_plain 49 = .ok (.lreturn, 1) := by decide +kernel
theorem dX8_plain_50 : decode cX8_plain 50 = .ok (.iload_n 1, 1) := by decide +kernel
theorem dX8_plain_51 : decode cX8_plain 51 = .ok (.tableswitch 106 0 5 #[37, 42, 47, 52, 72, 90], 37) := by decide +kernel
theorem dX8_plain_88 : decode cX8_plain 88 = .ok (.lload_n 2, 1) := by decide +kernel
theorem dX8_plain_89 : decode cX8_plain 89 = .ok (.lload 4, 2) := by decide +kernel
theorem dX8_plain_91 : decode cX8_plain 91 = .ok (.ladd, 1) := by decide +kernel
theorem dX8_plain_92 : decode cX8_plain 92 = .ok (.lreturn, 1) := by decide +kernel
theorem dX8_plain_93 : decode cX8_plain 93 = .ok (.lload_n 2, 1) := by decide +kernel
theorem dX8_plain_94 : decode cX8_plain 94 = .ok (.lload 4, 2) := by decide +kernel
theorem dX8_plain_96 : decode cX8_plain 96 = .ok (.lsub, 1) := by decide +kernel
theorem dX8_plain_97 : decode cX8_plain 97 = .ok (.lreturn, 1) := by decide +kernel
theorem dX8_plain_98 : decode cX8_plain 98 = .ok (.lload_n 2, 1) := by decide +kernel
theorem dX8_plain_99 : decode cX8_plain 99 = .ok (.lload 4, 2) := by decide +kernel
theorem dX8_plain_101 : decode cX8_plain 101 = .ok (.lmul, 1) := by decide +kernel
theorem dX8_plain_102 : decode cX8_plain 102 = .ok (.lreturn, 1) := by decide +kernel
theorem dX8_plain_103 : decode cX8_plain 103 = .ok (.lload 4, 2) := by decide +kernel
theorem dX8_plain_105 : decode cX8_plain 105 = .ok (.ldc2_w 243, 3) := by decide +kernel
theorem dX8_plain_108 : decode cX8_plain 108 = .ok (.lcmp, 1) := by decide +kernel
theorem dX8_plain_109 : decode cX8_plain 109 = .ok (.ifCond .ne 9, 3) := by decide +kernel
theorem dX8_plain_112 : decode cX8_plain 112 = .ok (.lconst 0, 1) := by decide +kernel
theorem dX8_plain_113 : decode cX8_plain 113 = .ok (.lload_n 2, 1) := by decide +kernel
theorem dX8_plain_114 : decode cX8_plain 114 = .ok (.lsub, 1) := by decide +kernel
theorem dX8_plain_115 : decode cX8_plain 115 = .ok (.goto 7, 3) := by decide +kernel
theorem dX8_plain_118 : decode cX8_plain 118 = .ok (.lload_n 2, 1) := by decide +kernel
theorem dX8_plain_119 : decode cX8_plain 119 = .ok (.lload 4, 2) := by decide +kernel
theorem dX8_plain_121 : decode cX8_plain 121 = .ok (.ldiv, 1) := by decide +kernel
theorem dX8_plain_122 : decode cX8_plain 122 = .ok (.lreturn, 1) := by decide +kernel
theorem dX8_plain_123 : decode cX8_plain 123 = .ok (.lload 4, 2) := by decide +kernel
theorem dX8_plain_125 : decode cX8_plain 125 = .ok (.ldc2_w 243, 3) := by decide +kernel
theorem dX8_plain_128 : decode cX8_plain 128 = .ok (.lcmp, 1) := by decide +kernel
theorem dX8_plain_129 : decode cX8_plain 129 = .ok (.ifCond .ne 7, 3) := by decide +kernel
theorem dX8_plain_132 : decode cX8_plain 132 = .ok (.lconst 0, 1) := by decide +kernel
theorem dX8_plain_133 : decode cX8_plain 133 = .ok (.goto 7, 3) := by decide +kernel
theorem dX8_plain_136 : decode cX8_plain 136 = .ok (.lload_n 2, 1) := by decide +kernel
theorem dX8_plain_137 : decode cX8_plain 137 = .ok (.lload 4, 2) := by decide +kernel
theorem dX8_plain_139 : decode cX8_plain 139 = .ok (.lrem, 1) := by decide +kernel
theorem dX8_plain_140 : decode cX8_plain 140 = .ok (.lreturn, 1) := by decide +kernel
theorem dX8_plain_141 : decode cX8_plain 141 = .ok (.lload_n 2, 1) := by decide +kernel
theorem dX8_plain_142 : decode cX8_plain 142 = .ok (.ldc2_w 245, 3) := by decide +kernel
theorem dX8_plain_145 : decode cX8_plain 145 = .ok (.lcmp, 1) := by decide +kernel
theorem dX8_plain_146 : decode cX8_plain 146 = .ok (.ifCond .le 9, 3) := by decide +kernel
theorem dX8_plain_149 : decode cX8_plain 149 = .ok (.ldc2_w 245, 3) := by decide +kernel
theorem dX8_plain_152 : decode cX8_plain 152 = .ok (.goto 4, 3) := by decide +kernel
theorem dX8_plain_155 : decode cX8_plain 155 = .ok (.lload_n 2, 1) := by decide +kernel
theorem dX8_plain_156 : decode cX8_plain 156 = .ok (.lreturn, 1) := by decide +kernel
theorem dX8_plain_157 : decode cX8_plain 157 = .ok (.lconst 0, 1) := by decide +kernel
theorem dX8_plain_158 : decode cX8_plain 158 = .ok (.lreturn, 1) := by decide +kernel
theorem dX8_count_0 : decode cX8_count 0 = .ok (.aload_n 0, 1) := by decide +kernel
theorem dX8_count_1 : decode cX8_count 1 = .ok (.iconst 0, 1) := by decide +kernel
theorem dX8_count_2 : decode cX8_count 2 = .ok (.putfield 87, 3) := by decide +kernel
theorem dX8_count_5 : decode cX8_count 5 = .ok (.iload_n 1, 1) := by decide +kernel
theorem dX8_count_6 : decode cX8_count 6 = .ok (.tableswitch 67 0 3 #[30, 35, 40, 45], 30) := by decide +kernel
theorem dX8_count_36 : decode cX8_count 36 = .ok (.aload_n 0, 1) := by decide +kernel
theorem dX8_count_37 : decode cX8_count 37 = .ok (.getfield 91, 3) := by decide +kernel
theorem dX8_count_40 : decode cX8_count 40 = .ok (.ireturn, 1) := by decide +kernel
theorem dX8_count_41 : decode cX8_count 41 = .ok (.aload_n 0, 1) := by decide +kernel
theorem dX8_count_42 : decode cX8_count 42 = .ok (.getfield 94, 3) := by decide +kernel
theorem dX8_count_45 : decode cX8_count 45 = .ok (.ireturn, 1) := by decide +kernel
theorem dX8_count_46 : decode cX8_count 46 = .ok (.aload_n 0, 1) := by decide +kernel
theorem dX8_count_47 : decode cX8_count 47 = .ok (.getfield 113, 3) := by decide +kernel
theorem dX8_count_50 : decode cX8_count 50 = .ok (.ireturn, 1) := by decide +kernel
theorem dX8_count_51 : decode cX8_count 51 = .ok (.aload_n 0, 1) := by decide +kernel
theorem dX8_count_52 : decode cX8_count 52 = .ok (.getfield 113, 3) := by decide +kernel
theorem dX8_count_55 : decode cX8_count 55 = .ok (.ifCond .ne 5, 3) := by decide +kernel
theorem dX8_count_58 : decode cX8_count 58 = .ok (.iconst 0, 1) := by decide +kernel
theorem dX8_count_59 : decode cX8_count 59 = .ok (.ireturn, 1) := by decide +kernel
theorem dX8_count_60 : decode cX8_count 60 = .ok (.aload_n 0, 1) := by decide +kernel
theorem dX8_count_61 : decode cX8_count 61 = .ok (.aload_n 0, 1) := by decide +kernel
theorem dX8_count_62 : decode cX8_count 62 = .ok (.getfield 113, 3) := by decide +kernel
theorem dX8_count_65 : decode cX8_count 65 = .ok (.invokevirtual 240, 3) := by decide +kernel
theorem dX8_count_68 : decode cX8_count 68 = .ok (.aload_n 0, 1) := by decide +kernel
theorem dX8_count_69 : decode cX8_count 69 = .ok (.getfield 135, 3) := by decide +kernel
theorem dX8_count_72 : decode cX8_count 72 = .ok (.ireturn, 1) := by decide +kernel
theorem dX8_count_73 : decode cX8_count 73 = .ok (.iconst (-1), 1) := by decide +kernel
theorem dX8_count_74 : decode cX8_count 74 = .ok (.ireturn, 1) := by decide +kernel
theorem dJx00060_init_a7421_0 : decode cJx00060_init_a7421 0 = .ok (.aload_n 0, 1) := by decide +kernel
theorem dJx00060_init_a7421_1 : decode cJx00060_init_a7421 1 = .ok (.aload_n 1, 1) := by decide +kernel
theorem dJx00060_init_a7421_2 : decode cJx00060_init_a7421 2 = .ok (.invokespecial 7, 3) := by decide +kernel
theorem dJx00060_init_a7421_5 : decode cJx00060_init_a7421 5 = .ok (.return_, 1) := by decide +kernel
theorem dJ9_min_7cf53_0 : decode cJ9_min_7cf53 0 = .ok (.iload_n 0, 1) := by decide +kernel
theorem dJ9_min_7cf53_1 : decode cJ9_min_7cf53 1 = .ok (.iload_n 1, 1) := by decide +kernel
theorem dJ9_min_7cf53_2 : decode cJ9_min_7cf53 2 = .ok (.if_icmp .gt 7, 3) := by decide +kernel
theorem dJ9_min_7cf53_5 : decode cJ9_min_7cf53 5 = .ok (.iload_n 0, 1) := by decide +kernel
theorem dJ9_min_7cf53_6 : decode cJ9_min_7cf53 6 = .ok (.goto 4, 3) := by decide +kernel
theorem dJ9_min_7cf53_9 : decode cJ9_min_7cf53 9 = .ok (.iload_n 1, 1) := by decide +kernel
theorem dJ9_min_7cf53_10 : decode cJ9_min_7cf53 10 = .ok (.ireturn, 1) := by decide +kernel
theorem dJ9_min_f86c9_0 : decode cJ9_min_f86c9 0 = .ok (.lload_n 0, 1) := by decide +kernel
theorem dJ9_min_f86c9_1 : decode cJ9_min_f86c9 1 = .ok (.lload_n 2, 1) := by decide +kernel
theorem dJ9_min_f86c9_2 : decode cJ9_min_f86c9 2 = .ok (.lcmp, 1) := by decide +kernel
theorem dJ9_min_f86c9_3 : decode cJ9_min_f86c9 3 = .ok (.ifCond .gt 7, 3) := by decide +kernel
theorem dJ9_min_f86c9_6 : decode cJ9_min_f86c9 6 = .ok (.lload_n 0, 1) := by decide +kernel
theorem dJ9_min_f86c9_7 : decode cJ9_min_f86c9 7 = .ok (.goto 4, 3) := by decide +kernel
theorem dJ9_min_f86c9_10 : decode cJ9_min_f86c9 10 = .ok (.lload_n 2, 1) := by decide +kernel
theorem dJ9_min_f86c9_11 : decode cJ9_min_f86c9 11 = .ok (.lreturn, 1) := by decide +kernel
theorem dJxde1cd_init_a7421_0 : decode cJxde1cd_init_a7421 0 = .ok (.aload_n 0, 1) := by decide +kernel
theorem dJxde1cd_init_a7421_1 : decode cJxde1cd_init_a7421 1 = .ok (.aload_n 1, 1) := by decide +kernel
theorem dJxde1cd_init_a7421_2 : decode cJxde1cd_init_a7421 2 = .ok (.invokespecial 7, 3) := by decide +kernel
theorem dJxde1cd_init_a7421_5 : decode cJxde1cd_init_a7421 5 = .ok (.return_, 1) := by decide +kernel
theorem dJ0_length_8abf5_0 : decode cJ0_length_8abf5 0 = .ok (.aload_n 0, 1) := by decide +kernel
theorem dJ0_length_8abf5_1 : decode cJ0_length_8abf5 1 = .ok (.getfield 9, 3) := by decide +kernel
theorem dJ0_length_8abf5_4 : decode cJ0_length_8abf5 4 = .ok (.arraylength, 1) := by decide +kernel
theorem dJ0_length_8abf5_5 : decode cJ0_length_8abf5 5 = .ok (.aload_n 0, 1) := by decide +kernel
theorem dJ0_length_8abf5_6 : decode cJ0_length_8abf5 6 = .ok (.invokevirtual 335, 3) := by decide +kernel
theorem dJ0_length_8abf5_9 : decode cJ0_length_8abf5 9 = .ok (.ishr, 1) := by decide +kernel
theorem dJ0_length_8abf5_10 : decode cJ0_length_8abf5 10 = .ok (.ireturn, 1) := by decide +kernel
theorem dJ0_charAt_5068e_0 : decode cJ0_charAt_5068e 0 = .ok (.aload_n 0, 1) := by decide +kernel
theorem dJ0_charAt_5068e_1 : decode cJ0_charAt_5068e 1 = .ok (.invokevirtual 492, 3) := by decide +kernel
theorem dJ0_charAt_5068e_4 : decode cJ0_charAt_5068e 4 = .ok (.ifCond .eq 12, 3) := by decide +kernel
theorem dJ0_charAt_5068e_7 : decode cJ0_charAt_5068e 7 = .ok (.aload_n 0, 1) := by decide +kernel
theorem dJ0_charAt_5068e_8 : decode cJ0_charAt_5068e 8 = .ok (.getfield 9, 3) := by decide +kernel
theorem dJ0_charAt_5068e_11 : decode cJ0_charAt_5068e 11 = .ok (.iload_n 1, 1) := by decide +kernel
theorem dJ0_charAt_5068e_12 : decode cJ0_charAt_5068e 12 = .ok (.invokestatic 495, 3) := by decide +kernel
theorem dJ0_charAt_5068e_15 : decode cJ0_charAt_5068e 15 = .ok (.ireturn, 1) := by decide +kernel
theorem dJ0_charAt_5068e_16 : decode cJ0_charAt_5068e 16 = .ok (.aload_n 0, 1) := by decide +kernel
theorem dJ0_charAt_5068e_17 : decode cJ0_charAt_5068e 17 = .ok (.getfield 9, 3) := by decide +kernel
theorem dJ0_charAt_5068e_20 : decode cJ0_charAt_5068e 20 = .ok (.iload_n 1, 1) := by decide +kernel
theorem dJ0_charAt_5068e_21 : decode cJ0_charAt_5068e 21 = .ok (.invokestatic 498, 3) := by decide +kernel
theorem dJ0_charAt_5068e_24 : decode cJ0_charAt_5068e 24 = .ok (.ireturn, 1) := by decide +kernel
theorem dJ0_coder_7d493_0 : decode cJ0_coder_7d493 0 = .ok (.getstatic 38, 3) := by decide +kernel
theorem dJ0_coder_7d493_3 : decode cJ0_coder_7d493 3 = .ok (.ifCond .eq 10, 3) := by decide +kernel
theorem dJ0_coder_7d493_6 : decode cJ0_coder_7d493 6 = .ok (.aload_n 0, 1) := by decide +kernel
theorem dJ0_coder_7d493_7 : decode cJ0_coder_7d493 7 = .ok (.getfield 15, 3) := by decide +kernel
theorem dJ0_coder_7d493_10 : decode cJ0_coder_7d493 10 = .ok (.goto 4, 3) := by decide +kernel
theorem dJ0_coder_7d493_13 : decode cJ0_coder_7d493 13 = .ok (.iconst 1, 1) := by decide +kernel
theorem dJ0_coder_7d493_14 : decode cJ0_coder_7d493 14 = .ok (.ireturn, 1) := by decide +kernel
theorem dJ0_isLatin1_aae02_0 : decode cJ0_isLatin1_aae02 0 = .ok (.getstatic 38, 3) := by decide +kernel
theorem dJ0_isLatin1_aae02_3 : decode cJ0_isLatin1_aae02 3 = .ok (.ifCond .eq 14, 3) := by decide +kernel
theorem dJ0_isLatin1_aae02_6 : decode cJ0_isLatin1_aae02 6 = .ok (.aload_n 0, 1) := by decide +kernel
theorem dJ0_isLatin1_aae02_7 : decode cJ0_isLatin1_aae02 7 = .ok (.getfield 15, 3) := by decide +kernel
theorem dJ0_isLatin1_aae02_10 : decode cJ0_isLatin1_aae02 10 = .ok (.ifCond .ne 7, 3) := by decide +kernel
theorem dJ0_isLatin1_aae02_13 : decode cJ0_isLatin1_aae02 13 = .ok (.iconst 1, 1) := by decide +kernel
theorem dJ0_isLatin1_aae02_14 : decode cJ0_isLatin1_aae02 14 = .ok (.goto 4, 3) := by decide +kernel
theorem dJ0_isLatin1_aae02_17 : decode cJ0_isLatin1_aae02 17 = .ok (.iconst 0, 1) := by decide +kernel
theorem dJ0_isLatin1_aae02_18 : decode cJ0_isLatin1_aae02 18 = .ok (.ireturn, 1) := by decide +kernel
theorem dJ0_checkIndex_df160_0 : decode cJ0_checkIndex_df160 0 = .ok (.iload_n 0, 1) := by decide +kernel
theorem dJ0_checkIndex_df160_1 : decode cJ0_checkIndex_df160 1 = .ok (.iload_n 1, 1) := by decide +kernel
theorem dJ0_checkIndex_df160_2 : decode cJ0_checkIndex_df160 2 = .ok (.getstatic 1053, 3) := by decide +kernel
theorem dJ0_checkIndex_df160_5 : decode cJ0_checkIndex_df160 5 = .ok (.invokestatic 1059, 3) := by decide +kernel
theorem dJ0_checkIndex_df160_8 : decode cJ0_checkIndex_df160 8 = .ok (.pop, 1) := by decide +kernel
theorem dJ0_checkIndex_df160_9 : decode cJ0_checkIndex_df160 9 = .ok (.return_, 1) := by decide +kernel
theorem dJ1_charAt_3b067_0 : decode cJ1_charAt_3b067 0 = .ok (.iload_n 1, 1) := by decide +kernel
theorem dJ1_charAt_3b067_1 : decode cJ1_charAt_3b067 1 = .ok (.aload_n 0, 1) := by decide +kernel
theorem dJ1_charAt_3b067_2 : decode cJ1_charAt_3b067 2 = .ok (.arraylength, 1) := by decide +kernel
theorem dJ1_charAt_3b067_3 : decode cJ1_charAt_3b067 3 = .ok (.invokestatic 9, 3) := by decide +kernel
theorem dJ1_charAt_3b067_6 : decode cJ1_charAt_3b067 6 = .ok (.aload_n 0, 1) := by decide +kernel
theorem dJ1_charAt_3b067_7 : decode cJ1_charAt_3b067 7 = .ok (.iload_n 1, 1) := by decide +kernel
theorem dJ1_charAt_3b067_8 : decode cJ1_charAt_3b067 8 = .ok (.baload, 1) := by decide +kernel
theorem dJ1_charAt_3b067_9 : decode cJ1_charAt_3b067 9 = .ok (.sipush 255, 3) := by decide +kernel
theorem dJ1_charAt_3b067_12 : decode cJ1_charAt_3b067 12 = .ok (.iand, 1) := by decide +kernel
theorem dJ1_charAt_3b067_13 : decode cJ1_charAt_3b067 13 = .ok (.i2c, 1) := by decide +kernel
theorem dJ1_charAt_3b067_14 : decode cJ1_charAt_3b067 14 = .ok (.ireturn, 1) := by decide +kernel
theorem dJ2_getChar_3b067_0 : decode cJ2_getChar_3b067 0 = .ok (.getstatic 44, 3) := by decide +kernel
theorem dJ2_getChar_3b067_3 : decode cJ2_getChar_3b067 3 = .ok (.ifCond .ne 25, 3) := by decide +kernel
theorem dJ2_getChar_3b067_6 : decode cJ2_getChar_3b067 6 = .ok (.iload_n 1, 1) := by decide +kernel
theorem dJ2_getChar_3b067_7 : decode cJ2_getChar_3b067 7 = .ok (.ifCond .lt 11, 3) := by decide +kernel
theorem dJ2_getChar_3b067_10 : decode cJ2_getChar_3b067 10 = .ok (.iload_n 1, 1) := by decide +kernel
theorem dJ2_getChar_3b067_11 : decode cJ2_getChar_3b067 11 = .ok (.aload_n 0, 1) := by decide +kernel
theorem dJ2_getChar_3b067_12 : decode cJ2_getChar_3b067 12 = .ok (.invokestatic 48, 3) := by decide +kernel
theorem dJ2_getChar_3b067_15 : decode cJ2_getChar_3b067 15 = .ok (.if_icmp .lt 13, 3) := by decide +kernel
theorem dJ2_getChar_3b067_18 : decode cJ2_getChar_3b067 18 = .ok (.new 52, 3) := by decide +kernel
theorem dJ2_getChar_3b067_21 : decode cJ2_getChar_3b067 21 = .ok (.dup, 1) := by decide +kernel
theorem dJ2_getChar_3b067_22 : decode cJ2_getChar_3b067 22 = .ok (.ldc 54, 2) := by decide +kernel
theorem dJ2_getChar_3b067_24 : decode cJ2_getChar_3b067 24 = .ok (.invokespecial 56, 3) := by decide +kernel
theorem dJ2_getChar_3b067_27 : decode cJ2_getChar_3b067 27 = .ok (.athrow, 1) := by decide +kernel
theorem dJ2_getChar_3b067_28 : decode cJ2_getChar_3b067 28 = .ok (.iload_n 1, 1) := by decide +kernel
theorem dJ2_getChar_3b067_29 : decode cJ2_getChar_3b067 29 = .ok (.iconst 1, 1) := by decide +kernel
theorem dJ2_getChar_3b067_30 : decode cJ2_getChar_3b067 30 = .ok (.ishl, 1) := by decide +kernel
theorem dJ2_getChar_3b067_31 : decode cJ2_getChar_3b067 31 = .ok (.istore_n 1, 1) := by decide +kernel
theorem dJ2_getChar_3b067_32 : decode cJ2_getChar_3b067 32 = .ok (.aload_n 0, 1) := by decide +kernel
theorem dJ2_getChar_3b067_33 : decode cJ2_getChar_3b067 33 = .ok (.iload_n 1, 1) := by decide +kernel
theorem dJ2_getChar_3b067_34 : decode cJ2_getChar_3b067 34 = .ok (.iinc 1 1, 3) := by decide +kernel
theorem dJ2_getChar_3b067_37 : decode cJ2_getChar_3b067 37 = .ok (.baload, 1) := by decide +kernel
theorem dJ2_getChar_3b067_38 : decode cJ2_getChar_3b067 38 = .ok (.sipush 255, 3) := by decide +kernel
theorem dJ2_getChar_3b067_41 : decode cJ2_getChar_3b067 41 = .ok (.iand, 1) := by decide +kernel
theorem dJ2_getChar_3b067_42 : decode cJ2_getChar_3b067 42 = .ok (.getstatic 59, 3) := by decide +kernel
theorem dJ2_getChar_3b067_45 : decode cJ2_getChar_3b067 45 = .ok (.ishl, 1) := by decide +kernel
theorem dJ2_getChar_3b067_46 : decode cJ2_getChar_3b067 46 = .ok (.aload_n 0, 1) := by decide +kernel
theorem dJ2_getChar_3b067_47 : decode cJ2_getChar_3b067 47 = .ok (.iload_n 1, 1) := by decide +kernel
theorem dJ2_getChar_3b067_48 : decode cJ2_getChar_3b067 48 = .ok (.baload, 1) := by decide +kernel
theorem dJ2_getChar_3b067_49 : decode cJ2_getChar_3b067 49 = .ok (.sipush 255, 3) := by decide +kernel
theorem dJ2_getChar_3b067_52 : decode cJ2_getChar_3b067 52 = .ok (.iand, 1) := by decide +kernel
theorem dJ2_getChar_3b067_53 : decode cJ2_getChar_3b067 53 = .ok (.getstatic 63, 3) := by decide +kernel
theorem dJ2_getChar_3b067_56 : decode cJ2_getChar_3b067 56 = .ok (.ishl, 1) := by decide +kernel
theorem dJ2_getChar_3b067_57 : decode cJ2_getChar_3b067 57 = .ok (.ior, 1) := by decide +kernel
theorem dJ2_getChar_3b067_58 : decode cJ2_getChar_3b067 58 = .ok (.i2c, 1) := by decide +kernel
theorem dJ2_getChar_3b067_59 : decode cJ2_getChar_3b067 59 = .ok (.ireturn, 1) := by decide +kernel
theorem dJ2_length_9d52b_0 : decode cJ2_length_9d52b 0 = .ok (.aload_n 0, 1) := by decide +kernel
theorem dJ2_length_9d52b_1 : decode cJ2_length_9d52b 1 = .ok (.arraylength, 1) := by decide +kernel
theorem dJ2_length_9d52b_2 : decode cJ2_length_9d52b 2 = .ok (.iconst 1, 1) := by decide +kernel
theorem dJ2_length_9d52b_3 : decode cJ2_length_9d52b 3 = .ok (.ishr, 1) := by decide +kernel
theorem dJ2_length_9d52b_4 : decode cJ2_length_9d52b 4 = .ok (.ireturn, 1) := by decide +kernel
theorem dJ2_charAt_3b067_0 : decode cJ2_charAt_3b067 0 = .ok (.iload_n 1, 1) := by decide +kernel
theorem dJ2_charAt_3b067_1 : decode cJ2_charAt_3b067 1 = .ok (.aload_n 0, 1) := by decide +kernel
theorem dJ2_charAt_3b067_2 : decode cJ2_charAt_3b067 2 = .ok (.invokestatic 67, 3) := by decide +kernel
theorem dJ2_charAt_3b067_5 : decode cJ2_charAt_3b067 5 = .ok (.aload_n 0, 1) := by decide +kernel
theorem dJ2_charAt_3b067_6 : decode cJ2_charAt_3b067 6 = .ok (.iload_n 1, 1) := by decide +kernel
theorem dJ2_charAt_3b067_7 : decode cJ2_charAt_3b067 7 = .ok (.invokestatic 71, 3) := by decide +kernel
theorem dJ2_charAt_3b067_10 : decode cJ2_charAt_3b067 10 = .ok (.ireturn, 1) := by decide +kernel
theorem dJ2_checkIndex_2214a_0 : decode cJ2_checkIndex_2214a 0 = .ok (.iload_n 0, 1) := by decide +kernel
theorem dJ2_checkIndex_2214a_1 : decode cJ2_checkIndex_2214a 1 = .ok (.aload_n 1, 1) := by decide +kernel
theorem dJ2_checkIndex_2214a_2 : decode cJ2_checkIndex_2214a 2 = .ok (.invokestatic 48, 3) := by decide +kernel
theorem dJ2_checkIndex_2214a_5 : decode cJ2_checkIndex_2214a 5 = .ok (.invokestatic 414, 3) := by decide +kernel
theorem dJ2_checkIndex_2214a_8 : decode cJ2_checkIndex_2214a 8 = .ok (.return_, 1) := by decide +kernel
theorem dJ7_fill_031fb_0 : decode cJ7_fill_031fb 0 = .ok (.iconst 0, 1) := by decide +kernel
theorem dJ7_fill_031fb_1 : decode cJ7_fill_031fb 1 = .ok (.istore_n 2, 1) := by decide +kernel
theorem dJ7_fill_031fb_2 : decode cJ7_fill_031fb 2 = .ok (.aload_n 0, 1) := by decide +kernel
theorem dJ7_fill_031fb_3 : decode cJ7_fill_031fb 3 = .ok (.arraylength, 1) := by decide +kernel
theorem dJ7_fill_031fb_4 : decode cJ7_fill_031fb 4 = .ok (.istore_n 3, 1) := by decide +kernel
theorem dJ7_fill_031fb_5 : decode cJ7_fill_031fb 5 = .ok (.iload_n 2, 1) := by decide +kernel
theorem dJ7_fill_031fb_6 : decode cJ7_fill_031fb 6 = .ok (.iload_n 3, 1) := by decide +kernel
theorem dJ7_fill_031fb_7 : decode cJ7_fill_031fb 7 = .ok (.if_icmp .ge 13, 3) := by decide +kernel
theorem dJ7_fill_031fb_10 : decode cJ7_fill_031fb 10 = .ok (.aload_n 0, 1) := by decide +kernel
theorem dJ7_fill_031fb_11 : decode cJ7_fill_031fb 11 = .ok (.iload_n 2, 1) := by decide +kernel
theorem dJ7_fill_031fb_12 : decode cJ7_fill_031fb 12 = .ok (.iload_n 1, 1) := by decide +kernel
theorem dJ7_fill_031fb_13 : decode cJ7_fill_031fb 13 = .ok (.bastore, 1) := by decide +kernel
theorem dJ7_fill_031fb_14 : decode cJ7_fill_031fb 14 = .ok (.iinc 2 1, 3) := by decide +kernel
theorem dJ7_fill_031fb_17 : decode cJ7_fill_031fb 17 = .ok (.goto (-12), 3) := by decide +kernel
theorem dJ7_fill_031fb_20 : decode cJ7_fill_031fb 20 = .ok (.return_, 1) := by decide +kernel
theorem dJ7_copyOf_9075b_0 : decode cJ7_copyOf_9075b 0 = .ok (.iload_n 1, 1) := by decide +kernel
theorem dJ7_copyOf_9075b_1 : decode cJ7_copyOf_9075b 1 = .ok (.aload_n 0, 1) := by decide +kernel
theorem dJ7_copyOf_9075b_2 : decode cJ7_copyOf_9075b 2 = .ok (.arraylength, 1) := by decide +kernel
theorem dJ7_copyOf_9075b_3 : decode cJ7_copyOf_9075b 3 = .ok (.if_icmp .ne 11, 3) := by decide +kernel
theorem dJ7_copyOf_9075b_6 : decode cJ7_copyOf_9075b 6 = .ok (.aload_n 0, 1) := by decide +kernel
theorem dJ7_copyOf_9075b_7 : decode cJ7_copyOf_9075b 7 = .ok (.invokevirtual 310, 3) := by decide +kernel
theorem dJ7_copyOf_9075b_10 : decode cJ7_copyOf_9075b 10 = .ok (.checkcast 311, 3) := by decide +kernel
theorem dJ7_copyOf_9075b_13 : decode cJ7_copyOf_9075b 13 = .ok (.areturn, 1) := by decide +kernel
theorem dJ7_copyOf_9075b_14 : decode cJ7_copyOf_9075b 14 = .ok (.iload_n 1, 1) := by decide +kernel
theorem dJ7_copyOf_9075b_15 : decode cJ7_copyOf_9075b 15 = .ok (.newarray .byte, 2) := by decide +kernel
theorem dJ7_copyOf_9075b_17 : decode cJ7_copyOf_9075b 17 = .ok (.astore_n 2, 1) := by decide +kernel
theorem dJ7_copyOf_9075b_18 : decode cJ7_copyOf_9075b 18 = .ok (.aload_n 0, 1) := by decide +kernel
theorem dJ7_copyOf_9075b_19 : decode cJ7_copyOf_9075b 19 = .ok (.iconst 0, 1) := by decide +kernel
theorem dJ7_copyOf_9075b_20 : decode cJ7_copyOf_9075b 20 = .ok (.aload_n 2, 1) := by decide +kernel
theorem dJ7_copyOf_9075b_21 : decode cJ7_copyOf_9075b 21 = .ok (.iconst 0, 1) := by decide +kernel
theorem dJ7_copyOf_9075b_22 : decode cJ7_copyOf_9075b 22 = .ok (.aload_n 0, 1) := by decide +kernel
theorem dJ7_copyOf_9075b_23 : decode cJ7_copyOf_9075b 23 = .ok (.arraylength, 1) := by decide +kernel
theorem dJ7_copyOf_9075b_24 : decode cJ7_copyOf_9075b 24 = .ok (.iload_n 1, 1) := by decide +kernel
theorem dJ7_copyOf_9075b_25 : decode cJ7_copyOf_9075b 25 = .ok (.invokestatic 304, 3) := by decide +kernel
theorem dJ7_copyOf_9075b_28 : decode cJ7_copyOf_9075b 28 = .ok (.invokestatic 150, 3) := by decide +kernel
theorem dJ7_copyOf_9075b_31 : decode cJ7_copyOf_9075b 31 = .ok (.aload_n 2, 1) := by decide +kernel
theorem dJ7_copyOf_9075b_32 : decode cJ7_copyOf_9075b 32 = .ok (.areturn, 1) := by decide +kernel
theorem dJ3_checkIndex_8e157_0 : decode cJ3_checkIndex_8e157 0 = .ok (.iload_n 0, 1) := by decide +kernel
theorem dJ3_checkIndex_8e157_1 : decode cJ3_checkIndex_8e157 1 = .ok (.ifCond .lt 8, 3) := by decide +kernel
theorem dJ3_checkIndex_8e157_4 : decode cJ3_checkIndex_8e157 4 = .ok (.iload_n 0, 1) := by decide +kernel
theorem dJ3_checkIndex_8e157_5 : decode cJ3_checkIndex_8e157 5 = .ok (.iload_n 1, 1) := by decide +kernel
theorem dJ3_checkIndex_8e157_6 : decode cJ3_checkIndex_8e157 6 = .ok (.if_icmp .lt 10, 3) := by decide +kernel
theorem dJ3_checkIndex_8e157_9 : decode cJ3_checkIndex_8e157 9 = .ok (.aload_n 2, 1) := by decide +kernel
theorem dJ3_checkIndex_8e157_10 : decode cJ3_checkIndex_8e157 10 = .ok (.iload_n 0, 1) := by decide +kernel
theorem dJ3_checkIndex_8e157_11 : decode cJ3_checkIndex_8e157 11 = .ok (.iload_n 1, 1) := by decide +kernel
theorem dJ3_checkIndex_8e157_12 : decode cJ3_checkIndex_8e157 12 = .ok (.invokestatic 95, 3) := by decide +kernel
theorem dJ3_checkIndex_8e157_15 : decode cJ3_checkIndex_8e157 15 = .ok (.athrow, 1) := by decide +kernel
theorem dJ3_checkIndex_8e157_16 : decode cJ3_checkIndex_8e157 16 = .ok (.iload_n 0, 1) := by decide +kernel
theorem dJ3_checkIndex_8e157_17 : decode cJ3_checkIndex_8e157 17 = .ok (.ireturn, 1) := by decide +kernel
theorem dL_at_0 : decode cL_at 0 = .ok (.aload 4, 2) := by decide +kernel
theorem dL_at_2 : decode cL_at 2 = .ok (.iconst 0, 1) := by decide +kernel
theorem dL_at_3 : decode cL_at 3 = .ok (.aload_n 0, 1) := by decide +kernel
theorem dL_at_4 : decode cL_at 4 = .ok (.iload_n 1, 1) := by decide +kernel
theorem dL_at_5 : decode cL_at 5 = .ok (.iload_n 2, 1) := by decide +kernel
theorem dL_at_6 : decode cL_at 6 = .ok (.iload_n 3, 1) := by decide +kernel
theorem dL_at_7 : decode cL_at 7 = .ok (.invokevirtual 7, 3) := by decide +kernel
theorem dL_at_10 : decode cL_at 10 = .ok (.i2l, 1) := by decide +kernel
theorem dL_at_11 : decode cL_at 11 = .ok (.lastore, 1) := by decide +kernel
theorem dL_at_12 : decode cL_at 12 = .ok (.goto 7, 3) := by decide +kernel
theorem dL_at_15 : decode cL_at 15 = .ok (.astore 5, 2) := by decide +kernel
theorem dL_at_17 : decode cL_at 17 = .ok (.iconst 1, 1) := by decide +kernel
theorem dL_at_18 : decode cL_at 18 = .ok (.ireturn, 1) := by decide +kernel
theorem dL_at_19 : decode cL_at 19 = .ok (.iconst 0, 1) := by decide +kernel
theorem dL_at_20 : decode cL_at 20 = .ok (.ireturn, 1) := by decide +kernel
theorem dL_octet_0 : decode cL_octet 0 = .ok (.aload_n 3, 1) := by decide +kernel
theorem dL_octet_1 : decode cL_octet 1 = .ok (.iconst 0, 1) := by decide +kernel
theorem dL_octet_2 : decode cL_octet 2 = .ok (.aload_n 0, 1) := by decide +kernel
theorem dL_octet_3 : decode cL_octet 3 = .ok (.iload_n 1, 1) := by decide +kernel
theorem dL_octet_4 : decode cL_octet 4 = .ok (.iload_n 2, 1) := by decide +kernel
theorem dL_octet_5 : decode cL_octet 5 = .ok (.invokevirtual 15, 3) := by decide +kernel
theorem dL_octet_8 : decode cL_octet 8 = .ok (.i2l, 1) := by decide +kernel
theorem dL_octet_9 : decode cL_octet 9 = .ok (.lastore, 1) := by decide +kernel
theorem dL_octet_10 : decode cL_octet 10 = .ok (.goto 7, 3) := by decide +kernel
theorem dL_octet_13 : decode cL_octet 13 = .ok (.astore 4, 2) := by decide +kernel
theorem dL_octet_15 : decode cL_octet 15 = .ok (.iconst 1, 1) := by decide +kernel
theorem dL_octet_16 : decode cL_octet 16 = .ok (.ireturn, 1) := by decide +kernel
theorem dL_octet_17 : decode cL_octet 17 = .ok (.iconst 0, 1) := by decide +kernel
theorem dL_octet_18 : decode cL_octet 18 = .ok (.ireturn, 1) := by decide +kernel
theorem dL_plain_0 : decode cL_plain 0 = .ok (.aload 6, 2) := by decide +kernel
theorem dL_plain_2 : decode cL_plain 2 = .ok (.iconst 0, 1) := by decide +kernel
theorem dL_plain_3 : decode cL_plain 3 = .ok (.aload_n 0, 1) := by decide +kernel
theorem dL_plain_4 : decode cL_plain 4 = .ok (.iload_n 1, 1) := by decide +kernel
theorem dL_plain_5 : decode cL_plain 5 = .ok (.lload_n 2, 1) := by decide +kernel
theorem dL_plain_6 : decode cL_plain 6 = .ok (.lload 4, 2) := by decide +kernel
theorem dL_plain_8 : decode cL_plain 8 = .ok (.invokevirtual 19, 3) := by decide +kernel
theorem dL_plain_11 : decode cL_plain 11 = .ok (.lastore, 1) := by decide +kernel
theorem dL_plain_12 : decode cL_plain 12 = .ok (.goto 11, 3) := by decide +kernel
theorem dL_plain_15 : decode cL_plain 15 = .ok (.astore 7, 2) := by decide +kernel
theorem dL_plain_17 : decode cL_plain 17 = .ok (.iconst 1, 1) := by decide +kernel
theorem dL_plain_18 : decode cL_plain 18 = .ok (.ireturn, 1) := by decide +kernel
theorem dL_plain_19 : decode cL_plain 19 = .ok (.astore 7, 2) := by decide +kernel
theorem dL_plain_21 : decode cL_plain 21 = .ok (.iconst 2, 1) := by decide +kernel
theorem dL_plain_22 : decode cL_plain 22 = .ok (.ireturn, 1) := by decide +kernel
theorem dL_plain_23 : decode cL_plain 23 = .ok (.iconst 0, 1) := by decide +kernel
theorem dL_plain_24 : decode cL_plain 24 = .ok (.ireturn, 1) := by decide +kernel
theorem dL_law_0 : decode cL_law 0 = .ok (.new 8, 3) := by decide +kernel
theorem dL_law_3 : decode cL_law 3 = .ok (.dup, 1) := by decide +kernel
theorem dL_law_4 : decode cL_law 4 = .ok (.invokespecial 27, 3) := by decide +kernel
theorem dL_law_7 : decode cL_law 7 = .ok (.astore_n 1, 1) := by decide +kernel
theorem dL_law_8 : decode cL_law 8 = .ok (.new 28, 3) := by decide +kernel
theorem dL_law_11 : decode cL_law 11 = .ok (.dup, 1) := by decide +kernel
theorem dL_law_12 : decode cL_law 12 = .ok (.invokespecial 30, 3) := by decide +kernel
theorem dL_law_15 : decode cL_law 15 = .ok (.astore_n 2, 1) := by decide +kernel
theorem dL_law_16 : decode cL_law 16 = .ok (.iconst 1, 1) := by decide +kernel
theorem dL_law_17 : decode cL_law 17 = .ok (.newarray .long, 2) := by decide +kernel
theorem dL_law_19 : decode cL_law 19 = .ok (.astore_n 3, 1) := by decide +kernel
theorem dL_law_20 : decode cL_law 20 = .ok (.iconst 0, 1) := by decide +kernel
theorem dL_law_21 : decode cL_law 21 = .ok (.istore 4, 2) := by decide +kernel
theorem dL_law_23 : decode cL_law 23 = .ok (.iload 4, 2) := by decide +kernel
theorem dL_law_25 : decode cL_law 25 = .ok (.aload_n 0, 1) := by decide +kernel
theorem dL_law_26 : decode cL_law 26 = .ok (.arraylength, 1) := by decide +kernel
theorem dL_law_27 : decode cL_law 27 = .ok (.bipush 6, 2) := by decide +kernel
theorem dL_law_29 : decode cL_law 29 = .ok (.isub, 1) := by decide +kernel
theorem dL_law_30 : decode cL_law 30 = .ok (.if_icmp .gt 807, 3) := by decide +kernel
theorem dL_law_33 : decode cL_law 33 = .ok (.aload_n 0, 1) := by decide +kernel
theorem dL_law_34 : decode cL_law 34 = .ok (.iload 4, 2) := by decide +kernel
theorem dL_law_36 : decode cL_law 36 = .ok (.iaload, 1) := by decide +kernel
theorem dL_law_37 : decode cL_law 37 = .ok (.bipush 15, 2) := by decide +kernel
theorem dL_law_39 : decode cL_law 39 = .ok (.iand, 1) := by decide +kernel
theorem dL_law_40 : decode cL_law 40 = .ok (.tableswitch 791 0 14 #[76, 129, 190, 203, 240, 277, 357, 382, 419, 456, 524, 561, 598, 741, 766], 76) := by decide +kernel
theorem dL_law_116 : decode cL_law 116 = .ok (.aload_n 1, 1) := by decide +kernel
theorem dL_law_117 : decode cL_law 117 = .ok (.aload_n 0, 1) := by decide +kernel
theorem dL_law_118 : decode cL_law 118 = .ok (.iload 4, 2) := by decide +kernel
theorem dL_law_120 : decode cL_law 120 = .ok (.iconst 1, 1) := by decide +kernel
theorem dL_law_121 : decode cL_law 121 = .ok (.iadd, 1) := by decide +kernel
theorem dL_law_122 : decode cL_law 122 = .ok (.iaload, 1) := by decide +kernel
theorem dL_law_123 : decode cL_law 123 = .ok (.aload_n 0, 1) := by decide +kernel
theorem dL_law_124 : decode cL_law 124 = .ok (.iload 4, 2) := by decide +kernel
theorem dL_law_126 : decode cL_law 126 = .ok (.iconst 2, 1) := by decide +kernel
theorem dL_law_127 : decode cL_law 127 = .ok (.iadd, 1) := by decide +kernel
theorem dL_law_128 : decode cL_law 128 = .ok (.iaload, 1) := by decide +kernel
theorem dL_law_129 : decode cL_law 129 = .ok (.ifCond .eq 7, 3) := by decide +kernel
theorem dL_law_132 : decode cL_law 132 = .ok (.iconst 1, 1) := by decide +kernel
theorem dL_law_133 : decode cL_law 133 = .ok (.goto 4, 3) := by decide +kernel
theorem dL_law_136 : decode cL_law 136 = .ok (.iconst 0, 1) := by decide +kernel
theorem dL_law_137 : decode cL_law 137 = .ok (.invokevirtual 31, 3) := by decide +kernel
theorem dL_law_140 : decode cL_law 140 = .ok (.aload_n 2, 1) := by decide +kernel
theorem dL_law_141 : decode cL_law 141 = .ok (.aload_n 0, 1) := by decide +kernel
theorem dL_law_142 : decode cL_law 142 = .ok (.iload 4, 2) := by decide +kernel
theorem dL_law_144 : decode cL_law 144 = .ok (.iconst 1, 1) := by decide +kernel
theorem dL_law_145 : decode cL_law 145 = .ok (.iadd, 1) := by decide +kernel
theorem dL_law_146 : decode cL_law 146 = .ok (.iaload, 1) := by decide +kernel
theorem dL_law_147 : decode cL_law 147 = .ok (.aload_n 0, 1) := by decide +kernel
theorem dL_law_148 : decode cL_law 148 = .ok (.iload 4, 2) := by decide +kernel
theorem dL_law_150 : decode cL_law 150 = .ok (.iconst 2, 1) := by decide +kernel
theorem dL_law_151 : decode cL_law 151 = .ok (.iadd, 1) := by decide +kernel
theorem dL_law_152 : decode cL_law 152 = .ok (.iaload, 1) := by decide +kernel
theorem dL_law_153 : decode cL_law 153 = .ok (.ifCond .eq 7, 3) := by decide +kernel
theorem dL_law_156 : decode cL_law 156 = .ok (.iconst 1, 1) := by decide +kernel
theorem dL_law_157 : decode cL_law 157 = .ok (.goto 4, 3) := by decide +kernel
theorem dL_law_160 : decode cL_law 160 = .ok (.iconst 0, 1) := by decide +kernel
theorem dL_law_161 : decode cL_law 161 = .ok (.invokevirtual 35, 3) := by decide +kernel
theorem dL_law_164 : decode cL_law 164 = .ok (.if_icmp .eq 667, 3) := by decide +kernel
theorem dL_law_167 : decode cL_law 167 = .ok (.iconst 0, 1) := by decide +kernel
theorem dL_law_168 : decode cL_law 168 = .ok (.ireturn, 1) := by decide +kernel
theorem dL_law_169 : decode cL_law 169 = .ok (.aload_n 1, 1) := by decide +kernel
theorem dL_law_170 : decode cL_law 170 = .ok (.aload_n 0, 1) := by decide +kernel
theorem dL_law_171 : decode cL_law 171 = .ok (.iload 4, 2) := by decide +kernel
theorem dL_law_173 : decode cL_law 173 = .ok (.iconst 1, 1) := by decide +kernel
theorem dL_law_174 : decode cL_law 174 = .ok (.iadd, 1) := by decide +kernel
theorem dL_law_175 : decode cL_law 175 = .ok (.iaload, 1) := by decide +kernel
theorem dL_law_176 : decode cL_law 176 = .ok (.aload_n 0, 1) := by decide +kernel
theorem dL_law_177 : decode cL_law 177 = .ok (.iload 4, 2) := by decide +kernel
theorem dL_law_179 : decode cL_law 179 = .ok (.iconst 2, 1) := by decide +kernel
theorem dL_law_180 : decode cL_law 180 = .ok (.iadd, 1) := by decide +kernel
theorem dL_law_181 : decode cL_law 181 = .ok (.iaload, 1) := by decide +kernel
theorem dL_law_182 : decode cL_law 182 = .ok (.aload_n 0, 1) := by decide +kernel
theorem dL_law_183 : decode cL_law 183 = .ok (.iload 4, 2) := by decide +kernel
theorem dL_law_185 : decode cL_law 185 = .ok (.iconst 3, 1) := by decide +kernel
theorem dL_law_186 : decode cL_law 186 = .ok (.iadd, 1) := by decide +kernel
theorem dL_law_187 : decode cL_law 187 = .ok (.iaload, 1) := by decide +kernel
theorem dL_law_188 : decode cL_law 188 = .ok (.aload_n 0, 1) := by decide +kernel
theorem dL_law_189 : decode cL_law 189 = .ok (.iload 4, 2) := by decide +kernel
theorem dL_law_191 : decode cL_law 191 = .ok (.iconst 4, 1) := by decide +kernel
theorem dL_law_192 : decode cL_law 192 = .ok (.iadd, 1) := by decide +kernel
theorem dL_law_193 : decode cL_law 193 = .ok (.iaload, 1) := by decide +kernel
theorem dL_law_194 : decode cL_law 194 = .ok (.invokevirtual 36, 3) := by decide +kernel
theorem dL_law_197 : decode cL_law 197 = .ok (.aload_n 2, 1) := by decide +kernel
theorem dL_law_198 : decode cL_law 198 = .ok (.aload_n 0, 1) := by decide +kernel
theorem dL_law_199 : decode cL_law 199 = .ok (.iload 4, 2) := by decide +kernel
theorem dL_law_201 : decode cL_law 201 = .ok (.iconst 1, 1) := by decide +kernel
theorem dL_law_202 : decode cL_law 202 = .ok (.iadd, 1) := by decide +kernel
theorem dL_law_203 : decode cL_law 203 = .ok (.iaload, 1) := by decide +kernel
theorem dL_law_204 : decode cL_law 204 = .ok (.aload_n 0, 1) := by decide +kernel
theorem dL_law_205 : decode cL_law 205 = .ok (.iload 4, 2) := by decide +kernel
theorem dL_law_207 : decode cL_law 207 = .ok (.iconst 2, 1) := by decide +kernel
theorem dL_law_208 : decode cL_law 208 = .ok (.iadd, 1) := by decide +kernel
theorem dL_law_209 : decode cL_law 209 = .ok (.iaload, 1) := by decide +kernel
theorem dL_law_210 : decode cL_law 210 = .ok (.aload_n 0, 1) := by decide +kernel
theorem dL_law_211 : decode cL_law 211 = .ok (.iload 4, 2) := by decide +kernel
theorem dL_law_213 : decode cL_law 213 = .ok (.iconst 3, 1) := by decide +kernel
theorem dL_law_214 : decode cL_law 214 = .ok (.iadd, 1) := by decide +kernel
theorem dL_law_215 : decode cL_law 215 = .ok (.iaload, 1) := by decide +kernel
theorem dL_law_216 : decode cL_law 216 = .ok (.aload_n 0, 1) := by decide +kernel
theorem dL_law_217 : decode cL_law 217 = .ok (.iload 4, 2) := by decide +kernel
theorem dL_law_219 : decode cL_law 219 = .ok (.iconst 4, 1) := by decide +kernel
theorem dL_law_220 : decode cL_law 220 = .ok (.iadd, 1) := by decide +kernel
theorem dL_law_221 : decode cL_law 221 = .ok (.iaload, 1) := by decide +kernel
theorem dL_law_222 : decode cL_law 222 = .ok (.invokevirtual 40, 3) := by decide +kernel
theorem dL_law_225 : decode cL_law 225 = .ok (.if_icmp .eq 606, 3) := by decide +kernel
theorem dL_law_228 : decode cL_law 228 = .ok (.iconst 0, 1) := by decide +kernel
theorem dL_law_229 : decode cL_law 229 = .ok (.ireturn, 1) := by decide +kernel
theorem dL_law_230 : decode cL_law 230 = .ok (.aload_n 1, 1) := by decide +kernel
theorem dL_law_231 : decode cL_law 231 = .ok (.invokevirtual 41, 3) := by decide +kernel
theorem dL_law_234 : decode cL_law 234 = .ok (.aload_n 2, 1) := by decide +kernel
theorem dL_law_235 : decode cL_law 235 = .ok (.invokevirtual 45, 3) := by decide +kernel
theorem dL_law_238 : decode cL_law 238 = .ok (.if_icmp .eq 593, 3) := by decide +kernel
theorem dL_law_241 : decode cL_law 241 = .ok (.iconst 0, 1) := by decide +kernel
theorem dL_law_242 : decode cL_law 242 = .ok (.ireturn, 1) := by decide +kernel
theorem dL_law_243 : decode cL_law 243 = .ok (.aload_n 1, 1) := by decide +kernel
theorem dL_law_244 : decode cL_law 244 = .ok (.aload_n 0, 1) := by decide +kernel
theorem dL_law_245 : decode cL_law 245 = .ok (.iload 4, 2) := by decide +kernel
theorem dL_law_247 : decode cL_law 247 = .ok (.iconst 1, 1) := by decide +kernel
theorem dL_law_248 : decode cL_law 248 = .ok (.iadd, 1) := by decide +kernel
theorem dL_law_249 : decode cL_law 249 = .ok (.iaload, 1) := by decide +kernel
theorem dL_law_250 : decode cL_law 250 = .ok (.aload_n 0, 1) := by decide +kernel
theorem dL_law_251 : decode cL_law 251 = .ok (.iload 4, 2) := by decide +kernel
theorem dL_law_253 : decode cL_law 253 = .ok (.iconst 2, 1) := by decide +kernel
theorem dL_law_254 : decode cL_law 254 = .ok (.iadd, 1) := by decide +kernel
theorem dL_law_255 : decode cL_law 255 = .ok (.iaload, 1) := by decide +kernel
theorem dL_law_256 : decode cL_law 256 = .ok (.invokevirtual 46, 3) := by decide +kernel
theorem dL_law_259 : decode cL_law 259 = .ok (.aload_n 2, 1) := by decide +kernel
theorem dL_law_260 : decode cL_law 260 = .ok (.aload_n 0, 1) := by decide +kernel
theorem dL_law_261 : decode cL_law 261 = .ok (.iload 4, 2) := by decide +kernel
theorem dL_law_263 : decode cL_law 263 = .ok (.iconst 1, 1) := by decide +kernel
theorem dL_law_264 : decode cL_law 264 = .ok (.iadd, 1) := by decide +kernel
theorem dL_law_265 : decode cL_law 265 = .ok (.iaload, 1) := by decide +kernel
theorem dL_law_266 : decode cL_law 266 = .ok (.aload_n 0, 1) := by decide +kernel
theorem dL_law_267 : decode cL_law 267 = .ok (.iload 4, 2) := by decide +kernel
theorem dL_law_269 : decode cL_law 269 = .ok (.iconst 2, 1) := by decide +kernel
theorem dL_law_270 : decode cL_law 270 = .ok (.iadd, 1) := by decide +kernel
theorem dL_law_271 : decode cL_law 271 = .ok (.iaload, 1) := by decide +kernel
theorem dL_law_272 : decode cL_law 272 = .ok (.invokevirtual 50, 3) := by decide +kernel
theorem dL_law_275 : decode cL_law 275 = .ok (.if_icmp .eq 556, 3) := by decide +kernel
theorem dL_law_278 : decode cL_law 278 = .ok (.iconst 0, 1) := by decide +kernel
theorem dL_law_279 : decode cL_law 279 = .ok (.ireturn, 1) := by decide +kernel
theorem dL_law_280 : decode cL_law 280 = .ok (.aload_n 1, 1) := by decide +kernel
theorem dL_law_281 : decode cL_law 281 = .ok (.aload_n 0, 1) := by decide +kernel
theorem dL_law_282 : decode cL_law 282 = .ok (.iload 4, 2) := by decide +kernel
theorem dL_law_284 : decode cL_law 284 = .ok (.iconst 1, 1) := by decide +kernel
theorem dL_law_285 : decode cL_law 285 = .ok (.iadd, 1) := by decide +kernel
theorem dL_law_286 : decode cL_law 286 = .ok (.iaload, 1) := by decide +kernel
theorem dL_law_287 : decode cL_law 287 = .ok (.aload_n 0, 1) := by decide +kernel
theorem dL_law_288 : decode cL_law 288 = .ok (.iload 4, 2) := by decide +kernel
theorem dL_law_290 : decode cL_law 290 = .ok (.iconst 2, 1) := by decide +kernel
theorem dL_law_291 : decode cL_law 291 = .ok (.iadd, 1) := by decide +kernel
theorem dL_law_292 : decode cL_law 292 = .ok (.iaload, 1) := by decide +kernel
theorem dL_law_293 : decode cL_law 293 = .ok (.invokevirtual 51, 3) := by decide +kernel
theorem dL_law_296 : decode cL_law 296 = .ok (.aload_n 2, 1) := by decide +kernel
theorem dL_law_297 : decode cL_law 297 = .ok (.aload_n 0, 1) := by decide +kernel
theorem dL_law_298 : decode cL_law 298 = .ok (.iload 4, 2) := by decide +kernel
theorem dL_law_300 : decode cL_law 300 = .ok (.iconst 1, 1) := by decide +kernel
theorem dL_law_301 : decode cL_law 301 = .ok (.iadd, 1) := by decide +kernel
theorem dL_law_302 : decode cL_law 302 = .ok (.iaload, 1) := by decide +kernel
theorem dL_law_303 : decode cL_law 303 = .ok (.aload_n 0, 1) := by decide +kernel
theorem dL_law_304 : decode cL_law 304 = .ok (.iload 4, 2) := by decide +kernel
theorem dL_law_306 : decode cL_law 306 = .ok (.iconst 2, 1) := by decide +kernel
theorem dL_law_307 : decode cL_law 307 = .ok (.iadd, 1) := by decide +kernel
theorem dL_law_308 : decode cL_law 308 = .ok (.iaload, 1) := by decide +kernel
theorem dL_law_309 : decode cL_law 309 = .ok (.invokevirtual 54, 3) := by decide +kernel
theorem dL_law_312 : decode cL_law 312 = .ok (.if_icmp .eq 519, 3) := by decide +kernel
theorem dL_law_315 : decode cL_law 315 = .ok (.iconst 0, 1) := by decide +kernel
theorem dL_law_316 : decode cL_law 316 = .ok (.ireturn, 1) := by decide +kernel
theorem dL_law_317 : decode cL_law 317 = .ok (.aload_n 1, 1) := by decide +kernel
theorem dL_law_318 : decode cL_law 318 = .ok (.aload_n 0, 1) := by decide +kernel
theorem dL_law_319 : decode cL_law 319 = .ok (.iload 4, 2) := by decide +kernel
theorem dL_law_321 : decode cL_law 321 = .ok (.iconst 1, 1) := by decide +kernel
theorem dL_law_322 : decode cL_law 322 = .ok (.iadd, 1) := by decide +kernel
theorem dL_law_323 : decode cL_law 323 = .ok (.iaload, 1) := by decide +kernel
theorem dL_law_324 : decode cL_law 324 = .ok (.aload_n 0, 1) := by decide +kernel
theorem dL_law_325 : decode cL_law 325 = .ok (.iload 4, 2) := by decide +kernel
theorem dL_law_327 : decode cL_law 327 = .ok (.iconst 2, 1) := by decide +kernel
theorem dL_law_328 : decode cL_law 328 = .ok (.iadd, 1) := by decide +kernel
theorem dL_law_329 : decode cL_law 329 = .ok (.iaload, 1) := by decide +kernel
theorem dL_law_330 : decode cL_law 330 = .ok (.aload_n 0, 1) := by decide +kernel
theorem dL_law_331 : decode cL_law 331 = .ok (.iload 4, 2) := by decide +kernel
theorem dL_law_333 : decode cL_law 333 = .ok (.iconst 3, 1) := by decide +kernel
theorem dL_law_334 : decode cL_law 334 = .ok (.iadd, 1) := by decide +kernel
theorem dL_law_335 : decode cL_law 335 = .ok (.iaload, 1) := by decide +kernel
theorem dL_law_336 : decode cL_law 336 = .ok (.aload_n 3, 1) := by decide +kernel
theorem dL_law_337 : decode cL_law 337 = .ok (.invokestatic 55, 3) := by decide +kernel
theorem dL_law_340 : decode cL_law 340 = .ok (.istore 5, 2) := by decide +kernel
theorem dL_law_342 : decode cL_law 342 = .ok (.aload_n 2, 1) := by decide +kernel
theorem dL_law_343 : decode cL_law 343 = .ok (.aload_n 0, 1) := by decide +kernel
theorem dL_law_344 : decode cL_law 344 = .ok (.iload 4, 2) := by decide +kernel
theorem dL_law_346 : decode cL_law 346 = .ok (.iconst 1, 1) := by decide +kernel
theorem dL_law_347 : decode cL_law 347 = .ok (.iadd, 1) := by decide +kernel
theorem dL_law_348 : decode cL_law 348 = .ok (.iaload, 1) := by decide +kernel
theorem dL_law_349 : decode cL_law 349 = .ok (.aload_n 0, 1) := by decide +kernel
theorem dL_law_350 : decode cL_law 350 = .ok (.iload 4, 2) := by decide +kernel
theorem dL_law_352 : decode cL_law 352 = .ok (.iconst 2, 1) := by decide +kernel
theorem dL_law_353 : decode cL_law 353 = .ok (.iadd, 1) := by decide +kernel
theorem dL_law_354 : decode cL_law 354 = .ok (.iaload, 1) := by decide +kernel
theorem dL_law_355 : decode cL_law 355 = .ok (.aload_n 0, 1) := by decide +kernel
theorem dL_law_356 : decode cL_law 356 = .ok (.iload 4, 2) := by decide +kernel
theorem dL_law_358 : decode cL_law 358 = .ok (.iconst 3, 1) := by decide +kernel
theorem dL_law_359 : decode cL_law 359 = .ok (.iadd, 1) := by decide +kernel
theorem dL_law_360 : decode cL_law 360 = .ok (.iaload, 1) := by decide +kernel
theorem dL_law_361 : decode cL_law 361 = .ok (.invokevirtual 60, 3) := by decide +kernel
theorem dL_law_364 : decode cL_law 364 = .ok (.istore 6, 2) := by decide +kernel
theorem dL_law_366 : decode cL_law 366 = .ok (.aload_n 2, 1) := by decide +kernel
theorem dL_law_367 : decode cL_law 367 = .ok (.invokevirtual 61, 3) := by decide +kernel
theorem dL_law_370 : decode cL_law 370 = .ok (.iload 5, 2) := by decide +kernel
theorem dL_law_372 : decode cL_law 372 = .ok (.if_icmp .eq 5, 3) := by decide +kernel
theorem dL_law_375 : decode cL_law 375 = .ok (.iconst 0, 1) := by decide +kernel
theorem dL_law_376 : decode cL_law 376 = .ok (.ireturn, 1) := by decide +kernel
theorem dL_law_377 : decode cL_law 377 = .ok (.iload 5, 2) := by decide +kernel
theorem dL_law_379 : decode cL_law 379 = .ok (.ifCond .ne 15, 3) := by decide +kernel
theorem dL_law_382 : decode cL_law 382 = .ok (.aload_n 3, 1) := by decide +kernel
theorem dL_law_383 : decode cL_law 383 = .ok (.iconst 0, 1) := by decide +kernel
theorem dL_law_384 : decode cL_law 384 = .ok (.laload, 1) := by decide +kernel
theorem dL_law_385 : decode cL_law 385 = .ok (.iload 6, 2) := by decide +kernel
theorem dL_law_387 : decode cL_law 387 = .ok (.i2l, 1) := by decide +kernel
theorem dL_law_388 : decode cL_law 388 = .ok (.lcmp, 1) := by decide +kernel
theorem dL_law_389 : decode cL_law 389 = .ok (.ifCond .eq 5, 3) := by decide +kernel
theorem dL_law_392 : decode cL_law 392 = .ok (.iconst 0, 1) := by decide +kernel
theorem dL_law_393 : decode cL_law 393 = .ok (.ireturn, 1) := by decide +kernel
theorem dL_law_394 : decode cL_law 394 = .ok (.goto 437, 3) := by decide +kernel
theorem dL_law_397 : decode cL_law 397 = .ok (.aload_n 1, 1) := by decide +kernel
theorem dL_law_398 : decode cL_law 398 = .ok (.aload_n 0, 1) := by decide +kernel
theorem dL_law_399 : decode cL_law 399 = .ok (.iload 4, 2) := by decide +kernel
theorem dL_law_401 : decode cL_law 401 = .ok (.iconst 1, 1) := by decide +kernel
theorem dL_law_402 : decode cL_law 402 = .ok (.iadd, 1) := by decide +kernel
theorem dL_law_403 : decode cL_law 403 = .ok (.iaload, 1) := by decide +kernel
theorem dL_law_404 : decode cL_law 404 = .ok (.invokevirtual 64, 3) := by decide +kernel
theorem dL_law_407 : decode cL_law 407 = .ok (.aload_n 2, 1) := by decide +kernel
theorem dL_law_408 : decode cL_law 408 = .ok (.aload_n 0, 1) := by decide +kernel
theorem dL_law_409 : decode cL_law 409 = .ok (.iload 4, 2) := by decide +kernel
theorem dL_law_411 : decode cL_law 411 = .ok (.iconst 1, 1) := by decide +kernel
theorem dL_law_412 : decode cL_law 412 = .ok (.iadd, 1) := by decide +kernel
theorem dL_law_413 : decode cL_law 413 = .ok (.iaload, 1) := by decide +kernel
theorem dL_law_414 : decode cL_law 414 = .ok (.invokevirtual 68, 3) := by decide +kernel
theorem dL_law_417 : decode cL_law 417 = .ok (.if_icmp .eq 414, 3) := by decide +kernel
theorem dL_law_420 : decode cL_law 420 = .ok (.iconst 0, 1) := by decide +kernel
theorem dL_law_421 : decode cL_law 421 = .ok (.ireturn, 1) := by decide +kernel
theorem dL_law_422 : decode cL_law 422 = .ok (.aload_n 1, 1) := by decide +kernel
theorem dL_law_423 : decode cL_law 423 = .ok (.aload_n 0, 1) := by decide +kernel
theorem dL_law_424 : decode cL_law 424 = .ok (.iload 4, 2) := by decide +kernel
theorem dL_law_426 : decode cL_law 426 = .ok (.iconst 1, 1) := by decide +kernel
theorem dL_law_427 : decode cL_law 427 = .ok (.iadd, 1) := by decide +kernel
theorem dL_law_428 : decode cL_law 428 = .ok (.iaload, 1) := by decide +kernel
theorem dL_law_429 : decode cL_law 429 = .ok (.aload_n 0, 1) := by decide +kernel
theorem dL_law_430 : decode cL_law 430 = .ok (.iload 4, 2) := by decide +kernel
theorem dL_law_432 : decode cL_law 432 = .ok (.iconst 2, 1) := by decide +kernel
theorem dL_law_433 : decode cL_law 433 = .ok (.iadd, 1) := by decide +kernel
theorem dL_law_434 : decode cL_law 434 = .ok (.iaload, 1) := by decide +kernel
theorem dL_law_435 : decode cL_law 435 = .ok (.invokevirtual 69, 3) := by decide +kernel
theorem dL_law_438 : decode cL_law 438 = .ok (.aload_n 2, 1) := by decide +kernel
theorem dL_law_439 : decode cL_law 439 = .ok (.aload_n 0, 1) := by decide +kernel
theorem dL_law_440 : decode cL_law 440 = .ok (.iload 4, 2) := by decide +kernel
theorem dL_law_442 : decode cL_law 442 = .ok (.iconst 1, 1) := by decide +kernel
theorem dL_law_443 : decode cL_law 443 = .ok (.iadd, 1) := by decide +kernel
theorem dL_law_444 : decode cL_law 444 = .ok (.iaload, 1) := by decide +kernel
theorem dL_law_445 : decode cL_law 445 = .ok (.aload_n 0, 1) := by decide +kernel
theorem dL_law_446 : decode cL_law 446 = .ok (.iload 4, 2) := by decide +kernel
theorem dL_law_448 : decode cL_law 448 = .ok (.iconst 2, 1) := by decide +kernel
theorem dL_law_449 : decode cL_law 449 = .ok (.iadd, 1) := by decide +kernel
theorem dL_law_450 : decode cL_law 450 = .ok (.iaload, 1) := by decide +kernel
theorem dL_law_451 : decode cL_law 451 = .ok (.invokevirtual 72, 3) := by decide +kernel
theorem dL_law_454 : decode cL_law 454 = .ok (.if_icmp .eq 377, 3) := by decide +kernel
theorem dL_law_457 : decode cL_law 457 = .ok (.iconst 0, 1) := by decide +kernel
theorem dL_law_458 : decode cL_law 458 = .ok (.ireturn, 1) := by decide +kernel
theorem dL_law_459 : decode cL_law 459 = .ok (.aload_n 1, 1) := by decide +kernel
theorem dL_law_460 : decode cL_law 460 = .ok (.aload_n 0, 1) := by decide +kernel
theorem dL_law_461 : decode cL_law 461 = .ok (.iload 4, 2) := by decide +kernel
theorem dL_law_463 : decode cL_law 463 = .ok (.iconst 1, 1) := by decide +kernel
theorem dL_law_464 : decode cL_law 464 = .ok (.iadd, 1) := by decide +kernel
theorem dL_law_465 : decode cL_law 465 = .ok (.iaload, 1) := by decide +kernel
theorem dL_law_466 : decode cL_law 466 = .ok (.aload_n 0, 1) := by decide +kernel
theorem dL_law_467 : decode cL_law 467 = .ok (.iload 4, 2) := by decide +kernel
theorem dL_law_469 : decode cL_law 469 = .ok (.iconst 2, 1) := by decide +kernel
theorem dL_law_470 : decode cL_law 470 = .ok (.iadd, 1) := by decide +kernel
theorem dL_law_471 : decode cL_law 471 = .ok (.iaload, 1) := by decide +kernel
theorem dL_law_472 : decode cL_law 472 = .ok (.invokevirtual 73, 3) := by decide +kernel
theorem dL_law_475 : decode cL_law 475 = .ok (.aload_n 2, 1) := by decide +kernel
theorem dL_law_476 : decode cL_law 476 = .ok (.aload_n 0, 1) := by decide +kernel
theorem dL_law_477 : decode cL_law 477 = .ok (.iload 4, 2) := by decide +kernel
theorem dL_law_479 : decode cL_law 479 = .ok (.iconst 1, 1) := by decide +kernel
theorem dL_law_480 : decode cL_law 480 = .ok (.iadd, 1) := by decide +kernel
theorem dL_law_481 : decode cL_law 481 = .ok (.iaload, 1) := by decide +kernel
theorem dL_law_482 : decode cL_law 482 = .ok (.aload_n 0, 1) := by decide +kernel
theorem dL_law_483 : decode cL_law 483 = .ok (.iload 4, 2) := by decide +kernel
theorem dL_law_485 : decode cL_law 485 = .ok (.iconst 2, 1) := by decide +kernel
theorem dL_law_486 : decode cL_law 486 = .ok (.iadd, 1) := by decide +kernel
theorem dL_law_487 : decode cL_law 487 = .ok (.iaload, 1) := by decide +kernel
theorem dL_law_488 : decode cL_law 488 = .ok (.invokevirtual 76, 3) := by decide +kernel
theorem dL_law_491 : decode cL_law 491 = .ok (.if_icmp .eq 340, 3) := by decide +kernel
theorem dL_law_494 : decode cL_law 494 = .ok (.iconst 0, 1) := by decide +kernel
theorem dL_law_495 : decode cL_law 495 = .ok (.ireturn, 1) := by decide +kernel
theorem dL_law_496 : decode cL_law 496 = .ok (.aload_n 1, 1) := by decide +kernel
theorem dL_law_497 : decode cL_law 497 = .ok (.aload_n 0, 1) := by decide +kernel
theorem dL_law_498 : decode cL_law 498 = .ok (.iload 4, 2) := by decide +kernel
theorem dL_law_500 : decode cL_law 500 = .ok (.iconst 1, 1) := by decide +kernel
theorem dL_law_501 : decode cL_law 501 = .ok (.iadd, 1) := by decide +kernel
theorem dL_law_502 : decode cL_law 502 = .ok (.iaload, 1) := by decide +kernel
theorem dL_law_503 : decode cL_law 503 = .ok (.aload_n 0, 1) := by decide +kernel
theorem dL_law_504 : decode cL_law 504 = .ok (.iload 4, 2) := by decide +kernel
theorem dL_law_506 : decode cL_law 506 = .ok (.iconst 2, 1) := by decide +kernel
theorem dL_law_507 : decode cL_law 507 = .ok (.iadd, 1) := by decide +kernel
theorem dL_law_508 : decode cL_law 508 = .ok (.iaload, 1) := by decide +kernel
theorem dL_law_509 : decode cL_law 509 = .ok (.aload_n 3, 1) := by decide +kernel
theorem dL_law_510 : decode cL_law 510 = .ok (.invokestatic 77, 3) := by decide +kernel
theorem dL_law_513 : decode cL_law 513 = .ok (.istore 5, 2) := by decide +kernel
theorem dL_law_515 : decode cL_law 515 = .ok (.aload_n 2, 1) := by decide +kernel
theorem dL_law_516 : decode cL_law 516 = .ok (.aload_n 0, 1) := by decide +kernel
theorem dL_law_517 : decode cL_law 517 = .ok (.iload 4, 2) := by decide +kernel
theorem dL_law_519 : decode cL_law 519 = .ok (.iconst 1, 1) := by decide +kernel
theorem dL_law_520 : decode cL_law 520 = .ok (.iadd, 1) := by decide +kernel
theorem dL_law_521 : decode cL_law 521 = .ok (.iaload, 1) := by decide +kernel
theorem dL_law_522 : decode cL_law 522 = .ok (.aload_n 0, 1) := by decide +kernel
theorem dL_law_523 : decode cL_law 523 = .ok (.iload 4, 2) := by decide +kernel
theorem dL_law_525 : decode cL_law 525 = .ok (.iconst 2, 1) := by decide +kernel
theorem dL_law_526 : decode cL_law 526 = .ok (.iadd, 1) := by decide +kernel
theorem dL_law_527 : decode cL_law 527 = .ok (.iaload, 1) := by decide +kernel
theorem dL_law_528 : decode cL_law 528 = .ok (.invokevirtual 80, 3) := by decide +kernel
theorem dL_law_531 : decode cL_law 531 = .ok (.istore 6, 2) := by decide +kernel
theorem dL_law_533 : decode cL_law 533 = .ok (.aload_n 2, 1) := by decide +kernel
theorem dL_law_534 : decode cL_law 534 = .ok (.invokevirtual 61, 3) := by decide +kernel
theorem dL_law_537 : decode cL_law 537 = .ok (.iload 5, 2) := by decide +kernel
theorem dL_law_539 : decode cL_law 539 = .ok (.if_icmp .eq 5, 3) := by decide +kernel
theorem dL_law_542 : decode cL_law 542 = .ok (.iconst 0, 1) := by decide +kernel
theorem dL_law_543 : decode cL_law 543 = .ok (.ireturn, 1) := by decide +kernel
theorem dL_law_544 : decode cL_law 544 = .ok (.iload 5, 2) := by decide +kernel
theorem dL_law_546 : decode cL_law 546 = .ok (.ifCond .ne 15, 3) := by decide +kernel
theorem dL_law_549 : decode cL_law 549 = .ok (.aload_n 3, 1) := by decide +kernel
theorem dL_law_550 : decode cL_law 550 = .ok (.iconst 0, 1) := by decide +kernel
theorem dL_law_551 : decode cL_law 551 = .ok (.laload, 1) := by decide +kernel
theorem dL_law_552 : decode cL_law 552 = .ok (.iload 6, 2) := by decide +kernel
theorem dL_law_554 : decode cL_law 554 = .ok (.i2l, 1) := by decide +kernel
theorem dL_law_555 : decode cL_law 555 = .ok (.lcmp, 1) := by decide +kernel
theorem dL_law_556 : decode cL_law 556 = .ok (.ifCond .eq 5, 3) := by decide +kernel
theorem dL_law_559 : decode cL_law 559 = .ok (.iconst 0, 1) := by decide +kernel
theorem dL_law_560 : decode cL_law 560 = .ok (.ireturn, 1) := by decide +kernel
theorem dL_law_561 : decode cL_law 561 = .ok (.goto 270, 3) := by decide +kernel
theorem dL_law_564 : decode cL_law 564 = .ok (.aload_n 1, 1) := by decide +kernel
theorem dL_law_565 : decode cL_law 565 = .ok (.aload_n 0, 1) := by decide +kernel
theorem dL_law_566 : decode cL_law 566 = .ok (.iload 4, 2) := by decide +kernel
theorem dL_law_568 : decode cL_law 568 = .ok (.iconst 1, 1) := by decide +kernel
theorem dL_law_569 : decode cL_law 569 = .ok (.iadd, 1) := by decide +kernel
theorem dL_law_570 : decode cL_law 570 = .ok (.iaload, 1) := by decide +kernel
theorem dL_law_571 : decode cL_law 571 = .ok (.aload_n 0, 1) := by decide +kernel
theorem dL_law_572 : decode cL_law 572 = .ok (.iload 4, 2) := by decide +kernel
theorem dL_law_574 : decode cL_law 574 = .ok (.iconst 2, 1) := by decide +kernel
theorem dL_law_575 : decode cL_law 575 = .ok (.iadd, 1) := by decide +kernel
theorem dL_law_576 : decode cL_law 576 = .ok (.iaload, 1) := by decide +kernel
theorem dL_law_577 : decode cL_law 577 = .ok (.invokevirtual 81, 3) := by decide +kernel
theorem dL_law_580 : decode cL_law 580 = .ok (.aload_n 2, 1) := by decide +kernel
theorem dL_law_581 : decode cL_law 581 = .ok (.aload_n 0, 1) := by decide +kernel
theorem dL_law_582 : decode cL_law 582 = .ok (.iload 4, 2) := by decide +kernel
theorem dL_law_584 : decode cL_law 584 = .ok (.iconst 1, 1) := by decide +kernel
theorem dL_law_585 : decode cL_law 585 = .ok (.iadd, 1) := by decide +kernel
theorem dL_law_586 : decode cL_law 586 = .ok (.iaload, 1) := by decide +kernel
theorem dL_law_587 : decode cL_law 587 = .ok (.aload_n 0, 1) := by decide +kernel
theorem dL_law_588 : decode cL_law 588 = .ok (.iload 4, 2) := by decide +kernel
theorem dL_law_590 : decode cL_law 590 = .ok (.iconst 2, 1) := by decide +kernel
theorem dL_law_591 : decode cL_law 591 = .ok (.iadd, 1) := by decide +kernel
theorem dL_law_592 : decode cL_law 592 = .ok (.iaload, 1) := by decide +kernel
theorem dL_law_593 : decode cL_law 593 = .ok (.invokevirtual 85, 3) := by decide +kernel
theorem dL_law_596 : decode cL_law 596 = .ok (.if_icmp .eq 235, 3) := by decide +kernel
theorem dL_law_599 : decode cL_law 599 = .ok (.iconst 0, 1) := by decide +kernel
theorem dL_law_600 : decode cL_law 600 = .ok (.ireturn, 1) := by decide +kernel
theorem dL_law_601 : decode cL_law 601 = .ok (.aload_n 1, 1) := by decide +kernel
theorem dL_law_602 : decode cL_law 602 = .ok (.aload_n 0, 1) := by decide +kernel
theorem dL_law_603 : decode cL_law 603 = .ok (.iload 4, 2) := by decide +kernel
theorem dL_law_605 : decode cL_law 605 = .ok (.iconst 1, 1) := by decide +kernel
theorem dL_law_606 : decode cL_law 606 = .ok (.iadd, 1) := by decide +kernel
theorem dL_law_607 : decode cL_law 607 = .ok (.iaload, 1) := by decide +kernel
theorem dL_law_608 : decode cL_law 608 = .ok (.aload_n 0, 1) := by decide +kernel
theorem dL_law_609 : decode cL_law 609 = .ok (.iload 4, 2) := by decide +kernel
theorem dL_law_611 : decode cL_law 611 = .ok (.iconst 2, 1) := by decide +kernel
theorem dL_law_612 : decode cL_law 612 = .ok (.iadd, 1) := by decide +kernel
theorem dL_law_613 : decode cL_law 613 = .ok (.iaload, 1) := by decide +kernel
theorem dL_law_614 : decode cL_law 614 = .ok (.invokevirtual 86, 3) := by decide +kernel
theorem dL_law_617 : decode cL_law 617 = .ok (.aload_n 2, 1) := by decide +kernel
theorem dL_law_618 : decode cL_law 618 = .ok (.aload_n 0, 1) := by decide +kernel
theorem dL_law_619 : decode cL_law 619 = .ok (.iload 4, 2) := by decide +kernel
theorem dL_law_621 : decode cL_law 621 = .ok (.iconst 1, 1) := by decide +kernel
theorem dL_law_622 : decode cL_law 622 = .ok (.iadd, 1) := by decide +kernel
theorem dL_law_623 : decode cL_law 623 = .ok (.iaload, 1) := by decide +kernel
theorem dL_law_624 : decode cL_law 624 = .ok (.aload_n 0, 1) := by decide +kernel
theorem dL_law_625 : decode cL_law 625 = .ok (.iload 4, 2) := by decide +kernel
theorem dL_law_627 : decode cL_law 627 = .ok (.iconst 2, 1) := by decide +kernel
theorem dL_law_628 : decode cL_law 628 = .ok (.iadd, 1) := by decide +kernel
theorem dL_law_629 : decode cL_law 629 = .ok (.iaload, 1) := by decide +kernel
theorem dL_law_630 : decode cL_law 630 = .ok (.invokevirtual 89, 3) := by decide +kernel
theorem dL_law_633 : decode cL_law 633 = .ok (.if_icmp .eq 198, 3) := by decide +kernel
theorem dL_law_636 : decode cL_law 636 = .ok (.iconst 0, 1) := by decide +kernel
theorem dL_law_637 : decode cL_law 637 = .ok (.ireturn, 1) := by decide +kernel
theorem dL_law_638 : decode cL_law 638 = .ok (.aload_n 1, 1) := by decide +kernel
theorem dL_law_639 : decode cL_law 639 = .ok (.aload_n 0, 1) := by decide +kernel
theorem dL_law_640 : decode cL_law 640 = .ok (.iload 4, 2) := by decide +kernel
theorem dL_law_642 : decode cL_law 642 = .ok (.iconst 1, 1) := by decide +kernel
theorem dL_law_643 : decode cL_law 643 = .ok (.iadd, 1) := by decide +kernel
theorem dL_law_644 : decode cL_law 644 = .ok (.iaload, 1) := by decide +kernel
theorem dL_law_645 : decode cL_law 645 = .ok (.aload_n 0, 1) := by decide +kernel
theorem dL_law_646 : decode cL_law 646 = .ok (.iload 4, 2) := by decide +kernel
theorem dL_law_648 : decode cL_law 648 = .ok (.iconst 2, 1) := by decide +kernel
theorem dL_law_649 : decode cL_law 649 = .ok (.iadd, 1) := by decide +kernel
theorem dL_law_650 : decode cL_law 650 = .ok (.iaload, 1) := by decide +kernel
theorem dL_law_651 : decode cL_law 651 = .ok (.i2l, 1) := by decide +kernel
theorem dL_law_652 : decode cL_law 652 = .ok (.bipush 32, 2) := by decide +kernel
theorem dL_law_654 : decode cL_law 654 = .ok (.lshl, 1) := by decide +kernel
theorem dL_law_655 : decode cL_law 655 = .ok (.aload_n 0, 1) := by decide +kernel
theorem dL_law_656 : decode cL_law 656 = .ok (.iload 4, 2) := by decide +kernel
theorem dL_law_658 : decode cL_law 658 = .ok (.iconst 3, 1) := by decide +kernel
theorem dL_law_659 : decode cL_law 659 = .ok (.iadd, 1) := by decide +kernel
theorem dL_law_660 : decode cL_law 660 = .ok (.iaload, 1) := by decide +kernel
theorem dL_law_661 : decode cL_law 661 = .ok (.i2l, 1) := by decide +kernel
theorem dL_law_662 : decode cL_law 662 = .ok (.ldc2_w 90, 3) := by decide +kernel
theorem dL_law_665 : decode cL_law 665 = .ok (.land, 1) := by decide +kernel
theorem dL_law_666 : decode cL_law 666 = .ok (.lor, 1) := by decide +kernel
theorem dL_law_667 : decode cL_law 667 = .ok (.aload_n 0, 1) := by decide +kernel
theorem dL_law_668 : decode cL_law 668 = .ok (.iload 4, 2) := by decide +kernel
theorem dL_law_670 : decode cL_law 670 = .ok (.iconst 4, 1) := by decide +kernel
theorem dL_law_671 : decode cL_law 671 = .ok (.iadd, 1) := by decide +kernel
theorem dL_law_672 : decode cL_law 672 = .ok (.iaload, 1) := by decide +kernel
theorem dL_law_673 : decode cL_law 673 = .ok (.i2l, 1) := by decide +kernel
theorem dL_law_674 : decode cL_law 674 = .ok (.bipush 32, 2) := by decide +kernel
theorem dL_law_676 : decode cL_law 676 = .ok (.lshl, 1) := by decide +kernel
theorem dL_law_677 : decode cL_law 677 = .ok (.aload_n 0, 1) := by decide +kernel
theorem dL_law_678 : decode cL_law 678 = .ok (.iload 4, 2) := by decide +kernel
theorem dL_law_680 : decode cL_law 680 = .ok (.iconst 5, 1) := by decide +kernel
theorem dL_law_681 : decode cL_law 681 = .ok (.iadd, 1) := by decide +kernel
theorem dL_law_682 : decode cL_law 682 = .ok (.iaload, 1) := by decide +kernel
theorem dL_law_683 : decode cL_law 683 = .ok (.i2l, 1) := by decide +kernel
theorem dL_law_684 : decode cL_law 684 = .ok (.ldc2_w 90, 3) := by decide +kernel
theorem dL_law_687 : decode cL_law 687 = .ok (.land, 1) := by decide +kernel
theorem dL_law_688 : decode cL_law 688 = .ok (.lor, 1) := by decide +kernel
theorem dL_law_689 : decode cL_law 689 = .ok (.aload_n 3, 1) := by decide +kernel
theorem dL_law_690 : decode cL_law 690 = .ok (.invokestatic 92, 3) := by decide +kernel
theorem dL_law_693 : decode cL_law 693 = .ok (.istore 5, 2) := by decide +kernel
theorem dL_law_695 : decode cL_law 695 = .ok (.aload_n 2, 1) := by decide +kernel
theorem dL_law_696 : decode cL_law 696 = .ok (.aload_n 0, 1) := by decide +kernel
theorem dL_law_697 : decode cL_law 697 = .ok (.iload 4, 2) := by decide +kernel
theorem dL_law_699 : decode cL_law 699 = .ok (.iconst 1, 1) := by decide +kernel
theorem dL_law_700 : decode cL_law 700 = .ok (.iadd, 1) := by decide +kernel
theorem dL_law_701 : decode cL_law 701 = .ok (.iaload, 1) := by decide +kernel
theorem dL_law_702 : decode cL_law 702 = .ok (.aload_n 0, 1) := by decide +kernel
theorem dL_law_703 : decode cL_law 703 = .ok (.iload 4, 2) := by decide +kernel
theorem dL_law_705 : decode cL_law 705 = .ok (.iconst 2, 1) := by decide +kernel
theorem dL_law_706 : decode cL_law 706 = .ok (.iadd, 1) := by decide +kernel
theorem dL_law_707 : decode cL_law 707 = .ok (.iaload, 1) := by decide +kernel
theorem dL_law_708 : decode cL_law 708 = .ok (.i2l, 1) := by decide +kernel
theorem dL_law_709 : decode cL_law 709 = .ok (.bipush 32, 2) := by decide +kernel
theorem dL_law_711 : decode cL_law 711 = .ok (.lshl, 1) := by decide +kernel
theorem dL_law_712 : decode cL_law 712 = .ok (.aload_n 0, 1) := by decide +kernel
theorem dL_law_713 : decode cL_law 713 = .ok (.iload 4, 2) := by decide +kernel
theorem dL_law_715 : decode cL_law 715 = .ok (.iconst 3, 1) := by decide +kernel
theorem dL_law_716 : decode cL_law 716 = .ok (.iadd, 1) := by decide +kernel
theorem dL_law_717 : decode cL_law 717 = .ok (.iaload, 1) := by decide +kernel
theorem dL_law_718 : decode cL_law 718 = .ok (.i2l, 1) := by decide +kernel
theorem dL_law_719 : decode cL_law 719 = .ok (.ldc2_w 90, 3) := by decide +kernel
theorem dL_law_722 : decode cL_law 722 = .ok (.land, 1) := by decide +kernel
theorem dL_law_723 : decode cL_law 723 = .ok (.lor, 1) := by decide +kernel
theorem dL_law_724 : decode cL_law 724 = .ok (.aload_n 0, 1) := by decide +kernel
theorem dL_law_725 : decode cL_law 725 = .ok (.iload 4, 2) := by decide +kernel
theorem dL_law_727 : decode cL_law 727 = .ok (.iconst 4, 1) := by decide +kernel
theorem dL_law_728 : decode cL_law 728 = .ok (.iadd, 1) := by decide +kernel
theorem dL_law_729 : decode cL_law 729 = .ok (.iaload, 1) := by decide +kernel
end
section
theorem dL_law_730 : decode cL_law 730 = .ok (.i2l, 1) := by decide +kernel
theorem dL_law_731 : decode cL_law 731 = .ok (.bipush 32, 2) := by decide +kernel
theorem dL_law_733 : decode cL_law 733 = .ok (.lshl, 1) := by decide +kernel
theorem dL_law_734 : decode cL_law 734 = .ok (.aload_n 0, 1) := by decide +kernel
theorem dL_law_735 : decode cL_law 735 = .ok (.iload 4, 2) := by decide +kernel
theorem dL_law_737 : decode cL_law 737 = .ok (.iconst 5, 1) := by decide +kernel
theorem dL_law_738 : decode cL_law 738 = .ok (.iadd, 1) := by decide +kernel
theorem dL_law_739 : decode cL_law 739 = .ok (.iaload, 1) := by decide +kernel
theorem dL_law_740 : decode cL_law 740 = .ok (.i2l, 1) := by decide +kernel
theorem dL_law_741 : decode cL_law 741 = .ok (.ldc2_w 90, 3) := by decide +kernel
theorem dL_law_744 : decode cL_law 744 = .ok (.land, 1) := by decide +kernel
theorem dL_law_745 : decode cL_law 745 = .ok (.lor, 1) := by decide +kernel
theorem dL_law_746 : decode cL_law 746 = .ok (.invokevirtual 95, 3) := by decide +kernel
theorem dL_law_749 : decode cL_law 749 = .ok (.lstore 6, 2) := by decide +kernel
theorem dL_law_751 : decode cL_law 751 = .ok (.aload_n 2, 1) := by decide +kernel
theorem dL_law_752 : decode cL_law 752 = .ok (.invokevirtual 61, 3) := by decide +kernel
theorem dL_law_755 : decode cL_law 755 = .ok (.iload 5, 2) := by decide +kernel
theorem dL_law_757 : decode cL_law 757 = .ok (.if_icmp .eq 5, 3) := by decide +kernel
theorem dL_law_760 : decode cL_law 760 = .ok (.iconst 0, 1) := by decide +kernel
theorem dL_law_761 : decode cL_law 761 = .ok (.ireturn, 1) := by decide +kernel
theorem dL_law_762 : decode cL_law 762 = .ok (.iload 5, 2) := by decide +kernel
theorem dL_law_764 : decode cL_law 764 = .ok (.ifCond .ne 14, 3) := by decide +kernel
theorem dL_law_767 : decode cL_law 767 = .ok (.aload_n 3, 1) := by decide +kernel
theorem dL_law_768 : decode cL_law 768 = .ok (.iconst 0, 1) := by decide +kernel
theorem dL_law_769 : decode cL_law 769 = .ok (.laload, 1) := by decide +kernel
theorem dL_law_770 : decode cL_law 770 = .ok (.lload 6, 2) := by decide +kernel
theorem dL_law_772 : decode cL_law 772 = .ok (.lcmp, 1) := by decide +kernel
theorem dL_law_773 : decode cL_law 773 = .ok (.ifCond .eq 5, 3) := by decide +kernel
theorem dL_law_776 : decode cL_law 776 = .ok (.iconst 0, 1) := by decide +kernel
theorem dL_law_777 : decode cL_law 777 = .ok (.ireturn, 1) := by decide +kernel
theorem dL_law_778 : decode cL_law 778 = .ok (.goto 53, 3) := by decide +kernel
theorem dL_law_781 : decode cL_law 781 = .ok (.aload_n 1, 1) := by decide +kernel
theorem dL_law_782 : decode cL_law 782 = .ok (.aload_n 0, 1) := by decide +kernel
theorem dL_law_783 : decode cL_law 783 = .ok (.iload 4, 2) := by decide +kernel
theorem dL_law_785 : decode cL_law 785 = .ok (.iconst 1, 1) := by decide +kernel
theorem dL_law_786 : decode cL_law 786 = .ok (.iadd, 1) := by decide +kernel
theorem dL_law_787 : decode cL_law 787 = .ok (.iaload, 1) := by decide +kernel
theorem dL_law_788 : decode cL_law 788 = .ok (.invokevirtual 96, 3) := by decide +kernel
theorem dL_law_791 : decode cL_law 791 = .ok (.aload_n 2, 1) := by decide +kernel
theorem dL_law_792 : decode cL_law 792 = .ok (.aload_n 0, 1) := by decide +kernel
theorem dL_law_793 : decode cL_law 793 = .ok (.iload 4, 2) := by decide +kernel
theorem dL_law_795 : decode cL_law 795 = .ok (.iconst 1, 1) := by decide +kernel
theorem dL_law_796 : decode cL_law 796 = .ok (.iadd, 1) := by decide +kernel
theorem dL_law_797 : decode cL_law 797 = .ok (.iaload, 1) := by decide +kernel
theorem dL_law_798 : decode cL_law 798 = .ok (.invokevirtual 99, 3) := by decide +kernel
theorem dL_law_801 : decode cL_law 801 = .ok (.if_icmp .eq 30, 3) := by decide +kernel
theorem dL_law_804 : decode cL_law 804 = .ok (.iconst 0, 1) := by decide +kernel
theorem dL_law_805 : decode cL_law 805 = .ok (.ireturn, 1) := by decide +kernel
theorem dL_law_806 : decode cL_law 806 = .ok (.aload_n 1, 1) := by decide +kernel
theorem dL_law_807 : decode cL_law 807 = .ok (.aload_n 0, 1) := by decide +kernel
theorem dL_law_808 : decode cL_law 808 = .ok (.iload 4, 2) := by decide +kernel
theorem dL_law_810 : decode cL_law 810 = .ok (.iconst 1, 1) := by decide +kernel
theorem dL_law_811 : decode cL_law 811 = .ok (.iadd, 1) := by decide +kernel
theorem dL_law_812 : decode cL_law 812 = .ok (.iaload, 1) := by decide +kernel
theorem dL_law_813 : decode cL_law 813 = .ok (.invokevirtual 100, 3) := by decide +kernel
theorem dL_law_816 : decode cL_law 816 = .ok (.aload_n 2, 1) := by decide +kernel
theorem dL_law_817 : decode cL_law 817 = .ok (.aload_n 0, 1) := by decide +kernel
theorem dL_law_818 : decode cL_law 818 = .ok (.iload 4, 2) := by decide +kernel
theorem dL_law_820 : decode cL_law 820 = .ok (.iconst 1, 1) := by decide +kernel
theorem dL_law_821 : decode cL_law 821 = .ok (.iadd, 1) := by decide +kernel
theorem dL_law_822 : decode cL_law 822 = .ok (.iaload, 1) := by decide +kernel
theorem dL_law_823 : decode cL_law 823 = .ok (.invokevirtual 103, 3) := by decide +kernel
theorem dL_law_826 : decode cL_law 826 = .ok (.if_icmp .eq 5, 3) := by decide +kernel
theorem dL_law_829 : decode cL_law 829 = .ok (.iconst 0, 1) := by decide +kernel
theorem dL_law_830 : decode cL_law 830 = .ok (.ireturn, 1) := by decide +kernel
theorem dL_law_831 : decode cL_law 831 = .ok (.iinc 4 6, 3) := by decide +kernel
theorem dL_law_834 : decode cL_law 834 = .ok (.goto (-811), 3) := by decide +kernel
theorem dL_law_837 : decode cL_law 837 = .ok (.iconst 1, 1) := by decide +kernel
theorem dL_law_838 : decode cL_law 838 = .ok (.ireturn, 1) := by decide +kernel
end
section
/-! the walk's own judgement: the frame's constants in one tuple; heap, locations and locals' slots out of sight -/
abbrev gT : Type := Program × Launch × Env × Room × State × MethodId × Array Value × List Frame × Method × Code × va_G × List (ClassId × FieldType) × (Nat → Prop) × (State → Prop) × Nat
def G : gT → va_W → Nat → Nat → Nat → List (Nat × Value) → List Value → Prop
  | (p, l, e, R, s, m, args, below, meth, c, D, _, A, Q, nL), ws, kc, ks, pc, lv, st => ∀ (H : Heap) (locs : List Loc) (ls : Array Slot), va_P D vwCl ws H → va_D A ws → va_S A s.heap H locs → lv_has ls nL lv → W p l e R s m args below meth c H locs kc ks Q (F0 m pc ls st)
def gOk : gT → ByteArray → List Cond → String → Prop
  | (p, _, _, _, s, m, args, _, _, c, D, Y, A, _, nL), cc, Ts, own => (CallFix p m c cc nL s args Ts own) ∧ va_K D vwCl Y s ∧ ∀ q : Nat, s.heap.size ≤ q → A q
def gRm : gT → Room | (_, _, _, R, _) => R
def gnL : gT → Nat | (_, _, _, _, _, _, _, _, _, _, _, _, _, _, nL) => nL
def gY : gT → List (ClassId × FieldType) | (_, _, _, _, _, _, _, _, _, _, _, Y, _) => Y
def gD : gT → va_G | (_, _, _, _, _, _, _, _, _, _, D, _) => D
def gl : List (Nat × Value) → Nat → Option Value
  | [], _ => none
  | (j, v) :: r, i => cond (Nat.beq j i) (some v) (gl r i)
theorem gl_in : ∀ {lv : List (Nat × Value)} {i : Nat} {v : Value}, gl lv i = some v → (i, v) ∈ lv
  | [], _, _, h => by simp [gl] at h
  | (j, u) :: r, i, v, h => by
    unfold gl at h
    cases hb : Nat.beq j i with
    | true =>
      rw [hb] at h
      have h1 : u = v := by simpa using h
      have h2 : j = i := Nat.eq_of_beq_eq_true hb
      rw [h1, h2]; exact List.mem_cons_self
    | false =>
      rw [hb] at h
      exact List.mem_cons_of_mem _ (gl_in (by simpa using h))
theorem gl_at {ls : Array Slot} {nL i : Nat} {lv : List (Nat × Value)} {v : Value} (h : lv_has ls nL lv) (hv : gl lv i = some v) : ls[i]? = some (.val v) := h.2.2 (i, v) (gl_in hv)
def gst (lv : List (Nat × Value)) (i : Nat) (v : Value) : List (Nat × Value) := (i, v) :: lv.filter (fun q => !(q.1 == i) && !(q.1 + 1 == i && q.2.category == 2))
def gst2 (lv : List (Nat × Value)) (i : Nat) (v : Value) : List (Nat × Value) := (i, v) :: lv.filter (fun q => !(q.1 == i) && (!(q.1 == i + 1) && !(q.1 + 1 == i && q.2.category == 2)))
section GW
variable {Γ : gT} {ws : va_W} {kc ks pc n : Nat} {lv lv' : List (Nat × Value)} {st : List Value} {cc : ByteArray} {Ts : List Cond} {own : String}
theorem g_iconst {z : Int} {v : Int32} (h : gOk Γ cc Ts own) (hdg : decode cc pc = .ok (.iconst z, 1)) (hn : pc + 1 = n) (hv : Int32.ofInt z = v) (k : G Γ ws kc ks n lv (.int v :: st)) : G Γ ws kc ks pc lv (st) := by
  obtain ⟨p, l, e, R, s, m, args, below, meth, c, D, Y, A, Q, nL⟩ := Γ
  obtain ⟨⟨hx, hb, hml, hown, hts⟩, hK, hA⟩ := h
  subst hn
  intro H locs ls hP hD hS hl
  exact lv_iconst hx hb hdg hv (k H locs ls hP hD hS hl)
theorem g_bipush {z : Int} {v : Int32} (h : gOk Γ cc Ts own) (hdg : decode cc pc = .ok (.bipush z, 2)) (hn : pc + 2 = n) (hv : (Int8.ofInt z).toInt32 = v) (k : G Γ ws kc ks n lv (.int v :: st)) : G Γ ws kc ks pc lv (st) := by
  obtain ⟨p, l, e, R, s, m, args, below, meth, c, D, Y, A, Q, nL⟩ := Γ
  obtain ⟨⟨hx, hb, hml, hown, hts⟩, hK, hA⟩ := h
  subst hn
  intro H locs ls hP hD hS hl
  exact lv_bipush hx hb hdg hv (k H locs ls hP hD hS hl)
theorem g_sipush {z : Int} {v : Int32} (h : gOk Γ cc Ts own) (hdg : decode cc pc = .ok (.sipush z, 3)) (hn : pc + 3 = n) (hv : (Int16.ofInt z).toInt32 = v) (k : G Γ ws kc ks n lv (.int v :: st)) : G Γ ws kc ks pc lv (st) := by
  obtain ⟨p, l, e, R, s, m, args, below, meth, c, D, Y, A, Q, nL⟩ := Γ
  obtain ⟨⟨hx, hb, hml, hown, hts⟩, hK, hA⟩ := h
  subst hn
  intro H locs ls hP hD hS hl
  exact lv_sipush hx hb hdg hv (k H locs ls hP hD hS hl)
theorem g_lconst {z : Fin 2} {v : Int64} (h : gOk Γ cc Ts own) (hdg : decode cc pc = .ok (.lconst z, 1)) (hn : pc + 1 = n) (hv : Int64.ofNat (z : Nat) = v) (k : G Γ ws kc ks n lv (.long v :: st)) : G Γ ws kc ks pc lv (st) := by
  obtain ⟨p, l, e, R, s, m, args, below, meth, c, D, Y, A, Q, nL⟩ := Γ
  obtain ⟨⟨hx, hb, hml, hown, hts⟩, hK, hA⟩ := h
  subst hn
  intro H locs ls hP hD hS hl
  exact lv_lconst hx hb hdg hv (k H locs ls hP hD hS hl)
theorem g_iload_n {z : Fin 4} {i : Nat} {x : Int32} (h : gOk Γ cc Ts own) (hdg : decode cc pc = .ok (.iload_n z, 1)) (hn : pc + 1 = n) (hi : (z : Nat) = i) (hv : gl lv i = some (.int x)) (k : G Γ ws kc ks n lv (.int x :: st)) : G Γ ws kc ks pc lv (st) := by
  obtain ⟨p, l, e, R, s, m, args, below, meth, c, D, Y, A, Q, nL⟩ := Γ
  obtain ⟨⟨hx, hb, hml, hown, hts⟩, hK, hA⟩ := h
  subst hn
  intro H locs ls hP hD hS hl
  exact lv_iload_n hx hb hdg hi (gl_at hl hv) (k H locs ls hP hD hS hl)
theorem g_iload {i : Nat} {x : Int32} (h : gOk Γ cc Ts own) (hdg : decode cc pc = .ok (.iload i, 2)) (hn : pc + 2 = n) (hv : gl lv i = some (.int x)) (k : G Γ ws kc ks n lv (.int x :: st)) : G Γ ws kc ks pc lv (st) := by
  obtain ⟨p, l, e, R, s, m, args, below, meth, c, D, Y, A, Q, nL⟩ := Γ
  obtain ⟨⟨hx, hb, hml, hown, hts⟩, hK, hA⟩ := h
  subst hn
  intro H locs ls hP hD hS hl
  exact lv_iload hx hb hdg (gl_at hl hv) (k H locs ls hP hD hS hl)
theorem g_lload_n {z : Fin 4} {i : Nat} {x : Int64} (h : gOk Γ cc Ts own) (hdg : decode cc pc = .ok (.lload_n z, 1)) (hn : pc + 1 = n) (hi : (z : Nat) = i) (hv : gl lv i = some (.long x)) (k : G Γ ws kc ks n lv (.long x :: st)) : G Γ ws kc ks pc lv (st) := by
  obtain ⟨p, l, e, R, s, m, args, below, meth, c, D, Y, A, Q, nL⟩ := Γ
  obtain ⟨⟨hx, hb, hml, hown, hts⟩, hK, hA⟩ := h
  subst hn
  intro H locs ls hP hD hS hl
  exact lv_lload_n hx hb hdg hi (gl_at hl hv) (k H locs ls hP hD hS hl)
theorem g_lload {i : Nat} {x : Int64} (h : gOk Γ cc Ts own) (hdg : decode cc pc = .ok (.lload i, 2)) (hn : pc + 2 = n) (hv : gl lv i = some (.long x)) (k : G Γ ws kc ks n lv (.long x :: st)) : G Γ ws kc ks pc lv (st) := by
  obtain ⟨p, l, e, R, s, m, args, below, meth, c, D, Y, A, Q, nL⟩ := Γ
  obtain ⟨⟨hx, hb, hml, hown, hts⟩, hK, hA⟩ := h
  subst hn
  intro H locs ls hP hD hS hl
  exact lv_lload hx hb hdg (gl_at hl hv) (k H locs ls hP hD hS hl)
theorem g_aload_n {z : Fin 4} {i : Nat} {x : Nat} (h : gOk Γ cc Ts own) (hdg : decode cc pc = .ok (.aload_n z, 1)) (hn : pc + 1 = n) (hi : (z : Nat) = i) (hv : gl lv i = some (.ref x)) (k : G Γ ws kc ks n lv (.ref x :: st)) : G Γ ws kc ks pc lv (st) := by
  obtain ⟨p, l, e, R, s, m, args, below, meth, c, D, Y, A, Q, nL⟩ := Γ
  obtain ⟨⟨hx, hb, hml, hown, hts⟩, hK, hA⟩ := h
  subst hn
  intro H locs ls hP hD hS hl
  exact lv_aload_n hx hb hdg hi (gl_at hl hv) (k H locs ls hP hD hS hl)
theorem g_aload {i : Nat} {x : Nat} (h : gOk Γ cc Ts own) (hdg : decode cc pc = .ok (.aload i, 2)) (hn : pc + 2 = n) (hv : gl lv i = some (.ref x)) (k : G Γ ws kc ks n lv (.ref x :: st)) : G Γ ws kc ks pc lv (st) := by
  obtain ⟨p, l, e, R, s, m, args, below, meth, c, D, Y, A, Q, nL⟩ := Γ
  obtain ⟨⟨hx, hb, hml, hown, hts⟩, hK, hA⟩ := h
  subst hn
  intro H locs ls hP hD hS hl
  exact lv_aload hx hb hdg (gl_at hl hv) (k H locs ls hP hD hS hl)
theorem g_aload_nN {z : Fin 4} {i : Nat} (h : gOk Γ cc Ts own) (hdg : decode cc pc = .ok (.aload_n z, 1)) (hn : pc + 1 = n) (hi : (z : Nat) = i) (hv : gl lv i = some .null) (k : G Γ ws kc ks n lv (.null :: st)) : G Γ ws kc ks pc lv (st) := by
  obtain ⟨p, l, e, R, s, m, args, below, meth, c, D, Y, A, Q, nL⟩ := Γ
  obtain ⟨⟨hx, hb, hml, hown, hts⟩, hK, hA⟩ := h
  subst hn
  intro H locs ls hP hD hS hl
  exact lv_aload_nN hx hb hdg hi (gl_at hl hv) (k H locs ls hP hD hS hl)
theorem g_aloadN {i : Nat} (h : gOk Γ cc Ts own) (hdg : decode cc pc = .ok (.aload i, 2)) (hn : pc + 2 = n) (hv : gl lv i = some .null) (k : G Γ ws kc ks n lv (.null :: st)) : G Γ ws kc ks pc lv (st) := by
  obtain ⟨p, l, e, R, s, m, args, below, meth, c, D, Y, A, Q, nL⟩ := Γ
  obtain ⟨⟨hx, hb, hml, hown, hts⟩, hK, hA⟩ := h
  subst hn
  intro H locs ls hP hD hS hl
  exact lv_aloadN hx hb hdg (gl_at hl hv) (k H locs ls hP hD hS hl)
theorem g_null  (h : gOk Γ cc Ts own) (hdg : decode cc pc = .ok (.aconst_null, 1)) (hn : pc + 1 = n) (k : G Γ ws kc ks n lv (.null :: st)) : G Γ ws kc ks pc lv (st) := by
  obtain ⟨p, l, e, R, s, m, args, below, meth, c, D, Y, A, Q, nL⟩ := Γ
  obtain ⟨⟨hx, hb, hml, hown, hts⟩, hK, hA⟩ := h
  subst hn
  intro H locs ls hP hD hS hl
  exact lv_null hx hb hdg (k H locs ls hP hD hS hl)
theorem g_iadd {x y v : Int32} (h : gOk Γ cc Ts own) (hdg : decode cc pc = .ok (.iadd, 1)) (hn : pc + 1 = n) (hv : x + y = v) (k : G Γ ws kc ks n lv (.int v :: st)) : G Γ ws kc ks pc lv (.int y :: .int x :: st) := by
  obtain ⟨p, l, e, R, s, m, args, below, meth, c, D, Y, A, Q, nL⟩ := Γ
  obtain ⟨⟨hx, hb, hml, hown, hts⟩, hK, hA⟩ := h
  subst hn
  subst hv
  intro H locs ls hP hD hS hl
  exact lv_iadd hx hb hdg (k H locs ls hP hD hS hl)
theorem g_isub {x y v : Int32} (h : gOk Γ cc Ts own) (hdg : decode cc pc = .ok (.isub, 1)) (hn : pc + 1 = n) (hv : x - y = v) (k : G Γ ws kc ks n lv (.int v :: st)) : G Γ ws kc ks pc lv (.int y :: .int x :: st) := by
  obtain ⟨p, l, e, R, s, m, args, below, meth, c, D, Y, A, Q, nL⟩ := Γ
  obtain ⟨⟨hx, hb, hml, hown, hts⟩, hK, hA⟩ := h
  subst hn
  subst hv
  intro H locs ls hP hD hS hl
  exact lv_isub hx hb hdg (k H locs ls hP hD hS hl)
theorem g_imul {x y v : Int32} (h : gOk Γ cc Ts own) (hdg : decode cc pc = .ok (.imul, 1)) (hn : pc + 1 = n) (hv : x * y = v) (k : G Γ ws kc ks n lv (.int v :: st)) : G Γ ws kc ks pc lv (.int y :: .int x :: st) := by
  obtain ⟨p, l, e, R, s, m, args, below, meth, c, D, Y, A, Q, nL⟩ := Γ
  obtain ⟨⟨hx, hb, hml, hown, hts⟩, hK, hA⟩ := h
  subst hn
  subst hv
  intro H locs ls hP hD hS hl
  exact lv_imul hx hb hdg (k H locs ls hP hD hS hl)
theorem g_iand {x y v : Int32} (h : gOk Γ cc Ts own) (hdg : decode cc pc = .ok (.iand, 1)) (hn : pc + 1 = n) (hv : x &&& y = v) (k : G Γ ws kc ks n lv (.int v :: st)) : G Γ ws kc ks pc lv (.int y :: .int x :: st) := by
  obtain ⟨p, l, e, R, s, m, args, below, meth, c, D, Y, A, Q, nL⟩ := Γ
  obtain ⟨⟨hx, hb, hml, hown, hts⟩, hK, hA⟩ := h
  subst hn
  subst hv
  intro H locs ls hP hD hS hl
  exact lv_iand hx hb hdg (k H locs ls hP hD hS hl)
theorem g_ior {x y v : Int32} (h : gOk Γ cc Ts own) (hdg : decode cc pc = .ok (.ior, 1)) (hn : pc + 1 = n) (hv : x ||| y = v) (k : G Γ ws kc ks n lv (.int v :: st)) : G Γ ws kc ks pc lv (.int y :: .int x :: st) := by
  obtain ⟨p, l, e, R, s, m, args, below, meth, c, D, Y, A, Q, nL⟩ := Γ
  obtain ⟨⟨hx, hb, hml, hown, hts⟩, hK, hA⟩ := h
  subst hn
  subst hv
  intro H locs ls hP hD hS hl
  exact lv_ior hx hb hdg (k H locs ls hP hD hS hl)
theorem g_ladd {x y v : Int64} (h : gOk Γ cc Ts own) (hdg : decode cc pc = .ok (.ladd, 1)) (hn : pc + 1 = n) (hv : x + y = v) (k : G Γ ws kc ks n lv (.long v :: st)) : G Γ ws kc ks pc lv (.long y :: .long x :: st) := by
  obtain ⟨p, l, e, R, s, m, args, below, meth, c, D, Y, A, Q, nL⟩ := Γ
  obtain ⟨⟨hx, hb, hml, hown, hts⟩, hK, hA⟩ := h
  subst hn
  subst hv
  intro H locs ls hP hD hS hl
  exact lv_ladd hx hb hdg (k H locs ls hP hD hS hl)
theorem g_lsub {x y v : Int64} (h : gOk Γ cc Ts own) (hdg : decode cc pc = .ok (.lsub, 1)) (hn : pc + 1 = n) (hv : x - y = v) (k : G Γ ws kc ks n lv (.long v :: st)) : G Γ ws kc ks pc lv (.long y :: .long x :: st) := by
  obtain ⟨p, l, e, R, s, m, args, below, meth, c, D, Y, A, Q, nL⟩ := Γ
  obtain ⟨⟨hx, hb, hml, hown, hts⟩, hK, hA⟩ := h
  subst hn
  subst hv
  intro H locs ls hP hD hS hl
  exact lv_lsub hx hb hdg (k H locs ls hP hD hS hl)
theorem g_lmul {x y v : Int64} (h : gOk Γ cc Ts own) (hdg : decode cc pc = .ok (.lmul, 1)) (hn : pc + 1 = n) (hv : x * y = v) (k : G Γ ws kc ks n lv (.long v :: st)) : G Γ ws kc ks pc lv (.long y :: .long x :: st) := by
  obtain ⟨p, l, e, R, s, m, args, below, meth, c, D, Y, A, Q, nL⟩ := Γ
  obtain ⟨⟨hx, hb, hml, hown, hts⟩, hK, hA⟩ := h
  subst hn
  subst hv
  intro H locs ls hP hD hS hl
  exact lv_lmul hx hb hdg (k H locs ls hP hD hS hl)
theorem g_land {x y v : Int64} (h : gOk Γ cc Ts own) (hdg : decode cc pc = .ok (.land, 1)) (hn : pc + 1 = n) (hv : x &&& y = v) (k : G Γ ws kc ks n lv (.long v :: st)) : G Γ ws kc ks pc lv (.long y :: .long x :: st) := by
  obtain ⟨p, l, e, R, s, m, args, below, meth, c, D, Y, A, Q, nL⟩ := Γ
  obtain ⟨⟨hx, hb, hml, hown, hts⟩, hK, hA⟩ := h
  subst hn
  subst hv
  intro H locs ls hP hD hS hl
  exact lv_land hx hb hdg (k H locs ls hP hD hS hl)
theorem g_lor {x y v : Int64} (h : gOk Γ cc Ts own) (hdg : decode cc pc = .ok (.lor, 1)) (hn : pc + 1 = n) (hv : x ||| y = v) (k : G Γ ws kc ks n lv (.long v :: st)) : G Γ ws kc ks pc lv (.long y :: .long x :: st) := by
  obtain ⟨p, l, e, R, s, m, args, below, meth, c, D, Y, A, Q, nL⟩ := Γ
  obtain ⟨⟨hx, hb, hml, hown, hts⟩, hK, hA⟩ := h
  subst hn
  subst hv
  intro H locs ls hP hD hS hl
  exact lv_lor hx hb hdg (k H locs ls hP hD hS hl)
theorem g_ishl {x y v : Int32} (h : gOk Γ cc Ts own) (hdg : decode cc pc = .ok (.ishl, 1)) (hn : pc + 1 = n) (hv : x <<< (y &&& 31) = v) (k : G Γ ws kc ks n lv (.int v :: st)) : G Γ ws kc ks pc lv (.int y :: .int x :: st) := by
  obtain ⟨p, l, e, R, s, m, args, below, meth, c, D, Y, A, Q, nL⟩ := Γ
  obtain ⟨⟨hx, hb, hml, hown, hts⟩, hK, hA⟩ := h
  subst hn
  subst hv
  intro H locs ls hP hD hS hl
  exact lv_ishl hx hb hdg (k H locs ls hP hD hS hl)
theorem g_ishr {x y v : Int32} (h : gOk Γ cc Ts own) (hdg : decode cc pc = .ok (.ishr, 1)) (hn : pc + 1 = n) (hv : x >>> (y &&& 31) = v) (k : G Γ ws kc ks n lv (.int v :: st)) : G Γ ws kc ks pc lv (.int y :: .int x :: st) := by
  obtain ⟨p, l, e, R, s, m, args, below, meth, c, D, Y, A, Q, nL⟩ := Γ
  obtain ⟨⟨hx, hb, hml, hown, hts⟩, hK, hA⟩ := h
  subst hn
  subst hv
  intro H locs ls hP hD hS hl
  exact lv_ishr hx hb hdg (k H locs ls hP hD hS hl)
theorem g_idiv {x y v : Int32} (h : gOk Γ cc Ts own) (hdg : decode cc pc = .ok (.idiv, 1)) (hn : pc + 1 = n) (hne : ¬ y = 0) (hv : x / y = v) (k : G Γ ws kc ks n lv (.int v :: st)) : G Γ ws kc ks pc lv (.int y :: .int x :: st) := by
  obtain ⟨p, l, e, R, s, m, args, below, meth, c, D, Y, A, Q, nL⟩ := Γ
  obtain ⟨⟨hx, hb, hml, hown, hts⟩, hK, hA⟩ := h
  subst hn
  subst hv
  intro H locs ls hP hD hS hl
  exact lv_idiv hx hb hdg hne (k H locs ls hP hD hS hl)
theorem g_irem {x y v : Int32} (h : gOk Γ cc Ts own) (hdg : decode cc pc = .ok (.irem, 1)) (hn : pc + 1 = n) (hne : ¬ y = 0) (hv : x - x / y * y = v) (k : G Γ ws kc ks n lv (.int v :: st)) : G Γ ws kc ks pc lv (.int y :: .int x :: st) := by
  obtain ⟨p, l, e, R, s, m, args, below, meth, c, D, Y, A, Q, nL⟩ := Γ
  obtain ⟨⟨hx, hb, hml, hown, hts⟩, hK, hA⟩ := h
  subst hn
  subst hv
  intro H locs ls hP hD hS hl
  exact lv_irem hx hb hdg hne (k H locs ls hP hD hS hl)
theorem g_ldiv {x y v : Int64} (h : gOk Γ cc Ts own) (hdg : decode cc pc = .ok (.ldiv, 1)) (hn : pc + 1 = n) (hne : ¬ y = 0) (hv : x / y = v) (k : G Γ ws kc ks n lv (.long v :: st)) : G Γ ws kc ks pc lv (.long y :: .long x :: st) := by
  obtain ⟨p, l, e, R, s, m, args, below, meth, c, D, Y, A, Q, nL⟩ := Γ
  obtain ⟨⟨hx, hb, hml, hown, hts⟩, hK, hA⟩ := h
  subst hn
  subst hv
  intro H locs ls hP hD hS hl
  exact lv_ldiv hx hb hdg hne (k H locs ls hP hD hS hl)
theorem g_lrem {x y v : Int64} (h : gOk Γ cc Ts own) (hdg : decode cc pc = .ok (.lrem, 1)) (hn : pc + 1 = n) (hne : ¬ y = 0) (hv : x - x / y * y = v) (k : G Γ ws kc ks n lv (.long v :: st)) : G Γ ws kc ks pc lv (.long y :: .long x :: st) := by
  obtain ⟨p, l, e, R, s, m, args, below, meth, c, D, Y, A, Q, nL⟩ := Γ
  obtain ⟨⟨hx, hb, hml, hown, hts⟩, hK, hA⟩ := h
  subst hn
  subst hv
  intro H locs ls hP hD hS hl
  exact lv_lrem hx hb hdg hne (k H locs ls hP hD hS hl)
theorem g_lshl {x v : Int64} {y : Int32} (h : gOk Γ cc Ts own) (hdg : decode cc pc = .ok (.lshl, 1)) (hn : pc + 1 = n) (hv : x <<< (y.toInt64 &&& 63) = v) (k : G Γ ws kc ks n lv (.long v :: st)) : G Γ ws kc ks pc lv (.int y :: .long x :: st) := by
  obtain ⟨p, l, e, R, s, m, args, below, meth, c, D, Y, A, Q, nL⟩ := Γ
  obtain ⟨⟨hx, hb, hml, hown, hts⟩, hK, hA⟩ := h
  subst hn
  intro H locs ls hP hD hS hl
  exact lv_lshl hx hb hdg hv (k H locs ls hP hD hS hl)
theorem g_lshr {x v : Int64} {y : Int32} (h : gOk Γ cc Ts own) (hdg : decode cc pc = .ok (.lshr, 1)) (hn : pc + 1 = n) (hv : x >>> (y.toInt64 &&& 63) = v) (k : G Γ ws kc ks n lv (.long v :: st)) : G Γ ws kc ks pc lv (.int y :: .long x :: st) := by
  obtain ⟨p, l, e, R, s, m, args, below, meth, c, D, Y, A, Q, nL⟩ := Γ
  obtain ⟨⟨hx, hb, hml, hown, hts⟩, hK, hA⟩ := h
  subst hn
  intro H locs ls hP hD hS hl
  exact lv_lshr hx hb hdg hv (k H locs ls hP hD hS hl)
theorem g_i2l {x : Int32} {v : Int64} (h : gOk Γ cc Ts own) (hdg : decode cc pc = .ok (.i2l, 1)) (hn : pc + 1 = n) (hv : x.toInt64 = v) (k : G Γ ws kc ks n lv (.long v :: st)) : G Γ ws kc ks pc lv (.int x :: st) := by
  obtain ⟨p, l, e, R, s, m, args, below, meth, c, D, Y, A, Q, nL⟩ := Γ
  obtain ⟨⟨hx, hb, hml, hown, hts⟩, hK, hA⟩ := h
  subst hn
  intro H locs ls hP hD hS hl
  exact lv_i2l hx hb hdg hv (k H locs ls hP hD hS hl)
theorem g_l2i {x : Int64} {v : Int32} (h : gOk Γ cc Ts own) (hdg : decode cc pc = .ok (.l2i, 1)) (hn : pc + 1 = n) (hv : x.toInt32 = v) (k : G Γ ws kc ks n lv (.int v :: st)) : G Γ ws kc ks pc lv (.long x :: st) := by
  obtain ⟨p, l, e, R, s, m, args, below, meth, c, D, Y, A, Q, nL⟩ := Γ
  obtain ⟨⟨hx, hb, hml, hown, hts⟩, hK, hA⟩ := h
  subst hn
  intro H locs ls hP hD hS hl
  exact lv_l2i hx hb hdg hv (k H locs ls hP hD hS hl)
theorem g_i2b {x : Int32} {v : Int32} (h : gOk Γ cc Ts own) (hdg : decode cc pc = .ok (.i2b, 1)) (hn : pc + 1 = n) (hv : x.toInt8.toInt32 = v) (k : G Γ ws kc ks n lv (.int v :: st)) : G Γ ws kc ks pc lv (.int x :: st) := by
  obtain ⟨p, l, e, R, s, m, args, below, meth, c, D, Y, A, Q, nL⟩ := Γ
  obtain ⟨⟨hx, hb, hml, hown, hts⟩, hK, hA⟩ := h
  subst hn
  intro H locs ls hP hD hS hl
  exact lv_i2b hx hb hdg hv (k H locs ls hP hD hS hl)
theorem g_i2c {x : Int32} {v : Int32} (h : gOk Γ cc Ts own) (hdg : decode cc pc = .ok (.i2c, 1)) (hn : pc + 1 = n) (hv : (x.toUInt32 % 65536).toInt32 = v) (k : G Γ ws kc ks n lv (.int v :: st)) : G Γ ws kc ks pc lv (.int x :: st) := by
  obtain ⟨p, l, e, R, s, m, args, below, meth, c, D, Y, A, Q, nL⟩ := Γ
  obtain ⟨⟨hx, hb, hml, hown, hts⟩, hK, hA⟩ := h
  subst hn
  intro H locs ls hP hD hS hl
  exact lv_i2c hx hb hdg hv (k H locs ls hP hD hS hl)
theorem g_dup {va : Value} (h : gOk Γ cc Ts own) (hdg : decode cc pc = .ok (.dup, 1)) (hn : pc + 1 = n) (hva : va.category = 1) (k : G Γ ws kc ks n lv (va :: va :: st)) : G Γ ws kc ks pc lv (va :: st) := by
  obtain ⟨p, l, e, R, s, m, args, below, meth, c, D, Y, A, Q, nL⟩ := Γ
  obtain ⟨⟨hx, hb, hml, hown, hts⟩, hK, hA⟩ := h
  subst hn
  intro H locs ls hP hD hS hl
  exact lv_dup hx hb hdg hva (k H locs ls hP hD hS hl)
theorem g_pop {va : Value} (h : gOk Γ cc Ts own) (hdg : decode cc pc = .ok (.pop, 1)) (hn : pc + 1 = n) (hva : va.category = 1) (k : G Γ ws kc ks n lv (st)) : G Γ ws kc ks pc lv (va :: st) := by
  obtain ⟨p, l, e, R, s, m, args, below, meth, c, D, Y, A, Q, nL⟩ := Γ
  obtain ⟨⟨hx, hb, hml, hown, hts⟩, hK, hA⟩ := h
  subst hn
  intro H locs ls hP hD hS hl
  exact lv_pop hx hb hdg hva (k H locs ls hP hD hS hl)
theorem g_dup2 {va vb : Value} (h : gOk Γ cc Ts own) (hdg : decode cc pc = .ok (.dup2, 1)) (hn : pc + 1 = n) (hva : va.category = 1) (hvb : vb.category = 1) (k : G Γ ws kc ks n lv (va :: vb :: va :: vb :: st)) : G Γ ws kc ks pc lv (va :: vb :: st) := by
  obtain ⟨p, l, e, R, s, m, args, below, meth, c, D, Y, A, Q, nL⟩ := Γ
  obtain ⟨⟨hx, hb, hml, hown, hts⟩, hK, hA⟩ := h
  subst hn
  intro H locs ls hP hD hS hl
  exact lv_dup2_11 hx hb hdg hva hvb (k H locs ls hP hD hS hl)
theorem g_lcmp {x y : Int64} (h : gOk Γ cc Ts own) (hdg : decode cc pc = .ok (.lcmp, 1)) (hn : pc + 1 = n) (k : G Γ ws kc ks n lv (.int (lg_cmp x y) :: st)) : G Γ ws kc ks pc lv (.long y :: .long x :: st) := by
  obtain ⟨p, l, e, R, s, m, args, below, meth, c, D, Y, A, Q, nL⟩ := Γ
  obtain ⟨⟨hx, hb, hml, hown, hts⟩, hK, hA⟩ := h
  subst hn
  intro H locs ls hP hD hS hl
  exact W.lcmp hx hb hdg (k H locs ls hP hD hS hl)
theorem g_ldc {index : Nat} {v : Int32} (h : gOk Γ cc Ts own) (hdg : decode cc pc = .ok (.ldc index, 2)) (hn : pc + 2 = n) (hc : Jvm.Cond.constant own index v ∈ Ts) (k : G Γ ws kc ks n lv (.int v :: st)) : G Γ ws kc ks pc lv (st) := by
  obtain ⟨p, l, e, R, s, m, args, below, meth, c, D, Y, A, Q, nL⟩ := Γ
  obtain ⟨⟨hx, hb, hml, hown, hts⟩, hK, hA⟩ := h
  subst hn
  intro H locs ls hP hD hS hl
  exact lv_ldc hx hb hown (hts _ hc) hdg (k H locs ls hP hD hS hl)
theorem g_ldc2 {index : Nat} {v : Int64} (h : gOk Γ cc Ts own) (hdg : decode cc pc = .ok (.ldc2_w index, 3)) (hn : pc + 3 = n) (hc : Jvm.Cond.constantLong own index v ∈ Ts) (k : G Γ ws kc ks n lv (.long v :: st)) : G Γ ws kc ks pc lv (st) := by
  obtain ⟨p, l, e, R, s, m, args, below, meth, c, D, Y, A, Q, nL⟩ := Γ
  obtain ⟨⟨hx, hb, hml, hown, hts⟩, hK, hA⟩ := h
  subst hn
  intro H locs ls hP hD hS hl
  exact lv_ldc2 hx hb hown (hts _ hc) hdg (k H locs ls hP hD hS hl)
theorem g_goto {off : Int} (h : gOk Γ cc Ts own) (hdg : decode cc pc = .ok (.goto off, 3)) (ht : (pc : Int) + off = (n : Int)) (k : G Γ ws kc ks n lv st) : G Γ ws kc ks pc lv st := by
  obtain ⟨p, l, e, R, s, m, args, below, meth, c, D, Y, A, Q, nL⟩ := Γ
  obtain ⟨⟨hx, hb, hml, hown, hts⟩, hK, hA⟩ := h
  intro H locs ls hP hD hS hl
  exact lv_goto hx hb hdg ht (k H locs ls hP hD hS hl)
theorem g_if_eq {x : Int32} {off : Int} {tgt : Nat} (h : gOk Γ cc Ts own) (hdg : decode cc pc = .ok (.ifCond .eq off, 3)) (hn : pc + 3 = n) (ht : (pc : Int) + off = (tgt : Int)) (kt : x = 0 → G Γ ws kc ks tgt lv st) (kf : ¬ x = 0 → G Γ ws kc ks n lv st) : G Γ ws kc ks pc lv (.int x :: st) := by
  obtain ⟨p, l, e, R, s, m, args, below, meth, c, D, Y, A, Q, nL⟩ := Γ
  obtain ⟨⟨hx, hb, hml, hown, hts⟩, hK, hA⟩ := h
  subst hn
  intro H locs ls hP hD hS hl
  exact lv_if_eq hx hb hdg ht (fun q => kt q H locs ls hP hD hS hl) (fun q => kf q H locs ls hP hD hS hl)
theorem g_if_ne {x : Int32} {off : Int} {tgt : Nat} (h : gOk Γ cc Ts own) (hdg : decode cc pc = .ok (.ifCond .ne off, 3)) (hn : pc + 3 = n) (ht : (pc : Int) + off = (tgt : Int)) (kt : ¬ x = 0 → G Γ ws kc ks tgt lv st) (kf : x = 0 → G Γ ws kc ks n lv st) : G Γ ws kc ks pc lv (.int x :: st) := by
  obtain ⟨p, l, e, R, s, m, args, below, meth, c, D, Y, A, Q, nL⟩ := Γ
  obtain ⟨⟨hx, hb, hml, hown, hts⟩, hK, hA⟩ := h
  subst hn
  intro H locs ls hP hD hS hl
  exact lv_if_ne hx hb hdg ht (fun q => kt q H locs ls hP hD hS hl) (fun q => kf q H locs ls hP hD hS hl)
theorem g_if_lt {x : Int32} {off : Int} {tgt : Nat} (h : gOk Γ cc Ts own) (hdg : decode cc pc = .ok (.ifCond .lt off, 3)) (hn : pc + 3 = n) (ht : (pc : Int) + off = (tgt : Int)) (kt : x < 0 → G Γ ws kc ks tgt lv st) (kf : ¬ x < 0 → G Γ ws kc ks n lv st) : G Γ ws kc ks pc lv (.int x :: st) := by
  obtain ⟨p, l, e, R, s, m, args, below, meth, c, D, Y, A, Q, nL⟩ := Γ
  obtain ⟨⟨hx, hb, hml, hown, hts⟩, hK, hA⟩ := h
  subst hn
  intro H locs ls hP hD hS hl
  exact lv_if_lt hx hb hdg ht (fun q => kt q H locs ls hP hD hS hl) (fun q => kf q H locs ls hP hD hS hl)
theorem g_if_ge {x : Int32} {off : Int} {tgt : Nat} (h : gOk Γ cc Ts own) (hdg : decode cc pc = .ok (.ifCond .ge off, 3)) (hn : pc + 3 = n) (ht : (pc : Int) + off = (tgt : Int)) (kt : 0 ≤ x → G Γ ws kc ks tgt lv st) (kf : ¬ 0 ≤ x → G Γ ws kc ks n lv st) : G Γ ws kc ks pc lv (.int x :: st) := by
  obtain ⟨p, l, e, R, s, m, args, below, meth, c, D, Y, A, Q, nL⟩ := Γ
  obtain ⟨⟨hx, hb, hml, hown, hts⟩, hK, hA⟩ := h
  subst hn
  intro H locs ls hP hD hS hl
  exact lv_if_ge hx hb hdg ht (fun q => kt q H locs ls hP hD hS hl) (fun q => kf q H locs ls hP hD hS hl)
theorem g_if_gt {x : Int32} {off : Int} {tgt : Nat} (h : gOk Γ cc Ts own) (hdg : decode cc pc = .ok (.ifCond .gt off, 3)) (hn : pc + 3 = n) (ht : (pc : Int) + off = (tgt : Int)) (kt : 0 < x → G Γ ws kc ks tgt lv st) (kf : ¬ 0 < x → G Γ ws kc ks n lv st) : G Γ ws kc ks pc lv (.int x :: st) := by
  obtain ⟨p, l, e, R, s, m, args, below, meth, c, D, Y, A, Q, nL⟩ := Γ
  obtain ⟨⟨hx, hb, hml, hown, hts⟩, hK, hA⟩ := h
  subst hn
  intro H locs ls hP hD hS hl
  exact lv_if_gt hx hb hdg ht (fun q => kt q H locs ls hP hD hS hl) (fun q => kf q H locs ls hP hD hS hl)
theorem g_if_le {x : Int32} {off : Int} {tgt : Nat} (h : gOk Γ cc Ts own) (hdg : decode cc pc = .ok (.ifCond .le off, 3)) (hn : pc + 3 = n) (ht : (pc : Int) + off = (tgt : Int)) (kt : x ≤ 0 → G Γ ws kc ks tgt lv st) (kf : ¬ x ≤ 0 → G Γ ws kc ks n lv st) : G Γ ws kc ks pc lv (.int x :: st) := by
  obtain ⟨p, l, e, R, s, m, args, below, meth, c, D, Y, A, Q, nL⟩ := Γ
  obtain ⟨⟨hx, hb, hml, hown, hts⟩, hK, hA⟩ := h
  subst hn
  intro H locs ls hP hD hS hl
  exact lv_if_le hx hb hdg ht (fun q => kt q H locs ls hP hD hS hl) (fun q => kf q H locs ls hP hD hS hl)
theorem g_icmp_eq {x y : Int32} {off : Int} {tgt : Nat} (h : gOk Γ cc Ts own) (hdg : decode cc pc = .ok (.if_icmp .eq off, 3)) (hn : pc + 3 = n) (ht : (pc : Int) + off = (tgt : Int)) (kt : x = y → G Γ ws kc ks tgt lv st) (kf : ¬ x = y → G Γ ws kc ks n lv st) : G Γ ws kc ks pc lv (.int y :: .int x :: st) := by
  obtain ⟨p, l, e, R, s, m, args, below, meth, c, D, Y, A, Q, nL⟩ := Γ
  obtain ⟨⟨hx, hb, hml, hown, hts⟩, hK, hA⟩ := h
  subst hn
  intro H locs ls hP hD hS hl
  exact lv_icmp_eq hx hb hdg ht (fun q => kt q H locs ls hP hD hS hl) (fun q => kf q H locs ls hP hD hS hl)
theorem g_icmp_ne {x y : Int32} {off : Int} {tgt : Nat} (h : gOk Γ cc Ts own) (hdg : decode cc pc = .ok (.if_icmp .ne off, 3)) (hn : pc + 3 = n) (ht : (pc : Int) + off = (tgt : Int)) (kt : ¬ x = y → G Γ ws kc ks tgt lv st) (kf : x = y → G Γ ws kc ks n lv st) : G Γ ws kc ks pc lv (.int y :: .int x :: st) := by
  obtain ⟨p, l, e, R, s, m, args, below, meth, c, D, Y, A, Q, nL⟩ := Γ
  obtain ⟨⟨hx, hb, hml, hown, hts⟩, hK, hA⟩ := h
  subst hn
  intro H locs ls hP hD hS hl
  exact lv_icmp_ne hx hb hdg ht (fun q => kt q H locs ls hP hD hS hl) (fun q => kf q H locs ls hP hD hS hl)
theorem g_icmp_lt {x y : Int32} {off : Int} {tgt : Nat} (h : gOk Γ cc Ts own) (hdg : decode cc pc = .ok (.if_icmp .lt off, 3)) (hn : pc + 3 = n) (ht : (pc : Int) + off = (tgt : Int)) (kt : x < y → G Γ ws kc ks tgt lv st) (kf : ¬ x < y → G Γ ws kc ks n lv st) : G Γ ws kc ks pc lv (.int y :: .int x :: st) := by
  obtain ⟨p, l, e, R, s, m, args, below, meth, c, D, Y, A, Q, nL⟩ := Γ
  obtain ⟨⟨hx, hb, hml, hown, hts⟩, hK, hA⟩ := h
  subst hn
  intro H locs ls hP hD hS hl
  exact lv_icmp_lt hx hb hdg ht (fun q => kt q H locs ls hP hD hS hl) (fun q => kf q H locs ls hP hD hS hl)
theorem g_icmp_ge {x y : Int32} {off : Int} {tgt : Nat} (h : gOk Γ cc Ts own) (hdg : decode cc pc = .ok (.if_icmp .ge off, 3)) (hn : pc + 3 = n) (ht : (pc : Int) + off = (tgt : Int)) (kt : y ≤ x → G Γ ws kc ks tgt lv st) (kf : ¬ y ≤ x → G Γ ws kc ks n lv st) : G Γ ws kc ks pc lv (.int y :: .int x :: st) := by
  obtain ⟨p, l, e, R, s, m, args, below, meth, c, D, Y, A, Q, nL⟩ := Γ
  obtain ⟨⟨hx, hb, hml, hown, hts⟩, hK, hA⟩ := h
  subst hn
  intro H locs ls hP hD hS hl
  exact lv_icmp_ge hx hb hdg ht (fun q => kt q H locs ls hP hD hS hl) (fun q => kf q H locs ls hP hD hS hl)
theorem g_icmp_gt {x y : Int32} {off : Int} {tgt : Nat} (h : gOk Γ cc Ts own) (hdg : decode cc pc = .ok (.if_icmp .gt off, 3)) (hn : pc + 3 = n) (ht : (pc : Int) + off = (tgt : Int)) (kt : y < x → G Γ ws kc ks tgt lv st) (kf : ¬ y < x → G Γ ws kc ks n lv st) : G Γ ws kc ks pc lv (.int y :: .int x :: st) := by
  obtain ⟨p, l, e, R, s, m, args, below, meth, c, D, Y, A, Q, nL⟩ := Γ
  obtain ⟨⟨hx, hb, hml, hown, hts⟩, hK, hA⟩ := h
  subst hn
  intro H locs ls hP hD hS hl
  exact lv_icmp_gt hx hb hdg ht (fun q => kt q H locs ls hP hD hS hl) (fun q => kf q H locs ls hP hD hS hl)
theorem g_icmp_le {x y : Int32} {off : Int} {tgt : Nat} (h : gOk Γ cc Ts own) (hdg : decode cc pc = .ok (.if_icmp .le off, 3)) (hn : pc + 3 = n) (ht : (pc : Int) + off = (tgt : Int)) (kt : x ≤ y → G Γ ws kc ks tgt lv st) (kf : ¬ x ≤ y → G Γ ws kc ks n lv st) : G Γ ws kc ks pc lv (.int y :: .int x :: st) := by
  obtain ⟨p, l, e, R, s, m, args, below, meth, c, D, Y, A, Q, nL⟩ := Γ
  obtain ⟨⟨hx, hb, hml, hown, hts⟩, hK, hA⟩ := h
  subst hn
  intro H locs ls hP hD hS hl
  exact lv_icmp_le hx hb hdg ht (fun q => kt q H locs ls hP hD hS hl) (fun q => kf q H locs ls hP hD hS hl)
theorem g_ifnonnull {x : Nat} {off : Int} {tgt : Nat} (h : gOk Γ cc Ts own) (hdg : decode cc pc = .ok (.ifnonnull off, 3)) (ht : (pc : Int) + off = (tgt : Int)) (k : G Γ ws kc ks tgt lv st) : G Γ ws kc ks pc lv (.ref x :: st) := by
  obtain ⟨p, l, e, R, s, m, args, below, meth, c, D, Y, A, Q, nL⟩ := Γ
  obtain ⟨⟨hx, hb, hml, hown, hts⟩, hK, hA⟩ := h
  intro H locs ls hP hD hS hl
  exact lv_ifnonnull hx hb hdg ht (k H locs ls hP hD hS hl)
theorem g_ifnonnullN {off : Int} (h : gOk Γ cc Ts own) (hdg : decode cc pc = .ok (.ifnonnull off, 3)) (hn : pc + 3 = n) (k : G Γ ws kc ks n lv st) : G Γ ws kc ks pc lv (.null :: st) := by
  obtain ⟨p, l, e, R, s, m, args, below, meth, c, D, Y, A, Q, nL⟩ := Γ
  obtain ⟨⟨hx, hb, hml, hown, hts⟩, hK, hA⟩ := h
  subst hn
  intro H locs ls hP hD hS hl
  exact lv_ifnonnullN hx hb hdg (k H locs ls hP hD hS hl)
theorem g_ifnull {x : Nat} {off : Int} (h : gOk Γ cc Ts own) (hdg : decode cc pc = .ok (.ifnull off, 3)) (hn : pc + 3 = n) (k : G Γ ws kc ks n lv st) : G Γ ws kc ks pc lv (.ref x :: st) := by
  obtain ⟨p, l, e, R, s, m, args, below, meth, c, D, Y, A, Q, nL⟩ := Γ
  obtain ⟨⟨hx, hb, hml, hown, hts⟩, hK, hA⟩ := h
  subst hn
  intro H locs ls hP hD hS hl
  exact lv_ifnull hx hb hdg (k H locs ls hP hD hS hl)
theorem g_ifnullN {off : Int} {tgt : Nat} (h : gOk Γ cc Ts own) (hdg : decode cc pc = .ok (.ifnull off, 3)) (ht : (pc : Int) + off = (tgt : Int)) (k : G Γ ws kc ks tgt lv st) : G Γ ws kc ks pc lv (.null :: st) := by
  obtain ⟨p, l, e, R, s, m, args, below, meth, c, D, Y, A, Q, nL⟩ := Γ
  obtain ⟨⟨hx, hb, hml, hown, hts⟩, hK, hA⟩ := h
  intro H locs ls hP hD hS hl
  exact lv_ifnullN hx hb hdg ht (k H locs ls hP hD hS hl)
theorem g_acmp_eq {rx ry : Option Nat} {off : Int} {tgt : Nat} (h : gOk Γ cc Ts own) (hdg : decode cc pc = .ok (.if_acmp .eq off, 3)) (hn : pc + 3 = n) (ht : (pc : Int) + off = (tgt : Int)) (kt : rx = ry → G Γ ws kc ks tgt lv st) (kf : ¬ rx = ry → G Γ ws kc ks n lv st) : G Γ ws kc ks pc lv (va_rf ry :: va_rf rx :: st) := by
  obtain ⟨p, l, e, R, s, m, args, below, meth, c, D, Y, A, Q, nL⟩ := Γ
  obtain ⟨⟨hx, hb, hml, hown, hts⟩, hK, hA⟩ := h
  subst hn
  intro H locs ls hP hD hS hl
  exact lv_acmp_eq hx hb hdg ht (fun q => kt q H locs ls hP hD hS hl) (fun q => kf q H locs ls hP hD hS hl)
theorem g_acmp_ne {rx ry : Option Nat} {off : Int} {tgt : Nat} (h : gOk Γ cc Ts own) (hdg : decode cc pc = .ok (.if_acmp .ne off, 3)) (hn : pc + 3 = n) (ht : (pc : Int) + off = (tgt : Int)) (kt : ¬ rx = ry → G Γ ws kc ks tgt lv st) (kf : rx = ry → G Γ ws kc ks n lv st) : G Γ ws kc ks pc lv (va_rf ry :: va_rf rx :: st) := by
  obtain ⟨p, l, e, R, s, m, args, below, meth, c, D, Y, A, Q, nL⟩ := Γ
  obtain ⟨⟨hx, hb, hml, hown, hts⟩, hK, hA⟩ := h
  subst hn
  intro H locs ls hP hD hS hl
  exact lv_acmp_ne hx hb hdg ht (fun q => kt q H locs ls hP hD hS hl) (fun q => kf q H locs ls hP hD hS hl)
theorem g_tableOut {dflt lo hi : Int} {offs : Array Int} {len : Nat} {x : Int32} (h : gOk Γ cc Ts own) (hdg : decode cc pc = .ok (.tableswitch dflt lo hi offs, len)) (hr : x.toInt < lo ∨ hi < x.toInt) (ht : (pc : Int) + dflt = (n : Int)) (k : G Γ ws kc ks n lv st) : G Γ ws kc ks pc lv (.int x :: st) := by
  obtain ⟨p, l, e, R, s, m, args, below, meth, c, D, Y, A, Q, nL⟩ := Γ
  obtain ⟨⟨hx, hb, hml, hown, hts⟩, hK, hA⟩ := h
  intro H locs ls hP hD hS hl
  exact lv_tableOut hx hb hdg hr ht (k H locs ls hP hD hS hl)
theorem g_tableIn {dflt lo hi : Int} {offs : Array Int} {len : Nat} {x : Int32} {off : Int} (h : gOk Γ cc Ts own) (hdg : decode cc pc = .ok (.tableswitch dflt lo hi offs, len)) (h1 : ¬ x.toInt < lo) (h2 : ¬ hi < x.toInt) (ho : offs[(x.toInt - lo).toNat]? = some off) (ht : (pc : Int) + off = (n : Int)) (k : G Γ ws kc ks n lv st) : G Γ ws kc ks pc lv (.int x :: st) := by
  obtain ⟨p, l, e, R, s, m, args, below, meth, c, D, Y, A, Q, nL⟩ := Γ
  obtain ⟨⟨hx, hb, hml, hown, hts⟩, hK, hA⟩ := h
  intro H locs ls hP hD hS hl
  exact lv_tableIn hx hb hdg h1 h2 ho ht (k H locs ls hP hD hS hl)
theorem g_istore_n {z : Fin 4} {i : Nat} {x : Int32} (h : gOk Γ cc Ts own) (hdg : decode cc pc = .ok (.istore_n z, 1)) (hn : pc + 1 = n) (hi : (z : Nat) = i) (hs : Nat.blt i (gnL Γ) = true) (hv : gst lv i (.int x) = lv') (k : G Γ ws kc ks n lv' st) : G Γ ws kc ks pc lv (.int x :: st) := by
  obtain ⟨p, l, e, R, s, m, args, below, meth, c, D, Y, A, Q, nL⟩ := Γ
  obtain ⟨⟨hx, hb, hml, hown, hts⟩, hK, hA⟩ := h
  subst hn
  intro H locs ls hP hD hS hl
  exact lv_istore_n hx hb hdg hi hl (Nat.blt_eq ▸ hs) hv (fun ls1 hl1 => k H locs ls1 hP hD hS hl1)
theorem g_istore {i : Nat} {x : Int32} (h : gOk Γ cc Ts own) (hdg : decode cc pc = .ok (.istore i, 2)) (hn : pc + 2 = n) (hs : Nat.blt i (gnL Γ) = true) (hv : gst lv i (.int x) = lv') (k : G Γ ws kc ks n lv' st) : G Γ ws kc ks pc lv (.int x :: st) := by
  obtain ⟨p, l, e, R, s, m, args, below, meth, c, D, Y, A, Q, nL⟩ := Γ
  obtain ⟨⟨hx, hb, hml, hown, hts⟩, hK, hA⟩ := h
  subst hn
  intro H locs ls hP hD hS hl
  exact lv_istore hx hb hdg hl (Nat.blt_eq ▸ hs) hv (fun ls1 hl1 => k H locs ls1 hP hD hS hl1)
theorem g_astore_n {z : Fin 4} {i : Nat} {x : Nat} (h : gOk Γ cc Ts own) (hdg : decode cc pc = .ok (.astore_n z, 1)) (hn : pc + 1 = n) (hi : (z : Nat) = i) (hs : Nat.blt i (gnL Γ) = true) (hv : gst lv i (.ref x) = lv') (k : G Γ ws kc ks n lv' st) : G Γ ws kc ks pc lv (.ref x :: st) := by
  obtain ⟨p, l, e, R, s, m, args, below, meth, c, D, Y, A, Q, nL⟩ := Γ
  obtain ⟨⟨hx, hb, hml, hown, hts⟩, hK, hA⟩ := h
  subst hn
  intro H locs ls hP hD hS hl
  exact lv_astore_n hx hb hdg hi hl (Nat.blt_eq ▸ hs) hv (fun ls1 hl1 => k H locs ls1 hP hD hS hl1)
theorem g_astore {i : Nat} {x : Nat} (h : gOk Γ cc Ts own) (hdg : decode cc pc = .ok (.astore i, 2)) (hn : pc + 2 = n) (hs : Nat.blt i (gnL Γ) = true) (hv : gst lv i (.ref x) = lv') (k : G Γ ws kc ks n lv' st) : G Γ ws kc ks pc lv (.ref x :: st) := by
  obtain ⟨p, l, e, R, s, m, args, below, meth, c, D, Y, A, Q, nL⟩ := Γ
  obtain ⟨⟨hx, hb, hml, hown, hts⟩, hK, hA⟩ := h
  subst hn
  intro H locs ls hP hD hS hl
  exact lv_astore hx hb hdg hl (Nat.blt_eq ▸ hs) hv (fun ls1 hl1 => k H locs ls1 hP hD hS hl1)
theorem g_astore_nN {z : Fin 4} {i : Nat} (h : gOk Γ cc Ts own) (hdg : decode cc pc = .ok (.astore_n z, 1)) (hn : pc + 1 = n) (hi : (z : Nat) = i) (hs : Nat.blt i (gnL Γ) = true) (hv : gst lv i .null = lv') (k : G Γ ws kc ks n lv' st) : G Γ ws kc ks pc lv (.null :: st) := by
  obtain ⟨p, l, e, R, s, m, args, below, meth, c, D, Y, A, Q, nL⟩ := Γ
  obtain ⟨⟨hx, hb, hml, hown, hts⟩, hK, hA⟩ := h
  subst hn
  intro H locs ls hP hD hS hl
  exact lv_astore_nN hx hb hdg hi hl (Nat.blt_eq ▸ hs) hv (fun ls1 hl1 => k H locs ls1 hP hD hS hl1)
theorem g_astoreN {i : Nat} (h : gOk Γ cc Ts own) (hdg : decode cc pc = .ok (.astore i, 2)) (hn : pc + 2 = n) (hs : Nat.blt i (gnL Γ) = true) (hv : gst lv i .null = lv') (k : G Γ ws kc ks n lv' st) : G Γ ws kc ks pc lv (.null :: st) := by
  obtain ⟨p, l, e, R, s, m, args, below, meth, c, D, Y, A, Q, nL⟩ := Γ
  obtain ⟨⟨hx, hb, hml, hown, hts⟩, hK, hA⟩ := h
  subst hn
  intro H locs ls hP hD hS hl
  exact lv_astoreN hx hb hdg hl (Nat.blt_eq ▸ hs) hv (fun ls1 hl1 => k H locs ls1 hP hD hS hl1)
theorem g_lstore {i : Nat} {x : Int64} (h : gOk Γ cc Ts own) (hdg : decode cc pc = .ok (.lstore i, 2)) (hn : pc + 2 = n) (hs : Nat.blt (i + 1) (gnL Γ) = true) (hv : gst2 lv i (.long x) = lv') (k : G Γ ws kc ks n lv' st) : G Γ ws kc ks pc lv (.long x :: st) := by
  obtain ⟨p, l, e, R, s, m, args, below, meth, c, D, Y, A, Q, nL⟩ := Γ
  obtain ⟨⟨hx, hb, hml, hown, hts⟩, hK, hA⟩ := h
  subst hn
  intro H locs ls hP hD hS hl
  exact lv_lstore hx hb hdg hl (Nat.blt_eq ▸ hs) hv (fun ls1 hl1 => k H locs ls1 hP hD hS hl1)
theorem g_iinc {i : Nat} {z : Int} {x v : Int32} (h : gOk Γ cc Ts own) (hdg : decode cc pc = .ok (.iinc i z, 3)) (hn : pc + 3 = n) (hx0 : gl lv i = some (.int x)) (hv : x + Int32.ofInt z = v) (hs : Nat.blt i (gnL Γ) = true) (hv2 : gst lv i (.int v) = lv') (k : G Γ ws kc ks n lv' st) : G Γ ws kc ks pc lv st := by
  obtain ⟨p, l, e, R, s, m, args, below, meth, c, D, Y, A, Q, nL⟩ := Γ
  obtain ⟨⟨hx, hb, hml, hown, hts⟩, hK, hA⟩ := h
  subst hn
  intro H locs ls hP hD hS hl
  obtain ⟨k0, hk0⟩ := List.getElem?_of_mem (gl_in hx0)
  exact lv_iinc hx hb hdg hl (k := k0) hk0 hv (Nat.blt_eq ▸ hs) hv2 (fun ls1 hl1 => k H locs ls1 hP hD hS hl1)
theorem g_lv {lv' : List (Nat × Value)} (hv : ∀ q ∈ lv', q ∈ lv) (k : G Γ ws kc ks pc lv' st) : G Γ ws kc ks pc lv st := by
  obtain ⟨p, l, e, R, s, m, args, below, meth, c, D, Y, A, Q, nL⟩ := Γ
  intro H locs ls hP hD hS hl
  exact k H locs ls hP hD hS ⟨hl.1, hl.2.1, fun q h => hl.2.2 q (hv q h)⟩
theorem g_widen {kc' ks' : Nat} (h1 : kc ≤ kc') (h2 : ks ≤ ks') (k : G Γ ws kc' ks' pc lv st) : G Γ ws kc ks pc lv st := by
  obtain ⟨p, l, e, R, s, m, args, below, meth, c, D, Y, A, Q, nL⟩ := Γ
  intro H locs ls hP hD hS hl
  exact W.widen h1 h2 (k H locs ls hP hD hS hl)
theorem g_ws {ws' : va_W} (e : ws = ws') (k : G Γ ws' kc ks pc lv st) : G Γ ws kc ks pc lv st := e ▸ k
theorem g_topi {x : Int32} (k : ∀ y : Int32, y = x → G Γ ws kc ks pc lv (.int y :: st)) : G Γ ws kc ks pc lv (.int x :: st) := k x rfl
theorem g_get {C ref : String} {T : u_T} {N ci index a : Nat} (h : gOk Γ cc Ts own) (hdg : decode cc pc = .ok (.getfield index, 3)) (hn : pc + 3 = n) (hin : ∀ w ∈ u_ws C T N, w ∈ Ts) (q0 : Nat) {fs : List Value} (he : ws[q0]? = some (a, .inr (ci, fs))) (hc : vwCl[ci]? = some (C, T, N)) (k0 : Nat) (hk : k0 < N) (hlink : Cond.fieldLink own index ref (T k0).2.1 (T k0).2.2.1 ∈ Ts) (href : (T k0).1 = ref) {v : Value} (hv : fs[k0]? = some v) (k : G Γ ws kc ks n lv (v :: st)) : G Γ ws kc ks pc lv (.ref a :: st) := by
  obtain ⟨p, l, e, R, s, m, args, below, meth, c, D, Y, A, Q, nL⟩ := Γ
  obtain ⟨⟨hx, hb, hml, hown, hts⟩, hK, hA⟩ := h
  subst hn
  intro H locs ls hP hD hS hl
  exact va_get hx hb hts hin hown hK hP q0 he hc k0 hk (hts _ hlink) (fun _ h9 => by rw [← href]; exact h9) hv hdg (k H locs ls hP hD hS hl)
theorem g_put {C ref : String} {T : u_T} {N ci index a : Nat} (ty0 : Nat → FieldType) (hty : ∀ k, k < N → parseFieldDescriptor (T k).2.2.1 = some (ty0 k)) (hnm : ∀ a, a < N → ∀ b, b < N → a ≠ b → (T a).2.1 ≠ (T b).2.1) (h : gOk Γ cc Ts own) (hdg : decode cc pc = .ok (.putfield index, 3)) (hn : pc + 3 = n) (hin : ∀ w ∈ u_ws C T N, w ∈ Ts) (q0 : Nat) {fs : List Value} (he : ws[q0]? = some (a, .inr (ci, fs))) (hc : vwCl[ci]? = some (C, T, N)) (k0 : Nat) (hk : k0 < N) (hlink : Cond.fieldLink own index ref (T k0).2.1 (T k0).2.2.1 ∈ Ts) (href : (T k0).1 = ref) (hfin : (T k0).2.2.2 = false) {v : Value} (hna : narrow (ty0 k0) v = v) (hfit : fits (ty0 k0) v = true) (hle : k0 < fs.length) (k : G Γ (ws.set q0 (a, .inr (ci, fs.set k0 v))) kc ks n lv st) : G Γ ws kc ks pc lv (v :: .ref a :: st) := by
  obtain ⟨p, l, e, R, s, m, args, below, meth, c, D, Y, A, Q, nL⟩ := Γ
  obtain ⟨⟨hx, hb, hml, hown, hts⟩, hK, hA⟩ := h
  subst hn
  intro H locs ls hP hD hS hl
  exact va_put hx hb hts hin ty0 hty hnm hown hK hP hD hS q0 he hc k0 hk (hts _ hlink) (fun _ h9 => by rw [← href]; exact h9) hfin (hty k0 hk) hna hfit hle hdg (fun H1 locs1 hP1 hD1 hS1 => k H1 locs1 ls hP1 hD1 hS1 hl)
def gInit : gT → Prop | (_, _, _, _, _, _, _, _, meth, _) => meth.name = "<init>"
theorem g_putF {C ref : String} {T : u_T} {N ci index a : Nat} (ty0 : Nat → FieldType) (hty : ∀ k, k < N → parseFieldDescriptor (T k).2.2.1 = some (ty0 k)) (hnm : ∀ a, a < N → ∀ b, b < N → a ≠ b → (T a).2.1 ≠ (T b).2.1) (h : gOk Γ cc Ts own) (hI : gInit Γ) (hdg : decode cc pc = .ok (.putfield index, 3)) (hn : pc + 3 = n) (hin : ∀ w ∈ u_ws C T N, w ∈ Ts) (q0 : Nat) {fs : List Value} (he : ws[q0]? = some (a, .inr (ci, fs))) (hc : vwCl[ci]? = some (C, T, N)) (k0 : Nat) (hk : k0 < N) (hlink : Cond.fieldLink own index ref (T k0).2.1 (T k0).2.2.1 ∈ Ts) (href : (T k0).1 = ref) (hfin : (T k0).2.2.2 = true) (hdecl : (T k0).1 = own) {v : Value} (hna : narrow (ty0 k0) v = v) (hfit : fits (ty0 k0) v = true) (hle : k0 < fs.length) (k : G Γ (ws.set q0 (a, .inr (ci, fs.set k0 v))) kc ks n lv st) : G Γ ws kc ks pc lv (v :: .ref a :: st) := by
  obtain ⟨p, l, e, R, s, m, args, below, meth, c, D, Y, A, Q, nL⟩ := Γ
  obtain ⟨⟨hx, hb, hml, hown, hts⟩, hK, hA⟩ := h
  subst hn
  intro H locs ls hP hD hS hl
  exact va_putF hx hb hts hin ty0 hty hnm hown hK hP hD hS q0 he hc k0 hk (hts _ hlink) (fun _ h9 => by rw [← href]; exact h9) hfin hI hdecl (hty k0 hk) hna hfit hle hdg (fun H1 locs1 hP1 hD1 hS1 => k H1 locs1 ls hP1 hD1 hS1 hl)
theorem g_iald {a : Nat} (h : gOk Γ cc Ts own) (hdg : decode cc pc = .ok (.iaload, 1)) (hn : pc + 1 = n) (q0 t0 : Nat) {cA : ClassId} {N : Nat} {f : Nat → Int32} (ha : ws[q0]? = some (a, .inl (cA, N, .inl f))) (ht : (gY Γ)[t0]? = some (cA, .int)) {i : Int32} (hi : vp_in i N) {v : Int32} (hv : f i.toNatClampNeg = v) (k : G Γ ws kc ks n lv (.int v :: st)) : G Γ ws kc ks pc lv (.int i :: .ref a :: st) := by
  obtain ⟨p, l, e, R, s, m, args, below, meth, c, D, Y, A, Q, nL⟩ := Γ
  obtain ⟨⟨hx, hb, hml, hown, hts⟩, hK, hA⟩ := h
  subst hn
  subst hv
  intro H locs ls hP hD hS hl
  exact va_iald hx hb hK hP q0 t0 ha ht hi hdg (k H locs ls hP hD hS hl)
theorem g_bald {a : Nat} (h : gOk Γ cc Ts own) (hdg : decode cc pc = .ok (.baload, 1)) (hn : pc + 1 = n) (q0 t0 : Nat) {cA : ClassId} {N : Nat} {f : Nat → Int32} (ha : ws[q0]? = some (a, .inl (cA, N, .inl f))) (ht : (gY Γ)[t0]? = some (cA, .byte)) {i : Int32} (hi : vp_in i N) {v : Int32} (hv : f i.toNatClampNeg = v) (k : G Γ ws kc ks n lv (.int v :: st)) : G Γ ws kc ks pc lv (.int i :: .ref a :: st) := by
  obtain ⟨p, l, e, R, s, m, args, below, meth, c, D, Y, A, Q, nL⟩ := Γ
  obtain ⟨⟨hx, hb, hml, hown, hts⟩, hK, hA⟩ := h
  subst hn
  subst hv
  intro H locs ls hP hD hS hl
  exact va_bald hx hb hK hP q0 t0 ha ht hi hdg (k H locs ls hP hD hS hl)
theorem g_zald {a : Nat} (h : gOk Γ cc Ts own) (hdg : decode cc pc = .ok (.baload, 1)) (hn : pc + 1 = n) (q0 t0 : Nat) {cA : ClassId} {N : Nat} {f : Nat → Int32} (ha : ws[q0]? = some (a, .inl (cA, N, .inl f))) (ht : (gY Γ)[t0]? = some (cA, .boolean)) {i : Int32} (hi : vp_in i N) {v : Int32} (hv : f i.toNatClampNeg = v) (k : G Γ ws kc ks n lv (.int v :: st)) : G Γ ws kc ks pc lv (.int i :: .ref a :: st) := by
  obtain ⟨p, l, e, R, s, m, args, below, meth, c, D, Y, A, Q, nL⟩ := Γ
  obtain ⟨⟨hx, hb, hml, hown, hts⟩, hK, hA⟩ := h
  subst hn
  subst hv
  intro H locs ls hP hD hS hl
  exact va_zald hx hb hK hP q0 t0 ha ht hi hdg (k H locs ls hP hD hS hl)
theorem g_lald {a : Nat} (h : gOk Γ cc Ts own) (hdg : decode cc pc = .ok (.laload, 1)) (hn : pc + 1 = n) (q0 t0 : Nat) {cA : ClassId} {N : Nat} {f : Nat → Int64} (ha : ws[q0]? = some (a, .inl (cA, N, .inr (.inl f)))) (ht : (gY Γ)[t0]? = some (cA, .long)) {i : Int32} (hi : vp_in i N) {v : Int64} (hv : f i.toNatClampNeg = v) (k : G Γ ws kc ks n lv (.long v :: st)) : G Γ ws kc ks pc lv (.int i :: .ref a :: st) := by
  obtain ⟨p, l, e, R, s, m, args, below, meth, c, D, Y, A, Q, nL⟩ := Γ
  obtain ⟨⟨hx, hb, hml, hown, hts⟩, hK, hA⟩ := h
  subst hn
  subst hv
  intro H locs ls hP hD hS hl
  exact va_lald hx hb hK hP q0 t0 ha ht hi hdg (k H locs ls hP hD hS hl)
theorem g_aald {a : Nat} (h : gOk Γ cc Ts own) (hdg : decode cc pc = .ok (.aaload, 1)) (hn : pc + 1 = n) (q0 t0 : Nat) {cA : ClassId} {C : String} {N : Nat} {f : Nat → Option Nat} (ha : ws[q0]? = some (a, .inl (cA, N, .inr (.inr (.inr (.inr f)))))) (ht : (gY Γ)[t0]? = some (cA, .object C)) {i : Int32} (hi : vp_in i N) {r : Option Nat} (hv : f i.toNatClampNeg = r) (k : G Γ ws kc ks n lv (va_rf r :: st)) : G Γ ws kc ks pc lv (.int i :: .ref a :: st) := by
  obtain ⟨p, l, e, R, s, m, args, below, meth, c, D, Y, A, Q, nL⟩ := Γ
  obtain ⟨⟨hx, hb, hml, hown, hts⟩, hK, hA⟩ := h
  subst hn
  subst hv
  intro H locs ls hP hD hS hl
  exact va_aldq hx hb hK hP q0 t0 ha ht hi hdg (k H locs ls hP hD hS hl)
theorem g_iast {a : Nat} (h : gOk Γ cc Ts own) (hdg : decode cc pc = .ok (.iastore, 1)) (hn : pc + 1 = n) (q0 t0 : Nat) {cA : ClassId} {N : Nat} {f : Nat → Int32} (ha : ws[q0]? = some (a, .inl (cA, N, .inl f))) (ht : (gY Γ)[t0]? = some (cA, .int)) {i x : Int32} (hi : vp_in i N) (k : G Γ (ws.set q0 (a, .inl (cA, N, .inl (upd f i.toNatClampNeg (x))))) kc ks n lv st) : G Γ ws kc ks pc lv (.int x :: .int i :: .ref a :: st) := by
  obtain ⟨p, l, e, R, s, m, args, below, meth, c, D, Y, A, Q, nL⟩ := Γ
  obtain ⟨⟨hx, hb, hml, hown, hts⟩, hK, hA⟩ := h
  subst hn
  intro H locs ls hP hD hS hl
  exact va_iast hx hb hK hP hD hS q0 t0 ha ht hi hdg (fun H1 locs1 hP1 hD1 hS1 => k H1 locs1 ls hP1 hD1 hS1 hl)
theorem g_bast {a : Nat} (h : gOk Γ cc Ts own) (hdg : decode cc pc = .ok (.bastore, 1)) (hn : pc + 1 = n) (q0 t0 : Nat) {cA : ClassId} {N : Nat} {f : Nat → Int32} (ha : ws[q0]? = some (a, .inl (cA, N, .inl f))) (ht : (gY Γ)[t0]? = some (cA, .byte)) {i x : Int32} (hi : vp_in i N) (k : G Γ (ws.set q0 (a, .inl (cA, N, .inl (upd f i.toNatClampNeg (vp_nar .byte x))))) kc ks n lv st) : G Γ ws kc ks pc lv (.int x :: .int i :: .ref a :: st) := by
  obtain ⟨p, l, e, R, s, m, args, below, meth, c, D, Y, A, Q, nL⟩ := Γ
  obtain ⟨⟨hx, hb, hml, hown, hts⟩, hK, hA⟩ := h
  subst hn
  intro H locs ls hP hD hS hl
  exact va_bast hx hb hK hP hD hS q0 t0 ha ht hi hdg (fun H1 locs1 hP1 hD1 hS1 => k H1 locs1 ls hP1 hD1 hS1 hl)
theorem g_zast {a : Nat} (h : gOk Γ cc Ts own) (hdg : decode cc pc = .ok (.bastore, 1)) (hn : pc + 1 = n) (q0 t0 : Nat) {cA : ClassId} {N : Nat} {f : Nat → Int32} (ha : ws[q0]? = some (a, .inl (cA, N, .inl f))) (ht : (gY Γ)[t0]? = some (cA, .boolean)) {i x : Int32} (hi : vp_in i N) (k : G Γ (ws.set q0 (a, .inl (cA, N, .inl (upd f i.toNatClampNeg (vp_nar .boolean x))))) kc ks n lv st) : G Γ ws kc ks pc lv (.int x :: .int i :: .ref a :: st) := by
  obtain ⟨p, l, e, R, s, m, args, below, meth, c, D, Y, A, Q, nL⟩ := Γ
  obtain ⟨⟨hx, hb, hml, hown, hts⟩, hK, hA⟩ := h
  subst hn
  intro H locs ls hP hD hS hl
  exact va_zast hx hb hK hP hD hS q0 t0 ha ht hi hdg (fun H1 locs1 hP1 hD1 hS1 => k H1 locs1 ls hP1 hD1 hS1 hl)
theorem g_last {a : Nat} (h : gOk Γ cc Ts own) (hdg : decode cc pc = .ok (.lastore, 1)) (hn : pc + 1 = n) (q0 t0 : Nat) {cA : ClassId} {N : Nat} {f : Nat → Int64} (ha : ws[q0]? = some (a, .inl (cA, N, .inr (.inl f)))) (ht : (gY Γ)[t0]? = some (cA, .long)) {i : Int32} {x : Int64} (hi : vp_in i N) (k : G Γ (ws.set q0 (a, .inl (cA, N, .inr (.inl (vp_updL f i.toNatClampNeg x))))) kc ks n lv st) : G Γ ws kc ks pc lv (.long x :: .int i :: .ref a :: st) := by
  obtain ⟨p, l, e, R, s, m, args, below, meth, c, D, Y, A, Q, nL⟩ := Γ
  obtain ⟨⟨hx, hb, hml, hown, hts⟩, hK, hA⟩ := h
  subst hn
  intro H locs ls hP hD hS hl
  exact va_last hx hb hK hP hD hS q0 t0 ha ht hi hdg (fun H1 locs1 hP1 hD1 hS1 => k H1 locs1 ls hP1 hD1 hS1 hl)
theorem g_aast {a : Nat} (h : gOk Γ cc Ts own) (hdg : decode cc pc = .ok (.aastore, 1)) (hn : pc + 1 = n) (q0 t0 qk ci : Nat) {cA : ClassId} {r : vw_C} {N v : Nat} {vs : List Value} {f : Nat → Option Nat} (ha : ws[q0]? = some (a, .inl (cA, N, .inr (.inr (.inr (.inr f)))))) (ht : (gY Γ)[t0]? = some (cA, .object r.1)) (hv : ws[qk]? = some (v, .inr (ci, vs))) (hc : vwCl[ci]? = some r) {i : Int32} (hi : vp_in i N) (k : G Γ (ws.set q0 (a, .inl (cA, N, .inr (.inr (.inr (.inr (va_up f i.toNatClampNeg (some v)))))))) kc ks n lv st) : G Γ ws kc ks pc lv (.ref v :: .int i :: .ref a :: st) := by
  obtain ⟨p, l, e, R, s, m, args, below, meth, c, D, Y, A, Q, nL⟩ := Γ
  obtain ⟨⟨hx, hb, hml, hown, hts⟩, hK, hA⟩ := h
  subst hn
  intro H locs ls hP hD hS hl
  exact va_astq hx hb hK hP hD hS q0 t0 qk ci ha ht hv hc hi hdg (fun H1 locs1 hP1 hD1 hS1 => k H1 locs1 ls hP1 hD1 hS1 hl)
theorem g_alen {a : Nat} (h : gOk Γ cc Ts own) (hdg : decode cc pc = .ok (.arraylength, 1)) (hn : pc + 1 = n) (q0 t0 : Nat) {cA : ClassId} {x : vp_A} (ha : ws[q0]? = some (a, .inl (cA, x))) {ty : FieldType} (ht : (gY Γ)[t0]? = some (cA, ty)) {v : Int32} (hv : Int32.ofNat x.1 = v) (k : G Γ ws kc ks n lv (.int v :: st)) : G Γ ws kc ks pc lv (.ref a :: st) := by
  obtain ⟨p, l, e, R, s, m, args, below, meth, c, D, Y, A, Q, nL⟩ := Γ
  obtain ⟨⟨hx, hb, hml, hown, hts⟩, hK, hA⟩ := h
  subst hn
  intro H locs ls hP hD hS hl
  exact va_alen hx hb hK hP q0 t0 ha ht hv hdg (k H locs ls hP hD hS hl)
theorem g_new {C : String} {T : u_T} {N ci index : Nat} (ty : Nat → FieldType) (hty : ∀ k, k < N → parseFieldDescriptor (T k).2.2.1 = some (ty k)) (h : gOk Γ cc Ts own) (hdg : decode cc pc = .ok (.new index, 3)) (hn : pc + 3 = n) (hin : ∀ w ∈ u_ws C T N, w ∈ Ts) (hcl : Cond.classLink own index C ∈ Ts) (hinst : Cond.instantiable C N ∈ Ts) (hini : Cond.initialized C ∈ Ts) (hc : vwCl[ci]? = some (C, T, N)) {fs : List Value} (hfs : ∀ j, j < N → defaultValue (ty j) = vp_V fs j) (hcells : kc + 1 ≤ (gRm Γ).cells) (hslots : ks + N ≤ (gRm Γ).slots) (k : ∀ q : Nat, (∀ e ∈ ws, e.1 ≠ q) → G Γ (ws ++ [(q, .inr (ci, fs))]) (kc + 1) (ks + N) n lv (.ref q :: st)) : G Γ ws kc ks pc lv st := by
  obtain ⟨p, l, e, R, s, m, args, below, meth, c, D, Y, A, Q, nL⟩ := Γ
  obtain ⟨⟨hx, hb, hml, hown, hts⟩, hK, hA⟩ := h
  subst hn
  intro H locs ls hP hD hS hl
  refine va_new hx hb hts hin ty hty hown (hts _ hcl) (hts _ hinst) (hts _ hini) hK hP hD hS hA hc hfs hcells hslots hdg (fun q H1 hP1 hD1 hS1 => ?_)
  refine k q (fun e9 he9 e8 => ?_) H1 locs ls hP1 hD1 hS1 hl
  obtain ⟨i9, hi9⟩ := List.getElem?_of_mem he9
  have hlt : i9 < ws.length := (List.getElem?_eq_some_iff.mp hi9).1
  have h1 : (ws ++ [(q, Sum.inr (ci, fs))])[i9]? = some e9 := by rw [List.getElem?_append_left hlt]; exact hi9
  have h2 : (ws ++ [(q, (Sum.inr (ci, fs) : va_E))])[ws.length]? = some (q, Sum.inr (ci, fs)) := by simp
  exact absurd (hD1.1 i9 ws.length _ _ h1 h2 e8) (by omega)
end GW
end
section
/-! what lies outside the worlds and never changes; contracts; their start and their ends -/
def gE (A : Nat → Prop) (U : State) (H : Heap) : Prop := va_AO "ClassMaker4$Program" U ∧ va_AO "ClassMaker4$MadeClass" U ∧ va_AO "ClassMaker4$RunUnit" U ∧ va_AO "ClassMaker4$Row" U
theorem gE.moved {A : Nat → Prop} {u U : State} {H : Heap} (hvm : u.vm.Alike U.vm) (h : gE A u H) : gE A U H := ⟨h.1.moved hvm, h.2.1.moved hvm, h.2.2.1.moved hvm, h.2.2.2.moved hvm⟩
theorem gE.kept {A : Nat → Prop} {U : State} {H H1 : Heap} (hk : ∀ q : Nat, q < H.size → ¬ A q → H1[q]? = H[q]?) (h : gE A U H) : gE A U H1 := h
theorem gE.narrow {A A1 : Nat → Prop} {U : State} {H : Heap} (hA : ∀ q : Nat, q < H.size → A1 q → A q) (h : gE A U H) : gE A1 U H := h
/-- a method's start: its world, the classes, what lies outside -/
def PW (D : va_G) (Y : List (ClassId × FieldType)) (ws : va_W) (sz : Nat) (U : State) : Prop := U.heap.size = sz ∧ va_P D vwCl ws U.heap ∧ va_K D vwCl Y U ∧ va_D (fun _ => True) ws ∧ gE (va_A ws sz) U U.heap
def Qg (post : Option Value → va_W → Prop) (D : va_G) (Y : List (ClassId × FieldType)) (A : Nat → Prop) : Array Value → State → Outcome → State → Prop := fun _ st oc t => (∃ (v : Option Value) (ws1 : va_W), oc = .returned v ∧ post v ws1 ∧ va_P D vwCl ws1 t.heap ∧ va_K D vwCl Y t ∧ va_D A ws1) ∧ va_F A st t
/-- the contract of y: from the world ws with arguments av it returns, and 'post answer world' holds -/
def Mc (l : Launch) (y : MethodName) (wm : List Cond) (rm : Room) (D : va_G) (Y : List (ClassId × FieldType)) (av : List Value) (ws : va_W) (post : Option Value → va_W → Prop) (mc ms : Nat) : Prop := ∀ sz : Nat, Met l y wm rm (va_Pc av (PW D Y ws sz)) (Qg post D Y (va_A ws sz)) mc ms (va_A ws sz)
def gLa : gT → Launch | (_, l, _) => l
/-- what a frame owes where it returns -/
def gRet : gT → Option FieldType → (Option Value → va_W → Prop) → Nat → Nat → Prop
  | (_, _, _, _, s, _, args, below, meth, _, D, Y, A, Q, _), ret, post, mc, ms => meth.sig.returnType = ret ∧ meth.locks = false ∧ Q = MQ below (Qg post D Y A) args s mc ms A
def gEv : gT → Prop
  | (_, _, _, _, s, _, _, _, _, _, _, _, A, _, _) => gE A s s.heap
def wM (y : MethodName) (cc : ByteArray) (maxL : Nat) (ret : Option FieldType) : List Cond := Cond.code y cc maxL ret :: wU
theorem wM_in {y : MethodName} {cc : ByteArray} {maxL : Nat} {ret : Option FieldType} {w : Cond} (h : w ∈ wU) : w ∈ wM y cc maxL ret := List.mem_cons_of_mem _ h
theorem m_start {l : Launch} {y : MethodName} {rm : Room} {mc ms : Nat} {cc : ByteArray} {maxL : Nat} {ret : Option FieldType} {D : va_G} {Y : List (ClassId × FieldType)} {av : List Value} {ws : va_W} {post : Option Value → va_W → Prop} {lv : List (Nat × Value)} (hy : plainName y.cls = true) (hav : (lg_sl av).length ≤ maxL) (hlv : lv_args 0 av = lv)
    (body : ∀ Γ : gT, gOk Γ cc (wM y cc maxL ret) y.cls → gRm Γ = rm → gnL Γ = maxL → gY Γ = Y → gD Γ = D → gLa Γ = l → gRet Γ ret post mc ms → (y.name = "<init>" → gInit Γ) → gEv Γ → G Γ ws 0 0 0 lv []) : Mc l y (wM y cc maxL ret) rm D Y av ws post mc ms := by
  intro sz
  refine Met.ofW (cc := cc) (maxL := maxL) (ret := ret) hy rfl ?_
  intro p e s m args below meth c s₁ B hml hv
  obtain ⟨rfl, hsz, hP, hK, hD0, hE⟩ := hv
  subst hsz
  have hx := B.exec
  have hb := B.bytes
  have hr := B.returns
  have hts := atoms_spec (ws := wM y cc maxL ret) B.pre
  have hown : s.vm.findClass y.cls = some m.cls := findClass_of_methodNamed B.named
  have hlocks := B.notSynchronized
  have hD := hD0.self (sz := s.heap.size)
  have hl := lv_entry av (n := maxL) hav
  rw [lg_entry_eq]
  rw [hlv] at hl
  have hb2 := body (p, l, e, (headSpec (wM y cc maxL ret) rm).room, s, m, av.toArray, below, meth, c, D, Y, va_A ws s.heap.size, MQ below (Qg post D Y (va_A ws s.heap.size)) av.toArray s mc ms (va_A ws s.heap.size), maxL)
    ⟨⟨hx, hb, hml, hown, hts⟩, hK, fun q h => Or.inr h⟩ rfl rfl rfl rfl rfl ⟨hr, hlocks, rfl⟩ (fun hn => (name_of_methodNamed B.named B.method).1.trans hn) hE
  exact hb2 s.heap [] _ hP hD va_S.rf hl
section GR
variable {Γ : gT} {ws : va_W} {kc ks pc n : Nat} {lv : List (Nat × Value)} {st : List Value} {cc : ByteArray} {Ts : List Cond} {own : String} {post : Option Value → va_W → Prop} {ret : Option FieldType}
theorem g_vret (h : gOk Γ cc Ts own) (hR : gRet Γ none post kc ks) (hdg : decode cc pc = .ok (.return_, 1)) (hp : post none ws) : G Γ ws kc ks pc lv [] := by
  obtain ⟨p, l, e, R, s, m, args, below, meth, c, D, Y, A, Q, nL⟩ := Γ
  obtain ⟨⟨hx, hb, hml, hown, hts⟩, hK, hA⟩ := h
  obtain ⟨hr, hlocks, rfl⟩ := hR
  intro H locs ls hP hD hS hl
  exact W.vret hx hb hr (fun t ht hW => ⟨⟨none, ws, rfl, hp, by rw [ht]; exact hP, va_K.moved hW.alike hK, hD⟩, hS.F ht⟩) hS.2.2 hdg hlocks
theorem g_iret {v : Int32} (h : gOk Γ cc Ts own) (hR : gRet Γ (some .int) post kc ks) (hdg : decode cc pc = .ok (.ireturn, 1)) (hp : post (some (.int v)) ws) : G Γ ws kc ks pc lv [.int v] := by
  obtain ⟨p, l, e, R, s, m, args, below, meth, c, D, Y, A, Q, nL⟩ := Γ
  obtain ⟨⟨hx, hb, hml, hown, hts⟩, hK, hA⟩ := h
  obtain ⟨hr, hlocks, rfl⟩ := hR
  intro H locs ls hP hD hS hl
  exact W.iret hx hb hr (fun t ht hW => ⟨⟨some (.int v), ws, rfl, hp, by rw [ht]; exact hP, va_K.moved hW.alike hK, hD⟩, hS.F ht⟩) hS.2.2 hdg hlocks
theorem g_zret {v : Int32} {ty : FieldType} (h : gOk Γ cc Ts own) (hR : gRet Γ (some ty) post kc ks) (hdg : decode cc pc = .ok (.ireturn, 1)) (hn : narrow ty (.int v) = .int v) (hp : post (some (.int v)) ws) : G Γ ws kc ks pc lv [.int v] := by
  obtain ⟨p, l, e, R, s, m, args, below, meth, c, D, Y, A, Q, nL⟩ := Γ
  obtain ⟨⟨hx, hb, hml, hown, hts⟩, hK, hA⟩ := h
  obtain ⟨hr, hlocks, rfl⟩ := hR
  intro H locs ls hP hD hS hl
  exact W.zret hx hb hr hn (fun t ht hW => ⟨⟨some (.int v), ws, rfl, hp, by rw [ht]; exact hP, va_K.moved hW.alike hK, hD⟩, hS.F ht⟩) hS.2.2 hdg hlocks
theorem g_lret {v : Int64} (h : gOk Γ cc Ts own) (hR : gRet Γ (some .long) post kc ks) (hdg : decode cc pc = .ok (.lreturn, 1)) (hp : post (some (.long v)) ws) : G Γ ws kc ks pc lv [.long v] := by
  obtain ⟨p, l, e, R, s, m, args, below, meth, c, D, Y, A, Q, nL⟩ := Γ
  obtain ⟨⟨hx, hb, hml, hown, hts⟩, hK, hA⟩ := h
  obtain ⟨hr, hlocks, rfl⟩ := hR
  intro H locs ls hP hD hS hl
  exact W.lret hx hb hr (fun t ht hW => ⟨⟨some (.long v), ws, rfl, hp, by rw [ht]; exact hP, va_K.moved hW.alike hK, hD⟩, hS.F ht⟩) hS.2.2 hdg hlocks
theorem g_aret {v : Value} {rt : FieldType} (h : gOk Γ cc Ts own) (hR : gRet Γ (some rt) post kc ks) (hdg : decode cc pc = .ok (.areturn, 1)) (hrt : (∃ n, rt = .object n) ∨ ∃ t, rt = .array t) (hv : v = .null ∨ ∃ a, v = .ref a) (hp : post (some v) ws) : G Γ ws kc ks pc lv [v] := by
  obtain ⟨p, l, e, R, s, m, args, below, meth, c, D, Y, A, Q, nL⟩ := Γ
  obtain ⟨⟨hx, hb, hml, hown, hts⟩, hK, hA⟩ := h
  obtain ⟨hr, hlocks, rfl⟩ := hR
  intro H locs ls hP hD hS hl
  exact W.aret hx hb hr hrt hv (fun t ht hW => ⟨⟨some v, ws, rfl, hp, by rw [ht]; exact hP, va_K.moved hW.alike hK, hD⟩, hS.F ht⟩) hS.2.2 hdg hlocks
end GR
/-! the frame rule: a callee's world wc among wa ++ wc ++ wb -/
theorem wj_get {wa wc wb : va_W} {k : Nat} {q : Nat × va_E} (h : wc[k]? = some q) : (wa ++ wc ++ wb)[wa.length + k]? = some q := by
  have hk : k < wc.length := (List.getElem?_eq_some_iff.mp h).1
  rw [List.getElem?_append_left (by rw [List.length_append]; omega), List.getElem?_append_right (by omega)]
  rw [show wa.length + k - wa.length = k by omega]; exact h
theorem wj_mid {D : va_G} {cl : List vw_C} {wa wc wb : va_W} {H : Heap} (h : va_P D cl (wa ++ wc ++ wb) H) : va_P D cl wc H := fun k q hk => h (wa.length + k) q (wj_get hk)
theorem wj_midD {A : Nat → Prop} {wa wc wb : va_W} (h : va_D A (wa ++ wc ++ wb)) : va_D A wc :=
  ⟨fun i j p q hi hj e => by have := h.1 _ _ p q (wj_get hi) (wj_get hj) e; omega, fun k q hk => h.2 _ q (wj_get hk)⟩
theorem wj_free {A0 : Nat → Prop} {wa wc wb : va_W} {H0 H : Heap} {locs : List Loc} (hD : va_D A0 (wa ++ wc ++ wb)) (hS : va_S A0 H0 H locs) (hA : ∀ q, H0.size ≤ q → A0 q) : ∀ q, va_A wc H.size q → A0 q := by
  intro q h
  rcases h with ⟨k, e, hk⟩ | h
  · exact hD.2 _ _ (wj_get hk)
  · exact hA q (Nat.le_trans hS.1 h)
theorem wj_side {wa wc wb : va_W} {k : Nat} {q : Nat × va_E} (h : (wa ++ wc ++ wb)[k]? = some q) : (∃ j, wc[j]? = some q ∧ k = wa.length + j) ∨ (k < wa.length ∧ wa[k]? = some q) ∨ (∃ j, wb[j]? = some q ∧ k = wa.length + wc.length + j) := by
  rcases Nat.lt_or_ge k wa.length with h1 | h1
  · refine Or.inr (Or.inl ⟨h1, ?_⟩)
    rw [List.append_assoc, List.getElem?_append_left h1] at h; exact h
  · rcases Nat.lt_or_ge k (wa.length + wc.length) with h2 | h2
    · refine Or.inl ⟨k - wa.length, ?_, by omega⟩
      rw [List.getElem?_append_left (by rw [List.length_append]; exact h2), List.getElem?_append_right h1] at h; exact h
    · refine Or.inr (Or.inr ⟨k - (wa.length + wc.length), ?_, by omega⟩)
      rw [List.getElem?_append_right (by rw [List.length_append]; exact h2), List.length_append] at h; exact h
theorem wj_set {wa wc wb : va_W} {k : Nat} {q : Nat × va_E} (h : (wa ++ wb)[k]? = some q) : ∃ j, (wa ++ wc ++ wb)[j]? = some q ∧ ∀ i x, wc[i]? = some x → j ≠ wa.length + i := by
  rcases Nat.lt_or_ge k wa.length with h1 | h1
  · rw [List.getElem?_append_left h1] at h
    exact ⟨k, by rw [List.append_assoc, List.getElem?_append_left h1]; exact h, fun i x _ => by omega⟩
  · rw [List.getElem?_append_right h1] at h
    refine ⟨wa.length + wc.length + (k - wa.length), ?_, fun i x hi => ?_⟩
    · rw [List.getElem?_append_right (by rw [List.length_append]; omega), List.length_append, show wa.length + wc.length + (k - wa.length) - (wa.length + wc.length) = k - wa.length by omega]; exact h
    · have := (List.getElem?_eq_some_iff.mp hi).1; omega
theorem wj_join {A0 : Nat → Prop} {D : va_G} {cl : List vw_C} {wa wc wb w1 : va_W} {H H1 : Heap} (hP : va_P D cl (wa ++ wc ++ wb) H) (hD : va_D A0 (wa ++ wc ++ wb)) (hk : ∀ q : Nat, q < H.size → ¬ va_A wc H.size q → H1[q]? = H[q]?) (hF : ∀ q, va_A wc H.size q → A0 q) (hP1 : va_P D cl w1 H1) (hD1 : va_D (va_A wc H.size) w1) : va_P D cl (wa ++ w1 ++ wb) H1 ∧ va_D A0 (wa ++ w1 ++ wb) := by
  have key : ∀ {k : Nat} {q : Nat × va_E}, (k < wa.length ∧ wa[k]? = some q) ∨ (∃ j, wb[j]? = some q ∧ k = wa.length + w1.length + j) → ∃ j, (wa ++ wc ++ wb)[j]? = some q ∧ (∀ i x, wc[i]? = some x → j ≠ wa.length + i) ∧ (k < wa.length → j = k) ∧ (∀ i, k = wa.length + w1.length + i → j = wa.length + wc.length + i) := by
    intro k q h
    rcases h with ⟨h1, h⟩ | ⟨j, h, e⟩
    · exact ⟨k, by rw [List.append_assoc, List.getElem?_append_left h1]; exact h, fun i x _ => by omega, fun _ => rfl, fun i e => by omega⟩
    · refine ⟨wa.length + wc.length + j, ?_, fun i x hi => ?_, fun h9 => by omega, fun i e9 => by omega⟩
      · rw [List.getElem?_append_right (by rw [List.length_append]; omega), List.length_append, show wa.length + wc.length + j - (wa.length + wc.length) = j by omega]; exact h
      · have := (List.getElem?_eq_some_iff.mp hi).1; omega
  have out : ∀ {j : Nat} {q : Nat × va_E}, (wa ++ wc ++ wb)[j]? = some q → (∀ i x, wc[i]? = some x → j ≠ wa.length + i) → q.1 < H.size ∧ ¬ va_A wc H.size q.1 := by
    intro j q hj hn
    have hlt : q.1 < H.size := va_at.lt (hP j q hj)
    refine ⟨hlt, ?_⟩
    rintro (⟨i, e, hi⟩ | h)
    · exact hn i _ hi (hD.1 _ _ _ _ hj (wj_get hi) rfl)
    · omega
  refine ⟨?_, ?_, ?_⟩
  · intro k q h
    rcases wj_side h with ⟨j, hj, -⟩ | h2
    · exact hP1 j q hj
    · obtain ⟨j, hj, hn, -⟩ := key h2
      obtain ⟨o1, o2⟩ := out hj hn
      exact (hP j q hj).kept (hk q.1 o1 o2)
  · intro i j p q hi hj e
    rcases wj_side hi with ⟨a, ha, ea⟩ | ha <;> rcases wj_side hj with ⟨b, hb, eb⟩ | hb
    · have := hD1.1 a b p q ha hb e; omega
    · obtain ⟨x, hx, hn, -⟩ := key hb
      exact absurd (e ▸ hD1.2 a p ha) (out hx hn).2
    · obtain ⟨x, hx, hn, -⟩ := key ha
      exact absurd (e.symm ▸ hD1.2 b q hb) (out hx hn).2
    · obtain ⟨x, hx, -, x1, x2⟩ := key ha
      obtain ⟨y, hy, -, y1, y2⟩ := key hb
      have hxy := hD.1 x y p q hx hy e
      rcases ha with ⟨a1, -⟩ | ⟨a1, -, a2⟩ <;> rcases hb with ⟨b1, -⟩ | ⟨b1, -, b2⟩
      · have := x1 a1; have := y1 b1; omega
      · have := x1 a1; have := y2 b1 b2; omega
      · have := x2 a1 a2; have := y1 b1; omega
      · have := x2 a1 a2; have := y2 b1 b2; omega
  · intro k q h
    rcases wj_side h with ⟨j, hj, -⟩ | h2
    · exact hF _ (hD1.2 j q hj)
    · obtain ⟨j, hj, -⟩ := key h2
      exact hD.2 j q hj
end
section
/-! calls: the callee's contract over its world, the rest of the world unchanged -/
section CR
variable {p : Program} {l : Launch} {e : Env} {R : Room} {s : State} {m : MethodId} {args : Array Value} {below : List Frame} {meth : Method} {c : Code} {H : Heap} {locs : List Loc} {cells slots : Nat} {Q : State → Prop}
theorem run_go {D : va_G} {Y : List (ClassId × FieldType)} {A0 A1 : Nat → Prop} {H0 : Heap} {post : Option Value → va_W → Prop} {a : Array Value} {free : Addr → Prop} {mc ms pc : Nat} {ls : Array Slot} {st0 rest : List Value} (hr : va_Run p l e R s m args below meth c H locs cells slots mc ms (F0 m pc ls st0) rest (Qg post D Y A1 a) free) (hS : va_S A0 H0 H locs) (hA : ∀ q, q < H.size → A1 q → A0 q) (hf : ∀ q, free q → A0 q)
    (kk : ∀ (v : Option Value) (w1 : va_W) (H1 : Heap) (locs1 : List Loc), post v w1 → va_P D vwCl w1 H1 → va_D A1 w1 → H.size ≤ H1.size → (∀ q : Nat, q < H.size → ¬ A1 q → H1[q]? = H[q]?) → va_S A0 H0 H1 locs1 → W p l e R s m args below meth c H1 locs1 (cells + mc) (slots + ms) Q (F0 m (pc + 3) ls (v.toList ++ rest))) : W p l e R s m args below meth c H locs cells slots Q (F0 m pc ls st0) := by
  intro T hT X
  obtain ⟨v, st₀, t, T', L, h0, X', hL, e1, e2, ⟨⟨v2, w1, hv, hp, hP1, hK1, hD1⟩, hz, hk⟩, st⟩ := hr T hT X
  have hv2 : v = v2 := by injection hv
  subst hv2
  rw [h0] at hz hk
  obtain ⟨t2, a1, b1⟩ := kk v w1 T'.heap (locs ++ L) hp (by rw [e1]; exact hP1) hD1 (by rw [e1]; exact hz) (fun q h1 h2 => by rw [e1]; exact hk q h1 h2)
    ⟨Nat.le_trans hS.1 (by rw [e1]; exact hz), fun q h1 h2 => by rw [e1, hk q (Nat.lt_of_lt_of_le h1 hS.1) (fun z => h2 (hA q (Nat.lt_of_lt_of_le h1 hS.1) z))]; exact hS.2.1 q h1 h2, fun q hq => by
      rcases List.mem_append.mp hq with h | h
      · exact hS.2.2 q h
      · exact hf _ (hL q h)⟩ T' rfl X'
  exact ⟨t2, st t2 a1, b1⟩
end CR
theorem pw_blind {D : va_G} {Y : List (ClassId × FieldType)} {av : List Value} {ws : va_W} {sz : Nat} : FrameBlind (va_Pc av (PW D Y ws sz)) := fun a U g mk q => by
  obtain ⟨q0, q1, qP, qK, qD, qE⟩ := q
  exact ⟨q0, q1, qP, va_K.moved (u := U) (U := U.calling g mk a) (Vm.Alike.refl U.vm) qK, qD, gE.moved (u := U) (U := U.calling g mk a) (Vm.Alike.refl U.vm) qE⟩
/-- what a caller needs to know of an instance method y of the class C -/
def yV (y : MethodName) (bytes : ByteArray) (maxL : Nat) (ret : Option FieldType) (C : String) (na : Nat) : Prop := Cond.instanceMethod y ∈ wU ∧ Cond.selects C y y ∈ wU ∧ Cond.initialized C ∈ wU ∧ Cond.code y bytes maxL ret ∈ wU ∧ (y.cls = C ∧ y.cls ≠ "java/lang/invoke/MethodHandle" ∧ y.cls ≠ "java/lang/invoke/VarHandle" ∧ (parseMethodDescriptor y.desc).map (fun d => d.parameters.length) = some na)
def yS (y : MethodName) (bytes : ByteArray) (maxL : Nat) (ret : Option FieldType) (na : Nat) : Prop := Cond.static y ∈ wU ∧ Cond.initialized y.cls ∈ wU ∧ Cond.code y bytes maxL ret ∈ wU ∧ (y.cls ≠ "java/lang/invoke/MethodHandle" ∧ y.cls ≠ "java/lang/invoke/VarHandle" ∧ (parseMethodDescriptor y.desc).map (fun d => d.parameters.length) = some na)
def yI (y : MethodName) (bytes : ByteArray) (maxL : Nat) (na : Nat) : Prop := Cond.instanceMethod y ∈ wU ∧ Cond.initialized y.cls ∈ wU ∧ Cond.code y bytes maxL none ∈ wU ∧ y.name = "<init>" ∧ (y.cls ≠ "java/lang/invoke/MethodHandle" ∧ y.cls ≠ "java/lang/invoke/VarHandle" ∧ (parseMethodDescriptor y.desc).map (fun d => d.parameters.length) = some na)
theorem wU_all {ws : List Cond} (h : ∀ w ∈ ws, w ∈ wU) {Ts : List Cond} (hU : ∀ w ∈ wU, w ∈ Ts) : GoodIn Ts ws := fun w hw => ⟨hU w (h w hw), good_of_word (wU_good w (h w hw))⟩
theorem wM_all {y : MethodName} {bytes : ByteArray} {maxL : Nat} {ret : Option FieldType} (h : Cond.code y bytes maxL ret ∈ wU) : ∀ w ∈ wM y bytes maxL ret, w ∈ wU := fun w hw => by
  rcases List.mem_cons.mp hw with e | e
  · exact e ▸ h
  · exact e
section GC
variable {Γ : gT} {wa wc wb : va_W} {kc ks pc n : Nat} {lv : List (Nat × Value)} {st : List Value} {cc : ByteArray} {Ts : List Cond} {own : String} {post : Option Value → va_W → Prop} {ret : Option FieldType} {y : MethodName} {bytes : ByteArray} {maxL index mc ms na : Nat} {rm : Room} {C : String} {b : Nat} {As rest : List Value}
theorem g_callV (wa wb : va_W) (h : gOk Γ cc Ts own) (hE : gEv Γ) (hU : ∀ w ∈ wU, w ∈ Ts) {Yc : List (ClassId × FieldType)} (hYY : gY Γ = Yc) (hdg : decode cc pc = .ok (.invokevirtual index, 3)) (hn : pc + 3 = n) (hy : yV y bytes maxL ret C na) (hlk : Cond.methodLink own index y ∈ wU)
    (hM : Mc (gLa Γ) y (wM y bytes maxL ret) rm (gD Γ) Yc (.ref b :: As) wc post mc ms) (hrm : rm.cells = mc ∧ rm.slots = ms) (hR : rm.frames + 1 ≤ (gRm Γ).frames ∧ 8 + (maxL + 11) + rm.locals ≤ (gRm Γ).locals) (hna : As.length = na)
    {ci q0 : Nat} {fs : List Value} {cq : vw_C} (hq : wc[q0]? = some (b, .inr (ci, fs))) (hci : vwCl[ci]? = some cq) (hcq : cq.1 = C) (hst : st = As.reverse ++ .ref b :: rest) (hcat : (rest.map fun v => v.category).sum ≤ 8) (hcells : kc + mc ≤ (gRm Γ).cells ∧ ks + ms ≤ (gRm Γ).slots)
    (k : ∀ (v : Option Value) (w1 : va_W), post v w1 → G Γ (wa ++ w1 ++ wb) (kc + mc) (ks + ms) n lv (v.toList ++ rest)) : G Γ (wa ++ wc ++ wb) kc ks pc lv st := by
  obtain ⟨p, l, e, R, s, m, args, below, meth, c, D, Y, A, Q, nL⟩ := Γ
  obtain ⟨⟨hx, hb, hml, hown, hts⟩, hK, hA⟩ := h
  obtain ⟨y1, y2, y3, y4, y5⟩ := hy
  subst hYY
  subst hn
  subst hst
  subst hcq
  intro H locs ls hP hD hS hl
  have hPc := wj_mid hP
  have hDc := wj_midD hD
  have hFc : ∀ q, va_A wc H.size q → A q := wj_free hD hS hA
  have hEc : gE (va_A wc H.size) s H := (gE.kept hS.2.1 hE).narrow (fun q _ h9 => hFc q h9)
  have hGo : GoodIn Ts (wsV own index cq.1 y (wM y bytes maxL ret)) := wU_all (fun w hw => by
    rcases List.mem_append.mp hw with h9 | h9
    · simp only [List.mem_cons, List.not_mem_nil, or_false] at h9
      rcases h9 with rfl | rfl | rfl | rfl
      · exact hlk
      · exact y1
      · exact y2
      · exact y3
    · exact wM_all y4 w h9) hU
  refine run_go (va_runV (As := As) (rest := rest) ⟨hx, hb, hml, hown, hts⟩ (hM H.size) (cwV na hts hGo rfl hrm.1 hrm.2 y5 hR) ⟨pw_blind, va_recv hK hPc hci hq, fun U hU1 hW => ⟨rfl, by rw [hU1], by rw [hU1]; exact hPc, va_K.moved hW.alike hK, hDc.weaken (fun _ _ _ _ => trivial), by rw [hU1]; exact hEc.moved hW.alike⟩⟩ rfl hna hl.1 rfl (lv_room hcat) hdg hcells) hS (fun q _ h9 => hFc q h9) hFc (fun v w1 H1 locs1 hp hP1 hD1 hz hk1 hS1 => ?_)
  obtain ⟨hP2, hD2⟩ := wj_join hP hD hk1 hFc hP1 hD1
  exact k v w1 hp H1 locs1 ls hP2 hD2 hS1 hl
theorem g_callS (wa wb : va_W) (h : gOk Γ cc Ts own) (hE : gEv Γ) (hU : ∀ w ∈ wU, w ∈ Ts) {Yc : List (ClassId × FieldType)} (hYY : gY Γ = Yc) (hdg : decode cc pc = .ok (.invokestatic index, 3)) (hn : pc + 3 = n) (hy : yS y bytes maxL ret na) (hlk : Cond.methodLink own index y ∈ wU)
    (hM : Mc (gLa Γ) y (wM y bytes maxL ret) rm (gD Γ) Yc As wc post mc ms) (hrm : rm.cells = mc ∧ rm.slots = ms) (hR : rm.frames + 1 ≤ (gRm Γ).frames ∧ 8 + (maxL + 11) + rm.locals ≤ (gRm Γ).locals) (hna : As.length = na)
    (hst : st = As.reverse ++ rest) (hcat : (rest.map fun v => v.category).sum ≤ 8) (hcells : kc + mc ≤ (gRm Γ).cells ∧ ks + ms ≤ (gRm Γ).slots)
    (k : ∀ (v : Option Value) (w1 : va_W), post v w1 → G Γ (wa ++ w1 ++ wb) (kc + mc) (ks + ms) n lv (v.toList ++ rest)) : G Γ (wa ++ wc ++ wb) kc ks pc lv st := by
  obtain ⟨p, l, e, R, s, m, args, below, meth, c, D, Y, A, Q, nL⟩ := Γ
  obtain ⟨⟨hx, hb, hml, hown, hts⟩, hK, hA⟩ := h
  obtain ⟨y1, y3, y4, y5⟩ := hy
  subst hYY
  subst hn
  subst hst
  intro H locs ls hP hD hS hl
  have hPc := wj_mid hP
  have hDc := wj_midD hD
  have hFc : ∀ q, va_A wc H.size q → A q := wj_free hD hS hA
  have hEc : gE (va_A wc H.size) s H := (gE.kept hS.2.1 hE).narrow (fun q _ h9 => hFc q h9)
  have hGo : GoodIn Ts (va_wsS own index y (wM y bytes maxL ret)) := wU_all (fun w hw => by
    rcases List.mem_append.mp hw with h9 | h9
    · simp only [List.mem_cons, List.not_mem_nil, or_false] at h9
      rcases h9 with rfl | rfl | rfl
      · exact hlk
      · exact y1
      · exact y3
    · exact wM_all y4 w h9) hU
  refine run_go (va_runS (As := As) (rest := rest) ⟨hx, hb, hml, hown, hts⟩ (hM H.size) (va_cwS na hts hGo rfl hrm.1 hrm.2 y5 hR) ⟨pw_blind, fun U hU1 hW => ⟨rfl, by rw [hU1], by rw [hU1]; exact hPc, va_K.moved hW.alike hK, hDc.weaken (fun _ _ _ _ => trivial), by rw [hU1]; exact hEc.moved hW.alike⟩⟩ rfl hna hl.1 rfl (lv_room hcat) hdg hcells) hS (fun q _ h9 => hFc q h9) hFc (fun v w1 H1 locs1 hp hP1 hD1 hz hk1 hS1 => ?_)
  obtain ⟨hP2, hD2⟩ := wj_join hP hD hk1 hFc hP1 hD1
  exact k v w1 hp H1 locs1 ls hP2 hD2 hS1 hl
theorem g_callI (wa wb : va_W) (h : gOk Γ cc Ts own) (hE : gEv Γ) (hU : ∀ w ∈ wU, w ∈ Ts) {Yc : List (ClassId × FieldType)} (hYY : gY Γ = Yc) (hdg : decode cc pc = .ok (.invokespecial index, 3)) (hn : pc + 3 = n) (hy : yI y bytes maxL na) (hlk : Cond.methodLink own index y ∈ wU)
    (hM : Mc (gLa Γ) y (wM y bytes maxL none) rm (gD Γ) Yc (.ref b :: As) wc post mc ms) (hrm : rm.cells = mc ∧ rm.slots = ms) (hR : rm.frames + 1 ≤ (gRm Γ).frames ∧ 8 + (maxL + 11) + rm.locals ≤ (gRm Γ).locals) (hna : As.length = na)
    (hst : st = As.reverse ++ .ref b :: rest) (hcat : (rest.map fun v => v.category).sum ≤ 8) (hcells : kc + mc ≤ (gRm Γ).cells ∧ ks + ms ≤ (gRm Γ).slots)
    (k : ∀ (v : Option Value) (w1 : va_W), post v w1 → G Γ (wa ++ w1 ++ wb) (kc + mc) (ks + ms) n lv (v.toList ++ rest)) : G Γ (wa ++ wc ++ wb) kc ks pc lv st := by
  obtain ⟨p, l, e, R, s, m, args, below, meth, c, D, Y, A, Q, nL⟩ := Γ
  obtain ⟨⟨hx, hb, hml, hown, hts⟩, hK, hA⟩ := h
  obtain ⟨y1, y3, y4, y6, y5⟩ := hy
  subst hYY
  subst hn
  subst hst
  intro H locs ls hP hD hS hl
  have hPc := wj_mid hP
  have hDc := wj_midD hD
  have hFc : ∀ q, va_A wc H.size q → A q := wj_free hD hS hA
  have hEc : gE (va_A wc H.size) s H := (gE.kept hS.2.1 hE).narrow (fun q _ h9 => hFc q h9)
  have hGo : GoodIn Ts (wM y bytes maxL none) := wU_all (wM_all y4) hU
  refine run_go (va_runI (As := As) (rest := rest) ⟨hx, hb, hml, hown, hts⟩ (hM H.size) (cwI na hts hGo rfl hrm.1 hrm.2 (hts _ (hU _ y3)) (hts _ (hU _ hlk)) (hts _ (hU _ y1)) y6 y5 hR) ⟨pw_blind, fun U hU1 hW => ⟨rfl, by rw [hU1], by rw [hU1]; exact hPc, va_K.moved hW.alike hK, hDc.weaken (fun _ _ _ _ => trivial), by rw [hU1]; exact hEc.moved hW.alike⟩⟩ rfl hna hl.1 rfl (lv_room hcat) hdg hcells) hS (fun q _ h9 => hFc q h9) hFc (fun v w1 H1 locs1 hp hP1 hD1 hz hk1 hS1 => ?_)
  obtain ⟨hP2, hD2⟩ := wj_join hP hD hk1 hFc hP1 hD1
  exact k v w1 hp H1 locs1 ls hP2 hD2 hS1 hl
/-- the same where the callee's world is the whole world -/
theorem g_callV0 (h : gOk Γ cc Ts own) (hE : gEv Γ) (hU : ∀ w ∈ wU, w ∈ Ts) {Yc : List (ClassId × FieldType)} (hYY : gY Γ = Yc) (hdg : decode cc pc = .ok (.invokevirtual index, 3)) (hn : pc + 3 = n) (hy : yV y bytes maxL ret C na) (hlk : Cond.methodLink own index y ∈ wU)
    (hM : Mc (gLa Γ) y (wM y bytes maxL ret) rm (gD Γ) Yc (.ref b :: As) wc post mc ms) (hrm : rm.cells = mc ∧ rm.slots = ms) (hR : rm.frames + 1 ≤ (gRm Γ).frames ∧ 8 + (maxL + 11) + rm.locals ≤ (gRm Γ).locals) (hna : As.length = na)
    {ci q0 : Nat} {fs : List Value} {cq : vw_C} (hq : wc[q0]? = some (b, .inr (ci, fs))) (hci : vwCl[ci]? = some cq) (hcq : cq.1 = C) (hst : st = As.reverse ++ .ref b :: rest) (hcat : (rest.map fun v => v.category).sum ≤ 8) (hcells : kc + mc ≤ (gRm Γ).cells ∧ ks + ms ≤ (gRm Γ).slots)
    (k : ∀ (v : Option Value) (w1 : va_W), post v w1 → G Γ w1 (kc + mc) (ks + ms) n lv (v.toList ++ rest)) : G Γ wc kc ks pc lv st := by
  have := g_callV [] [] h hE hU hYY hdg hn hy hlk hM hrm hR hna hq hci hcq hst hcat hcells (fun v w1 hp => by simpa using k v w1 hp)
  simpa using this
theorem g_callS0 (h : gOk Γ cc Ts own) (hE : gEv Γ) (hU : ∀ w ∈ wU, w ∈ Ts) {Yc : List (ClassId × FieldType)} (hYY : gY Γ = Yc) (hdg : decode cc pc = .ok (.invokestatic index, 3)) (hn : pc + 3 = n) (hy : yS y bytes maxL ret na) (hlk : Cond.methodLink own index y ∈ wU)
    (hM : Mc (gLa Γ) y (wM y bytes maxL ret) rm (gD Γ) Yc As wc post mc ms) (hrm : rm.cells = mc ∧ rm.slots = ms) (hR : rm.frames + 1 ≤ (gRm Γ).frames ∧ 8 + (maxL + 11) + rm.locals ≤ (gRm Γ).locals) (hna : As.length = na)
    (hst : st = As.reverse ++ rest) (hcat : (rest.map fun v => v.category).sum ≤ 8) (hcells : kc + mc ≤ (gRm Γ).cells ∧ ks + ms ≤ (gRm Γ).slots)
    (k : ∀ (v : Option Value) (w1 : va_W), post v w1 → G Γ w1 (kc + mc) (ks + ms) n lv (v.toList ++ rest)) : G Γ wc kc ks pc lv st := by
  have := g_callS [] [] h hE hU hYY hdg hn hy hlk hM hrm hR hna hst hcat hcells (fun v w1 hp => by simpa using k v w1 hp)
  simpa using this
theorem g_callI0 (h : gOk Γ cc Ts own) (hE : gEv Γ) (hU : ∀ w ∈ wU, w ∈ Ts) {Yc : List (ClassId × FieldType)} (hYY : gY Γ = Yc) (hdg : decode cc pc = .ok (.invokespecial index, 3)) (hn : pc + 3 = n) (hy : yI y bytes maxL na) (hlk : Cond.methodLink own index y ∈ wU)
    (hM : Mc (gLa Γ) y (wM y bytes maxL none) rm (gD Γ) Yc (.ref b :: As) wc post mc ms) (hrm : rm.cells = mc ∧ rm.slots = ms) (hR : rm.frames + 1 ≤ (gRm Γ).frames ∧ 8 + (maxL + 11) + rm.locals ≤ (gRm Γ).locals) (hna : As.length = na)
    (hst : st = As.reverse ++ .ref b :: rest) (hcat : (rest.map fun v => v.category).sum ≤ 8) (hcells : kc + mc ≤ (gRm Γ).cells ∧ ks + ms ≤ (gRm Γ).slots)
    (k : ∀ (v : Option Value) (w1 : va_W), post v w1 → G Γ w1 (kc + mc) (ks + ms) n lv (v.toList ++ rest)) : G Γ wc kc ks pc lv st := by
  have := g_callI [] [] h hE hU hYY hdg hn hy hlk hM hrm hR hna hst hcat hcells (fun v w1 hp => by simpa using k v w1 hp)
  simpa using this
theorem g_objInit {a : Nat} {ws : va_W} (h : gOk Γ cc Ts own) (hdg : decode cc pc = .ok (.invokespecial index, 3)) (hn : pc + 3 = n) (hlk : Cond.methodLink own index Lib.objectInit ∈ Ts) (hin : Cond.instanceMethod Lib.objectInit ∈ Ts) (hcd : Cond.code Lib.objectInit ⟨#[0xb1]⟩ 1 none ∈ Ts) (hf : 1 ≤ (gRm Γ).frames) (hcat : (rest.map fun v => v.category).sum ≤ 8) (hlo : 20 ≤ (gRm Γ).locals) (k : G Γ ws kc ks n lv rest) : G Γ ws kc ks pc lv (.ref a :: rest) := by
  obtain ⟨p, l, e, R, s, m, args, below, meth, c, D, Y, A, Q, nL⟩ := Γ
  obtain ⟨⟨hx, hb, hml, hown, hts⟩, hK, hA⟩ := h
  subst hn
  intro H locs ls hP hD hS hl
  refine W.objInit hx hb hown (hts _ hlk) (hts _ hin) (hts _ hcd) rfl (by rw [hml]; exact hl.1) rfl hdg hf ?_ (k H locs ls hP hD hS hl)
  have := lv_room (m := m) (pc := pc) (ls := ls) (rest := .ref a :: rest) hcat
  have hlo2 : 20 ≤ R.locals := hlo
  omega
end GC
end
section
/-! the reference's world: its object and its 25 arrays; its state σ: (arrays, int fields) -/
abbrev MS : Type := (Nat → Nat → Int32) × (Nat → Int32)
def mT (j : Nat) : Nat := [1, 1, 1, 1, 1, 2, 1, 1, 1, 2, 2, 2, 2, 2, 1, 1, 1, 1, 1, 1, 0, 1, 1, 1, 1].getD j 0
def mN (j : Nat) : Nat := [13, 13, 793, 793, 793, 13, 41, 41, 41, 41, 41, 41, 9, 9, 130, 9, 9, 9, 9, 9, 12000, 900, 12, 12, 3000].getD j 0
def yY (K : Nat → ClassId) : List (ClassId × FieldType) := [(K 0, .byte), (K 1, .int), (K 2, .boolean), (K 3, .object "ClassMaker4$MadeClass"), (K 4, .object "ClassMaker4$Program"), (K 5, .object "ClassMaker4$Row"), (K 6, .object "ClassMaker4$RunUnit"), (K 7, .long)]
def mF (A : Nat → Nat) (σ : MS) : List Value := [.int (σ.2 0), .int (σ.2 1), .int (σ.2 2), .int (σ.2 3), .ref (A 0), .ref (A 1), .ref (A 2), .ref (A 3), .ref (A 4), .ref (A 5), .ref (A 6), .ref (A 7), .ref (A 8), .ref (A 9), .ref (A 10), .ref (A 11), .ref (A 12), .ref (A 13), .ref (A 14), .ref (A 15), .ref (A 16), .ref (A 17), .ref (A 18), .ref (A 19), .ref (A 20), .ref (A 21), .int (σ.2 26), .ref (A 22), .ref (A 23), .int (σ.2 29), .ref (A 24)]
def mA (K : Nat → ClassId) (A : Nat → Nat) (σ : MS) (j : Nat) : Nat × va_E := (A j, .inl (K (mT j), mN j, .inl (σ.1 j)))
def mW (K : Nat → ClassId) (am : Nat) (A : Nat → Nat) (σ : MS) : va_W := (am, .inr (10, mF A σ)) :: (List.range 25).map (mA K A σ)
def sA (σ : MS) (j i : Nat) (x : Int32) : MS := (va_up σ.1 j (upd (σ.1 j) i x), σ.2)
def sF (σ : MS) (k : Nat) (x : Int32) : MS := (σ.1, va_up σ.2 k x)
theorem mW_at {K : Nat → ClassId} {am : Nat} {A : Nat → Nat} {σ : MS} {j : Nat} (hj : j < 25) : (mW K am A σ)[j + 1]? = some (A j, .inl (K (mT j), mN j, .inl (σ.1 j))) := by
  simp [mW, mA, hj]
theorem mW_set {K : Nat → ClassId} {am : Nat} {A : Nat → Nat} {σ : MS} {j : Nat} (i : Nat) (x : Int32) : (mW K am A σ).set (j + 1) (A j, .inl (K (mT j), mN j, .inl (upd (σ.1 j) i x))) = mW K am A (sA σ j i x) := by
  show (am, Sum.inr (10, mF A σ)) :: ((List.range 25).map (mA K A σ)).set j _ = _
  have : ((List.range 25).map (mA K A σ)).set j (A j, .inl (K (mT j), mN j, .inl (upd (σ.1 j) i x))) = (List.range 25).map (mA K A (sA σ j i x)) := by
    apply List.ext_getElem?
    intro q
    rw [List.getElem?_set]
    by_cases hq : j = q
    · subst hq
      by_cases hj : j < 25 <;> simp [hj, mA, sA, va_up]
    · by_cases hj : q < 25 <;> simp [hq, hj, mA, sA, va_up, Ne.symm hq]
  rw [this]; rfl
section GM
variable {Γ : gT} {K : Nat → ClassId} {am : Nat} {A : Nat → Nat} {σ : MS} {kc ks pc n : Nat} {lv : List (Nat × Value)} {st : List Value} {cc : ByteArray} {Ts : List Cond}
theorem g_mget {index : Nat} (k0 : Nat) (h : gOk Γ cc Ts RX8) (hU : ∀ w ∈ wU, w ∈ Ts) (hdg : decode cc pc = .ok (.getfield index, 3)) (hn : pc + 3 = n) (hlink : Cond.fieldLink RX8 index RX8 (TX8 k0).2.1 (TX8 k0).2.2.1 ∈ wU) (hk : Nat.blt k0 31 = true) (href : (TX8 k0).1 = RX8) {v : Value} (hv : (mF A σ)[k0]? = some v) (k : G Γ (mW K am A σ) kc ks n lv (v :: st)) : G Γ (mW K am A σ) kc ks pc lv (.ref am :: st) :=
  g_get (C := RX8) (T := TX8) (N := 31) (ci := 10) h hdg hn (fun w hw => hU w (ux_X8 w hw)) 0 rfl rfl k0 (Nat.blt_eq ▸ hk) (hU _ hlink) href hv k
theorem g_mput {index : Nat} (k0 : Nat) {x : Int32} (h : gOk Γ cc Ts RX8) (hU : ∀ w ∈ wU, w ∈ Ts) (hdg : decode cc pc = .ok (.putfield index, 3)) (hn : pc + 3 = n) (hlink : Cond.fieldLink RX8 index RX8 (TX8 k0).2.1 (TX8 k0).2.2.1 ∈ wU) (hk : Nat.blt k0 31 = true) (href : (TX8 k0).1 = RX8) (hfin : (TX8 k0).2.2.2 = false) (hty : tyX8 k0 = .int) (hset : (mF A σ).set k0 (.int x) = mF A (sF σ k0 x)) (k : G Γ (mW K am A (sF σ k0 x)) kc ks n lv st) : G Γ (mW K am A σ) kc ks pc lv (.int x :: .ref am :: st) :=
  g_put (C := RX8) (T := TX8) (N := 31) (ci := 10) tyX8 tyX8_ok nmX8 h hdg hn (fun w hw => hU w (ux_X8 w hw)) 0 rfl rfl k0 (Nat.blt_eq ▸ hk) (hU _ hlink) href hfin (by rw [hty]; rfl) (by rw [hty]; rfl) (by have := Nat.blt_eq ▸ hk; exact this) (by
    have e : (mW K am A σ).set 0 (am, .inr (10, (mF A σ).set k0 (.int x))) = mW K am A (sF σ k0 x) := by rw [hset]; rfl
    rw [e]; exact k)
theorem g_mild (j : Nat) {i v : Int32} (h : gOk Γ cc Ts RX8) (hY : gY Γ = yY K) (hdg : decode cc pc = .ok (.iaload, 1)) (hn : pc + 1 = n) (hj : Nat.blt j 25 = true) (hT : mT j = 1) (hi : vp_in i (mN j)) (hv : σ.1 j i.toNatClampNeg = v) (k : G Γ (mW K am A σ) kc ks n lv (.int v :: st)) : G Γ (mW K am A σ) kc ks pc lv (.int i :: .ref (A j) :: st) :=
  g_iald h hdg hn (j + 1) 1 (mW_at (Nat.blt_eq ▸ hj)) (by rw [hY, hT]; rfl) hi hv k
theorem g_mbld (j : Nat) {i v : Int32} (h : gOk Γ cc Ts RX8) (hY : gY Γ = yY K) (hdg : decode cc pc = .ok (.baload, 1)) (hn : pc + 1 = n) (hj : Nat.blt j 25 = true) (hT : mT j = 0) (hi : vp_in i (mN j)) (hv : σ.1 j i.toNatClampNeg = v) (k : G Γ (mW K am A σ) kc ks n lv (.int v :: st)) : G Γ (mW K am A σ) kc ks pc lv (.int i :: .ref (A j) :: st) :=
  g_bald h hdg hn (j + 1) 0 (mW_at (Nat.blt_eq ▸ hj)) (by rw [hY, hT]; rfl) hi hv k
theorem g_mzld (j : Nat) {i v : Int32} (h : gOk Γ cc Ts RX8) (hY : gY Γ = yY K) (hdg : decode cc pc = .ok (.baload, 1)) (hn : pc + 1 = n) (hj : Nat.blt j 25 = true) (hT : mT j = 2) (hi : vp_in i (mN j)) (hv : σ.1 j i.toNatClampNeg = v) (k : G Γ (mW K am A σ) kc ks n lv (.int v :: st)) : G Γ (mW K am A σ) kc ks pc lv (.int i :: .ref (A j) :: st) :=
  g_zald h hdg hn (j + 1) 2 (mW_at (Nat.blt_eq ▸ hj)) (by rw [hY, hT]; rfl) hi hv k
theorem g_mist (j : Nat) {i x : Int32} {i0 : Nat} (h : gOk Γ cc Ts RX8) (hY : gY Γ = yY K) (hdg : decode cc pc = .ok (.iastore, 1)) (hn : pc + 1 = n) (hj : Nat.blt j 25 = true) (hT : mT j = 1) (hi : vp_in i (mN j)) (hi0 : i.toNatClampNeg = i0) (k : G Γ (mW K am A (sA σ j i0 x)) kc ks n lv st) : G Γ (mW K am A σ) kc ks pc lv (.int x :: .int i :: .ref (A j) :: st) :=
  g_iast h hdg hn (j + 1) 1 (mW_at (Nat.blt_eq ▸ hj)) (by rw [hY, hT]; rfl) hi (by rw [hi0, mW_set]; exact k)
theorem g_mbst (j : Nat) {i x : Int32} {i0 : Nat} (h : gOk Γ cc Ts RX8) (hY : gY Γ = yY K) (hdg : decode cc pc = .ok (.bastore, 1)) (hn : pc + 1 = n) (hj : Nat.blt j 25 = true) (hT : mT j = 0) (hi : vp_in i (mN j)) (hi0 : i.toNatClampNeg = i0) (k : G Γ (mW K am A (sA σ j i0 (vp_nar .byte x))) kc ks n lv st) : G Γ (mW K am A σ) kc ks pc lv (.int x :: .int i :: .ref (A j) :: st) :=
  g_bast h hdg hn (j + 1) 0 (mW_at (Nat.blt_eq ▸ hj)) (by rw [hY, hT]; rfl) hi (by rw [hi0, mW_set]; exact k)
theorem g_mzst (j : Nat) {i x : Int32} {i0 : Nat} (h : gOk Γ cc Ts RX8) (hY : gY Γ = yY K) (hdg : decode cc pc = .ok (.bastore, 1)) (hn : pc + 1 = n) (hj : Nat.blt j 25 = true) (hT : mT j = 2) (hi : vp_in i (mN j)) (hi0 : i.toNatClampNeg = i0) (k : G Γ (mW K am A (sA σ j i0 (vp_nar .boolean x))) kc ks n lv st) : G Γ (mW K am A σ) kc ks pc lv (.int x :: .int i :: .ref (A j) :: st) :=
  g_zast h hdg hn (j + 1) 2 (mW_at (Nat.blt_eq ▸ hj)) (by rw [hY, hT]; rfl) hi (by rw [hi0, mW_set]; exact k)
end GM
/-- room by the height in the tree of calls -/
def rmL (h mc ms : Nat) : Room := { frames := h, cells := mc, slots := ms, locals := 40 * h }
theorem rm_le {Γ : gT} {h1 h2 a b c d maxL : Nat} (hR : gRm Γ = rmL h2 c d) (hh : Nat.blt h1 h2 = true) (hm : Nat.ble maxL 21 = true) : (rmL h1 a b).frames + 1 ≤ (gRm Γ).frames ∧ 8 + (maxL + 11) + (rmL h1 a b).locals ≤ (gRm Γ).locals := by
  rw [hR]
  have h1 : h1 < h2 := Nat.blt_eq ▸ hh
  have h2 : maxL ≤ 21 := Nat.le_of_ble_eq_true hm
  simp only [rmL]
  omega
end
section
theorem yi_X0_init : yI yX0_init cX0_init 1 0 := ⟨ui_X0_init, un_X0, uc_X0_init, rfl, by decide +kernel⟩
theorem yv_X0_fileOf : yV yX0_fileOf cX0_fileOf 4 (some (.array .byte)) RX0 1 := ⟨ui_X0_fileOf, us_X0_fileOf, un_X0, uc_X0_fileOf, by decide +kernel⟩
theorem yv_X0_writeConstants : yV yX0_writeConstants cX0_writeConstants 4 none RX0 2 := ⟨ui_X0_writeConstants, us_X0_writeConstants, un_X0, uc_X0_writeConstants, by decide +kernel⟩
theorem yv_X0_writeFace : yV yX0_writeFace cX0_writeFace 2 none RX0 1 := ⟨ui_X0_writeFace, us_X0_writeFace, un_X0, uc_X0_writeFace, by decide +kernel⟩
theorem yv_X0_writeStart : yV yX0_writeStart cX0_writeStart 3 none RX0 1 := ⟨ui_X0_writeStart, us_X0_writeStart, un_X0, uc_X0_writeStart, by decide +kernel⟩
theorem yv_X0_writeMember : yV yX0_writeMember cX0_writeMember 7 none RX0 2 := ⟨ui_X0_writeMember, us_X0_writeMember, un_X0, uc_X0_writeMember, by decide +kernel⟩
theorem yv_X0_layOutRows : yV yX0_layOutRows cX0_layOutRows 6 (some .int) RX0 2 := ⟨ui_X0_layOutRows, us_X0_layOutRows, un_X0, uc_X0_layOutRows, by decide +kernel⟩
theorem yv_X0_lengthOf : yV yX0_lengthOf cX0_lengthOf 4 (some .int) RX0 1 := ⟨ui_X0_lengthOf, us_X0_lengthOf, un_X0, uc_X0_lengthOf, by decide +kernel⟩
theorem yv_X0_jumpLength : yV yX0_jumpLength cX0_jumpLength 2 (some .int) RX0 1 := ⟨ui_X0_jumpLength, us_X0_jumpLength, un_X0, uc_X0_jumpLength, by decide +kernel⟩
theorem yv_X0_isInside : yV yX0_isInside cX0_isInside 2 (some .boolean) RX0 1 := ⟨ui_X0_isInside, us_X0_isInside, un_X0, uc_X0_isInside, by decide +kernel⟩
theorem yv_X0_writeRow : yV yX0_writeRow cX0_writeRow 3 none RX0 2 := ⟨ui_X0_writeRow, us_X0_writeRow, un_X0, uc_X0_writeRow, by decide +kernel⟩
theorem yv_X0_arithmeticOf : yV yX0_arithmeticOf cX0_arithmeticOf 2 (some .int) RX0 1 := ⟨ui_X0_arithmeticOf, us_X0_arithmeticOf, un_X0, uc_X0_arithmeticOf, by decide +kernel⟩
theorem yv_X0_address : yV yX0_address cX0_address 2 none RX0 1 := ⟨ui_X0_address, us_X0_address, un_X0, uc_X0_address, by decide +kernel⟩
theorem yv_X0_load : yV yX0_load cX0_load 2 none RX0 1 := ⟨ui_X0_load, us_X0_load, un_X0, uc_X0_load, by decide +kernel⟩
theorem yv_X0_hand : yV yX0_hand cX0_hand 3 none RX0 2 := ⟨ui_X0_hand, us_X0_hand, un_X0, uc_X0_hand, by decide +kernel⟩
theorem yv_X0_jump : yV yX0_jump cX0_jump 4 none RX0 2 := ⟨ui_X0_jump, us_X0_jump, un_X0, uc_X0_jump, by decide +kernel⟩
theorem yv_X0_push : yV yX0_push cX0_push 2 none RX0 1 := ⟨ui_X0_push, us_X0_push, un_X0, uc_X0_push, by decide +kernel⟩
theorem yv_X0_withIndex : yV yX0_withIndex cX0_withIndex 3 none RX0 2 := ⟨ui_X0_withIndex, us_X0_withIndex, un_X0, uc_X0_withIndex, by decide +kernel⟩
theorem yv_X0_methodHead : yV yX0_methodHead cX0_methodHead 6 none RX0 5 := ⟨ui_X0_methodHead, us_X0_methodHead, un_X0, uc_X0_methodHead, by decide +kernel⟩
theorem yv_X0_methodEnd : yV yX0_methodEnd cX0_methodEnd 1 none RX0 0 := ⟨ui_X0_methodEnd, us_X0_methodEnd, un_X0, uc_X0_methodEnd, by decide +kernel⟩
theorem yv_X0_text : yV yX0_text cX0_text 3 none RX0 1 := ⟨ui_X0_text, us_X0_text, un_X0, uc_X0_text, by decide +kernel⟩
theorem yv_X0_numberedText : yV yX0_numberedText cX0_numberedText 3 none RX0 2 := ⟨ui_X0_numberedText, us_X0_numberedText, un_X0, uc_X0_numberedText, by decide +kernel⟩
theorem yv_X0_classConstant : yV yX0_classConstant cX0_classConstant 2 none RX0 1 := ⟨ui_X0_classConstant, us_X0_classConstant, un_X0, uc_X0_classConstant, by decide +kernel⟩
theorem yv_X0_pair : yV yX0_pair cX0_pair 4 none RX0 3 := ⟨ui_X0_pair, us_X0_pair, un_X0, uc_X0_pair, by decide +kernel⟩
theorem yv_X0_u4 : yV yX0_u4 cX0_u4 2 none RX0 1 := ⟨ui_X0_u4, us_X0_u4, un_X0, uc_X0_u4, by decide +kernel⟩
theorem yv_X0_u2 : yV yX0_u2 cX0_u2 2 none RX0 1 := ⟨ui_X0_u2, us_X0_u2, un_X0, uc_X0_u2, by decide +kernel⟩
theorem yv_X0_u1 : yV yX0_u1 cX0_u1 2 none RX0 1 := ⟨ui_X0_u1, us_X0_u1, un_X0, uc_X0_u1, by decide +kernel⟩
theorem yi_X1_init : yI yX1_init cX1_init 2 1 := ⟨ui_X1_init, un_X1, uc_X1_init, rfl, by decide +kernel⟩
theorem yv_X1_enter : yV yX1_enter cX1_enter 7 (some .boolean) RX1 3 := ⟨ui_X1_enter, us_X1_enter, un_X1, uc_X1_enter, by decide +kernel⟩
theorem yv_X1_follow : yV yX1_follow cX1_follow 7 (some .int) RX1 5 := ⟨ui_X1_follow, us_X1_follow, un_X1, uc_X1_follow, by decide +kernel⟩
theorem yv_X1_callProgram : yV yX1_callProgram cX1_callProgram 6 (some .boolean) RX1 4 := ⟨ui_X1_callProgram, us_X1_callProgram, un_X1, uc_X1_callProgram, by decide +kernel⟩
theorem yv_X1_calledClass : yV yX1_calledClass cX1_calledClass 4 (some (.object "ClassMaker4$MadeClass")) RX1 2 := ⟨ui_X1_calledClass, us_X1_calledClass, un_X1, uc_X1_calledClass, by decide +kernel⟩
theorem yi_X2_init : yI yX2_init cX2_init 4 3 := ⟨ui_X2_init, un_X2, uc_X2_init, rfl, by decide +kernel⟩
theorem yv_X2_start : yV yX2_start cX2_start 1 (some .boolean) RX2 0 := ⟨ui_X2_start, us_X2_start, un_X2, uc_X2_start, by decide +kernel⟩
theorem yv_X2_findRow : yV yX2_findRow cX2_findRow 2 (some (.object "ClassMaker4$Row")) RX2 1 := ⟨ui_X2_findRow, us_X2_findRow, un_X2, uc_X2_findRow, by decide +kernel⟩
theorem yv_X2_hasByte : yV yX2_hasByte cX2_hasByte 2 (some .boolean) RX2 1 := ⟨ui_X2_hasByte, us_X2_hasByte, un_X2, uc_X2_hasByte, by decide +kernel⟩
theorem yv_X2_valueOf : yV yX2_valueOf cX2_valueOf 2 (some .int) RX2 1 := ⟨ui_X2_valueOf, us_X2_valueOf, un_X2, uc_X2_valueOf, by decide +kernel⟩
theorem yv_X2_setByte : yV yX2_setByte cX2_setByte 3 (some .int) RX2 2 := ⟨ui_X2_setByte, us_X2_setByte, un_X2, uc_X2_setByte, by decide +kernel⟩
theorem yv_X2_work : yV yX2_work cX2_work 4 (some .int) RX2 1 := ⟨ui_X2_work, us_X2_work, un_X2, uc_X2_work, by decide +kernel⟩
theorem yi_X3_init : yI yX3_init cX3_init 4 3 := ⟨ui_X3_init, un_X3, uc_X3_init, rfl, by decide +kernel⟩
theorem yv_X3_takes : yV yX3_takes cX3_takes 4 (some .boolean) RX3 3 := ⟨ui_X3_takes, us_X3_takes, un_X3, uc_X3_takes, by decide +kernel⟩
theorem yv_X3_isByteNumber : yV yX3_isByteNumber cX3_isByteNumber 2 (some .boolean) RX3 1 := ⟨ui_X3_isByteNumber, us_X3_isByteNumber, un_X3, uc_X3_isByteNumber, by decide +kernel⟩
theorem yv_X3_isTarget : yV yX3_isTarget cX3_isTarget 2 (some .boolean) RX3 1 := ⟨ui_X3_isTarget, us_X3_isTarget, un_X3, uc_X3_isTarget, by decide +kernel⟩
theorem yv_X3_addRow : yV yX3_addRow cX3_addRow 4 (some .int) RX3 3 := ⟨ui_X3_addRow, us_X3_addRow, un_X3, uc_X3_addRow, by decide +kernel⟩
theorem yv_X3_findRow : yV yX3_findRow cX3_findRow 2 (some (.object "ClassMaker4$Row")) RX3 1 := ⟨ui_X3_findRow, us_X3_findRow, un_X3, uc_X3_findRow, by decide +kernel⟩
theorem yi_X4_init : yI yX4_init cX4_init 4 3 := ⟨ui_X4_init, un_X4, uc_X4_init, rfl, by decide +kernel⟩
theorem yi_X5_init : yI yX5_init cX5_init 1 0 := ⟨ui_X5_init, un_X5, uc_X5_init, rfl, by decide +kernel⟩
theorem yv_X5_latestOf : yV yX5_latestOf cX5_latestOf 3 (some (.object "ClassMaker4$MadeClass")) RX5 1 := ⟨ui_X5_latestOf, us_X5_latestOf, un_X5, uc_X5_latestOf, by decide +kernel⟩
theorem yv_X5_setLatest : yV yX5_setLatest cX5_setLatest 4 none RX5 2 := ⟨ui_X5_setLatest, us_X5_setLatest, un_X5, uc_X5_setLatest, by decide +kernel⟩
theorem yv_X5_beginRun : yV yX5_beginRun cX5_beginRun 1 none RX5 0 := ⟨ui_X5_beginRun, us_X5_beginRun, un_X5, uc_X5_beginRun, by decide +kernel⟩
theorem yv_X5_takeStep : yV yX5_takeStep cX5_takeStep 1 (some .boolean) RX5 0 := ⟨ui_X5_takeStep, us_X5_takeStep, un_X5, uc_X5_takeStep, by decide +kernel⟩
theorem yv_X5_noteMark : yV yX5_noteMark cX5_noteMark 2 none RX5 1 := ⟨ui_X5_noteMark, us_X5_noteMark, un_X5, uc_X5_noteMark, by decide +kernel⟩
theorem yv_X5_markAt : yV yX5_markAt cX5_markAt 2 (some .int) RX5 1 := ⟨ui_X5_markAt, us_X5_markAt, un_X5, uc_X5_markAt, by decide +kernel⟩
theorem yv_X5_abend : yV yX5_abend cX5_abend 3 none RX5 2 := ⟨ui_X5_abend, us_X5_abend, un_X5, uc_X5_abend, by decide +kernel⟩
theorem yv_X5_stop : yV yX5_stop cX5_stop 3 none RX5 2 := ⟨ui_X5_stop, us_X5_stop, un_X5, uc_X5_stop, by decide +kernel⟩
theorem yi_X6_init : yI yX6_init cX6_init 1 0 := ⟨ui_X6_init, un_X6, uc_X6_init, rfl, by decide +kernel⟩
theorem yv_X6_addProgram : yV yX6_addProgram cX6_addProgram 3 (some .int) RX6 2 := ⟨ui_X6_addProgram, us_X6_addProgram, un_X6, uc_X6_addProgram, by decide +kernel⟩
theorem yv_X6_findProgram : yV yX6_findProgram cX6_findProgram 2 (some (.object "ClassMaker4$Program")) RX6 1 := ⟨ui_X6_findProgram, us_X6_findProgram, un_X6, uc_X6_findProgram, by decide +kernel⟩
theorem yv_X6_findClass : yV yX6_findClass cX6_findClass 2 (some (.object "ClassMaker4$MadeClass")) RX6 1 := ⟨ui_X6_findClass, us_X6_findClass, un_X6, uc_X6_findClass, by decide +kernel⟩
theorem yv_X6_classFor : yV yX6_classFor cX6_classFor 5 (some (.object "ClassMaker4$MadeClass")) RX6 2 := ⟨ui_X6_classFor, us_X6_classFor, un_X6, uc_X6_classFor, by decide +kernel⟩
theorem yv_X6_haveCommonClass : yV yX6_haveCommonClass cX6_haveCommonClass 5 (some .boolean) RX6 2 := ⟨ui_X6_haveCommonClass, us_X6_haveCommonClass, un_X6, uc_X6_haveCommonClass, by decide +kernel⟩
theorem yi_X7_init : yI yX7_init cX7_init 1 0 := ⟨ui_X7_init, un_X7, uc_X7_init, rfl, by decide +kernel⟩
theorem yv_X7_program : yV yX7_program cX7_program 3 (some .int) RX7 2 := ⟨ui_X7_program, us_X7_program, un_X7, uc_X7_program, by decide +kernel⟩
theorem yv_X7_code : yV yX7_code cX7_code 6 (some .int) RX7 4 := ⟨ui_X7_code, us_X7_code, un_X7, uc_X7_code, by decide +kernel⟩
theorem yv_X7_unit : yV yX7_unit cX7_unit 1 (some .int) RX7 0 := ⟨ui_X7_unit, us_X7_unit, un_X7, uc_X7_unit, by decide +kernel⟩
theorem yv_X7_make : yV yX7_make cX7_make 6 (some .int) RX7 2 := ⟨ui_X7_make, us_X7_make, un_X7, uc_X7_make, by decide +kernel⟩
theorem yv_X7_run : yV yX7_run cX7_run 6 (some .int) RX7 2 := ⟨ui_X7_run, us_X7_run, un_X7, uc_X7_run, by decide +kernel⟩
theorem yv_X7_at : yV yX7_at cX7_at 7 (some .byte) RX7 3 := ⟨ui_X7_at, us_X7_at, un_X7, uc_X7_at, by decide +kernel⟩
theorem yv_X7_raised : yV yX7_raised cX7_raised 3 (some .int) RX7 1 := ⟨ui_X7_raised, us_X7_raised, un_X7, uc_X7_raised, by decide +kernel⟩
theorem yv_X7_told : yV yX7_told cX7_told 4 (some .int) RX7 2 := ⟨ui_X7_told, us_X7_told, un_X7, uc_X7_told, by decide +kernel⟩
theorem yv_X7_mark : yV yX7_mark cX7_mark 4 (some .int) RX7 2 := ⟨ui_X7_mark, us_X7_mark, un_X7, uc_X7_mark, by decide +kernel⟩
theorem yv_X7_octet : yV yX7_octet cX7_octet 5 (some .byte) RX7 2 := ⟨ui_X7_octet, us_X7_octet, un_X7, uc_X7_octet, by decide +kernel⟩
theorem yv_X7_shares : yV yX7_shares cX7_shares 5 (some .boolean) RX7 2 := ⟨ui_X7_shares, us_X7_shares, un_X7, uc_X7_shares, by decide +kernel⟩
theorem yv_X7_cancel : yV yX7_cancel cX7_cancel 6 (some .int) RX7 2 := ⟨ui_X7_cancel, us_X7_cancel, un_X7, uc_X7_cancel, by decide +kernel⟩
theorem yv_X7_plain : yV yX7_plain cX7_plain 6 (some .long) RX7 3 := ⟨ui_X7_plain, us_X7_plain, un_X7, uc_X7_plain, by decide +kernel⟩
theorem yv_X7_state : yV yX7_state cX7_state 3 (some .int) RX7 1 := ⟨ui_X7_state, us_X7_state, un_X7, uc_X7_state, by decide +kernel⟩
theorem yv_X7_count : yV yX7_count cX7_count 3 (some .int) RX7 1 := ⟨ui_X7_count, us_X7_count, un_X7, uc_X7_count, by decide +kernel⟩
theorem yv_X7_findUnit : yV yX7_findUnit cX7_findUnit 2 (some (.object "ClassMaker4$RunUnit")) RX7 1 := ⟨ui_X7_findUnit, us_X7_findUnit, un_X7, uc_X7_findUnit, by decide +kernel⟩
theorem yi_X8_init : yI yX8_init cX8_init 1 0 := ⟨ui_X8_init, un_X8, uc_X8_init, rfl, by decide +kernel⟩
theorem yv_X8_thrown : yV yX8_thrown cX8_thrown 1 (some .int) RX8 0 := ⟨ui_X8_thrown, us_X8_thrown, un_X8, uc_X8_thrown, by decide +kernel⟩
theorem yv_X8_isProgram : yV yX8_isProgram cX8_isProgram 2 (some .boolean) RX8 1 := ⟨ui_X8_isProgram, us_X8_isProgram, un_X8, uc_X8_isProgram, by decide +kernel⟩
theorem yv_X8_isUnit : yV yX8_isUnit cX8_isUnit 2 (some .boolean) RX8 1 := ⟨ui_X8_isUnit, us_X8_isUnit, un_X8, uc_X8_isUnit, by decide +kernel⟩
theorem yv_X8_program : yV yX8_program cX8_program 3 (some .int) RX8 2 := ⟨ui_X8_program, us_X8_program, un_X8, uc_X8_program, by decide +kernel⟩
theorem ys_X8_isIn : yS yX8_isIn cX8_isIn 3 (some .boolean) 3 := ⟨ust_X8_isIn, un_X8, uc_X8_isIn, by decide +kernel⟩
theorem yv_X8_isRow : yV yX8_isRow cX8_isRow 6 (some .boolean) RX8 4 := ⟨ui_X8_isRow, us_X8_isRow, un_X8, uc_X8_isRow, by decide +kernel⟩
theorem yv_X8_code : yV yX8_code cX8_code 6 (some .int) RX8 4 := ⟨ui_X8_code, us_X8_code, un_X8, uc_X8_code, by decide +kernel⟩
theorem yv_X8_unit : yV yX8_unit cX8_unit 1 (some .int) RX8 0 := ⟨ui_X8_unit, us_X8_unit, un_X8, uc_X8_unit, by decide +kernel⟩
theorem yv_X8_latestOf : yV yX8_latestOf cX8_latestOf 3 (some .int) RX8 2 := ⟨ui_X8_latestOf, us_X8_latestOf, un_X8, uc_X8_latestOf, by decide +kernel⟩
theorem yv_X8_made : yV yX8_made cX8_made 4 (some .int) RX8 2 := ⟨ui_X8_made, us_X8_made, un_X8, uc_X8_made, by decide +kernel⟩
theorem yv_X8_make : yV yX8_make cX8_make 3 (some .int) RX8 2 := ⟨ui_X8_make, us_X8_make, un_X8, uc_X8_make, by decide +kernel⟩
theorem yv_X8_cancel : yV yX8_cancel cX8_cancel 4 (some .int) RX8 2 := ⟨ui_X8_cancel, us_X8_cancel, un_X8, uc_X8_cancel, by decide +kernel⟩
theorem yv_X8_shares : yV yX8_shares cX8_shares 5 (some .boolean) RX8 2 := ⟨ui_X8_shares, us_X8_shares, un_X8, uc_X8_shares, by decide +kernel⟩
theorem yv_X8_state : yV yX8_state cX8_state 2 (some .int) RX8 1 := ⟨ui_X8_state, us_X8_state, un_X8, uc_X8_state, by decide +kernel⟩
theorem yv_X8_enter : yV yX8_enter cX8_enter 5 (some .int) RX8 1 := ⟨ui_X8_enter, us_X8_enter, un_X8, uc_X8_enter, by decide +kernel⟩
theorem yv_X8_called : yV yX8_called cX8_called 4 (some .int) RX8 2 := ⟨ui_X8_called, us_X8_called, un_X8, uc_X8_called, by decide +kernel⟩
theorem yv_X8_step : yV yX8_step cX8_step 12 (some .int) RX8 2 := ⟨ui_X8_step, us_X8_step, un_X8, uc_X8_step, by decide +kernel⟩
theorem yv_X8_run : yV yX8_run cX8_run 7 (some .int) RX8 2 := ⟨ui_X8_run, us_X8_run, un_X8, uc_X8_run, by decide +kernel⟩
theorem yv_X8_at : yV yX8_at cX8_at 5 (some .byte) RX8 3 := ⟨ui_X8_at, us_X8_at, un_X8, uc_X8_at, by decide +kernel⟩
theorem yv_X8_raised : yV yX8_raised cX8_raised 2 (some .int) RX8 1 := ⟨ui_X8_raised, us_X8_raised, un_X8, uc_X8_raised, by decide +kernel⟩
theorem yv_X8_told : yV yX8_told cX8_told 3 (some .int) RX8 2 := ⟨ui_X8_told, us_X8_told, un_X8, uc_X8_told, by decide +kernel⟩
theorem yv_X8_mark : yV yX8_mark cX8_mark 3 (some .int) RX8 2 := ⟨ui_X8_mark, us_X8_mark, un_X8, uc_X8_mark, by decide +kernel⟩
theorem yv_X8_u1 : yV yX8_u1 cX8_u1 2 none RX8 1 := ⟨ui_X8_u1, us_X8_u1, un_X8, uc_X8_u1, by decide +kernel⟩
theorem yv_X8_u2 : yV yX8_u2 cX8_u2 2 none RX8 1 := ⟨ui_X8_u2, us_X8_u2, un_X8, uc_X8_u2, by decide +kernel⟩
theorem yv_X8_u4 : yV yX8_u4 cX8_u4 2 none RX8 1 := ⟨ui_X8_u4, us_X8_u4, un_X8, uc_X8_u4, by decide +kernel⟩
theorem yv_X8_utf : yV yX8_utf cX8_utf 6 none RX8 2 := ⟨ui_X8_utf, us_X8_utf, un_X8, uc_X8_utf, by decide +kernel⟩
theorem yv_X8_signs : yV yX8_signs cX8_signs 4 none RX8 1 := ⟨ui_X8_signs, us_X8_signs, un_X8, uc_X8_signs, by decide +kernel⟩
theorem yv_X8_pair : yV yX8_pair cX8_pair 4 none RX8 3 := ⟨ui_X8_pair, us_X8_pair, un_X8, uc_X8_pair, by decide +kernel⟩
theorem yv_X8_classed : yV yX8_classed cX8_classed 2 none RX8 1 := ⟨ui_X8_classed, us_X8_classed, un_X8, uc_X8_classed, by decide +kernel⟩
theorem ys_X8_named : yS yX8_named cX8_named 2 (some .long) 2 := ⟨ust_X8_named, un_X8, uc_X8_named, by decide +kernel⟩
theorem yv_X8_constants : yV yX8_constants cX8_constants 4 none RX8 2 := ⟨ui_X8_constants, us_X8_constants, un_X8, uc_X8_constants, by decide +kernel⟩
theorem yv_X8_method : yV yX8_method cX8_method 6 none RX8 5 := ⟨ui_X8_method, us_X8_method, un_X8, uc_X8_method, by decide +kernel⟩
theorem ys_X8_isWithin : yS yX8_isWithin cX8_isWithin 3 (some .boolean) 3 := ⟨ust_X8_isWithin, un_X8, uc_X8_isWithin, by decide +kernel⟩
theorem yv_X8_going : yV yX8_going cX8_going 4 (some .int) RX8 3 := ⟨ui_X8_going, us_X8_going, un_X8, uc_X8_going, by decide +kernel⟩
theorem yv_X8_bytesOf : yV yX8_bytesOf cX8_bytesOf 4 (some .int) RX8 3 := ⟨ui_X8_bytesOf, us_X8_bytesOf, un_X8, uc_X8_bytesOf, by decide +kernel⟩
theorem yv_X8_begins : yV yX8_begins cX8_begins 7 (some .int) RX8 4 := ⟨ui_X8_begins, us_X8_begins, un_X8, uc_X8_begins, by decide +kernel⟩
theorem yv_X8_words : yV yX8_words cX8_words 1 none RX8 0 := ⟨ui_X8_words, us_X8_words, un_X8, uc_X8_words, by decide +kernel⟩
theorem yv_X8_push : yV yX8_push cX8_push 2 none RX8 1 := ⟨ui_X8_push, us_X8_push, un_X8, uc_X8_push, by decide +kernel⟩
theorem yv_X8_load : yV yX8_load cX8_load 2 none RX8 1 := ⟨ui_X8_load, us_X8_load, un_X8, uc_X8_load, by decide +kernel⟩
theorem yv_X8_goes : yV yX8_goes cX8_goes 6 none RX8 5 := ⟨ui_X8_goes, us_X8_goes, un_X8, uc_X8_goes, by decide +kernel⟩
theorem yv_X8_row : yV yX8_row cX8_row 10 none RX8 4 := ⟨ui_X8_row, us_X8_row, un_X8, uc_X8_row, by decide +kernel⟩
theorem yv_X8_member : yV yX8_member cX8_member 8 none RX8 3 := ⟨ui_X8_member, us_X8_member, un_X8, uc_X8_member, by decide +kernel⟩
theorem yv_X8_build : yV yX8_build cX8_build 6 none RX8 1 := ⟨ui_X8_build, us_X8_build, un_X8, uc_X8_build, by decide +kernel⟩
theorem yv_X8_octet : yV yX8_octet cX8_octet 3 (some .byte) RX8 2 := ⟨ui_X8_octet, us_X8_octet, un_X8, uc_X8_octet, by decide +kernel⟩
theorem yv_X8_plain : yV yX8_plain cX8_plain 6 (some .long) RX8 3 := ⟨ui_X8_plain, us_X8_plain, un_X8, uc_X8_plain, by decide +kernel⟩
theorem yv_X8_count : yV yX8_count cX8_count 2 (some .int) RX8 1 := ⟨ui_X8_count, us_X8_count, un_X8, uc_X8_count, by decide +kernel⟩
theorem yi_Jx00060_init_a7421 : yI yJx00060_init_a7421 cJx00060_init_a7421 2 1 := ⟨ui_Jx00060_init_a7421, un_Jx00060, uc_Jx00060_init_a7421, rfl, by decide +kernel⟩
theorem ys_J9_min_7cf53 : yS yJ9_min_7cf53 cJ9_min_7cf53 2 (some .int) 2 := ⟨ust_J9_min_7cf53, un_J9, uc_J9_min_7cf53, by decide +kernel⟩
theorem ys_J9_min_f86c9 : yS yJ9_min_f86c9 cJ9_min_f86c9 4 (some .long) 2 := ⟨ust_J9_min_f86c9, un_J9, uc_J9_min_f86c9, by decide +kernel⟩
theorem yi_Jxde1cd_init_a7421 : yI yJxde1cd_init_a7421 cJxde1cd_init_a7421 2 1 := ⟨ui_Jxde1cd_init_a7421, un_Jxde1cd, uc_Jxde1cd_init_a7421, rfl, by decide +kernel⟩
theorem yv_J0_length_8abf5 : yV yJ0_length_8abf5 cJ0_length_8abf5 1 (some .int) RJ0 0 := ⟨ui_J0_length_8abf5, us_J0_length_8abf5, un_J0, uc_J0_length_8abf5, by decide +kernel⟩
theorem yv_J0_charAt_5068e : yV yJ0_charAt_5068e cJ0_charAt_5068e 2 (some .char) RJ0 1 := ⟨ui_J0_charAt_5068e, us_J0_charAt_5068e, un_J0, uc_J0_charAt_5068e, by decide +kernel⟩
theorem yv_J0_coder_7d493 : yV yJ0_coder_7d493 cJ0_coder_7d493 1 (some .byte) RJ0 0 := ⟨ui_J0_coder_7d493, us_J0_coder_7d493, un_J0, uc_J0_coder_7d493, by decide +kernel⟩
theorem yv_J0_isLatin1_aae02 : yV yJ0_isLatin1_aae02 cJ0_isLatin1_aae02 1 (some .boolean) RJ0 0 := ⟨ui_J0_isLatin1_aae02, us_J0_isLatin1_aae02, un_J0, uc_J0_isLatin1_aae02, by decide +kernel⟩
theorem ys_J0_checkIndex_df160 : yS yJ0_checkIndex_df160 cJ0_checkIndex_df160 2 none 2 := ⟨ust_J0_checkIndex_df160, un_J0, uc_J0_checkIndex_df160, by decide +kernel⟩
theorem ys_J1_charAt_3b067 : yS yJ1_charAt_3b067 cJ1_charAt_3b067 2 (some .char) 2 := ⟨ust_J1_charAt_3b067, un_J1, uc_J1_charAt_3b067, by decide +kernel⟩
theorem ys_J2_getChar_3b067 : yS yJ2_getChar_3b067 cJ2_getChar_3b067 2 (some .char) 2 := ⟨ust_J2_getChar_3b067, un_J2, uc_J2_getChar_3b067, by decide +kernel⟩
theorem ys_J2_length_9d52b : yS yJ2_length_9d52b cJ2_length_9d52b 1 (some .int) 1 := ⟨ust_J2_length_9d52b, un_J2, uc_J2_length_9d52b, by decide +kernel⟩
theorem ys_J2_charAt_3b067 : yS yJ2_charAt_3b067 cJ2_charAt_3b067 2 (some .char) 2 := ⟨ust_J2_charAt_3b067, un_J2, uc_J2_charAt_3b067, by decide +kernel⟩
theorem ys_J2_checkIndex_2214a : yS yJ2_checkIndex_2214a cJ2_checkIndex_2214a 2 none 2 := ⟨ust_J2_checkIndex_2214a, un_J2, uc_J2_checkIndex_2214a, by decide +kernel⟩
theorem ys_J7_fill_031fb : yS yJ7_fill_031fb cJ7_fill_031fb 4 none 2 := ⟨ust_J7_fill_031fb, un_J7, uc_J7_fill_031fb, by decide +kernel⟩
theorem ys_J7_copyOf_9075b : yS yJ7_copyOf_9075b cJ7_copyOf_9075b 3 (some (.array .byte)) 2 := ⟨ust_J7_copyOf_9075b, un_J7, uc_J7_copyOf_9075b, by decide +kernel⟩
theorem ys_J3_checkIndex_8e157 : yS yJ3_checkIndex_8e157 cJ3_checkIndex_8e157 3 (some .int) 3 := ⟨ust_J3_checkIndex_8e157, un_J3, uc_J3_checkIndex_8e157, by decide +kernel⟩
end
section
/-! the reference's writing: bytes put at the end of its file -/
def wr (σ : MS) (b : Int32) : MS := sF (sA σ 24 (σ.2 29).toNatClampNeg (b &&& 255)) 29 (σ.2 29 + 1)
def ap (σ : MS) (bs : List Int32) : MS := bs.foldl wr σ
theorem ap_ap (σ : MS) (a b : List Int32) : ap (ap σ a) b = ap σ (a ++ b) := (List.foldl_append).symm
def Lo (σ : MS) (k : Nat) : Prop := ∃ n : Nat, σ.2 29 = nI n ∧ n + k ≤ 3000
theorem Lo.le {σ : MS} {k k2 : Nat} (h : Lo σ k) (hk : k2 ≤ k) : Lo σ k2 := by
  obtain ⟨n, h1, h2⟩ := h
  exact ⟨n, h1, by omega⟩
theorem Lo.one {σ : MS} {k : Nat} {b : Int32} (h : Lo σ (k + 1)) : Lo (wr σ b) k := by
  obtain ⟨n, h1, h2⟩ := h
  refine ⟨n + 1, ?_, by omega⟩
  show va_up σ.2 29 (σ.2 29 + 1) 29 = _
  rw [va_up_self, h1, nI_1]
theorem Lo.app {σ : MS} {k k2 : Nat} {bs : List Int32} (h : Lo σ k) (hk : bs.length + k2 ≤ k) : Lo (ap σ bs) k2 := by
  induction bs generalizing σ k with
  | nil => exact h.le (by simpa using hk)
  | cons b bs ih =>
    have hk2 : bs.length + 1 + k2 ≤ k := hk
    exact ih (σ := wr σ b) (k := k - 1) (Lo.one (h.le (by omega : k - 1 + 1 ≤ k))) (by omega)
theorem Lo.in {σ : MS} {k : Nat} (h : Lo σ k) (hk : 1 ≤ k) : vp_in (σ.2 29) (mN 24) := by
  obtain ⟨n, h1, h2⟩ := h
  rw [h1]
  exact vp_in_nI (show n < 3000 by omega) (by decide)
/-- reading what was written -/
theorem ap_len {σ : MS} {n : Nat} (h : σ.2 29 = nI n) (bs : List Int32) : (ap σ bs).2 29 = nI (n + bs.length) := by
  induction bs generalizing σ n with
  | nil => exact h
  | cons b bs ih =>
    have := ih (σ := wr σ b) (n := n + 1) (by show va_up σ.2 29 (σ.2 29 + 1) 29 = _; rw [va_up_self, h, nI_1])
    rw [List.length_cons, show n + (bs.length + 1) = n + 1 + bs.length by omega]; exact this
theorem wr_fld (σ : MS) (b : Int32) {k : Nat} (hk : k ≠ 29) : (wr σ b).2 k = σ.2 k := va_up_ne _ _ hk
theorem ap_fld (σ : MS) (bs : List Int32) {k : Nat} (hk : k ≠ 29) : (ap σ bs).2 k = σ.2 k := by
  induction bs generalizing σ with
  | nil => rfl
  | cons b bs ih => exact (ih (wr σ b)).trans (wr_fld σ b hk)
theorem wr_arr (σ : MS) (b : Int32) {j : Nat} (hj : j ≠ 24) : (wr σ b).1 j = σ.1 j := va_up_ne _ _ hj
theorem ap_arr (σ : MS) (bs : List Int32) {j : Nat} (hj : j ≠ 24) : (ap σ bs).1 j = σ.1 j := by
  induction bs generalizing σ with
  | nil => rfl
  | cons b bs ih => exact (ih (wr σ b)).trans (wr_arr σ b hj)
theorem ap_old {σ : MS} {n : Nat} (h : σ.2 29 = nI n) (bs : List Int32) (hb : n + bs.length < 2 ^ 31) {i : Nat} (hi : i < n) : (ap σ bs).1 24 i = σ.1 24 i := by
  induction bs generalizing σ n with
  | nil => rfl
  | cons b bs ih =>
    have hb2 : n + (bs.length + 1) < 2 ^ 31 := hb
    have := ih (σ := wr σ b) (n := n + 1) (by show va_up σ.2 29 (σ.2 29 + 1) 29 = _; rw [va_up_self, h, nI_1]) (by omega) (by omega)
    refine this.trans ?_
    show va_up σ.1 24 (upd (σ.1 24) (σ.2 29).toNatClampNeg (b &&& 255)) 24 i = _
    rw [va_up_self, h, nI_clamp (by omega)]
    exact pk_un (by omega)
theorem ap_new {σ : MS} {n : Nat} (h : σ.2 29 = nI n) (bs : List Int32) (hb : n + bs.length < 2 ^ 31) {i : Nat} (hi : i < bs.length) : (ap σ bs).1 24 (n + i) = bs.getD i 0 &&& 255 := by
  induction bs generalizing σ n i with
  | nil => exact absurd hi (Nat.not_lt_zero _)
  | cons b bs ih =>
    have hb2 : n + (bs.length + 1) < 2 ^ 31 := hb
    have h1 : (wr σ b).2 29 = nI (n + 1) := by show va_up σ.2 29 (σ.2 29 + 1) 29 = _; rw [va_up_self, h, nI_1]
    cases i with
    | zero =>
      refine (ap_old (σ := wr σ b) (n := n + 1) h1 bs (by omega) (by omega)).trans ?_
      show va_up σ.1 24 (upd (σ.1 24) (σ.2 29).toNatClampNeg (b &&& 255)) 24 n = _
      rw [va_up_self, h, nI_clamp (by omega)]
      exact pk_us
    | succ i =>
      have := ih (σ := wr σ b) (n := n + 1) (i := i) h1 (by omega) (by simpa using hi)
      rw [show n + (i + 1) = n + 1 + i by omega]
      exact this
theorem sw_split (x : Int32) (lo hi : Int) : (x.toInt < lo ∨ hi < x.toInt) ∨ ∃ k : Int, x.toInt = k ∧ lo ≤ k ∧ k ≤ hi := by
  by_cases h1 : x.toInt < lo
  · exact Or.inl (Or.inl h1)
  · by_cases h2 : hi < x.toInt
    · exact Or.inl (Or.inr h2)
    · exact Or.inr ⟨_, rfl, by omega, by omega⟩
theorem sw_val {x y : Int32} {k : Int} (h : x.toInt = k) (hy : y.toInt = k) : x = y := Int32.toInt_inj.mp (h.trans hy.symm)
end
section
set_option maxHeartbeats 4000000 in
set_option maxRecDepth 100000 in
theorem m_thrown (l : Launch) (D : va_G) (K : Nat → ClassId) (am : Nat) (A : Nat → Nat) (σ : MS)  : Mc l yX8_thrown (wM yX8_thrown cX8_thrown 1 (some .int)) (rmL 0 0 0) D (yY K) [.ref am] (mW K am A σ) (fun v w => v = some (.int (σ.2 0)) ∧ w = mW K am A σ) 0 0 := by
  refine m_start (lv := [(0, .ref am)]) rfl (Nat.le_of_ble_eq_true rfl) rfl (fun Γ hX hRm hnL hY hDD hLa hR hI hE => ?_)
  have hU : ∀ w ∈ wU, w ∈ wM yX8_thrown cX8_thrown 1 (some .int) := fun w h => wM_in h
  subst hLa
  subst hDD
  refine g_aload_n (n := 1) hX dX8_thrown_0 rfl rfl rfl ?_
  refine g_mget (n := 4) 0 (v := .int (σ.2 0)) hX hU dX8_thrown_1 rfl uf_X8_87 rfl rfl rfl ?_
  exact g_iret hX hR dX8_thrown_4 ⟨rfl, rfl⟩

def bI (c : Prop) [Decidable c] : Int32 := if c then 1 else 0
theorem bI_t {c : Prop} [Decidable c] (h : c) : bI c = 1 := if_pos h
theorem bI_f {c : Prop} [Decidable c] (h : ¬ c) : bI c = 0 := if_neg h
theorem bI_nar (c : Prop) [Decidable c] : narrow .boolean (.int (bI c)) = .int (bI c) := by unfold bI; split <;> rfl
set_option maxHeartbeats 4000000 in
set_option maxRecDepth 100000 in
theorem m_isProgram (l : Launch) (D : va_G) (K : Nat → ClassId) (am : Nat) (A : Nat → Nat) (σ : MS) (p : Int32) : Mc l yX8_isProgram (wM yX8_isProgram cX8_isProgram 2 (some .boolean)) (rmL 0 0 0) D (yY K) [.ref am, .int p] (mW K am A σ) (fun v w => v = some (.int (bI (1 ≤ p ∧ p ≤ σ.2 1))) ∧ w = mW K am A σ) 0 0 := by
  refine m_start (lv := [(0, .ref am), (1, .int p)]) rfl (Nat.le_of_ble_eq_true rfl) rfl (fun Γ hX hRm hnL hY hDD hLa hR hI hE => ?_)
  have hU : ∀ w ∈ wU, w ∈ wM yX8_isProgram cX8_isProgram 2 (some .boolean) := fun w h => wM_in h
  subst hLa
  subst hDD
  refine g_iload_n (n := 1) hX dX8_isProgram_0 rfl rfl rfl ?_
  refine g_iconst (n := 2) (v := 1) hX dX8_isProgram_1 rfl rfl ?_
  refine g_icmp_lt (n := 5) (tgt := 17) hX dX8_isProgram_2 rfl (by decide) (fun c2 => ?_) (fun c2 => ?_)
  · refine g_iconst (n := 18) (v := 0) hX dX8_isProgram_17 rfl rfl ?_
    exact g_zret hX hR dX8_isProgram_18 rfl ⟨by rw [bI_f (fun h9 => Int32.not_lt.mpr h9.1 c2)], rfl⟩
  · refine g_iload_n (n := 6) hX dX8_isProgram_5 rfl rfl rfl ?_
    refine g_aload_n (n := 7) hX dX8_isProgram_6 rfl rfl rfl ?_
    refine g_mget (n := 10) 1 (v := .int (σ.2 1)) hX hU dX8_isProgram_7 rfl uf_X8_91 rfl rfl rfl ?_
    refine g_icmp_gt (n := 13) (tgt := 17) hX dX8_isProgram_10 rfl (by decide) (fun c10 => ?_) (fun c10 => ?_)
    · refine g_iconst (n := 18) (v := 0) hX dX8_isProgram_17 rfl rfl ?_
      exact g_zret hX hR dX8_isProgram_18 rfl ⟨by rw [bI_f (fun h9 => Int32.not_lt.mpr h9.2 c10)], rfl⟩
    · refine g_iconst (n := 14) (v := 1) hX dX8_isProgram_13 rfl rfl ?_
      refine g_goto (n := 18) hX dX8_isProgram_14 (by decide) ?_
      exact g_zret hX hR dX8_isProgram_18 rfl ⟨by rw [bI_t ⟨Int32.not_lt.mp c2, Int32.not_lt.mp c10⟩], rfl⟩

set_option maxHeartbeats 4000000 in
set_option maxRecDepth 100000 in
theorem m_isUnit (l : Launch) (D : va_G) (K : Nat → ClassId) (am : Nat) (A : Nat → Nat) (σ : MS) (p : Int32) : Mc l yX8_isUnit (wM yX8_isUnit cX8_isUnit 2 (some .boolean)) (rmL 0 0 0) D (yY K) [.ref am, .int p] (mW K am A σ) (fun v w => v = some (.int (bI (1 ≤ p ∧ p ≤ σ.2 2))) ∧ w = mW K am A σ) 0 0 := by
  refine m_start (lv := [(0, .ref am), (1, .int p)]) rfl (Nat.le_of_ble_eq_true rfl) rfl (fun Γ hX hRm hnL hY hDD hLa hR hI hE => ?_)
  have hU : ∀ w ∈ wU, w ∈ wM yX8_isUnit cX8_isUnit 2 (some .boolean) := fun w h => wM_in h
  subst hLa
  subst hDD
  refine g_iload_n (n := 1) hX dX8_isUnit_0 rfl rfl rfl ?_
  refine g_iconst (n := 2) (v := 1) hX dX8_isUnit_1 rfl rfl ?_
  refine g_icmp_lt (n := 5) (tgt := 17) hX dX8_isUnit_2 rfl (by decide) (fun c2 => ?_) (fun c2 => ?_)
  · refine g_iconst (n := 18) (v := 0) hX dX8_isUnit_17 rfl rfl ?_
    exact g_zret hX hR dX8_isUnit_18 rfl ⟨by rw [bI_f (fun h9 => Int32.not_lt.mpr h9.1 c2)], rfl⟩
  · refine g_iload_n (n := 6) hX dX8_isUnit_5 rfl rfl rfl ?_
    refine g_aload_n (n := 7) hX dX8_isUnit_6 rfl rfl rfl ?_
    refine g_mget (n := 10) 2 (v := .int (σ.2 2)) hX hU dX8_isUnit_7 rfl uf_X8_94 rfl rfl rfl ?_
    refine g_icmp_gt (n := 13) (tgt := 17) hX dX8_isUnit_10 rfl (by decide) (fun c10 => ?_) (fun c10 => ?_)
    · refine g_iconst (n := 18) (v := 0) hX dX8_isUnit_17 rfl rfl ?_
      exact g_zret hX hR dX8_isUnit_18 rfl ⟨by rw [bI_f (fun h9 => Int32.not_lt.mpr h9.2 c10)], rfl⟩
    · refine g_iconst (n := 14) (v := 1) hX dX8_isUnit_13 rfl rfl ?_
      refine g_goto (n := 18) hX dX8_isUnit_14 (by decide) ?_
      exact g_zret hX hR dX8_isUnit_18 rfl ⟨by rw [bI_t ⟨Int32.not_lt.mp c2, Int32.not_lt.mp c10⟩], rfl⟩

set_option maxHeartbeats 4000000 in
set_option maxRecDepth 100000 in
theorem m_isIn (l : Launch) (D : va_G) (K : Nat → ClassId) (ws : va_W) (p lo hi : Int32) : Mc l yX8_isIn (wM yX8_isIn cX8_isIn 3 (some .boolean)) (rmL 0 0 0) D (yY K) [.int p, .int lo, .int hi] (ws) (fun v w => v = some (.int (bI (lo ≤ p ∧ p ≤ hi))) ∧ w = ws) 0 0 := by
  refine m_start (lv := [(0, .int p), (1, .int lo), (2, .int hi)]) rfl (Nat.le_of_ble_eq_true rfl) rfl (fun Γ hX hRm hnL hY hDD hLa hR hI hE => ?_)
  have hU : ∀ w ∈ wU, w ∈ wM yX8_isIn cX8_isIn 3 (some .boolean) := fun w h => wM_in h
  subst hLa
  subst hDD
  refine g_iload_n (n := 1) hX dX8_isIn_0 rfl rfl rfl ?_
  refine g_iload_n (n := 2) hX dX8_isIn_1 rfl rfl rfl ?_
  refine g_icmp_lt (n := 5) (tgt := 14) hX dX8_isIn_2 rfl (by decide) (fun c2 => ?_) (fun c2 => ?_)
  · refine g_iconst (n := 15) (v := 0) hX dX8_isIn_14 rfl rfl ?_
    exact g_zret hX hR dX8_isIn_15 rfl ⟨by rw [bI_f (fun h9 => Int32.not_lt.mpr h9.1 c2)], rfl⟩
  · refine g_iload_n (n := 6) hX dX8_isIn_5 rfl rfl rfl ?_
    refine g_iload_n (n := 7) hX dX8_isIn_6 rfl rfl rfl ?_
    refine g_icmp_gt (n := 10) (tgt := 14) hX dX8_isIn_7 rfl (by decide) (fun c7 => ?_) (fun c7 => ?_)
    · refine g_iconst (n := 15) (v := 0) hX dX8_isIn_14 rfl rfl ?_
      exact g_zret hX hR dX8_isIn_15 rfl ⟨by rw [bI_f (fun h9 => Int32.not_lt.mpr h9.2 c7)], rfl⟩
    · refine g_iconst (n := 11) (v := 1) hX dX8_isIn_10 rfl rfl ?_
      refine g_goto (n := 15) hX dX8_isIn_11 (by decide) ?_
      exact g_zret hX hR dX8_isIn_15 rfl ⟨by rw [bI_t ⟨Int32.not_lt.mp c2, Int32.not_lt.mp c7⟩], rfl⟩

set_option maxHeartbeats 4000000 in
set_option maxRecDepth 100000 in
theorem m_isWithin (l : Launch) (D : va_G) (K : Nat → ClassId) (ws : va_W) (p lo hi : Int32) : Mc l yX8_isWithin (wM yX8_isWithin cX8_isWithin 3 (some .boolean)) (rmL 0 0 0) D (yY K) [.int p, .int lo, .int hi] (ws) (fun v w => v = some (.int (bI (lo ≤ p ∧ p ≤ hi))) ∧ w = ws) 0 0 := by
  refine m_start (lv := [(0, .int p), (1, .int lo), (2, .int hi)]) rfl (Nat.le_of_ble_eq_true rfl) rfl (fun Γ hX hRm hnL hY hDD hLa hR hI hE => ?_)
  have hU : ∀ w ∈ wU, w ∈ wM yX8_isWithin cX8_isWithin 3 (some .boolean) := fun w h => wM_in h
  subst hLa
  subst hDD
  refine g_iload_n (n := 1) hX dX8_isWithin_0 rfl rfl rfl ?_
  refine g_iload_n (n := 2) hX dX8_isWithin_1 rfl rfl rfl ?_
  refine g_icmp_lt (n := 5) (tgt := 14) hX dX8_isWithin_2 rfl (by decide) (fun c2 => ?_) (fun c2 => ?_)
  · refine g_iconst (n := 15) (v := 0) hX dX8_isWithin_14 rfl rfl ?_
    exact g_zret hX hR dX8_isWithin_15 rfl ⟨by rw [bI_f (fun h9 => Int32.not_lt.mpr h9.1 c2)], rfl⟩
  · refine g_iload_n (n := 6) hX dX8_isWithin_5 rfl rfl rfl ?_
    refine g_iload_n (n := 7) hX dX8_isWithin_6 rfl rfl rfl ?_
    refine g_icmp_gt (n := 10) (tgt := 14) hX dX8_isWithin_7 rfl (by decide) (fun c7 => ?_) (fun c7 => ?_)
    · refine g_iconst (n := 15) (v := 0) hX dX8_isWithin_14 rfl rfl ?_
      exact g_zret hX hR dX8_isWithin_15 rfl ⟨by rw [bI_f (fun h9 => Int32.not_lt.mpr h9.2 c7)], rfl⟩
    · refine g_iconst (n := 11) (v := 1) hX dX8_isWithin_10 rfl rfl ?_
      refine g_goto (n := 15) hX dX8_isWithin_11 (by decide) ?_
      exact g_zret hX hR dX8_isWithin_15 rfl ⟨by rw [bI_t ⟨Int32.not_lt.mp c2, Int32.not_lt.mp c7⟩], rfl⟩

set_option maxHeartbeats 4000000 in
set_option maxRecDepth 100000 in
theorem m_u1 (l : Launch) (D : va_G) (K : Nat → ClassId) (am : Nat) (A : Nat → Nat) (σ : MS) (x : Int32) (hr : Lo σ 1) : Mc l yX8_u1 (wM yX8_u1 cX8_u1 2 none) (rmL 0 0 0) D (yY K) [.ref am, .int x] (mW K am A σ) (fun v w => v = none ∧ w = mW K am A (ap σ ([x]))) 0 0 := by
  refine m_start (lv := [(0, .ref am), (1, .int x)]) rfl (Nat.le_of_ble_eq_true rfl) rfl (fun Γ hX hRm hnL hY hDD hLa hR hI hE => ?_)
  have hU : ∀ w ∈ wU, w ∈ wM yX8_u1 cX8_u1 2 none := fun w h => wM_in h
  subst hLa
  subst hDD
  refine g_aload_n (n := 1) hX dX8_u1_0 rfl rfl rfl ?_
  refine g_mget (n := 4) 30 (v := .ref (A 24)) hX hU dX8_u1_1 rfl uf_X8_84 rfl rfl rfl ?_
  refine g_aload_n (n := 5) hX dX8_u1_4 rfl rfl rfl ?_
  refine g_mget (n := 8) 29 (v := .int (σ.2 29)) hX hU dX8_u1_5 rfl uf_X8_135 rfl rfl rfl ?_
  refine g_iload_n (n := 9) hX dX8_u1_8 rfl rfl rfl ?_
  refine g_sipush (n := 12) (v := 255) hX dX8_u1_9 rfl rfl ?_
  refine g_iand (n := 13) (v := x &&& 255) hX dX8_u1_12 rfl rfl ?_
  refine g_mist (n := 14) 24 (i0 := (σ.2 29).toNatClampNeg) hX hY dX8_u1_13 rfl rfl rfl (hr.in (by decide)) rfl ?_
  refine g_aload_n (n := 15) hX dX8_u1_14 rfl rfl rfl ?_
  refine g_dup (n := 16) hX dX8_u1_15 rfl rfl ?_
  refine g_mget (n := 19) 29 (v := .int ((sA σ 24 ((σ.2 29).toNatClampNeg) (x &&& 255)).2 29)) hX hU dX8_u1_16 rfl uf_X8_135 rfl rfl rfl ?_
  refine g_iconst (n := 20) (v := 1) hX dX8_u1_19 rfl rfl ?_
  refine g_iadd (n := 21) (v := ((sA σ 24 ((σ.2 29).toNatClampNeg) (x &&& 255)).2 29) + 1) hX dX8_u1_20 rfl rfl ?_
  refine g_mput (n := 24) 29 hX hU dX8_u1_21 rfl uf_X8_135 rfl rfl rfl rfl rfl ?_
  exact g_vret hX hR dX8_u1_24 ⟨rfl, rfl⟩

def b2 (x : Int32) : List Int32 := [x >>> (8 &&& 31), x]
def b4 (x : Int32) : List Int32 := b2 (x >>> (16 &&& 31)) ++ b2 x
set_option maxHeartbeats 4000000 in
set_option maxRecDepth 100000 in
theorem m_u2 (l : Launch) (D : va_G) (K : Nat → ClassId) (am : Nat) (A : Nat → Nat) (σ : MS) (x : Int32) (hr : Lo σ 2) : Mc l yX8_u2 (wM yX8_u2 cX8_u2 2 none) (rmL 1 0 0) D (yY K) [.ref am, .int x] (mW K am A σ) (fun v w => v = none ∧ w = mW K am A (ap σ (b2 x))) 0 0 := by
  refine m_start (lv := [(0, .ref am), (1, .int x)]) rfl (Nat.le_of_ble_eq_true rfl) rfl (fun Γ hX hRm hnL hY hDD hLa hR hI hE => ?_)
  have hU : ∀ w ∈ wU, w ∈ wM yX8_u2 cX8_u2 2 none := fun w h => wM_in h
  subst hLa
  subst hDD
  refine g_aload_n (n := 1) hX dX8_u2_0 rfl rfl rfl ?_
  refine g_iload_n (n := 2) hX dX8_u2_1 rfl rfl rfl ?_
  refine g_bipush (n := 4) (v := 8) hX dX8_u2_2 rfl rfl ?_
  refine g_ishr (n := 5) (v := x >>> (8 &&& 31)) hX dX8_u2_4 rfl rfl ?_
  refine g_callV0 (n := 8) (As := [.int (x >>> (8 &&& 31))]) (rest := []) hX hE hU hY dX8_u2_5 rfl yv_X8_u1 um_X8_138 (m_u1 _ _ K am A σ (x >>> (8 &&& 31)) (hr.le (by decide))) ⟨rfl, rfl⟩ (rm_le hRm rfl rfl) rfl (ci := 10) (q0 := 0) rfl rfl rfl rfl (Nat.le_of_ble_eq_true rfl) ⟨Nat.zero_le _, Nat.zero_le _⟩ (fun v0 w0 h0 => ?_)
  obtain ⟨rfl, rfl⟩ := h0
  show G Γ (mW K am A (ap σ ([x >>> (8 &&& 31)]))) 0 0 8 [(0, .ref am), (1, .int x)] []
  have hr : Lo (ap σ ([x >>> (8 &&& 31)])) 1 := hr.app (Nat.le_of_ble_eq_true rfl)
  refine g_aload_n (n := 9) hX dX8_u2_8 rfl rfl rfl ?_
  refine g_iload_n (n := 10) hX dX8_u2_9 rfl rfl rfl ?_
  refine g_callV0 (n := 13) (As := [.int x]) (rest := []) hX hE hU hY dX8_u2_10 rfl yv_X8_u1 um_X8_138 (m_u1 _ _ K am A (ap σ ([x >>> (8 &&& 31)])) x (hr.le (by decide))) ⟨rfl, rfl⟩ (rm_le hRm rfl rfl) rfl (ci := 10) (q0 := 0) rfl rfl rfl rfl (Nat.le_of_ble_eq_true rfl) ⟨Nat.zero_le _, Nat.zero_le _⟩ (fun v0 w0 h0 => ?_)
  obtain ⟨rfl, rfl⟩ := h0
  show G Γ (mW K am A (ap (ap σ ([x >>> (8 &&& 31)])) ([x]))) 0 0 13 [(0, .ref am), (1, .int x)] []
  have hr : Lo (ap (ap σ ([x >>> (8 &&& 31)])) ([x])) 0 := hr.app (Nat.le_of_ble_eq_true rfl)
  exact g_vret hX hR dX8_u2_13 ⟨rfl, by simp only [ap_ap]; rfl⟩

set_option maxHeartbeats 4000000 in
set_option maxRecDepth 100000 in
theorem m_u4 (l : Launch) (D : va_G) (K : Nat → ClassId) (am : Nat) (A : Nat → Nat) (σ : MS) (x : Int32) (hr : Lo σ 4) : Mc l yX8_u4 (wM yX8_u4 cX8_u4 2 none) (rmL 2 0 0) D (yY K) [.ref am, .int x] (mW K am A σ) (fun v w => v = none ∧ w = mW K am A (ap σ (b4 x))) 0 0 := by
  refine m_start (lv := [(0, .ref am), (1, .int x)]) rfl (Nat.le_of_ble_eq_true rfl) rfl (fun Γ hX hRm hnL hY hDD hLa hR hI hE => ?_)
  have hU : ∀ w ∈ wU, w ∈ wM yX8_u4 cX8_u4 2 none := fun w h => wM_in h
  subst hLa
  subst hDD
  refine g_aload_n (n := 1) hX dX8_u4_0 rfl rfl rfl ?_
  refine g_iload_n (n := 2) hX dX8_u4_1 rfl rfl rfl ?_
  refine g_bipush (n := 4) (v := 16) hX dX8_u4_2 rfl rfl ?_
  refine g_ishr (n := 5) (v := x >>> (16 &&& 31)) hX dX8_u4_4 rfl rfl ?_
  refine g_callV0 (n := 8) (As := [.int (x >>> (16 &&& 31))]) (rest := []) hX hE hU hY dX8_u4_5 rfl yv_X8_u2 um_X8_142 (m_u2 _ _ K am A σ (x >>> (16 &&& 31)) (hr.le (by decide))) ⟨rfl, rfl⟩ (rm_le hRm rfl rfl) rfl (ci := 10) (q0 := 0) rfl rfl rfl rfl (Nat.le_of_ble_eq_true rfl) ⟨Nat.zero_le _, Nat.zero_le _⟩ (fun v0 w0 h0 => ?_)
  obtain ⟨rfl, rfl⟩ := h0
  show G Γ (mW K am A (ap σ (b2 (x >>> (16 &&& 31))))) 0 0 8 [(0, .ref am), (1, .int x)] []
  have hr : Lo (ap σ (b2 (x >>> (16 &&& 31)))) 2 := hr.app (Nat.le_of_ble_eq_true rfl)
  refine g_aload_n (n := 9) hX dX8_u4_8 rfl rfl rfl ?_
  refine g_iload_n (n := 10) hX dX8_u4_9 rfl rfl rfl ?_
  refine g_callV0 (n := 13) (As := [.int x]) (rest := []) hX hE hU hY dX8_u4_10 rfl yv_X8_u2 um_X8_142 (m_u2 _ _ K am A (ap σ (b2 (x >>> (16 &&& 31)))) x (hr.le (by decide))) ⟨rfl, rfl⟩ (rm_le hRm rfl rfl) rfl (ci := 10) (q0 := 0) rfl rfl rfl rfl (Nat.le_of_ble_eq_true rfl) ⟨Nat.zero_le _, Nat.zero_le _⟩ (fun v0 w0 h0 => ?_)
  obtain ⟨rfl, rfl⟩ := h0
  show G Γ (mW K am A (ap (ap σ (b2 (x >>> (16 &&& 31)))) (b2 x))) 0 0 13 [(0, .ref am), (1, .int x)] []
  have hr : Lo (ap (ap σ (b2 (x >>> (16 &&& 31)))) (b2 x)) 0 := hr.app (Nat.le_of_ble_eq_true rfl)
  exact g_vret hX hR dX8_u4_13 ⟨rfl, by simp only [ap_ap]; rfl⟩

def bPair (t a b : Int32) : List Int32 := [t] ++ b2 a ++ b2 b
def bClassed (a : Int32) : List Int32 := [7] ++ b2 a
def bWords : List Int32 := [178] ++ b2 8
def bPush (x : Int32) : List Int32 := [16, x]
def bLoad (x : Int32) : List Int32 := bWords ++ bPush x ++ [51]
def bMethod (a b c d n : Int32) : List Int32 := b2 8 ++ b2 a ++ b2 b ++ b2 1 ++ b2 24 ++ b4 (12 + n) ++ b2 c ++ b2 d ++ b4 n
set_option maxHeartbeats 4000000 in
set_option maxRecDepth 100000 in
theorem m_pair (l : Launch) (D : va_G) (K : Nat → ClassId) (am : Nat) (A : Nat → Nat) (σ : MS) (t a b : Int32) (hr : Lo σ 5) : Mc l yX8_pair (wM yX8_pair cX8_pair 4 none) (rmL 2 0 0) D (yY K) [.ref am, .int t, .int a, .int b] (mW K am A σ) (fun v w => v = none ∧ w = mW K am A (ap σ (bPair t a b))) 0 0 := by
  refine m_start (lv := [(0, .ref am), (1, .int t), (2, .int a), (3, .int b)]) rfl (Nat.le_of_ble_eq_true rfl) rfl (fun Γ hX hRm hnL hY hDD hLa hR hI hE => ?_)
  have hU : ∀ w ∈ wU, w ∈ wM yX8_pair cX8_pair 4 none := fun w h => wM_in h
  subst hLa
  subst hDD
  refine g_aload_n (n := 1) hX dX8_pair_0 rfl rfl rfl ?_
  refine g_iload_n (n := 2) hX dX8_pair_1 rfl rfl rfl ?_
  refine g_callV0 (n := 5) (As := [.int t]) (rest := []) hX hE hU hY dX8_pair_2 rfl yv_X8_u1 um_X8_138 (m_u1 _ _ K am A σ t (hr.le (by decide))) ⟨rfl, rfl⟩ (rm_le hRm rfl rfl) rfl (ci := 10) (q0 := 0) rfl rfl rfl rfl (Nat.le_of_ble_eq_true rfl) ⟨Nat.zero_le _, Nat.zero_le _⟩ (fun v0 w0 h0 => ?_)
  obtain ⟨rfl, rfl⟩ := h0
  show G Γ (mW K am A (ap σ ([t]))) 0 0 5 [(0, .ref am), (1, .int t), (2, .int a), (3, .int b)] []
  have hr : Lo (ap σ ([t])) 4 := hr.app (Nat.le_of_ble_eq_true rfl)
  refine g_aload_n (n := 6) hX dX8_pair_5 rfl rfl rfl ?_
  refine g_iload_n (n := 7) hX dX8_pair_6 rfl rfl rfl ?_
  refine g_callV0 (n := 10) (As := [.int a]) (rest := []) hX hE hU hY dX8_pair_7 rfl yv_X8_u2 um_X8_142 (m_u2 _ _ K am A (ap σ ([t])) a (hr.le (by decide))) ⟨rfl, rfl⟩ (rm_le hRm rfl rfl) rfl (ci := 10) (q0 := 0) rfl rfl rfl rfl (Nat.le_of_ble_eq_true rfl) ⟨Nat.zero_le _, Nat.zero_le _⟩ (fun v0 w0 h0 => ?_)
  obtain ⟨rfl, rfl⟩ := h0
  show G Γ (mW K am A (ap (ap σ ([t])) (b2 a))) 0 0 10 [(0, .ref am), (1, .int t), (2, .int a), (3, .int b)] []
  have hr : Lo (ap (ap σ ([t])) (b2 a)) 2 := hr.app (Nat.le_of_ble_eq_true rfl)
  refine g_aload_n (n := 11) hX dX8_pair_10 rfl rfl rfl ?_
  refine g_iload_n (n := 12) hX dX8_pair_11 rfl rfl rfl ?_
  refine g_callV0 (n := 15) (As := [.int b]) (rest := []) hX hE hU hY dX8_pair_12 rfl yv_X8_u2 um_X8_142 (m_u2 _ _ K am A (ap (ap σ ([t])) (b2 a)) b (hr.le (by decide))) ⟨rfl, rfl⟩ (rm_le hRm rfl rfl) rfl (ci := 10) (q0 := 0) rfl rfl rfl rfl (Nat.le_of_ble_eq_true rfl) ⟨Nat.zero_le _, Nat.zero_le _⟩ (fun v0 w0 h0 => ?_)
  obtain ⟨rfl, rfl⟩ := h0
  show G Γ (mW K am A (ap (ap (ap σ ([t])) (b2 a)) (b2 b))) 0 0 15 [(0, .ref am), (1, .int t), (2, .int a), (3, .int b)] []
  have hr : Lo (ap (ap (ap σ ([t])) (b2 a)) (b2 b)) 0 := hr.app (Nat.le_of_ble_eq_true rfl)
  exact g_vret hX hR dX8_pair_15 ⟨rfl, by simp only [ap_ap]; rfl⟩

set_option maxHeartbeats 4000000 in
set_option maxRecDepth 100000 in
theorem m_classed (l : Launch) (D : va_G) (K : Nat → ClassId) (am : Nat) (A : Nat → Nat) (σ : MS) (a : Int32) (hr : Lo σ 3) : Mc l yX8_classed (wM yX8_classed cX8_classed 2 none) (rmL 2 0 0) D (yY K) [.ref am, .int a] (mW K am A σ) (fun v w => v = none ∧ w = mW K am A (ap σ (bClassed a))) 0 0 := by
  refine m_start (lv := [(0, .ref am), (1, .int a)]) rfl (Nat.le_of_ble_eq_true rfl) rfl (fun Γ hX hRm hnL hY hDD hLa hR hI hE => ?_)
  have hU : ∀ w ∈ wU, w ∈ wM yX8_classed cX8_classed 2 none := fun w h => wM_in h
  subst hLa
  subst hDD
  refine g_aload_n (n := 1) hX dX8_classed_0 rfl rfl rfl ?_
  refine g_bipush (n := 3) (v := 7) hX dX8_classed_1 rfl rfl ?_
  refine g_callV0 (n := 6) (As := [.int 7]) (rest := []) hX hE hU hY dX8_classed_3 rfl yv_X8_u1 um_X8_138 (m_u1 _ _ K am A σ 7 (hr.le (by decide))) ⟨rfl, rfl⟩ (rm_le hRm rfl rfl) rfl (ci := 10) (q0 := 0) rfl rfl rfl rfl (Nat.le_of_ble_eq_true rfl) ⟨Nat.zero_le _, Nat.zero_le _⟩ (fun v0 w0 h0 => ?_)
  obtain ⟨rfl, rfl⟩ := h0
  show G Γ (mW K am A (ap σ ([7]))) 0 0 6 [(0, .ref am), (1, .int a)] []
  have hr : Lo (ap σ ([7])) 2 := hr.app (Nat.le_of_ble_eq_true rfl)
  refine g_aload_n (n := 7) hX dX8_classed_6 rfl rfl rfl ?_
  refine g_iload_n (n := 8) hX dX8_classed_7 rfl rfl rfl ?_
  refine g_callV0 (n := 11) (As := [.int a]) (rest := []) hX hE hU hY dX8_classed_8 rfl yv_X8_u2 um_X8_142 (m_u2 _ _ K am A (ap σ ([7])) a (hr.le (by decide))) ⟨rfl, rfl⟩ (rm_le hRm rfl rfl) rfl (ci := 10) (q0 := 0) rfl rfl rfl rfl (Nat.le_of_ble_eq_true rfl) ⟨Nat.zero_le _, Nat.zero_le _⟩ (fun v0 w0 h0 => ?_)
  obtain ⟨rfl, rfl⟩ := h0
  show G Γ (mW K am A (ap (ap σ ([7])) (b2 a))) 0 0 11 [(0, .ref am), (1, .int a)] []
  have hr : Lo (ap (ap σ ([7])) (b2 a)) 0 := hr.app (Nat.le_of_ble_eq_true rfl)
  exact g_vret hX hR dX8_classed_11 ⟨rfl, by simp only [ap_ap]; rfl⟩

set_option maxHeartbeats 4000000 in
set_option maxRecDepth 100000 in
theorem m_words (l : Launch) (D : va_G) (K : Nat → ClassId) (am : Nat) (A : Nat → Nat) (σ : MS)  (hr : Lo σ 3) : Mc l yX8_words (wM yX8_words cX8_words 1 none) (rmL 2 0 0) D (yY K) [.ref am] (mW K am A σ) (fun v w => v = none ∧ w = mW K am A (ap σ bWords)) 0 0 := by
  refine m_start (lv := [(0, .ref am)]) rfl (Nat.le_of_ble_eq_true rfl) rfl (fun Γ hX hRm hnL hY hDD hLa hR hI hE => ?_)
  have hU : ∀ w ∈ wU, w ∈ wM yX8_words cX8_words 1 none := fun w h => wM_in h
  subst hLa
  subst hDD
  refine g_aload_n (n := 1) hX dX8_words_0 rfl rfl rfl ?_
  refine g_sipush (n := 4) (v := 178) hX dX8_words_1 rfl rfl ?_
  refine g_callV0 (n := 7) (As := [.int 178]) (rest := []) hX hE hU hY dX8_words_4 rfl yv_X8_u1 um_X8_138 (m_u1 _ _ K am A σ 178 (hr.le (by decide))) ⟨rfl, rfl⟩ (rm_le hRm rfl rfl) rfl (ci := 10) (q0 := 0) rfl rfl rfl rfl (Nat.le_of_ble_eq_true rfl) ⟨Nat.zero_le _, Nat.zero_le _⟩ (fun v0 w0 h0 => ?_)
  obtain ⟨rfl, rfl⟩ := h0
  show G Γ (mW K am A (ap σ ([178]))) 0 0 7 [(0, .ref am)] []
  have hr : Lo (ap σ ([178])) 2 := hr.app (Nat.le_of_ble_eq_true rfl)
  refine g_aload_n (n := 8) hX dX8_words_7 rfl rfl rfl ?_
  refine g_bipush (n := 10) (v := 8) hX dX8_words_8 rfl rfl ?_
  refine g_callV0 (n := 13) (As := [.int 8]) (rest := []) hX hE hU hY dX8_words_10 rfl yv_X8_u2 um_X8_142 (m_u2 _ _ K am A (ap σ ([178])) 8 (hr.le (by decide))) ⟨rfl, rfl⟩ (rm_le hRm rfl rfl) rfl (ci := 10) (q0 := 0) rfl rfl rfl rfl (Nat.le_of_ble_eq_true rfl) ⟨Nat.zero_le _, Nat.zero_le _⟩ (fun v0 w0 h0 => ?_)
  obtain ⟨rfl, rfl⟩ := h0
  show G Γ (mW K am A (ap (ap σ ([178])) (b2 8))) 0 0 13 [(0, .ref am)] []
  have hr : Lo (ap (ap σ ([178])) (b2 8)) 0 := hr.app (Nat.le_of_ble_eq_true rfl)
  exact g_vret hX hR dX8_words_13 ⟨rfl, by simp only [ap_ap]; rfl⟩

set_option maxHeartbeats 4000000 in
set_option maxRecDepth 100000 in
theorem m_push (l : Launch) (D : va_G) (K : Nat → ClassId) (am : Nat) (A : Nat → Nat) (σ : MS) (x : Int32) (hr : Lo σ 2) : Mc l yX8_push (wM yX8_push cX8_push 2 none) (rmL 1 0 0) D (yY K) [.ref am, .int x] (mW K am A σ) (fun v w => v = none ∧ w = mW K am A (ap σ (bPush x))) 0 0 := by
  refine m_start (lv := [(0, .ref am), (1, .int x)]) rfl (Nat.le_of_ble_eq_true rfl) rfl (fun Γ hX hRm hnL hY hDD hLa hR hI hE => ?_)
  have hU : ∀ w ∈ wU, w ∈ wM yX8_push cX8_push 2 none := fun w h => wM_in h
  subst hLa
  subst hDD
  refine g_aload_n (n := 1) hX dX8_push_0 rfl rfl rfl ?_
  refine g_bipush (n := 3) (v := 16) hX dX8_push_1 rfl rfl ?_
  refine g_callV0 (n := 6) (As := [.int 16]) (rest := []) hX hE hU hY dX8_push_3 rfl yv_X8_u1 um_X8_138 (m_u1 _ _ K am A σ 16 (hr.le (by decide))) ⟨rfl, rfl⟩ (rm_le hRm rfl rfl) rfl (ci := 10) (q0 := 0) rfl rfl rfl rfl (Nat.le_of_ble_eq_true rfl) ⟨Nat.zero_le _, Nat.zero_le _⟩ (fun v0 w0 h0 => ?_)
  obtain ⟨rfl, rfl⟩ := h0
  show G Γ (mW K am A (ap σ ([16]))) 0 0 6 [(0, .ref am), (1, .int x)] []
  have hr : Lo (ap σ ([16])) 1 := hr.app (Nat.le_of_ble_eq_true rfl)
  refine g_aload_n (n := 7) hX dX8_push_6 rfl rfl rfl ?_
  refine g_iload_n (n := 8) hX dX8_push_7 rfl rfl rfl ?_
  refine g_callV0 (n := 11) (As := [.int x]) (rest := []) hX hE hU hY dX8_push_8 rfl yv_X8_u1 um_X8_138 (m_u1 _ _ K am A (ap σ ([16])) x (hr.le (by decide))) ⟨rfl, rfl⟩ (rm_le hRm rfl rfl) rfl (ci := 10) (q0 := 0) rfl rfl rfl rfl (Nat.le_of_ble_eq_true rfl) ⟨Nat.zero_le _, Nat.zero_le _⟩ (fun v0 w0 h0 => ?_)
  obtain ⟨rfl, rfl⟩ := h0
  show G Γ (mW K am A (ap (ap σ ([16])) ([x]))) 0 0 11 [(0, .ref am), (1, .int x)] []
  have hr : Lo (ap (ap σ ([16])) ([x])) 0 := hr.app (Nat.le_of_ble_eq_true rfl)
  exact g_vret hX hR dX8_push_11 ⟨rfl, by simp only [ap_ap]; rfl⟩

set_option maxHeartbeats 4000000 in
set_option maxRecDepth 100000 in
theorem m_load (l : Launch) (D : va_G) (K : Nat → ClassId) (am : Nat) (A : Nat → Nat) (σ : MS) (x : Int32) (hr : Lo σ 6) : Mc l yX8_load (wM yX8_load cX8_load 2 none) (rmL 3 0 0) D (yY K) [.ref am, .int x] (mW K am A σ) (fun v w => v = none ∧ w = mW K am A (ap σ (bLoad x))) 0 0 := by
  refine m_start (lv := [(0, .ref am), (1, .int x)]) rfl (Nat.le_of_ble_eq_true rfl) rfl (fun Γ hX hRm hnL hY hDD hLa hR hI hE => ?_)
  have hU : ∀ w ∈ wU, w ∈ wM yX8_load cX8_load 2 none := fun w h => wM_in h
  subst hLa
  subst hDD
  refine g_aload_n (n := 1) hX dX8_load_0 rfl rfl rfl ?_
  refine g_callV0 (n := 4) (As := []) (rest := []) hX hE hU hY dX8_load_1 rfl yv_X8_words um_X8_207 (m_words _ _ K am A σ  (hr.le (by decide))) ⟨rfl, rfl⟩ (rm_le hRm rfl rfl) rfl (ci := 10) (q0 := 0) rfl rfl rfl rfl (Nat.le_of_ble_eq_true rfl) ⟨Nat.zero_le _, Nat.zero_le _⟩ (fun v0 w0 h0 => ?_)
  obtain ⟨rfl, rfl⟩ := h0
  show G Γ (mW K am A (ap σ bWords)) 0 0 4 [(0, .ref am), (1, .int x)] []
  have hr : Lo (ap σ bWords) 3 := hr.app (Nat.le_of_ble_eq_true rfl)
  refine g_aload_n (n := 5) hX dX8_load_4 rfl rfl rfl ?_
  refine g_iload_n (n := 6) hX dX8_load_5 rfl rfl rfl ?_
  refine g_callV0 (n := 9) (As := [.int x]) (rest := []) hX hE hU hY dX8_load_6 rfl yv_X8_push um_X8_210 (m_push _ _ K am A (ap σ bWords) x (hr.le (by decide))) ⟨rfl, rfl⟩ (rm_le hRm rfl rfl) rfl (ci := 10) (q0 := 0) rfl rfl rfl rfl (Nat.le_of_ble_eq_true rfl) ⟨Nat.zero_le _, Nat.zero_le _⟩ (fun v0 w0 h0 => ?_)
  obtain ⟨rfl, rfl⟩ := h0
  show G Γ (mW K am A (ap (ap σ bWords) (bPush x))) 0 0 9 [(0, .ref am), (1, .int x)] []
  have hr : Lo (ap (ap σ bWords) (bPush x)) 1 := hr.app (Nat.le_of_ble_eq_true rfl)
  refine g_aload_n (n := 10) hX dX8_load_9 rfl rfl rfl ?_
  refine g_bipush (n := 12) (v := 51) hX dX8_load_10 rfl rfl ?_
  refine g_callV0 (n := 15) (As := [.int 51]) (rest := []) hX hE hU hY dX8_load_12 rfl yv_X8_u1 um_X8_138 (m_u1 _ _ K am A (ap (ap σ bWords) (bPush x)) 51 (hr.le (by decide))) ⟨rfl, rfl⟩ (rm_le hRm rfl rfl) rfl (ci := 10) (q0 := 0) rfl rfl rfl rfl (Nat.le_of_ble_eq_true rfl) ⟨Nat.zero_le _, Nat.zero_le _⟩ (fun v0 w0 h0 => ?_)
  obtain ⟨rfl, rfl⟩ := h0
  show G Γ (mW K am A (ap (ap (ap σ bWords) (bPush x)) ([51]))) 0 0 15 [(0, .ref am), (1, .int x)] []
  have hr : Lo (ap (ap (ap σ bWords) (bPush x)) ([51])) 0 := hr.app (Nat.le_of_ble_eq_true rfl)
  exact g_vret hX hR dX8_load_15 ⟨rfl, by simp only [ap_ap]; rfl⟩

set_option maxHeartbeats 4000000 in
set_option maxRecDepth 100000 in
theorem m_method (l : Launch) (D : va_G) (K : Nat → ClassId) (am : Nat) (A : Nat → Nat) (σ : MS) (a b c d x : Int32) (hr : Lo σ 22) : Mc l yX8_method (wM yX8_method cX8_method 6 none) (rmL 3 0 0) D (yY K) [.ref am, .int a, .int b, .int c, .int d, .int x] (mW K am A σ) (fun v w => v = none ∧ w = mW K am A (ap σ (bMethod a b c d x))) 0 0 := by
  refine m_start (lv := [(0, .ref am), (1, .int a), (2, .int b), (3, .int c), (4, .int d), (5, .int x)]) rfl (Nat.le_of_ble_eq_true rfl) rfl (fun Γ hX hRm hnL hY hDD hLa hR hI hE => ?_)
  have hU : ∀ w ∈ wU, w ∈ wM yX8_method cX8_method 6 none := fun w h => wM_in h
  subst hLa
  subst hDD
  refine g_aload_n (n := 1) hX dX8_method_0 rfl rfl rfl ?_
  refine g_bipush (n := 3) (v := 8) hX dX8_method_1 rfl rfl ?_
  refine g_callV0 (n := 6) (As := [.int 8]) (rest := []) hX hE hU hY dX8_method_3 rfl yv_X8_u2 um_X8_142 (m_u2 _ _ K am A σ 8 (hr.le (by decide))) ⟨rfl, rfl⟩ (rm_le hRm rfl rfl) rfl (ci := 10) (q0 := 0) rfl rfl rfl rfl (Nat.le_of_ble_eq_true rfl) ⟨Nat.zero_le _, Nat.zero_le _⟩ (fun v0 w0 h0 => ?_)
  obtain ⟨rfl, rfl⟩ := h0
  show G Γ (mW K am A (ap σ (b2 8))) 0 0 6 [(0, .ref am), (1, .int a), (2, .int b), (3, .int c), (4, .int d), (5, .int x)] []
  have hr : Lo (ap σ (b2 8)) 20 := hr.app (Nat.le_of_ble_eq_true rfl)
  refine g_aload_n (n := 7) hX dX8_method_6 rfl rfl rfl ?_
  refine g_iload_n (n := 8) hX dX8_method_7 rfl rfl rfl ?_
  refine g_callV0 (n := 11) (As := [.int a]) (rest := []) hX hE hU hY dX8_method_8 rfl yv_X8_u2 um_X8_142 (m_u2 _ _ K am A (ap σ (b2 8)) a (hr.le (by decide))) ⟨rfl, rfl⟩ (rm_le hRm rfl rfl) rfl (ci := 10) (q0 := 0) rfl rfl rfl rfl (Nat.le_of_ble_eq_true rfl) ⟨Nat.zero_le _, Nat.zero_le _⟩ (fun v0 w0 h0 => ?_)
  obtain ⟨rfl, rfl⟩ := h0
  show G Γ (mW K am A (ap (ap σ (b2 8)) (b2 a))) 0 0 11 [(0, .ref am), (1, .int a), (2, .int b), (3, .int c), (4, .int d), (5, .int x)] []
  have hr : Lo (ap (ap σ (b2 8)) (b2 a)) 18 := hr.app (Nat.le_of_ble_eq_true rfl)
  refine g_aload_n (n := 12) hX dX8_method_11 rfl rfl rfl ?_
  refine g_iload_n (n := 13) hX dX8_method_12 rfl rfl rfl ?_
  refine g_callV0 (n := 16) (As := [.int b]) (rest := []) hX hE hU hY dX8_method_13 rfl yv_X8_u2 um_X8_142 (m_u2 _ _ K am A (ap (ap σ (b2 8)) (b2 a)) b (hr.le (by decide))) ⟨rfl, rfl⟩ (rm_le hRm rfl rfl) rfl (ci := 10) (q0 := 0) rfl rfl rfl rfl (Nat.le_of_ble_eq_true rfl) ⟨Nat.zero_le _, Nat.zero_le _⟩ (fun v0 w0 h0 => ?_)
  obtain ⟨rfl, rfl⟩ := h0
  show G Γ (mW K am A (ap (ap (ap σ (b2 8)) (b2 a)) (b2 b))) 0 0 16 [(0, .ref am), (1, .int a), (2, .int b), (3, .int c), (4, .int d), (5, .int x)] []
  have hr : Lo (ap (ap (ap σ (b2 8)) (b2 a)) (b2 b)) 16 := hr.app (Nat.le_of_ble_eq_true rfl)
  refine g_aload_n (n := 17) hX dX8_method_16 rfl rfl rfl ?_
  refine g_iconst (n := 18) (v := 1) hX dX8_method_17 rfl rfl ?_
  refine g_callV0 (n := 21) (As := [.int 1]) (rest := []) hX hE hU hY dX8_method_18 rfl yv_X8_u2 um_X8_142 (m_u2 _ _ K am A (ap (ap (ap σ (b2 8)) (b2 a)) (b2 b)) 1 (hr.le (by decide))) ⟨rfl, rfl⟩ (rm_le hRm rfl rfl) rfl (ci := 10) (q0 := 0) rfl rfl rfl rfl (Nat.le_of_ble_eq_true rfl) ⟨Nat.zero_le _, Nat.zero_le _⟩ (fun v0 w0 h0 => ?_)
  obtain ⟨rfl, rfl⟩ := h0
  show G Γ (mW K am A (ap (ap (ap (ap σ (b2 8)) (b2 a)) (b2 b)) (b2 1))) 0 0 21 [(0, .ref am), (1, .int a), (2, .int b), (3, .int c), (4, .int d), (5, .int x)] []
  have hr : Lo (ap (ap (ap (ap σ (b2 8)) (b2 a)) (b2 b)) (b2 1)) 14 := hr.app (Nat.le_of_ble_eq_true rfl)
  refine g_aload_n (n := 22) hX dX8_method_21 rfl rfl rfl ?_
  refine g_bipush (n := 24) (v := 24) hX dX8_method_22 rfl rfl ?_
  refine g_callV0 (n := 27) (As := [.int 24]) (rest := []) hX hE hU hY dX8_method_24 rfl yv_X8_u2 um_X8_142 (m_u2 _ _ K am A (ap (ap (ap (ap σ (b2 8)) (b2 a)) (b2 b)) (b2 1)) 24 (hr.le (by decide))) ⟨rfl, rfl⟩ (rm_le hRm rfl rfl) rfl (ci := 10) (q0 := 0) rfl rfl rfl rfl (Nat.le_of_ble_eq_true rfl) ⟨Nat.zero_le _, Nat.zero_le _⟩ (fun v0 w0 h0 => ?_)
  obtain ⟨rfl, rfl⟩ := h0
  show G Γ (mW K am A (ap (ap (ap (ap (ap σ (b2 8)) (b2 a)) (b2 b)) (b2 1)) (b2 24))) 0 0 27 [(0, .ref am), (1, .int a), (2, .int b), (3, .int c), (4, .int d), (5, .int x)] []
  have hr : Lo (ap (ap (ap (ap (ap σ (b2 8)) (b2 a)) (b2 b)) (b2 1)) (b2 24)) 12 := hr.app (Nat.le_of_ble_eq_true rfl)
  refine g_aload_n (n := 28) hX dX8_method_27 rfl rfl rfl ?_
  refine g_bipush (n := 30) (v := 12) hX dX8_method_28 rfl rfl ?_
  refine g_iload (n := 32) hX dX8_method_30 rfl rfl ?_
  refine g_iadd (n := 33) (v := 12 + x) hX dX8_method_32 rfl rfl ?_
  refine g_callV0 (n := 36) (As := [.int (12 + x)]) (rest := []) hX hE hU hY dX8_method_33 rfl yv_X8_u4 um_X8_194 (m_u4 _ _ K am A (ap (ap (ap (ap (ap σ (b2 8)) (b2 a)) (b2 b)) (b2 1)) (b2 24)) (12 + x) (hr.le (by decide))) ⟨rfl, rfl⟩ (rm_le hRm rfl rfl) rfl (ci := 10) (q0 := 0) rfl rfl rfl rfl (Nat.le_of_ble_eq_true rfl) ⟨Nat.zero_le _, Nat.zero_le _⟩ (fun v0 w0 h0 => ?_)
  obtain ⟨rfl, rfl⟩ := h0
  show G Γ (mW K am A (ap (ap (ap (ap (ap (ap σ (b2 8)) (b2 a)) (b2 b)) (b2 1)) (b2 24)) (b4 (12 + x)))) 0 0 36 [(0, .ref am), (1, .int a), (2, .int b), (3, .int c), (4, .int d), (5, .int x)] []
  have hr : Lo (ap (ap (ap (ap (ap (ap σ (b2 8)) (b2 a)) (b2 b)) (b2 1)) (b2 24)) (b4 (12 + x))) 8 := hr.app (Nat.le_of_ble_eq_true rfl)
  refine g_aload_n (n := 37) hX dX8_method_36 rfl rfl rfl ?_
  refine g_iload_n (n := 38) hX dX8_method_37 rfl rfl rfl ?_
  refine g_callV0 (n := 41) (As := [.int c]) (rest := []) hX hE hU hY dX8_method_38 rfl yv_X8_u2 um_X8_142 (m_u2 _ _ K am A (ap (ap (ap (ap (ap (ap σ (b2 8)) (b2 a)) (b2 b)) (b2 1)) (b2 24)) (b4 (12 + x))) c (hr.le (by decide))) ⟨rfl, rfl⟩ (rm_le hRm rfl rfl) rfl (ci := 10) (q0 := 0) rfl rfl rfl rfl (Nat.le_of_ble_eq_true rfl) ⟨Nat.zero_le _, Nat.zero_le _⟩ (fun v0 w0 h0 => ?_)
  obtain ⟨rfl, rfl⟩ := h0
  show G Γ (mW K am A (ap (ap (ap (ap (ap (ap (ap σ (b2 8)) (b2 a)) (b2 b)) (b2 1)) (b2 24)) (b4 (12 + x))) (b2 c))) 0 0 41 [(0, .ref am), (1, .int a), (2, .int b), (3, .int c), (4, .int d), (5, .int x)] []
  have hr : Lo (ap (ap (ap (ap (ap (ap (ap σ (b2 8)) (b2 a)) (b2 b)) (b2 1)) (b2 24)) (b4 (12 + x))) (b2 c)) 6 := hr.app (Nat.le_of_ble_eq_true rfl)
  refine g_aload_n (n := 42) hX dX8_method_41 rfl rfl rfl ?_
  refine g_iload (n := 44) hX dX8_method_42 rfl rfl ?_
  refine g_callV0 (n := 47) (As := [.int d]) (rest := []) hX hE hU hY dX8_method_44 rfl yv_X8_u2 um_X8_142 (m_u2 _ _ K am A (ap (ap (ap (ap (ap (ap (ap σ (b2 8)) (b2 a)) (b2 b)) (b2 1)) (b2 24)) (b4 (12 + x))) (b2 c)) d (hr.le (by decide))) ⟨rfl, rfl⟩ (rm_le hRm rfl rfl) rfl (ci := 10) (q0 := 0) rfl rfl rfl rfl (Nat.le_of_ble_eq_true rfl) ⟨Nat.zero_le _, Nat.zero_le _⟩ (fun v0 w0 h0 => ?_)
  obtain ⟨rfl, rfl⟩ := h0
  show G Γ (mW K am A (ap (ap (ap (ap (ap (ap (ap (ap σ (b2 8)) (b2 a)) (b2 b)) (b2 1)) (b2 24)) (b4 (12 + x))) (b2 c)) (b2 d))) 0 0 47 [(0, .ref am), (1, .int a), (2, .int b), (3, .int c), (4, .int d), (5, .int x)] []
  have hr : Lo (ap (ap (ap (ap (ap (ap (ap (ap σ (b2 8)) (b2 a)) (b2 b)) (b2 1)) (b2 24)) (b4 (12 + x))) (b2 c)) (b2 d)) 4 := hr.app (Nat.le_of_ble_eq_true rfl)
  refine g_aload_n (n := 48) hX dX8_method_47 rfl rfl rfl ?_
  refine g_iload (n := 50) hX dX8_method_48 rfl rfl ?_
  refine g_callV0 (n := 53) (As := [.int x]) (rest := []) hX hE hU hY dX8_method_50 rfl yv_X8_u4 um_X8_194 (m_u4 _ _ K am A (ap (ap (ap (ap (ap (ap (ap (ap σ (b2 8)) (b2 a)) (b2 b)) (b2 1)) (b2 24)) (b4 (12 + x))) (b2 c)) (b2 d)) x (hr.le (by decide))) ⟨rfl, rfl⟩ (rm_le hRm rfl rfl) rfl (ci := 10) (q0 := 0) rfl rfl rfl rfl (Nat.le_of_ble_eq_true rfl) ⟨Nat.zero_le _, Nat.zero_le _⟩ (fun v0 w0 h0 => ?_)
  obtain ⟨rfl, rfl⟩ := h0
  show G Γ (mW K am A (ap (ap (ap (ap (ap (ap (ap (ap (ap σ (b2 8)) (b2 a)) (b2 b)) (b2 1)) (b2 24)) (b4 (12 + x))) (b2 c)) (b2 d)) (b4 x))) 0 0 53 [(0, .ref am), (1, .int a), (2, .int b), (3, .int c), (4, .int d), (5, .int x)] []
  have hr : Lo (ap (ap (ap (ap (ap (ap (ap (ap (ap σ (b2 8)) (b2 a)) (b2 b)) (b2 1)) (b2 24)) (b4 (12 + x))) (b2 c)) (b2 d)) (b4 x)) 0 := hr.app (Nat.le_of_ble_eq_true rfl)
  exact g_vret hX hR dX8_method_53 ⟨rfl, by simp only [ap_ap]; rfl⟩
end
section
/-! the bytes of a class file, as numbers whose lowest eight bits count; both sides are held against these -/
abbrev PR : Type := Nat → Int32 × Int32 × Int32
def opOk (o : Int32) : Prop := 0 ≤ o.toInt ∧ o.toInt ≤ 13
def goN (b f l : Int32) : Nat := if f ≤ b ∧ b ≤ l then 3 else 4
def lnO (o b f l : Int32) : Nat := if o = 0 then 8 else if o = 1 then 12 else if o = 7 then 16 else if o = 13 then 16 else if o = 8 then 9 + goN b f l else if o = 9 then goN b f l else if o = 10 then 5 else if o = 11 then 5 else if o = 12 then 5 else 20
def sumR (g : Nat → Nat) (f : Nat) : Nat → Nat
  | 0 => 0
  | k + 1 => sumR g f k + g (f + k)
def lnR (pr : PR) (f l r : Nat) : Nat := lnO (pr r).1 (pr r).2.2 (nI f) (nI l)
def bg (pr : PR) (f l row : Nat) : Nat := 16 + 4 * (l - f + 1) + sumR (lnR pr f l) f (row - f)
def bGo (pr : PR) (f l : Nat) (b : Int32) (fr : Nat) : List Int32 := if nI f ≤ b ∧ b ≤ nI l then [167] ++ b2 (nI (bg pr f l b.toNatClampNeg) - nI fr) else [17] ++ b2 b ++ [172]
def bRow (pr : PR) (f l r : Nat) : List Int32 :=
  if (pr r).1 = 0 then bWords ++ bPush (pr r).2.1 ++ bPush (pr r).2.2 ++ [84]
  else if (pr r).1 = 1 then bWords ++ bPush (pr r).2.1 ++ bLoad (pr r).2.2 ++ [84]
  else if (pr r).1 = 7 then bWords ++ bLoad (pr r).2.1 ++ bLoad (pr r).2.2 ++ [84]
  else if (pr r).1 = 8 then bLoad (pr r).2.1 ++ [154] ++ b2 (nI (3 + goN (pr r).2.2 (nI f) (nI l))) ++ bGo pr f l (pr r).2.2 (bg pr f l r + 9)
  else if (pr r).1 = 9 then bGo pr f l (pr r).2.2 (bg pr f l r)
  else if (pr r).1 = 10 then bPush (pr r).2.1 ++ [184] ++ b2 14
  else if (pr r).1 = 11 then bPush (pr r).2.1 ++ [184] ++ b2 17
  else if (pr r).1 = 12 then bPush (pr r).2.1 ++ [184] ++ b2 20
  else if (pr r).1 = 13 then bLoad (pr r).2.1 ++ bPush (pr r).2.2 ++ [164] ++ b2 8 ++ bPush (pr r).2.1 ++ [184] ++ b2 23
  else bWords ++ bPush (pr r).2.1 ++ bLoad (pr r).2.1 ++ bLoad (pr r).2.2 ++ [88 + 4 * (pr r).1] ++ [145] ++ [84]
/-- lists one behind another: g f ++ g (f + 1) ++ .., k of them -/
def catR (g : Nat → List Int32) (f : Nat) : Nat → List Int32
  | 0 => []
  | k + 1 => catR g f k ++ g (f + k)
def bEnd (pr : PR) (f l : Nat) : Nat := bg pr f l (l + 1)
def bMember (pr : PR) (k l : Nat) : List Int32 :=
  bMethod (nI (28 + k)) 25 5 1 (nI (bEnd pr (10 * k + 1) l + 4)) ++ [26] ++ [170] ++ b2 0 ++ b4 (nI (bEnd pr (10 * k + 1) l - 1)) ++ b4 (nI (10 * k + 1)) ++ b4 (nI l) ++
  catR (fun r => b4 (nI (bg pr (10 * k + 1) l r - 1))) (10 * k + 1) (l - 10 * k) ++ catR (bRow pr (10 * k + 1) l) (10 * k + 1) (l - 10 * k) ++ [17] ++ b2 (nI (l + 1)) ++ [172] ++ b4 0
/-- a long's signs from its highest byte on, without those that are 0 -/
def sgL (s : Int64) : Nat → List Int32
  | 0 => []
  | j + 1 => (if s >>> ((nI (8 * j)).toInt64 &&& 63) &&& 255 = 0 then [] else [(s >>> ((nI (8 * j)).toInt64 &&& 63)).toInt32]) ++ sgL s j
def bUtf (f s : Int64) : List Int32 := [1] ++ b2 (nI ((sgL f 8).length + (sgL s 8).length)) ++ sgL f 8 ++ sgL s 8
def nmL (c n : Int32) : Int64 := if 10 ≤ n then c.toInt64 <<< ((16 : Int32).toInt64 &&& 63) ||| ((48 + n / 10) <<< ((8 : Int32) &&& 31)).toInt64 ||| (48 + (n - n / 10 * 10)).toInt64 else c.toInt64 <<< ((8 : Int32).toInt64 &&& 63) ||| (48 + n).toInt64
def bNm (c : Int32) (n : Nat) : List Int32 := bUtf (nmL c (nI n)) 0
def bConst (p mem : Nat) : List Int32 :=
  b2 (nI (28 + mem)) ++ bNm 80 p ++ bClassed 1 ++ bUtf 7665538200540832110 7435248793922397044 ++ bClassed 3 ++ bUtf 87 0 ++ bUtf 23362 0 ++ bPair 12 5 6 ++ bPair 9 2 7 ++ bUtf 75 0 ++ bClassed 9 ++ bUtf 1667329132 0 ++ bUtf 675883350 0 ++ bPair 12 11 12 ++ bPair 10 10 13 ++ bUtf 1835102827 0 ++ bPair 12 15 12 ++ bPair 10 10 16 ++ bUtf 1937010544 0 ++ bPair 12 18 12 ++ bPair 10 10 19 ++ bUtf 1936292453 0 ++ bPair 12 21 12 ++ bPair 10 10 22 ++ bUtf 1131373669 0 ++ bUtf 675883337 0 ++ bUtf 4351440865049801790 0 ++ bUtf 2632022 0 ++ catR (bNm 109) 0 mem
def bFace (mem : Nat) : List Int32 := b2 33 ++ b2 2 ++ b2 4 ++ b2 0 ++ b2 1 ++ b2 8 ++ b2 5 ++ b2 6 ++ b2 0 ++ b2 (nI (1 + mem))
def bStart (fails z : Int32) : List Int32 := bMethod 26 27 2 0 (if fails = 0 then 8 else 12) ++ (if fails = 0 then [] else b4 50555991) ++ bPush z ++ [188] ++ [8] ++ [179] ++ b2 8 ++ [177] ++ b4 0
def bMems (pr : PR) (n : Nat) : List Int32 := catR (fun k => bMember pr k (if n < 10 * k + 10 then n else 10 * k + 10)) 0 ((n + 9) / 10)
def bFile (p : Nat) (fails z : Int32) (pr : PR) (n : Nat) : List Int32 := b4 (-889275714) ++ b2 0 ++ b2 46 ++ bConst p ((n + 9) / 10) ++ bFace ((n + 9) / 10) ++ bStart fails z ++ bMems pr n ++ b2 0
/-- a program's rows in the reference's arrays -/
def prO (σ : MS) (p : Nat) : PR := fun r => (σ.1 2 (60 * p + r), σ.1 3 (60 * p + r), σ.1 4 (60 * p + r))
theorem prO_ap (σ : MS) (bs : List Int32) (p : Nat) : prO (ap σ bs) p = prO σ p := by
  funext r
  simp only [prO, ap_arr σ bs (show (2 : Nat) ≠ 24 by decide), ap_arr σ bs (show (3 : Nat) ≠ 24 by decide), ap_arr σ bs (show (4 : Nat) ≠ 24 by decide)]
theorem sgL_len (s : Int64) : ∀ j : Nat, (sgL s j).length ≤ j
  | 0 => Nat.le_refl 0
  | j + 1 => by
    have := sgL_len s j
    unfold sgL
    split <;> simp <;> omega
theorem bUtf_len (f s : Int64) : (bUtf f s).length ≤ 19 := by
  have h1 := sgL_len f 8
  have h2 := sgL_len s 8
  simp only [bUtf, List.length_append, b2, List.length_cons, List.length_nil]
  omega
theorem goN_le (b f l : Int32) : 3 ≤ goN b f l ∧ goN b f l ≤ 4 := by unfold goN; split <;> omega
theorem lnO_le (o b f l : Int32) : 3 ≤ lnO o b f l ∧ lnO o b f l ≤ 20 := by
  have := goN_le b f l
  unfold lnO
  repeat' split
  all_goals omega
theorem sumR_le {g : Nat → Nat} {m : Nat} (h : ∀ r, g r ≤ m) (f : Nat) : ∀ k : Nat, sumR g f k ≤ m * k
  | 0 => Nat.zero_le _
  | k + 1 => by
    have h1 := sumR_le h f k
    have h2 := h (f + k)
    simp only [sumR, Nat.mul_add, Nat.mul_one]
    omega
theorem bg_le (pr : PR) {f l row : Nat} (h : row - f ≤ 10) (hl : l - f ≤ 9) : bg pr f l row ≤ 256 := by
  have := sumR_le (g := lnR pr f l) (m := 20) (fun r => (lnO_le _ _ _ _).2) f (row - f)
  unfold bg
  omega
theorem bGo_len (pr : PR) (f l : Nat) (b : Int32) (fr : Nat) : (bGo pr f l b fr).length = goN b (nI f) (nI l) := by
  unfold bGo goN
  split <;> rfl
theorem bLoad_len (x : Int32) : (bLoad x).length = 6 := rfl
theorem b2_len (x : Int32) : (b2 x).length = 2 := rfl
theorem bRow_len (pr : PR) (f l r : Nat) : (bRow pr f l r).length = lnR pr f l r := by
  unfold bRow lnR lnO
  by_cases h8 : (pr r).1 = 8
  · rw [h8]
    simp only [show ¬ (8 : Int32) = 0 by decide, show ¬ (8 : Int32) = 1 by decide, show ¬ (8 : Int32) = 7 by decide, show ¬ (8 : Int32) = 13 by decide, if_false, if_true]
    rw [List.length_append, List.length_append, List.length_append, bGo_len, bLoad_len, b2_len]
    simp only [List.length_cons, List.length_nil]
  · by_cases h9 : (pr r).1 = 9
    · rw [h9]
      simp only [show ¬ (9 : Int32) = 0 by decide, show ¬ (9 : Int32) = 1 by decide, show ¬ (9 : Int32) = 7 by decide, show ¬ (9 : Int32) = 13 by decide, show ¬ (9 : Int32) = 8 by decide, if_false, if_true]
      exact bGo_len _ _ _ _ _
    · rw [if_neg h8, if_neg h8, if_neg h9, if_neg h9]
      repeat' split
      all_goals first | rfl | (exfalso; simp_all; done)
theorem catR_len {g : Nat → List Int32} {m : Nat} (h : ∀ r, (g r).length ≤ m) (f : Nat) : ∀ k : Nat, (catR g f k).length ≤ m * k
  | 0 => Nat.zero_le _
  | k + 1 => by
    have h1 := catR_len h f k
    have h2 := h (f + k)
    simp only [catR, List.length_append, Nat.mul_add, Nat.mul_one]
    omega
end
section
theorem g_pick {Γ : gT} {ws : va_W} {kc ks pc : Nat} {lv lv' : List (Nat × Value)} {st : List Value} (is : List Nat) (h : is.filterMap (fun i => lv[i]?) = lv') (k : G Γ ws kc ks pc lv' st) : G Γ ws kc ks pc lv st :=
  g_lv (fun q hq => by
    rw [← h] at hq
    obtain ⟨i, -, hi⟩ := List.mem_filterMap.mp hq
    exact List.mem_of_getElem? hi) k
theorem bI_z {c : Prop} [Decidable c] : bI c = 0 ↔ ¬ c := by unfold bI; split <;> simp_all
theorem lg0 {x y : Int64} : lg_cmp x y = 0 ↔ x = y := by
  unfold lg_cmp
  constructor
  · intro h
    split at h
    · exact absurd h (by decide)
    · split at h
      · assumption
      · exact absurd h (by decide)
  · intro h
    subst h
    have : ¬ x < x := Int64.lt_irrefl
    simp [this]
def sk : Nat → Int32
  | 0 => -8
  | j + 1 => nI (8 * j)
theorem sk_dec (j : Nat) : nI (8 * j) + (-8) = sk j := by
  cases j with
  | zero => rfl
  | succ j =>
    show nI (8 * (j + 1)) + (-8) = nI (8 * j)
    rw [show 8 * (j + 1) = 8 * j + 8 by omega, ← nI_add]
    rw [Int32.add_assoc]
    rw [show nI 8 + (-8) = 0 from rfl, Int32.add_zero]
theorem nI_sub1 {a : Nat} (h : 1 ≤ a) : nI a - 1 = nI (a - 1) := pk_sub (b := 1) h
set_option maxHeartbeats 4000000 in
set_option maxRecDepth 100000 in
theorem m_going (l : Launch) (D : va_G) (K : Nat → ClassId) (am : Nat) (A : Nat → Nat) (σ : MS) (b f l2 : Int32) : Mc l yX8_going (wM yX8_going cX8_going 4 (some .int)) (rmL 1 0 0) D (yY K) [.ref am, .int b, .int f, .int l2] (mW K am A σ) (fun v w => v = some (.int (nI (goN b f l2))) ∧ w = mW K am A σ) 0 0 := by
  refine m_start (lv := [(0, .ref am), (1, .int b), (2, .int f), (3, .int l2)]) rfl (Nat.le_of_ble_eq_true rfl) rfl (fun Γ hX hRm hnL hY hDD hLa hR hI hE => ?_)
  have hU : ∀ w ∈ wU, w ∈ wM yX8_going cX8_going 4 (some .int) := fun w h => wM_in h
  subst hLa
  subst hDD
  refine g_iload_n (n := 1) hX dX8_going_0 rfl rfl rfl ?_
  refine g_iload_n (n := 2) hX dX8_going_1 rfl rfl rfl ?_
  refine g_iload_n (n := 3) hX dX8_going_2 rfl rfl rfl ?_
  refine g_callS0 (n := 6) (As := [.int b, .int f, .int l2]) (rest := []) hX hE hU hY dX8_going_3 rfl ys_X8_isWithin um_X8_197 (m_isWithin _ _ K (mW K am A σ) b f l2) ⟨rfl, rfl⟩ (rm_le hRm rfl rfl) rfl rfl (Nat.le_of_ble_eq_true rfl) ⟨Nat.zero_le _, Nat.zero_le _⟩ (fun v0 w0 h0 => ?_)
  obtain ⟨rfl, rfl⟩ := h0
  show G Γ (mW K am A σ) 0 0 6 [(0, .ref am), (1, .int b), (2, .int f), (3, .int l2)] [.int (bI (f ≤ b ∧ b ≤ l2))]
  refine g_if_eq (n := 9) (tgt := 13) hX dX8_going_6 rfl (by decide) (fun c6 => ?_) (fun c6 => ?_)
  · have c6 := bI_z.mp c6
    refine g_iconst (n := 14) (v := 4) hX dX8_going_13 rfl rfl ?_
    exact g_iret hX hR dX8_going_14 ⟨by rw [goN, if_neg c6]; rfl, rfl⟩
  · have c6 := fun h9 => c6 (bI_z.mpr h9)
    refine g_iconst (n := 10) (v := 3) hX dX8_going_9 rfl rfl ?_
    refine g_goto (n := 14) hX dX8_going_10 (by decide) ?_
    exact g_iret hX hR dX8_going_14 ⟨by rw [goN, if_pos (Decidable.of_not_not c6)]; rfl, rfl⟩

set_option maxHeartbeats 4000000 in
set_option maxRecDepth 100000 in
theorem m_bytesOf (l : Launch) (D : va_G) (K : Nat → ClassId) (am : Nat) (A : Nat → Nat) (σ : MS) (at0 : Nat) (f l2 : Int32) (hat : at0 < 793) (ho : opOk (σ.1 2 at0)) : Mc l yX8_bytesOf (wM yX8_bytesOf cX8_bytesOf 4 (some .int)) (rmL 2 0 0) D (yY K) [.ref am, .int (nI at0), .int f, .int l2] (mW K am A σ) (fun v w => v = some (.int (nI (lnO (σ.1 2 at0) (σ.1 4 at0) f l2))) ∧ w = mW K am A σ) 0 0 := by
  refine m_start (lv := [(0, .ref am), (1, .int (nI at0)), (2, .int f), (3, .int l2)]) rfl (Nat.le_of_ble_eq_true rfl) rfl (fun Γ hX hRm hnL hY hDD hLa hR hI hE => ?_)
  have hU : ∀ w ∈ wU, w ∈ wM yX8_bytesOf cX8_bytesOf 4 (some .int) := fun w h => wM_in h
  subst hLa
  subst hDD
  refine g_aload_n (n := 1) hX dX8_bytesOf_0 rfl rfl rfl ?_
  refine g_mget (n := 4) 6 (v := .ref (A 2)) hX hU dX8_bytesOf_1 rfl uf_X8_16 rfl rfl rfl ?_
  refine g_iload_n (n := 5) hX dX8_bytesOf_4 rfl rfl rfl ?_
  refine g_mild (n := 6) 2 (v := σ.1 2 (at0)) hX hY dX8_bytesOf_5 rfl rfl rfl (vp_in_nI (show at0 < mN 2 by show at0 < 793; omega) (by decide)) (congrArg (σ.1 2) (nI_clamp (by omega))) ?_
  rcases sw_split (σ.1 2 (at0)) (0) (13) with hsw | hsw
  · refine g_tableOut (n := 116) hX dX8_bytesOf_6 hsw (by decide) ?_
    refine g_bipush (n := 118) (v := 20) hX dX8_bytesOf_116 rfl rfl ?_
    exact g_iret hX hR dX8_bytesOf_118 (absurd hsw (by have := ho.1; have := ho.2; omega))
  · obtain ⟨kz, hk1, hk2⟩ := hsw
    rcases (show kz = (0 : Int) ∨ kz = (1 : Int) ∨ kz = (2 : Int) ∨ kz = (3 : Int) ∨ kz = (4 : Int) ∨ kz = (5 : Int) ∨ kz = (6 : Int) ∨ kz = (7 : Int) ∨ kz = (8 : Int) ∨ kz = (9 : Int) ∨ kz = (10 : Int) ∨ kz = (11 : Int) ∨ kz = (12 : Int) ∨ kz = (13 : Int) by omega) with hkz | hkz | hkz | hkz | hkz | hkz | hkz | hkz | hkz | hkz | hkz | hkz | hkz | hkz
    · have hxe : σ.1 2 (at0) = (0 : Int32) := sw_val (hkz ▸ hk1) (by decide)
      refine g_tableIn (n := 76) (off := 70) hX dX8_bytesOf_6 (by rw [hxe]; decide) (by rw [hxe]; decide) (by rw [hxe]; rfl) (by decide) ?_
      refine g_bipush (n := 78) (v := 8) hX dX8_bytesOf_76 rfl rfl ?_
      exact g_iret hX hR dX8_bytesOf_78 ⟨by rw [lnO, hxe]; rfl, rfl⟩
    · have hxe : σ.1 2 (at0) = (1 : Int32) := sw_val (hkz ▸ hk1) (by decide)
      refine g_tableIn (n := 79) (off := 73) hX dX8_bytesOf_6 (by rw [hxe]; decide) (by rw [hxe]; decide) (by rw [hxe]; rfl) (by decide) ?_
      refine g_bipush (n := 81) (v := 12) hX dX8_bytesOf_79 rfl rfl ?_
      exact g_iret hX hR dX8_bytesOf_81 ⟨by rw [lnO, hxe]; rfl, rfl⟩
    · have hxe : σ.1 2 (at0) = (2 : Int32) := sw_val (hkz ▸ hk1) (by decide)
      refine g_tableIn (n := 116) (off := 110) hX dX8_bytesOf_6 (by rw [hxe]; decide) (by rw [hxe]; decide) (by rw [hxe]; rfl) (by decide) ?_
      refine g_bipush (n := 118) (v := 20) hX dX8_bytesOf_116 rfl rfl ?_
      exact g_iret hX hR dX8_bytesOf_118 ⟨by rw [lnO, hxe]; rfl, rfl⟩
    · have hxe : σ.1 2 (at0) = (3 : Int32) := sw_val (hkz ▸ hk1) (by decide)
      refine g_tableIn (n := 116) (off := 110) hX dX8_bytesOf_6 (by rw [hxe]; decide) (by rw [hxe]; decide) (by rw [hxe]; rfl) (by decide) ?_
      refine g_bipush (n := 118) (v := 20) hX dX8_bytesOf_116 rfl rfl ?_
      exact g_iret hX hR dX8_bytesOf_118 ⟨by rw [lnO, hxe]; rfl, rfl⟩
    · have hxe : σ.1 2 (at0) = (4 : Int32) := sw_val (hkz ▸ hk1) (by decide)
      refine g_tableIn (n := 116) (off := 110) hX dX8_bytesOf_6 (by rw [hxe]; decide) (by rw [hxe]; decide) (by rw [hxe]; rfl) (by decide) ?_
      refine g_bipush (n := 118) (v := 20) hX dX8_bytesOf_116 rfl rfl ?_
      exact g_iret hX hR dX8_bytesOf_118 ⟨by rw [lnO, hxe]; rfl, rfl⟩
    · have hxe : σ.1 2 (at0) = (5 : Int32) := sw_val (hkz ▸ hk1) (by decide)
      refine g_tableIn (n := 116) (off := 110) hX dX8_bytesOf_6 (by rw [hxe]; decide) (by rw [hxe]; decide) (by rw [hxe]; rfl) (by decide) ?_
      refine g_bipush (n := 118) (v := 20) hX dX8_bytesOf_116 rfl rfl ?_
      exact g_iret hX hR dX8_bytesOf_118 ⟨by rw [lnO, hxe]; rfl, rfl⟩
    · have hxe : σ.1 2 (at0) = (6 : Int32) := sw_val (hkz ▸ hk1) (by decide)
      refine g_tableIn (n := 116) (off := 110) hX dX8_bytesOf_6 (by rw [hxe]; decide) (by rw [hxe]; decide) (by rw [hxe]; rfl) (by decide) ?_
      refine g_bipush (n := 118) (v := 20) hX dX8_bytesOf_116 rfl rfl ?_
      exact g_iret hX hR dX8_bytesOf_118 ⟨by rw [lnO, hxe]; rfl, rfl⟩
    · have hxe : σ.1 2 (at0) = (7 : Int32) := sw_val (hkz ▸ hk1) (by decide)
      refine g_tableIn (n := 82) (off := 76) hX dX8_bytesOf_6 (by rw [hxe]; decide) (by rw [hxe]; decide) (by rw [hxe]; rfl) (by decide) ?_
      refine g_bipush (n := 84) (v := 16) hX dX8_bytesOf_82 rfl rfl ?_
      exact g_iret hX hR dX8_bytesOf_84 ⟨by rw [lnO, hxe]; rfl, rfl⟩
    · have hxe : σ.1 2 (at0) = (8 : Int32) := sw_val (hkz ▸ hk1) (by decide)
      refine g_tableIn (n := 85) (off := 79) hX dX8_bytesOf_6 (by rw [hxe]; decide) (by rw [hxe]; decide) (by rw [hxe]; rfl) (by decide) ?_
      refine g_bipush (n := 87) (v := 9) hX dX8_bytesOf_85 rfl rfl ?_
      refine g_aload_n (n := 88) hX dX8_bytesOf_87 rfl rfl rfl ?_
      refine g_aload_n (n := 89) hX dX8_bytesOf_88 rfl rfl rfl ?_
      refine g_mget (n := 92) 8 (v := .ref (A 4)) hX hU dX8_bytesOf_89 rfl uf_X8_22 rfl rfl rfl ?_
      refine g_iload_n (n := 93) hX dX8_bytesOf_92 rfl rfl rfl ?_
      refine g_mild (n := 94) 4 (v := σ.1 4 (at0)) hX hY dX8_bytesOf_93 rfl rfl rfl (vp_in_nI (show at0 < mN 4 by show at0 < 793; omega) (by decide)) (congrArg (σ.1 4) (nI_clamp (by omega))) ?_
      refine g_iload_n (n := 95) hX dX8_bytesOf_94 rfl rfl rfl ?_
      refine g_iload_n (n := 96) hX dX8_bytesOf_95 rfl rfl rfl ?_
      refine g_callV0 (n := 99) (As := [.int (σ.1 4 (at0)), .int f, .int l2]) (rest := [.int 9]) hX hE hU hY dX8_bytesOf_96 rfl yv_X8_going um_X8_200 (m_going _ _ K am A σ (σ.1 4 (at0)) f l2) ⟨rfl, rfl⟩ (rm_le hRm rfl rfl) rfl (ci := 10) (q0 := 0) rfl rfl rfl rfl (Nat.le_of_ble_eq_true rfl) ⟨Nat.zero_le _, Nat.zero_le _⟩ (fun v0 w0 h0 => ?_)
      obtain ⟨rfl, rfl⟩ := h0
      show G Γ (mW K am A σ) 0 0 99 [(0, .ref am), (1, .int (nI at0)), (2, .int f), (3, .int l2)] [.int (nI (goN (σ.1 4 (at0)) f l2)), .int 9]
      refine g_iadd (n := 100) (v := nI (9 + goN (σ.1 4 at0) f l2)) hX dX8_bytesOf_99 rfl (nI_add 9 _) ?_
      exact g_iret hX hR dX8_bytesOf_100 ⟨by rw [lnO, hxe]; rfl, rfl⟩
    · have hxe : σ.1 2 (at0) = (9 : Int32) := sw_val (hkz ▸ hk1) (by decide)
      refine g_tableIn (n := 101) (off := 95) hX dX8_bytesOf_6 (by rw [hxe]; decide) (by rw [hxe]; decide) (by rw [hxe]; rfl) (by decide) ?_
      refine g_aload_n (n := 102) hX dX8_bytesOf_101 rfl rfl rfl ?_
      refine g_aload_n (n := 103) hX dX8_bytesOf_102 rfl rfl rfl ?_
      refine g_mget (n := 106) 8 (v := .ref (A 4)) hX hU dX8_bytesOf_103 rfl uf_X8_22 rfl rfl rfl ?_
      refine g_iload_n (n := 107) hX dX8_bytesOf_106 rfl rfl rfl ?_
      refine g_mild (n := 108) 4 (v := σ.1 4 (at0)) hX hY dX8_bytesOf_107 rfl rfl rfl (vp_in_nI (show at0 < mN 4 by show at0 < 793; omega) (by decide)) (congrArg (σ.1 4) (nI_clamp (by omega))) ?_
      refine g_iload_n (n := 109) hX dX8_bytesOf_108 rfl rfl rfl ?_
      refine g_iload_n (n := 110) hX dX8_bytesOf_109 rfl rfl rfl ?_
      refine g_callV0 (n := 113) (As := [.int (σ.1 4 (at0)), .int f, .int l2]) (rest := []) hX hE hU hY dX8_bytesOf_110 rfl yv_X8_going um_X8_200 (m_going _ _ K am A σ (σ.1 4 (at0)) f l2) ⟨rfl, rfl⟩ (rm_le hRm rfl rfl) rfl (ci := 10) (q0 := 0) rfl rfl rfl rfl (Nat.le_of_ble_eq_true rfl) ⟨Nat.zero_le _, Nat.zero_le _⟩ (fun v0 w0 h0 => ?_)
      obtain ⟨rfl, rfl⟩ := h0
      show G Γ (mW K am A σ) 0 0 113 [(0, .ref am), (1, .int (nI at0)), (2, .int f), (3, .int l2)] [.int (nI (goN (σ.1 4 (at0)) f l2))]
      exact g_iret hX hR dX8_bytesOf_113 ⟨by rw [lnO, hxe]; rfl, rfl⟩
    · have hxe : σ.1 2 (at0) = (10 : Int32) := sw_val (hkz ▸ hk1) (by decide)
      refine g_tableIn (n := 114) (off := 108) hX dX8_bytesOf_6 (by rw [hxe]; decide) (by rw [hxe]; decide) (by rw [hxe]; rfl) (by decide) ?_
      refine g_iconst (n := 115) (v := 5) hX dX8_bytesOf_114 rfl rfl ?_
      exact g_iret hX hR dX8_bytesOf_115 ⟨by rw [lnO, hxe]; rfl, rfl⟩
    · have hxe : σ.1 2 (at0) = (11 : Int32) := sw_val (hkz ▸ hk1) (by decide)
      refine g_tableIn (n := 114) (off := 108) hX dX8_bytesOf_6 (by rw [hxe]; decide) (by rw [hxe]; decide) (by rw [hxe]; rfl) (by decide) ?_
      refine g_iconst (n := 115) (v := 5) hX dX8_bytesOf_114 rfl rfl ?_
      exact g_iret hX hR dX8_bytesOf_115 ⟨by rw [lnO, hxe]; rfl, rfl⟩
    · have hxe : σ.1 2 (at0) = (12 : Int32) := sw_val (hkz ▸ hk1) (by decide)
      refine g_tableIn (n := 114) (off := 108) hX dX8_bytesOf_6 (by rw [hxe]; decide) (by rw [hxe]; decide) (by rw [hxe]; rfl) (by decide) ?_
      refine g_iconst (n := 115) (v := 5) hX dX8_bytesOf_114 rfl rfl ?_
      exact g_iret hX hR dX8_bytesOf_115 ⟨by rw [lnO, hxe]; rfl, rfl⟩
    · have hxe : σ.1 2 (at0) = (13 : Int32) := sw_val (hkz ▸ hk1) (by decide)
      refine g_tableIn (n := 82) (off := 76) hX dX8_bytesOf_6 (by rw [hxe]; decide) (by rw [hxe]; decide) (by rw [hxe]; rfl) (by decide) ?_
      refine g_bipush (n := 84) (v := 16) hX dX8_bytesOf_82 rfl rfl ?_
      exact g_iret hX hR dX8_bytesOf_84 ⟨by rw [lnO, hxe]; rfl, rfl⟩

set_option maxHeartbeats 4000000 in
set_option maxRecDepth 100000 in
theorem lp_begins {Γ : gT} {K : Nat → ClassId} {am : Nat} {A : Nat → Nat} (hX : gOk Γ cX8_begins (wM yX8_begins cX8_begins 7 (some .int)) RX8) (hE : gEv Γ) (hRm : gRm Γ = rmL 3 0 0) (hnL : gnL Γ = 7) (hY : gY Γ = yY K) (σ : MS) (p row f l2 : Nat) (hp : p ≤ 12) (h1 : 1 ≤ f) (h2 : f ≤ row) (h3 : row ≤ l2 + 1) (h4 : l2 ≤ 60) (h5 : f ≤ l2) (ho : ∀ r, f ≤ r → r < row → opOk (σ.1 2 (60 * p + r))) (hR : gRet Γ (some .int) (fun v w => v = some (.int (nI (bg (prO σ p) f l2 row))) ∧ w = mW K am A σ) 0 0) : ∀ (k r n : Nat), row - r ≤ k → f ≤ r → r ≤ row → n = 16 + 4 * (l2 - f + 1) + sumR (lnR (prO σ p) f l2) f (r - f) → G Γ (mW K am A σ) 0 0 16 [(6, .int (nI r)), (5, .int (nI n)), (0, .ref am), (1, .int (nI p)), (2, .int (nI row)), (3, .int (nI f)), (4, .int (nI l2))] [] := by
  have hU : ∀ w ∈ wU, w ∈ wM yX8_begins cX8_begins 7 (some .int) := fun w h => wM_in h
  intro k
  induction k with
  | zero =>
    intro r n hk hr1 hr2 en
    refine g_iload (n := 18) hX dX8_begins_16 rfl rfl ?_
    refine g_iload_n (n := 19) hX dX8_begins_18 rfl rfl rfl ?_
    refine g_icmp_ge (n := 22) (tgt := 47) hX dX8_begins_19 rfl (by decide) (fun c19 => ?_) (fun c19 => absurd (nI_le (a := row) (b := r) (by omega) (by omega)) c19)
    refine g_iload (n := 49) hX dX8_begins_47 rfl rfl ?_
    exact g_iret hX hR dX8_begins_49 ⟨by rw [en, show r = row by omega]; rfl, rfl⟩
  | succ k ih =>
    intro r n hk hr1 hr2 en
    by_cases hrr : r = row
    · subst hrr
      refine g_iload (n := 18) hX dX8_begins_16 rfl rfl ?_
      refine g_iload_n (n := 19) hX dX8_begins_18 rfl rfl rfl ?_
      refine g_icmp_ge (n := 22) (tgt := 47) hX dX8_begins_19 rfl (by decide) (fun c19 => ?_) (fun c19 => absurd (nI_le (a := r) (b := r) (by omega) (by omega)) c19)
      refine g_iload (n := 49) hX dX8_begins_47 rfl rfl ?_
      exact g_iret hX hR dX8_begins_49 ⟨by rw [en]; rfl, rfl⟩
    · have hlt : r < row := by omega
      refine g_iload (n := 18) hX dX8_begins_16 rfl rfl ?_
      refine g_iload_n (n := 19) hX dX8_begins_18 rfl rfl rfl ?_
      refine g_icmp_ge (n := 22) (tgt := 47) hX dX8_begins_19 rfl (by decide) (fun c19 => absurd c19 (nI_ge (a := r) (b := row) (by omega) (by omega))) (fun c19 => ?_)
      refine g_iload (n := 24) hX dX8_begins_22 rfl rfl ?_
      refine g_aload_n (n := 25) hX dX8_begins_24 rfl rfl rfl ?_
      refine g_bipush (n := 27) (v := 60) hX dX8_begins_25 rfl rfl ?_
      refine g_iload_n (n := 28) hX dX8_begins_27 rfl rfl rfl ?_
      refine g_imul (n := 29) (v := nI (60 * p)) hX dX8_begins_28 rfl (pk_mul 60 p) ?_
      refine g_iload (n := 31) hX dX8_begins_29 rfl rfl ?_
      refine g_iadd (n := 32) (v := nI (60 * p + r)) hX dX8_begins_31 rfl (nI_add _ _) ?_
      refine g_iload_n (n := 33) hX dX8_begins_32 rfl rfl rfl ?_
      refine g_iload (n := 35) hX dX8_begins_33 rfl rfl ?_
      refine g_callV0 (n := 38) (As := [.int (nI (60 * p + r)), .int (nI f), .int (nI l2)]) (rest := [.int (nI n)]) hX hE hU hY dX8_begins_35 rfl yv_X8_bytesOf um_X8_204 (m_bytesOf _ _ K am A σ (60 * p + r) (nI f) (nI l2) (by omega) (ho r (by omega) (by omega))) ⟨rfl, rfl⟩ (rm_le hRm rfl rfl) rfl (ci := 10) (q0 := 0) rfl rfl rfl rfl (Nat.le_of_ble_eq_true rfl) ⟨Nat.zero_le _, Nat.zero_le _⟩ (fun v0 w0 h0 => ?_)
      obtain ⟨rfl, rfl⟩ := h0
      show G Γ (mW K am A σ) 0 0 38 [(6, .int (nI r)), (5, .int (nI n)), (0, .ref am), (1, .int (nI p)), (2, .int (nI row)), (3, .int (nI f)), (4, .int (nI l2))] [.int (nI (lnR (prO σ p) f l2 r)), .int (nI n)]
      refine g_iadd (n := 39) (v := nI (n + lnR (prO σ p) f l2 r)) hX dX8_begins_38 rfl (nI_add _ _) ?_
      refine g_istore (lv' := [(5, .int (nI (n + lnR (prO σ p) f l2 r))), (6, .int (nI r)), (0, .ref am), (1, .int (nI p)), (2, .int (nI row)), (3, .int (nI f)), (4, .int (nI l2))]) (n := 41) hX dX8_begins_39 rfl (by rw [hnL]; rfl) rfl ?_
      refine g_iinc (n := 44) (v := nI (r + 1)) (lv' := [(6, .int (nI (r + 1))), (5, .int (nI (n + lnR (prO σ p) f l2 r))), (0, .ref am), (1, .int (nI p)), (2, .int (nI row)), (3, .int (nI f)), (4, .int (nI l2))]) hX dX8_begins_41 rfl rfl (nI_add r 1) (by rw [hnL]; rfl) rfl ?_
      refine g_goto (n := 16) hX dX8_begins_44 (by decide) ?_
      refine g_pick (lv' := [(6, .int (nI (r + 1))), (5, .int (nI (n + lnR (prO σ p) f l2 r))), (0, .ref am), (1, .int (nI p)), (2, .int (nI row)), (3, .int (nI f)), (4, .int (nI l2))]) [0, 1, 2, 3, 4, 5, 6] rfl ?_
      exact ih (r + 1) (n + lnR (prO σ p) f l2 r) (by omega) (by omega) (by omega) (by rw [en, show r + 1 - f = (r - f) + 1 by omega, sumR, show f + (r - f) = r by omega]; omega)
set_option maxHeartbeats 4000000 in
set_option maxRecDepth 100000 in
theorem m_begins (l : Launch) (D : va_G) (K : Nat → ClassId) (am : Nat) (A : Nat → Nat) (σ : MS) (p row f l2 : Nat) (hp : p ≤ 12) (h1 : 1 ≤ f) (h2 : f ≤ row) (h3 : row ≤ l2 + 1) (h4 : l2 ≤ 60) (h5 : f ≤ l2) (ho : ∀ r, f ≤ r → r < row → opOk (σ.1 2 (60 * p + r))) : Mc l yX8_begins (wM yX8_begins cX8_begins 7 (some .int)) (rmL 3 0 0) D (yY K) [.ref am, .int (nI p), .int (nI row), .int (nI f), .int (nI l2)] (mW K am A σ) (fun v w => v = some (.int (nI (bg (prO σ p) f l2 row))) ∧ w = mW K am A σ) 0 0 := by
  refine m_start (lv := [(0, .ref am), (1, .int (nI p)), (2, .int (nI row)), (3, .int (nI f)), (4, .int (nI l2))]) rfl (Nat.le_of_ble_eq_true rfl) rfl (fun Γ hX hRm hnL hY hDD hLa hR hI hE => ?_)
  have hU : ∀ w ∈ wU, w ∈ wM yX8_begins cX8_begins 7 (some .int) := fun w h => wM_in h
  subst hLa
  subst hDD
  refine g_bipush (n := 2) (v := 16) hX dX8_begins_0 rfl rfl ?_
  refine g_iconst (n := 3) (v := 4) hX dX8_begins_2 rfl rfl ?_
  refine g_iload (n := 5) hX dX8_begins_3 rfl rfl ?_
  refine g_iload_n (n := 6) hX dX8_begins_5 rfl rfl rfl ?_
  refine g_isub (n := 7) (v := nI (l2 - f)) hX dX8_begins_6 rfl (pk_sub h5) ?_
  refine g_iconst (n := 8) (v := 1) hX dX8_begins_7 rfl rfl ?_
  refine g_iadd (n := 9) (v := nI (l2 - f + 1)) hX dX8_begins_8 rfl (nI_add _ 1) ?_
  refine g_imul (n := 10) (v := nI (4 * (l2 - f + 1))) hX dX8_begins_9 rfl (pk_mul 4 _) ?_
  refine g_iadd (n := 11) (v := nI (16 + 4 * (l2 - f + 1))) hX dX8_begins_10 rfl (nI_add 16 _) ?_
  refine g_istore (lv' := [(5, .int (nI (16 + 4 * (l2 - f + 1)))), (0, .ref am), (1, .int (nI p)), (2, .int (nI row)), (3, .int (nI f)), (4, .int (nI l2))]) (n := 13) hX dX8_begins_11 rfl (by rw [hnL]; rfl) rfl ?_
  refine g_iload_n (n := 14) hX dX8_begins_13 rfl rfl rfl ?_
  refine g_istore (lv' := [(6, .int (nI f)), (5, .int (nI (16 + 4 * (l2 - f + 1)))), (0, .ref am), (1, .int (nI p)), (2, .int (nI row)), (3, .int (nI f)), (4, .int (nI l2))]) (n := 16) hX dX8_begins_14 rfl (by rw [hnL]; rfl) rfl ?_
  refine g_pick (lv' := [(6, .int (nI f)), (5, .int (nI (16 + 4 * (l2 - f + 1)))), (0, .ref am), (1, .int (nI p)), (2, .int (nI row)), (3, .int (nI f)), (4, .int (nI l2))]) [0, 1, 2, 3, 4, 5, 6] rfl ?_
  exact lp_begins hX hE hRm hnL hY σ p row f l2 hp h1 h2 h3 h4 h5 ho hR (row - f) f _ (Nat.le_refl _) (Nat.le_refl _) h2 (by rw [Nat.sub_self]; rfl)

set_option maxHeartbeats 4000000 in
set_option maxRecDepth 100000 in
theorem m_named (l : Launch) (D : va_G) (K : Nat → ClassId) (ws : va_W) (c x : Int32) : Mc l yX8_named (wM yX8_named cX8_named 2 (some .long)) (rmL 0 0 0) D (yY K) [.int c, .int x] (ws) (fun v w => v = some (.long (nmL c x)) ∧ w = ws) 0 0 := by
  refine m_start (lv := [(0, .int c), (1, .int x)]) rfl (Nat.le_of_ble_eq_true rfl) rfl (fun Γ hX hRm hnL hY hDD hLa hR hI hE => ?_)
  have hU : ∀ w ∈ wU, w ∈ wM yX8_named cX8_named 2 (some .long) := fun w h => wM_in h
  subst hLa
  subst hDD
  refine g_iload_n (n := 1) hX dX8_named_0 rfl rfl rfl ?_
  refine g_bipush (n := 3) (v := 10) hX dX8_named_1 rfl rfl ?_
  refine g_icmp_ge (n := 6) (tgt := 20) hX dX8_named_3 rfl (by decide) (fun c3 => ?_) (fun c3 => ?_)
  · refine g_iload_n (n := 21) hX dX8_named_20 rfl rfl rfl ?_
    refine g_i2l (n := 22) (v := c.toInt64) hX dX8_named_21 rfl rfl ?_
    refine g_bipush (n := 24) (v := 16) hX dX8_named_22 rfl rfl ?_
    refine g_lshl (n := 25) (v := c.toInt64 <<< ((16 : Int32).toInt64 &&& 63)) hX dX8_named_24 rfl rfl ?_
    refine g_bipush (n := 27) (v := 48) hX dX8_named_25 rfl rfl ?_
    refine g_iload_n (n := 28) hX dX8_named_27 rfl rfl rfl ?_
    refine g_bipush (n := 30) (v := 10) hX dX8_named_28 rfl rfl ?_
    refine g_idiv (n := 31) (v := x / 10) hX dX8_named_30 rfl (by decide) rfl ?_
    refine g_iadd (n := 32) (v := 48 + (x / 10)) hX dX8_named_31 rfl rfl ?_
    refine g_bipush (n := 34) (v := 8) hX dX8_named_32 rfl rfl ?_
    refine g_ishl (n := 35) (v := (48 + (x / 10)) <<< (8 &&& 31)) hX dX8_named_34 rfl rfl ?_
    refine g_i2l (n := 36) (v := ((48 + (x / 10)) <<< (8 &&& 31)).toInt64) hX dX8_named_35 rfl rfl ?_
    refine g_lor (n := 37) (v := (c.toInt64 <<< ((16 : Int32).toInt64 &&& 63)) ||| (((48 + (x / 10)) <<< (8 &&& 31)).toInt64)) hX dX8_named_36 rfl rfl ?_
    refine g_bipush (n := 39) (v := 48) hX dX8_named_37 rfl rfl ?_
    refine g_iload_n (n := 40) hX dX8_named_39 rfl rfl rfl ?_
    refine g_bipush (n := 42) (v := 10) hX dX8_named_40 rfl rfl ?_
    refine g_irem (n := 43) (v := x - x / 10 * 10) hX dX8_named_42 rfl (by decide) rfl ?_
    refine g_iadd (n := 44) (v := 48 + (x - x / 10 * 10)) hX dX8_named_43 rfl rfl ?_
    refine g_i2l (n := 45) (v := (48 + (x - x / 10 * 10)).toInt64) hX dX8_named_44 rfl rfl ?_
    refine g_lor (n := 46) (v := ((c.toInt64 <<< ((16 : Int32).toInt64 &&& 63)) ||| (((48 + (x / 10)) <<< (8 &&& 31)).toInt64)) ||| ((48 + (x - x / 10 * 10)).toInt64)) hX dX8_named_45 rfl rfl ?_
    exact g_lret hX hR dX8_named_46 ⟨by rw [nmL, if_pos c3], rfl⟩
  · refine g_iload_n (n := 7) hX dX8_named_6 rfl rfl rfl ?_
    refine g_i2l (n := 8) (v := c.toInt64) hX dX8_named_7 rfl rfl ?_
    refine g_bipush (n := 10) (v := 8) hX dX8_named_8 rfl rfl ?_
    refine g_lshl (n := 11) (v := c.toInt64 <<< ((8 : Int32).toInt64 &&& 63)) hX dX8_named_10 rfl rfl ?_
    refine g_bipush (n := 13) (v := 48) hX dX8_named_11 rfl rfl ?_
    refine g_iload_n (n := 14) hX dX8_named_13 rfl rfl rfl ?_
    refine g_iadd (n := 15) (v := 48 + x) hX dX8_named_14 rfl rfl ?_
    refine g_i2l (n := 16) (v := (48 + x).toInt64) hX dX8_named_15 rfl rfl ?_
    refine g_lor (n := 17) (v := (c.toInt64 <<< ((8 : Int32).toInt64 &&& 63)) ||| ((48 + x).toInt64)) hX dX8_named_16 rfl rfl ?_
    refine g_goto (n := 46) hX dX8_named_17 (by decide) ?_
    exact g_lret hX hR dX8_named_46 ⟨by rw [nmL, if_neg c3], rfl⟩

set_option maxHeartbeats 4000000 in
set_option maxRecDepth 100000 in
theorem lp_signs {Γ : gT} {K : Nat → ClassId} {am : Nat} {A : Nat → Nat} (hX : gOk Γ cX8_signs (wM yX8_signs cX8_signs 4 none) RX8) (hE : gEv Γ) (hRm : gRm Γ = rmL 1 0 0) (hnL : gnL Γ = 4) (hY : gY Γ = yY K) (s : Int64) : ∀ (j : Nat) (σ : MS), j ≤ 8 → Lo σ j → G Γ (mW K am A (ap σ (sgL s j))) 0 0 33 [(3, .int (-8)), (0, .ref am), (1, .long s)] [] → G Γ (mW K am A σ) 0 0 3 [(3, .int (sk j)), (0, .ref am), (1, .long s)] [] := by
  have hU : ∀ w ∈ wU, w ∈ wM yX8_signs cX8_signs 4 none := fun w h => wM_in h
  intro j
  induction j with
  | zero =>
    intro σ hj hr hk
    show G Γ (mW K am A σ) 0 0 3 [(3, .int (-8)), (0, .ref am), (1, .long s)] []
    refine g_iload_n (n := 4) hX dX8_signs_3 rfl rfl rfl ?_
    refine g_if_lt (n := 7) (tgt := 33) hX dX8_signs_4 rfl (by decide) (fun c4 => ?_) (fun c4 => absurd (by decide) c4)
    exact hk
  | succ j ih =>
    intro σ hj hr hk
    show G Γ (mW K am A σ) 0 0 3 [(3, .int (nI (8 * j))), (0, .ref am), (1, .long s)] []
    refine g_iload_n (n := 4) hX dX8_signs_3 rfl rfl rfl ?_
    refine g_if_lt (n := 7) (tgt := 33) hX dX8_signs_4 rfl (by decide) (fun c4 => absurd c4 (nI_pos (by omega))) (fun c4 => ?_)
    refine g_lload_n (n := 8) hX dX8_signs_7 rfl rfl rfl ?_
    refine g_iload_n (n := 9) hX dX8_signs_8 rfl rfl rfl ?_
    refine g_lshr (n := 10) (v := s >>> ((nI (8 * j) : Int32).toInt64 &&& 63)) hX dX8_signs_9 rfl rfl ?_
    refine g_ldc2 (n := 13) (v := 255) hX dX8_signs_10 rfl (hU _ uk_X8_149) ?_
    refine g_land (n := 14) (v := (s >>> ((nI (8 * j) : Int32).toInt64 &&& 63)) &&& 255) hX dX8_signs_13 rfl rfl ?_
    refine g_lconst (n := 15) (v := 0) hX dX8_signs_14 rfl rfl ?_
    refine g_lcmp (n := 16) hX dX8_signs_15 rfl ?_
    refine g_if_eq (n := 19) (tgt := 27) hX dX8_signs_16 rfl (by decide) (fun c16 => ?_) (fun c16 => ?_)
    · refine g_iinc (n := 30) (v := sk j) (lv' := [(3, .int (sk j)), (0, .ref am), (1, .long s)]) hX dX8_signs_27 rfl rfl (sk_dec j) (by rw [hnL]; rfl) rfl ?_
      refine g_goto (n := 3) hX dX8_signs_30 (by decide) ?_
      refine g_pick (lv' := [(3, .int (sk j)), (0, .ref am), (1, .long s)]) [0, 1, 2] rfl ?_
      exact ih σ (by omega) (hr.le (by omega)) (by rw [sgL, if_pos (lg0.mp c16)] at hk; exact hk)
    · refine g_aload_n (n := 20) hX dX8_signs_19 rfl rfl rfl ?_
      refine g_lload_n (n := 21) hX dX8_signs_20 rfl rfl rfl ?_
      refine g_iload_n (n := 22) hX dX8_signs_21 rfl rfl rfl ?_
      refine g_lshr (n := 23) (v := s >>> ((nI (8 * j) : Int32).toInt64 &&& 63)) hX dX8_signs_22 rfl rfl ?_
      refine g_l2i (n := 24) (v := (s >>> ((nI (8 * j) : Int32).toInt64 &&& 63)).toInt32) hX dX8_signs_23 rfl rfl ?_
      refine g_callV0 (n := 27) (As := [.int ((s >>> ((nI (8 * j) : Int32).toInt64 &&& 63)).toInt32)]) (rest := []) hX hE hU hY dX8_signs_24 rfl yv_X8_u1 um_X8_138 (m_u1 _ _ K am A σ ((s >>> ((nI (8 * j) : Int32).toInt64 &&& 63)).toInt32) (hr.le (by omega))) ⟨rfl, rfl⟩ (rm_le hRm rfl rfl) rfl (ci := 10) (q0 := 0) rfl rfl rfl rfl (Nat.le_of_ble_eq_true rfl) ⟨Nat.zero_le _, Nat.zero_le _⟩ (fun v0 w0 h0 => ?_)
      obtain ⟨rfl, rfl⟩ := h0
      show G Γ (mW K am A (ap σ [(s >>> ((nI (8 * j) : Int32).toInt64 &&& 63)).toInt32])) 0 0 27 [(3, .int (nI (8 * j))), (0, .ref am), (1, .long s)] []
      have hr : Lo (ap σ [(s >>> ((nI (8 * j) : Int32).toInt64 &&& 63)).toInt32]) j := hr.app (by show 1 + j ≤ j + 1; omega)
      refine g_iinc (n := 30) (v := sk j) (lv' := [(3, .int (sk j)), (0, .ref am), (1, .long s)]) hX dX8_signs_27 rfl rfl (sk_dec j) (by rw [hnL]; rfl) rfl ?_
      refine g_goto (n := 3) hX dX8_signs_30 (by decide) ?_
      refine g_pick (lv' := [(3, .int (sk j)), (0, .ref am), (1, .long s)]) [0, 1, 2] rfl ?_
      exact ih _ (by omega) hr (by rw [sgL, if_neg (fun h9 => c16 (lg0.mpr h9)), ← ap_ap] at hk; exact hk)
set_option maxHeartbeats 4000000 in
set_option maxRecDepth 100000 in
theorem m_signs (l : Launch) (D : va_G) (K : Nat → ClassId) (am : Nat) (A : Nat → Nat) (σ : MS) (s : Int64) (hr : Lo σ 8) : Mc l yX8_signs (wM yX8_signs cX8_signs 4 none) (rmL 1 0 0) D (yY K) [.ref am, .long s] (mW K am A σ) (fun v w => v = none ∧ w = mW K am A (ap σ (sgL s 8))) 0 0 := by
  refine m_start (lv := [(0, .ref am), (1, .long s)]) rfl (Nat.le_of_ble_eq_true rfl) rfl (fun Γ hX hRm hnL hY hDD hLa hR hI hE => ?_)
  have hU : ∀ w ∈ wU, w ∈ wM yX8_signs cX8_signs 4 none := fun w h => wM_in h
  subst hLa
  subst hDD
  refine g_bipush (n := 2) (v := 56) hX dX8_signs_0 rfl rfl ?_
  refine g_istore_n (lv' := [(3, .int 56), (0, .ref am), (1, .long s)]) (n := 3) hX dX8_signs_2 rfl rfl (by rw [hnL]; rfl) rfl ?_
  refine g_pick (lv' := [(3, .int 56), (0, .ref am), (1, .long s)]) [0, 1, 2] rfl ?_
  refine lp_signs hX hE hRm hnL hY s 8 σ (Nat.le_refl _) hr ?_
  exact g_vret hX hR dX8_signs_33 ⟨rfl, rfl⟩

theorem ap_beyond {σ : MS} {n : Nat} (h : σ.2 29 = nI n) (bs : List Int32) (hb : n + bs.length < 2 ^ 31) {i : Nat} (hi : n + bs.length ≤ i) : (ap σ bs).1 24 i = σ.1 24 i := by
  induction bs generalizing σ n with
  | nil => rfl
  | cons b bs ih =>
    have hb2 : n + (bs.length + 1) < 2 ^ 31 := hb
    have hi2 : n + (bs.length + 1) ≤ i := hi
    have := ih (σ := wr σ b) (n := n + 1) (by show va_up σ.2 29 (σ.2 29 + 1) 29 = _; rw [va_up_self, h, nI_1]) (by omega) (by omega)
    refine this.trans ?_
    show va_up σ.1 24 (upd (σ.1 24) (σ.2 29).toNatClampNeg (b &&& 255)) 24 i = _
    rw [va_up_self, h, nI_clamp (by omega)]
    exact pk_un (by omega)
theorem ap_fld29 {σ : MS} {n : Nat} (h : σ.2 29 = nI n) {as bs : List Int32} (hl : as.length = bs.length) : (ap σ as).2 = (ap σ bs).2 := by
  funext k
  by_cases hk : k = 29
  · rw [hk, ap_len h, ap_len h, hl]
  · rw [ap_fld _ _ hk, ap_fld _ _ hk]
/-- two rows of bytes of one length that agree in the lowest eight bits but at one place, which is set afterwards -/
theorem ap_patch {σ : MS} {n j : Nat} (h : σ.2 29 = nI n) {as bs : List Int32} (hl : as.length = bs.length) (hb : n + as.length < 2 ^ 31) (hj : j < as.length) {x : Int32} (hx : bs.getD j 0 &&& 255 = x) (he : ∀ i, i < as.length → i ≠ j → as.getD i 0 &&& 255 = bs.getD i 0 &&& 255) : sA (ap σ as) 24 (n + j) x = ap σ bs := by
  refine Prod.ext ?_ (ap_fld29 h hl)
  funext q i
  show va_up (ap σ as).1 24 (upd ((ap σ as).1 24) (n + j) x) q i = _
  by_cases hq : q = 24
  · subst hq
    rw [va_up_self]
    by_cases hi : i = n + j
    · subst hi
      rw [pk_us, ap_new h bs (by omega) (by omega), hx]
    · rw [pk_un hi]
      by_cases h1 : i < n
      · rw [ap_old h as hb h1, ap_old h bs (by omega) h1]
      · by_cases h2 : i < n + as.length
        · obtain ⟨d, rfl⟩ : ∃ d, i = n + d := ⟨i - n, by omega⟩
          rw [ap_new h as hb (by omega), ap_new h bs (by omega) (by omega)]
          exact he d (by omega) (by omega)
        · rw [ap_beyond h as hb (by omega), ap_beyond h bs (by omega) (by omega)]
  · rw [va_up_ne _ _ hq, ap_arr _ _ hq, ap_arr _ _ hq]
theorem nI_b255 : ∀ n : Nat, n < 256 → nI n &&& 255 = nI n ∧ nI n >>> ((8 : Int32) &&& 31) &&& 255 = 0 := by decide +kernel
theorem utf_patch {σ : MS} {n : Nat} (h : σ.2 29 = nI n) (hb : n + 19 < 2 ^ 31) (f s : Int64) : sA (ap (ap (ap (ap σ [1]) (b2 0)) (sgL f 8)) (sgL s 8)) 24 (n + 2) (nI ((sgL f 8).length + (sgL s 8).length)) = ap σ (bUtf f s) := by
  have h1 := sgL_len f 8
  have h2 := sgL_len s 8
  have h3 := nI_b255 ((sgL f 8).length + (sgL s 8).length) (by omega)
  rw [ap_ap, ap_ap, ap_ap]
  refine ap_patch h ?_ ?_ ?_ ?_ ?_
  · simp [bUtf, b2]
  · simp [b2]; omega
  · simp [b2]
  · simpa [bUtf, b2] using h3.1
  · intro i hi hne
    match i, hne with
    | 0, _ => simp [bUtf, b2]
    | 1, _ => simpa [bUtf, b2] using h3.2.symm
    | 2, hne => exact absurd rfl hne
    | i + 3, _ => simp [bUtf, b2]
set_option maxHeartbeats 4000000 in
set_option maxRecDepth 100000 in
theorem m_utf (l : Launch) (D : va_G) (K : Nat → ClassId) (am : Nat) (A : Nat → Nat) (σ : MS) (f s : Int64) (hr : Lo σ 19) : Mc l yX8_utf (wM yX8_utf cX8_utf 6 none) (rmL 2 0 0) D (yY K) [.ref am, .long f, .long s] (mW K am A σ) (fun v w => v = none ∧ w = mW K am A (ap σ (bUtf f s))) 0 0 := by
  refine m_start (lv := [(0, .ref am), (1, .long f), (3, .long s)]) rfl (Nat.le_of_ble_eq_true rfl) rfl (fun Γ hX hRm hnL hY hDD hLa hR hI hE => ?_)
  have hU : ∀ w ∈ wU, w ∈ wM yX8_utf cX8_utf 6 none := fun w h => wM_in h
  subst hLa
  subst hDD
  obtain ⟨n, hn, hn2⟩ := id hr
  refine g_aload_n (n := 1) hX dX8_utf_0 rfl rfl rfl ?_
  refine g_iconst (n := 2) (v := 1) hX dX8_utf_1 rfl rfl ?_
  refine g_callV0 (n := 5) (As := [.int 1]) (rest := []) hX hE hU hY dX8_utf_2 rfl yv_X8_u1 um_X8_138 (m_u1 _ _ K am A σ 1 (hr.le (by decide))) ⟨rfl, rfl⟩ (rm_le hRm rfl rfl) rfl (ci := 10) (q0 := 0) rfl rfl rfl rfl (Nat.le_of_ble_eq_true rfl) ⟨Nat.zero_le _, Nat.zero_le _⟩ (fun v0 w0 h0 => ?_)
  obtain ⟨rfl, rfl⟩ := h0
  show G Γ (mW K am A (ap σ ([1]))) 0 0 5 [(0, .ref am), (1, .long f), (3, .long s)] []
  have hr : Lo (ap σ ([1])) 18 := hr.app (Nat.le_of_ble_eq_true rfl)
  refine g_aload_n (n := 6) hX dX8_utf_5 rfl rfl rfl ?_
  rw [show mW K am A (ap σ ([1])) = mW K am A (ap σ ([1])) from rfl]
  refine g_mget (n := 9) 29 (v := .int (nI (n + 1))) hX hU dX8_utf_6 rfl uf_X8_135 rfl rfl (congrArg (fun z => some (Value.int z)) (ap_len hn [1])) ?_
  refine g_istore (lv' := [(5, .int (nI (n + 1))), (0, .ref am), (1, .long f), (3, .long s)]) (n := 11) hX dX8_utf_9 rfl (by rw [hnL]; rfl) rfl ?_
  refine g_aload_n (n := 12) hX dX8_utf_11 rfl rfl rfl ?_
  refine g_iconst (n := 13) (v := 0) hX dX8_utf_12 rfl rfl ?_
  refine g_callV0 (n := 16) (As := [.int 0]) (rest := []) hX hE hU hY dX8_utf_13 rfl yv_X8_u2 um_X8_142 (m_u2 _ _ K am A (ap σ ([1])) 0 (hr.le (by decide))) ⟨rfl, rfl⟩ (rm_le hRm rfl rfl) rfl (ci := 10) (q0 := 0) rfl rfl rfl rfl (Nat.le_of_ble_eq_true rfl) ⟨Nat.zero_le _, Nat.zero_le _⟩ (fun v0 w0 h0 => ?_)
  obtain ⟨rfl, rfl⟩ := h0
  show G Γ (mW K am A (ap (ap σ ([1])) (b2 0))) 0 0 16 [(5, .int (nI (n + 1))), (0, .ref am), (1, .long f), (3, .long s)] []
  have hr : Lo (ap (ap σ ([1])) (b2 0)) 16 := hr.app (Nat.le_of_ble_eq_true rfl)
  refine g_aload_n (n := 17) hX dX8_utf_16 rfl rfl rfl ?_
  refine g_lload_n (n := 18) hX dX8_utf_17 rfl rfl rfl ?_
  refine g_callV0 (n := 21) (As := [.long f]) (rest := []) hX hE hU hY dX8_utf_18 rfl yv_X8_signs um_X8_145 (m_signs _ _ K am A (ap (ap σ ([1])) (b2 0)) f (hr.le (by decide))) ⟨rfl, rfl⟩ (rm_le hRm rfl rfl) rfl (ci := 10) (q0 := 0) rfl rfl rfl rfl (Nat.le_of_ble_eq_true rfl) ⟨Nat.zero_le _, Nat.zero_le _⟩ (fun v0 w0 h0 => ?_)
  obtain ⟨rfl, rfl⟩ := h0
  show G Γ (mW K am A (ap (ap (ap σ ([1])) (b2 0)) (sgL f 8))) 0 0 21 [(5, .int (nI (n + 1))), (0, .ref am), (1, .long f), (3, .long s)] []
  have hr : Lo (ap (ap (ap σ ([1])) (b2 0)) (sgL f 8)) 8 := hr.app (by have := sgL_len f 8; omega)
  refine g_aload_n (n := 22) hX dX8_utf_21 rfl rfl rfl ?_
  refine g_lload_n (n := 23) hX dX8_utf_22 rfl rfl rfl ?_
  refine g_callV0 (n := 26) (As := [.long s]) (rest := []) hX hE hU hY dX8_utf_23 rfl yv_X8_signs um_X8_145 (m_signs _ _ K am A (ap (ap (ap σ ([1])) (b2 0)) (sgL f 8)) s (hr.le (by decide))) ⟨rfl, rfl⟩ (rm_le hRm rfl rfl) rfl (ci := 10) (q0 := 0) rfl rfl rfl rfl (Nat.le_of_ble_eq_true rfl) ⟨Nat.zero_le _, Nat.zero_le _⟩ (fun v0 w0 h0 => ?_)
  obtain ⟨rfl, rfl⟩ := h0
  show G Γ (mW K am A (ap (ap (ap (ap σ ([1])) (b2 0)) (sgL f 8)) (sgL s 8))) 0 0 26 [(5, .int (nI (n + 1))), (0, .ref am), (1, .long f), (3, .long s)] []
  have hr : Lo (ap (ap (ap (ap σ ([1])) (b2 0)) (sgL f 8)) (sgL s 8)) 0 := hr.app (by have := sgL_len s 8; omega)
  refine g_aload_n (n := 27) hX dX8_utf_26 rfl rfl rfl ?_
  refine g_mget (n := 30) 30 (v := .ref (A 24)) hX hU dX8_utf_27 rfl uf_X8_84 rfl rfl rfl ?_
  refine g_iload (n := 32) hX dX8_utf_30 rfl rfl ?_
  refine g_iconst (n := 33) (v := 1) hX dX8_utf_32 rfl rfl ?_
  refine g_iadd (n := 34) (v := nI (n + 2)) hX dX8_utf_33 rfl (nI_add _ 1) ?_
  refine g_aload_n (n := 35) hX dX8_utf_34 rfl rfl rfl ?_
  rw [show mW K am A (ap (ap (ap (ap σ ([1])) (b2 0)) (sgL f 8)) (sgL s 8)) = mW K am A (ap (ap (ap (ap σ ([1])) (b2 0)) (sgL f 8)) (sgL s 8)) from rfl]
  refine g_mget (n := 38) 29 (v := .int (nI (n + 3 + (sgL f 8).length + (sgL s 8).length))) hX hU dX8_utf_35 rfl uf_X8_135 rfl rfl (congrArg (fun z => some (Value.int z)) (ap_len (ap_len (ap_len (ap_len hn [1]) (b2 0)) (sgL f 8)) (sgL s 8))) ?_
  refine g_iload (n := 40) hX dX8_utf_38 rfl rfl ?_
  refine g_isub (n := 41) (v := nI (2 + (sgL f 8).length + (sgL s 8).length)) hX dX8_utf_40 rfl (by rw [pk_sub (by omega)]; congr 1; omega) ?_
  refine g_iconst (n := 42) (v := 2) hX dX8_utf_41 rfl rfl ?_
  refine g_isub (n := 43) (v := nI ((sgL f 8).length + (sgL s 8).length)) hX dX8_utf_42 rfl (by rw [show (2 : Int32) = nI 2 from rfl, pk_sub (by omega)]; congr 1; omega) ?_
  refine g_mist (n := 44) 24 (i0 := n + 2) hX hY dX8_utf_43 rfl rfl rfl (vp_in_nI (show n + 2 < mN 24 by show n + 2 < 3000; omega) (by decide)) (nI_clamp (by omega)) ?_
  exact g_vret hX hR dX8_utf_44 ⟨rfl, by rw [utf_patch hn (by omega)]⟩
end

section
-- ===== PART A: goes FIRST, ahead of the names: the tables' words, and 'selects' of the private methods out of them =====
/-- a private method of a class that the tables say can be made, by its rows of tables_1 -/
def lw_okq (q : MethodName × Nat) : Prop := (q.1.cls ≠ "java/lang/invoke/MethodHandle" ∧ q.1.cls ≠ "java/lang/invoke/VarHandle") ∧ Cond.instantiable q.1.cls q.2 ∈ tables_1 ∧ Cond.privateMethod q.1 ∈ tables_1 ∧ Cond.instanceMethod q.1 ∈ tables_1
theorem lw_p0 : lw_okq (⟨"java/lang/Throwable", "fillInStackTrace", "(I)Ljava/lang/Throwable;"⟩, 6) := ⟨⟨by decide +kernel, by decide +kernel⟩, List.mem_of_getElem? (i := 331) (by decide +kernel), List.mem_of_getElem? (i := 329) (by decide +kernel), List.mem_of_getElem? (i := 330) (by decide +kernel)⟩
theorem lw_p1 : lw_okq (⟨"LandingPads", "isAllowed", "(II)Z"⟩, 4) := ⟨⟨by decide +kernel, by decide +kernel⟩, List.mem_of_getElem? (i := 20) (by decide +kernel), List.mem_of_getElem? (i := 400) (by decide +kernel), List.mem_of_getElem? (i := 401) (by decide +kernel)⟩
theorem lw_p2 : lw_okq (⟨"LandingPads$Checker", "accepts", "(I)Z"⟩, 2) := ⟨⟨by decide +kernel, by decide +kernel⟩, List.mem_of_getElem? (i := 49) (by decide +kernel), List.mem_of_getElem? (i := 441) (by decide +kernel), List.mem_of_getElem? (i := 442) (by decide +kernel)⟩
theorem lw_p3 : lw_okq (⟨"LandingPads$Checker", "opensRow", "(I)Z"⟩, 2) := ⟨⟨by decide +kernel, by decide +kernel⟩, List.mem_of_getElem? (i := 49) (by decide +kernel), List.mem_of_getElem? (i := 445) (by decide +kernel), List.mem_of_getElem? (i := 446) (by decide +kernel)⟩
theorem lw_p4 : lw_okq (⟨"LandingPads$Checker", "turnsToCatch", "()Z"⟩, 2) := ⟨⟨by decide +kernel, by decide +kernel⟩, List.mem_of_getElem? (i := 49) (by decide +kernel), List.mem_of_getElem? (i := 449) (by decide +kernel), List.mem_of_getElem? (i := 450) (by decide +kernel)⟩
theorem lw_p5 : lw_okq (⟨"LandingPads$Checker", "closesRow", "()Z"⟩, 2) := ⟨⟨by decide +kernel, by decide +kernel⟩, List.mem_of_getElem? (i := 49) (by decide +kernel), List.mem_of_getElem? (i := 453) (by decide +kernel), List.mem_of_getElem? (i := 454) (by decide +kernel)⟩
theorem lw_p6 : lw_okq (⟨"LandingPads$Checker", "isInCatch", "()Z"⟩, 2) := ⟨⟨by decide +kernel, by decide +kernel⟩, List.mem_of_getElem? (i := 49) (by decide +kernel), List.mem_of_getElem? (i := 457) (by decide +kernel), List.mem_of_getElem? (i := 458) (by decide +kernel)⟩
theorem lw_p7 : lw_okq (⟨"LandingPads$Compiler", "translateStatement", "(LLandingPads$Text;ILLandingPads$Program;)V"⟩, 2) := ⟨⟨by decide +kernel, by decide +kernel⟩, List.mem_of_getElem? (i := 62) (by decide +kernel), List.mem_of_getElem? (i := 470) (by decide +kernel), List.mem_of_getElem? (i := 471) (by decide +kernel)⟩
theorem lw_p8 : lw_okq (⟨"LandingPads$Compiler", "currentHead", "()I"⟩, 2) := ⟨⟨by decide +kernel, by decide +kernel⟩, List.mem_of_getElem? (i := 62) (by decide +kernel), List.mem_of_getElem? (i := 483) (by decide +kernel), List.mem_of_getElem? (i := 484) (by decide +kernel)⟩
theorem lw_p9 : lw_okq (⟨"LandingPads$Compiler", "openBlock", "(III)V"⟩, 2) := ⟨⟨by decide +kernel, by decide +kernel⟩, List.mem_of_getElem? (i := 62) (by decide +kernel), List.mem_of_getElem? (i := 496) (by decide +kernel), List.mem_of_getElem? (i := 497) (by decide +kernel)⟩
theorem lw_p10 : lw_okq (⟨"LandingPads$Compiler", "makeCatchActions", "(LLandingPads$Text;ILLandingPads$Program;)I"⟩, 2) := ⟨⟨by decide +kernel, by decide +kernel⟩, List.mem_of_getElem? (i := 62) (by decide +kernel), List.mem_of_getElem? (i := 504) (by decide +kernel), List.mem_of_getElem? (i := 505) (by decide +kernel)⟩
theorem lw_p11 : lw_okq (⟨"LandingPads$Compiler", "beginCatch", "(LLandingPads$Program;)V"⟩, 2) := ⟨⟨by decide +kernel, by decide +kernel⟩, List.mem_of_getElem? (i := 62) (by decide +kernel), List.mem_of_getElem? (i := 516) (by decide +kernel), List.mem_of_getElem? (i := 517) (by decide +kernel)⟩
theorem lw_p12 : lw_okq (⟨"LandingPads$Compiler", "emitExit", "(LLandingPads$Block;LLandingPads$Program;)V"⟩, 2) := ⟨⟨by decide +kernel, by decide +kernel⟩, List.mem_of_getElem? (i := 62) (by decide +kernel), List.mem_of_getElem? (i := 520) (by decide +kernel), List.mem_of_getElem? (i := 521) (by decide +kernel)⟩
theorem lw_p13 : lw_okq (⟨"LandingPads$Compiler", "finishCatch", "(LLandingPads$Block;LLandingPads$Program;)V"⟩, 2) := ⟨⟨by decide +kernel, by decide +kernel⟩, List.mem_of_getElem? (i := 62) (by decide +kernel), List.mem_of_getElem? (i := 528) (by decide +kernel), List.mem_of_getElem? (i := 529) (by decide +kernel)⟩
theorem lw_p14 : lw_okq (⟨"LandingPads$Compiler", "closeBlock", "(LLandingPads$Program;)V"⟩, 2) := ⟨⟨by decide +kernel, by decide +kernel⟩, List.mem_of_getElem? (i := 62) (by decide +kernel), List.mem_of_getElem? (i := 536) (by decide +kernel), List.mem_of_getElem? (i := 537) (by decide +kernel)⟩
theorem lw_p15 : lw_okq (⟨"LandingPads$Compiler", "finishLocal", "(LLandingPads$Block;LLandingPads$Program;)V"⟩, 2) := ⟨⟨by decide +kernel, by decide +kernel⟩, List.mem_of_getElem? (i := 62) (by decide +kernel), List.mem_of_getElem? (i := 540) (by decide +kernel), List.mem_of_getElem? (i := 541) (by decide +kernel)⟩
def lw_privs_1 : List (MethodName × Nat) := [(⟨"java/lang/Throwable", "fillInStackTrace", "(I)Ljava/lang/Throwable;"⟩, 6), (⟨"LandingPads", "isAllowed", "(II)Z"⟩, 4), (⟨"LandingPads$Checker", "accepts", "(I)Z"⟩, 2), (⟨"LandingPads$Checker", "opensRow", "(I)Z"⟩, 2), (⟨"LandingPads$Checker", "turnsToCatch", "()Z"⟩, 2), (⟨"LandingPads$Checker", "closesRow", "()Z"⟩, 2), (⟨"LandingPads$Checker", "isInCatch", "()Z"⟩, 2), (⟨"LandingPads$Compiler", "translateStatement", "(LLandingPads$Text;ILLandingPads$Program;)V"⟩, 2), (⟨"LandingPads$Compiler", "currentHead", "()I"⟩, 2), (⟨"LandingPads$Compiler", "openBlock", "(III)V"⟩, 2), (⟨"LandingPads$Compiler", "makeCatchActions", "(LLandingPads$Text;ILLandingPads$Program;)I"⟩, 2), (⟨"LandingPads$Compiler", "beginCatch", "(LLandingPads$Program;)V"⟩, 2), (⟨"LandingPads$Compiler", "emitExit", "(LLandingPads$Block;LLandingPads$Program;)V"⟩, 2), (⟨"LandingPads$Compiler", "finishCatch", "(LLandingPads$Block;LLandingPads$Program;)V"⟩, 2), (⟨"LandingPads$Compiler", "closeBlock", "(LLandingPads$Program;)V"⟩, 2), (⟨"LandingPads$Compiler", "finishLocal", "(LLandingPads$Block;LLandingPads$Program;)V"⟩, 2)]
theorem lw_r1 : ∀ q ∈ lw_privs_1, lw_okq q := List.forall_mem_cons.mpr ⟨lw_p0, List.forall_mem_cons.mpr ⟨lw_p1, List.forall_mem_cons.mpr ⟨lw_p2, List.forall_mem_cons.mpr ⟨lw_p3, List.forall_mem_cons.mpr ⟨lw_p4, List.forall_mem_cons.mpr ⟨lw_p5, List.forall_mem_cons.mpr ⟨lw_p6, List.forall_mem_cons.mpr ⟨lw_p7, List.forall_mem_cons.mpr ⟨lw_p8, List.forall_mem_cons.mpr ⟨lw_p9, List.forall_mem_cons.mpr ⟨lw_p10, List.forall_mem_cons.mpr ⟨lw_p11, List.forall_mem_cons.mpr ⟨lw_p12, List.forall_mem_cons.mpr ⟨lw_p13, List.forall_mem_cons.mpr ⟨lw_p14, List.forall_mem_cons.mpr ⟨lw_p15, fun _ h => absurd h List.not_mem_nil⟩⟩⟩⟩⟩⟩⟩⟩⟩⟩⟩⟩⟩⟩⟩⟩
theorem lw_p16 : lw_okq (⟨"LandingPads$Machine", "enter", "(I)I"⟩, 9) := ⟨⟨by decide +kernel, by decide +kernel⟩, List.mem_of_getElem? (i := 109) (by decide +kernel), List.mem_of_getElem? (i := 666) (by decide +kernel), List.mem_of_getElem? (i := 667) (by decide +kernel)⟩
theorem lw_p17 : lw_okq (⟨"LandingPads$Machine", "top", "()LLandingPads$Frame;"⟩, 9) := ⟨⟨by decide +kernel, by decide +kernel⟩, List.mem_of_getElem? (i := 109) (by decide +kernel), List.mem_of_getElem? (i := 679) (by decide +kernel), List.mem_of_getElem? (i := 680) (by decide +kernel)⟩
theorem lw_p18 : lw_okq (⟨"LandingPads$Machine", "step", "(LLandingPads$Frame;)I"⟩, 9) := ⟨⟨by decide +kernel, by decide +kernel⟩, List.mem_of_getElem? (i := 109) (by decide +kernel), List.mem_of_getElem? (i := 683) (by decide +kernel), List.mem_of_getElem? (i := 684) (by decide +kernel)⟩
theorem lw_p19 : lw_okq (⟨"LandingPads$Machine", "print", "(I)I"⟩, 9) := ⟨⟨by decide +kernel, by decide +kernel⟩, List.mem_of_getElem? (i := 109) (by decide +kernel), List.mem_of_getElem? (i := 689) (by decide +kernel), List.mem_of_getElem? (i := 690) (by decide +kernel)⟩
theorem lw_p20 : lw_okq (⟨"LandingPads$Machine", "raise", "(I)I"⟩, 9) := ⟨⟨by decide +kernel, by decide +kernel⟩, List.mem_of_getElem? (i := 109) (by decide +kernel), List.mem_of_getElem? (i := 702) (by decide +kernel), List.mem_of_getElem? (i := 703) (by decide +kernel)⟩
theorem lw_p21 : lw_okq (⟨"LandingPads$Machine", "findHandler", "(I)Z"⟩, 9) := ⟨⟨by decide +kernel, by decide +kernel⟩, List.mem_of_getElem? (i := 109) (by decide +kernel), List.mem_of_getElem? (i := 706) (by decide +kernel), List.mem_of_getElem? (i := 707) (by decide +kernel)⟩
theorem lw_p22 : lw_okq (⟨"LandingPads$Machine", "headOf", "(LLandingPads$Frame;)I"⟩, 9) := ⟨⟨by decide +kernel, by decide +kernel⟩, List.mem_of_getElem? (i := 109) (by decide +kernel), List.mem_of_getElem? (i := 710) (by decide +kernel), List.mem_of_getElem? (i := 711) (by decide +kernel)⟩
theorem lw_p23 : lw_okq (⟨"LandingPads$Machine", "firstCatching", "(LLandingPads$Frame;II)I"⟩, 9) := ⟨⟨by decide +kernel, by decide +kernel⟩, List.mem_of_getElem? (i := 109) (by decide +kernel), List.mem_of_getElem? (i := 722) (by decide +kernel), List.mem_of_getElem? (i := 723) (by decide +kernel)⟩
theorem lw_p24 : lw_okq (⟨"LandingPads$Machine", "unwind", "(I)I"⟩, 9) := ⟨⟨by decide +kernel, by decide +kernel⟩, List.mem_of_getElem? (i := 109) (by decide +kernel), List.mem_of_getElem? (i := 734) (by decide +kernel), List.mem_of_getElem? (i := 735) (by decide +kernel)⟩
theorem lw_p25 : lw_okq (⟨"LandingPads$Machine", "firstLanding", "(I)I"⟩, 9) := ⟨⟨by decide +kernel, by decide +kernel⟩, List.mem_of_getElem? (i := 109) (by decide +kernel), List.mem_of_getElem? (i := 738) (by decide +kernel), List.mem_of_getElem? (i := 739) (by decide +kernel)⟩
theorem lw_p26 : lw_okq (⟨"LandingPads$Machine", "isHandler", "(I)Z"⟩, 9) := ⟨⟨by decide +kernel, by decide +kernel⟩, List.mem_of_getElem? (i := 109) (by decide +kernel), List.mem_of_getElem? (i := 742) (by decide +kernel), List.mem_of_getElem? (i := 743) (by decide +kernel)⟩
theorem lw_p27 : lw_okq (⟨"LandingPads$Machine", "land", "(I)I"⟩, 9) := ⟨⟨by decide +kernel, by decide +kernel⟩, List.mem_of_getElem? (i := 109) (by decide +kernel), List.mem_of_getElem? (i := 746) (by decide +kernel), List.mem_of_getElem? (i := 747) (by decide +kernel)⟩
theorem lw_p28 : lw_okq (⟨"LandingPads$Machine", "jump", "(LLandingPads$Frame;I)I"⟩, 9) := ⟨⟨by decide +kernel, by decide +kernel⟩, List.mem_of_getElem? (i := 109) (by decide +kernel), List.mem_of_getElem? (i := 755) (by decide +kernel), List.mem_of_getElem? (i := 756) (by decide +kernel)⟩
theorem lw_p29 : lw_okq (⟨"LandingPads$Machine", "clean", "(I)I"⟩, 9) := ⟨⟨by decide +kernel, by decide +kernel⟩, List.mem_of_getElem? (i := 109) (by decide +kernel), List.mem_of_getElem? (i := 763) (by decide +kernel), List.mem_of_getElem? (i := 764) (by decide +kernel)⟩
theorem lw_p30 : lw_okq (⟨"LandingPads$Machine", "endCatch", "(LLandingPads$Frame;)I"⟩, 9) := ⟨⟨by decide +kernel, by decide +kernel⟩, List.mem_of_getElem? (i := 109) (by decide +kernel), List.mem_of_getElem? (i := 767) (by decide +kernel), List.mem_of_getElem? (i := 768) (by decide +kernel)⟩
theorem lw_p31 : lw_okq (⟨"LandingPads$Machine", "leave", "()I"⟩, 9) := ⟨⟨by decide +kernel, by decide +kernel⟩, List.mem_of_getElem? (i := 109) (by decide +kernel), List.mem_of_getElem? (i := 775) (by decide +kernel), List.mem_of_getElem? (i := 776) (by decide +kernel)⟩
def lw_privs_2 : List (MethodName × Nat) := [(⟨"LandingPads$Machine", "enter", "(I)I"⟩, 9), (⟨"LandingPads$Machine", "top", "()LLandingPads$Frame;"⟩, 9), (⟨"LandingPads$Machine", "step", "(LLandingPads$Frame;)I"⟩, 9), (⟨"LandingPads$Machine", "print", "(I)I"⟩, 9), (⟨"LandingPads$Machine", "raise", "(I)I"⟩, 9), (⟨"LandingPads$Machine", "findHandler", "(I)Z"⟩, 9), (⟨"LandingPads$Machine", "headOf", "(LLandingPads$Frame;)I"⟩, 9), (⟨"LandingPads$Machine", "firstCatching", "(LLandingPads$Frame;II)I"⟩, 9), (⟨"LandingPads$Machine", "unwind", "(I)I"⟩, 9), (⟨"LandingPads$Machine", "firstLanding", "(I)I"⟩, 9), (⟨"LandingPads$Machine", "isHandler", "(I)Z"⟩, 9), (⟨"LandingPads$Machine", "land", "(I)I"⟩, 9), (⟨"LandingPads$Machine", "jump", "(LLandingPads$Frame;I)I"⟩, 9), (⟨"LandingPads$Machine", "clean", "(I)I"⟩, 9), (⟨"LandingPads$Machine", "endCatch", "(LLandingPads$Frame;)I"⟩, 9), (⟨"LandingPads$Machine", "leave", "()I"⟩, 9)]
theorem lw_r2 : ∀ q ∈ lw_privs_2, lw_okq q := List.forall_mem_cons.mpr ⟨lw_p16, List.forall_mem_cons.mpr ⟨lw_p17, List.forall_mem_cons.mpr ⟨lw_p18, List.forall_mem_cons.mpr ⟨lw_p19, List.forall_mem_cons.mpr ⟨lw_p20, List.forall_mem_cons.mpr ⟨lw_p21, List.forall_mem_cons.mpr ⟨lw_p22, List.forall_mem_cons.mpr ⟨lw_p23, List.forall_mem_cons.mpr ⟨lw_p24, List.forall_mem_cons.mpr ⟨lw_p25, List.forall_mem_cons.mpr ⟨lw_p26, List.forall_mem_cons.mpr ⟨lw_p27, List.forall_mem_cons.mpr ⟨lw_p28, List.forall_mem_cons.mpr ⟨lw_p29, List.forall_mem_cons.mpr ⟨lw_p30, List.forall_mem_cons.mpr ⟨lw_p31, fun _ h => absurd h List.not_mem_nil⟩⟩⟩⟩⟩⟩⟩⟩⟩⟩⟩⟩⟩⟩⟩⟩
theorem lw_p32 : lw_okq (⟨"LandingPadsModel", "fails", "(ZZ)Z"⟩, 38) := ⟨⟨by decide +kernel, by decide +kernel⟩, List.mem_of_getElem? (i := 803) (by decide +kernel), List.mem_of_getElem? (i := 935) (by decide +kernel), List.mem_of_getElem? (i := 936) (by decide +kernel)⟩
theorem lw_p33 : lw_okq (⟨"LandingPadsModel", "fits", "(II)Z"⟩, 38) := ⟨⟨by decide +kernel, by decide +kernel⟩, List.mem_of_getElem? (i := 803) (by decide +kernel), List.mem_of_getElem? (i := 943) (by decide +kernel), List.mem_of_getElem? (i := 944) (by decide +kernel)⟩
theorem lw_p34 : lw_okq (⟨"LandingPadsModel", "wellFormed", "(I)Z"⟩, 38) := ⟨⟨by decide +kernel, by decide +kernel⟩, List.mem_of_getElem? (i := 803) (by decide +kernel), List.mem_of_getElem? (i := 955) (by decide +kernel), List.mem_of_getElem? (i := 956) (by decide +kernel)⟩
theorem lw_p35 : lw_okq (⟨"LandingPadsModel", "mayStand", "(I)Z"⟩, 38) := ⟨⟨by decide +kernel, by decide +kernel⟩, List.mem_of_getElem? (i := 803) (by decide +kernel), List.mem_of_getElem? (i := 959) (by decide +kernel), List.mem_of_getElem? (i := 960) (by decide +kernel)⟩
theorem lw_p36 : lw_okq (⟨"LandingPadsModel", "inCatch", "()Z"⟩, 38) := ⟨⟨by decide +kernel, by decide +kernel⟩, List.mem_of_getElem? (i := 803) (by decide +kernel), List.mem_of_getElem? (i := 963) (by decide +kernel), List.mem_of_getElem? (i := 964) (by decide +kernel)⟩
theorem lw_p37 : lw_okq (⟨"LandingPadsModel", "emit", "(III)V"⟩, 38) := ⟨⟨by decide +kernel, by decide +kernel⟩, List.mem_of_getElem? (i := 803) (by decide +kernel), List.mem_of_getElem? (i := 967) (by decide +kernel), List.mem_of_getElem? (i := 968) (by decide +kernel)⟩
theorem lw_p38 : lw_okq (⟨"LandingPadsModel", "newAction", "(III)I"⟩, 38) := ⟨⟨by decide +kernel, by decide +kernel⟩, List.mem_of_getElem? (i := 803) (by decide +kernel), List.mem_of_getElem? (i := 971) (by decide +kernel), List.mem_of_getElem? (i := 972) (by decide +kernel)⟩
theorem lw_p39 : lw_okq (⟨"LandingPadsModel", "opens", "(II)V"⟩, 38) := ⟨⟨by decide +kernel, by decide +kernel⟩, List.mem_of_getElem? (i := 803) (by decide +kernel), List.mem_of_getElem? (i := 975) (by decide +kernel), List.mem_of_getElem? (i := 976) (by decide +kernel)⟩
theorem lw_p40 : lw_okq (⟨"LandingPadsModel", "tries", "(II)V"⟩, 38) := ⟨⟨by decide +kernel, by decide +kernel⟩, List.mem_of_getElem? (i := 803) (by decide +kernel), List.mem_of_getElem? (i := 979) (by decide +kernel), List.mem_of_getElem? (i := 980) (by decide +kernel)⟩
theorem lw_p41 : lw_okq (⟨"LandingPadsModel", "catches", "(I)V"⟩, 38) := ⟨⟨by decide +kernel, by decide +kernel⟩, List.mem_of_getElem? (i := 803) (by decide +kernel), List.mem_of_getElem? (i := 983) (by decide +kernel), List.mem_of_getElem? (i := 984) (by decide +kernel)⟩
theorem lw_p42 : lw_okq (⟨"LandingPadsModel", "caughtRowEnds", "(I)V"⟩, 38) := ⟨⟨by decide +kernel, by decide +kernel⟩, List.mem_of_getElem? (i := 803) (by decide +kernel), List.mem_of_getElem? (i := 987) (by decide +kernel), List.mem_of_getElem? (i := 988) (by decide +kernel)⟩
theorem lw_p43 : lw_okq (⟨"LandingPadsModel", "lands", "(II)V"⟩, 38) := ⟨⟨by decide +kernel, by decide +kernel⟩, List.mem_of_getElem? (i := 803) (by decide +kernel), List.mem_of_getElem? (i := 991) (by decide +kernel), List.mem_of_getElem? (i := 992) (by decide +kernel)⟩
theorem lw_p44 : lw_okq (⟨"LandingPadsModel", "ends", "(I)V"⟩, 38) := ⟨⟨by decide +kernel, by decide +kernel⟩, List.mem_of_getElem? (i := 803) (by decide +kernel), List.mem_of_getElem? (i := 995) (by decide +kernel), List.mem_of_getElem? (i := 996) (by decide +kernel)⟩
theorem lw_p45 : lw_okq (⟨"LandingPadsModel", "closes", "(I)V"⟩, 38) := ⟨⟨by decide +kernel, by decide +kernel⟩, List.mem_of_getElem? (i := 803) (by decide +kernel), List.mem_of_getElem? (i := 999) (by decide +kernel), List.mem_of_getElem? (i := 1000) (by decide +kernel)⟩
theorem lw_p46 : lw_okq (⟨"LandingPadsModel", "collectSites", "(I)V"⟩, 38) := ⟨⟨by decide +kernel, by decide +kernel⟩, List.mem_of_getElem? (i := 803) (by decide +kernel), List.mem_of_getElem? (i := 1003) (by decide +kernel), List.mem_of_getElem? (i := 1004) (by decide +kernel)⟩
theorem lw_p47 : lw_okq (⟨"LandingPadsModel", "enters", "(I)V"⟩, 38) := ⟨⟨by decide +kernel, by decide +kernel⟩, List.mem_of_getElem? (i := 803) (by decide +kernel), List.mem_of_getElem? (i := 1027) (by decide +kernel), List.mem_of_getElem? (i := 1028) (by decide +kernel)⟩
def lw_privs_3 : List (MethodName × Nat) := [(⟨"LandingPadsModel", "fails", "(ZZ)Z"⟩, 38), (⟨"LandingPadsModel", "fits", "(II)Z"⟩, 38), (⟨"LandingPadsModel", "wellFormed", "(I)Z"⟩, 38), (⟨"LandingPadsModel", "mayStand", "(I)Z"⟩, 38), (⟨"LandingPadsModel", "inCatch", "()Z"⟩, 38), (⟨"LandingPadsModel", "emit", "(III)V"⟩, 38), (⟨"LandingPadsModel", "newAction", "(III)I"⟩, 38), (⟨"LandingPadsModel", "opens", "(II)V"⟩, 38), (⟨"LandingPadsModel", "tries", "(II)V"⟩, 38), (⟨"LandingPadsModel", "catches", "(I)V"⟩, 38), (⟨"LandingPadsModel", "caughtRowEnds", "(I)V"⟩, 38), (⟨"LandingPadsModel", "lands", "(II)V"⟩, 38), (⟨"LandingPadsModel", "ends", "(I)V"⟩, 38), (⟨"LandingPadsModel", "closes", "(I)V"⟩, 38), (⟨"LandingPadsModel", "collectSites", "(I)V"⟩, 38), (⟨"LandingPadsModel", "enters", "(I)V"⟩, 38)]
theorem lw_r3 : ∀ q ∈ lw_privs_3, lw_okq q := List.forall_mem_cons.mpr ⟨lw_p32, List.forall_mem_cons.mpr ⟨lw_p33, List.forall_mem_cons.mpr ⟨lw_p34, List.forall_mem_cons.mpr ⟨lw_p35, List.forall_mem_cons.mpr ⟨lw_p36, List.forall_mem_cons.mpr ⟨lw_p37, List.forall_mem_cons.mpr ⟨lw_p38, List.forall_mem_cons.mpr ⟨lw_p39, List.forall_mem_cons.mpr ⟨lw_p40, List.forall_mem_cons.mpr ⟨lw_p41, List.forall_mem_cons.mpr ⟨lw_p42, List.forall_mem_cons.mpr ⟨lw_p43, List.forall_mem_cons.mpr ⟨lw_p44, List.forall_mem_cons.mpr ⟨lw_p45, List.forall_mem_cons.mpr ⟨lw_p46, List.forall_mem_cons.mpr ⟨lw_p47, fun _ h => absurd h List.not_mem_nil⟩⟩⟩⟩⟩⟩⟩⟩⟩⟩⟩⟩⟩⟩⟩⟩
theorem lw_p48 : lw_okq (⟨"LandingPadsModel", "step", "()V"⟩, 38) := ⟨⟨by decide +kernel, by decide +kernel⟩, List.mem_of_getElem? (i := 803) (by decide +kernel), List.mem_of_getElem? (i := 1031) (by decide +kernel), List.mem_of_getElem? (i := 1032) (by decide +kernel)⟩
theorem lw_p49 : lw_okq (⟨"LandingPadsModel", "puts", "(I)V"⟩, 38) := ⟨⟨by decide +kernel, by decide +kernel⟩, List.mem_of_getElem? (i := 803) (by decide +kernel), List.mem_of_getElem? (i := 1035) (by decide +kernel), List.mem_of_getElem? (i := 1036) (by decide +kernel)⟩
theorem lw_p50 : lw_okq (⟨"LandingPadsModel", "calls", "(I)V"⟩, 38) := ⟨⟨by decide +kernel, by decide +kernel⟩, List.mem_of_getElem? (i := 803) (by decide +kernel), List.mem_of_getElem? (i := 1039) (by decide +kernel), List.mem_of_getElem? (i := 1040) (by decide +kernel)⟩
theorem lw_p51 : lw_okq (⟨"LandingPadsModel", "raises", "(I)V"⟩, 38) := ⟨⟨by decide +kernel, by decide +kernel⟩, List.mem_of_getElem? (i := 803) (by decide +kernel), List.mem_of_getElem? (i := 1043) (by decide +kernel), List.mem_of_getElem? (i := 1044) (by decide +kernel)⟩
theorem lw_p52 : lw_okq (⟨"LandingPadsModel", "searches", "()Z"⟩, 38) := ⟨⟨by decide +kernel, by decide +kernel⟩, List.mem_of_getElem? (i := 803) (by decide +kernel), List.mem_of_getElem? (i := 1047) (by decide +kernel), List.mem_of_getElem? (i := 1048) (by decide +kernel)⟩
theorem lw_p53 : lw_okq (⟨"LandingPadsModel", "headAt", "(I)I"⟩, 38) := ⟨⟨by decide +kernel, by decide +kernel⟩, List.mem_of_getElem? (i := 803) (by decide +kernel), List.mem_of_getElem? (i := 1051) (by decide +kernel), List.mem_of_getElem? (i := 1052) (by decide +kernel)⟩
theorem lw_p54 : lw_okq (⟨"LandingPadsModel", "isAnother", "(II)Z"⟩, 38) := ⟨⟨by decide +kernel, by decide +kernel⟩, List.mem_of_getElem? (i := 803) (by decide +kernel), List.mem_of_getElem? (i := 1055) (by decide +kernel), List.mem_of_getElem? (i := 1056) (by decide +kernel)⟩
theorem lw_p55 : lw_okq (⟨"LandingPadsModel", "unwinds", "(I)V"⟩, 38) := ⟨⟨by decide +kernel, by decide +kernel⟩, List.mem_of_getElem? (i := 803) (by decide +kernel), List.mem_of_getElem? (i := 1059) (by decide +kernel), List.mem_of_getElem? (i := 1060) (by decide +kernel)⟩
def lw_privs_4 : List (MethodName × Nat) := [(⟨"LandingPadsModel", "step", "()V"⟩, 38), (⟨"LandingPadsModel", "puts", "(I)V"⟩, 38), (⟨"LandingPadsModel", "calls", "(I)V"⟩, 38), (⟨"LandingPadsModel", "raises", "(I)V"⟩, 38), (⟨"LandingPadsModel", "searches", "()Z"⟩, 38), (⟨"LandingPadsModel", "headAt", "(I)I"⟩, 38), (⟨"LandingPadsModel", "isAnother", "(II)Z"⟩, 38), (⟨"LandingPadsModel", "unwinds", "(I)V"⟩, 38)]
theorem lw_r4 : ∀ q ∈ lw_privs_4, lw_okq q := List.forall_mem_cons.mpr ⟨lw_p48, List.forall_mem_cons.mpr ⟨lw_p49, List.forall_mem_cons.mpr ⟨lw_p50, List.forall_mem_cons.mpr ⟨lw_p51, List.forall_mem_cons.mpr ⟨lw_p52, List.forall_mem_cons.mpr ⟨lw_p53, List.forall_mem_cons.mpr ⟨lw_p54, List.forall_mem_cons.mpr ⟨lw_p55, fun _ h => absurd h List.not_mem_nil⟩⟩⟩⟩⟩⟩⟩⟩
def lw_privs : List (MethodName × Nat) := lw_privs_1 ++ (lw_privs_2 ++ (lw_privs_3 ++ (lw_privs_4)))
def lw_tbl : List Cond := k2_sels lw_privs ++ tables_1
theorem lw_privs_ok : ∀ q ∈ lw_privs, lw_okq q := by
  show ∀ q ∈ lw_privs_1 ++ (lw_privs_2 ++ (lw_privs_3 ++ (lw_privs_4))), lw_okq q
  exact List.forall_mem_append.mpr ⟨lw_r1, List.forall_mem_append.mpr ⟨lw_r2, List.forall_mem_append.mpr ⟨lw_r3, lw_r4⟩⟩⟩
end
section
/-! WORDS: of lw_tbl those that hold at warmer tables too; the words of nest mates apart -/
def gw : List Cond := lw_tbl.filter goodWord
theorem gw_of {w : Cond} (i : Nat) (h : lw_tbl[i]? = some w) (hg : goodWord w = true) : w ∈ gw := List.mem_filter.mpr ⟨List.mem_of_getElem? h, hg⟩
theorem gw_good {w : Cond} (h : w ∈ gw) : goodWord w = true := (List.mem_filter.mp h).2
theorem gw_in {w : Cond} (h : w ∈ gw) : w ∈ lw_tbl := (List.mem_filter.mp h).1
def R_Lp : String := "LandingPads"
def F_Lp : u_T := fun k => match k with
  | 0 => ("LandingPads", "texts", "[LLandingPads$Text;", true)
  | 1 => ("LandingPads", "checker", "LLandingPads$Checker;", true)
  | 2 => ("LandingPads", "compiler", "LLandingPads$Compiler;", true)
  | _ => ("LandingPads", "machine", "LLandingPads$Machine;", true)
def t_Lp : Nat → FieldType := fun k => match k with
  | 0 => .array (.object "LandingPads$Text")
  | 1 => .object "LandingPads$Checker"
  | 2 => .object "LandingPads$Compiler"
  | _ => .object "LandingPads$Machine"
theorem n_Lp : ∀ a, a < 4 → ∀ b, b < 4 → a ≠ b → (F_Lp a).2.1 ≠ (F_Lp b).2.1 := by decide +kernel
theorem t_Lp_ok : ∀ k, k < 4 → parseFieldDescriptor (F_Lp k).2.2.1 = some (t_Lp k) := by decide +kernel
def R_Bl : String := "LandingPads$Block"
def F_Bl : u_T := fun k => match k with
  | 0 => ("LandingPads$Block", "kind", "I", false)
  | 1 => ("LandingPads$Block", "operand", "I", false)
  | 2 => ("LandingPads$Block", "head", "I", false)
  | 3 => ("LandingPads$Block", "outerHead", "I", false)
  | 4 => ("LandingPads$Block", "nextCatch", "I", false)
  | 5 => ("LandingPads$Block", "exits", "[I", true)
  | _ => ("LandingPads$Block", "exitCount", "I", false)
def t_Bl : Nat → FieldType := fun k => match k with
  | 0 => .int
  | 1 => .int
  | 2 => .int
  | 3 => .int
  | 4 => .int
  | 5 => .array .int
  | _ => .int
theorem n_Bl : ∀ a, a < 7 → ∀ b, b < 7 → a ≠ b → (F_Bl a).2.1 ≠ (F_Bl b).2.1 := by decide +kernel
theorem t_Bl_ok : ∀ k, k < 7 → parseFieldDescriptor (F_Bl k).2.2.1 = some (t_Bl k) := by decide +kernel
def R_Ck : String := "LandingPads$Checker"
def F_Ck : u_T := fun k => match k with
  | 0 => ("LandingPads$Checker", "openers", "[I", true)
  | _ => ("LandingPads$Checker", "open", "I", false)
def t_Ck : Nat → FieldType := fun k => match k with
  | 0 => .array .int
  | _ => .int
theorem n_Ck : ∀ a, a < 2 → ∀ b, b < 2 → a ≠ b → (F_Ck a).2.1 ≠ (F_Ck b).2.1 := by decide +kernel
theorem t_Ck_ok : ∀ k, k < 2 → parseFieldDescriptor (F_Ck k).2.2.1 = some (t_Ck k) := by decide +kernel
def R_Co : String := "LandingPads$Compiler"
def F_Co : u_T := fun k => match k with
  | 0 => ("LandingPads$Compiler", "blocks", "[LLandingPads$Block;", true)
  | _ => ("LandingPads$Compiler", "open", "I", false)
def t_Co : Nat → FieldType := fun k => match k with
  | 0 => .array (.object "LandingPads$Block")
  | _ => .int
theorem n_Co : ∀ a, a < 2 → ∀ b, b < 2 → a ≠ b → (F_Co a).2.1 ≠ (F_Co b).2.1 := by decide +kernel
theorem t_Co_ok : ∀ k, k < 2 → parseFieldDescriptor (F_Co k).2.2.1 = some (t_Co k) := by decide +kernel
def R_Fr : String := "LandingPads$Frame"
def F_Fr : u_T := fun k => match k with
  | 0 => ("LandingPads$Frame", "function", "I", false)
  | 1 => ("LandingPads$Frame", "place", "I", false)
  | 2 => ("LandingPads$Frame", "caught", "[I", true)
  | _ => ("LandingPads$Frame", "caughtCount", "I", false)
def t_Fr : Nat → FieldType := fun k => match k with
  | 0 => .int
  | 1 => .int
  | 2 => .array .int
  | _ => .int
theorem n_Fr : ∀ a, a < 4 → ∀ b, b < 4 → a ≠ b → (F_Fr a).2.1 ≠ (F_Fr b).2.1 := by decide +kernel
theorem t_Fr_ok : ∀ k, k < 4 → parseFieldDescriptor (F_Fr k).2.2.1 = some (t_Fr k) := by decide +kernel
def R_Ma : String := "LandingPads$Machine"
def F_Ma : u_T := fun k => match k with
  | 0 => ("LandingPads$Machine", "types", "LLandingPads$Types;", true)
  | 1 => ("LandingPads$Machine", "programs", "[LLandingPads$Program;", true)
  | 2 => ("LandingPads$Machine", "latest", "LLandingPads$Tally;", true)
  | 3 => ("LandingPads$Machine", "frames", "[LLandingPads$Frame;", true)
  | 4 => ("LandingPads$Machine", "depth", "I", false)
  | 5 => ("LandingPads$Machine", "raised", "I", false)
  | 6 => ("LandingPads$Machine", "handlerDepth", "I", false)
  | 7 => ("LandingPads$Machine", "handlerAction", "I", false)
  | _ => ("LandingPads$Machine", "landedAction", "I", false)
def t_Ma : Nat → FieldType := fun k => match k with
  | 0 => .object "LandingPads$Types"
  | 1 => .array (.object "LandingPads$Program")
  | 2 => .object "LandingPads$Tally"
  | 3 => .array (.object "LandingPads$Frame")
  | 4 => .int
  | 5 => .int
  | 6 => .int
  | 7 => .int
  | _ => .int
theorem n_Ma : ∀ a, a < 9 → ∀ b, b < 9 → a ≠ b → (F_Ma a).2.1 ≠ (F_Ma b).2.1 := by decide +kernel
theorem t_Ma_ok : ∀ k, k < 9 → parseFieldDescriptor (F_Ma k).2.2.1 = some (t_Ma k) := by decide +kernel
def R_Pr : String := "LandingPads$Program"
def F_Pr : u_T := fun k => match k with
  | 0 => ("LandingPads$Program", "letters", "[I", true)
  | 1 => ("LandingPads$Program", "values", "[I", true)
  | 2 => ("LandingPads$Program", "instructions", "I", false)
  | 3 => ("LandingPads$Program", "filters", "[I", true)
  | 4 => ("LandingPads$Program", "landings", "[I", true)
  | 5 => ("LandingPads$Program", "nexts", "[I", true)
  | 6 => ("LandingPads$Program", "actions", "I", false)
  | 7 => ("LandingPads$Program", "firsts", "[I", true)
  | 8 => ("LandingPads$Program", "lasts", "[I", true)
  | 9 => ("LandingPads$Program", "heads", "[I", true)
  | _ => ("LandingPads$Program", "sites", "I", false)
def t_Pr : Nat → FieldType := fun k => match k with
  | 0 => .array .int
  | 1 => .array .int
  | 2 => .int
  | 3 => .array .int
  | 4 => .array .int
  | 5 => .array .int
  | 6 => .int
  | 7 => .array .int
  | 8 => .array .int
  | 9 => .array .int
  | _ => .int
theorem n_Pr : ∀ a, a < 11 → ∀ b, b < 11 → a ≠ b → (F_Pr a).2.1 ≠ (F_Pr b).2.1 := by decide +kernel
theorem t_Pr_ok : ∀ k, k < 11 → parseFieldDescriptor (F_Pr k).2.2.1 = some (t_Pr k) := by decide +kernel
def R_Ta : String := "LandingPads$Tally"
def F_Ta : u_T := fun k => match k with
  | 0 => ("LandingPads$Tally", "numbers", "[I", true)
  | 1 => ("LandingPads$Tally", "numbersOut", "I", false)
  | 2 => ("LandingPads$Tally", "steps", "I", false)
  | 3 => ("LandingPads$Tally", "cleaned", "I", false)
  | 4 => ("LandingPads$Tally", "handlersFound", "I", false)
  | 5 => ("LandingPads$Tally", "mostFrames", "I", false)
  | _ => ("LandingPads$Tally", "notCaught", "I", false)
def t_Ta : Nat → FieldType := fun k => match k with
  | 0 => .array .int
  | 1 => .int
  | 2 => .int
  | 3 => .int
  | 4 => .int
  | 5 => .int
  | _ => .int
theorem n_Ta : ∀ a, a < 7 → ∀ b, b < 7 → a ≠ b → (F_Ta a).2.1 ≠ (F_Ta b).2.1 := by decide +kernel
theorem t_Ta_ok : ∀ k, k < 7 → parseFieldDescriptor (F_Ta k).2.2.1 = some (t_Ta k) := by decide +kernel
def R_Tx : String := "LandingPads$Text"
def F_Tx : u_T := fun k => match k with
  | 0 => ("LandingPads$Text", "statements", "[I", true)
  | 1 => ("LandingPads$Text", "operands", "[I", true)
  | _ => ("LandingPads$Text", "length", "I", false)
def t_Tx : Nat → FieldType := fun k => match k with
  | 0 => .array .int
  | 1 => .array .int
  | _ => .int
theorem n_Tx : ∀ a, a < 3 → ∀ b, b < 3 → a ≠ b → (F_Tx a).2.1 ≠ (F_Tx b).2.1 := by decide +kernel
theorem t_Tx_ok : ∀ k, k < 3 → parseFieldDescriptor (F_Tx k).2.2.1 = some (t_Tx k) := by decide +kernel
def R_Ty : String := "LandingPads$Types"
def F_Ty : u_T := fun k => match k with
  | 0 => ("LandingPads$Types", "parents", "[I", true)
  | _ => ("LandingPads$Types", "made", "I", false)
def t_Ty : Nat → FieldType := fun k => match k with
  | 0 => .array .int
  | _ => .int
theorem n_Ty : ∀ a, a < 2 → ∀ b, b < 2 → a ≠ b → (F_Ty a).2.1 ≠ (F_Ty b).2.1 := by decide +kernel
theorem t_Ty_ok : ∀ k, k < 2 → parseFieldDescriptor (F_Ty k).2.2.1 = some (t_Ty k) := by decide +kernel
def R_Mo : String := "LandingPadsModel"
def F_Mo : u_T := fun k => match k with
  | 0 => ("LandingPadsModel", "thrown", "I", false)
  | 1 => ("LandingPadsModel", "types", "I", false)
  | 2 => ("LandingPadsModel", "parent", "[I", true)
  | 3 => ("LandingPadsModel", "texts", "[I", true)
  | 4 => ("LandingPadsModel", "statement", "[I", true)
  | 5 => ("LandingPadsModel", "number", "[I", true)
  | 6 => ("LandingPadsModel", "codes", "[I", true)
  | 7 => ("LandingPadsModel", "letter", "[I", true)
  | 8 => ("LandingPadsModel", "operand", "[I", true)
  | 9 => ("LandingPadsModel", "headOf", "[I", true)
  | 10 => ("LandingPadsModel", "actions", "[I", true)
  | 11 => ("LandingPadsModel", "filter", "[I", true)
  | 12 => ("LandingPadsModel", "landing", "[I", true)
  | 13 => ("LandingPadsModel", "next", "[I", true)
  | 14 => ("LandingPadsModel", "sites", "[I", true)
  | 15 => ("LandingPadsModel", "siteFirst", "[I", true)
  | 16 => ("LandingPadsModel", "siteLast", "[I", true)
  | 17 => ("LandingPadsModel", "siteHead", "[I", true)
  | 18 => ("LandingPadsModel", "open", "I", false)
  | 19 => ("LandingPadsModel", "rowKind", "[I", true)
  | 20 => ("LandingPadsModel", "rowHead", "[I", true)
  | 21 => ("LandingPadsModel", "around", "[I", true)
  | 22 => ("LandingPadsModel", "nextCatch", "[I", true)
  | 23 => ("LandingPadsModel", "ending", "[I", true)
  | 24 => ("LandingPadsModel", "rowNumber", "[I", true)
  | 25 => ("LandingPadsModel", "frames", "I", false)
  | 26 => ("LandingPadsModel", "function", "[I", true)
  | 27 => ("LandingPadsModel", "at", "[I", true)
  | 28 => ("LandingPadsModel", "place", "[I", true)
  | 29 => ("LandingPadsModel", "caughts", "[I", true)
  | 30 => ("LandingPadsModel", "caught", "[I", true)
  | 31 => ("LandingPadsModel", "flying", "I", false)
  | 32 => ("LandingPadsModel", "handlerFrame", "I", false)
  | 33 => ("LandingPadsModel", "handler", "I", false)
  | 34 => ("LandingPadsModel", "action", "I", false)
  | 35 => ("LandingPadsModel", "ended", "I", false)
  | 36 => ("LandingPadsModel", "counts", "[I", true)
  | _ => ("LandingPadsModel", "outs", "[I", true)
def t_Mo : Nat → FieldType := fun k => match k with
  | 0 => .int
  | 1 => .int
  | 2 => .array .int
  | 3 => .array .int
  | 4 => .array .int
  | 5 => .array .int
  | 6 => .array .int
  | 7 => .array .int
  | 8 => .array .int
  | 9 => .array .int
  | 10 => .array .int
  | 11 => .array .int
  | 12 => .array .int
  | 13 => .array .int
  | 14 => .array .int
  | 15 => .array .int
  | 16 => .array .int
  | 17 => .array .int
  | 18 => .int
  | 19 => .array .int
  | 20 => .array .int
  | 21 => .array .int
  | 22 => .array .int
  | 23 => .array .int
  | 24 => .array .int
  | 25 => .int
  | 26 => .array .int
  | 27 => .array .int
  | 28 => .array .int
  | 29 => .array .int
  | 30 => .array .int
  | 31 => .int
  | 32 => .int
  | 33 => .int
  | 34 => .int
  | 35 => .int
  | 36 => .array .int
  | _ => .array .int
theorem n_Mo : ∀ a, a < 38 → ∀ b, b < 38 → a ≠ b → (F_Mo a).2.1 ≠ (F_Mo b).2.1 := by decide +kernel
theorem t_Mo_ok : ∀ k, k < 38 → parseFieldDescriptor (F_Mo k).2.2.1 = some (t_Mo k) := by decide +kernel
def R_La : String := "LandingPadsLaw"
abbrev classes : List vw_C := [(R_Lp, F_Lp, 4), (R_Bl, F_Bl, 7), (R_Ck, F_Ck, 2), (R_Co, F_Co, 2), (R_Fr, F_Fr, 4), (R_Ma, F_Ma, 9), (R_Pr, F_Pr, 11), (R_Ta, F_Ta, 7), (R_Tx, F_Tx, 3), (R_Ty, F_Ty, 2), (R_Mo, F_Mo, 38)]
abbrev b_Lp_init : ByteArray := prog_1_method_1_code
def y_Lp_init : MethodName := ⟨R_Lp, "<init>", "()V"⟩
abbrev b_Tx_init : ByteArray := prog_9_method_1_code
def y_Tx_init : MethodName := ⟨R_Tx, "<init>", "()V"⟩
abbrev b_Ck_init : ByteArray := prog_3_method_1_code
def y_Ck_init : MethodName := ⟨R_Ck, "<init>", "()V"⟩
abbrev b_Co_init : ByteArray := prog_4_method_1_code
def y_Co_init : MethodName := ⟨R_Co, "<init>", "()V"⟩
abbrev b_Bl_init : ByteArray := prog_2_method_1_code
def y_Bl_init : MethodName := ⟨R_Bl, "<init>", "()V"⟩
abbrev b_Ma_init : ByteArray := prog_6_method_1_code
def y_Ma_init : MethodName := ⟨R_Ma, "<init>", "()V"⟩
abbrev b_Ty_init : ByteArray := prog_10_method_1_code
def y_Ty_init : MethodName := ⟨R_Ty, "<init>", "()V"⟩
abbrev b_Ta_init : ByteArray := prog_8_method_1_code
def y_Ta_init : MethodName := ⟨R_Ta, "<init>", "()V"⟩
abbrev b_Pr_init : ByteArray := prog_7_method_1_code
def y_Pr_init : MethodName := ⟨R_Pr, "<init>", "()V"⟩
abbrev b_Fr_init : ByteArray := prog_5_method_1_code
def y_Fr_init : MethodName := ⟨R_Fr, "<init>", "()V"⟩
abbrev b_La_type : ByteArray := method_3_code
def y_La_type : MethodName := ⟨R_La, "type", "(LLandingPads;I[J)I"⟩
abbrev b_Lp_type : ByteArray := prog_1_method_2_code
def y_Lp_type : MethodName := ⟨R_Lp, "type", "(I)I"⟩
abbrev b_Ty_has : ByteArray := prog_10_method_2_code
def y_Ty_has : MethodName := ⟨R_Ty, "has", "(I)Z"⟩
abbrev b_Ty_isFull : ByteArray := prog_10_method_3_code
def y_Ty_isFull : MethodName := ⟨R_Ty, "isFull", "()Z"⟩
abbrev b_Ty_make : ByteArray := prog_10_method_4_code
def y_Ty_make : MethodName := ⟨R_Ty, "make", "(I)I"⟩
abbrev b_La_add : ByteArray := method_4_code
def y_La_add : MethodName := ⟨R_La, "add", "(LLandingPads;III[J)I"⟩
abbrev b_Lp_add : ByteArray := prog_1_method_3_code
def y_Lp_add : MethodName := ⟨R_Lp, "add", "(III)I"⟩
abbrev b_Lp_requireFunction : ByteArray := prog_1_method_14_code
def y_Lp_requireFunction : MethodName := ⟨R_Lp, "requireFunction", "(I)V"⟩
abbrev b_Lp_isFunction : ByteArray := prog_1_method_13_code
def y_Lp_isFunction : MethodName := ⟨R_Lp, "isFunction", "(I)Z"⟩
abbrev b_Lp_isAllowed : ByteArray := prog_1_method_15_code
def y_Lp_isAllowed : MethodName := ⟨R_Lp, "isAllowed", "(II)Z"⟩
abbrev b_Tx_isFull : ByteArray := prog_9_method_2_code
def y_Tx_isFull : MethodName := ⟨R_Tx, "isFull", "()Z"⟩
abbrev b_Tx_append : ByteArray := prog_9_method_3_code
def y_Tx_append : MethodName := ⟨R_Tx, "append", "(II)I"⟩
abbrev b_La_wipe : ByteArray := method_5_code
def y_La_wipe : MethodName := ⟨R_La, "wipe", "(LLandingPads;I)I"⟩
abbrev b_Lp_wipe : ByteArray := prog_1_method_4_code
def y_Lp_wipe : MethodName := ⟨R_Lp, "wipe", "(I)V"⟩
abbrev b_La_compile : ByteArray := method_6_code
def y_La_compile : MethodName := ⟨R_La, "compile", "(LLandingPads;I[J)I"⟩
abbrev b_Lp_compile : ByteArray := prog_1_method_5_code
def y_Lp_compile : MethodName := ⟨R_Lp, "compile", "(I)I"⟩
abbrev b_Ck_isWellFormed : ByteArray := prog_3_method_2_code
def y_Ck_isWellFormed : MethodName := ⟨R_Ck, "isWellFormed", "(LLandingPads$Text;)Z"⟩
abbrev b_Tx_statementAt : ByteArray := prog_9_method_5_code
def y_Tx_statementAt : MethodName := ⟨R_Tx, "statementAt", "(I)I"⟩
abbrev b_Tx_has : ByteArray := prog_9_method_4_code
def y_Tx_has : MethodName := ⟨R_Tx, "has", "(I)Z"⟩
abbrev b_Ck_accepts : ByteArray := prog_3_method_3_code
def y_Ck_accepts : MethodName := ⟨R_Ck, "accepts", "(I)Z"⟩
abbrev b_Ck_opensRow : ByteArray := prog_3_method_4_code
def y_Ck_opensRow : MethodName := ⟨R_Ck, "opensRow", "(I)Z"⟩
abbrev b_Ck_turnsToCatch : ByteArray := prog_3_method_5_code
def y_Ck_turnsToCatch : MethodName := ⟨R_Ck, "turnsToCatch", "()Z"⟩
abbrev b_Ck_closesRow : ByteArray := prog_3_method_6_code
def y_Ck_closesRow : MethodName := ⟨R_Ck, "closesRow", "()Z"⟩
abbrev b_Ck_isInCatch : ByteArray := prog_3_method_7_code
def y_Ck_isInCatch : MethodName := ⟨R_Ck, "isInCatch", "()Z"⟩
abbrev b_Co_translate : ByteArray := prog_4_method_2_code
def y_Co_translate : MethodName := ⟨R_Co, "translate", "(LLandingPads$Text;LLandingPads$Program;)V"⟩
abbrev b_Pr_clear : ByteArray := prog_7_method_2_code
def y_Pr_clear : MethodName := ⟨R_Pr, "clear", "()V"⟩
abbrev b_Co_translateStatement : ByteArray := prog_4_method_3_code
def y_Co_translateStatement : MethodName := ⟨R_Co, "translateStatement", "(LLandingPads$Text;ILLandingPads$Program;)V"⟩
abbrev b_Tx_operandAt : ByteArray := prog_9_method_6_code
def y_Tx_operandAt : MethodName := ⟨R_Tx, "operandAt", "(I)I"⟩
abbrev b_Pr_emit : ByteArray := prog_7_method_16_code
def y_Pr_emit : MethodName := ⟨R_Pr, "emit", "(II)V"⟩
abbrev b_Co_currentHead : ByteArray := prog_4_method_4_code
def y_Co_currentHead : MethodName := ⟨R_Co, "currentHead", "()I"⟩
abbrev b_Pr_emitAtSite : ByteArray := prog_7_method_17_code
def y_Pr_emitAtSite : MethodName := ⟨R_Pr, "emitAtSite", "(III)V"⟩
abbrev b_Pr_makeAction : ByteArray := prog_7_method_19_code
def y_Pr_makeAction : MethodName := ⟨R_Pr, "makeAction", "(II)I"⟩
abbrev b_Co_openBlock : ByteArray := prog_4_method_5_code
def y_Co_openBlock : MethodName := ⟨R_Co, "openBlock", "(III)V"⟩
abbrev b_Bl_begin : ByteArray := prog_2_method_2_code
def y_Bl_begin : MethodName := ⟨R_Bl, "begin", "(IIII)V"⟩
abbrev b_Co_makeCatchActions : ByteArray := prog_4_method_6_code
def y_Co_makeCatchActions : MethodName := ⟨R_Co, "makeCatchActions", "(LLandingPads$Text;ILLandingPads$Program;)I"⟩
abbrev b_Pr_chain : ByteArray := prog_7_method_20_code
def y_Pr_chain : MethodName := ⟨R_Pr, "chain", "(II)V"⟩
abbrev b_Pr_hasAction : ByteArray := prog_7_method_5_code
def y_Pr_hasAction : MethodName := ⟨R_Pr, "hasAction", "(I)Z"⟩
abbrev b_Co_beginCatch : ByteArray := prog_4_method_7_code
def y_Co_beginCatch : MethodName := ⟨R_Co, "beginCatch", "(LLandingPads$Program;)V"⟩
abbrev b_Co_emitExit : ByteArray := prog_4_method_11_code
def y_Co_emitExit : MethodName := ⟨R_Co, "emitExit", "(LLandingPads$Block;LLandingPads$Program;)V"⟩
abbrev b_Bl_noteExit : ByteArray := prog_2_method_3_code
def y_Bl_noteExit : MethodName := ⟨R_Bl, "noteExit", "(I)V"⟩
abbrev b_Co_finishCatch : ByteArray := prog_4_method_10_code
def y_Co_finishCatch : MethodName := ⟨R_Co, "finishCatch", "(LLandingPads$Block;LLandingPads$Program;)V"⟩
abbrev b_Pr_landHere : ByteArray := prog_7_method_21_code
def y_Pr_landHere : MethodName := ⟨R_Pr, "landHere", "(I)V"⟩
abbrev b_Co_closeBlock : ByteArray := prog_4_method_8_code
def y_Co_closeBlock : MethodName := ⟨R_Co, "closeBlock", "(LLandingPads$Program;)V"⟩
abbrev b_Co_finishLocal : ByteArray := prog_4_method_9_code
def y_Co_finishLocal : MethodName := ⟨R_Co, "finishLocal", "(LLandingPads$Block;LLandingPads$Program;)V"⟩
abbrev b_Bl_aimExits : ByteArray := prog_2_method_4_code
def y_Bl_aimExits : MethodName := ⟨R_Bl, "aimExits", "(LLandingPads$Program;)V"⟩
abbrev b_Pr_aim : ByteArray := prog_7_method_18_code
def y_Pr_aim : MethodName := ⟨R_Pr, "aim", "(II)V"⟩
abbrev b_Pr_hasInstruction : ByteArray := prog_7_method_4_code
def y_Pr_hasInstruction : MethodName := ⟨R_Pr, "hasInstruction", "(I)Z"⟩
abbrev b_La_size : ByteArray := method_7_code
def y_La_size : MethodName := ⟨R_La, "size", "(LLandingPads;II[J)I"⟩
abbrev b_Lp_size : ByteArray := prog_1_method_6_code
def y_Lp_size : MethodName := ⟨R_Lp, "size", "(II)I"⟩
abbrev b_La_code : ByteArray := method_8_code
def y_La_code : MethodName := ⟨R_La, "code", "(LLandingPads;III[J)I"⟩
abbrev b_Lp_code : ByteArray := prog_1_method_7_code
def y_Lp_code : MethodName := ⟨R_Lp, "code", "(III)I"⟩
abbrev b_Pr_letterAt : ByteArray := prog_7_method_7_code
def y_Pr_letterAt : MethodName := ⟨R_Pr, "letterAt", "(I)I"⟩
abbrev b_Pr_valueAt : ByteArray := prog_7_method_8_code
def y_Pr_valueAt : MethodName := ⟨R_Pr, "valueAt", "(I)I"⟩
abbrev b_La_action : ByteArray := method_9_code
def y_La_action : MethodName := ⟨R_La, "action", "(LLandingPads;III[J)I"⟩
abbrev b_Lp_action : ByteArray := prog_1_method_8_code
def y_Lp_action : MethodName := ⟨R_Lp, "action", "(III)I"⟩
abbrev b_Pr_filterOf : ByteArray := prog_7_method_9_code
def y_Pr_filterOf : MethodName := ⟨R_Pr, "filterOf", "(I)I"⟩
abbrev b_Pr_landingOf : ByteArray := prog_7_method_10_code
def y_Pr_landingOf : MethodName := ⟨R_Pr, "landingOf", "(I)I"⟩
abbrev b_Pr_nextOf : ByteArray := prog_7_method_11_code
def y_Pr_nextOf : MethodName := ⟨R_Pr, "nextOf", "(I)I"⟩
abbrev b_La_site : ByteArray := method_10_code
def y_La_site : MethodName := ⟨R_La, "site", "(LLandingPads;III[J)I"⟩
abbrev b_Lp_site : ByteArray := prog_1_method_9_code
def y_Lp_site : MethodName := ⟨R_Lp, "site", "(III)I"⟩
abbrev b_Pr_hasSite : ByteArray := prog_7_method_6_code
def y_Pr_hasSite : MethodName := ⟨R_Pr, "hasSite", "(I)Z"⟩
abbrev b_Pr_firstPlaceOf : ByteArray := prog_7_method_12_code
def y_Pr_firstPlaceOf : MethodName := ⟨R_Pr, "firstPlaceOf", "(I)I"⟩
abbrev b_Pr_lastPlaceOf : ByteArray := prog_7_method_13_code
def y_Pr_lastPlaceOf : MethodName := ⟨R_Pr, "lastPlaceOf", "(I)I"⟩
abbrev b_Pr_siteHeadOf : ByteArray := prog_7_method_14_code
def y_Pr_siteHeadOf : MethodName := ⟨R_Pr, "siteHeadOf", "(I)I"⟩
abbrev b_La_run : ByteArray := method_11_code
def y_La_run : MethodName := ⟨R_La, "run", "(LLandingPads;I[J)I"⟩
abbrev b_Lp_run : ByteArray := prog_1_method_10_code
def y_Lp_run : MethodName := ⟨R_Lp, "run", "(I)I"⟩
abbrev b_Pr_isMade : ByteArray := prog_7_method_3_code
def y_Pr_isMade : MethodName := ⟨R_Pr, "isMade", "()Z"⟩
abbrev b_Ma_execute : ByteArray := prog_6_method_2_code
def y_Ma_execute : MethodName := ⟨R_Ma, "execute", "(I)I"⟩
abbrev b_Ta_clear : ByteArray := prog_8_method_2_code
def y_Ta_clear : MethodName := ⟨R_Ta, "clear", "()V"⟩
abbrev b_Ma_enter : ByteArray := prog_6_method_9_code
def y_Ma_enter : MethodName := ⟨R_Ma, "enter", "(I)I"⟩
abbrev b_Fr_begin : ByteArray := prog_5_method_2_code
def y_Fr_begin : MethodName := ⟨R_Fr, "begin", "(I)V"⟩
abbrev b_Ma_top : ByteArray := prog_6_method_3_code
def y_Ma_top : MethodName := ⟨R_Ma, "top", "()LLandingPads$Frame;"⟩
abbrev b_Ma_step : ByteArray := prog_6_method_4_code
def y_Ma_step : MethodName := ⟨R_Ma, "step", "(LLandingPads$Frame;)I"⟩
abbrev b_Ma_print : ByteArray := prog_6_method_5_code
def y_Ma_print : MethodName := ⟨R_Ma, "print", "(I)I"⟩
abbrev b_Ta_isFull : ByteArray := prog_8_method_3_code
def y_Ta_isFull : MethodName := ⟨R_Ta, "isFull", "()Z"⟩
abbrev b_Ta_put : ByteArray := prog_8_method_4_code
def y_Ta_put : MethodName := ⟨R_Ta, "put", "(I)V"⟩
abbrev b_Ma_raise : ByteArray := prog_6_method_11_code
def y_Ma_raise : MethodName := ⟨R_Ma, "raise", "(I)I"⟩
abbrev b_Ma_findHandler : ByteArray := prog_6_method_13_code
def y_Ma_findHandler : MethodName := ⟨R_Ma, "findHandler", "(I)Z"⟩
abbrev b_Ma_headOf : ByteArray := prog_6_method_12_code
def y_Ma_headOf : MethodName := ⟨R_Ma, "headOf", "(LLandingPads$Frame;)I"⟩
abbrev b_Fr_currentPlace : ByteArray := prog_5_method_3_code
def y_Fr_currentPlace : MethodName := ⟨R_Fr, "currentPlace", "()I"⟩
abbrev b_Pr_headAround : ByteArray := prog_7_method_15_code
def y_Pr_headAround : MethodName := ⟨R_Pr, "headAround", "(I)I"⟩
abbrev b_Ma_firstCatching : ByteArray := prog_6_method_14_code
def y_Ma_firstCatching : MethodName := ⟨R_Ma, "firstCatching", "(LLandingPads$Frame;II)I"⟩
abbrev b_Ty_isAnother : ByteArray := prog_10_method_5_code
def y_Ty_isAnother : MethodName := ⟨R_Ty, "isAnother", "(II)Z"⟩
abbrev b_Ma_unwind : ByteArray := prog_6_method_15_code
def y_Ma_unwind : MethodName := ⟨R_Ma, "unwind", "(I)I"⟩
abbrev b_Ma_firstLanding : ByteArray := prog_6_method_16_code
def y_Ma_firstLanding : MethodName := ⟨R_Ma, "firstLanding", "(I)I"⟩
abbrev b_Ma_isHandler : ByteArray := prog_6_method_17_code
def y_Ma_isHandler : MethodName := ⟨R_Ma, "isHandler", "(I)Z"⟩
abbrev b_Ma_land : ByteArray := prog_6_method_18_code
def y_Ma_land : MethodName := ⟨R_Ma, "land", "(I)I"⟩
abbrev b_Fr_pushCaught : ByteArray := prog_5_method_4_code
def y_Fr_pushCaught : MethodName := ⟨R_Fr, "pushCaught", "(I)V"⟩
abbrev b_Ma_jump : ByteArray := prog_6_method_7_code
def y_Ma_jump : MethodName := ⟨R_Ma, "jump", "(LLandingPads$Frame;I)I"⟩
abbrev b_Fr_latestCaught : ByteArray := prog_5_method_6_code
def y_Fr_latestCaught : MethodName := ⟨R_Fr, "latestCaught", "()I"⟩
abbrev b_Ma_clean : ByteArray := prog_6_method_6_code
def y_Ma_clean : MethodName := ⟨R_Ma, "clean", "(I)I"⟩
abbrev b_Ma_endCatch : ByteArray := prog_6_method_8_code
def y_Ma_endCatch : MethodName := ⟨R_Ma, "endCatch", "(LLandingPads$Frame;)I"⟩
abbrev b_Fr_dropCaught : ByteArray := prog_5_method_5_code
def y_Fr_dropCaught : MethodName := ⟨R_Fr, "dropCaught", "()V"⟩
abbrev b_Ma_leave : ByteArray := prog_6_method_10_code
def y_Ma_leave : MethodName := ⟨R_Ma, "leave", "()I"⟩
abbrev b_La_count : ByteArray := method_12_code
def y_La_count : MethodName := ⟨R_La, "count", "(LLandingPads;I[J)I"⟩
abbrev b_Lp_count : ByteArray := prog_1_method_11_code
def y_Lp_count : MethodName := ⟨R_Lp, "count", "(I)I"⟩
abbrev b_La_out : ByteArray := method_13_code
def y_La_out : MethodName := ⟨R_La, "out", "(LLandingPads;I[J)I"⟩
abbrev b_Lp_out : ByteArray := prog_1_method_12_code
def y_Lp_out : MethodName := ⟨R_Lp, "out", "(I)I"⟩
abbrev b_Ta_hasNumber : ByteArray := prog_8_method_5_code
def y_Ta_hasNumber : MethodName := ⟨R_Ta, "hasNumber", "(I)Z"⟩
abbrev b_Ta_numberAt : ByteArray := prog_8_method_6_code
def y_Ta_numberAt : MethodName := ⟨R_Ta, "numberAt", "(I)I"⟩
abbrev b_Mo_init : ByteArray := prog_12_method_1_code
def y_Mo_init : MethodName := ⟨R_Mo, "<init>", "()V"⟩
abbrev b_Mo_thrown : ByteArray := prog_12_method_2_code
def y_Mo_thrown : MethodName := ⟨R_Mo, "thrown", "()I"⟩
abbrev b_Mo_type : ByteArray := prog_12_method_5_code
def y_Mo_type : MethodName := ⟨R_Mo, "type", "(I)I"⟩
abbrev b_Mo_outside : ByteArray := prog_12_method_4_code
def y_Mo_outside : MethodName := ⟨R_Mo, "outside", "(III)Z"⟩
abbrev b_Mo_fails : ByteArray := prog_12_method_3_code
def y_Mo_fails : MethodName := ⟨R_Mo, "fails", "(ZZ)Z"⟩
abbrev b_Mo_add : ByteArray := prog_12_method_8_code
def y_Mo_add : MethodName := ⟨R_Mo, "add", "(III)I"⟩
abbrev b_Mo_fits : ByteArray := prog_12_method_7_code
def y_Mo_fits : MethodName := ⟨R_Mo, "fits", "(II)Z"⟩
abbrev b_Mo_wipe : ByteArray := prog_12_method_9_code
def y_Mo_wipe : MethodName := ⟨R_Mo, "wipe", "(I)V"⟩
abbrev b_Mo_compile : ByteArray := prog_12_method_23_code
def y_Mo_compile : MethodName := ⟨R_Mo, "compile", "(I)I"⟩
abbrev b_Mo_wellFormed : ByteArray := prog_12_method_12_code
def y_Mo_wellFormed : MethodName := ⟨R_Mo, "wellFormed", "(I)Z"⟩
abbrev b_Mo_mayStand : ByteArray := prog_12_method_11_code
def y_Mo_mayStand : MethodName := ⟨R_Mo, "mayStand", "(I)Z"⟩
abbrev b_Mo_inCatch : ByteArray := prog_12_method_10_code
def y_Mo_inCatch : MethodName := ⟨R_Mo, "inCatch", "()Z"⟩
abbrev b_Mo_emit : ByteArray := prog_12_method_13_code
def y_Mo_emit : MethodName := ⟨R_Mo, "emit", "(III)V"⟩
abbrev b_Mo_newAction : ByteArray := prog_12_method_14_code
def y_Mo_newAction : MethodName := ⟨R_Mo, "newAction", "(III)I"⟩
abbrev b_Mo_opens : ByteArray := prog_12_method_17_code
def y_Mo_opens : MethodName := ⟨R_Mo, "opens", "(II)V"⟩
abbrev b_Mo_tries : ByteArray := prog_12_method_18_code
def y_Mo_tries : MethodName := ⟨R_Mo, "tries", "(II)V"⟩
abbrev b_Mo_catches : ByteArray := prog_12_method_20_code
def y_Mo_catches : MethodName := ⟨R_Mo, "catches", "(I)V"⟩
abbrev b_Mo_caughtRowEnds : ByteArray := prog_12_method_19_code
def y_Mo_caughtRowEnds : MethodName := ⟨R_Mo, "caughtRowEnds", "(I)V"⟩
abbrev b_Mo_lands : ByteArray := prog_12_method_15_code
def y_Mo_lands : MethodName := ⟨R_Mo, "lands", "(II)V"⟩
abbrev b_Mo_ends : ByteArray := prog_12_method_21_code
def y_Mo_ends : MethodName := ⟨R_Mo, "ends", "(I)V"⟩
abbrev b_Mo_closes : ByteArray := prog_12_method_16_code
def y_Mo_closes : MethodName := ⟨R_Mo, "closes", "(I)V"⟩
abbrev b_Mo_collectSites : ByteArray := prog_12_method_22_code
def y_Mo_collectSites : MethodName := ⟨R_Mo, "collectSites", "(I)V"⟩
abbrev b_Mo_size : ByteArray := prog_12_method_24_code
def y_Mo_size : MethodName := ⟨R_Mo, "size", "(II)I"⟩
abbrev b_Mo_code : ByteArray := prog_12_method_25_code
def y_Mo_code : MethodName := ⟨R_Mo, "code", "(III)I"⟩
abbrev b_Mo_action : ByteArray := prog_12_method_26_code
def y_Mo_action : MethodName := ⟨R_Mo, "action", "(III)I"⟩
abbrev b_Mo_site : ByteArray := prog_12_method_27_code
def y_Mo_site : MethodName := ⟨R_Mo, "site", "(III)I"⟩
abbrev b_Mo_run : ByteArray := prog_12_method_36_code
def y_Mo_run : MethodName := ⟨R_Mo, "run", "(I)I"⟩
abbrev b_Mo_enters : ByteArray := prog_12_method_28_code
def y_Mo_enters : MethodName := ⟨R_Mo, "enters", "(I)V"⟩
abbrev b_Mo_step : ByteArray := prog_12_method_35_code
def y_Mo_step : MethodName := ⟨R_Mo, "step", "()V"⟩
abbrev b_Mo_puts : ByteArray := prog_12_method_33_code
def y_Mo_puts : MethodName := ⟨R_Mo, "puts", "(I)V"⟩
abbrev b_Mo_calls : ByteArray := prog_12_method_34_code
def y_Mo_calls : MethodName := ⟨R_Mo, "calls", "(I)V"⟩
abbrev b_Mo_raises : ByteArray := prog_12_method_32_code
def y_Mo_raises : MethodName := ⟨R_Mo, "raises", "(I)V"⟩
abbrev b_Mo_searches : ByteArray := prog_12_method_30_code
def y_Mo_searches : MethodName := ⟨R_Mo, "searches", "()Z"⟩
abbrev b_Mo_headAt : ByteArray := prog_12_method_29_code
def y_Mo_headAt : MethodName := ⟨R_Mo, "headAt", "(I)I"⟩
abbrev b_Mo_isAnother : ByteArray := prog_12_method_6_code
def y_Mo_isAnother : MethodName := ⟨R_Mo, "isAnother", "(II)Z"⟩
abbrev b_Mo_unwinds : ByteArray := prog_12_method_31_code
def y_Mo_unwinds : MethodName := ⟨R_Mo, "unwinds", "(I)V"⟩
abbrev b_Mo_count : ByteArray := prog_12_method_37_code
def y_Mo_count : MethodName := ⟨R_Mo, "count", "(I)I"⟩
abbrev b_Mo_out : ByteArray := prog_12_method_38_code
def y_Mo_out : MethodName := ⟨R_Mo, "out", "(I)I"⟩
end
section
theorem d_Lp_init_0 : decode b_Lp_init 0 = .ok (.aload_n 0, 1) := by decide +kernel
theorem d_Lp_init_1 : decode b_Lp_init 1 = .ok (.invokespecial 3, 3) := by decide +kernel
theorem d_Lp_init_4 : decode b_Lp_init 4 = .ok (.aload_n 0, 1) := by decide +kernel
theorem d_Lp_init_5 : decode b_Lp_init 5 = .ok (.bipush 6, 2) := by decide +kernel
theorem d_Lp_init_7 : decode b_Lp_init 7 = .ok (.anewarray 9, 3) := by decide +kernel
theorem d_Lp_init_10 : decode b_Lp_init 10 = .ok (.putfield 11, 3) := by decide +kernel
theorem d_Lp_init_13 : decode b_Lp_init 13 = .ok (.iconst 0, 1) := by decide +kernel
theorem d_Lp_init_14 : decode b_Lp_init 14 = .ok (.istore_n 1, 1) := by decide +kernel
theorem d_Lp_init_15 : decode b_Lp_init 15 = .ok (.iload_n 1, 1) := by decide +kernel
theorem d_Lp_init_16 : decode b_Lp_init 16 = .ok (.bipush 6, 2) := by decide +kernel
theorem d_Lp_init_18 : decode b_Lp_init 18 = .ok (.if_icmp .ge 22, 3) := by decide +kernel
theorem d_Lp_init_21 : decode b_Lp_init 21 = .ok (.aload_n 0, 1) := by decide +kernel
theorem d_Lp_init_22 : decode b_Lp_init 22 = .ok (.getfield 11, 3) := by decide +kernel
theorem d_Lp_init_25 : decode b_Lp_init 25 = .ok (.iload_n 1, 1) := by decide +kernel
theorem d_Lp_init_26 : decode b_Lp_init 26 = .ok (.new 9, 3) := by decide +kernel
theorem d_Lp_init_29 : decode b_Lp_init 29 = .ok (.dup, 1) := by decide +kernel
theorem d_Lp_init_30 : decode b_Lp_init 30 = .ok (.invokespecial 15, 3) := by decide +kernel
theorem d_Lp_init_33 : decode b_Lp_init 33 = .ok (.aastore, 1) := by decide +kernel
theorem d_Lp_init_34 : decode b_Lp_init 34 = .ok (.iinc 1 1, 3) := by decide +kernel
theorem d_Lp_init_37 : decode b_Lp_init 37 = .ok (.goto (-22), 3) := by decide +kernel
theorem d_Lp_init_40 : decode b_Lp_init 40 = .ok (.aload_n 0, 1) := by decide +kernel
theorem d_Lp_init_41 : decode b_Lp_init 41 = .ok (.new 16, 3) := by decide +kernel
theorem d_Lp_init_44 : decode b_Lp_init 44 = .ok (.dup, 1) := by decide +kernel
theorem d_Lp_init_45 : decode b_Lp_init 45 = .ok (.invokespecial 18, 3) := by decide +kernel
theorem d_Lp_init_48 : decode b_Lp_init 48 = .ok (.putfield 19, 3) := by decide +kernel
theorem d_Lp_init_51 : decode b_Lp_init 51 = .ok (.aload_n 0, 1) := by decide +kernel
theorem d_Lp_init_52 : decode b_Lp_init 52 = .ok (.new 23, 3) := by decide +kernel
theorem d_Lp_init_55 : decode b_Lp_init 55 = .ok (.dup, 1) := by decide +kernel
theorem d_Lp_init_56 : decode b_Lp_init 56 = .ok (.invokespecial 25, 3) := by decide +kernel
theorem d_Lp_init_59 : decode b_Lp_init 59 = .ok (.putfield 26, 3) := by decide +kernel
theorem d_Lp_init_62 : decode b_Lp_init 62 = .ok (.aload_n 0, 1) := by decide +kernel
theorem d_Lp_init_63 : decode b_Lp_init 63 = .ok (.new 30, 3) := by decide +kernel
theorem d_Lp_init_66 : decode b_Lp_init 66 = .ok (.dup, 1) := by decide +kernel
theorem d_Lp_init_67 : decode b_Lp_init 67 = .ok (.invokespecial 32, 3) := by decide +kernel
theorem d_Lp_init_70 : decode b_Lp_init 70 = .ok (.putfield 33, 3) := by decide +kernel
theorem d_Lp_init_73 : decode b_Lp_init 73 = .ok (.return_, 1) := by decide +kernel
theorem d_Lp_type_0 : decode b_Lp_type 0 = .ok (.iload_n 1, 1) := by decide +kernel
theorem d_Lp_type_1 : decode b_Lp_type 1 = .ok (.iconst (-1), 1) := by decide +kernel
theorem d_Lp_type_2 : decode b_Lp_type 2 = .ok (.if_icmp .eq 27, 3) := by decide +kernel
theorem d_Lp_type_5 : decode b_Lp_type 5 = .ok (.aload_n 0, 1) := by decide +kernel
theorem d_Lp_type_6 : decode b_Lp_type 6 = .ok (.getfield 33, 3) := by decide +kernel
theorem d_Lp_type_9 : decode b_Lp_type 9 = .ok (.getfield 37, 3) := by decide +kernel
theorem d_Lp_type_12 : decode b_Lp_type 12 = .ok (.iload_n 1, 1) := by decide +kernel
theorem d_Lp_type_13 : decode b_Lp_type 13 = .ok (.invokevirtual 41, 3) := by decide +kernel
theorem d_Lp_type_16 : decode b_Lp_type 16 = .ok (.ifCond .ne 13, 3) := by decide +kernel
theorem d_Lp_type_19 : decode b_Lp_type 19 = .ok (.new 47, 3) := by decide +kernel
theorem d_Lp_type_22 : decode b_Lp_type 22 = .ok (.dup, 1) := by decide +kernel
theorem d_Lp_type_23 : decode b_Lp_type 23 = .ok (.ldc 49, 2) := by decide +kernel
theorem d_Lp_type_25 : decode b_Lp_type 25 = .ok (.invokespecial 51, 3) := by decide +kernel
theorem d_Lp_type_28 : decode b_Lp_type 28 = .ok (.athrow, 1) := by decide +kernel
theorem d_Lp_type_29 : decode b_Lp_type 29 = .ok (.aload_n 0, 1) := by decide +kernel
theorem d_Lp_type_30 : decode b_Lp_type 30 = .ok (.getfield 33, 3) := by decide +kernel
theorem d_Lp_type_33 : decode b_Lp_type 33 = .ok (.getfield 37, 3) := by decide +kernel
theorem d_Lp_type_36 : decode b_Lp_type 36 = .ok (.invokevirtual 54, 3) := by decide +kernel
theorem d_Lp_type_39 : decode b_Lp_type 39 = .ok (.ifCond .eq 13, 3) := by decide +kernel
theorem d_Lp_type_42 : decode b_Lp_type 42 = .ok (.new 58, 3) := by decide +kernel
theorem d_Lp_type_45 : decode b_Lp_type 45 = .ok (.dup, 1) := by decide +kernel
theorem d_Lp_type_46 : decode b_Lp_type 46 = .ok (.ldc 60, 2) := by decide +kernel
theorem d_Lp_type_48 : decode b_Lp_type 48 = .ok (.invokespecial 62, 3) := by decide +kernel
theorem d_Lp_type_51 : decode b_Lp_type 51 = .ok (.athrow, 1) := by decide +kernel
theorem d_Lp_type_52 : decode b_Lp_type 52 = .ok (.aload_n 0, 1) := by decide +kernel
theorem d_Lp_type_53 : decode b_Lp_type 53 = .ok (.getfield 33, 3) := by decide +kernel
theorem d_Lp_type_56 : decode b_Lp_type 56 = .ok (.getfield 37, 3) := by decide +kernel
theorem d_Lp_type_59 : decode b_Lp_type 59 = .ok (.iload_n 1, 1) := by decide +kernel
theorem d_Lp_type_60 : decode b_Lp_type 60 = .ok (.invokevirtual 63, 3) := by decide +kernel
theorem d_Lp_type_63 : decode b_Lp_type 63 = .ok (.ireturn, 1) := by decide +kernel
theorem d_Lp_add_0 : decode b_Lp_add 0 = .ok (.iload_n 1, 1) := by decide +kernel
theorem d_Lp_add_1 : decode b_Lp_add 1 = .ok (.invokestatic 67, 3) := by decide +kernel
theorem d_Lp_add_4 : decode b_Lp_add 4 = .ok (.aload_n 0, 1) := by decide +kernel
theorem d_Lp_add_5 : decode b_Lp_add 5 = .ok (.iload_n 2, 1) := by decide +kernel
theorem d_Lp_add_6 : decode b_Lp_add 6 = .ok (.iload_n 3, 1) := by decide +kernel
theorem d_Lp_add_7 : decode b_Lp_add 7 = .ok (.invokevirtual 71, 3) := by decide +kernel
theorem d_Lp_add_10 : decode b_Lp_add 10 = .ok (.ifCond .ne 13, 3) := by decide +kernel
theorem d_Lp_add_13 : decode b_Lp_add 13 = .ok (.new 47, 3) := by decide +kernel
theorem d_Lp_add_16 : decode b_Lp_add 16 = .ok (.dup, 1) := by decide +kernel
theorem d_Lp_add_17 : decode b_Lp_add 17 = .ok (.ldc 75, 2) := by decide +kernel
theorem d_Lp_add_19 : decode b_Lp_add 19 = .ok (.invokespecial 51, 3) := by decide +kernel
theorem d_Lp_add_22 : decode b_Lp_add 22 = .ok (.athrow, 1) := by decide +kernel
theorem d_Lp_add_23 : decode b_Lp_add 23 = .ok (.aload_n 0, 1) := by decide +kernel
theorem d_Lp_add_24 : decode b_Lp_add 24 = .ok (.getfield 11, 3) := by decide +kernel
theorem d_Lp_add_27 : decode b_Lp_add 27 = .ok (.iload_n 1, 1) := by decide +kernel
theorem d_Lp_add_28 : decode b_Lp_add 28 = .ok (.aaload, 1) := by decide +kernel
theorem d_Lp_add_29 : decode b_Lp_add 29 = .ok (.invokevirtual 77, 3) := by decide +kernel
theorem d_Lp_add_32 : decode b_Lp_add 32 = .ok (.ifCond .eq 13, 3) := by decide +kernel
theorem d_Lp_add_35 : decode b_Lp_add 35 = .ok (.new 58, 3) := by decide +kernel
theorem d_Lp_add_38 : decode b_Lp_add 38 = .ok (.dup, 1) := by decide +kernel
theorem d_Lp_add_39 : decode b_Lp_add 39 = .ok (.ldc 78, 2) := by decide +kernel
theorem d_Lp_add_41 : decode b_Lp_add 41 = .ok (.invokespecial 62, 3) := by decide +kernel
theorem d_Lp_add_44 : decode b_Lp_add 44 = .ok (.athrow, 1) := by decide +kernel
theorem d_Lp_add_45 : decode b_Lp_add 45 = .ok (.aload_n 0, 1) := by decide +kernel
theorem d_Lp_add_46 : decode b_Lp_add 46 = .ok (.getfield 11, 3) := by decide +kernel
theorem d_Lp_add_49 : decode b_Lp_add 49 = .ok (.iload_n 1, 1) := by decide +kernel
theorem d_Lp_add_50 : decode b_Lp_add 50 = .ok (.aaload, 1) := by decide +kernel
theorem d_Lp_add_51 : decode b_Lp_add 51 = .ok (.iload_n 2, 1) := by decide +kernel
theorem d_Lp_add_52 : decode b_Lp_add 52 = .ok (.iload_n 3, 1) := by decide +kernel
theorem d_Lp_add_53 : decode b_Lp_add 53 = .ok (.invokevirtual 80, 3) := by decide +kernel
theorem d_Lp_add_56 : decode b_Lp_add 56 = .ok (.ireturn, 1) := by decide +kernel
theorem d_Lp_requireFunction_0 : decode b_Lp_requireFunction 0 = .ok (.iload_n 0, 1) := by decide +kernel
theorem d_Lp_requireFunction_1 : decode b_Lp_requireFunction 1 = .ok (.invokestatic 115, 3) := by decide +kernel
theorem d_Lp_requireFunction_4 : decode b_Lp_requireFunction 4 = .ok (.ifCond .ne 13, 3) := by decide +kernel
theorem d_Lp_requireFunction_7 : decode b_Lp_requireFunction 7 = .ok (.new 47, 3) := by decide +kernel
theorem d_Lp_requireFunction_10 : decode b_Lp_requireFunction 10 = .ok (.dup, 1) := by decide +kernel
theorem d_Lp_requireFunction_11 : decode b_Lp_requireFunction 11 = .ok (.ldc 206, 2) := by decide +kernel
theorem d_Lp_requireFunction_13 : decode b_Lp_requireFunction 13 = .ok (.invokespecial 51, 3) := by decide +kernel
theorem d_Lp_requireFunction_16 : decode b_Lp_requireFunction 16 = .ok (.athrow, 1) := by decide +kernel
theorem d_Lp_requireFunction_17 : decode b_Lp_requireFunction 17 = .ok (.return_, 1) := by decide +kernel
theorem d_Lp_isFunction_0 : decode b_Lp_isFunction 0 = .ok (.iload_n 0, 1) := by decide +kernel
theorem d_Lp_isFunction_1 : decode b_Lp_isFunction 1 = .ok (.ifCond .lt 13, 3) := by decide +kernel
theorem d_Lp_isFunction_4 : decode b_Lp_isFunction 4 = .ok (.iload_n 0, 1) := by decide +kernel
theorem d_Lp_isFunction_5 : decode b_Lp_isFunction 5 = .ok (.bipush 6, 2) := by decide +kernel
theorem d_Lp_isFunction_7 : decode b_Lp_isFunction 7 = .ok (.if_icmp .ge 7, 3) := by decide +kernel
theorem d_Lp_isFunction_10 : decode b_Lp_isFunction 10 = .ok (.iconst 1, 1) := by decide +kernel
theorem d_Lp_isFunction_11 : decode b_Lp_isFunction 11 = .ok (.goto 4, 3) := by decide +kernel
theorem d_Lp_isFunction_14 : decode b_Lp_isFunction 14 = .ok (.iconst 0, 1) := by decide +kernel
theorem d_Lp_isFunction_15 : decode b_Lp_isFunction 15 = .ok (.ireturn, 1) := by decide +kernel
theorem d_Lp_isAllowed_0 : decode b_Lp_isAllowed 0 = .ok (.iload_n 1, 1) := by decide +kernel
theorem d_Lp_isAllowed_1 : decode b_Lp_isAllowed 1 = .ok (.tableswitch 115 0 7 #[47, 63, 68, 105, 80, 105, 47, 105], 47) := by decide +kernel
theorem d_Lp_isAllowed_48 : decode b_Lp_isAllowed 48 = .ok (.iload_n 2, 1) := by decide +kernel
theorem d_Lp_isAllowed_49 : decode b_Lp_isAllowed 49 = .ok (.ifCond .lt 13, 3) := by decide +kernel
theorem d_Lp_isAllowed_52 : decode b_Lp_isAllowed 52 = .ok (.iload_n 2, 1) := by decide +kernel
theorem d_Lp_isAllowed_53 : decode b_Lp_isAllowed 53 = .ok (.bipush 99, 2) := by decide +kernel
theorem d_Lp_isAllowed_55 : decode b_Lp_isAllowed 55 = .ok (.if_icmp .gt 7, 3) := by decide +kernel
theorem d_Lp_isAllowed_58 : decode b_Lp_isAllowed 58 = .ok (.iconst 1, 1) := by decide +kernel
theorem d_Lp_isAllowed_59 : decode b_Lp_isAllowed 59 = .ok (.goto 4, 3) := by decide +kernel
theorem d_Lp_isAllowed_62 : decode b_Lp_isAllowed 62 = .ok (.iconst 0, 1) := by decide +kernel
theorem d_Lp_isAllowed_63 : decode b_Lp_isAllowed 63 = .ok (.ireturn, 1) := by decide +kernel
theorem d_Lp_isAllowed_64 : decode b_Lp_isAllowed 64 = .ok (.iload_n 2, 1) := by decide +kernel
theorem d_Lp_isAllowed_65 : decode b_Lp_isAllowed 65 = .ok (.invokestatic 115, 3) := by decide +kernel
theorem d_Lp_isAllowed_68 : decode b_Lp_isAllowed 68 = .ok (.ireturn, 1) := by decide +kernel
theorem d_Lp_isAllowed_69 : decode b_Lp_isAllowed 69 = .ok (.aload_n 0, 1) := by decide +kernel
theorem d_Lp_isAllowed_70 : decode b_Lp_isAllowed 70 = .ok (.getfield 33, 3) := by decide +kernel
theorem d_Lp_isAllowed_73 : decode b_Lp_isAllowed 73 = .ok (.getfield 37, 3) := by decide +kernel
theorem d_Lp_isAllowed_76 : decode b_Lp_isAllowed 76 = .ok (.iload_n 2, 1) := by decide +kernel
theorem d_Lp_isAllowed_77 : decode b_Lp_isAllowed 77 = .ok (.invokevirtual 41, 3) := by decide +kernel
theorem d_Lp_isAllowed_80 : decode b_Lp_isAllowed 80 = .ok (.ireturn, 1) := by decide +kernel
theorem d_Lp_isAllowed_81 : decode b_Lp_isAllowed 81 = .ok (.iload_n 2, 1) := by decide +kernel
theorem d_Lp_isAllowed_82 : decode b_Lp_isAllowed 82 = .ok (.iconst (-1), 1) := by decide +kernel
theorem d_Lp_isAllowed_83 : decode b_Lp_isAllowed 83 = .ok (.if_icmp .eq 17, 3) := by decide +kernel
theorem d_Lp_isAllowed_86 : decode b_Lp_isAllowed 86 = .ok (.aload_n 0, 1) := by decide +kernel
theorem d_Lp_isAllowed_87 : decode b_Lp_isAllowed 87 = .ok (.getfield 33, 3) := by decide +kernel
theorem d_Lp_isAllowed_90 : decode b_Lp_isAllowed 90 = .ok (.getfield 37, 3) := by decide +kernel
theorem d_Lp_isAllowed_93 : decode b_Lp_isAllowed 93 = .ok (.iload_n 2, 1) := by decide +kernel
theorem d_Lp_isAllowed_94 : decode b_Lp_isAllowed 94 = .ok (.invokevirtual 41, 3) := by decide +kernel
theorem d_Lp_isAllowed_97 : decode b_Lp_isAllowed 97 = .ok (.ifCond .eq 7, 3) := by decide +kernel
theorem d_Lp_isAllowed_100 : decode b_Lp_isAllowed 100 = .ok (.iconst 1, 1) := by decide +kernel
theorem d_Lp_isAllowed_101 : decode b_Lp_isAllowed 101 = .ok (.goto 4, 3) := by decide +kernel
theorem d_Lp_isAllowed_104 : decode b_Lp_isAllowed 104 = .ok (.iconst 0, 1) := by decide +kernel
theorem d_Lp_isAllowed_105 : decode b_Lp_isAllowed 105 = .ok (.ireturn, 1) := by decide +kernel
theorem d_Lp_isAllowed_106 : decode b_Lp_isAllowed 106 = .ok (.iload_n 2, 1) := by decide +kernel
theorem d_Lp_isAllowed_107 : decode b_Lp_isAllowed 107 = .ok (.ifCond .ne 7, 3) := by decide +kernel
theorem d_Lp_isAllowed_110 : decode b_Lp_isAllowed 110 = .ok (.iconst 1, 1) := by decide +kernel
theorem d_Lp_isAllowed_111 : decode b_Lp_isAllowed 111 = .ok (.goto 4, 3) := by decide +kernel
theorem d_Lp_isAllowed_114 : decode b_Lp_isAllowed 114 = .ok (.iconst 0, 1) := by decide +kernel
theorem d_Lp_isAllowed_115 : decode b_Lp_isAllowed 115 = .ok (.ireturn, 1) := by decide +kernel
theorem d_Lp_isAllowed_116 : decode b_Lp_isAllowed 116 = .ok (.iconst 0, 1) := by decide +kernel
theorem d_Lp_isAllowed_117 : decode b_Lp_isAllowed 117 = .ok (.ireturn, 1) := by decide +kernel
theorem d_Lp_wipe_0 : decode b_Lp_wipe 0 = .ok (.iload_n 1, 1) := by decide +kernel
theorem d_Lp_wipe_1 : decode b_Lp_wipe 1 = .ok (.invokestatic 67, 3) := by decide +kernel
theorem d_Lp_wipe_4 : decode b_Lp_wipe 4 = .ok (.aload_n 0, 1) := by decide +kernel
theorem d_Lp_wipe_5 : decode b_Lp_wipe 5 = .ok (.getfield 11, 3) := by decide +kernel
theorem d_Lp_wipe_8 : decode b_Lp_wipe 8 = .ok (.iload_n 1, 1) := by decide +kernel
theorem d_Lp_wipe_9 : decode b_Lp_wipe 9 = .ok (.aaload, 1) := by decide +kernel
theorem d_Lp_wipe_10 : decode b_Lp_wipe 10 = .ok (.iconst 0, 1) := by decide +kernel
theorem d_Lp_wipe_11 : decode b_Lp_wipe 11 = .ok (.putfield 84, 3) := by decide +kernel
theorem d_Lp_wipe_14 : decode b_Lp_wipe 14 = .ok (.return_, 1) := by decide +kernel
theorem d_Lp_compile_0 : decode b_Lp_compile 0 = .ok (.iload_n 1, 1) := by decide +kernel
theorem d_Lp_compile_1 : decode b_Lp_compile 1 = .ok (.invokestatic 67, 3) := by decide +kernel
theorem d_Lp_compile_4 : decode b_Lp_compile 4 = .ok (.aload_n 0, 1) := by decide +kernel
theorem d_Lp_compile_5 : decode b_Lp_compile 5 = .ok (.getfield 11, 3) := by decide +kernel
theorem d_Lp_compile_8 : decode b_Lp_compile 8 = .ok (.iload_n 1, 1) := by decide +kernel
theorem d_Lp_compile_9 : decode b_Lp_compile 9 = .ok (.aaload, 1) := by decide +kernel
theorem d_Lp_compile_10 : decode b_Lp_compile 10 = .ok (.astore_n 2, 1) := by decide +kernel
theorem d_Lp_compile_11 : decode b_Lp_compile 11 = .ok (.aload_n 0, 1) := by decide +kernel
theorem d_Lp_compile_12 : decode b_Lp_compile 12 = .ok (.getfield 19, 3) := by decide +kernel
theorem d_Lp_compile_15 : decode b_Lp_compile 15 = .ok (.aload_n 2, 1) := by decide +kernel
theorem d_Lp_compile_16 : decode b_Lp_compile 16 = .ok (.invokevirtual 88, 3) := by decide +kernel
theorem d_Lp_compile_19 : decode b_Lp_compile 19 = .ok (.ifCond .ne 13, 3) := by decide +kernel
theorem d_Lp_compile_22 : decode b_Lp_compile 22 = .ok (.new 58, 3) := by decide +kernel
theorem d_Lp_compile_25 : decode b_Lp_compile 25 = .ok (.dup, 1) := by decide +kernel
theorem d_Lp_compile_26 : decode b_Lp_compile 26 = .ok (.ldc 92, 2) := by decide +kernel
theorem d_Lp_compile_28 : decode b_Lp_compile 28 = .ok (.invokespecial 62, 3) := by decide +kernel
theorem d_Lp_compile_31 : decode b_Lp_compile 31 = .ok (.athrow, 1) := by decide +kernel
theorem d_Lp_compile_32 : decode b_Lp_compile 32 = .ok (.aload_n 0, 1) := by decide +kernel
theorem d_Lp_compile_33 : decode b_Lp_compile 33 = .ok (.getfield 33, 3) := by decide +kernel
theorem d_Lp_compile_36 : decode b_Lp_compile 36 = .ok (.getfield 94, 3) := by decide +kernel
theorem d_Lp_compile_39 : decode b_Lp_compile 39 = .ok (.iload_n 1, 1) := by decide +kernel
theorem d_Lp_compile_40 : decode b_Lp_compile 40 = .ok (.aaload, 1) := by decide +kernel
theorem d_Lp_compile_41 : decode b_Lp_compile 41 = .ok (.astore_n 3, 1) := by decide +kernel
theorem d_Lp_compile_42 : decode b_Lp_compile 42 = .ok (.aload_n 0, 1) := by decide +kernel
theorem d_Lp_compile_43 : decode b_Lp_compile 43 = .ok (.getfield 26, 3) := by decide +kernel
theorem d_Lp_compile_46 : decode b_Lp_compile 46 = .ok (.aload_n 2, 1) := by decide +kernel
theorem d_Lp_compile_47 : decode b_Lp_compile 47 = .ok (.aload_n 3, 1) := by decide +kernel
theorem d_Lp_compile_48 : decode b_Lp_compile 48 = .ok (.invokevirtual 98, 3) := by decide +kernel
theorem d_Lp_compile_51 : decode b_Lp_compile 51 = .ok (.aload_n 3, 1) := by decide +kernel
theorem d_Lp_compile_52 : decode b_Lp_compile 52 = .ok (.getfield 102, 3) := by decide +kernel
theorem d_Lp_compile_55 : decode b_Lp_compile 55 = .ok (.ireturn, 1) := by decide +kernel
theorem d_Lp_size_0 : decode b_Lp_size 0 = .ok (.iload_n 1, 1) := by decide +kernel
theorem d_Lp_size_1 : decode b_Lp_size 1 = .ok (.invokestatic 67, 3) := by decide +kernel
theorem d_Lp_size_4 : decode b_Lp_size 4 = .ok (.aload_n 0, 1) := by decide +kernel
theorem d_Lp_size_5 : decode b_Lp_size 5 = .ok (.getfield 33, 3) := by decide +kernel
theorem d_Lp_size_8 : decode b_Lp_size 8 = .ok (.getfield 94, 3) := by decide +kernel
theorem d_Lp_size_11 : decode b_Lp_size 11 = .ok (.iload_n 1, 1) := by decide +kernel
theorem d_Lp_size_12 : decode b_Lp_size 12 = .ok (.aaload, 1) := by decide +kernel
theorem d_Lp_size_13 : decode b_Lp_size 13 = .ok (.astore_n 3, 1) := by decide +kernel
theorem d_Lp_size_14 : decode b_Lp_size 14 = .ok (.iload_n 2, 1) := by decide +kernel
theorem d_Lp_size_15 : decode b_Lp_size 15 = .ok (.tableswitch 40 0 2 #[25, 30, 35], 25) := by decide +kernel
theorem d_Lp_size_40 : decode b_Lp_size 40 = .ok (.aload_n 3, 1) := by decide +kernel
theorem d_Lp_size_41 : decode b_Lp_size 41 = .ok (.getfield 102, 3) := by decide +kernel
theorem d_Lp_size_44 : decode b_Lp_size 44 = .ok (.ireturn, 1) := by decide +kernel
theorem d_Lp_size_45 : decode b_Lp_size 45 = .ok (.aload_n 3, 1) := by decide +kernel
theorem d_Lp_size_46 : decode b_Lp_size 46 = .ok (.getfield 107, 3) := by decide +kernel
theorem d_Lp_size_49 : decode b_Lp_size 49 = .ok (.ireturn, 1) := by decide +kernel
theorem d_Lp_size_50 : decode b_Lp_size 50 = .ok (.aload_n 3, 1) := by decide +kernel
theorem d_Lp_size_51 : decode b_Lp_size 51 = .ok (.getfield 110, 3) := by decide +kernel
theorem d_Lp_size_54 : decode b_Lp_size 54 = .ok (.ireturn, 1) := by decide +kernel
theorem d_Lp_size_55 : decode b_Lp_size 55 = .ok (.new 47, 3) := by decide +kernel
theorem d_Lp_size_58 : decode b_Lp_size 58 = .ok (.dup, 1) := by decide +kernel
theorem d_Lp_size_59 : decode b_Lp_size 59 = .ok (.ldc 113, 2) := by decide +kernel
theorem d_Lp_size_61 : decode b_Lp_size 61 = .ok (.invokespecial 51, 3) := by decide +kernel
theorem d_Lp_size_64 : decode b_Lp_size 64 = .ok (.athrow, 1) := by decide +kernel
theorem d_Lp_code_0 : decode b_Lp_code 0 = .ok (.iload_n 1, 1) := by decide +kernel
theorem d_Lp_code_1 : decode b_Lp_code 1 = .ok (.invokestatic 115, 3) := by decide +kernel
theorem d_Lp_code_4 : decode b_Lp_code 4 = .ok (.ifCond .eq 19, 3) := by decide +kernel
theorem d_Lp_code_7 : decode b_Lp_code 7 = .ok (.aload_n 0, 1) := by decide +kernel
theorem d_Lp_code_8 : decode b_Lp_code 8 = .ok (.getfield 33, 3) := by decide +kernel
theorem d_Lp_code_11 : decode b_Lp_code 11 = .ok (.getfield 94, 3) := by decide +kernel
theorem d_Lp_code_14 : decode b_Lp_code 14 = .ok (.iload_n 1, 1) := by decide +kernel
theorem d_Lp_code_15 : decode b_Lp_code 15 = .ok (.aaload, 1) := by decide +kernel
theorem d_Lp_code_16 : decode b_Lp_code 16 = .ok (.iload_n 2, 1) := by decide +kernel
theorem d_Lp_code_17 : decode b_Lp_code 17 = .ok (.invokevirtual 118, 3) := by decide +kernel
theorem d_Lp_code_20 : decode b_Lp_code 20 = .ok (.ifCond .ne 13, 3) := by decide +kernel
theorem d_Lp_code_23 : decode b_Lp_code 23 = .ok (.new 121, 3) := by decide +kernel
theorem d_Lp_code_26 : decode b_Lp_code 26 = .ok (.dup, 1) := by decide +kernel
theorem d_Lp_code_27 : decode b_Lp_code 27 = .ok (.ldc 123, 2) := by decide +kernel
theorem d_Lp_code_29 : decode b_Lp_code 29 = .ok (.invokespecial 125, 3) := by decide +kernel
theorem d_Lp_code_32 : decode b_Lp_code 32 = .ok (.athrow, 1) := by decide +kernel
theorem d_Lp_code_33 : decode b_Lp_code 33 = .ok (.aload_n 0, 1) := by decide +kernel
theorem d_Lp_code_34 : decode b_Lp_code 34 = .ok (.getfield 33, 3) := by decide +kernel
theorem d_Lp_code_37 : decode b_Lp_code 37 = .ok (.getfield 94, 3) := by decide +kernel
theorem d_Lp_code_40 : decode b_Lp_code 40 = .ok (.iload_n 1, 1) := by decide +kernel
theorem d_Lp_code_41 : decode b_Lp_code 41 = .ok (.aaload, 1) := by decide +kernel
theorem d_Lp_code_42 : decode b_Lp_code 42 = .ok (.astore 4, 2) := by decide +kernel
theorem d_Lp_code_44 : decode b_Lp_code 44 = .ok (.iload_n 3, 1) := by decide +kernel
theorem d_Lp_code_45 : decode b_Lp_code 45 = .ok (.lookupswitch 41 #[(0, 27), (1, 34)], 27) := by decide +kernel
theorem d_Lp_code_72 : decode b_Lp_code 72 = .ok (.aload 4, 2) := by decide +kernel
theorem d_Lp_code_74 : decode b_Lp_code 74 = .ok (.iload_n 2, 1) := by decide +kernel
theorem d_Lp_code_75 : decode b_Lp_code 75 = .ok (.invokevirtual 126, 3) := by decide +kernel
theorem d_Lp_code_78 : decode b_Lp_code 78 = .ok (.ireturn, 1) := by decide +kernel
theorem d_Lp_code_79 : decode b_Lp_code 79 = .ok (.aload 4, 2) := by decide +kernel
theorem d_Lp_code_81 : decode b_Lp_code 81 = .ok (.iload_n 2, 1) := by decide +kernel
theorem d_Lp_code_82 : decode b_Lp_code 82 = .ok (.invokevirtual 129, 3) := by decide +kernel
theorem d_Lp_code_85 : decode b_Lp_code 85 = .ok (.ireturn, 1) := by decide +kernel
theorem d_Lp_code_86 : decode b_Lp_code 86 = .ok (.new 121, 3) := by decide +kernel
theorem d_Lp_code_89 : decode b_Lp_code 89 = .ok (.dup, 1) := by decide +kernel
theorem d_Lp_code_90 : decode b_Lp_code 90 = .ok (.ldc 132, 2) := by decide +kernel
theorem d_Lp_code_92 : decode b_Lp_code 92 = .ok (.invokespecial 125, 3) := by decide +kernel
theorem d_Lp_code_95 : decode b_Lp_code 95 = .ok (.athrow, 1) := by decide +kernel
theorem d_Lp_action_0 : decode b_Lp_action 0 = .ok (.iload_n 1, 1) := by decide +kernel
theorem d_Lp_action_1 : decode b_Lp_action 1 = .ok (.invokestatic 115, 3) := by decide +kernel
theorem d_Lp_action_4 : decode b_Lp_action 4 = .ok (.ifCond .eq 19, 3) := by decide +kernel
theorem d_Lp_action_7 : decode b_Lp_action 7 = .ok (.aload_n 0, 1) := by decide +kernel
theorem d_Lp_action_8 : decode b_Lp_action 8 = .ok (.getfield 33, 3) := by decide +kernel
theorem d_Lp_action_11 : decode b_Lp_action 11 = .ok (.getfield 94, 3) := by decide +kernel
theorem d_Lp_action_14 : decode b_Lp_action 14 = .ok (.iload_n 1, 1) := by decide +kernel
theorem d_Lp_action_15 : decode b_Lp_action 15 = .ok (.aaload, 1) := by decide +kernel
theorem d_Lp_action_16 : decode b_Lp_action 16 = .ok (.iload_n 2, 1) := by decide +kernel
theorem d_Lp_action_17 : decode b_Lp_action 17 = .ok (.invokevirtual 134, 3) := by decide +kernel
theorem d_Lp_action_20 : decode b_Lp_action 20 = .ok (.ifCond .ne 13, 3) := by decide +kernel
theorem d_Lp_action_23 : decode b_Lp_action 23 = .ok (.new 121, 3) := by decide +kernel
theorem d_Lp_action_26 : decode b_Lp_action 26 = .ok (.dup, 1) := by decide +kernel
theorem d_Lp_action_27 : decode b_Lp_action 27 = .ok (.ldc 137, 2) := by decide +kernel
theorem d_Lp_action_29 : decode b_Lp_action 29 = .ok (.invokespecial 125, 3) := by decide +kernel
theorem d_Lp_action_32 : decode b_Lp_action 32 = .ok (.athrow, 1) := by decide +kernel
theorem d_Lp_action_33 : decode b_Lp_action 33 = .ok (.aload_n 0, 1) := by decide +kernel
theorem d_Lp_action_34 : decode b_Lp_action 34 = .ok (.getfield 33, 3) := by decide +kernel
theorem d_Lp_action_37 : decode b_Lp_action 37 = .ok (.getfield 94, 3) := by decide +kernel
theorem d_Lp_action_40 : decode b_Lp_action 40 = .ok (.iload_n 1, 1) := by decide +kernel
theorem d_Lp_action_41 : decode b_Lp_action 41 = .ok (.aaload, 1) := by decide +kernel
theorem d_Lp_action_42 : decode b_Lp_action 42 = .ok (.astore 4, 2) := by decide +kernel
theorem d_Lp_action_44 : decode b_Lp_action 44 = .ok (.iload_n 3, 1) := by decide +kernel
theorem d_Lp_action_45 : decode b_Lp_action 45 = .ok (.tableswitch 48 0 2 #[27, 34, 41], 27) := by decide +kernel
theorem d_Lp_action_72 : decode b_Lp_action 72 = .ok (.aload 4, 2) := by decide +kernel
theorem d_Lp_action_74 : decode b_Lp_action 74 = .ok (.iload_n 2, 1) := by decide +kernel
theorem d_Lp_action_75 : decode b_Lp_action 75 = .ok (.invokevirtual 139, 3) := by decide +kernel
theorem d_Lp_action_78 : decode b_Lp_action 78 = .ok (.ireturn, 1) := by decide +kernel
theorem d_Lp_action_79 : decode b_Lp_action 79 = .ok (.aload 4, 2) := by decide +kernel
theorem d_Lp_action_81 : decode b_Lp_action 81 = .ok (.iload_n 2, 1) := by decide +kernel
theorem d_Lp_action_82 : decode b_Lp_action 82 = .ok (.invokevirtual 142, 3) := by decide +kernel
theorem d_Lp_action_85 : decode b_Lp_action 85 = .ok (.ireturn, 1) := by decide +kernel
theorem d_Lp_action_86 : decode b_Lp_action 86 = .ok (.aload 4, 2) := by decide +kernel
theorem d_Lp_action_88 : decode b_Lp_action 88 = .ok (.iload_n 2, 1) := by decide +kernel
theorem d_Lp_action_89 : decode b_Lp_action 89 = .ok (.invokevirtual 145, 3) := by decide +kernel
theorem d_Lp_action_92 : decode b_Lp_action 92 = .ok (.ireturn, 1) := by decide +kernel
theorem d_Lp_action_93 : decode b_Lp_action 93 = .ok (.new 121, 3) := by decide +kernel
theorem d_Lp_action_96 : decode b_Lp_action 96 = .ok (.dup, 1) := by decide +kernel
theorem d_Lp_action_97 : decode b_Lp_action 97 = .ok (.ldc 148, 2) := by decide +kernel
theorem d_Lp_action_99 : decode b_Lp_action 99 = .ok (.invokespecial 125, 3) := by decide +kernel
theorem d_Lp_action_102 : decode b_Lp_action 102 = .ok (.athrow, 1) := by decide +kernel
theorem d_Lp_site_0 : decode b_Lp_site 0 = .ok (.iload_n 1, 1) := by decide +kernel
theorem d_Lp_site_1 : decode b_Lp_site 1 = .ok (.invokestatic 115, 3) := by decide +kernel
theorem d_Lp_site_4 : decode b_Lp_site 4 = .ok (.ifCond .eq 19, 3) := by decide +kernel
theorem d_Lp_site_7 : decode b_Lp_site 7 = .ok (.aload_n 0, 1) := by decide +kernel
theorem d_Lp_site_8 : decode b_Lp_site 8 = .ok (.getfield 33, 3) := by decide +kernel
theorem d_Lp_site_11 : decode b_Lp_site 11 = .ok (.getfield 94, 3) := by decide +kernel
theorem d_Lp_site_14 : decode b_Lp_site 14 = .ok (.iload_n 1, 1) := by decide +kernel
theorem d_Lp_site_15 : decode b_Lp_site 15 = .ok (.aaload, 1) := by decide +kernel
theorem d_Lp_site_16 : decode b_Lp_site 16 = .ok (.iload_n 2, 1) := by decide +kernel
theorem d_Lp_site_17 : decode b_Lp_site 17 = .ok (.invokevirtual 150, 3) := by decide +kernel
theorem d_Lp_site_20 : decode b_Lp_site 20 = .ok (.ifCond .ne 13, 3) := by decide +kernel
theorem d_Lp_site_23 : decode b_Lp_site 23 = .ok (.new 121, 3) := by decide +kernel
theorem d_Lp_site_26 : decode b_Lp_site 26 = .ok (.dup, 1) := by decide +kernel
theorem d_Lp_site_27 : decode b_Lp_site 27 = .ok (.ldc 153, 2) := by decide +kernel
theorem d_Lp_site_29 : decode b_Lp_site 29 = .ok (.invokespecial 125, 3) := by decide +kernel
theorem d_Lp_site_32 : decode b_Lp_site 32 = .ok (.athrow, 1) := by decide +kernel
theorem d_Lp_site_33 : decode b_Lp_site 33 = .ok (.aload_n 0, 1) := by decide +kernel
theorem d_Lp_site_34 : decode b_Lp_site 34 = .ok (.getfield 33, 3) := by decide +kernel
theorem d_Lp_site_37 : decode b_Lp_site 37 = .ok (.getfield 94, 3) := by decide +kernel
theorem d_Lp_site_40 : decode b_Lp_site 40 = .ok (.iload_n 1, 1) := by decide +kernel
theorem d_Lp_site_41 : decode b_Lp_site 41 = .ok (.aaload, 1) := by decide +kernel
theorem d_Lp_site_42 : decode b_Lp_site 42 = .ok (.astore 4, 2) := by decide +kernel
theorem d_Lp_site_44 : decode b_Lp_site 44 = .ok (.iload_n 3, 1) := by decide +kernel
theorem d_Lp_site_45 : decode b_Lp_site 45 = .ok (.tableswitch 48 0 2 #[27, 34, 41], 27) := by decide +kernel
theorem d_Lp_site_72 : decode b_Lp_site 72 = .ok (.aload 4, 2) := by decide +kernel
theorem d_Lp_site_74 : decode b_Lp_site 74 = .ok (.iload_n 2, 1) := by decide +kernel
theorem d_Lp_site_75 : decode b_Lp_site 75 = .ok (.invokevirtual 155, 3) := by decide +kernel
theorem d_Lp_site_78 : decode b_Lp_site 78 = .ok (.ireturn, 1) := by decide +kernel
theorem d_Lp_site_79 : decode b_Lp_site 79 = .ok (.aload 4, 2) := by decide +kernel
theorem d_Lp_site_81 : decode b_Lp_site 81 = .ok (.iload_n 2, 1) := by decide +kernel
theorem d_Lp_site_82 : decode b_Lp_site 82 = .ok (.invokevirtual 158, 3) := by decide +kernel
theorem d_Lp_site_85 : decode b_Lp_site 85 = .ok (.ireturn, 1) := by decide +kernel
theorem d_Lp_site_86 : decode b_Lp_site 86 = .ok (.aload 4, 2) := by decide +kernel
theorem d_Lp_site_88 : decode b_Lp_site 88 = .ok (.iload_n 2, 1) := by decide +kernel
theorem d_Lp_site_89 : decode b_Lp_site 89 = .ok (.invokevirtual 161, 3) := by decide +kernel
theorem d_Lp_site_92 : decode b_Lp_site 92 = .ok (.ireturn, 1) := by decide +kernel
theorem d_Lp_site_93 : decode b_Lp_site 93 = .ok (.new 121, 3) := by decide +kernel
theorem d_Lp_site_96 : decode b_Lp_site 96 = .ok (.dup, 1) := by decide +kernel
theorem d_Lp_site_97 : decode b_Lp_site 97 = .ok (.ldc 164, 2) := by decide +kernel
theorem d_Lp_site_99 : decode b_Lp_site 99 = .ok (.invokespecial 125, 3) := by decide +kernel
theorem d_Lp_site_102 : decode b_Lp_site 102 = .ok (.athrow, 1) := by decide +kernel
theorem d_Lp_run_0 : decode b_Lp_run 0 = .ok (.iload_n 1, 1) := by decide +kernel
theorem d_Lp_run_1 : decode b_Lp_run 1 = .ok (.invokestatic 67, 3) := by decide +kernel
theorem d_Lp_run_4 : decode b_Lp_run 4 = .ok (.aload_n 0, 1) := by decide +kernel
theorem d_Lp_run_5 : decode b_Lp_run 5 = .ok (.getfield 33, 3) := by decide +kernel
theorem d_Lp_run_8 : decode b_Lp_run 8 = .ok (.getfield 94, 3) := by decide +kernel
theorem d_Lp_run_11 : decode b_Lp_run 11 = .ok (.iload_n 1, 1) := by decide +kernel
theorem d_Lp_run_12 : decode b_Lp_run 12 = .ok (.aaload, 1) := by decide +kernel
theorem d_Lp_run_13 : decode b_Lp_run 13 = .ok (.invokevirtual 166, 3) := by decide +kernel
theorem d_Lp_run_16 : decode b_Lp_run 16 = .ok (.ifCond .ne 13, 3) := by decide +kernel
theorem d_Lp_run_19 : decode b_Lp_run 19 = .ok (.new 58, 3) := by decide +kernel
theorem d_Lp_run_22 : decode b_Lp_run 22 = .ok (.dup, 1) := by decide +kernel
theorem d_Lp_run_23 : decode b_Lp_run 23 = .ok (.ldc 169, 2) := by decide +kernel
theorem d_Lp_run_25 : decode b_Lp_run 25 = .ok (.invokespecial 62, 3) := by decide +kernel
theorem d_Lp_run_28 : decode b_Lp_run 28 = .ok (.athrow, 1) := by decide +kernel
theorem d_Lp_run_29 : decode b_Lp_run 29 = .ok (.aload_n 0, 1) := by decide +kernel
theorem d_Lp_run_30 : decode b_Lp_run 30 = .ok (.getfield 33, 3) := by decide +kernel
theorem d_Lp_run_33 : decode b_Lp_run 33 = .ok (.iload_n 1, 1) := by decide +kernel
theorem d_Lp_run_34 : decode b_Lp_run 34 = .ok (.invokevirtual 171, 3) := by decide +kernel
theorem d_Lp_run_37 : decode b_Lp_run 37 = .ok (.ireturn, 1) := by decide +kernel
theorem d_Lp_count_0 : decode b_Lp_count 0 = .ok (.aload_n 0, 1) := by decide +kernel
theorem d_Lp_count_1 : decode b_Lp_count 1 = .ok (.getfield 33, 3) := by decide +kernel
theorem d_Lp_count_4 : decode b_Lp_count 4 = .ok (.getfield 174, 3) := by decide +kernel
theorem d_Lp_count_7 : decode b_Lp_count 7 = .ok (.astore_n 2, 1) := by decide +kernel
theorem d_Lp_count_8 : decode b_Lp_count 8 = .ok (.iload_n 1, 1) := by decide +kernel
theorem d_Lp_count_9 : decode b_Lp_count 9 = .ok (.tableswitch 69 0 5 #[39, 44, 49, 54, 59, 64], 39) := by decide +kernel
theorem d_Lp_count_48 : decode b_Lp_count 48 = .ok (.aload_n 2, 1) := by decide +kernel
theorem d_Lp_count_49 : decode b_Lp_count 49 = .ok (.getfield 178, 3) := by decide +kernel
theorem d_Lp_count_52 : decode b_Lp_count 52 = .ok (.ireturn, 1) := by decide +kernel
theorem d_Lp_count_53 : decode b_Lp_count 53 = .ok (.aload_n 2, 1) := by decide +kernel
theorem d_Lp_count_54 : decode b_Lp_count 54 = .ok (.getfield 183, 3) := by decide +kernel
theorem d_Lp_count_57 : decode b_Lp_count 57 = .ok (.ireturn, 1) := by decide +kernel
theorem d_Lp_count_58 : decode b_Lp_count 58 = .ok (.aload_n 2, 1) := by decide +kernel
theorem d_Lp_count_59 : decode b_Lp_count 59 = .ok (.getfield 186, 3) := by decide +kernel
theorem d_Lp_count_62 : decode b_Lp_count 62 = .ok (.ireturn, 1) := by decide +kernel
theorem d_Lp_count_63 : decode b_Lp_count 63 = .ok (.aload_n 2, 1) := by decide +kernel
theorem d_Lp_count_64 : decode b_Lp_count 64 = .ok (.getfield 189, 3) := by decide +kernel
theorem d_Lp_count_67 : decode b_Lp_count 67 = .ok (.ireturn, 1) := by decide +kernel
theorem d_Lp_count_68 : decode b_Lp_count 68 = .ok (.aload_n 2, 1) := by decide +kernel
theorem d_Lp_count_69 : decode b_Lp_count 69 = .ok (.getfield 192, 3) := by decide +kernel
theorem d_Lp_count_72 : decode b_Lp_count 72 = .ok (.ireturn, 1) := by decide +kernel
theorem d_Lp_count_73 : decode b_Lp_count 73 = .ok (.aload_n 2, 1) := by decide +kernel
theorem d_Lp_count_74 : decode b_Lp_count 74 = .ok (.getfield 195, 3) := by decide +kernel
theorem d_Lp_count_77 : decode b_Lp_count 77 = .ok (.ireturn, 1) := by decide +kernel
theorem d_Lp_count_78 : decode b_Lp_count 78 = .ok (.new 47, 3) := by decide +kernel
theorem d_Lp_count_81 : decode b_Lp_count 81 = .ok (.dup, 1) := by decide +kernel
theorem d_Lp_count_82 : decode b_Lp_count 82 = .ok (.ldc 113, 2) := by decide +kernel
theorem d_Lp_count_84 : decode b_Lp_count 84 = .ok (.invokespecial 51, 3) := by decide +kernel
theorem d_Lp_count_87 : decode b_Lp_count 87 = .ok (.athrow, 1) := by decide +kernel
theorem d_Lp_out_0 : decode b_Lp_out 0 = .ok (.aload_n 0, 1) := by decide +kernel
theorem d_Lp_out_1 : decode b_Lp_out 1 = .ok (.getfield 33, 3) := by decide +kernel
theorem d_Lp_out_4 : decode b_Lp_out 4 = .ok (.getfield 174, 3) := by decide +kernel
theorem d_Lp_out_7 : decode b_Lp_out 7 = .ok (.iload_n 1, 1) := by decide +kernel
theorem d_Lp_out_8 : decode b_Lp_out 8 = .ok (.invokevirtual 198, 3) := by decide +kernel
theorem d_Lp_out_11 : decode b_Lp_out 11 = .ok (.ifCond .ne 13, 3) := by decide +kernel
theorem d_Lp_out_14 : decode b_Lp_out 14 = .ok (.new 121, 3) := by decide +kernel
theorem d_Lp_out_17 : decode b_Lp_out 17 = .ok (.dup, 1) := by decide +kernel
theorem d_Lp_out_18 : decode b_Lp_out 18 = .ok (.ldc 201, 2) := by decide +kernel
theorem d_Lp_out_20 : decode b_Lp_out 20 = .ok (.invokespecial 125, 3) := by decide +kernel
theorem d_Lp_out_23 : decode b_Lp_out 23 = .ok (.athrow, 1) := by decide +kernel
theorem d_Lp_out_24 : decode b_Lp_out 24 = .ok (.aload_n 0, 1) := by decide +kernel
theorem d_Lp_out_25 : decode b_Lp_out 25 = .ok (.getfield 33, 3) := by decide +kernel
theorem d_Lp_out_28 : decode b_Lp_out 28 = .ok (.getfield 174, 3) := by decide +kernel
theorem d_Lp_out_31 : decode b_Lp_out 31 = .ok (.iload_n 1, 1) := by decide +kernel
theorem d_Lp_out_32 : decode b_Lp_out 32 = .ok (.invokevirtual 203, 3) := by decide +kernel
theorem d_Lp_out_35 : decode b_Lp_out 35 = .ok (.ireturn, 1) := by decide +kernel
theorem d_Bl_init_0 : decode b_Bl_init 0 = .ok (.aload_n 0, 1) := by decide +kernel
theorem d_Bl_init_1 : decode b_Bl_init 1 = .ok (.invokespecial 3, 3) := by decide +kernel
theorem d_Bl_init_4 : decode b_Bl_init 4 = .ok (.aload_n 0, 1) := by decide +kernel
theorem d_Bl_init_5 : decode b_Bl_init 5 = .ok (.bipush 20, 2) := by decide +kernel
theorem d_Bl_init_7 : decode b_Bl_init 7 = .ok (.newarray .int, 2) := by decide +kernel
theorem d_Bl_init_9 : decode b_Bl_init 9 = .ok (.putfield 9, 3) := by decide +kernel
theorem d_Bl_init_12 : decode b_Bl_init 12 = .ok (.return_, 1) := by decide +kernel
theorem d_Bl_begin_0 : decode b_Bl_begin 0 = .ok (.aload_n 0, 1) := by decide +kernel
theorem d_Bl_begin_1 : decode b_Bl_begin 1 = .ok (.iload_n 1, 1) := by decide +kernel
theorem d_Bl_begin_2 : decode b_Bl_begin 2 = .ok (.putfield 15, 3) := by decide +kernel
theorem d_Bl_begin_5 : decode b_Bl_begin 5 = .ok (.aload_n 0, 1) := by decide +kernel
theorem d_Bl_begin_6 : decode b_Bl_begin 6 = .ok (.iload_n 2, 1) := by decide +kernel
theorem d_Bl_begin_7 : decode b_Bl_begin 7 = .ok (.putfield 19, 3) := by decide +kernel
theorem d_Bl_begin_10 : decode b_Bl_begin 10 = .ok (.aload_n 0, 1) := by decide +kernel
theorem d_Bl_begin_11 : decode b_Bl_begin 11 = .ok (.iload_n 3, 1) := by decide +kernel
theorem d_Bl_begin_12 : decode b_Bl_begin 12 = .ok (.putfield 22, 3) := by decide +kernel
theorem d_Bl_begin_15 : decode b_Bl_begin 15 = .ok (.aload_n 0, 1) := by decide +kernel
theorem d_Bl_begin_16 : decode b_Bl_begin 16 = .ok (.iload 4, 2) := by decide +kernel
theorem d_Bl_begin_18 : decode b_Bl_begin 18 = .ok (.putfield 25, 3) := by decide +kernel
theorem d_Bl_begin_21 : decode b_Bl_begin 21 = .ok (.aload_n 0, 1) := by decide +kernel
theorem d_Bl_begin_22 : decode b_Bl_begin 22 = .ok (.iload_n 3, 1) := by decide +kernel
theorem d_Bl_begin_23 : decode b_Bl_begin 23 = .ok (.putfield 28, 3) := by decide +kernel
theorem d_Bl_begin_26 : decode b_Bl_begin 26 = .ok (.aload_n 0, 1) := by decide +kernel
theorem d_Bl_begin_27 : decode b_Bl_begin 27 = .ok (.iconst 0, 1) := by decide +kernel
theorem d_Bl_begin_28 : decode b_Bl_begin 28 = .ok (.putfield 31, 3) := by decide +kernel
theorem d_Bl_begin_31 : decode b_Bl_begin 31 = .ok (.return_, 1) := by decide +kernel
theorem d_Bl_noteExit_0 : decode b_Bl_noteExit 0 = .ok (.aload_n 0, 1) := by decide +kernel
theorem d_Bl_noteExit_1 : decode b_Bl_noteExit 1 = .ok (.getfield 31, 3) := by decide +kernel
theorem d_Bl_noteExit_4 : decode b_Bl_noteExit 4 = .ok (.bipush 20, 2) := by decide +kernel
theorem d_Bl_noteExit_6 : decode b_Bl_noteExit 6 = .ok (.if_icmp .ge 23, 3) := by decide +kernel
theorem d_Bl_noteExit_9 : decode b_Bl_noteExit 9 = .ok (.aload_n 0, 1) := by decide +kernel
theorem d_Bl_noteExit_10 : decode b_Bl_noteExit 10 = .ok (.getfield 9, 3) := by decide +kernel
theorem d_Bl_noteExit_13 : decode b_Bl_noteExit 13 = .ok (.aload_n 0, 1) := by decide +kernel
theorem d_Bl_noteExit_14 : decode b_Bl_noteExit 14 = .ok (.getfield 31, 3) := by decide +kernel
theorem d_Bl_noteExit_17 : decode b_Bl_noteExit 17 = .ok (.iload_n 1, 1) := by decide +kernel
theorem d_Bl_noteExit_18 : decode b_Bl_noteExit 18 = .ok (.iastore, 1) := by decide +kernel
theorem d_Bl_noteExit_19 : decode b_Bl_noteExit 19 = .ok (.aload_n 0, 1) := by decide +kernel
theorem d_Bl_noteExit_20 : decode b_Bl_noteExit 20 = .ok (.dup, 1) := by decide +kernel
theorem d_Bl_noteExit_21 : decode b_Bl_noteExit 21 = .ok (.getfield 31, 3) := by decide +kernel
theorem d_Bl_noteExit_24 : decode b_Bl_noteExit 24 = .ok (.iconst 1, 1) := by decide +kernel
theorem d_Bl_noteExit_25 : decode b_Bl_noteExit 25 = .ok (.iadd, 1) := by decide +kernel
theorem d_Bl_noteExit_26 : decode b_Bl_noteExit 26 = .ok (.putfield 31, 3) := by decide +kernel
theorem d_Bl_noteExit_29 : decode b_Bl_noteExit 29 = .ok (.return_, 1) := by decide +kernel
theorem d_Bl_aimExits_0 : decode b_Bl_aimExits 0 = .ok (.iconst 0, 1) := by decide +kernel
theorem d_Bl_aimExits_1 : decode b_Bl_aimExits 1 = .ok (.istore_n 2, 1) := by decide +kernel
theorem d_Bl_aimExits_2 : decode b_Bl_aimExits 2 = .ok (.iload_n 2, 1) := by decide +kernel
theorem d_Bl_aimExits_3 : decode b_Bl_aimExits 3 = .ok (.aload_n 0, 1) := by decide +kernel
theorem d_Bl_aimExits_4 : decode b_Bl_aimExits 4 = .ok (.getfield 31, 3) := by decide +kernel
theorem d_Bl_aimExits_7 : decode b_Bl_aimExits 7 = .ok (.if_icmp .ge 23, 3) := by decide +kernel
theorem d_Bl_aimExits_10 : decode b_Bl_aimExits 10 = .ok (.aload_n 1, 1) := by decide +kernel
theorem d_Bl_aimExits_11 : decode b_Bl_aimExits 11 = .ok (.aload_n 0, 1) := by decide +kernel
theorem d_Bl_aimExits_12 : decode b_Bl_aimExits 12 = .ok (.getfield 9, 3) := by decide +kernel
theorem d_Bl_aimExits_15 : decode b_Bl_aimExits 15 = .ok (.iload_n 2, 1) := by decide +kernel
theorem d_Bl_aimExits_16 : decode b_Bl_aimExits 16 = .ok (.iaload, 1) := by decide +kernel
theorem d_Bl_aimExits_17 : decode b_Bl_aimExits 17 = .ok (.aload_n 1, 1) := by decide +kernel
theorem d_Bl_aimExits_18 : decode b_Bl_aimExits 18 = .ok (.getfield 34, 3) := by decide +kernel
theorem d_Bl_aimExits_21 : decode b_Bl_aimExits 21 = .ok (.invokevirtual 39, 3) := by decide +kernel
theorem d_Bl_aimExits_24 : decode b_Bl_aimExits 24 = .ok (.iinc 2 1, 3) := by decide +kernel
theorem d_Bl_aimExits_27 : decode b_Bl_aimExits 27 = .ok (.goto (-25), 3) := by decide +kernel
theorem d_Bl_aimExits_30 : decode b_Bl_aimExits 30 = .ok (.return_, 1) := by decide +kernel
theorem d_Ck_init_0 : decode b_Ck_init 0 = .ok (.aload_n 0, 1) := by decide +kernel
theorem d_Ck_init_1 : decode b_Ck_init 1 = .ok (.invokespecial 3, 3) := by decide +kernel
theorem d_Ck_init_4 : decode b_Ck_init 4 = .ok (.aload_n 0, 1) := by decide +kernel
theorem d_Ck_init_5 : decode b_Ck_init 5 = .ok (.iconst 5, 1) := by decide +kernel
theorem d_Ck_init_6 : decode b_Ck_init 6 = .ok (.newarray .int, 2) := by decide +kernel
theorem d_Ck_init_8 : decode b_Ck_init 8 = .ok (.putfield 9, 3) := by decide +kernel
theorem d_Ck_init_11 : decode b_Ck_init 11 = .ok (.return_, 1) := by decide +kernel
theorem d_Ck_isWellFormed_0 : decode b_Ck_isWellFormed 0 = .ok (.aload_n 0, 1) := by decide +kernel
theorem d_Ck_isWellFormed_1 : decode b_Ck_isWellFormed 1 = .ok (.iconst 0, 1) := by decide +kernel
theorem d_Ck_isWellFormed_2 : decode b_Ck_isWellFormed 2 = .ok (.putfield 15, 3) := by decide +kernel
theorem d_Ck_isWellFormed_5 : decode b_Ck_isWellFormed 5 = .ok (.iconst 0, 1) := by decide +kernel
theorem d_Ck_isWellFormed_6 : decode b_Ck_isWellFormed 6 = .ok (.istore_n 2, 1) := by decide +kernel
theorem d_Ck_isWellFormed_7 : decode b_Ck_isWellFormed 7 = .ok (.iload_n 2, 1) := by decide +kernel
theorem d_Ck_isWellFormed_8 : decode b_Ck_isWellFormed 8 = .ok (.aload_n 1, 1) := by decide +kernel
theorem d_Ck_isWellFormed_9 : decode b_Ck_isWellFormed 9 = .ok (.getfield 19, 3) := by decide +kernel
theorem d_Ck_isWellFormed_12 : decode b_Ck_isWellFormed 12 = .ok (.if_icmp .ge 23, 3) := by decide +kernel
theorem d_Ck_isWellFormed_15 : decode b_Ck_isWellFormed 15 = .ok (.aload_n 0, 1) := by decide +kernel
theorem d_Ck_isWellFormed_16 : decode b_Ck_isWellFormed 16 = .ok (.aload_n 1, 1) := by decide +kernel
theorem d_Ck_isWellFormed_17 : decode b_Ck_isWellFormed 17 = .ok (.iload_n 2, 1) := by decide +kernel
theorem d_Ck_isWellFormed_18 : decode b_Ck_isWellFormed 18 = .ok (.invokevirtual 24, 3) := by decide +kernel
theorem d_Ck_isWellFormed_21 : decode b_Ck_isWellFormed 21 = .ok (.invokevirtual 28, 3) := by decide +kernel
theorem d_Ck_isWellFormed_24 : decode b_Ck_isWellFormed 24 = .ok (.ifCond .ne 5, 3) := by decide +kernel
theorem d_Ck_isWellFormed_27 : decode b_Ck_isWellFormed 27 = .ok (.iconst 0, 1) := by decide +kernel
theorem d_Ck_isWellFormed_28 : decode b_Ck_isWellFormed 28 = .ok (.ireturn, 1) := by decide +kernel
theorem d_Ck_isWellFormed_29 : decode b_Ck_isWellFormed 29 = .ok (.iinc 2 1, 3) := by decide +kernel
theorem d_Ck_isWellFormed_32 : decode b_Ck_isWellFormed 32 = .ok (.goto (-25), 3) := by decide +kernel
theorem d_Ck_isWellFormed_35 : decode b_Ck_isWellFormed 35 = .ok (.aload_n 0, 1) := by decide +kernel
theorem d_Ck_isWellFormed_36 : decode b_Ck_isWellFormed 36 = .ok (.getfield 15, 3) := by decide +kernel
theorem d_Ck_isWellFormed_39 : decode b_Ck_isWellFormed 39 = .ok (.ifCond .ne 7, 3) := by decide +kernel
theorem d_Ck_isWellFormed_42 : decode b_Ck_isWellFormed 42 = .ok (.iconst 1, 1) := by decide +kernel
theorem d_Ck_isWellFormed_43 : decode b_Ck_isWellFormed 43 = .ok (.goto 4, 3) := by decide +kernel
theorem d_Ck_isWellFormed_46 : decode b_Ck_isWellFormed 46 = .ok (.iconst 0, 1) := by decide +kernel
theorem d_Ck_isWellFormed_47 : decode b_Ck_isWellFormed 47 = .ok (.ireturn, 1) := by decide +kernel
theorem d_Ck_accepts_0 : decode b_Ck_accepts 0 = .ok (.iload_n 1, 1) := by decide +kernel
theorem d_Ck_accepts_1 : decode b_Ck_accepts 1 = .ok (.tableswitch 56 3 7 #[35, 41, 46, 35, 51], 35) := by decide +kernel
theorem d_Ck_accepts_36 : decode b_Ck_accepts 36 = .ok (.aload_n 0, 1) := by decide +kernel
end
section
theorem d_Ck_accepts_37 : decode b_Ck_accepts 37 = .ok (.iload_n 1, 1) := by decide +kernel
theorem d_Ck_accepts_38 : decode b_Ck_accepts 38 = .ok (.invokevirtual 32, 3) := by decide +kernel
theorem d_Ck_accepts_41 : decode b_Ck_accepts 41 = .ok (.ireturn, 1) := by decide +kernel
theorem d_Ck_accepts_42 : decode b_Ck_accepts 42 = .ok (.aload_n 0, 1) := by decide +kernel
theorem d_Ck_accepts_43 : decode b_Ck_accepts 43 = .ok (.invokevirtual 35, 3) := by decide +kernel
theorem d_Ck_accepts_46 : decode b_Ck_accepts 46 = .ok (.ireturn, 1) := by decide +kernel
theorem d_Ck_accepts_47 : decode b_Ck_accepts 47 = .ok (.aload_n 0, 1) := by decide +kernel
theorem d_Ck_accepts_48 : decode b_Ck_accepts 48 = .ok (.invokevirtual 39, 3) := by decide +kernel
theorem d_Ck_accepts_51 : decode b_Ck_accepts 51 = .ok (.ireturn, 1) := by decide +kernel
theorem d_Ck_accepts_52 : decode b_Ck_accepts 52 = .ok (.aload_n 0, 1) := by decide +kernel
theorem d_Ck_accepts_53 : decode b_Ck_accepts 53 = .ok (.invokevirtual 42, 3) := by decide +kernel
theorem d_Ck_accepts_56 : decode b_Ck_accepts 56 = .ok (.ireturn, 1) := by decide +kernel
theorem d_Ck_accepts_57 : decode b_Ck_accepts 57 = .ok (.iconst 1, 1) := by decide +kernel
theorem d_Ck_accepts_58 : decode b_Ck_accepts 58 = .ok (.ireturn, 1) := by decide +kernel
theorem d_Ck_opensRow_0 : decode b_Ck_opensRow 0 = .ok (.aload_n 0, 1) := by decide +kernel
theorem d_Ck_opensRow_1 : decode b_Ck_opensRow 1 = .ok (.getfield 15, 3) := by decide +kernel
theorem d_Ck_opensRow_4 : decode b_Ck_opensRow 4 = .ok (.iconst 5, 1) := by decide +kernel
theorem d_Ck_opensRow_5 : decode b_Ck_opensRow 5 = .ok (.if_icmp .lt 5, 3) := by decide +kernel
theorem d_Ck_opensRow_8 : decode b_Ck_opensRow 8 = .ok (.iconst 0, 1) := by decide +kernel
theorem d_Ck_opensRow_9 : decode b_Ck_opensRow 9 = .ok (.ireturn, 1) := by decide +kernel
theorem d_Ck_opensRow_10 : decode b_Ck_opensRow 10 = .ok (.aload_n 0, 1) := by decide +kernel
theorem d_Ck_opensRow_11 : decode b_Ck_opensRow 11 = .ok (.getfield 9, 3) := by decide +kernel
theorem d_Ck_opensRow_14 : decode b_Ck_opensRow 14 = .ok (.aload_n 0, 1) := by decide +kernel
theorem d_Ck_opensRow_15 : decode b_Ck_opensRow 15 = .ok (.getfield 15, 3) := by decide +kernel
theorem d_Ck_opensRow_18 : decode b_Ck_opensRow 18 = .ok (.iload_n 1, 1) := by decide +kernel
theorem d_Ck_opensRow_19 : decode b_Ck_opensRow 19 = .ok (.iastore, 1) := by decide +kernel
theorem d_Ck_opensRow_20 : decode b_Ck_opensRow 20 = .ok (.aload_n 0, 1) := by decide +kernel
theorem d_Ck_opensRow_21 : decode b_Ck_opensRow 21 = .ok (.dup, 1) := by decide +kernel
theorem d_Ck_opensRow_22 : decode b_Ck_opensRow 22 = .ok (.getfield 15, 3) := by decide +kernel
theorem d_Ck_opensRow_25 : decode b_Ck_opensRow 25 = .ok (.iconst 1, 1) := by decide +kernel
theorem d_Ck_opensRow_26 : decode b_Ck_opensRow 26 = .ok (.iadd, 1) := by decide +kernel
theorem d_Ck_opensRow_27 : decode b_Ck_opensRow 27 = .ok (.putfield 15, 3) := by decide +kernel
theorem d_Ck_opensRow_30 : decode b_Ck_opensRow 30 = .ok (.iconst 1, 1) := by decide +kernel
theorem d_Ck_opensRow_31 : decode b_Ck_opensRow 31 = .ok (.ireturn, 1) := by decide +kernel
theorem d_Ck_turnsToCatch_0 : decode b_Ck_turnsToCatch 0 = .ok (.aload_n 0, 1) := by decide +kernel
theorem d_Ck_turnsToCatch_1 : decode b_Ck_turnsToCatch 1 = .ok (.getfield 15, 3) := by decide +kernel
theorem d_Ck_turnsToCatch_4 : decode b_Ck_turnsToCatch 4 = .ok (.iconst 1, 1) := by decide +kernel
theorem d_Ck_turnsToCatch_5 : decode b_Ck_turnsToCatch 5 = .ok (.if_icmp .lt 19, 3) := by decide +kernel
theorem d_Ck_turnsToCatch_8 : decode b_Ck_turnsToCatch 8 = .ok (.aload_n 0, 1) := by decide +kernel
theorem d_Ck_turnsToCatch_9 : decode b_Ck_turnsToCatch 9 = .ok (.getfield 9, 3) := by decide +kernel
theorem d_Ck_turnsToCatch_12 : decode b_Ck_turnsToCatch 12 = .ok (.aload_n 0, 1) := by decide +kernel
theorem d_Ck_turnsToCatch_13 : decode b_Ck_turnsToCatch 13 = .ok (.getfield 15, 3) := by decide +kernel
theorem d_Ck_turnsToCatch_16 : decode b_Ck_turnsToCatch 16 = .ok (.iconst 1, 1) := by decide +kernel
theorem d_Ck_turnsToCatch_17 : decode b_Ck_turnsToCatch 17 = .ok (.isub, 1) := by decide +kernel
theorem d_Ck_turnsToCatch_18 : decode b_Ck_turnsToCatch 18 = .ok (.iaload, 1) := by decide +kernel
theorem d_Ck_turnsToCatch_19 : decode b_Ck_turnsToCatch 19 = .ok (.bipush 6, 2) := by decide +kernel
theorem d_Ck_turnsToCatch_21 : decode b_Ck_turnsToCatch 21 = .ok (.if_icmp .ne 5, 3) := by decide +kernel
theorem d_Ck_turnsToCatch_24 : decode b_Ck_turnsToCatch 24 = .ok (.iconst 0, 1) := by decide +kernel
theorem d_Ck_turnsToCatch_25 : decode b_Ck_turnsToCatch 25 = .ok (.ireturn, 1) := by decide +kernel
theorem d_Ck_turnsToCatch_26 : decode b_Ck_turnsToCatch 26 = .ok (.aload_n 0, 1) := by decide +kernel
theorem d_Ck_turnsToCatch_27 : decode b_Ck_turnsToCatch 27 = .ok (.getfield 9, 3) := by decide +kernel
theorem d_Ck_turnsToCatch_30 : decode b_Ck_turnsToCatch 30 = .ok (.aload_n 0, 1) := by decide +kernel
theorem d_Ck_turnsToCatch_31 : decode b_Ck_turnsToCatch 31 = .ok (.getfield 15, 3) := by decide +kernel
theorem d_Ck_turnsToCatch_34 : decode b_Ck_turnsToCatch 34 = .ok (.iconst 1, 1) := by decide +kernel
theorem d_Ck_turnsToCatch_35 : decode b_Ck_turnsToCatch 35 = .ok (.isub, 1) := by decide +kernel
theorem d_Ck_turnsToCatch_36 : decode b_Ck_turnsToCatch 36 = .ok (.iconst 4, 1) := by decide +kernel
theorem d_Ck_turnsToCatch_37 : decode b_Ck_turnsToCatch 37 = .ok (.iastore, 1) := by decide +kernel
theorem d_Ck_turnsToCatch_38 : decode b_Ck_turnsToCatch 38 = .ok (.iconst 1, 1) := by decide +kernel
theorem d_Ck_turnsToCatch_39 : decode b_Ck_turnsToCatch 39 = .ok (.ireturn, 1) := by decide +kernel
theorem d_Ck_closesRow_0 : decode b_Ck_closesRow 0 = .ok (.aload_n 0, 1) := by decide +kernel
theorem d_Ck_closesRow_1 : decode b_Ck_closesRow 1 = .ok (.getfield 15, 3) := by decide +kernel
theorem d_Ck_closesRow_4 : decode b_Ck_closesRow 4 = .ok (.iconst 1, 1) := by decide +kernel
theorem d_Ck_closesRow_5 : decode b_Ck_closesRow 5 = .ok (.if_icmp .lt 18, 3) := by decide +kernel
theorem d_Ck_closesRow_8 : decode b_Ck_closesRow 8 = .ok (.aload_n 0, 1) := by decide +kernel
theorem d_Ck_closesRow_9 : decode b_Ck_closesRow 9 = .ok (.getfield 9, 3) := by decide +kernel
theorem d_Ck_closesRow_12 : decode b_Ck_closesRow 12 = .ok (.aload_n 0, 1) := by decide +kernel
theorem d_Ck_closesRow_13 : decode b_Ck_closesRow 13 = .ok (.getfield 15, 3) := by decide +kernel
theorem d_Ck_closesRow_16 : decode b_Ck_closesRow 16 = .ok (.iconst 1, 1) := by decide +kernel
theorem d_Ck_closesRow_17 : decode b_Ck_closesRow 17 = .ok (.isub, 1) := by decide +kernel
theorem d_Ck_closesRow_18 : decode b_Ck_closesRow 18 = .ok (.iaload, 1) := by decide +kernel
theorem d_Ck_closesRow_19 : decode b_Ck_closesRow 19 = .ok (.iconst 3, 1) := by decide +kernel
theorem d_Ck_closesRow_20 : decode b_Ck_closesRow 20 = .ok (.if_icmp .ne 5, 3) := by decide +kernel
theorem d_Ck_closesRow_23 : decode b_Ck_closesRow 23 = .ok (.iconst 0, 1) := by decide +kernel
theorem d_Ck_closesRow_24 : decode b_Ck_closesRow 24 = .ok (.ireturn, 1) := by decide +kernel
theorem d_Ck_closesRow_25 : decode b_Ck_closesRow 25 = .ok (.aload_n 0, 1) := by decide +kernel
theorem d_Ck_closesRow_26 : decode b_Ck_closesRow 26 = .ok (.dup, 1) := by decide +kernel
theorem d_Ck_closesRow_27 : decode b_Ck_closesRow 27 = .ok (.getfield 15, 3) := by decide +kernel
theorem d_Ck_closesRow_30 : decode b_Ck_closesRow 30 = .ok (.iconst 1, 1) := by decide +kernel
theorem d_Ck_closesRow_31 : decode b_Ck_closesRow 31 = .ok (.isub, 1) := by decide +kernel
theorem d_Ck_closesRow_32 : decode b_Ck_closesRow 32 = .ok (.putfield 15, 3) := by decide +kernel
theorem d_Ck_closesRow_35 : decode b_Ck_closesRow 35 = .ok (.iconst 1, 1) := by decide +kernel
theorem d_Ck_closesRow_36 : decode b_Ck_closesRow 36 = .ok (.ireturn, 1) := by decide +kernel
theorem d_Ck_isInCatch_0 : decode b_Ck_isInCatch 0 = .ok (.iconst 0, 1) := by decide +kernel
theorem d_Ck_isInCatch_1 : decode b_Ck_isInCatch 1 = .ok (.istore_n 1, 1) := by decide +kernel
theorem d_Ck_isInCatch_2 : decode b_Ck_isInCatch 2 = .ok (.iload_n 1, 1) := by decide +kernel
theorem d_Ck_isInCatch_3 : decode b_Ck_isInCatch 3 = .ok (.aload_n 0, 1) := by decide +kernel
theorem d_Ck_isInCatch_4 : decode b_Ck_isInCatch 4 = .ok (.getfield 15, 3) := by decide +kernel
theorem d_Ck_isInCatch_7 : decode b_Ck_isInCatch 7 = .ok (.if_icmp .ge 21, 3) := by decide +kernel
theorem d_Ck_isInCatch_10 : decode b_Ck_isInCatch 10 = .ok (.aload_n 0, 1) := by decide +kernel
theorem d_Ck_isInCatch_11 : decode b_Ck_isInCatch 11 = .ok (.getfield 9, 3) := by decide +kernel
theorem d_Ck_isInCatch_14 : decode b_Ck_isInCatch 14 = .ok (.iload_n 1, 1) := by decide +kernel
theorem d_Ck_isInCatch_15 : decode b_Ck_isInCatch 15 = .ok (.iaload, 1) := by decide +kernel
theorem d_Ck_isInCatch_16 : decode b_Ck_isInCatch 16 = .ok (.iconst 4, 1) := by decide +kernel
theorem d_Ck_isInCatch_17 : decode b_Ck_isInCatch 17 = .ok (.if_icmp .ne 5, 3) := by decide +kernel
theorem d_Ck_isInCatch_20 : decode b_Ck_isInCatch 20 = .ok (.iconst 1, 1) := by decide +kernel
theorem d_Ck_isInCatch_21 : decode b_Ck_isInCatch 21 = .ok (.ireturn, 1) := by decide +kernel
theorem d_Ck_isInCatch_22 : decode b_Ck_isInCatch 22 = .ok (.iinc 1 1, 3) := by decide +kernel
theorem d_Ck_isInCatch_25 : decode b_Ck_isInCatch 25 = .ok (.goto (-23), 3) := by decide +kernel
theorem d_Ck_isInCatch_28 : decode b_Ck_isInCatch 28 = .ok (.iconst 0, 1) := by decide +kernel
theorem d_Ck_isInCatch_29 : decode b_Ck_isInCatch 29 = .ok (.ireturn, 1) := by decide +kernel
theorem d_Co_init_0 : decode b_Co_init 0 = .ok (.aload_n 0, 1) := by decide +kernel
theorem d_Co_init_1 : decode b_Co_init 1 = .ok (.invokespecial 3, 3) := by decide +kernel
theorem d_Co_init_4 : decode b_Co_init 4 = .ok (.aload_n 0, 1) := by decide +kernel
theorem d_Co_init_5 : decode b_Co_init 5 = .ok (.iconst 5, 1) := by decide +kernel
theorem d_Co_init_6 : decode b_Co_init 6 = .ok (.anewarray 9, 3) := by decide +kernel
theorem d_Co_init_9 : decode b_Co_init 9 = .ok (.putfield 11, 3) := by decide +kernel
theorem d_Co_init_12 : decode b_Co_init 12 = .ok (.iconst 0, 1) := by decide +kernel
theorem d_Co_init_13 : decode b_Co_init 13 = .ok (.istore_n 1, 1) := by decide +kernel
theorem d_Co_init_14 : decode b_Co_init 14 = .ok (.iload_n 1, 1) := by decide +kernel
theorem d_Co_init_15 : decode b_Co_init 15 = .ok (.iconst 5, 1) := by decide +kernel
theorem d_Co_init_16 : decode b_Co_init 16 = .ok (.if_icmp .ge 22, 3) := by decide +kernel
theorem d_Co_init_19 : decode b_Co_init 19 = .ok (.aload_n 0, 1) := by decide +kernel
theorem d_Co_init_20 : decode b_Co_init 20 = .ok (.getfield 11, 3) := by decide +kernel
theorem d_Co_init_23 : decode b_Co_init 23 = .ok (.iload_n 1, 1) := by decide +kernel
theorem d_Co_init_24 : decode b_Co_init 24 = .ok (.new 9, 3) := by decide +kernel
theorem d_Co_init_27 : decode b_Co_init 27 = .ok (.dup, 1) := by decide +kernel
theorem d_Co_init_28 : decode b_Co_init 28 = .ok (.invokespecial 17, 3) := by decide +kernel
theorem d_Co_init_31 : decode b_Co_init 31 = .ok (.aastore, 1) := by decide +kernel
theorem d_Co_init_32 : decode b_Co_init 32 = .ok (.iinc 1 1, 3) := by decide +kernel
theorem d_Co_init_35 : decode b_Co_init 35 = .ok (.goto (-21), 3) := by decide +kernel
theorem d_Co_init_38 : decode b_Co_init 38 = .ok (.return_, 1) := by decide +kernel
theorem d_Co_translate_0 : decode b_Co_translate 0 = .ok (.aload_n 2, 1) := by decide +kernel
theorem d_Co_translate_1 : decode b_Co_translate 1 = .ok (.invokevirtual 18, 3) := by decide +kernel
theorem d_Co_translate_4 : decode b_Co_translate 4 = .ok (.aload_n 0, 1) := by decide +kernel
theorem d_Co_translate_5 : decode b_Co_translate 5 = .ok (.iconst 0, 1) := by decide +kernel
theorem d_Co_translate_6 : decode b_Co_translate 6 = .ok (.putfield 23, 3) := by decide +kernel
theorem d_Co_translate_9 : decode b_Co_translate 9 = .ok (.iconst 0, 1) := by decide +kernel
theorem d_Co_translate_10 : decode b_Co_translate 10 = .ok (.istore_n 3, 1) := by decide +kernel
theorem d_Co_translate_11 : decode b_Co_translate 11 = .ok (.iload_n 3, 1) := by decide +kernel
theorem d_Co_translate_12 : decode b_Co_translate 12 = .ok (.aload_n 1, 1) := by decide +kernel
theorem d_Co_translate_13 : decode b_Co_translate 13 = .ok (.getfield 27, 3) := by decide +kernel
theorem d_Co_translate_16 : decode b_Co_translate 16 = .ok (.if_icmp .ge 16, 3) := by decide +kernel
theorem d_Co_translate_19 : decode b_Co_translate 19 = .ok (.aload_n 0, 1) := by decide +kernel
theorem d_Co_translate_20 : decode b_Co_translate 20 = .ok (.aload_n 1, 1) := by decide +kernel
theorem d_Co_translate_21 : decode b_Co_translate 21 = .ok (.iload_n 3, 1) := by decide +kernel
theorem d_Co_translate_22 : decode b_Co_translate 22 = .ok (.aload_n 2, 1) := by decide +kernel
theorem d_Co_translate_23 : decode b_Co_translate 23 = .ok (.invokevirtual 32, 3) := by decide +kernel
theorem d_Co_translate_26 : decode b_Co_translate 26 = .ok (.iinc 3 1, 3) := by decide +kernel
theorem d_Co_translate_29 : decode b_Co_translate 29 = .ok (.goto (-18), 3) := by decide +kernel
theorem d_Co_translate_32 : decode b_Co_translate 32 = .ok (.aload_n 2, 1) := by decide +kernel
theorem d_Co_translate_33 : decode b_Co_translate 33 = .ok (.bipush 8, 2) := by decide +kernel
theorem d_Co_translate_35 : decode b_Co_translate 35 = .ok (.iconst 0, 1) := by decide +kernel
theorem d_Co_translate_36 : decode b_Co_translate 36 = .ok (.invokevirtual 36, 3) := by decide +kernel
theorem d_Co_translate_39 : decode b_Co_translate 39 = .ok (.return_, 1) := by decide +kernel
theorem d_Co_translateStatement_0 : decode b_Co_translateStatement 0 = .ok (.aload_n 1, 1) := by decide +kernel
theorem d_Co_translateStatement_1 : decode b_Co_translateStatement 1 = .ok (.iload_n 2, 1) := by decide +kernel
theorem d_Co_translateStatement_2 : decode b_Co_translateStatement 2 = .ok (.invokevirtual 40, 3) := by decide +kernel
theorem d_Co_translateStatement_5 : decode b_Co_translateStatement 5 = .ok (.istore 4, 2) := by decide +kernel
theorem d_Co_translateStatement_7 : decode b_Co_translateStatement 7 = .ok (.aload_n 1, 1) := by decide +kernel
theorem d_Co_translateStatement_8 : decode b_Co_translateStatement 8 = .ok (.iload_n 2, 1) := by decide +kernel
theorem d_Co_translateStatement_9 : decode b_Co_translateStatement 9 = .ok (.invokevirtual 44, 3) := by decide +kernel
theorem d_Co_translateStatement_12 : decode b_Co_translateStatement 12 = .ok (.tableswitch 152 0 7 #[48, 58, 72, 120, 136, 144, 99, 86], 48) := by decide +kernel
theorem d_Co_translateStatement_60 : decode b_Co_translateStatement 60 = .ok (.aload_n 3, 1) := by decide +kernel
theorem d_Co_translateStatement_61 : decode b_Co_translateStatement 61 = .ok (.iconst 0, 1) := by decide +kernel
theorem d_Co_translateStatement_62 : decode b_Co_translateStatement 62 = .ok (.iload 4, 2) := by decide +kernel
theorem d_Co_translateStatement_64 : decode b_Co_translateStatement 64 = .ok (.invokevirtual 36, 3) := by decide +kernel
theorem d_Co_translateStatement_67 : decode b_Co_translateStatement 67 = .ok (.goto 97, 3) := by decide +kernel
theorem d_Co_translateStatement_70 : decode b_Co_translateStatement 70 = .ok (.aload_n 3, 1) := by decide +kernel
theorem d_Co_translateStatement_71 : decode b_Co_translateStatement 71 = .ok (.iconst 1, 1) := by decide +kernel
theorem d_Co_translateStatement_72 : decode b_Co_translateStatement 72 = .ok (.iload 4, 2) := by decide +kernel
theorem d_Co_translateStatement_74 : decode b_Co_translateStatement 74 = .ok (.aload_n 0, 1) := by decide +kernel
theorem d_Co_translateStatement_75 : decode b_Co_translateStatement 75 = .ok (.invokevirtual 47, 3) := by decide +kernel
theorem d_Co_translateStatement_78 : decode b_Co_translateStatement 78 = .ok (.invokevirtual 51, 3) := by decide +kernel
theorem d_Co_translateStatement_81 : decode b_Co_translateStatement 81 = .ok (.goto 83, 3) := by decide +kernel
theorem d_Co_translateStatement_84 : decode b_Co_translateStatement 84 = .ok (.aload_n 3, 1) := by decide +kernel
theorem d_Co_translateStatement_85 : decode b_Co_translateStatement 85 = .ok (.iconst 2, 1) := by decide +kernel
theorem d_Co_translateStatement_86 : decode b_Co_translateStatement 86 = .ok (.iload 4, 2) := by decide +kernel
theorem d_Co_translateStatement_88 : decode b_Co_translateStatement 88 = .ok (.aload_n 0, 1) := by decide +kernel
theorem d_Co_translateStatement_89 : decode b_Co_translateStatement 89 = .ok (.invokevirtual 47, 3) := by decide +kernel
theorem d_Co_translateStatement_92 : decode b_Co_translateStatement 92 = .ok (.invokevirtual 51, 3) := by decide +kernel
theorem d_Co_translateStatement_95 : decode b_Co_translateStatement 95 = .ok (.goto 69, 3) := by decide +kernel
theorem d_Co_translateStatement_98 : decode b_Co_translateStatement 98 = .ok (.aload_n 3, 1) := by decide +kernel
theorem d_Co_translateStatement_99 : decode b_Co_translateStatement 99 = .ok (.iconst 3, 1) := by decide +kernel
theorem d_Co_translateStatement_100 : decode b_Co_translateStatement 100 = .ok (.iconst 0, 1) := by decide +kernel
theorem d_Co_translateStatement_101 : decode b_Co_translateStatement 101 = .ok (.aload_n 0, 1) := by decide +kernel
theorem d_Co_translateStatement_102 : decode b_Co_translateStatement 102 = .ok (.invokevirtual 47, 3) := by decide +kernel
theorem d_Co_translateStatement_105 : decode b_Co_translateStatement 105 = .ok (.invokevirtual 51, 3) := by decide +kernel
theorem d_Co_translateStatement_108 : decode b_Co_translateStatement 108 = .ok (.goto 56, 3) := by decide +kernel
theorem d_Co_translateStatement_111 : decode b_Co_translateStatement 111 = .ok (.aload_n 0, 1) := by decide +kernel
theorem d_Co_translateStatement_112 : decode b_Co_translateStatement 112 = .ok (.bipush 6, 2) := by decide +kernel
theorem d_Co_translateStatement_114 : decode b_Co_translateStatement 114 = .ok (.iload 4, 2) := by decide +kernel
theorem d_Co_translateStatement_116 : decode b_Co_translateStatement 116 = .ok (.aload_n 3, 1) := by decide +kernel
theorem d_Co_translateStatement_117 : decode b_Co_translateStatement 117 = .ok (.bipush (-2), 2) := by decide +kernel
theorem d_Co_translateStatement_119 : decode b_Co_translateStatement 119 = .ok (.aload_n 0, 1) := by decide +kernel
theorem d_Co_translateStatement_120 : decode b_Co_translateStatement 120 = .ok (.invokevirtual 47, 3) := by decide +kernel
theorem d_Co_translateStatement_123 : decode b_Co_translateStatement 123 = .ok (.invokevirtual 55, 3) := by decide +kernel
theorem d_Co_translateStatement_126 : decode b_Co_translateStatement 126 = .ok (.invokevirtual 59, 3) := by decide +kernel
theorem d_Co_translateStatement_129 : decode b_Co_translateStatement 129 = .ok (.goto 35, 3) := by decide +kernel
theorem d_Co_translateStatement_132 : decode b_Co_translateStatement 132 = .ok (.aload_n 0, 1) := by decide +kernel
theorem d_Co_translateStatement_133 : decode b_Co_translateStatement 133 = .ok (.iconst 3, 1) := by decide +kernel
theorem d_Co_translateStatement_134 : decode b_Co_translateStatement 134 = .ok (.iconst 0, 1) := by decide +kernel
theorem d_Co_translateStatement_135 : decode b_Co_translateStatement 135 = .ok (.aload_n 0, 1) := by decide +kernel
theorem d_Co_translateStatement_136 : decode b_Co_translateStatement 136 = .ok (.aload_n 1, 1) := by decide +kernel
theorem d_Co_translateStatement_137 : decode b_Co_translateStatement 137 = .ok (.iload_n 2, 1) := by decide +kernel
theorem d_Co_translateStatement_138 : decode b_Co_translateStatement 138 = .ok (.aload_n 3, 1) := by decide +kernel
theorem d_Co_translateStatement_139 : decode b_Co_translateStatement 139 = .ok (.invokevirtual 62, 3) := by decide +kernel
theorem d_Co_translateStatement_142 : decode b_Co_translateStatement 142 = .ok (.invokevirtual 59, 3) := by decide +kernel
theorem d_Co_translateStatement_145 : decode b_Co_translateStatement 145 = .ok (.goto 19, 3) := by decide +kernel
theorem d_Co_translateStatement_148 : decode b_Co_translateStatement 148 = .ok (.aload_n 0, 1) := by decide +kernel
theorem d_Co_translateStatement_149 : decode b_Co_translateStatement 149 = .ok (.aload_n 3, 1) := by decide +kernel
theorem d_Co_translateStatement_150 : decode b_Co_translateStatement 150 = .ok (.invokevirtual 66, 3) := by decide +kernel
theorem d_Co_translateStatement_153 : decode b_Co_translateStatement 153 = .ok (.goto 11, 3) := by decide +kernel
theorem d_Co_translateStatement_156 : decode b_Co_translateStatement 156 = .ok (.aload_n 0, 1) := by decide +kernel
theorem d_Co_translateStatement_157 : decode b_Co_translateStatement 157 = .ok (.aload_n 3, 1) := by decide +kernel
theorem d_Co_translateStatement_158 : decode b_Co_translateStatement 158 = .ok (.invokevirtual 70, 3) := by decide +kernel
theorem d_Co_translateStatement_161 : decode b_Co_translateStatement 161 = .ok (.goto 3, 3) := by decide +kernel
theorem d_Co_translateStatement_164 : decode b_Co_translateStatement 164 = .ok (.return_, 1) := by decide +kernel
theorem d_Co_currentHead_0 : decode b_Co_currentHead 0 = .ok (.aload_n 0, 1) := by decide +kernel
theorem d_Co_currentHead_1 : decode b_Co_currentHead 1 = .ok (.getfield 23, 3) := by decide +kernel
theorem d_Co_currentHead_4 : decode b_Co_currentHead 4 = .ok (.ifCond .le 20, 3) := by decide +kernel
theorem d_Co_currentHead_7 : decode b_Co_currentHead 7 = .ok (.aload_n 0, 1) := by decide +kernel
theorem d_Co_currentHead_8 : decode b_Co_currentHead 8 = .ok (.getfield 11, 3) := by decide +kernel
theorem d_Co_currentHead_11 : decode b_Co_currentHead 11 = .ok (.aload_n 0, 1) := by decide +kernel
theorem d_Co_currentHead_12 : decode b_Co_currentHead 12 = .ok (.getfield 23, 3) := by decide +kernel
theorem d_Co_currentHead_15 : decode b_Co_currentHead 15 = .ok (.iconst 1, 1) := by decide +kernel
theorem d_Co_currentHead_16 : decode b_Co_currentHead 16 = .ok (.isub, 1) := by decide +kernel
theorem d_Co_currentHead_17 : decode b_Co_currentHead 17 = .ok (.aaload, 1) := by decide +kernel
theorem d_Co_currentHead_18 : decode b_Co_currentHead 18 = .ok (.getfield 73, 3) := by decide +kernel
theorem d_Co_currentHead_21 : decode b_Co_currentHead 21 = .ok (.goto 4, 3) := by decide +kernel
theorem d_Co_currentHead_24 : decode b_Co_currentHead 24 = .ok (.iconst (-1), 1) := by decide +kernel
theorem d_Co_currentHead_25 : decode b_Co_currentHead 25 = .ok (.ireturn, 1) := by decide +kernel
theorem d_Co_openBlock_0 : decode b_Co_openBlock 0 = .ok (.aload_n 0, 1) := by decide +kernel
theorem d_Co_openBlock_1 : decode b_Co_openBlock 1 = .ok (.getfield 23, 3) := by decide +kernel
theorem d_Co_openBlock_4 : decode b_Co_openBlock 4 = .ok (.iconst 5, 1) := by decide +kernel
theorem d_Co_openBlock_5 : decode b_Co_openBlock 5 = .ok (.if_icmp .ge 32, 3) := by decide +kernel
theorem d_Co_openBlock_8 : decode b_Co_openBlock 8 = .ok (.aload_n 0, 1) := by decide +kernel
theorem d_Co_openBlock_9 : decode b_Co_openBlock 9 = .ok (.getfield 11, 3) := by decide +kernel
theorem d_Co_openBlock_12 : decode b_Co_openBlock 12 = .ok (.aload_n 0, 1) := by decide +kernel
theorem d_Co_openBlock_13 : decode b_Co_openBlock 13 = .ok (.getfield 23, 3) := by decide +kernel
theorem d_Co_openBlock_16 : decode b_Co_openBlock 16 = .ok (.aaload, 1) := by decide +kernel
theorem d_Co_openBlock_17 : decode b_Co_openBlock 17 = .ok (.iload_n 1, 1) := by decide +kernel
theorem d_Co_openBlock_18 : decode b_Co_openBlock 18 = .ok (.iload_n 2, 1) := by decide +kernel
theorem d_Co_openBlock_19 : decode b_Co_openBlock 19 = .ok (.iload_n 3, 1) := by decide +kernel
theorem d_Co_openBlock_20 : decode b_Co_openBlock 20 = .ok (.aload_n 0, 1) := by decide +kernel
theorem d_Co_openBlock_21 : decode b_Co_openBlock 21 = .ok (.invokevirtual 47, 3) := by decide +kernel
theorem d_Co_openBlock_24 : decode b_Co_openBlock 24 = .ok (.invokevirtual 76, 3) := by decide +kernel
theorem d_Co_openBlock_27 : decode b_Co_openBlock 27 = .ok (.aload_n 0, 1) := by decide +kernel
theorem d_Co_openBlock_28 : decode b_Co_openBlock 28 = .ok (.dup, 1) := by decide +kernel
theorem d_Co_openBlock_29 : decode b_Co_openBlock 29 = .ok (.getfield 23, 3) := by decide +kernel
theorem d_Co_openBlock_32 : decode b_Co_openBlock 32 = .ok (.iconst 1, 1) := by decide +kernel
theorem d_Co_openBlock_33 : decode b_Co_openBlock 33 = .ok (.iadd, 1) := by decide +kernel
theorem d_Co_openBlock_34 : decode b_Co_openBlock 34 = .ok (.putfield 23, 3) := by decide +kernel
theorem d_Co_openBlock_37 : decode b_Co_openBlock 37 = .ok (.return_, 1) := by decide +kernel
theorem d_Co_makeCatchActions_0 : decode b_Co_makeCatchActions 0 = .ok (.aload_n 3, 1) := by decide +kernel
theorem d_Co_makeCatchActions_1 : decode b_Co_makeCatchActions 1 = .ok (.getfield 80, 3) := by decide +kernel
theorem d_Co_makeCatchActions_4 : decode b_Co_makeCatchActions 4 = .ok (.istore 4, 2) := by decide +kernel
theorem d_Co_makeCatchActions_6 : decode b_Co_makeCatchActions 6 = .ok (.iconst 0, 1) := by decide +kernel
theorem d_Co_makeCatchActions_7 : decode b_Co_makeCatchActions 7 = .ok (.istore 5, 2) := by decide +kernel
theorem d_Co_makeCatchActions_9 : decode b_Co_makeCatchActions 9 = .ok (.iload_n 2, 1) := by decide +kernel
theorem d_Co_makeCatchActions_10 : decode b_Co_makeCatchActions 10 = .ok (.iconst 1, 1) := by decide +kernel
theorem d_Co_makeCatchActions_11 : decode b_Co_makeCatchActions 11 = .ok (.iadd, 1) := by decide +kernel
theorem d_Co_makeCatchActions_12 : decode b_Co_makeCatchActions 12 = .ok (.istore 6, 2) := by decide +kernel
theorem d_Co_makeCatchActions_14 : decode b_Co_makeCatchActions 14 = .ok (.iload 6, 2) := by decide +kernel
theorem d_Co_makeCatchActions_16 : decode b_Co_makeCatchActions 16 = .ok (.aload_n 1, 1) := by decide +kernel
theorem d_Co_makeCatchActions_17 : decode b_Co_makeCatchActions 17 = .ok (.getfield 27, 3) := by decide +kernel
theorem d_Co_makeCatchActions_20 : decode b_Co_makeCatchActions 20 = .ok (.if_icmp .ge 81, 3) := by decide +kernel
theorem d_Co_makeCatchActions_23 : decode b_Co_makeCatchActions 23 = .ok (.iload 5, 2) := by decide +kernel
theorem d_Co_makeCatchActions_25 : decode b_Co_makeCatchActions 25 = .ok (.ifCond .lt 76, 3) := by decide +kernel
theorem d_Co_makeCatchActions_28 : decode b_Co_makeCatchActions 28 = .ok (.aload_n 1, 1) := by decide +kernel
theorem d_Co_makeCatchActions_29 : decode b_Co_makeCatchActions 29 = .ok (.iload 6, 2) := by decide +kernel
theorem d_Co_makeCatchActions_31 : decode b_Co_makeCatchActions 31 = .ok (.invokevirtual 44, 3) := by decide +kernel
theorem d_Co_makeCatchActions_34 : decode b_Co_makeCatchActions 34 = .ok (.istore 7, 2) := by decide +kernel
theorem d_Co_makeCatchActions_36 : decode b_Co_makeCatchActions 36 = .ok (.iload 7, 2) := by decide +kernel
theorem d_Co_makeCatchActions_38 : decode b_Co_makeCatchActions 38 = .ok (.bipush 6, 2) := by decide +kernel
theorem d_Co_makeCatchActions_40 : decode b_Co_makeCatchActions 40 = .ok (.if_icmp .eq 9, 3) := by decide +kernel
theorem d_Co_makeCatchActions_43 : decode b_Co_makeCatchActions 43 = .ok (.iload 7, 2) := by decide +kernel
theorem d_Co_makeCatchActions_45 : decode b_Co_makeCatchActions 45 = .ok (.iconst 3, 1) := by decide +kernel
theorem d_Co_makeCatchActions_46 : decode b_Co_makeCatchActions 46 = .ok (.if_icmp .ne 9, 3) := by decide +kernel
theorem d_Co_makeCatchActions_49 : decode b_Co_makeCatchActions 49 = .ok (.iinc 5 1, 3) := by decide +kernel
theorem d_Co_makeCatchActions_52 : decode b_Co_makeCatchActions 52 = .ok (.goto 43, 3) := by decide +kernel
theorem d_Co_makeCatchActions_55 : decode b_Co_makeCatchActions 55 = .ok (.iload 7, 2) := by decide +kernel
theorem d_Co_makeCatchActions_57 : decode b_Co_makeCatchActions 57 = .ok (.iconst 5, 1) := by decide +kernel
theorem d_Co_makeCatchActions_58 : decode b_Co_makeCatchActions 58 = .ok (.if_icmp .ne 9, 3) := by decide +kernel
theorem d_Co_makeCatchActions_61 : decode b_Co_makeCatchActions 61 = .ok (.iinc 5 (-1), 3) := by decide +kernel
theorem d_Co_makeCatchActions_64 : decode b_Co_makeCatchActions 64 = .ok (.goto 31, 3) := by decide +kernel
theorem d_Co_makeCatchActions_67 : decode b_Co_makeCatchActions 67 = .ok (.iload 7, 2) := by decide +kernel
theorem d_Co_makeCatchActions_69 : decode b_Co_makeCatchActions 69 = .ok (.iconst 4, 1) := by decide +kernel
theorem d_Co_makeCatchActions_70 : decode b_Co_makeCatchActions 70 = .ok (.if_icmp .ne 25, 3) := by decide +kernel
theorem d_Co_makeCatchActions_73 : decode b_Co_makeCatchActions 73 = .ok (.iload 5, 2) := by decide +kernel
theorem d_Co_makeCatchActions_75 : decode b_Co_makeCatchActions 75 = .ok (.ifCond .ne 20, 3) := by decide +kernel
theorem d_Co_makeCatchActions_78 : decode b_Co_makeCatchActions 78 = .ok (.aload_n 3, 1) := by decide +kernel
theorem d_Co_makeCatchActions_79 : decode b_Co_makeCatchActions 79 = .ok (.aload_n 1, 1) := by decide +kernel
theorem d_Co_makeCatchActions_80 : decode b_Co_makeCatchActions 80 = .ok (.iload 6, 2) := by decide +kernel
theorem d_Co_makeCatchActions_82 : decode b_Co_makeCatchActions 82 = .ok (.invokevirtual 40, 3) := by decide +kernel
theorem d_Co_makeCatchActions_85 : decode b_Co_makeCatchActions 85 = .ok (.aload_n 3, 1) := by decide +kernel
theorem d_Co_makeCatchActions_86 : decode b_Co_makeCatchActions 86 = .ok (.getfield 80, 3) := by decide +kernel
theorem d_Co_makeCatchActions_89 : decode b_Co_makeCatchActions 89 = .ok (.iconst 1, 1) := by decide +kernel
theorem d_Co_makeCatchActions_90 : decode b_Co_makeCatchActions 90 = .ok (.iadd, 1) := by decide +kernel
theorem d_Co_makeCatchActions_91 : decode b_Co_makeCatchActions 91 = .ok (.invokevirtual 55, 3) := by decide +kernel
theorem d_Co_makeCatchActions_94 : decode b_Co_makeCatchActions 94 = .ok (.pop, 1) := by decide +kernel
theorem d_Co_makeCatchActions_95 : decode b_Co_makeCatchActions 95 = .ok (.iinc 6 1, 3) := by decide +kernel
theorem d_Co_makeCatchActions_98 : decode b_Co_makeCatchActions 98 = .ok (.goto (-84), 3) := by decide +kernel
theorem d_Co_makeCatchActions_101 : decode b_Co_makeCatchActions 101 = .ok (.aload_n 3, 1) := by decide +kernel
theorem d_Co_makeCatchActions_102 : decode b_Co_makeCatchActions 102 = .ok (.aload_n 3, 1) := by decide +kernel
theorem d_Co_makeCatchActions_103 : decode b_Co_makeCatchActions 103 = .ok (.getfield 80, 3) := by decide +kernel
theorem d_Co_makeCatchActions_106 : decode b_Co_makeCatchActions 106 = .ok (.iconst 1, 1) := by decide +kernel
theorem d_Co_makeCatchActions_107 : decode b_Co_makeCatchActions 107 = .ok (.isub, 1) := by decide +kernel
theorem d_Co_makeCatchActions_108 : decode b_Co_makeCatchActions 108 = .ok (.aload_n 0, 1) := by decide +kernel
theorem d_Co_makeCatchActions_109 : decode b_Co_makeCatchActions 109 = .ok (.invokevirtual 47, 3) := by decide +kernel
theorem d_Co_makeCatchActions_112 : decode b_Co_makeCatchActions 112 = .ok (.invokevirtual 83, 3) := by decide +kernel
theorem d_Co_makeCatchActions_115 : decode b_Co_makeCatchActions 115 = .ok (.iload 4, 2) := by decide +kernel
theorem d_Co_makeCatchActions_117 : decode b_Co_makeCatchActions 117 = .ok (.ireturn, 1) := by decide +kernel
theorem d_Co_beginCatch_0 : decode b_Co_beginCatch 0 = .ok (.aload_n 0, 1) := by decide +kernel
theorem d_Co_beginCatch_1 : decode b_Co_beginCatch 1 = .ok (.getfield 23, 3) := by decide +kernel
theorem d_Co_beginCatch_4 : decode b_Co_beginCatch 4 = .ok (.iconst 1, 1) := by decide +kernel
theorem d_Co_beginCatch_5 : decode b_Co_beginCatch 5 = .ok (.if_icmp .ge 4, 3) := by decide +kernel
theorem d_Co_beginCatch_8 : decode b_Co_beginCatch 8 = .ok (.return_, 1) := by decide +kernel
theorem d_Co_beginCatch_9 : decode b_Co_beginCatch 9 = .ok (.aload_n 0, 1) := by decide +kernel
theorem d_Co_beginCatch_10 : decode b_Co_beginCatch 10 = .ok (.getfield 11, 3) := by decide +kernel
theorem d_Co_beginCatch_13 : decode b_Co_beginCatch 13 = .ok (.aload_n 0, 1) := by decide +kernel
theorem d_Co_beginCatch_14 : decode b_Co_beginCatch 14 = .ok (.getfield 23, 3) := by decide +kernel
theorem d_Co_beginCatch_17 : decode b_Co_beginCatch 17 = .ok (.iconst 1, 1) := by decide +kernel
theorem d_Co_beginCatch_18 : decode b_Co_beginCatch 18 = .ok (.isub, 1) := by decide +kernel
theorem d_Co_beginCatch_19 : decode b_Co_beginCatch 19 = .ok (.aaload, 1) := by decide +kernel
theorem d_Co_beginCatch_20 : decode b_Co_beginCatch 20 = .ok (.astore_n 2, 1) := by decide +kernel
theorem d_Co_beginCatch_21 : decode b_Co_beginCatch 21 = .ok (.aload_n 2, 1) := by decide +kernel
theorem d_Co_beginCatch_22 : decode b_Co_beginCatch 22 = .ok (.getfield 86, 3) := by decide +kernel
theorem d_Co_beginCatch_25 : decode b_Co_beginCatch 25 = .ok (.iconst 3, 1) := by decide +kernel
theorem d_Co_beginCatch_26 : decode b_Co_beginCatch 26 = .ok (.if_icmp .ne 12, 3) := by decide +kernel
theorem d_Co_beginCatch_29 : decode b_Co_beginCatch 29 = .ok (.aload_n 0, 1) := by decide +kernel
theorem d_Co_beginCatch_30 : decode b_Co_beginCatch 30 = .ok (.aload_n 2, 1) := by decide +kernel
theorem d_Co_beginCatch_31 : decode b_Co_beginCatch 31 = .ok (.aload_n 1, 1) := by decide +kernel
theorem d_Co_beginCatch_32 : decode b_Co_beginCatch 32 = .ok (.invokevirtual 89, 3) := by decide +kernel
theorem d_Co_beginCatch_35 : decode b_Co_beginCatch 35 = .ok (.goto 9, 3) := by decide +kernel
theorem d_Co_beginCatch_38 : decode b_Co_beginCatch 38 = .ok (.aload_n 0, 1) := by decide +kernel
theorem d_Co_beginCatch_39 : decode b_Co_beginCatch 39 = .ok (.aload_n 2, 1) := by decide +kernel
theorem d_Co_beginCatch_40 : decode b_Co_beginCatch 40 = .ok (.aload_n 1, 1) := by decide +kernel
theorem d_Co_beginCatch_41 : decode b_Co_beginCatch 41 = .ok (.invokevirtual 93, 3) := by decide +kernel
theorem d_Co_beginCatch_44 : decode b_Co_beginCatch 44 = .ok (.aload_n 1, 1) := by decide +kernel
theorem d_Co_beginCatch_45 : decode b_Co_beginCatch 45 = .ok (.aload_n 2, 1) := by decide +kernel
theorem d_Co_beginCatch_46 : decode b_Co_beginCatch 46 = .ok (.getfield 96, 3) := by decide +kernel
theorem d_Co_beginCatch_49 : decode b_Co_beginCatch 49 = .ok (.invokevirtual 99, 3) := by decide +kernel
theorem d_Co_beginCatch_52 : decode b_Co_beginCatch 52 = .ok (.aload_n 2, 1) := by decide +kernel
theorem d_Co_beginCatch_53 : decode b_Co_beginCatch 53 = .ok (.dup, 1) := by decide +kernel
theorem d_Co_beginCatch_54 : decode b_Co_beginCatch 54 = .ok (.getfield 96, 3) := by decide +kernel
theorem d_Co_beginCatch_57 : decode b_Co_beginCatch 57 = .ok (.iconst 1, 1) := by decide +kernel
theorem d_Co_beginCatch_58 : decode b_Co_beginCatch 58 = .ok (.iadd, 1) := by decide +kernel
theorem d_Co_beginCatch_59 : decode b_Co_beginCatch 59 = .ok (.putfield 96, 3) := by decide +kernel
theorem d_Co_beginCatch_62 : decode b_Co_beginCatch 62 = .ok (.aload_n 2, 1) := by decide +kernel
theorem d_Co_beginCatch_63 : decode b_Co_beginCatch 63 = .ok (.iconst 4, 1) := by decide +kernel
theorem d_Co_beginCatch_64 : decode b_Co_beginCatch 64 = .ok (.putfield 86, 3) := by decide +kernel
theorem d_Co_beginCatch_67 : decode b_Co_beginCatch 67 = .ok (.aload_n 2, 1) := by decide +kernel
theorem d_Co_beginCatch_68 : decode b_Co_beginCatch 68 = .ok (.aload_n 1, 1) := by decide +kernel
theorem d_Co_beginCatch_69 : decode b_Co_beginCatch 69 = .ok (.bipush (-2), 2) := by decide +kernel
theorem d_Co_beginCatch_71 : decode b_Co_beginCatch 71 = .ok (.aload_n 2, 1) := by decide +kernel
theorem d_Co_beginCatch_72 : decode b_Co_beginCatch 72 = .ok (.getfield 103, 3) := by decide +kernel
theorem d_Co_beginCatch_75 : decode b_Co_beginCatch 75 = .ok (.invokevirtual 55, 3) := by decide +kernel
theorem d_Co_beginCatch_78 : decode b_Co_beginCatch 78 = .ok (.putfield 73, 3) := by decide +kernel
theorem d_Co_beginCatch_81 : decode b_Co_beginCatch 81 = .ok (.return_, 1) := by decide +kernel
theorem d_Co_emitExit_0 : decode b_Co_emitExit 0 = .ok (.aload_n 1, 1) := by decide +kernel
theorem d_Co_emitExit_1 : decode b_Co_emitExit 1 = .ok (.aload_n 2, 1) := by decide +kernel
theorem d_Co_emitExit_2 : decode b_Co_emitExit 2 = .ok (.getfield 115, 3) := by decide +kernel
theorem d_Co_emitExit_5 : decode b_Co_emitExit 5 = .ok (.invokevirtual 118, 3) := by decide +kernel
theorem d_Co_emitExit_8 : decode b_Co_emitExit 8 = .ok (.aload_n 2, 1) := by decide +kernel
theorem d_Co_emitExit_9 : decode b_Co_emitExit 9 = .ok (.iconst 4, 1) := by decide +kernel
theorem d_Co_emitExit_10 : decode b_Co_emitExit 10 = .ok (.iconst 0, 1) := by decide +kernel
theorem d_Co_emitExit_11 : decode b_Co_emitExit 11 = .ok (.invokevirtual 36, 3) := by decide +kernel
theorem d_Co_emitExit_14 : decode b_Co_emitExit 14 = .ok (.return_, 1) := by decide +kernel
theorem d_Co_finishCatch_0 : decode b_Co_finishCatch 0 = .ok (.aload_n 2, 1) := by decide +kernel
theorem d_Co_finishCatch_1 : decode b_Co_finishCatch 1 = .ok (.bipush 6, 2) := by decide +kernel
theorem d_Co_finishCatch_3 : decode b_Co_finishCatch 3 = .ok (.iconst 0, 1) := by decide +kernel
theorem d_Co_finishCatch_4 : decode b_Co_finishCatch 4 = .ok (.invokevirtual 36, 3) := by decide +kernel
theorem d_Co_finishCatch_7 : decode b_Co_finishCatch 7 = .ok (.aload_n 0, 1) := by decide +kernel
theorem d_Co_finishCatch_8 : decode b_Co_finishCatch 8 = .ok (.aload_n 1, 1) := by decide +kernel
theorem d_Co_finishCatch_9 : decode b_Co_finishCatch 9 = .ok (.aload_n 2, 1) := by decide +kernel
theorem d_Co_finishCatch_10 : decode b_Co_finishCatch 10 = .ok (.invokevirtual 89, 3) := by decide +kernel
theorem d_Co_finishCatch_13 : decode b_Co_finishCatch 13 = .ok (.aload_n 2, 1) := by decide +kernel
theorem d_Co_finishCatch_14 : decode b_Co_finishCatch 14 = .ok (.aload_n 1, 1) := by decide +kernel
theorem d_Co_finishCatch_15 : decode b_Co_finishCatch 15 = .ok (.getfield 73, 3) := by decide +kernel
theorem d_Co_finishCatch_18 : decode b_Co_finishCatch 18 = .ok (.invokevirtual 99, 3) := by decide +kernel
theorem d_Co_finishCatch_21 : decode b_Co_finishCatch 21 = .ok (.aload_n 2, 1) := by decide +kernel
theorem d_Co_finishCatch_22 : decode b_Co_finishCatch 22 = .ok (.bipush 6, 2) := by decide +kernel
theorem d_Co_finishCatch_24 : decode b_Co_finishCatch 24 = .ok (.iconst 0, 1) := by decide +kernel
theorem d_Co_finishCatch_25 : decode b_Co_finishCatch 25 = .ok (.invokevirtual 36, 3) := by decide +kernel
theorem d_Co_finishCatch_28 : decode b_Co_finishCatch 28 = .ok (.aload_n 2, 1) := by decide +kernel
theorem d_Co_finishCatch_29 : decode b_Co_finishCatch 29 = .ok (.bipush 7, 2) := by decide +kernel
theorem d_Co_finishCatch_31 : decode b_Co_finishCatch 31 = .ok (.iconst 0, 1) := by decide +kernel
theorem d_Co_finishCatch_32 : decode b_Co_finishCatch 32 = .ok (.invokevirtual 36, 3) := by decide +kernel
theorem d_Co_finishCatch_35 : decode b_Co_finishCatch 35 = .ok (.return_, 1) := by decide +kernel
theorem d_Co_closeBlock_0 : decode b_Co_closeBlock 0 = .ok (.aload_n 0, 1) := by decide +kernel
theorem d_Co_closeBlock_1 : decode b_Co_closeBlock 1 = .ok (.getfield 23, 3) := by decide +kernel
theorem d_Co_closeBlock_4 : decode b_Co_closeBlock 4 = .ok (.iconst 1, 1) := by decide +kernel
theorem d_Co_closeBlock_5 : decode b_Co_closeBlock 5 = .ok (.if_icmp .ge 4, 3) := by decide +kernel
theorem d_Co_closeBlock_8 : decode b_Co_closeBlock 8 = .ok (.return_, 1) := by decide +kernel
theorem d_Co_closeBlock_9 : decode b_Co_closeBlock 9 = .ok (.aload_n 0, 1) := by decide +kernel
theorem d_Co_closeBlock_10 : decode b_Co_closeBlock 10 = .ok (.getfield 11, 3) := by decide +kernel
theorem d_Co_closeBlock_13 : decode b_Co_closeBlock 13 = .ok (.aload_n 0, 1) := by decide +kernel
theorem d_Co_closeBlock_14 : decode b_Co_closeBlock 14 = .ok (.getfield 23, 3) := by decide +kernel
theorem d_Co_closeBlock_17 : decode b_Co_closeBlock 17 = .ok (.iconst 1, 1) := by decide +kernel
theorem d_Co_closeBlock_18 : decode b_Co_closeBlock 18 = .ok (.isub, 1) := by decide +kernel
theorem d_Co_closeBlock_19 : decode b_Co_closeBlock 19 = .ok (.aaload, 1) := by decide +kernel
theorem d_Co_closeBlock_20 : decode b_Co_closeBlock 20 = .ok (.astore_n 2, 1) := by decide +kernel
theorem d_Co_closeBlock_21 : decode b_Co_closeBlock 21 = .ok (.aload_n 2, 1) := by decide +kernel
theorem d_Co_closeBlock_22 : decode b_Co_closeBlock 22 = .ok (.getfield 86, 3) := by decide +kernel
theorem d_Co_closeBlock_25 : decode b_Co_closeBlock 25 = .ok (.bipush 6, 2) := by decide +kernel
theorem d_Co_closeBlock_27 : decode b_Co_closeBlock 27 = .ok (.if_icmp .ne 12, 3) := by decide +kernel
theorem d_Co_closeBlock_30 : decode b_Co_closeBlock 30 = .ok (.aload_n 0, 1) := by decide +kernel
theorem d_Co_closeBlock_31 : decode b_Co_closeBlock 31 = .ok (.aload_n 2, 1) := by decide +kernel
theorem d_Co_closeBlock_32 : decode b_Co_closeBlock 32 = .ok (.aload_n 1, 1) := by decide +kernel
theorem d_Co_closeBlock_33 : decode b_Co_closeBlock 33 = .ok (.invokevirtual 106, 3) := by decide +kernel
theorem d_Co_closeBlock_36 : decode b_Co_closeBlock 36 = .ok (.goto 9, 3) := by decide +kernel
theorem d_Co_closeBlock_39 : decode b_Co_closeBlock 39 = .ok (.aload_n 0, 1) := by decide +kernel
theorem d_Co_closeBlock_40 : decode b_Co_closeBlock 40 = .ok (.aload_n 2, 1) := by decide +kernel
theorem d_Co_closeBlock_41 : decode b_Co_closeBlock 41 = .ok (.aload_n 1, 1) := by decide +kernel
theorem d_Co_closeBlock_42 : decode b_Co_closeBlock 42 = .ok (.invokevirtual 93, 3) := by decide +kernel
theorem d_Co_closeBlock_45 : decode b_Co_closeBlock 45 = .ok (.aload_n 2, 1) := by decide +kernel
theorem d_Co_closeBlock_46 : decode b_Co_closeBlock 46 = .ok (.aload_n 1, 1) := by decide +kernel
theorem d_Co_closeBlock_47 : decode b_Co_closeBlock 47 = .ok (.invokevirtual 109, 3) := by decide +kernel
theorem d_Co_closeBlock_50 : decode b_Co_closeBlock 50 = .ok (.aload_n 0, 1) := by decide +kernel
theorem d_Co_closeBlock_51 : decode b_Co_closeBlock 51 = .ok (.dup, 1) := by decide +kernel
theorem d_Co_closeBlock_52 : decode b_Co_closeBlock 52 = .ok (.getfield 23, 3) := by decide +kernel
theorem d_Co_closeBlock_55 : decode b_Co_closeBlock 55 = .ok (.iconst 1, 1) := by decide +kernel
theorem d_Co_closeBlock_56 : decode b_Co_closeBlock 56 = .ok (.isub, 1) := by decide +kernel
theorem d_Co_closeBlock_57 : decode b_Co_closeBlock 57 = .ok (.putfield 23, 3) := by decide +kernel
theorem d_Co_closeBlock_60 : decode b_Co_closeBlock 60 = .ok (.return_, 1) := by decide +kernel
theorem d_Co_finishLocal_0 : decode b_Co_finishLocal 0 = .ok (.aload_n 2, 1) := by decide +kernel
theorem d_Co_finishLocal_1 : decode b_Co_finishLocal 1 = .ok (.iconst 5, 1) := by decide +kernel
theorem d_Co_finishLocal_2 : decode b_Co_finishLocal 2 = .ok (.aload_n 1, 1) := by decide +kernel
theorem d_Co_finishLocal_3 : decode b_Co_finishLocal 3 = .ok (.getfield 112, 3) := by decide +kernel
theorem d_Co_finishLocal_6 : decode b_Co_finishLocal 6 = .ok (.invokevirtual 36, 3) := by decide +kernel
theorem d_Co_finishLocal_9 : decode b_Co_finishLocal 9 = .ok (.aload_n 0, 1) := by decide +kernel
theorem d_Co_finishLocal_10 : decode b_Co_finishLocal 10 = .ok (.aload_n 1, 1) := by decide +kernel
theorem d_Co_finishLocal_11 : decode b_Co_finishLocal 11 = .ok (.aload_n 2, 1) := by decide +kernel
theorem d_Co_finishLocal_12 : decode b_Co_finishLocal 12 = .ok (.invokevirtual 89, 3) := by decide +kernel
theorem d_Co_finishLocal_15 : decode b_Co_finishLocal 15 = .ok (.aload_n 2, 1) := by decide +kernel
theorem d_Co_finishLocal_16 : decode b_Co_finishLocal 16 = .ok (.aload_n 1, 1) := by decide +kernel
theorem d_Co_finishLocal_17 : decode b_Co_finishLocal 17 = .ok (.getfield 73, 3) := by decide +kernel
theorem d_Co_finishLocal_20 : decode b_Co_finishLocal 20 = .ok (.invokevirtual 99, 3) := by decide +kernel
theorem d_Co_finishLocal_23 : decode b_Co_finishLocal 23 = .ok (.aload_n 2, 1) := by decide +kernel
theorem d_Co_finishLocal_24 : decode b_Co_finishLocal 24 = .ok (.iconst 5, 1) := by decide +kernel
theorem d_Co_finishLocal_25 : decode b_Co_finishLocal 25 = .ok (.aload_n 1, 1) := by decide +kernel
theorem d_Co_finishLocal_26 : decode b_Co_finishLocal 26 = .ok (.getfield 112, 3) := by decide +kernel
theorem d_Co_finishLocal_29 : decode b_Co_finishLocal 29 = .ok (.invokevirtual 36, 3) := by decide +kernel
theorem d_Co_finishLocal_32 : decode b_Co_finishLocal 32 = .ok (.aload_n 2, 1) := by decide +kernel
theorem d_Co_finishLocal_33 : decode b_Co_finishLocal 33 = .ok (.bipush 7, 2) := by decide +kernel
theorem d_Co_finishLocal_35 : decode b_Co_finishLocal 35 = .ok (.iconst 0, 1) := by decide +kernel
theorem d_Co_finishLocal_36 : decode b_Co_finishLocal 36 = .ok (.invokevirtual 36, 3) := by decide +kernel
theorem d_Co_finishLocal_39 : decode b_Co_finishLocal 39 = .ok (.return_, 1) := by decide +kernel
theorem d_Fr_init_0 : decode b_Fr_init 0 = .ok (.aload_n 0, 1) := by decide +kernel
theorem d_Fr_init_1 : decode b_Fr_init 1 = .ok (.invokespecial 3, 3) := by decide +kernel
theorem d_Fr_init_4 : decode b_Fr_init 4 = .ok (.aload_n 0, 1) := by decide +kernel
theorem d_Fr_init_5 : decode b_Fr_init 5 = .ok (.iconst 5, 1) := by decide +kernel
theorem d_Fr_init_6 : decode b_Fr_init 6 = .ok (.newarray .int, 2) := by decide +kernel
theorem d_Fr_init_8 : decode b_Fr_init 8 = .ok (.putfield 9, 3) := by decide +kernel
theorem d_Fr_init_11 : decode b_Fr_init 11 = .ok (.return_, 1) := by decide +kernel
theorem d_Fr_begin_0 : decode b_Fr_begin 0 = .ok (.aload_n 0, 1) := by decide +kernel
theorem d_Fr_begin_1 : decode b_Fr_begin 1 = .ok (.iload_n 1, 1) := by decide +kernel
theorem d_Fr_begin_2 : decode b_Fr_begin 2 = .ok (.putfield 15, 3) := by decide +kernel
theorem d_Fr_begin_5 : decode b_Fr_begin 5 = .ok (.aload_n 0, 1) := by decide +kernel
theorem d_Fr_begin_6 : decode b_Fr_begin 6 = .ok (.iconst 0, 1) := by decide +kernel
theorem d_Fr_begin_7 : decode b_Fr_begin 7 = .ok (.putfield 19, 3) := by decide +kernel
theorem d_Fr_begin_10 : decode b_Fr_begin 10 = .ok (.aload_n 0, 1) := by decide +kernel
theorem d_Fr_begin_11 : decode b_Fr_begin 11 = .ok (.iconst 0, 1) := by decide +kernel
theorem d_Fr_begin_12 : decode b_Fr_begin 12 = .ok (.putfield 22, 3) := by decide +kernel
theorem d_Fr_begin_15 : decode b_Fr_begin 15 = .ok (.return_, 1) := by decide +kernel
theorem d_Fr_currentPlace_0 : decode b_Fr_currentPlace 0 = .ok (.aload_n 0, 1) := by decide +kernel
theorem d_Fr_currentPlace_1 : decode b_Fr_currentPlace 1 = .ok (.getfield 19, 3) := by decide +kernel
theorem d_Fr_currentPlace_4 : decode b_Fr_currentPlace 4 = .ok (.iconst 1, 1) := by decide +kernel
theorem d_Fr_currentPlace_5 : decode b_Fr_currentPlace 5 = .ok (.isub, 1) := by decide +kernel
theorem d_Fr_currentPlace_6 : decode b_Fr_currentPlace 6 = .ok (.ireturn, 1) := by decide +kernel
theorem d_Fr_pushCaught_0 : decode b_Fr_pushCaught 0 = .ok (.aload_n 0, 1) := by decide +kernel
theorem d_Fr_pushCaught_1 : decode b_Fr_pushCaught 1 = .ok (.getfield 22, 3) := by decide +kernel
theorem d_Fr_pushCaught_4 : decode b_Fr_pushCaught 4 = .ok (.iconst 5, 1) := by decide +kernel
theorem d_Fr_pushCaught_5 : decode b_Fr_pushCaught 5 = .ok (.if_icmp .ge 23, 3) := by decide +kernel
theorem d_Fr_pushCaught_8 : decode b_Fr_pushCaught 8 = .ok (.aload_n 0, 1) := by decide +kernel
theorem d_Fr_pushCaught_9 : decode b_Fr_pushCaught 9 = .ok (.getfield 9, 3) := by decide +kernel
theorem d_Fr_pushCaught_12 : decode b_Fr_pushCaught 12 = .ok (.aload_n 0, 1) := by decide +kernel
theorem d_Fr_pushCaught_13 : decode b_Fr_pushCaught 13 = .ok (.getfield 22, 3) := by decide +kernel
theorem d_Fr_pushCaught_16 : decode b_Fr_pushCaught 16 = .ok (.iload_n 1, 1) := by decide +kernel
theorem d_Fr_pushCaught_17 : decode b_Fr_pushCaught 17 = .ok (.iastore, 1) := by decide +kernel
theorem d_Fr_pushCaught_18 : decode b_Fr_pushCaught 18 = .ok (.aload_n 0, 1) := by decide +kernel
theorem d_Fr_pushCaught_19 : decode b_Fr_pushCaught 19 = .ok (.dup, 1) := by decide +kernel
theorem d_Fr_pushCaught_20 : decode b_Fr_pushCaught 20 = .ok (.getfield 22, 3) := by decide +kernel
theorem d_Fr_pushCaught_23 : decode b_Fr_pushCaught 23 = .ok (.iconst 1, 1) := by decide +kernel
theorem d_Fr_pushCaught_24 : decode b_Fr_pushCaught 24 = .ok (.iadd, 1) := by decide +kernel
theorem d_Fr_pushCaught_25 : decode b_Fr_pushCaught 25 = .ok (.putfield 22, 3) := by decide +kernel
theorem d_Fr_pushCaught_28 : decode b_Fr_pushCaught 28 = .ok (.return_, 1) := by decide +kernel
theorem d_Fr_latestCaught_0 : decode b_Fr_latestCaught 0 = .ok (.aload_n 0, 1) := by decide +kernel
theorem d_Fr_latestCaught_1 : decode b_Fr_latestCaught 1 = .ok (.getfield 22, 3) := by decide +kernel
theorem d_Fr_latestCaught_4 : decode b_Fr_latestCaught 4 = .ok (.ifCond .le 17, 3) := by decide +kernel
theorem d_Fr_latestCaught_7 : decode b_Fr_latestCaught 7 = .ok (.aload_n 0, 1) := by decide +kernel
theorem d_Fr_latestCaught_8 : decode b_Fr_latestCaught 8 = .ok (.getfield 9, 3) := by decide +kernel
theorem d_Fr_latestCaught_11 : decode b_Fr_latestCaught 11 = .ok (.aload_n 0, 1) := by decide +kernel
theorem d_Fr_latestCaught_12 : decode b_Fr_latestCaught 12 = .ok (.getfield 22, 3) := by decide +kernel
theorem d_Fr_latestCaught_15 : decode b_Fr_latestCaught 15 = .ok (.iconst 1, 1) := by decide +kernel
theorem d_Fr_latestCaught_16 : decode b_Fr_latestCaught 16 = .ok (.isub, 1) := by decide +kernel
theorem d_Fr_latestCaught_17 : decode b_Fr_latestCaught 17 = .ok (.iaload, 1) := by decide +kernel
theorem d_Fr_latestCaught_18 : decode b_Fr_latestCaught 18 = .ok (.goto 4, 3) := by decide +kernel
theorem d_Fr_latestCaught_21 : decode b_Fr_latestCaught 21 = .ok (.iconst (-1), 1) := by decide +kernel
theorem d_Fr_latestCaught_22 : decode b_Fr_latestCaught 22 = .ok (.ireturn, 1) := by decide +kernel
theorem d_Fr_dropCaught_0 : decode b_Fr_dropCaught 0 = .ok (.aload_n 0, 1) := by decide +kernel
theorem d_Fr_dropCaught_1 : decode b_Fr_dropCaught 1 = .ok (.getfield 22, 3) := by decide +kernel
theorem d_Fr_dropCaught_4 : decode b_Fr_dropCaught 4 = .ok (.ifCond .le 13, 3) := by decide +kernel
theorem d_Fr_dropCaught_7 : decode b_Fr_dropCaught 7 = .ok (.aload_n 0, 1) := by decide +kernel
theorem d_Fr_dropCaught_8 : decode b_Fr_dropCaught 8 = .ok (.dup, 1) := by decide +kernel
theorem d_Fr_dropCaught_9 : decode b_Fr_dropCaught 9 = .ok (.getfield 22, 3) := by decide +kernel
theorem d_Fr_dropCaught_12 : decode b_Fr_dropCaught 12 = .ok (.iconst 1, 1) := by decide +kernel
theorem d_Fr_dropCaught_13 : decode b_Fr_dropCaught 13 = .ok (.isub, 1) := by decide +kernel
theorem d_Fr_dropCaught_14 : decode b_Fr_dropCaught 14 = .ok (.putfield 22, 3) := by decide +kernel
theorem d_Fr_dropCaught_17 : decode b_Fr_dropCaught 17 = .ok (.return_, 1) := by decide +kernel
end
section
theorem d_Ma_init_0 : decode b_Ma_init 0 = .ok (.aload_n 0, 1) := by decide +kernel
theorem d_Ma_init_1 : decode b_Ma_init 1 = .ok (.invokespecial 3, 3) := by decide +kernel
theorem d_Ma_init_4 : decode b_Ma_init 4 = .ok (.aload_n 0, 1) := by decide +kernel
theorem d_Ma_init_5 : decode b_Ma_init 5 = .ok (.new 9, 3) := by decide +kernel
theorem d_Ma_init_8 : decode b_Ma_init 8 = .ok (.dup, 1) := by decide +kernel
theorem d_Ma_init_9 : decode b_Ma_init 9 = .ok (.invokespecial 11, 3) := by decide +kernel
theorem d_Ma_init_12 : decode b_Ma_init 12 = .ok (.putfield 12, 3) := by decide +kernel
theorem d_Ma_init_15 : decode b_Ma_init 15 = .ok (.aload_n 0, 1) := by decide +kernel
theorem d_Ma_init_16 : decode b_Ma_init 16 = .ok (.new 18, 3) := by decide +kernel
theorem d_Ma_init_19 : decode b_Ma_init 19 = .ok (.dup, 1) := by decide +kernel
theorem d_Ma_init_20 : decode b_Ma_init 20 = .ok (.invokespecial 20, 3) := by decide +kernel
theorem d_Ma_init_23 : decode b_Ma_init 23 = .ok (.putfield 21, 3) := by decide +kernel
theorem d_Ma_init_26 : decode b_Ma_init 26 = .ok (.aload_n 0, 1) := by decide +kernel
theorem d_Ma_init_27 : decode b_Ma_init 27 = .ok (.bipush 6, 2) := by decide +kernel
theorem d_Ma_init_29 : decode b_Ma_init 29 = .ok (.anewarray 25, 3) := by decide +kernel
theorem d_Ma_init_32 : decode b_Ma_init 32 = .ok (.putfield 27, 3) := by decide +kernel
theorem d_Ma_init_35 : decode b_Ma_init 35 = .ok (.iconst 0, 1) := by decide +kernel
theorem d_Ma_init_36 : decode b_Ma_init 36 = .ok (.istore_n 1, 1) := by decide +kernel
theorem d_Ma_init_37 : decode b_Ma_init 37 = .ok (.iload_n 1, 1) := by decide +kernel
theorem d_Ma_init_38 : decode b_Ma_init 38 = .ok (.bipush 6, 2) := by decide +kernel
theorem d_Ma_init_40 : decode b_Ma_init 40 = .ok (.if_icmp .ge 22, 3) := by decide +kernel
theorem d_Ma_init_43 : decode b_Ma_init 43 = .ok (.aload_n 0, 1) := by decide +kernel
theorem d_Ma_init_44 : decode b_Ma_init 44 = .ok (.getfield 27, 3) := by decide +kernel
theorem d_Ma_init_47 : decode b_Ma_init 47 = .ok (.iload_n 1, 1) := by decide +kernel
theorem d_Ma_init_48 : decode b_Ma_init 48 = .ok (.new 25, 3) := by decide +kernel
theorem d_Ma_init_51 : decode b_Ma_init 51 = .ok (.dup, 1) := by decide +kernel
theorem d_Ma_init_52 : decode b_Ma_init 52 = .ok (.invokespecial 31, 3) := by decide +kernel
theorem d_Ma_init_55 : decode b_Ma_init 55 = .ok (.aastore, 1) := by decide +kernel
theorem d_Ma_init_56 : decode b_Ma_init 56 = .ok (.iinc 1 1, 3) := by decide +kernel
theorem d_Ma_init_59 : decode b_Ma_init 59 = .ok (.goto (-22), 3) := by decide +kernel
theorem d_Ma_init_62 : decode b_Ma_init 62 = .ok (.aload_n 0, 1) := by decide +kernel
theorem d_Ma_init_63 : decode b_Ma_init 63 = .ok (.bipush 8, 2) := by decide +kernel
theorem d_Ma_init_65 : decode b_Ma_init 65 = .ok (.anewarray 32, 3) := by decide +kernel
theorem d_Ma_init_68 : decode b_Ma_init 68 = .ok (.putfield 34, 3) := by decide +kernel
theorem d_Ma_init_71 : decode b_Ma_init 71 = .ok (.iconst 0, 1) := by decide +kernel
theorem d_Ma_init_72 : decode b_Ma_init 72 = .ok (.istore_n 1, 1) := by decide +kernel
theorem d_Ma_init_73 : decode b_Ma_init 73 = .ok (.iload_n 1, 1) := by decide +kernel
theorem d_Ma_init_74 : decode b_Ma_init 74 = .ok (.bipush 8, 2) := by decide +kernel
theorem d_Ma_init_76 : decode b_Ma_init 76 = .ok (.if_icmp .ge 22, 3) := by decide +kernel
theorem d_Ma_init_79 : decode b_Ma_init 79 = .ok (.aload_n 0, 1) := by decide +kernel
theorem d_Ma_init_80 : decode b_Ma_init 80 = .ok (.getfield 34, 3) := by decide +kernel
theorem d_Ma_init_83 : decode b_Ma_init 83 = .ok (.iload_n 1, 1) := by decide +kernel
theorem d_Ma_init_84 : decode b_Ma_init 84 = .ok (.new 32, 3) := by decide +kernel
theorem d_Ma_init_87 : decode b_Ma_init 87 = .ok (.dup, 1) := by decide +kernel
theorem d_Ma_init_88 : decode b_Ma_init 88 = .ok (.invokespecial 38, 3) := by decide +kernel
theorem d_Ma_init_91 : decode b_Ma_init 91 = .ok (.aastore, 1) := by decide +kernel
theorem d_Ma_init_92 : decode b_Ma_init 92 = .ok (.iinc 1 1, 3) := by decide +kernel
theorem d_Ma_init_95 : decode b_Ma_init 95 = .ok (.goto (-22), 3) := by decide +kernel
theorem d_Ma_init_98 : decode b_Ma_init 98 = .ok (.return_, 1) := by decide +kernel
theorem d_Ma_execute_0 : decode b_Ma_execute 0 = .ok (.aload_n 0, 1) := by decide +kernel
theorem d_Ma_execute_1 : decode b_Ma_execute 1 = .ok (.getfield 21, 3) := by decide +kernel
theorem d_Ma_execute_4 : decode b_Ma_execute 4 = .ok (.invokevirtual 39, 3) := by decide +kernel
theorem d_Ma_execute_7 : decode b_Ma_execute 7 = .ok (.aload_n 0, 1) := by decide +kernel
theorem d_Ma_execute_8 : decode b_Ma_execute 8 = .ok (.iconst 0, 1) := by decide +kernel
theorem d_Ma_execute_9 : decode b_Ma_execute 9 = .ok (.putfield 42, 3) := by decide +kernel
theorem d_Ma_execute_12 : decode b_Ma_execute 12 = .ok (.aload_n 0, 1) := by decide +kernel
theorem d_Ma_execute_13 : decode b_Ma_execute 13 = .ok (.iload_n 1, 1) := by decide +kernel
theorem d_Ma_execute_14 : decode b_Ma_execute 14 = .ok (.invokevirtual 46, 3) := by decide +kernel
theorem d_Ma_execute_17 : decode b_Ma_execute 17 = .ok (.istore_n 2, 1) := by decide +kernel
theorem d_Ma_execute_18 : decode b_Ma_execute 18 = .ok (.iload_n 2, 1) := by decide +kernel
theorem d_Ma_execute_19 : decode b_Ma_execute 19 = .ok (.iconst (-1), 1) := by decide +kernel
theorem d_Ma_execute_20 : decode b_Ma_execute 20 = .ok (.if_icmp .ne 41, 3) := by decide +kernel
theorem d_Ma_execute_23 : decode b_Ma_execute 23 = .ok (.aload_n 0, 1) := by decide +kernel
theorem d_Ma_execute_24 : decode b_Ma_execute 24 = .ok (.getfield 21, 3) := by decide +kernel
theorem d_Ma_execute_27 : decode b_Ma_execute 27 = .ok (.getfield 50, 3) := by decide +kernel
theorem d_Ma_execute_30 : decode b_Ma_execute 30 = .ok (.sipush 300, 3) := by decide +kernel
theorem d_Ma_execute_33 : decode b_Ma_execute 33 = .ok (.if_icmp .ge 28, 3) := by decide +kernel
theorem d_Ma_execute_36 : decode b_Ma_execute 36 = .ok (.aload_n 0, 1) := by decide +kernel
theorem d_Ma_execute_37 : decode b_Ma_execute 37 = .ok (.getfield 21, 3) := by decide +kernel
theorem d_Ma_execute_40 : decode b_Ma_execute 40 = .ok (.dup, 1) := by decide +kernel
theorem d_Ma_execute_41 : decode b_Ma_execute 41 = .ok (.getfield 50, 3) := by decide +kernel
theorem d_Ma_execute_44 : decode b_Ma_execute 44 = .ok (.iconst 1, 1) := by decide +kernel
theorem d_Ma_execute_45 : decode b_Ma_execute 45 = .ok (.iadd, 1) := by decide +kernel
theorem d_Ma_execute_46 : decode b_Ma_execute 46 = .ok (.putfield 50, 3) := by decide +kernel
theorem d_Ma_execute_49 : decode b_Ma_execute 49 = .ok (.aload_n 0, 1) := by decide +kernel
theorem d_Ma_execute_50 : decode b_Ma_execute 50 = .ok (.aload_n 0, 1) := by decide +kernel
theorem d_Ma_execute_51 : decode b_Ma_execute 51 = .ok (.invokevirtual 53, 3) := by decide +kernel
theorem d_Ma_execute_54 : decode b_Ma_execute 54 = .ok (.invokevirtual 57, 3) := by decide +kernel
theorem d_Ma_execute_57 : decode b_Ma_execute 57 = .ok (.istore_n 2, 1) := by decide +kernel
theorem d_Ma_execute_58 : decode b_Ma_execute 58 = .ok (.goto (-40), 3) := by decide +kernel
theorem d_Ma_execute_61 : decode b_Ma_execute 61 = .ok (.iload_n 2, 1) := by decide +kernel
theorem d_Ma_execute_62 : decode b_Ma_execute 62 = .ok (.iconst (-1), 1) := by decide +kernel
theorem d_Ma_execute_63 : decode b_Ma_execute 63 = .ok (.if_icmp .ne 7, 3) := by decide +kernel
theorem d_Ma_execute_66 : decode b_Ma_execute 66 = .ok (.iconst 3, 1) := by decide +kernel
theorem d_Ma_execute_67 : decode b_Ma_execute 67 = .ok (.goto 4, 3) := by decide +kernel
theorem d_Ma_execute_70 : decode b_Ma_execute 70 = .ok (.iload_n 2, 1) := by decide +kernel
theorem d_Ma_execute_71 : decode b_Ma_execute 71 = .ok (.ireturn, 1) := by decide +kernel
theorem d_Ma_enter_0 : decode b_Ma_enter 0 = .ok (.iload_n 1, 1) := by decide +kernel
theorem d_Ma_enter_1 : decode b_Ma_enter 1 = .ok (.invokestatic 119, 3) := by decide +kernel
theorem d_Ma_enter_4 : decode b_Ma_enter 4 = .ok (.ifCond .eq 15, 3) := by decide +kernel
theorem d_Ma_enter_7 : decode b_Ma_enter 7 = .ok (.aload_n 0, 1) := by decide +kernel
theorem d_Ma_enter_8 : decode b_Ma_enter 8 = .ok (.getfield 27, 3) := by decide +kernel
theorem d_Ma_enter_11 : decode b_Ma_enter 11 = .ok (.iload_n 1, 1) := by decide +kernel
theorem d_Ma_enter_12 : decode b_Ma_enter 12 = .ok (.aaload, 1) := by decide +kernel
theorem d_Ma_enter_13 : decode b_Ma_enter 13 = .ok (.invokevirtual 123, 3) := by decide +kernel
theorem d_Ma_enter_16 : decode b_Ma_enter 16 = .ok (.ifCond .ne 5, 3) := by decide +kernel
theorem d_Ma_enter_19 : decode b_Ma_enter 19 = .ok (.iconst 4, 1) := by decide +kernel
theorem d_Ma_enter_20 : decode b_Ma_enter 20 = .ok (.ireturn, 1) := by decide +kernel
theorem d_Ma_enter_21 : decode b_Ma_enter 21 = .ok (.aload_n 0, 1) := by decide +kernel
theorem d_Ma_enter_22 : decode b_Ma_enter 22 = .ok (.getfield 42, 3) := by decide +kernel
theorem d_Ma_enter_25 : decode b_Ma_enter 25 = .ok (.bipush 8, 2) := by decide +kernel
theorem d_Ma_enter_27 : decode b_Ma_enter 27 = .ok (.if_icmp .lt 5, 3) := by decide +kernel
theorem d_Ma_enter_30 : decode b_Ma_enter 30 = .ok (.iconst 2, 1) := by decide +kernel
theorem d_Ma_enter_31 : decode b_Ma_enter 31 = .ok (.ireturn, 1) := by decide +kernel
theorem d_Ma_enter_32 : decode b_Ma_enter 32 = .ok (.aload_n 0, 1) := by decide +kernel
theorem d_Ma_enter_33 : decode b_Ma_enter 33 = .ok (.getfield 34, 3) := by decide +kernel
theorem d_Ma_enter_36 : decode b_Ma_enter 36 = .ok (.aload_n 0, 1) := by decide +kernel
theorem d_Ma_enter_37 : decode b_Ma_enter 37 = .ok (.getfield 42, 3) := by decide +kernel
theorem d_Ma_enter_40 : decode b_Ma_enter 40 = .ok (.aaload, 1) := by decide +kernel
theorem d_Ma_enter_41 : decode b_Ma_enter 41 = .ok (.iload_n 1, 1) := by decide +kernel
theorem d_Ma_enter_42 : decode b_Ma_enter 42 = .ok (.invokevirtual 126, 3) := by decide +kernel
theorem d_Ma_enter_45 : decode b_Ma_enter 45 = .ok (.aload_n 0, 1) := by decide +kernel
theorem d_Ma_enter_46 : decode b_Ma_enter 46 = .ok (.dup, 1) := by decide +kernel
theorem d_Ma_enter_47 : decode b_Ma_enter 47 = .ok (.getfield 42, 3) := by decide +kernel
theorem d_Ma_enter_50 : decode b_Ma_enter 50 = .ok (.iconst 1, 1) := by decide +kernel
theorem d_Ma_enter_51 : decode b_Ma_enter 51 = .ok (.iadd, 1) := by decide +kernel
theorem d_Ma_enter_52 : decode b_Ma_enter 52 = .ok (.putfield 42, 3) := by decide +kernel
theorem d_Ma_enter_55 : decode b_Ma_enter 55 = .ok (.aload_n 0, 1) := by decide +kernel
theorem d_Ma_enter_56 : decode b_Ma_enter 56 = .ok (.getfield 21, 3) := by decide +kernel
theorem d_Ma_enter_59 : decode b_Ma_enter 59 = .ok (.aload_n 0, 1) := by decide +kernel
theorem d_Ma_enter_60 : decode b_Ma_enter 60 = .ok (.getfield 21, 3) := by decide +kernel
theorem d_Ma_enter_63 : decode b_Ma_enter 63 = .ok (.getfield 129, 3) := by decide +kernel
theorem d_Ma_enter_66 : decode b_Ma_enter 66 = .ok (.aload_n 0, 1) := by decide +kernel
theorem d_Ma_enter_67 : decode b_Ma_enter 67 = .ok (.getfield 42, 3) := by decide +kernel
theorem d_Ma_enter_70 : decode b_Ma_enter 70 = .ok (.invokestatic 132, 3) := by decide +kernel
theorem d_Ma_enter_73 : decode b_Ma_enter 73 = .ok (.putfield 129, 3) := by decide +kernel
theorem d_Ma_enter_76 : decode b_Ma_enter 76 = .ok (.iconst (-1), 1) := by decide +kernel
theorem d_Ma_enter_77 : decode b_Ma_enter 77 = .ok (.ireturn, 1) := by decide +kernel
theorem d_Ma_top_0 : decode b_Ma_top 0 = .ok (.aload_n 0, 1) := by decide +kernel
theorem d_Ma_top_1 : decode b_Ma_top 1 = .ok (.getfield 34, 3) := by decide +kernel
theorem d_Ma_top_4 : decode b_Ma_top 4 = .ok (.aload_n 0, 1) := by decide +kernel
theorem d_Ma_top_5 : decode b_Ma_top 5 = .ok (.getfield 42, 3) := by decide +kernel
theorem d_Ma_top_8 : decode b_Ma_top 8 = .ok (.ifCond .le 12, 3) := by decide +kernel
theorem d_Ma_top_11 : decode b_Ma_top 11 = .ok (.aload_n 0, 1) := by decide +kernel
theorem d_Ma_top_12 : decode b_Ma_top 12 = .ok (.getfield 42, 3) := by decide +kernel
theorem d_Ma_top_15 : decode b_Ma_top 15 = .ok (.iconst 1, 1) := by decide +kernel
theorem d_Ma_top_16 : decode b_Ma_top 16 = .ok (.isub, 1) := by decide +kernel
theorem d_Ma_top_17 : decode b_Ma_top 17 = .ok (.goto 4, 3) := by decide +kernel
theorem d_Ma_top_20 : decode b_Ma_top 20 = .ok (.iconst 0, 1) := by decide +kernel
theorem d_Ma_top_21 : decode b_Ma_top 21 = .ok (.aaload, 1) := by decide +kernel
theorem d_Ma_top_22 : decode b_Ma_top 22 = .ok (.areturn, 1) := by decide +kernel
theorem d_Ma_step_0 : decode b_Ma_step 0 = .ok (.aload_n 0, 1) := by decide +kernel
theorem d_Ma_step_1 : decode b_Ma_step 1 = .ok (.getfield 27, 3) := by decide +kernel
theorem d_Ma_step_4 : decode b_Ma_step 4 = .ok (.aload_n 1, 1) := by decide +kernel
theorem d_Ma_step_5 : decode b_Ma_step 5 = .ok (.getfield 61, 3) := by decide +kernel
theorem d_Ma_step_8 : decode b_Ma_step 8 = .ok (.aaload, 1) := by decide +kernel
theorem d_Ma_step_9 : decode b_Ma_step 9 = .ok (.astore_n 2, 1) := by decide +kernel
theorem d_Ma_step_10 : decode b_Ma_step 10 = .ok (.aload_n 2, 1) := by decide +kernel
theorem d_Ma_step_11 : decode b_Ma_step 11 = .ok (.aload_n 1, 1) := by decide +kernel
theorem d_Ma_step_12 : decode b_Ma_step 12 = .ok (.getfield 64, 3) := by decide +kernel
theorem d_Ma_step_15 : decode b_Ma_step 15 = .ok (.invokevirtual 67, 3) := by decide +kernel
theorem d_Ma_step_18 : decode b_Ma_step 18 = .ok (.istore_n 3, 1) := by decide +kernel
theorem d_Ma_step_19 : decode b_Ma_step 19 = .ok (.aload_n 2, 1) := by decide +kernel
theorem d_Ma_step_20 : decode b_Ma_step 20 = .ok (.aload_n 1, 1) := by decide +kernel
theorem d_Ma_step_21 : decode b_Ma_step 21 = .ok (.getfield 64, 3) := by decide +kernel
theorem d_Ma_step_24 : decode b_Ma_step 24 = .ok (.invokevirtual 70, 3) := by decide +kernel
theorem d_Ma_step_27 : decode b_Ma_step 27 = .ok (.istore 4, 2) := by decide +kernel
theorem d_Ma_step_29 : decode b_Ma_step 29 = .ok (.aload_n 1, 1) := by decide +kernel
theorem d_Ma_step_30 : decode b_Ma_step 30 = .ok (.dup, 1) := by decide +kernel
theorem d_Ma_step_31 : decode b_Ma_step 31 = .ok (.getfield 64, 3) := by decide +kernel
theorem d_Ma_step_34 : decode b_Ma_step 34 = .ok (.iconst 1, 1) := by decide +kernel
theorem d_Ma_step_35 : decode b_Ma_step 35 = .ok (.iadd, 1) := by decide +kernel
theorem d_Ma_step_36 : decode b_Ma_step 36 = .ok (.putfield 64, 3) := by decide +kernel
theorem d_Ma_step_39 : decode b_Ma_step 39 = .ok (.iload_n 3, 1) := by decide +kernel
theorem d_Ma_step_40 : decode b_Ma_step 40 = .ok (.tableswitch 112 0 7 #[48, 55, 62, 69, 78, 86, 93, 99], 48) := by decide +kernel
theorem d_Ma_step_88 : decode b_Ma_step 88 = .ok (.aload_n 0, 1) := by decide +kernel
theorem d_Ma_step_89 : decode b_Ma_step 89 = .ok (.iload 4, 2) := by decide +kernel
theorem d_Ma_step_91 : decode b_Ma_step 91 = .ok (.invokevirtual 73, 3) := by decide +kernel
theorem d_Ma_step_94 : decode b_Ma_step 94 = .ok (.ireturn, 1) := by decide +kernel
theorem d_Ma_step_95 : decode b_Ma_step 95 = .ok (.aload_n 0, 1) := by decide +kernel
theorem d_Ma_step_96 : decode b_Ma_step 96 = .ok (.iload 4, 2) := by decide +kernel
theorem d_Ma_step_98 : decode b_Ma_step 98 = .ok (.invokevirtual 46, 3) := by decide +kernel
theorem d_Ma_step_101 : decode b_Ma_step 101 = .ok (.ireturn, 1) := by decide +kernel
theorem d_Ma_step_102 : decode b_Ma_step 102 = .ok (.aload_n 0, 1) := by decide +kernel
theorem d_Ma_step_103 : decode b_Ma_step 103 = .ok (.iload 4, 2) := by decide +kernel
theorem d_Ma_step_105 : decode b_Ma_step 105 = .ok (.invokevirtual 76, 3) := by decide +kernel
theorem d_Ma_step_108 : decode b_Ma_step 108 = .ok (.ireturn, 1) := by decide +kernel
theorem d_Ma_step_109 : decode b_Ma_step 109 = .ok (.aload_n 0, 1) := by decide +kernel
theorem d_Ma_step_110 : decode b_Ma_step 110 = .ok (.aload_n 1, 1) := by decide +kernel
theorem d_Ma_step_111 : decode b_Ma_step 111 = .ok (.invokevirtual 79, 3) := by decide +kernel
theorem d_Ma_step_114 : decode b_Ma_step 114 = .ok (.invokevirtual 76, 3) := by decide +kernel
theorem d_Ma_step_117 : decode b_Ma_step 117 = .ok (.ireturn, 1) := by decide +kernel
theorem d_Ma_step_118 : decode b_Ma_step 118 = .ok (.aload_n 0, 1) := by decide +kernel
theorem d_Ma_step_119 : decode b_Ma_step 119 = .ok (.aload_n 1, 1) := by decide +kernel
theorem d_Ma_step_120 : decode b_Ma_step 120 = .ok (.iload 4, 2) := by decide +kernel
theorem d_Ma_step_122 : decode b_Ma_step 122 = .ok (.invokevirtual 83, 3) := by decide +kernel
theorem d_Ma_step_125 : decode b_Ma_step 125 = .ok (.ireturn, 1) := by decide +kernel
theorem d_Ma_step_126 : decode b_Ma_step 126 = .ok (.aload_n 0, 1) := by decide +kernel
theorem d_Ma_step_127 : decode b_Ma_step 127 = .ok (.iload 4, 2) := by decide +kernel
theorem d_Ma_step_129 : decode b_Ma_step 129 = .ok (.invokevirtual 87, 3) := by decide +kernel
theorem d_Ma_step_132 : decode b_Ma_step 132 = .ok (.ireturn, 1) := by decide +kernel
theorem d_Ma_step_133 : decode b_Ma_step 133 = .ok (.aload_n 0, 1) := by decide +kernel
theorem d_Ma_step_134 : decode b_Ma_step 134 = .ok (.aload_n 1, 1) := by decide +kernel
theorem d_Ma_step_135 : decode b_Ma_step 135 = .ok (.invokevirtual 90, 3) := by decide +kernel
theorem d_Ma_step_138 : decode b_Ma_step 138 = .ok (.ireturn, 1) := by decide +kernel
theorem d_Ma_step_139 : decode b_Ma_step 139 = .ok (.aload_n 0, 1) := by decide +kernel
theorem d_Ma_step_140 : decode b_Ma_step 140 = .ok (.aload_n 2, 1) := by decide +kernel
theorem d_Ma_step_141 : decode b_Ma_step 141 = .ok (.aload_n 0, 1) := by decide +kernel
theorem d_Ma_step_142 : decode b_Ma_step 142 = .ok (.getfield 93, 3) := by decide +kernel
theorem d_Ma_step_145 : decode b_Ma_step 145 = .ok (.invokevirtual 96, 3) := by decide +kernel
theorem d_Ma_step_148 : decode b_Ma_step 148 = .ok (.invokevirtual 99, 3) := by decide +kernel
theorem d_Ma_step_151 : decode b_Ma_step 151 = .ok (.ireturn, 1) := by decide +kernel
theorem d_Ma_step_152 : decode b_Ma_step 152 = .ok (.aload_n 0, 1) := by decide +kernel
theorem d_Ma_step_153 : decode b_Ma_step 153 = .ok (.invokevirtual 102, 3) := by decide +kernel
theorem d_Ma_step_156 : decode b_Ma_step 156 = .ok (.ireturn, 1) := by decide +kernel
theorem d_Ma_print_0 : decode b_Ma_print 0 = .ok (.aload_n 0, 1) := by decide +kernel
theorem d_Ma_print_1 : decode b_Ma_print 1 = .ok (.getfield 21, 3) := by decide +kernel
theorem d_Ma_print_4 : decode b_Ma_print 4 = .ok (.invokevirtual 105, 3) := by decide +kernel
theorem d_Ma_print_7 : decode b_Ma_print 7 = .ok (.ifCond .eq 5, 3) := by decide +kernel
theorem d_Ma_print_10 : decode b_Ma_print 10 = .ok (.iconst 5, 1) := by decide +kernel
theorem d_Ma_print_11 : decode b_Ma_print 11 = .ok (.ireturn, 1) := by decide +kernel
theorem d_Ma_print_12 : decode b_Ma_print 12 = .ok (.aload_n 0, 1) := by decide +kernel
theorem d_Ma_print_13 : decode b_Ma_print 13 = .ok (.getfield 21, 3) := by decide +kernel
theorem d_Ma_print_16 : decode b_Ma_print 16 = .ok (.iload_n 1, 1) := by decide +kernel
theorem d_Ma_print_17 : decode b_Ma_print 17 = .ok (.invokevirtual 109, 3) := by decide +kernel
theorem d_Ma_print_20 : decode b_Ma_print 20 = .ok (.iconst (-1), 1) := by decide +kernel
theorem d_Ma_print_21 : decode b_Ma_print 21 = .ok (.ireturn, 1) := by decide +kernel
theorem d_Ma_raise_0 : decode b_Ma_raise 0 = .ok (.aload_n 0, 1) := by decide +kernel
theorem d_Ma_raise_1 : decode b_Ma_raise 1 = .ok (.iload_n 1, 1) := by decide +kernel
theorem d_Ma_raise_2 : decode b_Ma_raise 2 = .ok (.invokevirtual 138, 3) := by decide +kernel
theorem d_Ma_raise_5 : decode b_Ma_raise 5 = .ok (.ifCond .ne 13, 3) := by decide +kernel
theorem d_Ma_raise_8 : decode b_Ma_raise 8 = .ok (.aload_n 0, 1) := by decide +kernel
theorem d_Ma_raise_9 : decode b_Ma_raise 9 = .ok (.getfield 21, 3) := by decide +kernel
theorem d_Ma_raise_12 : decode b_Ma_raise 12 = .ok (.iload_n 1, 1) := by decide +kernel
theorem d_Ma_raise_13 : decode b_Ma_raise 13 = .ok (.putfield 141, 3) := by decide +kernel
theorem d_Ma_raise_16 : decode b_Ma_raise 16 = .ok (.iconst 1, 1) := by decide +kernel
theorem d_Ma_raise_17 : decode b_Ma_raise 17 = .ok (.ireturn, 1) := by decide +kernel
theorem d_Ma_raise_18 : decode b_Ma_raise 18 = .ok (.aload_n 0, 1) := by decide +kernel
theorem d_Ma_raise_19 : decode b_Ma_raise 19 = .ok (.getfield 21, 3) := by decide +kernel
theorem d_Ma_raise_22 : decode b_Ma_raise 22 = .ok (.dup, 1) := by decide +kernel
theorem d_Ma_raise_23 : decode b_Ma_raise 23 = .ok (.getfield 144, 3) := by decide +kernel
theorem d_Ma_raise_26 : decode b_Ma_raise 26 = .ok (.iconst 1, 1) := by decide +kernel
theorem d_Ma_raise_27 : decode b_Ma_raise 27 = .ok (.iadd, 1) := by decide +kernel
theorem d_Ma_raise_28 : decode b_Ma_raise 28 = .ok (.putfield 144, 3) := by decide +kernel
theorem d_Ma_raise_31 : decode b_Ma_raise 31 = .ok (.aload_n 0, 1) := by decide +kernel
theorem d_Ma_raise_32 : decode b_Ma_raise 32 = .ok (.iload_n 1, 1) := by decide +kernel
theorem d_Ma_raise_33 : decode b_Ma_raise 33 = .ok (.putfield 147, 3) := by decide +kernel
theorem d_Ma_raise_36 : decode b_Ma_raise 36 = .ok (.aload_n 0, 1) := by decide +kernel
theorem d_Ma_raise_37 : decode b_Ma_raise 37 = .ok (.aload_n 0, 1) := by decide +kernel
theorem d_Ma_raise_38 : decode b_Ma_raise 38 = .ok (.aload_n 0, 1) := by decide +kernel
theorem d_Ma_raise_39 : decode b_Ma_raise 39 = .ok (.invokevirtual 53, 3) := by decide +kernel
theorem d_Ma_raise_42 : decode b_Ma_raise 42 = .ok (.invokevirtual 150, 3) := by decide +kernel
theorem d_Ma_raise_45 : decode b_Ma_raise 45 = .ok (.invokevirtual 99, 3) := by decide +kernel
theorem d_Ma_raise_48 : decode b_Ma_raise 48 = .ok (.ireturn, 1) := by decide +kernel
theorem d_Ma_findHandler_0 : decode b_Ma_findHandler 0 = .ok (.aload_n 0, 1) := by decide +kernel
theorem d_Ma_findHandler_1 : decode b_Ma_findHandler 1 = .ok (.getfield 42, 3) := by decide +kernel
theorem d_Ma_findHandler_4 : decode b_Ma_findHandler 4 = .ok (.istore_n 2, 1) := by decide +kernel
theorem d_Ma_findHandler_5 : decode b_Ma_findHandler 5 = .ok (.iload_n 2, 1) := by decide +kernel
theorem d_Ma_findHandler_6 : decode b_Ma_findHandler 6 = .ok (.ifCond .le 50, 3) := by decide +kernel
theorem d_Ma_findHandler_9 : decode b_Ma_findHandler 9 = .ok (.aload_n 0, 1) := by decide +kernel
theorem d_Ma_findHandler_10 : decode b_Ma_findHandler 10 = .ok (.getfield 34, 3) := by decide +kernel
theorem d_Ma_findHandler_13 : decode b_Ma_findHandler 13 = .ok (.iload_n 2, 1) := by decide +kernel
theorem d_Ma_findHandler_14 : decode b_Ma_findHandler 14 = .ok (.iconst 1, 1) := by decide +kernel
theorem d_Ma_findHandler_15 : decode b_Ma_findHandler 15 = .ok (.isub, 1) := by decide +kernel
theorem d_Ma_findHandler_16 : decode b_Ma_findHandler 16 = .ok (.aaload, 1) := by decide +kernel
theorem d_Ma_findHandler_17 : decode b_Ma_findHandler 17 = .ok (.astore_n 3, 1) := by decide +kernel
theorem d_Ma_findHandler_18 : decode b_Ma_findHandler 18 = .ok (.aload_n 0, 1) := by decide +kernel
theorem d_Ma_findHandler_19 : decode b_Ma_findHandler 19 = .ok (.aload_n 3, 1) := by decide +kernel
theorem d_Ma_findHandler_20 : decode b_Ma_findHandler 20 = .ok (.aload_n 0, 1) := by decide +kernel
theorem d_Ma_findHandler_21 : decode b_Ma_findHandler 21 = .ok (.aload_n 3, 1) := by decide +kernel
theorem d_Ma_findHandler_22 : decode b_Ma_findHandler 22 = .ok (.invokevirtual 150, 3) := by decide +kernel
theorem d_Ma_findHandler_25 : decode b_Ma_findHandler 25 = .ok (.iload_n 1, 1) := by decide +kernel
theorem d_Ma_findHandler_26 : decode b_Ma_findHandler 26 = .ok (.invokevirtual 159, 3) := by decide +kernel
theorem d_Ma_findHandler_29 : decode b_Ma_findHandler 29 = .ok (.istore 4, 2) := by decide +kernel
theorem d_Ma_findHandler_31 : decode b_Ma_findHandler 31 = .ok (.iload 4, 2) := by decide +kernel
theorem d_Ma_findHandler_33 : decode b_Ma_findHandler 33 = .ok (.iconst (-1), 1) := by decide +kernel
theorem d_Ma_findHandler_34 : decode b_Ma_findHandler 34 = .ok (.if_icmp .eq 16, 3) := by decide +kernel
theorem d_Ma_findHandler_37 : decode b_Ma_findHandler 37 = .ok (.aload_n 0, 1) := by decide +kernel
theorem d_Ma_findHandler_38 : decode b_Ma_findHandler 38 = .ok (.iload_n 2, 1) := by decide +kernel
theorem d_Ma_findHandler_39 : decode b_Ma_findHandler 39 = .ok (.putfield 163, 3) := by decide +kernel
theorem d_Ma_findHandler_42 : decode b_Ma_findHandler 42 = .ok (.aload_n 0, 1) := by decide +kernel
theorem d_Ma_findHandler_43 : decode b_Ma_findHandler 43 = .ok (.iload 4, 2) := by decide +kernel
theorem d_Ma_findHandler_45 : decode b_Ma_findHandler 45 = .ok (.putfield 166, 3) := by decide +kernel
theorem d_Ma_findHandler_48 : decode b_Ma_findHandler 48 = .ok (.iconst 1, 1) := by decide +kernel
theorem d_Ma_findHandler_49 : decode b_Ma_findHandler 49 = .ok (.ireturn, 1) := by decide +kernel
theorem d_Ma_findHandler_50 : decode b_Ma_findHandler 50 = .ok (.iinc 2 (-1), 3) := by decide +kernel
theorem d_Ma_findHandler_53 : decode b_Ma_findHandler 53 = .ok (.goto (-48), 3) := by decide +kernel
theorem d_Ma_findHandler_56 : decode b_Ma_findHandler 56 = .ok (.iconst 0, 1) := by decide +kernel
theorem d_Ma_findHandler_57 : decode b_Ma_findHandler 57 = .ok (.ireturn, 1) := by decide +kernel
theorem d_Ma_headOf_0 : decode b_Ma_headOf 0 = .ok (.aload_n 0, 1) := by decide +kernel
theorem d_Ma_headOf_1 : decode b_Ma_headOf 1 = .ok (.getfield 27, 3) := by decide +kernel
theorem d_Ma_headOf_4 : decode b_Ma_headOf 4 = .ok (.aload_n 1, 1) := by decide +kernel
theorem d_Ma_headOf_5 : decode b_Ma_headOf 5 = .ok (.getfield 61, 3) := by decide +kernel
theorem d_Ma_headOf_8 : decode b_Ma_headOf 8 = .ok (.aaload, 1) := by decide +kernel
theorem d_Ma_headOf_9 : decode b_Ma_headOf 9 = .ok (.aload_n 1, 1) := by decide +kernel
theorem d_Ma_headOf_10 : decode b_Ma_headOf 10 = .ok (.invokevirtual 153, 3) := by decide +kernel
theorem d_Ma_headOf_13 : decode b_Ma_headOf 13 = .ok (.invokevirtual 156, 3) := by decide +kernel
theorem d_Ma_headOf_16 : decode b_Ma_headOf 16 = .ok (.ireturn, 1) := by decide +kernel
theorem d_Ma_firstCatching_0 : decode b_Ma_firstCatching 0 = .ok (.aload_n 0, 1) := by decide +kernel
theorem d_Ma_firstCatching_1 : decode b_Ma_firstCatching 1 = .ok (.getfield 27, 3) := by decide +kernel
theorem d_Ma_firstCatching_4 : decode b_Ma_firstCatching 4 = .ok (.aload_n 1, 1) := by decide +kernel
theorem d_Ma_firstCatching_5 : decode b_Ma_firstCatching 5 = .ok (.getfield 61, 3) := by decide +kernel
theorem d_Ma_firstCatching_8 : decode b_Ma_firstCatching 8 = .ok (.aaload, 1) := by decide +kernel
theorem d_Ma_firstCatching_9 : decode b_Ma_firstCatching 9 = .ok (.astore 4, 2) := by decide +kernel
theorem d_Ma_firstCatching_11 : decode b_Ma_firstCatching 11 = .ok (.iload_n 2, 1) := by decide +kernel
theorem d_Ma_firstCatching_12 : decode b_Ma_firstCatching 12 = .ok (.istore 5, 2) := by decide +kernel
theorem d_Ma_firstCatching_14 : decode b_Ma_firstCatching 14 = .ok (.iconst 0, 1) := by decide +kernel
theorem d_Ma_firstCatching_15 : decode b_Ma_firstCatching 15 = .ok (.istore 6, 2) := by decide +kernel
theorem d_Ma_firstCatching_17 : decode b_Ma_firstCatching 17 = .ok (.iload 6, 2) := by decide +kernel
theorem d_Ma_firstCatching_19 : decode b_Ma_firstCatching 19 = .ok (.bipush 40, 2) := by decide +kernel
theorem d_Ma_firstCatching_21 : decode b_Ma_firstCatching 21 = .ok (.if_icmp .ge 59, 3) := by decide +kernel
theorem d_Ma_firstCatching_24 : decode b_Ma_firstCatching 24 = .ok (.aload 4, 2) := by decide +kernel
theorem d_Ma_firstCatching_26 : decode b_Ma_firstCatching 26 = .ok (.iload 5, 2) := by decide +kernel
theorem d_Ma_firstCatching_28 : decode b_Ma_firstCatching 28 = .ok (.invokevirtual 169, 3) := by decide +kernel
theorem d_Ma_firstCatching_31 : decode b_Ma_firstCatching 31 = .ok (.ifCond .eq 49, 3) := by decide +kernel
theorem d_Ma_firstCatching_34 : decode b_Ma_firstCatching 34 = .ok (.aload 4, 2) := by decide +kernel
theorem d_Ma_firstCatching_36 : decode b_Ma_firstCatching 36 = .ok (.iload 5, 2) := by decide +kernel
theorem d_Ma_firstCatching_38 : decode b_Ma_firstCatching 38 = .ok (.invokevirtual 172, 3) := by decide +kernel
theorem d_Ma_firstCatching_41 : decode b_Ma_firstCatching 41 = .ok (.istore 7, 2) := by decide +kernel
theorem d_Ma_firstCatching_43 : decode b_Ma_firstCatching 43 = .ok (.iload 7, 2) := by decide +kernel
theorem d_Ma_firstCatching_45 : decode b_Ma_firstCatching 45 = .ok (.iconst (-1), 1) := by decide +kernel
theorem d_Ma_firstCatching_46 : decode b_Ma_firstCatching 46 = .ok (.if_icmp .eq 16, 3) := by decide +kernel
theorem d_Ma_firstCatching_49 : decode b_Ma_firstCatching 49 = .ok (.aload_n 0, 1) := by decide +kernel
theorem d_Ma_firstCatching_50 : decode b_Ma_firstCatching 50 = .ok (.getfield 12, 3) := by decide +kernel
theorem d_Ma_firstCatching_53 : decode b_Ma_firstCatching 53 = .ok (.iload_n 3, 1) := by decide +kernel
theorem d_Ma_firstCatching_54 : decode b_Ma_firstCatching 54 = .ok (.iload 7, 2) := by decide +kernel
theorem d_Ma_firstCatching_56 : decode b_Ma_firstCatching 56 = .ok (.invokevirtual 175, 3) := by decide +kernel
theorem d_Ma_firstCatching_59 : decode b_Ma_firstCatching 59 = .ok (.ifCond .eq 6, 3) := by decide +kernel
theorem d_Ma_firstCatching_62 : decode b_Ma_firstCatching 62 = .ok (.iload 5, 2) := by decide +kernel
theorem d_Ma_firstCatching_64 : decode b_Ma_firstCatching 64 = .ok (.ireturn, 1) := by decide +kernel
theorem d_Ma_firstCatching_65 : decode b_Ma_firstCatching 65 = .ok (.aload 4, 2) := by decide +kernel
theorem d_Ma_firstCatching_67 : decode b_Ma_firstCatching 67 = .ok (.iload 5, 2) := by decide +kernel
theorem d_Ma_firstCatching_69 : decode b_Ma_firstCatching 69 = .ok (.invokevirtual 96, 3) := by decide +kernel
theorem d_Ma_firstCatching_72 : decode b_Ma_firstCatching 72 = .ok (.istore 5, 2) := by decide +kernel
theorem d_Ma_firstCatching_74 : decode b_Ma_firstCatching 74 = .ok (.iinc 6 1, 3) := by decide +kernel
theorem d_Ma_firstCatching_77 : decode b_Ma_firstCatching 77 = .ok (.goto (-60), 3) := by decide +kernel
theorem d_Ma_firstCatching_80 : decode b_Ma_firstCatching 80 = .ok (.iconst (-1), 1) := by decide +kernel
theorem d_Ma_firstCatching_81 : decode b_Ma_firstCatching 81 = .ok (.ireturn, 1) := by decide +kernel
theorem d_Ma_unwind_0 : decode b_Ma_unwind 0 = .ok (.aload_n 0, 1) := by decide +kernel
theorem d_Ma_unwind_1 : decode b_Ma_unwind 1 = .ok (.iload_n 1, 1) := by decide +kernel
theorem d_Ma_unwind_2 : decode b_Ma_unwind 2 = .ok (.invokevirtual 179, 3) := by decide +kernel
theorem d_Ma_unwind_5 : decode b_Ma_unwind 5 = .ok (.istore_n 2, 1) := by decide +kernel
theorem d_Ma_unwind_6 : decode b_Ma_unwind 6 = .ok (.iload_n 2, 1) := by decide +kernel
theorem d_Ma_unwind_7 : decode b_Ma_unwind 7 = .ok (.iconst (-1), 1) := by decide +kernel
theorem d_Ma_unwind_8 : decode b_Ma_unwind 8 = .ok (.if_icmp .ne 37, 3) := by decide +kernel
theorem d_Ma_unwind_11 : decode b_Ma_unwind 11 = .ok (.aload_n 0, 1) := by decide +kernel
theorem d_Ma_unwind_12 : decode b_Ma_unwind 12 = .ok (.getfield 42, 3) := by decide +kernel
theorem d_Ma_unwind_15 : decode b_Ma_unwind 15 = .ok (.iconst 1, 1) := by decide +kernel
theorem d_Ma_unwind_16 : decode b_Ma_unwind 16 = .ok (.if_icmp .le 29, 3) := by decide +kernel
theorem d_Ma_unwind_19 : decode b_Ma_unwind 19 = .ok (.aload_n 0, 1) := by decide +kernel
theorem d_Ma_unwind_20 : decode b_Ma_unwind 20 = .ok (.dup, 1) := by decide +kernel
theorem d_Ma_unwind_21 : decode b_Ma_unwind 21 = .ok (.getfield 42, 3) := by decide +kernel
theorem d_Ma_unwind_24 : decode b_Ma_unwind 24 = .ok (.iconst 1, 1) := by decide +kernel
theorem d_Ma_unwind_25 : decode b_Ma_unwind 25 = .ok (.isub, 1) := by decide +kernel
theorem d_Ma_unwind_26 : decode b_Ma_unwind 26 = .ok (.putfield 42, 3) := by decide +kernel
theorem d_Ma_unwind_29 : decode b_Ma_unwind 29 = .ok (.aload_n 0, 1) := by decide +kernel
theorem d_Ma_unwind_30 : decode b_Ma_unwind 30 = .ok (.aload_n 0, 1) := by decide +kernel
theorem d_Ma_unwind_31 : decode b_Ma_unwind 31 = .ok (.aload_n 0, 1) := by decide +kernel
theorem d_Ma_unwind_32 : decode b_Ma_unwind 32 = .ok (.invokevirtual 53, 3) := by decide +kernel
theorem d_Ma_unwind_35 : decode b_Ma_unwind 35 = .ok (.invokevirtual 150, 3) := by decide +kernel
theorem d_Ma_unwind_38 : decode b_Ma_unwind 38 = .ok (.invokevirtual 179, 3) := by decide +kernel
theorem d_Ma_unwind_41 : decode b_Ma_unwind 41 = .ok (.istore_n 2, 1) := by decide +kernel
theorem d_Ma_unwind_42 : decode b_Ma_unwind 42 = .ok (.goto (-36), 3) := by decide +kernel
theorem d_Ma_unwind_45 : decode b_Ma_unwind 45 = .ok (.aload_n 0, 1) := by decide +kernel
theorem d_Ma_unwind_46 : decode b_Ma_unwind 46 = .ok (.iload_n 2, 1) := by decide +kernel
theorem d_Ma_unwind_47 : decode b_Ma_unwind 47 = .ok (.invokevirtual 182, 3) := by decide +kernel
theorem d_Ma_unwind_50 : decode b_Ma_unwind 50 = .ok (.ireturn, 1) := by decide +kernel
theorem d_Ma_firstLanding_0 : decode b_Ma_firstLanding 0 = .ok (.aload_n 0, 1) := by decide +kernel
theorem d_Ma_firstLanding_1 : decode b_Ma_firstLanding 1 = .ok (.getfield 27, 3) := by decide +kernel
theorem d_Ma_firstLanding_4 : decode b_Ma_firstLanding 4 = .ok (.aload_n 0, 1) := by decide +kernel
theorem d_Ma_firstLanding_5 : decode b_Ma_firstLanding 5 = .ok (.invokevirtual 53, 3) := by decide +kernel
theorem d_Ma_firstLanding_8 : decode b_Ma_firstLanding 8 = .ok (.getfield 61, 3) := by decide +kernel
theorem d_Ma_firstLanding_11 : decode b_Ma_firstLanding 11 = .ok (.aaload, 1) := by decide +kernel
theorem d_Ma_firstLanding_12 : decode b_Ma_firstLanding 12 = .ok (.astore_n 2, 1) := by decide +kernel
theorem d_Ma_firstLanding_13 : decode b_Ma_firstLanding 13 = .ok (.iload_n 1, 1) := by decide +kernel
theorem d_Ma_firstLanding_14 : decode b_Ma_firstLanding 14 = .ok (.istore_n 3, 1) := by decide +kernel
theorem d_Ma_firstLanding_15 : decode b_Ma_firstLanding 15 = .ok (.iconst 0, 1) := by decide +kernel
theorem d_Ma_firstLanding_16 : decode b_Ma_firstLanding 16 = .ok (.istore 4, 2) := by decide +kernel
theorem d_Ma_firstLanding_18 : decode b_Ma_firstLanding 18 = .ok (.iload 4, 2) := by decide +kernel
theorem d_Ma_firstLanding_20 : decode b_Ma_firstLanding 20 = .ok (.bipush 40, 2) := by decide +kernel
theorem d_Ma_firstLanding_22 : decode b_Ma_firstLanding 22 = .ok (.if_icmp .ge 43, 3) := by decide +kernel
theorem d_Ma_firstLanding_25 : decode b_Ma_firstLanding 25 = .ok (.aload_n 2, 1) := by decide +kernel
theorem d_Ma_firstLanding_26 : decode b_Ma_firstLanding 26 = .ok (.iload_n 3, 1) := by decide +kernel
theorem d_Ma_firstLanding_27 : decode b_Ma_firstLanding 27 = .ok (.invokevirtual 169, 3) := by decide +kernel
theorem d_Ma_firstLanding_30 : decode b_Ma_firstLanding 30 = .ok (.ifCond .eq 35, 3) := by decide +kernel
theorem d_Ma_firstLanding_33 : decode b_Ma_firstLanding 33 = .ok (.aload_n 2, 1) := by decide +kernel
theorem d_Ma_firstLanding_34 : decode b_Ma_firstLanding 34 = .ok (.iload_n 3, 1) := by decide +kernel
theorem d_Ma_firstLanding_35 : decode b_Ma_firstLanding 35 = .ok (.invokevirtual 172, 3) := by decide +kernel
theorem d_Ma_firstLanding_38 : decode b_Ma_firstLanding 38 = .ok (.bipush (-2), 2) := by decide +kernel
theorem d_Ma_firstLanding_40 : decode b_Ma_firstLanding 40 = .ok (.if_icmp .eq 11, 3) := by decide +kernel
theorem d_Ma_firstLanding_43 : decode b_Ma_firstLanding 43 = .ok (.aload_n 0, 1) := by decide +kernel
theorem d_Ma_firstLanding_44 : decode b_Ma_firstLanding 44 = .ok (.iload_n 3, 1) := by decide +kernel
theorem d_Ma_firstLanding_45 : decode b_Ma_firstLanding 45 = .ok (.invokevirtual 185, 3) := by decide +kernel
theorem d_Ma_firstLanding_48 : decode b_Ma_firstLanding 48 = .ok (.ifCond .eq 5, 3) := by decide +kernel
theorem d_Ma_firstLanding_51 : decode b_Ma_firstLanding 51 = .ok (.iload_n 3, 1) := by decide +kernel
theorem d_Ma_firstLanding_52 : decode b_Ma_firstLanding 52 = .ok (.ireturn, 1) := by decide +kernel
theorem d_Ma_firstLanding_53 : decode b_Ma_firstLanding 53 = .ok (.aload_n 2, 1) := by decide +kernel
theorem d_Ma_firstLanding_54 : decode b_Ma_firstLanding 54 = .ok (.iload_n 3, 1) := by decide +kernel
theorem d_Ma_firstLanding_55 : decode b_Ma_firstLanding 55 = .ok (.invokevirtual 96, 3) := by decide +kernel
theorem d_Ma_firstLanding_58 : decode b_Ma_firstLanding 58 = .ok (.istore_n 3, 1) := by decide +kernel
theorem d_Ma_firstLanding_59 : decode b_Ma_firstLanding 59 = .ok (.iinc 4 1, 3) := by decide +kernel
theorem d_Ma_firstLanding_62 : decode b_Ma_firstLanding 62 = .ok (.goto (-44), 3) := by decide +kernel
theorem d_Ma_firstLanding_65 : decode b_Ma_firstLanding 65 = .ok (.iconst (-1), 1) := by decide +kernel
theorem d_Ma_firstLanding_66 : decode b_Ma_firstLanding 66 = .ok (.ireturn, 1) := by decide +kernel
theorem d_Ma_isHandler_0 : decode b_Ma_isHandler 0 = .ok (.aload_n 0, 1) := by decide +kernel
theorem d_Ma_isHandler_1 : decode b_Ma_isHandler 1 = .ok (.getfield 42, 3) := by decide +kernel
theorem d_Ma_isHandler_4 : decode b_Ma_isHandler 4 = .ok (.aload_n 0, 1) := by decide +kernel
theorem d_Ma_isHandler_5 : decode b_Ma_isHandler 5 = .ok (.getfield 163, 3) := by decide +kernel
theorem d_Ma_isHandler_8 : decode b_Ma_isHandler 8 = .ok (.if_icmp .ne 15, 3) := by decide +kernel
theorem d_Ma_isHandler_11 : decode b_Ma_isHandler 11 = .ok (.iload_n 1, 1) := by decide +kernel
theorem d_Ma_isHandler_12 : decode b_Ma_isHandler 12 = .ok (.aload_n 0, 1) := by decide +kernel
theorem d_Ma_isHandler_13 : decode b_Ma_isHandler 13 = .ok (.getfield 166, 3) := by decide +kernel
theorem d_Ma_isHandler_16 : decode b_Ma_isHandler 16 = .ok (.if_icmp .ne 7, 3) := by decide +kernel
theorem d_Ma_isHandler_19 : decode b_Ma_isHandler 19 = .ok (.iconst 1, 1) := by decide +kernel
theorem d_Ma_isHandler_20 : decode b_Ma_isHandler 20 = .ok (.goto 4, 3) := by decide +kernel
theorem d_Ma_isHandler_23 : decode b_Ma_isHandler 23 = .ok (.iconst 0, 1) := by decide +kernel
theorem d_Ma_isHandler_24 : decode b_Ma_isHandler 24 = .ok (.ireturn, 1) := by decide +kernel
theorem d_Ma_land_0 : decode b_Ma_land 0 = .ok (.aload_n 0, 1) := by decide +kernel
theorem d_Ma_land_1 : decode b_Ma_land 1 = .ok (.invokevirtual 53, 3) := by decide +kernel
theorem d_Ma_land_4 : decode b_Ma_land 4 = .ok (.astore_n 2, 1) := by decide +kernel
theorem d_Ma_land_5 : decode b_Ma_land 5 = .ok (.aload_n 0, 1) := by decide +kernel
theorem d_Ma_land_6 : decode b_Ma_land 6 = .ok (.iload_n 1, 1) := by decide +kernel
theorem d_Ma_land_7 : decode b_Ma_land 7 = .ok (.invokevirtual 185, 3) := by decide +kernel
theorem d_Ma_land_10 : decode b_Ma_land 10 = .ok (.ifCond .eq 14, 3) := by decide +kernel
theorem d_Ma_land_13 : decode b_Ma_land 13 = .ok (.aload_n 2, 1) := by decide +kernel
theorem d_Ma_land_14 : decode b_Ma_land 14 = .ok (.aload_n 0, 1) := by decide +kernel
theorem d_Ma_land_15 : decode b_Ma_land 15 = .ok (.getfield 147, 3) := by decide +kernel
theorem d_Ma_land_18 : decode b_Ma_land 18 = .ok (.invokevirtual 188, 3) := by decide +kernel
theorem d_Ma_land_21 : decode b_Ma_land 21 = .ok (.goto 8, 3) := by decide +kernel
theorem d_Ma_land_24 : decode b_Ma_land 24 = .ok (.aload_n 0, 1) := by decide +kernel
theorem d_Ma_land_25 : decode b_Ma_land 25 = .ok (.iload_n 1, 1) := by decide +kernel
theorem d_Ma_land_26 : decode b_Ma_land 26 = .ok (.putfield 93, 3) := by decide +kernel
theorem d_Ma_land_29 : decode b_Ma_land 29 = .ok (.aload_n 0, 1) := by decide +kernel
theorem d_Ma_land_30 : decode b_Ma_land 30 = .ok (.aload_n 2, 1) := by decide +kernel
theorem d_Ma_land_31 : decode b_Ma_land 31 = .ok (.aload_n 0, 1) := by decide +kernel
theorem d_Ma_land_32 : decode b_Ma_land 32 = .ok (.getfield 27, 3) := by decide +kernel
theorem d_Ma_land_35 : decode b_Ma_land 35 = .ok (.aload_n 2, 1) := by decide +kernel
theorem d_Ma_land_36 : decode b_Ma_land 36 = .ok (.getfield 61, 3) := by decide +kernel
theorem d_Ma_land_39 : decode b_Ma_land 39 = .ok (.aaload, 1) := by decide +kernel
theorem d_Ma_land_40 : decode b_Ma_land 40 = .ok (.iload_n 1, 1) := by decide +kernel
theorem d_Ma_land_41 : decode b_Ma_land 41 = .ok (.invokevirtual 191, 3) := by decide +kernel
theorem d_Ma_land_44 : decode b_Ma_land 44 = .ok (.invokevirtual 83, 3) := by decide +kernel
theorem d_Ma_land_47 : decode b_Ma_land 47 = .ok (.ireturn, 1) := by decide +kernel
theorem d_Ma_jump_0 : decode b_Ma_jump 0 = .ok (.aload_n 1, 1) := by decide +kernel
theorem d_Ma_jump_1 : decode b_Ma_jump 1 = .ok (.iload_n 2, 1) := by decide +kernel
theorem d_Ma_jump_2 : decode b_Ma_jump 2 = .ok (.putfield 64, 3) := by decide +kernel
theorem d_Ma_jump_5 : decode b_Ma_jump 5 = .ok (.iconst (-1), 1) := by decide +kernel
theorem d_Ma_jump_6 : decode b_Ma_jump 6 = .ok (.ireturn, 1) := by decide +kernel
theorem d_Ma_clean_0 : decode b_Ma_clean 0 = .ok (.aload_n 0, 1) := by decide +kernel
theorem d_Ma_clean_1 : decode b_Ma_clean 1 = .ok (.bipush 100, 2) := by decide +kernel
theorem d_Ma_clean_3 : decode b_Ma_clean 3 = .ok (.iload_n 1, 1) := by decide +kernel
theorem d_Ma_clean_4 : decode b_Ma_clean 4 = .ok (.iadd, 1) := by decide +kernel
theorem d_Ma_clean_5 : decode b_Ma_clean 5 = .ok (.invokevirtual 73, 3) := by decide +kernel
theorem d_Ma_clean_8 : decode b_Ma_clean 8 = .ok (.istore_n 2, 1) := by decide +kernel
theorem d_Ma_clean_9 : decode b_Ma_clean 9 = .ok (.iload_n 2, 1) := by decide +kernel
theorem d_Ma_clean_10 : decode b_Ma_clean 10 = .ok (.iconst (-1), 1) := by decide +kernel
theorem d_Ma_clean_11 : decode b_Ma_clean 11 = .ok (.if_icmp .ne 16, 3) := by decide +kernel
theorem d_Ma_clean_14 : decode b_Ma_clean 14 = .ok (.aload_n 0, 1) := by decide +kernel
theorem d_Ma_clean_15 : decode b_Ma_clean 15 = .ok (.getfield 21, 3) := by decide +kernel
theorem d_Ma_clean_18 : decode b_Ma_clean 18 = .ok (.dup, 1) := by decide +kernel
theorem d_Ma_clean_19 : decode b_Ma_clean 19 = .ok (.getfield 113, 3) := by decide +kernel
theorem d_Ma_clean_22 : decode b_Ma_clean 22 = .ok (.iconst 1, 1) := by decide +kernel
theorem d_Ma_clean_23 : decode b_Ma_clean 23 = .ok (.iadd, 1) := by decide +kernel
theorem d_Ma_clean_24 : decode b_Ma_clean 24 = .ok (.putfield 113, 3) := by decide +kernel
theorem d_Ma_clean_27 : decode b_Ma_clean 27 = .ok (.iload_n 2, 1) := by decide +kernel
theorem d_Ma_clean_28 : decode b_Ma_clean 28 = .ok (.ireturn, 1) := by decide +kernel
theorem d_Ma_endCatch_0 : decode b_Ma_endCatch 0 = .ok (.aload_n 1, 1) := by decide +kernel
theorem d_Ma_endCatch_1 : decode b_Ma_endCatch 1 = .ok (.invokevirtual 116, 3) := by decide +kernel
theorem d_Ma_endCatch_4 : decode b_Ma_endCatch 4 = .ok (.iconst (-1), 1) := by decide +kernel
theorem d_Ma_endCatch_5 : decode b_Ma_endCatch 5 = .ok (.ireturn, 1) := by decide +kernel
theorem d_Ma_leave_0 : decode b_Ma_leave 0 = .ok (.aload_n 0, 1) := by decide +kernel
theorem d_Ma_leave_1 : decode b_Ma_leave 1 = .ok (.getfield 42, 3) := by decide +kernel
theorem d_Ma_leave_4 : decode b_Ma_leave 4 = .ok (.ifCond .le 13, 3) := by decide +kernel
theorem d_Ma_leave_7 : decode b_Ma_leave 7 = .ok (.aload_n 0, 1) := by decide +kernel
theorem d_Ma_leave_8 : decode b_Ma_leave 8 = .ok (.dup, 1) := by decide +kernel
theorem d_Ma_leave_9 : decode b_Ma_leave 9 = .ok (.getfield 42, 3) := by decide +kernel
theorem d_Ma_leave_12 : decode b_Ma_leave 12 = .ok (.iconst 1, 1) := by decide +kernel
theorem d_Ma_leave_13 : decode b_Ma_leave 13 = .ok (.isub, 1) := by decide +kernel
theorem d_Ma_leave_14 : decode b_Ma_leave 14 = .ok (.putfield 42, 3) := by decide +kernel
theorem d_Ma_leave_17 : decode b_Ma_leave 17 = .ok (.aload_n 0, 1) := by decide +kernel
theorem d_Ma_leave_18 : decode b_Ma_leave 18 = .ok (.getfield 42, 3) := by decide +kernel
theorem d_Ma_leave_21 : decode b_Ma_leave 21 = .ok (.ifCond .le 7, 3) := by decide +kernel
theorem d_Ma_leave_24 : decode b_Ma_leave 24 = .ok (.iconst (-1), 1) := by decide +kernel
theorem d_Ma_leave_25 : decode b_Ma_leave 25 = .ok (.goto 4, 3) := by decide +kernel
theorem d_Ma_leave_28 : decode b_Ma_leave 28 = .ok (.iconst 0, 1) := by decide +kernel
theorem d_Ma_leave_29 : decode b_Ma_leave 29 = .ok (.ireturn, 1) := by decide +kernel
theorem d_Pr_init_0 : decode b_Pr_init 0 = .ok (.aload_n 0, 1) := by decide +kernel
theorem d_Pr_init_1 : decode b_Pr_init 1 = .ok (.invokespecial 3, 3) := by decide +kernel
theorem d_Pr_init_4 : decode b_Pr_init 4 = .ok (.aload_n 0, 1) := by decide +kernel
theorem d_Pr_init_5 : decode b_Pr_init 5 = .ok (.bipush 81, 2) := by decide +kernel
theorem d_Pr_init_7 : decode b_Pr_init 7 = .ok (.newarray .int, 2) := by decide +kernel
theorem d_Pr_init_9 : decode b_Pr_init 9 = .ok (.putfield 9, 3) := by decide +kernel
theorem d_Pr_init_12 : decode b_Pr_init 12 = .ok (.aload_n 0, 1) := by decide +kernel
theorem d_Pr_init_13 : decode b_Pr_init 13 = .ok (.bipush 81, 2) := by decide +kernel
theorem d_Pr_init_15 : decode b_Pr_init 15 = .ok (.newarray .int, 2) := by decide +kernel
theorem d_Pr_init_17 : decode b_Pr_init 17 = .ok (.putfield 15, 3) := by decide +kernel
theorem d_Pr_init_20 : decode b_Pr_init 20 = .ok (.aload_n 0, 1) := by decide +kernel
theorem d_Pr_init_21 : decode b_Pr_init 21 = .ok (.bipush 40, 2) := by decide +kernel
theorem d_Pr_init_23 : decode b_Pr_init 23 = .ok (.newarray .int, 2) := by decide +kernel
theorem d_Pr_init_25 : decode b_Pr_init 25 = .ok (.putfield 18, 3) := by decide +kernel
theorem d_Pr_init_28 : decode b_Pr_init 28 = .ok (.aload_n 0, 1) := by decide +kernel
theorem d_Pr_init_29 : decode b_Pr_init 29 = .ok (.bipush 40, 2) := by decide +kernel
theorem d_Pr_init_31 : decode b_Pr_init 31 = .ok (.newarray .int, 2) := by decide +kernel
theorem d_Pr_init_33 : decode b_Pr_init 33 = .ok (.putfield 21, 3) := by decide +kernel
theorem d_Pr_init_36 : decode b_Pr_init 36 = .ok (.aload_n 0, 1) := by decide +kernel
theorem d_Pr_init_37 : decode b_Pr_init 37 = .ok (.bipush 40, 2) := by decide +kernel
theorem d_Pr_init_39 : decode b_Pr_init 39 = .ok (.newarray .int, 2) := by decide +kernel
theorem d_Pr_init_41 : decode b_Pr_init 41 = .ok (.putfield 24, 3) := by decide +kernel
theorem d_Pr_init_44 : decode b_Pr_init 44 = .ok (.aload_n 0, 1) := by decide +kernel
theorem d_Pr_init_45 : decode b_Pr_init 45 = .ok (.bipush 20, 2) := by decide +kernel
end
section
theorem d_Pr_init_47 : decode b_Pr_init 47 = .ok (.newarray .int, 2) := by decide +kernel
theorem d_Pr_init_49 : decode b_Pr_init 49 = .ok (.putfield 27, 3) := by decide +kernel
theorem d_Pr_init_52 : decode b_Pr_init 52 = .ok (.aload_n 0, 1) := by decide +kernel
theorem d_Pr_init_53 : decode b_Pr_init 53 = .ok (.bipush 20, 2) := by decide +kernel
theorem d_Pr_init_55 : decode b_Pr_init 55 = .ok (.newarray .int, 2) := by decide +kernel
theorem d_Pr_init_57 : decode b_Pr_init 57 = .ok (.putfield 30, 3) := by decide +kernel
theorem d_Pr_init_60 : decode b_Pr_init 60 = .ok (.aload_n 0, 1) := by decide +kernel
theorem d_Pr_init_61 : decode b_Pr_init 61 = .ok (.bipush 20, 2) := by decide +kernel
theorem d_Pr_init_63 : decode b_Pr_init 63 = .ok (.newarray .int, 2) := by decide +kernel
theorem d_Pr_init_65 : decode b_Pr_init 65 = .ok (.putfield 33, 3) := by decide +kernel
theorem d_Pr_init_68 : decode b_Pr_init 68 = .ok (.return_, 1) := by decide +kernel
theorem d_Pr_clear_0 : decode b_Pr_clear 0 = .ok (.aload_n 0, 1) := by decide +kernel
theorem d_Pr_clear_1 : decode b_Pr_clear 1 = .ok (.iconst 0, 1) := by decide +kernel
theorem d_Pr_clear_2 : decode b_Pr_clear 2 = .ok (.putfield 36, 3) := by decide +kernel
theorem d_Pr_clear_5 : decode b_Pr_clear 5 = .ok (.aload_n 0, 1) := by decide +kernel
theorem d_Pr_clear_6 : decode b_Pr_clear 6 = .ok (.iconst 0, 1) := by decide +kernel
theorem d_Pr_clear_7 : decode b_Pr_clear 7 = .ok (.putfield 40, 3) := by decide +kernel
theorem d_Pr_clear_10 : decode b_Pr_clear 10 = .ok (.aload_n 0, 1) := by decide +kernel
theorem d_Pr_clear_11 : decode b_Pr_clear 11 = .ok (.iconst 0, 1) := by decide +kernel
theorem d_Pr_clear_12 : decode b_Pr_clear 12 = .ok (.putfield 43, 3) := by decide +kernel
theorem d_Pr_clear_15 : decode b_Pr_clear 15 = .ok (.return_, 1) := by decide +kernel
theorem d_Pr_emit_0 : decode b_Pr_emit 0 = .ok (.aload_n 0, 1) := by decide +kernel
theorem d_Pr_emit_1 : decode b_Pr_emit 1 = .ok (.getfield 36, 3) := by decide +kernel
theorem d_Pr_emit_4 : decode b_Pr_emit 4 = .ok (.bipush 81, 2) := by decide +kernel
theorem d_Pr_emit_6 : decode b_Pr_emit 6 = .ok (.if_icmp .ge 33, 3) := by decide +kernel
theorem d_Pr_emit_9 : decode b_Pr_emit 9 = .ok (.aload_n 0, 1) := by decide +kernel
theorem d_Pr_emit_10 : decode b_Pr_emit 10 = .ok (.getfield 9, 3) := by decide +kernel
theorem d_Pr_emit_13 : decode b_Pr_emit 13 = .ok (.aload_n 0, 1) := by decide +kernel
theorem d_Pr_emit_14 : decode b_Pr_emit 14 = .ok (.getfield 36, 3) := by decide +kernel
theorem d_Pr_emit_17 : decode b_Pr_emit 17 = .ok (.iload_n 1, 1) := by decide +kernel
theorem d_Pr_emit_18 : decode b_Pr_emit 18 = .ok (.iastore, 1) := by decide +kernel
theorem d_Pr_emit_19 : decode b_Pr_emit 19 = .ok (.aload_n 0, 1) := by decide +kernel
theorem d_Pr_emit_20 : decode b_Pr_emit 20 = .ok (.getfield 15, 3) := by decide +kernel
theorem d_Pr_emit_23 : decode b_Pr_emit 23 = .ok (.aload_n 0, 1) := by decide +kernel
theorem d_Pr_emit_24 : decode b_Pr_emit 24 = .ok (.getfield 36, 3) := by decide +kernel
theorem d_Pr_emit_27 : decode b_Pr_emit 27 = .ok (.iload_n 2, 1) := by decide +kernel
theorem d_Pr_emit_28 : decode b_Pr_emit 28 = .ok (.iastore, 1) := by decide +kernel
theorem d_Pr_emit_29 : decode b_Pr_emit 29 = .ok (.aload_n 0, 1) := by decide +kernel
theorem d_Pr_emit_30 : decode b_Pr_emit 30 = .ok (.dup, 1) := by decide +kernel
theorem d_Pr_emit_31 : decode b_Pr_emit 31 = .ok (.getfield 36, 3) := by decide +kernel
theorem d_Pr_emit_34 : decode b_Pr_emit 34 = .ok (.iconst 1, 1) := by decide +kernel
theorem d_Pr_emit_35 : decode b_Pr_emit 35 = .ok (.iadd, 1) := by decide +kernel
theorem d_Pr_emit_36 : decode b_Pr_emit 36 = .ok (.putfield 36, 3) := by decide +kernel
theorem d_Pr_emit_39 : decode b_Pr_emit 39 = .ok (.return_, 1) := by decide +kernel
theorem d_Pr_emitAtSite_0 : decode b_Pr_emitAtSite 0 = .ok (.aload_n 0, 1) := by decide +kernel
theorem d_Pr_emitAtSite_1 : decode b_Pr_emitAtSite 1 = .ok (.getfield 43, 3) := by decide +kernel
theorem d_Pr_emitAtSite_4 : decode b_Pr_emitAtSite 4 = .ok (.ifCond .le 36, 3) := by decide +kernel
theorem d_Pr_emitAtSite_7 : decode b_Pr_emitAtSite 7 = .ok (.aload_n 0, 1) := by decide +kernel
theorem d_Pr_emitAtSite_8 : decode b_Pr_emitAtSite 8 = .ok (.getfield 33, 3) := by decide +kernel
theorem d_Pr_emitAtSite_11 : decode b_Pr_emitAtSite 11 = .ok (.aload_n 0, 1) := by decide +kernel
theorem d_Pr_emitAtSite_12 : decode b_Pr_emitAtSite 12 = .ok (.getfield 43, 3) := by decide +kernel
theorem d_Pr_emitAtSite_15 : decode b_Pr_emitAtSite 15 = .ok (.iconst 1, 1) := by decide +kernel
theorem d_Pr_emitAtSite_16 : decode b_Pr_emitAtSite 16 = .ok (.isub, 1) := by decide +kernel
theorem d_Pr_emitAtSite_17 : decode b_Pr_emitAtSite 17 = .ok (.iaload, 1) := by decide +kernel
theorem d_Pr_emitAtSite_18 : decode b_Pr_emitAtSite 18 = .ok (.iload_n 3, 1) := by decide +kernel
theorem d_Pr_emitAtSite_19 : decode b_Pr_emitAtSite 19 = .ok (.if_icmp .ne 21, 3) := by decide +kernel
theorem d_Pr_emitAtSite_22 : decode b_Pr_emitAtSite 22 = .ok (.aload_n 0, 1) := by decide +kernel
theorem d_Pr_emitAtSite_23 : decode b_Pr_emitAtSite 23 = .ok (.getfield 30, 3) := by decide +kernel
theorem d_Pr_emitAtSite_26 : decode b_Pr_emitAtSite 26 = .ok (.aload_n 0, 1) := by decide +kernel
theorem d_Pr_emitAtSite_27 : decode b_Pr_emitAtSite 27 = .ok (.getfield 43, 3) := by decide +kernel
theorem d_Pr_emitAtSite_30 : decode b_Pr_emitAtSite 30 = .ok (.iconst 1, 1) := by decide +kernel
theorem d_Pr_emitAtSite_31 : decode b_Pr_emitAtSite 31 = .ok (.isub, 1) := by decide +kernel
theorem d_Pr_emitAtSite_32 : decode b_Pr_emitAtSite 32 = .ok (.aload_n 0, 1) := by decide +kernel
theorem d_Pr_emitAtSite_33 : decode b_Pr_emitAtSite 33 = .ok (.getfield 36, 3) := by decide +kernel
theorem d_Pr_emitAtSite_36 : decode b_Pr_emitAtSite 36 = .ok (.iastore, 1) := by decide +kernel
theorem d_Pr_emitAtSite_37 : decode b_Pr_emitAtSite 37 = .ok (.goto 58, 3) := by decide +kernel
theorem d_Pr_emitAtSite_40 : decode b_Pr_emitAtSite 40 = .ok (.aload_n 0, 1) := by decide +kernel
theorem d_Pr_emitAtSite_41 : decode b_Pr_emitAtSite 41 = .ok (.getfield 43, 3) := by decide +kernel
theorem d_Pr_emitAtSite_44 : decode b_Pr_emitAtSite 44 = .ok (.bipush 20, 2) := by decide +kernel
theorem d_Pr_emitAtSite_46 : decode b_Pr_emitAtSite 46 = .ok (.if_icmp .ge 49, 3) := by decide +kernel
theorem d_Pr_emitAtSite_49 : decode b_Pr_emitAtSite 49 = .ok (.aload_n 0, 1) := by decide +kernel
theorem d_Pr_emitAtSite_50 : decode b_Pr_emitAtSite 50 = .ok (.getfield 27, 3) := by decide +kernel
theorem d_Pr_emitAtSite_53 : decode b_Pr_emitAtSite 53 = .ok (.aload_n 0, 1) := by decide +kernel
theorem d_Pr_emitAtSite_54 : decode b_Pr_emitAtSite 54 = .ok (.getfield 43, 3) := by decide +kernel
theorem d_Pr_emitAtSite_57 : decode b_Pr_emitAtSite 57 = .ok (.aload_n 0, 1) := by decide +kernel
theorem d_Pr_emitAtSite_58 : decode b_Pr_emitAtSite 58 = .ok (.getfield 36, 3) := by decide +kernel
theorem d_Pr_emitAtSite_61 : decode b_Pr_emitAtSite 61 = .ok (.iastore, 1) := by decide +kernel
theorem d_Pr_emitAtSite_62 : decode b_Pr_emitAtSite 62 = .ok (.aload_n 0, 1) := by decide +kernel
theorem d_Pr_emitAtSite_63 : decode b_Pr_emitAtSite 63 = .ok (.getfield 30, 3) := by decide +kernel
theorem d_Pr_emitAtSite_66 : decode b_Pr_emitAtSite 66 = .ok (.aload_n 0, 1) := by decide +kernel
theorem d_Pr_emitAtSite_67 : decode b_Pr_emitAtSite 67 = .ok (.getfield 43, 3) := by decide +kernel
theorem d_Pr_emitAtSite_70 : decode b_Pr_emitAtSite 70 = .ok (.aload_n 0, 1) := by decide +kernel
theorem d_Pr_emitAtSite_71 : decode b_Pr_emitAtSite 71 = .ok (.getfield 36, 3) := by decide +kernel
theorem d_Pr_emitAtSite_74 : decode b_Pr_emitAtSite 74 = .ok (.iastore, 1) := by decide +kernel
theorem d_Pr_emitAtSite_75 : decode b_Pr_emitAtSite 75 = .ok (.aload_n 0, 1) := by decide +kernel
theorem d_Pr_emitAtSite_76 : decode b_Pr_emitAtSite 76 = .ok (.getfield 33, 3) := by decide +kernel
theorem d_Pr_emitAtSite_79 : decode b_Pr_emitAtSite 79 = .ok (.aload_n 0, 1) := by decide +kernel
theorem d_Pr_emitAtSite_80 : decode b_Pr_emitAtSite 80 = .ok (.getfield 43, 3) := by decide +kernel
theorem d_Pr_emitAtSite_83 : decode b_Pr_emitAtSite 83 = .ok (.iload_n 3, 1) := by decide +kernel
theorem d_Pr_emitAtSite_84 : decode b_Pr_emitAtSite 84 = .ok (.iastore, 1) := by decide +kernel
theorem d_Pr_emitAtSite_85 : decode b_Pr_emitAtSite 85 = .ok (.aload_n 0, 1) := by decide +kernel
theorem d_Pr_emitAtSite_86 : decode b_Pr_emitAtSite 86 = .ok (.dup, 1) := by decide +kernel
theorem d_Pr_emitAtSite_87 : decode b_Pr_emitAtSite 87 = .ok (.getfield 43, 3) := by decide +kernel
theorem d_Pr_emitAtSite_90 : decode b_Pr_emitAtSite 90 = .ok (.iconst 1, 1) := by decide +kernel
theorem d_Pr_emitAtSite_91 : decode b_Pr_emitAtSite 91 = .ok (.iadd, 1) := by decide +kernel
theorem d_Pr_emitAtSite_92 : decode b_Pr_emitAtSite 92 = .ok (.putfield 43, 3) := by decide +kernel
theorem d_Pr_emitAtSite_95 : decode b_Pr_emitAtSite 95 = .ok (.aload_n 0, 1) := by decide +kernel
theorem d_Pr_emitAtSite_96 : decode b_Pr_emitAtSite 96 = .ok (.iload_n 1, 1) := by decide +kernel
theorem d_Pr_emitAtSite_97 : decode b_Pr_emitAtSite 97 = .ok (.iload_n 2, 1) := by decide +kernel
theorem d_Pr_emitAtSite_98 : decode b_Pr_emitAtSite 98 = .ok (.invokevirtual 56, 3) := by decide +kernel
theorem d_Pr_emitAtSite_101 : decode b_Pr_emitAtSite 101 = .ok (.return_, 1) := by decide +kernel
theorem d_Pr_makeAction_0 : decode b_Pr_makeAction 0 = .ok (.aload_n 0, 1) := by decide +kernel
theorem d_Pr_makeAction_1 : decode b_Pr_makeAction 1 = .ok (.getfield 40, 3) := by decide +kernel
theorem d_Pr_makeAction_4 : decode b_Pr_makeAction 4 = .ok (.bipush 40, 2) := by decide +kernel
theorem d_Pr_makeAction_6 : decode b_Pr_makeAction 6 = .ok (.if_icmp .lt 5, 3) := by decide +kernel
theorem d_Pr_makeAction_9 : decode b_Pr_makeAction 9 = .ok (.iconst (-1), 1) := by decide +kernel
theorem d_Pr_makeAction_10 : decode b_Pr_makeAction 10 = .ok (.ireturn, 1) := by decide +kernel
theorem d_Pr_makeAction_11 : decode b_Pr_makeAction 11 = .ok (.aload_n 0, 1) := by decide +kernel
theorem d_Pr_makeAction_12 : decode b_Pr_makeAction 12 = .ok (.getfield 40, 3) := by decide +kernel
theorem d_Pr_makeAction_15 : decode b_Pr_makeAction 15 = .ok (.istore_n 3, 1) := by decide +kernel
theorem d_Pr_makeAction_16 : decode b_Pr_makeAction 16 = .ok (.aload_n 0, 1) := by decide +kernel
theorem d_Pr_makeAction_17 : decode b_Pr_makeAction 17 = .ok (.getfield 18, 3) := by decide +kernel
theorem d_Pr_makeAction_20 : decode b_Pr_makeAction 20 = .ok (.iload_n 3, 1) := by decide +kernel
theorem d_Pr_makeAction_21 : decode b_Pr_makeAction 21 = .ok (.iload_n 1, 1) := by decide +kernel
theorem d_Pr_makeAction_22 : decode b_Pr_makeAction 22 = .ok (.iastore, 1) := by decide +kernel
theorem d_Pr_makeAction_23 : decode b_Pr_makeAction 23 = .ok (.aload_n 0, 1) := by decide +kernel
theorem d_Pr_makeAction_24 : decode b_Pr_makeAction 24 = .ok (.getfield 21, 3) := by decide +kernel
theorem d_Pr_makeAction_27 : decode b_Pr_makeAction 27 = .ok (.iload_n 3, 1) := by decide +kernel
theorem d_Pr_makeAction_28 : decode b_Pr_makeAction 28 = .ok (.iconst 0, 1) := by decide +kernel
theorem d_Pr_makeAction_29 : decode b_Pr_makeAction 29 = .ok (.iastore, 1) := by decide +kernel
theorem d_Pr_makeAction_30 : decode b_Pr_makeAction 30 = .ok (.aload_n 0, 1) := by decide +kernel
theorem d_Pr_makeAction_31 : decode b_Pr_makeAction 31 = .ok (.getfield 24, 3) := by decide +kernel
theorem d_Pr_makeAction_34 : decode b_Pr_makeAction 34 = .ok (.iload_n 3, 1) := by decide +kernel
theorem d_Pr_makeAction_35 : decode b_Pr_makeAction 35 = .ok (.iload_n 2, 1) := by decide +kernel
theorem d_Pr_makeAction_36 : decode b_Pr_makeAction 36 = .ok (.iastore, 1) := by decide +kernel
theorem d_Pr_makeAction_37 : decode b_Pr_makeAction 37 = .ok (.aload_n 0, 1) := by decide +kernel
theorem d_Pr_makeAction_38 : decode b_Pr_makeAction 38 = .ok (.dup, 1) := by decide +kernel
theorem d_Pr_makeAction_39 : decode b_Pr_makeAction 39 = .ok (.getfield 40, 3) := by decide +kernel
theorem d_Pr_makeAction_42 : decode b_Pr_makeAction 42 = .ok (.iconst 1, 1) := by decide +kernel
theorem d_Pr_makeAction_43 : decode b_Pr_makeAction 43 = .ok (.iadd, 1) := by decide +kernel
theorem d_Pr_makeAction_44 : decode b_Pr_makeAction 44 = .ok (.putfield 40, 3) := by decide +kernel
theorem d_Pr_makeAction_47 : decode b_Pr_makeAction 47 = .ok (.iload_n 3, 1) := by decide +kernel
theorem d_Pr_makeAction_48 : decode b_Pr_makeAction 48 = .ok (.ireturn, 1) := by decide +kernel
theorem d_Pr_chain_0 : decode b_Pr_chain 0 = .ok (.aload_n 0, 1) := by decide +kernel
theorem d_Pr_chain_1 : decode b_Pr_chain 1 = .ok (.iload_n 1, 1) := by decide +kernel
theorem d_Pr_chain_2 : decode b_Pr_chain 2 = .ok (.invokevirtual 50, 3) := by decide +kernel
theorem d_Pr_chain_5 : decode b_Pr_chain 5 = .ok (.ifCond .eq 10, 3) := by decide +kernel
theorem d_Pr_chain_8 : decode b_Pr_chain 8 = .ok (.aload_n 0, 1) := by decide +kernel
theorem d_Pr_chain_9 : decode b_Pr_chain 9 = .ok (.getfield 24, 3) := by decide +kernel
theorem d_Pr_chain_12 : decode b_Pr_chain 12 = .ok (.iload_n 1, 1) := by decide +kernel
theorem d_Pr_chain_13 : decode b_Pr_chain 13 = .ok (.iload_n 2, 1) := by decide +kernel
theorem d_Pr_chain_14 : decode b_Pr_chain 14 = .ok (.iastore, 1) := by decide +kernel
theorem d_Pr_chain_15 : decode b_Pr_chain 15 = .ok (.return_, 1) := by decide +kernel
theorem d_Pr_hasAction_0 : decode b_Pr_hasAction 0 = .ok (.iload_n 1, 1) := by decide +kernel
theorem d_Pr_hasAction_1 : decode b_Pr_hasAction 1 = .ok (.ifCond .lt 15, 3) := by decide +kernel
theorem d_Pr_hasAction_4 : decode b_Pr_hasAction 4 = .ok (.iload_n 1, 1) := by decide +kernel
theorem d_Pr_hasAction_5 : decode b_Pr_hasAction 5 = .ok (.aload_n 0, 1) := by decide +kernel
theorem d_Pr_hasAction_6 : decode b_Pr_hasAction 6 = .ok (.getfield 40, 3) := by decide +kernel
theorem d_Pr_hasAction_9 : decode b_Pr_hasAction 9 = .ok (.if_icmp .ge 7, 3) := by decide +kernel
theorem d_Pr_hasAction_12 : decode b_Pr_hasAction 12 = .ok (.iconst 1, 1) := by decide +kernel
theorem d_Pr_hasAction_13 : decode b_Pr_hasAction 13 = .ok (.goto 4, 3) := by decide +kernel
theorem d_Pr_hasAction_16 : decode b_Pr_hasAction 16 = .ok (.iconst 0, 1) := by decide +kernel
theorem d_Pr_hasAction_17 : decode b_Pr_hasAction 17 = .ok (.ireturn, 1) := by decide +kernel
theorem d_Pr_landHere_0 : decode b_Pr_landHere 0 = .ok (.aload_n 0, 1) := by decide +kernel
theorem d_Pr_landHere_1 : decode b_Pr_landHere 1 = .ok (.iload_n 1, 1) := by decide +kernel
theorem d_Pr_landHere_2 : decode b_Pr_landHere 2 = .ok (.invokevirtual 50, 3) := by decide +kernel
theorem d_Pr_landHere_5 : decode b_Pr_landHere 5 = .ok (.ifCond .eq 13, 3) := by decide +kernel
theorem d_Pr_landHere_8 : decode b_Pr_landHere 8 = .ok (.aload_n 0, 1) := by decide +kernel
theorem d_Pr_landHere_9 : decode b_Pr_landHere 9 = .ok (.getfield 21, 3) := by decide +kernel
theorem d_Pr_landHere_12 : decode b_Pr_landHere 12 = .ok (.iload_n 1, 1) := by decide +kernel
theorem d_Pr_landHere_13 : decode b_Pr_landHere 13 = .ok (.aload_n 0, 1) := by decide +kernel
theorem d_Pr_landHere_14 : decode b_Pr_landHere 14 = .ok (.getfield 36, 3) := by decide +kernel
theorem d_Pr_landHere_17 : decode b_Pr_landHere 17 = .ok (.iastore, 1) := by decide +kernel
theorem d_Pr_landHere_18 : decode b_Pr_landHere 18 = .ok (.return_, 1) := by decide +kernel
theorem d_Pr_aim_0 : decode b_Pr_aim 0 = .ok (.aload_n 0, 1) := by decide +kernel
theorem d_Pr_aim_1 : decode b_Pr_aim 1 = .ok (.iload_n 1, 1) := by decide +kernel
theorem d_Pr_aim_2 : decode b_Pr_aim 2 = .ok (.invokevirtual 46, 3) := by decide +kernel
theorem d_Pr_aim_5 : decode b_Pr_aim 5 = .ok (.ifCond .eq 10, 3) := by decide +kernel
theorem d_Pr_aim_8 : decode b_Pr_aim 8 = .ok (.aload_n 0, 1) := by decide +kernel
theorem d_Pr_aim_9 : decode b_Pr_aim 9 = .ok (.getfield 15, 3) := by decide +kernel
theorem d_Pr_aim_12 : decode b_Pr_aim 12 = .ok (.iload_n 1, 1) := by decide +kernel
theorem d_Pr_aim_13 : decode b_Pr_aim 13 = .ok (.iload_n 2, 1) := by decide +kernel
theorem d_Pr_aim_14 : decode b_Pr_aim 14 = .ok (.iastore, 1) := by decide +kernel
theorem d_Pr_aim_15 : decode b_Pr_aim 15 = .ok (.return_, 1) := by decide +kernel
theorem d_Pr_hasInstruction_0 : decode b_Pr_hasInstruction 0 = .ok (.iload_n 1, 1) := by decide +kernel
theorem d_Pr_hasInstruction_1 : decode b_Pr_hasInstruction 1 = .ok (.ifCond .lt 15, 3) := by decide +kernel
theorem d_Pr_hasInstruction_4 : decode b_Pr_hasInstruction 4 = .ok (.iload_n 1, 1) := by decide +kernel
theorem d_Pr_hasInstruction_5 : decode b_Pr_hasInstruction 5 = .ok (.aload_n 0, 1) := by decide +kernel
theorem d_Pr_hasInstruction_6 : decode b_Pr_hasInstruction 6 = .ok (.getfield 36, 3) := by decide +kernel
theorem d_Pr_hasInstruction_9 : decode b_Pr_hasInstruction 9 = .ok (.if_icmp .ge 7, 3) := by decide +kernel
theorem d_Pr_hasInstruction_12 : decode b_Pr_hasInstruction 12 = .ok (.iconst 1, 1) := by decide +kernel
theorem d_Pr_hasInstruction_13 : decode b_Pr_hasInstruction 13 = .ok (.goto 4, 3) := by decide +kernel
theorem d_Pr_hasInstruction_16 : decode b_Pr_hasInstruction 16 = .ok (.iconst 0, 1) := by decide +kernel
theorem d_Pr_hasInstruction_17 : decode b_Pr_hasInstruction 17 = .ok (.ireturn, 1) := by decide +kernel
theorem d_Pr_letterAt_0 : decode b_Pr_letterAt 0 = .ok (.aload_n 0, 1) := by decide +kernel
theorem d_Pr_letterAt_1 : decode b_Pr_letterAt 1 = .ok (.iload_n 1, 1) := by decide +kernel
theorem d_Pr_letterAt_2 : decode b_Pr_letterAt 2 = .ok (.invokevirtual 46, 3) := by decide +kernel
theorem d_Pr_letterAt_5 : decode b_Pr_letterAt 5 = .ok (.ifCond .eq 12, 3) := by decide +kernel
theorem d_Pr_letterAt_8 : decode b_Pr_letterAt 8 = .ok (.aload_n 0, 1) := by decide +kernel
theorem d_Pr_letterAt_9 : decode b_Pr_letterAt 9 = .ok (.getfield 9, 3) := by decide +kernel
theorem d_Pr_letterAt_12 : decode b_Pr_letterAt 12 = .ok (.iload_n 1, 1) := by decide +kernel
theorem d_Pr_letterAt_13 : decode b_Pr_letterAt 13 = .ok (.iaload, 1) := by decide +kernel
theorem d_Pr_letterAt_14 : decode b_Pr_letterAt 14 = .ok (.goto 5, 3) := by decide +kernel
theorem d_Pr_letterAt_17 : decode b_Pr_letterAt 17 = .ok (.bipush 8, 2) := by decide +kernel
theorem d_Pr_letterAt_19 : decode b_Pr_letterAt 19 = .ok (.ireturn, 1) := by decide +kernel
theorem d_Pr_valueAt_0 : decode b_Pr_valueAt 0 = .ok (.aload_n 0, 1) := by decide +kernel
theorem d_Pr_valueAt_1 : decode b_Pr_valueAt 1 = .ok (.iload_n 1, 1) := by decide +kernel
theorem d_Pr_valueAt_2 : decode b_Pr_valueAt 2 = .ok (.invokevirtual 46, 3) := by decide +kernel
theorem d_Pr_valueAt_5 : decode b_Pr_valueAt 5 = .ok (.ifCond .eq 12, 3) := by decide +kernel
theorem d_Pr_valueAt_8 : decode b_Pr_valueAt 8 = .ok (.aload_n 0, 1) := by decide +kernel
theorem d_Pr_valueAt_9 : decode b_Pr_valueAt 9 = .ok (.getfield 15, 3) := by decide +kernel
theorem d_Pr_valueAt_12 : decode b_Pr_valueAt 12 = .ok (.iload_n 1, 1) := by decide +kernel
theorem d_Pr_valueAt_13 : decode b_Pr_valueAt 13 = .ok (.iaload, 1) := by decide +kernel
theorem d_Pr_valueAt_14 : decode b_Pr_valueAt 14 = .ok (.goto 4, 3) := by decide +kernel
theorem d_Pr_valueAt_17 : decode b_Pr_valueAt 17 = .ok (.iconst 0, 1) := by decide +kernel
theorem d_Pr_valueAt_18 : decode b_Pr_valueAt 18 = .ok (.ireturn, 1) := by decide +kernel
theorem d_Pr_filterOf_0 : decode b_Pr_filterOf 0 = .ok (.aload_n 0, 1) := by decide +kernel
theorem d_Pr_filterOf_1 : decode b_Pr_filterOf 1 = .ok (.iload_n 1, 1) := by decide +kernel
theorem d_Pr_filterOf_2 : decode b_Pr_filterOf 2 = .ok (.invokevirtual 50, 3) := by decide +kernel
theorem d_Pr_filterOf_5 : decode b_Pr_filterOf 5 = .ok (.ifCond .eq 12, 3) := by decide +kernel
theorem d_Pr_filterOf_8 : decode b_Pr_filterOf 8 = .ok (.aload_n 0, 1) := by decide +kernel
theorem d_Pr_filterOf_9 : decode b_Pr_filterOf 9 = .ok (.getfield 18, 3) := by decide +kernel
theorem d_Pr_filterOf_12 : decode b_Pr_filterOf 12 = .ok (.iload_n 1, 1) := by decide +kernel
theorem d_Pr_filterOf_13 : decode b_Pr_filterOf 13 = .ok (.iaload, 1) := by decide +kernel
theorem d_Pr_filterOf_14 : decode b_Pr_filterOf 14 = .ok (.goto 5, 3) := by decide +kernel
theorem d_Pr_filterOf_17 : decode b_Pr_filterOf 17 = .ok (.bipush (-2), 2) := by decide +kernel
theorem d_Pr_filterOf_19 : decode b_Pr_filterOf 19 = .ok (.ireturn, 1) := by decide +kernel
theorem d_Pr_landingOf_0 : decode b_Pr_landingOf 0 = .ok (.aload_n 0, 1) := by decide +kernel
theorem d_Pr_landingOf_1 : decode b_Pr_landingOf 1 = .ok (.iload_n 1, 1) := by decide +kernel
theorem d_Pr_landingOf_2 : decode b_Pr_landingOf 2 = .ok (.invokevirtual 50, 3) := by decide +kernel
theorem d_Pr_landingOf_5 : decode b_Pr_landingOf 5 = .ok (.ifCond .eq 12, 3) := by decide +kernel
theorem d_Pr_landingOf_8 : decode b_Pr_landingOf 8 = .ok (.aload_n 0, 1) := by decide +kernel
theorem d_Pr_landingOf_9 : decode b_Pr_landingOf 9 = .ok (.getfield 21, 3) := by decide +kernel
theorem d_Pr_landingOf_12 : decode b_Pr_landingOf 12 = .ok (.iload_n 1, 1) := by decide +kernel
theorem d_Pr_landingOf_13 : decode b_Pr_landingOf 13 = .ok (.iaload, 1) := by decide +kernel
theorem d_Pr_landingOf_14 : decode b_Pr_landingOf 14 = .ok (.goto 4, 3) := by decide +kernel
theorem d_Pr_landingOf_17 : decode b_Pr_landingOf 17 = .ok (.iconst 0, 1) := by decide +kernel
theorem d_Pr_landingOf_18 : decode b_Pr_landingOf 18 = .ok (.ireturn, 1) := by decide +kernel
theorem d_Pr_nextOf_0 : decode b_Pr_nextOf 0 = .ok (.aload_n 0, 1) := by decide +kernel
theorem d_Pr_nextOf_1 : decode b_Pr_nextOf 1 = .ok (.iload_n 1, 1) := by decide +kernel
theorem d_Pr_nextOf_2 : decode b_Pr_nextOf 2 = .ok (.invokevirtual 50, 3) := by decide +kernel
theorem d_Pr_nextOf_5 : decode b_Pr_nextOf 5 = .ok (.ifCond .eq 12, 3) := by decide +kernel
theorem d_Pr_nextOf_8 : decode b_Pr_nextOf 8 = .ok (.aload_n 0, 1) := by decide +kernel
theorem d_Pr_nextOf_9 : decode b_Pr_nextOf 9 = .ok (.getfield 24, 3) := by decide +kernel
theorem d_Pr_nextOf_12 : decode b_Pr_nextOf 12 = .ok (.iload_n 1, 1) := by decide +kernel
theorem d_Pr_nextOf_13 : decode b_Pr_nextOf 13 = .ok (.iaload, 1) := by decide +kernel
theorem d_Pr_nextOf_14 : decode b_Pr_nextOf 14 = .ok (.goto 4, 3) := by decide +kernel
theorem d_Pr_nextOf_17 : decode b_Pr_nextOf 17 = .ok (.iconst (-1), 1) := by decide +kernel
theorem d_Pr_nextOf_18 : decode b_Pr_nextOf 18 = .ok (.ireturn, 1) := by decide +kernel
theorem d_Pr_hasSite_0 : decode b_Pr_hasSite 0 = .ok (.iload_n 1, 1) := by decide +kernel
theorem d_Pr_hasSite_1 : decode b_Pr_hasSite 1 = .ok (.ifCond .lt 15, 3) := by decide +kernel
theorem d_Pr_hasSite_4 : decode b_Pr_hasSite 4 = .ok (.iload_n 1, 1) := by decide +kernel
theorem d_Pr_hasSite_5 : decode b_Pr_hasSite 5 = .ok (.aload_n 0, 1) := by decide +kernel
theorem d_Pr_hasSite_6 : decode b_Pr_hasSite 6 = .ok (.getfield 43, 3) := by decide +kernel
theorem d_Pr_hasSite_9 : decode b_Pr_hasSite 9 = .ok (.if_icmp .ge 7, 3) := by decide +kernel
theorem d_Pr_hasSite_12 : decode b_Pr_hasSite 12 = .ok (.iconst 1, 1) := by decide +kernel
theorem d_Pr_hasSite_13 : decode b_Pr_hasSite 13 = .ok (.goto 4, 3) := by decide +kernel
theorem d_Pr_hasSite_16 : decode b_Pr_hasSite 16 = .ok (.iconst 0, 1) := by decide +kernel
theorem d_Pr_hasSite_17 : decode b_Pr_hasSite 17 = .ok (.ireturn, 1) := by decide +kernel
theorem d_Pr_firstPlaceOf_0 : decode b_Pr_firstPlaceOf 0 = .ok (.aload_n 0, 1) := by decide +kernel
theorem d_Pr_firstPlaceOf_1 : decode b_Pr_firstPlaceOf 1 = .ok (.iload_n 1, 1) := by decide +kernel
theorem d_Pr_firstPlaceOf_2 : decode b_Pr_firstPlaceOf 2 = .ok (.invokevirtual 53, 3) := by decide +kernel
theorem d_Pr_firstPlaceOf_5 : decode b_Pr_firstPlaceOf 5 = .ok (.ifCond .eq 12, 3) := by decide +kernel
theorem d_Pr_firstPlaceOf_8 : decode b_Pr_firstPlaceOf 8 = .ok (.aload_n 0, 1) := by decide +kernel
theorem d_Pr_firstPlaceOf_9 : decode b_Pr_firstPlaceOf 9 = .ok (.getfield 27, 3) := by decide +kernel
theorem d_Pr_firstPlaceOf_12 : decode b_Pr_firstPlaceOf 12 = .ok (.iload_n 1, 1) := by decide +kernel
theorem d_Pr_firstPlaceOf_13 : decode b_Pr_firstPlaceOf 13 = .ok (.iaload, 1) := by decide +kernel
theorem d_Pr_firstPlaceOf_14 : decode b_Pr_firstPlaceOf 14 = .ok (.goto 4, 3) := by decide +kernel
theorem d_Pr_firstPlaceOf_17 : decode b_Pr_firstPlaceOf 17 = .ok (.iconst (-1), 1) := by decide +kernel
theorem d_Pr_firstPlaceOf_18 : decode b_Pr_firstPlaceOf 18 = .ok (.ireturn, 1) := by decide +kernel
theorem d_Pr_lastPlaceOf_0 : decode b_Pr_lastPlaceOf 0 = .ok (.aload_n 0, 1) := by decide +kernel
theorem d_Pr_lastPlaceOf_1 : decode b_Pr_lastPlaceOf 1 = .ok (.iload_n 1, 1) := by decide +kernel
theorem d_Pr_lastPlaceOf_2 : decode b_Pr_lastPlaceOf 2 = .ok (.invokevirtual 53, 3) := by decide +kernel
theorem d_Pr_lastPlaceOf_5 : decode b_Pr_lastPlaceOf 5 = .ok (.ifCond .eq 12, 3) := by decide +kernel
theorem d_Pr_lastPlaceOf_8 : decode b_Pr_lastPlaceOf 8 = .ok (.aload_n 0, 1) := by decide +kernel
theorem d_Pr_lastPlaceOf_9 : decode b_Pr_lastPlaceOf 9 = .ok (.getfield 30, 3) := by decide +kernel
theorem d_Pr_lastPlaceOf_12 : decode b_Pr_lastPlaceOf 12 = .ok (.iload_n 1, 1) := by decide +kernel
theorem d_Pr_lastPlaceOf_13 : decode b_Pr_lastPlaceOf 13 = .ok (.iaload, 1) := by decide +kernel
theorem d_Pr_lastPlaceOf_14 : decode b_Pr_lastPlaceOf 14 = .ok (.goto 4, 3) := by decide +kernel
theorem d_Pr_lastPlaceOf_17 : decode b_Pr_lastPlaceOf 17 = .ok (.iconst (-1), 1) := by decide +kernel
theorem d_Pr_lastPlaceOf_18 : decode b_Pr_lastPlaceOf 18 = .ok (.ireturn, 1) := by decide +kernel
theorem d_Pr_siteHeadOf_0 : decode b_Pr_siteHeadOf 0 = .ok (.aload_n 0, 1) := by decide +kernel
theorem d_Pr_siteHeadOf_1 : decode b_Pr_siteHeadOf 1 = .ok (.iload_n 1, 1) := by decide +kernel
theorem d_Pr_siteHeadOf_2 : decode b_Pr_siteHeadOf 2 = .ok (.invokevirtual 53, 3) := by decide +kernel
theorem d_Pr_siteHeadOf_5 : decode b_Pr_siteHeadOf 5 = .ok (.ifCond .eq 12, 3) := by decide +kernel
theorem d_Pr_siteHeadOf_8 : decode b_Pr_siteHeadOf 8 = .ok (.aload_n 0, 1) := by decide +kernel
theorem d_Pr_siteHeadOf_9 : decode b_Pr_siteHeadOf 9 = .ok (.getfield 33, 3) := by decide +kernel
theorem d_Pr_siteHeadOf_12 : decode b_Pr_siteHeadOf 12 = .ok (.iload_n 1, 1) := by decide +kernel
theorem d_Pr_siteHeadOf_13 : decode b_Pr_siteHeadOf 13 = .ok (.iaload, 1) := by decide +kernel
theorem d_Pr_siteHeadOf_14 : decode b_Pr_siteHeadOf 14 = .ok (.goto 4, 3) := by decide +kernel
theorem d_Pr_siteHeadOf_17 : decode b_Pr_siteHeadOf 17 = .ok (.iconst (-1), 1) := by decide +kernel
theorem d_Pr_siteHeadOf_18 : decode b_Pr_siteHeadOf 18 = .ok (.ireturn, 1) := by decide +kernel
theorem d_Pr_isMade_0 : decode b_Pr_isMade 0 = .ok (.aload_n 0, 1) := by decide +kernel
theorem d_Pr_isMade_1 : decode b_Pr_isMade 1 = .ok (.getfield 36, 3) := by decide +kernel
theorem d_Pr_isMade_4 : decode b_Pr_isMade 4 = .ok (.ifCond .le 7, 3) := by decide +kernel
theorem d_Pr_isMade_7 : decode b_Pr_isMade 7 = .ok (.iconst 1, 1) := by decide +kernel
theorem d_Pr_isMade_8 : decode b_Pr_isMade 8 = .ok (.goto 4, 3) := by decide +kernel
theorem d_Pr_isMade_11 : decode b_Pr_isMade 11 = .ok (.iconst 0, 1) := by decide +kernel
theorem d_Pr_isMade_12 : decode b_Pr_isMade 12 = .ok (.ireturn, 1) := by decide +kernel
theorem d_Pr_headAround_0 : decode b_Pr_headAround 0 = .ok (.iconst 0, 1) := by decide +kernel
theorem d_Pr_headAround_1 : decode b_Pr_headAround 1 = .ok (.istore_n 2, 1) := by decide +kernel
theorem d_Pr_headAround_2 : decode b_Pr_headAround 2 = .ok (.iload_n 2, 1) := by decide +kernel
theorem d_Pr_headAround_3 : decode b_Pr_headAround 3 = .ok (.aload_n 0, 1) := by decide +kernel
theorem d_Pr_headAround_4 : decode b_Pr_headAround 4 = .ok (.getfield 43, 3) := by decide +kernel
theorem d_Pr_headAround_7 : decode b_Pr_headAround 7 = .ok (.if_icmp .ge 36, 3) := by decide +kernel
theorem d_Pr_headAround_10 : decode b_Pr_headAround 10 = .ok (.aload_n 0, 1) := by decide +kernel
theorem d_Pr_headAround_11 : decode b_Pr_headAround 11 = .ok (.getfield 27, 3) := by decide +kernel
theorem d_Pr_headAround_14 : decode b_Pr_headAround 14 = .ok (.iload_n 2, 1) := by decide +kernel
theorem d_Pr_headAround_15 : decode b_Pr_headAround 15 = .ok (.iaload, 1) := by decide +kernel
theorem d_Pr_headAround_16 : decode b_Pr_headAround 16 = .ok (.iload_n 1, 1) := by decide +kernel
theorem d_Pr_headAround_17 : decode b_Pr_headAround 17 = .ok (.if_icmp .gt 20, 3) := by decide +kernel
theorem d_Pr_headAround_20 : decode b_Pr_headAround 20 = .ok (.iload_n 1, 1) := by decide +kernel
theorem d_Pr_headAround_21 : decode b_Pr_headAround 21 = .ok (.aload_n 0, 1) := by decide +kernel
theorem d_Pr_headAround_22 : decode b_Pr_headAround 22 = .ok (.getfield 30, 3) := by decide +kernel
theorem d_Pr_headAround_25 : decode b_Pr_headAround 25 = .ok (.iload_n 2, 1) := by decide +kernel
theorem d_Pr_headAround_26 : decode b_Pr_headAround 26 = .ok (.iaload, 1) := by decide +kernel
theorem d_Pr_headAround_27 : decode b_Pr_headAround 27 = .ok (.if_icmp .gt 10, 3) := by decide +kernel
theorem d_Pr_headAround_30 : decode b_Pr_headAround 30 = .ok (.aload_n 0, 1) := by decide +kernel
theorem d_Pr_headAround_31 : decode b_Pr_headAround 31 = .ok (.getfield 33, 3) := by decide +kernel
theorem d_Pr_headAround_34 : decode b_Pr_headAround 34 = .ok (.iload_n 2, 1) := by decide +kernel
theorem d_Pr_headAround_35 : decode b_Pr_headAround 35 = .ok (.iaload, 1) := by decide +kernel
theorem d_Pr_headAround_36 : decode b_Pr_headAround 36 = .ok (.ireturn, 1) := by decide +kernel
theorem d_Pr_headAround_37 : decode b_Pr_headAround 37 = .ok (.iinc 2 1, 3) := by decide +kernel
theorem d_Pr_headAround_40 : decode b_Pr_headAround 40 = .ok (.goto (-38), 3) := by decide +kernel
theorem d_Pr_headAround_43 : decode b_Pr_headAround 43 = .ok (.iconst (-1), 1) := by decide +kernel
theorem d_Pr_headAround_44 : decode b_Pr_headAround 44 = .ok (.ireturn, 1) := by decide +kernel
theorem d_Ta_init_0 : decode b_Ta_init 0 = .ok (.aload_n 0, 1) := by decide +kernel
theorem d_Ta_init_1 : decode b_Ta_init 1 = .ok (.invokespecial 3, 3) := by decide +kernel
theorem d_Ta_init_4 : decode b_Ta_init 4 = .ok (.aload_n 0, 1) := by decide +kernel
theorem d_Ta_init_5 : decode b_Ta_init 5 = .ok (.bipush 60, 2) := by decide +kernel
theorem d_Ta_init_7 : decode b_Ta_init 7 = .ok (.newarray .int, 2) := by decide +kernel
theorem d_Ta_init_9 : decode b_Ta_init 9 = .ok (.putfield 9, 3) := by decide +kernel
theorem d_Ta_init_12 : decode b_Ta_init 12 = .ok (.aload_n 0, 1) := by decide +kernel
theorem d_Ta_init_13 : decode b_Ta_init 13 = .ok (.iconst (-1), 1) := by decide +kernel
theorem d_Ta_init_14 : decode b_Ta_init 14 = .ok (.putfield 15, 3) := by decide +kernel
theorem d_Ta_init_17 : decode b_Ta_init 17 = .ok (.return_, 1) := by decide +kernel
theorem d_Ta_clear_0 : decode b_Ta_clear 0 = .ok (.aload_n 0, 1) := by decide +kernel
theorem d_Ta_clear_1 : decode b_Ta_clear 1 = .ok (.iconst 0, 1) := by decide +kernel
theorem d_Ta_clear_2 : decode b_Ta_clear 2 = .ok (.putfield 19, 3) := by decide +kernel
theorem d_Ta_clear_5 : decode b_Ta_clear 5 = .ok (.aload_n 0, 1) := by decide +kernel
theorem d_Ta_clear_6 : decode b_Ta_clear 6 = .ok (.iconst 0, 1) := by decide +kernel
theorem d_Ta_clear_7 : decode b_Ta_clear 7 = .ok (.putfield 22, 3) := by decide +kernel
theorem d_Ta_clear_10 : decode b_Ta_clear 10 = .ok (.aload_n 0, 1) := by decide +kernel
theorem d_Ta_clear_11 : decode b_Ta_clear 11 = .ok (.iconst 0, 1) := by decide +kernel
theorem d_Ta_clear_12 : decode b_Ta_clear 12 = .ok (.putfield 25, 3) := by decide +kernel
theorem d_Ta_clear_15 : decode b_Ta_clear 15 = .ok (.aload_n 0, 1) := by decide +kernel
theorem d_Ta_clear_16 : decode b_Ta_clear 16 = .ok (.iconst 0, 1) := by decide +kernel
theorem d_Ta_clear_17 : decode b_Ta_clear 17 = .ok (.putfield 28, 3) := by decide +kernel
theorem d_Ta_clear_20 : decode b_Ta_clear 20 = .ok (.aload_n 0, 1) := by decide +kernel
theorem d_Ta_clear_21 : decode b_Ta_clear 21 = .ok (.iconst 0, 1) := by decide +kernel
theorem d_Ta_clear_22 : decode b_Ta_clear 22 = .ok (.putfield 31, 3) := by decide +kernel
theorem d_Ta_clear_25 : decode b_Ta_clear 25 = .ok (.aload_n 0, 1) := by decide +kernel
theorem d_Ta_clear_26 : decode b_Ta_clear 26 = .ok (.iconst (-1), 1) := by decide +kernel
theorem d_Ta_clear_27 : decode b_Ta_clear 27 = .ok (.putfield 15, 3) := by decide +kernel
theorem d_Ta_clear_30 : decode b_Ta_clear 30 = .ok (.return_, 1) := by decide +kernel
theorem d_Ta_isFull_0 : decode b_Ta_isFull 0 = .ok (.aload_n 0, 1) := by decide +kernel
theorem d_Ta_isFull_1 : decode b_Ta_isFull 1 = .ok (.getfield 19, 3) := by decide +kernel
theorem d_Ta_isFull_4 : decode b_Ta_isFull 4 = .ok (.bipush 60, 2) := by decide +kernel
theorem d_Ta_isFull_6 : decode b_Ta_isFull 6 = .ok (.if_icmp .lt 7, 3) := by decide +kernel
theorem d_Ta_isFull_9 : decode b_Ta_isFull 9 = .ok (.iconst 1, 1) := by decide +kernel
theorem d_Ta_isFull_10 : decode b_Ta_isFull 10 = .ok (.goto 4, 3) := by decide +kernel
theorem d_Ta_isFull_13 : decode b_Ta_isFull 13 = .ok (.iconst 0, 1) := by decide +kernel
theorem d_Ta_isFull_14 : decode b_Ta_isFull 14 = .ok (.ireturn, 1) := by decide +kernel
theorem d_Ta_put_0 : decode b_Ta_put 0 = .ok (.aload_n 0, 1) := by decide +kernel
theorem d_Ta_put_1 : decode b_Ta_put 1 = .ok (.invokevirtual 34, 3) := by decide +kernel
theorem d_Ta_put_4 : decode b_Ta_put 4 = .ok (.ifCond .ne 23, 3) := by decide +kernel
theorem d_Ta_put_7 : decode b_Ta_put 7 = .ok (.aload_n 0, 1) := by decide +kernel
theorem d_Ta_put_8 : decode b_Ta_put 8 = .ok (.getfield 9, 3) := by decide +kernel
theorem d_Ta_put_11 : decode b_Ta_put 11 = .ok (.aload_n 0, 1) := by decide +kernel
theorem d_Ta_put_12 : decode b_Ta_put 12 = .ok (.getfield 19, 3) := by decide +kernel
theorem d_Ta_put_15 : decode b_Ta_put 15 = .ok (.iload_n 1, 1) := by decide +kernel
theorem d_Ta_put_16 : decode b_Ta_put 16 = .ok (.iastore, 1) := by decide +kernel
theorem d_Ta_put_17 : decode b_Ta_put 17 = .ok (.aload_n 0, 1) := by decide +kernel
theorem d_Ta_put_18 : decode b_Ta_put 18 = .ok (.dup, 1) := by decide +kernel
theorem d_Ta_put_19 : decode b_Ta_put 19 = .ok (.getfield 19, 3) := by decide +kernel
theorem d_Ta_put_22 : decode b_Ta_put 22 = .ok (.iconst 1, 1) := by decide +kernel
theorem d_Ta_put_23 : decode b_Ta_put 23 = .ok (.iadd, 1) := by decide +kernel
theorem d_Ta_put_24 : decode b_Ta_put 24 = .ok (.putfield 19, 3) := by decide +kernel
theorem d_Ta_put_27 : decode b_Ta_put 27 = .ok (.return_, 1) := by decide +kernel
theorem d_Ta_hasNumber_0 : decode b_Ta_hasNumber 0 = .ok (.iload_n 1, 1) := by decide +kernel
theorem d_Ta_hasNumber_1 : decode b_Ta_hasNumber 1 = .ok (.ifCond .lt 15, 3) := by decide +kernel
theorem d_Ta_hasNumber_4 : decode b_Ta_hasNumber 4 = .ok (.iload_n 1, 1) := by decide +kernel
theorem d_Ta_hasNumber_5 : decode b_Ta_hasNumber 5 = .ok (.aload_n 0, 1) := by decide +kernel
theorem d_Ta_hasNumber_6 : decode b_Ta_hasNumber 6 = .ok (.getfield 19, 3) := by decide +kernel
theorem d_Ta_hasNumber_9 : decode b_Ta_hasNumber 9 = .ok (.if_icmp .ge 7, 3) := by decide +kernel
theorem d_Ta_hasNumber_12 : decode b_Ta_hasNumber 12 = .ok (.iconst 1, 1) := by decide +kernel
theorem d_Ta_hasNumber_13 : decode b_Ta_hasNumber 13 = .ok (.goto 4, 3) := by decide +kernel
theorem d_Ta_hasNumber_16 : decode b_Ta_hasNumber 16 = .ok (.iconst 0, 1) := by decide +kernel
theorem d_Ta_hasNumber_17 : decode b_Ta_hasNumber 17 = .ok (.ireturn, 1) := by decide +kernel
theorem d_Ta_numberAt_0 : decode b_Ta_numberAt 0 = .ok (.aload_n 0, 1) := by decide +kernel
theorem d_Ta_numberAt_1 : decode b_Ta_numberAt 1 = .ok (.iload_n 1, 1) := by decide +kernel
theorem d_Ta_numberAt_2 : decode b_Ta_numberAt 2 = .ok (.invokevirtual 38, 3) := by decide +kernel
theorem d_Ta_numberAt_5 : decode b_Ta_numberAt 5 = .ok (.ifCond .eq 12, 3) := by decide +kernel
theorem d_Ta_numberAt_8 : decode b_Ta_numberAt 8 = .ok (.aload_n 0, 1) := by decide +kernel
theorem d_Ta_numberAt_9 : decode b_Ta_numberAt 9 = .ok (.getfield 9, 3) := by decide +kernel
theorem d_Ta_numberAt_12 : decode b_Ta_numberAt 12 = .ok (.iload_n 1, 1) := by decide +kernel
theorem d_Ta_numberAt_13 : decode b_Ta_numberAt 13 = .ok (.iaload, 1) := by decide +kernel
theorem d_Ta_numberAt_14 : decode b_Ta_numberAt 14 = .ok (.goto 4, 3) := by decide +kernel
theorem d_Ta_numberAt_17 : decode b_Ta_numberAt 17 = .ok (.iconst (-1), 1) := by decide +kernel
theorem d_Ta_numberAt_18 : decode b_Ta_numberAt 18 = .ok (.ireturn, 1) := by decide +kernel
theorem d_Tx_init_0 : decode b_Tx_init 0 = .ok (.aload_n 0, 1) := by decide +kernel
theorem d_Tx_init_1 : decode b_Tx_init 1 = .ok (.invokespecial 3, 3) := by decide +kernel
theorem d_Tx_init_4 : decode b_Tx_init 4 = .ok (.aload_n 0, 1) := by decide +kernel
theorem d_Tx_init_5 : decode b_Tx_init 5 = .ok (.bipush 20, 2) := by decide +kernel
theorem d_Tx_init_7 : decode b_Tx_init 7 = .ok (.newarray .int, 2) := by decide +kernel
theorem d_Tx_init_9 : decode b_Tx_init 9 = .ok (.putfield 9, 3) := by decide +kernel
theorem d_Tx_init_12 : decode b_Tx_init 12 = .ok (.aload_n 0, 1) := by decide +kernel
theorem d_Tx_init_13 : decode b_Tx_init 13 = .ok (.bipush 20, 2) := by decide +kernel
theorem d_Tx_init_15 : decode b_Tx_init 15 = .ok (.newarray .int, 2) := by decide +kernel
theorem d_Tx_init_17 : decode b_Tx_init 17 = .ok (.putfield 15, 3) := by decide +kernel
theorem d_Tx_init_20 : decode b_Tx_init 20 = .ok (.return_, 1) := by decide +kernel
theorem d_Tx_isFull_0 : decode b_Tx_isFull 0 = .ok (.aload_n 0, 1) := by decide +kernel
theorem d_Tx_isFull_1 : decode b_Tx_isFull 1 = .ok (.getfield 18, 3) := by decide +kernel
theorem d_Tx_isFull_4 : decode b_Tx_isFull 4 = .ok (.bipush 20, 2) := by decide +kernel
theorem d_Tx_isFull_6 : decode b_Tx_isFull 6 = .ok (.if_icmp .lt 7, 3) := by decide +kernel
theorem d_Tx_isFull_9 : decode b_Tx_isFull 9 = .ok (.iconst 1, 1) := by decide +kernel
theorem d_Tx_isFull_10 : decode b_Tx_isFull 10 = .ok (.goto 4, 3) := by decide +kernel
theorem d_Tx_isFull_13 : decode b_Tx_isFull 13 = .ok (.iconst 0, 1) := by decide +kernel
theorem d_Tx_isFull_14 : decode b_Tx_isFull 14 = .ok (.ireturn, 1) := by decide +kernel
theorem d_Tx_append_0 : decode b_Tx_append 0 = .ok (.aload_n 0, 1) := by decide +kernel
theorem d_Tx_append_1 : decode b_Tx_append 1 = .ok (.invokevirtual 22, 3) := by decide +kernel
theorem d_Tx_append_4 : decode b_Tx_append 4 = .ok (.ifCond .ne 33, 3) := by decide +kernel
theorem d_Tx_append_7 : decode b_Tx_append 7 = .ok (.aload_n 0, 1) := by decide +kernel
theorem d_Tx_append_8 : decode b_Tx_append 8 = .ok (.getfield 9, 3) := by decide +kernel
theorem d_Tx_append_11 : decode b_Tx_append 11 = .ok (.aload_n 0, 1) := by decide +kernel
theorem d_Tx_append_12 : decode b_Tx_append 12 = .ok (.getfield 18, 3) := by decide +kernel
theorem d_Tx_append_15 : decode b_Tx_append 15 = .ok (.iload_n 1, 1) := by decide +kernel
theorem d_Tx_append_16 : decode b_Tx_append 16 = .ok (.iastore, 1) := by decide +kernel
theorem d_Tx_append_17 : decode b_Tx_append 17 = .ok (.aload_n 0, 1) := by decide +kernel
theorem d_Tx_append_18 : decode b_Tx_append 18 = .ok (.getfield 15, 3) := by decide +kernel
theorem d_Tx_append_21 : decode b_Tx_append 21 = .ok (.aload_n 0, 1) := by decide +kernel
theorem d_Tx_append_22 : decode b_Tx_append 22 = .ok (.getfield 18, 3) := by decide +kernel
theorem d_Tx_append_25 : decode b_Tx_append 25 = .ok (.iload_n 2, 1) := by decide +kernel
theorem d_Tx_append_26 : decode b_Tx_append 26 = .ok (.iastore, 1) := by decide +kernel
theorem d_Tx_append_27 : decode b_Tx_append 27 = .ok (.aload_n 0, 1) := by decide +kernel
theorem d_Tx_append_28 : decode b_Tx_append 28 = .ok (.dup, 1) := by decide +kernel
theorem d_Tx_append_29 : decode b_Tx_append 29 = .ok (.getfield 18, 3) := by decide +kernel
theorem d_Tx_append_32 : decode b_Tx_append 32 = .ok (.iconst 1, 1) := by decide +kernel
theorem d_Tx_append_33 : decode b_Tx_append 33 = .ok (.iadd, 1) := by decide +kernel
theorem d_Tx_append_34 : decode b_Tx_append 34 = .ok (.putfield 18, 3) := by decide +kernel
theorem d_Tx_append_37 : decode b_Tx_append 37 = .ok (.aload_n 0, 1) := by decide +kernel
theorem d_Tx_append_38 : decode b_Tx_append 38 = .ok (.getfield 18, 3) := by decide +kernel
theorem d_Tx_append_41 : decode b_Tx_append 41 = .ok (.ireturn, 1) := by decide +kernel
theorem d_Tx_statementAt_0 : decode b_Tx_statementAt 0 = .ok (.aload_n 0, 1) := by decide +kernel
theorem d_Tx_statementAt_1 : decode b_Tx_statementAt 1 = .ok (.iload_n 1, 1) := by decide +kernel
theorem d_Tx_statementAt_2 : decode b_Tx_statementAt 2 = .ok (.invokevirtual 26, 3) := by decide +kernel
theorem d_Tx_statementAt_5 : decode b_Tx_statementAt 5 = .ok (.ifCond .eq 12, 3) := by decide +kernel
theorem d_Tx_statementAt_8 : decode b_Tx_statementAt 8 = .ok (.aload_n 0, 1) := by decide +kernel
theorem d_Tx_statementAt_9 : decode b_Tx_statementAt 9 = .ok (.getfield 9, 3) := by decide +kernel
theorem d_Tx_statementAt_12 : decode b_Tx_statementAt 12 = .ok (.iload_n 1, 1) := by decide +kernel
theorem d_Tx_statementAt_13 : decode b_Tx_statementAt 13 = .ok (.iaload, 1) := by decide +kernel
theorem d_Tx_statementAt_14 : decode b_Tx_statementAt 14 = .ok (.goto 4, 3) := by decide +kernel
theorem d_Tx_statementAt_17 : decode b_Tx_statementAt 17 = .ok (.iconst (-1), 1) := by decide +kernel
theorem d_Tx_statementAt_18 : decode b_Tx_statementAt 18 = .ok (.ireturn, 1) := by decide +kernel
theorem d_Tx_has_0 : decode b_Tx_has 0 = .ok (.iload_n 1, 1) := by decide +kernel
theorem d_Tx_has_1 : decode b_Tx_has 1 = .ok (.ifCond .lt 15, 3) := by decide +kernel
theorem d_Tx_has_4 : decode b_Tx_has 4 = .ok (.iload_n 1, 1) := by decide +kernel
theorem d_Tx_has_5 : decode b_Tx_has 5 = .ok (.aload_n 0, 1) := by decide +kernel
theorem d_Tx_has_6 : decode b_Tx_has 6 = .ok (.getfield 18, 3) := by decide +kernel
theorem d_Tx_has_9 : decode b_Tx_has 9 = .ok (.if_icmp .ge 7, 3) := by decide +kernel
theorem d_Tx_has_12 : decode b_Tx_has 12 = .ok (.iconst 1, 1) := by decide +kernel
theorem d_Tx_has_13 : decode b_Tx_has 13 = .ok (.goto 4, 3) := by decide +kernel
theorem d_Tx_has_16 : decode b_Tx_has 16 = .ok (.iconst 0, 1) := by decide +kernel
theorem d_Tx_has_17 : decode b_Tx_has 17 = .ok (.ireturn, 1) := by decide +kernel
theorem d_Tx_operandAt_0 : decode b_Tx_operandAt 0 = .ok (.aload_n 0, 1) := by decide +kernel
theorem d_Tx_operandAt_1 : decode b_Tx_operandAt 1 = .ok (.iload_n 1, 1) := by decide +kernel
theorem d_Tx_operandAt_2 : decode b_Tx_operandAt 2 = .ok (.invokevirtual 26, 3) := by decide +kernel
theorem d_Tx_operandAt_5 : decode b_Tx_operandAt 5 = .ok (.ifCond .eq 12, 3) := by decide +kernel
theorem d_Tx_operandAt_8 : decode b_Tx_operandAt 8 = .ok (.aload_n 0, 1) := by decide +kernel
theorem d_Tx_operandAt_9 : decode b_Tx_operandAt 9 = .ok (.getfield 15, 3) := by decide +kernel
theorem d_Tx_operandAt_12 : decode b_Tx_operandAt 12 = .ok (.iload_n 1, 1) := by decide +kernel
theorem d_Tx_operandAt_13 : decode b_Tx_operandAt 13 = .ok (.iaload, 1) := by decide +kernel
theorem d_Tx_operandAt_14 : decode b_Tx_operandAt 14 = .ok (.goto 4, 3) := by decide +kernel
theorem d_Tx_operandAt_17 : decode b_Tx_operandAt 17 = .ok (.iconst (-1), 1) := by decide +kernel
theorem d_Tx_operandAt_18 : decode b_Tx_operandAt 18 = .ok (.ireturn, 1) := by decide +kernel
theorem d_Ty_init_0 : decode b_Ty_init 0 = .ok (.aload_n 0, 1) := by decide +kernel
theorem d_Ty_init_1 : decode b_Ty_init 1 = .ok (.invokespecial 3, 3) := by decide +kernel
theorem d_Ty_init_4 : decode b_Ty_init 4 = .ok (.aload_n 0, 1) := by decide +kernel
theorem d_Ty_init_5 : decode b_Ty_init 5 = .ok (.bipush 8, 2) := by decide +kernel
theorem d_Ty_init_7 : decode b_Ty_init 7 = .ok (.newarray .int, 2) := by decide +kernel
theorem d_Ty_init_9 : decode b_Ty_init 9 = .ok (.putfield 9, 3) := by decide +kernel
theorem d_Ty_init_12 : decode b_Ty_init 12 = .ok (.aload_n 0, 1) := by decide +kernel
theorem d_Ty_init_13 : decode b_Ty_init 13 = .ok (.getfield 9, 3) := by decide +kernel
theorem d_Ty_init_16 : decode b_Ty_init 16 = .ok (.iconst 0, 1) := by decide +kernel
theorem d_Ty_init_17 : decode b_Ty_init 17 = .ok (.iconst (-1), 1) := by decide +kernel
theorem d_Ty_init_18 : decode b_Ty_init 18 = .ok (.iastore, 1) := by decide +kernel
theorem d_Ty_init_19 : decode b_Ty_init 19 = .ok (.aload_n 0, 1) := by decide +kernel
theorem d_Ty_init_20 : decode b_Ty_init 20 = .ok (.iconst 1, 1) := by decide +kernel
theorem d_Ty_init_21 : decode b_Ty_init 21 = .ok (.putfield 15, 3) := by decide +kernel
theorem d_Ty_init_24 : decode b_Ty_init 24 = .ok (.return_, 1) := by decide +kernel
theorem d_Ty_has_0 : decode b_Ty_has 0 = .ok (.iload_n 1, 1) := by decide +kernel
theorem d_Ty_has_1 : decode b_Ty_has 1 = .ok (.ifCond .lt 15, 3) := by decide +kernel
theorem d_Ty_has_4 : decode b_Ty_has 4 = .ok (.iload_n 1, 1) := by decide +kernel
theorem d_Ty_has_5 : decode b_Ty_has 5 = .ok (.aload_n 0, 1) := by decide +kernel
theorem d_Ty_has_6 : decode b_Ty_has 6 = .ok (.getfield 15, 3) := by decide +kernel
theorem d_Ty_has_9 : decode b_Ty_has 9 = .ok (.if_icmp .ge 7, 3) := by decide +kernel
theorem d_Ty_has_12 : decode b_Ty_has 12 = .ok (.iconst 1, 1) := by decide +kernel
theorem d_Ty_has_13 : decode b_Ty_has 13 = .ok (.goto 4, 3) := by decide +kernel
theorem d_Ty_has_16 : decode b_Ty_has 16 = .ok (.iconst 0, 1) := by decide +kernel
theorem d_Ty_has_17 : decode b_Ty_has 17 = .ok (.ireturn, 1) := by decide +kernel
theorem d_Ty_isFull_0 : decode b_Ty_isFull 0 = .ok (.aload_n 0, 1) := by decide +kernel
theorem d_Ty_isFull_1 : decode b_Ty_isFull 1 = .ok (.getfield 15, 3) := by decide +kernel
theorem d_Ty_isFull_4 : decode b_Ty_isFull 4 = .ok (.bipush 8, 2) := by decide +kernel
theorem d_Ty_isFull_6 : decode b_Ty_isFull 6 = .ok (.if_icmp .lt 7, 3) := by decide +kernel
theorem d_Ty_isFull_9 : decode b_Ty_isFull 9 = .ok (.iconst 1, 1) := by decide +kernel
theorem d_Ty_isFull_10 : decode b_Ty_isFull 10 = .ok (.goto 4, 3) := by decide +kernel
theorem d_Ty_isFull_13 : decode b_Ty_isFull 13 = .ok (.iconst 0, 1) := by decide +kernel
theorem d_Ty_isFull_14 : decode b_Ty_isFull 14 = .ok (.ireturn, 1) := by decide +kernel
theorem d_Ty_make_0 : decode b_Ty_make 0 = .ok (.aload_n 0, 1) := by decide +kernel
theorem d_Ty_make_1 : decode b_Ty_make 1 = .ok (.invokevirtual 19, 3) := by decide +kernel
end
section
theorem d_Ty_make_4 : decode b_Ty_make 4 = .ok (.ifCond .eq 5, 3) := by decide +kernel
theorem d_Ty_make_7 : decode b_Ty_make 7 = .ok (.iconst (-1), 1) := by decide +kernel
theorem d_Ty_make_8 : decode b_Ty_make 8 = .ok (.ireturn, 1) := by decide +kernel
theorem d_Ty_make_9 : decode b_Ty_make 9 = .ok (.aload_n 0, 1) := by decide +kernel
theorem d_Ty_make_10 : decode b_Ty_make 10 = .ok (.getfield 15, 3) := by decide +kernel
theorem d_Ty_make_13 : decode b_Ty_make 13 = .ok (.istore_n 2, 1) := by decide +kernel
theorem d_Ty_make_14 : decode b_Ty_make 14 = .ok (.aload_n 0, 1) := by decide +kernel
theorem d_Ty_make_15 : decode b_Ty_make 15 = .ok (.getfield 9, 3) := by decide +kernel
theorem d_Ty_make_18 : decode b_Ty_make 18 = .ok (.iload_n 2, 1) := by decide +kernel
theorem d_Ty_make_19 : decode b_Ty_make 19 = .ok (.iload_n 1, 1) := by decide +kernel
theorem d_Ty_make_20 : decode b_Ty_make 20 = .ok (.iastore, 1) := by decide +kernel
theorem d_Ty_make_21 : decode b_Ty_make 21 = .ok (.aload_n 0, 1) := by decide +kernel
theorem d_Ty_make_22 : decode b_Ty_make 22 = .ok (.dup, 1) := by decide +kernel
theorem d_Ty_make_23 : decode b_Ty_make 23 = .ok (.getfield 15, 3) := by decide +kernel
theorem d_Ty_make_26 : decode b_Ty_make 26 = .ok (.iconst 1, 1) := by decide +kernel
theorem d_Ty_make_27 : decode b_Ty_make 27 = .ok (.iadd, 1) := by decide +kernel
theorem d_Ty_make_28 : decode b_Ty_make 28 = .ok (.putfield 15, 3) := by decide +kernel
theorem d_Ty_make_31 : decode b_Ty_make 31 = .ok (.iload_n 2, 1) := by decide +kernel
theorem d_Ty_make_32 : decode b_Ty_make 32 = .ok (.ireturn, 1) := by decide +kernel
theorem d_Ty_isAnother_0 : decode b_Ty_isAnother 0 = .ok (.iload_n 1, 1) := by decide +kernel
theorem d_Ty_isAnother_1 : decode b_Ty_isAnother 1 = .ok (.istore_n 3, 1) := by decide +kernel
theorem d_Ty_isAnother_2 : decode b_Ty_isAnother 2 = .ok (.iconst 0, 1) := by decide +kernel
theorem d_Ty_isAnother_3 : decode b_Ty_isAnother 3 = .ok (.istore 4, 2) := by decide +kernel
theorem d_Ty_isAnother_5 : decode b_Ty_isAnother 5 = .ok (.iload 4, 2) := by decide +kernel
theorem d_Ty_isAnother_7 : decode b_Ty_isAnother 7 = .ok (.bipush 8, 2) := by decide +kernel
theorem d_Ty_isAnother_9 : decode b_Ty_isAnother 9 = .ok (.if_icmp .ge 31, 3) := by decide +kernel
theorem d_Ty_isAnother_12 : decode b_Ty_isAnother 12 = .ok (.aload_n 0, 1) := by decide +kernel
theorem d_Ty_isAnother_13 : decode b_Ty_isAnother 13 = .ok (.iload_n 3, 1) := by decide +kernel
theorem d_Ty_isAnother_14 : decode b_Ty_isAnother 14 = .ok (.invokevirtual 23, 3) := by decide +kernel
theorem d_Ty_isAnother_17 : decode b_Ty_isAnother 17 = .ok (.ifCond .eq 23, 3) := by decide +kernel
theorem d_Ty_isAnother_20 : decode b_Ty_isAnother 20 = .ok (.iload_n 3, 1) := by decide +kernel
theorem d_Ty_isAnother_21 : decode b_Ty_isAnother 21 = .ok (.iload_n 2, 1) := by decide +kernel
theorem d_Ty_isAnother_22 : decode b_Ty_isAnother 22 = .ok (.if_icmp .ne 5, 3) := by decide +kernel
theorem d_Ty_isAnother_25 : decode b_Ty_isAnother 25 = .ok (.iconst 1, 1) := by decide +kernel
theorem d_Ty_isAnother_26 : decode b_Ty_isAnother 26 = .ok (.ireturn, 1) := by decide +kernel
theorem d_Ty_isAnother_27 : decode b_Ty_isAnother 27 = .ok (.aload_n 0, 1) := by decide +kernel
theorem d_Ty_isAnother_28 : decode b_Ty_isAnother 28 = .ok (.getfield 9, 3) := by decide +kernel
theorem d_Ty_isAnother_31 : decode b_Ty_isAnother 31 = .ok (.iload_n 3, 1) := by decide +kernel
theorem d_Ty_isAnother_32 : decode b_Ty_isAnother 32 = .ok (.iaload, 1) := by decide +kernel
theorem d_Ty_isAnother_33 : decode b_Ty_isAnother 33 = .ok (.istore_n 3, 1) := by decide +kernel
theorem d_Ty_isAnother_34 : decode b_Ty_isAnother 34 = .ok (.iinc 4 1, 3) := by decide +kernel
theorem d_Ty_isAnother_37 : decode b_Ty_isAnother 37 = .ok (.goto (-32), 3) := by decide +kernel
theorem d_Ty_isAnother_40 : decode b_Ty_isAnother 40 = .ok (.iconst 0, 1) := by decide +kernel
theorem d_Ty_isAnother_41 : decode b_Ty_isAnother 41 = .ok (.ireturn, 1) := by decide +kernel
end
section
theorem d_Mo_init_0 : decode b_Mo_init 0 = .ok (.aload_n 0, 1) := by decide +kernel
theorem d_Mo_init_1 : decode b_Mo_init 1 = .ok (.invokespecial 1, 3) := by decide +kernel
theorem d_Mo_init_4 : decode b_Mo_init 4 = .ok (.aload_n 0, 1) := by decide +kernel
theorem d_Mo_init_5 : decode b_Mo_init 5 = .ok (.iconst 1, 1) := by decide +kernel
theorem d_Mo_init_6 : decode b_Mo_init 6 = .ok (.putfield 7, 3) := by decide +kernel
theorem d_Mo_init_9 : decode b_Mo_init 9 = .ok (.aload_n 0, 1) := by decide +kernel
theorem d_Mo_init_10 : decode b_Mo_init 10 = .ok (.bipush 8, 2) := by decide +kernel
theorem d_Mo_init_12 : decode b_Mo_init 12 = .ok (.newarray .int, 2) := by decide +kernel
theorem d_Mo_init_14 : decode b_Mo_init 14 = .ok (.dup, 1) := by decide +kernel
theorem d_Mo_init_15 : decode b_Mo_init 15 = .ok (.iconst 0, 1) := by decide +kernel
theorem d_Mo_init_16 : decode b_Mo_init 16 = .ok (.iconst (-1), 1) := by decide +kernel
theorem d_Mo_init_17 : decode b_Mo_init 17 = .ok (.iastore, 1) := by decide +kernel
theorem d_Mo_init_18 : decode b_Mo_init 18 = .ok (.dup, 1) := by decide +kernel
theorem d_Mo_init_19 : decode b_Mo_init 19 = .ok (.iconst 1, 1) := by decide +kernel
theorem d_Mo_init_20 : decode b_Mo_init 20 = .ok (.iconst 0, 1) := by decide +kernel
theorem d_Mo_init_21 : decode b_Mo_init 21 = .ok (.iastore, 1) := by decide +kernel
theorem d_Mo_init_22 : decode b_Mo_init 22 = .ok (.dup, 1) := by decide +kernel
theorem d_Mo_init_23 : decode b_Mo_init 23 = .ok (.iconst 2, 1) := by decide +kernel
theorem d_Mo_init_24 : decode b_Mo_init 24 = .ok (.iconst 0, 1) := by decide +kernel
theorem d_Mo_init_25 : decode b_Mo_init 25 = .ok (.iastore, 1) := by decide +kernel
theorem d_Mo_init_26 : decode b_Mo_init 26 = .ok (.dup, 1) := by decide +kernel
theorem d_Mo_init_27 : decode b_Mo_init 27 = .ok (.iconst 3, 1) := by decide +kernel
theorem d_Mo_init_28 : decode b_Mo_init 28 = .ok (.iconst 0, 1) := by decide +kernel
theorem d_Mo_init_29 : decode b_Mo_init 29 = .ok (.iastore, 1) := by decide +kernel
theorem d_Mo_init_30 : decode b_Mo_init 30 = .ok (.dup, 1) := by decide +kernel
theorem d_Mo_init_31 : decode b_Mo_init 31 = .ok (.iconst 4, 1) := by decide +kernel
theorem d_Mo_init_32 : decode b_Mo_init 32 = .ok (.iconst 0, 1) := by decide +kernel
theorem d_Mo_init_33 : decode b_Mo_init 33 = .ok (.iastore, 1) := by decide +kernel
theorem d_Mo_init_34 : decode b_Mo_init 34 = .ok (.dup, 1) := by decide +kernel
theorem d_Mo_init_35 : decode b_Mo_init 35 = .ok (.iconst 5, 1) := by decide +kernel
theorem d_Mo_init_36 : decode b_Mo_init 36 = .ok (.iconst 0, 1) := by decide +kernel
theorem d_Mo_init_37 : decode b_Mo_init 37 = .ok (.iastore, 1) := by decide +kernel
theorem d_Mo_init_38 : decode b_Mo_init 38 = .ok (.dup, 1) := by decide +kernel
theorem d_Mo_init_39 : decode b_Mo_init 39 = .ok (.bipush 6, 2) := by decide +kernel
theorem d_Mo_init_41 : decode b_Mo_init 41 = .ok (.iconst 0, 1) := by decide +kernel
theorem d_Mo_init_42 : decode b_Mo_init 42 = .ok (.iastore, 1) := by decide +kernel
theorem d_Mo_init_43 : decode b_Mo_init 43 = .ok (.dup, 1) := by decide +kernel
theorem d_Mo_init_44 : decode b_Mo_init 44 = .ok (.bipush 7, 2) := by decide +kernel
theorem d_Mo_init_46 : decode b_Mo_init 46 = .ok (.iconst 0, 1) := by decide +kernel
theorem d_Mo_init_47 : decode b_Mo_init 47 = .ok (.iastore, 1) := by decide +kernel
theorem d_Mo_init_48 : decode b_Mo_init 48 = .ok (.putfield 13, 3) := by decide +kernel
theorem d_Mo_init_51 : decode b_Mo_init 51 = .ok (.aload_n 0, 1) := by decide +kernel
theorem d_Mo_init_52 : decode b_Mo_init 52 = .ok (.bipush 6, 2) := by decide +kernel
theorem d_Mo_init_54 : decode b_Mo_init 54 = .ok (.newarray .int, 2) := by decide +kernel
theorem d_Mo_init_56 : decode b_Mo_init 56 = .ok (.putfield 17, 3) := by decide +kernel
theorem d_Mo_init_59 : decode b_Mo_init 59 = .ok (.aload_n 0, 1) := by decide +kernel
theorem d_Mo_init_60 : decode b_Mo_init 60 = .ok (.bipush 120, 2) := by decide +kernel
theorem d_Mo_init_62 : decode b_Mo_init 62 = .ok (.newarray .int, 2) := by decide +kernel
theorem d_Mo_init_64 : decode b_Mo_init 64 = .ok (.putfield 20, 3) := by decide +kernel
theorem d_Mo_init_67 : decode b_Mo_init 67 = .ok (.aload_n 0, 1) := by decide +kernel
theorem d_Mo_init_68 : decode b_Mo_init 68 = .ok (.bipush 120, 2) := by decide +kernel
theorem d_Mo_init_70 : decode b_Mo_init 70 = .ok (.newarray .int, 2) := by decide +kernel
theorem d_Mo_init_72 : decode b_Mo_init 72 = .ok (.putfield 23, 3) := by decide +kernel
theorem d_Mo_init_75 : decode b_Mo_init 75 = .ok (.aload_n 0, 1) := by decide +kernel
theorem d_Mo_init_76 : decode b_Mo_init 76 = .ok (.bipush 6, 2) := by decide +kernel
theorem d_Mo_init_78 : decode b_Mo_init 78 = .ok (.newarray .int, 2) := by decide +kernel
theorem d_Mo_init_80 : decode b_Mo_init 80 = .ok (.putfield 26, 3) := by decide +kernel
theorem d_Mo_init_83 : decode b_Mo_init 83 = .ok (.aload_n 0, 1) := by decide +kernel
theorem d_Mo_init_84 : decode b_Mo_init 84 = .ok (.sipush 768, 3) := by decide +kernel
theorem d_Mo_init_87 : decode b_Mo_init 87 = .ok (.newarray .int, 2) := by decide +kernel
theorem d_Mo_init_89 : decode b_Mo_init 89 = .ok (.putfield 29, 3) := by decide +kernel
theorem d_Mo_init_92 : decode b_Mo_init 92 = .ok (.aload_n 0, 1) := by decide +kernel
theorem d_Mo_init_93 : decode b_Mo_init 93 = .ok (.sipush 768, 3) := by decide +kernel
theorem d_Mo_init_96 : decode b_Mo_init 96 = .ok (.newarray .int, 2) := by decide +kernel
theorem d_Mo_init_98 : decode b_Mo_init 98 = .ok (.putfield 32, 3) := by decide +kernel
theorem d_Mo_init_101 : decode b_Mo_init 101 = .ok (.aload_n 0, 1) := by decide +kernel
theorem d_Mo_init_102 : decode b_Mo_init 102 = .ok (.sipush 768, 3) := by decide +kernel
theorem d_Mo_init_105 : decode b_Mo_init 105 = .ok (.newarray .int, 2) := by decide +kernel
theorem d_Mo_init_107 : decode b_Mo_init 107 = .ok (.putfield 35, 3) := by decide +kernel
theorem d_Mo_init_110 : decode b_Mo_init 110 = .ok (.aload_n 0, 1) := by decide +kernel
theorem d_Mo_init_111 : decode b_Mo_init 111 = .ok (.bipush 6, 2) := by decide +kernel
theorem d_Mo_init_113 : decode b_Mo_init 113 = .ok (.newarray .int, 2) := by decide +kernel
theorem d_Mo_init_115 : decode b_Mo_init 115 = .ok (.putfield 38, 3) := by decide +kernel
theorem d_Mo_init_118 : decode b_Mo_init 118 = .ok (.aload_n 0, 1) := by decide +kernel
theorem d_Mo_init_119 : decode b_Mo_init 119 = .ok (.sipush 288, 3) := by decide +kernel
theorem d_Mo_init_122 : decode b_Mo_init 122 = .ok (.newarray .int, 2) := by decide +kernel
theorem d_Mo_init_124 : decode b_Mo_init 124 = .ok (.putfield 41, 3) := by decide +kernel
theorem d_Mo_init_127 : decode b_Mo_init 127 = .ok (.aload_n 0, 1) := by decide +kernel
theorem d_Mo_init_128 : decode b_Mo_init 128 = .ok (.sipush 288, 3) := by decide +kernel
theorem d_Mo_init_131 : decode b_Mo_init 131 = .ok (.newarray .int, 2) := by decide +kernel
theorem d_Mo_init_133 : decode b_Mo_init 133 = .ok (.putfield 44, 3) := by decide +kernel
theorem d_Mo_init_136 : decode b_Mo_init 136 = .ok (.aload_n 0, 1) := by decide +kernel
theorem d_Mo_init_137 : decode b_Mo_init 137 = .ok (.sipush 288, 3) := by decide +kernel
theorem d_Mo_init_140 : decode b_Mo_init 140 = .ok (.newarray .int, 2) := by decide +kernel
theorem d_Mo_init_142 : decode b_Mo_init 142 = .ok (.putfield 47, 3) := by decide +kernel
theorem d_Mo_init_145 : decode b_Mo_init 145 = .ok (.aload_n 0, 1) := by decide +kernel
theorem d_Mo_init_146 : decode b_Mo_init 146 = .ok (.bipush 6, 2) := by decide +kernel
theorem d_Mo_init_148 : decode b_Mo_init 148 = .ok (.newarray .int, 2) := by decide +kernel
theorem d_Mo_init_150 : decode b_Mo_init 150 = .ok (.putfield 50, 3) := by decide +kernel
theorem d_Mo_init_153 : decode b_Mo_init 153 = .ok (.aload_n 0, 1) := by decide +kernel
theorem d_Mo_init_154 : decode b_Mo_init 154 = .ok (.sipush 384, 3) := by decide +kernel
theorem d_Mo_init_157 : decode b_Mo_init 157 = .ok (.newarray .int, 2) := by decide +kernel
theorem d_Mo_init_159 : decode b_Mo_init 159 = .ok (.putfield 53, 3) := by decide +kernel
theorem d_Mo_init_162 : decode b_Mo_init 162 = .ok (.aload_n 0, 1) := by decide +kernel
theorem d_Mo_init_163 : decode b_Mo_init 163 = .ok (.sipush 384, 3) := by decide +kernel
theorem d_Mo_init_166 : decode b_Mo_init 166 = .ok (.newarray .int, 2) := by decide +kernel
theorem d_Mo_init_168 : decode b_Mo_init 168 = .ok (.putfield 56, 3) := by decide +kernel
theorem d_Mo_init_171 : decode b_Mo_init 171 = .ok (.aload_n 0, 1) := by decide +kernel
theorem d_Mo_init_172 : decode b_Mo_init 172 = .ok (.sipush 384, 3) := by decide +kernel
theorem d_Mo_init_175 : decode b_Mo_init 175 = .ok (.newarray .int, 2) := by decide +kernel
theorem d_Mo_init_177 : decode b_Mo_init 177 = .ok (.putfield 59, 3) := by decide +kernel
theorem d_Mo_init_180 : decode b_Mo_init 180 = .ok (.aload_n 0, 1) := by decide +kernel
theorem d_Mo_init_181 : decode b_Mo_init 181 = .ok (.bipush 7, 2) := by decide +kernel
theorem d_Mo_init_183 : decode b_Mo_init 183 = .ok (.newarray .int, 2) := by decide +kernel
theorem d_Mo_init_185 : decode b_Mo_init 185 = .ok (.putfield 62, 3) := by decide +kernel
theorem d_Mo_init_188 : decode b_Mo_init 188 = .ok (.aload_n 0, 1) := by decide +kernel
theorem d_Mo_init_189 : decode b_Mo_init 189 = .ok (.bipush 7, 2) := by decide +kernel
theorem d_Mo_init_191 : decode b_Mo_init 191 = .ok (.newarray .int, 2) := by decide +kernel
theorem d_Mo_init_193 : decode b_Mo_init 193 = .ok (.putfield 65, 3) := by decide +kernel
theorem d_Mo_init_196 : decode b_Mo_init 196 = .ok (.aload_n 0, 1) := by decide +kernel
theorem d_Mo_init_197 : decode b_Mo_init 197 = .ok (.bipush 7, 2) := by decide +kernel
theorem d_Mo_init_199 : decode b_Mo_init 199 = .ok (.newarray .int, 2) := by decide +kernel
theorem d_Mo_init_201 : decode b_Mo_init 201 = .ok (.putfield 68, 3) := by decide +kernel
theorem d_Mo_init_204 : decode b_Mo_init 204 = .ok (.aload_n 0, 1) := by decide +kernel
theorem d_Mo_init_205 : decode b_Mo_init 205 = .ok (.bipush 7, 2) := by decide +kernel
theorem d_Mo_init_207 : decode b_Mo_init 207 = .ok (.newarray .int, 2) := by decide +kernel
theorem d_Mo_init_209 : decode b_Mo_init 209 = .ok (.putfield 71, 3) := by decide +kernel
theorem d_Mo_init_212 : decode b_Mo_init 212 = .ok (.aload_n 0, 1) := by decide +kernel
theorem d_Mo_init_213 : decode b_Mo_init 213 = .ok (.bipush 7, 2) := by decide +kernel
theorem d_Mo_init_215 : decode b_Mo_init 215 = .ok (.newarray .int, 2) := by decide +kernel
theorem d_Mo_init_217 : decode b_Mo_init 217 = .ok (.putfield 74, 3) := by decide +kernel
theorem d_Mo_init_220 : decode b_Mo_init 220 = .ok (.aload_n 0, 1) := by decide +kernel
theorem d_Mo_init_221 : decode b_Mo_init 221 = .ok (.bipush 7, 2) := by decide +kernel
theorem d_Mo_init_223 : decode b_Mo_init 223 = .ok (.newarray .int, 2) := by decide +kernel
theorem d_Mo_init_225 : decode b_Mo_init 225 = .ok (.putfield 77, 3) := by decide +kernel
theorem d_Mo_init_228 : decode b_Mo_init 228 = .ok (.aload_n 0, 1) := by decide +kernel
theorem d_Mo_init_229 : decode b_Mo_init 229 = .ok (.bipush 8, 2) := by decide +kernel
theorem d_Mo_init_231 : decode b_Mo_init 231 = .ok (.newarray .int, 2) := by decide +kernel
theorem d_Mo_init_233 : decode b_Mo_init 233 = .ok (.putfield 80, 3) := by decide +kernel
theorem d_Mo_init_236 : decode b_Mo_init 236 = .ok (.aload_n 0, 1) := by decide +kernel
theorem d_Mo_init_237 : decode b_Mo_init 237 = .ok (.bipush 8, 2) := by decide +kernel
theorem d_Mo_init_239 : decode b_Mo_init 239 = .ok (.newarray .int, 2) := by decide +kernel
theorem d_Mo_init_241 : decode b_Mo_init 241 = .ok (.putfield 83, 3) := by decide +kernel
theorem d_Mo_init_244 : decode b_Mo_init 244 = .ok (.aload_n 0, 1) := by decide +kernel
theorem d_Mo_init_245 : decode b_Mo_init 245 = .ok (.bipush 8, 2) := by decide +kernel
theorem d_Mo_init_247 : decode b_Mo_init 247 = .ok (.newarray .int, 2) := by decide +kernel
theorem d_Mo_init_249 : decode b_Mo_init 249 = .ok (.putfield 86, 3) := by decide +kernel
theorem d_Mo_init_252 : decode b_Mo_init 252 = .ok (.aload_n 0, 1) := by decide +kernel
theorem d_Mo_init_253 : decode b_Mo_init 253 = .ok (.bipush 8, 2) := by decide +kernel
theorem d_Mo_init_255 : decode b_Mo_init 255 = .ok (.newarray .int, 2) := by decide +kernel
theorem d_Mo_init_257 : decode b_Mo_init 257 = .ok (.putfield 89, 3) := by decide +kernel
theorem d_Mo_init_260 : decode b_Mo_init 260 = .ok (.aload_n 0, 1) := by decide +kernel
theorem d_Mo_init_261 : decode b_Mo_init 261 = .ok (.sipush 192, 3) := by decide +kernel
theorem d_Mo_init_264 : decode b_Mo_init 264 = .ok (.newarray .int, 2) := by decide +kernel
theorem d_Mo_init_266 : decode b_Mo_init 266 = .ok (.putfield 92, 3) := by decide +kernel
theorem d_Mo_init_269 : decode b_Mo_init 269 = .ok (.aload_n 0, 1) := by decide +kernel
theorem d_Mo_init_270 : decode b_Mo_init 270 = .ok (.bipush 6, 2) := by decide +kernel
theorem d_Mo_init_272 : decode b_Mo_init 272 = .ok (.newarray .int, 2) := by decide +kernel
theorem d_Mo_init_274 : decode b_Mo_init 274 = .ok (.dup, 1) := by decide +kernel
theorem d_Mo_init_275 : decode b_Mo_init 275 = .ok (.iconst 0, 1) := by decide +kernel
theorem d_Mo_init_276 : decode b_Mo_init 276 = .ok (.iconst 0, 1) := by decide +kernel
theorem d_Mo_init_277 : decode b_Mo_init 277 = .ok (.iastore, 1) := by decide +kernel
theorem d_Mo_init_278 : decode b_Mo_init 278 = .ok (.dup, 1) := by decide +kernel
theorem d_Mo_init_279 : decode b_Mo_init 279 = .ok (.iconst 1, 1) := by decide +kernel
theorem d_Mo_init_280 : decode b_Mo_init 280 = .ok (.iconst 0, 1) := by decide +kernel
theorem d_Mo_init_281 : decode b_Mo_init 281 = .ok (.iastore, 1) := by decide +kernel
theorem d_Mo_init_282 : decode b_Mo_init 282 = .ok (.dup, 1) := by decide +kernel
theorem d_Mo_init_283 : decode b_Mo_init 283 = .ok (.iconst 2, 1) := by decide +kernel
theorem d_Mo_init_284 : decode b_Mo_init 284 = .ok (.iconst 0, 1) := by decide +kernel
theorem d_Mo_init_285 : decode b_Mo_init 285 = .ok (.iastore, 1) := by decide +kernel
theorem d_Mo_init_286 : decode b_Mo_init 286 = .ok (.dup, 1) := by decide +kernel
theorem d_Mo_init_287 : decode b_Mo_init 287 = .ok (.iconst 3, 1) := by decide +kernel
theorem d_Mo_init_288 : decode b_Mo_init 288 = .ok (.iconst 0, 1) := by decide +kernel
theorem d_Mo_init_289 : decode b_Mo_init 289 = .ok (.iastore, 1) := by decide +kernel
theorem d_Mo_init_290 : decode b_Mo_init 290 = .ok (.dup, 1) := by decide +kernel
theorem d_Mo_init_291 : decode b_Mo_init 291 = .ok (.iconst 4, 1) := by decide +kernel
theorem d_Mo_init_292 : decode b_Mo_init 292 = .ok (.iconst 0, 1) := by decide +kernel
theorem d_Mo_init_293 : decode b_Mo_init 293 = .ok (.iastore, 1) := by decide +kernel
theorem d_Mo_init_294 : decode b_Mo_init 294 = .ok (.dup, 1) := by decide +kernel
theorem d_Mo_init_295 : decode b_Mo_init 295 = .ok (.iconst 5, 1) := by decide +kernel
theorem d_Mo_init_296 : decode b_Mo_init 296 = .ok (.iconst (-1), 1) := by decide +kernel
theorem d_Mo_init_297 : decode b_Mo_init 297 = .ok (.iastore, 1) := by decide +kernel
theorem d_Mo_init_298 : decode b_Mo_init 298 = .ok (.putfield 95, 3) := by decide +kernel
theorem d_Mo_init_301 : decode b_Mo_init 301 = .ok (.aload_n 0, 1) := by decide +kernel
theorem d_Mo_init_302 : decode b_Mo_init 302 = .ok (.bipush 60, 2) := by decide +kernel
theorem d_Mo_init_304 : decode b_Mo_init 304 = .ok (.newarray .int, 2) := by decide +kernel
theorem d_Mo_init_306 : decode b_Mo_init 306 = .ok (.putfield 98, 3) := by decide +kernel
theorem d_Mo_init_309 : decode b_Mo_init 309 = .ok (.return_, 1) := by decide +kernel
theorem d_Mo_thrown_0 : decode b_Mo_thrown 0 = .ok (.aload_n 0, 1) := by decide +kernel
theorem d_Mo_thrown_1 : decode b_Mo_thrown 1 = .ok (.getfield 101, 3) := by decide +kernel
theorem d_Mo_thrown_4 : decode b_Mo_thrown 4 = .ok (.ireturn, 1) := by decide +kernel
theorem d_Mo_type_0 : decode b_Mo_type 0 = .ok (.aload_n 0, 1) := by decide +kernel
theorem d_Mo_type_1 : decode b_Mo_type 1 = .ok (.iload_n 1, 1) := by decide +kernel
theorem d_Mo_type_2 : decode b_Mo_type 2 = .ok (.iconst (-1), 1) := by decide +kernel
theorem d_Mo_type_3 : decode b_Mo_type 3 = .ok (.aload_n 0, 1) := by decide +kernel
theorem d_Mo_type_4 : decode b_Mo_type 4 = .ok (.getfield 7, 3) := by decide +kernel
theorem d_Mo_type_7 : decode b_Mo_type 7 = .ok (.iconst 1, 1) := by decide +kernel
theorem d_Mo_type_8 : decode b_Mo_type 8 = .ok (.isub, 1) := by decide +kernel
theorem d_Mo_type_9 : decode b_Mo_type 9 = .ok (.invokestatic 104, 3) := by decide +kernel
theorem d_Mo_type_12 : decode b_Mo_type 12 = .ok (.aload_n 0, 1) := by decide +kernel
theorem d_Mo_type_13 : decode b_Mo_type 13 = .ok (.getfield 7, 3) := by decide +kernel
theorem d_Mo_type_16 : decode b_Mo_type 16 = .ok (.bipush 8, 2) := by decide +kernel
theorem d_Mo_type_18 : decode b_Mo_type 18 = .ok (.if_icmp .ne 7, 3) := by decide +kernel
theorem d_Mo_type_21 : decode b_Mo_type 21 = .ok (.iconst 1, 1) := by decide +kernel
theorem d_Mo_type_22 : decode b_Mo_type 22 = .ok (.goto 4, 3) := by decide +kernel
theorem d_Mo_type_25 : decode b_Mo_type 25 = .ok (.iconst 0, 1) := by decide +kernel
theorem d_Mo_type_26 : decode b_Mo_type 26 = .ok (.invokevirtual 108, 3) := by decide +kernel
theorem d_Mo_type_29 : decode b_Mo_type 29 = .ok (.ifCond .eq 5, 3) := by decide +kernel
theorem d_Mo_type_32 : decode b_Mo_type 32 = .ok (.iconst 0, 1) := by decide +kernel
theorem d_Mo_type_33 : decode b_Mo_type 33 = .ok (.ireturn, 1) := by decide +kernel
theorem d_Mo_type_34 : decode b_Mo_type 34 = .ok (.aload_n 0, 1) := by decide +kernel
theorem d_Mo_type_35 : decode b_Mo_type 35 = .ok (.getfield 13, 3) := by decide +kernel
theorem d_Mo_type_38 : decode b_Mo_type 38 = .ok (.aload_n 0, 1) := by decide +kernel
theorem d_Mo_type_39 : decode b_Mo_type 39 = .ok (.getfield 7, 3) := by decide +kernel
theorem d_Mo_type_42 : decode b_Mo_type 42 = .ok (.iload_n 1, 1) := by decide +kernel
theorem d_Mo_type_43 : decode b_Mo_type 43 = .ok (.iastore, 1) := by decide +kernel
theorem d_Mo_type_44 : decode b_Mo_type 44 = .ok (.aload_n 0, 1) := by decide +kernel
theorem d_Mo_type_45 : decode b_Mo_type 45 = .ok (.dup, 1) := by decide +kernel
theorem d_Mo_type_46 : decode b_Mo_type 46 = .ok (.getfield 7, 3) := by decide +kernel
theorem d_Mo_type_49 : decode b_Mo_type 49 = .ok (.iconst 1, 1) := by decide +kernel
theorem d_Mo_type_50 : decode b_Mo_type 50 = .ok (.iadd, 1) := by decide +kernel
theorem d_Mo_type_51 : decode b_Mo_type 51 = .ok (.putfield 7, 3) := by decide +kernel
theorem d_Mo_type_54 : decode b_Mo_type 54 = .ok (.aload_n 0, 1) := by decide +kernel
theorem d_Mo_type_55 : decode b_Mo_type 55 = .ok (.getfield 7, 3) := by decide +kernel
theorem d_Mo_type_58 : decode b_Mo_type 58 = .ok (.iconst 1, 1) := by decide +kernel
theorem d_Mo_type_59 : decode b_Mo_type 59 = .ok (.isub, 1) := by decide +kernel
theorem d_Mo_type_60 : decode b_Mo_type 60 = .ok (.ireturn, 1) := by decide +kernel
theorem d_Mo_outside_0 : decode b_Mo_outside 0 = .ok (.iload_n 0, 1) := by decide +kernel
theorem d_Mo_outside_1 : decode b_Mo_outside 1 = .ok (.iload_n 1, 1) := by decide +kernel
theorem d_Mo_outside_2 : decode b_Mo_outside 2 = .ok (.if_icmp .lt 8, 3) := by decide +kernel
theorem d_Mo_outside_5 : decode b_Mo_outside 5 = .ok (.iload_n 0, 1) := by decide +kernel
theorem d_Mo_outside_6 : decode b_Mo_outside 6 = .ok (.iload_n 2, 1) := by decide +kernel
theorem d_Mo_outside_7 : decode b_Mo_outside 7 = .ok (.if_icmp .le 7, 3) := by decide +kernel
theorem d_Mo_outside_10 : decode b_Mo_outside 10 = .ok (.iconst 1, 1) := by decide +kernel
theorem d_Mo_outside_11 : decode b_Mo_outside 11 = .ok (.goto 4, 3) := by decide +kernel
theorem d_Mo_outside_14 : decode b_Mo_outside 14 = .ok (.iconst 0, 1) := by decide +kernel
theorem d_Mo_outside_15 : decode b_Mo_outside 15 = .ok (.ireturn, 1) := by decide +kernel
theorem d_Mo_fails_0 : decode b_Mo_fails 0 = .ok (.aload_n 0, 1) := by decide +kernel
theorem d_Mo_fails_1 : decode b_Mo_fails 1 = .ok (.iload_n 1, 1) := by decide +kernel
theorem d_Mo_fails_2 : decode b_Mo_fails 2 = .ok (.ifCond .eq 7, 3) := by decide +kernel
theorem d_Mo_fails_5 : decode b_Mo_fails 5 = .ok (.iconst 1, 1) := by decide +kernel
theorem d_Mo_fails_6 : decode b_Mo_fails 6 = .ok (.goto 12, 3) := by decide +kernel
theorem d_Mo_fails_9 : decode b_Mo_fails 9 = .ok (.iload_n 2, 1) := by decide +kernel
theorem d_Mo_fails_10 : decode b_Mo_fails 10 = .ok (.ifCond .eq 7, 3) := by decide +kernel
theorem d_Mo_fails_13 : decode b_Mo_fails 13 = .ok (.iconst 2, 1) := by decide +kernel
theorem d_Mo_fails_14 : decode b_Mo_fails 14 = .ok (.goto 4, 3) := by decide +kernel
theorem d_Mo_fails_17 : decode b_Mo_fails 17 = .ok (.iconst 0, 1) := by decide +kernel
theorem d_Mo_fails_18 : decode b_Mo_fails 18 = .ok (.putfield 101, 3) := by decide +kernel
theorem d_Mo_fails_21 : decode b_Mo_fails 21 = .ok (.aload_n 0, 1) := by decide +kernel
theorem d_Mo_fails_22 : decode b_Mo_fails 22 = .ok (.getfield 101, 3) := by decide +kernel
theorem d_Mo_fails_25 : decode b_Mo_fails 25 = .ok (.ifCond .le 7, 3) := by decide +kernel
theorem d_Mo_fails_28 : decode b_Mo_fails 28 = .ok (.iconst 1, 1) := by decide +kernel
theorem d_Mo_fails_29 : decode b_Mo_fails 29 = .ok (.goto 4, 3) := by decide +kernel
theorem d_Mo_fails_32 : decode b_Mo_fails 32 = .ok (.iconst 0, 1) := by decide +kernel
theorem d_Mo_fails_33 : decode b_Mo_fails 33 = .ok (.ireturn, 1) := by decide +kernel
theorem d_Mo_add_0 : decode b_Mo_add 0 = .ok (.iload_n 1, 1) := by decide +kernel
theorem d_Mo_add_1 : decode b_Mo_add 1 = .ok (.iconst 0, 1) := by decide +kernel
theorem d_Mo_add_2 : decode b_Mo_add 2 = .ok (.iconst 5, 1) := by decide +kernel
theorem d_Mo_add_3 : decode b_Mo_add 3 = .ok (.invokestatic 104, 3) := by decide +kernel
theorem d_Mo_add_6 : decode b_Mo_add 6 = .ok (.ifCond .ne 12, 3) := by decide +kernel
theorem d_Mo_add_9 : decode b_Mo_add 9 = .ok (.aload_n 0, 1) := by decide +kernel
theorem d_Mo_add_10 : decode b_Mo_add 10 = .ok (.iload_n 2, 1) := by decide +kernel
theorem d_Mo_add_11 : decode b_Mo_add 11 = .ok (.iload_n 3, 1) := by decide +kernel
theorem d_Mo_add_12 : decode b_Mo_add 12 = .ok (.invokevirtual 112, 3) := by decide +kernel
theorem d_Mo_add_15 : decode b_Mo_add 15 = .ok (.ifCond .ne 7, 3) := by decide +kernel
theorem d_Mo_add_18 : decode b_Mo_add 18 = .ok (.iconst 1, 1) := by decide +kernel
theorem d_Mo_add_19 : decode b_Mo_add 19 = .ok (.goto 4, 3) := by decide +kernel
theorem d_Mo_add_22 : decode b_Mo_add 22 = .ok (.iconst 0, 1) := by decide +kernel
theorem d_Mo_add_23 : decode b_Mo_add 23 = .ok (.istore 4, 2) := by decide +kernel
theorem d_Mo_add_25 : decode b_Mo_add 25 = .ok (.aload_n 0, 1) := by decide +kernel
theorem d_Mo_add_26 : decode b_Mo_add 26 = .ok (.iload 4, 2) := by decide +kernel
theorem d_Mo_add_28 : decode b_Mo_add 28 = .ok (.iload 4, 2) := by decide +kernel
theorem d_Mo_add_30 : decode b_Mo_add 30 = .ok (.ifCond .ne 18, 3) := by decide +kernel
theorem d_Mo_add_33 : decode b_Mo_add 33 = .ok (.aload_n 0, 1) := by decide +kernel
theorem d_Mo_add_34 : decode b_Mo_add 34 = .ok (.getfield 17, 3) := by decide +kernel
theorem d_Mo_add_37 : decode b_Mo_add 37 = .ok (.iload_n 1, 1) := by decide +kernel
theorem d_Mo_add_38 : decode b_Mo_add 38 = .ok (.iaload, 1) := by decide +kernel
theorem d_Mo_add_39 : decode b_Mo_add 39 = .ok (.bipush 20, 2) := by decide +kernel
theorem d_Mo_add_41 : decode b_Mo_add 41 = .ok (.if_icmp .ne 7, 3) := by decide +kernel
theorem d_Mo_add_44 : decode b_Mo_add 44 = .ok (.iconst 1, 1) := by decide +kernel
theorem d_Mo_add_45 : decode b_Mo_add 45 = .ok (.goto 4, 3) := by decide +kernel
theorem d_Mo_add_48 : decode b_Mo_add 48 = .ok (.iconst 0, 1) := by decide +kernel
theorem d_Mo_add_49 : decode b_Mo_add 49 = .ok (.invokevirtual 108, 3) := by decide +kernel
theorem d_Mo_add_52 : decode b_Mo_add 52 = .ok (.ifCond .eq 5, 3) := by decide +kernel
theorem d_Mo_add_55 : decode b_Mo_add 55 = .ok (.iconst 0, 1) := by decide +kernel
theorem d_Mo_add_56 : decode b_Mo_add 56 = .ok (.ireturn, 1) := by decide +kernel
theorem d_Mo_add_57 : decode b_Mo_add 57 = .ok (.aload_n 0, 1) := by decide +kernel
theorem d_Mo_add_58 : decode b_Mo_add 58 = .ok (.getfield 20, 3) := by decide +kernel
theorem d_Mo_add_61 : decode b_Mo_add 61 = .ok (.bipush 20, 2) := by decide +kernel
theorem d_Mo_add_63 : decode b_Mo_add 63 = .ok (.iload_n 1, 1) := by decide +kernel
theorem d_Mo_add_64 : decode b_Mo_add 64 = .ok (.imul, 1) := by decide +kernel
theorem d_Mo_add_65 : decode b_Mo_add 65 = .ok (.aload_n 0, 1) := by decide +kernel
theorem d_Mo_add_66 : decode b_Mo_add 66 = .ok (.getfield 17, 3) := by decide +kernel
theorem d_Mo_add_69 : decode b_Mo_add 69 = .ok (.iload_n 1, 1) := by decide +kernel
theorem d_Mo_add_70 : decode b_Mo_add 70 = .ok (.iaload, 1) := by decide +kernel
theorem d_Mo_add_71 : decode b_Mo_add 71 = .ok (.iadd, 1) := by decide +kernel
theorem d_Mo_add_72 : decode b_Mo_add 72 = .ok (.iload_n 2, 1) := by decide +kernel
theorem d_Mo_add_73 : decode b_Mo_add 73 = .ok (.iastore, 1) := by decide +kernel
theorem d_Mo_add_74 : decode b_Mo_add 74 = .ok (.aload_n 0, 1) := by decide +kernel
theorem d_Mo_add_75 : decode b_Mo_add 75 = .ok (.getfield 23, 3) := by decide +kernel
theorem d_Mo_add_78 : decode b_Mo_add 78 = .ok (.bipush 20, 2) := by decide +kernel
theorem d_Mo_add_80 : decode b_Mo_add 80 = .ok (.iload_n 1, 1) := by decide +kernel
theorem d_Mo_add_81 : decode b_Mo_add 81 = .ok (.imul, 1) := by decide +kernel
theorem d_Mo_add_82 : decode b_Mo_add 82 = .ok (.aload_n 0, 1) := by decide +kernel
theorem d_Mo_add_83 : decode b_Mo_add 83 = .ok (.getfield 17, 3) := by decide +kernel
theorem d_Mo_add_86 : decode b_Mo_add 86 = .ok (.iload_n 1, 1) := by decide +kernel
theorem d_Mo_add_87 : decode b_Mo_add 87 = .ok (.iaload, 1) := by decide +kernel
theorem d_Mo_add_88 : decode b_Mo_add 88 = .ok (.iadd, 1) := by decide +kernel
theorem d_Mo_add_89 : decode b_Mo_add 89 = .ok (.iload_n 3, 1) := by decide +kernel
theorem d_Mo_add_90 : decode b_Mo_add 90 = .ok (.iastore, 1) := by decide +kernel
theorem d_Mo_add_91 : decode b_Mo_add 91 = .ok (.aload_n 0, 1) := by decide +kernel
theorem d_Mo_add_92 : decode b_Mo_add 92 = .ok (.getfield 17, 3) := by decide +kernel
theorem d_Mo_add_95 : decode b_Mo_add 95 = .ok (.iload_n 1, 1) := by decide +kernel
theorem d_Mo_add_96 : decode b_Mo_add 96 = .ok (.dup2, 1) := by decide +kernel
theorem d_Mo_add_97 : decode b_Mo_add 97 = .ok (.iaload, 1) := by decide +kernel
theorem d_Mo_add_98 : decode b_Mo_add 98 = .ok (.iconst 1, 1) := by decide +kernel
theorem d_Mo_add_99 : decode b_Mo_add 99 = .ok (.iadd, 1) := by decide +kernel
theorem d_Mo_add_100 : decode b_Mo_add 100 = .ok (.iastore, 1) := by decide +kernel
theorem d_Mo_add_101 : decode b_Mo_add 101 = .ok (.aload_n 0, 1) := by decide +kernel
theorem d_Mo_add_102 : decode b_Mo_add 102 = .ok (.getfield 17, 3) := by decide +kernel
theorem d_Mo_add_105 : decode b_Mo_add 105 = .ok (.iload_n 1, 1) := by decide +kernel
theorem d_Mo_add_106 : decode b_Mo_add 106 = .ok (.iaload, 1) := by decide +kernel
theorem d_Mo_add_107 : decode b_Mo_add 107 = .ok (.ireturn, 1) := by decide +kernel
theorem d_Mo_fits_0 : decode b_Mo_fits 0 = .ok (.iload_n 1, 1) := by decide +kernel
theorem d_Mo_fits_1 : decode b_Mo_fits 1 = .ok (.tableswitch 128 0 7 #[47, 63, 78, 118, 98, 118, 47, 118], 47) := by decide +kernel
theorem d_Mo_fits_48 : decode b_Mo_fits 48 = .ok (.iload_n 2, 1) := by decide +kernel
theorem d_Mo_fits_49 : decode b_Mo_fits 49 = .ok (.iconst 0, 1) := by decide +kernel
theorem d_Mo_fits_50 : decode b_Mo_fits 50 = .ok (.bipush 99, 2) := by decide +kernel
theorem d_Mo_fits_52 : decode b_Mo_fits 52 = .ok (.invokestatic 104, 3) := by decide +kernel
theorem d_Mo_fits_55 : decode b_Mo_fits 55 = .ok (.ifCond .ne 7, 3) := by decide +kernel
theorem d_Mo_fits_58 : decode b_Mo_fits 58 = .ok (.iconst 1, 1) := by decide +kernel
theorem d_Mo_fits_59 : decode b_Mo_fits 59 = .ok (.goto 4, 3) := by decide +kernel
theorem d_Mo_fits_62 : decode b_Mo_fits 62 = .ok (.iconst 0, 1) := by decide +kernel
theorem d_Mo_fits_63 : decode b_Mo_fits 63 = .ok (.ireturn, 1) := by decide +kernel
theorem d_Mo_fits_64 : decode b_Mo_fits 64 = .ok (.iload_n 2, 1) := by decide +kernel
theorem d_Mo_fits_65 : decode b_Mo_fits 65 = .ok (.iconst 0, 1) := by decide +kernel
theorem d_Mo_fits_66 : decode b_Mo_fits 66 = .ok (.iconst 5, 1) := by decide +kernel
theorem d_Mo_fits_67 : decode b_Mo_fits 67 = .ok (.invokestatic 104, 3) := by decide +kernel
theorem d_Mo_fits_70 : decode b_Mo_fits 70 = .ok (.ifCond .ne 7, 3) := by decide +kernel
theorem d_Mo_fits_73 : decode b_Mo_fits 73 = .ok (.iconst 1, 1) := by decide +kernel
theorem d_Mo_fits_74 : decode b_Mo_fits 74 = .ok (.goto 4, 3) := by decide +kernel
theorem d_Mo_fits_77 : decode b_Mo_fits 77 = .ok (.iconst 0, 1) := by decide +kernel
theorem d_Mo_fits_78 : decode b_Mo_fits 78 = .ok (.ireturn, 1) := by decide +kernel
theorem d_Mo_fits_79 : decode b_Mo_fits 79 = .ok (.iload_n 2, 1) := by decide +kernel
theorem d_Mo_fits_80 : decode b_Mo_fits 80 = .ok (.iconst 0, 1) := by decide +kernel
theorem d_Mo_fits_81 : decode b_Mo_fits 81 = .ok (.aload_n 0, 1) := by decide +kernel
theorem d_Mo_fits_82 : decode b_Mo_fits 82 = .ok (.getfield 7, 3) := by decide +kernel
theorem d_Mo_fits_85 : decode b_Mo_fits 85 = .ok (.iconst 1, 1) := by decide +kernel
theorem d_Mo_fits_86 : decode b_Mo_fits 86 = .ok (.isub, 1) := by decide +kernel
theorem d_Mo_fits_87 : decode b_Mo_fits 87 = .ok (.invokestatic 104, 3) := by decide +kernel
theorem d_Mo_fits_90 : decode b_Mo_fits 90 = .ok (.ifCond .ne 7, 3) := by decide +kernel
theorem d_Mo_fits_93 : decode b_Mo_fits 93 = .ok (.iconst 1, 1) := by decide +kernel
theorem d_Mo_fits_94 : decode b_Mo_fits 94 = .ok (.goto 4, 3) := by decide +kernel
theorem d_Mo_fits_97 : decode b_Mo_fits 97 = .ok (.iconst 0, 1) := by decide +kernel
theorem d_Mo_fits_98 : decode b_Mo_fits 98 = .ok (.ireturn, 1) := by decide +kernel
theorem d_Mo_fits_99 : decode b_Mo_fits 99 = .ok (.iload_n 2, 1) := by decide +kernel
theorem d_Mo_fits_100 : decode b_Mo_fits 100 = .ok (.iconst (-1), 1) := by decide +kernel
theorem d_Mo_fits_101 : decode b_Mo_fits 101 = .ok (.aload_n 0, 1) := by decide +kernel
theorem d_Mo_fits_102 : decode b_Mo_fits 102 = .ok (.getfield 7, 3) := by decide +kernel
theorem d_Mo_fits_105 : decode b_Mo_fits 105 = .ok (.iconst 1, 1) := by decide +kernel
theorem d_Mo_fits_106 : decode b_Mo_fits 106 = .ok (.isub, 1) := by decide +kernel
theorem d_Mo_fits_107 : decode b_Mo_fits 107 = .ok (.invokestatic 104, 3) := by decide +kernel
theorem d_Mo_fits_110 : decode b_Mo_fits 110 = .ok (.ifCond .ne 7, 3) := by decide +kernel
theorem d_Mo_fits_113 : decode b_Mo_fits 113 = .ok (.iconst 1, 1) := by decide +kernel
theorem d_Mo_fits_114 : decode b_Mo_fits 114 = .ok (.goto 4, 3) := by decide +kernel
theorem d_Mo_fits_117 : decode b_Mo_fits 117 = .ok (.iconst 0, 1) := by decide +kernel
theorem d_Mo_fits_118 : decode b_Mo_fits 118 = .ok (.ireturn, 1) := by decide +kernel
theorem d_Mo_fits_119 : decode b_Mo_fits 119 = .ok (.iload_n 2, 1) := by decide +kernel
theorem d_Mo_fits_120 : decode b_Mo_fits 120 = .ok (.ifCond .ne 7, 3) := by decide +kernel
theorem d_Mo_fits_123 : decode b_Mo_fits 123 = .ok (.iconst 1, 1) := by decide +kernel
theorem d_Mo_fits_124 : decode b_Mo_fits 124 = .ok (.goto 4, 3) := by decide +kernel
theorem d_Mo_fits_127 : decode b_Mo_fits 127 = .ok (.iconst 0, 1) := by decide +kernel
theorem d_Mo_fits_128 : decode b_Mo_fits 128 = .ok (.ireturn, 1) := by decide +kernel
theorem d_Mo_fits_129 : decode b_Mo_fits 129 = .ok (.iconst 0, 1) := by decide +kernel
theorem d_Mo_fits_130 : decode b_Mo_fits 130 = .ok (.ireturn, 1) := by decide +kernel
theorem d_Mo_wipe_0 : decode b_Mo_wipe 0 = .ok (.aload_n 0, 1) := by decide +kernel
theorem d_Mo_wipe_1 : decode b_Mo_wipe 1 = .ok (.iload_n 1, 1) := by decide +kernel
theorem d_Mo_wipe_2 : decode b_Mo_wipe 2 = .ok (.iconst 0, 1) := by decide +kernel
theorem d_Mo_wipe_3 : decode b_Mo_wipe 3 = .ok (.iconst 5, 1) := by decide +kernel
theorem d_Mo_wipe_4 : decode b_Mo_wipe 4 = .ok (.invokestatic 104, 3) := by decide +kernel
theorem d_Mo_wipe_7 : decode b_Mo_wipe 7 = .ok (.iconst 0, 1) := by decide +kernel
theorem d_Mo_wipe_8 : decode b_Mo_wipe 8 = .ok (.invokevirtual 108, 3) := by decide +kernel
theorem d_Mo_wipe_11 : decode b_Mo_wipe 11 = .ok (.ifCond .ne 10, 3) := by decide +kernel
theorem d_Mo_wipe_14 : decode b_Mo_wipe 14 = .ok (.aload_n 0, 1) := by decide +kernel
theorem d_Mo_wipe_15 : decode b_Mo_wipe 15 = .ok (.getfield 17, 3) := by decide +kernel
theorem d_Mo_wipe_18 : decode b_Mo_wipe 18 = .ok (.iload_n 1, 1) := by decide +kernel
theorem d_Mo_wipe_19 : decode b_Mo_wipe 19 = .ok (.iconst 0, 1) := by decide +kernel
theorem d_Mo_wipe_20 : decode b_Mo_wipe 20 = .ok (.iastore, 1) := by decide +kernel
theorem d_Mo_wipe_21 : decode b_Mo_wipe 21 = .ok (.return_, 1) := by decide +kernel
theorem d_Mo_compile_0 : decode b_Mo_compile 0 = .ok (.iload_n 1, 1) := by decide +kernel
theorem d_Mo_compile_1 : decode b_Mo_compile 1 = .ok (.iconst 0, 1) := by decide +kernel
theorem d_Mo_compile_2 : decode b_Mo_compile 2 = .ok (.iconst 5, 1) := by decide +kernel
theorem d_Mo_compile_3 : decode b_Mo_compile 3 = .ok (.invokestatic 104, 3) := by decide +kernel
theorem d_Mo_compile_6 : decode b_Mo_compile 6 = .ok (.istore_n 2, 1) := by decide +kernel
theorem d_Mo_compile_7 : decode b_Mo_compile 7 = .ok (.aload_n 0, 1) := by decide +kernel
theorem d_Mo_compile_8 : decode b_Mo_compile 8 = .ok (.iload_n 2, 1) := by decide +kernel
theorem d_Mo_compile_9 : decode b_Mo_compile 9 = .ok (.iload_n 2, 1) := by decide +kernel
theorem d_Mo_compile_10 : decode b_Mo_compile 10 = .ok (.ifCond .ne 15, 3) := by decide +kernel
theorem d_Mo_compile_13 : decode b_Mo_compile 13 = .ok (.aload_n 0, 1) := by decide +kernel
theorem d_Mo_compile_14 : decode b_Mo_compile 14 = .ok (.iload_n 1, 1) := by decide +kernel
theorem d_Mo_compile_15 : decode b_Mo_compile 15 = .ok (.invokevirtual 149, 3) := by decide +kernel
theorem d_Mo_compile_18 : decode b_Mo_compile 18 = .ok (.ifCond .ne 7, 3) := by decide +kernel
theorem d_Mo_compile_21 : decode b_Mo_compile 21 = .ok (.iconst 1, 1) := by decide +kernel
theorem d_Mo_compile_22 : decode b_Mo_compile 22 = .ok (.goto 4, 3) := by decide +kernel
theorem d_Mo_compile_25 : decode b_Mo_compile 25 = .ok (.iconst 0, 1) := by decide +kernel
theorem d_Mo_compile_26 : decode b_Mo_compile 26 = .ok (.invokevirtual 108, 3) := by decide +kernel
theorem d_Mo_compile_29 : decode b_Mo_compile 29 = .ok (.ifCond .eq 5, 3) := by decide +kernel
theorem d_Mo_compile_32 : decode b_Mo_compile 32 = .ok (.iconst 0, 1) := by decide +kernel
theorem d_Mo_compile_33 : decode b_Mo_compile 33 = .ok (.ireturn, 1) := by decide +kernel
theorem d_Mo_compile_34 : decode b_Mo_compile 34 = .ok (.aload_n 0, 1) := by decide +kernel
theorem d_Mo_compile_35 : decode b_Mo_compile 35 = .ok (.getfield 26, 3) := by decide +kernel
theorem d_Mo_compile_38 : decode b_Mo_compile 38 = .ok (.iload_n 1, 1) := by decide +kernel
theorem d_Mo_compile_39 : decode b_Mo_compile 39 = .ok (.iconst 0, 1) := by decide +kernel
theorem d_Mo_compile_40 : decode b_Mo_compile 40 = .ok (.iastore, 1) := by decide +kernel
theorem d_Mo_compile_41 : decode b_Mo_compile 41 = .ok (.aload_n 0, 1) := by decide +kernel
theorem d_Mo_compile_42 : decode b_Mo_compile 42 = .ok (.getfield 38, 3) := by decide +kernel
theorem d_Mo_compile_45 : decode b_Mo_compile 45 = .ok (.iload_n 1, 1) := by decide +kernel
theorem d_Mo_compile_46 : decode b_Mo_compile 46 = .ok (.iconst 0, 1) := by decide +kernel
theorem d_Mo_compile_47 : decode b_Mo_compile 47 = .ok (.iastore, 1) := by decide +kernel
theorem d_Mo_compile_48 : decode b_Mo_compile 48 = .ok (.aload_n 0, 1) := by decide +kernel
theorem d_Mo_compile_49 : decode b_Mo_compile 49 = .ok (.iconst 0, 1) := by decide +kernel
theorem d_Mo_compile_50 : decode b_Mo_compile 50 = .ok (.putfield 116, 3) := by decide +kernel
theorem d_Mo_compile_53 : decode b_Mo_compile 53 = .ok (.aload_n 0, 1) := by decide +kernel
theorem d_Mo_compile_54 : decode b_Mo_compile 54 = .ok (.getfield 65, 3) := by decide +kernel
theorem d_Mo_compile_57 : decode b_Mo_compile 57 = .ok (.iconst 0, 1) := by decide +kernel
theorem d_Mo_compile_58 : decode b_Mo_compile 58 = .ok (.iconst (-1), 1) := by decide +kernel
theorem d_Mo_compile_59 : decode b_Mo_compile 59 = .ok (.iastore, 1) := by decide +kernel
theorem d_Mo_compile_60 : decode b_Mo_compile 60 = .ok (.iconst 0, 1) := by decide +kernel
theorem d_Mo_compile_61 : decode b_Mo_compile 61 = .ok (.istore_n 3, 1) := by decide +kernel
theorem d_Mo_compile_62 : decode b_Mo_compile 62 = .ok (.iload_n 3, 1) := by decide +kernel
theorem d_Mo_compile_63 : decode b_Mo_compile 63 = .ok (.aload_n 0, 1) := by decide +kernel
theorem d_Mo_compile_64 : decode b_Mo_compile 64 = .ok (.getfield 17, 3) := by decide +kernel
theorem d_Mo_compile_67 : decode b_Mo_compile 67 = .ok (.iload_n 1, 1) := by decide +kernel
theorem d_Mo_compile_68 : decode b_Mo_compile 68 = .ok (.iaload, 1) := by decide +kernel
theorem d_Mo_compile_69 : decode b_Mo_compile 69 = .ok (.if_icmp .ge 164, 3) := by decide +kernel
theorem d_Mo_compile_72 : decode b_Mo_compile 72 = .ok (.aload_n 0, 1) := by decide +kernel
theorem d_Mo_compile_73 : decode b_Mo_compile 73 = .ok (.getfield 20, 3) := by decide +kernel
theorem d_Mo_compile_76 : decode b_Mo_compile 76 = .ok (.bipush 20, 2) := by decide +kernel
theorem d_Mo_compile_78 : decode b_Mo_compile 78 = .ok (.iload_n 1, 1) := by decide +kernel
theorem d_Mo_compile_79 : decode b_Mo_compile 79 = .ok (.imul, 1) := by decide +kernel
theorem d_Mo_compile_80 : decode b_Mo_compile 80 = .ok (.iload_n 3, 1) := by decide +kernel
theorem d_Mo_compile_81 : decode b_Mo_compile 81 = .ok (.iadd, 1) := by decide +kernel
theorem d_Mo_compile_82 : decode b_Mo_compile 82 = .ok (.iaload, 1) := by decide +kernel
theorem d_Mo_compile_83 : decode b_Mo_compile 83 = .ok (.istore 4, 2) := by decide +kernel
theorem d_Mo_compile_85 : decode b_Mo_compile 85 = .ok (.aload_n 0, 1) := by decide +kernel
theorem d_Mo_compile_86 : decode b_Mo_compile 86 = .ok (.getfield 23, 3) := by decide +kernel
theorem d_Mo_compile_89 : decode b_Mo_compile 89 = .ok (.bipush 20, 2) := by decide +kernel
theorem d_Mo_compile_91 : decode b_Mo_compile 91 = .ok (.iload_n 1, 1) := by decide +kernel
theorem d_Mo_compile_92 : decode b_Mo_compile 92 = .ok (.imul, 1) := by decide +kernel
theorem d_Mo_compile_93 : decode b_Mo_compile 93 = .ok (.iload_n 3, 1) := by decide +kernel
theorem d_Mo_compile_94 : decode b_Mo_compile 94 = .ok (.iadd, 1) := by decide +kernel
theorem d_Mo_compile_95 : decode b_Mo_compile 95 = .ok (.iaload, 1) := by decide +kernel
theorem d_Mo_compile_96 : decode b_Mo_compile 96 = .ok (.istore 5, 2) := by decide +kernel
theorem d_Mo_compile_98 : decode b_Mo_compile 98 = .ok (.iload 4, 2) := by decide +kernel
theorem d_Mo_compile_100 : decode b_Mo_compile 100 = .ok (.ifCond .ne 11, 3) := by decide +kernel
theorem d_Mo_compile_103 : decode b_Mo_compile 103 = .ok (.aload_n 0, 1) := by decide +kernel
theorem d_Mo_compile_104 : decode b_Mo_compile 104 = .ok (.iload_n 1, 1) := by decide +kernel
theorem d_Mo_compile_105 : decode b_Mo_compile 105 = .ok (.iconst 0, 1) := by decide +kernel
theorem d_Mo_compile_106 : decode b_Mo_compile 106 = .ok (.iload 5, 2) := by decide +kernel
theorem d_Mo_compile_108 : decode b_Mo_compile 108 = .ok (.invokevirtual 135, 3) := by decide +kernel
theorem d_Mo_compile_111 : decode b_Mo_compile 111 = .ok (.iload 4, 2) := by decide +kernel
theorem d_Mo_compile_113 : decode b_Mo_compile 113 = .ok (.iconst 1, 1) := by decide +kernel
theorem d_Mo_compile_114 : decode b_Mo_compile 114 = .ok (.if_icmp .ne 11, 3) := by decide +kernel
theorem d_Mo_compile_117 : decode b_Mo_compile 117 = .ok (.aload_n 0, 1) := by decide +kernel
theorem d_Mo_compile_118 : decode b_Mo_compile 118 = .ok (.iload_n 1, 1) := by decide +kernel
theorem d_Mo_compile_119 : decode b_Mo_compile 119 = .ok (.iconst 1, 1) := by decide +kernel
theorem d_Mo_compile_120 : decode b_Mo_compile 120 = .ok (.iload 5, 2) := by decide +kernel
theorem d_Mo_compile_122 : decode b_Mo_compile 122 = .ok (.invokevirtual 135, 3) := by decide +kernel
theorem d_Mo_compile_125 : decode b_Mo_compile 125 = .ok (.iload 4, 2) := by decide +kernel
theorem d_Mo_compile_127 : decode b_Mo_compile 127 = .ok (.iconst 2, 1) := by decide +kernel
theorem d_Mo_compile_128 : decode b_Mo_compile 128 = .ok (.if_icmp .ne 11, 3) := by decide +kernel
theorem d_Mo_compile_131 : decode b_Mo_compile 131 = .ok (.aload_n 0, 1) := by decide +kernel
theorem d_Mo_compile_132 : decode b_Mo_compile 132 = .ok (.iload_n 1, 1) := by decide +kernel
theorem d_Mo_compile_133 : decode b_Mo_compile 133 = .ok (.iconst 2, 1) := by decide +kernel
theorem d_Mo_compile_134 : decode b_Mo_compile 134 = .ok (.iload 5, 2) := by decide +kernel
theorem d_Mo_compile_136 : decode b_Mo_compile 136 = .ok (.invokevirtual 135, 3) := by decide +kernel
theorem d_Mo_compile_139 : decode b_Mo_compile 139 = .ok (.iload 4, 2) := by decide +kernel
theorem d_Mo_compile_141 : decode b_Mo_compile 141 = .ok (.bipush 7, 2) := by decide +kernel
theorem d_Mo_compile_143 : decode b_Mo_compile 143 = .ok (.if_icmp .ne 10, 3) := by decide +kernel
theorem d_Mo_compile_146 : decode b_Mo_compile 146 = .ok (.aload_n 0, 1) := by decide +kernel
theorem d_Mo_compile_147 : decode b_Mo_compile 147 = .ok (.iload_n 1, 1) := by decide +kernel
theorem d_Mo_compile_148 : decode b_Mo_compile 148 = .ok (.iconst 3, 1) := by decide +kernel
theorem d_Mo_compile_149 : decode b_Mo_compile 149 = .ok (.iconst 0, 1) := by decide +kernel
theorem d_Mo_compile_150 : decode b_Mo_compile 150 = .ok (.invokevirtual 135, 3) := by decide +kernel
theorem d_Mo_compile_153 : decode b_Mo_compile 153 = .ok (.iload 4, 2) := by decide +kernel
theorem d_Mo_compile_155 : decode b_Mo_compile 155 = .ok (.bipush 6, 2) := by decide +kernel
theorem d_Mo_compile_157 : decode b_Mo_compile 157 = .ok (.if_icmp .ne 36, 3) := by decide +kernel
theorem d_Mo_compile_160 : decode b_Mo_compile 160 = .ok (.aload_n 0, 1) := by decide +kernel
theorem d_Mo_compile_161 : decode b_Mo_compile 161 = .ok (.bipush 6, 2) := by decide +kernel
theorem d_Mo_compile_163 : decode b_Mo_compile 163 = .ok (.aload_n 0, 1) := by decide +kernel
theorem d_Mo_compile_164 : decode b_Mo_compile 164 = .ok (.iload_n 1, 1) := by decide +kernel
theorem d_Mo_compile_165 : decode b_Mo_compile 165 = .ok (.bipush (-2), 2) := by decide +kernel
theorem d_Mo_compile_167 : decode b_Mo_compile 167 = .ok (.aload_n 0, 1) := by decide +kernel
theorem d_Mo_compile_168 : decode b_Mo_compile 168 = .ok (.getfield 65, 3) := by decide +kernel
theorem d_Mo_compile_171 : decode b_Mo_compile 171 = .ok (.aload_n 0, 1) := by decide +kernel
theorem d_Mo_compile_172 : decode b_Mo_compile 172 = .ok (.getfield 116, 3) := by decide +kernel
theorem d_Mo_compile_175 : decode b_Mo_compile 175 = .ok (.iaload, 1) := by decide +kernel
theorem d_Mo_compile_176 : decode b_Mo_compile 176 = .ok (.invokevirtual 127, 3) := by decide +kernel
theorem d_Mo_compile_179 : decode b_Mo_compile 179 = .ok (.invokevirtual 131, 3) := by decide +kernel
theorem d_Mo_compile_182 : decode b_Mo_compile 182 = .ok (.aload_n 0, 1) := by decide +kernel
theorem d_Mo_compile_183 : decode b_Mo_compile 183 = .ok (.getfield 77, 3) := by decide +kernel
theorem d_Mo_compile_186 : decode b_Mo_compile 186 = .ok (.aload_n 0, 1) := by decide +kernel
theorem d_Mo_compile_187 : decode b_Mo_compile 187 = .ok (.getfield 116, 3) := by decide +kernel
theorem d_Mo_compile_190 : decode b_Mo_compile 190 = .ok (.iload 5, 2) := by decide +kernel
theorem d_Mo_compile_192 : decode b_Mo_compile 192 = .ok (.iastore, 1) := by decide +kernel
theorem d_Mo_compile_193 : decode b_Mo_compile 193 = .ok (.iload 4, 2) := by decide +kernel
theorem d_Mo_compile_195 : decode b_Mo_compile 195 = .ok (.iconst 3, 1) := by decide +kernel
theorem d_Mo_compile_196 : decode b_Mo_compile 196 = .ok (.if_icmp .ne 9, 3) := by decide +kernel
theorem d_Mo_compile_199 : decode b_Mo_compile 199 = .ok (.aload_n 0, 1) := by decide +kernel
theorem d_Mo_compile_200 : decode b_Mo_compile 200 = .ok (.iload_n 1, 1) := by decide +kernel
end
section
theorem d_Mo_compile_201 : decode b_Mo_compile 201 = .ok (.iload_n 3, 1) := by decide +kernel
theorem d_Mo_compile_202 : decode b_Mo_compile 202 = .ok (.invokevirtual 152, 3) := by decide +kernel
theorem d_Mo_compile_205 : decode b_Mo_compile 205 = .ok (.iload 4, 2) := by decide +kernel
theorem d_Mo_compile_207 : decode b_Mo_compile 207 = .ok (.iconst 4, 1) := by decide +kernel
theorem d_Mo_compile_208 : decode b_Mo_compile 208 = .ok (.if_icmp .ne 8, 3) := by decide +kernel
theorem d_Mo_compile_211 : decode b_Mo_compile 211 = .ok (.aload_n 0, 1) := by decide +kernel
theorem d_Mo_compile_212 : decode b_Mo_compile 212 = .ok (.iload_n 1, 1) := by decide +kernel
theorem d_Mo_compile_213 : decode b_Mo_compile 213 = .ok (.invokevirtual 155, 3) := by decide +kernel
theorem d_Mo_compile_216 : decode b_Mo_compile 216 = .ok (.iload 4, 2) := by decide +kernel
theorem d_Mo_compile_218 : decode b_Mo_compile 218 = .ok (.iconst 5, 1) := by decide +kernel
theorem d_Mo_compile_219 : decode b_Mo_compile 219 = .ok (.if_icmp .ne 8, 3) := by decide +kernel
theorem d_Mo_compile_222 : decode b_Mo_compile 222 = .ok (.aload_n 0, 1) := by decide +kernel
theorem d_Mo_compile_223 : decode b_Mo_compile 223 = .ok (.iload_n 1, 1) := by decide +kernel
theorem d_Mo_compile_224 : decode b_Mo_compile 224 = .ok (.invokevirtual 158, 3) := by decide +kernel
theorem d_Mo_compile_227 : decode b_Mo_compile 227 = .ok (.iinc 3 1, 3) := by decide +kernel
theorem d_Mo_compile_230 : decode b_Mo_compile 230 = .ok (.goto (-168), 3) := by decide +kernel
theorem d_Mo_compile_233 : decode b_Mo_compile 233 = .ok (.aload_n 0, 1) := by decide +kernel
theorem d_Mo_compile_234 : decode b_Mo_compile 234 = .ok (.iload_n 1, 1) := by decide +kernel
theorem d_Mo_compile_235 : decode b_Mo_compile 235 = .ok (.bipush 8, 2) := by decide +kernel
theorem d_Mo_compile_237 : decode b_Mo_compile 237 = .ok (.iconst 0, 1) := by decide +kernel
theorem d_Mo_compile_238 : decode b_Mo_compile 238 = .ok (.invokevirtual 135, 3) := by decide +kernel
theorem d_Mo_compile_241 : decode b_Mo_compile 241 = .ok (.aload_n 0, 1) := by decide +kernel
theorem d_Mo_compile_242 : decode b_Mo_compile 242 = .ok (.iload_n 1, 1) := by decide +kernel
theorem d_Mo_compile_243 : decode b_Mo_compile 243 = .ok (.invokevirtual 161, 3) := by decide +kernel
theorem d_Mo_compile_246 : decode b_Mo_compile 246 = .ok (.aload_n 0, 1) := by decide +kernel
theorem d_Mo_compile_247 : decode b_Mo_compile 247 = .ok (.getfield 26, 3) := by decide +kernel
theorem d_Mo_compile_250 : decode b_Mo_compile 250 = .ok (.iload_n 1, 1) := by decide +kernel
theorem d_Mo_compile_251 : decode b_Mo_compile 251 = .ok (.iaload, 1) := by decide +kernel
theorem d_Mo_compile_252 : decode b_Mo_compile 252 = .ok (.ireturn, 1) := by decide +kernel
theorem d_Mo_wellFormed_0 : decode b_Mo_wellFormed 0 = .ok (.aload_n 0, 1) := by decide +kernel
theorem d_Mo_wellFormed_1 : decode b_Mo_wellFormed 1 = .ok (.iconst 0, 1) := by decide +kernel
theorem d_Mo_wellFormed_2 : decode b_Mo_wellFormed 2 = .ok (.putfield 116, 3) := by decide +kernel
theorem d_Mo_wellFormed_5 : decode b_Mo_wellFormed 5 = .ok (.iconst 0, 1) := by decide +kernel
theorem d_Mo_wellFormed_6 : decode b_Mo_wellFormed 6 = .ok (.istore_n 2, 1) := by decide +kernel
theorem d_Mo_wellFormed_7 : decode b_Mo_wellFormed 7 = .ok (.iload_n 2, 1) := by decide +kernel
theorem d_Mo_wellFormed_8 : decode b_Mo_wellFormed 8 = .ok (.aload_n 0, 1) := by decide +kernel
theorem d_Mo_wellFormed_9 : decode b_Mo_wellFormed 9 = .ok (.getfield 17, 3) := by decide +kernel
theorem d_Mo_wellFormed_12 : decode b_Mo_wellFormed 12 = .ok (.iload_n 1, 1) := by decide +kernel
theorem d_Mo_wellFormed_13 : decode b_Mo_wellFormed 13 = .ok (.iaload, 1) := by decide +kernel
theorem d_Mo_wellFormed_14 : decode b_Mo_wellFormed 14 = .ok (.if_icmp .ge 29, 3) := by decide +kernel
theorem d_Mo_wellFormed_17 : decode b_Mo_wellFormed 17 = .ok (.aload_n 0, 1) := by decide +kernel
theorem d_Mo_wellFormed_18 : decode b_Mo_wellFormed 18 = .ok (.aload_n 0, 1) := by decide +kernel
theorem d_Mo_wellFormed_19 : decode b_Mo_wellFormed 19 = .ok (.getfield 20, 3) := by decide +kernel
theorem d_Mo_wellFormed_22 : decode b_Mo_wellFormed 22 = .ok (.bipush 20, 2) := by decide +kernel
theorem d_Mo_wellFormed_24 : decode b_Mo_wellFormed 24 = .ok (.iload_n 1, 1) := by decide +kernel
theorem d_Mo_wellFormed_25 : decode b_Mo_wellFormed 25 = .ok (.imul, 1) := by decide +kernel
theorem d_Mo_wellFormed_26 : decode b_Mo_wellFormed 26 = .ok (.iload_n 2, 1) := by decide +kernel
theorem d_Mo_wellFormed_27 : decode b_Mo_wellFormed 27 = .ok (.iadd, 1) := by decide +kernel
theorem d_Mo_wellFormed_28 : decode b_Mo_wellFormed 28 = .ok (.iaload, 1) := by decide +kernel
theorem d_Mo_wellFormed_29 : decode b_Mo_wellFormed 29 = .ok (.invokevirtual 123, 3) := by decide +kernel
theorem d_Mo_wellFormed_32 : decode b_Mo_wellFormed 32 = .ok (.ifCond .ne 5, 3) := by decide +kernel
theorem d_Mo_wellFormed_35 : decode b_Mo_wellFormed 35 = .ok (.iconst 0, 1) := by decide +kernel
theorem d_Mo_wellFormed_36 : decode b_Mo_wellFormed 36 = .ok (.ireturn, 1) := by decide +kernel
theorem d_Mo_wellFormed_37 : decode b_Mo_wellFormed 37 = .ok (.iinc 2 1, 3) := by decide +kernel
theorem d_Mo_wellFormed_40 : decode b_Mo_wellFormed 40 = .ok (.goto (-33), 3) := by decide +kernel
theorem d_Mo_wellFormed_43 : decode b_Mo_wellFormed 43 = .ok (.aload_n 0, 1) := by decide +kernel
theorem d_Mo_wellFormed_44 : decode b_Mo_wellFormed 44 = .ok (.getfield 116, 3) := by decide +kernel
theorem d_Mo_wellFormed_47 : decode b_Mo_wellFormed 47 = .ok (.ifCond .ne 7, 3) := by decide +kernel
theorem d_Mo_wellFormed_50 : decode b_Mo_wellFormed 50 = .ok (.iconst 1, 1) := by decide +kernel
theorem d_Mo_wellFormed_51 : decode b_Mo_wellFormed 51 = .ok (.goto 4, 3) := by decide +kernel
theorem d_Mo_wellFormed_54 : decode b_Mo_wellFormed 54 = .ok (.iconst 0, 1) := by decide +kernel
theorem d_Mo_wellFormed_55 : decode b_Mo_wellFormed 55 = .ok (.ireturn, 1) := by decide +kernel
theorem d_Mo_mayStand_0 : decode b_Mo_mayStand 0 = .ok (.iload_n 1, 1) := by decide +kernel
theorem d_Mo_mayStand_1 : decode b_Mo_mayStand 1 = .ok (.iconst 3, 1) := by decide +kernel
theorem d_Mo_mayStand_2 : decode b_Mo_mayStand 2 = .ok (.if_icmp .eq 9, 3) := by decide +kernel
theorem d_Mo_mayStand_5 : decode b_Mo_mayStand 5 = .ok (.iload_n 1, 1) := by decide +kernel
theorem d_Mo_mayStand_6 : decode b_Mo_mayStand 6 = .ok (.bipush 6, 2) := by decide +kernel
theorem d_Mo_mayStand_8 : decode b_Mo_mayStand 8 = .ok (.if_icmp .ne 35, 3) := by decide +kernel
theorem d_Mo_mayStand_11 : decode b_Mo_mayStand 11 = .ok (.aload_n 0, 1) := by decide +kernel
theorem d_Mo_mayStand_12 : decode b_Mo_mayStand 12 = .ok (.getfield 116, 3) := by decide +kernel
theorem d_Mo_mayStand_15 : decode b_Mo_mayStand 15 = .ok (.iconst 5, 1) := by decide +kernel
theorem d_Mo_mayStand_16 : decode b_Mo_mayStand 16 = .ok (.if_icmp .ne 5, 3) := by decide +kernel
theorem d_Mo_mayStand_19 : decode b_Mo_mayStand 19 = .ok (.iconst 0, 1) := by decide +kernel
theorem d_Mo_mayStand_20 : decode b_Mo_mayStand 20 = .ok (.ireturn, 1) := by decide +kernel
theorem d_Mo_mayStand_21 : decode b_Mo_mayStand 21 = .ok (.aload_n 0, 1) := by decide +kernel
theorem d_Mo_mayStand_22 : decode b_Mo_mayStand 22 = .ok (.dup, 1) := by decide +kernel
theorem d_Mo_mayStand_23 : decode b_Mo_mayStand 23 = .ok (.getfield 116, 3) := by decide +kernel
theorem d_Mo_mayStand_26 : decode b_Mo_mayStand 26 = .ok (.iconst 1, 1) := by decide +kernel
theorem d_Mo_mayStand_27 : decode b_Mo_mayStand 27 = .ok (.iadd, 1) := by decide +kernel
theorem d_Mo_mayStand_28 : decode b_Mo_mayStand 28 = .ok (.putfield 116, 3) := by decide +kernel
theorem d_Mo_mayStand_31 : decode b_Mo_mayStand 31 = .ok (.aload_n 0, 1) := by decide +kernel
theorem d_Mo_mayStand_32 : decode b_Mo_mayStand 32 = .ok (.getfield 62, 3) := by decide +kernel
theorem d_Mo_mayStand_35 : decode b_Mo_mayStand 35 = .ok (.aload_n 0, 1) := by decide +kernel
theorem d_Mo_mayStand_36 : decode b_Mo_mayStand 36 = .ok (.getfield 116, 3) := by decide +kernel
theorem d_Mo_mayStand_39 : decode b_Mo_mayStand 39 = .ok (.iload_n 1, 1) := by decide +kernel
theorem d_Mo_mayStand_40 : decode b_Mo_mayStand 40 = .ok (.iastore, 1) := by decide +kernel
theorem d_Mo_mayStand_41 : decode b_Mo_mayStand 41 = .ok (.iconst 1, 1) := by decide +kernel
theorem d_Mo_mayStand_42 : decode b_Mo_mayStand 42 = .ok (.ireturn, 1) := by decide +kernel
theorem d_Mo_mayStand_43 : decode b_Mo_mayStand 43 = .ok (.iload_n 1, 1) := by decide +kernel
theorem d_Mo_mayStand_44 : decode b_Mo_mayStand 44 = .ok (.iconst 4, 1) := by decide +kernel
theorem d_Mo_mayStand_45 : decode b_Mo_mayStand 45 = .ok (.if_icmp .ne 38, 3) := by decide +kernel
theorem d_Mo_mayStand_48 : decode b_Mo_mayStand 48 = .ok (.aload_n 0, 1) := by decide +kernel
theorem d_Mo_mayStand_49 : decode b_Mo_mayStand 49 = .ok (.getfield 116, 3) := by decide +kernel
theorem d_Mo_mayStand_52 : decode b_Mo_mayStand 52 = .ok (.ifCond .eq 17, 3) := by decide +kernel
theorem d_Mo_mayStand_55 : decode b_Mo_mayStand 55 = .ok (.aload_n 0, 1) := by decide +kernel
theorem d_Mo_mayStand_56 : decode b_Mo_mayStand 56 = .ok (.getfield 62, 3) := by decide +kernel
theorem d_Mo_mayStand_59 : decode b_Mo_mayStand 59 = .ok (.aload_n 0, 1) := by decide +kernel
theorem d_Mo_mayStand_60 : decode b_Mo_mayStand 60 = .ok (.getfield 116, 3) := by decide +kernel
theorem d_Mo_mayStand_63 : decode b_Mo_mayStand 63 = .ok (.iaload, 1) := by decide +kernel
theorem d_Mo_mayStand_64 : decode b_Mo_mayStand 64 = .ok (.bipush 6, 2) := by decide +kernel
theorem d_Mo_mayStand_66 : decode b_Mo_mayStand 66 = .ok (.if_icmp .ne 5, 3) := by decide +kernel
theorem d_Mo_mayStand_69 : decode b_Mo_mayStand 69 = .ok (.iconst 0, 1) := by decide +kernel
theorem d_Mo_mayStand_70 : decode b_Mo_mayStand 70 = .ok (.ireturn, 1) := by decide +kernel
theorem d_Mo_mayStand_71 : decode b_Mo_mayStand 71 = .ok (.aload_n 0, 1) := by decide +kernel
theorem d_Mo_mayStand_72 : decode b_Mo_mayStand 72 = .ok (.getfield 62, 3) := by decide +kernel
theorem d_Mo_mayStand_75 : decode b_Mo_mayStand 75 = .ok (.aload_n 0, 1) := by decide +kernel
theorem d_Mo_mayStand_76 : decode b_Mo_mayStand 76 = .ok (.getfield 116, 3) := by decide +kernel
theorem d_Mo_mayStand_79 : decode b_Mo_mayStand 79 = .ok (.iconst 4, 1) := by decide +kernel
theorem d_Mo_mayStand_80 : decode b_Mo_mayStand 80 = .ok (.iastore, 1) := by decide +kernel
theorem d_Mo_mayStand_81 : decode b_Mo_mayStand 81 = .ok (.iconst 1, 1) := by decide +kernel
theorem d_Mo_mayStand_82 : decode b_Mo_mayStand 82 = .ok (.ireturn, 1) := by decide +kernel
theorem d_Mo_mayStand_83 : decode b_Mo_mayStand 83 = .ok (.iload_n 1, 1) := by decide +kernel
theorem d_Mo_mayStand_84 : decode b_Mo_mayStand 84 = .ok (.iconst 5, 1) := by decide +kernel
theorem d_Mo_mayStand_85 : decode b_Mo_mayStand 85 = .ok (.if_icmp .ne 37, 3) := by decide +kernel
theorem d_Mo_mayStand_88 : decode b_Mo_mayStand 88 = .ok (.aload_n 0, 1) := by decide +kernel
theorem d_Mo_mayStand_89 : decode b_Mo_mayStand 89 = .ok (.getfield 116, 3) := by decide +kernel
theorem d_Mo_mayStand_92 : decode b_Mo_mayStand 92 = .ok (.ifCond .eq 16, 3) := by decide +kernel
theorem d_Mo_mayStand_95 : decode b_Mo_mayStand 95 = .ok (.aload_n 0, 1) := by decide +kernel
theorem d_Mo_mayStand_96 : decode b_Mo_mayStand 96 = .ok (.getfield 62, 3) := by decide +kernel
theorem d_Mo_mayStand_99 : decode b_Mo_mayStand 99 = .ok (.aload_n 0, 1) := by decide +kernel
theorem d_Mo_mayStand_100 : decode b_Mo_mayStand 100 = .ok (.getfield 116, 3) := by decide +kernel
theorem d_Mo_mayStand_103 : decode b_Mo_mayStand 103 = .ok (.iaload, 1) := by decide +kernel
theorem d_Mo_mayStand_104 : decode b_Mo_mayStand 104 = .ok (.iconst 3, 1) := by decide +kernel
theorem d_Mo_mayStand_105 : decode b_Mo_mayStand 105 = .ok (.if_icmp .ne 5, 3) := by decide +kernel
theorem d_Mo_mayStand_108 : decode b_Mo_mayStand 108 = .ok (.iconst 0, 1) := by decide +kernel
theorem d_Mo_mayStand_109 : decode b_Mo_mayStand 109 = .ok (.ireturn, 1) := by decide +kernel
theorem d_Mo_mayStand_110 : decode b_Mo_mayStand 110 = .ok (.aload_n 0, 1) := by decide +kernel
theorem d_Mo_mayStand_111 : decode b_Mo_mayStand 111 = .ok (.dup, 1) := by decide +kernel
theorem d_Mo_mayStand_112 : decode b_Mo_mayStand 112 = .ok (.getfield 116, 3) := by decide +kernel
theorem d_Mo_mayStand_115 : decode b_Mo_mayStand 115 = .ok (.iconst 1, 1) := by decide +kernel
theorem d_Mo_mayStand_116 : decode b_Mo_mayStand 116 = .ok (.isub, 1) := by decide +kernel
theorem d_Mo_mayStand_117 : decode b_Mo_mayStand 117 = .ok (.putfield 116, 3) := by decide +kernel
theorem d_Mo_mayStand_120 : decode b_Mo_mayStand 120 = .ok (.iconst 1, 1) := by decide +kernel
theorem d_Mo_mayStand_121 : decode b_Mo_mayStand 121 = .ok (.ireturn, 1) := by decide +kernel
theorem d_Mo_mayStand_122 : decode b_Mo_mayStand 122 = .ok (.iload_n 1, 1) := by decide +kernel
theorem d_Mo_mayStand_123 : decode b_Mo_mayStand 123 = .ok (.bipush 7, 2) := by decide +kernel
theorem d_Mo_mayStand_125 : decode b_Mo_mayStand 125 = .ok (.if_icmp .ne 10, 3) := by decide +kernel
theorem d_Mo_mayStand_128 : decode b_Mo_mayStand 128 = .ok (.aload_n 0, 1) := by decide +kernel
theorem d_Mo_mayStand_129 : decode b_Mo_mayStand 129 = .ok (.invokevirtual 119, 3) := by decide +kernel
theorem d_Mo_mayStand_132 : decode b_Mo_mayStand 132 = .ok (.ifCond .eq 7, 3) := by decide +kernel
theorem d_Mo_mayStand_135 : decode b_Mo_mayStand 135 = .ok (.iconst 1, 1) := by decide +kernel
theorem d_Mo_mayStand_136 : decode b_Mo_mayStand 136 = .ok (.goto 4, 3) := by decide +kernel
theorem d_Mo_mayStand_139 : decode b_Mo_mayStand 139 = .ok (.iconst 0, 1) := by decide +kernel
theorem d_Mo_mayStand_140 : decode b_Mo_mayStand 140 = .ok (.ireturn, 1) := by decide +kernel
theorem d_Mo_inCatch_0 : decode b_Mo_inCatch 0 = .ok (.iconst 0, 1) := by decide +kernel
theorem d_Mo_inCatch_1 : decode b_Mo_inCatch 1 = .ok (.istore_n 1, 1) := by decide +kernel
theorem d_Mo_inCatch_2 : decode b_Mo_inCatch 2 = .ok (.iconst 1, 1) := by decide +kernel
theorem d_Mo_inCatch_3 : decode b_Mo_inCatch 3 = .ok (.istore_n 2, 1) := by decide +kernel
theorem d_Mo_inCatch_4 : decode b_Mo_inCatch 4 = .ok (.iload_n 2, 1) := by decide +kernel
theorem d_Mo_inCatch_5 : decode b_Mo_inCatch 5 = .ok (.aload_n 0, 1) := by decide +kernel
theorem d_Mo_inCatch_6 : decode b_Mo_inCatch 6 = .ok (.getfield 116, 3) := by decide +kernel
theorem d_Mo_inCatch_9 : decode b_Mo_inCatch 9 = .ok (.if_icmp .gt 29, 3) := by decide +kernel
theorem d_Mo_inCatch_12 : decode b_Mo_inCatch 12 = .ok (.iload_n 1, 1) := by decide +kernel
theorem d_Mo_inCatch_13 : decode b_Mo_inCatch 13 = .ok (.ifCond .ne 13, 3) := by decide +kernel
theorem d_Mo_inCatch_16 : decode b_Mo_inCatch 16 = .ok (.aload_n 0, 1) := by decide +kernel
theorem d_Mo_inCatch_17 : decode b_Mo_inCatch 17 = .ok (.getfield 62, 3) := by decide +kernel
theorem d_Mo_inCatch_20 : decode b_Mo_inCatch 20 = .ok (.iload_n 2, 1) := by decide +kernel
theorem d_Mo_inCatch_21 : decode b_Mo_inCatch 21 = .ok (.iaload, 1) := by decide +kernel
theorem d_Mo_inCatch_22 : decode b_Mo_inCatch 22 = .ok (.iconst 4, 1) := by decide +kernel
theorem d_Mo_inCatch_23 : decode b_Mo_inCatch 23 = .ok (.if_icmp .ne 7, 3) := by decide +kernel
theorem d_Mo_inCatch_26 : decode b_Mo_inCatch 26 = .ok (.iconst 1, 1) := by decide +kernel
theorem d_Mo_inCatch_27 : decode b_Mo_inCatch 27 = .ok (.goto 4, 3) := by decide +kernel
theorem d_Mo_inCatch_30 : decode b_Mo_inCatch 30 = .ok (.iconst 0, 1) := by decide +kernel
theorem d_Mo_inCatch_31 : decode b_Mo_inCatch 31 = .ok (.istore_n 1, 1) := by decide +kernel
theorem d_Mo_inCatch_32 : decode b_Mo_inCatch 32 = .ok (.iinc 2 1, 3) := by decide +kernel
theorem d_Mo_inCatch_35 : decode b_Mo_inCatch 35 = .ok (.goto (-31), 3) := by decide +kernel
theorem d_Mo_inCatch_38 : decode b_Mo_inCatch 38 = .ok (.iload_n 1, 1) := by decide +kernel
theorem d_Mo_inCatch_39 : decode b_Mo_inCatch 39 = .ok (.ireturn, 1) := by decide +kernel
theorem d_Mo_emit_0 : decode b_Mo_emit 0 = .ok (.sipush 128, 3) := by decide +kernel
theorem d_Mo_emit_3 : decode b_Mo_emit 3 = .ok (.iload_n 1, 1) := by decide +kernel
theorem d_Mo_emit_4 : decode b_Mo_emit 4 = .ok (.imul, 1) := by decide +kernel
theorem d_Mo_emit_5 : decode b_Mo_emit 5 = .ok (.aload_n 0, 1) := by decide +kernel
theorem d_Mo_emit_6 : decode b_Mo_emit 6 = .ok (.getfield 26, 3) := by decide +kernel
theorem d_Mo_emit_9 : decode b_Mo_emit 9 = .ok (.iload_n 1, 1) := by decide +kernel
theorem d_Mo_emit_10 : decode b_Mo_emit 10 = .ok (.iaload, 1) := by decide +kernel
theorem d_Mo_emit_11 : decode b_Mo_emit 11 = .ok (.iadd, 1) := by decide +kernel
theorem d_Mo_emit_12 : decode b_Mo_emit 12 = .ok (.istore 4, 2) := by decide +kernel
theorem d_Mo_emit_14 : decode b_Mo_emit 14 = .ok (.aload_n 0, 1) := by decide +kernel
theorem d_Mo_emit_15 : decode b_Mo_emit 15 = .ok (.getfield 29, 3) := by decide +kernel
theorem d_Mo_emit_18 : decode b_Mo_emit 18 = .ok (.iload 4, 2) := by decide +kernel
theorem d_Mo_emit_20 : decode b_Mo_emit 20 = .ok (.iload_n 2, 1) := by decide +kernel
theorem d_Mo_emit_21 : decode b_Mo_emit 21 = .ok (.iastore, 1) := by decide +kernel
theorem d_Mo_emit_22 : decode b_Mo_emit 22 = .ok (.aload_n 0, 1) := by decide +kernel
theorem d_Mo_emit_23 : decode b_Mo_emit 23 = .ok (.getfield 32, 3) := by decide +kernel
theorem d_Mo_emit_26 : decode b_Mo_emit 26 = .ok (.iload 4, 2) := by decide +kernel
theorem d_Mo_emit_28 : decode b_Mo_emit 28 = .ok (.iload_n 3, 1) := by decide +kernel
theorem d_Mo_emit_29 : decode b_Mo_emit 29 = .ok (.iastore, 1) := by decide +kernel
theorem d_Mo_emit_30 : decode b_Mo_emit 30 = .ok (.aload_n 0, 1) := by decide +kernel
theorem d_Mo_emit_31 : decode b_Mo_emit 31 = .ok (.getfield 35, 3) := by decide +kernel
theorem d_Mo_emit_34 : decode b_Mo_emit 34 = .ok (.iload 4, 2) := by decide +kernel
theorem d_Mo_emit_36 : decode b_Mo_emit 36 = .ok (.aload_n 0, 1) := by decide +kernel
theorem d_Mo_emit_37 : decode b_Mo_emit 37 = .ok (.getfield 65, 3) := by decide +kernel
theorem d_Mo_emit_40 : decode b_Mo_emit 40 = .ok (.aload_n 0, 1) := by decide +kernel
theorem d_Mo_emit_41 : decode b_Mo_emit 41 = .ok (.getfield 116, 3) := by decide +kernel
theorem d_Mo_emit_44 : decode b_Mo_emit 44 = .ok (.iaload, 1) := by decide +kernel
theorem d_Mo_emit_45 : decode b_Mo_emit 45 = .ok (.iastore, 1) := by decide +kernel
theorem d_Mo_emit_46 : decode b_Mo_emit 46 = .ok (.aload_n 0, 1) := by decide +kernel
theorem d_Mo_emit_47 : decode b_Mo_emit 47 = .ok (.getfield 26, 3) := by decide +kernel
theorem d_Mo_emit_50 : decode b_Mo_emit 50 = .ok (.iload_n 1, 1) := by decide +kernel
theorem d_Mo_emit_51 : decode b_Mo_emit 51 = .ok (.dup2, 1) := by decide +kernel
theorem d_Mo_emit_52 : decode b_Mo_emit 52 = .ok (.iaload, 1) := by decide +kernel
theorem d_Mo_emit_53 : decode b_Mo_emit 53 = .ok (.iconst 1, 1) := by decide +kernel
theorem d_Mo_emit_54 : decode b_Mo_emit 54 = .ok (.iadd, 1) := by decide +kernel
theorem d_Mo_emit_55 : decode b_Mo_emit 55 = .ok (.iastore, 1) := by decide +kernel
theorem d_Mo_emit_56 : decode b_Mo_emit 56 = .ok (.return_, 1) := by decide +kernel
theorem d_Mo_newAction_0 : decode b_Mo_newAction 0 = .ok (.bipush 48, 2) := by decide +kernel
theorem d_Mo_newAction_2 : decode b_Mo_newAction 2 = .ok (.iload_n 1, 1) := by decide +kernel
theorem d_Mo_newAction_3 : decode b_Mo_newAction 3 = .ok (.imul, 1) := by decide +kernel
theorem d_Mo_newAction_4 : decode b_Mo_newAction 4 = .ok (.aload_n 0, 1) := by decide +kernel
theorem d_Mo_newAction_5 : decode b_Mo_newAction 5 = .ok (.getfield 38, 3) := by decide +kernel
theorem d_Mo_newAction_8 : decode b_Mo_newAction 8 = .ok (.iload_n 1, 1) := by decide +kernel
theorem d_Mo_newAction_9 : decode b_Mo_newAction 9 = .ok (.iaload, 1) := by decide +kernel
theorem d_Mo_newAction_10 : decode b_Mo_newAction 10 = .ok (.iadd, 1) := by decide +kernel
theorem d_Mo_newAction_11 : decode b_Mo_newAction 11 = .ok (.istore 4, 2) := by decide +kernel
theorem d_Mo_newAction_13 : decode b_Mo_newAction 13 = .ok (.aload_n 0, 1) := by decide +kernel
theorem d_Mo_newAction_14 : decode b_Mo_newAction 14 = .ok (.getfield 41, 3) := by decide +kernel
theorem d_Mo_newAction_17 : decode b_Mo_newAction 17 = .ok (.iload 4, 2) := by decide +kernel
theorem d_Mo_newAction_19 : decode b_Mo_newAction 19 = .ok (.iload_n 2, 1) := by decide +kernel
theorem d_Mo_newAction_20 : decode b_Mo_newAction 20 = .ok (.iastore, 1) := by decide +kernel
theorem d_Mo_newAction_21 : decode b_Mo_newAction 21 = .ok (.aload_n 0, 1) := by decide +kernel
theorem d_Mo_newAction_22 : decode b_Mo_newAction 22 = .ok (.getfield 44, 3) := by decide +kernel
theorem d_Mo_newAction_25 : decode b_Mo_newAction 25 = .ok (.iload 4, 2) := by decide +kernel
theorem d_Mo_newAction_27 : decode b_Mo_newAction 27 = .ok (.iconst 0, 1) := by decide +kernel
theorem d_Mo_newAction_28 : decode b_Mo_newAction 28 = .ok (.iastore, 1) := by decide +kernel
theorem d_Mo_newAction_29 : decode b_Mo_newAction 29 = .ok (.aload_n 0, 1) := by decide +kernel
theorem d_Mo_newAction_30 : decode b_Mo_newAction 30 = .ok (.getfield 47, 3) := by decide +kernel
theorem d_Mo_newAction_33 : decode b_Mo_newAction 33 = .ok (.iload 4, 2) := by decide +kernel
theorem d_Mo_newAction_35 : decode b_Mo_newAction 35 = .ok (.iload_n 3, 1) := by decide +kernel
theorem d_Mo_newAction_36 : decode b_Mo_newAction 36 = .ok (.iastore, 1) := by decide +kernel
theorem d_Mo_newAction_37 : decode b_Mo_newAction 37 = .ok (.aload_n 0, 1) := by decide +kernel
theorem d_Mo_newAction_38 : decode b_Mo_newAction 38 = .ok (.getfield 38, 3) := by decide +kernel
theorem d_Mo_newAction_41 : decode b_Mo_newAction 41 = .ok (.iload_n 1, 1) := by decide +kernel
theorem d_Mo_newAction_42 : decode b_Mo_newAction 42 = .ok (.dup2, 1) := by decide +kernel
theorem d_Mo_newAction_43 : decode b_Mo_newAction 43 = .ok (.iaload, 1) := by decide +kernel
theorem d_Mo_newAction_44 : decode b_Mo_newAction 44 = .ok (.iconst 1, 1) := by decide +kernel
theorem d_Mo_newAction_45 : decode b_Mo_newAction 45 = .ok (.iadd, 1) := by decide +kernel
theorem d_Mo_newAction_46 : decode b_Mo_newAction 46 = .ok (.iastore, 1) := by decide +kernel
theorem d_Mo_newAction_47 : decode b_Mo_newAction 47 = .ok (.aload_n 0, 1) := by decide +kernel
theorem d_Mo_newAction_48 : decode b_Mo_newAction 48 = .ok (.getfield 38, 3) := by decide +kernel
theorem d_Mo_newAction_51 : decode b_Mo_newAction 51 = .ok (.iload_n 1, 1) := by decide +kernel
theorem d_Mo_newAction_52 : decode b_Mo_newAction 52 = .ok (.iaload, 1) := by decide +kernel
theorem d_Mo_newAction_53 : decode b_Mo_newAction 53 = .ok (.iconst 1, 1) := by decide +kernel
theorem d_Mo_newAction_54 : decode b_Mo_newAction 54 = .ok (.isub, 1) := by decide +kernel
theorem d_Mo_newAction_55 : decode b_Mo_newAction 55 = .ok (.ireturn, 1) := by decide +kernel
theorem d_Mo_opens_0 : decode b_Mo_opens 0 = .ok (.aload_n 0, 1) := by decide +kernel
theorem d_Mo_opens_1 : decode b_Mo_opens 1 = .ok (.getfield 68, 3) := by decide +kernel
theorem d_Mo_opens_4 : decode b_Mo_opens 4 = .ok (.aload_n 0, 1) := by decide +kernel
theorem d_Mo_opens_5 : decode b_Mo_opens 5 = .ok (.getfield 116, 3) := by decide +kernel
theorem d_Mo_opens_8 : decode b_Mo_opens 8 = .ok (.iconst 1, 1) := by decide +kernel
theorem d_Mo_opens_9 : decode b_Mo_opens 9 = .ok (.iadd, 1) := by decide +kernel
theorem d_Mo_opens_10 : decode b_Mo_opens 10 = .ok (.aload_n 0, 1) := by decide +kernel
theorem d_Mo_opens_11 : decode b_Mo_opens 11 = .ok (.getfield 65, 3) := by decide +kernel
theorem d_Mo_opens_14 : decode b_Mo_opens 14 = .ok (.aload_n 0, 1) := by decide +kernel
theorem d_Mo_opens_15 : decode b_Mo_opens 15 = .ok (.getfield 116, 3) := by decide +kernel
theorem d_Mo_opens_18 : decode b_Mo_opens 18 = .ok (.iaload, 1) := by decide +kernel
theorem d_Mo_opens_19 : decode b_Mo_opens 19 = .ok (.iastore, 1) := by decide +kernel
theorem d_Mo_opens_20 : decode b_Mo_opens 20 = .ok (.aload_n 0, 1) := by decide +kernel
theorem d_Mo_opens_21 : decode b_Mo_opens 21 = .ok (.dup, 1) := by decide +kernel
theorem d_Mo_opens_22 : decode b_Mo_opens 22 = .ok (.getfield 116, 3) := by decide +kernel
theorem d_Mo_opens_25 : decode b_Mo_opens 25 = .ok (.iconst 1, 1) := by decide +kernel
theorem d_Mo_opens_26 : decode b_Mo_opens 26 = .ok (.iadd, 1) := by decide +kernel
theorem d_Mo_opens_27 : decode b_Mo_opens 27 = .ok (.putfield 116, 3) := by decide +kernel
theorem d_Mo_opens_30 : decode b_Mo_opens 30 = .ok (.aload_n 0, 1) := by decide +kernel
theorem d_Mo_opens_31 : decode b_Mo_opens 31 = .ok (.getfield 62, 3) := by decide +kernel
theorem d_Mo_opens_34 : decode b_Mo_opens 34 = .ok (.aload_n 0, 1) := by decide +kernel
theorem d_Mo_opens_35 : decode b_Mo_opens 35 = .ok (.getfield 116, 3) := by decide +kernel
theorem d_Mo_opens_38 : decode b_Mo_opens 38 = .ok (.iload_n 1, 1) := by decide +kernel
theorem d_Mo_opens_39 : decode b_Mo_opens 39 = .ok (.iastore, 1) := by decide +kernel
theorem d_Mo_opens_40 : decode b_Mo_opens 40 = .ok (.aload_n 0, 1) := by decide +kernel
theorem d_Mo_opens_41 : decode b_Mo_opens 41 = .ok (.getfield 65, 3) := by decide +kernel
theorem d_Mo_opens_44 : decode b_Mo_opens 44 = .ok (.aload_n 0, 1) := by decide +kernel
theorem d_Mo_opens_45 : decode b_Mo_opens 45 = .ok (.getfield 116, 3) := by decide +kernel
theorem d_Mo_opens_48 : decode b_Mo_opens 48 = .ok (.iload_n 2, 1) := by decide +kernel
theorem d_Mo_opens_49 : decode b_Mo_opens 49 = .ok (.iastore, 1) := by decide +kernel
theorem d_Mo_opens_50 : decode b_Mo_opens 50 = .ok (.return_, 1) := by decide +kernel
theorem d_Mo_tries_0 : decode b_Mo_tries 0 = .ok (.aload_n 0, 1) := by decide +kernel
theorem d_Mo_tries_1 : decode b_Mo_tries 1 = .ok (.getfield 38, 3) := by decide +kernel
theorem d_Mo_tries_4 : decode b_Mo_tries 4 = .ok (.iload_n 1, 1) := by decide +kernel
theorem d_Mo_tries_5 : decode b_Mo_tries 5 = .ok (.iaload, 1) := by decide +kernel
theorem d_Mo_tries_6 : decode b_Mo_tries 6 = .ok (.istore_n 3, 1) := by decide +kernel
theorem d_Mo_tries_7 : decode b_Mo_tries 7 = .ok (.iconst 1, 1) := by decide +kernel
theorem d_Mo_tries_8 : decode b_Mo_tries 8 = .ok (.istore 4, 2) := by decide +kernel
theorem d_Mo_tries_10 : decode b_Mo_tries 10 = .ok (.iload_n 2, 1) := by decide +kernel
theorem d_Mo_tries_11 : decode b_Mo_tries 11 = .ok (.iconst 1, 1) := by decide +kernel
theorem d_Mo_tries_12 : decode b_Mo_tries 12 = .ok (.iadd, 1) := by decide +kernel
theorem d_Mo_tries_13 : decode b_Mo_tries 13 = .ok (.istore 5, 2) := by decide +kernel
theorem d_Mo_tries_15 : decode b_Mo_tries 15 = .ok (.iload 4, 2) := by decide +kernel
theorem d_Mo_tries_17 : decode b_Mo_tries 17 = .ok (.ifCond .le 94, 3) := by decide +kernel
theorem d_Mo_tries_20 : decode b_Mo_tries 20 = .ok (.aload_n 0, 1) := by decide +kernel
theorem d_Mo_tries_21 : decode b_Mo_tries 21 = .ok (.getfield 20, 3) := by decide +kernel
theorem d_Mo_tries_24 : decode b_Mo_tries 24 = .ok (.bipush 20, 2) := by decide +kernel
theorem d_Mo_tries_26 : decode b_Mo_tries 26 = .ok (.iload_n 1, 1) := by decide +kernel
theorem d_Mo_tries_27 : decode b_Mo_tries 27 = .ok (.imul, 1) := by decide +kernel
theorem d_Mo_tries_28 : decode b_Mo_tries 28 = .ok (.iload 5, 2) := by decide +kernel
theorem d_Mo_tries_30 : decode b_Mo_tries 30 = .ok (.iadd, 1) := by decide +kernel
theorem d_Mo_tries_31 : decode b_Mo_tries 31 = .ok (.iaload, 1) := by decide +kernel
theorem d_Mo_tries_32 : decode b_Mo_tries 32 = .ok (.istore 6, 2) := by decide +kernel
theorem d_Mo_tries_34 : decode b_Mo_tries 34 = .ok (.iload 4, 2) := by decide +kernel
theorem d_Mo_tries_36 : decode b_Mo_tries 36 = .ok (.iload 6, 2) := by decide +kernel
theorem d_Mo_tries_38 : decode b_Mo_tries 38 = .ok (.iconst 3, 1) := by decide +kernel
theorem d_Mo_tries_39 : decode b_Mo_tries 39 = .ok (.if_icmp .eq 10, 3) := by decide +kernel
theorem d_Mo_tries_42 : decode b_Mo_tries 42 = .ok (.iload 6, 2) := by decide +kernel
theorem d_Mo_tries_44 : decode b_Mo_tries 44 = .ok (.bipush 6, 2) := by decide +kernel
theorem d_Mo_tries_46 : decode b_Mo_tries 46 = .ok (.if_icmp .ne 7, 3) := by decide +kernel
theorem d_Mo_tries_49 : decode b_Mo_tries 49 = .ok (.iconst 1, 1) := by decide +kernel
theorem d_Mo_tries_50 : decode b_Mo_tries 50 = .ok (.goto 14, 3) := by decide +kernel
theorem d_Mo_tries_53 : decode b_Mo_tries 53 = .ok (.iload 6, 2) := by decide +kernel
theorem d_Mo_tries_55 : decode b_Mo_tries 55 = .ok (.iconst 5, 1) := by decide +kernel
theorem d_Mo_tries_56 : decode b_Mo_tries 56 = .ok (.if_icmp .ne 7, 3) := by decide +kernel
theorem d_Mo_tries_59 : decode b_Mo_tries 59 = .ok (.iconst (-1), 1) := by decide +kernel
theorem d_Mo_tries_60 : decode b_Mo_tries 60 = .ok (.goto 4, 3) := by decide +kernel
theorem d_Mo_tries_63 : decode b_Mo_tries 63 = .ok (.iconst 0, 1) := by decide +kernel
theorem d_Mo_tries_64 : decode b_Mo_tries 64 = .ok (.iadd, 1) := by decide +kernel
theorem d_Mo_tries_65 : decode b_Mo_tries 65 = .ok (.istore 4, 2) := by decide +kernel
theorem d_Mo_tries_67 : decode b_Mo_tries 67 = .ok (.iload 6, 2) := by decide +kernel
theorem d_Mo_tries_69 : decode b_Mo_tries 69 = .ok (.iconst 4, 1) := by decide +kernel
theorem d_Mo_tries_70 : decode b_Mo_tries 70 = .ok (.if_icmp .ne 35, 3) := by decide +kernel
theorem d_Mo_tries_73 : decode b_Mo_tries 73 = .ok (.iload 4, 2) := by decide +kernel
theorem d_Mo_tries_75 : decode b_Mo_tries 75 = .ok (.iconst 1, 1) := by decide +kernel
theorem d_Mo_tries_76 : decode b_Mo_tries 76 = .ok (.if_icmp .ne 29, 3) := by decide +kernel
theorem d_Mo_tries_79 : decode b_Mo_tries 79 = .ok (.aload_n 0, 1) := by decide +kernel
theorem d_Mo_tries_80 : decode b_Mo_tries 80 = .ok (.iload_n 1, 1) := by decide +kernel
theorem d_Mo_tries_81 : decode b_Mo_tries 81 = .ok (.aload_n 0, 1) := by decide +kernel
theorem d_Mo_tries_82 : decode b_Mo_tries 82 = .ok (.getfield 23, 3) := by decide +kernel
theorem d_Mo_tries_85 : decode b_Mo_tries 85 = .ok (.bipush 20, 2) := by decide +kernel
theorem d_Mo_tries_87 : decode b_Mo_tries 87 = .ok (.iload_n 1, 1) := by decide +kernel
theorem d_Mo_tries_88 : decode b_Mo_tries 88 = .ok (.imul, 1) := by decide +kernel
theorem d_Mo_tries_89 : decode b_Mo_tries 89 = .ok (.iload 5, 2) := by decide +kernel
theorem d_Mo_tries_91 : decode b_Mo_tries 91 = .ok (.iadd, 1) := by decide +kernel
theorem d_Mo_tries_92 : decode b_Mo_tries 92 = .ok (.iaload, 1) := by decide +kernel
theorem d_Mo_tries_93 : decode b_Mo_tries 93 = .ok (.aload_n 0, 1) := by decide +kernel
theorem d_Mo_tries_94 : decode b_Mo_tries 94 = .ok (.getfield 38, 3) := by decide +kernel
theorem d_Mo_tries_97 : decode b_Mo_tries 97 = .ok (.iload_n 1, 1) := by decide +kernel
theorem d_Mo_tries_98 : decode b_Mo_tries 98 = .ok (.iaload, 1) := by decide +kernel
theorem d_Mo_tries_99 : decode b_Mo_tries 99 = .ok (.iconst 1, 1) := by decide +kernel
theorem d_Mo_tries_100 : decode b_Mo_tries 100 = .ok (.iadd, 1) := by decide +kernel
theorem d_Mo_tries_101 : decode b_Mo_tries 101 = .ok (.invokevirtual 127, 3) := by decide +kernel
theorem d_Mo_tries_104 : decode b_Mo_tries 104 = .ok (.pop, 1) := by decide +kernel
theorem d_Mo_tries_105 : decode b_Mo_tries 105 = .ok (.iinc 5 1, 3) := by decide +kernel
theorem d_Mo_tries_108 : decode b_Mo_tries 108 = .ok (.goto (-93), 3) := by decide +kernel
theorem d_Mo_tries_111 : decode b_Mo_tries 111 = .ok (.aload_n 0, 1) := by decide +kernel
theorem d_Mo_tries_112 : decode b_Mo_tries 112 = .ok (.getfield 47, 3) := by decide +kernel
theorem d_Mo_tries_115 : decode b_Mo_tries 115 = .ok (.bipush 48, 2) := by decide +kernel
theorem d_Mo_tries_117 : decode b_Mo_tries 117 = .ok (.iload_n 1, 1) := by decide +kernel
theorem d_Mo_tries_118 : decode b_Mo_tries 118 = .ok (.imul, 1) := by decide +kernel
theorem d_Mo_tries_119 : decode b_Mo_tries 119 = .ok (.aload_n 0, 1) := by decide +kernel
theorem d_Mo_tries_120 : decode b_Mo_tries 120 = .ok (.getfield 38, 3) := by decide +kernel
theorem d_Mo_tries_123 : decode b_Mo_tries 123 = .ok (.iload_n 1, 1) := by decide +kernel
theorem d_Mo_tries_124 : decode b_Mo_tries 124 = .ok (.iaload, 1) := by decide +kernel
theorem d_Mo_tries_125 : decode b_Mo_tries 125 = .ok (.iadd, 1) := by decide +kernel
theorem d_Mo_tries_126 : decode b_Mo_tries 126 = .ok (.iconst 1, 1) := by decide +kernel
theorem d_Mo_tries_127 : decode b_Mo_tries 127 = .ok (.isub, 1) := by decide +kernel
theorem d_Mo_tries_128 : decode b_Mo_tries 128 = .ok (.aload_n 0, 1) := by decide +kernel
theorem d_Mo_tries_129 : decode b_Mo_tries 129 = .ok (.getfield 65, 3) := by decide +kernel
theorem d_Mo_tries_132 : decode b_Mo_tries 132 = .ok (.aload_n 0, 1) := by decide +kernel
theorem d_Mo_tries_133 : decode b_Mo_tries 133 = .ok (.getfield 116, 3) := by decide +kernel
theorem d_Mo_tries_136 : decode b_Mo_tries 136 = .ok (.iaload, 1) := by decide +kernel
theorem d_Mo_tries_137 : decode b_Mo_tries 137 = .ok (.iastore, 1) := by decide +kernel
theorem d_Mo_tries_138 : decode b_Mo_tries 138 = .ok (.aload_n 0, 1) := by decide +kernel
theorem d_Mo_tries_139 : decode b_Mo_tries 139 = .ok (.iconst 3, 1) := by decide +kernel
theorem d_Mo_tries_140 : decode b_Mo_tries 140 = .ok (.iload_n 3, 1) := by decide +kernel
theorem d_Mo_tries_141 : decode b_Mo_tries 141 = .ok (.invokevirtual 131, 3) := by decide +kernel
theorem d_Mo_tries_144 : decode b_Mo_tries 144 = .ok (.aload_n 0, 1) := by decide +kernel
theorem d_Mo_tries_145 : decode b_Mo_tries 145 = .ok (.getfield 71, 3) := by decide +kernel
theorem d_Mo_tries_148 : decode b_Mo_tries 148 = .ok (.aload_n 0, 1) := by decide +kernel
theorem d_Mo_tries_149 : decode b_Mo_tries 149 = .ok (.getfield 116, 3) := by decide +kernel
theorem d_Mo_tries_152 : decode b_Mo_tries 152 = .ok (.iload_n 3, 1) := by decide +kernel
theorem d_Mo_tries_153 : decode b_Mo_tries 153 = .ok (.iastore, 1) := by decide +kernel
theorem d_Mo_tries_154 : decode b_Mo_tries 154 = .ok (.return_, 1) := by decide +kernel
theorem d_Mo_catches_0 : decode b_Mo_catches 0 = .ok (.aload_n 0, 1) := by decide +kernel
theorem d_Mo_catches_1 : decode b_Mo_catches 1 = .ok (.getfield 62, 3) := by decide +kernel
theorem d_Mo_catches_4 : decode b_Mo_catches 4 = .ok (.aload_n 0, 1) := by decide +kernel
theorem d_Mo_catches_5 : decode b_Mo_catches 5 = .ok (.getfield 116, 3) := by decide +kernel
theorem d_Mo_catches_8 : decode b_Mo_catches 8 = .ok (.iaload, 1) := by decide +kernel
theorem d_Mo_catches_9 : decode b_Mo_catches 9 = .ok (.iconst 3, 1) := by decide +kernel
theorem d_Mo_catches_10 : decode b_Mo_catches 10 = .ok (.if_icmp .ne 17, 3) := by decide +kernel
theorem d_Mo_catches_13 : decode b_Mo_catches 13 = .ok (.aload_n 0, 1) := by decide +kernel
theorem d_Mo_catches_14 : decode b_Mo_catches 14 = .ok (.iload_n 1, 1) := by decide +kernel
theorem d_Mo_catches_15 : decode b_Mo_catches 15 = .ok (.iconst 4, 1) := by decide +kernel
theorem d_Mo_catches_16 : decode b_Mo_catches 16 = .ok (.aload_n 0, 1) := by decide +kernel
theorem d_Mo_catches_17 : decode b_Mo_catches 17 = .ok (.getfield 116, 3) := by decide +kernel
theorem d_Mo_catches_20 : decode b_Mo_catches 20 = .ok (.ineg, 1) := by decide +kernel
theorem d_Mo_catches_21 : decode b_Mo_catches 21 = .ok (.invokevirtual 135, 3) := by decide +kernel
theorem d_Mo_catches_24 : decode b_Mo_catches 24 = .ok (.goto 8, 3) := by decide +kernel
theorem d_Mo_catches_27 : decode b_Mo_catches 27 = .ok (.aload_n 0, 1) := by decide +kernel
theorem d_Mo_catches_28 : decode b_Mo_catches 28 = .ok (.iload_n 1, 1) := by decide +kernel
theorem d_Mo_catches_29 : decode b_Mo_catches 29 = .ok (.invokevirtual 142, 3) := by decide +kernel
theorem d_Mo_catches_32 : decode b_Mo_catches 32 = .ok (.aload_n 0, 1) := by decide +kernel
theorem d_Mo_catches_33 : decode b_Mo_catches 33 = .ok (.getfield 62, 3) := by decide +kernel
theorem d_Mo_catches_36 : decode b_Mo_catches 36 = .ok (.aload_n 0, 1) := by decide +kernel
theorem d_Mo_catches_37 : decode b_Mo_catches 37 = .ok (.getfield 116, 3) := by decide +kernel
theorem d_Mo_catches_40 : decode b_Mo_catches 40 = .ok (.iconst 4, 1) := by decide +kernel
theorem d_Mo_catches_41 : decode b_Mo_catches 41 = .ok (.iastore, 1) := by decide +kernel
theorem d_Mo_catches_42 : decode b_Mo_catches 42 = .ok (.aload_n 0, 1) := by decide +kernel
theorem d_Mo_catches_43 : decode b_Mo_catches 43 = .ok (.iload_n 1, 1) := by decide +kernel
theorem d_Mo_catches_44 : decode b_Mo_catches 44 = .ok (.aload_n 0, 1) := by decide +kernel
theorem d_Mo_catches_45 : decode b_Mo_catches 45 = .ok (.getfield 71, 3) := by decide +kernel
theorem d_Mo_catches_48 : decode b_Mo_catches 48 = .ok (.aload_n 0, 1) := by decide +kernel
theorem d_Mo_catches_49 : decode b_Mo_catches 49 = .ok (.getfield 116, 3) := by decide +kernel
theorem d_Mo_catches_52 : decode b_Mo_catches 52 = .ok (.iaload, 1) := by decide +kernel
theorem d_Mo_catches_53 : decode b_Mo_catches 53 = .ok (.invokevirtual 139, 3) := by decide +kernel
theorem d_Mo_catches_56 : decode b_Mo_catches 56 = .ok (.aload_n 0, 1) := by decide +kernel
theorem d_Mo_catches_57 : decode b_Mo_catches 57 = .ok (.getfield 71, 3) := by decide +kernel
theorem d_Mo_catches_60 : decode b_Mo_catches 60 = .ok (.aload_n 0, 1) := by decide +kernel
theorem d_Mo_catches_61 : decode b_Mo_catches 61 = .ok (.getfield 116, 3) := by decide +kernel
theorem d_Mo_catches_64 : decode b_Mo_catches 64 = .ok (.dup2, 1) := by decide +kernel
theorem d_Mo_catches_65 : decode b_Mo_catches 65 = .ok (.iaload, 1) := by decide +kernel
theorem d_Mo_catches_66 : decode b_Mo_catches 66 = .ok (.iconst 1, 1) := by decide +kernel
theorem d_Mo_catches_67 : decode b_Mo_catches 67 = .ok (.iadd, 1) := by decide +kernel
theorem d_Mo_catches_68 : decode b_Mo_catches 68 = .ok (.iastore, 1) := by decide +kernel
theorem d_Mo_catches_69 : decode b_Mo_catches 69 = .ok (.aload_n 0, 1) := by decide +kernel
theorem d_Mo_catches_70 : decode b_Mo_catches 70 = .ok (.getfield 74, 3) := by decide +kernel
theorem d_Mo_catches_73 : decode b_Mo_catches 73 = .ok (.aload_n 0, 1) := by decide +kernel
theorem d_Mo_catches_74 : decode b_Mo_catches 74 = .ok (.getfield 116, 3) := by decide +kernel
theorem d_Mo_catches_77 : decode b_Mo_catches 77 = .ok (.aload_n 0, 1) := by decide +kernel
theorem d_Mo_catches_78 : decode b_Mo_catches 78 = .ok (.iload_n 1, 1) := by decide +kernel
theorem d_Mo_catches_79 : decode b_Mo_catches 79 = .ok (.bipush (-2), 2) := by decide +kernel
theorem d_Mo_catches_81 : decode b_Mo_catches 81 = .ok (.aload_n 0, 1) := by decide +kernel
theorem d_Mo_catches_82 : decode b_Mo_catches 82 = .ok (.getfield 68, 3) := by decide +kernel
theorem d_Mo_catches_85 : decode b_Mo_catches 85 = .ok (.aload_n 0, 1) := by decide +kernel
theorem d_Mo_catches_86 : decode b_Mo_catches 86 = .ok (.getfield 116, 3) := by decide +kernel
theorem d_Mo_catches_89 : decode b_Mo_catches 89 = .ok (.iaload, 1) := by decide +kernel
theorem d_Mo_catches_90 : decode b_Mo_catches 90 = .ok (.invokevirtual 127, 3) := by decide +kernel
theorem d_Mo_catches_93 : decode b_Mo_catches 93 = .ok (.iastore, 1) := by decide +kernel
theorem d_Mo_catches_94 : decode b_Mo_catches 94 = .ok (.aload_n 0, 1) := by decide +kernel
theorem d_Mo_catches_95 : decode b_Mo_catches 95 = .ok (.getfield 65, 3) := by decide +kernel
theorem d_Mo_catches_98 : decode b_Mo_catches 98 = .ok (.aload_n 0, 1) := by decide +kernel
theorem d_Mo_catches_99 : decode b_Mo_catches 99 = .ok (.getfield 116, 3) := by decide +kernel
theorem d_Mo_catches_102 : decode b_Mo_catches 102 = .ok (.aload_n 0, 1) := by decide +kernel
theorem d_Mo_catches_103 : decode b_Mo_catches 103 = .ok (.getfield 74, 3) := by decide +kernel
theorem d_Mo_catches_106 : decode b_Mo_catches 106 = .ok (.aload_n 0, 1) := by decide +kernel
theorem d_Mo_catches_107 : decode b_Mo_catches 107 = .ok (.getfield 116, 3) := by decide +kernel
theorem d_Mo_catches_110 : decode b_Mo_catches 110 = .ok (.iaload, 1) := by decide +kernel
theorem d_Mo_catches_111 : decode b_Mo_catches 111 = .ok (.iastore, 1) := by decide +kernel
theorem d_Mo_catches_112 : decode b_Mo_catches 112 = .ok (.return_, 1) := by decide +kernel
theorem d_Mo_caughtRowEnds_0 : decode b_Mo_caughtRowEnds 0 = .ok (.aload_n 0, 1) := by decide +kernel
theorem d_Mo_caughtRowEnds_1 : decode b_Mo_caughtRowEnds 1 = .ok (.iload_n 1, 1) := by decide +kernel
theorem d_Mo_caughtRowEnds_2 : decode b_Mo_caughtRowEnds 2 = .ok (.bipush 6, 2) := by decide +kernel
theorem d_Mo_caughtRowEnds_4 : decode b_Mo_caughtRowEnds 4 = .ok (.iconst 0, 1) := by decide +kernel
theorem d_Mo_caughtRowEnds_5 : decode b_Mo_caughtRowEnds 5 = .ok (.invokevirtual 135, 3) := by decide +kernel
theorem d_Mo_caughtRowEnds_8 : decode b_Mo_caughtRowEnds 8 = .ok (.aload_n 0, 1) := by decide +kernel
theorem d_Mo_caughtRowEnds_9 : decode b_Mo_caughtRowEnds 9 = .ok (.iload_n 1, 1) := by decide +kernel
theorem d_Mo_caughtRowEnds_10 : decode b_Mo_caughtRowEnds 10 = .ok (.iconst 4, 1) := by decide +kernel
theorem d_Mo_caughtRowEnds_11 : decode b_Mo_caughtRowEnds 11 = .ok (.aload_n 0, 1) := by decide +kernel
theorem d_Mo_caughtRowEnds_12 : decode b_Mo_caughtRowEnds 12 = .ok (.getfield 116, 3) := by decide +kernel
theorem d_Mo_caughtRowEnds_15 : decode b_Mo_caughtRowEnds 15 = .ok (.ineg, 1) := by decide +kernel
theorem d_Mo_caughtRowEnds_16 : decode b_Mo_caughtRowEnds 16 = .ok (.invokevirtual 135, 3) := by decide +kernel
theorem d_Mo_caughtRowEnds_19 : decode b_Mo_caughtRowEnds 19 = .ok (.aload_n 0, 1) := by decide +kernel
theorem d_Mo_caughtRowEnds_20 : decode b_Mo_caughtRowEnds 20 = .ok (.iload_n 1, 1) := by decide +kernel
theorem d_Mo_caughtRowEnds_21 : decode b_Mo_caughtRowEnds 21 = .ok (.aload_n 0, 1) := by decide +kernel
theorem d_Mo_caughtRowEnds_22 : decode b_Mo_caughtRowEnds 22 = .ok (.getfield 74, 3) := by decide +kernel
theorem d_Mo_caughtRowEnds_25 : decode b_Mo_caughtRowEnds 25 = .ok (.aload_n 0, 1) := by decide +kernel
theorem d_Mo_caughtRowEnds_26 : decode b_Mo_caughtRowEnds 26 = .ok (.getfield 116, 3) := by decide +kernel
theorem d_Mo_caughtRowEnds_29 : decode b_Mo_caughtRowEnds 29 = .ok (.iaload, 1) := by decide +kernel
theorem d_Mo_caughtRowEnds_30 : decode b_Mo_caughtRowEnds 30 = .ok (.invokevirtual 139, 3) := by decide +kernel
theorem d_Mo_caughtRowEnds_33 : decode b_Mo_caughtRowEnds 33 = .ok (.aload_n 0, 1) := by decide +kernel
theorem d_Mo_caughtRowEnds_34 : decode b_Mo_caughtRowEnds 34 = .ok (.iload_n 1, 1) := by decide +kernel
theorem d_Mo_caughtRowEnds_35 : decode b_Mo_caughtRowEnds 35 = .ok (.bipush 6, 2) := by decide +kernel
theorem d_Mo_caughtRowEnds_37 : decode b_Mo_caughtRowEnds 37 = .ok (.iconst 0, 1) := by decide +kernel
theorem d_Mo_caughtRowEnds_38 : decode b_Mo_caughtRowEnds 38 = .ok (.invokevirtual 135, 3) := by decide +kernel
theorem d_Mo_caughtRowEnds_41 : decode b_Mo_caughtRowEnds 41 = .ok (.aload_n 0, 1) := by decide +kernel
theorem d_Mo_caughtRowEnds_42 : decode b_Mo_caughtRowEnds 42 = .ok (.iload_n 1, 1) := by decide +kernel
theorem d_Mo_caughtRowEnds_43 : decode b_Mo_caughtRowEnds 43 = .ok (.bipush 7, 2) := by decide +kernel
theorem d_Mo_caughtRowEnds_45 : decode b_Mo_caughtRowEnds 45 = .ok (.iconst 0, 1) := by decide +kernel
theorem d_Mo_caughtRowEnds_46 : decode b_Mo_caughtRowEnds 46 = .ok (.invokevirtual 135, 3) := by decide +kernel
theorem d_Mo_caughtRowEnds_49 : decode b_Mo_caughtRowEnds 49 = .ok (.return_, 1) := by decide +kernel
theorem d_Mo_lands_0 : decode b_Mo_lands 0 = .ok (.aload_n 0, 1) := by decide +kernel
theorem d_Mo_lands_1 : decode b_Mo_lands 1 = .ok (.getfield 44, 3) := by decide +kernel
theorem d_Mo_lands_4 : decode b_Mo_lands 4 = .ok (.bipush 48, 2) := by decide +kernel
theorem d_Mo_lands_6 : decode b_Mo_lands 6 = .ok (.iload_n 1, 1) := by decide +kernel
theorem d_Mo_lands_7 : decode b_Mo_lands 7 = .ok (.imul, 1) := by decide +kernel
theorem d_Mo_lands_8 : decode b_Mo_lands 8 = .ok (.iload_n 2, 1) := by decide +kernel
theorem d_Mo_lands_9 : decode b_Mo_lands 9 = .ok (.iadd, 1) := by decide +kernel
theorem d_Mo_lands_10 : decode b_Mo_lands 10 = .ok (.aload_n 0, 1) := by decide +kernel
theorem d_Mo_lands_11 : decode b_Mo_lands 11 = .ok (.getfield 26, 3) := by decide +kernel
theorem d_Mo_lands_14 : decode b_Mo_lands 14 = .ok (.iload_n 1, 1) := by decide +kernel
theorem d_Mo_lands_15 : decode b_Mo_lands 15 = .ok (.iaload, 1) := by decide +kernel
theorem d_Mo_lands_16 : decode b_Mo_lands 16 = .ok (.iastore, 1) := by decide +kernel
theorem d_Mo_lands_17 : decode b_Mo_lands 17 = .ok (.return_, 1) := by decide +kernel
theorem d_Mo_ends_0 : decode b_Mo_ends 0 = .ok (.aload_n 0, 1) := by decide +kernel
theorem d_Mo_ends_1 : decode b_Mo_ends 1 = .ok (.getfield 62, 3) := by decide +kernel
theorem d_Mo_ends_4 : decode b_Mo_ends 4 = .ok (.aload_n 0, 1) := by decide +kernel
theorem d_Mo_ends_5 : decode b_Mo_ends 5 = .ok (.getfield 116, 3) := by decide +kernel
theorem d_Mo_ends_8 : decode b_Mo_ends 8 = .ok (.iaload, 1) := by decide +kernel
theorem d_Mo_ends_9 : decode b_Mo_ends 9 = .ok (.iconst 4, 1) := by decide +kernel
theorem d_Mo_ends_10 : decode b_Mo_ends 10 = .ok (.if_icmp .ne 11, 3) := by decide +kernel
theorem d_Mo_ends_13 : decode b_Mo_ends 13 = .ok (.aload_n 0, 1) := by decide +kernel
theorem d_Mo_ends_14 : decode b_Mo_ends 14 = .ok (.iload_n 1, 1) := by decide +kernel
theorem d_Mo_ends_15 : decode b_Mo_ends 15 = .ok (.invokevirtual 142, 3) := by decide +kernel
theorem d_Mo_ends_18 : decode b_Mo_ends 18 = .ok (.goto 66, 3) := by decide +kernel
theorem d_Mo_ends_21 : decode b_Mo_ends 21 = .ok (.aload_n 0, 1) := by decide +kernel
theorem d_Mo_ends_22 : decode b_Mo_ends 22 = .ok (.iload_n 1, 1) := by decide +kernel
theorem d_Mo_ends_23 : decode b_Mo_ends 23 = .ok (.iconst 5, 1) := by decide +kernel
theorem d_Mo_ends_24 : decode b_Mo_ends 24 = .ok (.aload_n 0, 1) := by decide +kernel
theorem d_Mo_ends_25 : decode b_Mo_ends 25 = .ok (.getfield 77, 3) := by decide +kernel
theorem d_Mo_ends_28 : decode b_Mo_ends 28 = .ok (.aload_n 0, 1) := by decide +kernel
theorem d_Mo_ends_29 : decode b_Mo_ends 29 = .ok (.getfield 116, 3) := by decide +kernel
theorem d_Mo_ends_32 : decode b_Mo_ends 32 = .ok (.iaload, 1) := by decide +kernel
theorem d_Mo_ends_33 : decode b_Mo_ends 33 = .ok (.invokevirtual 135, 3) := by decide +kernel
theorem d_Mo_ends_36 : decode b_Mo_ends 36 = .ok (.aload_n 0, 1) := by decide +kernel
end
section
theorem d_Mo_ends_37 : decode b_Mo_ends 37 = .ok (.iload_n 1, 1) := by decide +kernel
theorem d_Mo_ends_38 : decode b_Mo_ends 38 = .ok (.iconst 4, 1) := by decide +kernel
theorem d_Mo_ends_39 : decode b_Mo_ends 39 = .ok (.aload_n 0, 1) := by decide +kernel
theorem d_Mo_ends_40 : decode b_Mo_ends 40 = .ok (.getfield 116, 3) := by decide +kernel
theorem d_Mo_ends_43 : decode b_Mo_ends 43 = .ok (.ineg, 1) := by decide +kernel
theorem d_Mo_ends_44 : decode b_Mo_ends 44 = .ok (.invokevirtual 135, 3) := by decide +kernel
theorem d_Mo_ends_47 : decode b_Mo_ends 47 = .ok (.aload_n 0, 1) := by decide +kernel
theorem d_Mo_ends_48 : decode b_Mo_ends 48 = .ok (.iload_n 1, 1) := by decide +kernel
theorem d_Mo_ends_49 : decode b_Mo_ends 49 = .ok (.aload_n 0, 1) := by decide +kernel
theorem d_Mo_ends_50 : decode b_Mo_ends 50 = .ok (.getfield 65, 3) := by decide +kernel
theorem d_Mo_ends_53 : decode b_Mo_ends 53 = .ok (.aload_n 0, 1) := by decide +kernel
theorem d_Mo_ends_54 : decode b_Mo_ends 54 = .ok (.getfield 116, 3) := by decide +kernel
theorem d_Mo_ends_57 : decode b_Mo_ends 57 = .ok (.iaload, 1) := by decide +kernel
theorem d_Mo_ends_58 : decode b_Mo_ends 58 = .ok (.invokevirtual 139, 3) := by decide +kernel
theorem d_Mo_ends_61 : decode b_Mo_ends 61 = .ok (.aload_n 0, 1) := by decide +kernel
theorem d_Mo_ends_62 : decode b_Mo_ends 62 = .ok (.iload_n 1, 1) := by decide +kernel
theorem d_Mo_ends_63 : decode b_Mo_ends 63 = .ok (.iconst 5, 1) := by decide +kernel
theorem d_Mo_ends_64 : decode b_Mo_ends 64 = .ok (.aload_n 0, 1) := by decide +kernel
theorem d_Mo_ends_65 : decode b_Mo_ends 65 = .ok (.getfield 77, 3) := by decide +kernel
theorem d_Mo_ends_68 : decode b_Mo_ends 68 = .ok (.aload_n 0, 1) := by decide +kernel
theorem d_Mo_ends_69 : decode b_Mo_ends 69 = .ok (.getfield 116, 3) := by decide +kernel
theorem d_Mo_ends_72 : decode b_Mo_ends 72 = .ok (.iaload, 1) := by decide +kernel
theorem d_Mo_ends_73 : decode b_Mo_ends 73 = .ok (.invokevirtual 135, 3) := by decide +kernel
theorem d_Mo_ends_76 : decode b_Mo_ends 76 = .ok (.aload_n 0, 1) := by decide +kernel
theorem d_Mo_ends_77 : decode b_Mo_ends 77 = .ok (.iload_n 1, 1) := by decide +kernel
theorem d_Mo_ends_78 : decode b_Mo_ends 78 = .ok (.bipush 7, 2) := by decide +kernel
theorem d_Mo_ends_80 : decode b_Mo_ends 80 = .ok (.iconst 0, 1) := by decide +kernel
theorem d_Mo_ends_81 : decode b_Mo_ends 81 = .ok (.invokevirtual 135, 3) := by decide +kernel
theorem d_Mo_ends_84 : decode b_Mo_ends 84 = .ok (.aload_n 0, 1) := by decide +kernel
theorem d_Mo_ends_85 : decode b_Mo_ends 85 = .ok (.iload_n 1, 1) := by decide +kernel
theorem d_Mo_ends_86 : decode b_Mo_ends 86 = .ok (.invokevirtual 146, 3) := by decide +kernel
theorem d_Mo_ends_89 : decode b_Mo_ends 89 = .ok (.return_, 1) := by decide +kernel
theorem d_Mo_closes_0 : decode b_Mo_closes 0 = .ok (.iconst 0, 1) := by decide +kernel
theorem d_Mo_closes_1 : decode b_Mo_closes 1 = .ok (.istore_n 2, 1) := by decide +kernel
theorem d_Mo_closes_2 : decode b_Mo_closes 2 = .ok (.iload_n 2, 1) := by decide +kernel
theorem d_Mo_closes_3 : decode b_Mo_closes 3 = .ok (.aload_n 0, 1) := by decide +kernel
theorem d_Mo_closes_4 : decode b_Mo_closes 4 = .ok (.getfield 26, 3) := by decide +kernel
theorem d_Mo_closes_7 : decode b_Mo_closes 7 = .ok (.iload_n 1, 1) := by decide +kernel
theorem d_Mo_closes_8 : decode b_Mo_closes 8 = .ok (.iaload, 1) := by decide +kernel
theorem d_Mo_closes_9 : decode b_Mo_closes 9 = .ok (.if_icmp .ge 53, 3) := by decide +kernel
theorem d_Mo_closes_12 : decode b_Mo_closes 12 = .ok (.sipush 128, 3) := by decide +kernel
theorem d_Mo_closes_15 : decode b_Mo_closes 15 = .ok (.iload_n 1, 1) := by decide +kernel
theorem d_Mo_closes_16 : decode b_Mo_closes 16 = .ok (.imul, 1) := by decide +kernel
theorem d_Mo_closes_17 : decode b_Mo_closes 17 = .ok (.iload_n 2, 1) := by decide +kernel
theorem d_Mo_closes_18 : decode b_Mo_closes 18 = .ok (.iadd, 1) := by decide +kernel
theorem d_Mo_closes_19 : decode b_Mo_closes 19 = .ok (.istore_n 3, 1) := by decide +kernel
theorem d_Mo_closes_20 : decode b_Mo_closes 20 = .ok (.aload_n 0, 1) := by decide +kernel
theorem d_Mo_closes_21 : decode b_Mo_closes 21 = .ok (.getfield 29, 3) := by decide +kernel
theorem d_Mo_closes_24 : decode b_Mo_closes 24 = .ok (.iload_n 3, 1) := by decide +kernel
theorem d_Mo_closes_25 : decode b_Mo_closes 25 = .ok (.iaload, 1) := by decide +kernel
theorem d_Mo_closes_26 : decode b_Mo_closes 26 = .ok (.iconst 4, 1) := by decide +kernel
theorem d_Mo_closes_27 : decode b_Mo_closes 27 = .ok (.if_icmp .ne 29, 3) := by decide +kernel
theorem d_Mo_closes_30 : decode b_Mo_closes 30 = .ok (.aload_n 0, 1) := by decide +kernel
theorem d_Mo_closes_31 : decode b_Mo_closes 31 = .ok (.getfield 32, 3) := by decide +kernel
theorem d_Mo_closes_34 : decode b_Mo_closes 34 = .ok (.iload_n 3, 1) := by decide +kernel
theorem d_Mo_closes_35 : decode b_Mo_closes 35 = .ok (.iaload, 1) := by decide +kernel
theorem d_Mo_closes_36 : decode b_Mo_closes 36 = .ok (.aload_n 0, 1) := by decide +kernel
theorem d_Mo_closes_37 : decode b_Mo_closes 37 = .ok (.getfield 116, 3) := by decide +kernel
theorem d_Mo_closes_40 : decode b_Mo_closes 40 = .ok (.ineg, 1) := by decide +kernel
theorem d_Mo_closes_41 : decode b_Mo_closes 41 = .ok (.if_icmp .ne 15, 3) := by decide +kernel
theorem d_Mo_closes_44 : decode b_Mo_closes 44 = .ok (.aload_n 0, 1) := by decide +kernel
theorem d_Mo_closes_45 : decode b_Mo_closes 45 = .ok (.getfield 32, 3) := by decide +kernel
theorem d_Mo_closes_48 : decode b_Mo_closes 48 = .ok (.iload_n 3, 1) := by decide +kernel
theorem d_Mo_closes_49 : decode b_Mo_closes 49 = .ok (.aload_n 0, 1) := by decide +kernel
theorem d_Mo_closes_50 : decode b_Mo_closes 50 = .ok (.getfield 26, 3) := by decide +kernel
theorem d_Mo_closes_53 : decode b_Mo_closes 53 = .ok (.iload_n 1, 1) := by decide +kernel
theorem d_Mo_closes_54 : decode b_Mo_closes 54 = .ok (.iaload, 1) := by decide +kernel
theorem d_Mo_closes_55 : decode b_Mo_closes 55 = .ok (.iastore, 1) := by decide +kernel
theorem d_Mo_closes_56 : decode b_Mo_closes 56 = .ok (.iinc 2 1, 3) := by decide +kernel
theorem d_Mo_closes_59 : decode b_Mo_closes 59 = .ok (.goto (-57), 3) := by decide +kernel
theorem d_Mo_closes_62 : decode b_Mo_closes 62 = .ok (.aload_n 0, 1) := by decide +kernel
theorem d_Mo_closes_63 : decode b_Mo_closes 63 = .ok (.dup, 1) := by decide +kernel
theorem d_Mo_closes_64 : decode b_Mo_closes 64 = .ok (.getfield 116, 3) := by decide +kernel
theorem d_Mo_closes_67 : decode b_Mo_closes 67 = .ok (.iconst 1, 1) := by decide +kernel
theorem d_Mo_closes_68 : decode b_Mo_closes 68 = .ok (.isub, 1) := by decide +kernel
theorem d_Mo_closes_69 : decode b_Mo_closes 69 = .ok (.putfield 116, 3) := by decide +kernel
theorem d_Mo_closes_72 : decode b_Mo_closes 72 = .ok (.return_, 1) := by decide +kernel
theorem d_Mo_collectSites_0 : decode b_Mo_collectSites 0 = .ok (.aload_n 0, 1) := by decide +kernel
theorem d_Mo_collectSites_1 : decode b_Mo_collectSites 1 = .ok (.getfield 50, 3) := by decide +kernel
theorem d_Mo_collectSites_4 : decode b_Mo_collectSites 4 = .ok (.iload_n 1, 1) := by decide +kernel
theorem d_Mo_collectSites_5 : decode b_Mo_collectSites 5 = .ok (.iconst 0, 1) := by decide +kernel
theorem d_Mo_collectSites_6 : decode b_Mo_collectSites 6 = .ok (.iastore, 1) := by decide +kernel
theorem d_Mo_collectSites_7 : decode b_Mo_collectSites 7 = .ok (.iconst 0, 1) := by decide +kernel
theorem d_Mo_collectSites_8 : decode b_Mo_collectSites 8 = .ok (.istore_n 2, 1) := by decide +kernel
theorem d_Mo_collectSites_9 : decode b_Mo_collectSites 9 = .ok (.iload_n 2, 1) := by decide +kernel
theorem d_Mo_collectSites_10 : decode b_Mo_collectSites 10 = .ok (.aload_n 0, 1) := by decide +kernel
theorem d_Mo_collectSites_11 : decode b_Mo_collectSites 11 = .ok (.getfield 26, 3) := by decide +kernel
theorem d_Mo_collectSites_14 : decode b_Mo_collectSites 14 = .ok (.iload_n 1, 1) := by decide +kernel
theorem d_Mo_collectSites_15 : decode b_Mo_collectSites 15 = .ok (.iaload, 1) := by decide +kernel
theorem d_Mo_collectSites_16 : decode b_Mo_collectSites 16 = .ok (.if_icmp .ge 139, 3) := by decide +kernel
theorem d_Mo_collectSites_19 : decode b_Mo_collectSites 19 = .ok (.sipush 128, 3) := by decide +kernel
theorem d_Mo_collectSites_22 : decode b_Mo_collectSites 22 = .ok (.iload_n 1, 1) := by decide +kernel
theorem d_Mo_collectSites_23 : decode b_Mo_collectSites 23 = .ok (.imul, 1) := by decide +kernel
theorem d_Mo_collectSites_24 : decode b_Mo_collectSites 24 = .ok (.iload_n 2, 1) := by decide +kernel
theorem d_Mo_collectSites_25 : decode b_Mo_collectSites 25 = .ok (.iadd, 1) := by decide +kernel
theorem d_Mo_collectSites_26 : decode b_Mo_collectSites 26 = .ok (.istore_n 3, 1) := by decide +kernel
theorem d_Mo_collectSites_27 : decode b_Mo_collectSites 27 = .ok (.aload_n 0, 1) := by decide +kernel
theorem d_Mo_collectSites_28 : decode b_Mo_collectSites 28 = .ok (.getfield 29, 3) := by decide +kernel
theorem d_Mo_collectSites_31 : decode b_Mo_collectSites 31 = .ok (.iload_n 3, 1) := by decide +kernel
theorem d_Mo_collectSites_32 : decode b_Mo_collectSites 32 = .ok (.iaload, 1) := by decide +kernel
theorem d_Mo_collectSites_33 : decode b_Mo_collectSites 33 = .ok (.iconst 1, 1) := by decide +kernel
theorem d_Mo_collectSites_34 : decode b_Mo_collectSites 34 = .ok (.if_icmp .eq 23, 3) := by decide +kernel
theorem d_Mo_collectSites_37 : decode b_Mo_collectSites 37 = .ok (.aload_n 0, 1) := by decide +kernel
theorem d_Mo_collectSites_38 : decode b_Mo_collectSites 38 = .ok (.getfield 29, 3) := by decide +kernel
theorem d_Mo_collectSites_41 : decode b_Mo_collectSites 41 = .ok (.iload_n 3, 1) := by decide +kernel
theorem d_Mo_collectSites_42 : decode b_Mo_collectSites 42 = .ok (.iaload, 1) := by decide +kernel
theorem d_Mo_collectSites_43 : decode b_Mo_collectSites 43 = .ok (.iconst 2, 1) := by decide +kernel
theorem d_Mo_collectSites_44 : decode b_Mo_collectSites 44 = .ok (.if_icmp .eq 13, 3) := by decide +kernel
theorem d_Mo_collectSites_47 : decode b_Mo_collectSites 47 = .ok (.aload_n 0, 1) := by decide +kernel
theorem d_Mo_collectSites_48 : decode b_Mo_collectSites 48 = .ok (.getfield 29, 3) := by decide +kernel
theorem d_Mo_collectSites_51 : decode b_Mo_collectSites 51 = .ok (.iload_n 3, 1) := by decide +kernel
theorem d_Mo_collectSites_52 : decode b_Mo_collectSites 52 = .ok (.iaload, 1) := by decide +kernel
theorem d_Mo_collectSites_53 : decode b_Mo_collectSites 53 = .ok (.iconst 3, 1) := by decide +kernel
theorem d_Mo_collectSites_54 : decode b_Mo_collectSites 54 = .ok (.if_icmp .ne 95, 3) := by decide +kernel
theorem d_Mo_collectSites_57 : decode b_Mo_collectSites 57 = .ok (.bipush 64, 2) := by decide +kernel
theorem d_Mo_collectSites_59 : decode b_Mo_collectSites 59 = .ok (.iload_n 1, 1) := by decide +kernel
theorem d_Mo_collectSites_60 : decode b_Mo_collectSites 60 = .ok (.imul, 1) := by decide +kernel
theorem d_Mo_collectSites_61 : decode b_Mo_collectSites 61 = .ok (.aload_n 0, 1) := by decide +kernel
theorem d_Mo_collectSites_62 : decode b_Mo_collectSites 62 = .ok (.getfield 50, 3) := by decide +kernel
theorem d_Mo_collectSites_65 : decode b_Mo_collectSites 65 = .ok (.iload_n 1, 1) := by decide +kernel
theorem d_Mo_collectSites_66 : decode b_Mo_collectSites 66 = .ok (.iaload, 1) := by decide +kernel
theorem d_Mo_collectSites_67 : decode b_Mo_collectSites 67 = .ok (.iadd, 1) := by decide +kernel
theorem d_Mo_collectSites_68 : decode b_Mo_collectSites 68 = .ok (.istore 4, 2) := by decide +kernel
theorem d_Mo_collectSites_70 : decode b_Mo_collectSites 70 = .ok (.aload_n 0, 1) := by decide +kernel
theorem d_Mo_collectSites_71 : decode b_Mo_collectSites 71 = .ok (.getfield 50, 3) := by decide +kernel
theorem d_Mo_collectSites_74 : decode b_Mo_collectSites 74 = .ok (.iload_n 1, 1) := by decide +kernel
theorem d_Mo_collectSites_75 : decode b_Mo_collectSites 75 = .ok (.iaload, 1) := by decide +kernel
theorem d_Mo_collectSites_76 : decode b_Mo_collectSites 76 = .ok (.ifCond .le 34, 3) := by decide +kernel
theorem d_Mo_collectSites_79 : decode b_Mo_collectSites 79 = .ok (.aload_n 0, 1) := by decide +kernel
theorem d_Mo_collectSites_80 : decode b_Mo_collectSites 80 = .ok (.getfield 59, 3) := by decide +kernel
theorem d_Mo_collectSites_83 : decode b_Mo_collectSites 83 = .ok (.iload 4, 2) := by decide +kernel
theorem d_Mo_collectSites_85 : decode b_Mo_collectSites 85 = .ok (.iconst 1, 1) := by decide +kernel
theorem d_Mo_collectSites_86 : decode b_Mo_collectSites 86 = .ok (.isub, 1) := by decide +kernel
theorem d_Mo_collectSites_87 : decode b_Mo_collectSites 87 = .ok (.iaload, 1) := by decide +kernel
theorem d_Mo_collectSites_88 : decode b_Mo_collectSites 88 = .ok (.aload_n 0, 1) := by decide +kernel
theorem d_Mo_collectSites_89 : decode b_Mo_collectSites 89 = .ok (.getfield 35, 3) := by decide +kernel
theorem d_Mo_collectSites_92 : decode b_Mo_collectSites 92 = .ok (.iload_n 3, 1) := by decide +kernel
theorem d_Mo_collectSites_93 : decode b_Mo_collectSites 93 = .ok (.iaload, 1) := by decide +kernel
theorem d_Mo_collectSites_94 : decode b_Mo_collectSites 94 = .ok (.if_icmp .ne 16, 3) := by decide +kernel
theorem d_Mo_collectSites_97 : decode b_Mo_collectSites 97 = .ok (.aload_n 0, 1) := by decide +kernel
theorem d_Mo_collectSites_98 : decode b_Mo_collectSites 98 = .ok (.getfield 56, 3) := by decide +kernel
theorem d_Mo_collectSites_101 : decode b_Mo_collectSites 101 = .ok (.iload 4, 2) := by decide +kernel
theorem d_Mo_collectSites_103 : decode b_Mo_collectSites 103 = .ok (.iconst 1, 1) := by decide +kernel
theorem d_Mo_collectSites_104 : decode b_Mo_collectSites 104 = .ok (.isub, 1) := by decide +kernel
theorem d_Mo_collectSites_105 : decode b_Mo_collectSites 105 = .ok (.iload_n 2, 1) := by decide +kernel
theorem d_Mo_collectSites_106 : decode b_Mo_collectSites 106 = .ok (.iastore, 1) := by decide +kernel
theorem d_Mo_collectSites_107 : decode b_Mo_collectSites 107 = .ok (.goto 42, 3) := by decide +kernel
theorem d_Mo_collectSites_110 : decode b_Mo_collectSites 110 = .ok (.aload_n 0, 1) := by decide +kernel
theorem d_Mo_collectSites_111 : decode b_Mo_collectSites 111 = .ok (.getfield 53, 3) := by decide +kernel
theorem d_Mo_collectSites_114 : decode b_Mo_collectSites 114 = .ok (.iload 4, 2) := by decide +kernel
theorem d_Mo_collectSites_116 : decode b_Mo_collectSites 116 = .ok (.iload_n 2, 1) := by decide +kernel
theorem d_Mo_collectSites_117 : decode b_Mo_collectSites 117 = .ok (.iastore, 1) := by decide +kernel
theorem d_Mo_collectSites_118 : decode b_Mo_collectSites 118 = .ok (.aload_n 0, 1) := by decide +kernel
theorem d_Mo_collectSites_119 : decode b_Mo_collectSites 119 = .ok (.getfield 56, 3) := by decide +kernel
theorem d_Mo_collectSites_122 : decode b_Mo_collectSites 122 = .ok (.iload 4, 2) := by decide +kernel
theorem d_Mo_collectSites_124 : decode b_Mo_collectSites 124 = .ok (.iload_n 2, 1) := by decide +kernel
theorem d_Mo_collectSites_125 : decode b_Mo_collectSites 125 = .ok (.iastore, 1) := by decide +kernel
theorem d_Mo_collectSites_126 : decode b_Mo_collectSites 126 = .ok (.aload_n 0, 1) := by decide +kernel
theorem d_Mo_collectSites_127 : decode b_Mo_collectSites 127 = .ok (.getfield 59, 3) := by decide +kernel
theorem d_Mo_collectSites_130 : decode b_Mo_collectSites 130 = .ok (.iload 4, 2) := by decide +kernel
theorem d_Mo_collectSites_132 : decode b_Mo_collectSites 132 = .ok (.aload_n 0, 1) := by decide +kernel
theorem d_Mo_collectSites_133 : decode b_Mo_collectSites 133 = .ok (.getfield 35, 3) := by decide +kernel
theorem d_Mo_collectSites_136 : decode b_Mo_collectSites 136 = .ok (.iload_n 3, 1) := by decide +kernel
theorem d_Mo_collectSites_137 : decode b_Mo_collectSites 137 = .ok (.iaload, 1) := by decide +kernel
theorem d_Mo_collectSites_138 : decode b_Mo_collectSites 138 = .ok (.iastore, 1) := by decide +kernel
theorem d_Mo_collectSites_139 : decode b_Mo_collectSites 139 = .ok (.aload_n 0, 1) := by decide +kernel
theorem d_Mo_collectSites_140 : decode b_Mo_collectSites 140 = .ok (.getfield 50, 3) := by decide +kernel
theorem d_Mo_collectSites_143 : decode b_Mo_collectSites 143 = .ok (.iload_n 1, 1) := by decide +kernel
theorem d_Mo_collectSites_144 : decode b_Mo_collectSites 144 = .ok (.dup2, 1) := by decide +kernel
theorem d_Mo_collectSites_145 : decode b_Mo_collectSites 145 = .ok (.iaload, 1) := by decide +kernel
theorem d_Mo_collectSites_146 : decode b_Mo_collectSites 146 = .ok (.iconst 1, 1) := by decide +kernel
theorem d_Mo_collectSites_147 : decode b_Mo_collectSites 147 = .ok (.iadd, 1) := by decide +kernel
theorem d_Mo_collectSites_148 : decode b_Mo_collectSites 148 = .ok (.iastore, 1) := by decide +kernel
theorem d_Mo_collectSites_149 : decode b_Mo_collectSites 149 = .ok (.iinc 2 1, 3) := by decide +kernel
theorem d_Mo_collectSites_152 : decode b_Mo_collectSites 152 = .ok (.goto (-143), 3) := by decide +kernel
theorem d_Mo_collectSites_155 : decode b_Mo_collectSites 155 = .ok (.return_, 1) := by decide +kernel
theorem d_Mo_size_0 : decode b_Mo_size 0 = .ok (.aload_n 0, 1) := by decide +kernel
theorem d_Mo_size_1 : decode b_Mo_size 1 = .ok (.iload_n 1, 1) := by decide +kernel
theorem d_Mo_size_2 : decode b_Mo_size 2 = .ok (.iconst 0, 1) := by decide +kernel
theorem d_Mo_size_3 : decode b_Mo_size 3 = .ok (.iconst 5, 1) := by decide +kernel
theorem d_Mo_size_4 : decode b_Mo_size 4 = .ok (.invokestatic 104, 3) := by decide +kernel
theorem d_Mo_size_7 : decode b_Mo_size 7 = .ok (.ifCond .ne 12, 3) := by decide +kernel
theorem d_Mo_size_10 : decode b_Mo_size 10 = .ok (.iload_n 2, 1) := by decide +kernel
theorem d_Mo_size_11 : decode b_Mo_size 11 = .ok (.iconst 0, 1) := by decide +kernel
theorem d_Mo_size_12 : decode b_Mo_size 12 = .ok (.iconst 2, 1) := by decide +kernel
theorem d_Mo_size_13 : decode b_Mo_size 13 = .ok (.invokestatic 104, 3) := by decide +kernel
theorem d_Mo_size_16 : decode b_Mo_size 16 = .ok (.ifCond .eq 7, 3) := by decide +kernel
theorem d_Mo_size_19 : decode b_Mo_size 19 = .ok (.iconst 1, 1) := by decide +kernel
theorem d_Mo_size_20 : decode b_Mo_size 20 = .ok (.goto 4, 3) := by decide +kernel
theorem d_Mo_size_23 : decode b_Mo_size 23 = .ok (.iconst 0, 1) := by decide +kernel
theorem d_Mo_size_24 : decode b_Mo_size 24 = .ok (.iconst 0, 1) := by decide +kernel
theorem d_Mo_size_25 : decode b_Mo_size 25 = .ok (.invokevirtual 108, 3) := by decide +kernel
theorem d_Mo_size_28 : decode b_Mo_size 28 = .ok (.ifCond .eq 5, 3) := by decide +kernel
theorem d_Mo_size_31 : decode b_Mo_size 31 = .ok (.iconst 0, 1) := by decide +kernel
theorem d_Mo_size_32 : decode b_Mo_size 32 = .ok (.ireturn, 1) := by decide +kernel
theorem d_Mo_size_33 : decode b_Mo_size 33 = .ok (.iload_n 2, 1) := by decide +kernel
theorem d_Mo_size_34 : decode b_Mo_size 34 = .ok (.ifCond .ne 12, 3) := by decide +kernel
theorem d_Mo_size_37 : decode b_Mo_size 37 = .ok (.aload_n 0, 1) := by decide +kernel
theorem d_Mo_size_38 : decode b_Mo_size 38 = .ok (.getfield 26, 3) := by decide +kernel
theorem d_Mo_size_41 : decode b_Mo_size 41 = .ok (.iload_n 1, 1) := by decide +kernel
theorem d_Mo_size_42 : decode b_Mo_size 42 = .ok (.iaload, 1) := by decide +kernel
theorem d_Mo_size_43 : decode b_Mo_size 43 = .ok (.goto 23, 3) := by decide +kernel
theorem d_Mo_size_46 : decode b_Mo_size 46 = .ok (.iload_n 2, 1) := by decide +kernel
theorem d_Mo_size_47 : decode b_Mo_size 47 = .ok (.iconst 1, 1) := by decide +kernel
theorem d_Mo_size_48 : decode b_Mo_size 48 = .ok (.if_icmp .ne 12, 3) := by decide +kernel
theorem d_Mo_size_51 : decode b_Mo_size 51 = .ok (.aload_n 0, 1) := by decide +kernel
theorem d_Mo_size_52 : decode b_Mo_size 52 = .ok (.getfield 38, 3) := by decide +kernel
theorem d_Mo_size_55 : decode b_Mo_size 55 = .ok (.iload_n 1, 1) := by decide +kernel
theorem d_Mo_size_56 : decode b_Mo_size 56 = .ok (.iaload, 1) := by decide +kernel
theorem d_Mo_size_57 : decode b_Mo_size 57 = .ok (.goto 9, 3) := by decide +kernel
theorem d_Mo_size_60 : decode b_Mo_size 60 = .ok (.aload_n 0, 1) := by decide +kernel
theorem d_Mo_size_61 : decode b_Mo_size 61 = .ok (.getfield 50, 3) := by decide +kernel
theorem d_Mo_size_64 : decode b_Mo_size 64 = .ok (.iload_n 1, 1) := by decide +kernel
theorem d_Mo_size_65 : decode b_Mo_size 65 = .ok (.iaload, 1) := by decide +kernel
theorem d_Mo_size_66 : decode b_Mo_size 66 = .ok (.ireturn, 1) := by decide +kernel
theorem d_Mo_code_0 : decode b_Mo_code 0 = .ok (.iload_n 1, 1) := by decide +kernel
theorem d_Mo_code_1 : decode b_Mo_code 1 = .ok (.ifCond .lt 36, 3) := by decide +kernel
theorem d_Mo_code_4 : decode b_Mo_code 4 = .ok (.iload_n 1, 1) := by decide +kernel
theorem d_Mo_code_5 : decode b_Mo_code 5 = .ok (.bipush 6, 2) := by decide +kernel
theorem d_Mo_code_7 : decode b_Mo_code 7 = .ok (.if_icmp .ge 30, 3) := by decide +kernel
theorem d_Mo_code_10 : decode b_Mo_code 10 = .ok (.iload_n 2, 1) := by decide +kernel
theorem d_Mo_code_11 : decode b_Mo_code 11 = .ok (.ifCond .lt 26, 3) := by decide +kernel
theorem d_Mo_code_14 : decode b_Mo_code 14 = .ok (.iload_n 2, 1) := by decide +kernel
theorem d_Mo_code_15 : decode b_Mo_code 15 = .ok (.aload_n 0, 1) := by decide +kernel
theorem d_Mo_code_16 : decode b_Mo_code 16 = .ok (.getfield 26, 3) := by decide +kernel
theorem d_Mo_code_19 : decode b_Mo_code 19 = .ok (.iload_n 1, 1) := by decide +kernel
theorem d_Mo_code_20 : decode b_Mo_code 20 = .ok (.iaload, 1) := by decide +kernel
theorem d_Mo_code_21 : decode b_Mo_code 21 = .ok (.if_icmp .ge 16, 3) := by decide +kernel
theorem d_Mo_code_24 : decode b_Mo_code 24 = .ok (.iload_n 3, 1) := by decide +kernel
theorem d_Mo_code_25 : decode b_Mo_code 25 = .ok (.ifCond .eq 8, 3) := by decide +kernel
theorem d_Mo_code_28 : decode b_Mo_code 28 = .ok (.iload_n 3, 1) := by decide +kernel
theorem d_Mo_code_29 : decode b_Mo_code 29 = .ok (.iconst 1, 1) := by decide +kernel
theorem d_Mo_code_30 : decode b_Mo_code 30 = .ok (.if_icmp .ne 7, 3) := by decide +kernel
theorem d_Mo_code_33 : decode b_Mo_code 33 = .ok (.iconst 1, 1) := by decide +kernel
theorem d_Mo_code_34 : decode b_Mo_code 34 = .ok (.goto 4, 3) := by decide +kernel
theorem d_Mo_code_37 : decode b_Mo_code 37 = .ok (.iconst 0, 1) := by decide +kernel
theorem d_Mo_code_38 : decode b_Mo_code 38 = .ok (.istore 4, 2) := by decide +kernel
theorem d_Mo_code_40 : decode b_Mo_code 40 = .ok (.aload_n 0, 1) := by decide +kernel
theorem d_Mo_code_41 : decode b_Mo_code 41 = .ok (.iload 4, 2) := by decide +kernel
theorem d_Mo_code_43 : decode b_Mo_code 43 = .ok (.ifCond .ne 7, 3) := by decide +kernel
theorem d_Mo_code_46 : decode b_Mo_code 46 = .ok (.iconst 1, 1) := by decide +kernel
theorem d_Mo_code_47 : decode b_Mo_code 47 = .ok (.goto 4, 3) := by decide +kernel
theorem d_Mo_code_50 : decode b_Mo_code 50 = .ok (.iconst 0, 1) := by decide +kernel
theorem d_Mo_code_51 : decode b_Mo_code 51 = .ok (.iconst 0, 1) := by decide +kernel
theorem d_Mo_code_52 : decode b_Mo_code 52 = .ok (.invokevirtual 108, 3) := by decide +kernel
theorem d_Mo_code_55 : decode b_Mo_code 55 = .ok (.ifCond .eq 5, 3) := by decide +kernel
theorem d_Mo_code_58 : decode b_Mo_code 58 = .ok (.iconst 0, 1) := by decide +kernel
theorem d_Mo_code_59 : decode b_Mo_code 59 = .ok (.ireturn, 1) := by decide +kernel
theorem d_Mo_code_60 : decode b_Mo_code 60 = .ok (.iload_n 3, 1) := by decide +kernel
theorem d_Mo_code_61 : decode b_Mo_code 61 = .ok (.ifCond .ne 18, 3) := by decide +kernel
theorem d_Mo_code_64 : decode b_Mo_code 64 = .ok (.aload_n 0, 1) := by decide +kernel
theorem d_Mo_code_65 : decode b_Mo_code 65 = .ok (.getfield 29, 3) := by decide +kernel
theorem d_Mo_code_68 : decode b_Mo_code 68 = .ok (.sipush 128, 3) := by decide +kernel
theorem d_Mo_code_71 : decode b_Mo_code 71 = .ok (.iload_n 1, 1) := by decide +kernel
theorem d_Mo_code_72 : decode b_Mo_code 72 = .ok (.imul, 1) := by decide +kernel
theorem d_Mo_code_73 : decode b_Mo_code 73 = .ok (.iload_n 2, 1) := by decide +kernel
theorem d_Mo_code_74 : decode b_Mo_code 74 = .ok (.iadd, 1) := by decide +kernel
theorem d_Mo_code_75 : decode b_Mo_code 75 = .ok (.iaload, 1) := by decide +kernel
theorem d_Mo_code_76 : decode b_Mo_code 76 = .ok (.goto 15, 3) := by decide +kernel
theorem d_Mo_code_79 : decode b_Mo_code 79 = .ok (.aload_n 0, 1) := by decide +kernel
theorem d_Mo_code_80 : decode b_Mo_code 80 = .ok (.getfield 32, 3) := by decide +kernel
theorem d_Mo_code_83 : decode b_Mo_code 83 = .ok (.sipush 128, 3) := by decide +kernel
theorem d_Mo_code_86 : decode b_Mo_code 86 = .ok (.iload_n 1, 1) := by decide +kernel
theorem d_Mo_code_87 : decode b_Mo_code 87 = .ok (.imul, 1) := by decide +kernel
theorem d_Mo_code_88 : decode b_Mo_code 88 = .ok (.iload_n 2, 1) := by decide +kernel
theorem d_Mo_code_89 : decode b_Mo_code 89 = .ok (.iadd, 1) := by decide +kernel
theorem d_Mo_code_90 : decode b_Mo_code 90 = .ok (.iaload, 1) := by decide +kernel
theorem d_Mo_code_91 : decode b_Mo_code 91 = .ok (.ireturn, 1) := by decide +kernel
theorem d_Mo_action_0 : decode b_Mo_action 0 = .ok (.iload_n 1, 1) := by decide +kernel
theorem d_Mo_action_1 : decode b_Mo_action 1 = .ok (.ifCond .lt 36, 3) := by decide +kernel
theorem d_Mo_action_4 : decode b_Mo_action 4 = .ok (.iload_n 1, 1) := by decide +kernel
theorem d_Mo_action_5 : decode b_Mo_action 5 = .ok (.bipush 6, 2) := by decide +kernel
theorem d_Mo_action_7 : decode b_Mo_action 7 = .ok (.if_icmp .ge 30, 3) := by decide +kernel
theorem d_Mo_action_10 : decode b_Mo_action 10 = .ok (.iload_n 2, 1) := by decide +kernel
theorem d_Mo_action_11 : decode b_Mo_action 11 = .ok (.ifCond .lt 26, 3) := by decide +kernel
theorem d_Mo_action_14 : decode b_Mo_action 14 = .ok (.iload_n 2, 1) := by decide +kernel
theorem d_Mo_action_15 : decode b_Mo_action 15 = .ok (.aload_n 0, 1) := by decide +kernel
theorem d_Mo_action_16 : decode b_Mo_action 16 = .ok (.getfield 38, 3) := by decide +kernel
theorem d_Mo_action_19 : decode b_Mo_action 19 = .ok (.iload_n 1, 1) := by decide +kernel
theorem d_Mo_action_20 : decode b_Mo_action 20 = .ok (.iaload, 1) := by decide +kernel
theorem d_Mo_action_21 : decode b_Mo_action 21 = .ok (.if_icmp .ge 16, 3) := by decide +kernel
theorem d_Mo_action_24 : decode b_Mo_action 24 = .ok (.iload_n 3, 1) := by decide +kernel
theorem d_Mo_action_25 : decode b_Mo_action 25 = .ok (.ifCond .lt 12, 3) := by decide +kernel
theorem d_Mo_action_28 : decode b_Mo_action 28 = .ok (.iload_n 3, 1) := by decide +kernel
theorem d_Mo_action_29 : decode b_Mo_action 29 = .ok (.iconst 3, 1) := by decide +kernel
theorem d_Mo_action_30 : decode b_Mo_action 30 = .ok (.if_icmp .ge 7, 3) := by decide +kernel
theorem d_Mo_action_33 : decode b_Mo_action 33 = .ok (.iconst 1, 1) := by decide +kernel
theorem d_Mo_action_34 : decode b_Mo_action 34 = .ok (.goto 4, 3) := by decide +kernel
theorem d_Mo_action_37 : decode b_Mo_action 37 = .ok (.iconst 0, 1) := by decide +kernel
theorem d_Mo_action_38 : decode b_Mo_action 38 = .ok (.istore 4, 2) := by decide +kernel
theorem d_Mo_action_40 : decode b_Mo_action 40 = .ok (.aload_n 0, 1) := by decide +kernel
theorem d_Mo_action_41 : decode b_Mo_action 41 = .ok (.iload 4, 2) := by decide +kernel
theorem d_Mo_action_43 : decode b_Mo_action 43 = .ok (.ifCond .ne 7, 3) := by decide +kernel
theorem d_Mo_action_46 : decode b_Mo_action 46 = .ok (.iconst 1, 1) := by decide +kernel
theorem d_Mo_action_47 : decode b_Mo_action 47 = .ok (.goto 4, 3) := by decide +kernel
theorem d_Mo_action_50 : decode b_Mo_action 50 = .ok (.iconst 0, 1) := by decide +kernel
theorem d_Mo_action_51 : decode b_Mo_action 51 = .ok (.iconst 0, 1) := by decide +kernel
theorem d_Mo_action_52 : decode b_Mo_action 52 = .ok (.invokevirtual 108, 3) := by decide +kernel
theorem d_Mo_action_55 : decode b_Mo_action 55 = .ok (.ifCond .eq 5, 3) := by decide +kernel
theorem d_Mo_action_58 : decode b_Mo_action 58 = .ok (.iconst 0, 1) := by decide +kernel
theorem d_Mo_action_59 : decode b_Mo_action 59 = .ok (.ireturn, 1) := by decide +kernel
theorem d_Mo_action_60 : decode b_Mo_action 60 = .ok (.bipush 48, 2) := by decide +kernel
theorem d_Mo_action_62 : decode b_Mo_action 62 = .ok (.iload_n 1, 1) := by decide +kernel
theorem d_Mo_action_63 : decode b_Mo_action 63 = .ok (.imul, 1) := by decide +kernel
theorem d_Mo_action_64 : decode b_Mo_action 64 = .ok (.iload_n 2, 1) := by decide +kernel
theorem d_Mo_action_65 : decode b_Mo_action 65 = .ok (.iadd, 1) := by decide +kernel
theorem d_Mo_action_66 : decode b_Mo_action 66 = .ok (.istore 5, 2) := by decide +kernel
theorem d_Mo_action_68 : decode b_Mo_action 68 = .ok (.iload_n 3, 1) := by decide +kernel
theorem d_Mo_action_69 : decode b_Mo_action 69 = .ok (.ifCond .ne 13, 3) := by decide +kernel
theorem d_Mo_action_72 : decode b_Mo_action 72 = .ok (.aload_n 0, 1) := by decide +kernel
theorem d_Mo_action_73 : decode b_Mo_action 73 = .ok (.getfield 41, 3) := by decide +kernel
theorem d_Mo_action_76 : decode b_Mo_action 76 = .ok (.iload 5, 2) := by decide +kernel
theorem d_Mo_action_78 : decode b_Mo_action 78 = .ok (.iaload, 1) := by decide +kernel
theorem d_Mo_action_79 : decode b_Mo_action 79 = .ok (.goto 25, 3) := by decide +kernel
theorem d_Mo_action_82 : decode b_Mo_action 82 = .ok (.iload_n 3, 1) := by decide +kernel
theorem d_Mo_action_83 : decode b_Mo_action 83 = .ok (.iconst 1, 1) := by decide +kernel
theorem d_Mo_action_84 : decode b_Mo_action 84 = .ok (.if_icmp .ne 13, 3) := by decide +kernel
theorem d_Mo_action_87 : decode b_Mo_action 87 = .ok (.aload_n 0, 1) := by decide +kernel
theorem d_Mo_action_88 : decode b_Mo_action 88 = .ok (.getfield 44, 3) := by decide +kernel
theorem d_Mo_action_91 : decode b_Mo_action 91 = .ok (.iload 5, 2) := by decide +kernel
theorem d_Mo_action_93 : decode b_Mo_action 93 = .ok (.iaload, 1) := by decide +kernel
theorem d_Mo_action_94 : decode b_Mo_action 94 = .ok (.goto 10, 3) := by decide +kernel
theorem d_Mo_action_97 : decode b_Mo_action 97 = .ok (.aload_n 0, 1) := by decide +kernel
theorem d_Mo_action_98 : decode b_Mo_action 98 = .ok (.getfield 47, 3) := by decide +kernel
theorem d_Mo_action_101 : decode b_Mo_action 101 = .ok (.iload 5, 2) := by decide +kernel
theorem d_Mo_action_103 : decode b_Mo_action 103 = .ok (.iaload, 1) := by decide +kernel
theorem d_Mo_action_104 : decode b_Mo_action 104 = .ok (.ireturn, 1) := by decide +kernel
theorem d_Mo_site_0 : decode b_Mo_site 0 = .ok (.iload_n 1, 1) := by decide +kernel
theorem d_Mo_site_1 : decode b_Mo_site 1 = .ok (.ifCond .lt 36, 3) := by decide +kernel
theorem d_Mo_site_4 : decode b_Mo_site 4 = .ok (.iload_n 1, 1) := by decide +kernel
theorem d_Mo_site_5 : decode b_Mo_site 5 = .ok (.bipush 6, 2) := by decide +kernel
theorem d_Mo_site_7 : decode b_Mo_site 7 = .ok (.if_icmp .ge 30, 3) := by decide +kernel
theorem d_Mo_site_10 : decode b_Mo_site 10 = .ok (.iload_n 2, 1) := by decide +kernel
theorem d_Mo_site_11 : decode b_Mo_site 11 = .ok (.ifCond .lt 26, 3) := by decide +kernel
theorem d_Mo_site_14 : decode b_Mo_site 14 = .ok (.iload_n 2, 1) := by decide +kernel
theorem d_Mo_site_15 : decode b_Mo_site 15 = .ok (.aload_n 0, 1) := by decide +kernel
theorem d_Mo_site_16 : decode b_Mo_site 16 = .ok (.getfield 50, 3) := by decide +kernel
theorem d_Mo_site_19 : decode b_Mo_site 19 = .ok (.iload_n 1, 1) := by decide +kernel
theorem d_Mo_site_20 : decode b_Mo_site 20 = .ok (.iaload, 1) := by decide +kernel
theorem d_Mo_site_21 : decode b_Mo_site 21 = .ok (.if_icmp .ge 16, 3) := by decide +kernel
theorem d_Mo_site_24 : decode b_Mo_site 24 = .ok (.iload_n 3, 1) := by decide +kernel
theorem d_Mo_site_25 : decode b_Mo_site 25 = .ok (.ifCond .lt 12, 3) := by decide +kernel
theorem d_Mo_site_28 : decode b_Mo_site 28 = .ok (.iload_n 3, 1) := by decide +kernel
theorem d_Mo_site_29 : decode b_Mo_site 29 = .ok (.iconst 3, 1) := by decide +kernel
theorem d_Mo_site_30 : decode b_Mo_site 30 = .ok (.if_icmp .ge 7, 3) := by decide +kernel
theorem d_Mo_site_33 : decode b_Mo_site 33 = .ok (.iconst 1, 1) := by decide +kernel
theorem d_Mo_site_34 : decode b_Mo_site 34 = .ok (.goto 4, 3) := by decide +kernel
theorem d_Mo_site_37 : decode b_Mo_site 37 = .ok (.iconst 0, 1) := by decide +kernel
theorem d_Mo_site_38 : decode b_Mo_site 38 = .ok (.istore 4, 2) := by decide +kernel
theorem d_Mo_site_40 : decode b_Mo_site 40 = .ok (.aload_n 0, 1) := by decide +kernel
theorem d_Mo_site_41 : decode b_Mo_site 41 = .ok (.iload 4, 2) := by decide +kernel
theorem d_Mo_site_43 : decode b_Mo_site 43 = .ok (.ifCond .ne 7, 3) := by decide +kernel
theorem d_Mo_site_46 : decode b_Mo_site 46 = .ok (.iconst 1, 1) := by decide +kernel
theorem d_Mo_site_47 : decode b_Mo_site 47 = .ok (.goto 4, 3) := by decide +kernel
theorem d_Mo_site_50 : decode b_Mo_site 50 = .ok (.iconst 0, 1) := by decide +kernel
theorem d_Mo_site_51 : decode b_Mo_site 51 = .ok (.iconst 0, 1) := by decide +kernel
theorem d_Mo_site_52 : decode b_Mo_site 52 = .ok (.invokevirtual 108, 3) := by decide +kernel
theorem d_Mo_site_55 : decode b_Mo_site 55 = .ok (.ifCond .eq 5, 3) := by decide +kernel
theorem d_Mo_site_58 : decode b_Mo_site 58 = .ok (.iconst 0, 1) := by decide +kernel
theorem d_Mo_site_59 : decode b_Mo_site 59 = .ok (.ireturn, 1) := by decide +kernel
theorem d_Mo_site_60 : decode b_Mo_site 60 = .ok (.bipush 64, 2) := by decide +kernel
theorem d_Mo_site_62 : decode b_Mo_site 62 = .ok (.iload_n 1, 1) := by decide +kernel
theorem d_Mo_site_63 : decode b_Mo_site 63 = .ok (.imul, 1) := by decide +kernel
theorem d_Mo_site_64 : decode b_Mo_site 64 = .ok (.iload_n 2, 1) := by decide +kernel
theorem d_Mo_site_65 : decode b_Mo_site 65 = .ok (.iadd, 1) := by decide +kernel
theorem d_Mo_site_66 : decode b_Mo_site 66 = .ok (.istore 5, 2) := by decide +kernel
theorem d_Mo_site_68 : decode b_Mo_site 68 = .ok (.iload_n 3, 1) := by decide +kernel
theorem d_Mo_site_69 : decode b_Mo_site 69 = .ok (.ifCond .ne 13, 3) := by decide +kernel
theorem d_Mo_site_72 : decode b_Mo_site 72 = .ok (.aload_n 0, 1) := by decide +kernel
theorem d_Mo_site_73 : decode b_Mo_site 73 = .ok (.getfield 53, 3) := by decide +kernel
theorem d_Mo_site_76 : decode b_Mo_site 76 = .ok (.iload 5, 2) := by decide +kernel
theorem d_Mo_site_78 : decode b_Mo_site 78 = .ok (.iaload, 1) := by decide +kernel
theorem d_Mo_site_79 : decode b_Mo_site 79 = .ok (.goto 25, 3) := by decide +kernel
theorem d_Mo_site_82 : decode b_Mo_site 82 = .ok (.iload_n 3, 1) := by decide +kernel
theorem d_Mo_site_83 : decode b_Mo_site 83 = .ok (.iconst 1, 1) := by decide +kernel
theorem d_Mo_site_84 : decode b_Mo_site 84 = .ok (.if_icmp .ne 13, 3) := by decide +kernel
theorem d_Mo_site_87 : decode b_Mo_site 87 = .ok (.aload_n 0, 1) := by decide +kernel
theorem d_Mo_site_88 : decode b_Mo_site 88 = .ok (.getfield 56, 3) := by decide +kernel
theorem d_Mo_site_91 : decode b_Mo_site 91 = .ok (.iload 5, 2) := by decide +kernel
theorem d_Mo_site_93 : decode b_Mo_site 93 = .ok (.iaload, 1) := by decide +kernel
theorem d_Mo_site_94 : decode b_Mo_site 94 = .ok (.goto 10, 3) := by decide +kernel
theorem d_Mo_site_97 : decode b_Mo_site 97 = .ok (.aload_n 0, 1) := by decide +kernel
theorem d_Mo_site_98 : decode b_Mo_site 98 = .ok (.getfield 59, 3) := by decide +kernel
theorem d_Mo_site_101 : decode b_Mo_site 101 = .ok (.iload 5, 2) := by decide +kernel
theorem d_Mo_site_103 : decode b_Mo_site 103 = .ok (.iaload, 1) := by decide +kernel
theorem d_Mo_site_104 : decode b_Mo_site 104 = .ok (.ireturn, 1) := by decide +kernel
theorem d_Mo_run_0 : decode b_Mo_run 0 = .ok (.iload_n 1, 1) := by decide +kernel
theorem d_Mo_run_1 : decode b_Mo_run 1 = .ok (.iconst 0, 1) := by decide +kernel
theorem d_Mo_run_2 : decode b_Mo_run 2 = .ok (.iconst 5, 1) := by decide +kernel
theorem d_Mo_run_3 : decode b_Mo_run 3 = .ok (.invokestatic 104, 3) := by decide +kernel
theorem d_Mo_run_6 : decode b_Mo_run 6 = .ok (.istore_n 2, 1) := by decide +kernel
theorem d_Mo_run_7 : decode b_Mo_run 7 = .ok (.aload_n 0, 1) := by decide +kernel
theorem d_Mo_run_8 : decode b_Mo_run 8 = .ok (.iload_n 2, 1) := by decide +kernel
theorem d_Mo_run_9 : decode b_Mo_run 9 = .ok (.iload_n 2, 1) := by decide +kernel
theorem d_Mo_run_10 : decode b_Mo_run 10 = .ok (.ifCond .ne 16, 3) := by decide +kernel
theorem d_Mo_run_13 : decode b_Mo_run 13 = .ok (.aload_n 0, 1) := by decide +kernel
theorem d_Mo_run_14 : decode b_Mo_run 14 = .ok (.getfield 26, 3) := by decide +kernel
theorem d_Mo_run_17 : decode b_Mo_run 17 = .ok (.iload_n 1, 1) := by decide +kernel
theorem d_Mo_run_18 : decode b_Mo_run 18 = .ok (.iaload, 1) := by decide +kernel
theorem d_Mo_run_19 : decode b_Mo_run 19 = .ok (.ifCond .ne 7, 3) := by decide +kernel
theorem d_Mo_run_22 : decode b_Mo_run 22 = .ok (.iconst 1, 1) := by decide +kernel
theorem d_Mo_run_23 : decode b_Mo_run 23 = .ok (.goto 4, 3) := by decide +kernel
theorem d_Mo_run_26 : decode b_Mo_run 26 = .ok (.iconst 0, 1) := by decide +kernel
theorem d_Mo_run_27 : decode b_Mo_run 27 = .ok (.invokevirtual 108, 3) := by decide +kernel
theorem d_Mo_run_30 : decode b_Mo_run 30 = .ok (.ifCond .eq 5, 3) := by decide +kernel
theorem d_Mo_run_33 : decode b_Mo_run 33 = .ok (.iconst 0, 1) := by decide +kernel
theorem d_Mo_run_34 : decode b_Mo_run 34 = .ok (.ireturn, 1) := by decide +kernel
theorem d_Mo_run_35 : decode b_Mo_run 35 = .ok (.iconst 0, 1) := by decide +kernel
theorem d_Mo_run_36 : decode b_Mo_run 36 = .ok (.istore_n 3, 1) := by decide +kernel
theorem d_Mo_run_37 : decode b_Mo_run 37 = .ok (.iload_n 3, 1) := by decide +kernel
theorem d_Mo_run_38 : decode b_Mo_run 38 = .ok (.bipush 6, 2) := by decide +kernel
theorem d_Mo_run_40 : decode b_Mo_run 40 = .ok (.if_icmp .ge 25, 3) := by decide +kernel
theorem d_Mo_run_43 : decode b_Mo_run 43 = .ok (.aload_n 0, 1) := by decide +kernel
theorem d_Mo_run_44 : decode b_Mo_run 44 = .ok (.getfield 95, 3) := by decide +kernel
theorem d_Mo_run_47 : decode b_Mo_run 47 = .ok (.iload_n 3, 1) := by decide +kernel
theorem d_Mo_run_48 : decode b_Mo_run 48 = .ok (.iload_n 3, 1) := by decide +kernel
theorem d_Mo_run_49 : decode b_Mo_run 49 = .ok (.iconst 5, 1) := by decide +kernel
theorem d_Mo_run_50 : decode b_Mo_run 50 = .ok (.if_icmp .ne 7, 3) := by decide +kernel
theorem d_Mo_run_53 : decode b_Mo_run 53 = .ok (.iconst (-1), 1) := by decide +kernel
theorem d_Mo_run_54 : decode b_Mo_run 54 = .ok (.goto 4, 3) := by decide +kernel
theorem d_Mo_run_57 : decode b_Mo_run 57 = .ok (.iconst 0, 1) := by decide +kernel
theorem d_Mo_run_58 : decode b_Mo_run 58 = .ok (.iastore, 1) := by decide +kernel
theorem d_Mo_run_59 : decode b_Mo_run 59 = .ok (.iinc 3 1, 3) := by decide +kernel
theorem d_Mo_run_62 : decode b_Mo_run 62 = .ok (.goto (-25), 3) := by decide +kernel
theorem d_Mo_run_65 : decode b_Mo_run 65 = .ok (.aload_n 0, 1) := by decide +kernel
theorem d_Mo_run_66 : decode b_Mo_run 66 = .ok (.iconst 0, 1) := by decide +kernel
theorem d_Mo_run_67 : decode b_Mo_run 67 = .ok (.putfield 164, 3) := by decide +kernel
theorem d_Mo_run_70 : decode b_Mo_run 70 = .ok (.aload_n 0, 1) := by decide +kernel
theorem d_Mo_run_71 : decode b_Mo_run 71 = .ok (.iconst (-1), 1) := by decide +kernel
theorem d_Mo_run_72 : decode b_Mo_run 72 = .ok (.putfield 189, 3) := by decide +kernel
theorem d_Mo_run_75 : decode b_Mo_run 75 = .ok (.aload_n 0, 1) := by decide +kernel
theorem d_Mo_run_76 : decode b_Mo_run 76 = .ok (.iload_n 1, 1) := by decide +kernel
theorem d_Mo_run_77 : decode b_Mo_run 77 = .ok (.invokevirtual 195, 3) := by decide +kernel
theorem d_Mo_run_80 : decode b_Mo_run 80 = .ok (.aload_n 0, 1) := by decide +kernel
theorem d_Mo_run_81 : decode b_Mo_run 81 = .ok (.getfield 189, 3) := by decide +kernel
theorem d_Mo_run_84 : decode b_Mo_run 84 = .ok (.ifCond .ge 40, 3) := by decide +kernel
theorem d_Mo_run_87 : decode b_Mo_run 87 = .ok (.aload_n 0, 1) := by decide +kernel
theorem d_Mo_run_88 : decode b_Mo_run 88 = .ok (.getfield 95, 3) := by decide +kernel
theorem d_Mo_run_91 : decode b_Mo_run 91 = .ok (.iconst 1, 1) := by decide +kernel
theorem d_Mo_run_92 : decode b_Mo_run 92 = .ok (.iaload, 1) := by decide +kernel
theorem d_Mo_run_93 : decode b_Mo_run 93 = .ok (.sipush 300, 3) := by decide +kernel
theorem d_Mo_run_96 : decode b_Mo_run 96 = .ok (.if_icmp .ne 11, 3) := by decide +kernel
theorem d_Mo_run_99 : decode b_Mo_run 99 = .ok (.aload_n 0, 1) := by decide +kernel
theorem d_Mo_run_100 : decode b_Mo_run 100 = .ok (.iconst 3, 1) := by decide +kernel
theorem d_Mo_run_101 : decode b_Mo_run 101 = .ok (.putfield 189, 3) := by decide +kernel
theorem d_Mo_run_104 : decode b_Mo_run 104 = .ok (.goto (-24), 3) := by decide +kernel
theorem d_Mo_run_107 : decode b_Mo_run 107 = .ok (.aload_n 0, 1) := by decide +kernel
theorem d_Mo_run_108 : decode b_Mo_run 108 = .ok (.getfield 95, 3) := by decide +kernel
theorem d_Mo_run_111 : decode b_Mo_run 111 = .ok (.iconst 1, 1) := by decide +kernel
theorem d_Mo_run_112 : decode b_Mo_run 112 = .ok (.dup2, 1) := by decide +kernel
theorem d_Mo_run_113 : decode b_Mo_run 113 = .ok (.iaload, 1) := by decide +kernel
theorem d_Mo_run_114 : decode b_Mo_run 114 = .ok (.iconst 1, 1) := by decide +kernel
theorem d_Mo_run_115 : decode b_Mo_run 115 = .ok (.iadd, 1) := by decide +kernel
theorem d_Mo_run_116 : decode b_Mo_run 116 = .ok (.iastore, 1) := by decide +kernel
theorem d_Mo_run_117 : decode b_Mo_run 117 = .ok (.aload_n 0, 1) := by decide +kernel
theorem d_Mo_run_118 : decode b_Mo_run 118 = .ok (.invokevirtual 207, 3) := by decide +kernel
theorem d_Mo_run_121 : decode b_Mo_run 121 = .ok (.goto (-41), 3) := by decide +kernel
theorem d_Mo_run_124 : decode b_Mo_run 124 = .ok (.aload_n 0, 1) := by decide +kernel
theorem d_Mo_run_125 : decode b_Mo_run 125 = .ok (.getfield 189, 3) := by decide +kernel
theorem d_Mo_run_128 : decode b_Mo_run 128 = .ok (.ireturn, 1) := by decide +kernel
theorem d_Mo_enters_0 : decode b_Mo_enters 0 = .ok (.aload_n 0, 1) := by decide +kernel
theorem d_Mo_enters_1 : decode b_Mo_enters 1 = .ok (.getfield 80, 3) := by decide +kernel
theorem d_Mo_enters_4 : decode b_Mo_enters 4 = .ok (.aload_n 0, 1) := by decide +kernel
theorem d_Mo_enters_5 : decode b_Mo_enters 5 = .ok (.getfield 164, 3) := by decide +kernel
theorem d_Mo_enters_8 : decode b_Mo_enters 8 = .ok (.iload_n 1, 1) := by decide +kernel
theorem d_Mo_enters_9 : decode b_Mo_enters 9 = .ok (.iastore, 1) := by decide +kernel
theorem d_Mo_enters_10 : decode b_Mo_enters 10 = .ok (.aload_n 0, 1) := by decide +kernel
theorem d_Mo_enters_11 : decode b_Mo_enters 11 = .ok (.getfield 83, 3) := by decide +kernel
theorem d_Mo_enters_14 : decode b_Mo_enters 14 = .ok (.aload_n 0, 1) := by decide +kernel
theorem d_Mo_enters_15 : decode b_Mo_enters 15 = .ok (.getfield 164, 3) := by decide +kernel
theorem d_Mo_enters_18 : decode b_Mo_enters 18 = .ok (.iconst 0, 1) := by decide +kernel
theorem d_Mo_enters_19 : decode b_Mo_enters 19 = .ok (.iastore, 1) := by decide +kernel
theorem d_Mo_enters_20 : decode b_Mo_enters 20 = .ok (.aload_n 0, 1) := by decide +kernel
theorem d_Mo_enters_21 : decode b_Mo_enters 21 = .ok (.getfield 86, 3) := by decide +kernel
theorem d_Mo_enters_24 : decode b_Mo_enters 24 = .ok (.aload_n 0, 1) := by decide +kernel
theorem d_Mo_enters_25 : decode b_Mo_enters 25 = .ok (.getfield 164, 3) := by decide +kernel
theorem d_Mo_enters_28 : decode b_Mo_enters 28 = .ok (.iconst 0, 1) := by decide +kernel
theorem d_Mo_enters_29 : decode b_Mo_enters 29 = .ok (.iastore, 1) := by decide +kernel
theorem d_Mo_enters_30 : decode b_Mo_enters 30 = .ok (.aload_n 0, 1) := by decide +kernel
theorem d_Mo_enters_31 : decode b_Mo_enters 31 = .ok (.getfield 89, 3) := by decide +kernel
theorem d_Mo_enters_34 : decode b_Mo_enters 34 = .ok (.aload_n 0, 1) := by decide +kernel
theorem d_Mo_enters_35 : decode b_Mo_enters 35 = .ok (.getfield 164, 3) := by decide +kernel
theorem d_Mo_enters_38 : decode b_Mo_enters 38 = .ok (.iconst 0, 1) := by decide +kernel
theorem d_Mo_enters_39 : decode b_Mo_enters 39 = .ok (.iastore, 1) := by decide +kernel
theorem d_Mo_enters_40 : decode b_Mo_enters 40 = .ok (.aload_n 0, 1) := by decide +kernel
theorem d_Mo_enters_41 : decode b_Mo_enters 41 = .ok (.dup, 1) := by decide +kernel
theorem d_Mo_enters_42 : decode b_Mo_enters 42 = .ok (.getfield 164, 3) := by decide +kernel
theorem d_Mo_enters_45 : decode b_Mo_enters 45 = .ok (.iconst 1, 1) := by decide +kernel
theorem d_Mo_enters_46 : decode b_Mo_enters 46 = .ok (.iadd, 1) := by decide +kernel
theorem d_Mo_enters_47 : decode b_Mo_enters 47 = .ok (.putfield 164, 3) := by decide +kernel
theorem d_Mo_enters_50 : decode b_Mo_enters 50 = .ok (.aload_n 0, 1) := by decide +kernel
theorem d_Mo_enters_51 : decode b_Mo_enters 51 = .ok (.getfield 164, 3) := by decide +kernel
theorem d_Mo_enters_54 : decode b_Mo_enters 54 = .ok (.aload_n 0, 1) := by decide +kernel
theorem d_Mo_enters_55 : decode b_Mo_enters 55 = .ok (.getfield 95, 3) := by decide +kernel
theorem d_Mo_enters_58 : decode b_Mo_enters 58 = .ok (.iconst 4, 1) := by decide +kernel
theorem d_Mo_enters_59 : decode b_Mo_enters 59 = .ok (.iaload, 1) := by decide +kernel
theorem d_Mo_enters_60 : decode b_Mo_enters 60 = .ok (.if_icmp .le 13, 3) := by decide +kernel
theorem d_Mo_enters_63 : decode b_Mo_enters 63 = .ok (.aload_n 0, 1) := by decide +kernel
theorem d_Mo_enters_64 : decode b_Mo_enters 64 = .ok (.getfield 95, 3) := by decide +kernel
theorem d_Mo_enters_67 : decode b_Mo_enters 67 = .ok (.iconst 4, 1) := by decide +kernel
end
section
theorem d_Mo_enters_68 : decode b_Mo_enters 68 = .ok (.aload_n 0, 1) := by decide +kernel
theorem d_Mo_enters_69 : decode b_Mo_enters 69 = .ok (.getfield 164, 3) := by decide +kernel
theorem d_Mo_enters_72 : decode b_Mo_enters 72 = .ok (.iastore, 1) := by decide +kernel
theorem d_Mo_enters_73 : decode b_Mo_enters 73 = .ok (.return_, 1) := by decide +kernel
theorem d_Mo_step_0 : decode b_Mo_step 0 = .ok (.aload_n 0, 1) := by decide +kernel
theorem d_Mo_step_1 : decode b_Mo_step 1 = .ok (.getfield 164, 3) := by decide +kernel
theorem d_Mo_step_4 : decode b_Mo_step 4 = .ok (.iconst 1, 1) := by decide +kernel
theorem d_Mo_step_5 : decode b_Mo_step 5 = .ok (.isub, 1) := by decide +kernel
theorem d_Mo_step_6 : decode b_Mo_step 6 = .ok (.istore_n 1, 1) := by decide +kernel
theorem d_Mo_step_7 : decode b_Mo_step 7 = .ok (.sipush 128, 3) := by decide +kernel
theorem d_Mo_step_10 : decode b_Mo_step 10 = .ok (.aload_n 0, 1) := by decide +kernel
theorem d_Mo_step_11 : decode b_Mo_step 11 = .ok (.getfield 80, 3) := by decide +kernel
theorem d_Mo_step_14 : decode b_Mo_step 14 = .ok (.iload_n 1, 1) := by decide +kernel
theorem d_Mo_step_15 : decode b_Mo_step 15 = .ok (.iaload, 1) := by decide +kernel
theorem d_Mo_step_16 : decode b_Mo_step 16 = .ok (.imul, 1) := by decide +kernel
theorem d_Mo_step_17 : decode b_Mo_step 17 = .ok (.aload_n 0, 1) := by decide +kernel
theorem d_Mo_step_18 : decode b_Mo_step 18 = .ok (.getfield 86, 3) := by decide +kernel
theorem d_Mo_step_21 : decode b_Mo_step 21 = .ok (.iload_n 1, 1) := by decide +kernel
theorem d_Mo_step_22 : decode b_Mo_step 22 = .ok (.iaload, 1) := by decide +kernel
theorem d_Mo_step_23 : decode b_Mo_step 23 = .ok (.iadd, 1) := by decide +kernel
theorem d_Mo_step_24 : decode b_Mo_step 24 = .ok (.istore_n 2, 1) := by decide +kernel
theorem d_Mo_step_25 : decode b_Mo_step 25 = .ok (.aload_n 0, 1) := by decide +kernel
theorem d_Mo_step_26 : decode b_Mo_step 26 = .ok (.getfield 32, 3) := by decide +kernel
theorem d_Mo_step_29 : decode b_Mo_step 29 = .ok (.iload_n 2, 1) := by decide +kernel
theorem d_Mo_step_30 : decode b_Mo_step 30 = .ok (.iaload, 1) := by decide +kernel
theorem d_Mo_step_31 : decode b_Mo_step 31 = .ok (.istore_n 3, 1) := by decide +kernel
theorem d_Mo_step_32 : decode b_Mo_step 32 = .ok (.aload_n 0, 1) := by decide +kernel
theorem d_Mo_step_33 : decode b_Mo_step 33 = .ok (.getfield 83, 3) := by decide +kernel
theorem d_Mo_step_36 : decode b_Mo_step 36 = .ok (.iload_n 1, 1) := by decide +kernel
theorem d_Mo_step_37 : decode b_Mo_step 37 = .ok (.aload_n 0, 1) := by decide +kernel
theorem d_Mo_step_38 : decode b_Mo_step 38 = .ok (.getfield 86, 3) := by decide +kernel
theorem d_Mo_step_41 : decode b_Mo_step 41 = .ok (.iload_n 1, 1) := by decide +kernel
theorem d_Mo_step_42 : decode b_Mo_step 42 = .ok (.iaload, 1) := by decide +kernel
theorem d_Mo_step_43 : decode b_Mo_step 43 = .ok (.iastore, 1) := by decide +kernel
theorem d_Mo_step_44 : decode b_Mo_step 44 = .ok (.aload_n 0, 1) := by decide +kernel
theorem d_Mo_step_45 : decode b_Mo_step 45 = .ok (.getfield 86, 3) := by decide +kernel
theorem d_Mo_step_48 : decode b_Mo_step 48 = .ok (.iload_n 1, 1) := by decide +kernel
theorem d_Mo_step_49 : decode b_Mo_step 49 = .ok (.dup2, 1) := by decide +kernel
theorem d_Mo_step_50 : decode b_Mo_step 50 = .ok (.iaload, 1) := by decide +kernel
theorem d_Mo_step_51 : decode b_Mo_step 51 = .ok (.iconst 1, 1) := by decide +kernel
theorem d_Mo_step_52 : decode b_Mo_step 52 = .ok (.iadd, 1) := by decide +kernel
theorem d_Mo_step_53 : decode b_Mo_step 53 = .ok (.iastore, 1) := by decide +kernel
theorem d_Mo_step_54 : decode b_Mo_step 54 = .ok (.aload_n 0, 1) := by decide +kernel
theorem d_Mo_step_55 : decode b_Mo_step 55 = .ok (.getfield 29, 3) := by decide +kernel
theorem d_Mo_step_58 : decode b_Mo_step 58 = .ok (.iload_n 2, 1) := by decide +kernel
theorem d_Mo_step_59 : decode b_Mo_step 59 = .ok (.iaload, 1) := by decide +kernel
theorem d_Mo_step_60 : decode b_Mo_step 60 = .ok (.tableswitch 178 0 7 #[48, 56, 64, 72, 97, 107, 139, 152], 48) := by decide +kernel
theorem d_Mo_step_108 : decode b_Mo_step 108 = .ok (.aload_n 0, 1) := by decide +kernel
theorem d_Mo_step_109 : decode b_Mo_step 109 = .ok (.iload_n 3, 1) := by decide +kernel
theorem d_Mo_step_110 : decode b_Mo_step 110 = .ok (.invokevirtual 198, 3) := by decide +kernel
theorem d_Mo_step_113 : decode b_Mo_step 113 = .ok (.goto 147, 3) := by decide +kernel
theorem d_Mo_step_116 : decode b_Mo_step 116 = .ok (.aload_n 0, 1) := by decide +kernel
theorem d_Mo_step_117 : decode b_Mo_step 117 = .ok (.iload_n 3, 1) := by decide +kernel
theorem d_Mo_step_118 : decode b_Mo_step 118 = .ok (.invokevirtual 201, 3) := by decide +kernel
theorem d_Mo_step_121 : decode b_Mo_step 121 = .ok (.goto 139, 3) := by decide +kernel
theorem d_Mo_step_124 : decode b_Mo_step 124 = .ok (.aload_n 0, 1) := by decide +kernel
theorem d_Mo_step_125 : decode b_Mo_step 125 = .ok (.iload_n 3, 1) := by decide +kernel
theorem d_Mo_step_126 : decode b_Mo_step 126 = .ok (.invokevirtual 204, 3) := by decide +kernel
theorem d_Mo_step_129 : decode b_Mo_step 129 = .ok (.goto 131, 3) := by decide +kernel
theorem d_Mo_step_132 : decode b_Mo_step 132 = .ok (.aload_n 0, 1) := by decide +kernel
theorem d_Mo_step_133 : decode b_Mo_step 133 = .ok (.aload_n 0, 1) := by decide +kernel
theorem d_Mo_step_134 : decode b_Mo_step 134 = .ok (.getfield 92, 3) := by decide +kernel
theorem d_Mo_step_137 : decode b_Mo_step 137 = .ok (.bipush 24, 2) := by decide +kernel
theorem d_Mo_step_139 : decode b_Mo_step 139 = .ok (.iload_n 1, 1) := by decide +kernel
theorem d_Mo_step_140 : decode b_Mo_step 140 = .ok (.imul, 1) := by decide +kernel
theorem d_Mo_step_141 : decode b_Mo_step 141 = .ok (.aload_n 0, 1) := by decide +kernel
theorem d_Mo_step_142 : decode b_Mo_step 142 = .ok (.getfield 89, 3) := by decide +kernel
theorem d_Mo_step_145 : decode b_Mo_step 145 = .ok (.iload_n 1, 1) := by decide +kernel
theorem d_Mo_step_146 : decode b_Mo_step 146 = .ok (.iaload, 1) := by decide +kernel
theorem d_Mo_step_147 : decode b_Mo_step 147 = .ok (.iadd, 1) := by decide +kernel
theorem d_Mo_step_148 : decode b_Mo_step 148 = .ok (.iconst 1, 1) := by decide +kernel
theorem d_Mo_step_149 : decode b_Mo_step 149 = .ok (.isub, 1) := by decide +kernel
theorem d_Mo_step_150 : decode b_Mo_step 150 = .ok (.iaload, 1) := by decide +kernel
theorem d_Mo_step_151 : decode b_Mo_step 151 = .ok (.invokevirtual 204, 3) := by decide +kernel
theorem d_Mo_step_154 : decode b_Mo_step 154 = .ok (.goto 106, 3) := by decide +kernel
theorem d_Mo_step_157 : decode b_Mo_step 157 = .ok (.aload_n 0, 1) := by decide +kernel
theorem d_Mo_step_158 : decode b_Mo_step 158 = .ok (.getfield 86, 3) := by decide +kernel
theorem d_Mo_step_161 : decode b_Mo_step 161 = .ok (.iload_n 1, 1) := by decide +kernel
theorem d_Mo_step_162 : decode b_Mo_step 162 = .ok (.iload_n 3, 1) := by decide +kernel
theorem d_Mo_step_163 : decode b_Mo_step 163 = .ok (.iastore, 1) := by decide +kernel
theorem d_Mo_step_164 : decode b_Mo_step 164 = .ok (.goto 96, 3) := by decide +kernel
theorem d_Mo_step_167 : decode b_Mo_step 167 = .ok (.aload_n 0, 1) := by decide +kernel
theorem d_Mo_step_168 : decode b_Mo_step 168 = .ok (.bipush 100, 2) := by decide +kernel
theorem d_Mo_step_170 : decode b_Mo_step 170 = .ok (.iload_n 3, 1) := by decide +kernel
theorem d_Mo_step_171 : decode b_Mo_step 171 = .ok (.iadd, 1) := by decide +kernel
theorem d_Mo_step_172 : decode b_Mo_step 172 = .ok (.invokevirtual 198, 3) := by decide +kernel
theorem d_Mo_step_175 : decode b_Mo_step 175 = .ok (.aload_n 0, 1) := by decide +kernel
theorem d_Mo_step_176 : decode b_Mo_step 176 = .ok (.getfield 95, 3) := by decide +kernel
theorem d_Mo_step_179 : decode b_Mo_step 179 = .ok (.iconst 2, 1) := by decide +kernel
theorem d_Mo_step_180 : decode b_Mo_step 180 = .ok (.dup2, 1) := by decide +kernel
theorem d_Mo_step_181 : decode b_Mo_step 181 = .ok (.iaload, 1) := by decide +kernel
theorem d_Mo_step_182 : decode b_Mo_step 182 = .ok (.aload_n 0, 1) := by decide +kernel
theorem d_Mo_step_183 : decode b_Mo_step 183 = .ok (.getfield 189, 3) := by decide +kernel
theorem d_Mo_step_186 : decode b_Mo_step 186 = .ok (.ifCond .ge 7, 3) := by decide +kernel
theorem d_Mo_step_189 : decode b_Mo_step 189 = .ok (.iconst 1, 1) := by decide +kernel
theorem d_Mo_step_190 : decode b_Mo_step 190 = .ok (.goto 4, 3) := by decide +kernel
theorem d_Mo_step_193 : decode b_Mo_step 193 = .ok (.iconst 0, 1) := by decide +kernel
theorem d_Mo_step_194 : decode b_Mo_step 194 = .ok (.iadd, 1) := by decide +kernel
theorem d_Mo_step_195 : decode b_Mo_step 195 = .ok (.iastore, 1) := by decide +kernel
theorem d_Mo_step_196 : decode b_Mo_step 196 = .ok (.goto 64, 3) := by decide +kernel
theorem d_Mo_step_199 : decode b_Mo_step 199 = .ok (.aload_n 0, 1) := by decide +kernel
theorem d_Mo_step_200 : decode b_Mo_step 200 = .ok (.getfield 89, 3) := by decide +kernel
theorem d_Mo_step_203 : decode b_Mo_step 203 = .ok (.iload_n 1, 1) := by decide +kernel
theorem d_Mo_step_204 : decode b_Mo_step 204 = .ok (.dup2, 1) := by decide +kernel
theorem d_Mo_step_205 : decode b_Mo_step 205 = .ok (.iaload, 1) := by decide +kernel
theorem d_Mo_step_206 : decode b_Mo_step 206 = .ok (.iconst 1, 1) := by decide +kernel
theorem d_Mo_step_207 : decode b_Mo_step 207 = .ok (.isub, 1) := by decide +kernel
theorem d_Mo_step_208 : decode b_Mo_step 208 = .ok (.iastore, 1) := by decide +kernel
theorem d_Mo_step_209 : decode b_Mo_step 209 = .ok (.goto 51, 3) := by decide +kernel
theorem d_Mo_step_212 : decode b_Mo_step 212 = .ok (.aload_n 0, 1) := by decide +kernel
theorem d_Mo_step_213 : decode b_Mo_step 213 = .ok (.aload_n 0, 1) := by decide +kernel
theorem d_Mo_step_214 : decode b_Mo_step 214 = .ok (.getfield 47, 3) := by decide +kernel
theorem d_Mo_step_217 : decode b_Mo_step 217 = .ok (.bipush 48, 2) := by decide +kernel
theorem d_Mo_step_219 : decode b_Mo_step 219 = .ok (.aload_n 0, 1) := by decide +kernel
theorem d_Mo_step_220 : decode b_Mo_step 220 = .ok (.getfield 80, 3) := by decide +kernel
theorem d_Mo_step_223 : decode b_Mo_step 223 = .ok (.iload_n 1, 1) := by decide +kernel
theorem d_Mo_step_224 : decode b_Mo_step 224 = .ok (.iaload, 1) := by decide +kernel
theorem d_Mo_step_225 : decode b_Mo_step 225 = .ok (.imul, 1) := by decide +kernel
theorem d_Mo_step_226 : decode b_Mo_step 226 = .ok (.aload_n 0, 1) := by decide +kernel
theorem d_Mo_step_227 : decode b_Mo_step 227 = .ok (.getfield 183, 3) := by decide +kernel
theorem d_Mo_step_230 : decode b_Mo_step 230 = .ok (.iadd, 1) := by decide +kernel
theorem d_Mo_step_231 : decode b_Mo_step 231 = .ok (.iaload, 1) := by decide +kernel
theorem d_Mo_step_232 : decode b_Mo_step 232 = .ok (.invokevirtual 192, 3) := by decide +kernel
theorem d_Mo_step_235 : decode b_Mo_step 235 = .ok (.goto 25, 3) := by decide +kernel
theorem d_Mo_step_238 : decode b_Mo_step 238 = .ok (.aload_n 0, 1) := by decide +kernel
theorem d_Mo_step_239 : decode b_Mo_step 239 = .ok (.dup, 1) := by decide +kernel
theorem d_Mo_step_240 : decode b_Mo_step 240 = .ok (.getfield 164, 3) := by decide +kernel
theorem d_Mo_step_243 : decode b_Mo_step 243 = .ok (.iconst 1, 1) := by decide +kernel
theorem d_Mo_step_244 : decode b_Mo_step 244 = .ok (.isub, 1) := by decide +kernel
theorem d_Mo_step_245 : decode b_Mo_step 245 = .ok (.putfield 164, 3) := by decide +kernel
theorem d_Mo_step_248 : decode b_Mo_step 248 = .ok (.aload_n 0, 1) := by decide +kernel
theorem d_Mo_step_249 : decode b_Mo_step 249 = .ok (.getfield 164, 3) := by decide +kernel
theorem d_Mo_step_252 : decode b_Mo_step 252 = .ok (.ifCond .ne 8, 3) := by decide +kernel
theorem d_Mo_step_255 : decode b_Mo_step 255 = .ok (.aload_n 0, 1) := by decide +kernel
theorem d_Mo_step_256 : decode b_Mo_step 256 = .ok (.iconst 0, 1) := by decide +kernel
theorem d_Mo_step_257 : decode b_Mo_step 257 = .ok (.putfield 189, 3) := by decide +kernel
theorem d_Mo_step_260 : decode b_Mo_step 260 = .ok (.return_, 1) := by decide +kernel
theorem d_Mo_puts_0 : decode b_Mo_puts 0 = .ok (.aload_n 0, 1) := by decide +kernel
theorem d_Mo_puts_1 : decode b_Mo_puts 1 = .ok (.getfield 95, 3) := by decide +kernel
theorem d_Mo_puts_4 : decode b_Mo_puts 4 = .ok (.iconst 0, 1) := by decide +kernel
theorem d_Mo_puts_5 : decode b_Mo_puts 5 = .ok (.iaload, 1) := by decide +kernel
theorem d_Mo_puts_6 : decode b_Mo_puts 6 = .ok (.bipush 60, 2) := by decide +kernel
theorem d_Mo_puts_8 : decode b_Mo_puts 8 = .ok (.if_icmp .ne 9, 3) := by decide +kernel
theorem d_Mo_puts_11 : decode b_Mo_puts 11 = .ok (.aload_n 0, 1) := by decide +kernel
theorem d_Mo_puts_12 : decode b_Mo_puts 12 = .ok (.iconst 5, 1) := by decide +kernel
theorem d_Mo_puts_13 : decode b_Mo_puts 13 = .ok (.putfield 189, 3) := by decide +kernel
theorem d_Mo_puts_16 : decode b_Mo_puts 16 = .ok (.return_, 1) := by decide +kernel
theorem d_Mo_puts_17 : decode b_Mo_puts 17 = .ok (.aload_n 0, 1) := by decide +kernel
theorem d_Mo_puts_18 : decode b_Mo_puts 18 = .ok (.getfield 98, 3) := by decide +kernel
theorem d_Mo_puts_21 : decode b_Mo_puts 21 = .ok (.aload_n 0, 1) := by decide +kernel
theorem d_Mo_puts_22 : decode b_Mo_puts 22 = .ok (.getfield 95, 3) := by decide +kernel
theorem d_Mo_puts_25 : decode b_Mo_puts 25 = .ok (.iconst 0, 1) := by decide +kernel
theorem d_Mo_puts_26 : decode b_Mo_puts 26 = .ok (.iaload, 1) := by decide +kernel
theorem d_Mo_puts_27 : decode b_Mo_puts 27 = .ok (.iload_n 1, 1) := by decide +kernel
theorem d_Mo_puts_28 : decode b_Mo_puts 28 = .ok (.iastore, 1) := by decide +kernel
theorem d_Mo_puts_29 : decode b_Mo_puts 29 = .ok (.aload_n 0, 1) := by decide +kernel
theorem d_Mo_puts_30 : decode b_Mo_puts 30 = .ok (.getfield 95, 3) := by decide +kernel
theorem d_Mo_puts_33 : decode b_Mo_puts 33 = .ok (.iconst 0, 1) := by decide +kernel
theorem d_Mo_puts_34 : decode b_Mo_puts 34 = .ok (.dup2, 1) := by decide +kernel
theorem d_Mo_puts_35 : decode b_Mo_puts 35 = .ok (.iaload, 1) := by decide +kernel
theorem d_Mo_puts_36 : decode b_Mo_puts 36 = .ok (.iconst 1, 1) := by decide +kernel
theorem d_Mo_puts_37 : decode b_Mo_puts 37 = .ok (.iadd, 1) := by decide +kernel
theorem d_Mo_puts_38 : decode b_Mo_puts 38 = .ok (.iastore, 1) := by decide +kernel
theorem d_Mo_puts_39 : decode b_Mo_puts 39 = .ok (.return_, 1) := by decide +kernel
theorem d_Mo_calls_0 : decode b_Mo_calls 0 = .ok (.aload_n 0, 1) := by decide +kernel
theorem d_Mo_calls_1 : decode b_Mo_calls 1 = .ok (.getfield 26, 3) := by decide +kernel
theorem d_Mo_calls_4 : decode b_Mo_calls 4 = .ok (.iload_n 1, 1) := by decide +kernel
theorem d_Mo_calls_5 : decode b_Mo_calls 5 = .ok (.iaload, 1) := by decide +kernel
theorem d_Mo_calls_6 : decode b_Mo_calls 6 = .ok (.ifCond .ne 11, 3) := by decide +kernel
theorem d_Mo_calls_9 : decode b_Mo_calls 9 = .ok (.aload_n 0, 1) := by decide +kernel
theorem d_Mo_calls_10 : decode b_Mo_calls 10 = .ok (.iconst 4, 1) := by decide +kernel
theorem d_Mo_calls_11 : decode b_Mo_calls 11 = .ok (.putfield 189, 3) := by decide +kernel
theorem d_Mo_calls_14 : decode b_Mo_calls 14 = .ok (.goto 25, 3) := by decide +kernel
theorem d_Mo_calls_17 : decode b_Mo_calls 17 = .ok (.aload_n 0, 1) := by decide +kernel
theorem d_Mo_calls_18 : decode b_Mo_calls 18 = .ok (.getfield 164, 3) := by decide +kernel
theorem d_Mo_calls_21 : decode b_Mo_calls 21 = .ok (.bipush 8, 2) := by decide +kernel
theorem d_Mo_calls_23 : decode b_Mo_calls 23 = .ok (.if_icmp .ne 11, 3) := by decide +kernel
theorem d_Mo_calls_26 : decode b_Mo_calls 26 = .ok (.aload_n 0, 1) := by decide +kernel
theorem d_Mo_calls_27 : decode b_Mo_calls 27 = .ok (.iconst 2, 1) := by decide +kernel
theorem d_Mo_calls_28 : decode b_Mo_calls 28 = .ok (.putfield 189, 3) := by decide +kernel
theorem d_Mo_calls_31 : decode b_Mo_calls 31 = .ok (.goto 8, 3) := by decide +kernel
theorem d_Mo_calls_34 : decode b_Mo_calls 34 = .ok (.aload_n 0, 1) := by decide +kernel
theorem d_Mo_calls_35 : decode b_Mo_calls 35 = .ok (.iload_n 1, 1) := by decide +kernel
theorem d_Mo_calls_36 : decode b_Mo_calls 36 = .ok (.invokevirtual 195, 3) := by decide +kernel
theorem d_Mo_calls_39 : decode b_Mo_calls 39 = .ok (.return_, 1) := by decide +kernel
theorem d_Mo_raises_0 : decode b_Mo_raises 0 = .ok (.aload_n 0, 1) := by decide +kernel
theorem d_Mo_raises_1 : decode b_Mo_raises 1 = .ok (.iload_n 1, 1) := by decide +kernel
theorem d_Mo_raises_2 : decode b_Mo_raises 2 = .ok (.putfield 171, 3) := by decide +kernel
theorem d_Mo_raises_5 : decode b_Mo_raises 5 = .ok (.aload_n 0, 1) := by decide +kernel
theorem d_Mo_raises_6 : decode b_Mo_raises 6 = .ok (.invokevirtual 186, 3) := by decide +kernel
theorem d_Mo_raises_9 : decode b_Mo_raises 9 = .ok (.ifCond .ne 16, 3) := by decide +kernel
theorem d_Mo_raises_12 : decode b_Mo_raises 12 = .ok (.aload_n 0, 1) := by decide +kernel
theorem d_Mo_raises_13 : decode b_Mo_raises 13 = .ok (.getfield 95, 3) := by decide +kernel
theorem d_Mo_raises_16 : decode b_Mo_raises 16 = .ok (.iconst 5, 1) := by decide +kernel
theorem d_Mo_raises_17 : decode b_Mo_raises 17 = .ok (.iload_n 1, 1) := by decide +kernel
theorem d_Mo_raises_18 : decode b_Mo_raises 18 = .ok (.iastore, 1) := by decide +kernel
theorem d_Mo_raises_19 : decode b_Mo_raises 19 = .ok (.aload_n 0, 1) := by decide +kernel
theorem d_Mo_raises_20 : decode b_Mo_raises 20 = .ok (.iconst 1, 1) := by decide +kernel
theorem d_Mo_raises_21 : decode b_Mo_raises 21 = .ok (.putfield 189, 3) := by decide +kernel
theorem d_Mo_raises_24 : decode b_Mo_raises 24 = .ok (.return_, 1) := by decide +kernel
theorem d_Mo_raises_25 : decode b_Mo_raises 25 = .ok (.aload_n 0, 1) := by decide +kernel
theorem d_Mo_raises_26 : decode b_Mo_raises 26 = .ok (.getfield 95, 3) := by decide +kernel
theorem d_Mo_raises_29 : decode b_Mo_raises 29 = .ok (.iconst 3, 1) := by decide +kernel
theorem d_Mo_raises_30 : decode b_Mo_raises 30 = .ok (.dup2, 1) := by decide +kernel
theorem d_Mo_raises_31 : decode b_Mo_raises 31 = .ok (.iaload, 1) := by decide +kernel
theorem d_Mo_raises_32 : decode b_Mo_raises 32 = .ok (.iconst 1, 1) := by decide +kernel
theorem d_Mo_raises_33 : decode b_Mo_raises 33 = .ok (.iadd, 1) := by decide +kernel
theorem d_Mo_raises_34 : decode b_Mo_raises 34 = .ok (.iastore, 1) := by decide +kernel
theorem d_Mo_raises_35 : decode b_Mo_raises 35 = .ok (.aload_n 0, 1) := by decide +kernel
theorem d_Mo_raises_36 : decode b_Mo_raises 36 = .ok (.aload_n 0, 1) := by decide +kernel
theorem d_Mo_raises_37 : decode b_Mo_raises 37 = .ok (.aload_n 0, 1) := by decide +kernel
theorem d_Mo_raises_38 : decode b_Mo_raises 38 = .ok (.getfield 164, 3) := by decide +kernel
theorem d_Mo_raises_41 : decode b_Mo_raises 41 = .ok (.iconst 1, 1) := by decide +kernel
theorem d_Mo_raises_42 : decode b_Mo_raises 42 = .ok (.isub, 1) := by decide +kernel
theorem d_Mo_raises_43 : decode b_Mo_raises 43 = .ok (.invokevirtual 167, 3) := by decide +kernel
theorem d_Mo_raises_46 : decode b_Mo_raises 46 = .ok (.invokevirtual 192, 3) := by decide +kernel
theorem d_Mo_raises_49 : decode b_Mo_raises 49 = .ok (.return_, 1) := by decide +kernel
theorem d_Mo_searches_0 : decode b_Mo_searches 0 = .ok (.aload_n 0, 1) := by decide +kernel
theorem d_Mo_searches_1 : decode b_Mo_searches 1 = .ok (.getfield 164, 3) := by decide +kernel
theorem d_Mo_searches_4 : decode b_Mo_searches 4 = .ok (.iconst 1, 1) := by decide +kernel
theorem d_Mo_searches_5 : decode b_Mo_searches 5 = .ok (.isub, 1) := by decide +kernel
theorem d_Mo_searches_6 : decode b_Mo_searches 6 = .ok (.istore_n 1, 1) := by decide +kernel
theorem d_Mo_searches_7 : decode b_Mo_searches 7 = .ok (.iload_n 1, 1) := by decide +kernel
theorem d_Mo_searches_8 : decode b_Mo_searches 8 = .ok (.ifCond .lt 87, 3) := by decide +kernel
theorem d_Mo_searches_11 : decode b_Mo_searches 11 = .ok (.bipush 48, 2) := by decide +kernel
theorem d_Mo_searches_13 : decode b_Mo_searches 13 = .ok (.aload_n 0, 1) := by decide +kernel
theorem d_Mo_searches_14 : decode b_Mo_searches 14 = .ok (.getfield 80, 3) := by decide +kernel
theorem d_Mo_searches_17 : decode b_Mo_searches 17 = .ok (.iload_n 1, 1) := by decide +kernel
theorem d_Mo_searches_18 : decode b_Mo_searches 18 = .ok (.iaload, 1) := by decide +kernel
theorem d_Mo_searches_19 : decode b_Mo_searches 19 = .ok (.imul, 1) := by decide +kernel
theorem d_Mo_searches_20 : decode b_Mo_searches 20 = .ok (.istore_n 2, 1) := by decide +kernel
theorem d_Mo_searches_21 : decode b_Mo_searches 21 = .ok (.aload_n 0, 1) := by decide +kernel
theorem d_Mo_searches_22 : decode b_Mo_searches 22 = .ok (.iload_n 1, 1) := by decide +kernel
theorem d_Mo_searches_23 : decode b_Mo_searches 23 = .ok (.invokevirtual 167, 3) := by decide +kernel
theorem d_Mo_searches_26 : decode b_Mo_searches 26 = .ok (.istore_n 3, 1) := by decide +kernel
theorem d_Mo_searches_27 : decode b_Mo_searches 27 = .ok (.iload_n 3, 1) := by decide +kernel
theorem d_Mo_searches_28 : decode b_Mo_searches 28 = .ok (.ifCond .lt 61, 3) := by decide +kernel
theorem d_Mo_searches_31 : decode b_Mo_searches 31 = .ok (.aload_n 0, 1) := by decide +kernel
theorem d_Mo_searches_32 : decode b_Mo_searches 32 = .ok (.getfield 41, 3) := by decide +kernel
theorem d_Mo_searches_35 : decode b_Mo_searches 35 = .ok (.iload_n 2, 1) := by decide +kernel
theorem d_Mo_searches_36 : decode b_Mo_searches 36 = .ok (.iload_n 3, 1) := by decide +kernel
theorem d_Mo_searches_37 : decode b_Mo_searches 37 = .ok (.iadd, 1) := by decide +kernel
theorem d_Mo_searches_38 : decode b_Mo_searches 38 = .ok (.iaload, 1) := by decide +kernel
theorem d_Mo_searches_39 : decode b_Mo_searches 39 = .ok (.istore 4, 2) := by decide +kernel
theorem d_Mo_searches_41 : decode b_Mo_searches 41 = .ok (.iload 4, 2) := by decide +kernel
theorem d_Mo_searches_43 : decode b_Mo_searches 43 = .ok (.iconst (-1), 1) := by decide +kernel
theorem d_Mo_searches_44 : decode b_Mo_searches 44 = .ok (.if_icmp .eq 21, 3) := by decide +kernel
theorem d_Mo_searches_47 : decode b_Mo_searches 47 = .ok (.iload 4, 2) := by decide +kernel
theorem d_Mo_searches_49 : decode b_Mo_searches 49 = .ok (.ifCond .lt 28, 3) := by decide +kernel
theorem d_Mo_searches_52 : decode b_Mo_searches 52 = .ok (.aload_n 0, 1) := by decide +kernel
theorem d_Mo_searches_53 : decode b_Mo_searches 53 = .ok (.aload_n 0, 1) := by decide +kernel
theorem d_Mo_searches_54 : decode b_Mo_searches 54 = .ok (.getfield 171, 3) := by decide +kernel
theorem d_Mo_searches_57 : decode b_Mo_searches 57 = .ok (.iload 4, 2) := by decide +kernel
theorem d_Mo_searches_59 : decode b_Mo_searches 59 = .ok (.invokevirtual 174, 3) := by decide +kernel
theorem d_Mo_searches_62 : decode b_Mo_searches 62 = .ok (.ifCond .eq 15, 3) := by decide +kernel
theorem d_Mo_searches_65 : decode b_Mo_searches 65 = .ok (.aload_n 0, 1) := by decide +kernel
theorem d_Mo_searches_66 : decode b_Mo_searches 66 = .ok (.iload_n 1, 1) := by decide +kernel
theorem d_Mo_searches_67 : decode b_Mo_searches 67 = .ok (.putfield 177, 3) := by decide +kernel
theorem d_Mo_searches_70 : decode b_Mo_searches 70 = .ok (.aload_n 0, 1) := by decide +kernel
theorem d_Mo_searches_71 : decode b_Mo_searches 71 = .ok (.iload_n 3, 1) := by decide +kernel
theorem d_Mo_searches_72 : decode b_Mo_searches 72 = .ok (.putfield 180, 3) := by decide +kernel
theorem d_Mo_searches_75 : decode b_Mo_searches 75 = .ok (.iconst 1, 1) := by decide +kernel
theorem d_Mo_searches_76 : decode b_Mo_searches 76 = .ok (.ireturn, 1) := by decide +kernel
theorem d_Mo_searches_77 : decode b_Mo_searches 77 = .ok (.aload_n 0, 1) := by decide +kernel
theorem d_Mo_searches_78 : decode b_Mo_searches 78 = .ok (.getfield 47, 3) := by decide +kernel
theorem d_Mo_searches_81 : decode b_Mo_searches 81 = .ok (.iload_n 2, 1) := by decide +kernel
theorem d_Mo_searches_82 : decode b_Mo_searches 82 = .ok (.iload_n 3, 1) := by decide +kernel
theorem d_Mo_searches_83 : decode b_Mo_searches 83 = .ok (.iadd, 1) := by decide +kernel
theorem d_Mo_searches_84 : decode b_Mo_searches 84 = .ok (.iaload, 1) := by decide +kernel
theorem d_Mo_searches_85 : decode b_Mo_searches 85 = .ok (.istore_n 3, 1) := by decide +kernel
theorem d_Mo_searches_86 : decode b_Mo_searches 86 = .ok (.goto (-59), 3) := by decide +kernel
theorem d_Mo_searches_89 : decode b_Mo_searches 89 = .ok (.iinc 1 (-1), 3) := by decide +kernel
theorem d_Mo_searches_92 : decode b_Mo_searches 92 = .ok (.goto (-85), 3) := by decide +kernel
theorem d_Mo_searches_95 : decode b_Mo_searches 95 = .ok (.iconst 0, 1) := by decide +kernel
theorem d_Mo_searches_96 : decode b_Mo_searches 96 = .ok (.ireturn, 1) := by decide +kernel
theorem d_Mo_headAt_0 : decode b_Mo_headAt 0 = .ok (.aload_n 0, 1) := by decide +kernel
theorem d_Mo_headAt_1 : decode b_Mo_headAt 1 = .ok (.getfield 80, 3) := by decide +kernel
theorem d_Mo_headAt_4 : decode b_Mo_headAt 4 = .ok (.iload_n 1, 1) := by decide +kernel
theorem d_Mo_headAt_5 : decode b_Mo_headAt 5 = .ok (.iaload, 1) := by decide +kernel
theorem d_Mo_headAt_6 : decode b_Mo_headAt 6 = .ok (.istore_n 2, 1) := by decide +kernel
theorem d_Mo_headAt_7 : decode b_Mo_headAt 7 = .ok (.iconst (-1), 1) := by decide +kernel
theorem d_Mo_headAt_8 : decode b_Mo_headAt 8 = .ok (.istore_n 3, 1) := by decide +kernel
theorem d_Mo_headAt_9 : decode b_Mo_headAt 9 = .ok (.iconst 0, 1) := by decide +kernel
theorem d_Mo_headAt_10 : decode b_Mo_headAt 10 = .ok (.istore 4, 2) := by decide +kernel
theorem d_Mo_headAt_12 : decode b_Mo_headAt 12 = .ok (.iload 4, 2) := by decide +kernel
theorem d_Mo_headAt_14 : decode b_Mo_headAt 14 = .ok (.aload_n 0, 1) := by decide +kernel
theorem d_Mo_headAt_15 : decode b_Mo_headAt 15 = .ok (.getfield 50, 3) := by decide +kernel
theorem d_Mo_headAt_18 : decode b_Mo_headAt 18 = .ok (.iload_n 2, 1) := by decide +kernel
theorem d_Mo_headAt_19 : decode b_Mo_headAt 19 = .ok (.iaload, 1) := by decide +kernel
theorem d_Mo_headAt_20 : decode b_Mo_headAt 20 = .ok (.if_icmp .ge 58, 3) := by decide +kernel
theorem d_Mo_headAt_23 : decode b_Mo_headAt 23 = .ok (.bipush 64, 2) := by decide +kernel
theorem d_Mo_headAt_25 : decode b_Mo_headAt 25 = .ok (.iload_n 2, 1) := by decide +kernel
theorem d_Mo_headAt_26 : decode b_Mo_headAt 26 = .ok (.imul, 1) := by decide +kernel
theorem d_Mo_headAt_27 : decode b_Mo_headAt 27 = .ok (.iload 4, 2) := by decide +kernel
theorem d_Mo_headAt_29 : decode b_Mo_headAt 29 = .ok (.iadd, 1) := by decide +kernel
theorem d_Mo_headAt_30 : decode b_Mo_headAt 30 = .ok (.istore 5, 2) := by decide +kernel
theorem d_Mo_headAt_32 : decode b_Mo_headAt 32 = .ok (.aload_n 0, 1) := by decide +kernel
theorem d_Mo_headAt_33 : decode b_Mo_headAt 33 = .ok (.getfield 53, 3) := by decide +kernel
theorem d_Mo_headAt_36 : decode b_Mo_headAt 36 = .ok (.iload 5, 2) := by decide +kernel
theorem d_Mo_headAt_38 : decode b_Mo_headAt 38 = .ok (.iaload, 1) := by decide +kernel
theorem d_Mo_headAt_39 : decode b_Mo_headAt 39 = .ok (.aload_n 0, 1) := by decide +kernel
theorem d_Mo_headAt_40 : decode b_Mo_headAt 40 = .ok (.getfield 83, 3) := by decide +kernel
theorem d_Mo_headAt_43 : decode b_Mo_headAt 43 = .ok (.iload_n 1, 1) := by decide +kernel
theorem d_Mo_headAt_44 : decode b_Mo_headAt 44 = .ok (.iaload, 1) := by decide +kernel
theorem d_Mo_headAt_45 : decode b_Mo_headAt 45 = .ok (.if_icmp .gt 27, 3) := by decide +kernel
theorem d_Mo_headAt_48 : decode b_Mo_headAt 48 = .ok (.aload_n 0, 1) := by decide +kernel
theorem d_Mo_headAt_49 : decode b_Mo_headAt 49 = .ok (.getfield 83, 3) := by decide +kernel
theorem d_Mo_headAt_52 : decode b_Mo_headAt 52 = .ok (.iload_n 1, 1) := by decide +kernel
theorem d_Mo_headAt_53 : decode b_Mo_headAt 53 = .ok (.iaload, 1) := by decide +kernel
theorem d_Mo_headAt_54 : decode b_Mo_headAt 54 = .ok (.aload_n 0, 1) := by decide +kernel
theorem d_Mo_headAt_55 : decode b_Mo_headAt 55 = .ok (.getfield 56, 3) := by decide +kernel
theorem d_Mo_headAt_58 : decode b_Mo_headAt 58 = .ok (.iload 5, 2) := by decide +kernel
theorem d_Mo_headAt_60 : decode b_Mo_headAt 60 = .ok (.iaload, 1) := by decide +kernel
theorem d_Mo_headAt_61 : decode b_Mo_headAt 61 = .ok (.if_icmp .gt 11, 3) := by decide +kernel
theorem d_Mo_headAt_64 : decode b_Mo_headAt 64 = .ok (.aload_n 0, 1) := by decide +kernel
theorem d_Mo_headAt_65 : decode b_Mo_headAt 65 = .ok (.getfield 59, 3) := by decide +kernel
theorem d_Mo_headAt_68 : decode b_Mo_headAt 68 = .ok (.iload 5, 2) := by decide +kernel
theorem d_Mo_headAt_70 : decode b_Mo_headAt 70 = .ok (.iaload, 1) := by decide +kernel
theorem d_Mo_headAt_71 : decode b_Mo_headAt 71 = .ok (.istore_n 3, 1) := by decide +kernel
theorem d_Mo_headAt_72 : decode b_Mo_headAt 72 = .ok (.iinc 4 1, 3) := by decide +kernel
theorem d_Mo_headAt_75 : decode b_Mo_headAt 75 = .ok (.goto (-63), 3) := by decide +kernel
theorem d_Mo_headAt_78 : decode b_Mo_headAt 78 = .ok (.iload_n 3, 1) := by decide +kernel
theorem d_Mo_headAt_79 : decode b_Mo_headAt 79 = .ok (.ireturn, 1) := by decide +kernel
theorem d_Mo_isAnother_0 : decode b_Mo_isAnother 0 = .ok (.iload_n 1, 1) := by decide +kernel
theorem d_Mo_isAnother_1 : decode b_Mo_isAnother 1 = .ok (.istore_n 3, 1) := by decide +kernel
theorem d_Mo_isAnother_2 : decode b_Mo_isAnother 2 = .ok (.iload_n 3, 1) := by decide +kernel
theorem d_Mo_isAnother_3 : decode b_Mo_isAnother 3 = .ok (.ifCond .lt 18, 3) := by decide +kernel
theorem d_Mo_isAnother_6 : decode b_Mo_isAnother 6 = .ok (.iload_n 3, 1) := by decide +kernel
theorem d_Mo_isAnother_7 : decode b_Mo_isAnother 7 = .ok (.iload_n 2, 1) := by decide +kernel
theorem d_Mo_isAnother_8 : decode b_Mo_isAnother 8 = .ok (.if_icmp .eq 13, 3) := by decide +kernel
theorem d_Mo_isAnother_11 : decode b_Mo_isAnother 11 = .ok (.aload_n 0, 1) := by decide +kernel
theorem d_Mo_isAnother_12 : decode b_Mo_isAnother 12 = .ok (.getfield 13, 3) := by decide +kernel
theorem d_Mo_isAnother_15 : decode b_Mo_isAnother 15 = .ok (.iload_n 3, 1) := by decide +kernel
theorem d_Mo_isAnother_16 : decode b_Mo_isAnother 16 = .ok (.iaload, 1) := by decide +kernel
theorem d_Mo_isAnother_17 : decode b_Mo_isAnother 17 = .ok (.istore_n 3, 1) := by decide +kernel
theorem d_Mo_isAnother_18 : decode b_Mo_isAnother 18 = .ok (.goto (-16), 3) := by decide +kernel
theorem d_Mo_isAnother_21 : decode b_Mo_isAnother 21 = .ok (.iload_n 3, 1) := by decide +kernel
theorem d_Mo_isAnother_22 : decode b_Mo_isAnother 22 = .ok (.iload_n 2, 1) := by decide +kernel
theorem d_Mo_isAnother_23 : decode b_Mo_isAnother 23 = .ok (.if_icmp .ne 7, 3) := by decide +kernel
theorem d_Mo_isAnother_26 : decode b_Mo_isAnother 26 = .ok (.iconst 1, 1) := by decide +kernel
theorem d_Mo_isAnother_27 : decode b_Mo_isAnother 27 = .ok (.goto 4, 3) := by decide +kernel
theorem d_Mo_isAnother_30 : decode b_Mo_isAnother 30 = .ok (.iconst 0, 1) := by decide +kernel
theorem d_Mo_isAnother_31 : decode b_Mo_isAnother 31 = .ok (.ireturn, 1) := by decide +kernel
theorem d_Mo_unwinds_0 : decode b_Mo_unwinds 0 = .ok (.iload_n 1, 1) := by decide +kernel
theorem d_Mo_unwinds_1 : decode b_Mo_unwinds 1 = .ok (.istore_n 2, 1) := by decide +kernel
theorem d_Mo_unwinds_2 : decode b_Mo_unwinds 2 = .ok (.iconst 1, 1) := by decide +kernel
theorem d_Mo_unwinds_3 : decode b_Mo_unwinds 3 = .ok (.istore_n 3, 1) := by decide +kernel
theorem d_Mo_unwinds_4 : decode b_Mo_unwinds 4 = .ok (.iload_n 3, 1) := by decide +kernel
theorem d_Mo_unwinds_5 : decode b_Mo_unwinds 5 = .ok (.ifCond .eq 175, 3) := by decide +kernel
theorem d_Mo_unwinds_8 : decode b_Mo_unwinds 8 = .ok (.aload_n 0, 1) := by decide +kernel
theorem d_Mo_unwinds_9 : decode b_Mo_unwinds 9 = .ok (.getfield 164, 3) := by decide +kernel
theorem d_Mo_unwinds_12 : decode b_Mo_unwinds 12 = .ok (.iconst 1, 1) := by decide +kernel
theorem d_Mo_unwinds_13 : decode b_Mo_unwinds 13 = .ok (.isub, 1) := by decide +kernel
theorem d_Mo_unwinds_14 : decode b_Mo_unwinds 14 = .ok (.istore 4, 2) := by decide +kernel
theorem d_Mo_unwinds_16 : decode b_Mo_unwinds 16 = .ok (.bipush 48, 2) := by decide +kernel
theorem d_Mo_unwinds_18 : decode b_Mo_unwinds 18 = .ok (.aload_n 0, 1) := by decide +kernel
theorem d_Mo_unwinds_19 : decode b_Mo_unwinds 19 = .ok (.getfield 80, 3) := by decide +kernel
theorem d_Mo_unwinds_22 : decode b_Mo_unwinds 22 = .ok (.iload 4, 2) := by decide +kernel
theorem d_Mo_unwinds_24 : decode b_Mo_unwinds 24 = .ok (.iaload, 1) := by decide +kernel
theorem d_Mo_unwinds_25 : decode b_Mo_unwinds 25 = .ok (.imul, 1) := by decide +kernel
theorem d_Mo_unwinds_26 : decode b_Mo_unwinds 26 = .ok (.istore 5, 2) := by decide +kernel
theorem d_Mo_unwinds_28 : decode b_Mo_unwinds 28 = .ok (.iload_n 2, 1) := by decide +kernel
theorem d_Mo_unwinds_29 : decode b_Mo_unwinds 29 = .ok (.ifCond .ge 27, 3) := by decide +kernel
theorem d_Mo_unwinds_32 : decode b_Mo_unwinds 32 = .ok (.aload_n 0, 1) := by decide +kernel
theorem d_Mo_unwinds_33 : decode b_Mo_unwinds 33 = .ok (.dup, 1) := by decide +kernel
theorem d_Mo_unwinds_34 : decode b_Mo_unwinds 34 = .ok (.getfield 164, 3) := by decide +kernel
theorem d_Mo_unwinds_37 : decode b_Mo_unwinds 37 = .ok (.iconst 1, 1) := by decide +kernel
theorem d_Mo_unwinds_38 : decode b_Mo_unwinds 38 = .ok (.isub, 1) := by decide +kernel
theorem d_Mo_unwinds_39 : decode b_Mo_unwinds 39 = .ok (.putfield 164, 3) := by decide +kernel
theorem d_Mo_unwinds_42 : decode b_Mo_unwinds 42 = .ok (.aload_n 0, 1) := by decide +kernel
theorem d_Mo_unwinds_43 : decode b_Mo_unwinds 43 = .ok (.aload_n 0, 1) := by decide +kernel
theorem d_Mo_unwinds_44 : decode b_Mo_unwinds 44 = .ok (.getfield 164, 3) := by decide +kernel
theorem d_Mo_unwinds_47 : decode b_Mo_unwinds 47 = .ok (.iconst 1, 1) := by decide +kernel
theorem d_Mo_unwinds_48 : decode b_Mo_unwinds 48 = .ok (.isub, 1) := by decide +kernel
theorem d_Mo_unwinds_49 : decode b_Mo_unwinds 49 = .ok (.invokevirtual 167, 3) := by decide +kernel
theorem d_Mo_unwinds_52 : decode b_Mo_unwinds 52 = .ok (.istore_n 2, 1) := by decide +kernel
theorem d_Mo_unwinds_53 : decode b_Mo_unwinds 53 = .ok (.goto 124, 3) := by decide +kernel
theorem d_Mo_unwinds_56 : decode b_Mo_unwinds 56 = .ok (.iload 4, 2) := by decide +kernel
theorem d_Mo_unwinds_58 : decode b_Mo_unwinds 58 = .ok (.aload_n 0, 1) := by decide +kernel
theorem d_Mo_unwinds_59 : decode b_Mo_unwinds 59 = .ok (.getfield 177, 3) := by decide +kernel
theorem d_Mo_unwinds_62 : decode b_Mo_unwinds 62 = .ok (.if_icmp .ne 65, 3) := by decide +kernel
theorem d_Mo_unwinds_65 : decode b_Mo_unwinds 65 = .ok (.iload_n 2, 1) := by decide +kernel
theorem d_Mo_unwinds_66 : decode b_Mo_unwinds 66 = .ok (.aload_n 0, 1) := by decide +kernel
theorem d_Mo_unwinds_67 : decode b_Mo_unwinds 67 = .ok (.getfield 180, 3) := by decide +kernel
theorem d_Mo_unwinds_70 : decode b_Mo_unwinds 70 = .ok (.if_icmp .ne 57, 3) := by decide +kernel
theorem d_Mo_unwinds_73 : decode b_Mo_unwinds 73 = .ok (.aload_n 0, 1) := by decide +kernel
theorem d_Mo_unwinds_74 : decode b_Mo_unwinds 74 = .ok (.getfield 92, 3) := by decide +kernel
theorem d_Mo_unwinds_77 : decode b_Mo_unwinds 77 = .ok (.bipush 24, 2) := by decide +kernel
theorem d_Mo_unwinds_79 : decode b_Mo_unwinds 79 = .ok (.iload 4, 2) := by decide +kernel
theorem d_Mo_unwinds_81 : decode b_Mo_unwinds 81 = .ok (.imul, 1) := by decide +kernel
theorem d_Mo_unwinds_82 : decode b_Mo_unwinds 82 = .ok (.aload_n 0, 1) := by decide +kernel
theorem d_Mo_unwinds_83 : decode b_Mo_unwinds 83 = .ok (.getfield 89, 3) := by decide +kernel
theorem d_Mo_unwinds_86 : decode b_Mo_unwinds 86 = .ok (.iload 4, 2) := by decide +kernel
theorem d_Mo_unwinds_88 : decode b_Mo_unwinds 88 = .ok (.iaload, 1) := by decide +kernel
theorem d_Mo_unwinds_89 : decode b_Mo_unwinds 89 = .ok (.iadd, 1) := by decide +kernel
theorem d_Mo_unwinds_90 : decode b_Mo_unwinds 90 = .ok (.aload_n 0, 1) := by decide +kernel
theorem d_Mo_unwinds_91 : decode b_Mo_unwinds 91 = .ok (.getfield 171, 3) := by decide +kernel
theorem d_Mo_unwinds_94 : decode b_Mo_unwinds 94 = .ok (.iastore, 1) := by decide +kernel
theorem d_Mo_unwinds_95 : decode b_Mo_unwinds 95 = .ok (.aload_n 0, 1) := by decide +kernel
theorem d_Mo_unwinds_96 : decode b_Mo_unwinds 96 = .ok (.getfield 89, 3) := by decide +kernel
theorem d_Mo_unwinds_99 : decode b_Mo_unwinds 99 = .ok (.iload 4, 2) := by decide +kernel
theorem d_Mo_unwinds_101 : decode b_Mo_unwinds 101 = .ok (.dup2, 1) := by decide +kernel
theorem d_Mo_unwinds_102 : decode b_Mo_unwinds 102 = .ok (.iaload, 1) := by decide +kernel
theorem d_Mo_unwinds_103 : decode b_Mo_unwinds 103 = .ok (.iconst 1, 1) := by decide +kernel
theorem d_Mo_unwinds_104 : decode b_Mo_unwinds 104 = .ok (.iadd, 1) := by decide +kernel
theorem d_Mo_unwinds_105 : decode b_Mo_unwinds 105 = .ok (.iastore, 1) := by decide +kernel
theorem d_Mo_unwinds_106 : decode b_Mo_unwinds 106 = .ok (.aload_n 0, 1) := by decide +kernel
theorem d_Mo_unwinds_107 : decode b_Mo_unwinds 107 = .ok (.getfield 86, 3) := by decide +kernel
theorem d_Mo_unwinds_110 : decode b_Mo_unwinds 110 = .ok (.iload 4, 2) := by decide +kernel
theorem d_Mo_unwinds_112 : decode b_Mo_unwinds 112 = .ok (.aload_n 0, 1) := by decide +kernel
theorem d_Mo_unwinds_113 : decode b_Mo_unwinds 113 = .ok (.getfield 44, 3) := by decide +kernel
theorem d_Mo_unwinds_116 : decode b_Mo_unwinds 116 = .ok (.iload 5, 2) := by decide +kernel
theorem d_Mo_unwinds_118 : decode b_Mo_unwinds 118 = .ok (.iload_n 2, 1) := by decide +kernel
theorem d_Mo_unwinds_119 : decode b_Mo_unwinds 119 = .ok (.iadd, 1) := by decide +kernel
theorem d_Mo_unwinds_120 : decode b_Mo_unwinds 120 = .ok (.iaload, 1) := by decide +kernel
theorem d_Mo_unwinds_121 : decode b_Mo_unwinds 121 = .ok (.iastore, 1) := by decide +kernel
theorem d_Mo_unwinds_122 : decode b_Mo_unwinds 122 = .ok (.iconst 0, 1) := by decide +kernel
theorem d_Mo_unwinds_123 : decode b_Mo_unwinds 123 = .ok (.istore_n 3, 1) := by decide +kernel
theorem d_Mo_unwinds_124 : decode b_Mo_unwinds 124 = .ok (.goto 53, 3) := by decide +kernel
theorem d_Mo_unwinds_127 : decode b_Mo_unwinds 127 = .ok (.aload_n 0, 1) := by decide +kernel
theorem d_Mo_unwinds_128 : decode b_Mo_unwinds 128 = .ok (.getfield 41, 3) := by decide +kernel
theorem d_Mo_unwinds_131 : decode b_Mo_unwinds 131 = .ok (.iload 5, 2) := by decide +kernel
theorem d_Mo_unwinds_133 : decode b_Mo_unwinds 133 = .ok (.iload_n 2, 1) := by decide +kernel
theorem d_Mo_unwinds_134 : decode b_Mo_unwinds 134 = .ok (.iadd, 1) := by decide +kernel
theorem d_Mo_unwinds_135 : decode b_Mo_unwinds 135 = .ok (.iaload, 1) := by decide +kernel
theorem d_Mo_unwinds_136 : decode b_Mo_unwinds 136 = .ok (.bipush (-2), 2) := by decide +kernel
theorem d_Mo_unwinds_138 : decode b_Mo_unwinds 138 = .ok (.if_icmp .ne 29, 3) := by decide +kernel
theorem d_Mo_unwinds_141 : decode b_Mo_unwinds 141 = .ok (.aload_n 0, 1) := by decide +kernel
theorem d_Mo_unwinds_142 : decode b_Mo_unwinds 142 = .ok (.iload_n 2, 1) := by decide +kernel
theorem d_Mo_unwinds_143 : decode b_Mo_unwinds 143 = .ok (.putfield 183, 3) := by decide +kernel
theorem d_Mo_unwinds_146 : decode b_Mo_unwinds 146 = .ok (.aload_n 0, 1) := by decide +kernel
theorem d_Mo_unwinds_147 : decode b_Mo_unwinds 147 = .ok (.getfield 86, 3) := by decide +kernel
theorem d_Mo_unwinds_150 : decode b_Mo_unwinds 150 = .ok (.iload 4, 2) := by decide +kernel
theorem d_Mo_unwinds_152 : decode b_Mo_unwinds 152 = .ok (.aload_n 0, 1) := by decide +kernel
theorem d_Mo_unwinds_153 : decode b_Mo_unwinds 153 = .ok (.getfield 44, 3) := by decide +kernel
theorem d_Mo_unwinds_156 : decode b_Mo_unwinds 156 = .ok (.iload 5, 2) := by decide +kernel
theorem d_Mo_unwinds_158 : decode b_Mo_unwinds 158 = .ok (.iload_n 2, 1) := by decide +kernel
theorem d_Mo_unwinds_159 : decode b_Mo_unwinds 159 = .ok (.iadd, 1) := by decide +kernel
theorem d_Mo_unwinds_160 : decode b_Mo_unwinds 160 = .ok (.iaload, 1) := by decide +kernel
theorem d_Mo_unwinds_161 : decode b_Mo_unwinds 161 = .ok (.iastore, 1) := by decide +kernel
theorem d_Mo_unwinds_162 : decode b_Mo_unwinds 162 = .ok (.iconst 0, 1) := by decide +kernel
theorem d_Mo_unwinds_163 : decode b_Mo_unwinds 163 = .ok (.istore_n 3, 1) := by decide +kernel
theorem d_Mo_unwinds_164 : decode b_Mo_unwinds 164 = .ok (.goto 13, 3) := by decide +kernel
theorem d_Mo_unwinds_167 : decode b_Mo_unwinds 167 = .ok (.aload_n 0, 1) := by decide +kernel
theorem d_Mo_unwinds_168 : decode b_Mo_unwinds 168 = .ok (.getfield 47, 3) := by decide +kernel
theorem d_Mo_unwinds_171 : decode b_Mo_unwinds 171 = .ok (.iload 5, 2) := by decide +kernel
theorem d_Mo_unwinds_173 : decode b_Mo_unwinds 173 = .ok (.iload_n 2, 1) := by decide +kernel
theorem d_Mo_unwinds_174 : decode b_Mo_unwinds 174 = .ok (.iadd, 1) := by decide +kernel
theorem d_Mo_unwinds_175 : decode b_Mo_unwinds 175 = .ok (.iaload, 1) := by decide +kernel
theorem d_Mo_unwinds_176 : decode b_Mo_unwinds 176 = .ok (.istore_n 2, 1) := by decide +kernel
theorem d_Mo_unwinds_177 : decode b_Mo_unwinds 177 = .ok (.goto (-173), 3) := by decide +kernel
theorem d_Mo_unwinds_180 : decode b_Mo_unwinds 180 = .ok (.return_, 1) := by decide +kernel
theorem d_Mo_count_0 : decode b_Mo_count 0 = .ok (.aload_n 0, 1) := by decide +kernel
theorem d_Mo_count_1 : decode b_Mo_count 1 = .ok (.iload_n 1, 1) := by decide +kernel
theorem d_Mo_count_2 : decode b_Mo_count 2 = .ok (.iconst 0, 1) := by decide +kernel
theorem d_Mo_count_3 : decode b_Mo_count 3 = .ok (.iconst 5, 1) := by decide +kernel
theorem d_Mo_count_4 : decode b_Mo_count 4 = .ok (.invokestatic 104, 3) := by decide +kernel
theorem d_Mo_count_7 : decode b_Mo_count 7 = .ok (.iconst 0, 1) := by decide +kernel
theorem d_Mo_count_8 : decode b_Mo_count 8 = .ok (.invokevirtual 108, 3) := by decide +kernel
theorem d_Mo_count_11 : decode b_Mo_count 11 = .ok (.ifCond .eq 7, 3) := by decide +kernel
theorem d_Mo_count_14 : decode b_Mo_count 14 = .ok (.iconst 0, 1) := by decide +kernel
theorem d_Mo_count_15 : decode b_Mo_count 15 = .ok (.goto 9, 3) := by decide +kernel
theorem d_Mo_count_18 : decode b_Mo_count 18 = .ok (.aload_n 0, 1) := by decide +kernel
theorem d_Mo_count_19 : decode b_Mo_count 19 = .ok (.getfield 95, 3) := by decide +kernel
theorem d_Mo_count_22 : decode b_Mo_count 22 = .ok (.iload_n 1, 1) := by decide +kernel
theorem d_Mo_count_23 : decode b_Mo_count 23 = .ok (.iaload, 1) := by decide +kernel
theorem d_Mo_count_24 : decode b_Mo_count 24 = .ok (.ireturn, 1) := by decide +kernel
theorem d_Mo_out_0 : decode b_Mo_out 0 = .ok (.aload_n 0, 1) := by decide +kernel
theorem d_Mo_out_1 : decode b_Mo_out 1 = .ok (.iload_n 1, 1) := by decide +kernel
theorem d_Mo_out_2 : decode b_Mo_out 2 = .ok (.iconst 0, 1) := by decide +kernel
theorem d_Mo_out_3 : decode b_Mo_out 3 = .ok (.aload_n 0, 1) := by decide +kernel
theorem d_Mo_out_4 : decode b_Mo_out 4 = .ok (.getfield 95, 3) := by decide +kernel
theorem d_Mo_out_7 : decode b_Mo_out 7 = .ok (.iconst 0, 1) := by decide +kernel
theorem d_Mo_out_8 : decode b_Mo_out 8 = .ok (.iaload, 1) := by decide +kernel
theorem d_Mo_out_9 : decode b_Mo_out 9 = .ok (.iconst 1, 1) := by decide +kernel
theorem d_Mo_out_10 : decode b_Mo_out 10 = .ok (.isub, 1) := by decide +kernel
theorem d_Mo_out_11 : decode b_Mo_out 11 = .ok (.invokestatic 104, 3) := by decide +kernel
theorem d_Mo_out_14 : decode b_Mo_out 14 = .ok (.iconst 0, 1) := by decide +kernel
theorem d_Mo_out_15 : decode b_Mo_out 15 = .ok (.invokevirtual 108, 3) := by decide +kernel
theorem d_Mo_out_18 : decode b_Mo_out 18 = .ok (.ifCond .eq 7, 3) := by decide +kernel
theorem d_Mo_out_21 : decode b_Mo_out 21 = .ok (.iconst 0, 1) := by decide +kernel
theorem d_Mo_out_22 : decode b_Mo_out 22 = .ok (.goto 9, 3) := by decide +kernel
theorem d_Mo_out_25 : decode b_Mo_out 25 = .ok (.aload_n 0, 1) := by decide +kernel
theorem d_Mo_out_26 : decode b_Mo_out 26 = .ok (.getfield 98, 3) := by decide +kernel
theorem d_Mo_out_29 : decode b_Mo_out 29 = .ok (.iload_n 1, 1) := by decide +kernel
theorem d_Mo_out_30 : decode b_Mo_out 30 = .ok (.iaload, 1) := by decide +kernel
theorem d_Mo_out_31 : decode b_Mo_out 31 = .ok (.ireturn, 1) := by decide +kernel
end
section
theorem d_La_type_0 : decode b_La_type 0 = .ok (.aload_n 2, 1) := by decide +kernel
theorem d_La_type_1 : decode b_La_type 1 = .ok (.iconst 0, 1) := by decide +kernel
theorem d_La_type_2 : decode b_La_type 2 = .ok (.aload_n 0, 1) := by decide +kernel
theorem d_La_type_3 : decode b_La_type 3 = .ok (.iload_n 1, 1) := by decide +kernel
theorem d_La_type_4 : decode b_La_type 4 = .ok (.invokevirtual 7, 3) := by decide +kernel
theorem d_La_type_7 : decode b_La_type 7 = .ok (.i2l, 1) := by decide +kernel
theorem d_La_type_8 : decode b_La_type 8 = .ok (.lastore, 1) := by decide +kernel
theorem d_La_type_9 : decode b_La_type 9 = .ok (.goto 9, 3) := by decide +kernel
theorem d_La_type_12 : decode b_La_type 12 = .ok (.astore_n 3, 1) := by decide +kernel
theorem d_La_type_13 : decode b_La_type 13 = .ok (.iconst 1, 1) := by decide +kernel
theorem d_La_type_14 : decode b_La_type 14 = .ok (.ireturn, 1) := by decide +kernel
theorem d_La_type_15 : decode b_La_type 15 = .ok (.astore_n 3, 1) := by decide +kernel
theorem d_La_type_16 : decode b_La_type 16 = .ok (.iconst 2, 1) := by decide +kernel
theorem d_La_type_17 : decode b_La_type 17 = .ok (.ireturn, 1) := by decide +kernel
theorem d_La_type_18 : decode b_La_type 18 = .ok (.iconst 0, 1) := by decide +kernel
theorem d_La_type_19 : decode b_La_type 19 = .ok (.ireturn, 1) := by decide +kernel
theorem d_La_add_0 : decode b_La_add 0 = .ok (.aload 4, 2) := by decide +kernel
theorem d_La_add_2 : decode b_La_add 2 = .ok (.iconst 0, 1) := by decide +kernel
theorem d_La_add_3 : decode b_La_add 3 = .ok (.aload_n 0, 1) := by decide +kernel
theorem d_La_add_4 : decode b_La_add 4 = .ok (.iload_n 1, 1) := by decide +kernel
theorem d_La_add_5 : decode b_La_add 5 = .ok (.iload_n 2, 1) := by decide +kernel
theorem d_La_add_6 : decode b_La_add 6 = .ok (.iload_n 3, 1) := by decide +kernel
theorem d_La_add_7 : decode b_La_add 7 = .ok (.invokevirtual 17, 3) := by decide +kernel
theorem d_La_add_10 : decode b_La_add 10 = .ok (.i2l, 1) := by decide +kernel
theorem d_La_add_11 : decode b_La_add 11 = .ok (.lastore, 1) := by decide +kernel
theorem d_La_add_12 : decode b_La_add 12 = .ok (.goto 11, 3) := by decide +kernel
theorem d_La_add_15 : decode b_La_add 15 = .ok (.astore 5, 2) := by decide +kernel
theorem d_La_add_17 : decode b_La_add 17 = .ok (.iconst 1, 1) := by decide +kernel
theorem d_La_add_18 : decode b_La_add 18 = .ok (.ireturn, 1) := by decide +kernel
theorem d_La_add_19 : decode b_La_add 19 = .ok (.astore 5, 2) := by decide +kernel
theorem d_La_add_21 : decode b_La_add 21 = .ok (.iconst 2, 1) := by decide +kernel
theorem d_La_add_22 : decode b_La_add 22 = .ok (.ireturn, 1) := by decide +kernel
theorem d_La_add_23 : decode b_La_add 23 = .ok (.iconst 0, 1) := by decide +kernel
theorem d_La_add_24 : decode b_La_add 24 = .ok (.ireturn, 1) := by decide +kernel
theorem d_La_wipe_0 : decode b_La_wipe 0 = .ok (.aload_n 0, 1) := by decide +kernel
theorem d_La_wipe_1 : decode b_La_wipe 1 = .ok (.iload_n 1, 1) := by decide +kernel
theorem d_La_wipe_2 : decode b_La_wipe 2 = .ok (.invokevirtual 21, 3) := by decide +kernel
theorem d_La_wipe_5 : decode b_La_wipe 5 = .ok (.goto 6, 3) := by decide +kernel
theorem d_La_wipe_8 : decode b_La_wipe 8 = .ok (.astore_n 2, 1) := by decide +kernel
theorem d_La_wipe_9 : decode b_La_wipe 9 = .ok (.iconst 1, 1) := by decide +kernel
theorem d_La_wipe_10 : decode b_La_wipe 10 = .ok (.ireturn, 1) := by decide +kernel
theorem d_La_wipe_11 : decode b_La_wipe 11 = .ok (.iconst 0, 1) := by decide +kernel
theorem d_La_wipe_12 : decode b_La_wipe 12 = .ok (.ireturn, 1) := by decide +kernel
theorem d_La_compile_0 : decode b_La_compile 0 = .ok (.aload_n 2, 1) := by decide +kernel
theorem d_La_compile_1 : decode b_La_compile 1 = .ok (.iconst 0, 1) := by decide +kernel
theorem d_La_compile_2 : decode b_La_compile 2 = .ok (.aload_n 0, 1) := by decide +kernel
theorem d_La_compile_3 : decode b_La_compile 3 = .ok (.iload_n 1, 1) := by decide +kernel
theorem d_La_compile_4 : decode b_La_compile 4 = .ok (.invokevirtual 25, 3) := by decide +kernel
theorem d_La_compile_7 : decode b_La_compile 7 = .ok (.i2l, 1) := by decide +kernel
theorem d_La_compile_8 : decode b_La_compile 8 = .ok (.lastore, 1) := by decide +kernel
theorem d_La_compile_9 : decode b_La_compile 9 = .ok (.goto 9, 3) := by decide +kernel
theorem d_La_compile_12 : decode b_La_compile 12 = .ok (.astore_n 3, 1) := by decide +kernel
theorem d_La_compile_13 : decode b_La_compile 13 = .ok (.iconst 1, 1) := by decide +kernel
theorem d_La_compile_14 : decode b_La_compile 14 = .ok (.ireturn, 1) := by decide +kernel
theorem d_La_compile_15 : decode b_La_compile 15 = .ok (.astore_n 3, 1) := by decide +kernel
theorem d_La_compile_16 : decode b_La_compile 16 = .ok (.iconst 2, 1) := by decide +kernel
theorem d_La_compile_17 : decode b_La_compile 17 = .ok (.ireturn, 1) := by decide +kernel
theorem d_La_compile_18 : decode b_La_compile 18 = .ok (.iconst 0, 1) := by decide +kernel
theorem d_La_compile_19 : decode b_La_compile 19 = .ok (.ireturn, 1) := by decide +kernel
theorem d_La_size_0 : decode b_La_size 0 = .ok (.aload_n 3, 1) := by decide +kernel
theorem d_La_size_1 : decode b_La_size 1 = .ok (.iconst 0, 1) := by decide +kernel
theorem d_La_size_2 : decode b_La_size 2 = .ok (.aload_n 0, 1) := by decide +kernel
theorem d_La_size_3 : decode b_La_size 3 = .ok (.iload_n 1, 1) := by decide +kernel
theorem d_La_size_4 : decode b_La_size 4 = .ok (.iload_n 2, 1) := by decide +kernel
theorem d_La_size_5 : decode b_La_size 5 = .ok (.invokevirtual 28, 3) := by decide +kernel
theorem d_La_size_8 : decode b_La_size 8 = .ok (.i2l, 1) := by decide +kernel
theorem d_La_size_9 : decode b_La_size 9 = .ok (.lastore, 1) := by decide +kernel
theorem d_La_size_10 : decode b_La_size 10 = .ok (.goto 7, 3) := by decide +kernel
theorem d_La_size_13 : decode b_La_size 13 = .ok (.astore 4, 2) := by decide +kernel
theorem d_La_size_15 : decode b_La_size 15 = .ok (.iconst 1, 1) := by decide +kernel
theorem d_La_size_16 : decode b_La_size 16 = .ok (.ireturn, 1) := by decide +kernel
theorem d_La_size_17 : decode b_La_size 17 = .ok (.iconst 0, 1) := by decide +kernel
theorem d_La_size_18 : decode b_La_size 18 = .ok (.ireturn, 1) := by decide +kernel
theorem d_La_code_0 : decode b_La_code 0 = .ok (.aload 4, 2) := by decide +kernel
theorem d_La_code_2 : decode b_La_code 2 = .ok (.iconst 0, 1) := by decide +kernel
theorem d_La_code_3 : decode b_La_code 3 = .ok (.aload_n 0, 1) := by decide +kernel
theorem d_La_code_4 : decode b_La_code 4 = .ok (.iload_n 1, 1) := by decide +kernel
theorem d_La_code_5 : decode b_La_code 5 = .ok (.iload_n 2, 1) := by decide +kernel
theorem d_La_code_6 : decode b_La_code 6 = .ok (.iload_n 3, 1) := by decide +kernel
theorem d_La_code_7 : decode b_La_code 7 = .ok (.invokevirtual 32, 3) := by decide +kernel
theorem d_La_code_10 : decode b_La_code 10 = .ok (.i2l, 1) := by decide +kernel
theorem d_La_code_11 : decode b_La_code 11 = .ok (.lastore, 1) := by decide +kernel
theorem d_La_code_12 : decode b_La_code 12 = .ok (.goto 7, 3) := by decide +kernel
theorem d_La_code_15 : decode b_La_code 15 = .ok (.astore 5, 2) := by decide +kernel
theorem d_La_code_17 : decode b_La_code 17 = .ok (.iconst 1, 1) := by decide +kernel
theorem d_La_code_18 : decode b_La_code 18 = .ok (.ireturn, 1) := by decide +kernel
theorem d_La_code_19 : decode b_La_code 19 = .ok (.iconst 0, 1) := by decide +kernel
theorem d_La_code_20 : decode b_La_code 20 = .ok (.ireturn, 1) := by decide +kernel
theorem d_La_action_0 : decode b_La_action 0 = .ok (.aload 4, 2) := by decide +kernel
theorem d_La_action_2 : decode b_La_action 2 = .ok (.iconst 0, 1) := by decide +kernel
theorem d_La_action_3 : decode b_La_action 3 = .ok (.aload_n 0, 1) := by decide +kernel
theorem d_La_action_4 : decode b_La_action 4 = .ok (.iload_n 1, 1) := by decide +kernel
theorem d_La_action_5 : decode b_La_action 5 = .ok (.iload_n 2, 1) := by decide +kernel
theorem d_La_action_6 : decode b_La_action 6 = .ok (.iload_n 3, 1) := by decide +kernel
theorem d_La_action_7 : decode b_La_action 7 = .ok (.invokevirtual 37, 3) := by decide +kernel
theorem d_La_action_10 : decode b_La_action 10 = .ok (.i2l, 1) := by decide +kernel
theorem d_La_action_11 : decode b_La_action 11 = .ok (.lastore, 1) := by decide +kernel
theorem d_La_action_12 : decode b_La_action 12 = .ok (.goto 7, 3) := by decide +kernel
theorem d_La_action_15 : decode b_La_action 15 = .ok (.astore 5, 2) := by decide +kernel
theorem d_La_action_17 : decode b_La_action 17 = .ok (.iconst 1, 1) := by decide +kernel
theorem d_La_action_18 : decode b_La_action 18 = .ok (.ireturn, 1) := by decide +kernel
theorem d_La_action_19 : decode b_La_action 19 = .ok (.iconst 0, 1) := by decide +kernel
theorem d_La_action_20 : decode b_La_action 20 = .ok (.ireturn, 1) := by decide +kernel
theorem d_La_site_0 : decode b_La_site 0 = .ok (.aload 4, 2) := by decide +kernel
theorem d_La_site_2 : decode b_La_site 2 = .ok (.iconst 0, 1) := by decide +kernel
theorem d_La_site_3 : decode b_La_site 3 = .ok (.aload_n 0, 1) := by decide +kernel
theorem d_La_site_4 : decode b_La_site 4 = .ok (.iload_n 1, 1) := by decide +kernel
theorem d_La_site_5 : decode b_La_site 5 = .ok (.iload_n 2, 1) := by decide +kernel
theorem d_La_site_6 : decode b_La_site 6 = .ok (.iload_n 3, 1) := by decide +kernel
theorem d_La_site_7 : decode b_La_site 7 = .ok (.invokevirtual 40, 3) := by decide +kernel
theorem d_La_site_10 : decode b_La_site 10 = .ok (.i2l, 1) := by decide +kernel
theorem d_La_site_11 : decode b_La_site 11 = .ok (.lastore, 1) := by decide +kernel
theorem d_La_site_12 : decode b_La_site 12 = .ok (.goto 7, 3) := by decide +kernel
theorem d_La_site_15 : decode b_La_site 15 = .ok (.astore 5, 2) := by decide +kernel
theorem d_La_site_17 : decode b_La_site 17 = .ok (.iconst 1, 1) := by decide +kernel
theorem d_La_site_18 : decode b_La_site 18 = .ok (.ireturn, 1) := by decide +kernel
theorem d_La_site_19 : decode b_La_site 19 = .ok (.iconst 0, 1) := by decide +kernel
theorem d_La_site_20 : decode b_La_site 20 = .ok (.ireturn, 1) := by decide +kernel
theorem d_La_run_0 : decode b_La_run 0 = .ok (.aload_n 2, 1) := by decide +kernel
theorem d_La_run_1 : decode b_La_run 1 = .ok (.iconst 0, 1) := by decide +kernel
theorem d_La_run_2 : decode b_La_run 2 = .ok (.aload_n 0, 1) := by decide +kernel
theorem d_La_run_3 : decode b_La_run 3 = .ok (.iload_n 1, 1) := by decide +kernel
theorem d_La_run_4 : decode b_La_run 4 = .ok (.invokevirtual 43, 3) := by decide +kernel
theorem d_La_run_7 : decode b_La_run 7 = .ok (.i2l, 1) := by decide +kernel
theorem d_La_run_8 : decode b_La_run 8 = .ok (.lastore, 1) := by decide +kernel
theorem d_La_run_9 : decode b_La_run 9 = .ok (.goto 9, 3) := by decide +kernel
theorem d_La_run_12 : decode b_La_run 12 = .ok (.astore_n 3, 1) := by decide +kernel
theorem d_La_run_13 : decode b_La_run 13 = .ok (.iconst 1, 1) := by decide +kernel
theorem d_La_run_14 : decode b_La_run 14 = .ok (.ireturn, 1) := by decide +kernel
theorem d_La_run_15 : decode b_La_run 15 = .ok (.astore_n 3, 1) := by decide +kernel
theorem d_La_run_16 : decode b_La_run 16 = .ok (.iconst 2, 1) := by decide +kernel
theorem d_La_run_17 : decode b_La_run 17 = .ok (.ireturn, 1) := by decide +kernel
theorem d_La_run_18 : decode b_La_run 18 = .ok (.iconst 0, 1) := by decide +kernel
theorem d_La_run_19 : decode b_La_run 19 = .ok (.ireturn, 1) := by decide +kernel
theorem d_La_count_0 : decode b_La_count 0 = .ok (.aload_n 2, 1) := by decide +kernel
theorem d_La_count_1 : decode b_La_count 1 = .ok (.iconst 0, 1) := by decide +kernel
theorem d_La_count_2 : decode b_La_count 2 = .ok (.aload_n 0, 1) := by decide +kernel
theorem d_La_count_3 : decode b_La_count 3 = .ok (.iload_n 1, 1) := by decide +kernel
theorem d_La_count_4 : decode b_La_count 4 = .ok (.invokevirtual 46, 3) := by decide +kernel
theorem d_La_count_7 : decode b_La_count 7 = .ok (.i2l, 1) := by decide +kernel
theorem d_La_count_8 : decode b_La_count 8 = .ok (.lastore, 1) := by decide +kernel
theorem d_La_count_9 : decode b_La_count 9 = .ok (.goto 6, 3) := by decide +kernel
theorem d_La_count_12 : decode b_La_count 12 = .ok (.astore_n 3, 1) := by decide +kernel
theorem d_La_count_13 : decode b_La_count 13 = .ok (.iconst 1, 1) := by decide +kernel
theorem d_La_count_14 : decode b_La_count 14 = .ok (.ireturn, 1) := by decide +kernel
theorem d_La_count_15 : decode b_La_count 15 = .ok (.iconst 0, 1) := by decide +kernel
theorem d_La_count_16 : decode b_La_count 16 = .ok (.ireturn, 1) := by decide +kernel
theorem d_La_out_0 : decode b_La_out 0 = .ok (.aload_n 2, 1) := by decide +kernel
theorem d_La_out_1 : decode b_La_out 1 = .ok (.iconst 0, 1) := by decide +kernel
theorem d_La_out_2 : decode b_La_out 2 = .ok (.aload_n 0, 1) := by decide +kernel
theorem d_La_out_3 : decode b_La_out 3 = .ok (.iload_n 1, 1) := by decide +kernel
theorem d_La_out_4 : decode b_La_out 4 = .ok (.invokevirtual 49, 3) := by decide +kernel
theorem d_La_out_7 : decode b_La_out 7 = .ok (.i2l, 1) := by decide +kernel
theorem d_La_out_8 : decode b_La_out 8 = .ok (.lastore, 1) := by decide +kernel
theorem d_La_out_9 : decode b_La_out 9 = .ok (.goto 6, 3) := by decide +kernel
theorem d_La_out_12 : decode b_La_out 12 = .ok (.astore_n 3, 1) := by decide +kernel
theorem d_La_out_13 : decode b_La_out 13 = .ok (.iconst 1, 1) := by decide +kernel
theorem d_La_out_14 : decode b_La_out 14 = .ok (.ireturn, 1) := by decide +kernel
theorem d_La_out_15 : decode b_La_out 15 = .ok (.iconst 0, 1) := by decide +kernel
theorem d_La_out_16 : decode b_La_out 16 = .ok (.ireturn, 1) := by decide +kernel
theorem d_La_law_0 : decode code 0 = .ok (.new 8, 3) := by decide +kernel
theorem d_La_law_3 : decode code 3 = .ok (.dup, 1) := by decide +kernel
theorem d_La_law_4 : decode code 4 = .ok (.invokespecial 52, 3) := by decide +kernel
theorem d_La_law_7 : decode code 7 = .ok (.astore_n 1, 1) := by decide +kernel
theorem d_La_law_8 : decode code 8 = .ok (.new 53, 3) := by decide +kernel
theorem d_La_law_11 : decode code 11 = .ok (.dup, 1) := by decide +kernel
theorem d_La_law_12 : decode code 12 = .ok (.invokespecial 55, 3) := by decide +kernel
theorem d_La_law_15 : decode code 15 = .ok (.astore_n 2, 1) := by decide +kernel
theorem d_La_law_16 : decode code 16 = .ok (.iconst 1, 1) := by decide +kernel
theorem d_La_law_17 : decode code 17 = .ok (.newarray .long, 2) := by decide +kernel
theorem d_La_law_19 : decode code 19 = .ok (.astore_n 3, 1) := by decide +kernel
theorem d_La_law_20 : decode code 20 = .ok (.iconst 0, 1) := by decide +kernel
theorem d_La_law_21 : decode code 21 = .ok (.istore 4, 2) := by decide +kernel
theorem d_La_law_23 : decode code 23 = .ok (.iload 4, 2) := by decide +kernel
theorem d_La_law_25 : decode code 25 = .ok (.aload_n 0, 1) := by decide +kernel
theorem d_La_law_26 : decode code 26 = .ok (.arraylength, 1) := by decide +kernel
theorem d_La_law_27 : decode code 27 = .ok (.iconst 4, 1) := by decide +kernel
theorem d_La_law_28 : decode code 28 = .ok (.isub, 1) := by decide +kernel
theorem d_La_law_29 : decode code 29 = .ok (.if_icmp .gt 777, 3) := by decide +kernel
theorem d_La_law_32 : decode code 32 = .ok (.aload_n 0, 1) := by decide +kernel
theorem d_La_law_33 : decode code 33 = .ok (.iload 4, 2) := by decide +kernel
theorem d_La_law_35 : decode code 35 = .ok (.iaload, 1) := by decide +kernel
theorem d_La_law_36 : decode code 36 = .ok (.bipush 15, 2) := by decide +kernel
theorem d_La_law_38 : decode code 38 = .ok (.iand, 1) := by decide +kernel
theorem d_La_law_39 : decode code 39 = .ok (.tableswitch 761 0 10 #[57, 113, 193, 229, 285, 353, 433, 513, 593, 649, 705], 57) := by decide +kernel
theorem d_La_law_96 : decode code 96 = .ok (.aload_n 1, 1) := by decide +kernel
theorem d_La_law_97 : decode code 97 = .ok (.aload_n 0, 1) := by decide +kernel
theorem d_La_law_98 : decode code 98 = .ok (.iload 4, 2) := by decide +kernel
theorem d_La_law_100 : decode code 100 = .ok (.iconst 1, 1) := by decide +kernel
theorem d_La_law_101 : decode code 101 = .ok (.iadd, 1) := by decide +kernel
theorem d_La_law_102 : decode code 102 = .ok (.iaload, 1) := by decide +kernel
theorem d_La_law_103 : decode code 103 = .ok (.aload_n 3, 1) := by decide +kernel
theorem d_La_law_104 : decode code 104 = .ok (.invokestatic 56, 3) := by decide +kernel
theorem d_La_law_107 : decode code 107 = .ok (.istore 5, 2) := by decide +kernel
theorem d_La_law_109 : decode code 109 = .ok (.aload_n 2, 1) := by decide +kernel
theorem d_La_law_110 : decode code 110 = .ok (.aload_n 0, 1) := by decide +kernel
theorem d_La_law_111 : decode code 111 = .ok (.iload 4, 2) := by decide +kernel
theorem d_La_law_113 : decode code 113 = .ok (.iconst 1, 1) := by decide +kernel
theorem d_La_law_114 : decode code 114 = .ok (.iadd, 1) := by decide +kernel
theorem d_La_law_115 : decode code 115 = .ok (.iaload, 1) := by decide +kernel
theorem d_La_law_116 : decode code 116 = .ok (.invokevirtual 61, 3) := by decide +kernel
theorem d_La_law_119 : decode code 119 = .ok (.istore 6, 2) := by decide +kernel
theorem d_La_law_121 : decode code 121 = .ok (.aload_n 2, 1) := by decide +kernel
theorem d_La_law_122 : decode code 122 = .ok (.invokevirtual 62, 3) := by decide +kernel
theorem d_La_law_125 : decode code 125 = .ok (.iload 5, 2) := by decide +kernel
theorem d_La_law_127 : decode code 127 = .ok (.if_icmp .eq 5, 3) := by decide +kernel
theorem d_La_law_130 : decode code 130 = .ok (.iconst 0, 1) := by decide +kernel
theorem d_La_law_131 : decode code 131 = .ok (.ireturn, 1) := by decide +kernel
theorem d_La_law_132 : decode code 132 = .ok (.iload 5, 2) := by decide +kernel
theorem d_La_law_134 : decode code 134 = .ok (.ifCond .ne 15, 3) := by decide +kernel
theorem d_La_law_137 : decode code 137 = .ok (.aload_n 3, 1) := by decide +kernel
theorem d_La_law_138 : decode code 138 = .ok (.iconst 0, 1) := by decide +kernel
theorem d_La_law_139 : decode code 139 = .ok (.laload, 1) := by decide +kernel
theorem d_La_law_140 : decode code 140 = .ok (.iload 6, 2) := by decide +kernel
theorem d_La_law_142 : decode code 142 = .ok (.i2l, 1) := by decide +kernel
theorem d_La_law_143 : decode code 143 = .ok (.lcmp, 1) := by decide +kernel
theorem d_La_law_144 : decode code 144 = .ok (.ifCond .eq 5, 3) := by decide +kernel
theorem d_La_law_147 : decode code 147 = .ok (.iconst 0, 1) := by decide +kernel
theorem d_La_law_148 : decode code 148 = .ok (.ireturn, 1) := by decide +kernel
theorem d_La_law_149 : decode code 149 = .ok (.goto 651, 3) := by decide +kernel
theorem d_La_law_152 : decode code 152 = .ok (.aload_n 1, 1) := by decide +kernel
theorem d_La_law_153 : decode code 153 = .ok (.aload_n 0, 1) := by decide +kernel
theorem d_La_law_154 : decode code 154 = .ok (.iload 4, 2) := by decide +kernel
theorem d_La_law_156 : decode code 156 = .ok (.iconst 1, 1) := by decide +kernel
theorem d_La_law_157 : decode code 157 = .ok (.iadd, 1) := by decide +kernel
theorem d_La_law_158 : decode code 158 = .ok (.iaload, 1) := by decide +kernel
theorem d_La_law_159 : decode code 159 = .ok (.aload_n 0, 1) := by decide +kernel
theorem d_La_law_160 : decode code 160 = .ok (.iload 4, 2) := by decide +kernel
theorem d_La_law_162 : decode code 162 = .ok (.iconst 2, 1) := by decide +kernel
theorem d_La_law_163 : decode code 163 = .ok (.iadd, 1) := by decide +kernel
theorem d_La_law_164 : decode code 164 = .ok (.iaload, 1) := by decide +kernel
theorem d_La_law_165 : decode code 165 = .ok (.aload_n 0, 1) := by decide +kernel
theorem d_La_law_166 : decode code 166 = .ok (.iload 4, 2) := by decide +kernel
theorem d_La_law_168 : decode code 168 = .ok (.iconst 3, 1) := by decide +kernel
theorem d_La_law_169 : decode code 169 = .ok (.iadd, 1) := by decide +kernel
theorem d_La_law_170 : decode code 170 = .ok (.iaload, 1) := by decide +kernel
theorem d_La_law_171 : decode code 171 = .ok (.aload_n 3, 1) := by decide +kernel
theorem d_La_law_172 : decode code 172 = .ok (.invokestatic 66, 3) := by decide +kernel
theorem d_La_law_175 : decode code 175 = .ok (.istore 5, 2) := by decide +kernel
theorem d_La_law_177 : decode code 177 = .ok (.aload_n 2, 1) := by decide +kernel
theorem d_La_law_178 : decode code 178 = .ok (.aload_n 0, 1) := by decide +kernel
theorem d_La_law_179 : decode code 179 = .ok (.iload 4, 2) := by decide +kernel
theorem d_La_law_181 : decode code 181 = .ok (.iconst 1, 1) := by decide +kernel
theorem d_La_law_182 : decode code 182 = .ok (.iadd, 1) := by decide +kernel
theorem d_La_law_183 : decode code 183 = .ok (.iaload, 1) := by decide +kernel
theorem d_La_law_184 : decode code 184 = .ok (.aload_n 0, 1) := by decide +kernel
theorem d_La_law_185 : decode code 185 = .ok (.iload 4, 2) := by decide +kernel
theorem d_La_law_187 : decode code 187 = .ok (.iconst 2, 1) := by decide +kernel
theorem d_La_law_188 : decode code 188 = .ok (.iadd, 1) := by decide +kernel
theorem d_La_law_189 : decode code 189 = .ok (.iaload, 1) := by decide +kernel
theorem d_La_law_190 : decode code 190 = .ok (.aload_n 0, 1) := by decide +kernel
theorem d_La_law_191 : decode code 191 = .ok (.iload 4, 2) := by decide +kernel
theorem d_La_law_193 : decode code 193 = .ok (.iconst 3, 1) := by decide +kernel
theorem d_La_law_194 : decode code 194 = .ok (.iadd, 1) := by decide +kernel
theorem d_La_law_195 : decode code 195 = .ok (.iaload, 1) := by decide +kernel
theorem d_La_law_196 : decode code 196 = .ok (.invokevirtual 69, 3) := by decide +kernel
theorem d_La_law_199 : decode code 199 = .ok (.istore 6, 2) := by decide +kernel
theorem d_La_law_201 : decode code 201 = .ok (.aload_n 2, 1) := by decide +kernel
theorem d_La_law_202 : decode code 202 = .ok (.invokevirtual 62, 3) := by decide +kernel
theorem d_La_law_205 : decode code 205 = .ok (.iload 5, 2) := by decide +kernel
theorem d_La_law_207 : decode code 207 = .ok (.if_icmp .eq 5, 3) := by decide +kernel
theorem d_La_law_210 : decode code 210 = .ok (.iconst 0, 1) := by decide +kernel
theorem d_La_law_211 : decode code 211 = .ok (.ireturn, 1) := by decide +kernel
theorem d_La_law_212 : decode code 212 = .ok (.iload 5, 2) := by decide +kernel
theorem d_La_law_214 : decode code 214 = .ok (.ifCond .ne 15, 3) := by decide +kernel
theorem d_La_law_217 : decode code 217 = .ok (.aload_n 3, 1) := by decide +kernel
theorem d_La_law_218 : decode code 218 = .ok (.iconst 0, 1) := by decide +kernel
theorem d_La_law_219 : decode code 219 = .ok (.laload, 1) := by decide +kernel
theorem d_La_law_220 : decode code 220 = .ok (.iload 6, 2) := by decide +kernel
theorem d_La_law_222 : decode code 222 = .ok (.i2l, 1) := by decide +kernel
theorem d_La_law_223 : decode code 223 = .ok (.lcmp, 1) := by decide +kernel
theorem d_La_law_224 : decode code 224 = .ok (.ifCond .eq 5, 3) := by decide +kernel
theorem d_La_law_227 : decode code 227 = .ok (.iconst 0, 1) := by decide +kernel
theorem d_La_law_228 : decode code 228 = .ok (.ireturn, 1) := by decide +kernel
theorem d_La_law_229 : decode code 229 = .ok (.goto 571, 3) := by decide +kernel
theorem d_La_law_232 : decode code 232 = .ok (.aload_n 1, 1) := by decide +kernel
theorem d_La_law_233 : decode code 233 = .ok (.aload_n 0, 1) := by decide +kernel
theorem d_La_law_234 : decode code 234 = .ok (.iload 4, 2) := by decide +kernel
theorem d_La_law_236 : decode code 236 = .ok (.iconst 1, 1) := by decide +kernel
theorem d_La_law_237 : decode code 237 = .ok (.iadd, 1) := by decide +kernel
theorem d_La_law_238 : decode code 238 = .ok (.iaload, 1) := by decide +kernel
theorem d_La_law_239 : decode code 239 = .ok (.invokestatic 70, 3) := by decide +kernel
theorem d_La_law_242 : decode code 242 = .ok (.istore 5, 2) := by decide +kernel
theorem d_La_law_244 : decode code 244 = .ok (.aload_n 2, 1) := by decide +kernel
theorem d_La_law_245 : decode code 245 = .ok (.aload_n 0, 1) := by decide +kernel
theorem d_La_law_246 : decode code 246 = .ok (.iload 4, 2) := by decide +kernel
theorem d_La_law_248 : decode code 248 = .ok (.iconst 1, 1) := by decide +kernel
theorem d_La_law_249 : decode code 249 = .ok (.iadd, 1) := by decide +kernel
theorem d_La_law_250 : decode code 250 = .ok (.iaload, 1) := by decide +kernel
theorem d_La_law_251 : decode code 251 = .ok (.invokevirtual 73, 3) := by decide +kernel
theorem d_La_law_254 : decode code 254 = .ok (.aload_n 2, 1) := by decide +kernel
theorem d_La_law_255 : decode code 255 = .ok (.invokevirtual 62, 3) := by decide +kernel
theorem d_La_law_258 : decode code 258 = .ok (.iload 5, 2) := by decide +kernel
theorem d_La_law_260 : decode code 260 = .ok (.if_icmp .eq 5, 3) := by decide +kernel
theorem d_La_law_263 : decode code 263 = .ok (.iconst 0, 1) := by decide +kernel
theorem d_La_law_264 : decode code 264 = .ok (.ireturn, 1) := by decide +kernel
theorem d_La_law_265 : decode code 265 = .ok (.goto 535, 3) := by decide +kernel
theorem d_La_law_268 : decode code 268 = .ok (.aload_n 1, 1) := by decide +kernel
theorem d_La_law_269 : decode code 269 = .ok (.aload_n 0, 1) := by decide +kernel
theorem d_La_law_270 : decode code 270 = .ok (.iload 4, 2) := by decide +kernel
theorem d_La_law_272 : decode code 272 = .ok (.iconst 1, 1) := by decide +kernel
theorem d_La_law_273 : decode code 273 = .ok (.iadd, 1) := by decide +kernel
theorem d_La_law_274 : decode code 274 = .ok (.iaload, 1) := by decide +kernel
theorem d_La_law_275 : decode code 275 = .ok (.aload_n 3, 1) := by decide +kernel
theorem d_La_law_276 : decode code 276 = .ok (.invokestatic 74, 3) := by decide +kernel
theorem d_La_law_279 : decode code 279 = .ok (.istore 5, 2) := by decide +kernel
theorem d_La_law_281 : decode code 281 = .ok (.aload_n 2, 1) := by decide +kernel
theorem d_La_law_282 : decode code 282 = .ok (.aload_n 0, 1) := by decide +kernel
theorem d_La_law_283 : decode code 283 = .ok (.iload 4, 2) := by decide +kernel
theorem d_La_law_285 : decode code 285 = .ok (.iconst 1, 1) := by decide +kernel
theorem d_La_law_286 : decode code 286 = .ok (.iadd, 1) := by decide +kernel
theorem d_La_law_287 : decode code 287 = .ok (.iaload, 1) := by decide +kernel
theorem d_La_law_288 : decode code 288 = .ok (.invokevirtual 76, 3) := by decide +kernel
theorem d_La_law_291 : decode code 291 = .ok (.istore 6, 2) := by decide +kernel
theorem d_La_law_293 : decode code 293 = .ok (.aload_n 2, 1) := by decide +kernel
theorem d_La_law_294 : decode code 294 = .ok (.invokevirtual 62, 3) := by decide +kernel
theorem d_La_law_297 : decode code 297 = .ok (.iload 5, 2) := by decide +kernel
theorem d_La_law_299 : decode code 299 = .ok (.if_icmp .eq 5, 3) := by decide +kernel
theorem d_La_law_302 : decode code 302 = .ok (.iconst 0, 1) := by decide +kernel
theorem d_La_law_303 : decode code 303 = .ok (.ireturn, 1) := by decide +kernel
theorem d_La_law_304 : decode code 304 = .ok (.iload 5, 2) := by decide +kernel
theorem d_La_law_306 : decode code 306 = .ok (.ifCond .ne 15, 3) := by decide +kernel
theorem d_La_law_309 : decode code 309 = .ok (.aload_n 3, 1) := by decide +kernel
theorem d_La_law_310 : decode code 310 = .ok (.iconst 0, 1) := by decide +kernel
theorem d_La_law_311 : decode code 311 = .ok (.laload, 1) := by decide +kernel
theorem d_La_law_312 : decode code 312 = .ok (.iload 6, 2) := by decide +kernel
theorem d_La_law_314 : decode code 314 = .ok (.i2l, 1) := by decide +kernel
theorem d_La_law_315 : decode code 315 = .ok (.lcmp, 1) := by decide +kernel
theorem d_La_law_316 : decode code 316 = .ok (.ifCond .eq 5, 3) := by decide +kernel
theorem d_La_law_319 : decode code 319 = .ok (.iconst 0, 1) := by decide +kernel
theorem d_La_law_320 : decode code 320 = .ok (.ireturn, 1) := by decide +kernel
theorem d_La_law_321 : decode code 321 = .ok (.goto 479, 3) := by decide +kernel
theorem d_La_law_324 : decode code 324 = .ok (.aload_n 1, 1) := by decide +kernel
theorem d_La_law_325 : decode code 325 = .ok (.aload_n 0, 1) := by decide +kernel
theorem d_La_law_326 : decode code 326 = .ok (.iload 4, 2) := by decide +kernel
theorem d_La_law_328 : decode code 328 = .ok (.iconst 1, 1) := by decide +kernel
theorem d_La_law_329 : decode code 329 = .ok (.iadd, 1) := by decide +kernel
theorem d_La_law_330 : decode code 330 = .ok (.iaload, 1) := by decide +kernel
theorem d_La_law_331 : decode code 331 = .ok (.aload_n 0, 1) := by decide +kernel
theorem d_La_law_332 : decode code 332 = .ok (.iload 4, 2) := by decide +kernel
theorem d_La_law_334 : decode code 334 = .ok (.iconst 2, 1) := by decide +kernel
theorem d_La_law_335 : decode code 335 = .ok (.iadd, 1) := by decide +kernel
theorem d_La_law_336 : decode code 336 = .ok (.iaload, 1) := by decide +kernel
theorem d_La_law_337 : decode code 337 = .ok (.aload_n 3, 1) := by decide +kernel
theorem d_La_law_338 : decode code 338 = .ok (.invokestatic 77, 3) := by decide +kernel
theorem d_La_law_341 : decode code 341 = .ok (.istore 5, 2) := by decide +kernel
theorem d_La_law_343 : decode code 343 = .ok (.aload_n 2, 1) := by decide +kernel
theorem d_La_law_344 : decode code 344 = .ok (.aload_n 0, 1) := by decide +kernel
theorem d_La_law_345 : decode code 345 = .ok (.iload 4, 2) := by decide +kernel
theorem d_La_law_347 : decode code 347 = .ok (.iconst 1, 1) := by decide +kernel
theorem d_La_law_348 : decode code 348 = .ok (.iadd, 1) := by decide +kernel
theorem d_La_law_349 : decode code 349 = .ok (.iaload, 1) := by decide +kernel
theorem d_La_law_350 : decode code 350 = .ok (.aload_n 0, 1) := by decide +kernel
theorem d_La_law_351 : decode code 351 = .ok (.iload 4, 2) := by decide +kernel
theorem d_La_law_353 : decode code 353 = .ok (.iconst 2, 1) := by decide +kernel
theorem d_La_law_354 : decode code 354 = .ok (.iadd, 1) := by decide +kernel
theorem d_La_law_355 : decode code 355 = .ok (.iaload, 1) := by decide +kernel
theorem d_La_law_356 : decode code 356 = .ok (.invokevirtual 80, 3) := by decide +kernel
theorem d_La_law_359 : decode code 359 = .ok (.istore 6, 2) := by decide +kernel
theorem d_La_law_361 : decode code 361 = .ok (.aload_n 2, 1) := by decide +kernel
theorem d_La_law_362 : decode code 362 = .ok (.invokevirtual 62, 3) := by decide +kernel
theorem d_La_law_365 : decode code 365 = .ok (.iload 5, 2) := by decide +kernel
theorem d_La_law_367 : decode code 367 = .ok (.if_icmp .eq 5, 3) := by decide +kernel
theorem d_La_law_370 : decode code 370 = .ok (.iconst 0, 1) := by decide +kernel
theorem d_La_law_371 : decode code 371 = .ok (.ireturn, 1) := by decide +kernel
theorem d_La_law_372 : decode code 372 = .ok (.iload 5, 2) := by decide +kernel
theorem d_La_law_374 : decode code 374 = .ok (.ifCond .ne 15, 3) := by decide +kernel
theorem d_La_law_377 : decode code 377 = .ok (.aload_n 3, 1) := by decide +kernel
theorem d_La_law_378 : decode code 378 = .ok (.iconst 0, 1) := by decide +kernel
theorem d_La_law_379 : decode code 379 = .ok (.laload, 1) := by decide +kernel
theorem d_La_law_380 : decode code 380 = .ok (.iload 6, 2) := by decide +kernel
theorem d_La_law_382 : decode code 382 = .ok (.i2l, 1) := by decide +kernel
theorem d_La_law_383 : decode code 383 = .ok (.lcmp, 1) := by decide +kernel
theorem d_La_law_384 : decode code 384 = .ok (.ifCond .eq 5, 3) := by decide +kernel
theorem d_La_law_387 : decode code 387 = .ok (.iconst 0, 1) := by decide +kernel
theorem d_La_law_388 : decode code 388 = .ok (.ireturn, 1) := by decide +kernel
theorem d_La_law_389 : decode code 389 = .ok (.goto 411, 3) := by decide +kernel
theorem d_La_law_392 : decode code 392 = .ok (.aload_n 1, 1) := by decide +kernel
theorem d_La_law_393 : decode code 393 = .ok (.aload_n 0, 1) := by decide +kernel
theorem d_La_law_394 : decode code 394 = .ok (.iload 4, 2) := by decide +kernel
theorem d_La_law_396 : decode code 396 = .ok (.iconst 1, 1) := by decide +kernel
theorem d_La_law_397 : decode code 397 = .ok (.iadd, 1) := by decide +kernel
theorem d_La_law_398 : decode code 398 = .ok (.iaload, 1) := by decide +kernel
theorem d_La_law_399 : decode code 399 = .ok (.aload_n 0, 1) := by decide +kernel
theorem d_La_law_400 : decode code 400 = .ok (.iload 4, 2) := by decide +kernel
theorem d_La_law_402 : decode code 402 = .ok (.iconst 2, 1) := by decide +kernel
theorem d_La_law_403 : decode code 403 = .ok (.iadd, 1) := by decide +kernel
theorem d_La_law_404 : decode code 404 = .ok (.iaload, 1) := by decide +kernel
theorem d_La_law_405 : decode code 405 = .ok (.aload_n 0, 1) := by decide +kernel
theorem d_La_law_406 : decode code 406 = .ok (.iload 4, 2) := by decide +kernel
theorem d_La_law_408 : decode code 408 = .ok (.iconst 3, 1) := by decide +kernel
theorem d_La_law_409 : decode code 409 = .ok (.iadd, 1) := by decide +kernel
theorem d_La_law_410 : decode code 410 = .ok (.iaload, 1) := by decide +kernel
theorem d_La_law_411 : decode code 411 = .ok (.aload_n 3, 1) := by decide +kernel
theorem d_La_law_412 : decode code 412 = .ok (.invokestatic 81, 3) := by decide +kernel
theorem d_La_law_415 : decode code 415 = .ok (.istore 5, 2) := by decide +kernel
theorem d_La_law_417 : decode code 417 = .ok (.aload_n 2, 1) := by decide +kernel
theorem d_La_law_418 : decode code 418 = .ok (.aload_n 0, 1) := by decide +kernel
theorem d_La_law_419 : decode code 419 = .ok (.iload 4, 2) := by decide +kernel
theorem d_La_law_421 : decode code 421 = .ok (.iconst 1, 1) := by decide +kernel
theorem d_La_law_422 : decode code 422 = .ok (.iadd, 1) := by decide +kernel
theorem d_La_law_423 : decode code 423 = .ok (.iaload, 1) := by decide +kernel
theorem d_La_law_424 : decode code 424 = .ok (.aload_n 0, 1) := by decide +kernel
theorem d_La_law_425 : decode code 425 = .ok (.iload 4, 2) := by decide +kernel
theorem d_La_law_427 : decode code 427 = .ok (.iconst 2, 1) := by decide +kernel
theorem d_La_law_428 : decode code 428 = .ok (.iadd, 1) := by decide +kernel
theorem d_La_law_429 : decode code 429 = .ok (.iaload, 1) := by decide +kernel
theorem d_La_law_430 : decode code 430 = .ok (.aload_n 0, 1) := by decide +kernel
theorem d_La_law_431 : decode code 431 = .ok (.iload 4, 2) := by decide +kernel
theorem d_La_law_433 : decode code 433 = .ok (.iconst 3, 1) := by decide +kernel
theorem d_La_law_434 : decode code 434 = .ok (.iadd, 1) := by decide +kernel
theorem d_La_law_435 : decode code 435 = .ok (.iaload, 1) := by decide +kernel
theorem d_La_law_436 : decode code 436 = .ok (.invokevirtual 83, 3) := by decide +kernel
theorem d_La_law_439 : decode code 439 = .ok (.istore 6, 2) := by decide +kernel
theorem d_La_law_441 : decode code 441 = .ok (.aload_n 2, 1) := by decide +kernel
theorem d_La_law_442 : decode code 442 = .ok (.invokevirtual 62, 3) := by decide +kernel
theorem d_La_law_445 : decode code 445 = .ok (.iload 5, 2) := by decide +kernel
theorem d_La_law_447 : decode code 447 = .ok (.if_icmp .eq 5, 3) := by decide +kernel
theorem d_La_law_450 : decode code 450 = .ok (.iconst 0, 1) := by decide +kernel
theorem d_La_law_451 : decode code 451 = .ok (.ireturn, 1) := by decide +kernel
theorem d_La_law_452 : decode code 452 = .ok (.iload 5, 2) := by decide +kernel
theorem d_La_law_454 : decode code 454 = .ok (.ifCond .ne 15, 3) := by decide +kernel
theorem d_La_law_457 : decode code 457 = .ok (.aload_n 3, 1) := by decide +kernel
theorem d_La_law_458 : decode code 458 = .ok (.iconst 0, 1) := by decide +kernel
theorem d_La_law_459 : decode code 459 = .ok (.laload, 1) := by decide +kernel
theorem d_La_law_460 : decode code 460 = .ok (.iload 6, 2) := by decide +kernel
theorem d_La_law_462 : decode code 462 = .ok (.i2l, 1) := by decide +kernel
theorem d_La_law_463 : decode code 463 = .ok (.lcmp, 1) := by decide +kernel
theorem d_La_law_464 : decode code 464 = .ok (.ifCond .eq 5, 3) := by decide +kernel
theorem d_La_law_467 : decode code 467 = .ok (.iconst 0, 1) := by decide +kernel
theorem d_La_law_468 : decode code 468 = .ok (.ireturn, 1) := by decide +kernel
theorem d_La_law_469 : decode code 469 = .ok (.goto 331, 3) := by decide +kernel
theorem d_La_law_472 : decode code 472 = .ok (.aload_n 1, 1) := by decide +kernel
theorem d_La_law_473 : decode code 473 = .ok (.aload_n 0, 1) := by decide +kernel
theorem d_La_law_474 : decode code 474 = .ok (.iload 4, 2) := by decide +kernel
theorem d_La_law_476 : decode code 476 = .ok (.iconst 1, 1) := by decide +kernel
theorem d_La_law_477 : decode code 477 = .ok (.iadd, 1) := by decide +kernel
theorem d_La_law_478 : decode code 478 = .ok (.iaload, 1) := by decide +kernel
theorem d_La_law_479 : decode code 479 = .ok (.aload_n 0, 1) := by decide +kernel
theorem d_La_law_480 : decode code 480 = .ok (.iload 4, 2) := by decide +kernel
theorem d_La_law_482 : decode code 482 = .ok (.iconst 2, 1) := by decide +kernel
theorem d_La_law_483 : decode code 483 = .ok (.iadd, 1) := by decide +kernel
theorem d_La_law_484 : decode code 484 = .ok (.iaload, 1) := by decide +kernel
theorem d_La_law_485 : decode code 485 = .ok (.aload_n 0, 1) := by decide +kernel
theorem d_La_law_486 : decode code 486 = .ok (.iload 4, 2) := by decide +kernel
theorem d_La_law_488 : decode code 488 = .ok (.iconst 3, 1) := by decide +kernel
theorem d_La_law_489 : decode code 489 = .ok (.iadd, 1) := by decide +kernel
theorem d_La_law_490 : decode code 490 = .ok (.iaload, 1) := by decide +kernel
theorem d_La_law_491 : decode code 491 = .ok (.aload_n 3, 1) := by decide +kernel
theorem d_La_law_492 : decode code 492 = .ok (.invokestatic 84, 3) := by decide +kernel
theorem d_La_law_495 : decode code 495 = .ok (.istore 5, 2) := by decide +kernel
theorem d_La_law_497 : decode code 497 = .ok (.aload_n 2, 1) := by decide +kernel
theorem d_La_law_498 : decode code 498 = .ok (.aload_n 0, 1) := by decide +kernel
theorem d_La_law_499 : decode code 499 = .ok (.iload 4, 2) := by decide +kernel
theorem d_La_law_501 : decode code 501 = .ok (.iconst 1, 1) := by decide +kernel
theorem d_La_law_502 : decode code 502 = .ok (.iadd, 1) := by decide +kernel
theorem d_La_law_503 : decode code 503 = .ok (.iaload, 1) := by decide +kernel
theorem d_La_law_504 : decode code 504 = .ok (.aload_n 0, 1) := by decide +kernel
theorem d_La_law_505 : decode code 505 = .ok (.iload 4, 2) := by decide +kernel
theorem d_La_law_507 : decode code 507 = .ok (.iconst 2, 1) := by decide +kernel
theorem d_La_law_508 : decode code 508 = .ok (.iadd, 1) := by decide +kernel
theorem d_La_law_509 : decode code 509 = .ok (.iaload, 1) := by decide +kernel
theorem d_La_law_510 : decode code 510 = .ok (.aload_n 0, 1) := by decide +kernel
theorem d_La_law_511 : decode code 511 = .ok (.iload 4, 2) := by decide +kernel
theorem d_La_law_513 : decode code 513 = .ok (.iconst 3, 1) := by decide +kernel
theorem d_La_law_514 : decode code 514 = .ok (.iadd, 1) := by decide +kernel
theorem d_La_law_515 : decode code 515 = .ok (.iaload, 1) := by decide +kernel
theorem d_La_law_516 : decode code 516 = .ok (.invokevirtual 86, 3) := by decide +kernel
theorem d_La_law_519 : decode code 519 = .ok (.istore 6, 2) := by decide +kernel
theorem d_La_law_521 : decode code 521 = .ok (.aload_n 2, 1) := by decide +kernel
theorem d_La_law_522 : decode code 522 = .ok (.invokevirtual 62, 3) := by decide +kernel
theorem d_La_law_525 : decode code 525 = .ok (.iload 5, 2) := by decide +kernel
theorem d_La_law_527 : decode code 527 = .ok (.if_icmp .eq 5, 3) := by decide +kernel
theorem d_La_law_530 : decode code 530 = .ok (.iconst 0, 1) := by decide +kernel
theorem d_La_law_531 : decode code 531 = .ok (.ireturn, 1) := by decide +kernel
theorem d_La_law_532 : decode code 532 = .ok (.iload 5, 2) := by decide +kernel
theorem d_La_law_534 : decode code 534 = .ok (.ifCond .ne 15, 3) := by decide +kernel
theorem d_La_law_537 : decode code 537 = .ok (.aload_n 3, 1) := by decide +kernel
theorem d_La_law_538 : decode code 538 = .ok (.iconst 0, 1) := by decide +kernel
theorem d_La_law_539 : decode code 539 = .ok (.laload, 1) := by decide +kernel
theorem d_La_law_540 : decode code 540 = .ok (.iload 6, 2) := by decide +kernel
theorem d_La_law_542 : decode code 542 = .ok (.i2l, 1) := by decide +kernel
theorem d_La_law_543 : decode code 543 = .ok (.lcmp, 1) := by decide +kernel
theorem d_La_law_544 : decode code 544 = .ok (.ifCond .eq 5, 3) := by decide +kernel
theorem d_La_law_547 : decode code 547 = .ok (.iconst 0, 1) := by decide +kernel
theorem d_La_law_548 : decode code 548 = .ok (.ireturn, 1) := by decide +kernel
theorem d_La_law_549 : decode code 549 = .ok (.goto 251, 3) := by decide +kernel
theorem d_La_law_552 : decode code 552 = .ok (.aload_n 1, 1) := by decide +kernel
theorem d_La_law_553 : decode code 553 = .ok (.aload_n 0, 1) := by decide +kernel
theorem d_La_law_554 : decode code 554 = .ok (.iload 4, 2) := by decide +kernel
theorem d_La_law_556 : decode code 556 = .ok (.iconst 1, 1) := by decide +kernel
theorem d_La_law_557 : decode code 557 = .ok (.iadd, 1) := by decide +kernel
theorem d_La_law_558 : decode code 558 = .ok (.iaload, 1) := by decide +kernel
theorem d_La_law_559 : decode code 559 = .ok (.aload_n 0, 1) := by decide +kernel
theorem d_La_law_560 : decode code 560 = .ok (.iload 4, 2) := by decide +kernel
theorem d_La_law_562 : decode code 562 = .ok (.iconst 2, 1) := by decide +kernel
theorem d_La_law_563 : decode code 563 = .ok (.iadd, 1) := by decide +kernel
theorem d_La_law_564 : decode code 564 = .ok (.iaload, 1) := by decide +kernel
theorem d_La_law_565 : decode code 565 = .ok (.aload_n 0, 1) := by decide +kernel
theorem d_La_law_566 : decode code 566 = .ok (.iload 4, 2) := by decide +kernel
end
section
theorem d_La_law_568 : decode code 568 = .ok (.iconst 3, 1) := by decide +kernel
theorem d_La_law_569 : decode code 569 = .ok (.iadd, 1) := by decide +kernel
theorem d_La_law_570 : decode code 570 = .ok (.iaload, 1) := by decide +kernel
theorem d_La_law_571 : decode code 571 = .ok (.aload_n 3, 1) := by decide +kernel
theorem d_La_law_572 : decode code 572 = .ok (.invokestatic 87, 3) := by decide +kernel
theorem d_La_law_575 : decode code 575 = .ok (.istore 5, 2) := by decide +kernel
theorem d_La_law_577 : decode code 577 = .ok (.aload_n 2, 1) := by decide +kernel
theorem d_La_law_578 : decode code 578 = .ok (.aload_n 0, 1) := by decide +kernel
theorem d_La_law_579 : decode code 579 = .ok (.iload 4, 2) := by decide +kernel
theorem d_La_law_581 : decode code 581 = .ok (.iconst 1, 1) := by decide +kernel
theorem d_La_law_582 : decode code 582 = .ok (.iadd, 1) := by decide +kernel
theorem d_La_law_583 : decode code 583 = .ok (.iaload, 1) := by decide +kernel
theorem d_La_law_584 : decode code 584 = .ok (.aload_n 0, 1) := by decide +kernel
theorem d_La_law_585 : decode code 585 = .ok (.iload 4, 2) := by decide +kernel
theorem d_La_law_587 : decode code 587 = .ok (.iconst 2, 1) := by decide +kernel
theorem d_La_law_588 : decode code 588 = .ok (.iadd, 1) := by decide +kernel
theorem d_La_law_589 : decode code 589 = .ok (.iaload, 1) := by decide +kernel
theorem d_La_law_590 : decode code 590 = .ok (.aload_n 0, 1) := by decide +kernel
theorem d_La_law_591 : decode code 591 = .ok (.iload 4, 2) := by decide +kernel
theorem d_La_law_593 : decode code 593 = .ok (.iconst 3, 1) := by decide +kernel
theorem d_La_law_594 : decode code 594 = .ok (.iadd, 1) := by decide +kernel
theorem d_La_law_595 : decode code 595 = .ok (.iaload, 1) := by decide +kernel
theorem d_La_law_596 : decode code 596 = .ok (.invokevirtual 89, 3) := by decide +kernel
theorem d_La_law_599 : decode code 599 = .ok (.istore 6, 2) := by decide +kernel
theorem d_La_law_601 : decode code 601 = .ok (.aload_n 2, 1) := by decide +kernel
theorem d_La_law_602 : decode code 602 = .ok (.invokevirtual 62, 3) := by decide +kernel
theorem d_La_law_605 : decode code 605 = .ok (.iload 5, 2) := by decide +kernel
theorem d_La_law_607 : decode code 607 = .ok (.if_icmp .eq 5, 3) := by decide +kernel
theorem d_La_law_610 : decode code 610 = .ok (.iconst 0, 1) := by decide +kernel
theorem d_La_law_611 : decode code 611 = .ok (.ireturn, 1) := by decide +kernel
theorem d_La_law_612 : decode code 612 = .ok (.iload 5, 2) := by decide +kernel
theorem d_La_law_614 : decode code 614 = .ok (.ifCond .ne 15, 3) := by decide +kernel
theorem d_La_law_617 : decode code 617 = .ok (.aload_n 3, 1) := by decide +kernel
theorem d_La_law_618 : decode code 618 = .ok (.iconst 0, 1) := by decide +kernel
theorem d_La_law_619 : decode code 619 = .ok (.laload, 1) := by decide +kernel
theorem d_La_law_620 : decode code 620 = .ok (.iload 6, 2) := by decide +kernel
theorem d_La_law_622 : decode code 622 = .ok (.i2l, 1) := by decide +kernel
theorem d_La_law_623 : decode code 623 = .ok (.lcmp, 1) := by decide +kernel
theorem d_La_law_624 : decode code 624 = .ok (.ifCond .eq 5, 3) := by decide +kernel
theorem d_La_law_627 : decode code 627 = .ok (.iconst 0, 1) := by decide +kernel
theorem d_La_law_628 : decode code 628 = .ok (.ireturn, 1) := by decide +kernel
theorem d_La_law_629 : decode code 629 = .ok (.goto 171, 3) := by decide +kernel
theorem d_La_law_632 : decode code 632 = .ok (.aload_n 1, 1) := by decide +kernel
theorem d_La_law_633 : decode code 633 = .ok (.aload_n 0, 1) := by decide +kernel
theorem d_La_law_634 : decode code 634 = .ok (.iload 4, 2) := by decide +kernel
theorem d_La_law_636 : decode code 636 = .ok (.iconst 1, 1) := by decide +kernel
theorem d_La_law_637 : decode code 637 = .ok (.iadd, 1) := by decide +kernel
theorem d_La_law_638 : decode code 638 = .ok (.iaload, 1) := by decide +kernel
theorem d_La_law_639 : decode code 639 = .ok (.aload_n 3, 1) := by decide +kernel
theorem d_La_law_640 : decode code 640 = .ok (.invokestatic 90, 3) := by decide +kernel
theorem d_La_law_643 : decode code 643 = .ok (.istore 5, 2) := by decide +kernel
theorem d_La_law_645 : decode code 645 = .ok (.aload_n 2, 1) := by decide +kernel
theorem d_La_law_646 : decode code 646 = .ok (.aload_n 0, 1) := by decide +kernel
theorem d_La_law_647 : decode code 647 = .ok (.iload 4, 2) := by decide +kernel
theorem d_La_law_649 : decode code 649 = .ok (.iconst 1, 1) := by decide +kernel
theorem d_La_law_650 : decode code 650 = .ok (.iadd, 1) := by decide +kernel
theorem d_La_law_651 : decode code 651 = .ok (.iaload, 1) := by decide +kernel
theorem d_La_law_652 : decode code 652 = .ok (.invokevirtual 92, 3) := by decide +kernel
theorem d_La_law_655 : decode code 655 = .ok (.istore 6, 2) := by decide +kernel
theorem d_La_law_657 : decode code 657 = .ok (.aload_n 2, 1) := by decide +kernel
theorem d_La_law_658 : decode code 658 = .ok (.invokevirtual 62, 3) := by decide +kernel
theorem d_La_law_661 : decode code 661 = .ok (.iload 5, 2) := by decide +kernel
theorem d_La_law_663 : decode code 663 = .ok (.if_icmp .eq 5, 3) := by decide +kernel
theorem d_La_law_666 : decode code 666 = .ok (.iconst 0, 1) := by decide +kernel
theorem d_La_law_667 : decode code 667 = .ok (.ireturn, 1) := by decide +kernel
theorem d_La_law_668 : decode code 668 = .ok (.iload 5, 2) := by decide +kernel
theorem d_La_law_670 : decode code 670 = .ok (.ifCond .ne 15, 3) := by decide +kernel
theorem d_La_law_673 : decode code 673 = .ok (.aload_n 3, 1) := by decide +kernel
theorem d_La_law_674 : decode code 674 = .ok (.iconst 0, 1) := by decide +kernel
theorem d_La_law_675 : decode code 675 = .ok (.laload, 1) := by decide +kernel
theorem d_La_law_676 : decode code 676 = .ok (.iload 6, 2) := by decide +kernel
theorem d_La_law_678 : decode code 678 = .ok (.i2l, 1) := by decide +kernel
theorem d_La_law_679 : decode code 679 = .ok (.lcmp, 1) := by decide +kernel
theorem d_La_law_680 : decode code 680 = .ok (.ifCond .eq 5, 3) := by decide +kernel
theorem d_La_law_683 : decode code 683 = .ok (.iconst 0, 1) := by decide +kernel
theorem d_La_law_684 : decode code 684 = .ok (.ireturn, 1) := by decide +kernel
theorem d_La_law_685 : decode code 685 = .ok (.goto 115, 3) := by decide +kernel
theorem d_La_law_688 : decode code 688 = .ok (.aload_n 1, 1) := by decide +kernel
theorem d_La_law_689 : decode code 689 = .ok (.aload_n 0, 1) := by decide +kernel
theorem d_La_law_690 : decode code 690 = .ok (.iload 4, 2) := by decide +kernel
theorem d_La_law_692 : decode code 692 = .ok (.iconst 1, 1) := by decide +kernel
theorem d_La_law_693 : decode code 693 = .ok (.iadd, 1) := by decide +kernel
theorem d_La_law_694 : decode code 694 = .ok (.iaload, 1) := by decide +kernel
theorem d_La_law_695 : decode code 695 = .ok (.aload_n 3, 1) := by decide +kernel
theorem d_La_law_696 : decode code 696 = .ok (.invokestatic 93, 3) := by decide +kernel
theorem d_La_law_699 : decode code 699 = .ok (.istore 5, 2) := by decide +kernel
theorem d_La_law_701 : decode code 701 = .ok (.aload_n 2, 1) := by decide +kernel
theorem d_La_law_702 : decode code 702 = .ok (.aload_n 0, 1) := by decide +kernel
theorem d_La_law_703 : decode code 703 = .ok (.iload 4, 2) := by decide +kernel
theorem d_La_law_705 : decode code 705 = .ok (.iconst 1, 1) := by decide +kernel
theorem d_La_law_706 : decode code 706 = .ok (.iadd, 1) := by decide +kernel
theorem d_La_law_707 : decode code 707 = .ok (.iaload, 1) := by decide +kernel
theorem d_La_law_708 : decode code 708 = .ok (.invokevirtual 95, 3) := by decide +kernel
theorem d_La_law_711 : decode code 711 = .ok (.istore 6, 2) := by decide +kernel
theorem d_La_law_713 : decode code 713 = .ok (.aload_n 2, 1) := by decide +kernel
theorem d_La_law_714 : decode code 714 = .ok (.invokevirtual 62, 3) := by decide +kernel
theorem d_La_law_717 : decode code 717 = .ok (.iload 5, 2) := by decide +kernel
theorem d_La_law_719 : decode code 719 = .ok (.if_icmp .eq 5, 3) := by decide +kernel
theorem d_La_law_722 : decode code 722 = .ok (.iconst 0, 1) := by decide +kernel
theorem d_La_law_723 : decode code 723 = .ok (.ireturn, 1) := by decide +kernel
theorem d_La_law_724 : decode code 724 = .ok (.iload 5, 2) := by decide +kernel
theorem d_La_law_726 : decode code 726 = .ok (.ifCond .ne 15, 3) := by decide +kernel
theorem d_La_law_729 : decode code 729 = .ok (.aload_n 3, 1) := by decide +kernel
theorem d_La_law_730 : decode code 730 = .ok (.iconst 0, 1) := by decide +kernel
theorem d_La_law_731 : decode code 731 = .ok (.laload, 1) := by decide +kernel
theorem d_La_law_732 : decode code 732 = .ok (.iload 6, 2) := by decide +kernel
theorem d_La_law_734 : decode code 734 = .ok (.i2l, 1) := by decide +kernel
theorem d_La_law_735 : decode code 735 = .ok (.lcmp, 1) := by decide +kernel
theorem d_La_law_736 : decode code 736 = .ok (.ifCond .eq 5, 3) := by decide +kernel
theorem d_La_law_739 : decode code 739 = .ok (.iconst 0, 1) := by decide +kernel
theorem d_La_law_740 : decode code 740 = .ok (.ireturn, 1) := by decide +kernel
theorem d_La_law_741 : decode code 741 = .ok (.goto 59, 3) := by decide +kernel
theorem d_La_law_744 : decode code 744 = .ok (.aload_n 1, 1) := by decide +kernel
theorem d_La_law_745 : decode code 745 = .ok (.aload_n 0, 1) := by decide +kernel
theorem d_La_law_746 : decode code 746 = .ok (.iload 4, 2) := by decide +kernel
theorem d_La_law_748 : decode code 748 = .ok (.iconst 1, 1) := by decide +kernel
theorem d_La_law_749 : decode code 749 = .ok (.iadd, 1) := by decide +kernel
theorem d_La_law_750 : decode code 750 = .ok (.iaload, 1) := by decide +kernel
theorem d_La_law_751 : decode code 751 = .ok (.aload_n 3, 1) := by decide +kernel
theorem d_La_law_752 : decode code 752 = .ok (.invokestatic 96, 3) := by decide +kernel
theorem d_La_law_755 : decode code 755 = .ok (.istore 5, 2) := by decide +kernel
theorem d_La_law_757 : decode code 757 = .ok (.aload_n 2, 1) := by decide +kernel
theorem d_La_law_758 : decode code 758 = .ok (.aload_n 0, 1) := by decide +kernel
theorem d_La_law_759 : decode code 759 = .ok (.iload 4, 2) := by decide +kernel
theorem d_La_law_761 : decode code 761 = .ok (.iconst 1, 1) := by decide +kernel
theorem d_La_law_762 : decode code 762 = .ok (.iadd, 1) := by decide +kernel
theorem d_La_law_763 : decode code 763 = .ok (.iaload, 1) := by decide +kernel
theorem d_La_law_764 : decode code 764 = .ok (.invokevirtual 98, 3) := by decide +kernel
theorem d_La_law_767 : decode code 767 = .ok (.istore 6, 2) := by decide +kernel
theorem d_La_law_769 : decode code 769 = .ok (.aload_n 2, 1) := by decide +kernel
theorem d_La_law_770 : decode code 770 = .ok (.invokevirtual 62, 3) := by decide +kernel
theorem d_La_law_773 : decode code 773 = .ok (.iload 5, 2) := by decide +kernel
theorem d_La_law_775 : decode code 775 = .ok (.if_icmp .eq 5, 3) := by decide +kernel
theorem d_La_law_778 : decode code 778 = .ok (.iconst 0, 1) := by decide +kernel
theorem d_La_law_779 : decode code 779 = .ok (.ireturn, 1) := by decide +kernel
theorem d_La_law_780 : decode code 780 = .ok (.iload 5, 2) := by decide +kernel
theorem d_La_law_782 : decode code 782 = .ok (.ifCond .ne 15, 3) := by decide +kernel
theorem d_La_law_785 : decode code 785 = .ok (.aload_n 3, 1) := by decide +kernel
theorem d_La_law_786 : decode code 786 = .ok (.iconst 0, 1) := by decide +kernel
theorem d_La_law_787 : decode code 787 = .ok (.laload, 1) := by decide +kernel
theorem d_La_law_788 : decode code 788 = .ok (.iload 6, 2) := by decide +kernel
theorem d_La_law_790 : decode code 790 = .ok (.i2l, 1) := by decide +kernel
theorem d_La_law_791 : decode code 791 = .ok (.lcmp, 1) := by decide +kernel
theorem d_La_law_792 : decode code 792 = .ok (.ifCond .eq 5, 3) := by decide +kernel
theorem d_La_law_795 : decode code 795 = .ok (.iconst 0, 1) := by decide +kernel
theorem d_La_law_796 : decode code 796 = .ok (.ireturn, 1) := by decide +kernel
theorem d_La_law_797 : decode code 797 = .ok (.goto 3, 3) := by decide +kernel
theorem d_La_law_800 : decode code 800 = .ok (.iinc 4 4, 3) := by decide +kernel
theorem d_La_law_803 : decode code 803 = .ok (.goto (-780), 3) := by decide +kernel
theorem d_La_law_806 : decode code 806 = .ok (.iconst 1, 1) := by decide +kernel
theorem d_La_law_807 : decode code 807 = .ok (.ireturn, 1) := by decide +kernel
end
section
/-! FUNCTION WORLDS: n cells at the addresses ad 0, ad 1 .., with the contents w 0, w 1 .. -/
def fw (n : Nat) (ad : Nat → Nat) (w : Nat → va_E) : va_W := (List.range n).map fun k => (ad k, w k)
theorem fw_len {n : Nat} {ad : Nat → Nat} {w : Nat → va_E} : (fw n ad w).length = n := by simp [fw]
theorem fw_get {n : Nat} {ad : Nat → Nat} {w : Nat → va_E} {k : Nat} (hk : k < n) : (fw n ad w)[k]? = some (ad k, w k) := by
  simp [fw, hk]
theorem fw_out {n : Nat} {ad : Nat → Nat} {w : Nat → va_E} {k : Nat} (hk : ¬ k < n) : (fw n ad w)[k]? = none := by
  rw [List.getElem?_eq_none]; rw [fw_len]; omega
theorem fw_of {n : Nat} {ad : Nat → Nat} {w : Nat → va_E} {k : Nat} {q : Nat × va_E} (h : (fw n ad w)[k]? = some q) : k < n ∧ q = (ad k, w k) := by
  by_cases hk : k < n
  · rw [fw_get hk] at h; exact ⟨hk, (Option.some.inj h).symm⟩
  · rw [fw_out hk] at h; cases h
theorem fw_set {n : Nat} {ad : Nat → Nat} {w : Nat → va_E} {k : Nat} {e : va_E} (hk : k < n) : (fw n ad w).set k (ad k, e) = fw n ad (va_up w k e) := by
  apply List.ext_getElem?
  intro i
  by_cases h : i = k
  · subst h
    rw [List.getElem?_set_self (by rw [fw_len]; exact hk), fw_get hk]
    simp [va_up]
  · rw [List.getElem?_set_ne (Ne.symm h)]
    by_cases hi : i < n
    · rw [fw_get hi, fw_get hi]; simp [va_up, h]
    · rw [fw_out hi, fw_out hi]
theorem fw_push {n : Nat} {ad : Nat → Nat} {w : Nat → va_E} {q : Nat} {e : va_E} : fw n ad w ++ [(q, e)] = fw (n + 1) (va_up ad n q) (va_up w n e) := by
  apply List.ext_getElem?
  intro i
  by_cases hi : i < n
  · rw [List.getElem?_append_left (by rw [fw_len]; exact hi), fw_get hi, fw_get (by omega)]
    have : i ≠ n := by omega
    simp [va_up, this]
  · by_cases h2 : i = n
    · subst h2
      rw [List.getElem?_append_right (by rw [fw_len]; omega), fw_len, fw_get (by omega)]
      simp [va_up]
    · rw [fw_out (by omega), List.getElem?_eq_none]
      rw [List.length_append, fw_len]
      have : i ≠ n := h2
      simp only [List.length_cons, List.length_nil]
      omega
theorem fw_congr {n : Nat} {ad : Nat → Nat} {w w' : Nat → va_E} (h : ∀ k, k < n → w k = w' k) : fw n ad w = fw n ad w' := by
  apply List.ext_getElem?
  intro i
  by_cases hi : i < n
  · rw [fw_get hi, fw_get hi, h i hi]
  · rw [fw_out hi, fw_out hi]
/-- the addresses are apart, and of a kind -/
def fD (A : Nat → Prop) (n : Nat) (ad : Nat → Nat) : Prop := (∀ i j, i < n → j < n → ad i = ad j → i = j) ∧ ∀ k, k < n → A (ad k)
theorem fD.to {A : Nat → Prop} {n : Nat} {ad : Nat → Nat} {w : Nat → va_E} (h : fD A n ad) : va_D A (fw n ad w) := by
  refine ⟨fun i j p q hi hj hpq => ?_, fun k q hk => ?_⟩
  · obtain ⟨h1, rfl⟩ := fw_of hi
    obtain ⟨h2, rfl⟩ := fw_of hj
    exact h.1 i j h1 h2 hpq
  · obtain ⟨h1, rfl⟩ := fw_of hk
    exact h.2 k h1
theorem fD.of {A : Nat → Prop} {n : Nat} {ad : Nat → Nat} {w : Nat → va_E} (h : va_D A (fw n ad w)) : fD A n ad :=
  ⟨fun i j hi hj hij => h.1 i j _ _ (fw_get hi) (fw_get hj) hij, fun k hk => h.2 k _ (fw_get hk)⟩
/-! LOCALS by their numbers; a newer entry hides an older one -/
def lk : List (Nat × Value) → Nat → Option Value
  | [], _ => none
  | q :: r, i => bif Nat.beq q.1 i then some q.2 else lk r i
theorem lk_mem {lv : List (Nat × Value)} {i : Nat} {v : Value} (h : lk lv i = some v) : (i, v) ∈ lv := by
  induction lv with
  | nil => cases h
  | cons q r ih =>
    unfold lk at h
    cases hb : Nat.beq q.1 i with
    | true =>
      rw [hb] at h
      have e : q.1 = i := Nat.eq_of_beq_eq_true hb
      have h2 : q.2 = v := Option.some.inj h
      subst e; subst h2
      exact List.mem_cons_self
    | false =>
      rw [hb] at h
      exact List.mem_cons_of_mem _ (ih h)
theorem lk_ne {lv : List (Nat × Value)} {i j : Nat} {v w : Value} (hij : i ≠ j) (h : lk ((i, v) :: lv) j = some w) : lk lv j = some w := by
  unfold lk at h
  cases hb : Nat.beq i j with
  | true => exact absurd (Nat.eq_of_beq_eq_true hb) hij
  | false => rw [show Nat.beq (i, v).1 j = false from hb] at h; exact h
theorem lk_eq {lv : List (Nat × Value)} {i : Nat} {v w : Value} (h : lk ((i, v) :: lv) i = some w) : w = v := by
  unfold lk at h
  rw [show Nat.beq (i, v).1 i = true from Nat.beq_refl i] at h
  exact (Option.some.inj h).symm
def lh (ls : Array Slot) (nL : Nat) (lv : List (Nat × Value)) : Prop := ls.size = nL ∧ lv_wf ls ∧ ∀ i v, lk lv i = some v → ls[i]? = some (.val v) ∧ v.category = 1
theorem lh.at {ls : Array Slot} {nL : Nat} {lv : List (Nat × Value)} (h : lh ls nL lv) {i : Nat} {v : Value} (hk : lk lv i = some v) : ls[i]? = some (.val v) := (h.2.2 i v hk).1
theorem lh.store {ls : Array Slot} {nL : Nat} {lv : List (Nat × Value)} {i : Nat} {v : Value} (h : lh ls nL lv) (hi : i < nL) (hc : v.category = 1) : ∃ ls', storeLocals ls i v = some ls' ∧ lh ls' nL ((i, v) :: lv) := by
  obtain ⟨ls', e', h'⟩ := lv_store1 (l := []) (v := v) ⟨h.1, h.2.1, fun q hq => by cases hq⟩ hi hc
  refine ⟨ls', e', h'.1, h'.2.1, fun j u hj => ?_⟩
  by_cases hij : i = j
  · subst hij
    rw [lk_eq hj]
    exact ⟨h'.2.2 (i, v) List.mem_cons_self, hc⟩
  · have hj' := lk_ne hij hj
    obtain ⟨g1, g2⟩ := h.2.2 j u hj'
    obtain ⟨ls2, e2, h2⟩ := lv_store1 (l := [(j, u)]) (v := v) ⟨h.1, h.2.1, fun q hq => by rw [List.mem_singleton.mp hq]; exact g1⟩ hi hc
    have : ls2 = ls' := Option.some.inj (e2.symm.trans e')
    subst this
    refine ⟨h2.2.2 (j, u) (List.mem_cons_of_mem _ (List.mem_filter.mpr ⟨List.mem_singleton.mpr rfl, ?_⟩)), g2⟩
    have hn : (j == i) = false := by simp; exact fun q => hij q.symm
    simp [hn, g2]
def lsub (lv : List (Nat × Value)) : List (Nat × Value) → Prop
  | [] => True
  | q :: r => lk lv q.1 = some q.2 ∧ lsub lv r
theorem lsub_mem {lv lv' : List (Nat × Value)} (h : lsub lv lv') : ∀ q ∈ lv', lk lv q.1 = some q.2 := by
  induction lv' with
  | nil => intro q hq; cases hq
  | cons a r ih =>
    intro q hq
    rcases List.mem_cons.mp hq with rfl | hq
    · exact h.1
    · exact ih h.2 q hq
theorem lh.sub {ls : Array Slot} {nL : Nat} {lv lv' : List (Nat × Value)} (h : lh ls nL lv) (hs : lsub lv lv') : lh ls nL lv' := ⟨h.1, h.2.1, fun i v hk => h.2.2 i v (lsub_mem hs (i, v) (lk_mem hk))⟩
theorem lh.entry (vs : List Value) {n : Nat} (h : (lg_sl vs).length ≤ n) (hc : ∀ v ∈ vs, v.category = 1) : lh ((lg_sl vs ++ List.replicate (n - (lg_sl vs).length) Slot.unset).toArray) n (lv_args 0 vs) := by
  have h0 := lv_entry vs h
  refine ⟨h0.1, h0.2.1, fun i v hk => ⟨h0.2.2 (i, v) (lk_mem hk), ?_⟩⟩
  have key : ∀ (vs : List Value) (k : Nat), (∀ v ∈ vs, v.category = 1) → ∀ q ∈ lv_args k vs, q.2.category = 1 := by
    intro vs
    induction vs with
    | nil => intro k _ q hq; simp [lv_args] at hq
    | cons a r ih =>
      intro k hc q hq
      simp only [lv_args, List.mem_cons] at hq
      rcases hq with rfl | hq
      · exact hc _ List.mem_cons_self
      · exact ih _ (fun v hv => hc v (List.mem_cons_of_mem _ hv)) q hq
  exact key vs 0 hc (i, v) (lk_mem hk)
/-! THE WORDS OF NEST MATES -/
def isN : Cond → Bool
  | .fieldLinkNest .. => true
  | .methodLinkNest .. => true
  | _ => false
def nw : List Cond := tables_1.filter isN
theorem nw_of {w : Cond} (i : Nat) (h : tables_1[i]? = some w) (hg : isN w = true) : w ∈ nw := List.mem_filter.mpr ⟨List.mem_of_getElem? h, hg⟩
theorem nw_warm {s U : State} (hW : s.WarmedH U.vm) (h : ∀ w ∈ nw, va_Nw w s) : ∀ w ∈ nw, va_Nw w U := by
  intro w hw
  have hn := (List.mem_filter.mp hw).2
  have hz := h w hw
  cases w <;> first | exact va_Nw.warmF hW hz | exact va_Nw.warmM hW hz | cases hn
theorem nw_same {s U : State} (e : s.vm = U.vm) (h : ∀ w ∈ nw, va_Nw w s) : ∀ w ∈ nw, va_Nw w U := by
  intro w hw
  have hn := (List.mem_filter.mp hw).2
  have hz := h w hw
  cases w <;> first | exact va_Nw.same rfl e hz | cases hn
/-- array classes: 0 int, 1 Text, 2 Block, 3 Program, 4 Frame, 5 long -/
abbrev tyl (aC : Nat → ClassId) : List (ClassId × FieldType) := [(aC 0, .int), (aC 1, .object R_Tx), (aC 2, .object R_Bl), (aC 3, .object R_Pr), (aC 4, .object R_Fr), (aC 5, .long)]
/-- what stays the same all through a method -/
def Cx (p : Program) (s : State) (m : MethodId) (c : Code) (args : Array Value) (cc : ByteArray) (own : String) (D : va_G) (aC : Nat → ClassId) (A : Nat → Prop) (n : Nat) (ad : Nat → Nat) : Prop :=
  p.tables.exec = Jvm.exec ∧ c.code = cc ∧ s.vm.findClass own = some m.cls ∧ (∀ w ∈ gw, w.before args s = true) ∧ (∀ w ∈ nw, va_Nw w s) ∧ va_K D classes (tyl aC) s ∧ fD A n ad
/-- THE JUDGEMENT: from every heap that holds the world, and every frame whose locals are lv, the machine comes to Q -/
def J (p : Program) (l : Launch) (e : Env) (R : Room) (s : State) (m : MethodId) (args : Array Value) (below : List Frame) (meth : Method) (c : Code) (D : va_G) (A : Nat → Prop) (cells slots : Nat) (Q : State → Prop) (n : Nat) (ad : Nat → Nat) (w : Nat → va_E) (nL pc : Nat) (lv : List (Nat × Value)) (st : List Value) : Prop :=
  ∀ (H : Heap) (locs : List Loc) (ls : Array Slot), va_P D classes (fw n ad w) H → va_S A s.heap H locs → lh ls nL lv → W p l e R s m args below meth c H locs cells slots Q (F0 m pc ls st)
/-! TYPED MEMORY: objects' ints by (cell, field), arrays' ints by (cell, place); references are the shape's -/
abbrev tm_K : Type := Nat × Nat × Nat
abbrev tm_M : Type := (tm_K → Nat → Int32) × (tm_K → Nat → Int32)
abbrev tm_Sh : Type := (Nat × List (Option Nat)) ⊕ (Nat ⊕ (Nat × Nat × (Nat → Nat)))
def tm_fs (ad : Nat → Nat) (iv : Nat → Int32) : Nat → List (Option Nat) → List Value
  | _, [] => []
  | j, q :: r => (match q with | none => .int (iv j) | some o => .ref (ad o)) :: tm_fs ad iv (j + 1) r
theorem tm_fs_i {ad : Nat → Nat} {iv : Nat → Int32} : ∀ (fl : List (Option Nat)) (j i : Nat), fl[i]? = some none → (tm_fs ad iv j fl)[i]? = some (.int (iv (j + i)))
  | [], _, _, h => by simp at h
  | q :: r, j, 0, h => by
    simp at h; subst h; simp [tm_fs]
  | q :: r, j, i + 1, h => by
    have := tm_fs_i (ad := ad) (iv := iv) r (j + 1) i (by simpa using h)
    simp only [tm_fs, List.getElem?_cons_succ]
    rw [this]
    congr 3
    omega
theorem tm_fs_r {ad : Nat → Nat} {iv : Nat → Int32} {o : Nat} : ∀ (fl : List (Option Nat)) (j i : Nat), fl[i]? = some (some o) → (tm_fs ad iv j fl)[i]? = some (.ref (ad o))
  | [], _, _, h => by simp at h
  | q :: r, j, 0, h => by
    simp at h; subst h; simp [tm_fs]
  | q :: r, j, i + 1, h => by
    simp only [tm_fs, List.getElem?_cons_succ]
    exact tm_fs_r r (j + 1) i (by simpa using h)
theorem tm_fs_len {ad : Nat → Nat} {iv : Nat → Int32} : ∀ (fl : List (Option Nat)) (j : Nat), (tm_fs ad iv j fl).length = fl.length
  | [], _ => rfl
  | q :: r, j => by simp [tm_fs, tm_fs_len r (j + 1)]
theorem tm_fs_eq {ad : Nat → Nat} {iv iv' : Nat → Int32} : ∀ (fl : List (Option Nat)) (j : Nat), (∀ i, j ≤ i → iv i = iv' i) → tm_fs ad iv j fl = tm_fs ad iv' j fl
  | [], _, _ => rfl
  | q :: r, j, h => by
    simp only [tm_fs]
    rw [tm_fs_eq r (j + 1) (fun i hi => h i (by omega)), h j (Nat.le_refl j)]
theorem tm_fs_set {ad : Nat → Nat} {v : Int32} : ∀ (fl : List (Option Nat)) (iv : Nat → Int32) (j i : Nat), fl[i]? = some none → (tm_fs ad iv j fl).set i (.int v) = tm_fs ad (upd iv (j + i) v) j fl
  | [], _, _, _, h => by simp at h
  | q :: r, iv, j, 0, h => by
    simp at h; subst h
    simp only [tm_fs, List.set_cons_zero, Nat.add_zero]
    rw [tm_fs_eq r (j + 1) (iv := iv) (iv' := upd iv j v) (fun i hi => by unfold upd; rw [if_neg (by omega)])]
    simp [upd]
  | q :: r, iv, j, i + 1, h => by
    simp only [tm_fs, List.set_cons_succ]
    rw [tm_fs_set r iv (j + 1) i (by simpa using h)]
    have e1 : j + 1 + i = j + (i + 1) := by omega
    rw [e1]
    have e2 : upd iv (j + (i + 1)) v j = iv j := by unfold upd; rw [if_neg (by omega)]
    rw [e2]
def tm_cell (ad : Nat → Nat) (aC : Nat → ClassId) (x : tm_M) (K : tm_K) : tm_Sh → va_E
  | .inl q => .inr (q.1, tm_fs ad (x.1 K) 0 q.2)
  | .inr (.inl N) => .inl (aC 0, N, .inl (x.2 K))
  | .inr (.inr q) => .inl (aC q.1, q.2.1, .inr (.inr (.inr (.inr (fun i => some (ad (q.2.2 i)))))))
/-- the world of a typed memory: cell k has the shape sh k, its numbers stand in the memory under the key ky k -/
def tw (ad : Nat → Nat) (aC : Nat → ClassId) (sh : Nat → tm_Sh) (ky : Nat → tm_K) (x : tm_M) : Nat → va_E := fun k => tm_cell ad aC x (ky k) (sh k)
/-- a field is set; a place of an array is set -/
def sI (x : tm_M) (K : tm_K) (j : Nat) (v : Int32) : tm_M := (fun K' => if K' = K then upd (x.1 K') j v else x.1 K', x.2)
def sA (x : tm_M) (K : tm_K) (i : Nat) (v : Int32) : tm_M := (x.1, fun K' => if K' = K then upd (x.2 K') i v else x.2 K')
theorem tw_sI {ad : Nat → Nat} {aC : Nat → ClassId} {sh : Nat → tm_Sh} {ky : Nat → tm_K} {x : tm_M} {k j ci : Nat} {fl : List (Option Nat)} {v : Int32} (hky : ∀ a b, ky a = ky b → a = b) (hs : sh k = .inl (ci, fl)) (hj : fl[j]? = some none) : va_up (tw ad aC sh ky x) k (.inr (ci, (tm_fs ad (x.1 (ky k)) 0 fl).set j (.int v))) = tw ad aC sh ky (sI x (ky k) j v) := by
  funext q
  by_cases h : q = k
  · subst h
    simp only [va_up, if_true, tw, hs, tm_cell, sI]
    rw [tm_fs_set fl _ 0 j hj, Nat.zero_add]
  · have h' : ¬ ky q = ky k := fun e => h (hky q k e)
    simp only [va_up, if_neg h, tw, sI]
    cases hq : sh q with
    | inl z => simp [tm_cell, h']
    | inr z => cases z <;> simp [tm_cell]
theorem tw_sA {ad : Nat → Nat} {aC : Nat → ClassId} {sh : Nat → tm_Sh} {ky : Nat → tm_K} {x : tm_M} {k i N : Nat} {v : Int32} (hky : ∀ a b, ky a = ky b → a = b) (hs : sh k = .inr (.inl N)) : va_up (tw ad aC sh ky x) k (.inl (aC 0, N, .inl (upd (x.2 (ky k)) i v))) = tw ad aC sh ky (sA x (ky k) i v) := by
  funext q
  by_cases h : q = k
  · subst h
    simp [va_up, tw, hs, tm_cell, sA]
  · have h' : ¬ ky q = ky k := fun e => h (hky q k e)
    simp only [va_up, if_neg h, tw, sA]
    cases hq : sh q with
    | inl z => simp [tm_cell]
    | inr z => cases z <;> simp [tm_cell, h']
/-- a link to a field: class number ci, field j -/
def FL (own : String) (index ci j : Nat) : Prop := ∃ (C : String) (T : u_T) (N : Nat) (ty : Nat → FieldType), classes[ci]? = some (C, T, N) ∧ j < N ∧ (∀ w ∈ u_ws C T N, w ∈ gw) ∧ (∀ k, k < N → parseFieldDescriptor (T k).2.2.1 = some (ty k)) ∧ (∀ a, a < N → ∀ b, b < N → a ≠ b → (T a).2.1 ≠ (T b).2.1) ∧
  (Cond.fieldLink own index (T j).1 (T j).2.1 (T j).2.2.1 ∈ gw ∨ ∃ host : String, Cond.fieldLinkNest own index (T j).1 (T j).2.1 (T j).2.2.1 host ∈ nw)
/-- .. to a field of ints that may be set -/
def FLs (own : String) (index ci j : Nat) : Prop := FL own index ci j ∧ ∃ q, classes[ci]? = some q ∧ (q.2.1 j).2.2.2 = false ∧ parseFieldDescriptor (q.2.1 j).2.2.1 = some .int
section RW
variable {p : Program} {l : Launch} {e : Env} {R : Room} {s : State} {m : MethodId} {args : Array Value} {below : List Frame} {meth : Method} {c : Code} {D : va_G} {A : Nat → Prop} {cells slots : Nat} {Q : State → Prop} {n : Nat} {ad : Nat → Nat} {w : Nat → va_E} {nL : Nat}
variable {cc : ByteArray} {own : String} {aC : Nat → ClassId} {pc : Nat} {lv : List (Nat × Value)} {st : List Value} {sh : Nat → tm_Sh} {ky : Nat → tm_K} {x : tm_M} {K : tm_K}
theorem j_iconst (B : Cx p s m c args cc own D aC A n ad) {k : Int} {v : Int32} (hdg : decode cc pc = .ok (.iconst k, 1)) (hv : Int32.ofInt k = v)
    (kk : J p l e R s m args below meth c D A cells slots Q n ad w nL (pc + 1) lv (.int v :: st)) : J p l e R s m args below meth c D A cells slots Q n ad w nL pc lv st :=
  fun H locs ls hP hS hl => lv_iconst B.1 B.2.1 hdg hv (kk H locs ls hP hS hl)
theorem j_bipush (B : Cx p s m c args cc own D aC A n ad) {k : Int} {v : Int32} (hdg : decode cc pc = .ok (.bipush k, 2)) (hv : (Int8.ofInt k).toInt32 = v)
    (kk : J p l e R s m args below meth c D A cells slots Q n ad w nL (pc + 2) lv (.int v :: st)) : J p l e R s m args below meth c D A cells slots Q n ad w nL pc lv st :=
  fun H locs ls hP hS hl => lv_bipush B.1 B.2.1 hdg hv (kk H locs ls hP hS hl)
theorem j_sipush (B : Cx p s m c args cc own D aC A n ad) {k : Int} {v : Int32} (hdg : decode cc pc = .ok (.sipush k, 3)) (hv : (Int16.ofInt k).toInt32 = v)
    (kk : J p l e R s m args below meth c D A cells slots Q n ad w nL (pc + 3) lv (.int v :: st)) : J p l e R s m args below meth c D A cells slots Q n ad w nL pc lv st :=
  fun H locs ls hP hS hl => lv_sipush B.1 B.2.1 hdg hv (kk H locs ls hP hS hl)
theorem j_iloadn (B : Cx p s m c args cc own D aC A n ad) {k : Fin 4} {v : Int32} (hdg : decode cc pc = .ok (.iload_n k, 1)) (hv : lk lv k = some (.int v))
    (kk : J p l e R s m args below meth c D A cells slots Q n ad w nL (pc + 1) lv (.int v :: st)) : J p l e R s m args below meth c D A cells slots Q n ad w nL pc lv st :=
  fun H locs ls hP hS hl => lv_iload_n B.1 B.2.1 hdg rfl (hl.at hv) (kk H locs ls hP hS hl)
theorem j_iload (B : Cx p s m c args cc own D aC A n ad) {k : Nat} {v : Int32} (hdg : decode cc pc = .ok (.iload k, 2)) (hv : lk lv k = some (.int v))
    (kk : J p l e R s m args below meth c D A cells slots Q n ad w nL (pc + 2) lv (.int v :: st)) : J p l e R s m args below meth c D A cells slots Q n ad w nL pc lv st :=
  fun H locs ls hP hS hl => lv_iload B.1 B.2.1 hdg (hl.at hv) (kk H locs ls hP hS hl)
theorem j_aloadn (B : Cx p s m c args cc own D aC A n ad) {k : Fin 4} {v : Nat} (hdg : decode cc pc = .ok (.aload_n k, 1)) (hv : lk lv k = some (.ref v))
    (kk : J p l e R s m args below meth c D A cells slots Q n ad w nL (pc + 1) lv (.ref v :: st)) : J p l e R s m args below meth c D A cells slots Q n ad w nL pc lv st :=
  fun H locs ls hP hS hl => lv_aload_n B.1 B.2.1 hdg rfl (hl.at hv) (kk H locs ls hP hS hl)
theorem j_aload (B : Cx p s m c args cc own D aC A n ad) {k : Nat} {v : Nat} (hdg : decode cc pc = .ok (.aload k, 2)) (hv : lk lv k = some (.ref v))
    (kk : J p l e R s m args below meth c D A cells slots Q n ad w nL (pc + 2) lv (.ref v :: st)) : J p l e R s m args below meth c D A cells slots Q n ad w nL pc lv st :=
  fun H locs ls hP hS hl => lv_aload B.1 B.2.1 hdg (hl.at hv) (kk H locs ls hP hS hl)
theorem j_iadd (B : Cx p s m c args cc own D aC A n ad) {x y : Int32} (hdg : decode cc pc = .ok (.iadd, 1))
    (kk : J p l e R s m args below meth c D A cells slots Q n ad w nL (pc + 1) lv (.int (x + y) :: st)) : J p l e R s m args below meth c D A cells slots Q n ad w nL pc lv (.int y :: .int x :: st) :=
  fun H locs ls hP hS hl => lv_iadd B.1 B.2.1 hdg (kk H locs ls hP hS hl)
theorem j_isub (B : Cx p s m c args cc own D aC A n ad) {x y : Int32} (hdg : decode cc pc = .ok (.isub, 1))
    (kk : J p l e R s m args below meth c D A cells slots Q n ad w nL (pc + 1) lv (.int (x - y) :: st)) : J p l e R s m args below meth c D A cells slots Q n ad w nL pc lv (.int y :: .int x :: st) :=
  fun H locs ls hP hS hl => lv_isub B.1 B.2.1 hdg (kk H locs ls hP hS hl)
theorem j_imul (B : Cx p s m c args cc own D aC A n ad) {x y : Int32} (hdg : decode cc pc = .ok (.imul, 1))
    (kk : J p l e R s m args below meth c D A cells slots Q n ad w nL (pc + 1) lv (.int (x * y) :: st)) : J p l e R s m args below meth c D A cells slots Q n ad w nL pc lv (.int y :: .int x :: st) :=
  fun H locs ls hP hS hl => lv_imul B.1 B.2.1 hdg (kk H locs ls hP hS hl)
theorem j_iand (B : Cx p s m c args cc own D aC A n ad) {x y : Int32} (hdg : decode cc pc = .ok (.iand, 1))
    (kk : J p l e R s m args below meth c D A cells slots Q n ad w nL (pc + 1) lv (.int (x &&& y) :: st)) : J p l e R s m args below meth c D A cells slots Q n ad w nL pc lv (.int y :: .int x :: st) :=
  fun H locs ls hP hS hl => lv_iand B.1 B.2.1 hdg (kk H locs ls hP hS hl)
theorem j_ineg (B : Cx p s m c args cc own D aC A n ad) {x : Int32} (hdg : decode cc pc = .ok (.ineg, 1))
    (kk : J p l e R s m args below meth c D A cells slots Q n ad w nL (pc + 1) lv (.int (-x) :: st)) : J p l e R s m args below meth c D A cells slots Q n ad w nL pc lv (.int x :: st) :=
  fun H locs ls hP hS hl => lv_ineg B.1 B.2.1 hdg (kk H locs ls hP hS hl)
theorem j_dup (B : Cx p s m c args cc own D aC A n ad) {va : Value} (hdg : decode cc pc = .ok (.dup, 1)) (h1 : va.category = 1)
    (kk : J p l e R s m args below meth c D A cells slots Q n ad w nL (pc + 1) lv (va :: va :: st)) : J p l e R s m args below meth c D A cells slots Q n ad w nL pc lv (va :: st) :=
  fun H locs ls hP hS hl => lv_dup B.1 B.2.1 hdg h1 (kk H locs ls hP hS hl)
theorem j_pop (B : Cx p s m c args cc own D aC A n ad) {va : Value} (hdg : decode cc pc = .ok (.pop, 1)) (h1 : va.category = 1)
    (kk : J p l e R s m args below meth c D A cells slots Q n ad w nL (pc + 1) lv st) : J p l e R s m args below meth c D A cells slots Q n ad w nL pc lv (va :: st) :=
  fun H locs ls hP hS hl => lv_pop B.1 B.2.1 hdg h1 (kk H locs ls hP hS hl)
theorem j_dup2 (B : Cx p s m c args cc own D aC A n ad) {va vb : Value} (hdg : decode cc pc = .ok (.dup2, 1)) (h1 : va.category = 1) (h2 : vb.category = 1)
    (kk : J p l e R s m args below meth c D A cells slots Q n ad w nL (pc + 1) lv (va :: vb :: va :: vb :: st)) : J p l e R s m args below meth c D A cells slots Q n ad w nL pc lv (va :: vb :: st) :=
  fun H locs ls hP hS hl => lv_dup2_11 B.1 B.2.1 hdg h1 h2 (kk H locs ls hP hS hl)
theorem j_i2l (B : Cx p s m c args cc own D aC A n ad) {x : Int32} (hdg : decode cc pc = .ok (.i2l, 1))
    (kk : J p l e R s m args below meth c D A cells slots Q n ad w nL (pc + 1) lv (.long x.toInt64 :: st)) : J p l e R s m args below meth c D A cells slots Q n ad w nL pc lv (.int x :: st) :=
  fun H locs ls hP hS hl => lv_i2l B.1 B.2.1 hdg rfl (kk H locs ls hP hS hl)
theorem j_lcmp (B : Cx p s m c args cc own D aC A n ad) {x y : Int64} (hdg : decode cc pc = .ok (.lcmp, 1))
    (kk : J p l e R s m args below meth c D A cells slots Q n ad w nL (pc + 1) lv (.int (lg_cmp x y) :: st)) : J p l e R s m args below meth c D A cells slots Q n ad w nL pc lv (.long y :: .long x :: st) :=
  fun H locs ls hP hS hl => W.lcmp B.1 B.2.1 hdg (kk H locs ls hP hS hl)
theorem j_goto (B : Cx p s m c args cc own D aC A n ad) {off : Int} {tgt : Nat} (hdg : decode cc pc = .ok (.goto off, 3)) (ht : (pc : Int) + off = (tgt : Int))
    (kk : J p l e R s m args below meth c D A cells slots Q n ad w nL tgt lv st) : J p l e R s m args below meth c D A cells slots Q n ad w nL pc lv st :=
  fun H locs ls hP hS hl => lv_goto B.1 B.2.1 hdg ht (kk H locs ls hP hS hl)
theorem j_istoren (B : Cx p s m c args cc own D aC A n ad) {k : Fin 4} {v : Int32} (hdg : decode cc pc = .ok (.istore_n k, 1)) (hn : (k : Nat) < nL)
    (kk : J p l e R s m args below meth c D A cells slots Q n ad w nL (pc + 1) (((k : Nat), .int v) :: lv) st) : J p l e R s m args below meth c D A cells slots Q n ad w nL pc lv (.int v :: st) := by
  intro H locs ls hP hS hl
  have hexec := B.1
  have hb := B.2.1
  obtain ⟨ls', e', h'⟩ := hl.store (v := .int v) hn rfl
  intro T hT X
  obtain ⟨t, a, b⟩ := kk H locs ls' hP hS h' T hT X
  refine ⟨t, ?_, b⟩
  jvm_step X.here [X.here.top, ↓top_set X.here.top, hexec, hb, hdg, e', Value.isRef]
  exact a
theorem j_istore (B : Cx p s m c args cc own D aC A n ad) {k : Nat} {v : Int32} (hdg : decode cc pc = .ok (.istore k, 2)) (hn : (k : Nat) < nL)
    (kk : J p l e R s m args below meth c D A cells slots Q n ad w nL (pc + 2) (((k : Nat), .int v) :: lv) st) : J p l e R s m args below meth c D A cells slots Q n ad w nL pc lv (.int v :: st) := by
  intro H locs ls hP hS hl
  have hexec := B.1
  have hb := B.2.1
  obtain ⟨ls', e', h'⟩ := hl.store (v := .int v) hn rfl
  intro T hT X
  obtain ⟨t, a, b⟩ := kk H locs ls' hP hS h' T hT X
  refine ⟨t, ?_, b⟩
  jvm_step X.here [X.here.top, ↓top_set X.here.top, hexec, hb, hdg, e', Value.isRef]
  exact a
theorem j_astoren (B : Cx p s m c args cc own D aC A n ad) {k : Fin 4} {v : Nat} (hdg : decode cc pc = .ok (.astore_n k, 1)) (hn : (k : Nat) < nL)
    (kk : J p l e R s m args below meth c D A cells slots Q n ad w nL (pc + 1) (((k : Nat), .ref v) :: lv) st) : J p l e R s m args below meth c D A cells slots Q n ad w nL pc lv (.ref v :: st) := by
  intro H locs ls hP hS hl
  have hexec := B.1
  have hb := B.2.1
  obtain ⟨ls', e', h'⟩ := hl.store (v := .ref v) hn rfl
  intro T hT X
  obtain ⟨t, a, b⟩ := kk H locs ls' hP hS h' T hT X
  refine ⟨t, ?_, b⟩
  jvm_step X.here [X.here.top, ↓top_set X.here.top, hexec, hb, hdg, e', Value.isRef]
  exact a
theorem j_astore (B : Cx p s m c args cc own D aC A n ad) {k : Nat} {v : Nat} (hdg : decode cc pc = .ok (.astore k, 2)) (hn : (k : Nat) < nL)
    (kk : J p l e R s m args below meth c D A cells slots Q n ad w nL (pc + 2) (((k : Nat), .ref v) :: lv) st) : J p l e R s m args below meth c D A cells slots Q n ad w nL pc lv (.ref v :: st) := by
  intro H locs ls hP hS hl
  have hexec := B.1
  have hb := B.2.1
  obtain ⟨ls', e', h'⟩ := hl.store (v := .ref v) hn rfl
  intro T hT X
  obtain ⟨t, a, b⟩ := kk H locs ls' hP hS h' T hT X
  refine ⟨t, ?_, b⟩
  jvm_step X.here [X.here.top, ↓top_set X.here.top, hexec, hb, hdg, e', Value.isRef]
  exact a
theorem j_iinc (B : Cx p s m c args cc own D aC A n ad) {k : Nat} {i : Int} {v v' : Int32} (hdg : decode cc pc = .ok (.iinc k i, 3)) (hv : lk lv k = some (.int v)) (hn : k < nL) (hv' : v + Int32.ofInt i = v')
    (kk : J p l e R s m args below meth c D A cells slots Q n ad w nL (pc + 3) ((k, .int v') :: lv) st) : J p l e R s m args below meth c D A cells slots Q n ad w nL pc lv st := by
  subst hv'
  intro H locs ls hP hS hl
  have hexec := B.1
  have hb := B.2.1
  have hg := hl.at hv
  obtain ⟨ls', e', h'⟩ := hl.store (v := .int (v + Int32.ofInt i)) hn rfl
  intro T hT X
  obtain ⟨t, a, b⟩ := kk H locs ls' hP hS h' T hT X
  refine ⟨t, ?_, b⟩
  jvm_step X.here [X.here.top, ↓top_set X.here.top, hexec, hb, hdg, hg, e']
  exact a
theorem j_loc (lv' : List (Nat × Value)) (h : lsub lv lv') (kk : J p l e R s m args below meth c D A cells slots Q n ad w nL pc lv' st) : J p l e R s m args below meth c D A cells slots Q n ad w nL pc lv st := fun H locs ls hP hS hl => kk H locs ls hP hS (hl.sub h)
theorem j_w {w' : Nat → va_E} (h : w = w') (kk : J p l e R s m args below meth c D A cells slots Q n ad w' nL pc lv st) : J p l e R s m args below meth c D A cells slots Q n ad w nL pc lv st := h ▸ kk
theorem j_if_eq (B : Cx p s m c args cc own D aC A n ad) {x : Int32} {off : Int} {tgt : Nat} (hdg : decode cc pc = .ok (.ifCond .eq off, 3)) (ht : (pc : Int) + off = (tgt : Int))
    (kt : x = 0 → J p l e R s m args below meth c D A cells slots Q n ad w nL tgt lv st) (kf : ¬ x = 0 → J p l e R s m args below meth c D A cells slots Q n ad w nL (pc + 3) lv st) : J p l e R s m args below meth c D A cells slots Q n ad w nL pc lv (.int x :: st) :=
  fun H locs ls hP hS hl => lv_if_eq B.1 B.2.1 hdg ht (fun h => kt h H locs ls hP hS hl) (fun h => kf h H locs ls hP hS hl)
theorem j_icmp_eq (B : Cx p s m c args cc own D aC A n ad) {x y : Int32} {off : Int} {tgt : Nat} (hdg : decode cc pc = .ok (.if_icmp .eq off, 3)) (ht : (pc : Int) + off = (tgt : Int))
    (kt : x = y → J p l e R s m args below meth c D A cells slots Q n ad w nL tgt lv st) (kf : ¬ x = y → J p l e R s m args below meth c D A cells slots Q n ad w nL (pc + 3) lv st) : J p l e R s m args below meth c D A cells slots Q n ad w nL pc lv (.int y :: .int x :: st) :=
  fun H locs ls hP hS hl => lv_icmp_eq B.1 B.2.1 hdg ht (fun h => kt h H locs ls hP hS hl) (fun h => kf h H locs ls hP hS hl)
theorem j_if_ne (B : Cx p s m c args cc own D aC A n ad) {x : Int32} {off : Int} {tgt : Nat} (hdg : decode cc pc = .ok (.ifCond .ne off, 3)) (ht : (pc : Int) + off = (tgt : Int))
    (kt : ¬ x = 0 → J p l e R s m args below meth c D A cells slots Q n ad w nL tgt lv st) (kf : x = 0 → J p l e R s m args below meth c D A cells slots Q n ad w nL (pc + 3) lv st) : J p l e R s m args below meth c D A cells slots Q n ad w nL pc lv (.int x :: st) :=
  fun H locs ls hP hS hl => lv_if_ne B.1 B.2.1 hdg ht (fun h => kt h H locs ls hP hS hl) (fun h => kf h H locs ls hP hS hl)
theorem j_icmp_ne (B : Cx p s m c args cc own D aC A n ad) {x y : Int32} {off : Int} {tgt : Nat} (hdg : decode cc pc = .ok (.if_icmp .ne off, 3)) (ht : (pc : Int) + off = (tgt : Int))
    (kt : ¬ x = y → J p l e R s m args below meth c D A cells slots Q n ad w nL tgt lv st) (kf : x = y → J p l e R s m args below meth c D A cells slots Q n ad w nL (pc + 3) lv st) : J p l e R s m args below meth c D A cells slots Q n ad w nL pc lv (.int y :: .int x :: st) :=
  fun H locs ls hP hS hl => lv_icmp_ne B.1 B.2.1 hdg ht (fun h => kt h H locs ls hP hS hl) (fun h => kf h H locs ls hP hS hl)
theorem j_if_lt (B : Cx p s m c args cc own D aC A n ad) {x : Int32} {off : Int} {tgt : Nat} (hdg : decode cc pc = .ok (.ifCond .lt off, 3)) (ht : (pc : Int) + off = (tgt : Int))
    (kt : x < 0 → J p l e R s m args below meth c D A cells slots Q n ad w nL tgt lv st) (kf : ¬ x < 0 → J p l e R s m args below meth c D A cells slots Q n ad w nL (pc + 3) lv st) : J p l e R s m args below meth c D A cells slots Q n ad w nL pc lv (.int x :: st) :=
  fun H locs ls hP hS hl => lv_if_lt B.1 B.2.1 hdg ht (fun h => kt h H locs ls hP hS hl) (fun h => kf h H locs ls hP hS hl)
theorem j_icmp_lt (B : Cx p s m c args cc own D aC A n ad) {x y : Int32} {off : Int} {tgt : Nat} (hdg : decode cc pc = .ok (.if_icmp .lt off, 3)) (ht : (pc : Int) + off = (tgt : Int))
    (kt : x < y → J p l e R s m args below meth c D A cells slots Q n ad w nL tgt lv st) (kf : ¬ x < y → J p l e R s m args below meth c D A cells slots Q n ad w nL (pc + 3) lv st) : J p l e R s m args below meth c D A cells slots Q n ad w nL pc lv (.int y :: .int x :: st) :=
  fun H locs ls hP hS hl => lv_icmp_lt B.1 B.2.1 hdg ht (fun h => kt h H locs ls hP hS hl) (fun h => kf h H locs ls hP hS hl)
theorem j_if_ge (B : Cx p s m c args cc own D aC A n ad) {x : Int32} {off : Int} {tgt : Nat} (hdg : decode cc pc = .ok (.ifCond .ge off, 3)) (ht : (pc : Int) + off = (tgt : Int))
    (kt : 0 ≤ x → J p l e R s m args below meth c D A cells slots Q n ad w nL tgt lv st) (kf : ¬ 0 ≤ x → J p l e R s m args below meth c D A cells slots Q n ad w nL (pc + 3) lv st) : J p l e R s m args below meth c D A cells slots Q n ad w nL pc lv (.int x :: st) :=
  fun H locs ls hP hS hl => lv_if_ge B.1 B.2.1 hdg ht (fun h => kt h H locs ls hP hS hl) (fun h => kf h H locs ls hP hS hl)
theorem j_icmp_ge (B : Cx p s m c args cc own D aC A n ad) {x y : Int32} {off : Int} {tgt : Nat} (hdg : decode cc pc = .ok (.if_icmp .ge off, 3)) (ht : (pc : Int) + off = (tgt : Int))
    (kt : y ≤ x → J p l e R s m args below meth c D A cells slots Q n ad w nL tgt lv st) (kf : ¬ y ≤ x → J p l e R s m args below meth c D A cells slots Q n ad w nL (pc + 3) lv st) : J p l e R s m args below meth c D A cells slots Q n ad w nL pc lv (.int y :: .int x :: st) :=
  fun H locs ls hP hS hl => lv_icmp_ge B.1 B.2.1 hdg ht (fun h => kt h H locs ls hP hS hl) (fun h => kf h H locs ls hP hS hl)
theorem j_if_gt (B : Cx p s m c args cc own D aC A n ad) {x : Int32} {off : Int} {tgt : Nat} (hdg : decode cc pc = .ok (.ifCond .gt off, 3)) (ht : (pc : Int) + off = (tgt : Int))
    (kt : 0 < x → J p l e R s m args below meth c D A cells slots Q n ad w nL tgt lv st) (kf : ¬ 0 < x → J p l e R s m args below meth c D A cells slots Q n ad w nL (pc + 3) lv st) : J p l e R s m args below meth c D A cells slots Q n ad w nL pc lv (.int x :: st) :=
  fun H locs ls hP hS hl => lv_if_gt B.1 B.2.1 hdg ht (fun h => kt h H locs ls hP hS hl) (fun h => kf h H locs ls hP hS hl)
theorem j_icmp_gt (B : Cx p s m c args cc own D aC A n ad) {x y : Int32} {off : Int} {tgt : Nat} (hdg : decode cc pc = .ok (.if_icmp .gt off, 3)) (ht : (pc : Int) + off = (tgt : Int))
    (kt : y < x → J p l e R s m args below meth c D A cells slots Q n ad w nL tgt lv st) (kf : ¬ y < x → J p l e R s m args below meth c D A cells slots Q n ad w nL (pc + 3) lv st) : J p l e R s m args below meth c D A cells slots Q n ad w nL pc lv (.int y :: .int x :: st) :=
  fun H locs ls hP hS hl => lv_icmp_gt B.1 B.2.1 hdg ht (fun h => kt h H locs ls hP hS hl) (fun h => kf h H locs ls hP hS hl)
theorem j_if_le (B : Cx p s m c args cc own D aC A n ad) {x : Int32} {off : Int} {tgt : Nat} (hdg : decode cc pc = .ok (.ifCond .le off, 3)) (ht : (pc : Int) + off = (tgt : Int))
    (kt : x ≤ 0 → J p l e R s m args below meth c D A cells slots Q n ad w nL tgt lv st) (kf : ¬ x ≤ 0 → J p l e R s m args below meth c D A cells slots Q n ad w nL (pc + 3) lv st) : J p l e R s m args below meth c D A cells slots Q n ad w nL pc lv (.int x :: st) :=
  fun H locs ls hP hS hl => lv_if_le B.1 B.2.1 hdg ht (fun h => kt h H locs ls hP hS hl) (fun h => kf h H locs ls hP hS hl)
theorem j_icmp_le (B : Cx p s m c args cc own D aC A n ad) {x y : Int32} {off : Int} {tgt : Nat} (hdg : decode cc pc = .ok (.if_icmp .le off, 3)) (ht : (pc : Int) + off = (tgt : Int))
    (kt : x ≤ y → J p l e R s m args below meth c D A cells slots Q n ad w nL tgt lv st) (kf : ¬ x ≤ y → J p l e R s m args below meth c D A cells slots Q n ad w nL (pc + 3) lv st) : J p l e R s m args below meth c D A cells slots Q n ad w nL pc lv (.int y :: .int x :: st) :=
  fun H locs ls hP hS hl => lv_icmp_le B.1 B.2.1 hdg ht (fun h => kt h H locs ls hP hS hl) (fun h => kf h H locs ls hP hS hl)
theorem j_tabOut (B : Cx p s m c args cc own D aC A n ad) {dflt lo hi : Int} {offs : Array Int} {len : Nat} {x : Int32} {tgt : Nat} (hdg : decode cc pc = .ok (.tableswitch dflt lo hi offs, len)) (h : x.toInt < lo ∨ hi < x.toInt) (ht : (pc : Int) + dflt = (tgt : Int))
    (kk : J p l e R s m args below meth c D A cells slots Q n ad w nL tgt lv st) : J p l e R s m args below meth c D A cells slots Q n ad w nL pc lv (.int x :: st) := fun H locs ls hP hS hl => lv_tableOut B.1 B.2.1 hdg h ht (kk H locs ls hP hS hl)
theorem j_tabIn (B : Cx p s m c args cc own D aC A n ad) {dflt lo hi : Int} {offs : Array Int} {len : Nat} {x : Int32} {off : Int} {tgt : Nat} (hdg : decode cc pc = .ok (.tableswitch dflt lo hi offs, len)) (h1 : ¬ x.toInt < lo) (h2 : ¬ hi < x.toInt) (ho : offs[(x.toInt - lo).toNat]? = some off) (ht : (pc : Int) + off = (tgt : Int))
    (kk : J p l e R s m args below meth c D A cells slots Q n ad w nL tgt lv st) : J p l e R s m args below meth c D A cells slots Q n ad w nL pc lv (.int x :: st) := fun H locs ls hP hS hl => lv_tableIn B.1 B.2.1 hdg h1 h2 ho ht (kk H locs ls hP hS hl)
theorem j_lookup (B : Cx p s m c args cc own D aC A n ad) {dflt : Int} {ps : Array (Int × Int)} {len : Nat} {x : Int32} {off : Int} {tgt : Nat} (hdg : decode cc pc = .ok (.lookupswitch dflt ps, len)) (hp : (ps.toList.zip (ps.toList.drop 1)).all (fun (a, next) => a.1 < next.1) = true) (ho : Op.lookupswitch.offset ps.toList dflt x.toInt = off) (ht : (pc : Int) + off = (tgt : Int))
    (kk : J p l e R s m args below meth c D A cells slots Q n ad w nL tgt lv st) : J p l e R s m args below meth c D A cells slots Q n ad w nL pc lv (.int x :: st) := fun H locs ls hP hS hl => lv_lookup B.1 B.2.1 hdg hp ho ht (kk H locs ls hP hS hl)
theorem j_getv (B : Cx p s m c args cc own D aC A n ad) {index ci j k : Nat} {fs : List Value} {v : Value} (F : FL own index ci j) (hk : k < n) (hw : w k = .inr (ci, fs)) (hv : fs[j]? = some v) (hdg : decode cc pc = .ok (.getfield index, 3))
    (kk : J p l e R s m args below meth c D A cells slots Q n ad w nL (pc + 3) lv (v :: st)) : J p l e R s m args below meth c D A cells slots Q n ad w nL pc lv (.ref (ad k) :: st) := by
  intro H locs ls hP hS hl
  obtain ⟨C, T, N, ty, f1, f2, f3, f4, f5, f6⟩ := F
  obtain ⟨hx, hb, hown, hts, hN, hK, hD⟩ := B
  have he : (fw n ad w)[k]? = some (ad k, .inr (ci, fs)) := by rw [fw_get hk, hw]
  rcases f6 with f6 | ⟨host, f6⟩
  · exact va_get hx hb hts f3 hown hK hP k he f1 j f2 (hts _ f6) (fun _ h => h) hv hdg (kk H locs ls hP hS hl)
  · exact va_getN hx hb hts f3 hown hK hP k he f1 j f2 (va_Nw.use rfl (hN _ f6)) (fun _ h => h) hv hdg (kk H locs ls hP hS hl)
theorem j_geti (B : Cx p s m c args cc own D aC A n ad) {index ci j k : Nat} {fl : List (Option Nat)} (F : FL own index ci j) (hc : k < n ∧ sh k = .inl (ci, fl) ∧ ky k = K) (hj : fl[j]? = some none) (hdg : decode cc pc = .ok (.getfield index, 3))
    (kk : J p l e R s m args below meth c D A cells slots Q n ad (tw ad aC sh ky x) nL (pc + 3) lv (.int (x.1 K j) :: st)) : J p l e R s m args below meth c D A cells slots Q n ad (tw ad aC sh ky x) nL pc lv (.ref (ad k) :: st) :=
  j_getv B F hc.1 (fs := tm_fs ad (x.1 (ky k)) 0 fl) (by simp [tw, hc.2.1, tm_cell]) (by rw [tm_fs_i fl 0 j hj, Nat.zero_add, hc.2.2]) hdg kk
theorem j_getr (B : Cx p s m c args cc own D aC A n ad) {index ci j k r : Nat} {fl : List (Option Nat)} (F : FL own index ci j) (hc : k < n ∧ sh k = .inl (ci, fl) ∧ ky k = K) (hj : fl[j]? = some (some r)) (hdg : decode cc pc = .ok (.getfield index, 3))
    (kk : J p l e R s m args below meth c D A cells slots Q n ad (tw ad aC sh ky x) nL (pc + 3) lv (.ref (ad r) :: st)) : J p l e R s m args below meth c D A cells slots Q n ad (tw ad aC sh ky x) nL pc lv (.ref (ad k) :: st) :=
  j_getv B F hc.1 (fs := tm_fs ad (x.1 (ky k)) 0 fl) (by simp [tw, hc.2.1, tm_cell]) (tm_fs_r fl 0 j hj) hdg kk
theorem j_puti (B : Cx p s m c args cc own D aC A n ad) {index ci j k : Nat} {v : Int32} {fl : List (Option Nat)} (hky : ∀ a b, ky a = ky b → a = b) (F : FLs own index ci j) (hc : k < n ∧ sh k = .inl (ci, fl) ∧ ky k = K) (hj : fl[j]? = some none) (hdg : decode cc pc = .ok (.putfield index, 3))
    (kk : J p l e R s m args below meth c D A cells slots Q n ad (tw ad aC sh ky (sI x K j v)) nL (pc + 3) lv st) : J p l e R s m args below meth c D A cells slots Q n ad (tw ad aC sh ky x) nL pc lv (.int v :: .ref (ad k) :: st) := by
  intro H locs ls hP hS hl
  obtain ⟨⟨C, T, N, ty, f1, f2, f3, f4, f5, f6⟩, q, g1, g2, g3⟩ := F
  obtain ⟨hx, hb, hown, hts, hN, hK, hD⟩ := B
  obtain ⟨hk, hs, rfl⟩ := hc
  cases Option.some.inj (f1.symm.trans g1)
  have he : (fw n ad (tw ad aC sh ky x))[k]? = some (ad k, .inr (ci, tm_fs ad (x.1 (ky k)) 0 fl)) := by rw [fw_get hk]; simp [tw, hs, tm_cell]
  have hlen : j < (tm_fs ad (x.1 (ky k)) 0 fl).length := by rw [tm_fs_len]; exact (List.getElem?_eq_some_iff.mp hj).1
  have fin : ∀ (H1 : Heap) (locs1 : List Loc), va_P D classes ((fw n ad (tw ad aC sh ky x)).set k (ad k, .inr (ci, (tm_fs ad (x.1 (ky k)) 0 fl).set j (.int v)))) H1 → va_D A ((fw n ad (tw ad aC sh ky x)).set k (ad k, .inr (ci, (tm_fs ad (x.1 (ky k)) 0 fl).set j (.int v)))) → va_S A s.heap H1 locs1 → W p l e R s m args below meth c H1 locs1 cells slots Q (F0 m (pc + 3) ls st) := by
    intro H1 locs1 h1 _ h3
    rw [fw_set hk, tw_sI hky hs hj] at h1
    exact kk H1 locs1 ls h1 h3 hl
  rcases f6 with f6 | ⟨host, f6⟩
  · exact va_put hx hb hts f3 ty f4 f5 hown hK hP hD.to hS k he f1 j f2 (hts _ f6) (fun _ h => h) g2 g3 rfl rfl hlen hdg fin
  · exact va_putN hx hb hts f3 ty f4 f5 hown hK hP hD.to hS k he f1 j f2 (va_Nw.use rfl (hN _ f6)) (fun _ h => h) g2 g3 rfl rfl hlen hdg fin
theorem j_iald (B : Cx p s m c args cc own D aC A n ad) {k N a : Nat} {i : Int32} (hc : k < n ∧ sh k = .inr (.inl N) ∧ ky k = K) (hi : i = nI a ∧ a < N ∧ N < 2 ^ 31) (hdg : decode cc pc = .ok (.iaload, 1))
    (kk : J p l e R s m args below meth c D A cells slots Q n ad (tw ad aC sh ky x) nL (pc + 1) lv (.int (x.2 K a) :: st)) : J p l e R s m args below meth c D A cells slots Q n ad (tw ad aC sh ky x) nL pc lv (.int i :: .ref (ad k) :: st) := by
  intro H locs ls hP hS hl
  obtain ⟨hx, hb, hown, hts, hN, hK, hD⟩ := B
  obtain ⟨hk, hs, rfl⟩ := hc
  obtain ⟨rfl, h1, h2⟩ := hi
  have kk' := (kk H locs ls hP hS hl)
  rw [← nI_clamp (n := a) (by omega)] at kk'
  exact va_iald hx hb hK hP k 0 (cA := aC 0) (n := N) (f := x.2 (ky k)) (by rw [fw_get hk]; simp [tw, hs, tm_cell]) rfl (vp_in_nI h1 h2) hdg kk'
theorem j_iast (B : Cx p s m c args cc own D aC A n ad) {k N a : Nat} {i v : Int32} (hky : ∀ a b, ky a = ky b → a = b) (hc : k < n ∧ sh k = .inr (.inl N) ∧ ky k = K) (hi : i = nI a ∧ a < N ∧ N < 2 ^ 31) (hdg : decode cc pc = .ok (.iastore, 1))
    (kk : J p l e R s m args below meth c D A cells slots Q n ad (tw ad aC sh ky (sA x K a v)) nL (pc + 1) lv st) : J p l e R s m args below meth c D A cells slots Q n ad (tw ad aC sh ky x) nL pc lv (.int v :: .int i :: .ref (ad k) :: st) := by
  intro H locs ls hP hS hl
  obtain ⟨hx, hb, hown, hts, hN, hK, hD⟩ := B
  obtain ⟨hk, hs, rfl⟩ := hc
  obtain ⟨rfl, g1, g2⟩ := hi
  refine va_iast hx hb hK hP hD.to hS k 0 (cA := aC 0) (n := N) (f := x.2 (ky k)) (by rw [fw_get hk]; simp [tw, hs, tm_cell]) rfl (vp_in_nI g1 g2) hdg fun H1 locs1 h1 _ h3 => ?_
  rw [fw_set hk, tw_sA hky hs, nI_clamp (by omega)] at h1
  exact kk H1 locs1 ls h1 h3 hl
theorem j_aald (B : Cx p s m c args cc own D aC A n ad) {k t N a : Nat} {g : Nat → Nat} {C : String} {i : Int32} (hc : k < n ∧ sh k = .inr (.inr (t, N, g))) (ht : (tyl aC)[t]? = some (aC t, .object C)) (hi : i = nI a ∧ a < N ∧ N < 2 ^ 31) (hdg : decode cc pc = .ok (.aaload, 1))
    (kk : J p l e R s m args below meth c D A cells slots Q n ad (tw ad aC sh ky x) nL (pc + 1) lv (.ref (ad (g a)) :: st)) : J p l e R s m args below meth c D A cells slots Q n ad (tw ad aC sh ky x) nL pc lv (.int i :: .ref (ad k) :: st) := by
  intro H locs ls hP hS hl
  obtain ⟨hx, hb, hown, hts, hN, hK, hD⟩ := B
  obtain ⟨hk, hs⟩ := hc
  obtain ⟨rfl, h1, h2⟩ := hi
  have kk' := (kk H locs ls hP hS hl)
  rw [← nI_clamp (n := a) (by omega)] at kk'
  exact va_aldq hx hb hK hP k t (cA := aC t) (n := N) (f := fun i => some (ad (g i))) (by rw [fw_get hk]; simp [tw, hs, tm_cell]) ht (vp_in_nI h1 h2) hdg kk'
end RW
end
section
theorem i_Lp : ∀ w ∈ u_ws R_Lp F_Lp 4, w ∈ gw := by
  intro w hw
  exact List.mem_filter.mpr ⟨(show ∀ w ∈ u_ws R_Lp F_Lp 4, w ∈ lw_tbl by decide +kernel) w hw, (show ∀ w ∈ u_ws R_Lp F_Lp 4, goodWord w = true by decide +kernel) w hw⟩
theorem i_Bl : ∀ w ∈ u_ws R_Bl F_Bl 7, w ∈ gw := by
  intro w hw
  exact List.mem_filter.mpr ⟨(show ∀ w ∈ u_ws R_Bl F_Bl 7, w ∈ lw_tbl by decide +kernel) w hw, (show ∀ w ∈ u_ws R_Bl F_Bl 7, goodWord w = true by decide +kernel) w hw⟩
theorem i_Ck : ∀ w ∈ u_ws R_Ck F_Ck 2, w ∈ gw := by
  intro w hw
  exact List.mem_filter.mpr ⟨(show ∀ w ∈ u_ws R_Ck F_Ck 2, w ∈ lw_tbl by decide +kernel) w hw, (show ∀ w ∈ u_ws R_Ck F_Ck 2, goodWord w = true by decide +kernel) w hw⟩
theorem i_Co : ∀ w ∈ u_ws R_Co F_Co 2, w ∈ gw := by
  intro w hw
  exact List.mem_filter.mpr ⟨(show ∀ w ∈ u_ws R_Co F_Co 2, w ∈ lw_tbl by decide +kernel) w hw, (show ∀ w ∈ u_ws R_Co F_Co 2, goodWord w = true by decide +kernel) w hw⟩
theorem i_Fr : ∀ w ∈ u_ws R_Fr F_Fr 4, w ∈ gw := by
  intro w hw
  exact List.mem_filter.mpr ⟨(show ∀ w ∈ u_ws R_Fr F_Fr 4, w ∈ lw_tbl by decide +kernel) w hw, (show ∀ w ∈ u_ws R_Fr F_Fr 4, goodWord w = true by decide +kernel) w hw⟩
theorem i_Ma : ∀ w ∈ u_ws R_Ma F_Ma 9, w ∈ gw := by
  intro w hw
  exact List.mem_filter.mpr ⟨(show ∀ w ∈ u_ws R_Ma F_Ma 9, w ∈ lw_tbl by decide +kernel) w hw, (show ∀ w ∈ u_ws R_Ma F_Ma 9, goodWord w = true by decide +kernel) w hw⟩
theorem i_Pr : ∀ w ∈ u_ws R_Pr F_Pr 11, w ∈ gw := by
  intro w hw
  exact List.mem_filter.mpr ⟨(show ∀ w ∈ u_ws R_Pr F_Pr 11, w ∈ lw_tbl by decide +kernel) w hw, (show ∀ w ∈ u_ws R_Pr F_Pr 11, goodWord w = true by decide +kernel) w hw⟩
theorem i_Ta : ∀ w ∈ u_ws R_Ta F_Ta 7, w ∈ gw := by
  intro w hw
  exact List.mem_filter.mpr ⟨(show ∀ w ∈ u_ws R_Ta F_Ta 7, w ∈ lw_tbl by decide +kernel) w hw, (show ∀ w ∈ u_ws R_Ta F_Ta 7, goodWord w = true by decide +kernel) w hw⟩
theorem i_Tx : ∀ w ∈ u_ws R_Tx F_Tx 3, w ∈ gw := by
  intro w hw
  exact List.mem_filter.mpr ⟨(show ∀ w ∈ u_ws R_Tx F_Tx 3, w ∈ lw_tbl by decide +kernel) w hw, (show ∀ w ∈ u_ws R_Tx F_Tx 3, goodWord w = true by decide +kernel) w hw⟩
theorem i_Ty : ∀ w ∈ u_ws R_Ty F_Ty 2, w ∈ gw := by
  intro w hw
  exact List.mem_filter.mpr ⟨(show ∀ w ∈ u_ws R_Ty F_Ty 2, w ∈ lw_tbl by decide +kernel) w hw, (show ∀ w ∈ u_ws R_Ty F_Ty 2, goodWord w = true by decide +kernel) w hw⟩
theorem i_Mo : ∀ w ∈ u_ws R_Mo F_Mo 38, w ∈ gw := by
  intro w hw
  exact List.mem_filter.mpr ⟨(show ∀ w ∈ u_ws R_Mo F_Mo 38, w ∈ lw_tbl by decide +kernel) w hw, (show ∀ w ∈ u_ws R_Mo F_Mo 38, goodWord w = true by decide +kernel) w hw⟩
theorem fl_Tx_9 : FL R_Tx 9 8 0 := ⟨R_Tx, F_Tx, 3, t_Tx, rfl, by decide, i_Tx, t_Tx_ok, n_Tx, Or.inl (gw_of 90 (by decide +kernel) rfl)⟩ -- LandingPads$Text.statements
theorem fl_Tx_15 : FL R_Tx 15 8 1 := ⟨R_Tx, F_Tx, 3, t_Tx, rfl, by decide, i_Tx, t_Tx_ok, n_Tx, Or.inl (gw_of 91 (by decide +kernel) rfl)⟩ -- LandingPads$Text.operands
theorem fl_Tx_18 : FL R_Tx 18 8 2 := ⟨R_Tx, F_Tx, 3, t_Tx, rfl, by decide, i_Tx, t_Tx_ok, n_Tx, Or.inl (gw_of 92 (by decide +kernel) rfl)⟩ -- LandingPads$Text.length
theorem fs_Tx_18 : FLs R_Tx 18 8 2 := ⟨fl_Tx_18, _, rfl, rfl, by decide +kernel⟩
theorem fl_Ck_19 : FL R_Ck 19 8 2 := ⟨R_Tx, F_Tx, 3, t_Tx, rfl, by decide, i_Tx, t_Tx_ok, n_Tx, Or.inr ⟨"LandingPads", nw_of 37 (by decide +kernel) rfl⟩⟩ -- LandingPads$Text.length
theorem fs_Ck_19 : FLs R_Ck 19 8 2 := ⟨fl_Ck_19, _, rfl, rfl, by decide +kernel⟩
theorem fl_Co_27 : FL R_Co 27 8 2 := ⟨R_Tx, F_Tx, 3, t_Tx, rfl, by decide, i_Tx, t_Tx_ok, n_Tx, Or.inr ⟨"LandingPads", nw_of 38 (by decide +kernel) rfl⟩⟩ -- LandingPads$Text.length
theorem fs_Co_27 : FLs R_Co 27 8 2 := ⟨fl_Co_27, _, rfl, rfl, by decide +kernel⟩
theorem fl_Lp_84 : FL R_Lp 84 8 2 := ⟨R_Tx, F_Tx, 3, t_Tx, rfl, by decide, i_Tx, t_Tx_ok, n_Tx, Or.inr ⟨"LandingPads", nw_of 39 (by decide +kernel) rfl⟩⟩ -- LandingPads$Text.length
theorem fs_Lp_84 : FLs R_Lp 84 8 2 := ⟨fl_Lp_84, _, rfl, rfl, by decide +kernel⟩
theorem fl_Ck_9 : FL R_Ck 9 2 0 := ⟨R_Ck, F_Ck, 2, t_Ck, rfl, by decide, i_Ck, t_Ck_ok, n_Ck, Or.inl (gw_of 110 (by decide +kernel) rfl)⟩ -- LandingPads$Checker.openers
theorem fl_Ck_15 : FL R_Ck 15 2 1 := ⟨R_Ck, F_Ck, 2, t_Ck, rfl, by decide, i_Ck, t_Ck_ok, n_Ck, Or.inl (gw_of 111 (by decide +kernel) rfl)⟩ -- LandingPads$Checker.open
theorem fs_Ck_15 : FLs R_Ck 15 2 1 := ⟨fl_Ck_15, _, rfl, rfl, by decide +kernel⟩
theorem fl_Bl_15 : FL R_Bl 15 1 0 := ⟨R_Bl, F_Bl, 7, t_Bl, rfl, by decide, i_Bl, t_Bl_ok, n_Bl, Or.inl (gw_of 130 (by decide +kernel) rfl)⟩ -- LandingPads$Block.kind
theorem fs_Bl_15 : FLs R_Bl 15 1 0 := ⟨fl_Bl_15, _, rfl, rfl, by decide +kernel⟩
theorem fl_Co_86 : FL R_Co 86 1 0 := ⟨R_Bl, F_Bl, 7, t_Bl, rfl, by decide, i_Bl, t_Bl_ok, n_Bl, Or.inr ⟨"LandingPads", nw_of 75 (by decide +kernel) rfl⟩⟩ -- LandingPads$Block.kind
theorem fs_Co_86 : FLs R_Co 86 1 0 := ⟨fl_Co_86, _, rfl, rfl, by decide +kernel⟩
theorem fl_Bl_19 : FL R_Bl 19 1 1 := ⟨R_Bl, F_Bl, 7, t_Bl, rfl, by decide, i_Bl, t_Bl_ok, n_Bl, Or.inl (gw_of 132 (by decide +kernel) rfl)⟩ -- LandingPads$Block.operand
theorem fs_Bl_19 : FLs R_Bl 19 1 1 := ⟨fl_Bl_19, _, rfl, rfl, by decide +kernel⟩
theorem fl_Co_112 : FL R_Co 112 1 1 := ⟨R_Bl, F_Bl, 7, t_Bl, rfl, by decide, i_Bl, t_Bl_ok, n_Bl, Or.inr ⟨"LandingPads", nw_of 77 (by decide +kernel) rfl⟩⟩ -- LandingPads$Block.operand
theorem fs_Co_112 : FLs R_Co 112 1 1 := ⟨fl_Co_112, _, rfl, rfl, by decide +kernel⟩
theorem fl_Bl_22 : FL R_Bl 22 1 2 := ⟨R_Bl, F_Bl, 7, t_Bl, rfl, by decide, i_Bl, t_Bl_ok, n_Bl, Or.inl (gw_of 134 (by decide +kernel) rfl)⟩ -- LandingPads$Block.head
theorem fs_Bl_22 : FLs R_Bl 22 1 2 := ⟨fl_Bl_22, _, rfl, rfl, by decide +kernel⟩
theorem fl_Co_73 : FL R_Co 73 1 2 := ⟨R_Bl, F_Bl, 7, t_Bl, rfl, by decide, i_Bl, t_Bl_ok, n_Bl, Or.inr ⟨"LandingPads", nw_of 79 (by decide +kernel) rfl⟩⟩ -- LandingPads$Block.head
theorem fs_Co_73 : FLs R_Co 73 1 2 := ⟨fl_Co_73, _, rfl, rfl, by decide +kernel⟩
theorem fl_Bl_25 : FL R_Bl 25 1 3 := ⟨R_Bl, F_Bl, 7, t_Bl, rfl, by decide, i_Bl, t_Bl_ok, n_Bl, Or.inl (gw_of 136 (by decide +kernel) rfl)⟩ -- LandingPads$Block.outerHead
theorem fs_Bl_25 : FLs R_Bl 25 1 3 := ⟨fl_Bl_25, _, rfl, rfl, by decide +kernel⟩
theorem fl_Co_103 : FL R_Co 103 1 3 := ⟨R_Bl, F_Bl, 7, t_Bl, rfl, by decide, i_Bl, t_Bl_ok, n_Bl, Or.inr ⟨"LandingPads", nw_of 81 (by decide +kernel) rfl⟩⟩ -- LandingPads$Block.outerHead
theorem fs_Co_103 : FLs R_Co 103 1 3 := ⟨fl_Co_103, _, rfl, rfl, by decide +kernel⟩
theorem fl_Bl_28 : FL R_Bl 28 1 4 := ⟨R_Bl, F_Bl, 7, t_Bl, rfl, by decide, i_Bl, t_Bl_ok, n_Bl, Or.inl (gw_of 138 (by decide +kernel) rfl)⟩ -- LandingPads$Block.nextCatch
theorem fs_Bl_28 : FLs R_Bl 28 1 4 := ⟨fl_Bl_28, _, rfl, rfl, by decide +kernel⟩
theorem fl_Co_96 : FL R_Co 96 1 4 := ⟨R_Bl, F_Bl, 7, t_Bl, rfl, by decide, i_Bl, t_Bl_ok, n_Bl, Or.inr ⟨"LandingPads", nw_of 83 (by decide +kernel) rfl⟩⟩ -- LandingPads$Block.nextCatch
theorem fs_Co_96 : FLs R_Co 96 1 4 := ⟨fl_Co_96, _, rfl, rfl, by decide +kernel⟩
theorem fl_Bl_9 : FL R_Bl 9 1 5 := ⟨R_Bl, F_Bl, 7, t_Bl, rfl, by decide, i_Bl, t_Bl_ok, n_Bl, Or.inl (gw_of 140 (by decide +kernel) rfl)⟩ -- LandingPads$Block.exits
theorem fl_Bl_31 : FL R_Bl 31 1 6 := ⟨R_Bl, F_Bl, 7, t_Bl, rfl, by decide, i_Bl, t_Bl_ok, n_Bl, Or.inl (gw_of 141 (by decide +kernel) rfl)⟩ -- LandingPads$Block.exitCount
theorem fs_Bl_31 : FLs R_Bl 31 1 6 := ⟨fl_Bl_31, _, rfl, rfl, by decide +kernel⟩
theorem fl_Co_11 : FL R_Co 11 3 0 := ⟨R_Co, F_Co, 2, t_Co, rfl, by decide, i_Co, t_Co_ok, n_Co, Or.inl (gw_of 157 (by decide +kernel) rfl)⟩ -- LandingPads$Compiler.blocks
theorem fl_Co_23 : FL R_Co 23 3 1 := ⟨R_Co, F_Co, 2, t_Co, rfl, by decide, i_Co, t_Co_ok, n_Co, Or.inl (gw_of 158 (by decide +kernel) rfl)⟩ -- LandingPads$Compiler.open
theorem fs_Co_23 : FLs R_Co 23 3 1 := ⟨fl_Co_23, _, rfl, rfl, by decide +kernel⟩
theorem fl_Ty_9 : FL R_Ty 9 9 0 := ⟨R_Ty, F_Ty, 2, t_Ty, rfl, by decide, i_Ty, t_Ty_ok, n_Ty, Or.inl (gw_of 176 (by decide +kernel) rfl)⟩ -- LandingPads$Types.parents
theorem fl_Ty_15 : FL R_Ty 15 9 1 := ⟨R_Ty, F_Ty, 2, t_Ty, rfl, by decide, i_Ty, t_Ty_ok, n_Ty, Or.inl (gw_of 177 (by decide +kernel) rfl)⟩ -- LandingPads$Types.made
theorem fs_Ty_15 : FLs R_Ty 15 9 1 := ⟨fl_Ty_15, _, rfl, rfl, by decide +kernel⟩
theorem fl_Ta_9 : FL R_Ta 9 7 0 := ⟨R_Ta, F_Ta, 7, t_Ta, rfl, by decide, i_Ta, t_Ta_ok, n_Ta, Or.inl (gw_of 189 (by decide +kernel) rfl)⟩ -- LandingPads$Tally.numbers
theorem fl_Ta_19 : FL R_Ta 19 7 1 := ⟨R_Ta, F_Ta, 7, t_Ta, rfl, by decide, i_Ta, t_Ta_ok, n_Ta, Or.inl (gw_of 190 (by decide +kernel) rfl)⟩ -- LandingPads$Tally.numbersOut
theorem fs_Ta_19 : FLs R_Ta 19 7 1 := ⟨fl_Ta_19, _, rfl, rfl, by decide +kernel⟩
theorem fl_Lp_178 : FL R_Lp 178 7 1 := ⟨R_Ta, F_Ta, 7, t_Ta, rfl, by decide, i_Ta, t_Ta_ok, n_Ta, Or.inr ⟨"LandingPads", nw_of 135 (by decide +kernel) rfl⟩⟩ -- LandingPads$Tally.numbersOut
theorem fs_Lp_178 : FLs R_Lp 178 7 1 := ⟨fl_Lp_178, _, rfl, rfl, by decide +kernel⟩
theorem fl_Ta_22 : FL R_Ta 22 7 2 := ⟨R_Ta, F_Ta, 7, t_Ta, rfl, by decide, i_Ta, t_Ta_ok, n_Ta, Or.inl (gw_of 192 (by decide +kernel) rfl)⟩ -- LandingPads$Tally.steps
theorem fs_Ta_22 : FLs R_Ta 22 7 2 := ⟨fl_Ta_22, _, rfl, rfl, by decide +kernel⟩
theorem fl_Ma_50 : FL R_Ma 50 7 2 := ⟨R_Ta, F_Ta, 7, t_Ta, rfl, by decide, i_Ta, t_Ta_ok, n_Ta, Or.inr ⟨"LandingPads", nw_of 137 (by decide +kernel) rfl⟩⟩ -- LandingPads$Tally.steps
theorem fs_Ma_50 : FLs R_Ma 50 7 2 := ⟨fl_Ma_50, _, rfl, rfl, by decide +kernel⟩
theorem fl_Lp_183 : FL R_Lp 183 7 2 := ⟨R_Ta, F_Ta, 7, t_Ta, rfl, by decide, i_Ta, t_Ta_ok, n_Ta, Or.inr ⟨"LandingPads", nw_of 138 (by decide +kernel) rfl⟩⟩ -- LandingPads$Tally.steps
theorem fs_Lp_183 : FLs R_Lp 183 7 2 := ⟨fl_Lp_183, _, rfl, rfl, by decide +kernel⟩
theorem fl_Ta_25 : FL R_Ta 25 7 3 := ⟨R_Ta, F_Ta, 7, t_Ta, rfl, by decide, i_Ta, t_Ta_ok, n_Ta, Or.inl (gw_of 195 (by decide +kernel) rfl)⟩ -- LandingPads$Tally.cleaned
theorem fs_Ta_25 : FLs R_Ta 25 7 3 := ⟨fl_Ta_25, _, rfl, rfl, by decide +kernel⟩
theorem fl_Ma_113 : FL R_Ma 113 7 3 := ⟨R_Ta, F_Ta, 7, t_Ta, rfl, by decide, i_Ta, t_Ta_ok, n_Ta, Or.inr ⟨"LandingPads", nw_of 140 (by decide +kernel) rfl⟩⟩ -- LandingPads$Tally.cleaned
theorem fs_Ma_113 : FLs R_Ma 113 7 3 := ⟨fl_Ma_113, _, rfl, rfl, by decide +kernel⟩
theorem fl_Lp_186 : FL R_Lp 186 7 3 := ⟨R_Ta, F_Ta, 7, t_Ta, rfl, by decide, i_Ta, t_Ta_ok, n_Ta, Or.inr ⟨"LandingPads", nw_of 141 (by decide +kernel) rfl⟩⟩ -- LandingPads$Tally.cleaned
theorem fs_Lp_186 : FLs R_Lp 186 7 3 := ⟨fl_Lp_186, _, rfl, rfl, by decide +kernel⟩
theorem fl_Ta_28 : FL R_Ta 28 7 4 := ⟨R_Ta, F_Ta, 7, t_Ta, rfl, by decide, i_Ta, t_Ta_ok, n_Ta, Or.inl (gw_of 198 (by decide +kernel) rfl)⟩ -- LandingPads$Tally.handlersFound
theorem fs_Ta_28 : FLs R_Ta 28 7 4 := ⟨fl_Ta_28, _, rfl, rfl, by decide +kernel⟩
theorem fl_Ma_144 : FL R_Ma 144 7 4 := ⟨R_Ta, F_Ta, 7, t_Ta, rfl, by decide, i_Ta, t_Ta_ok, n_Ta, Or.inr ⟨"LandingPads", nw_of 143 (by decide +kernel) rfl⟩⟩ -- LandingPads$Tally.handlersFound
theorem fs_Ma_144 : FLs R_Ma 144 7 4 := ⟨fl_Ma_144, _, rfl, rfl, by decide +kernel⟩
theorem fl_Lp_189 : FL R_Lp 189 7 4 := ⟨R_Ta, F_Ta, 7, t_Ta, rfl, by decide, i_Ta, t_Ta_ok, n_Ta, Or.inr ⟨"LandingPads", nw_of 144 (by decide +kernel) rfl⟩⟩ -- LandingPads$Tally.handlersFound
theorem fs_Lp_189 : FLs R_Lp 189 7 4 := ⟨fl_Lp_189, _, rfl, rfl, by decide +kernel⟩
theorem fl_Ta_31 : FL R_Ta 31 7 5 := ⟨R_Ta, F_Ta, 7, t_Ta, rfl, by decide, i_Ta, t_Ta_ok, n_Ta, Or.inl (gw_of 201 (by decide +kernel) rfl)⟩ -- LandingPads$Tally.mostFrames
theorem fs_Ta_31 : FLs R_Ta 31 7 5 := ⟨fl_Ta_31, _, rfl, rfl, by decide +kernel⟩
theorem fl_Ma_129 : FL R_Ma 129 7 5 := ⟨R_Ta, F_Ta, 7, t_Ta, rfl, by decide, i_Ta, t_Ta_ok, n_Ta, Or.inr ⟨"LandingPads", nw_of 146 (by decide +kernel) rfl⟩⟩ -- LandingPads$Tally.mostFrames
theorem fs_Ma_129 : FLs R_Ma 129 7 5 := ⟨fl_Ma_129, _, rfl, rfl, by decide +kernel⟩
theorem fl_Lp_192 : FL R_Lp 192 7 5 := ⟨R_Ta, F_Ta, 7, t_Ta, rfl, by decide, i_Ta, t_Ta_ok, n_Ta, Or.inr ⟨"LandingPads", nw_of 147 (by decide +kernel) rfl⟩⟩ -- LandingPads$Tally.mostFrames
theorem fs_Lp_192 : FLs R_Lp 192 7 5 := ⟨fl_Lp_192, _, rfl, rfl, by decide +kernel⟩
theorem fl_Ta_15 : FL R_Ta 15 7 6 := ⟨R_Ta, F_Ta, 7, t_Ta, rfl, by decide, i_Ta, t_Ta_ok, n_Ta, Or.inl (gw_of 204 (by decide +kernel) rfl)⟩ -- LandingPads$Tally.notCaught
theorem fs_Ta_15 : FLs R_Ta 15 7 6 := ⟨fl_Ta_15, _, rfl, rfl, by decide +kernel⟩
theorem fl_Ma_141 : FL R_Ma 141 7 6 := ⟨R_Ta, F_Ta, 7, t_Ta, rfl, by decide, i_Ta, t_Ta_ok, n_Ta, Or.inr ⟨"LandingPads", nw_of 149 (by decide +kernel) rfl⟩⟩ -- LandingPads$Tally.notCaught
theorem fs_Ma_141 : FLs R_Ma 141 7 6 := ⟨fl_Ma_141, _, rfl, rfl, by decide +kernel⟩
theorem fl_Lp_195 : FL R_Lp 195 7 6 := ⟨R_Ta, F_Ta, 7, t_Ta, rfl, by decide, i_Ta, t_Ta_ok, n_Ta, Or.inr ⟨"LandingPads", nw_of 150 (by decide +kernel) rfl⟩⟩ -- LandingPads$Tally.notCaught
theorem fs_Lp_195 : FLs R_Lp 195 7 6 := ⟨fl_Lp_195, _, rfl, rfl, by decide +kernel⟩
theorem fl_Pr_9 : FL R_Pr 9 6 0 := ⟨R_Pr, F_Pr, 11, t_Pr, rfl, by decide, i_Pr, t_Pr_ok, n_Pr, Or.inl (gw_of 229 (by decide +kernel) rfl)⟩ -- LandingPads$Program.letters
theorem fl_Pr_15 : FL R_Pr 15 6 1 := ⟨R_Pr, F_Pr, 11, t_Pr, rfl, by decide, i_Pr, t_Pr_ok, n_Pr, Or.inl (gw_of 230 (by decide +kernel) rfl)⟩ -- LandingPads$Program.values
theorem fl_Pr_36 : FL R_Pr 36 6 2 := ⟨R_Pr, F_Pr, 11, t_Pr, rfl, by decide, i_Pr, t_Pr_ok, n_Pr, Or.inl (gw_of 231 (by decide +kernel) rfl)⟩ -- LandingPads$Program.instructions
theorem fs_Pr_36 : FLs R_Pr 36 6 2 := ⟨fl_Pr_36, _, rfl, rfl, by decide +kernel⟩
theorem fl_Bl_34 : FL R_Bl 34 6 2 := ⟨R_Pr, F_Pr, 11, t_Pr, rfl, by decide, i_Pr, t_Pr_ok, n_Pr, Or.inr ⟨"LandingPads", nw_of 176 (by decide +kernel) rfl⟩⟩ -- LandingPads$Program.instructions
theorem fs_Bl_34 : FLs R_Bl 34 6 2 := ⟨fl_Bl_34, _, rfl, rfl, by decide +kernel⟩
theorem fl_Lp_102 : FL R_Lp 102 6 2 := ⟨R_Pr, F_Pr, 11, t_Pr, rfl, by decide, i_Pr, t_Pr_ok, n_Pr, Or.inr ⟨"LandingPads", nw_of 177 (by decide +kernel) rfl⟩⟩ -- LandingPads$Program.instructions
theorem fs_Lp_102 : FLs R_Lp 102 6 2 := ⟨fl_Lp_102, _, rfl, rfl, by decide +kernel⟩
theorem fl_Co_115 : FL R_Co 115 6 2 := ⟨R_Pr, F_Pr, 11, t_Pr, rfl, by decide, i_Pr, t_Pr_ok, n_Pr, Or.inr ⟨"LandingPads", nw_of 178 (by decide +kernel) rfl⟩⟩ -- LandingPads$Program.instructions
theorem fs_Co_115 : FLs R_Co 115 6 2 := ⟨fl_Co_115, _, rfl, rfl, by decide +kernel⟩
theorem fl_Pr_18 : FL R_Pr 18 6 3 := ⟨R_Pr, F_Pr, 11, t_Pr, rfl, by decide, i_Pr, t_Pr_ok, n_Pr, Or.inl (gw_of 235 (by decide +kernel) rfl)⟩ -- LandingPads$Program.filters
theorem fl_Pr_21 : FL R_Pr 21 6 4 := ⟨R_Pr, F_Pr, 11, t_Pr, rfl, by decide, i_Pr, t_Pr_ok, n_Pr, Or.inl (gw_of 236 (by decide +kernel) rfl)⟩ -- LandingPads$Program.landings
theorem fl_Pr_24 : FL R_Pr 24 6 5 := ⟨R_Pr, F_Pr, 11, t_Pr, rfl, by decide, i_Pr, t_Pr_ok, n_Pr, Or.inl (gw_of 237 (by decide +kernel) rfl)⟩ -- LandingPads$Program.nexts
theorem fl_Pr_40 : FL R_Pr 40 6 6 := ⟨R_Pr, F_Pr, 11, t_Pr, rfl, by decide, i_Pr, t_Pr_ok, n_Pr, Or.inl (gw_of 238 (by decide +kernel) rfl)⟩ -- LandingPads$Program.actions
theorem fs_Pr_40 : FLs R_Pr 40 6 6 := ⟨fl_Pr_40, _, rfl, rfl, by decide +kernel⟩
theorem fl_Co_80 : FL R_Co 80 6 6 := ⟨R_Pr, F_Pr, 11, t_Pr, rfl, by decide, i_Pr, t_Pr_ok, n_Pr, Or.inr ⟨"LandingPads", nw_of 183 (by decide +kernel) rfl⟩⟩ -- LandingPads$Program.actions
theorem fs_Co_80 : FLs R_Co 80 6 6 := ⟨fl_Co_80, _, rfl, rfl, by decide +kernel⟩
theorem fl_Lp_107 : FL R_Lp 107 6 6 := ⟨R_Pr, F_Pr, 11, t_Pr, rfl, by decide, i_Pr, t_Pr_ok, n_Pr, Or.inr ⟨"LandingPads", nw_of 184 (by decide +kernel) rfl⟩⟩ -- LandingPads$Program.actions
theorem fs_Lp_107 : FLs R_Lp 107 6 6 := ⟨fl_Lp_107, _, rfl, rfl, by decide +kernel⟩
theorem fl_Pr_27 : FL R_Pr 27 6 7 := ⟨R_Pr, F_Pr, 11, t_Pr, rfl, by decide, i_Pr, t_Pr_ok, n_Pr, Or.inl (gw_of 241 (by decide +kernel) rfl)⟩ -- LandingPads$Program.firsts
theorem fl_Pr_30 : FL R_Pr 30 6 8 := ⟨R_Pr, F_Pr, 11, t_Pr, rfl, by decide, i_Pr, t_Pr_ok, n_Pr, Or.inl (gw_of 242 (by decide +kernel) rfl)⟩ -- LandingPads$Program.lasts
theorem fl_Pr_33 : FL R_Pr 33 6 9 := ⟨R_Pr, F_Pr, 11, t_Pr, rfl, by decide, i_Pr, t_Pr_ok, n_Pr, Or.inl (gw_of 243 (by decide +kernel) rfl)⟩ -- LandingPads$Program.heads
theorem fl_Pr_43 : FL R_Pr 43 6 10 := ⟨R_Pr, F_Pr, 11, t_Pr, rfl, by decide, i_Pr, t_Pr_ok, n_Pr, Or.inl (gw_of 244 (by decide +kernel) rfl)⟩ -- LandingPads$Program.sites
theorem fs_Pr_43 : FLs R_Pr 43 6 10 := ⟨fl_Pr_43, _, rfl, rfl, by decide +kernel⟩
theorem fl_Lp_110 : FL R_Lp 110 6 10 := ⟨R_Pr, F_Pr, 11, t_Pr, rfl, by decide, i_Pr, t_Pr_ok, n_Pr, Or.inr ⟨"LandingPads", nw_of 189 (by decide +kernel) rfl⟩⟩ -- LandingPads$Program.sites
theorem fs_Lp_110 : FLs R_Lp 110 6 10 := ⟨fl_Lp_110, _, rfl, rfl, by decide +kernel⟩
theorem fl_Fr_15 : FL R_Fr 15 4 0 := ⟨R_Fr, F_Fr, 4, t_Fr, rfl, by decide, i_Fr, t_Fr_ok, n_Fr, Or.inl (gw_of 276 (by decide +kernel) rfl)⟩ -- LandingPads$Frame.function
theorem fs_Fr_15 : FLs R_Fr 15 4 0 := ⟨fl_Fr_15, _, rfl, rfl, by decide +kernel⟩
theorem fl_Ma_61 : FL R_Ma 61 4 0 := ⟨R_Fr, F_Fr, 4, t_Fr, rfl, by decide, i_Fr, t_Fr_ok, n_Fr, Or.inr ⟨"LandingPads", nw_of 221 (by decide +kernel) rfl⟩⟩ -- LandingPads$Frame.function
theorem fs_Ma_61 : FLs R_Ma 61 4 0 := ⟨fl_Ma_61, _, rfl, rfl, by decide +kernel⟩
theorem fl_Fr_19 : FL R_Fr 19 4 1 := ⟨R_Fr, F_Fr, 4, t_Fr, rfl, by decide, i_Fr, t_Fr_ok, n_Fr, Or.inl (gw_of 278 (by decide +kernel) rfl)⟩ -- LandingPads$Frame.place
theorem fs_Fr_19 : FLs R_Fr 19 4 1 := ⟨fl_Fr_19, _, rfl, rfl, by decide +kernel⟩
theorem fl_Ma_64 : FL R_Ma 64 4 1 := ⟨R_Fr, F_Fr, 4, t_Fr, rfl, by decide, i_Fr, t_Fr_ok, n_Fr, Or.inr ⟨"LandingPads", nw_of 223 (by decide +kernel) rfl⟩⟩ -- LandingPads$Frame.place
theorem fs_Ma_64 : FLs R_Ma 64 4 1 := ⟨fl_Ma_64, _, rfl, rfl, by decide +kernel⟩
theorem fl_Fr_9 : FL R_Fr 9 4 2 := ⟨R_Fr, F_Fr, 4, t_Fr, rfl, by decide, i_Fr, t_Fr_ok, n_Fr, Or.inl (gw_of 280 (by decide +kernel) rfl)⟩ -- LandingPads$Frame.caught
theorem fl_Fr_22 : FL R_Fr 22 4 3 := ⟨R_Fr, F_Fr, 4, t_Fr, rfl, by decide, i_Fr, t_Fr_ok, n_Fr, Or.inl (gw_of 281 (by decide +kernel) rfl)⟩ -- LandingPads$Frame.caughtCount
theorem fs_Fr_22 : FLs R_Fr 22 4 3 := ⟨fl_Fr_22, _, rfl, rfl, by decide +kernel⟩
theorem fl_Ma_12 : FL R_Ma 12 5 0 := ⟨R_Ma, F_Ma, 9, t_Ma, rfl, by decide, i_Ma, t_Ma_ok, n_Ma, Or.inl (gw_of 291 (by decide +kernel) rfl)⟩ -- LandingPads$Machine.types
theorem fl_Lp_37 : FL R_Lp 37 5 0 := ⟨R_Ma, F_Ma, 9, t_Ma, rfl, by decide, i_Ma, t_Ma_ok, n_Ma, Or.inr ⟨"LandingPads", nw_of 236 (by decide +kernel) rfl⟩⟩ -- LandingPads$Machine.types
theorem fl_Ma_27 : FL R_Ma 27 5 1 := ⟨R_Ma, F_Ma, 9, t_Ma, rfl, by decide, i_Ma, t_Ma_ok, n_Ma, Or.inl (gw_of 293 (by decide +kernel) rfl)⟩ -- LandingPads$Machine.programs
theorem fl_Lp_94 : FL R_Lp 94 5 1 := ⟨R_Ma, F_Ma, 9, t_Ma, rfl, by decide, i_Ma, t_Ma_ok, n_Ma, Or.inr ⟨"LandingPads", nw_of 238 (by decide +kernel) rfl⟩⟩ -- LandingPads$Machine.programs
theorem fl_Ma_21 : FL R_Ma 21 5 2 := ⟨R_Ma, F_Ma, 9, t_Ma, rfl, by decide, i_Ma, t_Ma_ok, n_Ma, Or.inl (gw_of 295 (by decide +kernel) rfl)⟩ -- LandingPads$Machine.latest
theorem fl_Lp_174 : FL R_Lp 174 5 2 := ⟨R_Ma, F_Ma, 9, t_Ma, rfl, by decide, i_Ma, t_Ma_ok, n_Ma, Or.inr ⟨"LandingPads", nw_of 240 (by decide +kernel) rfl⟩⟩ -- LandingPads$Machine.latest
theorem fl_Ma_34 : FL R_Ma 34 5 3 := ⟨R_Ma, F_Ma, 9, t_Ma, rfl, by decide, i_Ma, t_Ma_ok, n_Ma, Or.inl (gw_of 297 (by decide +kernel) rfl)⟩ -- LandingPads$Machine.frames
theorem fl_Ma_42 : FL R_Ma 42 5 4 := ⟨R_Ma, F_Ma, 9, t_Ma, rfl, by decide, i_Ma, t_Ma_ok, n_Ma, Or.inl (gw_of 298 (by decide +kernel) rfl)⟩ -- LandingPads$Machine.depth
theorem fs_Ma_42 : FLs R_Ma 42 5 4 := ⟨fl_Ma_42, _, rfl, rfl, by decide +kernel⟩
theorem fl_Ma_147 : FL R_Ma 147 5 5 := ⟨R_Ma, F_Ma, 9, t_Ma, rfl, by decide, i_Ma, t_Ma_ok, n_Ma, Or.inl (gw_of 299 (by decide +kernel) rfl)⟩ -- LandingPads$Machine.raised
theorem fs_Ma_147 : FLs R_Ma 147 5 5 := ⟨fl_Ma_147, _, rfl, rfl, by decide +kernel⟩
theorem fl_Ma_163 : FL R_Ma 163 5 6 := ⟨R_Ma, F_Ma, 9, t_Ma, rfl, by decide, i_Ma, t_Ma_ok, n_Ma, Or.inl (gw_of 300 (by decide +kernel) rfl)⟩ -- LandingPads$Machine.handlerDepth
theorem fs_Ma_163 : FLs R_Ma 163 5 6 := ⟨fl_Ma_163, _, rfl, rfl, by decide +kernel⟩
theorem fl_Ma_166 : FL R_Ma 166 5 7 := ⟨R_Ma, F_Ma, 9, t_Ma, rfl, by decide, i_Ma, t_Ma_ok, n_Ma, Or.inl (gw_of 301 (by decide +kernel) rfl)⟩ -- LandingPads$Machine.handlerAction
theorem fs_Ma_166 : FLs R_Ma 166 5 7 := ⟨fl_Ma_166, _, rfl, rfl, by decide +kernel⟩
theorem fl_Ma_93 : FL R_Ma 93 5 8 := ⟨R_Ma, F_Ma, 9, t_Ma, rfl, by decide, i_Ma, t_Ma_ok, n_Ma, Or.inl (gw_of 302 (by decide +kernel) rfl)⟩ -- LandingPads$Machine.landedAction
theorem fs_Ma_93 : FLs R_Ma 93 5 8 := ⟨fl_Ma_93, _, rfl, rfl, by decide +kernel⟩
theorem fl_Lp_11 : FL R_Lp 11 0 0 := ⟨R_Lp, F_Lp, 4, t_Lp, rfl, by decide, i_Lp, t_Lp_ok, n_Lp, Or.inl (gw_of 322 (by decide +kernel) rfl)⟩ -- LandingPads.texts
theorem fl_Lp_19 : FL R_Lp 19 0 1 := ⟨R_Lp, F_Lp, 4, t_Lp, rfl, by decide, i_Lp, t_Lp_ok, n_Lp, Or.inl (gw_of 323 (by decide +kernel) rfl)⟩ -- LandingPads.checker
theorem fl_Lp_26 : FL R_Lp 26 0 2 := ⟨R_Lp, F_Lp, 4, t_Lp, rfl, by decide, i_Lp, t_Lp_ok, n_Lp, Or.inl (gw_of 324 (by decide +kernel) rfl)⟩ -- LandingPads.compiler
theorem fl_Lp_33 : FL R_Lp 33 0 3 := ⟨R_Lp, F_Lp, 4, t_Lp, rfl, by decide, i_Lp, t_Lp_ok, n_Lp, Or.inl (gw_of 325 (by decide +kernel) rfl)⟩ -- LandingPads.machine
theorem fl_Mo_101 : FL R_Mo 101 10 0 := ⟨R_Mo, F_Mo, 38, t_Mo, rfl, by decide, i_Mo, t_Mo_ok, n_Mo, Or.inl (gw_of 864 (by decide +kernel) rfl)⟩ -- LandingPadsModel.thrown
theorem fs_Mo_101 : FLs R_Mo 101 10 0 := ⟨fl_Mo_101, _, rfl, rfl, by decide +kernel⟩
theorem fl_Mo_7 : FL R_Mo 7 10 1 := ⟨R_Mo, F_Mo, 38, t_Mo, rfl, by decide, i_Mo, t_Mo_ok, n_Mo, Or.inl (gw_of 865 (by decide +kernel) rfl)⟩ -- LandingPadsModel.types
theorem fs_Mo_7 : FLs R_Mo 7 10 1 := ⟨fl_Mo_7, _, rfl, rfl, by decide +kernel⟩
theorem fl_Mo_13 : FL R_Mo 13 10 2 := ⟨R_Mo, F_Mo, 38, t_Mo, rfl, by decide, i_Mo, t_Mo_ok, n_Mo, Or.inl (gw_of 866 (by decide +kernel) rfl)⟩ -- LandingPadsModel.parent
theorem fl_Mo_17 : FL R_Mo 17 10 3 := ⟨R_Mo, F_Mo, 38, t_Mo, rfl, by decide, i_Mo, t_Mo_ok, n_Mo, Or.inl (gw_of 867 (by decide +kernel) rfl)⟩ -- LandingPadsModel.texts
theorem fl_Mo_20 : FL R_Mo 20 10 4 := ⟨R_Mo, F_Mo, 38, t_Mo, rfl, by decide, i_Mo, t_Mo_ok, n_Mo, Or.inl (gw_of 868 (by decide +kernel) rfl)⟩ -- LandingPadsModel.statement
theorem fl_Mo_23 : FL R_Mo 23 10 5 := ⟨R_Mo, F_Mo, 38, t_Mo, rfl, by decide, i_Mo, t_Mo_ok, n_Mo, Or.inl (gw_of 869 (by decide +kernel) rfl)⟩ -- LandingPadsModel.number
theorem fl_Mo_26 : FL R_Mo 26 10 6 := ⟨R_Mo, F_Mo, 38, t_Mo, rfl, by decide, i_Mo, t_Mo_ok, n_Mo, Or.inl (gw_of 870 (by decide +kernel) rfl)⟩ -- LandingPadsModel.codes
theorem fl_Mo_29 : FL R_Mo 29 10 7 := ⟨R_Mo, F_Mo, 38, t_Mo, rfl, by decide, i_Mo, t_Mo_ok, n_Mo, Or.inl (gw_of 871 (by decide +kernel) rfl)⟩ -- LandingPadsModel.letter
theorem fl_Mo_32 : FL R_Mo 32 10 8 := ⟨R_Mo, F_Mo, 38, t_Mo, rfl, by decide, i_Mo, t_Mo_ok, n_Mo, Or.inl (gw_of 872 (by decide +kernel) rfl)⟩ -- LandingPadsModel.operand
theorem fl_Mo_35 : FL R_Mo 35 10 9 := ⟨R_Mo, F_Mo, 38, t_Mo, rfl, by decide, i_Mo, t_Mo_ok, n_Mo, Or.inl (gw_of 873 (by decide +kernel) rfl)⟩ -- LandingPadsModel.headOf
theorem fl_Mo_38 : FL R_Mo 38 10 10 := ⟨R_Mo, F_Mo, 38, t_Mo, rfl, by decide, i_Mo, t_Mo_ok, n_Mo, Or.inl (gw_of 874 (by decide +kernel) rfl)⟩ -- LandingPadsModel.actions
theorem fl_Mo_41 : FL R_Mo 41 10 11 := ⟨R_Mo, F_Mo, 38, t_Mo, rfl, by decide, i_Mo, t_Mo_ok, n_Mo, Or.inl (gw_of 875 (by decide +kernel) rfl)⟩ -- LandingPadsModel.filter
theorem fl_Mo_44 : FL R_Mo 44 10 12 := ⟨R_Mo, F_Mo, 38, t_Mo, rfl, by decide, i_Mo, t_Mo_ok, n_Mo, Or.inl (gw_of 876 (by decide +kernel) rfl)⟩ -- LandingPadsModel.landing
theorem fl_Mo_47 : FL R_Mo 47 10 13 := ⟨R_Mo, F_Mo, 38, t_Mo, rfl, by decide, i_Mo, t_Mo_ok, n_Mo, Or.inl (gw_of 877 (by decide +kernel) rfl)⟩ -- LandingPadsModel.next
theorem fl_Mo_50 : FL R_Mo 50 10 14 := ⟨R_Mo, F_Mo, 38, t_Mo, rfl, by decide, i_Mo, t_Mo_ok, n_Mo, Or.inl (gw_of 878 (by decide +kernel) rfl)⟩ -- LandingPadsModel.sites
theorem fl_Mo_53 : FL R_Mo 53 10 15 := ⟨R_Mo, F_Mo, 38, t_Mo, rfl, by decide, i_Mo, t_Mo_ok, n_Mo, Or.inl (gw_of 879 (by decide +kernel) rfl)⟩ -- LandingPadsModel.siteFirst
theorem fl_Mo_56 : FL R_Mo 56 10 16 := ⟨R_Mo, F_Mo, 38, t_Mo, rfl, by decide, i_Mo, t_Mo_ok, n_Mo, Or.inl (gw_of 880 (by decide +kernel) rfl)⟩ -- LandingPadsModel.siteLast
theorem fl_Mo_59 : FL R_Mo 59 10 17 := ⟨R_Mo, F_Mo, 38, t_Mo, rfl, by decide, i_Mo, t_Mo_ok, n_Mo, Or.inl (gw_of 881 (by decide +kernel) rfl)⟩ -- LandingPadsModel.siteHead
theorem fl_Mo_116 : FL R_Mo 116 10 18 := ⟨R_Mo, F_Mo, 38, t_Mo, rfl, by decide, i_Mo, t_Mo_ok, n_Mo, Or.inl (gw_of 882 (by decide +kernel) rfl)⟩ -- LandingPadsModel.open
theorem fs_Mo_116 : FLs R_Mo 116 10 18 := ⟨fl_Mo_116, _, rfl, rfl, by decide +kernel⟩
theorem fl_Mo_62 : FL R_Mo 62 10 19 := ⟨R_Mo, F_Mo, 38, t_Mo, rfl, by decide, i_Mo, t_Mo_ok, n_Mo, Or.inl (gw_of 883 (by decide +kernel) rfl)⟩ -- LandingPadsModel.rowKind
theorem fl_Mo_65 : FL R_Mo 65 10 20 := ⟨R_Mo, F_Mo, 38, t_Mo, rfl, by decide, i_Mo, t_Mo_ok, n_Mo, Or.inl (gw_of 884 (by decide +kernel) rfl)⟩ -- LandingPadsModel.rowHead
theorem fl_Mo_68 : FL R_Mo 68 10 21 := ⟨R_Mo, F_Mo, 38, t_Mo, rfl, by decide, i_Mo, t_Mo_ok, n_Mo, Or.inl (gw_of 885 (by decide +kernel) rfl)⟩ -- LandingPadsModel.around
theorem fl_Mo_71 : FL R_Mo 71 10 22 := ⟨R_Mo, F_Mo, 38, t_Mo, rfl, by decide, i_Mo, t_Mo_ok, n_Mo, Or.inl (gw_of 886 (by decide +kernel) rfl)⟩ -- LandingPadsModel.nextCatch
theorem fl_Mo_74 : FL R_Mo 74 10 23 := ⟨R_Mo, F_Mo, 38, t_Mo, rfl, by decide, i_Mo, t_Mo_ok, n_Mo, Or.inl (gw_of 887 (by decide +kernel) rfl)⟩ -- LandingPadsModel.ending
theorem fl_Mo_77 : FL R_Mo 77 10 24 := ⟨R_Mo, F_Mo, 38, t_Mo, rfl, by decide, i_Mo, t_Mo_ok, n_Mo, Or.inl (gw_of 888 (by decide +kernel) rfl)⟩ -- LandingPadsModel.rowNumber
theorem fl_Mo_164 : FL R_Mo 164 10 25 := ⟨R_Mo, F_Mo, 38, t_Mo, rfl, by decide, i_Mo, t_Mo_ok, n_Mo, Or.inl (gw_of 889 (by decide +kernel) rfl)⟩ -- LandingPadsModel.frames
theorem fs_Mo_164 : FLs R_Mo 164 10 25 := ⟨fl_Mo_164, _, rfl, rfl, by decide +kernel⟩
theorem fl_Mo_80 : FL R_Mo 80 10 26 := ⟨R_Mo, F_Mo, 38, t_Mo, rfl, by decide, i_Mo, t_Mo_ok, n_Mo, Or.inl (gw_of 890 (by decide +kernel) rfl)⟩ -- LandingPadsModel.function
theorem fl_Mo_83 : FL R_Mo 83 10 27 := ⟨R_Mo, F_Mo, 38, t_Mo, rfl, by decide, i_Mo, t_Mo_ok, n_Mo, Or.inl (gw_of 891 (by decide +kernel) rfl)⟩ -- LandingPadsModel.at
theorem fl_Mo_86 : FL R_Mo 86 10 28 := ⟨R_Mo, F_Mo, 38, t_Mo, rfl, by decide, i_Mo, t_Mo_ok, n_Mo, Or.inl (gw_of 892 (by decide +kernel) rfl)⟩ -- LandingPadsModel.place
theorem fl_Mo_89 : FL R_Mo 89 10 29 := ⟨R_Mo, F_Mo, 38, t_Mo, rfl, by decide, i_Mo, t_Mo_ok, n_Mo, Or.inl (gw_of 893 (by decide +kernel) rfl)⟩ -- LandingPadsModel.caughts
theorem fl_Mo_92 : FL R_Mo 92 10 30 := ⟨R_Mo, F_Mo, 38, t_Mo, rfl, by decide, i_Mo, t_Mo_ok, n_Mo, Or.inl (gw_of 894 (by decide +kernel) rfl)⟩ -- LandingPadsModel.caught
theorem fl_Mo_171 : FL R_Mo 171 10 31 := ⟨R_Mo, F_Mo, 38, t_Mo, rfl, by decide, i_Mo, t_Mo_ok, n_Mo, Or.inl (gw_of 895 (by decide +kernel) rfl)⟩ -- LandingPadsModel.flying
theorem fs_Mo_171 : FLs R_Mo 171 10 31 := ⟨fl_Mo_171, _, rfl, rfl, by decide +kernel⟩
theorem fl_Mo_177 : FL R_Mo 177 10 32 := ⟨R_Mo, F_Mo, 38, t_Mo, rfl, by decide, i_Mo, t_Mo_ok, n_Mo, Or.inl (gw_of 896 (by decide +kernel) rfl)⟩ -- LandingPadsModel.handlerFrame
theorem fs_Mo_177 : FLs R_Mo 177 10 32 := ⟨fl_Mo_177, _, rfl, rfl, by decide +kernel⟩
theorem fl_Mo_180 : FL R_Mo 180 10 33 := ⟨R_Mo, F_Mo, 38, t_Mo, rfl, by decide, i_Mo, t_Mo_ok, n_Mo, Or.inl (gw_of 897 (by decide +kernel) rfl)⟩ -- LandingPadsModel.handler
theorem fs_Mo_180 : FLs R_Mo 180 10 33 := ⟨fl_Mo_180, _, rfl, rfl, by decide +kernel⟩
theorem fl_Mo_183 : FL R_Mo 183 10 34 := ⟨R_Mo, F_Mo, 38, t_Mo, rfl, by decide, i_Mo, t_Mo_ok, n_Mo, Or.inl (gw_of 898 (by decide +kernel) rfl)⟩ -- LandingPadsModel.action
theorem fs_Mo_183 : FLs R_Mo 183 10 34 := ⟨fl_Mo_183, _, rfl, rfl, by decide +kernel⟩
theorem fl_Mo_189 : FL R_Mo 189 10 35 := ⟨R_Mo, F_Mo, 38, t_Mo, rfl, by decide, i_Mo, t_Mo_ok, n_Mo, Or.inl (gw_of 899 (by decide +kernel) rfl)⟩ -- LandingPadsModel.ended
theorem fs_Mo_189 : FLs R_Mo 189 10 35 := ⟨fl_Mo_189, _, rfl, rfl, by decide +kernel⟩
theorem fl_Mo_95 : FL R_Mo 95 10 36 := ⟨R_Mo, F_Mo, 38, t_Mo, rfl, by decide, i_Mo, t_Mo_ok, n_Mo, Or.inl (gw_of 900 (by decide +kernel) rfl)⟩ -- LandingPadsModel.counts
theorem fl_Mo_98 : FL R_Mo 98 10 37 := ⟨R_Mo, F_Mo, 38, t_Mo, rfl, by decide, i_Mo, t_Mo_ok, n_Mo, Or.inl (gw_of 901 (by decide +kernel) rfl)⟩ -- LandingPadsModel.outs
theorem cd_Lp_init : Cond.code y_Lp_init b_Lp_init 2 none ∈ gw := gw_of 79 (by decide +kernel) rfl
theorem im_Lp_init : Cond.instanceMethod y_Lp_init ∈ gw := gw_of 78 (by decide +kernel) rfl
theorem cd_Tx_init : Cond.code y_Tx_init b_Tx_init 1 none ∈ gw := gw_of 88 (by decide +kernel) rfl
theorem im_Tx_init : Cond.instanceMethod y_Tx_init ∈ gw := gw_of 87 (by decide +kernel) rfl
theorem cd_Ck_init : Cond.code y_Ck_init b_Ck_init 1 none ∈ gw := gw_of 108 (by decide +kernel) rfl
theorem im_Ck_init : Cond.instanceMethod y_Ck_init ∈ gw := gw_of 107 (by decide +kernel) rfl
theorem cd_Co_init : Cond.code y_Co_init b_Co_init 2 none ∈ gw := gw_of 121 (by decide +kernel) rfl
theorem im_Co_init : Cond.instanceMethod y_Co_init ∈ gw := gw_of 120 (by decide +kernel) rfl
theorem cd_Bl_init : Cond.code y_Bl_init b_Bl_init 1 none ∈ gw := gw_of 128 (by decide +kernel) rfl
theorem im_Bl_init : Cond.instanceMethod y_Bl_init ∈ gw := gw_of 127 (by decide +kernel) rfl
theorem cd_Ma_init : Cond.code y_Ma_init b_Ma_init 2 none ∈ gw := gw_of 168 (by decide +kernel) rfl
theorem im_Ma_init : Cond.instanceMethod y_Ma_init ∈ gw := gw_of 167 (by decide +kernel) rfl
theorem cd_Ty_init : Cond.code y_Ty_init b_Ty_init 1 none ∈ gw := gw_of 174 (by decide +kernel) rfl
theorem im_Ty_init : Cond.instanceMethod y_Ty_init ∈ gw := gw_of 173 (by decide +kernel) rfl
theorem cd_Ta_init : Cond.code y_Ta_init b_Ta_init 1 none ∈ gw := gw_of 187 (by decide +kernel) rfl
theorem im_Ta_init : Cond.instanceMethod y_Ta_init ∈ gw := gw_of 186 (by decide +kernel) rfl
theorem cd_Pr_init : Cond.code y_Pr_init b_Pr_init 1 none ∈ gw := gw_of 227 (by decide +kernel) rfl
theorem im_Pr_init : Cond.instanceMethod y_Pr_init ∈ gw := gw_of 226 (by decide +kernel) rfl
theorem cd_Fr_init : Cond.code y_Fr_init b_Fr_init 1 none ∈ gw := gw_of 274 (by decide +kernel) rfl
theorem im_Fr_init : Cond.instanceMethod y_Fr_init ∈ gw := gw_of 273 (by decide +kernel) rfl
theorem sm_La_type : Cond.static y_La_type ∈ gw := gw_of 336 (by decide +kernel) rfl
theorem cd_Lp_type : Cond.code y_Lp_type b_Lp_type 2 (some .int) ∈ gw := gw_of 343 (by decide +kernel) rfl
theorem im_Lp_type : Cond.instanceMethod y_Lp_type ∈ gw := gw_of 341 (by decide +kernel) rfl
theorem se_Lp_type : Cond.selects R_Lp y_Lp_type y_Lp_type ∈ gw := gw_of 342 (by decide +kernel) rfl
theorem cd_Ty_has : Cond.code y_Ty_has b_Ty_has 2 (some .boolean) ∈ gw := gw_of 347 (by decide +kernel) rfl
theorem im_Ty_has : Cond.instanceMethod y_Ty_has ∈ gw := gw_of 345 (by decide +kernel) rfl
theorem se_Ty_has : Cond.selects R_Ty y_Ty_has y_Ty_has ∈ gw := gw_of 346 (by decide +kernel) rfl
theorem cd_Ty_isFull : Cond.code y_Ty_isFull b_Ty_isFull 1 (some .boolean) ∈ gw := gw_of 419 (by decide +kernel) rfl
theorem im_Ty_isFull : Cond.instanceMethod y_Ty_isFull ∈ gw := gw_of 417 (by decide +kernel) rfl
theorem se_Ty_isFull : Cond.selects R_Ty y_Ty_isFull y_Ty_isFull ∈ gw := gw_of 418 (by decide +kernel) rfl
theorem cd_Ty_make : Cond.code y_Ty_make b_Ty_make 3 (some .int) ∈ gw := gw_of 439 (by decide +kernel) rfl
theorem im_Ty_make : Cond.instanceMethod y_Ty_make ∈ gw := gw_of 437 (by decide +kernel) rfl
theorem se_Ty_make : Cond.selects R_Ty y_Ty_make y_Ty_make ∈ gw := gw_of 438 (by decide +kernel) rfl
theorem sm_La_add : Cond.static y_La_add ∈ gw := gw_of 442 (by decide +kernel) rfl
theorem cd_Lp_add : Cond.code y_Lp_add b_Lp_add 4 (some .int) ∈ gw := gw_of 447 (by decide +kernel) rfl
theorem im_Lp_add : Cond.instanceMethod y_Lp_add ∈ gw := gw_of 445 (by decide +kernel) rfl
theorem se_Lp_add : Cond.selects R_Lp y_Lp_add y_Lp_add ∈ gw := gw_of 446 (by decide +kernel) rfl
theorem cd_Lp_requireFunction : Cond.code y_Lp_requireFunction b_Lp_requireFunction 1 none ∈ gw := gw_of 450 (by decide +kernel) rfl
theorem sm_Lp_requireFunction : Cond.static y_Lp_requireFunction ∈ gw := gw_of 449 (by decide +kernel) rfl
theorem cd_Lp_isFunction : Cond.code y_Lp_isFunction b_Lp_isFunction 1 (some .boolean) ∈ gw := gw_of 453 (by decide +kernel) rfl
theorem sm_Lp_isFunction : Cond.static y_Lp_isFunction ∈ gw := gw_of 452 (by decide +kernel) rfl
theorem cd_Lp_isAllowed : Cond.code y_Lp_isAllowed b_Lp_isAllowed 3 (some .boolean) ∈ gw := gw_of 458 (by decide +kernel) rfl
theorem im_Lp_isAllowed : Cond.instanceMethod y_Lp_isAllowed ∈ gw := gw_of 457 (by decide +kernel) rfl
theorem se_Lp_isAllowed : Cond.selects R_Lp y_Lp_isAllowed y_Lp_isAllowed ∈ gw := gw_of 1 (by decide +kernel) rfl
theorem cd_Tx_isFull : Cond.code y_Tx_isFull b_Tx_isFull 1 (some .boolean) ∈ gw := gw_of 463 (by decide +kernel) rfl
theorem im_Tx_isFull : Cond.instanceMethod y_Tx_isFull ∈ gw := gw_of 461 (by decide +kernel) rfl
theorem se_Tx_isFull : Cond.selects R_Tx y_Tx_isFull y_Tx_isFull ∈ gw := gw_of 462 (by decide +kernel) rfl
theorem cd_Tx_append : Cond.code y_Tx_append b_Tx_append 3 (some .int) ∈ gw := gw_of 468 (by decide +kernel) rfl
theorem im_Tx_append : Cond.instanceMethod y_Tx_append ∈ gw := gw_of 466 (by decide +kernel) rfl
theorem se_Tx_append : Cond.selects R_Tx y_Tx_append y_Tx_append ∈ gw := gw_of 467 (by decide +kernel) rfl
theorem sm_La_wipe : Cond.static y_La_wipe ∈ gw := gw_of 471 (by decide +kernel) rfl
theorem cd_Lp_wipe : Cond.code y_Lp_wipe b_Lp_wipe 2 none ∈ gw := gw_of 476 (by decide +kernel) rfl
theorem im_Lp_wipe : Cond.instanceMethod y_Lp_wipe ∈ gw := gw_of 474 (by decide +kernel) rfl
theorem se_Lp_wipe : Cond.selects R_Lp y_Lp_wipe y_Lp_wipe ∈ gw := gw_of 475 (by decide +kernel) rfl
theorem sm_La_compile : Cond.static y_La_compile ∈ gw := gw_of 478 (by decide +kernel) rfl
theorem cd_Lp_compile : Cond.code y_Lp_compile b_Lp_compile 4 (some .int) ∈ gw := gw_of 483 (by decide +kernel) rfl
theorem im_Lp_compile : Cond.instanceMethod y_Lp_compile ∈ gw := gw_of 481 (by decide +kernel) rfl
theorem se_Lp_compile : Cond.selects R_Lp y_Lp_compile y_Lp_compile ∈ gw := gw_of 482 (by decide +kernel) rfl
theorem cd_Ck_isWellFormed : Cond.code y_Ck_isWellFormed b_Ck_isWellFormed 3 (some .boolean) ∈ gw := gw_of 487 (by decide +kernel) rfl
theorem im_Ck_isWellFormed : Cond.instanceMethod y_Ck_isWellFormed ∈ gw := gw_of 485 (by decide +kernel) rfl
theorem se_Ck_isWellFormed : Cond.selects R_Ck y_Ck_isWellFormed y_Ck_isWellFormed ∈ gw := gw_of 486 (by decide +kernel) rfl
theorem cd_Tx_statementAt : Cond.code y_Tx_statementAt b_Tx_statementAt 2 (some .int) ∈ gw := gw_of 491 (by decide +kernel) rfl
theorem im_Tx_statementAt : Cond.instanceMethod y_Tx_statementAt ∈ gw := gw_of 489 (by decide +kernel) rfl
theorem se_Tx_statementAt : Cond.selects R_Tx y_Tx_statementAt y_Tx_statementAt ∈ gw := gw_of 490 (by decide +kernel) rfl
theorem cd_Tx_has : Cond.code y_Tx_has b_Tx_has 2 (some .boolean) ∈ gw := gw_of 495 (by decide +kernel) rfl
theorem im_Tx_has : Cond.instanceMethod y_Tx_has ∈ gw := gw_of 493 (by decide +kernel) rfl
theorem se_Tx_has : Cond.selects R_Tx y_Tx_has y_Tx_has ∈ gw := gw_of 494 (by decide +kernel) rfl
theorem cd_Ck_accepts : Cond.code y_Ck_accepts b_Ck_accepts 2 (some .boolean) ∈ gw := gw_of 499 (by decide +kernel) rfl
theorem im_Ck_accepts : Cond.instanceMethod y_Ck_accepts ∈ gw := gw_of 498 (by decide +kernel) rfl
theorem se_Ck_accepts : Cond.selects R_Ck y_Ck_accepts y_Ck_accepts ∈ gw := gw_of 2 (by decide +kernel) rfl
theorem cd_Ck_opensRow : Cond.code y_Ck_opensRow b_Ck_opensRow 2 (some .boolean) ∈ gw := gw_of 503 (by decide +kernel) rfl
theorem im_Ck_opensRow : Cond.instanceMethod y_Ck_opensRow ∈ gw := gw_of 502 (by decide +kernel) rfl
theorem se_Ck_opensRow : Cond.selects R_Ck y_Ck_opensRow y_Ck_opensRow ∈ gw := gw_of 3 (by decide +kernel) rfl
theorem cd_Ck_turnsToCatch : Cond.code y_Ck_turnsToCatch b_Ck_turnsToCatch 1 (some .boolean) ∈ gw := gw_of 507 (by decide +kernel) rfl
theorem im_Ck_turnsToCatch : Cond.instanceMethod y_Ck_turnsToCatch ∈ gw := gw_of 506 (by decide +kernel) rfl
theorem se_Ck_turnsToCatch : Cond.selects R_Ck y_Ck_turnsToCatch y_Ck_turnsToCatch ∈ gw := gw_of 4 (by decide +kernel) rfl
theorem cd_Ck_closesRow : Cond.code y_Ck_closesRow b_Ck_closesRow 1 (some .boolean) ∈ gw := gw_of 511 (by decide +kernel) rfl
theorem im_Ck_closesRow : Cond.instanceMethod y_Ck_closesRow ∈ gw := gw_of 510 (by decide +kernel) rfl
theorem se_Ck_closesRow : Cond.selects R_Ck y_Ck_closesRow y_Ck_closesRow ∈ gw := gw_of 5 (by decide +kernel) rfl
theorem cd_Ck_isInCatch : Cond.code y_Ck_isInCatch b_Ck_isInCatch 2 (some .boolean) ∈ gw := gw_of 515 (by decide +kernel) rfl
theorem im_Ck_isInCatch : Cond.instanceMethod y_Ck_isInCatch ∈ gw := gw_of 514 (by decide +kernel) rfl
theorem se_Ck_isInCatch : Cond.selects R_Ck y_Ck_isInCatch y_Ck_isInCatch ∈ gw := gw_of 6 (by decide +kernel) rfl
theorem cd_Co_translate : Cond.code y_Co_translate b_Co_translate 4 none ∈ gw := gw_of 520 (by decide +kernel) rfl
theorem im_Co_translate : Cond.instanceMethod y_Co_translate ∈ gw := gw_of 518 (by decide +kernel) rfl
theorem se_Co_translate : Cond.selects R_Co y_Co_translate y_Co_translate ∈ gw := gw_of 519 (by decide +kernel) rfl
theorem cd_Pr_clear : Cond.code y_Pr_clear b_Pr_clear 1 none ∈ gw := gw_of 524 (by decide +kernel) rfl
theorem im_Pr_clear : Cond.instanceMethod y_Pr_clear ∈ gw := gw_of 522 (by decide +kernel) rfl
theorem se_Pr_clear : Cond.selects R_Pr y_Pr_clear y_Pr_clear ∈ gw := gw_of 523 (by decide +kernel) rfl
theorem cd_Co_translateStatement : Cond.code y_Co_translateStatement b_Co_translateStatement 5 none ∈ gw := gw_of 528 (by decide +kernel) rfl
theorem im_Co_translateStatement : Cond.instanceMethod y_Co_translateStatement ∈ gw := gw_of 527 (by decide +kernel) rfl
theorem se_Co_translateStatement : Cond.selects R_Co y_Co_translateStatement y_Co_translateStatement ∈ gw := gw_of 7 (by decide +kernel) rfl
theorem cd_Tx_operandAt : Cond.code y_Tx_operandAt b_Tx_operandAt 2 (some .int) ∈ gw := gw_of 532 (by decide +kernel) rfl
theorem im_Tx_operandAt : Cond.instanceMethod y_Tx_operandAt ∈ gw := gw_of 530 (by decide +kernel) rfl
theorem se_Tx_operandAt : Cond.selects R_Tx y_Tx_operandAt y_Tx_operandAt ∈ gw := gw_of 531 (by decide +kernel) rfl
theorem cd_Pr_emit : Cond.code y_Pr_emit b_Pr_emit 3 none ∈ gw := gw_of 537 (by decide +kernel) rfl
theorem im_Pr_emit : Cond.instanceMethod y_Pr_emit ∈ gw := gw_of 535 (by decide +kernel) rfl
theorem se_Pr_emit : Cond.selects R_Pr y_Pr_emit y_Pr_emit ∈ gw := gw_of 536 (by decide +kernel) rfl
theorem cd_Co_currentHead : Cond.code y_Co_currentHead b_Co_currentHead 1 (some .int) ∈ gw := gw_of 541 (by decide +kernel) rfl
theorem im_Co_currentHead : Cond.instanceMethod y_Co_currentHead ∈ gw := gw_of 540 (by decide +kernel) rfl
theorem se_Co_currentHead : Cond.selects R_Co y_Co_currentHead y_Co_currentHead ∈ gw := gw_of 8 (by decide +kernel) rfl
theorem cd_Pr_emitAtSite : Cond.code y_Pr_emitAtSite b_Pr_emitAtSite 4 none ∈ gw := gw_of 545 (by decide +kernel) rfl
theorem im_Pr_emitAtSite : Cond.instanceMethod y_Pr_emitAtSite ∈ gw := gw_of 543 (by decide +kernel) rfl
theorem se_Pr_emitAtSite : Cond.selects R_Pr y_Pr_emitAtSite y_Pr_emitAtSite ∈ gw := gw_of 544 (by decide +kernel) rfl
theorem cd_Pr_makeAction : Cond.code y_Pr_makeAction b_Pr_makeAction 4 (some .int) ∈ gw := gw_of 550 (by decide +kernel) rfl
theorem im_Pr_makeAction : Cond.instanceMethod y_Pr_makeAction ∈ gw := gw_of 548 (by decide +kernel) rfl
theorem se_Pr_makeAction : Cond.selects R_Pr y_Pr_makeAction y_Pr_makeAction ∈ gw := gw_of 549 (by decide +kernel) rfl
theorem cd_Co_openBlock : Cond.code y_Co_openBlock b_Co_openBlock 4 none ∈ gw := gw_of 554 (by decide +kernel) rfl
theorem im_Co_openBlock : Cond.instanceMethod y_Co_openBlock ∈ gw := gw_of 553 (by decide +kernel) rfl
theorem se_Co_openBlock : Cond.selects R_Co y_Co_openBlock y_Co_openBlock ∈ gw := gw_of 9 (by decide +kernel) rfl
theorem cd_Bl_begin : Cond.code y_Bl_begin b_Bl_begin 5 none ∈ gw := gw_of 558 (by decide +kernel) rfl
theorem im_Bl_begin : Cond.instanceMethod y_Bl_begin ∈ gw := gw_of 556 (by decide +kernel) rfl
theorem se_Bl_begin : Cond.selects R_Bl y_Bl_begin y_Bl_begin ∈ gw := gw_of 557 (by decide +kernel) rfl
theorem cd_Co_makeCatchActions : Cond.code y_Co_makeCatchActions b_Co_makeCatchActions 8 (some .int) ∈ gw := gw_of 562 (by decide +kernel) rfl
theorem im_Co_makeCatchActions : Cond.instanceMethod y_Co_makeCatchActions ∈ gw := gw_of 561 (by decide +kernel) rfl
theorem se_Co_makeCatchActions : Cond.selects R_Co y_Co_makeCatchActions y_Co_makeCatchActions ∈ gw := gw_of 10 (by decide +kernel) rfl
theorem cd_Pr_chain : Cond.code y_Pr_chain b_Pr_chain 3 none ∈ gw := gw_of 566 (by decide +kernel) rfl
theorem im_Pr_chain : Cond.instanceMethod y_Pr_chain ∈ gw := gw_of 564 (by decide +kernel) rfl
theorem se_Pr_chain : Cond.selects R_Pr y_Pr_chain y_Pr_chain ∈ gw := gw_of 565 (by decide +kernel) rfl
theorem cd_Pr_hasAction : Cond.code y_Pr_hasAction b_Pr_hasAction 2 (some .boolean) ∈ gw := gw_of 570 (by decide +kernel) rfl
theorem im_Pr_hasAction : Cond.instanceMethod y_Pr_hasAction ∈ gw := gw_of 568 (by decide +kernel) rfl
theorem se_Pr_hasAction : Cond.selects R_Pr y_Pr_hasAction y_Pr_hasAction ∈ gw := gw_of 569 (by decide +kernel) rfl
theorem cd_Co_beginCatch : Cond.code y_Co_beginCatch b_Co_beginCatch 3 none ∈ gw := gw_of 574 (by decide +kernel) rfl
theorem im_Co_beginCatch : Cond.instanceMethod y_Co_beginCatch ∈ gw := gw_of 573 (by decide +kernel) rfl
theorem se_Co_beginCatch : Cond.selects R_Co y_Co_beginCatch y_Co_beginCatch ∈ gw := gw_of 11 (by decide +kernel) rfl
theorem cd_Co_emitExit : Cond.code y_Co_emitExit b_Co_emitExit 3 none ∈ gw := gw_of 578 (by decide +kernel) rfl
theorem im_Co_emitExit : Cond.instanceMethod y_Co_emitExit ∈ gw := gw_of 577 (by decide +kernel) rfl
theorem se_Co_emitExit : Cond.selects R_Co y_Co_emitExit y_Co_emitExit ∈ gw := gw_of 12 (by decide +kernel) rfl
theorem cd_Bl_noteExit : Cond.code y_Bl_noteExit b_Bl_noteExit 2 none ∈ gw := gw_of 582 (by decide +kernel) rfl
theorem im_Bl_noteExit : Cond.instanceMethod y_Bl_noteExit ∈ gw := gw_of 580 (by decide +kernel) rfl
theorem se_Bl_noteExit : Cond.selects R_Bl y_Bl_noteExit y_Bl_noteExit ∈ gw := gw_of 581 (by decide +kernel) rfl
theorem cd_Co_finishCatch : Cond.code y_Co_finishCatch b_Co_finishCatch 3 none ∈ gw := gw_of 586 (by decide +kernel) rfl
theorem im_Co_finishCatch : Cond.instanceMethod y_Co_finishCatch ∈ gw := gw_of 585 (by decide +kernel) rfl
theorem se_Co_finishCatch : Cond.selects R_Co y_Co_finishCatch y_Co_finishCatch ∈ gw := gw_of 13 (by decide +kernel) rfl
theorem cd_Pr_landHere : Cond.code y_Pr_landHere b_Pr_landHere 2 none ∈ gw := gw_of 590 (by decide +kernel) rfl
theorem im_Pr_landHere : Cond.instanceMethod y_Pr_landHere ∈ gw := gw_of 588 (by decide +kernel) rfl
theorem se_Pr_landHere : Cond.selects R_Pr y_Pr_landHere y_Pr_landHere ∈ gw := gw_of 589 (by decide +kernel) rfl
theorem cd_Co_closeBlock : Cond.code y_Co_closeBlock b_Co_closeBlock 3 none ∈ gw := gw_of 594 (by decide +kernel) rfl
theorem im_Co_closeBlock : Cond.instanceMethod y_Co_closeBlock ∈ gw := gw_of 593 (by decide +kernel) rfl
theorem se_Co_closeBlock : Cond.selects R_Co y_Co_closeBlock y_Co_closeBlock ∈ gw := gw_of 14 (by decide +kernel) rfl
theorem cd_Co_finishLocal : Cond.code y_Co_finishLocal b_Co_finishLocal 3 none ∈ gw := gw_of 598 (by decide +kernel) rfl
theorem im_Co_finishLocal : Cond.instanceMethod y_Co_finishLocal ∈ gw := gw_of 597 (by decide +kernel) rfl
theorem se_Co_finishLocal : Cond.selects R_Co y_Co_finishLocal y_Co_finishLocal ∈ gw := gw_of 15 (by decide +kernel) rfl
theorem cd_Bl_aimExits : Cond.code y_Bl_aimExits b_Bl_aimExits 3 none ∈ gw := gw_of 602 (by decide +kernel) rfl
theorem im_Bl_aimExits : Cond.instanceMethod y_Bl_aimExits ∈ gw := gw_of 600 (by decide +kernel) rfl
theorem se_Bl_aimExits : Cond.selects R_Bl y_Bl_aimExits y_Bl_aimExits ∈ gw := gw_of 601 (by decide +kernel) rfl
theorem cd_Pr_aim : Cond.code y_Pr_aim b_Pr_aim 3 none ∈ gw := gw_of 606 (by decide +kernel) rfl
theorem im_Pr_aim : Cond.instanceMethod y_Pr_aim ∈ gw := gw_of 604 (by decide +kernel) rfl
theorem se_Pr_aim : Cond.selects R_Pr y_Pr_aim y_Pr_aim ∈ gw := gw_of 605 (by decide +kernel) rfl
theorem cd_Pr_hasInstruction : Cond.code y_Pr_hasInstruction b_Pr_hasInstruction 2 (some .boolean) ∈ gw := gw_of 610 (by decide +kernel) rfl
theorem im_Pr_hasInstruction : Cond.instanceMethod y_Pr_hasInstruction ∈ gw := gw_of 608 (by decide +kernel) rfl
theorem se_Pr_hasInstruction : Cond.selects R_Pr y_Pr_hasInstruction y_Pr_hasInstruction ∈ gw := gw_of 609 (by decide +kernel) rfl
theorem sm_La_size : Cond.static y_La_size ∈ gw := gw_of 612 (by decide +kernel) rfl
theorem cd_Lp_size : Cond.code y_Lp_size b_Lp_size 4 (some .int) ∈ gw := gw_of 617 (by decide +kernel) rfl
theorem im_Lp_size : Cond.instanceMethod y_Lp_size ∈ gw := gw_of 615 (by decide +kernel) rfl
theorem se_Lp_size : Cond.selects R_Lp y_Lp_size y_Lp_size ∈ gw := gw_of 616 (by decide +kernel) rfl
theorem sm_La_code : Cond.static y_La_code ∈ gw := gw_of 620 (by decide +kernel) rfl
theorem cd_Lp_code : Cond.code y_Lp_code b_Lp_code 5 (some .int) ∈ gw := gw_of 626 (by decide +kernel) rfl
theorem im_Lp_code : Cond.instanceMethod y_Lp_code ∈ gw := gw_of 624 (by decide +kernel) rfl
theorem se_Lp_code : Cond.selects R_Lp y_Lp_code y_Lp_code ∈ gw := gw_of 625 (by decide +kernel) rfl
theorem cd_Pr_letterAt : Cond.code y_Pr_letterAt b_Pr_letterAt 2 (some .int) ∈ gw := gw_of 647 (by decide +kernel) rfl
theorem im_Pr_letterAt : Cond.instanceMethod y_Pr_letterAt ∈ gw := gw_of 645 (by decide +kernel) rfl
theorem se_Pr_letterAt : Cond.selects R_Pr y_Pr_letterAt y_Pr_letterAt ∈ gw := gw_of 646 (by decide +kernel) rfl
theorem cd_Pr_valueAt : Cond.code y_Pr_valueAt b_Pr_valueAt 2 (some .int) ∈ gw := gw_of 651 (by decide +kernel) rfl
theorem im_Pr_valueAt : Cond.instanceMethod y_Pr_valueAt ∈ gw := gw_of 649 (by decide +kernel) rfl
theorem se_Pr_valueAt : Cond.selects R_Pr y_Pr_valueAt y_Pr_valueAt ∈ gw := gw_of 650 (by decide +kernel) rfl
theorem sm_La_action : Cond.static y_La_action ∈ gw := gw_of 654 (by decide +kernel) rfl
theorem cd_Lp_action : Cond.code y_Lp_action b_Lp_action 5 (some .int) ∈ gw := gw_of 659 (by decide +kernel) rfl
theorem im_Lp_action : Cond.instanceMethod y_Lp_action ∈ gw := gw_of 657 (by decide +kernel) rfl
theorem se_Lp_action : Cond.selects R_Lp y_Lp_action y_Lp_action ∈ gw := gw_of 658 (by decide +kernel) rfl
theorem cd_Pr_filterOf : Cond.code y_Pr_filterOf b_Pr_filterOf 2 (some .int) ∈ gw := gw_of 665 (by decide +kernel) rfl
theorem im_Pr_filterOf : Cond.instanceMethod y_Pr_filterOf ∈ gw := gw_of 663 (by decide +kernel) rfl
theorem se_Pr_filterOf : Cond.selects R_Pr y_Pr_filterOf y_Pr_filterOf ∈ gw := gw_of 664 (by decide +kernel) rfl
theorem cd_Pr_landingOf : Cond.code y_Pr_landingOf b_Pr_landingOf 2 (some .int) ∈ gw := gw_of 669 (by decide +kernel) rfl
theorem im_Pr_landingOf : Cond.instanceMethod y_Pr_landingOf ∈ gw := gw_of 667 (by decide +kernel) rfl
theorem se_Pr_landingOf : Cond.selects R_Pr y_Pr_landingOf y_Pr_landingOf ∈ gw := gw_of 668 (by decide +kernel) rfl
theorem cd_Pr_nextOf : Cond.code y_Pr_nextOf b_Pr_nextOf 2 (some .int) ∈ gw := gw_of 673 (by decide +kernel) rfl
theorem im_Pr_nextOf : Cond.instanceMethod y_Pr_nextOf ∈ gw := gw_of 671 (by decide +kernel) rfl
theorem se_Pr_nextOf : Cond.selects R_Pr y_Pr_nextOf y_Pr_nextOf ∈ gw := gw_of 672 (by decide +kernel) rfl
theorem sm_La_site : Cond.static y_La_site ∈ gw := gw_of 676 (by decide +kernel) rfl
theorem cd_Lp_site : Cond.code y_Lp_site b_Lp_site 5 (some .int) ∈ gw := gw_of 681 (by decide +kernel) rfl
theorem im_Lp_site : Cond.instanceMethod y_Lp_site ∈ gw := gw_of 679 (by decide +kernel) rfl
theorem se_Lp_site : Cond.selects R_Lp y_Lp_site y_Lp_site ∈ gw := gw_of 680 (by decide +kernel) rfl
theorem cd_Pr_hasSite : Cond.code y_Pr_hasSite b_Pr_hasSite 2 (some .boolean) ∈ gw := gw_of 685 (by decide +kernel) rfl
theorem im_Pr_hasSite : Cond.instanceMethod y_Pr_hasSite ∈ gw := gw_of 683 (by decide +kernel) rfl
theorem se_Pr_hasSite : Cond.selects R_Pr y_Pr_hasSite y_Pr_hasSite ∈ gw := gw_of 684 (by decide +kernel) rfl
theorem cd_Pr_firstPlaceOf : Cond.code y_Pr_firstPlaceOf b_Pr_firstPlaceOf 2 (some .int) ∈ gw := gw_of 690 (by decide +kernel) rfl
theorem im_Pr_firstPlaceOf : Cond.instanceMethod y_Pr_firstPlaceOf ∈ gw := gw_of 688 (by decide +kernel) rfl
theorem se_Pr_firstPlaceOf : Cond.selects R_Pr y_Pr_firstPlaceOf y_Pr_firstPlaceOf ∈ gw := gw_of 689 (by decide +kernel) rfl
theorem cd_Pr_lastPlaceOf : Cond.code y_Pr_lastPlaceOf b_Pr_lastPlaceOf 2 (some .int) ∈ gw := gw_of 695 (by decide +kernel) rfl
theorem im_Pr_lastPlaceOf : Cond.instanceMethod y_Pr_lastPlaceOf ∈ gw := gw_of 693 (by decide +kernel) rfl
theorem se_Pr_lastPlaceOf : Cond.selects R_Pr y_Pr_lastPlaceOf y_Pr_lastPlaceOf ∈ gw := gw_of 694 (by decide +kernel) rfl
theorem cd_Pr_siteHeadOf : Cond.code y_Pr_siteHeadOf b_Pr_siteHeadOf 2 (some .int) ∈ gw := gw_of 699 (by decide +kernel) rfl
theorem im_Pr_siteHeadOf : Cond.instanceMethod y_Pr_siteHeadOf ∈ gw := gw_of 697 (by decide +kernel) rfl
theorem se_Pr_siteHeadOf : Cond.selects R_Pr y_Pr_siteHeadOf y_Pr_siteHeadOf ∈ gw := gw_of 698 (by decide +kernel) rfl
theorem sm_La_run : Cond.static y_La_run ∈ gw := gw_of 702 (by decide +kernel) rfl
theorem cd_Lp_run : Cond.code y_Lp_run b_Lp_run 2 (some .int) ∈ gw := gw_of 707 (by decide +kernel) rfl
theorem im_Lp_run : Cond.instanceMethod y_Lp_run ∈ gw := gw_of 705 (by decide +kernel) rfl
theorem se_Lp_run : Cond.selects R_Lp y_Lp_run y_Lp_run ∈ gw := gw_of 706 (by decide +kernel) rfl
theorem cd_Pr_isMade : Cond.code y_Pr_isMade b_Pr_isMade 1 (some .boolean) ∈ gw := gw_of 711 (by decide +kernel) rfl
theorem im_Pr_isMade : Cond.instanceMethod y_Pr_isMade ∈ gw := gw_of 709 (by decide +kernel) rfl
theorem se_Pr_isMade : Cond.selects R_Pr y_Pr_isMade y_Pr_isMade ∈ gw := gw_of 710 (by decide +kernel) rfl
theorem cd_Ma_execute : Cond.code y_Ma_execute b_Ma_execute 3 (some .int) ∈ gw := gw_of 716 (by decide +kernel) rfl
theorem im_Ma_execute : Cond.instanceMethod y_Ma_execute ∈ gw := gw_of 714 (by decide +kernel) rfl
theorem se_Ma_execute : Cond.selects R_Ma y_Ma_execute y_Ma_execute ∈ gw := gw_of 715 (by decide +kernel) rfl
theorem cd_Ta_clear : Cond.code y_Ta_clear b_Ta_clear 1 none ∈ gw := gw_of 720 (by decide +kernel) rfl
theorem im_Ta_clear : Cond.instanceMethod y_Ta_clear ∈ gw := gw_of 718 (by decide +kernel) rfl
theorem se_Ta_clear : Cond.selects R_Ta y_Ta_clear y_Ta_clear ∈ gw := gw_of 719 (by decide +kernel) rfl
theorem cd_Ma_enter : Cond.code y_Ma_enter b_Ma_enter 2 (some .int) ∈ gw := gw_of 724 (by decide +kernel) rfl
theorem im_Ma_enter : Cond.instanceMethod y_Ma_enter ∈ gw := gw_of 723 (by decide +kernel) rfl
theorem se_Ma_enter : Cond.selects R_Ma y_Ma_enter y_Ma_enter ∈ gw := gw_of 16 (by decide +kernel) rfl
theorem cd_Fr_begin : Cond.code y_Fr_begin b_Fr_begin 2 none ∈ gw := gw_of 730 (by decide +kernel) rfl
theorem im_Fr_begin : Cond.instanceMethod y_Fr_begin ∈ gw := gw_of 728 (by decide +kernel) rfl
theorem se_Fr_begin : Cond.selects R_Fr y_Fr_begin y_Fr_begin ∈ gw := gw_of 729 (by decide +kernel) rfl
theorem cd_Ma_top : Cond.code y_Ma_top b_Ma_top 1 (some (.object "LandingPads$Frame")) ∈ gw := gw_of 737 (by decide +kernel) rfl
theorem im_Ma_top : Cond.instanceMethod y_Ma_top ∈ gw := gw_of 736 (by decide +kernel) rfl
theorem se_Ma_top : Cond.selects R_Ma y_Ma_top y_Ma_top ∈ gw := gw_of 17 (by decide +kernel) rfl
theorem cd_Ma_step : Cond.code y_Ma_step b_Ma_step 5 (some .int) ∈ gw := gw_of 741 (by decide +kernel) rfl
theorem im_Ma_step : Cond.instanceMethod y_Ma_step ∈ gw := gw_of 740 (by decide +kernel) rfl
theorem se_Ma_step : Cond.selects R_Ma y_Ma_step y_Ma_step ∈ gw := gw_of 18 (by decide +kernel) rfl
theorem cd_Ma_print : Cond.code y_Ma_print b_Ma_print 2 (some .int) ∈ gw := gw_of 747 (by decide +kernel) rfl
theorem im_Ma_print : Cond.instanceMethod y_Ma_print ∈ gw := gw_of 746 (by decide +kernel) rfl
theorem se_Ma_print : Cond.selects R_Ma y_Ma_print y_Ma_print ∈ gw := gw_of 19 (by decide +kernel) rfl
theorem cd_Ta_isFull : Cond.code y_Ta_isFull b_Ta_isFull 1 (some .boolean) ∈ gw := gw_of 751 (by decide +kernel) rfl
theorem im_Ta_isFull : Cond.instanceMethod y_Ta_isFull ∈ gw := gw_of 749 (by decide +kernel) rfl
theorem se_Ta_isFull : Cond.selects R_Ta y_Ta_isFull y_Ta_isFull ∈ gw := gw_of 750 (by decide +kernel) rfl
theorem cd_Ta_put : Cond.code y_Ta_put b_Ta_put 2 none ∈ gw := gw_of 755 (by decide +kernel) rfl
theorem im_Ta_put : Cond.instanceMethod y_Ta_put ∈ gw := gw_of 753 (by decide +kernel) rfl
theorem se_Ta_put : Cond.selects R_Ta y_Ta_put y_Ta_put ∈ gw := gw_of 754 (by decide +kernel) rfl
theorem cd_Ma_raise : Cond.code y_Ma_raise b_Ma_raise 2 (some .int) ∈ gw := gw_of 760 (by decide +kernel) rfl
theorem im_Ma_raise : Cond.instanceMethod y_Ma_raise ∈ gw := gw_of 759 (by decide +kernel) rfl
theorem se_Ma_raise : Cond.selects R_Ma y_Ma_raise y_Ma_raise ∈ gw := gw_of 20 (by decide +kernel) rfl
theorem cd_Ma_findHandler : Cond.code y_Ma_findHandler b_Ma_findHandler 5 (some .boolean) ∈ gw := gw_of 764 (by decide +kernel) rfl
theorem im_Ma_findHandler : Cond.instanceMethod y_Ma_findHandler ∈ gw := gw_of 763 (by decide +kernel) rfl
theorem se_Ma_findHandler : Cond.selects R_Ma y_Ma_findHandler y_Ma_findHandler ∈ gw := gw_of 21 (by decide +kernel) rfl
theorem cd_Ma_headOf : Cond.code y_Ma_headOf b_Ma_headOf 2 (some .int) ∈ gw := gw_of 768 (by decide +kernel) rfl
theorem im_Ma_headOf : Cond.instanceMethod y_Ma_headOf ∈ gw := gw_of 767 (by decide +kernel) rfl
theorem se_Ma_headOf : Cond.selects R_Ma y_Ma_headOf y_Ma_headOf ∈ gw := gw_of 22 (by decide +kernel) rfl
theorem cd_Fr_currentPlace : Cond.code y_Fr_currentPlace b_Fr_currentPlace 1 (some .int) ∈ gw := gw_of 772 (by decide +kernel) rfl
theorem im_Fr_currentPlace : Cond.instanceMethod y_Fr_currentPlace ∈ gw := gw_of 770 (by decide +kernel) rfl
theorem se_Fr_currentPlace : Cond.selects R_Fr y_Fr_currentPlace y_Fr_currentPlace ∈ gw := gw_of 771 (by decide +kernel) rfl
theorem cd_Pr_headAround : Cond.code y_Pr_headAround b_Pr_headAround 3 (some .int) ∈ gw := gw_of 776 (by decide +kernel) rfl
theorem im_Pr_headAround : Cond.instanceMethod y_Pr_headAround ∈ gw := gw_of 774 (by decide +kernel) rfl
theorem se_Pr_headAround : Cond.selects R_Pr y_Pr_headAround y_Pr_headAround ∈ gw := gw_of 775 (by decide +kernel) rfl
theorem cd_Ma_firstCatching : Cond.code y_Ma_firstCatching b_Ma_firstCatching 8 (some .int) ∈ gw := gw_of 780 (by decide +kernel) rfl
theorem im_Ma_firstCatching : Cond.instanceMethod y_Ma_firstCatching ∈ gw := gw_of 779 (by decide +kernel) rfl
theorem se_Ma_firstCatching : Cond.selects R_Ma y_Ma_firstCatching y_Ma_firstCatching ∈ gw := gw_of 23 (by decide +kernel) rfl
theorem cd_Ty_isAnother : Cond.code y_Ty_isAnother b_Ty_isAnother 5 (some .boolean) ∈ gw := gw_of 786 (by decide +kernel) rfl
theorem im_Ty_isAnother : Cond.instanceMethod y_Ty_isAnother ∈ gw := gw_of 784 (by decide +kernel) rfl
theorem se_Ty_isAnother : Cond.selects R_Ty y_Ty_isAnother y_Ty_isAnother ∈ gw := gw_of 785 (by decide +kernel) rfl
theorem cd_Ma_unwind : Cond.code y_Ma_unwind b_Ma_unwind 3 (some .int) ∈ gw := gw_of 792 (by decide +kernel) rfl
theorem im_Ma_unwind : Cond.instanceMethod y_Ma_unwind ∈ gw := gw_of 791 (by decide +kernel) rfl
theorem se_Ma_unwind : Cond.selects R_Ma y_Ma_unwind y_Ma_unwind ∈ gw := gw_of 24 (by decide +kernel) rfl
theorem cd_Ma_firstLanding : Cond.code y_Ma_firstLanding b_Ma_firstLanding 5 (some .int) ∈ gw := gw_of 796 (by decide +kernel) rfl
theorem im_Ma_firstLanding : Cond.instanceMethod y_Ma_firstLanding ∈ gw := gw_of 795 (by decide +kernel) rfl
theorem se_Ma_firstLanding : Cond.selects R_Ma y_Ma_firstLanding y_Ma_firstLanding ∈ gw := gw_of 25 (by decide +kernel) rfl
theorem cd_Ma_isHandler : Cond.code y_Ma_isHandler b_Ma_isHandler 2 (some .boolean) ∈ gw := gw_of 800 (by decide +kernel) rfl
theorem im_Ma_isHandler : Cond.instanceMethod y_Ma_isHandler ∈ gw := gw_of 799 (by decide +kernel) rfl
theorem se_Ma_isHandler : Cond.selects R_Ma y_Ma_isHandler y_Ma_isHandler ∈ gw := gw_of 26 (by decide +kernel) rfl
theorem cd_Ma_land : Cond.code y_Ma_land b_Ma_land 3 (some .int) ∈ gw := gw_of 804 (by decide +kernel) rfl
theorem im_Ma_land : Cond.instanceMethod y_Ma_land ∈ gw := gw_of 803 (by decide +kernel) rfl
theorem se_Ma_land : Cond.selects R_Ma y_Ma_land y_Ma_land ∈ gw := gw_of 27 (by decide +kernel) rfl
theorem cd_Fr_pushCaught : Cond.code y_Fr_pushCaught b_Fr_pushCaught 2 none ∈ gw := gw_of 808 (by decide +kernel) rfl
theorem im_Fr_pushCaught : Cond.instanceMethod y_Fr_pushCaught ∈ gw := gw_of 806 (by decide +kernel) rfl
theorem se_Fr_pushCaught : Cond.selects R_Fr y_Fr_pushCaught y_Fr_pushCaught ∈ gw := gw_of 807 (by decide +kernel) rfl
theorem cd_Ma_jump : Cond.code y_Ma_jump b_Ma_jump 3 (some .int) ∈ gw := gw_of 813 (by decide +kernel) rfl
theorem im_Ma_jump : Cond.instanceMethod y_Ma_jump ∈ gw := gw_of 812 (by decide +kernel) rfl
theorem se_Ma_jump : Cond.selects R_Ma y_Ma_jump y_Ma_jump ∈ gw := gw_of 28 (by decide +kernel) rfl
theorem cd_Fr_latestCaught : Cond.code y_Fr_latestCaught b_Fr_latestCaught 1 (some .int) ∈ gw := gw_of 817 (by decide +kernel) rfl
theorem im_Fr_latestCaught : Cond.instanceMethod y_Fr_latestCaught ∈ gw := gw_of 815 (by decide +kernel) rfl
theorem se_Fr_latestCaught : Cond.selects R_Fr y_Fr_latestCaught y_Fr_latestCaught ∈ gw := gw_of 816 (by decide +kernel) rfl
theorem cd_Ma_clean : Cond.code y_Ma_clean b_Ma_clean 3 (some .int) ∈ gw := gw_of 821 (by decide +kernel) rfl
theorem im_Ma_clean : Cond.instanceMethod y_Ma_clean ∈ gw := gw_of 820 (by decide +kernel) rfl
theorem se_Ma_clean : Cond.selects R_Ma y_Ma_clean y_Ma_clean ∈ gw := gw_of 29 (by decide +kernel) rfl
theorem cd_Ma_endCatch : Cond.code y_Ma_endCatch b_Ma_endCatch 2 (some .int) ∈ gw := gw_of 825 (by decide +kernel) rfl
theorem im_Ma_endCatch : Cond.instanceMethod y_Ma_endCatch ∈ gw := gw_of 824 (by decide +kernel) rfl
theorem se_Ma_endCatch : Cond.selects R_Ma y_Ma_endCatch y_Ma_endCatch ∈ gw := gw_of 30 (by decide +kernel) rfl
theorem cd_Fr_dropCaught : Cond.code y_Fr_dropCaught b_Fr_dropCaught 1 none ∈ gw := gw_of 829 (by decide +kernel) rfl
theorem im_Fr_dropCaught : Cond.instanceMethod y_Fr_dropCaught ∈ gw := gw_of 827 (by decide +kernel) rfl
theorem se_Fr_dropCaught : Cond.selects R_Fr y_Fr_dropCaught y_Fr_dropCaught ∈ gw := gw_of 828 (by decide +kernel) rfl
theorem cd_Ma_leave : Cond.code y_Ma_leave b_Ma_leave 1 (some .int) ∈ gw := gw_of 833 (by decide +kernel) rfl
theorem im_Ma_leave : Cond.instanceMethod y_Ma_leave ∈ gw := gw_of 832 (by decide +kernel) rfl
theorem se_Ma_leave : Cond.selects R_Ma y_Ma_leave y_Ma_leave ∈ gw := gw_of 31 (by decide +kernel) rfl
theorem sm_La_count : Cond.static y_La_count ∈ gw := gw_of 835 (by decide +kernel) rfl
theorem cd_Lp_count : Cond.code y_Lp_count b_Lp_count 3 (some .int) ∈ gw := gw_of 840 (by decide +kernel) rfl
theorem im_Lp_count : Cond.instanceMethod y_Lp_count ∈ gw := gw_of 838 (by decide +kernel) rfl
theorem se_Lp_count : Cond.selects R_Lp y_Lp_count y_Lp_count ∈ gw := gw_of 839 (by decide +kernel) rfl
theorem sm_La_out : Cond.static y_La_out ∈ gw := gw_of 842 (by decide +kernel) rfl
theorem cd_Lp_out : Cond.code y_Lp_out b_Lp_out 2 (some .int) ∈ gw := gw_of 847 (by decide +kernel) rfl
theorem im_Lp_out : Cond.instanceMethod y_Lp_out ∈ gw := gw_of 845 (by decide +kernel) rfl
theorem se_Lp_out : Cond.selects R_Lp y_Lp_out y_Lp_out ∈ gw := gw_of 846 (by decide +kernel) rfl
theorem cd_Ta_hasNumber : Cond.code y_Ta_hasNumber b_Ta_hasNumber 2 (some .boolean) ∈ gw := gw_of 851 (by decide +kernel) rfl
theorem im_Ta_hasNumber : Cond.instanceMethod y_Ta_hasNumber ∈ gw := gw_of 849 (by decide +kernel) rfl
theorem se_Ta_hasNumber : Cond.selects R_Ta y_Ta_hasNumber y_Ta_hasNumber ∈ gw := gw_of 850 (by decide +kernel) rfl
theorem cd_Ta_numberAt : Cond.code y_Ta_numberAt b_Ta_numberAt 2 (some .int) ∈ gw := gw_of 856 (by decide +kernel) rfl
theorem im_Ta_numberAt : Cond.instanceMethod y_Ta_numberAt ∈ gw := gw_of 854 (by decide +kernel) rfl
theorem se_Ta_numberAt : Cond.selects R_Ta y_Ta_numberAt y_Ta_numberAt ∈ gw := gw_of 855 (by decide +kernel) rfl
theorem cd_Mo_init : Cond.code y_Mo_init b_Mo_init 1 none ∈ gw := gw_of 862 (by decide +kernel) rfl
theorem im_Mo_init : Cond.instanceMethod y_Mo_init ∈ gw := gw_of 861 (by decide +kernel) rfl
theorem cd_Mo_thrown : Cond.code y_Mo_thrown b_Mo_thrown 1 (some .int) ∈ gw := gw_of 982 (by decide +kernel) rfl
theorem im_Mo_thrown : Cond.instanceMethod y_Mo_thrown ∈ gw := gw_of 980 (by decide +kernel) rfl
theorem se_Mo_thrown : Cond.selects R_Mo y_Mo_thrown y_Mo_thrown ∈ gw := gw_of 981 (by decide +kernel) rfl
theorem cd_Mo_type : Cond.code y_Mo_type b_Mo_type 2 (some .int) ∈ gw := gw_of 986 (by decide +kernel) rfl
theorem im_Mo_type : Cond.instanceMethod y_Mo_type ∈ gw := gw_of 984 (by decide +kernel) rfl
theorem se_Mo_type : Cond.selects R_Mo y_Mo_type y_Mo_type ∈ gw := gw_of 985 (by decide +kernel) rfl
theorem cd_Mo_outside : Cond.code y_Mo_outside b_Mo_outside 3 (some .boolean) ∈ gw := gw_of 989 (by decide +kernel) rfl
theorem sm_Mo_outside : Cond.static y_Mo_outside ∈ gw := gw_of 988 (by decide +kernel) rfl
theorem cd_Mo_fails : Cond.code y_Mo_fails b_Mo_fails 3 (some .boolean) ∈ gw := gw_of 993 (by decide +kernel) rfl
theorem im_Mo_fails : Cond.instanceMethod y_Mo_fails ∈ gw := gw_of 992 (by decide +kernel) rfl
theorem se_Mo_fails : Cond.selects R_Mo y_Mo_fails y_Mo_fails ∈ gw := gw_of 32 (by decide +kernel) rfl
theorem cd_Mo_add : Cond.code y_Mo_add b_Mo_add 5 (some .int) ∈ gw := gw_of 997 (by decide +kernel) rfl
theorem im_Mo_add : Cond.instanceMethod y_Mo_add ∈ gw := gw_of 995 (by decide +kernel) rfl
theorem se_Mo_add : Cond.selects R_Mo y_Mo_add y_Mo_add ∈ gw := gw_of 996 (by decide +kernel) rfl
theorem cd_Mo_fits : Cond.code y_Mo_fits b_Mo_fits 3 (some .boolean) ∈ gw := gw_of 1001 (by decide +kernel) rfl
theorem im_Mo_fits : Cond.instanceMethod y_Mo_fits ∈ gw := gw_of 1000 (by decide +kernel) rfl
theorem se_Mo_fits : Cond.selects R_Mo y_Mo_fits y_Mo_fits ∈ gw := gw_of 33 (by decide +kernel) rfl
theorem cd_Mo_wipe : Cond.code y_Mo_wipe b_Mo_wipe 2 none ∈ gw := gw_of 1005 (by decide +kernel) rfl
theorem im_Mo_wipe : Cond.instanceMethod y_Mo_wipe ∈ gw := gw_of 1003 (by decide +kernel) rfl
theorem se_Mo_wipe : Cond.selects R_Mo y_Mo_wipe y_Mo_wipe ∈ gw := gw_of 1004 (by decide +kernel) rfl
theorem cd_Mo_compile : Cond.code y_Mo_compile b_Mo_compile 6 (some .int) ∈ gw := gw_of 1009 (by decide +kernel) rfl
theorem im_Mo_compile : Cond.instanceMethod y_Mo_compile ∈ gw := gw_of 1007 (by decide +kernel) rfl
theorem se_Mo_compile : Cond.selects R_Mo y_Mo_compile y_Mo_compile ∈ gw := gw_of 1008 (by decide +kernel) rfl
theorem cd_Mo_wellFormed : Cond.code y_Mo_wellFormed b_Mo_wellFormed 3 (some .boolean) ∈ gw := gw_of 1013 (by decide +kernel) rfl
theorem im_Mo_wellFormed : Cond.instanceMethod y_Mo_wellFormed ∈ gw := gw_of 1012 (by decide +kernel) rfl
theorem se_Mo_wellFormed : Cond.selects R_Mo y_Mo_wellFormed y_Mo_wellFormed ∈ gw := gw_of 34 (by decide +kernel) rfl
theorem cd_Mo_mayStand : Cond.code y_Mo_mayStand b_Mo_mayStand 2 (some .boolean) ∈ gw := gw_of 1017 (by decide +kernel) rfl
theorem im_Mo_mayStand : Cond.instanceMethod y_Mo_mayStand ∈ gw := gw_of 1016 (by decide +kernel) rfl
theorem se_Mo_mayStand : Cond.selects R_Mo y_Mo_mayStand y_Mo_mayStand ∈ gw := gw_of 35 (by decide +kernel) rfl
theorem cd_Mo_inCatch : Cond.code y_Mo_inCatch b_Mo_inCatch 3 (some .boolean) ∈ gw := gw_of 1021 (by decide +kernel) rfl
theorem im_Mo_inCatch : Cond.instanceMethod y_Mo_inCatch ∈ gw := gw_of 1020 (by decide +kernel) rfl
theorem se_Mo_inCatch : Cond.selects R_Mo y_Mo_inCatch y_Mo_inCatch ∈ gw := gw_of 36 (by decide +kernel) rfl
theorem cd_Mo_emit : Cond.code y_Mo_emit b_Mo_emit 5 none ∈ gw := gw_of 1025 (by decide +kernel) rfl
theorem im_Mo_emit : Cond.instanceMethod y_Mo_emit ∈ gw := gw_of 1024 (by decide +kernel) rfl
theorem se_Mo_emit : Cond.selects R_Mo y_Mo_emit y_Mo_emit ∈ gw := gw_of 37 (by decide +kernel) rfl
theorem cd_Mo_newAction : Cond.code y_Mo_newAction b_Mo_newAction 5 (some .int) ∈ gw := gw_of 1029 (by decide +kernel) rfl
theorem im_Mo_newAction : Cond.instanceMethod y_Mo_newAction ∈ gw := gw_of 1028 (by decide +kernel) rfl
theorem se_Mo_newAction : Cond.selects R_Mo y_Mo_newAction y_Mo_newAction ∈ gw := gw_of 38 (by decide +kernel) rfl
theorem cd_Mo_opens : Cond.code y_Mo_opens b_Mo_opens 3 none ∈ gw := gw_of 1033 (by decide +kernel) rfl
theorem im_Mo_opens : Cond.instanceMethod y_Mo_opens ∈ gw := gw_of 1032 (by decide +kernel) rfl
theorem se_Mo_opens : Cond.selects R_Mo y_Mo_opens y_Mo_opens ∈ gw := gw_of 39 (by decide +kernel) rfl
theorem cd_Mo_tries : Cond.code y_Mo_tries b_Mo_tries 7 none ∈ gw := gw_of 1037 (by decide +kernel) rfl
theorem im_Mo_tries : Cond.instanceMethod y_Mo_tries ∈ gw := gw_of 1036 (by decide +kernel) rfl
theorem se_Mo_tries : Cond.selects R_Mo y_Mo_tries y_Mo_tries ∈ gw := gw_of 40 (by decide +kernel) rfl
theorem cd_Mo_catches : Cond.code y_Mo_catches b_Mo_catches 2 none ∈ gw := gw_of 1041 (by decide +kernel) rfl
theorem im_Mo_catches : Cond.instanceMethod y_Mo_catches ∈ gw := gw_of 1040 (by decide +kernel) rfl
theorem se_Mo_catches : Cond.selects R_Mo y_Mo_catches y_Mo_catches ∈ gw := gw_of 41 (by decide +kernel) rfl
theorem cd_Mo_caughtRowEnds : Cond.code y_Mo_caughtRowEnds b_Mo_caughtRowEnds 2 none ∈ gw := gw_of 1045 (by decide +kernel) rfl
theorem im_Mo_caughtRowEnds : Cond.instanceMethod y_Mo_caughtRowEnds ∈ gw := gw_of 1044 (by decide +kernel) rfl
theorem se_Mo_caughtRowEnds : Cond.selects R_Mo y_Mo_caughtRowEnds y_Mo_caughtRowEnds ∈ gw := gw_of 42 (by decide +kernel) rfl
theorem cd_Mo_lands : Cond.code y_Mo_lands b_Mo_lands 3 none ∈ gw := gw_of 1049 (by decide +kernel) rfl
theorem im_Mo_lands : Cond.instanceMethod y_Mo_lands ∈ gw := gw_of 1048 (by decide +kernel) rfl
theorem se_Mo_lands : Cond.selects R_Mo y_Mo_lands y_Mo_lands ∈ gw := gw_of 43 (by decide +kernel) rfl
theorem cd_Mo_ends : Cond.code y_Mo_ends b_Mo_ends 2 none ∈ gw := gw_of 1053 (by decide +kernel) rfl
theorem im_Mo_ends : Cond.instanceMethod y_Mo_ends ∈ gw := gw_of 1052 (by decide +kernel) rfl
theorem se_Mo_ends : Cond.selects R_Mo y_Mo_ends y_Mo_ends ∈ gw := gw_of 44 (by decide +kernel) rfl
theorem cd_Mo_closes : Cond.code y_Mo_closes b_Mo_closes 4 none ∈ gw := gw_of 1057 (by decide +kernel) rfl
theorem im_Mo_closes : Cond.instanceMethod y_Mo_closes ∈ gw := gw_of 1056 (by decide +kernel) rfl
theorem se_Mo_closes : Cond.selects R_Mo y_Mo_closes y_Mo_closes ∈ gw := gw_of 45 (by decide +kernel) rfl
theorem cd_Mo_collectSites : Cond.code y_Mo_collectSites b_Mo_collectSites 5 none ∈ gw := gw_of 1061 (by decide +kernel) rfl
theorem im_Mo_collectSites : Cond.instanceMethod y_Mo_collectSites ∈ gw := gw_of 1060 (by decide +kernel) rfl
theorem se_Mo_collectSites : Cond.selects R_Mo y_Mo_collectSites y_Mo_collectSites ∈ gw := gw_of 46 (by decide +kernel) rfl
theorem cd_Mo_size : Cond.code y_Mo_size b_Mo_size 3 (some .int) ∈ gw := gw_of 1065 (by decide +kernel) rfl
theorem im_Mo_size : Cond.instanceMethod y_Mo_size ∈ gw := gw_of 1063 (by decide +kernel) rfl
theorem se_Mo_size : Cond.selects R_Mo y_Mo_size y_Mo_size ∈ gw := gw_of 1064 (by decide +kernel) rfl
theorem cd_Mo_code : Cond.code y_Mo_code b_Mo_code 5 (some .int) ∈ gw := gw_of 1069 (by decide +kernel) rfl
theorem im_Mo_code : Cond.instanceMethod y_Mo_code ∈ gw := gw_of 1067 (by decide +kernel) rfl
theorem se_Mo_code : Cond.selects R_Mo y_Mo_code y_Mo_code ∈ gw := gw_of 1068 (by decide +kernel) rfl
theorem cd_Mo_action : Cond.code y_Mo_action b_Mo_action 6 (some .int) ∈ gw := gw_of 1073 (by decide +kernel) rfl
theorem im_Mo_action : Cond.instanceMethod y_Mo_action ∈ gw := gw_of 1071 (by decide +kernel) rfl
theorem se_Mo_action : Cond.selects R_Mo y_Mo_action y_Mo_action ∈ gw := gw_of 1072 (by decide +kernel) rfl
theorem cd_Mo_site : Cond.code y_Mo_site b_Mo_site 6 (some .int) ∈ gw := gw_of 1077 (by decide +kernel) rfl
theorem im_Mo_site : Cond.instanceMethod y_Mo_site ∈ gw := gw_of 1075 (by decide +kernel) rfl
theorem se_Mo_site : Cond.selects R_Mo y_Mo_site y_Mo_site ∈ gw := gw_of 1076 (by decide +kernel) rfl
theorem cd_Mo_run : Cond.code y_Mo_run b_Mo_run 4 (some .int) ∈ gw := gw_of 1081 (by decide +kernel) rfl
theorem im_Mo_run : Cond.instanceMethod y_Mo_run ∈ gw := gw_of 1079 (by decide +kernel) rfl
theorem se_Mo_run : Cond.selects R_Mo y_Mo_run y_Mo_run ∈ gw := gw_of 1080 (by decide +kernel) rfl
theorem cd_Mo_enters : Cond.code y_Mo_enters b_Mo_enters 2 none ∈ gw := gw_of 1085 (by decide +kernel) rfl
theorem im_Mo_enters : Cond.instanceMethod y_Mo_enters ∈ gw := gw_of 1084 (by decide +kernel) rfl
theorem se_Mo_enters : Cond.selects R_Mo y_Mo_enters y_Mo_enters ∈ gw := gw_of 47 (by decide +kernel) rfl
theorem cd_Mo_step : Cond.code y_Mo_step b_Mo_step 4 none ∈ gw := gw_of 1089 (by decide +kernel) rfl
theorem im_Mo_step : Cond.instanceMethod y_Mo_step ∈ gw := gw_of 1088 (by decide +kernel) rfl
theorem se_Mo_step : Cond.selects R_Mo y_Mo_step y_Mo_step ∈ gw := gw_of 48 (by decide +kernel) rfl
theorem cd_Mo_puts : Cond.code y_Mo_puts b_Mo_puts 2 none ∈ gw := gw_of 1093 (by decide +kernel) rfl
theorem im_Mo_puts : Cond.instanceMethod y_Mo_puts ∈ gw := gw_of 1092 (by decide +kernel) rfl
theorem se_Mo_puts : Cond.selects R_Mo y_Mo_puts y_Mo_puts ∈ gw := gw_of 49 (by decide +kernel) rfl
theorem cd_Mo_calls : Cond.code y_Mo_calls b_Mo_calls 2 none ∈ gw := gw_of 1097 (by decide +kernel) rfl
theorem im_Mo_calls : Cond.instanceMethod y_Mo_calls ∈ gw := gw_of 1096 (by decide +kernel) rfl
theorem se_Mo_calls : Cond.selects R_Mo y_Mo_calls y_Mo_calls ∈ gw := gw_of 50 (by decide +kernel) rfl
theorem cd_Mo_raises : Cond.code y_Mo_raises b_Mo_raises 2 none ∈ gw := gw_of 1101 (by decide +kernel) rfl
theorem im_Mo_raises : Cond.instanceMethod y_Mo_raises ∈ gw := gw_of 1100 (by decide +kernel) rfl
theorem se_Mo_raises : Cond.selects R_Mo y_Mo_raises y_Mo_raises ∈ gw := gw_of 51 (by decide +kernel) rfl
theorem cd_Mo_searches : Cond.code y_Mo_searches b_Mo_searches 5 (some .boolean) ∈ gw := gw_of 1105 (by decide +kernel) rfl
theorem im_Mo_searches : Cond.instanceMethod y_Mo_searches ∈ gw := gw_of 1104 (by decide +kernel) rfl
theorem se_Mo_searches : Cond.selects R_Mo y_Mo_searches y_Mo_searches ∈ gw := gw_of 52 (by decide +kernel) rfl
theorem cd_Mo_headAt : Cond.code y_Mo_headAt b_Mo_headAt 6 (some .int) ∈ gw := gw_of 1109 (by decide +kernel) rfl
theorem im_Mo_headAt : Cond.instanceMethod y_Mo_headAt ∈ gw := gw_of 1108 (by decide +kernel) rfl
theorem se_Mo_headAt : Cond.selects R_Mo y_Mo_headAt y_Mo_headAt ∈ gw := gw_of 53 (by decide +kernel) rfl
theorem cd_Mo_isAnother : Cond.code y_Mo_isAnother b_Mo_isAnother 4 (some .boolean) ∈ gw := gw_of 1113 (by decide +kernel) rfl
theorem im_Mo_isAnother : Cond.instanceMethod y_Mo_isAnother ∈ gw := gw_of 1112 (by decide +kernel) rfl
theorem se_Mo_isAnother : Cond.selects R_Mo y_Mo_isAnother y_Mo_isAnother ∈ gw := gw_of 54 (by decide +kernel) rfl
theorem cd_Mo_unwinds : Cond.code y_Mo_unwinds b_Mo_unwinds 6 none ∈ gw := gw_of 1117 (by decide +kernel) rfl
theorem im_Mo_unwinds : Cond.instanceMethod y_Mo_unwinds ∈ gw := gw_of 1116 (by decide +kernel) rfl
theorem se_Mo_unwinds : Cond.selects R_Mo y_Mo_unwinds y_Mo_unwinds ∈ gw := gw_of 55 (by decide +kernel) rfl
theorem cd_Mo_count : Cond.code y_Mo_count b_Mo_count 2 (some .int) ∈ gw := gw_of 1121 (by decide +kernel) rfl
theorem im_Mo_count : Cond.instanceMethod y_Mo_count ∈ gw := gw_of 1119 (by decide +kernel) rfl
theorem se_Mo_count : Cond.selects R_Mo y_Mo_count y_Mo_count ∈ gw := gw_of 1120 (by decide +kernel) rfl
theorem cd_Mo_out : Cond.code y_Mo_out b_Mo_out 2 (some .int) ∈ gw := gw_of 1125 (by decide +kernel) rfl
theorem im_Mo_out : Cond.instanceMethod y_Mo_out ∈ gw := gw_of 1123 (by decide +kernel) rfl
theorem se_Mo_out : Cond.selects R_Mo y_Mo_out y_Mo_out ∈ gw := gw_of 1124 (by decide +kernel) rfl
theorem in_Lp : Cond.initialized R_Lp ∈ gw := gw_of 57 (by decide +kernel) rfl
theorem in_Bl : Cond.initialized R_Bl ∈ gw := gw_of 61 (by decide +kernel) rfl
theorem in_Ck : Cond.initialized R_Ck ∈ gw := gw_of 59 (by decide +kernel) rfl
theorem in_Co : Cond.initialized R_Co ∈ gw := gw_of 60 (by decide +kernel) rfl
theorem in_Fr : Cond.initialized R_Fr ∈ gw := gw_of 66 (by decide +kernel) rfl
theorem in_Ma : Cond.initialized R_Ma ∈ gw := gw_of 62 (by decide +kernel) rfl
theorem in_Pr : Cond.initialized R_Pr ∈ gw := gw_of 65 (by decide +kernel) rfl
theorem in_Ta : Cond.initialized R_Ta ∈ gw := gw_of 64 (by decide +kernel) rfl
theorem in_Tx : Cond.initialized R_Tx ∈ gw := gw_of 58 (by decide +kernel) rfl
theorem in_Ty : Cond.initialized R_Ty ∈ gw := gw_of 63 (by decide +kernel) rfl
theorem in_Mo : Cond.initialized R_Mo ∈ gw := gw_of 67 (by decide +kernel) rfl
theorem in_La : Cond.initialized R_La ∈ gw := gw_of 56 (by decide +kernel) rfl
theorem ml_La_52 : Cond.methodLink R_La 52 y_Lp_init ∈ gw := gw_of 77 (by decide +kernel) rfl
theorem ml_Lp_15 : Cond.methodLink R_Lp 15 y_Tx_init ∈ gw := gw_of 86 (by decide +kernel) rfl
theorem ml_Lp_18 : Cond.methodLink R_Lp 18 y_Ck_init ∈ gw := gw_of 106 (by decide +kernel) rfl
theorem ml_Lp_25 : Cond.methodLink R_Lp 25 y_Co_init ∈ gw := gw_of 119 (by decide +kernel) rfl
theorem ml_Co_17 : Cond.methodLink R_Co 17 y_Bl_init ∈ gw := gw_of 126 (by decide +kernel) rfl
theorem ml_Lp_32 : Cond.methodLink R_Lp 32 y_Ma_init ∈ gw := gw_of 166 (by decide +kernel) rfl
theorem ml_Ma_11 : Cond.methodLink R_Ma 11 y_Ty_init ∈ gw := gw_of 172 (by decide +kernel) rfl
theorem ml_Ma_20 : Cond.methodLink R_Ma 20 y_Ta_init ∈ gw := gw_of 185 (by decide +kernel) rfl
theorem ml_Ma_31 : Cond.methodLink R_Ma 31 y_Pr_init ∈ gw := gw_of 225 (by decide +kernel) rfl
theorem ml_Ma_38 : Cond.methodLink R_Ma 38 y_Fr_init ∈ gw := gw_of 272 (by decide +kernel) rfl
theorem ml_La_56 : Cond.methodLink R_La 56 y_La_type ∈ gw := gw_of 335 (by decide +kernel) rfl
theorem ml_La_7 : Cond.methodLink R_La 7 y_Lp_type ∈ gw := gw_of 340 (by decide +kernel) rfl
theorem ml_Lp_41 : Cond.methodLink R_Lp 41 y_Ty_has ∈ gw := gw_of 344 (by decide +kernel) rfl
theorem ml_Lp_54 : Cond.methodLink R_Lp 54 y_Ty_isFull ∈ gw := gw_of 416 (by decide +kernel) rfl
theorem ml_Lp_63 : Cond.methodLink R_Lp 63 y_Ty_make ∈ gw := gw_of 436 (by decide +kernel) rfl
theorem ml_Ty_19 : Cond.methodLink R_Ty 19 y_Ty_isFull ∈ gw := gw_of 440 (by decide +kernel) rfl
theorem ml_La_66 : Cond.methodLink R_La 66 y_La_add ∈ gw := gw_of 441 (by decide +kernel) rfl
theorem ml_La_17 : Cond.methodLink R_La 17 y_Lp_add ∈ gw := gw_of 444 (by decide +kernel) rfl
theorem ml_Lp_67 : Cond.methodLink R_Lp 67 y_Lp_requireFunction ∈ gw := gw_of 448 (by decide +kernel) rfl
theorem ml_Lp_115 : Cond.methodLink R_Lp 115 y_Lp_isFunction ∈ gw := gw_of 451 (by decide +kernel) rfl
theorem ml_Lp_71 : Cond.methodLink R_Lp 71 y_Lp_isAllowed ∈ gw := gw_of 455 (by decide +kernel) rfl
theorem ml_Lp_77 : Cond.methodLink R_Lp 77 y_Tx_isFull ∈ gw := gw_of 460 (by decide +kernel) rfl
theorem ml_Lp_80 : Cond.methodLink R_Lp 80 y_Tx_append ∈ gw := gw_of 465 (by decide +kernel) rfl
theorem ml_Tx_22 : Cond.methodLink R_Tx 22 y_Tx_isFull ∈ gw := gw_of 469 (by decide +kernel) rfl
theorem ml_La_70 : Cond.methodLink R_La 70 y_La_wipe ∈ gw := gw_of 470 (by decide +kernel) rfl
theorem ml_La_21 : Cond.methodLink R_La 21 y_Lp_wipe ∈ gw := gw_of 473 (by decide +kernel) rfl
theorem ml_La_74 : Cond.methodLink R_La 74 y_La_compile ∈ gw := gw_of 477 (by decide +kernel) rfl
theorem ml_La_25 : Cond.methodLink R_La 25 y_Lp_compile ∈ gw := gw_of 480 (by decide +kernel) rfl
theorem ml_Lp_88 : Cond.methodLink R_Lp 88 y_Ck_isWellFormed ∈ gw := gw_of 484 (by decide +kernel) rfl
theorem ml_Ck_24 : Cond.methodLink R_Ck 24 y_Tx_statementAt ∈ gw := gw_of 488 (by decide +kernel) rfl
theorem ml_Tx_26 : Cond.methodLink R_Tx 26 y_Tx_has ∈ gw := gw_of 492 (by decide +kernel) rfl
theorem ml_Ck_28 : Cond.methodLink R_Ck 28 y_Ck_accepts ∈ gw := gw_of 496 (by decide +kernel) rfl
theorem ml_Ck_32 : Cond.methodLink R_Ck 32 y_Ck_opensRow ∈ gw := gw_of 500 (by decide +kernel) rfl
theorem ml_Ck_35 : Cond.methodLink R_Ck 35 y_Ck_turnsToCatch ∈ gw := gw_of 504 (by decide +kernel) rfl
theorem ml_Ck_39 : Cond.methodLink R_Ck 39 y_Ck_closesRow ∈ gw := gw_of 508 (by decide +kernel) rfl
theorem ml_Ck_42 : Cond.methodLink R_Ck 42 y_Ck_isInCatch ∈ gw := gw_of 512 (by decide +kernel) rfl
theorem ml_Lp_98 : Cond.methodLink R_Lp 98 y_Co_translate ∈ gw := gw_of 517 (by decide +kernel) rfl
theorem ml_Co_18 : Cond.methodLink R_Co 18 y_Pr_clear ∈ gw := gw_of 521 (by decide +kernel) rfl
theorem ml_Co_32 : Cond.methodLink R_Co 32 y_Co_translateStatement ∈ gw := gw_of 525 (by decide +kernel) rfl
theorem ml_Co_40 : Cond.methodLink R_Co 40 y_Tx_operandAt ∈ gw := gw_of 529 (by decide +kernel) rfl
theorem ml_Co_44 : Cond.methodLink R_Co 44 y_Tx_statementAt ∈ gw := gw_of 533 (by decide +kernel) rfl
theorem ml_Co_36 : Cond.methodLink R_Co 36 y_Pr_emit ∈ gw := gw_of 534 (by decide +kernel) rfl
theorem ml_Co_47 : Cond.methodLink R_Co 47 y_Co_currentHead ∈ gw := gw_of 538 (by decide +kernel) rfl
theorem ml_Co_51 : Cond.methodLink R_Co 51 y_Pr_emitAtSite ∈ gw := gw_of 542 (by decide +kernel) rfl
theorem ml_Pr_56 : Cond.methodLink R_Pr 56 y_Pr_emit ∈ gw := gw_of 546 (by decide +kernel) rfl
theorem ml_Co_55 : Cond.methodLink R_Co 55 y_Pr_makeAction ∈ gw := gw_of 547 (by decide +kernel) rfl
theorem ml_Co_59 : Cond.methodLink R_Co 59 y_Co_openBlock ∈ gw := gw_of 551 (by decide +kernel) rfl
theorem ml_Co_76 : Cond.methodLink R_Co 76 y_Bl_begin ∈ gw := gw_of 555 (by decide +kernel) rfl
theorem ml_Co_62 : Cond.methodLink R_Co 62 y_Co_makeCatchActions ∈ gw := gw_of 559 (by decide +kernel) rfl
theorem ml_Co_83 : Cond.methodLink R_Co 83 y_Pr_chain ∈ gw := gw_of 563 (by decide +kernel) rfl
theorem ml_Pr_50 : Cond.methodLink R_Pr 50 y_Pr_hasAction ∈ gw := gw_of 567 (by decide +kernel) rfl
theorem ml_Co_66 : Cond.methodLink R_Co 66 y_Co_beginCatch ∈ gw := gw_of 571 (by decide +kernel) rfl
theorem ml_Co_89 : Cond.methodLink R_Co 89 y_Co_emitExit ∈ gw := gw_of 575 (by decide +kernel) rfl
theorem ml_Co_118 : Cond.methodLink R_Co 118 y_Bl_noteExit ∈ gw := gw_of 579 (by decide +kernel) rfl
theorem ml_Co_93 : Cond.methodLink R_Co 93 y_Co_finishCatch ∈ gw := gw_of 583 (by decide +kernel) rfl
theorem ml_Co_99 : Cond.methodLink R_Co 99 y_Pr_landHere ∈ gw := gw_of 587 (by decide +kernel) rfl
theorem ml_Co_70 : Cond.methodLink R_Co 70 y_Co_closeBlock ∈ gw := gw_of 591 (by decide +kernel) rfl
theorem ml_Co_106 : Cond.methodLink R_Co 106 y_Co_finishLocal ∈ gw := gw_of 595 (by decide +kernel) rfl
theorem ml_Co_109 : Cond.methodLink R_Co 109 y_Bl_aimExits ∈ gw := gw_of 599 (by decide +kernel) rfl
theorem ml_Bl_39 : Cond.methodLink R_Bl 39 y_Pr_aim ∈ gw := gw_of 603 (by decide +kernel) rfl
theorem ml_Pr_46 : Cond.methodLink R_Pr 46 y_Pr_hasInstruction ∈ gw := gw_of 607 (by decide +kernel) rfl
theorem ml_La_77 : Cond.methodLink R_La 77 y_La_size ∈ gw := gw_of 611 (by decide +kernel) rfl
theorem ml_La_28 : Cond.methodLink R_La 28 y_Lp_size ∈ gw := gw_of 614 (by decide +kernel) rfl
theorem ml_La_81 : Cond.methodLink R_La 81 y_La_code ∈ gw := gw_of 619 (by decide +kernel) rfl
theorem ml_La_32 : Cond.methodLink R_La 32 y_Lp_code ∈ gw := gw_of 623 (by decide +kernel) rfl
theorem ml_Lp_118 : Cond.methodLink R_Lp 118 y_Pr_hasInstruction ∈ gw := gw_of 627 (by decide +kernel) rfl
theorem ml_Lp_126 : Cond.methodLink R_Lp 126 y_Pr_letterAt ∈ gw := gw_of 644 (by decide +kernel) rfl
theorem ml_Lp_129 : Cond.methodLink R_Lp 129 y_Pr_valueAt ∈ gw := gw_of 648 (by decide +kernel) rfl
theorem ml_La_84 : Cond.methodLink R_La 84 y_La_action ∈ gw := gw_of 653 (by decide +kernel) rfl
theorem ml_La_37 : Cond.methodLink R_La 37 y_Lp_action ∈ gw := gw_of 656 (by decide +kernel) rfl
theorem ml_Lp_134 : Cond.methodLink R_Lp 134 y_Pr_hasAction ∈ gw := gw_of 660 (by decide +kernel) rfl
theorem ml_Lp_139 : Cond.methodLink R_Lp 139 y_Pr_filterOf ∈ gw := gw_of 662 (by decide +kernel) rfl
theorem ml_Lp_142 : Cond.methodLink R_Lp 142 y_Pr_landingOf ∈ gw := gw_of 666 (by decide +kernel) rfl
theorem ml_Lp_145 : Cond.methodLink R_Lp 145 y_Pr_nextOf ∈ gw := gw_of 670 (by decide +kernel) rfl
theorem ml_La_87 : Cond.methodLink R_La 87 y_La_site ∈ gw := gw_of 675 (by decide +kernel) rfl
theorem ml_La_40 : Cond.methodLink R_La 40 y_Lp_site ∈ gw := gw_of 678 (by decide +kernel) rfl
theorem ml_Lp_150 : Cond.methodLink R_Lp 150 y_Pr_hasSite ∈ gw := gw_of 682 (by decide +kernel) rfl
theorem ml_Lp_155 : Cond.methodLink R_Lp 155 y_Pr_firstPlaceOf ∈ gw := gw_of 687 (by decide +kernel) rfl
theorem ml_Pr_53 : Cond.methodLink R_Pr 53 y_Pr_hasSite ∈ gw := gw_of 691 (by decide +kernel) rfl
theorem ml_Lp_158 : Cond.methodLink R_Lp 158 y_Pr_lastPlaceOf ∈ gw := gw_of 692 (by decide +kernel) rfl
theorem ml_Lp_161 : Cond.methodLink R_Lp 161 y_Pr_siteHeadOf ∈ gw := gw_of 696 (by decide +kernel) rfl
theorem ml_La_90 : Cond.methodLink R_La 90 y_La_run ∈ gw := gw_of 701 (by decide +kernel) rfl
theorem ml_La_43 : Cond.methodLink R_La 43 y_Lp_run ∈ gw := gw_of 704 (by decide +kernel) rfl
theorem ml_Lp_166 : Cond.methodLink R_Lp 166 y_Pr_isMade ∈ gw := gw_of 708 (by decide +kernel) rfl
theorem ml_Lp_171 : Cond.methodLink R_Lp 171 y_Ma_execute ∈ gw := gw_of 713 (by decide +kernel) rfl
theorem ml_Ma_39 : Cond.methodLink R_Ma 39 y_Ta_clear ∈ gw := gw_of 717 (by decide +kernel) rfl
theorem ml_Ma_46 : Cond.methodLink R_Ma 46 y_Ma_enter ∈ gw := gw_of 721 (by decide +kernel) rfl
theorem mn_Ma_119 : Cond.methodLinkNest R_Ma 119 y_Lp_isFunction "LandingPads" ∈ nw := nw_of 669 (by decide +kernel) rfl
theorem ml_Ma_123 : Cond.methodLink R_Ma 123 y_Pr_isMade ∈ gw := gw_of 726 (by decide +kernel) rfl
theorem ml_Ma_126 : Cond.methodLink R_Ma 126 y_Fr_begin ∈ gw := gw_of 727 (by decide +kernel) rfl
theorem ml_Ma_53 : Cond.methodLink R_Ma 53 y_Ma_top ∈ gw := gw_of 734 (by decide +kernel) rfl
theorem ml_Ma_57 : Cond.methodLink R_Ma 57 y_Ma_step ∈ gw := gw_of 738 (by decide +kernel) rfl
theorem ml_Ma_67 : Cond.methodLink R_Ma 67 y_Pr_letterAt ∈ gw := gw_of 742 (by decide +kernel) rfl
theorem ml_Ma_70 : Cond.methodLink R_Ma 70 y_Pr_valueAt ∈ gw := gw_of 743 (by decide +kernel) rfl
theorem ml_Ma_73 : Cond.methodLink R_Ma 73 y_Ma_print ∈ gw := gw_of 744 (by decide +kernel) rfl
theorem ml_Ma_105 : Cond.methodLink R_Ma 105 y_Ta_isFull ∈ gw := gw_of 748 (by decide +kernel) rfl
theorem ml_Ma_109 : Cond.methodLink R_Ma 109 y_Ta_put ∈ gw := gw_of 752 (by decide +kernel) rfl
theorem ml_Ta_34 : Cond.methodLink R_Ta 34 y_Ta_isFull ∈ gw := gw_of 756 (by decide +kernel) rfl
theorem ml_Ma_76 : Cond.methodLink R_Ma 76 y_Ma_raise ∈ gw := gw_of 757 (by decide +kernel) rfl
theorem ml_Ma_138 : Cond.methodLink R_Ma 138 y_Ma_findHandler ∈ gw := gw_of 761 (by decide +kernel) rfl
theorem ml_Ma_150 : Cond.methodLink R_Ma 150 y_Ma_headOf ∈ gw := gw_of 765 (by decide +kernel) rfl
theorem ml_Ma_153 : Cond.methodLink R_Ma 153 y_Fr_currentPlace ∈ gw := gw_of 769 (by decide +kernel) rfl
theorem ml_Ma_156 : Cond.methodLink R_Ma 156 y_Pr_headAround ∈ gw := gw_of 773 (by decide +kernel) rfl
theorem ml_Ma_159 : Cond.methodLink R_Ma 159 y_Ma_firstCatching ∈ gw := gw_of 777 (by decide +kernel) rfl
theorem ml_Ma_169 : Cond.methodLink R_Ma 169 y_Pr_hasAction ∈ gw := gw_of 781 (by decide +kernel) rfl
theorem ml_Ma_172 : Cond.methodLink R_Ma 172 y_Pr_filterOf ∈ gw := gw_of 782 (by decide +kernel) rfl
theorem ml_Ma_175 : Cond.methodLink R_Ma 175 y_Ty_isAnother ∈ gw := gw_of 783 (by decide +kernel) rfl
theorem ml_Ty_23 : Cond.methodLink R_Ty 23 y_Ty_has ∈ gw := gw_of 787 (by decide +kernel) rfl
theorem ml_Ma_96 : Cond.methodLink R_Ma 96 y_Pr_nextOf ∈ gw := gw_of 788 (by decide +kernel) rfl
theorem ml_Ma_99 : Cond.methodLink R_Ma 99 y_Ma_unwind ∈ gw := gw_of 789 (by decide +kernel) rfl
theorem ml_Ma_179 : Cond.methodLink R_Ma 179 y_Ma_firstLanding ∈ gw := gw_of 793 (by decide +kernel) rfl
theorem ml_Ma_185 : Cond.methodLink R_Ma 185 y_Ma_isHandler ∈ gw := gw_of 797 (by decide +kernel) rfl
theorem ml_Ma_182 : Cond.methodLink R_Ma 182 y_Ma_land ∈ gw := gw_of 801 (by decide +kernel) rfl
theorem ml_Ma_188 : Cond.methodLink R_Ma 188 y_Fr_pushCaught ∈ gw := gw_of 805 (by decide +kernel) rfl
theorem ml_Ma_191 : Cond.methodLink R_Ma 191 y_Pr_landingOf ∈ gw := gw_of 809 (by decide +kernel) rfl
theorem ml_Ma_83 : Cond.methodLink R_Ma 83 y_Ma_jump ∈ gw := gw_of 810 (by decide +kernel) rfl
theorem ml_Ma_79 : Cond.methodLink R_Ma 79 y_Fr_latestCaught ∈ gw := gw_of 814 (by decide +kernel) rfl
theorem ml_Ma_87 : Cond.methodLink R_Ma 87 y_Ma_clean ∈ gw := gw_of 818 (by decide +kernel) rfl
theorem ml_Ma_90 : Cond.methodLink R_Ma 90 y_Ma_endCatch ∈ gw := gw_of 822 (by decide +kernel) rfl
theorem ml_Ma_116 : Cond.methodLink R_Ma 116 y_Fr_dropCaught ∈ gw := gw_of 826 (by decide +kernel) rfl
theorem ml_Ma_102 : Cond.methodLink R_Ma 102 y_Ma_leave ∈ gw := gw_of 830 (by decide +kernel) rfl
theorem ml_La_93 : Cond.methodLink R_La 93 y_La_count ∈ gw := gw_of 834 (by decide +kernel) rfl
theorem ml_La_46 : Cond.methodLink R_La 46 y_Lp_count ∈ gw := gw_of 837 (by decide +kernel) rfl
theorem ml_La_96 : Cond.methodLink R_La 96 y_La_out ∈ gw := gw_of 841 (by decide +kernel) rfl
theorem ml_La_49 : Cond.methodLink R_La 49 y_Lp_out ∈ gw := gw_of 844 (by decide +kernel) rfl
theorem ml_Lp_198 : Cond.methodLink R_Lp 198 y_Ta_hasNumber ∈ gw := gw_of 848 (by decide +kernel) rfl
theorem ml_Lp_203 : Cond.methodLink R_Lp 203 y_Ta_numberAt ∈ gw := gw_of 853 (by decide +kernel) rfl
theorem ml_Ta_38 : Cond.methodLink R_Ta 38 y_Ta_hasNumber ∈ gw := gw_of 857 (by decide +kernel) rfl
theorem ml_La_55 : Cond.methodLink R_La 55 y_Mo_init ∈ gw := gw_of 860 (by decide +kernel) rfl
theorem ml_La_62 : Cond.methodLink R_La 62 y_Mo_thrown ∈ gw := gw_of 979 (by decide +kernel) rfl
theorem ml_La_61 : Cond.methodLink R_La 61 y_Mo_type ∈ gw := gw_of 983 (by decide +kernel) rfl
theorem ml_Mo_104 : Cond.methodLink R_Mo 104 y_Mo_outside ∈ gw := gw_of 987 (by decide +kernel) rfl
theorem ml_Mo_108 : Cond.methodLink R_Mo 108 y_Mo_fails ∈ gw := gw_of 990 (by decide +kernel) rfl
theorem ml_La_69 : Cond.methodLink R_La 69 y_Mo_add ∈ gw := gw_of 994 (by decide +kernel) rfl
theorem ml_Mo_112 : Cond.methodLink R_Mo 112 y_Mo_fits ∈ gw := gw_of 998 (by decide +kernel) rfl
theorem ml_La_73 : Cond.methodLink R_La 73 y_Mo_wipe ∈ gw := gw_of 1002 (by decide +kernel) rfl
theorem ml_La_76 : Cond.methodLink R_La 76 y_Mo_compile ∈ gw := gw_of 1006 (by decide +kernel) rfl
theorem ml_Mo_149 : Cond.methodLink R_Mo 149 y_Mo_wellFormed ∈ gw := gw_of 1010 (by decide +kernel) rfl
theorem ml_Mo_123 : Cond.methodLink R_Mo 123 y_Mo_mayStand ∈ gw := gw_of 1014 (by decide +kernel) rfl
theorem ml_Mo_119 : Cond.methodLink R_Mo 119 y_Mo_inCatch ∈ gw := gw_of 1018 (by decide +kernel) rfl
theorem ml_Mo_135 : Cond.methodLink R_Mo 135 y_Mo_emit ∈ gw := gw_of 1022 (by decide +kernel) rfl
theorem ml_Mo_127 : Cond.methodLink R_Mo 127 y_Mo_newAction ∈ gw := gw_of 1026 (by decide +kernel) rfl
theorem ml_Mo_131 : Cond.methodLink R_Mo 131 y_Mo_opens ∈ gw := gw_of 1030 (by decide +kernel) rfl
theorem ml_Mo_152 : Cond.methodLink R_Mo 152 y_Mo_tries ∈ gw := gw_of 1034 (by decide +kernel) rfl
theorem ml_Mo_155 : Cond.methodLink R_Mo 155 y_Mo_catches ∈ gw := gw_of 1038 (by decide +kernel) rfl
theorem ml_Mo_142 : Cond.methodLink R_Mo 142 y_Mo_caughtRowEnds ∈ gw := gw_of 1042 (by decide +kernel) rfl
theorem ml_Mo_139 : Cond.methodLink R_Mo 139 y_Mo_lands ∈ gw := gw_of 1046 (by decide +kernel) rfl
theorem ml_Mo_158 : Cond.methodLink R_Mo 158 y_Mo_ends ∈ gw := gw_of 1050 (by decide +kernel) rfl
theorem ml_Mo_146 : Cond.methodLink R_Mo 146 y_Mo_closes ∈ gw := gw_of 1054 (by decide +kernel) rfl
theorem ml_Mo_161 : Cond.methodLink R_Mo 161 y_Mo_collectSites ∈ gw := gw_of 1058 (by decide +kernel) rfl
theorem ml_La_80 : Cond.methodLink R_La 80 y_Mo_size ∈ gw := gw_of 1062 (by decide +kernel) rfl
theorem ml_La_83 : Cond.methodLink R_La 83 y_Mo_code ∈ gw := gw_of 1066 (by decide +kernel) rfl
theorem ml_La_86 : Cond.methodLink R_La 86 y_Mo_action ∈ gw := gw_of 1070 (by decide +kernel) rfl
theorem ml_La_89 : Cond.methodLink R_La 89 y_Mo_site ∈ gw := gw_of 1074 (by decide +kernel) rfl
theorem ml_La_92 : Cond.methodLink R_La 92 y_Mo_run ∈ gw := gw_of 1078 (by decide +kernel) rfl
theorem ml_Mo_195 : Cond.methodLink R_Mo 195 y_Mo_enters ∈ gw := gw_of 1082 (by decide +kernel) rfl
theorem ml_Mo_207 : Cond.methodLink R_Mo 207 y_Mo_step ∈ gw := gw_of 1086 (by decide +kernel) rfl
theorem ml_Mo_198 : Cond.methodLink R_Mo 198 y_Mo_puts ∈ gw := gw_of 1090 (by decide +kernel) rfl
theorem ml_Mo_201 : Cond.methodLink R_Mo 201 y_Mo_calls ∈ gw := gw_of 1094 (by decide +kernel) rfl
theorem ml_Mo_204 : Cond.methodLink R_Mo 204 y_Mo_raises ∈ gw := gw_of 1098 (by decide +kernel) rfl
theorem ml_Mo_186 : Cond.methodLink R_Mo 186 y_Mo_searches ∈ gw := gw_of 1102 (by decide +kernel) rfl
theorem ml_Mo_167 : Cond.methodLink R_Mo 167 y_Mo_headAt ∈ gw := gw_of 1106 (by decide +kernel) rfl
theorem ml_Mo_174 : Cond.methodLink R_Mo 174 y_Mo_isAnother ∈ gw := gw_of 1110 (by decide +kernel) rfl
theorem ml_Mo_192 : Cond.methodLink R_Mo 192 y_Mo_unwinds ∈ gw := gw_of 1114 (by decide +kernel) rfl
theorem ml_La_95 : Cond.methodLink R_La 95 y_Mo_count ∈ gw := gw_of 1118 (by decide +kernel) rfl
theorem ml_La_98 : Cond.methodLink R_La 98 y_Mo_out ∈ gw := gw_of 1122 (by decide +kernel) rfl
end
section
/-! CONTRACTS over a function world that the method keeps in its places -/
/-- the cells of a world -/
def rg (n : Nat) (ad : Nat → Nat) : Nat → Prop := fun q => ∃ k, k < n ∧ q = ad k
def TW (D : va_G) (aC : Nat → ClassId) (n : Nat) (ad : Nat → Nat) (w : Nat → va_E) (U : State) : Prop :=
  va_P D classes (fw n ad w) U.heap ∧ va_K D classes (tyl aC) U ∧ fD (fun _ => True) n ad ∧ ∀ z ∈ nw, va_Nw z U
def Qk (D : va_G) (aC : Nat → ClassId) (n : Nat) (ad : Nat → Nat) (o : Option Value) (w' : Nat → va_E) : Array Value → State → Outcome → State → Prop := fun _ st oc t => oc = .returned o ∧ TW D aC n ad w' t ∧ va_F (rg n ad) st t
/-- THE CONTRACT: with the arguments av, from the world w, the method returns o, and the world is w' -/
def Ok (l : Launch) (y : MethodName) (b : ByteArray) (mL : Nat) (ret : Option FieldType) (rm : Room) (D : va_G) (aC : Nat → ClassId) (n : Nat) (ad : Nat → Nat) (av : List Value) (w : Nat → va_E) (o : Option Value) (w' : Nat → va_E) : Prop :=
  Met l y (.code y b mL ret :: gw) rm (va_Pc av (TW D aC n ad w)) (Qk D aC n ad o w') 0 0 (rg n ad)
/-- frames f, words of locals k, no cells -/
abbrev rom (f k : Nat) : Room := { frames := f, cells := 0, slots := 0, locals := k }
theorem TW.blind {D : va_G} {aC : Nat → ClassId} {n : Nat} {ad : Nat → Nat} {w : Nat → va_E} {av : List Value} : FrameBlind (va_Pc av (TW D aC n ad w)) := by
  intro a U g mk q
  obtain ⟨q0, qP, qK, qD, qN⟩ := q
  exact ⟨q0, qP, va_K.moved (u := U) (U := U.calling g mk a) (Vm.Alike.refl U.vm) qK, qD, nw_same (s := U) (U := U.calling g mk a) rfl qN⟩
section CT
variable {p : Program} {l : Launch} {e : Env} {R : Room} {s : State} {m : MethodId} {args : Array Value} {below : List Frame} {meth : Method} {c : Code} {D : va_G} {A : Nat → Prop} {cells slots : Nat} {Q : State → Prop} {n : Nat} {ad : Nat → Nat} {w w' : Nat → va_E} {nL : Nat}
variable {cc : ByteArray} {own : String} {aC : Nat → ClassId} {pc : Nat} {lv : List (Nat × Value)} {st : List Value} {o : Option Value}
theorem ok_start {y : MethodName} {b : ByteArray} {mL : Nat} {ret : Option FieldType} {rm : Room} {av : List Value} (hy : plainName y.cls = true) (hlen : (lg_sl av).length ≤ mL) (hcat : (av.all fun v => Nat.beq v.category 1) = true)
    (body : ∀ (p : Program) (e : Env) (s : State) (m : MethodId) (args : Array Value) (below : List Frame) (meth : Method) (c : Code), Cx p s m c args b y.cls D aC (rg n ad) n ad → meth.sig.returnType = ret → meth.locks = false → c.maxLocals = mL →
      J p l e rm s m args below meth c D (rg n ad) 0 0 (MQ below (Qk D aC n ad o w') args s 0 0 (rg n ad)) n ad w mL 0 (lv_args 0 av) []) : Ok l y b mL ret rm D aC n ad av w o w' := by
  refine Met.ofW (cc := b) (maxL := mL) (ret := ret) hy rfl ?_
  intro p e s m args below meth c s₁ B hml hv
  obtain ⟨rfl, hP, hK, hD, hN⟩ := hv
  have hts := atoms_spec (ws := .code y b mL ret :: gw) B.pre
  have hown : s.vm.findClass y.cls = some m.cls := findClass_of_methodNamed B.named
  rw [lg_entry_eq]
  exact body p e s m _ below meth c ⟨B.exec, B.bytes, hown, fun z hz => hts z (List.mem_cons_of_mem _ hz), hN, hK, ⟨hD.1, fun k hk => ⟨k, hk, rfl⟩⟩⟩ B.returns B.notSynchronized hml s.heap [] _ hP va_S.rf (lh.entry av hlen (fun v hv => Nat.eq_of_beq_eq_true (List.all_eq_true.mp hcat v hv)))
theorem j_iret (B : Cx p s m c args cc own D aC (rg n ad) n ad) (hr : meth.sig.returnType = some .int) (hlk : meth.locks = false) {v : Int32} (hdg : decode cc pc = .ok (.ireturn, 1)) (ho : some (.int v) = o) (hw : w = w') : J p l e R s m args below meth c D (rg n ad) 0 0 (MQ below (Qk D aC n ad o w') args s 0 0 (rg n ad)) n ad w nL pc lv [.int v] := by
  subst ho; subst hw
  intro H locs ls hP hS hl
  obtain ⟨hx, hb, hown, hts, hN, hK, hD⟩ := B
  exact W.iret hx hb hr (fun t ht hW => ⟨rfl, ⟨by rw [ht]; exact hP, va_K.moved hW.alike hK, ⟨hD.1, fun _ _ => trivial⟩, nw_warm hW hN⟩, hS.F ht⟩) hS.2.2 hdg (hlocks := hlk)
theorem j_zret (B : Cx p s m c args cc own D aC (rg n ad) n ad) (hr : meth.sig.returnType = some .boolean) (hlk : meth.locks = false) {v : Int32} (hdg : decode cc pc = .ok (.ireturn, 1)) (hv : v = 0 ∨ v = 1) (ho : some (.int v) = o) (hw : w = w') : J p l e R s m args below meth c D (rg n ad) 0 0 (MQ below (Qk D aC n ad o w') args s 0 0 (rg n ad)) n ad w nL pc lv [.int v] := by
  subst ho; subst hw
  intro H locs ls hP hS hl
  obtain ⟨hx, hb, hown, hts, hN, hK, hD⟩ := B
  exact W.zret hx hb hr (by rcases hv with rfl | rfl <;> decide) (fun t ht hW => ⟨rfl, ⟨by rw [ht]; exact hP, va_K.moved hW.alike hK, ⟨hD.1, fun _ _ => trivial⟩, nw_warm hW hN⟩, hS.F ht⟩) hS.2.2 hdg (hlocks := hlk)
theorem j_vret (B : Cx p s m c args cc own D aC (rg n ad) n ad) (hr : meth.sig.returnType = none) (hlk : meth.locks = false) (hdg : decode cc pc = .ok (.return_, 1)) (ho : none = o) (hw : w = w') : J p l e R s m args below meth c D (rg n ad) 0 0 (MQ below (Qk D aC n ad o w') args s 0 0 (rg n ad)) n ad w nL pc lv [] := by
  subst ho; subst hw
  intro H locs ls hP hS hl
  obtain ⟨hx, hb, hown, hts, hN, hK, hD⟩ := B
  exact W.vret hx hb hr (fun t ht hW => ⟨rfl, ⟨by rw [ht]; exact hP, va_K.moved hW.alike hK, ⟨hD.1, fun _ _ => trivial⟩, nw_warm hW hN⟩, hS.F ht⟩) hS.2.2 hdg (hlocks := hlk)
theorem j_aret (B : Cx p s m c args cc own D aC (rg n ad) n ad) {C : String} (hr : meth.sig.returnType = some (.object C)) (hlk : meth.locks = false) {v : Nat} (hdg : decode cc pc = .ok (.areturn, 1)) (ho : some (.ref v) = o) (hw : w = w') : J p l e R s m args below meth c D (rg n ad) 0 0 (MQ below (Qk D aC n ad o w') args s 0 0 (rg n ad)) n ad w nL pc lv [.ref v] := by
  subst ho; subst hw
  intro H locs ls hP hS hl
  obtain ⟨hx, hb, hown, hts, hN, hK, hD⟩ := B
  exact W.aret hx hb hr (Or.inl ⟨C, rfl⟩) (Or.inr ⟨v, rfl⟩) (fun t ht hW => ⟨rfl, ⟨by rw [ht]; exact hP, va_K.moved hW.alike hK, ⟨hD.1, fun _ _ => trivial⟩, nw_warm hW hN⟩, hS.F ht⟩) hS.2.2 hdg (hlocks := hlk)
/-- behind a call -/
theorem j_after {H : Heap} {locs : List Loc} {ls : Array Slot} {st0 rest : List Value} {a : Array Value} (hr : va_Run p l e R s m args below meth c H locs cells slots 0 0 (F0 m pc ls st0) rest (Qk D aC n ad o w' a) (rg n ad)) (hS : va_S A s.heap H locs) (hA : ∀ q, rg n ad q → A q)
    (kk : ∀ (H1 : Heap) (locs1 : List Loc), va_P D classes (fw n ad w') H1 → va_S A s.heap H1 locs1 → W p l e R s m args below meth c H1 locs1 cells slots Q (F0 m (pc + 3) ls (o.toList ++ rest))) : W p l e R s m args below meth c H locs cells slots Q (F0 m pc ls st0) := by
  intro T hT X
  obtain ⟨v, st₀, t, T', L, h0, X', hL, e1, e2, ⟨hv, hB, hz, hk⟩, st⟩ := hr T hT X
  cases hv
  rw [h0] at hz hk
  obtain ⟨t2, a1, b1⟩ := kk T'.heap (locs ++ L) (by rw [e1]; exact hB.1)
    ⟨Nat.le_trans hS.1 (by rw [e1]; exact hz), fun q h1 h2 => by rw [e1, hk q (Nat.lt_of_lt_of_le h1 hS.1) (fun z => h2 (hA q z))]; exact hS.2.1 q h1 h2, fun q hq => by
      rcases List.mem_append.mp hq with h | h
      · exact hS.2.2 q h
      · exact hA _ (hL q h)⟩ T' rfl X'
  exact ⟨t2, st t2 a1, b1⟩
theorem gw_pays {y : MethodName} {b : ByteArray} {mL : Nat} {ret : Option FieldType} (hts : ∀ z ∈ gw, z.before args s = true) (hc : Cond.code y b mL ret ∈ gw) : ∀ z ∈ Cond.code y b mL ret :: gw, ∀ (a' : Array Value) (U : State), s.WarmedH U.vm → z.before a' U = true := by
  refine pay_in hts (fun z hz => ?_)
  rcases List.mem_cons.mp hz with rfl | hz
  · exact ⟨hc, good_of_word (gw_good hc)⟩
  · exact ⟨hz, good_of_word (gw_good hz)⟩
/-- the words of a call -/
def CB (y : MethodName) (b : ByteArray) (mL : Nat) (ret : Option FieldType) (nA : Nat) : Prop := Cond.code y b mL ret ∈ gw ∧ Cond.initialized y.cls ∈ gw ∧ y.cls ≠ "java/lang/invoke/MethodHandle" ∧ y.cls ≠ "java/lang/invoke/VarHandle" ∧ (parseMethodDescriptor y.desc).map (fun d => d.parameters.length) = some nA
def CV (y : MethodName) (b : ByteArray) (mL : Nat) (ret : Option FieldType) (nA : Nat) : Prop := CB y b mL ret nA ∧ Cond.instanceMethod y ∈ gw ∧ Cond.selects y.cls y y ∈ gw
def CS (y : MethodName) (b : ByteArray) (mL : Nat) (ret : Option FieldType) (nA : Nat) : Prop := CB y b mL ret nA ∧ Cond.static y ∈ gw
theorem j_cV (B : Cx p s m c args cc own D aC A n ad) {y : MethodName} {b : ByteArray} {mL : Nat} {ret : Option FieldType} {rm : Room} {k nA index ci : Nat} {As fs st0 : List Value} {T : u_T} {N : Nat} (hM : Ok l y b mL ret rm D aC n ad (.ref (ad k) :: As) w o w') (hC : CV y b mL ret nA) (hlink : Cond.methodLink own index y ∈ gw) (hn : As.length = nA)
    (hroom : rm.cells = 0 ∧ rm.slots = 0 ∧ rm.frames + 1 ≤ R.frames ∧ 8 + (mL + 11) + rm.locals ≤ R.locals) (hcs : cells ≤ R.cells ∧ slots ≤ R.slots) (hk : k < n) (hw : w k = .inr (ci, fs)) (hc : classes[ci]? = some (y.cls, T, N)) (hml : c.maxLocals = nL) (hwt : (st.map fun v => v.category).sum ≤ 8) (hst : st0 = As.reverse ++ .ref (ad k) :: st) (hdg : decode cc pc = .ok (.invokevirtual index, 3))
    (kk : J p l e R s m args below meth c D A cells slots Q n ad w' nL (pc + 3) lv (o.toList ++ st)) : J p l e R s m args below meth c D A cells slots Q n ad w nL pc lv st0 := by
  intro H locs ls hP hS hl
  obtain ⟨hx, hb, hown, hts, hN, hK, hD⟩ := B
  obtain ⟨⟨c1, c2, c3, c4, c5⟩, c6, c7⟩ := hC
  have cw : CallW R s args own y.cls index y b mL ret (.code y b mL ret :: gw) rm 0 0 nA := by
    refine ⟨⟨hroom.1, hroom.2.1, hroom.2.2.1, hroom.2.2.2, gw_pays hts c1, List.mem_cons_self, hts _ c1, hts _ c2, ⟨c3, c4⟩, fun sig h => ?_, hts _ hlink⟩, hts _ c6, hts _ c7⟩
    rw [h] at c5
    exact (Option.some.inj c5).symm
  have he : (fw n ad w)[k]? = some (ad k, .inr (ci, fs)) := by rw [fw_get hk, hw]
  refine j_after (va_runV (As := As) (rest := st) (b := ad k) ⟨hx, hb, hml, hown, hts⟩ hM cw ⟨TW.blind, va_recv hK hP hc he, fun U hU hW => ⟨rfl, by rw [hU]; exact hP, va_K.moved hW.alike hK, ⟨hD.1, fun _ _ => trivial⟩, nw_warm hW hN⟩⟩ rfl hn hl.1 hst (lv_room hwt) hdg hcs) hS (fun q h => ?_) (fun H1 locs1 h1 h2 => kk H1 locs1 ls h1 h2 hl)
  obtain ⟨k2, h3, rfl⟩ := h
  exact hD.2 k2 h3
theorem j_cS (B : Cx p s m c args cc own D aC A n ad) {y : MethodName} {b : ByteArray} {mL : Nat} {ret : Option FieldType} {rm : Room} {nA index : Nat} {As st0 : List Value} (hM : Ok l y b mL ret rm D aC n ad As w o w') (hC : CS y b mL ret nA) (hlink : Cond.methodLink own index y ∈ gw) (hn : As.length = nA)
    (hroom : rm.cells = 0 ∧ rm.slots = 0 ∧ rm.frames + 1 ≤ R.frames ∧ 8 + (mL + 11) + rm.locals ≤ R.locals) (hcs : cells ≤ R.cells ∧ slots ≤ R.slots) (hml : c.maxLocals = nL) (hwt : (st.map fun v => v.category).sum ≤ 8) (hst : st0 = As.reverse ++ st) (hdg : decode cc pc = .ok (.invokestatic index, 3))
    (kk : J p l e R s m args below meth c D A cells slots Q n ad w' nL (pc + 3) lv (o.toList ++ st)) : J p l e R s m args below meth c D A cells slots Q n ad w nL pc lv st0 := by
  intro H locs ls hP hS hl
  obtain ⟨hx, hb, hown, hts, hN, hK, hD⟩ := B
  obtain ⟨⟨c1, c2, c3, c4, c5⟩, c6⟩ := hC
  have cw : CallB R s args own index y b mL ret (.code y b mL ret :: gw) rm 0 0 nA ∧ (Cond.static y).before args s = true := by
    refine ⟨⟨hroom.1, hroom.2.1, hroom.2.2.1, hroom.2.2.2, gw_pays hts c1, List.mem_cons_self, hts _ c1, hts _ c2, ⟨c3, c4⟩, fun sig h => ?_, hts _ hlink⟩, hts _ c6⟩
    rw [h] at c5
    exact (Option.some.inj c5).symm
  refine j_after (va_runS (As := As) (rest := st) ⟨hx, hb, hml, hown, hts⟩ hM cw ⟨TW.blind, fun U hU hW => ⟨rfl, by rw [hU]; exact hP, va_K.moved hW.alike hK, ⟨hD.1, fun _ _ => trivial⟩, nw_warm hW hN⟩⟩ rfl hn hl.1 hst (lv_room hwt) hdg hcs) hS (fun q h => ?_) (fun H1 locs1 h1 h2 => kk H1 locs1 ls h1 h2 hl)
  obtain ⟨k2, h3, rfl⟩ := h
  exact hD.2 k2 h3
theorem j_cSN (B : Cx p s m c args cc own D aC A n ad) {y : MethodName} {b : ByteArray} {mL : Nat} {ret : Option FieldType} {rm : Room} {nA index : Nat} {host : String} {As st0 : List Value} (hM : Ok l y b mL ret rm D aC n ad As w o w') (hC : CS y b mL ret nA) (hlink : Cond.methodLinkNest own index y host ∈ nw) (hn : As.length = nA)
    (hroom : rm.cells = 0 ∧ rm.slots = 0 ∧ rm.frames + 1 ≤ R.frames ∧ 8 + (mL + 11) + rm.locals ≤ R.locals) (hcs : cells ≤ R.cells ∧ slots ≤ R.slots) (hml : c.maxLocals = nL) (hwt : (st.map fun v => v.category).sum ≤ 8) (hst : st0 = As.reverse ++ st) (hdg : decode cc pc = .ok (.invokestatic index, 3))
    (kk : J p l e R s m args below meth c D A cells slots Q n ad w' nL (pc + 3) lv (o.toList ++ st)) : J p l e R s m args below meth c D A cells slots Q n ad w nL pc lv st0 := by
  intro H locs ls hP hS hl
  obtain ⟨hx, hb, hown, hts, hN, hK, hD⟩ := B
  obtain ⟨⟨c1, c2, c3, c4, c5⟩, c6⟩ := hC
  have cw : va_CN R s args own index y host b mL ret (.code y b mL ret :: gw) rm 0 0 nA ∧ (Cond.static y).before args s = true ∧ True := by
    refine ⟨⟨⟨hroom.1, hroom.2.1, hroom.2.2.1, hroom.2.2.2, gw_pays hts c1, List.mem_cons_self⟩, hts _ c1, hts _ c2, ⟨c3, c4⟩, fun sig h => ?_, va_Nw.use rfl (hN _ hlink)⟩, hts _ c6, trivial⟩
    rw [h] at c5
    exact (Option.some.inj c5).symm
  refine j_after (va_runSN (As := As) (rest := st) ⟨hx, hb, hml, hown, hts⟩ hM cw ⟨TW.blind, fun U hU hW => ⟨rfl, by rw [hU]; exact hP, va_K.moved hW.alike hK, ⟨hD.1, fun _ _ => trivial⟩, nw_warm hW hN⟩⟩ rfl hn hl.1 hst (lv_room hwt) hdg hcs) hS (fun q h => ?_) (fun H1 locs1 h1 h2 => kk H1 locs1 ls h1 h2 hl)
  obtain ⟨k2, h3, rfl⟩ := h
  exact hD.2 k2 h3
/-- a call of an object of a typed memory -/
theorem j_cVt {sh : Nat → tm_Sh} {ky : Nat → tm_K} {x x' : tm_M} {K : tm_K} (B : Cx p s m c args cc own D aC A n ad) {y : MethodName} {b : ByteArray} {mL : Nat} {ret : Option FieldType} {rm : Room} {k nA index ci : Nat} {As st0 : List Value} {fl : List (Option Nat)} {T : u_T} {N : Nat} (hM : Ok l y b mL ret rm D aC n ad (.ref (ad k) :: As) (tw ad aC sh ky x) o (tw ad aC sh ky x')) (hC : CV y b mL ret nA) (hlink : Cond.methodLink own index y ∈ gw) (hq : k < n ∧ sh k = .inl (ci, fl) ∧ ky k = K) (hc : classes[ci]? = some (y.cls, T, N)) (hn : As.length = nA)
    (hroom : rm.cells = 0 ∧ rm.slots = 0 ∧ rm.frames + 1 ≤ R.frames ∧ 8 + (mL + 11) + rm.locals ≤ R.locals) (hcs : cells ≤ R.cells ∧ slots ≤ R.slots) (hml : c.maxLocals = nL) (hwt : (st.map fun v => v.category).sum ≤ 8) (hst : st0 = As.reverse ++ .ref (ad k) :: st) (hdg : decode cc pc = .ok (.invokevirtual index, 3))
    (kk : J p l e R s m args below meth c D A cells slots Q n ad (tw ad aC sh ky x') nL (pc + 3) lv (o.toList ++ st)) : J p l e R s m args below meth c D A cells slots Q n ad (tw ad aC sh ky x) nL pc lv st0 :=
  j_cV B hM hC hlink hn hroom hcs hq.1 (by simp [tw, hq.2.1, tm_cell]; rfl) hc hml hwt hst hdg kk
end CT
end
section
theorem cv_Lp_type : CV y_Lp_type b_Lp_type 2 (some .int) 1 := ⟨⟨cd_Lp_type, in_Lp, by decide, by decide, by decide +kernel⟩, im_Lp_type, se_Lp_type⟩
theorem cv_Ty_has : CV y_Ty_has b_Ty_has 2 (some .boolean) 1 := ⟨⟨cd_Ty_has, in_Ty, by decide, by decide, by decide +kernel⟩, im_Ty_has, se_Ty_has⟩
theorem cv_Ty_isFull : CV y_Ty_isFull b_Ty_isFull 1 (some .boolean) 0 := ⟨⟨cd_Ty_isFull, in_Ty, by decide, by decide, by decide +kernel⟩, im_Ty_isFull, se_Ty_isFull⟩
theorem cv_Ty_make : CV y_Ty_make b_Ty_make 3 (some .int) 1 := ⟨⟨cd_Ty_make, in_Ty, by decide, by decide, by decide +kernel⟩, im_Ty_make, se_Ty_make⟩
theorem cv_Lp_add : CV y_Lp_add b_Lp_add 4 (some .int) 3 := ⟨⟨cd_Lp_add, in_Lp, by decide, by decide, by decide +kernel⟩, im_Lp_add, se_Lp_add⟩
theorem cs_Lp_requireFunction : CS y_Lp_requireFunction b_Lp_requireFunction 1 none 1 := ⟨⟨cd_Lp_requireFunction, in_Lp, by decide, by decide, by decide +kernel⟩, sm_Lp_requireFunction⟩
theorem cs_Lp_isFunction : CS y_Lp_isFunction b_Lp_isFunction 1 (some .boolean) 1 := ⟨⟨cd_Lp_isFunction, in_Lp, by decide, by decide, by decide +kernel⟩, sm_Lp_isFunction⟩
theorem cv_Lp_isAllowed : CV y_Lp_isAllowed b_Lp_isAllowed 3 (some .boolean) 2 := ⟨⟨cd_Lp_isAllowed, in_Lp, by decide, by decide, by decide +kernel⟩, im_Lp_isAllowed, se_Lp_isAllowed⟩
theorem cv_Tx_isFull : CV y_Tx_isFull b_Tx_isFull 1 (some .boolean) 0 := ⟨⟨cd_Tx_isFull, in_Tx, by decide, by decide, by decide +kernel⟩, im_Tx_isFull, se_Tx_isFull⟩
theorem cv_Tx_append : CV y_Tx_append b_Tx_append 3 (some .int) 2 := ⟨⟨cd_Tx_append, in_Tx, by decide, by decide, by decide +kernel⟩, im_Tx_append, se_Tx_append⟩
theorem cv_Lp_wipe : CV y_Lp_wipe b_Lp_wipe 2 none 1 := ⟨⟨cd_Lp_wipe, in_Lp, by decide, by decide, by decide +kernel⟩, im_Lp_wipe, se_Lp_wipe⟩
theorem cv_Lp_compile : CV y_Lp_compile b_Lp_compile 4 (some .int) 1 := ⟨⟨cd_Lp_compile, in_Lp, by decide, by decide, by decide +kernel⟩, im_Lp_compile, se_Lp_compile⟩
theorem cv_Ck_isWellFormed : CV y_Ck_isWellFormed b_Ck_isWellFormed 3 (some .boolean) 1 := ⟨⟨cd_Ck_isWellFormed, in_Ck, by decide, by decide, by decide +kernel⟩, im_Ck_isWellFormed, se_Ck_isWellFormed⟩
theorem cv_Tx_statementAt : CV y_Tx_statementAt b_Tx_statementAt 2 (some .int) 1 := ⟨⟨cd_Tx_statementAt, in_Tx, by decide, by decide, by decide +kernel⟩, im_Tx_statementAt, se_Tx_statementAt⟩
theorem cv_Tx_has : CV y_Tx_has b_Tx_has 2 (some .boolean) 1 := ⟨⟨cd_Tx_has, in_Tx, by decide, by decide, by decide +kernel⟩, im_Tx_has, se_Tx_has⟩
theorem cv_Ck_accepts : CV y_Ck_accepts b_Ck_accepts 2 (some .boolean) 1 := ⟨⟨cd_Ck_accepts, in_Ck, by decide, by decide, by decide +kernel⟩, im_Ck_accepts, se_Ck_accepts⟩
theorem cv_Ck_opensRow : CV y_Ck_opensRow b_Ck_opensRow 2 (some .boolean) 1 := ⟨⟨cd_Ck_opensRow, in_Ck, by decide, by decide, by decide +kernel⟩, im_Ck_opensRow, se_Ck_opensRow⟩
theorem cv_Ck_turnsToCatch : CV y_Ck_turnsToCatch b_Ck_turnsToCatch 1 (some .boolean) 0 := ⟨⟨cd_Ck_turnsToCatch, in_Ck, by decide, by decide, by decide +kernel⟩, im_Ck_turnsToCatch, se_Ck_turnsToCatch⟩
theorem cv_Ck_closesRow : CV y_Ck_closesRow b_Ck_closesRow 1 (some .boolean) 0 := ⟨⟨cd_Ck_closesRow, in_Ck, by decide, by decide, by decide +kernel⟩, im_Ck_closesRow, se_Ck_closesRow⟩
theorem cv_Ck_isInCatch : CV y_Ck_isInCatch b_Ck_isInCatch 2 (some .boolean) 0 := ⟨⟨cd_Ck_isInCatch, in_Ck, by decide, by decide, by decide +kernel⟩, im_Ck_isInCatch, se_Ck_isInCatch⟩
theorem cv_Co_translate : CV y_Co_translate b_Co_translate 4 none 2 := ⟨⟨cd_Co_translate, in_Co, by decide, by decide, by decide +kernel⟩, im_Co_translate, se_Co_translate⟩
theorem cv_Pr_clear : CV y_Pr_clear b_Pr_clear 1 none 0 := ⟨⟨cd_Pr_clear, in_Pr, by decide, by decide, by decide +kernel⟩, im_Pr_clear, se_Pr_clear⟩
theorem cv_Co_translateStatement : CV y_Co_translateStatement b_Co_translateStatement 5 none 3 := ⟨⟨cd_Co_translateStatement, in_Co, by decide, by decide, by decide +kernel⟩, im_Co_translateStatement, se_Co_translateStatement⟩
theorem cv_Tx_operandAt : CV y_Tx_operandAt b_Tx_operandAt 2 (some .int) 1 := ⟨⟨cd_Tx_operandAt, in_Tx, by decide, by decide, by decide +kernel⟩, im_Tx_operandAt, se_Tx_operandAt⟩
theorem cv_Pr_emit : CV y_Pr_emit b_Pr_emit 3 none 2 := ⟨⟨cd_Pr_emit, in_Pr, by decide, by decide, by decide +kernel⟩, im_Pr_emit, se_Pr_emit⟩
theorem cv_Co_currentHead : CV y_Co_currentHead b_Co_currentHead 1 (some .int) 0 := ⟨⟨cd_Co_currentHead, in_Co, by decide, by decide, by decide +kernel⟩, im_Co_currentHead, se_Co_currentHead⟩
theorem cv_Pr_emitAtSite : CV y_Pr_emitAtSite b_Pr_emitAtSite 4 none 3 := ⟨⟨cd_Pr_emitAtSite, in_Pr, by decide, by decide, by decide +kernel⟩, im_Pr_emitAtSite, se_Pr_emitAtSite⟩
theorem cv_Pr_makeAction : CV y_Pr_makeAction b_Pr_makeAction 4 (some .int) 2 := ⟨⟨cd_Pr_makeAction, in_Pr, by decide, by decide, by decide +kernel⟩, im_Pr_makeAction, se_Pr_makeAction⟩
theorem cv_Co_openBlock : CV y_Co_openBlock b_Co_openBlock 4 none 3 := ⟨⟨cd_Co_openBlock, in_Co, by decide, by decide, by decide +kernel⟩, im_Co_openBlock, se_Co_openBlock⟩
theorem cv_Bl_begin : CV y_Bl_begin b_Bl_begin 5 none 4 := ⟨⟨cd_Bl_begin, in_Bl, by decide, by decide, by decide +kernel⟩, im_Bl_begin, se_Bl_begin⟩
theorem cv_Co_makeCatchActions : CV y_Co_makeCatchActions b_Co_makeCatchActions 8 (some .int) 3 := ⟨⟨cd_Co_makeCatchActions, in_Co, by decide, by decide, by decide +kernel⟩, im_Co_makeCatchActions, se_Co_makeCatchActions⟩
theorem cv_Pr_chain : CV y_Pr_chain b_Pr_chain 3 none 2 := ⟨⟨cd_Pr_chain, in_Pr, by decide, by decide, by decide +kernel⟩, im_Pr_chain, se_Pr_chain⟩
theorem cv_Pr_hasAction : CV y_Pr_hasAction b_Pr_hasAction 2 (some .boolean) 1 := ⟨⟨cd_Pr_hasAction, in_Pr, by decide, by decide, by decide +kernel⟩, im_Pr_hasAction, se_Pr_hasAction⟩
theorem cv_Co_beginCatch : CV y_Co_beginCatch b_Co_beginCatch 3 none 1 := ⟨⟨cd_Co_beginCatch, in_Co, by decide, by decide, by decide +kernel⟩, im_Co_beginCatch, se_Co_beginCatch⟩
theorem cv_Co_emitExit : CV y_Co_emitExit b_Co_emitExit 3 none 2 := ⟨⟨cd_Co_emitExit, in_Co, by decide, by decide, by decide +kernel⟩, im_Co_emitExit, se_Co_emitExit⟩
theorem cv_Bl_noteExit : CV y_Bl_noteExit b_Bl_noteExit 2 none 1 := ⟨⟨cd_Bl_noteExit, in_Bl, by decide, by decide, by decide +kernel⟩, im_Bl_noteExit, se_Bl_noteExit⟩
theorem cv_Co_finishCatch : CV y_Co_finishCatch b_Co_finishCatch 3 none 2 := ⟨⟨cd_Co_finishCatch, in_Co, by decide, by decide, by decide +kernel⟩, im_Co_finishCatch, se_Co_finishCatch⟩
theorem cv_Pr_landHere : CV y_Pr_landHere b_Pr_landHere 2 none 1 := ⟨⟨cd_Pr_landHere, in_Pr, by decide, by decide, by decide +kernel⟩, im_Pr_landHere, se_Pr_landHere⟩
theorem cv_Co_closeBlock : CV y_Co_closeBlock b_Co_closeBlock 3 none 1 := ⟨⟨cd_Co_closeBlock, in_Co, by decide, by decide, by decide +kernel⟩, im_Co_closeBlock, se_Co_closeBlock⟩
theorem cv_Co_finishLocal : CV y_Co_finishLocal b_Co_finishLocal 3 none 2 := ⟨⟨cd_Co_finishLocal, in_Co, by decide, by decide, by decide +kernel⟩, im_Co_finishLocal, se_Co_finishLocal⟩
theorem cv_Bl_aimExits : CV y_Bl_aimExits b_Bl_aimExits 3 none 1 := ⟨⟨cd_Bl_aimExits, in_Bl, by decide, by decide, by decide +kernel⟩, im_Bl_aimExits, se_Bl_aimExits⟩
theorem cv_Pr_aim : CV y_Pr_aim b_Pr_aim 3 none 2 := ⟨⟨cd_Pr_aim, in_Pr, by decide, by decide, by decide +kernel⟩, im_Pr_aim, se_Pr_aim⟩
theorem cv_Pr_hasInstruction : CV y_Pr_hasInstruction b_Pr_hasInstruction 2 (some .boolean) 1 := ⟨⟨cd_Pr_hasInstruction, in_Pr, by decide, by decide, by decide +kernel⟩, im_Pr_hasInstruction, se_Pr_hasInstruction⟩
theorem cv_Lp_size : CV y_Lp_size b_Lp_size 4 (some .int) 2 := ⟨⟨cd_Lp_size, in_Lp, by decide, by decide, by decide +kernel⟩, im_Lp_size, se_Lp_size⟩
theorem cv_Lp_code : CV y_Lp_code b_Lp_code 5 (some .int) 3 := ⟨⟨cd_Lp_code, in_Lp, by decide, by decide, by decide +kernel⟩, im_Lp_code, se_Lp_code⟩
theorem cv_Pr_letterAt : CV y_Pr_letterAt b_Pr_letterAt 2 (some .int) 1 := ⟨⟨cd_Pr_letterAt, in_Pr, by decide, by decide, by decide +kernel⟩, im_Pr_letterAt, se_Pr_letterAt⟩
theorem cv_Pr_valueAt : CV y_Pr_valueAt b_Pr_valueAt 2 (some .int) 1 := ⟨⟨cd_Pr_valueAt, in_Pr, by decide, by decide, by decide +kernel⟩, im_Pr_valueAt, se_Pr_valueAt⟩
theorem cv_Lp_action : CV y_Lp_action b_Lp_action 5 (some .int) 3 := ⟨⟨cd_Lp_action, in_Lp, by decide, by decide, by decide +kernel⟩, im_Lp_action, se_Lp_action⟩
theorem cv_Pr_filterOf : CV y_Pr_filterOf b_Pr_filterOf 2 (some .int) 1 := ⟨⟨cd_Pr_filterOf, in_Pr, by decide, by decide, by decide +kernel⟩, im_Pr_filterOf, se_Pr_filterOf⟩
theorem cv_Pr_landingOf : CV y_Pr_landingOf b_Pr_landingOf 2 (some .int) 1 := ⟨⟨cd_Pr_landingOf, in_Pr, by decide, by decide, by decide +kernel⟩, im_Pr_landingOf, se_Pr_landingOf⟩
theorem cv_Pr_nextOf : CV y_Pr_nextOf b_Pr_nextOf 2 (some .int) 1 := ⟨⟨cd_Pr_nextOf, in_Pr, by decide, by decide, by decide +kernel⟩, im_Pr_nextOf, se_Pr_nextOf⟩
theorem cv_Lp_site : CV y_Lp_site b_Lp_site 5 (some .int) 3 := ⟨⟨cd_Lp_site, in_Lp, by decide, by decide, by decide +kernel⟩, im_Lp_site, se_Lp_site⟩
theorem cv_Pr_hasSite : CV y_Pr_hasSite b_Pr_hasSite 2 (some .boolean) 1 := ⟨⟨cd_Pr_hasSite, in_Pr, by decide, by decide, by decide +kernel⟩, im_Pr_hasSite, se_Pr_hasSite⟩
theorem cv_Pr_firstPlaceOf : CV y_Pr_firstPlaceOf b_Pr_firstPlaceOf 2 (some .int) 1 := ⟨⟨cd_Pr_firstPlaceOf, in_Pr, by decide, by decide, by decide +kernel⟩, im_Pr_firstPlaceOf, se_Pr_firstPlaceOf⟩
theorem cv_Pr_lastPlaceOf : CV y_Pr_lastPlaceOf b_Pr_lastPlaceOf 2 (some .int) 1 := ⟨⟨cd_Pr_lastPlaceOf, in_Pr, by decide, by decide, by decide +kernel⟩, im_Pr_lastPlaceOf, se_Pr_lastPlaceOf⟩
theorem cv_Pr_siteHeadOf : CV y_Pr_siteHeadOf b_Pr_siteHeadOf 2 (some .int) 1 := ⟨⟨cd_Pr_siteHeadOf, in_Pr, by decide, by decide, by decide +kernel⟩, im_Pr_siteHeadOf, se_Pr_siteHeadOf⟩
theorem cv_Lp_run : CV y_Lp_run b_Lp_run 2 (some .int) 1 := ⟨⟨cd_Lp_run, in_Lp, by decide, by decide, by decide +kernel⟩, im_Lp_run, se_Lp_run⟩
theorem cv_Pr_isMade : CV y_Pr_isMade b_Pr_isMade 1 (some .boolean) 0 := ⟨⟨cd_Pr_isMade, in_Pr, by decide, by decide, by decide +kernel⟩, im_Pr_isMade, se_Pr_isMade⟩
theorem cv_Ma_execute : CV y_Ma_execute b_Ma_execute 3 (some .int) 1 := ⟨⟨cd_Ma_execute, in_Ma, by decide, by decide, by decide +kernel⟩, im_Ma_execute, se_Ma_execute⟩
theorem cv_Ta_clear : CV y_Ta_clear b_Ta_clear 1 none 0 := ⟨⟨cd_Ta_clear, in_Ta, by decide, by decide, by decide +kernel⟩, im_Ta_clear, se_Ta_clear⟩
theorem cv_Ma_enter : CV y_Ma_enter b_Ma_enter 2 (some .int) 1 := ⟨⟨cd_Ma_enter, in_Ma, by decide, by decide, by decide +kernel⟩, im_Ma_enter, se_Ma_enter⟩
theorem cv_Fr_begin : CV y_Fr_begin b_Fr_begin 2 none 1 := ⟨⟨cd_Fr_begin, in_Fr, by decide, by decide, by decide +kernel⟩, im_Fr_begin, se_Fr_begin⟩
theorem cv_Ma_top : CV y_Ma_top b_Ma_top 1 (some (.object "LandingPads$Frame")) 0 := ⟨⟨cd_Ma_top, in_Ma, by decide, by decide, by decide +kernel⟩, im_Ma_top, se_Ma_top⟩
theorem cv_Ma_step : CV y_Ma_step b_Ma_step 5 (some .int) 1 := ⟨⟨cd_Ma_step, in_Ma, by decide, by decide, by decide +kernel⟩, im_Ma_step, se_Ma_step⟩
theorem cv_Ma_print : CV y_Ma_print b_Ma_print 2 (some .int) 1 := ⟨⟨cd_Ma_print, in_Ma, by decide, by decide, by decide +kernel⟩, im_Ma_print, se_Ma_print⟩
theorem cv_Ta_isFull : CV y_Ta_isFull b_Ta_isFull 1 (some .boolean) 0 := ⟨⟨cd_Ta_isFull, in_Ta, by decide, by decide, by decide +kernel⟩, im_Ta_isFull, se_Ta_isFull⟩
theorem cv_Ta_put : CV y_Ta_put b_Ta_put 2 none 1 := ⟨⟨cd_Ta_put, in_Ta, by decide, by decide, by decide +kernel⟩, im_Ta_put, se_Ta_put⟩
theorem cv_Ma_raise : CV y_Ma_raise b_Ma_raise 2 (some .int) 1 := ⟨⟨cd_Ma_raise, in_Ma, by decide, by decide, by decide +kernel⟩, im_Ma_raise, se_Ma_raise⟩
theorem cv_Ma_findHandler : CV y_Ma_findHandler b_Ma_findHandler 5 (some .boolean) 1 := ⟨⟨cd_Ma_findHandler, in_Ma, by decide, by decide, by decide +kernel⟩, im_Ma_findHandler, se_Ma_findHandler⟩
theorem cv_Ma_headOf : CV y_Ma_headOf b_Ma_headOf 2 (some .int) 1 := ⟨⟨cd_Ma_headOf, in_Ma, by decide, by decide, by decide +kernel⟩, im_Ma_headOf, se_Ma_headOf⟩
theorem cv_Fr_currentPlace : CV y_Fr_currentPlace b_Fr_currentPlace 1 (some .int) 0 := ⟨⟨cd_Fr_currentPlace, in_Fr, by decide, by decide, by decide +kernel⟩, im_Fr_currentPlace, se_Fr_currentPlace⟩
theorem cv_Pr_headAround : CV y_Pr_headAround b_Pr_headAround 3 (some .int) 1 := ⟨⟨cd_Pr_headAround, in_Pr, by decide, by decide, by decide +kernel⟩, im_Pr_headAround, se_Pr_headAround⟩
theorem cv_Ma_firstCatching : CV y_Ma_firstCatching b_Ma_firstCatching 8 (some .int) 3 := ⟨⟨cd_Ma_firstCatching, in_Ma, by decide, by decide, by decide +kernel⟩, im_Ma_firstCatching, se_Ma_firstCatching⟩
theorem cv_Ty_isAnother : CV y_Ty_isAnother b_Ty_isAnother 5 (some .boolean) 2 := ⟨⟨cd_Ty_isAnother, in_Ty, by decide, by decide, by decide +kernel⟩, im_Ty_isAnother, se_Ty_isAnother⟩
theorem cv_Ma_unwind : CV y_Ma_unwind b_Ma_unwind 3 (some .int) 1 := ⟨⟨cd_Ma_unwind, in_Ma, by decide, by decide, by decide +kernel⟩, im_Ma_unwind, se_Ma_unwind⟩
theorem cv_Ma_firstLanding : CV y_Ma_firstLanding b_Ma_firstLanding 5 (some .int) 1 := ⟨⟨cd_Ma_firstLanding, in_Ma, by decide, by decide, by decide +kernel⟩, im_Ma_firstLanding, se_Ma_firstLanding⟩
theorem cv_Ma_isHandler : CV y_Ma_isHandler b_Ma_isHandler 2 (some .boolean) 1 := ⟨⟨cd_Ma_isHandler, in_Ma, by decide, by decide, by decide +kernel⟩, im_Ma_isHandler, se_Ma_isHandler⟩
theorem cv_Ma_land : CV y_Ma_land b_Ma_land 3 (some .int) 1 := ⟨⟨cd_Ma_land, in_Ma, by decide, by decide, by decide +kernel⟩, im_Ma_land, se_Ma_land⟩
theorem cv_Fr_pushCaught : CV y_Fr_pushCaught b_Fr_pushCaught 2 none 1 := ⟨⟨cd_Fr_pushCaught, in_Fr, by decide, by decide, by decide +kernel⟩, im_Fr_pushCaught, se_Fr_pushCaught⟩
theorem cv_Ma_jump : CV y_Ma_jump b_Ma_jump 3 (some .int) 2 := ⟨⟨cd_Ma_jump, in_Ma, by decide, by decide, by decide +kernel⟩, im_Ma_jump, se_Ma_jump⟩
theorem cv_Fr_latestCaught : CV y_Fr_latestCaught b_Fr_latestCaught 1 (some .int) 0 := ⟨⟨cd_Fr_latestCaught, in_Fr, by decide, by decide, by decide +kernel⟩, im_Fr_latestCaught, se_Fr_latestCaught⟩
theorem cv_Ma_clean : CV y_Ma_clean b_Ma_clean 3 (some .int) 1 := ⟨⟨cd_Ma_clean, in_Ma, by decide, by decide, by decide +kernel⟩, im_Ma_clean, se_Ma_clean⟩
theorem cv_Ma_endCatch : CV y_Ma_endCatch b_Ma_endCatch 2 (some .int) 1 := ⟨⟨cd_Ma_endCatch, in_Ma, by decide, by decide, by decide +kernel⟩, im_Ma_endCatch, se_Ma_endCatch⟩
theorem cv_Fr_dropCaught : CV y_Fr_dropCaught b_Fr_dropCaught 1 none 0 := ⟨⟨cd_Fr_dropCaught, in_Fr, by decide, by decide, by decide +kernel⟩, im_Fr_dropCaught, se_Fr_dropCaught⟩
theorem cv_Ma_leave : CV y_Ma_leave b_Ma_leave 1 (some .int) 0 := ⟨⟨cd_Ma_leave, in_Ma, by decide, by decide, by decide +kernel⟩, im_Ma_leave, se_Ma_leave⟩
theorem cv_Lp_count : CV y_Lp_count b_Lp_count 3 (some .int) 1 := ⟨⟨cd_Lp_count, in_Lp, by decide, by decide, by decide +kernel⟩, im_Lp_count, se_Lp_count⟩
theorem cv_Lp_out : CV y_Lp_out b_Lp_out 2 (some .int) 1 := ⟨⟨cd_Lp_out, in_Lp, by decide, by decide, by decide +kernel⟩, im_Lp_out, se_Lp_out⟩
theorem cv_Ta_hasNumber : CV y_Ta_hasNumber b_Ta_hasNumber 2 (some .boolean) 1 := ⟨⟨cd_Ta_hasNumber, in_Ta, by decide, by decide, by decide +kernel⟩, im_Ta_hasNumber, se_Ta_hasNumber⟩
theorem cv_Ta_numberAt : CV y_Ta_numberAt b_Ta_numberAt 2 (some .int) 1 := ⟨⟨cd_Ta_numberAt, in_Ta, by decide, by decide, by decide +kernel⟩, im_Ta_numberAt, se_Ta_numberAt⟩
theorem cv_Mo_thrown : CV y_Mo_thrown b_Mo_thrown 1 (some .int) 0 := ⟨⟨cd_Mo_thrown, in_Mo, by decide, by decide, by decide +kernel⟩, im_Mo_thrown, se_Mo_thrown⟩
theorem cv_Mo_type : CV y_Mo_type b_Mo_type 2 (some .int) 1 := ⟨⟨cd_Mo_type, in_Mo, by decide, by decide, by decide +kernel⟩, im_Mo_type, se_Mo_type⟩
theorem cs_Mo_outside : CS y_Mo_outside b_Mo_outside 3 (some .boolean) 3 := ⟨⟨cd_Mo_outside, in_Mo, by decide, by decide, by decide +kernel⟩, sm_Mo_outside⟩
theorem cv_Mo_fails : CV y_Mo_fails b_Mo_fails 3 (some .boolean) 2 := ⟨⟨cd_Mo_fails, in_Mo, by decide, by decide, by decide +kernel⟩, im_Mo_fails, se_Mo_fails⟩
theorem cv_Mo_add : CV y_Mo_add b_Mo_add 5 (some .int) 3 := ⟨⟨cd_Mo_add, in_Mo, by decide, by decide, by decide +kernel⟩, im_Mo_add, se_Mo_add⟩
theorem cv_Mo_fits : CV y_Mo_fits b_Mo_fits 3 (some .boolean) 2 := ⟨⟨cd_Mo_fits, in_Mo, by decide, by decide, by decide +kernel⟩, im_Mo_fits, se_Mo_fits⟩
theorem cv_Mo_wipe : CV y_Mo_wipe b_Mo_wipe 2 none 1 := ⟨⟨cd_Mo_wipe, in_Mo, by decide, by decide, by decide +kernel⟩, im_Mo_wipe, se_Mo_wipe⟩
theorem cv_Mo_compile : CV y_Mo_compile b_Mo_compile 6 (some .int) 1 := ⟨⟨cd_Mo_compile, in_Mo, by decide, by decide, by decide +kernel⟩, im_Mo_compile, se_Mo_compile⟩
theorem cv_Mo_wellFormed : CV y_Mo_wellFormed b_Mo_wellFormed 3 (some .boolean) 1 := ⟨⟨cd_Mo_wellFormed, in_Mo, by decide, by decide, by decide +kernel⟩, im_Mo_wellFormed, se_Mo_wellFormed⟩
theorem cv_Mo_mayStand : CV y_Mo_mayStand b_Mo_mayStand 2 (some .boolean) 1 := ⟨⟨cd_Mo_mayStand, in_Mo, by decide, by decide, by decide +kernel⟩, im_Mo_mayStand, se_Mo_mayStand⟩
theorem cv_Mo_inCatch : CV y_Mo_inCatch b_Mo_inCatch 3 (some .boolean) 0 := ⟨⟨cd_Mo_inCatch, in_Mo, by decide, by decide, by decide +kernel⟩, im_Mo_inCatch, se_Mo_inCatch⟩
theorem cv_Mo_emit : CV y_Mo_emit b_Mo_emit 5 none 3 := ⟨⟨cd_Mo_emit, in_Mo, by decide, by decide, by decide +kernel⟩, im_Mo_emit, se_Mo_emit⟩
theorem cv_Mo_newAction : CV y_Mo_newAction b_Mo_newAction 5 (some .int) 3 := ⟨⟨cd_Mo_newAction, in_Mo, by decide, by decide, by decide +kernel⟩, im_Mo_newAction, se_Mo_newAction⟩
theorem cv_Mo_opens : CV y_Mo_opens b_Mo_opens 3 none 2 := ⟨⟨cd_Mo_opens, in_Mo, by decide, by decide, by decide +kernel⟩, im_Mo_opens, se_Mo_opens⟩
theorem cv_Mo_tries : CV y_Mo_tries b_Mo_tries 7 none 2 := ⟨⟨cd_Mo_tries, in_Mo, by decide, by decide, by decide +kernel⟩, im_Mo_tries, se_Mo_tries⟩
theorem cv_Mo_catches : CV y_Mo_catches b_Mo_catches 2 none 1 := ⟨⟨cd_Mo_catches, in_Mo, by decide, by decide, by decide +kernel⟩, im_Mo_catches, se_Mo_catches⟩
theorem cv_Mo_caughtRowEnds : CV y_Mo_caughtRowEnds b_Mo_caughtRowEnds 2 none 1 := ⟨⟨cd_Mo_caughtRowEnds, in_Mo, by decide, by decide, by decide +kernel⟩, im_Mo_caughtRowEnds, se_Mo_caughtRowEnds⟩
theorem cv_Mo_lands : CV y_Mo_lands b_Mo_lands 3 none 2 := ⟨⟨cd_Mo_lands, in_Mo, by decide, by decide, by decide +kernel⟩, im_Mo_lands, se_Mo_lands⟩
theorem cv_Mo_ends : CV y_Mo_ends b_Mo_ends 2 none 1 := ⟨⟨cd_Mo_ends, in_Mo, by decide, by decide, by decide +kernel⟩, im_Mo_ends, se_Mo_ends⟩
theorem cv_Mo_closes : CV y_Mo_closes b_Mo_closes 4 none 1 := ⟨⟨cd_Mo_closes, in_Mo, by decide, by decide, by decide +kernel⟩, im_Mo_closes, se_Mo_closes⟩
theorem cv_Mo_collectSites : CV y_Mo_collectSites b_Mo_collectSites 5 none 1 := ⟨⟨cd_Mo_collectSites, in_Mo, by decide, by decide, by decide +kernel⟩, im_Mo_collectSites, se_Mo_collectSites⟩
theorem cv_Mo_size : CV y_Mo_size b_Mo_size 3 (some .int) 2 := ⟨⟨cd_Mo_size, in_Mo, by decide, by decide, by decide +kernel⟩, im_Mo_size, se_Mo_size⟩
theorem cv_Mo_code : CV y_Mo_code b_Mo_code 5 (some .int) 3 := ⟨⟨cd_Mo_code, in_Mo, by decide, by decide, by decide +kernel⟩, im_Mo_code, se_Mo_code⟩
theorem cv_Mo_action : CV y_Mo_action b_Mo_action 6 (some .int) 3 := ⟨⟨cd_Mo_action, in_Mo, by decide, by decide, by decide +kernel⟩, im_Mo_action, se_Mo_action⟩
theorem cv_Mo_site : CV y_Mo_site b_Mo_site 6 (some .int) 3 := ⟨⟨cd_Mo_site, in_Mo, by decide, by decide, by decide +kernel⟩, im_Mo_site, se_Mo_site⟩
theorem cv_Mo_run : CV y_Mo_run b_Mo_run 4 (some .int) 1 := ⟨⟨cd_Mo_run, in_Mo, by decide, by decide, by decide +kernel⟩, im_Mo_run, se_Mo_run⟩
theorem cv_Mo_enters : CV y_Mo_enters b_Mo_enters 2 none 1 := ⟨⟨cd_Mo_enters, in_Mo, by decide, by decide, by decide +kernel⟩, im_Mo_enters, se_Mo_enters⟩
theorem cv_Mo_step : CV y_Mo_step b_Mo_step 4 none 0 := ⟨⟨cd_Mo_step, in_Mo, by decide, by decide, by decide +kernel⟩, im_Mo_step, se_Mo_step⟩
theorem cv_Mo_puts : CV y_Mo_puts b_Mo_puts 2 none 1 := ⟨⟨cd_Mo_puts, in_Mo, by decide, by decide, by decide +kernel⟩, im_Mo_puts, se_Mo_puts⟩
theorem cv_Mo_calls : CV y_Mo_calls b_Mo_calls 2 none 1 := ⟨⟨cd_Mo_calls, in_Mo, by decide, by decide, by decide +kernel⟩, im_Mo_calls, se_Mo_calls⟩
theorem cv_Mo_raises : CV y_Mo_raises b_Mo_raises 2 none 1 := ⟨⟨cd_Mo_raises, in_Mo, by decide, by decide, by decide +kernel⟩, im_Mo_raises, se_Mo_raises⟩
theorem cv_Mo_searches : CV y_Mo_searches b_Mo_searches 5 (some .boolean) 0 := ⟨⟨cd_Mo_searches, in_Mo, by decide, by decide, by decide +kernel⟩, im_Mo_searches, se_Mo_searches⟩
theorem cv_Mo_headAt : CV y_Mo_headAt b_Mo_headAt 6 (some .int) 1 := ⟨⟨cd_Mo_headAt, in_Mo, by decide, by decide, by decide +kernel⟩, im_Mo_headAt, se_Mo_headAt⟩
theorem cv_Mo_isAnother : CV y_Mo_isAnother b_Mo_isAnother 4 (some .boolean) 2 := ⟨⟨cd_Mo_isAnother, in_Mo, by decide, by decide, by decide +kernel⟩, im_Mo_isAnother, se_Mo_isAnother⟩
theorem cv_Mo_unwinds : CV y_Mo_unwinds b_Mo_unwinds 6 none 1 := ⟨⟨cd_Mo_unwinds, in_Mo, by decide, by decide, by decide +kernel⟩, im_Mo_unwinds, se_Mo_unwinds⟩
theorem cv_Mo_count : CV y_Mo_count b_Mo_count 2 (some .int) 1 := ⟨⟨cd_Mo_count, in_Mo, by decide, by decide, by decide +kernel⟩, im_Mo_count, se_Mo_count⟩
theorem cv_Mo_out : CV y_Mo_out b_Mo_out 2 (some .int) 1 := ⟨⟨cd_Mo_out, in_Mo, by decide, by decide, by decide +kernel⟩, im_Mo_out, se_Mo_out⟩
end
section
/-! THE CLASS'S CELLS, in the order in which the constructor makes them -/
def txO (i : Nat) : Nat := 2 + 3 * i
def blO (i : Nat) : Nat := 24 + 2 * i
def prO (f : Nat) : Nat := 40 + 9 * f
def frO (i : Nat) : Nat := 95 + 2 * i
def sX (k : Nat) : tm_Sh :=
  if k = 0 then .inl (0, [some 1, some 20, some 22, some 34])
  else if k = 1 then .inr (.inr (1, 6, txO))
  else if k < 20 then (if (k - 2) % 3 = 0 then .inl (8, [some (k + 1), some (k + 2), none]) else .inr (.inl 20))
  else if k = 20 then .inl (2, [some 21, none])
  else if k = 21 then .inr (.inl 5)
  else if k = 22 then .inl (3, [some 23, none])
  else if k = 23 then .inr (.inr (2, 5, blO))
  else if k < 34 then (if (k - 24) % 2 = 0 then .inl (1, [none, none, none, none, none, some (k + 1), none]) else .inr (.inl 20))
  else if k = 34 then .inl (5, [some 35, some 39, some 37, some 94, none, none, none, none, none])
  else if k = 35 then .inl (9, [some 36, none])
  else if k = 36 then .inr (.inl 8)
  else if k = 37 then .inl (7, [some 38, none, none, none, none, none, none])
  else if k = 38 then .inr (.inl 60)
  else if k = 39 then .inr (.inr (3, 6, prO))
  else if k < 94 then (if (k - 40) % 9 = 0 then .inl (6, [some (k + 1), some (k + 2), none, some (k + 3), some (k + 4), some (k + 5), none, some (k + 6), some (k + 7), some (k + 8), none]) else if (k - 40) % 9 < 3 then .inr (.inl 81) else if (k - 40) % 9 < 6 then .inr (.inl 40) else .inr (.inl 20))
  else if k = 94 then .inr (.inr (4, 8, frO))
  else if (k - 95) % 2 = 0 then .inl (4, [none, none, some (k + 1), none]) else .inr (.inl 5)
/-- keys: 0 the object; 1 texts; 2 checker; 3 compiler; 4 blocks; 5 machine, types, parents, tally, numbers; 6 programs; 7 frames' array; 8 frames -/
def kX (k : Nat) : tm_K :=
  if k < 2 then (0, 0, k)
  else if k < 20 then (1, (k - 2) / 3, (k - 2) % 3)
  else if k < 22 then (2, 0, k - 20)
  else if k < 24 then (3, 0, k - 22)
  else if k < 34 then (4, (k - 24) / 2, (k - 24) % 2)
  else if k < 40 then (5, 0, k - 34)
  else if k < 94 then (6, (k - 40) / 9, (k - 40) % 9)
  else if k < 95 then (7, 0, 0)
  else (8, (k - 95) / 2, (k - 95) % 2)
def kX_back (K : tm_K) : Nat :=
  if K.1 = 0 then K.2.2 else if K.1 = 1 then 2 + 3 * K.2.1 + K.2.2 else if K.1 = 2 then 20 + K.2.2 else if K.1 = 3 then 22 + K.2.2 else if K.1 = 4 then 24 + 2 * K.2.1 + K.2.2 else if K.1 = 5 then 34 + K.2.2 else if K.1 = 6 then 40 + 9 * K.2.1 + K.2.2 else if K.1 = 7 then 94 else 95 + 2 * K.2.1 + K.2.2
theorem kX_bk (k : Nat) : kX_back (kX k) = k := by
  unfold kX
  repeat' split
  all_goals simp only [kX_back]
  all_goals simp
  all_goals omega
theorem kX_inj : ∀ a b, kX a = kX b → a = b := fun a b h => by rw [← kX_bk a, ← kX_bk b, h]
theorem q_tx {i : Nat} (hi : i < 6) : (txO i) < 111 ∧ sX (txO i) = .inl (8, [some (txO i + 1), some (txO i + 2), none]) ∧ kX (txO i) = (1, i, 0) := by
  match i, hi with
  | 0, _ => exact ⟨by decide, rfl, rfl⟩
  | 1, _ => exact ⟨by decide, rfl, rfl⟩
  | 2, _ => exact ⟨by decide, rfl, rfl⟩
  | 3, _ => exact ⟨by decide, rfl, rfl⟩
  | 4, _ => exact ⟨by decide, rfl, rfl⟩
  | 5, _ => exact ⟨by decide, rfl, rfl⟩
  | a + 6, h => omega
theorem q_tx1 {i : Nat} (hi : i < 6) : (txO i + 1) < 111 ∧ sX (txO i + 1) = .inr (.inl 20) ∧ kX (txO i + 1) = (1, i, 1) := by
  match i, hi with
  | 0, _ => exact ⟨by decide, rfl, rfl⟩
  | 1, _ => exact ⟨by decide, rfl, rfl⟩
  | 2, _ => exact ⟨by decide, rfl, rfl⟩
  | 3, _ => exact ⟨by decide, rfl, rfl⟩
  | 4, _ => exact ⟨by decide, rfl, rfl⟩
  | 5, _ => exact ⟨by decide, rfl, rfl⟩
  | a + 6, h => omega
theorem q_tx2 {i : Nat} (hi : i < 6) : (txO i + 2) < 111 ∧ sX (txO i + 2) = .inr (.inl 20) ∧ kX (txO i + 2) = (1, i, 2) := by
  match i, hi with
  | 0, _ => exact ⟨by decide, rfl, rfl⟩
  | 1, _ => exact ⟨by decide, rfl, rfl⟩
  | 2, _ => exact ⟨by decide, rfl, rfl⟩
  | 3, _ => exact ⟨by decide, rfl, rfl⟩
  | 4, _ => exact ⟨by decide, rfl, rfl⟩
  | 5, _ => exact ⟨by decide, rfl, rfl⟩
  | a + 6, h => omega
theorem q_bl {i : Nat} (hi : i < 5) : (blO i) < 111 ∧ sX (blO i) = .inl (1, [none, none, none, none, none, some (blO i + 1), none]) ∧ kX (blO i) = (4, i, 0) := by
  match i, hi with
  | 0, _ => exact ⟨by decide, rfl, rfl⟩
  | 1, _ => exact ⟨by decide, rfl, rfl⟩
  | 2, _ => exact ⟨by decide, rfl, rfl⟩
  | 3, _ => exact ⟨by decide, rfl, rfl⟩
  | 4, _ => exact ⟨by decide, rfl, rfl⟩
  | a + 5, h => omega
theorem q_bl1 {i : Nat} (hi : i < 5) : (blO i + 1) < 111 ∧ sX (blO i + 1) = .inr (.inl 20) ∧ kX (blO i + 1) = (4, i, 1) := by
  match i, hi with
  | 0, _ => exact ⟨by decide, rfl, rfl⟩
  | 1, _ => exact ⟨by decide, rfl, rfl⟩
  | 2, _ => exact ⟨by decide, rfl, rfl⟩
  | 3, _ => exact ⟨by decide, rfl, rfl⟩
  | 4, _ => exact ⟨by decide, rfl, rfl⟩
  | a + 5, h => omega
theorem q_pr {i : Nat} (hi : i < 6) : (prO i) < 111 ∧ sX (prO i) = .inl (6, [some (prO i + 1), some (prO i + 2), none, some (prO i + 3), some (prO i + 4), some (prO i + 5), none, some (prO i + 6), some (prO i + 7), some (prO i + 8), none]) ∧ kX (prO i) = (6, i, 0) := by
  match i, hi with
  | 0, _ => exact ⟨by decide, rfl, rfl⟩
  | 1, _ => exact ⟨by decide, rfl, rfl⟩
  | 2, _ => exact ⟨by decide, rfl, rfl⟩
  | 3, _ => exact ⟨by decide, rfl, rfl⟩
  | 4, _ => exact ⟨by decide, rfl, rfl⟩
  | 5, _ => exact ⟨by decide, rfl, rfl⟩
  | a + 6, h => omega
theorem q_pr1 {i : Nat} (hi : i < 6) : (prO i + 1) < 111 ∧ sX (prO i + 1) = .inr (.inl 81) ∧ kX (prO i + 1) = (6, i, 1) := by
  match i, hi with
  | 0, _ => exact ⟨by decide, rfl, rfl⟩
  | 1, _ => exact ⟨by decide, rfl, rfl⟩
  | 2, _ => exact ⟨by decide, rfl, rfl⟩
  | 3, _ => exact ⟨by decide, rfl, rfl⟩
  | 4, _ => exact ⟨by decide, rfl, rfl⟩
  | 5, _ => exact ⟨by decide, rfl, rfl⟩
  | a + 6, h => omega
theorem q_pr2 {i : Nat} (hi : i < 6) : (prO i + 2) < 111 ∧ sX (prO i + 2) = .inr (.inl 81) ∧ kX (prO i + 2) = (6, i, 2) := by
  match i, hi with
  | 0, _ => exact ⟨by decide, rfl, rfl⟩
  | 1, _ => exact ⟨by decide, rfl, rfl⟩
  | 2, _ => exact ⟨by decide, rfl, rfl⟩
  | 3, _ => exact ⟨by decide, rfl, rfl⟩
  | 4, _ => exact ⟨by decide, rfl, rfl⟩
  | 5, _ => exact ⟨by decide, rfl, rfl⟩
  | a + 6, h => omega
theorem q_pr3 {i : Nat} (hi : i < 6) : (prO i + 3) < 111 ∧ sX (prO i + 3) = .inr (.inl 40) ∧ kX (prO i + 3) = (6, i, 3) := by
  match i, hi with
  | 0, _ => exact ⟨by decide, rfl, rfl⟩
  | 1, _ => exact ⟨by decide, rfl, rfl⟩
  | 2, _ => exact ⟨by decide, rfl, rfl⟩
  | 3, _ => exact ⟨by decide, rfl, rfl⟩
  | 4, _ => exact ⟨by decide, rfl, rfl⟩
  | 5, _ => exact ⟨by decide, rfl, rfl⟩
  | a + 6, h => omega
theorem q_pr4 {i : Nat} (hi : i < 6) : (prO i + 4) < 111 ∧ sX (prO i + 4) = .inr (.inl 40) ∧ kX (prO i + 4) = (6, i, 4) := by
  match i, hi with
  | 0, _ => exact ⟨by decide, rfl, rfl⟩
  | 1, _ => exact ⟨by decide, rfl, rfl⟩
  | 2, _ => exact ⟨by decide, rfl, rfl⟩
  | 3, _ => exact ⟨by decide, rfl, rfl⟩
  | 4, _ => exact ⟨by decide, rfl, rfl⟩
  | 5, _ => exact ⟨by decide, rfl, rfl⟩
  | a + 6, h => omega
theorem q_pr5 {i : Nat} (hi : i < 6) : (prO i + 5) < 111 ∧ sX (prO i + 5) = .inr (.inl 40) ∧ kX (prO i + 5) = (6, i, 5) := by
  match i, hi with
  | 0, _ => exact ⟨by decide, rfl, rfl⟩
  | 1, _ => exact ⟨by decide, rfl, rfl⟩
  | 2, _ => exact ⟨by decide, rfl, rfl⟩
  | 3, _ => exact ⟨by decide, rfl, rfl⟩
  | 4, _ => exact ⟨by decide, rfl, rfl⟩
  | 5, _ => exact ⟨by decide, rfl, rfl⟩
  | a + 6, h => omega
theorem q_pr6 {i : Nat} (hi : i < 6) : (prO i + 6) < 111 ∧ sX (prO i + 6) = .inr (.inl 20) ∧ kX (prO i + 6) = (6, i, 6) := by
  match i, hi with
  | 0, _ => exact ⟨by decide, rfl, rfl⟩
  | 1, _ => exact ⟨by decide, rfl, rfl⟩
  | 2, _ => exact ⟨by decide, rfl, rfl⟩
  | 3, _ => exact ⟨by decide, rfl, rfl⟩
  | 4, _ => exact ⟨by decide, rfl, rfl⟩
  | 5, _ => exact ⟨by decide, rfl, rfl⟩
  | a + 6, h => omega
theorem q_pr7 {i : Nat} (hi : i < 6) : (prO i + 7) < 111 ∧ sX (prO i + 7) = .inr (.inl 20) ∧ kX (prO i + 7) = (6, i, 7) := by
  match i, hi with
  | 0, _ => exact ⟨by decide, rfl, rfl⟩
  | 1, _ => exact ⟨by decide, rfl, rfl⟩
  | 2, _ => exact ⟨by decide, rfl, rfl⟩
  | 3, _ => exact ⟨by decide, rfl, rfl⟩
  | 4, _ => exact ⟨by decide, rfl, rfl⟩
  | 5, _ => exact ⟨by decide, rfl, rfl⟩
  | a + 6, h => omega
theorem q_pr8 {i : Nat} (hi : i < 6) : (prO i + 8) < 111 ∧ sX (prO i + 8) = .inr (.inl 20) ∧ kX (prO i + 8) = (6, i, 8) := by
  match i, hi with
  | 0, _ => exact ⟨by decide, rfl, rfl⟩
  | 1, _ => exact ⟨by decide, rfl, rfl⟩
  | 2, _ => exact ⟨by decide, rfl, rfl⟩
  | 3, _ => exact ⟨by decide, rfl, rfl⟩
  | 4, _ => exact ⟨by decide, rfl, rfl⟩
  | 5, _ => exact ⟨by decide, rfl, rfl⟩
  | a + 6, h => omega
theorem q_fr {i : Nat} (hi : i < 8) : (frO i) < 111 ∧ sX (frO i) = .inl (4, [none, none, some (frO i + 1), none]) ∧ kX (frO i) = (8, i, 0) := by
  match i, hi with
  | 0, _ => exact ⟨by decide, rfl, rfl⟩
  | 1, _ => exact ⟨by decide, rfl, rfl⟩
  | 2, _ => exact ⟨by decide, rfl, rfl⟩
  | 3, _ => exact ⟨by decide, rfl, rfl⟩
  | 4, _ => exact ⟨by decide, rfl, rfl⟩
  | 5, _ => exact ⟨by decide, rfl, rfl⟩
  | 6, _ => exact ⟨by decide, rfl, rfl⟩
  | 7, _ => exact ⟨by decide, rfl, rfl⟩
  | a + 8, h => omega
theorem q_fr1 {i : Nat} (hi : i < 8) : (frO i + 1) < 111 ∧ sX (frO i + 1) = .inr (.inl 5) ∧ kX (frO i + 1) = (8, i, 1) := by
  match i, hi with
  | 0, _ => exact ⟨by decide, rfl, rfl⟩
  | 1, _ => exact ⟨by decide, rfl, rfl⟩
  | 2, _ => exact ⟨by decide, rfl, rfl⟩
  | 3, _ => exact ⟨by decide, rfl, rfl⟩
  | 4, _ => exact ⟨by decide, rfl, rfl⟩
  | 5, _ => exact ⟨by decide, rfl, rfl⟩
  | 6, _ => exact ⟨by decide, rfl, rfl⟩
  | 7, _ => exact ⟨by decide, rfl, rfl⟩
  | a + 8, h => omega
theorem q_0 : 0 < 111 ∧ sX 0 = .inl (0, [some 1, some 20, some 22, some 34]) ∧ kX 0 = (0, 0, 0) := ⟨by decide, rfl, rfl⟩
theorem q_1 : 1 < 111 ∧ sX 1 = .inr (.inr (1, 6, txO)) ∧ kX 1 = (0, 0, 1) := ⟨by decide, rfl, rfl⟩
theorem q_20 : 20 < 111 ∧ sX 20 = .inl (2, [some 21, none]) ∧ kX 20 = (2, 0, 0) := ⟨by decide, rfl, rfl⟩
theorem q_21 : 21 < 111 ∧ sX 21 = .inr (.inl 5) ∧ kX 21 = (2, 0, 1) := ⟨by decide, rfl, rfl⟩
theorem q_22 : 22 < 111 ∧ sX 22 = .inl (3, [some 23, none]) ∧ kX 22 = (3, 0, 0) := ⟨by decide, rfl, rfl⟩
theorem q_23 : 23 < 111 ∧ sX 23 = .inr (.inr (2, 5, blO)) ∧ kX 23 = (3, 0, 1) := ⟨by decide, rfl, rfl⟩
theorem q_34 : 34 < 111 ∧ sX 34 = .inl (5, [some 35, some 39, some 37, some 94, none, none, none, none, none]) ∧ kX 34 = (5, 0, 0) := ⟨by decide, rfl, rfl⟩
theorem q_35 : 35 < 111 ∧ sX 35 = .inl (9, [some 36, none]) ∧ kX 35 = (5, 0, 1) := ⟨by decide, rfl, rfl⟩
theorem q_36 : 36 < 111 ∧ sX 36 = .inr (.inl 8) ∧ kX 36 = (5, 0, 2) := ⟨by decide, rfl, rfl⟩
theorem q_37 : 37 < 111 ∧ sX 37 = .inl (7, [some 38, none, none, none, none, none, none]) ∧ kX 37 = (5, 0, 3) := ⟨by decide, rfl, rfl⟩
theorem q_38 : 38 < 111 ∧ sX 38 = .inr (.inl 60) ∧ kX 38 = (5, 0, 4) := ⟨by decide, rfl, rfl⟩
theorem q_39 : 39 < 111 ∧ sX 39 = .inr (.inr (3, 6, prO)) ∧ kX 39 = (5, 0, 5) := ⟨by decide, rfl, rfl⟩
theorem q_94 : 94 < 111 ∧ sX 94 = .inr (.inr (4, 8, frO)) ∧ kX 94 = (7, 0, 0) := ⟨by decide, rfl, rfl⟩
def bI (b : Prop) [Decidable b] : Int32 := if b then 1 else 0
theorem bI_t {b : Prop} [Decidable b] (h : b) : bI b = 1 := if_pos h
theorem bI_f {b : Prop} [Decidable b] (h : ¬ b) : bI b = 0 := if_neg h
/-- the class's world -/
abbrev wX (ad : Nat → Nat) (aC : Nat → ClassId) (x : tm_M) : Nat → va_E := tw ad aC sX kX x
/-- a contract of the class -/
abbrev OkX (l : Launch) (y : MethodName) (b : ByteArray) (mL : Nat) (ret : Option FieldType) (rm : Room) (D : va_G) (aC : Nat → ClassId) (ad : Nat → Nat) (av : List Value) (x : tm_M) (o : Option Value) (x' : tm_M) : Prop := Ok l y b mL ret rm D aC 111 ad av (wX ad aC x) o (wX ad aC x')
end
section
theorem rI {x : tm_M} {K : tm_K} {j : Nat} {v : Int32} : (sI x K j v).1 K j = v := by simp [sI, upd]
theorem rIj {x : tm_M} {K : tm_K} {j j' : Nat} {v : Int32} (h : j' ≠ j) : (sI x K j v).1 K j' = x.1 K j' := by simp [sI, upd, h]
theorem rIK {x : tm_M} {K K' : tm_K} {j : Nat} {v : Int32} (h : K' ≠ K) : (sI x K j v).1 K' = x.1 K' := by simp [sI, h]
theorem rIA {x : tm_M} {K : tm_K} {j : Nat} {v : Int32} : (sI x K j v).2 = x.2 := rfl
theorem rA {x : tm_M} {K : tm_K} {i : Nat} {v : Int32} : (sA x K i v).2 K i = v := by simp [sA, upd]
theorem rAi {x : tm_M} {K : tm_K} {i i' : Nat} {v : Int32} (h : i' ≠ i) : (sA x K i v).2 K i' = x.2 K i' := by simp [sA, upd, h]
theorem rAK {x : tm_M} {K K' : tm_K} {i : Nat} {v : Int32} (h : K' ≠ K) : (sA x K i v).2 K' = x.2 K' := by simp [sA, h]
theorem rAI {x : tm_M} {K : tm_K} {i : Nat} {v : Int32} : (sA x K i v).1 = x.1 := rfl
section MR
variable {p : Program} {l : Launch} {e : Env} {R : Room} {s : State} {m : MethodId} {args : Array Value} {below : List Frame} {meth : Method} {c : Code} {D : va_G} {A : Nat → Prop} {cells slots : Nat} {Q : State → Prop} {n : Nat} {ad : Nat → Nat} {w : Nat → va_E} {nL : Nat}
variable {cc : ByteArray} {own : String} {aC : Nat → ClassId} {pc : Nat} {lv : List (Nat × Value)} {st : List Value}
theorem j_topi {v : Int32} (v' : Int32) (h : v = v') (kk : J p l e R s m args below meth c D A cells slots Q n ad w nL pc lv (.int v' :: st)) : J p l e R s m args below meth c D A cells slots Q n ad w nL pc lv (.int v :: st) := h ▸ kk
theorem j_topr {v : Nat} (v' : Nat) (h : v = v') (kk : J p l e R s m args below meth c D A cells slots Q n ad w nL pc lv (.ref v' :: st)) : J p l e R s m args below meth c D A cells slots Q n ad w nL pc lv (.ref v :: st) := h ▸ kk
theorem j_x {sh : Nat → tm_Sh} {ky : Nat → tm_K} {x : tm_M} (x' : tm_M) (h : x = x') (kk : J p l e R s m args below meth c D A cells slots Q n ad (tw ad aC sh ky x') nL pc lv st) : J p l e R s m args below meth c D A cells slots Q n ad (tw ad aC sh ky x) nL pc lv st := h ▸ kk
end MR
theorem sv {v v' : Int32} (h : v' = v) : some (Value.int v) = some (Value.int v') := by rw [h]
theorem nIle {c t : Nat} (h : nI c ≤ nI t) (hc : c < 2 ^ 31) (ht : t < 2 ^ 31) : c ≤ t := (nI_leI hc ht).mp h
theorem nIlt {c t : Nat} (h : nI c < nI t) (hc : c < 2 ^ 31) (ht : t < 2 ^ 31) : c < t := (nI_ltI hc ht).mp h
theorem nInle {c t : Nat} (h : ¬ nI c ≤ nI t) (hc : c < 2 ^ 31) (ht : t < 2 ^ 31) : t < c := Nat.lt_of_not_le fun q => h ((nI_leI hc ht).mpr q)
theorem nInlt {c t : Nat} (h : ¬ nI c < nI t) (hc : c < 2 ^ 31) (ht : t < 2 ^ 31) : t ≤ c := Nat.le_of_not_lt fun q => h ((nI_ltI hc ht).mpr q)
end
section
set_option maxRecDepth 100000 in
theorem ok_Pr_hasInstruction {l : Launch} {D : va_G} {aC : Nat → ClassId} {ad : Nat → Nat} {f : Nat} (hf : f < 6) (x : tm_M) (k : Int32) :
    OkX l y_Pr_hasInstruction b_Pr_hasInstruction 2 (some .boolean) (rom 0 0) D aC ad [.ref (ad (prO f)), .int k] x (some (.int (bI (0 ≤ k ∧ k < x.1 (6, f, 0) 2)))) x := by
  refine ok_start (by decide) (Nat.le_of_ble_eq_true rfl) rfl ?_
  intro p e s m args below meth c B hr hlk hml
  have B : Cx p s m c args b_Pr_hasInstruction R_Pr D aC (rg 111 ad) 111 ad := B
  refine j_iloadn B d_Pr_hasInstruction_0 rfl ?_
  refine j_if_lt (tgt := 16) B d_Pr_hasInstruction_1 (by decide) (fun h1 => ?_) (fun h1 => ?_)
  · -- yes
    refine j_iconst (v := 0) B d_Pr_hasInstruction_16 (by decide) ?_
    exact j_zret B hr hlk d_Pr_hasInstruction_17 (by first | exact Or.inl rfl | exact Or.inr rfl) (by first | exact (congrArg (fun v => some (Value.int v)) (bI_f (fun h => absurd h.1 (Int32.not_le.mpr h1)))).symm | exact (congrArg (fun v => some (Value.int v)) (bI_f (fun h => absurd h.2 (Int32.not_lt.mpr h9)))).symm | exact (congrArg (fun v => some (Value.int v)) (bI_t ⟨Int32.not_lt.mp h1, Int32.not_le.mp h9⟩)).symm) (rfl)
  · -- no
    refine j_iloadn B d_Pr_hasInstruction_4 rfl ?_
    refine j_aloadn B d_Pr_hasInstruction_5 rfl ?_
    refine j_geti B fl_Pr_36 (q_pr hf) rfl d_Pr_hasInstruction_6 ?_
    refine j_icmp_ge (tgt := 16) B d_Pr_hasInstruction_9 (by decide) (fun h9 => ?_) (fun h9 => ?_)
    · -- yes
      refine j_iconst (v := 0) B d_Pr_hasInstruction_16 (by decide) ?_
      exact j_zret B hr hlk d_Pr_hasInstruction_17 (by first | exact Or.inl rfl | exact Or.inr rfl) (by first | exact (congrArg (fun v => some (Value.int v)) (bI_f (fun h => absurd h.1 (Int32.not_le.mpr h1)))).symm | exact (congrArg (fun v => some (Value.int v)) (bI_f (fun h => absurd h.2 (Int32.not_lt.mpr h9)))).symm | exact (congrArg (fun v => some (Value.int v)) (bI_t ⟨Int32.not_lt.mp h1, Int32.not_le.mp h9⟩)).symm) (rfl)
    · -- no
      refine j_iconst (v := 1) B d_Pr_hasInstruction_12 (by decide) ?_
      refine j_goto (tgt := 17) B d_Pr_hasInstruction_13 (by decide) ?_
      exact j_zret B hr hlk d_Pr_hasInstruction_17 (by first | exact Or.inl rfl | exact Or.inr rfl) (by first | exact (congrArg (fun v => some (Value.int v)) (bI_f (fun h => absurd h.1 (Int32.not_le.mpr h1)))).symm | exact (congrArg (fun v => some (Value.int v)) (bI_f (fun h => absurd h.2 (Int32.not_lt.mpr h9)))).symm | exact (congrArg (fun v => some (Value.int v)) (bI_t ⟨Int32.not_lt.mp h1, Int32.not_le.mp h9⟩)).symm) (rfl)
set_option maxRecDepth 100000 in
theorem ok_Pr_hasAction {l : Launch} {D : va_G} {aC : Nat → ClassId} {ad : Nat → Nat} {f : Nat} (hf : f < 6) (x : tm_M) (k : Int32) :
    OkX l y_Pr_hasAction b_Pr_hasAction 2 (some .boolean) (rom 0 0) D aC ad [.ref (ad (prO f)), .int k] x (some (.int (bI (0 ≤ k ∧ k < x.1 (6, f, 0) 6)))) x := by
  refine ok_start (by decide) (Nat.le_of_ble_eq_true rfl) rfl ?_
  intro p e s m args below meth c B hr hlk hml
  have B : Cx p s m c args b_Pr_hasAction R_Pr D aC (rg 111 ad) 111 ad := B
  refine j_iloadn B d_Pr_hasAction_0 rfl ?_
  refine j_if_lt (tgt := 16) B d_Pr_hasAction_1 (by decide) (fun h1 => ?_) (fun h1 => ?_)
  · -- yes
    refine j_iconst (v := 0) B d_Pr_hasAction_16 (by decide) ?_
    exact j_zret B hr hlk d_Pr_hasAction_17 (by first | exact Or.inl rfl | exact Or.inr rfl) (by first | exact (congrArg (fun v => some (Value.int v)) (bI_f (fun h => absurd h.1 (Int32.not_le.mpr h1)))).symm | exact (congrArg (fun v => some (Value.int v)) (bI_f (fun h => absurd h.2 (Int32.not_lt.mpr h9)))).symm | exact (congrArg (fun v => some (Value.int v)) (bI_t ⟨Int32.not_lt.mp h1, Int32.not_le.mp h9⟩)).symm) (rfl)
  · -- no
    refine j_iloadn B d_Pr_hasAction_4 rfl ?_
    refine j_aloadn B d_Pr_hasAction_5 rfl ?_
    refine j_geti B fl_Pr_40 (q_pr hf) rfl d_Pr_hasAction_6 ?_
    refine j_icmp_ge (tgt := 16) B d_Pr_hasAction_9 (by decide) (fun h9 => ?_) (fun h9 => ?_)
    · -- yes
      refine j_iconst (v := 0) B d_Pr_hasAction_16 (by decide) ?_
      exact j_zret B hr hlk d_Pr_hasAction_17 (by first | exact Or.inl rfl | exact Or.inr rfl) (by first | exact (congrArg (fun v => some (Value.int v)) (bI_f (fun h => absurd h.1 (Int32.not_le.mpr h1)))).symm | exact (congrArg (fun v => some (Value.int v)) (bI_f (fun h => absurd h.2 (Int32.not_lt.mpr h9)))).symm | exact (congrArg (fun v => some (Value.int v)) (bI_t ⟨Int32.not_lt.mp h1, Int32.not_le.mp h9⟩)).symm) (rfl)
    · -- no
      refine j_iconst (v := 1) B d_Pr_hasAction_12 (by decide) ?_
      refine j_goto (tgt := 17) B d_Pr_hasAction_13 (by decide) ?_
      exact j_zret B hr hlk d_Pr_hasAction_17 (by first | exact Or.inl rfl | exact Or.inr rfl) (by first | exact (congrArg (fun v => some (Value.int v)) (bI_f (fun h => absurd h.1 (Int32.not_le.mpr h1)))).symm | exact (congrArg (fun v => some (Value.int v)) (bI_f (fun h => absurd h.2 (Int32.not_lt.mpr h9)))).symm | exact (congrArg (fun v => some (Value.int v)) (bI_t ⟨Int32.not_lt.mp h1, Int32.not_le.mp h9⟩)).symm) (rfl)
set_option maxRecDepth 100000 in
theorem ok_Pr_hasSite {l : Launch} {D : va_G} {aC : Nat → ClassId} {ad : Nat → Nat} {f : Nat} (hf : f < 6) (x : tm_M) (k : Int32) :
    OkX l y_Pr_hasSite b_Pr_hasSite 2 (some .boolean) (rom 0 0) D aC ad [.ref (ad (prO f)), .int k] x (some (.int (bI (0 ≤ k ∧ k < x.1 (6, f, 0) 10)))) x := by
  refine ok_start (by decide) (Nat.le_of_ble_eq_true rfl) rfl ?_
  intro p e s m args below meth c B hr hlk hml
  have B : Cx p s m c args b_Pr_hasSite R_Pr D aC (rg 111 ad) 111 ad := B
  refine j_iloadn B d_Pr_hasSite_0 rfl ?_
  refine j_if_lt (tgt := 16) B d_Pr_hasSite_1 (by decide) (fun h1 => ?_) (fun h1 => ?_)
  · -- yes
    refine j_iconst (v := 0) B d_Pr_hasSite_16 (by decide) ?_
    exact j_zret B hr hlk d_Pr_hasSite_17 (by first | exact Or.inl rfl | exact Or.inr rfl) (by first | exact (congrArg (fun v => some (Value.int v)) (bI_f (fun h => absurd h.1 (Int32.not_le.mpr h1)))).symm | exact (congrArg (fun v => some (Value.int v)) (bI_f (fun h => absurd h.2 (Int32.not_lt.mpr h9)))).symm | exact (congrArg (fun v => some (Value.int v)) (bI_t ⟨Int32.not_lt.mp h1, Int32.not_le.mp h9⟩)).symm) (rfl)
  · -- no
    refine j_iloadn B d_Pr_hasSite_4 rfl ?_
    refine j_aloadn B d_Pr_hasSite_5 rfl ?_
    refine j_geti B fl_Pr_43 (q_pr hf) rfl d_Pr_hasSite_6 ?_
    refine j_icmp_ge (tgt := 16) B d_Pr_hasSite_9 (by decide) (fun h9 => ?_) (fun h9 => ?_)
    · -- yes
      refine j_iconst (v := 0) B d_Pr_hasSite_16 (by decide) ?_
      exact j_zret B hr hlk d_Pr_hasSite_17 (by first | exact Or.inl rfl | exact Or.inr rfl) (by first | exact (congrArg (fun v => some (Value.int v)) (bI_f (fun h => absurd h.1 (Int32.not_le.mpr h1)))).symm | exact (congrArg (fun v => some (Value.int v)) (bI_f (fun h => absurd h.2 (Int32.not_lt.mpr h9)))).symm | exact (congrArg (fun v => some (Value.int v)) (bI_t ⟨Int32.not_lt.mp h1, Int32.not_le.mp h9⟩)).symm) (rfl)
    · -- no
      refine j_iconst (v := 1) B d_Pr_hasSite_12 (by decide) ?_
      refine j_goto (tgt := 17) B d_Pr_hasSite_13 (by decide) ?_
      exact j_zret B hr hlk d_Pr_hasSite_17 (by first | exact Or.inl rfl | exact Or.inr rfl) (by first | exact (congrArg (fun v => some (Value.int v)) (bI_f (fun h => absurd h.1 (Int32.not_le.mpr h1)))).symm | exact (congrArg (fun v => some (Value.int v)) (bI_f (fun h => absurd h.2 (Int32.not_lt.mpr h9)))).symm | exact (congrArg (fun v => some (Value.int v)) (bI_t ⟨Int32.not_lt.mp h1, Int32.not_le.mp h9⟩)).symm) (rfl)
set_option maxRecDepth 100000 in
theorem ok_Ty_has {l : Launch} {D : va_G} {aC : Nat → ClassId} {ad : Nat → Nat}  (x : tm_M) (k : Int32) :
    OkX l y_Ty_has b_Ty_has 2 (some .boolean) (rom 0 0) D aC ad [.ref (ad 35), .int k] x (some (.int (bI (0 ≤ k ∧ k < x.1 (5, 0, 1) 1)))) x := by
  refine ok_start (by decide) (Nat.le_of_ble_eq_true rfl) rfl ?_
  intro p e s m args below meth c B hr hlk hml
  have B : Cx p s m c args b_Ty_has R_Ty D aC (rg 111 ad) 111 ad := B
  refine j_iloadn B d_Ty_has_0 rfl ?_
  refine j_if_lt (tgt := 16) B d_Ty_has_1 (by decide) (fun h1 => ?_) (fun h1 => ?_)
  · -- yes
    refine j_iconst (v := 0) B d_Ty_has_16 (by decide) ?_
    exact j_zret B hr hlk d_Ty_has_17 (by first | exact Or.inl rfl | exact Or.inr rfl) (by first | exact (congrArg (fun v => some (Value.int v)) (bI_f (fun h => absurd h.1 (Int32.not_le.mpr h1)))).symm | exact (congrArg (fun v => some (Value.int v)) (bI_f (fun h => absurd h.2 (Int32.not_lt.mpr h9)))).symm | exact (congrArg (fun v => some (Value.int v)) (bI_t ⟨Int32.not_lt.mp h1, Int32.not_le.mp h9⟩)).symm) (rfl)
  · -- no
    refine j_iloadn B d_Ty_has_4 rfl ?_
    refine j_aloadn B d_Ty_has_5 rfl ?_
    refine j_geti B fl_Ty_15 (q_35) rfl d_Ty_has_6 ?_
    refine j_icmp_ge (tgt := 16) B d_Ty_has_9 (by decide) (fun h9 => ?_) (fun h9 => ?_)
    · -- yes
      refine j_iconst (v := 0) B d_Ty_has_16 (by decide) ?_
      exact j_zret B hr hlk d_Ty_has_17 (by first | exact Or.inl rfl | exact Or.inr rfl) (by first | exact (congrArg (fun v => some (Value.int v)) (bI_f (fun h => absurd h.1 (Int32.not_le.mpr h1)))).symm | exact (congrArg (fun v => some (Value.int v)) (bI_f (fun h => absurd h.2 (Int32.not_lt.mpr h9)))).symm | exact (congrArg (fun v => some (Value.int v)) (bI_t ⟨Int32.not_lt.mp h1, Int32.not_le.mp h9⟩)).symm) (rfl)
    · -- no
      refine j_iconst (v := 1) B d_Ty_has_12 (by decide) ?_
      refine j_goto (tgt := 17) B d_Ty_has_13 (by decide) ?_
      exact j_zret B hr hlk d_Ty_has_17 (by first | exact Or.inl rfl | exact Or.inr rfl) (by first | exact (congrArg (fun v => some (Value.int v)) (bI_f (fun h => absurd h.1 (Int32.not_le.mpr h1)))).symm | exact (congrArg (fun v => some (Value.int v)) (bI_f (fun h => absurd h.2 (Int32.not_lt.mpr h9)))).symm | exact (congrArg (fun v => some (Value.int v)) (bI_t ⟨Int32.not_lt.mp h1, Int32.not_le.mp h9⟩)).symm) (rfl)
set_option maxRecDepth 100000 in
theorem ok_Tx_has {l : Launch} {D : va_G} {aC : Nat → ClassId} {ad : Nat → Nat} {f : Nat} (hf : f < 6) (x : tm_M) (k : Int32) :
    OkX l y_Tx_has b_Tx_has 2 (some .boolean) (rom 0 0) D aC ad [.ref (ad (txO f)), .int k] x (some (.int (bI (0 ≤ k ∧ k < x.1 (1, f, 0) 2)))) x := by
  refine ok_start (by decide) (Nat.le_of_ble_eq_true rfl) rfl ?_
  intro p e s m args below meth c B hr hlk hml
  have B : Cx p s m c args b_Tx_has R_Tx D aC (rg 111 ad) 111 ad := B
  refine j_iloadn B d_Tx_has_0 rfl ?_
  refine j_if_lt (tgt := 16) B d_Tx_has_1 (by decide) (fun h1 => ?_) (fun h1 => ?_)
  · -- yes
    refine j_iconst (v := 0) B d_Tx_has_16 (by decide) ?_
    exact j_zret B hr hlk d_Tx_has_17 (by first | exact Or.inl rfl | exact Or.inr rfl) (by first | exact (congrArg (fun v => some (Value.int v)) (bI_f (fun h => absurd h.1 (Int32.not_le.mpr h1)))).symm | exact (congrArg (fun v => some (Value.int v)) (bI_f (fun h => absurd h.2 (Int32.not_lt.mpr h9)))).symm | exact (congrArg (fun v => some (Value.int v)) (bI_t ⟨Int32.not_lt.mp h1, Int32.not_le.mp h9⟩)).symm) (rfl)
  · -- no
    refine j_iloadn B d_Tx_has_4 rfl ?_
    refine j_aloadn B d_Tx_has_5 rfl ?_
    refine j_geti B fl_Tx_18 (q_tx hf) rfl d_Tx_has_6 ?_
    refine j_icmp_ge (tgt := 16) B d_Tx_has_9 (by decide) (fun h9 => ?_) (fun h9 => ?_)
    · -- yes
      refine j_iconst (v := 0) B d_Tx_has_16 (by decide) ?_
      exact j_zret B hr hlk d_Tx_has_17 (by first | exact Or.inl rfl | exact Or.inr rfl) (by first | exact (congrArg (fun v => some (Value.int v)) (bI_f (fun h => absurd h.1 (Int32.not_le.mpr h1)))).symm | exact (congrArg (fun v => some (Value.int v)) (bI_f (fun h => absurd h.2 (Int32.not_lt.mpr h9)))).symm | exact (congrArg (fun v => some (Value.int v)) (bI_t ⟨Int32.not_lt.mp h1, Int32.not_le.mp h9⟩)).symm) (rfl)
    · -- no
      refine j_iconst (v := 1) B d_Tx_has_12 (by decide) ?_
      refine j_goto (tgt := 17) B d_Tx_has_13 (by decide) ?_
      exact j_zret B hr hlk d_Tx_has_17 (by first | exact Or.inl rfl | exact Or.inr rfl) (by first | exact (congrArg (fun v => some (Value.int v)) (bI_f (fun h => absurd h.1 (Int32.not_le.mpr h1)))).symm | exact (congrArg (fun v => some (Value.int v)) (bI_f (fun h => absurd h.2 (Int32.not_lt.mpr h9)))).symm | exact (congrArg (fun v => some (Value.int v)) (bI_t ⟨Int32.not_lt.mp h1, Int32.not_le.mp h9⟩)).symm) (rfl)
set_option maxRecDepth 100000 in
theorem ok_Ta_hasNumber {l : Launch} {D : va_G} {aC : Nat → ClassId} {ad : Nat → Nat}  (x : tm_M) (k : Int32) :
    OkX l y_Ta_hasNumber b_Ta_hasNumber 2 (some .boolean) (rom 0 0) D aC ad [.ref (ad 37), .int k] x (some (.int (bI (0 ≤ k ∧ k < x.1 (5, 0, 3) 1)))) x := by
  refine ok_start (by decide) (Nat.le_of_ble_eq_true rfl) rfl ?_
  intro p e s m args below meth c B hr hlk hml
  have B : Cx p s m c args b_Ta_hasNumber R_Ta D aC (rg 111 ad) 111 ad := B
  refine j_iloadn B d_Ta_hasNumber_0 rfl ?_
  refine j_if_lt (tgt := 16) B d_Ta_hasNumber_1 (by decide) (fun h1 => ?_) (fun h1 => ?_)
  · -- yes
    refine j_iconst (v := 0) B d_Ta_hasNumber_16 (by decide) ?_
    exact j_zret B hr hlk d_Ta_hasNumber_17 (by first | exact Or.inl rfl | exact Or.inr rfl) (by first | exact (congrArg (fun v => some (Value.int v)) (bI_f (fun h => absurd h.1 (Int32.not_le.mpr h1)))).symm | exact (congrArg (fun v => some (Value.int v)) (bI_f (fun h => absurd h.2 (Int32.not_lt.mpr h9)))).symm | exact (congrArg (fun v => some (Value.int v)) (bI_t ⟨Int32.not_lt.mp h1, Int32.not_le.mp h9⟩)).symm) (rfl)
  · -- no
    refine j_iloadn B d_Ta_hasNumber_4 rfl ?_
    refine j_aloadn B d_Ta_hasNumber_5 rfl ?_
    refine j_geti B fl_Ta_19 (q_37) rfl d_Ta_hasNumber_6 ?_
    refine j_icmp_ge (tgt := 16) B d_Ta_hasNumber_9 (by decide) (fun h9 => ?_) (fun h9 => ?_)
    · -- yes
      refine j_iconst (v := 0) B d_Ta_hasNumber_16 (by decide) ?_
      exact j_zret B hr hlk d_Ta_hasNumber_17 (by first | exact Or.inl rfl | exact Or.inr rfl) (by first | exact (congrArg (fun v => some (Value.int v)) (bI_f (fun h => absurd h.1 (Int32.not_le.mpr h1)))).symm | exact (congrArg (fun v => some (Value.int v)) (bI_f (fun h => absurd h.2 (Int32.not_lt.mpr h9)))).symm | exact (congrArg (fun v => some (Value.int v)) (bI_t ⟨Int32.not_lt.mp h1, Int32.not_le.mp h9⟩)).symm) (rfl)
    · -- no
      refine j_iconst (v := 1) B d_Ta_hasNumber_12 (by decide) ?_
      refine j_goto (tgt := 17) B d_Ta_hasNumber_13 (by decide) ?_
      exact j_zret B hr hlk d_Ta_hasNumber_17 (by first | exact Or.inl rfl | exact Or.inr rfl) (by first | exact (congrArg (fun v => some (Value.int v)) (bI_f (fun h => absurd h.1 (Int32.not_le.mpr h1)))).symm | exact (congrArg (fun v => some (Value.int v)) (bI_f (fun h => absurd h.2 (Int32.not_lt.mpr h9)))).symm | exact (congrArg (fun v => some (Value.int v)) (bI_t ⟨Int32.not_lt.mp h1, Int32.not_le.mp h9⟩)).symm) (rfl)
theorem bI_ne {b : Prop} [Decidable b] (h : ¬ bI b = 0) : b := by
  by_cases hb : b
  · exact hb
  · exact absurd (bI_f hb) h
theorem bI_e {b : Prop} [Decidable b] (h : bI b = 0) : ¬ b := fun hb => by rw [bI_t hb] at h; exact absurd h (by decide)
/-- a guarded index is a number in range -/
theorem ixg {k c : Int32} {a N : Nat} (h : 0 ≤ k ∧ k < c) (hc : c = nI a) (ha : a ≤ N) (hN : N < 2 ^ 31) : k = nI k.toNatClampNeg ∧ k.toNatClampNeg < N ∧ N < 2 ^ 31 := by
  obtain ⟨j, hj, rfl⟩ := nI_of (x := k) (Int32.not_lt.mpr h.1)
  rw [nI_clamp hj]
  refine ⟨rfl, ?_, hN⟩
  have h2 := h.2
  rw [hc] at h2
  have := (nI_ltI hj (by omega)).mp h2
  omega
set_option maxRecDepth 100000 in
theorem ok_Pr_letterAt {l : Launch} {D : va_G} {aC : Nat → ClassId} {ad : Nat → Nat} {f : Nat} (hf : f < 6) (x : tm_M) (k : Int32) {a : Nat} (hc : x.1 (6, f, 0) 2 = nI a) (hN : a ≤ 81) :
    OkX l y_Pr_letterAt b_Pr_letterAt 2 (some .int) (rom 1 21) D aC ad [.ref (ad (prO f)), .int k] x (some (.int (if 0 ≤ k ∧ k < x.1 (6, f, 0) 2 then x.2 (6, f, 1) k.toNatClampNeg else 8))) x := by
  refine ok_start (by decide) (Nat.le_of_ble_eq_true rfl) rfl ?_
  intro p e s m args below meth c B hr hlk hml
  have B : Cx p s m c args b_Pr_letterAt R_Pr D aC (rg 111 ad) 111 ad := B
  refine j_aloadn B d_Pr_letterAt_0 rfl ?_
  refine j_iloadn B d_Pr_letterAt_1 rfl ?_
  refine j_cVt B (ok_Pr_hasInstruction hf x k) cv_Pr_hasInstruction ml_Pr_46 (q_pr hf) rfl rfl ⟨rfl, rfl, by decide, by decide⟩ ⟨Nat.zero_le _, Nat.zero_le _⟩ hml (Nat.le_of_ble_eq_true rfl) rfl d_Pr_letterAt_2 ?_
  refine j_if_eq (tgt := 17) B d_Pr_letterAt_5 (by decide) (fun h5 => ?_) (fun h5 => ?_)
  · -- yes
    refine j_bipush (v := 8) B d_Pr_letterAt_17 (by decide) ?_
    exact j_iret B hr hlk d_Pr_letterAt_19 (by first | rw [if_pos (bI_ne h5)] | rw [if_neg (bI_e h5)]) (rfl)
  · -- no
    refine j_aloadn B d_Pr_letterAt_8 rfl ?_
    refine j_getr B fl_Pr_9 (q_pr hf) rfl d_Pr_letterAt_9 ?_
    refine j_iloadn B d_Pr_letterAt_12 rfl ?_
    refine j_iald B (q_pr1 hf) (ixg (bI_ne h5) hc hN (by decide)) d_Pr_letterAt_13 ?_
    refine j_goto (tgt := 19) B d_Pr_letterAt_14 (by decide) ?_
    exact j_iret B hr hlk d_Pr_letterAt_19 (by first | rw [if_pos (bI_ne h5)] | rw [if_neg (bI_e h5)]) (rfl)
set_option maxRecDepth 100000 in
theorem ok_Pr_valueAt {l : Launch} {D : va_G} {aC : Nat → ClassId} {ad : Nat → Nat} {f : Nat} (hf : f < 6) (x : tm_M) (k : Int32) {a : Nat} (hc : x.1 (6, f, 0) 2 = nI a) (hN : a ≤ 81) :
    OkX l y_Pr_valueAt b_Pr_valueAt 2 (some .int) (rom 1 21) D aC ad [.ref (ad (prO f)), .int k] x (some (.int (if 0 ≤ k ∧ k < x.1 (6, f, 0) 2 then x.2 (6, f, 2) k.toNatClampNeg else 0))) x := by
  refine ok_start (by decide) (Nat.le_of_ble_eq_true rfl) rfl ?_
  intro p e s m args below meth c B hr hlk hml
  have B : Cx p s m c args b_Pr_valueAt R_Pr D aC (rg 111 ad) 111 ad := B
  refine j_aloadn B d_Pr_valueAt_0 rfl ?_
  refine j_iloadn B d_Pr_valueAt_1 rfl ?_
  refine j_cVt B (ok_Pr_hasInstruction hf x k) cv_Pr_hasInstruction ml_Pr_46 (q_pr hf) rfl rfl ⟨rfl, rfl, by decide, by decide⟩ ⟨Nat.zero_le _, Nat.zero_le _⟩ hml (Nat.le_of_ble_eq_true rfl) rfl d_Pr_valueAt_2 ?_
  refine j_if_eq (tgt := 17) B d_Pr_valueAt_5 (by decide) (fun h5 => ?_) (fun h5 => ?_)
  · -- yes
    refine j_iconst (v := 0) B d_Pr_valueAt_17 (by decide) ?_
    exact j_iret B hr hlk d_Pr_valueAt_18 (by first | rw [if_pos (bI_ne h5)] | rw [if_neg (bI_e h5)]) (rfl)
  · -- no
    refine j_aloadn B d_Pr_valueAt_8 rfl ?_
    refine j_getr B fl_Pr_15 (q_pr hf) rfl d_Pr_valueAt_9 ?_
    refine j_iloadn B d_Pr_valueAt_12 rfl ?_
    refine j_iald B (q_pr2 hf) (ixg (bI_ne h5) hc hN (by decide)) d_Pr_valueAt_13 ?_
    refine j_goto (tgt := 18) B d_Pr_valueAt_14 (by decide) ?_
    exact j_iret B hr hlk d_Pr_valueAt_18 (by first | rw [if_pos (bI_ne h5)] | rw [if_neg (bI_e h5)]) (rfl)
set_option maxRecDepth 100000 in
theorem ok_Pr_filterOf {l : Launch} {D : va_G} {aC : Nat → ClassId} {ad : Nat → Nat} {f : Nat} (hf : f < 6) (x : tm_M) (k : Int32) {a : Nat} (hc : x.1 (6, f, 0) 6 = nI a) (hN : a ≤ 40) :
    OkX l y_Pr_filterOf b_Pr_filterOf 2 (some .int) (rom 1 21) D aC ad [.ref (ad (prO f)), .int k] x (some (.int (if 0 ≤ k ∧ k < x.1 (6, f, 0) 6 then x.2 (6, f, 3) k.toNatClampNeg else -2))) x := by
  refine ok_start (by decide) (Nat.le_of_ble_eq_true rfl) rfl ?_
  intro p e s m args below meth c B hr hlk hml
  have B : Cx p s m c args b_Pr_filterOf R_Pr D aC (rg 111 ad) 111 ad := B
  refine j_aloadn B d_Pr_filterOf_0 rfl ?_
  refine j_iloadn B d_Pr_filterOf_1 rfl ?_
  refine j_cVt B (ok_Pr_hasAction hf x k) cv_Pr_hasAction ml_Pr_50 (q_pr hf) rfl rfl ⟨rfl, rfl, by decide, by decide⟩ ⟨Nat.zero_le _, Nat.zero_le _⟩ hml (Nat.le_of_ble_eq_true rfl) rfl d_Pr_filterOf_2 ?_
  refine j_if_eq (tgt := 17) B d_Pr_filterOf_5 (by decide) (fun h5 => ?_) (fun h5 => ?_)
  · -- yes
    refine j_bipush (v := (-2)) B d_Pr_filterOf_17 (by decide) ?_
    exact j_iret B hr hlk d_Pr_filterOf_19 (by first | rw [if_pos (bI_ne h5)] | rw [if_neg (bI_e h5)]) (rfl)
  · -- no
    refine j_aloadn B d_Pr_filterOf_8 rfl ?_
    refine j_getr B fl_Pr_18 (q_pr hf) rfl d_Pr_filterOf_9 ?_
    refine j_iloadn B d_Pr_filterOf_12 rfl ?_
    refine j_iald B (q_pr3 hf) (ixg (bI_ne h5) hc hN (by decide)) d_Pr_filterOf_13 ?_
    refine j_goto (tgt := 19) B d_Pr_filterOf_14 (by decide) ?_
    exact j_iret B hr hlk d_Pr_filterOf_19 (by first | rw [if_pos (bI_ne h5)] | rw [if_neg (bI_e h5)]) (rfl)
set_option maxRecDepth 100000 in
theorem ok_Pr_landingOf {l : Launch} {D : va_G} {aC : Nat → ClassId} {ad : Nat → Nat} {f : Nat} (hf : f < 6) (x : tm_M) (k : Int32) {a : Nat} (hc : x.1 (6, f, 0) 6 = nI a) (hN : a ≤ 40) :
    OkX l y_Pr_landingOf b_Pr_landingOf 2 (some .int) (rom 1 21) D aC ad [.ref (ad (prO f)), .int k] x (some (.int (if 0 ≤ k ∧ k < x.1 (6, f, 0) 6 then x.2 (6, f, 4) k.toNatClampNeg else 0))) x := by
  refine ok_start (by decide) (Nat.le_of_ble_eq_true rfl) rfl ?_
  intro p e s m args below meth c B hr hlk hml
  have B : Cx p s m c args b_Pr_landingOf R_Pr D aC (rg 111 ad) 111 ad := B
  refine j_aloadn B d_Pr_landingOf_0 rfl ?_
  refine j_iloadn B d_Pr_landingOf_1 rfl ?_
  refine j_cVt B (ok_Pr_hasAction hf x k) cv_Pr_hasAction ml_Pr_50 (q_pr hf) rfl rfl ⟨rfl, rfl, by decide, by decide⟩ ⟨Nat.zero_le _, Nat.zero_le _⟩ hml (Nat.le_of_ble_eq_true rfl) rfl d_Pr_landingOf_2 ?_
  refine j_if_eq (tgt := 17) B d_Pr_landingOf_5 (by decide) (fun h5 => ?_) (fun h5 => ?_)
  · -- yes
    refine j_iconst (v := 0) B d_Pr_landingOf_17 (by decide) ?_
    exact j_iret B hr hlk d_Pr_landingOf_18 (by first | rw [if_pos (bI_ne h5)] | rw [if_neg (bI_e h5)]) (rfl)
  · -- no
    refine j_aloadn B d_Pr_landingOf_8 rfl ?_
    refine j_getr B fl_Pr_21 (q_pr hf) rfl d_Pr_landingOf_9 ?_
    refine j_iloadn B d_Pr_landingOf_12 rfl ?_
    refine j_iald B (q_pr4 hf) (ixg (bI_ne h5) hc hN (by decide)) d_Pr_landingOf_13 ?_
    refine j_goto (tgt := 18) B d_Pr_landingOf_14 (by decide) ?_
    exact j_iret B hr hlk d_Pr_landingOf_18 (by first | rw [if_pos (bI_ne h5)] | rw [if_neg (bI_e h5)]) (rfl)
set_option maxRecDepth 100000 in
theorem ok_Pr_nextOf {l : Launch} {D : va_G} {aC : Nat → ClassId} {ad : Nat → Nat} {f : Nat} (hf : f < 6) (x : tm_M) (k : Int32) {a : Nat} (hc : x.1 (6, f, 0) 6 = nI a) (hN : a ≤ 40) :
    OkX l y_Pr_nextOf b_Pr_nextOf 2 (some .int) (rom 1 21) D aC ad [.ref (ad (prO f)), .int k] x (some (.int (if 0 ≤ k ∧ k < x.1 (6, f, 0) 6 then x.2 (6, f, 5) k.toNatClampNeg else -1))) x := by
  refine ok_start (by decide) (Nat.le_of_ble_eq_true rfl) rfl ?_
  intro p e s m args below meth c B hr hlk hml
  have B : Cx p s m c args b_Pr_nextOf R_Pr D aC (rg 111 ad) 111 ad := B
  refine j_aloadn B d_Pr_nextOf_0 rfl ?_
  refine j_iloadn B d_Pr_nextOf_1 rfl ?_
  refine j_cVt B (ok_Pr_hasAction hf x k) cv_Pr_hasAction ml_Pr_50 (q_pr hf) rfl rfl ⟨rfl, rfl, by decide, by decide⟩ ⟨Nat.zero_le _, Nat.zero_le _⟩ hml (Nat.le_of_ble_eq_true rfl) rfl d_Pr_nextOf_2 ?_
  refine j_if_eq (tgt := 17) B d_Pr_nextOf_5 (by decide) (fun h5 => ?_) (fun h5 => ?_)
  · -- yes
    refine j_iconst (v := (-1)) B d_Pr_nextOf_17 (by decide) ?_
    exact j_iret B hr hlk d_Pr_nextOf_18 (by first | rw [if_pos (bI_ne h5)] | rw [if_neg (bI_e h5)]) (rfl)
  · -- no
    refine j_aloadn B d_Pr_nextOf_8 rfl ?_
    refine j_getr B fl_Pr_24 (q_pr hf) rfl d_Pr_nextOf_9 ?_
    refine j_iloadn B d_Pr_nextOf_12 rfl ?_
    refine j_iald B (q_pr5 hf) (ixg (bI_ne h5) hc hN (by decide)) d_Pr_nextOf_13 ?_
    refine j_goto (tgt := 18) B d_Pr_nextOf_14 (by decide) ?_
    exact j_iret B hr hlk d_Pr_nextOf_18 (by first | rw [if_pos (bI_ne h5)] | rw [if_neg (bI_e h5)]) (rfl)
set_option maxRecDepth 100000 in
theorem ok_Pr_firstPlaceOf {l : Launch} {D : va_G} {aC : Nat → ClassId} {ad : Nat → Nat} {f : Nat} (hf : f < 6) (x : tm_M) (k : Int32) {a : Nat} (hc : x.1 (6, f, 0) 10 = nI a) (hN : a ≤ 20) :
    OkX l y_Pr_firstPlaceOf b_Pr_firstPlaceOf 2 (some .int) (rom 1 21) D aC ad [.ref (ad (prO f)), .int k] x (some (.int (if 0 ≤ k ∧ k < x.1 (6, f, 0) 10 then x.2 (6, f, 6) k.toNatClampNeg else -1))) x := by
  refine ok_start (by decide) (Nat.le_of_ble_eq_true rfl) rfl ?_
  intro p e s m args below meth c B hr hlk hml
  have B : Cx p s m c args b_Pr_firstPlaceOf R_Pr D aC (rg 111 ad) 111 ad := B
  refine j_aloadn B d_Pr_firstPlaceOf_0 rfl ?_
  refine j_iloadn B d_Pr_firstPlaceOf_1 rfl ?_
  refine j_cVt B (ok_Pr_hasSite hf x k) cv_Pr_hasSite ml_Pr_53 (q_pr hf) rfl rfl ⟨rfl, rfl, by decide, by decide⟩ ⟨Nat.zero_le _, Nat.zero_le _⟩ hml (Nat.le_of_ble_eq_true rfl) rfl d_Pr_firstPlaceOf_2 ?_
  refine j_if_eq (tgt := 17) B d_Pr_firstPlaceOf_5 (by decide) (fun h5 => ?_) (fun h5 => ?_)
  · -- yes
    refine j_iconst (v := (-1)) B d_Pr_firstPlaceOf_17 (by decide) ?_
    exact j_iret B hr hlk d_Pr_firstPlaceOf_18 (by first | rw [if_pos (bI_ne h5)] | rw [if_neg (bI_e h5)]) (rfl)
  · -- no
    refine j_aloadn B d_Pr_firstPlaceOf_8 rfl ?_
    refine j_getr B fl_Pr_27 (q_pr hf) rfl d_Pr_firstPlaceOf_9 ?_
    refine j_iloadn B d_Pr_firstPlaceOf_12 rfl ?_
    refine j_iald B (q_pr6 hf) (ixg (bI_ne h5) hc hN (by decide)) d_Pr_firstPlaceOf_13 ?_
    refine j_goto (tgt := 18) B d_Pr_firstPlaceOf_14 (by decide) ?_
    exact j_iret B hr hlk d_Pr_firstPlaceOf_18 (by first | rw [if_pos (bI_ne h5)] | rw [if_neg (bI_e h5)]) (rfl)
set_option maxRecDepth 100000 in
theorem ok_Pr_lastPlaceOf {l : Launch} {D : va_G} {aC : Nat → ClassId} {ad : Nat → Nat} {f : Nat} (hf : f < 6) (x : tm_M) (k : Int32) {a : Nat} (hc : x.1 (6, f, 0) 10 = nI a) (hN : a ≤ 20) :
    OkX l y_Pr_lastPlaceOf b_Pr_lastPlaceOf 2 (some .int) (rom 1 21) D aC ad [.ref (ad (prO f)), .int k] x (some (.int (if 0 ≤ k ∧ k < x.1 (6, f, 0) 10 then x.2 (6, f, 7) k.toNatClampNeg else -1))) x := by
  refine ok_start (by decide) (Nat.le_of_ble_eq_true rfl) rfl ?_
  intro p e s m args below meth c B hr hlk hml
  have B : Cx p s m c args b_Pr_lastPlaceOf R_Pr D aC (rg 111 ad) 111 ad := B
  refine j_aloadn B d_Pr_lastPlaceOf_0 rfl ?_
  refine j_iloadn B d_Pr_lastPlaceOf_1 rfl ?_
  refine j_cVt B (ok_Pr_hasSite hf x k) cv_Pr_hasSite ml_Pr_53 (q_pr hf) rfl rfl ⟨rfl, rfl, by decide, by decide⟩ ⟨Nat.zero_le _, Nat.zero_le _⟩ hml (Nat.le_of_ble_eq_true rfl) rfl d_Pr_lastPlaceOf_2 ?_
  refine j_if_eq (tgt := 17) B d_Pr_lastPlaceOf_5 (by decide) (fun h5 => ?_) (fun h5 => ?_)
  · -- yes
    refine j_iconst (v := (-1)) B d_Pr_lastPlaceOf_17 (by decide) ?_
    exact j_iret B hr hlk d_Pr_lastPlaceOf_18 (by first | rw [if_pos (bI_ne h5)] | rw [if_neg (bI_e h5)]) (rfl)
  · -- no
    refine j_aloadn B d_Pr_lastPlaceOf_8 rfl ?_
    refine j_getr B fl_Pr_30 (q_pr hf) rfl d_Pr_lastPlaceOf_9 ?_
    refine j_iloadn B d_Pr_lastPlaceOf_12 rfl ?_
    refine j_iald B (q_pr7 hf) (ixg (bI_ne h5) hc hN (by decide)) d_Pr_lastPlaceOf_13 ?_
    refine j_goto (tgt := 18) B d_Pr_lastPlaceOf_14 (by decide) ?_
    exact j_iret B hr hlk d_Pr_lastPlaceOf_18 (by first | rw [if_pos (bI_ne h5)] | rw [if_neg (bI_e h5)]) (rfl)
set_option maxRecDepth 100000 in
theorem ok_Pr_siteHeadOf {l : Launch} {D : va_G} {aC : Nat → ClassId} {ad : Nat → Nat} {f : Nat} (hf : f < 6) (x : tm_M) (k : Int32) {a : Nat} (hc : x.1 (6, f, 0) 10 = nI a) (hN : a ≤ 20) :
    OkX l y_Pr_siteHeadOf b_Pr_siteHeadOf 2 (some .int) (rom 1 21) D aC ad [.ref (ad (prO f)), .int k] x (some (.int (if 0 ≤ k ∧ k < x.1 (6, f, 0) 10 then x.2 (6, f, 8) k.toNatClampNeg else -1))) x := by
  refine ok_start (by decide) (Nat.le_of_ble_eq_true rfl) rfl ?_
  intro p e s m args below meth c B hr hlk hml
  have B : Cx p s m c args b_Pr_siteHeadOf R_Pr D aC (rg 111 ad) 111 ad := B
  refine j_aloadn B d_Pr_siteHeadOf_0 rfl ?_
  refine j_iloadn B d_Pr_siteHeadOf_1 rfl ?_
  refine j_cVt B (ok_Pr_hasSite hf x k) cv_Pr_hasSite ml_Pr_53 (q_pr hf) rfl rfl ⟨rfl, rfl, by decide, by decide⟩ ⟨Nat.zero_le _, Nat.zero_le _⟩ hml (Nat.le_of_ble_eq_true rfl) rfl d_Pr_siteHeadOf_2 ?_
  refine j_if_eq (tgt := 17) B d_Pr_siteHeadOf_5 (by decide) (fun h5 => ?_) (fun h5 => ?_)
  · -- yes
    refine j_iconst (v := (-1)) B d_Pr_siteHeadOf_17 (by decide) ?_
    exact j_iret B hr hlk d_Pr_siteHeadOf_18 (by first | rw [if_pos (bI_ne h5)] | rw [if_neg (bI_e h5)]) (rfl)
  · -- no
    refine j_aloadn B d_Pr_siteHeadOf_8 rfl ?_
    refine j_getr B fl_Pr_33 (q_pr hf) rfl d_Pr_siteHeadOf_9 ?_
    refine j_iloadn B d_Pr_siteHeadOf_12 rfl ?_
    refine j_iald B (q_pr8 hf) (ixg (bI_ne h5) hc hN (by decide)) d_Pr_siteHeadOf_13 ?_
    refine j_goto (tgt := 18) B d_Pr_siteHeadOf_14 (by decide) ?_
    exact j_iret B hr hlk d_Pr_siteHeadOf_18 (by first | rw [if_pos (bI_ne h5)] | rw [if_neg (bI_e h5)]) (rfl)
set_option maxRecDepth 100000 in
theorem ok_Tx_statementAt {l : Launch} {D : va_G} {aC : Nat → ClassId} {ad : Nat → Nat} {f : Nat} (hf : f < 6) (x : tm_M) (k : Int32) {a : Nat} (hc : x.1 (1, f, 0) 2 = nI a) (hN : a ≤ 20) :
    OkX l y_Tx_statementAt b_Tx_statementAt 2 (some .int) (rom 1 21) D aC ad [.ref (ad (txO f)), .int k] x (some (.int (if 0 ≤ k ∧ k < x.1 (1, f, 0) 2 then x.2 (1, f, 1) k.toNatClampNeg else -1))) x := by
  refine ok_start (by decide) (Nat.le_of_ble_eq_true rfl) rfl ?_
  intro p e s m args below meth c B hr hlk hml
  have B : Cx p s m c args b_Tx_statementAt R_Tx D aC (rg 111 ad) 111 ad := B
  refine j_aloadn B d_Tx_statementAt_0 rfl ?_
  refine j_iloadn B d_Tx_statementAt_1 rfl ?_
  refine j_cVt B (ok_Tx_has hf x k) cv_Tx_has ml_Tx_26 (q_tx hf) rfl rfl ⟨rfl, rfl, by decide, by decide⟩ ⟨Nat.zero_le _, Nat.zero_le _⟩ hml (Nat.le_of_ble_eq_true rfl) rfl d_Tx_statementAt_2 ?_
  refine j_if_eq (tgt := 17) B d_Tx_statementAt_5 (by decide) (fun h5 => ?_) (fun h5 => ?_)
  · -- yes
    refine j_iconst (v := (-1)) B d_Tx_statementAt_17 (by decide) ?_
    exact j_iret B hr hlk d_Tx_statementAt_18 (by first | rw [if_pos (bI_ne h5)] | rw [if_neg (bI_e h5)]) (rfl)
  · -- no
    refine j_aloadn B d_Tx_statementAt_8 rfl ?_
    refine j_getr B fl_Tx_9 (q_tx hf) rfl d_Tx_statementAt_9 ?_
    refine j_iloadn B d_Tx_statementAt_12 rfl ?_
    refine j_iald B (q_tx1 hf) (ixg (bI_ne h5) hc hN (by decide)) d_Tx_statementAt_13 ?_
    refine j_goto (tgt := 18) B d_Tx_statementAt_14 (by decide) ?_
    exact j_iret B hr hlk d_Tx_statementAt_18 (by first | rw [if_pos (bI_ne h5)] | rw [if_neg (bI_e h5)]) (rfl)
set_option maxRecDepth 100000 in
theorem ok_Tx_operandAt {l : Launch} {D : va_G} {aC : Nat → ClassId} {ad : Nat → Nat} {f : Nat} (hf : f < 6) (x : tm_M) (k : Int32) {a : Nat} (hc : x.1 (1, f, 0) 2 = nI a) (hN : a ≤ 20) :
    OkX l y_Tx_operandAt b_Tx_operandAt 2 (some .int) (rom 1 21) D aC ad [.ref (ad (txO f)), .int k] x (some (.int (if 0 ≤ k ∧ k < x.1 (1, f, 0) 2 then x.2 (1, f, 2) k.toNatClampNeg else -1))) x := by
  refine ok_start (by decide) (Nat.le_of_ble_eq_true rfl) rfl ?_
  intro p e s m args below meth c B hr hlk hml
  have B : Cx p s m c args b_Tx_operandAt R_Tx D aC (rg 111 ad) 111 ad := B
  refine j_aloadn B d_Tx_operandAt_0 rfl ?_
  refine j_iloadn B d_Tx_operandAt_1 rfl ?_
  refine j_cVt B (ok_Tx_has hf x k) cv_Tx_has ml_Tx_26 (q_tx hf) rfl rfl ⟨rfl, rfl, by decide, by decide⟩ ⟨Nat.zero_le _, Nat.zero_le _⟩ hml (Nat.le_of_ble_eq_true rfl) rfl d_Tx_operandAt_2 ?_
  refine j_if_eq (tgt := 17) B d_Tx_operandAt_5 (by decide) (fun h5 => ?_) (fun h5 => ?_)
  · -- yes
    refine j_iconst (v := (-1)) B d_Tx_operandAt_17 (by decide) ?_
    exact j_iret B hr hlk d_Tx_operandAt_18 (by first | rw [if_pos (bI_ne h5)] | rw [if_neg (bI_e h5)]) (rfl)
  · -- no
    refine j_aloadn B d_Tx_operandAt_8 rfl ?_
    refine j_getr B fl_Tx_15 (q_tx hf) rfl d_Tx_operandAt_9 ?_
    refine j_iloadn B d_Tx_operandAt_12 rfl ?_
    refine j_iald B (q_tx2 hf) (ixg (bI_ne h5) hc hN (by decide)) d_Tx_operandAt_13 ?_
    refine j_goto (tgt := 18) B d_Tx_operandAt_14 (by decide) ?_
    exact j_iret B hr hlk d_Tx_operandAt_18 (by first | rw [if_pos (bI_ne h5)] | rw [if_neg (bI_e h5)]) (rfl)
set_option maxRecDepth 100000 in
theorem ok_Ta_numberAt {l : Launch} {D : va_G} {aC : Nat → ClassId} {ad : Nat → Nat}  (x : tm_M) (k : Int32) {a : Nat} (hc : x.1 (5, 0, 3) 1 = nI a) (hN : a ≤ 60) :
    OkX l y_Ta_numberAt b_Ta_numberAt 2 (some .int) (rom 1 21) D aC ad [.ref (ad 37), .int k] x (some (.int (if 0 ≤ k ∧ k < x.1 (5, 0, 3) 1 then x.2 (5, 0, 4) k.toNatClampNeg else -1))) x := by
  refine ok_start (by decide) (Nat.le_of_ble_eq_true rfl) rfl ?_
  intro p e s m args below meth c B hr hlk hml
  have B : Cx p s m c args b_Ta_numberAt R_Ta D aC (rg 111 ad) 111 ad := B
  refine j_aloadn B d_Ta_numberAt_0 rfl ?_
  refine j_iloadn B d_Ta_numberAt_1 rfl ?_
  refine j_cVt B (ok_Ta_hasNumber x k) cv_Ta_hasNumber ml_Ta_38 (q_37) rfl rfl ⟨rfl, rfl, by decide, by decide⟩ ⟨Nat.zero_le _, Nat.zero_le _⟩ hml (Nat.le_of_ble_eq_true rfl) rfl d_Ta_numberAt_2 ?_
  refine j_if_eq (tgt := 17) B d_Ta_numberAt_5 (by decide) (fun h5 => ?_) (fun h5 => ?_)
  · -- yes
    refine j_iconst (v := (-1)) B d_Ta_numberAt_17 (by decide) ?_
    exact j_iret B hr hlk d_Ta_numberAt_18 (by first | rw [if_pos (bI_ne h5)] | rw [if_neg (bI_e h5)]) (rfl)
  · -- no
    refine j_aloadn B d_Ta_numberAt_8 rfl ?_
    refine j_getr B fl_Ta_9 (q_37) rfl d_Ta_numberAt_9 ?_
    refine j_iloadn B d_Ta_numberAt_12 rfl ?_
    refine j_iald B (q_38) (ixg (bI_ne h5) hc hN (by decide)) d_Ta_numberAt_13 ?_
    refine j_goto (tgt := 18) B d_Ta_numberAt_14 (by decide) ?_
    exact j_iret B hr hlk d_Ta_numberAt_18 (by first | rw [if_pos (bI_ne h5)] | rw [if_neg (bI_e h5)]) (rfl)
end
section
set_option maxRecDepth 100000 in
theorem ok_Ty_isFull {l : Launch} {D : va_G} {aC : Nat → ClassId} {ad : Nat → Nat}  (x : tm_M) :
    OkX l y_Ty_isFull b_Ty_isFull 1 (some .boolean) (rom 0 0) D aC ad [.ref (ad 35)] x (some (.int (bI (8 ≤ x.1 (5, 0, 1) 1)))) x := by
  refine ok_start (by decide) (Nat.le_of_ble_eq_true rfl) rfl ?_
  intro p e s m args below meth c B hr hlk hml
  have B : Cx p s m c args b_Ty_isFull R_Ty D aC (rg 111 ad) 111 ad := B
  refine j_aloadn B d_Ty_isFull_0 rfl ?_
  refine j_geti B fl_Ty_15 (q_35) rfl d_Ty_isFull_1 ?_
  refine j_bipush (v := 8) B d_Ty_isFull_4 (by decide) ?_
  refine j_icmp_lt (tgt := 13) B d_Ty_isFull_6 (by decide) (fun h6 => ?_) (fun h6 => ?_)
  · -- yes
    refine j_iconst (v := 0) B d_Ty_isFull_13 (by decide) ?_
    exact j_zret B hr hlk d_Ty_isFull_14 (by first | exact Or.inl rfl | exact Or.inr rfl) (by first | exact sv (bI_f (Int32.not_le.mpr h6)) | exact sv (bI_t (Int32.not_lt.mp h6))) (rfl)
  · -- no
    refine j_iconst (v := 1) B d_Ty_isFull_9 (by decide) ?_
    refine j_goto (tgt := 14) B d_Ty_isFull_10 (by decide) ?_
    exact j_zret B hr hlk d_Ty_isFull_14 (by first | exact Or.inl rfl | exact Or.inr rfl) (by first | exact sv (bI_f (Int32.not_le.mpr h6)) | exact sv (bI_t (Int32.not_lt.mp h6))) (rfl)
set_option maxRecDepth 100000 in
theorem ok_Tx_isFull {l : Launch} {D : va_G} {aC : Nat → ClassId} {ad : Nat → Nat} {f : Nat} (hf : f < 6) (x : tm_M) :
    OkX l y_Tx_isFull b_Tx_isFull 1 (some .boolean) (rom 0 0) D aC ad [.ref (ad (txO f))] x (some (.int (bI (20 ≤ x.1 (1, f, 0) 2)))) x := by
  refine ok_start (by decide) (Nat.le_of_ble_eq_true rfl) rfl ?_
  intro p e s m args below meth c B hr hlk hml
  have B : Cx p s m c args b_Tx_isFull R_Tx D aC (rg 111 ad) 111 ad := B
  refine j_aloadn B d_Tx_isFull_0 rfl ?_
  refine j_geti B fl_Tx_18 (q_tx hf) rfl d_Tx_isFull_1 ?_
  refine j_bipush (v := 20) B d_Tx_isFull_4 (by decide) ?_
  refine j_icmp_lt (tgt := 13) B d_Tx_isFull_6 (by decide) (fun h6 => ?_) (fun h6 => ?_)
  · -- yes
    refine j_iconst (v := 0) B d_Tx_isFull_13 (by decide) ?_
    exact j_zret B hr hlk d_Tx_isFull_14 (by first | exact Or.inl rfl | exact Or.inr rfl) (by first | exact sv (bI_f (Int32.not_le.mpr h6)) | exact sv (bI_t (Int32.not_lt.mp h6))) (rfl)
  · -- no
    refine j_iconst (v := 1) B d_Tx_isFull_9 (by decide) ?_
    refine j_goto (tgt := 14) B d_Tx_isFull_10 (by decide) ?_
    exact j_zret B hr hlk d_Tx_isFull_14 (by first | exact Or.inl rfl | exact Or.inr rfl) (by first | exact sv (bI_f (Int32.not_le.mpr h6)) | exact sv (bI_t (Int32.not_lt.mp h6))) (rfl)
set_option maxRecDepth 100000 in
theorem ok_Ta_isFull {l : Launch} {D : va_G} {aC : Nat → ClassId} {ad : Nat → Nat}  (x : tm_M) :
    OkX l y_Ta_isFull b_Ta_isFull 1 (some .boolean) (rom 0 0) D aC ad [.ref (ad 37)] x (some (.int (bI (60 ≤ x.1 (5, 0, 3) 1)))) x := by
  refine ok_start (by decide) (Nat.le_of_ble_eq_true rfl) rfl ?_
  intro p e s m args below meth c B hr hlk hml
  have B : Cx p s m c args b_Ta_isFull R_Ta D aC (rg 111 ad) 111 ad := B
  refine j_aloadn B d_Ta_isFull_0 rfl ?_
  refine j_geti B fl_Ta_19 (q_37) rfl d_Ta_isFull_1 ?_
  refine j_bipush (v := 60) B d_Ta_isFull_4 (by decide) ?_
  refine j_icmp_lt (tgt := 13) B d_Ta_isFull_6 (by decide) (fun h6 => ?_) (fun h6 => ?_)
  · -- yes
    refine j_iconst (v := 0) B d_Ta_isFull_13 (by decide) ?_
    exact j_zret B hr hlk d_Ta_isFull_14 (by first | exact Or.inl rfl | exact Or.inr rfl) (by first | exact sv (bI_f (Int32.not_le.mpr h6)) | exact sv (bI_t (Int32.not_lt.mp h6))) (rfl)
  · -- no
    refine j_iconst (v := 1) B d_Ta_isFull_9 (by decide) ?_
    refine j_goto (tgt := 14) B d_Ta_isFull_10 (by decide) ?_
    exact j_zret B hr hlk d_Ta_isFull_14 (by first | exact Or.inl rfl | exact Or.inr rfl) (by first | exact sv (bI_f (Int32.not_le.mpr h6)) | exact sv (bI_t (Int32.not_lt.mp h6))) (rfl)
set_option maxRecDepth 100000 in
theorem ok_Ty_make {l : Launch} {D : va_G} {aC : Nat → ClassId} {ad : Nat → Nat} (x : tm_M) (k : Int32) {t : Nat} (ht : x.1 (5, 0, 1) 1 = nI t) (h8 : t < 8) :
    OkX l y_Ty_make b_Ty_make 3 (some .int) (rom 1 20) D aC ad [.ref (ad 35), .int k] x (some (.int (nI t))) (sI (sA x (5, 0, 2) t k) (5, 0, 1) 1 (nI (t + 1))) := by
  refine ok_start (by decide) (Nat.le_of_ble_eq_true rfl) rfl ?_
  intro p e s m args below meth c B hr hlk hml
  have B : Cx p s m c args b_Ty_make R_Ty D aC (rg 111 ad) 111 ad := B
  refine j_aloadn B d_Ty_make_0 rfl ?_
  refine j_cVt B (ok_Ty_isFull x) cv_Ty_isFull ml_Ty_19 (q_35) rfl rfl ⟨rfl, rfl, by decide, by decide⟩ ⟨Nat.zero_le _, Nat.zero_le _⟩ hml (Nat.le_of_ble_eq_true rfl) rfl d_Ty_make_1 ?_
  refine j_if_eq (tgt := 9) B d_Ty_make_4 (by decide) (fun h4 => ?_) (fun h4 => (show False from absurd (nIle (c := 8) (ht ▸ bI_ne h4) (by decide) (by omega)) (by omega)).elim)
  refine j_aloadn B d_Ty_make_9 rfl ?_
  refine j_geti B fl_Ty_15 (q_35) rfl d_Ty_make_10 ?_
  refine j_istoren B d_Ty_make_13 (by decide) ?_
  refine j_aloadn B d_Ty_make_14 rfl ?_
  refine j_getr B fl_Ty_9 (q_35) rfl d_Ty_make_15 ?_
  refine j_iloadn B d_Ty_make_18 rfl ?_
  refine j_iloadn B d_Ty_make_19 rfl ?_
  refine j_iast B kX_inj (q_36) (⟨ht, h8, by decide⟩) d_Ty_make_20 ?_
  refine j_aloadn B d_Ty_make_21 rfl ?_
  refine j_dup B d_Ty_make_22 rfl ?_
  refine j_geti B fl_Ty_15 (q_35) rfl d_Ty_make_23 ?_
  refine j_iconst (v := 1) B d_Ty_make_26 (by decide) ?_
  refine j_iadd B d_Ty_make_27 ?_
  refine j_topi (nI (t + 1)) (by show x.1 (5, 0, 1) 1 + 1 = _; rw [ht, nI_1]) ?_
  refine j_puti B kX_inj fs_Ty_15 (q_35) rfl d_Ty_make_28 ?_
  refine j_iloadn B d_Ty_make_31 rfl ?_
  exact j_iret B hr hlk d_Ty_make_32 (sv ht.symm) (rfl)
set_option maxRecDepth 100000 in
theorem ok_Tx_append {l : Launch} {D : va_G} {aC : Nat → ClassId} {ad : Nat → Nat} {f : Nat} (hf : f < 6) (x : tm_M) (u v : Int32) {t : Nat} (ht : x.1 (1, f, 0) 2 = nI t) (h20 : t < 20) :
    OkX l y_Tx_append b_Tx_append 3 (some .int) (rom 1 20) D aC ad [.ref (ad (txO f)), .int u, .int v] x (some (.int (nI (t + 1)))) (sI (sA (sA x (1, f, 1) t u) (1, f, 2) t v) (1, f, 0) 2 (nI (t + 1))) := by
  refine ok_start (by decide) (Nat.le_of_ble_eq_true rfl) rfl ?_
  intro p e s m args below meth c B hr hlk hml
  have B : Cx p s m c args b_Tx_append R_Tx D aC (rg 111 ad) 111 ad := B
  refine j_aloadn B d_Tx_append_0 rfl ?_
  refine j_cVt B (ok_Tx_isFull hf x) cv_Tx_isFull ml_Tx_22 (q_tx hf) rfl rfl ⟨rfl, rfl, by decide, by decide⟩ ⟨Nat.zero_le _, Nat.zero_le _⟩ hml (Nat.le_of_ble_eq_true rfl) rfl d_Tx_append_1 ?_
  refine j_if_ne (tgt := 37) B d_Tx_append_4 (by decide) (fun h4 => (show False from absurd (nIle (c := 20) (ht ▸ bI_ne h4) (by decide) (by omega)) (by omega)).elim) (fun h4 => ?_)
  refine j_aloadn B d_Tx_append_7 rfl ?_
  refine j_getr B fl_Tx_9 (q_tx hf) rfl d_Tx_append_8 ?_
  refine j_aloadn B d_Tx_append_11 rfl ?_
  refine j_geti B fl_Tx_18 (q_tx hf) rfl d_Tx_append_12 ?_
  refine j_iloadn B d_Tx_append_15 rfl ?_
  refine j_iast B kX_inj (q_tx1 hf) (⟨ht, h20, by decide⟩) d_Tx_append_16 ?_
  refine j_aloadn B d_Tx_append_17 rfl ?_
  refine j_getr B fl_Tx_15 (q_tx hf) rfl d_Tx_append_18 ?_
  refine j_aloadn B d_Tx_append_21 rfl ?_
  refine j_geti B fl_Tx_18 (q_tx hf) rfl d_Tx_append_22 ?_
  refine j_iloadn B d_Tx_append_25 rfl ?_
  refine j_iast B kX_inj (q_tx2 hf) (⟨ht, h20, by decide⟩) d_Tx_append_26 ?_
  refine j_aloadn B d_Tx_append_27 rfl ?_
  refine j_dup B d_Tx_append_28 rfl ?_
  refine j_geti B fl_Tx_18 (q_tx hf) rfl d_Tx_append_29 ?_
  refine j_iconst (v := 1) B d_Tx_append_32 (by decide) ?_
  refine j_iadd B d_Tx_append_33 ?_
  refine j_topi (nI (t + 1)) (by show x.1 (1, f, 0) 2 + 1 = _; rw [ht, nI_1]) ?_
  refine j_puti B kX_inj fs_Tx_18 (q_tx hf) rfl d_Tx_append_34 ?_
  refine j_aloadn B d_Tx_append_37 rfl ?_
  refine j_geti B fl_Tx_18 (q_tx hf) rfl d_Tx_append_38 ?_
  exact j_iret B hr hlk d_Tx_append_41 (sv rI.symm) (rfl)
set_option maxRecDepth 100000 in
theorem ok_Ta_put {l : Launch} {D : va_G} {aC : Nat → ClassId} {ad : Nat → Nat} (x : tm_M) (v : Int32) {t : Nat} (ht : x.1 (5, 0, 3) 1 = nI t) (h60 : t < 60) :
    OkX l y_Ta_put b_Ta_put 2 none (rom 1 20) D aC ad [.ref (ad 37), .int v] x none (sI (sA x (5, 0, 4) t v) (5, 0, 3) 1 (nI (t + 1))) := by
  refine ok_start (by decide) (Nat.le_of_ble_eq_true rfl) rfl ?_
  intro p e s m args below meth c B hr hlk hml
  have B : Cx p s m c args b_Ta_put R_Ta D aC (rg 111 ad) 111 ad := B
  refine j_aloadn B d_Ta_put_0 rfl ?_
  refine j_cVt B (ok_Ta_isFull x) cv_Ta_isFull ml_Ta_34 (q_37) rfl rfl ⟨rfl, rfl, by decide, by decide⟩ ⟨Nat.zero_le _, Nat.zero_le _⟩ hml (Nat.le_of_ble_eq_true rfl) rfl d_Ta_put_1 ?_
  refine j_if_ne (tgt := 27) B d_Ta_put_4 (by decide) (fun h4 => (show False from absurd (nIle (c := 60) (ht ▸ bI_ne h4) (by decide) (by omega)) (by omega)).elim) (fun h4 => ?_)
  refine j_aloadn B d_Ta_put_7 rfl ?_
  refine j_getr B fl_Ta_9 (q_37) rfl d_Ta_put_8 ?_
  refine j_aloadn B d_Ta_put_11 rfl ?_
  refine j_geti B fl_Ta_19 (q_37) rfl d_Ta_put_12 ?_
  refine j_iloadn B d_Ta_put_15 rfl ?_
  refine j_iast B kX_inj (q_38) (⟨ht, h60, by decide⟩) d_Ta_put_16 ?_
  refine j_aloadn B d_Ta_put_17 rfl ?_
  refine j_dup B d_Ta_put_18 rfl ?_
  refine j_geti B fl_Ta_19 (q_37) rfl d_Ta_put_19 ?_
  refine j_iconst (v := 1) B d_Ta_put_22 (by decide) ?_
  refine j_iadd B d_Ta_put_23 ?_
  refine j_topi (nI (t + 1)) (by show x.1 (5, 0, 3) 1 + 1 = _; rw [ht, nI_1]) ?_
  refine j_puti B kX_inj fs_Ta_19 (q_37) rfl d_Ta_put_24 ?_
  exact j_vret B hr hlk d_Ta_put_27 (rfl) (rfl)
set_option maxRecDepth 100000 in
theorem ok_Ta_clear {l : Launch} {D : va_G} {aC : Nat → ClassId} {ad : Nat → Nat} (x : tm_M) :
    OkX l y_Ta_clear b_Ta_clear 1 none (rom 0 0) D aC ad [.ref (ad 37)] x none (sI (sI (sI (sI (sI (sI x (5, 0, 3) 1 0) (5, 0, 3) 2 0) (5, 0, 3) 3 0) (5, 0, 3) 4 0) (5, 0, 3) 5 0) (5, 0, 3) 6 (-1)) := by
  refine ok_start (by decide) (Nat.le_of_ble_eq_true rfl) rfl ?_
  intro p e s m args below meth c B hr hlk hml
  have B : Cx p s m c args b_Ta_clear R_Ta D aC (rg 111 ad) 111 ad := B
  refine j_aloadn B d_Ta_clear_0 rfl ?_
  refine j_iconst (v := 0) B d_Ta_clear_1 (by decide) ?_
  refine j_puti B kX_inj fs_Ta_19 (q_37) rfl d_Ta_clear_2 ?_
  refine j_aloadn B d_Ta_clear_5 rfl ?_
  refine j_iconst (v := 0) B d_Ta_clear_6 (by decide) ?_
  refine j_puti B kX_inj fs_Ta_22 (q_37) rfl d_Ta_clear_7 ?_
  refine j_aloadn B d_Ta_clear_10 rfl ?_
  refine j_iconst (v := 0) B d_Ta_clear_11 (by decide) ?_
  refine j_puti B kX_inj fs_Ta_25 (q_37) rfl d_Ta_clear_12 ?_
  refine j_aloadn B d_Ta_clear_15 rfl ?_
  refine j_iconst (v := 0) B d_Ta_clear_16 (by decide) ?_
  refine j_puti B kX_inj fs_Ta_28 (q_37) rfl d_Ta_clear_17 ?_
  refine j_aloadn B d_Ta_clear_20 rfl ?_
  refine j_iconst (v := 0) B d_Ta_clear_21 (by decide) ?_
  refine j_puti B kX_inj fs_Ta_31 (q_37) rfl d_Ta_clear_22 ?_
  refine j_aloadn B d_Ta_clear_25 rfl ?_
  refine j_iconst (v := (-1)) B d_Ta_clear_26 (by decide) ?_
  refine j_puti B kX_inj fs_Ta_15 (q_37) rfl d_Ta_clear_27 ?_
  exact j_vret B hr hlk d_Ta_clear_30 (rfl) (rfl)
set_option maxRecDepth 100000 in
theorem ok_Fr_begin {l : Launch} {D : va_G} {aC : Nat → ClassId} {ad : Nat → Nat} {i : Nat} (hi : i < 8) (x : tm_M) (k : Int32) :
    OkX l y_Fr_begin b_Fr_begin 2 none (rom 0 0) D aC ad [.ref (ad (frO i)), .int k] x none (sI (sI (sI x (8, i, 0) 0 k) (8, i, 0) 1 0) (8, i, 0) 3 0) := by
  refine ok_start (by decide) (Nat.le_of_ble_eq_true rfl) rfl ?_
  intro p e s m args below meth c B hr hlk hml
  have B : Cx p s m c args b_Fr_begin R_Fr D aC (rg 111 ad) 111 ad := B
  refine j_aloadn B d_Fr_begin_0 rfl ?_
  refine j_iloadn B d_Fr_begin_1 rfl ?_
  refine j_puti B kX_inj fs_Fr_15 (q_fr hi) rfl d_Fr_begin_2 ?_
  refine j_aloadn B d_Fr_begin_5 rfl ?_
  refine j_iconst (v := 0) B d_Fr_begin_6 (by decide) ?_
  refine j_puti B kX_inj fs_Fr_19 (q_fr hi) rfl d_Fr_begin_7 ?_
  refine j_aloadn B d_Fr_begin_10 rfl ?_
  refine j_iconst (v := 0) B d_Fr_begin_11 (by decide) ?_
  refine j_puti B kX_inj fs_Fr_22 (q_fr hi) rfl d_Fr_begin_12 ?_
  exact j_vret B hr hlk d_Fr_begin_15 (rfl) (rfl)
set_option maxRecDepth 100000 in
theorem ok_Fr_currentPlace {l : Launch} {D : va_G} {aC : Nat → ClassId} {ad : Nat → Nat} {i : Nat} (hi : i < 8) (x : tm_M) :
    OkX l y_Fr_currentPlace b_Fr_currentPlace 1 (some .int) (rom 0 0) D aC ad [.ref (ad (frO i))] x (some (.int (x.1 (8, i, 0) 1 - 1))) x := by
  refine ok_start (by decide) (Nat.le_of_ble_eq_true rfl) rfl ?_
  intro p e s m args below meth c B hr hlk hml
  have B : Cx p s m c args b_Fr_currentPlace R_Fr D aC (rg 111 ad) 111 ad := B
  refine j_aloadn B d_Fr_currentPlace_0 rfl ?_
  refine j_geti B fl_Fr_19 (q_fr hi) rfl d_Fr_currentPlace_1 ?_
  refine j_iconst (v := 1) B d_Fr_currentPlace_4 (by decide) ?_
  refine j_isub B d_Fr_currentPlace_5 ?_
  exact j_iret B hr hlk d_Fr_currentPlace_6 (rfl) (rfl)
set_option maxRecDepth 100000 in
theorem ok_Fr_pushCaught {l : Launch} {D : va_G} {aC : Nat → ClassId} {ad : Nat → Nat} {i : Nat} (hi : i < 8) (x : tm_M) (k : Int32) {t : Nat} (ht : x.1 (8, i, 0) 3 = nI t) (h5 : t < 5) :
    OkX l y_Fr_pushCaught b_Fr_pushCaught 2 none (rom 0 0) D aC ad [.ref (ad (frO i)), .int k] x none (sI (sA x (8, i, 1) t k) (8, i, 0) 3 (nI (t + 1))) := by
  refine ok_start (by decide) (Nat.le_of_ble_eq_true rfl) rfl ?_
  intro p e s m args below meth c B hr hlk hml
  have B : Cx p s m c args b_Fr_pushCaught R_Fr D aC (rg 111 ad) 111 ad := B
  refine j_aloadn B d_Fr_pushCaught_0 rfl ?_
  refine j_geti B fl_Fr_22 (q_fr hi) rfl d_Fr_pushCaught_1 ?_
  refine j_iconst (v := 5) B d_Fr_pushCaught_4 (by decide) ?_
  refine j_icmp_ge (tgt := 28) B d_Fr_pushCaught_5 (by decide) (fun h_5 => (show False from absurd (nIle (c := 5) (ht ▸ h_5) (by decide) (by omega)) (by omega)).elim) (fun h_5 => ?_)
  refine j_aloadn B d_Fr_pushCaught_8 rfl ?_
  refine j_getr B fl_Fr_9 (q_fr hi) rfl d_Fr_pushCaught_9 ?_
  refine j_aloadn B d_Fr_pushCaught_12 rfl ?_
  refine j_geti B fl_Fr_22 (q_fr hi) rfl d_Fr_pushCaught_13 ?_
  refine j_iloadn B d_Fr_pushCaught_16 rfl ?_
  refine j_iast B kX_inj (q_fr1 hi) (⟨ht, h5, by decide⟩) d_Fr_pushCaught_17 ?_
  refine j_aloadn B d_Fr_pushCaught_18 rfl ?_
  refine j_dup B d_Fr_pushCaught_19 rfl ?_
  refine j_geti B fl_Fr_22 (q_fr hi) rfl d_Fr_pushCaught_20 ?_
  refine j_iconst (v := 1) B d_Fr_pushCaught_23 (by decide) ?_
  refine j_iadd B d_Fr_pushCaught_24 ?_
  refine j_topi (nI (t + 1)) (by show x.1 (8, i, 0) 3 + 1 = _; rw [ht, nI_1]) ?_
  refine j_puti B kX_inj fs_Fr_22 (q_fr hi) rfl d_Fr_pushCaught_25 ?_
  exact j_vret B hr hlk d_Fr_pushCaught_28 (rfl) (rfl)
set_option maxRecDepth 100000 in
theorem ok_Fr_dropCaught {l : Launch} {D : va_G} {aC : Nat → ClassId} {ad : Nat → Nat} {i : Nat} (hi : i < 8) (x : tm_M) {t : Nat} (ht : x.1 (8, i, 0) 3 = nI (t + 1)) (h5 : t < 5) :
    OkX l y_Fr_dropCaught b_Fr_dropCaught 1 none (rom 0 0) D aC ad [.ref (ad (frO i))] x none (sI x (8, i, 0) 3 (nI t)) := by
  refine ok_start (by decide) (Nat.le_of_ble_eq_true rfl) rfl ?_
  intro p e s m args below meth c B hr hlk hml
  have B : Cx p s m c args b_Fr_dropCaught R_Fr D aC (rg 111 ad) 111 ad := B
  refine j_aloadn B d_Fr_dropCaught_0 rfl ?_
  refine j_geti B fl_Fr_22 (q_fr hi) rfl d_Fr_dropCaught_1 ?_
  refine j_if_le (tgt := 17) B d_Fr_dropCaught_4 (by decide) (fun h4 => (show False from absurd (nIle (c := t + 1) (t := 0) (ht ▸ h4) (by omega) (by decide)) (by omega)).elim) (fun h4 => ?_)
  refine j_aloadn B d_Fr_dropCaught_7 rfl ?_
  refine j_dup B d_Fr_dropCaught_8 rfl ?_
  refine j_geti B fl_Fr_22 (q_fr hi) rfl d_Fr_dropCaught_9 ?_
  refine j_iconst (v := 1) B d_Fr_dropCaught_12 (by decide) ?_
  refine j_isub B d_Fr_dropCaught_13 ?_
  refine j_topi (nI t) (by rw [ht, nI_pred]) ?_
  refine j_puti B kX_inj fs_Fr_22 (q_fr hi) rfl d_Fr_dropCaught_14 ?_
  exact j_vret B hr hlk d_Fr_dropCaught_17 (rfl) (rfl)
set_option maxRecDepth 100000 in
theorem ok_Fr_latestCaught {l : Launch} {D : va_G} {aC : Nat → ClassId} {ad : Nat → Nat} {i : Nat} (hi : i < 8) (x : tm_M) {t : Nat} (ht : x.1 (8, i, 0) 3 = nI (t + 1)) (h5 : t < 5) :
    OkX l y_Fr_latestCaught b_Fr_latestCaught 1 (some .int) (rom 0 0) D aC ad [.ref (ad (frO i))] x (some (.int (x.2 (8, i, 1) t))) x := by
  refine ok_start (by decide) (Nat.le_of_ble_eq_true rfl) rfl ?_
  intro p e s m args below meth c B hr hlk hml
  have B : Cx p s m c args b_Fr_latestCaught R_Fr D aC (rg 111 ad) 111 ad := B
  refine j_aloadn B d_Fr_latestCaught_0 rfl ?_
  refine j_geti B fl_Fr_22 (q_fr hi) rfl d_Fr_latestCaught_1 ?_
  refine j_if_le (tgt := 21) B d_Fr_latestCaught_4 (by decide) (fun h4 => (show False from absurd (nIle (c := t + 1) (t := 0) (ht ▸ h4) (by omega) (by decide)) (by omega)).elim) (fun h4 => ?_)
  refine j_aloadn B d_Fr_latestCaught_7 rfl ?_
  refine j_getr B fl_Fr_9 (q_fr hi) rfl d_Fr_latestCaught_8 ?_
  refine j_aloadn B d_Fr_latestCaught_11 rfl ?_
  refine j_geti B fl_Fr_22 (q_fr hi) rfl d_Fr_latestCaught_12 ?_
  refine j_iconst (v := 1) B d_Fr_latestCaught_15 (by decide) ?_
  refine j_isub B d_Fr_latestCaught_16 ?_
  refine j_iald B (q_fr1 hi) (⟨by rw [ht, nI_pred], h5, by decide⟩) d_Fr_latestCaught_17 ?_
  refine j_goto (tgt := 22) B d_Fr_latestCaught_18 (by decide) ?_
  exact j_iret B hr hlk d_Fr_latestCaught_22 (rfl) (rfl)
set_option maxRecDepth 100000 in
theorem ok_Pr_clear {l : Launch} {D : va_G} {aC : Nat → ClassId} {ad : Nat → Nat} {f : Nat} (hf : f < 6) (x : tm_M) :
    OkX l y_Pr_clear b_Pr_clear 1 none (rom 0 0) D aC ad [.ref (ad (prO f))] x none (sI (sI (sI x (6, f, 0) 2 0) (6, f, 0) 6 0) (6, f, 0) 10 0) := by
  refine ok_start (by decide) (Nat.le_of_ble_eq_true rfl) rfl ?_
  intro p e s m args below meth c B hr hlk hml
  have B : Cx p s m c args b_Pr_clear R_Pr D aC (rg 111 ad) 111 ad := B
  refine j_aloadn B d_Pr_clear_0 rfl ?_
  refine j_iconst (v := 0) B d_Pr_clear_1 (by decide) ?_
  refine j_puti B kX_inj fs_Pr_36 (q_pr hf) rfl d_Pr_clear_2 ?_
  refine j_aloadn B d_Pr_clear_5 rfl ?_
  refine j_iconst (v := 0) B d_Pr_clear_6 (by decide) ?_
  refine j_puti B kX_inj fs_Pr_40 (q_pr hf) rfl d_Pr_clear_7 ?_
  refine j_aloadn B d_Pr_clear_10 rfl ?_
  refine j_iconst (v := 0) B d_Pr_clear_11 (by decide) ?_
  refine j_puti B kX_inj fs_Pr_43 (q_pr hf) rfl d_Pr_clear_12 ?_
  exact j_vret B hr hlk d_Pr_clear_15 (rfl) (rfl)
set_option maxRecDepth 100000 in
theorem ok_Pr_isMade {l : Launch} {D : va_G} {aC : Nat → ClassId} {ad : Nat → Nat} {f : Nat} (hf : f < 6) (x : tm_M) :
    OkX l y_Pr_isMade b_Pr_isMade 1 (some .boolean) (rom 0 0) D aC ad [.ref (ad (prO f))] x (some (.int (bI (0 < x.1 (6, f, 0) 2)))) x := by
  refine ok_start (by decide) (Nat.le_of_ble_eq_true rfl) rfl ?_
  intro p e s m args below meth c B hr hlk hml
  have B : Cx p s m c args b_Pr_isMade R_Pr D aC (rg 111 ad) 111 ad := B
  refine j_aloadn B d_Pr_isMade_0 rfl ?_
  refine j_geti B fl_Pr_36 (q_pr hf) rfl d_Pr_isMade_1 ?_
  refine j_if_le (tgt := 11) B d_Pr_isMade_4 (by decide) (fun h4 => ?_) (fun h4 => ?_)
  · -- yes
    refine j_iconst (v := 0) B d_Pr_isMade_11 (by decide) ?_
    exact j_zret B hr hlk d_Pr_isMade_12 (by first | exact Or.inl rfl | exact Or.inr rfl) (by first | exact sv (bI_f (Int32.not_lt.mpr h4)) | exact sv (bI_t (Int32.not_le.mp h4))) (rfl)
  · -- no
    refine j_iconst (v := 1) B d_Pr_isMade_7 (by decide) ?_
    refine j_goto (tgt := 12) B d_Pr_isMade_8 (by decide) ?_
    exact j_zret B hr hlk d_Pr_isMade_12 (by first | exact Or.inl rfl | exact Or.inr rfl) (by first | exact sv (bI_f (Int32.not_lt.mpr h4)) | exact sv (bI_t (Int32.not_le.mp h4))) (rfl)
/-- an instruction is put behind the code -/
def emX (f n : Nat) (a v : Int32) (x : tm_M) : tm_M := sI (sA (sA x (6, f, 1) n a) (6, f, 2) n v) (6, f, 0) 2 (nI (n + 1))
/-- the site of the next instruction -/
def siX (f n q : Nat) (h : Int32) (x : tm_M) : tm_M := if 0 < q ∧ x.2 (6, f, 8) (q - 1) = h then sA x (6, f, 7) (q - 1) (nI n) else sI (sA (sA (sA x (6, f, 6) q (nI n)) (6, f, 7) q (nI n)) (6, f, 8) q h) (6, f, 0) 10 (nI (q + 1))
def acX (f a : Nat) (k h : Int32) (x : tm_M) : tm_M := sI (sA (sA (sA x (6, f, 3) a k) (6, f, 4) a 0) (6, f, 5) a h) (6, f, 0) 6 (nI (a + 1))
set_option maxRecDepth 100000 in
theorem ok_Pr_emit {l : Launch} {D : va_G} {aC : Nat → ClassId} {ad : Nat → Nat} {f : Nat} (hf : f < 6) (x : tm_M) (a v : Int32) {n : Nat} (hn : x.1 (6, f, 0) 2 = nI n) (h81 : n < 81) :
    OkX l y_Pr_emit b_Pr_emit 3 none (rom 0 0) D aC ad [.ref (ad (prO f)), .int a, .int v] x none (emX f n a v x) := by
  refine ok_start (by decide) (Nat.le_of_ble_eq_true rfl) rfl ?_
  intro p e s m args below meth c B hr hlk hml
  have B : Cx p s m c args b_Pr_emit R_Pr D aC (rg 111 ad) 111 ad := B
  refine j_aloadn B d_Pr_emit_0 rfl ?_
  refine j_geti B fl_Pr_36 (q_pr hf) rfl d_Pr_emit_1 ?_
  refine j_bipush (v := 81) B d_Pr_emit_4 (by decide) ?_
  refine j_icmp_ge (tgt := 39) B d_Pr_emit_6 (by decide) (fun h6 => (show False from absurd (nIle (c := 81) (hn ▸ h6) (by decide) (by omega)) (by omega)).elim) (fun h6 => ?_)
  refine j_aloadn B d_Pr_emit_9 rfl ?_
  refine j_getr B fl_Pr_9 (q_pr hf) rfl d_Pr_emit_10 ?_
  refine j_aloadn B d_Pr_emit_13 rfl ?_
  refine j_geti B fl_Pr_36 (q_pr hf) rfl d_Pr_emit_14 ?_
  refine j_iloadn B d_Pr_emit_17 rfl ?_
  refine j_iast B kX_inj (q_pr1 hf) (⟨hn, h81, by decide⟩) d_Pr_emit_18 ?_
  refine j_aloadn B d_Pr_emit_19 rfl ?_
  refine j_getr B fl_Pr_15 (q_pr hf) rfl d_Pr_emit_20 ?_
  refine j_aloadn B d_Pr_emit_23 rfl ?_
  refine j_geti B fl_Pr_36 (q_pr hf) rfl d_Pr_emit_24 ?_
  refine j_iloadn B d_Pr_emit_27 rfl ?_
  refine j_iast B kX_inj (q_pr2 hf) (⟨hn, h81, by decide⟩) d_Pr_emit_28 ?_
  refine j_aloadn B d_Pr_emit_29 rfl ?_
  refine j_dup B d_Pr_emit_30 rfl ?_
  refine j_geti B fl_Pr_36 (q_pr hf) rfl d_Pr_emit_31 ?_
  refine j_iconst (v := 1) B d_Pr_emit_34 (by decide) ?_
  refine j_iadd B d_Pr_emit_35 ?_
  refine j_topi (nI (n + 1)) (by show x.1 (6, f, 0) 2 + 1 = _; rw [hn, nI_1]) ?_
  refine j_puti B kX_inj fs_Pr_36 (q_pr hf) rfl d_Pr_emit_36 ?_
  exact j_vret B hr hlk d_Pr_emit_39 (rfl) (rfl)
theorem siX_n {f n q : Nat} {h : Int32} {x : tm_M} : (siX f n q h x).1 (6, f, 0) 2 = x.1 (6, f, 0) 2 := by
  unfold siX
  split
  · rfl
  · rw [rIj (by decide)]; rfl
set_option maxRecDepth 100000 in
theorem ok_Pr_emitAtSite {l : Launch} {D : va_G} {aC : Nat → ClassId} {ad : Nat → Nat} {f : Nat} (hf : f < 6) (x : tm_M) (a v h : Int32) {n q : Nat} (hn : x.1 (6, f, 0) 2 = nI n) (h81 : n < 81) (hq : x.1 (6, f, 0) 10 = nI q) (h20 : q < 20) :
    OkX l y_Pr_emitAtSite b_Pr_emitAtSite 4 none (rom 1 22) D aC ad [.ref (ad (prO f)), .int a, .int v, .int h] x none (emX f n a v (siX f n q h x)) := by
  refine ok_start (by decide) (Nat.le_of_ble_eq_true rfl) rfl ?_
  intro p e s m args below meth c B hr hlk hml
  have B : Cx p s m c args b_Pr_emitAtSite R_Pr D aC (rg 111 ad) 111 ad := B
  refine j_aloadn B d_Pr_emitAtSite_0 rfl ?_
  refine j_geti B fl_Pr_43 (q_pr hf) rfl d_Pr_emitAtSite_1 ?_
  refine j_if_le (tgt := 40) B d_Pr_emitAtSite_4 (by decide) (fun h4 => ?_) (fun h4 => ?_)
  · -- yes
    refine j_aloadn B d_Pr_emitAtSite_40 rfl ?_
    refine j_geti B fl_Pr_43 (q_pr hf) rfl d_Pr_emitAtSite_41 ?_
    refine j_bipush (v := 20) B d_Pr_emitAtSite_44 (by decide) ?_
    refine j_icmp_ge (tgt := 95) B d_Pr_emitAtSite_46 (by decide) (fun h46 => (show False from absurd (nIle (c := 20) (hq ▸ h46) (by decide) (by omega)) (by omega)).elim) (fun h46 => ?_)
    refine j_aloadn B d_Pr_emitAtSite_49 rfl ?_
    refine j_getr B fl_Pr_27 (q_pr hf) rfl d_Pr_emitAtSite_50 ?_
    refine j_aloadn B d_Pr_emitAtSite_53 rfl ?_
    refine j_geti B fl_Pr_43 (q_pr hf) rfl d_Pr_emitAtSite_54 ?_
    refine j_aloadn B d_Pr_emitAtSite_57 rfl ?_
    refine j_geti B fl_Pr_36 (q_pr hf) rfl d_Pr_emitAtSite_58 ?_
    refine j_topi (nI n) hn ?_
    refine j_iast B kX_inj (q_pr6 hf) (⟨hq, h20, by decide⟩) d_Pr_emitAtSite_61 ?_
    refine j_aloadn B d_Pr_emitAtSite_62 rfl ?_
    refine j_getr B fl_Pr_30 (q_pr hf) rfl d_Pr_emitAtSite_63 ?_
    refine j_aloadn B d_Pr_emitAtSite_66 rfl ?_
    refine j_geti B fl_Pr_43 (q_pr hf) rfl d_Pr_emitAtSite_67 ?_
    refine j_aloadn B d_Pr_emitAtSite_70 rfl ?_
    refine j_geti B fl_Pr_36 (q_pr hf) rfl d_Pr_emitAtSite_71 ?_
    refine j_topi (nI n) hn ?_
    refine j_iast B kX_inj (q_pr7 hf) (⟨hq, h20, by decide⟩) d_Pr_emitAtSite_74 ?_
    refine j_aloadn B d_Pr_emitAtSite_75 rfl ?_
    refine j_getr B fl_Pr_33 (q_pr hf) rfl d_Pr_emitAtSite_76 ?_
    refine j_aloadn B d_Pr_emitAtSite_79 rfl ?_
    refine j_geti B fl_Pr_43 (q_pr hf) rfl d_Pr_emitAtSite_80 ?_
    refine j_iloadn B d_Pr_emitAtSite_83 rfl ?_
    refine j_iast B kX_inj (q_pr8 hf) (⟨hq, h20, by decide⟩) d_Pr_emitAtSite_84 ?_
    refine j_aloadn B d_Pr_emitAtSite_85 rfl ?_
    refine j_dup B d_Pr_emitAtSite_86 rfl ?_
    refine j_geti B fl_Pr_43 (q_pr hf) rfl d_Pr_emitAtSite_87 ?_
    refine j_iconst (v := 1) B d_Pr_emitAtSite_90 (by decide) ?_
    refine j_iadd B d_Pr_emitAtSite_91 ?_
    refine j_topi (nI (q + 1)) (by show x.1 (6, f, 0) 10 + 1 = _; rw [hq, nI_1]) ?_
    refine j_puti B kX_inj fs_Pr_43 (q_pr hf) rfl d_Pr_emitAtSite_92 ?_
    refine j_x (siX f n q h x) (by first | exact (if_pos ⟨hq0, h19⟩).symm | exact (if_neg (fun z => h19 z.2)).symm | exact (if_neg (fun z => absurd z.1 (by have := nIle (t := 0) (hq ▸ h4) (by omega) (by decide); omega))).symm) ?_
    refine j_aloadn B d_Pr_emitAtSite_95 rfl ?_
    refine j_iloadn B d_Pr_emitAtSite_96 rfl ?_
    refine j_iloadn B d_Pr_emitAtSite_97 rfl ?_
    refine j_cVt B (ok_Pr_emit hf (siX f n q h x) a v (n := n) (by rw [siX_n]; exact hn) h81) cv_Pr_emit ml_Pr_56 (q_pr hf) rfl rfl ⟨rfl, rfl, by decide, by decide⟩ ⟨Nat.zero_le _, Nat.zero_le _⟩ hml (Nat.le_of_ble_eq_true rfl) rfl d_Pr_emitAtSite_98 ?_
    exact j_vret B hr hlk d_Pr_emitAtSite_101 (rfl) (rfl)
  · -- no
    have hq0 : 0 < q := Nat.pos_of_ne_zero (fun e0 => h4 (by rw [hq, e0]; decide))
    refine j_aloadn B d_Pr_emitAtSite_7 rfl ?_
    refine j_getr B fl_Pr_33 (q_pr hf) rfl d_Pr_emitAtSite_8 ?_
    refine j_aloadn B d_Pr_emitAtSite_11 rfl ?_
    refine j_geti B fl_Pr_43 (q_pr hf) rfl d_Pr_emitAtSite_12 ?_
    refine j_iconst (v := 1) B d_Pr_emitAtSite_15 (by decide) ?_
    refine j_isub B d_Pr_emitAtSite_16 ?_
    refine j_iald B (q_pr8 hf) (⟨by rw [hq, show q = (q - 1) + 1 by omega, nI_pred], by omega, by decide⟩) d_Pr_emitAtSite_17 ?_
    refine j_iloadn B d_Pr_emitAtSite_18 rfl ?_
    refine j_icmp_ne (tgt := 40) B d_Pr_emitAtSite_19 (by decide) (fun h19 => ?_) (fun h19 => ?_)
    · -- yes
      refine j_aloadn B d_Pr_emitAtSite_40 rfl ?_
      refine j_geti B fl_Pr_43 (q_pr hf) rfl d_Pr_emitAtSite_41 ?_
      refine j_bipush (v := 20) B d_Pr_emitAtSite_44 (by decide) ?_
      refine j_icmp_ge (tgt := 95) B d_Pr_emitAtSite_46 (by decide) (fun h46 => (show False from absurd (nIle (c := 20) (hq ▸ h46) (by decide) (by omega)) (by omega)).elim) (fun h46 => ?_)
      refine j_aloadn B d_Pr_emitAtSite_49 rfl ?_
      refine j_getr B fl_Pr_27 (q_pr hf) rfl d_Pr_emitAtSite_50 ?_
      refine j_aloadn B d_Pr_emitAtSite_53 rfl ?_
      refine j_geti B fl_Pr_43 (q_pr hf) rfl d_Pr_emitAtSite_54 ?_
      refine j_aloadn B d_Pr_emitAtSite_57 rfl ?_
      refine j_geti B fl_Pr_36 (q_pr hf) rfl d_Pr_emitAtSite_58 ?_
      refine j_topi (nI n) hn ?_
      refine j_iast B kX_inj (q_pr6 hf) (⟨hq, h20, by decide⟩) d_Pr_emitAtSite_61 ?_
      refine j_aloadn B d_Pr_emitAtSite_62 rfl ?_
      refine j_getr B fl_Pr_30 (q_pr hf) rfl d_Pr_emitAtSite_63 ?_
      refine j_aloadn B d_Pr_emitAtSite_66 rfl ?_
      refine j_geti B fl_Pr_43 (q_pr hf) rfl d_Pr_emitAtSite_67 ?_
      refine j_aloadn B d_Pr_emitAtSite_70 rfl ?_
      refine j_geti B fl_Pr_36 (q_pr hf) rfl d_Pr_emitAtSite_71 ?_
      refine j_topi (nI n) hn ?_
      refine j_iast B kX_inj (q_pr7 hf) (⟨hq, h20, by decide⟩) d_Pr_emitAtSite_74 ?_
      refine j_aloadn B d_Pr_emitAtSite_75 rfl ?_
      refine j_getr B fl_Pr_33 (q_pr hf) rfl d_Pr_emitAtSite_76 ?_
      refine j_aloadn B d_Pr_emitAtSite_79 rfl ?_
      refine j_geti B fl_Pr_43 (q_pr hf) rfl d_Pr_emitAtSite_80 ?_
      refine j_iloadn B d_Pr_emitAtSite_83 rfl ?_
      refine j_iast B kX_inj (q_pr8 hf) (⟨hq, h20, by decide⟩) d_Pr_emitAtSite_84 ?_
      refine j_aloadn B d_Pr_emitAtSite_85 rfl ?_
      refine j_dup B d_Pr_emitAtSite_86 rfl ?_
      refine j_geti B fl_Pr_43 (q_pr hf) rfl d_Pr_emitAtSite_87 ?_
      refine j_iconst (v := 1) B d_Pr_emitAtSite_90 (by decide) ?_
      refine j_iadd B d_Pr_emitAtSite_91 ?_
      refine j_topi (nI (q + 1)) (by show x.1 (6, f, 0) 10 + 1 = _; rw [hq, nI_1]) ?_
      refine j_puti B kX_inj fs_Pr_43 (q_pr hf) rfl d_Pr_emitAtSite_92 ?_
      refine j_x (siX f n q h x) (by first | exact (if_pos ⟨hq0, h19⟩).symm | exact (if_neg (fun z => h19 z.2)).symm | exact (if_neg (fun z => absurd z.1 (by have := nIle (t := 0) (hq ▸ h4) (by omega) (by decide); omega))).symm) ?_
      refine j_aloadn B d_Pr_emitAtSite_95 rfl ?_
      refine j_iloadn B d_Pr_emitAtSite_96 rfl ?_
      refine j_iloadn B d_Pr_emitAtSite_97 rfl ?_
      refine j_cVt B (ok_Pr_emit hf (siX f n q h x) a v (n := n) (by rw [siX_n]; exact hn) h81) cv_Pr_emit ml_Pr_56 (q_pr hf) rfl rfl ⟨rfl, rfl, by decide, by decide⟩ ⟨Nat.zero_le _, Nat.zero_le _⟩ hml (Nat.le_of_ble_eq_true rfl) rfl d_Pr_emitAtSite_98 ?_
      exact j_vret B hr hlk d_Pr_emitAtSite_101 (rfl) (rfl)
    · -- no
      refine j_aloadn B d_Pr_emitAtSite_22 rfl ?_
      refine j_getr B fl_Pr_30 (q_pr hf) rfl d_Pr_emitAtSite_23 ?_
      refine j_aloadn B d_Pr_emitAtSite_26 rfl ?_
      refine j_geti B fl_Pr_43 (q_pr hf) rfl d_Pr_emitAtSite_27 ?_
      refine j_iconst (v := 1) B d_Pr_emitAtSite_30 (by decide) ?_
      refine j_isub B d_Pr_emitAtSite_31 ?_
      refine j_aloadn B d_Pr_emitAtSite_32 rfl ?_
      refine j_geti B fl_Pr_36 (q_pr hf) rfl d_Pr_emitAtSite_33 ?_
      refine j_topi (nI n) hn ?_
      refine j_iast B kX_inj (q_pr7 hf) (⟨by rw [hq, show q = (q - 1) + 1 by omega, nI_pred], by omega, by decide⟩) d_Pr_emitAtSite_36 ?_
      refine j_goto (tgt := 95) B d_Pr_emitAtSite_37 (by decide) ?_
      refine j_x (siX f n q h x) (by first | exact (if_pos ⟨hq0, h19⟩).symm | exact (if_neg (fun z => h19 z.2)).symm | exact (if_neg (fun z => absurd z.1 (by have := nIle (t := 0) (hq ▸ h4) (by omega) (by decide); omega))).symm) ?_
      refine j_aloadn B d_Pr_emitAtSite_95 rfl ?_
      refine j_iloadn B d_Pr_emitAtSite_96 rfl ?_
      refine j_iloadn B d_Pr_emitAtSite_97 rfl ?_
      refine j_cVt B (ok_Pr_emit hf (siX f n q h x) a v (n := n) (by rw [siX_n]; exact hn) h81) cv_Pr_emit ml_Pr_56 (q_pr hf) rfl rfl ⟨rfl, rfl, by decide, by decide⟩ ⟨Nat.zero_le _, Nat.zero_le _⟩ hml (Nat.le_of_ble_eq_true rfl) rfl d_Pr_emitAtSite_98 ?_
      exact j_vret B hr hlk d_Pr_emitAtSite_101 (rfl) (rfl)
set_option maxRecDepth 100000 in
theorem ok_Pr_aim {l : Launch} {D : va_G} {aC : Nat → ClassId} {ad : Nat → Nat} {f : Nat} (hf : f < 6) (x : tm_M) (v : Int32) {a n : Nat} (hn : x.1 (6, f, 0) 2 = nI n) (h81 : n ≤ 81) (ha : a < n) :
    OkX l y_Pr_aim b_Pr_aim 3 none (rom 1 21) D aC ad [.ref (ad (prO f)), .int (nI a), .int v] x none (sA x (6, f, 2) a v) := by
  refine ok_start (by decide) (Nat.le_of_ble_eq_true rfl) rfl ?_
  intro p e s m args below meth c B hr hlk hml
  have B : Cx p s m c args b_Pr_aim R_Pr D aC (rg 111 ad) 111 ad := B
  refine j_aloadn B d_Pr_aim_0 rfl ?_
  refine j_iloadn B d_Pr_aim_1 rfl ?_
  refine j_cVt B (ok_Pr_hasInstruction hf x (nI a)) cv_Pr_hasInstruction ml_Pr_46 (q_pr hf) rfl rfl ⟨rfl, rfl, by decide, by decide⟩ ⟨Nat.zero_le _, Nat.zero_le _⟩ hml (Nat.le_of_ble_eq_true rfl) rfl d_Pr_aim_2 ?_
  refine j_if_eq (tgt := 15) B d_Pr_aim_5 (by decide) (fun h5 => (show False from bI_e h5 ⟨nI_pos' (by omega), by rw [hn]; exact nI_lt ha (by omega)⟩).elim) (fun h5 => ?_)
  refine j_aloadn B d_Pr_aim_8 rfl ?_
  refine j_getr B fl_Pr_15 (q_pr hf) rfl d_Pr_aim_9 ?_
  refine j_iloadn B d_Pr_aim_12 rfl ?_
  refine j_iloadn B d_Pr_aim_13 rfl ?_
  refine j_iast B kX_inj (q_pr2 hf) (⟨rfl, by omega, by decide⟩) d_Pr_aim_14 ?_
  exact j_vret B hr hlk d_Pr_aim_15 (rfl) (rfl)
set_option maxRecDepth 100000 in
theorem ok_Pr_makeAction {l : Launch} {D : va_G} {aC : Nat → ClassId} {ad : Nat → Nat} {f : Nat} (hf : f < 6) (x : tm_M) (k h : Int32) {a : Nat} (ha : x.1 (6, f, 0) 6 = nI a) (h40 : a < 40) :
    OkX l y_Pr_makeAction b_Pr_makeAction 4 (some .int) (rom 0 0) D aC ad [.ref (ad (prO f)), .int k, .int h] x (some (.int (nI a))) (acX f a k h x) := by
  refine ok_start (by decide) (Nat.le_of_ble_eq_true rfl) rfl ?_
  intro p e s m args below meth c B hr hlk hml
  have B : Cx p s m c args b_Pr_makeAction R_Pr D aC (rg 111 ad) 111 ad := B
  refine j_aloadn B d_Pr_makeAction_0 rfl ?_
  refine j_geti B fl_Pr_40 (q_pr hf) rfl d_Pr_makeAction_1 ?_
  refine j_bipush (v := 40) B d_Pr_makeAction_4 (by decide) ?_
  refine j_icmp_lt (tgt := 11) B d_Pr_makeAction_6 (by decide) (fun h6 => ?_) (fun h6 => (show False from absurd (nInlt (c := a) (t := 40) (ha ▸ h6) (by omega) (by decide)) (by omega)).elim)
  refine j_aloadn B d_Pr_makeAction_11 rfl ?_
  refine j_geti B fl_Pr_40 (q_pr hf) rfl d_Pr_makeAction_12 ?_
  refine j_istoren B d_Pr_makeAction_15 (by decide) ?_
  refine j_aloadn B d_Pr_makeAction_16 rfl ?_
  refine j_getr B fl_Pr_18 (q_pr hf) rfl d_Pr_makeAction_17 ?_
  refine j_iloadn B d_Pr_makeAction_20 rfl ?_
  refine j_iloadn B d_Pr_makeAction_21 rfl ?_
  refine j_iast B kX_inj (q_pr3 hf) (⟨ha, h40, by decide⟩) d_Pr_makeAction_22 ?_
  refine j_aloadn B d_Pr_makeAction_23 rfl ?_
  refine j_getr B fl_Pr_21 (q_pr hf) rfl d_Pr_makeAction_24 ?_
  refine j_iloadn B d_Pr_makeAction_27 rfl ?_
  refine j_iconst (v := 0) B d_Pr_makeAction_28 (by decide) ?_
  refine j_iast B kX_inj (q_pr4 hf) (⟨ha, h40, by decide⟩) d_Pr_makeAction_29 ?_
  refine j_aloadn B d_Pr_makeAction_30 rfl ?_
  refine j_getr B fl_Pr_24 (q_pr hf) rfl d_Pr_makeAction_31 ?_
  refine j_iloadn B d_Pr_makeAction_34 rfl ?_
  refine j_iloadn B d_Pr_makeAction_35 rfl ?_
  refine j_iast B kX_inj (q_pr5 hf) (⟨ha, h40, by decide⟩) d_Pr_makeAction_36 ?_
  refine j_aloadn B d_Pr_makeAction_37 rfl ?_
  refine j_dup B d_Pr_makeAction_38 rfl ?_
  refine j_geti B fl_Pr_40 (q_pr hf) rfl d_Pr_makeAction_39 ?_
  refine j_iconst (v := 1) B d_Pr_makeAction_42 (by decide) ?_
  refine j_iadd B d_Pr_makeAction_43 ?_
  refine j_topi (nI (a + 1)) (by show x.1 (6, f, 0) 6 + 1 = _; rw [ha, nI_1]) ?_
  refine j_puti B kX_inj fs_Pr_40 (q_pr hf) rfl d_Pr_makeAction_44 ?_
  refine j_iloadn B d_Pr_makeAction_47 rfl ?_
  exact j_iret B hr hlk d_Pr_makeAction_48 (sv ha.symm) (rfl)
set_option maxRecDepth 100000 in
theorem ok_Pr_chain {l : Launch} {D : va_G} {aC : Nat → ClassId} {ad : Nat → Nat} {f : Nat} (hf : f < 6) (x : tm_M) (v : Int32) {k a : Nat} (hc : x.1 (6, f, 0) 6 = nI a) (h40 : a ≤ 40) (hk : k < a) :
    OkX l y_Pr_chain b_Pr_chain 3 none (rom 1 21) D aC ad [.ref (ad (prO f)), .int (nI k), .int v] x none (sA x (6, f, 5) k v) := by
  refine ok_start (by decide) (Nat.le_of_ble_eq_true rfl) rfl ?_
  intro p e s m args below meth c B hr hlk hml
  have B : Cx p s m c args b_Pr_chain R_Pr D aC (rg 111 ad) 111 ad := B
  refine j_aloadn B d_Pr_chain_0 rfl ?_
  refine j_iloadn B d_Pr_chain_1 rfl ?_
  refine j_cVt B (ok_Pr_hasAction hf x (nI k)) cv_Pr_hasAction ml_Pr_50 (q_pr hf) rfl rfl ⟨rfl, rfl, by decide, by decide⟩ ⟨Nat.zero_le _, Nat.zero_le _⟩ hml (Nat.le_of_ble_eq_true rfl) rfl d_Pr_chain_2 ?_
  refine j_if_eq (tgt := 15) B d_Pr_chain_5 (by decide) (fun h5 => (show False from bI_e h5 ⟨nI_pos' (by omega), by rw [hc]; exact nI_lt hk (by omega)⟩).elim) (fun h5 => ?_)
  refine j_aloadn B d_Pr_chain_8 rfl ?_
  refine j_getr B fl_Pr_24 (q_pr hf) rfl d_Pr_chain_9 ?_
  refine j_iloadn B d_Pr_chain_12 rfl ?_
  refine j_iloadn B d_Pr_chain_13 rfl ?_
  refine j_iast B kX_inj (q_pr5 hf) (⟨rfl, by omega, by decide⟩) d_Pr_chain_14 ?_
  exact j_vret B hr hlk d_Pr_chain_15 (rfl) (rfl)
set_option maxRecDepth 100000 in
theorem ok_Pr_landHere {l : Launch} {D : va_G} {aC : Nat → ClassId} {ad : Nat → Nat} {f : Nat} (hf : f < 6) (x : tm_M) {k a : Nat} (hc : x.1 (6, f, 0) 6 = nI a) (h40 : a ≤ 40) (hk : k < a) :
    OkX l y_Pr_landHere b_Pr_landHere 2 none (rom 1 21) D aC ad [.ref (ad (prO f)), .int (nI k)] x none (sA x (6, f, 4) k (x.1 (6, f, 0) 2)) := by
  refine ok_start (by decide) (Nat.le_of_ble_eq_true rfl) rfl ?_
  intro p e s m args below meth c B hr hlk hml
  have B : Cx p s m c args b_Pr_landHere R_Pr D aC (rg 111 ad) 111 ad := B
  refine j_aloadn B d_Pr_landHere_0 rfl ?_
  refine j_iloadn B d_Pr_landHere_1 rfl ?_
  refine j_cVt B (ok_Pr_hasAction hf x (nI k)) cv_Pr_hasAction ml_Pr_50 (q_pr hf) rfl rfl ⟨rfl, rfl, by decide, by decide⟩ ⟨Nat.zero_le _, Nat.zero_le _⟩ hml (Nat.le_of_ble_eq_true rfl) rfl d_Pr_landHere_2 ?_
  refine j_if_eq (tgt := 18) B d_Pr_landHere_5 (by decide) (fun h5 => (show False from bI_e h5 ⟨nI_pos' (by omega), by rw [hc]; exact nI_lt hk (by omega)⟩).elim) (fun h5 => ?_)
  refine j_aloadn B d_Pr_landHere_8 rfl ?_
  refine j_getr B fl_Pr_21 (q_pr hf) rfl d_Pr_landHere_9 ?_
  refine j_iloadn B d_Pr_landHere_12 rfl ?_
  refine j_aloadn B d_Pr_landHere_13 rfl ?_
  refine j_geti B fl_Pr_36 (q_pr hf) rfl d_Pr_landHere_14 ?_
  refine j_iast B kX_inj (q_pr4 hf) (⟨rfl, by omega, by decide⟩) d_Pr_landHere_17 ?_
  exact j_vret B hr hlk d_Pr_landHere_18 (rfl) (rfl)
set_option maxRecDepth 100000 in
theorem ok_Bl_begin {l : Launch} {D : va_G} {aC : Nat → ClassId} {ad : Nat → Nat} {i : Nat} (hi : i < 5) (x : tm_M) (a b c d : Int32) :
    OkX l y_Bl_begin b_Bl_begin 5 none (rom 0 0) D aC ad [.ref (ad (blO i)), .int a, .int b, .int c, .int d] x none (sI (sI (sI (sI (sI (sI x (4, i, 0) 0 a) (4, i, 0) 1 b) (4, i, 0) 2 c) (4, i, 0) 3 d) (4, i, 0) 4 c) (4, i, 0) 6 0) := by
  refine ok_start (by decide) (Nat.le_of_ble_eq_true rfl) rfl ?_
  intro p e s m args below meth c B hr hlk hml
  have B : Cx p s m c args b_Bl_begin R_Bl D aC (rg 111 ad) 111 ad := B
  refine j_aloadn B d_Bl_begin_0 rfl ?_
  refine j_iloadn B d_Bl_begin_1 rfl ?_
  refine j_puti B kX_inj fs_Bl_15 (q_bl hi) rfl d_Bl_begin_2 ?_
  refine j_aloadn B d_Bl_begin_5 rfl ?_
  refine j_iloadn B d_Bl_begin_6 rfl ?_
  refine j_puti B kX_inj fs_Bl_19 (q_bl hi) rfl d_Bl_begin_7 ?_
  refine j_aloadn B d_Bl_begin_10 rfl ?_
  refine j_iloadn B d_Bl_begin_11 rfl ?_
  refine j_puti B kX_inj fs_Bl_22 (q_bl hi) rfl d_Bl_begin_12 ?_
  refine j_aloadn B d_Bl_begin_15 rfl ?_
  refine j_iload B d_Bl_begin_16 rfl ?_
  refine j_puti B kX_inj fs_Bl_25 (q_bl hi) rfl d_Bl_begin_18 ?_
  refine j_aloadn B d_Bl_begin_21 rfl ?_
  refine j_iloadn B d_Bl_begin_22 rfl ?_
  refine j_puti B kX_inj fs_Bl_28 (q_bl hi) rfl d_Bl_begin_23 ?_
  refine j_aloadn B d_Bl_begin_26 rfl ?_
  refine j_iconst (v := 0) B d_Bl_begin_27 (by decide) ?_
  refine j_puti B kX_inj fs_Bl_31 (q_bl hi) rfl d_Bl_begin_28 ?_
  exact j_vret B hr hlk d_Bl_begin_31 (rfl) (rfl)
set_option maxRecDepth 100000 in
theorem ok_Bl_noteExit {l : Launch} {D : va_G} {aC : Nat → ClassId} {ad : Nat → Nat} {i : Nat} (hi : i < 5) (x : tm_M) (v : Int32) {t : Nat} (ht : x.1 (4, i, 0) 6 = nI t) (h20 : t < 20) :
    OkX l y_Bl_noteExit b_Bl_noteExit 2 none (rom 0 0) D aC ad [.ref (ad (blO i)), .int v] x none (sI (sA x (4, i, 1) t v) (4, i, 0) 6 (nI (t + 1))) := by
  refine ok_start (by decide) (Nat.le_of_ble_eq_true rfl) rfl ?_
  intro p e s m args below meth c B hr hlk hml
  have B : Cx p s m c args b_Bl_noteExit R_Bl D aC (rg 111 ad) 111 ad := B
  refine j_aloadn B d_Bl_noteExit_0 rfl ?_
  refine j_geti B fl_Bl_31 (q_bl hi) rfl d_Bl_noteExit_1 ?_
  refine j_bipush (v := 20) B d_Bl_noteExit_4 (by decide) ?_
  refine j_icmp_ge (tgt := 29) B d_Bl_noteExit_6 (by decide) (fun h6 => (show False from absurd (nIle (c := 20) (ht ▸ h6) (by decide) (by omega)) (by omega)).elim) (fun h6 => ?_)
  refine j_aloadn B d_Bl_noteExit_9 rfl ?_
  refine j_getr B fl_Bl_9 (q_bl hi) rfl d_Bl_noteExit_10 ?_
  refine j_aloadn B d_Bl_noteExit_13 rfl ?_
  refine j_geti B fl_Bl_31 (q_bl hi) rfl d_Bl_noteExit_14 ?_
  refine j_iloadn B d_Bl_noteExit_17 rfl ?_
  refine j_iast B kX_inj (q_bl1 hi) (⟨ht, h20, by decide⟩) d_Bl_noteExit_18 ?_
  refine j_aloadn B d_Bl_noteExit_19 rfl ?_
  refine j_dup B d_Bl_noteExit_20 rfl ?_
  refine j_geti B fl_Bl_31 (q_bl hi) rfl d_Bl_noteExit_21 ?_
  refine j_iconst (v := 1) B d_Bl_noteExit_24 (by decide) ?_
  refine j_iadd B d_Bl_noteExit_25 ?_
  refine j_topi (nI (t + 1)) (by show x.1 (4, i, 0) 6 + 1 = _; rw [ht, nI_1]) ?_
  refine j_puti B kX_inj fs_Bl_31 (q_bl hi) rfl d_Bl_noteExit_26 ?_
  exact j_vret B hr hlk d_Bl_noteExit_29 (rfl) (rfl)
end
section
/-- the head of the first site around a place -/
def hdF (F L H : Nat → Int32) (u : Int32) : Nat → Nat → Int32
  | 0, _ => -1
  | r + 1, k => if F k ≤ u ∧ u ≤ L k then H k else hdF F L H u r (k + 1)
set_option maxRecDepth 100000 in
theorem ok_Pr_headAround {l : Launch} {D : va_G} {aC : Nat → ClassId} {ad : Nat → Nat} {f : Nat} (hf : f < 6) (x : tm_M) (u : Int32) {q : Nat} (hq : x.1 (6, f, 0) 10 = nI q) (h20 : q ≤ 20) :
    OkX l y_Pr_headAround b_Pr_headAround 3 (some .int) (rom 0 0) D aC ad [.ref (ad (prO f)), .int u] x (some (.int (hdF (x.2 (6, f, 6)) (x.2 (6, f, 7)) (x.2 (6, f, 8)) u q 0))) x := by
  refine ok_start (by decide) (Nat.le_of_ble_eq_true rfl) rfl ?_
  intro p e s m args below meth c B hr hlk hml
  have B : Cx p s m c args b_Pr_headAround R_Pr D aC (rg 111 ad) 111 ad := B
  have loop : ∀ (r k : Nat), k + r = q → hdF (x.2 (6, f, 6)) (x.2 (6, f, 7)) (x.2 (6, f, 8)) u r k = (hdF (x.2 (6, f, 6)) (x.2 (6, f, 7)) (x.2 (6, f, 8)) u q 0) → J p l e (rom 0 0) s m args below meth c D (rg 111 ad) 0 0 (MQ below (Qk D aC 111 ad (some (.int (hdF (x.2 (6, f, 6)) (x.2 (6, f, 7)) (x.2 (6, f, 8)) u q 0))) (wX ad aC x)) args s 0 0 (rg 111 ad)) 111 ad (wX ad aC x) 3 2 [(2, .int (nI k)), (0, .ref (ad (prO f))), (1, .int u)] [] := by
    intro r
    induction r with
    | zero =>
      intro k hk hR
      refine j_iloadn B d_Pr_headAround_2 rfl ?_
      refine j_aloadn B d_Pr_headAround_3 rfl ?_
      refine j_geti B fl_Pr_43 (q_pr hf) rfl d_Pr_headAround_4 ?_
      refine j_icmp_ge (tgt := 43) B d_Pr_headAround_7 (by decide) (fun h7 => ?_) (fun h7 => (show False from h7 (by rw [hq]; exact nI_le (by omega) (by omega))).elim)
      refine j_iconst (v := (-1)) B d_Pr_headAround_43 (by decide) ?_
      exact j_iret B hr hlk d_Pr_headAround_44 (sv hR.symm) (rfl)
    | succ r ih =>
      intro k hk hR
      refine j_iloadn B d_Pr_headAround_2 rfl ?_
      refine j_aloadn B d_Pr_headAround_3 rfl ?_
      refine j_geti B fl_Pr_43 (q_pr hf) rfl d_Pr_headAround_4 ?_
      refine j_icmp_ge (tgt := 43) B d_Pr_headAround_7 (by decide) (fun h7 => (show False from absurd (nIle (hq ▸ h7) (by omega) (by omega)) (by omega)).elim) (fun h7 => ?_)
      refine j_aloadn B d_Pr_headAround_10 rfl ?_
      refine j_getr B fl_Pr_27 (q_pr hf) rfl d_Pr_headAround_11 ?_
      refine j_iloadn B d_Pr_headAround_14 rfl ?_
      refine j_iald B (q_pr6 hf) (⟨rfl, by omega, by decide⟩) d_Pr_headAround_15 ?_
      refine j_iloadn B d_Pr_headAround_16 rfl ?_
      refine j_icmp_gt (tgt := 37) B d_Pr_headAround_17 (by decide) (fun h17 => ?_) (fun h17 => ?_)
      · -- yes
        refine j_iinc B d_Pr_headAround_37 rfl (by decide) (nI_1 k) ?_
        refine j_goto (tgt := 2) B d_Pr_headAround_40 (by decide) ?_
        refine j_loc [(2, .int (nI (k + 1))), (0, .ref (ad (prO f))), (1, .int u)] ⟨rfl, rfl, rfl, trivial⟩ ?_
        exact ih (k + 1) (by omega) (by rw [← hR]; symm; exact if_neg (fun z => by first | exact absurd z.1 (Int32.not_le.mpr h17) | exact absurd z.2 (Int32.not_le.mpr h27)))
      · -- no
        refine j_iloadn B d_Pr_headAround_20 rfl ?_
        refine j_aloadn B d_Pr_headAround_21 rfl ?_
        refine j_getr B fl_Pr_30 (q_pr hf) rfl d_Pr_headAround_22 ?_
        refine j_iloadn B d_Pr_headAround_25 rfl ?_
        refine j_iald B (q_pr7 hf) (⟨rfl, by omega, by decide⟩) d_Pr_headAround_26 ?_
        refine j_icmp_gt (tgt := 37) B d_Pr_headAround_27 (by decide) (fun h27 => ?_) (fun h27 => ?_)
        · -- yes
          refine j_iinc B d_Pr_headAround_37 rfl (by decide) (nI_1 k) ?_
          refine j_goto (tgt := 2) B d_Pr_headAround_40 (by decide) ?_
          refine j_loc [(2, .int (nI (k + 1))), (0, .ref (ad (prO f))), (1, .int u)] ⟨rfl, rfl, rfl, trivial⟩ ?_
          exact ih (k + 1) (by omega) (by rw [← hR]; symm; exact if_neg (fun z => by first | exact absurd z.1 (Int32.not_le.mpr h17) | exact absurd z.2 (Int32.not_le.mpr h27)))
        · -- no
          refine j_aloadn B d_Pr_headAround_30 rfl ?_
          refine j_getr B fl_Pr_33 (q_pr hf) rfl d_Pr_headAround_31 ?_
          refine j_iloadn B d_Pr_headAround_34 rfl ?_
          refine j_iald B (q_pr8 hf) (⟨rfl, by omega, by decide⟩) d_Pr_headAround_35 ?_
          exact j_iret B hr hlk d_Pr_headAround_36 (sv (by rw [← hR]; exact if_pos ⟨Int32.not_lt.mp h17, Int32.not_lt.mp h27⟩)) (rfl)
  refine j_iconst (v := 0) B d_Pr_headAround_0 (by decide) ?_
  refine j_istoren B d_Pr_headAround_1 (by decide) ?_
  refine j_loc [(2, .int (nI 0)), (0, .ref (ad (prO f))), (1, .int u)] ⟨rfl, rfl, rfl, trivial⟩ ?_
  exact loop q 0 (by omega) rfl
/-- is the type a another, seen over r steps -/
def anF (t : Int32) (P : Nat → Int32) (o : Int32) : Nat → Int32 → Int32
  | 0, _ => 0
  | r + 1, a => if 0 ≤ a ∧ a < t then (if a = o then 1 else anF t P o r (P a.toNatClampNeg)) else 0
theorem anF_b {t : Int32} {P : Nat → Int32} {o : Int32} : ∀ (r : Nat) (a : Int32), anF t P o r a = 0 ∨ anF t P o r a = 1
  | 0, _ => Or.inl rfl
  | r + 1, a => by
    unfold anF
    split
    · split
      · exact Or.inr rfl
      · exact anF_b r _
    · exact Or.inl rfl
set_option maxRecDepth 100000 in
theorem ok_Ty_isAnother {l : Launch} {D : va_G} {aC : Nat → ClassId} {ad : Nat → Nat} (x : tm_M) (u v : Int32) {t : Nat} (ht : x.1 (5, 0, 1) 1 = nI t) (h8 : t ≤ 8) :
    OkX l y_Ty_isAnother b_Ty_isAnother 5 (some .boolean) (rom 1 21) D aC ad [.ref (ad 35), .int u, .int v] x (some (.int (anF (x.1 (5, 0, 1) 1) (x.2 (5, 0, 2)) v 8 u))) x := by
  refine ok_start (by decide) (Nat.le_of_ble_eq_true rfl) rfl ?_
  intro p e s m args below meth c B hr hlk hml
  have B : Cx p s m c args b_Ty_isAnother R_Ty D aC (rg 111 ad) 111 ad := B
  have loop : ∀ (r k : Nat) (a : Int32), k + r = 8 → anF (x.1 (5, 0, 1) 1) (x.2 (5, 0, 2)) v r a = (anF (x.1 (5, 0, 1) 1) (x.2 (5, 0, 2)) v 8 u) → J p l e (rom 1 21) s m args below meth c D (rg 111 ad) 0 0 (MQ below (Qk D aC 111 ad (some (.int (anF (x.1 (5, 0, 1) 1) (x.2 (5, 0, 2)) v 8 u))) (wX ad aC x)) args s 0 0 (rg 111 ad)) 111 ad (wX ad aC x) 5 5 [(4, .int (nI k)), (3, .int a), (0, .ref (ad 35)), (1, .int u), (2, .int v)] [] := by
    intro r
    induction r with
    | zero =>
      intro k a hk hR
      refine j_iload B d_Ty_isAnother_5 rfl ?_
      refine j_bipush (v := 8) B d_Ty_isAnother_7 (by decide) ?_
      refine j_icmp_ge (tgt := 40) B d_Ty_isAnother_9 (by decide) (fun h9 => ?_) (fun h9 => (show False from h9 (nI_le (a := 8) (by omega) (by omega))).elim)
      refine j_iconst (v := 0) B d_Ty_isAnother_40 (by decide) ?_
      exact j_zret B hr hlk d_Ty_isAnother_41 (by first | exact Or.inl rfl | exact Or.inr rfl) (sv hR.symm) (rfl)
    | succ r ih =>
      intro k a hk hR
      refine j_iload B d_Ty_isAnother_5 rfl ?_
      refine j_bipush (v := 8) B d_Ty_isAnother_7 (by decide) ?_
      refine j_icmp_ge (tgt := 40) B d_Ty_isAnother_9 (by decide) (fun h9 => (show False from absurd (nIle (c := 8) h9 (by decide) (by omega)) (by omega)).elim) (fun h9 => ?_)
      refine j_aloadn B d_Ty_isAnother_12 rfl ?_
      refine j_iloadn B d_Ty_isAnother_13 rfl ?_
      refine j_cVt B (ok_Ty_has x a) cv_Ty_has ml_Ty_23 (q_35) rfl rfl ⟨rfl, rfl, by decide, by decide⟩ ⟨Nat.zero_le _, Nat.zero_le _⟩ hml (Nat.le_of_ble_eq_true rfl) rfl d_Ty_isAnother_14 ?_
      refine j_if_eq (tgt := 40) B d_Ty_isAnother_17 (by decide) (fun h17 => ?_) (fun h17 => ?_)
      · -- yes
        refine j_iconst (v := 0) B d_Ty_isAnother_40 (by decide) ?_
        exact j_zret B hr hlk d_Ty_isAnother_41 (by first | exact Or.inl rfl | exact Or.inr rfl) (sv (by rw [← hR]; first | exact if_neg (bI_e h17) | (refine (if_pos (bI_ne h17)).trans ?_; exact if_pos h22))) (rfl)
      · -- no
        refine j_iloadn B d_Ty_isAnother_20 rfl ?_
        refine j_iloadn B d_Ty_isAnother_21 rfl ?_
        refine j_icmp_ne (tgt := 27) B d_Ty_isAnother_22 (by decide) (fun h22 => ?_) (fun h22 => ?_)
        · -- yes
          refine j_aloadn B d_Ty_isAnother_27 rfl ?_
          refine j_getr B fl_Ty_9 (q_35) rfl d_Ty_isAnother_28 ?_
          refine j_iloadn B d_Ty_isAnother_31 rfl ?_
          refine j_iald B (q_36) (ixg (bI_ne h17) ht h8 (by decide)) d_Ty_isAnother_32 ?_
          refine j_istoren B d_Ty_isAnother_33 (by decide) ?_
          refine j_iinc B d_Ty_isAnother_34 rfl (by decide) (nI_1 k) ?_
          refine j_goto (tgt := 5) B d_Ty_isAnother_37 (by decide) ?_
          refine j_loc [(4, .int (nI (k + 1))), (3, .int (x.2 (5, 0, 2) a.toNatClampNeg)), (0, .ref (ad 35)), (1, .int u), (2, .int v)] ⟨rfl, rfl, rfl, rfl, rfl, trivial⟩ ?_
          exact ih (k + 1) _ (by omega) (by rw [← hR]; symm; exact (if_pos (bI_ne h17)).trans (if_neg h22))
        · -- no
          refine j_iconst (v := 1) B d_Ty_isAnother_25 (by decide) ?_
          exact j_zret B hr hlk d_Ty_isAnother_26 (by first | exact Or.inl rfl | exact Or.inr rfl) (sv (by rw [← hR]; first | exact if_neg (bI_e h17) | (refine (if_pos (bI_ne h17)).trans ?_; exact if_pos h22))) (rfl)
  refine j_iloadn B d_Ty_isAnother_0 rfl ?_
  refine j_istoren B d_Ty_isAnother_1 (by decide) ?_
  refine j_iconst (v := 0) B d_Ty_isAnother_2 (by decide) ?_
  refine j_istore B d_Ty_isAnother_3 (by decide) ?_
  refine j_loc [(4, .int (nI 0)), (3, .int u), (0, .ref (ad 35)), (1, .int u), (2, .int v)] ⟨rfl, rfl, rfl, rfl, rfl, trivial⟩ ?_
  exact loop 8 0 u (by omega) rfl
/-- the first j exits are aimed at the place n -/
def aeX (f n : Nat) (E : Nat → Nat) (x : tm_M) : Nat → tm_M
  | 0 => x
  | j + 1 => sA (aeX f n E x j) (6, f, 2) (E j) (nI n)
theorem aeX_1 {f n : Nat} {E : Nat → Nat} {x : tm_M} : ∀ j, (aeX f n E x j).1 = x.1
  | 0 => rfl
  | j + 1 => by unfold aeX; rw [rAI]; exact aeX_1 j
theorem aeX_2 {f n : Nat} {E : Nat → Nat} {x : tm_M} {K : tm_K} (h : K ≠ (6, f, 2)) : ∀ j, (aeX f n E x j).2 K = x.2 K
  | 0 => rfl
  | j + 1 => by unfold aeX; rw [rAK h]; exact aeX_2 h j
set_option maxRecDepth 100000 in
theorem ok_Bl_aimExits {l : Launch} {D : va_G} {aC : Nat → ClassId} {ad : Nat → Nat} {i : Nat} (hi : i < 5) {f : Nat} (hf : f < 6) (x : tm_M) {t n : Nat} (E : Nat → Nat) (ht : x.1 (4, i, 0) 6 = nI t) (h20 : t ≤ 20) (hn : x.1 (6, f, 0) 2 = nI n) (h81 : n ≤ 81) (hE : ∀ k, k < t → x.2 (4, i, 1) k = nI (E k) ∧ E k < n) :
    OkX l y_Bl_aimExits b_Bl_aimExits 3 none (rom 2 43) D aC ad [.ref (ad (blO i)), .ref (ad (prO f))] x none (aeX f n E x t) := by
  refine ok_start (by decide) (Nat.le_of_ble_eq_true rfl) rfl ?_
  intro p e s m args below meth c B hr hlk hml
  have B : Cx p s m c args b_Bl_aimExits R_Bl D aC (rg 111 ad) 111 ad := B
  have loop : ∀ (r k : Nat), k + r = t → J p l e (rom 2 43) s m args below meth c D (rg 111 ad) 0 0 (MQ below (Qk D aC 111 ad none (wX ad aC (aeX f n E x t))) args s 0 0 (rg 111 ad)) 111 ad (wX ad aC (aeX f n E x k)) 3 2 [(2, .int (nI k)), (0, .ref (ad (blO i))), (1, .ref (ad (prO f)))] [] := by
    intro r
    induction r with
    | zero =>
      intro k hk
      refine j_iloadn B d_Bl_aimExits_2 rfl ?_
      refine j_aloadn B d_Bl_aimExits_3 rfl ?_
      refine j_geti B fl_Bl_31 (q_bl hi) rfl d_Bl_aimExits_4 ?_
      refine j_icmp_ge (tgt := 30) B d_Bl_aimExits_7 (by decide) (fun h7 => ?_) (fun h7 => (show False from h7 (by rw [aeX_1, ht]; exact nI_le (by omega) (by omega))).elim)
      exact j_vret B hr hlk d_Bl_aimExits_30 (rfl) (by rw [show k = t by omega])
    | succ r ih =>
      intro k hk
      refine j_iloadn B d_Bl_aimExits_2 rfl ?_
      refine j_aloadn B d_Bl_aimExits_3 rfl ?_
      refine j_geti B fl_Bl_31 (q_bl hi) rfl d_Bl_aimExits_4 ?_
      refine j_icmp_ge (tgt := 30) B d_Bl_aimExits_7 (by decide) (fun h7 => (show False from absurd (nIle (ht ▸ (aeX_1 (f := f) (n := n) (E := E) (x := x) k) ▸ h7) (by omega) (by omega)) (by omega)).elim) (fun h7 => ?_)
      refine j_aloadn B d_Bl_aimExits_10 rfl ?_
      refine j_aloadn B d_Bl_aimExits_11 rfl ?_
      refine j_getr B fl_Bl_9 (q_bl hi) rfl d_Bl_aimExits_12 ?_
      refine j_iloadn B d_Bl_aimExits_15 rfl ?_
      refine j_iald B (q_bl1 hi) (⟨rfl, by omega, by decide⟩) d_Bl_aimExits_16 ?_
      refine j_topi (nI (E k)) (by rw [aeX_2 (by simp)]; exact (hE k (by omega)).1) ?_
      refine j_aloadn B d_Bl_aimExits_17 rfl ?_
      refine j_geti B fl_Bl_34 (q_pr hf) rfl d_Bl_aimExits_18 ?_
      refine j_topi (nI n) (by rw [aeX_1]; exact hn) ?_
      refine j_cVt B (ok_Pr_aim hf (aeX f n E x k) (nI n) (a := E k) (n := n) (by rw [aeX_1]; exact hn) h81 (hE k (by omega)).2) cv_Pr_aim ml_Bl_39 (q_pr hf) rfl rfl ⟨rfl, rfl, by decide, by decide⟩ ⟨Nat.zero_le _, Nat.zero_le _⟩ hml (Nat.le_of_ble_eq_true rfl) rfl d_Bl_aimExits_21 ?_
      refine j_iinc B d_Bl_aimExits_24 rfl (by decide) (nI_1 k) ?_
      refine j_goto (tgt := 2) B d_Bl_aimExits_27 (by decide) ?_
      refine j_loc [(2, .int (nI (k + 1))), (0, .ref (ad (blO i))), (1, .ref (ad (prO f)))] ⟨rfl, rfl, rfl, trivial⟩ ?_
      exact ih (k + 1) (by omega)
  refine j_iconst (v := 0) B d_Bl_aimExits_0 (by decide) ?_
  refine j_istoren B d_Bl_aimExits_1 (by decide) ?_
  refine j_loc [(2, .int (nI 0)), (0, .ref (ad (blO i))), (1, .ref (ad (prO f)))] ⟨rfl, rfl, rfl, trivial⟩ ?_
  exact loop t 0 (by omega)
end
section
theorem nIp {o : Nat} (h : 0 < o) : nI o - 1 = nI (o - 1) := by
  cases o with
  | zero => omega
  | succ o => exact nI_pred o
/-- a whole array is set -/
def sAA (x : tm_M) (K : tm_K) (g : Nat → Int32) : tm_M := (x.1, fun K' => if K' = K then g else x.2 K')
theorem sAA_self {x : tm_M} {K : tm_K} : sAA x K (x.2 K) = x := by
  unfold sAA
  refine Prod.ext rfl ?_
  funext K'
  by_cases h : K' = K
  · simp [h]
  · simp [h]
/-- the checker's own cells: rows open, their kinds -/
def ckX (o : Nat) (K : Nat → Int32) (x : tm_M) : tm_M := sI (sAA x (2, 0, 1) K) (2, 0, 0) 1 (nI o)
theorem ckX_o {o : Nat} {K : Nat → Int32} {x : tm_M} : (ckX o K x).1 (2, 0, 0) 1 = nI o := rI
theorem ckX_K {o : Nat} {K : Nat → Int32} {x : tm_M} : (ckX o K x).2 (2, 0, 1) = K := by simp [ckX, sI, sAA]
theorem ckX_1 {o : Nat} {K : Nat → Int32} {x : tm_M} {K' : tm_K} (h : K' ≠ (2, 0, 0)) : (ckX o K x).1 K' = x.1 K' := by simp [ckX, sI, sAA, h]
theorem ckX_2 {o : Nat} {K : Nat → Int32} {x : tm_M} {K' : tm_K} (h : K' ≠ (2, 0, 1)) : (ckX o K x).2 K' = x.2 K' := by simp [ckX, sI, sAA, h]
theorem ckX_A {o i : Nat} {v : Int32} {K : Nat → Int32} {x : tm_M} : sA (ckX o K x) (2, 0, 1) i v = ckX o (upd K i v) x := by
  unfold ckX sA sI sAA
  refine Prod.ext rfl ?_
  funext K'
  by_cases h : K' = (2, 0, 1)
  · simp [h]
  · simp [h]
theorem ckX_I {o o' : Nat} {K : Nat → Int32} {x : tm_M} : sI (ckX o K x) (2, 0, 0) 1 (nI o') = ckX o' K x := by
  unfold ckX sI sAA
  refine Prod.ext ?_ rfl
  funext K' j
  by_cases h : K' = (2, 0, 0)
  · by_cases hj : j = 1
    · simp [h, hj, upd]
    · simp [h, hj, upd]
  · simp [h]
theorem ckX_0 {x : tm_M} : sI x (2, 0, 0) 1 0 = ckX 0 (x.2 (2, 0, 1)) x := by
  unfold ckX
  rw [sAA_self]
  rfl
def inCF (K : Nat → Int32) : Nat → Nat → Int32
  | 0, _ => 0
  | r + 1, i => if K i = 4 then 1 else inCF K r (i + 1)
theorem inCF_b {K : Nat → Int32} : ∀ r i, inCF K r i = 0 ∨ inCF K r i = 1
  | 0, _ => Or.inl rfl
  | r + 1, i => by
    unfold inCF
    split
    · exact Or.inr rfl
    · exact inCF_b r _
/-- a statement is looked at: accepted or not, rows open, their kinds -/
def ckS (o : Nat) (K : Nat → Int32) (s : Int32) : Int32 × Nat × (Nat → Int32) :=
  if s = 3 ∨ s = 6 then (if o < 5 then (1, o + 1, upd K o s) else (0, o, K))
  else if s = 4 then (if 0 < o ∧ K (o - 1) ≠ 6 then (1, o, upd K (o - 1) 4) else (0, o, K))
  else if s = 5 then (if 0 < o ∧ K (o - 1) ≠ 3 then (1, o - 1, K) else (0, o, K))
  else if s = 7 then (inCF K o 0, o, K)
  else (1, o, K)
theorem ckS_le {o : Nat} {K : Nat → Int32} {s : Int32} (h : o ≤ 5) : (ckS o K s).2.1 ≤ 5 := by
  unfold ckS
  repeat' split
  all_goals simp only []
  all_goals omega
/-- the whole text, from statement i on -/
def wfF (S : Nat → Int32) : Nat → Nat → Nat → (Nat → Int32) → Int32 × Nat × (Nat → Int32)
  | 0, _, o, K => (if o = 0 then 1 else 0, o, K)
  | r + 1, i, o, K => if (ckS o K (S i)).1 = 0 then (0, (ckS o K (S i)).2) else wfF S r (i + 1) (ckS o K (S i)).2.1 (ckS o K (S i)).2.2
theorem wfF_b {S : Nat → Int32} : ∀ r i o K, (wfF S r i o K).1 = 0 ∨ (wfF S r i o K).1 = 1
  | 0, _, o, K => by
    unfold wfF
    by_cases h : o = 0
    · simp [h]
    · simp [h]
  | r + 1, i, o, K => by
    unfold wfF
    split
    · exact Or.inl rfl
    · exact wfF_b r _ _ _
set_option maxRecDepth 100000 in
theorem ok_Ck_opensRow {l : Launch} {D : va_G} {aC : Nat → ClassId} {ad : Nat → Nat} (x : tm_M) {o : Nat} {K : Nat → Int32} (ho : o ≤ 5) (v : Int32) :
    OkX l y_Ck_opensRow b_Ck_opensRow 2 (some .boolean) (rom 0 0) D aC ad [.ref (ad 20), .int v] (ckX o K x) (some (.int (if o < 5 then 1 else 0))) (if o < 5 then ckX (o + 1) (upd K o v) x else ckX o K x) := by
  refine ok_start (by decide) (Nat.le_of_ble_eq_true rfl) rfl ?_
  intro p e s m args below meth c B hr hlk hml
  have B : Cx p s m c args b_Ck_opensRow R_Ck D aC (rg 111 ad) 111 ad := B
  refine j_aloadn B d_Ck_opensRow_0 rfl ?_
  refine j_geti B fl_Ck_15 (q_20) rfl d_Ck_opensRow_1 ?_
  refine j_topi (nI o) ckX_o ?_
  refine j_iconst (v := 5) B d_Ck_opensRow_4 (by decide) ?_
  refine j_icmp_lt (tgt := 10) B d_Ck_opensRow_5 (by decide) (fun h5 => ?_) (fun h5 => ?_)
  · -- yes
    have ho5 : o < 5 := nIlt (t := 5) h5 (by omega) (by decide)
    refine j_aloadn B d_Ck_opensRow_10 rfl ?_
    refine j_getr B fl_Ck_9 (q_20) rfl d_Ck_opensRow_11 ?_
    refine j_aloadn B d_Ck_opensRow_14 rfl ?_
    refine j_geti B fl_Ck_15 (q_20) rfl d_Ck_opensRow_15 ?_
    refine j_topi (nI o) ckX_o ?_
    refine j_iloadn B d_Ck_opensRow_18 rfl ?_
    refine j_iast B kX_inj (q_21) (⟨rfl, ho5, by decide⟩) d_Ck_opensRow_19 ?_
    refine j_x (ckX o (upd K o v) x) ckX_A ?_
    refine j_aloadn B d_Ck_opensRow_20 rfl ?_
    refine j_dup B d_Ck_opensRow_21 rfl ?_
    refine j_geti B fl_Ck_15 (q_20) rfl d_Ck_opensRow_22 ?_
    refine j_iconst (v := 1) B d_Ck_opensRow_25 (by decide) ?_
    refine j_iadd B d_Ck_opensRow_26 ?_
    refine j_topi (nI (o + 1)) (by rw [ckX_o, nI_1]) ?_
    refine j_puti B kX_inj fs_Ck_15 (q_20) rfl d_Ck_opensRow_27 ?_
    refine j_iconst (v := 1) B d_Ck_opensRow_30 (by decide) ?_
    exact j_zret B hr hlk d_Ck_opensRow_31 (by first | exact Or.inl rfl | exact Or.inr rfl) (sv (if_pos ho5)) (congrArg (tw ad aC sX kX) (ckX_I.trans (if_pos ho5).symm))
  · -- no
    refine j_iconst (v := 0) B d_Ck_opensRow_8 (by decide) ?_
    exact j_zret B hr hlk d_Ck_opensRow_9 (by first | exact Or.inl rfl | exact Or.inr rfl) (sv (if_neg (fun z => h5 (nI_lt (b := 5) z (by decide))))) (congrArg (tw ad aC sX kX) (if_neg (fun z => h5 (nI_lt (b := 5) z (by decide)))).symm)
set_option maxRecDepth 100000 in
theorem ok_Ck_turnsToCatch {l : Launch} {D : va_G} {aC : Nat → ClassId} {ad : Nat → Nat} (x : tm_M) {o : Nat} {K : Nat → Int32} (ho : o ≤ 5) :
    OkX l y_Ck_turnsToCatch b_Ck_turnsToCatch 1 (some .boolean) (rom 0 0) D aC ad [.ref (ad 20)] (ckX o K x) (some (.int (if 0 < o ∧ K (o - 1) ≠ 6 then 1 else 0))) (if 0 < o ∧ K (o - 1) ≠ 6 then ckX o (upd K (o - 1) 4) x else ckX o K x) := by
  refine ok_start (by decide) (Nat.le_of_ble_eq_true rfl) rfl ?_
  intro p e s m args below meth c B hr hlk hml
  have B : Cx p s m c args b_Ck_turnsToCatch R_Ck D aC (rg 111 ad) 111 ad := B
  refine j_aloadn B d_Ck_turnsToCatch_0 rfl ?_
  refine j_geti B fl_Ck_15 (q_20) rfl d_Ck_turnsToCatch_1 ?_
  refine j_topi (nI o) ckX_o ?_
  refine j_iconst (v := 1) B d_Ck_turnsToCatch_4 (by decide) ?_
  refine j_icmp_lt (tgt := 24) B d_Ck_turnsToCatch_5 (by decide) (fun h5 => ?_) (fun h5 => ?_)
  · -- yes
    refine j_iconst (v := 0) B d_Ck_turnsToCatch_24 (by decide) ?_
    exact j_zret B hr hlk d_Ck_turnsToCatch_25 (by first | exact Or.inl rfl | exact Or.inr rfl) (by first | exact sv (if_neg (fun z => absurd (nIlt (t := 1) h5 (by omega) (by decide)) (by omega))) | exact sv (if_neg (fun z => z.2 h21))) (by first | exact congrArg (tw ad aC sX kX) (if_neg (fun z => absurd (nIlt (t := 1) h5 (by omega) (by decide)) (by omega))).symm | exact congrArg (tw ad aC sX kX) (if_neg (fun z => z.2 h21)).symm)
  · -- no
    have ho1 : 0 < o := by have := nInlt (t := 1) h5 (by omega) (by decide); omega
    refine j_aloadn B d_Ck_turnsToCatch_8 rfl ?_
    refine j_getr B fl_Ck_9 (q_20) rfl d_Ck_turnsToCatch_9 ?_
    refine j_aloadn B d_Ck_turnsToCatch_12 rfl ?_
    refine j_geti B fl_Ck_15 (q_20) rfl d_Ck_turnsToCatch_13 ?_
    refine j_topi (nI o) ckX_o ?_
    refine j_iconst (v := 1) B d_Ck_turnsToCatch_16 (by decide) ?_
    refine j_isub B d_Ck_turnsToCatch_17 ?_
    refine j_iald B (q_21) (⟨nIp ho1, by omega, by decide⟩) d_Ck_turnsToCatch_18 ?_
    refine j_topi (K (o - 1)) (by rw [ckX_K]) ?_
    refine j_bipush (v := 6) B d_Ck_turnsToCatch_19 (by decide) ?_
    refine j_icmp_ne (tgt := 26) B d_Ck_turnsToCatch_21 (by decide) (fun h21 => ?_) (fun h21 => ?_)
    · -- yes
      refine j_aloadn B d_Ck_turnsToCatch_26 rfl ?_
      refine j_getr B fl_Ck_9 (q_20) rfl d_Ck_turnsToCatch_27 ?_
      refine j_aloadn B d_Ck_turnsToCatch_30 rfl ?_
      refine j_geti B fl_Ck_15 (q_20) rfl d_Ck_turnsToCatch_31 ?_
      refine j_topi (nI o) ckX_o ?_
      refine j_iconst (v := 1) B d_Ck_turnsToCatch_34 (by decide) ?_
      refine j_isub B d_Ck_turnsToCatch_35 ?_
      refine j_iconst (v := 4) B d_Ck_turnsToCatch_36 (by decide) ?_
      refine j_iast B kX_inj (q_21) (⟨nIp ho1, by omega, by decide⟩) d_Ck_turnsToCatch_37 ?_
      refine j_iconst (v := 1) B d_Ck_turnsToCatch_38 (by decide) ?_
      exact j_zret B hr hlk d_Ck_turnsToCatch_39 (by first | exact Or.inl rfl | exact Or.inr rfl) (sv (if_pos ⟨ho1, h21⟩)) (congrArg (tw ad aC sX kX) (ckX_A.trans (if_pos ⟨ho1, h21⟩).symm))
    · -- no
      refine j_iconst (v := 0) B d_Ck_turnsToCatch_24 (by decide) ?_
      exact j_zret B hr hlk d_Ck_turnsToCatch_25 (by first | exact Or.inl rfl | exact Or.inr rfl) (by first | exact sv (if_neg (fun z => absurd (nIlt (t := 1) h5 (by omega) (by decide)) (by omega))) | exact sv (if_neg (fun z => z.2 h21))) (by first | exact congrArg (tw ad aC sX kX) (if_neg (fun z => absurd (nIlt (t := 1) h5 (by omega) (by decide)) (by omega))).symm | exact congrArg (tw ad aC sX kX) (if_neg (fun z => z.2 h21)).symm)
set_option maxRecDepth 100000 in
theorem ok_Ck_closesRow {l : Launch} {D : va_G} {aC : Nat → ClassId} {ad : Nat → Nat} (x : tm_M) {o : Nat} {K : Nat → Int32} (ho : o ≤ 5) :
    OkX l y_Ck_closesRow b_Ck_closesRow 1 (some .boolean) (rom 0 0) D aC ad [.ref (ad 20)] (ckX o K x) (some (.int (if 0 < o ∧ K (o - 1) ≠ 3 then 1 else 0))) (if 0 < o ∧ K (o - 1) ≠ 3 then ckX (o - 1) K x else ckX o K x) := by
  refine ok_start (by decide) (Nat.le_of_ble_eq_true rfl) rfl ?_
  intro p e s m args below meth c B hr hlk hml
  have B : Cx p s m c args b_Ck_closesRow R_Ck D aC (rg 111 ad) 111 ad := B
  refine j_aloadn B d_Ck_closesRow_0 rfl ?_
  refine j_geti B fl_Ck_15 (q_20) rfl d_Ck_closesRow_1 ?_
  refine j_topi (nI o) ckX_o ?_
  refine j_iconst (v := 1) B d_Ck_closesRow_4 (by decide) ?_
  refine j_icmp_lt (tgt := 23) B d_Ck_closesRow_5 (by decide) (fun h5 => ?_) (fun h5 => ?_)
  · -- yes
    refine j_iconst (v := 0) B d_Ck_closesRow_23 (by decide) ?_
    exact j_zret B hr hlk d_Ck_closesRow_24 (by first | exact Or.inl rfl | exact Or.inr rfl) (by first | exact sv (if_neg (fun z => absurd (nIlt (t := 1) h5 (by omega) (by decide)) (by omega))) | exact sv (if_neg (fun z => z.2 h20))) (by first | exact congrArg (tw ad aC sX kX) (if_neg (fun z => absurd (nIlt (t := 1) h5 (by omega) (by decide)) (by omega))).symm | exact congrArg (tw ad aC sX kX) (if_neg (fun z => z.2 h20)).symm)
  · -- no
    have ho1 : 0 < o := by have := nInlt (t := 1) h5 (by omega) (by decide); omega
    refine j_aloadn B d_Ck_closesRow_8 rfl ?_
    refine j_getr B fl_Ck_9 (q_20) rfl d_Ck_closesRow_9 ?_
    refine j_aloadn B d_Ck_closesRow_12 rfl ?_
    refine j_geti B fl_Ck_15 (q_20) rfl d_Ck_closesRow_13 ?_
    refine j_topi (nI o) ckX_o ?_
    refine j_iconst (v := 1) B d_Ck_closesRow_16 (by decide) ?_
    refine j_isub B d_Ck_closesRow_17 ?_
    refine j_iald B (q_21) (⟨nIp ho1, by omega, by decide⟩) d_Ck_closesRow_18 ?_
    refine j_topi (K (o - 1)) (by rw [ckX_K]) ?_
    refine j_iconst (v := 3) B d_Ck_closesRow_19 (by decide) ?_
    refine j_icmp_ne (tgt := 25) B d_Ck_closesRow_20 (by decide) (fun h20 => ?_) (fun h20 => ?_)
    · -- yes
      refine j_aloadn B d_Ck_closesRow_25 rfl ?_
      refine j_dup B d_Ck_closesRow_26 rfl ?_
      refine j_geti B fl_Ck_15 (q_20) rfl d_Ck_closesRow_27 ?_
      refine j_iconst (v := 1) B d_Ck_closesRow_30 (by decide) ?_
      refine j_isub B d_Ck_closesRow_31 ?_
      refine j_topi (nI (o - 1)) (by rw [ckX_o]; exact nIp ho1) ?_
      refine j_puti B kX_inj fs_Ck_15 (q_20) rfl d_Ck_closesRow_32 ?_
      refine j_iconst (v := 1) B d_Ck_closesRow_35 (by decide) ?_
      exact j_zret B hr hlk d_Ck_closesRow_36 (by first | exact Or.inl rfl | exact Or.inr rfl) (sv (if_pos ⟨ho1, h20⟩)) (congrArg (tw ad aC sX kX) (ckX_I.trans (if_pos ⟨ho1, h20⟩).symm))
    · -- no
      refine j_iconst (v := 0) B d_Ck_closesRow_23 (by decide) ?_
      exact j_zret B hr hlk d_Ck_closesRow_24 (by first | exact Or.inl rfl | exact Or.inr rfl) (by first | exact sv (if_neg (fun z => absurd (nIlt (t := 1) h5 (by omega) (by decide)) (by omega))) | exact sv (if_neg (fun z => z.2 h20))) (by first | exact congrArg (tw ad aC sX kX) (if_neg (fun z => absurd (nIlt (t := 1) h5 (by omega) (by decide)) (by omega))).symm | exact congrArg (tw ad aC sX kX) (if_neg (fun z => z.2 h20)).symm)
set_option maxRecDepth 100000 in
theorem ok_Ck_isInCatch {l : Launch} {D : va_G} {aC : Nat → ClassId} {ad : Nat → Nat} (x : tm_M) {o : Nat} {K : Nat → Int32} (ho : o ≤ 5) :
    OkX l y_Ck_isInCatch b_Ck_isInCatch 2 (some .boolean) (rom 0 0) D aC ad [.ref (ad 20)] (ckX o K x) (some (.int (inCF K o 0))) (ckX o K x) := by
  refine ok_start (by decide) (Nat.le_of_ble_eq_true rfl) rfl ?_
  intro p e s m args below meth c B hr hlk hml
  have B : Cx p s m c args b_Ck_isInCatch R_Ck D aC (rg 111 ad) 111 ad := B
  have loop : ∀ (r k : Nat), k + r = o → inCF K r k = (inCF K o 0) → J p l e (rom 0 0) s m args below meth c D (rg 111 ad) 0 0 (MQ below (Qk D aC 111 ad (some (.int (inCF K o 0))) (wX ad aC (ckX o K x))) args s 0 0 (rg 111 ad)) 111 ad (wX ad aC (ckX o K x)) 2 2 [(1, .int (nI k)), (0, .ref (ad 20))] [] := by
    intro r
    induction r with
    | zero =>
      intro k hk hR
      refine j_iloadn B d_Ck_isInCatch_2 rfl ?_
      refine j_aloadn B d_Ck_isInCatch_3 rfl ?_
      refine j_geti B fl_Ck_15 (q_20) rfl d_Ck_isInCatch_4 ?_
      refine j_topi (nI o) ckX_o ?_
      refine j_icmp_ge (tgt := 28) B d_Ck_isInCatch_7 (by decide) (fun h7 => ?_) (fun h7 => (show False from h7 (nI_le (by omega) (by omega))).elim)
      refine j_iconst (v := 0) B d_Ck_isInCatch_28 (by decide) ?_
      exact j_zret B hr hlk d_Ck_isInCatch_29 (by first | exact Or.inl rfl | exact Or.inr rfl) (sv hR.symm) (rfl)
    | succ r ih =>
      intro k hk hR
      refine j_iloadn B d_Ck_isInCatch_2 rfl ?_
      refine j_aloadn B d_Ck_isInCatch_3 rfl ?_
      refine j_geti B fl_Ck_15 (q_20) rfl d_Ck_isInCatch_4 ?_
      refine j_topi (nI o) ckX_o ?_
      refine j_icmp_ge (tgt := 28) B d_Ck_isInCatch_7 (by decide) (fun h7 => (show False from absurd (nIle h7 (by omega) (by omega)) (by omega)).elim) (fun h7 => ?_)
      refine j_aloadn B d_Ck_isInCatch_10 rfl ?_
      refine j_getr B fl_Ck_9 (q_20) rfl d_Ck_isInCatch_11 ?_
      refine j_iloadn B d_Ck_isInCatch_14 rfl ?_
      refine j_iald B (q_21) (⟨rfl, by omega, by decide⟩) d_Ck_isInCatch_15 ?_
      refine j_topi (K k) (by rw [ckX_K]) ?_
      refine j_iconst (v := 4) B d_Ck_isInCatch_16 (by decide) ?_
      refine j_icmp_ne (tgt := 22) B d_Ck_isInCatch_17 (by decide) (fun h17 => ?_) (fun h17 => ?_)
      · -- yes
        refine j_iinc B d_Ck_isInCatch_22 rfl (by decide) (nI_1 k) ?_
        refine j_goto (tgt := 2) B d_Ck_isInCatch_25 (by decide) ?_
        refine j_loc [(1, .int (nI (k + 1))), (0, .ref (ad 20))] ⟨rfl, rfl, trivial⟩ ?_
        exact ih (k + 1) (by omega) (by rw [← hR]; exact (if_neg h17).symm)
      · -- no
        refine j_iconst (v := 1) B d_Ck_isInCatch_20 (by decide) ?_
        exact j_zret B hr hlk d_Ck_isInCatch_21 (by first | exact Or.inl rfl | exact Or.inr rfl) (sv (by rw [← hR]; exact if_pos h17)) (rfl)
  refine j_iconst (v := 0) B d_Ck_isInCatch_0 (by decide) ?_
  refine j_istoren B d_Ck_isInCatch_1 (by decide) ?_
  refine j_loc [(1, .int (nI 0)), (0, .ref (ad 20))] ⟨rfl, rfl, trivial⟩ ?_
  exact loop o 0 (by omega) rfl
theorem sw37 {s : Int32} (h3 : ¬ s = 3) (h4 : ¬ s = 4) (h5 : ¬ s = 5) (h6 : ¬ s = 6) (h7 : ¬ s = 7) : s.toInt < 3 ∨ 7 < s.toInt := by
  have a3 : s.toInt ≠ 3 := fun q => h3 (Int32.toInt_inj.mp q)
  have a4 : s.toInt ≠ 4 := fun q => h4 (Int32.toInt_inj.mp q)
  have a5 : s.toInt ≠ 5 := fun q => h5 (Int32.toInt_inj.mp q)
  have a6 : s.toInt ≠ 6 := fun q => h6 (Int32.toInt_inj.mp q)
  have a7 : s.toInt ≠ 7 := fun q => h7 (Int32.toInt_inj.mp q)
  omega
set_option maxRecDepth 100000 in
theorem ok_Ck_accepts {l : Launch} {D : va_G} {aC : Nat → ClassId} {ad : Nat → Nat} (x : tm_M) {o : Nat} {K : Nat → Int32} (ho : o ≤ 5) (v : Int32) :
    OkX l y_Ck_accepts b_Ck_accepts 2 (some .boolean) (rom 1 21) D aC ad [.ref (ad 20), .int v] (ckX o K x) (some (.int (ckS o K v).1)) (ckX (ckS o K v).2.1 (ckS o K v).2.2 x) := by
  refine ok_start (by decide) (Nat.le_of_ble_eq_true rfl) rfl ?_
  intro p e s m args below meth c B hr hlk hml
  have B : Cx p s m c args b_Ck_accepts R_Ck D aC (rg 111 ad) 111 ad := B
  by_cases h3 : v = 3
  · subst h3
    refine j_iloadn B d_Ck_accepts_0 rfl ?_
    refine j_tabIn (tgt := 36) (off := 35) B d_Ck_accepts_1 (by decide) (by decide) (by decide) (by decide) ?_
    refine j_aloadn B d_Ck_accepts_36 rfl ?_
    refine j_iloadn B d_Ck_accepts_37 rfl ?_
    refine j_cVt B (ok_Ck_opensRow x ho 3) cv_Ck_opensRow ml_Ck_32 (q_20) rfl rfl ⟨rfl, rfl, by decide, by decide⟩ ⟨Nat.zero_le _, Nat.zero_le _⟩ hml (Nat.le_of_ble_eq_true rfl) rfl d_Ck_accepts_38 ?_
    exact j_zret B hr hlk d_Ck_accepts_41 (by by_cases h : o < 5 <;> simp [h]) (by by_cases h : o < 5 <;> simp [ckS, h]) (by by_cases h : o < 5 <;> simp [ckS, h])
  by_cases h6 : v = 6
  · subst h6
    refine j_iloadn B d_Ck_accepts_0 rfl ?_
    refine j_tabIn (tgt := 36) (off := 35) B d_Ck_accepts_1 (by decide) (by decide) (by decide) (by decide) ?_
    refine j_aloadn B d_Ck_accepts_36 rfl ?_
    refine j_iloadn B d_Ck_accepts_37 rfl ?_
    refine j_cVt B (ok_Ck_opensRow x ho 6) cv_Ck_opensRow ml_Ck_32 (q_20) rfl rfl ⟨rfl, rfl, by decide, by decide⟩ ⟨Nat.zero_le _, Nat.zero_le _⟩ hml (Nat.le_of_ble_eq_true rfl) rfl d_Ck_accepts_38 ?_
    exact j_zret B hr hlk d_Ck_accepts_41 (by by_cases h : o < 5 <;> simp [h]) (by by_cases h : o < 5 <;> simp [ckS, h]) (by by_cases h : o < 5 <;> simp [ckS, h])
  by_cases h4 : v = 4
  · subst h4
    refine j_iloadn B d_Ck_accepts_0 rfl ?_
    refine j_tabIn (tgt := 42) (off := 41) B d_Ck_accepts_1 (by decide) (by decide) (by decide) (by decide) ?_
    refine j_aloadn B d_Ck_accepts_42 rfl ?_
    refine j_cVt B (ok_Ck_turnsToCatch x ho) cv_Ck_turnsToCatch ml_Ck_35 (q_20) rfl rfl ⟨rfl, rfl, by decide, by decide⟩ ⟨Nat.zero_le _, Nat.zero_le _⟩ hml (Nat.le_of_ble_eq_true rfl) rfl d_Ck_accepts_43 ?_
    exact j_zret B hr hlk d_Ck_accepts_46 (by by_cases h : 0 < o ∧ K (o - 1) ≠ 6 <;> simp [h]) (by by_cases h : 0 < o ∧ K (o - 1) ≠ 6 <;> simp [ckS, h]) (by by_cases h : 0 < o ∧ K (o - 1) ≠ 6 <;> simp [ckS, h])
  by_cases h5 : v = 5
  · subst h5
    refine j_iloadn B d_Ck_accepts_0 rfl ?_
    refine j_tabIn (tgt := 47) (off := 46) B d_Ck_accepts_1 (by decide) (by decide) (by decide) (by decide) ?_
    refine j_aloadn B d_Ck_accepts_47 rfl ?_
    refine j_cVt B (ok_Ck_closesRow x ho) cv_Ck_closesRow ml_Ck_39 (q_20) rfl rfl ⟨rfl, rfl, by decide, by decide⟩ ⟨Nat.zero_le _, Nat.zero_le _⟩ hml (Nat.le_of_ble_eq_true rfl) rfl d_Ck_accepts_48 ?_
    exact j_zret B hr hlk d_Ck_accepts_51 (by by_cases h : 0 < o ∧ K (o - 1) ≠ 3 <;> simp [h]) (by by_cases h : 0 < o ∧ K (o - 1) ≠ 3 <;> simp [ckS, h]) (by by_cases h : 0 < o ∧ K (o - 1) ≠ 3 <;> simp [ckS, h])
  by_cases h7 : v = 7
  · subst h7
    refine j_iloadn B d_Ck_accepts_0 rfl ?_
    refine j_tabIn (tgt := 52) (off := 51) B d_Ck_accepts_1 (by decide) (by decide) (by decide) (by decide) ?_
    refine j_aloadn B d_Ck_accepts_52 rfl ?_
    refine j_cVt B (ok_Ck_isInCatch x ho) cv_Ck_isInCatch ml_Ck_42 (q_20) rfl rfl ⟨rfl, rfl, by decide, by decide⟩ ⟨Nat.zero_le _, Nat.zero_le _⟩ hml (Nat.le_of_ble_eq_true rfl) rfl d_Ck_accepts_53 ?_
    exact j_zret B hr hlk d_Ck_accepts_56 (inCF_b _ _) (by simp [ckS]) (by simp [ckS])
  · skip
    refine j_iloadn B d_Ck_accepts_0 rfl ?_
    refine j_tabOut (tgt := 57) B d_Ck_accepts_1 (sw37 h3 h4 h5 h6 h7) (by decide) ?_
    refine j_iconst (v := 1) B d_Ck_accepts_57 (by decide) ?_
    exact j_zret B hr hlk d_Ck_accepts_58 (by first | exact Or.inl rfl | exact Or.inr rfl) (by simp [ckS, h3, h4, h5, h6, h7]) (by simp [ckS, h3, h4, h5, h6, h7])
set_option maxRecDepth 100000 in
theorem ok_Ck_isWellFormed {l : Launch} {D : va_G} {aC : Nat → ClassId} {ad : Nat → Nat} {f : Nat} (hf : f < 6) (x : tm_M) {t : Nat} (ht : x.1 (1, f, 0) 2 = nI t) (h20 : t ≤ 20) :
    OkX l y_Ck_isWellFormed b_Ck_isWellFormed 3 (some .boolean) (rom 2 43) D aC ad [.ref (ad 20), .ref (ad (txO f))] x (some (.int (wfF (x.2 (1, f, 1)) t 0 0 (x.2 (2, 0, 1))).1)) (ckX (wfF (x.2 (1, f, 1)) t 0 0 (x.2 (2, 0, 1))).2.1 (wfF (x.2 (1, f, 1)) t 0 0 (x.2 (2, 0, 1))).2.2 x) := by
  refine ok_start (by decide) (Nat.le_of_ble_eq_true rfl) rfl ?_
  intro p e s m args below meth c B hr hlk hml
  have B : Cx p s m c args b_Ck_isWellFormed R_Ck D aC (rg 111 ad) 111 ad := B
  have loop : ∀ (r k o : Nat) (K : Nat → Int32), o ≤ 5 → k + r = t → wfF (x.2 (1, f, 1)) r k o K = (wfF (x.2 (1, f, 1)) t 0 0 (x.2 (2, 0, 1))) → J p l e (rom 2 43) s m args below meth c D (rg 111 ad) 0 0 (MQ below (Qk D aC 111 ad (some (.int (wfF (x.2 (1, f, 1)) t 0 0 (x.2 (2, 0, 1))).1)) (wX ad aC (ckX (wfF (x.2 (1, f, 1)) t 0 0 (x.2 (2, 0, 1))).2.1 (wfF (x.2 (1, f, 1)) t 0 0 (x.2 (2, 0, 1))).2.2 x))) args s 0 0 (rg 111 ad)) 111 ad (wX ad aC (ckX o K x)) 3 7 [(2, .int (nI k)), (0, .ref (ad 20)), (1, .ref (ad (txO f)))] [] := by
    intro r
    induction r with
    | zero =>
      intro k o K ho hk hR
      refine j_iloadn B d_Ck_isWellFormed_7 rfl ?_
      refine j_aloadn B d_Ck_isWellFormed_8 rfl ?_
      refine j_geti B fl_Ck_19 (q_tx hf) rfl d_Ck_isWellFormed_9 ?_
      refine j_topi (nI t) (by rw [ckX_1 (by simp)]; exact ht) ?_
      refine j_icmp_ge (tgt := 35) B d_Ck_isWellFormed_12 (by decide) (fun h12 => ?_) (fun h12 => (show False from h12 (nI_le (by omega) (by omega))).elim)
      refine j_aloadn B d_Ck_isWellFormed_35 rfl ?_
      refine j_geti B fl_Ck_15 (q_20) rfl d_Ck_isWellFormed_36 ?_
      refine j_topi (nI o) ckX_o ?_
      refine j_if_ne (tgt := 46) B d_Ck_isWellFormed_39 (by decide) (fun h39 => ?_) (fun h39 => ?_)
      · -- yes
        refine j_iconst (v := 0) B d_Ck_isWellFormed_46 (by decide) ?_
        exact j_zret B hr hlk d_Ck_isWellFormed_47 (by first | exact Or.inl rfl | exact Or.inr rfl) (by first | exact sv (by rw [← hR]; exact if_neg (fun z => h39 (by rw [z]; rfl))) | exact sv (by rw [← hR]; exact if_pos (Nat.eq_zero_of_not_pos (fun z => nI_ne0 z (by omega) h39)))) (congrArg (tw ad aC sX kX) (by rw [← hR]; rfl))
      · -- no
        refine j_iconst (v := 1) B d_Ck_isWellFormed_42 (by decide) ?_
        refine j_goto (tgt := 47) B d_Ck_isWellFormed_43 (by decide) ?_
        exact j_zret B hr hlk d_Ck_isWellFormed_47 (by first | exact Or.inl rfl | exact Or.inr rfl) (by first | exact sv (by rw [← hR]; exact if_neg (fun z => h39 (by rw [z]; rfl))) | exact sv (by rw [← hR]; exact if_pos (Nat.eq_zero_of_not_pos (fun z => nI_ne0 z (by omega) h39)))) (congrArg (tw ad aC sX kX) (by rw [← hR]; rfl))
    | succ r ih =>
      intro k o K ho hk hR
      refine j_iloadn B d_Ck_isWellFormed_7 rfl ?_
      refine j_aloadn B d_Ck_isWellFormed_8 rfl ?_
      refine j_geti B fl_Ck_19 (q_tx hf) rfl d_Ck_isWellFormed_9 ?_
      refine j_topi (nI t) (by rw [ckX_1 (by simp)]; exact ht) ?_
      refine j_icmp_ge (tgt := 35) B d_Ck_isWellFormed_12 (by decide) (fun h12 => (show False from absurd (nIle h12 (by omega) (by omega)) (by omega)).elim) (fun h12 => ?_)
      refine j_aloadn B d_Ck_isWellFormed_15 rfl ?_
      refine j_aloadn B d_Ck_isWellFormed_16 rfl ?_
      refine j_iloadn B d_Ck_isWellFormed_17 rfl ?_
      refine j_cVt B (ok_Tx_statementAt hf (ckX o K x) (nI k) (a := t) (by rw [ckX_1 (by simp)]; exact ht) h20) cv_Tx_statementAt ml_Ck_24 (q_tx hf) rfl rfl ⟨rfl, rfl, by decide, by decide⟩ ⟨Nat.zero_le _, Nat.zero_le _⟩ hml (Nat.le_of_ble_eq_true rfl) rfl d_Ck_isWellFormed_18 ?_
      refine j_topi (x.2 (1, f, 1) k) (by rw [ckX_1 (by simp), ckX_2 (by simp), if_pos ⟨nI_pos' (by omega), by rw [ht]; exact nI_lt (by omega) (by omega)⟩, nI_clamp (by omega)]) ?_
      refine j_cVt B (ok_Ck_accepts x ho (x.2 (1, f, 1) k)) cv_Ck_accepts ml_Ck_28 (q_20) rfl rfl ⟨rfl, rfl, by decide, by decide⟩ ⟨Nat.zero_le _, Nat.zero_le _⟩ hml (Nat.le_of_ble_eq_true rfl) rfl d_Ck_isWellFormed_21 ?_
      refine j_if_ne (tgt := 29) B d_Ck_isWellFormed_24 (by decide) (fun h24 => ?_) (fun h24 => ?_)
      · -- yes
        refine j_iinc B d_Ck_isWellFormed_29 rfl (by decide) (nI_1 k) ?_
        refine j_goto (tgt := 7) B d_Ck_isWellFormed_32 (by decide) ?_
        refine j_loc [(2, .int (nI (k + 1))), (0, .ref (ad 20)), (1, .ref (ad (txO f)))] ⟨rfl, rfl, rfl, trivial⟩ ?_
        exact ih (k + 1) _ _ (ckS_le ho) (by omega) (by rw [← hR]; exact (if_neg h24).symm)
      · -- no
        refine j_iconst (v := 0) B d_Ck_isWellFormed_27 (by decide) ?_
        exact j_zret B hr hlk d_Ck_isWellFormed_28 (by first | exact Or.inl rfl | exact Or.inr rfl) (sv (by rw [← hR]; unfold wfF; rw [if_pos h24])) (congrArg (tw ad aC sX kX) (by rw [← hR]; unfold wfF; rw [if_pos h24]))
  refine j_aloadn B d_Ck_isWellFormed_0 rfl ?_
  refine j_iconst (v := 0) B d_Ck_isWellFormed_1 (by decide) ?_
  refine j_puti B kX_inj fs_Ck_15 (q_20) rfl d_Ck_isWellFormed_2 ?_
  refine j_iconst (v := 0) B d_Ck_isWellFormed_5 (by decide) ?_
  refine j_istoren B d_Ck_isWellFormed_6 (by decide) ?_
  refine j_x (ckX 0 (x.2 (2, 0, 1)) x) ckX_0 ?_
  refine j_loc [(2, .int (nI 0)), (0, .ref (ad 20)), (1, .ref (ad (txO f)))] ⟨rfl, rfl, rfl, trivial⟩ ?_
  exact loop t 0 0 _ (by omega) (by omega) rfl
end
section
/-- an exit is noted; an exit's G; a landing -/
def nxX (i t : Nat) (v : Int32) (x : tm_M) : tm_M := sI (sA x (4, i, 1) t v) (4, i, 0) 6 (nI (t + 1))
def exX (f i n t : Nat) (x : tm_M) : tm_M := emX f n 4 0 (nxX i t (nI n) x)
def laX (f k n : Nat) (x : tm_M) : tm_M := sA x (6, f, 4) k (nI n)
/-- the end of a row of a LOCAL, of a CATCH -/
def flX (f i n t k : Nat) (w : Int32) (x : tm_M) : tm_M := emX f (n + 3) 7 0 (emX f (n + 2) 5 w (laX f k (n + 2) (exX f i (n + 1) t (emX f n 5 w x))))
def fcX (f i n t k : Nat) (x : tm_M) : tm_M := emX f (n + 3) 7 0 (emX f (n + 2) 6 0 (laX f k (n + 2) (exX f i (n + 1) t (emX f n 6 0 x))))
/-- the head of the row that is open -/
def hdC (o : Nat) (x : tm_M) : Int32 := if 0 < o then x.1 (4, o - 1, 0) 2 else -1
/-- a row is opened -/
def opX (o : Nat) (a b h u : Int32) (x : tm_M) : tm_M := sI (sI (sI (sI (sI (sI (sI x (4, o, 0) 0 a) (4, o, 0) 1 b) (4, o, 0) 2 h) (4, o, 0) 3 u) (4, o, 0) 4 h) (4, o, 0) 6 0) (3, 0, 0) 1 (nI (o + 1))
set_option maxRecDepth 100000 in
theorem ok_Co_currentHead {l : Launch} {D : va_G} {aC : Nat → ClassId} {ad : Nat → Nat} (x : tm_M) {o : Nat} (ho : x.1 (3, 0, 0) 1 = nI o) (h5 : o ≤ 5) :
    OkX l y_Co_currentHead b_Co_currentHead 1 (some .int) (rom 0 0) D aC ad [.ref (ad 22)] x (some (.int (hdC o x))) x := by
  refine ok_start (by decide) (Nat.le_of_ble_eq_true rfl) rfl ?_
  intro p e s m args below meth c B hr hlk hml
  have B : Cx p s m c args b_Co_currentHead R_Co D aC (rg 111 ad) 111 ad := B
  refine j_aloadn B d_Co_currentHead_0 rfl ?_
  refine j_geti B fl_Co_23 (q_22) rfl d_Co_currentHead_1 ?_
  refine j_topi (nI o) ho ?_
  refine j_if_le (tgt := 24) B d_Co_currentHead_4 (by decide) (fun h4 => ?_) (fun h4 => ?_)
  · -- yes
    refine j_iconst (v := (-1)) B d_Co_currentHead_24 (by decide) ?_
    exact j_iret B hr hlk d_Co_currentHead_25 (by first | exact sv (if_pos ho1) | exact sv (if_neg (fun z => absurd (nIle (t := 0) h4 (by omega) (by decide)) (by omega)))) (rfl)
  · -- no
    have ho1 : 0 < o := Nat.pos_of_ne_zero (fun e0 => h4 (by rw [e0]; decide))
    have hot : o - 1 < 5 := by omega
    refine j_aloadn B d_Co_currentHead_7 rfl ?_
    refine j_getr B fl_Co_11 (q_22) rfl d_Co_currentHead_8 ?_
    refine j_aloadn B d_Co_currentHead_11 rfl ?_
    refine j_geti B fl_Co_23 (q_22) rfl d_Co_currentHead_12 ?_
    refine j_topi (nI o) ho ?_
    refine j_iconst (v := 1) B d_Co_currentHead_15 (by decide) ?_
    refine j_isub B d_Co_currentHead_16 ?_
    refine j_aald B ⟨(q_23).1, (q_23).2.1⟩ rfl (⟨nIp ho1, hot, by decide⟩) d_Co_currentHead_17 ?_
    refine j_geti B fl_Co_73 (q_bl hot) rfl d_Co_currentHead_18 ?_
    refine j_goto (tgt := 25) B d_Co_currentHead_21 (by decide) ?_
    exact j_iret B hr hlk d_Co_currentHead_25 (by first | exact sv (if_pos ho1) | exact sv (if_neg (fun z => absurd (nIle (t := 0) h4 (by omega) (by decide)) (by omega)))) (rfl)
set_option maxRecDepth 100000 in
theorem ok_Co_openBlock {l : Launch} {D : va_G} {aC : Nat → ClassId} {ad : Nat → Nat} (x : tm_M) (a b h : Int32) {o : Nat} (ho : x.1 (3, 0, 0) 1 = nI o) (ho5 : o < 5) :
    OkX l y_Co_openBlock b_Co_openBlock 4 none (rom 1 24) D aC ad [.ref (ad 22), .int a, .int b, .int h] x none (opX o a b h (hdC o x) x) := by
  refine ok_start (by decide) (Nat.le_of_ble_eq_true rfl) rfl ?_
  intro p e s m args below meth c B hr hlk hml
  have B : Cx p s m c args b_Co_openBlock R_Co D aC (rg 111 ad) 111 ad := B
  refine j_aloadn B d_Co_openBlock_0 rfl ?_
  refine j_geti B fl_Co_23 (q_22) rfl d_Co_openBlock_1 ?_
  refine j_topi (nI o) ho ?_
  refine j_iconst (v := 5) B d_Co_openBlock_4 (by decide) ?_
  refine j_icmp_ge (tgt := 37) B d_Co_openBlock_5 (by decide) (fun h5 => (show False from absurd (nIle (c := 5) h5 (by decide) (by omega)) (by omega)).elim) (fun h5 => ?_)
  refine j_aloadn B d_Co_openBlock_8 rfl ?_
  refine j_getr B fl_Co_11 (q_22) rfl d_Co_openBlock_9 ?_
  refine j_aloadn B d_Co_openBlock_12 rfl ?_
  refine j_geti B fl_Co_23 (q_22) rfl d_Co_openBlock_13 ?_
  refine j_topi (nI o) ho ?_
  refine j_aald B ⟨(q_23).1, (q_23).2.1⟩ rfl (⟨rfl, ho5, by decide⟩) d_Co_openBlock_16 ?_
  refine j_iloadn B d_Co_openBlock_17 rfl ?_
  refine j_iloadn B d_Co_openBlock_18 rfl ?_
  refine j_iloadn B d_Co_openBlock_19 rfl ?_
  refine j_aloadn B d_Co_openBlock_20 rfl ?_
  refine j_cVt B (ok_Co_currentHead x ho (by omega)) cv_Co_currentHead ml_Co_47 (q_22) rfl rfl ⟨rfl, rfl, by decide, by decide⟩ ⟨Nat.zero_le _, Nat.zero_le _⟩ hml (Nat.le_of_ble_eq_true rfl) rfl d_Co_openBlock_21 ?_
  refine j_cVt B (ok_Bl_begin ho5 x a b h (hdC o x)) cv_Bl_begin ml_Co_76 (q_bl ho5) rfl rfl ⟨rfl, rfl, by decide, by decide⟩ ⟨Nat.zero_le _, Nat.zero_le _⟩ hml (Nat.le_of_ble_eq_true rfl) rfl d_Co_openBlock_24 ?_
  refine j_aloadn B d_Co_openBlock_27 rfl ?_
  refine j_dup B d_Co_openBlock_28 rfl ?_
  refine j_geti B fl_Co_23 (q_22) rfl d_Co_openBlock_29 ?_
  refine j_iconst (v := 1) B d_Co_openBlock_32 (by decide) ?_
  refine j_iadd B d_Co_openBlock_33 ?_
  refine j_topi (nI (o + 1)) (by rw [rIK (by simp), rIK (by simp), rIK (by simp), rIK (by simp), rIK (by simp), rIK (by simp), ho, nI_1]) ?_
  refine j_puti B kX_inj fs_Co_23 (q_22) rfl d_Co_openBlock_34 ?_
  exact j_vret B hr hlk d_Co_openBlock_37 (rfl) (rfl)
set_option maxRecDepth 100000 in
theorem ok_Co_emitExit {l : Launch} {D : va_G} {aC : Nat → ClassId} {ad : Nat → Nat} {i : Nat} (hi : i < 5) {f : Nat} (hf : f < 6) (x : tm_M) {n t : Nat} (hn : x.1 (6, f, 0) 2 = nI n) (h81 : n < 81) (ht : x.1 (4, i, 0) 6 = nI t) (h20 : t < 20) :
    OkX l y_Co_emitExit b_Co_emitExit 3 none (rom 1 22) D aC ad [.ref (ad 22), .ref (ad (blO i)), .ref (ad (prO f))] x none (exX f i n t x) := by
  refine ok_start (by decide) (Nat.le_of_ble_eq_true rfl) rfl ?_
  intro p e s m args below meth c B hr hlk hml
  have B : Cx p s m c args b_Co_emitExit R_Co D aC (rg 111 ad) 111 ad := B
  refine j_aloadn B d_Co_emitExit_0 rfl ?_
  refine j_aloadn B d_Co_emitExit_1 rfl ?_
  refine j_geti B fl_Co_115 (q_pr hf) rfl d_Co_emitExit_2 ?_
  refine j_topi (nI n) hn ?_
  refine j_cVt B (ok_Bl_noteExit hi x (nI n) ht h20) cv_Bl_noteExit ml_Co_118 (q_bl hi) rfl rfl ⟨rfl, rfl, by decide, by decide⟩ ⟨Nat.zero_le _, Nat.zero_le _⟩ hml (Nat.le_of_ble_eq_true rfl) rfl d_Co_emitExit_5 ?_
  refine j_aloadn B d_Co_emitExit_8 rfl ?_
  refine j_iconst (v := 4) B d_Co_emitExit_9 (by decide) ?_
  refine j_iconst (v := 0) B d_Co_emitExit_10 (by decide) ?_
  refine j_cVt B (ok_Pr_emit hf (nxX i t (nI n) x) 4 0 (n := n) (by simp [exX, emX, nxX, laX, acX, sI, sA, upd, hn]) h81) cv_Pr_emit ml_Co_36 (q_pr hf) rfl rfl ⟨rfl, rfl, by decide, by decide⟩ ⟨Nat.zero_le _, Nat.zero_le _⟩ hml (Nat.le_of_ble_eq_true rfl) rfl d_Co_emitExit_11 ?_
  exact j_vret B hr hlk d_Co_emitExit_14 (rfl) (rfl)
set_option maxRecDepth 100000 in
theorem ok_Co_finishLocal {l : Launch} {D : va_G} {aC : Nat → ClassId} {ad : Nat → Nat} {i : Nat} (hi : i < 5) {f : Nat} (hf : f < 6) (x : tm_M) {n t k a : Nat} (hn : x.1 (6, f, 0) 2 = nI n) (h81 : n + 4 ≤ 81) (ht : x.1 (4, i, 0) 6 = nI t) (h20 : t < 20) (hk : x.1 (4, i, 0) 2 = nI k) (hka : k < a) (ha : x.1 (6, f, 0) 6 = nI a) (h40 : a ≤ 40) {w : Int32} (hw : x.1 (4, i, 0) 1 = w) :
    OkX l y_Co_finishLocal b_Co_finishLocal 3 none (rom 2 44) D aC ad [.ref (ad 22), .ref (ad (blO i)), .ref (ad (prO f))] x none (flX f i n t k w x) := by
  refine ok_start (by decide) (Nat.le_of_ble_eq_true rfl) rfl ?_
  intro p e s m args below meth c B hr hlk hml
  have B : Cx p s m c args b_Co_finishLocal R_Co D aC (rg 111 ad) 111 ad := B
  refine j_aloadn B d_Co_finishLocal_0 rfl ?_
  refine j_iconst (v := 5) B d_Co_finishLocal_1 (by decide) ?_
  refine j_aloadn B d_Co_finishLocal_2 rfl ?_
  refine j_geti B fl_Co_112 (q_bl hi) rfl d_Co_finishLocal_3 ?_
  refine j_topi w hw ?_
  refine j_cVt B (ok_Pr_emit hf x 5 w hn (by omega)) cv_Pr_emit ml_Co_36 (q_pr hf) rfl rfl ⟨rfl, rfl, by decide, by decide⟩ ⟨Nat.zero_le _, Nat.zero_le _⟩ hml (Nat.le_of_ble_eq_true rfl) rfl d_Co_finishLocal_6 ?_
  refine j_aloadn B d_Co_finishLocal_9 rfl ?_
  refine j_aloadn B d_Co_finishLocal_10 rfl ?_
  refine j_aloadn B d_Co_finishLocal_11 rfl ?_
  refine j_cVt B (ok_Co_emitExit hi hf (emX f n 5 w x) (n := n + 1) (t := t) (by simp [exX, emX, nxX, laX, acX, sI, sA, upd, hn]) (by omega) (by simp [exX, emX, nxX, laX, acX, sI, sA, upd, ht]) h20) cv_Co_emitExit ml_Co_89 (q_22) rfl rfl ⟨rfl, rfl, by decide, by decide⟩ ⟨Nat.zero_le _, Nat.zero_le _⟩ hml (Nat.le_of_ble_eq_true rfl) rfl d_Co_finishLocal_12 ?_
  refine j_aloadn B d_Co_finishLocal_15 rfl ?_
  refine j_aloadn B d_Co_finishLocal_16 rfl ?_
  refine j_geti B fl_Co_73 (q_bl hi) rfl d_Co_finishLocal_17 ?_
  refine j_topi (nI k) (by simp [exX, emX, nxX, laX, acX, sI, sA, upd, hk]) ?_
  refine j_cVt B (ok_Pr_landHere hf (exX f i (n + 1) t (emX f n 5 w x)) (k := k) (a := a) (by simp [exX, emX, nxX, laX, acX, sI, sA, upd, ha]) h40 hka) cv_Pr_landHere ml_Co_99 (q_pr hf) rfl rfl ⟨rfl, rfl, by decide, by decide⟩ ⟨Nat.zero_le _, Nat.zero_le _⟩ hml (Nat.le_of_ble_eq_true rfl) rfl d_Co_finishLocal_20 ?_
  refine j_x (laX f k (n + 2) (exX f i (n + 1) t (emX f n 5 w x))) (by show sA _ _ _ _ = sA _ _ _ _; rw [show (exX f i (n + 1) t (emX f n 5 w x)).1 (6, f, 0) 2 = nI (n + 2) from by simp [exX, emX, nxX, laX, acX, sI, sA, upd, hn]]) ?_
  refine j_aloadn B d_Co_finishLocal_23 rfl ?_
  refine j_iconst (v := 5) B d_Co_finishLocal_24 (by decide) ?_
  refine j_aloadn B d_Co_finishLocal_25 rfl ?_
  refine j_geti B fl_Co_112 (q_bl hi) rfl d_Co_finishLocal_26 ?_
  refine j_topi w (by simp [exX, emX, nxX, laX, acX, sI, sA, upd, hw]) ?_
  refine j_cVt B (ok_Pr_emit hf (laX f k (n + 2) (exX f i (n + 1) t (emX f n 5 w x))) 5 w (n := n + 2) (by simp [exX, emX, nxX, laX, acX, sI, sA, upd, hn]) (by omega)) cv_Pr_emit ml_Co_36 (q_pr hf) rfl rfl ⟨rfl, rfl, by decide, by decide⟩ ⟨Nat.zero_le _, Nat.zero_le _⟩ hml (Nat.le_of_ble_eq_true rfl) rfl d_Co_finishLocal_29 ?_
  refine j_aloadn B d_Co_finishLocal_32 rfl ?_
  refine j_bipush (v := 7) B d_Co_finishLocal_33 (by decide) ?_
  refine j_iconst (v := 0) B d_Co_finishLocal_35 (by decide) ?_
  refine j_cVt B (ok_Pr_emit hf (emX f (n + 2) 5 w (laX f k (n + 2) (exX f i (n + 1) t (emX f n 5 w x)))) 7 0 (n := n + 3) (by simp [exX, emX, nxX, laX, acX, sI, sA, upd, hn]) (by omega)) cv_Pr_emit ml_Co_36 (q_pr hf) rfl rfl ⟨rfl, rfl, by decide, by decide⟩ ⟨Nat.zero_le _, Nat.zero_le _⟩ hml (Nat.le_of_ble_eq_true rfl) rfl d_Co_finishLocal_36 ?_
  exact j_vret B hr hlk d_Co_finishLocal_39 (rfl) (rfl)
set_option maxRecDepth 100000 in
theorem ok_Co_finishCatch {l : Launch} {D : va_G} {aC : Nat → ClassId} {ad : Nat → Nat} {i : Nat} (hi : i < 5) {f : Nat} (hf : f < 6) (x : tm_M) {n t k a : Nat} (hn : x.1 (6, f, 0) 2 = nI n) (h81 : n + 4 ≤ 81) (ht : x.1 (4, i, 0) 6 = nI t) (h20 : t < 20) (hk : x.1 (4, i, 0) 2 = nI k) (hka : k < a) (ha : x.1 (6, f, 0) 6 = nI a) (h40 : a ≤ 40) :
    OkX l y_Co_finishCatch b_Co_finishCatch 3 none (rom 2 44) D aC ad [.ref (ad 22), .ref (ad (blO i)), .ref (ad (prO f))] x none (fcX f i n t k x) := by
  refine ok_start (by decide) (Nat.le_of_ble_eq_true rfl) rfl ?_
  intro p e s m args below meth c B hr hlk hml
  have B : Cx p s m c args b_Co_finishCatch R_Co D aC (rg 111 ad) 111 ad := B
  refine j_aloadn B d_Co_finishCatch_0 rfl ?_
  refine j_bipush (v := 6) B d_Co_finishCatch_1 (by decide) ?_
  refine j_iconst (v := 0) B d_Co_finishCatch_3 (by decide) ?_
  refine j_cVt B (ok_Pr_emit hf x 6 0 hn (by omega)) cv_Pr_emit ml_Co_36 (q_pr hf) rfl rfl ⟨rfl, rfl, by decide, by decide⟩ ⟨Nat.zero_le _, Nat.zero_le _⟩ hml (Nat.le_of_ble_eq_true rfl) rfl d_Co_finishCatch_4 ?_
  refine j_aloadn B d_Co_finishCatch_7 rfl ?_
  refine j_aloadn B d_Co_finishCatch_8 rfl ?_
  refine j_aloadn B d_Co_finishCatch_9 rfl ?_
  refine j_cVt B (ok_Co_emitExit hi hf (emX f n 6 0 x) (n := n + 1) (t := t) (by simp [exX, emX, nxX, laX, acX, sI, sA, upd, hn]) (by omega) (by simp [exX, emX, nxX, laX, acX, sI, sA, upd, ht]) h20) cv_Co_emitExit ml_Co_89 (q_22) rfl rfl ⟨rfl, rfl, by decide, by decide⟩ ⟨Nat.zero_le _, Nat.zero_le _⟩ hml (Nat.le_of_ble_eq_true rfl) rfl d_Co_finishCatch_10 ?_
  refine j_aloadn B d_Co_finishCatch_13 rfl ?_
  refine j_aloadn B d_Co_finishCatch_14 rfl ?_
  refine j_geti B fl_Co_73 (q_bl hi) rfl d_Co_finishCatch_15 ?_
  refine j_topi (nI k) (by simp [exX, emX, nxX, laX, acX, sI, sA, upd, hk]) ?_
  refine j_cVt B (ok_Pr_landHere hf (exX f i (n + 1) t (emX f n 6 0 x)) (k := k) (a := a) (by simp [exX, emX, nxX, laX, acX, sI, sA, upd, ha]) h40 hka) cv_Pr_landHere ml_Co_99 (q_pr hf) rfl rfl ⟨rfl, rfl, by decide, by decide⟩ ⟨Nat.zero_le _, Nat.zero_le _⟩ hml (Nat.le_of_ble_eq_true rfl) rfl d_Co_finishCatch_18 ?_
  refine j_x (laX f k (n + 2) (exX f i (n + 1) t (emX f n 6 0 x))) (by show sA _ _ _ _ = sA _ _ _ _; rw [show (exX f i (n + 1) t (emX f n 6 0 x)).1 (6, f, 0) 2 = nI (n + 2) from by simp [exX, emX, nxX, laX, acX, sI, sA, upd, hn]]) ?_
  refine j_aloadn B d_Co_finishCatch_21 rfl ?_
  refine j_bipush (v := 6) B d_Co_finishCatch_22 (by decide) ?_
  refine j_iconst (v := 0) B d_Co_finishCatch_24 (by decide) ?_
  refine j_cVt B (ok_Pr_emit hf (laX f k (n + 2) (exX f i (n + 1) t (emX f n 6 0 x))) 6 0 (n := n + 2) (by simp [exX, emX, nxX, laX, acX, sI, sA, upd, hn]) (by omega)) cv_Pr_emit ml_Co_36 (q_pr hf) rfl rfl ⟨rfl, rfl, by decide, by decide⟩ ⟨Nat.zero_le _, Nat.zero_le _⟩ hml (Nat.le_of_ble_eq_true rfl) rfl d_Co_finishCatch_25 ?_
  refine j_aloadn B d_Co_finishCatch_28 rfl ?_
  refine j_bipush (v := 7) B d_Co_finishCatch_29 (by decide) ?_
  refine j_iconst (v := 0) B d_Co_finishCatch_31 (by decide) ?_
  refine j_cVt B (ok_Pr_emit hf (emX f (n + 2) 6 0 (laX f k (n + 2) (exX f i (n + 1) t (emX f n 6 0 x)))) 7 0 (n := n + 3) (by simp [exX, emX, nxX, laX, acX, sI, sA, upd, hn]) (by omega)) cv_Pr_emit ml_Co_36 (q_pr hf) rfl rfl ⟨rfl, rfl, by decide, by decide⟩ ⟨Nat.zero_le _, Nat.zero_le _⟩ hml (Nat.le_of_ble_eq_true rfl) rfl d_Co_finishCatch_32 ?_
  exact j_vret B hr hlk d_Co_finishCatch_35 (rfl) (rfl)
end
section
/-- a CATCH begins: the row's exit or end stands already (memory x, n instructions) -/
def bcX (f i n c a : Nat) (u : Int32) (x : tm_M) : tm_M := sI (acX f a (-2) u (sI (sI (laX f c n x) (4, i, 0) 4 (nI (c + 1))) (4, i, 0) 0 4)) (4, i, 0) 2 (nI a)
/-- a row is closed: its end stands already -/
def clX (f n t o : Nat) (E : Nat → Nat) (x : tm_M) : tm_M := sI (aeX f n E x t) (3, 0, 0) 1 (nI (o - 1))
set_option maxRecDepth 100000 in
theorem ok_Co_beginCatch_t {l : Launch} {D : va_G} {aC : Nat → ClassId} {ad : Nat → Nat} {f : Nat} (hf : f < 6) (x : tm_M) {o n t nc a : Nat} {u : Int32} (ho : x.1 (3, 0, 0) 1 = nI o) (ho1 : 0 < o) (h5 : o ≤ 5) (hn : x.1 (6, f, 0) 2 = nI n) (h81 : n + 4 ≤ 81) (ht : x.1 (4, o - 1, 0) 6 = nI t) (h20 : t < 20) (hc : x.1 (4, o - 1, 0) 4 = nI nc) (hca : nc < a) (ha : x.1 (6, f, 0) 6 = nI a) (h40 : a < 40) (hu : x.1 (4, o - 1, 0) 3 = u) (hkd : x.1 (4, o - 1, 0) 0 = 3) :
    OkX l y_Co_beginCatch b_Co_beginCatch 3 none (rom 3 66) D aC ad [.ref (ad 22), .ref (ad (prO f))] x none (bcX f (o - 1) (n + 1) nc a u (exX f (o - 1) n t x)) := by
  refine ok_start (by decide) (Nat.le_of_ble_eq_true rfl) rfl ?_
  intro p e s m args below meth c B hr hlk hml
  have B : Cx p s m c args b_Co_beginCatch R_Co D aC (rg 111 ad) 111 ad := B
  have hot : o - 1 < 5 := by omega
  refine j_aloadn B d_Co_beginCatch_0 rfl ?_
  refine j_geti B fl_Co_23 (q_22) rfl d_Co_beginCatch_1 ?_
  refine j_topi (nI o) ho ?_
  refine j_iconst (v := 1) B d_Co_beginCatch_4 (by decide) ?_
  refine j_icmp_ge (tgt := 9) B d_Co_beginCatch_5 (by decide) (fun h5_ => ?_) (fun h5_ => (show False from h5_ (nI_le (a := 1) (by omega) (by omega))).elim)
  refine j_aloadn B d_Co_beginCatch_9 rfl ?_
  refine j_getr B fl_Co_11 (q_22) rfl d_Co_beginCatch_10 ?_
  refine j_aloadn B d_Co_beginCatch_13 rfl ?_
  refine j_geti B fl_Co_23 (q_22) rfl d_Co_beginCatch_14 ?_
  refine j_topi (nI o) ho ?_
  refine j_iconst (v := 1) B d_Co_beginCatch_17 (by decide) ?_
  refine j_isub B d_Co_beginCatch_18 ?_
  refine j_aald B ⟨(q_23).1, (q_23).2.1⟩ rfl (⟨nIp ho1, hot, by decide⟩) d_Co_beginCatch_19 ?_
  refine j_astoren B d_Co_beginCatch_20 (by decide) ?_
  refine j_aloadn B d_Co_beginCatch_21 rfl ?_
  refine j_geti B fl_Co_86 (q_bl hot) rfl d_Co_beginCatch_22 ?_
  refine j_topi 3 hkd ?_
  refine j_iconst (v := 3) B d_Co_beginCatch_25 (by decide) ?_
  refine j_icmp_ne (tgt := 38) B d_Co_beginCatch_26 (by decide) (fun h26 => (show False from h26 rfl).elim) (fun h26 => ?_)
  refine j_aloadn B d_Co_beginCatch_29 rfl ?_
  refine j_aloadn B d_Co_beginCatch_30 rfl ?_
  refine j_aloadn B d_Co_beginCatch_31 rfl ?_
  refine j_cVt B (ok_Co_emitExit hot hf x hn (by omega) ht h20) cv_Co_emitExit ml_Co_89 (q_22) rfl rfl ⟨rfl, rfl, by decide, by decide⟩ ⟨Nat.zero_le _, Nat.zero_le _⟩ hml (Nat.le_of_ble_eq_true rfl) rfl d_Co_beginCatch_32 ?_
  refine j_goto (tgt := 44) B d_Co_beginCatch_35 (by decide) ?_
  refine j_aloadn B d_Co_beginCatch_44 rfl ?_
  refine j_aloadn B d_Co_beginCatch_45 rfl ?_
  refine j_geti B fl_Co_96 (q_bl hot) rfl d_Co_beginCatch_46 ?_
  refine j_topi (nI nc) (by simp [flX, fcX, exX, emX, nxX, laX, acX, sI, sA, upd, hc]) ?_
  refine j_cVt B (ok_Pr_landHere hf (exX f (o - 1) n t x) (k := nc) (a := a) (by simp [flX, fcX, exX, emX, nxX, laX, acX, sI, sA, upd, ha]) (by omega) hca) cv_Pr_landHere ml_Co_99 (q_pr hf) rfl rfl ⟨rfl, rfl, by decide, by decide⟩ ⟨Nat.zero_le _, Nat.zero_le _⟩ hml (Nat.le_of_ble_eq_true rfl) rfl d_Co_beginCatch_49 ?_
  refine j_x (laX f nc (n + 1) (exX f (o - 1) n t x)) (by show sA _ _ _ _ = sA _ _ _ _; rw [show (exX f (o - 1) n t x).1 (6, f, 0) 2 = nI (n + 1) from by simp [flX, fcX, exX, emX, nxX, laX, acX, sI, sA, upd, hn]]) ?_
  refine j_aloadn B d_Co_beginCatch_52 rfl ?_
  refine j_dup B d_Co_beginCatch_53 rfl ?_
  refine j_geti B fl_Co_96 (q_bl hot) rfl d_Co_beginCatch_54 ?_
  refine j_iconst (v := 1) B d_Co_beginCatch_57 (by decide) ?_
  refine j_iadd B d_Co_beginCatch_58 ?_
  refine j_topi (nI (nc + 1)) (by rw [show (laX f nc (n + 1) (exX f (o - 1) n t x)).1 (4, o - 1, 0) 4 = nI nc from by simp [flX, fcX, exX, emX, nxX, laX, acX, sI, sA, upd, hc], nI_1]) ?_
  refine j_puti B kX_inj fs_Co_96 (q_bl hot) rfl d_Co_beginCatch_59 ?_
  refine j_aloadn B d_Co_beginCatch_62 rfl ?_
  refine j_iconst (v := 4) B d_Co_beginCatch_63 (by decide) ?_
  refine j_puti B kX_inj fs_Co_86 (q_bl hot) rfl d_Co_beginCatch_64 ?_
  refine j_aloadn B d_Co_beginCatch_67 rfl ?_
  refine j_aloadn B d_Co_beginCatch_68 rfl ?_
  refine j_bipush (v := (-2)) B d_Co_beginCatch_69 (by decide) ?_
  refine j_aloadn B d_Co_beginCatch_71 rfl ?_
  refine j_geti B fl_Co_103 (q_bl hot) rfl d_Co_beginCatch_72 ?_
  refine j_topi u (by simp [flX, fcX, exX, emX, nxX, laX, acX, sI, sA, upd, hu]) ?_
  refine j_cVt B (ok_Pr_makeAction hf (sI (sI (laX f nc (n + 1) (exX f (o - 1) n t x)) (4, o - 1, 0) 4 (nI (nc + 1))) (4, o - 1, 0) 0 4) (-2) u (a := a) (by simp [flX, fcX, exX, emX, nxX, laX, acX, sI, sA, upd, ha]) h40) cv_Pr_makeAction ml_Co_55 (q_pr hf) rfl rfl ⟨rfl, rfl, by decide, by decide⟩ ⟨Nat.zero_le _, Nat.zero_le _⟩ hml (Nat.le_of_ble_eq_true rfl) rfl d_Co_beginCatch_75 ?_
  refine j_puti B kX_inj fs_Co_73 (q_bl hot) rfl d_Co_beginCatch_78 ?_
  exact j_vret B hr hlk d_Co_beginCatch_81 (rfl) (rfl)
set_option maxRecDepth 100000 in
theorem ok_Co_beginCatch_c {l : Launch} {D : va_G} {aC : Nat → ClassId} {ad : Nat → Nat} {f : Nat} (hf : f < 6) (x : tm_M) {o n t nc a : Nat} {u : Int32} (ho : x.1 (3, 0, 0) 1 = nI o) (ho1 : 0 < o) (h5 : o ≤ 5) (hn : x.1 (6, f, 0) 2 = nI n) (h81 : n + 4 ≤ 81) (ht : x.1 (4, o - 1, 0) 6 = nI t) (h20 : t < 20) (hc : x.1 (4, o - 1, 0) 4 = nI nc) (hca : nc < a) (ha : x.1 (6, f, 0) 6 = nI a) (h40 : a < 40) (hu : x.1 (4, o - 1, 0) 3 = u) {k : Nat} (hkd : ¬ x.1 (4, o - 1, 0) 0 = 3) (hk : x.1 (4, o - 1, 0) 2 = nI k) (hka : k < a) :
    OkX l y_Co_beginCatch b_Co_beginCatch 3 none (rom 3 66) D aC ad [.ref (ad 22), .ref (ad (prO f))] x none (bcX f (o - 1) (n + 4) nc a u (fcX f (o - 1) n t k x)) := by
  refine ok_start (by decide) (Nat.le_of_ble_eq_true rfl) rfl ?_
  intro p e s m args below meth c B hr hlk hml
  have B : Cx p s m c args b_Co_beginCatch R_Co D aC (rg 111 ad) 111 ad := B
  have hot : o - 1 < 5 := by omega
  refine j_aloadn B d_Co_beginCatch_0 rfl ?_
  refine j_geti B fl_Co_23 (q_22) rfl d_Co_beginCatch_1 ?_
  refine j_topi (nI o) ho ?_
  refine j_iconst (v := 1) B d_Co_beginCatch_4 (by decide) ?_
  refine j_icmp_ge (tgt := 9) B d_Co_beginCatch_5 (by decide) (fun h5_ => ?_) (fun h5_ => (show False from h5_ (nI_le (a := 1) (by omega) (by omega))).elim)
  refine j_aloadn B d_Co_beginCatch_9 rfl ?_
  refine j_getr B fl_Co_11 (q_22) rfl d_Co_beginCatch_10 ?_
  refine j_aloadn B d_Co_beginCatch_13 rfl ?_
  refine j_geti B fl_Co_23 (q_22) rfl d_Co_beginCatch_14 ?_
  refine j_topi (nI o) ho ?_
  refine j_iconst (v := 1) B d_Co_beginCatch_17 (by decide) ?_
  refine j_isub B d_Co_beginCatch_18 ?_
  refine j_aald B ⟨(q_23).1, (q_23).2.1⟩ rfl (⟨nIp ho1, hot, by decide⟩) d_Co_beginCatch_19 ?_
  refine j_astoren B d_Co_beginCatch_20 (by decide) ?_
  refine j_aloadn B d_Co_beginCatch_21 rfl ?_
  refine j_geti B fl_Co_86 (q_bl hot) rfl d_Co_beginCatch_22 ?_
  refine j_iconst (v := 3) B d_Co_beginCatch_25 (by decide) ?_
  refine j_icmp_ne (tgt := 38) B d_Co_beginCatch_26 (by decide) (fun h26 => ?_) (fun h26 => (show False from hkd h26).elim)
  refine j_aloadn B d_Co_beginCatch_38 rfl ?_
  refine j_aloadn B d_Co_beginCatch_39 rfl ?_
  refine j_aloadn B d_Co_beginCatch_40 rfl ?_
  refine j_cVt B (ok_Co_finishCatch hot hf x hn h81 ht h20 hk hka ha (by omega)) cv_Co_finishCatch ml_Co_93 (q_22) rfl rfl ⟨rfl, rfl, by decide, by decide⟩ ⟨Nat.zero_le _, Nat.zero_le _⟩ hml (Nat.le_of_ble_eq_true rfl) rfl d_Co_beginCatch_41 ?_
  refine j_aloadn B d_Co_beginCatch_44 rfl ?_
  refine j_aloadn B d_Co_beginCatch_45 rfl ?_
  refine j_geti B fl_Co_96 (q_bl hot) rfl d_Co_beginCatch_46 ?_
  refine j_topi (nI nc) (by simp [flX, fcX, exX, emX, nxX, laX, acX, sI, sA, upd, hc]) ?_
  refine j_cVt B (ok_Pr_landHere hf (fcX f (o - 1) n t k x) (k := nc) (a := a) (by simp [flX, fcX, exX, emX, nxX, laX, acX, sI, sA, upd, ha]) (by omega) hca) cv_Pr_landHere ml_Co_99 (q_pr hf) rfl rfl ⟨rfl, rfl, by decide, by decide⟩ ⟨Nat.zero_le _, Nat.zero_le _⟩ hml (Nat.le_of_ble_eq_true rfl) rfl d_Co_beginCatch_49 ?_
  refine j_x (laX f nc (n + 4) (fcX f (o - 1) n t k x)) (by show sA _ _ _ _ = sA _ _ _ _; rw [show (fcX f (o - 1) n t k x).1 (6, f, 0) 2 = nI (n + 4) from by simp [flX, fcX, exX, emX, nxX, laX, acX, sI, sA, upd, hn]]) ?_
  refine j_aloadn B d_Co_beginCatch_52 rfl ?_
  refine j_dup B d_Co_beginCatch_53 rfl ?_
  refine j_geti B fl_Co_96 (q_bl hot) rfl d_Co_beginCatch_54 ?_
  refine j_iconst (v := 1) B d_Co_beginCatch_57 (by decide) ?_
  refine j_iadd B d_Co_beginCatch_58 ?_
  refine j_topi (nI (nc + 1)) (by rw [show (laX f nc (n + 4) (fcX f (o - 1) n t k x)).1 (4, o - 1, 0) 4 = nI nc from by simp [flX, fcX, exX, emX, nxX, laX, acX, sI, sA, upd, hc], nI_1]) ?_
  refine j_puti B kX_inj fs_Co_96 (q_bl hot) rfl d_Co_beginCatch_59 ?_
  refine j_aloadn B d_Co_beginCatch_62 rfl ?_
  refine j_iconst (v := 4) B d_Co_beginCatch_63 (by decide) ?_
  refine j_puti B kX_inj fs_Co_86 (q_bl hot) rfl d_Co_beginCatch_64 ?_
  refine j_aloadn B d_Co_beginCatch_67 rfl ?_
  refine j_aloadn B d_Co_beginCatch_68 rfl ?_
  refine j_bipush (v := (-2)) B d_Co_beginCatch_69 (by decide) ?_
  refine j_aloadn B d_Co_beginCatch_71 rfl ?_
  refine j_geti B fl_Co_103 (q_bl hot) rfl d_Co_beginCatch_72 ?_
  refine j_topi u (by simp [flX, fcX, exX, emX, nxX, laX, acX, sI, sA, upd, hu]) ?_
  refine j_cVt B (ok_Pr_makeAction hf (sI (sI (laX f nc (n + 4) (fcX f (o - 1) n t k x)) (4, o - 1, 0) 4 (nI (nc + 1))) (4, o - 1, 0) 0 4) (-2) u (a := a) (by simp [flX, fcX, exX, emX, nxX, laX, acX, sI, sA, upd, ha]) h40) cv_Pr_makeAction ml_Co_55 (q_pr hf) rfl rfl ⟨rfl, rfl, by decide, by decide⟩ ⟨Nat.zero_le _, Nat.zero_le _⟩ hml (Nat.le_of_ble_eq_true rfl) rfl d_Co_beginCatch_75 ?_
  refine j_puti B kX_inj fs_Co_73 (q_bl hot) rfl d_Co_beginCatch_78 ?_
  exact j_vret B hr hlk d_Co_beginCatch_81 (rfl) (rfl)
set_option maxRecDepth 100000 in
theorem ok_Co_closeBlock_l {l : Launch} {D : va_G} {aC : Nat → ClassId} {ad : Nat → Nat} {f : Nat} (hf : f < 6) (x : tm_M) {o n t k a : Nat} (E : Nat → Nat) (ho : x.1 (3, 0, 0) 1 = nI o) (ho1 : 0 < o) (h5 : o ≤ 5) (hn : x.1 (6, f, 0) 2 = nI n) (h81 : n + 4 ≤ 81) (ht : x.1 (4, o - 1, 0) 6 = nI t) (h20 : t < 20) (hk : x.1 (4, o - 1, 0) 2 = nI k) (hka : k < a) (ha : x.1 (6, f, 0) 6 = nI a) (h40 : a ≤ 40) (hE : ∀ j, j < t → x.2 (4, o - 1, 1) j = nI (E j) ∧ E j < n) (hEt : E t = n + 1) {w : Int32} (hkd : x.1 (4, o - 1, 0) 0 = 6) (hw : x.1 (4, o - 1, 0) 1 = w) :
    OkX l y_Co_closeBlock b_Co_closeBlock 3 none (rom 3 66) D aC ad [.ref (ad 22), .ref (ad (prO f))] x none (clX f (n + 4) (t + 1) o E (flX f (o - 1) n t k w x)) := by
  refine ok_start (by decide) (Nat.le_of_ble_eq_true rfl) rfl ?_
  intro p e s m args below meth c B hr hlk hml
  have B : Cx p s m c args b_Co_closeBlock R_Co D aC (rg 111 ad) 111 ad := B
  have hot : o - 1 < 5 := by omega
  have hEE : ∀ j, j < t + 1 → (flX f (o - 1) n t k w x).2 (4, o - 1, 1) j = nI (E j) ∧ E j < n + 4 := by
    intro j hj
    by_cases hjt : j = t
    · subst hjt
      refine ⟨?_, by omega⟩
      rw [hEt]
      simp [flX, fcX, exX, emX, nxX, laX, sI, sA, upd]
    · obtain ⟨e1, e2⟩ := hE j (by omega)
      refine ⟨?_, by omega⟩
      rw [← e1]
      simp [flX, fcX, exX, emX, nxX, laX, sI, sA, upd, hjt]
  refine j_aloadn B d_Co_closeBlock_0 rfl ?_
  refine j_geti B fl_Co_23 (q_22) rfl d_Co_closeBlock_1 ?_
  refine j_topi (nI o) ho ?_
  refine j_iconst (v := 1) B d_Co_closeBlock_4 (by decide) ?_
  refine j_icmp_ge (tgt := 9) B d_Co_closeBlock_5 (by decide) (fun h5_ => ?_) (fun h5_ => (show False from h5_ (nI_le (a := 1) (by omega) (by omega))).elim)
  refine j_aloadn B d_Co_closeBlock_9 rfl ?_
  refine j_getr B fl_Co_11 (q_22) rfl d_Co_closeBlock_10 ?_
  refine j_aloadn B d_Co_closeBlock_13 rfl ?_
  refine j_geti B fl_Co_23 (q_22) rfl d_Co_closeBlock_14 ?_
  refine j_topi (nI o) ho ?_
  refine j_iconst (v := 1) B d_Co_closeBlock_17 (by decide) ?_
  refine j_isub B d_Co_closeBlock_18 ?_
  refine j_aald B ⟨(q_23).1, (q_23).2.1⟩ rfl (⟨nIp ho1, hot, by decide⟩) d_Co_closeBlock_19 ?_
  refine j_astoren B d_Co_closeBlock_20 (by decide) ?_
  refine j_aloadn B d_Co_closeBlock_21 rfl ?_
  refine j_geti B fl_Co_86 (q_bl hot) rfl d_Co_closeBlock_22 ?_
  refine j_bipush (v := 6) B d_Co_closeBlock_25 (by decide) ?_
  refine j_icmp_ne (tgt := 39) B d_Co_closeBlock_27 (by decide) (fun h27 => (show False from h27 hkd).elim) (fun h27 => ?_)
  refine j_aloadn B d_Co_closeBlock_30 rfl ?_
  refine j_aloadn B d_Co_closeBlock_31 rfl ?_
  refine j_aloadn B d_Co_closeBlock_32 rfl ?_
  refine j_cVt B (ok_Co_finishLocal hot hf x hn h81 ht h20 hk hka ha h40 hw) cv_Co_finishLocal ml_Co_106 (q_22) rfl rfl ⟨rfl, rfl, by decide, by decide⟩ ⟨Nat.zero_le _, Nat.zero_le _⟩ hml (Nat.le_of_ble_eq_true rfl) rfl d_Co_closeBlock_33 ?_
  refine j_goto (tgt := 45) B d_Co_closeBlock_36 (by decide) ?_
  refine j_aloadn B d_Co_closeBlock_45 rfl ?_
  refine j_aloadn B d_Co_closeBlock_46 rfl ?_
  refine j_cVt B (ok_Bl_aimExits hot hf (flX f (o - 1) n t k w x) (t := t + 1) (n := n + 4) E (by simp [flX, fcX, exX, emX, nxX, laX, acX, sI, sA, upd, ht]) (by omega) (by simp [flX, fcX, exX, emX, nxX, laX, acX, sI, sA, upd, hn]) (by omega) hEE) cv_Bl_aimExits ml_Co_109 (q_bl hot) rfl rfl ⟨rfl, rfl, by decide, by decide⟩ ⟨Nat.zero_le _, Nat.zero_le _⟩ hml (Nat.le_of_ble_eq_true rfl) rfl d_Co_closeBlock_47 ?_
  refine j_aloadn B d_Co_closeBlock_50 rfl ?_
  refine j_dup B d_Co_closeBlock_51 rfl ?_
  refine j_geti B fl_Co_23 (q_22) rfl d_Co_closeBlock_52 ?_
  refine j_iconst (v := 1) B d_Co_closeBlock_55 (by decide) ?_
  refine j_isub B d_Co_closeBlock_56 ?_
  refine j_topi (nI (o - 1)) (by rw [aeX_1, show (flX f (o - 1) n t k w x).1 (3, 0, 0) 1 = nI o from by simp [flX, fcX, exX, emX, nxX, laX, acX, sI, sA, upd, ho]]; exact nIp ho1) ?_
  refine j_puti B kX_inj fs_Co_23 (q_22) rfl d_Co_closeBlock_57 ?_
  exact j_vret B hr hlk d_Co_closeBlock_60 (rfl) (rfl)
set_option maxRecDepth 100000 in
theorem ok_Co_closeBlock_c {l : Launch} {D : va_G} {aC : Nat → ClassId} {ad : Nat → Nat} {f : Nat} (hf : f < 6) (x : tm_M) {o n t k a : Nat} (E : Nat → Nat) (ho : x.1 (3, 0, 0) 1 = nI o) (ho1 : 0 < o) (h5 : o ≤ 5) (hn : x.1 (6, f, 0) 2 = nI n) (h81 : n + 4 ≤ 81) (ht : x.1 (4, o - 1, 0) 6 = nI t) (h20 : t < 20) (hk : x.1 (4, o - 1, 0) 2 = nI k) (hka : k < a) (ha : x.1 (6, f, 0) 6 = nI a) (h40 : a ≤ 40) (hE : ∀ j, j < t → x.2 (4, o - 1, 1) j = nI (E j) ∧ E j < n) (hEt : E t = n + 1) (hkd : ¬ x.1 (4, o - 1, 0) 0 = 6) :
    OkX l y_Co_closeBlock b_Co_closeBlock 3 none (rom 3 66) D aC ad [.ref (ad 22), .ref (ad (prO f))] x none (clX f (n + 4) (t + 1) o E (fcX f (o - 1) n t k x)) := by
  refine ok_start (by decide) (Nat.le_of_ble_eq_true rfl) rfl ?_
  intro p e s m args below meth c B hr hlk hml
  have B : Cx p s m c args b_Co_closeBlock R_Co D aC (rg 111 ad) 111 ad := B
  have hot : o - 1 < 5 := by omega
  have hEE : ∀ j, j < t + 1 → (fcX f (o - 1) n t k x).2 (4, o - 1, 1) j = nI (E j) ∧ E j < n + 4 := by
    intro j hj
    by_cases hjt : j = t
    · subst hjt
      refine ⟨?_, by omega⟩
      rw [hEt]
      simp [flX, fcX, exX, emX, nxX, laX, sI, sA, upd]
    · obtain ⟨e1, e2⟩ := hE j (by omega)
      refine ⟨?_, by omega⟩
      rw [← e1]
      simp [flX, fcX, exX, emX, nxX, laX, sI, sA, upd, hjt]
  refine j_aloadn B d_Co_closeBlock_0 rfl ?_
  refine j_geti B fl_Co_23 (q_22) rfl d_Co_closeBlock_1 ?_
  refine j_topi (nI o) ho ?_
  refine j_iconst (v := 1) B d_Co_closeBlock_4 (by decide) ?_
  refine j_icmp_ge (tgt := 9) B d_Co_closeBlock_5 (by decide) (fun h5_ => ?_) (fun h5_ => (show False from h5_ (nI_le (a := 1) (by omega) (by omega))).elim)
  refine j_aloadn B d_Co_closeBlock_9 rfl ?_
  refine j_getr B fl_Co_11 (q_22) rfl d_Co_closeBlock_10 ?_
  refine j_aloadn B d_Co_closeBlock_13 rfl ?_
  refine j_geti B fl_Co_23 (q_22) rfl d_Co_closeBlock_14 ?_
  refine j_topi (nI o) ho ?_
  refine j_iconst (v := 1) B d_Co_closeBlock_17 (by decide) ?_
  refine j_isub B d_Co_closeBlock_18 ?_
  refine j_aald B ⟨(q_23).1, (q_23).2.1⟩ rfl (⟨nIp ho1, hot, by decide⟩) d_Co_closeBlock_19 ?_
  refine j_astoren B d_Co_closeBlock_20 (by decide) ?_
  refine j_aloadn B d_Co_closeBlock_21 rfl ?_
  refine j_geti B fl_Co_86 (q_bl hot) rfl d_Co_closeBlock_22 ?_
  refine j_bipush (v := 6) B d_Co_closeBlock_25 (by decide) ?_
  refine j_icmp_ne (tgt := 39) B d_Co_closeBlock_27 (by decide) (fun h27 => ?_) (fun h27 => (show False from hkd h27).elim)
  refine j_aloadn B d_Co_closeBlock_39 rfl ?_
  refine j_aloadn B d_Co_closeBlock_40 rfl ?_
  refine j_aloadn B d_Co_closeBlock_41 rfl ?_
  refine j_cVt B (ok_Co_finishCatch hot hf x hn h81 ht h20 hk hka ha h40) cv_Co_finishCatch ml_Co_93 (q_22) rfl rfl ⟨rfl, rfl, by decide, by decide⟩ ⟨Nat.zero_le _, Nat.zero_le _⟩ hml (Nat.le_of_ble_eq_true rfl) rfl d_Co_closeBlock_42 ?_
  refine j_aloadn B d_Co_closeBlock_45 rfl ?_
  refine j_aloadn B d_Co_closeBlock_46 rfl ?_
  refine j_cVt B (ok_Bl_aimExits hot hf (fcX f (o - 1) n t k x) (t := t + 1) (n := n + 4) E (by simp [flX, fcX, exX, emX, nxX, laX, acX, sI, sA, upd, ht]) (by omega) (by simp [flX, fcX, exX, emX, nxX, laX, acX, sI, sA, upd, hn]) (by omega) hEE) cv_Bl_aimExits ml_Co_109 (q_bl hot) rfl rfl ⟨rfl, rfl, by decide, by decide⟩ ⟨Nat.zero_le _, Nat.zero_le _⟩ hml (Nat.le_of_ble_eq_true rfl) rfl d_Co_closeBlock_47 ?_
  refine j_aloadn B d_Co_closeBlock_50 rfl ?_
  refine j_dup B d_Co_closeBlock_51 rfl ?_
  refine j_geti B fl_Co_23 (q_22) rfl d_Co_closeBlock_52 ?_
  refine j_iconst (v := 1) B d_Co_closeBlock_55 (by decide) ?_
  refine j_isub B d_Co_closeBlock_56 ?_
  refine j_topi (nI (o - 1)) (by rw [aeX_1, show (fcX f (o - 1) n t k x).1 (3, 0, 0) 1 = nI o from by simp [flX, fcX, exX, emX, nxX, laX, acX, sI, sA, upd, ho]]; exact nIp ho1) ?_
  refine j_puti B kX_inj fs_Co_23 (q_22) rfl d_Co_closeBlock_57 ?_
  exact j_vret B hr hlk d_Co_closeBlock_60 (rfl) (rfl)
/-- how many CATCHes of the row that is d rows out stand in the text from k on -/
def crF (S : Nat → Int32) : Nat → Nat → Nat → Nat
  | 0, _, _ => 0
  | r + 1, k, d => if S k = 6 ∨ S k = 3 then crF S r (k + 1) (d + 1) else if S k = 5 then (if d = 0 then 0 else crF S r (k + 1) (d - 1)) else if S k = 4 ∧ d = 0 then crF S r (k + 1) d + 1 else crF S r (k + 1) d
/-- their actions are made -/
def mcF (f : Nat) (S O : Nat → Int32) : Nat → Nat → Nat → Nat → tm_M → Nat × tm_M
  | 0, _, _, a, x => (a, x)
  | r + 1, k, d, a, x => if S k = 6 ∨ S k = 3 then mcF f S O r (k + 1) (d + 1) a x else if S k = 5 then (if d = 0 then (a, x) else mcF f S O r (k + 1) (d - 1) a x) else if S k = 4 ∧ d = 0 then mcF f S O r (k + 1) d (a + 1) (acX f a (O k) (nI (a + 1)) x) else mcF f S O r (k + 1) d a x
theorem mcF_a {f : Nat} {S O : Nat → Int32} : ∀ (r k d a : Nat) (x : tm_M), (mcF f S O r k d a x).1 = a + crF S r k d
  | 0, _, _, _, _ => rfl
  | r + 1, k, d, a, x => by
    unfold mcF crF
    split
    · exact mcF_a r _ _ _ _
    · split
      · split
        · rfl
        · exact mcF_a r _ _ _ _
      · split
        · rw [mcF_a r]; omega
        · exact mcF_a r _ _ _ _
/-- the whole of it: then the last is chained to h -/
def mtX (f : Nat) (S O : Nat → Int32) (r k a : Nat) (h : Int32) (x : tm_M) : tm_M := sA (mcF f S O r k 0 a x).2 (6, f, 5) (a + crF S r k 0 - 1) h
theorem nIm {d : Nat} (h : 0 < d) : nI d + Int32.ofInt (-1) = nI (d - 1) := by
  cases d with
  | zero => omega
  | succ d => exact pk_m1 d
set_option maxRecDepth 100000 in
theorem ok_Co_makeCatchActions {l : Launch} {D : va_G} {aC : Nat → ClassId} {ad : Nat → Nat} {g f : Nat} (hg : g < 6) (hf : f < 6) (x : tm_M) {b t o a0 : Nat} (ht : x.1 (1, g, 0) 2 = nI t) (h20 : t ≤ 20) (hb : b < t) (ho : x.1 (3, 0, 0) 1 = nI o) (h5 : o ≤ 5) (ha : x.1 (6, f, 0) 6 = nI a0) (h40 : a0 + crF (x.2 (1, g, 1)) (t - (b + 1)) (b + 1) 0 ≤ 40) (hc1 : 0 < crF (x.2 (1, g, 1)) (t - (b + 1)) (b + 1) 0) :
    OkX l y_Co_makeCatchActions b_Co_makeCatchActions 8 (some .int) (rom 2 44) D aC ad [.ref (ad 22), .ref (ad (txO g)), .int (nI b), .ref (ad (prO f))] x (some (.int (nI a0))) (mtX f (x.2 (1, g, 1)) (x.2 (1, g, 2)) (t - (b + 1)) (b + 1) a0 (hdC o x) x) := by
  refine ok_start (by decide) (Nat.le_of_ble_eq_true rfl) rfl ?_
  intro p e s m args below meth c B hr hlk hml
  have B : Cx p s m c args b_Co_makeCatchActions R_Co D aC (rg 111 ad) 111 ad := B
  have hend : (mcF f (x.2 (1, g, 1)) (x.2 (1, g, 2)) (t - (b + 1)) (b + 1) 0 a0 x).1 = a0 + crF (x.2 (1, g, 1)) (t - (b + 1)) (b + 1) 0 := mcF_a _ _ _ _ _
  have fin : ∀ (xm : tm_M) (am : Nat), (∀ K, K ≠ (6, f, 0) → xm.1 K = x.1 K) → (∀ K : tm_K, K.1 ≠ 6 → xm.2 K = x.2 K) → xm.1 (6, f, 0) 6 = nI am → (am, xm) = mcF f (x.2 (1, g, 1)) (x.2 (1, g, 2)) (t - (b + 1)) (b + 1) 0 a0 x → am ≤ 40 → J p l e (rom 2 44) s m args below meth c D (rg 111 ad) 0 0 (MQ below (Qk D aC 111 ad (some (.int (nI a0))) (wX ad aC (mtX f (x.2 (1, g, 1)) (x.2 (1, g, 2)) (t - (b + 1)) (b + 1) a0 (hdC o x) x))) args s 0 0 (rg 111 ad)) 111 ad (wX ad aC xm) 8 101 [(4, .int (nI a0)), (0, .ref (ad 22)), (3, .ref (ad (prO f)))] [] := by
    intro xm am h1 h2 hxa hR h40m
    have hae : am = a0 + crF (x.2 (1, g, 1)) (t - (b + 1)) (b + 1) 0 := by rw [← hend, ← hR]
    have hxe : xm = (mcF f (x.2 (1, g, 1)) (x.2 (1, g, 2)) (t - (b + 1)) (b + 1) 0 a0 x).2 := by rw [← hR]
    refine j_aloadn B d_Co_makeCatchActions_101 rfl ?_
    refine j_aloadn B d_Co_makeCatchActions_102 rfl ?_
    refine j_geti B fl_Co_80 (q_pr hf) rfl d_Co_makeCatchActions_103 ?_
    refine j_topi (nI am) hxa ?_
    refine j_iconst (v := 1) B d_Co_makeCatchActions_106 (by decide) ?_
    refine j_isub B d_Co_makeCatchActions_107 ?_
    refine j_topi (nI (am - 1)) (nIp (by omega)) ?_
    refine j_aloadn B d_Co_makeCatchActions_108 rfl ?_
    refine j_cVt B (ok_Co_currentHead xm (o := o) (by rw [h1 _ (by simp)]; exact ho) h5) cv_Co_currentHead ml_Co_47 (q_22) rfl rfl ⟨rfl, rfl, by decide, by decide⟩ ⟨Nat.zero_le _, Nat.zero_le _⟩ hml (Nat.le_of_ble_eq_true rfl) rfl d_Co_makeCatchActions_109 ?_
    refine j_topi (hdC o x) (by unfold hdC; split <;> simp only [h1 (4, o - 1, 0) (by simp)]) ?_
    refine j_cVt B (ok_Pr_chain hf xm (hdC o x) (k := am - 1) (a := am) hxa (by omega) (by omega)) cv_Pr_chain ml_Co_83 (q_pr hf) rfl rfl ⟨rfl, rfl, by decide, by decide⟩ ⟨Nat.zero_le _, Nat.zero_le _⟩ hml (Nat.le_of_ble_eq_true rfl) rfl d_Co_makeCatchActions_112 ?_
    refine j_iload B d_Co_makeCatchActions_115 rfl ?_
    exact j_iret B hr hlk d_Co_makeCatchActions_117 (rfl) (congrArg (tw ad aC sX kX) (by rw [hxe, hae]; rfl))
  have loop : ∀ (r k d a : Nat) (xk : tm_M), k + r = t → d ≤ k → (∀ K, K ≠ (6, f, 0) → xk.1 K = x.1 K) → (∀ K : tm_K, K.1 ≠ 6 → xk.2 K = x.2 K) → xk.1 (6, f, 0) 6 = nI a → mcF f (x.2 (1, g, 1)) (x.2 (1, g, 2)) r k d a xk = mcF f (x.2 (1, g, 1)) (x.2 (1, g, 2)) (t - (b + 1)) (b + 1) 0 a0 x → a + crF (x.2 (1, g, 1)) r k d ≤ 40 → J p l e (rom 2 44) s m args below meth c D (rg 111 ad) 0 0 (MQ below (Qk D aC 111 ad (some (.int (nI a0))) (wX ad aC (mtX f (x.2 (1, g, 1)) (x.2 (1, g, 2)) (t - (b + 1)) (b + 1) a0 (hdC o x) x))) args s 0 0 (rg 111 ad)) 111 ad (wX ad aC xk) 8 14 [(6, .int (nI k)), (5, .int (nI d)), (4, .int (nI a0)), (0, .ref (ad 22)), (1, .ref (ad (txO g))), (3, .ref (ad (prO f)))] [] := by
    intro r
    induction r with
    | zero =>
      intro k d a xk hk hdk h1 h2 hxa hR hca
      refine j_iload B d_Co_makeCatchActions_14 rfl ?_
      refine j_aloadn B d_Co_makeCatchActions_16 rfl ?_
      refine j_geti B fl_Co_27 (q_tx hg) rfl d_Co_makeCatchActions_17 ?_
      refine j_topi (nI t) (by rw [h1 _ (by simp)]; exact ht) ?_
      refine j_icmp_ge (tgt := 101) B d_Co_makeCatchActions_20 (by decide) (fun h20_ => ?_) (fun h20_ => (show False from h20_ (nI_le (by omega) (by omega))).elim)
      refine j_loc [(4, .int (nI a0)), (0, .ref (ad 22)), (3, .ref (ad (prO f)))] ⟨rfl, rfl, rfl, trivial⟩ ?_
      exact fin _ _ h1 h2 hxa hR (by omega)
    | succ r ih =>
      intro k d a xk hk hdk h1 h2 hxa hR hca
      refine j_iload B d_Co_makeCatchActions_14 rfl ?_
      refine j_aloadn B d_Co_makeCatchActions_16 rfl ?_
      refine j_geti B fl_Co_27 (q_tx hg) rfl d_Co_makeCatchActions_17 ?_
      refine j_topi (nI t) (by rw [h1 _ (by simp)]; exact ht) ?_
      refine j_icmp_ge (tgt := 101) B d_Co_makeCatchActions_20 (by decide) (fun h20_ => (show False from absurd (nIle h20_ (by omega) (by omega)) (by omega)).elim) (fun h20_ => ?_)
      refine j_iload B d_Co_makeCatchActions_23 rfl ?_
      refine j_if_lt (tgt := 101) B d_Co_makeCatchActions_25 (by decide) (fun h25 => (show False from nI_pos (by omega) h25).elim) (fun h25 => ?_)
      refine j_aloadn B d_Co_makeCatchActions_28 rfl ?_
      refine j_iload B d_Co_makeCatchActions_29 rfl ?_
      refine j_cVt B (ok_Tx_statementAt hg xk (nI k) (a := t) (by rw [h1 _ (by simp)]; exact ht) h20) cv_Tx_statementAt ml_Co_44 (q_tx hg) rfl rfl ⟨rfl, rfl, by decide, by decide⟩ ⟨Nat.zero_le _, Nat.zero_le _⟩ hml (Nat.le_of_ble_eq_true rfl) rfl d_Co_makeCatchActions_31 ?_
      refine j_topi (x.2 (1, g, 1) k) (by rw [h1 _ (by simp), h2 _ (by simp), if_pos ⟨nI_pos' (by omega), by rw [ht]; exact nI_lt (by omega) (by omega)⟩, nI_clamp (by omega)]) ?_
      refine j_istore B d_Co_makeCatchActions_34 (by decide) ?_
      refine j_iload B d_Co_makeCatchActions_36 rfl ?_
      refine j_bipush (v := 6) B d_Co_makeCatchActions_38 (by decide) ?_
      refine j_icmp_eq (tgt := 49) B d_Co_makeCatchActions_40 (by decide) (fun h40 => ?_) (fun h40 => ?_)
      · -- yes
        have e6 : (x.2 (1, g, 1) k) = 6 ∨ (x.2 (1, g, 1) k) = 3 := Or.inl h40
        have hc : crF (x.2 (1, g, 1)) (r + 1) k d = crF (x.2 (1, g, 1)) r (k + 1) (d + 1) := if_pos e6
        have hm : mcF f (x.2 (1, g, 1)) (x.2 (1, g, 2)) (r + 1) k d a xk = mcF f (x.2 (1, g, 1)) (x.2 (1, g, 2)) r (k + 1) (d + 1) a xk := if_pos e6
        refine j_iinc B d_Co_makeCatchActions_49 rfl (by decide) (nI_1 d) ?_
        refine j_goto (tgt := 95) B d_Co_makeCatchActions_52 (by decide) ?_
        refine j_iinc B d_Co_makeCatchActions_95 rfl (by decide) (nI_1 k) ?_
        refine j_goto (tgt := 14) B d_Co_makeCatchActions_98 (by decide) ?_
        refine j_loc [(6, .int (nI (k + 1))), (5, .int (nI (d + 1))), (4, .int (nI a0)), (0, .ref (ad 22)), (1, .ref (ad (txO g))), (3, .ref (ad (prO f)))] ⟨rfl, rfl, rfl, rfl, rfl, rfl, trivial⟩ ?_
        exact ih (k + 1) (d + 1) a xk (by omega) (by omega) h1 h2 hxa (by rw [← hm]; exact hR) (by omega)
      · -- no
        refine j_iload B d_Co_makeCatchActions_43 rfl ?_
        refine j_iconst (v := 3) B d_Co_makeCatchActions_45 (by decide) ?_
        refine j_icmp_ne (tgt := 55) B d_Co_makeCatchActions_46 (by decide) (fun h46 => ?_) (fun h46 => ?_)
        · -- yes
          have e6 : ¬ ((x.2 (1, g, 1) k) = 6 ∨ (x.2 (1, g, 1) k) = 3) := fun z => z.elim h40 h46
          refine j_iload B d_Co_makeCatchActions_55 rfl ?_
          refine j_iconst (v := 5) B d_Co_makeCatchActions_57 (by decide) ?_
          refine j_icmp_ne (tgt := 67) B d_Co_makeCatchActions_58 (by decide) (fun h58 => ?_) (fun h58 => ?_)
          · -- yes
            refine j_iload B d_Co_makeCatchActions_67 rfl ?_
            refine j_iconst (v := 4) B d_Co_makeCatchActions_69 (by decide) ?_
            refine j_icmp_ne (tgt := 95) B d_Co_makeCatchActions_70 (by decide) (fun h70 => ?_) (fun h70 => ?_)
            · have hc : crF (x.2 (1, g, 1)) (r + 1) k d = crF (x.2 (1, g, 1)) r (k + 1) d := (if_neg e6).trans ((if_neg h58).trans (if_neg (fun z => h70 z.1)))
              have hm : mcF f (x.2 (1, g, 1)) (x.2 (1, g, 2)) (r + 1) k d a xk = mcF f (x.2 (1, g, 1)) (x.2 (1, g, 2)) r (k + 1) d a xk := (if_neg e6).trans ((if_neg h58).trans (if_neg (fun z => h70 z.1)))
              refine j_iinc B d_Co_makeCatchActions_95 rfl (by decide) (nI_1 k) ?_
              refine j_goto (tgt := 14) B d_Co_makeCatchActions_98 (by decide) ?_
              refine j_loc [(6, .int (nI (k + 1))), (5, .int (nI d)), (4, .int (nI a0)), (0, .ref (ad 22)), (1, .ref (ad (txO g))), (3, .ref (ad (prO f)))] ⟨rfl, rfl, rfl, rfl, rfl, rfl, trivial⟩ ?_
              exact ih (k + 1) d a xk (by omega) (by omega) h1 h2 hxa (by rw [← hm]; exact hR) (by omega)
            · refine j_iload B d_Co_makeCatchActions_73 rfl ?_
              refine j_if_ne (tgt := 95) B d_Co_makeCatchActions_75 (by decide) (fun h75 => ?_) (fun h75 => ?_)
              · have hc : crF (x.2 (1, g, 1)) (r + 1) k d = crF (x.2 (1, g, 1)) r (k + 1) d := (if_neg e6).trans ((if_neg h58).trans (if_neg (fun z => h75 (by rw [z.2]; rfl))))
                have hm : mcF f (x.2 (1, g, 1)) (x.2 (1, g, 2)) (r + 1) k d a xk = mcF f (x.2 (1, g, 1)) (x.2 (1, g, 2)) r (k + 1) d a xk := (if_neg e6).trans ((if_neg h58).trans (if_neg (fun z => h75 (by rw [z.2]; rfl))))
                refine j_iinc B d_Co_makeCatchActions_95 rfl (by decide) (nI_1 k) ?_
                refine j_goto (tgt := 14) B d_Co_makeCatchActions_98 (by decide) ?_
                refine j_loc [(6, .int (nI (k + 1))), (5, .int (nI d)), (4, .int (nI a0)), (0, .ref (ad 22)), (1, .ref (ad (txO g))), (3, .ref (ad (prO f)))] ⟨rfl, rfl, rfl, rfl, rfl, rfl, trivial⟩ ?_
                exact ih (k + 1) d a xk (by omega) (by omega) h1 h2 hxa (by rw [← hm]; exact hR) (by omega)
              · have hd : d = 0 := Nat.eq_zero_of_not_pos (fun z => nI_ne0 z (by omega) h75)
                have hc : crF (x.2 (1, g, 1)) (r + 1) k d = crF (x.2 (1, g, 1)) r (k + 1) d + 1 := (if_neg e6).trans ((if_neg h58).trans (if_pos ⟨h70, hd⟩))
                have hm : mcF f (x.2 (1, g, 1)) (x.2 (1, g, 2)) (r + 1) k d a xk = mcF f (x.2 (1, g, 1)) (x.2 (1, g, 2)) r (k + 1) d (a + 1) (acX f a (x.2 (1, g, 2) k) (nI (a + 1)) xk) := (if_neg e6).trans ((if_neg h58).trans (if_pos ⟨h70, hd⟩))
                refine j_aloadn B d_Co_makeCatchActions_78 rfl ?_
                refine j_aloadn B d_Co_makeCatchActions_79 rfl ?_
                refine j_iload B d_Co_makeCatchActions_80 rfl ?_
                refine j_cVt B (ok_Tx_operandAt hg xk (nI k) (a := t) (by rw [h1 _ (by simp)]; exact ht) h20) cv_Tx_operandAt ml_Co_40 (q_tx hg) rfl rfl ⟨rfl, rfl, by decide, by decide⟩ ⟨Nat.zero_le _, Nat.zero_le _⟩ hml (Nat.le_of_ble_eq_true rfl) rfl d_Co_makeCatchActions_82 ?_
                refine j_topi (x.2 (1, g, 2) k) (by rw [h1 _ (by simp), h2 _ (by simp), if_pos ⟨nI_pos' (by omega), by rw [ht]; exact nI_lt (by omega) (by omega)⟩, nI_clamp (by omega)]) ?_
                refine j_aloadn B d_Co_makeCatchActions_85 rfl ?_
                refine j_geti B fl_Co_80 (q_pr hf) rfl d_Co_makeCatchActions_86 ?_
                refine j_iconst (v := 1) B d_Co_makeCatchActions_89 (by decide) ?_
                refine j_iadd B d_Co_makeCatchActions_90 ?_
                refine j_topi (nI (a + 1)) (by rw [hxa, nI_1]) ?_
                refine j_cVt B (ok_Pr_makeAction hf xk (x.2 (1, g, 2) k) (nI (a + 1)) (a := a) hxa (by omega)) cv_Pr_makeAction ml_Co_55 (q_pr hf) rfl rfl ⟨rfl, rfl, by decide, by decide⟩ ⟨Nat.zero_le _, Nat.zero_le _⟩ hml (Nat.le_of_ble_eq_true rfl) rfl d_Co_makeCatchActions_91 ?_
                refine j_pop B d_Co_makeCatchActions_94 rfl ?_
                refine j_iinc B d_Co_makeCatchActions_95 rfl (by decide) (nI_1 k) ?_
                refine j_goto (tgt := 14) B d_Co_makeCatchActions_98 (by decide) ?_
                refine j_loc [(6, .int (nI (k + 1))), (5, .int (nI d)), (4, .int (nI a0)), (0, .ref (ad 22)), (1, .ref (ad (txO g))), (3, .ref (ad (prO f)))] ⟨rfl, rfl, rfl, rfl, rfl, rfl, trivial⟩ ?_
                exact ih (k + 1) d (a + 1) (acX f a (x.2 (1, g, 2) k) (nI (a + 1)) xk) (by omega) (by omega) (fun K hK => by rw [← h1 K hK]; simp [acX, sI, sA, hK]) (fun K hK => by rw [← h2 K hK]; unfold acX; rw [rIA, rAK (fun z => hK (by rw [z])), rAK (fun z => hK (by rw [z])), rAK (fun z => hK (by rw [z]))]) rI (by rw [← hm]; exact hR) (by omega)
          · -- no
            have e5 : (x.2 (1, g, 1) k) = 5 := h58
            by_cases hd : d = 0
            · have hc : crF (x.2 (1, g, 1)) (r + 1) k d = 0 := (if_neg e6).trans ((if_pos e5).trans (if_pos hd))
              have hm : mcF f (x.2 (1, g, 1)) (x.2 (1, g, 2)) (r + 1) k d a xk = (a, xk) := (if_neg e6).trans ((if_pos e5).trans (if_pos hd))
              refine j_iinc B d_Co_makeCatchActions_61 rfl (by decide) (show nI d + Int32.ofInt (-1) = -1 by rw [hd]; decide) ?_
              refine j_goto (tgt := 95) B d_Co_makeCatchActions_64 (by decide) ?_
              refine j_iinc B d_Co_makeCatchActions_95 rfl (by decide) (nI_1 k) ?_
              refine j_goto (tgt := 14) B d_Co_makeCatchActions_98 (by decide) ?_
              refine j_iload B d_Co_makeCatchActions_14 rfl ?_
              refine j_aloadn B d_Co_makeCatchActions_16 rfl ?_
              refine j_geti B fl_Co_27 (q_tx hg) rfl d_Co_makeCatchActions_17 ?_
              refine j_topi (nI t) (by rw [h1 _ (by simp)]; exact ht) ?_
              refine j_icmp_ge (tgt := 101) B d_Co_makeCatchActions_20 (by decide) (fun hz => ?_) (fun hz => ?_)
              · -- yes
                refine j_loc [(4, .int (nI a0)), (0, .ref (ad 22)), (3, .ref (ad (prO f)))] ⟨rfl, rfl, rfl, trivial⟩ ?_
                exact fin _ _ h1 h2 hxa (hm ▸ hR) (by rw [hc] at hca; omega)
              · -- no
                refine j_iload B d_Co_makeCatchActions_23 rfl ?_
                refine j_if_lt (tgt := 101) B d_Co_makeCatchActions_25 (by decide) (fun h25 => ?_) (fun h25 => (show False from h25 (by decide)).elim)
                refine j_loc [(4, .int (nI a0)), (0, .ref (ad 22)), (3, .ref (ad (prO f)))] ⟨rfl, rfl, rfl, trivial⟩ ?_
                exact fin _ _ h1 h2 hxa (hm ▸ hR) (by rw [hc] at hca; omega)
            · have hc : crF (x.2 (1, g, 1)) (r + 1) k d = crF (x.2 (1, g, 1)) r (k + 1) (d - 1) := (if_neg e6).trans ((if_pos e5).trans (if_neg hd))
              have hm : mcF f (x.2 (1, g, 1)) (x.2 (1, g, 2)) (r + 1) k d a xk = mcF f (x.2 (1, g, 1)) (x.2 (1, g, 2)) r (k + 1) (d - 1) a xk := (if_neg e6).trans ((if_pos e5).trans (if_neg hd))
              refine j_iinc B d_Co_makeCatchActions_61 rfl (by decide) (nIm (by omega)) ?_
              refine j_goto (tgt := 95) B d_Co_makeCatchActions_64 (by decide) ?_
              refine j_iinc B d_Co_makeCatchActions_95 rfl (by decide) (nI_1 k) ?_
              refine j_goto (tgt := 14) B d_Co_makeCatchActions_98 (by decide) ?_
              refine j_loc [(6, .int (nI (k + 1))), (5, .int (nI (d - 1))), (4, .int (nI a0)), (0, .ref (ad 22)), (1, .ref (ad (txO g))), (3, .ref (ad (prO f)))] ⟨rfl, rfl, rfl, rfl, rfl, rfl, trivial⟩ ?_
              exact ih (k + 1) (d - 1) a xk (by omega) (by omega) h1 h2 hxa (by rw [← hm]; exact hR) (by omega)
        · -- no
          have e6 : (x.2 (1, g, 1) k) = 6 ∨ (x.2 (1, g, 1) k) = 3 := Or.inr h46
          have hc : crF (x.2 (1, g, 1)) (r + 1) k d = crF (x.2 (1, g, 1)) r (k + 1) (d + 1) := if_pos e6
          have hm : mcF f (x.2 (1, g, 1)) (x.2 (1, g, 2)) (r + 1) k d a xk = mcF f (x.2 (1, g, 1)) (x.2 (1, g, 2)) r (k + 1) (d + 1) a xk := if_pos e6
          refine j_iinc B d_Co_makeCatchActions_49 rfl (by decide) (nI_1 d) ?_
          refine j_goto (tgt := 95) B d_Co_makeCatchActions_52 (by decide) ?_
          refine j_iinc B d_Co_makeCatchActions_95 rfl (by decide) (nI_1 k) ?_
          refine j_goto (tgt := 14) B d_Co_makeCatchActions_98 (by decide) ?_
          refine j_loc [(6, .int (nI (k + 1))), (5, .int (nI (d + 1))), (4, .int (nI a0)), (0, .ref (ad 22)), (1, .ref (ad (txO g))), (3, .ref (ad (prO f)))] ⟨rfl, rfl, rfl, rfl, rfl, rfl, trivial⟩ ?_
          exact ih (k + 1) (d + 1) a xk (by omega) (by omega) h1 h2 hxa (by rw [← hm]; exact hR) (by omega)
  refine j_aloadn B d_Co_makeCatchActions_0 rfl ?_
  refine j_geti B fl_Co_80 (q_pr hf) rfl d_Co_makeCatchActions_1 ?_
  refine j_topi (nI a0) ha ?_
  refine j_istore B d_Co_makeCatchActions_4 (by decide) ?_
  refine j_iconst (v := 0) B d_Co_makeCatchActions_6 (by decide) ?_
  refine j_istore B d_Co_makeCatchActions_7 (by decide) ?_
  refine j_iloadn B d_Co_makeCatchActions_9 rfl ?_
  refine j_iconst (v := 1) B d_Co_makeCatchActions_10 (by decide) ?_
  refine j_iadd B d_Co_makeCatchActions_11 ?_
  refine j_topi (nI (b + 1)) (nI_1 b) ?_
  refine j_istore B d_Co_makeCatchActions_12 (by decide) ?_
  refine j_loc [(6, .int (nI (b + 1))), (5, .int (nI 0)), (4, .int (nI a0)), (0, .ref (ad 22)), (1, .ref (ad (txO g))), (3, .ref (ad (prO f)))] ⟨rfl, rfl, rfl, rfl, rfl, rfl, trivial⟩ ?_
  exact loop (t - (b + 1)) (b + 1) 0 a0 x (by omega) (by omega) (fun _ _ => rfl) (fun _ _ => rfl) ha rfl h40
end
section
set_option maxRecDepth 100000 in
theorem ok_Co_translateStatement_print {l : Launch} {D : va_G} {aC : Nat → ClassId} {ad : Nat → Nat} {g f : Nat} (hg : g < 6) (hf : f < 6) (x : tm_M) {i len : Nat} (hlen : x.1 (1, g, 0) 2 = nI len) (hl20 : len ≤ 20) (hil : i < len) (hS : x.2 (1, g, 1) i = 0) {n : Nat} (hn : x.1 (6, f, 0) 2 = nI n) (h81 : n < 81) :
    OkX l y_Co_translateStatement b_Co_translateStatement 5 none (rom 4 90) D aC ad [.ref (ad 22), .ref (ad (txO g)), .int (nI i), .ref (ad (prO f))] x none (emX f n 0 (x.2 (1, g, 2) i) x) := by
  refine ok_start (by decide) (Nat.le_of_ble_eq_true rfl) rfl ?_
  intro p e s m args below meth c B hr hlk hml
  have B : Cx p s m c args b_Co_translateStatement R_Co D aC (rg 111 ad) 111 ad := B
  refine j_aloadn B d_Co_translateStatement_0 rfl ?_
  refine j_iloadn B d_Co_translateStatement_1 rfl ?_
  refine j_cVt B (ok_Tx_operandAt hg x (nI i) (a := len) hlen hl20) cv_Tx_operandAt ml_Co_40 (q_tx hg) rfl rfl ⟨rfl, rfl, by decide, by decide⟩ ⟨Nat.zero_le _, Nat.zero_le _⟩ hml (Nat.le_of_ble_eq_true rfl) rfl d_Co_translateStatement_2 ?_
  refine j_topi (x.2 (1, g, 2) i) (by rw [if_pos ⟨nI_pos' (by omega), by rw [hlen]; exact nI_lt (by omega) (by omega)⟩, nI_clamp (by omega)]) ?_
  refine j_istore B d_Co_translateStatement_5 (by decide) ?_
  refine j_aloadn B d_Co_translateStatement_7 rfl ?_
  refine j_iloadn B d_Co_translateStatement_8 rfl ?_
  refine j_cVt B (ok_Tx_statementAt hg x (nI i) (a := len) hlen hl20) cv_Tx_statementAt ml_Co_44 (q_tx hg) rfl rfl ⟨rfl, rfl, by decide, by decide⟩ ⟨Nat.zero_le _, Nat.zero_le _⟩ hml (Nat.le_of_ble_eq_true rfl) rfl d_Co_translateStatement_9 ?_
  refine j_topi 0 (by rw [if_pos ⟨nI_pos' (by omega), by rw [hlen]; exact nI_lt (by omega) (by omega)⟩, nI_clamp (by omega)]; exact hS) ?_
  refine j_tabIn (tgt := 60) (off := 48) B d_Co_translateStatement_12 (by decide) (by decide) (by decide) (by decide) ?_
  refine j_aloadn B d_Co_translateStatement_60 rfl ?_
  refine j_iconst (v := 0) B d_Co_translateStatement_61 (by decide) ?_
  refine j_iload B d_Co_translateStatement_62 rfl ?_
  refine j_cVt B (ok_Pr_emit hf x 0 (x.2 (1, g, 2) i) hn h81) cv_Pr_emit ml_Co_36 (q_pr hf) rfl rfl ⟨rfl, rfl, by decide, by decide⟩ ⟨Nat.zero_le _, Nat.zero_le _⟩ hml (Nat.le_of_ble_eq_true rfl) rfl d_Co_translateStatement_64 ?_
  refine j_goto (tgt := 164) B d_Co_translateStatement_67 (by decide) ?_
  exact j_vret B hr hlk d_Co_translateStatement_164 (rfl) (rfl)
set_option maxRecDepth 100000 in
theorem ok_Co_translateStatement_call {l : Launch} {D : va_G} {aC : Nat → ClassId} {ad : Nat → Nat} {g f : Nat} (hg : g < 6) (hf : f < 6) (x : tm_M) {i len : Nat} (hlen : x.1 (1, g, 0) 2 = nI len) (hl20 : len ≤ 20) (hil : i < len) (hS : x.2 (1, g, 1) i = 1) {n : Nat} (hn : x.1 (6, f, 0) 2 = nI n) (h81 : n < 81) {o : Nat} (ho : x.1 (3, 0, 0) 1 = nI o) (h5 : o ≤ 5) {q : Nat} (hq : x.1 (6, f, 0) 10 = nI q) (hq20 : q < 20) :
    OkX l y_Co_translateStatement b_Co_translateStatement 5 none (rom 4 90) D aC ad [.ref (ad 22), .ref (ad (txO g)), .int (nI i), .ref (ad (prO f))] x none (emX f n 1 (x.2 (1, g, 2) i) (siX f n q (hdC o x) x)) := by
  refine ok_start (by decide) (Nat.le_of_ble_eq_true rfl) rfl ?_
  intro p e s m args below meth c B hr hlk hml
  have B : Cx p s m c args b_Co_translateStatement R_Co D aC (rg 111 ad) 111 ad := B
  refine j_aloadn B d_Co_translateStatement_0 rfl ?_
  refine j_iloadn B d_Co_translateStatement_1 rfl ?_
  refine j_cVt B (ok_Tx_operandAt hg x (nI i) (a := len) hlen hl20) cv_Tx_operandAt ml_Co_40 (q_tx hg) rfl rfl ⟨rfl, rfl, by decide, by decide⟩ ⟨Nat.zero_le _, Nat.zero_le _⟩ hml (Nat.le_of_ble_eq_true rfl) rfl d_Co_translateStatement_2 ?_
  refine j_topi (x.2 (1, g, 2) i) (by rw [if_pos ⟨nI_pos' (by omega), by rw [hlen]; exact nI_lt (by omega) (by omega)⟩, nI_clamp (by omega)]) ?_
  refine j_istore B d_Co_translateStatement_5 (by decide) ?_
  refine j_aloadn B d_Co_translateStatement_7 rfl ?_
  refine j_iloadn B d_Co_translateStatement_8 rfl ?_
  refine j_cVt B (ok_Tx_statementAt hg x (nI i) (a := len) hlen hl20) cv_Tx_statementAt ml_Co_44 (q_tx hg) rfl rfl ⟨rfl, rfl, by decide, by decide⟩ ⟨Nat.zero_le _, Nat.zero_le _⟩ hml (Nat.le_of_ble_eq_true rfl) rfl d_Co_translateStatement_9 ?_
  refine j_topi 1 (by rw [if_pos ⟨nI_pos' (by omega), by rw [hlen]; exact nI_lt (by omega) (by omega)⟩, nI_clamp (by omega)]; exact hS) ?_
  refine j_tabIn (tgt := 70) (off := 58) B d_Co_translateStatement_12 (by decide) (by decide) (by decide) (by decide) ?_
  refine j_aloadn B d_Co_translateStatement_70 rfl ?_
  refine j_iconst (v := 1) B d_Co_translateStatement_71 (by decide) ?_
  refine j_iload B d_Co_translateStatement_72 rfl ?_
  refine j_aloadn B d_Co_translateStatement_74 rfl ?_
  refine j_cVt B (ok_Co_currentHead x ho h5) cv_Co_currentHead ml_Co_47 (q_22) rfl rfl ⟨rfl, rfl, by decide, by decide⟩ ⟨Nat.zero_le _, Nat.zero_le _⟩ hml (Nat.le_of_ble_eq_true rfl) rfl d_Co_translateStatement_75 ?_
  refine j_cVt B (ok_Pr_emitAtSite hf x 1 (x.2 (1, g, 2) i) (hdC o x) hn h81 hq hq20) cv_Pr_emitAtSite ml_Co_51 (q_pr hf) rfl rfl ⟨rfl, rfl, by decide, by decide⟩ ⟨Nat.zero_le _, Nat.zero_le _⟩ hml (Nat.le_of_ble_eq_true rfl) rfl d_Co_translateStatement_78 ?_
  refine j_goto (tgt := 164) B d_Co_translateStatement_81 (by decide) ?_
  exact j_vret B hr hlk d_Co_translateStatement_164 (rfl) (rfl)
set_option maxRecDepth 100000 in
theorem ok_Co_translateStatement_throw {l : Launch} {D : va_G} {aC : Nat → ClassId} {ad : Nat → Nat} {g f : Nat} (hg : g < 6) (hf : f < 6) (x : tm_M) {i len : Nat} (hlen : x.1 (1, g, 0) 2 = nI len) (hl20 : len ≤ 20) (hil : i < len) (hS : x.2 (1, g, 1) i = 2) {n : Nat} (hn : x.1 (6, f, 0) 2 = nI n) (h81 : n < 81) {o : Nat} (ho : x.1 (3, 0, 0) 1 = nI o) (h5 : o ≤ 5) {q : Nat} (hq : x.1 (6, f, 0) 10 = nI q) (hq20 : q < 20) :
    OkX l y_Co_translateStatement b_Co_translateStatement 5 none (rom 4 90) D aC ad [.ref (ad 22), .ref (ad (txO g)), .int (nI i), .ref (ad (prO f))] x none (emX f n 2 (x.2 (1, g, 2) i) (siX f n q (hdC o x) x)) := by
  refine ok_start (by decide) (Nat.le_of_ble_eq_true rfl) rfl ?_
  intro p e s m args below meth c B hr hlk hml
  have B : Cx p s m c args b_Co_translateStatement R_Co D aC (rg 111 ad) 111 ad := B
  refine j_aloadn B d_Co_translateStatement_0 rfl ?_
  refine j_iloadn B d_Co_translateStatement_1 rfl ?_
  refine j_cVt B (ok_Tx_operandAt hg x (nI i) (a := len) hlen hl20) cv_Tx_operandAt ml_Co_40 (q_tx hg) rfl rfl ⟨rfl, rfl, by decide, by decide⟩ ⟨Nat.zero_le _, Nat.zero_le _⟩ hml (Nat.le_of_ble_eq_true rfl) rfl d_Co_translateStatement_2 ?_
  refine j_topi (x.2 (1, g, 2) i) (by rw [if_pos ⟨nI_pos' (by omega), by rw [hlen]; exact nI_lt (by omega) (by omega)⟩, nI_clamp (by omega)]) ?_
  refine j_istore B d_Co_translateStatement_5 (by decide) ?_
  refine j_aloadn B d_Co_translateStatement_7 rfl ?_
  refine j_iloadn B d_Co_translateStatement_8 rfl ?_
  refine j_cVt B (ok_Tx_statementAt hg x (nI i) (a := len) hlen hl20) cv_Tx_statementAt ml_Co_44 (q_tx hg) rfl rfl ⟨rfl, rfl, by decide, by decide⟩ ⟨Nat.zero_le _, Nat.zero_le _⟩ hml (Nat.le_of_ble_eq_true rfl) rfl d_Co_translateStatement_9 ?_
  refine j_topi 2 (by rw [if_pos ⟨nI_pos' (by omega), by rw [hlen]; exact nI_lt (by omega) (by omega)⟩, nI_clamp (by omega)]; exact hS) ?_
  refine j_tabIn (tgt := 84) (off := 72) B d_Co_translateStatement_12 (by decide) (by decide) (by decide) (by decide) ?_
  refine j_aloadn B d_Co_translateStatement_84 rfl ?_
  refine j_iconst (v := 2) B d_Co_translateStatement_85 (by decide) ?_
  refine j_iload B d_Co_translateStatement_86 rfl ?_
  refine j_aloadn B d_Co_translateStatement_88 rfl ?_
  refine j_cVt B (ok_Co_currentHead x ho h5) cv_Co_currentHead ml_Co_47 (q_22) rfl rfl ⟨rfl, rfl, by decide, by decide⟩ ⟨Nat.zero_le _, Nat.zero_le _⟩ hml (Nat.le_of_ble_eq_true rfl) rfl d_Co_translateStatement_89 ?_
  refine j_cVt B (ok_Pr_emitAtSite hf x 2 (x.2 (1, g, 2) i) (hdC o x) hn h81 hq hq20) cv_Pr_emitAtSite ml_Co_51 (q_pr hf) rfl rfl ⟨rfl, rfl, by decide, by decide⟩ ⟨Nat.zero_le _, Nat.zero_le _⟩ hml (Nat.le_of_ble_eq_true rfl) rfl d_Co_translateStatement_92 ?_
  refine j_goto (tgt := 164) B d_Co_translateStatement_95 (by decide) ?_
  exact j_vret B hr hlk d_Co_translateStatement_164 (rfl) (rfl)
set_option maxRecDepth 100000 in
theorem ok_Co_translateStatement_rethrow {l : Launch} {D : va_G} {aC : Nat → ClassId} {ad : Nat → Nat} {g f : Nat} (hg : g < 6) (hf : f < 6) (x : tm_M) {i len : Nat} (hlen : x.1 (1, g, 0) 2 = nI len) (hl20 : len ≤ 20) (hil : i < len) (hS : x.2 (1, g, 1) i = 7) {n : Nat} (hn : x.1 (6, f, 0) 2 = nI n) (h81 : n < 81) {o : Nat} (ho : x.1 (3, 0, 0) 1 = nI o) (h5 : o ≤ 5) {q : Nat} (hq : x.1 (6, f, 0) 10 = nI q) (hq20 : q < 20) :
    OkX l y_Co_translateStatement b_Co_translateStatement 5 none (rom 4 90) D aC ad [.ref (ad 22), .ref (ad (txO g)), .int (nI i), .ref (ad (prO f))] x none (emX f n 3 0 (siX f n q (hdC o x) x)) := by
  refine ok_start (by decide) (Nat.le_of_ble_eq_true rfl) rfl ?_
  intro p e s m args below meth c B hr hlk hml
  have B : Cx p s m c args b_Co_translateStatement R_Co D aC (rg 111 ad) 111 ad := B
  refine j_aloadn B d_Co_translateStatement_0 rfl ?_
  refine j_iloadn B d_Co_translateStatement_1 rfl ?_
  refine j_cVt B (ok_Tx_operandAt hg x (nI i) (a := len) hlen hl20) cv_Tx_operandAt ml_Co_40 (q_tx hg) rfl rfl ⟨rfl, rfl, by decide, by decide⟩ ⟨Nat.zero_le _, Nat.zero_le _⟩ hml (Nat.le_of_ble_eq_true rfl) rfl d_Co_translateStatement_2 ?_
  refine j_topi (x.2 (1, g, 2) i) (by rw [if_pos ⟨nI_pos' (by omega), by rw [hlen]; exact nI_lt (by omega) (by omega)⟩, nI_clamp (by omega)]) ?_
  refine j_istore B d_Co_translateStatement_5 (by decide) ?_
  refine j_aloadn B d_Co_translateStatement_7 rfl ?_
  refine j_iloadn B d_Co_translateStatement_8 rfl ?_
  refine j_cVt B (ok_Tx_statementAt hg x (nI i) (a := len) hlen hl20) cv_Tx_statementAt ml_Co_44 (q_tx hg) rfl rfl ⟨rfl, rfl, by decide, by decide⟩ ⟨Nat.zero_le _, Nat.zero_le _⟩ hml (Nat.le_of_ble_eq_true rfl) rfl d_Co_translateStatement_9 ?_
  refine j_topi 7 (by rw [if_pos ⟨nI_pos' (by omega), by rw [hlen]; exact nI_lt (by omega) (by omega)⟩, nI_clamp (by omega)]; exact hS) ?_
  refine j_tabIn (tgt := 98) (off := 86) B d_Co_translateStatement_12 (by decide) (by decide) (by decide) (by decide) ?_
  refine j_aloadn B d_Co_translateStatement_98 rfl ?_
  refine j_iconst (v := 3) B d_Co_translateStatement_99 (by decide) ?_
  refine j_iconst (v := 0) B d_Co_translateStatement_100 (by decide) ?_
  refine j_aloadn B d_Co_translateStatement_101 rfl ?_
  refine j_cVt B (ok_Co_currentHead x ho h5) cv_Co_currentHead ml_Co_47 (q_22) rfl rfl ⟨rfl, rfl, by decide, by decide⟩ ⟨Nat.zero_le _, Nat.zero_le _⟩ hml (Nat.le_of_ble_eq_true rfl) rfl d_Co_translateStatement_102 ?_
  refine j_cVt B (ok_Pr_emitAtSite hf x 3 0 (hdC o x) hn h81 hq hq20) cv_Pr_emitAtSite ml_Co_51 (q_pr hf) rfl rfl ⟨rfl, rfl, by decide, by decide⟩ ⟨Nat.zero_le _, Nat.zero_le _⟩ hml (Nat.le_of_ble_eq_true rfl) rfl d_Co_translateStatement_105 ?_
  refine j_goto (tgt := 164) B d_Co_translateStatement_108 (by decide) ?_
  exact j_vret B hr hlk d_Co_translateStatement_164 (rfl) (rfl)
theorem hdC_ac {f a o : Nat} {k h : Int32} {x : tm_M} : hdC o (acX f a k h x) = hdC o x := by simp [hdC, acX, sI, sA]
set_option maxRecDepth 100000 in
theorem ok_Co_translateStatement_local {l : Launch} {D : va_G} {aC : Nat → ClassId} {ad : Nat → Nat} {g f : Nat} (hg : g < 6) (hf : f < 6) (x : tm_M) {i len : Nat} (hlen : x.1 (1, g, 0) 2 = nI len) (hl20 : len ≤ 20) (hil : i < len) (hS : x.2 (1, g, 1) i = 6) {o : Nat} (ho : x.1 (3, 0, 0) 1 = nI o) (h5 : o < 5) {a : Nat} (ha : x.1 (6, f, 0) 6 = nI a) (h40 : a < 40) :
    OkX l y_Co_translateStatement b_Co_translateStatement 5 none (rom 4 90) D aC ad [.ref (ad 22), .ref (ad (txO g)), .int (nI i), .ref (ad (prO f))] x none (opX o 6 (x.2 (1, g, 2) i) (nI a) (hdC o x) (acX f a (-2) (hdC o x) x)) := by
  refine ok_start (by decide) (Nat.le_of_ble_eq_true rfl) rfl ?_
  intro p e s m args below meth c B hr hlk hml
  have B : Cx p s m c args b_Co_translateStatement R_Co D aC (rg 111 ad) 111 ad := B
  refine j_aloadn B d_Co_translateStatement_0 rfl ?_
  refine j_iloadn B d_Co_translateStatement_1 rfl ?_
  refine j_cVt B (ok_Tx_operandAt hg x (nI i) (a := len) hlen hl20) cv_Tx_operandAt ml_Co_40 (q_tx hg) rfl rfl ⟨rfl, rfl, by decide, by decide⟩ ⟨Nat.zero_le _, Nat.zero_le _⟩ hml (Nat.le_of_ble_eq_true rfl) rfl d_Co_translateStatement_2 ?_
  refine j_topi (x.2 (1, g, 2) i) (by rw [if_pos ⟨nI_pos' (by omega), by rw [hlen]; exact nI_lt (by omega) (by omega)⟩, nI_clamp (by omega)]) ?_
  refine j_istore B d_Co_translateStatement_5 (by decide) ?_
  refine j_aloadn B d_Co_translateStatement_7 rfl ?_
  refine j_iloadn B d_Co_translateStatement_8 rfl ?_
  refine j_cVt B (ok_Tx_statementAt hg x (nI i) (a := len) hlen hl20) cv_Tx_statementAt ml_Co_44 (q_tx hg) rfl rfl ⟨rfl, rfl, by decide, by decide⟩ ⟨Nat.zero_le _, Nat.zero_le _⟩ hml (Nat.le_of_ble_eq_true rfl) rfl d_Co_translateStatement_9 ?_
  refine j_topi 6 (by rw [if_pos ⟨nI_pos' (by omega), by rw [hlen]; exact nI_lt (by omega) (by omega)⟩, nI_clamp (by omega)]; exact hS) ?_
  refine j_tabIn (tgt := 111) (off := 99) B d_Co_translateStatement_12 (by decide) (by decide) (by decide) (by decide) ?_
  refine j_aloadn B d_Co_translateStatement_111 rfl ?_
  refine j_bipush (v := 6) B d_Co_translateStatement_112 (by decide) ?_
  refine j_iload B d_Co_translateStatement_114 rfl ?_
  refine j_aloadn B d_Co_translateStatement_116 rfl ?_
  refine j_bipush (v := (-2)) B d_Co_translateStatement_117 (by decide) ?_
  refine j_aloadn B d_Co_translateStatement_119 rfl ?_
  refine j_cVt B (ok_Co_currentHead x ho (by omega)) cv_Co_currentHead ml_Co_47 (q_22) rfl rfl ⟨rfl, rfl, by decide, by decide⟩ ⟨Nat.zero_le _, Nat.zero_le _⟩ hml (Nat.le_of_ble_eq_true rfl) rfl d_Co_translateStatement_120 ?_
  refine j_cVt B (ok_Pr_makeAction hf x (-2) (hdC o x) ha h40) cv_Pr_makeAction ml_Co_55 (q_pr hf) rfl rfl ⟨rfl, rfl, by decide, by decide⟩ ⟨Nat.zero_le _, Nat.zero_le _⟩ hml (Nat.le_of_ble_eq_true rfl) rfl d_Co_translateStatement_123 ?_
  refine j_cVt B (ok_Co_openBlock (acX f a (-2) (hdC o x) x) 6 (x.2 (1, g, 2) i) (nI a) (o := o) (by simp [acX, sI, sA, ho]) h5) cv_Co_openBlock ml_Co_59 (q_22) rfl rfl ⟨rfl, rfl, by decide, by decide⟩ ⟨Nat.zero_le _, Nat.zero_le _⟩ hml (Nat.le_of_ble_eq_true rfl) rfl d_Co_translateStatement_126 ?_
  refine j_goto (tgt := 164) B d_Co_translateStatement_129 (by decide) ?_
  exact j_vret B hr hlk d_Co_translateStatement_164 (rfl) (by rw [hdC_ac])
theorem mcF_1 {f : Nat} {S O : Nat → Int32} {K : tm_K} (hK : K ≠ (6, f, 0)) : ∀ (r k d a : Nat) (x : tm_M), (mcF f S O r k d a x).2.1 K = x.1 K
  | 0, _, _, _, _ => rfl
  | r + 1, k, d, a, x => by
    unfold mcF
    split
    · exact mcF_1 hK r _ _ _ _
    · split
      · split
        · rfl
        · exact mcF_1 hK r _ _ _ _
      · split
        · rw [mcF_1 hK r]; simp [acX, sI, sA, hK]
        · exact mcF_1 hK r _ _ _ _
theorem hdC_mt {f o r k a : Nat} {S O : Nat → Int32} {h : Int32} {x : tm_M} : hdC o (mtX f S O r k a h x) = hdC o x := by
  unfold hdC mtX
  rw [rAI, mcF_1 (by simp)]
set_option maxRecDepth 100000 in
theorem ok_Co_translateStatement_try {l : Launch} {D : va_G} {aC : Nat → ClassId} {ad : Nat → Nat} {g f : Nat} (hg : g < 6) (hf : f < 6) (x : tm_M) {i len : Nat} (hlen : x.1 (1, g, 0) 2 = nI len) (hl20 : len ≤ 20) (hil : i < len) (hS : x.2 (1, g, 1) i = 3) {o : Nat} (ho : x.1 (3, 0, 0) 1 = nI o) (h5 : o < 5) {a : Nat} (ha : x.1 (6, f, 0) 6 = nI a) (h40 : a + crF (x.2 (1, g, 1)) (len - (i + 1)) (i + 1) 0 ≤ 40) (hc1 : 0 < crF (x.2 (1, g, 1)) (len - (i + 1)) (i + 1) 0) :
    OkX l y_Co_translateStatement b_Co_translateStatement 5 none (rom 4 90) D aC ad [.ref (ad 22), .ref (ad (txO g)), .int (nI i), .ref (ad (prO f))] x none (opX o 3 0 (nI a) (hdC o x) (mtX f (x.2 (1, g, 1)) (x.2 (1, g, 2)) (len - (i + 1)) (i + 1) a (hdC o x) x)) := by
  refine ok_start (by decide) (Nat.le_of_ble_eq_true rfl) rfl ?_
  intro p e s m args below meth c B hr hlk hml
  have B : Cx p s m c args b_Co_translateStatement R_Co D aC (rg 111 ad) 111 ad := B
  refine j_aloadn B d_Co_translateStatement_0 rfl ?_
  refine j_iloadn B d_Co_translateStatement_1 rfl ?_
  refine j_cVt B (ok_Tx_operandAt hg x (nI i) (a := len) hlen hl20) cv_Tx_operandAt ml_Co_40 (q_tx hg) rfl rfl ⟨rfl, rfl, by decide, by decide⟩ ⟨Nat.zero_le _, Nat.zero_le _⟩ hml (Nat.le_of_ble_eq_true rfl) rfl d_Co_translateStatement_2 ?_
  refine j_topi (x.2 (1, g, 2) i) (by rw [if_pos ⟨nI_pos' (by omega), by rw [hlen]; exact nI_lt (by omega) (by omega)⟩, nI_clamp (by omega)]) ?_
  refine j_istore B d_Co_translateStatement_5 (by decide) ?_
  refine j_aloadn B d_Co_translateStatement_7 rfl ?_
  refine j_iloadn B d_Co_translateStatement_8 rfl ?_
  refine j_cVt B (ok_Tx_statementAt hg x (nI i) (a := len) hlen hl20) cv_Tx_statementAt ml_Co_44 (q_tx hg) rfl rfl ⟨rfl, rfl, by decide, by decide⟩ ⟨Nat.zero_le _, Nat.zero_le _⟩ hml (Nat.le_of_ble_eq_true rfl) rfl d_Co_translateStatement_9 ?_
  refine j_topi 3 (by rw [if_pos ⟨nI_pos' (by omega), by rw [hlen]; exact nI_lt (by omega) (by omega)⟩, nI_clamp (by omega)]; exact hS) ?_
  refine j_tabIn (tgt := 132) (off := 120) B d_Co_translateStatement_12 (by decide) (by decide) (by decide) (by decide) ?_
  refine j_aloadn B d_Co_translateStatement_132 rfl ?_
  refine j_iconst (v := 3) B d_Co_translateStatement_133 (by decide) ?_
  refine j_iconst (v := 0) B d_Co_translateStatement_134 (by decide) ?_
  refine j_aloadn B d_Co_translateStatement_135 rfl ?_
  refine j_aloadn B d_Co_translateStatement_136 rfl ?_
  refine j_iloadn B d_Co_translateStatement_137 rfl ?_
  refine j_aloadn B d_Co_translateStatement_138 rfl ?_
  refine j_cVt B (ok_Co_makeCatchActions hg hf x hlen hl20 hil ho (by omega) ha h40 hc1) cv_Co_makeCatchActions ml_Co_62 (q_22) rfl rfl ⟨rfl, rfl, by decide, by decide⟩ ⟨Nat.zero_le _, Nat.zero_le _⟩ hml (Nat.le_of_ble_eq_true rfl) rfl d_Co_translateStatement_139 ?_
  refine j_cVt B (ok_Co_openBlock (mtX f (x.2 (1, g, 1)) (x.2 (1, g, 2)) (len - (i + 1)) (i + 1) a (hdC o x) x) 3 0 (nI a) (o := o) (by unfold mtX; rw [rAI, mcF_1 (by simp)]; exact ho) h5) cv_Co_openBlock ml_Co_59 (q_22) rfl rfl ⟨rfl, rfl, by decide, by decide⟩ ⟨Nat.zero_le _, Nat.zero_le _⟩ hml (Nat.le_of_ble_eq_true rfl) rfl d_Co_translateStatement_142 ?_
  refine j_goto (tgt := 164) B d_Co_translateStatement_145 (by decide) ?_
  exact j_vret B hr hlk d_Co_translateStatement_164 (rfl) (by rw [hdC_mt])
set_option maxRecDepth 100000 in
theorem ok_Co_translateStatement_catch_t {l : Launch} {D : va_G} {aC : Nat → ClassId} {ad : Nat → Nat} {g f : Nat} (hg : g < 6) (hf : f < 6) (x : tm_M) {i len : Nat} (hlen : x.1 (1, g, 0) 2 = nI len) (hl20 : len ≤ 20) (hil : i < len) (hS : x.2 (1, g, 1) i = 4) {o n t nc a : Nat} {u : Int32} (ho : x.1 (3, 0, 0) 1 = nI o) (ho1 : 0 < o) (h5 : o ≤ 5) (hn : x.1 (6, f, 0) 2 = nI n) (h81 : n + 4 ≤ 81) (ht : x.1 (4, o - 1, 0) 6 = nI t) (h20 : t < 20) (hc : x.1 (4, o - 1, 0) 4 = nI nc) (hca : nc < a) (ha : x.1 (6, f, 0) 6 = nI a) (h40 : a < 40) (hu : x.1 (4, o - 1, 0) 3 = u) (hkd : x.1 (4, o - 1, 0) 0 = 3) :
    OkX l y_Co_translateStatement b_Co_translateStatement 5 none (rom 4 90) D aC ad [.ref (ad 22), .ref (ad (txO g)), .int (nI i), .ref (ad (prO f))] x none (bcX f (o - 1) (n + 1) nc a u (exX f (o - 1) n t x)) := by
  refine ok_start (by decide) (Nat.le_of_ble_eq_true rfl) rfl ?_
  intro p e s m args below meth c B hr hlk hml
  have B : Cx p s m c args b_Co_translateStatement R_Co D aC (rg 111 ad) 111 ad := B
  refine j_aloadn B d_Co_translateStatement_0 rfl ?_
  refine j_iloadn B d_Co_translateStatement_1 rfl ?_
  refine j_cVt B (ok_Tx_operandAt hg x (nI i) (a := len) hlen hl20) cv_Tx_operandAt ml_Co_40 (q_tx hg) rfl rfl ⟨rfl, rfl, by decide, by decide⟩ ⟨Nat.zero_le _, Nat.zero_le _⟩ hml (Nat.le_of_ble_eq_true rfl) rfl d_Co_translateStatement_2 ?_
  refine j_topi (x.2 (1, g, 2) i) (by rw [if_pos ⟨nI_pos' (by omega), by rw [hlen]; exact nI_lt (by omega) (by omega)⟩, nI_clamp (by omega)]) ?_
  refine j_istore B d_Co_translateStatement_5 (by decide) ?_
  refine j_aloadn B d_Co_translateStatement_7 rfl ?_
  refine j_iloadn B d_Co_translateStatement_8 rfl ?_
  refine j_cVt B (ok_Tx_statementAt hg x (nI i) (a := len) hlen hl20) cv_Tx_statementAt ml_Co_44 (q_tx hg) rfl rfl ⟨rfl, rfl, by decide, by decide⟩ ⟨Nat.zero_le _, Nat.zero_le _⟩ hml (Nat.le_of_ble_eq_true rfl) rfl d_Co_translateStatement_9 ?_
  refine j_topi 4 (by rw [if_pos ⟨nI_pos' (by omega), by rw [hlen]; exact nI_lt (by omega) (by omega)⟩, nI_clamp (by omega)]; exact hS) ?_
  refine j_tabIn (tgt := 148) (off := 136) B d_Co_translateStatement_12 (by decide) (by decide) (by decide) (by decide) ?_
  refine j_aloadn B d_Co_translateStatement_148 rfl ?_
  refine j_aloadn B d_Co_translateStatement_149 rfl ?_
  refine j_cVt B (ok_Co_beginCatch_t hf x ho ho1 h5 hn h81 ht h20 hc hca ha h40 hu hkd) cv_Co_beginCatch ml_Co_66 (q_22) rfl rfl ⟨rfl, rfl, by decide, by decide⟩ ⟨Nat.zero_le _, Nat.zero_le _⟩ hml (Nat.le_of_ble_eq_true rfl) rfl d_Co_translateStatement_150 ?_
  refine j_goto (tgt := 164) B d_Co_translateStatement_153 (by decide) ?_
  exact j_vret B hr hlk d_Co_translateStatement_164 (rfl) (rfl)
set_option maxRecDepth 100000 in
theorem ok_Co_translateStatement_catch_c {l : Launch} {D : va_G} {aC : Nat → ClassId} {ad : Nat → Nat} {g f : Nat} (hg : g < 6) (hf : f < 6) (x : tm_M) {i len : Nat} (hlen : x.1 (1, g, 0) 2 = nI len) (hl20 : len ≤ 20) (hil : i < len) (hS : x.2 (1, g, 1) i = 4) {o n t nc a : Nat} {u : Int32} (ho : x.1 (3, 0, 0) 1 = nI o) (ho1 : 0 < o) (h5 : o ≤ 5) (hn : x.1 (6, f, 0) 2 = nI n) (h81 : n + 4 ≤ 81) (ht : x.1 (4, o - 1, 0) 6 = nI t) (h20 : t < 20) (hc : x.1 (4, o - 1, 0) 4 = nI nc) (hca : nc < a) (ha : x.1 (6, f, 0) 6 = nI a) (h40 : a < 40) (hu : x.1 (4, o - 1, 0) 3 = u) {k : Nat} (hkd : ¬ x.1 (4, o - 1, 0) 0 = 3) (hk : x.1 (4, o - 1, 0) 2 = nI k) (hka : k < a) :
    OkX l y_Co_translateStatement b_Co_translateStatement 5 none (rom 4 90) D aC ad [.ref (ad 22), .ref (ad (txO g)), .int (nI i), .ref (ad (prO f))] x none (bcX f (o - 1) (n + 4) nc a u (fcX f (o - 1) n t k x)) := by
  refine ok_start (by decide) (Nat.le_of_ble_eq_true rfl) rfl ?_
  intro p e s m args below meth c B hr hlk hml
  have B : Cx p s m c args b_Co_translateStatement R_Co D aC (rg 111 ad) 111 ad := B
  refine j_aloadn B d_Co_translateStatement_0 rfl ?_
  refine j_iloadn B d_Co_translateStatement_1 rfl ?_
  refine j_cVt B (ok_Tx_operandAt hg x (nI i) (a := len) hlen hl20) cv_Tx_operandAt ml_Co_40 (q_tx hg) rfl rfl ⟨rfl, rfl, by decide, by decide⟩ ⟨Nat.zero_le _, Nat.zero_le _⟩ hml (Nat.le_of_ble_eq_true rfl) rfl d_Co_translateStatement_2 ?_
  refine j_topi (x.2 (1, g, 2) i) (by rw [if_pos ⟨nI_pos' (by omega), by rw [hlen]; exact nI_lt (by omega) (by omega)⟩, nI_clamp (by omega)]) ?_
  refine j_istore B d_Co_translateStatement_5 (by decide) ?_
  refine j_aloadn B d_Co_translateStatement_7 rfl ?_
  refine j_iloadn B d_Co_translateStatement_8 rfl ?_
  refine j_cVt B (ok_Tx_statementAt hg x (nI i) (a := len) hlen hl20) cv_Tx_statementAt ml_Co_44 (q_tx hg) rfl rfl ⟨rfl, rfl, by decide, by decide⟩ ⟨Nat.zero_le _, Nat.zero_le _⟩ hml (Nat.le_of_ble_eq_true rfl) rfl d_Co_translateStatement_9 ?_
  refine j_topi 4 (by rw [if_pos ⟨nI_pos' (by omega), by rw [hlen]; exact nI_lt (by omega) (by omega)⟩, nI_clamp (by omega)]; exact hS) ?_
  refine j_tabIn (tgt := 148) (off := 136) B d_Co_translateStatement_12 (by decide) (by decide) (by decide) (by decide) ?_
  refine j_aloadn B d_Co_translateStatement_148 rfl ?_
  refine j_aloadn B d_Co_translateStatement_149 rfl ?_
  refine j_cVt B (ok_Co_beginCatch_c hf x ho ho1 h5 hn h81 ht h20 hc hca ha h40 hu hkd hk hka) cv_Co_beginCatch ml_Co_66 (q_22) rfl rfl ⟨rfl, rfl, by decide, by decide⟩ ⟨Nat.zero_le _, Nat.zero_le _⟩ hml (Nat.le_of_ble_eq_true rfl) rfl d_Co_translateStatement_150 ?_
  refine j_goto (tgt := 164) B d_Co_translateStatement_153 (by decide) ?_
  exact j_vret B hr hlk d_Co_translateStatement_164 (rfl) (rfl)
set_option maxRecDepth 100000 in
theorem ok_Co_translateStatement_end_l {l : Launch} {D : va_G} {aC : Nat → ClassId} {ad : Nat → Nat} {g f : Nat} (hg : g < 6) (hf : f < 6) (x : tm_M) {i len : Nat} (hlen : x.1 (1, g, 0) 2 = nI len) (hl20 : len ≤ 20) (hil : i < len) (hS : x.2 (1, g, 1) i = 5) {o n t k a : Nat} (E : Nat → Nat) (ho : x.1 (3, 0, 0) 1 = nI o) (ho1 : 0 < o) (h5 : o ≤ 5) (hn : x.1 (6, f, 0) 2 = nI n) (h81 : n + 4 ≤ 81) (ht : x.1 (4, o - 1, 0) 6 = nI t) (h20 : t < 20) (hk : x.1 (4, o - 1, 0) 2 = nI k) (hka : k < a) (ha : x.1 (6, f, 0) 6 = nI a) (h40 : a ≤ 40) (hE : ∀ j, j < t → x.2 (4, o - 1, 1) j = nI (E j) ∧ E j < n) (hEt : E t = n + 1) {w : Int32} (hkd : x.1 (4, o - 1, 0) 0 = 6) (hw : x.1 (4, o - 1, 0) 1 = w) :
    OkX l y_Co_translateStatement b_Co_translateStatement 5 none (rom 4 90) D aC ad [.ref (ad 22), .ref (ad (txO g)), .int (nI i), .ref (ad (prO f))] x none (clX f (n + 4) (t + 1) o E (flX f (o - 1) n t k w x)) := by
  refine ok_start (by decide) (Nat.le_of_ble_eq_true rfl) rfl ?_
  intro p e s m args below meth c B hr hlk hml
  have B : Cx p s m c args b_Co_translateStatement R_Co D aC (rg 111 ad) 111 ad := B
  refine j_aloadn B d_Co_translateStatement_0 rfl ?_
  refine j_iloadn B d_Co_translateStatement_1 rfl ?_
  refine j_cVt B (ok_Tx_operandAt hg x (nI i) (a := len) hlen hl20) cv_Tx_operandAt ml_Co_40 (q_tx hg) rfl rfl ⟨rfl, rfl, by decide, by decide⟩ ⟨Nat.zero_le _, Nat.zero_le _⟩ hml (Nat.le_of_ble_eq_true rfl) rfl d_Co_translateStatement_2 ?_
  refine j_topi (x.2 (1, g, 2) i) (by rw [if_pos ⟨nI_pos' (by omega), by rw [hlen]; exact nI_lt (by omega) (by omega)⟩, nI_clamp (by omega)]) ?_
  refine j_istore B d_Co_translateStatement_5 (by decide) ?_
  refine j_aloadn B d_Co_translateStatement_7 rfl ?_
  refine j_iloadn B d_Co_translateStatement_8 rfl ?_
  refine j_cVt B (ok_Tx_statementAt hg x (nI i) (a := len) hlen hl20) cv_Tx_statementAt ml_Co_44 (q_tx hg) rfl rfl ⟨rfl, rfl, by decide, by decide⟩ ⟨Nat.zero_le _, Nat.zero_le _⟩ hml (Nat.le_of_ble_eq_true rfl) rfl d_Co_translateStatement_9 ?_
  refine j_topi 5 (by rw [if_pos ⟨nI_pos' (by omega), by rw [hlen]; exact nI_lt (by omega) (by omega)⟩, nI_clamp (by omega)]; exact hS) ?_
  refine j_tabIn (tgt := 156) (off := 144) B d_Co_translateStatement_12 (by decide) (by decide) (by decide) (by decide) ?_
  refine j_aloadn B d_Co_translateStatement_156 rfl ?_
  refine j_aloadn B d_Co_translateStatement_157 rfl ?_
  refine j_cVt B (ok_Co_closeBlock_l hf x E ho ho1 h5 hn h81 ht h20 hk hka ha h40 hE hEt hkd hw) cv_Co_closeBlock ml_Co_70 (q_22) rfl rfl ⟨rfl, rfl, by decide, by decide⟩ ⟨Nat.zero_le _, Nat.zero_le _⟩ hml (Nat.le_of_ble_eq_true rfl) rfl d_Co_translateStatement_158 ?_
  refine j_goto (tgt := 164) B d_Co_translateStatement_161 (by decide) ?_
  exact j_vret B hr hlk d_Co_translateStatement_164 (rfl) (rfl)
set_option maxRecDepth 100000 in
theorem ok_Co_translateStatement_end_c {l : Launch} {D : va_G} {aC : Nat → ClassId} {ad : Nat → Nat} {g f : Nat} (hg : g < 6) (hf : f < 6) (x : tm_M) {i len : Nat} (hlen : x.1 (1, g, 0) 2 = nI len) (hl20 : len ≤ 20) (hil : i < len) (hS : x.2 (1, g, 1) i = 5) {o n t k a : Nat} (E : Nat → Nat) (ho : x.1 (3, 0, 0) 1 = nI o) (ho1 : 0 < o) (h5 : o ≤ 5) (hn : x.1 (6, f, 0) 2 = nI n) (h81 : n + 4 ≤ 81) (ht : x.1 (4, o - 1, 0) 6 = nI t) (h20 : t < 20) (hk : x.1 (4, o - 1, 0) 2 = nI k) (hka : k < a) (ha : x.1 (6, f, 0) 6 = nI a) (h40 : a ≤ 40) (hE : ∀ j, j < t → x.2 (4, o - 1, 1) j = nI (E j) ∧ E j < n) (hEt : E t = n + 1) (hkd : ¬ x.1 (4, o - 1, 0) 0 = 6) :
    OkX l y_Co_translateStatement b_Co_translateStatement 5 none (rom 4 90) D aC ad [.ref (ad 22), .ref (ad (txO g)), .int (nI i), .ref (ad (prO f))] x none (clX f (n + 4) (t + 1) o E (fcX f (o - 1) n t k x)) := by
  refine ok_start (by decide) (Nat.le_of_ble_eq_true rfl) rfl ?_
  intro p e s m args below meth c B hr hlk hml
  have B : Cx p s m c args b_Co_translateStatement R_Co D aC (rg 111 ad) 111 ad := B
  refine j_aloadn B d_Co_translateStatement_0 rfl ?_
  refine j_iloadn B d_Co_translateStatement_1 rfl ?_
  refine j_cVt B (ok_Tx_operandAt hg x (nI i) (a := len) hlen hl20) cv_Tx_operandAt ml_Co_40 (q_tx hg) rfl rfl ⟨rfl, rfl, by decide, by decide⟩ ⟨Nat.zero_le _, Nat.zero_le _⟩ hml (Nat.le_of_ble_eq_true rfl) rfl d_Co_translateStatement_2 ?_
  refine j_topi (x.2 (1, g, 2) i) (by rw [if_pos ⟨nI_pos' (by omega), by rw [hlen]; exact nI_lt (by omega) (by omega)⟩, nI_clamp (by omega)]) ?_
  refine j_istore B d_Co_translateStatement_5 (by decide) ?_
  refine j_aloadn B d_Co_translateStatement_7 rfl ?_
  refine j_iloadn B d_Co_translateStatement_8 rfl ?_
  refine j_cVt B (ok_Tx_statementAt hg x (nI i) (a := len) hlen hl20) cv_Tx_statementAt ml_Co_44 (q_tx hg) rfl rfl ⟨rfl, rfl, by decide, by decide⟩ ⟨Nat.zero_le _, Nat.zero_le _⟩ hml (Nat.le_of_ble_eq_true rfl) rfl d_Co_translateStatement_9 ?_
  refine j_topi 5 (by rw [if_pos ⟨nI_pos' (by omega), by rw [hlen]; exact nI_lt (by omega) (by omega)⟩, nI_clamp (by omega)]; exact hS) ?_
  refine j_tabIn (tgt := 156) (off := 144) B d_Co_translateStatement_12 (by decide) (by decide) (by decide) (by decide) ?_
  refine j_aloadn B d_Co_translateStatement_156 rfl ?_
  refine j_aloadn B d_Co_translateStatement_157 rfl ?_
  refine j_cVt B (ok_Co_closeBlock_c hf x E ho ho1 h5 hn h81 ht h20 hk hka ha h40 hE hEt hkd) cv_Co_closeBlock ml_Co_70 (q_22) rfl rfl ⟨rfl, rfl, by decide, by decide⟩ ⟨Nat.zero_le _, Nat.zero_le _⟩ hml (Nat.le_of_ble_eq_true rfl) rfl d_Co_translateStatement_158 ?_
  refine j_goto (tgt := 164) B d_Co_translateStatement_161 (by decide) ?_
  exact j_vret B hr hlk d_Co_translateStatement_164 (rfl) (rfl)
set_option maxRecDepth 100000 in
theorem ok_Co_translate {l : Launch} {D : va_G} {aC : Nat → ClassId} {ad : Nat → Nat} {g f : Nat} (hg : g < 6) (hf : f < 6) (x : tm_M) {len n : Nat} (X : Nat → tm_M) (hX : X 0 = (sI (sI (sI (sI x (6, f, 0) 2 0) (6, f, 0) 6 0) (6, f, 0) 10 0) (3, 0, 0) 1 0)) (hlen : ∀ k, k ≤ len → (X k).1 (1, g, 0) 2 = nI len) (hl20 : len ≤ 20) (hs : ∀ k, k < len → OkX l y_Co_translateStatement b_Co_translateStatement 5 none (rom 4 90) D aC ad [.ref (ad 22), .ref (ad (txO g)), .int (nI k), .ref (ad (prO f))] (X k) none (X (k + 1))) (hn : (X len).1 (6, f, 0) 2 = nI n) (h81 : n < 81) :
    OkX l y_Co_translate b_Co_translate 4 none (rom 5 114) D aC ad [.ref (ad 22), .ref (ad (txO g)), .ref (ad (prO f))] x none (emX f n 8 0 (X len)) := by
  refine ok_start (by decide) (Nat.le_of_ble_eq_true rfl) rfl ?_
  intro p e s m args below meth c B hr hlk hml
  have B : Cx p s m c args b_Co_translate R_Co D aC (rg 111 ad) 111 ad := B
  have loop : ∀ (r k : Nat), k + r = len → J p l e (rom 5 114) s m args below meth c D (rg 111 ad) 0 0 (MQ below (Qk D aC 111 ad none (wX ad aC (emX f n 8 0 (X len)))) args s 0 0 (rg 111 ad)) 111 ad (wX ad aC (X k)) 4 11 [(3, .int (nI k)), (0, .ref (ad 22)), (1, .ref (ad (txO g))), (2, .ref (ad (prO f)))] [] := by
    intro r
    induction r with
    | zero =>
      intro k hk
      refine j_iloadn B d_Co_translate_11 rfl ?_
      refine j_aloadn B d_Co_translate_12 rfl ?_
      refine j_geti B fl_Co_27 (q_tx hg) rfl d_Co_translate_13 ?_
      refine j_topi (nI len) (hlen k (by omega)) ?_
      refine j_icmp_ge (tgt := 32) B d_Co_translate_16 (by decide) (fun h16 => ?_) (fun h16 => (show False from h16 (nI_le (by omega) (by omega))).elim)
      refine j_aloadn B d_Co_translate_32 rfl ?_
      refine j_bipush (v := 8) B d_Co_translate_33 (by decide) ?_
      refine j_iconst (v := 0) B d_Co_translate_35 (by decide) ?_
      refine j_cVt B (ok_Pr_emit hf (X k) 8 0 (n := n) (by rw [show k = len by omega]; exact hn) h81) cv_Pr_emit ml_Co_36 (q_pr hf) rfl rfl ⟨rfl, rfl, by decide, by decide⟩ ⟨Nat.zero_le _, Nat.zero_le _⟩ hml (Nat.le_of_ble_eq_true rfl) rfl d_Co_translate_36 ?_
      exact j_vret B hr hlk d_Co_translate_39 (rfl) (by rw [show k = len by omega])
    | succ r ih =>
      intro k hk
      refine j_iloadn B d_Co_translate_11 rfl ?_
      refine j_aloadn B d_Co_translate_12 rfl ?_
      refine j_geti B fl_Co_27 (q_tx hg) rfl d_Co_translate_13 ?_
      refine j_topi (nI len) (hlen k (by omega)) ?_
      refine j_icmp_ge (tgt := 32) B d_Co_translate_16 (by decide) (fun h16 => (show False from absurd (nIle h16 (by omega) (by omega)) (by omega)).elim) (fun h16 => ?_)
      refine j_aloadn B d_Co_translate_19 rfl ?_
      refine j_aloadn B d_Co_translate_20 rfl ?_
      refine j_iloadn B d_Co_translate_21 rfl ?_
      refine j_aloadn B d_Co_translate_22 rfl ?_
      refine j_cVt B (hs k (by omega)) cv_Co_translateStatement ml_Co_32 (q_22) rfl rfl ⟨rfl, rfl, by decide, by decide⟩ ⟨Nat.zero_le _, Nat.zero_le _⟩ hml (Nat.le_of_ble_eq_true rfl) rfl d_Co_translate_23 ?_
      refine j_iinc B d_Co_translate_26 rfl (by decide) (nI_1 k) ?_
      refine j_goto (tgt := 11) B d_Co_translate_29 (by decide) ?_
      refine j_loc [(3, .int (nI (k + 1))), (0, .ref (ad 22)), (1, .ref (ad (txO g))), (2, .ref (ad (prO f)))] ⟨rfl, rfl, rfl, rfl, trivial⟩ ?_
      exact ih (k + 1) (by omega)
  refine j_aloadn B d_Co_translate_0 rfl ?_
  refine j_cVt B (ok_Pr_clear hf x) cv_Pr_clear ml_Co_18 (q_pr hf) rfl rfl ⟨rfl, rfl, by decide, by decide⟩ ⟨Nat.zero_le _, Nat.zero_le _⟩ hml (Nat.le_of_ble_eq_true rfl) rfl d_Co_translate_1 ?_
  refine j_aloadn B d_Co_translate_4 rfl ?_
  refine j_iconst (v := 0) B d_Co_translate_5 (by decide) ?_
  refine j_puti B kX_inj fs_Co_23 (q_22) rfl d_Co_translate_6 ?_
  refine j_iconst (v := 0) B d_Co_translate_9 (by decide) ?_
  refine j_istoren B d_Co_translate_10 (by decide) ?_
  refine j_x (X 0) hX.symm ?_
  refine j_loc [(3, .int (nI 0)), (0, .ref (ad 22)), (1, .ref (ad (txO g))), (2, .ref (ad (prO f)))] ⟨rfl, rfl, rfl, rfl, trivial⟩ ?_
  exact loop len 0 (by omega)
end
section
section MX
variable {p : Program} {l : Launch} {e : Env} {R : Room} {s : State} {m : MethodId} {args : Array Value} {below : List Frame} {meth : Method} {c : Code} {D : va_G} {A : Nat → Prop} {cells slots : Nat} {Q : State → Prop} {n : Nat} {ad : Nat → Nat} {w : Nat → va_E} {nL : Nat}
variable {cc : ByteArray} {own : String} {aC : Nat → ClassId} {pc : Nat} {lv : List (Nat × Value)} {st : List Value}
theorem j_max (B : Cx p s m c args cc own D aC A n ad) {index : Nat} (hml : c.maxLocals = nL) (hlink : Cond.methodLink own index Lib.Math.max.name ∈ gw) (hframes : 1 ≤ R.frames) (hlocals : (st.map fun v => v.category).sum + 13 ≤ R.locals) (hcs : cells ≤ R.cells ∧ slots ≤ R.slots) {x y : Int32} (hdg : decode cc pc = .ok (.invokestatic index, 3))
    (kk : J p l e R s m args below meth c D A cells slots Q n ad w nL (pc + 3) lv (.int (if x < y then y else x) :: st)) : J p l e R s m args below meth c D A cells slots Q n ad w nL pc lv (.int y :: .int x :: st) := by
  intro H locs ls hP hS hl
  obtain ⟨hx, hb, hown, hts, hN, hK, hD⟩ := B
  exact va_mmax hx hb (by rw [hml]; exact hl.1.symm) hown (hts _ hlink) (hts _ (gw_of 732 (by decide +kernel) rfl)) (hts _ (gw_of 74 (by decide +kernel) rfl)) (hts _ (gw_of 733 (by decide +kernel) rfl)) hframes hlocals hcs.1 hcs.2 hdg (kk H locs ls hP hS hl)
end MX
theorem ml_Ma_132 : Cond.methodLink R_Ma 132 Lib.Math.max.name ∈ gw := gw_of 731 (by decide +kernel) rfl
set_option maxRecDepth 100000 in
theorem ok_Lp_isFunction {l : Launch} {D : va_G} {aC : Nat → ClassId} {ad : Nat → Nat} (x : tm_M) (k : Int32) :
    OkX l y_Lp_isFunction b_Lp_isFunction 1 (some .boolean) (rom 0 0) D aC ad [.int k] x (some (.int (bI (0 ≤ k ∧ k < 6)))) x := by
  refine ok_start (by decide) (Nat.le_of_ble_eq_true rfl) rfl ?_
  intro p e s m args below meth c B hr hlk hml
  have B : Cx p s m c args b_Lp_isFunction R_Lp D aC (rg 111 ad) 111 ad := B
  refine j_iloadn B d_Lp_isFunction_0 rfl ?_
  refine j_if_lt (tgt := 14) B d_Lp_isFunction_1 (by decide) (fun h1 => ?_) (fun h1 => ?_)
  · -- yes
    refine j_iconst (v := 0) B d_Lp_isFunction_14 (by decide) ?_
    exact j_zret B hr hlk d_Lp_isFunction_15 (by first | exact Or.inl rfl | exact Or.inr rfl) (by first | exact sv (bI_f (fun h => absurd h.1 (Int32.not_le.mpr h1))) | exact sv (bI_f (fun h => absurd h.2 (Int32.not_lt.mpr h7))) | exact sv (bI_t ⟨Int32.not_lt.mp h1, Int32.not_le.mp h7⟩)) (rfl)
  · -- no
    refine j_iloadn B d_Lp_isFunction_4 rfl ?_
    refine j_bipush (v := 6) B d_Lp_isFunction_5 (by decide) ?_
    refine j_icmp_ge (tgt := 14) B d_Lp_isFunction_7 (by decide) (fun h7 => ?_) (fun h7 => ?_)
    · -- yes
      refine j_iconst (v := 0) B d_Lp_isFunction_14 (by decide) ?_
      exact j_zret B hr hlk d_Lp_isFunction_15 (by first | exact Or.inl rfl | exact Or.inr rfl) (by first | exact sv (bI_f (fun h => absurd h.1 (Int32.not_le.mpr h1))) | exact sv (bI_f (fun h => absurd h.2 (Int32.not_lt.mpr h7))) | exact sv (bI_t ⟨Int32.not_lt.mp h1, Int32.not_le.mp h7⟩)) (rfl)
    · -- no
      refine j_iconst (v := 1) B d_Lp_isFunction_10 (by decide) ?_
      refine j_goto (tgt := 15) B d_Lp_isFunction_11 (by decide) ?_
      exact j_zret B hr hlk d_Lp_isFunction_15 (by first | exact Or.inl rfl | exact Or.inr rfl) (by first | exact sv (bI_f (fun h => absurd h.1 (Int32.not_le.mpr h1))) | exact sv (bI_f (fun h => absurd h.2 (Int32.not_lt.mpr h7))) | exact sv (bI_t ⟨Int32.not_lt.mp h1, Int32.not_le.mp h7⟩)) (rfl)
set_option maxRecDepth 100000 in
theorem ok_Ma_top {l : Launch} {D : va_G} {aC : Nat → ClassId} {ad : Nat → Nat} (x : tm_M) {d : Nat} (hd : x.1 (5, 0, 0) 4 = nI d) (hd0 : 0 < d) (hd8 : d ≤ 8) :
    OkX l y_Ma_top b_Ma_top 1 (some (.object "LandingPads$Frame")) (rom 0 0) D aC ad [.ref (ad 34)] x (some (.ref (ad (frO (d - 1))))) x := by
  refine ok_start (by decide) (Nat.le_of_ble_eq_true rfl) rfl ?_
  intro p e s m args below meth c B hr hlk hml
  have B : Cx p s m c args b_Ma_top R_Ma D aC (rg 111 ad) 111 ad := B
  have hd1 : d - 1 < 8 := by omega
  refine j_aloadn B d_Ma_top_0 rfl ?_
  refine j_getr B fl_Ma_34 (q_34) rfl d_Ma_top_1 ?_
  refine j_aloadn B d_Ma_top_4 rfl ?_
  refine j_geti B fl_Ma_42 (q_34) rfl d_Ma_top_5 ?_
  refine j_topi (nI d) hd ?_
  refine j_if_le (tgt := 20) B d_Ma_top_8 (by decide) (fun h8 => (show False from absurd (nIle (t := 0) h8 (by omega) (by decide)) (by omega)).elim) (fun h8 => ?_)
  refine j_aloadn B d_Ma_top_11 rfl ?_
  refine j_geti B fl_Ma_42 (q_34) rfl d_Ma_top_12 ?_
  refine j_topi (nI d) hd ?_
  refine j_iconst (v := 1) B d_Ma_top_15 (by decide) ?_
  refine j_isub B d_Ma_top_16 ?_
  refine j_goto (tgt := 21) B d_Ma_top_17 (by decide) ?_
  refine j_aald B ⟨(q_94).1, (q_94).2.1⟩ rfl (⟨nIp hd0, hd1, by decide⟩) d_Ma_top_21 ?_
  exact j_aret B hr hlk d_Ma_top_22 (rfl) (rfl)
set_option maxRecDepth 100000 in
theorem ok_Ma_print {l : Launch} {D : va_G} {aC : Nat → ClassId} {ad : Nat → Nat} (x : tm_M) (v : Int32) {t : Nat} (ht : x.1 (5, 0, 3) 1 = nI t) (h60 : t < 60) :
    OkX l y_Ma_print b_Ma_print 2 (some .int) (rom 2 41) D aC ad [.ref (ad 34), .int v] x (some (.int (-1))) (sI (sA x (5, 0, 4) t v) (5, 0, 3) 1 (nI (t + 1))) := by
  refine ok_start (by decide) (Nat.le_of_ble_eq_true rfl) rfl ?_
  intro p e s m args below meth c B hr hlk hml
  have B : Cx p s m c args b_Ma_print R_Ma D aC (rg 111 ad) 111 ad := B
  refine j_aloadn B d_Ma_print_0 rfl ?_
  refine j_getr B fl_Ma_21 (q_34) rfl d_Ma_print_1 ?_
  refine j_cVt B (ok_Ta_isFull x) cv_Ta_isFull ml_Ma_105 (q_37) rfl rfl ⟨rfl, rfl, by decide, by decide⟩ ⟨Nat.zero_le _, Nat.zero_le _⟩ hml (Nat.le_of_ble_eq_true rfl) rfl d_Ma_print_4 ?_
  refine j_if_eq (tgt := 12) B d_Ma_print_7 (by decide) (fun h7 => ?_) (fun h7 => (show False from absurd (nIle (c := 60) (ht ▸ bI_ne h7) (by decide) (by omega)) (by omega)).elim)
  refine j_aloadn B d_Ma_print_12 rfl ?_
  refine j_getr B fl_Ma_21 (q_34) rfl d_Ma_print_13 ?_
  refine j_iloadn B d_Ma_print_16 rfl ?_
  refine j_cVt B (ok_Ta_put x v ht h60) cv_Ta_put ml_Ma_109 (q_37) rfl rfl ⟨rfl, rfl, by decide, by decide⟩ ⟨Nat.zero_le _, Nat.zero_le _⟩ hml (Nat.le_of_ble_eq_true rfl) rfl d_Ma_print_17 ?_
  refine j_iconst (v := (-1)) B d_Ma_print_20 (by decide) ?_
  exact j_iret B hr hlk d_Ma_print_21 (rfl) (rfl)
set_option maxRecDepth 100000 in
theorem ok_Ma_print_full {l : Launch} {D : va_G} {aC : Nat → ClassId} {ad : Nat → Nat} (x : tm_M) (v : Int32) (ht : x.1 (5, 0, 3) 1 = nI 60) :
    OkX l y_Ma_print b_Ma_print 2 (some .int) (rom 2 41) D aC ad [.ref (ad 34), .int v] x (some (.int 5)) x := by
  refine ok_start (by decide) (Nat.le_of_ble_eq_true rfl) rfl ?_
  intro p e s m args below meth c B hr hlk hml
  have B : Cx p s m c args b_Ma_print R_Ma D aC (rg 111 ad) 111 ad := B
  refine j_aloadn B d_Ma_print_0 rfl ?_
  refine j_getr B fl_Ma_21 (q_34) rfl d_Ma_print_1 ?_
  refine j_cVt B (ok_Ta_isFull x) cv_Ta_isFull ml_Ma_105 (q_37) rfl rfl ⟨rfl, rfl, by decide, by decide⟩ ⟨Nat.zero_le _, Nat.zero_le _⟩ hml (Nat.le_of_ble_eq_true rfl) rfl d_Ma_print_4 ?_
  refine j_if_eq (tgt := 12) B d_Ma_print_7 (by decide) (fun h7 => (show False from bI_e h7 (by rw [ht]; exact nI_le (a := 60) (Nat.le_refl _) (by decide))).elim) (fun h7 => ?_)
  refine j_iconst (v := 5) B d_Ma_print_10 (by decide) ?_
  exact j_iret B hr hlk d_Ma_print_11 (rfl) (rfl)
set_option maxRecDepth 100000 in
theorem ok_Ma_clean {l : Launch} {D : va_G} {aC : Nat → ClassId} {ad : Nat → Nat} (x : tm_M) (v : Int32) {t : Nat} (ht : x.1 (5, 0, 3) 1 = nI t) (h60 : t < 60) :
    OkX l y_Ma_clean b_Ma_clean 3 (some .int) (rom 3 62) D aC ad [.ref (ad 34), .int v] x (some (.int (-1))) (sI (sI (sA x (5, 0, 4) t (100 + v)) (5, 0, 3) 1 (nI (t + 1))) (5, 0, 3) 3 (x.1 (5, 0, 3) 3 + 1)) := by
  refine ok_start (by decide) (Nat.le_of_ble_eq_true rfl) rfl ?_
  intro p e s m args below meth c B hr hlk hml
  have B : Cx p s m c args b_Ma_clean R_Ma D aC (rg 111 ad) 111 ad := B
  refine j_aloadn B d_Ma_clean_0 rfl ?_
  refine j_bipush (v := 100) B d_Ma_clean_1 (by decide) ?_
  refine j_iloadn B d_Ma_clean_3 rfl ?_
  refine j_iadd B d_Ma_clean_4 ?_
  refine j_cVt B (ok_Ma_print x (100 + v) ht h60) cv_Ma_print ml_Ma_73 (q_34) rfl rfl ⟨rfl, rfl, by decide, by decide⟩ ⟨Nat.zero_le _, Nat.zero_le _⟩ hml (Nat.le_of_ble_eq_true rfl) rfl d_Ma_clean_5 ?_
  refine j_istoren B d_Ma_clean_8 (by decide) ?_
  refine j_iloadn B d_Ma_clean_9 rfl ?_
  refine j_iconst (v := (-1)) B d_Ma_clean_10 (by decide) ?_
  refine j_icmp_ne (tgt := 27) B d_Ma_clean_11 (by decide) (fun h11 => (show False from h11 rfl).elim) (fun h11 => ?_)
  refine j_aloadn B d_Ma_clean_14 rfl ?_
  refine j_getr B fl_Ma_21 (q_34) rfl d_Ma_clean_15 ?_
  refine j_dup B d_Ma_clean_18 rfl ?_
  refine j_geti B fl_Ma_113 (q_37) rfl d_Ma_clean_19 ?_
  refine j_iconst (v := 1) B d_Ma_clean_22 (by decide) ?_
  refine j_iadd B d_Ma_clean_23 ?_
  refine j_topi (x.1 (5, 0, 3) 3 + 1) (by rw [rIj (by decide)]; rfl) ?_
  refine j_puti B kX_inj fs_Ma_113 (q_37) rfl d_Ma_clean_24 ?_
  refine j_iloadn B d_Ma_clean_27 rfl ?_
  exact j_iret B hr hlk d_Ma_clean_28 (rfl) (rfl)
set_option maxRecDepth 100000 in
theorem ok_Ma_clean_full {l : Launch} {D : va_G} {aC : Nat → ClassId} {ad : Nat → Nat} (x : tm_M) (v : Int32) (ht : x.1 (5, 0, 3) 1 = nI 60) :
    OkX l y_Ma_clean b_Ma_clean 3 (some .int) (rom 3 62) D aC ad [.ref (ad 34), .int v] x (some (.int 5)) x := by
  refine ok_start (by decide) (Nat.le_of_ble_eq_true rfl) rfl ?_
  intro p e s m args below meth c B hr hlk hml
  have B : Cx p s m c args b_Ma_clean R_Ma D aC (rg 111 ad) 111 ad := B
  refine j_aloadn B d_Ma_clean_0 rfl ?_
  refine j_bipush (v := 100) B d_Ma_clean_1 (by decide) ?_
  refine j_iloadn B d_Ma_clean_3 rfl ?_
  refine j_iadd B d_Ma_clean_4 ?_
  refine j_cVt B (ok_Ma_print_full x (100 + v) ht) cv_Ma_print ml_Ma_73 (q_34) rfl rfl ⟨rfl, rfl, by decide, by decide⟩ ⟨Nat.zero_le _, Nat.zero_le _⟩ hml (Nat.le_of_ble_eq_true rfl) rfl d_Ma_clean_5 ?_
  refine j_istoren B d_Ma_clean_8 (by decide) ?_
  refine j_iloadn B d_Ma_clean_9 rfl ?_
  refine j_iconst (v := (-1)) B d_Ma_clean_10 (by decide) ?_
  refine j_icmp_ne (tgt := 27) B d_Ma_clean_11 (by decide) (fun h11 => ?_) (fun h11 => (show False from absurd h11 (by decide)).elim)
  refine j_iloadn B d_Ma_clean_27 rfl ?_
  exact j_iret B hr hlk d_Ma_clean_28 (rfl) (rfl)
set_option maxRecDepth 100000 in
theorem ok_Ma_jump {l : Launch} {D : va_G} {aC : Nat → ClassId} {ad : Nat → Nat} {i : Nat} (hi : i < 8) (x : tm_M) (v : Int32) :
    OkX l y_Ma_jump b_Ma_jump 3 (some .int) (rom 0 0) D aC ad [.ref (ad 34), .ref (ad (frO i)), .int v] x (some (.int (-1))) (sI x (8, i, 0) 1 v) := by
  refine ok_start (by decide) (Nat.le_of_ble_eq_true rfl) rfl ?_
  intro p e s m args below meth c B hr hlk hml
  have B : Cx p s m c args b_Ma_jump R_Ma D aC (rg 111 ad) 111 ad := B
  refine j_aloadn B d_Ma_jump_0 rfl ?_
  refine j_iloadn B d_Ma_jump_1 rfl ?_
  refine j_puti B kX_inj fs_Ma_64 (q_fr hi) rfl d_Ma_jump_2 ?_
  refine j_iconst (v := (-1)) B d_Ma_jump_5 (by decide) ?_
  exact j_iret B hr hlk d_Ma_jump_6 (rfl) (rfl)
set_option maxRecDepth 100000 in
theorem ok_Ma_endCatch {l : Launch} {D : va_G} {aC : Nat → ClassId} {ad : Nat → Nat} {i : Nat} (hi : i < 8) (x : tm_M) {t : Nat} (ht : x.1 (8, i, 0) 3 = nI (t + 1)) (h5 : t < 5) :
    OkX l y_Ma_endCatch b_Ma_endCatch 2 (some .int) (rom 1 20) D aC ad [.ref (ad 34), .ref (ad (frO i))] x (some (.int (-1))) (sI x (8, i, 0) 3 (nI t)) := by
  refine ok_start (by decide) (Nat.le_of_ble_eq_true rfl) rfl ?_
  intro p e s m args below meth c B hr hlk hml
  have B : Cx p s m c args b_Ma_endCatch R_Ma D aC (rg 111 ad) 111 ad := B
  refine j_aloadn B d_Ma_endCatch_0 rfl ?_
  refine j_cVt B (ok_Fr_dropCaught hi x ht h5) cv_Fr_dropCaught ml_Ma_116 (q_fr hi) rfl rfl ⟨rfl, rfl, by decide, by decide⟩ ⟨Nat.zero_le _, Nat.zero_le _⟩ hml (Nat.le_of_ble_eq_true rfl) rfl d_Ma_endCatch_1 ?_
  refine j_iconst (v := (-1)) B d_Ma_endCatch_4 (by decide) ?_
  exact j_iret B hr hlk d_Ma_endCatch_5 (rfl) (rfl)
set_option maxRecDepth 100000 in
theorem ok_Ma_enter_none {l : Launch} {D : va_G} {aC : Nat → ClassId} {ad : Nat → Nat} {g : Nat} (hg : g < 6) (x : tm_M) (h0 : x.1 (6, g, 0) 2 = 0) :
    OkX l y_Ma_enter b_Ma_enter 2 (some .int) (rom 1 26) D aC ad [.ref (ad 34), .int (nI g)] x (some (.int 4)) x := by
  refine ok_start (by decide) (Nat.le_of_ble_eq_true rfl) rfl ?_
  intro p e s m args below meth c B hr hlk hml
  have B : Cx p s m c args b_Ma_enter R_Ma D aC (rg 111 ad) 111 ad := B
  refine j_iloadn B d_Ma_enter_0 rfl ?_
  refine j_cSN B (ok_Lp_isFunction x (nI g)) cs_Lp_isFunction mn_Ma_119 rfl ⟨rfl, rfl, by decide, by decide⟩ ⟨Nat.zero_le _, Nat.zero_le _⟩ hml (Nat.le_of_ble_eq_true rfl) rfl d_Ma_enter_1 ?_
  refine j_if_eq (tgt := 19) B d_Ma_enter_4 (by decide) (fun h4 => (show False from bI_e h4 ⟨nI_pos' (by omega), nI_lt (b := 6) hg (by decide)⟩).elim) (fun h4 => ?_)
  refine j_aloadn B d_Ma_enter_7 rfl ?_
  refine j_getr B fl_Ma_27 (q_34) rfl d_Ma_enter_8 ?_
  refine j_iloadn B d_Ma_enter_11 rfl ?_
  refine j_aald B ⟨(q_39).1, (q_39).2.1⟩ rfl (⟨rfl, hg, by decide⟩) d_Ma_enter_12 ?_
  refine j_cVt B (ok_Pr_isMade hg x) cv_Pr_isMade ml_Ma_123 (q_pr hg) rfl rfl ⟨rfl, rfl, by decide, by decide⟩ ⟨Nat.zero_le _, Nat.zero_le _⟩ hml (Nat.le_of_ble_eq_true rfl) rfl d_Ma_enter_13 ?_
  refine j_if_ne (tgt := 21) B d_Ma_enter_16 (by decide) (fun h16 => (show False from h16 (bI_f (by rw [h0]; decide))).elim) (fun h16 => ?_)
  refine j_iconst (v := 4) B d_Ma_enter_19 (by decide) ?_
  exact j_iret B hr hlk d_Ma_enter_20 (rfl) (rfl)
set_option maxRecDepth 100000 in
theorem ok_Ma_enter_deep {l : Launch} {D : va_G} {aC : Nat → ClassId} {ad : Nat → Nat} {g : Nat} (hg : g < 6) (x : tm_M) (h1 : 0 < x.1 (6, g, 0) 2) (hd : x.1 (5, 0, 0) 4 = nI 8) :
    OkX l y_Ma_enter b_Ma_enter 2 (some .int) (rom 1 26) D aC ad [.ref (ad 34), .int (nI g)] x (some (.int 2)) x := by
  refine ok_start (by decide) (Nat.le_of_ble_eq_true rfl) rfl ?_
  intro p e s m args below meth c B hr hlk hml
  have B : Cx p s m c args b_Ma_enter R_Ma D aC (rg 111 ad) 111 ad := B
  refine j_iloadn B d_Ma_enter_0 rfl ?_
  refine j_cSN B (ok_Lp_isFunction x (nI g)) cs_Lp_isFunction mn_Ma_119 rfl ⟨rfl, rfl, by decide, by decide⟩ ⟨Nat.zero_le _, Nat.zero_le _⟩ hml (Nat.le_of_ble_eq_true rfl) rfl d_Ma_enter_1 ?_
  refine j_if_eq (tgt := 19) B d_Ma_enter_4 (by decide) (fun h4 => (show False from bI_e h4 ⟨nI_pos' (by omega), nI_lt (b := 6) hg (by decide)⟩).elim) (fun h4 => ?_)
  refine j_aloadn B d_Ma_enter_7 rfl ?_
  refine j_getr B fl_Ma_27 (q_34) rfl d_Ma_enter_8 ?_
  refine j_iloadn B d_Ma_enter_11 rfl ?_
  refine j_aald B ⟨(q_39).1, (q_39).2.1⟩ rfl (⟨rfl, hg, by decide⟩) d_Ma_enter_12 ?_
  refine j_cVt B (ok_Pr_isMade hg x) cv_Pr_isMade ml_Ma_123 (q_pr hg) rfl rfl ⟨rfl, rfl, by decide, by decide⟩ ⟨Nat.zero_le _, Nat.zero_le _⟩ hml (Nat.le_of_ble_eq_true rfl) rfl d_Ma_enter_13 ?_
  refine j_if_ne (tgt := 21) B d_Ma_enter_16 (by decide) (fun h16 => ?_) (fun h16 => (show False from absurd (bI_t (h1 : 0 < x.1 (6, g, 0) 2)) (by rw [h16]; decide)).elim)
  refine j_aloadn B d_Ma_enter_21 rfl ?_
  refine j_geti B fl_Ma_42 (q_34) rfl d_Ma_enter_22 ?_
  refine j_bipush (v := 8) B d_Ma_enter_25 (by decide) ?_
  refine j_icmp_lt (tgt := 32) B d_Ma_enter_27 (by decide) (fun h27 => (show False from absurd (nIlt (t := 8) (hd ▸ h27) (by decide) (by decide)) (by decide)).elim) (fun h27 => ?_)
  refine j_iconst (v := 2) B d_Ma_enter_30 (by decide) ?_
  exact j_iret B hr hlk d_Ma_enter_31 (rfl) (rfl)
set_option maxRecDepth 100000 in
theorem ok_Ma_enter {l : Launch} {D : va_G} {aC : Nat → ClassId} {ad : Nat → Nat} {g : Nat} (hg : g < 6) (x : tm_M) (h1 : 0 < x.1 (6, g, 0) 2) {d : Nat} (hd : x.1 (5, 0, 0) 4 = nI d) (hd8 : d < 8) :
    OkX l y_Ma_enter b_Ma_enter 2 (some .int) (rom 1 26) D aC ad [.ref (ad 34), .int (nI g)] x (some (.int (-1))) (sI (sI (sI (sI (sI x (8, d, 0) 0 (nI g)) (8, d, 0) 1 0) (8, d, 0) 3 0) (5, 0, 0) 4 (nI (d + 1))) (5, 0, 3) 5 (if x.1 (5, 0, 3) 5 < nI (d + 1) then nI (d + 1) else x.1 (5, 0, 3) 5)) := by
  refine ok_start (by decide) (Nat.le_of_ble_eq_true rfl) rfl ?_
  intro p e s m args below meth c B hr hlk hml
  have B : Cx p s m c args b_Ma_enter R_Ma D aC (rg 111 ad) 111 ad := B
  refine j_iloadn B d_Ma_enter_0 rfl ?_
  refine j_cSN B (ok_Lp_isFunction x (nI g)) cs_Lp_isFunction mn_Ma_119 rfl ⟨rfl, rfl, by decide, by decide⟩ ⟨Nat.zero_le _, Nat.zero_le _⟩ hml (Nat.le_of_ble_eq_true rfl) rfl d_Ma_enter_1 ?_
  refine j_if_eq (tgt := 19) B d_Ma_enter_4 (by decide) (fun h4 => (show False from bI_e h4 ⟨nI_pos' (by omega), nI_lt (b := 6) hg (by decide)⟩).elim) (fun h4 => ?_)
  refine j_aloadn B d_Ma_enter_7 rfl ?_
  refine j_getr B fl_Ma_27 (q_34) rfl d_Ma_enter_8 ?_
  refine j_iloadn B d_Ma_enter_11 rfl ?_
  refine j_aald B ⟨(q_39).1, (q_39).2.1⟩ rfl (⟨rfl, hg, by decide⟩) d_Ma_enter_12 ?_
  refine j_cVt B (ok_Pr_isMade hg x) cv_Pr_isMade ml_Ma_123 (q_pr hg) rfl rfl ⟨rfl, rfl, by decide, by decide⟩ ⟨Nat.zero_le _, Nat.zero_le _⟩ hml (Nat.le_of_ble_eq_true rfl) rfl d_Ma_enter_13 ?_
  refine j_if_ne (tgt := 21) B d_Ma_enter_16 (by decide) (fun h16 => ?_) (fun h16 => (show False from absurd (bI_t (h1 : 0 < x.1 (6, g, 0) 2)) (by rw [h16]; decide)).elim)
  refine j_aloadn B d_Ma_enter_21 rfl ?_
  refine j_geti B fl_Ma_42 (q_34) rfl d_Ma_enter_22 ?_
  refine j_bipush (v := 8) B d_Ma_enter_25 (by decide) ?_
  refine j_icmp_lt (tgt := 32) B d_Ma_enter_27 (by decide) (fun h27 => ?_) (fun h27 => (show False from h27 (by rw [hd]; exact nI_lt (b := 8) hd8 (by decide))).elim)
  refine j_aloadn B d_Ma_enter_32 rfl ?_
  refine j_getr B fl_Ma_34 (q_34) rfl d_Ma_enter_33 ?_
  refine j_aloadn B d_Ma_enter_36 rfl ?_
  refine j_geti B fl_Ma_42 (q_34) rfl d_Ma_enter_37 ?_
  refine j_topi (nI d) hd ?_
  refine j_aald B ⟨(q_94).1, (q_94).2.1⟩ rfl (⟨rfl, hd8, by decide⟩) d_Ma_enter_40 ?_
  refine j_iloadn B d_Ma_enter_41 rfl ?_
  refine j_cVt B (ok_Fr_begin hd8 x (nI g)) cv_Fr_begin ml_Ma_126 (q_fr hd8) rfl rfl ⟨rfl, rfl, by decide, by decide⟩ ⟨Nat.zero_le _, Nat.zero_le _⟩ hml (Nat.le_of_ble_eq_true rfl) rfl d_Ma_enter_42 ?_
  refine j_aloadn B d_Ma_enter_45 rfl ?_
  refine j_dup B d_Ma_enter_46 rfl ?_
  refine j_geti B fl_Ma_42 (q_34) rfl d_Ma_enter_47 ?_
  refine j_iconst (v := 1) B d_Ma_enter_50 (by decide) ?_
  refine j_iadd B d_Ma_enter_51 ?_
  refine j_topi (nI (d + 1)) (by simp [sI, hd, nI_1]) ?_
  refine j_puti B kX_inj fs_Ma_42 (q_34) rfl d_Ma_enter_52 ?_
  refine j_aloadn B d_Ma_enter_55 rfl ?_
  refine j_getr B fl_Ma_21 (q_34) rfl d_Ma_enter_56 ?_
  refine j_aloadn B d_Ma_enter_59 rfl ?_
  refine j_getr B fl_Ma_21 (q_34) rfl d_Ma_enter_60 ?_
  refine j_geti B fl_Ma_129 (q_37) rfl d_Ma_enter_63 ?_
  refine j_topi (x.1 (5, 0, 3) 5) (by simp [sI]) ?_
  refine j_aloadn B d_Ma_enter_66 rfl ?_
  refine j_geti B fl_Ma_42 (q_34) rfl d_Ma_enter_67 ?_
  refine j_topi (nI (d + 1)) (by simp [sI, upd]) ?_
  refine j_max B hml ml_Ma_132 (by decide) (Nat.le_of_ble_eq_true rfl) ⟨Nat.zero_le _, Nat.zero_le _⟩ d_Ma_enter_70 ?_
  refine j_puti B kX_inj fs_Ma_129 (q_37) rfl d_Ma_enter_73 ?_
  refine j_iconst (v := (-1)) B d_Ma_enter_76 (by decide) ?_
  exact j_iret B hr hlk d_Ma_enter_77 (rfl) (rfl)
set_option maxRecDepth 100000 in
theorem ok_Ma_leave {l : Launch} {D : va_G} {aC : Nat → ClassId} {ad : Nat → Nat} (x : tm_M) {d : Nat} (hd : x.1 (5, 0, 0) 4 = nI (d + 1)) (hd8 : d < 8) :
    OkX l y_Ma_leave b_Ma_leave 1 (some .int) (rom 0 0) D aC ad [.ref (ad 34)] x (some (.int (if 0 < d then -1 else 0))) (sI x (5, 0, 0) 4 (nI d)) := by
  refine ok_start (by decide) (Nat.le_of_ble_eq_true rfl) rfl ?_
  intro p e s m args below meth c B hr hlk hml
  have B : Cx p s m c args b_Ma_leave R_Ma D aC (rg 111 ad) 111 ad := B
  refine j_aloadn B d_Ma_leave_0 rfl ?_
  refine j_geti B fl_Ma_42 (q_34) rfl d_Ma_leave_1 ?_
  refine j_topi (nI (d + 1)) hd ?_
  refine j_if_le (tgt := 17) B d_Ma_leave_4 (by decide) (fun h4 => (show False from absurd (nIle (t := 0) h4 (by omega) (by decide)) (by omega)).elim) (fun h4 => ?_)
  refine j_aloadn B d_Ma_leave_7 rfl ?_
  refine j_dup B d_Ma_leave_8 rfl ?_
  refine j_geti B fl_Ma_42 (q_34) rfl d_Ma_leave_9 ?_
  refine j_iconst (v := 1) B d_Ma_leave_12 (by decide) ?_
  refine j_isub B d_Ma_leave_13 ?_
  refine j_topi (nI d) (by rw [hd, nI_pred]) ?_
  refine j_puti B kX_inj fs_Ma_42 (q_34) rfl d_Ma_leave_14 ?_
  refine j_aloadn B d_Ma_leave_17 rfl ?_
  refine j_geti B fl_Ma_42 (q_34) rfl d_Ma_leave_18 ?_
  refine j_topi (nI d) rI ?_
  refine j_if_le (tgt := 28) B d_Ma_leave_21 (by decide) (fun h21 => ?_) (fun h21 => ?_)
  · -- yes
    refine j_iconst (v := 0) B d_Ma_leave_28 (by decide) ?_
    exact j_iret B hr hlk d_Ma_leave_29 (by first | exact sv (if_neg (fun z => absurd (nIle (t := 0) h21 (by omega) (by decide)) (by omega))) | exact sv (if_pos (Nat.pos_of_ne_zero (fun z => h21 (by rw [z]; decide))))) (rfl)
  · -- no
    refine j_iconst (v := (-1)) B d_Ma_leave_24 (by decide) ?_
    refine j_goto (tgt := 29) B d_Ma_leave_25 (by decide) ?_
    exact j_iret B hr hlk d_Ma_leave_29 (by first | exact sv (if_neg (fun z => absurd (nIle (t := 0) h21 (by omega) (by decide)) (by omega))) | exact sv (if_pos (Nat.pos_of_ne_zero (fun z => h21 (by rw [z]; decide))))) (rfl)
set_option maxRecDepth 100000 in
theorem ok_Ma_headOf {l : Launch} {D : va_G} {aC : Nat → ClassId} {ad : Nat → Nat} {i : Nat} (hi : i < 8) (x : tm_M) {g q : Nat} (hg : g < 6) (hfn : x.1 (8, i, 0) 0 = nI g) (hq : x.1 (6, g, 0) 10 = nI q) (h20 : q ≤ 20) :
    OkX l y_Ma_headOf b_Ma_headOf 2 (some .int) (rom 1 22) D aC ad [.ref (ad 34), .ref (ad (frO i))] x (some (.int (hdF (x.2 (6, g, 6)) (x.2 (6, g, 7)) (x.2 (6, g, 8)) (x.1 (8, i, 0) 1 - 1) q 0))) x := by
  refine ok_start (by decide) (Nat.le_of_ble_eq_true rfl) rfl ?_
  intro p e s m args below meth c B hr hlk hml
  have B : Cx p s m c args b_Ma_headOf R_Ma D aC (rg 111 ad) 111 ad := B
  refine j_aloadn B d_Ma_headOf_0 rfl ?_
  refine j_getr B fl_Ma_27 (q_34) rfl d_Ma_headOf_1 ?_
  refine j_aloadn B d_Ma_headOf_4 rfl ?_
  refine j_geti B fl_Ma_61 (q_fr hi) rfl d_Ma_headOf_5 ?_
  refine j_topi (nI g) hfn ?_
  refine j_aald B ⟨(q_39).1, (q_39).2.1⟩ rfl (⟨rfl, hg, by decide⟩) d_Ma_headOf_8 ?_
  refine j_aloadn B d_Ma_headOf_9 rfl ?_
  refine j_cVt B (ok_Fr_currentPlace hi x) cv_Fr_currentPlace ml_Ma_153 (q_fr hi) rfl rfl ⟨rfl, rfl, by decide, by decide⟩ ⟨Nat.zero_le _, Nat.zero_le _⟩ hml (Nat.le_of_ble_eq_true rfl) rfl d_Ma_headOf_10 ?_
  refine j_cVt B (ok_Pr_headAround hg x (x.1 (8, i, 0) 1 - 1) hq h20) cv_Pr_headAround ml_Ma_156 (q_pr hg) rfl rfl ⟨rfl, rfl, by decide, by decide⟩ ⟨Nat.zero_le _, Nat.zero_le _⟩ hml (Nat.le_of_ble_eq_true rfl) rfl d_Ma_headOf_13 ?_
  exact j_iret B hr hlk d_Ma_headOf_16 (rfl) (rfl)
set_option maxRecDepth 100000 in
theorem ok_Ma_isHandler {l : Launch} {D : va_G} {aC : Nat → ClassId} {ad : Nat → Nat} (x : tm_M) (k : Int32) :
    OkX l y_Ma_isHandler b_Ma_isHandler 2 (some .boolean) (rom 0 0) D aC ad [.ref (ad 34), .int k] x (some (.int (bI (x.1 (5, 0, 0) 4 = x.1 (5, 0, 0) 6 ∧ k = x.1 (5, 0, 0) 7)))) x := by
  refine ok_start (by decide) (Nat.le_of_ble_eq_true rfl) rfl ?_
  intro p e s m args below meth c B hr hlk hml
  have B : Cx p s m c args b_Ma_isHandler R_Ma D aC (rg 111 ad) 111 ad := B
  refine j_aloadn B d_Ma_isHandler_0 rfl ?_
  refine j_geti B fl_Ma_42 (q_34) rfl d_Ma_isHandler_1 ?_
  refine j_aloadn B d_Ma_isHandler_4 rfl ?_
  refine j_geti B fl_Ma_163 (q_34) rfl d_Ma_isHandler_5 ?_
  refine j_icmp_ne (tgt := 23) B d_Ma_isHandler_8 (by decide) (fun h8 => ?_) (fun h8 => ?_)
  · -- yes
    refine j_iconst (v := 0) B d_Ma_isHandler_23 (by decide) ?_
    exact j_zret B hr hlk d_Ma_isHandler_24 (by first | exact Or.inl rfl | exact Or.inr rfl) (by first | exact sv (bI_f (fun h => h8 h.1)) | exact sv (bI_f (fun h => h16 h.2)) | exact sv (bI_t ⟨h8, h16⟩)) (rfl)
  · -- no
    refine j_iloadn B d_Ma_isHandler_11 rfl ?_
    refine j_aloadn B d_Ma_isHandler_12 rfl ?_
    refine j_geti B fl_Ma_166 (q_34) rfl d_Ma_isHandler_13 ?_
    refine j_icmp_ne (tgt := 23) B d_Ma_isHandler_16 (by decide) (fun h16 => ?_) (fun h16 => ?_)
    · -- yes
      refine j_iconst (v := 0) B d_Ma_isHandler_23 (by decide) ?_
      exact j_zret B hr hlk d_Ma_isHandler_24 (by first | exact Or.inl rfl | exact Or.inr rfl) (by first | exact sv (bI_f (fun h => h8 h.1)) | exact sv (bI_f (fun h => h16 h.2)) | exact sv (bI_t ⟨h8, h16⟩)) (rfl)
    · -- no
      refine j_iconst (v := 1) B d_Ma_isHandler_19 (by decide) ?_
      refine j_goto (tgt := 24) B d_Ma_isHandler_20 (by decide) ?_
      exact j_zret B hr hlk d_Ma_isHandler_24 (by first | exact Or.inl rfl | exact Or.inr rfl) (by first | exact sv (bI_f (fun h => h8 h.1)) | exact sv (bI_f (fun h => h16 h.2)) | exact sv (bI_t ⟨h8, h16⟩)) (rfl)
end
section
theorem sI_self {x : tm_M} {K : tm_K} {j : Nat} {v : Int32} (h : x.1 K j = v) : sI x K j v = x := by
  unfold sI
  refine Prod.ext ?_ rfl
  funext K'
  by_cases hK : K' = K
  · subst hK
    simp only [if_true]
    funext j'
    by_cases hj : j' = j
    · subst hj; simp [upd, h]
    · simp [upd, hj]
  · simp [hK]
theorem sI_sI {x : tm_M} {K : tm_K} {j : Nat} {v v' : Int32} : sI (sI x K j v) K j v' = sI x K j v' := by
  unfold sI
  refine Prod.ext ?_ rfl
  funext K'
  by_cases hK : K' = K
  · subst hK
    simp only [if_true]
    funext j'
    by_cases hj : j' = j
    · subst hj; simp [upd]
    · simp [upd, hj]
  · simp [hK]
/-- the first action at which unwinding lands -/
def lnF (c : Int32) (Fi Ne : Nat → Int32) (dep hd ha : Int32) : Nat → Int32 → Int32
  | 0, _ => -1
  | r + 1, k => if 0 ≤ k ∧ k < c then (if Fi k.toNatClampNeg = -2 ∨ (dep = hd ∧ k = ha) then k else lnF c Fi Ne dep hd ha r (Ne k.toNatClampNeg)) else -1
/-- the first action that catches the type u -/
def ctF (c : Int32) (Fi Ne : Nat → Int32) (tt : Int32) (P : Nat → Int32) (u : Int32) : Nat → Int32 → Int32
  | 0, _ => -1
  | r + 1, k => if 0 ≤ k ∧ k < c then (if Fi k.toNatClampNeg = -1 ∨ ¬ anF tt P (Fi k.toNatClampNeg) 8 u = 0 then k else ctF c Fi Ne tt P u r (Ne k.toNatClampNeg)) else -1
set_option maxRecDepth 100000 in
theorem ok_Ma_firstLanding {l : Launch} {D : va_G} {aC : Nat → ClassId} {ad : Nat → Nat} (x : tm_M) (v : Int32) {d g a : Nat} (hd : x.1 (5, 0, 0) 4 = nI d) (hd0 : 0 < d) (hd8 : d ≤ 8) (hg : g < 6) (hfn : x.1 (8, d - 1, 0) 0 = nI g) (ha : x.1 (6, g, 0) 6 = nI a) (h40 : a ≤ 40) :
    OkX l y_Ma_firstLanding b_Ma_firstLanding 5 (some .int) (rom 2 42) D aC ad [.ref (ad 34), .int v] x (some (.int (lnF (x.1 (6, g, 0) 6) (x.2 (6, g, 3)) (x.2 (6, g, 5)) (x.1 (5, 0, 0) 4) (x.1 (5, 0, 0) 6) (x.1 (5, 0, 0) 7) 40 v))) x := by
  refine ok_start (by decide) (Nat.le_of_ble_eq_true rfl) rfl ?_
  intro p e s m args below meth c B hr hlk hml
  have B : Cx p s m c args b_Ma_firstLanding R_Ma D aC (rg 111 ad) 111 ad := B
  have hd1 : d - 1 < 8 := by omega
  have loop : ∀ (r j : Nat) (k : Int32), j + r = 40 → lnF (x.1 (6, g, 0) 6) (x.2 (6, g, 3)) (x.2 (6, g, 5)) (x.1 (5, 0, 0) 4) (x.1 (5, 0, 0) 6) (x.1 (5, 0, 0) 7) r k = (lnF (x.1 (6, g, 0) 6) (x.2 (6, g, 3)) (x.2 (6, g, 5)) (x.1 (5, 0, 0) 4) (x.1 (5, 0, 0) 6) (x.1 (5, 0, 0) 7) 40 v) → J p l e (rom 2 42) s m args below meth c D (rg 111 ad) 0 0 (MQ below (Qk D aC 111 ad (some (.int (lnF (x.1 (6, g, 0) 6) (x.2 (6, g, 3)) (x.2 (6, g, 5)) (x.1 (5, 0, 0) 4) (x.1 (5, 0, 0) 6) (x.1 (5, 0, 0) 7) 40 v))) (wX ad aC x)) args s 0 0 (rg 111 ad)) 111 ad (wX ad aC x) 5 18 [(4, .int (nI j)), (3, .int k), (2, .ref (ad (prO g))), (0, .ref (ad 34))] [] := by
    intro r
    induction r with
    | zero =>
      intro j k hj hR
      refine j_iload B d_Ma_firstLanding_18 rfl ?_
      refine j_bipush (v := 40) B d_Ma_firstLanding_20 (by decide) ?_
      refine j_icmp_ge (tgt := 65) B d_Ma_firstLanding_22 (by decide) (fun h22 => ?_) (fun h22 => (show False from h22 (nI_le (a := 40) (by omega) (by omega))).elim)
      refine j_iconst (v := (-1)) B d_Ma_firstLanding_65 (by decide) ?_
      exact j_iret B hr hlk d_Ma_firstLanding_66 (sv hR.symm) (rfl)
    | succ r ih =>
      intro j k hj hR
      refine j_iload B d_Ma_firstLanding_18 rfl ?_
      refine j_bipush (v := 40) B d_Ma_firstLanding_20 (by decide) ?_
      refine j_icmp_ge (tgt := 65) B d_Ma_firstLanding_22 (by decide) (fun h22 => (show False from absurd (nIle (c := 40) h22 (by decide) (by omega)) (by omega)).elim) (fun h22 => ?_)
      refine j_aloadn B d_Ma_firstLanding_25 rfl ?_
      refine j_iloadn B d_Ma_firstLanding_26 rfl ?_
      refine j_cVt B (ok_Pr_hasAction hg x k) cv_Pr_hasAction ml_Ma_169 (q_pr hg) rfl rfl ⟨rfl, rfl, by decide, by decide⟩ ⟨Nat.zero_le _, Nat.zero_le _⟩ hml (Nat.le_of_ble_eq_true rfl) rfl d_Ma_firstLanding_27 ?_
      refine j_if_eq (tgt := 65) B d_Ma_firstLanding_30 (by decide) (fun h30 => ?_) (fun h30 => ?_)
      · -- yes
        refine j_iconst (v := (-1)) B d_Ma_firstLanding_65 (by decide) ?_
        exact j_iret B hr hlk d_Ma_firstLanding_66 (sv (by rw [← hR]; exact if_neg (bI_e h30))) (rfl)
      · -- no
        refine j_aloadn B d_Ma_firstLanding_33 rfl ?_
        refine j_iloadn B d_Ma_firstLanding_34 rfl ?_
        refine j_cVt B (ok_Pr_filterOf hg x k ha h40) cv_Pr_filterOf ml_Ma_172 (q_pr hg) rfl rfl ⟨rfl, rfl, by decide, by decide⟩ ⟨Nat.zero_le _, Nat.zero_le _⟩ hml (Nat.le_of_ble_eq_true rfl) rfl d_Ma_firstLanding_35 ?_
        refine j_topi (x.2 (6, g, 3) k.toNatClampNeg) (if_pos (bI_ne h30)) ?_
        refine j_bipush (v := (-2)) B d_Ma_firstLanding_38 (by decide) ?_
        refine j_icmp_eq (tgt := 51) B d_Ma_firstLanding_40 (by decide) (fun h40_ => ?_) (fun h40_ => ?_)
        · -- yes
          refine j_iloadn B d_Ma_firstLanding_51 rfl ?_
          exact j_iret B hr hlk d_Ma_firstLanding_52 (sv (by rw [← hR]; refine (if_pos (bI_ne h30)).trans ?_; first | exact if_pos (Or.inl h40_) | exact if_pos (Or.inr (bI_ne h48)))) (rfl)
        · -- no
          refine j_aloadn B d_Ma_firstLanding_43 rfl ?_
          refine j_iloadn B d_Ma_firstLanding_44 rfl ?_
          refine j_cVt B (ok_Ma_isHandler x k) cv_Ma_isHandler ml_Ma_185 (q_34) rfl rfl ⟨rfl, rfl, by decide, by decide⟩ ⟨Nat.zero_le _, Nat.zero_le _⟩ hml (Nat.le_of_ble_eq_true rfl) rfl d_Ma_firstLanding_45 ?_
          refine j_if_eq (tgt := 53) B d_Ma_firstLanding_48 (by decide) (fun h48 => ?_) (fun h48 => ?_)
          · -- yes
            refine j_aloadn B d_Ma_firstLanding_53 rfl ?_
            refine j_iloadn B d_Ma_firstLanding_54 rfl ?_
            refine j_cVt B (ok_Pr_nextOf hg x k ha h40) cv_Pr_nextOf ml_Ma_96 (q_pr hg) rfl rfl ⟨rfl, rfl, by decide, by decide⟩ ⟨Nat.zero_le _, Nat.zero_le _⟩ hml (Nat.le_of_ble_eq_true rfl) rfl d_Ma_firstLanding_55 ?_
            refine j_topi (x.2 (6, g, 5) k.toNatClampNeg) (if_pos (bI_ne h30)) ?_
            refine j_istoren B d_Ma_firstLanding_58 (by decide) ?_
            refine j_iinc B d_Ma_firstLanding_59 rfl (by decide) (nI_1 j) ?_
            refine j_goto (tgt := 18) B d_Ma_firstLanding_62 (by decide) ?_
            refine j_loc [(4, .int (nI (j + 1))), (3, .int (x.2 (6, g, 5) k.toNatClampNeg)), (2, .ref (ad (prO g))), (0, .ref (ad 34))] ⟨rfl, rfl, rfl, rfl, trivial⟩ ?_
            exact ih (j + 1) _ (by omega) (by rw [← hR]; exact ((if_pos (bI_ne h30)).trans (if_neg (fun z => z.elim h40_ (bI_e h48)))).symm)
          · -- no
            refine j_iloadn B d_Ma_firstLanding_51 rfl ?_
            exact j_iret B hr hlk d_Ma_firstLanding_52 (sv (by rw [← hR]; refine (if_pos (bI_ne h30)).trans ?_; first | exact if_pos (Or.inl h40_) | exact if_pos (Or.inr (bI_ne h48)))) (rfl)
  refine j_aloadn B d_Ma_firstLanding_0 rfl ?_
  refine j_getr B fl_Ma_27 (q_34) rfl d_Ma_firstLanding_1 ?_
  refine j_aloadn B d_Ma_firstLanding_4 rfl ?_
  refine j_cVt B (ok_Ma_top x hd hd0 hd8) cv_Ma_top ml_Ma_53 (q_34) rfl rfl ⟨rfl, rfl, by decide, by decide⟩ ⟨Nat.zero_le _, Nat.zero_le _⟩ hml (Nat.le_of_ble_eq_true rfl) rfl d_Ma_firstLanding_5 ?_
  refine j_geti B fl_Ma_61 (q_fr hd1) rfl d_Ma_firstLanding_8 ?_
  refine j_topi (nI g) hfn ?_
  refine j_aald B ⟨(q_39).1, (q_39).2.1⟩ rfl (⟨rfl, hg, by decide⟩) d_Ma_firstLanding_11 ?_
  refine j_astoren B d_Ma_firstLanding_12 (by decide) ?_
  refine j_iloadn B d_Ma_firstLanding_13 rfl ?_
  refine j_istoren B d_Ma_firstLanding_14 (by decide) ?_
  refine j_iconst (v := 0) B d_Ma_firstLanding_15 (by decide) ?_
  refine j_istore B d_Ma_firstLanding_16 (by decide) ?_
  refine j_loc [(4, .int (nI 0)), (3, .int v), (2, .ref (ad (prO g))), (0, .ref (ad 34))] ⟨rfl, rfl, rfl, rfl, trivial⟩ ?_
  exact loop 40 0 v (by omega) rfl
set_option maxRecDepth 100000 in
theorem ok_Ma_firstCatching {l : Launch} {D : va_G} {aC : Nat → ClassId} {ad : Nat → Nat} {i : Nat} (hi : i < 8) (x : tm_M) (v u : Int32) {g a t : Nat} (hg : g < 6) (hfn : x.1 (8, i, 0) 0 = nI g) (ha : x.1 (6, g, 0) 6 = nI a) (h40 : a ≤ 40) (ht : x.1 (5, 0, 1) 1 = nI t) (h8 : t ≤ 8) :
    OkX l y_Ma_firstCatching b_Ma_firstCatching 8 (some .int) (rom 2 45) D aC ad [.ref (ad 34), .ref (ad (frO i)), .int v, .int u] x (some (.int (ctF (x.1 (6, g, 0) 6) (x.2 (6, g, 3)) (x.2 (6, g, 5)) (x.1 (5, 0, 1) 1) (x.2 (5, 0, 2)) u 40 v))) x := by
  refine ok_start (by decide) (Nat.le_of_ble_eq_true rfl) rfl ?_
  intro p e s m args below meth c B hr hlk hml
  have B : Cx p s m c args b_Ma_firstCatching R_Ma D aC (rg 111 ad) 111 ad := B
  have loop : ∀ (r j : Nat) (k : Int32), j + r = 40 → ctF (x.1 (6, g, 0) 6) (x.2 (6, g, 3)) (x.2 (6, g, 5)) (x.1 (5, 0, 1) 1) (x.2 (5, 0, 2)) u r k = (ctF (x.1 (6, g, 0) 6) (x.2 (6, g, 3)) (x.2 (6, g, 5)) (x.1 (5, 0, 1) 1) (x.2 (5, 0, 2)) u 40 v) → J p l e (rom 2 45) s m args below meth c D (rg 111 ad) 0 0 (MQ below (Qk D aC 111 ad (some (.int (ctF (x.1 (6, g, 0) 6) (x.2 (6, g, 3)) (x.2 (6, g, 5)) (x.1 (5, 0, 1) 1) (x.2 (5, 0, 2)) u 40 v))) (wX ad aC x)) args s 0 0 (rg 111 ad)) 111 ad (wX ad aC x) 8 17 [(6, .int (nI j)), (5, .int k), (4, .ref (ad (prO g))), (0, .ref (ad 34)), (3, .int u)] [] := by
    intro r
    induction r with
    | zero =>
      intro j k hj hR
      refine j_iload B d_Ma_firstCatching_17 rfl ?_
      refine j_bipush (v := 40) B d_Ma_firstCatching_19 (by decide) ?_
      refine j_icmp_ge (tgt := 80) B d_Ma_firstCatching_21 (by decide) (fun h21 => ?_) (fun h21 => (show False from h21 (nI_le (a := 40) (by omega) (by omega))).elim)
      refine j_iconst (v := (-1)) B d_Ma_firstCatching_80 (by decide) ?_
      exact j_iret B hr hlk d_Ma_firstCatching_81 (sv hR.symm) (rfl)
    | succ r ih =>
      intro j k hj hR
      refine j_iload B d_Ma_firstCatching_17 rfl ?_
      refine j_bipush (v := 40) B d_Ma_firstCatching_19 (by decide) ?_
      refine j_icmp_ge (tgt := 80) B d_Ma_firstCatching_21 (by decide) (fun h21 => (show False from absurd (nIle (c := 40) h21 (by decide) (by omega)) (by omega)).elim) (fun h21 => ?_)
      refine j_aload B d_Ma_firstCatching_24 rfl ?_
      refine j_iload B d_Ma_firstCatching_26 rfl ?_
      refine j_cVt B (ok_Pr_hasAction hg x k) cv_Pr_hasAction ml_Ma_169 (q_pr hg) rfl rfl ⟨rfl, rfl, by decide, by decide⟩ ⟨Nat.zero_le _, Nat.zero_le _⟩ hml (Nat.le_of_ble_eq_true rfl) rfl d_Ma_firstCatching_28 ?_
      refine j_if_eq (tgt := 80) B d_Ma_firstCatching_31 (by decide) (fun h31 => ?_) (fun h31 => ?_)
      · -- yes
        refine j_iconst (v := (-1)) B d_Ma_firstCatching_80 (by decide) ?_
        exact j_iret B hr hlk d_Ma_firstCatching_81 (sv (by rw [← hR]; exact if_neg (bI_e h31))) (rfl)
      · -- no
        refine j_aload B d_Ma_firstCatching_34 rfl ?_
        refine j_iload B d_Ma_firstCatching_36 rfl ?_
        refine j_cVt B (ok_Pr_filterOf hg x k ha h40) cv_Pr_filterOf ml_Ma_172 (q_pr hg) rfl rfl ⟨rfl, rfl, by decide, by decide⟩ ⟨Nat.zero_le _, Nat.zero_le _⟩ hml (Nat.le_of_ble_eq_true rfl) rfl d_Ma_firstCatching_38 ?_
        refine j_topi (x.2 (6, g, 3) k.toNatClampNeg) (if_pos (bI_ne h31)) ?_
        refine j_istore B d_Ma_firstCatching_41 (by decide) ?_
        refine j_iload B d_Ma_firstCatching_43 rfl ?_
        refine j_iconst (v := (-1)) B d_Ma_firstCatching_45 (by decide) ?_
        refine j_icmp_eq (tgt := 62) B d_Ma_firstCatching_46 (by decide) (fun h46 => ?_) (fun h46 => ?_)
        · -- yes
          refine j_iload B d_Ma_firstCatching_62 rfl ?_
          exact j_iret B hr hlk d_Ma_firstCatching_64 (sv (by rw [← hR]; refine (if_pos (bI_ne h31)).trans ?_; first | exact if_pos (Or.inl h46) | exact if_pos (Or.inr h59))) (rfl)
        · -- no
          refine j_aloadn B d_Ma_firstCatching_49 rfl ?_
          refine j_getr B fl_Ma_12 (q_34) rfl d_Ma_firstCatching_50 ?_
          refine j_iloadn B d_Ma_firstCatching_53 rfl ?_
          refine j_iload B d_Ma_firstCatching_54 rfl ?_
          refine j_cVt B (ok_Ty_isAnother x u (x.2 (6, g, 3) k.toNatClampNeg) ht h8) cv_Ty_isAnother ml_Ma_175 (q_35) rfl rfl ⟨rfl, rfl, by decide, by decide⟩ ⟨Nat.zero_le _, Nat.zero_le _⟩ hml (Nat.le_of_ble_eq_true rfl) rfl d_Ma_firstCatching_56 ?_
          refine j_if_eq (tgt := 65) B d_Ma_firstCatching_59 (by decide) (fun h59 => ?_) (fun h59 => ?_)
          · -- yes
            refine j_aload B d_Ma_firstCatching_65 rfl ?_
            refine j_iload B d_Ma_firstCatching_67 rfl ?_
            refine j_cVt B (ok_Pr_nextOf hg x k ha h40) cv_Pr_nextOf ml_Ma_96 (q_pr hg) rfl rfl ⟨rfl, rfl, by decide, by decide⟩ ⟨Nat.zero_le _, Nat.zero_le _⟩ hml (Nat.le_of_ble_eq_true rfl) rfl d_Ma_firstCatching_69 ?_
            refine j_topi (x.2 (6, g, 5) k.toNatClampNeg) (if_pos (bI_ne h31)) ?_
            refine j_istore B d_Ma_firstCatching_72 (by decide) ?_
            refine j_iinc B d_Ma_firstCatching_74 rfl (by decide) (nI_1 j) ?_
            refine j_goto (tgt := 17) B d_Ma_firstCatching_77 (by decide) ?_
            refine j_loc [(6, .int (nI (j + 1))), (5, .int (x.2 (6, g, 5) k.toNatClampNeg)), (4, .ref (ad (prO g))), (0, .ref (ad 34)), (3, .int u)] ⟨rfl, rfl, rfl, rfl, rfl, trivial⟩ ?_
            exact ih (j + 1) _ (by omega) (by rw [← hR]; exact ((if_pos (bI_ne h31)).trans (if_neg (fun z => z.elim h46 (fun q => q h59)))).symm)
          · -- no
            refine j_iload B d_Ma_firstCatching_62 rfl ?_
            exact j_iret B hr hlk d_Ma_firstCatching_64 (sv (by rw [← hR]; refine (if_pos (bI_ne h31)).trans ?_; first | exact if_pos (Or.inl h46) | exact if_pos (Or.inr h59))) (rfl)
  refine j_aloadn B d_Ma_firstCatching_0 rfl ?_
  refine j_getr B fl_Ma_27 (q_34) rfl d_Ma_firstCatching_1 ?_
  refine j_aloadn B d_Ma_firstCatching_4 rfl ?_
  refine j_geti B fl_Ma_61 (q_fr hi) rfl d_Ma_firstCatching_5 ?_
  refine j_topi (nI g) hfn ?_
  refine j_aald B ⟨(q_39).1, (q_39).2.1⟩ rfl (⟨rfl, hg, by decide⟩) d_Ma_firstCatching_8 ?_
  refine j_astore B d_Ma_firstCatching_9 (by decide) ?_
  refine j_iloadn B d_Ma_firstCatching_11 rfl ?_
  refine j_istore B d_Ma_firstCatching_12 (by decide) ?_
  refine j_iconst (v := 0) B d_Ma_firstCatching_14 (by decide) ?_
  refine j_istore B d_Ma_firstCatching_15 (by decide) ?_
  refine j_loc [(6, .int (nI 0)), (5, .int v), (4, .ref (ad (prO g))), (0, .ref (ad 34)), (3, .int u)] ⟨rfl, rfl, rfl, rfl, rfl, trivial⟩ ?_
  exact loop 40 0 v (by omega) rfl
set_option maxRecDepth 100000 in
theorem ok_Ma_land_h {l : Launch} {D : va_G} {aC : Nat → ClassId} {ad : Nat → Nat} (x : tm_M) {d g a b : Nat} (hd : x.1 (5, 0, 0) 4 = nI d) (hd0 : 0 < d) (hd8 : d ≤ 8) (hg : g < 6) (hfn : x.1 (8, d - 1, 0) 0 = nI g) (ha : x.1 (6, g, 0) 6 = nI a) (h40 : a ≤ 40) (hb : b < a) {t : Nat} (hct : x.1 (8, d - 1, 0) 3 = nI t) (h5 : t < 5) (hH : x.1 (5, 0, 0) 4 = x.1 (5, 0, 0) 6 ∧ nI b = x.1 (5, 0, 0) 7) :
    OkX l y_Ma_land b_Ma_land 3 (some .int) (rom 2 42) D aC ad [.ref (ad 34), .int (nI b)] x (some (.int (-1))) (sI (sI (sA x (8, d - 1, 1) t (x.1 (5, 0, 0) 5)) (8, d - 1, 0) 3 (nI (t + 1))) (8, d - 1, 0) 1 (x.2 (6, g, 4) b)) := by
  refine ok_start (by decide) (Nat.le_of_ble_eq_true rfl) rfl ?_
  intro p e s m args below meth c B hr hlk hml
  have B : Cx p s m c args b_Ma_land R_Ma D aC (rg 111 ad) 111 ad := B
  have hd1 : d - 1 < 8 := by omega
  refine j_aloadn B d_Ma_land_0 rfl ?_
  refine j_cVt B (ok_Ma_top x hd hd0 hd8) cv_Ma_top ml_Ma_53 (q_34) rfl rfl ⟨rfl, rfl, by decide, by decide⟩ ⟨Nat.zero_le _, Nat.zero_le _⟩ hml (Nat.le_of_ble_eq_true rfl) rfl d_Ma_land_1 ?_
  refine j_astoren B d_Ma_land_4 (by decide) ?_
  refine j_aloadn B d_Ma_land_5 rfl ?_
  refine j_iloadn B d_Ma_land_6 rfl ?_
  refine j_cVt B (ok_Ma_isHandler x (nI b)) cv_Ma_isHandler ml_Ma_185 (q_34) rfl rfl ⟨rfl, rfl, by decide, by decide⟩ ⟨Nat.zero_le _, Nat.zero_le _⟩ hml (Nat.le_of_ble_eq_true rfl) rfl d_Ma_land_7 ?_
  refine j_if_eq (tgt := 24) B d_Ma_land_10 (by decide) (fun h10 => (show False from bI_e h10 hH).elim) (fun h10 => ?_)
  refine j_aloadn B d_Ma_land_13 rfl ?_
  refine j_aloadn B d_Ma_land_14 rfl ?_
  refine j_geti B fl_Ma_147 (q_34) rfl d_Ma_land_15 ?_
  refine j_cVt B (ok_Fr_pushCaught hd1 x (x.1 (5, 0, 0) 5) hct h5) cv_Fr_pushCaught ml_Ma_188 (q_fr hd1) rfl rfl ⟨rfl, rfl, by decide, by decide⟩ ⟨Nat.zero_le _, Nat.zero_le _⟩ hml (Nat.le_of_ble_eq_true rfl) rfl d_Ma_land_18 ?_
  refine j_goto (tgt := 29) B d_Ma_land_21 (by decide) ?_
  refine j_aloadn B d_Ma_land_29 rfl ?_
  refine j_aloadn B d_Ma_land_30 rfl ?_
  refine j_aloadn B d_Ma_land_31 rfl ?_
  refine j_getr B fl_Ma_27 (q_34) rfl d_Ma_land_32 ?_
  refine j_aloadn B d_Ma_land_35 rfl ?_
  refine j_geti B fl_Ma_61 (q_fr hd1) rfl d_Ma_land_36 ?_
  refine j_topi (nI g) (by simp [sI, sA, upd, hfn]) ?_
  refine j_aald B ⟨(q_39).1, (q_39).2.1⟩ rfl (⟨rfl, hg, by decide⟩) d_Ma_land_39 ?_
  refine j_iloadn B d_Ma_land_40 rfl ?_
  refine j_cVt B (ok_Pr_landingOf hg (sI (sA x (8, d - 1, 1) t (x.1 (5, 0, 0) 5)) (8, d - 1, 0) 3 (nI (t + 1))) (nI b) (a := a) (by simp [sI, sA, upd, ha]) h40) cv_Pr_landingOf ml_Ma_191 (q_pr hg) rfl rfl ⟨rfl, rfl, by decide, by decide⟩ ⟨Nat.zero_le _, Nat.zero_le _⟩ hml (Nat.le_of_ble_eq_true rfl) rfl d_Ma_land_41 ?_
  refine j_topi (x.2 (6, g, 4) b) (by rw [if_pos ⟨nI_pos' (by omega), by rw [show (sI (sA x (8, d - 1, 1) t (x.1 (5, 0, 0) 5)) (8, d - 1, 0) 3 (nI (t + 1))).1 (6, g, 0) 6 = nI a from by simp [sI, sA, upd, ha]]; exact nI_lt hb (by omega)⟩, nI_clamp (by omega)]; simp [sI, sA]) ?_
  refine j_cVt B (ok_Ma_jump hd1 (sI (sA x (8, d - 1, 1) t (x.1 (5, 0, 0) 5)) (8, d - 1, 0) 3 (nI (t + 1))) (x.2 (6, g, 4) b)) cv_Ma_jump ml_Ma_83 (q_34) rfl rfl ⟨rfl, rfl, by decide, by decide⟩ ⟨Nat.zero_le _, Nat.zero_le _⟩ hml (Nat.le_of_ble_eq_true rfl) rfl d_Ma_land_44 ?_
  exact j_iret B hr hlk d_Ma_land_47 (rfl) (rfl)
set_option maxRecDepth 100000 in
theorem ok_Ma_land_c {l : Launch} {D : va_G} {aC : Nat → ClassId} {ad : Nat → Nat} (x : tm_M) {d g a b : Nat} (hd : x.1 (5, 0, 0) 4 = nI d) (hd0 : 0 < d) (hd8 : d ≤ 8) (hg : g < 6) (hfn : x.1 (8, d - 1, 0) 0 = nI g) (ha : x.1 (6, g, 0) 6 = nI a) (h40 : a ≤ 40) (hb : b < a) (hH : ¬ (x.1 (5, 0, 0) 4 = x.1 (5, 0, 0) 6 ∧ nI b = x.1 (5, 0, 0) 7)) :
    OkX l y_Ma_land b_Ma_land 3 (some .int) (rom 2 42) D aC ad [.ref (ad 34), .int (nI b)] x (some (.int (-1))) (sI (sI x (5, 0, 0) 8 (nI b)) (8, d - 1, 0) 1 (x.2 (6, g, 4) b)) := by
  refine ok_start (by decide) (Nat.le_of_ble_eq_true rfl) rfl ?_
  intro p e s m args below meth c B hr hlk hml
  have B : Cx p s m c args b_Ma_land R_Ma D aC (rg 111 ad) 111 ad := B
  have hd1 : d - 1 < 8 := by omega
  refine j_aloadn B d_Ma_land_0 rfl ?_
  refine j_cVt B (ok_Ma_top x hd hd0 hd8) cv_Ma_top ml_Ma_53 (q_34) rfl rfl ⟨rfl, rfl, by decide, by decide⟩ ⟨Nat.zero_le _, Nat.zero_le _⟩ hml (Nat.le_of_ble_eq_true rfl) rfl d_Ma_land_1 ?_
  refine j_astoren B d_Ma_land_4 (by decide) ?_
  refine j_aloadn B d_Ma_land_5 rfl ?_
  refine j_iloadn B d_Ma_land_6 rfl ?_
  refine j_cVt B (ok_Ma_isHandler x (nI b)) cv_Ma_isHandler ml_Ma_185 (q_34) rfl rfl ⟨rfl, rfl, by decide, by decide⟩ ⟨Nat.zero_le _, Nat.zero_le _⟩ hml (Nat.le_of_ble_eq_true rfl) rfl d_Ma_land_7 ?_
  refine j_if_eq (tgt := 24) B d_Ma_land_10 (by decide) (fun h10 => ?_) (fun h10 => (show False from hH (bI_ne h10)).elim)
  refine j_aloadn B d_Ma_land_24 rfl ?_
  refine j_iloadn B d_Ma_land_25 rfl ?_
  refine j_puti B kX_inj fs_Ma_93 (q_34) rfl d_Ma_land_26 ?_
  refine j_aloadn B d_Ma_land_29 rfl ?_
  refine j_aloadn B d_Ma_land_30 rfl ?_
  refine j_aloadn B d_Ma_land_31 rfl ?_
  refine j_getr B fl_Ma_27 (q_34) rfl d_Ma_land_32 ?_
  refine j_aloadn B d_Ma_land_35 rfl ?_
  refine j_geti B fl_Ma_61 (q_fr hd1) rfl d_Ma_land_36 ?_
  refine j_topi (nI g) (by simp [sI, sA, upd, hfn]) ?_
  refine j_aald B ⟨(q_39).1, (q_39).2.1⟩ rfl (⟨rfl, hg, by decide⟩) d_Ma_land_39 ?_
  refine j_iloadn B d_Ma_land_40 rfl ?_
  refine j_cVt B (ok_Pr_landingOf hg (sI x (5, 0, 0) 8 (nI b)) (nI b) (a := a) (by simp [sI, sA, upd, ha]) h40) cv_Pr_landingOf ml_Ma_191 (q_pr hg) rfl rfl ⟨rfl, rfl, by decide, by decide⟩ ⟨Nat.zero_le _, Nat.zero_le _⟩ hml (Nat.le_of_ble_eq_true rfl) rfl d_Ma_land_41 ?_
  refine j_topi (x.2 (6, g, 4) b) (by rw [if_pos ⟨nI_pos' (by omega), by rw [show (sI x (5, 0, 0) 8 (nI b)).1 (6, g, 0) 6 = nI a from by simp [sI, sA, upd, ha]]; exact nI_lt hb (by omega)⟩, nI_clamp (by omega)]; simp [sI, sA]) ?_
  refine j_cVt B (ok_Ma_jump hd1 (sI x (5, 0, 0) 8 (nI b)) (x.2 (6, g, 4) b)) cv_Ma_jump ml_Ma_83 (q_34) rfl rfl ⟨rfl, rfl, by decide, by decide⟩ ⟨Nat.zero_le _, Nat.zero_le _⟩ hml (Nat.le_of_ble_eq_true rfl) rfl d_Ma_land_44 ?_
  exact j_iret B hr hlk d_Ma_land_47 (rfl) (rfl)
/-- what the machine may rely on: the frames' functions, the programs' counts -/
def MW (x : tm_M) (d : Nat) : Prop := (∀ i, i < d → ∃ g, g < 6 ∧ x.1 (8, i, 0) 0 = nI g) ∧ ∀ g, g < 6 → (∃ a, a ≤ 40 ∧ x.1 (6, g, 0) 6 = nI a) ∧ (∃ q, q ≤ 20 ∧ x.1 (6, g, 0) 10 = nI q) ∧ ∃ n, n ≤ 81 ∧ x.1 (6, g, 0) 2 = nI n
/-- the function of frame i; the head at its place; the first landing, with d frames, from an action on -/
def fnM (x : tm_M) (i : Nat) : Nat := (x.1 (8, i, 0) 0).toNatClampNeg
def hdM (x : tm_M) (i : Nat) : Int32 := hdF (x.2 (6, fnM x i, 6)) (x.2 (6, fnM x i, 7)) (x.2 (6, fnM x i, 8)) (x.1 (8, i, 0) 1 - 1) (x.1 (6, fnM x i, 0) 10).toNatClampNeg 0
def lnM (x : tm_M) (d : Nat) (v : Int32) : Int32 := lnF (x.1 (6, fnM x (d - 1), 0) 6) (x.2 (6, fnM x (d - 1), 3)) (x.2 (6, fnM x (d - 1), 5)) (nI d) (x.1 (5, 0, 0) 6) (x.1 (5, 0, 0) 7) 40 v
def ctM (x : tm_M) (i : Nat) (u : Int32) : Int32 := ctF (x.1 (6, fnM x i, 0) 6) (x.2 (6, fnM x i, 3)) (x.2 (6, fnM x i, 5)) (x.1 (5, 0, 1) 1) (x.2 (5, 0, 2)) u 40 (hdM x i)
/-- frames are taken away until there is a landing -/
def uwM (x : tm_M) : Nat → Int32 → Nat × Int32
  | 0, k => (0, k)
  | d + 1, k => if k = -1 ∧ 0 < d then uwM x d (lnM x d (hdM x (d - 1))) else (d + 1, k)
/-- the frame, from the top on, that has a handler, and this -/
def fhM (x : tm_M) (u : Int32) : Nat → Nat × Int32
  | 0 => (0, -1)
  | d + 1 => if ctM x d u = -1 then fhM x u d else (d + 1, ctM x d u)
abbrev dpX (x : tm_M) (d : Nat) : tm_M := sI x (5, 0, 0) 4 (nI d)
theorem dp_fn {x : tm_M} {d i : Nat} : fnM (dpX x d) i = fnM x i := by simp [fnM, sI]
theorem dp_hd {x : tm_M} {d i : Nat} : hdM (dpX x d) i = hdM x i := by unfold hdM; rw [dp_fn]; simp [sI]
theorem dp_ln {x : tm_M} {d d' : Nat} {v : Int32} : lnM (dpX x d) d' v = lnM x d' v := by unfold lnM; rw [dp_fn]; simp [sI, upd]
theorem fn_of {x : tm_M} {i g : Nat} (hg : g < 6) (h : x.1 (8, i, 0) 0 = nI g) : fnM x i = g := by unfold fnM; rw [h, nI_clamp (by omega)]
theorem ok_hdM {l : Launch} {D : va_G} {aC : Nat → ClassId} {ad : Nat → Nat} {i : Nat} (hi : i < 8) (x : tm_M) {d : Nat} (hM : MW x d) (hid : i < d) : OkX l y_Ma_headOf b_Ma_headOf 2 (some .int) (rom 1 22) D aC ad [.ref (ad 34), .ref (ad (frO i))] x (some (.int (hdM x i))) x := by
  obtain ⟨g, hg, hfn⟩ := hM.1 i hid
  obtain ⟨⟨a, h40, ha⟩, ⟨q, h20, hq⟩, -⟩ := hM.2 g hg
  have e : hdM x i = hdF (x.2 (6, g, 6)) (x.2 (6, g, 7)) (x.2 (6, g, 8)) (x.1 (8, i, 0) 1 - 1) q 0 := by
    unfold hdM; rw [fn_of hg hfn, hq, nI_clamp (by omega)]
  rw [e]
  exact ok_Ma_headOf hi x hg hfn hq h20
theorem ok_lnM {l : Launch} {D : va_G} {aC : Nat → ClassId} {ad : Nat → Nat} (x : tm_M) (v : Int32) {d : Nat} (hd : x.1 (5, 0, 0) 4 = nI d) (hd0 : 0 < d) (hd8 : d ≤ 8) (hM : MW x d) : OkX l y_Ma_firstLanding b_Ma_firstLanding 5 (some .int) (rom 2 42) D aC ad [.ref (ad 34), .int v] x (some (.int (lnM x d v))) x := by
  obtain ⟨g, hg, hfn⟩ := hM.1 (d - 1) (by omega)
  obtain ⟨⟨a, h40, ha⟩, -, -⟩ := hM.2 g hg
  have e : lnM x d v = lnF (x.1 (6, g, 0) 6) (x.2 (6, g, 3)) (x.2 (6, g, 5)) (x.1 (5, 0, 0) 4) (x.1 (5, 0, 0) 6) (x.1 (5, 0, 0) 7) 40 v := by
    unfold lnM; rw [fn_of hg hfn, hd]
  rw [e]
  exact ok_Ma_firstLanding x v hd hd0 hd8 hg hfn ha h40
theorem ok_ctM {l : Launch} {D : va_G} {aC : Nat → ClassId} {ad : Nat → Nat} {i : Nat} (hi : i < 8) (x : tm_M) (u : Int32) {d t : Nat} (hM : MW x d) (hid : i < d) (ht : x.1 (5, 0, 1) 1 = nI t) (h8 : t ≤ 8) : OkX l y_Ma_firstCatching b_Ma_firstCatching 8 (some .int) (rom 2 45) D aC ad [.ref (ad 34), .ref (ad (frO i)), .int (hdM x i), .int u] x (some (.int (ctM x i u))) x := by
  obtain ⟨g, hg, hfn⟩ := hM.1 i hid
  obtain ⟨⟨a, h40, ha⟩, -, -⟩ := hM.2 g hg
  have e : ctM x i u = ctF (x.1 (6, g, 0) 6) (x.2 (6, g, 3)) (x.2 (6, g, 5)) (x.1 (5, 0, 1) 1) (x.2 (5, 0, 2)) u 40 (hdM x i) := by
    unfold ctM; rw [fn_of hg hfn]
  rw [e]
  exact ok_Ma_firstCatching hi x (hdM x i) u hg hfn ha h40 ht h8
theorem MW_dp {x : tm_M} {d d' : Nat} (h : MW x d) (hd : d' ≤ d) : MW (dpX x d') d' := by
  refine ⟨fun i hi => ?_, fun g hg => ?_⟩
  · obtain ⟨g, hg, hf⟩ := h.1 i (by omega)
    exact ⟨g, hg, by simp [sI, hf]⟩
  · obtain ⟨⟨a, h1, h2⟩, ⟨q, h3, h4⟩, nn, h5, h6⟩ := h.2 g hg
    exact ⟨⟨a, h1, by simp [sI, h2]⟩, ⟨q, h3, by simp [sI, h4]⟩, nn, h5, by simp [sI, h6]⟩
set_option maxRecDepth 100000 in
theorem ok_Ma_findHandler {l : Launch} {D : va_G} {aC : Nat → ClassId} {ad : Nat → Nat} (x : tm_M) (u : Int32) {d t : Nat} (hd : x.1 (5, 0, 0) 4 = nI d) (hd8 : d ≤ 8) (hM : MW x d) (ht : x.1 (5, 0, 1) 1 = nI t) (h8 : t ≤ 8) :
    OkX l y_Ma_findHandler b_Ma_findHandler 5 (some .boolean) (rom 3 72) D aC ad [.ref (ad 34), .int u] x (some (.int (if (fhM x u d).1 = 0 then 0 else 1))) (if (fhM x u d).1 = 0 then x else sI (sI x (5, 0, 0) 6 (nI (fhM x u d).1)) (5, 0, 0) 7 (fhM x u d).2) := by
  refine ok_start (by decide) (Nat.le_of_ble_eq_true rfl) rfl ?_
  intro p e s m args below meth c B hr hlk hml
  have B : Cx p s m c args b_Ma_findHandler R_Ma D aC (rg 111 ad) 111 ad := B
  have loop : ∀ (j : Nat), j ≤ d → fhM x u j = (fhM x u d) → J p l e (rom 3 72) s m args below meth c D (rg 111 ad) 0 0 (MQ below (Qk D aC 111 ad (some (.int (if (fhM x u d).1 = 0 then 0 else 1))) (wX ad aC (if (fhM x u d).1 = 0 then x else sI (sI x (5, 0, 0) 6 (nI (fhM x u d).1)) (5, 0, 0) 7 (fhM x u d).2))) args s 0 0 (rg 111 ad)) 111 ad (wX ad aC x) 5 5 [(2, .int (nI j)), (0, .ref (ad 34)), (1, .int u)] [] := by
    intro j
    induction j with
    | zero =>
      intro hjd hR
      refine j_iloadn B d_Ma_findHandler_5 rfl ?_
      refine j_if_le (tgt := 56) B d_Ma_findHandler_6 (by decide) (fun h6 => ?_) (fun h6 => (show False from h6 (by decide)).elim)
      refine j_iconst (v := 0) B d_Ma_findHandler_56 (by decide) ?_
      exact j_zret B hr hlk d_Ma_findHandler_57 (by first | exact Or.inl rfl | exact Or.inr rfl) (sv (by rw [← hR]; rfl)) (congrArg (tw ad aC sX kX) (by rw [← hR]; rfl))
    | succ j ih =>
      intro hjd hR
      have hj8 : j < 8 := by omega
      refine j_iloadn B d_Ma_findHandler_5 rfl ?_
      refine j_if_le (tgt := 56) B d_Ma_findHandler_6 (by decide) (fun h6 => (show False from absurd (nIle (t := 0) h6 (by omega) (by decide)) (by omega)).elim) (fun h6 => ?_)
      refine j_aloadn B d_Ma_findHandler_9 rfl ?_
      refine j_getr B fl_Ma_34 (q_34) rfl d_Ma_findHandler_10 ?_
      refine j_iloadn B d_Ma_findHandler_13 rfl ?_
      refine j_iconst (v := 1) B d_Ma_findHandler_14 (by decide) ?_
      refine j_isub B d_Ma_findHandler_15 ?_
      refine j_topi (nI j) (nI_pred j) ?_
      refine j_aald B ⟨(q_94).1, (q_94).2.1⟩ rfl (⟨rfl, hj8, by decide⟩) d_Ma_findHandler_16 ?_
      refine j_astoren B d_Ma_findHandler_17 (by decide) ?_
      refine j_aloadn B d_Ma_findHandler_18 rfl ?_
      refine j_aloadn B d_Ma_findHandler_19 rfl ?_
      refine j_aloadn B d_Ma_findHandler_20 rfl ?_
      refine j_aloadn B d_Ma_findHandler_21 rfl ?_
      refine j_cVt B (ok_hdM hj8 x hM (by omega)) cv_Ma_headOf ml_Ma_150 (q_34) rfl rfl ⟨rfl, rfl, by decide, by decide⟩ ⟨Nat.zero_le _, Nat.zero_le _⟩ hml (Nat.le_of_ble_eq_true rfl) rfl d_Ma_findHandler_22 ?_
      refine j_iloadn B d_Ma_findHandler_25 rfl ?_
      refine j_cVt B (ok_ctM hj8 x u hM (by omega) ht h8) cv_Ma_firstCatching ml_Ma_159 (q_34) rfl rfl ⟨rfl, rfl, by decide, by decide⟩ ⟨Nat.zero_le _, Nat.zero_le _⟩ hml (Nat.le_of_ble_eq_true rfl) rfl d_Ma_findHandler_26 ?_
      refine j_istore B d_Ma_findHandler_29 (by decide) ?_
      refine j_iload B d_Ma_findHandler_31 rfl ?_
      refine j_iconst (v := (-1)) B d_Ma_findHandler_33 (by decide) ?_
      refine j_icmp_eq (tgt := 50) B d_Ma_findHandler_34 (by decide) (fun h34 => ?_) (fun h34 => ?_)
      · -- yes
        refine j_iinc B d_Ma_findHandler_50 rfl (by decide) (pk_m1 j) ?_
        refine j_goto (tgt := 5) B d_Ma_findHandler_53 (by decide) ?_
        refine j_loc [(2, .int (nI j)), (0, .ref (ad 34)), (1, .int u)] ⟨rfl, rfl, rfl, trivial⟩ ?_
        exact ih (by omega) (by rw [← hR]; exact (if_pos h34).symm)
      · -- no
        refine j_aloadn B d_Ma_findHandler_37 rfl ?_
        refine j_iloadn B d_Ma_findHandler_38 rfl ?_
        refine j_puti B kX_inj fs_Ma_163 (q_34) rfl d_Ma_findHandler_39 ?_
        refine j_aloadn B d_Ma_findHandler_42 rfl ?_
        refine j_iload B d_Ma_findHandler_43 rfl ?_
        refine j_puti B kX_inj fs_Ma_166 (q_34) rfl d_Ma_findHandler_45 ?_
        refine j_iconst (v := 1) B d_Ma_findHandler_48 (by decide) ?_
        exact j_zret B hr hlk d_Ma_findHandler_49 (by first | exact Or.inl rfl | exact Or.inr rfl) (sv (by rw [← hR]; unfold fhM; rw [if_neg h34]; rfl)) (congrArg (tw ad aC sX kX) (by rw [← hR]; unfold fhM; rw [if_neg h34]; rfl))
  refine j_aloadn B d_Ma_findHandler_0 rfl ?_
  refine j_geti B fl_Ma_42 (q_34) rfl d_Ma_findHandler_1 ?_
  refine j_topi (nI d) hd ?_
  refine j_istoren B d_Ma_findHandler_4 (by decide) ?_
  refine j_loc [(2, .int (nI d)), (0, .ref (ad 34)), (1, .int u)] ⟨rfl, rfl, rfl, trivial⟩ ?_
  exact loop d (Nat.le_refl d) rfl
set_option maxRecDepth 100000 in
theorem ok_Ma_unwind {l : Launch} {D : va_G} {aC : Nat → ClassId} {ad : Nat → Nat} (x : tm_M) (v : Int32) {d d2 : Nat} {b : Int32} {x2 : tm_M} (hd : x.1 (5, 0, 0) 4 = nI d) (hd0 : 0 < d) (hd8 : d ≤ 8) (hM : MW x d) (hU : uwM x d (lnM x d v) = (d2, b)) (hL : OkX l y_Ma_land b_Ma_land 3 (some .int) (rom 2 42) D aC ad [.ref (ad 34), .int b] (dpX x d2) (some (.int (-1))) x2) :
    OkX l y_Ma_unwind b_Ma_unwind 3 (some .int) (rom 3 66) D aC ad [.ref (ad 34), .int v] x (some (.int (-1))) x2 := by
  refine ok_start (by decide) (Nat.le_of_ble_eq_true rfl) rfl ?_
  intro p e s m args below meth c B hr hlk hml
  have B : Cx p s m c args b_Ma_unwind R_Ma D aC (rg 111 ad) 111 ad := B
  have fin : ∀ (j : Nat) (k : Int32), (j, k) = (d2, b) → J p l e (rom 3 66) s m args below meth c D (rg 111 ad) 0 0 (MQ below (Qk D aC 111 ad (some (.int (-1))) (wX ad aC x2)) args s 0 0 (rg 111 ad)) 111 ad (wX ad aC (dpX x j)) 3 45 [(2, .int k), (0, .ref (ad 34))] [] := by
    intro j k hR
    cases hR
    refine j_aloadn B d_Ma_unwind_45 rfl ?_
    refine j_iloadn B d_Ma_unwind_46 rfl ?_
    refine j_cVt B (hL) cv_Ma_land ml_Ma_182 (q_34) rfl rfl ⟨rfl, rfl, by decide, by decide⟩ ⟨Nat.zero_le _, Nat.zero_le _⟩ hml (Nat.le_of_ble_eq_true rfl) rfl d_Ma_unwind_47 ?_
    exact j_iret B hr hlk d_Ma_unwind_50 (rfl) (rfl)
  have loop : ∀ (j : Nat) (k : Int32), 0 < j → j ≤ d → uwM x j k = (d2, b) → J p l e (rom 3 66) s m args below meth c D (rg 111 ad) 0 0 (MQ below (Qk D aC 111 ad (some (.int (-1))) (wX ad aC x2)) args s 0 0 (rg 111 ad)) 111 ad (wX ad aC (dpX x j)) 3 6 [(2, .int k), (0, .ref (ad 34))] [] := by
    intro j
    induction j with
    | zero => intro k h0; omega
    | succ j ih =>
      intro k h0 hjd hR
      refine j_iloadn B d_Ma_unwind_6 rfl ?_
      refine j_iconst (v := (-1)) B d_Ma_unwind_7 (by decide) ?_
      refine j_icmp_ne (tgt := 45) B d_Ma_unwind_8 (by decide) (fun h8 => ?_) (fun h8 => ?_)
      · -- yes
        refine j_loc [(2, .int k), (0, .ref (ad 34))] ⟨rfl, rfl, trivial⟩ ?_
        first | exact fin (j + 1) k (by rw [← hR]; exact (if_neg (fun z => h8 z.1)).symm) | exact fin (j + 1) k (by rw [← hR]; exact (if_neg (fun z => absurd (nIle (c := j + 1) (t := 1) h16 (by omega) (by decide)) (by omega))).symm)
      · -- no
        refine j_aloadn B d_Ma_unwind_11 rfl ?_
        refine j_geti B fl_Ma_42 (q_34) rfl d_Ma_unwind_12 ?_
        refine j_topi (nI (j + 1)) rI ?_
        refine j_iconst (v := 1) B d_Ma_unwind_15 (by decide) ?_
        refine j_icmp_le (tgt := 45) B d_Ma_unwind_16 (by decide) (fun h16 => ?_) (fun h16 => ?_)
        · -- yes
          refine j_loc [(2, .int k), (0, .ref (ad 34))] ⟨rfl, rfl, trivial⟩ ?_
          first | exact fin (j + 1) k (by rw [← hR]; exact (if_neg (fun z => h8 z.1)).symm) | exact fin (j + 1) k (by rw [← hR]; exact (if_neg (fun z => absurd (nIle (c := j + 1) (t := 1) h16 (by omega) (by decide)) (by omega))).symm)
        · -- no
          have hj0 : 0 < j := by have := nInle (c := j + 1) (t := 1) h16 (by omega) (by decide); omega
          have hj1 : j - 1 < 8 := by omega
          refine j_aloadn B d_Ma_unwind_19 rfl ?_
          refine j_dup B d_Ma_unwind_20 rfl ?_
          refine j_geti B fl_Ma_42 (q_34) rfl d_Ma_unwind_21 ?_
          refine j_iconst (v := 1) B d_Ma_unwind_24 (by decide) ?_
          refine j_isub B d_Ma_unwind_25 ?_
          refine j_topi (nI j) (by rw [rI, nI_pred]) ?_
          refine j_puti B kX_inj fs_Ma_42 (q_34) rfl d_Ma_unwind_26 ?_
          refine j_x (dpX x j) sI_sI ?_
          refine j_aloadn B d_Ma_unwind_29 rfl ?_
          refine j_aloadn B d_Ma_unwind_30 rfl ?_
          refine j_aloadn B d_Ma_unwind_31 rfl ?_
          refine j_cVt B (ok_Ma_top (dpX x j) (d := j) rI (by omega) (by omega)) cv_Ma_top ml_Ma_53 (q_34) rfl rfl ⟨rfl, rfl, by decide, by decide⟩ ⟨Nat.zero_le _, Nat.zero_le _⟩ hml (Nat.le_of_ble_eq_true rfl) rfl d_Ma_unwind_32 ?_
          refine j_cVt B (ok_hdM hj1 (dpX x j) (MW_dp hM (by omega)) (by omega)) cv_Ma_headOf ml_Ma_150 (q_34) rfl rfl ⟨rfl, rfl, by decide, by decide⟩ ⟨Nat.zero_le _, Nat.zero_le _⟩ hml (Nat.le_of_ble_eq_true rfl) rfl d_Ma_unwind_35 ?_
          refine j_topi (hdM x (j - 1)) dp_hd ?_
          refine j_cVt B (ok_lnM (dpX x j) (hdM x (j - 1)) (d := j) rI (by omega) (by omega) (MW_dp hM (by omega))) cv_Ma_firstLanding ml_Ma_179 (q_34) rfl rfl ⟨rfl, rfl, by decide, by decide⟩ ⟨Nat.zero_le _, Nat.zero_le _⟩ hml (Nat.le_of_ble_eq_true rfl) rfl d_Ma_unwind_38 ?_
          refine j_topi (lnM x j (hdM x (j - 1))) dp_ln ?_
          refine j_istoren B d_Ma_unwind_41 (by decide) ?_
          refine j_goto (tgt := 6) B d_Ma_unwind_42 (by decide) ?_
          refine j_loc [(2, .int (lnM x j (hdM x (j - 1)))), (0, .ref (ad 34))] ⟨rfl, rfl, trivial⟩ ?_
          exact ih _ hj0 (by omega) (by rw [← hR]; exact (if_pos ⟨h8, hj0⟩).symm)
  refine j_aloadn B d_Ma_unwind_0 rfl ?_
  refine j_iloadn B d_Ma_unwind_1 rfl ?_
  refine j_cVt B (ok_lnM x v hd hd0 hd8 hM) cv_Ma_firstLanding ml_Ma_179 (q_34) rfl rfl ⟨rfl, rfl, by decide, by decide⟩ ⟨Nat.zero_le _, Nat.zero_le _⟩ hml (Nat.le_of_ble_eq_true rfl) rfl d_Ma_unwind_2 ?_
  refine j_istoren B d_Ma_unwind_5 (by decide) ?_
  refine j_x (dpX x d) (sI_self hd).symm ?_
  refine j_loc [(2, .int (lnM x d v)), (0, .ref (ad 34))] ⟨rfl, rfl, trivial⟩ ?_
  exact loop d _ hd0 (Nat.le_refl d) hU
end
section
set_option maxRecDepth 100000 in
theorem ok_Ma_raise_n {l : Launch} {D : va_G} {aC : Nat → ClassId} {ad : Nat → Nat} (x : tm_M) (u : Int32) {d t : Nat} (hd : x.1 (5, 0, 0) 4 = nI d) (hd0 : 0 < d) (hd8 : d ≤ 8) (hM : MW x d) (ht : x.1 (5, 0, 1) 1 = nI t) (h8 : t ≤ 8) (hF : (fhM x u d).1 = 0) :
    OkX l y_Ma_raise b_Ma_raise 2 (some .int) (rom 4 96) D aC ad [.ref (ad 34), .int u] x (some (.int 1)) (sI x (5, 0, 3) 6 u) := by
  refine ok_start (by decide) (Nat.le_of_ble_eq_true rfl) rfl ?_
  intro p e s m args below meth c B hr hlk hml
  have B : Cx p s m c args b_Ma_raise R_Ma D aC (rg 111 ad) 111 ad := B
  refine j_aloadn B d_Ma_raise_0 rfl ?_
  refine j_iloadn B d_Ma_raise_1 rfl ?_
  refine j_cVt B (ok_Ma_findHandler x u hd hd8 hM ht h8) cv_Ma_findHandler ml_Ma_138 (q_34) rfl rfl ⟨rfl, rfl, by decide, by decide⟩ ⟨Nat.zero_le _, Nat.zero_le _⟩ hml (Nat.le_of_ble_eq_true rfl) rfl d_Ma_raise_2 ?_
  refine j_if_ne (tgt := 18) B d_Ma_raise_5 (by decide) (fun h5 => (show False from h5 (if_pos hF)).elim) (fun h5 => ?_)
  refine j_x x (if_pos hF) ?_
  refine j_aloadn B d_Ma_raise_8 rfl ?_
  refine j_getr B fl_Ma_21 (q_34) rfl d_Ma_raise_9 ?_
  refine j_iloadn B d_Ma_raise_12 rfl ?_
  refine j_puti B kX_inj fs_Ma_141 (q_37) rfl d_Ma_raise_13 ?_
  refine j_iconst (v := 1) B d_Ma_raise_16 (by decide) ?_
  exact j_iret B hr hlk d_Ma_raise_17 (rfl) (rfl)
/-- a handler is found: where, and that one more was; what is raised -/
def rsX (L : Nat) (k u : Int32) (x : tm_M) : tm_M := sI (sI (sI (sI x (5, 0, 0) 6 (nI L)) (5, 0, 0) 7 k) (5, 0, 3) 4 (x.1 (5, 0, 3) 4 + 1)) (5, 0, 0) 5 u
theorem rs_MW {L d : Nat} {k u : Int32} {x : tm_M} (h : MW x d) : MW (rsX L k u x) d := by
  refine ⟨fun i hi => ?_, fun g hg => ?_⟩
  · obtain ⟨g, hg, hf⟩ := h.1 i hi
    exact ⟨g, hg, by simp [rsX, sI, hf]⟩
  · obtain ⟨⟨a, h1, h2⟩, ⟨q, h3, h4⟩, nn, h5, h6⟩ := h.2 g hg
    exact ⟨⟨a, h1, by simp [rsX, sI, h2]⟩, ⟨q, h3, by simp [rsX, sI, h4]⟩, nn, h5, by simp [rsX, sI, h6]⟩
set_option maxRecDepth 100000 in
theorem ok_Ma_raise_y {l : Launch} {D : va_G} {aC : Nat → ClassId} {ad : Nat → Nat} (x : tm_M) (u : Int32) {d t : Nat} (hd : x.1 (5, 0, 0) 4 = nI d) (hd0 : 0 < d) (hd8 : d ≤ 8) (hM : MW x d) (ht : x.1 (5, 0, 1) 1 = nI t) (h8 : t ≤ 8) {L : Nat} {k : Int32} {x4 : tm_M} (hF : (fhM x u d) = (L, k)) (hL : ¬ L = 0) (hU : OkX l y_Ma_unwind b_Ma_unwind 3 (some .int) (rom 3 66) D aC ad [.ref (ad 34), .int (hdM (rsX L k u x) (d - 1))] (rsX L k u x) (some (.int (-1))) x4) :
    OkX l y_Ma_raise b_Ma_raise 2 (some .int) (rom 4 96) D aC ad [.ref (ad 34), .int u] x (some (.int (-1))) x4 := by
  refine ok_start (by decide) (Nat.le_of_ble_eq_true rfl) rfl ?_
  intro p e s m args below meth c B hr hlk hml
  have B : Cx p s m c args b_Ma_raise R_Ma D aC (rg 111 ad) 111 ad := B
  have hd1 : d - 1 < 8 := by omega
  refine j_aloadn B d_Ma_raise_0 rfl ?_
  refine j_iloadn B d_Ma_raise_1 rfl ?_
  refine j_cVt B (ok_Ma_findHandler x u hd hd8 hM ht h8) cv_Ma_findHandler ml_Ma_138 (q_34) rfl rfl ⟨rfl, rfl, by decide, by decide⟩ ⟨Nat.zero_le _, Nat.zero_le _⟩ hml (Nat.le_of_ble_eq_true rfl) rfl d_Ma_raise_2 ?_
  refine j_if_ne (tgt := 18) B d_Ma_raise_5 (by decide) (fun h5 => ?_) (fun h5 => (show False from absurd h5 (by rw [hF, if_neg hL]; decide)).elim)
  refine j_x (sI (sI x (5, 0, 0) 6 (nI L)) (5, 0, 0) 7 k) (by rw [hF]; exact if_neg hL) ?_
  refine j_aloadn B d_Ma_raise_18 rfl ?_
  refine j_getr B fl_Ma_21 (q_34) rfl d_Ma_raise_19 ?_
  refine j_dup B d_Ma_raise_22 rfl ?_
  refine j_geti B fl_Ma_144 (q_37) rfl d_Ma_raise_23 ?_
  refine j_iconst (v := 1) B d_Ma_raise_26 (by decide) ?_
  refine j_iadd B d_Ma_raise_27 ?_
  refine j_topi (x.1 (5, 0, 3) 4 + 1) (by rw [rIK (by decide), rIK (by decide)]) ?_
  refine j_puti B kX_inj fs_Ma_144 (q_37) rfl d_Ma_raise_28 ?_
  refine j_aloadn B d_Ma_raise_31 rfl ?_
  refine j_iloadn B d_Ma_raise_32 rfl ?_
  refine j_puti B kX_inj fs_Ma_147 (q_34) rfl d_Ma_raise_33 ?_
  refine j_x (rsX L k u x) rfl ?_
  refine j_aloadn B d_Ma_raise_36 rfl ?_
  refine j_aloadn B d_Ma_raise_37 rfl ?_
  refine j_aloadn B d_Ma_raise_38 rfl ?_
  refine j_cVt B (ok_Ma_top (rsX L k u x) (d := d) (by simp [rsX, sI, upd, hd]) hd0 hd8) cv_Ma_top ml_Ma_53 (q_34) rfl rfl ⟨rfl, rfl, by decide, by decide⟩ ⟨Nat.zero_le _, Nat.zero_le _⟩ hml (Nat.le_of_ble_eq_true rfl) rfl d_Ma_raise_39 ?_
  refine j_cVt B (ok_hdM hd1 (rsX L k u x) (rs_MW hM) (by omega)) cv_Ma_headOf ml_Ma_150 (q_34) rfl rfl ⟨rfl, rfl, by decide, by decide⟩ ⟨Nat.zero_le _, Nat.zero_le _⟩ hml (Nat.le_of_ble_eq_true rfl) rfl d_Ma_raise_42 ?_
  refine j_cVt B (hU) cv_Ma_unwind ml_Ma_99 (q_34) rfl rfl ⟨rfl, rfl, by decide, by decide⟩ ⟨Nat.zero_le _, Nat.zero_le _⟩ hml (Nat.le_of_ble_eq_true rfl) rfl d_Ma_raise_45 ?_
  exact j_iret B hr hlk d_Ma_raise_48 (rfl) (rfl)
/-- the step's frame goes to the next place -/
abbrev npX (d pp : Nat) (x : tm_M) : tm_M := sI x (8, d - 1, 0) 1 (nI (pp + 1))
set_option maxRecDepth 100000 in
theorem ok_Ma_step_P {l : Launch} {D : va_G} {aC : Nat → ClassId} {ad : Nat → Nat} (x : tm_M) {d g n pp : Nat} (hd1 : d - 1 < 8) (hg : g < 6) (hfn : x.1 (8, d - 1, 0) 0 = nI g) (hpl : x.1 (8, d - 1, 0) 1 = nI pp) (hn : x.1 (6, g, 0) 2 = nI n) (h81 : n ≤ 81) (hpn : pp < n) (hlt : x.2 (6, g, 1) pp = 0) {r : Int32} {x2 : tm_M} (hC : OkX l y_Ma_print b_Ma_print 2 (some .int) (rom 2 41) D aC ad [.ref (ad 34), .int (x.2 (6, g, 2) pp)] (npX d pp x) (some (.int r)) x2) :
    OkX l y_Ma_step b_Ma_step 5 (some .int) (rom 5 117) D aC ad [.ref (ad 34), .ref (ad (frO (d - 1)))] x (some (.int r)) x2 := by
  refine ok_start (by decide) (Nat.le_of_ble_eq_true rfl) rfl ?_
  intro p e s m args below meth c B hr hlk hml
  have B : Cx p s m c args b_Ma_step R_Ma D aC (rg 111 ad) 111 ad := B
  refine j_aloadn B d_Ma_step_0 rfl ?_
  refine j_getr B fl_Ma_27 (q_34) rfl d_Ma_step_1 ?_
  refine j_aloadn B d_Ma_step_4 rfl ?_
  refine j_geti B fl_Ma_61 (q_fr hd1) rfl d_Ma_step_5 ?_
  refine j_topi (nI g) hfn ?_
  refine j_aald B ⟨(q_39).1, (q_39).2.1⟩ rfl (⟨rfl, hg, by decide⟩) d_Ma_step_8 ?_
  refine j_astoren B d_Ma_step_9 (by decide) ?_
  refine j_aloadn B d_Ma_step_10 rfl ?_
  refine j_aloadn B d_Ma_step_11 rfl ?_
  refine j_geti B fl_Ma_64 (q_fr hd1) rfl d_Ma_step_12 ?_
  refine j_topi (nI pp) hpl ?_
  refine j_cVt B (ok_Pr_letterAt hg x (nI pp) hn h81) cv_Pr_letterAt ml_Ma_67 (q_pr hg) rfl rfl ⟨rfl, rfl, by decide, by decide⟩ ⟨Nat.zero_le _, Nat.zero_le _⟩ hml (Nat.le_of_ble_eq_true rfl) rfl d_Ma_step_15 ?_
  refine j_topi (x.2 (6, g, 1) pp) (by rw [if_pos ⟨nI_pos' (by omega), by rw [hn]; exact nI_lt hpn (by omega)⟩, nI_clamp (by omega)]) ?_
  refine j_istoren B d_Ma_step_18 (by decide) ?_
  refine j_aloadn B d_Ma_step_19 rfl ?_
  refine j_aloadn B d_Ma_step_20 rfl ?_
  refine j_geti B fl_Ma_64 (q_fr hd1) rfl d_Ma_step_21 ?_
  refine j_topi (nI pp) hpl ?_
  refine j_cVt B (ok_Pr_valueAt hg x (nI pp) hn h81) cv_Pr_valueAt ml_Ma_70 (q_pr hg) rfl rfl ⟨rfl, rfl, by decide, by decide⟩ ⟨Nat.zero_le _, Nat.zero_le _⟩ hml (Nat.le_of_ble_eq_true rfl) rfl d_Ma_step_24 ?_
  refine j_topi (x.2 (6, g, 2) pp) (by rw [if_pos ⟨nI_pos' (by omega), by rw [hn]; exact nI_lt hpn (by omega)⟩, nI_clamp (by omega)]) ?_
  refine j_istore B d_Ma_step_27 (by decide) ?_
  refine j_aloadn B d_Ma_step_29 rfl ?_
  refine j_dup B d_Ma_step_30 rfl ?_
  refine j_geti B fl_Ma_64 (q_fr hd1) rfl d_Ma_step_31 ?_
  refine j_iconst (v := 1) B d_Ma_step_34 (by decide) ?_
  refine j_iadd B d_Ma_step_35 ?_
  refine j_topi (nI (pp + 1)) (by rw [hpl, nI_1]) ?_
  refine j_puti B kX_inj fs_Ma_64 (q_fr hd1) rfl d_Ma_step_36 ?_
  refine j_iloadn B d_Ma_step_39 rfl ?_
  refine j_topi 0 hlt ?_
  refine j_tabIn (tgt := 88) (off := 48) B d_Ma_step_40 (by decide) (by decide) (by decide) (by decide) ?_
  refine j_aloadn B d_Ma_step_88 rfl ?_
  refine j_iload B d_Ma_step_89 rfl ?_
  refine j_cVt B (hC) cv_Ma_print ml_Ma_73 (q_34) rfl rfl ⟨rfl, rfl, by decide, by decide⟩ ⟨Nat.zero_le _, Nat.zero_le _⟩ hml (Nat.le_of_ble_eq_true rfl) rfl d_Ma_step_91 ?_
  exact j_iret B hr hlk d_Ma_step_94 (rfl) (rfl)
set_option maxRecDepth 100000 in
theorem ok_Ma_step_C {l : Launch} {D : va_G} {aC : Nat → ClassId} {ad : Nat → Nat} (x : tm_M) {d g n pp : Nat} (hd1 : d - 1 < 8) (hg : g < 6) (hfn : x.1 (8, d - 1, 0) 0 = nI g) (hpl : x.1 (8, d - 1, 0) 1 = nI pp) (hn : x.1 (6, g, 0) 2 = nI n) (h81 : n ≤ 81) (hpn : pp < n) (hlt : x.2 (6, g, 1) pp = 1) {r : Int32} {x2 : tm_M} (hC : OkX l y_Ma_enter b_Ma_enter 2 (some .int) (rom 1 26) D aC ad [.ref (ad 34), .int (x.2 (6, g, 2) pp)] (npX d pp x) (some (.int r)) x2) :
    OkX l y_Ma_step b_Ma_step 5 (some .int) (rom 5 117) D aC ad [.ref (ad 34), .ref (ad (frO (d - 1)))] x (some (.int r)) x2 := by
  refine ok_start (by decide) (Nat.le_of_ble_eq_true rfl) rfl ?_
  intro p e s m args below meth c B hr hlk hml
  have B : Cx p s m c args b_Ma_step R_Ma D aC (rg 111 ad) 111 ad := B
  refine j_aloadn B d_Ma_step_0 rfl ?_
  refine j_getr B fl_Ma_27 (q_34) rfl d_Ma_step_1 ?_
  refine j_aloadn B d_Ma_step_4 rfl ?_
  refine j_geti B fl_Ma_61 (q_fr hd1) rfl d_Ma_step_5 ?_
  refine j_topi (nI g) hfn ?_
  refine j_aald B ⟨(q_39).1, (q_39).2.1⟩ rfl (⟨rfl, hg, by decide⟩) d_Ma_step_8 ?_
  refine j_astoren B d_Ma_step_9 (by decide) ?_
  refine j_aloadn B d_Ma_step_10 rfl ?_
  refine j_aloadn B d_Ma_step_11 rfl ?_
  refine j_geti B fl_Ma_64 (q_fr hd1) rfl d_Ma_step_12 ?_
  refine j_topi (nI pp) hpl ?_
  refine j_cVt B (ok_Pr_letterAt hg x (nI pp) hn h81) cv_Pr_letterAt ml_Ma_67 (q_pr hg) rfl rfl ⟨rfl, rfl, by decide, by decide⟩ ⟨Nat.zero_le _, Nat.zero_le _⟩ hml (Nat.le_of_ble_eq_true rfl) rfl d_Ma_step_15 ?_
  refine j_topi (x.2 (6, g, 1) pp) (by rw [if_pos ⟨nI_pos' (by omega), by rw [hn]; exact nI_lt hpn (by omega)⟩, nI_clamp (by omega)]) ?_
  refine j_istoren B d_Ma_step_18 (by decide) ?_
  refine j_aloadn B d_Ma_step_19 rfl ?_
  refine j_aloadn B d_Ma_step_20 rfl ?_
  refine j_geti B fl_Ma_64 (q_fr hd1) rfl d_Ma_step_21 ?_
  refine j_topi (nI pp) hpl ?_
  refine j_cVt B (ok_Pr_valueAt hg x (nI pp) hn h81) cv_Pr_valueAt ml_Ma_70 (q_pr hg) rfl rfl ⟨rfl, rfl, by decide, by decide⟩ ⟨Nat.zero_le _, Nat.zero_le _⟩ hml (Nat.le_of_ble_eq_true rfl) rfl d_Ma_step_24 ?_
  refine j_topi (x.2 (6, g, 2) pp) (by rw [if_pos ⟨nI_pos' (by omega), by rw [hn]; exact nI_lt hpn (by omega)⟩, nI_clamp (by omega)]) ?_
  refine j_istore B d_Ma_step_27 (by decide) ?_
  refine j_aloadn B d_Ma_step_29 rfl ?_
  refine j_dup B d_Ma_step_30 rfl ?_
  refine j_geti B fl_Ma_64 (q_fr hd1) rfl d_Ma_step_31 ?_
  refine j_iconst (v := 1) B d_Ma_step_34 (by decide) ?_
  refine j_iadd B d_Ma_step_35 ?_
  refine j_topi (nI (pp + 1)) (by rw [hpl, nI_1]) ?_
  refine j_puti B kX_inj fs_Ma_64 (q_fr hd1) rfl d_Ma_step_36 ?_
  refine j_iloadn B d_Ma_step_39 rfl ?_
  refine j_topi 1 hlt ?_
  refine j_tabIn (tgt := 95) (off := 55) B d_Ma_step_40 (by decide) (by decide) (by decide) (by decide) ?_
  refine j_aloadn B d_Ma_step_95 rfl ?_
  refine j_iload B d_Ma_step_96 rfl ?_
  refine j_cVt B (hC) cv_Ma_enter ml_Ma_46 (q_34) rfl rfl ⟨rfl, rfl, by decide, by decide⟩ ⟨Nat.zero_le _, Nat.zero_le _⟩ hml (Nat.le_of_ble_eq_true rfl) rfl d_Ma_step_98 ?_
  exact j_iret B hr hlk d_Ma_step_101 (rfl) (rfl)
set_option maxRecDepth 100000 in
theorem ok_Ma_step_T {l : Launch} {D : va_G} {aC : Nat → ClassId} {ad : Nat → Nat} (x : tm_M) {d g n pp : Nat} (hd1 : d - 1 < 8) (hg : g < 6) (hfn : x.1 (8, d - 1, 0) 0 = nI g) (hpl : x.1 (8, d - 1, 0) 1 = nI pp) (hn : x.1 (6, g, 0) 2 = nI n) (h81 : n ≤ 81) (hpn : pp < n) (hlt : x.2 (6, g, 1) pp = 2) {r : Int32} {x2 : tm_M} (hC : OkX l y_Ma_raise b_Ma_raise 2 (some .int) (rom 4 96) D aC ad [.ref (ad 34), .int (x.2 (6, g, 2) pp)] (npX d pp x) (some (.int r)) x2) :
    OkX l y_Ma_step b_Ma_step 5 (some .int) (rom 5 117) D aC ad [.ref (ad 34), .ref (ad (frO (d - 1)))] x (some (.int r)) x2 := by
  refine ok_start (by decide) (Nat.le_of_ble_eq_true rfl) rfl ?_
  intro p e s m args below meth c B hr hlk hml
  have B : Cx p s m c args b_Ma_step R_Ma D aC (rg 111 ad) 111 ad := B
  refine j_aloadn B d_Ma_step_0 rfl ?_
  refine j_getr B fl_Ma_27 (q_34) rfl d_Ma_step_1 ?_
  refine j_aloadn B d_Ma_step_4 rfl ?_
  refine j_geti B fl_Ma_61 (q_fr hd1) rfl d_Ma_step_5 ?_
  refine j_topi (nI g) hfn ?_
  refine j_aald B ⟨(q_39).1, (q_39).2.1⟩ rfl (⟨rfl, hg, by decide⟩) d_Ma_step_8 ?_
  refine j_astoren B d_Ma_step_9 (by decide) ?_
  refine j_aloadn B d_Ma_step_10 rfl ?_
  refine j_aloadn B d_Ma_step_11 rfl ?_
  refine j_geti B fl_Ma_64 (q_fr hd1) rfl d_Ma_step_12 ?_
  refine j_topi (nI pp) hpl ?_
  refine j_cVt B (ok_Pr_letterAt hg x (nI pp) hn h81) cv_Pr_letterAt ml_Ma_67 (q_pr hg) rfl rfl ⟨rfl, rfl, by decide, by decide⟩ ⟨Nat.zero_le _, Nat.zero_le _⟩ hml (Nat.le_of_ble_eq_true rfl) rfl d_Ma_step_15 ?_
  refine j_topi (x.2 (6, g, 1) pp) (by rw [if_pos ⟨nI_pos' (by omega), by rw [hn]; exact nI_lt hpn (by omega)⟩, nI_clamp (by omega)]) ?_
  refine j_istoren B d_Ma_step_18 (by decide) ?_
  refine j_aloadn B d_Ma_step_19 rfl ?_
  refine j_aloadn B d_Ma_step_20 rfl ?_
  refine j_geti B fl_Ma_64 (q_fr hd1) rfl d_Ma_step_21 ?_
  refine j_topi (nI pp) hpl ?_
  refine j_cVt B (ok_Pr_valueAt hg x (nI pp) hn h81) cv_Pr_valueAt ml_Ma_70 (q_pr hg) rfl rfl ⟨rfl, rfl, by decide, by decide⟩ ⟨Nat.zero_le _, Nat.zero_le _⟩ hml (Nat.le_of_ble_eq_true rfl) rfl d_Ma_step_24 ?_
  refine j_topi (x.2 (6, g, 2) pp) (by rw [if_pos ⟨nI_pos' (by omega), by rw [hn]; exact nI_lt hpn (by omega)⟩, nI_clamp (by omega)]) ?_
  refine j_istore B d_Ma_step_27 (by decide) ?_
  refine j_aloadn B d_Ma_step_29 rfl ?_
  refine j_dup B d_Ma_step_30 rfl ?_
  refine j_geti B fl_Ma_64 (q_fr hd1) rfl d_Ma_step_31 ?_
  refine j_iconst (v := 1) B d_Ma_step_34 (by decide) ?_
  refine j_iadd B d_Ma_step_35 ?_
  refine j_topi (nI (pp + 1)) (by rw [hpl, nI_1]) ?_
  refine j_puti B kX_inj fs_Ma_64 (q_fr hd1) rfl d_Ma_step_36 ?_
  refine j_iloadn B d_Ma_step_39 rfl ?_
  refine j_topi 2 hlt ?_
  refine j_tabIn (tgt := 102) (off := 62) B d_Ma_step_40 (by decide) (by decide) (by decide) (by decide) ?_
  refine j_aloadn B d_Ma_step_102 rfl ?_
  refine j_iload B d_Ma_step_103 rfl ?_
  refine j_cVt B (hC) cv_Ma_raise ml_Ma_76 (q_34) rfl rfl ⟨rfl, rfl, by decide, by decide⟩ ⟨Nat.zero_le _, Nat.zero_le _⟩ hml (Nat.le_of_ble_eq_true rfl) rfl d_Ma_step_105 ?_
  exact j_iret B hr hlk d_Ma_step_108 (rfl) (rfl)
set_option maxRecDepth 100000 in
theorem ok_Ma_step_D {l : Launch} {D : va_G} {aC : Nat → ClassId} {ad : Nat → Nat} (x : tm_M) {d g n pp : Nat} (hd1 : d - 1 < 8) (hg : g < 6) (hfn : x.1 (8, d - 1, 0) 0 = nI g) (hpl : x.1 (8, d - 1, 0) 1 = nI pp) (hn : x.1 (6, g, 0) 2 = nI n) (h81 : n ≤ 81) (hpn : pp < n) (hlt : x.2 (6, g, 1) pp = 5) {r : Int32} {x2 : tm_M} (hC : OkX l y_Ma_clean b_Ma_clean 3 (some .int) (rom 3 62) D aC ad [.ref (ad 34), .int (x.2 (6, g, 2) pp)] (npX d pp x) (some (.int r)) x2) :
    OkX l y_Ma_step b_Ma_step 5 (some .int) (rom 5 117) D aC ad [.ref (ad 34), .ref (ad (frO (d - 1)))] x (some (.int r)) x2 := by
  refine ok_start (by decide) (Nat.le_of_ble_eq_true rfl) rfl ?_
  intro p e s m args below meth c B hr hlk hml
  have B : Cx p s m c args b_Ma_step R_Ma D aC (rg 111 ad) 111 ad := B
  refine j_aloadn B d_Ma_step_0 rfl ?_
  refine j_getr B fl_Ma_27 (q_34) rfl d_Ma_step_1 ?_
  refine j_aloadn B d_Ma_step_4 rfl ?_
  refine j_geti B fl_Ma_61 (q_fr hd1) rfl d_Ma_step_5 ?_
  refine j_topi (nI g) hfn ?_
  refine j_aald B ⟨(q_39).1, (q_39).2.1⟩ rfl (⟨rfl, hg, by decide⟩) d_Ma_step_8 ?_
  refine j_astoren B d_Ma_step_9 (by decide) ?_
  refine j_aloadn B d_Ma_step_10 rfl ?_
  refine j_aloadn B d_Ma_step_11 rfl ?_
  refine j_geti B fl_Ma_64 (q_fr hd1) rfl d_Ma_step_12 ?_
  refine j_topi (nI pp) hpl ?_
  refine j_cVt B (ok_Pr_letterAt hg x (nI pp) hn h81) cv_Pr_letterAt ml_Ma_67 (q_pr hg) rfl rfl ⟨rfl, rfl, by decide, by decide⟩ ⟨Nat.zero_le _, Nat.zero_le _⟩ hml (Nat.le_of_ble_eq_true rfl) rfl d_Ma_step_15 ?_
  refine j_topi (x.2 (6, g, 1) pp) (by rw [if_pos ⟨nI_pos' (by omega), by rw [hn]; exact nI_lt hpn (by omega)⟩, nI_clamp (by omega)]) ?_
  refine j_istoren B d_Ma_step_18 (by decide) ?_
  refine j_aloadn B d_Ma_step_19 rfl ?_
  refine j_aloadn B d_Ma_step_20 rfl ?_
  refine j_geti B fl_Ma_64 (q_fr hd1) rfl d_Ma_step_21 ?_
  refine j_topi (nI pp) hpl ?_
  refine j_cVt B (ok_Pr_valueAt hg x (nI pp) hn h81) cv_Pr_valueAt ml_Ma_70 (q_pr hg) rfl rfl ⟨rfl, rfl, by decide, by decide⟩ ⟨Nat.zero_le _, Nat.zero_le _⟩ hml (Nat.le_of_ble_eq_true rfl) rfl d_Ma_step_24 ?_
  refine j_topi (x.2 (6, g, 2) pp) (by rw [if_pos ⟨nI_pos' (by omega), by rw [hn]; exact nI_lt hpn (by omega)⟩, nI_clamp (by omega)]) ?_
  refine j_istore B d_Ma_step_27 (by decide) ?_
  refine j_aloadn B d_Ma_step_29 rfl ?_
  refine j_dup B d_Ma_step_30 rfl ?_
  refine j_geti B fl_Ma_64 (q_fr hd1) rfl d_Ma_step_31 ?_
  refine j_iconst (v := 1) B d_Ma_step_34 (by decide) ?_
  refine j_iadd B d_Ma_step_35 ?_
  refine j_topi (nI (pp + 1)) (by rw [hpl, nI_1]) ?_
  refine j_puti B kX_inj fs_Ma_64 (q_fr hd1) rfl d_Ma_step_36 ?_
  refine j_iloadn B d_Ma_step_39 rfl ?_
  refine j_topi 5 hlt ?_
  refine j_tabIn (tgt := 126) (off := 86) B d_Ma_step_40 (by decide) (by decide) (by decide) (by decide) ?_
  refine j_aloadn B d_Ma_step_126 rfl ?_
  refine j_iload B d_Ma_step_127 rfl ?_
  refine j_cVt B (hC) cv_Ma_clean ml_Ma_87 (q_34) rfl rfl ⟨rfl, rfl, by decide, by decide⟩ ⟨Nat.zero_le _, Nat.zero_le _⟩ hml (Nat.le_of_ble_eq_true rfl) rfl d_Ma_step_129 ?_
  exact j_iret B hr hlk d_Ma_step_132 (rfl) (rfl)
set_option maxRecDepth 100000 in
theorem ok_Ma_step_R {l : Launch} {D : va_G} {aC : Nat → ClassId} {ad : Nat → Nat} (x : tm_M) {d g n pp : Nat} (hd1 : d - 1 < 8) (hg : g < 6) (hfn : x.1 (8, d - 1, 0) 0 = nI g) (hpl : x.1 (8, d - 1, 0) 1 = nI pp) (hn : x.1 (6, g, 0) 2 = nI n) (h81 : n ≤ 81) (hpn : pp < n) (hlt : x.2 (6, g, 1) pp = 3) {t : Nat} (hct : x.1 (8, d - 1, 0) 3 = nI (t + 1)) (h5 : t < 5) {r : Int32} {x2 : tm_M} (hC : OkX l y_Ma_raise b_Ma_raise 2 (some .int) (rom 4 96) D aC ad [.ref (ad 34), .int (x.2 (8, d - 1, 1) t)] (npX d pp x) (some (.int r)) x2) :
    OkX l y_Ma_step b_Ma_step 5 (some .int) (rom 5 117) D aC ad [.ref (ad 34), .ref (ad (frO (d - 1)))] x (some (.int r)) x2 := by
  refine ok_start (by decide) (Nat.le_of_ble_eq_true rfl) rfl ?_
  intro p e s m args below meth c B hr hlk hml
  have B : Cx p s m c args b_Ma_step R_Ma D aC (rg 111 ad) 111 ad := B
  refine j_aloadn B d_Ma_step_0 rfl ?_
  refine j_getr B fl_Ma_27 (q_34) rfl d_Ma_step_1 ?_
  refine j_aloadn B d_Ma_step_4 rfl ?_
  refine j_geti B fl_Ma_61 (q_fr hd1) rfl d_Ma_step_5 ?_
  refine j_topi (nI g) hfn ?_
  refine j_aald B ⟨(q_39).1, (q_39).2.1⟩ rfl (⟨rfl, hg, by decide⟩) d_Ma_step_8 ?_
  refine j_astoren B d_Ma_step_9 (by decide) ?_
  refine j_aloadn B d_Ma_step_10 rfl ?_
  refine j_aloadn B d_Ma_step_11 rfl ?_
  refine j_geti B fl_Ma_64 (q_fr hd1) rfl d_Ma_step_12 ?_
  refine j_topi (nI pp) hpl ?_
  refine j_cVt B (ok_Pr_letterAt hg x (nI pp) hn h81) cv_Pr_letterAt ml_Ma_67 (q_pr hg) rfl rfl ⟨rfl, rfl, by decide, by decide⟩ ⟨Nat.zero_le _, Nat.zero_le _⟩ hml (Nat.le_of_ble_eq_true rfl) rfl d_Ma_step_15 ?_
  refine j_topi (x.2 (6, g, 1) pp) (by rw [if_pos ⟨nI_pos' (by omega), by rw [hn]; exact nI_lt hpn (by omega)⟩, nI_clamp (by omega)]) ?_
  refine j_istoren B d_Ma_step_18 (by decide) ?_
  refine j_aloadn B d_Ma_step_19 rfl ?_
  refine j_aloadn B d_Ma_step_20 rfl ?_
  refine j_geti B fl_Ma_64 (q_fr hd1) rfl d_Ma_step_21 ?_
  refine j_topi (nI pp) hpl ?_
  refine j_cVt B (ok_Pr_valueAt hg x (nI pp) hn h81) cv_Pr_valueAt ml_Ma_70 (q_pr hg) rfl rfl ⟨rfl, rfl, by decide, by decide⟩ ⟨Nat.zero_le _, Nat.zero_le _⟩ hml (Nat.le_of_ble_eq_true rfl) rfl d_Ma_step_24 ?_
  refine j_topi (x.2 (6, g, 2) pp) (by rw [if_pos ⟨nI_pos' (by omega), by rw [hn]; exact nI_lt hpn (by omega)⟩, nI_clamp (by omega)]) ?_
  refine j_istore B d_Ma_step_27 (by decide) ?_
  refine j_aloadn B d_Ma_step_29 rfl ?_
  refine j_dup B d_Ma_step_30 rfl ?_
  refine j_geti B fl_Ma_64 (q_fr hd1) rfl d_Ma_step_31 ?_
  refine j_iconst (v := 1) B d_Ma_step_34 (by decide) ?_
  refine j_iadd B d_Ma_step_35 ?_
  refine j_topi (nI (pp + 1)) (by rw [hpl, nI_1]) ?_
  refine j_puti B kX_inj fs_Ma_64 (q_fr hd1) rfl d_Ma_step_36 ?_
  refine j_iloadn B d_Ma_step_39 rfl ?_
  refine j_topi 3 hlt ?_
  refine j_tabIn (tgt := 109) (off := 69) B d_Ma_step_40 (by decide) (by decide) (by decide) (by decide) ?_
  refine j_aloadn B d_Ma_step_109 rfl ?_
  refine j_aloadn B d_Ma_step_110 rfl ?_
  refine j_cVt B (ok_Fr_latestCaught hd1 (npX d pp x) (t := t) (by rw [rIj (by decide)]; exact hct) h5) cv_Fr_latestCaught ml_Ma_79 (q_fr hd1) rfl rfl ⟨rfl, rfl, by decide, by decide⟩ ⟨Nat.zero_le _, Nat.zero_le _⟩ hml (Nat.le_of_ble_eq_true rfl) rfl d_Ma_step_111 ?_
  refine j_cVt B (hC) cv_Ma_raise ml_Ma_76 (q_34) rfl rfl ⟨rfl, rfl, by decide, by decide⟩ ⟨Nat.zero_le _, Nat.zero_le _⟩ hml (Nat.le_of_ble_eq_true rfl) rfl d_Ma_step_114 ?_
  exact j_iret B hr hlk d_Ma_step_117 (rfl) (rfl)
set_option maxRecDepth 100000 in
theorem ok_Ma_step_G {l : Launch} {D : va_G} {aC : Nat → ClassId} {ad : Nat → Nat} (x : tm_M) {d g n pp : Nat} (hd1 : d - 1 < 8) (hg : g < 6) (hfn : x.1 (8, d - 1, 0) 0 = nI g) (hpl : x.1 (8, d - 1, 0) 1 = nI pp) (hn : x.1 (6, g, 0) 2 = nI n) (h81 : n ≤ 81) (hpn : pp < n) (hlt : x.2 (6, g, 1) pp = 4)  :
    OkX l y_Ma_step b_Ma_step 5 (some .int) (rom 5 117) D aC ad [.ref (ad 34), .ref (ad (frO (d - 1)))] x (some (.int (-1))) (sI x (8, d - 1, 0) 1 (x.2 (6, g, 2) pp)) := by
  refine ok_start (by decide) (Nat.le_of_ble_eq_true rfl) rfl ?_
  intro p e s m args below meth c B hr hlk hml
  have B : Cx p s m c args b_Ma_step R_Ma D aC (rg 111 ad) 111 ad := B
  refine j_aloadn B d_Ma_step_0 rfl ?_
  refine j_getr B fl_Ma_27 (q_34) rfl d_Ma_step_1 ?_
  refine j_aloadn B d_Ma_step_4 rfl ?_
  refine j_geti B fl_Ma_61 (q_fr hd1) rfl d_Ma_step_5 ?_
  refine j_topi (nI g) hfn ?_
  refine j_aald B ⟨(q_39).1, (q_39).2.1⟩ rfl (⟨rfl, hg, by decide⟩) d_Ma_step_8 ?_
  refine j_astoren B d_Ma_step_9 (by decide) ?_
  refine j_aloadn B d_Ma_step_10 rfl ?_
  refine j_aloadn B d_Ma_step_11 rfl ?_
  refine j_geti B fl_Ma_64 (q_fr hd1) rfl d_Ma_step_12 ?_
  refine j_topi (nI pp) hpl ?_
  refine j_cVt B (ok_Pr_letterAt hg x (nI pp) hn h81) cv_Pr_letterAt ml_Ma_67 (q_pr hg) rfl rfl ⟨rfl, rfl, by decide, by decide⟩ ⟨Nat.zero_le _, Nat.zero_le _⟩ hml (Nat.le_of_ble_eq_true rfl) rfl d_Ma_step_15 ?_
  refine j_topi (x.2 (6, g, 1) pp) (by rw [if_pos ⟨nI_pos' (by omega), by rw [hn]; exact nI_lt hpn (by omega)⟩, nI_clamp (by omega)]) ?_
  refine j_istoren B d_Ma_step_18 (by decide) ?_
  refine j_aloadn B d_Ma_step_19 rfl ?_
  refine j_aloadn B d_Ma_step_20 rfl ?_
  refine j_geti B fl_Ma_64 (q_fr hd1) rfl d_Ma_step_21 ?_
  refine j_topi (nI pp) hpl ?_
  refine j_cVt B (ok_Pr_valueAt hg x (nI pp) hn h81) cv_Pr_valueAt ml_Ma_70 (q_pr hg) rfl rfl ⟨rfl, rfl, by decide, by decide⟩ ⟨Nat.zero_le _, Nat.zero_le _⟩ hml (Nat.le_of_ble_eq_true rfl) rfl d_Ma_step_24 ?_
  refine j_topi (x.2 (6, g, 2) pp) (by rw [if_pos ⟨nI_pos' (by omega), by rw [hn]; exact nI_lt hpn (by omega)⟩, nI_clamp (by omega)]) ?_
  refine j_istore B d_Ma_step_27 (by decide) ?_
  refine j_aloadn B d_Ma_step_29 rfl ?_
  refine j_dup B d_Ma_step_30 rfl ?_
  refine j_geti B fl_Ma_64 (q_fr hd1) rfl d_Ma_step_31 ?_
  refine j_iconst (v := 1) B d_Ma_step_34 (by decide) ?_
  refine j_iadd B d_Ma_step_35 ?_
  refine j_topi (nI (pp + 1)) (by rw [hpl, nI_1]) ?_
  refine j_puti B kX_inj fs_Ma_64 (q_fr hd1) rfl d_Ma_step_36 ?_
  refine j_iloadn B d_Ma_step_39 rfl ?_
  refine j_topi 4 hlt ?_
  refine j_tabIn (tgt := 118) (off := 78) B d_Ma_step_40 (by decide) (by decide) (by decide) (by decide) ?_
  refine j_aloadn B d_Ma_step_118 rfl ?_
  refine j_aloadn B d_Ma_step_119 rfl ?_
  refine j_iload B d_Ma_step_120 rfl ?_
  refine j_cVt B (ok_Ma_jump hd1 (npX d pp x) (x.2 (6, g, 2) pp)) cv_Ma_jump ml_Ma_83 (q_34) rfl rfl ⟨rfl, rfl, by decide, by decide⟩ ⟨Nat.zero_le _, Nat.zero_le _⟩ hml (Nat.le_of_ble_eq_true rfl) rfl d_Ma_step_122 ?_
  exact j_iret B hr hlk d_Ma_step_125 (rfl) (congrArg (tw ad aC sX kX) sI_sI)
set_option maxRecDepth 100000 in
theorem ok_Ma_step_E {l : Launch} {D : va_G} {aC : Nat → ClassId} {ad : Nat → Nat} (x : tm_M) {d g n pp : Nat} (hd1 : d - 1 < 8) (hg : g < 6) (hfn : x.1 (8, d - 1, 0) 0 = nI g) (hpl : x.1 (8, d - 1, 0) 1 = nI pp) (hn : x.1 (6, g, 0) 2 = nI n) (h81 : n ≤ 81) (hpn : pp < n) (hlt : x.2 (6, g, 1) pp = 6) {t : Nat} (hct : x.1 (8, d - 1, 0) 3 = nI (t + 1)) (h5 : t < 5) :
    OkX l y_Ma_step b_Ma_step 5 (some .int) (rom 5 117) D aC ad [.ref (ad 34), .ref (ad (frO (d - 1)))] x (some (.int (-1))) (sI (npX d pp x) (8, d - 1, 0) 3 (nI t)) := by
  refine ok_start (by decide) (Nat.le_of_ble_eq_true rfl) rfl ?_
  intro p e s m args below meth c B hr hlk hml
  have B : Cx p s m c args b_Ma_step R_Ma D aC (rg 111 ad) 111 ad := B
  refine j_aloadn B d_Ma_step_0 rfl ?_
  refine j_getr B fl_Ma_27 (q_34) rfl d_Ma_step_1 ?_
  refine j_aloadn B d_Ma_step_4 rfl ?_
  refine j_geti B fl_Ma_61 (q_fr hd1) rfl d_Ma_step_5 ?_
  refine j_topi (nI g) hfn ?_
  refine j_aald B ⟨(q_39).1, (q_39).2.1⟩ rfl (⟨rfl, hg, by decide⟩) d_Ma_step_8 ?_
  refine j_astoren B d_Ma_step_9 (by decide) ?_
  refine j_aloadn B d_Ma_step_10 rfl ?_
  refine j_aloadn B d_Ma_step_11 rfl ?_
  refine j_geti B fl_Ma_64 (q_fr hd1) rfl d_Ma_step_12 ?_
  refine j_topi (nI pp) hpl ?_
  refine j_cVt B (ok_Pr_letterAt hg x (nI pp) hn h81) cv_Pr_letterAt ml_Ma_67 (q_pr hg) rfl rfl ⟨rfl, rfl, by decide, by decide⟩ ⟨Nat.zero_le _, Nat.zero_le _⟩ hml (Nat.le_of_ble_eq_true rfl) rfl d_Ma_step_15 ?_
  refine j_topi (x.2 (6, g, 1) pp) (by rw [if_pos ⟨nI_pos' (by omega), by rw [hn]; exact nI_lt hpn (by omega)⟩, nI_clamp (by omega)]) ?_
  refine j_istoren B d_Ma_step_18 (by decide) ?_
  refine j_aloadn B d_Ma_step_19 rfl ?_
  refine j_aloadn B d_Ma_step_20 rfl ?_
  refine j_geti B fl_Ma_64 (q_fr hd1) rfl d_Ma_step_21 ?_
  refine j_topi (nI pp) hpl ?_
  refine j_cVt B (ok_Pr_valueAt hg x (nI pp) hn h81) cv_Pr_valueAt ml_Ma_70 (q_pr hg) rfl rfl ⟨rfl, rfl, by decide, by decide⟩ ⟨Nat.zero_le _, Nat.zero_le _⟩ hml (Nat.le_of_ble_eq_true rfl) rfl d_Ma_step_24 ?_
  refine j_topi (x.2 (6, g, 2) pp) (by rw [if_pos ⟨nI_pos' (by omega), by rw [hn]; exact nI_lt hpn (by omega)⟩, nI_clamp (by omega)]) ?_
  refine j_istore B d_Ma_step_27 (by decide) ?_
  refine j_aloadn B d_Ma_step_29 rfl ?_
  refine j_dup B d_Ma_step_30 rfl ?_
  refine j_geti B fl_Ma_64 (q_fr hd1) rfl d_Ma_step_31 ?_
  refine j_iconst (v := 1) B d_Ma_step_34 (by decide) ?_
  refine j_iadd B d_Ma_step_35 ?_
  refine j_topi (nI (pp + 1)) (by rw [hpl, nI_1]) ?_
  refine j_puti B kX_inj fs_Ma_64 (q_fr hd1) rfl d_Ma_step_36 ?_
  refine j_iloadn B d_Ma_step_39 rfl ?_
  refine j_topi 6 hlt ?_
  refine j_tabIn (tgt := 133) (off := 93) B d_Ma_step_40 (by decide) (by decide) (by decide) (by decide) ?_
  refine j_aloadn B d_Ma_step_133 rfl ?_
  refine j_aloadn B d_Ma_step_134 rfl ?_
  refine j_cVt B (ok_Ma_endCatch hd1 (npX d pp x) (t := t) (by rw [rIj (by decide)]; exact hct) h5) cv_Ma_endCatch ml_Ma_90 (q_34) rfl rfl ⟨rfl, rfl, by decide, by decide⟩ ⟨Nat.zero_le _, Nat.zero_le _⟩ hml (Nat.le_of_ble_eq_true rfl) rfl d_Ma_step_135 ?_
  exact j_iret B hr hlk d_Ma_step_138 (rfl) (rfl)
set_option maxRecDepth 100000 in
theorem ok_Ma_step_U {l : Launch} {D : va_G} {aC : Nat → ClassId} {ad : Nat → Nat} (x : tm_M) {d g n pp : Nat} (hd1 : d - 1 < 8) (hg : g < 6) (hfn : x.1 (8, d - 1, 0) 0 = nI g) (hpl : x.1 (8, d - 1, 0) 1 = nI pp) (hn : x.1 (6, g, 0) 2 = nI n) (h81 : n ≤ 81) (hpn : pp < n) (hlt : x.2 (6, g, 1) pp = 7) {a b : Nat} (ha : x.1 (6, g, 0) 6 = nI a) (h40 : a ≤ 40) (hla : x.1 (5, 0, 0) 8 = nI b) (hb : b < a) {r : Int32} {x2 : tm_M} (hC : OkX l y_Ma_unwind b_Ma_unwind 3 (some .int) (rom 3 66) D aC ad [.ref (ad 34), .int (x.2 (6, g, 5) b)] (npX d pp x) (some (.int r)) x2) :
    OkX l y_Ma_step b_Ma_step 5 (some .int) (rom 5 117) D aC ad [.ref (ad 34), .ref (ad (frO (d - 1)))] x (some (.int r)) x2 := by
  refine ok_start (by decide) (Nat.le_of_ble_eq_true rfl) rfl ?_
  intro p e s m args below meth c B hr hlk hml
  have B : Cx p s m c args b_Ma_step R_Ma D aC (rg 111 ad) 111 ad := B
  refine j_aloadn B d_Ma_step_0 rfl ?_
  refine j_getr B fl_Ma_27 (q_34) rfl d_Ma_step_1 ?_
  refine j_aloadn B d_Ma_step_4 rfl ?_
  refine j_geti B fl_Ma_61 (q_fr hd1) rfl d_Ma_step_5 ?_
  refine j_topi (nI g) hfn ?_
  refine j_aald B ⟨(q_39).1, (q_39).2.1⟩ rfl (⟨rfl, hg, by decide⟩) d_Ma_step_8 ?_
  refine j_astoren B d_Ma_step_9 (by decide) ?_
  refine j_aloadn B d_Ma_step_10 rfl ?_
  refine j_aloadn B d_Ma_step_11 rfl ?_
  refine j_geti B fl_Ma_64 (q_fr hd1) rfl d_Ma_step_12 ?_
  refine j_topi (nI pp) hpl ?_
  refine j_cVt B (ok_Pr_letterAt hg x (nI pp) hn h81) cv_Pr_letterAt ml_Ma_67 (q_pr hg) rfl rfl ⟨rfl, rfl, by decide, by decide⟩ ⟨Nat.zero_le _, Nat.zero_le _⟩ hml (Nat.le_of_ble_eq_true rfl) rfl d_Ma_step_15 ?_
  refine j_topi (x.2 (6, g, 1) pp) (by rw [if_pos ⟨nI_pos' (by omega), by rw [hn]; exact nI_lt hpn (by omega)⟩, nI_clamp (by omega)]) ?_
  refine j_istoren B d_Ma_step_18 (by decide) ?_
  refine j_aloadn B d_Ma_step_19 rfl ?_
  refine j_aloadn B d_Ma_step_20 rfl ?_
  refine j_geti B fl_Ma_64 (q_fr hd1) rfl d_Ma_step_21 ?_
  refine j_topi (nI pp) hpl ?_
  refine j_cVt B (ok_Pr_valueAt hg x (nI pp) hn h81) cv_Pr_valueAt ml_Ma_70 (q_pr hg) rfl rfl ⟨rfl, rfl, by decide, by decide⟩ ⟨Nat.zero_le _, Nat.zero_le _⟩ hml (Nat.le_of_ble_eq_true rfl) rfl d_Ma_step_24 ?_
  refine j_topi (x.2 (6, g, 2) pp) (by rw [if_pos ⟨nI_pos' (by omega), by rw [hn]; exact nI_lt hpn (by omega)⟩, nI_clamp (by omega)]) ?_
  refine j_istore B d_Ma_step_27 (by decide) ?_
  refine j_aloadn B d_Ma_step_29 rfl ?_
  refine j_dup B d_Ma_step_30 rfl ?_
  refine j_geti B fl_Ma_64 (q_fr hd1) rfl d_Ma_step_31 ?_
  refine j_iconst (v := 1) B d_Ma_step_34 (by decide) ?_
  refine j_iadd B d_Ma_step_35 ?_
  refine j_topi (nI (pp + 1)) (by rw [hpl, nI_1]) ?_
  refine j_puti B kX_inj fs_Ma_64 (q_fr hd1) rfl d_Ma_step_36 ?_
  refine j_iloadn B d_Ma_step_39 rfl ?_
  refine j_topi 7 hlt ?_
  refine j_tabIn (tgt := 139) (off := 99) B d_Ma_step_40 (by decide) (by decide) (by decide) (by decide) ?_
  refine j_aloadn B d_Ma_step_139 rfl ?_
  refine j_aloadn B d_Ma_step_140 rfl ?_
  refine j_aloadn B d_Ma_step_141 rfl ?_
  refine j_geti B fl_Ma_93 (q_34) rfl d_Ma_step_142 ?_
  refine j_topi (nI b) (by rw [rIK (by simp)]; exact hla) ?_
  refine j_cVt B (ok_Pr_nextOf hg (npX d pp x) (nI b) (a := a) (by rw [rIK (by simp)]; exact ha) h40) cv_Pr_nextOf ml_Ma_96 (q_pr hg) rfl rfl ⟨rfl, rfl, by decide, by decide⟩ ⟨Nat.zero_le _, Nat.zero_le _⟩ hml (Nat.le_of_ble_eq_true rfl) rfl d_Ma_step_145 ?_
  refine j_topi (x.2 (6, g, 5) b) (by rw [rIK (by simp), if_pos ⟨nI_pos' (by omega), by rw [ha]; exact nI_lt hb (by omega)⟩, nI_clamp (by omega)]; rfl) ?_
  refine j_cVt B (hC) cv_Ma_unwind ml_Ma_99 (q_34) rfl rfl ⟨rfl, rfl, by decide, by decide⟩ ⟨Nat.zero_le _, Nat.zero_le _⟩ hml (Nat.le_of_ble_eq_true rfl) rfl d_Ma_step_148 ?_
  exact j_iret B hr hlk d_Ma_step_151 (rfl) (rfl)
set_option maxRecDepth 100000 in
theorem ok_Ma_step_X {l : Launch} {D : va_G} {aC : Nat → ClassId} {ad : Nat → Nat} (x : tm_M) {d g n pp : Nat} (hd1 : d - 1 < 8) (hg : g < 6) (hfn : x.1 (8, d - 1, 0) 0 = nI g) (hpl : x.1 (8, d - 1, 0) 1 = nI pp) (hn : x.1 (6, g, 0) 2 = nI n) (h81 : n ≤ 81) (hpn : pp < n) (hlt : x.2 (6, g, 1) pp = 8) {e2 : Nat} (hde : x.1 (5, 0, 0) 4 = nI (e2 + 1)) (he8 : e2 < 8) :
    OkX l y_Ma_step b_Ma_step 5 (some .int) (rom 5 117) D aC ad [.ref (ad 34), .ref (ad (frO (d - 1)))] x (some (.int (if 0 < e2 then -1 else 0))) (sI (npX d pp x) (5, 0, 0) 4 (nI e2)) := by
  refine ok_start (by decide) (Nat.le_of_ble_eq_true rfl) rfl ?_
  intro p e s m args below meth c B hr hlk hml
  have B : Cx p s m c args b_Ma_step R_Ma D aC (rg 111 ad) 111 ad := B
  refine j_aloadn B d_Ma_step_0 rfl ?_
  refine j_getr B fl_Ma_27 (q_34) rfl d_Ma_step_1 ?_
  refine j_aloadn B d_Ma_step_4 rfl ?_
  refine j_geti B fl_Ma_61 (q_fr hd1) rfl d_Ma_step_5 ?_
  refine j_topi (nI g) hfn ?_
  refine j_aald B ⟨(q_39).1, (q_39).2.1⟩ rfl (⟨rfl, hg, by decide⟩) d_Ma_step_8 ?_
  refine j_astoren B d_Ma_step_9 (by decide) ?_
  refine j_aloadn B d_Ma_step_10 rfl ?_
  refine j_aloadn B d_Ma_step_11 rfl ?_
  refine j_geti B fl_Ma_64 (q_fr hd1) rfl d_Ma_step_12 ?_
  refine j_topi (nI pp) hpl ?_
  refine j_cVt B (ok_Pr_letterAt hg x (nI pp) hn h81) cv_Pr_letterAt ml_Ma_67 (q_pr hg) rfl rfl ⟨rfl, rfl, by decide, by decide⟩ ⟨Nat.zero_le _, Nat.zero_le _⟩ hml (Nat.le_of_ble_eq_true rfl) rfl d_Ma_step_15 ?_
  refine j_topi (x.2 (6, g, 1) pp) (by rw [if_pos ⟨nI_pos' (by omega), by rw [hn]; exact nI_lt hpn (by omega)⟩, nI_clamp (by omega)]) ?_
  refine j_istoren B d_Ma_step_18 (by decide) ?_
  refine j_aloadn B d_Ma_step_19 rfl ?_
  refine j_aloadn B d_Ma_step_20 rfl ?_
  refine j_geti B fl_Ma_64 (q_fr hd1) rfl d_Ma_step_21 ?_
  refine j_topi (nI pp) hpl ?_
  refine j_cVt B (ok_Pr_valueAt hg x (nI pp) hn h81) cv_Pr_valueAt ml_Ma_70 (q_pr hg) rfl rfl ⟨rfl, rfl, by decide, by decide⟩ ⟨Nat.zero_le _, Nat.zero_le _⟩ hml (Nat.le_of_ble_eq_true rfl) rfl d_Ma_step_24 ?_
  refine j_topi (x.2 (6, g, 2) pp) (by rw [if_pos ⟨nI_pos' (by omega), by rw [hn]; exact nI_lt hpn (by omega)⟩, nI_clamp (by omega)]) ?_
  refine j_istore B d_Ma_step_27 (by decide) ?_
  refine j_aloadn B d_Ma_step_29 rfl ?_
  refine j_dup B d_Ma_step_30 rfl ?_
  refine j_geti B fl_Ma_64 (q_fr hd1) rfl d_Ma_step_31 ?_
  refine j_iconst (v := 1) B d_Ma_step_34 (by decide) ?_
  refine j_iadd B d_Ma_step_35 ?_
  refine j_topi (nI (pp + 1)) (by rw [hpl, nI_1]) ?_
  refine j_puti B kX_inj fs_Ma_64 (q_fr hd1) rfl d_Ma_step_36 ?_
  refine j_iloadn B d_Ma_step_39 rfl ?_
  refine j_topi 8 hlt ?_
  refine j_tabOut (tgt := 152) B d_Ma_step_40 (Or.inr (by decide)) (by decide) ?_
  refine j_aloadn B d_Ma_step_152 rfl ?_
  refine j_cVt B (ok_Ma_leave (npX d pp x) (d := e2) (by rw [rIK (by simp)]; exact hde) he8) cv_Ma_leave ml_Ma_102 (q_34) rfl rfl ⟨rfl, rfl, by decide, by decide⟩ ⟨Nat.zero_le _, Nat.zero_le _⟩ hml (Nat.le_of_ble_eq_true rfl) rfl d_Ma_step_153 ?_
  exact j_iret B hr hlk d_Ma_step_156 (rfl) (rfl)
set_option maxRecDepth 100000 in
theorem ok_Ma_execute {l : Launch} {D : va_G} {aC : Nat → ClassId} {ad : Nat → Nat} (x : tm_M) {g N : Nat} {r : Int32} (X : Nat → tm_M) (dp : Nat → Nat) (hE : OkX l y_Ma_enter b_Ma_enter 2 (some .int) (rom 1 26) D aC ad [.ref (ad 34), .int (nI g)] (sI (sI (sI (sI (sI (sI (sI x (5, 0, 3) 1 0) (5, 0, 3) 2 0) (5, 0, 3) 3 0) (5, 0, 3) 4 0) (5, 0, 3) 5 0) (5, 0, 3) 6 (-1)) (5, 0, 0) 4 0) (some (.int (-1))) (X 0)) (hN : N ≤ 300) (hN0 : 0 < N) (hst : ∀ j, j ≤ N → (X j).1 (5, 0, 3) 2 = nI j) (hdp : ∀ j, j < N → (X j).1 (5, 0, 0) 4 = nI (dp j) ∧ 0 < dp j ∧ dp j ≤ 8) (hS : ∀ j, j < N → OkX l y_Ma_step b_Ma_step 5 (some .int) (rom 5 117) D aC ad [.ref (ad 34), .ref (ad (frO (dp j - 1)))] (sI (X j) (5, 0, 3) 2 (nI (j + 1))) (some (.int (if j + 1 = N then r else -1))) (X (j + 1))) (hr1 : r = -1 → N = 300) :
    OkX l y_Ma_execute b_Ma_execute 3 (some .int) (rom 6 141) D aC ad [.ref (ad 34), .int (nI g)] x (some (.int (if r = -1 then 3 else r))) (X N) := by
  refine ok_start (by decide) (Nat.le_of_ble_eq_true rfl) rfl ?_
  intro p e s m args below meth c B hr hlk hml
  have B : Cx p s m c args b_Ma_execute R_Ma D aC (rg 111 ad) 111 ad := B
  have fin : J p l e (rom 6 141) s m args below meth c D (rg 111 ad) 0 0 (MQ below (Qk D aC 111 ad (some (.int (if r = -1 then 3 else r))) (wX ad aC (X N))) args s 0 0 (rg 111 ad)) 111 ad (wX ad aC (X N)) 3 18 [(2, .int r), (0, .ref (ad 34))] [] := by
    refine j_iloadn B d_Ma_execute_18 rfl ?_
    refine j_iconst (v := (-1)) B d_Ma_execute_19 (by decide) ?_
    refine j_icmp_ne (tgt := 61) B d_Ma_execute_20 (by decide) (fun h20 => ?_) (fun h20 => ?_)
    · -- yes
      refine j_iloadn B d_Ma_execute_61 rfl ?_
      refine j_iconst (v := (-1)) B d_Ma_execute_62 (by decide) ?_
      refine j_icmp_ne (tgt := 70) B d_Ma_execute_63 (by decide) (fun h63 => ?_) (fun h63 => ?_)
      · -- yes
        refine j_iloadn B d_Ma_execute_70 rfl ?_
        exact j_iret B hr hlk d_Ma_execute_71 (by first | exact sv (if_pos h63) | exact sv (if_neg h63)) (rfl)
      · -- no
        refine j_iconst (v := 3) B d_Ma_execute_66 (by decide) ?_
        refine j_goto (tgt := 71) B d_Ma_execute_67 (by decide) ?_
        exact j_iret B hr hlk d_Ma_execute_71 (by first | exact sv (if_pos h63) | exact sv (if_neg h63)) (rfl)
    · -- no
      refine j_aloadn B d_Ma_execute_23 rfl ?_
      refine j_getr B fl_Ma_21 (q_34) rfl d_Ma_execute_24 ?_
      refine j_geti B fl_Ma_50 (q_37) rfl d_Ma_execute_27 ?_
      refine j_topi (nI 300) (by rw [hst N (Nat.le_refl N), hr1 h20]) ?_
      refine j_sipush (v := 300) B d_Ma_execute_30 (by decide) ?_
      refine j_icmp_ge (tgt := 61) B d_Ma_execute_33 (by decide) (fun h33 => ?_) (fun h33 => (show False from h33 (nI_le (a := 300) (Nat.le_refl _) (by decide))).elim)
      refine j_iloadn B d_Ma_execute_61 rfl ?_
      refine j_iconst (v := (-1)) B d_Ma_execute_62 (by decide) ?_
      refine j_icmp_ne (tgt := 70) B d_Ma_execute_63 (by decide) (fun h63 => ?_) (fun h63 => ?_)
      · -- yes
        refine j_iloadn B d_Ma_execute_70 rfl ?_
        exact j_iret B hr hlk d_Ma_execute_71 (by first | exact sv (if_pos h63) | exact sv (if_neg h63)) (rfl)
      · -- no
        refine j_iconst (v := 3) B d_Ma_execute_66 (by decide) ?_
        refine j_goto (tgt := 71) B d_Ma_execute_67 (by decide) ?_
        exact j_iret B hr hlk d_Ma_execute_71 (by first | exact sv (if_pos h63) | exact sv (if_neg h63)) (rfl)
  have loop : ∀ (q j : Nat), j + q + 1 = N → J p l e (rom 6 141) s m args below meth c D (rg 111 ad) 0 0 (MQ below (Qk D aC 111 ad (some (.int (if r = -1 then 3 else r))) (wX ad aC (X N))) args s 0 0 (rg 111 ad)) 111 ad (wX ad aC (X j)) 3 18 [(2, .int (-1)), (0, .ref (ad 34))] [] := by
    intro q
    induction q with
    | zero =>
      intro j hjN
      have hj : j < N := by omega
      have hdj : dp j - 1 < 8 := by have := (hdp j hj).2.2; omega
      refine j_iloadn B d_Ma_execute_18 rfl ?_
      refine j_iconst (v := (-1)) B d_Ma_execute_19 (by decide) ?_
      refine j_icmp_ne (tgt := 61) B d_Ma_execute_20 (by decide) (fun h20 => (show False from h20 rfl).elim) (fun h20 => ?_)
      refine j_aloadn B d_Ma_execute_23 rfl ?_
      refine j_getr B fl_Ma_21 (q_34) rfl d_Ma_execute_24 ?_
      refine j_geti B fl_Ma_50 (q_37) rfl d_Ma_execute_27 ?_
      refine j_topi (nI j) (hst j (by omega)) ?_
      refine j_sipush (v := 300) B d_Ma_execute_30 (by decide) ?_
      refine j_icmp_ge (tgt := 61) B d_Ma_execute_33 (by decide) (fun h33 => (show False from absurd (nIle (c := 300) h33 (by decide) (by omega)) (by omega)).elim) (fun h33 => ?_)
      refine j_aloadn B d_Ma_execute_36 rfl ?_
      refine j_getr B fl_Ma_21 (q_34) rfl d_Ma_execute_37 ?_
      refine j_dup B d_Ma_execute_40 rfl ?_
      refine j_geti B fl_Ma_50 (q_37) rfl d_Ma_execute_41 ?_
      refine j_iconst (v := 1) B d_Ma_execute_44 (by decide) ?_
      refine j_iadd B d_Ma_execute_45 ?_
      refine j_topi (nI (j + 1)) (by rw [hst j (by omega), nI_1]) ?_
      refine j_puti B kX_inj fs_Ma_50 (q_37) rfl d_Ma_execute_46 ?_
      refine j_aloadn B d_Ma_execute_49 rfl ?_
      refine j_aloadn B d_Ma_execute_50 rfl ?_
      refine j_cVt B (ok_Ma_top (sI (X j) (5, 0, 3) 2 (nI (j + 1))) (d := dp j) (by rw [rIK (by decide)]; exact (hdp j hj).1) (hdp j hj).2.1 (hdp j hj).2.2) cv_Ma_top ml_Ma_53 (q_34) rfl rfl ⟨rfl, rfl, by decide, by decide⟩ ⟨Nat.zero_le _, Nat.zero_le _⟩ hml (Nat.le_of_ble_eq_true rfl) rfl d_Ma_execute_51 ?_
      refine j_cVt B (hS j hj) cv_Ma_step ml_Ma_57 (q_34) rfl rfl ⟨rfl, rfl, by decide, by decide⟩ ⟨Nat.zero_le _, Nat.zero_le _⟩ hml (Nat.le_of_ble_eq_true rfl) rfl d_Ma_execute_54 ?_
      refine j_istoren B d_Ma_execute_57 (by decide) ?_
      refine j_goto (tgt := 18) B d_Ma_execute_58 (by decide) ?_
      refine j_loc [(2, .int (if j + 1 = N then r else -1)), (0, .ref (ad 34))] ⟨rfl, rfl, trivial⟩ ?_
      rw [if_pos (show j + 1 = N by omega), show j + 1 = N by omega]
      exact fin
    | succ q ih =>
      intro j hjN
      have hj : j < N := by omega
      have hdj : dp j - 1 < 8 := by have := (hdp j hj).2.2; omega
      refine j_iloadn B d_Ma_execute_18 rfl ?_
      refine j_iconst (v := (-1)) B d_Ma_execute_19 (by decide) ?_
      refine j_icmp_ne (tgt := 61) B d_Ma_execute_20 (by decide) (fun h20 => (show False from h20 rfl).elim) (fun h20 => ?_)
      refine j_aloadn B d_Ma_execute_23 rfl ?_
      refine j_getr B fl_Ma_21 (q_34) rfl d_Ma_execute_24 ?_
      refine j_geti B fl_Ma_50 (q_37) rfl d_Ma_execute_27 ?_
      refine j_topi (nI j) (hst j (by omega)) ?_
      refine j_sipush (v := 300) B d_Ma_execute_30 (by decide) ?_
      refine j_icmp_ge (tgt := 61) B d_Ma_execute_33 (by decide) (fun h33 => (show False from absurd (nIle (c := 300) h33 (by decide) (by omega)) (by omega)).elim) (fun h33 => ?_)
      refine j_aloadn B d_Ma_execute_36 rfl ?_
      refine j_getr B fl_Ma_21 (q_34) rfl d_Ma_execute_37 ?_
      refine j_dup B d_Ma_execute_40 rfl ?_
      refine j_geti B fl_Ma_50 (q_37) rfl d_Ma_execute_41 ?_
      refine j_iconst (v := 1) B d_Ma_execute_44 (by decide) ?_
      refine j_iadd B d_Ma_execute_45 ?_
      refine j_topi (nI (j + 1)) (by rw [hst j (by omega), nI_1]) ?_
      refine j_puti B kX_inj fs_Ma_50 (q_37) rfl d_Ma_execute_46 ?_
      refine j_aloadn B d_Ma_execute_49 rfl ?_
      refine j_aloadn B d_Ma_execute_50 rfl ?_
      refine j_cVt B (ok_Ma_top (sI (X j) (5, 0, 3) 2 (nI (j + 1))) (d := dp j) (by rw [rIK (by decide)]; exact (hdp j hj).1) (hdp j hj).2.1 (hdp j hj).2.2) cv_Ma_top ml_Ma_53 (q_34) rfl rfl ⟨rfl, rfl, by decide, by decide⟩ ⟨Nat.zero_le _, Nat.zero_le _⟩ hml (Nat.le_of_ble_eq_true rfl) rfl d_Ma_execute_51 ?_
      refine j_cVt B (hS j hj) cv_Ma_step ml_Ma_57 (q_34) rfl rfl ⟨rfl, rfl, by decide, by decide⟩ ⟨Nat.zero_le _, Nat.zero_le _⟩ hml (Nat.le_of_ble_eq_true rfl) rfl d_Ma_execute_54 ?_
      refine j_istoren B d_Ma_execute_57 (by decide) ?_
      refine j_goto (tgt := 18) B d_Ma_execute_58 (by decide) ?_
      refine j_loc [(2, .int (if j + 1 = N then r else -1)), (0, .ref (ad 34))] ⟨rfl, rfl, trivial⟩ ?_
      rw [if_neg (show ¬ j + 1 = N by omega)]
      exact ih (j + 1) (by omega)
  refine j_aloadn B d_Ma_execute_0 rfl ?_
  refine j_getr B fl_Ma_21 (q_34) rfl d_Ma_execute_1 ?_
  refine j_cVt B (ok_Ta_clear x) cv_Ta_clear ml_Ma_39 (q_37) rfl rfl ⟨rfl, rfl, by decide, by decide⟩ ⟨Nat.zero_le _, Nat.zero_le _⟩ hml (Nat.le_of_ble_eq_true rfl) rfl d_Ma_execute_4 ?_
  refine j_aloadn B d_Ma_execute_7 rfl ?_
  refine j_iconst (v := 0) B d_Ma_execute_8 (by decide) ?_
  refine j_puti B kX_inj fs_Ma_42 (q_34) rfl d_Ma_execute_9 ?_
  refine j_aloadn B d_Ma_execute_12 rfl ?_
  refine j_iloadn B d_Ma_execute_13 rfl ?_
  refine j_cVt B (hE) cv_Ma_enter ml_Ma_46 (q_34) rfl rfl ⟨rfl, rfl, by decide, by decide⟩ ⟨Nat.zero_le _, Nat.zero_le _⟩ hml (Nat.le_of_ble_eq_true rfl) rfl d_Ma_execute_14 ?_
  refine j_istoren B d_Ma_execute_17 (by decide) ?_
  refine j_loc [(2, .int (-1)), (0, .ref (ad 34))] ⟨rfl, rfl, trivial⟩ ?_
  exact loop (N - 1) 0 (by omega)
end
section
/-! THE REFERENCE'S CELLS: the object, its 29 arrays: 1 parent, 2 texts, 3 statement, 4 number, 5 codes, 6 letter, 7 operand, 8 headOf, 9 actions, 10 filter, 11 landing, 12 next, 13 sites, 14 siteFirst, 15 siteLast, 16 siteHead, 17 rowKind, 18 rowHead, 19 around, 20 nextCatch, 21 ending, 22 rowNumber, 23 function, 24 at, 25 place, 26 caughts, 27 caught, 28 counts, 29 outs -/
def lenM : List Nat := [8, 6, 120, 120, 6, 768, 768, 768, 6, 288, 288, 288, 6, 384, 384, 384, 7, 7, 7, 7, 7, 7, 8, 8, 8, 8, 192, 6, 60]
def sM (k : Nat) : tm_Sh := if k = 0 then .inl (10, [none, none, some 1, some 2, some 3, some 4, some 5, some 6, some 7, some 8, some 9, some 10, some 11, some 12, some 13, some 14, some 15, some 16, none, some 17, some 18, some 19, some 20, some 21, some 22, none, some 23, some 24, some 25, some 26, some 27, none, none, none, none, none, some 28, some 29]) else .inr (.inl (lenM.getD (k - 1) 0))
def kM (k : Nat) : tm_K := (0, 0, k)
theorem kM_inj : ∀ a b, kM a = kM b → a = b := fun a b h => by simpa [kM] using h
abbrev wM (ad : Nat → Nat) (aC : Nat → ClassId) (x : tm_M) : Nat → va_E := tw ad aC sM kM x
/-- a contract of the reference -/
abbrev OkM (l : Launch) (y : MethodName) (b : ByteArray) (mL : Nat) (ret : Option FieldType) (rm : Room) (D : va_G) (aC : Nat → ClassId) (ad : Nat → Nat) (av : List Value) (x : tm_M) (o : Option Value) (x' : tm_M) : Prop := Ok l y b mL ret rm D aC 30 ad av (wM ad aC x) o (wM ad aC x')
theorem m_0 : 0 < 30 ∧ sM 0 = .inl (10, [none, none, some 1, some 2, some 3, some 4, some 5, some 6, some 7, some 8, some 9, some 10, some 11, some 12, some 13, some 14, some 15, some 16, none, some 17, some 18, some 19, some 20, some 21, some 22, none, some 23, some 24, some 25, some 26, some 27, none, none, none, none, none, some 28, some 29]) ∧ kM 0 = (0, 0, 0) := ⟨by decide, rfl, rfl⟩
theorem m_1 : 1 < 30 ∧ sM 1 = .inr (.inl 8) ∧ kM 1 = (0, 0, 1) := ⟨by decide, rfl, rfl⟩
theorem m_2 : 2 < 30 ∧ sM 2 = .inr (.inl 6) ∧ kM 2 = (0, 0, 2) := ⟨by decide, rfl, rfl⟩
theorem m_3 : 3 < 30 ∧ sM 3 = .inr (.inl 120) ∧ kM 3 = (0, 0, 3) := ⟨by decide, rfl, rfl⟩
theorem m_4 : 4 < 30 ∧ sM 4 = .inr (.inl 120) ∧ kM 4 = (0, 0, 4) := ⟨by decide, rfl, rfl⟩
theorem m_5 : 5 < 30 ∧ sM 5 = .inr (.inl 6) ∧ kM 5 = (0, 0, 5) := ⟨by decide, rfl, rfl⟩
theorem m_6 : 6 < 30 ∧ sM 6 = .inr (.inl 768) ∧ kM 6 = (0, 0, 6) := ⟨by decide, rfl, rfl⟩
theorem m_7 : 7 < 30 ∧ sM 7 = .inr (.inl 768) ∧ kM 7 = (0, 0, 7) := ⟨by decide, rfl, rfl⟩
theorem m_8 : 8 < 30 ∧ sM 8 = .inr (.inl 768) ∧ kM 8 = (0, 0, 8) := ⟨by decide, rfl, rfl⟩
theorem m_9 : 9 < 30 ∧ sM 9 = .inr (.inl 6) ∧ kM 9 = (0, 0, 9) := ⟨by decide, rfl, rfl⟩
theorem m_10 : 10 < 30 ∧ sM 10 = .inr (.inl 288) ∧ kM 10 = (0, 0, 10) := ⟨by decide, rfl, rfl⟩
theorem m_11 : 11 < 30 ∧ sM 11 = .inr (.inl 288) ∧ kM 11 = (0, 0, 11) := ⟨by decide, rfl, rfl⟩
theorem m_12 : 12 < 30 ∧ sM 12 = .inr (.inl 288) ∧ kM 12 = (0, 0, 12) := ⟨by decide, rfl, rfl⟩
theorem m_13 : 13 < 30 ∧ sM 13 = .inr (.inl 6) ∧ kM 13 = (0, 0, 13) := ⟨by decide, rfl, rfl⟩
theorem m_14 : 14 < 30 ∧ sM 14 = .inr (.inl 384) ∧ kM 14 = (0, 0, 14) := ⟨by decide, rfl, rfl⟩
theorem m_15 : 15 < 30 ∧ sM 15 = .inr (.inl 384) ∧ kM 15 = (0, 0, 15) := ⟨by decide, rfl, rfl⟩
theorem m_16 : 16 < 30 ∧ sM 16 = .inr (.inl 384) ∧ kM 16 = (0, 0, 16) := ⟨by decide, rfl, rfl⟩
theorem m_17 : 17 < 30 ∧ sM 17 = .inr (.inl 7) ∧ kM 17 = (0, 0, 17) := ⟨by decide, rfl, rfl⟩
theorem m_18 : 18 < 30 ∧ sM 18 = .inr (.inl 7) ∧ kM 18 = (0, 0, 18) := ⟨by decide, rfl, rfl⟩
theorem m_19 : 19 < 30 ∧ sM 19 = .inr (.inl 7) ∧ kM 19 = (0, 0, 19) := ⟨by decide, rfl, rfl⟩
theorem m_20 : 20 < 30 ∧ sM 20 = .inr (.inl 7) ∧ kM 20 = (0, 0, 20) := ⟨by decide, rfl, rfl⟩
theorem m_21 : 21 < 30 ∧ sM 21 = .inr (.inl 7) ∧ kM 21 = (0, 0, 21) := ⟨by decide, rfl, rfl⟩
theorem m_22 : 22 < 30 ∧ sM 22 = .inr (.inl 7) ∧ kM 22 = (0, 0, 22) := ⟨by decide, rfl, rfl⟩
theorem m_23 : 23 < 30 ∧ sM 23 = .inr (.inl 8) ∧ kM 23 = (0, 0, 23) := ⟨by decide, rfl, rfl⟩
theorem m_24 : 24 < 30 ∧ sM 24 = .inr (.inl 8) ∧ kM 24 = (0, 0, 24) := ⟨by decide, rfl, rfl⟩
theorem m_25 : 25 < 30 ∧ sM 25 = .inr (.inl 8) ∧ kM 25 = (0, 0, 25) := ⟨by decide, rfl, rfl⟩
theorem m_26 : 26 < 30 ∧ sM 26 = .inr (.inl 8) ∧ kM 26 = (0, 0, 26) := ⟨by decide, rfl, rfl⟩
theorem m_27 : 27 < 30 ∧ sM 27 = .inr (.inl 192) ∧ kM 27 = (0, 0, 27) := ⟨by decide, rfl, rfl⟩
theorem m_28 : 28 < 30 ∧ sM 28 = .inr (.inl 6) ∧ kM 28 = (0, 0, 28) := ⟨by decide, rfl, rfl⟩
theorem m_29 : 29 < 30 ∧ sM 29 = .inr (.inl 60) ∧ kM 29 = (0, 0, 29) := ⟨by decide, rfl, rfl⟩
set_option maxRecDepth 100000 in
theorem ok_Mo_thrown {l : Launch} {D : va_G} {aC : Nat → ClassId} {ad : Nat → Nat} (x : tm_M) :
    OkM l y_Mo_thrown b_Mo_thrown 1 (some .int) (rom 0 0) D aC ad [.ref (ad 0)] x (some (.int (x.1 (0, 0, 0) 0))) x := by
  refine ok_start (by decide) (Nat.le_of_ble_eq_true rfl) rfl ?_
  intro p e s m args below meth c B hr hlk hml
  have B : Cx p s m c args b_Mo_thrown R_Mo D aC (rg 30 ad) 30 ad := B
  refine j_aloadn B d_Mo_thrown_0 rfl ?_
  refine j_geti B fl_Mo_101 (m_0) rfl d_Mo_thrown_1 ?_
  exact j_iret B hr hlk d_Mo_thrown_4 (rfl) (rfl)
def fv (b1 b2 : Int32) : Int32 := if b1 = 0 then (if b2 = 0 then 0 else 2) else 1
set_option maxRecDepth 100000 in
theorem ok_Mo_fails {l : Launch} {D : va_G} {aC : Nat → ClassId} {ad : Nat → Nat} (x : tm_M) (u v : Int32) :
    OkM l y_Mo_fails b_Mo_fails 3 (some .boolean) (rom 0 0) D aC ad [.ref (ad 0), .int u, .int v] x (some (.int (bI (0 < fv u v)))) (sI x (0, 0, 0) 0 (fv u v)) := by
  refine ok_start (by decide) (Nat.le_of_ble_eq_true rfl) rfl ?_
  intro p e s m args below meth c B hr hlk hml
  have B : Cx p s m c args b_Mo_fails R_Mo D aC (rg 30 ad) 30 ad := B
  refine j_aloadn B d_Mo_fails_0 rfl ?_
  refine j_iloadn B d_Mo_fails_1 rfl ?_
  refine j_if_eq (tgt := 9) B d_Mo_fails_2 (by decide) (fun h2 => ?_) (fun h2 => ?_)
  · -- yes
    refine j_iloadn B d_Mo_fails_9 rfl ?_
    refine j_if_eq (tgt := 17) B d_Mo_fails_10 (by decide) (fun h10 => ?_) (fun h10 => ?_)
    · -- yes
      refine j_iconst (v := 0) B d_Mo_fails_17 (by decide) ?_
      refine j_topi (fv u v) (by unfold fv; first | (rw [if_neg h2]) | (rw [if_pos h2, if_neg h10]) | (rw [if_pos h2, if_pos h10])) ?_
      refine j_puti B kM_inj fs_Mo_101 (m_0) rfl d_Mo_fails_18 ?_
      refine j_aloadn B d_Mo_fails_21 rfl ?_
      refine j_geti B fl_Mo_101 (m_0) rfl d_Mo_fails_22 ?_
      refine j_topi (fv u v) rI ?_
      refine j_if_le (tgt := 32) B d_Mo_fails_25 (by decide) (fun h25 => ?_) (fun h25 => ?_)
      · -- yes
        refine j_iconst (v := 0) B d_Mo_fails_32 (by decide) ?_
        exact j_zret B hr hlk d_Mo_fails_33 (by first | exact Or.inl rfl | exact Or.inr rfl) (by first | exact sv (bI_f (Int32.not_lt.mpr h25)) | exact sv (bI_t (Int32.not_le.mp h25))) (rfl)
      · -- no
        refine j_iconst (v := 1) B d_Mo_fails_28 (by decide) ?_
        refine j_goto (tgt := 33) B d_Mo_fails_29 (by decide) ?_
        exact j_zret B hr hlk d_Mo_fails_33 (by first | exact Or.inl rfl | exact Or.inr rfl) (by first | exact sv (bI_f (Int32.not_lt.mpr h25)) | exact sv (bI_t (Int32.not_le.mp h25))) (rfl)
    · -- no
      refine j_iconst (v := 2) B d_Mo_fails_13 (by decide) ?_
      refine j_goto (tgt := 18) B d_Mo_fails_14 (by decide) ?_
      refine j_topi (fv u v) (by unfold fv; first | (rw [if_neg h2]) | (rw [if_pos h2, if_neg h10]) | (rw [if_pos h2, if_pos h10])) ?_
      refine j_puti B kM_inj fs_Mo_101 (m_0) rfl d_Mo_fails_18 ?_
      refine j_aloadn B d_Mo_fails_21 rfl ?_
      refine j_geti B fl_Mo_101 (m_0) rfl d_Mo_fails_22 ?_
      refine j_topi (fv u v) rI ?_
      refine j_if_le (tgt := 32) B d_Mo_fails_25 (by decide) (fun h25 => ?_) (fun h25 => ?_)
      · -- yes
        refine j_iconst (v := 0) B d_Mo_fails_32 (by decide) ?_
        exact j_zret B hr hlk d_Mo_fails_33 (by first | exact Or.inl rfl | exact Or.inr rfl) (by first | exact sv (bI_f (Int32.not_lt.mpr h25)) | exact sv (bI_t (Int32.not_le.mp h25))) (rfl)
      · -- no
        refine j_iconst (v := 1) B d_Mo_fails_28 (by decide) ?_
        refine j_goto (tgt := 33) B d_Mo_fails_29 (by decide) ?_
        exact j_zret B hr hlk d_Mo_fails_33 (by first | exact Or.inl rfl | exact Or.inr rfl) (by first | exact sv (bI_f (Int32.not_lt.mpr h25)) | exact sv (bI_t (Int32.not_le.mp h25))) (rfl)
  · -- no
    refine j_iconst (v := 1) B d_Mo_fails_5 (by decide) ?_
    refine j_goto (tgt := 18) B d_Mo_fails_6 (by decide) ?_
    refine j_topi (fv u v) (by unfold fv; first | (rw [if_neg h2]) | (rw [if_pos h2, if_neg h10]) | (rw [if_pos h2, if_pos h10])) ?_
    refine j_puti B kM_inj fs_Mo_101 (m_0) rfl d_Mo_fails_18 ?_
    refine j_aloadn B d_Mo_fails_21 rfl ?_
    refine j_geti B fl_Mo_101 (m_0) rfl d_Mo_fails_22 ?_
    refine j_topi (fv u v) rI ?_
    refine j_if_le (tgt := 32) B d_Mo_fails_25 (by decide) (fun h25 => ?_) (fun h25 => ?_)
    · -- yes
      refine j_iconst (v := 0) B d_Mo_fails_32 (by decide) ?_
      exact j_zret B hr hlk d_Mo_fails_33 (by first | exact Or.inl rfl | exact Or.inr rfl) (by first | exact sv (bI_f (Int32.not_lt.mpr h25)) | exact sv (bI_t (Int32.not_le.mp h25))) (rfl)
    · -- no
      refine j_iconst (v := 1) B d_Mo_fails_28 (by decide) ?_
      refine j_goto (tgt := 33) B d_Mo_fails_29 (by decide) ?_
      exact j_zret B hr hlk d_Mo_fails_33 (by first | exact Or.inl rfl | exact Or.inr rfl) (by first | exact sv (bI_f (Int32.not_lt.mpr h25)) | exact sv (bI_t (Int32.not_le.mp h25))) (rfl)
set_option maxRecDepth 100000 in
theorem ok_Mo_outside {l : Launch} {D : va_G} {aC : Nat → ClassId} {ad : Nat → Nat} (x : tm_M) (v lo hi : Int32) :
    OkM l y_Mo_outside b_Mo_outside 3 (some .boolean) (rom 0 0) D aC ad [.int v, .int lo, .int hi] x (some (.int (bI (v < lo ∨ hi < v)))) x := by
  refine ok_start (by decide) (Nat.le_of_ble_eq_true rfl) rfl ?_
  intro p e s m args below meth c B hr hlk hml
  have B : Cx p s m c args b_Mo_outside R_Mo D aC (rg 30 ad) 30 ad := B
  refine j_iloadn B d_Mo_outside_0 rfl ?_
  refine j_iloadn B d_Mo_outside_1 rfl ?_
  refine j_icmp_lt (tgt := 10) B d_Mo_outside_2 (by decide) (fun h2 => ?_) (fun h2 => ?_)
  · -- yes
    refine j_iconst (v := 1) B d_Mo_outside_10 (by decide) ?_
    refine j_goto (tgt := 15) B d_Mo_outside_11 (by decide) ?_
    exact j_zret B hr hlk d_Mo_outside_15 (by first | exact Or.inl rfl | exact Or.inr rfl) (by first | exact sv (bI_t (Or.inl h2)) | exact sv (bI_t (Or.inr (Int32.not_le.mp h7))) | exact sv (bI_f (fun z => z.elim h2 (Int32.not_lt.mpr h7)))) (rfl)
  · -- no
    refine j_iloadn B d_Mo_outside_5 rfl ?_
    refine j_iloadn B d_Mo_outside_6 rfl ?_
    refine j_icmp_le (tgt := 14) B d_Mo_outside_7 (by decide) (fun h7 => ?_) (fun h7 => ?_)
    · -- yes
      refine j_iconst (v := 0) B d_Mo_outside_14 (by decide) ?_
      exact j_zret B hr hlk d_Mo_outside_15 (by first | exact Or.inl rfl | exact Or.inr rfl) (by first | exact sv (bI_t (Or.inl h2)) | exact sv (bI_t (Or.inr (Int32.not_le.mp h7))) | exact sv (bI_f (fun z => z.elim h2 (Int32.not_lt.mpr h7)))) (rfl)
    · -- no
      refine j_iconst (v := 1) B d_Mo_outside_10 (by decide) ?_
      refine j_goto (tgt := 15) B d_Mo_outside_11 (by decide) ?_
      exact j_zret B hr hlk d_Mo_outside_15 (by first | exact Or.inl rfl | exact Or.inr rfl) (by first | exact sv (bI_t (Or.inl h2)) | exact sv (bI_t (Or.inr (Int32.not_le.mp h7))) | exact sv (bI_f (fun z => z.elim h2 (Int32.not_lt.mpr h7)))) (rfl)
theorem fv1 {u v : Int32} (h : ¬ u = 0) : fv u v = 1 := if_neg h
theorem fv2 {u v : Int32} (h : u = 0) (h2 : ¬ v = 0) : fv u v = 2 := (if_pos h).trans (if_neg h2)
theorem fv0 {u v : Int32} (h : u = 0) (h2 : v = 0) : fv u v = 0 := (if_pos h).trans (if_pos h2)
theorem bI1 {b : Prop} [Decidable b] (h : b) : ¬ bI b = 0 := by rw [bI_t h]; decide
set_option maxRecDepth 100000 in
theorem ok_Mo_type_1 {l : Launch} {D : va_G} {aC : Nat → ClassId} {ad : Nat → Nat} (x : tm_M) (k : Int32) (h1 : (k < -1 ∨ x.1 (0, 0, 0) 1 - 1 < k)) :
    OkM l y_Mo_type b_Mo_type 2 (some .int) (rom 1 22) D aC ad [.ref (ad 0), .int k] x (some (.int 0)) (sI x (0, 0, 0) 0 1) := by
  refine ok_start (by decide) (Nat.le_of_ble_eq_true rfl) rfl ?_
  intro p e s m args below meth c B hr hlk hml
  have B : Cx p s m c args b_Mo_type R_Mo D aC (rg 30 ad) 30 ad := B
  refine j_aloadn B d_Mo_type_0 rfl ?_
  refine j_iloadn B d_Mo_type_1 rfl ?_
  refine j_iconst (v := (-1)) B d_Mo_type_2 (by decide) ?_
  refine j_aloadn B d_Mo_type_3 rfl ?_
  refine j_geti B fl_Mo_7 (m_0) rfl d_Mo_type_4 ?_
  refine j_iconst (v := 1) B d_Mo_type_7 (by decide) ?_
  refine j_isub B d_Mo_type_8 ?_
  refine j_cS B (ok_Mo_outside x k (-1) (x.1 (0, 0, 0) 1 - 1)) cs_Mo_outside ml_Mo_104 rfl ⟨rfl, rfl, by decide, by decide⟩ ⟨Nat.zero_le _, Nat.zero_le _⟩ hml (Nat.le_of_ble_eq_true rfl) rfl d_Mo_type_9 ?_
  refine j_aloadn B d_Mo_type_12 rfl ?_
  refine j_geti B fl_Mo_7 (m_0) rfl d_Mo_type_13 ?_
  refine j_bipush (v := 8) B d_Mo_type_16 (by decide) ?_
  refine j_icmp_ne (tgt := 25) B d_Mo_type_18 (by decide) (fun h18 => ?_) (fun h18 => ?_)
  · -- yes
    refine j_iconst (v := 0) B d_Mo_type_25 (by decide) ?_
    refine j_cVt B (ok_Mo_fails x (bI (k < -1 ∨ x.1 (0, 0, 0) 1 - 1 < k)) _) cv_Mo_fails ml_Mo_108 (m_0) rfl rfl ⟨rfl, rfl, by decide, by decide⟩ ⟨Nat.zero_le _, Nat.zero_le _⟩ hml (Nat.le_of_ble_eq_true rfl) rfl d_Mo_type_26 ?_
    refine j_if_eq (tgt := 34) B d_Mo_type_29 (by decide) (fun h29 => (show False from bI_e h29 (by rw [fv1 (bI1 h1)]; decide)).elim) (fun h29 => ?_)
    refine j_iconst (v := 0) B d_Mo_type_32 (by decide) ?_
    exact j_iret B hr hlk d_Mo_type_33 (rfl) (by rw [fv1 (bI1 h1)])
  · -- no
    refine j_iconst (v := 1) B d_Mo_type_21 (by decide) ?_
    refine j_goto (tgt := 26) B d_Mo_type_22 (by decide) ?_
    refine j_cVt B (ok_Mo_fails x (bI (k < -1 ∨ x.1 (0, 0, 0) 1 - 1 < k)) _) cv_Mo_fails ml_Mo_108 (m_0) rfl rfl ⟨rfl, rfl, by decide, by decide⟩ ⟨Nat.zero_le _, Nat.zero_le _⟩ hml (Nat.le_of_ble_eq_true rfl) rfl d_Mo_type_26 ?_
    refine j_if_eq (tgt := 34) B d_Mo_type_29 (by decide) (fun h29 => (show False from bI_e h29 (by rw [fv1 (bI1 h1)]; decide)).elim) (fun h29 => ?_)
    refine j_iconst (v := 0) B d_Mo_type_32 (by decide) ?_
    exact j_iret B hr hlk d_Mo_type_33 (rfl) (by rw [fv1 (bI1 h1)])
set_option maxRecDepth 100000 in
theorem ok_Mo_type_2 {l : Launch} {D : va_G} {aC : Nat → ClassId} {ad : Nat → Nat} (x : tm_M) (k : Int32) (ht : x.1 (0, 0, 0) 1 = nI 8) (h1 : ¬ (k < -1 ∨ x.1 (0, 0, 0) 1 - 1 < k)) :
    OkM l y_Mo_type b_Mo_type 2 (some .int) (rom 1 22) D aC ad [.ref (ad 0), .int k] x (some (.int 0)) (sI x (0, 0, 0) 0 2) := by
  refine ok_start (by decide) (Nat.le_of_ble_eq_true rfl) rfl ?_
  intro p e s m args below meth c B hr hlk hml
  have B : Cx p s m c args b_Mo_type R_Mo D aC (rg 30 ad) 30 ad := B
  refine j_aloadn B d_Mo_type_0 rfl ?_
  refine j_iloadn B d_Mo_type_1 rfl ?_
  refine j_iconst (v := (-1)) B d_Mo_type_2 (by decide) ?_
  refine j_aloadn B d_Mo_type_3 rfl ?_
  refine j_geti B fl_Mo_7 (m_0) rfl d_Mo_type_4 ?_
  refine j_iconst (v := 1) B d_Mo_type_7 (by decide) ?_
  refine j_isub B d_Mo_type_8 ?_
  refine j_cS B (ok_Mo_outside x k (-1) (x.1 (0, 0, 0) 1 - 1)) cs_Mo_outside ml_Mo_104 rfl ⟨rfl, rfl, by decide, by decide⟩ ⟨Nat.zero_le _, Nat.zero_le _⟩ hml (Nat.le_of_ble_eq_true rfl) rfl d_Mo_type_9 ?_
  refine j_aloadn B d_Mo_type_12 rfl ?_
  refine j_geti B fl_Mo_7 (m_0) rfl d_Mo_type_13 ?_
  refine j_bipush (v := 8) B d_Mo_type_16 (by decide) ?_
  refine j_icmp_ne (tgt := 25) B d_Mo_type_18 (by decide) (fun h18 => (show False from h18 (by rw [ht]; rfl)).elim) (fun h18 => ?_)
  refine j_iconst (v := 1) B d_Mo_type_21 (by decide) ?_
  refine j_goto (tgt := 26) B d_Mo_type_22 (by decide) ?_
  refine j_cVt B (ok_Mo_fails x (bI (k < -1 ∨ x.1 (0, 0, 0) 1 - 1 < k)) 1) cv_Mo_fails ml_Mo_108 (m_0) rfl rfl ⟨rfl, rfl, by decide, by decide⟩ ⟨Nat.zero_le _, Nat.zero_le _⟩ hml (Nat.le_of_ble_eq_true rfl) rfl d_Mo_type_26 ?_
  refine j_if_eq (tgt := 34) B d_Mo_type_29 (by decide) (fun h29 => (show False from bI_e h29 (by rw [fv2 (bI_f h1) (by decide)]; decide)).elim) (fun h29 => ?_)
  refine j_iconst (v := 0) B d_Mo_type_32 (by decide) ?_
  exact j_iret B hr hlk d_Mo_type_33 (rfl) (by rw [fv2 (bI_f h1) (by decide)])
set_option maxRecDepth 100000 in
theorem ok_Mo_type_0 {l : Launch} {D : va_G} {aC : Nat → ClassId} {ad : Nat → Nat} (x : tm_M) (k : Int32) {t : Nat} (ht : x.1 (0, 0, 0) 1 = nI t) (h8 : t < 8) (h1 : ¬ (k < -1 ∨ x.1 (0, 0, 0) 1 - 1 < k)) :
    OkM l y_Mo_type b_Mo_type 2 (some .int) (rom 1 22) D aC ad [.ref (ad 0), .int k] x (some (.int (nI t))) (sI (sA (sI x (0, 0, 0) 0 0) (0, 0, 1) t k) (0, 0, 0) 1 (nI (t + 1))) := by
  refine ok_start (by decide) (Nat.le_of_ble_eq_true rfl) rfl ?_
  intro p e s m args below meth c B hr hlk hml
  have B : Cx p s m c args b_Mo_type R_Mo D aC (rg 30 ad) 30 ad := B
  refine j_aloadn B d_Mo_type_0 rfl ?_
  refine j_iloadn B d_Mo_type_1 rfl ?_
  refine j_iconst (v := (-1)) B d_Mo_type_2 (by decide) ?_
  refine j_aloadn B d_Mo_type_3 rfl ?_
  refine j_geti B fl_Mo_7 (m_0) rfl d_Mo_type_4 ?_
  refine j_iconst (v := 1) B d_Mo_type_7 (by decide) ?_
  refine j_isub B d_Mo_type_8 ?_
  refine j_cS B (ok_Mo_outside x k (-1) (x.1 (0, 0, 0) 1 - 1)) cs_Mo_outside ml_Mo_104 rfl ⟨rfl, rfl, by decide, by decide⟩ ⟨Nat.zero_le _, Nat.zero_le _⟩ hml (Nat.le_of_ble_eq_true rfl) rfl d_Mo_type_9 ?_
  refine j_aloadn B d_Mo_type_12 rfl ?_
  refine j_geti B fl_Mo_7 (m_0) rfl d_Mo_type_13 ?_
  refine j_bipush (v := 8) B d_Mo_type_16 (by decide) ?_
  refine j_icmp_ne (tgt := 25) B d_Mo_type_18 (by decide) (fun h18 => ?_) (fun h18 => (show False from absurd ((nI_eq (a := t) (b := 8) (by omega) (by decide)).mp (ht ▸ h18)) (by omega)).elim)
  refine j_iconst (v := 0) B d_Mo_type_25 (by decide) ?_
  refine j_cVt B (ok_Mo_fails x (bI (k < -1 ∨ x.1 (0, 0, 0) 1 - 1 < k)) 0) cv_Mo_fails ml_Mo_108 (m_0) rfl rfl ⟨rfl, rfl, by decide, by decide⟩ ⟨Nat.zero_le _, Nat.zero_le _⟩ hml (Nat.le_of_ble_eq_true rfl) rfl d_Mo_type_26 ?_
  refine j_if_eq (tgt := 34) B d_Mo_type_29 (by decide) (fun h29 => ?_) (fun h29 => (show False from absurd (bI_ne h29) (by rw [fv0 (bI_f h1) rfl]; decide)).elim)
  refine j_x (sI x (0, 0, 0) 0 0) (by rw [fv0 (bI_f h1) rfl]) ?_
  refine j_aloadn B d_Mo_type_34 rfl ?_
  refine j_getr B fl_Mo_13 (m_0) rfl d_Mo_type_35 ?_
  refine j_aloadn B d_Mo_type_38 rfl ?_
  refine j_geti B fl_Mo_7 (m_0) rfl d_Mo_type_39 ?_
  refine j_iloadn B d_Mo_type_42 rfl ?_
  refine j_iast B kM_inj (m_1) (⟨by rw [rIj (by decide)]; exact ht, h8, by decide⟩) d_Mo_type_43 ?_
  refine j_aloadn B d_Mo_type_44 rfl ?_
  refine j_dup B d_Mo_type_45 rfl ?_
  refine j_geti B fl_Mo_7 (m_0) rfl d_Mo_type_46 ?_
  refine j_iconst (v := 1) B d_Mo_type_49 (by decide) ?_
  refine j_iadd B d_Mo_type_50 ?_
  refine j_topi (nI (t + 1)) (by rw [rAI, rIj (by decide), ht, nI_1]) ?_
  refine j_puti B kM_inj fs_Mo_7 (m_0) rfl d_Mo_type_51 ?_
  refine j_aloadn B d_Mo_type_54 rfl ?_
  refine j_geti B fl_Mo_7 (m_0) rfl d_Mo_type_55 ?_
  refine j_iconst (v := 1) B d_Mo_type_58 (by decide) ?_
  refine j_isub B d_Mo_type_59 ?_
  exact j_iret B hr hlk d_Mo_type_60 (sv (by rw [rI, nI_pred])) (rfl)
/-- the climb of the reference -/
def amF (P : Nat → Int32) (o : Int32) : Nat → Int32 → Int32
  | 0, t => bI (t = o)
  | r + 1, t => if t < 0 ∨ t = o then bI (t = o) else amF P o r (P t.toNatClampNeg)
set_option maxRecDepth 100000 in
theorem ok_Mo_isAnother {l : Launch} {D : va_G} {aC : Nat → ClassId} {ad : Nat → Nat} (x : tm_M) (u v : Int32) {t : Nat} (h8 : t ≤ 8) (hu : u = -1 ∨ ∃ a, a < t ∧ u = nI a) (hP : ∀ a, a < t → x.2 (0, 0, 1) a = -1 ∨ ∃ j, j < a ∧ x.2 (0, 0, 1) a = nI j) :
    OkM l y_Mo_isAnother b_Mo_isAnother 4 (some .boolean) (rom 0 0) D aC ad [.ref (ad 0), .int u, .int v] x (some (.int (amF (x.2 (0, 0, 1)) v 9 u))) x := by
  refine ok_start (by decide) (Nat.le_of_ble_eq_true rfl) rfl ?_
  intro p e s m args below meth c B hr hlk hml
  have B : Cx p s m c args b_Mo_isAnother R_Mo D aC (rg 30 ad) 30 ad := B
  have h8t := h8
  have fin : ∀ (k : Int32), bI (k = v) = (amF (x.2 (0, 0, 1)) v 9 u) → J p l e (rom 0 0) s m args below meth c D (rg 30 ad) 0 0 (MQ below (Qk D aC 30 ad (some (.int (amF (x.2 (0, 0, 1)) v 9 u))) (wM ad aC x)) args s 0 0 (rg 30 ad)) 30 ad (wM ad aC x) 4 21 [(3, .int k), (0, .ref (ad 0)), (1, .int u), (2, .int v)] [] := by
    intro k hB
    have hB := hB.symm
    refine j_iloadn B d_Mo_isAnother_21 rfl ?_
    refine j_iloadn B d_Mo_isAnother_22 rfl ?_
    refine j_icmp_ne (tgt := 30) B d_Mo_isAnother_23 (by decide) (fun h23 => ?_) (fun h23 => ?_)
    · -- yes
      refine j_iconst (v := 0) B d_Mo_isAnother_30 (by decide) ?_
      exact j_zret B hr hlk d_Mo_isAnother_31 (by first | exact Or.inl rfl | exact Or.inr rfl) (by first | exact sv (hB.trans (bI_f h23)) | exact sv (hB.trans (bI_t h23))) (rfl)
    · -- no
      refine j_iconst (v := 1) B d_Mo_isAnother_26 (by decide) ?_
      refine j_goto (tgt := 31) B d_Mo_isAnother_27 (by decide) ?_
      exact j_zret B hr hlk d_Mo_isAnother_31 (by first | exact Or.inl rfl | exact Or.inr rfl) (by first | exact sv (hB.trans (bI_f h23)) | exact sv (hB.trans (bI_t h23))) (rfl)
  have loop : ∀ (r : Nat) (k : Int32), (k = -1 ∨ ∃ a, a < r ∧ a < t ∧ k = nI a) → r ≤ 9 → amF (x.2 (0, 0, 1)) v r k = (amF (x.2 (0, 0, 1)) v 9 u) → J p l e (rom 0 0) s m args below meth c D (rg 30 ad) 0 0 (MQ below (Qk D aC 30 ad (some (.int (amF (x.2 (0, 0, 1)) v 9 u))) (wM ad aC x)) args s 0 0 (rg 30 ad)) 30 ad (wM ad aC x) 4 2 [(3, .int k), (0, .ref (ad 0)), (1, .int u), (2, .int v)] [] := by
    intro r
    induction r with
    | zero =>
      intro k hk hr9 hR
      rcases hk with rfl | ⟨a, h0, -⟩
      · have r := 0
        refine j_iloadn B d_Mo_isAnother_2 rfl ?_
        refine j_if_lt (tgt := 21) B d_Mo_isAnother_3 (by decide) (fun h3 => ?_) (fun h3 => (show False from h3 (by decide)).elim)
        exact fin (-1) hR
      · omega
    | succ r ih =>
      intro k hk hr9 hR
      rcases hk with rfl | ⟨a, h0, hat, rfl⟩
      · skip
        refine j_iloadn B d_Mo_isAnother_2 rfl ?_
        refine j_if_lt (tgt := 21) B d_Mo_isAnother_3 (by decide) (fun h3 => ?_) (fun h3 => (show False from h3 (by decide)).elim)
        exact fin (-1) (by rw [← hR]; unfold amF; rw [if_pos (Or.inl (by decide))])
      · skip
        refine j_iloadn B d_Mo_isAnother_2 rfl ?_
        refine j_if_lt (tgt := 21) B d_Mo_isAnother_3 (by decide) (fun h3 => (show False from nI_pos (by omega) h3).elim) (fun h3 => ?_)
        refine j_iloadn B d_Mo_isAnother_6 rfl ?_
        refine j_iloadn B d_Mo_isAnother_7 rfl ?_
        refine j_icmp_eq (tgt := 21) B d_Mo_isAnother_8 (by decide) (fun h8 => ?_) (fun h8 => ?_)
        · -- yes
          exact fin _ (by rw [← hR]; unfold amF; rw [if_pos (Or.inr h8)])
        · -- no
          refine j_aloadn B d_Mo_isAnother_11 rfl ?_
          refine j_getr B fl_Mo_13 (m_0) rfl d_Mo_isAnother_12 ?_
          refine j_iloadn B d_Mo_isAnother_15 rfl ?_
          refine j_iald B (m_1) (⟨rfl, by omega, by decide⟩) d_Mo_isAnother_16 ?_
          refine j_istoren B d_Mo_isAnother_17 (by decide) ?_
          refine j_goto (tgt := 2) B d_Mo_isAnother_18 (by decide) ?_
          refine j_loc [(3, .int (x.2 (0, 0, 1) a)), (0, .ref (ad 0)), (1, .int u), (2, .int v)] ⟨rfl, rfl, rfl, rfl, trivial⟩ ?_
          exact ih _ (by rcases hP a hat with h | ⟨j, hj, h⟩; exact Or.inl h; exact Or.inr ⟨j, by omega, by omega, h⟩) (by omega) (by rw [← hR]; exact (((if_neg (fun z => z.elim (nI_pos (by omega)) h8)).trans (by rw [nI_clamp (by omega)])).symm))
  refine j_iloadn B d_Mo_isAnother_0 rfl ?_
  refine j_istoren B d_Mo_isAnother_1 (by decide) ?_
  refine j_loc [(3, .int u), (0, .ref (ad 0)), (1, .int u), (2, .int v)] ⟨rfl, rfl, rfl, rfl, trivial⟩ ?_
  exact loop 9 u (by rcases hu with h | ⟨a, h1, h2⟩; exact Or.inl h; exact Or.inr ⟨a, by omega, h1, h2⟩) (by omega) rfl
def fitF (t s v : Int32) : Int32 := if s = 0 ∨ s = 6 then bI (¬ (v < 0 ∨ 99 < v)) else if s = 1 then bI (¬ (v < 0 ∨ 5 < v)) else if s = 2 then bI (¬ (v < 0 ∨ t - 1 < v)) else if s = 4 then bI (¬ (v < -1 ∨ t - 1 < v)) else if s = 3 ∨ s = 5 ∨ s = 7 then bI (v = 0) else 0
theorem sw07 {s : Int32} (h0 : ¬ s = 0) (h1 : ¬ s = 1) (h2 : ¬ s = 2) (h3 : ¬ s = 3) (h4 : ¬ s = 4) (h5 : ¬ s = 5) (h6 : ¬ s = 6) (h7 : ¬ s = 7) : s.toInt < 0 ∨ 7 < s.toInt := by
  have a0 : s.toInt ≠ 0 := fun q => h0 (Int32.toInt_inj.mp q)
  have a1 : s.toInt ≠ 1 := fun q => h1 (Int32.toInt_inj.mp q)
  have a2 : s.toInt ≠ 2 := fun q => h2 (Int32.toInt_inj.mp q)
  have a3 : s.toInt ≠ 3 := fun q => h3 (Int32.toInt_inj.mp q)
  have a4 : s.toInt ≠ 4 := fun q => h4 (Int32.toInt_inj.mp q)
  have a5 : s.toInt ≠ 5 := fun q => h5 (Int32.toInt_inj.mp q)
  have a6 : s.toInt ≠ 6 := fun q => h6 (Int32.toInt_inj.mp q)
  have a7 : s.toInt ≠ 7 := fun q => h7 (Int32.toInt_inj.mp q)
  omega
theorem bIn {b : Prop} [Decidable b] (h : ¬ bI b = 0) : bI (¬ b) = 0 := bI_f (fun z => z (bI_ne h))
theorem bIy {b : Prop} [Decidable b] (h : bI b = 0) : bI (¬ b) = 1 := bI_t (bI_e h)
set_option maxRecDepth 100000 in
theorem ok_Mo_fits {l : Launch} {D : va_G} {aC : Nat → ClassId} {ad : Nat → Nat} (x : tm_M) (k v : Int32) :
    OkM l y_Mo_fits b_Mo_fits 3 (some .boolean) (rom 1 22) D aC ad [.ref (ad 0), .int k, .int v] x (some (.int (fitF (x.1 (0, 0, 0) 1) k v))) x := by
  refine ok_start (by decide) (Nat.le_of_ble_eq_true rfl) rfl ?_
  intro p e s m args below meth c B hr hlk hml
  have B : Cx p s m c args b_Mo_fits R_Mo D aC (rg 30 ad) 30 ad := B
  by_cases e0 : k = 0
  · subst e0
    refine j_iloadn B d_Mo_fits_0 rfl ?_
    refine j_tabIn (tgt := 48) (off := 47) B d_Mo_fits_1 (by decide) (by decide) (by decide) (by decide) ?_
    refine j_iloadn B d_Mo_fits_48 rfl ?_
    refine j_iconst (v := 0) B d_Mo_fits_49 (by decide) ?_
    refine j_bipush (v := 99) B d_Mo_fits_50 (by decide) ?_
    refine j_cS B (ok_Mo_outside x v 0 99) cs_Mo_outside ml_Mo_104 rfl ⟨rfl, rfl, by decide, by decide⟩ ⟨Nat.zero_le _, Nat.zero_le _⟩ hml (Nat.le_of_ble_eq_true rfl) rfl d_Mo_fits_52 ?_
    refine j_if_ne (tgt := 62) B d_Mo_fits_55 (by decide) (fun h55 => ?_) (fun h55 => ?_)
    · -- yes
      refine j_iconst (v := 0) B d_Mo_fits_62 (by decide) ?_
      exact j_zret B hr hlk d_Mo_fits_63 (by first | exact Or.inl rfl | exact Or.inr rfl) (by first | exact sv ((show fitF (x.1 (0, 0, 0) 1) 0 v = bI (¬ (v < 0 ∨ 99 < v)) from by simp [fitF]).trans (bIn h55)) | exact sv ((show fitF (x.1 (0, 0, 0) 1) 0 v = bI (¬ (v < 0 ∨ 99 < v)) from by simp [fitF]).trans (bIy h55))) (rfl)
    · -- no
      refine j_iconst (v := 1) B d_Mo_fits_58 (by decide) ?_
      refine j_goto (tgt := 63) B d_Mo_fits_59 (by decide) ?_
      exact j_zret B hr hlk d_Mo_fits_63 (by first | exact Or.inl rfl | exact Or.inr rfl) (by first | exact sv ((show fitF (x.1 (0, 0, 0) 1) 0 v = bI (¬ (v < 0 ∨ 99 < v)) from by simp [fitF]).trans (bIn h55)) | exact sv ((show fitF (x.1 (0, 0, 0) 1) 0 v = bI (¬ (v < 0 ∨ 99 < v)) from by simp [fitF]).trans (bIy h55))) (rfl)
  by_cases e6 : k = 6
  · subst e6
    refine j_iloadn B d_Mo_fits_0 rfl ?_
    refine j_tabIn (tgt := 48) (off := 47) B d_Mo_fits_1 (by decide) (by decide) (by decide) (by decide) ?_
    refine j_iloadn B d_Mo_fits_48 rfl ?_
    refine j_iconst (v := 0) B d_Mo_fits_49 (by decide) ?_
    refine j_bipush (v := 99) B d_Mo_fits_50 (by decide) ?_
    refine j_cS B (ok_Mo_outside x v 0 99) cs_Mo_outside ml_Mo_104 rfl ⟨rfl, rfl, by decide, by decide⟩ ⟨Nat.zero_le _, Nat.zero_le _⟩ hml (Nat.le_of_ble_eq_true rfl) rfl d_Mo_fits_52 ?_
    refine j_if_ne (tgt := 62) B d_Mo_fits_55 (by decide) (fun h55 => ?_) (fun h55 => ?_)
    · -- yes
      refine j_iconst (v := 0) B d_Mo_fits_62 (by decide) ?_
      exact j_zret B hr hlk d_Mo_fits_63 (by first | exact Or.inl rfl | exact Or.inr rfl) (by first | exact sv ((show fitF (x.1 (0, 0, 0) 1) 6 v = bI (¬ (v < 0 ∨ 99 < v)) from by simp [fitF]).trans (bIn h55)) | exact sv ((show fitF (x.1 (0, 0, 0) 1) 6 v = bI (¬ (v < 0 ∨ 99 < v)) from by simp [fitF]).trans (bIy h55))) (rfl)
    · -- no
      refine j_iconst (v := 1) B d_Mo_fits_58 (by decide) ?_
      refine j_goto (tgt := 63) B d_Mo_fits_59 (by decide) ?_
      exact j_zret B hr hlk d_Mo_fits_63 (by first | exact Or.inl rfl | exact Or.inr rfl) (by first | exact sv ((show fitF (x.1 (0, 0, 0) 1) 6 v = bI (¬ (v < 0 ∨ 99 < v)) from by simp [fitF]).trans (bIn h55)) | exact sv ((show fitF (x.1 (0, 0, 0) 1) 6 v = bI (¬ (v < 0 ∨ 99 < v)) from by simp [fitF]).trans (bIy h55))) (rfl)
  by_cases e1 : k = 1
  · subst e1
    refine j_iloadn B d_Mo_fits_0 rfl ?_
    refine j_tabIn (tgt := 64) (off := 63) B d_Mo_fits_1 (by decide) (by decide) (by decide) (by decide) ?_
    refine j_iloadn B d_Mo_fits_64 rfl ?_
    refine j_iconst (v := 0) B d_Mo_fits_65 (by decide) ?_
    refine j_iconst (v := 5) B d_Mo_fits_66 (by decide) ?_
    refine j_cS B (ok_Mo_outside x v 0 5) cs_Mo_outside ml_Mo_104 rfl ⟨rfl, rfl, by decide, by decide⟩ ⟨Nat.zero_le _, Nat.zero_le _⟩ hml (Nat.le_of_ble_eq_true rfl) rfl d_Mo_fits_67 ?_
    refine j_if_ne (tgt := 77) B d_Mo_fits_70 (by decide) (fun h70 => ?_) (fun h70 => ?_)
    · -- yes
      refine j_iconst (v := 0) B d_Mo_fits_77 (by decide) ?_
      exact j_zret B hr hlk d_Mo_fits_78 (by first | exact Or.inl rfl | exact Or.inr rfl) (by first | exact sv ((show fitF (x.1 (0, 0, 0) 1) 1 v = bI (¬ (v < 0 ∨ 5 < v)) from by simp [fitF]).trans (bIn h70)) | exact sv ((show fitF (x.1 (0, 0, 0) 1) 1 v = bI (¬ (v < 0 ∨ 5 < v)) from by simp [fitF]).trans (bIy h70))) (rfl)
    · -- no
      refine j_iconst (v := 1) B d_Mo_fits_73 (by decide) ?_
      refine j_goto (tgt := 78) B d_Mo_fits_74 (by decide) ?_
      exact j_zret B hr hlk d_Mo_fits_78 (by first | exact Or.inl rfl | exact Or.inr rfl) (by first | exact sv ((show fitF (x.1 (0, 0, 0) 1) 1 v = bI (¬ (v < 0 ∨ 5 < v)) from by simp [fitF]).trans (bIn h70)) | exact sv ((show fitF (x.1 (0, 0, 0) 1) 1 v = bI (¬ (v < 0 ∨ 5 < v)) from by simp [fitF]).trans (bIy h70))) (rfl)
  by_cases e2 : k = 2
  · subst e2
    refine j_iloadn B d_Mo_fits_0 rfl ?_
    refine j_tabIn (tgt := 79) (off := 78) B d_Mo_fits_1 (by decide) (by decide) (by decide) (by decide) ?_
    refine j_iloadn B d_Mo_fits_79 rfl ?_
    refine j_iconst (v := 0) B d_Mo_fits_80 (by decide) ?_
    refine j_aloadn B d_Mo_fits_81 rfl ?_
    refine j_geti B fl_Mo_7 (m_0) rfl d_Mo_fits_82 ?_
    refine j_iconst (v := 1) B d_Mo_fits_85 (by decide) ?_
    refine j_isub B d_Mo_fits_86 ?_
    refine j_cS B (ok_Mo_outside x v 0 (x.1 (0, 0, 0) 1 - 1)) cs_Mo_outside ml_Mo_104 rfl ⟨rfl, rfl, by decide, by decide⟩ ⟨Nat.zero_le _, Nat.zero_le _⟩ hml (Nat.le_of_ble_eq_true rfl) rfl d_Mo_fits_87 ?_
    refine j_if_ne (tgt := 97) B d_Mo_fits_90 (by decide) (fun h90 => ?_) (fun h90 => ?_)
    · -- yes
      refine j_iconst (v := 0) B d_Mo_fits_97 (by decide) ?_
      exact j_zret B hr hlk d_Mo_fits_98 (by first | exact Or.inl rfl | exact Or.inr rfl) (by first | exact sv ((show fitF (x.1 (0, 0, 0) 1) 2 v = bI (¬ (v < 0 ∨ x.1 (0, 0, 0) 1 - 1 < v)) from by simp [fitF]).trans (bIn h90)) | exact sv ((show fitF (x.1 (0, 0, 0) 1) 2 v = bI (¬ (v < 0 ∨ x.1 (0, 0, 0) 1 - 1 < v)) from by simp [fitF]).trans (bIy h90))) (rfl)
    · -- no
      refine j_iconst (v := 1) B d_Mo_fits_93 (by decide) ?_
      refine j_goto (tgt := 98) B d_Mo_fits_94 (by decide) ?_
      exact j_zret B hr hlk d_Mo_fits_98 (by first | exact Or.inl rfl | exact Or.inr rfl) (by first | exact sv ((show fitF (x.1 (0, 0, 0) 1) 2 v = bI (¬ (v < 0 ∨ x.1 (0, 0, 0) 1 - 1 < v)) from by simp [fitF]).trans (bIn h90)) | exact sv ((show fitF (x.1 (0, 0, 0) 1) 2 v = bI (¬ (v < 0 ∨ x.1 (0, 0, 0) 1 - 1 < v)) from by simp [fitF]).trans (bIy h90))) (rfl)
  by_cases e4 : k = 4
  · subst e4
    refine j_iloadn B d_Mo_fits_0 rfl ?_
    refine j_tabIn (tgt := 99) (off := 98) B d_Mo_fits_1 (by decide) (by decide) (by decide) (by decide) ?_
    refine j_iloadn B d_Mo_fits_99 rfl ?_
    refine j_iconst (v := (-1)) B d_Mo_fits_100 (by decide) ?_
    refine j_aloadn B d_Mo_fits_101 rfl ?_
    refine j_geti B fl_Mo_7 (m_0) rfl d_Mo_fits_102 ?_
    refine j_iconst (v := 1) B d_Mo_fits_105 (by decide) ?_
    refine j_isub B d_Mo_fits_106 ?_
    refine j_cS B (ok_Mo_outside x v (-1) (x.1 (0, 0, 0) 1 - 1)) cs_Mo_outside ml_Mo_104 rfl ⟨rfl, rfl, by decide, by decide⟩ ⟨Nat.zero_le _, Nat.zero_le _⟩ hml (Nat.le_of_ble_eq_true rfl) rfl d_Mo_fits_107 ?_
    refine j_if_ne (tgt := 117) B d_Mo_fits_110 (by decide) (fun h110 => ?_) (fun h110 => ?_)
    · -- yes
      refine j_iconst (v := 0) B d_Mo_fits_117 (by decide) ?_
      exact j_zret B hr hlk d_Mo_fits_118 (by first | exact Or.inl rfl | exact Or.inr rfl) (by first | exact sv ((show fitF (x.1 (0, 0, 0) 1) 4 v = bI (¬ (v < -1 ∨ x.1 (0, 0, 0) 1 - 1 < v)) from by simp [fitF]).trans (bIn h110)) | exact sv ((show fitF (x.1 (0, 0, 0) 1) 4 v = bI (¬ (v < -1 ∨ x.1 (0, 0, 0) 1 - 1 < v)) from by simp [fitF]).trans (bIy h110))) (rfl)
    · -- no
      refine j_iconst (v := 1) B d_Mo_fits_113 (by decide) ?_
      refine j_goto (tgt := 118) B d_Mo_fits_114 (by decide) ?_
      exact j_zret B hr hlk d_Mo_fits_118 (by first | exact Or.inl rfl | exact Or.inr rfl) (by first | exact sv ((show fitF (x.1 (0, 0, 0) 1) 4 v = bI (¬ (v < -1 ∨ x.1 (0, 0, 0) 1 - 1 < v)) from by simp [fitF]).trans (bIn h110)) | exact sv ((show fitF (x.1 (0, 0, 0) 1) 4 v = bI (¬ (v < -1 ∨ x.1 (0, 0, 0) 1 - 1 < v)) from by simp [fitF]).trans (bIy h110))) (rfl)
  by_cases e3 : k = 3
  · subst e3
    refine j_iloadn B d_Mo_fits_0 rfl ?_
    refine j_tabIn (tgt := 119) (off := 118) B d_Mo_fits_1 (by decide) (by decide) (by decide) (by decide) ?_
    refine j_iloadn B d_Mo_fits_119 rfl ?_
    refine j_if_ne (tgt := 127) B d_Mo_fits_120 (by decide) (fun h120 => ?_) (fun h120 => ?_)
    · -- yes
      refine j_iconst (v := 0) B d_Mo_fits_127 (by decide) ?_
      exact j_zret B hr hlk d_Mo_fits_128 (by first | exact Or.inl rfl | exact Or.inr rfl) (by first | exact sv ((show fitF (x.1 (0, 0, 0) 1) 3 v = bI (v = 0) from by simp [fitF]).trans (bI_f h120)) | exact sv ((show fitF (x.1 (0, 0, 0) 1) 3 v = bI (v = 0) from by simp [fitF]).trans (bI_t h120))) (rfl)
    · -- no
      refine j_iconst (v := 1) B d_Mo_fits_123 (by decide) ?_
      refine j_goto (tgt := 128) B d_Mo_fits_124 (by decide) ?_
      exact j_zret B hr hlk d_Mo_fits_128 (by first | exact Or.inl rfl | exact Or.inr rfl) (by first | exact sv ((show fitF (x.1 (0, 0, 0) 1) 3 v = bI (v = 0) from by simp [fitF]).trans (bI_f h120)) | exact sv ((show fitF (x.1 (0, 0, 0) 1) 3 v = bI (v = 0) from by simp [fitF]).trans (bI_t h120))) (rfl)
  by_cases e5 : k = 5
  · subst e5
    refine j_iloadn B d_Mo_fits_0 rfl ?_
    refine j_tabIn (tgt := 119) (off := 118) B d_Mo_fits_1 (by decide) (by decide) (by decide) (by decide) ?_
    refine j_iloadn B d_Mo_fits_119 rfl ?_
    refine j_if_ne (tgt := 127) B d_Mo_fits_120 (by decide) (fun h120 => ?_) (fun h120 => ?_)
    · -- yes
      refine j_iconst (v := 0) B d_Mo_fits_127 (by decide) ?_
      exact j_zret B hr hlk d_Mo_fits_128 (by first | exact Or.inl rfl | exact Or.inr rfl) (by first | exact sv ((show fitF (x.1 (0, 0, 0) 1) 5 v = bI (v = 0) from by simp [fitF]).trans (bI_f h120)) | exact sv ((show fitF (x.1 (0, 0, 0) 1) 5 v = bI (v = 0) from by simp [fitF]).trans (bI_t h120))) (rfl)
    · -- no
      refine j_iconst (v := 1) B d_Mo_fits_123 (by decide) ?_
      refine j_goto (tgt := 128) B d_Mo_fits_124 (by decide) ?_
      exact j_zret B hr hlk d_Mo_fits_128 (by first | exact Or.inl rfl | exact Or.inr rfl) (by first | exact sv ((show fitF (x.1 (0, 0, 0) 1) 5 v = bI (v = 0) from by simp [fitF]).trans (bI_f h120)) | exact sv ((show fitF (x.1 (0, 0, 0) 1) 5 v = bI (v = 0) from by simp [fitF]).trans (bI_t h120))) (rfl)
  by_cases e7 : k = 7
  · subst e7
    refine j_iloadn B d_Mo_fits_0 rfl ?_
    refine j_tabIn (tgt := 119) (off := 118) B d_Mo_fits_1 (by decide) (by decide) (by decide) (by decide) ?_
    refine j_iloadn B d_Mo_fits_119 rfl ?_
    refine j_if_ne (tgt := 127) B d_Mo_fits_120 (by decide) (fun h120 => ?_) (fun h120 => ?_)
    · -- yes
      refine j_iconst (v := 0) B d_Mo_fits_127 (by decide) ?_
      exact j_zret B hr hlk d_Mo_fits_128 (by first | exact Or.inl rfl | exact Or.inr rfl) (by first | exact sv ((show fitF (x.1 (0, 0, 0) 1) 7 v = bI (v = 0) from by simp [fitF]).trans (bI_f h120)) | exact sv ((show fitF (x.1 (0, 0, 0) 1) 7 v = bI (v = 0) from by simp [fitF]).trans (bI_t h120))) (rfl)
    · -- no
      refine j_iconst (v := 1) B d_Mo_fits_123 (by decide) ?_
      refine j_goto (tgt := 128) B d_Mo_fits_124 (by decide) ?_
      exact j_zret B hr hlk d_Mo_fits_128 (by first | exact Or.inl rfl | exact Or.inr rfl) (by first | exact sv ((show fitF (x.1 (0, 0, 0) 1) 7 v = bI (v = 0) from by simp [fitF]).trans (bI_f h120)) | exact sv ((show fitF (x.1 (0, 0, 0) 1) 7 v = bI (v = 0) from by simp [fitF]).trans (bI_t h120))) (rfl)
  refine j_iloadn B d_Mo_fits_0 rfl ?_
  refine j_tabOut (tgt := 129) B d_Mo_fits_1 (sw07 e0 e1 e2 e3 e4 e5 e6 e7) (by decide) ?_
  refine j_iconst (v := 0) B d_Mo_fits_129 (by decide) ?_
  exact j_zret B hr hlk d_Mo_fits_130 (by first | exact Or.inl rfl | exact Or.inr rfl) (sv (by simp [fitF, e0, e1, e2, e3, e4, e5, e6, e7])) (rfl)
set_option maxRecDepth 100000 in
theorem ok_Mo_wipe_1 {l : Launch} {D : va_G} {aC : Nat → ClassId} {ad : Nat → Nat} (x : tm_M) (k : Int32) (h1 : (k < 0 ∨ 5 < k)) :
    OkM l y_Mo_wipe b_Mo_wipe 2 none (rom 1 22) D aC ad [.ref (ad 0), .int k] x none (sI x (0, 0, 0) 0 1) := by
  refine ok_start (by decide) (Nat.le_of_ble_eq_true rfl) rfl ?_
  intro p e s m args below meth c B hr hlk hml
  have B : Cx p s m c args b_Mo_wipe R_Mo D aC (rg 30 ad) 30 ad := B
  refine j_aloadn B d_Mo_wipe_0 rfl ?_
  refine j_iloadn B d_Mo_wipe_1 rfl ?_
  refine j_iconst (v := 0) B d_Mo_wipe_2 (by decide) ?_
  refine j_iconst (v := 5) B d_Mo_wipe_3 (by decide) ?_
  refine j_cS B (ok_Mo_outside x k 0 5) cs_Mo_outside ml_Mo_104 rfl ⟨rfl, rfl, by decide, by decide⟩ ⟨Nat.zero_le _, Nat.zero_le _⟩ hml (Nat.le_of_ble_eq_true rfl) rfl d_Mo_wipe_4 ?_
  refine j_iconst (v := 0) B d_Mo_wipe_7 (by decide) ?_
  refine j_cVt B (ok_Mo_fails x (bI (k < 0 ∨ 5 < k)) 0) cv_Mo_fails ml_Mo_108 (m_0) rfl rfl ⟨rfl, rfl, by decide, by decide⟩ ⟨Nat.zero_le _, Nat.zero_le _⟩ hml (Nat.le_of_ble_eq_true rfl) rfl d_Mo_wipe_8 ?_
  refine j_if_ne (tgt := 21) B d_Mo_wipe_11 (by decide) (fun h11 => ?_) (fun h11 => (show False from bI_e h11 (by rw [fv1 (bI1 h1)]; decide)).elim)
  exact j_vret B hr hlk d_Mo_wipe_21 (rfl) (by rw [fv1 (bI1 h1)])
theorem f_in {f : Nat} (hf : f < 6) : ¬ (nI f < 0 ∨ 5 < nI f) := fun z => z.elim (nI_pos (by omega)) (fun q => absurd (nIlt (c := 5) q (by decide) (by omega)) (by omega))
set_option maxRecDepth 100000 in
theorem ok_Mo_wipe_0 {l : Launch} {D : va_G} {aC : Nat → ClassId} {ad : Nat → Nat} {f : Nat} (hf : f < 6) (x : tm_M) :
    OkM l y_Mo_wipe b_Mo_wipe 2 none (rom 1 22) D aC ad [.ref (ad 0), .int (nI f)] x none (sA (sI x (0, 0, 0) 0 0) (0, 0, 2) f 0) := by
  refine ok_start (by decide) (Nat.le_of_ble_eq_true rfl) rfl ?_
  intro p e s m args below meth c B hr hlk hml
  have B : Cx p s m c args b_Mo_wipe R_Mo D aC (rg 30 ad) 30 ad := B
  refine j_aloadn B d_Mo_wipe_0 rfl ?_
  refine j_iloadn B d_Mo_wipe_1 rfl ?_
  refine j_iconst (v := 0) B d_Mo_wipe_2 (by decide) ?_
  refine j_iconst (v := 5) B d_Mo_wipe_3 (by decide) ?_
  refine j_cS B (ok_Mo_outside x (nI f) 0 5) cs_Mo_outside ml_Mo_104 rfl ⟨rfl, rfl, by decide, by decide⟩ ⟨Nat.zero_le _, Nat.zero_le _⟩ hml (Nat.le_of_ble_eq_true rfl) rfl d_Mo_wipe_4 ?_
  refine j_iconst (v := 0) B d_Mo_wipe_7 (by decide) ?_
  refine j_cVt B (ok_Mo_fails x (bI (nI f < 0 ∨ 5 < nI f)) 0) cv_Mo_fails ml_Mo_108 (m_0) rfl rfl ⟨rfl, rfl, by decide, by decide⟩ ⟨Nat.zero_le _, Nat.zero_le _⟩ hml (Nat.le_of_ble_eq_true rfl) rfl d_Mo_wipe_8 ?_
  refine j_if_ne (tgt := 21) B d_Mo_wipe_11 (by decide) (fun h11 => (show False from absurd (bI_ne h11) (by rw [fv0 (bI_f (f_in hf)) rfl]; decide)).elim) (fun h11 => ?_)
  refine j_x (sI x (0, 0, 0) 0 0) (by rw [fv0 (bI_f (f_in hf)) rfl]) ?_
  refine j_aloadn B d_Mo_wipe_14 rfl ?_
  refine j_getr B fl_Mo_17 (m_0) rfl d_Mo_wipe_15 ?_
  refine j_iloadn B d_Mo_wipe_18 rfl ?_
  refine j_iconst (v := 0) B d_Mo_wipe_19 (by decide) ?_
  refine j_iast B kM_inj (m_2) (⟨rfl, hf, by decide⟩) d_Mo_wipe_20 ?_
  exact j_vret B hr hlk d_Mo_wipe_21 (rfl) (rfl)
end

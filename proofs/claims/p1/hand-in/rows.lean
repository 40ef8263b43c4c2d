section
-- ===== PART A: goes FIRST, ahead of the names: the tables' words, and 'selects' of the private methods out of them =====
/-- a private method of a class that the tables say can be made, by its rows of tables_1 -/
def lw_okq (q : MethodName × Nat) : Prop := (q.1.cls ≠ "java/lang/invoke/MethodHandle" ∧ q.1.cls ≠ "java/lang/invoke/VarHandle") ∧ Cond.instantiable q.1.cls q.2 ∈ tables_1 ∧ Cond.privateMethod q.1 ∈ tables_1 ∧ Cond.instanceMethod q.1 ∈ tables_1
theorem lw_p0 : lw_okq (⟨"CheapPlanner$Tokens", "takeCode", "(I)Z"⟩, 9) := ⟨⟨by decide +kernel, by decide +kernel⟩, List.mem_of_getElem? (i := 38) (by decide +kernel), List.mem_of_getElem? (i := 479) (by decide +kernel), List.mem_of_getElem? (i := 480) (by decide +kernel)⟩
theorem lw_p1 : lw_okq (⟨"CheapPlanner", "hasStep", "(I)Z"⟩, 13) := ⟨⟨by decide +kernel, by decide +kernel⟩, List.mem_of_getElem? (i := 30) (by decide +kernel), List.mem_of_getElem? (i := 499) (by decide +kernel), List.mem_of_getElem? (i := 500) (by decide +kernel)⟩
theorem lw_p2 : lw_okq (⟨"CheapPlanner", "forgetProblem", "()V"⟩, 13) := ⟨⟨by decide +kernel, by decide +kernel⟩, List.mem_of_getElem? (i := 30) (by decide +kernel), List.mem_of_getElem? (i := 511) (by decide +kernel), List.mem_of_getElem? (i := 512) (by decide +kernel)⟩
theorem lw_p3 : lw_okq (⟨"CheapPlanner$Tokens", "addWord", "(II)V"⟩, 9) := ⟨⟨by decide +kernel, by decide +kernel⟩, List.mem_of_getElem? (i := 38) (by decide +kernel), List.mem_of_getElem? (i := 531) (by decide +kernel), List.mem_of_getElem? (i := 532) (by decide +kernel)⟩
theorem lw_p4 : lw_okq (⟨"CheapPlanner$Tokens", "nameCode", "(II)J"⟩, 9) := ⟨⟨by decide +kernel, by decide +kernel⟩, List.mem_of_getElem? (i := 38) (by decide +kernel), List.mem_of_getElem? (i := 535) (by decide +kernel), List.mem_of_getElem? (i := 536) (by decide +kernel)⟩
theorem lw_p5 : lw_okq (⟨"CheapPlanner$Tokens", "add", "(IIIJ)V"⟩, 9) := ⟨⟨by decide +kernel, by decide +kernel⟩, List.mem_of_getElem? (i := 38) (by decide +kernel), List.mem_of_getElem? (i := 539) (by decide +kernel), List.mem_of_getElem? (i := 540) (by decide +kernel)⟩
theorem lw_p6 : lw_okq (⟨"CheapPlanner$Reader", "openDefinition", "(Ljava/lang/String;)V"⟩, 4) := ⟨⟨by decide +kernel, by decide +kernel⟩, List.mem_of_getElem? (i := 215) (by decide +kernel), List.mem_of_getElem? (i := 552) (by decide +kernel), List.mem_of_getElem? (i := 553) (by decide +kernel)⟩
theorem lw_p7 : lw_okq (⟨"java/lang/Throwable", "fillInStackTrace", "(I)Ljava/lang/Throwable;"⟩, 6) := ⟨⟨by decide +kernel, by decide +kernel⟩, List.mem_of_getElem? (i := 604) (by decide +kernel), List.mem_of_getElem? (i := 602) (by decide +kernel), List.mem_of_getElem? (i := 603) (by decide +kernel)⟩
theorem lw_p8 : lw_okq (⟨"CheapPlanner$Reader", "readTypes", "()V"⟩, 4) := ⟨⟨by decide +kernel, by decide +kernel⟩, List.mem_of_getElem? (i := 215) (by decide +kernel), List.mem_of_getElem? (i := 701) (by decide +kernel), List.mem_of_getElem? (i := 702) (by decide +kernel)⟩
theorem lw_p9 : lw_okq (⟨"CheapPlanner$Reader", "readNew", "(LCheapPlanner$Names;I)V"⟩, 4) := ⟨⟨by decide +kernel, by decide +kernel⟩, List.mem_of_getElem? (i := 215) (by decide +kernel), List.mem_of_getElem? (i := 709) (by decide +kernel), List.mem_of_getElem? (i := 710) (by decide +kernel)⟩
theorem lw_p10 : lw_okq (⟨"CheapPlanner$Reader", "readPredicates", "()V"⟩, 4) := ⟨⟨by decide +kernel, by decide +kernel⟩, List.mem_of_getElem? (i := 215) (by decide +kernel), List.mem_of_getElem? (i := 723) (by decide +kernel), List.mem_of_getElem? (i := 724) (by decide +kernel)⟩
theorem lw_p11 : lw_okq (⟨"CheapPlanner$Reader", "readParameters", "(LCheapPlanner$Names;I)V"⟩, 4) := ⟨⟨by decide +kernel, by decide +kernel⟩, List.mem_of_getElem? (i := 215) (by decide +kernel), List.mem_of_getElem? (i := 728) (by decide +kernel), List.mem_of_getElem? (i := 729) (by decide +kernel)⟩
theorem lw_p12 : lw_okq (⟨"CheapPlanner$Reader", "readTyped", "(LCheapPlanner$Names;I)V"⟩, 4) := ⟨⟨by decide +kernel, by decide +kernel⟩, List.mem_of_getElem? (i := 215) (by decide +kernel), List.mem_of_getElem? (i := 733) (by decide +kernel), List.mem_of_getElem? (i := 734) (by decide +kernel)⟩
theorem lw_p13 : lw_okq (⟨"CheapPlanner$Reader", "readType", "()I"⟩, 4) := ⟨⟨by decide +kernel, by decide +kernel⟩, List.mem_of_getElem? (i := 215) (by decide +kernel), List.mem_of_getElem? (i := 738) (by decide +kernel), List.mem_of_getElem? (i := 739) (by decide +kernel)⟩
theorem lw_p14 : lw_okq (⟨"CheapPlanner$Reader", "readAction", "(I)V"⟩, 4) := ⟨⟨by decide +kernel, by decide +kernel⟩, List.mem_of_getElem? (i := 215) (by decide +kernel), List.mem_of_getElem? (i := 746) (by decide +kernel), List.mem_of_getElem? (i := 747) (by decide +kernel)⟩
theorem lw_p15 : lw_okq (⟨"CheapPlanner$ClauseReader", "readMember", "(LCheapPlanner$Clause;Z)V"⟩, 4) := ⟨⟨by decide +kernel, by decide +kernel⟩, List.mem_of_getElem? (i := 221) (by decide +kernel), List.mem_of_getElem? (i := 769) (by decide +kernel), List.mem_of_getElem? (i := 770) (by decide +kernel)⟩
def lw_privs_1 : List (MethodName × Nat) := [(⟨"CheapPlanner$Tokens", "takeCode", "(I)Z"⟩, 9), (⟨"CheapPlanner", "hasStep", "(I)Z"⟩, 13), (⟨"CheapPlanner", "forgetProblem", "()V"⟩, 13), (⟨"CheapPlanner$Tokens", "addWord", "(II)V"⟩, 9), (⟨"CheapPlanner$Tokens", "nameCode", "(II)J"⟩, 9), (⟨"CheapPlanner$Tokens", "add", "(IIIJ)V"⟩, 9), (⟨"CheapPlanner$Reader", "openDefinition", "(Ljava/lang/String;)V"⟩, 4), (⟨"java/lang/Throwable", "fillInStackTrace", "(I)Ljava/lang/Throwable;"⟩, 6), (⟨"CheapPlanner$Reader", "readTypes", "()V"⟩, 4), (⟨"CheapPlanner$Reader", "readNew", "(LCheapPlanner$Names;I)V"⟩, 4), (⟨"CheapPlanner$Reader", "readPredicates", "()V"⟩, 4), (⟨"CheapPlanner$Reader", "readParameters", "(LCheapPlanner$Names;I)V"⟩, 4), (⟨"CheapPlanner$Reader", "readTyped", "(LCheapPlanner$Names;I)V"⟩, 4), (⟨"CheapPlanner$Reader", "readType", "()I"⟩, 4), (⟨"CheapPlanner$Reader", "readAction", "(I)V"⟩, 4), (⟨"CheapPlanner$ClauseReader", "readMember", "(LCheapPlanner$Clause;Z)V"⟩, 4)]
theorem lw_r1 : ∀ q ∈ lw_privs_1, lw_okq q := List.forall_mem_cons.mpr ⟨lw_p0, List.forall_mem_cons.mpr ⟨lw_p1, List.forall_mem_cons.mpr ⟨lw_p2, List.forall_mem_cons.mpr ⟨lw_p3, List.forall_mem_cons.mpr ⟨lw_p4, List.forall_mem_cons.mpr ⟨lw_p5, List.forall_mem_cons.mpr ⟨lw_p6, List.forall_mem_cons.mpr ⟨lw_p7, List.forall_mem_cons.mpr ⟨lw_p8, List.forall_mem_cons.mpr ⟨lw_p9, List.forall_mem_cons.mpr ⟨lw_p10, List.forall_mem_cons.mpr ⟨lw_p11, List.forall_mem_cons.mpr ⟨lw_p12, List.forall_mem_cons.mpr ⟨lw_p13, List.forall_mem_cons.mpr ⟨lw_p14, List.forall_mem_cons.mpr ⟨lw_p15, fun _ h => absurd h List.not_mem_nil⟩⟩⟩⟩⟩⟩⟩⟩⟩⟩⟩⟩⟩⟩⟩⟩
theorem lw_p16 : lw_okq (⟨"CheapPlanner$ClauseReader", "readIncrease", "(LCheapPlanner$Clause;)V"⟩, 4) := ⟨⟨by decide +kernel, by decide +kernel⟩, List.mem_of_getElem? (i := 221) (by decide +kernel), List.mem_of_getElem? (i := 774) (by decide +kernel), List.mem_of_getElem? (i := 775) (by decide +kernel)⟩
theorem lw_p17 : lw_okq (⟨"CheapPlanner$ClauseReader", "readEquality", "(LCheapPlanner$Clause;Z)V"⟩, 4) := ⟨⟨by decide +kernel, by decide +kernel⟩, List.mem_of_getElem? (i := 221) (by decide +kernel), List.mem_of_getElem? (i := 788) (by decide +kernel), List.mem_of_getElem? (i := 789) (by decide +kernel)⟩
theorem lw_p18 : lw_okq (⟨"CheapPlanner$ClauseReader", "readTerm", "(I)I"⟩, 4) := ⟨⟨by decide +kernel, by decide +kernel⟩, List.mem_of_getElem? (i := 221) (by decide +kernel), List.mem_of_getElem? (i := 792) (by decide +kernel), List.mem_of_getElem? (i := 793) (by decide +kernel)⟩
theorem lw_p19 : lw_okq (⟨"CheapPlanner$ClauseReader", "readAtom", "(LCheapPlanner$Clause;Z)V"⟩, 4) := ⟨⟨by decide +kernel, by decide +kernel⟩, List.mem_of_getElem? (i := 221) (by decide +kernel), List.mem_of_getElem? (i := 807) (by decide +kernel), List.mem_of_getElem? (i := 808) (by decide +kernel)⟩
theorem lw_p20 : lw_okq (⟨"CheapPlanner$Reader", "closeDefinition", "()V"⟩, 4) := ⟨⟨by decide +kernel, by decide +kernel⟩, List.mem_of_getElem? (i := 215) (by decide +kernel), List.mem_of_getElem? (i := 812) (by decide +kernel), List.mem_of_getElem? (i := 813) (by decide +kernel)⟩
theorem lw_p21 : lw_okq (⟨"CheapPlanner$Reader", "readDomainName", "()V"⟩, 4) := ⟨⟨by decide +kernel, by decide +kernel⟩, List.mem_of_getElem? (i := 215) (by decide +kernel), List.mem_of_getElem? (i := 852) (by decide +kernel), List.mem_of_getElem? (i := 853) (by decide +kernel)⟩
theorem lw_p22 : lw_okq (⟨"CheapPlanner$Reader", "openPart", "(Ljava/lang/String;)V"⟩, 4) := ⟨⟨by decide +kernel, by decide +kernel⟩, List.mem_of_getElem? (i := 215) (by decide +kernel), List.mem_of_getElem? (i := 857) (by decide +kernel), List.mem_of_getElem? (i := 858) (by decide +kernel)⟩
theorem lw_p23 : lw_okq (⟨"CheapPlanner$Reader", "readObjects", "()V"⟩, 4) := ⟨⟨by decide +kernel, by decide +kernel⟩, List.mem_of_getElem? (i := 215) (by decide +kernel), List.mem_of_getElem? (i := 861) (by decide +kernel), List.mem_of_getElem? (i := 862) (by decide +kernel)⟩
theorem lw_p24 : lw_okq (⟨"CheapPlanner$Ground", "numberFacts", "(LCheapPlanner$Domain;LCheapPlanner$Names;)Z"⟩, 7) := ⟨⟨by decide +kernel, by decide +kernel⟩, List.mem_of_getElem? (i := 253) (by decide +kernel), List.mem_of_getElem? (i := 876) (by decide +kernel), List.mem_of_getElem? (i := 877) (by decide +kernel)⟩
theorem lw_p25 : lw_okq (⟨"CheapPlanner$Ground", "numberFactsOf", "(ILCheapPlanner$Names;LCheapPlanner$Names;)Z"⟩, 7) := ⟨⟨by decide +kernel, by decide +kernel⟩, List.mem_of_getElem? (i := 253) (by decide +kernel), List.mem_of_getElem? (i := 880) (by decide +kernel), List.mem_of_getElem? (i := 881) (by decide +kernel)⟩
theorem lw_p26 : lw_okq (⟨"CheapPlanner$Ground", "makeSteps", "(LCheapPlanner$Domain;LCheapPlanner$Names;)Z"⟩, 7) := ⟨⟨by decide +kernel, by decide +kernel⟩, List.mem_of_getElem? (i := 253) (by decide +kernel), List.mem_of_getElem? (i := 888) (by decide +kernel), List.mem_of_getElem? (i := 889) (by decide +kernel)⟩
theorem lw_p27 : lw_okq (⟨"CheapPlanner$Ground", "makeStepsOf", "(ILCheapPlanner$Domain;LCheapPlanner$Names;)Z"⟩, 7) := ⟨⟨by decide +kernel, by decide +kernel⟩, List.mem_of_getElem? (i := 253) (by decide +kernel), List.mem_of_getElem? (i := 892) (by decide +kernel), List.mem_of_getElem? (i := 893) (by decide +kernel)⟩
theorem lw_p28 : lw_okq (⟨"CheapPlanner$Ground", "bindStep", "(LCheapPlanner$Step;LCheapPlanner$Domain;)Z"⟩, 7) := ⟨⟨by decide +kernel, by decide +kernel⟩, List.mem_of_getElem? (i := 253) (by decide +kernel), List.mem_of_getElem? (i := 909) (by decide +kernel), List.mem_of_getElem? (i := 910) (by decide +kernel)⟩
theorem lw_p29 : lw_okq (⟨"CheapPlanner$Needs", "bindAtom", "(IZ)V"⟩, 5) := ⟨⟨by decide +kernel, by decide +kernel⟩, List.mem_of_getElem? (i := 261) (by decide +kernel), List.mem_of_getElem? (i := 921) (by decide +kernel), List.mem_of_getElem? (i := 922) (by decide +kernel)⟩
theorem lw_p30 : lw_okq (⟨"CheapPlanner", "requireProblem", "()V"⟩, 13) := ⟨⟨by decide +kernel, by decide +kernel⟩, List.mem_of_getElem? (i := 30) (by decide +kernel), List.mem_of_getElem? (i := 958) (by decide +kernel), List.mem_of_getElem? (i := 959) (by decide +kernel)⟩
theorem lw_p31 : lw_okq (⟨"CheapPlanner$Search", "slotOf", "(J)I"⟩, 14) := ⟨⟨by decide +kernel, by decide +kernel⟩, List.mem_of_getElem? (i := 365) (by decide +kernel), List.mem_of_getElem? (i := 975) (by decide +kernel), List.mem_of_getElem? (i := 976) (by decide +kernel)⟩
def lw_privs_2 : List (MethodName × Nat) := [(⟨"CheapPlanner$ClauseReader", "readIncrease", "(LCheapPlanner$Clause;)V"⟩, 4), (⟨"CheapPlanner$ClauseReader", "readEquality", "(LCheapPlanner$Clause;Z)V"⟩, 4), (⟨"CheapPlanner$ClauseReader", "readTerm", "(I)I"⟩, 4), (⟨"CheapPlanner$ClauseReader", "readAtom", "(LCheapPlanner$Clause;Z)V"⟩, 4), (⟨"CheapPlanner$Reader", "closeDefinition", "()V"⟩, 4), (⟨"CheapPlanner$Reader", "readDomainName", "()V"⟩, 4), (⟨"CheapPlanner$Reader", "openPart", "(Ljava/lang/String;)V"⟩, 4), (⟨"CheapPlanner$Reader", "readObjects", "()V"⟩, 4), (⟨"CheapPlanner$Ground", "numberFacts", "(LCheapPlanner$Domain;LCheapPlanner$Names;)Z"⟩, 7), (⟨"CheapPlanner$Ground", "numberFactsOf", "(ILCheapPlanner$Names;LCheapPlanner$Names;)Z"⟩, 7), (⟨"CheapPlanner$Ground", "makeSteps", "(LCheapPlanner$Domain;LCheapPlanner$Names;)Z"⟩, 7), (⟨"CheapPlanner$Ground", "makeStepsOf", "(ILCheapPlanner$Domain;LCheapPlanner$Names;)Z"⟩, 7), (⟨"CheapPlanner$Ground", "bindStep", "(LCheapPlanner$Step;LCheapPlanner$Domain;)Z"⟩, 7), (⟨"CheapPlanner$Needs", "bindAtom", "(IZ)V"⟩, 5), (⟨"CheapPlanner", "requireProblem", "()V"⟩, 13), (⟨"CheapPlanner$Search", "slotOf", "(J)I"⟩, 14)]
theorem lw_r2 : ∀ q ∈ lw_privs_2, lw_okq q := List.forall_mem_cons.mpr ⟨lw_p16, List.forall_mem_cons.mpr ⟨lw_p17, List.forall_mem_cons.mpr ⟨lw_p18, List.forall_mem_cons.mpr ⟨lw_p19, List.forall_mem_cons.mpr ⟨lw_p20, List.forall_mem_cons.mpr ⟨lw_p21, List.forall_mem_cons.mpr ⟨lw_p22, List.forall_mem_cons.mpr ⟨lw_p23, List.forall_mem_cons.mpr ⟨lw_p24, List.forall_mem_cons.mpr ⟨lw_p25, List.forall_mem_cons.mpr ⟨lw_p26, List.forall_mem_cons.mpr ⟨lw_p27, List.forall_mem_cons.mpr ⟨lw_p28, List.forall_mem_cons.mpr ⟨lw_p29, List.forall_mem_cons.mpr ⟨lw_p30, List.forall_mem_cons.mpr ⟨lw_p31, fun _ h => absurd h List.not_mem_nil⟩⟩⟩⟩⟩⟩⟩⟩⟩⟩⟩⟩⟩⟩⟩⟩
theorem lw_p32 : lw_okq (⟨"CheapPlanner$Search", "add", "(IJI)V"⟩, 14) := ⟨⟨by decide +kernel, by decide +kernel⟩, List.mem_of_getElem? (i := 365) (by decide +kernel), List.mem_of_getElem? (i := 980) (by decide +kernel), List.mem_of_getElem? (i := 981) (by decide +kernel)⟩
theorem lw_p33 : lw_okq (⟨"CheapPlanner$Search", "setDue", "(II)V"⟩, 14) := ⟨⟨by decide +kernel, by decide +kernel⟩, List.mem_of_getElem? (i := 365) (by decide +kernel), List.mem_of_getElem? (i := 984) (by decide +kernel), List.mem_of_getElem? (i := 985) (by decide +kernel)⟩
theorem lw_p34 : lw_okq (⟨"CheapPlanner$Search", "leastDue", "()I"⟩, 14) := ⟨⟨by decide +kernel, by decide +kernel⟩, List.mem_of_getElem? (i := 365) (by decide +kernel), List.mem_of_getElem? (i := 988) (by decide +kernel), List.mem_of_getElem? (i := 989) (by decide +kernel)⟩
theorem lw_p35 : lw_okq (⟨"CheapPlanner$Search", "goOn", "()V"⟩, 14) := ⟨⟨by decide +kernel, by decide +kernel⟩, List.mem_of_getElem? (i := 365) (by decide +kernel), List.mem_of_getElem? (i := 995) (by decide +kernel), List.mem_of_getElem? (i := 996) (by decide +kernel)⟩
theorem lw_p36 : lw_okq (⟨"CheapPlanner$Search", "goOnFrom", "(II)V"⟩, 14) := ⟨⟨by decide +kernel, by decide +kernel⟩, List.mem_of_getElem? (i := 365) (by decide +kernel), List.mem_of_getElem? (i := 999) (by decide +kernel), List.mem_of_getElem? (i := 1000) (by decide +kernel)⟩
theorem lw_p37 : lw_okq (⟨"CheapPlanner$Search", "comeTo", "(JII)V"⟩, 14) := ⟨⟨by decide +kernel, by decide +kernel⟩, List.mem_of_getElem? (i := 365) (by decide +kernel), List.mem_of_getElem? (i := 1008) (by decide +kernel), List.mem_of_getElem? (i := 1009) (by decide +kernel)⟩
theorem lw_p38 : lw_okq (⟨"CheapPlanner$Search", "offer", "(III)V"⟩, 14) := ⟨⟨by decide +kernel, by decide +kernel⟩, List.mem_of_getElem? (i := 365) (by decide +kernel), List.mem_of_getElem? (i := 1012) (by decide +kernel), List.mem_of_getElem? (i := 1013) (by decide +kernel)⟩
theorem lw_p39 : lw_okq (⟨"CheapPlanner$Search", "isBefore", "(III)Z"⟩, 14) := ⟨⟨by decide +kernel, by decide +kernel⟩, List.mem_of_getElem? (i := 365) (by decide +kernel), List.mem_of_getElem? (i := 1016) (by decide +kernel), List.mem_of_getElem? (i := 1017) (by decide +kernel)⟩
theorem lw_p40 : lw_okq (⟨"CheapPlanner$Search", "traceSteps", "()V"⟩, 14) := ⟨⟨by decide +kernel, by decide +kernel⟩, List.mem_of_getElem? (i := 365) (by decide +kernel), List.mem_of_getElem? (i := 1020) (by decide +kernel), List.mem_of_getElem? (i := 1021) (by decide +kernel)⟩
theorem lw_p41 : lw_okq (⟨"CheapPlanner", "tellStep", "(LCheapPlanner$Step;)V"⟩, 13) := ⟨⟨by decide +kernel, by decide +kernel⟩, List.mem_of_getElem? (i := 30) (by decide +kernel), List.mem_of_getElem? (i := 1041) (by decide +kernel), List.mem_of_getElem? (i := 1042) (by decide +kernel)⟩
theorem lw_p42 : lw_okq (⟨"CheapPlanner", "tell", "(C)V"⟩, 13) := ⟨⟨by decide +kernel, by decide +kernel⟩, List.mem_of_getElem? (i := 30) (by decide +kernel), List.mem_of_getElem? (i := 1045) (by decide +kernel), List.mem_of_getElem? (i := 1046) (by decide +kernel)⟩
theorem lw_p43 : lw_okq (⟨"CheapPlanner", "tellName", "(J)V"⟩, 13) := ⟨⟨by decide +kernel, by decide +kernel⟩, List.mem_of_getElem? (i := 30) (by decide +kernel), List.mem_of_getElem? (i := 1049) (by decide +kernel), List.mem_of_getElem? (i := 1050) (by decide +kernel)⟩
theorem lw_p44 : lw_okq (⟨"CheapPlanner$Estimate", "lowerAll", "(Z)Z"⟩, 2) := ⟨⟨by decide +kernel, by decide +kernel⟩, List.mem_of_getElem? (i := 414) (by decide +kernel), List.mem_of_getElem? (i := 1143) (by decide +kernel), List.mem_of_getElem? (i := 1144) (by decide +kernel)⟩
theorem lw_p45 : lw_okq (⟨"CheapPlanner$Estimate", "worthOf", "(LCheapPlanner$Needs;Z)I"⟩, 2) := ⟨⟨by decide +kernel, by decide +kernel⟩, List.mem_of_getElem? (i := 414) (by decide +kernel), List.mem_of_getElem? (i := 1147) (by decide +kernel), List.mem_of_getElem? (i := 1148) (by decide +kernel)⟩
theorem lw_p46 : lw_okq (⟨"CheapPlanner$Estimate", "lowerComers", "(LCheapPlanner$Step;I)Z"⟩, 2) := ⟨⟨by decide +kernel, by decide +kernel⟩, List.mem_of_getElem? (i := 414) (by decide +kernel), List.mem_of_getElem? (i := 1154) (by decide +kernel), List.mem_of_getElem? (i := 1155) (by decide +kernel)⟩
theorem lw_p47 : lw_okq (⟨"CheapPlannerModel", "word", "(IIIII)V"⟩, 71) := ⟨⟨by decide +kernel, by decide +kernel⟩, List.mem_of_getElem? (i := 1158) (by decide +kernel), List.mem_of_getElem? (i := 1166) (by decide +kernel), List.mem_of_getElem? (i := 1167) (by decide +kernel)⟩
def lw_privs_3 : List (MethodName × Nat) := [(⟨"CheapPlanner$Search", "add", "(IJI)V"⟩, 14), (⟨"CheapPlanner$Search", "setDue", "(II)V"⟩, 14), (⟨"CheapPlanner$Search", "leastDue", "()I"⟩, 14), (⟨"CheapPlanner$Search", "goOn", "()V"⟩, 14), (⟨"CheapPlanner$Search", "goOnFrom", "(II)V"⟩, 14), (⟨"CheapPlanner$Search", "comeTo", "(JII)V"⟩, 14), (⟨"CheapPlanner$Search", "offer", "(III)V"⟩, 14), (⟨"CheapPlanner$Search", "isBefore", "(III)Z"⟩, 14), (⟨"CheapPlanner$Search", "traceSteps", "()V"⟩, 14), (⟨"CheapPlanner", "tellStep", "(LCheapPlanner$Step;)V"⟩, 13), (⟨"CheapPlanner", "tell", "(C)V"⟩, 13), (⟨"CheapPlanner", "tellName", "(J)V"⟩, 13), (⟨"CheapPlanner$Estimate", "lowerAll", "(Z)Z"⟩, 2), (⟨"CheapPlanner$Estimate", "worthOf", "(LCheapPlanner$Needs;Z)I"⟩, 2), (⟨"CheapPlanner$Estimate", "lowerComers", "(LCheapPlanner$Step;I)Z"⟩, 2), (⟨"CheapPlannerModel", "word", "(IIIII)V"⟩, 71)]
theorem lw_r3 : ∀ q ∈ lw_privs_3, lw_okq q := List.forall_mem_cons.mpr ⟨lw_p32, List.forall_mem_cons.mpr ⟨lw_p33, List.forall_mem_cons.mpr ⟨lw_p34, List.forall_mem_cons.mpr ⟨lw_p35, List.forall_mem_cons.mpr ⟨lw_p36, List.forall_mem_cons.mpr ⟨lw_p37, List.forall_mem_cons.mpr ⟨lw_p38, List.forall_mem_cons.mpr ⟨lw_p39, List.forall_mem_cons.mpr ⟨lw_p40, List.forall_mem_cons.mpr ⟨lw_p41, List.forall_mem_cons.mpr ⟨lw_p42, List.forall_mem_cons.mpr ⟨lw_p43, List.forall_mem_cons.mpr ⟨lw_p44, List.forall_mem_cons.mpr ⟨lw_p45, List.forall_mem_cons.mpr ⟨lw_p46, List.forall_mem_cons.mpr ⟨lw_p47, fun _ h => absurd h List.not_mem_nil⟩⟩⟩⟩⟩⟩⟩⟩⟩⟩⟩⟩⟩⟩⟩⟩
theorem lw_p48 : lw_okq (⟨"CheapPlannerModel", "clearFault", "()V"⟩, 71) := ⟨⟨by decide +kernel, by decide +kernel⟩, List.mem_of_getElem? (i := 1158) (by decide +kernel), List.mem_of_getElem? (i := 1435) (by decide +kernel), List.mem_of_getElem? (i := 1436) (by decide +kernel)⟩
theorem lw_p49 : lw_okq (⟨"CheapPlannerModel", "scan", "()V"⟩, 71) := ⟨⟨by decide +kernel, by decide +kernel⟩, List.mem_of_getElem? (i := 1158) (by decide +kernel), List.mem_of_getElem? (i := 1439) (by decide +kernel), List.mem_of_getElem? (i := 1440) (by decide +kernel)⟩
theorem lw_p50 : lw_okq (⟨"CheapPlannerModel", "readDomain", "()V"⟩, 71) := ⟨⟨by decide +kernel, by decide +kernel⟩, List.mem_of_getElem? (i := 1158) (by decide +kernel), List.mem_of_getElem? (i := 1443) (by decide +kernel), List.mem_of_getElem? (i := 1444) (by decide +kernel)⟩
theorem lw_p51 : lw_okq (⟨"CheapPlannerModel", "needSign", "(I)V"⟩, 71) := ⟨⟨by decide +kernel, by decide +kernel⟩, List.mem_of_getElem? (i := 1158) (by decide +kernel), List.mem_of_getElem? (i := 1447) (by decide +kernel), List.mem_of_getElem? (i := 1448) (by decide +kernel)⟩
theorem lw_p52 : lw_okq (⟨"CheapPlannerModel", "isSign", "(I)Z"⟩, 71) := ⟨⟨by decide +kernel, by decide +kernel⟩, List.mem_of_getElem? (i := 1158) (by decide +kernel), List.mem_of_getElem? (i := 1451) (by decide +kernel), List.mem_of_getElem? (i := 1452) (by decide +kernel)⟩
theorem lw_p53 : lw_okq (⟨"CheapPlannerModel", "size", "()I"⟩, 71) := ⟨⟨by decide +kernel, by decide +kernel⟩, List.mem_of_getElem? (i := 1158) (by decide +kernel), List.mem_of_getElem? (i := 1455) (by decide +kernel), List.mem_of_getElem? (i := 1456) (by decide +kernel)⟩
theorem lw_p54 : lw_okq (⟨"CheapPlannerModel", "wrong", "(I)V"⟩, 71) := ⟨⟨by decide +kernel, by decide +kernel⟩, List.mem_of_getElem? (i := 1158) (by decide +kernel), List.mem_of_getElem? (i := 1459) (by decide +kernel), List.mem_of_getElem? (i := 1460) (by decide +kernel)⟩
theorem lw_p55 : lw_okq (⟨"CheapPlannerModel", "needWord", "(I)V"⟩, 71) := ⟨⟨by decide +kernel, by decide +kernel⟩, List.mem_of_getElem? (i := 1158) (by decide +kernel), List.mem_of_getElem? (i := 1463) (by decide +kernel), List.mem_of_getElem? (i := 1464) (by decide +kernel)⟩
theorem lw_p56 : lw_okq (⟨"CheapPlannerModel", "isWord", "(I)Z"⟩, 71) := ⟨⟨by decide +kernel, by decide +kernel⟩, List.mem_of_getElem? (i := 1158) (by decide +kernel), List.mem_of_getElem? (i := 1467) (by decide +kernel), List.mem_of_getElem? (i := 1468) (by decide +kernel)⟩
theorem lw_p57 : lw_okq (⟨"CheapPlannerModel", "letterAt", "(I)I"⟩, 71) := ⟨⟨by decide +kernel, by decide +kernel⟩, List.mem_of_getElem? (i := 1158) (by decide +kernel), List.mem_of_getElem? (i := 1471) (by decide +kernel), List.mem_of_getElem? (i := 1472) (by decide +kernel)⟩
theorem lw_p58 : lw_okq (⟨"CheapPlannerModel", "needName", "()J"⟩, 71) := ⟨⟨by decide +kernel, by decide +kernel⟩, List.mem_of_getElem? (i := 1158) (by decide +kernel), List.mem_of_getElem? (i := 1475) (by decide +kernel), List.mem_of_getElem? (i := 1476) (by decide +kernel)⟩
theorem lw_p59 : lw_okq (⟨"CheapPlannerModel", "bad", "()Z"⟩, 71) := ⟨⟨by decide +kernel, by decide +kernel⟩, List.mem_of_getElem? (i := 1158) (by decide +kernel), List.mem_of_getElem? (i := 1479) (by decide +kernel), List.mem_of_getElem? (i := 1480) (by decide +kernel)⟩
theorem lw_p60 : lw_okq (⟨"CheapPlannerModel", "nameAt", "(I)J"⟩, 71) := ⟨⟨by decide +kernel, by decide +kernel⟩, List.mem_of_getElem? (i := 1158) (by decide +kernel), List.mem_of_getElem? (i := 1483) (by decide +kernel), List.mem_of_getElem? (i := 1484) (by decide +kernel)⟩
theorem lw_p61 : lw_okq (⟨"CheapPlannerModel", "pass", "()V"⟩, 71) := ⟨⟨by decide +kernel, by decide +kernel⟩, List.mem_of_getElem? (i := 1158) (by decide +kernel), List.mem_of_getElem? (i := 1488) (by decide +kernel), List.mem_of_getElem? (i := 1489) (by decide +kernel)⟩
theorem lw_p62 : lw_okq (⟨"CheapPlannerModel", "readTypes", "()V"⟩, 71) := ⟨⟨by decide +kernel, by decide +kernel⟩, List.mem_of_getElem? (i := 1158) (by decide +kernel), List.mem_of_getElem? (i := 1492) (by decide +kernel), List.mem_of_getElem? (i := 1493) (by decide +kernel)⟩
theorem lw_p63 : lw_okq (⟨"CheapPlannerModel", "readPredicate", "()V"⟩, 71) := ⟨⟨by decide +kernel, by decide +kernel⟩, List.mem_of_getElem? (i := 1158) (by decide +kernel), List.mem_of_getElem? (i := 1499) (by decide +kernel), List.mem_of_getElem? (i := 1500) (by decide +kernel)⟩
def lw_privs_4 : List (MethodName × Nat) := [(⟨"CheapPlannerModel", "clearFault", "()V"⟩, 71), (⟨"CheapPlannerModel", "scan", "()V"⟩, 71), (⟨"CheapPlannerModel", "readDomain", "()V"⟩, 71), (⟨"CheapPlannerModel", "needSign", "(I)V"⟩, 71), (⟨"CheapPlannerModel", "isSign", "(I)Z"⟩, 71), (⟨"CheapPlannerModel", "size", "()I"⟩, 71), (⟨"CheapPlannerModel", "wrong", "(I)V"⟩, 71), (⟨"CheapPlannerModel", "needWord", "(I)V"⟩, 71), (⟨"CheapPlannerModel", "isWord", "(I)Z"⟩, 71), (⟨"CheapPlannerModel", "letterAt", "(I)I"⟩, 71), (⟨"CheapPlannerModel", "needName", "()J"⟩, 71), (⟨"CheapPlannerModel", "bad", "()Z"⟩, 71), (⟨"CheapPlannerModel", "nameAt", "(I)J"⟩, 71), (⟨"CheapPlannerModel", "pass", "()V"⟩, 71), (⟨"CheapPlannerModel", "readTypes", "()V"⟩, 71), (⟨"CheapPlannerModel", "readPredicate", "()V"⟩, 71)]
theorem lw_r4 : ∀ q ∈ lw_privs_4, lw_okq q := List.forall_mem_cons.mpr ⟨lw_p48, List.forall_mem_cons.mpr ⟨lw_p49, List.forall_mem_cons.mpr ⟨lw_p50, List.forall_mem_cons.mpr ⟨lw_p51, List.forall_mem_cons.mpr ⟨lw_p52, List.forall_mem_cons.mpr ⟨lw_p53, List.forall_mem_cons.mpr ⟨lw_p54, List.forall_mem_cons.mpr ⟨lw_p55, List.forall_mem_cons.mpr ⟨lw_p56, List.forall_mem_cons.mpr ⟨lw_p57, List.forall_mem_cons.mpr ⟨lw_p58, List.forall_mem_cons.mpr ⟨lw_p59, List.forall_mem_cons.mpr ⟨lw_p60, List.forall_mem_cons.mpr ⟨lw_p61, List.forall_mem_cons.mpr ⟨lw_p62, List.forall_mem_cons.mpr ⟨lw_p63, fun _ h => absurd h List.not_mem_nil⟩⟩⟩⟩⟩⟩⟩⟩⟩⟩⟩⟩⟩⟩⟩⟩
theorem lw_p64 : lw_okq (⟨"CheapPlannerModel", "readPredicateVariables", "()I"⟩, 71) := ⟨⟨by decide +kernel, by decide +kernel⟩, List.mem_of_getElem? (i := 1158) (by decide +kernel), List.mem_of_getElem? (i := 1503) (by decide +kernel), List.mem_of_getElem? (i := 1504) (by decide +kernel)⟩
theorem lw_p65 : lw_okq (⟨"CheapPlannerModel", "isVariable", "()Z"⟩, 71) := ⟨⟨by decide +kernel, by decide +kernel⟩, List.mem_of_getElem? (i := 1158) (by decide +kernel), List.mem_of_getElem? (i := 1507) (by decide +kernel), List.mem_of_getElem? (i := 1508) (by decide +kernel)⟩
theorem lw_p66 : lw_okq (⟨"CheapPlannerModel", "readType", "()I"⟩, 71) := ⟨⟨by decide +kernel, by decide +kernel⟩, List.mem_of_getElem? (i := 1158) (by decide +kernel), List.mem_of_getElem? (i := 1511) (by decide +kernel), List.mem_of_getElem? (i := 1512) (by decide +kernel)⟩
theorem lw_p67 : lw_okq (⟨"CheapPlannerModel", "readAction", "()V"⟩, 71) := ⟨⟨by decide +kernel, by decide +kernel⟩, List.mem_of_getElem? (i := 1158) (by decide +kernel), List.mem_of_getElem? (i := 1515) (by decide +kernel), List.mem_of_getElem? (i := 1516) (by decide +kernel)⟩
theorem lw_p68 : lw_okq (⟨"CheapPlannerModel", "readVariables", "(I[J[II)I"⟩, 71) := ⟨⟨by decide +kernel, by decide +kernel⟩, List.mem_of_getElem? (i := 1158) (by decide +kernel), List.mem_of_getElem? (i := 1519) (by decide +kernel), List.mem_of_getElem? (i := 1520) (by decide +kernel)⟩
theorem lw_p69 : lw_okq (⟨"CheapPlannerModel", "readCondition", "(II)V"⟩, 71) := ⟨⟨by decide +kernel, by decide +kernel⟩, List.mem_of_getElem? (i := 1158) (by decide +kernel), List.mem_of_getElem? (i := 1523) (by decide +kernel), List.mem_of_getElem? (i := 1524) (by decide +kernel)⟩
theorem lw_p70 : lw_okq (⟨"CheapPlannerModel", "readLiteral", "(II)V"⟩, 71) := ⟨⟨by decide +kernel, by decide +kernel⟩, List.mem_of_getElem? (i := 1158) (by decide +kernel), List.mem_of_getElem? (i := 1527) (by decide +kernel), List.mem_of_getElem? (i := 1528) (by decide +kernel)⟩
theorem lw_p71 : lw_okq (⟨"CheapPlannerModel", "readTerm", "(II)I"⟩, 71) := ⟨⟨by decide +kernel, by decide +kernel⟩, List.mem_of_getElem? (i := 1158) (by decide +kernel), List.mem_of_getElem? (i := 1531) (by decide +kernel), List.mem_of_getElem? (i := 1532) (by decide +kernel)⟩
theorem lw_p72 : lw_okq (⟨"CheapPlannerModel", "readAtom", "(II)V"⟩, 71) := ⟨⟨by decide +kernel, by decide +kernel⟩, List.mem_of_getElem? (i := 1158) (by decide +kernel), List.mem_of_getElem? (i := 1535) (by decide +kernel), List.mem_of_getElem? (i := 1536) (by decide +kernel)⟩
theorem lw_p73 : lw_okq (⟨"CheapPlannerModel", "readEffect", "(I)V"⟩, 71) := ⟨⟨by decide +kernel, by decide +kernel⟩, List.mem_of_getElem? (i := 1158) (by decide +kernel), List.mem_of_getElem? (i := 1539) (by decide +kernel), List.mem_of_getElem? (i := 1540) (by decide +kernel)⟩
theorem lw_p74 : lw_okq (⟨"CheapPlannerModel", "readOneEffect", "(I)V"⟩, 71) := ⟨⟨by decide +kernel, by decide +kernel⟩, List.mem_of_getElem? (i := 1158) (by decide +kernel), List.mem_of_getElem? (i := 1543) (by decide +kernel), List.mem_of_getElem? (i := 1544) (by decide +kernel)⟩
theorem lw_p75 : lw_okq (⟨"CheapPlannerModel", "readIncrease", "(I)V"⟩, 71) := ⟨⟨by decide +kernel, by decide +kernel⟩, List.mem_of_getElem? (i := 1158) (by decide +kernel), List.mem_of_getElem? (i := 1547) (by decide +kernel), List.mem_of_getElem? (i := 1548) (by decide +kernel)⟩
theorem lw_p76 : lw_okq (⟨"CheapPlannerModel", "told", "()Z"⟩, 71) := ⟨⟨by decide +kernel, by decide +kernel⟩, List.mem_of_getElem? (i := 1158) (by decide +kernel), List.mem_of_getElem? (i := 1551) (by decide +kernel), List.mem_of_getElem? (i := 1552) (by decide +kernel)⟩
theorem lw_p77 : lw_okq (⟨"CheapPlannerModel", "readProblem", "()V"⟩, 71) := ⟨⟨by decide +kernel, by decide +kernel⟩, List.mem_of_getElem? (i := 1158) (by decide +kernel), List.mem_of_getElem? (i := 1563) (by decide +kernel), List.mem_of_getElem? (i := 1564) (by decide +kernel)⟩
theorem lw_p78 : lw_okq (⟨"CheapPlannerModel", "readObject", "()V"⟩, 71) := ⟨⟨by decide +kernel, by decide +kernel⟩, List.mem_of_getElem? (i := 1158) (by decide +kernel), List.mem_of_getElem? (i := 1567) (by decide +kernel), List.mem_of_getElem? (i := 1568) (by decide +kernel)⟩
theorem lw_p79 : lw_okq (⟨"CheapPlannerModel", "layFacts", "()V"⟩, 71) := ⟨⟨by decide +kernel, by decide +kernel⟩, List.mem_of_getElem? (i := 1158) (by decide +kernel), List.mem_of_getElem? (i := 1571) (by decide +kernel), List.mem_of_getElem? (i := 1572) (by decide +kernel)⟩
def lw_privs_5 : List (MethodName × Nat) := [(⟨"CheapPlannerModel", "readPredicateVariables", "()I"⟩, 71), (⟨"CheapPlannerModel", "isVariable", "()Z"⟩, 71), (⟨"CheapPlannerModel", "readType", "()I"⟩, 71), (⟨"CheapPlannerModel", "readAction", "()V"⟩, 71), (⟨"CheapPlannerModel", "readVariables", "(I[J[II)I"⟩, 71), (⟨"CheapPlannerModel", "readCondition", "(II)V"⟩, 71), (⟨"CheapPlannerModel", "readLiteral", "(II)V"⟩, 71), (⟨"CheapPlannerModel", "readTerm", "(II)I"⟩, 71), (⟨"CheapPlannerModel", "readAtom", "(II)V"⟩, 71), (⟨"CheapPlannerModel", "readEffect", "(I)V"⟩, 71), (⟨"CheapPlannerModel", "readOneEffect", "(I)V"⟩, 71), (⟨"CheapPlannerModel", "readIncrease", "(I)V"⟩, 71), (⟨"CheapPlannerModel", "told", "()Z"⟩, 71), (⟨"CheapPlannerModel", "readProblem", "()V"⟩, 71), (⟨"CheapPlannerModel", "readObject", "()V"⟩, 71), (⟨"CheapPlannerModel", "layFacts", "()V"⟩, 71)]
theorem lw_r5 : ∀ q ∈ lw_privs_5, lw_okq q := List.forall_mem_cons.mpr ⟨lw_p64, List.forall_mem_cons.mpr ⟨lw_p65, List.forall_mem_cons.mpr ⟨lw_p66, List.forall_mem_cons.mpr ⟨lw_p67, List.forall_mem_cons.mpr ⟨lw_p68, List.forall_mem_cons.mpr ⟨lw_p69, List.forall_mem_cons.mpr ⟨lw_p70, List.forall_mem_cons.mpr ⟨lw_p71, List.forall_mem_cons.mpr ⟨lw_p72, List.forall_mem_cons.mpr ⟨lw_p73, List.forall_mem_cons.mpr ⟨lw_p74, List.forall_mem_cons.mpr ⟨lw_p75, List.forall_mem_cons.mpr ⟨lw_p76, List.forall_mem_cons.mpr ⟨lw_p77, List.forall_mem_cons.mpr ⟨lw_p78, List.forall_mem_cons.mpr ⟨lw_p79, fun _ h => absurd h List.not_mem_nil⟩⟩⟩⟩⟩⟩⟩⟩⟩⟩⟩⟩⟩⟩⟩⟩
theorem lw_p80 : lw_okq (⟨"CheapPlannerModel", "fits", "(II)Z"⟩, 71) := ⟨⟨by decide +kernel, by decide +kernel⟩, List.mem_of_getElem? (i := 1158) (by decide +kernel), List.mem_of_getElem? (i := 1575) (by decide +kernel), List.mem_of_getElem? (i := 1576) (by decide +kernel)⟩
theorem lw_p81 : lw_okq (⟨"CheapPlannerModel", "readInit", "()V"⟩, 71) := ⟨⟨by decide +kernel, by decide +kernel⟩, List.mem_of_getElem? (i := 1158) (by decide +kernel), List.mem_of_getElem? (i := 1579) (by decide +kernel), List.mem_of_getElem? (i := 1580) (by decide +kernel)⟩
theorem lw_p82 : lw_okq (⟨"CheapPlannerModel", "factAt", "(III)I"⟩, 71) := ⟨⟨by decide +kernel, by decide +kernel⟩, List.mem_of_getElem? (i := 1158) (by decide +kernel), List.mem_of_getElem? (i := 1583) (by decide +kernel), List.mem_of_getElem? (i := 1584) (by decide +kernel)⟩
theorem lw_p83 : lw_okq (⟨"CheapPlannerModel", "groundAction", "(I)Z"⟩, 71) := ⟨⟨by decide +kernel, by decide +kernel⟩, List.mem_of_getElem? (i := 1158) (by decide +kernel), List.mem_of_getElem? (i := 1587) (by decide +kernel), List.mem_of_getElem? (i := 1588) (by decide +kernel)⟩
theorem lw_p84 : lw_okq (⟨"CheapPlannerModel", "equalsHold", "(II)Z"⟩, 71) := ⟨⟨by decide +kernel, by decide +kernel⟩, List.mem_of_getElem? (i := 1158) (by decide +kernel), List.mem_of_getElem? (i := 1591) (by decide +kernel), List.mem_of_getElem? (i := 1592) (by decide +kernel)⟩
theorem lw_p85 : lw_okq (⟨"CheapPlannerModel", "valueOf", "(III)I"⟩, 71) := ⟨⟨by decide +kernel, by decide +kernel⟩, List.mem_of_getElem? (i := 1158) (by decide +kernel), List.mem_of_getElem? (i := 1595) (by decide +kernel), List.mem_of_getElem? (i := 1596) (by decide +kernel)⟩
theorem lw_p86 : lw_okq (⟨"CheapPlannerModel", "atoms", "(IIIZ)J"⟩, 71) := ⟨⟨by decide +kernel, by decide +kernel⟩, List.mem_of_getElem? (i := 1158) (by decide +kernel), List.mem_of_getElem? (i := 1599) (by decide +kernel), List.mem_of_getElem? (i := 1600) (by decide +kernel)⟩
theorem lw_p87 : lw_okq (⟨"CheapPlannerModel", "factBit", "(II)J"⟩, 71) := ⟨⟨by decide +kernel, by decide +kernel⟩, List.mem_of_getElem? (i := 1158) (by decide +kernel), List.mem_of_getElem? (i := 1603) (by decide +kernel), List.mem_of_getElem? (i := 1604) (by decide +kernel)⟩
theorem lw_p88 : lw_okq (⟨"CheapPlannerModel", "isGoal", "(J)Z"⟩, 71) := ⟨⟨by decide +kernel, by decide +kernel⟩, List.mem_of_getElem? (i := 1158) (by decide +kernel), List.mem_of_getElem? (i := 1611) (by decide +kernel), List.mem_of_getElem? (i := 1612) (by decide +kernel)⟩
theorem lw_p89 : lw_okq (⟨"CheapPlannerModel", "slot", "(J)I"⟩, 71) := ⟨⟨by decide +kernel, by decide +kernel⟩, List.mem_of_getElem? (i := 1158) (by decide +kernel), List.mem_of_getElem? (i := 1616) (by decide +kernel), List.mem_of_getElem? (i := 1617) (by decide +kernel)⟩
theorem lw_p90 : lw_okq (⟨"CheapPlannerModel", "nextCost", "()I"⟩, 71) := ⟨⟨by decide +kernel, by decide +kernel⟩, List.mem_of_getElem? (i := 1158) (by decide +kernel), List.mem_of_getElem? (i := 1621) (by decide +kernel), List.mem_of_getElem? (i := 1622) (by decide +kernel)⟩
theorem lw_p91 : lw_okq (⟨"CheapPlannerModel", "canBe", "(IJ)Z"⟩, 71) := ⟨⟨by decide +kernel, by decide +kernel⟩, List.mem_of_getElem? (i := 1158) (by decide +kernel), List.mem_of_getElem? (i := 1625) (by decide +kernel), List.mem_of_getElem? (i := 1626) (by decide +kernel)⟩
theorem lw_p92 : lw_okq (⟨"CheapPlannerModel", "done", "(IJ)J"⟩, 71) := ⟨⟨by decide +kernel, by decide +kernel⟩, List.mem_of_getElem? (i := 1158) (by decide +kernel), List.mem_of_getElem? (i := 1629) (by decide +kernel), List.mem_of_getElem? (i := 1630) (by decide +kernel)⟩
theorem lw_p93 : lw_okq (⟨"CheapPlannerModel", "findGoal", "(I)V"⟩, 71) := ⟨⟨by decide +kernel, by decide +kernel⟩, List.mem_of_getElem? (i := 1158) (by decide +kernel), List.mem_of_getElem? (i := 1633) (by decide +kernel), List.mem_of_getElem? (i := 1634) (by decide +kernel)⟩
theorem lw_p94 : lw_okq (⟨"CheapPlannerModel", "isBefore", "(III)Z"⟩, 71) := ⟨⟨by decide +kernel, by decide +kernel⟩, List.mem_of_getElem? (i := 1158) (by decide +kernel), List.mem_of_getElem? (i := 1637) (by decide +kernel), List.mem_of_getElem? (i := 1638) (by decide +kernel)⟩
theorem lw_p95 : lw_okq (⟨"CheapPlannerModel", "walk", "(I[I)V"⟩, 71) := ⟨⟨by decide +kernel, by decide +kernel⟩, List.mem_of_getElem? (i := 1158) (by decide +kernel), List.mem_of_getElem? (i := 1641) (by decide +kernel), List.mem_of_getElem? (i := 1642) (by decide +kernel)⟩
def lw_privs_6 : List (MethodName × Nat) := [(⟨"CheapPlannerModel", "fits", "(II)Z"⟩, 71), (⟨"CheapPlannerModel", "readInit", "()V"⟩, 71), (⟨"CheapPlannerModel", "factAt", "(III)I"⟩, 71), (⟨"CheapPlannerModel", "groundAction", "(I)Z"⟩, 71), (⟨"CheapPlannerModel", "equalsHold", "(II)Z"⟩, 71), (⟨"CheapPlannerModel", "valueOf", "(III)I"⟩, 71), (⟨"CheapPlannerModel", "atoms", "(IIIZ)J"⟩, 71), (⟨"CheapPlannerModel", "factBit", "(II)J"⟩, 71), (⟨"CheapPlannerModel", "isGoal", "(J)Z"⟩, 71), (⟨"CheapPlannerModel", "slot", "(J)I"⟩, 71), (⟨"CheapPlannerModel", "nextCost", "()I"⟩, 71), (⟨"CheapPlannerModel", "canBe", "(IJ)Z"⟩, 71), (⟨"CheapPlannerModel", "done", "(IJ)J"⟩, 71), (⟨"CheapPlannerModel", "findGoal", "(I)V"⟩, 71), (⟨"CheapPlannerModel", "isBefore", "(III)Z"⟩, 71), (⟨"CheapPlannerModel", "walk", "(I[I)V"⟩, 71)]
theorem lw_r6 : ∀ q ∈ lw_privs_6, lw_okq q := List.forall_mem_cons.mpr ⟨lw_p80, List.forall_mem_cons.mpr ⟨lw_p81, List.forall_mem_cons.mpr ⟨lw_p82, List.forall_mem_cons.mpr ⟨lw_p83, List.forall_mem_cons.mpr ⟨lw_p84, List.forall_mem_cons.mpr ⟨lw_p85, List.forall_mem_cons.mpr ⟨lw_p86, List.forall_mem_cons.mpr ⟨lw_p87, List.forall_mem_cons.mpr ⟨lw_p88, List.forall_mem_cons.mpr ⟨lw_p89, List.forall_mem_cons.mpr ⟨lw_p90, List.forall_mem_cons.mpr ⟨lw_p91, List.forall_mem_cons.mpr ⟨lw_p92, List.forall_mem_cons.mpr ⟨lw_p93, List.forall_mem_cons.mpr ⟨lw_p94, List.forall_mem_cons.mpr ⟨lw_p95, fun _ h => absurd h List.not_mem_nil⟩⟩⟩⟩⟩⟩⟩⟩⟩⟩⟩⟩⟩⟩⟩⟩
theorem lw_p96 : lw_okq (⟨"CheapPlannerModel", "know", "(III)V"⟩, 71) := ⟨⟨by decide +kernel, by decide +kernel⟩, List.mem_of_getElem? (i := 1158) (by decide +kernel), List.mem_of_getElem? (i := 1645) (by decide +kernel), List.mem_of_getElem? (i := 1646) (by decide +kernel)⟩
theorem lw_p97 : lw_okq (⟨"CheapPlannerModel", "grow", "(II)Z"⟩, 71) := ⟨⟨by decide +kernel, by decide +kernel⟩, List.mem_of_getElem? (i := 1158) (by decide +kernel), List.mem_of_getElem? (i := 1649) (by decide +kernel), List.mem_of_getElem? (i := 1650) (by decide +kernel)⟩
theorem lw_p98 : lw_okq (⟨"CheapPlannerModel", "tell", "(I)V"⟩, 71) := ⟨⟨by decide +kernel, by decide +kernel⟩, List.mem_of_getElem? (i := 1158) (by decide +kernel), List.mem_of_getElem? (i := 1669) (by decide +kernel), List.mem_of_getElem? (i := 1670) (by decide +kernel)⟩
theorem lw_p99 : lw_okq (⟨"CheapPlannerModel", "tellName", "(J)V"⟩, 71) := ⟨⟨by decide +kernel, by decide +kernel⟩, List.mem_of_getElem? (i := 1158) (by decide +kernel), List.mem_of_getElem? (i := 1673) (by decide +kernel), List.mem_of_getElem? (i := 1674) (by decide +kernel)⟩
theorem lw_p100 : lw_okq (⟨"CheapPlannerModel", "together", "(JI)I"⟩, 71) := ⟨⟨by decide +kernel, by decide +kernel⟩, List.mem_of_getElem? (i := 1158) (by decide +kernel), List.mem_of_getElem? (i := 1689) (by decide +kernel), List.mem_of_getElem? (i := 1690) (by decide +kernel)⟩
def lw_privs_7 : List (MethodName × Nat) := [(⟨"CheapPlannerModel", "know", "(III)V"⟩, 71), (⟨"CheapPlannerModel", "grow", "(II)Z"⟩, 71), (⟨"CheapPlannerModel", "tell", "(I)V"⟩, 71), (⟨"CheapPlannerModel", "tellName", "(J)V"⟩, 71), (⟨"CheapPlannerModel", "together", "(JI)I"⟩, 71)]
theorem lw_r7 : ∀ q ∈ lw_privs_7, lw_okq q := List.forall_mem_cons.mpr ⟨lw_p96, List.forall_mem_cons.mpr ⟨lw_p97, List.forall_mem_cons.mpr ⟨lw_p98, List.forall_mem_cons.mpr ⟨lw_p99, List.forall_mem_cons.mpr ⟨lw_p100, fun _ h => absurd h List.not_mem_nil⟩⟩⟩⟩⟩
def lw_privs : List (MethodName × Nat) := lw_privs_1 ++ (lw_privs_2 ++ (lw_privs_3 ++ (lw_privs_4 ++ (lw_privs_5 ++ (lw_privs_6 ++ (lw_privs_7))))))
def lw_tbl : List Cond := k2_sels lw_privs ++ tables_1
theorem lw_privs_ok : ∀ q ∈ lw_privs, lw_okq q := by
  show ∀ q ∈ lw_privs_1 ++ (lw_privs_2 ++ (lw_privs_3 ++ (lw_privs_4 ++ (lw_privs_5 ++ (lw_privs_6 ++ (lw_privs_7)))))), lw_okq q
  exact List.forall_mem_append.mpr ⟨lw_r1, List.forall_mem_append.mpr ⟨lw_r2, List.forall_mem_append.mpr ⟨lw_r3, List.forall_mem_append.mpr ⟨lw_r4, List.forall_mem_append.mpr ⟨lw_r5, List.forall_mem_append.mpr ⟨lw_r6, lw_r7⟩⟩⟩⟩⟩⟩
end
section
/-! THE ABSTRACT MACHINE: cells by number, references as numbers of cells (.ref k: the k-th new cell), .retAddr j: the j-th text constant -/
abbrev xi_E : Type := (Nat × vp_A) ⊕ (Nat × List Value)
abbrev xi_H : Type := List xi_E
abbrev xi_L : Type := List (Nat × Value)
/-- a row of a method's table: instruction, length, next place, numbers of its own -/
abbrev xi_I : Type := Instr × Nat × Nat × List Nat
/-- a value, made real -/
def xi_v (b0 : Nat) (aS : Nat → Nat) : Value → Value
  | .ref k => .ref (b0 + k)
  | .retAddr j => .ref (aS j)
  | v => v
def xi_q (b0 : Nat) (x : vp_A) : vp_A := match x with
  | (n, .inr (.inr (.inr (.inr f)))) => (n, .inr (.inr (.inr (.inr (fun j => (f j).map (fun k => b0 + k))))))
  | x => x
def xi_e (b0 : Nat) (aS : Nat → Nat) (dA : Nat → ClassId) : xi_E → va_E
  | .inl (t, x) => .inl (dA t, xi_q b0 x)
  | .inr (ci, fs) => .inr (ci, fs.map (xi_v b0 aS))
def xi_w (b0 : Nat) (aS : Nat → Nat) (dA : Nat → ClassId) (A : xi_H) : va_W := A.mapIdx (fun k x => (b0 + k, xi_e b0 aS dA x))
def xi_l (b0 : Nat) (aS : Nat → Nat) (lv : xi_L) : xi_L := lv.map (fun q => (q.1, xi_v b0 aS q.2))
/-- slots of a heap -/
def xi_n : xi_E → Nat
  | .inl (_, x) => x.1
  | .inr (_, fs) => fs.length
def xi_ns (A : xi_H) : Nat := (A.map xi_n).sum
theorem xi_v_cat (b0 : Nat) (aS : Nat → Nat) (v : Value) : (xi_v b0 aS v).category = v.category := by cases v <;> rfl
theorem xi_w_get {b0 : Nat} {aS : Nat → Nat} {dA : Nat → ClassId} {A : xi_H} {k : Nat} {x : xi_E} (h : A[k]? = some x) : (xi_w b0 aS dA A)[k]? = some (b0 + k, xi_e b0 aS dA x) := by
  simp [xi_w, h]
theorem xi_w_len (b0 : Nat) (aS : Nat → Nat) (dA : Nat → ClassId) (A : xi_H) : (xi_w b0 aS dA A).length = A.length := by simp [xi_w]
theorem xi_w_set {b0 : Nat} {aS : Nat → Nat} {dA : Nat → ClassId} {A : xi_H} {k : Nat} {x : xi_E} : (xi_w b0 aS dA A).set k (b0 + k, xi_e b0 aS dA x) = xi_w b0 aS dA (A.set k x) := by
  apply List.ext_getElem?
  intro i
  by_cases h : k = i
  · subst h
    by_cases hk : k < A.length
    · simp [xi_w, List.getElem?_set, hk]
    · simp [xi_w, List.getElem?_set, hk]
  · simp [xi_w, List.getElem?_set, h]
theorem xi_w_push {b0 : Nat} {aS : Nat → Nat} {dA : Nat → ClassId} {A : xi_H} {x : xi_E} : xi_w b0 aS dA A ++ [(b0 + A.length, xi_e b0 aS dA x)] = xi_w b0 aS dA (A ++ [x]) := by
  simp [xi_w, List.mapIdx_append]
theorem xi_w_D {b0 : Nat} {aS : Nat → Nat} {dA : Nat → ClassId} (A : xi_H) : va_D (fun q => b0 ≤ q) (xi_w b0 aS dA A) := by
  refine ⟨fun i j p q hi hj h => ?_, fun k q hk => ?_⟩
  · simp only [xi_w, List.getElem?_mapIdx, Option.map_eq_some_iff] at hi hj
    obtain ⟨x, -, rfl⟩ := hi
    obtain ⟨y, -, rfl⟩ := hj
    simp only at h
    omega
  · simp only [xi_w, List.getElem?_mapIdx, Option.map_eq_some_iff] at hk
    obtain ⟨x, -, rfl⟩ := hk
    exact Nat.le_add_right _ _
theorem xi_ns_set {A : xi_H} {k : Nat} {x y : xi_E} (h : A[k]? = some x) (hn : xi_n x = xi_n y) : xi_ns (A.set k y) = xi_ns A := by
  unfold xi_ns
  congr 1
  apply List.ext_getElem?
  intro i
  by_cases hi : k = i
  · subst hi
    obtain ⟨hk, he⟩ := List.getElem?_eq_some_iff.mp h
    simp [List.getElem?_set, hk, he, hn]
  · simp [List.getElem?_set, hi]
theorem xi_ns_push (A : xi_H) (x : xi_E) : xi_ns (A ++ [x]) = xi_ns A + xi_n x := by simp [xi_ns]
def xi_isr : Value → Bool
  | .ref _ => true
  | .retAddr _ => true
  | .null => true
  | _ => false
/-! LOCALS -/
def xi_get (lv : xi_L) (i : Nat) : Option Value := (lv.find? (fun q => q.1 == i)).map (·.2)
def xi_put1 (lv : xi_L) (i : Nat) (v : Value) : xi_L := (i, v) :: lv.filter (fun q => !(q.1 == i) && !(q.1 + 1 == i && q.2.category == 2))
def xi_put2 (lv : xi_L) (i : Nat) (v : Value) : xi_L := (i, v) :: lv.filter (fun q => !(q.1 == i) && (!(q.1 == i + 1) && !(q.1 + 1 == i && q.2.category == 2)))
theorem xi_get_mem {lv : xi_L} {i : Nat} {v : Value} (h : xi_get lv i = some v) : (i, v) ∈ lv := by
  simp only [xi_get, Option.map_eq_some_iff] at h
  obtain ⟨q, h1, rfl⟩ := h
  have h2 := List.find?_some h1
  have h3 := List.mem_of_find?_eq_some h1
  simp only [beq_iff_eq] at h2
  rw [← h2]
  exact h3
theorem xi_get_at {b0 : Nat} {aS : Nat → Nat} {ls : Array Slot} {nL : Nat} {lv : xi_L} {i : Nat} {v : Value} (hl : lv_has ls nL (xi_l b0 aS lv)) (h : xi_get lv i = some v) : ls[i]? = some (.val (xi_v b0 aS v)) :=
  hl.2.2 (i, xi_v b0 aS v) (List.mem_map.mpr ⟨(i, v), xi_get_mem h, rfl⟩)
theorem xi_get_ix {b0 : Nat} {aS : Nat → Nat} {lv : xi_L} {i : Nat} {v : Value} (h : xi_get lv i = some v) : ∃ k : Nat, (xi_l b0 aS lv)[k]? = some (i, xi_v b0 aS v) :=
  List.getElem?_of_mem (List.mem_map.mpr ⟨(i, v), xi_get_mem h, rfl⟩)
theorem xi_put1_l (b0 : Nat) (aS : Nat → Nat) (lv : xi_L) (i : Nat) (v : Value) : (i, xi_v b0 aS v) :: (xi_l b0 aS lv).filter (fun q => !(q.1 == i) && !(q.1 + 1 == i && q.2.category == 2)) = xi_l b0 aS (xi_put1 lv i v) := by
  simp only [xi_l, xi_put1, List.map_cons, List.filter_map, Function.comp_def, xi_v_cat]
theorem xi_put2_l (b0 : Nat) (aS : Nat → Nat) (lv : xi_L) (i : Nat) (v : Value) : (i, xi_v b0 aS v) :: (xi_l b0 aS lv).filter (fun q => !(q.1 == i) && (!(q.1 == i + 1) && !(q.1 + 1 == i && q.2.category == 2))) = xi_l b0 aS (xi_put2 lv i v) := by
  simp only [xi_l, xi_put2, List.map_cons, List.filter_map, Function.comp_def, xi_v_cat]
end
section
/-! THE CLASSES: name, fields in the order of the slots as the tables say them (declaring class, name, descriptor, final), how many -/
def xi_f0 : List (String × String × String × Bool) := [("CheapPlanner", "tokens", "LCheapPlanner$Tokens;", true), ("CheapPlanner", "rules", "LCheapPlanner$Domain;", true), ("CheapPlanner", "task", "LCheapPlanner$Problem;", true), ("CheapPlanner", "reader", "LCheapPlanner$Reader;", true), ("CheapPlanner", "scene", "LCheapPlanner$Ground;", true), ("CheapPlanner", "search", "LCheapPlanner$Search;", true), ("CheapPlanner", "guess", "LCheapPlanner$Estimate;", true), ("CheapPlanner", "hasDomain", "Z", false), ("CheapPlanner", "hasProblem", "Z", false), ("CheapPlanner", "row", "[I", true), ("CheapPlanner", "rowLength", "I", false), ("CheapPlanner", "told", "[C", true), ("CheapPlanner", "toldLength", "I", false)]
def xi_f1 : List (String × String × String × Bool) := [("CheapPlanner$Tokens", "typed", "[C", true), ("CheapPlanner$Tokens", "length", "I", false), ("CheapPlanner$Tokens", "kinds", "[I", true), ("CheapPlanner$Tokens", "starts", "[I", true), ("CheapPlanner$Tokens", "ends", "[I", true), ("CheapPlanner$Tokens", "codes", "[J", true), ("CheapPlanner$Tokens", "count", "I", false), ("CheapPlanner$Tokens", "at", "I", false), ("CheapPlanner$Tokens", "met", "I", false)]
def xi_f2 : List (String × String × String × Bool) := [("CheapPlanner$Domain", "name", "J", false), ("CheapPlanner$Domain", "types", "LCheapPlanner$Names;", true), ("CheapPlanner$Domain", "predicates", "LCheapPlanner$Names;", true), ("CheapPlanner$Domain", "predicateParameters", "[LCheapPlanner$Names;", true), ("CheapPlanner$Domain", "actions", "LCheapPlanner$Names;", true), ("CheapPlanner$Domain", "actionParameters", "[LCheapPlanner$Names;", true), ("CheapPlanner$Domain", "conditions", "[LCheapPlanner$Clause;", true), ("CheapPlanner$Domain", "effects", "[LCheapPlanner$Clause;", true)]
def xi_f3 : List (String × String × String × Bool) := [("CheapPlanner$Names", "codes", "[J", true), ("CheapPlanner$Names", "types", "[I", true), ("CheapPlanner$Names", "count", "I", false)]
def xi_f4 : List (String × String × String × Bool) := [("CheapPlanner$Clause", "predicates", "[I", true), ("CheapPlanner$Clause", "nots", "[Z", true), ("CheapPlanner$Clause", "firsts", "[I", true), ("CheapPlanner$Clause", "seconds", "[I", true), ("CheapPlanner$Clause", "count", "I", false), ("CheapPlanner$Clause", "cost", "I", false)]
def xi_f5 : List (String × String × String × Bool) := [("CheapPlanner$Problem", "objects", "LCheapPlanner$Names;", true), ("CheapPlanner$Problem", "init", "LCheapPlanner$Clause;", true), ("CheapPlanner$Problem", "goal", "LCheapPlanner$Clause;", true)]
def xi_f6 : List (String × String × String × Bool) := [("CheapPlanner$Reader", "tokens", "LCheapPlanner$Tokens;", true), ("CheapPlanner$Reader", "rules", "LCheapPlanner$Domain;", true), ("CheapPlanner$Reader", "task", "LCheapPlanner$Problem;", true), ("CheapPlanner$Reader", "clauses", "LCheapPlanner$ClauseReader;", true)]
def xi_f7 : List (String × String × String × Bool) := [("CheapPlanner$ClauseReader", "tokens", "LCheapPlanner$Tokens;", true), ("CheapPlanner$ClauseReader", "rules", "LCheapPlanner$Domain;", true), ("CheapPlanner$ClauseReader", "terms", "LCheapPlanner$Names;", false), ("CheapPlanner$ClauseReader", "termKind", "I", false)]
def xi_f8 : List (String × String × String × Bool) := [("CheapPlanner$Ground", "factNumbers", "[I", true), ("CheapPlanner$Ground", "factCount", "I", false), ("CheapPlanner$Ground", "list", "[LCheapPlanner$Step;", true), ("CheapPlanner$Ground", "stepCount", "I", false), ("CheapPlanner$Ground", "firstState", "J", false), ("CheapPlanner$Ground", "goal", "LCheapPlanner$Needs;", true), ("CheapPlanner$Ground", "itself", "[I", true)]
def xi_f9 : List (String × String × String × Bool) := [("CheapPlanner$Needs", "inside", "J", false), ("CheapPlanner$Needs", "outside", "J", false), ("CheapPlanner$Needs", "equalitiesHold", "Z", false), ("CheapPlanner$Needs", "atoms", "[I", true), ("CheapPlanner$Needs", "atomCount", "I", false)]
def xi_f10 : List (String × String × String × Bool) := [("CheapPlanner$Step", "action", "I", false), ("CheapPlanner$Step", "objects", "[I", true), ("CheapPlanner$Step", "cost", "I", false), ("CheapPlanner$Step", "needs", "LCheapPlanner$Needs;", true), ("CheapPlanner$Step", "going", "J", false), ("CheapPlanner$Step", "coming", "J", false), ("CheapPlanner$Step", "comers", "[I", true), ("CheapPlanner$Step", "comerCount", "I", false)]
def xi_f11 : List (String × String × String × Bool) := [("CheapPlanner$Search", "scene", "LCheapPlanner$Ground;", true), ("CheapPlanner$Search", "states", "[J", true), ("CheapPlanner$Search", "costs", "[I", true), ("CheapPlanner$Search", "dues", "[I", true), ("CheapPlanner$Search", "lengths", "[I", true), ("CheapPlanner$Search", "parents", "[I", true), ("CheapPlanner$Search", "lastSteps", "[I", true), ("CheapPlanner$Search", "slots", "[I", true), ("CheapPlanner$Search", "count", "I", false), ("CheapPlanner$Search", "limit", "I", false), ("CheapPlanner$Search", "crowded", "Z", false), ("CheapPlanner$Search", "found", "Z", false), ("CheapPlanner$Search", "cost", "I", false), ("CheapPlanner$Search", "steps", "[I", true)]
def xi_f12 : List (String × String × String × Bool) := [("CheapPlanner$Estimate", "scene", "LCheapPlanner$Ground;", true), ("CheapPlanner$Estimate", "worths", "[I", true)]
def xi_f13 : List (String × String × String × Bool) := [("CheapPlannerModel", "code", "I", false), ("CheapPlannerModel", "length", "I", false), ("CheapPlannerModel", "text", "[I", true), ("CheapPlannerModel", "keyword", "[I", true), ("CheapPlannerModel", "tokens", "I", false), ("CheapPlannerModel", "pos", "I", false), ("CheapPlannerModel", "tokenAt", "[I", true), ("CheapPlannerModel", "tokenEnd", "[I", true), ("CheapPlannerModel", "fault", "I", false), ("CheapPlannerModel", "faultNumber", "I", false), ("CheapPlannerModel", "faultPlace", "I", false), ("CheapPlannerModel", "hasDomain", "Z", false), ("CheapPlannerModel", "hasProblem", "Z", false), ("CheapPlannerModel", "hasPlan", "Z", false), ("CheapPlannerModel", "domainName", "J", false), ("CheapPlannerModel", "types", "I", false), ("CheapPlannerModel", "typeName", "[J", true), ("CheapPlannerModel", "predicates", "I", false), ("CheapPlannerModel", "predicateName", "[J", true), ("CheapPlannerModel", "predicateSize", "[I", true), ("CheapPlannerModel", "predicateType", "[I", true), ("CheapPlannerModel", "actions", "I", false), ("CheapPlannerModel", "actionName", "[J", true), ("CheapPlannerModel", "actionSize", "[I", true), ("CheapPlannerModel", "actionType", "[I", true), ("CheapPlannerModel", "variable", "[J", true), ("CheapPlannerModel", "actionCost", "[I", true), ("CheapPlannerModel", "conditions", "[I", true), ("CheapPlannerModel", "effects", "[I", true), ("CheapPlannerModel", "isEqual", "[Z", true), ("CheapPlannerModel", "isNot", "[Z", true), ("CheapPlannerModel", "predicate", "[I", true), ("CheapPlannerModel", "term", "[I", true), ("CheapPlannerModel", "objects", "I", false), ("CheapPlannerModel", "objectName", "[J", true), ("CheapPlannerModel", "objectType", "[I", true), ("CheapPlannerModel", "facts", "I", false), ("CheapPlannerModel", "factOf", "[I", true), ("CheapPlannerModel", "first", "J", false), ("CheapPlannerModel", "steps", "I", false), ("CheapPlannerModel", "stepAction", "[I", true), ("CheapPlannerModel", "stepObject", "[I", true), ("CheapPlannerModel", "needs", "[J", true), ("CheapPlannerModel", "lacks", "[J", true), ("CheapPlannerModel", "comes", "[J", true), ("CheapPlannerModel", "goes", "[J", true), ("CheapPlannerModel", "goalNeeds", "J", false), ("CheapPlannerModel", "goalLacks", "J", false), ("CheapPlannerModel", "goalHolds", "Z", false), ("CheapPlannerModel", "states", "I", false), ("CheapPlannerModel", "state", "[J", true), ("CheapPlannerModel", "cost", "[I", true), ("CheapPlannerModel", "depth", "[I", true), ("CheapPlannerModel", "before", "[I", true), ("CheapPlannerModel", "by", "[I", true), ("CheapPlannerModel", "table", "[I", true), ("CheapPlannerModel", "pathA", "[I", true), ("CheapPlannerModel", "pathB", "[I", true), ("CheapPlannerModel", "planSteps", "I", false), ("CheapPlannerModel", "plan", "[I", true), ("CheapPlannerModel", "row", "I", false), ("CheapPlannerModel", "rowStep", "[I", true), ("CheapPlannerModel", "scratch", "[J", true), ("CheapPlannerModel", "increased", "Z", false), ("CheapPlannerModel", "initBits", "J", false), ("CheapPlannerModel", "given", "[I", true), ("CheapPlannerModel", "goalFound", "Z", false), ("CheapPlannerModel", "told", "I", false), ("CheapPlannerModel", "wanted", "I", false), ("CheapPlannerModel", "found", "I", false), ("CheapPlannerModel", "worth", "[I", true)]
def xi_fl : List (List (String × String × String × Bool)) := [xi_f0, xi_f1, xi_f2, xi_f3, xi_f4, xi_f5, xi_f6, xi_f7, xi_f8, xi_f9, xi_f10, xi_f11, xi_f12, xi_f13]
def xi_fT (ci : Nat) : u_T := fun k => (xi_fl.getD ci []).getD k ("", "", "", false)
def xi_cl : List vw_C := [("CheapPlanner", xi_fT 0, 13), ("CheapPlanner$Tokens", xi_fT 1, 9), ("CheapPlanner$Domain", xi_fT 2, 8), ("CheapPlanner$Names", xi_fT 3, 3), ("CheapPlanner$Clause", xi_fT 4, 6), ("CheapPlanner$Problem", xi_fT 5, 3), ("CheapPlanner$Reader", xi_fT 6, 4), ("CheapPlanner$ClauseReader", xi_fT 7, 4), ("CheapPlanner$Ground", xi_fT 8, 7), ("CheapPlanner$Needs", xi_fT 9, 5), ("CheapPlanner$Step", xi_fT 10, 8), ("CheapPlanner$Search", xi_fT 11, 14), ("CheapPlanner$Estimate", xi_fT 12, 2), ("CheapPlannerModel", xi_fT 13, 71), ("java/lang/IllegalArgumentException", xi_fT 14, 0), ("java/lang/IllegalStateException", xi_fT 15, 0), ("java/lang/UnsupportedOperationException", xi_fT 16, 0), ("java/util/NoSuchElementException", xi_fT 17, 0), ("java/lang/IndexOutOfBoundsException", xi_fT 18, 0)]
def xi_t0 : List FieldType := [.object "CheapPlanner$Tokens", .object "CheapPlanner$Domain", .object "CheapPlanner$Problem", .object "CheapPlanner$Reader", .object "CheapPlanner$Ground", .object "CheapPlanner$Search", .object "CheapPlanner$Estimate", .boolean, .boolean, .array (.int), .int, .array (.char), .int]
def xi_t1 : List FieldType := [.array (.char), .int, .array (.int), .array (.int), .array (.int), .array (.long), .int, .int, .int]
def xi_t2 : List FieldType := [.long, .object "CheapPlanner$Names", .object "CheapPlanner$Names", .array (.object "CheapPlanner$Names"), .object "CheapPlanner$Names", .array (.object "CheapPlanner$Names"), .array (.object "CheapPlanner$Clause"), .array (.object "CheapPlanner$Clause")]
def xi_t3 : List FieldType := [.array (.long), .array (.int), .int]
def xi_t4 : List FieldType := [.array (.int), .array (.boolean), .array (.int), .array (.int), .int, .int]
def xi_t5 : List FieldType := [.object "CheapPlanner$Names", .object "CheapPlanner$Clause", .object "CheapPlanner$Clause"]
def xi_t6 : List FieldType := [.object "CheapPlanner$Tokens", .object "CheapPlanner$Domain", .object "CheapPlanner$Problem", .object "CheapPlanner$ClauseReader"]
def xi_t7 : List FieldType := [.object "CheapPlanner$Tokens", .object "CheapPlanner$Domain", .object "CheapPlanner$Names", .int]
def xi_t8 : List FieldType := [.array (.int), .int, .array (.object "CheapPlanner$Step"), .int, .long, .object "CheapPlanner$Needs", .array (.int)]
def xi_t9 : List FieldType := [.long, .long, .boolean, .array (.int), .int]
def xi_t10 : List FieldType := [.int, .array (.int), .int, .object "CheapPlanner$Needs", .long, .long, .array (.int), .int]
def xi_t11 : List FieldType := [.object "CheapPlanner$Ground", .array (.long), .array (.int), .array (.int), .array (.int), .array (.int), .array (.int), .array (.int), .int, .int, .boolean, .boolean, .int, .array (.int)]
def xi_t12 : List FieldType := [.object "CheapPlanner$Ground", .array (.int)]
def xi_t13 : List FieldType := [.int, .int, .array (.int), .array (.int), .int, .int, .array (.int), .array (.int), .int, .int, .int, .boolean, .boolean, .boolean, .long, .int, .array (.long), .int, .array (.long), .array (.int), .array (.int), .int, .array (.long), .array (.int), .array (.int), .array (.long), .array (.int), .array (.int), .array (.int), .array (.boolean), .array (.boolean), .array (.int), .array (.int), .int, .array (.long), .array (.int), .int, .array (.int), .long, .int, .array (.int), .array (.int), .array (.long), .array (.long), .array (.long), .array (.long), .long, .long, .boolean, .int, .array (.long), .array (.int), .array (.int), .array (.int), .array (.int), .array (.int), .array (.int), .array (.int), .int, .array (.int), .int, .array (.int), .array (.long), .boolean, .long, .array (.int), .boolean, .int, .int, .int, .array (.int)]
def xi_tl : List (List FieldType) := [xi_t0, xi_t1, xi_t2, xi_t3, xi_t4, xi_t5, xi_t6, xi_t7, xi_t8, xi_t9, xi_t10, xi_t11, xi_t12, xi_t13]
def xi_ty (ci k : Nat) : FieldType := (xi_tl.getD ci []).getD k .int
def xi_df (ci : Nat) : List Value := if ci < 14 then (xi_tl.getD ci []).map defaultValue else List.replicate 6 .null
def xi_tyl : List FieldType := [.int, .long, .char, .boolean, .object "CheapPlanner$Names", .object "CheapPlanner$Clause", .object "CheapPlanner$Step"]
def xi_tys (dA : Nat → ClassId) : List (ClassId × FieldType) := [(dA 0, .int), (dA 1, .long), (dA 2, .char), (dA 3, .boolean), (dA 4, .object "CheapPlanner$Names"), (dA 5, .object "CheapPlanner$Clause"), (dA 6, .object "CheapPlanner$Step")]
theorem xi_tys_at (dA : Nat → ClassId) {t : Nat} {ty : FieldType} (h : xi_tyl[t]? = some ty) : (xi_tys dA)[t]? = some (dA t, ty) := by
  match t, h with
  | 0, h => cases h; rfl
  | 1, h => cases h; rfl
  | 2, h => cases h; rfl
  | 3, h => cases h; rfl
  | 4, h => cases h; rfl
  | 5, h => cases h; rfl
  | 6, h => cases h; rfl
  | t + 7, h => simp [xi_tyl] at h
def xi_str : List (String × Nat × String) := [("CheapPlanner$Reader", 40, "domain"), ("CheapPlanner$Tokens", 78, "the text has a fault"), ("CheapPlanner$Reader", 80, "define"), ("CheapPlanner$Reader", 58, ":types"), ("CheapPlanner$Reader", 93, ":predicates"), ("CheapPlanner$Reader", 145, "-"), ("CheapPlanner$Reader", 105, ":action"), ("CheapPlanner$Reader", 110, ":parameters"), ("CheapPlanner$Reader", 125, ":precondition"), ("CheapPlanner$ClauseReader", 41, "and"), ("CheapPlanner$ClauseReader", 58, "increase"), ("CheapPlanner$ClauseReader", 115, "total-cost"), ("CheapPlanner$ClauseReader", 64, "not"), ("CheapPlanner$ClauseReader", 66, "="), ("CheapPlanner$Reader", 134, ":effect"), ("CheapPlanner", 107, "there is no domain"), ("CheapPlanner$Reader", 168, "problem"), ("CheapPlanner$Reader", 197, ":domain"), ("CheapPlanner$Reader", 199, ":objects"), ("CheapPlanner$Reader", 179, ":init"), ("CheapPlanner$Reader", 192, ":goal"), ("CheapPlanner", 121, "too many facts or steps"), ("CheapPlanner", 229, "there is no problem"), ("CheapPlanner", 135, "states is not 1 .. 200"), ("CheapPlanner", 148, "more states than allowed"), ("CheapPlanner", 173, "there is no plan"), ("CheapPlanner", 176, "no such step of a plan"), ("CheapPlanner", 181, "no such step"), ("CheapPlanner", 183, "no such what"), ("CheapPlanner", 198, "no such letter of a plan")]
def xi_nest : List Cond := [.methodLinkNest "CheapPlanner" 9 ⟨"CheapPlanner$Tokens", "<init>", "()V"⟩ "CheapPlanner", .methodLinkNest "CheapPlanner" 25 ⟨"CheapPlanner$Problem", "<init>", "()V"⟩ "CheapPlanner", .methodLinkNest "CheapPlanner$Ground" 25 ⟨"CheapPlanner$Needs", "<init>", "()V"⟩ "CheapPlanner", .methodLinkNest "CheapPlanner$Ground" 33 ⟨"CheapPlanner$Step", "<init>", "()V"⟩ "CheapPlanner", .methodLinkNest "CheapPlanner$Step" 17 ⟨"CheapPlanner$Needs", "<init>", "()V"⟩ "CheapPlanner", .castable "java/lang/IllegalArgumentException" "java/lang/IllegalArgumentException", .declares ⟨"java/lang/RuntimeException", "<init>", "()V"⟩, .declares ⟨"java/lang/RuntimeException", "<init>", "(Ljava/lang/String;)V"⟩, .declares ⟨"java/lang/Exception", "<init>", "()V"⟩, .declares ⟨"java/lang/Exception", "<init>", "(Ljava/lang/String;)V"⟩, .declares ⟨"java/lang/Throwable", "<init>", "()V"⟩, .declares ⟨"java/lang/Throwable", "<init>", "(Ljava/lang/String;)V"⟩, .castable "java/lang/IllegalStateException" "java/lang/IllegalStateException", .castable "java/lang/UnsupportedOperationException" "java/lang/UnsupportedOperationException", .castable "java/util/NoSuchElementException" "java/util/NoSuchElementException", .castable "java/lang/IndexOutOfBoundsException" "java/lang/IndexOutOfBoundsException"]
def xi_ao : List String := ["CheapPlanner$Names", "CheapPlanner$Clause", "CheapPlanner$Step"]
def xi_stq : List (String × String × String) := [("java/lang/Throwable", "UNASSIGNED_STACK", "[Ljava/lang/StackTraceElement;"), ("java/lang/Throwable", "SUPPRESSED_SENTINEL", "Ljava/util/List;")]
/-- the words that last -/
def xi_G : List Cond := lw_tbl.filter goodWord
def xi_part : Nat → List Cond
  | 0 => k2_sels lw_privs
  | 1 => tables_1_1
  | 2 => tables_1_2
  | 3 => tables_1_3
  | 4 => tables_1_4
  | 5 => tables_1_5
  | 6 => tables_1_6
  | 7 => tables_1_7
  | 8 => tables_1_8
  | _ => []
theorem xi_part_mem : ∀ {k : Nat} {w : Cond}, w ∈ xi_part k → w ∈ lw_tbl
  | 0, _, h => by simp only [lw_tbl, tables_1, List.mem_append]; simp only [xi_part] at h; simp [h]
  | 1, _, h => by simp only [lw_tbl, tables_1, List.mem_append]; simp only [xi_part] at h; simp [h]
  | 2, _, h => by simp only [lw_tbl, tables_1, List.mem_append]; simp only [xi_part] at h; simp [h]
  | 3, _, h => by simp only [lw_tbl, tables_1, List.mem_append]; simp only [xi_part] at h; simp [h]
  | 4, _, h => by simp only [lw_tbl, tables_1, List.mem_append]; simp only [xi_part] at h; simp [h]
  | 5, _, h => by simp only [lw_tbl, tables_1, List.mem_append]; simp only [xi_part] at h; simp [h]
  | 6, _, h => by simp only [lw_tbl, tables_1, List.mem_append]; simp only [xi_part] at h; simp [h]
  | 7, _, h => by simp only [lw_tbl, tables_1, List.mem_append]; simp only [xi_part] at h; simp [h]
  | 8, _, h => by simp only [lw_tbl, tables_1, List.mem_append]; simp only [xi_part] at h; simp [h]
  | k + 9, _, h => by simp [xi_part] at h
def xi_Gat (ix : Nat) (w : Cond) : Bool := decide ((xi_part (ix / 1000))[ix % 1000]? = some w) && goodWord w
theorem xi_Gm {ix : Nat} {w : Cond} (h : xi_Gat ix w = true) : w ∈ xi_G := by
  simp only [xi_Gat, Bool.and_eq_true, decide_eq_true_eq] at h
  exact List.mem_filter.mpr ⟨xi_part_mem (List.mem_of_getElem? h.1), h.2⟩
def xi_lix : List (List Nat) := [[2199, 2201, 2203, 2205, 2207, 2209, 2211, 2213, 2215, 2217, 2219, 2221, 2223], [1052, 1054, 1056, 1058, 1060, 1062, 1064, 1066, 1068], [1170, 1172, 1174, 1176, 1178, 1180, 1182, 1184], [1097, 1099, 1101], [1131, 1133, 1135, 1137, 1139, 1141], [1207, 1209, 1211], [2003, 2005, 2007, 2009], [1230, 1232, 1234, 1236], [2109, 2111, 2113, 2115, 2117, 2119, 2121], [2033, 2035, 2037, 2039, 2041], [2072, 2074, 2076, 2078, 2080, 2082, 2084, 2086], [2144, 2146, 2148, 2150, 2152, 2154, 2156, 2158, 2160, 2162, 2164, 2166, 2168, 2170], [2181, 2183], [6076, 6078, 6080, 6082, 6084, 6086, 6088, 6090, 6092, 6094, 6096, 6098, 6100, 6102, 6104, 6106, 6108, 6110, 6112, 6114, 6116, 6118, 6120, 6122, 6124, 6126, 6128, 6130, 6132, 6134, 6136, 6138, 6140, 6142, 6144, 6146, 6148, 6150, 6152, 6154, 6156, 6158, 6160, 6162, 6164, 6166, 6168, 6170, 6172, 6174, 6176, 6178, 6180, 6182, 6184, 6186, 6188, 6190, 6192, 6194, 6196, 6198, 6200, 6202, 6204, 6206, 6208, 6210, 6212, 6214, 6216]]
def xi_chk (ci : Nat) : Bool := match xi_cl[ci]? with
  | some (C, T, N) => (List.range N).all (fun k => xi_Gat ((xi_lix.getD ci []).getD k 0) (u_lay C T k)) && ((List.range N).all (fun k => decide (parseFieldDescriptor (T k).2.2.1 = some (xi_ty ci k))) && ((List.range N).all (fun a => (List.range N).all (fun b => decide (a = b) || decide ((T a).2.1 ≠ (T b).2.1))) && (List.range N).all (fun k => decide ((xi_df ci)[k]? = some (defaultValue (xi_ty ci k))))))
  | none => true
theorem xi_chk_0 : xi_chk 0 = true := by decide +kernel
theorem xi_chk_1 : xi_chk 1 = true := by decide +kernel
theorem xi_chk_2 : xi_chk 2 = true := by decide +kernel
theorem xi_chk_3 : xi_chk 3 = true := by decide +kernel
theorem xi_chk_4 : xi_chk 4 = true := by decide +kernel
theorem xi_chk_5 : xi_chk 5 = true := by decide +kernel
theorem xi_chk_6 : xi_chk 6 = true := by decide +kernel
theorem xi_chk_7 : xi_chk 7 = true := by decide +kernel
theorem xi_chk_8 : xi_chk 8 = true := by decide +kernel
theorem xi_chk_9 : xi_chk 9 = true := by decide +kernel
theorem xi_chk_10 : xi_chk 10 = true := by decide +kernel
theorem xi_chk_11 : xi_chk 11 = true := by decide +kernel
theorem xi_chk_12 : xi_chk 12 = true := by decide +kernel
theorem xi_chk_13 : xi_chk 13 = true := by decide +kernel
theorem xi_chk_14 : xi_chk 14 = true := by decide +kernel
theorem xi_chk_15 : xi_chk 15 = true := by decide +kernel
theorem xi_chk_16 : xi_chk 16 = true := by decide +kernel
theorem xi_chk_17 : xi_chk 17 = true := by decide +kernel
theorem xi_chk_18 : xi_chk 18 = true := by decide +kernel
theorem xi_chk_all : ∀ ci, xi_chk ci = true
  | 0 => xi_chk_0
  | 1 => xi_chk_1
  | 2 => xi_chk_2
  | 3 => xi_chk_3
  | 4 => xi_chk_4
  | 5 => xi_chk_5
  | 6 => xi_chk_6
  | 7 => xi_chk_7
  | 8 => xi_chk_8
  | 9 => xi_chk_9
  | 10 => xi_chk_10
  | 11 => xi_chk_11
  | 12 => xi_chk_12
  | 13 => xi_chk_13
  | 14 => xi_chk_14
  | 15 => xi_chk_15
  | 16 => xi_chk_16
  | 17 => xi_chk_17
  | 18 => xi_chk_18
  | ci + 19 => by simp [xi_chk, xi_cl]
theorem xi_chk_at {ci : Nat} {C : String} {T : u_T} {N : Nat} (hc : xi_cl[ci]? = some (C, T, N)) : ((List.range N).all (fun k => xi_Gat ((xi_lix.getD ci []).getD k 0) (u_lay C T k)) = true ∧ (List.range N).all (fun k => decide (parseFieldDescriptor (T k).2.2.1 = some (xi_ty ci k))) = true) ∧ ((List.range N).all (fun a => (List.range N).all (fun b => decide (a = b) || decide ((T a).2.1 ≠ (T b).2.1))) = true ∧ (List.range N).all (fun k => decide ((xi_df ci)[k]? = some (defaultValue (xi_ty ci k)))) = true) := by
  have h := xi_chk_all ci
  simp only [xi_chk, hc, Bool.and_eq_true] at h
  exact ⟨⟨h.1, h.2.1⟩, h.2.2.1, h.2.2.2⟩
theorem xi_in {ci : Nat} {C : String} {T : u_T} {N : Nat} (hc : xi_cl[ci]? = some (C, T, N)) : ∀ w ∈ u_ws C T N, w ∈ xi_G := by
  intro w hw
  obtain ⟨k, hk, rfl⟩ := List.mem_map.mp hw
  exact xi_Gm (List.all_eq_true.mp (xi_chk_at hc).1.1 k hk)
theorem xi_ty_ok {ci : Nat} {C : String} {T : u_T} {N k : Nat} (hc : xi_cl[ci]? = some (C, T, N)) (hk : k < N) : parseFieldDescriptor (T k).2.2.1 = some (xi_ty ci k) :=
  of_decide_eq_true (List.all_eq_true.mp (xi_chk_at hc).1.2 k (List.mem_range.mpr hk))
theorem xi_nm {ci : Nat} {C : String} {T : u_T} {N : Nat} (hc : xi_cl[ci]? = some (C, T, N)) : ∀ a, a < N → ∀ b, b < N → a ≠ b → (T a).2.1 ≠ (T b).2.1 := by
  intro a ha b hb hab
  have h := List.all_eq_true.mp (List.all_eq_true.mp (xi_chk_at hc).2.1 a (List.mem_range.mpr ha)) b (List.mem_range.mpr hb)
  simp only [Bool.or_eq_true, decide_eq_true_eq] at h
  exact h.resolve_left hab
theorem xi_v_df (b0 : Nat) (aS : Nat → Nat) (ty : FieldType) : xi_v b0 aS (defaultValue ty) = defaultValue ty := by cases ty <;> rfl
theorem xi_df_ok (b0 : Nat) (aS : Nat → Nat) {ci : Nat} {C : String} {T : u_T} {N j : Nat} (hc : xi_cl[ci]? = some (C, T, N)) (hj : j < N) : defaultValue (xi_ty ci j) = vp_V ((xi_df ci).map (xi_v b0 aS)) j := by
  have h := of_decide_eq_true (List.all_eq_true.mp (xi_chk_at hc).2.2 j (List.mem_range.mpr hj))
  simp [vp_V, h, xi_v_df]
end
section
abbrev xi_Z : Type := Program × Launch × Env × Room × State × MethodId × Array Value × List Frame × Method × Code × (State → Prop) × Nat × Nat × (Nat → Nat) × (Nat → ClassId) × va_G × Nat × Nat
def xi_R (b0 : Nat) (aS : Nat → Nat) (dA : Nat → ClassId) (D : va_G) (n0 s0 : Nat) (Hs : Heap) (A : xi_H) (H : Heap) (locs : List Loc) : Prop :=
  va_P D xi_cl (xi_w b0 aS dA A) H ∧ va_S (fun q => b0 ≤ q) Hs H locs ∧ n0 ≤ A.length ∧ s0 ≤ xi_ns A ∧ Hs.size = b0 + n0
def xi_At (z : xi_Z) (pc : Nat) (lv : xi_L) (st : List Value) (A : xi_H) : Prop := match z with
  | (p, l, e, R, s, m, args, below, meth, c, Q, nL, b0, aS, dA, D, n0, s0) => ∀ (H : Heap) (locs : List Loc) (ls : Array Slot), xi_R b0 aS dA D n0 s0 s.heap A H locs → lv_has ls nL (xi_l b0 aS lv) →
    W p l e R s m args below meth c H locs (A.length - n0) (xi_ns A - s0) Q (F0 m pc ls (st.map (xi_v b0 aS)))
/-- what lasts beside the words: the j-th text lies at aS j; links within the nest; array classes; two statics -/
def xi_St (b0 : Nat) (aS : Nat → Nat) (U : State) : Prop := (∀ (j : Nat) (q : String × Nat × String), xi_str[j]? = some q → vk_R q.1 q.2.1 q.2.2 (aS j) U) ∧ (∀ w ∈ xi_nest, va_Nw w U) ∧ (∀ C ∈ xi_ao, va_AO C U) ∧ ∀ q ∈ xi_stq, va_Zq q.1 q.2.1 q.2.2 (fun x => b0 ≤ x) U U.heap ∧ va_Nw (.laysStatic q.1 q.2.1 q.2.2) U
def xi_X (z : xi_Z) (cc : ByteArray) (own : String) : Prop := match z with
  | (p, _, _, _, s, m, args, _, _, c, _, nL, b0, aS, dA, D, _, _) => p.tables.exec = Jvm.exec ∧ c.code = cc ∧ c.maxLocals = nL ∧ s.vm.findClass own = some m.cls ∧ (∀ w ∈ xi_G, w.before args s = true) ∧ va_K D xi_cl (xi_tys dA) s ∧ xi_St b0 aS s
section XS
variable {z : xi_Z} {cc : ByteArray} {own : String} {pc : Nat} {lv : xi_L} {r : List Value} {A : xi_H}
theorem xs_iconst {n : Int} (X : xi_X z cc own) (hd : decode cc pc = .ok (.iconst n, 1)) (kk : xi_At z (pc + 1) lv (.int (Int32.ofInt n) :: r) A) : xi_At z pc lv (r) A := by
  obtain ⟨p, l, e, R, s, m, args, below, meth, c, Q, nL, b0, aS, dA, D, n0, s0⟩ := z
  obtain ⟨hx, hb, hml, hown, hts, hK, hstr⟩ := X
  intro H locs ls hR hl
  exact lv_iconst hx hb hd rfl (kk H locs ls hR hl)
theorem xs_bipush {n : Int} (X : xi_X z cc own) (hd : decode cc pc = .ok (.bipush n, 2)) (kk : xi_At z (pc + 2) lv (.int (Int8.ofInt n).toInt32 :: r) A) : xi_At z pc lv (r) A := by
  obtain ⟨p, l, e, R, s, m, args, below, meth, c, Q, nL, b0, aS, dA, D, n0, s0⟩ := z
  obtain ⟨hx, hb, hml, hown, hts, hK, hstr⟩ := X
  intro H locs ls hR hl
  exact lv_bipush hx hb hd rfl (kk H locs ls hR hl)
theorem xs_sipush {n : Int} (X : xi_X z cc own) (hd : decode cc pc = .ok (.sipush n, 3)) (kk : xi_At z (pc + 3) lv (.int (Int16.ofInt n).toInt32 :: r) A) : xi_At z pc lv (r) A := by
  obtain ⟨p, l, e, R, s, m, args, below, meth, c, Q, nL, b0, aS, dA, D, n0, s0⟩ := z
  obtain ⟨hx, hb, hml, hown, hts, hK, hstr⟩ := X
  intro H locs ls hR hl
  exact lv_sipush hx hb hd rfl (kk H locs ls hR hl)
theorem xs_lconst {n : Fin 2} (X : xi_X z cc own) (hd : decode cc pc = .ok (.lconst n, 1)) (kk : xi_At z (pc + 1) lv (.long (Int64.ofNat (n : Nat)) :: r) A) : xi_At z pc lv (r) A := by
  obtain ⟨p, l, e, R, s, m, args, below, meth, c, Q, nL, b0, aS, dA, D, n0, s0⟩ := z
  obtain ⟨hx, hb, hml, hown, hts, hK, hstr⟩ := X
  intro H locs ls hR hl
  exact lv_lconst hx hb hd rfl (kk H locs ls hR hl)
theorem xs_null  (X : xi_X z cc own) (hd : decode cc pc = .ok (.aconst_null, 1)) (kk : xi_At z (pc + 1) lv (.null :: r) A) : xi_At z pc lv (r) A := by
  obtain ⟨p, l, e, R, s, m, args, below, meth, c, Q, nL, b0, aS, dA, D, n0, s0⟩ := z
  obtain ⟨hx, hb, hml, hown, hts, hK, hstr⟩ := X
  intro H locs ls hR hl
  exact lv_null hx hb hd (kk H locs ls hR hl)
theorem xs_iadd {x y : Int32} (X : xi_X z cc own) (hd : decode cc pc = .ok (.iadd, 1)) (kk : xi_At z (pc + 1) lv (.int (x + y) :: r) A) : xi_At z pc lv (.int y :: .int x :: r) A := by
  obtain ⟨p, l, e, R, s, m, args, below, meth, c, Q, nL, b0, aS, dA, D, n0, s0⟩ := z
  obtain ⟨hx, hb, hml, hown, hts, hK, hstr⟩ := X
  intro H locs ls hR hl
  exact lv_iadd hx hb hd (kk H locs ls hR hl)
theorem xs_isub {x y : Int32} (X : xi_X z cc own) (hd : decode cc pc = .ok (.isub, 1)) (kk : xi_At z (pc + 1) lv (.int (x - y) :: r) A) : xi_At z pc lv (.int y :: .int x :: r) A := by
  obtain ⟨p, l, e, R, s, m, args, below, meth, c, Q, nL, b0, aS, dA, D, n0, s0⟩ := z
  obtain ⟨hx, hb, hml, hown, hts, hK, hstr⟩ := X
  intro H locs ls hR hl
  exact lv_isub hx hb hd (kk H locs ls hR hl)
theorem xs_imul {x y : Int32} (X : xi_X z cc own) (hd : decode cc pc = .ok (.imul, 1)) (kk : xi_At z (pc + 1) lv (.int (x * y) :: r) A) : xi_At z pc lv (.int y :: .int x :: r) A := by
  obtain ⟨p, l, e, R, s, m, args, below, meth, c, Q, nL, b0, aS, dA, D, n0, s0⟩ := z
  obtain ⟨hx, hb, hml, hown, hts, hK, hstr⟩ := X
  intro H locs ls hR hl
  exact lv_imul hx hb hd (kk H locs ls hR hl)
theorem xs_iand {x y : Int32} (X : xi_X z cc own) (hd : decode cc pc = .ok (.iand, 1)) (kk : xi_At z (pc + 1) lv (.int (x &&& y) :: r) A) : xi_At z pc lv (.int y :: .int x :: r) A := by
  obtain ⟨p, l, e, R, s, m, args, below, meth, c, Q, nL, b0, aS, dA, D, n0, s0⟩ := z
  obtain ⟨hx, hb, hml, hown, hts, hK, hstr⟩ := X
  intro H locs ls hR hl
  exact lv_iand hx hb hd (kk H locs ls hR hl)
theorem xs_ior {x y : Int32} (X : xi_X z cc own) (hd : decode cc pc = .ok (.ior, 1)) (kk : xi_At z (pc + 1) lv (.int (x ||| y) :: r) A) : xi_At z pc lv (.int y :: .int x :: r) A := by
  obtain ⟨p, l, e, R, s, m, args, below, meth, c, Q, nL, b0, aS, dA, D, n0, s0⟩ := z
  obtain ⟨hx, hb, hml, hown, hts, hK, hstr⟩ := X
  intro H locs ls hR hl
  exact lv_ior hx hb hd (kk H locs ls hR hl)
theorem xs_ixor {x y : Int32} (X : xi_X z cc own) (hd : decode cc pc = .ok (.ixor, 1)) (kk : xi_At z (pc + 1) lv (.int (x ^^^ y) :: r) A) : xi_At z pc lv (.int y :: .int x :: r) A := by
  obtain ⟨p, l, e, R, s, m, args, below, meth, c, Q, nL, b0, aS, dA, D, n0, s0⟩ := z
  obtain ⟨hx, hb, hml, hown, hts, hK, hstr⟩ := X
  intro H locs ls hR hl
  exact lv_ixor hx hb hd (kk H locs ls hR hl)
theorem xs_ishl {x y : Int32} (X : xi_X z cc own) (hd : decode cc pc = .ok (.ishl, 1)) (kk : xi_At z (pc + 1) lv (.int (x <<< (y &&& 31)) :: r) A) : xi_At z pc lv (.int y :: .int x :: r) A := by
  obtain ⟨p, l, e, R, s, m, args, below, meth, c, Q, nL, b0, aS, dA, D, n0, s0⟩ := z
  obtain ⟨hx, hb, hml, hown, hts, hK, hstr⟩ := X
  intro H locs ls hR hl
  exact lv_ishl hx hb hd (kk H locs ls hR hl)
theorem xs_ishr {x y : Int32} (X : xi_X z cc own) (hd : decode cc pc = .ok (.ishr, 1)) (kk : xi_At z (pc + 1) lv (.int (x >>> (y &&& 31)) :: r) A) : xi_At z pc lv (.int y :: .int x :: r) A := by
  obtain ⟨p, l, e, R, s, m, args, below, meth, c, Q, nL, b0, aS, dA, D, n0, s0⟩ := z
  obtain ⟨hx, hb, hml, hown, hts, hK, hstr⟩ := X
  intro H locs ls hR hl
  exact lv_ishr hx hb hd (kk H locs ls hR hl)
theorem xs_iushr {x y : Int32} (X : xi_X z cc own) (hd : decode cc pc = .ok (.iushr, 1)) (kk : xi_At z (pc + 1) lv (.int ((x.toUInt32 >>> (y.toUInt32 &&& Int32.toUInt32 31)).toInt32) :: r) A) : xi_At z pc lv (.int y :: .int x :: r) A := by
  obtain ⟨p, l, e, R, s, m, args, below, meth, c, Q, nL, b0, aS, dA, D, n0, s0⟩ := z
  obtain ⟨hx, hb, hml, hown, hts, hK, hstr⟩ := X
  intro H locs ls hR hl
  exact lv_iushr hx hb hd rfl (kk H locs ls hR hl)
theorem xs_idiv {x y : Int32} (X : xi_X z cc own) (hd : decode cc pc = .ok (.idiv, 1)) (hc : ¬ y = 0) (kk : xi_At z (pc + 1) lv (.int (x / y) :: r) A) : xi_At z pc lv (.int y :: .int x :: r) A := by
  obtain ⟨p, l, e, R, s, m, args, below, meth, c, Q, nL, b0, aS, dA, D, n0, s0⟩ := z
  obtain ⟨hx, hb, hml, hown, hts, hK, hstr⟩ := X
  intro H locs ls hR hl
  exact lv_idiv hx hb hd hc (kk H locs ls hR hl)
theorem xs_irem {x y : Int32} (X : xi_X z cc own) (hd : decode cc pc = .ok (.irem, 1)) (hc : ¬ y = 0) (kk : xi_At z (pc + 1) lv (.int (x - x / y * y) :: r) A) : xi_At z pc lv (.int y :: .int x :: r) A := by
  obtain ⟨p, l, e, R, s, m, args, below, meth, c, Q, nL, b0, aS, dA, D, n0, s0⟩ := z
  obtain ⟨hx, hb, hml, hown, hts, hK, hstr⟩ := X
  intro H locs ls hR hl
  exact lv_irem hx hb hd hc (kk H locs ls hR hl)
theorem xs_ineg {x : Int32} (X : xi_X z cc own) (hd : decode cc pc = .ok (.ineg, 1)) (kk : xi_At z (pc + 1) lv (.int (-x) :: r) A) : xi_At z pc lv (.int x :: r) A := by
  obtain ⟨p, l, e, R, s, m, args, below, meth, c, Q, nL, b0, aS, dA, D, n0, s0⟩ := z
  obtain ⟨hx, hb, hml, hown, hts, hK, hstr⟩ := X
  intro H locs ls hR hl
  exact lv_ineg hx hb hd (kk H locs ls hR hl)
theorem xs_ladd {x y : Int64} (X : xi_X z cc own) (hd : decode cc pc = .ok (.ladd, 1)) (kk : xi_At z (pc + 1) lv (.long (x + y) :: r) A) : xi_At z pc lv (.long y :: .long x :: r) A := by
  obtain ⟨p, l, e, R, s, m, args, below, meth, c, Q, nL, b0, aS, dA, D, n0, s0⟩ := z
  obtain ⟨hx, hb, hml, hown, hts, hK, hstr⟩ := X
  intro H locs ls hR hl
  exact lv_ladd hx hb hd (kk H locs ls hR hl)
theorem xs_lsub {x y : Int64} (X : xi_X z cc own) (hd : decode cc pc = .ok (.lsub, 1)) (kk : xi_At z (pc + 1) lv (.long (x - y) :: r) A) : xi_At z pc lv (.long y :: .long x :: r) A := by
  obtain ⟨p, l, e, R, s, m, args, below, meth, c, Q, nL, b0, aS, dA, D, n0, s0⟩ := z
  obtain ⟨hx, hb, hml, hown, hts, hK, hstr⟩ := X
  intro H locs ls hR hl
  exact lv_lsub hx hb hd (kk H locs ls hR hl)
theorem xs_lmul {x y : Int64} (X : xi_X z cc own) (hd : decode cc pc = .ok (.lmul, 1)) (kk : xi_At z (pc + 1) lv (.long (x * y) :: r) A) : xi_At z pc lv (.long y :: .long x :: r) A := by
  obtain ⟨p, l, e, R, s, m, args, below, meth, c, Q, nL, b0, aS, dA, D, n0, s0⟩ := z
  obtain ⟨hx, hb, hml, hown, hts, hK, hstr⟩ := X
  intro H locs ls hR hl
  exact lv_lmul hx hb hd (kk H locs ls hR hl)
theorem xs_land {x y : Int64} (X : xi_X z cc own) (hd : decode cc pc = .ok (.land, 1)) (kk : xi_At z (pc + 1) lv (.long (x &&& y) :: r) A) : xi_At z pc lv (.long y :: .long x :: r) A := by
  obtain ⟨p, l, e, R, s, m, args, below, meth, c, Q, nL, b0, aS, dA, D, n0, s0⟩ := z
  obtain ⟨hx, hb, hml, hown, hts, hK, hstr⟩ := X
  intro H locs ls hR hl
  exact lv_land hx hb hd (kk H locs ls hR hl)
theorem xs_lor {x y : Int64} (X : xi_X z cc own) (hd : decode cc pc = .ok (.lor, 1)) (kk : xi_At z (pc + 1) lv (.long (x ||| y) :: r) A) : xi_At z pc lv (.long y :: .long x :: r) A := by
  obtain ⟨p, l, e, R, s, m, args, below, meth, c, Q, nL, b0, aS, dA, D, n0, s0⟩ := z
  obtain ⟨hx, hb, hml, hown, hts, hK, hstr⟩ := X
  intro H locs ls hR hl
  exact lv_lor hx hb hd (kk H locs ls hR hl)
theorem xs_lxor {x y : Int64} (X : xi_X z cc own) (hd : decode cc pc = .ok (.lxor, 1)) (kk : xi_At z (pc + 1) lv (.long (x ^^^ y) :: r) A) : xi_At z pc lv (.long y :: .long x :: r) A := by
  obtain ⟨p, l, e, R, s, m, args, below, meth, c, Q, nL, b0, aS, dA, D, n0, s0⟩ := z
  obtain ⟨hx, hb, hml, hown, hts, hK, hstr⟩ := X
  intro H locs ls hR hl
  exact lv_lxor hx hb hd (kk H locs ls hR hl)
theorem xs_ldiv {x y : Int64} (X : xi_X z cc own) (hd : decode cc pc = .ok (.ldiv, 1)) (hc : ¬ y = 0) (kk : xi_At z (pc + 1) lv (.long (x / y) :: r) A) : xi_At z pc lv (.long y :: .long x :: r) A := by
  obtain ⟨p, l, e, R, s, m, args, below, meth, c, Q, nL, b0, aS, dA, D, n0, s0⟩ := z
  obtain ⟨hx, hb, hml, hown, hts, hK, hstr⟩ := X
  intro H locs ls hR hl
  exact lv_ldiv hx hb hd hc (kk H locs ls hR hl)
theorem xs_lrem {x y : Int64} (X : xi_X z cc own) (hd : decode cc pc = .ok (.lrem, 1)) (hc : ¬ y = 0) (kk : xi_At z (pc + 1) lv (.long (x - x / y * y) :: r) A) : xi_At z pc lv (.long y :: .long x :: r) A := by
  obtain ⟨p, l, e, R, s, m, args, below, meth, c, Q, nL, b0, aS, dA, D, n0, s0⟩ := z
  obtain ⟨hx, hb, hml, hown, hts, hK, hstr⟩ := X
  intro H locs ls hR hl
  exact lv_lrem hx hb hd hc (kk H locs ls hR hl)
theorem xs_lshl {x : Int64} {y : Int32} (X : xi_X z cc own) (hd : decode cc pc = .ok (.lshl, 1)) (kk : xi_At z (pc + 1) lv (.long (x <<< (y.toInt64 &&& 63)) :: r) A) : xi_At z pc lv (.int y :: .long x :: r) A := by
  obtain ⟨p, l, e, R, s, m, args, below, meth, c, Q, nL, b0, aS, dA, D, n0, s0⟩ := z
  obtain ⟨hx, hb, hml, hown, hts, hK, hstr⟩ := X
  intro H locs ls hR hl
  exact lv_lshl hx hb hd rfl (kk H locs ls hR hl)
theorem xs_lshr {x : Int64} {y : Int32} (X : xi_X z cc own) (hd : decode cc pc = .ok (.lshr, 1)) (kk : xi_At z (pc + 1) lv (.long (x >>> (y.toInt64 &&& 63)) :: r) A) : xi_At z pc lv (.int y :: .long x :: r) A := by
  obtain ⟨p, l, e, R, s, m, args, below, meth, c, Q, nL, b0, aS, dA, D, n0, s0⟩ := z
  obtain ⟨hx, hb, hml, hown, hts, hK, hstr⟩ := X
  intro H locs ls hR hl
  exact lv_lshr hx hb hd rfl (kk H locs ls hR hl)
theorem xs_lushr {x : Int64} {y : Int32} (X : xi_X z cc own) (hd : decode cc pc = .ok (.lushr, 1)) (kk : xi_At z (pc + 1) lv (.long ((x.toUInt64 >>> (y.toInt64.toUInt64 &&& Int64.toUInt64 63)).toInt64) :: r) A) : xi_At z pc lv (.int y :: .long x :: r) A := by
  obtain ⟨p, l, e, R, s, m, args, below, meth, c, Q, nL, b0, aS, dA, D, n0, s0⟩ := z
  obtain ⟨hx, hb, hml, hown, hts, hK, hstr⟩ := X
  intro H locs ls hR hl
  exact lv_lushr hx hb hd rfl (kk H locs ls hR hl)
theorem xs_i2l {x : Int32} (X : xi_X z cc own) (hd : decode cc pc = .ok (.i2l, 1)) (kk : xi_At z (pc + 1) lv (.long x.toInt64 :: r) A) : xi_At z pc lv (.int x :: r) A := by
  obtain ⟨p, l, e, R, s, m, args, below, meth, c, Q, nL, b0, aS, dA, D, n0, s0⟩ := z
  obtain ⟨hx, hb, hml, hown, hts, hK, hstr⟩ := X
  intro H locs ls hR hl
  exact lv_i2l hx hb hd rfl (kk H locs ls hR hl)
theorem xs_l2i {x : Int64} (X : xi_X z cc own) (hd : decode cc pc = .ok (.l2i, 1)) (kk : xi_At z (pc + 1) lv (.int x.toInt32 :: r) A) : xi_At z pc lv (.long x :: r) A := by
  obtain ⟨p, l, e, R, s, m, args, below, meth, c, Q, nL, b0, aS, dA, D, n0, s0⟩ := z
  obtain ⟨hx, hb, hml, hown, hts, hK, hstr⟩ := X
  intro H locs ls hR hl
  exact lv_l2i hx hb hd rfl (kk H locs ls hR hl)
theorem xs_i2c {x : Int32} (X : xi_X z cc own) (hd : decode cc pc = .ok (.i2c, 1)) (kk : xi_At z (pc + 1) lv (.int ((x.toUInt32 % 65536).toInt32) :: r) A) : xi_At z pc lv (.int x :: r) A := by
  obtain ⟨p, l, e, R, s, m, args, below, meth, c, Q, nL, b0, aS, dA, D, n0, s0⟩ := z
  obtain ⟨hx, hb, hml, hown, hts, hK, hstr⟩ := X
  intro H locs ls hR hl
  exact lv_i2c hx hb hd rfl (kk H locs ls hR hl)
theorem xs_lcmp {x y : Int64} (X : xi_X z cc own) (hd : decode cc pc = .ok (.lcmp, 1)) (kk : xi_At z (pc + 1) lv (.int (lg_cmp x y) :: r) A) : xi_At z pc lv (.long y :: .long x :: r) A := by
  obtain ⟨p, l, e, R, s, m, args, below, meth, c, Q, nL, b0, aS, dA, D, n0, s0⟩ := z
  obtain ⟨hx, hb, hml, hown, hts, hK, hstr⟩ := X
  intro H locs ls hR hl
  exact W.lcmp hx hb hd (kk H locs ls hR hl)
theorem xs_dup {va : Value} (X : xi_X z cc own) (hd : decode cc pc = .ok (.dup, 1)) (hva : va.category = 1) (kk : xi_At z (pc + 1) lv (va :: va :: r) A) : xi_At z pc lv (va :: r) A := by
  obtain ⟨p, l, e, R, s, m, args, below, meth, c, Q, nL, b0, aS, dA, D, n0, s0⟩ := z
  obtain ⟨hx, hb, hml, hown, hts, hK, hstr⟩ := X
  intro H locs ls hR hl
  exact lv_dup hx hb hd ((xi_v_cat _ _ va).trans hva) (kk H locs ls hR hl)
theorem xs_pop {va : Value} (X : xi_X z cc own) (hd : decode cc pc = .ok (.pop, 1)) (hva : va.category = 1) (kk : xi_At z (pc + 1) lv (r) A) : xi_At z pc lv (va :: r) A := by
  obtain ⟨p, l, e, R, s, m, args, below, meth, c, Q, nL, b0, aS, dA, D, n0, s0⟩ := z
  obtain ⟨hx, hb, hml, hown, hts, hK, hstr⟩ := X
  intro H locs ls hR hl
  exact lv_pop hx hb hd ((xi_v_cat _ _ va).trans hva) (kk H locs ls hR hl)
theorem xs_dup_x1 {va vb : Value} (X : xi_X z cc own) (hd : decode cc pc = .ok (.dup_x1, 1)) (hva : va.category = 1) (hvb : vb.category = 1) (kk : xi_At z (pc + 1) lv (va :: vb :: va :: r) A) : xi_At z pc lv (va :: vb :: r) A := by
  obtain ⟨p, l, e, R, s, m, args, below, meth, c, Q, nL, b0, aS, dA, D, n0, s0⟩ := z
  obtain ⟨hx, hb, hml, hown, hts, hK, hstr⟩ := X
  intro H locs ls hR hl
  exact lv_dup_x1 hx hb hd ((xi_v_cat _ _ va).trans hva) ((xi_v_cat _ _ vb).trans hvb) (kk H locs ls hR hl)
theorem xs_dup_x2 {va vb vd : Value} (X : xi_X z cc own) (hd : decode cc pc = .ok (.dup_x2, 1)) (hva : va.category = 1) (hvb : vb.category = 1) (hvd : vd.category = 1) (kk : xi_At z (pc + 1) lv (va :: vb :: vd :: va :: r) A) : xi_At z pc lv (va :: vb :: vd :: r) A := by
  obtain ⟨p, l, e, R, s, m, args, below, meth, c, Q, nL, b0, aS, dA, D, n0, s0⟩ := z
  obtain ⟨hx, hb, hml, hown, hts, hK, hstr⟩ := X
  intro H locs ls hR hl
  exact lv_dup_x2 hx hb hd ((xi_v_cat _ _ va).trans hva) ((xi_v_cat _ _ vb).trans hvb) ((xi_v_cat _ _ vd).trans hvd) (kk H locs ls hR hl)
theorem xs_dup2_11 {va vb : Value} (X : xi_X z cc own) (hd : decode cc pc = .ok (.dup2, 1)) (hva : va.category = 1) (hvb : vb.category = 1) (kk : xi_At z (pc + 1) lv (va :: vb :: va :: vb :: r) A) : xi_At z pc lv (va :: vb :: r) A := by
  obtain ⟨p, l, e, R, s, m, args, below, meth, c, Q, nL, b0, aS, dA, D, n0, s0⟩ := z
  obtain ⟨hx, hb, hml, hown, hts, hK, hstr⟩ := X
  intro H locs ls hR hl
  exact lv_dup2_11 hx hb hd ((xi_v_cat _ _ va).trans hva) ((xi_v_cat _ _ vb).trans hvb) (kk H locs ls hR hl)
theorem xs_dup2_2 {va : Value} (X : xi_X z cc own) (hd : decode cc pc = .ok (.dup2, 1)) (hva : va.category = 2) (kk : xi_At z (pc + 1) lv (va :: va :: r) A) : xi_At z pc lv (va :: r) A := by
  obtain ⟨p, l, e, R, s, m, args, below, meth, c, Q, nL, b0, aS, dA, D, n0, s0⟩ := z
  obtain ⟨hx, hb, hml, hown, hts, hK, hstr⟩ := X
  intro H locs ls hR hl
  exact lv_dup2_2 hx hb hd ((xi_v_cat _ _ va).trans hva) (kk H locs ls hR hl)
theorem xs_iload_n {k : Fin 4} {x : Int32} (X : xi_X z cc own) (hd : decode cc pc = .ok (.iload_n k, 1)) (hc : xi_get lv k = some (.int x)) (kk : xi_At z (pc + 1) lv (.int x :: r) A) : xi_At z pc lv r A := by
  obtain ⟨p, l, e, R, s, m, args, below, meth, c, Q, nL, b0, aS, dA, D, n0, s0⟩ := z
  obtain ⟨hx, hb, hml, hown, hts, hK, hstr⟩ := X
  intro H locs ls hR hl
  exact lv_iload_n hx hb hd rfl (xi_get_at hl hc) (kk H locs ls hR hl)
theorem xs_iload {i : Nat} {x : Int32} (X : xi_X z cc own) (hd : decode cc pc = .ok (.iload i, 2)) (hc : xi_get lv i = some (.int x)) (kk : xi_At z (pc + 2) lv (.int x :: r) A) : xi_At z pc lv r A := by
  obtain ⟨p, l, e, R, s, m, args, below, meth, c, Q, nL, b0, aS, dA, D, n0, s0⟩ := z
  obtain ⟨hx, hb, hml, hown, hts, hK, hstr⟩ := X
  intro H locs ls hR hl
  exact lv_iload hx hb hd (xi_get_at hl hc) (kk H locs ls hR hl)
theorem xs_lload_n {k : Fin 4} {x : Int64} (X : xi_X z cc own) (hd : decode cc pc = .ok (.lload_n k, 1)) (hc : xi_get lv k = some (.long x)) (kk : xi_At z (pc + 1) lv (.long x :: r) A) : xi_At z pc lv r A := by
  obtain ⟨p, l, e, R, s, m, args, below, meth, c, Q, nL, b0, aS, dA, D, n0, s0⟩ := z
  obtain ⟨hx, hb, hml, hown, hts, hK, hstr⟩ := X
  intro H locs ls hR hl
  exact lv_lload_n hx hb hd rfl (xi_get_at hl hc) (kk H locs ls hR hl)
theorem xs_lload {i : Nat} {x : Int64} (X : xi_X z cc own) (hd : decode cc pc = .ok (.lload i, 2)) (hc : xi_get lv i = some (.long x)) (kk : xi_At z (pc + 2) lv (.long x :: r) A) : xi_At z pc lv r A := by
  obtain ⟨p, l, e, R, s, m, args, below, meth, c, Q, nL, b0, aS, dA, D, n0, s0⟩ := z
  obtain ⟨hx, hb, hml, hown, hts, hK, hstr⟩ := X
  intro H locs ls hR hl
  exact lv_lload hx hb hd (xi_get_at hl hc) (kk H locs ls hR hl)
theorem xs_aload_n {k : Fin 4} {v : Value} (X : xi_X z cc own) (hd : decode cc pc = .ok (.aload_n k, 1)) (hc : xi_get lv k = some v) (hv : xi_isr v = true) (kk : xi_At z (pc + 1) lv (v :: r) A) : xi_At z pc lv r A := by
  obtain ⟨p, l, e, R, s, m, args, below, meth, c, Q, nL, b0, aS, dA, D, n0, s0⟩ := z
  obtain ⟨hx, hb, hml, hown, hts, hK, hstr⟩ := X
  intro H locs ls hR hl
  cases v with
  | ref a => exact lv_aload_n hx hb hd rfl (xi_get_at hl hc) (kk H locs ls hR hl)
  | retAddr a => exact lv_aload_n hx hb hd rfl (xi_get_at hl hc) (kk H locs ls hR hl)
  | null => exact lv_aload_nN hx hb hd rfl (xi_get_at hl hc) (kk H locs ls hR hl)
  | _ => simp [xi_isr] at hv
theorem xs_aload {i : Nat} {v : Value} (X : xi_X z cc own) (hd : decode cc pc = .ok (.aload i, 2)) (hc : xi_get lv i = some v) (hv : xi_isr v = true) (kk : xi_At z (pc + 2) lv (v :: r) A) : xi_At z pc lv r A := by
  obtain ⟨p, l, e, R, s, m, args, below, meth, c, Q, nL, b0, aS, dA, D, n0, s0⟩ := z
  obtain ⟨hx, hb, hml, hown, hts, hK, hstr⟩ := X
  intro H locs ls hR hl
  cases v with
  | ref a => exact lv_aload hx hb hd (xi_get_at hl hc) (kk H locs ls hR hl)
  | retAddr a => exact lv_aload hx hb hd (xi_get_at hl hc) (kk H locs ls hR hl)
  | null => exact lv_aloadN hx hb hd (xi_get_at hl hc) (kk H locs ls hR hl)
  | _ => simp [xi_isr] at hv
theorem xs_istore_n {k : Fin 4} {i : Nat} {x : Int32} (X : xi_X z cc own) (hd : decode cc pc = .ok (.istore_n k, 1)) (hi : (k : Nat) = i) (hn : i < z.2.2.2.2.2.2.2.2.2.2.2.1) (kk : xi_At z (pc + 1) (xi_put1 lv i (.int x)) r A) : xi_At z pc lv (.int x :: r) A := by
  obtain ⟨p, l, e, R, s, m, args, below, meth, c, Q, nL, b0, aS, dA, D, n0, s0⟩ := z
  obtain ⟨hx, hb, hml, hown, hts, hK, hstr⟩ := X
  intro H locs ls hR hl
  exact lv_istore_n hx hb hd hi hl hn (xi_put1_l b0 aS lv i (.int x)) (fun ls' hl' => kk H locs ls' hR hl')
theorem xs_istore {i : Nat} {x : Int32} (X : xi_X z cc own) (hd : decode cc pc = .ok (.istore i, 2)) (hn : i < z.2.2.2.2.2.2.2.2.2.2.2.1) (kk : xi_At z (pc + 2) (xi_put1 lv i (.int x)) r A) : xi_At z pc lv (.int x :: r) A := by
  obtain ⟨p, l, e, R, s, m, args, below, meth, c, Q, nL, b0, aS, dA, D, n0, s0⟩ := z
  obtain ⟨hx, hb, hml, hown, hts, hK, hstr⟩ := X
  intro H locs ls hR hl
  exact lv_istore hx hb hd hl hn (xi_put1_l b0 aS lv i (.int x)) (fun ls' hl' => kk H locs ls' hR hl')
theorem xs_lstore_n {k : Fin 4} {i : Nat} {x : Int64} (X : xi_X z cc own) (hd : decode cc pc = .ok (.lstore_n k, 1)) (hi : (k : Nat) = i) (hn : i + 1 < z.2.2.2.2.2.2.2.2.2.2.2.1) (kk : xi_At z (pc + 1) (xi_put2 lv i (.long x)) r A) : xi_At z pc lv (.long x :: r) A := by
  obtain ⟨p, l, e, R, s, m, args, below, meth, c, Q, nL, b0, aS, dA, D, n0, s0⟩ := z
  obtain ⟨hx, hb, hml, hown, hts, hK, hstr⟩ := X
  intro H locs ls hR hl
  exact lv_lstore_n hx hb hd hi hl hn (xi_put2_l b0 aS lv i (.long x)) (fun ls' hl' => kk H locs ls' hR hl')
theorem xs_lstore {i : Nat} {x : Int64} (X : xi_X z cc own) (hd : decode cc pc = .ok (.lstore i, 2)) (hn : i + 1 < z.2.2.2.2.2.2.2.2.2.2.2.1) (kk : xi_At z (pc + 2) (xi_put2 lv i (.long x)) r A) : xi_At z pc lv (.long x :: r) A := by
  obtain ⟨p, l, e, R, s, m, args, below, meth, c, Q, nL, b0, aS, dA, D, n0, s0⟩ := z
  obtain ⟨hx, hb, hml, hown, hts, hK, hstr⟩ := X
  intro H locs ls hR hl
  exact lv_lstore hx hb hd hl hn (xi_put2_l b0 aS lv i (.long x)) (fun ls' hl' => kk H locs ls' hR hl')
theorem xs_astore_n {k : Fin 4} {i : Nat} {x : Nat} (X : xi_X z cc own) (hd : decode cc pc = .ok (.astore_n k, 1)) (hi : (k : Nat) = i) (hn : i < z.2.2.2.2.2.2.2.2.2.2.2.1) (kk : xi_At z (pc + 1) (xi_put1 lv i (.ref x)) r A) : xi_At z pc lv (.ref x :: r) A := by
  obtain ⟨p, l, e, R, s, m, args, below, meth, c, Q, nL, b0, aS, dA, D, n0, s0⟩ := z
  obtain ⟨hx, hb, hml, hown, hts, hK, hstr⟩ := X
  intro H locs ls hR hl
  exact lv_astore_n hx hb hd hi hl hn (xi_put1_l b0 aS lv i (.ref x)) (fun ls' hl' => kk H locs ls' hR hl')
theorem xs_astore {i : Nat} {x : Nat} (X : xi_X z cc own) (hd : decode cc pc = .ok (.astore i, 2)) (hn : i < z.2.2.2.2.2.2.2.2.2.2.2.1) (kk : xi_At z (pc + 2) (xi_put1 lv i (.ref x)) r A) : xi_At z pc lv (.ref x :: r) A := by
  obtain ⟨p, l, e, R, s, m, args, below, meth, c, Q, nL, b0, aS, dA, D, n0, s0⟩ := z
  obtain ⟨hx, hb, hml, hown, hts, hK, hstr⟩ := X
  intro H locs ls hR hl
  exact lv_astore hx hb hd hl hn (xi_put1_l b0 aS lv i (.ref x)) (fun ls' hl' => kk H locs ls' hR hl')
theorem xs_iinc {i : Nat} {n : Int} {x : Int32} (X : xi_X z cc own) (hd : decode cc pc = .ok (.iinc i n, 3)) (hc : xi_get lv i = some (.int x)) (hn : i < z.2.2.2.2.2.2.2.2.2.2.2.1) (kk : xi_At z (pc + 3) (xi_put1 lv i (.int (x + Int32.ofInt n))) r A) : xi_At z pc lv r A := by
  obtain ⟨p, l, e, R, s, m, args, below, meth, c, Q, nL, b0, aS, dA, D, n0, s0⟩ := z
  obtain ⟨hx, hb, hml, hown, hts, hK, hstr⟩ := X
  intro H locs ls hR hl
  obtain ⟨k, hk⟩ := xi_get_ix (b0 := b0) (aS := aS) hc
  exact lv_iinc hx hb hd hl hk rfl hn (xi_put1_l b0 aS lv i (.int (x + Int32.ofInt n))) (fun ls' hl' => kk H locs ls' hR hl')
theorem xs_if_eq {x : Int32} {off : Int} {tgt : Nat} (X : xi_X z cc own) (hd : decode cc pc = .ok (.ifCond .eq off, 3)) (ht : (pc : Int) + off = (tgt : Int)) (kk : xi_At z (if x = 0 then tgt else pc + 3) lv r A) : xi_At z pc lv (.int x :: r) A := by
  obtain ⟨p, l, e, R, s, m, args, below, meth, c, Q, nL, b0, aS, dA, D, n0, s0⟩ := z
  obtain ⟨hx, hb, hml, hown, hts, hK, hstr⟩ := X
  intro H locs ls hR hl
  have k1 := kk H locs ls hR hl
  exact lv_if_eq hx hb hd ht (fun h => by rw [if_pos h] at k1; exact k1) (fun h => by rw [if_neg (h)] at k1; exact k1)
theorem xs_if_ne {x : Int32} {off : Int} {tgt : Nat} (X : xi_X z cc own) (hd : decode cc pc = .ok (.ifCond .ne off, 3)) (ht : (pc : Int) + off = (tgt : Int)) (kk : xi_At z (if ¬ x = 0 then tgt else pc + 3) lv r A) : xi_At z pc lv (.int x :: r) A := by
  obtain ⟨p, l, e, R, s, m, args, below, meth, c, Q, nL, b0, aS, dA, D, n0, s0⟩ := z
  obtain ⟨hx, hb, hml, hown, hts, hK, hstr⟩ := X
  intro H locs ls hR hl
  have k1 := kk H locs ls hR hl
  exact lv_if_ne hx hb hd ht (fun h => by rw [if_pos h] at k1; exact k1) (fun h => by rw [if_neg (fun q => q h)] at k1; exact k1)
theorem xs_if_lt {x : Int32} {off : Int} {tgt : Nat} (X : xi_X z cc own) (hd : decode cc pc = .ok (.ifCond .lt off, 3)) (ht : (pc : Int) + off = (tgt : Int)) (kk : xi_At z (if x < 0 then tgt else pc + 3) lv r A) : xi_At z pc lv (.int x :: r) A := by
  obtain ⟨p, l, e, R, s, m, args, below, meth, c, Q, nL, b0, aS, dA, D, n0, s0⟩ := z
  obtain ⟨hx, hb, hml, hown, hts, hK, hstr⟩ := X
  intro H locs ls hR hl
  have k1 := kk H locs ls hR hl
  exact lv_if_lt hx hb hd ht (fun h => by rw [if_pos h] at k1; exact k1) (fun h => by rw [if_neg (h)] at k1; exact k1)
theorem xs_if_ge {x : Int32} {off : Int} {tgt : Nat} (X : xi_X z cc own) (hd : decode cc pc = .ok (.ifCond .ge off, 3)) (ht : (pc : Int) + off = (tgt : Int)) (kk : xi_At z (if 0 ≤ x then tgt else pc + 3) lv r A) : xi_At z pc lv (.int x :: r) A := by
  obtain ⟨p, l, e, R, s, m, args, below, meth, c, Q, nL, b0, aS, dA, D, n0, s0⟩ := z
  obtain ⟨hx, hb, hml, hown, hts, hK, hstr⟩ := X
  intro H locs ls hR hl
  have k1 := kk H locs ls hR hl
  exact lv_if_ge hx hb hd ht (fun h => by rw [if_pos h] at k1; exact k1) (fun h => by rw [if_neg (h)] at k1; exact k1)
theorem xs_if_gt {x : Int32} {off : Int} {tgt : Nat} (X : xi_X z cc own) (hd : decode cc pc = .ok (.ifCond .gt off, 3)) (ht : (pc : Int) + off = (tgt : Int)) (kk : xi_At z (if 0 < x then tgt else pc + 3) lv r A) : xi_At z pc lv (.int x :: r) A := by
  obtain ⟨p, l, e, R, s, m, args, below, meth, c, Q, nL, b0, aS, dA, D, n0, s0⟩ := z
  obtain ⟨hx, hb, hml, hown, hts, hK, hstr⟩ := X
  intro H locs ls hR hl
  have k1 := kk H locs ls hR hl
  exact lv_if_gt hx hb hd ht (fun h => by rw [if_pos h] at k1; exact k1) (fun h => by rw [if_neg (h)] at k1; exact k1)
theorem xs_if_le {x : Int32} {off : Int} {tgt : Nat} (X : xi_X z cc own) (hd : decode cc pc = .ok (.ifCond .le off, 3)) (ht : (pc : Int) + off = (tgt : Int)) (kk : xi_At z (if x ≤ 0 then tgt else pc + 3) lv r A) : xi_At z pc lv (.int x :: r) A := by
  obtain ⟨p, l, e, R, s, m, args, below, meth, c, Q, nL, b0, aS, dA, D, n0, s0⟩ := z
  obtain ⟨hx, hb, hml, hown, hts, hK, hstr⟩ := X
  intro H locs ls hR hl
  have k1 := kk H locs ls hR hl
  exact lv_if_le hx hb hd ht (fun h => by rw [if_pos h] at k1; exact k1) (fun h => by rw [if_neg (h)] at k1; exact k1)
theorem xs_icmp_eq {x y : Int32} {off : Int} {tgt : Nat} (X : xi_X z cc own) (hd : decode cc pc = .ok (.if_icmp .eq off, 3)) (ht : (pc : Int) + off = (tgt : Int)) (kk : xi_At z (if x = y then tgt else pc + 3) lv r A) : xi_At z pc lv (.int y :: .int x :: r) A := by
  obtain ⟨p, l, e, R, s, m, args, below, meth, c, Q, nL, b0, aS, dA, D, n0, s0⟩ := z
  obtain ⟨hx, hb, hml, hown, hts, hK, hstr⟩ := X
  intro H locs ls hR hl
  have k1 := kk H locs ls hR hl
  exact lv_icmp_eq hx hb hd ht (fun h => by rw [if_pos h] at k1; exact k1) (fun h => by rw [if_neg (h)] at k1; exact k1)
theorem xs_icmp_ne {x y : Int32} {off : Int} {tgt : Nat} (X : xi_X z cc own) (hd : decode cc pc = .ok (.if_icmp .ne off, 3)) (ht : (pc : Int) + off = (tgt : Int)) (kk : xi_At z (if ¬ x = y then tgt else pc + 3) lv r A) : xi_At z pc lv (.int y :: .int x :: r) A := by
  obtain ⟨p, l, e, R, s, m, args, below, meth, c, Q, nL, b0, aS, dA, D, n0, s0⟩ := z
  obtain ⟨hx, hb, hml, hown, hts, hK, hstr⟩ := X
  intro H locs ls hR hl
  have k1 := kk H locs ls hR hl
  exact lv_icmp_ne hx hb hd ht (fun h => by rw [if_pos h] at k1; exact k1) (fun h => by rw [if_neg (fun q => q h)] at k1; exact k1)
theorem xs_icmp_lt {x y : Int32} {off : Int} {tgt : Nat} (X : xi_X z cc own) (hd : decode cc pc = .ok (.if_icmp .lt off, 3)) (ht : (pc : Int) + off = (tgt : Int)) (kk : xi_At z (if x < y then tgt else pc + 3) lv r A) : xi_At z pc lv (.int y :: .int x :: r) A := by
  obtain ⟨p, l, e, R, s, m, args, below, meth, c, Q, nL, b0, aS, dA, D, n0, s0⟩ := z
  obtain ⟨hx, hb, hml, hown, hts, hK, hstr⟩ := X
  intro H locs ls hR hl
  have k1 := kk H locs ls hR hl
  exact lv_icmp_lt hx hb hd ht (fun h => by rw [if_pos h] at k1; exact k1) (fun h => by rw [if_neg (h)] at k1; exact k1)
theorem xs_icmp_ge {x y : Int32} {off : Int} {tgt : Nat} (X : xi_X z cc own) (hd : decode cc pc = .ok (.if_icmp .ge off, 3)) (ht : (pc : Int) + off = (tgt : Int)) (kk : xi_At z (if y ≤ x then tgt else pc + 3) lv r A) : xi_At z pc lv (.int y :: .int x :: r) A := by
  obtain ⟨p, l, e, R, s, m, args, below, meth, c, Q, nL, b0, aS, dA, D, n0, s0⟩ := z
  obtain ⟨hx, hb, hml, hown, hts, hK, hstr⟩ := X
  intro H locs ls hR hl
  have k1 := kk H locs ls hR hl
  exact lv_icmp_ge hx hb hd ht (fun h => by rw [if_pos h] at k1; exact k1) (fun h => by rw [if_neg (h)] at k1; exact k1)
theorem xs_icmp_gt {x y : Int32} {off : Int} {tgt : Nat} (X : xi_X z cc own) (hd : decode cc pc = .ok (.if_icmp .gt off, 3)) (ht : (pc : Int) + off = (tgt : Int)) (kk : xi_At z (if y < x then tgt else pc + 3) lv r A) : xi_At z pc lv (.int y :: .int x :: r) A := by
  obtain ⟨p, l, e, R, s, m, args, below, meth, c, Q, nL, b0, aS, dA, D, n0, s0⟩ := z
  obtain ⟨hx, hb, hml, hown, hts, hK, hstr⟩ := X
  intro H locs ls hR hl
  have k1 := kk H locs ls hR hl
  exact lv_icmp_gt hx hb hd ht (fun h => by rw [if_pos h] at k1; exact k1) (fun h => by rw [if_neg (h)] at k1; exact k1)
theorem xs_icmp_le {x y : Int32} {off : Int} {tgt : Nat} (X : xi_X z cc own) (hd : decode cc pc = .ok (.if_icmp .le off, 3)) (ht : (pc : Int) + off = (tgt : Int)) (kk : xi_At z (if x ≤ y then tgt else pc + 3) lv r A) : xi_At z pc lv (.int y :: .int x :: r) A := by
  obtain ⟨p, l, e, R, s, m, args, below, meth, c, Q, nL, b0, aS, dA, D, n0, s0⟩ := z
  obtain ⟨hx, hb, hml, hown, hts, hK, hstr⟩ := X
  intro H locs ls hR hl
  have k1 := kk H locs ls hR hl
  exact lv_icmp_le hx hb hd ht (fun h => by rw [if_pos h] at k1; exact k1) (fun h => by rw [if_neg (h)] at k1; exact k1)
theorem xs_goto {off : Int} {tgt : Nat} (X : xi_X z cc own) (hd : decode cc pc = .ok (.goto off, 3)) (ht : (pc : Int) + off = (tgt : Int)) (kk : xi_At z tgt lv r A) : xi_At z pc lv r A := by
  obtain ⟨p, l, e, R, s, m, args, below, meth, c, Q, nL, b0, aS, dA, D, n0, s0⟩ := z
  obtain ⟨hx, hb, hml, hown, hts, hK, hstr⟩ := X
  intro H locs ls hR hl
  exact lv_goto hx hb hd ht (kk H locs ls hR hl)
theorem xs_ldc {i : Nat} {v : Int32} (X : xi_X z cc own) (hd : decode cc pc = .ok (.ldc i, 2)) (hw : Jvm.Cond.constant own i v ∈ xi_G) (kk : xi_At z (pc + 2) lv (.int v :: r) A) : xi_At z pc lv r A := by
  obtain ⟨p, l, e, R, s, m, args, below, meth, c, Q, nL, b0, aS, dA, D, n0, s0⟩ := z
  obtain ⟨hx, hb, hml, hown, hts, hK, hstr⟩ := X
  intro H locs ls hR hl
  exact lv_ldc hx hb hown (hts _ hw) hd (kk H locs ls hR hl)
theorem xs_ldcw {i : Nat} {v : Int32} (X : xi_X z cc own) (hd : decode cc pc = .ok (.ldc_w i, 3)) (hw : Jvm.Cond.constant own i v ∈ xi_G) (kk : xi_At z (pc + 3) lv (.int v :: r) A) : xi_At z pc lv r A := by
  obtain ⟨p, l, e, R, s, m, args, below, meth, c, Q, nL, b0, aS, dA, D, n0, s0⟩ := z
  obtain ⟨hx, hb, hml, hown, hts, hK, hstr⟩ := X
  intro H locs ls hR hl
  exact lv_ldcw hx hb hown (hts _ hw) hd (kk H locs ls hR hl)
theorem xs_ldc2 {i : Nat} {v : Int64} (X : xi_X z cc own) (hd : decode cc pc = .ok (.ldc2_w i, 3)) (hw : Jvm.Cond.constantLong own i v ∈ xi_G) (kk : xi_At z (pc + 3) lv (.long v :: r) A) : xi_At z pc lv r A := by
  obtain ⟨p, l, e, R, s, m, args, below, meth, c, Q, nL, b0, aS, dA, D, n0, s0⟩ := z
  obtain ⟨hx, hb, hml, hown, hts, hK, hstr⟩ := X
  intro H locs ls hR hl
  exact lv_ldc2 hx hb hown (hts _ hw) hd (kk H locs ls hR hl)
theorem xs_ldcS {i j : Nat} {tx : String} (X : xi_X z cc own) (hd : decode cc pc = .ok (.ldc i, 2)) (hw : xi_str[j]? = some (own, i, tx)) (kk : xi_At z (pc + 2) lv (.retAddr j :: r) A) : xi_At z pc lv r A := by
  obtain ⟨p, l, e, R, s, m, args, below, meth, c, Q, nL, b0, aS, dA, D, n0, s0⟩ := z
  obtain ⟨hx, hb, hml, hown, hts, hK, hstr⟩ := X
  intro H locs ls hR hl
  exact va_ldcS hx hb hown (hstr.1 j _ hw) hd (kk H locs ls hR hl)
theorem xs_iald {i : Int32} {a n : Nat} {f : Nat → Int32} (X : xi_X z cc own) (hd : decode cc pc = .ok (.iaload, 1)) (ha : A[a]? = some (.inl (0, n, .inl f))) (hin : vp_in i n) (kk : xi_At z (pc + 1) lv (.int (f i.toNatClampNeg) :: r) A) : xi_At z pc lv (.int i :: .ref a :: r) A := by
  obtain ⟨p, l, e, R, s, m, args, below, meth, c, Q, nL, b0, aS, dA, D, n0, s0⟩ := z
  obtain ⟨hx, hb, hml, hown, hts, hK, hstr⟩ := X
  intro H locs ls hR hl
  exact va_iald hx hb hK hR.1 a 0 (xi_w_get ha) rfl hin hd (kk H locs ls hR hl)
theorem xs_lald {i : Int32} {a n : Nat} {f : Nat → Int64} (X : xi_X z cc own) (hd : decode cc pc = .ok (.laload, 1)) (ha : A[a]? = some (.inl (1, n, .inr (.inl f)))) (hin : vp_in i n) (kk : xi_At z (pc + 1) lv (.long (f i.toNatClampNeg) :: r) A) : xi_At z pc lv (.int i :: .ref a :: r) A := by
  obtain ⟨p, l, e, R, s, m, args, below, meth, c, Q, nL, b0, aS, dA, D, n0, s0⟩ := z
  obtain ⟨hx, hb, hml, hown, hts, hK, hstr⟩ := X
  intro H locs ls hR hl
  exact va_lald hx hb hK hR.1 a 1 (xi_w_get ha) rfl hin hd (kk H locs ls hR hl)
theorem xs_cald {i : Int32} {a n : Nat} {f : Nat → Int32} (X : xi_X z cc own) (hd : decode cc pc = .ok (.caload, 1)) (ha : A[a]? = some (.inl (2, n, .inl f))) (hin : vp_in i n) (kk : xi_At z (pc + 1) lv (.int (f i.toNatClampNeg) :: r) A) : xi_At z pc lv (.int i :: .ref a :: r) A := by
  obtain ⟨p, l, e, R, s, m, args, below, meth, c, Q, nL, b0, aS, dA, D, n0, s0⟩ := z
  obtain ⟨hx, hb, hml, hown, hts, hK, hstr⟩ := X
  intro H locs ls hR hl
  exact va_cald hx hb hK hR.1 a 2 (xi_w_get ha) rfl hin hd (kk H locs ls hR hl)
theorem xs_zald {i : Int32} {a n : Nat} {f : Nat → Int32} (X : xi_X z cc own) (hd : decode cc pc = .ok (.baload, 1)) (ha : A[a]? = some (.inl (3, n, .inl f))) (hin : vp_in i n) (kk : xi_At z (pc + 1) lv (.int (f i.toNatClampNeg) :: r) A) : xi_At z pc lv (.int i :: .ref a :: r) A := by
  obtain ⟨p, l, e, R, s, m, args, below, meth, c, Q, nL, b0, aS, dA, D, n0, s0⟩ := z
  obtain ⟨hx, hb, hml, hown, hts, hK, hstr⟩ := X
  intro H locs ls hR hl
  exact va_zald hx hb hK hR.1 a 3 (xi_w_get ha) rfl hin hd (kk H locs ls hR hl)
theorem xi_R.set {b0 : Nat} {aS : Nat → Nat} {dA : Nat → ClassId} {D : va_G} {n0 s0 : Nat} {Hs H H1 : Heap} {locs locs1 : List Loc} {k : Nat} {x y : xi_E} (hR : xi_R b0 aS dA D n0 s0 Hs A H locs) (hA : A[k]? = some x) (hn : xi_n x = xi_n y) (hP : va_P D xi_cl ((xi_w b0 aS dA A).set k (b0 + k, xi_e b0 aS dA y)) H1) (hS : va_S (fun q => b0 ≤ q) Hs H1 locs1) :
    xi_R b0 aS dA D n0 s0 Hs (A.set k y) H1 locs1 ∧ xi_ns (A.set k y) = xi_ns A := by
  have hns : xi_ns (A.set k y) = xi_ns A := xi_ns_set hA hn
  exact ⟨⟨xi_w_set ▸ hP, hS, by rw [List.length_set]; exact hR.2.2.1, by rw [hns]; exact hR.2.2.2.1, hR.2.2.2.2⟩, hns⟩
theorem xi_fresh {b0 : Nat} {aS : Nat → Nat} {dA : Nat → ClassId} {D : va_G} {n0 q : Nat} {e : va_E} {H1 : Heap} {hsz : Nat} (hP : va_P D xi_cl (xi_w b0 aS dA A ++ [(q, e)]) H1) (hD : va_D (fun q => b0 ≤ q) (xi_w b0 aS dA A ++ [(q, e)])) (hn : n0 ≤ A.length) (hs : hsz = b0 + n0) (hz : H1.size ≤ hsz + (A.length - n0 + 1)) : q = b0 + A.length := by
  have hl := xi_w_len b0 aS dA A
  have hlast : (xi_w b0 aS dA A ++ [(q, e)])[A.length]? = some (q, e) := by rw [List.getElem?_append_right (by omega), hl]; simp
  have h1 : b0 ≤ q := hD.2 _ _ hlast
  have h2 : q < H1.size := (hP _ _ hlast).lt
  by_cases h3 : q < b0 + A.length
  · exfalso
    have hk : q - b0 < A.length := by omega
    have h4 : (xi_w b0 aS dA A ++ [(q, e)])[q - b0]? = some (b0 + (q - b0), xi_e b0 aS dA A[q - b0]) := by
      rw [List.getElem?_append_left (by omega)]
      exact xi_w_get (List.getElem?_eq_getElem hk)
    have := hD.1 _ _ _ _ h4 hlast (by show b0 + (q - b0) = q; omega)
    omega
  · omega
theorem xs_iast {i : Int32} {x : Int32} {a n : Nat} {f : Nat → Int32} (X : xi_X z cc own) (hd : decode cc pc = .ok (.iastore, 1)) (ha : A[a]? = some (.inl (0, n, .inl f))) (hin : vp_in i n) (kk : xi_At z (pc + 1) lv r (A.set a (.inl (0, n, .inl (upd f i.toNatClampNeg x))))) : xi_At z pc lv (.int x :: .int i :: .ref a :: r) A := by
  obtain ⟨p, l, e, R, s, m, args, below, meth, c, Q, nL, b0, aS, dA, D, n0, s0⟩ := z
  obtain ⟨hx, hb, hml, hown, hts, hK, hstr⟩ := X
  intro H locs ls hR hl
  refine va_iast hx hb hK hR.1 (xi_w_D A) hR.2.1 a 0 (xi_w_get ha) rfl hin hd (fun H1 locs1 hP1 _ hS1 => ?_)
  obtain ⟨hR1, hns⟩ := hR.set (y := .inl (0, n, .inl (upd f i.toNatClampNeg x))) ha rfl hP1 hS1
  have k1 := kk H1 locs1 ls hR1 hl
  rw [hns, List.length_set] at k1
  exact k1
theorem xs_last {i : Int32} {x : Int64} {a n : Nat} {f : Nat → Int64} (X : xi_X z cc own) (hd : decode cc pc = .ok (.lastore, 1)) (ha : A[a]? = some (.inl (1, n, .inr (.inl f)))) (hin : vp_in i n) (kk : xi_At z (pc + 1) lv r (A.set a (.inl (1, n, .inr (.inl (vp_updL f i.toNatClampNeg x)))))) : xi_At z pc lv (.long x :: .int i :: .ref a :: r) A := by
  obtain ⟨p, l, e, R, s, m, args, below, meth, c, Q, nL, b0, aS, dA, D, n0, s0⟩ := z
  obtain ⟨hx, hb, hml, hown, hts, hK, hstr⟩ := X
  intro H locs ls hR hl
  refine va_last hx hb hK hR.1 (xi_w_D A) hR.2.1 a 1 (xi_w_get ha) rfl hin hd (fun H1 locs1 hP1 _ hS1 => ?_)
  obtain ⟨hR1, hns⟩ := hR.set (y := .inl (1, n, .inr (.inl (vp_updL f i.toNatClampNeg x)))) ha rfl hP1 hS1
  have k1 := kk H1 locs1 ls hR1 hl
  rw [hns, List.length_set] at k1
  exact k1
theorem xs_cast {i : Int32} {x : Int32} {a n : Nat} {f : Nat → Int32} (X : xi_X z cc own) (hd : decode cc pc = .ok (.castore, 1)) (ha : A[a]? = some (.inl (2, n, .inl f))) (hin : vp_in i n) (kk : xi_At z (pc + 1) lv r (A.set a (.inl (2, n, .inl (upd f i.toNatClampNeg (vp_nar .char x)))))) : xi_At z pc lv (.int x :: .int i :: .ref a :: r) A := by
  obtain ⟨p, l, e, R, s, m, args, below, meth, c, Q, nL, b0, aS, dA, D, n0, s0⟩ := z
  obtain ⟨hx, hb, hml, hown, hts, hK, hstr⟩ := X
  intro H locs ls hR hl
  refine va_cast hx hb hK hR.1 (xi_w_D A) hR.2.1 a 2 (xi_w_get ha) rfl hin hd (fun H1 locs1 hP1 _ hS1 => ?_)
  obtain ⟨hR1, hns⟩ := hR.set (y := .inl (2, n, .inl (upd f i.toNatClampNeg (vp_nar .char x)))) ha rfl hP1 hS1
  have k1 := kk H1 locs1 ls hR1 hl
  rw [hns, List.length_set] at k1
  exact k1
theorem xs_zast {i : Int32} {x : Int32} {a n : Nat} {f : Nat → Int32} (X : xi_X z cc own) (hd : decode cc pc = .ok (.bastore, 1)) (ha : A[a]? = some (.inl (3, n, .inl f))) (hin : vp_in i n) (kk : xi_At z (pc + 1) lv r (A.set a (.inl (3, n, .inl (upd f i.toNatClampNeg (vp_nar .boolean x)))))) : xi_At z pc lv (.int x :: .int i :: .ref a :: r) A := by
  obtain ⟨p, l, e, R, s, m, args, below, meth, c, Q, nL, b0, aS, dA, D, n0, s0⟩ := z
  obtain ⟨hx, hb, hml, hown, hts, hK, hstr⟩ := X
  intro H locs ls hR hl
  refine va_zast hx hb hK hR.1 (xi_w_D A) hR.2.1 a 3 (xi_w_get ha) rfl hin hd (fun H1 locs1 hP1 _ hS1 => ?_)
  obtain ⟨hR1, hns⟩ := hR.set (y := .inl (3, n, .inl (upd f i.toNatClampNeg (vp_nar .boolean x)))) ha rfl hP1 hS1
  have k1 := kk H1 locs1 ls hR1 hl
  rw [hns, List.length_set] at k1
  exact k1
theorem xi_up {b0 : Nat} (f : Nat → Option Nat) (j : Nat) (v : Option Nat) : va_up (fun j => (f j).map (fun k => b0 + k)) j (v.map (fun k => b0 + k)) = fun i => ((va_up f j v) i).map (fun k => b0 + k) := by
  funext i
  by_cases h : i = j <;> simp [va_up, h]
theorem xi_rf (b0 : Nat) (aS : Nat → Nat) (o : Option Nat) : va_rf (o.map (fun k => b0 + k)) = xi_v b0 aS (va_rf o) := by cases o <;> rfl
theorem xs_aald {i : Int32} {a n t : Nat} {C : String} {f : Nat → Option Nat} (X : xi_X z cc own) (hd : decode cc pc = .ok (.aaload, 1)) (ha : A[a]? = some (.inl (t, n, .inr (.inr (.inr (.inr f)))))) (hin : vp_in i n) (ht : xi_tyl[t]? = some (.object C)) (kk : xi_At z (pc + 1) lv (va_rf (f i.toNatClampNeg) :: r) A) : xi_At z pc lv (.int i :: .ref a :: r) A := by
  obtain ⟨p, l, e, R, s, m, args, below, meth, c, Q, nL, b0, aS, dA, D, n0, s0⟩ := z
  obtain ⟨hx, hb, hml, hown, hts, hK, hstr⟩ := X
  intro H locs ls hR hl
  refine va_aldq hx hb hK hR.1 a t (xi_w_get ha) (xi_tys_at dA ht) hin hd ?_
  have k1 := kk H locs ls hR hl
  rw [xi_rf b0 aS]
  exact k1
theorem xs_aast {i : Int32} {a n t v ci : Nat} {rr : vw_C} {vs : List Value} {f : Nat → Option Nat} (X : xi_X z cc own) (hd : decode cc pc = .ok (.aastore, 1)) (ha : A[a]? = some (.inl (t, n, .inr (.inr (.inr (.inr f)))))) (hin : vp_in i n) (hv : A[v]? = some (.inr (ci, vs))) (hc : xi_cl[ci]? = some rr) (ht : xi_tyl[t]? = some (.object rr.1)) (kk : xi_At z (pc + 1) lv r (A.set a (.inl (t, n, .inr (.inr (.inr (.inr (va_up f i.toNatClampNeg (some v))))))))) : xi_At z pc lv (.ref v :: .int i :: .ref a :: r) A := by
  obtain ⟨p, l, e, R, s, m, args, below, meth, c, Q, nL, b0, aS, dA, D, n0, s0⟩ := z
  obtain ⟨hx, hb, hml, hown, hts, hK, hstr⟩ := X
  intro H locs ls hR hl
  refine va_astq hx hb hK hR.1 (xi_w_D A) hR.2.1 a t v ci (xi_w_get ha) (xi_tys_at dA ht) (xi_w_get hv) hc hin hd (fun H1 locs1 hP1 _ hS1 => ?_)
  have hP1' : va_P D xi_cl ((xi_w b0 aS dA A).set a (b0 + a, xi_e b0 aS dA (.inl (t, n, .inr (.inr (.inr (.inr (va_up f i.toNatClampNeg (some v)))))))) ) H1 := by
    have := xi_up (b0 := b0) f i.toNatClampNeg (some v)
    simp only [xi_e, xi_q]
    rw [← this]
    exact hP1
  obtain ⟨hR1, hns⟩ := hR.set (y := .inl (t, n, .inr (.inr (.inr (.inr (va_up f i.toNatClampNeg (some v))))))) ha rfl hP1' hS1
  have k1 := kk H1 locs1 ls hR1 hl
  rw [hns, List.length_set] at k1
  exact k1
theorem xs_alen {a t : Nat} {x : vp_A} {ty : FieldType} (X : xi_X z cc own) (hd : decode cc pc = .ok (.arraylength, 1)) (ha : A[a]? = some (.inl (t, x))) (ht : xi_tyl[t]? = some ty) (kk : xi_At z (pc + 1) lv (.int (Int32.ofNat x.1) :: r) A) : xi_At z pc lv (.ref a :: r) A := by
  obtain ⟨p, l, e, R, s, m, args, below, meth, c, Q, nL, b0, aS, dA, D, n0, s0⟩ := z
  obtain ⟨hx, hb, hml, hown, hts, hK, hstr⟩ := X
  intro H locs ls hR hl
  refine va_alen hx hb hK hR.1 a t (xi_w_get ha) (xi_tys_at dA ht) (v := Int32.ofNat x.1) ?_ hd (kk H locs ls hR hl)
  obtain ⟨n, f | f | f | f | f⟩ := x <;> rfl
theorem xs_get {a ci k i : Nat} {C : String} {T : u_T} {N : Nat} {fs : List Value} {v : Value} (X : xi_X z cc own) (hd : decode cc pc = .ok (.getfield i, 3)) (ha : A[a]? = some (.inr (ci, fs))) (hc : xi_cl[ci]? = some (C, T, N)) (hk : k < N) (hw : Cond.fieldLink own i (T k).1 (T k).2.1 (T k).2.2.1 ∈ xi_G) (hv : fs[k]? = some v) (kk : xi_At z (pc + 3) lv (v :: r) A) : xi_At z pc lv (.ref a :: r) A := by
  obtain ⟨p, l, e, R, s, m, args, below, meth, c, Q, nL, b0, aS, dA, D, n0, s0⟩ := z
  obtain ⟨hx, hb, hml, hown, hts, hK, hstr⟩ := X
  intro H locs ls hR hl
  exact va_get hx hb hts (xi_in hc) hown hK hR.1 a (xi_w_get ha) hc k hk (hts _ hw) (fun _ h => h) (v := xi_v b0 aS v) (by simp [hv]) hd (kk H locs ls hR hl)
theorem xi_nar {b0 : Nat} {aS : Nat → Nat} {ty : FieldType} {v : Value} (h : narrow ty v = v) : narrow ty (xi_v b0 aS v) = xi_v b0 aS v := by
  cases v <;> first | exact h | (cases ty <;> rfl)
theorem xi_fit {b0 : Nat} {aS : Nat → Nat} {ty : FieldType} {v : Value} (h : fits ty v = true) : fits ty (xi_v b0 aS v) = true := by
  cases v <;> first | exact h | (cases ty <;> first | rfl | cases h)
theorem xs_put {a ci k i : Nat} {C : String} {T : u_T} {N : Nat} {fs : List Value} {v : Value} (X : xi_X z cc own) (hd : decode cc pc = .ok (.putfield i, 3)) (ha : A[a]? = some (.inr (ci, fs))) (hc : xi_cl[ci]? = some (C, T, N)) (hk : k < N) (hw : Cond.fieldLink own i (T k).1 (T k).2.1 (T k).2.2.1 ∈ xi_G) (hfin : (T k).2.2.2 = false) (hn : narrow (xi_ty ci k) v = v) (hf : fits (xi_ty ci k) v = true) (hl0 : k < fs.length) (kk : xi_At z (pc + 3) lv r (A.set a (.inr (ci, fs.set k v)))) : xi_At z pc lv (v :: .ref a :: r) A := by
  obtain ⟨p, l, e, R, s, m, args, below, meth, c, Q, nL, b0, aS, dA, D, n0, s0⟩ := z
  obtain ⟨hx, hb, hml, hown, hts, hK, hstr⟩ := X
  intro H locs ls hR hl
  refine va_put hx hb hts (xi_in hc) (xi_ty ci) (fun j hj => xi_ty_ok hc hj) (xi_nm hc) hown hK hR.1 (xi_w_D A) hR.2.1 a (xi_w_get ha) hc k hk (hts _ hw) (fun _ h => h) hfin (xi_ty_ok hc hk) (xi_nar hn) (xi_fit hf) (by simp [hl0]) hd (fun H1 locs1 hP1 _ hS1 => ?_)
  rw [← List.map_set] at hP1
  obtain ⟨hR1, hns⟩ := hR.set (y := .inr (ci, fs.set k v)) ha (by simp [xi_n]) hP1 hS1
  have k1 := kk H1 locs1 ls hR1 hl
  rw [hns, List.length_set] at k1
  exact k1
theorem xs_putF {a ci k i : Nat} {C : String} {T : u_T} {N : Nat} {fs : List Value} {v : Value} (X : xi_X z cc own) (hin2 : z.2.2.2.2.2.2.2.2.1.name = "<init>") (hd : decode cc pc = .ok (.putfield i, 3)) (ha : A[a]? = some (.inr (ci, fs))) (hc : xi_cl[ci]? = some (C, T, N)) (hk : k < N) (hw : Cond.fieldLink own i (T k).1 (T k).2.1 (T k).2.2.1 ∈ xi_G) (hfin : (T k).2.2.2 = true) (hdecl : (T k).1 = own) (hn : narrow (xi_ty ci k) v = v) (hf : fits (xi_ty ci k) v = true) (hl0 : k < fs.length) (kk : xi_At z (pc + 3) lv r (A.set a (.inr (ci, fs.set k v)))) : xi_At z pc lv (v :: .ref a :: r) A := by
  obtain ⟨p, l, e, R, s, m, args, below, meth, c, Q, nL, b0, aS, dA, D, n0, s0⟩ := z
  obtain ⟨hx, hb, hml, hown, hts, hK, hstr⟩ := X
  intro H locs ls hR hl
  refine va_putF hx hb hts (xi_in hc) (xi_ty ci) (fun j hj => xi_ty_ok hc hj) (xi_nm hc) hown hK hR.1 (xi_w_D A) hR.2.1 a (xi_w_get ha) hc k hk (hts _ hw) (fun _ h => h) hfin hin2 hdecl (xi_ty_ok hc hk) (xi_nar hn) (xi_fit hf) (by simp [hl0]) hd (fun H1 locs1 hP1 _ hS1 => ?_)
  rw [← List.map_set] at hP1
  obtain ⟨hR1, hns⟩ := hR.set (y := .inr (ci, fs.set k v)) ha (by simp [xi_n]) hP1 hS1
  have k1 := kk H1 locs1 ls hR1 hl
  rw [hns, List.length_set] at k1
  exact k1
theorem xi_R.push {b0 : Nat} {aS : Nat → Nat} {dA : Nat → ClassId} {D : va_G} {n0 s0 : Nat} {Hs H H1 : Heap} {locs : List Loc} {x : xi_E} (hR : xi_R b0 aS dA D n0 s0 Hs A H locs) (hP : va_P D xi_cl (xi_w b0 aS dA A ++ [(b0 + A.length, xi_e b0 aS dA x)]) H1) (hS : va_S (fun q => b0 ≤ q) Hs H1 locs) :
    xi_R b0 aS dA D n0 s0 Hs (A ++ [x]) H1 locs ∧ (A ++ [x]).length - n0 = A.length - n0 + 1 ∧ xi_ns (A ++ [x]) - s0 = xi_ns A - s0 + xi_n x := by
  have h1 := hR.2.2.1
  have h2 := hR.2.2.2.1
  refine ⟨⟨xi_w_push ▸ hP, hS, by simp; omega, by rw [xi_ns_push]; omega, hR.2.2.2.2⟩, by simp; omega, by rw [xi_ns_push]; omega⟩
theorem xs_new {ci i : Nat} {C : String} {T : u_T} {N : Nat} (X : xi_X z cc own) (hd : decode cc pc = .ok (.new i, 3)) (hc : xi_cl[ci]? = some (C, T, N)) (hw1 : Cond.classLink own i C ∈ xi_G) (hw2 : Cond.instantiable C N ∈ xi_G) (hw3 : Cond.initialized C ∈ xi_G) (hdl : (xi_df ci).length = N)
    (hE1 : (A ++ [(.inr (ci, xi_df ci) : xi_E)]).length - z.2.2.2.2.2.2.2.2.2.2.2.2.2.2.2.2.1 ≤ z.2.2.2.1.cells) (hE2 : xi_ns (A ++ [(.inr (ci, xi_df ci) : xi_E)]) - z.2.2.2.2.2.2.2.2.2.2.2.2.2.2.2.2.2 ≤ z.2.2.2.1.slots) (kk : xi_At z (pc + 3) lv (.ref A.length :: r) (A ++ [.inr (ci, xi_df ci)])) : xi_At z pc lv r A := by
  obtain ⟨p, l, e, R, s, m, args, below, meth, c, Q, nL, b0, aS, dA, D, n0, s0⟩ := z
  obtain ⟨hx, hb, hml, hown, hts, hK, hstr⟩ := X
  intro H locs ls hR hl
  have hA : ∀ q : Nat, s.heap.size ≤ q → b0 ≤ q := fun q h => by have := hR.2.2.2.2; omega
  obtain ⟨h1, h2⟩ := And.intro hR.2.2.1 hR.2.2.2.1
  have hdn : xi_n (.inr (ci, xi_df ci)) = N := hdl
  simp only [List.length_append, List.length_singleton] at hE1
  rw [xi_ns_push, hdn] at hE2
  refine va_new (ci := ci) (fs := (xi_df ci).map (xi_v b0 aS)) hx hb hts (xi_in hc) (xi_ty ci) (fun j hj => xi_ty_ok hc hj) hown (hts _ hw1) (hts _ hw2) (hts _ hw3) hK hR.1 (xi_w_D A) hR.2.1 hA hc (fun j hj => xi_df_ok b0 aS hc hj) (by show A.length - n0 + 1 ≤ R.cells; have : A.length + 1 - n0 ≤ R.cells := hE1; omega) (by show xi_ns A - s0 + N ≤ R.slots; have : xi_ns A + N - s0 ≤ R.slots := hE2; omega) hd (fun q H1 hP1 hD1 hS1 => ?_)
  intro T0 hT0 X1
  have hq : q = b0 + A.length := xi_fresh hP1 hD1 h1 hR.2.2.2.2 (by rw [← hT0]; exact X1.heapSize)
  subst hq
  obtain ⟨hR1, e1, e2⟩ := hR.push (x := .inr (ci, xi_df ci)) hP1 hS1
  have k1 := kk H1 locs ls hR1 hl
  rw [e1, e2, hdn] at k1
  exact k1 T0 hT0 X1
theorem xs_newa_int {n : Int32} (X : xi_X z cc own) (hd : decode cc pc = .ok (.newarray .int, 2)) (hw : Cond.arrayClass .int ∈ xi_G) (hn : ¬ n < 0) (hby : n.toNatClampNeg * componentBytes .int ≤ 536870912)
    (hE1 : (A ++ [(.inl (0, (n.toNatClampNeg, .inl (fun _ => 0))) : xi_E)]).length - z.2.2.2.2.2.2.2.2.2.2.2.2.2.2.2.2.1 ≤ z.2.2.2.1.cells) (hE2 : xi_ns (A ++ [(.inl (0, (n.toNatClampNeg, .inl (fun _ => 0))) : xi_E)]) - z.2.2.2.2.2.2.2.2.2.2.2.2.2.2.2.2.2 ≤ z.2.2.2.1.slots) (kk : xi_At z (pc + 2) lv (.ref A.length :: r) (A ++ [.inl (0, (n.toNatClampNeg, .inl (fun _ => 0)))])) : xi_At z pc lv (.int n :: r) A := by
  obtain ⟨p, l, e, R, s, m, args, below, meth, c, Q, nL, b0, aS, dA, D, n0, s0⟩ := z
  obtain ⟨hx, hb, hml, hown, hts, hK, hstr⟩ := X
  intro H locs ls hR hl
  have hA : ∀ q : Nat, s.heap.size ≤ q → b0 ≤ q := fun q h => by have := hR.2.2.2.2; omega
  obtain ⟨h1, h2⟩ := And.intro hR.2.2.1 hR.2.2.2.1
  have hdn : xi_n (.inl (0, (n.toNatClampNeg, .inl (fun _ => 0)))) = n.toNatClampNeg := rfl
  simp only [List.length_append, List.length_singleton] at hE1
  rw [xi_ns_push, hdn] at hE2
  refine va_newa (atype := .int) (N' := n.toNatClampNeg) (a0 := (n.toNatClampNeg, .inl (fun _ => 0))) (ty := .int) hx hb (hts _ hw) rfl hK hR.1 (xi_w_D A) hR.2.1 hA (fun _ => rfl) hn rfl hby (by show A.length - n0 + 1 ≤ R.cells; have : A.length + 1 - n0 ≤ R.cells := hE1; omega) (by show xi_ns A - s0 + n.toNatClampNeg ≤ R.slots; have : xi_ns A + n.toNatClampNeg - s0 ≤ R.slots := hE2; omega) hd (fun q cA H1 hK1 hP1 hD1 hS1 => ?_)
  have hcA : cA = dA 0 := by
    have g1 := (hK1.2 (xi_tys dA).length (cA, .int) (by simp)).2
    have g2 := (hK.2 0 (dA 0, .int) rfl).2
    exact Option.some.inj (g1.symm.trans g2)
  subst hcA
  intro T0 hT0 X1
  have hq : q = b0 + A.length := xi_fresh hP1 hD1 h1 hR.2.2.2.2 (by rw [← hT0]; exact X1.heapSize)
  subst hq
  obtain ⟨hR1, e1, e2⟩ := hR.push (x := .inl (0, (n.toNatClampNeg, .inl (fun _ => 0)))) hP1 hS1
  have k1 := kk H1 locs ls hR1 hl
  rw [e1, e2, hdn] at k1
  exact k1 T0 hT0 X1
theorem xs_newa_long {n : Int32} (X : xi_X z cc own) (hd : decode cc pc = .ok (.newarray .long, 2)) (hw : Cond.arrayClass .long ∈ xi_G) (hn : ¬ n < 0) (hby : n.toNatClampNeg * componentBytes .long ≤ 536870912)
    (hE1 : (A ++ [(.inl (1, (n.toNatClampNeg, .inr (.inl (fun _ => 0)))) : xi_E)]).length - z.2.2.2.2.2.2.2.2.2.2.2.2.2.2.2.2.1 ≤ z.2.2.2.1.cells) (hE2 : xi_ns (A ++ [(.inl (1, (n.toNatClampNeg, .inr (.inl (fun _ => 0)))) : xi_E)]) - z.2.2.2.2.2.2.2.2.2.2.2.2.2.2.2.2.2 ≤ z.2.2.2.1.slots) (kk : xi_At z (pc + 2) lv (.ref A.length :: r) (A ++ [.inl (1, (n.toNatClampNeg, .inr (.inl (fun _ => 0))))])) : xi_At z pc lv (.int n :: r) A := by
  obtain ⟨p, l, e, R, s, m, args, below, meth, c, Q, nL, b0, aS, dA, D, n0, s0⟩ := z
  obtain ⟨hx, hb, hml, hown, hts, hK, hstr⟩ := X
  intro H locs ls hR hl
  have hA : ∀ q : Nat, s.heap.size ≤ q → b0 ≤ q := fun q h => by have := hR.2.2.2.2; omega
  obtain ⟨h1, h2⟩ := And.intro hR.2.2.1 hR.2.2.2.1
  have hdn : xi_n (.inl (1, (n.toNatClampNeg, .inr (.inl (fun _ => 0))))) = n.toNatClampNeg := rfl
  simp only [List.length_append, List.length_singleton] at hE1
  rw [xi_ns_push, hdn] at hE2
  refine va_newa (atype := .long) (N' := n.toNatClampNeg) (a0 := (n.toNatClampNeg, .inr (.inl (fun _ => 0)))) (ty := .long) hx hb (hts _ hw) rfl hK hR.1 (xi_w_D A) hR.2.1 hA (fun _ => rfl) hn rfl hby (by show A.length - n0 + 1 ≤ R.cells; have : A.length + 1 - n0 ≤ R.cells := hE1; omega) (by show xi_ns A - s0 + n.toNatClampNeg ≤ R.slots; have : xi_ns A + n.toNatClampNeg - s0 ≤ R.slots := hE2; omega) hd (fun q cA H1 hK1 hP1 hD1 hS1 => ?_)
  have hcA : cA = dA 1 := by
    have g1 := (hK1.2 (xi_tys dA).length (cA, .long) (by simp)).2
    have g2 := (hK.2 1 (dA 1, .long) rfl).2
    exact Option.some.inj (g1.symm.trans g2)
  subst hcA
  intro T0 hT0 X1
  have hq : q = b0 + A.length := xi_fresh hP1 hD1 h1 hR.2.2.2.2 (by rw [← hT0]; exact X1.heapSize)
  subst hq
  obtain ⟨hR1, e1, e2⟩ := hR.push (x := .inl (1, (n.toNatClampNeg, .inr (.inl (fun _ => 0))))) hP1 hS1
  have k1 := kk H1 locs ls hR1 hl
  rw [e1, e2, hdn] at k1
  exact k1 T0 hT0 X1
theorem xs_newa_char {n : Int32} (X : xi_X z cc own) (hd : decode cc pc = .ok (.newarray .char, 2)) (hw : Cond.arrayClass .char ∈ xi_G) (hn : ¬ n < 0) (hby : n.toNatClampNeg * componentBytes .char ≤ 536870912)
    (hE1 : (A ++ [(.inl (2, (n.toNatClampNeg, .inl (fun _ => 0))) : xi_E)]).length - z.2.2.2.2.2.2.2.2.2.2.2.2.2.2.2.2.1 ≤ z.2.2.2.1.cells) (hE2 : xi_ns (A ++ [(.inl (2, (n.toNatClampNeg, .inl (fun _ => 0))) : xi_E)]) - z.2.2.2.2.2.2.2.2.2.2.2.2.2.2.2.2.2 ≤ z.2.2.2.1.slots) (kk : xi_At z (pc + 2) lv (.ref A.length :: r) (A ++ [.inl (2, (n.toNatClampNeg, .inl (fun _ => 0)))])) : xi_At z pc lv (.int n :: r) A := by
  obtain ⟨p, l, e, R, s, m, args, below, meth, c, Q, nL, b0, aS, dA, D, n0, s0⟩ := z
  obtain ⟨hx, hb, hml, hown, hts, hK, hstr⟩ := X
  intro H locs ls hR hl
  have hA : ∀ q : Nat, s.heap.size ≤ q → b0 ≤ q := fun q h => by have := hR.2.2.2.2; omega
  obtain ⟨h1, h2⟩ := And.intro hR.2.2.1 hR.2.2.2.1
  have hdn : xi_n (.inl (2, (n.toNatClampNeg, .inl (fun _ => 0)))) = n.toNatClampNeg := rfl
  simp only [List.length_append, List.length_singleton] at hE1
  rw [xi_ns_push, hdn] at hE2
  refine va_newa (atype := .char) (N' := n.toNatClampNeg) (a0 := (n.toNatClampNeg, .inl (fun _ => 0))) (ty := .char) hx hb (hts _ hw) rfl hK hR.1 (xi_w_D A) hR.2.1 hA (fun _ => rfl) hn rfl hby (by show A.length - n0 + 1 ≤ R.cells; have : A.length + 1 - n0 ≤ R.cells := hE1; omega) (by show xi_ns A - s0 + n.toNatClampNeg ≤ R.slots; have : xi_ns A + n.toNatClampNeg - s0 ≤ R.slots := hE2; omega) hd (fun q cA H1 hK1 hP1 hD1 hS1 => ?_)
  have hcA : cA = dA 2 := by
    have g1 := (hK1.2 (xi_tys dA).length (cA, .char) (by simp)).2
    have g2 := (hK.2 2 (dA 2, .char) rfl).2
    exact Option.some.inj (g1.symm.trans g2)
  subst hcA
  intro T0 hT0 X1
  have hq : q = b0 + A.length := xi_fresh hP1 hD1 h1 hR.2.2.2.2 (by rw [← hT0]; exact X1.heapSize)
  subst hq
  obtain ⟨hR1, e1, e2⟩ := hR.push (x := .inl (2, (n.toNatClampNeg, .inl (fun _ => 0)))) hP1 hS1
  have k1 := kk H1 locs ls hR1 hl
  rw [e1, e2, hdn] at k1
  exact k1 T0 hT0 X1
theorem xs_newa_boolean {n : Int32} (X : xi_X z cc own) (hd : decode cc pc = .ok (.newarray .boolean, 2)) (hw : Cond.arrayClass .boolean ∈ xi_G) (hn : ¬ n < 0) (hby : n.toNatClampNeg * componentBytes .boolean ≤ 536870912)
    (hE1 : (A ++ [(.inl (3, (n.toNatClampNeg, .inl (fun _ => 0))) : xi_E)]).length - z.2.2.2.2.2.2.2.2.2.2.2.2.2.2.2.2.1 ≤ z.2.2.2.1.cells) (hE2 : xi_ns (A ++ [(.inl (3, (n.toNatClampNeg, .inl (fun _ => 0))) : xi_E)]) - z.2.2.2.2.2.2.2.2.2.2.2.2.2.2.2.2.2 ≤ z.2.2.2.1.slots) (kk : xi_At z (pc + 2) lv (.ref A.length :: r) (A ++ [.inl (3, (n.toNatClampNeg, .inl (fun _ => 0)))])) : xi_At z pc lv (.int n :: r) A := by
  obtain ⟨p, l, e, R, s, m, args, below, meth, c, Q, nL, b0, aS, dA, D, n0, s0⟩ := z
  obtain ⟨hx, hb, hml, hown, hts, hK, hstr⟩ := X
  intro H locs ls hR hl
  have hA : ∀ q : Nat, s.heap.size ≤ q → b0 ≤ q := fun q h => by have := hR.2.2.2.2; omega
  obtain ⟨h1, h2⟩ := And.intro hR.2.2.1 hR.2.2.2.1
  have hdn : xi_n (.inl (3, (n.toNatClampNeg, .inl (fun _ => 0)))) = n.toNatClampNeg := rfl
  simp only [List.length_append, List.length_singleton] at hE1
  rw [xi_ns_push, hdn] at hE2
  refine va_newa (atype := .boolean) (N' := n.toNatClampNeg) (a0 := (n.toNatClampNeg, .inl (fun _ => 0))) (ty := .boolean) hx hb (hts _ hw) rfl hK hR.1 (xi_w_D A) hR.2.1 hA (fun _ => rfl) hn rfl hby (by show A.length - n0 + 1 ≤ R.cells; have : A.length + 1 - n0 ≤ R.cells := hE1; omega) (by show xi_ns A - s0 + n.toNatClampNeg ≤ R.slots; have : xi_ns A + n.toNatClampNeg - s0 ≤ R.slots := hE2; omega) hd (fun q cA H1 hK1 hP1 hD1 hS1 => ?_)
  have hcA : cA = dA 3 := by
    have g1 := (hK1.2 (xi_tys dA).length (cA, .boolean) (by simp)).2
    have g2 := (hK.2 3 (dA 3, .boolean) rfl).2
    exact Option.some.inj (g1.symm.trans g2)
  subst hcA
  intro T0 hT0 X1
  have hq : q = b0 + A.length := xi_fresh hP1 hD1 h1 hR.2.2.2.2 (by rw [← hT0]; exact X1.heapSize)
  subst hq
  obtain ⟨hR1, e1, e2⟩ := hR.push (x := .inl (3, (n.toNatClampNeg, .inl (fun _ => 0)))) hP1 hS1
  have k1 := kk H1 locs ls hR1 hl
  rw [e1, e2, hdn] at k1
  exact k1 T0 hT0 X1
theorem xs_anew {n : Int32} {t i : Nat} {C : String} (X : xi_X z cc own) (hd : decode cc pc = .ok (.anewarray i, 3)) (ht : xi_tyl[t]? = some (.object C)) (hw : Cond.classLink own i C ∈ xi_G) (hw2 : C ∈ xi_ao) (hn : ¬ n < 0) (hby : n.toNatClampNeg * 4 ≤ 536870912)
    (hE1 : (A ++ [(.inl (t, n.toNatClampNeg, .inr (.inr (.inr (.inr (fun _ => none))))) : xi_E)]).length - z.2.2.2.2.2.2.2.2.2.2.2.2.2.2.2.2.1 ≤ z.2.2.2.1.cells) (hE2 : xi_ns (A ++ [(.inl (t, n.toNatClampNeg, .inr (.inr (.inr (.inr (fun _ => none))))) : xi_E)]) - z.2.2.2.2.2.2.2.2.2.2.2.2.2.2.2.2.2 ≤ z.2.2.2.1.slots) (kk : xi_At z (pc + 3) lv (.ref A.length :: r) (A ++ [.inl (t, n.toNatClampNeg, .inr (.inr (.inr (.inr (fun _ => none)))))])) : xi_At z pc lv (.int n :: r) A := by
  obtain ⟨p, l, e, R, s, m, args, below, meth, c, Q, nL, b0, aS, dA, D, n0, s0⟩ := z
  obtain ⟨hx, hb, hml, hown, hts, hK, hstr⟩ := X
  intro H locs ls hR hl
  have hA : ∀ q : Nat, s.heap.size ≤ q → b0 ≤ q := fun q h => by have := hR.2.2.2.2; omega
  obtain ⟨h1, h2⟩ := And.intro hR.2.2.1 hR.2.2.2.1
  have hdn : xi_n (.inl (t, n.toNatClampNeg, .inr (.inr (.inr (.inr (fun _ => none)))))) = n.toNatClampNeg := rfl
  simp only [List.length_append, List.length_singleton] at hE1
  rw [xi_ns_push, hdn] at hE2
  refine va_newq (N' := n.toNatClampNeg) hx hb hown (hts _ hw) (hstr.2.2.1 C hw2) hK hR.1 (xi_w_D A) hR.2.1 hA hn rfl hby (by show A.length - n0 + 1 ≤ R.cells; have : A.length + 1 - n0 ≤ R.cells := hE1; omega) (by show xi_ns A - s0 + n.toNatClampNeg ≤ R.slots; have : xi_ns A + n.toNatClampNeg - s0 ≤ R.slots := hE2; omega) hd (fun q cA H1 hK1 hP1 hD1 hS1 => ?_)
  have hcA : cA = dA t := by
    obtain ⟨_, _, -, -, -, g1⟩ := (hK1.2 (xi_tys dA).length (cA, .object C) (by simp)).2
    obtain ⟨_, _, -, -, -, g2⟩ := (hK.2 t (dA t, .object C) (xi_tys_at dA ht)).2
    exact Option.some.inj (g1.symm.trans g2)
  subst hcA
  intro T0 hT0 X1
  have hq : q = b0 + A.length := xi_fresh hP1 hD1 h1 hR.2.2.2.2 (by rw [← hT0]; exact X1.heapSize)
  subst hq
  obtain ⟨hR1, e1, e2⟩ := hR.push (x := .inl (t, n.toNatClampNeg, .inr (.inr (.inr (.inr (fun _ => none)))))) hP1 hS1
  have k1 := kk H1 locs ls hR1 hl
  rw [e1, e2, hdn] at k1
  exact k1 T0 hT0 X1
end XS
end
section
/-- a step within a method: no call, no return -/
def xi_s (nL : Nat) (I : Instr) (nx : Nat) (aux : List Nat) (lv : xi_L) (st : List Value) (A : xi_H) : Option (Nat × xi_L × List Value × xi_H) := match I with
  | .iconst n => some (nx, lv, .int (Int32.ofInt n) :: st, A)
  | .bipush n => some (nx, lv, .int (Int8.ofInt n).toInt32 :: st, A)
  | .sipush n => some (nx, lv, .int (Int16.ofInt n).toInt32 :: st, A)
  | .lconst n => some (nx, lv, .long (Int64.ofNat (n : Nat)) :: st, A)
  | .aconst_null => some (nx, lv, .null :: st, A)
  | .iadd => match st with
    | .int y :: .int x :: r => some (nx, lv, .int (x + y) :: r, A)
    | _ => none
  | .isub => match st with
    | .int y :: .int x :: r => some (nx, lv, .int (x - y) :: r, A)
    | _ => none
  | .imul => match st with
    | .int y :: .int x :: r => some (nx, lv, .int (x * y) :: r, A)
    | _ => none
  | .iand => match st with
    | .int y :: .int x :: r => some (nx, lv, .int (x &&& y) :: r, A)
    | _ => none
  | .ior => match st with
    | .int y :: .int x :: r => some (nx, lv, .int (x ||| y) :: r, A)
    | _ => none
  | .ixor => match st with
    | .int y :: .int x :: r => some (nx, lv, .int (x ^^^ y) :: r, A)
    | _ => none
  | .ishl => match st with
    | .int y :: .int x :: r => some (nx, lv, .int (x <<< (y &&& 31)) :: r, A)
    | _ => none
  | .ishr => match st with
    | .int y :: .int x :: r => some (nx, lv, .int (x >>> (y &&& 31)) :: r, A)
    | _ => none
  | .iushr => match st with
    | .int y :: .int x :: r => some (nx, lv, .int ((x.toUInt32 >>> (y.toUInt32 &&& Int32.toUInt32 31)).toInt32) :: r, A)
    | _ => none
  | .idiv => match st with
    | .int y :: .int x :: r => if y = 0 then none else some (nx, lv, .int (x / y) :: r, A)
    | _ => none
  | .irem => match st with
    | .int y :: .int x :: r => if y = 0 then none else some (nx, lv, .int (x - x / y * y) :: r, A)
    | _ => none
  | .ineg => match st with
    | .int x :: r => some (nx, lv, .int (-x) :: r, A)
    | _ => none
  | .ladd => match st with
    | .long y :: .long x :: r => some (nx, lv, .long (x + y) :: r, A)
    | _ => none
  | .lsub => match st with
    | .long y :: .long x :: r => some (nx, lv, .long (x - y) :: r, A)
    | _ => none
  | .lmul => match st with
    | .long y :: .long x :: r => some (nx, lv, .long (x * y) :: r, A)
    | _ => none
  | .land => match st with
    | .long y :: .long x :: r => some (nx, lv, .long (x &&& y) :: r, A)
    | _ => none
  | .lor => match st with
    | .long y :: .long x :: r => some (nx, lv, .long (x ||| y) :: r, A)
    | _ => none
  | .lxor => match st with
    | .long y :: .long x :: r => some (nx, lv, .long (x ^^^ y) :: r, A)
    | _ => none
  | .ldiv => match st with
    | .long y :: .long x :: r => if y = 0 then none else some (nx, lv, .long (x / y) :: r, A)
    | _ => none
  | .lrem => match st with
    | .long y :: .long x :: r => if y = 0 then none else some (nx, lv, .long (x - x / y * y) :: r, A)
    | _ => none
  | .lshl => match st with
    | .int y :: .long x :: r => some (nx, lv, .long (x <<< (y.toInt64 &&& 63)) :: r, A)
    | _ => none
  | .lshr => match st with
    | .int y :: .long x :: r => some (nx, lv, .long (x >>> (y.toInt64 &&& 63)) :: r, A)
    | _ => none
  | .lushr => match st with
    | .int y :: .long x :: r => some (nx, lv, .long ((x.toUInt64 >>> (y.toInt64.toUInt64 &&& Int64.toUInt64 63)).toInt64) :: r, A)
    | _ => none
  | .i2l => match st with
    | .int x :: r => some (nx, lv, .long x.toInt64 :: r, A)
    | _ => none
  | .l2i => match st with
    | .long x :: r => some (nx, lv, .int x.toInt32 :: r, A)
    | _ => none
  | .i2c => match st with
    | .int x :: r => some (nx, lv, .int ((x.toUInt32 % 65536).toInt32) :: r, A)
    | _ => none
  | .lcmp => match st with
    | .long y :: .long x :: r => some (nx, lv, .int (lg_cmp x y) :: r, A)
    | _ => none
  | .dup => match st with
    | va :: r => if va.category = 1 then some (nx, lv, va :: va :: r, A) else none
    | _ => none
  | .pop => match st with
    | va :: r => if va.category = 1 then some (nx, lv, r, A) else none
    | _ => none
  | .dup_x1 => match st with
    | va :: vb :: r => if va.category = 1 ∧ vb.category = 1 then some (nx, lv, va :: vb :: va :: r, A) else none
    | _ => none
  | .dup_x2 => match st with
    | va :: vb :: vd :: r => if va.category = 1 ∧ vb.category = 1 ∧ vd.category = 1 then some (nx, lv, va :: vb :: vd :: va :: r, A) else none
    | _ => none
  | .dup2 => match st with
    | va :: vb :: r => if va.category = 1 ∧ vb.category = 1 then some (nx, lv, va :: vb :: va :: vb :: r, A) else if va.category = 2 then some (nx, lv, va :: va :: vb :: r, A) else none
    | [va] => if va.category = 2 then some (nx, lv, [va, va], A) else none
    | _ => none
  | .iload_n k => match xi_get lv k.val with
    | some (.int x) => some (nx, lv, .int x :: st, A)
    | _ => none
  | .iload i => match xi_get lv i with
    | some (.int x) => some (nx, lv, .int x :: st, A)
    | _ => none
  | .lload_n k => match xi_get lv k.val with
    | some (.long x) => some (nx, lv, .long x :: st, A)
    | _ => none
  | .lload i => match xi_get lv i with
    | some (.long x) => some (nx, lv, .long x :: st, A)
    | _ => none
  | .aload_n k => match xi_get lv k.val with
    | some v => if xi_isr v = true then some (nx, lv, v :: st, A) else none
    | _ => none
  | .aload i => match xi_get lv i with
    | some v => if xi_isr v = true then some (nx, lv, v :: st, A) else none
    | _ => none
  | .istore_n k => match st with
    | .int x :: r => if k.val < nL then some (nx, xi_put1 lv k.val (.int x), r, A) else none
    | _ => none
  | .istore i => match st with
    | .int x :: r => if i < nL then some (nx, xi_put1 lv i (.int x), r, A) else none
    | _ => none
  | .lstore_n k => match st with
    | .long x :: r => if k.val + 1 < nL then some (nx, xi_put2 lv k.val (.long x), r, A) else none
    | _ => none
  | .lstore i => match st with
    | .long x :: r => if i + 1 < nL then some (nx, xi_put2 lv i (.long x), r, A) else none
    | _ => none
  | .astore_n k => match st with
    | .ref x :: r => if k.val < nL then some (nx, xi_put1 lv k.val (.ref x), r, A) else none
    | _ => none
  | .astore i => match st with
    | .ref x :: r => if i < nL then some (nx, xi_put1 lv i (.ref x), r, A) else none
    | _ => none
  | .iinc i n => match xi_get lv i with
    | some (.int x) => if i < nL then some (nx, xi_put1 lv i (.int (x + Int32.ofInt n)), st, A) else none
    | _ => none
  | .ifCond .eq _ => match st, aux with
    | .int x :: r, [tgt] => some (if x = 0 then tgt else nx, lv, r, A)
    | _, _ => none
  | .ifCond .ne _ => match st, aux with
    | .int x :: r, [tgt] => some (if ¬ x = 0 then tgt else nx, lv, r, A)
    | _, _ => none
  | .ifCond .lt _ => match st, aux with
    | .int x :: r, [tgt] => some (if x < 0 then tgt else nx, lv, r, A)
    | _, _ => none
  | .ifCond .ge _ => match st, aux with
    | .int x :: r, [tgt] => some (if 0 ≤ x then tgt else nx, lv, r, A)
    | _, _ => none
  | .ifCond .gt _ => match st, aux with
    | .int x :: r, [tgt] => some (if 0 < x then tgt else nx, lv, r, A)
    | _, _ => none
  | .ifCond .le _ => match st, aux with
    | .int x :: r, [tgt] => some (if x ≤ 0 then tgt else nx, lv, r, A)
    | _, _ => none
  | .if_icmp .eq _ => match st, aux with
    | .int y :: .int x :: r, [tgt] => some (if x = y then tgt else nx, lv, r, A)
    | _, _ => none
  | .if_icmp .ne _ => match st, aux with
    | .int y :: .int x :: r, [tgt] => some (if ¬ x = y then tgt else nx, lv, r, A)
    | _, _ => none
  | .if_icmp .lt _ => match st, aux with
    | .int y :: .int x :: r, [tgt] => some (if x < y then tgt else nx, lv, r, A)
    | _, _ => none
  | .if_icmp .ge _ => match st, aux with
    | .int y :: .int x :: r, [tgt] => some (if y ≤ x then tgt else nx, lv, r, A)
    | _, _ => none
  | .if_icmp .gt _ => match st, aux with
    | .int y :: .int x :: r, [tgt] => some (if y < x then tgt else nx, lv, r, A)
    | _, _ => none
  | .if_icmp .le _ => match st, aux with
    | .int y :: .int x :: r, [tgt] => some (if x ≤ y then tgt else nx, lv, r, A)
    | _, _ => none
  | .goto _ => match aux with
    | [tgt] => some (tgt, lv, st, A)
    | _ => none
  | .ldc _ => match aux with
    | [0, v, _] => some (nx, lv, .int (Int32.ofNat v) :: st, A)
    | [1, j] => some (nx, lv, .retAddr j :: st, A)
    | _ => none
  | .ldc_w _ => match aux with
    | [0, v, _] => some (nx, lv, .int (Int32.ofNat v) :: st, A)
    | _ => none
  | .ldc2_w _ => match aux with
    | [v, _] => some (nx, lv, .long (Int64.ofNat v) :: st, A)
    | _ => none
  | .iaload => match st with
    | .int i :: .ref a :: r => match A[a]? with
      | some (.inl (0, n, .inl f)) => if i < 0 ∨ n ≤ i.toNatClampNeg then none else some (nx, lv, .int (f i.toNatClampNeg) :: r, A)
      | _ => none
    | _ => none
  | .laload => match st with
    | .int i :: .ref a :: r => match A[a]? with
      | some (.inl (1, n, .inr (.inl f))) => if i < 0 ∨ n ≤ i.toNatClampNeg then none else some (nx, lv, .long (f i.toNatClampNeg) :: r, A)
      | _ => none
    | _ => none
  | .caload => match st with
    | .int i :: .ref a :: r => match A[a]? with
      | some (.inl (2, n, .inl f)) => if i < 0 ∨ n ≤ i.toNatClampNeg then none else some (nx, lv, .int (f i.toNatClampNeg) :: r, A)
      | _ => none
    | _ => none
  | .baload => match st with
    | .int i :: .ref a :: r => match A[a]? with
      | some (.inl (3, n, .inl f)) => if i < 0 ∨ n ≤ i.toNatClampNeg then none else some (nx, lv, .int (f i.toNatClampNeg) :: r, A)
      | _ => none
    | _ => none
  | .aaload => match st with
    | .int i :: .ref a :: r => match A[a]? with
      | some (.inl (t, n, .inr (.inr (.inr (.inr f))))) => if i < 0 ∨ n ≤ i.toNatClampNeg then none else match xi_tyl[t]? with
        | some (.object _) => some (nx, lv, va_rf (f i.toNatClampNeg) :: r, A)
        | _ => none
      | _ => none
    | _ => none
  | .iastore => match st with
    | .int x :: .int i :: .ref a :: r => match A[a]? with
      | some (.inl (0, n, .inl f)) => if i < 0 ∨ n ≤ i.toNatClampNeg then none else some (nx, lv, r, A.set a (.inl (0, n, .inl (upd f i.toNatClampNeg x))))
      | _ => none
    | _ => none
  | .lastore => match st with
    | .long x :: .int i :: .ref a :: r => match A[a]? with
      | some (.inl (1, n, .inr (.inl f))) => if i < 0 ∨ n ≤ i.toNatClampNeg then none else some (nx, lv, r, A.set a (.inl (1, n, .inr (.inl (vp_updL f i.toNatClampNeg x)))))
      | _ => none
    | _ => none
  | .castore => match st with
    | .int x :: .int i :: .ref a :: r => match A[a]? with
      | some (.inl (2, n, .inl f)) => if i < 0 ∨ n ≤ i.toNatClampNeg then none else some (nx, lv, r, A.set a (.inl (2, n, .inl (upd f i.toNatClampNeg (vp_nar .char x)))))
      | _ => none
    | _ => none
  | .bastore => match st with
    | .int x :: .int i :: .ref a :: r => match A[a]? with
      | some (.inl (3, n, .inl f)) => if i < 0 ∨ n ≤ i.toNatClampNeg then none else some (nx, lv, r, A.set a (.inl (3, n, .inl (upd f i.toNatClampNeg (vp_nar .boolean x)))))
      | _ => none
    | _ => none
  | .aastore => match st with
    | .ref v :: .int i :: .ref a :: r => match A[a]?, A[v]? with
      | some (.inl (t, n, .inr (.inr (.inr (.inr f))))), some (.inr (ci, _)) => if i < 0 ∨ n ≤ i.toNatClampNeg then none else match xi_cl[ci]? with
        | some rr => if xi_tyl[t]? = some (.object rr.1) then some (nx, lv, r, A.set a (.inl (t, n, .inr (.inr (.inr (.inr (va_up f i.toNatClampNeg (some v)))))))) else none
        | _ => none
      | _, _ => none
    | _ => none
  | .arraylength => match st with
    | .ref a :: r => match A[a]? with
      | some (.inl (t, x)) => match xi_tyl[t]? with
        | some _ => some (nx, lv, .int (Int32.ofNat x.1) :: r, A)
        | _ => none
      | _ => none
    | _ => none
  | .getfield _ => match st, aux with
    | .ref a :: r, [ci, k, _] => match A[a]? with
      | some (.inr (cj, fs)) => if cj = ci then match fs[k]? with
        | some v => some (nx, lv, v :: r, A)
        | none => none
        else none
      | _ => none
    | _, _ => none
  | .putfield _ => match st, aux with
    | v :: .ref a :: r, [ci, k, _] => match A[a]? with
      | some (.inr (cj, fs)) => if cj = ci ∧ k < fs.length ∧ narrow (xi_ty ci k) v = v ∧ fits (xi_ty ci k) v = true then some (nx, lv, r, A.set a (.inr (ci, fs.set k v))) else none
      | _ => none
    | _, _ => none
  | .new _ => match aux with
    | [ci, _, _, _] => some (nx, lv, .ref A.length :: st, A ++ [.inr (ci, xi_df ci)])
    | _ => none
  | .newarray .int => match st with
    | .int n :: r => if n < 0 ∨ 536870912 < n.toNatClampNeg * componentBytes .int then none else some (nx, lv, .ref A.length :: r, A ++ [.inl (0, (n.toNatClampNeg, .inl (fun _ => 0)))])
    | _ => none
  | .newarray .long => match st with
    | .int n :: r => if n < 0 ∨ 536870912 < n.toNatClampNeg * componentBytes .long then none else some (nx, lv, .ref A.length :: r, A ++ [.inl (1, (n.toNatClampNeg, .inr (.inl (fun _ => 0))))])
    | _ => none
  | .newarray .char => match st with
    | .int n :: r => if n < 0 ∨ 536870912 < n.toNatClampNeg * componentBytes .char then none else some (nx, lv, .ref A.length :: r, A ++ [.inl (2, (n.toNatClampNeg, .inl (fun _ => 0)))])
    | _ => none
  | .newarray .boolean => match st with
    | .int n :: r => if n < 0 ∨ 536870912 < n.toNatClampNeg * componentBytes .boolean then none else some (nx, lv, .ref A.length :: r, A ++ [.inl (3, (n.toNatClampNeg, .inl (fun _ => 0)))])
    | _ => none
  | .anewarray _ => match st, aux with
    | .int n :: r, [t, _, _] => if n < 0 ∨ 536870912 < n.toNatClampNeg * 4 then none else some (nx, lv, .ref A.length :: r, A ++ [.inl (t, n.toNatClampNeg, .inr (.inr (.inr (.inr (fun _ => none)))))])
    | _, _ => none
  | _ => none
def xi_len : Instr → Nat
  | .iconst _ => 1
  | .bipush _ => 2
  | .sipush _ => 3
  | .lconst _ => 1
  | .aconst_null => 1
  | .iadd => 1
  | .isub => 1
  | .imul => 1
  | .iand => 1
  | .ior => 1
  | .ixor => 1
  | .ishl => 1
  | .ishr => 1
  | .iushr => 1
  | .idiv => 1
  | .irem => 1
  | .ineg => 1
  | .ladd => 1
  | .lsub => 1
  | .lmul => 1
  | .land => 1
  | .lor => 1
  | .lxor => 1
  | .ldiv => 1
  | .lrem => 1
  | .lshl => 1
  | .lshr => 1
  | .lushr => 1
  | .i2l => 1
  | .l2i => 1
  | .i2c => 1
  | .lcmp => 1
  | .dup => 1
  | .pop => 1
  | .dup_x1 => 1
  | .dup_x2 => 1
  | .dup2 => 1
  | .iload_n _ => 1
  | .iload _ => 2
  | .lload_n _ => 1
  | .lload _ => 2
  | .aload_n _ => 1
  | .aload _ => 2
  | .istore_n _ => 1
  | .istore _ => 2
  | .lstore_n _ => 1
  | .lstore _ => 2
  | .astore_n _ => 1
  | .astore _ => 2
  | .iinc _ _ => 3
  | .ifCond _ _ => 3
  | .if_icmp _ _ => 3
  | .goto _ => 3
  | .ldc _ => 2
  | .ldc_w _ => 3
  | .ldc2_w _ => 3
  | .iaload => 1
  | .laload => 1
  | .caload => 1
  | .baload => 1
  | .aaload => 1
  | .iastore => 1
  | .lastore => 1
  | .castore => 1
  | .bastore => 1
  | .aastore => 1
  | .arraylength => 1
  | .getfield _ => 3
  | .putfield _ => 3
  | .new _ => 3
  | .newarray _ => 2
  | .anewarray _ => 3
  | .ireturn => 1
  | .lreturn => 1
  | .areturn => 1
  | .return_ => 1
  | .invokevirtual _ => 3
  | .invokespecial _ => 3
  | .invokestatic _ => 3
  | .athrow => 1
  | _ => 0
/-- what a row of a table says beside its instruction's bytes -/
def xi_ok (own nm : String) (pc : Nat) (I : Instr) (aux : List Nat) : Bool := match I, aux with
  | .ifCond _ off, [tgt] => decide ((pc : Int) + off = (tgt : Int))
  | .if_icmp _ off, [tgt] => decide ((pc : Int) + off = (tgt : Int))
  | .goto off, [tgt] => decide ((pc : Int) + off = (tgt : Int))
  | .ldc i, [0, v, ix] => xi_Gat ix (.constant own i (Int32.ofNat v))
  | .ldc_w i, [0, v, ix] => xi_Gat ix (.constant own i (Int32.ofNat v))
  | .ldc i, [1, j] => match xi_str[j]? with
    | some (o2, i2, _) => decide (o2 = own) && decide (i2 = i)
    | none => false
  | .ldc2_w i, [v, ix] => xi_Gat ix (.constantLong own i (Int64.ofNat v))
  | .getfield i, [ci, k, ix] => match xi_cl[ci]? with
    | some (_, T, N) => decide (k < N) && xi_Gat ix (.fieldLink own i (T k).1 (T k).2.1 (T k).2.2.1)
    | none => false
  | .putfield i, [ci, k, ix] => match xi_cl[ci]? with
    | some (_, T, N) => (decide (k < N) && xi_Gat ix (.fieldLink own i (T k).1 (T k).2.1 (T k).2.2.1)) && (decide ((T k).2.2.2 = false) || ((decide ((T k).2.2.2 = true) && decide ((T k).1 = own)) && decide (nm = "<init>")))
    | none => false
  | .new i, [ci, i1, i2, i3] => match xi_cl[ci]? with
    | some (C, _, N) => ((xi_Gat i1 (.classLink own i C) && xi_Gat i2 (.instantiable C N)) && xi_Gat i3 (.initialized C)) && decide ((xi_df ci).length = N)
    | none => false
  | .newarray aty, [ix] => xi_Gat ix (.arrayClass (newarray.typeOf aty))
  | .anewarray i, [t, i1, _] => match xi_tyl[t]? with
    | some (.object C) => xi_Gat i1 (.classLink own i C) && decide (C ∈ xi_ao)
    | _ => false
  | .newarray _, _ => false
  | _, _ => true
set_option maxHeartbeats 4000000 in
theorem xi_s_sound {z : xi_Z} {cc : ByteArray} {own nm : String} {pc : Nat} {I : Instr} {aux : List Nat} {lv lv' : xi_L} {st st' : List Value} {A A' : xi_H} {pc' : Nat} (X : xi_X z cc own) (hinit : nm = "<init>" → z.2.2.2.2.2.2.2.2.1.name = "<init>") (hd : decode cc pc = .ok (I, xi_len I)) (hok : xi_ok own nm pc I aux = true) (h : xi_s z.2.2.2.2.2.2.2.2.2.2.2.1 I (pc + xi_len I) aux lv st A = some (pc', lv', st', A'))
    (hE1 : A'.length - z.2.2.2.2.2.2.2.2.2.2.2.2.2.2.2.2.1 ≤ z.2.2.2.1.cells) (hE2 : xi_ns A' - z.2.2.2.2.2.2.2.2.2.2.2.2.2.2.2.2.2 ≤ z.2.2.2.1.slots) (kk : xi_At z pc' lv' st' A') : xi_At z pc lv st A := by
  cases I with
  | iconst n =>
    simp only [xi_s, Option.some.injEq, Prod.mk.injEq] at h
    obtain ⟨rfl, rfl, rfl, rfl⟩ := h
    exact xs_iconst X hd kk
  | bipush n =>
    simp only [xi_s, Option.some.injEq, Prod.mk.injEq] at h
    obtain ⟨rfl, rfl, rfl, rfl⟩ := h
    exact xs_bipush X hd kk
  | sipush n =>
    simp only [xi_s, Option.some.injEq, Prod.mk.injEq] at h
    obtain ⟨rfl, rfl, rfl, rfl⟩ := h
    exact xs_sipush X hd kk
  | lconst n =>
    simp only [xi_s, Option.some.injEq, Prod.mk.injEq] at h
    obtain ⟨rfl, rfl, rfl, rfl⟩ := h
    exact xs_lconst X hd kk
  | aconst_null =>
    simp only [xi_s, Option.some.injEq, Prod.mk.injEq] at h
    obtain ⟨rfl, rfl, rfl, rfl⟩ := h
    exact xs_null X hd kk
  | iadd =>
    simp only [xi_s] at h
    split at h
    · simp only [Option.some.injEq, Prod.mk.injEq] at h
      obtain ⟨rfl, rfl, rfl, rfl⟩ := h
      exact xs_iadd X hd kk
    · cases h
  | isub =>
    simp only [xi_s] at h
    split at h
    · simp only [Option.some.injEq, Prod.mk.injEq] at h
      obtain ⟨rfl, rfl, rfl, rfl⟩ := h
      exact xs_isub X hd kk
    · cases h
  | imul =>
    simp only [xi_s] at h
    split at h
    · simp only [Option.some.injEq, Prod.mk.injEq] at h
      obtain ⟨rfl, rfl, rfl, rfl⟩ := h
      exact xs_imul X hd kk
    · cases h
  | iand =>
    simp only [xi_s] at h
    split at h
    · simp only [Option.some.injEq, Prod.mk.injEq] at h
      obtain ⟨rfl, rfl, rfl, rfl⟩ := h
      exact xs_iand X hd kk
    · cases h
  | ior =>
    simp only [xi_s] at h
    split at h
    · simp only [Option.some.injEq, Prod.mk.injEq] at h
      obtain ⟨rfl, rfl, rfl, rfl⟩ := h
      exact xs_ior X hd kk
    · cases h
  | ixor =>
    simp only [xi_s] at h
    split at h
    · simp only [Option.some.injEq, Prod.mk.injEq] at h
      obtain ⟨rfl, rfl, rfl, rfl⟩ := h
      exact xs_ixor X hd kk
    · cases h
  | ishl =>
    simp only [xi_s] at h
    split at h
    · simp only [Option.some.injEq, Prod.mk.injEq] at h
      obtain ⟨rfl, rfl, rfl, rfl⟩ := h
      exact xs_ishl X hd kk
    · cases h
  | ishr =>
    simp only [xi_s] at h
    split at h
    · simp only [Option.some.injEq, Prod.mk.injEq] at h
      obtain ⟨rfl, rfl, rfl, rfl⟩ := h
      exact xs_ishr X hd kk
    · cases h
  | iushr =>
    simp only [xi_s] at h
    split at h
    · simp only [Option.some.injEq, Prod.mk.injEq] at h
      obtain ⟨rfl, rfl, rfl, rfl⟩ := h
      exact xs_iushr X hd kk
    · cases h
  | idiv =>
    simp only [xi_s] at h
    split at h
    · split at h
      · cases h
      · rename_i hc
        simp only [Option.some.injEq, Prod.mk.injEq] at h
        obtain ⟨rfl, rfl, rfl, rfl⟩ := h
        exact xs_idiv X hd hc kk
    · cases h
  | irem =>
    simp only [xi_s] at h
    split at h
    · split at h
      · cases h
      · rename_i hc
        simp only [Option.some.injEq, Prod.mk.injEq] at h
        obtain ⟨rfl, rfl, rfl, rfl⟩ := h
        exact xs_irem X hd hc kk
    · cases h
  | ineg =>
    simp only [xi_s] at h
    split at h
    · simp only [Option.some.injEq, Prod.mk.injEq] at h
      obtain ⟨rfl, rfl, rfl, rfl⟩ := h
      exact xs_ineg X hd kk
    · cases h
  | ladd =>
    simp only [xi_s] at h
    split at h
    · simp only [Option.some.injEq, Prod.mk.injEq] at h
      obtain ⟨rfl, rfl, rfl, rfl⟩ := h
      exact xs_ladd X hd kk
    · cases h
  | lsub =>
    simp only [xi_s] at h
    split at h
    · simp only [Option.some.injEq, Prod.mk.injEq] at h
      obtain ⟨rfl, rfl, rfl, rfl⟩ := h
      exact xs_lsub X hd kk
    · cases h
  | lmul =>
    simp only [xi_s] at h
    split at h
    · simp only [Option.some.injEq, Prod.mk.injEq] at h
      obtain ⟨rfl, rfl, rfl, rfl⟩ := h
      exact xs_lmul X hd kk
    · cases h
  | land =>
    simp only [xi_s] at h
    split at h
    · simp only [Option.some.injEq, Prod.mk.injEq] at h
      obtain ⟨rfl, rfl, rfl, rfl⟩ := h
      exact xs_land X hd kk
    · cases h
  | lor =>
    simp only [xi_s] at h
    split at h
    · simp only [Option.some.injEq, Prod.mk.injEq] at h
      obtain ⟨rfl, rfl, rfl, rfl⟩ := h
      exact xs_lor X hd kk
    · cases h
  | lxor =>
    simp only [xi_s] at h
    split at h
    · simp only [Option.some.injEq, Prod.mk.injEq] at h
      obtain ⟨rfl, rfl, rfl, rfl⟩ := h
      exact xs_lxor X hd kk
    · cases h
  | ldiv =>
    simp only [xi_s] at h
    split at h
    · split at h
      · cases h
      · rename_i hc
        simp only [Option.some.injEq, Prod.mk.injEq] at h
        obtain ⟨rfl, rfl, rfl, rfl⟩ := h
        exact xs_ldiv X hd hc kk
    · cases h
  | lrem =>
    simp only [xi_s] at h
    split at h
    · split at h
      · cases h
      · rename_i hc
        simp only [Option.some.injEq, Prod.mk.injEq] at h
        obtain ⟨rfl, rfl, rfl, rfl⟩ := h
        exact xs_lrem X hd hc kk
    · cases h
  | lshl =>
    simp only [xi_s] at h
    split at h
    · simp only [Option.some.injEq, Prod.mk.injEq] at h
      obtain ⟨rfl, rfl, rfl, rfl⟩ := h
      exact xs_lshl X hd kk
    · cases h
  | lshr =>
    simp only [xi_s] at h
    split at h
    · simp only [Option.some.injEq, Prod.mk.injEq] at h
      obtain ⟨rfl, rfl, rfl, rfl⟩ := h
      exact xs_lshr X hd kk
    · cases h
  | lushr =>
    simp only [xi_s] at h
    split at h
    · simp only [Option.some.injEq, Prod.mk.injEq] at h
      obtain ⟨rfl, rfl, rfl, rfl⟩ := h
      exact xs_lushr X hd kk
    · cases h
  | i2l =>
    simp only [xi_s] at h
    split at h
    · simp only [Option.some.injEq, Prod.mk.injEq] at h
      obtain ⟨rfl, rfl, rfl, rfl⟩ := h
      exact xs_i2l X hd kk
    · cases h
  | l2i =>
    simp only [xi_s] at h
    split at h
    · simp only [Option.some.injEq, Prod.mk.injEq] at h
      obtain ⟨rfl, rfl, rfl, rfl⟩ := h
      exact xs_l2i X hd kk
    · cases h
  | i2c =>
    simp only [xi_s] at h
    split at h
    · simp only [Option.some.injEq, Prod.mk.injEq] at h
      obtain ⟨rfl, rfl, rfl, rfl⟩ := h
      exact xs_i2c X hd kk
    · cases h
  | lcmp =>
    simp only [xi_s] at h
    split at h
    · simp only [Option.some.injEq, Prod.mk.injEq] at h
      obtain ⟨rfl, rfl, rfl, rfl⟩ := h
      exact xs_lcmp X hd kk
    · cases h
  | dup =>
    simp only [xi_s] at h
    split at h
    · split at h
      · rename_i hc
        simp only [Option.some.injEq, Prod.mk.injEq] at h
        obtain ⟨rfl, rfl, rfl, rfl⟩ := h
        exact xs_dup X hd hc kk
      · cases h
    · cases h
  | pop =>
    simp only [xi_s] at h
    split at h
    · split at h
      · rename_i hc
        simp only [Option.some.injEq, Prod.mk.injEq] at h
        obtain ⟨rfl, rfl, rfl, rfl⟩ := h
        exact xs_pop X hd hc kk
      · cases h
    · cases h
  | dup_x1 =>
    simp only [xi_s] at h
    split at h
    · split at h
      · rename_i hc
        simp only [Option.some.injEq, Prod.mk.injEq] at h
        obtain ⟨rfl, rfl, rfl, rfl⟩ := h
        exact xs_dup_x1 X hd hc.1 hc.2 kk
      · cases h
    · cases h
  | dup_x2 =>
    simp only [xi_s] at h
    split at h
    · split at h
      · rename_i hc
        simp only [Option.some.injEq, Prod.mk.injEq] at h
        obtain ⟨rfl, rfl, rfl, rfl⟩ := h
        exact xs_dup_x2 X hd hc.1 hc.2.1 hc.2.2 kk
      · cases h
    · cases h
  | dup2 =>
    simp only [xi_s] at h
    split at h
    · split at h
      · rename_i hc
        simp only [Option.some.injEq, Prod.mk.injEq] at h
        obtain ⟨rfl, rfl, rfl, rfl⟩ := h
        exact xs_dup2_11 X hd hc.1 hc.2 kk
      · split at h
        · rename_i hc
          simp only [Option.some.injEq, Prod.mk.injEq] at h
          obtain ⟨rfl, rfl, rfl, rfl⟩ := h
          exact xs_dup2_2 X hd hc kk
        · cases h
    · split at h
      · rename_i hc
        simp only [Option.some.injEq, Prod.mk.injEq] at h
        obtain ⟨rfl, rfl, rfl, rfl⟩ := h
        exact xs_dup2_2 X hd hc kk
      · cases h
    · cases h
  | iload_n k =>
    simp only [xi_s] at h
    split at h
    · rename_i hc
      simp only [Option.some.injEq, Prod.mk.injEq] at h
      obtain ⟨rfl, rfl, rfl, rfl⟩ := h
      exact xs_iload_n X hd hc kk
    · cases h
  | iload i =>
    simp only [xi_s] at h
    split at h
    · rename_i hc
      simp only [Option.some.injEq, Prod.mk.injEq] at h
      obtain ⟨rfl, rfl, rfl, rfl⟩ := h
      exact xs_iload X hd hc kk
    · cases h
  | lload_n k =>
    simp only [xi_s] at h
    split at h
    · rename_i hc
      simp only [Option.some.injEq, Prod.mk.injEq] at h
      obtain ⟨rfl, rfl, rfl, rfl⟩ := h
      exact xs_lload_n X hd hc kk
    · cases h
  | lload i =>
    simp only [xi_s] at h
    split at h
    · rename_i hc
      simp only [Option.some.injEq, Prod.mk.injEq] at h
      obtain ⟨rfl, rfl, rfl, rfl⟩ := h
      exact xs_lload X hd hc kk
    · cases h
  | aload_n k =>
    simp only [xi_s] at h
    split at h
    · rename_i hc
      split at h
      · rename_i hv
        simp only [Option.some.injEq, Prod.mk.injEq] at h
        obtain ⟨rfl, rfl, rfl, rfl⟩ := h
        exact xs_aload_n X hd hc hv kk
      · cases h
    · cases h
  | aload i =>
    simp only [xi_s] at h
    split at h
    · rename_i hc
      split at h
      · rename_i hv
        simp only [Option.some.injEq, Prod.mk.injEq] at h
        obtain ⟨rfl, rfl, rfl, rfl⟩ := h
        exact xs_aload X hd hc hv kk
      · cases h
    · cases h
  | istore_n k =>
    simp only [xi_s] at h
    split at h
    · split at h
      · rename_i hc
        simp only [Option.some.injEq, Prod.mk.injEq] at h
        obtain ⟨rfl, rfl, rfl, rfl⟩ := h
        exact xs_istore_n X hd rfl hc kk
      · cases h
    · cases h
  | istore i =>
    simp only [xi_s] at h
    split at h
    · split at h
      · rename_i hc
        simp only [Option.some.injEq, Prod.mk.injEq] at h
        obtain ⟨rfl, rfl, rfl, rfl⟩ := h
        exact xs_istore X hd hc kk
      · cases h
    · cases h
  | lstore_n k =>
    simp only [xi_s] at h
    split at h
    · split at h
      · rename_i hc
        simp only [Option.some.injEq, Prod.mk.injEq] at h
        obtain ⟨rfl, rfl, rfl, rfl⟩ := h
        exact xs_lstore_n X hd rfl hc kk
      · cases h
    · cases h
  | lstore i =>
    simp only [xi_s] at h
    split at h
    · split at h
      · rename_i hc
        simp only [Option.some.injEq, Prod.mk.injEq] at h
        obtain ⟨rfl, rfl, rfl, rfl⟩ := h
        exact xs_lstore X hd hc kk
      · cases h
    · cases h
  | astore_n k =>
    simp only [xi_s] at h
    split at h
    · split at h
      · rename_i hc
        simp only [Option.some.injEq, Prod.mk.injEq] at h
        obtain ⟨rfl, rfl, rfl, rfl⟩ := h
        exact xs_astore_n X hd rfl hc kk
      · cases h
    · cases h
  | astore i =>
    simp only [xi_s] at h
    split at h
    · split at h
      · rename_i hc
        simp only [Option.some.injEq, Prod.mk.injEq] at h
        obtain ⟨rfl, rfl, rfl, rfl⟩ := h
        exact xs_astore X hd hc kk
      · cases h
    · cases h
  | iinc i n =>
    simp only [xi_s] at h
    split at h
    · rename_i hc
      split at h
      · rename_i hn
        simp only [Option.some.injEq, Prod.mk.injEq] at h
        obtain ⟨rfl, rfl, rfl, rfl⟩ := h
        exact xs_iinc X hd hc hn kk
      · cases h
    · cases h
  | ifCond cn off =>
    cases cn with
    | eq =>
      simp only [xi_s] at h
      split at h
      · simp only [Option.some.injEq, Prod.mk.injEq] at h
        obtain ⟨rfl, rfl, rfl, rfl⟩ := h
        exact xs_if_eq X hd (by simpa [xi_ok] using hok) kk
      · cases h
    | ne =>
      simp only [xi_s] at h
      split at h
      · simp only [Option.some.injEq, Prod.mk.injEq] at h
        obtain ⟨rfl, rfl, rfl, rfl⟩ := h
        exact xs_if_ne X hd (by simpa [xi_ok] using hok) kk
      · cases h
    | lt =>
      simp only [xi_s] at h
      split at h
      · simp only [Option.some.injEq, Prod.mk.injEq] at h
        obtain ⟨rfl, rfl, rfl, rfl⟩ := h
        exact xs_if_lt X hd (by simpa [xi_ok] using hok) kk
      · cases h
    | ge =>
      simp only [xi_s] at h
      split at h
      · simp only [Option.some.injEq, Prod.mk.injEq] at h
        obtain ⟨rfl, rfl, rfl, rfl⟩ := h
        exact xs_if_ge X hd (by simpa [xi_ok] using hok) kk
      · cases h
    | gt =>
      simp only [xi_s] at h
      split at h
      · simp only [Option.some.injEq, Prod.mk.injEq] at h
        obtain ⟨rfl, rfl, rfl, rfl⟩ := h
        exact xs_if_gt X hd (by simpa [xi_ok] using hok) kk
      · cases h
    | le =>
      simp only [xi_s] at h
      split at h
      · simp only [Option.some.injEq, Prod.mk.injEq] at h
        obtain ⟨rfl, rfl, rfl, rfl⟩ := h
        exact xs_if_le X hd (by simpa [xi_ok] using hok) kk
      · cases h
  | if_icmp cn off =>
    cases cn with
    | eq =>
      simp only [xi_s] at h
      split at h
      · simp only [Option.some.injEq, Prod.mk.injEq] at h
        obtain ⟨rfl, rfl, rfl, rfl⟩ := h
        exact xs_icmp_eq X hd (by simpa [xi_ok] using hok) kk
      · cases h
    | ne =>
      simp only [xi_s] at h
      split at h
      · simp only [Option.some.injEq, Prod.mk.injEq] at h
        obtain ⟨rfl, rfl, rfl, rfl⟩ := h
        exact xs_icmp_ne X hd (by simpa [xi_ok] using hok) kk
      · cases h
    | lt =>
      simp only [xi_s] at h
      split at h
      · simp only [Option.some.injEq, Prod.mk.injEq] at h
        obtain ⟨rfl, rfl, rfl, rfl⟩ := h
        exact xs_icmp_lt X hd (by simpa [xi_ok] using hok) kk
      · cases h
    | ge =>
      simp only [xi_s] at h
      split at h
      · simp only [Option.some.injEq, Prod.mk.injEq] at h
        obtain ⟨rfl, rfl, rfl, rfl⟩ := h
        exact xs_icmp_ge X hd (by simpa [xi_ok] using hok) kk
      · cases h
    | gt =>
      simp only [xi_s] at h
      split at h
      · simp only [Option.some.injEq, Prod.mk.injEq] at h
        obtain ⟨rfl, rfl, rfl, rfl⟩ := h
        exact xs_icmp_gt X hd (by simpa [xi_ok] using hok) kk
      · cases h
    | le =>
      simp only [xi_s] at h
      split at h
      · simp only [Option.some.injEq, Prod.mk.injEq] at h
        obtain ⟨rfl, rfl, rfl, rfl⟩ := h
        exact xs_icmp_le X hd (by simpa [xi_ok] using hok) kk
      · cases h
  | goto off =>
    simp only [xi_s] at h
    split at h
    · simp only [Option.some.injEq, Prod.mk.injEq] at h
      obtain ⟨rfl, rfl, rfl, rfl⟩ := h
      exact xs_goto X hd (by simpa [xi_ok] using hok) kk
    · cases h
  | ldc i =>
    simp only [xi_s] at h
    split at h
    · simp only [Option.some.injEq, Prod.mk.injEq] at h
      obtain ⟨rfl, rfl, rfl, rfl⟩ := h
      exact xs_ldc X hd (xi_Gm (by simpa [xi_ok] using hok)) kk
    · simp only [Option.some.injEq, Prod.mk.injEq] at h
      obtain ⟨rfl, rfl, rfl, rfl⟩ := h
      simp only [xi_ok] at hok
      split at hok
      · rename_i o2 i2 tx hj
        simp only [Bool.and_eq_true, decide_eq_true_eq] at hok
        obtain ⟨rfl, rfl⟩ := hok
        exact xs_ldcS X hd hj kk
      · cases hok
    · cases h
  | ldc_w i =>
    simp only [xi_s] at h
    split at h
    · simp only [Option.some.injEq, Prod.mk.injEq] at h
      obtain ⟨rfl, rfl, rfl, rfl⟩ := h
      exact xs_ldcw X hd (xi_Gm (by simpa [xi_ok] using hok)) kk
    · cases h
  | ldc2_w i =>
    simp only [xi_s] at h
    split at h
    · simp only [Option.some.injEq, Prod.mk.injEq] at h
      obtain ⟨rfl, rfl, rfl, rfl⟩ := h
      exact xs_ldc2 X hd (xi_Gm (by simpa [xi_ok] using hok)) kk
    · cases h
  | iaload =>
    simp only [xi_s] at h
    split at h
    · split at h
      · rename_i ha
        split at h
        · cases h
        · rename_i hin
          simp only [Option.some.injEq, Prod.mk.injEq] at h
          obtain ⟨rfl, rfl, rfl, rfl⟩ := h
          exact xs_iald X hd ha hin kk
      · cases h
    · cases h
  | laload =>
    simp only [xi_s] at h
    split at h
    · split at h
      · rename_i ha
        split at h
        · cases h
        · rename_i hin
          simp only [Option.some.injEq, Prod.mk.injEq] at h
          obtain ⟨rfl, rfl, rfl, rfl⟩ := h
          exact xs_lald X hd ha hin kk
      · cases h
    · cases h
  | caload =>
    simp only [xi_s] at h
    split at h
    · split at h
      · rename_i ha
        split at h
        · cases h
        · rename_i hin
          simp only [Option.some.injEq, Prod.mk.injEq] at h
          obtain ⟨rfl, rfl, rfl, rfl⟩ := h
          exact xs_cald X hd ha hin kk
      · cases h
    · cases h
  | baload =>
    simp only [xi_s] at h
    split at h
    · split at h
      · rename_i ha
        split at h
        · cases h
        · rename_i hin
          simp only [Option.some.injEq, Prod.mk.injEq] at h
          obtain ⟨rfl, rfl, rfl, rfl⟩ := h
          exact xs_zald X hd ha hin kk
      · cases h
    · cases h
  | aaload =>
    simp only [xi_s] at h
    split at h
    · split at h
      · rename_i ha
        split at h
        · cases h
        · rename_i hin
          split at h
          · rename_i ht
            simp only [Option.some.injEq, Prod.mk.injEq] at h
            obtain ⟨rfl, rfl, rfl, rfl⟩ := h
            exact xs_aald X hd ha hin ht kk
          · cases h
      · cases h
    · cases h
  | iastore =>
    simp only [xi_s] at h
    split at h
    · split at h
      · rename_i ha
        split at h
        · cases h
        · rename_i hin
          simp only [Option.some.injEq, Prod.mk.injEq] at h
          obtain ⟨rfl, rfl, rfl, rfl⟩ := h
          exact xs_iast X hd ha hin kk
      · cases h
    · cases h
  | lastore =>
    simp only [xi_s] at h
    split at h
    · split at h
      · rename_i ha
        split at h
        · cases h
        · rename_i hin
          simp only [Option.some.injEq, Prod.mk.injEq] at h
          obtain ⟨rfl, rfl, rfl, rfl⟩ := h
          exact xs_last X hd ha hin kk
      · cases h
    · cases h
  | castore =>
    simp only [xi_s] at h
    split at h
    · split at h
      · rename_i ha
        split at h
        · cases h
        · rename_i hin
          simp only [Option.some.injEq, Prod.mk.injEq] at h
          obtain ⟨rfl, rfl, rfl, rfl⟩ := h
          exact xs_cast X hd ha hin kk
      · cases h
    · cases h
  | bastore =>
    simp only [xi_s] at h
    split at h
    · split at h
      · rename_i ha
        split at h
        · cases h
        · rename_i hin
          simp only [Option.some.injEq, Prod.mk.injEq] at h
          obtain ⟨rfl, rfl, rfl, rfl⟩ := h
          exact xs_zast X hd ha hin kk
      · cases h
    · cases h
  | aastore =>
    simp only [xi_s] at h
    split at h
    · split at h
      · rename_i ha hv
        split at h
        · cases h
        · rename_i hin
          split at h
          · rename_i hc
            split at h
            · rename_i ht
              simp only [Option.some.injEq, Prod.mk.injEq] at h
              obtain ⟨rfl, rfl, rfl, rfl⟩ := h
              exact xs_aast X hd ha hin hv hc ht kk
            · cases h
          · cases h
      · cases h
    · cases h
  | arraylength =>
    simp only [xi_s] at h
    split at h
    · split at h
      · rename_i ha
        split at h
        · rename_i ht
          simp only [Option.some.injEq, Prod.mk.injEq] at h
          obtain ⟨rfl, rfl, rfl, rfl⟩ := h
          exact xs_alen X hd ha ht kk
        · cases h
      · cases h
    · cases h
  | getfield i =>
    simp only [xi_s] at h
    split at h
    · split at h
      · rename_i ha
        split at h
        · rename_i hcj
          subst hcj
          split at h
          · rename_i hv
            simp only [Option.some.injEq, Prod.mk.injEq] at h
            obtain ⟨rfl, rfl, rfl, rfl⟩ := h
            simp only [xi_ok] at hok
            split at hok
            · rename_i C T N hc
              simp only [Bool.and_eq_true, decide_eq_true_eq] at hok
              exact xs_get X hd ha hc hok.1 (xi_Gm hok.2) hv kk
            · cases hok
          · cases h
        · cases h
      · cases h
    · cases h
  | putfield i =>
    simp only [xi_s] at h
    split at h
    · split at h
      · rename_i ha
        split at h
        · rename_i hcj
          obtain ⟨rfl, hl0, hn, hf⟩ := hcj
          simp only [Option.some.injEq, Prod.mk.injEq] at h
          obtain ⟨rfl, rfl, rfl, rfl⟩ := h
          simp only [xi_ok] at hok
          split at hok
          · rename_i C T N hc
            simp only [Bool.and_eq_true, decide_eq_true_eq, Bool.or_eq_true] at hok
            obtain ⟨⟨hk, hw⟩, hfin⟩ := hok
            rcases hfin with hfin | ⟨⟨hfin, hdecl⟩, hin2⟩
            · exact xs_put X hd ha hc hk (xi_Gm hw) hfin hn hf hl0 kk
            · exact xs_putF X (hinit hin2) hd ha hc hk (xi_Gm hw) hfin hdecl hn hf hl0 kk
          · cases hok
        · cases h
      · cases h
    · cases h
  | new i =>
    simp only [xi_s] at h
    split at h
    · simp only [Option.some.injEq, Prod.mk.injEq] at h
      obtain ⟨rfl, rfl, rfl, rfl⟩ := h
      simp only [xi_ok] at hok
      split at hok
      · rename_i C T N hc
        simp only [Bool.and_eq_true, decide_eq_true_eq] at hok
        exact xs_new X hd hc (xi_Gm hok.1.1.1) (xi_Gm hok.1.1.2) (xi_Gm hok.1.2) hok.2 hE1 hE2 kk
      · cases hok
    · cases h
  | newarray aty =>
    cases aty with
    | int =>
      simp only [xi_s] at h
      split at h
      · split at h
        · cases h
        · rename_i hn
          simp only [Option.some.injEq, Prod.mk.injEq] at h
          obtain ⟨rfl, rfl, rfl, rfl⟩ := h
          match aux, hok with
          | [ix], hok => exact xs_newa_int X hd (xi_Gm (ix := ix) hok) (fun q => hn (Or.inl q)) (Nat.not_lt.mp fun q => hn (Or.inr q)) hE1 hE2 kk
          | [], hok => simp [xi_ok] at hok
          | _ :: _ :: _, hok => simp [xi_ok] at hok
      · cases h
    | long =>
      simp only [xi_s] at h
      split at h
      · split at h
        · cases h
        · rename_i hn
          simp only [Option.some.injEq, Prod.mk.injEq] at h
          obtain ⟨rfl, rfl, rfl, rfl⟩ := h
          match aux, hok with
          | [ix], hok => exact xs_newa_long X hd (xi_Gm (ix := ix) hok) (fun q => hn (Or.inl q)) (Nat.not_lt.mp fun q => hn (Or.inr q)) hE1 hE2 kk
          | [], hok => simp [xi_ok] at hok
          | _ :: _ :: _, hok => simp [xi_ok] at hok
      · cases h
    | char =>
      simp only [xi_s] at h
      split at h
      · split at h
        · cases h
        · rename_i hn
          simp only [Option.some.injEq, Prod.mk.injEq] at h
          obtain ⟨rfl, rfl, rfl, rfl⟩ := h
          match aux, hok with
          | [ix], hok => exact xs_newa_char X hd (xi_Gm (ix := ix) hok) (fun q => hn (Or.inl q)) (Nat.not_lt.mp fun q => hn (Or.inr q)) hE1 hE2 kk
          | [], hok => simp [xi_ok] at hok
          | _ :: _ :: _, hok => simp [xi_ok] at hok
      · cases h
    | boolean =>
      simp only [xi_s] at h
      split at h
      · split at h
        · cases h
        · rename_i hn
          simp only [Option.some.injEq, Prod.mk.injEq] at h
          obtain ⟨rfl, rfl, rfl, rfl⟩ := h
          match aux, hok with
          | [ix], hok => exact xs_newa_boolean X hd (xi_Gm (ix := ix) hok) (fun q => hn (Or.inl q)) (Nat.not_lt.mp fun q => hn (Or.inr q)) hE1 hE2 kk
          | [], hok => simp [xi_ok] at hok
          | _ :: _ :: _, hok => simp [xi_ok] at hok
      · cases h
    | _ => simp [xi_s] at h
  | anewarray i =>
    simp only [xi_s] at h
    split at h
    · split at h
      · cases h
      · rename_i hn
        simp only [Option.some.injEq, Prod.mk.injEq] at h
        obtain ⟨rfl, rfl, rfl, rfl⟩ := h
        simp only [xi_ok] at hok
        split at hok
        · rename_i C ht
          simp only [Bool.and_eq_true, decide_eq_true_eq] at hok
          exact xs_anew X hd ht (xi_Gm hok.1) hok.2 (fun q => hn (Or.inl q)) (Nat.not_lt.mp fun q => hn (Or.inr q)) hE1 hE2 kk
        · cases hok
    · cases h
  | _ => simp [xi_s] at h
end
section
/-! WHAT LASTS, MOVED -/
theorem xi_nest_warm {s U : State} (hW : s.WarmedH U.vm) (h : ∀ w ∈ xi_nest, va_Nw w s) : ∀ w ∈ xi_nest, va_Nw w U := by
  intro w hw
  have h1 := h w hw
  simp only [xi_nest, List.mem_cons, List.not_mem_nil, or_false] at hw
  rcases hw with rfl | rfl | rfl | rfl | rfl | rfl | rfl | rfl | rfl | rfl | rfl | rfl | rfl | rfl | rfl | rfl <;>
    first | exact va_Nw.warmM hW h1 | exact va_Nw.warmD hW h1 | exact va_Nw.warmC hW h1
theorem xi_ls_move {b0 : Nat} {C n d : String} {s U : State} (hW : s.WarmedH U.vm) (hh : ∀ q : Nat, q < b0 → U.heap[q]? = s.heap[q]?) (hz : va_Zq C n d (fun x => b0 ≤ x) s s.heap) (h : va_Nw (.laysStatic C n d) s) : va_Nw (.laysStatic C n d) U := by
  have h1 : (Cond.laysStatic C n d).before #[] (s.setVm U.vm) = true := Cond.laysStatic_setVm hW.alike h
  obtain ⟨c, k, i, f, a, cell, hc, hi, hst, ha, hcell, hs, hcls, hlt, hty⟩ := Cond.laysStatic_spec h1
  have hi' : U.fieldFound? C n d = some (c, k, i, f) := hi
  have hz1 := hz.moved hW.alike
  have hlo : a < b0 := by
    rcases hz1 with hz1 | ⟨t, hz1⟩
    · obtain ⟨cf, kf, fi, f', a', cell', q1, -, -, q4, -, -, -, q8⟩ := hz1
      cases hi'.symm.trans q1
      cases ha.symm.trans q4
      exact Nat.not_le.mp q8
    · obtain ⟨cf, kf, fi, f', a', cell', q1, -, -, q4, -, -, -, q8⟩ := hz1
      cases hi'.symm.trans q1
      cases ha.symm.trans q4
      exact Nat.not_le.mp q8
  exact Cond.laysStatic_of (s := U) hc hi' hst ha (by rw [hh a hlo]; exact hcell) hs hcls hlt hty
theorem xi_St.warm {b0 : Nat} {aS : Nat → Nat} {s U : State} (hW : s.WarmedH U.vm) (hh : ∀ q : Nat, q < b0 → U.heap[q]? = s.heap[q]?) (h : xi_St b0 aS s) : xi_St b0 aS U := by
  obtain ⟨h1, h2, h3, h4⟩ := h
  refine ⟨fun j q hq => (h1 j q hq).warm hW, xi_nest_warm hW h2, fun C hC => (h3 C hC).moved hW.alike, fun q hq => ?_⟩
  have h5 := (h4 q hq).1.moved hW.alike
  exact ⟨h5.kept (fun a _ ha => hh a (Nat.not_le.mp ha)), xi_ls_move hW hh (h4 q hq).1 (h4 q hq).2⟩
/-! A METHOD's CONTRACT: from a heap A, with the values vs, it ends in o with the heap A' -/
def xi_o (b0 : Nat) (aS : Nat → Nat) : Outcome → Outcome
  | .returned v => .returned (v.map (xi_v b0 aS))
  | .threw k => .threw (b0 + k)
def xi_Pc (b0 : Nat) (aS : Nat → Nat) (dA : Nat → ClassId) (D : va_G) (vs : List Value) (A : xi_H) : Array Value → State → Prop := fun a U =>
  a = (vs.map (xi_v b0 aS)).toArray ∧ va_P D xi_cl (xi_w b0 aS dA A) U.heap ∧ U.heap.size = b0 + A.length ∧ va_K D xi_cl (xi_tys dA) U ∧ xi_St b0 aS U
def xi_Qc (b0 : Nat) (aS : Nat → Nat) (dA : Nat → ClassId) (D : va_G) (o : Outcome) (A' : xi_H) : Array Value → State → Outcome → State → Prop := fun _ st oc t =>
  oc = xi_o b0 aS o ∧ va_P D xi_cl (xi_w b0 aS dA A') t.heap ∧ va_F (fun q => b0 ≤ q) st t
def xi_MQ (below : List Frame) (Qc : Array Value → State → Outcome → State → Prop) (a : Array Value) (s : State) (mc ms : Nat) (free : Addr → Prop) : State → Prop := fun t =>
  ∃ o, t.status = .running ∧ Ended t below o ∧ Qc a s o t ∧ ∃ L, (s.WarmedH t.vm ∧ s.sameButNew ({ t with vm := s.vm } : State) L mc ms) ∧ ∀ q ∈ L, free q.base
def xi_Met (l : Launch) (y : MethodName) (ws : List Cond) (rm : Room) (Pc : Array Value → State → Prop) (Qc : Array Value → State → Outcome → State → Prop) (mc ms : Nat) (free : Addr → Prop) : Prop :=
  MetFree l y (headSpec ws rm) Pc (fun _ _ _ _ _ => True) (fun a st o t => Qc a st o t ∧ ∃ L, (st.WarmedH t.vm ∧ st.sameButNew ({ t with vm := st.vm } : State) L mc ms) ∧ ∀ q ∈ L, free q.base)
theorem xi_Pc_blind {b0 : Nat} {aS : Nat → Nat} {dA : Nat → ClassId} {D : va_G} {vs : List Value} {A : xi_H} : FrameBlind (xi_Pc b0 aS dA D vs A) := by
  intro a U g mk h
  obtain ⟨h1, h2, h3, h4, h5⟩ := h
  exact ⟨h1, h2, h3, va_K.moved (u := U) (U := U.calling g mk a) (Vm.Alike.refl U.vm) h4, h5.warm (s := U) (U := U.calling g mk a) (State.WarmedH.refl U) (fun _ _ => rfl)⟩
/-- a contract that returns is one of the kit's -/
theorem xi_Met.ret {l : Launch} {y : MethodName} {ws : List Cond} {rm : Room} {Pc : Array Value → State → Prop} {b0 : Nat} {aS : Nat → Nat} {dA : Nat → ClassId} {D : va_G} {v : Option Value} {A' : xi_H} {mc ms : Nat} {free : Addr → Prop} (h : xi_Met l y ws rm Pc (xi_Qc b0 aS dA D (.returned v) A') mc ms free) : Met l y ws rm Pc (xi_Qc b0 aS dA D (.returned v) A') mc ms free := by
  intro p e ha hc hk s m args below hf happ hP hK
  obtain ⟨n, o, h1, h2, h3, hq, L, hL, hfr⟩ := h p e ha hc hk s m args below hf happ hP hK
  exact ⟨n, o, h1, h2, h3, hq, L, ⟨⟨_, hq.1⟩, hL.1, hL.2⟩, hfr⟩
section XO
variable {p : Program} {l : Launch} {e : Env} {R : Room} {s : State} {m : MethodId} {args : Array Value} {below : List Frame} {meth : Method} {c : Code} {H : Heap} {locs : List Loc} {cells slots : Nat} {Q Q2 : State → Prop} {g : JFrame}
theorem xi_W_mono (h : ∀ t, Q t → Q2 t) (k : W p l e R s m args below meth c H locs cells slots Q g) : W p l e R s m args below meth c H locs cells slots Q2 g := by
  intro T hT X
  obtain ⟨t, a, b⟩ := k T hT X
  exact ⟨t, a, h t b⟩
theorem xi_MQ_of {Qc : Array Value → State → Outcome → State → Prop} {free : Addr → Prop} {a : Array Value} {mc ms : Nat} : ∀ t, MQ below Qc a s mc ms free t → xi_MQ below Qc a s mc ms free t := by
  intro t h
  obtain ⟨o, h1, h2, h3, L, hF, hL⟩ := h
  exact ⟨o, h1, h2, h3, L, hF.2, hL⟩
theorem xi_ofW {y : MethodName} {ws ws' : List Cond} {rm : Room} {Pc : Array Value → State → Prop} {Qc : Array Value → State → Outcome → State → Prop} {mc ms : Nat} {free : Addr → Prop} {cc : ByteArray} {maxL : Nat} {ret : Option FieldType}
    (hy : plainName y.cls = true) (hw : ws = Cond.code y cc maxL ret :: ws')
    (body : ∀ p e s m args below meth c s₁, BodyLoose p l y (headSpec ws rm) cc maxL ret e s m args below meth c s₁ → c.maxLocals = maxL → Pc args s →
      W p l e (headSpec ws rm).room s m args below meth c s.heap [] 0 0 (xi_MQ below Qc args s mc ms free) (entryFrame m args maxL)) : xi_Met l y ws rm Pc Qc mc ms free := by
  refine MetFree.of_bodyS (code := cc) (maxLocals := maxL) (ret := ret) hy ?_ ?_
  · intro args s m h hn
    obtain ⟨meth, c, h1, h2, h3, h4, h5, h6, -, -⟩ := Cond.code_spec hn (atoms_spec (ws := ws) h _ (by rw [hw]; exact List.mem_cons_self))
    exact ⟨meth, c, h1, h2, h3, h4, h5, h6⟩
  · intro p e s m args below meth c s₁ B hml hP _
    have hh0 : s₁.heap = s.heap := by rw [B.state]; rfl
    obtain ⟨t, a1, o, b1, b2, b3⟩ := body p e s m args below meth c s₁ B hml hP s₁ hh0 (Stand.of_body B)
    exact ⟨t, o, a1, b1, b2, ⟨b3.1, b3.2⟩⟩
/-- with a table of handlers -/
theorem xi_ofWH {y : MethodName} {ws ws' : List Cond} {rm : Room} {Pc : Array Value → State → Prop} {Qc : Array Value → State → Outcome → State → Prop} {mc ms : Nat} {free : Addr → Prop} {cc : ByteArray} {maxL : Nat} {ret : Option FieldType} {hs : List (Nat × Nat × Nat × Nat)}
    (hy : plainName y.cls = true) (hw : ws = Cond.codeWith y cc maxL ret hs :: ws')
    (body : ∀ p e s m args below meth c s₁, BodyLoose p l y (headSpec ws rm) cc maxL ret e s m args below meth c s₁ → c.maxLocals = maxL → Pc args s →
      W p l e (headSpec ws rm).room s m args below meth c s.heap [] 0 0 (xi_MQ below Qc args s mc ms free) (entryFrame m args maxL)) : xi_Met l y ws rm Pc Qc mc ms free := by
  refine MetFree.of_bodyS (code := cc) (maxLocals := maxL) (ret := ret) hy ?_ ?_
  · intro args s m h hn
    obtain ⟨m', meth, c, h0, h1, h2, h3, h4, -, h5, h6, -⟩ := Cond.codeWith_spec (atoms_spec (ws := ws) h _ (by rw [hw]; exact List.mem_cons_self))
    cases hn.symm.trans h0
    exact ⟨meth, c, h1, h2, h3, h4, h5, h6⟩
  · intro p e s m args below meth c s₁ B hml hP _
    have hh0 : s₁.heap = s.heap := by rw [B.state]; rfl
    obtain ⟨t, a1, o, b1, b2, b3⟩ := body p e s m args below meth c s₁ B hml hP s₁ hh0 (Stand.of_body B)
    exact ⟨t, o, a1, b1, b2, ⟨b3.1, b3.2⟩⟩
end XO
end
section
/-! CALLS THAT RETURN -/
theorem xi_good {w : Cond} (h : w ∈ xi_G) : (w.onTables && w.keeps) = true ∨ ∃ ty, w = .arrayClass ty := good_of_word (List.mem_filter.mp h).2
theorem xi_goodIn {y : MethodName} {cy : ByteArray} {nY : Nat} {ret : Option FieldType} (h : Cond.code y cy nY ret ∈ xi_G) : GoodIn xi_G (.code y cy nY ret :: xi_G) := by
  intro w hw
  rcases List.mem_cons.mp hw with rfl | hw
  · exact ⟨h, xi_good h⟩
  · exact ⟨hw, xi_good hw⟩
section XC
variable {p : Program} {l : Launch} {e : Env} {R : Room} {s : State} {m : MethodId} {args : Array Value} {below : List Frame} {meth : Method} {c : Code} {Q : State → Prop} {nL b0 : Nat} {aS : Nat → Nat} {dA : Nat → ClassId} {D : va_G} {n0 s0 : Nat}
variable {H : Heap} {locs : List Loc} {cells slots : Nat} {A A' : xi_H} {cc : ByteArray} {own : String} {pc i : Nat} {lv : xi_L} {y : MethodName} {cy : ByteArray} {nY : Nat} {ret : Option FieldType} {fr' lo' : Nat} {v : Option Value} {As rest : List Value} {b : Nat}
theorem xi_hz {T : State} (h0 : 0 < A.length) (hR : xi_R b0 aS dA D n0 s0 s.heap A H locs) (hT : T.heap = H) (X : Stand p l e R s m args below meth c T locs (A.length - n0) slots) : H.size = b0 + A.length := by
  obtain ⟨hP, -, hn, -, hs⟩ := hR
  have h1 := X.heapSize
  rw [hT] at h1
  have hlt : A.length - 1 < A.length := by omega
  have h2 := (hP _ _ (xi_w_get (List.getElem?_eq_getElem hlt))).lt
  simp only at h2
  omega
theorem xi_old (hR : xi_R b0 aS dA D n0 s0 s.heap A H locs) : ∀ q : Nat, q < b0 → H[q]? = s.heap[q]? := fun q hq => by
  have h := hR.2.2.2.2
  exact hR.2.1.2.1 q (by omega) (by omega)
theorem xi_pre (hR : xi_R b0 aS dA D n0 s0 s.heap A H locs) (hz : H.size = b0 + A.length) (hK : va_K D xi_cl (xi_tys dA) s) (hstr : xi_St b0 aS s) (vs : List Value) : ∀ U : State, U.heap = H → s.WarmedH U.vm → xi_Pc b0 aS dA D vs A (vs.map (xi_v b0 aS)).toArray U := by
  intro U hU hW
  exact ⟨rfl, by rw [hU]; exact hR.1, by rw [hU]; exact hz, va_K.moved hW.alike hK, hstr.warm hW (fun q hq => by rw [hU]; exact xi_old hR q hq)⟩
theorem xi_callK {ls : Array Slot} {st0 : List Value} {a : Array Value} {mc ms : Nat} (hr : va_Run p l e R s m args below meth c H locs cells slots mc ms (F0 m pc ls st0) rest (xi_Qc b0 aS dA D (.returned v) A' a) (fun q => b0 ≤ q)) (hS : va_S (fun q => b0 ≤ q) s.heap H locs)
    (kk : ∀ (H1 : Heap) (locs1 : List Loc), va_P D xi_cl (xi_w b0 aS dA A') H1 → va_S (fun q => b0 ≤ q) s.heap H1 locs1 → W p l e R s m args below meth c H1 locs1 (cells + mc) (slots + ms) Q (F0 m (pc + 3) ls ((v.map (xi_v b0 aS)).toList ++ rest))) : W p l e R s m args below meth c H locs cells slots Q (F0 m pc ls st0) := by
  intro T hT X
  obtain ⟨v', st₀, t, T', L, h0, X', hL, e1, e2, ⟨hv, hP, hz, hk⟩, st⟩ := hr T hT X
  have hv' : v' = v.map (xi_v b0 aS) := Outcome.returned.inj hv
  subst hv'
  rw [h0] at hz hk
  obtain ⟨t2, a1, b1⟩ := kk T'.heap (locs ++ L) (by rw [e1]; exact hP) ⟨Nat.le_trans hS.1 (by rw [e1]; exact hz), fun q h1 h2 => by rw [e1, hk q (Nat.lt_of_lt_of_le h1 hS.1) h2]; exact hS.2.1 q h1 h2, fun q hq => by
      rcases List.mem_append.mp hq with h | h
      · exact hS.2.2 q h
      · exact hL q h⟩ T' rfl X'
  exact ⟨t2, st t2 a1, b1⟩
/-- behind a call -/
theorem xi_back {ls : Array Slot} {st0 : List Value} {a : Array Value} (hR : xi_R b0 aS dA D n0 s0 s.heap A H locs) (hl : lv_has ls nL (xi_l b0 aS lv)) (hA1 : A.length ≤ A'.length) (hA2 : xi_ns A ≤ xi_ns A')
    (hr : va_Run p l e R s m args below meth c H locs (A.length - n0) (xi_ns A - s0) (A'.length - A.length) (xi_ns A' - xi_ns A) (F0 m pc ls st0) (rest.map (xi_v b0 aS)) (xi_Qc b0 aS dA D (.returned v) A' a) (fun q => b0 ≤ q))
    (kk : xi_At (p, l, e, R, s, m, args, below, meth, c, Q, nL, b0, aS, dA, D, n0, s0) (pc + 3) lv (v.toList ++ rest) A') : W p l e R s m args below meth c H locs (A.length - n0) (xi_ns A - s0) Q (F0 m pc ls st0) := by
  have h1 := hR.2.2.1
  have h2 := hR.2.2.2.1
  refine xi_callK hr hR.2.1 (fun H1 locs1 hP1 hS1 => ?_)
  have k1 := kk H1 locs1 ls ⟨hP1, hS1, by omega, by omega, hR.2.2.2.2⟩ hl
  rw [show A.length - n0 + (A'.length - A.length) = A'.length - n0 by omega, show xi_ns A - s0 + (xi_ns A' - xi_ns A) = xi_ns A' - s0 by omega]
  have e1 : (v.map (xi_v b0 aS)).toList ++ rest.map (xi_v b0 aS) = (v.toList ++ rest).map (xi_v b0 aS) := by cases v <;> simp
  rw [e1]
  exact k1
theorem xi_room (h : (rest.map fun v => v.category).sum ≤ 8) : ((rest.map (xi_v b0 aS)).map fun v => v.category).sum ≤ 8 := by
  rw [List.map_map]
  simpa [Function.comp_def, xi_v_cat] using h
theorem xs_callV {ci : Nat} {fs : List Value} {T : u_T} {N : Nat} (X : xi_X (p, l, e, R, s, m, args, below, meth, c, Q, nL, b0, aS, dA, D, n0, s0) cc own) (hd : decode cc pc = .ok (.invokevirtual i, 3))
    (hM : xi_Met l y (.code y cy nY ret :: xi_G) { frames := fr', cells := A'.length - A.length, slots := xi_ns A' - xi_ns A, locals := lo' } (xi_Pc b0 aS dA D (.ref b :: As) A) (xi_Qc b0 aS dA D (.returned v) A') (A'.length - A.length) (xi_ns A' - xi_ns A) (fun q => b0 ≤ q))
    (h0 : 0 < A.length) (hA1 : A.length ≤ A'.length) (hA2 : xi_ns A ≤ xi_ns A') (hE1 : A'.length - n0 ≤ R.cells) (hE2 : xi_ns A' - s0 ≤ R.slots) (hfr : fr' + 1 ≤ R.frames) (hlo : 8 + (nY + 11) + lo' ≤ R.locals)
    (hw1 : Cond.methodLink own i y ∈ xi_G) (hw2 : Cond.instanceMethod y ∈ xi_G) (hw3 : Cond.selects y.cls y y ∈ xi_G) (hw4 : Cond.initialized y.cls ∈ xi_G) (hw5 : Cond.code y cy nY ret ∈ xi_G)
    (hy : y.cls ≠ "java/lang/invoke/MethodHandle" ∧ y.cls ≠ "java/lang/invoke/VarHandle") (hn : (parseMethodDescriptor y.desc).map (fun d => d.parameters.length) = some As.length)
    (hb : A[b]? = some (.inr (ci, fs))) (hc : xi_cl[ci]? = some (y.cls, T, N)) (h8 : (rest.map fun v => v.category).sum ≤ 8)
    (kk : xi_At (p, l, e, R, s, m, args, below, meth, c, Q, nL, b0, aS, dA, D, n0, s0) (pc + 3) lv (v.toList ++ rest) A') :
    xi_At (p, l, e, R, s, m, args, below, meth, c, Q, nL, b0, aS, dA, D, n0, s0) pc lv (As.reverse ++ .ref b :: rest) A := by
  obtain ⟨hx, hbb, hml, hown, hts, hK, hstr⟩ := X
  intro H locs ls hR hl T0 hT0 X0
  have hz := xi_hz h0 hR hT0 X0
  have h1 := hR.2.2.1
  have h2 := hR.2.2.2.1
  have hgood : GoodIn xi_G (wsV own i y.cls y (.code y cy nY ret :: xi_G)) := by
    intro w hw
    rcases List.mem_append.mp hw with hw | hw
    · simp only [List.mem_cons, List.not_mem_nil, or_false] at hw
      rcases hw with rfl | rfl | rfl | rfl
      · exact ⟨hw1, xi_good hw1⟩
      · exact ⟨hw2, xi_good hw2⟩
      · exact ⟨hw3, xi_good hw3⟩
      · exact ⟨hw4, xi_good hw4⟩
    · exact xi_goodIn hw5 w hw
  have hst : (As.reverse ++ Value.ref b :: rest).map (xi_v b0 aS) = (As.map (xi_v b0 aS)).reverse ++ .ref (b0 + b) :: rest.map (xi_v b0 aS) := by simp [xi_v]
  rw [hst]
  refine xi_back hR hl hA1 hA2 (va_runV (C := y.cls) (b := b0 + b) (As := As.map (xi_v b0 aS)) (rest := rest.map (xi_v b0 aS)) ⟨hx, hbb, hml, hown, hts⟩ hM.ret (cwV As.length hts hgood rfl rfl rfl ⟨rfl, hy.1, hy.2, hn⟩ ⟨hfr, hlo⟩) ⟨xi_Pc_blind, va_recv hK hR.1 hc (xi_w_get hb), xi_pre hR hz hK hstr (.ref b :: As)⟩ rfl (by simp) hl.1 rfl (lv_room (xi_room h8)) hd ⟨by show A.length - n0 + (A'.length - A.length) ≤ R.cells; omega, by show xi_ns A - s0 + (xi_ns A' - xi_ns A) ≤ R.slots; omega⟩) kk T0 hT0 X0
theorem xs_callS (X : xi_X (p, l, e, R, s, m, args, below, meth, c, Q, nL, b0, aS, dA, D, n0, s0) cc own) (hd : decode cc pc = .ok (.invokestatic i, 3))
    (hM : xi_Met l y (.code y cy nY ret :: xi_G) { frames := fr', cells := A'.length - A.length, slots := xi_ns A' - xi_ns A, locals := lo' } (xi_Pc b0 aS dA D As A) (xi_Qc b0 aS dA D (.returned v) A') (A'.length - A.length) (xi_ns A' - xi_ns A) (fun q => b0 ≤ q))
    (h0 : 0 < A.length) (hA1 : A.length ≤ A'.length) (hA2 : xi_ns A ≤ xi_ns A') (hE1 : A'.length - n0 ≤ R.cells) (hE2 : xi_ns A' - s0 ≤ R.slots) (hfr : fr' + 1 ≤ R.frames) (hlo : 8 + (nY + 11) + lo' ≤ R.locals)
    (hw1 : Cond.methodLink own i y ∈ xi_G) (hw2 : Cond.static y ∈ xi_G) (hw4 : Cond.initialized y.cls ∈ xi_G) (hw5 : Cond.code y cy nY ret ∈ xi_G)
    (hy : y.cls ≠ "java/lang/invoke/MethodHandle" ∧ y.cls ≠ "java/lang/invoke/VarHandle") (hn : (parseMethodDescriptor y.desc).map (fun d => d.parameters.length) = some As.length) (h8 : (rest.map fun v => v.category).sum ≤ 8)
    (kk : xi_At (p, l, e, R, s, m, args, below, meth, c, Q, nL, b0, aS, dA, D, n0, s0) (pc + 3) lv (v.toList ++ rest) A') :
    xi_At (p, l, e, R, s, m, args, below, meth, c, Q, nL, b0, aS, dA, D, n0, s0) pc lv (As.reverse ++ rest) A := by
  obtain ⟨hx, hbb, hml, hown, hts, hK, hstr⟩ := X
  intro H locs ls hR hl T0 hT0 X0
  have hz := xi_hz h0 hR hT0 X0
  have h1 := hR.2.2.1
  have h2 := hR.2.2.2.1
  have hst : (As.reverse ++ rest).map (xi_v b0 aS) = (As.map (xi_v b0 aS)).reverse ++ rest.map (xi_v b0 aS) := by simp
  rw [hst]
  refine xi_back hR hl hA1 hA2 (va_runS (As := As.map (xi_v b0 aS)) (rest := rest.map (xi_v b0 aS)) ⟨hx, hbb, hml, hown, hts⟩ hM.ret ⟨callB_of As.length hts (xi_goodIn hw5) rfl rfl rfl (hts _ hw4) (hts _ hw1) ⟨hy.1, hy.2, hn⟩ ⟨hfr, hlo⟩, hts _ hw2⟩ ⟨xi_Pc_blind, xi_pre hR hz hK hstr As⟩ rfl (by simp) hl.1 rfl (lv_room (xi_room h8)) hd ⟨by show A.length - n0 + (A'.length - A.length) ≤ R.cells; omega, by show xi_ns A - s0 + (xi_ns A' - xi_ns A) ≤ R.slots; omega⟩) kk T0 hT0 X0
theorem xs_callI (X : xi_X (p, l, e, R, s, m, args, below, meth, c, Q, nL, b0, aS, dA, D, n0, s0) cc own) (hd : decode cc pc = .ok (.invokespecial i, 3))
    (hM : xi_Met l y (.code y cy nY none :: xi_G) { frames := fr', cells := A'.length - A.length, slots := xi_ns A' - xi_ns A, locals := lo' } (xi_Pc b0 aS dA D (.ref b :: As) A) (xi_Qc b0 aS dA D (.returned v) A') (A'.length - A.length) (xi_ns A' - xi_ns A) (fun q => b0 ≤ q))
    (h0 : 0 < A.length) (hA1 : A.length ≤ A'.length) (hA2 : xi_ns A ≤ xi_ns A') (hE1 : A'.length - n0 ≤ R.cells) (hE2 : xi_ns A' - s0 ≤ R.slots) (hfr : fr' + 1 ≤ R.frames) (hlo : 8 + (nY + 11) + lo' ≤ R.locals)
    (hw1 : Cond.methodLink own i y ∈ xi_G ∨ ∃ host, Cond.methodLinkNest own i y host ∈ xi_nest) (hw2 : Cond.instanceMethod y ∈ xi_G) (hw4 : Cond.initialized y.cls ∈ xi_G) (hw5 : Cond.code y cy nY none ∈ xi_G) (hnm : y.name = "<init>")
    (hy : y.cls ≠ "java/lang/invoke/MethodHandle" ∧ y.cls ≠ "java/lang/invoke/VarHandle") (hn : (parseMethodDescriptor y.desc).map (fun d => d.parameters.length) = some As.length) (h8 : (rest.map fun v => v.category).sum ≤ 8)
    (kk : xi_At (p, l, e, R, s, m, args, below, meth, c, Q, nL, b0, aS, dA, D, n0, s0) (pc + 3) lv (v.toList ++ rest) A') :
    xi_At (p, l, e, R, s, m, args, below, meth, c, Q, nL, b0, aS, dA, D, n0, s0) pc lv (As.reverse ++ .ref b :: rest) A := by
  obtain ⟨hx, hbb, hml, hown, hts, hK, hstr⟩ := X
  intro H locs ls hR hl T0 hT0 X0
  have hz := xi_hz h0 hR hT0 X0
  have h1 := hR.2.2.1
  have h2 := hR.2.2.2.1
  have hst : (As.reverse ++ Value.ref b :: rest).map (xi_v b0 aS) = (As.map (xi_v b0 aS)).reverse ++ .ref (b0 + b) :: rest.map (xi_v b0 aS) := by simp [xi_v]
  rw [hst]
  rcases hw1 with hw1 | ⟨host, hw1⟩
  · exact xi_back hR hl hA1 hA2 (va_runI (b := b0 + b) (As := As.map (xi_v b0 aS)) (rest := rest.map (xi_v b0 aS)) ⟨hx, hbb, hml, hown, hts⟩ hM.ret (cwI As.length hts (xi_goodIn hw5) rfl rfl rfl (hts _ hw4) (hts _ hw1) (hts _ hw2) hnm ⟨hy.1, hy.2, hn⟩ ⟨hfr, hlo⟩) ⟨xi_Pc_blind, xi_pre hR hz hK hstr (.ref b :: As)⟩ rfl (by simp) hl.1 rfl (lv_room (xi_room h8)) hd ⟨by show A.length - n0 + (A'.length - A.length) ≤ R.cells; omega, by show xi_ns A - s0 + (xi_ns A' - xi_ns A) ≤ R.slots; omega⟩) kk T0 hT0 X0
  · exact xi_back hR hl hA1 hA2 (va_runIN (b := b0 + b) (As := As.map (xi_v b0 aS)) (rest := rest.map (xi_v b0 aS)) ⟨hx, hbb, hml, hown, hts⟩ hM.ret ⟨va_cnB As.length hts (xi_goodIn hw5) rfl rfl rfl (hstr.2.1 _ hw1) (hts _ hw4) ⟨hy.1, hy.2, hn⟩ ⟨hfr, hlo⟩, hnm, hts _ hw2⟩ ⟨xi_Pc_blind, xi_pre hR hz hK hstr (.ref b :: As)⟩ rfl (by simp) hl.1 rfl (lv_room (xi_room h8)) hd ⟨by show A.length - n0 + (A'.length - A.length) ≤ R.cells; omega, by show xi_ns A - s0 + (xi_ns A' - xi_ns A) ≤ R.slots; omega⟩) kk T0 hT0 X0
theorem xs_obj (X : xi_X (p, l, e, R, s, m, args, below, meth, c, Q, nL, b0, aS, dA, D, n0, s0) cc own) (hd : decode cc pc = .ok (.invokespecial i, 3)) (hw1 : Cond.methodLink own i Lib.objectInit ∈ xi_G) (hw2 : Cond.instanceMethod Lib.objectInit ∈ xi_G) (hw5 : Cond.code Lib.objectInit ⟨#[0xb1]⟩ 1 none ∈ xi_G)
    (hfr : 1 ≤ R.frames) (hlo : 20 ≤ R.locals) (h8 : (rest.map fun v => v.category).sum ≤ 8) (kk : xi_At (p, l, e, R, s, m, args, below, meth, c, Q, nL, b0, aS, dA, D, n0, s0) (pc + 3) lv rest A) :
    xi_At (p, l, e, R, s, m, args, below, meth, c, Q, nL, b0, aS, dA, D, n0, s0) pc lv (.ref b :: rest) A := by
  obtain ⟨hx, hbb, hml, hown, hts, hK, hstr⟩ := X
  intro H locs ls hR hl
  have h9 := xi_room (b0 := b0) (aS := aS) h8
  exact W.objInit (a := b0 + b) (rest := rest.map (xi_v b0 aS)) hx hbb hown (hts _ hw1) (hts _ hw2) (hts _ hw5) rfl (hl.1.trans hml.symm) rfl hd hfr (by show 2 * 0 + _ + 12 ≤ R.locals; omega) (kk H locs ls hR hl)
end XC
end
section
/-! THROWS: 'new X(text)' thrown; a callee's throw that leaves, or is caught -/
section XT
variable {p : Program} {l : Launch} {e : Env} {R : Room} {s : State} {m : MethodId} {args : Array Value} {below : List Frame} {meth : Method} {c : Code} {T : State} {locs : List Loc} {cells slots : Nat}
theorem xi_hears {u U : State} (h : u.vm.Alike U.vm) (hh : u.hears m below = true) : U.hears m below = true := by
  have hc : ∀ x, U.code? x = u.code? x := fun x => by rw [State.code?_eq, State.code?_eq, h.method?]
  cases below with
  | nil => simpa only [State.hears, h.method?] using hh
  | cons f r => cases f <;> simpa only [State.hears, hc, h.method?] using hh
/-- the walk seen as one that begins here -/
theorem xi_rebase (X : Stand p l e R s m args below meth c T locs cells slots) {R' : Room} (hf : R'.frames ≤ R.frames) (hl : R'.locals ≤ R.locals) (hc : cells + R'.cells ≤ R.cells) (hs : slots + R'.slots ≤ R.slots) :
    Stand p l e R' (T.setFrames (.invoking m args :: below)) m args below meth c T [] 0 0 := by
  obtain ⟨g₀, hfr⟩ := X.frames_eq
  have hcur : T.cur < T.threads.size := State.cur_lt_of_frames hfr
  have hF : (T.setFrames (.invoking m args :: below)).frames = .invoking m args :: below := State.frames_setFrames _ hcur
  have h1 := X.room
  have hus := X.used
  have hhs := X.heapSize
  simp only [State.hasRoom, Bool.and_eq_true, decide_eq_true_eq] at h1
  rw [State.localsInUse_invoking X.frames X.method X.code, X.frames] at h1
  have hbook := X.book
  obtain ⟨th, hth, -⟩ := State.frames_cons hfr
  refine ⟨X.admits, X.cas, X.clock, hF, ?_, xi_hears X.warmed.alike X.hears, X.method', X.code, X.here, X.tail, State.WarmedH.refl T, by rw [State.stackLimits_setFrames], by rw [State.stackBytes_setFrames], ?_⟩
  · have e1 : (T.setFrames (.invoking m args :: below)).localsInUse = stackWeight below + vmFrameWords + (c.maxLocals + 11) := State.localsInUse_invoking hF X.method' X.code
    simp only [State.hasRoom, Bool.and_eq_true, decide_eq_true_eq]
    rw [e1, hF, State.stackLimits_setFrames, State.stackBytes_setFrames, X.limits, X.bytes]
    refine ⟨⟨⟨⟨by omega, by omega, by omega, by omega, by omega, h1.1.1.1.2.2.2.2.2⟩, ?_⟩, ?_⟩, hbook⟩
    · show T.heap.size + R'.cells ≤ _
      omega
    · show T.slotsUsed + R'.slots ≤ _
      omega
  · obtain ⟨th2, hth2, -⟩ := State.frames_cons hF
    have h2 := (State.sameButNew.refl (T.setFrames (.invoking m args :: below)) hth2).setFrames T.frames (State.cur_lt_of_frames hF)
    rw [State.setFrames_setFrames, State.setFrames_self hth] at h2
    exact h2
theorem xi_same_unframe {V : State} {L : List Loc} {k n : Nat} {F : List Frame} (h : (T.setFrames F).sameButNew V L k n) : T.sameButNew V L k n := by
  obtain ⟨h1, h2⟩ := h
  rw [State.setFrames_setFrames] at h1
  exact ⟨h1, h2⟩
theorem xi_same_cells {V : State} {k n : Nat} {F : List Frame} (h : (T.setFrames F).sameButNew V [] k n) : ∀ q : Nat, q < T.heap.size → V.heap[q]? = T.heap[q]? := by
  intro q hq
  obtain ⟨cl, hcl⟩ : ∃ cl, T.heap[q]? = some cl := ⟨_, Array.getElem?_eq_getElem hq⟩
  obtain ⟨c', h1, h2, h3, h4⟩ := h.2.2.2.2.2 q cl hcl
  rw [h1, hcl]
  have e1 : c'.slots = cl.slots := Array.ext_getElem? (fun i => h4 i (by simp))
  rw [h2, e1]
end XT
def xi_isr0 : Cond := .isRef (.static "java/lang/Throwable" "UNASSIGNED_STACK" "[Ljava/lang/StackTraceElement;")
def xi_isr1 : Cond := .isRef (.static "java/lang/Throwable" "SUPPRESSED_SENTINEL" "Ljava/util/List;")
def xi_ls0 : Cond := .laysStatic "java/lang/Throwable" "UNASSIGNED_STACK" "[Ljava/lang/StackTraceElement;"
def xi_ls1 : Cond := .laysStatic "java/lang/Throwable" "SUPPRESSED_SENTINEL" "Ljava/util/List;"
def xi_atom (a : Cond) : Bool := ((decide (a ∈ lw_tbl) && goodWord a) || decide (a ∈ xi_nest)) || ((decide (a = xi_isr0) || decide (a = xi_isr1)) || (decide (a = xi_ls0) || decide (a = xi_ls1)))
theorem xi_isRef_of {b0 : Nat} {C n d : String} {args : Array Value} {U : State} (h : va_Zq C n d (fun x => b0 ≤ x) U U.heap) : (Cond.isRef (.static C n d)).before args U = true := by
  rcases h with h | ⟨t, h⟩
  · obtain ⟨cf, kf, fi, f, a, cell, h1, h2, h3, h4, h5, h6, h7, -⟩ := h
    simp [Cond.before, Cond.holds, Cond.value, Term.eval, State.fieldNamed?, h1, h2, h4, h5, h6, h7]
  · obtain ⟨cf, kf, fi, f, a, cell, h1, h2, h3, h4, h5, h6, h7, -⟩ := h
    simp [Cond.before, Cond.holds, Cond.value, Term.eval, State.fieldNamed?, h1, h2, h4, h5, h6, h7]
theorem xi_nest_tab {w : Cond} (h : w ∈ xi_nest) : w.onTables = true := by
  simp only [xi_nest, List.mem_cons, List.not_mem_nil, or_false] at h
  rcases h with rfl | rfl | rfl | rfl | rfl | rfl | rfl | rfl | rfl | rfl | rfl | rfl | rfl | rfl | rfl | rfl <;> rfl
theorem xi_atom_at {b0 : Nat} {aS : Nat → Nat} {args : Array Value} {U : State} {a : Cond} (h : xi_atom a = true) (hts : ∀ w ∈ xi_G, w.before args U = true) (hst : xi_St b0 aS U) : a.before args U = true := by
  simp only [xi_atom, Bool.or_eq_true, Bool.and_eq_true, decide_eq_true_eq] at h
  rcases h with (⟨h1, h2⟩ | h) | (h | h) | h | h
  · exact hts a (List.mem_filter.mpr ⟨h1, h2⟩)
  · exact va_Nw.use (xi_nest_tab h) (hst.2.1 a h)
  · rw [h]
    exact xi_isRef_of (hst.2.2.2 ("java/lang/Throwable", "UNASSIGNED_STACK", "[Ljava/lang/StackTraceElement;") (by simp [xi_stq])).1
  · rw [h]
    exact xi_isRef_of (hst.2.2.2 ("java/lang/Throwable", "SUPPRESSED_SENTINEL", "Ljava/util/List;") (by simp [xi_stq])).1
  · rw [h]
    exact (hst.2.2.2 ("java/lang/Throwable", "UNASSIGNED_STACK", "[Ljava/lang/StackTraceElement;") (by simp [xi_stq])).2
  · rw [h]
    exact (hst.2.2.2 ("java/lang/Throwable", "SUPPRESSED_SENTINEL", "Ljava/util/List;") (by simp [xi_stq])).2
/-! java.util.NoSuchElementException: its own constructor passes the text on by the pool's entry 13 (the library's law for such throws asks entry 7) -/
def xi_NE : String := "java/util/NoSuchElementException"
def xi_nb : ByteArray := ⟨#[0x2a, 0x2b, 0xb7, 0x00, 0x0d, 0xb1]⟩
def xi_nl : List Cond := Bundle.passSAtoms xi_NE "java/lang/RuntimeException" 13 xi_nb ++ Bundle.chainSAtoms "java/lang/RuntimeException" ["java/lang/Exception"]
def xi_nx : List Cond := [.methodLink "CheapPlanner" 175 (Bundle.initS xi_NE), .instantiable xi_NE 6, .selects xi_NE Bundle.tFill0 Bundle.tFill0, .selects xi_NE Bundle.tFill Bundle.tFill, .lays xi_NE Bundle.tN "cause" "Ljava/lang/Throwable;", .lays xi_NE Bundle.tN "stackTrace" Bundle.steD, .lays xi_NE Bundle.tN "suppressedExceptions" Bundle.listD, .lays xi_NE Bundle.tN "detailMessage" "Ljava/lang/String;", .fieldLink Bundle.tN 198 Bundle.tN "backtrace" "Ljava/lang/Object;", .lays Bundle.tN Bundle.tN "backtrace" "Ljava/lang/Object;", .lays xi_NE Bundle.tN "backtrace" "Ljava/lang/Object;", xi_isr0, xi_isr1]
theorem xi_nx_ok : (xi_nx ++ xi_nl ++ Bundle.throwableAtoms ++ Bundle.throwableSAtoms).all xi_atom = true := by decide +kernel
section XNE
variable {p : Program} {l : Launch} {e : Env} {R : Room} {s : State} {m : MethodId} {args : Array Value} {below : List Frame} {meth : Method} {c : Code} {V : State} {cells slots : Nat}
set_option maxHeartbeats 1000000 in
theorem xi_nse (X : Stand p l e R s m args below meth c V [] cells slots) (hexec : p.tables.exec = Jvm.exec) (htr : e.platform.stackTraces = false) (hown : s.vm.findClass "CheapPlanner" = some m.cls) (ha : ∀ a, xi_atom a = true → a.before args s = true)
    {a : Addr} {cX : ClassId} {kX : Class} (hcX : s.vm.findClass xi_NE = some cX) (hkX : s.vm.classes[cX]? = some kX) (hcell : V.heap[a]? = some (freshCell cX kX)) (hnew : s.heap.size ≤ a) {msg : Value} (hmsg : msg.isRef = true)
    {g : JFrame} (hg : g.method = m) (hsize : g.locals.size = c.maxLocals) (hlocked : g.locked = none) (hentered : g.entered = []) {rest : List Value} (hstack : g.stack = msg :: .ref a :: .ref a :: rest)
    (hd6 : decode c.code g.pc = .ok (.invokespecial 175, 3)) (hd9 : decode c.code (g.pc + 3) = .ok (.athrow, 1)) (hout : ∀ x ∈ c.exceptionTable.toList, covers x (g.pc + 3) = false)
    (hRframes : 5 < R.frames) (hRlocals : 2 * g.monitorRoom + ((Value.ref a :: rest).map fun v => v.category).sum + 81 ≤ R.locals) (hlocks : meth.locks = false) :
    ∃ U : State, Steps p.tables e below (V.setTop g) U ∧ U.status = .running ∧ Ended U below (.threw a) ∧ s.WarmedH U.vm ∧ s.sameButNew ({ U with vm := s.vm } : State) [] cells slots ∧ ∃ ce, U.heap[a]? = some ce ∧ s.vm.findClass xi_NE = some ce.cls ∧ ce.vm = .none := by
  have pf := X.admits.platform
  have hpl : e.platform.magicAccessors = ({} : Platform).magicAccessors := by rw [pf]
  have all := List.all_eq_true.mp xi_nx_ok
  have aX : ∀ x ∈ xi_nx, x.before args s = true := fun x hx => ha x (all x (by simp [hx]))
  have aL : ∀ x ∈ xi_nl, x.before args s = true := fun x hx => ha x (all x (by simp [hx]))
  obtain ⟨T, Z0, L, -, Y⟩ := ThrowableC.of_atoms (args := args) (by rw [pf]) (by rw [pf]) hpl (fun x hx => ha x (all x (by simp [hx])))
  obtain ⟨Z, M, LZ, LM, hZ⟩ := Init0T.ofS_atoms (args := args) hpl L Y (fun x hx => ha x (all x (by simp [hx])))
  obtain ⟨P, LP, hPm, hPs⟩ := PassC.ofS_atoms (args := args) (s := s) hpl (X := xi_NE) (Y := "java/lang/RuntimeException") (index := 13) (bytes := xi_nb) (by decide) (by decide) (by decide +kernel) (by decide +kernel) (by decide +kernel) (by decide +kernel) (fun x hx => aL x (List.mem_append.mpr (Or.inl hx)))
  obtain ⟨P1, Ps, hlen, L1, hL, hP1m, hk1, hk2⟩ := Bundle.chainS (args := args) hpl hZ ["java/lang/Exception"] "java/lang/RuntimeException" (by decide) (by decide) (fun x hx => aL x (List.mem_append.mpr (Or.inr hx)))
  have hcl : s.vm.findClass xi_NE = some P.m.cls := findClass_of_methodNamed hPm
  cases hcX.symm.trans hcl
  obtain ⟨c1, k1, q1, hk, hord, -⟩ := Cond.instantiable_spec (aX (.instantiable xi_NE 6) (by simp [xi_nx]))
  cases q1.symm.trans hcl
  cases hkX.symm.trans hk
  have sel : ∀ (f : MethodName) (mf : MethodId), (Cond.selects xi_NE f f).before args s = true → s.methodNamed? f = some mf → (f.cls ≠ "java/lang/invoke/MethodHandle" ∧ f.cls ≠ "java/lang/invoke/VarHandle") → selectMethod e.platform s.vm P.m.cls mf = .method mf := by
    intro f mf h1 h2 h3
    obtain ⟨c2, r2, m2, g1, g2, g3, g4, -⟩ := Cond.selects_spec h1
    cases g1.symm.trans hcl
    cases g2.symm.trans (State.methodFound?_of_named h2 h3)
    cases g3.symm.trans h2
    rw [Launch.admits_selectMethod X.admits]
    exact g4
  obtain ⟨cS, hcS, hiS⟩ := Y.statics
  obtain ⟨u0, hu0⟩ := Cond.staticRefV Y.unassigned L.unassignedStatic L.statics hcS hiS (aX xi_isr0 (by simp [xi_nx]))
  obtain ⟨sen, hsen⟩ := Cond.staticRefV Y.sentinel L.sentinelStatic L.statics hcS hiS (aX xi_isr1 (by simp [xi_nx]))
  obtain ⟨cB, iB, fB, b1, b2, b3, b4, -, b5, b6, b7⟩ := Cond.ownField (t := .object "java/lang/Object") Y.found L.cls (by decide +kernel) (aX (.fieldLink Bundle.tN 198 Bundle.tN "backtrace" "Ljava/lang/Object;") (by simp [xi_nx])) (aX (.lays Bundle.tN Bundle.tN "backtrace" "Ljava/lang/Object;") (by simp [xi_nx])) e.platform hpl
  obtain ⟨cS', hcS', heS, -, hsame⟩ := X.same.2.2.2.2.2 T.aS cS hcS
  have hVS : V.heap[T.aS]? = some cS' := hcS'
  have hkn : cS'.vm ≠ .unknown := by
    rw [heS]
    intro h9
    have h8 : cS.vm = .unknown := h9
    rw [h8] at hiS
    cases hiS
  have hne : T.aS ≠ a := Nat.ne_of_lt (Nat.lt_of_lt_of_le (Array.getElem?_eq_some_iff.mp hcS).1 hnew)
  obtain ⟨iM, hfM⟩ := Y.msg
  obtain ⟨t1, d1, e1, f1⟩ := Cond.laysAt hcl hk Y.cause (aX (.lays xi_NE Bundle.tN "cause" "Ljava/lang/Throwable;") (by simp [xi_nx]))
  obtain ⟨t2, d2, e2, f2⟩ := Cond.laysAt hcl hk Y.stack (aX (.lays xi_NE Bundle.tN "stackTrace" Bundle.steD) (by simp [xi_nx]))
  obtain ⟨t3, d3, e3, f3⟩ := Cond.laysAt hcl hk Y.supp (aX (.lays xi_NE Bundle.tN "suppressedExceptions" Bundle.listD) (by simp [xi_nx]))
  obtain ⟨t4, d4, e4, f4⟩ := Cond.laysAt hcl hk hfM (aX (.lays xi_NE Bundle.tN "detailMessage" "Ljava/lang/String;") (by simp [xi_nx]))
  obtain ⟨t5, d5, e5, f5⟩ := Cond.laysAt hcl hk b7 (aX (.lays xi_NE Bundle.tN "backtrace" "Ljava/lang/Object;") (by simp [xi_nx]))
  have n1 := Cond.laysApart e5 e1 f5 f1 (by rw [b5, Y.causeName]; decide)
  have n2 := Cond.laysApart e5 e2 f5 f2 (by rw [b5, Y.stackName]; decide)
  have n3 := Cond.laysApart e5 e3 f5 f3 (by rw [b5, Y.suppName]; decide)
  have hskip : SkipFacts T e.platform s (fun u => u) u0 ((preparedCellV T.toThrowableT (freshCell P.m.cls kX) a u0 sen).withEntry V.cur) := by
    refine ⟨{ ci198 := cB, i198 := iB, fBack := fB }, ⟨b1, b2, b3, b4⟩, ?_, fun _ _ => rfl⟩
    have h9 := fresh_default (c := P.m.cls) t5
    rw [b6] at h9
    simpa [preparedCellV, Cell.setSlot, Cell.withEntry, Array.getElem?_setIfInBounds, n1, n2, n3, n1.symm, n2.symm, n3.symm, defaultValue] using h9
  obtain ⟨tm, mC, cC, kC, vm₁, hnC, -, -, -, -, -, -, -, hW₁, st1⟩ := Steps.initColdS (tb := p.tables) (e := e) (below := below) (s := s) (U := V) X.here hexec X.warmed hpl hown (t := Bundle.initS xi_NE) rfl rfl (by decide)
    (aX (.methodLink "CheapPlanner" 175 (Bundle.initS xi_NE)) (by simp [xi_nx])) (aL (.instanceMethod (Bundle.initS xi_NE)) (by simp [xi_nl, Bundle.passSAtoms])) (bytes := xi_nb) (maxL := 2) (aL (.code (Bundle.initS xi_NE) xi_nb 2 none) (by simp [xi_nl, Bundle.passSAtoms]))
    (f := g) hg (a := a) (msg := msg) (rest := .ref a :: rest) hstack hd6
  cases hnC.symm.trans hPm
  obtain ⟨vm₂, X₂, st2⟩ := (X.noted hW₁).ctorMessageOffV hexec (g := { g with stack := .ref a :: rest }) hg hsize T L Z LZ M LM (P :: P1 :: Ps)
    (fun Q hQ => by
      rcases List.mem_cons.mp hQ with rfl | hQ
      · exact LP
      · rcases List.mem_cons.mp hQ with rfl | hQ
        · exact L1
        · exact hL Q hQ)
    ⟨Option.some.inj (hPs.symm.trans hP1m), hk1, hk2⟩ (u0 := u0) (sen := sen) (self := a) hmsg (cell := freshCell P.m.cls kX) (cellS := cS') hcell (fun _ => by simp) (by simp) rfl rfl
    (sel Bundle.tFill0 T.fill0 (aX _ (by simp [xi_nx])) Y.fill0 (by decide)) (sel Bundle.tFill T.fill (aX _ (by simp [xi_nx])) Y.fill (by decide)) hVS hne hkn (by rw [hsame _ (by simp)]; exact hu0) (by rw [hsame _ (by simp)]; exact hsen)
    (Takes.of_laid hk hord t1 (by rw [Y.causeType]; rfl)) (Takes.of_laid hk hord t2 (by rw [Y.stackType]; exact fits_refV_array _ u0)) (Takes.of_laid hk hord t3 (by rw [Y.suppType]; exact fits_refV_object _ sen)) (Takes.of_laid hk hord t4 (by rw [Y.msgType]; exact fits_refV_object _ ⟨msg, hmsg⟩)) Y.objLocals hskip htr [] hd6
    (by simp only [List.length_cons, hlen, List.length_nil]; omega) (by simp only [List.length_cons, hlen, List.length_nil]; exact hRlocals)
  obtain ⟨hwalk, hrun, hended, hWU, hs2⟩ := X₂.athrowLeaves hexec (g := { g with stack := .ref a :: rest, pc := g.pc + 3 }) hg hlocked hentered hout (a := a) (rest := rest) rfl hd9
  have hlt : a < ((V.setVm vm₁).setVm vm₂).heap.size := (Array.getElem?_eq_some_iff.mp hcell).1
  have hU := heapAt_setCell_self (s := (V.setVm vm₁).setVm vm₂) (plainBareV T.toThrowableT (freshCell P.m.cls kX) a u0 sen msg) hlt
  refine ⟨_, st1 _ (fun acts => by rw [doInvoke_state]; exact st2 _ hwalk), hrun, hended, hWU, hs2.weaken (fun y hy hy2 => ?_) (Nat.le_refl _) (Nat.le_refl _), _, hU, hcl, rfl⟩
  exfalso
  have hb : y.base = a := by
    simp only [List.nil_append, List.mem_cons, List.not_mem_nil, or_false] at hy
    rcases hy with rfl | rfl | rfl | rfl | rfl <;> rfl
  rw [hb] at hy2
  exact Nat.not_lt.mpr hnew hy2
end XNE
section XT2
variable {p : Program} {l : Launch} {e : Env} {R : Room} {s : State} {m : MethodId} {args : Array Value} {below : List Frame} {meth : Method} {c : Code} {nL b0 : Nat} {aS : Nat → Nat} {dA : Nat → ClassId} {D : va_G} {n0 s0 : Nat}
variable {A : xi_H} {cc : ByteArray} {own : String} {pc : Nat} {lv : xi_L}
set_option maxHeartbeats 1000000 in
theorem xs_throw {Q : State → Prop} {ci j i i1 i2 : Nat} {Xn tx : String} {T : u_T} {st : List Value} {mc ms : Nat} (X : xi_X (p, l, e, R, s, m, args, below, meth, c, Q, nL, b0, aS, dA, D, n0, s0) cc own) (h0 : 0 < A.length) (htr : e.platform.stackTraces = false) (hlocks : meth.locks = false) (hout : ∀ x ∈ c.exceptionTable.toList, covers x (pc + 9) = false)
    (hd0 : decode cc pc = .ok (.new i, 3)) (hd3 : decode cc (pc + 3) = .ok (.dup, 1)) (hd4 : decode cc (pc + 4) = .ok (.ldc i1, 2)) (hd6 : decode cc (pc + 6) = .ok (.invokespecial i2, 3)) (hd9 : decode cc (pc + 9) = .ok (.athrow, 1))
    (hc : xi_cl[ci]? = some (Xn, T, 0)) (hw1 : Cond.classLink own i Xn ∈ xi_G) (hw2 : Cond.instantiable Xn 6 ∈ xi_G) (hw3 : Cond.initialized Xn ∈ xi_G) (hj : xi_str[j]? = some (own, i1, tx)) (hfit : Bundle.fit Xn = true)
    (hat : (∀ a ∈ Bundle.ownAtoms own i2 Xn ["java/lang/RuntimeException", "java/lang/Exception"], xi_atom a = true) ∨ (own = "CheapPlanner" ∧ Xn = xi_NE ∧ i2 = 175))
    (hE1 : (A ++ [(.inr (ci, List.replicate 6 .null) : xi_E)]).length - n0 ≤ R.cells) (hE2 : xi_ns (A ++ [(.inr (ci, List.replicate 6 .null) : xi_E)]) - s0 ≤ R.slots) (hfr : 6 ≤ R.frames) (hlo : 100 ≤ R.locals) (h8 : (st.map fun v => v.category).sum ≤ 8)
    (hQ : ∀ t, xi_MQ below (xi_Qc b0 aS dA D (.threw A.length) (A ++ [.inr (ci, List.replicate 6 .null)])) args s ((A ++ [(.inr (ci, List.replicate 6 .null) : xi_E)]).length - n0) (xi_ns (A ++ [(.inr (ci, List.replicate 6 .null) : xi_E)]) - s0) (fun q => b0 ≤ q) t → Q t) :
    xi_At (p, l, e, R, s, m, args, below, meth, c, Q, nL, b0, aS, dA, D, n0, s0) pc lv st A := by
  obtain ⟨hx, hbb, hml, hown, hts, hK, hstr⟩ := X
  intro H locs ls hR hl T0 hT0 X0
  have hz := xi_hz h0 hR hT0 X0
  have h1 := hR.2.2.1
  have h2 := hR.2.2.2.1
  have hn6 : xi_n (.inr (ci, List.replicate 6 .null)) = 6 := rfl
  rw [xi_ns_push, hn6] at hE2 hQ
  simp only [List.length_append, List.length_singleton] at hE1 hQ
  generalize hs' : T0.setFrames (.invoking m args :: below) = s' 
  have X1 : Stand p l e { frames := 6, cells := 1, slots := 6, locals := 100 } s' m args below meth c T0 [] 0 0 := by
    rw [← hs']
    exact xi_rebase X0 hfr hlo (by show A.length - n0 + 1 ≤ R.cells; omega) (by show xi_ns A - s0 + 6 ≤ R.slots; omega)
  have hvm' : s'.vm = T0.vm := by rw [← hs']; rfl
  have hhp' : s'.heap = T0.heap := by rw [← hs']; rfl
  have hW0 : s.WarmedH s'.vm := by rw [hvm']; exact X0.warmed
  have hts' : ∀ w ∈ xi_G, w.before args s' = true := fun w hw => word_at hW0 (xi_good hw) (hts w hw)
  have hst' : xi_St b0 aS s' := hstr.warm hW0 (fun q hq => by rw [hhp', hT0]; exact xi_old hR q hq)
  have hown' : s'.vm.findClass own = some m.cls := by rw [hW0.alike.findClass]; exact hown
  have hcls := (hK.1 ci _ hc).2.1
  have hcls' : s'.vm.findClass Xn = some (D.1 ci) := by rw [hW0.alike.findClass]; exact hcls
  have key : W p l e { frames := 6, cells := 1, slots := 6, locals := 100 } s' m args below meth c H [] 0 0 (fun U => U.status = .running ∧ Ended U below (.threw H.size) ∧ s'.WarmedH U.vm ∧ s'.sameButNew ({ U with vm := s'.vm } : State) [] 1 6 ∧ ∃ ce, U.heap[H.size]? = some ce ∧ s'.vm.findClass Xn = some ce.cls ∧ ce.vm = .none) (F0 m pc ls (st.map (xi_v b0 aS))) := by
    refine W.newcK (n := 6) hx hbb hown' (hts' _ hw1) (hts' _ hw2) (hts' _ hw3) rfl hd0 (Nat.le_refl 1) (Nat.le_refl 6) hcls' rfl (fun H1 kC hkC e1 z1 o1 => ?_)
    refine lv_dup hx hbb hd3 rfl ?_
    refine va_ldcS hx hbb hown' (hst'.1 j _ hj) hd4 ?_
    intro T1 hT1 X2
    rcases hat with hat | hat
    · obtain ⟨U, u1, u2, u3, u4, u5, ce, u6, u7⟩ := X2.ctorThrowS hx htr (own := own) (cls := Xn) (names := ["java/lang/RuntimeException", "java/lang/Exception"]) (ic := i2) hown' hfit (by decide) (fun a ha => xi_atom_at (hat a ha) hts' hst') (fun x hx => by cases hx) (a := H.size) hcls' hkC (by rw [hT1]; exact e1) (by rw [hhp', hT0]; exact Nat.le_refl _) (msg := .ref (aS j)) rfl (g := F0 m (pc + 6) ls (.ref (aS j) :: .ref H.size :: .ref H.size :: st.map (xi_v b0 aS))) rfl (hl.1.trans hml.symm) rfl rfl (rest := st.map (xi_v b0 aS)) rfl (by rw [hbb]; exact hd6) (by rw [hbb]; exact hd9) hout (by decide) (by
          have h9 := xi_room (b0 := b0) (aS := aS) h8
          show 2 * 0 + ((Value.ref H.size :: st.map (xi_v b0 aS)).map fun v => v.category).sum + _ ≤ 100
          simp only [List.map_cons, List.sum_cons, List.length_cons, List.length_nil, Value.category] at h9 ⊢
          omega) hlocks
      exact ⟨U, u1, u2, u3, u4, u5, ce, u6, u7.cls, u7.vm⟩
    · obtain ⟨rfl, rfl, rfl⟩ := hat
      exact xi_nse X2 hx htr hown' (fun a ha => xi_atom_at ha hts' hst') (a := H.size) hcls' hkC (by rw [hT1]; exact e1) (by rw [hhp', hT0]; exact Nat.le_refl _) (msg := .ref (aS j)) rfl (g := F0 m (pc + 6) ls (.ref (aS j) :: .ref H.size :: .ref H.size :: st.map (xi_v b0 aS))) rfl (hl.1.trans hml.symm) rfl rfl (rest := st.map (xi_v b0 aS)) rfl (by rw [hbb]; exact hd6) (by rw [hbb]; exact hd9) hout (show 5 < 6 by decide) (by
          have h9 := xi_room (b0 := b0) (aS := aS) h8
          show 2 * 0 + ((Value.ref H.size :: st.map (xi_v b0 aS)).map fun v => v.category).sum + 81 ≤ 100
          simp only [List.map_cons, List.sum_cons, Value.category] at h9 ⊢
          omega) hlocks
  obtain ⟨U, u1, u2, u3, u4, u5, ce, u6, u7, u8⟩ := key T0 hT0 X1
  refine ⟨U, u1, hQ U ⟨.threw H.size, u2, u3, ?_, ?_⟩⟩
  · have hold : ∀ q : Nat, q < H.size → U.heap[q]? = H[q]? := by
      intro q hq
      have h3 := xi_same_cells (T := T0) (F := .invoking m args :: below) (V := ({ U with vm := s'.vm } : State)) (k := 1) (n := 6) (by rw [hs']; exact u5) q (by rw [hT0]; exact hq)
      rw [hT0] at h3
      exact h3
    refine ⟨by rw [hz]; rfl, ?_, ?_, ?_⟩
    · intro k q hk
      rw [← xi_w_push] at hk
      by_cases hlt : k < A.length
      · rw [List.getElem?_append_left (by rw [xi_w_len]; exact hlt)] at hk
        have h3 := hR.1 k q hk
        exact h3.kept (hold q.1 h3.lt)
      · rw [List.getElem?_append_right (by rw [xi_w_len]; omega)] at hk
        have hz0 : k - (xi_w b0 aS dA A).length < 1 := (List.getElem?_eq_some_iff.mp hk).1
        rw [show k - (xi_w b0 aS dA A).length = 0 by omega] at hk
        cases hk
        refine ⟨_, hc, ce, by rw [← hz]; exact u6, ?_, u8, fun k hk => absurd hk (Nat.not_lt_zero k)⟩
        exact Option.some.inj (u7.symm.trans hcls')
    · have h3 : s'.heap.size ≤ U.heap.size := u5.2.1
      rw [hhp', hT0] at h3
      exact Nat.le_trans hR.2.1.1 h3
    · intro q hq1 hq2
      have hq3 : q < H.size := Nat.lt_of_lt_of_le hq1 hR.2.1.1
      rw [hold q hq3]
      exact hR.2.1.2.1 q hq1 hq2
  · have h3 := X0.same.trans ((xi_same_unframe (T := T0) (F := .invoking m args :: below) (V := ({ U with vm := s'.vm } : State)) (by rw [hs']; exact u5)).setVm s.vm)
    refine ⟨locs ++ [], ⟨State.WarmedH.trans hW0 u4, ?_⟩, fun q hq => hR.2.1.2.2 q (by simpa using hq)⟩
    rw [show A.length + 1 - n0 = A.length - n0 + 1 by omega, show xi_ns A + 6 - s0 = xi_ns A - s0 + 6 by omega]
    exact h3
end XT2
end
section
/-! A CALLEE's THROW -/
section XU
variable {p : Program} {l : Launch} {e : Env} {R : Room} {s : State} {m : MethodId} {args : Array Value} {below : List Frame} {meth : Method} {c : Code} {T : State} {locs : List Loc} {cells slots : Nat}
theorem xi_callT (X : Stand p l e R s m args below meth c T locs cells slots) (hexec : p.tables.exec = Jvm.exec) {own : String} {i : Nat} {y : MethodName} {cy : ByteArray} {nY : Nat} {ret : Option FieldType} {ws : List Cond} {rm : Room} {Pc : Array Value → State → Prop} {Qc : Array Value → State → Outcome → State → Prop} {mc ms : Nat} {free : Addr → Prop}
    (hown : s.vm.findClass own = some m.cls) (hlink : (Cond.methodLink own i y).before args s = true) (hinst : (Cond.instanceMethod y).before args s = true) (hsel : (Cond.selects y.cls y y).before args s = true) (hini : (Cond.initialized y.cls).before args s = true) (hcode : (Cond.code y cy nY ret).before args s = true) (hy : y.cls ≠ "java/lang/invoke/MethodHandle" ∧ y.cls ≠ "java/lang/invoke/VarHandle")
    (hM : xi_Met l y ws rm Pc Qc mc ms free) (hthr : ∀ a st o t, Qc a st o t → ∃ x, o = .threw x) (hblind : FrameBlind Pc) (hws : ∀ w ∈ ws, ∀ (a' : Array Value) (U : State), s.WarmedH U.vm → w.before a' U = true)
    (hframes : rm.frames + 1 ≤ R.frames) (hlocals : 8 + (nY + 11) + rm.locals ≤ R.locals) (hcells : cells + rm.cells ≤ R.cells) (hslots : slots + rm.slots ≤ R.slots)
    {b : Addr} {cellB : Cell} (hcell : T.heap[b]? = some cellB) (hobj : cellB.vm.isStatics = false) (hcls : s.vm.findClass y.cls = some cellB.cls)
    {g : JFrame} (hg : g.method = m) (hsize : g.locals.size = c.maxLocals) {argsL rest : List Value} (hlen : ∀ sig, parseMethodDescriptor y.desc = some sig → argsL.length = sig.parameters.length)
    (hstack : g.stack = argsL.reverse ++ .ref b :: rest) (hW : 2 * g.monitorRoom + (rest.map fun v => v.category).sum ≤ 8) (hdg : decode c.code g.pc = .ok (.invokevirtual i, 3))
    (hpre : ∀ vm₁, s.WarmedH vm₁ → Pc (Value.ref b :: argsL).toArray (T.setVm vm₁)) :
    ∃ (x : Addr) (st₀ t T' : State) (L : List Loc), st₀.heap = T.heap ∧ Stand p l e R s m args below meth c T' (locs ++ L) (cells + mc) (slots + ms) ∧ (∀ q ∈ L, free q.base) ∧ T'.heap = t.heap ∧ Qc (Value.ref b :: argsL).toArray st₀ (.threw x) t ∧
      ∀ target, Steps p.tables e below ((T'.setTop { g with stack := rest }).pushFrame (.throwing x)) target → Steps p.tables e below (T.setTop g) target := by
  obtain ⟨mk, methM, hnamed, hmethM, hstM, habM⟩ := Cond.instanceMethod_spec hinst
  obtain ⟨methM', cM, hmethM', hcM, -, hlM, -, -, -, hsigM⟩ := Cond.code_spec hnamed hcode
  cases hmethM.symm.trans hmethM'
  obtain ⟨c2, r2, m2, q1, q2, q3, q4, kP, hkP, hkPi⟩ := Cond.selects_spec hsel
  cases hcls.symm.trans q1
  cases (State.methodFound?_of_named hnamed hy).symm.trans q2
  cases hnamed.symm.trans q3
  have hselP : selectMethod e.platform s.vm cellB.cls mk = .method mk := by rw [Launch.admits_selectMethod X.admits]; exact q4
  obtain ⟨vm₁, X₁, hstep₁⟩ := X.invokevirtual hexec hown hlink hnamed hmethM hstM hkP hkPi hy (a := b) (cell := cellB) hcell
    (fun z h => by rw [h] at hobj; cases hobj) hselP hmethM habM hkP hkPi (g := g) hg (argsL := argsL) (rest := rest) (hlen _ hsigM) hstack hdg
  have hn₁ : (T.setVm vm₁).methodNamed? y = some mk := X₁.named hnamed
  have hW₁ : s.WarmedH vm₁ := X₁.warmed
  obtain ⟨kY, hkY, -⟩ := className_of_methodNamed hn₁
  have hini₁ : (Cond.initialized y.cls).before (Value.ref b :: argsL).toArray (T.setVm vm₁) = true := word_at hW₁ (Or.inl rfl) hini
  have hinitY : kY.init = .initialized := Cond.initialized_spec (findClass_of_methodNamed hn₁) hkY hini₁
  have h : At (T.setVm vm₁) g.method c below := by rw [hg]; exact X₁.here
  have hmM : (T.setVm vm₁).vm.method? mk = some methM := by
    show vm₁.method? mk = _
    rw [hW₁.alike.method?]; exact hmethM
  have happ : (headSpec ws rm).appliesLoose y e.platform ((T.setVm vm₁).calling { g with stack := rest } mk (Value.ref b :: argsL).toArray) = true :=
    Spec.appliesLoose_calling (g := { g with stack := rest }) h hdg hn₁ hkY hinitY
      (X₁.room_calling (g := { g with stack := rest }) (R' := rm) hsize hmM hcM hframes (by rw [hlM]; show 2 * g.monitorRoom + (rest.map fun v => v.category).sum + (nY + 11) + rm.locals ≤ R.locals; omega) hcells hslots) (atoms_intro fun w hw => hws w hw _ _ hW₁)
  obtain ⟨mid, hmid⟩ := h.above
  have hfr : ((T.setVm vm₁).setTop { g with stack := rest }).frames = (.java { g with stack := rest } :: mid) ++ below := by rw [State.frames_setTop' { g with stack := rest } h.top, hmid]; rfl
  obtain ⟨o, s₂, hsteps, -, hend, hq⟩ := Steps.callFree hM p X.admits X.cas X.clock (acts := []) hfr happ (hblind _ _ _ _ (hpre vm₁ hW₁)) trivial
  rw [State.frames_setTop' { g with stack := rest } h.top, X₁.tail] at hend
  obtain ⟨hQ, L, ⟨hWL, hsame⟩, hL⟩ := hq
  obtain ⟨x, rfl⟩ := hthr _ _ _ _ hQ
  obtain ⟨T', X', -, -, ht⟩ := X₁.outOfThrown (g := { g with stack := rest }) hg hend hWL hsame
  refine ⟨x, (T.setVm vm₁).calling { g with stack := rest } mk (Value.ref b :: argsL).toArray, s₂, T', L, rfl, X', hL, ?_, hQ, fun target hrest => hstep₁ _ fun acts => ?_⟩
  · rw [ht, Stand.throwing_heap]
  · rw [doInvoke_state]
    refine Steps.trans hsteps ?_
    rw [ht]
    exact hrest
/-- what a search through a table that begins with a row for the thrown object's class gives, the row's class resolved or not -/
theorem xi_catch (X : Stand p l e R s m args below meth c T locs cells slots) (a : Addr) {g : JFrame} (hg : g.method = m) {own name : String} (hown : s.vm.findClass own = some m.cls) {x : ExceptionTableEntry} {rest : List ExceptionTableEntry} (hsplit : c.exceptionTable.toList = x :: rest) (hx : covers x g.pc = true) (h0 : x.catchType ≠ 0)
    (hlink : (Cond.classLink own x.catchType name).before args s = true) {cT : ClassId} {cell : Cell} (hcT : s.vm.findClass name = some cT) (hcell : T.heap[a]? = some cell) (hobj : ∀ k, cell.vm ≠ .statics k) (hfit : s.vm.assignable cell.cls cT = true) (hkc : ∃ k, s.vm.classes[cell.cls]? = some k) :
    ∃ vm', Stand p l e R s m args below meth c (T.setVm vm') locs cells slots ∧
      ∀ target, Steps p.tables e below ((T.setVm vm').setTop { g with pc := x.handlerPc, stack := [.ref a] }) target → Steps p.tables e below ((T.setTop g).pushFrame (.throwing a)) target := by
  subst hg
  have hpl : e.platform.magicAccessors = ({} : Platform).magicAccessors := by rw [X.admits.platform]
  obtain ⟨c', hc', hcl⟩ := Cond.classLink_spec hown hlink e.platform hpl
  cases hcT.symm.trans hc'
  obtain ⟨dk, _, _, kt, hd, _, _, _, _, hkt, _, hopen⟩ := hcl.here
  have hal := X.warmed.alike
  obtain ⟨k1, hk1⟩ := hkc
  obtain ⟨k1', hk1', -⟩ := hal.2.2 _ _ hk1
  obtain ⟨kt', hkt', -⟩ := hal.2.2 _ _ hkt
  have hal2 : T.vm.Alike (T.vm.noted g.method.cls x.catchType (.cls cT)) := (Vm.Alike.refl T.vm).noted _ _ _
  obtain ⟨k2, hk2, -⟩ := hal2.2.2 _ _ hk1'
  obtain ⟨kt2, hkt2, -⟩ := hal2.2.2 _ _ hkt'
  have hfit2 : (T.vm.noted g.method.cls x.catchType (.cls cT)).assignable cell.cls cT = true := by rw [hal2.assignable, hal.assignable]; exact hfit
  refine ⟨T.vm.noted g.method.cls x.catchType (.cls cT), X.noted (X.warmed.noted hd hopen (State.rightAt_cls hcl)), fun target hrest => ?_⟩
  obtain ⟨ha, ht⟩ := (resolveClass_links e.toSetting (X.warmed.classLinks hcl)).op (op := VmOp.resolveClass g.method.cls x.catchType) rfl
  simp only [covers] at hx
  have hfind : ∀ (Q : Handler → Pre) (E : CtlPost) (d : Bool) (acts : List Action), wp (findHandler g a) Q E e d acts ((T.setTop g).pushFrame (.throwing a)) ↔ Q (.found x.handlerPc) d acts (((T.setTop g).pushFrame (.throwing a)).setVm (T.vm.noted g.method.cls x.catchType (.cls cT))) := by
    intro Q E d acts
    rw [W.findHandler_eq (meth := meth) (code := c) (by rw [Stand.throwing_vm]; exact X.method') X.code, hsplit]
    simp [findHandler.go, hx, h0, Stand.throwing_vm, Stand.throwing_heap, ha, ht, hcell, hobj, hk2, hkt2, hfit2, VmOp.dirties, VmOp.acts]
  obtain ⟨hgo, hw⟩ := X.here.throwing a
  refine Steps.head hgo hw ?_
  have hstep : (stepThrowing e ((T.setTop g).pushFrame (.throwing a)) a (.java g :: T.frames.tail)).1 = (((T.setTop g).pushFrame (.throwing a)).setVm (T.vm.noted g.method.cls x.catchType (.cls cT))).setFrames (.java { g with pc := x.handlerPc, stack := [.ref a] } :: T.frames.tail) := by
    simp only [stepThrowing, searchFrame, vmDo]
    generalize hr : Sem.go _ e false [] _ = res
    obtain ⟨as, rfl, -⟩ := Sem.eq_ok_of hr (a := Handler.found x.handlerPc) (s' := ((T.setTop g).pushFrame (.throwing a)).setVm (T.vm.noted g.method.cls x.catchType (.cls cT))) (acts' := []) (by simp [hfind _ _ _ _])
    rfl
  rw [stepThread_throwing (frames_entered X.here.top _), hstep]
  obtain ⟨g₀, hr⟩ := X.frames_eq
  have hr' : (T.setVm (T.vm.noted g.method.cls x.catchType (.cls cT))).frames = .java g₀ :: below := hr
  rw [State.setTop_of_frames _ hr'] at hrest
  have e1 : ∀ F G : List Frame, ((T.setFrames F).setVm (T.vm.noted g.method.cls x.catchType (.cls cT))).setFrames G = (T.setVm (T.vm.noted g.method.cls x.catchType (.cls cT))).setFrames G := fun F G => by
    have h1 : (T.setFrames F).setVm (T.vm.noted g.method.cls x.catchType (.cls cT)) = (T.setVm (T.vm.noted g.method.cls x.catchType (.cls cT))).setFrames F := rfl
    rw [h1, State.setFrames_setFrames]
  rw [State.pushFrame, State.setTop_of_frames _ hr, State.setFrames_setFrames, e1, hr]
  exact hrest
end XU
section XV
variable {p : Program} {l : Launch} {e : Env} {R : Room} {s : State} {m : MethodId} {args : Array Value} {below : List Frame} {meth : Method} {c : Code} {Q : State → Prop} {nL b0 : Nat} {aS : Nat → Nat} {dA : Nat → ClassId} {D : va_G} {n0 s0 : Nat}
variable {A A' : xi_H} {cc : ByteArray} {own : String} {pc i : Nat} {lv : xi_L} {y : MethodName} {cy : ByteArray} {nY : Nat} {ret : Option FieldType} {fr' lo' : Nat} {As rest : List Value} {b k : Nat}
/-- the state in which a callee's throw arrives -/
theorem xi_thrown {ci : Nat} {fs : List Value} {T : u_T} {N : Nat} (X : xi_X (p, l, e, R, s, m, args, below, meth, c, Q, nL, b0, aS, dA, D, n0, s0) cc own) (hd : decode cc pc = .ok (.invokevirtual i, 3))
    (hM : xi_Met l y (.code y cy nY ret :: xi_G) { frames := fr', cells := A'.length - A.length, slots := xi_ns A' - xi_ns A, locals := lo' } (xi_Pc b0 aS dA D (.ref b :: As) A) (xi_Qc b0 aS dA D (.threw k) A') (A'.length - A.length) (xi_ns A' - xi_ns A) (fun q => b0 ≤ q))
    (h0 : 0 < A.length) (hA1 : A.length ≤ A'.length) (hA2 : xi_ns A ≤ xi_ns A') (hE1 : A'.length - n0 ≤ R.cells) (hE2 : xi_ns A' - s0 ≤ R.slots) (hfr : fr' + 1 ≤ R.frames) (hlo : 8 + (nY + 11) + lo' ≤ R.locals)
    (hw1 : Cond.methodLink own i y ∈ xi_G) (hw2 : Cond.instanceMethod y ∈ xi_G) (hw3 : Cond.selects y.cls y y ∈ xi_G) (hw4 : Cond.initialized y.cls ∈ xi_G) (hw5 : Cond.code y cy nY ret ∈ xi_G)
    (hy : y.cls ≠ "java/lang/invoke/MethodHandle" ∧ y.cls ≠ "java/lang/invoke/VarHandle") (hn : (parseMethodDescriptor y.desc).map (fun d => d.parameters.length) = some As.length)
    (hb : A[b]? = some (.inr (ci, fs))) (hc : xi_cl[ci]? = some (y.cls, T, N)) (h8 : (rest.map fun v => v.category).sum ≤ 8)
    {H : Heap} {locs : List Loc} {ls : Array Slot} (hR : xi_R b0 aS dA D n0 s0 s.heap A H locs) (hl : lv_has ls nL (xi_l b0 aS lv)) {T0 : State} (hT0 : T0.heap = H) (X0 : Stand p l e R s m args below meth c T0 locs (A.length - n0) (xi_ns A - s0)) :
    ∃ (T' : State) (L : List Loc), Stand p l e R s m args below meth c T' (locs ++ L) (A'.length - n0) (xi_ns A' - s0) ∧ xi_R b0 aS dA D n0 s0 s.heap A' T'.heap (locs ++ L) ∧
      ∀ target, Steps p.tables e below ((T'.setTop (F0 m pc ls (rest.map (xi_v b0 aS)))).pushFrame (.throwing (b0 + k))) target → Steps p.tables e below (T0.setTop (F0 m pc ls ((As.reverse ++ Value.ref b :: rest).map (xi_v b0 aS)))) target := by
  obtain ⟨hx, hbb, hml, hown, hts, hK, hstr⟩ := X
  have hz := xi_hz h0 hR hT0 X0
  have h1 := hR.2.2.1
  have h2 := hR.2.2.2.1
  have hst : (As.reverse ++ Value.ref b :: rest).map (xi_v b0 aS) = (As.map (xi_v b0 aS)).reverse ++ .ref (b0 + b) :: rest.map (xi_v b0 aS) := by simp [xi_v]
  rw [hst]
  obtain ⟨cellB, g1, g2, g3⟩ := va_recv hK hR.1 hc (xi_w_get hb)
  obtain ⟨x, st₀, t, T', L, e0, X', hL, e1, ⟨hv, hP, hzz, hk⟩, st⟩ := xi_callT X0 hx hown (hts _ hw1) (hts _ hw2) (hts _ hw3) (hts _ hw4) (hts _ hw5) hy hM (fun a st o t h => ⟨b0 + k, h.1⟩) xi_Pc_blind (pay_in hts (xi_goodIn hw5)) hfr hlo (by show A.length - n0 + (A'.length - A.length) ≤ R.cells; omega) (by show xi_ns A - s0 + (xi_ns A' - xi_ns A) ≤ R.slots; omega)
    (by rw [hT0]; exact g1) g2 g3 (g := F0 m pc ls ((As.map (xi_v b0 aS)).reverse ++ .ref (b0 + b) :: rest.map (xi_v b0 aS))) rfl (hl.1.trans hml.symm) (argsL := As.map (xi_v b0 aS)) (rest := rest.map (xi_v b0 aS))
    (fun sig h => by rw [h] at hn; rw [List.length_map]; exact (Option.some.inj hn).symm) rfl (lv_room (xi_room h8)) (by rw [hbb]; exact hd) (fun vm₁ hW₁ => xi_pre hR hz hK hstr (.ref b :: As) (T0.setVm vm₁) hT0 hW₁)
  have hxk : x = b0 + k := Outcome.threw.inj hv
  subst hxk
  rw [e0, hT0] at hzz hk
  refine ⟨T', L, ?_, ⟨by rw [e1]; exact hP, ⟨Nat.le_trans hR.2.1.1 (by rw [e1]; exact hzz), fun q q1 q2 => by rw [e1, hk q (Nat.lt_of_lt_of_le q1 hR.2.1.1) q2]; exact hR.2.1.2.1 q q1 q2, fun q hq => ?_⟩, by omega, by omega, hR.2.2.2.2⟩, st⟩
  · rw [show A'.length - n0 = A.length - n0 + (A'.length - A.length) by omega, show xi_ns A' - s0 = xi_ns A - s0 + (xi_ns A' - xi_ns A) by omega]
    exact X'
  · rcases List.mem_append.mp hq with h | h
    · exact hR.2.1.2.2 q h
    · exact hL q h
end XV
end
section
/-! THE ABSTRACT MACHINE's RUN -/
/-- a method: its name, bytes, locals, what it returns, its rows (place, instruction, next place, numbers), its handlers (from, to, place, entry, class) -/
abbrev xi_M : Type := MethodName × ByteArray × Nat × Option FieldType × List (Nat × Instr × Nat × List Nat) × List (Nat × Nat × Nat × Nat × Nat)
def xi_row (rows : List (Nat × Instr × Nat × List Nat)) (pc : Nat) : Option (Instr × Nat × List Nat) := (rows.find? (fun r => r.1 == pc)).map (·.2)
def xi_wt (st : List Value) : Nat := (st.map fun v => v.category).sum
/-- what a row asks for: an end; a call; another stack; a step -/
abbrev xi_A : Type := (Outcome × xi_H) ⊕ (Nat × List Value × List Value × Nat × Bool) ⊕ Option (List Value)
def xi_cv (Ms : List xi_M) (fr lo cM n : Nat) (st : List Value) (A : xi_H) : Option xi_A := match st.drop n, Ms[cM]? with
  | .ref b :: rest, some Mc => match A[b]? with
    | some (.inr (ci, _)) => if ((xi_cl[ci]?).map (·.1) = some Mc.1.cls ∧ n ≤ st.length ∧ xi_wt rest ≤ 8 ∧ 1 ≤ fr) ∧ 19 + Mc.2.2.1 ≤ lo ∧ xi_wt (.ref b :: (st.take n).reverse) ≤ Mc.2.2.1 ∧ Mc.2.2.2.2.2 = [] ∧ 0 < A.length then some (.inr (.inl (cM, .ref b :: (st.take n).reverse, rest, Mc.2.2.1, true))) else none
    | _ => none
  | _, _ => none
def xi_ci (Ms : List xi_M) (fr lo cM n : Nat) (st : List Value) (A : xi_H) : Option xi_A := match st.drop n, Ms[cM]? with
  | .ref b :: rest, some Mc => if (n ≤ st.length ∧ xi_wt rest ≤ 8 ∧ 1 ≤ fr) ∧ 19 + Mc.2.2.1 ≤ lo ∧ xi_wt (.ref b :: (st.take n).reverse) ≤ Mc.2.2.1 ∧ Mc.2.2.2.2.2 = [] ∧ 0 < A.length then some (.inr (.inl (cM, .ref b :: (st.take n).reverse, rest, Mc.2.2.1, false))) else none
  | _, _ => none
def xi_cs (Ms : List xi_M) (fr lo cM n : Nat) (st : List Value) (A : xi_H) : Option xi_A := match Ms[cM]? with
  | some Mc => if (n ≤ st.length ∧ xi_wt (st.drop n) ≤ 8 ∧ 1 ≤ fr) ∧ 19 + Mc.2.2.1 ≤ lo ∧ xi_wt ((st.take n).reverse) ≤ Mc.2.2.1 ∧ Mc.2.2.2.2.2 = [] ∧ 0 < A.length then some (.inr (.inl (cM, (st.take n).reverse, st.drop n, Mc.2.2.1, false))) else none
  | _ => none
def xi_x (Ms : List xi_M) (M : xi_M) (I : Instr) (aux : List Nat) (fr lo : Nat) (st : List Value) (A : xi_H) : Option xi_A := match I with
  | .ireturn => match st, M.2.2.2.1 with
    | [.int v], some ty => if narrow ty (.int v) = .int v then some (.inl (.returned (some (.int v)), A)) else none
    | _, _ => none
  | .lreturn => match st with
    | [.long v] => if M.2.2.2.1 = some .long then some (.inl (.returned (some (.long v)), A)) else none
    | _ => none
  | .return_ => match st with
    | [] => if M.2.2.2.1 = none then some (.inl (.returned none, A)) else none
    | _ => none
  | .new _ => match aux with
    | [ci, _, _, _, _, _, _] => if M.2.2.2.2.2 = [] ∧ 6 ≤ fr ∧ 100 ≤ lo ∧ xi_wt st ≤ 8 ∧ 0 < A.length then some (.inl (.threw A.length, A ++ [.inr (ci, List.replicate 6 .null)])) else none
    | _ => some (.inr (.inr none))
  | .invokevirtual _ => match aux with
    | _ :: cM :: n :: _ => xi_cv Ms fr lo cM n st A
    | _ => none
  | .invokestatic _ => match aux with
    | _ :: cM :: n :: _ => xi_cs Ms fr lo cM n st A
    | _ => none
  | .invokespecial _ => match aux with
    | [0, _, _, _] => match st with
      | .ref _ :: rest => if xi_wt rest ≤ 8 ∧ 1 ≤ fr ∧ 20 ≤ lo then some (.inr (.inr (some rest))) else none
      | _ => none
    | _ :: cM :: n :: _ => xi_ci Ms fr lo cM n st A
    | _ => none
  | _ => some (.inr (.inr none))
abbrev xi_F : Type := Nat → Nat → Nat → Nat → xi_L → List Value → xi_H → Option (Outcome × xi_H)
def xi_body (Ms : List xi_M) (rec : xi_F) : xi_F := fun y fr lo pc lv st A => match Ms[y]? with
  | none => none
  | some M => match xi_row M.2.2.2.2.1 pc with
    | none => none
    | some (I, nx, aux) => match xi_x Ms M I aux fr lo st A with
      | none => none
      | some (.inl r) => some r
      | some (.inr (.inl (cM, vs, rest, nY, virt))) => match rec cM (fr - 1) (lo - (19 + nY)) 0 (lv_args 0 vs) [] A with
        | none => none
        | some (.returned v, A1) => rec y fr lo nx lv (v.toList ++ rest) A1
        | some (.threw k, A1) => if virt = true then match M.2.2.2.2.2 with
          | [] => some (.threw k, A1)
          | (a1, a2, h, _, ci) :: _ => match A1[k]? with
            | some (.inr (cj, _)) => if cj = ci ∧ a1 ≤ pc ∧ pc < a2 then rec y fr lo h lv [.ref k] A1 else none
            | _ => none
          else none
      | some (.inr (.inr (some rest))) => rec y fr lo nx lv rest A
      | some (.inr (.inr none)) => match xi_s M.2.2.1 I nx aux lv st A with
        | none => none
        | some (pc', lv', st', A') => rec y fr lo pc' lv' st' A'
noncomputable def xi_go (Ms : List xi_M) (n : Nat) : xi_F := Nat.rec (motive := fun _ => xi_F) (fun _ _ _ _ _ _ _ => none) (fun _ rec => xi_body Ms rec) n
theorem xi_go_succ (Ms : List xi_M) (n : Nat) : xi_go Ms (n + 1) = xi_body Ms (xi_go Ms n) := rfl
/-! WHAT A METHOD's TABLE MUST SAY -/
def xi_okc (Ms : List xi_M) (own : String) (cc : ByteArray) (pc : Nat) (I : Instr) (aux : List Nat) : Bool := match I, aux with
  | .invokevirtual i, [0, cM, n, i1, i2, i3, i4, i5] => match Ms[cM]? with
    | some (y, cy, nY, ret, _, _) => (((xi_Gat i1 (.methodLink own i y) && xi_Gat i2 (.instanceMethod y)) && (xi_Gat i3 (.selects y.cls y y) && xi_Gat i4 (.initialized y.cls))) && xi_Gat i5 (.code y cy nY ret)) && ((decide (y.cls ≠ "java/lang/invoke/MethodHandle") && decide (y.cls ≠ "java/lang/invoke/VarHandle")) && decide ((parseMethodDescriptor y.desc).map (fun d => d.parameters.length) = some n))
    | none => false
  | .invokespecial i, [1, cM, n, i1, i2, i4, i5] => match Ms[cM]? with
    | some (y, cy, nY, ret, _, _) => (((xi_Gat i1 (.methodLink own i y) || (xi_nest.any (fun w => match w with | .methodLinkNest o2 j y2 _ => decide (o2 = own ∧ j = i ∧ y2 = y) | _ => false))) && xi_Gat i2 (.instanceMethod y)) && (xi_Gat i4 (.initialized y.cls) && xi_Gat i5 (.code y cy nY ret))) && (((decide (y.cls ≠ "java/lang/invoke/MethodHandle") && decide (y.cls ≠ "java/lang/invoke/VarHandle")) && decide ((parseMethodDescriptor y.desc).map (fun d => d.parameters.length) = some n)) && (decide (y.name = "<init>") && decide (ret = none)))
    | none => false
  | .invokestatic i, [3, cM, n, i1, i2, i4, i5] => match Ms[cM]? with
    | some (y, cy, nY, ret, _, _) => ((xi_Gat i1 (.methodLink own i y) && xi_Gat i2 (.static y)) && (xi_Gat i4 (.initialized y.cls) && xi_Gat i5 (.code y cy nY ret))) && ((decide (y.cls ≠ "java/lang/invoke/MethodHandle") && decide (y.cls ≠ "java/lang/invoke/VarHandle")) && decide ((parseMethodDescriptor y.desc).map (fun d => d.parameters.length) = some n))
    | none => false
  | .invokespecial i, [0, i1, i2, i5] => (xi_Gat i1 (.methodLink own i Lib.objectInit) && xi_Gat i2 (.instanceMethod Lib.objectInit)) && xi_Gat i5 (.code Lib.objectInit ⟨#[0xb1]⟩ 1 none)
  | .invokevirtual _, _ => false
  | .invokespecial _, _ => false
  | .invokestatic _, _ => false
  | .new i, [ci, j, a1, a2, w1, w2, w3] => match xi_cl[ci]?, xi_str[j]? with
    | some (Xn, _, N), some (o2, b1, _) => (((decide (N = 0) && (decide (o2 = own) && decide (b1 = a1))) && (xi_Gat w1 (.classLink own i Xn) && (xi_Gat w2 (.instantiable Xn 6) && xi_Gat w3 (.initialized Xn)))) && (Bundle.fit Xn && ((Bundle.ownAtoms own a2 Xn ["java/lang/RuntimeException", "java/lang/Exception"]).all xi_atom || decide (own = "CheapPlanner" ∧ Xn = xi_NE ∧ a2 = 175)))) && ((decide (decode cc (pc + 3) = .ok (.dup, 1)) && decide (decode cc (pc + 4) = .ok (.ldc a1, 2))) && (decide (decode cc (pc + 6) = .ok (.invokespecial a2, 3)) && decide (decode cc (pc + 9) = .ok (.athrow, 1))))
    | _, _ => false
  | _, _ => true
def xi_okr (Ms : List xi_M) (M : xi_M) (r : Nat × Instr × Nat × List Nat) : Bool := (decide (decode M.2.1 r.1 = .ok (r.2.1, xi_len r.2.1)) && decide (r.2.2.1 = r.1 + xi_len r.2.1)) && (xi_ok M.1.cls M.1.name r.1 r.2.1 r.2.2.2 && xi_okc Ms M.1.cls M.2.1 r.1 r.2.1 r.2.2.2)
def xi_okM (Ms : List xi_M) (M : xi_M) : Bool := plainName M.1.cls && (M.2.2.2.2.1.all (xi_okr Ms M) && M.2.2.2.2.2.all (fun h => match xi_cl[h.2.2.2.2]? with
  | some (Xn, _, _) => (decide (Cond.classLink M.1.cls h.2.2.2.1 Xn ∈ lw_tbl) && goodWord (Cond.classLink M.1.cls h.2.2.2.1 Xn)) && decide (h.2.2.2.1 ≠ 0)
  | none => false))
/-! HEAPS GROW -/
theorem xi_s_mono {nL : Nat} {I : Instr} {nx pc' : Nat} {aux : List Nat} {lv lv' : xi_L} {st st' : List Value} {A A' : xi_H} (h : xi_s nL I nx aux lv st A = some (pc', lv', st', A')) : A.length ≤ A'.length ∧ xi_ns A ≤ xi_ns A' := by
  have push : ∀ x : xi_E, A.length ≤ (A ++ [x]).length ∧ xi_ns A ≤ xi_ns (A ++ [x]) := fun x => ⟨by simp, by rw [xi_ns_push]; omega⟩
  have set : ∀ (k : Nat) (x y : xi_E), A[k]? = some x → xi_n x = xi_n y → A.length ≤ (A.set k y).length ∧ xi_ns A ≤ xi_ns (A.set k y) := fun k x y h1 h2 => ⟨by simp, by rw [xi_ns_set h1 h2]; omega⟩
  unfold xi_s at h
  repeat' split at h
  all_goals first
    | (cases h; done)
    | (simp only [Option.some.injEq, Prod.mk.injEq] at h; obtain ⟨-, -, -, rfl⟩ := h; first | exact ⟨Nat.le_refl _, Nat.le_refl _⟩ | exact push _ | (refine set _ _ _ (by assumption) ?_; first | rfl | simp [xi_n]))
theorem xi_x_mono {Ms : List xi_M} {M : xi_M} {I : Instr} {aux : List Nat} {fr lo : Nat} {st : List Value} {A A' : xi_H} {o : Outcome} (h : xi_x Ms M I aux fr lo st A = some (.inl (o, A'))) : A.length ≤ A'.length ∧ xi_ns A ≤ xi_ns A' := by
  have push : ∀ x : xi_E, A.length ≤ (A ++ [x]).length ∧ xi_ns A ≤ xi_ns (A ++ [x]) := fun x => ⟨by simp, by rw [xi_ns_push]; omega⟩
  unfold xi_x xi_cv xi_ci xi_cs at h
  repeat' split at h
  all_goals first
    | (cases h; done)
    | (simp only [Option.some.injEq, Sum.inl.injEq, Prod.mk.injEq] at h; obtain ⟨-, rfl⟩ := h; first | exact ⟨Nat.le_refl _, Nat.le_refl _⟩ | exact push _)
    | (simp at h; done)
theorem xi_mono (Ms : List xi_M) : ∀ (n y fr lo pc : Nat) (lv : xi_L) (st : List Value) (A A' : xi_H) (o : Outcome), xi_go Ms n y fr lo pc lv st A = some (o, A') → A.length ≤ A'.length ∧ xi_ns A ≤ xi_ns A' := by
  intro n
  induction n with
  | zero => intro y fr lo pc lv st A A' o h; cases h
  | succ n ih =>
    intro y fr lo pc lv st A A' o h
    rw [xi_go_succ] at h
    unfold xi_body at h
    split at h
    · cases h
    · split at h
      · cases h
      · split at h
        · cases h
        · rename_i r hx
          cases h
          exact xi_x_mono hx
        · split at h
          · cases h
          · rename_i hr
            have h1 := ih _ _ _ _ _ _ _ _ _ hr
            have h2 := ih _ _ _ _ _ _ _ _ _ h
            omega
          · rename_i hr
            have h1 := ih _ _ _ _ _ _ _ _ _ hr
            split at h
            · split at h
              · cases h; exact h1
              · split at h
                · split at h
                  · have h2 := ih _ _ _ _ _ _ _ _ _ h
                    omega
                  · cases h
                · cases h
            · cases h
        · exact ih _ _ _ _ _ _ _ _ _ h
        · split at h
          · cases h
          · rename_i hs
            have h1 := xi_s_mono hs
            have h2 := ih _ _ _ _ _ _ _ _ _ h
            omega
end
section
/-! THE RUN IS THE MACHINE's -/
theorem xi_row_mem {rows : List (Nat × Instr × Nat × List Nat)} {pc : Nat} {r : Instr × Nat × List Nat} (h : xi_row rows pc = some r) : (pc, r) ∈ rows := by
  simp only [xi_row, Option.map_eq_some_iff] at h
  obtain ⟨q, h1, rfl⟩ := h
  have h2 := List.find?_some h1
  have h3 := List.mem_of_find?_eq_some h1
  simp only [beq_iff_eq] at h2
  rw [← h2]
  exact h3
theorem xi_args_l (b0 : Nat) (aS : Nat → Nat) (vs : List Value) : ∀ i : Nat, lv_args i (vs.map (xi_v b0 aS)) = xi_l b0 aS (lv_args i vs) := by
  induction vs with
  | nil => intro i; rfl
  | cons v vs ih =>
    intro i
    simp only [List.map_cons, lv_args, xi_v_cat, xi_l]
    rw [ih]
    rfl
theorem xi_sl_len (vs : List Value) : (lg_sl vs).length = xi_wt vs := by
  induction vs with
  | nil => rfl
  | cons v vs ih =>
    have e1 : lg_sl (v :: vs) = (if v.category = 2 then [Slot.val v, .second] else [.val v]) ++ lg_sl vs := by simp [lg_sl]
    rw [e1, List.length_append, ih]
    rcases lv_cat v with h | h <;> simp [xi_wt, h]
theorem xi_wt_v (b0 : Nat) (aS : Nat → Nat) (vs : List Value) : xi_wt (vs.map (xi_v b0 aS)) = xi_wt vs := by
  simp [xi_wt, Function.comp_def, xi_v_cat]
/-- the run from a place within a method, said of the machine -/
def xi_S (Ms : List xi_M) (l : Launch) (n : Nat) : Prop := ∀ (y : Nat) (M : xi_M) (fr lo pc : Nat) (lv : xi_L) (st : List Value) (A : xi_H) (o : Outcome) (A' : xi_H), Ms[y]? = some M → xi_go Ms n y fr lo pc lv st A = some (o, A') →
  ∀ (p : Program) (e : Env) (s : State) (m : MethodId) (args : Array Value) (below : List Frame) (meth : Method) (c : Code) (b0 : Nat) (aS : Nat → Nat) (dA : Nat → ClassId) (D : va_G) (n0 s0 : Nat),
    xi_X (p, l, e, { frames := fr, cells := A'.length - n0, slots := xi_ns A' - s0, locals := lo }, s, m, args, below, meth, c, xi_MQ below (xi_Qc b0 aS dA D o A') args s (A'.length - n0) (xi_ns A' - s0) (fun q => b0 ≤ q), M.2.2.1, b0, aS, dA, D, n0, s0) M.2.1 M.1.cls →
    meth.sig.returnType = M.2.2.2.1 → meth.locks = false → meth.name = M.1.name → c.exceptionTable.toList.map (fun h => (h.startPc, h.endPc, h.handlerPc, h.catchType)) = M.2.2.2.2.2.map (fun h => (h.1, h.2.1, h.2.2.1, h.2.2.2.1)) → e.platform.stackTraces = false →
    xi_At (p, l, e, { frames := fr, cells := A'.length - n0, slots := xi_ns A' - s0, locals := lo }, s, m, args, below, meth, c, xi_MQ below (xi_Qc b0 aS dA D o A') args s (A'.length - n0) (xi_ns A' - s0) (fun q => b0 ≤ q), M.2.2.1, b0, aS, dA, D, n0, s0) pc lv st A
/-- a method's contract out of its run -/
theorem xi_contract {Ms : List xi_M} {l : Launch} {n : Nat} (htr : ∀ e, l.admits e → e.platform.stackTraces = false) (ih : xi_S Ms l n) {cM : Nat} {Mc : xi_M} (hc : Ms[cM]? = some Mc) (hpn : plainName Mc.1.cls = true) (hh : Mc.2.2.2.2.2 = []) {fr lo : Nat} {vs : List Value} {A A1 : xi_H} {o1 : Outcome} (hr : xi_go Ms n cM fr lo 0 (lv_args 0 vs) [] A = some (o1, A1)) (hw : xi_wt vs ≤ Mc.2.2.1) (h0 : 0 < A.length) (b0 : Nat) (aS : Nat → Nat) (dA : Nat → ClassId) (D : va_G) :
    xi_Met l Mc.1 (.code Mc.1 Mc.2.1 Mc.2.2.1 Mc.2.2.2.1 :: xi_G) { frames := fr, cells := A1.length - A.length, slots := xi_ns A1 - xi_ns A, locals := lo } (xi_Pc b0 aS dA D vs A) (xi_Qc b0 aS dA D o1 A1) (A1.length - A.length) (xi_ns A1 - xi_ns A) (fun q => b0 ≤ q) := by
  refine xi_ofW (cc := Mc.2.1) (maxL := Mc.2.2.1) (ret := Mc.2.2.2.1) hpn rfl ?_
  intro p e s m args below meth c s₁ B hml hv
  obtain ⟨rfl, hP, hz, hK, hSt⟩ := hv
  have hts0 := atoms_spec (ws := .code Mc.1 Mc.2.1 Mc.2.2.1 Mc.2.2.2.1 :: xi_G) B.pre
  have hts : ∀ w ∈ xi_G, w.before _ s = true := fun w hw => hts0 w (List.mem_cons_of_mem _ hw)
  have hown : s.vm.findClass Mc.1.cls = some m.cls := findClass_of_methodNamed B.named
  have hnoh : c.exceptionTable.toList = [] := by
    have h1 := B.noHandlers (hts0 _ List.mem_cons_self)
    have h2 : c.exceptionTable.size = 0 := by simpa [Array.isEmpty] using h1
    exact List.eq_nil_of_length_eq_zero (by simpa using h2)
  have hl := lv_entry (vs.map (xi_v b0 aS)) (n := Mc.2.2.1) (by rw [xi_sl_len, xi_wt_v]; exact hw)
  rw [xi_args_l] at hl
  rw [lg_entry_eq]
  have k1 := ih cM Mc fr lo 0 (lv_args 0 vs) [] A o1 A1 hc hr p e s m _ below meth c b0 aS dA D A.length (xi_ns A) ⟨B.exec, B.bytes, hml, hown, hts, hK, hSt⟩ B.returns B.notSynchronized (name_of_methodNamed B.named B.method).1 (by rw [hnoh, hh]; rfl) (htr e B.admits) s.heap [] _ ⟨hP, va_S.rf, Nat.le_refl _, Nat.le_refl _, hz⟩ hl
  rw [Nat.sub_self, Nat.sub_self] at k1
  exact k1
/-- what a checked row says of a call -/
theorem xi_okc_v {Ms : List xi_M} {own : String} {cc : ByteArray} {pc i x cM n : Nat} {tail : List Nat} (h : xi_okc Ms own cc pc (.invokevirtual i) (x :: cM :: n :: tail) = true) {Mc : xi_M} (hM : Ms[cM]? = some Mc) :
    (Cond.methodLink own i Mc.1 ∈ xi_G ∧ Cond.instanceMethod Mc.1 ∈ xi_G ∧ Cond.selects Mc.1.cls Mc.1 Mc.1 ∈ xi_G ∧ Cond.initialized Mc.1.cls ∈ xi_G ∧ Cond.code Mc.1 Mc.2.1 Mc.2.2.1 Mc.2.2.2.1 ∈ xi_G) ∧ (Mc.1.cls ≠ "java/lang/invoke/MethodHandle" ∧ Mc.1.cls ≠ "java/lang/invoke/VarHandle") ∧ (parseMethodDescriptor Mc.1.desc).map (fun d => d.parameters.length) = some n := by
  obtain ⟨y, cy, nY, ret, rows, hs⟩ := Mc
  unfold xi_okc at h
  split at h
  all_goals first
    | (rename_i heq; simp at heq; done)
    | skip
  · rename_i i' cM' n' i1 i2 i3 i4 i5 h1 h2
    cases h1
    cases h2
    rw [hM] at h
    simp only [Bool.and_eq_true, decide_eq_true_eq] at h
    obtain ⟨⟨⟨⟨q1, q2⟩, q3, q4⟩, q5⟩, ⟨q6, q7⟩, q8⟩ := h
    exact ⟨⟨xi_Gm q1, xi_Gm q2, xi_Gm q3, xi_Gm q4, xi_Gm q5⟩, ⟨q6, q7⟩, q8⟩
  all_goals first
    | (cases h; done)
    | (simp_all; done)
theorem xi_okc_s {Ms : List xi_M} {own : String} {cc : ByteArray} {pc i x cM n : Nat} {tail : List Nat} (h : xi_okc Ms own cc pc (.invokestatic i) (x :: cM :: n :: tail) = true) {Mc : xi_M} (hM : Ms[cM]? = some Mc) :
    (Cond.methodLink own i Mc.1 ∈ xi_G ∧ Cond.static Mc.1 ∈ xi_G ∧ Cond.initialized Mc.1.cls ∈ xi_G ∧ Cond.code Mc.1 Mc.2.1 Mc.2.2.1 Mc.2.2.2.1 ∈ xi_G) ∧ (Mc.1.cls ≠ "java/lang/invoke/MethodHandle" ∧ Mc.1.cls ≠ "java/lang/invoke/VarHandle") ∧ (parseMethodDescriptor Mc.1.desc).map (fun d => d.parameters.length) = some n := by
  obtain ⟨y, cy, nY, ret, rows, hs⟩ := Mc
  unfold xi_okc at h
  split at h
  case h_3 =>
    rename_i i' cM' n' i1 i2 i4 i5 h1 h2
    cases h1
    cases h2
    rw [hM] at h
    simp only [Bool.and_eq_true, decide_eq_true_eq] at h
    obtain ⟨⟨⟨q1, q2⟩, q4, q5⟩, ⟨q6, q7⟩, q8⟩ := h
    exact ⟨⟨xi_Gm q1, xi_Gm q2, xi_Gm q4, xi_Gm q5⟩, ⟨q6, q7⟩, q8⟩
  all_goals first
    | (cases h; done)
    | (simp_all; done)
theorem xi_okc_i {Ms : List xi_M} {own : String} {cc : ByteArray} {pc i x cM n : Nat} {tail : List Nat} (h : xi_okc Ms own cc pc (.invokespecial i) (x :: cM :: n :: tail) = true) (hx : ∀ a, x = 0 → tail ≠ [a]) {Mc : xi_M} (hM : Ms[cM]? = some Mc) :
    ((Cond.methodLink own i Mc.1 ∈ xi_G ∨ ∃ host, Cond.methodLinkNest own i Mc.1 host ∈ xi_nest) ∧ Cond.instanceMethod Mc.1 ∈ xi_G ∧ Cond.initialized Mc.1.cls ∈ xi_G ∧ Cond.code Mc.1 Mc.2.1 Mc.2.2.1 none ∈ xi_G) ∧ (Mc.1.cls ≠ "java/lang/invoke/MethodHandle" ∧ Mc.1.cls ≠ "java/lang/invoke/VarHandle") ∧ (parseMethodDescriptor Mc.1.desc).map (fun d => d.parameters.length) = some n ∧ Mc.1.name = "<init>" ∧ Mc.2.2.2.1 = none := by
  obtain ⟨y, cy, nY, ret, rows, hs⟩ := Mc
  unfold xi_okc at h
  split at h
  case h_2 =>
    rename_i i' cM' n' i1 i2 i4 i5 h1 h2
    cases h1
    cases h2
    rw [hM] at h
    simp only [Bool.and_eq_true, decide_eq_true_eq, Bool.or_eq_true, List.any_eq_true] at h
    obtain ⟨⟨⟨q1, q2⟩, q4, q5⟩, ⟨⟨q6, q7⟩, q8⟩, q9, q10⟩ := h
    subst q10
    refine ⟨⟨?_, xi_Gm q2, xi_Gm q4, xi_Gm q5⟩, ⟨q6, q7⟩, q8, q9, rfl⟩
    rcases q1 with q1 | ⟨w, hw, q1⟩
    · exact Or.inl (xi_Gm q1)
    · refine Or.inr ?_
      split at q1
      · simp only [decide_eq_true_eq] at q1
        obtain ⟨rfl, rfl, rfl⟩ := q1
        exact ⟨_, hw⟩
      · cases q1
  all_goals first
    | (cases h; done)
    | (simp_all; done)
set_option maxHeartbeats 4000000 in
theorem xi_sound {Ms : List xi_M} (hMs : ∀ (y : Nat) (M : xi_M), Ms[y]? = some M → xi_okM Ms M = true) {l : Launch} (htr : ∀ e, l.admits e → e.platform.stackTraces = false) : ∀ n : Nat, xi_S Ms l n := by
  intro n
  induction n with
  | zero => intro y M fr lo pc lv st A o A' hM h; cases h
  | succ n ih =>
    intro y M fr lo pc lv st A o A' hM h p e s m args below meth c b0 aS dA D n0 s0 X hret hlk hnm hhd hst
    have hmono := xi_mono Ms (n + 1) y fr lo pc lv st A A' o h
    have hok := hMs y M hM
    simp only [xi_okM, Bool.and_eq_true] at hok
    obtain ⟨hpn, hrows, hhok⟩ := hok
    rw [xi_go_succ] at h
    unfold xi_body at h
    rw [hM] at h
    simp only at h
    split at h
    · cases h
    · rename_i I nx aux hrow
      have hr0 := List.all_eq_true.mp hrows _ (xi_row_mem hrow)
      simp only [xi_okr, Bool.and_eq_true, decide_eq_true_eq] at hr0
      obtain ⟨⟨hd, rfl⟩, hro, hrc⟩ := hr0
      split at h
      · cases h
      · -- an end
        rename_i r hx
        cases h
        unfold xi_x at hx
        split at hx
        · split at hx
          · rename_i v ty hty
            split at hx
            · rename_i hnr
              simp only [Option.some.injEq, Sum.inl.injEq, Prod.mk.injEq] at hx
              obtain ⟨rfl, rfl⟩ := hx
              obtain ⟨hx0, hbb, -⟩ := X
              intro H locs ls hR hl
              exact xi_W_mono xi_MQ_of (W.zret hx0 hbb (hret.trans hty) hnr (fun t ht hW => ⟨rfl, by rw [ht]; exact hR.1, hR.2.1.F ht⟩) (fun q hq => hR.2.1.2.2 q hq) hd hlk)
            · cases hx
          · cases hx
        · split at hx
          · rename_i v
            split at hx
            · rename_i hty
              simp only [Option.some.injEq, Sum.inl.injEq, Prod.mk.injEq] at hx
              obtain ⟨rfl, rfl⟩ := hx
              obtain ⟨hx0, hbb, -⟩ := X
              intro H locs ls hR hl
              exact xi_W_mono xi_MQ_of (W.lret hx0 hbb (hret.trans hty) (fun t ht hW => ⟨rfl, by rw [ht]; exact hR.1, hR.2.1.F ht⟩) (fun q hq => hR.2.1.2.2 q hq) hd hlk)
            · cases hx
          · cases hx
        · split at hx
          · split at hx
            · rename_i hty
              simp only [Option.some.injEq, Sum.inl.injEq, Prod.mk.injEq] at hx
              obtain ⟨rfl, rfl⟩ := hx
              obtain ⟨hx0, hbb, -⟩ := X
              intro H locs ls hR hl
              exact xi_W_mono xi_MQ_of (W.vret hx0 hbb (hret.trans hty) (fun t ht hW => ⟨rfl, by rw [ht]; exact hR.1, hR.2.1.F ht⟩) (fun q hq => hR.2.1.2.2 q hq) hd hlk)
            · cases hx
          · cases hx
        · split at hx
          · rename_i ci j a1 a2 w1 w2 w3
            split at hx
            · rename_i hq
              simp only [Option.some.injEq, Sum.inl.injEq, Prod.mk.injEq] at hx
              obtain ⟨rfl, rfl⟩ := hx
              obtain ⟨hh0, hfr, hlo, hwt, hpos⟩ := hq
              have hnoh : c.exceptionTable.toList = [] := by rw [hh0] at hhd; simpa using hhd
              simp only [xi_okc] at hrc
              split at hrc
              · rename_i Xn T N o2 b1 tx hc hj
                simp only [Bool.and_eq_true, Bool.or_eq_true, decide_eq_true_eq] at hrc
                obtain ⟨⟨⟨⟨rfl, rfl, rfl⟩, q1, q2, q3⟩, q4, q5⟩, ⟨q6, q7⟩, q8, q9⟩ := hrc
                exact xs_throw (mc := 0) (ms := 0) X hpos hst hlk (by rw [hnoh]; intro x hx; cases hx) hd q6 q7 q8 q9 hc (xi_Gm q1) (xi_Gm q2) (xi_Gm q3) hj q4 (q5.imp (fun h a ha => List.all_eq_true.mp h a ha) id) (Nat.le_refl _) (Nat.le_refl _) hfr hlo hwt (fun t ht => ht)
              · cases hrc
            · cases hx
          · cases hx
        · split at hx
          · unfold xi_cv at hx
            repeat' split at hx
            all_goals (first | (cases hx; done) | (simp at hx; done))
          · cases hx
        · split at hx
          · unfold xi_cs at hx
            repeat' split at hx
            all_goals (first | (cases hx; done) | (simp at hx; done))
          · cases hx
        · repeat' split at hx
          all_goals first
            | (cases hx; done)
            | (simp at hx; done)
            | (unfold xi_ci at hx; repeat' split at hx) 
          all_goals (first | (cases hx; done) | (simp at hx; done))
        · simp at hx
      · -- a call
        rename_i cM vs rest nY virt hx
        unfold xi_x at hx
        split at hx
        · repeat' split at hx
          all_goals (first | (cases hx; done) | (simp at hx; done))
        · repeat' split at hx
          all_goals (first | (cases hx; done) | (simp at hx; done))
        · repeat' split at hx
          all_goals (first | (cases hx; done) | (simp at hx; done))
        · repeat' split at hx
          all_goals (first | (cases hx; done) | (simp at hx; done))
        · -- invokevirtual
          split at hx
          · rename_i x0 cM0 n0' tl
            unfold xi_cv at hx
            split at hx
            · rename_i b rest0 Mc hdrop hMc
              split at hx
              · rename_i ci fs hb
                split at hx
                · rename_i hq
                  simp only [Option.some.injEq, Sum.inr.injEq, Sum.inl.injEq, Prod.mk.injEq] at hx
                  obtain ⟨rfl, rfl, rfl, rfl, rfl⟩ := hx
                  obtain ⟨⟨hcn, hnl, hwr, hfr1⟩, hlo1, hwv, hh0, hpos⟩ := hq
                  obtain ⟨⟨w1, w2, w3, w4, w5⟩, hy, hn⟩ := xi_okc_v hrc hMc
                  have hst0 : st = ((st.take n0').reverse).reverse ++ .ref b :: rest0 := by rw [List.reverse_reverse, ← hdrop, List.take_append_drop]
                  have hn' : (parseMethodDescriptor Mc.1.desc).map (fun d => d.parameters.length) = some ((st.take n0').reverse).length := by rw [hn, List.length_reverse, List.length_take, Nat.min_eq_left hnl]
                  obtain ⟨qc, hqc, hqn⟩ : ∃ q, xi_cl[ci]? = some q ∧ q.1 = Mc.1.cls := by
                    cases hq : xi_cl[ci]? with
                    | none => rw [hq] at hcn; simp at hcn
                    | some q => rw [hq] at hcn; exact ⟨q, rfl, by simpa using hcn⟩
                  obtain ⟨C, T, N⟩ := qc
                  simp only at hqn
                  subst hqn
                  have hpn' : plainName Mc.1.cls = true := by
                    have h9 := hMs _ _ hMc
                    simp only [xi_okM, Bool.and_eq_true] at h9
                    exact h9.1
                  split at h
                  · cases h
                  · rename_i v A1 hr
                    have hK := xi_contract htr ih hMc hpn' hh0 hr hwv hpos b0 aS dA D
                    have hm1 := xi_mono Ms n _ _ _ _ _ _ _ _ _ hr
                    have hm2 := xi_mono Ms n _ _ _ _ _ _ _ _ _ h
                    rw [hst0]
                    exact xs_callV X hd hK hpos hm1.1 hm1.2 (by show A1.length - n0 ≤ A'.length - n0; omega) (by show xi_ns A1 - s0 ≤ xi_ns A' - s0; omega) (by show fr - 1 + 1 ≤ fr; omega) (by show 8 + (Mc.2.2.1 + 11) + (lo - (19 + Mc.2.2.1)) ≤ lo; omega) w1 w2 w3 w4 w5 hy hn' hb hqc hwr (ih y M fr lo _ lv _ A1 o A' hM h p e s m args below meth c b0 aS dA D n0 s0 X hret hlk hnm hhd hst)
                  · rename_i k A1 hr
                    have hK := xi_contract htr ih hMc hpn' hh0 hr hwv hpos b0 aS dA D
                    have hm1 := xi_mono Ms n _ _ _ _ _ _ _ _ _ hr
                    rw [if_pos rfl] at h
                    split at h
                    · -- it leaves
                      rename_i hnoh
                      cases h
                      have hnoh' : c.exceptionTable.toList = [] := by rw [hnoh] at hhd; simpa using hhd
                      rw [hst0]
                      intro H locs ls hR hl T0 hT0 X0
                      obtain ⟨T', L, X', hR', hgo⟩ := xi_thrown X hd hK hpos hm1.1 hm1.2 (Nat.le_refl _) (Nat.le_refl _) (by show fr - 1 + 1 ≤ fr; omega) (by show 8 + (Mc.2.2.1 + 11) + (lo - (19 + Mc.2.2.1)) ≤ lo; omega) w1 w2 w3 w4 w5 hy hn' hb hqc hwr hR hl hT0 X0
                      obtain ⟨k1, k2, k3, k4, k5⟩ := X'.leaveThrown (b0 + k) (g := F0 m pc ls (rest0.map (xi_v b0 aS))) rfl rfl rfl (by rw [hnoh']; intro x hx; cases hx) hlk
                      exact ⟨_, hgo _ k1, .threw (b0 + k), k2, k3, ⟨rfl, hR'.1, hR'.2.1.F rfl⟩, locs ++ L, ⟨k4, k5⟩, fun q hq => hR'.2.1.2.2 q hq⟩
                    · -- it is caught
                      rename_i a1 a2 hpc ct cx hs hhs
                      split at h
                      · rename_i cj fs1 hk1
                        split at h
                        · rename_i hq2
                          obtain ⟨rfl, hlo2, hhi2⟩ := hq2
                          have hm2 := xi_mono Ms n _ _ _ _ _ _ _ _ _ h
                          rw [hhs] at hhd hhok
                          simp only [List.map_cons, List.all_cons, Bool.and_eq_true] at hhd hhok
                          have hkk := ih y M fr lo hpc lv [.ref k] A1 o A' hM h p e s m args below meth c b0 aS dA D n0 s0 X hret hlk hnm (by rw [hhs]; simpa only [List.map_cons] using hhd) hst
                          obtain ⟨xe, xrest, hsplit, hxe, -⟩ : ∃ xe xrest, c.exceptionTable.toList = xe :: xrest ∧ (xe.startPc, xe.endPc, xe.handlerPc, xe.catchType) = (a1, a2, hpc, ct) ∧ True := by
                            cases hl : c.exceptionTable.toList with
                            | nil => rw [hl] at hhd; simp at hhd
                            | cons xe xrest => rw [hl] at hhd; simp only [List.map_cons, List.cons.injEq] at hhd; exact ⟨xe, xrest, rfl, hhd.1, trivial⟩
                          simp only [Prod.mk.injEq] at hxe
                          obtain ⟨rfl, rfl, rfl, rfl⟩ := hxe
                          obtain ⟨hok1, -⟩ := hhok
                          split at hok1
                          · rename_i Xn T2 N2 hcx
                            simp only [Bool.and_eq_true, decide_eq_true_eq] at hok1
                            obtain ⟨⟨hl1, hl2⟩, hl3⟩ := hok1
                            rw [hst0]
                            intro H locs ls hR hl T0 hT0 X0
                            obtain ⟨T', L, X', hR', hgo⟩ := xi_thrown X hd hK hpos hm1.1 hm1.2 (by show A1.length - n0 ≤ A'.length - n0; omega) (by show xi_ns A1 - s0 ≤ xi_ns A' - s0; omega) (by show fr - 1 + 1 ≤ fr; omega) (by show 8 + (Mc.2.2.1 + 11) + (lo - (19 + Mc.2.2.1)) ≤ lo; omega) w1 w2 w3 w4 w5 hy hn' hb hqc hwr hR hl hT0 X0
                            obtain ⟨hx0, hbb, hml, hown, hts, hKK, hstr⟩ := X
                            obtain ⟨rr, hrr, cell, g1, g2, g3, -⟩ := hR'.1 k _ (xi_w_get hk1)
                            have hcls := (hKK.1 _ _ hcx).2
                            obtain ⟨vm', X2, hgo2⟩ := xi_catch X' (b0 + k) (g := F0 m pc ls (rest0.map (xi_v b0 aS))) rfl hown hsplit (by simp only [covers, Bool.and_eq_true, decide_eq_true_eq]; exact ⟨hlo2, hhi2⟩) hl3 (hts _ (List.mem_filter.mpr ⟨hl1, hl2⟩)) hcls.1 g1 (fun q hq => by rw [g3] at hq; cases hq) (by rw [g2]; exact va_assign hcls) (by rw [g2]; obtain ⟨-, kC, hkC, -⟩ := hcls; exact ⟨kC, hkC⟩)
                            obtain ⟨t, t1, t2⟩ := hkk T'.heap (locs ++ L) ls hR' hl (T'.setVm vm') rfl X2
                            exact ⟨t, hgo _ (hgo2 _ t1), t2⟩
                          · cases hok1
                        · cases h
                      · cases h
                · cases hx
              · cases hx
            · cases hx
          · cases hx
        · -- invokestatic
          split at hx
          · rename_i x0 cM0 n0' tl
            unfold xi_cs at hx
            split at hx
            · rename_i Mc hMc
              split at hx
              · rename_i hq
                simp only [Option.some.injEq, Sum.inr.injEq, Sum.inl.injEq, Prod.mk.injEq] at hx
                obtain ⟨rfl, rfl, rfl, rfl, rfl⟩ := hx
                obtain ⟨⟨hnl, hwr, hfr1⟩, hlo1, hwv, hh0, hpos⟩ := hq
                obtain ⟨⟨w1, w2, w4, w5⟩, hy, hn⟩ := xi_okc_s hrc hMc
                have hst0 : st = ((st.take n0').reverse).reverse ++ st.drop n0' := by rw [List.reverse_reverse, List.take_append_drop]
                have hn' : (parseMethodDescriptor Mc.1.desc).map (fun d => d.parameters.length) = some ((st.take n0').reverse).length := by rw [hn, List.length_reverse, List.length_take, Nat.min_eq_left hnl]
                have hpn' : plainName Mc.1.cls = true := by
                  have h9 := hMs _ _ hMc
                  simp only [xi_okM, Bool.and_eq_true] at h9
                  exact h9.1
                split at h
                · cases h
                · rename_i v A1 hr
                  have hK := xi_contract htr ih hMc hpn' hh0 hr hwv hpos b0 aS dA D
                  have hm1 := xi_mono Ms n _ _ _ _ _ _ _ _ _ hr
                  have hm2 := xi_mono Ms n _ _ _ _ _ _ _ _ _ h
                  have hgoal := xs_callS X hd hK hpos hm1.1 hm1.2 (by show A1.length - n0 ≤ A'.length - n0; omega) (by show xi_ns A1 - s0 ≤ xi_ns A' - s0; omega) (by show fr - 1 + 1 ≤ fr; omega) (by show 8 + (Mc.2.2.1 + 11) + (lo - (19 + Mc.2.2.1)) ≤ lo; omega) w1 w2 w4 w5 hy hn' hwr (ih y M fr lo _ lv _ A1 o A' hM h p e s m args below meth c b0 aS dA D n0 s0 X hret hlk hnm hhd hst)
                  rw [← hst0] at hgoal
                  exact hgoal
                · rw [if_neg (by decide)] at h
                  cases h
              · cases hx
            · cases hx
          · cases hx
        · -- invokespecial
          split at hx
          · repeat' split at hx
            all_goals (first | (cases hx; done) | (simp at hx; done))
          · rename_i x0 cM0 n0' tl hne
            unfold xi_ci at hx
            split at hx
            · rename_i b rest0 Mc hdrop hMc
              split at hx
              · rename_i hq
                simp only [Option.some.injEq, Sum.inr.injEq, Sum.inl.injEq, Prod.mk.injEq] at hx
                obtain ⟨rfl, rfl, rfl, rfl, rfl⟩ := hx
                obtain ⟨⟨hnl, hwr, hfr1⟩, hlo1, hwv, hh0, hpos⟩ := hq
                obtain ⟨⟨w1, w2, w4, w5⟩, hy, hn, hnm', hrt⟩ := xi_okc_i hrc (fun a h1 h2 => hne a h1 h2) hMc
                have hst0 : st = ((st.take n0').reverse).reverse ++ .ref b :: rest0 := by rw [List.reverse_reverse, ← hdrop, List.take_append_drop]
                have hn' : (parseMethodDescriptor Mc.1.desc).map (fun d => d.parameters.length) = some ((st.take n0').reverse).length := by rw [hn, List.length_reverse, List.length_take, Nat.min_eq_left hnl]
                have hpn' : plainName Mc.1.cls = true := by
                  have h9 := hMs _ _ hMc
                  simp only [xi_okM, Bool.and_eq_true] at h9
                  exact h9.1
                split at h
                · cases h
                · rename_i v A1 hr
                  have hK := xi_contract htr ih hMc hpn' hh0 hr hwv hpos b0 aS dA D
                  rw [hrt] at hK
                  have hm1 := xi_mono Ms n _ _ _ _ _ _ _ _ _ hr
                  have hm2 := xi_mono Ms n _ _ _ _ _ _ _ _ _ h
                  have hgoal := xs_callI X hd hK hpos hm1.1 hm1.2 (by show A1.length - n0 ≤ A'.length - n0; omega) (by show xi_ns A1 - s0 ≤ xi_ns A' - s0; omega) (by show fr - 1 + 1 ≤ fr; omega) (by show 8 + (Mc.2.2.1 + 11) + (lo - (19 + Mc.2.2.1)) ≤ lo; omega) w1 w2 w4 w5 hnm' hy hn' hwr (ih y M fr lo _ lv _ A1 o A' hM h p e s m args below meth c b0 aS dA D n0 s0 X hret hlk hnm hhd hst)
                  rw [← hst0] at hgoal
                  exact hgoal
                · rw [if_neg (by decide)] at h
                  cases h
              · cases hx
            · cases hx
          · cases hx
        · simp at hx
      · -- another stack
        rename_i rest hx
        unfold xi_x at hx
        split at hx
        · repeat' split at hx
          all_goals (first | (cases hx; done) | (simp at hx; done))
        · repeat' split at hx
          all_goals (first | (cases hx; done) | (simp at hx; done))
        · repeat' split at hx
          all_goals (first | (cases hx; done) | (simp at hx; done))
        · repeat' split at hx
          all_goals (first | (cases hx; done) | (simp at hx; done))
        · unfold xi_cv at hx
          repeat' split at hx
          all_goals (first | (cases hx; done) | (simp at hx; done))
        · unfold xi_cs at hx
          repeat' split at hx
          all_goals (first | (cases hx; done) | (simp at hx; done))
        · split at hx
          · rename_i i1 i2 i5
            split at hx
            · split at hx
              · rename_i hq
                simp only [Option.some.injEq, Sum.inr.injEq] at hx
                subst hx
                simp only [xi_okc, Bool.and_eq_true] at hrc
                obtain ⟨⟨q1, q2⟩, q5⟩ := hrc
                exact xs_obj X hd (xi_Gm q1) (xi_Gm q2) (xi_Gm q5) hq.2.1 hq.2.2 hq.1 (ih y M fr lo _ lv _ A o A' hM h p e s m args below meth c b0 aS dA D n0 s0 X hret hlk hnm hhd hst)
              · cases hx
            · cases hx
          · unfold xi_ci at hx
            repeat' split at hx
            all_goals (first | (cases hx; done) | (simp at hx; done))
          · cases hx
        · simp at hx
      · -- a step
        rename_i hx
        split at h
        · cases h
        · rename_i pc' lv' st' A1 hs
          have hm1 := xi_s_mono hs
          have hm2 := xi_mono Ms n _ _ _ _ _ _ _ _ _ h
          exact xi_s_sound X (fun hq => hnm.trans hq) hd hro hs (by show A1.length - n0 ≤ A'.length - n0; omega) (by show xi_ns A1 - s0 ≤ xi_ns A' - s0; omega) (ih y M fr lo pc' lv' st' A1 o A' hM h p e s m args below meth c b0 aS dA D n0 s0 X hret hlk hnm hhd hst)
end
section
/-! THE METHODS: out of javap's listing, by program; checked below -/
/- 0 CheapPlanner.<init>; 1 CheapPlanner.text; 2 CheapPlanner.domain; 3 CheapPlanner.problem; 4 CheapPlanner.fault; 5 CheapPlanner.plan; 6 CheapPlanner.steps; 7 CheapPlanner.step; 8 CheapPlanner.ground; 9 CheapPlanner.letter; 10 CheapPlanner.put; 11 CheapPlanner.check; 12 CheapPlanner.estimate; 13 CheapPlanner.requireProblem; 14 CheapPlanner.hasStep; 15 CheapPlanner.forgetProblem; 16 CheapPlanner$Tokens.<init>; 17 CheapPlanner$Tokens.size; 18 CheapPlanner$Tokens.shorten; 19 CheapPlanner$Tokens.faultMet; 20 CheapPlanner$Tokens.take; 21 CheapPlanner$Tokens.takeCode; 22 CheapPlanner$Tokens.cut; 23 CheapPlanner$Tokens.add; 24 CheapPlanner$Tokens.want; 25 CheapPlanner$Tokens.fail; 26 CheapPlanner$Names.<init>; 27 CheapPlanner$Names.clear; 28 CheapPlanner$Clause.<init>; 29 CheapPlanner$Domain.<init>; 30 CheapPlanner$Domain.clear; 31 CheapPlanner$Problem.<init>; 32 CheapPlanner$Reader.<init>; 33 CheapPlanner$Reader.readDomain; 34 CheapPlanner$Reader.openDefinition; 35 CheapPlanner$ClauseReader.<init>; 36 CheapPlanner$Ground.<init>; 37 CheapPlanner$Needs.<init>; 38 CheapPlanner$Step.<init>; 39 CheapPlanner$Search.<init>; 40 CheapPlanner$Search.forget; 41 CheapPlanner$Search.hasFound; 42 CheapPlanner$Estimate.<init>; 43 java/util/Arrays.fill; 44 CheapPlannerModel.<init>; 45 CheapPlannerModel.word; 46 CheapPlannerModel.thrown; 47 CheapPlannerModel.text; 48 CheapPlannerModel.byteOf; 49 CheapPlannerModel.clearFault; 50 CheapPlannerModel.scan; 51 CheapPlannerModel.readDomain; 52 CheapPlannerModel.needSign; 53 CheapPlannerModel.isSign; 54 CheapPlannerModel.size; 55 CheapPlannerModel.wrong; 56 CheapPlannerModel.needWord; 57 CheapPlannerModel.isWord; 58 CheapPlannerModel.letterAt; 59 CheapPlannerModel.needName; 60 CheapPlannerModel.bad; 61 CheapPlannerModel.nameAt; 62 CheapPlannerModel.pass; 63 CheapPlannerModel.told; 64 CheapPlannerModel.domain; 65 CheapPlannerModel.problem; 66 CheapPlannerModel.fault; 67 CheapPlannerModel.plan; 68 CheapPlannerModel.steps; 69 CheapPlannerModel.step; 70 CheapPlannerModel.ground; 71 CheapPlannerModel.letter; 72 CheapPlannerModel.put; 73 CheapPlannerModel.check; 74 CheapPlannerModel.estimate; 75 CheapPlannerLaw.domain; 76 CheapPlannerLaw.problem; 77 CheapPlannerLaw.plan; 78 CheapPlannerLaw.steps; 79 CheapPlannerLaw.step; 80 CheapPlannerLaw.ground; 81 CheapPlannerLaw.letter; 82 CheapPlannerLaw.check; 83 CheapPlannerLaw.estimate -/
def xi_m0 : xi_M := (⟨"CheapPlanner", "<init>", "()V"⟩, prog_1_method_1_code, 1, none, [(0, .aload_n 0, 1, []), (1, .invokespecial 1, 4, [0, 1034, 1035, 1036]), (4, .aload_n 0, 5, []), (5, .new 7, 8, [1, 1037, 1038, 1002]), (8, .dup, 9, []), (9, .invokespecial 9, 12, [1, 16, 0, 0, 1040, 1002, 1041]), (12, .putfield 10, 15, [0, 0, 2186]), (15, .aload_n 0, 16, []), (16, .new 16, 19, [2, 1074, 1075, 1003]), (19, .dup, 20, []), (20, .invokespecial 18, 23, [1, 29, 0, 1076, 1077, 1003, 1078]), (23, .putfield 19, 26, [0, 1, 2187]), (26, .aload_n 0, 27, []), (27, .new 23, 30, [5, 1187, 1188, 1006]), (30, .dup, 31, []), (31, .invokespecial 25, 34, [1, 31, 0, 0, 1190, 1006, 1191]), (34, .putfield 26, 37, [0, 2, 2188]), (37, .aload_n 0, 38, []), (38, .new 30, 41, [6, 1214, 1215, 1007]), (41, .dup, 42, []), (42, .aload_n 0, 43, []), (43, .getfield 10, 46, [0, 0, 2186]), (46, .aload_n 0, 47, []), (47, .getfield 19, 50, [0, 1, 2187]), (50, .aload_n 0, 51, []), (51, .getfield 26, 54, [0, 2, 2188]), (54, .invokespecial 32, 57, [1, 32, 3, 1216, 1217, 1007, 1218]), (57, .putfield 35, 60, [0, 3, 2189]), (60, .aload_n 0, 61, []), (61, .new 39, 64, [8, 2012, 2013, 1009]), (64, .dup, 65, []), (65, .invokespecial 41, 68, [1, 36, 0, 2014, 2015, 1009, 2016]), (68, .putfield 42, 71, [0, 4, 2190]), (71, .aload_n 0, 72, []), (72, .new 46, 75, [11, 2124, 2125, 1012]), (75, .dup, 76, []), (76, .aload_n 0, 77, []), (77, .getfield 42, 80, [0, 4, 2190]), (80, .invokespecial 48, 83, [1, 39, 1, 2126, 2127, 1012, 2128]), (83, .putfield 51, 86, [0, 5, 2191]), (86, .aload_n 0, 87, []), (87, .new 55, 90, [12, 2173, 2174, 1013]), (90, .dup, 91, []), (91, .aload_n 0, 92, []), (92, .getfield 42, 95, [0, 4, 2190]), (95, .invokespecial 57, 98, [1, 42, 1, 2175, 2176, 1013, 2177]), (98, .putfield 58, 101, [0, 6, 2192]), (101, .aload_n 0, 102, []), (102, .bipush 60, 104, []), (104, .newarray .int, 106, [1072]), (106, .putfield 62, 109, [0, 9, 2195]), (109, .aload_n 0, 110, []), (110, .sipush 6000, 113, []), (113, .newarray .char, 115, [1071]), (115, .putfield 66, 118, [0, 11, 2197]), (118, .aload_n 0, 119, []), (119, .iconst 0, 120, []), (120, .putfield 70, 123, [0, 7, 2193]), (123, .aload_n 0, 124, []), (124, .iconst 0, 125, []), (125, .putfield 74, 128, [0, 8, 2194]), (128, .return_, 129, [])], [])
def xi_m1 : xi_M := (⟨"CheapPlanner", "text", "(IIIII)Z"⟩, prog_1_method_2_code, 8, some (.boolean), [(0, .aload_n 0, 1, []), (1, .getfield 10, 4, [0, 0, 2186]), (4, .invokevirtual 77, 7, [0, 17, 0, 2230, 2231, 2232, 1002, 2233]), (7, .istore 6, 9, []), (9, .aload_n 0, 10, []), (10, .getfield 10, 13, [0, 0, 2186]), (13, .iload_n 1, 14, []), (14, .invokevirtual 81, 17, [0, 20, 1, 2234, 2235, 2236, 1002, 2237]), (17, .ifCond .eq 53, 20, [70]), (20, .aload_n 0, 21, []), (21, .getfield 10, 24, [0, 0, 2186]), (24, .iload_n 2, 25, []), (25, .invokevirtual 81, 28, [0, 20, 1, 2234, 2235, 2236, 1002, 2237]), (28, .ifCond .eq 42, 31, [70]), (31, .aload_n 0, 32, []), (32, .getfield 10, 35, [0, 0, 2186]), (35, .iload_n 3, 36, []), (36, .invokevirtual 81, 39, [0, 20, 1, 2234, 2235, 2236, 1002, 2237]), (39, .ifCond .eq 31, 42, [70]), (42, .aload_n 0, 43, []), (43, .getfield 10, 46, [0, 0, 2186]), (46, .iload 4, 48, []), (48, .invokevirtual 81, 51, [0, 20, 1, 2234, 2235, 2236, 1002, 2237]), (51, .ifCond .eq 19, 54, [70]), (54, .aload_n 0, 55, []), (55, .getfield 10, 58, [0, 0, 2186]), (58, .iload 5, 60, []), (60, .invokevirtual 81, 63, [0, 20, 1, 2234, 2235, 2236, 1002, 2237]), (63, .ifCond .eq 7, 66, [70]), (66, .iconst 1, 67, []), (67, .goto 4, 70, [71]), (70, .iconst 0, 71, []), (71, .istore 7, 73, []), (73, .iload 7, 75, []), (75, .ifCond .ne 12, 78, [87]), (78, .aload_n 0, 79, []), (79, .getfield 10, 82, [0, 0, 2186]), (82, .iload 6, 84, []), (84, .invokevirtual 85, 87, [0, 18, 1, 3002, 3003, 3004, 1002, 3005]), (87, .iload 7, 89, []), (89, .ireturn, 90, [])], [])
def xi_m2 : xi_M := (⟨"CheapPlanner", "domain", "()I"⟩, prog_1_method_3_code, 1, some (.int), [(0, .aload_n 0, 1, []), (1, .iconst 0, 2, []), (2, .putfield 70, 5, [0, 7, 2193]), (5, .aload_n 0, 6, []), (6, .invokevirtual 89, 9, [0, 15, 0, 3030, 3032, 2, 1001, 3033]), (9, .aload_n 0, 10, []), (10, .getfield 35, 13, [0, 3, 2189]), (13, .invokevirtual 92, 16, [0, 33, 0, 3042, 3043, 3044, 1007, 3045]), (16, .aload_n 0, 17, []), (17, .iconst 1, 18, []), (18, .putfield 70, 21, [0, 7, 2193]), (21, .aload_n 0, 22, []), (22, .getfield 19, 25, [0, 1, 2187]), (25, .getfield 95, 28, [2, 4, 1158]), (28, .getfield 99, 31, [3, 2, 1095]), (31, .ireturn, 32, [])], [])
def xi_m3 : xi_M := (⟨"CheapPlanner", "problem", "()I"⟩, prog_1_method_4_code, 1, some (.int), [(0, .aload_n 0, 1, []), (1, .getfield 70, 4, [0, 7, 2193]), (4, .ifCond .ne 13, 7, [17]), (7, .new 105, 10, [15, 15, 107, 109, 4104, 4105, 1024]), (10, .dup, 11, []), (11, .ldc 107, 13, [1, 15]), (16, .athrow, 17, []), (17, .aload_n 0, 18, []), (18, .invokevirtual 89, 21, [0, 15, 0, 3030, 3032, 2, 1001, 3033]), (21, .aload_n 0, 22, []), (22, .getfield 35, 25, [0, 3, 2189]), (28, .aload_n 0, 29, []), (29, .getfield 42, 32, [0, 4, 2190]), (32, .aload_n 0, 33, []), (33, .getfield 19, 36, [0, 1, 2187]), (36, .aload_n 0, 37, []), (37, .getfield 26, 40, [0, 2, 2188]), (43, .ifCond .ne 13, 46, [56]), (46, .new 119, 49, [16, 21, 121, 123, 4214, 4215, 1026]), (49, .dup, 50, []), (50, .ldc 121, 52, [1, 21]), (55, .athrow, 56, []), (56, .aload_n 0, 57, []), (57, .iconst 1, 58, []), (58, .putfield 74, 61, [0, 8, 2194]), (61, .aload_n 0, 62, []), (62, .getfield 42, 65, [0, 4, 2190]), (65, .getfield 124, 68, [8, 3, 2097]), (68, .ireturn, 69, [])], [])
def xi_m4 : xi_M := (⟨"CheapPlanner", "fault", "()I"⟩, prog_1_method_5_code, 1, some (.int), [(0, .aload_n 0, 1, []), (1, .getfield 10, 4, [0, 0, 2186]), (4, .invokevirtual 127, 7, [0, 19, 0, 3010, 3011, 3012, 1002, 3013]), (7, .ireturn, 8, [])], [])
def xi_m5 : xi_M := (⟨"CheapPlanner", "plan", "(I)I"⟩, prog_1_method_6_code, 3, some (.int), [(0, .aload_n 0, 1, []), (1, .invokevirtual 130, 4, [0, 13, 0, 4237, 4239, 30, 1001, 5000]), (4, .iload_n 1, 5, []), (5, .iconst 1, 6, []), (6, .if_icmp .lt 10, 9, [16]), (9, .iload_n 1, 10, []), (10, .sipush 200, 13, []), (13, .if_icmp .le 13, 16, [26]), (16, .new 133, 19, [14, 23, 135, 137, 5002, 3084, 1019]), (19, .dup, 20, []), (20, .ldc 135, 22, [1, 23]), (25, .athrow, 26, []), (26, .aload_n 0, 27, []), (27, .iconst 0, 28, []), (28, .putfield 138, 31, [0, 12, 2198]), (31, .aload_n 0, 32, []), (32, .getfield 51, 35, [0, 5, 2191]), (35, .iload_n 1, 36, []), (39, .aload_n 0, 40, []), (40, .getfield 51, 43, [0, 5, 2191]), (46, .ifCond .eq 13, 49, [59]), (49, .new 119, 52, [16, 24, 148, 123, 4214, 4215, 1026]), (52, .dup, 53, []), (53, .ldc 148, 55, [1, 24]), (58, .athrow, 59, []), (59, .aload_n 0, 60, []), (60, .getfield 51, 63, [0, 5, 2191]), (63, .invokevirtual 150, 66, [0, 41, 0, 5068, 5069, 5070, 1012, 5071]), (66, .ifCond .ne 5, 69, [71]), (69, .iconst (-1), 70, []), (70, .ireturn, 71, []), (71, .iconst 0, 72, []), (72, .istore_n 2, 73, []), (73, .iload_n 2, 74, []), (74, .aload_n 0, 75, []), (75, .getfield 51, 78, [0, 5, 2191]), (81, .if_icmp .ge 29, 84, [110]), (84, .aload_n 0, 85, []), (85, .aload_n 0, 86, []), (86, .getfield 42, 89, [0, 4, 2190]), (89, .getfield 156, 92, [8, 2, 2094]), (92, .aload_n 0, 93, []), (93, .getfield 51, 96, [0, 5, 2191]), (96, .iload_n 2, 97, []), (100, .aaload, 101, []), (104, .iinc 2 1, 107, []), (107, .goto (-34), 110, [73]), (110, .aload_n 0, 111, []), (111, .getfield 51, 114, [0, 5, 2191]), (117, .ireturn, 118, [])], [])
def xi_m6 : xi_M := (⟨"CheapPlanner", "steps", "()I"⟩, prog_1_method_7_code, 1, some (.int), [(0, .aload_n 0, 1, []), (1, .getfield 51, 4, [0, 5, 2191]), (4, .invokevirtual 150, 7, [0, 41, 0, 5068, 5069, 5070, 1012, 5071]), (7, .ifCond .ne 13, 10, [20]), (10, .new 171, 13, [17, 25, 173, 175, 5104, 5105, 1027]), (13, .dup, 14, []), (14, .ldc 173, 16, [1, 25]), (19, .athrow, 20, []), (20, .aload_n 0, 21, []), (21, .getfield 51, 24, [0, 5, 2191]), (27, .ireturn, 28, [])], [])
def xi_m7 : xi_M := (⟨"CheapPlanner", "step", "(I)I"⟩, prog_1_method_8_code, 2, some (.int), [(0, .aload_n 0, 1, []), (1, .getfield 51, 4, [0, 5, 2191]), (4, .invokevirtual 150, 7, [0, 41, 0, 5068, 5069, 5070, 1012, 5071]), (7, .ifCond .eq 18, 10, [25]), (10, .iload_n 1, 11, []), (11, .ifCond .lt 14, 14, [25]), (14, .iload_n 1, 15, []), (15, .aload_n 0, 16, []), (16, .getfield 51, 19, [0, 5, 2191]), (22, .if_icmp .lt 13, 25, [35]), (25, .new 171, 28, [17, 26, 176, 175, 5104, 5105, 1027]), (28, .dup, 29, []), (29, .ldc 176, 31, [1, 26]), (34, .athrow, 35, []), (35, .aload_n 0, 36, []), (36, .getfield 51, 39, [0, 5, 2191]), (39, .iload_n 1, 40, []), (43, .ireturn, 44, [])], [])
def xi_m8 : xi_M := (⟨"CheapPlanner", "ground", "(II)I"⟩, prog_1_method_9_code, 4, some (.int), [(0, .aload_n 0, 1, []), (1, .iload_n 1, 2, []), (2, .invokevirtual 178, 5, [0, 14, 1, 3018, 3020, 1, 1001, 3021]), (5, .ifCond .ne 13, 8, [18]), (8, .new 171, 11, [17, 27, 181, 175, 5104, 5105, 1027]), (11, .dup, 12, []), (12, .ldc 181, 14, [1, 27]), (17, .athrow, 18, []), (18, .iload_n 2, 19, []), (19, .ifCond .lt 8, 22, [27]), (22, .iload_n 2, 23, []), (23, .iconst 4, 24, []), (24, .if_icmp .le 13, 27, [37]), (27, .new 133, 30, [14, 28, 183, 137, 5002, 3084, 1019]), (30, .dup, 31, []), (31, .ldc 183, 33, [1, 28]), (36, .athrow, 37, []), (37, .aload_n 0, 38, []), (38, .getfield 42, 41, [0, 4, 2190]), (41, .getfield 156, 44, [8, 2, 2094]), (44, .iload_n 1, 45, []), (45, .aaload, 46, []), (46, .astore_n 3, 47, []), (47, .iload_n 2, 48, []), (48, .ifCond .ne 8, 51, [56]), (51, .aload_n 3, 52, []), (52, .getfield 185, 55, [10, 0, 2053]), (55, .ireturn, 56, []), (56, .iload_n 2, 57, []), (57, .iconst 4, 58, []), (58, .if_icmp .ne 10, 61, [68]), (61, .aload_n 3, 62, []), (62, .getfield 190, 65, [10, 2, 2059]), (65, .goto 11, 68, [76]), (68, .aload_n 3, 69, []), (69, .getfield 193, 72, [10, 1, 2056]), (72, .iload_n 2, 73, []), (73, .iconst 1, 74, []), (74, .isub, 75, []), (75, .iaload, 76, []), (76, .ireturn, 77, [])], [])
def xi_m9 : xi_M := (⟨"CheapPlanner", "letter", "(I)C"⟩, prog_1_method_10_code, 2, some (.char), [(0, .iload_n 1, 1, []), (1, .ifCond .lt 11, 4, [12]), (4, .iload_n 1, 5, []), (5, .aload_n 0, 6, []), (6, .getfield 138, 9, [0, 12, 2198]), (9, .if_icmp .lt 13, 12, [22]), (12, .new 196, 15, [18, 29, 198, 200, 5145, 5146, 1028]), (15, .dup, 16, []), (16, .ldc 198, 18, [1, 29]), (21, .athrow, 22, []), (22, .aload_n 0, 23, []), (23, .getfield 66, 26, [0, 11, 2197]), (26, .iload_n 1, 27, []), (27, .caload, 28, []), (28, .ireturn, 29, [])], [])
def xi_m10 : xi_M := (⟨"CheapPlanner", "put", "(I)Z"⟩, prog_1_method_11_code, 2, some (.boolean), [(0, .aload_n 0, 1, []), (1, .iload_n 1, 2, []), (2, .invokevirtual 178, 5, [0, 14, 1, 3018, 3020, 1, 1001, 3021]), (5, .ifCond .eq 12, 8, [17]), (8, .aload_n 0, 9, []), (9, .getfield 201, 12, [0, 10, 2196]), (12, .bipush 60, 14, []), (14, .if_icmp .lt 5, 17, [19]), (17, .iconst 0, 18, []), (18, .ireturn, 19, []), (19, .aload_n 0, 20, []), (20, .getfield 62, 23, [0, 9, 2195]), (23, .aload_n 0, 24, []), (24, .getfield 201, 27, [0, 10, 2196]), (27, .iload_n 1, 28, []), (28, .iastore, 29, []), (29, .aload_n 0, 30, []), (30, .dup, 31, []), (31, .getfield 201, 34, [0, 10, 2196]), (34, .iconst 1, 35, []), (35, .iadd, 36, []), (36, .putfield 201, 39, [0, 10, 2196]), (39, .iconst 1, 40, []), (40, .ireturn, 41, [])], [])
def xi_m11 : xi_M := (⟨"CheapPlanner", "check", "()I"⟩, prog_1_method_12_code, 7, some (.int), [(0, .aload_n 0, 1, []), (1, .invokevirtual 130, 4, [0, 13, 0, 4237, 4239, 30, 1001, 5000]), (4, .aload_n 0, 5, []), (5, .getfield 201, 8, [0, 10, 2196]), (8, .istore_n 1, 9, []), (9, .aload_n 0, 10, []), (10, .iconst 0, 11, []), (11, .putfield 201, 14, [0, 10, 2196]), (14, .aload_n 0, 15, []), (15, .getfield 42, 18, [0, 4, 2190]), (18, .getfield 204, 21, [8, 4, 2103]), (21, .lstore_n 2, 22, []), (22, .iconst 0, 23, []), (23, .istore 4, 25, []), (25, .iconst 0, 26, []), (26, .istore 5, 28, []), (28, .iload 5, 30, []), (30, .iload_n 1, 31, []), (31, .if_icmp .ge 60, 34, [91]), (34, .aload_n 0, 35, []), (35, .getfield 42, 38, [0, 4, 2190]), (38, .getfield 156, 41, [8, 2, 2094]), (41, .aload_n 0, 42, []), (42, .getfield 62, 45, [0, 9, 2195]), (45, .iload 5, 47, []), (47, .iaload, 48, []), (48, .aaload, 49, []), (49, .astore 6, 51, []), (51, .aload 6, 53, []), (53, .getfield 208, 56, [10, 3, 2065]), (56, .lload_n 2, 57, []), (60, .ifCond .ne 8, 63, [68]), (63, .iconst (-1), 64, []), (64, .iload 5, 66, []), (66, .isub, 67, []), (67, .ireturn, 68, []), (68, .aload 6, 70, []), (70, .lload_n 2, 71, []), (74, .lstore_n 2, 75, []), (75, .iload 4, 77, []), (77, .aload 6, 79, []), (79, .getfield 190, 82, [10, 2, 2059]), (82, .iadd, 83, []), (83, .istore 4, 85, []), (85, .iinc 5 1, 88, []), (88, .goto (-60), 91, [28]), (91, .aload_n 0, 92, []), (92, .getfield 42, 95, [0, 4, 2190]), (95, .getfield 222, 98, [8, 5, 2107]), (98, .lload_n 2, 99, []), (102, .ifCond .eq 8, 105, [110]), (105, .iload 4, 107, []), (107, .goto 5, 110, [112]), (110, .bipush (-100), 112, []), (112, .ireturn, 113, [])], [])
def xi_m12 : xi_M := (⟨"CheapPlanner", "estimate", "(I)I"⟩, prog_1_method_13_code, 2, some (.int), [(0, .aload_n 0, 1, []), (1, .invokevirtual 130, 4, [0, 13, 0, 4237, 4239, 30, 1001, 5000]), (4, .iload_n 1, 5, []), (5, .ifCond .lt 8, 8, [13]), (8, .iload_n 1, 9, []), (9, .iconst 1, 10, []), (10, .if_icmp .le 13, 13, [23]), (13, .new 133, 16, [14, 28, 183, 137, 5002, 3084, 1019]), (16, .dup, 17, []), (17, .ldc 183, 19, [1, 28]), (22, .athrow, 23, []), (23, .aload_n 0, 24, []), (24, .getfield 58, 27, [0, 6, 2192]), (27, .iload_n 1, 28, []), (28, .iconst 1, 29, []), (29, .if_icmp .ne 7, 32, [36]), (32, .iconst 1, 33, []), (33, .goto 4, 36, [37]), (36, .iconst 0, 37, []), (40, .ireturn, 41, [])], [])
def xi_m13 : xi_M := (⟨"CheapPlanner", "requireProblem", "()V"⟩, prog_1_method_14_code, 1, none, [(0, .aload_n 0, 1, []), (1, .getfield 74, 4, [0, 8, 2194]), (4, .ifCond .ne 13, 7, [17]), (7, .new 105, 10, [15, 22, 229, 109, 4104, 4105, 1024]), (10, .dup, 11, []), (11, .ldc 229, 13, [1, 22]), (16, .athrow, 17, []), (17, .return_, 18, [])], [])
def xi_m14 : xi_M := (⟨"CheapPlanner", "hasStep", "(I)Z"⟩, prog_1_method_15_code, 2, some (.boolean), [(0, .aload_n 0, 1, []), (1, .getfield 74, 4, [0, 8, 2194]), (4, .ifCond .eq 22, 7, [26]), (7, .iload_n 1, 8, []), (8, .ifCond .lt 18, 11, [26]), (11, .iload_n 1, 12, []), (12, .aload_n 0, 13, []), (13, .getfield 42, 16, [0, 4, 2190]), (16, .getfield 124, 19, [8, 3, 2097]), (19, .if_icmp .ge 7, 22, [26]), (22, .iconst 1, 23, []), (23, .goto 4, 26, [27]), (26, .iconst 0, 27, []), (27, .ireturn, 28, [])], [])
def xi_m15 : xi_M := (⟨"CheapPlanner", "forgetProblem", "()V"⟩, prog_1_method_16_code, 1, none, [(0, .aload_n 0, 1, []), (1, .iconst 0, 2, []), (2, .putfield 74, 5, [0, 8, 2194]), (5, .aload_n 0, 6, []), (6, .getfield 51, 9, [0, 5, 2191]), (9, .invokevirtual 231, 12, [0, 40, 0, 3034, 3035, 3036, 1012, 3037]), (12, .aload_n 0, 13, []), (13, .iconst 0, 14, []), (14, .putfield 138, 17, [0, 12, 2198]), (17, .aload_n 0, 18, []), (18, .iconst 0, 19, []), (19, .putfield 201, 22, [0, 10, 2196]), (22, .return_, 23, [])], [])
def xi_m16 : xi_M := (⟨"CheapPlanner$Tokens", "<init>", "()V"⟩, prog_13_method_1_code, 1, none, [(0, .aload_n 0, 1, []), (1, .invokespecial 3, 4, [0, 1042, 1035, 1036]), (4, .aload_n 0, 5, []), (5, .sipush 600, 8, []), (8, .newarray .char, 10, [1071]), (10, .putfield 9, 13, [1, 0, 1043]), (13, .aload_n 0, 14, []), (14, .sipush 601, 17, []), (17, .newarray .int, 19, [1072]), (19, .putfield 13, 22, [1, 2, 1045]), (22, .aload_n 0, 23, []), (23, .sipush 601, 26, []), (26, .newarray .int, 28, [1072]), (28, .putfield 17, 31, [1, 3, 1046]), (31, .aload_n 0, 32, []), (32, .sipush 601, 35, []), (35, .newarray .int, 37, [1072]), (37, .putfield 20, 40, [1, 4, 1047]), (40, .aload_n 0, 41, []), (41, .sipush 601, 44, []), (44, .newarray .long, 46, [1073]), (46, .putfield 23, 49, [1, 5, 1048]), (49, .return_, 50, [])], [])
def xi_m17 : xi_M := (⟨"CheapPlanner$Tokens", "size", "()I"⟩, prog_13_method_2_code, 1, some (.int), [(0, .aload_n 0, 1, []), (1, .getfield 27, 4, [1, 1, 1044]), (4, .ireturn, 5, [])], [])
def xi_m18 : xi_M := (⟨"CheapPlanner$Tokens", "shorten", "(I)V"⟩, prog_13_method_3_code, 2, none, [(0, .aload_n 0, 1, []), (1, .iload_n 1, 2, []), (2, .putfield 27, 5, [1, 1, 1044]), (5, .return_, 6, [])], [])
def xi_m19 : xi_M := (⟨"CheapPlanner$Tokens", "faultMet", "()I"⟩, prog_13_method_4_code, 1, some (.int), [(0, .aload_n 0, 1, []), (1, .getfield 31, 4, [1, 8, 1051]), (4, .ireturn, 5, [])], [])
def xi_m20 : xi_M := (⟨"CheapPlanner$Tokens", "take", "(I)Z"⟩, prog_13_method_5_code, 4, some (.boolean), [(0, .bipush 24, 2, []), (2, .istore_n 2, 3, []), (3, .iload_n 2, 4, []), (4, .ifCond .lt 31, 7, [35]), (7, .iload_n 1, 8, []), (8, .iload_n 2, 9, []), (9, .iushr, 10, []), (10, .sipush 255, 13, []), (13, .iand, 14, []), (14, .istore_n 3, 15, []), (15, .iload_n 3, 16, []), (16, .ifCond .eq 13, 19, [29]), (19, .aload_n 0, 20, []), (20, .iload_n 3, 21, []), (21, .invokevirtual 34, 24, [0, 21, 1, 2238, 3000, 0, 1002, 3001]), (24, .ifCond .ne 5, 27, [29]), (27, .iconst 0, 28, []), (28, .ireturn, 29, []), (29, .iinc 2 (-8), 32, []), (32, .goto (-29), 35, [3]), (35, .iconst 1, 36, []), (36, .ireturn, 37, [])], [])
def xi_m21 : xi_M := (⟨"CheapPlanner$Tokens", "takeCode", "(I)Z"⟩, prog_13_method_6_code, 2, some (.boolean), [(0, .iload_n 1, 1, []), (1, .bipush 32, 3, []), (3, .if_icmp .lt 19, 6, [22]), (6, .iload_n 1, 7, []), (7, .bipush 126, 9, []), (9, .if_icmp .gt 13, 12, [22]), (12, .aload_n 0, 13, []), (13, .getfield 27, 16, [1, 1, 1044]), (16, .sipush 600, 19, []), (19, .if_icmp .lt 5, 22, [24]), (22, .iconst 0, 23, []), (23, .ireturn, 24, []), (24, .aload_n 0, 25, []), (25, .getfield 9, 28, [1, 0, 1043]), (28, .aload_n 0, 29, []), (29, .getfield 27, 32, [1, 1, 1044]), (32, .iload_n 1, 33, []), (33, .i2c, 34, []), (34, .castore, 35, []), (35, .aload_n 0, 36, []), (36, .dup, 37, []), (37, .getfield 27, 40, [1, 1, 1044]), (40, .iconst 1, 41, []), (41, .iadd, 42, []), (42, .putfield 27, 45, [1, 1, 1044]), (45, .iconst 1, 46, []), (46, .ireturn, 47, [])], [])
def xi_m22 : xi_M := (⟨"CheapPlanner$Tokens", "cut", "()V"⟩, prog_13_method_7_code, 5, none, [(0, .aload_n 0, 1, []), (1, .iconst 0, 2, []), (2, .putfield 38, 5, [1, 6, 1049]), (5, .aload_n 0, 6, []), (6, .iconst 0, 7, []), (7, .putfield 41, 10, [1, 7, 1050]), (10, .aload_n 0, 11, []), (11, .iconst 0, 12, []), (12, .putfield 31, 15, [1, 8, 1051]), (15, .iconst (-1), 16, []), (16, .istore_n 1, 17, []), (17, .iconst 0, 18, []), (18, .istore_n 2, 19, []), (19, .iload_n 2, 20, []), (20, .aload_n 0, 21, []), (21, .getfield 27, 24, [1, 1, 1044]), (24, .if_icmp .ge 101, 27, [125]), (27, .aload_n 0, 28, []), (28, .getfield 9, 31, [1, 0, 1043]), (31, .iload_n 2, 32, []), (32, .caload, 33, []), (33, .istore_n 3, 34, []), (34, .iload_n 3, 35, []), (35, .bipush 32, 37, []), (37, .if_icmp .eq 19, 40, [56]), (40, .iload_n 3, 41, []), (41, .bipush 40, 43, []), (43, .if_icmp .eq 13, 46, [56]), (46, .iload_n 3, 47, []), (47, .bipush 41, 49, []), (49, .if_icmp .eq 7, 52, [56]), (52, .iconst 1, 53, []), (53, .goto 4, 56, [57]), (56, .iconst 0, 57, []), (57, .istore 4, 59, []), (59, .iload 4, 61, []), (61, .ifCond .eq 9, 64, [70]), (64, .iload_n 1, 65, []), (65, .ifCond .ge 5, 68, [70]), (68, .iload_n 2, 69, []), (69, .istore_n 1, 70, []), (70, .iload 4, 72, []), (72, .ifCond .ne 15, 75, [87]), (75, .iload_n 1, 76, []), (76, .ifCond .lt 11, 79, [87]), (79, .aload_n 0, 80, []), (80, .iload_n 1, 81, []), (81, .iload_n 2, 82, []), (85, .iconst (-1), 86, []), (86, .istore_n 1, 87, []), (87, .iload_n 3, 88, []), (88, .bipush 40, 90, []), (90, .if_icmp .eq 9, 93, [99]), (93, .iload_n 3, 94, []), (94, .bipush 41, 96, []), (96, .if_icmp .ne 23, 99, [119]), (99, .aload_n 0, 100, []), (100, .iload_n 3, 101, []), (101, .bipush 40, 103, []), (103, .if_icmp .ne 7, 106, [110]), (106, .iconst 0, 107, []), (107, .goto 4, 110, [111]), (110, .iconst 1, 111, []), (111, .iload_n 2, 112, []), (112, .iload_n 2, 113, []), (113, .iconst 1, 114, []), (114, .iadd, 115, []), (115, .lconst 0, 116, []), (116, .invokevirtual 48, 119, [0, 23, 4, 3058, 3060, 5, 1002, 3061]), (119, .iinc 2 1, 122, []), (122, .goto (-103), 125, [19]), (125, .iload_n 1, 126, []), (126, .ifCond .lt 12, 129, [138]), (129, .aload_n 0, 130, []), (130, .iload_n 1, 131, []), (131, .aload_n 0, 132, []), (132, .getfield 27, 135, [1, 1, 1044]), (138, .aload_n 0, 139, []), (139, .iconst 5, 140, []), (140, .aload_n 0, 141, []), (141, .getfield 27, 144, [1, 1, 1044]), (144, .aload_n 0, 145, []), (145, .getfield 27, 148, [1, 1, 1044]), (148, .lconst 0, 149, []), (149, .invokevirtual 48, 152, [0, 23, 4, 3058, 3060, 5, 1002, 3061]), (152, .aload_n 0, 153, []), (153, .iconst 0, 154, []), (154, .putfield 27, 157, [1, 1, 1044]), (157, .return_, 158, [])], [])
def xi_m23 : xi_M := (⟨"CheapPlanner$Tokens", "add", "(IIIJ)V"⟩, prog_13_method_10_code, 6, none, [(0, .aload_n 0, 1, []), (1, .getfield 13, 4, [1, 2, 1045]), (4, .aload_n 0, 5, []), (5, .getfield 38, 8, [1, 6, 1049]), (8, .iload_n 1, 9, []), (9, .iastore, 10, []), (10, .aload_n 0, 11, []), (11, .getfield 17, 14, [1, 3, 1046]), (14, .aload_n 0, 15, []), (15, .getfield 38, 18, [1, 6, 1049]), (18, .iload_n 2, 19, []), (19, .iastore, 20, []), (20, .aload_n 0, 21, []), (21, .getfield 20, 24, [1, 4, 1047]), (24, .aload_n 0, 25, []), (25, .getfield 38, 28, [1, 6, 1049]), (28, .iload_n 3, 29, []), (29, .iastore, 30, []), (30, .aload_n 0, 31, []), (31, .getfield 23, 34, [1, 5, 1048]), (34, .aload_n 0, 35, []), (35, .getfield 38, 38, [1, 6, 1049]), (38, .lload 4, 40, []), (40, .lastore, 41, []), (41, .aload_n 0, 42, []), (42, .dup, 43, []), (43, .getfield 38, 46, [1, 6, 1049]), (46, .iconst 1, 47, []), (47, .iadd, 48, []), (48, .putfield 38, 51, [1, 6, 1049]), (51, .return_, 52, [])], [])
def xi_m24 : xi_M := (⟨"CheapPlanner$Tokens", "want", "(I)V"⟩, prog_13_method_16_code, 2, none, [(0, .aload_n 0, 1, []), (1, .getfield 13, 4, [1, 2, 1045]), (4, .aload_n 0, 5, []), (5, .getfield 41, 8, [1, 7, 1050]), (8, .iaload, 9, []), (9, .iload_n 1, 10, []), (10, .if_icmp .eq 8, 13, [18]), (13, .aload_n 0, 14, []), (14, .iconst 1, 15, []), (15, .invokevirtual 65, 18, [0, 25, 1, 3079, 3080, 3081, 1002, 3082]), (18, .aload_n 0, 19, []), (22, .return_, 23, [])], [])
def xi_m25 : xi_M := (⟨"CheapPlanner$Tokens", "fail", "(I)V"⟩, prog_13_method_18_code, 2, none, [(0, .aload_n 0, 1, []), (1, .iload_n 1, 2, []), (2, .bipush 10, 4, []), (4, .aload_n 0, 5, []), (5, .getfield 17, 8, [1, 3, 1046]), (8, .aload_n 0, 9, []), (9, .getfield 41, 12, [1, 7, 1050]), (12, .iaload, 13, []), (13, .imul, 14, []), (14, .iadd, 15, []), (15, .putfield 31, 18, [1, 8, 1051]), (18, .new 76, 21, [14, 1, 78, 80, 3083, 3084, 1019]), (21, .dup, 22, []), (22, .ldc 78, 24, [1, 1]), (27, .athrow, 28, [])], [])
def xi_m26 : xi_M := (⟨"CheapPlanner$Names", "<init>", "(I)V"⟩, prog_7_method_1_code, 2, none, [(0, .aload_n 0, 1, []), (1, .invokespecial 1, 4, [0, 1085, 1035, 1036]), (4, .aload_n 0, 5, []), (5, .iload_n 1, 6, []), (6, .newarray .long, 8, [1073]), (8, .putfield 7, 11, [3, 0, 1086]), (11, .aload_n 0, 12, []), (12, .iload_n 1, 13, []), (13, .newarray .int, 15, [1072]), (15, .putfield 13, 18, [3, 1, 1088]), (18, .return_, 19, [])], [])
def xi_m27 : xi_M := (⟨"CheapPlanner$Names", "clear", "()V"⟩, prog_7_method_2_code, 1, none, [(0, .aload_n 0, 1, []), (1, .iconst 0, 2, []), (2, .putfield 17, 5, [3, 2, 1092]), (5, .return_, 6, [])], [])
def xi_m28 : xi_M := (⟨"CheapPlanner$Clause", "<init>", "(I)V"⟩, prog_2_method_1_code, 2, none, [(0, .aload_n 0, 1, []), (1, .invokespecial 1, 4, [0, 1111, 1035, 1036]), (4, .aload_n 0, 5, []), (5, .iload_n 1, 6, []), (6, .newarray .int, 8, [1072]), (8, .putfield 7, 11, [4, 0, 1112]), (11, .aload_n 0, 12, []), (12, .iload_n 1, 13, []), (13, .newarray .boolean, 15, [1144]), (15, .putfield 13, 18, [4, 1, 1115]), (18, .aload_n 0, 19, []), (19, .iload_n 1, 20, []), (20, .newarray .int, 22, [1072]), (22, .putfield 17, 25, [4, 2, 1118]), (25, .aload_n 0, 26, []), (26, .iload_n 1, 27, []), (27, .newarray .int, 29, [1072]), (29, .putfield 20, 32, [4, 3, 1121]), (32, .return_, 33, [])], [])
def xi_m29 : xi_M := (⟨"CheapPlanner$Domain", "<init>", "()V"⟩, prog_4_method_1_code, 2, none, [(0, .aload_n 0, 1, []), (1, .invokespecial 1, 4, [0, 1079, 1035, 1036]), (4, .aload_n 0, 5, []), (5, .new 7, 8, [3, 1080, 1081, 1004]), (8, .dup, 9, []), (9, .iconst 4, 10, []), (10, .invokespecial 11, 13, [1, 26, 1, 1082, 1083, 1004, 1084]), (13, .putfield 14, 16, [2, 1, 1146]), (16, .aload_n 0, 17, []), (17, .new 7, 20, [3, 1080, 1081, 1004]), (20, .dup, 21, []), (21, .bipush 6, 23, []), (23, .invokespecial 11, 26, [1, 26, 1, 1082, 1083, 1004, 1084]), (26, .putfield 18, 29, [2, 2, 1149]), (29, .aload_n 0, 30, []), (30, .bipush 6, 32, []), (32, .anewarray 7, 35, [4, 1080, 0]), (35, .putfield 21, 38, [2, 3, 1153]), (38, .aload_n 0, 39, []), (39, .new 7, 42, [3, 1080, 1081, 1004]), (42, .dup, 43, []), (43, .iconst 5, 44, []), (44, .invokespecial 11, 47, [1, 26, 1, 1082, 1083, 1004, 1084]), (47, .putfield 25, 50, [2, 4, 1157]), (50, .aload_n 0, 51, []), (51, .iconst 5, 52, []), (52, .anewarray 7, 55, [4, 1080, 0]), (55, .putfield 28, 58, [2, 5, 1161]), (58, .aload_n 0, 59, []), (59, .iconst 5, 60, []), (60, .anewarray 31, 63, [5, 1105, 0]), (63, .putfield 33, 66, [2, 6, 1164]), (66, .aload_n 0, 67, []), (67, .iconst 5, 68, []), (68, .anewarray 31, 71, [5, 1105, 0]), (71, .putfield 37, 74, [2, 7, 1167]), (74, .iconst 0, 75, []), (75, .istore_n 1, 76, []), (76, .iload_n 1, 77, []), (77, .bipush 6, 79, []), (79, .if_icmp .ge 23, 82, [102]), (82, .aload_n 0, 83, []), (83, .getfield 21, 86, [2, 3, 1153]), (86, .iload_n 1, 87, []), (87, .new 7, 90, [3, 1080, 1081, 1004]), (90, .dup, 91, []), (91, .iconst 2, 92, []), (92, .invokespecial 11, 95, [1, 26, 1, 1082, 1083, 1004, 1084]), (95, .aastore, 96, []), (96, .iinc 1 1, 99, []), (99, .goto (-23), 102, [76]), (102, .iconst 0, 103, []), (103, .istore_n 1, 104, []), (104, .iload_n 1, 105, []), (105, .iconst 5, 106, []), (106, .if_icmp .ge 51, 109, [157]), (109, .aload_n 0, 110, []), (110, .getfield 28, 113, [2, 5, 1161]), (113, .iload_n 1, 114, []), (114, .new 7, 117, [3, 1080, 1081, 1004]), (117, .dup, 118, []), (118, .iconst 3, 119, []), (119, .invokespecial 11, 122, [1, 26, 1, 1082, 1083, 1004, 1084]), (122, .aastore, 123, []), (123, .aload_n 0, 124, []), (124, .getfield 33, 127, [2, 6, 1164]), (127, .iload_n 1, 128, []), (128, .new 31, 131, [4, 1105, 1107, 1005]), (131, .dup, 132, []), (132, .iconst 4, 133, []), (133, .invokespecial 40, 136, [1, 28, 1, 1108, 1109, 1005, 1110]), (136, .aastore, 137, []), (137, .aload_n 0, 138, []), (138, .getfield 37, 141, [2, 7, 1167]), (141, .iload_n 1, 142, []), (142, .new 31, 145, [4, 1105, 1107, 1005]), (145, .dup, 146, []), (146, .iconst 4, 147, []), (147, .invokespecial 40, 150, [1, 28, 1, 1108, 1109, 1005, 1110]), (150, .aastore, 151, []), (151, .iinc 1 1, 154, []), (154, .goto (-50), 157, [104]), (157, .return_, 158, [])], [])
def xi_m30 : xi_M := (⟨"CheapPlanner$Domain", "clear", "()V"⟩, prog_4_method_2_code, 1, none, [(0, .aload_n 0, 1, []), (1, .getfield 14, 4, [2, 1, 1146]), (4, .invokevirtual 41, 7, [0, 27, 0, 3066, 3067, 3068, 1004, 3069]), (7, .aload_n 0, 8, []), (8, .getfield 18, 11, [2, 2, 1149]), (11, .invokevirtual 41, 14, [0, 27, 0, 3066, 3067, 3068, 1004, 3069]), (14, .aload_n 0, 15, []), (15, .getfield 25, 18, [2, 4, 1157]), (18, .invokevirtual 41, 21, [0, 27, 0, 3066, 3067, 3068, 1004, 3069]), (21, .return_, 22, [])], [])
def xi_m31 : xi_M := (⟨"CheapPlanner$Problem", "<init>", "()V"⟩, prog_9_method_1_code, 1, none, [(0, .aload_n 0, 1, []), (1, .invokespecial 1, 4, [0, 1192, 1035, 1036]), (4, .aload_n 0, 5, []), (5, .new 7, 8, [3, 1193, 1081, 1004]), (8, .dup, 9, []), (9, .bipush 6, 11, []), (11, .invokespecial 11, 14, [1, 26, 1, 1194, 1083, 1004, 1084]), (14, .putfield 14, 17, [5, 0, 1197]), (17, .aload_n 0, 18, []), (18, .new 18, 21, [4, 1195, 1107, 1005]), (21, .dup, 22, []), (22, .bipush 12, 24, []), (24, .invokespecial 20, 27, [1, 28, 1, 1196, 1109, 1005, 1110]), (27, .putfield 21, 30, [5, 1, 1201]), (30, .aload_n 0, 31, []), (31, .new 18, 34, [4, 1195, 1107, 1005]), (34, .dup, 35, []), (35, .iconst 4, 36, []), (36, .invokespecial 20, 39, [1, 28, 1, 1196, 1109, 1005, 1110]), (39, .putfield 27, 42, [5, 2, 1204]), (42, .return_, 43, [])], [])
def xi_m32 : xi_M := (⟨"CheapPlanner$Reader", "<init>", "(LCheapPlanner$Tokens;LCheapPlanner$Domain;LCheapPlanner$Problem;)V"⟩, prog_10_method_1_code, 4, none, [(0, .aload_n 0, 1, []), (1, .invokespecial 1, 4, [0, 1219, 1035, 1036]), (4, .aload_n 0, 5, []), (5, .aload_n 1, 6, []), (6, .putfield 7, 9, [6, 0, 1239]), (9, .aload_n 0, 10, []), (10, .aload_n 2, 11, []), (11, .putfield 13, 14, [6, 1, 2000]), (14, .aload_n 0, 15, []), (15, .aload_n 3, 16, []), (16, .putfield 17, 19, [6, 2, 2001]), (19, .aload_n 0, 20, []), (20, .new 21, 23, [7, 1220, 1221, 1008]), (23, .dup, 24, []), (24, .aload_n 1, 25, []), (25, .aload_n 2, 26, []), (26, .invokespecial 23, 29, [1, 35, 2, 1222, 1223, 1008, 1224]), (29, .putfield 26, 32, [6, 3, 2002]), (32, .return_, 33, [])], [])
def xi_m33 : xi_M := (⟨"CheapPlanner$Reader", "readDomain", "()V"⟩, prog_10_method_2_code, 2, none, [(0, .aload_n 0, 1, []), (1, .getfield 7, 4, [6, 0, 1239]), (4, .invokevirtual 30, 7, [0, 22, 0, 3046, 3047, 3048, 1002, 3049]), (7, .aload_n 0, 8, []), (8, .getfield 13, 11, [6, 1, 2000]), (11, .invokevirtual 35, 14, [0, 30, 0, 3062, 3063, 3064, 1003, 3065]), (14, .aload_n 0, 15, []), (15, .ldc 40, 17, [1, 0]), (17, .invokevirtual 42, 20, [0, 34, 1, 3071, 3073, 6, 1007, 3074]), (20, .aload_n 0, 21, []), (21, .getfield 13, 24, [6, 1, 2000]), (24, .aload_n 0, 25, []), (25, .getfield 7, 28, [6, 0, 1239]), (31, .putfield 50, 34, [2, 0, 1145]), (34, .aload_n 0, 35, []), (35, .getfield 7, 38, [6, 0, 1239]), (38, .iconst 2, 39, []), (39, .invokevirtual 54, 42, [0, 24, 1, 3075, 3076, 3077, 1002, 3078]), (42, .aload_n 0, 43, []), (43, .getfield 7, 46, [6, 0, 1239]), (46, .iconst 1, 47, []), (47, .invokevirtual 54, 50, [0, 24, 1, 3075, 3076, 3077, 1002, 3078]), (50, .aload_n 0, 51, []), (51, .getfield 7, 54, [6, 0, 1239]), (54, .iconst 0, 55, []), (55, .invokevirtual 54, 58, [0, 24, 1, 3075, 3076, 3077, 1002, 3078]), (58, .aload_n 0, 59, []), (59, .getfield 7, 62, [6, 0, 1239]), (62, .ldc 58, 64, [1, 3]), (67, .ifCond .eq 15, 70, [82]), (70, .aload_n 0, 71, []), (74, .aload_n 0, 75, []), (75, .getfield 7, 78, [6, 0, 1239]), (78, .iconst 0, 79, []), (79, .invokevirtual 54, 82, [0, 24, 1, 3075, 3076, 3077, 1002, 3078]), (82, .aload_n 0, 83, []), (86, .iconst 0, 87, []), (87, .istore_n 1, 88, []), (88, .iload_n 1, 89, []), (89, .iconst 5, 90, []), (90, .if_icmp .ge 29, 93, [119]), (93, .iload_n 1, 94, []), (94, .ifCond .eq 14, 97, [108]), (97, .aload_n 0, 98, []), (98, .getfield 7, 101, [6, 0, 1239]), (101, .iconst 0, 102, []), (105, .ifCond .eq 14, 108, [119]), (108, .aload_n 0, 109, []), (109, .iload_n 1, 110, []), (113, .iinc 1 1, 116, []), (116, .goto (-28), 119, [88]), (119, .aload_n 0, 120, []), (123, .return_, 124, [])], [])
def xi_m34 : xi_M := (⟨"CheapPlanner$Reader", "openDefinition", "(Ljava/lang/String;)V"⟩, prog_10_method_3_code, 2, none, [(0, .aload_n 0, 1, []), (1, .getfield 7, 4, [6, 0, 1239]), (4, .iconst 0, 5, []), (5, .invokevirtual 54, 8, [0, 24, 1, 3075, 3076, 3077, 1002, 3078]), (8, .aload_n 0, 9, []), (9, .getfield 7, 12, [6, 0, 1239]), (12, .ldc 80, 14, [1, 2]), (17, .aload_n 0, 18, []), (18, .getfield 7, 21, [6, 0, 1239]), (21, .iconst 0, 22, []), (22, .invokevirtual 54, 25, [0, 24, 1, 3075, 3076, 3077, 1002, 3078]), (25, .aload_n 0, 26, []), (26, .getfield 7, 29, [6, 0, 1239]), (29, .aload_n 1, 30, []), (33, .return_, 34, [])], [])
def xi_m35 : xi_M := (⟨"CheapPlanner$ClauseReader", "<init>", "(LCheapPlanner$Tokens;LCheapPlanner$Domain;)V"⟩, prog_3_method_1_code, 3, none, [(0, .aload_n 0, 1, []), (1, .invokespecial 1, 4, [0, 1225, 1035, 1036]), (4, .aload_n 0, 5, []), (5, .aload_n 1, 6, []), (6, .putfield 7, 9, [7, 0, 1226]), (9, .aload_n 0, 10, []), (10, .aload_n 2, 11, []), (11, .putfield 13, 14, [7, 1, 1227]), (14, .aload_n 0, 15, []), (15, .aload_n 2, 16, []), (16, .getfield 17, 19, [2, 1, 1147]), (19, .putfield 23, 22, [7, 2, 1228]), (22, .aload_n 0, 23, []), (23, .iconst 2, 24, []), (24, .putfield 28, 27, [7, 3, 1229]), (27, .return_, 28, [])], [])
def xi_m36 : xi_M := (⟨"CheapPlanner$Ground", "<init>", "()V"⟩, prog_6_method_1_code, 2, none, [(0, .aload_n 0, 1, []), (1, .invokespecial 1, 4, [0, 2017, 1035, 1036]), (4, .aload_n 0, 5, []), (5, .sipush 216, 8, []), (8, .newarray .int, 10, [1072]), (10, .putfield 11, 13, [8, 0, 2089]), (13, .aload_n 0, 14, []), (14, .bipush 41, 16, []), (16, .anewarray 17, 19, [6, 2018, 0]), (19, .putfield 19, 22, [8, 2, 2092]), (22, .aload_n 0, 23, []), (23, .new 23, 26, [9, 2020, 2021, 1010]), (26, .dup, 27, []), (27, .invokespecial 25, 30, [1, 37, 0, 0, 2023, 1010, 2024]), (30, .putfield 26, 33, [8, 5, 2104]), (33, .aload_n 0, 34, []), (34, .bipush 6, 36, []), (36, .newarray .int, 38, [1072]), (38, .putfield 30, 41, [8, 6, 2108]), (41, .iconst 0, 42, []), (42, .istore_n 1, 43, []), (43, .iload_n 1, 44, []), (44, .bipush 40, 46, []), (46, .if_icmp .gt 22, 49, [68]), (49, .aload_n 0, 50, []), (50, .getfield 19, 53, [8, 2, 2092]), (53, .iload_n 1, 54, []), (54, .new 17, 57, [10, 2018, 2044, 1011]), (57, .dup, 58, []), (58, .invokespecial 33, 61, [1, 38, 0, 0, 2046, 1011, 2047]), (61, .aastore, 62, []), (62, .iinc 1 1, 65, []), (65, .goto (-22), 68, [43]), (68, .iconst 0, 69, []), (69, .istore_n 1, 70, []), (70, .iload_n 1, 71, []), (71, .bipush 6, 73, []), (73, .if_icmp .ge 16, 76, [89]), (76, .aload_n 0, 77, []), (77, .getfield 30, 80, [8, 6, 2108]), (80, .iload_n 1, 81, []), (81, .iload_n 1, 82, []), (82, .iastore, 83, []), (83, .iinc 1 1, 86, []), (86, .goto (-16), 89, [70]), (89, .return_, 90, [])], [])
def xi_m37 : xi_M := (⟨"CheapPlanner$Needs", "<init>", "()V"⟩, prog_8_method_1_code, 1, none, [(0, .aload_n 0, 1, []), (1, .invokespecial 1, 4, [0, 2025, 1035, 1036]), (4, .aload_n 0, 5, []), (5, .iconst 4, 6, []), (6, .newarray .int, 8, [1072]), (8, .putfield 9, 11, [9, 3, 2029]), (11, .return_, 12, [])], [])
def xi_m38 : xi_M := (⟨"CheapPlanner$Step", "<init>", "()V"⟩, prog_12_method_1_code, 1, none, [(0, .aload_n 0, 1, []), (1, .invokespecial 1, 4, [0, 2048, 1035, 1036]), (4, .aload_n 0, 5, []), (5, .iconst 3, 6, []), (6, .newarray .int, 8, [1072]), (8, .putfield 9, 11, [10, 1, 2054]), (11, .aload_n 0, 12, []), (12, .new 15, 15, [9, 2049, 2021, 1010]), (15, .dup, 16, []), (16, .invokespecial 17, 19, [1, 37, 0, 0, 2023, 1010, 2024]), (19, .putfield 18, 22, [10, 3, 2061]), (22, .aload_n 0, 23, []), (23, .iconst 4, 24, []), (24, .newarray .int, 26, [1072]), (26, .putfield 22, 29, [10, 6, 2068]), (29, .return_, 30, [])], [])
def xi_m39 : xi_M := (⟨"CheapPlanner$Search", "<init>", "(LCheapPlanner$Ground;)V"⟩, prog_11_method_1_code, 2, none, [(0, .aload_n 0, 1, []), (1, .invokespecial 7, 4, [0, 2129, 1035, 1036]), (4, .aload_n 0, 5, []), (5, .sipush 200, 8, []), (8, .newarray .long, 10, [1073]), (10, .putfield 13, 13, [11, 1, 2131]), (13, .aload_n 0, 14, []), (14, .sipush 200, 17, []), (17, .newarray .int, 19, [1072]), (19, .putfield 19, 22, [11, 2, 2132]), (22, .aload_n 0, 23, []), (23, .sipush 200, 26, []), (26, .newarray .int, 28, [1072]), (28, .putfield 23, 31, [11, 3, 2133]), (31, .aload_n 0, 32, []), (32, .sipush 201, 35, []), (35, .newarray .int, 37, [1072]), (37, .putfield 26, 40, [11, 4, 2134]), (40, .aload_n 0, 41, []), (41, .sipush 201, 44, []), (44, .newarray .int, 46, [1072]), (46, .putfield 29, 49, [11, 5, 2135]), (49, .aload_n 0, 50, []), (50, .sipush 201, 53, []), (53, .newarray .int, 55, [1072]), (55, .putfield 32, 58, [11, 6, 2136]), (58, .aload_n 0, 59, []), (59, .sipush 512, 62, []), (62, .newarray .int, 64, [1072]), (64, .putfield 35, 67, [11, 7, 2137]), (67, .aload_n 0, 68, []), (68, .sipush 200, 71, []), (71, .newarray .int, 73, [1072]), (73, .putfield 38, 76, [11, 13, 2143]), (76, .aload_n 0, 77, []), (77, .aload_n 1, 78, []), (78, .putfield 41, 81, [11, 0, 2130]), (81, .return_, 82, [])], [])
def xi_m40 : xi_M := (⟨"CheapPlanner$Search", "forget", "()V"⟩, prog_11_method_7_code, 1, none, [(0, .aload_n 0, 1, []), (1, .iconst 0, 2, []), (2, .putfield 49, 5, [11, 11, 2141]), (5, .aload_n 0, 6, []), (6, .iconst 0, 7, []), (7, .putfield 45, 10, [11, 10, 2140]), (10, .aload_n 0, 11, []), (11, .iconst 0, 12, []), (12, .putfield 56, 15, [11, 8, 2138]), (15, .aload_n 0, 16, []), (16, .getfield 26, 19, [11, 4, 2134]), (19, .sipush 200, 22, []), (22, .ldc 59, 24, [0, 2147483647, 3038]), (24, .iastore, 25, []), (25, .aload_n 0, 26, []), (26, .getfield 35, 29, [11, 7, 2137]), (29, .iconst 0, 30, []), (30, .invokestatic 60, 33, [3, 43, 2, 3039, 3040, 1015, 3041]), (33, .return_, 34, [])], [])
def xi_m41 : xi_M := (⟨"CheapPlanner$Search", "hasFound", "()Z"⟩, prog_11_method_3_code, 1, some (.boolean), [(0, .aload_n 0, 1, []), (1, .getfield 49, 4, [11, 11, 2141]), (4, .ireturn, 5, [])], [])
def xi_m42 : xi_M := (⟨"CheapPlanner$Estimate", "<init>", "(LCheapPlanner$Ground;)V"⟩, prog_5_method_1_code, 2, none, [(0, .aload_n 0, 1, []), (1, .invokespecial 3, 4, [0, 2178, 1035, 1036]), (4, .aload_n 0, 5, []), (5, .bipush 40, 7, []), (7, .newarray .int, 9, [1072]), (9, .putfield 11, 12, [12, 1, 2180]), (12, .aload_n 0, 13, []), (13, .aload_n 1, 14, []), (14, .putfield 17, 17, [12, 0, 2179]), (17, .return_, 18, [])], [])
def xi_m43 : xi_M := (⟨"java/util/Arrays", "fill", "([II)V"⟩, prog_27_method_103_code, 4, none, [(0, .iconst 0, 1, []), (1, .istore_n 2, 2, []), (2, .aload_n 0, 3, []), (3, .arraylength, 4, []), (4, .istore_n 3, 5, []), (5, .iload_n 2, 6, []), (6, .iload_n 3, 7, []), (7, .if_icmp .ge 13, 10, [20]), (10, .aload_n 0, 11, []), (11, .iload_n 2, 12, []), (12, .iload_n 1, 13, []), (13, .iastore, 14, []), (14, .iinc 2 1, 17, []), (17, .goto (-12), 20, [5]), (20, .return_, 21, [])], [])
def xi_m44 : xi_M := (⟨"CheapPlannerModel", "<init>", "()V"⟩, prog_15_method_1_code, 1, none, [(0, .aload_n 0, 1, []), (1, .invokespecial 1, 4, [0, 5202, 1035, 1036]), (4, .aload_n 0, 5, []), (5, .sipush 600, 8, []), (8, .newarray .int, 10, [1072]), (10, .putfield 7, 13, [13, 2, 6007]), (13, .aload_n 0, 14, []), (14, .bipush 76, 16, []), (16, .newarray .int, 18, [1072]), (18, .putfield 13, 21, [13, 3, 6008]), (21, .aload_n 0, 22, []), (22, .sipush 602, 25, []), (25, .newarray .int, 27, [1072]), (27, .putfield 16, 30, [13, 6, 6011]), (30, .aload_n 0, 31, []), (31, .sipush 602, 34, []), (34, .newarray .int, 36, [1072]), (36, .putfield 19, 39, [13, 7, 6012]), (39, .aload_n 0, 40, []), (40, .iconst 5, 41, []), (41, .newarray .long, 43, [1073]), (43, .putfield 22, 46, [13, 16, 6021]), (46, .aload_n 0, 47, []), (47, .bipush 6, 49, []), (49, .newarray .long, 51, [1073]), (51, .putfield 26, 54, [13, 18, 6023]), (54, .aload_n 0, 55, []), (55, .bipush 6, 57, []), (57, .newarray .int, 59, [1072]), (59, .putfield 29, 62, [13, 19, 6024]), (62, .aload_n 0, 63, []), (63, .bipush 12, 65, []), (65, .newarray .int, 67, [1072]), (67, .putfield 32, 70, [13, 20, 6025]), (70, .aload_n 0, 71, []), (71, .iconst 5, 72, []), (72, .newarray .long, 74, [1073]), (74, .putfield 35, 77, [13, 22, 6027]), (77, .aload_n 0, 78, []), (78, .iconst 5, 79, []), (79, .newarray .int, 81, [1072]), (81, .putfield 38, 84, [13, 23, 6028]), (84, .aload_n 0, 85, []), (85, .bipush 15, 87, []), (87, .newarray .int, 89, [1072]), (89, .putfield 41, 92, [13, 24, 6029]), (92, .aload_n 0, 93, []), (93, .bipush 15, 95, []), (95, .newarray .long, 97, [1073]), (97, .putfield 44, 100, [13, 25, 6030]), (100, .aload_n 0, 101, []), (101, .iconst 5, 102, []), (102, .newarray .int, 104, [1072]), (104, .putfield 47, 107, [13, 26, 6031]), (107, .aload_n 0, 108, []), (108, .bipush 6, 110, []), (110, .newarray .int, 112, [1072]), (112, .putfield 50, 115, [13, 27, 6032]), (115, .aload_n 0, 116, []), (116, .iconst 5, 117, []), (117, .newarray .int, 119, [1072]), (119, .putfield 53, 122, [13, 28, 6033]), (122, .aload_n 0, 123, []), (123, .bipush 44, 125, []), (125, .newarray .boolean, 127, [1144]), (127, .putfield 56, 130, [13, 29, 6034]), (130, .aload_n 0, 131, []), (131, .bipush 44, 133, []), (133, .newarray .boolean, 135, [1144]), (135, .putfield 60, 138, [13, 30, 6035]), (138, .aload_n 0, 139, []), (139, .bipush 44, 141, []), (141, .newarray .int, 143, [1072]), (143, .putfield 63, 146, [13, 31, 6036]), (146, .aload_n 0, 147, []), (147, .bipush 88, 149, []), (149, .newarray .int, 151, [1072]), (151, .putfield 66, 154, [13, 32, 6037]), (154, .aload_n 0, 155, []), (155, .bipush 6, 157, []), (157, .newarray .long, 159, [1073]), (159, .putfield 69, 162, [13, 34, 6039]), (162, .aload_n 0, 163, []), (163, .bipush 6, 165, []), (165, .newarray .int, 167, [1072]), (167, .putfield 72, 170, [13, 35, 6040]), (170, .aload_n 0, 171, []), (171, .sipush 216, 174, []), (174, .newarray .int, 176, [1072]), (176, .putfield 75, 179, [13, 37, 6042]), (179, .aload_n 0, 180, []), (180, .bipush 40, 182, []), (182, .newarray .int, 184, [1072]), (184, .putfield 78, 187, [13, 40, 6045]), (187, .aload_n 0, 188, []), (188, .bipush 120, 190, []), (190, .newarray .int, 192, [1072]), (192, .putfield 81, 195, [13, 41, 6046]), (195, .aload_n 0, 196, []), (196, .bipush 40, 198, []), (198, .newarray .long, 200, [1073]), (200, .putfield 84, 203, [13, 42, 6047]), (203, .aload_n 0, 204, []), (204, .bipush 40, 206, []), (206, .newarray .long, 208, [1073]), (208, .putfield 87, 211, [13, 43, 6048]), (211, .aload_n 0, 212, []), (212, .bipush 40, 214, []), (214, .newarray .long, 216, [1073]), (216, .putfield 90, 219, [13, 44, 6049]), (219, .aload_n 0, 220, []), (220, .bipush 40, 222, []), (222, .newarray .long, 224, [1073]), (224, .putfield 93, 227, [13, 45, 6050]), (227, .aload_n 0, 228, []), (228, .sipush 201, 231, []), (231, .newarray .long, 233, [1073]), (233, .putfield 96, 236, [13, 50, 6055]), (236, .aload_n 0, 237, []), (237, .sipush 201, 240, []), (240, .newarray .int, 242, [1072]), (242, .putfield 99, 245, [13, 51, 6056]), (245, .aload_n 0, 246, []), (246, .sipush 201, 249, []), (249, .newarray .int, 251, [1072]), (251, .putfield 102, 254, [13, 52, 6057]), (254, .aload_n 0, 255, []), (255, .sipush 201, 258, []), (258, .newarray .int, 260, [1072]), (260, .putfield 105, 263, [13, 53, 6058]), (263, .aload_n 0, 264, []), (264, .sipush 201, 267, []), (267, .newarray .int, 269, [1072]), (269, .putfield 108, 272, [13, 54, 6059]), (272, .aload_n 0, 273, []), (273, .sipush 512, 276, []), (276, .newarray .int, 278, [1072]), (278, .putfield 111, 281, [13, 55, 6060]), (281, .aload_n 0, 282, []), (282, .sipush 201, 285, []), (285, .newarray .int, 287, [1072]), (287, .putfield 114, 290, [13, 56, 6061]), (290, .aload_n 0, 291, []), (291, .sipush 201, 294, []), (294, .newarray .int, 296, [1072]), (296, .putfield 117, 299, [13, 57, 6062]), (299, .aload_n 0, 300, []), (300, .sipush 201, 303, []), (303, .newarray .int, 305, [1072]), (305, .putfield 120, 308, [13, 59, 6064]), (308, .aload_n 0, 309, []), (309, .bipush 60, 311, []), (311, .newarray .int, 313, [1072]), (313, .putfield 123, 316, [13, 61, 6066]), (316, .aload_n 0, 317, []), (317, .iconst 2, 318, []), (318, .newarray .long, 320, [1073]), (320, .putfield 126, 323, [13, 62, 6067]), (323, .aload_n 0, 324, []), (324, .iconst 3, 325, []), (325, .newarray .int, 327, [1072]), (327, .putfield 129, 330, [13, 65, 6070]), (330, .aload_n 0, 331, []), (331, .bipush 40, 333, []), (333, .newarray .int, 335, [1072]), (335, .putfield 132, 338, [13, 70, 6075]), (338, .aload_n 0, 339, []), (339, .iconst 0, 340, []), (340, .ldc 135, 342, [0, 1684366953, 5203]), (342, .ldc 136, 344, [0, 1852112896, 5204]), (344, .iconst 0, 345, []), (345, .iconst 0, 346, []), (346, .invokevirtual 137, 349, [0, 45, 5, 5205, 5207, 47, 1014, 5208]), (349, .aload_n 0, 350, []), (350, .iconst 1, 351, []), (351, .ldc 141, 353, [0, 1685024097, 5209]), (353, .ldc 142, 355, [0, 1768816640, 5210]), (355, .iconst 0, 356, []), (356, .iconst 0, 357, []), (357, .invokevirtual 137, 360, [0, 45, 5, 5205, 5207, 47, 1014, 5208]), (360, .aload_n 0, 361, []), (361, .iconst 2, 362, []), (362, .ldc 143, 364, [0, 980711792, 5211]), (364, .ldc 144, 366, [0, 1702035456, 5212]), (366, .iconst 0, 367, []), (367, .iconst 0, 368, []), (368, .invokevirtual 137, 371, [0, 45, 5, 5205, 5207, 47, 1014, 5208]), (371, .aload_n 0, 372, []), (372, .iconst 3, 373, []), (373, .ldc 145, 375, [0, 980447845, 5213]), (375, .ldc 146, 377, [0, 1684628321, 5214]), (377, .ldc 147, 379, [0, 1952805632, 5215]), (379, .iconst 0, 380, []), (380, .invokevirtual 137, 383, [0, 45, 5, 5205, 5207, 47, 1014, 5208]), (383, .aload_n 0, 384, []), (384, .iconst 4, 385, []), (385, .ldc 148, 387, [0, 979460980, 5216]), (387, .ldc 149, 389, [0, 1768910336, 5217]), (389, .iconst 0, 390, []), (390, .iconst 0, 391, []), (391, .invokevirtual 137, 394, [0, 45, 5, 5205, 5207, 47, 1014, 5208]), (394, .aload_n 0, 395, []), (395, .iconst 5, 396, []), (396, .ldc 150, 398, [0, 980443506, 5218]), (398, .ldc 151, 400, [0, 1634559348, 5219]), (400, .ldc 152, 402, [0, 1701999360, 5220]), (402, .iconst 0, 403, []), (403, .invokevirtual 137, 406, [0, 45, 5, 5205, 5207, 47, 1014, 5208]), (406, .aload_n 0, 407, []), (407, .bipush 6, 409, []), (409, .ldc 145, 411, [0, 980447845, 5213]), (411, .ldc 153, 413, [0, 1668247140, 5221]), (413, .ldc 154, 415, [0, 1769236847, 5222]), (415, .ldc 155, 417, [0, 1845493760, 5223]), (417, .invokevirtual 137, 420, [0, 45, 5, 5205, 5207, 47, 1014, 5208]), (420, .aload_n 0, 421, []), (421, .bipush 7, 423, []), (423, .ldc 156, 425, [0, 979723878, 5224]), (425, .ldc 157, 427, [0, 1701016576, 5225]), (427, .iconst 0, 428, []), (428, .iconst 0, 429, []), (429, .invokevirtual 137, 432, [0, 45, 5, 5205, 5207, 47, 1014, 5208]), (432, .aload_n 0, 433, []), (433, .bipush 8, 435, []), (435, .ldc 158, 437, [0, 1634624512, 5226]), (437, .iconst 0, 438, []), (438, .iconst 0, 439, []), (439, .iconst 0, 440, []), (440, .invokevirtual 137, 443, [0, 45, 5, 5205, 5207, 47, 1014, 5208]), (443, .aload_n 0, 444, []), (444, .bipush 9, 446, []), (446, .ldc 159, 448, [0, 1852797952, 5227]), (448, .iconst 0, 449, []), (449, .iconst 0, 450, []), (450, .iconst 0, 451, []), (451, .invokevirtual 137, 454, [0, 45, 5, 5205, 5207, 47, 1014, 5208]), (454, .aload_n 0, 455, []), (455, .bipush 10, 457, []), (457, .ldc 160, 459, [0, 1023410176, 5228]), (459, .iconst 0, 460, []), (460, .iconst 0, 461, []), (461, .iconst 0, 462, []), (462, .invokevirtual 137, 465, [0, 45, 5, 5205, 5207, 47, 1014, 5208]), (465, .aload_n 0, 466, []), (466, .bipush 11, 468, []), (468, .ldc 161, 470, [0, 1768842098, 5229]), (470, .ldc 162, 472, [0, 1700885349, 5230]), (472, .iconst 0, 473, []), (473, .iconst 0, 474, []), (474, .invokevirtual 137, 477, [0, 45, 5, 5205, 5207, 47, 1014, 5208]), (477, .aload_n 0, 478, []), (478, .bipush 12, 480, []), (480, .ldc 163, 482, [0, 1953461345, 5231]), (482, .ldc 164, 484, [0, 1814913903, 5232]), (484, .ldc 165, 486, [0, 1936982016, 5233]), (486, .iconst 0, 487, []), (487, .invokevirtual 137, 490, [0, 45, 5, 5205, 5207, 47, 1014, 5208]), (490, .aload_n 0, 491, []), (491, .bipush 13, 493, []), (493, .ldc 166, 495, [0, 1886547810, 5234]), (495, .ldc 167, 497, [0, 1818586368, 5235]), (497, .iconst 0, 498, []), (498, .iconst 0, 499, []), (499, .invokevirtual 137, 502, [0, 45, 5, 5205, 5207, 47, 1014, 5208]), (502, .aload_n 0, 503, []), (503, .bipush 14, 505, []), (505, .ldc 168, 507, [0, 979660653, 5236]), (507, .ldc 169, 509, [0, 1634299392, 5237]), (509, .iconst 0, 510, []), (510, .iconst 0, 511, []), (511, .invokevirtual 137, 514, [0, 45, 5, 5205, 5207, 47, 1014, 5208]), (514, .aload_n 0, 515, []), (515, .bipush 15, 517, []), (517, .ldc 170, 519, [0, 980378218, 5238]), (519, .ldc 171, 521, [0, 1701016691, 5239]), (521, .iconst 0, 522, []), (522, .iconst 0, 523, []), (523, .invokevirtual 137, 526, [0, 45, 5, 5205, 5207, 47, 1014, 5208]), (526, .aload_n 0, 527, []), (527, .bipush 16, 529, []), (529, .ldc 172, 531, [0, 979988073, 6000]), (531, .ldc 173, 533, [0, 1946157056, 6001]), (533, .iconst 0, 534, []), (534, .iconst 0, 535, []), (535, .invokevirtual 137, 538, [0, 45, 5, 5205, 5207, 47, 1014, 5208]), (538, .aload_n 0, 539, []), (539, .bipush 17, 541, []), (541, .ldc 174, 543, [0, 979857249, 6002]), (543, .ldc 175, 545, [0, 1811939328, 6003]), (545, .iconst 0, 546, []), (546, .iconst 0, 547, []), (547, .invokevirtual 137, 550, [0, 45, 5, 5205, 5207, 47, 1014, 5208]), (550, .aload_n 0, 551, []), (551, .bipush 18, 553, []), (553, .ldc 176, 555, [0, 754974720, 6004]), (555, .iconst 0, 556, []), (556, .iconst 0, 557, []), (557, .iconst 0, 558, []), (558, .invokevirtual 137, 561, [0, 45, 5, 5205, 5207, 47, 1014, 5208]), (561, .return_, 562, [])], [])
def xi_m45 : xi_M := (⟨"CheapPlannerModel", "word", "(IIIII)V"⟩, prog_15_method_3_code, 6, none, [(0, .aload_n 0, 1, []), (1, .getfield 13, 4, [13, 3, 6008]), (4, .iconst 4, 5, []), (5, .iload_n 1, 6, []), (6, .imul, 7, []), (7, .iload_n 2, 8, []), (8, .iastore, 9, []), (9, .aload_n 0, 10, []), (10, .getfield 13, 13, [13, 3, 6008]), (13, .iconst 4, 14, []), (14, .iload_n 1, 15, []), (15, .imul, 16, []), (16, .iconst 1, 17, []), (17, .iadd, 18, []), (18, .iload_n 3, 19, []), (19, .iastore, 20, []), (20, .aload_n 0, 21, []), (21, .getfield 13, 24, [13, 3, 6008]), (24, .iconst 4, 25, []), (25, .iload_n 1, 26, []), (26, .imul, 27, []), (27, .iconst 2, 28, []), (28, .iadd, 29, []), (29, .iload 4, 31, []), (31, .iastore, 32, []), (32, .aload_n 0, 33, []), (33, .getfield 13, 36, [13, 3, 6008]), (36, .iconst 4, 37, []), (37, .iload_n 1, 38, []), (38, .imul, 39, []), (39, .iconst 3, 40, []), (40, .iadd, 41, []), (41, .iload 5, 43, []), (43, .iastore, 44, []), (44, .return_, 45, [])], [])
def xi_m46 : xi_M := (⟨"CheapPlannerModel", "thrown", "()I"⟩, prog_15_method_2_code, 1, some (.int), [(0, .aload_n 0, 1, []), (1, .getfield 177, 4, [13, 0, 6005]), (4, .ireturn, 5, [])], [])
def xi_m47 : xi_M := (⟨"CheapPlannerModel", "text", "(IIIII)Z"⟩, prog_15_method_4_code, 10, some (.boolean), [(0, .aload_n 0, 1, []), (1, .iconst 0, 2, []), (2, .putfield 177, 5, [13, 0, 6005]), (5, .iconst 0, 6, []), (6, .istore 6, 8, []), (8, .iconst 1, 9, []), (9, .istore 7, 11, []), (11, .iconst 0, 12, []), (12, .istore 8, 14, []), (14, .iload 8, 16, []), (16, .bipush 20, 18, []), (18, .if_icmp .ge 69, 21, [87]), (21, .iload 8, 23, []), (23, .iload_n 1, 24, []), (24, .iload_n 2, 25, []), (25, .iload_n 3, 26, []), (26, .iload 4, 28, []), (28, .iload 5, 30, []), (30, .invokestatic 181, 33, [3, 48, 6, 6227, 6228, 1014, 6229]), (33, .istore 9, 35, []), (35, .iload 6, 37, []), (37, .iload 9, 39, []), (39, .ifCond .ne 7, 42, [46]), (42, .iconst 0, 43, []), (43, .goto 4, 46, [47]), (46, .iconst 1, 47, []), (47, .iadd, 48, []), (48, .istore 6, 50, []), (50, .iload 7, 52, []), (52, .ifCond .eq 26, 55, [78]), (55, .iload 9, 57, []), (57, .ifCond .eq 17, 60, [74]), (60, .iload 9, 62, []), (62, .bipush 31, 64, []), (64, .if_icmp .le 14, 67, [78]), (67, .iload 9, 69, []), (69, .bipush 127, 71, []), (71, .if_icmp .ge 7, 74, [78]), (74, .iconst 1, 75, []), (75, .goto 4, 78, [79]), (78, .iconst 0, 79, []), (79, .istore 7, 81, []), (81, .iinc 8 1, 84, []), (84, .goto (-70), 87, [14]), (87, .iload 7, 89, []), (89, .ifCond .eq 16, 92, [105]), (92, .aload_n 0, 93, []), (93, .getfield 185, 96, [13, 1, 6006]), (96, .iload 6, 98, []), (98, .iadd, 99, []), (99, .sipush 600, 102, []), (102, .if_icmp .le 5, 105, [107]), (105, .iconst 0, 106, []), (106, .ireturn, 107, []), (107, .iconst 0, 108, []), (108, .istore 8, 110, []), (110, .iload 8, 112, []), (112, .bipush 20, 114, []), (114, .if_icmp .ge 52, 117, [166]), (117, .iload 8, 119, []), (119, .iload_n 1, 120, []), (120, .iload_n 2, 121, []), (121, .iload_n 3, 122, []), (122, .iload 4, 124, []), (124, .iload 5, 126, []), (126, .invokestatic 181, 129, [3, 48, 6, 6227, 6228, 1014, 6229]), (129, .istore 9, 131, []), (131, .iload 9, 133, []), (133, .ifCond .ne 6, 136, [139]), (136, .goto 24, 139, [160]), (139, .aload_n 0, 140, []), (140, .getfield 7, 143, [13, 2, 6007]), (143, .aload_n 0, 144, []), (144, .getfield 185, 147, [13, 1, 6006]), (147, .iload 9, 149, []), (149, .iastore, 150, []), (150, .aload_n 0, 151, []), (151, .dup, 152, []), (152, .getfield 185, 155, [13, 1, 6006]), (155, .iconst 1, 156, []), (156, .iadd, 157, []), (157, .putfield 185, 160, [13, 1, 6006]), (160, .iinc 8 1, 163, []), (163, .goto (-53), 166, [110]), (166, .iconst 1, 167, []), (167, .ireturn, 168, [])], [])
def xi_m48 : xi_M := (⟨"CheapPlannerModel", "byteOf", "(IIIIII)I"⟩, prog_15_method_5_code, 7, some (.int), [(0, .iload_n 0, 1, []), (1, .iconst 4, 2, []), (2, .if_icmp .ge 7, 5, [9]), (5, .iload_n 1, 6, []), (6, .goto 36, 9, [42]), (9, .iload_n 0, 10, []), (10, .bipush 8, 12, []), (12, .if_icmp .ge 7, 15, [19]), (15, .iload_n 2, 16, []), (16, .goto 26, 19, [42]), (19, .iload_n 0, 20, []), (20, .bipush 12, 22, []), (22, .if_icmp .ge 7, 25, [29]), (25, .iload_n 3, 26, []), (26, .goto 16, 29, [42]), (29, .iload_n 0, 30, []), (30, .bipush 16, 32, []), (32, .if_icmp .ge 8, 35, [40]), (35, .iload 4, 37, []), (37, .goto 5, 40, [42]), (40, .iload 5, 42, []), (42, .istore 6, 44, []), (44, .iload 6, 46, []), (46, .bipush 24, 48, []), (48, .bipush 8, 50, []), (50, .iload_n 0, 51, []), (51, .iconst 4, 52, []), (52, .irem, 53, []), (53, .imul, 54, []), (54, .isub, 55, []), (55, .ishr, 56, []), (56, .sipush 255, 59, []), (59, .iand, 60, []), (60, .ireturn, 61, [])], [])
def xi_m49 : xi_M := (⟨"CheapPlannerModel", "clearFault", "()V"⟩, prog_15_method_34_code, 1, none, [(0, .aload_n 0, 1, []), (1, .iconst 0, 2, []), (2, .putfield 194, 5, [13, 9, 6014]), (5, .aload_n 0, 6, []), (6, .iconst 0, 7, []), (7, .putfield 211, 10, [13, 10, 6015]), (10, .return_, 11, [])], [])
def xi_m50 : xi_M := (⟨"CheapPlannerModel", "scan", "()V"⟩, prog_15_method_6_code, 3, none, [(0, .aload_n 0, 1, []), (1, .iconst 0, 2, []), (2, .putfield 188, 5, [13, 4, 6009]), (5, .aload_n 0, 6, []), (6, .iconst 0, 7, []), (7, .putfield 191, 10, [13, 5, 6010]), (10, .iconst 0, 11, []), (11, .istore_n 1, 12, []), (12, .iload_n 1, 13, []), (13, .aload_n 0, 14, []), (14, .getfield 185, 17, [13, 1, 6006]), (17, .if_icmp .ge 135, 20, [152]), (20, .aload_n 0, 21, []), (21, .getfield 7, 24, [13, 2, 6007]), (24, .iload_n 1, 25, []), (25, .iaload, 26, []), (26, .bipush 32, 28, []), (28, .if_icmp .ne 9, 31, [37]), (31, .iinc 1 1, 34, []), (34, .goto (-22), 37, [12]), (37, .aload_n 0, 38, []), (38, .getfield 16, 41, [13, 6, 6011]), (41, .aload_n 0, 42, []), (42, .getfield 188, 45, [13, 4, 6009]), (45, .iload_n 1, 46, []), (46, .iastore, 47, []), (47, .aload_n 0, 48, []), (48, .getfield 7, 51, [13, 2, 6007]), (51, .iload_n 1, 52, []), (52, .iaload, 53, []), (53, .bipush 40, 55, []), (55, .if_icmp .eq 14, 58, [69]), (58, .aload_n 0, 59, []), (59, .getfield 7, 62, [13, 2, 6007]), (62, .iload_n 1, 63, []), (63, .iaload, 64, []), (64, .bipush 41, 66, []), (66, .if_icmp .ne 7, 69, [73]), (69, .iconst 1, 70, []), (70, .goto 4, 73, [74]), (73, .iconst 0, 74, []), (74, .istore_n 2, 75, []), (75, .iinc 1 1, 78, []), (78, .iload_n 2, 79, []), (79, .ifCond .ne 50, 82, [129]), (82, .iload_n 1, 83, []), (83, .aload_n 0, 84, []), (84, .getfield 185, 87, [13, 1, 6006]), (87, .if_icmp .ge 42, 90, [129]), (90, .aload_n 0, 91, []), (91, .getfield 7, 94, [13, 2, 6007]), (94, .iload_n 1, 95, []), (95, .iaload, 96, []), (96, .bipush 32, 98, []), (98, .if_icmp .eq 31, 101, [129]), (101, .aload_n 0, 102, []), (102, .getfield 7, 105, [13, 2, 6007]), (105, .iload_n 1, 106, []), (106, .iaload, 107, []), (107, .bipush 40, 109, []), (109, .if_icmp .eq 20, 112, [129]), (112, .aload_n 0, 113, []), (113, .getfield 7, 116, [13, 2, 6007]), (116, .iload_n 1, 117, []), (117, .iaload, 118, []), (118, .bipush 41, 120, []), (120, .if_icmp .eq 9, 123, [129]), (123, .iinc 1 1, 126, []), (126, .goto (-48), 129, [78]), (129, .aload_n 0, 130, []), (130, .getfield 19, 133, [13, 7, 6012]), (133, .aload_n 0, 134, []), (134, .getfield 188, 137, [13, 4, 6009]), (137, .iload_n 1, 138, []), (138, .iastore, 139, []), (139, .aload_n 0, 140, []), (140, .dup, 141, []), (141, .getfield 188, 144, [13, 4, 6009]), (144, .iconst 1, 145, []), (145, .iadd, 146, []), (146, .putfield 188, 149, [13, 4, 6009]), (149, .goto (-137), 152, [12]), (152, .aload_n 0, 153, []), (153, .getfield 16, 156, [13, 6, 6011]), (156, .aload_n 0, 157, []), (157, .getfield 188, 160, [13, 4, 6009]), (160, .aload_n 0, 161, []), (161, .getfield 185, 164, [13, 1, 6006]), (164, .iastore, 165, []), (165, .aload_n 0, 166, []), (166, .getfield 19, 169, [13, 7, 6012]), (169, .aload_n 0, 170, []), (170, .getfield 188, 173, [13, 4, 6009]), (173, .aload_n 0, 174, []), (174, .getfield 185, 177, [13, 1, 6006]), (177, .iastore, 178, []), (178, .return_, 179, [])], [])
def xi_m51 : xi_M := (⟨"CheapPlannerModel", "readDomain", "()V"⟩, prog_15_method_22_code, 2, none, [(0, .aload_n 0, 1, []), (1, .bipush 40, 3, []), (3, .invokevirtual 249, 6, [0, 52, 1, 7006, 7008, 51, 1014, 7009]), (6, .aload_n 0, 7, []), (7, .iconst 0, 8, []), (8, .invokevirtual 252, 11, [0, 56, 1, 7022, 7024, 55, 1014, 7025]), (11, .aload_n 0, 12, []), (12, .bipush 40, 14, []), (14, .invokevirtual 249, 17, [0, 52, 1, 7006, 7008, 51, 1014, 7009]), (17, .aload_n 0, 18, []), (18, .iconst 1, 19, []), (19, .invokevirtual 252, 22, [0, 56, 1, 7022, 7024, 55, 1014, 7025]), (22, .aload_n 0, 23, []), (23, .aload_n 0, 24, []), (24, .invokevirtual 232, 27, [0, 59, 0, 7034, 7036, 58, 1014, 7037]), (27, .putfield 255, 30, [13, 14, 6019]), (30, .aload_n 0, 31, []), (31, .invokevirtual 240, 34, [0, 62, 0, 7047, 7049, 61, 1014, 7050]), (34, .aload_n 0, 35, []), (35, .bipush 41, 37, []), (37, .invokevirtual 249, 40, [0, 52, 1, 7006, 7008, 51, 1014, 7009]), (40, .aload_n 0, 41, []), (41, .bipush 40, 43, []), (43, .invokevirtual 249, 46, [0, 52, 1, 7006, 7008, 51, 1014, 7009]), (46, .aload_n 0, 47, []), (47, .iconst 2, 48, []), (48, .invokevirtual 222, 51, [0, 57, 1, 7026, 7028, 56, 1014, 7029]), (51, .ifCond .eq 29, 54, [80]), (54, .aload_n 0, 55, []), (55, .dup, 56, []), (56, .getfield 191, 59, [13, 5, 6010]), (59, .iconst 1, 60, []), (60, .iadd, 61, []), (61, .putfield 191, 64, [13, 5, 6010]), (64, .aload_n 0, 65, []), (68, .aload_n 0, 69, []), (69, .bipush 41, 71, []), (71, .invokevirtual 249, 74, [0, 52, 1, 7006, 7008, 51, 1014, 7009]), (74, .aload_n 0, 75, []), (75, .bipush 40, 77, []), (77, .invokevirtual 249, 80, [0, 52, 1, 7006, 7008, 51, 1014, 7009]), (80, .aload_n 0, 81, []), (81, .iconst 3, 82, []), (82, .invokevirtual 252, 85, [0, 56, 1, 7022, 7024, 55, 1014, 7025]), (85, .iconst 1, 86, []), (86, .istore_n 1, 87, []), (87, .iload_n 1, 88, []), (88, .ifCond .eq 24, 91, [112]), (91, .aload_n 0, 92, []), (92, .invokevirtual 225, 95, [0, 60, 0, 7038, 7040, 59, 1014, 7041]), (95, .ifCond .ne 17, 98, [112]), (98, .aload_n 0, 99, []), (102, .aload_n 0, 103, []), (103, .bipush 40, 105, []), (105, .invokevirtual 214, 108, [0, 53, 1, 7010, 7012, 52, 1014, 7013]), (108, .istore_n 1, 109, []), (109, .goto (-22), 112, [87]), (112, .aload_n 0, 113, []), (113, .bipush 41, 115, []), (115, .invokevirtual 249, 118, [0, 52, 1, 7006, 7008, 51, 1014, 7009]), (118, .iconst 1, 119, []), (119, .istore_n 1, 120, []), (120, .iload_n 1, 121, []), (121, .ifCond .eq 24, 124, [145]), (124, .aload_n 0, 125, []), (125, .invokevirtual 225, 128, [0, 60, 0, 7038, 7040, 59, 1014, 7041]), (128, .ifCond .ne 17, 131, [145]), (131, .aload_n 0, 132, []), (135, .aload_n 0, 136, []), (136, .bipush 40, 138, []), (138, .invokevirtual 214, 141, [0, 53, 1, 7010, 7012, 52, 1014, 7013]), (141, .istore_n 1, 142, []), (142, .goto (-22), 145, [120]), (145, .aload_n 0, 146, []), (146, .bipush 41, 148, []), (148, .invokevirtual 249, 151, [0, 52, 1, 7006, 7008, 51, 1014, 7009]), (151, .aload_n 0, 152, []), (152, .invokevirtual 225, 155, [0, 60, 0, 7038, 7040, 59, 1014, 7041]), (155, .ifCond .ne 19, 158, [174]), (158, .aload_n 0, 159, []), (159, .getfield 191, 162, [13, 5, 6010]), (162, .aload_n 0, 163, []), (163, .getfield 188, 166, [13, 4, 6009]), (166, .if_icmp .ge 8, 169, [174]), (169, .aload_n 0, 170, []), (170, .iconst 1, 171, []), (171, .invokevirtual 218, 174, [0, 55, 1, 7018, 7020, 54, 1014, 7021]), (174, .return_, 175, [])], [])
def xi_m52 : xi_M := (⟨"CheapPlannerModel", "needSign", "(I)V"⟩, prog_15_method_15_code, 2, none, [(0, .aload_n 0, 1, []), (1, .iload_n 1, 2, []), (2, .invokevirtual 214, 5, [0, 53, 1, 7010, 7012, 52, 1014, 7013]), (5, .ifCond .eq 16, 8, [21]), (8, .aload_n 0, 9, []), (9, .dup, 10, []), (10, .getfield 191, 13, [13, 5, 6010]), (13, .iconst 1, 14, []), (14, .iadd, 15, []), (15, .putfield 191, 18, [13, 5, 6010]), (18, .goto 8, 21, [26]), (21, .aload_n 0, 22, []), (22, .iconst 1, 23, []), (23, .invokevirtual 218, 26, [0, 55, 1, 7018, 7020, 54, 1014, 7021]), (26, .return_, 27, [])], [])
def xi_m53 : xi_M := (⟨"CheapPlannerModel", "isSign", "(I)Z"⟩, prog_15_method_8_code, 2, some (.boolean), [(0, .aload_n 0, 1, []), (1, .getfield 194, 4, [13, 9, 6014]), (4, .ifCond .ne 33, 7, [37]), (7, .aload_n 0, 8, []), (8, .invokevirtual 197, 11, [0, 54, 0, 7014, 7016, 53, 1014, 7017]), (11, .iconst 1, 12, []), (12, .if_icmp .ne 25, 15, [37]), (15, .aload_n 0, 16, []), (16, .getfield 7, 19, [13, 2, 6007]), (19, .aload_n 0, 20, []), (20, .getfield 16, 23, [13, 6, 6011]), (23, .aload_n 0, 24, []), (24, .getfield 191, 27, [13, 5, 6010]), (27, .iaload, 28, []), (28, .iaload, 29, []), (29, .iload_n 1, 30, []), (30, .if_icmp .ne 7, 33, [37]), (33, .iconst 1, 34, []), (34, .goto 4, 37, [38]), (37, .iconst 0, 38, []), (38, .ireturn, 39, [])], [])
def xi_m54 : xi_M := (⟨"CheapPlannerModel", "size", "()I"⟩, prog_15_method_7_code, 1, some (.int), [(0, .aload_n 0, 1, []), (1, .getfield 19, 4, [13, 7, 6012]), (4, .aload_n 0, 5, []), (5, .getfield 191, 8, [13, 5, 6010]), (8, .iaload, 9, []), (9, .aload_n 0, 10, []), (10, .getfield 16, 13, [13, 6, 6011]), (13, .aload_n 0, 14, []), (14, .getfield 191, 17, [13, 5, 6010]), (17, .iaload, 18, []), (18, .isub, 19, []), (19, .ireturn, 20, [])], [])
def xi_m55 : xi_M := (⟨"CheapPlannerModel", "wrong", "(I)V"⟩, prog_15_method_13_code, 2, none, [(0, .aload_n 0, 1, []), (1, .getfield 194, 4, [13, 9, 6014]), (4, .ifCond .le 4, 7, [8]), (7, .return_, 8, []), (8, .aload_n 0, 9, []), (9, .iload_n 1, 10, []), (10, .putfield 194, 13, [13, 9, 6014]), (13, .aload_n 0, 14, []), (14, .aload_n 0, 15, []), (15, .getfield 16, 18, [13, 6, 6011]), (18, .aload_n 0, 19, []), (19, .getfield 191, 22, [13, 5, 6010]), (22, .iaload, 23, []), (23, .putfield 211, 26, [13, 10, 6015]), (26, .return_, 27, [])], [])
def xi_m56 : xi_M := (⟨"CheapPlannerModel", "needWord", "(I)V"⟩, prog_15_method_16_code, 2, none, [(0, .aload_n 0, 1, []), (1, .iload_n 1, 2, []), (2, .invokevirtual 222, 5, [0, 57, 1, 7026, 7028, 56, 1014, 7029]), (5, .ifCond .eq 16, 8, [21]), (8, .aload_n 0, 9, []), (9, .dup, 10, []), (10, .getfield 191, 13, [13, 5, 6010]), (13, .iconst 1, 14, []), (14, .iadd, 15, []), (15, .putfield 191, 18, [13, 5, 6010]), (18, .goto 8, 21, [26]), (21, .aload_n 0, 22, []), (22, .iconst 1, 23, []), (23, .invokevirtual 218, 26, [0, 55, 1, 7018, 7020, 54, 1014, 7021]), (26, .return_, 27, [])], [])
def xi_m57 : xi_M := (⟨"CheapPlannerModel", "isWord", "(I)Z"⟩, prog_15_method_10_code, 4, some (.boolean), [(0, .aload_n 0, 1, []), (1, .getfield 194, 4, [13, 9, 6014]), (4, .ifCond .ne 23, 7, [27]), (7, .aload_n 0, 8, []), (8, .invokevirtual 197, 11, [0, 54, 0, 7014, 7016, 53, 1014, 7017]), (11, .ifCond .le 16, 14, [27]), (14, .aload_n 0, 15, []), (15, .invokevirtual 197, 18, [0, 54, 0, 7014, 7016, 53, 1014, 7017]), (18, .bipush 17, 20, []), (20, .if_icmp .ge 7, 23, [27]), (23, .iconst 1, 24, []), (24, .goto 4, 27, [28]), (27, .iconst 0, 28, []), (28, .istore_n 2, 29, []), (29, .iconst 0, 30, []), (30, .istore_n 3, 31, []), (31, .iload_n 3, 32, []), (32, .bipush 16, 34, []), (34, .if_icmp .ge 63, 37, [97]), (37, .iload_n 2, 38, []), (38, .ifCond .eq 59, 41, [97]), (41, .aload_n 0, 42, []), (42, .aload_n 0, 43, []), (43, .getfield 16, 46, [13, 6, 6011]), (46, .aload_n 0, 47, []), (47, .getfield 191, 50, [13, 5, 6010]), (50, .iaload, 51, []), (51, .iload_n 3, 52, []), (52, .iadd, 53, []), (53, .invokevirtual 201, 56, [0, 58, 1, 7030, 7032, 57, 1014, 7033]), (56, .aload_n 0, 57, []), (57, .getfield 13, 60, [13, 3, 6008]), (60, .iconst 4, 61, []), (61, .iload_n 1, 62, []), (62, .imul, 63, []), (63, .iload_n 3, 64, []), (64, .iconst 4, 65, []), (65, .idiv, 66, []), (66, .iadd, 67, []), (67, .iaload, 68, []), (68, .bipush 24, 70, []), (70, .bipush 8, 72, []), (72, .iload_n 3, 73, []), (73, .iconst 4, 74, []), (74, .irem, 75, []), (75, .imul, 76, []), (76, .isub, 77, []), (77, .ishr, 78, []), (78, .sipush 255, 81, []), (81, .iand, 82, []), (82, .if_icmp .ne 7, 85, [89]), (85, .iconst 1, 86, []), (86, .goto 4, 89, [90]), (89, .iconst 0, 90, []), (90, .istore_n 2, 91, []), (91, .iinc 3 1, 94, []), (94, .goto (-63), 97, [31]), (97, .iload_n 2, 98, []), (98, .ireturn, 99, [])], [])
def xi_m58 : xi_M := (⟨"CheapPlannerModel", "letterAt", "(I)I"⟩, prog_15_method_9_code, 2, some (.int), [(0, .iload_n 1, 1, []), (1, .aload_n 0, 2, []), (2, .getfield 19, 5, [13, 7, 6012]), (5, .aload_n 0, 6, []), (6, .getfield 191, 9, [13, 5, 6010]), (9, .iaload, 10, []), (10, .if_icmp .ge 12, 13, [22]), (13, .aload_n 0, 14, []), (14, .getfield 7, 17, [13, 2, 6007]), (17, .iload_n 1, 18, []), (18, .iaload, 19, []), (19, .goto 4, 22, [23]), (22, .iconst 0, 23, []), (23, .ireturn, 24, [])], [])
def xi_m59 : xi_M := (⟨"CheapPlannerModel", "needName", "()J"⟩, prog_15_method_17_code, 3, some (.long), [(0, .aload_n 0, 1, []), (1, .invokevirtual 225, 4, [0, 60, 0, 7038, 7040, 59, 1014, 7041]), (4, .ifCond .eq 7, 7, [11]), (7, .lconst 0, 8, []), (8, .goto 8, 11, [16]), (11, .aload_n 0, 12, []), (12, .iconst 0, 13, []), (13, .invokevirtual 207, 16, [0, 61, 1, 7042, 7044, 60, 1014, 7045]), (16, .lstore_n 1, 17, []), (17, .lload_n 1, 18, []), (18, .lconst 0, 19, []), (19, .lcmp, 20, []), (20, .ifCond .ne 8, 23, [28]), (23, .aload_n 0, 24, []), (24, .iconst 1, 25, []), (25, .invokevirtual 218, 28, [0, 55, 1, 7018, 7020, 54, 1014, 7021]), (28, .lload_n 1, 29, []), (29, .lreturn, 30, [])], [])
def xi_m60 : xi_M := (⟨"CheapPlannerModel", "bad", "()Z"⟩, prog_15_method_14_code, 1, some (.boolean), [(0, .aload_n 0, 1, []), (1, .getfield 194, 4, [13, 9, 6014]), (4, .ifCond .le 7, 7, [11]), (7, .iconst 1, 8, []), (8, .goto 4, 11, [12]), (11, .iconst 0, 12, []), (12, .ireturn, 13, [])], [])
def xi_m61 : xi_M := (⟨"CheapPlannerModel", "nameAt", "(I)J"⟩, prog_15_method_11_code, 7, some (.long), [(0, .aload_n 0, 1, []), (1, .invokevirtual 197, 4, [0, 54, 0, 7014, 7016, 53, 1014, 7017]), (4, .iload_n 1, 5, []), (5, .isub, 6, []), (6, .istore_n 2, 7, []), (7, .aload_n 0, 8, []), (8, .getfield 194, 11, [13, 9, 6014]), (11, .ifCond .gt 14, 14, [25]), (14, .iload_n 2, 15, []), (15, .iconst 1, 16, []), (16, .if_icmp .lt 9, 19, [25]), (19, .iload_n 2, 20, []), (20, .bipush 6, 22, []), (22, .if_icmp .le 5, 25, [27]), (25, .lconst 0, 26, []), (26, .lreturn, 27, []), (27, .lconst 0, 28, []), (28, .lstore_n 3, 29, []), (29, .aload_n 0, 30, []), (30, .getfield 16, 33, [13, 6, 6011]), (33, .aload_n 0, 34, []), (34, .getfield 191, 37, [13, 5, 6010]), (37, .iaload, 38, []), (38, .iload_n 1, 39, []), (39, .iadd, 40, []), (40, .istore 5, 42, []), (42, .iload 5, 44, []), (44, .aload_n 0, 45, []), (45, .getfield 19, 48, [13, 7, 6012]), (48, .aload_n 0, 49, []), (49, .getfield 191, 52, [13, 5, 6010]), (52, .iaload, 53, []), (53, .if_icmp .ge 76, 56, [129]), (56, .aload_n 0, 57, []), (57, .getfield 7, 60, [13, 2, 6007]), (60, .iload 5, 62, []), (62, .iaload, 63, []), (63, .istore 6, 65, []), (65, .iload 6, 67, []), (67, .bipush 97, 69, []), (69, .if_icmp .lt 10, 72, [79]), (72, .iload 6, 74, []), (74, .bipush 122, 76, []), (76, .if_icmp .le 19, 79, [95]), (79, .iload 6, 81, []), (81, .bipush 48, 83, []), (83, .if_icmp .lt 10, 86, [93]), (86, .iload 6, 88, []), (88, .bipush 57, 90, []), (90, .if_icmp .le 5, 93, [95]), (93, .lconst 0, 94, []), (94, .lreturn, 95, []), (95, .ldc2_w 205, 98, [37, 7046]), (98, .lload_n 3, 99, []), (99, .lmul, 100, []), (100, .iload 6, 102, []), (102, .bipush 97, 104, []), (104, .if_icmp .ge 11, 107, [115]), (107, .iload 6, 109, []), (109, .bipush 21, 111, []), (111, .isub, 112, []), (112, .goto 8, 115, [120]), (115, .iload 6, 117, []), (117, .bipush 96, 119, []), (119, .isub, 120, []), (120, .i2l, 121, []), (121, .ladd, 122, []), (122, .lstore_n 3, 123, []), (123, .iinc 5 1, 126, []), (126, .goto (-84), 129, [42]), (129, .lload_n 3, 130, []), (130, .lreturn, 131, [])], [])
def xi_m62 : xi_M := (⟨"CheapPlannerModel", "pass", "()V"⟩, prog_15_method_18_code, 1, none, [(0, .aload_n 0, 1, []), (1, .dup, 2, []), (2, .getfield 191, 5, [13, 5, 6010]), (5, .aload_n 0, 6, []), (6, .invokevirtual 225, 9, [0, 60, 0, 7038, 7040, 59, 1014, 7041]), (9, .ifCond .eq 7, 12, [16]), (12, .iconst 0, 13, []), (13, .goto 4, 16, [17]), (16, .iconst 1, 17, []), (17, .iadd, 18, []), (18, .putfield 191, 21, [13, 5, 6010]), (21, .return_, 22, [])], [])
def xi_m63 : xi_M := (⟨"CheapPlannerModel", "told", "()Z"⟩, prog_15_method_35_code, 1, some (.boolean), [(0, .aload_n 0, 1, []), (1, .aload_n 0, 2, []), (2, .getfield 194, 5, [13, 9, 6014]), (5, .ifCond .ne 7, 8, [12]), (8, .iconst 0, 9, []), (9, .goto 15, 12, [24]), (12, .aload_n 0, 13, []), (13, .getfield 194, 16, [13, 9, 6014]), (16, .bipush 10, 18, []), (18, .aload_n 0, 19, []), (19, .getfield 211, 22, [13, 10, 6015]), (22, .imul, 23, []), (23, .iadd, 24, []), (24, .putfield 311, 27, [13, 8, 6013]), (27, .aload_n 0, 28, []), (28, .iconst 0, 29, []), (29, .putfield 185, 32, [13, 1, 6006]), (32, .aload_n 0, 33, []), (33, .aload_n 0, 34, []), (34, .getfield 194, 37, [13, 9, 6014]), (37, .ifCond .ne 7, 40, [44]), (40, .iconst 0, 41, []), (41, .goto 4, 44, [45]), (44, .iconst 1, 45, []), (45, .putfield 177, 48, [13, 0, 6005]), (48, .aload_n 0, 49, []), (49, .getfield 177, 52, [13, 0, 6005]), (52, .ifCond .ne 7, 55, [59]), (55, .iconst 1, 56, []), (56, .goto 4, 59, [60]), (59, .iconst 0, 60, []), (60, .ireturn, 61, [])], [])
def xi_m64 : xi_M := (⟨"CheapPlannerModel", "domain", "()I"⟩, prog_15_method_36_code, 1, some (.int), [(0, .aload_n 0, 1, []), (1, .invokevirtual 314, 4, [0, 49, 0, 6234, 6236, 48, 1014, 6237]), (4, .aload_n 0, 5, []), (5, .iconst 0, 6, []), (6, .putfield 229, 9, [13, 15, 6020]), (9, .aload_n 0, 10, []), (10, .iconst 0, 11, []), (11, .putfield 268, 14, [13, 17, 6022]), (14, .aload_n 0, 15, []), (15, .iconst 0, 16, []), (16, .putfield 274, 19, [13, 21, 6026]), (19, .aload_n 0, 20, []), (20, .iconst 0, 21, []), (21, .putfield 317, 24, [13, 12, 6017]), (24, .aload_n 0, 25, []), (25, .iconst 0, 26, []), (26, .putfield 320, 29, [13, 13, 6018]), (29, .aload_n 0, 30, []), (30, .invokevirtual 323, 33, [0, 50, 0, 6238, 7000, 49, 1014, 7001]), (33, .aload_n 0, 34, []), (34, .invokevirtual 326, 37, [0, 51, 0, 7002, 7004, 50, 1014, 7005]), (37, .aload_n 0, 38, []), (38, .aload_n 0, 39, []), (39, .invokevirtual 329, 42, [0, 63, 0, 7110, 7112, 76, 1014, 7113]), (42, .putfield 332, 45, [13, 11, 6016]), (45, .aload_n 0, 46, []), (46, .getfield 332, 49, [13, 11, 6016]), (49, .ifCond .eq 10, 52, [59]), (52, .aload_n 0, 53, []), (53, .getfield 274, 56, [13, 21, 6026]), (56, .goto 4, 59, [60]), (59, .iconst 0, 60, []), (60, .ireturn, 61, [])], [])
def xi_m65 : xi_M := (⟨"CheapPlannerModel", "problem", "()I"⟩, prog_15_method_49_code, 3, some (.int), [(0, .aload_n 0, 1, []), (1, .aload_n 0, 2, []), (2, .getfield 332, 5, [13, 11, 6016]), (5, .ifCond .eq 7, 8, [12]), (8, .iconst 0, 9, []), (9, .goto 4, 12, [13]), (12, .iconst 1, 13, []), (13, .putfield 177, 16, [13, 0, 6005]), (16, .aload_n 0, 17, []), (17, .getfield 177, 20, [13, 0, 6005]), (20, .ifCond .le 5, 23, [25]), (23, .iconst 0, 24, []), (24, .ireturn, 25, []), (25, .aload_n 0, 26, []), (26, .invokevirtual 314, 29, [0, 49, 0, 6234, 6236, 48, 1014, 6237]), (29, .aload_n 0, 30, []), (30, .iconst 0, 31, []), (31, .putfield 317, 34, [13, 12, 6017]), (34, .aload_n 0, 35, []), (35, .iconst 0, 36, []), (36, .putfield 320, 39, [13, 13, 6018]), (39, .aload_n 0, 40, []), (40, .iconst 0, 41, []), (41, .putfield 298, 44, [13, 33, 6038]), (44, .aload_n 0, 45, []), (45, .iconst 0, 46, []), (46, .putfield 375, 49, [13, 60, 6065]), (49, .aload_n 0, 50, []), (50, .invokevirtual 323, 53, [0, 50, 0, 6238, 7000, 49, 1014, 7001]), (53, .aload_n 0, 54, []), (57, .aload_n 0, 58, []), (58, .invokevirtual 329, 61, [0, 63, 0, 7110, 7112, 76, 1014, 7113]), (61, .ifCond .ne 10, 64, [71]), (64, .aload_n 0, 65, []), (65, .iconst 2, 66, []), (66, .putfield 177, 69, [13, 0, 6005]), (69, .iconst 0, 70, []), (70, .ireturn, 71, []), (71, .aload_n 0, 72, []), (72, .aload_n 0, 73, []), (73, .getfield 344, 76, [13, 64, 6069]), (76, .putfield 381, 79, [13, 38, 6043]), (79, .aload_n 0, 80, []), (80, .iconst 0, 81, []), (81, .putfield 368, 84, [13, 39, 6044]), (84, .aload_n 0, 85, []), (85, .getfield 347, 88, [13, 36, 6041]), (88, .bipush 40, 90, []), (90, .if_icmp .gt 7, 93, [97]), (93, .iconst 1, 94, []), (94, .goto 4, 97, [98]), (97, .iconst 0, 98, []), (98, .istore_n 1, 99, []), (99, .iconst 0, 100, []), (100, .istore_n 2, 101, []), (101, .iload_n 2, 102, []), (102, .aload_n 0, 103, []), (103, .getfield 274, 106, [13, 21, 6026]), (106, .if_icmp .ge 19, 109, [125]), (109, .iload_n 1, 110, []), (110, .ifCond .eq 15, 113, [125]), (113, .aload_n 0, 114, []), (114, .iload_n 2, 115, []), (118, .istore_n 1, 119, []), (119, .iinc 2 1, 122, []), (122, .goto (-21), 125, [101]), (125, .iload_n 1, 126, []), (126, .ifCond .ne 10, 129, [136]), (129, .aload_n 0, 130, []), (130, .iconst 3, 131, []), (131, .putfield 177, 134, [13, 0, 6005]), (134, .iconst 0, 135, []), (135, .ireturn, 136, []), (136, .aload_n 0, 137, []), (137, .aload_n 0, 138, []), (138, .iconst 5, 139, []), (139, .bipush 40, 141, []), (141, .aload_n 0, 142, []), (142, .getfield 50, 145, [13, 27, 6032]), (145, .iconst 5, 146, []), (146, .iaload, 147, []), (147, .iconst 0, 148, []), (151, .putfield 387, 154, [13, 46, 6051]), (154, .aload_n 0, 155, []), (155, .aload_n 0, 156, []), (156, .iconst 5, 157, []), (157, .bipush 40, 159, []), (159, .aload_n 0, 160, []), (160, .getfield 50, 163, [13, 27, 6032]), (163, .iconst 5, 164, []), (164, .iaload, 165, []), (165, .iconst 1, 166, []), (169, .putfield 390, 172, [13, 47, 6052]), (172, .aload_n 0, 173, []), (173, .aload_n 0, 174, []), (174, .iconst 5, 175, []), (175, .bipush 40, 177, []), (180, .putfield 393, 183, [13, 48, 6053]), (183, .aload_n 0, 184, []), (184, .iconst 1, 185, []), (185, .putfield 317, 188, [13, 12, 6017]), (188, .aload_n 0, 189, []), (189, .getfield 368, 192, [13, 39, 6044]), (192, .ireturn, 193, [])], [])
def xi_m66 : xi_M := (⟨"CheapPlannerModel", "fault", "()I"⟩, prog_15_method_37_code, 1, some (.int), [(0, .aload_n 0, 1, []), (1, .iconst 0, 2, []), (2, .putfield 177, 5, [13, 0, 6005]), (5, .aload_n 0, 6, []), (6, .getfield 311, 9, [13, 8, 6013]), (9, .ireturn, 10, [])], [])
def xi_m67 : xi_M := (⟨"CheapPlannerModel", "plan", "(I)I"⟩, prog_15_method_60_code, 3, some (.int), [(0, .aload_n 0, 1, []), (1, .aload_n 0, 2, []), (2, .getfield 317, 5, [13, 12, 6017]), (5, .ifCond .ne 7, 8, [12]), (8, .iconst 1, 9, []), (9, .goto 20, 12, [29]), (12, .iload_n 1, 13, []), (13, .iconst 1, 14, []), (14, .if_icmp .lt 10, 17, [24]), (17, .iload_n 1, 18, []), (18, .sipush 200, 21, []), (21, .if_icmp .le 7, 24, [28]), (24, .iconst 2, 25, []), (25, .goto 4, 28, [29]), (28, .iconst 0, 29, []), (29, .putfield 177, 32, [13, 0, 6005]), (32, .aload_n 0, 33, []), (33, .getfield 177, 36, [13, 0, 6005]), (36, .ifCond .le 5, 39, [41]), (39, .iconst 0, 40, []), (40, .ireturn, 41, []), (41, .aload_n 0, 42, []), (42, .iconst 0, 43, []), (43, .putfield 320, 46, [13, 13, 6018]), (46, .aload_n 0, 47, []), (47, .iconst 0, 48, []), (48, .putfield 434, 51, [13, 58, 6063]), (51, .aload_n 0, 52, []), (52, .aload_n 0, 53, []), (53, .getfield 381, 56, [13, 38, 6043]), (59, .ifCond .eq 10, 62, [69]), (62, .aload_n 0, 63, []), (63, .iconst 1, 64, []), (64, .putfield 320, 67, [13, 13, 6018]), (67, .iconst 0, 68, []), (68, .ireturn, 69, []), (69, .iconst 0, 70, []), (70, .istore_n 2, 71, []), (71, .iload_n 2, 72, []), (72, .sipush 512, 75, []), (75, .if_icmp .ge 16, 78, [91]), (78, .aload_n 0, 79, []), (79, .getfield 111, 82, [13, 55, 6060]), (82, .iload_n 2, 83, []), (83, .iconst 0, 84, []), (84, .iastore, 85, []), (85, .iinc 2 1, 88, []), (88, .goto (-17), 91, [71]), (91, .aload_n 0, 92, []), (92, .iconst 1, 93, []), (93, .putfield 404, 96, [13, 49, 6054]), (96, .aload_n 0, 97, []), (97, .getfield 96, 100, [13, 50, 6055]), (100, .iconst 0, 101, []), (101, .aload_n 0, 102, []), (102, .getfield 381, 105, [13, 38, 6043]), (105, .lastore, 106, []), (106, .aload_n 0, 107, []), (107, .getfield 99, 110, [13, 51, 6056]), (110, .iconst 0, 111, []), (111, .iconst 0, 112, []), (112, .iastore, 113, []), (113, .aload_n 0, 114, []), (114, .getfield 102, 117, [13, 52, 6057]), (117, .iconst 0, 118, []), (118, .iconst 0, 119, []), (119, .iastore, 120, []), (120, .aload_n 0, 121, []), (121, .getfield 111, 124, [13, 55, 6060]), (124, .aload_n 0, 125, []), (125, .aload_n 0, 126, []), (126, .getfield 381, 129, [13, 38, 6043]), (132, .iconst 1, 133, []), (133, .iastore, 134, []), (134, .aload_n 0, 135, []), (138, .istore_n 2, 139, []), (139, .iload_n 2, 140, []), (140, .iconst (-1), 141, []), (141, .if_icmp .ne 5, 144, [146]), (144, .iconst (-1), 145, []), (145, .ireturn, 146, []), (146, .aload_n 0, 147, []), (147, .iload_n 2, 148, []), (151, .aload_n 0, 152, []), (152, .getfield 419, 155, [13, 66, 6071]), (155, .ifCond .eq 33, 158, [188]), (158, .aload_n 0, 159, []), (159, .iconst 1, 160, []), (160, .putfield 320, 163, [13, 13, 6018]), (163, .aload_n 0, 164, []), (164, .aload_n 0, 165, []), (165, .getfield 102, 168, [13, 52, 6057]), (168, .sipush 200, 171, []), (171, .iaload, 172, []), (172, .putfield 434, 175, [13, 58, 6063]), (175, .aload_n 0, 176, []), (176, .sipush 200, 179, []), (179, .aload_n 0, 180, []), (180, .getfield 120, 183, [13, 59, 6064]), (186, .iload_n 2, 187, []), (187, .ireturn, 188, []), (188, .aload_n 0, 189, []), (189, .iload_n 2, 190, []), (190, .iload_n 1, 191, []), (194, .ifCond .ne 10, 197, [204]), (197, .aload_n 0, 198, []), (198, .iconst 3, 199, []), (199, .putfield 177, 202, [13, 0, 6005]), (202, .iconst 0, 203, []), (203, .ireturn, 204, []), (204, .goto (-70), 207, [134])], [])
def xi_m68 : xi_M := (⟨"CheapPlannerModel", "steps", "()I"⟩, prog_15_method_61_code, 1, some (.int), [(0, .aload_n 0, 1, []), (1, .aload_n 0, 2, []), (2, .getfield 320, 5, [13, 13, 6018]), (5, .ifCond .eq 7, 8, [12]), (8, .iconst 0, 9, []), (9, .goto 4, 12, [13]), (12, .iconst 1, 13, []), (13, .putfield 177, 16, [13, 0, 6005]), (16, .aload_n 0, 17, []), (17, .getfield 320, 20, [13, 13, 6018]), (20, .ifCond .eq 10, 23, [30]), (23, .aload_n 0, 24, []), (24, .getfield 434, 27, [13, 58, 6063]), (27, .goto 4, 30, [31]), (30, .iconst 0, 31, []), (31, .ireturn, 32, [])], [])
def xi_m69 : xi_M := (⟨"CheapPlannerModel", "step", "(I)I"⟩, prog_15_method_62_code, 2, some (.int), [(0, .aload_n 0, 1, []), (1, .aload_n 0, 2, []), (2, .getfield 320, 5, [13, 13, 6018]), (5, .ifCond .eq 15, 8, [20]), (8, .iload_n 1, 9, []), (9, .ifCond .lt 11, 12, [20]), (12, .iload_n 1, 13, []), (13, .aload_n 0, 14, []), (14, .getfield 434, 17, [13, 58, 6063]), (17, .if_icmp .lt 7, 20, [24]), (20, .iconst 1, 21, []), (21, .goto 4, 24, [25]), (24, .iconst 0, 25, []), (25, .putfield 177, 28, [13, 0, 6005]), (28, .aload_n 0, 29, []), (29, .getfield 177, 32, [13, 0, 6005]), (32, .ifCond .le 7, 35, [39]), (35, .iconst 0, 36, []), (36, .goto 9, 39, [45]), (39, .aload_n 0, 40, []), (40, .getfield 120, 43, [13, 59, 6064]), (43, .iload_n 1, 44, []), (44, .iaload, 45, []), (45, .ireturn, 46, [])], [])
def xi_m70 : xi_M := (⟨"CheapPlannerModel", "ground", "(II)I"⟩, prog_15_method_63_code, 3, some (.int), [(0, .aload_n 0, 1, []), (1, .aload_n 0, 2, []), (2, .getfield 317, 5, [13, 12, 6017]), (5, .ifCond .eq 15, 8, [20]), (8, .iload_n 1, 9, []), (9, .ifCond .lt 11, 12, [20]), (12, .iload_n 1, 13, []), (13, .aload_n 0, 14, []), (14, .getfield 368, 17, [13, 39, 6044]), (17, .if_icmp .lt 7, 20, [24]), (20, .iconst 1, 21, []), (21, .goto 17, 24, [38]), (24, .iload_n 2, 25, []), (25, .ifCond .lt 8, 28, [33]), (28, .iload_n 2, 29, []), (29, .iconst 4, 30, []), (30, .if_icmp .le 7, 33, [37]), (33, .iconst 2, 34, []), (34, .goto 4, 37, [38]), (37, .iconst 0, 38, []), (38, .putfield 177, 41, [13, 0, 6005]), (41, .aload_n 0, 42, []), (42, .getfield 177, 45, [13, 0, 6005]), (45, .ifCond .le 5, 48, [50]), (48, .iconst 0, 49, []), (49, .ireturn, 50, []), (50, .iload_n 2, 51, []), (51, .ifCond .ne 12, 54, [63]), (54, .aload_n 0, 55, []), (55, .getfield 78, 58, [13, 40, 6045]), (58, .iload_n 1, 59, []), (59, .iaload, 60, []), (60, .goto 34, 63, [94]), (63, .iload_n 2, 64, []), (64, .iconst 4, 65, []), (65, .if_icmp .ne 17, 68, [82]), (68, .aload_n 0, 69, []), (69, .getfield 47, 72, [13, 26, 6031]), (72, .aload_n 0, 73, []), (73, .getfield 78, 76, [13, 40, 6045]), (76, .iload_n 1, 77, []), (77, .iaload, 78, []), (78, .iaload, 79, []), (79, .goto 15, 82, [94]), (82, .aload_n 0, 83, []), (83, .getfield 81, 86, [13, 41, 6046]), (86, .iconst 3, 87, []), (87, .iload_n 1, 88, []), (88, .imul, 89, []), (89, .iload_n 2, 90, []), (90, .iadd, 91, []), (91, .iconst 1, 92, []), (92, .isub, 93, []), (93, .iaload, 94, []), (94, .ireturn, 95, [])], [])
def xi_m71 : xi_M := (⟨"CheapPlannerModel", "letter", "(I)C"⟩, prog_15_method_66_code, 5, some (.char), [(0, .aload_n 0, 1, []), (1, .iconst 0, 2, []), (2, .putfield 446, 5, [13, 67, 6072]), (5, .aload_n 0, 6, []), (6, .iload_n 1, 7, []), (7, .putfield 448, 10, [13, 68, 6073]), (10, .iconst 0, 11, []), (11, .istore_n 2, 12, []), (12, .iload_n 2, 13, []), (13, .aload_n 0, 14, []), (14, .getfield 434, 17, [13, 58, 6063]), (17, .if_icmp .ge 107, 20, [124]), (20, .aload_n 0, 21, []), (21, .getfield 320, 24, [13, 13, 6018]), (24, .ifCond .eq 100, 27, [124]), (27, .aload_n 0, 28, []), (28, .getfield 120, 31, [13, 59, 6064]), (31, .iload_n 2, 32, []), (32, .iaload, 33, []), (33, .istore_n 3, 34, []), (34, .aload_n 0, 35, []), (35, .bipush 40, 37, []), (40, .aload_n 0, 41, []), (41, .aload_n 0, 42, []), (42, .getfield 35, 45, [13, 22, 6027]), (45, .aload_n 0, 46, []), (46, .getfield 78, 49, [13, 40, 6045]), (49, .iload_n 3, 50, []), (50, .iaload, 51, []), (51, .laload, 52, []), (55, .iconst 0, 56, []), (56, .istore 4, 58, []), (58, .iload 4, 60, []), (60, .aload_n 0, 61, []), (61, .getfield 38, 64, [13, 23, 6028]), (64, .aload_n 0, 65, []), (65, .getfield 78, 68, [13, 40, 6045]), (68, .iload_n 3, 69, []), (69, .iaload, 70, []), (70, .iaload, 71, []), (71, .if_icmp .ge 35, 74, [106]), (74, .aload_n 0, 75, []), (75, .bipush 32, 77, []), (80, .aload_n 0, 81, []), (81, .aload_n 0, 82, []), (82, .getfield 69, 85, [13, 34, 6039]), (85, .aload_n 0, 86, []), (86, .getfield 81, 89, [13, 41, 6046]), (89, .iconst 3, 90, []), (90, .iload_n 3, 91, []), (91, .imul, 92, []), (92, .iload 4, 94, []), (94, .iadd, 95, []), (95, .iaload, 96, []), (96, .laload, 97, []), (100, .iinc 4 1, 103, []), (103, .goto (-45), 106, [58]), (106, .aload_n 0, 107, []), (107, .bipush 41, 109, []), (112, .aload_n 0, 113, []), (113, .bipush 10, 115, []), (118, .iinc 2 1, 121, []), (121, .goto (-109), 124, [12]), (124, .aload_n 0, 125, []), (125, .iload_n 1, 126, []), (126, .ifCond .lt 18, 129, [144]), (129, .iload_n 1, 130, []), (130, .aload_n 0, 131, []), (131, .getfield 446, 134, [13, 67, 6072]), (134, .if_icmp .ge 10, 137, [144]), (137, .aload_n 0, 138, []), (138, .getfield 320, 141, [13, 13, 6018]), (141, .ifCond .ne 7, 144, [148]), (144, .iconst 1, 145, []), (145, .goto 4, 148, [149]), (148, .iconst 0, 149, []), (149, .putfield 177, 152, [13, 0, 6005]), (152, .aload_n 0, 153, []), (153, .getfield 177, 156, [13, 0, 6005]), (156, .ifCond .le 7, 159, [163]), (159, .iconst 0, 160, []), (160, .goto 8, 163, [168]), (163, .aload_n 0, 164, []), (164, .getfield 451, 167, [13, 69, 6074]), (167, .i2c, 168, []), (168, .ireturn, 169, [])], [])
def xi_m72 : xi_M := (⟨"CheapPlannerModel", "put", "(I)Z"⟩, prog_15_method_67_code, 2, some (.boolean), [(0, .aload_n 0, 1, []), (1, .iconst 0, 2, []), (2, .putfield 177, 5, [13, 0, 6005]), (5, .aload_n 0, 6, []), (6, .getfield 317, 9, [13, 12, 6017]), (9, .ifCond .eq 24, 12, [33]), (12, .iload_n 1, 13, []), (13, .ifCond .lt 20, 16, [33]), (16, .iload_n 1, 17, []), (17, .aload_n 0, 18, []), (18, .getfield 368, 21, [13, 39, 6044]), (21, .if_icmp .ge 12, 24, [33]), (24, .aload_n 0, 25, []), (25, .getfield 375, 28, [13, 60, 6065]), (28, .bipush 60, 30, []), (30, .if_icmp .ne 5, 33, [35]), (33, .iconst 0, 34, []), (34, .ireturn, 35, []), (35, .aload_n 0, 36, []), (36, .getfield 123, 39, [13, 61, 6066]), (39, .aload_n 0, 40, []), (40, .getfield 375, 43, [13, 60, 6065]), (43, .iload_n 1, 44, []), (44, .iastore, 45, []), (45, .aload_n 0, 46, []), (46, .dup, 47, []), (47, .getfield 375, 50, [13, 60, 6065]), (50, .iconst 1, 51, []), (51, .iadd, 52, []), (52, .putfield 375, 55, [13, 60, 6065]), (55, .iconst 1, 56, []), (56, .ireturn, 57, [])], [])
def xi_m73 : xi_M := (⟨"CheapPlannerModel", "check", "()I"⟩, prog_15_method_68_code, 7, some (.int), [(0, .aload_n 0, 1, []), (1, .aload_n 0, 2, []), (2, .getfield 317, 5, [13, 12, 6017]), (5, .ifCond .eq 7, 8, [12]), (8, .iconst 0, 9, []), (9, .goto 4, 12, [13]), (12, .iconst 1, 13, []), (13, .putfield 177, 16, [13, 0, 6005]), (16, .aload_n 0, 17, []), (17, .getfield 177, 20, [13, 0, 6005]), (20, .ifCond .le 5, 23, [25]), (23, .iconst 0, 24, []), (24, .ireturn, 25, []), (25, .aload_n 0, 26, []), (26, .getfield 381, 29, [13, 38, 6043]), (29, .lstore_n 1, 30, []), (30, .iconst 0, 31, []), (31, .istore_n 3, 32, []), (32, .aload_n 0, 33, []), (33, .getfield 375, 36, [13, 60, 6065]), (36, .istore 4, 38, []), (38, .aload_n 0, 39, []), (39, .iconst 0, 40, []), (40, .putfield 375, 43, [13, 60, 6065]), (43, .iconst 0, 44, []), (44, .istore 5, 46, []), (46, .iload 5, 48, []), (48, .iload 4, 50, []), (50, .if_icmp .ge 56, 53, [106]), (53, .aload_n 0, 54, []), (54, .getfield 123, 57, [13, 61, 6066]), (57, .iload 5, 59, []), (59, .iaload, 60, []), (60, .istore 6, 62, []), (62, .aload_n 0, 63, []), (63, .iload 6, 65, []), (65, .lload_n 1, 66, []), (69, .ifCond .ne 8, 72, [77]), (72, .iconst (-1), 73, []), (73, .iload 5, 75, []), (75, .isub, 76, []), (76, .ireturn, 77, []), (77, .aload_n 0, 78, []), (78, .iload 6, 80, []), (80, .lload_n 1, 81, []), (84, .lstore_n 1, 85, []), (85, .iload_n 3, 86, []), (86, .aload_n 0, 87, []), (87, .getfield 47, 90, [13, 26, 6031]), (90, .aload_n 0, 91, []), (91, .getfield 78, 94, [13, 40, 6045]), (94, .iload 6, 96, []), (96, .iaload, 97, []), (97, .iaload, 98, []), (98, .iadd, 99, []), (99, .istore_n 3, 100, []), (100, .iinc 5 1, 103, []), (103, .goto (-57), 106, [46]), (106, .aload_n 0, 107, []), (107, .lload_n 1, 108, []), (111, .ifCond .eq 7, 114, [118]), (114, .iload_n 3, 115, []), (115, .goto 5, 118, [120]), (118, .bipush (-100), 120, []), (120, .ireturn, 121, [])], [])
def xi_m74 : xi_M := (⟨"CheapPlannerModel", "estimate", "(I)I"⟩, prog_15_method_70_code, 6, some (.int), [(0, .aload_n 0, 1, []), (1, .aload_n 0, 2, []), (2, .getfield 317, 5, [13, 12, 6017]), (5, .ifCond .ne 7, 8, [12]), (8, .iconst 1, 9, []), (9, .goto 17, 12, [26]), (12, .iload_n 1, 13, []), (13, .ifCond .lt 8, 16, [21]), (16, .iload_n 1, 17, []), (17, .iconst 1, 18, []), (18, .if_icmp .le 7, 21, [25]), (21, .iconst 2, 22, []), (22, .goto 4, 25, [26]), (25, .iconst 0, 26, []), (26, .putfield 177, 29, [13, 0, 6005]), (29, .aload_n 0, 30, []), (30, .getfield 177, 33, [13, 0, 6005]), (33, .ifCond .le 5, 36, [38]), (36, .iconst 0, 37, []), (37, .ireturn, 38, []), (38, .iconst 0, 39, []), (39, .istore_n 2, 40, []), (40, .iload_n 2, 41, []), (41, .aload_n 0, 42, []), (42, .getfield 347, 45, [13, 36, 6041]), (45, .if_icmp .ge 33, 48, [78]), (48, .aload_n 0, 49, []), (49, .getfield 132, 52, [13, 70, 6075]), (52, .iload_n 2, 53, []), (53, .aload_n 0, 54, []), (54, .getfield 381, 57, [13, 38, 6043]), (57, .iload_n 2, 58, []), (58, .lshr, 59, []), (59, .lconst 1, 60, []), (60, .land, 61, []), (61, .lconst 1, 62, []), (62, .lcmp, 63, []), (63, .ifCond .ne 7, 66, [70]), (66, .iconst 0, 67, []), (67, .goto 4, 70, [71]), (70, .iconst (-1), 71, []), (71, .iastore, 72, []), (72, .iinc 2 1, 75, []), (75, .goto (-35), 78, [40]), (78, .iconst 1, 79, []), (79, .istore_n 2, 80, []), (80, .iload_n 2, 81, []), (81, .ifCond .eq 159, 84, [240]), (84, .iconst 0, 85, []), (85, .istore_n 2, 86, []), (86, .iconst 0, 87, []), (87, .istore_n 3, 88, []), (88, .iload_n 3, 89, []), (89, .aload_n 0, 90, []), (90, .getfield 368, 93, [13, 39, 6044]), (93, .if_icmp .ge 144, 96, [237]), (96, .aload_n 0, 97, []), (97, .aload_n 0, 98, []), (98, .getfield 84, 101, [13, 42, 6047]), (101, .iload_n 3, 102, []), (102, .laload, 103, []), (103, .iload_n 1, 104, []), (107, .istore 4, 109, []), (109, .iload 4, 111, []), (111, .iconst (-1), 112, []), (112, .if_icmp .ne 6, 115, [118]), (115, .goto 116, 118, [231]), (118, .iload 4, 120, []), (120, .aload_n 0, 121, []), (121, .getfield 47, 124, [13, 26, 6031]), (124, .aload_n 0, 125, []), (125, .getfield 78, 128, [13, 40, 6045]), (128, .iload_n 3, 129, []), (129, .iaload, 130, []), (130, .iaload, 131, []), (131, .iadd, 132, []), (132, .ldc_w 461, 135, [0, 100000, 8012]), (135, .if_icmp .le 9, 138, [144]), (138, .ldc_w 461, 141, [0, 100000, 8012]), (141, .goto 17, 144, [158]), (144, .iload 4, 146, []), (146, .aload_n 0, 147, []), (147, .getfield 47, 150, [13, 26, 6031]), (150, .aload_n 0, 151, []), (151, .getfield 78, 154, [13, 40, 6045]), (154, .iload_n 3, 155, []), (155, .iaload, 156, []), (156, .iaload, 157, []), (157, .iadd, 158, []), (158, .istore 4, 160, []), (160, .iconst 0, 161, []), (161, .istore 5, 163, []), (163, .iload 5, 165, []), (165, .aload_n 0, 166, []), (166, .getfield 347, 169, [13, 36, 6041]), (169, .if_icmp .ge 62, 172, [231]), (172, .aload_n 0, 173, []), (173, .getfield 90, 176, [13, 44, 6049]), (176, .iload_n 3, 177, []), (177, .laload, 178, []), (178, .iload 5, 180, []), (180, .lshr, 181, []), (181, .lconst 1, 182, []), (182, .land, 183, []), (183, .lconst 0, 184, []), (184, .lcmp, 185, []), (185, .ifCond .eq 40, 188, [225]), (188, .aload_n 0, 189, []), (189, .getfield 132, 192, [13, 70, 6075]), (192, .iload 5, 194, []), (194, .iaload, 195, []), (195, .iconst (-1), 196, []), (196, .if_icmp .eq 18, 199, [214]), (199, .aload_n 0, 200, []), (200, .getfield 132, 203, [13, 70, 6075]), (203, .iload 5, 205, []), (205, .iaload, 206, []), (206, .iload 4, 208, []), (208, .if_icmp .gt 6, 211, [214]), (211, .goto 14, 214, [225]), (214, .aload_n 0, 215, []), (215, .getfield 132, 218, [13, 70, 6075]), (218, .iload 5, 220, []), (220, .iload 4, 222, []), (222, .iastore, 223, []), (223, .iconst 1, 224, []), (224, .istore_n 2, 225, []), (225, .iinc 5 1, 228, []), (228, .goto (-65), 231, [163]), (231, .iinc 3 1, 234, []), (234, .goto (-146), 237, [88]), (237, .goto (-157), 240, [80]), (240, .aload_n 0, 241, []), (241, .aload_n 0, 242, []), (242, .getfield 387, 245, [13, 46, 6051]), (245, .iload_n 1, 246, []), (249, .ireturn, 250, [])], [])
def xi_m75 : xi_M := (⟨"CheapPlannerLaw", "domain", "(LCheapPlanner;[J)I"⟩, method_3_code, 3, some (.int), [(0, .aload_n 1, 1, []), (1, .iconst 0, 2, []), (2, .aload_n 0, 3, []), (3, .invokevirtual 7, 6, [0, 2, 0, 3026, 3027, 3028, 1001, 3029]), (6, .i2l, 7, []), (7, .lastore, 8, []), (8, .goto 6, 11, [14]), (11, .astore_n 2, 12, []), (12, .iconst 1, 13, []), (13, .ireturn, 14, []), (14, .iconst 0, 15, []), (15, .ireturn, 16, [])], [(0, 8, 11, 13, 14)])
def xi_m76 : xi_M := (⟨"CheapPlannerLaw", "problem", "(LCheapPlanner;[J)I"⟩, method_4_code, 3, some (.int), [(0, .aload_n 1, 1, []), (1, .iconst 0, 2, []), (2, .aload_n 0, 3, []), (3, .invokevirtual 15, 6, [0, 3, 0, 4100, 4101, 4102, 1001, 4103]), (6, .i2l, 7, []), (7, .lastore, 8, []), (8, .goto 12, 11, [20]), (11, .astore_n 2, 12, []), (12, .iconst 1, 13, []), (13, .ireturn, 14, []), (14, .astore_n 2, 15, []), (15, .iconst 2, 16, []), (16, .ireturn, 17, []), (17, .astore_n 2, 18, []), (18, .iconst 3, 19, []), (19, .ireturn, 20, []), (20, .iconst 0, 21, []), (21, .ireturn, 22, [])], [(0, 8, 11, 18, 15), (0, 8, 14, 13, 14), (0, 8, 17, 20, 16)])
def xi_m77 : xi_M := (⟨"CheapPlannerLaw", "plan", "(LCheapPlanner;I[J)I"⟩, method_5_code, 4, some (.int), [(0, .aload_n 2, 1, []), (1, .iconst 0, 2, []), (2, .aload_n 0, 3, []), (3, .iload_n 1, 4, []), (4, .invokevirtual 22, 7, [0, 5, 1, 4233, 4234, 4235, 1001, 4236]), (7, .i2l, 8, []), (8, .lastore, 9, []), (9, .goto 12, 12, [21]), (12, .astore_n 3, 13, []), (13, .iconst 1, 14, []), (14, .ireturn, 15, []), (15, .astore_n 3, 16, []), (16, .iconst 2, 17, []), (17, .ireturn, 18, []), (18, .astore_n 3, 19, []), (19, .iconst 3, 20, []), (20, .ireturn, 21, []), (21, .iconst 0, 22, []), (22, .ireturn, 23, [])], [(0, 9, 12, 18, 15), (0, 9, 15, 13, 14), (0, 9, 18, 20, 16)])
def xi_m78 : xi_M := (⟨"CheapPlannerLaw", "steps", "(LCheapPlanner;[J)I"⟩, method_6_code, 3, some (.int), [(0, .aload_n 1, 1, []), (1, .iconst 0, 2, []), (2, .aload_n 0, 3, []), (3, .invokevirtual 26, 6, [0, 6, 0, 5100, 5101, 5102, 1001, 5103]), (6, .i2l, 7, []), (7, .lastore, 8, []), (8, .goto 6, 11, [14]), (11, .astore_n 2, 12, []), (12, .iconst 1, 13, []), (13, .ireturn, 14, []), (14, .iconst 0, 15, []), (15, .ireturn, 16, [])], [(0, 8, 11, 29, 17)])
def xi_m79 : xi_M := (⟨"CheapPlannerLaw", "step", "(LCheapPlanner;I[J)I"⟩, method_7_code, 4, some (.int), [(0, .aload_n 2, 1, []), (1, .iconst 0, 2, []), (2, .aload_n 0, 3, []), (3, .iload_n 1, 4, []), (4, .invokevirtual 31, 7, [0, 7, 1, 5123, 5124, 5125, 1001, 5126]), (7, .i2l, 8, []), (8, .lastore, 9, []), (9, .goto 6, 12, [15]), (12, .astore_n 3, 13, []), (13, .iconst 1, 14, []), (14, .ireturn, 15, []), (15, .iconst 0, 16, []), (16, .ireturn, 17, [])], [(0, 9, 12, 29, 17)])
def xi_m80 : xi_M := (⟨"CheapPlannerLaw", "ground", "(LCheapPlanner;II[J)I"⟩, method_8_code, 5, some (.int), [(0, .aload_n 3, 1, []), (1, .iconst 0, 2, []), (2, .aload_n 0, 3, []), (3, .iload_n 1, 4, []), (4, .iload_n 2, 5, []), (5, .invokevirtual 34, 8, [0, 8, 2, 5131, 5132, 5133, 1001, 5134]), (8, .i2l, 9, []), (9, .lastore, 10, []), (10, .goto 11, 13, [21]), (13, .astore 4, 15, []), (15, .iconst 1, 16, []), (16, .ireturn, 17, []), (17, .astore 4, 19, []), (19, .iconst 2, 20, []), (20, .ireturn, 21, []), (21, .iconst 0, 22, []), (22, .ireturn, 23, [])], [(0, 10, 13, 29, 17), (0, 10, 17, 13, 14)])
def xi_m81 : xi_M := (⟨"CheapPlannerLaw", "letter", "(LCheapPlanner;I[J)I"⟩, method_9_code, 4, some (.int), [(0, .aload_n 2, 1, []), (1, .iconst 0, 2, []), (2, .aload_n 0, 3, []), (3, .iload_n 1, 4, []), (4, .invokevirtual 38, 7, [0, 9, 1, 5141, 5142, 5143, 1001, 5144]), (7, .i2l, 8, []), (8, .lastore, 9, []), (9, .goto 6, 12, [15]), (12, .astore_n 3, 13, []), (13, .iconst 1, 14, []), (14, .ireturn, 15, []), (15, .iconst 0, 16, []), (16, .ireturn, 17, [])], [(0, 9, 12, 42, 18)])
def xi_m82 : xi_M := (⟨"CheapPlannerLaw", "check", "(LCheapPlanner;[J)I"⟩, method_10_code, 3, some (.int), [(0, .aload_n 1, 1, []), (1, .iconst 0, 2, []), (2, .aload_n 0, 3, []), (3, .invokevirtual 44, 6, [0, 11, 0, 5164, 5165, 5166, 1001, 5167]), (6, .i2l, 7, []), (7, .lastore, 8, []), (8, .goto 6, 11, [14]), (11, .astore_n 2, 12, []), (12, .iconst 1, 13, []), (13, .ireturn, 14, []), (14, .iconst 0, 15, []), (15, .ireturn, 16, [])], [(0, 8, 11, 18, 15)])
def xi_m83 : xi_M := (⟨"CheapPlannerLaw", "estimate", "(LCheapPlanner;I[J)I"⟩, method_11_code, 4, some (.int), [(0, .aload_n 2, 1, []), (1, .iconst 0, 2, []), (2, .aload_n 0, 3, []), (3, .iload_n 1, 4, []), (4, .invokevirtual 47, 7, [0, 12, 1, 5173, 5174, 5175, 1001, 5176]), (7, .i2l, 8, []), (8, .lastore, 9, []), (9, .goto 9, 12, [18]), (12, .astore_n 3, 13, []), (13, .iconst 1, 14, []), (14, .ireturn, 15, []), (15, .astore_n 3, 16, []), (16, .iconst 2, 17, []), (17, .ireturn, 18, []), (18, .iconst 0, 19, []), (19, .ireturn, 20, [])], [(0, 9, 12, 18, 15), (0, 9, 15, 13, 14)])
def xi_ms : List xi_M := [xi_m0, xi_m1, xi_m2, xi_m3, xi_m4, xi_m5, xi_m6, xi_m7, xi_m8, xi_m9, xi_m10, xi_m11, xi_m12, xi_m13, xi_m14, xi_m15, xi_m16, xi_m17, xi_m18, xi_m19, xi_m20, xi_m21, xi_m22, xi_m23, xi_m24, xi_m25, xi_m26, xi_m27, xi_m28, xi_m29, xi_m30, xi_m31, xi_m32, xi_m33, xi_m34, xi_m35, xi_m36, xi_m37, xi_m38, xi_m39, xi_m40, xi_m41, xi_m42, xi_m43, xi_m44, xi_m45, xi_m46, xi_m47, xi_m48, xi_m49, xi_m50, xi_m51, xi_m52, xi_m53, xi_m54, xi_m55, xi_m56, xi_m57, xi_m58, xi_m59, xi_m60, xi_m61, xi_m62, xi_m63, xi_m64, xi_m65, xi_m66, xi_m67, xi_m68, xi_m69, xi_m70, xi_m71, xi_m72, xi_m73, xi_m74, xi_m75, xi_m76, xi_m77, xi_m78, xi_m79, xi_m80, xi_m81, xi_m82, xi_m83]
end
section
/-! RULES FOR RUNS -/
section XG
variable {Ms : List xi_M} {n y fr lo pc : Nat} {M : xi_M} {lv lv' : xi_L} {st st' r : List Value} {A A' A1 : xi_H} {I : Instr} {nx pc' pc2 : Nat} {aux : List Nat} {res : Option (Outcome × xi_H)}
theorem xg_s (hM : Ms[y]? = some M) (hrow : xi_row M.2.2.2.2.1 pc = some (I, nx, aux)) (hx : xi_x Ms M I aux fr lo st A = some (.inr (.inr none))) (hs : xi_s M.2.2.1 I nx aux lv st A = some (pc', lv', st', A')) (hpc : pc' = pc2) (hk : xi_go Ms n y fr lo pc2 lv' st' A' = res) : xi_go Ms (n + 1) y fr lo pc lv st A = res := by
  subst hpc
  rw [xi_go_succ]
  unfold xi_body
  rw [hM]
  simp only
  rw [hrow]
  simp only
  rw [hx]
  simp only
  rw [hs]
  exact hk
theorem xg_e {o : Outcome} (hM : Ms[y]? = some M) (hrow : xi_row M.2.2.2.2.1 pc = some (I, nx, aux)) (hx : xi_x Ms M I aux fr lo st A = some (.inl (o, A'))) : xi_go Ms (n + 1) y fr lo pc lv st A = some (o, A') := by
  rw [xi_go_succ]
  unfold xi_body
  rw [hM]
  simp only
  rw [hrow]
  simp only
  rw [hx]
theorem xg_get {i ci k ix a : Nat} {fs : List Value} {v : Value} (hM : Ms[y]? = some M) (hrow : xi_row M.2.2.2.2.1 pc = some (.getfield i, nx, [ci, k, ix])) (hA : A[a]? = some (.inr (ci, fs))) (hv : fs[k]? = some v) (hk : xi_go Ms n y fr lo nx lv (v :: r) A = res) : xi_go Ms (n + 1) y fr lo pc lv (.ref a :: r) A = res := by
  refine xg_s (pc' := nx) (lv' := lv) (st' := v :: r) (A' := A) hM hrow rfl ?_ rfl hk
  simp only [xi_s, hA, if_true, hv]
theorem xg_put {i ci k ix a : Nat} {fs : List Value} {v : Value} (hM : Ms[y]? = some M) (hrow : xi_row M.2.2.2.2.1 pc = some (.putfield i, nx, [ci, k, ix])) (hA : A[a]? = some (.inr (ci, fs))) (hl : k < fs.length) (hn : narrow (xi_ty ci k) v = v) (hf : fits (xi_ty ci k) v = true) (hk : xi_go Ms n y fr lo nx lv r (A.set a (.inr (ci, fs.set k v))) = res) : xi_go Ms (n + 1) y fr lo pc lv (v :: .ref a :: r) A = res := by
  refine xg_s (pc' := nx) (lv' := lv) (st' := r) (A' := A.set a (.inr (ci, fs.set k v))) hM hrow rfl ?_ rfl hk
  simp only [xi_s, hA]
  rw [if_pos ⟨trivial, hl, hn, hf⟩]
theorem xi_x_v {i x cM k b ci : Nat} {tl : List Nat} {As rest fs : List Value} {Mc : xi_M} (hMc : Ms[cM]? = some Mc) (hk : As.length = k) (hb : A[b]? = some (.inr (ci, fs))) (hc : ((xi_cl[ci]?).map (·.1) = some Mc.1.cls ∧ xi_wt rest ≤ 8 ∧ 1 ≤ fr) ∧ 19 + Mc.2.2.1 ≤ lo ∧ xi_wt (.ref b :: As) ≤ Mc.2.2.1 ∧ Mc.2.2.2.2.2 = []) : xi_x Ms M (.invokevirtual i) (x :: cM :: k :: tl) fr lo (As.reverse ++ .ref b :: rest) A = some (.inr (.inl (cM, .ref b :: As, rest, Mc.2.2.1, true))) := by
  have hlen : k = As.reverse.length := by rw [List.length_reverse, hk]
  have hd : (As.reverse ++ Value.ref b :: rest).drop k = .ref b :: rest := by rw [hlen]; simp
  have ht : ((As.reverse ++ Value.ref b :: rest).take k).reverse = As := by rw [hlen]; simp
  have hpos : 0 < A.length := by
    have := (List.getElem?_eq_some_iff.mp hb).1
    omega
  obtain ⟨⟨c1, c2, c3⟩, c4, c5, c6⟩ := hc
  simp only [xi_x, xi_cv, hd, hMc, hb, ht]
  rw [if_pos ⟨⟨c1, by rw [List.length_append, ← hlen]; omega, c2, c3⟩, c4, c5, c6, hpos⟩]
theorem xg_V {i x cM k b ci : Nat} {tl : List Nat} {As rest fs : List Value} {Mc : xi_M} {v : Option Value} (hM : Ms[y]? = some M) (hrow : xi_row M.2.2.2.2.1 pc = some (.invokevirtual i, nx, x :: cM :: k :: tl)) (hMc : Ms[cM]? = some Mc) (hst : st = As.reverse ++ .ref b :: rest) (hk : As.length = k) (hb : A[b]? = some (.inr (ci, fs))) (hc : ((xi_cl[ci]?).map (·.1) = some Mc.1.cls ∧ xi_wt rest ≤ 8 ∧ 1 ≤ fr) ∧ 19 + Mc.2.2.1 ≤ lo ∧ xi_wt (.ref b :: As) ≤ Mc.2.2.1 ∧ Mc.2.2.2.2.2 = [])
    (hr : xi_go Ms n cM (fr - 1) (lo - (19 + Mc.2.2.1)) 0 (lv_args 0 (.ref b :: As)) [] A = some (.returned v, A1)) (hk2 : xi_go Ms n y fr lo nx lv (v.toList ++ rest) A1 = res) : xi_go Ms (n + 1) y fr lo pc lv st A = res := by
  subst hst
  rw [xi_go_succ]
  unfold xi_body
  rw [hM]
  simp only
  rw [hrow]
  simp only
  rw [xi_x_v hMc hk hb hc]
  simp only
  rw [hr]
  exact hk2
theorem xg_VT {i x cM k b ci q : Nat} {tl : List Nat} {As rest fs : List Value} {Mc : xi_M} (hM : Ms[y]? = some M) (hrow : xi_row M.2.2.2.2.1 pc = some (.invokevirtual i, nx, x :: cM :: k :: tl)) (hMc : Ms[cM]? = some Mc) (hst : st = As.reverse ++ .ref b :: rest) (hk : As.length = k) (hb : A[b]? = some (.inr (ci, fs))) (hc : ((xi_cl[ci]?).map (·.1) = some Mc.1.cls ∧ xi_wt rest ≤ 8 ∧ 1 ≤ fr) ∧ 19 + Mc.2.2.1 ≤ lo ∧ xi_wt (.ref b :: As) ≤ Mc.2.2.1 ∧ Mc.2.2.2.2.2 = []) (hh : M.2.2.2.2.2 = [])
    (hr : xi_go Ms n cM (fr - 1) (lo - (19 + Mc.2.2.1)) 0 (lv_args 0 (.ref b :: As)) [] A = some (.threw q, A1)) : xi_go Ms (n + 1) y fr lo pc lv st A = some (.threw q, A1) := by
  subst hst
  rw [xi_go_succ]
  unfold xi_body
  rw [hM]
  simp only
  rw [hrow]
  simp only
  rw [xi_x_v hMc hk hb hc]
  simp only
  rw [hr]
  simp only [if_true]
  rw [hh]
theorem xg_VC {i x cM k b ci q a1 a2 h ct cx : Nat} {hs : List (Nat × Nat × Nat × Nat × Nat)} {tl : List Nat} {As rest fs fx : List Value} {Mc : xi_M} (hM : Ms[y]? = some M) (hrow : xi_row M.2.2.2.2.1 pc = some (.invokevirtual i, nx, x :: cM :: k :: tl)) (hMc : Ms[cM]? = some Mc) (hst : st = As.reverse ++ .ref b :: rest) (hk : As.length = k) (hb : A[b]? = some (.inr (ci, fs))) (hc : ((xi_cl[ci]?).map (·.1) = some Mc.1.cls ∧ xi_wt rest ≤ 8 ∧ 1 ≤ fr) ∧ 19 + Mc.2.2.1 ≤ lo ∧ xi_wt (.ref b :: As) ≤ Mc.2.2.1 ∧ Mc.2.2.2.2.2 = []) (hh : M.2.2.2.2.2 = (a1, a2, h, ct, cx) :: hs)
    (hr : xi_go Ms n cM (fr - 1) (lo - (19 + Mc.2.2.1)) 0 (lv_args 0 (.ref b :: As)) [] A = some (.threw q, A1)) (hq : A1[q]? = some (.inr (cx, fx))) (hcov : a1 ≤ pc ∧ pc < a2) (hk2 : xi_go Ms n y fr lo h lv [.ref q] A1 = res) : xi_go Ms (n + 1) y fr lo pc lv st A = res := by
  subst hst
  rw [xi_go_succ]
  unfold xi_body
  rw [hM]
  simp only
  rw [hrow]
  simp only
  rw [xi_x_v hMc hk hb hc]
  simp only
  rw [hr]
  simp only [if_true]
  rw [hh]
  simp only
  rw [hq]
  simp only
  rw [if_pos ⟨trivial, hcov⟩]
  exact hk2
end XG
/-- the rules, goal first -/
def xg_P (P : Option (Outcome × xi_H) → Prop) (r : Option (Outcome × xi_H)) : Prop := P r
section XP
variable {P : Option (Outcome × xi_H) → Prop} {Ms : List xi_M} {n y fr lo pc : Nat} {M : xi_M} {lv lv' : xi_L} {st st' r : List Value} {A A' A1 : xi_H} {I : Instr} {nx pc' pc2 : Nat} {aux : List Nat}
theorem xp_s (hM : Ms[y]? = some M) (hrow : xi_row M.2.2.2.2.1 pc = some (I, nx, aux)) (hx : xi_x Ms M I aux fr lo st A = some (.inr (.inr none))) (hs : xi_s M.2.2.1 I nx aux lv st A = some (pc', lv', st', A')) (hpc : pc' = pc2) (hk : xg_P P (xi_go Ms n y fr lo pc2 lv' st' A')) : xg_P P (xi_go Ms (n + 1) y fr lo pc lv st A) := by
  rw [xg_s hM hrow hx hs hpc rfl]
  exact hk
theorem xp_e {o : Outcome} (hM : Ms[y]? = some M) (hrow : xi_row M.2.2.2.2.1 pc = some (I, nx, aux)) (hx : xi_x Ms M I aux fr lo st A = some (.inl (o, A'))) (hk : P (some (o, A'))) : xg_P P (xi_go Ms (n + 1) y fr lo pc lv st A) := by
  rw [xg_e hM hrow hx]
  exact hk
theorem xp_get {i ci k ix a : Nat} {fs : List Value} {v : Value} (hM : Ms[y]? = some M) (hrow : xi_row M.2.2.2.2.1 pc = some (.getfield i, nx, [ci, k, ix])) (hA : A[a]? = some (.inr (ci, fs))) (hv : fs[k]? = some v) (hk : xg_P P (xi_go Ms n y fr lo nx lv (v :: r) A)) : xg_P P (xi_go Ms (n + 1) y fr lo pc lv (.ref a :: r) A) := by
  rw [xg_get hM hrow hA hv rfl]
  exact hk
theorem xp_put {i ci k ix a : Nat} {fs : List Value} {v : Value} (hM : Ms[y]? = some M) (hrow : xi_row M.2.2.2.2.1 pc = some (.putfield i, nx, [ci, k, ix])) (hA : A[a]? = some (.inr (ci, fs))) (hl : k < fs.length) (hn : narrow (xi_ty ci k) v = v) (hf : fits (xi_ty ci k) v = true) (hk : ∀ A2 : xi_H, A2[a]? = some (.inr (ci, fs.set k v)) → (∀ j : Nat, j ≠ a → A2[j]? = A[j]?) → A2.length = A.length → xi_ns A2 = xi_ns A → xg_P P (xi_go Ms n y fr lo nx lv r A2)) : xg_P P (xi_go Ms (n + 1) y fr lo pc lv (v :: .ref a :: r) A) := by
  rw [xg_put hM hrow hA hl hn hf rfl]
  exact hk _ (List.getElem?_set_self (List.getElem?_eq_some_iff.mp hA).1) (fun j hj => List.getElem?_set_ne (Ne.symm hj)) (by simp) (xi_ns_set hA (by simp [xi_n]))
end XP
theorem xi_pos {A : xi_H} {k : Nat} {x : xi_E} (h : A[k]? = some x) : 0 < A.length := by
  have := (List.getElem?_eq_some_iff.mp h).1
  omega
theorem xi_last (A : xi_H) (x : xi_E) : (A ++ [x])[A.length]? = some x := by simp
/-- more fuel does no harm -/
theorem xi_fuel1 (Ms : List xi_M) : ∀ (n y fr lo pc : Nat) (lv : xi_L) (st : List Value) (A : xi_H) (r : Outcome × xi_H), xi_go Ms n y fr lo pc lv st A = some r → xi_go Ms (n + 1) y fr lo pc lv st A = some r := by
  intro n
  induction n with
  | zero => intro y fr lo pc lv st A r h; cases h
  | succ n ih =>
    intro y fr lo pc lv st A r h
    rw [xi_go_succ] at h ⊢
    unfold xi_body at h ⊢
    split at h
    · cases h
    · rename_i M hM
      try rw [hM]
      try simp only
      split at h
      · cases h
      · rename_i I nx aux hrow
        try rw [hrow]
        try simp only
        split at h
        · cases h
        · rename_i hx
          try rw [hx]
          exact h
        · rename_i hx
          try rw [hx]
          try simp only
          split at h
          · cases h
          · rename_i hr
            rw [ih _ _ _ _ _ _ _ _ hr]
            exact ih _ _ _ _ _ _ _ _ h
          · rename_i hr
            rw [ih _ _ _ _ _ _ _ _ hr]
            try simp only
            split at h
            · rename_i hv
              try rw [if_pos hv]
              split at h
              · rename_i hh
                try rw [hh]
                exact h
              · rename_i hh
                try rw [hh]
                try simp only
                split at h
                · rename_i hq
                  try rw [hq]
                  try simp only
                  split at h
                  · rename_i hc
                    try rw [if_pos hc]
                    exact ih _ _ _ _ _ _ _ _ h
                  · cases h
                · cases h
            · cases h
        · rename_i hx
          try rw [hx]
          exact ih _ _ _ _ _ _ _ _ h
        · rename_i hx
          try rw [hx]
          try simp only
          split at h
          · cases h
          · rename_i hs
            try rw [hs]
            exact ih _ _ _ _ _ _ _ _ h
theorem xi_fuel {Ms : List xi_M} {n k y fr lo pc : Nat} {lv : xi_L} {st : List Value} {A : xi_H} {r : Outcome × xi_H} (h : xi_go Ms n y fr lo pc lv st A = some r) : xi_go Ms (n + k) y fr lo pc lv st A = some r := by
  induction k with
  | zero => exact h
  | succ k ih => exact xi_fuel1 Ms _ _ _ _ _ _ _ _ _ ih
/-! more rules, goal first -/
section XP2
variable {P : Option (Outcome × xi_H) → Prop} {Ms : List xi_M} {n y fr lo pc : Nat} {M : xi_M} {lv lv' : xi_L} {st st' r : List Value} {A A' A1 : xi_H} {I : Instr} {nx pc' pc2 : Nat} {aux : List Nat}
theorem xp_iald {a k : Nat} {i v : Int32} {f : Nat → Int32} (hM : Ms[y]? = some M) (hrow : xi_row M.2.2.2.2.1 pc = some (.iaload, nx, aux)) (hA : A[a]? = some (.inl (0, k, .inl f))) (hin : ¬ (i < 0 ∨ k ≤ i.toNatClampNeg)) (hv : f i.toNatClampNeg = v) (hk : xg_P P (xi_go Ms n y fr lo nx lv (.int v :: r) A)) : xg_P P (xi_go Ms (n + 1) y fr lo pc lv (.int i :: .ref a :: r) A) := by
  subst hv
  refine xp_s (pc' := nx) (lv' := lv) (st' := .int (f i.toNatClampNeg) :: r) (A' := A) hM hrow rfl ?_ rfl hk
  simp only [xi_s, hA]
  rw [if_neg hin]
theorem xp_iast {a k : Nat} {i x : Int32} {f : Nat → Int32} (hM : Ms[y]? = some M) (hrow : xi_row M.2.2.2.2.1 pc = some (.iastore, nx, aux)) (hA : A[a]? = some (.inl (0, k, .inl f))) (hin : ¬ (i < 0 ∨ k ≤ i.toNatClampNeg)) (hk : ∀ A2 : xi_H, A2[a]? = some (.inl (0, k, .inl (upd f i.toNatClampNeg x))) → (∀ j : Nat, j ≠ a → A2[j]? = A[j]?) → A2.length = A.length → xi_ns A2 = xi_ns A → xg_P P (xi_go Ms n y fr lo nx lv r A2)) : xg_P P (xi_go Ms (n + 1) y fr lo pc lv (.int x :: .int i :: .ref a :: r) A) := by
  refine xp_s (pc' := nx) (lv' := lv) (st' := r) (A' := A.set a (.inl (0, k, .inl (upd f i.toNatClampNeg x)))) hM hrow rfl ?_ rfl (hk _ (List.getElem?_set_self (List.getElem?_eq_some_iff.mp hA).1) (fun j hj => List.getElem?_set_ne (Ne.symm hj)) (by simp) (xi_ns_set hA rfl))
  simp only [xi_s, hA]
  rw [if_neg hin]
theorem xp_cast {a k : Nat} {i x : Int32} {f : Nat → Int32} (hM : Ms[y]? = some M) (hrow : xi_row M.2.2.2.2.1 pc = some (.castore, nx, aux)) (hA : A[a]? = some (.inl (2, k, .inl f))) (hin : ¬ (i < 0 ∨ k ≤ i.toNatClampNeg)) (hk : ∀ A2 : xi_H, A2[a]? = some (.inl (2, k, .inl (upd f i.toNatClampNeg (vp_nar .char x)))) → (∀ j : Nat, j ≠ a → A2[j]? = A[j]?) → A2.length = A.length → xi_ns A2 = xi_ns A → xg_P P (xi_go Ms n y fr lo nx lv r A2)) : xg_P P (xi_go Ms (n + 1) y fr lo pc lv (.int x :: .int i :: .ref a :: r) A) := by
  refine xp_s (pc' := nx) (lv' := lv) (st' := r) (A' := A.set a (.inl (2, k, .inl (upd f i.toNatClampNeg (vp_nar .char x))))) hM hrow rfl ?_ rfl (hk _ (List.getElem?_set_self (List.getElem?_eq_some_iff.mp hA).1) (fun j hj => List.getElem?_set_ne (Ne.symm hj)) (by simp) (xi_ns_set hA rfl))
  simp only [xi_s, hA]
  rw [if_neg hin]
theorem xp_last {a k : Nat} {i : Int32} {x : Int64} {f : Nat → Int64} (hM : Ms[y]? = some M) (hrow : xi_row M.2.2.2.2.1 pc = some (.lastore, nx, aux)) (hA : A[a]? = some (.inl (1, k, .inr (.inl f)))) (hin : ¬ (i < 0 ∨ k ≤ i.toNatClampNeg)) (hk : ∀ A2 : xi_H, A2[a]? = some (.inl (1, k, .inr (.inl (vp_updL f i.toNatClampNeg x)))) → (∀ j : Nat, j ≠ a → A2[j]? = A[j]?) → A2.length = A.length → xi_ns A2 = xi_ns A → xg_P P (xi_go Ms n y fr lo nx lv r A2)) : xg_P P (xi_go Ms (n + 1) y fr lo pc lv (.long x :: .int i :: .ref a :: r) A) := by
  refine xp_s (pc' := nx) (lv' := lv) (st' := r) (A' := A.set a (.inl (1, k, .inr (.inl (vp_updL f i.toNatClampNeg x))))) hM hrow rfl ?_ rfl (hk _ (List.getElem?_set_self (List.getElem?_eq_some_iff.mp hA).1) (fun j hj => List.getElem?_set_ne (Ne.symm hj)) (by simp) (xi_ns_set hA rfl))
  simp only [xi_s, hA]
  rw [if_neg hin]
theorem xp_alen {a t : Nat} {x : vp_A} {v : Int32} (hM : Ms[y]? = some M) (hrow : xi_row M.2.2.2.2.1 pc = some (.arraylength, nx, aux)) (hA : A[a]? = some (.inl (t, x))) (ht : (xi_tyl[t]?).isSome = true) (hv : Int32.ofNat x.1 = v) (hk : xg_P P (xi_go Ms n y fr lo nx lv (.int v :: r) A)) : xg_P P (xi_go Ms (n + 1) y fr lo pc lv (.ref a :: r) A) := by
  subst hv
  obtain ⟨ty, hty⟩ := Option.isSome_iff_exists.mp ht
  refine xp_s (pc' := nx) (lv' := lv) (st' := .int (Int32.ofNat x.1) :: r) (A' := A) hM hrow rfl ?_ rfl hk
  simp only [xi_s, hA, hty]
theorem xp_V {i x cM k b ci : Nat} {tl : List Nat} {As rest fs : List Value} {Mc : xi_M} (hM : Ms[y]? = some M) (hrow : xi_row M.2.2.2.2.1 pc = some (.invokevirtual i, nx, x :: cM :: k :: tl)) (hMc : Ms[cM]? = some Mc) (hst : st = As.reverse ++ .ref b :: rest) (hk : As.length = k) (hb : A[b]? = some (.inr (ci, fs))) (hc : ((xi_cl[ci]?).map (·.1) = some Mc.1.cls ∧ xi_wt rest ≤ 8 ∧ 1 ≤ fr) ∧ 19 + Mc.2.2.1 ≤ lo ∧ xi_wt (.ref b :: As) ≤ Mc.2.2.1 ∧ Mc.2.2.2.2.2 = [])
    (h : xg_P (fun q => ∃ (v : Option Value) (A1 : xi_H), q = some (.returned v, A1) ∧ xg_P P (xi_go Ms n y fr lo nx lv (v.toList ++ rest) A1)) (xi_go Ms n cM (fr - 1) (lo - (19 + Mc.2.2.1)) 0 (lv_args 0 (.ref b :: As)) [] A)) : xg_P P (xi_go Ms (n + 1) y fr lo pc lv st A) := by
  obtain ⟨v, A1, hr, hk2⟩ := h
  rw [xg_V hM hrow hMc hst hk hb hc hr rfl]
  exact hk2
theorem xp_VT {i x cM k b ci : Nat} {tl : List Nat} {As rest fs : List Value} {Mc : xi_M} (hM : Ms[y]? = some M) (hrow : xi_row M.2.2.2.2.1 pc = some (.invokevirtual i, nx, x :: cM :: k :: tl)) (hMc : Ms[cM]? = some Mc) (hst : st = As.reverse ++ .ref b :: rest) (hk : As.length = k) (hb : A[b]? = some (.inr (ci, fs))) (hc : ((xi_cl[ci]?).map (·.1) = some Mc.1.cls ∧ xi_wt rest ≤ 8 ∧ 1 ≤ fr) ∧ 19 + Mc.2.2.1 ≤ lo ∧ xi_wt (.ref b :: As) ≤ Mc.2.2.1 ∧ Mc.2.2.2.2.2 = []) (hh : M.2.2.2.2.2 = [])
    (h : xg_P (fun q => ∃ (j : Nat) (A1 : xi_H), q = some (.threw j, A1) ∧ P (some (.threw j, A1))) (xi_go Ms n cM (fr - 1) (lo - (19 + Mc.2.2.1)) 0 (lv_args 0 (.ref b :: As)) [] A)) : xg_P P (xi_go Ms (n + 1) y fr lo pc lv st A) := by
  obtain ⟨v, A1, hr, hk2⟩ := h
  rw [xg_VT hM hrow hMc hst hk hb hc hh hr]
  exact hk2
theorem xp_VC {i x cM k b ci a1 a2 h ct cx : Nat} {hs : List (Nat × Nat × Nat × Nat × Nat)} {tl : List Nat} {As rest fs : List Value} {Mc : xi_M} (hM : Ms[y]? = some M) (hrow : xi_row M.2.2.2.2.1 pc = some (.invokevirtual i, nx, x :: cM :: k :: tl)) (hMc : Ms[cM]? = some Mc) (hst : st = As.reverse ++ .ref b :: rest) (hk : As.length = k) (hb : A[b]? = some (.inr (ci, fs))) (hc : ((xi_cl[ci]?).map (·.1) = some Mc.1.cls ∧ xi_wt rest ≤ 8 ∧ 1 ≤ fr) ∧ 19 + Mc.2.2.1 ≤ lo ∧ xi_wt (.ref b :: As) ≤ Mc.2.2.1 ∧ Mc.2.2.2.2.2 = []) (hh : M.2.2.2.2.2 = (a1, a2, h, ct, cx) :: hs) (hcov : a1 ≤ pc ∧ pc < a2)
    (h : xg_P (fun q => ∃ (j : Nat) (A1 : xi_H) (fx : List Value), q = some (.threw j, A1) ∧ A1[j]? = some (.inr (cx, fx)) ∧ xg_P P (xi_go Ms n y fr lo h lv [.ref j] A1)) (xi_go Ms n cM (fr - 1) (lo - (19 + Mc.2.2.1)) 0 (lv_args 0 (.ref b :: As)) [] A)) : xg_P P (xi_go Ms (n + 1) y fr lo pc lv st A) := by
  obtain ⟨v, A1, fx, hr, hq, hk2⟩ := h
  rw [xg_VC hM hrow hMc hst hk hb hc hh hr hq hcov rfl]
  exact hk2
theorem xp_S {i x cM k : Nat} {tl : List Nat} {As rest : List Value} {Mc : xi_M} (hM : Ms[y]? = some M) (hrow : xi_row M.2.2.2.2.1 pc = some (.invokestatic i, nx, x :: cM :: k :: tl)) (hMc : Ms[cM]? = some Mc) (hst : st = As.reverse ++ rest) (hk : As.length = k) (hpos : 0 < A.length) (hc : (xi_wt rest ≤ 8 ∧ 1 ≤ fr) ∧ 19 + Mc.2.2.1 ≤ lo ∧ xi_wt As ≤ Mc.2.2.1 ∧ Mc.2.2.2.2.2 = [])
    (h : xg_P (fun q => ∃ (v : Option Value) (A1 : xi_H), q = some (.returned v, A1) ∧ xg_P P (xi_go Ms n y fr lo nx lv (v.toList ++ rest) A1)) (xi_go Ms n cM (fr - 1) (lo - (19 + Mc.2.2.1)) 0 (lv_args 0 As) [] A)) : xg_P P (xi_go Ms (n + 1) y fr lo pc lv st A) := by
  obtain ⟨v, A1, hr, hk2⟩ := h
  subst hst
  have hlen : k = As.reverse.length := by rw [List.length_reverse, hk]
  have hd : (As.reverse ++ rest).drop k = rest := by rw [hlen]; simp
  have ht : ((As.reverse ++ rest).take k).reverse = As := by rw [hlen]; simp
  obtain ⟨⟨c2, c3⟩, c4, c5, c6⟩ := hc
  have hx : xi_x Ms M (.invokestatic i) (x :: cM :: k :: tl) fr lo (As.reverse ++ rest) A = some (.inr (.inl (cM, As, rest, Mc.2.2.1, false))) := by
    simp only [xi_x, xi_cs, hMc, hd, ht]
    rw [if_pos ⟨⟨by rw [List.length_append, ← hlen]; omega, c2, c3⟩, c4, c5, c6, hpos⟩]
  have e1 : xi_go Ms (n + 1) y fr lo pc lv (As.reverse ++ rest) A = xi_go Ms n y fr lo nx lv (v.toList ++ rest) A1 := by
    rw [xi_go_succ]
    unfold xi_body
    rw [hM]
    simp only
    rw [hrow]
    simp only
    rw [hx]
    simp only
    rw [hr]
  rw [e1]
  exact hk2
end XP2
theorem xi_app {A : xi_H} {k : Nat} {x y : xi_E} (h : A[k]? = some x) : (A ++ [y])[k]? = some x := by
  rw [List.getElem?_append_left (List.getElem?_eq_some_iff.mp h).1]
  exact h
end
section
def e_l0 : List Value := [.ref 1, .ref 7, .ref 104, .ref 118, .ref 120, .ref 331, .ref 340, .int 0, .int 0, .ref 342, .int 0, .ref 343, .int 0]
def e_l1 : List Value := [.ref 2, .int 0, .ref 3, .ref 4, .ref 5, .ref 6, .int 0, .int 0, .int 0]
def e_lS : List Value := [.ref 120, .ref 332, .ref 333, .ref 334, .ref 335, .ref 336, .ref 337, .ref 338, .int 0, .int 0, .int 0, .int 0, .int 0, .ref 339]
def e_lM : List Value := [.int 0, .int 0, .ref 345, .ref 346, .int 0, .int 0, .ref 347, .ref 348, .int 0, .int 0, .int 0, .int 0, .int 0, .int 0, .long 0, .int 0, .ref 349, .int 0, .ref 350, .ref 351, .ref 352, .int 0, .ref 353, .ref 354, .ref 355, .ref 356, .ref 357, .ref 358, .ref 359, .ref 360, .ref 361, .ref 362, .ref 363, .int 0, .ref 364, .ref 365, .int 0, .ref 366, .long 0, .int 0, .ref 367, .ref 368, .ref 369, .ref 370, .ref 371, .ref 372, .long 0, .long 0, .int 0, .int 0, .ref 373, .ref 374, .ref 375, .ref 376, .ref 377, .ref 378, .ref 379, .ref 380, .int 0, .ref 381, .int 0, .ref 382, .ref 383, .int 0, .long 0, .ref 384, .int 0, .int 0, .int 0, .int 0, .ref 385]
end
section
/-! THE FRESH OBJECTS -/
def xi_hp (r : Option (Outcome × xi_H)) : xi_H := match r with
  | some (_, A) => A
  | none => []
def xi_isv (r : Option (Outcome × xi_H)) : Bool := match r with
  | some (.returned none, _) => true
  | _ => false
def xi_isi (r : Option (Outcome × xi_H)) (v : Int32) : Bool := match r with
  | some (.returned (some (.int w)), _) => decide (w = v)
  | _ => false
theorem xi_isv_eq {r : Option (Outcome × xi_H)} (h : xi_isv r = true) : r = some (.returned none, xi_hp r) := by
  match r, h with
  | some (.returned none, A), _ => rfl
theorem xi_isi_eq {r : Option (Outcome × xi_H)} {v : Int32} (h : xi_isi r v = true) : r = some (.returned (some (.int v)), xi_hp r) := by
  match r, h with
  | some (.returned (some (.int w)), A), h => have : w = v := of_decide_eq_true h; subst this; rfl
def xi_obj (A : xi_H) (k : Nat) : Option (Nat × List Value) := match A[k]? with
  | some (.inr o) => some o
  | _ => none
def xi_arI (A : xi_H) (k t n : Nat) : Bool := match A[k]? with
  | some (.inl (t', n', .inl _)) => decide (t' = t ∧ n' = n)
  | _ => false
theorem xi_obj_eq {A : xi_H} {k : Nat} {o : Nat × List Value} (h : xi_obj A k = some o) : A[k]? = some (.inr o) := by
  unfold xi_obj at h
  split at h
  · rename_i h1; cases h; exact h1
  · cases h
theorem xi_arI_eq {A : xi_H} {k t n : Nat} (h : xi_arI A k t n = true) : ∃ f, A[k]? = some (.inl (t, n, .inl f)) := by
  unfold xi_arI at h
  split at h
  · rename_i t' n' f h1
    obtain ⟨rfl, rfl⟩ := of_decide_eq_true h
    exact ⟨f, h1⟩
  · cases h
noncomputable def e_1 : Option (Outcome × xi_H) := xi_go xi_ms 2000 0 14 500 0 (lv_args 0 [.ref 0]) [] [.inr (0, xi_df 0)]
noncomputable def e_A1 : xi_H := xi_hp e_1
noncomputable def e_2 : Option (Outcome × xi_H) := xi_go xi_ms 2000 44 14 500 0 (lv_args 0 [.ref 344]) [] (e_A1 ++ [.inr (13, xi_df 13)])
noncomputable def e_A2 : xi_H := xi_hp e_2
noncomputable def e_chk : Bool := ((xi_isv e_1 && xi_isv e_2) && ((decide (e_A1.length = 344) && decide (e_A2.length = 386)) && (decide (xi_ns e_A1 = 12797) && decide (xi_ns e_A2 = 17826)))) && (((decide (xi_obj e_A2 0 = some (0, e_l0)) && decide (xi_obj e_A2 1 = some (1, e_l1))) && (decide (xi_obj e_A2 331 = some (11, e_lS)) && decide (xi_obj e_A2 344 = some (13, e_lM)))) && (xi_arI e_A2 2 2 600 && xi_arI e_A2 345 0 600))
theorem e_chk_ok : e_chk = true := by decide +kernel
end
section
/-! SHORT RUNS ON FRESH OBJECTS, by program -/
theorem er_problem {A : xi_H} (h0 : A[0]? = some (.inr (0, e_l0))) (h1 : A[1]? = some (.inr (1, e_l1))) (hS : A[331]? = some (.inr (11, e_lS))) : xi_go xi_ms 60 76 15 560 0 (lv_args 0 [.ref 0, .ref 386]) [] A = some (.returned (some (.int 1)), A ++ [.inr (15, List.replicate 6 .null)]) := by
  show xg_P (fun r => r = some (.returned (some (.int 1)), A ++ [.inr (15, List.replicate 6 .null)])) _
  refine xp_s rfl rfl rfl rfl rfl ?_
  refine xp_s rfl rfl rfl rfl rfl ?_
  refine xp_s rfl rfl rfl rfl rfl ?_
  refine xp_VC (As := []) (rest := [_, _]) rfl rfl rfl rfl rfl h0 ⟨⟨by decide, Nat.le_of_ble_eq_true rfl, by decide⟩, by decide, Nat.le_of_ble_eq_true rfl, rfl⟩ rfl (by decide) ?_
  refine xp_s rfl rfl rfl rfl rfl ?_
  refine xp_get rfl rfl h0 rfl ?_
  refine xp_s (pc2 := 7) rfl rfl rfl rfl (if_neg (by decide)) ?_
  refine xp_e rfl rfl (if_pos ⟨rfl, by decide, by decide, by decide, xi_pos h0⟩) ⟨_, _, _, rfl, xi_last _ _, ?_⟩
  refine xp_s rfl rfl rfl rfl rfl ?_
  refine xp_s rfl rfl rfl rfl rfl ?_
  refine xp_e rfl rfl rfl ?_
  rfl
theorem er_plan {A : xi_H} (h0 : A[0]? = some (.inr (0, e_l0))) (h1 : A[1]? = some (.inr (1, e_l1))) (hS : A[331]? = some (.inr (11, e_lS))) (p0 : Int32) : xi_go xi_ms 60 77 15 560 0 (lv_args 0 [.ref 0, .int p0, .ref 386]) [] A = some (.returned (some (.int 1)), A ++ [.inr (15, List.replicate 6 .null)]) := by
  show xg_P (fun r => r = some (.returned (some (.int 1)), A ++ [.inr (15, List.replicate 6 .null)])) _
  refine xp_s rfl rfl rfl rfl rfl ?_
  refine xp_s rfl rfl rfl rfl rfl ?_
  refine xp_s rfl rfl rfl rfl rfl ?_
  refine xp_s rfl rfl rfl rfl rfl ?_
  refine xp_VC (As := [_]) (rest := [_, _]) rfl rfl rfl rfl rfl h0 ⟨⟨by decide, Nat.le_of_ble_eq_true rfl, by decide⟩, by decide, Nat.le_of_ble_eq_true rfl, rfl⟩ rfl (by decide) ?_
  refine xp_s rfl rfl rfl rfl rfl ?_
  refine xp_VT (As := []) (rest := []) rfl rfl rfl rfl rfl h0 ⟨⟨by decide, Nat.le_of_ble_eq_true rfl, by decide⟩, by decide, Nat.le_of_ble_eq_true rfl, rfl⟩ rfl ?_
  refine xp_s rfl rfl rfl rfl rfl ?_
  refine xp_get rfl rfl h0 rfl ?_
  refine xp_s (pc2 := 7) rfl rfl rfl rfl (if_neg (by decide)) ?_
  refine xp_e rfl rfl (if_pos ⟨rfl, by decide, by decide, by decide, xi_pos h0⟩) ⟨_, _, rfl, ⟨_, _, _, rfl, xi_last _ _, ?_⟩⟩
  refine xp_s rfl rfl rfl rfl rfl ?_
  refine xp_s rfl rfl rfl rfl rfl ?_
  refine xp_e rfl rfl rfl ?_
  rfl
theorem er_steps {A : xi_H} (h0 : A[0]? = some (.inr (0, e_l0))) (h1 : A[1]? = some (.inr (1, e_l1))) (hS : A[331]? = some (.inr (11, e_lS))) : xi_go xi_ms 60 78 15 560 0 (lv_args 0 [.ref 0, .ref 386]) [] A = some (.returned (some (.int 1)), A ++ [.inr (17, List.replicate 6 .null)]) := by
  show xg_P (fun r => r = some (.returned (some (.int 1)), A ++ [.inr (17, List.replicate 6 .null)])) _
  refine xp_s rfl rfl rfl rfl rfl ?_
  refine xp_s rfl rfl rfl rfl rfl ?_
  refine xp_s rfl rfl rfl rfl rfl ?_
  refine xp_VC (As := []) (rest := [_, _]) rfl rfl rfl rfl rfl h0 ⟨⟨by decide, Nat.le_of_ble_eq_true rfl, by decide⟩, by decide, Nat.le_of_ble_eq_true rfl, rfl⟩ rfl (by decide) ?_
  refine xp_s rfl rfl rfl rfl rfl ?_
  refine xp_get rfl rfl h0 rfl ?_
  refine xp_V (As := []) (rest := []) rfl rfl rfl rfl rfl hS ⟨⟨by decide, Nat.le_of_ble_eq_true rfl, by decide⟩, by decide, Nat.le_of_ble_eq_true rfl, rfl⟩ ?_
  refine xp_s rfl rfl rfl rfl rfl ?_
  refine xp_get rfl rfl hS rfl ?_
  refine xp_e rfl rfl rfl ⟨_, _, rfl, ?_⟩
  refine xp_s (pc2 := 10) rfl rfl rfl rfl (if_neg (by decide)) ?_
  refine xp_e rfl rfl (if_pos ⟨rfl, by decide, by decide, by decide, xi_pos h0⟩) ⟨_, _, _, rfl, xi_last _ _, ?_⟩
  refine xp_s rfl rfl rfl rfl rfl ?_
  refine xp_s rfl rfl rfl rfl rfl ?_
  refine xp_e rfl rfl rfl ?_
  rfl
theorem er_step {A : xi_H} (h0 : A[0]? = some (.inr (0, e_l0))) (h1 : A[1]? = some (.inr (1, e_l1))) (hS : A[331]? = some (.inr (11, e_lS))) (p0 : Int32) : xi_go xi_ms 60 79 15 560 0 (lv_args 0 [.ref 0, .int p0, .ref 386]) [] A = some (.returned (some (.int 1)), A ++ [.inr (17, List.replicate 6 .null)]) := by
  show xg_P (fun r => r = some (.returned (some (.int 1)), A ++ [.inr (17, List.replicate 6 .null)])) _
  refine xp_s rfl rfl rfl rfl rfl ?_
  refine xp_s rfl rfl rfl rfl rfl ?_
  refine xp_s rfl rfl rfl rfl rfl ?_
  refine xp_s rfl rfl rfl rfl rfl ?_
  refine xp_VC (As := [_]) (rest := [_, _]) rfl rfl rfl rfl rfl h0 ⟨⟨by decide, Nat.le_of_ble_eq_true rfl, by decide⟩, by decide, Nat.le_of_ble_eq_true rfl, rfl⟩ rfl (by decide) ?_
  refine xp_s rfl rfl rfl rfl rfl ?_
  refine xp_get rfl rfl h0 rfl ?_
  refine xp_V (As := []) (rest := []) rfl rfl rfl rfl rfl hS ⟨⟨by decide, Nat.le_of_ble_eq_true rfl, by decide⟩, by decide, Nat.le_of_ble_eq_true rfl, rfl⟩ ?_
  refine xp_s rfl rfl rfl rfl rfl ?_
  refine xp_get rfl rfl hS rfl ?_
  refine xp_e rfl rfl rfl ⟨_, _, rfl, ?_⟩
  refine xp_s (pc2 := 25) rfl rfl rfl rfl (if_pos (by decide)) ?_
  refine xp_e rfl rfl (if_pos ⟨rfl, by decide, by decide, by decide, xi_pos h0⟩) ⟨_, _, _, rfl, xi_last _ _, ?_⟩
  refine xp_s rfl rfl rfl rfl rfl ?_
  refine xp_s rfl rfl rfl rfl rfl ?_
  refine xp_e rfl rfl rfl ?_
  rfl
theorem er_ground {A : xi_H} (h0 : A[0]? = some (.inr (0, e_l0))) (h1 : A[1]? = some (.inr (1, e_l1))) (hS : A[331]? = some (.inr (11, e_lS))) (p0 : Int32) (p1 : Int32) : xi_go xi_ms 60 80 15 560 0 (lv_args 0 [.ref 0, .int p0, .int p1, .ref 386]) [] A = some (.returned (some (.int 1)), A ++ [.inr (17, List.replicate 6 .null)]) := by
  show xg_P (fun r => r = some (.returned (some (.int 1)), A ++ [.inr (17, List.replicate 6 .null)])) _
  refine xp_s rfl rfl rfl rfl rfl ?_
  refine xp_s rfl rfl rfl rfl rfl ?_
  refine xp_s rfl rfl rfl rfl rfl ?_
  refine xp_s rfl rfl rfl rfl rfl ?_
  refine xp_s rfl rfl rfl rfl rfl ?_
  refine xp_VC (As := [_, _]) (rest := [_, _]) rfl rfl rfl rfl rfl h0 ⟨⟨by decide, Nat.le_of_ble_eq_true rfl, by decide⟩, by decide, Nat.le_of_ble_eq_true rfl, rfl⟩ rfl (by decide) ?_
  refine xp_s rfl rfl rfl rfl rfl ?_
  refine xp_s rfl rfl rfl rfl rfl ?_
  refine xp_V (As := [_]) (rest := []) rfl rfl rfl rfl rfl h0 ⟨⟨by decide, Nat.le_of_ble_eq_true rfl, by decide⟩, by decide, Nat.le_of_ble_eq_true rfl, rfl⟩ ?_
  refine xp_s rfl rfl rfl rfl rfl ?_
  refine xp_get rfl rfl h0 rfl ?_
  refine xp_s (pc2 := 26) rfl rfl rfl rfl (if_pos (by decide)) ?_
  refine xp_s rfl rfl rfl rfl rfl ?_
  refine xp_e rfl rfl rfl ⟨_, _, rfl, ?_⟩
  refine xp_s (pc2 := 8) rfl rfl rfl rfl (if_neg (by decide)) ?_
  refine xp_e rfl rfl (if_pos ⟨rfl, by decide, by decide, by decide, xi_pos h0⟩) ⟨_, _, _, rfl, xi_last _ _, ?_⟩
  refine xp_s rfl rfl rfl rfl rfl ?_
  refine xp_s rfl rfl rfl rfl rfl ?_
  refine xp_e rfl rfl rfl ?_
  rfl
theorem er_letter_t {A : xi_H} (h0 : A[0]? = some (.inr (0, e_l0))) (h1 : A[1]? = some (.inr (1, e_l1))) (hS : A[331]? = some (.inr (11, e_lS))) (p0 : Int32) (h : p0 < 0) : xi_go xi_ms 60 81 15 560 0 (lv_args 0 [.ref 0, .int p0, .ref 386]) [] A = some (.returned (some (.int 1)), A ++ [.inr (18, List.replicate 6 .null)]) := by
  show xg_P (fun r => r = some (.returned (some (.int 1)), A ++ [.inr (18, List.replicate 6 .null)])) _
  refine xp_s rfl rfl rfl rfl rfl ?_
  refine xp_s rfl rfl rfl rfl rfl ?_
  refine xp_s rfl rfl rfl rfl rfl ?_
  refine xp_s rfl rfl rfl rfl rfl ?_
  refine xp_VC (As := [_]) (rest := [_, _]) rfl rfl rfl rfl rfl h0 ⟨⟨by decide, Nat.le_of_ble_eq_true rfl, by decide⟩, by decide, Nat.le_of_ble_eq_true rfl, rfl⟩ rfl (by decide) ?_
  refine xp_s rfl rfl rfl rfl rfl ?_
  refine xp_s (pc2 := 12) rfl rfl rfl rfl (if_pos h) ?_
  refine xp_e rfl rfl (if_pos ⟨rfl, by decide, by decide, by decide, xi_pos h0⟩) ⟨_, _, _, rfl, xi_last _ _, ?_⟩
  refine xp_s rfl rfl rfl rfl rfl ?_
  refine xp_s rfl rfl rfl rfl rfl ?_
  refine xp_e rfl rfl rfl ?_
  rfl
theorem er_letter_f {A : xi_H} (h0 : A[0]? = some (.inr (0, e_l0))) (h1 : A[1]? = some (.inr (1, e_l1))) (hS : A[331]? = some (.inr (11, e_lS))) (p0 : Int32) (h : ¬ p0 < 0) : xi_go xi_ms 60 81 15 560 0 (lv_args 0 [.ref 0, .int p0, .ref 386]) [] A = some (.returned (some (.int 1)), A ++ [.inr (18, List.replicate 6 .null)]) := by
  show xg_P (fun r => r = some (.returned (some (.int 1)), A ++ [.inr (18, List.replicate 6 .null)])) _
  refine xp_s rfl rfl rfl rfl rfl ?_
  refine xp_s rfl rfl rfl rfl rfl ?_
  refine xp_s rfl rfl rfl rfl rfl ?_
  refine xp_s rfl rfl rfl rfl rfl ?_
  refine xp_VC (As := [_]) (rest := [_, _]) rfl rfl rfl rfl rfl h0 ⟨⟨by decide, Nat.le_of_ble_eq_true rfl, by decide⟩, by decide, Nat.le_of_ble_eq_true rfl, rfl⟩ rfl (by decide) ?_
  refine xp_s rfl rfl rfl rfl rfl ?_
  refine xp_s (pc2 := 4) rfl rfl rfl rfl (if_neg h) ?_
  refine xp_s rfl rfl rfl rfl rfl ?_
  refine xp_s rfl rfl rfl rfl rfl ?_
  refine xp_get rfl rfl h0 rfl ?_
  refine xp_s (pc2 := 12) rfl rfl rfl rfl (if_neg h) ?_
  refine xp_e rfl rfl (if_pos ⟨rfl, by decide, by decide, by decide, xi_pos h0⟩) ⟨_, _, _, rfl, xi_last _ _, ?_⟩
  refine xp_s rfl rfl rfl rfl rfl ?_
  refine xp_s rfl rfl rfl rfl rfl ?_
  refine xp_e rfl rfl rfl ?_
  rfl
theorem er_check {A : xi_H} (h0 : A[0]? = some (.inr (0, e_l0))) (h1 : A[1]? = some (.inr (1, e_l1))) (hS : A[331]? = some (.inr (11, e_lS))) : xi_go xi_ms 60 82 15 560 0 (lv_args 0 [.ref 0, .ref 386]) [] A = some (.returned (some (.int 1)), A ++ [.inr (15, List.replicate 6 .null)]) := by
  show xg_P (fun r => r = some (.returned (some (.int 1)), A ++ [.inr (15, List.replicate 6 .null)])) _
  refine xp_s rfl rfl rfl rfl rfl ?_
  refine xp_s rfl rfl rfl rfl rfl ?_
  refine xp_s rfl rfl rfl rfl rfl ?_
  refine xp_VC (As := []) (rest := [_, _]) rfl rfl rfl rfl rfl h0 ⟨⟨by decide, Nat.le_of_ble_eq_true rfl, by decide⟩, by decide, Nat.le_of_ble_eq_true rfl, rfl⟩ rfl (by decide) ?_
  refine xp_s rfl rfl rfl rfl rfl ?_
  refine xp_VT (As := []) (rest := []) rfl rfl rfl rfl rfl h0 ⟨⟨by decide, Nat.le_of_ble_eq_true rfl, by decide⟩, by decide, Nat.le_of_ble_eq_true rfl, rfl⟩ rfl ?_
  refine xp_s rfl rfl rfl rfl rfl ?_
  refine xp_get rfl rfl h0 rfl ?_
  refine xp_s (pc2 := 7) rfl rfl rfl rfl (if_neg (by decide)) ?_
  refine xp_e rfl rfl (if_pos ⟨rfl, by decide, by decide, by decide, xi_pos h0⟩) ⟨_, _, rfl, ⟨_, _, _, rfl, xi_last _ _, ?_⟩⟩
  refine xp_s rfl rfl rfl rfl rfl ?_
  refine xp_s rfl rfl rfl rfl rfl ?_
  refine xp_e rfl rfl rfl ?_
  rfl
theorem er_estimate {A : xi_H} (h0 : A[0]? = some (.inr (0, e_l0))) (h1 : A[1]? = some (.inr (1, e_l1))) (hS : A[331]? = some (.inr (11, e_lS))) (p0 : Int32) : xi_go xi_ms 60 83 15 560 0 (lv_args 0 [.ref 0, .int p0, .ref 386]) [] A = some (.returned (some (.int 1)), A ++ [.inr (15, List.replicate 6 .null)]) := by
  show xg_P (fun r => r = some (.returned (some (.int 1)), A ++ [.inr (15, List.replicate 6 .null)])) _
  refine xp_s rfl rfl rfl rfl rfl ?_
  refine xp_s rfl rfl rfl rfl rfl ?_
  refine xp_s rfl rfl rfl rfl rfl ?_
  refine xp_s rfl rfl rfl rfl rfl ?_
  refine xp_VC (As := [_]) (rest := [_, _]) rfl rfl rfl rfl rfl h0 ⟨⟨by decide, Nat.le_of_ble_eq_true rfl, by decide⟩, by decide, Nat.le_of_ble_eq_true rfl, rfl⟩ rfl (by decide) ?_
  refine xp_s rfl rfl rfl rfl rfl ?_
  refine xp_VT (As := []) (rest := []) rfl rfl rfl rfl rfl h0 ⟨⟨by decide, Nat.le_of_ble_eq_true rfl, by decide⟩, by decide, Nat.le_of_ble_eq_true rfl, rfl⟩ rfl ?_
  refine xp_s rfl rfl rfl rfl rfl ?_
  refine xp_get rfl rfl h0 rfl ?_
  refine xp_s (pc2 := 7) rfl rfl rfl rfl (if_neg (by decide)) ?_
  refine xp_e rfl rfl (if_pos ⟨rfl, by decide, by decide, by decide, xi_pos h0⟩) ⟨_, _, rfl, ⟨_, _, _, rfl, xi_last _ _, ?_⟩⟩
  refine xp_s rfl rfl rfl rfl rfl ?_
  refine xp_s rfl rfl rfl rfl rfl ?_
  refine xp_e rfl rfl rfl ?_
  rfl
theorem ec_fault {A : xi_H} (h0 : A[0]? = some (.inr (0, e_l0))) (h1 : A[1]? = some (.inr (1, e_l1))) (hS : A[331]? = some (.inr (11, e_lS))) : xi_go xi_ms 60 4 15 560 0 (lv_args 0 [.ref 0]) [] A = some (.returned (some (.int 0)), A) := by
  show xg_P (fun r => r = some (.returned (some (.int 0)), A)) _
  refine xp_s rfl rfl rfl rfl rfl ?_
  refine xp_get rfl rfl h0 rfl ?_
  refine xp_V (As := []) (rest := []) rfl rfl rfl rfl rfl h1 ⟨⟨by decide, Nat.le_of_ble_eq_true rfl, by decide⟩, by decide, Nat.le_of_ble_eq_true rfl, rfl⟩ ?_
  refine xp_s rfl rfl rfl rfl rfl ?_
  refine xp_get rfl rfl h1 rfl ?_
  refine xp_e rfl rfl rfl ⟨_, _, rfl, ?_⟩
  refine xp_e rfl rfl rfl ?_
  rfl
theorem ec_put {A : xi_H} (h0 : A[0]? = some (.inr (0, e_l0))) (h1 : A[1]? = some (.inr (1, e_l1))) (hS : A[331]? = some (.inr (11, e_lS))) (p0 : Int32) : xi_go xi_ms 60 10 15 560 0 (lv_args 0 [.ref 0, .int p0]) [] A = some (.returned (some (.int 0)), A) := by
  show xg_P (fun r => r = some (.returned (some (.int 0)), A)) _
  refine xp_s rfl rfl rfl rfl rfl ?_
  refine xp_s rfl rfl rfl rfl rfl ?_
  refine xp_V (As := [_]) (rest := []) rfl rfl rfl rfl rfl h0 ⟨⟨by decide, Nat.le_of_ble_eq_true rfl, by decide⟩, by decide, Nat.le_of_ble_eq_true rfl, rfl⟩ ?_
  refine xp_s rfl rfl rfl rfl rfl ?_
  refine xp_get rfl rfl h0 rfl ?_
  refine xp_s (pc2 := 26) rfl rfl rfl rfl (if_pos (by decide)) ?_
  refine xp_s rfl rfl rfl rfl rfl ?_
  refine xp_e rfl rfl rfl ⟨_, _, rfl, ?_⟩
  refine xp_s (pc2 := 17) rfl rfl rfl rfl (if_pos (by decide)) ?_
  refine xp_s rfl rfl rfl rfl rfl ?_
  refine xp_e rfl rfl rfl ?_
  rfl
theorem em_problem {A : xi_H} (hm : A[344]? = some (.inr (13, e_lM))) : ∃ (A2 : xi_H) (fs : List Value), xi_go xi_ms 60 65 15 560 0 (lv_args 0 [.ref 344]) [] A = some (.returned (some (.int 0)), A2) ∧ A2[344]? = some (.inr (13, fs)) ∧ fs[0]? = some (.int 1) ∧ A2.length = A.length ∧ xi_ns A2 = xi_ns A := by
  show xg_P (fun r => ∃ (A2 : xi_H) (fs : List Value), r = some (.returned (some (.int 0)), A2) ∧ A2[344]? = some (.inr (13, fs)) ∧ fs[0]? = some (.int 1) ∧ A2.length = A.length ∧ xi_ns A2 = xi_ns A) _
  refine xp_s rfl rfl rfl rfl rfl ?_
  refine xp_s rfl rfl rfl rfl rfl ?_
  refine xp_get rfl rfl hm rfl ?_
  refine xp_s (pc2 := 12) rfl rfl rfl rfl (if_pos (by decide)) ?_
  refine xp_s rfl rfl rfl rfl rfl ?_
  refine xp_put rfl rfl hm (by first | decide | exact Nat.le_of_ble_eq_true rfl) (by first | rfl | decide) (by first | rfl | decide) (fun B1 hq1 hs1 hL1 hN1 => ?_)
  refine xp_s rfl rfl rfl rfl rfl ?_
  refine xp_get rfl rfl hq1 rfl ?_
  refine xp_s (pc2 := 23) rfl rfl rfl rfl (if_neg (by decide)) ?_
  refine xp_s rfl rfl rfl rfl rfl ?_
  refine xp_e rfl rfl rfl ?_
  exact ⟨_, _, rfl, hq1, rfl, by omega, by omega⟩
theorem em_plan {A : xi_H} (hm : A[344]? = some (.inr (13, e_lM))) (p0 : Int32) : ∃ (A2 : xi_H) (fs : List Value), xi_go xi_ms 60 67 15 560 0 (lv_args 0 [.ref 344, .int p0]) [] A = some (.returned (some (.int 0)), A2) ∧ A2[344]? = some (.inr (13, fs)) ∧ fs[0]? = some (.int 1) ∧ A2.length = A.length ∧ xi_ns A2 = xi_ns A := by
  show xg_P (fun r => ∃ (A2 : xi_H) (fs : List Value), r = some (.returned (some (.int 0)), A2) ∧ A2[344]? = some (.inr (13, fs)) ∧ fs[0]? = some (.int 1) ∧ A2.length = A.length ∧ xi_ns A2 = xi_ns A) _
  refine xp_s rfl rfl rfl rfl rfl ?_
  refine xp_s rfl rfl rfl rfl rfl ?_
  refine xp_get rfl rfl hm rfl ?_
  refine xp_s (pc2 := 8) rfl rfl rfl rfl (if_neg (by decide)) ?_
  refine xp_s rfl rfl rfl rfl rfl ?_
  refine xp_s rfl rfl rfl rfl rfl ?_
  refine xp_put rfl rfl hm (by first | decide | exact Nat.le_of_ble_eq_true rfl) (by first | rfl | decide) (by first | rfl | decide) (fun B1 hq1 hs1 hL1 hN1 => ?_)
  refine xp_s rfl rfl rfl rfl rfl ?_
  refine xp_get rfl rfl hq1 rfl ?_
  refine xp_s (pc2 := 39) rfl rfl rfl rfl (if_neg (by decide)) ?_
  refine xp_s rfl rfl rfl rfl rfl ?_
  refine xp_e rfl rfl rfl ?_
  exact ⟨_, _, rfl, hq1, rfl, by omega, by omega⟩
theorem em_steps {A : xi_H} (hm : A[344]? = some (.inr (13, e_lM))) : ∃ (A2 : xi_H) (fs : List Value), xi_go xi_ms 60 68 15 560 0 (lv_args 0 [.ref 344]) [] A = some (.returned (some (.int 0)), A2) ∧ A2[344]? = some (.inr (13, fs)) ∧ fs[0]? = some (.int 1) ∧ A2.length = A.length ∧ xi_ns A2 = xi_ns A := by
  show xg_P (fun r => ∃ (A2 : xi_H) (fs : List Value), r = some (.returned (some (.int 0)), A2) ∧ A2[344]? = some (.inr (13, fs)) ∧ fs[0]? = some (.int 1) ∧ A2.length = A.length ∧ xi_ns A2 = xi_ns A) _
  refine xp_s rfl rfl rfl rfl rfl ?_
  refine xp_s rfl rfl rfl rfl rfl ?_
  refine xp_get rfl rfl hm rfl ?_
  refine xp_s (pc2 := 12) rfl rfl rfl rfl (if_pos (by decide)) ?_
  refine xp_s rfl rfl rfl rfl rfl ?_
  refine xp_put rfl rfl hm (by first | decide | exact Nat.le_of_ble_eq_true rfl) (by first | rfl | decide) (by first | rfl | decide) (fun B1 hq1 hs1 hL1 hN1 => ?_)
  refine xp_s rfl rfl rfl rfl rfl ?_
  refine xp_get rfl rfl hq1 rfl ?_
  refine xp_s (pc2 := 30) rfl rfl rfl rfl (if_pos (by decide)) ?_
  refine xp_s rfl rfl rfl rfl rfl ?_
  refine xp_e rfl rfl rfl ?_
  exact ⟨_, _, rfl, hq1, rfl, by omega, by omega⟩
theorem em_step {A : xi_H} (hm : A[344]? = some (.inr (13, e_lM))) (p0 : Int32) : ∃ (A2 : xi_H) (fs : List Value), xi_go xi_ms 60 69 15 560 0 (lv_args 0 [.ref 344, .int p0]) [] A = some (.returned (some (.int 0)), A2) ∧ A2[344]? = some (.inr (13, fs)) ∧ fs[0]? = some (.int 1) ∧ A2.length = A.length ∧ xi_ns A2 = xi_ns A := by
  show xg_P (fun r => ∃ (A2 : xi_H) (fs : List Value), r = some (.returned (some (.int 0)), A2) ∧ A2[344]? = some (.inr (13, fs)) ∧ fs[0]? = some (.int 1) ∧ A2.length = A.length ∧ xi_ns A2 = xi_ns A) _
  refine xp_s rfl rfl rfl rfl rfl ?_
  refine xp_s rfl rfl rfl rfl rfl ?_
  refine xp_get rfl rfl hm rfl ?_
  refine xp_s (pc2 := 20) rfl rfl rfl rfl (if_pos (by decide)) ?_
  refine xp_s rfl rfl rfl rfl rfl ?_
  refine xp_s rfl rfl rfl rfl rfl ?_
  refine xp_put rfl rfl hm (by first | decide | exact Nat.le_of_ble_eq_true rfl) (by first | rfl | decide) (by first | rfl | decide) (fun B1 hq1 hs1 hL1 hN1 => ?_)
  refine xp_s rfl rfl rfl rfl rfl ?_
  refine xp_get rfl rfl hq1 rfl ?_
  refine xp_s (pc2 := 35) rfl rfl rfl rfl (if_neg (by decide)) ?_
  refine xp_s rfl rfl rfl rfl rfl ?_
  refine xp_s rfl rfl rfl rfl rfl ?_
  refine xp_e rfl rfl rfl ?_
  exact ⟨_, _, rfl, hq1, rfl, by omega, by omega⟩
theorem em_ground {A : xi_H} (hm : A[344]? = some (.inr (13, e_lM))) (p0 : Int32) (p1 : Int32) : ∃ (A2 : xi_H) (fs : List Value), xi_go xi_ms 60 70 15 560 0 (lv_args 0 [.ref 344, .int p0, .int p1]) [] A = some (.returned (some (.int 0)), A2) ∧ A2[344]? = some (.inr (13, fs)) ∧ fs[0]? = some (.int 1) ∧ A2.length = A.length ∧ xi_ns A2 = xi_ns A := by
  show xg_P (fun r => ∃ (A2 : xi_H) (fs : List Value), r = some (.returned (some (.int 0)), A2) ∧ A2[344]? = some (.inr (13, fs)) ∧ fs[0]? = some (.int 1) ∧ A2.length = A.length ∧ xi_ns A2 = xi_ns A) _
  refine xp_s rfl rfl rfl rfl rfl ?_
  refine xp_s rfl rfl rfl rfl rfl ?_
  refine xp_get rfl rfl hm rfl ?_
  refine xp_s (pc2 := 20) rfl rfl rfl rfl (if_pos (by decide)) ?_
  refine xp_s rfl rfl rfl rfl rfl ?_
  refine xp_s rfl rfl rfl rfl rfl ?_
  refine xp_put rfl rfl hm (by first | decide | exact Nat.le_of_ble_eq_true rfl) (by first | rfl | decide) (by first | rfl | decide) (fun B1 hq1 hs1 hL1 hN1 => ?_)
  refine xp_s rfl rfl rfl rfl rfl ?_
  refine xp_get rfl rfl hq1 rfl ?_
  refine xp_s (pc2 := 48) rfl rfl rfl rfl (if_neg (by decide)) ?_
  refine xp_s rfl rfl rfl rfl rfl ?_
  refine xp_e rfl rfl rfl ?_
  exact ⟨_, _, rfl, hq1, rfl, by omega, by omega⟩
theorem em_letter_t {A : xi_H} (hm : A[344]? = some (.inr (13, e_lM))) (p0 : Int32) (h : p0 < 0) : ∃ (A2 : xi_H) (fs : List Value), xi_go xi_ms 60 71 15 560 0 (lv_args 0 [.ref 344, .int p0]) [] A = some (.returned (some (.int 0)), A2) ∧ A2[344]? = some (.inr (13, fs)) ∧ fs[0]? = some (.int 1) ∧ A2.length = A.length ∧ xi_ns A2 = xi_ns A := by
  show xg_P (fun r => ∃ (A2 : xi_H) (fs : List Value), r = some (.returned (some (.int 0)), A2) ∧ A2[344]? = some (.inr (13, fs)) ∧ fs[0]? = some (.int 1) ∧ A2.length = A.length ∧ xi_ns A2 = xi_ns A) _
  refine xp_s rfl rfl rfl rfl rfl ?_
  refine xp_s rfl rfl rfl rfl rfl ?_
  refine xp_put rfl rfl hm (by first | decide | exact Nat.le_of_ble_eq_true rfl) (by first | rfl | decide) (by first | rfl | decide) (fun B1 hq1 hs1 hL1 hN1 => ?_)
  refine xp_s rfl rfl rfl rfl rfl ?_
  refine xp_s rfl rfl rfl rfl rfl ?_
  refine xp_put rfl rfl hq1 (by first | decide | exact Nat.le_of_ble_eq_true rfl) (by first | rfl | decide) (by first | rfl | decide) (fun B2 hq2 hs2 hL2 hN2 => ?_)
  refine xp_s rfl rfl rfl rfl rfl ?_
  refine xp_s rfl rfl rfl rfl rfl ?_
  refine xp_s rfl rfl rfl rfl rfl ?_
  refine xp_s rfl rfl rfl rfl rfl ?_
  refine xp_get rfl rfl hq2 rfl ?_
  refine xp_s (pc2 := 124) rfl rfl rfl rfl (if_pos (by decide)) ?_
  refine xp_s rfl rfl rfl rfl rfl ?_
  refine xp_s rfl rfl rfl rfl rfl ?_
  refine xp_s (pc2 := 144) rfl rfl rfl rfl (if_pos h) ?_
  refine xp_s rfl rfl rfl rfl rfl ?_
  refine xp_s rfl rfl rfl rfl rfl ?_
  refine xp_put rfl rfl hq2 (by first | decide | exact Nat.le_of_ble_eq_true rfl) (by first | rfl | decide) (by first | rfl | decide) (fun B3 hq3 hs3 hL3 hN3 => ?_)
  refine xp_s rfl rfl rfl rfl rfl ?_
  refine xp_get rfl rfl hq3 rfl ?_
  refine xp_s (pc2 := 159) rfl rfl rfl rfl (if_neg (by decide)) ?_
  refine xp_s rfl rfl rfl rfl rfl ?_
  refine xp_s rfl rfl rfl rfl rfl ?_
  refine xp_e rfl rfl rfl ?_
  exact ⟨_, _, rfl, hq3, rfl, by omega, by omega⟩
theorem em_letter_f {A : xi_H} (hm : A[344]? = some (.inr (13, e_lM))) (p0 : Int32) (h : ¬ p0 < 0) : ∃ (A2 : xi_H) (fs : List Value), xi_go xi_ms 60 71 15 560 0 (lv_args 0 [.ref 344, .int p0]) [] A = some (.returned (some (.int 0)), A2) ∧ A2[344]? = some (.inr (13, fs)) ∧ fs[0]? = some (.int 1) ∧ A2.length = A.length ∧ xi_ns A2 = xi_ns A := by
  show xg_P (fun r => ∃ (A2 : xi_H) (fs : List Value), r = some (.returned (some (.int 0)), A2) ∧ A2[344]? = some (.inr (13, fs)) ∧ fs[0]? = some (.int 1) ∧ A2.length = A.length ∧ xi_ns A2 = xi_ns A) _
  refine xp_s rfl rfl rfl rfl rfl ?_
  refine xp_s rfl rfl rfl rfl rfl ?_
  refine xp_put rfl rfl hm (by first | decide | exact Nat.le_of_ble_eq_true rfl) (by first | rfl | decide) (by first | rfl | decide) (fun B1 hq1 hs1 hL1 hN1 => ?_)
  refine xp_s rfl rfl rfl rfl rfl ?_
  refine xp_s rfl rfl rfl rfl rfl ?_
  refine xp_put rfl rfl hq1 (by first | decide | exact Nat.le_of_ble_eq_true rfl) (by first | rfl | decide) (by first | rfl | decide) (fun B2 hq2 hs2 hL2 hN2 => ?_)
  refine xp_s rfl rfl rfl rfl rfl ?_
  refine xp_s rfl rfl rfl rfl rfl ?_
  refine xp_s rfl rfl rfl rfl rfl ?_
  refine xp_s rfl rfl rfl rfl rfl ?_
  refine xp_get rfl rfl hq2 rfl ?_
  refine xp_s (pc2 := 124) rfl rfl rfl rfl (if_pos (by decide)) ?_
  refine xp_s rfl rfl rfl rfl rfl ?_
  refine xp_s rfl rfl rfl rfl rfl ?_
  refine xp_s (pc2 := 129) rfl rfl rfl rfl (if_neg h) ?_
  refine xp_s rfl rfl rfl rfl rfl ?_
  refine xp_s rfl rfl rfl rfl rfl ?_
  refine xp_get rfl rfl hq2 rfl ?_
  refine xp_s (pc2 := 144) rfl rfl rfl rfl (if_pos (Int32.not_lt.mp h)) ?_
  refine xp_s rfl rfl rfl rfl rfl ?_
  refine xp_s rfl rfl rfl rfl rfl ?_
  refine xp_put rfl rfl hq2 (by first | decide | exact Nat.le_of_ble_eq_true rfl) (by first | rfl | decide) (by first | rfl | decide) (fun B3 hq3 hs3 hL3 hN3 => ?_)
  refine xp_s rfl rfl rfl rfl rfl ?_
  refine xp_get rfl rfl hq3 rfl ?_
  refine xp_s (pc2 := 159) rfl rfl rfl rfl (if_neg (by decide)) ?_
  refine xp_s rfl rfl rfl rfl rfl ?_
  refine xp_s rfl rfl rfl rfl rfl ?_
  refine xp_e rfl rfl rfl ?_
  exact ⟨_, _, rfl, hq3, rfl, by omega, by omega⟩
theorem em_check {A : xi_H} (hm : A[344]? = some (.inr (13, e_lM))) : ∃ (A2 : xi_H) (fs : List Value), xi_go xi_ms 60 73 15 560 0 (lv_args 0 [.ref 344]) [] A = some (.returned (some (.int 0)), A2) ∧ A2[344]? = some (.inr (13, fs)) ∧ fs[0]? = some (.int 1) ∧ A2.length = A.length ∧ xi_ns A2 = xi_ns A := by
  show xg_P (fun r => ∃ (A2 : xi_H) (fs : List Value), r = some (.returned (some (.int 0)), A2) ∧ A2[344]? = some (.inr (13, fs)) ∧ fs[0]? = some (.int 1) ∧ A2.length = A.length ∧ xi_ns A2 = xi_ns A) _
  refine xp_s rfl rfl rfl rfl rfl ?_
  refine xp_s rfl rfl rfl rfl rfl ?_
  refine xp_get rfl rfl hm rfl ?_
  refine xp_s (pc2 := 12) rfl rfl rfl rfl (if_pos (by decide)) ?_
  refine xp_s rfl rfl rfl rfl rfl ?_
  refine xp_put rfl rfl hm (by first | decide | exact Nat.le_of_ble_eq_true rfl) (by first | rfl | decide) (by first | rfl | decide) (fun B1 hq1 hs1 hL1 hN1 => ?_)
  refine xp_s rfl rfl rfl rfl rfl ?_
  refine xp_get rfl rfl hq1 rfl ?_
  refine xp_s (pc2 := 23) rfl rfl rfl rfl (if_neg (by decide)) ?_
  refine xp_s rfl rfl rfl rfl rfl ?_
  refine xp_e rfl rfl rfl ?_
  exact ⟨_, _, rfl, hq1, rfl, by omega, by omega⟩
theorem em_estimate {A : xi_H} (hm : A[344]? = some (.inr (13, e_lM))) (p0 : Int32) : ∃ (A2 : xi_H) (fs : List Value), xi_go xi_ms 60 74 15 560 0 (lv_args 0 [.ref 344, .int p0]) [] A = some (.returned (some (.int 0)), A2) ∧ A2[344]? = some (.inr (13, fs)) ∧ fs[0]? = some (.int 1) ∧ A2.length = A.length ∧ xi_ns A2 = xi_ns A := by
  show xg_P (fun r => ∃ (A2 : xi_H) (fs : List Value), r = some (.returned (some (.int 0)), A2) ∧ A2[344]? = some (.inr (13, fs)) ∧ fs[0]? = some (.int 1) ∧ A2.length = A.length ∧ xi_ns A2 = xi_ns A) _
  refine xp_s rfl rfl rfl rfl rfl ?_
  refine xp_s rfl rfl rfl rfl rfl ?_
  refine xp_get rfl rfl hm rfl ?_
  refine xp_s (pc2 := 8) rfl rfl rfl rfl (if_neg (by decide)) ?_
  refine xp_s rfl rfl rfl rfl rfl ?_
  refine xp_s rfl rfl rfl rfl rfl ?_
  refine xp_put rfl rfl hm (by first | decide | exact Nat.le_of_ble_eq_true rfl) (by first | rfl | decide) (by first | rfl | decide) (fun B1 hq1 hs1 hL1 hN1 => ?_)
  refine xp_s rfl rfl rfl rfl rfl ?_
  refine xp_get rfl rfl hq1 rfl ?_
  refine xp_s (pc2 := 36) rfl rfl rfl rfl (if_neg (by decide)) ?_
  refine xp_s rfl rfl rfl rfl rfl ?_
  refine xp_e rfl rfl rfl ?_
  exact ⟨_, _, rfl, hq1, rfl, by omega, by omega⟩
theorem em_fault {A : xi_H} (hm : A[344]? = some (.inr (13, e_lM))) : ∃ (A2 : xi_H) (fs : List Value), xi_go xi_ms 60 66 15 560 0 (lv_args 0 [.ref 344]) [] A = some (.returned (some (.int 0)), A2) ∧ A2[344]? = some (.inr (13, fs)) ∧ fs[0]? = some (.int 0) ∧ A2.length = A.length ∧ xi_ns A2 = xi_ns A := by
  show xg_P (fun r => ∃ (A2 : xi_H) (fs : List Value), r = some (.returned (some (.int 0)), A2) ∧ A2[344]? = some (.inr (13, fs)) ∧ fs[0]? = some (.int 0) ∧ A2.length = A.length ∧ xi_ns A2 = xi_ns A) _
  refine xp_s rfl rfl rfl rfl rfl ?_
  refine xp_s rfl rfl rfl rfl rfl ?_
  refine xp_put rfl rfl hm (by first | decide | exact Nat.le_of_ble_eq_true rfl) (by first | rfl | decide) (by first | rfl | decide) (fun B1 hq1 hs1 hL1 hN1 => ?_)
  refine xp_s rfl rfl rfl rfl rfl ?_
  refine xp_get rfl rfl hq1 rfl ?_
  refine xp_e rfl rfl rfl ?_
  exact ⟨_, _, rfl, hq1, rfl, by omega, by omega⟩
theorem em_put {A : xi_H} (hm : A[344]? = some (.inr (13, e_lM))) (p0 : Int32) : ∃ (A2 : xi_H) (fs : List Value), xi_go xi_ms 60 72 15 560 0 (lv_args 0 [.ref 344, .int p0]) [] A = some (.returned (some (.int 0)), A2) ∧ A2[344]? = some (.inr (13, fs)) ∧ fs[0]? = some (.int 0) ∧ A2.length = A.length ∧ xi_ns A2 = xi_ns A := by
  show xg_P (fun r => ∃ (A2 : xi_H) (fs : List Value), r = some (.returned (some (.int 0)), A2) ∧ A2[344]? = some (.inr (13, fs)) ∧ fs[0]? = some (.int 0) ∧ A2.length = A.length ∧ xi_ns A2 = xi_ns A) _
  refine xp_s rfl rfl rfl rfl rfl ?_
  refine xp_s rfl rfl rfl rfl rfl ?_
  refine xp_put rfl rfl hm (by first | decide | exact Nat.le_of_ble_eq_true rfl) (by first | rfl | decide) (by first | rfl | decide) (fun B1 hq1 hs1 hL1 hN1 => ?_)
  refine xp_s rfl rfl rfl rfl rfl ?_
  refine xp_get rfl rfl hq1 rfl ?_
  refine xp_s (pc2 := 33) rfl rfl rfl rfl (if_pos (by decide)) ?_
  refine xp_s rfl rfl rfl rfl rfl ?_
  refine xp_e rfl rfl rfl ?_
  exact ⟨_, _, rfl, hq1, rfl, by omega, by omega⟩
theorem em_thrown {A : xi_H} {fs : List Value} {v : Int32} (hm : A[344]? = some (.inr (13, fs))) (hv : fs[0]? = some (.int v)) : xi_go xi_ms 60 46 15 560 0 (lv_args 0 [.ref 344]) [] A = some (.returned (some (.int v)), A) := by
  refine xg_s rfl rfl rfl rfl rfl ?_
  refine xg_get rfl rfl hm hv ?_
  exact xg_e rfl rfl (if_pos rfl)
end
section
/-! domain() ON FRESH OBJECTS -/
theorem xp_of {P : Option (Outcome × xi_H) → Prop} {a b : Option (Outcome × xi_H)} (h : a = b) (hk : P b) : xg_P P a := by
  rw [h]
  exact hk
theorem ef_loop {a k : Nat} : ∀ (d i : Nat) (A : xi_H) (f : Nat → Int32), d + i = 512 → A[a]? = some (.inl (0, 512, .inl f)) → ∃ (A2 : xi_H) (f2 : Nat → Int32), (∀ fr lo, xi_go xi_ms (d * 9 + 4 + k) 43 fr lo 5 ((2, .int (nI i)) :: (3, .int (nI 512)) :: lv_args 0 [.ref a, .int (Int32.ofInt 0)]) [] A = some (.returned none, A2)) ∧ A2[a]? = some (.inl (0, 512, .inl f2)) ∧ (∀ j : Nat, j ≠ a → A2[j]? = A[j]?) ∧ A2.length = A.length ∧ xi_ns A2 = xi_ns A := by
  intro d
  induction d with
  | zero =>
    intro i A f hd hA
    refine ⟨A, f, fun fr lo => ?_, hA, fun _ _ => rfl, rfl, rfl⟩
    rw [show 0 * 9 + 4 + k = k + 4 by omega]
    refine xg_s rfl rfl rfl rfl rfl ?_
    refine xg_s rfl rfl rfl rfl rfl ?_
    refine xg_s (pc2 := 20) rfl rfl rfl rfl (if_pos (nI_le (by omega) (by omega))) ?_
    exact xg_e rfl rfl rfl
  | succ d ih =>
    intro i A f hd hA
    have hlt : i < 512 := by omega
    obtain ⟨A2, f2, h1, h2, h3, h4, h5⟩ := ih (i + 1) (A.set a (.inl (0, 512, .inl (upd f (nI i).toNatClampNeg (Int32.ofInt 0))))) _ (by omega) (List.getElem?_set_self (List.getElem?_eq_some_iff.mp hA).1)
    refine ⟨A2, f2, fun fr lo => ?_, h2, fun j hj => (h3 j hj).trans (List.getElem?_set_ne (Ne.symm hj)), by rw [h4, List.length_set], by rw [h5]; exact xi_ns_set hA rfl⟩
    rw [show (d + 1) * 9 + 4 + k = d * 9 + 4 + k + 9 by omega]
    refine xg_s rfl rfl rfl rfl rfl ?_
    refine xg_s rfl rfl rfl rfl rfl ?_
    refine xg_s (pc2 := 10) rfl rfl rfl rfl (if_neg (nI_ge hlt (by omega))) ?_
    refine xg_s rfl rfl rfl rfl rfl ?_
    refine xg_s rfl rfl rfl rfl rfl ?_
    refine xg_s rfl rfl rfl rfl rfl ?_
    refine xg_s (pc' := 14) (st' := []) (lv' := (2, .int (nI i)) :: (3, .int (nI 512)) :: lv_args 0 [.ref a, .int (Int32.ofInt 0)]) (A' := A.set a (.inl (0, 512, .inl (upd f (nI i).toNatClampNeg (Int32.ofInt 0))))) rfl rfl rfl ?_ rfl ?_
    · show xi_s 4 .iastore 14 [] _ [.int (Int32.ofInt 0), .int (nI i), .ref a] A = _
      simp only [xi_s, hA]
      rw [if_neg (nI_in hlt (by omega))]
    refine xg_s rfl rfl rfl rfl rfl ?_
    refine xg_s rfl rfl rfl rfl rfl ?_
    rw [nI_succ] at h1
    exact h1 fr lo
theorem ef_fill {A : xi_H} {a k : Nat} {f : Nat → Int32} (hA : A[a]? = some (.inl (0, 512, .inl f))) : ∃ (A2 : xi_H) (f2 : Nat → Int32), (∀ fr lo, xi_go xi_ms (k + 4700) 43 fr lo 0 (lv_args 0 [.ref a, .int (Int32.ofInt 0)]) [] A = some (.returned none, A2)) ∧ A2[a]? = some (.inl (0, 512, .inl f2)) ∧ (∀ j : Nat, j ≠ a → A2[j]? = A[j]?) ∧ A2.length = A.length ∧ xi_ns A2 = xi_ns A := by
  obtain ⟨A2, f2, h1, h2, h3, h4, h5⟩ := ef_loop (a := a) (k := k + 78) 511 1 (A.set a (.inl (0, 512, .inl (upd f (nI 0).toNatClampNeg (Int32.ofInt 0))))) _ rfl (List.getElem?_set_self (List.getElem?_eq_some_iff.mp hA).1)
  refine ⟨A2, f2, fun fr lo => ?_, h2, fun j hj => (h3 j hj).trans (List.getElem?_set_ne (Ne.symm hj)), by rw [h4, List.length_set], by rw [h5]; exact xi_ns_set hA rfl⟩
  rw [show k + 4700 = 511 * 9 + 4 + (k + 78) + 14 + 5 by omega]
  refine xg_s rfl rfl rfl rfl rfl ?_
  refine xg_s rfl rfl rfl rfl rfl ?_
  refine xg_s rfl rfl rfl rfl rfl ?_
  refine xg_s (pc' := 4) (st' := [.int (nI 512)]) (lv' := (2, .int (nI 0)) :: lv_args 0 [.ref a, .int (Int32.ofInt 0)]) (A' := A) rfl rfl rfl ?_ rfl ?_
  · show xi_s 4 .arraylength 4 [] _ [.ref a] A = _
    simp only [xi_s, hA]
    rfl
  refine xg_s rfl rfl rfl rfl rfl ?_
  refine xi_fuel (n := 511 * 9 + 4 + (k + 78) + 9) (k := 5) ?_
  refine xg_s rfl rfl rfl rfl rfl ?_
  refine xg_s rfl rfl rfl rfl rfl ?_
  refine xg_s (pc2 := 10) rfl rfl rfl rfl (if_neg (nI_ge (a := 0) (b := 512) (by omega) (by omega))) ?_
  refine xg_s rfl rfl rfl rfl rfl ?_
  refine xg_s rfl rfl rfl rfl rfl ?_
  refine xg_s rfl rfl rfl rfl rfl ?_
  refine xg_s (pc' := 14) (st' := []) (lv' := (3, .int (nI 512)) :: (2, .int (nI 0)) :: lv_args 0 [.ref a, .int (Int32.ofInt 0)]) (A' := A.set a (.inl (0, 512, .inl (upd f (nI 0).toNatClampNeg (Int32.ofInt 0))))) rfl rfl rfl ?_ rfl ?_
  · show xi_s 4 .iastore 14 [] _ [.int (Int32.ofInt 0), .int (nI 0), .ref a] A = _
    simp only [xi_s, hA]
    rw [if_neg (nI_in (c := 0) (N := 512) (by omega) (by omega))]
    rfl
  refine xg_s rfl rfl rfl rfl rfl ?_
  refine xg_s rfl rfl rfl rfl rfl ?_
  rw [show nI 1 = nI 0 + 1 from nI_succ 0] at h1
  exact h1 fr lo
set_option maxRecDepth 10000 in
set_option maxHeartbeats 4000000 in
theorem er_domain {A : xi_H} (h0 : A[0]? = some (.inr (0, e_l0))) (h1 : A[1]? = some (.inr (1, e_l1))) (hS : A[331]? = some (.inr (11, e_lS))) (hR : A[118]? = some (.inr (6, [.ref 1, .ref 7, .ref 104, .ref 119]))) (hD : A[7]? = some (.inr (2, [.long 0, .ref 8, .ref 11, .ref 14, .ref 15, .ref 18, .ref 19, .ref 20]))) (hn8 : A[8]? = some (.inr (3, [.ref 9, .ref 10, .int 0]))) (hn11 : A[11]? = some (.inr (3, [.ref 12, .ref 13, .int 0]))) (hn15 : A[15]? = some (.inr (3, [.ref 16, .ref 17, .int 0]))) (hm : A[344]? = some (.inr (13, e_lM))) {g3 : Nat → Int32} (ha3 : A[3]? = some (.inl (0, 601, .inl g3))) {g4 : Nat → Int32} (ha4 : A[4]? = some (.inl (0, 601, .inl g4))) {g5 : Nat → Int32} (ha5 : A[5]? = some (.inl (0, 601, .inl g5))) {g6 : Nat → Int64} (ha6 : A[6]? = some (.inl (1, 601, .inr (.inl g6)))) {g335 : Nat → Int32} (ha335 : A[335]? = some (.inl (0, 201, .inl g335))) {g338 : Nat → Int32} (ha338 : A[338]? = some (.inl (0, 512, .inl g338))) {g347 : Nat → Int32} (ha347 : A[347]? = some (.inl (0, 602, .inl g347))) {g348 : Nat → Int32} (ha348 : A[348]? = some (.inl (0, 602, .inl g348))) : ∃ (A2 : xi_H) (g1 g2 : Nat → Int32), xi_go xi_ms 6000 75 15 560 0 (lv_args 0 [.ref 0, .ref 386]) [] A = some (.returned (some (.int 1)), A2) ∧ A2[344]? = some (.inr (13, e_lM)) ∧ A2[347]? = some (.inl (0, 602, .inl g1)) ∧ A2[348]? = some (.inl (0, 602, .inl g2)) ∧ A2.length ≤ A.length + 1 ∧ xi_ns A2 ≤ xi_ns A + 6 := by
  show xg_P (fun r => ∃ (A2 : xi_H) (g1 g2 : Nat → Int32), r = some (.returned (some (.int 1)), A2) ∧ A2[344]? = some (.inr (13, e_lM)) ∧ A2[347]? = some (.inl (0, 602, .inl g1)) ∧ A2[348]? = some (.inl (0, 602, .inl g2)) ∧ A2.length ≤ A.length + 1 ∧ xi_ns A2 ≤ xi_ns A + 6) _
  refine xp_s rfl rfl rfl rfl rfl ?_
  refine xp_s rfl rfl rfl rfl rfl ?_
  refine xp_s rfl rfl rfl rfl rfl ?_
  refine xp_VC (As := []) (rest := [_, _]) rfl rfl rfl rfl rfl h0 ⟨⟨by decide, Nat.le_of_ble_eq_true rfl, by decide⟩, by decide, Nat.le_of_ble_eq_true rfl, rfl⟩ rfl (by decide) ?_
  refine xp_s rfl rfl rfl rfl rfl ?_
  refine xp_s rfl rfl rfl rfl rfl ?_
  refine xp_put rfl rfl h0 (by first | decide | exact Nat.le_of_ble_eq_true rfl) (by first | rfl | decide) (by first | rfl | decide) (fun B1 hq1 hs1 hL1 hN1 => ?_)
  have hz1_1 := (hs1 1 (by decide)).trans h1
  have hz1_331 := (hs1 331 (by decide)).trans hS
  have hz1_118 := (hs1 118 (by decide)).trans hR
  have hz1_7 := (hs1 7 (by decide)).trans hD
  have hz1_8 := (hs1 8 (by decide)).trans hn8
  have hz1_11 := (hs1 11 (by decide)).trans hn11
  have hz1_15 := (hs1 15 (by decide)).trans hn15
  have hz1_344 := (hs1 344 (by decide)).trans hm
  have hz1_3 := (hs1 3 (by decide)).trans ha3
  have hz1_4 := (hs1 4 (by decide)).trans ha4
  have hz1_5 := (hs1 5 (by decide)).trans ha5
  have hz1_6 := (hs1 6 (by decide)).trans ha6
  have hz1_335 := (hs1 335 (by decide)).trans ha335
  have hz1_338 := (hs1 338 (by decide)).trans ha338
  have hz1_347 := (hs1 347 (by decide)).trans ha347
  have hz1_348 := (hs1 348 (by decide)).trans ha348
  refine xp_s rfl rfl rfl rfl rfl ?_
  refine xp_V (As := []) (rest := []) rfl rfl rfl rfl rfl hq1 ⟨⟨by decide, Nat.le_of_ble_eq_true rfl, by decide⟩, by decide, Nat.le_of_ble_eq_true rfl, rfl⟩ ?_
  refine xp_s rfl rfl rfl rfl rfl ?_
  refine xp_s rfl rfl rfl rfl rfl ?_
  refine xp_put rfl rfl hq1 (by first | decide | exact Nat.le_of_ble_eq_true rfl) (by first | rfl | decide) (by first | rfl | decide) (fun B2 hq2 hs2 hL2 hN2 => ?_)
  have hz2_1 := (hs2 1 (by decide)).trans hz1_1
  have hz2_331 := (hs2 331 (by decide)).trans hz1_331
  have hz2_118 := (hs2 118 (by decide)).trans hz1_118
  have hz2_7 := (hs2 7 (by decide)).trans hz1_7
  have hz2_8 := (hs2 8 (by decide)).trans hz1_8
  have hz2_11 := (hs2 11 (by decide)).trans hz1_11
  have hz2_15 := (hs2 15 (by decide)).trans hz1_15
  have hz2_344 := (hs2 344 (by decide)).trans hz1_344
  have hz2_3 := (hs2 3 (by decide)).trans hz1_3
  have hz2_4 := (hs2 4 (by decide)).trans hz1_4
  have hz2_5 := (hs2 5 (by decide)).trans hz1_5
  have hz2_6 := (hs2 6 (by decide)).trans hz1_6
  have hz2_335 := (hs2 335 (by decide)).trans hz1_335
  have hz2_338 := (hs2 338 (by decide)).trans hz1_338
  have hz2_347 := (hs2 347 (by decide)).trans hz1_347
  have hz2_348 := (hs2 348 (by decide)).trans hz1_348
  refine xp_s rfl rfl rfl rfl rfl ?_
  refine xp_get rfl rfl hq2 rfl ?_
  refine xp_V (As := []) (rest := []) rfl rfl rfl rfl rfl hz2_331 ⟨⟨by decide, Nat.le_of_ble_eq_true rfl, by decide⟩, by decide, Nat.le_of_ble_eq_true rfl, rfl⟩ ?_
  refine xp_s rfl rfl rfl rfl rfl ?_
  refine xp_s rfl rfl rfl rfl rfl ?_
  refine xp_put rfl rfl hz2_331 (by first | decide | exact Nat.le_of_ble_eq_true rfl) (by first | rfl | decide) (by first | rfl | decide) (fun B3 hq3 hs3 hL3 hN3 => ?_)
  have hz3_0 := (hs3 0 (by decide)).trans hq2
  have hz3_1 := (hs3 1 (by decide)).trans hz2_1
  have hz3_118 := (hs3 118 (by decide)).trans hz2_118
  have hz3_7 := (hs3 7 (by decide)).trans hz2_7
  have hz3_8 := (hs3 8 (by decide)).trans hz2_8
  have hz3_11 := (hs3 11 (by decide)).trans hz2_11
  have hz3_15 := (hs3 15 (by decide)).trans hz2_15
  have hz3_344 := (hs3 344 (by decide)).trans hz2_344
  have hz3_3 := (hs3 3 (by decide)).trans hz2_3
  have hz3_4 := (hs3 4 (by decide)).trans hz2_4
  have hz3_5 := (hs3 5 (by decide)).trans hz2_5
  have hz3_6 := (hs3 6 (by decide)).trans hz2_6
  have hz3_335 := (hs3 335 (by decide)).trans hz2_335
  have hz3_338 := (hs3 338 (by decide)).trans hz2_338
  have hz3_347 := (hs3 347 (by decide)).trans hz2_347
  have hz3_348 := (hs3 348 (by decide)).trans hz2_348
  refine xp_s rfl rfl rfl rfl rfl ?_
  refine xp_s rfl rfl rfl rfl rfl ?_
  refine xp_put rfl rfl hq3 (by first | decide | exact Nat.le_of_ble_eq_true rfl) (by first | rfl | decide) (by first | rfl | decide) (fun B4 hq4 hs4 hL4 hN4 => ?_)
  have hz4_0 := (hs4 0 (by decide)).trans hz3_0
  have hz4_1 := (hs4 1 (by decide)).trans hz3_1
  have hz4_118 := (hs4 118 (by decide)).trans hz3_118
  have hz4_7 := (hs4 7 (by decide)).trans hz3_7
  have hz4_8 := (hs4 8 (by decide)).trans hz3_8
  have hz4_11 := (hs4 11 (by decide)).trans hz3_11
  have hz4_15 := (hs4 15 (by decide)).trans hz3_15
  have hz4_344 := (hs4 344 (by decide)).trans hz3_344
  have hz4_3 := (hs4 3 (by decide)).trans hz3_3
  have hz4_4 := (hs4 4 (by decide)).trans hz3_4
  have hz4_5 := (hs4 5 (by decide)).trans hz3_5
  have hz4_6 := (hs4 6 (by decide)).trans hz3_6
  have hz4_335 := (hs4 335 (by decide)).trans hz3_335
  have hz4_338 := (hs4 338 (by decide)).trans hz3_338
  have hz4_347 := (hs4 347 (by decide)).trans hz3_347
  have hz4_348 := (hs4 348 (by decide)).trans hz3_348
  refine xp_s rfl rfl rfl rfl rfl ?_
  refine xp_s rfl rfl rfl rfl rfl ?_
  refine xp_put rfl rfl hq4 (by first | decide | exact Nat.le_of_ble_eq_true rfl) (by first | rfl | decide) (by first | rfl | decide) (fun B5 hq5 hs5 hL5 hN5 => ?_)
  have hz5_0 := (hs5 0 (by decide)).trans hz4_0
  have hz5_1 := (hs5 1 (by decide)).trans hz4_1
  have hz5_118 := (hs5 118 (by decide)).trans hz4_118
  have hz5_7 := (hs5 7 (by decide)).trans hz4_7
  have hz5_8 := (hs5 8 (by decide)).trans hz4_8
  have hz5_11 := (hs5 11 (by decide)).trans hz4_11
  have hz5_15 := (hs5 15 (by decide)).trans hz4_15
  have hz5_344 := (hs5 344 (by decide)).trans hz4_344
  have hz5_3 := (hs5 3 (by decide)).trans hz4_3
  have hz5_4 := (hs5 4 (by decide)).trans hz4_4
  have hz5_5 := (hs5 5 (by decide)).trans hz4_5
  have hz5_6 := (hs5 6 (by decide)).trans hz4_6
  have hz5_335 := (hs5 335 (by decide)).trans hz4_335
  have hz5_338 := (hs5 338 (by decide)).trans hz4_338
  have hz5_347 := (hs5 347 (by decide)).trans hz4_347
  have hz5_348 := (hs5 348 (by decide)).trans hz4_348
  refine xp_s rfl rfl rfl rfl rfl ?_
  refine xp_get rfl rfl hq5 rfl ?_
  refine xp_s rfl rfl rfl rfl rfl ?_
  refine xp_s rfl rfl rfl rfl rfl ?_
  refine xp_iast rfl rfl hz5_335 (by decide) (fun B6 hq6 hs6 hL6 hN6 => ?_)
  have hz6_0 := (hs6 0 (by decide)).trans hz5_0
  have hz6_1 := (hs6 1 (by decide)).trans hz5_1
  have hz6_331 := (hs6 331 (by decide)).trans hq5
  have hz6_118 := (hs6 118 (by decide)).trans hz5_118
  have hz6_7 := (hs6 7 (by decide)).trans hz5_7
  have hz6_8 := (hs6 8 (by decide)).trans hz5_8
  have hz6_11 := (hs6 11 (by decide)).trans hz5_11
  have hz6_15 := (hs6 15 (by decide)).trans hz5_15
  have hz6_344 := (hs6 344 (by decide)).trans hz5_344
  have hz6_3 := (hs6 3 (by decide)).trans hz5_3
  have hz6_4 := (hs6 4 (by decide)).trans hz5_4
  have hz6_5 := (hs6 5 (by decide)).trans hz5_5
  have hz6_6 := (hs6 6 (by decide)).trans hz5_6
  have hz6_338 := (hs6 338 (by decide)).trans hz5_338
  have hz6_347 := (hs6 347 (by decide)).trans hz5_347
  have hz6_348 := (hs6 348 (by decide)).trans hz5_348
  refine xp_s rfl rfl rfl rfl rfl ?_
  refine xp_get rfl rfl hz6_331 rfl ?_
  refine xp_s rfl rfl rfl rfl rfl ?_
  refine xp_S (As := [_, _]) (rest := []) rfl rfl rfl rfl rfl (xi_pos hz6_0) ⟨⟨Nat.le_of_ble_eq_true rfl, by decide⟩, by decide, Nat.le_of_ble_eq_true rfl, rfl⟩ ?_
  obtain ⟨B7, ff7, hrf7, hq7, hs7, hL7, hN7⟩ := ef_fill (k := 1267) hz6_338
  refine xp_of (hrf7 _ _) ⟨_, _, rfl, ?_⟩
  have hz7_0 := (hs7 0 (by decide)).trans hz6_0
  have hz7_1 := (hs7 1 (by decide)).trans hz6_1
  have hz7_331 := (hs7 331 (by decide)).trans hz6_331
  have hz7_118 := (hs7 118 (by decide)).trans hz6_118
  have hz7_7 := (hs7 7 (by decide)).trans hz6_7
  have hz7_8 := (hs7 8 (by decide)).trans hz6_8
  have hz7_11 := (hs7 11 (by decide)).trans hz6_11
  have hz7_15 := (hs7 15 (by decide)).trans hz6_15
  have hz7_344 := (hs7 344 (by decide)).trans hz6_344
  have hz7_3 := (hs7 3 (by decide)).trans hz6_3
  have hz7_4 := (hs7 4 (by decide)).trans hz6_4
  have hz7_5 := (hs7 5 (by decide)).trans hz6_5
  have hz7_6 := (hs7 6 (by decide)).trans hz6_6
  have hz7_335 := (hs7 335 (by decide)).trans hq6
  have hz7_347 := (hs7 347 (by decide)).trans hz6_347
  have hz7_348 := (hs7 348 (by decide)).trans hz6_348
  refine xp_e rfl rfl rfl ⟨_, _, rfl, ?_⟩
  refine xp_s rfl rfl rfl rfl rfl ?_
  refine xp_s rfl rfl rfl rfl rfl ?_
  refine xp_put rfl rfl hz7_0 (by first | decide | exact Nat.le_of_ble_eq_true rfl) (by first | rfl | decide) (by first | rfl | decide) (fun B8 hq8 hs8 hL8 hN8 => ?_)
  have hz8_1 := (hs8 1 (by decide)).trans hz7_1
  have hz8_331 := (hs8 331 (by decide)).trans hz7_331
  have hz8_118 := (hs8 118 (by decide)).trans hz7_118
  have hz8_7 := (hs8 7 (by decide)).trans hz7_7
  have hz8_8 := (hs8 8 (by decide)).trans hz7_8
  have hz8_11 := (hs8 11 (by decide)).trans hz7_11
  have hz8_15 := (hs8 15 (by decide)).trans hz7_15
  have hz8_344 := (hs8 344 (by decide)).trans hz7_344
  have hz8_3 := (hs8 3 (by decide)).trans hz7_3
  have hz8_4 := (hs8 4 (by decide)).trans hz7_4
  have hz8_5 := (hs8 5 (by decide)).trans hz7_5
  have hz8_6 := (hs8 6 (by decide)).trans hz7_6
  have hz8_335 := (hs8 335 (by decide)).trans hz7_335
  have hz8_338 := (hs8 338 (by decide)).trans hq7
  have hz8_347 := (hs8 347 (by decide)).trans hz7_347
  have hz8_348 := (hs8 348 (by decide)).trans hz7_348
  refine xp_s rfl rfl rfl rfl rfl ?_
  refine xp_s rfl rfl rfl rfl rfl ?_
  refine xp_put rfl rfl hq8 (by first | decide | exact Nat.le_of_ble_eq_true rfl) (by first | rfl | decide) (by first | rfl | decide) (fun B9 hq9 hs9 hL9 hN9 => ?_)
  have hz9_1 := (hs9 1 (by decide)).trans hz8_1
  have hz9_331 := (hs9 331 (by decide)).trans hz8_331
  have hz9_118 := (hs9 118 (by decide)).trans hz8_118
  have hz9_7 := (hs9 7 (by decide)).trans hz8_7
  have hz9_8 := (hs9 8 (by decide)).trans hz8_8
  have hz9_11 := (hs9 11 (by decide)).trans hz8_11
  have hz9_15 := (hs9 15 (by decide)).trans hz8_15
  have hz9_344 := (hs9 344 (by decide)).trans hz8_344
  have hz9_3 := (hs9 3 (by decide)).trans hz8_3
  have hz9_4 := (hs9 4 (by decide)).trans hz8_4
  have hz9_5 := (hs9 5 (by decide)).trans hz8_5
  have hz9_6 := (hs9 6 (by decide)).trans hz8_6
  have hz9_335 := (hs9 335 (by decide)).trans hz8_335
  have hz9_338 := (hs9 338 (by decide)).trans hz8_338
  have hz9_347 := (hs9 347 (by decide)).trans hz8_347
  have hz9_348 := (hs9 348 (by decide)).trans hz8_348
  refine xp_e rfl rfl rfl ⟨_, _, rfl, ?_⟩
  refine xp_s rfl rfl rfl rfl rfl ?_
  refine xp_get rfl rfl hq9 rfl ?_
  refine xp_VT (As := []) (rest := []) rfl rfl rfl rfl rfl hz9_118 ⟨⟨by decide, Nat.le_of_ble_eq_true rfl, by decide⟩, by decide, Nat.le_of_ble_eq_true rfl, rfl⟩ rfl ?_
  refine xp_s rfl rfl rfl rfl rfl ?_
  refine xp_get rfl rfl hz9_118 rfl ?_
  refine xp_V (As := []) (rest := []) rfl rfl rfl rfl rfl hz9_1 ⟨⟨by decide, Nat.le_of_ble_eq_true rfl, by decide⟩, by decide, Nat.le_of_ble_eq_true rfl, rfl⟩ ?_
  refine xp_s rfl rfl rfl rfl rfl ?_
  refine xp_s rfl rfl rfl rfl rfl ?_
  refine xp_put rfl rfl hz9_1 (by first | decide | exact Nat.le_of_ble_eq_true rfl) (by first | rfl | decide) (by first | rfl | decide) (fun B10 hq10 hs10 hL10 hN10 => ?_)
  have hz10_0 := (hs10 0 (by decide)).trans hq9
  have hz10_331 := (hs10 331 (by decide)).trans hz9_331
  have hz10_118 := (hs10 118 (by decide)).trans hz9_118
  have hz10_7 := (hs10 7 (by decide)).trans hz9_7
  have hz10_8 := (hs10 8 (by decide)).trans hz9_8
  have hz10_11 := (hs10 11 (by decide)).trans hz9_11
  have hz10_15 := (hs10 15 (by decide)).trans hz9_15
  have hz10_344 := (hs10 344 (by decide)).trans hz9_344
  have hz10_3 := (hs10 3 (by decide)).trans hz9_3
  have hz10_4 := (hs10 4 (by decide)).trans hz9_4
  have hz10_5 := (hs10 5 (by decide)).trans hz9_5
  have hz10_6 := (hs10 6 (by decide)).trans hz9_6
  have hz10_335 := (hs10 335 (by decide)).trans hz9_335
  have hz10_338 := (hs10 338 (by decide)).trans hz9_338
  have hz10_347 := (hs10 347 (by decide)).trans hz9_347
  have hz10_348 := (hs10 348 (by decide)).trans hz9_348
  refine xp_s rfl rfl rfl rfl rfl ?_
  refine xp_s rfl rfl rfl rfl rfl ?_
  refine xp_put rfl rfl hq10 (by first | decide | exact Nat.le_of_ble_eq_true rfl) (by first | rfl | decide) (by first | rfl | decide) (fun B11 hq11 hs11 hL11 hN11 => ?_)
  have hz11_0 := (hs11 0 (by decide)).trans hz10_0
  have hz11_331 := (hs11 331 (by decide)).trans hz10_331
  have hz11_118 := (hs11 118 (by decide)).trans hz10_118
  have hz11_7 := (hs11 7 (by decide)).trans hz10_7
  have hz11_8 := (hs11 8 (by decide)).trans hz10_8
  have hz11_11 := (hs11 11 (by decide)).trans hz10_11
  have hz11_15 := (hs11 15 (by decide)).trans hz10_15
  have hz11_344 := (hs11 344 (by decide)).trans hz10_344
  have hz11_3 := (hs11 3 (by decide)).trans hz10_3
  have hz11_4 := (hs11 4 (by decide)).trans hz10_4
  have hz11_5 := (hs11 5 (by decide)).trans hz10_5
  have hz11_6 := (hs11 6 (by decide)).trans hz10_6
  have hz11_335 := (hs11 335 (by decide)).trans hz10_335
  have hz11_338 := (hs11 338 (by decide)).trans hz10_338
  have hz11_347 := (hs11 347 (by decide)).trans hz10_347
  have hz11_348 := (hs11 348 (by decide)).trans hz10_348
  refine xp_s rfl rfl rfl rfl rfl ?_
  refine xp_s rfl rfl rfl rfl rfl ?_
  refine xp_put rfl rfl hq11 (by first | decide | exact Nat.le_of_ble_eq_true rfl) (by first | rfl | decide) (by first | rfl | decide) (fun B12 hq12 hs12 hL12 hN12 => ?_)
  have hz12_0 := (hs12 0 (by decide)).trans hz11_0
  have hz12_331 := (hs12 331 (by decide)).trans hz11_331
  have hz12_118 := (hs12 118 (by decide)).trans hz11_118
  have hz12_7 := (hs12 7 (by decide)).trans hz11_7
  have hz12_8 := (hs12 8 (by decide)).trans hz11_8
  have hz12_11 := (hs12 11 (by decide)).trans hz11_11
  have hz12_15 := (hs12 15 (by decide)).trans hz11_15
  have hz12_344 := (hs12 344 (by decide)).trans hz11_344
  have hz12_3 := (hs12 3 (by decide)).trans hz11_3
  have hz12_4 := (hs12 4 (by decide)).trans hz11_4
  have hz12_5 := (hs12 5 (by decide)).trans hz11_5
  have hz12_6 := (hs12 6 (by decide)).trans hz11_6
  have hz12_335 := (hs12 335 (by decide)).trans hz11_335
  have hz12_338 := (hs12 338 (by decide)).trans hz11_338
  have hz12_347 := (hs12 347 (by decide)).trans hz11_347
  have hz12_348 := (hs12 348 (by decide)).trans hz11_348
  refine xp_s rfl rfl rfl rfl rfl ?_
  refine xp_s rfl rfl rfl rfl rfl ?_
  refine xp_s rfl rfl rfl rfl rfl ?_
  refine xp_s rfl rfl rfl rfl rfl ?_
  refine xp_s rfl rfl rfl rfl rfl ?_
  refine xp_s rfl rfl rfl rfl rfl ?_
  refine xp_get rfl rfl hq12 rfl ?_
  refine xp_s (pc2 := 125) rfl rfl rfl rfl (if_pos (by decide)) ?_
  refine xp_s rfl rfl rfl rfl rfl ?_
  refine xp_s (pc2 := 138) rfl rfl rfl rfl (if_pos (by decide)) ?_
  refine xp_s rfl rfl rfl rfl rfl ?_
  refine xp_s rfl rfl rfl rfl rfl ?_
  refine xp_s rfl rfl rfl rfl rfl ?_
  refine xp_get rfl rfl hq12 rfl ?_
  refine xp_s rfl rfl rfl rfl rfl ?_
  refine xp_get rfl rfl hq12 rfl ?_
  refine xp_s rfl rfl rfl rfl rfl ?_
  refine xp_V (As := [_, _, _, _]) (rest := []) rfl rfl rfl rfl rfl hq12 ⟨⟨by decide, Nat.le_of_ble_eq_true rfl, by decide⟩, by decide, Nat.le_of_ble_eq_true rfl, rfl⟩ ?_
  refine xp_s rfl rfl rfl rfl rfl ?_
  refine xp_get rfl rfl hq12 rfl ?_
  refine xp_s rfl rfl rfl rfl rfl ?_
  refine xp_get rfl rfl hq12 rfl ?_
  refine xp_s rfl rfl rfl rfl rfl ?_
  refine xp_iast rfl rfl hz12_3 (by decide) (fun B13 hq13 hs13 hL13 hN13 => ?_)
  have hz13_0 := (hs13 0 (by decide)).trans hz12_0
  have hz13_1 := (hs13 1 (by decide)).trans hq12
  have hz13_331 := (hs13 331 (by decide)).trans hz12_331
  have hz13_118 := (hs13 118 (by decide)).trans hz12_118
  have hz13_7 := (hs13 7 (by decide)).trans hz12_7
  have hz13_8 := (hs13 8 (by decide)).trans hz12_8
  have hz13_11 := (hs13 11 (by decide)).trans hz12_11
  have hz13_15 := (hs13 15 (by decide)).trans hz12_15
  have hz13_344 := (hs13 344 (by decide)).trans hz12_344
  have hz13_4 := (hs13 4 (by decide)).trans hz12_4
  have hz13_5 := (hs13 5 (by decide)).trans hz12_5
  have hz13_6 := (hs13 6 (by decide)).trans hz12_6
  have hz13_335 := (hs13 335 (by decide)).trans hz12_335
  have hz13_338 := (hs13 338 (by decide)).trans hz12_338
  have hz13_347 := (hs13 347 (by decide)).trans hz12_347
  have hz13_348 := (hs13 348 (by decide)).trans hz12_348
  refine xp_s rfl rfl rfl rfl rfl ?_
  refine xp_get rfl rfl hz13_1 rfl ?_
  refine xp_s rfl rfl rfl rfl rfl ?_
  refine xp_get rfl rfl hz13_1 rfl ?_
  refine xp_s rfl rfl rfl rfl rfl ?_
  refine xp_iast rfl rfl hz13_4 (by decide) (fun B14 hq14 hs14 hL14 hN14 => ?_)
  have hz14_0 := (hs14 0 (by decide)).trans hz13_0
  have hz14_1 := (hs14 1 (by decide)).trans hz13_1
  have hz14_331 := (hs14 331 (by decide)).trans hz13_331
  have hz14_118 := (hs14 118 (by decide)).trans hz13_118
  have hz14_7 := (hs14 7 (by decide)).trans hz13_7
  have hz14_8 := (hs14 8 (by decide)).trans hz13_8
  have hz14_11 := (hs14 11 (by decide)).trans hz13_11
  have hz14_15 := (hs14 15 (by decide)).trans hz13_15
  have hz14_344 := (hs14 344 (by decide)).trans hz13_344
  have hz14_3 := (hs14 3 (by decide)).trans hq13
  have hz14_5 := (hs14 5 (by decide)).trans hz13_5
  have hz14_6 := (hs14 6 (by decide)).trans hz13_6
  have hz14_335 := (hs14 335 (by decide)).trans hz13_335
  have hz14_338 := (hs14 338 (by decide)).trans hz13_338
  have hz14_347 := (hs14 347 (by decide)).trans hz13_347
  have hz14_348 := (hs14 348 (by decide)).trans hz13_348
  refine xp_s rfl rfl rfl rfl rfl ?_
  refine xp_get rfl rfl hz14_1 rfl ?_
  refine xp_s rfl rfl rfl rfl rfl ?_
  refine xp_get rfl rfl hz14_1 rfl ?_
  refine xp_s rfl rfl rfl rfl rfl ?_
  refine xp_iast rfl rfl hz14_5 (by decide) (fun B15 hq15 hs15 hL15 hN15 => ?_)
  have hz15_0 := (hs15 0 (by decide)).trans hz14_0
  have hz15_1 := (hs15 1 (by decide)).trans hz14_1
  have hz15_331 := (hs15 331 (by decide)).trans hz14_331
  have hz15_118 := (hs15 118 (by decide)).trans hz14_118
  have hz15_7 := (hs15 7 (by decide)).trans hz14_7
  have hz15_8 := (hs15 8 (by decide)).trans hz14_8
  have hz15_11 := (hs15 11 (by decide)).trans hz14_11
  have hz15_15 := (hs15 15 (by decide)).trans hz14_15
  have hz15_344 := (hs15 344 (by decide)).trans hz14_344
  have hz15_3 := (hs15 3 (by decide)).trans hz14_3
  have hz15_4 := (hs15 4 (by decide)).trans hq14
  have hz15_6 := (hs15 6 (by decide)).trans hz14_6
  have hz15_335 := (hs15 335 (by decide)).trans hz14_335
  have hz15_338 := (hs15 338 (by decide)).trans hz14_338
  have hz15_347 := (hs15 347 (by decide)).trans hz14_347
  have hz15_348 := (hs15 348 (by decide)).trans hz14_348
  refine xp_s rfl rfl rfl rfl rfl ?_
  refine xp_get rfl rfl hz15_1 rfl ?_
  refine xp_s rfl rfl rfl rfl rfl ?_
  refine xp_get rfl rfl hz15_1 rfl ?_
  refine xp_s rfl rfl rfl rfl rfl ?_
  refine xp_last rfl rfl hz15_6 (by decide) (fun B16 hq16 hs16 hL16 hN16 => ?_)
  have hz16_0 := (hs16 0 (by decide)).trans hz15_0
  have hz16_1 := (hs16 1 (by decide)).trans hz15_1
  have hz16_331 := (hs16 331 (by decide)).trans hz15_331
  have hz16_118 := (hs16 118 (by decide)).trans hz15_118
  have hz16_7 := (hs16 7 (by decide)).trans hz15_7
  have hz16_8 := (hs16 8 (by decide)).trans hz15_8
  have hz16_11 := (hs16 11 (by decide)).trans hz15_11
  have hz16_15 := (hs16 15 (by decide)).trans hz15_15
  have hz16_344 := (hs16 344 (by decide)).trans hz15_344
  have hz16_3 := (hs16 3 (by decide)).trans hz15_3
  have hz16_4 := (hs16 4 (by decide)).trans hz15_4
  have hz16_5 := (hs16 5 (by decide)).trans hq15
  have hz16_335 := (hs16 335 (by decide)).trans hz15_335
  have hz16_338 := (hs16 338 (by decide)).trans hz15_338
  have hz16_347 := (hs16 347 (by decide)).trans hz15_347
  have hz16_348 := (hs16 348 (by decide)).trans hz15_348
  refine xp_s rfl rfl rfl rfl rfl ?_
  refine xp_s rfl rfl rfl rfl rfl ?_
  refine xp_get rfl rfl hz16_1 rfl ?_
  refine xp_s rfl rfl rfl rfl rfl ?_
  refine xp_s rfl rfl rfl rfl rfl ?_
  refine xp_put rfl rfl hz16_1 (by first | decide | exact Nat.le_of_ble_eq_true rfl) (by first | rfl | decide) (by first | rfl | decide) (fun B17 hq17 hs17 hL17 hN17 => ?_)
  have hz17_0 := (hs17 0 (by decide)).trans hz16_0
  have hz17_331 := (hs17 331 (by decide)).trans hz16_331
  have hz17_118 := (hs17 118 (by decide)).trans hz16_118
  have hz17_7 := (hs17 7 (by decide)).trans hz16_7
  have hz17_8 := (hs17 8 (by decide)).trans hz16_8
  have hz17_11 := (hs17 11 (by decide)).trans hz16_11
  have hz17_15 := (hs17 15 (by decide)).trans hz16_15
  have hz17_344 := (hs17 344 (by decide)).trans hz16_344
  have hz17_3 := (hs17 3 (by decide)).trans hz16_3
  have hz17_4 := (hs17 4 (by decide)).trans hz16_4
  have hz17_5 := (hs17 5 (by decide)).trans hz16_5
  have hz17_6 := (hs17 6 (by decide)).trans hq16
  have hz17_335 := (hs17 335 (by decide)).trans hz16_335
  have hz17_338 := (hs17 338 (by decide)).trans hz16_338
  have hz17_347 := (hs17 347 (by decide)).trans hz16_347
  have hz17_348 := (hs17 348 (by decide)).trans hz16_348
  refine xp_e rfl rfl rfl ⟨_, _, rfl, ?_⟩
  refine xp_s rfl rfl rfl rfl rfl ?_
  refine xp_s rfl rfl rfl rfl rfl ?_
  refine xp_put rfl rfl hq17 (by first | decide | exact Nat.le_of_ble_eq_true rfl) (by first | rfl | decide) (by first | rfl | decide) (fun B18 hq18 hs18 hL18 hN18 => ?_)
  have hz18_0 := (hs18 0 (by decide)).trans hz17_0
  have hz18_331 := (hs18 331 (by decide)).trans hz17_331
  have hz18_118 := (hs18 118 (by decide)).trans hz17_118
  have hz18_7 := (hs18 7 (by decide)).trans hz17_7
  have hz18_8 := (hs18 8 (by decide)).trans hz17_8
  have hz18_11 := (hs18 11 (by decide)).trans hz17_11
  have hz18_15 := (hs18 15 (by decide)).trans hz17_15
  have hz18_344 := (hs18 344 (by decide)).trans hz17_344
  have hz18_3 := (hs18 3 (by decide)).trans hz17_3
  have hz18_4 := (hs18 4 (by decide)).trans hz17_4
  have hz18_5 := (hs18 5 (by decide)).trans hz17_5
  have hz18_6 := (hs18 6 (by decide)).trans hz17_6
  have hz18_335 := (hs18 335 (by decide)).trans hz17_335
  have hz18_338 := (hs18 338 (by decide)).trans hz17_338
  have hz18_347 := (hs18 347 (by decide)).trans hz17_347
  have hz18_348 := (hs18 348 (by decide)).trans hz17_348
  refine xp_e rfl rfl rfl ⟨_, _, rfl, ?_⟩
  refine xp_s rfl rfl rfl rfl rfl ?_
  refine xp_get rfl rfl hz18_118 rfl ?_
  refine xp_V (As := []) (rest := []) rfl rfl rfl rfl rfl hz18_7 ⟨⟨by decide, Nat.le_of_ble_eq_true rfl, by decide⟩, by decide, Nat.le_of_ble_eq_true rfl, rfl⟩ ?_
  refine xp_s rfl rfl rfl rfl rfl ?_
  refine xp_get rfl rfl hz18_7 rfl ?_
  refine xp_V (As := []) (rest := []) rfl rfl rfl rfl rfl hz18_8 ⟨⟨by decide, Nat.le_of_ble_eq_true rfl, by decide⟩, by decide, Nat.le_of_ble_eq_true rfl, rfl⟩ ?_
  refine xp_s rfl rfl rfl rfl rfl ?_
  refine xp_s rfl rfl rfl rfl rfl ?_
  refine xp_put rfl rfl hz18_8 (by first | decide | exact Nat.le_of_ble_eq_true rfl) (by first | rfl | decide) (by first | rfl | decide) (fun B19 hq19 hs19 hL19 hN19 => ?_)
  have hz19_0 := (hs19 0 (by decide)).trans hz18_0
  have hz19_1 := (hs19 1 (by decide)).trans hq18
  have hz19_331 := (hs19 331 (by decide)).trans hz18_331
  have hz19_118 := (hs19 118 (by decide)).trans hz18_118
  have hz19_7 := (hs19 7 (by decide)).trans hz18_7
  have hz19_11 := (hs19 11 (by decide)).trans hz18_11
  have hz19_15 := (hs19 15 (by decide)).trans hz18_15
  have hz19_344 := (hs19 344 (by decide)).trans hz18_344
  have hz19_3 := (hs19 3 (by decide)).trans hz18_3
  have hz19_4 := (hs19 4 (by decide)).trans hz18_4
  have hz19_5 := (hs19 5 (by decide)).trans hz18_5
  have hz19_6 := (hs19 6 (by decide)).trans hz18_6
  have hz19_335 := (hs19 335 (by decide)).trans hz18_335
  have hz19_338 := (hs19 338 (by decide)).trans hz18_338
  have hz19_347 := (hs19 347 (by decide)).trans hz18_347
  have hz19_348 := (hs19 348 (by decide)).trans hz18_348
  refine xp_e rfl rfl rfl ⟨_, _, rfl, ?_⟩
  refine xp_s rfl rfl rfl rfl rfl ?_
  refine xp_get rfl rfl hz19_7 rfl ?_
  refine xp_V (As := []) (rest := []) rfl rfl rfl rfl rfl hz19_11 ⟨⟨by decide, Nat.le_of_ble_eq_true rfl, by decide⟩, by decide, Nat.le_of_ble_eq_true rfl, rfl⟩ ?_
  refine xp_s rfl rfl rfl rfl rfl ?_
  refine xp_s rfl rfl rfl rfl rfl ?_
  refine xp_put rfl rfl hz19_11 (by first | decide | exact Nat.le_of_ble_eq_true rfl) (by first | rfl | decide) (by first | rfl | decide) (fun B20 hq20 hs20 hL20 hN20 => ?_)
  have hz20_0 := (hs20 0 (by decide)).trans hz19_0
  have hz20_1 := (hs20 1 (by decide)).trans hz19_1
  have hz20_331 := (hs20 331 (by decide)).trans hz19_331
  have hz20_118 := (hs20 118 (by decide)).trans hz19_118
  have hz20_7 := (hs20 7 (by decide)).trans hz19_7
  have hz20_8 := (hs20 8 (by decide)).trans hq19
  have hz20_15 := (hs20 15 (by decide)).trans hz19_15
  have hz20_344 := (hs20 344 (by decide)).trans hz19_344
  have hz20_3 := (hs20 3 (by decide)).trans hz19_3
  have hz20_4 := (hs20 4 (by decide)).trans hz19_4
  have hz20_5 := (hs20 5 (by decide)).trans hz19_5
  have hz20_6 := (hs20 6 (by decide)).trans hz19_6
  have hz20_335 := (hs20 335 (by decide)).trans hz19_335
  have hz20_338 := (hs20 338 (by decide)).trans hz19_338
  have hz20_347 := (hs20 347 (by decide)).trans hz19_347
  have hz20_348 := (hs20 348 (by decide)).trans hz19_348
  refine xp_e rfl rfl rfl ⟨_, _, rfl, ?_⟩
  refine xp_s rfl rfl rfl rfl rfl ?_
  refine xp_get rfl rfl hz20_7 rfl ?_
  refine xp_V (As := []) (rest := []) rfl rfl rfl rfl rfl hz20_15 ⟨⟨by decide, Nat.le_of_ble_eq_true rfl, by decide⟩, by decide, Nat.le_of_ble_eq_true rfl, rfl⟩ ?_
  refine xp_s rfl rfl rfl rfl rfl ?_
  refine xp_s rfl rfl rfl rfl rfl ?_
  refine xp_put rfl rfl hz20_15 (by first | decide | exact Nat.le_of_ble_eq_true rfl) (by first | rfl | decide) (by first | rfl | decide) (fun B21 hq21 hs21 hL21 hN21 => ?_)
  have hz21_0 := (hs21 0 (by decide)).trans hz20_0
  have hz21_1 := (hs21 1 (by decide)).trans hz20_1
  have hz21_331 := (hs21 331 (by decide)).trans hz20_331
  have hz21_118 := (hs21 118 (by decide)).trans hz20_118
  have hz21_7 := (hs21 7 (by decide)).trans hz20_7
  have hz21_8 := (hs21 8 (by decide)).trans hz20_8
  have hz21_11 := (hs21 11 (by decide)).trans hq20
  have hz21_344 := (hs21 344 (by decide)).trans hz20_344
  have hz21_3 := (hs21 3 (by decide)).trans hz20_3
  have hz21_4 := (hs21 4 (by decide)).trans hz20_4
  have hz21_5 := (hs21 5 (by decide)).trans hz20_5
  have hz21_6 := (hs21 6 (by decide)).trans hz20_6
  have hz21_335 := (hs21 335 (by decide)).trans hz20_335
  have hz21_338 := (hs21 338 (by decide)).trans hz20_338
  have hz21_347 := (hs21 347 (by decide)).trans hz20_347
  have hz21_348 := (hs21 348 (by decide)).trans hz20_348
  refine xp_e rfl rfl rfl ⟨_, _, rfl, ?_⟩
  refine xp_e rfl rfl rfl ⟨_, _, rfl, ?_⟩
  refine xp_s rfl rfl rfl rfl rfl ?_
  refine xp_s rfl rfl rfl rfl rfl ?_
  refine xp_VT (As := [_]) (rest := []) rfl rfl rfl rfl rfl hz21_118 ⟨⟨by decide, Nat.le_of_ble_eq_true rfl, by decide⟩, by decide, Nat.le_of_ble_eq_true rfl, rfl⟩ rfl ?_
  refine xp_s rfl rfl rfl rfl rfl ?_
  refine xp_get rfl rfl hz21_118 rfl ?_
  refine xp_s rfl rfl rfl rfl rfl ?_
  refine xp_VT (As := [_]) (rest := []) rfl rfl rfl rfl rfl hz21_1 ⟨⟨by decide, Nat.le_of_ble_eq_true rfl, by decide⟩, by decide, Nat.le_of_ble_eq_true rfl, rfl⟩ rfl ?_
  refine xp_s rfl rfl rfl rfl rfl ?_
  refine xp_get rfl rfl hz21_1 rfl ?_
  refine xp_s rfl rfl rfl rfl rfl ?_
  refine xp_get rfl rfl hz21_1 rfl ?_
  refine xp_iald (v := 5) rfl rfl hz21_3 (by decide) rfl ?_
  refine xp_s rfl rfl rfl rfl rfl ?_
  refine xp_s (pc2 := 13) rfl rfl rfl rfl (if_neg (by decide)) ?_
  refine xp_s rfl rfl rfl rfl rfl ?_
  refine xp_s rfl rfl rfl rfl rfl ?_
  refine xp_VT (As := [_]) (rest := []) rfl rfl rfl rfl rfl hz21_1 ⟨⟨by decide, Nat.le_of_ble_eq_true rfl, by decide⟩, by decide, Nat.le_of_ble_eq_true rfl, rfl⟩ rfl ?_
  refine xp_s rfl rfl rfl rfl rfl ?_
  refine xp_s rfl rfl rfl rfl rfl ?_
  refine xp_s rfl rfl rfl rfl rfl ?_
  refine xp_s rfl rfl rfl rfl rfl ?_
  refine xp_get rfl rfl hz21_1 rfl ?_
  refine xp_s rfl rfl rfl rfl rfl ?_
  refine xp_get rfl rfl hz21_1 rfl ?_
  refine xp_iald (v := 0) rfl rfl hz21_4 (by decide) rfl ?_
  refine xp_s rfl rfl rfl rfl rfl ?_
  refine xp_s rfl rfl rfl rfl rfl ?_
  refine xp_put rfl rfl hz21_1 (by first | decide | exact Nat.le_of_ble_eq_true rfl) (by first | rfl | decide) (by first | rfl | decide) (fun B22 hq22 hs22 hL22 hN22 => ?_)
  have hz22_0 := (hs22 0 (by decide)).trans hz21_0
  have hz22_331 := (hs22 331 (by decide)).trans hz21_331
  have hz22_118 := (hs22 118 (by decide)).trans hz21_118
  have hz22_7 := (hs22 7 (by decide)).trans hz21_7
  have hz22_8 := (hs22 8 (by decide)).trans hz21_8
  have hz22_11 := (hs22 11 (by decide)).trans hz21_11
  have hz22_15 := (hs22 15 (by decide)).trans hq21
  have hz22_344 := (hs22 344 (by decide)).trans hz21_344
  have hz22_3 := (hs22 3 (by decide)).trans hz21_3
  have hz22_4 := (hs22 4 (by decide)).trans hz21_4
  have hz22_5 := (hs22 5 (by decide)).trans hz21_5
  have hz22_6 := (hs22 6 (by decide)).trans hz21_6
  have hz22_335 := (hs22 335 (by decide)).trans hz21_335
  have hz22_338 := (hs22 338 (by decide)).trans hz21_338
  have hz22_347 := (hs22 347 (by decide)).trans hz21_347
  have hz22_348 := (hs22 348 (by decide)).trans hz21_348
  refine xp_e rfl rfl (if_pos ⟨rfl, by decide, by decide, by decide, xi_pos hz22_0⟩) ⟨_, _, rfl, ⟨_, _, rfl, ⟨_, _, rfl, ⟨_, _, rfl, ⟨_, _, _, rfl, xi_last _ _, ?_⟩⟩⟩⟩⟩
  refine xp_s rfl rfl rfl rfl rfl ?_
  refine xp_s rfl rfl rfl rfl rfl ?_
  refine xp_e rfl rfl rfl ?_
  exact ⟨_, _, _, rfl, (xi_app hz22_344), (xi_app hz22_347), (xi_app hz22_348), by simp only [List.length_append, List.length_singleton]; omega, by rw [xi_ns_push]; simp only [xi_n, List.length_replicate]; omega⟩
set_option maxRecDepth 10000 in
set_option maxHeartbeats 4000000 in
theorem em_domain {A : xi_H} (hm : A[344]? = some (.inr (13, e_lM))) {g347 g348 : Nat → Int32} (ha347 : A[347]? = some (.inl (0, 602, .inl g347))) (ha348 : A[348]? = some (.inl (0, 602, .inl g348))) : ∃ (A2 : xi_H) (fs : List Value), xi_go xi_ms 400 64 15 560 0 (lv_args 0 [.ref 344]) [] A = some (.returned (some (.int 0)), A2) ∧ A2[344]? = some (.inr (13, fs)) ∧ fs[0]? = some (.int 1) ∧ A2.length = A.length ∧ xi_ns A2 = xi_ns A := by
  show xg_P (fun r => ∃ (A2 : xi_H) (fs : List Value), r = some (.returned (some (.int 0)), A2) ∧ A2[344]? = some (.inr (13, fs)) ∧ fs[0]? = some (.int 1) ∧ A2.length = A.length ∧ xi_ns A2 = xi_ns A) _
  refine xp_s rfl rfl rfl rfl rfl ?_
  refine xp_V (As := []) (rest := []) rfl rfl rfl rfl rfl hm ⟨⟨by decide, Nat.le_of_ble_eq_true rfl, by decide⟩, by decide, Nat.le_of_ble_eq_true rfl, rfl⟩ ?_
  refine xp_s rfl rfl rfl rfl rfl ?_
  refine xp_s rfl rfl rfl rfl rfl ?_
  refine xp_put rfl rfl hm (by first | decide | exact Nat.le_of_ble_eq_true rfl) (by first | rfl | decide) (by first | rfl | decide) (fun B1 hq1 hs1 hL1 hN1 => ?_)
  have hz1_347 := (hs1 347 (by decide)).trans ha347
  have hz1_348 := (hs1 348 (by decide)).trans ha348
  refine xp_s rfl rfl rfl rfl rfl ?_
  refine xp_s rfl rfl rfl rfl rfl ?_
  refine xp_put rfl rfl hq1 (by first | decide | exact Nat.le_of_ble_eq_true rfl) (by first | rfl | decide) (by first | rfl | decide) (fun B2 hq2 hs2 hL2 hN2 => ?_)
  have hz2_347 := (hs2 347 (by decide)).trans hz1_347
  have hz2_348 := (hs2 348 (by decide)).trans hz1_348
  refine xp_e rfl rfl rfl ⟨_, _, rfl, ?_⟩
  refine xp_s rfl rfl rfl rfl rfl ?_
  refine xp_s rfl rfl rfl rfl rfl ?_
  refine xp_put rfl rfl hq2 (by first | decide | exact Nat.le_of_ble_eq_true rfl) (by first | rfl | decide) (by first | rfl | decide) (fun B3 hq3 hs3 hL3 hN3 => ?_)
  have hz3_347 := (hs3 347 (by decide)).trans hz2_347
  have hz3_348 := (hs3 348 (by decide)).trans hz2_348
  refine xp_s rfl rfl rfl rfl rfl ?_
  refine xp_s rfl rfl rfl rfl rfl ?_
  refine xp_put rfl rfl hq3 (by first | decide | exact Nat.le_of_ble_eq_true rfl) (by first | rfl | decide) (by first | rfl | decide) (fun B4 hq4 hs4 hL4 hN4 => ?_)
  have hz4_347 := (hs4 347 (by decide)).trans hz3_347
  have hz4_348 := (hs4 348 (by decide)).trans hz3_348
  refine xp_s rfl rfl rfl rfl rfl ?_
  refine xp_s rfl rfl rfl rfl rfl ?_
  refine xp_put rfl rfl hq4 (by first | decide | exact Nat.le_of_ble_eq_true rfl) (by first | rfl | decide) (by first | rfl | decide) (fun B5 hq5 hs5 hL5 hN5 => ?_)
  have hz5_347 := (hs5 347 (by decide)).trans hz4_347
  have hz5_348 := (hs5 348 (by decide)).trans hz4_348
  refine xp_s rfl rfl rfl rfl rfl ?_
  refine xp_s rfl rfl rfl rfl rfl ?_
  refine xp_put rfl rfl hq5 (by first | decide | exact Nat.le_of_ble_eq_true rfl) (by first | rfl | decide) (by first | rfl | decide) (fun B6 hq6 hs6 hL6 hN6 => ?_)
  have hz6_347 := (hs6 347 (by decide)).trans hz5_347
  have hz6_348 := (hs6 348 (by decide)).trans hz5_348
  refine xp_s rfl rfl rfl rfl rfl ?_
  refine xp_s rfl rfl rfl rfl rfl ?_
  refine xp_put rfl rfl hq6 (by first | decide | exact Nat.le_of_ble_eq_true rfl) (by first | rfl | decide) (by first | rfl | decide) (fun B7 hq7 hs7 hL7 hN7 => ?_)
  have hz7_347 := (hs7 347 (by decide)).trans hz6_347
  have hz7_348 := (hs7 348 (by decide)).trans hz6_348
  refine xp_s rfl rfl rfl rfl rfl ?_
  refine xp_V (As := []) (rest := []) rfl rfl rfl rfl rfl hq7 ⟨⟨by decide, Nat.le_of_ble_eq_true rfl, by decide⟩, by decide, Nat.le_of_ble_eq_true rfl, rfl⟩ ?_
  refine xp_s rfl rfl rfl rfl rfl ?_
  refine xp_s rfl rfl rfl rfl rfl ?_
  refine xp_put rfl rfl hq7 (by first | decide | exact Nat.le_of_ble_eq_true rfl) (by first | rfl | decide) (by first | rfl | decide) (fun B8 hq8 hs8 hL8 hN8 => ?_)
  have hz8_347 := (hs8 347 (by decide)).trans hz7_347
  have hz8_348 := (hs8 348 (by decide)).trans hz7_348
  refine xp_s rfl rfl rfl rfl rfl ?_
  refine xp_s rfl rfl rfl rfl rfl ?_
  refine xp_put rfl rfl hq8 (by first | decide | exact Nat.le_of_ble_eq_true rfl) (by first | rfl | decide) (by first | rfl | decide) (fun B9 hq9 hs9 hL9 hN9 => ?_)
  have hz9_347 := (hs9 347 (by decide)).trans hz8_347
  have hz9_348 := (hs9 348 (by decide)).trans hz8_348
  refine xp_s rfl rfl rfl rfl rfl ?_
  refine xp_s rfl rfl rfl rfl rfl ?_
  refine xp_s rfl rfl rfl rfl rfl ?_
  refine xp_s rfl rfl rfl rfl rfl ?_
  refine xp_get rfl rfl hq9 rfl ?_
  refine xp_s (pc2 := 152) rfl rfl rfl rfl (if_pos (by decide)) ?_
  refine xp_s rfl rfl rfl rfl rfl ?_
  refine xp_get rfl rfl hq9 rfl ?_
  refine xp_s rfl rfl rfl rfl rfl ?_
  refine xp_get rfl rfl hq9 rfl ?_
  refine xp_s rfl rfl rfl rfl rfl ?_
  refine xp_get rfl rfl hq9 rfl ?_
  refine xp_iast rfl rfl hz9_347 (by decide) (fun B10 hq10 hs10 hL10 hN10 => ?_)
  have hz10_344 := (hs10 344 (by decide)).trans hq9
  have hz10_348 := (hs10 348 (by decide)).trans hz9_348
  refine xp_s rfl rfl rfl rfl rfl ?_
  refine xp_get rfl rfl hz10_344 rfl ?_
  refine xp_s rfl rfl rfl rfl rfl ?_
  refine xp_get rfl rfl hz10_344 rfl ?_
  refine xp_s rfl rfl rfl rfl rfl ?_
  refine xp_get rfl rfl hz10_344 rfl ?_
  refine xp_iast rfl rfl hz10_348 (by decide) (fun B11 hq11 hs11 hL11 hN11 => ?_)
  have hz11_344 := (hs11 344 (by decide)).trans hz10_344
  have hz11_347 := (hs11 347 (by decide)).trans hq10
  refine xp_e rfl rfl rfl ⟨_, _, rfl, ?_⟩
  refine xp_s rfl rfl rfl rfl rfl ?_
  refine xp_V (As := []) (rest := []) rfl rfl rfl rfl rfl hz11_344 ⟨⟨by decide, Nat.le_of_ble_eq_true rfl, by decide⟩, by decide, Nat.le_of_ble_eq_true rfl, rfl⟩ ?_
  refine xp_s rfl rfl rfl rfl rfl ?_
  refine xp_s rfl rfl rfl rfl rfl ?_
  refine xp_V (As := [_]) (rest := []) rfl rfl rfl rfl rfl hz11_344 ⟨⟨by decide, Nat.le_of_ble_eq_true rfl, by decide⟩, by decide, Nat.le_of_ble_eq_true rfl, rfl⟩ ?_
  refine xp_s rfl rfl rfl rfl rfl ?_
  refine xp_s rfl rfl rfl rfl rfl ?_
  refine xp_V (As := [_]) (rest := []) rfl rfl rfl rfl rfl hz11_344 ⟨⟨by decide, Nat.le_of_ble_eq_true rfl, by decide⟩, by decide, Nat.le_of_ble_eq_true rfl, rfl⟩ ?_
  refine xp_s rfl rfl rfl rfl rfl ?_
  refine xp_get rfl rfl hz11_344 rfl ?_
  refine xp_s (pc2 := 7) rfl rfl rfl rfl (if_neg (by decide)) ?_
  refine xp_s rfl rfl rfl rfl rfl ?_
  refine xp_V (As := []) (rest := []) rfl rfl rfl rfl rfl hz11_344 ⟨⟨by decide, Nat.le_of_ble_eq_true rfl, by decide⟩, by decide, Nat.le_of_ble_eq_true rfl, rfl⟩ ?_
  refine xp_s rfl rfl rfl rfl rfl ?_
  refine xp_get rfl rfl hz11_344 rfl ?_
  refine xp_s rfl rfl rfl rfl rfl ?_
  refine xp_get rfl rfl hz11_344 rfl ?_
  refine xp_iald (v := 0) rfl rfl hq11 (by decide) rfl ?_
  refine xp_s rfl rfl rfl rfl rfl ?_
  refine xp_get rfl rfl hz11_344 rfl ?_
  refine xp_s rfl rfl rfl rfl rfl ?_
  refine xp_get rfl rfl hz11_344 rfl ?_
  refine xp_iald (v := 0) rfl rfl hz11_347 (by decide) rfl ?_
  refine xp_s rfl rfl rfl rfl rfl ?_
  refine xp_e rfl rfl rfl ⟨_, _, rfl, ?_⟩
  refine xp_s rfl rfl rfl rfl rfl ?_
  refine xp_s (pc2 := 37) rfl rfl rfl rfl (if_pos (by decide)) ?_
  refine xp_s rfl rfl rfl rfl rfl ?_
  refine xp_e rfl rfl rfl ⟨_, _, rfl, ?_⟩
  refine xp_s (pc2 := 21) rfl rfl rfl rfl (if_pos (by decide)) ?_
  refine xp_s rfl rfl rfl rfl rfl ?_
  refine xp_s rfl rfl rfl rfl rfl ?_
  refine xp_V (As := [_]) (rest := []) rfl rfl rfl rfl rfl hz11_344 ⟨⟨by decide, Nat.le_of_ble_eq_true rfl, by decide⟩, by decide, Nat.le_of_ble_eq_true rfl, rfl⟩ ?_
  refine xp_s rfl rfl rfl rfl rfl ?_
  refine xp_get rfl rfl hz11_344 rfl ?_
  refine xp_s (pc2 := 8) rfl rfl rfl rfl (if_pos (by decide)) ?_
  refine xp_s rfl rfl rfl rfl rfl ?_
  refine xp_s rfl rfl rfl rfl rfl ?_
  refine xp_put rfl rfl hz11_344 (by first | decide | exact Nat.le_of_ble_eq_true rfl) (by first | rfl | decide) (by first | rfl | decide) (fun B12 hq12 hs12 hL12 hN12 => ?_)
  have hz12_347 := (hs12 347 (by decide)).trans hz11_347
  have hz12_348 := (hs12 348 (by decide)).trans hq11
  refine xp_s rfl rfl rfl rfl rfl ?_
  refine xp_s rfl rfl rfl rfl rfl ?_
  refine xp_get rfl rfl hq12 rfl ?_
  refine xp_s rfl rfl rfl rfl rfl ?_
  refine xp_get rfl rfl hq12 rfl ?_
  refine xp_iald (v := 0) rfl rfl hz12_347 (by decide) rfl ?_
  refine xp_put rfl rfl hq12 (by first | decide | exact Nat.le_of_ble_eq_true rfl) (by first | rfl | decide) (by first | rfl | decide) (fun B13 hq13 hs13 hL13 hN13 => ?_)
  have hz13_347 := (hs13 347 (by decide)).trans hz12_347
  have hz13_348 := (hs13 348 (by decide)).trans hz12_348
  refine xp_e rfl rfl rfl ⟨_, _, rfl, ?_⟩
  refine xp_e rfl rfl rfl ⟨_, _, rfl, ?_⟩
  refine xp_s rfl rfl rfl rfl rfl ?_
  refine xp_s rfl rfl rfl rfl rfl ?_
  refine xp_V (As := [_]) (rest := []) rfl rfl rfl rfl rfl hq13 ⟨⟨by decide, Nat.le_of_ble_eq_true rfl, by decide⟩, by decide, Nat.le_of_ble_eq_true rfl, rfl⟩ ?_
  refine xp_s rfl rfl rfl rfl rfl ?_
  refine xp_s rfl rfl rfl rfl rfl ?_
  refine xp_V (As := [_]) (rest := []) rfl rfl rfl rfl rfl hq13 ⟨⟨by decide, Nat.le_of_ble_eq_true rfl, by decide⟩, by decide, Nat.le_of_ble_eq_true rfl, rfl⟩ ?_
  refine xp_s rfl rfl rfl rfl rfl ?_
  refine xp_get rfl rfl hq13 rfl ?_
  refine xp_s (pc2 := 27) rfl rfl rfl rfl (if_pos (by decide)) ?_
  refine xp_s rfl rfl rfl rfl rfl ?_
  refine xp_s rfl rfl rfl rfl rfl ?_
  refine xp_s rfl rfl rfl rfl rfl ?_
  refine xp_s rfl rfl rfl rfl rfl ?_
  refine xp_s rfl rfl rfl rfl rfl ?_
  refine xp_s rfl rfl rfl rfl rfl ?_
  refine xp_s (pc2 := 37) rfl rfl rfl rfl (if_neg (by decide)) ?_
  refine xp_s rfl rfl rfl rfl rfl ?_
  refine xp_s (pc2 := 97) rfl rfl rfl rfl (if_pos (by decide)) ?_
  refine xp_s rfl rfl rfl rfl rfl ?_
  refine xp_e rfl rfl rfl ⟨_, _, rfl, ?_⟩
  refine xp_s (pc2 := 21) rfl rfl rfl rfl (if_pos (by decide)) ?_
  refine xp_s rfl rfl rfl rfl rfl ?_
  refine xp_s rfl rfl rfl rfl rfl ?_
  refine xp_V (As := [_]) (rest := []) rfl rfl rfl rfl rfl hq13 ⟨⟨by decide, Nat.le_of_ble_eq_true rfl, by decide⟩, by decide, Nat.le_of_ble_eq_true rfl, rfl⟩ ?_
  refine xp_s rfl rfl rfl rfl rfl ?_
  refine xp_get rfl rfl hq13 rfl ?_
  refine xp_s (pc2 := 7) rfl rfl rfl rfl (if_neg (by decide)) ?_
  refine xp_e rfl rfl rfl ⟨_, _, rfl, ?_⟩
  refine xp_e rfl rfl rfl ⟨_, _, rfl, ?_⟩
  refine xp_s rfl rfl rfl rfl rfl ?_
  refine xp_s rfl rfl rfl rfl rfl ?_
  refine xp_V (As := [_]) (rest := []) rfl rfl rfl rfl rfl hq13 ⟨⟨by decide, Nat.le_of_ble_eq_true rfl, by decide⟩, by decide, Nat.le_of_ble_eq_true rfl, rfl⟩ ?_
  refine xp_s rfl rfl rfl rfl rfl ?_
  refine xp_s rfl rfl rfl rfl rfl ?_
  refine xp_V (As := [_]) (rest := []) rfl rfl rfl rfl rfl hq13 ⟨⟨by decide, Nat.le_of_ble_eq_true rfl, by decide⟩, by decide, Nat.le_of_ble_eq_true rfl, rfl⟩ ?_
  refine xp_s rfl rfl rfl rfl rfl ?_
  refine xp_get rfl rfl hq13 rfl ?_
  refine xp_s (pc2 := 37) rfl rfl rfl rfl (if_pos (by decide)) ?_
  refine xp_s rfl rfl rfl rfl rfl ?_
  refine xp_e rfl rfl rfl ⟨_, _, rfl, ?_⟩
  refine xp_s (pc2 := 21) rfl rfl rfl rfl (if_pos (by decide)) ?_
  refine xp_s rfl rfl rfl rfl rfl ?_
  refine xp_s rfl rfl rfl rfl rfl ?_
  refine xp_V (As := [_]) (rest := []) rfl rfl rfl rfl rfl hq13 ⟨⟨by decide, Nat.le_of_ble_eq_true rfl, by decide⟩, by decide, Nat.le_of_ble_eq_true rfl, rfl⟩ ?_
  refine xp_s rfl rfl rfl rfl rfl ?_
  refine xp_get rfl rfl hq13 rfl ?_
  refine xp_s (pc2 := 7) rfl rfl rfl rfl (if_neg (by decide)) ?_
  refine xp_e rfl rfl rfl ⟨_, _, rfl, ?_⟩
  refine xp_e rfl rfl rfl ⟨_, _, rfl, ?_⟩
  refine xp_s rfl rfl rfl rfl rfl ?_
  refine xp_s rfl rfl rfl rfl rfl ?_
  refine xp_V (As := [_]) (rest := []) rfl rfl rfl rfl rfl hq13 ⟨⟨by decide, Nat.le_of_ble_eq_true rfl, by decide⟩, by decide, Nat.le_of_ble_eq_true rfl, rfl⟩ ?_
  refine xp_s rfl rfl rfl rfl rfl ?_
  refine xp_s rfl rfl rfl rfl rfl ?_
  refine xp_V (As := [_]) (rest := []) rfl rfl rfl rfl rfl hq13 ⟨⟨by decide, Nat.le_of_ble_eq_true rfl, by decide⟩, by decide, Nat.le_of_ble_eq_true rfl, rfl⟩ ?_
  refine xp_s rfl rfl rfl rfl rfl ?_
  refine xp_get rfl rfl hq13 rfl ?_
  refine xp_s (pc2 := 27) rfl rfl rfl rfl (if_pos (by decide)) ?_
  refine xp_s rfl rfl rfl rfl rfl ?_
  refine xp_s rfl rfl rfl rfl rfl ?_
  refine xp_s rfl rfl rfl rfl rfl ?_
  refine xp_s rfl rfl rfl rfl rfl ?_
  refine xp_s rfl rfl rfl rfl rfl ?_
  refine xp_s rfl rfl rfl rfl rfl ?_
  refine xp_s (pc2 := 37) rfl rfl rfl rfl (if_neg (by decide)) ?_
  refine xp_s rfl rfl rfl rfl rfl ?_
  refine xp_s (pc2 := 97) rfl rfl rfl rfl (if_pos (by decide)) ?_
  refine xp_s rfl rfl rfl rfl rfl ?_
  refine xp_e rfl rfl rfl ⟨_, _, rfl, ?_⟩
  refine xp_s (pc2 := 21) rfl rfl rfl rfl (if_pos (by decide)) ?_
  refine xp_s rfl rfl rfl rfl rfl ?_
  refine xp_s rfl rfl rfl rfl rfl ?_
  refine xp_V (As := [_]) (rest := []) rfl rfl rfl rfl rfl hq13 ⟨⟨by decide, Nat.le_of_ble_eq_true rfl, by decide⟩, by decide, Nat.le_of_ble_eq_true rfl, rfl⟩ ?_
  refine xp_s rfl rfl rfl rfl rfl ?_
  refine xp_get rfl rfl hq13 rfl ?_
  refine xp_s (pc2 := 7) rfl rfl rfl rfl (if_neg (by decide)) ?_
  refine xp_e rfl rfl rfl ⟨_, _, rfl, ?_⟩
  refine xp_e rfl rfl rfl ⟨_, _, rfl, ?_⟩
  refine xp_s rfl rfl rfl rfl rfl ?_
  refine xp_s rfl rfl rfl rfl rfl ?_
  refine xp_V (As := []) (rest := [_]) rfl rfl rfl rfl rfl hq13 ⟨⟨by decide, Nat.le_of_ble_eq_true rfl, by decide⟩, by decide, Nat.le_of_ble_eq_true rfl, rfl⟩ ?_
  refine xp_s rfl rfl rfl rfl rfl ?_
  refine xp_V (As := []) (rest := []) rfl rfl rfl rfl rfl hq13 ⟨⟨by decide, Nat.le_of_ble_eq_true rfl, by decide⟩, by decide, Nat.le_of_ble_eq_true rfl, rfl⟩ ?_
  refine xp_s rfl rfl rfl rfl rfl ?_
  refine xp_get rfl rfl hq13 rfl ?_
  refine xp_s (pc2 := 7) rfl rfl rfl rfl (if_neg (by decide)) ?_
  refine xp_s rfl rfl rfl rfl rfl ?_
  refine xp_s rfl rfl rfl rfl rfl ?_
  refine xp_e rfl rfl rfl ⟨_, _, rfl, ?_⟩
  refine xp_s (pc2 := 7) rfl rfl rfl rfl (if_neg (by decide)) ?_
  refine xp_s rfl rfl rfl rfl rfl ?_
  refine xp_s rfl rfl rfl rfl rfl ?_
  refine xp_s rfl rfl rfl rfl rfl ?_
  refine xp_s rfl rfl rfl rfl rfl ?_
  refine xp_s rfl rfl rfl rfl rfl ?_
  refine xp_s rfl rfl rfl rfl rfl ?_
  refine xp_s (pc2 := 23) rfl rfl rfl rfl (if_neg (by decide)) ?_
  refine xp_s rfl rfl rfl rfl rfl ?_
  refine xp_s rfl rfl rfl rfl rfl ?_
  refine xp_V (As := [_]) (rest := []) rfl rfl rfl rfl rfl hq13 ⟨⟨by decide, Nat.le_of_ble_eq_true rfl, by decide⟩, by decide, Nat.le_of_ble_eq_true rfl, rfl⟩ ?_
  refine xp_s rfl rfl rfl rfl rfl ?_
  refine xp_get rfl rfl hq13 rfl ?_
  refine xp_s (pc2 := 7) rfl rfl rfl rfl (if_neg (by decide)) ?_
  refine xp_e rfl rfl rfl ⟨_, _, rfl, ?_⟩
  refine xp_s rfl rfl rfl rfl rfl ?_
  refine xp_e rfl rfl rfl ⟨_, _, rfl, ?_⟩
  refine xp_put rfl rfl hq13 (by first | decide | exact Nat.le_of_ble_eq_true rfl) (by first | rfl | decide) (by first | rfl | decide) (fun B14 hq14 hs14 hL14 hN14 => ?_)
  have hz14_347 := (hs14 347 (by decide)).trans hz13_347
  have hz14_348 := (hs14 348 (by decide)).trans hz13_348
  refine xp_s rfl rfl rfl rfl rfl ?_
  refine xp_V (As := []) (rest := []) rfl rfl rfl rfl rfl hq14 ⟨⟨by decide, Nat.le_of_ble_eq_true rfl, by decide⟩, by decide, Nat.le_of_ble_eq_true rfl, rfl⟩ ?_
  refine xp_s rfl rfl rfl rfl rfl ?_
  refine xp_s rfl rfl rfl rfl rfl ?_
  refine xp_get rfl rfl hq14 rfl ?_
  refine xp_s rfl rfl rfl rfl rfl ?_
  refine xp_V (As := []) (rest := [_, _]) rfl rfl rfl rfl rfl hq14 ⟨⟨by decide, Nat.le_of_ble_eq_true rfl, by decide⟩, by decide, Nat.le_of_ble_eq_true rfl, rfl⟩ ?_
  refine xp_s rfl rfl rfl rfl rfl ?_
  refine xp_get rfl rfl hq14 rfl ?_
  refine xp_s (pc2 := 7) rfl rfl rfl rfl (if_neg (by decide)) ?_
  refine xp_s rfl rfl rfl rfl rfl ?_
  refine xp_s rfl rfl rfl rfl rfl ?_
  refine xp_e rfl rfl rfl ⟨_, _, rfl, ?_⟩
  refine xp_s (pc2 := 12) rfl rfl rfl rfl (if_neg (by decide)) ?_
  refine xp_s rfl rfl rfl rfl rfl ?_
  refine xp_s rfl rfl rfl rfl rfl ?_
  refine xp_s rfl rfl rfl rfl rfl ?_
  refine xp_put rfl rfl hq14 (by first | decide | exact Nat.le_of_ble_eq_true rfl) (by first | rfl | decide) (by first | rfl | decide) (fun B15 hq15 hs15 hL15 hN15 => ?_)
  have hz15_347 := (hs15 347 (by decide)).trans hz14_347
  have hz15_348 := (hs15 348 (by decide)).trans hz14_348
  refine xp_e rfl rfl rfl ⟨_, _, rfl, ?_⟩
  refine xp_s rfl rfl rfl rfl rfl ?_
  refine xp_s rfl rfl rfl rfl rfl ?_
  refine xp_V (As := [_]) (rest := []) rfl rfl rfl rfl rfl hq15 ⟨⟨by decide, Nat.le_of_ble_eq_true rfl, by decide⟩, by decide, Nat.le_of_ble_eq_true rfl, rfl⟩ ?_
  refine xp_s rfl rfl rfl rfl rfl ?_
  refine xp_s rfl rfl rfl rfl rfl ?_
  refine xp_V (As := [_]) (rest := []) rfl rfl rfl rfl rfl hq15 ⟨⟨by decide, Nat.le_of_ble_eq_true rfl, by decide⟩, by decide, Nat.le_of_ble_eq_true rfl, rfl⟩ ?_
  refine xp_s rfl rfl rfl rfl rfl ?_
  refine xp_get rfl rfl hq15 rfl ?_
  refine xp_s (pc2 := 37) rfl rfl rfl rfl (if_pos (by decide)) ?_
  refine xp_s rfl rfl rfl rfl rfl ?_
  refine xp_e rfl rfl rfl ⟨_, _, rfl, ?_⟩
  refine xp_s (pc2 := 21) rfl rfl rfl rfl (if_pos (by decide)) ?_
  refine xp_s rfl rfl rfl rfl rfl ?_
  refine xp_s rfl rfl rfl rfl rfl ?_
  refine xp_V (As := [_]) (rest := []) rfl rfl rfl rfl rfl hq15 ⟨⟨by decide, Nat.le_of_ble_eq_true rfl, by decide⟩, by decide, Nat.le_of_ble_eq_true rfl, rfl⟩ ?_
  refine xp_s rfl rfl rfl rfl rfl ?_
  refine xp_get rfl rfl hq15 rfl ?_
  refine xp_s (pc2 := 7) rfl rfl rfl rfl (if_neg (by decide)) ?_
  refine xp_e rfl rfl rfl ⟨_, _, rfl, ?_⟩
  refine xp_e rfl rfl rfl ⟨_, _, rfl, ?_⟩
  refine xp_s rfl rfl rfl rfl rfl ?_
  refine xp_s rfl rfl rfl rfl rfl ?_
  refine xp_V (As := [_]) (rest := []) rfl rfl rfl rfl rfl hq15 ⟨⟨by decide, Nat.le_of_ble_eq_true rfl, by decide⟩, by decide, Nat.le_of_ble_eq_true rfl, rfl⟩ ?_
  refine xp_s rfl rfl rfl rfl rfl ?_
  refine xp_s rfl rfl rfl rfl rfl ?_
  refine xp_V (As := [_]) (rest := []) rfl rfl rfl rfl rfl hq15 ⟨⟨by decide, Nat.le_of_ble_eq_true rfl, by decide⟩, by decide, Nat.le_of_ble_eq_true rfl, rfl⟩ ?_
  refine xp_s rfl rfl rfl rfl rfl ?_
  refine xp_get rfl rfl hq15 rfl ?_
  refine xp_s (pc2 := 37) rfl rfl rfl rfl (if_pos (by decide)) ?_
  refine xp_s rfl rfl rfl rfl rfl ?_
  refine xp_e rfl rfl rfl ⟨_, _, rfl, ?_⟩
  refine xp_s (pc2 := 21) rfl rfl rfl rfl (if_pos (by decide)) ?_
  refine xp_s rfl rfl rfl rfl rfl ?_
  refine xp_s rfl rfl rfl rfl rfl ?_
  refine xp_V (As := [_]) (rest := []) rfl rfl rfl rfl rfl hq15 ⟨⟨by decide, Nat.le_of_ble_eq_true rfl, by decide⟩, by decide, Nat.le_of_ble_eq_true rfl, rfl⟩ ?_
  refine xp_s rfl rfl rfl rfl rfl ?_
  refine xp_get rfl rfl hq15 rfl ?_
  refine xp_s (pc2 := 7) rfl rfl rfl rfl (if_neg (by decide)) ?_
  refine xp_e rfl rfl rfl ⟨_, _, rfl, ?_⟩
  refine xp_e rfl rfl rfl ⟨_, _, rfl, ?_⟩
  refine xp_s rfl rfl rfl rfl rfl ?_
  refine xp_s rfl rfl rfl rfl rfl ?_
  refine xp_V (As := [_]) (rest := []) rfl rfl rfl rfl rfl hq15 ⟨⟨by decide, Nat.le_of_ble_eq_true rfl, by decide⟩, by decide, Nat.le_of_ble_eq_true rfl, rfl⟩ ?_
  refine xp_s rfl rfl rfl rfl rfl ?_
  refine xp_get rfl rfl hq15 rfl ?_
  refine xp_s (pc2 := 27) rfl rfl rfl rfl (if_pos (by decide)) ?_
  refine xp_s rfl rfl rfl rfl rfl ?_
  refine xp_s rfl rfl rfl rfl rfl ?_
  refine xp_s rfl rfl rfl rfl rfl ?_
  refine xp_s rfl rfl rfl rfl rfl ?_
  refine xp_s rfl rfl rfl rfl rfl ?_
  refine xp_s rfl rfl rfl rfl rfl ?_
  refine xp_s (pc2 := 37) rfl rfl rfl rfl (if_neg (by decide)) ?_
  refine xp_s rfl rfl rfl rfl rfl ?_
  refine xp_s (pc2 := 97) rfl rfl rfl rfl (if_pos (by decide)) ?_
  refine xp_s rfl rfl rfl rfl rfl ?_
  refine xp_e rfl rfl rfl ⟨_, _, rfl, ?_⟩
  refine xp_s (pc2 := 80) rfl rfl rfl rfl (if_pos (by decide)) ?_
  refine xp_s rfl rfl rfl rfl rfl ?_
  refine xp_s rfl rfl rfl rfl rfl ?_
  refine xp_V (As := [_]) (rest := []) rfl rfl rfl rfl rfl hq15 ⟨⟨by decide, Nat.le_of_ble_eq_true rfl, by decide⟩, by decide, Nat.le_of_ble_eq_true rfl, rfl⟩ ?_
  refine xp_s rfl rfl rfl rfl rfl ?_
  refine xp_s rfl rfl rfl rfl rfl ?_
  refine xp_V (As := [_]) (rest := []) rfl rfl rfl rfl rfl hq15 ⟨⟨by decide, Nat.le_of_ble_eq_true rfl, by decide⟩, by decide, Nat.le_of_ble_eq_true rfl, rfl⟩ ?_
  refine xp_s rfl rfl rfl rfl rfl ?_
  refine xp_get rfl rfl hq15 rfl ?_
  refine xp_s (pc2 := 27) rfl rfl rfl rfl (if_pos (by decide)) ?_
  refine xp_s rfl rfl rfl rfl rfl ?_
  refine xp_s rfl rfl rfl rfl rfl ?_
  refine xp_s rfl rfl rfl rfl rfl ?_
  refine xp_s rfl rfl rfl rfl rfl ?_
  refine xp_s rfl rfl rfl rfl rfl ?_
  refine xp_s rfl rfl rfl rfl rfl ?_
  refine xp_s (pc2 := 37) rfl rfl rfl rfl (if_neg (by decide)) ?_
  refine xp_s rfl rfl rfl rfl rfl ?_
  refine xp_s (pc2 := 97) rfl rfl rfl rfl (if_pos (by decide)) ?_
  refine xp_s rfl rfl rfl rfl rfl ?_
  refine xp_e rfl rfl rfl ⟨_, _, rfl, ?_⟩
  refine xp_s (pc2 := 21) rfl rfl rfl rfl (if_pos (by decide)) ?_
  refine xp_s rfl rfl rfl rfl rfl ?_
  refine xp_s rfl rfl rfl rfl rfl ?_
  refine xp_V (As := [_]) (rest := []) rfl rfl rfl rfl rfl hq15 ⟨⟨by decide, Nat.le_of_ble_eq_true rfl, by decide⟩, by decide, Nat.le_of_ble_eq_true rfl, rfl⟩ ?_
  refine xp_s rfl rfl rfl rfl rfl ?_
  refine xp_get rfl rfl hq15 rfl ?_
  refine xp_s (pc2 := 7) rfl rfl rfl rfl (if_neg (by decide)) ?_
  refine xp_e rfl rfl rfl ⟨_, _, rfl, ?_⟩
  refine xp_e rfl rfl rfl ⟨_, _, rfl, ?_⟩
  refine xp_s rfl rfl rfl rfl rfl ?_
  refine xp_s rfl rfl rfl rfl rfl ?_
  refine xp_s rfl rfl rfl rfl rfl ?_
  refine xp_s (pc2 := 91) rfl rfl rfl rfl (if_neg (by decide)) ?_
  refine xp_s rfl rfl rfl rfl rfl ?_
  refine xp_V (As := []) (rest := []) rfl rfl rfl rfl rfl hq15 ⟨⟨by decide, Nat.le_of_ble_eq_true rfl, by decide⟩, by decide, Nat.le_of_ble_eq_true rfl, rfl⟩ ?_
  refine xp_s rfl rfl rfl rfl rfl ?_
  refine xp_get rfl rfl hq15 rfl ?_
  refine xp_s (pc2 := 7) rfl rfl rfl rfl (if_neg (by decide)) ?_
  refine xp_s rfl rfl rfl rfl rfl ?_
  refine xp_s rfl rfl rfl rfl rfl ?_
  refine xp_e rfl rfl rfl ⟨_, _, rfl, ?_⟩
  refine xp_s (pc2 := 112) rfl rfl rfl rfl (if_pos (by decide)) ?_
  refine xp_s rfl rfl rfl rfl rfl ?_
  refine xp_s rfl rfl rfl rfl rfl ?_
  refine xp_V (As := [_]) (rest := []) rfl rfl rfl rfl rfl hq15 ⟨⟨by decide, Nat.le_of_ble_eq_true rfl, by decide⟩, by decide, Nat.le_of_ble_eq_true rfl, rfl⟩ ?_
  refine xp_s rfl rfl rfl rfl rfl ?_
  refine xp_s rfl rfl rfl rfl rfl ?_
  refine xp_V (As := [_]) (rest := []) rfl rfl rfl rfl rfl hq15 ⟨⟨by decide, Nat.le_of_ble_eq_true rfl, by decide⟩, by decide, Nat.le_of_ble_eq_true rfl, rfl⟩ ?_
  refine xp_s rfl rfl rfl rfl rfl ?_
  refine xp_get rfl rfl hq15 rfl ?_
  refine xp_s (pc2 := 37) rfl rfl rfl rfl (if_pos (by decide)) ?_
  refine xp_s rfl rfl rfl rfl rfl ?_
  refine xp_e rfl rfl rfl ⟨_, _, rfl, ?_⟩
  refine xp_s (pc2 := 21) rfl rfl rfl rfl (if_pos (by decide)) ?_
  refine xp_s rfl rfl rfl rfl rfl ?_
  refine xp_s rfl rfl rfl rfl rfl ?_
  refine xp_V (As := [_]) (rest := []) rfl rfl rfl rfl rfl hq15 ⟨⟨by decide, Nat.le_of_ble_eq_true rfl, by decide⟩, by decide, Nat.le_of_ble_eq_true rfl, rfl⟩ ?_
  refine xp_s rfl rfl rfl rfl rfl ?_
  refine xp_get rfl rfl hq15 rfl ?_
  refine xp_s (pc2 := 7) rfl rfl rfl rfl (if_neg (by decide)) ?_
  refine xp_e rfl rfl rfl ⟨_, _, rfl, ?_⟩
  refine xp_e rfl rfl rfl ⟨_, _, rfl, ?_⟩
  refine xp_s rfl rfl rfl rfl rfl ?_
  refine xp_s rfl rfl rfl rfl rfl ?_
  refine xp_s rfl rfl rfl rfl rfl ?_
  refine xp_s (pc2 := 124) rfl rfl rfl rfl (if_neg (by decide)) ?_
  refine xp_s rfl rfl rfl rfl rfl ?_
  refine xp_V (As := []) (rest := []) rfl rfl rfl rfl rfl hq15 ⟨⟨by decide, Nat.le_of_ble_eq_true rfl, by decide⟩, by decide, Nat.le_of_ble_eq_true rfl, rfl⟩ ?_
  refine xp_s rfl rfl rfl rfl rfl ?_
  refine xp_get rfl rfl hq15 rfl ?_
  refine xp_s (pc2 := 7) rfl rfl rfl rfl (if_neg (by decide)) ?_
  refine xp_s rfl rfl rfl rfl rfl ?_
  refine xp_s rfl rfl rfl rfl rfl ?_
  refine xp_e rfl rfl rfl ⟨_, _, rfl, ?_⟩
  refine xp_s (pc2 := 145) rfl rfl rfl rfl (if_pos (by decide)) ?_
  refine xp_s rfl rfl rfl rfl rfl ?_
  refine xp_s rfl rfl rfl rfl rfl ?_
  refine xp_V (As := [_]) (rest := []) rfl rfl rfl rfl rfl hq15 ⟨⟨by decide, Nat.le_of_ble_eq_true rfl, by decide⟩, by decide, Nat.le_of_ble_eq_true rfl, rfl⟩ ?_
  refine xp_s rfl rfl rfl rfl rfl ?_
  refine xp_s rfl rfl rfl rfl rfl ?_
  refine xp_V (As := [_]) (rest := []) rfl rfl rfl rfl rfl hq15 ⟨⟨by decide, Nat.le_of_ble_eq_true rfl, by decide⟩, by decide, Nat.le_of_ble_eq_true rfl, rfl⟩ ?_
  refine xp_s rfl rfl rfl rfl rfl ?_
  refine xp_get rfl rfl hq15 rfl ?_
  refine xp_s (pc2 := 37) rfl rfl rfl rfl (if_pos (by decide)) ?_
  refine xp_s rfl rfl rfl rfl rfl ?_
  refine xp_e rfl rfl rfl ⟨_, _, rfl, ?_⟩
  refine xp_s (pc2 := 21) rfl rfl rfl rfl (if_pos (by decide)) ?_
  refine xp_s rfl rfl rfl rfl rfl ?_
  refine xp_s rfl rfl rfl rfl rfl ?_
  refine xp_V (As := [_]) (rest := []) rfl rfl rfl rfl rfl hq15 ⟨⟨by decide, Nat.le_of_ble_eq_true rfl, by decide⟩, by decide, Nat.le_of_ble_eq_true rfl, rfl⟩ ?_
  refine xp_s rfl rfl rfl rfl rfl ?_
  refine xp_get rfl rfl hq15 rfl ?_
  refine xp_s (pc2 := 7) rfl rfl rfl rfl (if_neg (by decide)) ?_
  refine xp_e rfl rfl rfl ⟨_, _, rfl, ?_⟩
  refine xp_e rfl rfl rfl ⟨_, _, rfl, ?_⟩
  refine xp_s rfl rfl rfl rfl rfl ?_
  refine xp_V (As := []) (rest := []) rfl rfl rfl rfl rfl hq15 ⟨⟨by decide, Nat.le_of_ble_eq_true rfl, by decide⟩, by decide, Nat.le_of_ble_eq_true rfl, rfl⟩ ?_
  refine xp_s rfl rfl rfl rfl rfl ?_
  refine xp_get rfl rfl hq15 rfl ?_
  refine xp_s (pc2 := 7) rfl rfl rfl rfl (if_neg (by decide)) ?_
  refine xp_s rfl rfl rfl rfl rfl ?_
  refine xp_s rfl rfl rfl rfl rfl ?_
  refine xp_e rfl rfl rfl ⟨_, _, rfl, ?_⟩
  refine xp_s (pc2 := 174) rfl rfl rfl rfl (if_pos (by decide)) ?_
  refine xp_e rfl rfl rfl ⟨_, _, rfl, ?_⟩
  refine xp_s rfl rfl rfl rfl rfl ?_
  refine xp_s rfl rfl rfl rfl rfl ?_
  refine xp_V (As := []) (rest := [_]) rfl rfl rfl rfl rfl hq15 ⟨⟨by decide, Nat.le_of_ble_eq_true rfl, by decide⟩, by decide, Nat.le_of_ble_eq_true rfl, rfl⟩ ?_
  refine xp_s rfl rfl rfl rfl rfl ?_
  refine xp_s rfl rfl rfl rfl rfl ?_
  refine xp_get rfl rfl hq15 rfl ?_
  refine xp_s (pc2 := 12) rfl rfl rfl rfl (if_pos (by decide)) ?_
  refine xp_s rfl rfl rfl rfl rfl ?_
  refine xp_get rfl rfl hq15 rfl ?_
  refine xp_s rfl rfl rfl rfl rfl ?_
  refine xp_s rfl rfl rfl rfl rfl ?_
  refine xp_get rfl rfl hq15 rfl ?_
  refine xp_s rfl rfl rfl rfl rfl ?_
  refine xp_s rfl rfl rfl rfl rfl ?_
  refine xp_put rfl rfl hq15 (by first | decide | exact Nat.le_of_ble_eq_true rfl) (by first | rfl | decide) (by first | rfl | decide) (fun B16 hq16 hs16 hL16 hN16 => ?_)
  have hz16_347 := (hs16 347 (by decide)).trans hz15_347
  have hz16_348 := (hs16 348 (by decide)).trans hz15_348
  refine xp_s rfl rfl rfl rfl rfl ?_
  refine xp_s rfl rfl rfl rfl rfl ?_
  refine xp_put rfl rfl hq16 (by first | decide | exact Nat.le_of_ble_eq_true rfl) (by first | rfl | decide) (by first | rfl | decide) (fun B17 hq17 hs17 hL17 hN17 => ?_)
  have hz17_347 := (hs17 347 (by decide)).trans hz16_347
  have hz17_348 := (hs17 348 (by decide)).trans hz16_348
  refine xp_s rfl rfl rfl rfl rfl ?_
  refine xp_s rfl rfl rfl rfl rfl ?_
  refine xp_get rfl rfl hq17 rfl ?_
  refine xp_s (pc2 := 44) rfl rfl rfl rfl (if_pos (by decide)) ?_
  refine xp_s rfl rfl rfl rfl rfl ?_
  refine xp_put rfl rfl hq17 (by first | decide | exact Nat.le_of_ble_eq_true rfl) (by first | rfl | decide) (by first | rfl | decide) (fun B18 hq18 hs18 hL18 hN18 => ?_)
  have hz18_347 := (hs18 347 (by decide)).trans hz17_347
  have hz18_348 := (hs18 348 (by decide)).trans hz17_348
  refine xp_s rfl rfl rfl rfl rfl ?_
  refine xp_get rfl rfl hq18 rfl ?_
  refine xp_s (pc2 := 59) rfl rfl rfl rfl (if_pos (by decide)) ?_
  refine xp_s rfl rfl rfl rfl rfl ?_
  refine xp_e rfl rfl rfl ⟨_, _, rfl, ?_⟩
  refine xp_put rfl rfl hq18 (by first | decide | exact Nat.le_of_ble_eq_true rfl) (by first | rfl | decide) (by first | rfl | decide) (fun B19 hq19 hs19 hL19 hN19 => ?_)
  have hz19_347 := (hs19 347 (by decide)).trans hz18_347
  have hz19_348 := (hs19 348 (by decide)).trans hz18_348
  refine xp_s rfl rfl rfl rfl rfl ?_
  refine xp_get rfl rfl hq19 rfl ?_
  refine xp_s (pc2 := 59) rfl rfl rfl rfl (if_pos (by decide)) ?_
  refine xp_s rfl rfl rfl rfl rfl ?_
  refine xp_e rfl rfl rfl ?_
  exact ⟨_, _, rfl, hq19, rfl, by omega, by omega⟩
end
section
/-! rows on bits, shifts and unsigned numbers, to paste: each family out of a closed proof of our own, whole with what it rests on; each by itself clean at Lean in its own claim (generation 39, form 5). Take a family whole -/
/-! ===== Int32 by its bits: bt x i ===== -/
def bt (x : Int32) (i : Nat) : Bool := x.toBitVec.getLsbD i
theorem b_ext {x y : Int32} (h : ∀ i, i < 32 → bt x i = bt y i) : x = y := Int32.toBitVec_inj.mp (BitVec.eq_of_getLsbD_eq (fun i hi => h i hi))
theorem b_or (x y : Int32) (i : Nat) : bt (x ||| y) i = (bt x i || bt y i) := by unfold bt; rw [Int32.toBitVec_or, BitVec.getLsbD_or]
theorem b_and (x y : Int32) (i : Nat) : bt (x &&& y) i = (bt x i && bt y i) := by unfold bt; rw [Int32.toBitVec_and, BitVec.getLsbD_and]
theorem b_xor (x y : Int32) (i : Nat) : bt (x ^^^ y) i = (bt x i ^^ bt y i) := by unfold bt; rw [Int32.toBitVec_xor, BitVec.getLsbD_xor]
theorem b_big {x : Int32} {i : Nat} (h : 32 ≤ i) : bt x i = false := BitVec.getLsbD_of_ge _ _ h
theorem b_255 (i : Nat) : bt 255 i = decide (i < 8) := by
  rcases Nat.lt_or_ge i 32 with h | h
  · exact (by decide +kernel : ∀ i, i < 32 → bt 255 i = decide (i < 8)) i h
  · rw [b_big h, decide_eq_false (by omega)]
theorem b_65535 (i : Nat) : bt 65535 i = decide (i < 16) := by
  rcases Nat.lt_or_ge i 32 with h | h
  · exact (by decide +kernel : ∀ i, i < 32 → bt 65535 i = decide (i < 16)) i h
  · rw [b_big h, decide_eq_false (by omega)]
theorem b_m1 : ∀ i, i < 32 → bt (-1) i = true := by decide +kernel
theorem b_0 (i : Nat) : bt 0 i = false := BitVec.getLsbD_zero
theorem s_l : ∀ n, n < 32 → ((nI n &&& 31).toBitVec.smod 32).toNat = n := by decide +kernel
theorem s_u : ∀ n, n < 32 → (((nI n).toUInt32 &&& Int32.toUInt32 31).toBitVec % 32).toNat = n := by decide +kernel
theorem b_shl (n : Nat) (hn : n < 32) (x : Int32) {i : Nat} (hi : i < 32) : bt (x <<< (nI n &&& 31)) i = (decide (n ≤ i) && bt x (i - n)) := by
  unfold bt
  rw [Int32.toBitVec_shiftLeft]
  show (x.toBitVec <<< ((nI n &&& 31).toBitVec.smod 32).toNat).getLsbD i = _
  rw [s_l n hn, BitVec.getLsbD_shiftLeft]
  rcases Nat.lt_or_ge i n with h | h
  · simp [h, Nat.not_le.mpr h]
  · simp [hi, h, Nat.not_lt.mpr h]
theorem b_ushr (n : Nat) (hn : n < 32) (x : Int32) (i : Nat) : bt ((x.toUInt32 >>> ((nI n).toUInt32 &&& Int32.toUInt32 31)).toInt32) i = bt x (n + i) := by
  show (x.toUInt32 >>> ((nI n).toUInt32 &&& Int32.toUInt32 31)).toBitVec.getLsbD i = x.toUInt32.toBitVec.getLsbD (n + i)
  rw [UInt32.toBitVec_shiftRight]
  show (x.toUInt32.toBitVec >>> (((nI n).toUInt32 &&& Int32.toUInt32 31).toBitVec % 32).toNat).getLsbD i = _
  rw [s_u n hn, BitVec.getLsbD_ushiftRight]
theorem b_sshr (n : Nat) (hn : n < 32) (x : Int32) {i : Nat} (hi : i < 32) : bt (x >>> (nI n &&& 31)) i = if n + i < 32 then bt x (n + i) else bt x 31 := by
  unfold bt
  rw [Int32.toBitVec_shiftRight]
  show (x.toBitVec.sshiftRight ((nI n &&& 31).toBitVec.smod 32).toNat).getLsbD i = _
  rw [s_l n hn, BitVec.getLsbD_sshiftRight, BitVec.msb_eq_getLsbD_last]
  simp [hi]
theorem b_shl8 (x : Int32) {i : Nat} (hi : i < 32) : bt (x <<< ((8 : Int32) &&& 31)) i = (decide (8 ≤ i) && bt x (i - 8)) := b_shl 8 (by omega) x hi
theorem b_shl16 (x : Int32) {i : Nat} (hi : i < 32) : bt (x <<< ((16 : Int32) &&& 31)) i = (decide (16 ≤ i) && bt x (i - 16)) := b_shl 16 (by omega) x hi
theorem b_shl24 (x : Int32) {i : Nat} (hi : i < 32) : bt (x <<< ((24 : Int32) &&& 31)) i = (decide (24 ≤ i) && bt x (i - 24)) := b_shl 24 (by omega) x hi
theorem b_sshr8 (x : Int32) {i : Nat} (hi : i < 32) : bt (x >>> ((8 : Int32) &&& 31)) i = if 8 + i < 32 then bt x (8 + i) else bt x 31 := b_sshr 8 (by omega) x hi
/-! text() ON FRESH OBJECTS -/
/-- a byte of an int -/
def tx_b (v : Int32) (j : Nat) : Int32 := (v >>> (nI j &&& 31)) &&& 255
def tx_g (b : Int32) : Bool := decide (b = 0) || (decide (31 < b) && decide (b < 127))
def tx_4 (v : Int32) : Bool := tx_g (tx_b v 24) && (tx_g (tx_b v 16) && (tx_g (tx_b v 8) && tx_g (tx_b v 0)))
def tx_i (b : Bool) : Int32 := if b = true then 1 else 0
theorem tx_u {n : Nat} (hn : n ≤ 24) (v : Int32) : ((v.toUInt32 >>> ((nI n).toUInt32 &&& Int32.toUInt32 31)).toInt32) &&& 255 = tx_b v n := by
  unfold tx_b
  refine b_ext (fun i hi => ?_)
  rw [b_and, b_and, b_ushr n (by omega), b_sshr n (by omega) v hi, b_255]
  by_cases h : i < 8
  · rw [if_pos (by omega)]
  · simp [h]
theorem tx_lt31 {b : Int32} : ¬ b < 32 ↔ 31 < b := by
  rw [Int32.lt_iff_toInt_lt, Int32.lt_iff_toInt_lt]
  have h1 : (32 : Int32).toInt = 32 := by decide
  have h2 : (31 : Int32).toInt = 31 := by decide
  omega
theorem tx_lt127 {b : Int32} : ¬ 126 < b ↔ b < 127 := by
  rw [Int32.lt_iff_toInt_lt, Int32.lt_iff_toInt_lt]
  have h1 : (126 : Int32).toInt = 126 := by decide
  have h2 : (127 : Int32).toInt = 127 := by decide
  omega
theorem xp_fuel {P : Option (Outcome × xi_H) → Prop} (hP : ¬ P none) {Ms : List xi_M} {n k y fr lo pc : Nat} {lv : xi_L} {st : List Value} {A : xi_H} (h : xg_P P (xi_go Ms n y fr lo pc lv st A)) : xg_P P (xi_go Ms (n + k) y fr lo pc lv st A) := by
  cases hr : xi_go Ms n y fr lo pc lv st A with
  | none => rw [hr] at h; exact absurd h hP
  | some r => rw [hr] at h; rw [xi_fuel hr]; exact h
/-- the text that was typed: k characters -/
def tx_T (A : xi_H) (k : Nat) : Prop := k ≤ 100 ∧ A[1]? = some (.inr (1, e_l1.set 1 (.int (nI k)))) ∧ ∃ f, A[2]? = some (.inl (2, 600, .inl f))
/-- cells 1 and 2 alone have changed -/
def tx_F (A A2 : xi_H) : Prop := (∀ j : Nat, j ≠ 1 → j ≠ 2 → A2[j]? = A[j]?) ∧ A2.length = A.length ∧ xi_ns A2 = xi_ns A
theorem tx_F.rf (A : xi_H) : tx_F A A := ⟨fun _ _ _ => rfl, rfl, rfl⟩
theorem tx_F.tr {A B C : xi_H} (h : tx_F A B) (k : tx_F B C) : tx_F A C := ⟨fun j h1 h2 => (k.1 j h1 h2).trans (h.1 j h1 h2), k.2.1.trans h.2.1, k.2.2.trans h.2.2⟩
theorem et_code {A : xi_H} {k n fr lo : Nat} (code : Int32) (hT : tx_T A k) (hk : k < 100) : ∃ (A2 : xi_H) (k2 : Nat), xi_go xi_ms (n + 40) 21 fr lo 0 (lv_args 0 [.ref 1, .int code]) [] A = some (.returned (some (.int (tx_i (decide (31 < code) && decide (code < 127))))), A2) ∧ tx_T A2 k2 ∧ k2 ≤ k + 1 ∧ tx_F A A2 := by
  obtain ⟨hk0, h1, f, h2⟩ := hT
  by_cases ha : code < 32
  · refine ⟨A, k, ?_, ⟨hk0, h1, f, h2⟩, by omega, tx_F.rf A⟩
    have e1 : (decide (31 < code) && decide (code < 127)) = false := by simp [← tx_lt31, ha]
    rw [e1]
    show xg_P (fun r => r = some (.returned (some (.int (tx_i false))), A)) _
    refine xp_s rfl rfl rfl rfl rfl ?_
    refine xp_s rfl rfl rfl rfl rfl ?_
    refine xp_s (pc2 := 22) rfl rfl rfl rfl (if_pos ha) ?_
    refine xp_s rfl rfl rfl rfl rfl ?_
    refine xp_e rfl rfl rfl ?_
    rfl
  · by_cases hb : 126 < code
    · refine ⟨A, k, ?_, ⟨hk0, h1, f, h2⟩, by omega, tx_F.rf A⟩
      have e1 : (decide (31 < code) && decide (code < 127)) = false := by simp [← tx_lt127, hb]
      rw [e1]
      show xg_P (fun r => r = some (.returned (some (.int (tx_i false))), A)) _
      refine xp_s rfl rfl rfl rfl rfl ?_
      refine xp_s rfl rfl rfl rfl rfl ?_
      refine xp_s (pc2 := 6) rfl rfl rfl rfl (if_neg ha) ?_
      refine xp_s rfl rfl rfl rfl rfl ?_
      refine xp_s rfl rfl rfl rfl rfl ?_
      refine xp_s (pc2 := 22) rfl rfl rfl rfl (if_pos hb) ?_
      refine xp_s rfl rfl rfl rfl rfl ?_
      refine xp_e rfl rfl rfl ?_
      rfl
    · have e1 : (decide (31 < code) && decide (code < 127)) = true := by simp [← tx_lt127, ← tx_lt31, ha, hb]
      rw [e1]
      show xg_P (fun r => ∃ (A2 : xi_H) (k2 : Nat), r = some (.returned (some (.int (tx_i true))), A2) ∧ tx_T A2 k2 ∧ k2 ≤ k + 1 ∧ tx_F A A2) _
      refine xp_s rfl rfl rfl rfl rfl ?_
      refine xp_s rfl rfl rfl rfl rfl ?_
      refine xp_s (pc2 := 6) rfl rfl rfl rfl (if_neg ha) ?_
      refine xp_s rfl rfl rfl rfl rfl ?_
      refine xp_s rfl rfl rfl rfl rfl ?_
      refine xp_s (pc2 := 12) rfl rfl rfl rfl (if_neg hb) ?_
      refine xp_s rfl rfl rfl rfl rfl ?_
      refine xp_get rfl rfl h1 rfl ?_
      refine xp_s rfl rfl rfl rfl rfl ?_
      refine xp_s (pc2 := 24) rfl rfl rfl rfl (if_pos (nI_lt (a := k) (b := 600) (by omega) (by omega))) ?_
      refine xp_s rfl rfl rfl rfl rfl ?_
      refine xp_get rfl rfl h1 rfl ?_
      refine xp_s rfl rfl rfl rfl rfl ?_
      refine xp_get rfl rfl h1 rfl ?_
      refine xp_s rfl rfl rfl rfl rfl ?_
      refine xp_s rfl rfl rfl rfl rfl ?_
      refine xp_cast rfl rfl h2 (nI_in (c := k) (N := 600) (by omega) (by omega)) (fun B1 hq1 hs1 hL1 hN1 => ?_)
      have hz1_1 := (hs1 1 (by decide)).trans h1
      refine xp_s rfl rfl rfl rfl rfl ?_
      refine xp_s rfl rfl rfl rfl rfl ?_
      refine xp_get rfl rfl hz1_1 rfl ?_
      refine xp_s rfl rfl rfl rfl rfl ?_
      refine xp_s rfl rfl rfl rfl rfl ?_
      refine xp_put rfl rfl hz1_1 (by first | decide | exact Nat.le_of_ble_eq_true rfl) (by first | rfl | decide) (by first | rfl | decide) (fun B2 hq2 hs2 hL2 hN2 => ?_)
      have hz2_2 := (hs2 2 (by decide)).trans hq1
      refine xp_s rfl rfl rfl rfl rfl ?_
      refine xp_e rfl rfl rfl ?_
      refine ⟨_, k + 1, rfl, ⟨by omega, ?_, _, hz2_2⟩, Nat.le_refl _, fun j h3 h4 => (hs2 j h3).trans (hs1 j h4), by omega, by omega⟩
      rw [hq2, List.set_set, nI_succ]
      rfl
theorem et_iterF {P : Option (Outcome × xi_H) → Prop} (hP : ¬ P none) {A : xi_H} {k n j : Nat} {v : Int32} (hj : j ≤ 24) (hT : tx_T A k) (hk : k < 100)
    (hno : tx_g (tx_b v j) = false → ∀ (A2 : xi_H) (k2 : Nat), tx_T A2 k2 → k2 ≤ k + 1 → tx_F A A2 → P (some (.returned (some (.int 0)), A2)))
    (hyes : tx_g (tx_b v j) = true → ∀ (A2 : xi_H) (k2 : Nat), tx_T A2 k2 → k2 ≤ k + 1 → tx_F A A2 → xg_P P (xi_go xi_ms n 20 14 537 3 ((2, .int (nI j + Int32.ofInt (-8))) :: (3, .int (tx_b v j)) :: lv_args 0 [.ref 1, .int v]) [] A2)) :
    xg_P P (xi_go xi_ms (n + 80) 20 14 537 3 ((2, .int (nI j)) :: lv_args 0 [.ref 1, .int v]) [] A) := by
  refine xp_s rfl rfl rfl rfl rfl ?_
  refine xp_s (pc2 := 7) rfl rfl rfl rfl (if_neg (nI_pos (by omega))) ?_
  refine xp_s rfl rfl rfl rfl rfl ?_
  refine xp_s rfl rfl rfl rfl rfl ?_
  refine xp_s rfl rfl rfl rfl rfl ?_
  refine xp_s rfl rfl rfl rfl rfl ?_
  refine xp_s (st' := [.int (tx_b v j)]) rfl rfl rfl (congrArg (fun b => some (14, ((2, .int (nI j)) :: lv_args 0 [.ref 1, .int v] : xi_L), [Value.int b], A)) (tx_u hj v)) rfl ?_
  refine xp_s rfl rfl rfl rfl rfl ?_
  refine xp_s rfl rfl rfl rfl rfl ?_
  by_cases hb : tx_b v j = 0
  · refine xp_s (pc2 := 29) rfl rfl rfl rfl (if_pos hb) ?_
    refine xp_s rfl rfl rfl rfl rfl ?_
    refine xp_s rfl rfl rfl rfl rfl ?_
    exact xp_fuel hP (k := 68) (hyes (by simp [tx_g, hb]) A k hT (by omega) (tx_F.rf A))
  · refine xp_s (pc2 := 19) rfl rfl rfl rfl (if_neg hb) ?_
    refine xp_s rfl rfl rfl rfl rfl ?_
    refine xp_s rfl rfl rfl rfl rfl ?_
    obtain ⟨A2, k2, hr, hT2, hk2, hF2⟩ := et_code (n := n + 27) (fr := 13) (lo := 516) (tx_b v j) hT hk
    refine xp_V (As := [_]) (rest := []) rfl rfl rfl rfl rfl hT.2.1 ⟨⟨by decide, Nat.le_of_ble_eq_true rfl, by decide⟩, by decide, Nat.le_of_ble_eq_true rfl, rfl⟩ ?_
    refine xp_of hr ⟨_, _, rfl, ?_⟩
    cases hg : (decide (31 < tx_b v j) && decide (tx_b v j < 127)) with
    | true =>
      refine xp_s (pc2 := 29) rfl rfl rfl rfl (if_pos (by decide)) ?_
      refine xp_s rfl rfl rfl rfl rfl ?_
      refine xp_s rfl rfl rfl rfl rfl ?_
      exact xp_fuel hP (k := 64) (hyes (by simp only [tx_g, hg, Bool.or_true]) A2 k2 hT2 hk2 hF2)
    | false =>
      refine xp_s (pc2 := 27) rfl rfl rfl rfl (if_neg (by decide)) ?_
      refine xp_s rfl rfl rfl rfl rfl ?_
      refine xp_e rfl rfl rfl ?_
      exact hno (by simp only [tx_g, hg, Bool.or_false]; exact decide_eq_false hb) A2 k2 hT2 hk2 hF2
theorem et_iterN {P : Option (Outcome × xi_H) → Prop} (hP : ¬ P none) {A : xi_H} {k n j : Nat} {v c : Int32} (hj : j ≤ 24) (hT : tx_T A k) (hk : k < 100)
    (hno : tx_g (tx_b v j) = false → ∀ (A2 : xi_H) (k2 : Nat), tx_T A2 k2 → k2 ≤ k + 1 → tx_F A A2 → P (some (.returned (some (.int 0)), A2)))
    (hyes : tx_g (tx_b v j) = true → ∀ (A2 : xi_H) (k2 : Nat), tx_T A2 k2 → k2 ≤ k + 1 → tx_F A A2 → xg_P P (xi_go xi_ms n 20 14 537 3 ((2, .int (nI j + Int32.ofInt (-8))) :: (3, .int (tx_b v j)) :: lv_args 0 [.ref 1, .int v]) [] A2)) :
    xg_P P (xi_go xi_ms (n + 80) 20 14 537 3 ((2, .int (nI j)) :: (3, .int c) :: lv_args 0 [.ref 1, .int v]) [] A) := by
  refine xp_s rfl rfl rfl rfl rfl ?_
  refine xp_s (pc2 := 7) rfl rfl rfl rfl (if_neg (nI_pos (by omega))) ?_
  refine xp_s rfl rfl rfl rfl rfl ?_
  refine xp_s rfl rfl rfl rfl rfl ?_
  refine xp_s rfl rfl rfl rfl rfl ?_
  refine xp_s rfl rfl rfl rfl rfl ?_
  refine xp_s (st' := [.int (tx_b v j)]) rfl rfl rfl (congrArg (fun b => some (14, ((2, .int (nI j)) :: (3, .int c) :: lv_args 0 [.ref 1, .int v] : xi_L), [Value.int b], A)) (tx_u hj v)) rfl ?_
  refine xp_s rfl rfl rfl rfl rfl ?_
  refine xp_s rfl rfl rfl rfl rfl ?_
  by_cases hb : tx_b v j = 0
  · refine xp_s (pc2 := 29) rfl rfl rfl rfl (if_pos hb) ?_
    refine xp_s rfl rfl rfl rfl rfl ?_
    refine xp_s rfl rfl rfl rfl rfl ?_
    exact xp_fuel hP (k := 68) (hyes (by simp [tx_g, hb]) A k hT (by omega) (tx_F.rf A))
  · refine xp_s (pc2 := 19) rfl rfl rfl rfl (if_neg hb) ?_
    refine xp_s rfl rfl rfl rfl rfl ?_
    refine xp_s rfl rfl rfl rfl rfl ?_
    obtain ⟨A2, k2, hr, hT2, hk2, hF2⟩ := et_code (n := n + 27) (fr := 13) (lo := 516) (tx_b v j) hT hk
    refine xp_V (As := [_]) (rest := []) rfl rfl rfl rfl rfl hT.2.1 ⟨⟨by decide, Nat.le_of_ble_eq_true rfl, by decide⟩, by decide, Nat.le_of_ble_eq_true rfl, rfl⟩ ?_
    refine xp_of hr ⟨_, _, rfl, ?_⟩
    cases hg : (decide (31 < tx_b v j) && decide (tx_b v j < 127)) with
    | true =>
      refine xp_s (pc2 := 29) rfl rfl rfl rfl (if_pos (by decide)) ?_
      refine xp_s rfl rfl rfl rfl rfl ?_
      refine xp_s rfl rfl rfl rfl rfl ?_
      exact xp_fuel hP (k := 64) (hyes (by simp only [tx_g, hg, Bool.or_true]) A2 k2 hT2 hk2 hF2)
    | false =>
      refine xp_s (pc2 := 27) rfl rfl rfl rfl (if_neg (by decide)) ?_
      refine xp_s rfl rfl rfl rfl rfl ?_
      refine xp_e rfl rfl rfl ?_
      exact hno (by simp only [tx_g, hg, Bool.or_false]; exact decide_eq_false hb) A2 k2 hT2 hk2 hF2
theorem et_take {A : xi_H} {k : Nat} (v : Int32) (hT : tx_T A k) (hk : k + 4 ≤ 100) : ∃ (A2 : xi_H) (k2 : Nat), (∀ n, xi_go xi_ms (n + 330) 20 14 537 0 (lv_args 0 [.ref 1, .int v]) [] A = some (.returned (some (.int (tx_i (tx_4 v)))), A2)) ∧ tx_T A2 k2 ∧ k2 ≤ k + 4 ∧ tx_F A A2 := by
  have key : xg_P (fun r => ∃ (A2 : xi_H) (k2 : Nat), r = some (.returned (some (.int (tx_i (tx_4 v)))), A2) ∧ tx_T A2 k2 ∧ k2 ≤ k + 4 ∧ tx_F A A2) (xi_go xi_ms 330 20 14 537 0 (lv_args 0 [.ref 1, .int v]) [] A) := by
    have hP : ¬ (∃ (A2 : xi_H) (k2 : Nat), (none : Option (Outcome × xi_H)) = some (.returned (some (.int (tx_i (tx_4 v)))), A2) ∧ tx_T A2 k2 ∧ k2 ≤ k + 4 ∧ tx_F A A2) := by
      rintro ⟨_, _, h, _⟩
      cases h
    refine xp_s rfl rfl rfl rfl rfl ?_
    refine xp_s rfl rfl rfl rfl rfl ?_
    refine et_iterF hP (n := 248) (j := 24) (by omega) hT (by omega) (fun hg B k2 hT2 hk2 hF2 => ⟨B, k2, by rw [show tx_4 v = false by simp [tx_4, hg]]; rfl, hT2, by omega, hF2⟩) (fun hg1 B1 k1 hT1 hk1 hF1 => ?_)
    rw [show nI 24 + Int32.ofInt (-8) = nI 16 by decide]
    refine et_iterN hP (n := 168) (j := 16) (by omega) hT1 (by omega) (fun hg B k2 hT2 hk2 hF2 => ⟨B, k2, by rw [show tx_4 v = false by simp [tx_4, hg]]; rfl, hT2, by omega, hF1.tr hF2⟩) (fun hg2 B2 k2 hT2 hk2 hF2 => ?_)
    rw [show nI 16 + Int32.ofInt (-8) = nI 8 by decide]
    refine et_iterN hP (n := 88) (j := 8) (by omega) hT2 (by omega) (fun hg B k3 hT3 hk3 hF3 => ⟨B, k3, by rw [show tx_4 v = false by simp [tx_4, hg]]; rfl, hT3, by omega, (hF1.tr hF2).tr hF3⟩) (fun hg3 B3 k3 hT3 hk3 hF3 => ?_)
    rw [show nI 8 + Int32.ofInt (-8) = nI 0 by decide]
    refine et_iterN hP (n := 8) (j := 0) (by omega) hT3 (by omega) (fun hg B k4 hT4 hk4 hF4 => ⟨B, k4, by rw [show tx_4 v = false by simp [tx_4, hg]]; rfl, hT4, by omega, ((hF1.tr hF2).tr hF3).tr hF4⟩) (fun hg4 B4 k4 hT4 hk4 hF4 => ?_)
    refine xp_s rfl rfl rfl rfl rfl ?_
    refine xp_s (pc2 := 35) rfl rfl rfl rfl (if_pos (by decide)) ?_
    refine xp_s rfl rfl rfl rfl rfl ?_
    refine xp_e rfl rfl rfl ?_
    exact ⟨B4, k4, by rw [show tx_4 v = true by simp [tx_4, hg1, hg2, hg3, hg4]]; rfl, hT4, by omega, ((hF1.tr hF2).tr hF3).tr hF4⟩
  obtain ⟨A2, k2, h1, h2⟩ := key
  exact ⟨A2, k2, fun n => by rw [Nat.add_comm]; exact xi_fuel h1, h2⟩
theorem et_fail {P : Option (Outcome × xi_H) → Prop} {A : xi_H} {k n : Nat} {z p q r s t : Int32} (hT : tx_T A k) (h0 : A[0]? = some (.inr (0, e_l0))) (hk : ∀ A2 : xi_H, tx_F A A2 → P (some (.returned (some (.int 0)), A2))) : xg_P P (xi_go xi_ms (n + 20) 1 15 560 70 ((6, .int z) :: lv_args 0 [.ref 0, .int p, .int q, .int r, .int s, .int t]) [] A) := by
  refine xp_s rfl rfl rfl rfl rfl ?_
  refine xp_s rfl rfl rfl rfl rfl ?_
  refine xp_s rfl rfl rfl rfl rfl ?_
  refine xp_s (pc2 := 78) rfl rfl rfl rfl (if_neg (by decide)) ?_
  refine xp_s rfl rfl rfl rfl rfl ?_
  refine xp_get rfl rfl h0 rfl ?_
  refine xp_s rfl rfl rfl rfl rfl ?_
  refine xp_V (As := [_]) (rest := []) rfl rfl rfl rfl rfl hT.2.1 ⟨⟨by decide, Nat.le_of_ble_eq_true rfl, by decide⟩, by decide, Nat.le_of_ble_eq_true rfl, rfl⟩ ?_
  refine xp_s rfl rfl rfl rfl rfl ?_
  refine xp_s rfl rfl rfl rfl rfl ?_
  refine xp_put rfl rfl hT.2.1 (by first | decide | exact Nat.le_of_ble_eq_true rfl) (by first | rfl | decide) (by first | rfl | decide) (fun B hq hs hL hN => ?_)
  refine xp_e rfl rfl rfl ⟨_, _, rfl, ?_⟩
  refine xp_s rfl rfl rfl rfl rfl ?_
  refine xp_e rfl rfl rfl ?_
  exact hk B ⟨fun j h1 h2 => hs j h1, hL, hN⟩
theorem er_text {A : xi_H} (h0 : A[0]? = some (.inr (0, e_l0))) (hT : tx_T A 0) (p q r s t : Int32) : ∃ A2 : xi_H, xi_go xi_ms 800 1 15 560 0 (lv_args 0 [.ref 0, .int p, .int q, .int r, .int s, .int t]) [] A = some (.returned (some (.int (tx_i (tx_4 p && (tx_4 q && (tx_4 r && (tx_4 s && tx_4 t))))))), A2) ∧ tx_F A A2 := by
  show xg_P (fun x => ∃ A2 : xi_H, x = some (.returned (some (.int (tx_i (tx_4 p && (tx_4 q && (tx_4 r && (tx_4 s && tx_4 t))))))), A2) ∧ tx_F A A2) _
  refine xp_s rfl rfl rfl rfl rfl ?_
  refine xp_get rfl rfl h0 rfl ?_
  refine xp_V (As := []) (rest := []) rfl rfl rfl rfl rfl hT.2.1 ⟨⟨by decide, Nat.le_of_ble_eq_true rfl, by decide⟩, by decide, Nat.le_of_ble_eq_true rfl, rfl⟩ ?_
  refine xp_s rfl rfl rfl rfl rfl ?_
  refine xp_get rfl rfl hT.2.1 rfl ?_
  refine xp_e rfl rfl rfl ⟨_, _, rfl, ?_⟩
  refine xp_s rfl rfl rfl rfl rfl ?_
  refine xp_s rfl rfl rfl rfl rfl ?_
  refine xp_get rfl rfl h0 rfl ?_
  refine xp_s rfl rfl rfl rfl rfl ?_
  obtain ⟨B0, k0, hr0, hT0, hk0, hF0⟩ := et_take p hT (by omega)
  refine xp_V (As := [_]) (rest := []) rfl rfl rfl rfl rfl hT.2.1 ⟨⟨by decide, Nat.le_of_ble_eq_true rfl, by decide⟩, by decide, Nat.le_of_ble_eq_true rfl, rfl⟩ ?_
  refine xp_of (hr0 462) ⟨_, _, rfl, ?_⟩
  have z0 := (hF0.1 0 (by decide) (by decide)).trans h0
  cases hg0 : tx_4 p with
  | false =>
    refine xp_s (pc2 := 70) rfl rfl rfl rfl (if_pos (by decide)) ?_
    refine et_fail (n := 771) hT0 z0 (fun B hB => ⟨B, by simp [hg0]; rfl, hF0.tr hB⟩)
  | true =>
  refine xp_s (pc2 := 20) rfl rfl rfl rfl (if_neg (by decide)) ?_
  refine xp_s rfl rfl rfl rfl rfl ?_
  refine xp_get rfl rfl z0 rfl ?_
  refine xp_s rfl rfl rfl rfl rfl ?_
  obtain ⟨B1, k1, hr1, hT1, hk1, hF1⟩ := et_take q hT0 (by omega)
  refine xp_V (As := [_]) (rest := []) rfl rfl rfl rfl rfl hT0.2.1 ⟨⟨by decide, Nat.le_of_ble_eq_true rfl, by decide⟩, by decide, Nat.le_of_ble_eq_true rfl, rfl⟩ ?_
  refine xp_of (hr1 457) ⟨_, _, rfl, ?_⟩
  have z1 := (hF1.1 0 (by decide) (by decide)).trans z0
  cases hg1 : tx_4 q with
  | false =>
    refine xp_s (pc2 := 70) rfl rfl rfl rfl (if_pos (by decide)) ?_
    refine et_fail (n := 766) hT1 z1 (fun B hB => ⟨B, by simp [hg1]; rfl, (hF0.tr hF1).tr hB⟩)
  | true =>
  refine xp_s (pc2 := 31) rfl rfl rfl rfl (if_neg (by decide)) ?_
  refine xp_s rfl rfl rfl rfl rfl ?_
  refine xp_get rfl rfl z1 rfl ?_
  refine xp_s rfl rfl rfl rfl rfl ?_
  obtain ⟨B2, k2, hr2, hT2, hk2, hF2⟩ := et_take r hT1 (by omega)
  refine xp_V (As := [_]) (rest := []) rfl rfl rfl rfl rfl hT1.2.1 ⟨⟨by decide, Nat.le_of_ble_eq_true rfl, by decide⟩, by decide, Nat.le_of_ble_eq_true rfl, rfl⟩ ?_
  refine xp_of (hr2 452) ⟨_, _, rfl, ?_⟩
  have z2 := (hF2.1 0 (by decide) (by decide)).trans z1
  cases hg2 : tx_4 r with
  | false =>
    refine xp_s (pc2 := 70) rfl rfl rfl rfl (if_pos (by decide)) ?_
    refine et_fail (n := 761) hT2 z2 (fun B hB => ⟨B, by simp [hg2]; rfl, ((hF0.tr hF1).tr hF2).tr hB⟩)
  | true =>
  refine xp_s (pc2 := 42) rfl rfl rfl rfl (if_neg (by decide)) ?_
  refine xp_s rfl rfl rfl rfl rfl ?_
  refine xp_get rfl rfl z2 rfl ?_
  refine xp_s rfl rfl rfl rfl rfl ?_
  obtain ⟨B3, k3, hr3, hT3, hk3, hF3⟩ := et_take s hT2 (by omega)
  refine xp_V (As := [_]) (rest := []) rfl rfl rfl rfl rfl hT2.2.1 ⟨⟨by decide, Nat.le_of_ble_eq_true rfl, by decide⟩, by decide, Nat.le_of_ble_eq_true rfl, rfl⟩ ?_
  refine xp_of (hr3 447) ⟨_, _, rfl, ?_⟩
  have z3 := (hF3.1 0 (by decide) (by decide)).trans z2
  cases hg3 : tx_4 s with
  | false =>
    refine xp_s (pc2 := 70) rfl rfl rfl rfl (if_pos (by decide)) ?_
    refine et_fail (n := 756) hT3 z3 (fun B hB => ⟨B, by simp [hg3]; rfl, (((hF0.tr hF1).tr hF2).tr hF3).tr hB⟩)
  | true =>
  refine xp_s (pc2 := 54) rfl rfl rfl rfl (if_neg (by decide)) ?_
  refine xp_s rfl rfl rfl rfl rfl ?_
  refine xp_get rfl rfl z3 rfl ?_
  refine xp_s rfl rfl rfl rfl rfl ?_
  obtain ⟨B4, k4, hr4, hT4, hk4, hF4⟩ := et_take t hT3 (by omega)
  refine xp_V (As := [_]) (rest := []) rfl rfl rfl rfl rfl hT3.2.1 ⟨⟨by decide, Nat.le_of_ble_eq_true rfl, by decide⟩, by decide, Nat.le_of_ble_eq_true rfl, rfl⟩ ?_
  refine xp_of (hr4 442) ⟨_, _, rfl, ?_⟩
  have z4 := (hF4.1 0 (by decide) (by decide)).trans z3
  cases hg4 : tx_4 t with
  | false =>
    refine xp_s (pc2 := 70) rfl rfl rfl rfl (if_pos (by decide)) ?_
    refine et_fail (n := 751) hT4 z4 (fun B hB => ⟨B, by simp [hg4]; rfl, ((((hF0.tr hF1).tr hF2).tr hF3).tr hF4).tr hB⟩)
  | true =>
  refine xp_s (pc2 := 66) rfl rfl rfl rfl (if_neg (by decide)) ?_
  refine xp_s rfl rfl rfl rfl rfl ?_
  refine xp_s rfl rfl rfl rfl rfl ?_
  refine xp_s rfl rfl rfl rfl rfl ?_
  refine xp_s rfl rfl rfl rfl rfl ?_
  refine xp_s (pc2 := 87) rfl rfl rfl rfl (if_pos (by decide)) ?_
  refine xp_s rfl rfl rfl rfl rfl ?_
  refine xp_e rfl rfl rfl ?_
  exact ⟨_, by simp [hg0, hg1, hg2, hg3, hg4]; rfl, ((((hF0.tr hF1).tr hF2).tr hF3).tr hF4)⟩
end
section
theorem xp_irem {P : Option (Outcome × xi_H) → Prop} {Ms : List xi_M} {n y fr lo pc : Nat} {M : xi_M} {lv : xi_L} {r : List Value} {A : xi_H} {nx : Nat} {aux : List Nat} {a b v : Int32} (hM : Ms[y]? = some M) (hrow : xi_row M.2.2.2.2.1 pc = some (.irem, nx, aux)) (hne : ¬ b = 0) (hv : a - a / b * b = v) (hk : xg_P P (xi_go Ms n y fr lo nx lv (.int v :: r) A)) : xg_P P (xi_go Ms (n + 1) y fr lo pc lv (.int b :: .int a :: r) A) := by
  subst hv
  refine xp_s (pc' := nx) (lv' := lv) (st' := .int (a - a / b * b) :: r) (A' := A) hM hrow rfl ?_ rfl hk
  simp only [xi_s]
  rw [if_neg hne]
theorem xp_top {P : Option (Outcome × xi_H) → Prop} {Ms : List xi_M} {n y fr lo pc : Nat} {lv : xi_L} {r : List Value} {A : xi_H} {x y1 : Int32} (h : x = y1) (hk : xg_P P (xi_go Ms n y fr lo pc lv (.int y1 :: r) A)) : xg_P P (xi_go Ms n y fr lo pc lv (.int x :: r) A) := by
  subst h
  exact hk
/-! the reference's text() -/
def tx_k (p q r s t : Int32) (i : Nat) : Int32 := tx_b (if i < 4 then p else if i < 8 then q else if i < 12 then r else if i < 16 then s else t) (24 - 8 * (i % 4))
theorem eb_0 {A : xi_H} {n fr lo : Nat} (p q r s t : Int32) : xi_go xi_ms (n + 60) 48 fr lo 0 (lv_args 0 [.int (nI 0), .int p, .int q, .int r, .int s, .int t]) [] A = some (.returned (some (.int (tx_b p 24))), A) := by
  show xg_P (fun x => x = some (.returned (some (.int (tx_b p 24))), A)) _
  refine xp_s rfl rfl rfl rfl rfl ?_
  refine xp_s rfl rfl rfl rfl rfl ?_
  refine xp_s (pc2 := 5) rfl rfl rfl rfl (if_neg (by decide)) ?_
  refine xp_s rfl rfl rfl rfl rfl ?_
  refine xp_s rfl rfl rfl rfl rfl ?_
  refine xp_s rfl rfl rfl rfl rfl ?_
  refine xp_s rfl rfl rfl rfl rfl ?_
  refine xp_s rfl rfl rfl rfl rfl ?_
  refine xp_s rfl rfl rfl rfl rfl ?_
  refine xp_s rfl rfl rfl rfl rfl ?_
  refine xp_s rfl rfl rfl rfl rfl ?_
  refine xp_irem (v := 0) rfl rfl (by decide) (by decide) ?_
  refine xp_s rfl rfl rfl rfl rfl ?_
  refine xp_top (y1 := nI 0) (by decide) ?_
  refine xp_s rfl rfl rfl rfl rfl ?_
  refine xp_top (y1 := nI 24) (by decide) ?_
  refine xp_s rfl rfl rfl rfl rfl ?_
  refine xp_s rfl rfl rfl rfl rfl ?_
  refine xp_s rfl rfl rfl rfl rfl ?_
  refine xp_e rfl rfl (if_pos rfl) ?_
  rfl
theorem eb_1 {A : xi_H} {n fr lo : Nat} (p q r s t : Int32) : xi_go xi_ms (n + 60) 48 fr lo 0 (lv_args 0 [.int (nI 1), .int p, .int q, .int r, .int s, .int t]) [] A = some (.returned (some (.int (tx_b p 16))), A) := by
  show xg_P (fun x => x = some (.returned (some (.int (tx_b p 16))), A)) _
  refine xp_s rfl rfl rfl rfl rfl ?_
  refine xp_s rfl rfl rfl rfl rfl ?_
  refine xp_s (pc2 := 5) rfl rfl rfl rfl (if_neg (by decide)) ?_
  refine xp_s rfl rfl rfl rfl rfl ?_
  refine xp_s rfl rfl rfl rfl rfl ?_
  refine xp_s rfl rfl rfl rfl rfl ?_
  refine xp_s rfl rfl rfl rfl rfl ?_
  refine xp_s rfl rfl rfl rfl rfl ?_
  refine xp_s rfl rfl rfl rfl rfl ?_
  refine xp_s rfl rfl rfl rfl rfl ?_
  refine xp_s rfl rfl rfl rfl rfl ?_
  refine xp_irem (v := 1) rfl rfl (by decide) (by decide) ?_
  refine xp_s rfl rfl rfl rfl rfl ?_
  refine xp_top (y1 := nI 8) (by decide) ?_
  refine xp_s rfl rfl rfl rfl rfl ?_
  refine xp_top (y1 := nI 16) (by decide) ?_
  refine xp_s rfl rfl rfl rfl rfl ?_
  refine xp_s rfl rfl rfl rfl rfl ?_
  refine xp_s rfl rfl rfl rfl rfl ?_
  refine xp_e rfl rfl (if_pos rfl) ?_
  rfl
theorem eb_2 {A : xi_H} {n fr lo : Nat} (p q r s t : Int32) : xi_go xi_ms (n + 60) 48 fr lo 0 (lv_args 0 [.int (nI 2), .int p, .int q, .int r, .int s, .int t]) [] A = some (.returned (some (.int (tx_b p 8))), A) := by
  show xg_P (fun x => x = some (.returned (some (.int (tx_b p 8))), A)) _
  refine xp_s rfl rfl rfl rfl rfl ?_
  refine xp_s rfl rfl rfl rfl rfl ?_
  refine xp_s (pc2 := 5) rfl rfl rfl rfl (if_neg (by decide)) ?_
  refine xp_s rfl rfl rfl rfl rfl ?_
  refine xp_s rfl rfl rfl rfl rfl ?_
  refine xp_s rfl rfl rfl rfl rfl ?_
  refine xp_s rfl rfl rfl rfl rfl ?_
  refine xp_s rfl rfl rfl rfl rfl ?_
  refine xp_s rfl rfl rfl rfl rfl ?_
  refine xp_s rfl rfl rfl rfl rfl ?_
  refine xp_s rfl rfl rfl rfl rfl ?_
  refine xp_irem (v := 2) rfl rfl (by decide) (by decide) ?_
  refine xp_s rfl rfl rfl rfl rfl ?_
  refine xp_top (y1 := nI 16) (by decide) ?_
  refine xp_s rfl rfl rfl rfl rfl ?_
  refine xp_top (y1 := nI 8) (by decide) ?_
  refine xp_s rfl rfl rfl rfl rfl ?_
  refine xp_s rfl rfl rfl rfl rfl ?_
  refine xp_s rfl rfl rfl rfl rfl ?_
  refine xp_e rfl rfl (if_pos rfl) ?_
  rfl
theorem eb_3 {A : xi_H} {n fr lo : Nat} (p q r s t : Int32) : xi_go xi_ms (n + 60) 48 fr lo 0 (lv_args 0 [.int (nI 3), .int p, .int q, .int r, .int s, .int t]) [] A = some (.returned (some (.int (tx_b p 0))), A) := by
  show xg_P (fun x => x = some (.returned (some (.int (tx_b p 0))), A)) _
  refine xp_s rfl rfl rfl rfl rfl ?_
  refine xp_s rfl rfl rfl rfl rfl ?_
  refine xp_s (pc2 := 5) rfl rfl rfl rfl (if_neg (by decide)) ?_
  refine xp_s rfl rfl rfl rfl rfl ?_
  refine xp_s rfl rfl rfl rfl rfl ?_
  refine xp_s rfl rfl rfl rfl rfl ?_
  refine xp_s rfl rfl rfl rfl rfl ?_
  refine xp_s rfl rfl rfl rfl rfl ?_
  refine xp_s rfl rfl rfl rfl rfl ?_
  refine xp_s rfl rfl rfl rfl rfl ?_
  refine xp_s rfl rfl rfl rfl rfl ?_
  refine xp_irem (v := 3) rfl rfl (by decide) (by decide) ?_
  refine xp_s rfl rfl rfl rfl rfl ?_
  refine xp_top (y1 := nI 24) (by decide) ?_
  refine xp_s rfl rfl rfl rfl rfl ?_
  refine xp_top (y1 := nI 0) (by decide) ?_
  refine xp_s rfl rfl rfl rfl rfl ?_
  refine xp_s rfl rfl rfl rfl rfl ?_
  refine xp_s rfl rfl rfl rfl rfl ?_
  refine xp_e rfl rfl (if_pos rfl) ?_
  rfl
theorem eb_4 {A : xi_H} {n fr lo : Nat} (p q r s t : Int32) : xi_go xi_ms (n + 60) 48 fr lo 0 (lv_args 0 [.int (nI 4), .int p, .int q, .int r, .int s, .int t]) [] A = some (.returned (some (.int (tx_b q 24))), A) := by
  show xg_P (fun x => x = some (.returned (some (.int (tx_b q 24))), A)) _
  refine xp_s rfl rfl rfl rfl rfl ?_
  refine xp_s rfl rfl rfl rfl rfl ?_
  refine xp_s (pc2 := 9) rfl rfl rfl rfl (if_pos (by decide)) ?_
  refine xp_s rfl rfl rfl rfl rfl ?_
  refine xp_s rfl rfl rfl rfl rfl ?_
  refine xp_s (pc2 := 15) rfl rfl rfl rfl (if_neg (by decide)) ?_
  refine xp_s rfl rfl rfl rfl rfl ?_
  refine xp_s rfl rfl rfl rfl rfl ?_
  refine xp_s rfl rfl rfl rfl rfl ?_
  refine xp_s rfl rfl rfl rfl rfl ?_
  refine xp_s rfl rfl rfl rfl rfl ?_
  refine xp_s rfl rfl rfl rfl rfl ?_
  refine xp_s rfl rfl rfl rfl rfl ?_
  refine xp_s rfl rfl rfl rfl rfl ?_
  refine xp_irem (v := 0) rfl rfl (by decide) (by decide) ?_
  refine xp_s rfl rfl rfl rfl rfl ?_
  refine xp_top (y1 := nI 0) (by decide) ?_
  refine xp_s rfl rfl rfl rfl rfl ?_
  refine xp_top (y1 := nI 24) (by decide) ?_
  refine xp_s rfl rfl rfl rfl rfl ?_
  refine xp_s rfl rfl rfl rfl rfl ?_
  refine xp_s rfl rfl rfl rfl rfl ?_
  refine xp_e rfl rfl (if_pos rfl) ?_
  rfl
theorem eb_5 {A : xi_H} {n fr lo : Nat} (p q r s t : Int32) : xi_go xi_ms (n + 60) 48 fr lo 0 (lv_args 0 [.int (nI 5), .int p, .int q, .int r, .int s, .int t]) [] A = some (.returned (some (.int (tx_b q 16))), A) := by
  show xg_P (fun x => x = some (.returned (some (.int (tx_b q 16))), A)) _
  refine xp_s rfl rfl rfl rfl rfl ?_
  refine xp_s rfl rfl rfl rfl rfl ?_
  refine xp_s (pc2 := 9) rfl rfl rfl rfl (if_pos (by decide)) ?_
  refine xp_s rfl rfl rfl rfl rfl ?_
  refine xp_s rfl rfl rfl rfl rfl ?_
  refine xp_s (pc2 := 15) rfl rfl rfl rfl (if_neg (by decide)) ?_
  refine xp_s rfl rfl rfl rfl rfl ?_
  refine xp_s rfl rfl rfl rfl rfl ?_
  refine xp_s rfl rfl rfl rfl rfl ?_
  refine xp_s rfl rfl rfl rfl rfl ?_
  refine xp_s rfl rfl rfl rfl rfl ?_
  refine xp_s rfl rfl rfl rfl rfl ?_
  refine xp_s rfl rfl rfl rfl rfl ?_
  refine xp_s rfl rfl rfl rfl rfl ?_
  refine xp_irem (v := 1) rfl rfl (by decide) (by decide) ?_
  refine xp_s rfl rfl rfl rfl rfl ?_
  refine xp_top (y1 := nI 8) (by decide) ?_
  refine xp_s rfl rfl rfl rfl rfl ?_
  refine xp_top (y1 := nI 16) (by decide) ?_
  refine xp_s rfl rfl rfl rfl rfl ?_
  refine xp_s rfl rfl rfl rfl rfl ?_
  refine xp_s rfl rfl rfl rfl rfl ?_
  refine xp_e rfl rfl (if_pos rfl) ?_
  rfl
theorem eb_6 {A : xi_H} {n fr lo : Nat} (p q r s t : Int32) : xi_go xi_ms (n + 60) 48 fr lo 0 (lv_args 0 [.int (nI 6), .int p, .int q, .int r, .int s, .int t]) [] A = some (.returned (some (.int (tx_b q 8))), A) := by
  show xg_P (fun x => x = some (.returned (some (.int (tx_b q 8))), A)) _
  refine xp_s rfl rfl rfl rfl rfl ?_
  refine xp_s rfl rfl rfl rfl rfl ?_
  refine xp_s (pc2 := 9) rfl rfl rfl rfl (if_pos (by decide)) ?_
  refine xp_s rfl rfl rfl rfl rfl ?_
  refine xp_s rfl rfl rfl rfl rfl ?_
  refine xp_s (pc2 := 15) rfl rfl rfl rfl (if_neg (by decide)) ?_
  refine xp_s rfl rfl rfl rfl rfl ?_
  refine xp_s rfl rfl rfl rfl rfl ?_
  refine xp_s rfl rfl rfl rfl rfl ?_
  refine xp_s rfl rfl rfl rfl rfl ?_
  refine xp_s rfl rfl rfl rfl rfl ?_
  refine xp_s rfl rfl rfl rfl rfl ?_
  refine xp_s rfl rfl rfl rfl rfl ?_
  refine xp_s rfl rfl rfl rfl rfl ?_
  refine xp_irem (v := 2) rfl rfl (by decide) (by decide) ?_
  refine xp_s rfl rfl rfl rfl rfl ?_
  refine xp_top (y1 := nI 16) (by decide) ?_
  refine xp_s rfl rfl rfl rfl rfl ?_
  refine xp_top (y1 := nI 8) (by decide) ?_
  refine xp_s rfl rfl rfl rfl rfl ?_
  refine xp_s rfl rfl rfl rfl rfl ?_
  refine xp_s rfl rfl rfl rfl rfl ?_
  refine xp_e rfl rfl (if_pos rfl) ?_
  rfl
theorem eb_7 {A : xi_H} {n fr lo : Nat} (p q r s t : Int32) : xi_go xi_ms (n + 60) 48 fr lo 0 (lv_args 0 [.int (nI 7), .int p, .int q, .int r, .int s, .int t]) [] A = some (.returned (some (.int (tx_b q 0))), A) := by
  show xg_P (fun x => x = some (.returned (some (.int (tx_b q 0))), A)) _
  refine xp_s rfl rfl rfl rfl rfl ?_
  refine xp_s rfl rfl rfl rfl rfl ?_
  refine xp_s (pc2 := 9) rfl rfl rfl rfl (if_pos (by decide)) ?_
  refine xp_s rfl rfl rfl rfl rfl ?_
  refine xp_s rfl rfl rfl rfl rfl ?_
  refine xp_s (pc2 := 15) rfl rfl rfl rfl (if_neg (by decide)) ?_
  refine xp_s rfl rfl rfl rfl rfl ?_
  refine xp_s rfl rfl rfl rfl rfl ?_
  refine xp_s rfl rfl rfl rfl rfl ?_
  refine xp_s rfl rfl rfl rfl rfl ?_
  refine xp_s rfl rfl rfl rfl rfl ?_
  refine xp_s rfl rfl rfl rfl rfl ?_
  refine xp_s rfl rfl rfl rfl rfl ?_
  refine xp_s rfl rfl rfl rfl rfl ?_
  refine xp_irem (v := 3) rfl rfl (by decide) (by decide) ?_
  refine xp_s rfl rfl rfl rfl rfl ?_
  refine xp_top (y1 := nI 24) (by decide) ?_
  refine xp_s rfl rfl rfl rfl rfl ?_
  refine xp_top (y1 := nI 0) (by decide) ?_
  refine xp_s rfl rfl rfl rfl rfl ?_
  refine xp_s rfl rfl rfl rfl rfl ?_
  refine xp_s rfl rfl rfl rfl rfl ?_
  refine xp_e rfl rfl (if_pos rfl) ?_
  rfl
theorem eb_8 {A : xi_H} {n fr lo : Nat} (p q r s t : Int32) : xi_go xi_ms (n + 60) 48 fr lo 0 (lv_args 0 [.int (nI 8), .int p, .int q, .int r, .int s, .int t]) [] A = some (.returned (some (.int (tx_b r 24))), A) := by
  show xg_P (fun x => x = some (.returned (some (.int (tx_b r 24))), A)) _
  refine xp_s rfl rfl rfl rfl rfl ?_
  refine xp_s rfl rfl rfl rfl rfl ?_
  refine xp_s (pc2 := 9) rfl rfl rfl rfl (if_pos (by decide)) ?_
  refine xp_s rfl rfl rfl rfl rfl ?_
  refine xp_s rfl rfl rfl rfl rfl ?_
  refine xp_s (pc2 := 19) rfl rfl rfl rfl (if_pos (by decide)) ?_
  refine xp_s rfl rfl rfl rfl rfl ?_
  refine xp_s rfl rfl rfl rfl rfl ?_
  refine xp_s (pc2 := 25) rfl rfl rfl rfl (if_neg (by decide)) ?_
  refine xp_s rfl rfl rfl rfl rfl ?_
  refine xp_s rfl rfl rfl rfl rfl ?_
  refine xp_s rfl rfl rfl rfl rfl ?_
  refine xp_s rfl rfl rfl rfl rfl ?_
  refine xp_s rfl rfl rfl rfl rfl ?_
  refine xp_s rfl rfl rfl rfl rfl ?_
  refine xp_s rfl rfl rfl rfl rfl ?_
  refine xp_s rfl rfl rfl rfl rfl ?_
  refine xp_irem (v := 0) rfl rfl (by decide) (by decide) ?_
  refine xp_s rfl rfl rfl rfl rfl ?_
  refine xp_top (y1 := nI 0) (by decide) ?_
  refine xp_s rfl rfl rfl rfl rfl ?_
  refine xp_top (y1 := nI 24) (by decide) ?_
  refine xp_s rfl rfl rfl rfl rfl ?_
  refine xp_s rfl rfl rfl rfl rfl ?_
  refine xp_s rfl rfl rfl rfl rfl ?_
  refine xp_e rfl rfl (if_pos rfl) ?_
  rfl
theorem eb_9 {A : xi_H} {n fr lo : Nat} (p q r s t : Int32) : xi_go xi_ms (n + 60) 48 fr lo 0 (lv_args 0 [.int (nI 9), .int p, .int q, .int r, .int s, .int t]) [] A = some (.returned (some (.int (tx_b r 16))), A) := by
  show xg_P (fun x => x = some (.returned (some (.int (tx_b r 16))), A)) _
  refine xp_s rfl rfl rfl rfl rfl ?_
  refine xp_s rfl rfl rfl rfl rfl ?_
  refine xp_s (pc2 := 9) rfl rfl rfl rfl (if_pos (by decide)) ?_
  refine xp_s rfl rfl rfl rfl rfl ?_
  refine xp_s rfl rfl rfl rfl rfl ?_
  refine xp_s (pc2 := 19) rfl rfl rfl rfl (if_pos (by decide)) ?_
  refine xp_s rfl rfl rfl rfl rfl ?_
  refine xp_s rfl rfl rfl rfl rfl ?_
  refine xp_s (pc2 := 25) rfl rfl rfl rfl (if_neg (by decide)) ?_
  refine xp_s rfl rfl rfl rfl rfl ?_
  refine xp_s rfl rfl rfl rfl rfl ?_
  refine xp_s rfl rfl rfl rfl rfl ?_
  refine xp_s rfl rfl rfl rfl rfl ?_
  refine xp_s rfl rfl rfl rfl rfl ?_
  refine xp_s rfl rfl rfl rfl rfl ?_
  refine xp_s rfl rfl rfl rfl rfl ?_
  refine xp_s rfl rfl rfl rfl rfl ?_
  refine xp_irem (v := 1) rfl rfl (by decide) (by decide) ?_
  refine xp_s rfl rfl rfl rfl rfl ?_
  refine xp_top (y1 := nI 8) (by decide) ?_
  refine xp_s rfl rfl rfl rfl rfl ?_
  refine xp_top (y1 := nI 16) (by decide) ?_
  refine xp_s rfl rfl rfl rfl rfl ?_
  refine xp_s rfl rfl rfl rfl rfl ?_
  refine xp_s rfl rfl rfl rfl rfl ?_
  refine xp_e rfl rfl (if_pos rfl) ?_
  rfl
theorem eb_10 {A : xi_H} {n fr lo : Nat} (p q r s t : Int32) : xi_go xi_ms (n + 60) 48 fr lo 0 (lv_args 0 [.int (nI 10), .int p, .int q, .int r, .int s, .int t]) [] A = some (.returned (some (.int (tx_b r 8))), A) := by
  show xg_P (fun x => x = some (.returned (some (.int (tx_b r 8))), A)) _
  refine xp_s rfl rfl rfl rfl rfl ?_
  refine xp_s rfl rfl rfl rfl rfl ?_
  refine xp_s (pc2 := 9) rfl rfl rfl rfl (if_pos (by decide)) ?_
  refine xp_s rfl rfl rfl rfl rfl ?_
  refine xp_s rfl rfl rfl rfl rfl ?_
  refine xp_s (pc2 := 19) rfl rfl rfl rfl (if_pos (by decide)) ?_
  refine xp_s rfl rfl rfl rfl rfl ?_
  refine xp_s rfl rfl rfl rfl rfl ?_
  refine xp_s (pc2 := 25) rfl rfl rfl rfl (if_neg (by decide)) ?_
  refine xp_s rfl rfl rfl rfl rfl ?_
  refine xp_s rfl rfl rfl rfl rfl ?_
  refine xp_s rfl rfl rfl rfl rfl ?_
  refine xp_s rfl rfl rfl rfl rfl ?_
  refine xp_s rfl rfl rfl rfl rfl ?_
  refine xp_s rfl rfl rfl rfl rfl ?_
  refine xp_s rfl rfl rfl rfl rfl ?_
  refine xp_s rfl rfl rfl rfl rfl ?_
  refine xp_irem (v := 2) rfl rfl (by decide) (by decide) ?_
  refine xp_s rfl rfl rfl rfl rfl ?_
  refine xp_top (y1 := nI 16) (by decide) ?_
  refine xp_s rfl rfl rfl rfl rfl ?_
  refine xp_top (y1 := nI 8) (by decide) ?_
  refine xp_s rfl rfl rfl rfl rfl ?_
  refine xp_s rfl rfl rfl rfl rfl ?_
  refine xp_s rfl rfl rfl rfl rfl ?_
  refine xp_e rfl rfl (if_pos rfl) ?_
  rfl
theorem eb_11 {A : xi_H} {n fr lo : Nat} (p q r s t : Int32) : xi_go xi_ms (n + 60) 48 fr lo 0 (lv_args 0 [.int (nI 11), .int p, .int q, .int r, .int s, .int t]) [] A = some (.returned (some (.int (tx_b r 0))), A) := by
  show xg_P (fun x => x = some (.returned (some (.int (tx_b r 0))), A)) _
  refine xp_s rfl rfl rfl rfl rfl ?_
  refine xp_s rfl rfl rfl rfl rfl ?_
  refine xp_s (pc2 := 9) rfl rfl rfl rfl (if_pos (by decide)) ?_
  refine xp_s rfl rfl rfl rfl rfl ?_
  refine xp_s rfl rfl rfl rfl rfl ?_
  refine xp_s (pc2 := 19) rfl rfl rfl rfl (if_pos (by decide)) ?_
  refine xp_s rfl rfl rfl rfl rfl ?_
  refine xp_s rfl rfl rfl rfl rfl ?_
  refine xp_s (pc2 := 25) rfl rfl rfl rfl (if_neg (by decide)) ?_
  refine xp_s rfl rfl rfl rfl rfl ?_
  refine xp_s rfl rfl rfl rfl rfl ?_
  refine xp_s rfl rfl rfl rfl rfl ?_
  refine xp_s rfl rfl rfl rfl rfl ?_
  refine xp_s rfl rfl rfl rfl rfl ?_
  refine xp_s rfl rfl rfl rfl rfl ?_
  refine xp_s rfl rfl rfl rfl rfl ?_
  refine xp_s rfl rfl rfl rfl rfl ?_
  refine xp_irem (v := 3) rfl rfl (by decide) (by decide) ?_
  refine xp_s rfl rfl rfl rfl rfl ?_
  refine xp_top (y1 := nI 24) (by decide) ?_
  refine xp_s rfl rfl rfl rfl rfl ?_
  refine xp_top (y1 := nI 0) (by decide) ?_
  refine xp_s rfl rfl rfl rfl rfl ?_
  refine xp_s rfl rfl rfl rfl rfl ?_
  refine xp_s rfl rfl rfl rfl rfl ?_
  refine xp_e rfl rfl (if_pos rfl) ?_
  rfl
theorem eb_12 {A : xi_H} {n fr lo : Nat} (p q r s t : Int32) : xi_go xi_ms (n + 60) 48 fr lo 0 (lv_args 0 [.int (nI 12), .int p, .int q, .int r, .int s, .int t]) [] A = some (.returned (some (.int (tx_b s 24))), A) := by
  show xg_P (fun x => x = some (.returned (some (.int (tx_b s 24))), A)) _
  refine xp_s rfl rfl rfl rfl rfl ?_
  refine xp_s rfl rfl rfl rfl rfl ?_
  refine xp_s (pc2 := 9) rfl rfl rfl rfl (if_pos (by decide)) ?_
  refine xp_s rfl rfl rfl rfl rfl ?_
  refine xp_s rfl rfl rfl rfl rfl ?_
  refine xp_s (pc2 := 19) rfl rfl rfl rfl (if_pos (by decide)) ?_
  refine xp_s rfl rfl rfl rfl rfl ?_
  refine xp_s rfl rfl rfl rfl rfl ?_
  refine xp_s (pc2 := 29) rfl rfl rfl rfl (if_pos (by decide)) ?_
  refine xp_s rfl rfl rfl rfl rfl ?_
  refine xp_s rfl rfl rfl rfl rfl ?_
  refine xp_s (pc2 := 35) rfl rfl rfl rfl (if_neg (by decide)) ?_
  refine xp_s rfl rfl rfl rfl rfl ?_
  refine xp_s rfl rfl rfl rfl rfl ?_
  refine xp_s rfl rfl rfl rfl rfl ?_
  refine xp_s rfl rfl rfl rfl rfl ?_
  refine xp_s rfl rfl rfl rfl rfl ?_
  refine xp_s rfl rfl rfl rfl rfl ?_
  refine xp_s rfl rfl rfl rfl rfl ?_
  refine xp_s rfl rfl rfl rfl rfl ?_
  refine xp_irem (v := 0) rfl rfl (by decide) (by decide) ?_
  refine xp_s rfl rfl rfl rfl rfl ?_
  refine xp_top (y1 := nI 0) (by decide) ?_
  refine xp_s rfl rfl rfl rfl rfl ?_
  refine xp_top (y1 := nI 24) (by decide) ?_
  refine xp_s rfl rfl rfl rfl rfl ?_
  refine xp_s rfl rfl rfl rfl rfl ?_
  refine xp_s rfl rfl rfl rfl rfl ?_
  refine xp_e rfl rfl (if_pos rfl) ?_
  rfl
theorem eb_13 {A : xi_H} {n fr lo : Nat} (p q r s t : Int32) : xi_go xi_ms (n + 60) 48 fr lo 0 (lv_args 0 [.int (nI 13), .int p, .int q, .int r, .int s, .int t]) [] A = some (.returned (some (.int (tx_b s 16))), A) := by
  show xg_P (fun x => x = some (.returned (some (.int (tx_b s 16))), A)) _
  refine xp_s rfl rfl rfl rfl rfl ?_
  refine xp_s rfl rfl rfl rfl rfl ?_
  refine xp_s (pc2 := 9) rfl rfl rfl rfl (if_pos (by decide)) ?_
  refine xp_s rfl rfl rfl rfl rfl ?_
  refine xp_s rfl rfl rfl rfl rfl ?_
  refine xp_s (pc2 := 19) rfl rfl rfl rfl (if_pos (by decide)) ?_
  refine xp_s rfl rfl rfl rfl rfl ?_
  refine xp_s rfl rfl rfl rfl rfl ?_
  refine xp_s (pc2 := 29) rfl rfl rfl rfl (if_pos (by decide)) ?_
  refine xp_s rfl rfl rfl rfl rfl ?_
  refine xp_s rfl rfl rfl rfl rfl ?_
  refine xp_s (pc2 := 35) rfl rfl rfl rfl (if_neg (by decide)) ?_
  refine xp_s rfl rfl rfl rfl rfl ?_
  refine xp_s rfl rfl rfl rfl rfl ?_
  refine xp_s rfl rfl rfl rfl rfl ?_
  refine xp_s rfl rfl rfl rfl rfl ?_
  refine xp_s rfl rfl rfl rfl rfl ?_
  refine xp_s rfl rfl rfl rfl rfl ?_
  refine xp_s rfl rfl rfl rfl rfl ?_
  refine xp_s rfl rfl rfl rfl rfl ?_
  refine xp_irem (v := 1) rfl rfl (by decide) (by decide) ?_
  refine xp_s rfl rfl rfl rfl rfl ?_
  refine xp_top (y1 := nI 8) (by decide) ?_
  refine xp_s rfl rfl rfl rfl rfl ?_
  refine xp_top (y1 := nI 16) (by decide) ?_
  refine xp_s rfl rfl rfl rfl rfl ?_
  refine xp_s rfl rfl rfl rfl rfl ?_
  refine xp_s rfl rfl rfl rfl rfl ?_
  refine xp_e rfl rfl (if_pos rfl) ?_
  rfl
theorem eb_14 {A : xi_H} {n fr lo : Nat} (p q r s t : Int32) : xi_go xi_ms (n + 60) 48 fr lo 0 (lv_args 0 [.int (nI 14), .int p, .int q, .int r, .int s, .int t]) [] A = some (.returned (some (.int (tx_b s 8))), A) := by
  show xg_P (fun x => x = some (.returned (some (.int (tx_b s 8))), A)) _
  refine xp_s rfl rfl rfl rfl rfl ?_
  refine xp_s rfl rfl rfl rfl rfl ?_
  refine xp_s (pc2 := 9) rfl rfl rfl rfl (if_pos (by decide)) ?_
  refine xp_s rfl rfl rfl rfl rfl ?_
  refine xp_s rfl rfl rfl rfl rfl ?_
  refine xp_s (pc2 := 19) rfl rfl rfl rfl (if_pos (by decide)) ?_
  refine xp_s rfl rfl rfl rfl rfl ?_
  refine xp_s rfl rfl rfl rfl rfl ?_
  refine xp_s (pc2 := 29) rfl rfl rfl rfl (if_pos (by decide)) ?_
  refine xp_s rfl rfl rfl rfl rfl ?_
  refine xp_s rfl rfl rfl rfl rfl ?_
  refine xp_s (pc2 := 35) rfl rfl rfl rfl (if_neg (by decide)) ?_
  refine xp_s rfl rfl rfl rfl rfl ?_
  refine xp_s rfl rfl rfl rfl rfl ?_
  refine xp_s rfl rfl rfl rfl rfl ?_
  refine xp_s rfl rfl rfl rfl rfl ?_
  refine xp_s rfl rfl rfl rfl rfl ?_
  refine xp_s rfl rfl rfl rfl rfl ?_
  refine xp_s rfl rfl rfl rfl rfl ?_
  refine xp_s rfl rfl rfl rfl rfl ?_
  refine xp_irem (v := 2) rfl rfl (by decide) (by decide) ?_
  refine xp_s rfl rfl rfl rfl rfl ?_
  refine xp_top (y1 := nI 16) (by decide) ?_
  refine xp_s rfl rfl rfl rfl rfl ?_
  refine xp_top (y1 := nI 8) (by decide) ?_
  refine xp_s rfl rfl rfl rfl rfl ?_
  refine xp_s rfl rfl rfl rfl rfl ?_
  refine xp_s rfl rfl rfl rfl rfl ?_
  refine xp_e rfl rfl (if_pos rfl) ?_
  rfl
theorem eb_15 {A : xi_H} {n fr lo : Nat} (p q r s t : Int32) : xi_go xi_ms (n + 60) 48 fr lo 0 (lv_args 0 [.int (nI 15), .int p, .int q, .int r, .int s, .int t]) [] A = some (.returned (some (.int (tx_b s 0))), A) := by
  show xg_P (fun x => x = some (.returned (some (.int (tx_b s 0))), A)) _
  refine xp_s rfl rfl rfl rfl rfl ?_
  refine xp_s rfl rfl rfl rfl rfl ?_
  refine xp_s (pc2 := 9) rfl rfl rfl rfl (if_pos (by decide)) ?_
  refine xp_s rfl rfl rfl rfl rfl ?_
  refine xp_s rfl rfl rfl rfl rfl ?_
  refine xp_s (pc2 := 19) rfl rfl rfl rfl (if_pos (by decide)) ?_
  refine xp_s rfl rfl rfl rfl rfl ?_
  refine xp_s rfl rfl rfl rfl rfl ?_
  refine xp_s (pc2 := 29) rfl rfl rfl rfl (if_pos (by decide)) ?_
  refine xp_s rfl rfl rfl rfl rfl ?_
  refine xp_s rfl rfl rfl rfl rfl ?_
  refine xp_s (pc2 := 35) rfl rfl rfl rfl (if_neg (by decide)) ?_
  refine xp_s rfl rfl rfl rfl rfl ?_
  refine xp_s rfl rfl rfl rfl rfl ?_
  refine xp_s rfl rfl rfl rfl rfl ?_
  refine xp_s rfl rfl rfl rfl rfl ?_
  refine xp_s rfl rfl rfl rfl rfl ?_
  refine xp_s rfl rfl rfl rfl rfl ?_
  refine xp_s rfl rfl rfl rfl rfl ?_
  refine xp_s rfl rfl rfl rfl rfl ?_
  refine xp_irem (v := 3) rfl rfl (by decide) (by decide) ?_
  refine xp_s rfl rfl rfl rfl rfl ?_
  refine xp_top (y1 := nI 24) (by decide) ?_
  refine xp_s rfl rfl rfl rfl rfl ?_
  refine xp_top (y1 := nI 0) (by decide) ?_
  refine xp_s rfl rfl rfl rfl rfl ?_
  refine xp_s rfl rfl rfl rfl rfl ?_
  refine xp_s rfl rfl rfl rfl rfl ?_
  refine xp_e rfl rfl (if_pos rfl) ?_
  rfl
theorem eb_16 {A : xi_H} {n fr lo : Nat} (p q r s t : Int32) : xi_go xi_ms (n + 60) 48 fr lo 0 (lv_args 0 [.int (nI 16), .int p, .int q, .int r, .int s, .int t]) [] A = some (.returned (some (.int (tx_b t 24))), A) := by
  show xg_P (fun x => x = some (.returned (some (.int (tx_b t 24))), A)) _
  refine xp_s rfl rfl rfl rfl rfl ?_
  refine xp_s rfl rfl rfl rfl rfl ?_
  refine xp_s (pc2 := 9) rfl rfl rfl rfl (if_pos (by decide)) ?_
  refine xp_s rfl rfl rfl rfl rfl ?_
  refine xp_s rfl rfl rfl rfl rfl ?_
  refine xp_s (pc2 := 19) rfl rfl rfl rfl (if_pos (by decide)) ?_
  refine xp_s rfl rfl rfl rfl rfl ?_
  refine xp_s rfl rfl rfl rfl rfl ?_
  refine xp_s (pc2 := 29) rfl rfl rfl rfl (if_pos (by decide)) ?_
  refine xp_s rfl rfl rfl rfl rfl ?_
  refine xp_s rfl rfl rfl rfl rfl ?_
  refine xp_s (pc2 := 40) rfl rfl rfl rfl (if_pos (by decide)) ?_
  refine xp_s rfl rfl rfl rfl rfl ?_
  refine xp_s rfl rfl rfl rfl rfl ?_
  refine xp_s rfl rfl rfl rfl rfl ?_
  refine xp_s rfl rfl rfl rfl rfl ?_
  refine xp_s rfl rfl rfl rfl rfl ?_
  refine xp_s rfl rfl rfl rfl rfl ?_
  refine xp_s rfl rfl rfl rfl rfl ?_
  refine xp_irem (v := 0) rfl rfl (by decide) (by decide) ?_
  refine xp_s rfl rfl rfl rfl rfl ?_
  refine xp_top (y1 := nI 0) (by decide) ?_
  refine xp_s rfl rfl rfl rfl rfl ?_
  refine xp_top (y1 := nI 24) (by decide) ?_
  refine xp_s rfl rfl rfl rfl rfl ?_
  refine xp_s rfl rfl rfl rfl rfl ?_
  refine xp_s rfl rfl rfl rfl rfl ?_
  refine xp_e rfl rfl (if_pos rfl) ?_
  rfl
theorem eb_17 {A : xi_H} {n fr lo : Nat} (p q r s t : Int32) : xi_go xi_ms (n + 60) 48 fr lo 0 (lv_args 0 [.int (nI 17), .int p, .int q, .int r, .int s, .int t]) [] A = some (.returned (some (.int (tx_b t 16))), A) := by
  show xg_P (fun x => x = some (.returned (some (.int (tx_b t 16))), A)) _
  refine xp_s rfl rfl rfl rfl rfl ?_
  refine xp_s rfl rfl rfl rfl rfl ?_
  refine xp_s (pc2 := 9) rfl rfl rfl rfl (if_pos (by decide)) ?_
  refine xp_s rfl rfl rfl rfl rfl ?_
  refine xp_s rfl rfl rfl rfl rfl ?_
  refine xp_s (pc2 := 19) rfl rfl rfl rfl (if_pos (by decide)) ?_
  refine xp_s rfl rfl rfl rfl rfl ?_
  refine xp_s rfl rfl rfl rfl rfl ?_
  refine xp_s (pc2 := 29) rfl rfl rfl rfl (if_pos (by decide)) ?_
  refine xp_s rfl rfl rfl rfl rfl ?_
  refine xp_s rfl rfl rfl rfl rfl ?_
  refine xp_s (pc2 := 40) rfl rfl rfl rfl (if_pos (by decide)) ?_
  refine xp_s rfl rfl rfl rfl rfl ?_
  refine xp_s rfl rfl rfl rfl rfl ?_
  refine xp_s rfl rfl rfl rfl rfl ?_
  refine xp_s rfl rfl rfl rfl rfl ?_
  refine xp_s rfl rfl rfl rfl rfl ?_
  refine xp_s rfl rfl rfl rfl rfl ?_
  refine xp_s rfl rfl rfl rfl rfl ?_
  refine xp_irem (v := 1) rfl rfl (by decide) (by decide) ?_
  refine xp_s rfl rfl rfl rfl rfl ?_
  refine xp_top (y1 := nI 8) (by decide) ?_
  refine xp_s rfl rfl rfl rfl rfl ?_
  refine xp_top (y1 := nI 16) (by decide) ?_
  refine xp_s rfl rfl rfl rfl rfl ?_
  refine xp_s rfl rfl rfl rfl rfl ?_
  refine xp_s rfl rfl rfl rfl rfl ?_
  refine xp_e rfl rfl (if_pos rfl) ?_
  rfl
theorem eb_18 {A : xi_H} {n fr lo : Nat} (p q r s t : Int32) : xi_go xi_ms (n + 60) 48 fr lo 0 (lv_args 0 [.int (nI 18), .int p, .int q, .int r, .int s, .int t]) [] A = some (.returned (some (.int (tx_b t 8))), A) := by
  show xg_P (fun x => x = some (.returned (some (.int (tx_b t 8))), A)) _
  refine xp_s rfl rfl rfl rfl rfl ?_
  refine xp_s rfl rfl rfl rfl rfl ?_
  refine xp_s (pc2 := 9) rfl rfl rfl rfl (if_pos (by decide)) ?_
  refine xp_s rfl rfl rfl rfl rfl ?_
  refine xp_s rfl rfl rfl rfl rfl ?_
  refine xp_s (pc2 := 19) rfl rfl rfl rfl (if_pos (by decide)) ?_
  refine xp_s rfl rfl rfl rfl rfl ?_
  refine xp_s rfl rfl rfl rfl rfl ?_
  refine xp_s (pc2 := 29) rfl rfl rfl rfl (if_pos (by decide)) ?_
  refine xp_s rfl rfl rfl rfl rfl ?_
  refine xp_s rfl rfl rfl rfl rfl ?_
  refine xp_s (pc2 := 40) rfl rfl rfl rfl (if_pos (by decide)) ?_
  refine xp_s rfl rfl rfl rfl rfl ?_
  refine xp_s rfl rfl rfl rfl rfl ?_
  refine xp_s rfl rfl rfl rfl rfl ?_
  refine xp_s rfl rfl rfl rfl rfl ?_
  refine xp_s rfl rfl rfl rfl rfl ?_
  refine xp_s rfl rfl rfl rfl rfl ?_
  refine xp_s rfl rfl rfl rfl rfl ?_
  refine xp_irem (v := 2) rfl rfl (by decide) (by decide) ?_
  refine xp_s rfl rfl rfl rfl rfl ?_
  refine xp_top (y1 := nI 16) (by decide) ?_
  refine xp_s rfl rfl rfl rfl rfl ?_
  refine xp_top (y1 := nI 8) (by decide) ?_
  refine xp_s rfl rfl rfl rfl rfl ?_
  refine xp_s rfl rfl rfl rfl rfl ?_
  refine xp_s rfl rfl rfl rfl rfl ?_
  refine xp_e rfl rfl (if_pos rfl) ?_
  rfl
theorem eb_19 {A : xi_H} {n fr lo : Nat} (p q r s t : Int32) : xi_go xi_ms (n + 60) 48 fr lo 0 (lv_args 0 [.int (nI 19), .int p, .int q, .int r, .int s, .int t]) [] A = some (.returned (some (.int (tx_b t 0))), A) := by
  show xg_P (fun x => x = some (.returned (some (.int (tx_b t 0))), A)) _
  refine xp_s rfl rfl rfl rfl rfl ?_
  refine xp_s rfl rfl rfl rfl rfl ?_
  refine xp_s (pc2 := 9) rfl rfl rfl rfl (if_pos (by decide)) ?_
  refine xp_s rfl rfl rfl rfl rfl ?_
  refine xp_s rfl rfl rfl rfl rfl ?_
  refine xp_s (pc2 := 19) rfl rfl rfl rfl (if_pos (by decide)) ?_
  refine xp_s rfl rfl rfl rfl rfl ?_
  refine xp_s rfl rfl rfl rfl rfl ?_
  refine xp_s (pc2 := 29) rfl rfl rfl rfl (if_pos (by decide)) ?_
  refine xp_s rfl rfl rfl rfl rfl ?_
  refine xp_s rfl rfl rfl rfl rfl ?_
  refine xp_s (pc2 := 40) rfl rfl rfl rfl (if_pos (by decide)) ?_
  refine xp_s rfl rfl rfl rfl rfl ?_
  refine xp_s rfl rfl rfl rfl rfl ?_
  refine xp_s rfl rfl rfl rfl rfl ?_
  refine xp_s rfl rfl rfl rfl rfl ?_
  refine xp_s rfl rfl rfl rfl rfl ?_
  refine xp_s rfl rfl rfl rfl rfl ?_
  refine xp_s rfl rfl rfl rfl rfl ?_
  refine xp_irem (v := 3) rfl rfl (by decide) (by decide) ?_
  refine xp_s rfl rfl rfl rfl rfl ?_
  refine xp_top (y1 := nI 24) (by decide) ?_
  refine xp_s rfl rfl rfl rfl rfl ?_
  refine xp_top (y1 := nI 0) (by decide) ?_
  refine xp_s rfl rfl rfl rfl rfl ?_
  refine xp_s rfl rfl rfl rfl rfl ?_
  refine xp_s rfl rfl rfl rfl rfl ?_
  refine xp_e rfl rfl (if_pos rfl) ?_
  rfl
theorem eb {A : xi_H} {n fr lo : Nat} (p q r s t : Int32) : ∀ i : Nat, i < 20 → xi_go xi_ms (n + 60) 48 fr lo 0 (lv_args 0 [.int (nI i), .int p, .int q, .int r, .int s, .int t]) [] A = some (.returned (some (.int (tx_k p q r s t i))), A)
  | 0, _ => eb_0 p q r s t
  | 1, _ => eb_1 p q r s t
  | 2, _ => eb_2 p q r s t
  | 3, _ => eb_3 p q r s t
  | 4, _ => eb_4 p q r s t
  | 5, _ => eb_5 p q r s t
  | 6, _ => eb_6 p q r s t
  | 7, _ => eb_7 p q r s t
  | 8, _ => eb_8 p q r s t
  | 9, _ => eb_9 p q r s t
  | 10, _ => eb_10 p q r s t
  | 11, _ => eb_11 p q r s t
  | 12, _ => eb_12 p q r s t
  | 13, _ => eb_13 p q r s t
  | 14, _ => eb_14 p q r s t
  | 15, _ => eb_15 p q r s t
  | 16, _ => eb_16 p q r s t
  | 17, _ => eb_17 p q r s t
  | 18, _ => eb_18 p q r s t
  | 19, _ => eb_19 p q r s t
  | i + 20, h => absurd h (by omega)
end
section
theorem tx_le31 {b : Int32} : b ≤ 31 ↔ ¬ 31 < b := by
  rw [Int32.le_iff_toInt_le, Int32.lt_iff_toInt_lt]
  omega
theorem tx_ge127 {b : Int32} : 127 ≤ b ↔ ¬ b < 127 := by
  rw [Int32.le_iff_toInt_le, Int32.lt_iff_toInt_lt]
  omega
theorem tx_end1 {P : Option (Outcome × xi_H) → Prop} (hP : ¬ P none) {A : xi_H} {n d : Nat} {i mm mm2 : Nat} {g1 : Int32} {gd : Bool} {m1 b p q r s t : Int32} (hm1 : m1 = nI mm2) (hg1 : g1 = tx_i gd)
    (hk : xg_P P (xi_go xi_ms n 47 15 560 14 ((8, .int (nI (i + 1))) :: (7, .int (tx_i gd)) :: (6, .int (nI mm2)) :: (9, .int b) :: lv_args 0 [.ref 344, .int p, .int q, .int r, .int s, .int t]) [] A)) :
    xg_P P (xi_go xi_ms (n + d + 2) 47 15 560 81 ((7, .int g1) :: (6, .int m1) :: (9, .int b) :: (8, .int (nI i)) :: lv_args 0 [.ref 344, .int p, .int q, .int r, .int s, .int t]) [] A) := by
  subst hm1
  subst hg1
  refine xp_s rfl rfl rfl rfl rfl ?_
  refine xp_s rfl rfl rfl rfl rfl ?_
  rw [nI_succ] at hk
  exact xp_fuel hP (k := d) hk
theorem em_iterF {P : Option (Outcome × xi_H) → Prop} (hP : ¬ P none) {A : xi_H} {n i mm : Nat} {fs : List Value} (hm : A[344]? = some (.inr (13, fs))) (hi : i < 20) {gd : Bool} {p q r s t : Int32}
    (hk : ∀ mm2, mm2 ≤ mm + 1 → xg_P P (xi_go xi_ms n 47 15 560 14 ((8, .int (nI (i + 1))) :: (7, .int (tx_i (gd && tx_g (tx_k p q r s t i)))) :: (6, .int (nI mm2)) :: (9, .int (tx_k p q r s t i)) :: lv_args 0 [.ref 344, .int p, .int q, .int r, .int s, .int t]) [] A)) :
    xg_P P (xi_go xi_ms (n + 100) 47 15 560 14 ((8, .int (nI i)) :: (7, .int (tx_i gd)) :: (6, .int (nI mm)) :: lv_args 0 [.ref 344, .int p, .int q, .int r, .int s, .int t]) [] A) := by
  refine xp_s rfl rfl rfl rfl rfl ?_
  refine xp_s rfl rfl rfl rfl rfl ?_
  refine xp_s (pc2 := 21) rfl rfl rfl rfl (if_neg (nI_ge hi (by omega))) ?_
  refine xp_s rfl rfl rfl rfl rfl ?_
  refine xp_s rfl rfl rfl rfl rfl ?_
  refine xp_s rfl rfl rfl rfl rfl ?_
  refine xp_s rfl rfl rfl rfl rfl ?_
  refine xp_s rfl rfl rfl rfl rfl ?_
  refine xp_s rfl rfl rfl rfl rfl ?_
  refine xp_S (As := [_, _, _, _, _, _]) (rest := []) rfl rfl rfl rfl rfl (xi_pos hm) ⟨⟨Nat.le_of_ble_eq_true rfl, by decide⟩, by decide, Nat.le_of_ble_eq_true rfl, rfl⟩ ?_
  refine xp_of (eb (n := n + 30) p q r s t i hi) ⟨_, _, rfl, ?_⟩
  generalize hbe : tx_k p q r s t i = b at hk ⊢
  refine xp_s rfl rfl rfl rfl rfl ?_
  refine xp_s rfl rfl rfl rfl rfl ?_
  refine xp_s rfl rfl rfl rfl rfl ?_
  by_cases hb : b = 0
  · refine xp_s (pc2 := 42) rfl rfl rfl rfl (if_neg (fun q => q hb)) ?_
    refine xp_s rfl rfl rfl rfl rfl ?_
    refine xp_s rfl rfl rfl rfl rfl ?_
    refine xp_s rfl rfl rfl rfl rfl ?_
    refine xp_s rfl rfl rfl rfl rfl ?_
    refine xp_s rfl rfl rfl rfl rfl ?_
    cases gd with
    | false =>
      refine xp_s (pc2 := 78) rfl rfl rfl rfl (if_pos (by decide)) ?_
      refine xp_s rfl rfl rfl rfl rfl ?_
      refine xp_s rfl rfl rfl rfl rfl ?_
      exact tx_end1 hP (mm := mm) (mm2 := mm) (d := 76) (Int32.add_zero (nI mm)) (by simp; rfl) (hk mm (by omega))
    | true =>
      refine xp_s (pc2 := 55) rfl rfl rfl rfl (if_neg (by decide)) ?_
      refine xp_s rfl rfl rfl rfl rfl ?_
      refine xp_s (pc2 := 74) rfl rfl rfl rfl (if_pos hb) ?_
      refine xp_s rfl rfl rfl rfl rfl ?_
      refine xp_s rfl rfl rfl rfl rfl ?_
      refine xp_s rfl rfl rfl rfl rfl ?_
      exact tx_end1 hP (mm := mm) (mm2 := mm) (d := 73) (Int32.add_zero (nI mm)) (by simp [tx_g, hb]; rfl) (hk mm (by omega))
  · refine xp_s (pc2 := 46) rfl rfl rfl rfl (if_pos hb) ?_
    refine xp_s rfl rfl rfl rfl rfl ?_
    refine xp_s rfl rfl rfl rfl rfl ?_
    refine xp_s rfl rfl rfl rfl rfl ?_
    refine xp_s rfl rfl rfl rfl rfl ?_
    cases gd with
    | false =>
      refine xp_s (pc2 := 78) rfl rfl rfl rfl (if_pos (by decide)) ?_
      refine xp_s rfl rfl rfl rfl rfl ?_
      refine xp_s rfl rfl rfl rfl rfl ?_
      exact tx_end1 hP (mm := mm) (mm2 := mm + 1) (d := 77) (by rw [nI_succ]; rfl) (by simp; rfl) (hk (mm + 1) (by omega))
    | true =>
      refine xp_s (pc2 := 55) rfl rfl rfl rfl (if_neg (by decide)) ?_
      refine xp_s rfl rfl rfl rfl rfl ?_
      refine xp_s (pc2 := 60) rfl rfl rfl rfl (if_neg hb) ?_
      refine xp_s rfl rfl rfl rfl rfl ?_
      refine xp_s rfl rfl rfl rfl rfl ?_
      by_cases h31 : 31 < b
      · refine xp_s (pc2 := 67) rfl rfl rfl rfl (if_neg (fun q => (tx_le31.mp q) h31)) ?_
        refine xp_s rfl rfl rfl rfl rfl ?_
        refine xp_s rfl rfl rfl rfl rfl ?_
        by_cases h127 : b < 127
        · refine xp_s (pc2 := 74) rfl rfl rfl rfl (if_neg (fun q => (tx_ge127.mp q) h127)) ?_
          refine xp_s rfl rfl rfl rfl rfl ?_
          refine xp_s rfl rfl rfl rfl rfl ?_
          refine xp_s rfl rfl rfl rfl rfl ?_
          exact tx_end1 hP (mm := mm) (mm2 := mm + 1) (d := 68) (by rw [nI_succ]; rfl) (by simp [tx_g, h31, h127]; rfl) (hk (mm + 1) (by omega))
        · refine xp_s (pc2 := 78) rfl rfl rfl rfl (if_pos (tx_ge127.mpr h127)) ?_
          refine xp_s rfl rfl rfl rfl rfl ?_
          refine xp_s rfl rfl rfl rfl rfl ?_
          exact tx_end1 hP (mm := mm) (mm2 := mm + 1) (d := 69) (by rw [nI_succ]; rfl) (by simp [tx_g, hb, h127]; rfl) (hk (mm + 1) (by omega))
      · refine xp_s (pc2 := 78) rfl rfl rfl rfl (if_pos (tx_le31.mpr h31)) ?_
        refine xp_s rfl rfl rfl rfl rfl ?_
        refine xp_s rfl rfl rfl rfl rfl ?_
        exact tx_end1 hP (mm := mm) (mm2 := mm + 1) (d := 72) (by rw [nI_succ]; rfl) (by simp [tx_g, hb, h31]; rfl) (hk (mm + 1) (by omega))
theorem em_iterN {P : Option (Outcome × xi_H) → Prop} (hP : ¬ P none) {A : xi_H} {n i mm : Nat} {fs : List Value} (hm : A[344]? = some (.inr (13, fs))) (hi : i < 20) {gd : Bool} {c p q r s t : Int32}
    (hk : ∀ mm2, mm2 ≤ mm + 1 → xg_P P (xi_go xi_ms n 47 15 560 14 ((8, .int (nI (i + 1))) :: (7, .int (tx_i (gd && tx_g (tx_k p q r s t i)))) :: (6, .int (nI mm2)) :: (9, .int (tx_k p q r s t i)) :: lv_args 0 [.ref 344, .int p, .int q, .int r, .int s, .int t]) [] A)) :
    xg_P P (xi_go xi_ms (n + 100) 47 15 560 14 ((8, .int (nI i)) :: (7, .int (tx_i gd)) :: (6, .int (nI mm)) :: (9, .int c) :: lv_args 0 [.ref 344, .int p, .int q, .int r, .int s, .int t]) [] A) := by
  refine xp_s rfl rfl rfl rfl rfl ?_
  refine xp_s rfl rfl rfl rfl rfl ?_
  refine xp_s (pc2 := 21) rfl rfl rfl rfl (if_neg (nI_ge hi (by omega))) ?_
  refine xp_s rfl rfl rfl rfl rfl ?_
  refine xp_s rfl rfl rfl rfl rfl ?_
  refine xp_s rfl rfl rfl rfl rfl ?_
  refine xp_s rfl rfl rfl rfl rfl ?_
  refine xp_s rfl rfl rfl rfl rfl ?_
  refine xp_s rfl rfl rfl rfl rfl ?_
  refine xp_S (As := [_, _, _, _, _, _]) (rest := []) rfl rfl rfl rfl rfl (xi_pos hm) ⟨⟨Nat.le_of_ble_eq_true rfl, by decide⟩, by decide, Nat.le_of_ble_eq_true rfl, rfl⟩ ?_
  refine xp_of (eb (n := n + 30) p q r s t i hi) ⟨_, _, rfl, ?_⟩
  generalize hbe : tx_k p q r s t i = b at hk ⊢
  refine xp_s rfl rfl rfl rfl rfl ?_
  refine xp_s rfl rfl rfl rfl rfl ?_
  refine xp_s rfl rfl rfl rfl rfl ?_
  by_cases hb : b = 0
  · refine xp_s (pc2 := 42) rfl rfl rfl rfl (if_neg (fun q => q hb)) ?_
    refine xp_s rfl rfl rfl rfl rfl ?_
    refine xp_s rfl rfl rfl rfl rfl ?_
    refine xp_s rfl rfl rfl rfl rfl ?_
    refine xp_s rfl rfl rfl rfl rfl ?_
    refine xp_s rfl rfl rfl rfl rfl ?_
    cases gd with
    | false =>
      refine xp_s (pc2 := 78) rfl rfl rfl rfl (if_pos (by decide)) ?_
      refine xp_s rfl rfl rfl rfl rfl ?_
      refine xp_s rfl rfl rfl rfl rfl ?_
      exact tx_end1 hP (mm := mm) (mm2 := mm) (d := 76) (Int32.add_zero (nI mm)) (by simp; rfl) (hk mm (by omega))
    | true =>
      refine xp_s (pc2 := 55) rfl rfl rfl rfl (if_neg (by decide)) ?_
      refine xp_s rfl rfl rfl rfl rfl ?_
      refine xp_s (pc2 := 74) rfl rfl rfl rfl (if_pos hb) ?_
      refine xp_s rfl rfl rfl rfl rfl ?_
      refine xp_s rfl rfl rfl rfl rfl ?_
      refine xp_s rfl rfl rfl rfl rfl ?_
      exact tx_end1 hP (mm := mm) (mm2 := mm) (d := 73) (Int32.add_zero (nI mm)) (by simp [tx_g, hb]; rfl) (hk mm (by omega))
  · refine xp_s (pc2 := 46) rfl rfl rfl rfl (if_pos hb) ?_
    refine xp_s rfl rfl rfl rfl rfl ?_
    refine xp_s rfl rfl rfl rfl rfl ?_
    refine xp_s rfl rfl rfl rfl rfl ?_
    refine xp_s rfl rfl rfl rfl rfl ?_
    cases gd with
    | false =>
      refine xp_s (pc2 := 78) rfl rfl rfl rfl (if_pos (by decide)) ?_
      refine xp_s rfl rfl rfl rfl rfl ?_
      refine xp_s rfl rfl rfl rfl rfl ?_
      exact tx_end1 hP (mm := mm) (mm2 := mm + 1) (d := 77) (by rw [nI_succ]; rfl) (by simp; rfl) (hk (mm + 1) (by omega))
    | true =>
      refine xp_s (pc2 := 55) rfl rfl rfl rfl (if_neg (by decide)) ?_
      refine xp_s rfl rfl rfl rfl rfl ?_
      refine xp_s (pc2 := 60) rfl rfl rfl rfl (if_neg hb) ?_
      refine xp_s rfl rfl rfl rfl rfl ?_
      refine xp_s rfl rfl rfl rfl rfl ?_
      by_cases h31 : 31 < b
      · refine xp_s (pc2 := 67) rfl rfl rfl rfl (if_neg (fun q => (tx_le31.mp q) h31)) ?_
        refine xp_s rfl rfl rfl rfl rfl ?_
        refine xp_s rfl rfl rfl rfl rfl ?_
        by_cases h127 : b < 127
        · refine xp_s (pc2 := 74) rfl rfl rfl rfl (if_neg (fun q => (tx_ge127.mp q) h127)) ?_
          refine xp_s rfl rfl rfl rfl rfl ?_
          refine xp_s rfl rfl rfl rfl rfl ?_
          refine xp_s rfl rfl rfl rfl rfl ?_
          exact tx_end1 hP (mm := mm) (mm2 := mm + 1) (d := 68) (by rw [nI_succ]; rfl) (by simp [tx_g, h31, h127]; rfl) (hk (mm + 1) (by omega))
        · refine xp_s (pc2 := 78) rfl rfl rfl rfl (if_pos (tx_ge127.mpr h127)) ?_
          refine xp_s rfl rfl rfl rfl rfl ?_
          refine xp_s rfl rfl rfl rfl rfl ?_
          exact tx_end1 hP (mm := mm) (mm2 := mm + 1) (d := 69) (by rw [nI_succ]; rfl) (by simp [tx_g, hb, h127]; rfl) (hk (mm + 1) (by omega))
      · refine xp_s (pc2 := 78) rfl rfl rfl rfl (if_pos (tx_le31.mpr h31)) ?_
        refine xp_s rfl rfl rfl rfl rfl ?_
        refine xp_s rfl rfl rfl rfl rfl ?_
        exact tx_end1 hP (mm := mm) (mm2 := mm + 1) (d := 72) (by rw [nI_succ]; rfl) (by simp [tx_g, hb, h31]; rfl) (hk (mm + 1) (by omega))
end
section
def tx_a (p q r s t : Int32) : Nat → Nat → Bool
  | _, 0 => true
  | i, d + 1 => tx_g (tx_k p q r s t i) && tx_a p q r s t (i + 1) d
theorem tx_a_all (p q r s t : Int32) : tx_a p q r s t 0 20 = (tx_4 p && (tx_4 q && (tx_4 r && (tx_4 s && tx_4 t)))) := by
  simp [tx_a, tx_k, tx_4, Bool.and_assoc]
theorem em_loop1 {P : Option (Outcome × xi_H) → Prop} (hP : ¬ P none) {A : xi_H} {n : Nat} {fs : List Value} (hm : A[344]? = some (.inr (13, fs))) {p q r s t : Int32} : ∀ (d i mm : Nat) (gd : Bool) (c : Int32), d + i = 20 → mm ≤ i →
    (∀ (m2 : Nat) (c2 : Int32), m2 ≤ 20 → xg_P P (xi_go xi_ms n 47 15 560 87 ((8, .int (nI 20)) :: (7, .int (tx_i (gd && tx_a p q r s t i d))) :: (6, .int (nI m2)) :: (9, .int c2) :: lv_args 0 [.ref 344, .int p, .int q, .int r, .int s, .int t]) [] A)) →
    xg_P P (xi_go xi_ms (n + 3 + 100 * d) 47 15 560 14 ((8, .int (nI i)) :: (7, .int (tx_i gd)) :: (6, .int (nI mm)) :: (9, .int c) :: lv_args 0 [.ref 344, .int p, .int q, .int r, .int s, .int t]) [] A) := by
  intro d
  induction d with
  | zero =>
    intro i mm gd c hd hmm hk
    have hi : i = 20 := by omega
    subst hi
    refine xp_s rfl rfl rfl rfl rfl ?_
    refine xp_s rfl rfl rfl rfl rfl ?_
    refine xp_s (pc2 := 87) rfl rfl rfl rfl (if_pos (nI_le (Nat.le_refl 20) (by omega))) ?_
    have h1 := hk mm c hmm
    rw [show (gd && tx_a p q r s t 20 0) = gd by simp [tx_a]] at h1
    exact h1
  | succ d ih =>
    intro i mm gd c hd hmm hk
    rw [show n + 3 + 100 * (d + 1) = n + 3 + 100 * d + 100 by omega]
    refine em_iterN hP hm (by omega) (fun mm2 h2 => ?_)
    refine ih (i + 1) mm2 _ _ (by omega) (by omega) (fun m2 c2 h3 => ?_)
    have h1 := hk m2 c2 h3
    rw [show (gd && tx_a p q r s t i (d + 1)) = ((gd && tx_g (tx_k p q r s t i)) && tx_a p q r s t (i + 1) d) by simp [tx_a, Bool.and_assoc]] at h1
    exact h1
def tx_M (A : xi_H) (k : Nat) : Prop := k ≤ 100 ∧ A[344]? = some (.inr (13, (e_lM.set 0 (.int 0)).set 1 (.int (nI k)))) ∧ ∃ f, A[345]? = some (.inl (0, 600, .inl f))
def tx_F2 (A A2 : xi_H) : Prop := A2.length = A.length ∧ xi_ns A2 = xi_ns A

theorem em_cpF {P : Option (Outcome × xi_H) → Prop} (hP : ¬ P none) {A : xi_H} {n i k : Nat} (hM : tx_M A k) (hi : i < 20) (hkk : k < 100) {g m c p q r s t : Int32}
    (hk : ∀ (A2 : xi_H) (k2 : Nat), tx_M A2 k2 → k2 ≤ k + 1 → tx_F2 A A2 → xg_P P (xi_go xi_ms n 47 15 560 110 ((8, .int (nI (i + 1))) :: (9, .int (tx_k p q r s t i)) :: (7, .int g) :: (6, .int m) :: lv_args 0 [.ref 344, .int p, .int q, .int r, .int s, .int t]) [] A2)) :
    xg_P P (xi_go xi_ms (n + 100) 47 15 560 110 ((8, .int (nI i)) :: (7, .int g) :: (6, .int m) :: (9, .int c) :: lv_args 0 [.ref 344, .int p, .int q, .int r, .int s, .int t]) [] A) := by
  obtain ⟨hk0, hm, f, ha⟩ := hM
  refine xp_s rfl rfl rfl rfl rfl ?_
  refine xp_s rfl rfl rfl rfl rfl ?_
  refine xp_s (pc2 := 117) rfl rfl rfl rfl (if_neg (nI_ge hi (by omega))) ?_
  refine xp_s rfl rfl rfl rfl rfl ?_
  refine xp_s rfl rfl rfl rfl rfl ?_
  refine xp_s rfl rfl rfl rfl rfl ?_
  refine xp_s rfl rfl rfl rfl rfl ?_
  refine xp_s rfl rfl rfl rfl rfl ?_
  refine xp_s rfl rfl rfl rfl rfl ?_
  refine xp_S (As := [_, _, _, _, _, _]) (rest := []) rfl rfl rfl rfl rfl (xi_pos hm) ⟨⟨Nat.le_of_ble_eq_true rfl, by decide⟩, by decide, Nat.le_of_ble_eq_true rfl, rfl⟩ ?_
  refine xp_of (eb (n := n + 30) p q r s t i hi) ⟨_, _, rfl, ?_⟩
  generalize hbe : tx_k p q r s t i = b at hk ⊢
  refine xp_s rfl rfl rfl rfl rfl ?_
  refine xp_s rfl rfl rfl rfl rfl ?_
  by_cases hb : b = 0
  · refine xp_s (pc2 := 136) rfl rfl rfl rfl (if_neg (fun q => q hb)) ?_
    refine xp_s rfl rfl rfl rfl rfl ?_
    refine xp_s rfl rfl rfl rfl rfl ?_
    refine xp_s rfl rfl rfl rfl rfl ?_
    have h1 := hk A k ⟨hk0, hm, f, ha⟩ (by omega) ⟨rfl, rfl⟩
    rw [nI_succ] at h1
    exact xp_fuel hP (k := 84) h1
  · refine xp_s (pc2 := 139) rfl rfl rfl rfl (if_pos hb) ?_
    refine xp_s rfl rfl rfl rfl rfl ?_
    refine xp_get rfl rfl hm rfl ?_
    refine xp_s rfl rfl rfl rfl rfl ?_
    refine xp_get rfl rfl hm rfl ?_
    refine xp_s rfl rfl rfl rfl rfl ?_
    refine xp_iast rfl rfl ha (nI_in (c := k) (N := 600) (by omega) (by omega)) (fun B1 hq1 hs1 hL1 hN1 => ?_)
    have hm1 := (hs1 344 (by decide)).trans hm
    refine xp_s rfl rfl rfl rfl rfl ?_
    refine xp_s rfl rfl rfl rfl rfl ?_
    refine xp_get rfl rfl hm1 rfl ?_
    refine xp_s rfl rfl rfl rfl rfl ?_
    refine xp_s rfl rfl rfl rfl rfl ?_
    refine xp_put rfl rfl hm1 (by first | decide | exact Nat.le_of_ble_eq_true rfl) rfl rfl (fun B2 hq2 hs2 hL2 hN2 => ?_)
    refine xp_s rfl rfl rfl rfl rfl ?_
    refine xp_s rfl rfl rfl rfl rfl ?_
    have h1 := hk B2 (k + 1) ⟨by omega, by rw [hq2, List.set_set, nI_succ]; rfl, _, (hs2 345 (by decide)).trans hq1⟩ (Nat.le_refl _) ⟨by omega, by omega⟩
    rw [nI_succ] at h1
    exact xp_fuel hP (k := 73) h1

theorem em_cpN {P : Option (Outcome × xi_H) → Prop} (hP : ¬ P none) {A : xi_H} {n i k : Nat} (hM : tx_M A k) (hi : i < 20) (hkk : k < 100) {g m c p q r s t : Int32}
    (hk : ∀ (A2 : xi_H) (k2 : Nat), tx_M A2 k2 → k2 ≤ k + 1 → tx_F2 A A2 → xg_P P (xi_go xi_ms n 47 15 560 110 ((8, .int (nI (i + 1))) :: (9, .int (tx_k p q r s t i)) :: (7, .int g) :: (6, .int m) :: lv_args 0 [.ref 344, .int p, .int q, .int r, .int s, .int t]) [] A2)) :
    xg_P P (xi_go xi_ms (n + 100) 47 15 560 110 ((8, .int (nI i)) :: (9, .int c) :: (7, .int g) :: (6, .int m) :: lv_args 0 [.ref 344, .int p, .int q, .int r, .int s, .int t]) [] A) := by
  obtain ⟨hk0, hm, f, ha⟩ := hM
  refine xp_s rfl rfl rfl rfl rfl ?_
  refine xp_s rfl rfl rfl rfl rfl ?_
  refine xp_s (pc2 := 117) rfl rfl rfl rfl (if_neg (nI_ge hi (by omega))) ?_
  refine xp_s rfl rfl rfl rfl rfl ?_
  refine xp_s rfl rfl rfl rfl rfl ?_
  refine xp_s rfl rfl rfl rfl rfl ?_
  refine xp_s rfl rfl rfl rfl rfl ?_
  refine xp_s rfl rfl rfl rfl rfl ?_
  refine xp_s rfl rfl rfl rfl rfl ?_
  refine xp_S (As := [_, _, _, _, _, _]) (rest := []) rfl rfl rfl rfl rfl (xi_pos hm) ⟨⟨Nat.le_of_ble_eq_true rfl, by decide⟩, by decide, Nat.le_of_ble_eq_true rfl, rfl⟩ ?_
  refine xp_of (eb (n := n + 30) p q r s t i hi) ⟨_, _, rfl, ?_⟩
  generalize hbe : tx_k p q r s t i = b at hk ⊢
  refine xp_s rfl rfl rfl rfl rfl ?_
  refine xp_s rfl rfl rfl rfl rfl ?_
  by_cases hb : b = 0
  · refine xp_s (pc2 := 136) rfl rfl rfl rfl (if_neg (fun q => q hb)) ?_
    refine xp_s rfl rfl rfl rfl rfl ?_
    refine xp_s rfl rfl rfl rfl rfl ?_
    refine xp_s rfl rfl rfl rfl rfl ?_
    have h1 := hk A k ⟨hk0, hm, f, ha⟩ (by omega) ⟨rfl, rfl⟩
    rw [nI_succ] at h1
    exact xp_fuel hP (k := 84) h1
  · refine xp_s (pc2 := 139) rfl rfl rfl rfl (if_pos hb) ?_
    refine xp_s rfl rfl rfl rfl rfl ?_
    refine xp_get rfl rfl hm rfl ?_
    refine xp_s rfl rfl rfl rfl rfl ?_
    refine xp_get rfl rfl hm rfl ?_
    refine xp_s rfl rfl rfl rfl rfl ?_
    refine xp_iast rfl rfl ha (nI_in (c := k) (N := 600) (by omega) (by omega)) (fun B1 hq1 hs1 hL1 hN1 => ?_)
    have hm1 := (hs1 344 (by decide)).trans hm
    refine xp_s rfl rfl rfl rfl rfl ?_
    refine xp_s rfl rfl rfl rfl rfl ?_
    refine xp_get rfl rfl hm1 rfl ?_
    refine xp_s rfl rfl rfl rfl rfl ?_
    refine xp_s rfl rfl rfl rfl rfl ?_
    refine xp_put rfl rfl hm1 (by first | decide | exact Nat.le_of_ble_eq_true rfl) rfl rfl (fun B2 hq2 hs2 hL2 hN2 => ?_)
    refine xp_s rfl rfl rfl rfl rfl ?_
    refine xp_s rfl rfl rfl rfl rfl ?_
    have h1 := hk B2 (k + 1) ⟨by omega, by rw [hq2, List.set_set, nI_succ]; rfl, _, (hs2 345 (by decide)).trans hq1⟩ (Nat.le_refl _) ⟨by omega, by omega⟩
    rw [nI_succ] at h1
    exact xp_fuel hP (k := 73) h1

theorem em_loop2 {P : Option (Outcome × xi_H) → Prop} (hP : ¬ P none) {n : Nat} {g m p q r s t : Int32} : ∀ (d i k : Nat) (A : xi_H) (c : Int32), d + i = 20 → k ≤ i → tx_M A k →
    (∀ (A2 : xi_H), (∃ k2, tx_M A2 k2) → tx_F2 A A2 → P (some (.returned (some (.int 1)), A2))) →
    xg_P P (xi_go xi_ms (n + 5 + 100 * d) 47 15 560 110 ((8, .int (nI i)) :: (9, .int c) :: (7, .int g) :: (6, .int m) :: lv_args 0 [.ref 344, .int p, .int q, .int r, .int s, .int t]) [] A) := by
  intro d
  induction d with
  | zero =>
    intro i k A c hd hk hM hkk
    have hi : i = 20 := by omega
    subst hi
    refine xp_s rfl rfl rfl rfl rfl ?_
    refine xp_s rfl rfl rfl rfl rfl ?_
    refine xp_s (pc2 := 166) rfl rfl rfl rfl (if_pos (nI_le (Nat.le_refl 20) (by omega))) ?_
    refine xp_s rfl rfl rfl rfl rfl ?_
    refine xp_e rfl rfl rfl ?_
    exact hkk A ⟨k, hM⟩ ⟨rfl, rfl⟩
  | succ d ih =>
    intro i k A c hd hk hM hkk
    rw [show n + 5 + 100 * (d + 1) = n + 5 + 100 * d + 100 by omega]
    refine em_cpN hP hM (by omega) (by omega) (fun A2 k2 hM2 h2 hF2 => ?_)
    refine ih (i + 1) k2 A2 _ (by omega) (by omega) hM2 (fun A3 h3 hF3 => hkk A3 h3 ⟨hF3.1.trans hF2.1, hF3.2.trans hF2.2⟩)
theorem em_text {A : xi_H} (hm : A[344]? = some (.inr (13, e_lM))) {f0 : Nat → Int32} (ha : A[345]? = some (.inl (0, 600, .inl f0))) (p q r s t : Int32) : ∃ (A2 : xi_H), xi_go xi_ms 4300 47 15 560 0 (lv_args 0 [.ref 344, .int p, .int q, .int r, .int s, .int t]) [] A = some (.returned (some (.int (tx_i (tx_4 p && (tx_4 q && (tx_4 r && (tx_4 s && tx_4 t))))))), A2) ∧ tx_F2 A A2 := by
  rw [← tx_a_all]
  have hP : ¬ (∃ (A2 : xi_H), (none : Option (Outcome × xi_H)) = some (.returned (some (.int (tx_i (tx_a p q r s t 0 20)))), A2) ∧ tx_F2 A A2) := by
    rintro ⟨_, h, _⟩
    cases h
  show xg_P (fun x => ∃ (A2 : xi_H), x = some (.returned (some (.int (tx_i (tx_a p q r s t 0 20)))), A2) ∧ tx_F2 A A2) _
  refine xp_s rfl rfl rfl rfl rfl ?_
  refine xp_s rfl rfl rfl rfl rfl ?_
  refine xp_put rfl rfl hm (by decide) rfl rfl (fun B1 hq1 hs1 hL1 hN1 => ?_)
  refine xp_s rfl rfl rfl rfl rfl ?_
  refine xp_s rfl rfl rfl rfl rfl ?_
  refine xp_s rfl rfl rfl rfl rfl ?_
  refine xp_s rfl rfl rfl rfl rfl ?_
  refine xp_s rfl rfl rfl rfl rfl ?_
  refine xp_s rfl rfl rfl rfl rfl ?_
  have ha1 := (hs1 345 (by decide)).trans ha
  refine em_iterF hP (n := 4191) (i := 0) (mm := 0) (gd := true) hq1 (by omega) (fun mm2 h2 => ?_)
  refine em_loop1 hP (n := 2288) hq1 19 1 mm2 _ _ rfl (by omega) (fun m2 c2 h3 => ?_)
  rw [show ((true && tx_g (tx_k p q r s t 0)) && tx_a p q r s t 1 19) = tx_a p q r s t 0 20 by simp [tx_a]]
  refine xp_s rfl rfl rfl rfl rfl ?_
  cases hg : tx_a p q r s t 0 20 with
  | false =>
    refine xp_s (pc2 := 105) rfl rfl rfl rfl (if_pos (by decide)) ?_
    refine xp_s rfl rfl rfl rfl rfl ?_
    refine xp_e rfl rfl rfl ?_
    exact ⟨B1, rfl, hL1, hN1⟩
  | true =>
    refine xp_s (pc2 := 92) rfl rfl rfl rfl (if_neg (by decide)) ?_
    refine xp_s rfl rfl rfl rfl rfl ?_
    refine xp_get rfl rfl hq1 rfl ?_
    refine xp_s rfl rfl rfl rfl rfl ?_
    refine xp_s rfl rfl rfl rfl rfl ?_
    refine xp_s rfl rfl rfl rfl rfl ?_
    refine xp_s (pc2 := 107) rfl rfl rfl rfl (if_pos (by rw [Int32.zero_add]; exact nI_le (b := 600) (by omega) (by omega))) ?_
    refine xp_s rfl rfl rfl rfl rfl ?_
    refine xp_s rfl rfl rfl rfl rfl ?_
    have hP2 : ¬ (∃ (A2 : xi_H), (none : Option (Outcome × xi_H)) = some (.returned (some (.int (tx_i true))), A2) ∧ tx_F2 A A2) := by
      rintro ⟨_, h, _⟩
      cases h
    refine em_cpF hP2 (n := 2178) (i := 0) (k := 0) ⟨by omega, hq1, f0, ha1⟩ (by omega) (by omega) (fun A2 k2 hM2 h2 hF2 => ?_)
    refine em_loop2 hP2 (n := 273) 19 1 k2 A2 _ rfl h2 hM2 (fun A3 h3 hF3 => ?_)
    exact ⟨A3, rfl, hF3.1.trans (hF2.1.trans hL1), hF3.2.trans (hF2.2.trans hN1)⟩
end
section
/-! A STATIC CALL OF A METHOD WITH A TABLE OF HANDLERS -/
section CW
variable {l : Launch} {R : Room} {p : Program} {e : Env} {below : List Frame} {s : State} {args : Array Value} {y : MethodName} {len W : Nat} {m : MethodId} {meth : Method} {c : Code}
theorem xi_backW {ws : List Cond} {rm : Room} {Pc : Array Value → State → Prop} {Qc : Array Value → State → Outcome → State → Prop} {mc ms : Nat} {free : Addr → Prop} {bytes : ByteArray} {maxL : Nat} {ret : Option FieldType} {hs : List (Nat × Nat × Nat × Nat)}
    (hM : Met l y ws rm Pc Qc mc ms free) (hblind : FrameBlind Pc) (hrc : rm.cells = mc) (hrs : rm.slots = ms)
    (hframes : rm.frames + 1 ≤ R.frames) (hlocals : W + (maxL + 11) + rm.locals ≤ R.locals)
    (hws : ∀ w ∈ ws, ∀ a' U, s.WarmedH U.vm → w.before a' U = true) (hcode : Cond.codeWith y bytes maxL ret hs ∈ ws) (hinit : ∀ a' U, s.WarmedH U.vm → (Cond.initialized y.cls).before a' U = true) :
    Back l R p e below s args y len W (PreOf R mc ms Pc) (PostOf Qc mc ms free) := by
  refine Back.of_freeWith (handlers := hs) (S := headSpec ws rm) (P := Pc) (K := fun _ _ _ _ _ => True) (Q := fun a st o t => Qc a st o t ∧ ∃ L, FrameEnd st o t L mc ms ∧ ∀ q ∈ L, free q.base) (bytes := bytes) (maxL := maxL) (ret := ret)
    (E := fun a st o t L k n => k = mc ∧ n = ms ∧ ∀ q ∈ L, free q.base) hM hframes hlocals ?_ ?_ (fun _ _ _ _ _ _ _ _ _ => trivial) ?_ ?_
  · intro m meth c A a X hp
    exact ⟨atoms_intro fun w hw => hws w hw _ _ X.warmed, hws _ hcode _ _ X.warmed, hinit _ _ X.warmed, by rw [show (headSpec ws rm).room.cells = mc from hrc]; exact hp.1, by rw [show (headSpec ws rm).room.slots = ms from hrs]; exact hp.2.1⟩
  · intro m meth c A a g mk X hp
    exact hblind _ _ _ _ hp.2.2
  · intro a st o t ⟨hq, L, hF, hL⟩
    exact ⟨L, mc, ms, hF, rfl, rfl, hL⟩
  · intro m meth c A a g mk v t L k n X hp hq hF ⟨e1, e2, hL⟩
    subst e1; subst e2
    exact ⟨g, mk, t, L, rfl, rfl, hq.1, rfl, hL, rfl, rfl⟩
variable {T : State} {locs : List Loc} {cells slots : Nat}
theorem xi_callW (X : Stand p l e R s m args below meth c T locs cells slots) (hexec : p.tables.exec = Jvm.exec) {own : String} {index : Nat} {y : MethodName} {bytes : ByteArray} {maxL : Nat} {ret : Option FieldType} {hs : List (Nat × Nat × Nat × Nat)}
    (hown : s.vm.findClass own = some m.cls) (hlink : (Cond.methodLink own index y).before args s = true) (hstat : (Cond.static y).before args s = true) (hinit : (Cond.initialized y.cls).before args s = true)
    (hcode : (Cond.codeWith y bytes maxL ret hs).before args s = true) (hy : y.cls ≠ "java/lang/invoke/MethodHandle" ∧ y.cls ≠ "java/lang/invoke/VarHandle")
    {W : Nat} {Pre : Pt → Array Value → Prop} {Post : Pt → Array Value → Option Value → Pt → Prop} (hK : Back l R p e below s args y 3 W Pre Post)
    {g : JFrame} (hg : g.method = m) (hsize : g.locals.size = c.maxLocals) {argsL rest : List Value} (hlen : ∀ sig, parseMethodDescriptor y.desc = some sig → argsL.length = sig.parameters.length)
    (hstack : g.stack = argsL.reverse ++ rest) (hW : 2 * g.monitorRoom + (rest.map fun v => v.category).sum ≤ W) (hdg : decode c.code g.pc = .ok (.invokestatic index, 3))
    (hpre : ∀ vm₁, s.WarmedH vm₁ → Pre ⟨T.setVm vm₁, locs, cells, slots⟩ argsL.toArray) :
    ∃ (v : Option Value) (vm₁ : Vm) (B : Pt), s.WarmedH vm₁ ∧ Stand p l e R s m args below meth c B.U B.locs B.cells B.slots ∧ Post ⟨T.setVm vm₁, locs, cells, slots⟩ argsL.toArray v B ∧
      ∀ target, Steps p.tables e below (B.U.setTop { g with pc := g.pc + 3, stack := v.toList ++ rest }) target → Steps p.tables e below (T.setTop g) target := by
  obtain ⟨mk, methM, cM, hnamed, hmethM, -, -, -, -, -, -, hsigM⟩ := Cond.codeWith_spec hcode
  have hstatic : methM.isStatic = true := Cond.static_spec hnamed hmethM hstat
  obtain ⟨kP, hkP, -⟩ := className_of_methodNamed hnamed
  have hinitP : kP.init = .initialized := Cond.initialized_spec (findClass_of_methodNamed hnamed) hkP hinit
  obtain ⟨vm₁, X₁, hstep₁⟩ := X.invokestatic hexec hown hlink hnamed hmethM hstatic hkP hinitP hy (g := g) hg (argsL := argsL) (rest := rest) (hlen _ hsigM) hstack hdg
  obtain ⟨v, B, X', hpost, hsteps⟩ := hK m meth c ⟨T.setVm vm₁, locs, cells, slots⟩ { g with stack := rest } (.invokestatic index) mk argsL.toArray X₁ hg hsize hdg hW (X₁.named hnamed) (hpre vm₁ X₁.warmed)
  exact ⟨v, vm₁, B, X₁.warmed, X', hpost, fun target h => hstep₁ _ fun acts => by rw [doInvoke_state]; exact hsteps.trans h⟩
end CW
section CX
variable {p : Program} {l : Launch} {e : Env} {R : Room} {s : State} {m : MethodId} {args : Array Value} {below : List Frame} {meth : Method} {c : Code} {Q : State → Prop} {nL b0 : Nat} {aS : Nat → Nat} {dA : Nat → ClassId} {D : va_G} {n0 s0 : Nat}
variable {A A' : xi_H} {cc : ByteArray} {own : String} {pc i : Nat} {lv : xi_L} {y : MethodName} {cy : ByteArray} {nY : Nat} {ret : Option FieldType} {fr' lo' : Nat} {v : Option Value} {As rest : List Value} {hs : List (Nat × Nat × Nat × Nat)}
theorem xs_callW (X : xi_X (p, l, e, R, s, m, args, below, meth, c, Q, nL, b0, aS, dA, D, n0, s0) cc own) (hd : decode cc pc = .ok (.invokestatic i, 3))
    (hM : xi_Met l y (.codeWith y cy nY ret hs :: xi_G) { frames := fr', cells := A'.length - A.length, slots := xi_ns A' - xi_ns A, locals := lo' } (xi_Pc b0 aS dA D As A) (xi_Qc b0 aS dA D (.returned v) A') (A'.length - A.length) (xi_ns A' - xi_ns A) (fun q => b0 ≤ q))
    (h0 : 0 < A.length) (hA1 : A.length ≤ A'.length) (hA2 : xi_ns A ≤ xi_ns A') (hE1 : A'.length - n0 ≤ R.cells) (hE2 : xi_ns A' - s0 ≤ R.slots) (hfr : fr' + 1 ≤ R.frames) (hlo : 8 + (nY + 11) + lo' ≤ R.locals)
    (hw1 : Cond.methodLink own i y ∈ xi_G) (hw2 : Cond.static y ∈ xi_G) (hw4 : Cond.initialized y.cls ∈ xi_G) (hw5 : Cond.codeWith y cy nY ret hs ∈ xi_G)
    (hy : y.cls ≠ "java/lang/invoke/MethodHandle" ∧ y.cls ≠ "java/lang/invoke/VarHandle") (hn : (parseMethodDescriptor y.desc).map (fun d => d.parameters.length) = some As.length) (h8 : (rest.map fun v => v.category).sum ≤ 8)
    (kk : xi_At (p, l, e, R, s, m, args, below, meth, c, Q, nL, b0, aS, dA, D, n0, s0) (pc + 3) lv (v.toList ++ rest) A') :
    xi_At (p, l, e, R, s, m, args, below, meth, c, Q, nL, b0, aS, dA, D, n0, s0) pc lv (As.reverse ++ rest) A := by
  obtain ⟨hx, hbb, hml, hown, hts, hK, hstr⟩ := X
  intro H locs ls hR hl T0 hT0 X0
  have hz := xi_hz h0 hR hT0 X0
  have h1 := hR.2.2.1
  have h2 := hR.2.2.2.1
  have hst : (As.reverse ++ rest).map (xi_v b0 aS) = (As.map (xi_v b0 aS)).reverse ++ rest.map (xi_v b0 aS) := by simp
  rw [hst]
  have hws : ∀ w ∈ (Cond.codeWith y cy nY ret hs :: xi_G), ∀ (a' : Array Value) (U : State), s.WarmedH U.vm → w.before a' U = true := fun w hw a' U hW => by
    have hg : w ∈ xi_G := by rcases List.mem_cons.mp hw with rfl | h
                             · exact hw5
                             · exact h
    exact word_at hW (xi_good hg) (hts w hg)
  have hB : Back l R p e below s args y 3 8 (PreOf R (A'.length - A.length) (xi_ns A' - xi_ns A) (xi_Pc b0 aS dA D As A)) (PostOf (xi_Qc b0 aS dA D (.returned v) A') (A'.length - A.length) (xi_ns A' - xi_ns A) (fun q => b0 ≤ q)) :=
    xi_backW hM.ret xi_Pc_blind rfl rfl hfr hlo hws List.mem_cons_self (fun a' U hW => word_at hW (xi_good hw4) (hts _ hw4))
  have hrun : va_Run p l e R s m args below meth c H locs (A.length - n0) (xi_ns A - s0) (A'.length - A.length) (xi_ns A' - xi_ns A) (F0 m pc ls ((As.map (xi_v b0 aS)).reverse ++ rest.map (xi_v b0 aS))) (rest.map (xi_v b0 aS)) (xi_Qc b0 aS dA D (.returned v) A' (As.map (xi_v b0 aS)).toArray) (fun q => b0 ≤ q) := by
    intro T hT X
    obtain ⟨v', vm₁, ⟨U', l2, c2, s2⟩, hW₁, X', ⟨g', mk, t, L, e1, e2, hq, h1', hL, h2', h3'⟩, st⟩ := xi_callW X hx hown (hts _ hw1) (hts _ hw2) (hts _ hw4) (hts _ hw5) hy hB (g := F0 m pc ls ((As.map (xi_v b0 aS)).reverse ++ rest.map (xi_v b0 aS))) rfl (hl.1.trans hml.symm) (argsL := As.map (xi_v b0 aS)) (rest := rest.map (xi_v b0 aS)) (fun sig h => by
        rw [h] at hn
        have h9 := Option.some.inj hn
        simp only at h9
        rw [List.length_map]
        exact h9.symm) rfl (lv_room (xi_room h8)) (by rw [hbb]; exact hd)
      (fun vm₁ hW₁ => ⟨by show A.length - n0 + (A'.length - A.length) ≤ R.cells; omega, by show xi_ns A - s0 + (xi_ns A' - xi_ns A) ≤ R.slots; omega, xi_pre hR hz hK hstr As (T.setVm vm₁) hT hW₁⟩)
    dsimp only [Pt.U, Pt.locs, Pt.cells, Pt.slots] at X' e1 e2 h1' h2' h3' st
    subst h1'; subst h2'; subst h3'
    exact ⟨v', (T.setVm vm₁).calling g' mk (As.map (xi_v b0 aS)).toArray, t, U', L, hT, X', hL, e1, e2, hq, st⟩
  exact xi_back hR hl hA1 hA2 hrun kk T0 hT0 X0
/-- its contract out of its run -/
theorem xi_contractW {Ms : List xi_M} {l : Launch} {n : Nat} (htr : ∀ e, l.admits e → e.platform.stackTraces = false) (ih : xi_S Ms l n) {cM : Nat} {Mc : xi_M} (hc : Ms[cM]? = some Mc) (hpn : plainName Mc.1.cls = true) {fr lo : Nat} {vs : List Value} {A A1 : xi_H} {o1 : Outcome} (hr : xi_go Ms n cM fr lo 0 (lv_args 0 vs) [] A = some (o1, A1)) (hw : xi_wt vs ≤ Mc.2.2.1) (b0 : Nat) (aS : Nat → Nat) (dA : Nat → ClassId) (D : va_G) :
    xi_Met l Mc.1 (.codeWith Mc.1 Mc.2.1 Mc.2.2.1 Mc.2.2.2.1 (Mc.2.2.2.2.2.map (fun (h : Nat × Nat × Nat × Nat × Nat) => (h.1, h.2.1, h.2.2.1, h.2.2.2.1))) :: xi_G) { frames := fr, cells := A1.length - A.length, slots := xi_ns A1 - xi_ns A, locals := lo } (xi_Pc b0 aS dA D vs A) (xi_Qc b0 aS dA D o1 A1) (A1.length - A.length) (xi_ns A1 - xi_ns A) (fun q => b0 ≤ q) := by
  refine xi_ofWH (cc := Mc.2.1) (maxL := Mc.2.2.1) (ret := Mc.2.2.2.1) (hs := Mc.2.2.2.2.2.map (fun (h : Nat × Nat × Nat × Nat × Nat) => (h.1, h.2.1, h.2.2.1, h.2.2.2.1))) hpn rfl ?_
  intro p e s m args below meth c s₁ B hml hv
  obtain ⟨rfl, hP, hz, hK, hSt⟩ := hv
  have hts0 := atoms_spec (ws := .codeWith Mc.1 Mc.2.1 Mc.2.2.1 Mc.2.2.2.1 (Mc.2.2.2.2.2.map (fun (h : Nat × Nat × Nat × Nat × Nat) => (h.1, h.2.1, h.2.2.1, h.2.2.2.1))) :: xi_G) B.pre
  have hts : ∀ w ∈ xi_G, w.before _ s = true := fun w hw => hts0 w (List.mem_cons_of_mem _ hw)
  have hown : s.vm.findClass Mc.1.cls = some m.cls := findClass_of_methodNamed B.named
  obtain ⟨m', meth', c', q0, q1, q2, -, -, q5, -⟩ := Cond.codeWith_spec (hts0 _ List.mem_cons_self)
  cases B.named.symm.trans q0
  cases B.method.symm.trans q1
  cases (Stand.of_body B).code.symm.trans q2
  have hl := lv_entry (vs.map (xi_v b0 aS)) (n := Mc.2.2.1) (by rw [xi_sl_len, xi_wt_v]; exact hw)
  rw [xi_args_l] at hl
  rw [lg_entry_eq]
  have k1 := ih cM Mc fr lo 0 (lv_args 0 vs) [] A o1 A1 hc hr p e s m _ below meth c b0 aS dA D A.length (xi_ns A) ⟨B.exec, B.bytes, hml, hown, hts, hK, hSt⟩ B.returns B.notSynchronized (name_of_methodNamed B.named B.method).1 q5 (htr e B.admits) s.heap [] _ ⟨hP, va_S.rf, Nat.le_refl _, Nat.le_refl _, hz⟩ hl
  rw [Nat.sub_self, Nat.sub_self] at k1
  exact k1
end CX
end
section
/-! THE START -/
def xi_inst : List (Nat × Nat) := [(1030, 13), (1038, 9), (1075, 8), (1081, 3), (1107, 6), (1188, 3), (1215, 4), (1221, 4), (2013, 7), (2021, 5), (2044, 8), (2125, 14), (2174, 2), (5198, 71), (3084, 6), (4105, 6), (4215, 6), (5105, 6), (5146, 6)]
def xi_ick (ci : Nat) : Bool := match xi_cl[ci]? with
  | some (C, _, _) => xi_Gat (xi_inst.getD ci (0, 0)).1 (.instantiable C (xi_inst.getD ci (0, 0)).2)
  | none => true
theorem xi_ick_all : (List.range 19).all xi_ick = true := by decide +kernel
theorem xi_ick_at {ci : Nat} {C : String} {T : u_T} {N : Nat} (hc : xi_cl[ci]? = some (C, T, N)) : Cond.instantiable C (xi_inst.getD ci (0, 0)).2 ∈ xi_G := by
  have hlt : ci < 19 := (List.getElem?_eq_some_iff.mp hc).1
  have h := List.all_eq_true.mp xi_ick_all ci (List.mem_range.mpr hlt)
  simp only [xi_ick, hc] at h
  exact xi_Gm h
theorem xi_htsG {args : Array Value} {s : State} (hts : ∀ w ∈ lw_tbl, w.before args s = true) : ∀ w ∈ xi_G, w.before args s = true := fun w hw => hts w (List.mem_filter.mp hw).1
theorem xi_set_K {args : Array Value} {s : State} (hts : ∀ w ∈ lw_tbl, w.before args s = true) : ∀ ci : Nat, ∃ q : ClassId × (Nat → Nat), ∀ r : vw_C, xi_cl[ci]? = some r → u_Kn s r.1 r.2.1 r.2.2 q.1 q.2 := by
  intro ci
  cases hc : xi_cl[ci]? with
  | none => exact ⟨(0, fun _ => 0), fun r h => by cases h⟩
  | some r =>
    obtain ⟨C, T, N⟩ := r
    obtain ⟨cC, iS, h⟩ := u_known (xi_htsG hts) (xi_in hc) (xi_htsG hts _ (xi_ick_at hc))
    exact ⟨(cC, iS), fun r hr => by cases hr; exact h⟩
theorem xi_set_A {args : Array Value} {s : State} {ty : FieldType} (h : (Cond.arrayClass ty).before args s = true) : ∃ d : ClassId, ArrOfT s d ty ∧ s.vm.findClass ("[" ++ ty.toString) = some d := by
  obtain ⟨c, k, comp, h1, h2, h3⟩ := Cond.arrayClass_spec h
  exact ⟨c, fun n z => ⟨fun k h => (by cases h), k, h2, comp, h3⟩, h1⟩
theorem xi_set_O {args : Array Value} {s : State} {C : String} (h : (Cond.arrayOver (.object C)).before args s = true) : ∃ d : ClassId, ArrOfT s d (.object C) ∧ va_RA s d (.object C) := by
  obtain ⟨comp, c, k, h1, h2, h3, h4, h5⟩ := Cond.arrayOver_spec h
  exact ⟨c, fun n z => ⟨fun k h => (by cases h), k, h3, comp, h4⟩, k, comp, h3, h4, h1, h5⟩
theorem xi_set_T {args : Array Value} {s : State} (hts : ∀ w ∈ lw_tbl, w.before args s = true) : ∀ t : Nat, ∃ d : ClassId, ∀ ty : FieldType, xi_tyl[t]? = some ty → ArrOfT s d ty ∧ va_RA s d ty
  | 0 => by
    obtain ⟨d, h1, h2⟩ := xi_set_A (ty := .int) (xi_htsG hts _ (xi_Gm (ix := 1072) (by decide +kernel)))
    exact ⟨d, fun ty h => by cases h; exact ⟨h1, h2⟩⟩
  | 1 => by
    obtain ⟨d, h1, h2⟩ := xi_set_A (ty := .long) (xi_htsG hts _ (xi_Gm (ix := 1073) (by decide +kernel)))
    exact ⟨d, fun ty h => by cases h; exact ⟨h1, h2⟩⟩
  | 2 => by
    obtain ⟨d, h1, h2⟩ := xi_set_A (ty := .char) (xi_htsG hts _ (xi_Gm (ix := 1071) (by decide +kernel)))
    exact ⟨d, fun ty h => by cases h; exact ⟨h1, h2⟩⟩
  | 3 => by
    obtain ⟨d, h1, h2⟩ := xi_set_A (ty := .boolean) (xi_htsG hts _ (xi_Gm (ix := 1144) (by decide +kernel)))
    exact ⟨d, fun ty h => by cases h; exact ⟨h1, h2⟩⟩
  | 4 => by
    obtain ⟨d, h1, h2⟩ := xi_set_O (C := "CheapPlanner$Names") (hts _ (xi_part_mem (k := 1) (List.mem_of_getElem? (i := 104) (by decide +kernel))))
    exact ⟨d, fun ty h => by cases h; exact ⟨h1, h2⟩⟩
  | 5 => by
    obtain ⟨d, h1, h2⟩ := xi_set_O (C := "CheapPlanner$Clause") (hts _ (xi_part_mem (k := 1) (List.mem_of_getElem? (i := 106) (by decide +kernel))))
    exact ⟨d, fun ty h => by cases h; exact ⟨h1, h2⟩⟩
  | 6 => by
    obtain ⟨d, h1, h2⟩ := xi_set_O (C := "CheapPlanner$Step") (hts _ (xi_part_mem (k := 2) (List.mem_of_getElem? (i := 19) (by decide +kernel))))
    exact ⟨d, fun ty h => by cases h; exact ⟨h1, h2⟩⟩
  | t + 7 => ⟨0, fun ty h => by simp [xi_tyl] at h⟩
theorem xi_set_S {args : Array Value} {s : State} (hts : ∀ w ∈ lw_tbl, w.before args s = true) (hgv : (Jvm.Cond.and given_1 narrow_1).before args s = true) : ∀ (j : Nat) (q : String × Nat × String), xi_str[j]? = some q → ∃ a : Nat, vk_R q.1 q.2.1 q.2.2 a s
  | 0, q, h => by
    cases h
    obtain ⟨a, -, -, -, h1, -⟩ := Cond.exactly_spec (flat_of_before _ hgv (Cond.exactly (.string "CheapPlanner$Reader" 40) "java/lang/String") (by decide +kernel))
    exact ⟨a, vk_R.of (hts _ (xi_part_mem (k := 3) (List.mem_of_getElem? (i := 70) (by decide +kernel)))) h1⟩
  | 1, q, h => by
    cases h
    obtain ⟨a, -, -, -, h1, -⟩ := Cond.exactly_spec (flat_of_before _ hgv (Cond.exactly (.string "CheapPlanner$Tokens" 78) "java/lang/String") (by decide +kernel))
    exact ⟨a, vk_R.of (hts _ (xi_part_mem (k := 3) (List.mem_of_getElem? (i := 126) (by decide +kernel)))) h1⟩
  | 2, q, h => by
    cases h
    obtain ⟨a, -, -, -, h1, -⟩ := Cond.exactly_spec (flat_of_before _ hgv (Cond.exactly (.string "CheapPlanner$Reader" 80) "java/lang/String") (by decide +kernel))
    exact ⟨a, vk_R.of (hts _ (xi_part_mem (k := 3) (List.mem_of_getElem? (i := 157) (by decide +kernel)))) h1⟩
  | 3, q, h => by
    cases h
    obtain ⟨a, -, -, -, h1, -⟩ := Cond.exactly_spec (flat_of_before _ hgv (Cond.exactly (.string "CheapPlanner$Reader" 58) "java/lang/String") (by decide +kernel))
    exact ⟨a, vk_R.of (hts _ (xi_part_mem (k := 3) (List.mem_of_getElem? (i := 218) (by decide +kernel)))) h1⟩
  | 4, q, h => by
    cases h
    obtain ⟨a, -, -, -, h1, -⟩ := Cond.exactly_spec (flat_of_before _ hgv (Cond.exactly (.string "CheapPlanner$Reader" 93) "java/lang/String") (by decide +kernel))
    exact ⟨a, vk_R.of (hts _ (xi_part_mem (k := 4) (List.mem_of_getElem? (i := 6) (by decide +kernel)))) h1⟩
  | 5, q, h => by
    cases h
    obtain ⟨a, -, -, -, h1, -⟩ := Cond.exactly_spec (flat_of_before _ hgv (Cond.exactly (.string "CheapPlanner$Reader" 145) "java/lang/String") (by decide +kernel))
    exact ⟨a, vk_R.of (hts _ (xi_part_mem (k := 4) (List.mem_of_getElem? (i := 16) (by decide +kernel)))) h1⟩
  | 6, q, h => by
    cases h
    obtain ⟨a, -, -, -, h1, -⟩ := Cond.exactly_spec (flat_of_before _ hgv (Cond.exactly (.string "CheapPlanner$Reader" 105) "java/lang/String") (by decide +kernel))
    exact ⟨a, vk_R.of (hts _ (xi_part_mem (k := 4) (List.mem_of_getElem? (i := 29) (by decide +kernel)))) h1⟩
  | 7, q, h => by
    cases h
    obtain ⟨a, -, -, -, h1, -⟩ := Cond.exactly_spec (flat_of_before _ hgv (Cond.exactly (.string "CheapPlanner$Reader" 110) "java/lang/String") (by decide +kernel))
    exact ⟨a, vk_R.of (hts _ (xi_part_mem (k := 4) (List.mem_of_getElem? (i := 30) (by decide +kernel)))) h1⟩
  | 8, q, h => by
    cases h
    obtain ⟨a, -, -, -, h1, -⟩ := Cond.exactly_spec (flat_of_before _ hgv (Cond.exactly (.string "CheapPlanner$Reader" 125) "java/lang/String") (by decide +kernel))
    exact ⟨a, vk_R.of (hts _ (xi_part_mem (k := 4) (List.mem_of_getElem? (i := 39) (by decide +kernel)))) h1⟩
  | 9, q, h => by
    cases h
    obtain ⟨a, -, -, -, h1, -⟩ := Cond.exactly_spec (flat_of_before _ hgv (Cond.exactly (.string "CheapPlanner$ClauseReader" 41) "java/lang/String") (by decide +kernel))
    exact ⟨a, vk_R.of (hts _ (xi_part_mem (k := 4) (List.mem_of_getElem? (i := 46) (by decide +kernel)))) h1⟩
  | 10, q, h => by
    cases h
    obtain ⟨a, -, -, -, h1, -⟩ := Cond.exactly_spec (flat_of_before _ hgv (Cond.exactly (.string "CheapPlanner$ClauseReader" 58) "java/lang/String") (by decide +kernel))
    exact ⟨a, vk_R.of (hts _ (xi_part_mem (k := 4) (List.mem_of_getElem? (i := 52) (by decide +kernel)))) h1⟩
  | 11, q, h => by
    cases h
    obtain ⟨a, -, -, -, h1, -⟩ := Cond.exactly_spec (flat_of_before _ hgv (Cond.exactly (.string "CheapPlanner$ClauseReader" 115) "java/lang/String") (by decide +kernel))
    exact ⟨a, vk_R.of (hts _ (xi_part_mem (k := 4) (List.mem_of_getElem? (i := 59) (by decide +kernel)))) h1⟩
  | 12, q, h => by
    cases h
    obtain ⟨a, -, -, -, h1, -⟩ := Cond.exactly_spec (flat_of_before _ hgv (Cond.exactly (.string "CheapPlanner$ClauseReader" 64) "java/lang/String") (by decide +kernel))
    exact ⟨a, vk_R.of (hts _ (xi_part_mem (k := 4) (List.mem_of_getElem? (i := 65) (by decide +kernel)))) h1⟩
  | 13, q, h => by
    cases h
    obtain ⟨a, -, -, -, h1, -⟩ := Cond.exactly_spec (flat_of_before _ hgv (Cond.exactly (.string "CheapPlanner$ClauseReader" 66) "java/lang/String") (by decide +kernel))
    exact ⟨a, vk_R.of (hts _ (xi_part_mem (k := 4) (List.mem_of_getElem? (i := 66) (by decide +kernel)))) h1⟩
  | 14, q, h => by
    cases h
    obtain ⟨a, -, -, -, h1, -⟩ := Cond.exactly_spec (flat_of_before _ hgv (Cond.exactly (.string "CheapPlanner$Reader" 134) "java/lang/String") (by decide +kernel))
    exact ⟨a, vk_R.of (hts _ (xi_part_mem (k := 4) (List.mem_of_getElem? (i := 90) (by decide +kernel)))) h1⟩
  | 15, q, h => by
    cases h
    obtain ⟨a, -, -, -, h1, -⟩ := Cond.exactly_spec (flat_of_before _ hgv (Cond.exactly (.string "CheapPlanner" 107) "java/lang/String") (by decide +kernel))
    exact ⟨a, vk_R.of (hts _ (xi_part_mem (k := 4) (List.mem_of_getElem? (i := 113) (by decide +kernel)))) h1⟩
  | 16, q, h => by
    cases h
    obtain ⟨a, -, -, -, h1, -⟩ := Cond.exactly_spec (flat_of_before _ hgv (Cond.exactly (.string "CheapPlanner$Reader" 168) "java/lang/String") (by decide +kernel))
    exact ⟨a, vk_R.of (hts _ (xi_part_mem (k := 4) (List.mem_of_getElem? (i := 130) (by decide +kernel)))) h1⟩
  | 17, q, h => by
    cases h
    obtain ⟨a, -, -, -, h1, -⟩ := Cond.exactly_spec (flat_of_before _ hgv (Cond.exactly (.string "CheapPlanner$Reader" 197) "java/lang/String") (by decide +kernel))
    exact ⟨a, vk_R.of (hts _ (xi_part_mem (k := 4) (List.mem_of_getElem? (i := 135) (by decide +kernel)))) h1⟩
  | 18, q, h => by
    cases h
    obtain ⟨a, -, -, -, h1, -⟩ := Cond.exactly_spec (flat_of_before _ hgv (Cond.exactly (.string "CheapPlanner$Reader" 199) "java/lang/String") (by decide +kernel))
    exact ⟨a, vk_R.of (hts _ (xi_part_mem (k := 4) (List.mem_of_getElem? (i := 144) (by decide +kernel)))) h1⟩
  | 19, q, h => by
    cases h
    obtain ⟨a, -, -, -, h1, -⟩ := Cond.exactly_spec (flat_of_before _ hgv (Cond.exactly (.string "CheapPlanner$Reader" 179) "java/lang/String") (by decide +kernel))
    exact ⟨a, vk_R.of (hts _ (xi_part_mem (k := 4) (List.mem_of_getElem? (i := 145) (by decide +kernel)))) h1⟩
  | 20, q, h => by
    cases h
    obtain ⟨a, -, -, -, h1, -⟩ := Cond.exactly_spec (flat_of_before _ hgv (Cond.exactly (.string "CheapPlanner$Reader" 192) "java/lang/String") (by decide +kernel))
    exact ⟨a, vk_R.of (hts _ (xi_part_mem (k := 4) (List.mem_of_getElem? (i := 150) (by decide +kernel)))) h1⟩
  | 21, q, h => by
    cases h
    obtain ⟨a, -, -, -, h1, -⟩ := Cond.exactly_spec (flat_of_before _ hgv (Cond.exactly (.string "CheapPlanner" 121) "java/lang/String") (by decide +kernel))
    exact ⟨a, vk_R.of (hts _ (xi_part_mem (k := 4) (List.mem_of_getElem? (i := 223) (by decide +kernel)))) h1⟩
  | 22, q, h => by
    cases h
    obtain ⟨a, -, -, -, h1, -⟩ := Cond.exactly_spec (flat_of_before _ hgv (Cond.exactly (.string "CheapPlanner" 229) "java/lang/String") (by decide +kernel))
    exact ⟨a, vk_R.of (hts _ (xi_part_mem (k := 5) (List.mem_of_getElem? (i := 1) (by decide +kernel)))) h1⟩
  | 23, q, h => by
    cases h
    obtain ⟨a, -, -, -, h1, -⟩ := Cond.exactly_spec (flat_of_before _ hgv (Cond.exactly (.string "CheapPlanner" 135) "java/lang/String") (by decide +kernel))
    exact ⟨a, vk_R.of (hts _ (xi_part_mem (k := 5) (List.mem_of_getElem? (i := 3) (by decide +kernel)))) h1⟩
  | 24, q, h => by
    cases h
    obtain ⟨a, -, -, -, h1, -⟩ := Cond.exactly_spec (flat_of_before _ hgv (Cond.exactly (.string "CheapPlanner" 148) "java/lang/String") (by decide +kernel))
    exact ⟨a, vk_R.of (hts _ (xi_part_mem (k := 5) (List.mem_of_getElem? (i := 67) (by decide +kernel)))) h1⟩
  | 25, q, h => by
    cases h
    obtain ⟨a, -, -, -, h1, -⟩ := Cond.exactly_spec (flat_of_before _ hgv (Cond.exactly (.string "CheapPlanner" 173) "java/lang/String") (by decide +kernel))
    exact ⟨a, vk_R.of (hts _ (xi_part_mem (k := 5) (List.mem_of_getElem? (i := 113) (by decide +kernel)))) h1⟩
  | 26, q, h => by
    cases h
    obtain ⟨a, -, -, -, h1, -⟩ := Cond.exactly_spec (flat_of_before _ hgv (Cond.exactly (.string "CheapPlanner" 176) "java/lang/String") (by decide +kernel))
    exact ⟨a, vk_R.of (hts _ (xi_part_mem (k := 5) (List.mem_of_getElem? (i := 127) (by decide +kernel)))) h1⟩
  | 27, q, h => by
    cases h
    obtain ⟨a, -, -, -, h1, -⟩ := Cond.exactly_spec (flat_of_before _ hgv (Cond.exactly (.string "CheapPlanner" 181) "java/lang/String") (by decide +kernel))
    exact ⟨a, vk_R.of (hts _ (xi_part_mem (k := 5) (List.mem_of_getElem? (i := 135) (by decide +kernel)))) h1⟩
  | 28, q, h => by
    cases h
    obtain ⟨a, -, -, -, h1, -⟩ := Cond.exactly_spec (flat_of_before _ hgv (Cond.exactly (.string "CheapPlanner" 183) "java/lang/String") (by decide +kernel))
    exact ⟨a, vk_R.of (hts _ (xi_part_mem (k := 5) (List.mem_of_getElem? (i := 136) (by decide +kernel)))) h1⟩
  | 29, q, h => by
    cases h
    obtain ⟨a, -, -, -, h1, -⟩ := Cond.exactly_spec (flat_of_before _ hgv (Cond.exactly (.string "CheapPlanner" 198) "java/lang/String") (by decide +kernel))
    exact ⟨a, vk_R.of (hts _ (xi_part_mem (k := 5) (List.mem_of_getElem? (i := 154) (by decide +kernel)))) h1⟩
  | j + 30, q, h => by simp [xi_str] at h
def xi_nix : List Nat := [1039, 1189, 2022, 2045, 2050, 3085, 3086, 3087, 3088, 3089, 3090, 3091, 4106, 4216, 5106, 5147]
def xi_nck (k : Nat) : Bool := match xi_nest[k]? with
  | some w => decide ((xi_part ((xi_nix.getD k 0) / 1000))[(xi_nix.getD k 0) % 1000]? = some w) && w.onTables
  | none => true
theorem xi_nck_all : (List.range 16).all xi_nck = true := by decide +kernel
theorem xi_set_N {args : Array Value} {s : State} (hts : ∀ w ∈ lw_tbl, w.before args s = true) : ∀ w ∈ xi_nest, va_Nw w s := by
  intro w hw
  obtain ⟨k, hk⟩ := List.getElem?_of_mem hw
  have hlt : k < 16 := (List.getElem?_eq_some_iff.mp hk).1
  have h := List.all_eq_true.mp xi_nck_all k (List.mem_range.mpr hlt)
  simp only [xi_nck, hk, Bool.and_eq_true, decide_eq_true_eq] at h
  exact va_Nw.of h.2 (hts _ (xi_part_mem (List.mem_of_getElem? h.1)))
theorem xi_set_Q {args : Array Value} {s : State} (hts : ∀ w ∈ lw_tbl, w.before args s = true) (hgv : (Jvm.Cond.and given_1 narrow_1).before args s = true) : ∀ q ∈ xi_stq, va_Zq q.1 q.2.1 q.2.2 (fun x => s.heap.size ≤ x) s s.heap ∧ va_Nw (.laysStatic q.1 q.2.1 q.2.2) s := by
  intro q hq
  simp only [xi_stq, List.mem_cons, List.not_mem_nil, or_false] at hq
  rcases hq with rfl | rfl
  · have h1 : (Cond.laysStatic "java/lang/Throwable" "UNASSIGNED_STACK" "[Ljava/lang/StackTraceElement;").before args s = true := hts _ (xi_part_mem (k := 3) (List.mem_of_getElem? (i := 110) (by decide +kernel)))
    have h2 : (Cond.initialized "java/lang/Throwable").before args s = true := hts _ (xi_part_mem (k := 1) (List.mem_of_getElem? (i := 16) (by decide +kernel)))
    exact ⟨va_Zqof h1 h2 (flat_of_before _ hgv (Cond.isRef (.static "java/lang/Throwable" "UNASSIGNED_STACK" "[Ljava/lang/StackTraceElement;")) (by decide +kernel)) (fun a h1 h2 => Nat.lt_irrefl _ (Nat.lt_of_lt_of_le h1 h2)), show (Cond.laysStatic "java/lang/Throwable" "UNASSIGNED_STACK" "[Ljava/lang/StackTraceElement;").before #[] s = true from h1⟩
  · have h1 : (Cond.laysStatic "java/lang/Throwable" "SUPPRESSED_SENTINEL" "Ljava/util/List;").before args s = true := hts _ (xi_part_mem (k := 3) (List.mem_of_getElem? (i := 112) (by decide +kernel)))
    have h2 : (Cond.initialized "java/lang/Throwable").before args s = true := hts _ (xi_part_mem (k := 1) (List.mem_of_getElem? (i := 16) (by decide +kernel)))
    exact ⟨va_Zqof h1 h2 (flat_of_before _ hgv (Cond.isRef (.static "java/lang/Throwable" "SUPPRESSED_SENTINEL" "Ljava/util/List;")) (by decide +kernel)) (fun a h1 h2 => Nat.lt_irrefl _ (Nat.lt_of_lt_of_le h1 h2)), show (Cond.laysStatic "java/lang/Throwable" "SUPPRESSED_SENTINEL" "Ljava/util/List;").before #[] s = true from h1⟩
theorem xi_set_AO {args : Array Value} {s : State} (hts : ∀ w ∈ lw_tbl, w.before args s = true) : ∀ C ∈ xi_ao, va_AO C s := by
  intro C hC
  simp only [xi_ao, List.mem_cons, List.not_mem_nil, or_false] at hC
  rcases hC with rfl | rfl | rfl
  · exact va_AO.of (hts _ (xi_part_mem (k := 1) (List.mem_of_getElem? (i := 104) (by decide +kernel))))
  · exact va_AO.of (hts _ (xi_part_mem (k := 1) (List.mem_of_getElem? (i := 106) (by decide +kernel))))
  · exact va_AO.of (hts _ (xi_part_mem (k := 2) (List.mem_of_getElem? (i := 19) (by decide +kernel))))
theorem xi_setup {args : Array Value} {s : State} (b : Nat) (hts : ∀ w ∈ lw_tbl, w.before args s = true) (hgv : (Jvm.Cond.and given_1 narrow_1).before args s = true) : ∃ (aS : Nat → Nat) (dA : Nat → ClassId) (D : va_G), aS 30 = b ∧ va_K D xi_cl (xi_tys dA) s ∧ xi_St s.heap.size aS s := by
  classical
  obtain ⟨fK, hK⟩ := Classical.axiomOfChoice (xi_set_K hts)
  obtain ⟨fT, hT⟩ := Classical.axiomOfChoice (xi_set_T hts)
  have hS0 : ∀ j : Nat, ∃ a : Nat, (∀ q, xi_str[j]? = some q → vk_R q.1 q.2.1 q.2.2 a s) ∧ (j = 30 → a = b) := by
    intro j
    cases hj : xi_str[j]? with
    | none => exact ⟨b, (fun q h => by cases h), fun _ => rfl⟩
    | some q =>
      obtain ⟨a, ha⟩ := xi_set_S hts hgv j q hj
      refine ⟨a, (fun q' h => by cases h; exact ha), fun h => ?_⟩
      subst h
      cases hj
  obtain ⟨fS, hS⟩ := Classical.axiomOfChoice hS0
  refine ⟨fS, fT, (fun c => (fK c).1, fun c => (fK c).2), (hS 30).2 rfl, ⟨fun c q hq => hK c q hq, fun k q hk => ?_⟩, fun j q hq => (hS j).1 q hq, xi_set_N hts, xi_set_AO hts, xi_set_Q hts hgv⟩
  match k, hk with
  | 0, hk => cases hk; exact hT 0 _ rfl
  | 1, hk => cases hk; exact hT 1 _ rfl
  | 2, hk => cases hk; exact hT 2 _ rfl
  | 3, hk => cases hk; exact hT 3 _ rfl
  | 4, hk => cases hk; exact hT 4 _ rfl
  | 5, hk => cases hk; exact hT 5 _ rfl
  | 6, hk => cases hk; exact hT 6 _ rfl
  | k + 7, hk => simp [xi_tys] at hk
end
section
theorem xi_ok0 : xi_okM xi_ms xi_m0 = true := by decide +kernel
theorem xi_ok1 : xi_okM xi_ms xi_m1 = true := by decide +kernel
theorem xi_ok2 : xi_okM xi_ms xi_m2 = true := by decide +kernel
theorem xi_ok3 : xi_okM xi_ms xi_m3 = true := by decide +kernel
theorem xi_ok4 : xi_okM xi_ms xi_m4 = true := by decide +kernel
theorem xi_ok5 : xi_okM xi_ms xi_m5 = true := by decide +kernel
theorem xi_ok6 : xi_okM xi_ms xi_m6 = true := by decide +kernel
theorem xi_ok7 : xi_okM xi_ms xi_m7 = true := by decide +kernel
theorem xi_ok8 : xi_okM xi_ms xi_m8 = true := by decide +kernel
theorem xi_ok9 : xi_okM xi_ms xi_m9 = true := by decide +kernel
theorem xi_ok10 : xi_okM xi_ms xi_m10 = true := by decide +kernel
theorem xi_ok11 : xi_okM xi_ms xi_m11 = true := by decide +kernel
theorem xi_ok12 : xi_okM xi_ms xi_m12 = true := by decide +kernel
theorem xi_ok13 : xi_okM xi_ms xi_m13 = true := by decide +kernel
theorem xi_ok14 : xi_okM xi_ms xi_m14 = true := by decide +kernel
theorem xi_ok15 : xi_okM xi_ms xi_m15 = true := by decide +kernel
theorem xi_ok16 : xi_okM xi_ms xi_m16 = true := by decide +kernel
theorem xi_ok17 : xi_okM xi_ms xi_m17 = true := by decide +kernel
theorem xi_ok18 : xi_okM xi_ms xi_m18 = true := by decide +kernel
theorem xi_ok19 : xi_okM xi_ms xi_m19 = true := by decide +kernel
theorem xi_ok20 : xi_okM xi_ms xi_m20 = true := by decide +kernel
theorem xi_ok21 : xi_okM xi_ms xi_m21 = true := by decide +kernel
theorem xi_ok22 : xi_okM xi_ms xi_m22 = true := by decide +kernel
theorem xi_ok23 : xi_okM xi_ms xi_m23 = true := by decide +kernel
theorem xi_ok24 : xi_okM xi_ms xi_m24 = true := by decide +kernel
theorem xi_ok25 : xi_okM xi_ms xi_m25 = true := by decide +kernel
theorem xi_ok26 : xi_okM xi_ms xi_m26 = true := by decide +kernel
theorem xi_ok27 : xi_okM xi_ms xi_m27 = true := by decide +kernel
theorem xi_ok28 : xi_okM xi_ms xi_m28 = true := by decide +kernel
theorem xi_ok29 : xi_okM xi_ms xi_m29 = true := by decide +kernel
theorem xi_ok30 : xi_okM xi_ms xi_m30 = true := by decide +kernel
theorem xi_ok31 : xi_okM xi_ms xi_m31 = true := by decide +kernel
theorem xi_ok32 : xi_okM xi_ms xi_m32 = true := by decide +kernel
theorem xi_ok33 : xi_okM xi_ms xi_m33 = true := by decide +kernel
theorem xi_ok34 : xi_okM xi_ms xi_m34 = true := by decide +kernel
theorem xi_ok35 : xi_okM xi_ms xi_m35 = true := by decide +kernel
theorem xi_ok36 : xi_okM xi_ms xi_m36 = true := by decide +kernel
theorem xi_ok37 : xi_okM xi_ms xi_m37 = true := by decide +kernel
theorem xi_ok38 : xi_okM xi_ms xi_m38 = true := by decide +kernel
theorem xi_ok39 : xi_okM xi_ms xi_m39 = true := by decide +kernel
theorem xi_ok40 : xi_okM xi_ms xi_m40 = true := by decide +kernel
theorem xi_ok41 : xi_okM xi_ms xi_m41 = true := by decide +kernel
theorem xi_ok42 : xi_okM xi_ms xi_m42 = true := by decide +kernel
theorem xi_ok43 : xi_okM xi_ms xi_m43 = true := by decide +kernel
theorem xi_ok44 : xi_okM xi_ms xi_m44 = true := by decide +kernel
theorem xi_ok45 : xi_okM xi_ms xi_m45 = true := by decide +kernel
theorem xi_ok46 : xi_okM xi_ms xi_m46 = true := by decide +kernel
theorem xi_ok47 : xi_okM xi_ms xi_m47 = true := by decide +kernel
theorem xi_ok48 : xi_okM xi_ms xi_m48 = true := by decide +kernel
theorem xi_ok49 : xi_okM xi_ms xi_m49 = true := by decide +kernel
theorem xi_ok50 : xi_okM xi_ms xi_m50 = true := by decide +kernel
theorem xi_ok51 : xi_okM xi_ms xi_m51 = true := by decide +kernel
theorem xi_ok52 : xi_okM xi_ms xi_m52 = true := by decide +kernel
theorem xi_ok53 : xi_okM xi_ms xi_m53 = true := by decide +kernel
theorem xi_ok54 : xi_okM xi_ms xi_m54 = true := by decide +kernel
theorem xi_ok55 : xi_okM xi_ms xi_m55 = true := by decide +kernel
theorem xi_ok56 : xi_okM xi_ms xi_m56 = true := by decide +kernel
theorem xi_ok57 : xi_okM xi_ms xi_m57 = true := by decide +kernel
theorem xi_ok58 : xi_okM xi_ms xi_m58 = true := by decide +kernel
theorem xi_ok59 : xi_okM xi_ms xi_m59 = true := by decide +kernel
theorem xi_ok60 : xi_okM xi_ms xi_m60 = true := by decide +kernel
theorem xi_ok61 : xi_okM xi_ms xi_m61 = true := by decide +kernel
theorem xi_ok62 : xi_okM xi_ms xi_m62 = true := by decide +kernel
theorem xi_ok63 : xi_okM xi_ms xi_m63 = true := by decide +kernel
theorem xi_ok64 : xi_okM xi_ms xi_m64 = true := by decide +kernel
theorem xi_ok65 : xi_okM xi_ms xi_m65 = true := by decide +kernel
theorem xi_ok66 : xi_okM xi_ms xi_m66 = true := by decide +kernel
theorem xi_ok67 : xi_okM xi_ms xi_m67 = true := by decide +kernel
theorem xi_ok68 : xi_okM xi_ms xi_m68 = true := by decide +kernel
theorem xi_ok69 : xi_okM xi_ms xi_m69 = true := by decide +kernel
theorem xi_ok70 : xi_okM xi_ms xi_m70 = true := by decide +kernel
theorem xi_ok71 : xi_okM xi_ms xi_m71 = true := by decide +kernel
theorem xi_ok72 : xi_okM xi_ms xi_m72 = true := by decide +kernel
theorem xi_ok73 : xi_okM xi_ms xi_m73 = true := by decide +kernel
theorem xi_ok74 : xi_okM xi_ms xi_m74 = true := by decide +kernel
theorem xi_ok75 : xi_okM xi_ms xi_m75 = true := by decide +kernel
theorem xi_ok76 : xi_okM xi_ms xi_m76 = true := by decide +kernel
theorem xi_ok77 : xi_okM xi_ms xi_m77 = true := by decide +kernel
theorem xi_ok78 : xi_okM xi_ms xi_m78 = true := by decide +kernel
theorem xi_ok79 : xi_okM xi_ms xi_m79 = true := by decide +kernel
theorem xi_ok80 : xi_okM xi_ms xi_m80 = true := by decide +kernel
theorem xi_ok81 : xi_okM xi_ms xi_m81 = true := by decide +kernel
theorem xi_ok82 : xi_okM xi_ms xi_m82 = true := by decide +kernel
theorem xi_ok83 : xi_okM xi_ms xi_m83 = true := by decide +kernel
theorem xi_oks : ∀ (y : Nat) (M : xi_M), xi_ms[y]? = some M → xi_okM xi_ms M = true
  | 0, _, h => by cases h; exact xi_ok0
  | 1, _, h => by cases h; exact xi_ok1
  | 2, _, h => by cases h; exact xi_ok2
  | 3, _, h => by cases h; exact xi_ok3
  | 4, _, h => by cases h; exact xi_ok4
  | 5, _, h => by cases h; exact xi_ok5
  | 6, _, h => by cases h; exact xi_ok6
  | 7, _, h => by cases h; exact xi_ok7
  | 8, _, h => by cases h; exact xi_ok8
  | 9, _, h => by cases h; exact xi_ok9
  | 10, _, h => by cases h; exact xi_ok10
  | 11, _, h => by cases h; exact xi_ok11
  | 12, _, h => by cases h; exact xi_ok12
  | 13, _, h => by cases h; exact xi_ok13
  | 14, _, h => by cases h; exact xi_ok14
  | 15, _, h => by cases h; exact xi_ok15
  | 16, _, h => by cases h; exact xi_ok16
  | 17, _, h => by cases h; exact xi_ok17
  | 18, _, h => by cases h; exact xi_ok18
  | 19, _, h => by cases h; exact xi_ok19
  | 20, _, h => by cases h; exact xi_ok20
  | 21, _, h => by cases h; exact xi_ok21
  | 22, _, h => by cases h; exact xi_ok22
  | 23, _, h => by cases h; exact xi_ok23
  | 24, _, h => by cases h; exact xi_ok24
  | 25, _, h => by cases h; exact xi_ok25
  | 26, _, h => by cases h; exact xi_ok26
  | 27, _, h => by cases h; exact xi_ok27
  | 28, _, h => by cases h; exact xi_ok28
  | 29, _, h => by cases h; exact xi_ok29
  | 30, _, h => by cases h; exact xi_ok30
  | 31, _, h => by cases h; exact xi_ok31
  | 32, _, h => by cases h; exact xi_ok32
  | 33, _, h => by cases h; exact xi_ok33
  | 34, _, h => by cases h; exact xi_ok34
  | 35, _, h => by cases h; exact xi_ok35
  | 36, _, h => by cases h; exact xi_ok36
  | 37, _, h => by cases h; exact xi_ok37
  | 38, _, h => by cases h; exact xi_ok38
  | 39, _, h => by cases h; exact xi_ok39
  | 40, _, h => by cases h; exact xi_ok40
  | 41, _, h => by cases h; exact xi_ok41
  | 42, _, h => by cases h; exact xi_ok42
  | 43, _, h => by cases h; exact xi_ok43
  | 44, _, h => by cases h; exact xi_ok44
  | 45, _, h => by cases h; exact xi_ok45
  | 46, _, h => by cases h; exact xi_ok46
  | 47, _, h => by cases h; exact xi_ok47
  | 48, _, h => by cases h; exact xi_ok48
  | 49, _, h => by cases h; exact xi_ok49
  | 50, _, h => by cases h; exact xi_ok50
  | 51, _, h => by cases h; exact xi_ok51
  | 52, _, h => by cases h; exact xi_ok52
  | 53, _, h => by cases h; exact xi_ok53
  | 54, _, h => by cases h; exact xi_ok54
  | 55, _, h => by cases h; exact xi_ok55
  | 56, _, h => by cases h; exact xi_ok56
  | 57, _, h => by cases h; exact xi_ok57
  | 58, _, h => by cases h; exact xi_ok58
  | 59, _, h => by cases h; exact xi_ok59
  | 60, _, h => by cases h; exact xi_ok60
  | 61, _, h => by cases h; exact xi_ok61
  | 62, _, h => by cases h; exact xi_ok62
  | 63, _, h => by cases h; exact xi_ok63
  | 64, _, h => by cases h; exact xi_ok64
  | 65, _, h => by cases h; exact xi_ok65
  | 66, _, h => by cases h; exact xi_ok66
  | 67, _, h => by cases h; exact xi_ok67
  | 68, _, h => by cases h; exact xi_ok68
  | 69, _, h => by cases h; exact xi_ok69
  | 70, _, h => by cases h; exact xi_ok70
  | 71, _, h => by cases h; exact xi_ok71
  | 72, _, h => by cases h; exact xi_ok72
  | 73, _, h => by cases h; exact xi_ok73
  | 74, _, h => by cases h; exact xi_ok74
  | 75, _, h => by cases h; exact xi_ok75
  | 76, _, h => by cases h; exact xi_ok76
  | 77, _, h => by cases h; exact xi_ok77
  | 78, _, h => by cases h; exact xi_ok78
  | 79, _, h => by cases h; exact xi_ok79
  | 80, _, h => by cases h; exact xi_ok80
  | 81, _, h => by cases h; exact xi_ok81
  | 82, _, h => by cases h; exact xi_ok82
  | 83, _, h => by cases h; exact xi_ok83
  | y + 84, _, h => by simp [xi_ms] at h
end
section
/-! MORE OF THE FRESH OBJECTS -/
def xi_arL (A : xi_H) (k t n : Nat) : Bool := match A[k]? with
  | some (.inl (t', n', .inr (.inl _))) => decide (t' = t ∧ n' = n)
  | _ => false
theorem xi_arL_eq {A : xi_H} {k t n : Nat} (h : xi_arL A k t n = true) : ∃ f, A[k]? = some (.inl (t, n, .inr (.inl f))) := by
  unfold xi_arL at h
  split at h
  · rename_i t' n' f h1
    obtain ⟨rfl, rfl⟩ := of_decide_eq_true h
    exact ⟨f, h1⟩
  · cases h
noncomputable def e_chk2 : Bool := ((decide (xi_obj e_A2 118 = some (6, [.ref 1, .ref 7, .ref 104, .ref 119])) && decide (xi_obj e_A2 7 = some (2, [.long 0, .ref 8, .ref 11, .ref 14, .ref 15, .ref 18, .ref 19, .ref 20]))) && (decide (xi_obj e_A2 8 = some (3, [.ref 9, .ref 10, .int 0])) && (decide (xi_obj e_A2 11 = some (3, [.ref 12, .ref 13, .int 0])) && decide (xi_obj e_A2 15 = some (3, [.ref 16, .ref 17, .int 0]))))) && (((xi_arI e_A2 3 0 601 && xi_arI e_A2 4 0 601) && (xi_arI e_A2 5 0 601 && xi_arI e_A2 335 0 201)) && ((xi_arI e_A2 338 0 512 && xi_arI e_A2 347 0 602) && (xi_arI e_A2 348 0 602 && xi_arL e_A2 6 1 601)))
theorem e_chk2_ok : e_chk2 = true := by decide +kernel
end
section
def R_law : String := "CheapPlannerLaw"
def lw_P (b : Addr) (xs : List Int32) (args : Array Value) (s : State) : Prop := args = #[.ref b] ∧ s.IntsAt b xs ∧ xs.length ≤ 6 ∧ (Jvm.Cond.and given_1 narrow_1).before args s = true
def lw_Q (_ : Array Value) (s : State) (o : Outcome) (t : State) : Prop := o = .returned (some (.int 1)) ∧ Framed s o t [] 600002 7302232
def lw_Z (below : List Frame) (a : Array Value) (s : State) : State → Prop := fun t => ∃ o, t.status = .running ∧ Ended t below o ∧ lw_Q a s o t
/-- the law's own end, with 1 on the stack, nothing written that was there before, its room as the claim has it -/
theorem lw_ret {p : Program} {l : Launch} {e : Env} {s : State} {m : MethodId} {below : List Frame} {meth : Method} {c : Code} {b : Nat} (hx : p.tables.exec = Jvm.exec) (hb : c.code = code) (hr : meth.sig.returnType = ret) (hlocks : meth.locks = false) {pc : Nat} {H : Heap} {ls : Array Slot} (hdg : decode code pc = .ok (.ireturn, 1)) : W p l e room_1 s m #[Value.ref b] below meth c H [] 600002 7302232 (lw_Z below #[Value.ref b] s) (F0 m pc ls [.int 1]) := by
  intro T hT X
  obtain ⟨fs, hret, hrun, hended, hW, hframe⟩ := X.leave (v := some (.int 1)) (hlocks := hlocks) (fun h => by rw [hr] at h; cases h)
  have hmeth' : T.vm.method? m = some meth := X.method'
  refine ⟨T.setFrames fs, ?_, .returned (some (.int 1)), hrun, hended, rfl, ⟨_, rfl⟩, hW, hframe⟩
  jvm_step X.here [X.here.top, hx, hb, hdg, hmeth', hr, ret, narrow_b1]
  (try refine ⟨rfl, ?_⟩); (try refine ⟨rfl, ?_⟩)
  first | (intro acts; rw [hret _ acts rfl rfl rfl]) | rw [hret _ _ rfl rfl rfl]
  exact Steps.refl _
/-- what holds at the law's entry: the machine, the code, the tables' words (any of lw_tbl by 'hts w (by decide +kernel)'), the script of L ints xs at the cell b, what the Statement gives of the start (any of its parts by flat_of_before) -/
def lw_At (p : Program) (s : State) (m : MethodId) (meth : Method) (c : Code) (b L : Nat) (xs : Nat → Int32) : Prop :=
  p.tables.exec = Jvm.exec ∧ c.code = code ∧ meth.sig.returnType = ret ∧ c.maxLocals = 7 ∧ s.vm.findClass R_law = some m.cls ∧ (∀ w ∈ lw_tbl, w.before #[Value.ref b] s = true) ∧ va_X b L xs s s.heap ∧ b < s.heap.size ∧ meth.locks = false ∧ (Jvm.Cond.and given_1 narrow_1).before #[Value.ref b] s = true
end
section
/-! THE LAW, WALKED -/
theorem lw_d0 : decode code 0 = .ok (.new 8, 3) := by decide +kernel
theorem lw_d3 : decode code 3 = .ok (.dup, 1) := by decide +kernel
theorem lw_d4 : decode code 4 = .ok (.invokespecial 50, 3) := by decide +kernel
theorem lw_d7 : decode code 7 = .ok (.astore_n 1, 1) := by decide +kernel
theorem lw_d8 : decode code 8 = .ok (.new 51, 3) := by decide +kernel
theorem lw_d11 : decode code 11 = .ok (.dup, 1) := by decide +kernel
theorem lw_d12 : decode code 12 = .ok (.invokespecial 53, 3) := by decide +kernel
theorem lw_d15 : decode code 15 = .ok (.astore_n 2, 1) := by decide +kernel
theorem lw_d16 : decode code 16 = .ok (.iconst 1, 1) := by decide +kernel
theorem lw_d17 : decode code 17 = .ok (.newarray .long, 2) := by decide +kernel
theorem lw_d19 : decode code 19 = .ok (.astore_n 3, 1) := by decide +kernel
theorem lw_d20 : decode code 20 = .ok (.iconst 0, 1) := by decide +kernel
theorem lw_d21 : decode code 21 = .ok (.istore 4, 2) := by decide +kernel
theorem lw_d23 : decode code 23 = .ok (.iload 4, 2) := by decide +kernel
theorem lw_d25 : decode code 25 = .ok (.aload_n 0, 1) := by decide +kernel
theorem lw_d26 : decode code 26 = .ok (.arraylength, 1) := by decide +kernel
theorem lw_d27 : decode code 27 = .ok (.bipush 6, 2) := by decide +kernel
theorem lw_d29 : decode code 29 = .ok (.isub, 1) := by decide +kernel
theorem lw_d30 : decode code 30 = .ok (.if_icmp .gt 659, 3) := by decide +kernel
theorem lw_d33 : decode code 33 = .ok (.aload_n 0, 1) := by decide +kernel
theorem lw_d34 : decode code 34 = .ok (.iload 4, 2) := by decide +kernel
theorem lw_d36 : decode code 36 = .ok (.iaload, 1) := by decide +kernel
theorem lw_d37 : decode code 37 = .ok (.bipush 15, 2) := by decide +kernel
theorem lw_d39 : decode code 39 = .ok (.iand, 1) := by decide +kernel
theorem lw_d40 : decode code 40 = .ok (.tableswitch 643 0 11 #[64, 137, 181, 225, 238, 294, 338, 394, 462, 518, 543, 587], 64) := by decide +kernel
theorem lw_d104 : decode code 104 = .ok (.aload_n 1, 1) := by decide +kernel
theorem lw_d105 : decode code 105 = .ok (.aload_n 0, 1) := by decide +kernel
theorem lw_d106 : decode code 106 = .ok (.iload 4, 2) := by decide +kernel
theorem lw_d108 : decode code 108 = .ok (.iconst 1, 1) := by decide +kernel
theorem lw_d109 : decode code 109 = .ok (.iadd, 1) := by decide +kernel
theorem lw_d110 : decode code 110 = .ok (.iaload, 1) := by decide +kernel
theorem lw_d111 : decode code 111 = .ok (.aload_n 0, 1) := by decide +kernel
theorem lw_d112 : decode code 112 = .ok (.iload 4, 2) := by decide +kernel
theorem lw_d114 : decode code 114 = .ok (.iconst 2, 1) := by decide +kernel
theorem lw_d115 : decode code 115 = .ok (.iadd, 1) := by decide +kernel
theorem lw_d116 : decode code 116 = .ok (.iaload, 1) := by decide +kernel
theorem lw_d117 : decode code 117 = .ok (.aload_n 0, 1) := by decide +kernel
theorem lw_d118 : decode code 118 = .ok (.iload 4, 2) := by decide +kernel
theorem lw_d120 : decode code 120 = .ok (.iconst 3, 1) := by decide +kernel
theorem lw_d121 : decode code 121 = .ok (.iadd, 1) := by decide +kernel
theorem lw_d122 : decode code 122 = .ok (.iaload, 1) := by decide +kernel
theorem lw_d123 : decode code 123 = .ok (.aload_n 0, 1) := by decide +kernel
theorem lw_d124 : decode code 124 = .ok (.iload 4, 2) := by decide +kernel
theorem lw_d126 : decode code 126 = .ok (.iconst 4, 1) := by decide +kernel
theorem lw_d127 : decode code 127 = .ok (.iadd, 1) := by decide +kernel
theorem lw_d128 : decode code 128 = .ok (.iaload, 1) := by decide +kernel
theorem lw_d129 : decode code 129 = .ok (.aload_n 0, 1) := by decide +kernel
theorem lw_d130 : decode code 130 = .ok (.iload 4, 2) := by decide +kernel
theorem lw_d132 : decode code 132 = .ok (.iconst 5, 1) := by decide +kernel
theorem lw_d133 : decode code 133 = .ok (.iadd, 1) := by decide +kernel
theorem lw_d134 : decode code 134 = .ok (.iaload, 1) := by decide +kernel
theorem lw_d135 : decode code 135 = .ok (.invokevirtual 54, 3) := by decide +kernel
theorem lw_d138 : decode code 138 = .ok (.aload_n 2, 1) := by decide +kernel
theorem lw_d139 : decode code 139 = .ok (.aload_n 0, 1) := by decide +kernel
theorem lw_d140 : decode code 140 = .ok (.iload 4, 2) := by decide +kernel
theorem lw_d142 : decode code 142 = .ok (.iconst 1, 1) := by decide +kernel
theorem lw_d143 : decode code 143 = .ok (.iadd, 1) := by decide +kernel
theorem lw_d144 : decode code 144 = .ok (.iaload, 1) := by decide +kernel
theorem lw_d145 : decode code 145 = .ok (.aload_n 0, 1) := by decide +kernel
theorem lw_d146 : decode code 146 = .ok (.iload 4, 2) := by decide +kernel
theorem lw_d148 : decode code 148 = .ok (.iconst 2, 1) := by decide +kernel
theorem lw_d149 : decode code 149 = .ok (.iadd, 1) := by decide +kernel
theorem lw_d150 : decode code 150 = .ok (.iaload, 1) := by decide +kernel
theorem lw_d151 : decode code 151 = .ok (.aload_n 0, 1) := by decide +kernel
theorem lw_d152 : decode code 152 = .ok (.iload 4, 2) := by decide +kernel
theorem lw_d154 : decode code 154 = .ok (.iconst 3, 1) := by decide +kernel
theorem lw_d155 : decode code 155 = .ok (.iadd, 1) := by decide +kernel
theorem lw_d156 : decode code 156 = .ok (.iaload, 1) := by decide +kernel
theorem lw_d157 : decode code 157 = .ok (.aload_n 0, 1) := by decide +kernel
theorem lw_d158 : decode code 158 = .ok (.iload 4, 2) := by decide +kernel
theorem lw_d160 : decode code 160 = .ok (.iconst 4, 1) := by decide +kernel
theorem lw_d161 : decode code 161 = .ok (.iadd, 1) := by decide +kernel
theorem lw_d162 : decode code 162 = .ok (.iaload, 1) := by decide +kernel
theorem lw_d163 : decode code 163 = .ok (.aload_n 0, 1) := by decide +kernel
theorem lw_d164 : decode code 164 = .ok (.iload 4, 2) := by decide +kernel
theorem lw_d166 : decode code 166 = .ok (.iconst 5, 1) := by decide +kernel
theorem lw_d167 : decode code 167 = .ok (.iadd, 1) := by decide +kernel
theorem lw_d168 : decode code 168 = .ok (.iaload, 1) := by decide +kernel
theorem lw_d169 : decode code 169 = .ok (.invokevirtual 58, 3) := by decide +kernel
theorem lw_d172 : decode code 172 = .ok (.if_icmp .eq 511, 3) := by decide +kernel
theorem lw_d175 : decode code 175 = .ok (.iconst 0, 1) := by decide +kernel
theorem lw_d176 : decode code 176 = .ok (.ireturn, 1) := by decide +kernel
theorem lw_d177 : decode code 177 = .ok (.aload_n 1, 1) := by decide +kernel
theorem lw_d178 : decode code 178 = .ok (.aload_n 3, 1) := by decide +kernel
theorem lw_d179 : decode code 179 = .ok (.invokestatic 59, 3) := by decide +kernel
theorem lw_d182 : decode code 182 = .ok (.istore 5, 2) := by decide +kernel
theorem lw_d184 : decode code 184 = .ok (.aload_n 2, 1) := by decide +kernel
theorem lw_d185 : decode code 185 = .ok (.invokevirtual 64, 3) := by decide +kernel
theorem lw_d188 : decode code 188 = .ok (.istore 6, 2) := by decide +kernel
theorem lw_d190 : decode code 190 = .ok (.aload_n 2, 1) := by decide +kernel
theorem lw_d191 : decode code 191 = .ok (.invokevirtual 65, 3) := by decide +kernel
theorem lw_d194 : decode code 194 = .ok (.iload 5, 2) := by decide +kernel
theorem lw_d196 : decode code 196 = .ok (.if_icmp .eq 5, 3) := by decide +kernel
theorem lw_d199 : decode code 199 = .ok (.iconst 0, 1) := by decide +kernel
theorem lw_d200 : decode code 200 = .ok (.ireturn, 1) := by decide +kernel
theorem lw_d201 : decode code 201 = .ok (.iload 5, 2) := by decide +kernel
theorem lw_d203 : decode code 203 = .ok (.ifCond .ne 15, 3) := by decide +kernel
theorem lw_d206 : decode code 206 = .ok (.aload_n 3, 1) := by decide +kernel
theorem lw_d207 : decode code 207 = .ok (.iconst 0, 1) := by decide +kernel
theorem lw_d208 : decode code 208 = .ok (.laload, 1) := by decide +kernel
theorem lw_d209 : decode code 209 = .ok (.iload 6, 2) := by decide +kernel
theorem lw_d211 : decode code 211 = .ok (.i2l, 1) := by decide +kernel
theorem lw_d212 : decode code 212 = .ok (.lcmp, 1) := by decide +kernel
theorem lw_d213 : decode code 213 = .ok (.ifCond .eq 5, 3) := by decide +kernel
theorem lw_d216 : decode code 216 = .ok (.iconst 0, 1) := by decide +kernel
theorem lw_d217 : decode code 217 = .ok (.ireturn, 1) := by decide +kernel
theorem lw_d218 : decode code 218 = .ok (.goto 465, 3) := by decide +kernel
theorem lw_d221 : decode code 221 = .ok (.aload_n 1, 1) := by decide +kernel
theorem lw_d222 : decode code 222 = .ok (.aload_n 3, 1) := by decide +kernel
theorem lw_d223 : decode code 223 = .ok (.invokestatic 68, 3) := by decide +kernel
theorem lw_d226 : decode code 226 = .ok (.istore 5, 2) := by decide +kernel
theorem lw_d228 : decode code 228 = .ok (.aload_n 2, 1) := by decide +kernel
theorem lw_d229 : decode code 229 = .ok (.invokevirtual 70, 3) := by decide +kernel
theorem lw_d232 : decode code 232 = .ok (.istore 6, 2) := by decide +kernel
theorem lw_d234 : decode code 234 = .ok (.aload_n 2, 1) := by decide +kernel
theorem lw_d235 : decode code 235 = .ok (.invokevirtual 65, 3) := by decide +kernel
theorem lw_d238 : decode code 238 = .ok (.iload 5, 2) := by decide +kernel
theorem lw_d240 : decode code 240 = .ok (.if_icmp .eq 5, 3) := by decide +kernel
theorem lw_d243 : decode code 243 = .ok (.iconst 0, 1) := by decide +kernel
theorem lw_d244 : decode code 244 = .ok (.ireturn, 1) := by decide +kernel
theorem lw_d245 : decode code 245 = .ok (.iload 5, 2) := by decide +kernel
theorem lw_d247 : decode code 247 = .ok (.ifCond .ne 15, 3) := by decide +kernel
theorem lw_d250 : decode code 250 = .ok (.aload_n 3, 1) := by decide +kernel
theorem lw_d251 : decode code 251 = .ok (.iconst 0, 1) := by decide +kernel
theorem lw_d252 : decode code 252 = .ok (.laload, 1) := by decide +kernel
theorem lw_d253 : decode code 253 = .ok (.iload 6, 2) := by decide +kernel
theorem lw_d255 : decode code 255 = .ok (.i2l, 1) := by decide +kernel
theorem lw_d256 : decode code 256 = .ok (.lcmp, 1) := by decide +kernel
theorem lw_d257 : decode code 257 = .ok (.ifCond .eq 5, 3) := by decide +kernel
theorem lw_d260 : decode code 260 = .ok (.iconst 0, 1) := by decide +kernel
theorem lw_d261 : decode code 261 = .ok (.ireturn, 1) := by decide +kernel
theorem lw_d262 : decode code 262 = .ok (.goto 421, 3) := by decide +kernel
theorem lw_d265 : decode code 265 = .ok (.aload_n 1, 1) := by decide +kernel
theorem lw_d266 : decode code 266 = .ok (.invokevirtual 71, 3) := by decide +kernel
theorem lw_d269 : decode code 269 = .ok (.aload_n 2, 1) := by decide +kernel
theorem lw_d270 : decode code 270 = .ok (.invokevirtual 74, 3) := by decide +kernel
theorem lw_d273 : decode code 273 = .ok (.if_icmp .eq 410, 3) := by decide +kernel
theorem lw_d276 : decode code 276 = .ok (.iconst 0, 1) := by decide +kernel
theorem lw_d277 : decode code 277 = .ok (.ireturn, 1) := by decide +kernel
theorem lw_d278 : decode code 278 = .ok (.aload_n 1, 1) := by decide +kernel
theorem lw_d279 : decode code 279 = .ok (.aload_n 0, 1) := by decide +kernel
theorem lw_d280 : decode code 280 = .ok (.iload 4, 2) := by decide +kernel
theorem lw_d282 : decode code 282 = .ok (.iconst 1, 1) := by decide +kernel
theorem lw_d283 : decode code 283 = .ok (.iadd, 1) := by decide +kernel
theorem lw_d284 : decode code 284 = .ok (.iaload, 1) := by decide +kernel
theorem lw_d285 : decode code 285 = .ok (.aload_n 3, 1) := by decide +kernel
theorem lw_d286 : decode code 286 = .ok (.invokestatic 75, 3) := by decide +kernel
theorem lw_d289 : decode code 289 = .ok (.istore 5, 2) := by decide +kernel
theorem lw_d291 : decode code 291 = .ok (.aload_n 2, 1) := by decide +kernel
theorem lw_d292 : decode code 292 = .ok (.aload_n 0, 1) := by decide +kernel
theorem lw_d293 : decode code 293 = .ok (.iload 4, 2) := by decide +kernel
theorem lw_d295 : decode code 295 = .ok (.iconst 1, 1) := by decide +kernel
theorem lw_d296 : decode code 296 = .ok (.iadd, 1) := by decide +kernel
theorem lw_d297 : decode code 297 = .ok (.iaload, 1) := by decide +kernel
theorem lw_d298 : decode code 298 = .ok (.invokevirtual 78, 3) := by decide +kernel
theorem lw_d301 : decode code 301 = .ok (.istore 6, 2) := by decide +kernel
theorem lw_d303 : decode code 303 = .ok (.aload_n 2, 1) := by decide +kernel
theorem lw_d304 : decode code 304 = .ok (.invokevirtual 65, 3) := by decide +kernel
theorem lw_d307 : decode code 307 = .ok (.iload 5, 2) := by decide +kernel
theorem lw_d309 : decode code 309 = .ok (.if_icmp .eq 5, 3) := by decide +kernel
theorem lw_d312 : decode code 312 = .ok (.iconst 0, 1) := by decide +kernel
theorem lw_d313 : decode code 313 = .ok (.ireturn, 1) := by decide +kernel
theorem lw_d314 : decode code 314 = .ok (.iload 5, 2) := by decide +kernel
theorem lw_d316 : decode code 316 = .ok (.ifCond .ne 15, 3) := by decide +kernel
theorem lw_d319 : decode code 319 = .ok (.aload_n 3, 1) := by decide +kernel
theorem lw_d320 : decode code 320 = .ok (.iconst 0, 1) := by decide +kernel
theorem lw_d321 : decode code 321 = .ok (.laload, 1) := by decide +kernel
theorem lw_d322 : decode code 322 = .ok (.iload 6, 2) := by decide +kernel
theorem lw_d324 : decode code 324 = .ok (.i2l, 1) := by decide +kernel
theorem lw_d325 : decode code 325 = .ok (.lcmp, 1) := by decide +kernel
theorem lw_d326 : decode code 326 = .ok (.ifCond .eq 5, 3) := by decide +kernel
theorem lw_d329 : decode code 329 = .ok (.iconst 0, 1) := by decide +kernel
theorem lw_d330 : decode code 330 = .ok (.ireturn, 1) := by decide +kernel
theorem lw_d331 : decode code 331 = .ok (.goto 352, 3) := by decide +kernel
theorem lw_d334 : decode code 334 = .ok (.aload_n 1, 1) := by decide +kernel
theorem lw_d335 : decode code 335 = .ok (.aload_n 3, 1) := by decide +kernel
theorem lw_d336 : decode code 336 = .ok (.invokestatic 79, 3) := by decide +kernel
theorem lw_d339 : decode code 339 = .ok (.istore 5, 2) := by decide +kernel
theorem lw_d341 : decode code 341 = .ok (.aload_n 2, 1) := by decide +kernel
theorem lw_d342 : decode code 342 = .ok (.invokevirtual 81, 3) := by decide +kernel
theorem lw_d345 : decode code 345 = .ok (.istore 6, 2) := by decide +kernel
theorem lw_d347 : decode code 347 = .ok (.aload_n 2, 1) := by decide +kernel
theorem lw_d348 : decode code 348 = .ok (.invokevirtual 65, 3) := by decide +kernel
theorem lw_d351 : decode code 351 = .ok (.iload 5, 2) := by decide +kernel
theorem lw_d353 : decode code 353 = .ok (.if_icmp .eq 5, 3) := by decide +kernel
theorem lw_d356 : decode code 356 = .ok (.iconst 0, 1) := by decide +kernel
theorem lw_d357 : decode code 357 = .ok (.ireturn, 1) := by decide +kernel
theorem lw_d358 : decode code 358 = .ok (.iload 5, 2) := by decide +kernel
theorem lw_d360 : decode code 360 = .ok (.ifCond .ne 15, 3) := by decide +kernel
theorem lw_d363 : decode code 363 = .ok (.aload_n 3, 1) := by decide +kernel
theorem lw_d364 : decode code 364 = .ok (.iconst 0, 1) := by decide +kernel
theorem lw_d365 : decode code 365 = .ok (.laload, 1) := by decide +kernel
theorem lw_d366 : decode code 366 = .ok (.iload 6, 2) := by decide +kernel
theorem lw_d368 : decode code 368 = .ok (.i2l, 1) := by decide +kernel
theorem lw_d369 : decode code 369 = .ok (.lcmp, 1) := by decide +kernel
theorem lw_d370 : decode code 370 = .ok (.ifCond .eq 5, 3) := by decide +kernel
theorem lw_d373 : decode code 373 = .ok (.iconst 0, 1) := by decide +kernel
theorem lw_d374 : decode code 374 = .ok (.ireturn, 1) := by decide +kernel
theorem lw_d375 : decode code 375 = .ok (.goto 308, 3) := by decide +kernel
theorem lw_d378 : decode code 378 = .ok (.aload_n 1, 1) := by decide +kernel
theorem lw_d379 : decode code 379 = .ok (.aload_n 0, 1) := by decide +kernel
theorem lw_d380 : decode code 380 = .ok (.iload 4, 2) := by decide +kernel
theorem lw_d382 : decode code 382 = .ok (.iconst 1, 1) := by decide +kernel
theorem lw_d383 : decode code 383 = .ok (.iadd, 1) := by decide +kernel
theorem lw_d384 : decode code 384 = .ok (.iaload, 1) := by decide +kernel
theorem lw_d385 : decode code 385 = .ok (.aload_n 3, 1) := by decide +kernel
theorem lw_d386 : decode code 386 = .ok (.invokestatic 82, 3) := by decide +kernel
theorem lw_d389 : decode code 389 = .ok (.istore 5, 2) := by decide +kernel
theorem lw_d391 : decode code 391 = .ok (.aload_n 2, 1) := by decide +kernel
theorem lw_d392 : decode code 392 = .ok (.aload_n 0, 1) := by decide +kernel
theorem lw_d393 : decode code 393 = .ok (.iload 4, 2) := by decide +kernel
theorem lw_d395 : decode code 395 = .ok (.iconst 1, 1) := by decide +kernel
theorem lw_d396 : decode code 396 = .ok (.iadd, 1) := by decide +kernel
theorem lw_d397 : decode code 397 = .ok (.iaload, 1) := by decide +kernel
theorem lw_d398 : decode code 398 = .ok (.invokevirtual 84, 3) := by decide +kernel
theorem lw_d401 : decode code 401 = .ok (.istore 6, 2) := by decide +kernel
theorem lw_d403 : decode code 403 = .ok (.aload_n 2, 1) := by decide +kernel
theorem lw_d404 : decode code 404 = .ok (.invokevirtual 65, 3) := by decide +kernel
theorem lw_d407 : decode code 407 = .ok (.iload 5, 2) := by decide +kernel
theorem lw_d409 : decode code 409 = .ok (.if_icmp .eq 5, 3) := by decide +kernel
theorem lw_d412 : decode code 412 = .ok (.iconst 0, 1) := by decide +kernel
theorem lw_d413 : decode code 413 = .ok (.ireturn, 1) := by decide +kernel
theorem lw_d414 : decode code 414 = .ok (.iload 5, 2) := by decide +kernel
theorem lw_d416 : decode code 416 = .ok (.ifCond .ne 15, 3) := by decide +kernel
theorem lw_d419 : decode code 419 = .ok (.aload_n 3, 1) := by decide +kernel
theorem lw_d420 : decode code 420 = .ok (.iconst 0, 1) := by decide +kernel
theorem lw_d421 : decode code 421 = .ok (.laload, 1) := by decide +kernel
theorem lw_d422 : decode code 422 = .ok (.iload 6, 2) := by decide +kernel
theorem lw_d424 : decode code 424 = .ok (.i2l, 1) := by decide +kernel
theorem lw_d425 : decode code 425 = .ok (.lcmp, 1) := by decide +kernel
theorem lw_d426 : decode code 426 = .ok (.ifCond .eq 5, 3) := by decide +kernel
theorem lw_d429 : decode code 429 = .ok (.iconst 0, 1) := by decide +kernel
theorem lw_d430 : decode code 430 = .ok (.ireturn, 1) := by decide +kernel
theorem lw_d431 : decode code 431 = .ok (.goto 252, 3) := by decide +kernel
theorem lw_d434 : decode code 434 = .ok (.aload_n 1, 1) := by decide +kernel
theorem lw_d435 : decode code 435 = .ok (.aload_n 0, 1) := by decide +kernel
theorem lw_d436 : decode code 436 = .ok (.iload 4, 2) := by decide +kernel
theorem lw_d438 : decode code 438 = .ok (.iconst 1, 1) := by decide +kernel
theorem lw_d439 : decode code 439 = .ok (.iadd, 1) := by decide +kernel
theorem lw_d440 : decode code 440 = .ok (.iaload, 1) := by decide +kernel
theorem lw_d441 : decode code 441 = .ok (.aload_n 0, 1) := by decide +kernel
theorem lw_d442 : decode code 442 = .ok (.iload 4, 2) := by decide +kernel
theorem lw_d444 : decode code 444 = .ok (.iconst 2, 1) := by decide +kernel
theorem lw_d445 : decode code 445 = .ok (.iadd, 1) := by decide +kernel
theorem lw_d446 : decode code 446 = .ok (.iaload, 1) := by decide +kernel
theorem lw_d447 : decode code 447 = .ok (.aload_n 3, 1) := by decide +kernel
theorem lw_d448 : decode code 448 = .ok (.invokestatic 85, 3) := by decide +kernel
theorem lw_d451 : decode code 451 = .ok (.istore 5, 2) := by decide +kernel
theorem lw_d453 : decode code 453 = .ok (.aload_n 2, 1) := by decide +kernel
theorem lw_d454 : decode code 454 = .ok (.aload_n 0, 1) := by decide +kernel
theorem lw_d455 : decode code 455 = .ok (.iload 4, 2) := by decide +kernel
theorem lw_d457 : decode code 457 = .ok (.iconst 1, 1) := by decide +kernel
theorem lw_d458 : decode code 458 = .ok (.iadd, 1) := by decide +kernel
theorem lw_d459 : decode code 459 = .ok (.iaload, 1) := by decide +kernel
theorem lw_d460 : decode code 460 = .ok (.aload_n 0, 1) := by decide +kernel
theorem lw_d461 : decode code 461 = .ok (.iload 4, 2) := by decide +kernel
theorem lw_d463 : decode code 463 = .ok (.iconst 2, 1) := by decide +kernel
theorem lw_d464 : decode code 464 = .ok (.iadd, 1) := by decide +kernel
theorem lw_d465 : decode code 465 = .ok (.iaload, 1) := by decide +kernel
theorem lw_d466 : decode code 466 = .ok (.invokevirtual 88, 3) := by decide +kernel
theorem lw_d469 : decode code 469 = .ok (.istore 6, 2) := by decide +kernel
theorem lw_d471 : decode code 471 = .ok (.aload_n 2, 1) := by decide +kernel
theorem lw_d472 : decode code 472 = .ok (.invokevirtual 65, 3) := by decide +kernel
theorem lw_d475 : decode code 475 = .ok (.iload 5, 2) := by decide +kernel
theorem lw_d477 : decode code 477 = .ok (.if_icmp .eq 5, 3) := by decide +kernel
theorem lw_d480 : decode code 480 = .ok (.iconst 0, 1) := by decide +kernel
theorem lw_d481 : decode code 481 = .ok (.ireturn, 1) := by decide +kernel
theorem lw_d482 : decode code 482 = .ok (.iload 5, 2) := by decide +kernel
theorem lw_d484 : decode code 484 = .ok (.ifCond .ne 15, 3) := by decide +kernel
theorem lw_d487 : decode code 487 = .ok (.aload_n 3, 1) := by decide +kernel
theorem lw_d488 : decode code 488 = .ok (.iconst 0, 1) := by decide +kernel
theorem lw_d489 : decode code 489 = .ok (.laload, 1) := by decide +kernel
theorem lw_d490 : decode code 490 = .ok (.iload 6, 2) := by decide +kernel
theorem lw_d492 : decode code 492 = .ok (.i2l, 1) := by decide +kernel
theorem lw_d493 : decode code 493 = .ok (.lcmp, 1) := by decide +kernel
theorem lw_d494 : decode code 494 = .ok (.ifCond .eq 5, 3) := by decide +kernel
theorem lw_d497 : decode code 497 = .ok (.iconst 0, 1) := by decide +kernel
theorem lw_d498 : decode code 498 = .ok (.ireturn, 1) := by decide +kernel
theorem lw_d499 : decode code 499 = .ok (.goto 184, 3) := by decide +kernel
theorem lw_d502 : decode code 502 = .ok (.aload_n 1, 1) := by decide +kernel
theorem lw_d503 : decode code 503 = .ok (.aload_n 0, 1) := by decide +kernel
theorem lw_d504 : decode code 504 = .ok (.iload 4, 2) := by decide +kernel
theorem lw_d506 : decode code 506 = .ok (.iconst 1, 1) := by decide +kernel
theorem lw_d507 : decode code 507 = .ok (.iadd, 1) := by decide +kernel
theorem lw_d508 : decode code 508 = .ok (.iaload, 1) := by decide +kernel
theorem lw_d509 : decode code 509 = .ok (.aload_n 3, 1) := by decide +kernel
theorem lw_d510 : decode code 510 = .ok (.invokestatic 89, 3) := by decide +kernel
theorem lw_d513 : decode code 513 = .ok (.istore 5, 2) := by decide +kernel
theorem lw_d515 : decode code 515 = .ok (.aload_n 2, 1) := by decide +kernel
theorem lw_d516 : decode code 516 = .ok (.aload_n 0, 1) := by decide +kernel
theorem lw_d517 : decode code 517 = .ok (.iload 4, 2) := by decide +kernel
theorem lw_d519 : decode code 519 = .ok (.iconst 1, 1) := by decide +kernel
theorem lw_d520 : decode code 520 = .ok (.iadd, 1) := by decide +kernel
theorem lw_d521 : decode code 521 = .ok (.iaload, 1) := by decide +kernel
theorem lw_d522 : decode code 522 = .ok (.invokevirtual 91, 3) := by decide +kernel
theorem lw_d525 : decode code 525 = .ok (.istore 6, 2) := by decide +kernel
theorem lw_d527 : decode code 527 = .ok (.aload_n 2, 1) := by decide +kernel
theorem lw_d528 : decode code 528 = .ok (.invokevirtual 65, 3) := by decide +kernel
theorem lw_d531 : decode code 531 = .ok (.iload 5, 2) := by decide +kernel
theorem lw_d533 : decode code 533 = .ok (.if_icmp .eq 5, 3) := by decide +kernel
theorem lw_d536 : decode code 536 = .ok (.iconst 0, 1) := by decide +kernel
theorem lw_d537 : decode code 537 = .ok (.ireturn, 1) := by decide +kernel
theorem lw_d538 : decode code 538 = .ok (.iload 5, 2) := by decide +kernel
theorem lw_d540 : decode code 540 = .ok (.ifCond .ne 15, 3) := by decide +kernel
theorem lw_d543 : decode code 543 = .ok (.aload_n 3, 1) := by decide +kernel
theorem lw_d544 : decode code 544 = .ok (.iconst 0, 1) := by decide +kernel
theorem lw_d545 : decode code 545 = .ok (.laload, 1) := by decide +kernel
theorem lw_d546 : decode code 546 = .ok (.iload 6, 2) := by decide +kernel
theorem lw_d548 : decode code 548 = .ok (.i2l, 1) := by decide +kernel
theorem lw_d549 : decode code 549 = .ok (.lcmp, 1) := by decide +kernel
theorem lw_d550 : decode code 550 = .ok (.ifCond .eq 5, 3) := by decide +kernel
theorem lw_d553 : decode code 553 = .ok (.iconst 0, 1) := by decide +kernel
theorem lw_d554 : decode code 554 = .ok (.ireturn, 1) := by decide +kernel
theorem lw_d555 : decode code 555 = .ok (.goto 128, 3) := by decide +kernel
theorem lw_d558 : decode code 558 = .ok (.aload_n 1, 1) := by decide +kernel
theorem lw_d559 : decode code 559 = .ok (.aload_n 0, 1) := by decide +kernel
theorem lw_d560 : decode code 560 = .ok (.iload 4, 2) := by decide +kernel
theorem lw_d562 : decode code 562 = .ok (.iconst 1, 1) := by decide +kernel
theorem lw_d563 : decode code 563 = .ok (.iadd, 1) := by decide +kernel
theorem lw_d564 : decode code 564 = .ok (.iaload, 1) := by decide +kernel
theorem lw_d565 : decode code 565 = .ok (.invokevirtual 92, 3) := by decide +kernel
theorem lw_d568 : decode code 568 = .ok (.aload_n 2, 1) := by decide +kernel
theorem lw_d569 : decode code 569 = .ok (.aload_n 0, 1) := by decide +kernel
theorem lw_d570 : decode code 570 = .ok (.iload 4, 2) := by decide +kernel
theorem lw_d572 : decode code 572 = .ok (.iconst 1, 1) := by decide +kernel
theorem lw_d573 : decode code 573 = .ok (.iadd, 1) := by decide +kernel
theorem lw_d574 : decode code 574 = .ok (.iaload, 1) := by decide +kernel
theorem lw_d575 : decode code 575 = .ok (.invokevirtual 96, 3) := by decide +kernel
theorem lw_d578 : decode code 578 = .ok (.if_icmp .eq 105, 3) := by decide +kernel
theorem lw_d581 : decode code 581 = .ok (.iconst 0, 1) := by decide +kernel
theorem lw_d582 : decode code 582 = .ok (.ireturn, 1) := by decide +kernel
theorem lw_d583 : decode code 583 = .ok (.aload_n 1, 1) := by decide +kernel
theorem lw_d584 : decode code 584 = .ok (.aload_n 3, 1) := by decide +kernel
theorem lw_d585 : decode code 585 = .ok (.invokestatic 97, 3) := by decide +kernel
theorem lw_d588 : decode code 588 = .ok (.istore 5, 2) := by decide +kernel
theorem lw_d590 : decode code 590 = .ok (.aload_n 2, 1) := by decide +kernel
theorem lw_d591 : decode code 591 = .ok (.invokevirtual 99, 3) := by decide +kernel
theorem lw_d594 : decode code 594 = .ok (.istore 6, 2) := by decide +kernel
theorem lw_d596 : decode code 596 = .ok (.aload_n 2, 1) := by decide +kernel
theorem lw_d597 : decode code 597 = .ok (.invokevirtual 65, 3) := by decide +kernel
theorem lw_d600 : decode code 600 = .ok (.iload 5, 2) := by decide +kernel
theorem lw_d602 : decode code 602 = .ok (.if_icmp .eq 5, 3) := by decide +kernel
theorem lw_d605 : decode code 605 = .ok (.iconst 0, 1) := by decide +kernel
theorem lw_d606 : decode code 606 = .ok (.ireturn, 1) := by decide +kernel
theorem lw_d607 : decode code 607 = .ok (.iload 5, 2) := by decide +kernel
theorem lw_d609 : decode code 609 = .ok (.ifCond .ne 15, 3) := by decide +kernel
theorem lw_d612 : decode code 612 = .ok (.aload_n 3, 1) := by decide +kernel
theorem lw_d613 : decode code 613 = .ok (.iconst 0, 1) := by decide +kernel
theorem lw_d614 : decode code 614 = .ok (.laload, 1) := by decide +kernel
theorem lw_d615 : decode code 615 = .ok (.iload 6, 2) := by decide +kernel
theorem lw_d617 : decode code 617 = .ok (.i2l, 1) := by decide +kernel
theorem lw_d618 : decode code 618 = .ok (.lcmp, 1) := by decide +kernel
theorem lw_d619 : decode code 619 = .ok (.ifCond .eq 5, 3) := by decide +kernel
theorem lw_d622 : decode code 622 = .ok (.iconst 0, 1) := by decide +kernel
theorem lw_d623 : decode code 623 = .ok (.ireturn, 1) := by decide +kernel
theorem lw_d624 : decode code 624 = .ok (.goto 59, 3) := by decide +kernel
theorem lw_d627 : decode code 627 = .ok (.aload_n 1, 1) := by decide +kernel
theorem lw_d628 : decode code 628 = .ok (.aload_n 0, 1) := by decide +kernel
theorem lw_d629 : decode code 629 = .ok (.iload 4, 2) := by decide +kernel
theorem lw_d631 : decode code 631 = .ok (.iconst 1, 1) := by decide +kernel
theorem lw_d632 : decode code 632 = .ok (.iadd, 1) := by decide +kernel
theorem lw_d633 : decode code 633 = .ok (.iaload, 1) := by decide +kernel
theorem lw_d634 : decode code 634 = .ok (.aload_n 3, 1) := by decide +kernel
theorem lw_d635 : decode code 635 = .ok (.invokestatic 100, 3) := by decide +kernel
theorem lw_d638 : decode code 638 = .ok (.istore 5, 2) := by decide +kernel
theorem lw_d640 : decode code 640 = .ok (.aload_n 2, 1) := by decide +kernel
theorem lw_d641 : decode code 641 = .ok (.aload_n 0, 1) := by decide +kernel
theorem lw_d642 : decode code 642 = .ok (.iload 4, 2) := by decide +kernel
theorem lw_d644 : decode code 644 = .ok (.iconst 1, 1) := by decide +kernel
theorem lw_d645 : decode code 645 = .ok (.iadd, 1) := by decide +kernel
theorem lw_d646 : decode code 646 = .ok (.iaload, 1) := by decide +kernel
theorem lw_d647 : decode code 647 = .ok (.invokevirtual 102, 3) := by decide +kernel
theorem lw_d650 : decode code 650 = .ok (.istore 6, 2) := by decide +kernel
theorem lw_d652 : decode code 652 = .ok (.aload_n 2, 1) := by decide +kernel
theorem lw_d653 : decode code 653 = .ok (.invokevirtual 65, 3) := by decide +kernel
theorem lw_d656 : decode code 656 = .ok (.iload 5, 2) := by decide +kernel
theorem lw_d658 : decode code 658 = .ok (.if_icmp .eq 5, 3) := by decide +kernel
theorem lw_d661 : decode code 661 = .ok (.iconst 0, 1) := by decide +kernel
theorem lw_d662 : decode code 662 = .ok (.ireturn, 1) := by decide +kernel
theorem lw_d663 : decode code 663 = .ok (.iload 5, 2) := by decide +kernel
theorem lw_d665 : decode code 665 = .ok (.ifCond .ne 15, 3) := by decide +kernel
theorem lw_d668 : decode code 668 = .ok (.aload_n 3, 1) := by decide +kernel
theorem lw_d669 : decode code 669 = .ok (.iconst 0, 1) := by decide +kernel
theorem lw_d670 : decode code 670 = .ok (.laload, 1) := by decide +kernel
theorem lw_d671 : decode code 671 = .ok (.iload 6, 2) := by decide +kernel
theorem lw_d673 : decode code 673 = .ok (.i2l, 1) := by decide +kernel
theorem lw_d674 : decode code 674 = .ok (.lcmp, 1) := by decide +kernel
theorem lw_d675 : decode code 675 = .ok (.ifCond .eq 5, 3) := by decide +kernel
theorem lw_d678 : decode code 678 = .ok (.iconst 0, 1) := by decide +kernel
theorem lw_d679 : decode code 679 = .ok (.ireturn, 1) := by decide +kernel
theorem lw_d680 : decode code 680 = .ok (.goto 3, 3) := by decide +kernel
theorem lw_d683 : decode code 683 = .ok (.iinc 4 6, 3) := by decide +kernel
theorem lw_d686 : decode code 686 = .ok (.goto (-663), 3) := by decide +kernel
theorem lw_d689 : decode code 689 = .ok (.iconst 1, 1) := by decide +kernel
theorem lw_d690 : decode code 690 = .ok (.ireturn, 1) := by decide +kernel
end
section
def lw_B : xi_L := [(4, .int 0), (3, .ref 386), (2, .ref 344), (1, .ref 0), (0, .retAddr 30)]
theorem lw_oks {y : Nat} {Mc : xi_M} (h : xi_ms[y]? = some Mc) : plainName Mc.1.cls = true := by
  have h9 := xi_oks _ _ h
  simp only [xi_okM, Bool.and_eq_true] at h9
  exact h9.1
section LW0
variable {z : xi_Z} {cc : ByteArray} {own : String} {pc : Nat} {lv : xi_L} {r : List Value} {A : xi_H}
theorem xs_tabIn {dflt lo hi : Int} {offs : Array Int} {len : Nat} {x : Int32} {off : Int} {tgt : Nat} (X : xi_X z cc own) (hd : decode cc pc = .ok (.tableswitch dflt lo hi offs, len)) (h1 : ¬ x.toInt < lo) (h2 : ¬ hi < x.toInt) (ho : offs[(x.toInt - lo).toNat]? = some off) (ht : (pc : Int) + off = (tgt : Int)) (kk : xi_At z tgt lv r A) : xi_At z pc lv (.int x :: r) A := by
  obtain ⟨p, l, e, R, s, m, args, below, meth, c, Q, nL, b0, aS, dA, D, n0, s0⟩ := z
  obtain ⟨hx, hb, -⟩ := X
  intro H locs ls hR hl
  exact lv_tableIn hx hb hd h1 h2 ho ht (kk H locs ls hR hl)
theorem xs_tabOut {dflt lo hi : Int} {offs : Array Int} {len : Nat} {x : Int32} {tgt : Nat} (X : xi_X z cc own) (hd : decode cc pc = .ok (.tableswitch dflt lo hi offs, len)) (h : x.toInt < lo ∨ hi < x.toInt) (ht : (pc : Int) + dflt = (tgt : Int)) (kk : xi_At z tgt lv r A) : xi_At z pc lv (.int x :: r) A := by
  obtain ⟨p, l, e, R, s, m, args, below, meth, c, Q, nL, b0, aS, dA, D, n0, s0⟩ := z
  obtain ⟨hx, hb, -⟩ := X
  intro H locs ls hR hl
  exact lv_tableOut hx hb hd h ht (kk H locs ls hR hl)
end LW0
section LW
variable {p : Program} {l : Launch} {e : Env} {R : Room} {s : State} {m : MethodId} {args : Array Value} {below : List Frame} {meth : Method} {c : Code} {Q : State → Prop} {nL b0 : Nat} {aS : Nat → Nat} {dA : Nat → ClassId} {D : va_G} {n0 s0 : Nat}
variable {A A' : xi_H} {cc : ByteArray} {own : String} {pc i : Nat} {lv : xi_L} {r : List Value} {xs : Nat → Int32} {L : Nat}
theorem xs_slen (X : xi_X (p, l, e, R, s, m, args, below, meth, c, Q, nL, s.heap.size, aS, dA, D, n0, s0) cc own) (hX : va_X (aS 30) L xs s s.heap) (hbl : aS 30 < s.heap.size) (hd : decode cc pc = .ok (.arraylength, 1)) (kk : xi_At (p, l, e, R, s, m, args, below, meth, c, Q, nL, s.heap.size, aS, dA, D, n0, s0) (pc + 1) lv (.int (Int32.ofNat L) :: r) A) : xi_At (p, l, e, R, s, m, args, below, meth, c, Q, nL, s.heap.size, aS, dA, D, n0, s0) pc lv (.retAddr 30 :: r) A := by
  obtain ⟨hx, hb, -⟩ := X
  intro H locs ls hR hl
  exact va_slen hx hb hX hbl (Nat.not_le.mpr hbl) hR.2.1 hd (kk H locs ls hR hl)
theorem xs_sld {i : Int32} (X : xi_X (p, l, e, R, s, m, args, below, meth, c, Q, nL, s.heap.size, aS, dA, D, n0, s0) cc own) (hX : va_X (aS 30) L xs s s.heap) (hbl : aS 30 < s.heap.size) (hd : decode cc pc = .ok (.iaload, 1)) (hin : vp_in i L) (kk : xi_At (p, l, e, R, s, m, args, below, meth, c, Q, nL, s.heap.size, aS, dA, D, n0, s0) (pc + 1) lv (.int (xs i.toNatClampNeg) :: r) A) : xi_At (p, l, e, R, s, m, args, below, meth, c, Q, nL, s.heap.size, aS, dA, D, n0, s0) pc lv (.int i :: .retAddr 30 :: r) A := by
  obtain ⟨hx, hb, -⟩ := X
  intro H locs ls hR hl
  exact va_sld hx hb hX hbl (Nat.not_le.mpr hbl) hR.2.1 hin hd (kk H locs ls hR hl)
/-- a call of a virtual method whose run is known -/
theorem lw_V (htr : ∀ e, l.admits e → e.platform.stackTraces = false) (X : xi_X (p, l, e, room_1, s, m, args, below, meth, c, Q, nL, b0, aS, dA, D, 0, 0) code R_law) {x cM n : Nat} {tail : List Nat} (hd : decode code pc = .ok (.invokevirtual i, 3)) (hk : xi_okc xi_ms R_law code pc (.invokevirtual i) (x :: cM :: n :: tail) = true) {Mc : xi_M} (hMc : xi_ms[cM]? = some Mc) (hh : Mc.2.2.2.2.2 = []) (hnY : Mc.2.2.1 ≤ 71)
    {f b : Nat} {As rest st : List Value} {v : Value} (hr : xi_go xi_ms f cM 15 560 0 (lv_args 0 (.ref b :: As)) [] A = some (.returned (some v), A')) (hn : As.length = n) (hwt : xi_wt (.ref b :: As) ≤ Mc.2.2.1) {ci : Nat} {fs : List Value} {q : vw_C} (hb : A[b]? = some (.inr (ci, fs))) (hq : xi_cl[ci]? = some q) (hqn : q.1 = Mc.1.cls)
    (hL : A'.length ≤ 600002) (hN : xi_ns A' ≤ 7302232) (h8 : (rest.map fun v => v.category).sum ≤ 8) (hst : st = As.reverse ++ .ref b :: rest)
    (kk : xi_At (p, l, e, room_1, s, m, args, below, meth, c, Q, nL, b0, aS, dA, D, 0, 0) (pc + 3) lv (v :: rest) A') : xi_At (p, l, e, room_1, s, m, args, below, meth, c, Q, nL, b0, aS, dA, D, 0, 0) pc lv st A := by
  subst hst
  obtain ⟨C, T, N⟩ := q
  obtain ⟨⟨w1, w2, w3, w4, w5⟩, hy, hn'⟩ := xi_okc_v hk hMc
  have h0 : 0 < A.length := Nat.lt_of_le_of_lt (Nat.zero_le b) (List.getElem?_eq_some_iff.mp hb).1
  have hm1 := xi_mono xi_ms f _ _ _ _ _ _ _ _ _ hr
  simp only at hqn
  subst hqn
  subst hn
  exact xs_callV X hd (xi_contract htr (xi_sound xi_oks htr f) hMc (lw_oks hMc) hh hr hwt h0 b0 aS dA D) h0 hm1.1 hm1.2 (show A'.length - 0 ≤ 600002 by omega) (show xi_ns A' - 0 ≤ 7302232 by omega) (show 15 + 1 ≤ 17 by omega) (show 8 + (Mc.2.2.1 + 11) + 560 ≤ 650 by omega) w1 w2 w3 w4 w5 hy hn' hb hq h8 kk
def lw_okW (i cM n i1 i2 i4 i5 : Nat) : Bool := match xi_ms[cM]? with
  | some (y, cy, nY, ret, _, hs) => ((xi_Gat i1 (.methodLink R_law i y) && xi_Gat i2 (.static y)) && (xi_Gat i4 (.initialized y.cls) && xi_Gat i5 (.codeWith y cy nY ret (hs.map (fun (h : Nat × Nat × Nat × Nat × Nat) => (h.1, h.2.1, h.2.2.1, h.2.2.2.1)))))) && ((decide (y.cls ≠ "java/lang/invoke/MethodHandle") && decide (y.cls ≠ "java/lang/invoke/VarHandle")) && decide ((parseMethodDescriptor y.desc).map (fun d => d.parameters.length) = some n))
  | none => false
/-- a call of a helper, which catches -/
theorem lw_W (htr : ∀ e, l.admits e → e.platform.stackTraces = false) (X : xi_X (p, l, e, room_1, s, m, args, below, meth, c, Q, nL, b0, aS, dA, D, 0, 0) code R_law) {cM n i1 i2 i4 i5 : Nat} (hd : decode code pc = .ok (.invokestatic i, 3)) (hk : lw_okW i cM n i1 i2 i4 i5 = true) {Mc : xi_M} (hMc : xi_ms[cM]? = some Mc) (hnY : Mc.2.2.1 ≤ 71)
    {f : Nat} {As rest st : List Value} {v : Value} (hr : xi_go xi_ms f cM 15 560 0 (lv_args 0 As) [] A = some (.returned (some v), A')) (hn : As.length = n) (hwt : xi_wt As ≤ Mc.2.2.1) (h0 : 0 < A.length)
    (hL : A'.length ≤ 600002) (hN : xi_ns A' ≤ 7302232) (h8 : (rest.map fun v => v.category).sum ≤ 8) (hst : st = As.reverse ++ rest)
    (kk : xi_At (p, l, e, room_1, s, m, args, below, meth, c, Q, nL, b0, aS, dA, D, 0, 0) (pc + 3) lv (v :: rest) A') : xi_At (p, l, e, room_1, s, m, args, below, meth, c, Q, nL, b0, aS, dA, D, 0, 0) pc lv st A := by
  subst hst
  have hp := lw_oks hMc
  have hm1 := xi_mono xi_ms f _ _ _ _ _ _ _ _ _ hr
  have hC := xi_contractW htr (xi_sound xi_oks htr f) hMc hp hr hwt b0 aS dA D
  obtain ⟨y, cy, nY, ret, rows, hs⟩ := Mc
  simp only [lw_okW, hMc, Bool.and_eq_true, decide_eq_true_eq] at hk
  obtain ⟨⟨⟨q1, q2⟩, q4, q5⟩, ⟨q6, q7⟩, q8⟩ := hk
  subst hn
  simp only at hnY
  exact xs_callW X hd hC h0 hm1.1 hm1.2 (show A'.length - 0 ≤ 600002 by omega) (show xi_ns A' - 0 ≤ 7302232 by omega) (show 15 + 1 ≤ 17 by omega) (show 8 + (nY + 11) + 560 ≤ 650 by omega) (xi_Gm q1) (xi_Gm q2) (xi_Gm q4) (xi_Gm q5) ⟨q6, q7⟩ q8 h8 kk
/-- a constructor -/
theorem lw_I (htr : ∀ e, l.admits e → e.platform.stackTraces = false) (X : xi_X (p, l, e, room_1, s, m, args, below, meth, c, Q, nL, b0, aS, dA, D, 0, 0) code R_law) {cM n i1 i2 i4 i5 : Nat} (hd : decode code pc = .ok (.invokespecial i, 3)) (hk : xi_okc xi_ms R_law code pc (.invokespecial i) [1, cM, n, i1, i2, i4, i5] = true) {Mc : xi_M} (hMc : xi_ms[cM]? = some Mc) (hh : Mc.2.2.2.2.2 = []) (hnY : Mc.2.2.1 ≤ 71)
    {f b : Nat} {rest st : List Value} (hr : xi_go xi_ms f cM 14 500 0 (lv_args 0 [.ref b]) [] A = some (.returned none, A')) (hn : 0 = n) (hwt : 1 ≤ Mc.2.2.1) (h0 : 0 < A.length)
    (hL : A'.length ≤ 600002) (hN : xi_ns A' ≤ 7302232) (h8 : (rest.map fun v => v.category).sum ≤ 8) (hst : st = .ref b :: rest)
    (kk : xi_At (p, l, e, room_1, s, m, args, below, meth, c, Q, nL, b0, aS, dA, D, 0, 0) (pc + 3) lv rest A') : xi_At (p, l, e, room_1, s, m, args, below, meth, c, Q, nL, b0, aS, dA, D, 0, 0) pc lv st A := by
  subst hst
  obtain ⟨⟨w1, w2, w4, w5⟩, hy, hn', hnm, hret⟩ := xi_okc_i hk (fun a h => by cases h) hMc
  have hm1 := xi_mono xi_ms f _ _ _ _ _ _ _ _ _ hr
  have hC := xi_contract htr (xi_sound xi_oks htr f) hMc (lw_oks hMc) hh hr (show xi_wt [.ref b] ≤ Mc.2.2.1 from hwt) h0 b0 aS dA D
  rw [hret] at hC
  subst hn
  exact xs_callI (As := []) X hd hC h0 hm1.1 hm1.2 (show A'.length - 0 ≤ 600002 by omega) (show xi_ns A' - 0 ≤ 7302232 by omega) (show 14 + 1 ≤ 17 by omega) (show 8 + (Mc.2.2.1 + 11) + 500 ≤ 650 by omega) w1 w2 w4 w5 hnm hy hn' h8 kk
end LW
end
section
section LW
variable {p : Program} {l : Launch} {e : Env} {R : Room} {s : State} {m : MethodId} {args : Array Value} {below : List Frame} {meth : Method} {c : Code} {Q : State → Prop} {nL b0 : Nat} {aS : Nat → Nat} {dA : Nat → ClassId} {D : va_G} {n0 s0 : Nat}
variable {A A' : xi_H} {cc : ByteArray} {own : String} {pc i : Nat} {lv : xi_L} {r : List Value} {xs : Nat → Int32} {L : Nat}
theorem lw_fin (X : xi_X (p, l, e, room_1, s, m, #[Value.ref (aS 30)], below, meth, c, lw_Z below #[Value.ref (aS 30)] s, 7, s.heap.size, aS, dA, D, 0, 0) code R_law) (hret : meth.sig.returnType = ret) (hlk : meth.locks = false) (hL : A.length ≤ 600002) (hN : xi_ns A ≤ 7302232) : xi_At (p, l, e, room_1, s, m, #[Value.ref (aS 30)], below, meth, c, lw_Z below #[Value.ref (aS 30)] s, 7, s.heap.size, aS, dA, D, 0, 0) 689 lv [] A := by
  refine xs_iconst X lw_d689 ?_
  obtain ⟨hx, hb, -⟩ := X
  intro H locs ls hR hl
  exact va_forget (fun q hq => hR.2.1.2.2 q hq) (W.widen (show A.length - 0 ≤ 600002 by omega) (show xi_ns A - 0 ≤ 7302232 by omega) (lw_ret hx hb hret hlk lw_d690))
theorem lw_end (htr : ∀ e, l.admits e → e.platform.stackTraces = false) (X : xi_X (p, l, e, room_1, s, m, #[Value.ref (aS 30)], below, meth, c, lw_Z below #[Value.ref (aS 30)] s, 7, s.heap.size, aS, dA, D, 0, 0) code R_law) (hret : meth.sig.returnType = ret) (hlk : meth.locks = false) (hX : va_X (aS 30) 6 xs s s.heap) (hbl : aS 30 < s.heap.size) (hL : A.length ≤ 600002) (hN : xi_ns A ≤ 7302232) (h4 : xi_get lv 4 = some (.int 0)) (h40 : xi_get (xi_put1 lv 4 (.int (0 + Int32.ofInt 6))) 0 = some (.retAddr 30)) : xi_At (p, l, e, room_1, s, m, #[Value.ref (aS 30)], below, meth, c, lw_Z below #[Value.ref (aS 30)] s, 7, s.heap.size, aS, dA, D, 0, 0) 683 lv [] A := by
  refine xs_iinc X lw_d683 h4 (show 4 < 7 by omega) ?_
  refine xs_goto (tgt := 23) X lw_d686 (by decide) ?_
  refine xs_iload X lw_d23 (x := 0 + Int32.ofInt 6) rfl ?_
  refine xs_aload_n X lw_d25 h40 rfl ?_
  refine xs_slen X hX hbl lw_d26 ?_
  refine xs_bipush X lw_d27 ?_
  refine xs_isub X lw_d29 ?_
  refine xs_icmp_gt (tgt := 689) X lw_d30 (by decide) ?_
  rw [if_pos (by decide)]
  exact lw_fin X hret hlk hL hN
def lw_F (A : xi_H) : Prop := (A[0]? = some (.inr (0, e_l0)) ∧ A[1]? = some (.inr (1, e_l1)) ∧ A[331]? = some (.inr (11, e_lS)) ∧ A[344]? = some (.inr (13, e_lM))) ∧ (A[118]? = some (.inr (6, [.ref 1, .ref 7, .ref 104, .ref 119])) ∧ A[7]? = some (.inr (2, [.long 0, .ref 8, .ref 11, .ref 14, .ref 15, .ref 18, .ref 19, .ref 20])) ∧ A[8]? = some (.inr (3, [.ref 9, .ref 10, .int 0])) ∧ A[11]? = some (.inr (3, [.ref 12, .ref 13, .int 0])) ∧ A[15]? = some (.inr (3, [.ref 16, .ref 17, .int 0]))) ∧ ((∃ f, A[2]? = some (.inl (2, 600, .inl f))) ∧ (∃ f, A[345]? = some (.inl (0, 600, .inl f))) ∧ (∃ f, A[3]? = some (.inl (0, 601, .inl f))) ∧ (∃ f, A[4]? = some (.inl (0, 601, .inl f))) ∧ (∃ f, A[5]? = some (.inl (0, 601, .inl f))) ∧ (∃ f, A[335]? = some (.inl (0, 201, .inl f))) ∧ (∃ f, A[338]? = some (.inl (0, 512, .inl f))) ∧ (∃ f, A[347]? = some (.inl (0, 602, .inl f))) ∧ (∃ f, A[348]? = some (.inl (0, 602, .inl f)))) ∧ (∃ g, A[6]? = some (.inl (1, 601, .inr (.inl g)))) ∧ A.length = 387 ∧ xi_ns A = 17827
theorem lw_fresh {x : xi_E} (hx : xi_n x = 1) : lw_F (e_A2 ++ [x]) := by
  have h := e_chk_ok
  have h2 := e_chk2_ok
  simp only [e_chk, Bool.and_eq_true, decide_eq_true_eq] at h
  simp only [e_chk2, Bool.and_eq_true, decide_eq_true_eq] at h2
  obtain ⟨⟨-, ⟨-, hl⟩, -, hs⟩, ⟨⟨a0, a1⟩, a331, a344⟩, a2, a345⟩ := h
  obtain ⟨⟨⟨b118, b7⟩, b8, b11, b15⟩, ⟨⟨b3, b4⟩, b5, b335⟩, ⟨b338, b347⟩, b348, b6⟩ := h2
  have ap : ∀ {k : Nat} {q : xi_E}, k < 386 → e_A2[k]? = some q → (e_A2 ++ [x])[k]? = some q := fun hk hq => by rw [List.getElem?_append_left (by rw [hl]; exact hk)]; exact hq
  have ar : ∀ {k t n : Nat}, k < 386 → xi_arI e_A2 k t n = true → ∃ f, (e_A2 ++ [x])[k]? = some (.inl (t, n, .inl f)) := fun hk hq => by
    obtain ⟨f, hf⟩ := xi_arI_eq hq
    exact ⟨f, ap hk hf⟩
  refine ⟨⟨ap (by decide) (xi_obj_eq a0), ap (by decide) (xi_obj_eq a1), ap (by decide) (xi_obj_eq a331), ap (by decide) (xi_obj_eq a344)⟩, ⟨ap (by decide) (xi_obj_eq b118), ap (by decide) (xi_obj_eq b7), ap (by decide) (xi_obj_eq b8), ap (by decide) (xi_obj_eq b11), ap (by decide) (xi_obj_eq b15)⟩, ⟨ar (by decide) a2, ar (by decide) a345, ar (by decide) b3, ar (by decide) b4, ar (by decide) b5, ar (by decide) b335, ar (by decide) b338, ar (by decide) b347, ar (by decide) b348⟩, ?_, ?_, ?_⟩
  · obtain ⟨f, hf⟩ := xi_arL_eq b6
    exact ⟨f, ap (by decide) hf⟩
  · rw [List.length_append, hl]; rfl
  · rw [xi_ns_push, hs, hx]
end LW
end
section
section LW
variable {p : Program} {l : Launch} {e : Env} {R : Room} {s : State} {m : MethodId} {args : Array Value} {below : List Frame} {meth : Method} {c : Code} {Q : State → Prop} {nL b0 : Nat} {aS : Nat → Nat} {dA : Nat → ClassId} {D : va_G} {n0 s0 : Nat}
variable {A A' : xi_H} {cc : ByteArray} {own : String} {pc i : Nat} {lv : xi_L} {r : List Value} {xs : Nat → Int32} {L : Nat}
set_option maxHeartbeats 1000000 in
theorem lw_c0 (htr : ∀ e, l.admits e → e.platform.stackTraces = false) (X : xi_X (p, l, e, room_1, s, m, #[Value.ref (aS 30)], below, meth, c, lw_Z below #[Value.ref (aS 30)] s, 7, s.heap.size, aS, dA, D, 0, 0) code R_law) (hret : meth.sig.returnType = ret) (hlk : meth.locks = false) (hX : va_X (aS 30) 6 xs s s.heap) (hbl : aS 30 < s.heap.size) (F : lw_F A) : xi_At (p, l, e, room_1, s, m, #[Value.ref (aS 30)], below, meth, c, lw_Z below #[Value.ref (aS 30)] s, 7, s.heap.size, aS, dA, D, 0, 0) 104 lw_B [] A := by
  obtain ⟨⟨h0, h1, hS, hm⟩, ⟨hR118, h7, h8, h11, h15⟩, ⟨⟨f2, ha2⟩, ⟨f345, ha345⟩, ⟨f3, ha3⟩, ⟨f4, ha4⟩, ⟨f5, ha5⟩, ⟨f335, ha335⟩, ⟨f338, ha338⟩, ⟨f347, ha347⟩, ⟨f348, ha348⟩⟩, ⟨f6, ha6⟩, hlen, hns⟩ := F
  obtain ⟨A2, r1, hF⟩ := er_text h0 ⟨Nat.zero_le _, h1, f2, ha2⟩ (xs (0 + Int32.ofInt 1).toNatClampNeg) (xs (0 + Int32.ofInt 2).toNatClampNeg) (xs (0 + Int32.ofInt 3).toNatClampNeg) (xs (0 + Int32.ofInt 4).toNatClampNeg) (xs (0 + Int32.ofInt 5).toNatClampNeg)
  have hm1 := (hF.1 344 (by decide) (by decide)).trans hm
  have ha1 := (hF.1 345 (by decide) (by decide)).trans ha345
  have hl1 := hF.2.1
  have hn1 := hF.2.2
  obtain ⟨A3, r2, hl2, hn2⟩ := em_text hm1 ha1 (xs (0 + Int32.ofInt 1).toNatClampNeg) (xs (0 + Int32.ofInt 2).toNatClampNeg) (xs (0 + Int32.ofInt 3).toNatClampNeg) (xs (0 + Int32.ofInt 4).toNatClampNeg) (xs (0 + Int32.ofInt 5).toNatClampNeg)
  refine xs_aload_n (v := .ref 0) X lw_d104 rfl rfl ?_
  refine xs_aload_n (v := .retAddr 30) X lw_d105 rfl rfl ?_
  refine xs_iload (x := 0) X lw_d106 rfl ?_
  refine xs_iconst X lw_d108 ?_
  refine xs_iadd X lw_d109 ?_
  refine xs_sld X hX hbl lw_d110 (by unfold vp_in; decide) ?_
  refine xs_aload_n (v := .retAddr 30) X lw_d111 rfl rfl ?_
  refine xs_iload (x := 0) X lw_d112 rfl ?_
  refine xs_iconst X lw_d114 ?_
  refine xs_iadd X lw_d115 ?_
  refine xs_sld X hX hbl lw_d116 (by unfold vp_in; decide) ?_
  refine xs_aload_n (v := .retAddr 30) X lw_d117 rfl rfl ?_
  refine xs_iload (x := 0) X lw_d118 rfl ?_
  refine xs_iconst X lw_d120 ?_
  refine xs_iadd X lw_d121 ?_
  refine xs_sld X hX hbl lw_d122 (by unfold vp_in; decide) ?_
  refine xs_aload_n (v := .retAddr 30) X lw_d123 rfl rfl ?_
  refine xs_iload (x := 0) X lw_d124 rfl ?_
  refine xs_iconst X lw_d126 ?_
  refine xs_iadd X lw_d127 ?_
  refine xs_sld X hX hbl lw_d128 (by unfold vp_in; decide) ?_
  refine xs_aload_n (v := .retAddr 30) X lw_d129 rfl rfl ?_
  refine xs_iload (x := 0) X lw_d130 rfl ?_
  refine xs_iconst X lw_d132 ?_
  refine xs_iadd X lw_d133 ?_
  refine xs_sld X hX hbl lw_d134 (by unfold vp_in; decide) ?_
  refine lw_V (x := 0) (cM := 1) (n := 5) (tail := [2226, 2227, 2228, 1001, 2229]) (rest := []) htr X lw_d135 (by decide +kernel) (Mc := xi_m1) rfl rfl (show 8 ≤ 71 by decide) r1 rfl (show 6 ≤ 8 by decide) h0 (q := ("CheapPlanner", xi_fT 0, 13)) rfl rfl (by omega) (by omega) (show 0 ≤ 8 by decide) rfl ?_
  refine xs_aload_n (v := .ref 344) X lw_d138 rfl rfl ?_
  refine xs_aload_n (v := .retAddr 30) X lw_d139 rfl rfl ?_
  refine xs_iload (x := 0) X lw_d140 rfl ?_
  refine xs_iconst X lw_d142 ?_
  refine xs_iadd X lw_d143 ?_
  refine xs_sld X hX hbl lw_d144 (by unfold vp_in; decide) ?_
  refine xs_aload_n (v := .retAddr 30) X lw_d145 rfl rfl ?_
  refine xs_iload (x := 0) X lw_d146 rfl ?_
  refine xs_iconst X lw_d148 ?_
  refine xs_iadd X lw_d149 ?_
  refine xs_sld X hX hbl lw_d150 (by unfold vp_in; decide) ?_
  refine xs_aload_n (v := .retAddr 30) X lw_d151 rfl rfl ?_
  refine xs_iload (x := 0) X lw_d152 rfl ?_
  refine xs_iconst X lw_d154 ?_
  refine xs_iadd X lw_d155 ?_
  refine xs_sld X hX hbl lw_d156 (by unfold vp_in; decide) ?_
  refine xs_aload_n (v := .retAddr 30) X lw_d157 rfl rfl ?_
  refine xs_iload (x := 0) X lw_d158 rfl ?_
  refine xs_iconst X lw_d160 ?_
  refine xs_iadd X lw_d161 ?_
  refine xs_sld X hX hbl lw_d162 (by unfold vp_in; decide) ?_
  refine xs_aload_n (v := .retAddr 30) X lw_d163 rfl rfl ?_
  refine xs_iload (x := 0) X lw_d164 rfl ?_
  refine xs_iconst X lw_d166 ?_
  refine xs_iadd X lw_d167 ?_
  refine xs_sld X hX hbl lw_d168 (by unfold vp_in; decide) ?_
  refine lw_V (x := 0) (cM := 47) (n := 5) (tail := [6223, 6224, 6225, 1014, 6226]) (rest := [.int _]) htr X lw_d169 (by decide +kernel) (Mc := xi_m47) rfl rfl (show 10 ≤ 71 by decide) r2 rfl (show 6 ≤ 10 by decide) hm1 (q := ("CheapPlannerModel", xi_fT 13, 71)) rfl rfl (by omega) (by omega) (show 1 ≤ 8 by decide) rfl ?_
  refine xs_icmp_eq (tgt := 683) X lw_d172 (by decide) ?_
  rw [if_pos rfl]
  exact lw_end htr X hret hlk hX hbl (by omega) (by omega) rfl rfl
set_option maxHeartbeats 1000000 in
theorem lw_c1 (htr : ∀ e, l.admits e → e.platform.stackTraces = false) (X : xi_X (p, l, e, room_1, s, m, #[Value.ref (aS 30)], below, meth, c, lw_Z below #[Value.ref (aS 30)] s, 7, s.heap.size, aS, dA, D, 0, 0) code R_law) (hret : meth.sig.returnType = ret) (hlk : meth.locks = false) (hX : va_X (aS 30) 6 xs s s.heap) (hbl : aS 30 < s.heap.size) (F : lw_F A) : xi_At (p, l, e, room_1, s, m, #[Value.ref (aS 30)], below, meth, c, lw_Z below #[Value.ref (aS 30)] s, 7, s.heap.size, aS, dA, D, 0, 0) 177 lw_B [] A := by
  obtain ⟨⟨h0, h1, hS, hm⟩, ⟨hR118, h7, h8, h11, h15⟩, ⟨⟨f2, ha2⟩, ⟨f345, ha345⟩, ⟨f3, ha3⟩, ⟨f4, ha4⟩, ⟨f5, ha5⟩, ⟨f335, ha335⟩, ⟨f338, ha338⟩, ⟨f347, ha347⟩, ⟨f348, ha348⟩⟩, ⟨f6, ha6⟩, hlen, hns⟩ := F
  obtain ⟨A1, g1, g2, r1, hm1, hc1, hc2, hl1, hn1⟩ := er_domain h0 h1 hS hR118 h7 h8 h11 h15 hm ha3 ha4 ha5 ha6 ha335 ha338 ha347 ha348
  obtain ⟨A2, fs, r2, hm2, hf2, hl2, hn2⟩ := em_domain hm1 hc1 hc2
  have r3 := em_thrown hm2 hf2
  have hz1 : 0 < A1.length := Nat.lt_of_le_of_lt (Nat.zero_le 344) (List.getElem?_eq_some_iff.mp hm1).1
  refine xs_aload_n (v := .ref 0) X lw_d177 rfl rfl ?_
  refine xs_aload_n (v := .ref 386) X lw_d178 rfl rfl ?_
  refine lw_W (cM := 75) (n := 2) (i1 := 3022) (i2 := 3023) (i4 := 1000) (i5 := 3024) (rest := []) htr X lw_d179 (by decide +kernel) (Mc := xi_m75) rfl (show 3 ≤ 71 by decide) r1 rfl (show 2 ≤ 3 by decide) (by omega) (by omega) (by omega) (show 0 ≤ 8 by decide) rfl ?_
  refine xs_istore X lw_d182 (show 5 < 7 by omega) ?_
  refine xs_aload_n (v := .ref 344) X lw_d184 rfl rfl ?_
  refine lw_V (x := 0) (cM := 64) (n := 0) (tail := [6230, 6231, 6232, 1014, 6233]) (rest := []) htr X lw_d185 (by decide +kernel) (Mc := xi_m64) rfl rfl (show 1 ≤ 71 by decide) r2 rfl (show 1 ≤ 1 by decide) hm1 (q := ("CheapPlannerModel", xi_fT 13, 71)) rfl rfl (by omega) (by omega) (show 0 ≤ 8 by decide) rfl ?_
  refine xs_istore X lw_d188 (show 6 < 7 by omega) ?_
  refine xs_aload_n (v := .ref 344) X lw_d190 rfl rfl ?_
  refine lw_V (x := 0) (cM := 46) (n := 0) (tail := [6219, 6220, 6221, 1014, 6222]) (rest := []) htr X lw_d191 (by decide +kernel) (Mc := xi_m46) rfl rfl (show 1 ≤ 71 by decide) r3 rfl (show 1 ≤ 1 by decide) hm2 (q := ("CheapPlannerModel", xi_fT 13, 71)) rfl rfl (by omega) (by omega) (show 0 ≤ 8 by decide) rfl ?_
  refine xs_iload (x := 1) X lw_d194 rfl ?_
  refine xs_icmp_eq (tgt := 201) X lw_d196 (by decide) ?_
  rw [if_pos rfl]
  refine xs_iload (x := 1) X lw_d201 rfl ?_
  refine xs_if_ne (tgt := 218) X lw_d203 (by decide) ?_
  rw [if_pos (by decide)]
  refine xs_goto (tgt := 683) X lw_d218 (by decide) ?_
  exact lw_end htr X hret hlk hX hbl (by omega) (by omega) rfl rfl
set_option maxHeartbeats 1000000 in
theorem lw_c2 (htr : ∀ e, l.admits e → e.platform.stackTraces = false) (X : xi_X (p, l, e, room_1, s, m, #[Value.ref (aS 30)], below, meth, c, lw_Z below #[Value.ref (aS 30)] s, 7, s.heap.size, aS, dA, D, 0, 0) code R_law) (hret : meth.sig.returnType = ret) (hlk : meth.locks = false) (hX : va_X (aS 30) 6 xs s s.heap) (hbl : aS 30 < s.heap.size) (F : lw_F A) : xi_At (p, l, e, room_1, s, m, #[Value.ref (aS 30)], below, meth, c, lw_Z below #[Value.ref (aS 30)] s, 7, s.heap.size, aS, dA, D, 0, 0) 221 lw_B [] A := by
  obtain ⟨⟨h0, h1, hS, hm⟩, ⟨hR118, h7, h8, h11, h15⟩, ⟨⟨f2, ha2⟩, ⟨f345, ha345⟩, ⟨f3, ha3⟩, ⟨f4, ha4⟩, ⟨f5, ha5⟩, ⟨f335, ha335⟩, ⟨f338, ha338⟩, ⟨f347, ha347⟩, ⟨f348, ha348⟩⟩, ⟨f6, ha6⟩, hlen, hns⟩ := F
  have hl1 : (A ++ [(.inr (15, List.replicate 6 .null) : xi_E)]).length = 388 := by rw [List.length_append, hlen]; rfl
  have hn1 : xi_ns (A ++ [(.inr (15, List.replicate 6 .null) : xi_E)]) = 17833 := by rw [xi_ns_push, hns]; rfl
  have hm1 : (A ++ [(.inr (15, List.replicate 6 .null) : xi_E)])[344]? = some (.inr (13, e_lM)) := by rw [List.getElem?_append_left (by rw [hlen]; decide)]; exact hm
  have r1 := er_problem h0 h1 hS 
  obtain ⟨A2, fs, r2, hm2, hf2, hl2, hn2⟩ := em_problem hm1 
  have r3 := em_thrown hm2 hf2
  refine xs_aload_n (v := .ref 0) X lw_d221 rfl rfl ?_
  refine xs_aload_n (v := .ref 386) X lw_d222 rfl rfl ?_
  refine lw_W (cM := 76) (n := 2) (i1 := 4095) (i2 := 4096) (i4 := 1000) (i5 := 4097) (rest := []) htr X lw_d223 (by decide +kernel) (Mc := xi_m76) rfl (show 3 ≤ 71 by decide) r1 rfl (show 2 ≤ 3 by decide) (by omega) (by omega) (by omega) (show 0 ≤ 8 by decide) rfl ?_
  refine xs_istore X lw_d226 (show 5 < 7 by omega) ?_
  refine xs_aload_n (v := .ref 344) X lw_d228 rfl rfl ?_
  refine lw_V (x := 0) (cM := 65) (n := 0) (tail := [7118, 7119, 7120, 1014, 7121]) (rest := []) htr X lw_d229 (by decide +kernel) (Mc := xi_m65) rfl rfl (show 3 ≤ 71 by decide) r2 rfl (show 1 ≤ 3 by decide) hm1 (q := ("CheapPlannerModel", xi_fT 13, 71)) rfl rfl (by omega) (by omega) (show 0 ≤ 8 by decide) rfl ?_
  refine xs_istore X lw_d232 (show 6 < 7 by omega) ?_
  refine xs_aload_n (v := .ref 344) X lw_d234 rfl rfl ?_
  refine lw_V (x := 0) (cM := 46) (n := 0) (tail := [6219, 6220, 6221, 1014, 6222]) (rest := []) htr X lw_d235 (by decide +kernel) (Mc := xi_m46) rfl rfl (show 1 ≤ 71 by decide) r3 rfl (show 1 ≤ 1 by decide) hm2 (q := ("CheapPlannerModel", xi_fT 13, 71)) rfl rfl (by omega) (by omega) (show 0 ≤ 8 by decide) rfl ?_
  refine xs_iload (x := 1) X lw_d238 rfl ?_
  refine xs_icmp_eq (tgt := 245) X lw_d240 (by decide) ?_
  rw [if_pos rfl]
  refine xs_iload (x := 1) X lw_d245 rfl ?_
  refine xs_if_ne (tgt := 262) X lw_d247 (by decide) ?_
  rw [if_pos (by decide)]
  refine xs_goto (tgt := 683) X lw_d262 (by decide) ?_
  exact lw_end htr X hret hlk hX hbl (by omega) (by omega) rfl rfl
set_option maxHeartbeats 1000000 in
theorem lw_c3 (htr : ∀ e, l.admits e → e.platform.stackTraces = false) (X : xi_X (p, l, e, room_1, s, m, #[Value.ref (aS 30)], below, meth, c, lw_Z below #[Value.ref (aS 30)] s, 7, s.heap.size, aS, dA, D, 0, 0) code R_law) (hret : meth.sig.returnType = ret) (hlk : meth.locks = false) (hX : va_X (aS 30) 6 xs s s.heap) (hbl : aS 30 < s.heap.size) (F : lw_F A) : xi_At (p, l, e, room_1, s, m, #[Value.ref (aS 30)], below, meth, c, lw_Z below #[Value.ref (aS 30)] s, 7, s.heap.size, aS, dA, D, 0, 0) 265 lw_B [] A := by
  obtain ⟨⟨h0, h1, hS, hm⟩, ⟨hR118, h7, h8, h11, h15⟩, ⟨⟨f2, ha2⟩, ⟨f345, ha345⟩, ⟨f3, ha3⟩, ⟨f4, ha4⟩, ⟨f5, ha5⟩, ⟨f335, ha335⟩, ⟨f338, ha338⟩, ⟨f347, ha347⟩, ⟨f348, ha348⟩⟩, ⟨f6, ha6⟩, hlen, hns⟩ := F
  have r1 := ec_fault h0 h1 hS 
  obtain ⟨A2, fs, r2, hm2, -, hl2, hn2⟩ := em_fault hm 
  refine xs_aload_n (v := .ref 0) X lw_d265 rfl rfl ?_
  refine lw_V (x := 0) (cM := 4) (n := 0) (tail := [3006, 3007, 3008, 1001, 3009]) (rest := []) htr X lw_d266 (by decide +kernel) (Mc := xi_m4) rfl rfl (show 1 ≤ 71 by decide) r1 rfl (show 1 ≤ 1 by decide) h0 (q := ("CheapPlanner", xi_fT 0, 13)) rfl rfl (by omega) (by omega) (show 0 ≤ 8 by decide) rfl ?_
  refine xs_aload_n (v := .ref 344) X lw_d269 rfl rfl ?_
  refine lw_V (x := 0) (cM := 66) (n := 0) (tail := [7114, 7115, 7116, 1014, 7117]) (rest := [.int _]) htr X lw_d270 (by decide +kernel) (Mc := xi_m66) rfl rfl (show 1 ≤ 71 by decide) r2 rfl (show 1 ≤ 1 by decide) hm (q := ("CheapPlannerModel", xi_fT 13, 71)) rfl rfl (by omega) (by omega) (show 1 ≤ 8 by decide) rfl ?_
  refine xs_icmp_eq (tgt := 683) X lw_d273 (by decide) ?_
  rw [if_pos rfl]
  exact lw_end htr X hret hlk hX hbl (by omega) (by omega) rfl rfl
set_option maxHeartbeats 1000000 in
theorem lw_c4 (htr : ∀ e, l.admits e → e.platform.stackTraces = false) (X : xi_X (p, l, e, room_1, s, m, #[Value.ref (aS 30)], below, meth, c, lw_Z below #[Value.ref (aS 30)] s, 7, s.heap.size, aS, dA, D, 0, 0) code R_law) (hret : meth.sig.returnType = ret) (hlk : meth.locks = false) (hX : va_X (aS 30) 6 xs s s.heap) (hbl : aS 30 < s.heap.size) (F : lw_F A) : xi_At (p, l, e, room_1, s, m, #[Value.ref (aS 30)], below, meth, c, lw_Z below #[Value.ref (aS 30)] s, 7, s.heap.size, aS, dA, D, 0, 0) 278 lw_B [] A := by
  obtain ⟨⟨h0, h1, hS, hm⟩, ⟨hR118, h7, h8, h11, h15⟩, ⟨⟨f2, ha2⟩, ⟨f345, ha345⟩, ⟨f3, ha3⟩, ⟨f4, ha4⟩, ⟨f5, ha5⟩, ⟨f335, ha335⟩, ⟨f338, ha338⟩, ⟨f347, ha347⟩, ⟨f348, ha348⟩⟩, ⟨f6, ha6⟩, hlen, hns⟩ := F
  have hl1 : (A ++ [(.inr (15, List.replicate 6 .null) : xi_E)]).length = 388 := by rw [List.length_append, hlen]; rfl
  have hn1 : xi_ns (A ++ [(.inr (15, List.replicate 6 .null) : xi_E)]) = 17833 := by rw [xi_ns_push, hns]; rfl
  have hm1 : (A ++ [(.inr (15, List.replicate 6 .null) : xi_E)])[344]? = some (.inr (13, e_lM)) := by rw [List.getElem?_append_left (by rw [hlen]; decide)]; exact hm
  have r1 := er_plan h0 h1 hS (xs (0 + Int32.ofInt 1).toNatClampNeg)
  obtain ⟨A2, fs, r2, hm2, hf2, hl2, hn2⟩ := em_plan hm1 (xs (0 + Int32.ofInt 1).toNatClampNeg)
  have r3 := em_thrown hm2 hf2
  refine xs_aload_n (v := .ref 0) X lw_d278 rfl rfl ?_
  refine xs_aload_n (v := .retAddr 30) X lw_d279 rfl rfl ?_
  refine xs_iload (x := 0) X lw_d280 rfl ?_
  refine xs_iconst X lw_d282 ?_
  refine xs_iadd X lw_d283 ?_
  refine xs_sld X hX hbl lw_d284 (by unfold vp_in; decide) ?_
  refine xs_aload_n (v := .ref 386) X lw_d285 rfl rfl ?_
  refine lw_W (cM := 77) (n := 3) (i1 := 4230) (i2 := 4231) (i4 := 1000) (i5 := 4232) (rest := []) htr X lw_d286 (by decide +kernel) (Mc := xi_m77) rfl (show 4 ≤ 71 by decide) r1 rfl (show 3 ≤ 4 by decide) (by omega) (by omega) (by omega) (show 0 ≤ 8 by decide) rfl ?_
  refine xs_istore X lw_d289 (show 5 < 7 by omega) ?_
  refine xs_aload_n (v := .ref 344) X lw_d291 rfl rfl ?_
  refine xs_aload_n (v := .retAddr 30) X lw_d292 rfl rfl ?_
  refine xs_iload (x := 0) X lw_d293 rfl ?_
  refine xs_iconst X lw_d295 ?_
  refine xs_iadd X lw_d296 ?_
  refine xs_sld X hX hbl lw_d297 (by unfold vp_in; decide) ?_
  refine lw_V (x := 0) (cM := 67) (n := 1) (tail := [7166, 7167, 7168, 1014, 7169]) (rest := []) htr X lw_d298 (by decide +kernel) (Mc := xi_m67) rfl rfl (show 3 ≤ 71 by decide) r2 rfl (show 2 ≤ 3 by decide) hm1 (q := ("CheapPlannerModel", xi_fT 13, 71)) rfl rfl (by omega) (by omega) (show 0 ≤ 8 by decide) rfl ?_
  refine xs_istore X lw_d301 (show 6 < 7 by omega) ?_
  refine xs_aload_n (v := .ref 344) X lw_d303 rfl rfl ?_
  refine lw_V (x := 0) (cM := 46) (n := 0) (tail := [6219, 6220, 6221, 1014, 6222]) (rest := []) htr X lw_d304 (by decide +kernel) (Mc := xi_m46) rfl rfl (show 1 ≤ 71 by decide) r3 rfl (show 1 ≤ 1 by decide) hm2 (q := ("CheapPlannerModel", xi_fT 13, 71)) rfl rfl (by omega) (by omega) (show 0 ≤ 8 by decide) rfl ?_
  refine xs_iload (x := 1) X lw_d307 rfl ?_
  refine xs_icmp_eq (tgt := 314) X lw_d309 (by decide) ?_
  rw [if_pos rfl]
  refine xs_iload (x := 1) X lw_d314 rfl ?_
  refine xs_if_ne (tgt := 331) X lw_d316 (by decide) ?_
  rw [if_pos (by decide)]
  refine xs_goto (tgt := 683) X lw_d331 (by decide) ?_
  exact lw_end htr X hret hlk hX hbl (by omega) (by omega) rfl rfl
set_option maxHeartbeats 1000000 in
theorem lw_c5 (htr : ∀ e, l.admits e → e.platform.stackTraces = false) (X : xi_X (p, l, e, room_1, s, m, #[Value.ref (aS 30)], below, meth, c, lw_Z below #[Value.ref (aS 30)] s, 7, s.heap.size, aS, dA, D, 0, 0) code R_law) (hret : meth.sig.returnType = ret) (hlk : meth.locks = false) (hX : va_X (aS 30) 6 xs s s.heap) (hbl : aS 30 < s.heap.size) (F : lw_F A) : xi_At (p, l, e, room_1, s, m, #[Value.ref (aS 30)], below, meth, c, lw_Z below #[Value.ref (aS 30)] s, 7, s.heap.size, aS, dA, D, 0, 0) 334 lw_B [] A := by
  obtain ⟨⟨h0, h1, hS, hm⟩, ⟨hR118, h7, h8, h11, h15⟩, ⟨⟨f2, ha2⟩, ⟨f345, ha345⟩, ⟨f3, ha3⟩, ⟨f4, ha4⟩, ⟨f5, ha5⟩, ⟨f335, ha335⟩, ⟨f338, ha338⟩, ⟨f347, ha347⟩, ⟨f348, ha348⟩⟩, ⟨f6, ha6⟩, hlen, hns⟩ := F
  have hl1 : (A ++ [(.inr (17, List.replicate 6 .null) : xi_E)]).length = 388 := by rw [List.length_append, hlen]; rfl
  have hn1 : xi_ns (A ++ [(.inr (17, List.replicate 6 .null) : xi_E)]) = 17833 := by rw [xi_ns_push, hns]; rfl
  have hm1 : (A ++ [(.inr (17, List.replicate 6 .null) : xi_E)])[344]? = some (.inr (13, e_lM)) := by rw [List.getElem?_append_left (by rw [hlen]; decide)]; exact hm
  have r1 := er_steps h0 h1 hS 
  obtain ⟨A2, fs, r2, hm2, hf2, hl2, hn2⟩ := em_steps hm1 
  have r3 := em_thrown hm2 hf2
  refine xs_aload_n (v := .ref 0) X lw_d334 rfl rfl ?_
  refine xs_aload_n (v := .ref 386) X lw_d335 rfl rfl ?_
  refine lw_W (cM := 78) (n := 2) (i1 := 5096) (i2 := 5097) (i4 := 1000) (i5 := 5098) (rest := []) htr X lw_d336 (by decide +kernel) (Mc := xi_m78) rfl (show 3 ≤ 71 by decide) r1 rfl (show 2 ≤ 3 by decide) (by omega) (by omega) (by omega) (show 0 ≤ 8 by decide) rfl ?_
  refine xs_istore X lw_d339 (show 5 < 7 by omega) ?_
  refine xs_aload_n (v := .ref 344) X lw_d341 rfl rfl ?_
  refine lw_V (x := 0) (cM := 68) (n := 0) (tail := [7212, 7213, 7214, 1014, 7215]) (rest := []) htr X lw_d342 (by decide +kernel) (Mc := xi_m68) rfl rfl (show 1 ≤ 71 by decide) r2 rfl (show 1 ≤ 1 by decide) hm1 (q := ("CheapPlannerModel", xi_fT 13, 71)) rfl rfl (by omega) (by omega) (show 0 ≤ 8 by decide) rfl ?_
  refine xs_istore X lw_d345 (show 6 < 7 by omega) ?_
  refine xs_aload_n (v := .ref 344) X lw_d347 rfl rfl ?_
  refine lw_V (x := 0) (cM := 46) (n := 0) (tail := [6219, 6220, 6221, 1014, 6222]) (rest := []) htr X lw_d348 (by decide +kernel) (Mc := xi_m46) rfl rfl (show 1 ≤ 71 by decide) r3 rfl (show 1 ≤ 1 by decide) hm2 (q := ("CheapPlannerModel", xi_fT 13, 71)) rfl rfl (by omega) (by omega) (show 0 ≤ 8 by decide) rfl ?_
  refine xs_iload (x := 1) X lw_d351 rfl ?_
  refine xs_icmp_eq (tgt := 358) X lw_d353 (by decide) ?_
  rw [if_pos rfl]
  refine xs_iload (x := 1) X lw_d358 rfl ?_
  refine xs_if_ne (tgt := 375) X lw_d360 (by decide) ?_
  rw [if_pos (by decide)]
  refine xs_goto (tgt := 683) X lw_d375 (by decide) ?_
  exact lw_end htr X hret hlk hX hbl (by omega) (by omega) rfl rfl
set_option maxHeartbeats 1000000 in
theorem lw_c6 (htr : ∀ e, l.admits e → e.platform.stackTraces = false) (X : xi_X (p, l, e, room_1, s, m, #[Value.ref (aS 30)], below, meth, c, lw_Z below #[Value.ref (aS 30)] s, 7, s.heap.size, aS, dA, D, 0, 0) code R_law) (hret : meth.sig.returnType = ret) (hlk : meth.locks = false) (hX : va_X (aS 30) 6 xs s s.heap) (hbl : aS 30 < s.heap.size) (F : lw_F A) : xi_At (p, l, e, room_1, s, m, #[Value.ref (aS 30)], below, meth, c, lw_Z below #[Value.ref (aS 30)] s, 7, s.heap.size, aS, dA, D, 0, 0) 378 lw_B [] A := by
  obtain ⟨⟨h0, h1, hS, hm⟩, ⟨hR118, h7, h8, h11, h15⟩, ⟨⟨f2, ha2⟩, ⟨f345, ha345⟩, ⟨f3, ha3⟩, ⟨f4, ha4⟩, ⟨f5, ha5⟩, ⟨f335, ha335⟩, ⟨f338, ha338⟩, ⟨f347, ha347⟩, ⟨f348, ha348⟩⟩, ⟨f6, ha6⟩, hlen, hns⟩ := F
  have hl1 : (A ++ [(.inr (17, List.replicate 6 .null) : xi_E)]).length = 388 := by rw [List.length_append, hlen]; rfl
  have hn1 : xi_ns (A ++ [(.inr (17, List.replicate 6 .null) : xi_E)]) = 17833 := by rw [xi_ns_push, hns]; rfl
  have hm1 : (A ++ [(.inr (17, List.replicate 6 .null) : xi_E)])[344]? = some (.inr (13, e_lM)) := by rw [List.getElem?_append_left (by rw [hlen]; decide)]; exact hm
  have r1 := er_step h0 h1 hS (xs (0 + Int32.ofInt 1).toNatClampNeg)
  obtain ⟨A2, fs, r2, hm2, hf2, hl2, hn2⟩ := em_step hm1 (xs (0 + Int32.ofInt 1).toNatClampNeg)
  have r3 := em_thrown hm2 hf2
  refine xs_aload_n (v := .ref 0) X lw_d378 rfl rfl ?_
  refine xs_aload_n (v := .retAddr 30) X lw_d379 rfl rfl ?_
  refine xs_iload (x := 0) X lw_d380 rfl ?_
  refine xs_iconst X lw_d382 ?_
  refine xs_iadd X lw_d383 ?_
  refine xs_sld X hX hbl lw_d384 (by unfold vp_in; decide) ?_
  refine xs_aload_n (v := .ref 386) X lw_d385 rfl rfl ?_
  refine lw_W (cM := 79) (n := 3) (i1 := 5120) (i2 := 5121) (i4 := 1000) (i5 := 5122) (rest := []) htr X lw_d386 (by decide +kernel) (Mc := xi_m79) rfl (show 4 ≤ 71 by decide) r1 rfl (show 3 ≤ 4 by decide) (by omega) (by omega) (by omega) (show 0 ≤ 8 by decide) rfl ?_
  refine xs_istore X lw_d389 (show 5 < 7 by omega) ?_
  refine xs_aload_n (v := .ref 344) X lw_d391 rfl rfl ?_
  refine xs_aload_n (v := .retAddr 30) X lw_d392 rfl rfl ?_
  refine xs_iload (x := 0) X lw_d393 rfl ?_
  refine xs_iconst X lw_d395 ?_
  refine xs_iadd X lw_d396 ?_
  refine xs_sld X hX hbl lw_d397 (by unfold vp_in; decide) ?_
  refine lw_V (x := 0) (cM := 69) (n := 1) (tail := [7216, 7217, 7218, 1014, 7219]) (rest := []) htr X lw_d398 (by decide +kernel) (Mc := xi_m69) rfl rfl (show 2 ≤ 71 by decide) r2 rfl (show 2 ≤ 2 by decide) hm1 (q := ("CheapPlannerModel", xi_fT 13, 71)) rfl rfl (by omega) (by omega) (show 0 ≤ 8 by decide) rfl ?_
  refine xs_istore X lw_d401 (show 6 < 7 by omega) ?_
  refine xs_aload_n (v := .ref 344) X lw_d403 rfl rfl ?_
  refine lw_V (x := 0) (cM := 46) (n := 0) (tail := [6219, 6220, 6221, 1014, 6222]) (rest := []) htr X lw_d404 (by decide +kernel) (Mc := xi_m46) rfl rfl (show 1 ≤ 71 by decide) r3 rfl (show 1 ≤ 1 by decide) hm2 (q := ("CheapPlannerModel", xi_fT 13, 71)) rfl rfl (by omega) (by omega) (show 0 ≤ 8 by decide) rfl ?_
  refine xs_iload (x := 1) X lw_d407 rfl ?_
  refine xs_icmp_eq (tgt := 414) X lw_d409 (by decide) ?_
  rw [if_pos rfl]
  refine xs_iload (x := 1) X lw_d414 rfl ?_
  refine xs_if_ne (tgt := 431) X lw_d416 (by decide) ?_
  rw [if_pos (by decide)]
  refine xs_goto (tgt := 683) X lw_d431 (by decide) ?_
  exact lw_end htr X hret hlk hX hbl (by omega) (by omega) rfl rfl
set_option maxHeartbeats 1000000 in
theorem lw_c7 (htr : ∀ e, l.admits e → e.platform.stackTraces = false) (X : xi_X (p, l, e, room_1, s, m, #[Value.ref (aS 30)], below, meth, c, lw_Z below #[Value.ref (aS 30)] s, 7, s.heap.size, aS, dA, D, 0, 0) code R_law) (hret : meth.sig.returnType = ret) (hlk : meth.locks = false) (hX : va_X (aS 30) 6 xs s s.heap) (hbl : aS 30 < s.heap.size) (F : lw_F A) : xi_At (p, l, e, room_1, s, m, #[Value.ref (aS 30)], below, meth, c, lw_Z below #[Value.ref (aS 30)] s, 7, s.heap.size, aS, dA, D, 0, 0) 434 lw_B [] A := by
  obtain ⟨⟨h0, h1, hS, hm⟩, ⟨hR118, h7, h8, h11, h15⟩, ⟨⟨f2, ha2⟩, ⟨f345, ha345⟩, ⟨f3, ha3⟩, ⟨f4, ha4⟩, ⟨f5, ha5⟩, ⟨f335, ha335⟩, ⟨f338, ha338⟩, ⟨f347, ha347⟩, ⟨f348, ha348⟩⟩, ⟨f6, ha6⟩, hlen, hns⟩ := F
  have hl1 : (A ++ [(.inr (17, List.replicate 6 .null) : xi_E)]).length = 388 := by rw [List.length_append, hlen]; rfl
  have hn1 : xi_ns (A ++ [(.inr (17, List.replicate 6 .null) : xi_E)]) = 17833 := by rw [xi_ns_push, hns]; rfl
  have hm1 : (A ++ [(.inr (17, List.replicate 6 .null) : xi_E)])[344]? = some (.inr (13, e_lM)) := by rw [List.getElem?_append_left (by rw [hlen]; decide)]; exact hm
  have r1 := er_ground h0 h1 hS (xs (0 + Int32.ofInt 1).toNatClampNeg) (xs (0 + Int32.ofInt 2).toNatClampNeg)
  obtain ⟨A2, fs, r2, hm2, hf2, hl2, hn2⟩ := em_ground hm1 (xs (0 + Int32.ofInt 1).toNatClampNeg) (xs (0 + Int32.ofInt 2).toNatClampNeg)
  have r3 := em_thrown hm2 hf2
  refine xs_aload_n (v := .ref 0) X lw_d434 rfl rfl ?_
  refine xs_aload_n (v := .retAddr 30) X lw_d435 rfl rfl ?_
  refine xs_iload (x := 0) X lw_d436 rfl ?_
  refine xs_iconst X lw_d438 ?_
  refine xs_iadd X lw_d439 ?_
  refine xs_sld X hX hbl lw_d440 (by unfold vp_in; decide) ?_
  refine xs_aload_n (v := .retAddr 30) X lw_d441 rfl rfl ?_
  refine xs_iload (x := 0) X lw_d442 rfl ?_
  refine xs_iconst X lw_d444 ?_
  refine xs_iadd X lw_d445 ?_
  refine xs_sld X hX hbl lw_d446 (by unfold vp_in; decide) ?_
  refine xs_aload_n (v := .ref 386) X lw_d447 rfl rfl ?_
  refine lw_W (cM := 80) (n := 4) (i1 := 5128) (i2 := 5129) (i4 := 1000) (i5 := 5130) (rest := []) htr X lw_d448 (by decide +kernel) (Mc := xi_m80) rfl (show 5 ≤ 71 by decide) r1 rfl (show 4 ≤ 5 by decide) (by omega) (by omega) (by omega) (show 0 ≤ 8 by decide) rfl ?_
  refine xs_istore X lw_d451 (show 5 < 7 by omega) ?_
  refine xs_aload_n (v := .ref 344) X lw_d453 rfl rfl ?_
  refine xs_aload_n (v := .retAddr 30) X lw_d454 rfl rfl ?_
  refine xs_iload (x := 0) X lw_d455 rfl ?_
  refine xs_iconst X lw_d457 ?_
  refine xs_iadd X lw_d458 ?_
  refine xs_sld X hX hbl lw_d459 (by unfold vp_in; decide) ?_
  refine xs_aload_n (v := .retAddr 30) X lw_d460 rfl rfl ?_
  refine xs_iload (x := 0) X lw_d461 rfl ?_
  refine xs_iconst X lw_d463 ?_
  refine xs_iadd X lw_d464 ?_
  refine xs_sld X hX hbl lw_d465 (by unfold vp_in; decide) ?_
  refine lw_V (x := 0) (cM := 70) (n := 2) (tail := [7220, 7221, 7222, 1014, 7223]) (rest := []) htr X lw_d466 (by decide +kernel) (Mc := xi_m70) rfl rfl (show 3 ≤ 71 by decide) r2 rfl (show 3 ≤ 3 by decide) hm1 (q := ("CheapPlannerModel", xi_fT 13, 71)) rfl rfl (by omega) (by omega) (show 0 ≤ 8 by decide) rfl ?_
  refine xs_istore X lw_d469 (show 6 < 7 by omega) ?_
  refine xs_aload_n (v := .ref 344) X lw_d471 rfl rfl ?_
  refine lw_V (x := 0) (cM := 46) (n := 0) (tail := [6219, 6220, 6221, 1014, 6222]) (rest := []) htr X lw_d472 (by decide +kernel) (Mc := xi_m46) rfl rfl (show 1 ≤ 71 by decide) r3 rfl (show 1 ≤ 1 by decide) hm2 (q := ("CheapPlannerModel", xi_fT 13, 71)) rfl rfl (by omega) (by omega) (show 0 ≤ 8 by decide) rfl ?_
  refine xs_iload (x := 1) X lw_d475 rfl ?_
  refine xs_icmp_eq (tgt := 482) X lw_d477 (by decide) ?_
  rw [if_pos rfl]
  refine xs_iload (x := 1) X lw_d482 rfl ?_
  refine xs_if_ne (tgt := 499) X lw_d484 (by decide) ?_
  rw [if_pos (by decide)]
  refine xs_goto (tgt := 683) X lw_d499 (by decide) ?_
  exact lw_end htr X hret hlk hX hbl (by omega) (by omega) rfl rfl
set_option maxHeartbeats 1000000 in
theorem lw_c8 (htr : ∀ e, l.admits e → e.platform.stackTraces = false) (X : xi_X (p, l, e, room_1, s, m, #[Value.ref (aS 30)], below, meth, c, lw_Z below #[Value.ref (aS 30)] s, 7, s.heap.size, aS, dA, D, 0, 0) code R_law) (hret : meth.sig.returnType = ret) (hlk : meth.locks = false) (hX : va_X (aS 30) 6 xs s s.heap) (hbl : aS 30 < s.heap.size) (F : lw_F A) : xi_At (p, l, e, room_1, s, m, #[Value.ref (aS 30)], below, meth, c, lw_Z below #[Value.ref (aS 30)] s, 7, s.heap.size, aS, dA, D, 0, 0) 502 lw_B [] A := by
  obtain ⟨⟨h0, h1, hS, hm⟩, ⟨hR118, h7, h8, h11, h15⟩, ⟨⟨f2, ha2⟩, ⟨f345, ha345⟩, ⟨f3, ha3⟩, ⟨f4, ha4⟩, ⟨f5, ha5⟩, ⟨f335, ha335⟩, ⟨f338, ha338⟩, ⟨f347, ha347⟩, ⟨f348, ha348⟩⟩, ⟨f6, ha6⟩, hlen, hns⟩ := F
  by_cases hp : (xs (0 + Int32.ofInt 1).toNatClampNeg) < 0
  · have hl1 : (A ++ [(.inr (18, List.replicate 6 .null) : xi_E)]).length = 388 := by rw [List.length_append, hlen]; rfl
    have hn1 : xi_ns (A ++ [(.inr (18, List.replicate 6 .null) : xi_E)]) = 17833 := by rw [xi_ns_push, hns]; rfl
    have hm1 : (A ++ [(.inr (18, List.replicate 6 .null) : xi_E)])[344]? = some (.inr (13, e_lM)) := by rw [List.getElem?_append_left (by rw [hlen]; decide)]; exact hm
    have r1 := er_letter_t h0 h1 hS (xs (0 + Int32.ofInt 1).toNatClampNeg) hp
    obtain ⟨A2, fs, r2, hm2, hf2, hl2, hn2⟩ := em_letter_t hm1 (xs (0 + Int32.ofInt 1).toNatClampNeg) hp
    have r3 := em_thrown hm2 hf2
    refine xs_aload_n (v := .ref 0) X lw_d502 rfl rfl ?_
    refine xs_aload_n (v := .retAddr 30) X lw_d503 rfl rfl ?_
    refine xs_iload (x := 0) X lw_d504 rfl ?_
    refine xs_iconst X lw_d506 ?_
    refine xs_iadd X lw_d507 ?_
    refine xs_sld X hX hbl lw_d508 (by unfold vp_in; decide) ?_
    refine xs_aload_n (v := .ref 386) X lw_d509 rfl rfl ?_
    refine lw_W (cM := 81) (n := 3) (i1 := 5137) (i2 := 5138) (i4 := 1000) (i5 := 5139) (rest := []) htr X lw_d510 (by decide +kernel) (Mc := xi_m81) rfl (show 4 ≤ 71 by decide) r1 rfl (show 3 ≤ 4 by decide) (by omega) (by omega) (by omega) (show 0 ≤ 8 by decide) rfl ?_
    refine xs_istore X lw_d513 (show 5 < 7 by omega) ?_
    refine xs_aload_n (v := .ref 344) X lw_d515 rfl rfl ?_
    refine xs_aload_n (v := .retAddr 30) X lw_d516 rfl rfl ?_
    refine xs_iload (x := 0) X lw_d517 rfl ?_
    refine xs_iconst X lw_d519 ?_
    refine xs_iadd X lw_d520 ?_
    refine xs_sld X hX hbl lw_d521 (by unfold vp_in; decide) ?_
    refine lw_V (x := 0) (cM := 71) (n := 1) (tail := [7224, 7225, 7226, 1014, 7227]) (rest := []) htr X lw_d522 (by decide +kernel) (Mc := xi_m71) rfl rfl (show 5 ≤ 71 by decide) r2 rfl (show 2 ≤ 5 by decide) hm1 (q := ("CheapPlannerModel", xi_fT 13, 71)) rfl rfl (by omega) (by omega) (show 0 ≤ 8 by decide) rfl ?_
    refine xs_istore X lw_d525 (show 6 < 7 by omega) ?_
    refine xs_aload_n (v := .ref 344) X lw_d527 rfl rfl ?_
    refine lw_V (x := 0) (cM := 46) (n := 0) (tail := [6219, 6220, 6221, 1014, 6222]) (rest := []) htr X lw_d528 (by decide +kernel) (Mc := xi_m46) rfl rfl (show 1 ≤ 71 by decide) r3 rfl (show 1 ≤ 1 by decide) hm2 (q := ("CheapPlannerModel", xi_fT 13, 71)) rfl rfl (by omega) (by omega) (show 0 ≤ 8 by decide) rfl ?_
    refine xs_iload (x := 1) X lw_d531 rfl ?_
    refine xs_icmp_eq (tgt := 538) X lw_d533 (by decide) ?_
    rw [if_pos rfl]
    refine xs_iload (x := 1) X lw_d538 rfl ?_
    refine xs_if_ne (tgt := 555) X lw_d540 (by decide) ?_
    rw [if_pos (by decide)]
    refine xs_goto (tgt := 683) X lw_d555 (by decide) ?_
    exact lw_end htr X hret hlk hX hbl (by omega) (by omega) rfl rfl
  · have hl1 : (A ++ [(.inr (18, List.replicate 6 .null) : xi_E)]).length = 388 := by rw [List.length_append, hlen]; rfl
    have hn1 : xi_ns (A ++ [(.inr (18, List.replicate 6 .null) : xi_E)]) = 17833 := by rw [xi_ns_push, hns]; rfl
    have hm1 : (A ++ [(.inr (18, List.replicate 6 .null) : xi_E)])[344]? = some (.inr (13, e_lM)) := by rw [List.getElem?_append_left (by rw [hlen]; decide)]; exact hm
    have r1 := er_letter_f h0 h1 hS (xs (0 + Int32.ofInt 1).toNatClampNeg) hp
    obtain ⟨A2, fs, r2, hm2, hf2, hl2, hn2⟩ := em_letter_f hm1 (xs (0 + Int32.ofInt 1).toNatClampNeg) hp
    have r3 := em_thrown hm2 hf2
    refine xs_aload_n (v := .ref 0) X lw_d502 rfl rfl ?_
    refine xs_aload_n (v := .retAddr 30) X lw_d503 rfl rfl ?_
    refine xs_iload (x := 0) X lw_d504 rfl ?_
    refine xs_iconst X lw_d506 ?_
    refine xs_iadd X lw_d507 ?_
    refine xs_sld X hX hbl lw_d508 (by unfold vp_in; decide) ?_
    refine xs_aload_n (v := .ref 386) X lw_d509 rfl rfl ?_
    refine lw_W (cM := 81) (n := 3) (i1 := 5137) (i2 := 5138) (i4 := 1000) (i5 := 5139) (rest := []) htr X lw_d510 (by decide +kernel) (Mc := xi_m81) rfl (show 4 ≤ 71 by decide) r1 rfl (show 3 ≤ 4 by decide) (by omega) (by omega) (by omega) (show 0 ≤ 8 by decide) rfl ?_
    refine xs_istore X lw_d513 (show 5 < 7 by omega) ?_
    refine xs_aload_n (v := .ref 344) X lw_d515 rfl rfl ?_
    refine xs_aload_n (v := .retAddr 30) X lw_d516 rfl rfl ?_
    refine xs_iload (x := 0) X lw_d517 rfl ?_
    refine xs_iconst X lw_d519 ?_
    refine xs_iadd X lw_d520 ?_
    refine xs_sld X hX hbl lw_d521 (by unfold vp_in; decide) ?_
    refine lw_V (x := 0) (cM := 71) (n := 1) (tail := [7224, 7225, 7226, 1014, 7227]) (rest := []) htr X lw_d522 (by decide +kernel) (Mc := xi_m71) rfl rfl (show 5 ≤ 71 by decide) r2 rfl (show 2 ≤ 5 by decide) hm1 (q := ("CheapPlannerModel", xi_fT 13, 71)) rfl rfl (by omega) (by omega) (show 0 ≤ 8 by decide) rfl ?_
    refine xs_istore X lw_d525 (show 6 < 7 by omega) ?_
    refine xs_aload_n (v := .ref 344) X lw_d527 rfl rfl ?_
    refine lw_V (x := 0) (cM := 46) (n := 0) (tail := [6219, 6220, 6221, 1014, 6222]) (rest := []) htr X lw_d528 (by decide +kernel) (Mc := xi_m46) rfl rfl (show 1 ≤ 71 by decide) r3 rfl (show 1 ≤ 1 by decide) hm2 (q := ("CheapPlannerModel", xi_fT 13, 71)) rfl rfl (by omega) (by omega) (show 0 ≤ 8 by decide) rfl ?_
    refine xs_iload (x := 1) X lw_d531 rfl ?_
    refine xs_icmp_eq (tgt := 538) X lw_d533 (by decide) ?_
    rw [if_pos rfl]
    refine xs_iload (x := 1) X lw_d538 rfl ?_
    refine xs_if_ne (tgt := 555) X lw_d540 (by decide) ?_
    rw [if_pos (by decide)]
    refine xs_goto (tgt := 683) X lw_d555 (by decide) ?_
    exact lw_end htr X hret hlk hX hbl (by omega) (by omega) rfl rfl
set_option maxHeartbeats 1000000 in
theorem lw_c9 (htr : ∀ e, l.admits e → e.platform.stackTraces = false) (X : xi_X (p, l, e, room_1, s, m, #[Value.ref (aS 30)], below, meth, c, lw_Z below #[Value.ref (aS 30)] s, 7, s.heap.size, aS, dA, D, 0, 0) code R_law) (hret : meth.sig.returnType = ret) (hlk : meth.locks = false) (hX : va_X (aS 30) 6 xs s s.heap) (hbl : aS 30 < s.heap.size) (F : lw_F A) : xi_At (p, l, e, room_1, s, m, #[Value.ref (aS 30)], below, meth, c, lw_Z below #[Value.ref (aS 30)] s, 7, s.heap.size, aS, dA, D, 0, 0) 558 lw_B [] A := by
  obtain ⟨⟨h0, h1, hS, hm⟩, ⟨hR118, h7, h8, h11, h15⟩, ⟨⟨f2, ha2⟩, ⟨f345, ha345⟩, ⟨f3, ha3⟩, ⟨f4, ha4⟩, ⟨f5, ha5⟩, ⟨f335, ha335⟩, ⟨f338, ha338⟩, ⟨f347, ha347⟩, ⟨f348, ha348⟩⟩, ⟨f6, ha6⟩, hlen, hns⟩ := F
  have r1 := ec_put h0 h1 hS (xs (0 + Int32.ofInt 1).toNatClampNeg)
  obtain ⟨A2, fs, r2, hm2, -, hl2, hn2⟩ := em_put hm (xs (0 + Int32.ofInt 1).toNatClampNeg)
  refine xs_aload_n (v := .ref 0) X lw_d558 rfl rfl ?_
  refine xs_aload_n (v := .retAddr 30) X lw_d559 rfl rfl ?_
  refine xs_iload (x := 0) X lw_d560 rfl ?_
  refine xs_iconst X lw_d562 ?_
  refine xs_iadd X lw_d563 ?_
  refine xs_sld X hX hbl lw_d564 (by unfold vp_in; decide) ?_
  refine lw_V (x := 0) (cM := 10) (n := 1) (tail := [3014, 3015, 3016, 1001, 3017]) (rest := []) htr X lw_d565 (by decide +kernel) (Mc := xi_m10) rfl rfl (show 2 ≤ 71 by decide) r1 rfl (show 2 ≤ 2 by decide) h0 (q := ("CheapPlanner", xi_fT 0, 13)) rfl rfl (by omega) (by omega) (show 0 ≤ 8 by decide) rfl ?_
  refine xs_aload_n (v := .ref 344) X lw_d568 rfl rfl ?_
  refine xs_aload_n (v := .retAddr 30) X lw_d569 rfl rfl ?_
  refine xs_iload (x := 0) X lw_d570 rfl ?_
  refine xs_iconst X lw_d572 ?_
  refine xs_iadd X lw_d573 ?_
  refine xs_sld X hX hbl lw_d574 (by unfold vp_in; decide) ?_
  refine lw_V (x := 0) (cM := 72) (n := 1) (tail := [7236, 7237, 7238, 1014, 7239]) (rest := [.int _]) htr X lw_d575 (by decide +kernel) (Mc := xi_m72) rfl rfl (show 2 ≤ 71 by decide) r2 rfl (show 2 ≤ 2 by decide) hm (q := ("CheapPlannerModel", xi_fT 13, 71)) rfl rfl (by omega) (by omega) (show 1 ≤ 8 by decide) rfl ?_
  refine xs_icmp_eq (tgt := 683) X lw_d578 (by decide) ?_
  rw [if_pos rfl]
  exact lw_end htr X hret hlk hX hbl (by omega) (by omega) rfl rfl
set_option maxHeartbeats 1000000 in
theorem lw_c10 (htr : ∀ e, l.admits e → e.platform.stackTraces = false) (X : xi_X (p, l, e, room_1, s, m, #[Value.ref (aS 30)], below, meth, c, lw_Z below #[Value.ref (aS 30)] s, 7, s.heap.size, aS, dA, D, 0, 0) code R_law) (hret : meth.sig.returnType = ret) (hlk : meth.locks = false) (hX : va_X (aS 30) 6 xs s s.heap) (hbl : aS 30 < s.heap.size) (F : lw_F A) : xi_At (p, l, e, room_1, s, m, #[Value.ref (aS 30)], below, meth, c, lw_Z below #[Value.ref (aS 30)] s, 7, s.heap.size, aS, dA, D, 0, 0) 583 lw_B [] A := by
  obtain ⟨⟨h0, h1, hS, hm⟩, ⟨hR118, h7, h8, h11, h15⟩, ⟨⟨f2, ha2⟩, ⟨f345, ha345⟩, ⟨f3, ha3⟩, ⟨f4, ha4⟩, ⟨f5, ha5⟩, ⟨f335, ha335⟩, ⟨f338, ha338⟩, ⟨f347, ha347⟩, ⟨f348, ha348⟩⟩, ⟨f6, ha6⟩, hlen, hns⟩ := F
  have hl1 : (A ++ [(.inr (15, List.replicate 6 .null) : xi_E)]).length = 388 := by rw [List.length_append, hlen]; rfl
  have hn1 : xi_ns (A ++ [(.inr (15, List.replicate 6 .null) : xi_E)]) = 17833 := by rw [xi_ns_push, hns]; rfl
  have hm1 : (A ++ [(.inr (15, List.replicate 6 .null) : xi_E)])[344]? = some (.inr (13, e_lM)) := by rw [List.getElem?_append_left (by rw [hlen]; decide)]; exact hm
  have r1 := er_check h0 h1 hS 
  obtain ⟨A2, fs, r2, hm2, hf2, hl2, hn2⟩ := em_check hm1 
  have r3 := em_thrown hm2 hf2
  refine xs_aload_n (v := .ref 0) X lw_d583 rfl rfl ?_
  refine xs_aload_n (v := .ref 386) X lw_d584 rfl rfl ?_
  refine lw_W (cM := 82) (n := 2) (i1 := 5161) (i2 := 5162) (i4 := 1000) (i5 := 5163) (rest := []) htr X lw_d585 (by decide +kernel) (Mc := xi_m82) rfl (show 3 ≤ 71 by decide) r1 rfl (show 2 ≤ 3 by decide) (by omega) (by omega) (by omega) (show 0 ≤ 8 by decide) rfl ?_
  refine xs_istore X lw_d588 (show 5 < 7 by omega) ?_
  refine xs_aload_n (v := .ref 344) X lw_d590 rfl rfl ?_
  refine lw_V (x := 0) (cM := 73) (n := 0) (tail := [8000, 8001, 8002, 1014, 8003]) (rest := []) htr X lw_d591 (by decide +kernel) (Mc := xi_m73) rfl rfl (show 7 ≤ 71 by decide) r2 rfl (show 1 ≤ 7 by decide) hm1 (q := ("CheapPlannerModel", xi_fT 13, 71)) rfl rfl (by omega) (by omega) (show 0 ≤ 8 by decide) rfl ?_
  refine xs_istore X lw_d594 (show 6 < 7 by omega) ?_
  refine xs_aload_n (v := .ref 344) X lw_d596 rfl rfl ?_
  refine lw_V (x := 0) (cM := 46) (n := 0) (tail := [6219, 6220, 6221, 1014, 6222]) (rest := []) htr X lw_d597 (by decide +kernel) (Mc := xi_m46) rfl rfl (show 1 ≤ 71 by decide) r3 rfl (show 1 ≤ 1 by decide) hm2 (q := ("CheapPlannerModel", xi_fT 13, 71)) rfl rfl (by omega) (by omega) (show 0 ≤ 8 by decide) rfl ?_
  refine xs_iload (x := 1) X lw_d600 rfl ?_
  refine xs_icmp_eq (tgt := 607) X lw_d602 (by decide) ?_
  rw [if_pos rfl]
  refine xs_iload (x := 1) X lw_d607 rfl ?_
  refine xs_if_ne (tgt := 624) X lw_d609 (by decide) ?_
  rw [if_pos (by decide)]
  refine xs_goto (tgt := 683) X lw_d624 (by decide) ?_
  exact lw_end htr X hret hlk hX hbl (by omega) (by omega) rfl rfl
set_option maxHeartbeats 1000000 in
theorem lw_c11 (htr : ∀ e, l.admits e → e.platform.stackTraces = false) (X : xi_X (p, l, e, room_1, s, m, #[Value.ref (aS 30)], below, meth, c, lw_Z below #[Value.ref (aS 30)] s, 7, s.heap.size, aS, dA, D, 0, 0) code R_law) (hret : meth.sig.returnType = ret) (hlk : meth.locks = false) (hX : va_X (aS 30) 6 xs s s.heap) (hbl : aS 30 < s.heap.size) (F : lw_F A) : xi_At (p, l, e, room_1, s, m, #[Value.ref (aS 30)], below, meth, c, lw_Z below #[Value.ref (aS 30)] s, 7, s.heap.size, aS, dA, D, 0, 0) 627 lw_B [] A := by
  obtain ⟨⟨h0, h1, hS, hm⟩, ⟨hR118, h7, h8, h11, h15⟩, ⟨⟨f2, ha2⟩, ⟨f345, ha345⟩, ⟨f3, ha3⟩, ⟨f4, ha4⟩, ⟨f5, ha5⟩, ⟨f335, ha335⟩, ⟨f338, ha338⟩, ⟨f347, ha347⟩, ⟨f348, ha348⟩⟩, ⟨f6, ha6⟩, hlen, hns⟩ := F
  have hl1 : (A ++ [(.inr (15, List.replicate 6 .null) : xi_E)]).length = 388 := by rw [List.length_append, hlen]; rfl
  have hn1 : xi_ns (A ++ [(.inr (15, List.replicate 6 .null) : xi_E)]) = 17833 := by rw [xi_ns_push, hns]; rfl
  have hm1 : (A ++ [(.inr (15, List.replicate 6 .null) : xi_E)])[344]? = some (.inr (13, e_lM)) := by rw [List.getElem?_append_left (by rw [hlen]; decide)]; exact hm
  have r1 := er_estimate h0 h1 hS (xs (0 + Int32.ofInt 1).toNatClampNeg)
  obtain ⟨A2, fs, r2, hm2, hf2, hl2, hn2⟩ := em_estimate hm1 (xs (0 + Int32.ofInt 1).toNatClampNeg)
  have r3 := em_thrown hm2 hf2
  refine xs_aload_n (v := .ref 0) X lw_d627 rfl rfl ?_
  refine xs_aload_n (v := .retAddr 30) X lw_d628 rfl rfl ?_
  refine xs_iload (x := 0) X lw_d629 rfl ?_
  refine xs_iconst X lw_d631 ?_
  refine xs_iadd X lw_d632 ?_
  refine xs_sld X hX hbl lw_d633 (by unfold vp_in; decide) ?_
  refine xs_aload_n (v := .ref 386) X lw_d634 rfl rfl ?_
  refine lw_W (cM := 83) (n := 3) (i1 := 5170) (i2 := 5171) (i4 := 1000) (i5 := 5172) (rest := []) htr X lw_d635 (by decide +kernel) (Mc := xi_m83) rfl (show 4 ≤ 71 by decide) r1 rfl (show 3 ≤ 4 by decide) (by omega) (by omega) (by omega) (show 0 ≤ 8 by decide) rfl ?_
  refine xs_istore X lw_d638 (show 5 < 7 by omega) ?_
  refine xs_aload_n (v := .ref 344) X lw_d640 rfl rfl ?_
  refine xs_aload_n (v := .retAddr 30) X lw_d641 rfl rfl ?_
  refine xs_iload (x := 0) X lw_d642 rfl ?_
  refine xs_iconst X lw_d644 ?_
  refine xs_iadd X lw_d645 ?_
  refine xs_sld X hX hbl lw_d646 (by unfold vp_in; decide) ?_
  refine lw_V (x := 0) (cM := 74) (n := 1) (tail := [8004, 8005, 8006, 1014, 8007]) (rest := []) htr X lw_d647 (by decide +kernel) (Mc := xi_m74) rfl rfl (show 6 ≤ 71 by decide) r2 rfl (show 2 ≤ 6 by decide) hm1 (q := ("CheapPlannerModel", xi_fT 13, 71)) rfl rfl (by omega) (by omega) (show 0 ≤ 8 by decide) rfl ?_
  refine xs_istore X lw_d650 (show 6 < 7 by omega) ?_
  refine xs_aload_n (v := .ref 344) X lw_d652 rfl rfl ?_
  refine lw_V (x := 0) (cM := 46) (n := 0) (tail := [6219, 6220, 6221, 1014, 6222]) (rest := []) htr X lw_d653 (by decide +kernel) (Mc := xi_m46) rfl rfl (show 1 ≤ 71 by decide) r3 rfl (show 1 ≤ 1 by decide) hm2 (q := ("CheapPlannerModel", xi_fT 13, 71)) rfl rfl (by omega) (by omega) (show 0 ≤ 8 by decide) rfl ?_
  refine xs_iload (x := 1) X lw_d656 rfl ?_
  refine xs_icmp_eq (tgt := 663) X lw_d658 (by decide) ?_
  rw [if_pos rfl]
  refine xs_iload (x := 1) X lw_d663 rfl ?_
  refine xs_if_ne (tgt := 680) X lw_d665 (by decide) ?_
  rw [if_pos (by decide)]
  refine xs_goto (tgt := 683) X lw_d680 (by decide) ?_
  exact lw_end htr X hret hlk hX hbl (by omega) (by omega) rfl rfl
end LW
end
section
section LW
variable {p : Program} {l : Launch} {e : Env} {R : Room} {s : State} {m : MethodId} {args : Array Value} {below : List Frame} {meth : Method} {c : Code} {Q : State → Prop} {nL b0 : Nat} {aS : Nat → Nat} {dA : Nat → ClassId} {D : va_G} {n0 s0 : Nat}
variable {A A' : xi_H} {cc : ByteArray} {own : String} {pc i : Nat} {lv : xi_L} {r : List Value} {xs : Nat → Int32} {L : Nat}
theorem lw_and (a : Int32) : ∃ k : Nat, k < 16 ∧ (a &&& (Int8.ofInt 15).toInt32).toInt = (k : Int) := by
  refine ⟨(a &&& (Int8.ofInt 15).toInt32).toBitVec.toNat, ?_, ?_⟩
  · have h : (a &&& (Int8.ofInt 15).toInt32).toBitVec = a.toBitVec &&& 15#32 := by rw [Int32.toBitVec_and]; rfl
    rw [h, BitVec.toNat_and]
    exact Nat.lt_of_le_of_lt Nat.and_le_right (by decide)
  · have h : (a &&& (Int8.ofInt 15).toInt32).toBitVec = a.toBitVec &&& 15#32 := by rw [Int32.toBitVec_and]; rfl
    show (a &&& (Int8.ofInt 15).toInt32).toBitVec.toInt = _
    rw [BitVec.toInt_eq_toNat_of_lt]
    rw [h, BitVec.toNat_and]
    exact Nat.lt_of_le_of_lt (Nat.mul_le_mul_left 2 Nat.and_le_right) (by decide)
set_option maxHeartbeats 1000000 in
theorem lw_sw (htr : ∀ e, l.admits e → e.platform.stackTraces = false) (X : xi_X (p, l, e, room_1, s, m, #[Value.ref (aS 30)], below, meth, c, lw_Z below #[Value.ref (aS 30)] s, 7, s.heap.size, aS, dA, D, 0, 0) code R_law) (hret : meth.sig.returnType = ret) (hlk : meth.locks = false) (hX : va_X (aS 30) 6 xs s s.heap) (hbl : aS 30 < s.heap.size) (F : lw_F A) {x : Int32} (hx : ∃ k : Nat, k < 16 ∧ x.toInt = (k : Int)) : xi_At (p, l, e, room_1, s, m, #[Value.ref (aS 30)], below, meth, c, lw_Z below #[Value.ref (aS 30)] s, 7, s.heap.size, aS, dA, D, 0, 0) 40 lw_B [.int x] A := by
  obtain ⟨k, hk, hx⟩ := hx
  obtain ⟨hl, hn⟩ : A.length = 387 ∧ xi_ns A = 17827 := ⟨F.2.2.2.2.1, F.2.2.2.2.2⟩
  match k, hk, hx with
  | 0, _, hx => exact xs_tabIn (tgt := 104) (off := 64) X lw_d40 (by rw [hx]; decide) (by rw [hx]; decide) (by rw [hx]; rfl) (by decide) (lw_c0 htr X hret hlk hX hbl F)
  | 1, _, hx => exact xs_tabIn (tgt := 177) (off := 137) X lw_d40 (by rw [hx]; decide) (by rw [hx]; decide) (by rw [hx]; rfl) (by decide) (lw_c1 htr X hret hlk hX hbl F)
  | 2, _, hx => exact xs_tabIn (tgt := 221) (off := 181) X lw_d40 (by rw [hx]; decide) (by rw [hx]; decide) (by rw [hx]; rfl) (by decide) (lw_c2 htr X hret hlk hX hbl F)
  | 3, _, hx => exact xs_tabIn (tgt := 265) (off := 225) X lw_d40 (by rw [hx]; decide) (by rw [hx]; decide) (by rw [hx]; rfl) (by decide) (lw_c3 htr X hret hlk hX hbl F)
  | 4, _, hx => exact xs_tabIn (tgt := 278) (off := 238) X lw_d40 (by rw [hx]; decide) (by rw [hx]; decide) (by rw [hx]; rfl) (by decide) (lw_c4 htr X hret hlk hX hbl F)
  | 5, _, hx => exact xs_tabIn (tgt := 334) (off := 294) X lw_d40 (by rw [hx]; decide) (by rw [hx]; decide) (by rw [hx]; rfl) (by decide) (lw_c5 htr X hret hlk hX hbl F)
  | 6, _, hx => exact xs_tabIn (tgt := 378) (off := 338) X lw_d40 (by rw [hx]; decide) (by rw [hx]; decide) (by rw [hx]; rfl) (by decide) (lw_c6 htr X hret hlk hX hbl F)
  | 7, _, hx => exact xs_tabIn (tgt := 434) (off := 394) X lw_d40 (by rw [hx]; decide) (by rw [hx]; decide) (by rw [hx]; rfl) (by decide) (lw_c7 htr X hret hlk hX hbl F)
  | 8, _, hx => exact xs_tabIn (tgt := 502) (off := 462) X lw_d40 (by rw [hx]; decide) (by rw [hx]; decide) (by rw [hx]; rfl) (by decide) (lw_c8 htr X hret hlk hX hbl F)
  | 9, _, hx => exact xs_tabIn (tgt := 558) (off := 518) X lw_d40 (by rw [hx]; decide) (by rw [hx]; decide) (by rw [hx]; rfl) (by decide) (lw_c9 htr X hret hlk hX hbl F)
  | 10, _, hx => exact xs_tabIn (tgt := 583) (off := 543) X lw_d40 (by rw [hx]; decide) (by rw [hx]; decide) (by rw [hx]; rfl) (by decide) (lw_c10 htr X hret hlk hX hbl F)
  | 11, _, hx => exact xs_tabIn (tgt := 627) (off := 587) X lw_d40 (by rw [hx]; decide) (by rw [hx]; decide) (by rw [hx]; rfl) (by decide) (lw_c11 htr X hret hlk hX hbl F)
  | 12, _, hx => exact xs_tabOut (tgt := 683) X lw_d40 (Or.inr (by rw [hx]; decide)) (by decide) (lw_end htr X hret hlk hX hbl (by omega) (by omega) rfl rfl)
  | 13, _, hx => exact xs_tabOut (tgt := 683) X lw_d40 (Or.inr (by rw [hx]; decide)) (by decide) (lw_end htr X hret hlk hX hbl (by omega) (by omega) rfl rfl)
  | 14, _, hx => exact xs_tabOut (tgt := 683) X lw_d40 (Or.inr (by rw [hx]; decide)) (by decide) (lw_end htr X hret hlk hX hbl (by omega) (by omega) rfl rfl)
  | 15, _, hx => exact xs_tabOut (tgt := 683) X lw_d40 (Or.inr (by rw [hx]; decide)) (by decide) (lw_end htr X hret hlk hX hbl (by omega) (by omega) rfl rfl)
  | k + 16, hk, _ => exact absurd hk (by omega)
theorem lw_23 (htr : ∀ e, l.admits e → e.platform.stackTraces = false) (X : xi_X (p, l, e, room_1, s, m, #[Value.ref (aS 30)], below, meth, c, lw_Z below #[Value.ref (aS 30)] s, 7, s.heap.size, aS, dA, D, 0, 0) code R_law) (hret : meth.sig.returnType = ret) (hlk : meth.locks = false) (hX : va_X (aS 30) L xs s s.heap) (hbl : aS 30 < s.heap.size) (hL : L ≤ 6) (F : lw_F A) : xi_At (p, l, e, room_1, s, m, #[Value.ref (aS 30)], below, meth, c, lw_Z below #[Value.ref (aS 30)] s, 7, s.heap.size, aS, dA, D, 0, 0) 23 lw_B [] A := by
  obtain ⟨hl, hn⟩ : A.length = 387 ∧ xi_ns A = 17827 := ⟨F.2.2.2.2.1, F.2.2.2.2.2⟩
  refine xs_iload (x := 0) X lw_d23 rfl ?_
  refine xs_aload_n (v := .retAddr 30) X lw_d25 rfl rfl ?_
  refine xs_slen X hX hbl lw_d26 ?_
  refine xs_bipush X lw_d27 ?_
  refine xs_isub X lw_d29 ?_
  refine xs_icmp_gt (tgt := 689) X lw_d30 (by decide) ?_
  match L, hL, hX with
  | 0, _, hX => rw [if_pos (by decide)]; exact lw_fin X hret hlk (by omega) (by omega)
  | 1, _, hX => rw [if_pos (by decide)]; exact lw_fin X hret hlk (by omega) (by omega)
  | 2, _, hX => rw [if_pos (by decide)]; exact lw_fin X hret hlk (by omega) (by omega)
  | 3, _, hX => rw [if_pos (by decide)]; exact lw_fin X hret hlk (by omega) (by omega)
  | 4, _, hX => rw [if_pos (by decide)]; exact lw_fin X hret hlk (by omega) (by omega)
  | 5, _, hX => rw [if_pos (by decide)]; exact lw_fin X hret hlk (by omega) (by omega)
  | 6, _, hX =>
    rw [if_neg (by decide)]
    refine xs_aload_n (v := .retAddr 30) X lw_d33 rfl rfl ?_
    refine xs_iload (x := 0) X lw_d34 rfl ?_
    refine xs_sld X hX hbl lw_d36 (by unfold vp_in; decide) ?_
    refine xs_bipush X lw_d37 ?_
    refine xs_iand X lw_d39 ?_
    exact lw_sw htr X hret hlk hX hbl F (lw_and _)
  | k + 7, hL, _ => exact absurd hL (by omega)
set_option maxHeartbeats 1000000 in
theorem lw_begin (htr : ∀ e, l.admits e → e.platform.stackTraces = false) (X : xi_X (p, l, e, room_1, s, m, #[Value.ref (aS 30)], below, meth, c, lw_Z below #[Value.ref (aS 30)] s, 7, s.heap.size, aS, dA, D, 0, 0) code R_law) (hret : meth.sig.returnType = ret) (hlk : meth.locks = false) (hX : va_X (aS 30) L xs s s.heap) (hbl : aS 30 < s.heap.size) (hL : L ≤ 6) : xi_At (p, l, e, room_1, s, m, #[Value.ref (aS 30)], below, meth, c, lw_Z below #[Value.ref (aS 30)] s, 7, s.heap.size, aS, dA, D, 0, 0) 0 (lv_args 0 [.retAddr 30]) [] [] := by
  have h := e_chk_ok
  simp only [e_chk, Bool.and_eq_true, decide_eq_true_eq] at h
  obtain ⟨⟨⟨q1, q2⟩, ⟨hl1, hl2⟩, hn1, hn2⟩, -⟩ := h
  have r1 : xi_go xi_ms 2000 0 14 500 0 (lv_args 0 [.ref 0]) [] [.inr (0, xi_df 0)] = some (.returned none, e_A1) := xi_isv_eq q1
  have r2 : xi_go xi_ms 2000 44 14 500 0 (lv_args 0 [.ref 344]) [] (e_A1 ++ [.inr (13, xi_df 13)]) = some (.returned none, e_A2) := xi_isv_eq q2
  have hl3 : (e_A1 ++ [(.inr (13, xi_df 13) : xi_E)]).length = 345 := by rw [List.length_append, hl1]; rfl
  have hn3 : xi_ns (e_A1 ++ [(.inr (13, xi_df 13) : xi_E)]) = 12797 + (xi_df 13).length := by rw [xi_ns_push, hn1]; rfl
  have hdf : (xi_df 13).length = 71 := by decide
  refine xs_new (ci := 0) (C := "CheapPlanner") (T := xi_fT 0) (N := 13) X lw_d0 rfl (xi_Gm (ix := 1029) (by decide +kernel)) (xi_Gm (ix := 1030) (by decide +kernel)) (xi_Gm (ix := 1001) (by decide +kernel)) (by decide) (show 1 ≤ 600002 by decide) (show 13 ≤ 7302232 by decide) ?_
  show xi_At _ (0 + 3) _ [.ref 0] [.inr (0, xi_df 0)]
  refine xs_dup X lw_d3 rfl ?_
  refine lw_I (rest := [.ref 0]) (cM := 0) (n := 0) (i1 := 1031) (i2 := 1032) (i4 := 1001) (i5 := 1033) htr X lw_d4 (by decide +kernel) (Mc := xi_m0) rfl rfl (show 1 ≤ 71 by decide) r1 rfl (show 1 ≤ 1 by decide) (show 0 < 1 by decide) (by omega) (by omega) (show 1 ≤ 8 by decide) rfl ?_
  refine xs_astore_n (i := 1) X lw_d7 rfl (show 1 < 7 by decide) ?_
  refine xs_new (ci := 13) (C := "CheapPlannerModel") (T := xi_fT 13) (N := 71) X lw_d8 rfl (xi_Gm (ix := 5197) (by decide +kernel)) (xi_Gm (ix := 5198) (by decide +kernel)) (xi_Gm (ix := 1014) (by decide +kernel)) (by decide) (show (e_A1 ++ [(.inr (13, xi_df 13) : xi_E)]).length - 0 ≤ 600002 by omega) (show xi_ns (e_A1 ++ [(.inr (13, xi_df 13) : xi_E)]) - 0 ≤ 7302232 by omega) ?_
  rw [hl1]
  refine xs_dup X lw_d11 rfl ?_
  refine lw_I (rest := [.ref 344]) (cM := 44) (n := 0) (i1 := 5199) (i2 := 5200) (i4 := 1014) (i5 := 5201) htr X lw_d12 (by decide +kernel) (Mc := xi_m44) rfl rfl (show 1 ≤ 71 by decide) r2 rfl (show 1 ≤ 1 by decide) (by omega) (by omega) (by omega) (show 1 ≤ 8 by decide) rfl ?_
  refine xs_astore_n (i := 2) X lw_d15 rfl (show 2 < 7 by decide) ?_
  refine xs_iconst X lw_d16 ?_
  have hA3 := lw_fresh (x := .inl (1, ((Int32.ofInt 1).toNatClampNeg, .inr (.inl (fun _ => 0))))) rfl
  have hA3l := hA3.2.2.2.2.1
  have hA3n := hA3.2.2.2.2.2
  refine xs_newa_long X lw_d17 (xi_Gm (ix := 1073) (by decide +kernel)) (by decide) (Nat.le_of_ble_eq_true rfl) (by show _ - 0 ≤ 600002; rw [hA3l]; omega) (by show _ - 0 ≤ 7302232; rw [hA3n]; omega) ?_
  rw [hl2]
  refine xs_astore_n (i := 3) X lw_d19 rfl (show 3 < 7 by decide) ?_
  refine xs_iconst X lw_d20 ?_
  refine xs_istore X lw_d21 (show 4 < 7 by decide) ?_
  exact lw_23 htr X hret hlk hX hbl hL hA3
end LW
end
section
/-- from the entry, for every script of at most 6 ints, the law comes to its end with true -/
theorem whole_start {p : Program} {e : Env} {s : State} {m : MethodId} {below : List Frame} {meth : Method} {c : Code} (l : Launch) (htr : ∀ e, l.admits e → e.platform.stackTraces = false) {b L : Nat} {xs : Nat → Int32} (hL : L ≤ 6) (C0 : lw_At p s m meth c b L xs) : W p l e room_1 s m #[Value.ref b] below meth c s.heap [] 0 0 (lw_Z below #[Value.ref b] s) (entryFrame m ([Value.ref b] : List Value).toArray 7) := by
  obtain ⟨hx, hb, hret, hml, hown, hts, hX, hbl, hlk, hgv⟩ := C0
  obtain ⟨aS, dA, D, rfl, hK, hSt⟩ := xi_setup b hts hgv
  have k0 := lw_begin (p := p) (l := l) (e := e) (s := s) (m := m) (below := below) (meth := meth) (c := c) (aS := aS) (dA := dA) (D := D) (L := L) (xs := xs) htr ⟨hx, hb, hml, hown, xi_htsG hts, hK, hSt⟩ hret hlk hX hbl hL
  have hl := lv_entry (([.retAddr 30] : List Value).map (xi_v s.heap.size aS)) (n := 7) (by rw [xi_sl_len, xi_wt_v]; decide)
  rw [xi_args_l] at hl
  have k1 := k0 s.heap [] _ ⟨fun k q h => by simp [xi_w] at h, va_S.rf, Nat.zero_le _, Nat.zero_le _, rfl⟩ hl
  show W p l e room_1 s m _ below meth c s.heap [] 0 0 _ (entryFrame m (([.retAddr 30] : List Value).map (xi_v s.heap.size aS)).toArray 7)
  rw [lg_entry_eq]
  exact k1
set_option maxHeartbeats 4000000 in
theorem lw_walk (l : Launch) (htr : ∀ e, l.admits e → e.platform.stackTraces = false) (b : Addr) (xs : List Int32) : MetFree l x (headSpec (Jvm.Cond.code x code maxLocals ret :: tables_1) room_1) (lw_P b xs) (fun _ _ _ _ _ => True) lw_Q := by
  refine MetFree.of_bodyS (code := code) (maxLocals := maxLocals) (ret := ret) (by decide) ?_ ?_
  · intro args s m h hn
    obtain ⟨meth, c, h1, h2, h3, h4, h5, h6, -, -⟩ := Cond.code_spec hn (atoms_spec (ws := Jvm.Cond.code x code maxLocals ret :: tables_1) h _ List.mem_cons_self)
    exact ⟨meth, c, h1, h2, h3, h4, h5, h6⟩
  · intro p e s m args below meth c s₁ B hml0 hP _
    obtain ⟨rfl, hx, hbd, hgv⟩ := hP
    obtain ⟨scr, harrAt, hlist, hof, hsmall⟩ := hx
    obtain ⟨hcb, hkn, -, -⟩ := State.arrayAt?_spec harrAt
    have hown : s.vm.findClass R_law = some m.cls := findClass_of_methodNamed B.named
    have hts0 : ∀ c ∈ (Jvm.Cond.code x code maxLocals ret :: tables_1), c.before #[Value.ref b] s = true := atoms_spec (ws := Jvm.Cond.code x code maxLocals ret :: tables_1) B.pre
    have hts : ∀ w ∈ lw_tbl, w.before #[Value.ref b] s = true := k2_hts_sels lw_privs (fun w hw => hts0 w (List.mem_cons_of_mem _ hw)) lw_privs_ok
    have hml : c.maxLocals = 7 := B.maxLocals_eq (hts0 _ List.mem_cons_self)
    have X₀ : Stand p l e room_1 s m #[Value.ref b] below meth c s₁ [] 0 0 := Stand.of_body B
    have hh0 : s₁.heap = s.heap := by rw [B.state]; rfl
    have hsz : scr.slots.size = xs.length := by rw [← Array.length_toList, hlist, List.length_map]
    have hval : ∀ j : Nat, j < xs.length → scr.slots[j]? = some (.int (xs.getD j 0)) := fun j hj => by
      rw [← Array.getElem?_toList, hlist]
      simp [hj]
    have hbl : b < s.heap.size := (Array.getElem?_eq_some_iff.mp hcb).1
    have hX : va_X b xs.length (fun j => xs.getD j 0) s s.heap := ⟨scr, hcb, hof, hkn, hsz, hval⟩
    have K : W p l e room_1 s m #[Value.ref b] below meth c s₁.heap [] 0 0 (lw_Z below #[Value.ref b] s) (entryFrame m ([Value.ref b] : List Value).toArray 7) := by
      rw [hh0]
      exact whole_start l htr hbd ⟨B.exec, B.bytes, B.returns, hml, hown, hts, hX, hbl, B.notSynchronized, hgv⟩
    obtain ⟨t, a1, o, b1, b2, b3⟩ := K s₁ rfl X₀
    exact ⟨t, o, a1, b1, b2, b3⟩
theorem lw_pre_spec {args : Array Value} {s : State} (h : (Jvm.Cond.and given_1 narrow_1).before args s = true) (hr : rest_1_c.before args s = true) : ∃ (b : Addr) (xs : List Int32), lw_P b xs args s := by
  have hs := flat_of_before _ h
  have hq := flat_of_before _ hr
  have hc : (Cond.count 1).before args s = true := hs _ (by decide +kernel)
  have harr : (Cond.arrayOf (.arg 0) .int).before args s = true := hs _ (by decide +kernel)
  have hle : (Cond.le (.length (.arg 0)) (.int 6)).before args s = true := hs _ (by decide +kernel)
  have hlen : (Cond.isInt (.length (.arg 0))).before args s = true := hq _ (by decide +kernel)
  have hall : (Cond.all (.arg 0) (.isInt (.elem (.arg 0) (.index 0)))).before args s = true := hq _ (by decide +kernel)
  obtain ⟨b, xs, hb, hx⟩ := State.ints_of_pre rfl harr hlen hall
  have hsm : xs.length < 2 ^ 31 := hx.choose_spec.2.2.2
  have hev : (Term.length (.arg 0)).eval args s none [] s = some (.int xs.length.toInt32) := hx.length_eval hb
  have hv := Cond.le_ints hev (show (Term.int 6).eval args s none [] s = some (.int 6) from rfl)
  have hd : xs.length.toInt32 ≤ 6 := by
    simpa [Cond.before, Cond.holds, hv] using hle
  have hN : xs.length ≤ 6 := (Int32.ofNat_le_ofNat hsm (by decide)).mp (show Int32.ofNat xs.length ≤ Int32.ofNat 6 from hd)
  exact ⟨b, xs, Cond.one_arg hc (show args[0]? = some (.ref b) from hb), hx, hN, h⟩
theorem lw_comes (l : Launch) (htr : ∀ e, l.admits e → e.platform.stackTraces = false) : Comes l x (Jvm.Cond.code x code maxLocals ret :: tables_1) room_1 (fun tb e args s => Calls_1 tb e args s ∧ rest_1 tb e args s ∧ Pre_1 tb e args s)
    (fun _ _ args s o t => lw_Q args s o t) := by
  intro p e ha hc hk s m args below hf hfit hheap happ hpre
  obtain ⟨b, xs, hP⟩ := lw_pre_spec hpre.2.2 hpre.2.1
  obtain ⟨k, o, h1, h2, h3, hQ⟩ := lw_walk l htr b xs p e ha hc hk s m args below hf ((Spec.applies_iff_loose hf).mp happ).1 hP trivial
  exact ⟨k, o, h1, h2, h3, hQ⟩
theorem lw_frame {s t : State} {o : Outcome} {args : Array Value} (h : Framed s o t [] 600002 7302232) :
    Framed s o t (fieldLocs frame_1_writes args s ++ arrayLocs frame_1_arrays args s ++ staticLocs frame_1_statics s) 600002 7302232 := h
theorem lw_limb (L : Cond) (hL : ∀ (args : Array Value) (s t : State), L.after args s (.returned (some (.int 1))) t = true) :
    ArmFor flags0 classFile x code maxLocals ret World_1 tables_1 room_1 Calls_1 rest_1 Pre_1
      (fun tb e a s o t => postC L tb e a s o t ∧ Framed s o t (fieldLocs frame_1_writes a s ++ arrayLocs frame_1_arrays a s ++ staticLocs frame_1_statics s) 600002 7302232) := by
  intro l hfl _ _ p e ha hc hk s m args below hf hfit hheap happ hpre
  obtain ⟨k, o, h1, h2, h3, rfl, hF⟩ := lw_comes l (fun e he => Launch.traces_off hfl he) p e ha hc hk s m args below hf hfit hheap happ hpre
  exact ⟨k, _, h1, h2, h3, hL args s _, lw_frame hF⟩
theorem i_vc : Claimed_1_1 ∧ Claimed_1_2 := ⟨lw_limb limb_1_1 (fun args s t => by simp [limb_1_1, Cond.after, Cond.holds, Cond.value]), lw_limb limb_1_2 (fun args s t => Cond.after_iff.mpr (by
  first | (rw [show limb_1_2 = Cond.eq .result (.int 1) from rfl, Cond.eq_ints (x := 1) (y := 1) rfl rfl]; simp; done) | (simp [limb_1_2, Cond.value, Term.eval]; done)))⟩
end

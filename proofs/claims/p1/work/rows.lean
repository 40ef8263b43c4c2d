section
-- ===== PART A: goes FIRST, ahead of the names: the tables' words, and 'selects' of the private methods out of them =====
/-- a private method of a class that the tables say can be made, by its rows of tables_1 -/
def lw_okq (q : MethodName × Nat) : Prop := (q.1.cls ≠ "java/lang/invoke/MethodHandle" ∧ q.1.cls ≠ "java/lang/invoke/VarHandle") ∧ Cond.instantiable q.1.cls q.2 ∈ tables_1 ∧ Cond.privateMethod q.1 ∈ tables_1 ∧ Cond.instanceMethod q.1 ∈ tables_1
theorem lw_p0 : lw_okq (⟨"CheapPlanner$Tokens", "takeCode", "(I)Z"⟩, 9) := ⟨⟨by decide +kernel, by decide +kernel⟩, List.mem_of_getElem? (i := 38) (by decide +kernel), List.mem_of_getElem? (i := 479) (by decide +kernel), List.mem_of_getElem? (i := 480) (by decide +kernel)⟩
theorem lw_p1 : lw_okq (⟨"CheapPlanner", "hasStep", "(I)Z"⟩, 13) := ⟨⟨by decide +kernel, by decide +kernel⟩, List.mem_of_getElem? (i := 30) (by decide +kernel), List.mem_of_getElem? (i := 499) (by decide +kernel), List.mem_of_getElem? (i := 500) (by decide +kernel)⟩
theorem lw_p2 : lw_okq (⟨"CheapPlanner", "forgetProblem", "()V"⟩, 13) := ⟨⟨by decide +kernel, by decide +kernel⟩, List.mem_of_getElem? (i := 30) (by decide +kernel), List.mem_of_getElem? (i := 511) (by decide +kernel), List.mem_of_getElem? (i := 512) (by decide +kernel)⟩
theorem lw_p3 : lw_okq (⟨"CheapPlanner$Tokens", "addWord", "(II)V"⟩, 9) := ⟨⟨by decide +kernel, by decide +kernel⟩, List.mem_of_getElem? (i := 38) (by decide +kernel), List.mem_of_getElem? (i := 531) (by decide +kernel), List.mem_of_getElem? (i := 532) (by decide +kernel)⟩
theorem lw_p4 : lw_okq (⟨"CheapPlanner$Tokens", "nameCode", "(II)J"⟩, 9) := ⟨⟨by decide +kernel, by decide +kernel⟩, List.mem_of_getElem? (i := 38) (by decide +kernel), List.mem_of_getElem? (i := 535) (by decide +kernel), List.mem_of_getElem? (i := 536) (by decide +kernel)⟩
theorem lw_p5 : lw_okq (⟨"CheapPlanner$Tokens", "add", "(IIIJ)V"⟩, 9) := ⟨⟨by decide +kernel, by decide +kernel⟩, List.mem_of_getElem? (i := 38) (by decide +kernel), List.mem_of_getElem? (i := 539) (by decide +kernel), List.mem_of_getElem? (i := 540) (by decide +kernel)⟩
theorem lw_p6 : lw_okq (⟨"CheapPlanner$Reader", "openDefinition", "(Ljava/lang/String;)V"⟩, 4) := ⟨⟨by decide +kernel, by decide +kernel⟩, List.mem_of_getElem? (i := 215) (by decide +kernel), List.mem_of_getElem? (i := 552) (by decide +kernel), List.mem_of_getElem? (i := 553) (by decide +kernel)⟩
theorem lw_p7 : lw_okq (⟨"java/lang/Throwable", "fillInStackTrace", "(I)Ljava/lang/Throwable;"⟩, 6) := ⟨⟨by decide +kernel, by decide +kernel⟩, List.mem_of_getElem? (i := 604) (by decide +kernel), List.mem_of_getElem? (i := 602) (by decide +kernel), List.mem_of_getElem? (i := 603) (by decide +kernel)⟩
theorem lw_p8 : lw_okq (⟨"CheapPlanner$Reader", "readTypes", "()V"⟩, 4) := ⟨⟨by decide +kernel, by decide +kernel⟩, List.mem_of_getElem? (i := 215) (by decide +kernel), List.mem_of_getElem? (i := 701) (by decide +kernel), List.mem_of_getElem? (i := 702) (by decide +kernel)⟩
theorem lw_p9 : lw_okq (⟨"CheapPlanner$Reader", "readNew", "(LCheapPlanner$Names;I)V"⟩, 4) := ⟨⟨by decide +kernel, by decide +kernel⟩, List.mem_of_getElem? (i := 215) (by decide +kernel), List.mem_of_getElem? (i := 709) (by decide +kernel), List.mem_of_getElem? (i := 710) (by decide +kernel)⟩
theorem lw_p10 : lw_okq (⟨"CheapPlanner$Reader", "readPredicates", "()V"⟩, 4) := ⟨⟨by decide +kernel, by decide +kernel⟩, List.mem_of_getElem? (i := 215) (by decide +kernel), List.mem_of_getElem? (i := 723) (by decide +kernel), List.mem_of_getElem? (i := 724) (by decide +kernel)⟩
theorem lw_p11 : lw_okq (⟨"CheapPlanner$Reader", "readParameters", "(LCheapPlanner$Names;I)V"⟩, 4) := ⟨⟨by decide +kernel, by decide +kernel⟩, List.mem_of_getElem? (i := 215) (by decide +kernel), List.mem_of_getElem? (i := 728) (by decide +kernel), List.mem_of_getElem? (i := 729) (by decide +kernel)⟩
theorem lw_p12 : lw_okq (⟨"CheapPlanner$Reader", "readTyped", "(LCheapPlanner$Names;I)V"⟩, 4) := ⟨⟨by decide +kernel, by decide +kernel⟩, List.mem_of_getElem? (i := 215) (by decide +kernel), List.mem_of_getElem? (i := 733) (by decide +kernel), List.mem_of_getElem? (i := 734) (by decide +kernel)⟩
theorem lw_p13 : lw_okq (⟨"CheapPlanner$Reader", "readType", "()I"⟩, 4) := ⟨⟨by decide +kernel, by decide +kernel⟩, List.mem_of_getElem? (i := 215) (by decide +kernel), List.mem_of_getElem? (i := 738) (by decide +kernel), List.mem_of_getElem? (i := 739) (by decide +kernel)⟩
theorem lw_p14 : lw_okq (⟨"CheapPlanner$Reader", "readAction", "(I)V"⟩, 4) := ⟨⟨by decide +kernel, by decide +kernel⟩, List.mem_of_getElem? (i := 215) (by decide +kernel), List.mem_of_getElem? (i := 746) (by decide +kernel), List.mem_of_getElem? (i := 747) (by decide +kernel)⟩
theorem lw_p15 : lw_okq (⟨"CheapPlanner$ClauseReader", "readMember", "(LCheapPlanner$Clause;Z)V"⟩, 4) := ⟨⟨by decide +kernel, by decide +kernel⟩, List.mem_of_getElem? (i := 221) (by decide +kernel), List.mem_of_getElem? (i := 769) (by decide +kernel), List.mem_of_getElem? (i := 770) (by decide +kernel)⟩
def lw_privs_1 : List (MethodName × Nat) := [(⟨"CheapPlanner$Tokens", "takeCode", "(I)Z"⟩, 9), (⟨"CheapPlanner", "hasStep", "(I)Z"⟩, 13), (⟨"CheapPlanner", "forgetProblem", "()V"⟩, 13), (⟨"CheapPlanner$Tokens", "addWord", "(II)V"⟩, 9), (⟨"CheapPlanner$Tokens", "nameCode", "(II)J"⟩, 9), (⟨"CheapPlanner$Tokens", "add", "(IIIJ)V"⟩, 9), (⟨"CheapPlanner$Reader", "openDefinition", "(Ljava/lang/String;)V"⟩, 4), (⟨"java/lang/Throwable", "fillInStackTrace", "(I)Ljava/lang/Throwable;"⟩, 6), (⟨"CheapPlanner$Reader", "readTypes", "()V"⟩, 4), (⟨"CheapPlanner$Reader", "readNew", "(LCheapPlanner$Names;I)V"⟩, 4), (⟨"CheapPlanner$Reader", "readPredicates", "()V"⟩, 4), (⟨"CheapPlanner$Reader", "readParameters", "(LCheapPlanner$Names;I)V"⟩, 4), (⟨"CheapPlanner$Reader", "readTyped", "(LCheapPlanner$Names;I)V"⟩, 4), (⟨"CheapPlanner$Reader", "readType", "()I"⟩, 4), (⟨"CheapPlanner$Reader", "readAction", "(I)V"⟩, 4), (⟨"CheapPlanner$ClauseReader", "readMember", "(LCheapPlanner$Clause;Z)V"⟩, 4)]
theorem lw_r1 : ∀ q ∈ lw_privs_1, lw_okq q := List.forall_mem_cons.mpr ⟨lw_p0, List.forall_mem_cons.mpr ⟨lw_p1, List.forall_mem_cons.mpr ⟨lw_p2, List.forall_mem_cons.mpr ⟨lw_p3, List.forall_mem_cons.mpr ⟨lw_p4, List.forall_mem_cons.mpr ⟨lw_p5, List.forall_mem_cons.mpr ⟨lw_p6, List.forall_mem_cons.mpr ⟨lw_p7, List.forall_mem_cons.mpr ⟨lw_p8, List.forall_mem_cons.mpr ⟨lw_p9, List.forall_mem_cons.mpr ⟨lw_p10, List.forall_mem_cons.mpr ⟨lw_p11, List.forall_mem_cons.mpr ⟨lw_p12, List.forall_mem_cons.mpr ⟨lw_p13, List.forall_mem_cons.mpr ⟨lw_p14, List.forall_mem_cons.mpr ⟨lw_p15, fun _ h => absurd h List.not_mem_nil⟩⟩⟩⟩⟩⟩⟩⟩⟩⟩⟩⟩⟩⟩⟩⟩
theorem lw_p16 : lw_okq (⟨"CheapPlanner$ClauseReader", "readIncrease", "(LCheapPlanner$Clause;)V"⟩, 4) := ⟨⟨by decide +kernel, by decide +kernel⟩, List.mem_of_getElem? (i := 221) (by decide +kernel), List.mem_of_getElem? (i := 774) (by decide +kernel), List.mem_of_getElem? (i := 775) (by decide +kernel)⟩
theorem lw_p17 : lw_okq (⟨"CheapPlanner$ClauseReader", "readEquality", "(LCheapPlanner$Clause;Z)V"⟩, 4) := ⟨⟨by decide +kernel, by decide +kernel⟩, List.mem_of_getElem? (i := 221) (by decide +kernel), List.mem_of_getElem? (i := 788) (by decide +kernel), List.mem_of_getElem? (i := 789) (by decide +kernel)⟩
theorem lw_p18 : lw_okq (⟨"CheapPlanner$ClauseReader", "readTerm", "(I)I"⟩, 4) := ⟨⟨by decide +kernel, by decide +kernel⟩, List.mem_of_getElem? (i := 221) (by decide +kernel), List.mem_of_getElem? (i := 792) (by decide +kernel), List.mem_of_getElem? (i := 793) (by decide +kernel)⟩
theorem lw_p19 : lw_okq (⟨"CheapPlanner$ClauseReader", "readAtom", "(LCheapPlanner$Clause;Z)V"⟩, 4) := ⟨⟨by decide +kernel, by decide +kernel⟩, List.mem_of_getElem? (i := 221) (by decide +kernel), List.mem_of_getElem? (i := 807) (by decide +kernel), List.mem_of_getElem? (i := 808) (by decide +kernel)⟩
theorem lw_p20 : lw_okq (⟨"CheapPlanner$Reader", "closeDefinition", "()V"⟩, 4) := ⟨⟨by decide +kernel, by decide +kernel⟩, List.mem_of_getElem? (i := 215) (by decide +kernel), List.mem_of_getElem? (i := 812) (by decide +kernel), List.mem_of_getElem? (i := 813) (by decide +kernel)⟩
theorem lw_p21 : lw_okq (⟨"CheapPlanner$Reader", "readDomainName", "()V"⟩, 4) := ⟨⟨by decide +kernel, by decide +kernel⟩, List.mem_of_getElem? (i := 215) (by decide +kernel), List.mem_of_getElem? (i := 852) (by decide +kernel), List.mem_of_getElem? (i := 853) (by decide +kernel)⟩
theorem lw_p22 : lw_okq (⟨"CheapPlanner$Reader", "openPart", "(Ljava/lang/String;)V"⟩, 4) := ⟨⟨by decide +kernel, by decide +kernel⟩, List.mem_of_getElem? (i := 215) (by decide +kernel), List.mem_of_getElem? (i := 857) (by decide +kernel), List.mem_of_getElem? (i := 858) (by decide +kernel)⟩
theorem lw_p23 : lw_okq (⟨"CheapPlanner$Reader", "readObjects", "()V"⟩, 4) := ⟨⟨by decide +kernel, by decide +kernel⟩, List.mem_of_getElem? (i := 215) (by decide +kernel), List.mem_of_getElem? (i := 861) (by decide +kernel), List.mem_of_getElem? (i := 862) (by decide +kernel)⟩
theorem lw_p24 : lw_okq (⟨"CheapPlanner$Ground", "numberFacts", "(LCheapPlanner$Domain;LCheapPlanner$Names;)Z"⟩, 7) := ⟨⟨by decide +kernel, by decide +kernel⟩, List.mem_of_getElem? (i := 253) (by decide +kernel), List.mem_of_getElem? (i := 876) (by decide +kernel), List.mem_of_getElem? (i := 877) (by decide +kernel)⟩
theorem lw_p25 : lw_okq (⟨"CheapPlanner$Ground", "numberFactsOf", "(ILCheapPlanner$Names;LCheapPlanner$Names;)Z"⟩, 7) := ⟨⟨by decide +kernel, by decide +kernel⟩, List.mem_of_getElem? (i := 253) (by decide +kernel), List.mem_of_getElem? (i := 880) (by decide +kernel), List.mem_of_getElem? (i := 881) (by decide +kernel)⟩
theorem lw_p26 : lw_okq (⟨"CheapPlanner$Ground", "makeSteps", "(LCheapPlanner$Domain;LCheapPlanner$Names;)Z"⟩, 7) := ⟨⟨by decide +kernel, by decide +kernel⟩, List.mem_of_getElem? (i := 253) (by decide +kernel), List.mem_of_getElem? (i := 888) (by decide +kernel), List.mem_of_getElem? (i := 889) (by decide +kernel)⟩
theorem lw_p27 : lw_okq (⟨"CheapPlanner$Ground", "makeStepsOf", "(ILCheapPlanner$Domain;LCheapPlanner$Names;)Z"⟩, 7) := ⟨⟨by decide +kernel, by decide +kernel⟩, List.mem_of_getElem? (i := 253) (by decide +kernel), List.mem_of_getElem? (i := 892) (by decide +kernel), List.mem_of_getElem? (i := 893) (by decide +kernel)⟩
theorem lw_p28 : lw_okq (⟨"CheapPlanner$Ground", "bindStep", "(LCheapPlanner$Step;LCheapPlanner$Domain;)Z"⟩, 7) := ⟨⟨by decide +kernel, by decide +kernel⟩, List.mem_of_getElem? (i := 253) (by decide +kernel), List.mem_of_getElem? (i := 909) (by decide +kernel), List.mem_of_getElem? (i := 910) (by decide +kernel)⟩
theorem lw_p29 : lw_okq (⟨"CheapPlanner$Needs", "bindAtom", "(IZ)V"⟩, 5) := ⟨⟨by decide +kernel, by decide +kernel⟩, List.mem_of_getElem? (i := 261) (by decide +kernel), List.mem_of_getElem? (i := 921) (by decide +kernel), List.mem_of_getElem? (i := 922) (by decide +kernel)⟩
theorem lw_p30 : lw_okq (⟨"CheapPlanner", "requireProblem", "()V"⟩, 13) := ⟨⟨by decide +kernel, by decide +kernel⟩, List.mem_of_getElem? (i := 30) (by decide +kernel), List.mem_of_getElem? (i := 958) (by decide +kernel), List.mem_of_getElem? (i := 959) (by decide +kernel)⟩
theorem lw_p31 : lw_okq (⟨"CheapPlanner$Search", "slotOf", "(J)I"⟩, 14) := ⟨⟨by decide +kernel, by decide +kernel⟩, List.mem_of_getElem? (i := 365) (by decide +kernel), List.mem_of_getElem? (i := 975) (by decide +kernel), List.mem_of_getElem? (i := 976) (by decide +kernel)⟩
def lw_privs_2 : List (MethodName × Nat) := [(⟨"CheapPlanner$ClauseReader", "readIncrease", "(LCheapPlanner$Clause;)V"⟩, 4), (⟨"CheapPlanner$ClauseReader", "readEquality", "(LCheapPlanner$Clause;Z)V"⟩, 4), (⟨"CheapPlanner$ClauseReader", "readTerm", "(I)I"⟩, 4), (⟨"CheapPlanner$ClauseReader", "readAtom", "(LCheapPlanner$Clause;Z)V"⟩, 4), (⟨"CheapPlanner$Reader", "closeDefinition", "()V"⟩, 4), (⟨"CheapPlanner$Reader", "readDomainName", "()V"⟩, 4), (⟨"CheapPlanner$Reader", "openPart", "(Ljava/lang/String;)V"⟩, 4), (⟨"CheapPlanner$Reader", "readObjects", "()V"⟩, 4), (⟨"CheapPlanner$Ground", "numberFacts", "(LCheapPlanner$Domain;LCheapPlanner$Names;)Z"⟩, 7), (⟨"CheapPlanner$Ground", "numberFactsOf", "(ILCheapPlanner$Names;LCheapPlanner$Names;)Z"⟩, 7), (⟨"CheapPlanner$Ground", "makeSteps", "(LCheapPlanner$Domain;LCheapPlanner$Names;)Z"⟩, 7), (⟨"CheapPlanner$Ground", "makeStepsOf", "(ILCheapPlanner$Domain;LCheapPlanner$Names;)Z"⟩, 7), (⟨"CheapPlanner$Ground", "bindStep", "(LCheapPlanner$Step;LCheapPlanner$Domain;)Z"⟩, 7), (⟨"CheapPlanner$Needs", "bindAtom", "(IZ)V"⟩, 5), (⟨"CheapPlanner", "requireProblem", "()V"⟩, 13), (⟨"CheapPlanner$Search", "slotOf", "(J)I"⟩, 14)]
theorem lw_r2 : ∀ q ∈ lw_privs_2, lw_okq q := List.forall_mem_cons.mpr ⟨lw_p16, List.forall_mem_cons.mpr ⟨lw_p17, List.forall_mem_cons.mpr ⟨lw_p18, List.forall_mem_cons.mpr ⟨lw_p19, List.forall_mem_cons.mpr ⟨lw_p20, List.forall_mem_cons.mpr ⟨lw_p21, List.forall_mem_cons.mpr ⟨lw_p22, List.forall_mem_cons.mpr ⟨lw_p23, List.forall_mem_cons.mpr ⟨lw_p24, List.forall_mem_cons.mpr ⟨lw_p25, List.forall_mem_cons.mpr ⟨lw_p26, List.forall_mem_cons.mpr ⟨lw_p27, List.forall_mem_cons.mpr ⟨lw_p28, List.forall_mem_cons.mpr ⟨lw_p29, List.forall_mem_cons.mpr ⟨lw_p30, List.forall_mem_cons.mpr ⟨lw_p31, fun _ h => absurd h List.not_mem_nil⟩⟩⟩⟩⟩⟩⟩⟩⟩⟩⟩⟩⟩⟩⟩⟩
theorem lw_p32 : lw_okq (⟨"CheapPlanner$Search", "add", "(IJI)V"⟩, 14) := ⟨⟨by decide +kernel, by decide +kernel⟩, List.mem_of_getElem? (i := 365) (by decide +kernel), List.mem_of_getElem? (i := 980) (by decide +kernel), List.mem_of_getElem? (i := 981) (by decide +kernel)⟩
theorem lw_p33 : lw_okq (⟨"CheapPlanner$Search", "setDue", "(II)V"⟩, 14) := ⟨⟨by decide +kernel, by decide +kernel⟩, List.mem_of_getElem? (i := 365) (by decide +kernel), List.mem_of_getElem? (i := 984) (by decide +kernel), List.mem_of_getElem? (i := 985) (by decide +kernel)⟩
theorem lw_p34 : lw_okq (⟨"CheapPlanner$Search", "leastDue", "()I"⟩, 14) := ⟨⟨by decide +kernel, by decide +kernel⟩, List.mem_of_getElem? (i := 365) (by decide +kernel), List.mem_of_getElem? (i := 988) (by decide +kernel), List.mem_of_getElem? (i := 989) (by decide +kernel)⟩
theorem lw_p35 : lw_okq (⟨"CheapPlanner$Search", "goOn", "()V"⟩, 14) := ⟨⟨by decide +kernel, by decide +kernel⟩, List.mem_of_getElem? (i := 365) (by decide +kernel), List.mem_of_getElem? (i := 995) (by decide +kernel), List.mem_of_getElem? (i := 996) (by decide +kernel)⟩
theorem lw_p36 : lw_okq (⟨"CheapPlanner$Search", "goOnFrom", "(II)V"⟩, 14) := ⟨⟨by decide +kernel, by decide +kernel⟩, List.mem_of_getElem? (i := 365) (by decide +kernel), List.mem_of_getElem? (i := 999) (by decide +kernel), List.mem_of_getElem? (i := 1000) (by decide +kernel)⟩
theorem lw_p37 : lw_okq (⟨"CheapPlanner$Search", "comeTo", "(JII)V"⟩, 14) := ⟨⟨by decide +kernel, by decide +kernel⟩, List.mem_of_getElem? (i := 365) (by decide +kernel), List.mem_of_getElem? (i := 1008) (by decide +kernel), List.mem_of_getElem? (i := 1009) (by decide +kernel)⟩
theorem lw_p38 : lw_okq (⟨"CheapPlanner$Search", "offer", "(III)V"⟩, 14) := ⟨⟨by decide +kernel, by decide +kernel⟩, List.mem_of_getElem? (i := 365) (by decide +kernel), List.mem_of_getElem? (i := 1012) (by decide +kernel), List.mem_of_getElem? (i := 1013) (by decide +kernel)⟩
theorem lw_p39 : lw_okq (⟨"CheapPlanner$Search", "isBefore", "(III)Z"⟩, 14) := ⟨⟨by decide +kernel, by decide +kernel⟩, List.mem_of_getElem? (i := 365) (by decide +kernel), List.mem_of_getElem? (i := 1016) (by decide +kernel), List.mem_of_getElem? (i := 1017) (by decide +kernel)⟩
theorem lw_p40 : lw_okq (⟨"CheapPlanner$Search", "traceSteps", "()V"⟩, 14) := ⟨⟨by decide +kernel, by decide +kernel⟩, List.mem_of_getElem? (i := 365) (by decide +kernel), List.mem_of_getElem? (i := 1020) (by decide +kernel), List.mem_of_getElem? (i := 1021) (by decide +kernel)⟩
theorem lw_p41 : lw_okq (⟨"CheapPlanner", "tellStep", "(LCheapPlanner$Step;)V"⟩, 13) := ⟨⟨by decide +kernel, by decide +kernel⟩, List.mem_of_getElem? (i := 30) (by decide +kernel), List.mem_of_getElem? (i := 1041) (by decide +kernel), List.mem_of_getElem? (i := 1042) (by decide +kernel)⟩
theorem lw_p42 : lw_okq (⟨"CheapPlanner", "tell", "(C)V"⟩, 13) := ⟨⟨by decide +kernel, by decide +kernel⟩, List.mem_of_getElem? (i := 30) (by decide +kernel), List.mem_of_getElem? (i := 1045) (by decide +kernel), List.mem_of_getElem? (i := 1046) (by decide +kernel)⟩
theorem lw_p43 : lw_okq (⟨"CheapPlanner", "tellName", "(J)V"⟩, 13) := ⟨⟨by decide +kernel, by decide +kernel⟩, List.mem_of_getElem? (i := 30) (by decide +kernel), List.mem_of_getElem? (i := 1049) (by decide +kernel), List.mem_of_getElem? (i := 1050) (by decide +kernel)⟩
theorem lw_p44 : lw_okq (⟨"CheapPlanner$Estimate", "lowerAll", "(Z)Z"⟩, 2) := ⟨⟨by decide +kernel, by decide +kernel⟩, List.mem_of_getElem? (i := 414) (by decide +kernel), List.mem_of_getElem? (i := 1143) (by decide +kernel), List.mem_of_getElem? (i := 1144) (by decide +kernel)⟩
theorem lw_p45 : lw_okq (⟨"CheapPlanner$Estimate", "worthOf", "(LCheapPlanner$Needs;Z)I"⟩, 2) := ⟨⟨by decide +kernel, by decide +kernel⟩, List.mem_of_getElem? (i := 414) (by decide +kernel), List.mem_of_getElem? (i := 1147) (by decide +kernel), List.mem_of_getElem? (i := 1148) (by decide +kernel)⟩
theorem lw_p46 : lw_okq (⟨"CheapPlanner$Estimate", "lowerComers", "(LCheapPlanner$Step;I)Z"⟩, 2) := ⟨⟨by decide +kernel, by decide +kernel⟩, List.mem_of_getElem? (i := 414) (by decide +kernel), List.mem_of_getElem? (i := 1154) (by decide +kernel), List.mem_of_getElem? (i := 1155) (by decide +kernel)⟩
theorem lw_p47 : lw_okq (⟨"CheapPlannerModel", "word", "(IIIII)V"⟩, 71) := ⟨⟨by decide +kernel, by decide +kernel⟩, List.mem_of_getElem? (i := 1158) (by decide +kernel), List.mem_of_getElem? (i := 1166) (by decide +kernel), List.mem_of_getElem? (i := 1167) (by decide +kernel)⟩
def lw_privs_3 : List (MethodName × Nat) := [(⟨"CheapPlanner$Search", "add", "(IJI)V"⟩, 14), (⟨"CheapPlanner$Search", "setDue", "(II)V"⟩, 14), (⟨"CheapPlanner$Search", "leastDue", "()I"⟩, 14), (⟨"CheapPlanner$Search", "goOn", "()V"⟩, 14), (⟨"CheapPlanner$Search", "goOnFrom", "(II)V"⟩, 14), (⟨"CheapPlanner$Search", "comeTo", "(JII)V"⟩, 14), (⟨"CheapPlanner$Search", "offer", "(III)V"⟩, 14), (⟨"CheapPlanner$Search", "isBefore", "(III)Z"⟩, 14), (⟨"CheapPlanner$Search", "traceSteps", "()V"⟩, 14), (⟨"CheapPlanner", "tellStep", "(LCheapPlanner$Step;)V"⟩, 13), (⟨"CheapPlanner", "tell", "(C)V"⟩, 13), (⟨"CheapPlanner", "tellName", "(J)V"⟩, 13), (⟨"CheapPlanner$Estimate", "lowerAll", "(Z)Z"⟩, 2), (⟨"CheapPlanner$Estimate", "worthOf", "(LCheapPlanner$Needs;Z)I"⟩, 2), (⟨"CheapPlanner$Estimate", "lowerComers", "(LCheapPlanner$Step;I)Z"⟩, 2), (⟨"CheapPlannerModel", "word", "(IIIII)V"⟩, 71)]
theorem lw_r3 : ∀ q ∈ lw_privs_3, lw_okq q := List.forall_mem_cons.mpr ⟨lw_p32, List.forall_mem_cons.mpr ⟨lw_p33, List.forall_mem_cons.mpr ⟨lw_p34, List.forall_mem_cons.mpr ⟨lw_p35, List.forall_mem_cons.mpr ⟨lw_p36, List.forall_mem_cons.mpr ⟨lw_p37, List.forall_mem_cons.mpr ⟨lw_p38, List.forall_mem_cons.mpr ⟨lw_p39, List.forall_mem_cons.mpr ⟨lw_p40, List.forall_mem_cons.mpr ⟨lw_p41, List.forall_mem_cons.mpr ⟨lw_p42, List.forall_mem_cons.mpr ⟨lw_p43, List.forall_mem_cons.mpr ⟨lw_p44, List.forall_mem_cons.mpr ⟨lw_p45, List.forall_mem_cons.mpr ⟨lw_p46, List.forall_mem_cons.mpr ⟨lw_p47, fun _ h => absurd h List.not_mem_nil⟩⟩⟩⟩⟩⟩⟩⟩⟩⟩⟩⟩⟩⟩⟩⟩
theorem lw_p48 : lw_okq (⟨"CheapPlannerModel", "clearFault", "()V"⟩, 71) := ⟨⟨by decide +kernel, by decide +kernel⟩, List.mem_of_getElem? (i := 1158) (by decide +kernel), List.mem_of_getElem? (i := 1435) (by decide +kernel), List.mem_of_getElem? (i := 1436) (by decide +kernel)⟩
theorem lw_p49 : lw_okq (⟨"CheapPlannerModel", "scan", "()V"⟩, 71) := ⟨⟨by decide +kernel, by decide +kernel⟩, List.mem_of_getElem? (i := 1158) (by decide +kernel), List.mem_of_getElem? (i := 1439) (by decide +kernel), List.mem_of_getElem? (i := 1440) (by decide +kernel)⟩
theorem lw_p50 : lw_okq (⟨"CheapPlannerModel", "readDomain", "()V"⟩, 71) := ⟨⟨by decide +kernel, by decide +kernel⟩, List.mem_of_getElem? (i := 1158) (by decide +kernel), List.mem_of_getElem? (i := 1443) (by decide +kernel), List.mem_of_getElem? (i := 1444) (by decide +kernel)⟩
theorem lw_p51 : lw_okq (⟨"CheapPlannerModel", "needSign", "(I)V"⟩, 71) := ⟨⟨by decide +kernel, by decide +kernel⟩, List.mem_of_getElem? (i := 1158) (by decide +kernel), List.mem_of_getElem? (i := 1447) (by decide +kernel), List.mem_of_getElem? (i := 1448) (by decide +kernel)⟩
theorem lw_p52 : lw_okq (⟨"CheapPlannerModel", "isSign", "(I)Z"⟩, 71) := ⟨⟨by decide +kernel, by decide +kernel⟩, List.mem_of_getElem? (i := 1158) (by decide +kernel), List.mem_of_getElem? (i := 1451) (by decide +kernel), List.mem_of_getElem? (i := 1452) (by decide +kernel)⟩
theorem lw_p53 : lw_okq (⟨"CheapPlannerModel", "size", "()I"⟩, 71) := ⟨⟨by decide +kernel, by decide +kernel⟩, List.mem_of_getElem? (i := 1158) (by decide +kernel), List.mem_of_getElem? (i := 1455) (by decide +kernel), List.mem_of_getElem? (i := 1456) (by decide +kernel)⟩
theorem lw_p54 : lw_okq (⟨"CheapPlannerModel", "wrong", "(I)V"⟩, 71) := ⟨⟨by decide +kernel, by decide +kernel⟩, List.mem_of_getElem? (i := 1158) (by decide +kernel), List.mem_of_getElem? (i := 1459) (by decide +kernel), List.mem_of_getElem? (i := 1460) (by decide +kernel)⟩
theorem lw_p55 : lw_okq (⟨"CheapPlannerModel", "needWord", "(I)V"⟩, 71) := ⟨⟨by decide +kernel, by decide +kernel⟩, List.mem_of_getElem? (i := 1158) (by decide +kernel), List.mem_of_getElem? (i := 1463) (by decide +kernel), List.mem_of_getElem? (i := 1464) (by decide +kernel)⟩
theorem lw_p56 : lw_okq (⟨"CheapPlannerModel", "isWord", "(I)Z"⟩, 71) := ⟨⟨by decide +kernel, by decide +kernel⟩, List.mem_of_getElem? (i := 1158) (by decide +kernel), List.mem_of_getElem? (i := 1467) (by decide +kernel), List.mem_of_getElem? (i := 1468) (by decide +kernel)⟩
theorem lw_p57 : lw_okq (⟨"CheapPlannerModel", "letterAt", "(I)I"⟩, 71) := ⟨⟨by decide +kernel, by decide +kernel⟩, List.mem_of_getElem? (i := 1158) (by decide +kernel), List.mem_of_getElem? (i := 1471) (by decide +kernel), List.mem_of_getElem? (i := 1472) (by decide +kernel)⟩
theorem lw_p58 : lw_okq (⟨"CheapPlannerModel", "needName", "()J"⟩, 71) := ⟨⟨by decide +kernel, by decide +kernel⟩, List.mem_of_getElem? (i := 1158) (by decide +kernel), List.mem_of_getElem? (i := 1475) (by decide +kernel), List.mem_of_getElem? (i := 1476) (by decide +kernel)⟩
theorem lw_p59 : lw_okq (⟨"CheapPlannerModel", "bad", "()Z"⟩, 71) := ⟨⟨by decide +kernel, by decide +kernel⟩, List.mem_of_getElem? (i := 1158) (by decide +kernel), List.mem_of_getElem? (i := 1479) (by decide +kernel), List.mem_of_getElem? (i := 1480) (by decide +kernel)⟩
theorem lw_p60 : lw_okq (⟨"CheapPlannerModel", "nameAt", "(I)J"⟩, 71) := ⟨⟨by decide +kernel, by decide +kernel⟩, List.mem_of_getElem? (i := 1158) (by decide +kernel), List.mem_of_getElem? (i := 1483) (by decide +kernel), List.mem_of_getElem? (i := 1484) (by decide +kernel)⟩
theorem lw_p61 : lw_okq (⟨"CheapPlannerModel", "pass", "()V"⟩, 71) := ⟨⟨by decide +kernel, by decide +kernel⟩, List.mem_of_getElem? (i := 1158) (by decide +kernel), List.mem_of_getElem? (i := 1488) (by decide +kernel), List.mem_of_getElem? (i := 1489) (by decide +kernel)⟩
theorem lw_p62 : lw_okq (⟨"CheapPlannerModel", "readTypes", "()V"⟩, 71) := ⟨⟨by decide +kernel, by decide +kernel⟩, List.mem_of_getElem? (i := 1158) (by decide +kernel), List.mem_of_getElem? (i := 1492) (by decide +kernel), List.mem_of_getElem? (i := 1493) (by decide +kernel)⟩
theorem lw_p63 : lw_okq (⟨"CheapPlannerModel", "readPredicate", "()V"⟩, 71) := ⟨⟨by decide +kernel, by decide +kernel⟩, List.mem_of_getElem? (i := 1158) (by decide +kernel), List.mem_of_getElem? (i := 1499) (by decide +kernel), List.mem_of_getElem? (i := 1500) (by decide +kernel)⟩
def lw_privs_4 : List (MethodName × Nat) := [(⟨"CheapPlannerModel", "clearFault", "()V"⟩, 71), (⟨"CheapPlannerModel", "scan", "()V"⟩, 71), (⟨"CheapPlannerModel", "readDomain", "()V"⟩, 71), (⟨"CheapPlannerModel", "needSign", "(I)V"⟩, 71), (⟨"CheapPlannerModel", "isSign", "(I)Z"⟩, 71), (⟨"CheapPlannerModel", "size", "()I"⟩, 71), (⟨"CheapPlannerModel", "wrong", "(I)V"⟩, 71), (⟨"CheapPlannerModel", "needWord", "(I)V"⟩, 71), (⟨"CheapPlannerModel", "isWord", "(I)Z"⟩, 71), (⟨"CheapPlannerModel", "letterAt", "(I)I"⟩, 71), (⟨"CheapPlannerModel", "needName", "()J"⟩, 71), (⟨"CheapPlannerModel", "bad", "()Z"⟩, 71), (⟨"CheapPlannerModel", "nameAt", "(I)J"⟩, 71), (⟨"CheapPlannerModel", "pass", "()V"⟩, 71), (⟨"CheapPlannerModel", "readTypes", "()V"⟩, 71), (⟨"CheapPlannerModel", "readPredicate", "()V"⟩, 71)]
theorem lw_r4 : ∀ q ∈ lw_privs_4, lw_okq q := List.forall_mem_cons.mpr ⟨lw_p48, List.forall_mem_cons.mpr ⟨lw_p49, List.forall_mem_cons.mpr ⟨lw_p50, List.forall_mem_cons.mpr ⟨lw_p51, List.forall_mem_cons.mpr ⟨lw_p52, List.forall_mem_cons.mpr ⟨lw_p53, List.forall_mem_cons.mpr ⟨lw_p54, List.forall_mem_cons.mpr ⟨lw_p55, List.forall_mem_cons.mpr ⟨lw_p56, List.forall_mem_cons.mpr ⟨lw_p57, List.forall_mem_cons.mpr ⟨lw_p58, List.forall_mem_cons.mpr ⟨lw_p59, List.forall_mem_cons.mpr ⟨lw_p60, List.forall_mem_cons.mpr ⟨lw_p61, List.forall_mem_cons.mpr ⟨lw_p62, List.forall_mem_cons.mpr ⟨lw_p63, fun _ h => absurd h List.not_mem_nil⟩⟩⟩⟩⟩⟩⟩⟩⟩⟩⟩⟩⟩⟩⟩⟩
theorem lw_p64 : lw_okq (⟨"CheapPlannerModel", "readPredicateVariables", "()I"⟩, 71) := ⟨⟨by decide +kernel, by decide +kernel⟩, List.mem_of_getElem? (i := 1158) (by decide +kernel), List.mem_of_getElem? (i := 1503) (by decide +kernel), List.mem_of_getElem? (i := 1504) (by decide +kernel)⟩
theorem lw_p65 : lw_okq (⟨"CheapPlannerModel", "isVariable", "()Z"⟩, 71) := ⟨⟨by decide +kernel, by decide +kernel⟩, List.mem_of_getElem? (i := 1158) (by decide +kernel), List.mem_of_getElem? (i := 1507) (by decide +kernel), List.mem_of_getElem? (i := 1508) (by decide +kernel)⟩
theorem lw_p66 : lw_okq (⟨"CheapPlannerModel", "readType", "()I"⟩, 71) := ⟨⟨by decide +kernel, by decide +kernel⟩, List.mem_of_getElem? (i := 1158) (by decide +kernel), List.mem_of_getElem? (i := 1511) (by decide +kernel), List.mem_of_getElem? (i := 1512) (by decide +kernel)⟩
theorem lw_p67 : lw_okq (⟨"CheapPlannerModel", "readAction", "()V"⟩, 71) := ⟨⟨by decide +kernel, by decide +kernel⟩, List.mem_of_getElem? (i := 1158) (by decide +kernel), List.mem_of_getElem? (i := 1515) (by decide +kernel), List.mem_of_getElem? (i := 1516) (by decide +kernel)⟩
theorem lw_p68 : lw_okq (⟨"CheapPlannerModel", "readVariables", "(I[J[II)I"⟩, 71) := ⟨⟨by decide +kernel, by decide +kernel⟩, List.mem_of_getElem? (i := 1158) (by decide +kernel), List.mem_of_getElem? (i := 1519) (by decide +kernel), List.mem_of_getElem? (i := 1520) (by decide +kernel)⟩
theorem lw_p69 : lw_okq (⟨"CheapPlannerModel", "readCondition", "(II)V"⟩, 71) := ⟨⟨by decide +kernel, by decide +kernel⟩, List.mem_of_getElem? (i := 1158) (by decide +kernel), List.mem_of_getElem? (i := 1523) (by decide +kernel), List.mem_of_getElem? (i := 1524) (by decide +kernel)⟩
theorem lw_p70 : lw_okq (⟨"CheapPlannerModel", "readLiteral", "(II)V"⟩, 71) := ⟨⟨by decide +kernel, by decide +kernel⟩, List.mem_of_getElem? (i := 1158) (by decide +kernel), List.mem_of_getElem? (i := 1527) (by decide +kernel), List.mem_of_getElem? (i := 1528) (by decide +kernel)⟩
theorem lw_p71 : lw_okq (⟨"CheapPlannerModel", "readTerm", "(II)I"⟩, 71) := ⟨⟨by decide +kernel, by decide +kernel⟩, List.mem_of_getElem? (i := 1158) (by decide +kernel), List.mem_of_getElem? (i := 1531) (by decide +kernel), List.mem_of_getElem? (i := 1532) (by decide +kernel)⟩
theorem lw_p72 : lw_okq (⟨"CheapPlannerModel", "readAtom", "(II)V"⟩, 71) := ⟨⟨by decide +kernel, by decide +kernel⟩, List.mem_of_getElem? (i := 1158) (by decide +kernel), List.mem_of_getElem? (i := 1535) (by decide +kernel), List.mem_of_getElem? (i := 1536) (by decide +kernel)⟩
theorem lw_p73 : lw_okq (⟨"CheapPlannerModel", "readEffect", "(I)V"⟩, 71) := ⟨⟨by decide +kernel, by decide +kernel⟩, List.mem_of_getElem? (i := 1158) (by decide +kernel), List.mem_of_getElem? (i := 1539) (by decide +kernel), List.mem_of_getElem? (i := 1540) (by decide +kernel)⟩
theorem lw_p74 : lw_okq (⟨"CheapPlannerModel", "readOneEffect", "(I)V"⟩, 71) := ⟨⟨by decide +kernel, by decide +kernel⟩, List.mem_of_getElem? (i := 1158) (by decide +kernel), List.mem_of_getElem? (i := 1543) (by decide +kernel), List.mem_of_getElem? (i := 1544) (by decide +kernel)⟩
theorem lw_p75 : lw_okq (⟨"CheapPlannerModel", "readIncrease", "(I)V"⟩, 71) := ⟨⟨by decide +kernel, by decide +kernel⟩, List.mem_of_getElem? (i := 1158) (by decide +kernel), List.mem_of_getElem? (i := 1547) (by decide +kernel), List.mem_of_getElem? (i := 1548) (by decide +kernel)⟩
theorem lw_p76 : lw_okq (⟨"CheapPlannerModel", "told", "()Z"⟩, 71) := ⟨⟨by decide +kernel, by decide +kernel⟩, List.mem_of_getElem? (i := 1158) (by decide +kernel), List.mem_of_getElem? (i := 1551) (by decide +kernel), List.mem_of_getElem? (i := 1552) (by decide +kernel)⟩
theorem lw_p77 : lw_okq (⟨"CheapPlannerModel", "readProblem", "()V"⟩, 71) := ⟨⟨by decide +kernel, by decide +kernel⟩, List.mem_of_getElem? (i := 1158) (by decide +kernel), List.mem_of_getElem? (i := 1563) (by decide +kernel), List.mem_of_getElem? (i := 1564) (by decide +kernel)⟩
theorem lw_p78 : lw_okq (⟨"CheapPlannerModel", "readObject", "()V"⟩, 71) := ⟨⟨by decide +kernel, by decide +kernel⟩, List.mem_of_getElem? (i := 1158) (by decide +kernel), List.mem_of_getElem? (i := 1567) (by decide +kernel), List.mem_of_getElem? (i := 1568) (by decide +kernel)⟩
theorem lw_p79 : lw_okq (⟨"CheapPlannerModel", "layFacts", "()V"⟩, 71) := ⟨⟨by decide +kernel, by decide +kernel⟩, List.mem_of_getElem? (i := 1158) (by decide +kernel), List.mem_of_getElem? (i := 1571) (by decide +kernel), List.mem_of_getElem? (i := 1572) (by decide +kernel)⟩
def lw_privs_5 : List (MethodName × Nat) := [(⟨"CheapPlannerModel", "readPredicateVariables", "()I"⟩, 71), (⟨"CheapPlannerModel", "isVariable", "()Z"⟩, 71), (⟨"CheapPlannerModel", "readType", "()I"⟩, 71), (⟨"CheapPlannerModel", "readAction", "()V"⟩, 71), (⟨"CheapPlannerModel", "readVariables", "(I[J[II)I"⟩, 71), (⟨"CheapPlannerModel", "readCondition", "(II)V"⟩, 71), (⟨"CheapPlannerModel", "readLiteral", "(II)V"⟩, 71), (⟨"CheapPlannerModel", "readTerm", "(II)I"⟩, 71), (⟨"CheapPlannerModel", "readAtom", "(II)V"⟩, 71), (⟨"CheapPlannerModel", "readEffect", "(I)V"⟩, 71), (⟨"CheapPlannerModel", "readOneEffect", "(I)V"⟩, 71), (⟨"CheapPlannerModel", "readIncrease", "(I)V"⟩, 71), (⟨"CheapPlannerModel", "told", "()Z"⟩, 71), (⟨"CheapPlannerModel", "readProblem", "()V"⟩, 71), (⟨"CheapPlannerModel", "readObject", "()V"⟩, 71), (⟨"CheapPlannerModel", "layFacts", "()V"⟩, 71)]
theorem lw_r5 : ∀ q ∈ lw_privs_5, lw_okq q := List.forall_mem_cons.mpr ⟨lw_p64, List.forall_mem_cons.mpr ⟨lw_p65, List.forall_mem_cons.mpr ⟨lw_p66, List.forall_mem_cons.mpr ⟨lw_p67, List.forall_mem_cons.mpr ⟨lw_p68, List.forall_mem_cons.mpr ⟨lw_p69, List.forall_mem_cons.mpr ⟨lw_p70, List.forall_mem_cons.mpr ⟨lw_p71, List.forall_mem_cons.mpr ⟨lw_p72, List.forall_mem_cons.mpr ⟨lw_p73, List.forall_mem_cons.mpr ⟨lw_p74, List.forall_mem_cons.mpr ⟨lw_p75, List.forall_mem_cons.mpr ⟨lw_p76, List.forall_mem_cons.mpr ⟨lw_p77, List.forall_mem_cons.mpr ⟨lw_p78, List.forall_mem_cons.mpr ⟨lw_p79, fun _ h => absurd h List.not_mem_nil⟩⟩⟩⟩⟩⟩⟩⟩⟩⟩⟩⟩⟩⟩⟩⟩
theorem lw_p80 : lw_okq (⟨"CheapPlannerModel", "fits", "(II)Z"⟩, 71) := ⟨⟨by decide +kernel, by decide +kernel⟩, List.mem_of_getElem? (i := 1158) (by decide +kernel), List.mem_of_getElem? (i := 1575) (by decide +kernel), List.mem_of_getElem? (i := 1576) (by decide +kernel)⟩
theorem lw_p81 : lw_okq (⟨"CheapPlannerModel", "readInit", "()V"⟩, 71) := ⟨⟨by decide +kernel, by decide +kernel⟩, List.mem_of_getElem? (i := 1158) (by decide +kernel), List.mem_of_getElem? (i := 1579) (by decide +kernel), List.mem_of_getElem? (i := 1580) (by decide +kernel)⟩
theorem lw_p82 : lw_okq (⟨"CheapPlannerModel", "factAt", "(III)I"⟩, 71) := ⟨⟨by decide +kernel, by decide +kernel⟩, List.mem_of_getElem? (i := 1158) (by decide +kernel), List.mem_of_getElem? (i := 1583) (by decide +kernel), List.mem_of_getElem? (i := 1584) (by decide +kernel)⟩
theorem lw_p83 : lw_okq (⟨"CheapPlannerModel", "groundAction", "(I)Z"⟩, 71) := ⟨⟨by decide +kernel, by decide +kernel⟩, List.mem_of_getElem? (i := 1158) (by decide +kernel), List.mem_of_getElem? (i := 1587) (by decide +kernel), List.mem_of_getElem? (i := 1588) (by decide +kernel)⟩
theorem lw_p84 : lw_okq (⟨"CheapPlannerModel", "equalsHold", "(II)Z"⟩, 71) := ⟨⟨by decide +kernel, by decide +kernel⟩, List.mem_of_getElem? (i := 1158) (by decide +kernel), List.mem_of_getElem? (i := 1591) (by decide +kernel), List.mem_of_getElem? (i := 1592) (by decide +kernel)⟩
theorem lw_p85 : lw_okq (⟨"CheapPlannerModel", "valueOf", "(III)I"⟩, 71) := ⟨⟨by decide +kernel, by decide +kernel⟩, List.mem_of_getElem? (i := 1158) (by decide +kernel), List.mem_of_getElem? (i := 1595) (by decide +kernel), List.mem_of_getElem? (i := 1596) (by decide +kernel)⟩
theorem lw_p86 : lw_okq (⟨"CheapPlannerModel", "atoms", "(IIIZ)J"⟩, 71) := ⟨⟨by decide +kernel, by decide +kernel⟩, List.mem_of_getElem? (i := 1158) (by decide +kernel), List.mem_of_getElem? (i := 1599) (by decide +kernel), List.mem_of_getElem? (i := 1600) (by decide +kernel)⟩
theorem lw_p87 : lw_okq (⟨"CheapPlannerModel", "factBit", "(II)J"⟩, 71) := ⟨⟨by decide +kernel, by decide +kernel⟩, List.mem_of_getElem? (i := 1158) (by decide +kernel), List.mem_of_getElem? (i := 1603) (by decide +kernel), List.mem_of_getElem? (i := 1604) (by decide +kernel)⟩
theorem lw_p88 : lw_okq (⟨"CheapPlannerModel", "isGoal", "(J)Z"⟩, 71) := ⟨⟨by decide +kernel, by decide +kernel⟩, List.mem_of_getElem? (i := 1158) (by decide +kernel), List.mem_of_getElem? (i := 1611) (by decide +kernel), List.mem_of_getElem? (i := 1612) (by decide +kernel)⟩
theorem lw_p89 : lw_okq (⟨"CheapPlannerModel", "slot", "(J)I"⟩, 71) := ⟨⟨by decide +kernel, by decide +kernel⟩, List.mem_of_getElem? (i := 1158) (by decide +kernel), List.mem_of_getElem? (i := 1616) (by decide +kernel), List.mem_of_getElem? (i := 1617) (by decide +kernel)⟩
theorem lw_p90 : lw_okq (⟨"CheapPlannerModel", "nextCost", "()I"⟩, 71) := ⟨⟨by decide +kernel, by decide +kernel⟩, List.mem_of_getElem? (i := 1158) (by decide +kernel), List.mem_of_getElem? (i := 1621) (by decide +kernel), List.mem_of_getElem? (i := 1622) (by decide +kernel)⟩
theorem lw_p91 : lw_okq (⟨"CheapPlannerModel", "canBe", "(IJ)Z"⟩, 71) := ⟨⟨by decide +kernel, by decide +kernel⟩, List.mem_of_getElem? (i := 1158) (by decide +kernel), List.mem_of_getElem? (i := 1625) (by decide +kernel), List.mem_of_getElem? (i := 1626) (by decide +kernel)⟩
theorem lw_p92 : lw_okq (⟨"CheapPlannerModel", "done", "(IJ)J"⟩, 71) := ⟨⟨by decide +kernel, by decide +kernel⟩, List.mem_of_getElem? (i := 1158) (by decide +kernel), List.mem_of_getElem? (i := 1629) (by decide +kernel), List.mem_of_getElem? (i := 1630) (by decide +kernel)⟩
theorem lw_p93 : lw_okq (⟨"CheapPlannerModel", "findGoal", "(I)V"⟩, 71) := ⟨⟨by decide +kernel, by decide +kernel⟩, List.mem_of_getElem? (i := 1158) (by decide +kernel), List.mem_of_getElem? (i := 1633) (by decide +kernel), List.mem_of_getElem? (i := 1634) (by decide +kernel)⟩
theorem lw_p94 : lw_okq (⟨"CheapPlannerModel", "isBefore", "(III)Z"⟩, 71) := ⟨⟨by decide +kernel, by decide +kernel⟩, List.mem_of_getElem? (i := 1158) (by decide +kernel), List.mem_of_getElem? (i := 1637) (by decide +kernel), List.mem_of_getElem? (i := 1638) (by decide +kernel)⟩
theorem lw_p95 : lw_okq (⟨"CheapPlannerModel", "walk", "(I[I)V"⟩, 71) := ⟨⟨by decide +kernel, by decide +kernel⟩, List.mem_of_getElem? (i := 1158) (by decide +kernel), List.mem_of_getElem? (i := 1641) (by decide +kernel), List.mem_of_getElem? (i := 1642) (by decide +kernel)⟩
def lw_privs_6 : List (MethodName × Nat) := [(⟨"CheapPlannerModel", "fits", "(II)Z"⟩, 71), (⟨"CheapPlannerModel", "readInit", "()V"⟩, 71), (⟨"CheapPlannerModel", "factAt", "(III)I"⟩, 71), (⟨"CheapPlannerModel", "groundAction", "(I)Z"⟩, 71), (⟨"CheapPlannerModel", "equalsHold", "(II)Z"⟩, 71), (⟨"CheapPlannerModel", "valueOf", "(III)I"⟩, 71), (⟨"CheapPlannerModel", "atoms", "(IIIZ)J"⟩, 71), (⟨"CheapPlannerModel", "factBit", "(II)J"⟩, 71), (⟨"CheapPlannerModel", "isGoal", "(J)Z"⟩, 71), (⟨"CheapPlannerModel", "slot", "(J)I"⟩, 71), (⟨"CheapPlannerModel", "nextCost", "()I"⟩, 71), (⟨"CheapPlannerModel", "canBe", "(IJ)Z"⟩, 71), (⟨"CheapPlannerModel", "done", "(IJ)J"⟩, 71), (⟨"CheapPlannerModel", "findGoal", "(I)V"⟩, 71), (⟨"CheapPlannerModel", "isBefore", "(III)Z"⟩, 71), (⟨"CheapPlannerModel", "walk", "(I[I)V"⟩, 71)]
theorem lw_r6 : ∀ q ∈ lw_privs_6, lw_okq q := List.forall_mem_cons.mpr ⟨lw_p80, List.forall_mem_cons.mpr ⟨lw_p81, List.forall_mem_cons.mpr ⟨lw_p82, List.forall_mem_cons.mpr ⟨lw_p83, List.forall_mem_cons.mpr ⟨lw_p84, List.forall_mem_cons.mpr ⟨lw_p85, List.forall_mem_cons.mpr ⟨lw_p86, List.forall_mem_cons.mpr ⟨lw_p87, List.forall_mem_cons.mpr ⟨lw_p88, List.forall_mem_cons.mpr ⟨lw_p89, List.forall_mem_cons.mpr ⟨lw_p90, List.forall_mem_cons.mpr ⟨lw_p91, List.forall_mem_cons.mpr ⟨lw_p92, List.forall_mem_cons.mpr ⟨lw_p93, List.forall_mem_cons.mpr ⟨lw_p94, List.forall_mem_cons.mpr ⟨lw_p95, fun _ h => absurd h List.not_mem_nil⟩⟩⟩⟩⟩⟩⟩⟩⟩⟩⟩⟩⟩⟩⟩⟩
theorem lw_p96 : lw_okq (⟨"CheapPlannerModel", "know", "(III)V"⟩, 71) := ⟨⟨by decide +kernel, by decide +kernel⟩, List.mem_of_getElem? (i := 1158) (by decide +kernel), List.mem_of_getElem? (i := 1645) (by decide +kernel), List.mem_of_getElem? (i := 1646) (by decide +kernel)⟩
theorem lw_p97 : lw_okq (⟨"CheapPlannerModel", "grow", "(II)Z"⟩, 71) := ⟨⟨by decide +kernel, by decide +kernel⟩, List.mem_of_getElem? (i := 1158) (by decide +kernel), List.mem_of_getElem? (i := 1649) (by decide +kernel), List.mem_of_getElem? (i := 1650) (by decide +kernel)⟩
theorem lw_p98 : lw_okq (⟨"CheapPlannerModel", "tell", "(I)V"⟩, 71) := ⟨⟨by decide +kernel, by decide +kernel⟩, List.mem_of_getElem? (i := 1158) (by decide +kernel), List.mem_of_getElem? (i := 1669) (by decide +kernel), List.mem_of_getElem? (i := 1670) (by decide +kernel)⟩
theorem lw_p99 : lw_okq (⟨"CheapPlannerModel", "tellName", "(J)V"⟩, 71) := ⟨⟨by decide +kernel, by decide +kernel⟩, List.mem_of_getElem? (i := 1158) (by decide +kernel), List.mem_of_getElem? (i := 1673) (by decide +kernel), List.mem_of_getElem? (i := 1674) (by decide +kernel)⟩
theorem lw_p100 : lw_okq (⟨"CheapPlannerModel", "together", "(JI)I"⟩, 71) := ⟨⟨by decide +kernel, by decide +kernel⟩, List.mem_of_getElem? (i := 1158) (by decide +kernel), List.mem_of_getElem? (i := 1689) (by decide +kernel), List.mem_of_getElem? (i := 1690) (by decide +kernel)⟩
def lw_privs_7 : List (MethodName × Nat) := [(⟨"CheapPlannerModel", "know", "(III)V"⟩, 71), (⟨"CheapPlannerModel", "grow", "(II)Z"⟩, 71), (⟨"CheapPlannerModel", "tell", "(I)V"⟩, 71), (⟨"CheapPlannerModel", "tellName", "(J)V"⟩, 71), (⟨"CheapPlannerModel", "together", "(JI)I"⟩, 71)]
theorem lw_r7 : ∀ q ∈ lw_privs_7, lw_okq q := List.forall_mem_cons.mpr ⟨lw_p96, List.forall_mem_cons.mpr ⟨lw_p97, List.forall_mem_cons.mpr ⟨lw_p98, List.forall_mem_cons.mpr ⟨lw_p99, List.forall_mem_cons.mpr ⟨lw_p100, fun _ h => absurd h List.not_mem_nil⟩⟩⟩⟩⟩
def lw_privs : List (MethodName × Nat) := lw_privs_1 ++ (lw_privs_2 ++ (lw_privs_3 ++ (lw_privs_4 ++ (lw_privs_5 ++ (lw_privs_6 ++ (lw_privs_7))))))
def lw_tbl : List Cond := k2_sels lw_privs ++ tables_1
theorem lw_privs_ok : ∀ q ∈ lw_privs, lw_okq q := by
  show ∀ q ∈ lw_privs_1 ++ (lw_privs_2 ++ (lw_privs_3 ++ (lw_privs_4 ++ (lw_privs_5 ++ (lw_privs_6 ++ (lw_privs_7)))))), lw_okq q
  exact List.forall_mem_append.mpr ⟨lw_r1, List.forall_mem_append.mpr ⟨lw_r2, List.forall_mem_append.mpr ⟨lw_r3, List.forall_mem_append.mpr ⟨lw_r4, List.forall_mem_append.mpr ⟨lw_r5, List.forall_mem_append.mpr ⟨lw_r6, lw_r7⟩⟩⟩⟩⟩⟩
end
section
/-! THE ABSTRACT MACHINE: cells by number, references as numbers of cells (.ref k: the k-th new cell), .retAddr j: the j-th text constant -/
abbrev xi_E : Type := (Nat × vp_A) ⊕ (Nat × List Value)
abbrev xi_H : Type := List xi_E
abbrev xi_L : Type := List (Nat × Value)
/-- a row of a method's table: instruction, length, next place, numbers of its own -/
abbrev xi_I : Type := Instr × Nat × Nat × List Nat
/-- a value, made real -/
def xi_v (b0 : Nat) (aS : Nat → Nat) : Value → Value
  | .ref k => .ref (b0 + k)
  | .retAddr j => .ref (aS j)
  | v => v
def xi_q (b0 : Nat) (x : vp_A) : vp_A := match x with
  | (n, .inr (.inr (.inr (.inr f)))) => (n, .inr (.inr (.inr (.inr (fun j => (f j).map (fun k => b0 + k))))))
  | x => x
def xi_e (b0 : Nat) (aS : Nat → Nat) (dA : Nat → ClassId) : xi_E → va_E
  | .inl (t, x) => .inl (dA t, xi_q b0 x)
  | .inr (ci, fs) => .inr (ci, fs.map (xi_v b0 aS))
def xi_w (b0 : Nat) (aS : Nat → Nat) (dA : Nat → ClassId) (A : xi_H) : va_W := A.mapIdx (fun k x => (b0 + k, xi_e b0 aS dA x))
def xi_l (b0 : Nat) (aS : Nat → Nat) (lv : xi_L) : xi_L := lv.map (fun q => (q.1, xi_v b0 aS q.2))
/-- slots of a heap -/
def xi_n : xi_E → Nat
  | .inl (_, x) => x.1
  | .inr (_, fs) => fs.length
def xi_ns (A : xi_H) : Nat := (A.map xi_n).sum
theorem xi_v_cat (b0 : Nat) (aS : Nat → Nat) (v : Value) : (xi_v b0 aS v).category = v.category := by cases v <;> rfl
theorem xi_w_get {b0 : Nat} {aS : Nat → Nat} {dA : Nat → ClassId} {A : xi_H} {k : Nat} {x : xi_E} (h : A[k]? = some x) : (xi_w b0 aS dA A)[k]? = some (b0 + k, xi_e b0 aS dA x) := by
  simp [xi_w, h]
theorem xi_w_len (b0 : Nat) (aS : Nat → Nat) (dA : Nat → ClassId) (A : xi_H) : (xi_w b0 aS dA A).length = A.length := by simp [xi_w]
theorem xi_w_set {b0 : Nat} {aS : Nat → Nat} {dA : Nat → ClassId} {A : xi_H} {k : Nat} {x : xi_E} : (xi_w b0 aS dA A).set k (b0 + k, xi_e b0 aS dA x) = xi_w b0 aS dA (A.set k x) := by
  apply List.ext_getElem?
  intro i
  by_cases h : k = i
  · subst h
    by_cases hk : k < A.length
    · simp [xi_w, List.getElem?_set, hk]
    · simp [xi_w, List.getElem?_set, hk]
  · simp [xi_w, List.getElem?_set, h]
theorem xi_w_push {b0 : Nat} {aS : Nat → Nat} {dA : Nat → ClassId} {A : xi_H} {x : xi_E} : xi_w b0 aS dA A ++ [(b0 + A.length, xi_e b0 aS dA x)] = xi_w b0 aS dA (A ++ [x]) := by
  simp [xi_w, List.mapIdx_append]
theorem xi_w_D {b0 : Nat} {aS : Nat → Nat} {dA : Nat → ClassId} (A : xi_H) : va_D (fun q => b0 ≤ q) (xi_w b0 aS dA A) := by
  refine ⟨fun i j p q hi hj h => ?_, fun k q hk => ?_⟩
  · simp only [xi_w, List.getElem?_mapIdx, Option.map_eq_some_iff] at hi hj
    obtain ⟨x, -, rfl⟩ := hi
    obtain ⟨y, -, rfl⟩ := hj
    simp only at h
    omega
  · simp only [xi_w, List.getElem?_mapIdx, Option.map_eq_some_iff] at hk
    obtain ⟨x, -, rfl⟩ := hk
    exact Nat.le_add_right _ _
theorem xi_ns_set {A : xi_H} {k : Nat} {x y : xi_E} (h : A[k]? = some x) (hn : xi_n x = xi_n y) : xi_ns (A.set k y) = xi_ns A := by
  unfold xi_ns
  congr 1
  apply List.ext_getElem?
  intro i
  by_cases hi : k = i
  · subst hi
    obtain ⟨hk, he⟩ := List.getElem?_eq_some_iff.mp h
    simp [List.getElem?_set, hk, he, hn]
  · simp [List.getElem?_set, hi]
theorem xi_ns_push (A : xi_H) (x : xi_E) : xi_ns (A ++ [x]) = xi_ns A + xi_n x := by simp [xi_ns]
def xi_isr : Value → Bool
  | .ref _ => true
  | .retAddr _ => true
  | .null => true
  | _ => false
/-! LOCALS -/
def xi_get (lv : xi_L) (i : Nat) : Option Value := (lv.find? (fun q => q.1 == i)).map (·.2)
def xi_put1 (lv : xi_L) (i : Nat) (v : Value) : xi_L := (i, v) :: lv.filter (fun q => !(q.1 == i) && !(q.1 + 1 == i && q.2.category == 2))
def xi_put2 (lv : xi_L) (i : Nat) (v : Value) : xi_L := (i, v) :: lv.filter (fun q => !(q.1 == i) && (!(q.1 == i + 1) && !(q.1 + 1 == i && q.2.category == 2)))
theorem xi_get_mem {lv : xi_L} {i : Nat} {v : Value} (h : xi_get lv i = some v) : (i, v) ∈ lv := by
  simp only [xi_get, Option.map_eq_some_iff] at h
  obtain ⟨q, h1, rfl⟩ := h
  have h2 := List.find?_some h1
  have h3 := List.mem_of_find?_eq_some h1
  simp only [beq_iff_eq] at h2
  rw [← h2]
  exact h3
theorem xi_get_at {b0 : Nat} {aS : Nat → Nat} {ls : Array Slot} {nL : Nat} {lv : xi_L} {i : Nat} {v : Value} (hl : lv_has ls nL (xi_l b0 aS lv)) (h : xi_get lv i = some v) : ls[i]? = some (.val (xi_v b0 aS v)) :=
  hl.2.2 (i, xi_v b0 aS v) (List.mem_map.mpr ⟨(i, v), xi_get_mem h, rfl⟩)
theorem xi_get_ix {b0 : Nat} {aS : Nat → Nat} {lv : xi_L} {i : Nat} {v : Value} (h : xi_get lv i = some v) : ∃ k : Nat, (xi_l b0 aS lv)[k]? = some (i, xi_v b0 aS v) :=
  List.getElem?_of_mem (List.mem_map.mpr ⟨(i, v), xi_get_mem h, rfl⟩)
theorem xi_put1_l (b0 : Nat) (aS : Nat → Nat) (lv : xi_L) (i : Nat) (v : Value) : (i, xi_v b0 aS v) :: (xi_l b0 aS lv).filter (fun q => !(q.1 == i) && !(q.1 + 1 == i && q.2.category == 2)) = xi_l b0 aS (xi_put1 lv i v) := by
  simp only [xi_l, xi_put1, List.map_cons, List.filter_map, Function.comp_def, xi_v_cat]
theorem xi_put2_l (b0 : Nat) (aS : Nat → Nat) (lv : xi_L) (i : Nat) (v : Value) : (i, xi_v b0 aS v) :: (xi_l b0 aS lv).filter (fun q => !(q.1 == i) && (!(q.1 == i + 1) && !(q.1 + 1 == i && q.2.category == 2))) = xi_l b0 aS (xi_put2 lv i v) := by
  simp only [xi_l, xi_put2, List.map_cons, List.filter_map, Function.comp_def, xi_v_cat]
end
section
/-! THE CLASSES: name, fields in the order of the slots as the tables say them (declaring class, name, descriptor, final), how many -/
def xi_f0 : List (String × String × String × Bool) := [("CheapPlanner", "tokens", "LCheapPlanner$Tokens;", true), ("CheapPlanner", "rules", "LCheapPlanner$Domain;", true), ("CheapPlanner", "task", "LCheapPlanner$Problem;", true), ("CheapPlanner", "reader", "LCheapPlanner$Reader;", true), ("CheapPlanner", "scene", "LCheapPlanner$Ground;", true), ("CheapPlanner", "search", "LCheapPlanner$Search;", true), ("CheapPlanner", "guess", "LCheapPlanner$Estimate;", true), ("CheapPlanner", "hasDomain", "Z", false), ("CheapPlanner", "hasProblem", "Z", false), ("CheapPlanner", "row", "[I", true), ("CheapPlanner", "rowLength", "I", false), ("CheapPlanner", "told", "[C", true), ("CheapPlanner", "toldLength", "I", false)]
def xi_f1 : List (String × String × String × Bool) := [("CheapPlanner$Tokens", "typed", "[C", true), ("CheapPlanner$Tokens", "length", "I", false), ("CheapPlanner$Tokens", "kinds", "[I", true), ("CheapPlanner$Tokens", "starts", "[I", true), ("CheapPlanner$Tokens", "ends", "[I", true), ("CheapPlanner$Tokens", "codes", "[J", true), ("CheapPlanner$Tokens", "count", "I", false), ("CheapPlanner$Tokens", "at", "I", false), ("CheapPlanner$Tokens", "met", "I", false)]
def xi_f2 : List (String × String × String × Bool) := [("CheapPlanner$Domain", "name", "J", false), ("CheapPlanner$Domain", "types", "LCheapPlanner$Names;", true), ("CheapPlanner$Domain", "predicates", "LCheapPlanner$Names;", true), ("CheapPlanner$Domain", "predicateParameters", "[LCheapPlanner$Names;", true), ("CheapPlanner$Domain", "actions", "LCheapPlanner$Names;", true), ("CheapPlanner$Domain", "actionParameters", "[LCheapPlanner$Names;", true), ("CheapPlanner$Domain", "conditions", "[LCheapPlanner$Clause;", true), ("CheapPlanner$Domain", "effects", "[LCheapPlanner$Clause;", true)]
def xi_f3 : List (String × String × String × Bool) := [("CheapPlanner$Names", "codes", "[J", true), ("CheapPlanner$Names", "types", "[I", true), ("CheapPlanner$Names", "count", "I", false)]
def xi_f4 : List (String × String × String × Bool) := [("CheapPlanner$Clause", "predicates", "[I", true), ("CheapPlanner$Clause", "nots", "[Z", true), ("CheapPlanner$Clause", "firsts", "[I", true), ("CheapPlanner$Clause", "seconds", "[I", true), ("CheapPlanner$Clause", "count", "I", false), ("CheapPlanner$Clause", "cost", "I", false)]
def xi_f5 : List (String × String × String × Bool) := [("CheapPlanner$Problem", "objects", "LCheapPlanner$Names;", true), ("CheapPlanner$Problem", "init", "LCheapPlanner$Clause;", true), ("CheapPlanner$Problem", "goal", "LCheapPlanner$Clause;", true)]
def xi_f6 : List (String × String × String × Bool) := [("CheapPlanner$Reader", "tokens", "LCheapPlanner$Tokens;", true), ("CheapPlanner$Reader", "rules", "LCheapPlanner$Domain;", true), ("CheapPlanner$Reader", "task", "LCheapPlanner$Problem;", true), ("CheapPlanner$Reader", "clauses", "LCheapPlanner$ClauseReader;", true)]
def xi_f7 : List (String × String × String × Bool) := [("CheapPlanner$ClauseReader", "tokens", "LCheapPlanner$Tokens;", true), ("CheapPlanner$ClauseReader", "rules", "LCheapPlanner$Domain;", true), ("CheapPlanner$ClauseReader", "terms", "LCheapPlanner$Names;", false), ("CheapPlanner$ClauseReader", "termKind", "I", false)]
def xi_f8 : List (String × String × String × Bool) := [("CheapPlanner$Ground", "factNumbers", "[I", true), ("CheapPlanner$Ground", "factCount", "I", false), ("CheapPlanner$Ground", "list", "[LCheapPlanner$Step;", true), ("CheapPlanner$Ground", "stepCount", "I", false), ("CheapPlanner$Ground", "firstState", "J", false), ("CheapPlanner$Ground", "goal", "LCheapPlanner$Needs;", true), ("CheapPlanner$Ground", "itself", "[I", true)]
def xi_f9 : List (String × String × String × Bool) := [("CheapPlanner$Needs", "inside", "J", false), ("CheapPlanner$Needs", "outside", "J", false), ("CheapPlanner$Needs", "equalitiesHold", "Z", false), ("CheapPlanner$Needs", "atoms", "[I", true), ("CheapPlanner$Needs", "atomCount", "I", false)]
def xi_f10 : List (String × String × String × Bool) := [("CheapPlanner$Step", "action", "I", false), ("CheapPlanner$Step", "objects", "[I", true), ("CheapPlanner$Step", "cost", "I", false), ("CheapPlanner$Step", "needs", "LCheapPlanner$Needs;", true), ("CheapPlanner$Step", "going", "J", false), ("CheapPlanner$Step", "coming", "J", false), ("CheapPlanner$Step", "comers", "[I", true), ("CheapPlanner$Step", "comerCount", "I", false)]
def xi_f11 : List (String × String × String × Bool) := [("CheapPlanner$Search", "scene", "LCheapPlanner$Ground;", true), ("CheapPlanner$Search", "states", "[J", true), ("CheapPlanner$Search", "costs", "[I", true), ("CheapPlanner$Search", "dues", "[I", true), ("CheapPlanner$Search", "lengths", "[I", true), ("CheapPlanner$Search", "parents", "[I", true), ("CheapPlanner$Search", "lastSteps", "[I", true), ("CheapPlanner$Search", "slots", "[I", true), ("CheapPlanner$Search", "count", "I", false), ("CheapPlanner$Search", "limit", "I", false), ("CheapPlanner$Search", "crowded", "Z", false), ("CheapPlanner$Search", "found", "Z", false), ("CheapPlanner$Search", "cost", "I", false), ("CheapPlanner$Search", "steps", "[I", true)]
def xi_f12 : List (String × String × String × Bool) := [("CheapPlanner$Estimate", "scene", "LCheapPlanner$Ground;", true), ("CheapPlanner$Estimate", "worths", "[I", true)]
def xi_f13 : List (String × String × String × Bool) := [("CheapPlannerModel", "code", "I", false), ("CheapPlannerModel", "length", "I", false), ("CheapPlannerModel", "text", "[I", true), ("CheapPlannerModel", "keyword", "[I", true), ("CheapPlannerModel", "tokens", "I", false), ("CheapPlannerModel", "pos", "I", false), ("CheapPlannerModel", "tokenAt", "[I", true), ("CheapPlannerModel", "tokenEnd", "[I", true), ("CheapPlannerModel", "fault", "I", false), ("CheapPlannerModel", "faultNumber", "I", false), ("CheapPlannerModel", "faultPlace", "I", false), ("CheapPlannerModel", "hasDomain", "Z", false), ("CheapPlannerModel", "hasProblem", "Z", false), ("CheapPlannerModel", "hasPlan", "Z", false), ("CheapPlannerModel", "domainName", "J", false), ("CheapPlannerModel", "types", "I", false), ("CheapPlannerModel", "typeName", "[J", true), ("CheapPlannerModel", "predicates", "I", false), ("CheapPlannerModel", "predicateName", "[J", true), ("CheapPlannerModel", "predicateSize", "[I", true), ("CheapPlannerModel", "predicateType", "[I", true), ("CheapPlannerModel", "actions", "I", false), ("CheapPlannerModel", "actionName", "[J", true), ("CheapPlannerModel", "actionSize", "[I", true), ("CheapPlannerModel", "actionType", "[I", true), ("CheapPlannerModel", "variable", "[J", true), ("CheapPlannerModel", "actionCost", "[I", true), ("CheapPlannerModel", "conditions", "[I", true), ("CheapPlannerModel", "effects", "[I", true), ("CheapPlannerModel", "isEqual", "[Z", true), ("CheapPlannerModel", "isNot", "[Z", true), ("CheapPlannerModel", "predicate", "[I", true), ("CheapPlannerModel", "term", "[I", true), ("CheapPlannerModel", "objects", "I", false), ("CheapPlannerModel", "objectName", "[J", true), ("CheapPlannerModel", "objectType", "[I", true), ("CheapPlannerModel", "facts", "I", false), ("CheapPlannerModel", "factOf", "[I", true), ("CheapPlannerModel", "first", "J", false), ("CheapPlannerModel", "steps", "I", false), ("CheapPlannerModel", "stepAction", "[I", true), ("CheapPlannerModel", "stepObject", "[I", true), ("CheapPlannerModel", "needs", "[J", true), ("CheapPlannerModel", "lacks", "[J", true), ("CheapPlannerModel", "comes", "[J", true), ("CheapPlannerModel", "goes", "[J", true), ("CheapPlannerModel", "goalNeeds", "J", false), ("CheapPlannerModel", "goalLacks", "J", false), ("CheapPlannerModel", "goalHolds", "Z", false), ("CheapPlannerModel", "states", "I", false), ("CheapPlannerModel", "state", "[J", true), ("CheapPlannerModel", "cost", "[I", true), ("CheapPlannerModel", "depth", "[I", true), ("CheapPlannerModel", "before", "[I", true), ("CheapPlannerModel", "by", "[I", true), ("CheapPlannerModel", "table", "[I", true), ("CheapPlannerModel", "pathA", "[I", true), ("CheapPlannerModel", "pathB", "[I", true), ("CheapPlannerModel", "planSteps", "I", false), ("CheapPlannerModel", "plan", "[I", true), ("CheapPlannerModel", "row", "I", false), ("CheapPlannerModel", "rowStep", "[I", true), ("CheapPlannerModel", "scratch", "[J", true), ("CheapPlannerModel", "increased", "Z", false), ("CheapPlannerModel", "initBits", "J", false), ("CheapPlannerModel", "given", "[I", true), ("CheapPlannerModel", "goalFound", "Z", false), ("CheapPlannerModel", "told", "I", false), ("CheapPlannerModel", "wanted", "I", false), ("CheapPlannerModel", "found", "I", false), ("CheapPlannerModel", "worth", "[I", true)]
def xi_fl : List (List (String × String × String × Bool)) := [xi_f0, xi_f1, xi_f2, xi_f3, xi_f4, xi_f5, xi_f6, xi_f7, xi_f8, xi_f9, xi_f10, xi_f11, xi_f12, xi_f13]
def xi_fT (ci : Nat) : u_T := fun k => (xi_fl.getD ci []).getD k ("", "", "", false)
def xi_cl : List vw_C := [("CheapPlanner", xi_fT 0, 13), ("CheapPlanner$Tokens", xi_fT 1, 9), ("CheapPlanner$Domain", xi_fT 2, 8), ("CheapPlanner$Names", xi_fT 3, 3), ("CheapPlanner$Clause", xi_fT 4, 6), ("CheapPlanner$Problem", xi_fT 5, 3), ("CheapPlanner$Reader", xi_fT 6, 4), ("CheapPlanner$ClauseReader", xi_fT 7, 4), ("CheapPlanner$Ground", xi_fT 8, 7), ("CheapPlanner$Needs", xi_fT 9, 5), ("CheapPlanner$Step", xi_fT 10, 8), ("CheapPlanner$Search", xi_fT 11, 14), ("CheapPlanner$Estimate", xi_fT 12, 2), ("CheapPlannerModel", xi_fT 13, 71), ("java/lang/IllegalArgumentException", xi_fT 14, 0), ("java/lang/IllegalStateException", xi_fT 15, 0), ("java/lang/UnsupportedOperationException", xi_fT 16, 0), ("java/util/NoSuchElementException", xi_fT 17, 0), ("java/lang/IndexOutOfBoundsException", xi_fT 18, 0)]
def xi_t0 : List FieldType := [.object "CheapPlanner$Tokens", .object "CheapPlanner$Domain", .object "CheapPlanner$Problem", .object "CheapPlanner$Reader", .object "CheapPlanner$Ground", .object "CheapPlanner$Search", .object "CheapPlanner$Estimate", .boolean, .boolean, .array (.int), .int, .array (.char), .int]
def xi_t1 : List FieldType := [.array (.char), .int, .array (.int), .array (.int), .array (.int), .array (.long), .int, .int, .int]
def xi_t2 : List FieldType := [.long, .object "CheapPlanner$Names", .object "CheapPlanner$Names", .array (.object "CheapPlanner$Names"), .object "CheapPlanner$Names", .array (.object "CheapPlanner$Names"), .array (.object "CheapPlanner$Clause"), .array (.object "CheapPlanner$Clause")]
def xi_t3 : List FieldType := [.array (.long), .array (.int), .int]
def xi_t4 : List FieldType := [.array (.int), .array (.boolean), .array (.int), .array (.int), .int, .int]
def xi_t5 : List FieldType := [.object "CheapPlanner$Names", .object "CheapPlanner$Clause", .object "CheapPlanner$Clause"]
def xi_t6 : List FieldType := [.object "CheapPlanner$Tokens", .object "CheapPlanner$Domain", .object "CheapPlanner$Problem", .object "CheapPlanner$ClauseReader"]
def xi_t7 : List FieldType := [.object "CheapPlanner$Tokens", .object "CheapPlanner$Domain", .object "CheapPlanner$Names", .int]
def xi_t8 : List FieldType := [.array (.int), .int, .array (.object "CheapPlanner$Step"), .int, .long, .object "CheapPlanner$Needs", .array (.int)]
def xi_t9 : List FieldType := [.long, .long, .boolean, .array (.int), .int]
def xi_t10 : List FieldType := [.int, .array (.int), .int, .object "CheapPlanner$Needs", .long, .long, .array (.int), .int]
def xi_t11 : List FieldType := [.object "CheapPlanner$Ground", .array (.long), .array (.int), .array (.int), .array (.int), .array (.int), .array (.int), .array (.int), .int, .int, .boolean, .boolean, .int, .array (.int)]
def xi_t12 : List FieldType := [.object "CheapPlanner$Ground", .array (.int)]
def xi_t13 : List FieldType := [.int, .int, .array (.int), .array (.int), .int, .int, .array (.int), .array (.int), .int, .int, .int, .boolean, .boolean, .boolean, .long, .int, .array (.long), .int, .array (.long), .array (.int), .array (.int), .int, .array (.long), .array (.int), .array (.int), .array (.long), .array (.int), .array (.int), .array (.int), .array (.boolean), .array (.boolean), .array (.int), .array (.int), .int, .array (.long), .array (.int), .int, .array (.int), .long, .int, .array (.int), .array (.int), .array (.long), .array (.long), .array (.long), .array (.long), .long, .long, .boolean, .int, .array (.long), .array (.int), .array (.int), .array (.int), .array (.int), .array (.int), .array (.int), .array (.int), .int, .array (.int), .int, .array (.int), .array (.long), .boolean, .long, .array (.int), .boolean, .int, .int, .int, .array (.int)]
def xi_tl : List (List FieldType) := [xi_t0, xi_t1, xi_t2, xi_t3, xi_t4, xi_t5, xi_t6, xi_t7, xi_t8, xi_t9, xi_t10, xi_t11, xi_t12, xi_t13]
def xi_ty (ci k : Nat) : FieldType := (xi_tl.getD ci []).getD k .int
def xi_df (ci : Nat) : List Value := if ci < 14 then (xi_tl.getD ci []).map defaultValue else List.replicate 6 .null
def xi_tyl : List FieldType := [.int, .long, .char, .boolean, .object "CheapPlanner$Names", .object "CheapPlanner$Clause", .object "CheapPlanner$Step"]
def xi_tys (dA : Nat → ClassId) : List (ClassId × FieldType) := [(dA 0, .int), (dA 1, .long), (dA 2, .char), (dA 3, .boolean), (dA 4, .object "CheapPlanner$Names"), (dA 5, .object "CheapPlanner$Clause"), (dA 6, .object "CheapPlanner$Step")]
theorem xi_tys_at (dA : Nat → ClassId) {t : Nat} {ty : FieldType} (h : xi_tyl[t]? = some ty) : (xi_tys dA)[t]? = some (dA t, ty) := by
  match t, h with
  | 0, h => cases h; rfl
  | 1, h => cases h; rfl
  | 2, h => cases h; rfl
  | 3, h => cases h; rfl
  | 4, h => cases h; rfl
  | 5, h => cases h; rfl
  | 6, h => cases h; rfl
  | t + 7, h => simp [xi_tyl] at h
def xi_str : List (String × Nat × String) := [("CheapPlanner$Reader", 40, "domain"), ("CheapPlanner$Tokens", 78, "the text has a fault"), ("CheapPlanner$Reader", 80, "define"), ("CheapPlanner$Reader", 58, ":types"), ("CheapPlanner$Reader", 93, ":predicates"), ("CheapPlanner$Reader", 145, "-"), ("CheapPlanner$Reader", 105, ":action"), ("CheapPlanner$Reader", 110, ":parameters"), ("CheapPlanner$Reader", 125, ":precondition"), ("CheapPlanner$ClauseReader", 41, "and"), ("CheapPlanner$ClauseReader", 58, "increase"), ("CheapPlanner$ClauseReader", 115, "total-cost"), ("CheapPlanner$ClauseReader", 64, "not"), ("CheapPlanner$ClauseReader", 66, "="), ("CheapPlanner$Reader", 134, ":effect"), ("CheapPlanner", 107, "there is no domain"), ("CheapPlanner$Reader", 168, "problem"), ("CheapPlanner$Reader", 197, ":domain"), ("CheapPlanner$Reader", 199, ":objects"), ("CheapPlanner$Reader", 179, ":init"), ("CheapPlanner$Reader", 192, ":goal"), ("CheapPlanner", 121, "too many facts or steps"), ("CheapPlanner", 229, "there is no problem"), ("CheapPlanner", 135, "states is not 1 .. 200"), ("CheapPlanner", 148, "more states than allowed"), ("CheapPlanner", 173, "there is no plan"), ("CheapPlanner", 176, "no such step of a plan"), ("CheapPlanner", 181, "no such step"), ("CheapPlanner", 183, "no such what"), ("CheapPlanner", 198, "no such letter of a plan")]
def xi_nest : List Cond := [.methodLinkNest "CheapPlanner" 9 ⟨"CheapPlanner$Tokens", "<init>", "()V"⟩ "CheapPlanner", .methodLinkNest "CheapPlanner" 25 ⟨"CheapPlanner$Problem", "<init>", "()V"⟩ "CheapPlanner", .methodLinkNest "CheapPlanner$Ground" 25 ⟨"CheapPlanner$Needs", "<init>", "()V"⟩ "CheapPlanner", .methodLinkNest "CheapPlanner$Ground" 33 ⟨"CheapPlanner$Step", "<init>", "()V"⟩ "CheapPlanner", .methodLinkNest "CheapPlanner$Step" 17 ⟨"CheapPlanner$Needs", "<init>", "()V"⟩ "CheapPlanner", .castable "java/lang/IllegalArgumentException" "java/lang/IllegalArgumentException", .declares ⟨"java/lang/RuntimeException", "<init>", "()V"⟩, .declares ⟨"java/lang/RuntimeException", "<init>", "(Ljava/lang/String;)V"⟩, .declares ⟨"java/lang/Exception", "<init>", "()V"⟩, .declares ⟨"java/lang/Exception", "<init>", "(Ljava/lang/String;)V"⟩, .declares ⟨"java/lang/Throwable", "<init>", "()V"⟩, .declares ⟨"java/lang/Throwable", "<init>", "(Ljava/lang/String;)V"⟩, .castable "java/lang/IllegalStateException" "java/lang/IllegalStateException", .castable "java/lang/UnsupportedOperationException" "java/lang/UnsupportedOperationException", .castable "java/util/NoSuchElementException" "java/util/NoSuchElementException", .castable "java/lang/IndexOutOfBoundsException" "java/lang/IndexOutOfBoundsException"]
def xi_ao : List String := ["CheapPlanner$Names", "CheapPlanner$Clause", "CheapPlanner$Step"]
def xi_stq : List (String × String × String) := [("java/lang/Throwable", "UNASSIGNED_STACK", "[Ljava/lang/StackTraceElement;"), ("java/lang/Throwable", "SUPPRESSED_SENTINEL", "Ljava/util/List;")]
/-- the words that last -/
def xi_G : List Cond := lw_tbl.filter goodWord
def xi_part : Nat → List Cond
  | 0 => k2_sels lw_privs
  | 1 => tables_1_1
  | 2 => tables_1_2
  | 3 => tables_1_3
  | 4 => tables_1_4
  | 5 => tables_1_5
  | 6 => tables_1_6
  | 7 => tables_1_7
  | 8 => tables_1_8
  | _ => []
theorem xi_part_mem : ∀ {k : Nat} {w : Cond}, w ∈ xi_part k → w ∈ lw_tbl
  | 0, _, h => by simp only [lw_tbl, tables_1, List.mem_append]; simp only [xi_part] at h; simp [h]
  | 1, _, h => by simp only [lw_tbl, tables_1, List.mem_append]; simp only [xi_part] at h; simp [h]
  | 2, _, h => by simp only [lw_tbl, tables_1, List.mem_append]; simp only [xi_part] at h; simp [h]
  | 3, _, h => by simp only [lw_tbl, tables_1, List.mem_append]; simp only [xi_part] at h; simp [h]
  | 4, _, h => by simp only [lw_tbl, tables_1, List.mem_append]; simp only [xi_part] at h; simp [h]
  | 5, _, h => by simp only [lw_tbl, tables_1, List.mem_append]; simp only [xi_part] at h; simp [h]
  | 6, _, h => by simp only [lw_tbl, tables_1, List.mem_append]; simp only [xi_part] at h; simp [h]
  | 7, _, h => by simp only [lw_tbl, tables_1, List.mem_append]; simp only [xi_part] at h; simp [h]
  | 8, _, h => by simp only [lw_tbl, tables_1, List.mem_append]; simp only [xi_part] at h; simp [h]
  | k + 9, _, h => by simp [xi_part] at h
def xi_Gat (ix : Nat) (w : Cond) : Bool := decide ((xi_part (ix / 1000))[ix % 1000]? = some w) && goodWord w
theorem xi_Gm {ix : Nat} {w : Cond} (h : xi_Gat ix w = true) : w ∈ xi_G := by
  simp only [xi_Gat, Bool.and_eq_true, decide_eq_true_eq] at h
  exact List.mem_filter.mpr ⟨xi_part_mem (List.mem_of_getElem? h.1), h.2⟩
def xi_lix : List (List Nat) := [[2199, 2201, 2203, 2205, 2207, 2209, 2211, 2213, 2215, 2217, 2219, 2221, 2223], [1052, 1054, 1056, 1058, 1060, 1062, 1064, 1066, 1068], [1170, 1172, 1174, 1176, 1178, 1180, 1182, 1184], [1097, 1099, 1101], [1131, 1133, 1135, 1137, 1139, 1141], [1207, 1209, 1211], [2003, 2005, 2007, 2009], [1230, 1232, 1234, 1236], [2109, 2111, 2113, 2115, 2117, 2119, 2121], [2033, 2035, 2037, 2039, 2041], [2072, 2074, 2076, 2078, 2080, 2082, 2084, 2086], [2144, 2146, 2148, 2150, 2152, 2154, 2156, 2158, 2160, 2162, 2164, 2166, 2168, 2170], [2181, 2183], [6076, 6078, 6080, 6082, 6084, 6086, 6088, 6090, 6092, 6094, 6096, 6098, 6100, 6102, 6104, 6106, 6108, 6110, 6112, 6114, 6116, 6118, 6120, 6122, 6124, 6126, 6128, 6130, 6132, 6134, 6136, 6138, 6140, 6142, 6144, 6146, 6148, 6150, 6152, 6154, 6156, 6158, 6160, 6162, 6164, 6166, 6168, 6170, 6172, 6174, 6176, 6178, 6180, 6182, 6184, 6186, 6188, 6190, 6192, 6194, 6196, 6198, 6200, 6202, 6204, 6206, 6208, 6210, 6212, 6214, 6216]]
def xi_chk (ci : Nat) : Bool := match xi_cl[ci]? with
  | some (C, T, N) => (List.range N).all (fun k => xi_Gat ((xi_lix.getD ci []).getD k 0) (u_lay C T k)) && ((List.range N).all (fun k => decide (parseFieldDescriptor (T k).2.2.1 = some (xi_ty ci k))) && ((List.range N).all (fun a => (List.range N).all (fun b => decide (a = b) || decide ((T a).2.1 ≠ (T b).2.1))) && (List.range N).all (fun k => decide ((xi_df ci)[k]? = some (defaultValue (xi_ty ci k))))))
  | none => true
theorem xi_chk_0 : xi_chk 0 = true := by decide +kernel
theorem xi_chk_1 : xi_chk 1 = true := by decide +kernel
theorem xi_chk_2 : xi_chk 2 = true := by decide +kernel
theorem xi_chk_3 : xi_chk 3 = true := by decide +kernel
theorem xi_chk_4 : xi_chk 4 = true := by decide +kernel
theorem xi_chk_5 : xi_chk 5 = true := by decide +kernel
theorem xi_chk_6 : xi_chk 6 = true := by decide +kernel
theorem xi_chk_7 : xi_chk 7 = true := by decide +kernel
theorem xi_chk_8 : xi_chk 8 = true := by decide +kernel
theorem xi_chk_9 : xi_chk 9 = true := by decide +kernel
theorem xi_chk_10 : xi_chk 10 = true := by decide +kernel
theorem xi_chk_11 : xi_chk 11 = true := by decide +kernel
theorem xi_chk_12 : xi_chk 12 = true := by decide +kernel
theorem xi_chk_13 : xi_chk 13 = true := by decide +kernel
theorem xi_chk_14 : xi_chk 14 = true := by decide +kernel
theorem xi_chk_15 : xi_chk 15 = true := by decide +kernel
theorem xi_chk_16 : xi_chk 16 = true := by decide +kernel
theorem xi_chk_17 : xi_chk 17 = true := by decide +kernel
theorem xi_chk_18 : xi_chk 18 = true := by decide +kernel
theorem xi_chk_all : ∀ ci, xi_chk ci = true
  | 0 => xi_chk_0
  | 1 => xi_chk_1
  | 2 => xi_chk_2
  | 3 => xi_chk_3
  | 4 => xi_chk_4
  | 5 => xi_chk_5
  | 6 => xi_chk_6
  | 7 => xi_chk_7
  | 8 => xi_chk_8
  | 9 => xi_chk_9
  | 10 => xi_chk_10
  | 11 => xi_chk_11
  | 12 => xi_chk_12
  | 13 => xi_chk_13
  | 14 => xi_chk_14
  | 15 => xi_chk_15
  | 16 => xi_chk_16
  | 17 => xi_chk_17
  | 18 => xi_chk_18
  | ci + 19 => by simp [xi_chk, xi_cl]
theorem xi_chk_at {ci : Nat} {C : String} {T : u_T} {N : Nat} (hc : xi_cl[ci]? = some (C, T, N)) : ((List.range N).all (fun k => xi_Gat ((xi_lix.getD ci []).getD k 0) (u_lay C T k)) = true ∧ (List.range N).all (fun k => decide (parseFieldDescriptor (T k).2.2.1 = some (xi_ty ci k))) = true) ∧ ((List.range N).all (fun a => (List.range N).all (fun b => decide (a = b) || decide ((T a).2.1 ≠ (T b).2.1))) = true ∧ (List.range N).all (fun k => decide ((xi_df ci)[k]? = some (defaultValue (xi_ty ci k)))) = true) := by
  have h := xi_chk_all ci
  simp only [xi_chk, hc, Bool.and_eq_true] at h
  exact ⟨⟨h.1, h.2.1⟩, h.2.2.1, h.2.2.2⟩
theorem xi_in {ci : Nat} {C : String} {T : u_T} {N : Nat} (hc : xi_cl[ci]? = some (C, T, N)) : ∀ w ∈ u_ws C T N, w ∈ xi_G := by
  intro w hw
  obtain ⟨k, hk, rfl⟩ := List.mem_map.mp hw
  exact xi_Gm (List.all_eq_true.mp (xi_chk_at hc).1.1 k hk)
theorem xi_ty_ok {ci : Nat} {C : String} {T : u_T} {N k : Nat} (hc : xi_cl[ci]? = some (C, T, N)) (hk : k < N) : parseFieldDescriptor (T k).2.2.1 = some (xi_ty ci k) :=
  of_decide_eq_true (List.all_eq_true.mp (xi_chk_at hc).1.2 k (List.mem_range.mpr hk))
theorem xi_nm {ci : Nat} {C : String} {T : u_T} {N : Nat} (hc : xi_cl[ci]? = some (C, T, N)) : ∀ a, a < N → ∀ b, b < N → a ≠ b → (T a).2.1 ≠ (T b).2.1 := by
  intro a ha b hb hab
  have h := List.all_eq_true.mp (List.all_eq_true.mp (xi_chk_at hc).2.1 a (List.mem_range.mpr ha)) b (List.mem_range.mpr hb)
  simp only [Bool.or_eq_true, decide_eq_true_eq] at h
  exact h.resolve_left hab
theorem xi_v_df (b0 : Nat) (aS : Nat → Nat) (ty : FieldType) : xi_v b0 aS (defaultValue ty) = defaultValue ty := by cases ty <;> rfl
theorem xi_df_ok (b0 : Nat) (aS : Nat → Nat) {ci : Nat} {C : String} {T : u_T} {N j : Nat} (hc : xi_cl[ci]? = some (C, T, N)) (hj : j < N) : defaultValue (xi_ty ci j) = vp_V ((xi_df ci).map (xi_v b0 aS)) j := by
  have h := of_decide_eq_true (List.all_eq_true.mp (xi_chk_at hc).2.2 j (List.mem_range.mpr hj))
  simp [vp_V, h, xi_v_df]
end
section
abbrev xi_Z : Type := Program × Launch × Env × Room × State × MethodId × Array Value × List Frame × Method × Code × (State → Prop) × Nat × Nat × (Nat → Nat) × (Nat → ClassId) × va_G × Nat × Nat
def xi_R (b0 : Nat) (aS : Nat → Nat) (dA : Nat → ClassId) (D : va_G) (n0 s0 : Nat) (Hs : Heap) (A : xi_H) (H : Heap) (locs : List Loc) : Prop :=
  va_P D xi_cl (xi_w b0 aS dA A) H ∧ va_S (fun q => b0 ≤ q) Hs H locs ∧ n0 ≤ A.length ∧ s0 ≤ xi_ns A ∧ Hs.size = b0 + n0 ∧ 0 < n0
def xi_At (z : xi_Z) (pc : Nat) (lv : xi_L) (st : List Value) (A : xi_H) : Prop := match z with
  | (p, l, e, R, s, m, args, below, meth, c, Q, nL, b0, aS, dA, D, n0, s0) => ∀ (H : Heap) (locs : List Loc) (ls : Array Slot), xi_R b0 aS dA D n0 s0 s.heap A H locs → lv_has ls nL (xi_l b0 aS lv) →
    W p l e R s m args below meth c H locs (A.length - n0) (xi_ns A - s0) Q (F0 m pc ls (st.map (xi_v b0 aS)))
/-- what lasts beside the words: the j-th text lies at aS j; links within the nest; array classes; two statics -/
def xi_St (b0 : Nat) (aS : Nat → Nat) (U : State) : Prop := (∀ (j : Nat) (q : String × Nat × String), xi_str[j]? = some q → vk_R q.1 q.2.1 q.2.2 (aS j) U) ∧ (∀ w ∈ xi_nest, va_Nw w U) ∧ (∀ C ∈ xi_ao, va_AO C U) ∧ ∀ q ∈ xi_stq, va_Zq q.1 q.2.1 q.2.2 (fun x => b0 ≤ x) U U.heap
def xi_X (z : xi_Z) (cc : ByteArray) (own : String) : Prop := match z with
  | (p, _, _, _, s, m, args, _, _, c, _, nL, b0, aS, dA, D, _, _) => p.tables.exec = Jvm.exec ∧ c.code = cc ∧ c.maxLocals = nL ∧ s.vm.findClass own = some m.cls ∧ (∀ w ∈ xi_G, w.before args s = true) ∧ va_K D xi_cl (xi_tys dA) s ∧ xi_St b0 aS s
section XS
variable {z : xi_Z} {cc : ByteArray} {own : String} {pc : Nat} {lv : xi_L} {r : List Value} {A : xi_H}
theorem xs_iconst {n : Int} (X : xi_X z cc own) (hd : decode cc pc = .ok (.iconst n, 1)) (kk : xi_At z (pc + 1) lv (.int (Int32.ofInt n) :: r) A) : xi_At z pc lv (r) A := by
  obtain ⟨p, l, e, R, s, m, args, below, meth, c, Q, nL, b0, aS, dA, D, n0, s0⟩ := z
  obtain ⟨hx, hb, hml, hown, hts, hK, hstr⟩ := X
  intro H locs ls hR hl
  exact lv_iconst hx hb hd rfl (kk H locs ls hR hl)
theorem xs_bipush {n : Int} (X : xi_X z cc own) (hd : decode cc pc = .ok (.bipush n, 2)) (kk : xi_At z (pc + 2) lv (.int (Int8.ofInt n).toInt32 :: r) A) : xi_At z pc lv (r) A := by
  obtain ⟨p, l, e, R, s, m, args, below, meth, c, Q, nL, b0, aS, dA, D, n0, s0⟩ := z
  obtain ⟨hx, hb, hml, hown, hts, hK, hstr⟩ := X
  intro H locs ls hR hl
  exact lv_bipush hx hb hd rfl (kk H locs ls hR hl)
theorem xs_sipush {n : Int} (X : xi_X z cc own) (hd : decode cc pc = .ok (.sipush n, 3)) (kk : xi_At z (pc + 3) lv (.int (Int16.ofInt n).toInt32 :: r) A) : xi_At z pc lv (r) A := by
  obtain ⟨p, l, e, R, s, m, args, below, meth, c, Q, nL, b0, aS, dA, D, n0, s0⟩ := z
  obtain ⟨hx, hb, hml, hown, hts, hK, hstr⟩ := X
  intro H locs ls hR hl
  exact lv_sipush hx hb hd rfl (kk H locs ls hR hl)
theorem xs_lconst {n : Fin 2} (X : xi_X z cc own) (hd : decode cc pc = .ok (.lconst n, 1)) (kk : xi_At z (pc + 1) lv (.long (Int64.ofNat (n : Nat)) :: r) A) : xi_At z pc lv (r) A := by
  obtain ⟨p, l, e, R, s, m, args, below, meth, c, Q, nL, b0, aS, dA, D, n0, s0⟩ := z
  obtain ⟨hx, hb, hml, hown, hts, hK, hstr⟩ := X
  intro H locs ls hR hl
  exact lv_lconst hx hb hd rfl (kk H locs ls hR hl)
theorem xs_null  (X : xi_X z cc own) (hd : decode cc pc = .ok (.aconst_null, 1)) (kk : xi_At z (pc + 1) lv (.null :: r) A) : xi_At z pc lv (r) A := by
  obtain ⟨p, l, e, R, s, m, args, below, meth, c, Q, nL, b0, aS, dA, D, n0, s0⟩ := z
  obtain ⟨hx, hb, hml, hown, hts, hK, hstr⟩ := X
  intro H locs ls hR hl
  exact lv_null hx hb hd (kk H locs ls hR hl)
theorem xs_iadd {x y : Int32} (X : xi_X z cc own) (hd : decode cc pc = .ok (.iadd, 1)) (kk : xi_At z (pc + 1) lv (.int (x + y) :: r) A) : xi_At z pc lv (.int y :: .int x :: r) A := by
  obtain ⟨p, l, e, R, s, m, args, below, meth, c, Q, nL, b0, aS, dA, D, n0, s0⟩ := z
  obtain ⟨hx, hb, hml, hown, hts, hK, hstr⟩ := X
  intro H locs ls hR hl
  exact lv_iadd hx hb hd (kk H locs ls hR hl)
theorem xs_isub {x y : Int32} (X : xi_X z cc own) (hd : decode cc pc = .ok (.isub, 1)) (kk : xi_At z (pc + 1) lv (.int (x - y) :: r) A) : xi_At z pc lv (.int y :: .int x :: r) A := by
  obtain ⟨p, l, e, R, s, m, args, below, meth, c, Q, nL, b0, aS, dA, D, n0, s0⟩ := z
  obtain ⟨hx, hb, hml, hown, hts, hK, hstr⟩ := X
  intro H locs ls hR hl
  exact lv_isub hx hb hd (kk H locs ls hR hl)
theorem xs_imul {x y : Int32} (X : xi_X z cc own) (hd : decode cc pc = .ok (.imul, 1)) (kk : xi_At z (pc + 1) lv (.int (x * y) :: r) A) : xi_At z pc lv (.int y :: .int x :: r) A := by
  obtain ⟨p, l, e, R, s, m, args, below, meth, c, Q, nL, b0, aS, dA, D, n0, s0⟩ := z
  obtain ⟨hx, hb, hml, hown, hts, hK, hstr⟩ := X
  intro H locs ls hR hl
  exact lv_imul hx hb hd (kk H locs ls hR hl)
theorem xs_iand {x y : Int32} (X : xi_X z cc own) (hd : decode cc pc = .ok (.iand, 1)) (kk : xi_At z (pc + 1) lv (.int (x &&& y) :: r) A) : xi_At z pc lv (.int y :: .int x :: r) A := by
  obtain ⟨p, l, e, R, s, m, args, below, meth, c, Q, nL, b0, aS, dA, D, n0, s0⟩ := z
  obtain ⟨hx, hb, hml, hown, hts, hK, hstr⟩ := X
  intro H locs ls hR hl
  exact lv_iand hx hb hd (kk H locs ls hR hl)
theorem xs_ior {x y : Int32} (X : xi_X z cc own) (hd : decode cc pc = .ok (.ior, 1)) (kk : xi_At z (pc + 1) lv (.int (x ||| y) :: r) A) : xi_At z pc lv (.int y :: .int x :: r) A := by
  obtain ⟨p, l, e, R, s, m, args, below, meth, c, Q, nL, b0, aS, dA, D, n0, s0⟩ := z
  obtain ⟨hx, hb, hml, hown, hts, hK, hstr⟩ := X
  intro H locs ls hR hl
  exact lv_ior hx hb hd (kk H locs ls hR hl)
theorem xs_ixor {x y : Int32} (X : xi_X z cc own) (hd : decode cc pc = .ok (.ixor, 1)) (kk : xi_At z (pc + 1) lv (.int (x ^^^ y) :: r) A) : xi_At z pc lv (.int y :: .int x :: r) A := by
  obtain ⟨p, l, e, R, s, m, args, below, meth, c, Q, nL, b0, aS, dA, D, n0, s0⟩ := z
  obtain ⟨hx, hb, hml, hown, hts, hK, hstr⟩ := X
  intro H locs ls hR hl
  exact lv_ixor hx hb hd (kk H locs ls hR hl)
theorem xs_ishl {x y : Int32} (X : xi_X z cc own) (hd : decode cc pc = .ok (.ishl, 1)) (kk : xi_At z (pc + 1) lv (.int (x <<< (y &&& 31)) :: r) A) : xi_At z pc lv (.int y :: .int x :: r) A := by
  obtain ⟨p, l, e, R, s, m, args, below, meth, c, Q, nL, b0, aS, dA, D, n0, s0⟩ := z
  obtain ⟨hx, hb, hml, hown, hts, hK, hstr⟩ := X
  intro H locs ls hR hl
  exact lv_ishl hx hb hd (kk H locs ls hR hl)
theorem xs_ishr {x y : Int32} (X : xi_X z cc own) (hd : decode cc pc = .ok (.ishr, 1)) (kk : xi_At z (pc + 1) lv (.int (x >>> (y &&& 31)) :: r) A) : xi_At z pc lv (.int y :: .int x :: r) A := by
  obtain ⟨p, l, e, R, s, m, args, below, meth, c, Q, nL, b0, aS, dA, D, n0, s0⟩ := z
  obtain ⟨hx, hb, hml, hown, hts, hK, hstr⟩ := X
  intro H locs ls hR hl
  exact lv_ishr hx hb hd (kk H locs ls hR hl)
theorem xs_iushr {x y : Int32} (X : xi_X z cc own) (hd : decode cc pc = .ok (.iushr, 1)) (kk : xi_At z (pc + 1) lv (.int ((x.toUInt32 >>> (y.toUInt32 &&& Int32.toUInt32 31)).toInt32) :: r) A) : xi_At z pc lv (.int y :: .int x :: r) A := by
  obtain ⟨p, l, e, R, s, m, args, below, meth, c, Q, nL, b0, aS, dA, D, n0, s0⟩ := z
  obtain ⟨hx, hb, hml, hown, hts, hK, hstr⟩ := X
  intro H locs ls hR hl
  exact lv_iushr hx hb hd rfl (kk H locs ls hR hl)
theorem xs_idiv {x y : Int32} (X : xi_X z cc own) (hd : decode cc pc = .ok (.idiv, 1)) (hc : ¬ y = 0) (kk : xi_At z (pc + 1) lv (.int (x / y) :: r) A) : xi_At z pc lv (.int y :: .int x :: r) A := by
  obtain ⟨p, l, e, R, s, m, args, below, meth, c, Q, nL, b0, aS, dA, D, n0, s0⟩ := z
  obtain ⟨hx, hb, hml, hown, hts, hK, hstr⟩ := X
  intro H locs ls hR hl
  exact lv_idiv hx hb hd hc (kk H locs ls hR hl)
theorem xs_irem {x y : Int32} (X : xi_X z cc own) (hd : decode cc pc = .ok (.irem, 1)) (hc : ¬ y = 0) (kk : xi_At z (pc + 1) lv (.int (x - x / y * y) :: r) A) : xi_At z pc lv (.int y :: .int x :: r) A := by
  obtain ⟨p, l, e, R, s, m, args, below, meth, c, Q, nL, b0, aS, dA, D, n0, s0⟩ := z
  obtain ⟨hx, hb, hml, hown, hts, hK, hstr⟩ := X
  intro H locs ls hR hl
  exact lv_irem hx hb hd hc (kk H locs ls hR hl)
theorem xs_ineg {x : Int32} (X : xi_X z cc own) (hd : decode cc pc = .ok (.ineg, 1)) (kk : xi_At z (pc + 1) lv (.int (-x) :: r) A) : xi_At z pc lv (.int x :: r) A := by
  obtain ⟨p, l, e, R, s, m, args, below, meth, c, Q, nL, b0, aS, dA, D, n0, s0⟩ := z
  obtain ⟨hx, hb, hml, hown, hts, hK, hstr⟩ := X
  intro H locs ls hR hl
  exact lv_ineg hx hb hd (kk H locs ls hR hl)
theorem xs_ladd {x y : Int64} (X : xi_X z cc own) (hd : decode cc pc = .ok (.ladd, 1)) (kk : xi_At z (pc + 1) lv (.long (x + y) :: r) A) : xi_At z pc lv (.long y :: .long x :: r) A := by
  obtain ⟨p, l, e, R, s, m, args, below, meth, c, Q, nL, b0, aS, dA, D, n0, s0⟩ := z
  obtain ⟨hx, hb, hml, hown, hts, hK, hstr⟩ := X
  intro H locs ls hR hl
  exact lv_ladd hx hb hd (kk H locs ls hR hl)
theorem xs_lsub {x y : Int64} (X : xi_X z cc own) (hd : decode cc pc = .ok (.lsub, 1)) (kk : xi_At z (pc + 1) lv (.long (x - y) :: r) A) : xi_At z pc lv (.long y :: .long x :: r) A := by
  obtain ⟨p, l, e, R, s, m, args, below, meth, c, Q, nL, b0, aS, dA, D, n0, s0⟩ := z
  obtain ⟨hx, hb, hml, hown, hts, hK, hstr⟩ := X
  intro H locs ls hR hl
  exact lv_lsub hx hb hd (kk H locs ls hR hl)
theorem xs_lmul {x y : Int64} (X : xi_X z cc own) (hd : decode cc pc = .ok (.lmul, 1)) (kk : xi_At z (pc + 1) lv (.long (x * y) :: r) A) : xi_At z pc lv (.long y :: .long x :: r) A := by
  obtain ⟨p, l, e, R, s, m, args, below, meth, c, Q, nL, b0, aS, dA, D, n0, s0⟩ := z
  obtain ⟨hx, hb, hml, hown, hts, hK, hstr⟩ := X
  intro H locs ls hR hl
  exact lv_lmul hx hb hd (kk H locs ls hR hl)
theorem xs_land {x y : Int64} (X : xi_X z cc own) (hd : decode cc pc = .ok (.land, 1)) (kk : xi_At z (pc + 1) lv (.long (x &&& y) :: r) A) : xi_At z pc lv (.long y :: .long x :: r) A := by
  obtain ⟨p, l, e, R, s, m, args, below, meth, c, Q, nL, b0, aS, dA, D, n0, s0⟩ := z
  obtain ⟨hx, hb, hml, hown, hts, hK, hstr⟩ := X
  intro H locs ls hR hl
  exact lv_land hx hb hd (kk H locs ls hR hl)
theorem xs_lor {x y : Int64} (X : xi_X z cc own) (hd : decode cc pc = .ok (.lor, 1)) (kk : xi_At z (pc + 1) lv (.long (x ||| y) :: r) A) : xi_At z pc lv (.long y :: .long x :: r) A := by
  obtain ⟨p, l, e, R, s, m, args, below, meth, c, Q, nL, b0, aS, dA, D, n0, s0⟩ := z
  obtain ⟨hx, hb, hml, hown, hts, hK, hstr⟩ := X
  intro H locs ls hR hl
  exact lv_lor hx hb hd (kk H locs ls hR hl)
theorem xs_lxor {x y : Int64} (X : xi_X z cc own) (hd : decode cc pc = .ok (.lxor, 1)) (kk : xi_At z (pc + 1) lv (.long (x ^^^ y) :: r) A) : xi_At z pc lv (.long y :: .long x :: r) A := by
  obtain ⟨p, l, e, R, s, m, args, below, meth, c, Q, nL, b0, aS, dA, D, n0, s0⟩ := z
  obtain ⟨hx, hb, hml, hown, hts, hK, hstr⟩ := X
  intro H locs ls hR hl
  exact lv_lxor hx hb hd (kk H locs ls hR hl)
theorem xs_ldiv {x y : Int64} (X : xi_X z cc own) (hd : decode cc pc = .ok (.ldiv, 1)) (hc : ¬ y = 0) (kk : xi_At z (pc + 1) lv (.long (x / y) :: r) A) : xi_At z pc lv (.long y :: .long x :: r) A := by
  obtain ⟨p, l, e, R, s, m, args, below, meth, c, Q, nL, b0, aS, dA, D, n0, s0⟩ := z
  obtain ⟨hx, hb, hml, hown, hts, hK, hstr⟩ := X
  intro H locs ls hR hl
  exact lv_ldiv hx hb hd hc (kk H locs ls hR hl)
theorem xs_lrem {x y : Int64} (X : xi_X z cc own) (hd : decode cc pc = .ok (.lrem, 1)) (hc : ¬ y = 0) (kk : xi_At z (pc + 1) lv (.long (x - x / y * y) :: r) A) : xi_At z pc lv (.long y :: .long x :: r) A := by
  obtain ⟨p, l, e, R, s, m, args, below, meth, c, Q, nL, b0, aS, dA, D, n0, s0⟩ := z
  obtain ⟨hx, hb, hml, hown, hts, hK, hstr⟩ := X
  intro H locs ls hR hl
  exact lv_lrem hx hb hd hc (kk H locs ls hR hl)
theorem xs_lshl {x : Int64} {y : Int32} (X : xi_X z cc own) (hd : decode cc pc = .ok (.lshl, 1)) (kk : xi_At z (pc + 1) lv (.long (x <<< (y.toInt64 &&& 63)) :: r) A) : xi_At z pc lv (.int y :: .long x :: r) A := by
  obtain ⟨p, l, e, R, s, m, args, below, meth, c, Q, nL, b0, aS, dA, D, n0, s0⟩ := z
  obtain ⟨hx, hb, hml, hown, hts, hK, hstr⟩ := X
  intro H locs ls hR hl
  exact lv_lshl hx hb hd rfl (kk H locs ls hR hl)
theorem xs_lshr {x : Int64} {y : Int32} (X : xi_X z cc own) (hd : decode cc pc = .ok (.lshr, 1)) (kk : xi_At z (pc + 1) lv (.long (x >>> (y.toInt64 &&& 63)) :: r) A) : xi_At z pc lv (.int y :: .long x :: r) A := by
  obtain ⟨p, l, e, R, s, m, args, below, meth, c, Q, nL, b0, aS, dA, D, n0, s0⟩ := z
  obtain ⟨hx, hb, hml, hown, hts, hK, hstr⟩ := X
  intro H locs ls hR hl
  exact lv_lshr hx hb hd rfl (kk H locs ls hR hl)
theorem xs_lushr {x : Int64} {y : Int32} (X : xi_X z cc own) (hd : decode cc pc = .ok (.lushr, 1)) (kk : xi_At z (pc + 1) lv (.long ((x.toUInt64 >>> (y.toInt64.toUInt64 &&& Int64.toUInt64 63)).toInt64) :: r) A) : xi_At z pc lv (.int y :: .long x :: r) A := by
  obtain ⟨p, l, e, R, s, m, args, below, meth, c, Q, nL, b0, aS, dA, D, n0, s0⟩ := z
  obtain ⟨hx, hb, hml, hown, hts, hK, hstr⟩ := X
  intro H locs ls hR hl
  exact lv_lushr hx hb hd rfl (kk H locs ls hR hl)
theorem xs_i2l {x : Int32} (X : xi_X z cc own) (hd : decode cc pc = .ok (.i2l, 1)) (kk : xi_At z (pc + 1) lv (.long x.toInt64 :: r) A) : xi_At z pc lv (.int x :: r) A := by
  obtain ⟨p, l, e, R, s, m, args, below, meth, c, Q, nL, b0, aS, dA, D, n0, s0⟩ := z
  obtain ⟨hx, hb, hml, hown, hts, hK, hstr⟩ := X
  intro H locs ls hR hl
  exact lv_i2l hx hb hd rfl (kk H locs ls hR hl)
theorem xs_l2i {x : Int64} (X : xi_X z cc own) (hd : decode cc pc = .ok (.l2i, 1)) (kk : xi_At z (pc + 1) lv (.int x.toInt32 :: r) A) : xi_At z pc lv (.long x :: r) A := by
  obtain ⟨p, l, e, R, s, m, args, below, meth, c, Q, nL, b0, aS, dA, D, n0, s0⟩ := z
  obtain ⟨hx, hb, hml, hown, hts, hK, hstr⟩ := X
  intro H locs ls hR hl
  exact lv_l2i hx hb hd rfl (kk H locs ls hR hl)
theorem xs_i2c {x : Int32} (X : xi_X z cc own) (hd : decode cc pc = .ok (.i2c, 1)) (kk : xi_At z (pc + 1) lv (.int ((x.toUInt32 % 65536).toInt32) :: r) A) : xi_At z pc lv (.int x :: r) A := by
  obtain ⟨p, l, e, R, s, m, args, below, meth, c, Q, nL, b0, aS, dA, D, n0, s0⟩ := z
  obtain ⟨hx, hb, hml, hown, hts, hK, hstr⟩ := X
  intro H locs ls hR hl
  exact lv_i2c hx hb hd rfl (kk H locs ls hR hl)
theorem xs_lcmp {x y : Int64} (X : xi_X z cc own) (hd : decode cc pc = .ok (.lcmp, 1)) (kk : xi_At z (pc + 1) lv (.int (lg_cmp x y) :: r) A) : xi_At z pc lv (.long y :: .long x :: r) A := by
  obtain ⟨p, l, e, R, s, m, args, below, meth, c, Q, nL, b0, aS, dA, D, n0, s0⟩ := z
  obtain ⟨hx, hb, hml, hown, hts, hK, hstr⟩ := X
  intro H locs ls hR hl
  exact W.lcmp hx hb hd (kk H locs ls hR hl)
theorem xs_dup {va : Value} (X : xi_X z cc own) (hd : decode cc pc = .ok (.dup, 1)) (hva : va.category = 1) (kk : xi_At z (pc + 1) lv (va :: va :: r) A) : xi_At z pc lv (va :: r) A := by
  obtain ⟨p, l, e, R, s, m, args, below, meth, c, Q, nL, b0, aS, dA, D, n0, s0⟩ := z
  obtain ⟨hx, hb, hml, hown, hts, hK, hstr⟩ := X
  intro H locs ls hR hl
  exact lv_dup hx hb hd ((xi_v_cat _ _ va).trans hva) (kk H locs ls hR hl)
theorem xs_pop {va : Value} (X : xi_X z cc own) (hd : decode cc pc = .ok (.pop, 1)) (hva : va.category = 1) (kk : xi_At z (pc + 1) lv (r) A) : xi_At z pc lv (va :: r) A := by
  obtain ⟨p, l, e, R, s, m, args, below, meth, c, Q, nL, b0, aS, dA, D, n0, s0⟩ := z
  obtain ⟨hx, hb, hml, hown, hts, hK, hstr⟩ := X
  intro H locs ls hR hl
  exact lv_pop hx hb hd ((xi_v_cat _ _ va).trans hva) (kk H locs ls hR hl)
theorem xs_dup_x1 {va vb : Value} (X : xi_X z cc own) (hd : decode cc pc = .ok (.dup_x1, 1)) (hva : va.category = 1) (hvb : vb.category = 1) (kk : xi_At z (pc + 1) lv (va :: vb :: va :: r) A) : xi_At z pc lv (va :: vb :: r) A := by
  obtain ⟨p, l, e, R, s, m, args, below, meth, c, Q, nL, b0, aS, dA, D, n0, s0⟩ := z
  obtain ⟨hx, hb, hml, hown, hts, hK, hstr⟩ := X
  intro H locs ls hR hl
  exact lv_dup_x1 hx hb hd ((xi_v_cat _ _ va).trans hva) ((xi_v_cat _ _ vb).trans hvb) (kk H locs ls hR hl)
theorem xs_dup_x2 {va vb vd : Value} (X : xi_X z cc own) (hd : decode cc pc = .ok (.dup_x2, 1)) (hva : va.category = 1) (hvb : vb.category = 1) (hvd : vd.category = 1) (kk : xi_At z (pc + 1) lv (va :: vb :: vd :: va :: r) A) : xi_At z pc lv (va :: vb :: vd :: r) A := by
  obtain ⟨p, l, e, R, s, m, args, below, meth, c, Q, nL, b0, aS, dA, D, n0, s0⟩ := z
  obtain ⟨hx, hb, hml, hown, hts, hK, hstr⟩ := X
  intro H locs ls hR hl
  exact lv_dup_x2 hx hb hd ((xi_v_cat _ _ va).trans hva) ((xi_v_cat _ _ vb).trans hvb) ((xi_v_cat _ _ vd).trans hvd) (kk H locs ls hR hl)
theorem xs_dup2_11 {va vb : Value} (X : xi_X z cc own) (hd : decode cc pc = .ok (.dup2, 1)) (hva : va.category = 1) (hvb : vb.category = 1) (kk : xi_At z (pc + 1) lv (va :: vb :: va :: vb :: r) A) : xi_At z pc lv (va :: vb :: r) A := by
  obtain ⟨p, l, e, R, s, m, args, below, meth, c, Q, nL, b0, aS, dA, D, n0, s0⟩ := z
  obtain ⟨hx, hb, hml, hown, hts, hK, hstr⟩ := X
  intro H locs ls hR hl
  exact lv_dup2_11 hx hb hd ((xi_v_cat _ _ va).trans hva) ((xi_v_cat _ _ vb).trans hvb) (kk H locs ls hR hl)
theorem xs_dup2_2 {va : Value} (X : xi_X z cc own) (hd : decode cc pc = .ok (.dup2, 1)) (hva : va.category = 2) (kk : xi_At z (pc + 1) lv (va :: va :: r) A) : xi_At z pc lv (va :: r) A := by
  obtain ⟨p, l, e, R, s, m, args, below, meth, c, Q, nL, b0, aS, dA, D, n0, s0⟩ := z
  obtain ⟨hx, hb, hml, hown, hts, hK, hstr⟩ := X
  intro H locs ls hR hl
  exact lv_dup2_2 hx hb hd ((xi_v_cat _ _ va).trans hva) (kk H locs ls hR hl)
theorem xs_iload_n {k : Fin 4} {x : Int32} (X : xi_X z cc own) (hd : decode cc pc = .ok (.iload_n k, 1)) (hc : xi_get lv k = some (.int x)) (kk : xi_At z (pc + 1) lv (.int x :: r) A) : xi_At z pc lv r A := by
  obtain ⟨p, l, e, R, s, m, args, below, meth, c, Q, nL, b0, aS, dA, D, n0, s0⟩ := z
  obtain ⟨hx, hb, hml, hown, hts, hK, hstr⟩ := X
  intro H locs ls hR hl
  exact lv_iload_n hx hb hd rfl (xi_get_at hl hc) (kk H locs ls hR hl)
theorem xs_iload {i : Nat} {x : Int32} (X : xi_X z cc own) (hd : decode cc pc = .ok (.iload i, 2)) (hc : xi_get lv i = some (.int x)) (kk : xi_At z (pc + 2) lv (.int x :: r) A) : xi_At z pc lv r A := by
  obtain ⟨p, l, e, R, s, m, args, below, meth, c, Q, nL, b0, aS, dA, D, n0, s0⟩ := z
  obtain ⟨hx, hb, hml, hown, hts, hK, hstr⟩ := X
  intro H locs ls hR hl
  exact lv_iload hx hb hd (xi_get_at hl hc) (kk H locs ls hR hl)
theorem xs_lload_n {k : Fin 4} {x : Int64} (X : xi_X z cc own) (hd : decode cc pc = .ok (.lload_n k, 1)) (hc : xi_get lv k = some (.long x)) (kk : xi_At z (pc + 1) lv (.long x :: r) A) : xi_At z pc lv r A := by
  obtain ⟨p, l, e, R, s, m, args, below, meth, c, Q, nL, b0, aS, dA, D, n0, s0⟩ := z
  obtain ⟨hx, hb, hml, hown, hts, hK, hstr⟩ := X
  intro H locs ls hR hl
  exact lv_lload_n hx hb hd rfl (xi_get_at hl hc) (kk H locs ls hR hl)
theorem xs_lload {i : Nat} {x : Int64} (X : xi_X z cc own) (hd : decode cc pc = .ok (.lload i, 2)) (hc : xi_get lv i = some (.long x)) (kk : xi_At z (pc + 2) lv (.long x :: r) A) : xi_At z pc lv r A := by
  obtain ⟨p, l, e, R, s, m, args, below, meth, c, Q, nL, b0, aS, dA, D, n0, s0⟩ := z
  obtain ⟨hx, hb, hml, hown, hts, hK, hstr⟩ := X
  intro H locs ls hR hl
  exact lv_lload hx hb hd (xi_get_at hl hc) (kk H locs ls hR hl)
theorem xs_aload_n {k : Fin 4} {v : Value} (X : xi_X z cc own) (hd : decode cc pc = .ok (.aload_n k, 1)) (hc : xi_get lv k = some v) (hv : xi_isr v = true) (kk : xi_At z (pc + 1) lv (v :: r) A) : xi_At z pc lv r A := by
  obtain ⟨p, l, e, R, s, m, args, below, meth, c, Q, nL, b0, aS, dA, D, n0, s0⟩ := z
  obtain ⟨hx, hb, hml, hown, hts, hK, hstr⟩ := X
  intro H locs ls hR hl
  cases v with
  | ref a => exact lv_aload_n hx hb hd rfl (xi_get_at hl hc) (kk H locs ls hR hl)
  | retAddr a => exact lv_aload_n hx hb hd rfl (xi_get_at hl hc) (kk H locs ls hR hl)
  | null => exact lv_aload_nN hx hb hd rfl (xi_get_at hl hc) (kk H locs ls hR hl)
  | _ => simp [xi_isr] at hv
theorem xs_aload {i : Nat} {v : Value} (X : xi_X z cc own) (hd : decode cc pc = .ok (.aload i, 2)) (hc : xi_get lv i = some v) (hv : xi_isr v = true) (kk : xi_At z (pc + 2) lv (v :: r) A) : xi_At z pc lv r A := by
  obtain ⟨p, l, e, R, s, m, args, below, meth, c, Q, nL, b0, aS, dA, D, n0, s0⟩ := z
  obtain ⟨hx, hb, hml, hown, hts, hK, hstr⟩ := X
  intro H locs ls hR hl
  cases v with
  | ref a => exact lv_aload hx hb hd (xi_get_at hl hc) (kk H locs ls hR hl)
  | retAddr a => exact lv_aload hx hb hd (xi_get_at hl hc) (kk H locs ls hR hl)
  | null => exact lv_aloadN hx hb hd (xi_get_at hl hc) (kk H locs ls hR hl)
  | _ => simp [xi_isr] at hv
theorem xs_istore_n {k : Fin 4} {i : Nat} {x : Int32} (X : xi_X z cc own) (hd : decode cc pc = .ok (.istore_n k, 1)) (hi : (k : Nat) = i) (hn : i < z.2.2.2.2.2.2.2.2.2.2.2.1) (kk : xi_At z (pc + 1) (xi_put1 lv i (.int x)) r A) : xi_At z pc lv (.int x :: r) A := by
  obtain ⟨p, l, e, R, s, m, args, below, meth, c, Q, nL, b0, aS, dA, D, n0, s0⟩ := z
  obtain ⟨hx, hb, hml, hown, hts, hK, hstr⟩ := X
  intro H locs ls hR hl
  exact lv_istore_n hx hb hd hi hl hn (xi_put1_l b0 aS lv i (.int x)) (fun ls' hl' => kk H locs ls' hR hl')
theorem xs_istore {i : Nat} {x : Int32} (X : xi_X z cc own) (hd : decode cc pc = .ok (.istore i, 2)) (hn : i < z.2.2.2.2.2.2.2.2.2.2.2.1) (kk : xi_At z (pc + 2) (xi_put1 lv i (.int x)) r A) : xi_At z pc lv (.int x :: r) A := by
  obtain ⟨p, l, e, R, s, m, args, below, meth, c, Q, nL, b0, aS, dA, D, n0, s0⟩ := z
  obtain ⟨hx, hb, hml, hown, hts, hK, hstr⟩ := X
  intro H locs ls hR hl
  exact lv_istore hx hb hd hl hn (xi_put1_l b0 aS lv i (.int x)) (fun ls' hl' => kk H locs ls' hR hl')
theorem xs_lstore_n {k : Fin 4} {i : Nat} {x : Int64} (X : xi_X z cc own) (hd : decode cc pc = .ok (.lstore_n k, 1)) (hi : (k : Nat) = i) (hn : i + 1 < z.2.2.2.2.2.2.2.2.2.2.2.1) (kk : xi_At z (pc + 1) (xi_put2 lv i (.long x)) r A) : xi_At z pc lv (.long x :: r) A := by
  obtain ⟨p, l, e, R, s, m, args, below, meth, c, Q, nL, b0, aS, dA, D, n0, s0⟩ := z
  obtain ⟨hx, hb, hml, hown, hts, hK, hstr⟩ := X
  intro H locs ls hR hl
  exact lv_lstore_n hx hb hd hi hl hn (xi_put2_l b0 aS lv i (.long x)) (fun ls' hl' => kk H locs ls' hR hl')
theorem xs_lstore {i : Nat} {x : Int64} (X : xi_X z cc own) (hd : decode cc pc = .ok (.lstore i, 2)) (hn : i + 1 < z.2.2.2.2.2.2.2.2.2.2.2.1) (kk : xi_At z (pc + 2) (xi_put2 lv i (.long x)) r A) : xi_At z pc lv (.long x :: r) A := by
  obtain ⟨p, l, e, R, s, m, args, below, meth, c, Q, nL, b0, aS, dA, D, n0, s0⟩ := z
  obtain ⟨hx, hb, hml, hown, hts, hK, hstr⟩ := X
  intro H locs ls hR hl
  exact lv_lstore hx hb hd hl hn (xi_put2_l b0 aS lv i (.long x)) (fun ls' hl' => kk H locs ls' hR hl')
theorem xs_astore_n {k : Fin 4} {i : Nat} {x : Nat} (X : xi_X z cc own) (hd : decode cc pc = .ok (.astore_n k, 1)) (hi : (k : Nat) = i) (hn : i < z.2.2.2.2.2.2.2.2.2.2.2.1) (kk : xi_At z (pc + 1) (xi_put1 lv i (.ref x)) r A) : xi_At z pc lv (.ref x :: r) A := by
  obtain ⟨p, l, e, R, s, m, args, below, meth, c, Q, nL, b0, aS, dA, D, n0, s0⟩ := z
  obtain ⟨hx, hb, hml, hown, hts, hK, hstr⟩ := X
  intro H locs ls hR hl
  exact lv_astore_n hx hb hd hi hl hn (xi_put1_l b0 aS lv i (.ref x)) (fun ls' hl' => kk H locs ls' hR hl')
theorem xs_astore {i : Nat} {x : Nat} (X : xi_X z cc own) (hd : decode cc pc = .ok (.astore i, 2)) (hn : i < z.2.2.2.2.2.2.2.2.2.2.2.1) (kk : xi_At z (pc + 2) (xi_put1 lv i (.ref x)) r A) : xi_At z pc lv (.ref x :: r) A := by
  obtain ⟨p, l, e, R, s, m, args, below, meth, c, Q, nL, b0, aS, dA, D, n0, s0⟩ := z
  obtain ⟨hx, hb, hml, hown, hts, hK, hstr⟩ := X
  intro H locs ls hR hl
  exact lv_astore hx hb hd hl hn (xi_put1_l b0 aS lv i (.ref x)) (fun ls' hl' => kk H locs ls' hR hl')
theorem xs_iinc {i : Nat} {n : Int} {x : Int32} (X : xi_X z cc own) (hd : decode cc pc = .ok (.iinc i n, 3)) (hc : xi_get lv i = some (.int x)) (hn : i < z.2.2.2.2.2.2.2.2.2.2.2.1) (kk : xi_At z (pc + 3) (xi_put1 lv i (.int (x + Int32.ofInt n))) r A) : xi_At z pc lv r A := by
  obtain ⟨p, l, e, R, s, m, args, below, meth, c, Q, nL, b0, aS, dA, D, n0, s0⟩ := z
  obtain ⟨hx, hb, hml, hown, hts, hK, hstr⟩ := X
  intro H locs ls hR hl
  obtain ⟨k, hk⟩ := xi_get_ix (b0 := b0) (aS := aS) hc
  exact lv_iinc hx hb hd hl hk rfl hn (xi_put1_l b0 aS lv i (.int (x + Int32.ofInt n))) (fun ls' hl' => kk H locs ls' hR hl')
theorem xs_if_eq {x : Int32} {off : Int} {tgt : Nat} (X : xi_X z cc own) (hd : decode cc pc = .ok (.ifCond .eq off, 3)) (ht : (pc : Int) + off = (tgt : Int)) (kk : xi_At z (if x = 0 then tgt else pc + 3) lv r A) : xi_At z pc lv (.int x :: r) A := by
  obtain ⟨p, l, e, R, s, m, args, below, meth, c, Q, nL, b0, aS, dA, D, n0, s0⟩ := z
  obtain ⟨hx, hb, hml, hown, hts, hK, hstr⟩ := X
  intro H locs ls hR hl
  have k1 := kk H locs ls hR hl
  exact lv_if_eq hx hb hd ht (fun h => by rw [if_pos h] at k1; exact k1) (fun h => by rw [if_neg (h)] at k1; exact k1)
theorem xs_if_ne {x : Int32} {off : Int} {tgt : Nat} (X : xi_X z cc own) (hd : decode cc pc = .ok (.ifCond .ne off, 3)) (ht : (pc : Int) + off = (tgt : Int)) (kk : xi_At z (if ¬ x = 0 then tgt else pc + 3) lv r A) : xi_At z pc lv (.int x :: r) A := by
  obtain ⟨p, l, e, R, s, m, args, below, meth, c, Q, nL, b0, aS, dA, D, n0, s0⟩ := z
  obtain ⟨hx, hb, hml, hown, hts, hK, hstr⟩ := X
  intro H locs ls hR hl
  have k1 := kk H locs ls hR hl
  exact lv_if_ne hx hb hd ht (fun h => by rw [if_pos h] at k1; exact k1) (fun h => by rw [if_neg (fun q => q h)] at k1; exact k1)
theorem xs_if_lt {x : Int32} {off : Int} {tgt : Nat} (X : xi_X z cc own) (hd : decode cc pc = .ok (.ifCond .lt off, 3)) (ht : (pc : Int) + off = (tgt : Int)) (kk : xi_At z (if x < 0 then tgt else pc + 3) lv r A) : xi_At z pc lv (.int x :: r) A := by
  obtain ⟨p, l, e, R, s, m, args, below, meth, c, Q, nL, b0, aS, dA, D, n0, s0⟩ := z
  obtain ⟨hx, hb, hml, hown, hts, hK, hstr⟩ := X
  intro H locs ls hR hl
  have k1 := kk H locs ls hR hl
  exact lv_if_lt hx hb hd ht (fun h => by rw [if_pos h] at k1; exact k1) (fun h => by rw [if_neg (h)] at k1; exact k1)
theorem xs_if_ge {x : Int32} {off : Int} {tgt : Nat} (X : xi_X z cc own) (hd : decode cc pc = .ok (.ifCond .ge off, 3)) (ht : (pc : Int) + off = (tgt : Int)) (kk : xi_At z (if 0 ≤ x then tgt else pc + 3) lv r A) : xi_At z pc lv (.int x :: r) A := by
  obtain ⟨p, l, e, R, s, m, args, below, meth, c, Q, nL, b0, aS, dA, D, n0, s0⟩ := z
  obtain ⟨hx, hb, hml, hown, hts, hK, hstr⟩ := X
  intro H locs ls hR hl
  have k1 := kk H locs ls hR hl
  exact lv_if_ge hx hb hd ht (fun h => by rw [if_pos h] at k1; exact k1) (fun h => by rw [if_neg (h)] at k1; exact k1)
theorem xs_if_gt {x : Int32} {off : Int} {tgt : Nat} (X : xi_X z cc own) (hd : decode cc pc = .ok (.ifCond .gt off, 3)) (ht : (pc : Int) + off = (tgt : Int)) (kk : xi_At z (if 0 < x then tgt else pc + 3) lv r A) : xi_At z pc lv (.int x :: r) A := by
  obtain ⟨p, l, e, R, s, m, args, below, meth, c, Q, nL, b0, aS, dA, D, n0, s0⟩ := z
  obtain ⟨hx, hb, hml, hown, hts, hK, hstr⟩ := X
  intro H locs ls hR hl
  have k1 := kk H locs ls hR hl
  exact lv_if_gt hx hb hd ht (fun h => by rw [if_pos h] at k1; exact k1) (fun h => by rw [if_neg (h)] at k1; exact k1)
theorem xs_if_le {x : Int32} {off : Int} {tgt : Nat} (X : xi_X z cc own) (hd : decode cc pc = .ok (.ifCond .le off, 3)) (ht : (pc : Int) + off = (tgt : Int)) (kk : xi_At z (if x ≤ 0 then tgt else pc + 3) lv r A) : xi_At z pc lv (.int x :: r) A := by
  obtain ⟨p, l, e, R, s, m, args, below, meth, c, Q, nL, b0, aS, dA, D, n0, s0⟩ := z
  obtain ⟨hx, hb, hml, hown, hts, hK, hstr⟩ := X
  intro H locs ls hR hl
  have k1 := kk H locs ls hR hl
  exact lv_if_le hx hb hd ht (fun h => by rw [if_pos h] at k1; exact k1) (fun h => by rw [if_neg (h)] at k1; exact k1)
theorem xs_icmp_eq {x y : Int32} {off : Int} {tgt : Nat} (X : xi_X z cc own) (hd : decode cc pc = .ok (.if_icmp .eq off, 3)) (ht : (pc : Int) + off = (tgt : Int)) (kk : xi_At z (if x = y then tgt else pc + 3) lv r A) : xi_At z pc lv (.int y :: .int x :: r) A := by
  obtain ⟨p, l, e, R, s, m, args, below, meth, c, Q, nL, b0, aS, dA, D, n0, s0⟩ := z
  obtain ⟨hx, hb, hml, hown, hts, hK, hstr⟩ := X
  intro H locs ls hR hl
  have k1 := kk H locs ls hR hl
  exact lv_icmp_eq hx hb hd ht (fun h => by rw [if_pos h] at k1; exact k1) (fun h => by rw [if_neg (h)] at k1; exact k1)
theorem xs_icmp_ne {x y : Int32} {off : Int} {tgt : Nat} (X : xi_X z cc own) (hd : decode cc pc = .ok (.if_icmp .ne off, 3)) (ht : (pc : Int) + off = (tgt : Int)) (kk : xi_At z (if ¬ x = y then tgt else pc + 3) lv r A) : xi_At z pc lv (.int y :: .int x :: r) A := by
  obtain ⟨p, l, e, R, s, m, args, below, meth, c, Q, nL, b0, aS, dA, D, n0, s0⟩ := z
  obtain ⟨hx, hb, hml, hown, hts, hK, hstr⟩ := X
  intro H locs ls hR hl
  have k1 := kk H locs ls hR hl
  exact lv_icmp_ne hx hb hd ht (fun h => by rw [if_pos h] at k1; exact k1) (fun h => by rw [if_neg (fun q => q h)] at k1; exact k1)
theorem xs_icmp_lt {x y : Int32} {off : Int} {tgt : Nat} (X : xi_X z cc own) (hd : decode cc pc = .ok (.if_icmp .lt off, 3)) (ht : (pc : Int) + off = (tgt : Int)) (kk : xi_At z (if x < y then tgt else pc + 3) lv r A) : xi_At z pc lv (.int y :: .int x :: r) A := by
  obtain ⟨p, l, e, R, s, m, args, below, meth, c, Q, nL, b0, aS, dA, D, n0, s0⟩ := z
  obtain ⟨hx, hb, hml, hown, hts, hK, hstr⟩ := X
  intro H locs ls hR hl
  have k1 := kk H locs ls hR hl
  exact lv_icmp_lt hx hb hd ht (fun h => by rw [if_pos h] at k1; exact k1) (fun h => by rw [if_neg (h)] at k1; exact k1)
theorem xs_icmp_ge {x y : Int32} {off : Int} {tgt : Nat} (X : xi_X z cc own) (hd : decode cc pc = .ok (.if_icmp .ge off, 3)) (ht : (pc : Int) + off = (tgt : Int)) (kk : xi_At z (if y ≤ x then tgt else pc + 3) lv r A) : xi_At z pc lv (.int y :: .int x :: r) A := by
  obtain ⟨p, l, e, R, s, m, args, below, meth, c, Q, nL, b0, aS, dA, D, n0, s0⟩ := z
  obtain ⟨hx, hb, hml, hown, hts, hK, hstr⟩ := X
  intro H locs ls hR hl
  have k1 := kk H locs ls hR hl
  exact lv_icmp_ge hx hb hd ht (fun h => by rw [if_pos h] at k1; exact k1) (fun h => by rw [if_neg (h)] at k1; exact k1)
theorem xs_icmp_gt {x y : Int32} {off : Int} {tgt : Nat} (X : xi_X z cc own) (hd : decode cc pc = .ok (.if_icmp .gt off, 3)) (ht : (pc : Int) + off = (tgt : Int)) (kk : xi_At z (if y < x then tgt else pc + 3) lv r A) : xi_At z pc lv (.int y :: .int x :: r) A := by
  obtain ⟨p, l, e, R, s, m, args, below, meth, c, Q, nL, b0, aS, dA, D, n0, s0⟩ := z
  obtain ⟨hx, hb, hml, hown, hts, hK, hstr⟩ := X
  intro H locs ls hR hl
  have k1 := kk H locs ls hR hl
  exact lv_icmp_gt hx hb hd ht (fun h => by rw [if_pos h] at k1; exact k1) (fun h => by rw [if_neg (h)] at k1; exact k1)
theorem xs_icmp_le {x y : Int32} {off : Int} {tgt : Nat} (X : xi_X z cc own) (hd : decode cc pc = .ok (.if_icmp .le off, 3)) (ht : (pc : Int) + off = (tgt : Int)) (kk : xi_At z (if x ≤ y then tgt else pc + 3) lv r A) : xi_At z pc lv (.int y :: .int x :: r) A := by
  obtain ⟨p, l, e, R, s, m, args, below, meth, c, Q, nL, b0, aS, dA, D, n0, s0⟩ := z
  obtain ⟨hx, hb, hml, hown, hts, hK, hstr⟩ := X
  intro H locs ls hR hl
  have k1 := kk H locs ls hR hl
  exact lv_icmp_le hx hb hd ht (fun h => by rw [if_pos h] at k1; exact k1) (fun h => by rw [if_neg (h)] at k1; exact k1)
theorem xs_goto {off : Int} {tgt : Nat} (X : xi_X z cc own) (hd : decode cc pc = .ok (.goto off, 3)) (ht : (pc : Int) + off = (tgt : Int)) (kk : xi_At z tgt lv r A) : xi_At z pc lv r A := by
  obtain ⟨p, l, e, R, s, m, args, below, meth, c, Q, nL, b0, aS, dA, D, n0, s0⟩ := z
  obtain ⟨hx, hb, hml, hown, hts, hK, hstr⟩ := X
  intro H locs ls hR hl
  exact lv_goto hx hb hd ht (kk H locs ls hR hl)
theorem xs_ldc {i : Nat} {v : Int32} (X : xi_X z cc own) (hd : decode cc pc = .ok (.ldc i, 2)) (hw : Jvm.Cond.constant own i v ∈ xi_G) (kk : xi_At z (pc + 2) lv (.int v :: r) A) : xi_At z pc lv r A := by
  obtain ⟨p, l, e, R, s, m, args, below, meth, c, Q, nL, b0, aS, dA, D, n0, s0⟩ := z
  obtain ⟨hx, hb, hml, hown, hts, hK, hstr⟩ := X
  intro H locs ls hR hl
  exact lv_ldc hx hb hown (hts _ hw) hd (kk H locs ls hR hl)
theorem xs_ldcw {i : Nat} {v : Int32} (X : xi_X z cc own) (hd : decode cc pc = .ok (.ldc_w i, 3)) (hw : Jvm.Cond.constant own i v ∈ xi_G) (kk : xi_At z (pc + 3) lv (.int v :: r) A) : xi_At z pc lv r A := by
  obtain ⟨p, l, e, R, s, m, args, below, meth, c, Q, nL, b0, aS, dA, D, n0, s0⟩ := z
  obtain ⟨hx, hb, hml, hown, hts, hK, hstr⟩ := X
  intro H locs ls hR hl
  exact lv_ldcw hx hb hown (hts _ hw) hd (kk H locs ls hR hl)
theorem xs_ldc2 {i : Nat} {v : Int64} (X : xi_X z cc own) (hd : decode cc pc = .ok (.ldc2_w i, 3)) (hw : Jvm.Cond.constantLong own i v ∈ xi_G) (kk : xi_At z (pc + 3) lv (.long v :: r) A) : xi_At z pc lv r A := by
  obtain ⟨p, l, e, R, s, m, args, below, meth, c, Q, nL, b0, aS, dA, D, n0, s0⟩ := z
  obtain ⟨hx, hb, hml, hown, hts, hK, hstr⟩ := X
  intro H locs ls hR hl
  exact lv_ldc2 hx hb hown (hts _ hw) hd (kk H locs ls hR hl)
theorem xs_ldcS {i j : Nat} {tx : String} (X : xi_X z cc own) (hd : decode cc pc = .ok (.ldc i, 2)) (hw : xi_str[j]? = some (own, i, tx)) (kk : xi_At z (pc + 2) lv (.retAddr j :: r) A) : xi_At z pc lv r A := by
  obtain ⟨p, l, e, R, s, m, args, below, meth, c, Q, nL, b0, aS, dA, D, n0, s0⟩ := z
  obtain ⟨hx, hb, hml, hown, hts, hK, hstr⟩ := X
  intro H locs ls hR hl
  exact va_ldcS hx hb hown (hstr.1 j _ hw) hd (kk H locs ls hR hl)
theorem xs_iald {i : Int32} {a n : Nat} {f : Nat → Int32} (X : xi_X z cc own) (hd : decode cc pc = .ok (.iaload, 1)) (ha : A[a]? = some (.inl (0, n, .inl f))) (hin : vp_in i n) (kk : xi_At z (pc + 1) lv (.int (f i.toNatClampNeg) :: r) A) : xi_At z pc lv (.int i :: .ref a :: r) A := by
  obtain ⟨p, l, e, R, s, m, args, below, meth, c, Q, nL, b0, aS, dA, D, n0, s0⟩ := z
  obtain ⟨hx, hb, hml, hown, hts, hK, hstr⟩ := X
  intro H locs ls hR hl
  exact va_iald hx hb hK hR.1 a 0 (xi_w_get ha) rfl hin hd (kk H locs ls hR hl)
theorem xs_lald {i : Int32} {a n : Nat} {f : Nat → Int64} (X : xi_X z cc own) (hd : decode cc pc = .ok (.laload, 1)) (ha : A[a]? = some (.inl (1, n, .inr (.inl f)))) (hin : vp_in i n) (kk : xi_At z (pc + 1) lv (.long (f i.toNatClampNeg) :: r) A) : xi_At z pc lv (.int i :: .ref a :: r) A := by
  obtain ⟨p, l, e, R, s, m, args, below, meth, c, Q, nL, b0, aS, dA, D, n0, s0⟩ := z
  obtain ⟨hx, hb, hml, hown, hts, hK, hstr⟩ := X
  intro H locs ls hR hl
  exact va_lald hx hb hK hR.1 a 1 (xi_w_get ha) rfl hin hd (kk H locs ls hR hl)
theorem xs_cald {i : Int32} {a n : Nat} {f : Nat → Int32} (X : xi_X z cc own) (hd : decode cc pc = .ok (.caload, 1)) (ha : A[a]? = some (.inl (2, n, .inl f))) (hin : vp_in i n) (kk : xi_At z (pc + 1) lv (.int (f i.toNatClampNeg) :: r) A) : xi_At z pc lv (.int i :: .ref a :: r) A := by
  obtain ⟨p, l, e, R, s, m, args, below, meth, c, Q, nL, b0, aS, dA, D, n0, s0⟩ := z
  obtain ⟨hx, hb, hml, hown, hts, hK, hstr⟩ := X
  intro H locs ls hR hl
  exact va_cald hx hb hK hR.1 a 2 (xi_w_get ha) rfl hin hd (kk H locs ls hR hl)
theorem xs_zald {i : Int32} {a n : Nat} {f : Nat → Int32} (X : xi_X z cc own) (hd : decode cc pc = .ok (.baload, 1)) (ha : A[a]? = some (.inl (3, n, .inl f))) (hin : vp_in i n) (kk : xi_At z (pc + 1) lv (.int (f i.toNatClampNeg) :: r) A) : xi_At z pc lv (.int i :: .ref a :: r) A := by
  obtain ⟨p, l, e, R, s, m, args, below, meth, c, Q, nL, b0, aS, dA, D, n0, s0⟩ := z
  obtain ⟨hx, hb, hml, hown, hts, hK, hstr⟩ := X
  intro H locs ls hR hl
  exact va_zald hx hb hK hR.1 a 3 (xi_w_get ha) rfl hin hd (kk H locs ls hR hl)
theorem xi_R.set {b0 : Nat} {aS : Nat → Nat} {dA : Nat → ClassId} {D : va_G} {n0 s0 : Nat} {Hs H H1 : Heap} {locs locs1 : List Loc} {k : Nat} {x y : xi_E} (hR : xi_R b0 aS dA D n0 s0 Hs A H locs) (hA : A[k]? = some x) (hn : xi_n x = xi_n y) (hP : va_P D xi_cl ((xi_w b0 aS dA A).set k (b0 + k, xi_e b0 aS dA y)) H1) (hS : va_S (fun q => b0 ≤ q) Hs H1 locs1) :
    xi_R b0 aS dA D n0 s0 Hs (A.set k y) H1 locs1 ∧ xi_ns (A.set k y) = xi_ns A := by
  have hns : xi_ns (A.set k y) = xi_ns A := xi_ns_set hA hn
  exact ⟨⟨xi_w_set ▸ hP, hS, by rw [List.length_set]; exact hR.2.2.1, by rw [hns]; exact hR.2.2.2.1, hR.2.2.2.2⟩, hns⟩
theorem xi_fresh {b0 : Nat} {aS : Nat → Nat} {dA : Nat → ClassId} {D : va_G} {n0 q : Nat} {e : va_E} {H1 : Heap} {hsz : Nat} (hP : va_P D xi_cl (xi_w b0 aS dA A ++ [(q, e)]) H1) (hD : va_D (fun q => b0 ≤ q) (xi_w b0 aS dA A ++ [(q, e)])) (hn : n0 ≤ A.length) (hs : hsz = b0 + n0) (hz : H1.size ≤ hsz + (A.length - n0 + 1)) : q = b0 + A.length := by
  have hl := xi_w_len b0 aS dA A
  have hlast : (xi_w b0 aS dA A ++ [(q, e)])[A.length]? = some (q, e) := by rw [List.getElem?_append_right (by omega), hl]; simp
  have h1 : b0 ≤ q := hD.2 _ _ hlast
  have h2 : q < H1.size := (hP _ _ hlast).lt
  by_cases h3 : q < b0 + A.length
  · exfalso
    have hk : q - b0 < A.length := by omega
    have h4 : (xi_w b0 aS dA A ++ [(q, e)])[q - b0]? = some (b0 + (q - b0), xi_e b0 aS dA A[q - b0]) := by
      rw [List.getElem?_append_left (by omega)]
      exact xi_w_get (List.getElem?_eq_getElem hk)
    have := hD.1 _ _ _ _ h4 hlast (by show b0 + (q - b0) = q; omega)
    omega
  · omega
theorem xs_iast {i : Int32} {x : Int32} {a n : Nat} {f : Nat → Int32} (X : xi_X z cc own) (hd : decode cc pc = .ok (.iastore, 1)) (ha : A[a]? = some (.inl (0, n, .inl f))) (hin : vp_in i n) (kk : xi_At z (pc + 1) lv r (A.set a (.inl (0, n, .inl (upd f i.toNatClampNeg x))))) : xi_At z pc lv (.int x :: .int i :: .ref a :: r) A := by
  obtain ⟨p, l, e, R, s, m, args, below, meth, c, Q, nL, b0, aS, dA, D, n0, s0⟩ := z
  obtain ⟨hx, hb, hml, hown, hts, hK, hstr⟩ := X
  intro H locs ls hR hl
  refine va_iast hx hb hK hR.1 (xi_w_D A) hR.2.1 a 0 (xi_w_get ha) rfl hin hd (fun H1 locs1 hP1 _ hS1 => ?_)
  obtain ⟨hR1, hns⟩ := hR.set (y := .inl (0, n, .inl (upd f i.toNatClampNeg x))) ha rfl hP1 hS1
  have k1 := kk H1 locs1 ls hR1 hl
  rw [hns, List.length_set] at k1
  exact k1
theorem xs_last {i : Int32} {x : Int64} {a n : Nat} {f : Nat → Int64} (X : xi_X z cc own) (hd : decode cc pc = .ok (.lastore, 1)) (ha : A[a]? = some (.inl (1, n, .inr (.inl f)))) (hin : vp_in i n) (kk : xi_At z (pc + 1) lv r (A.set a (.inl (1, n, .inr (.inl (vp_updL f i.toNatClampNeg x)))))) : xi_At z pc lv (.long x :: .int i :: .ref a :: r) A := by
  obtain ⟨p, l, e, R, s, m, args, below, meth, c, Q, nL, b0, aS, dA, D, n0, s0⟩ := z
  obtain ⟨hx, hb, hml, hown, hts, hK, hstr⟩ := X
  intro H locs ls hR hl
  refine va_last hx hb hK hR.1 (xi_w_D A) hR.2.1 a 1 (xi_w_get ha) rfl hin hd (fun H1 locs1 hP1 _ hS1 => ?_)
  obtain ⟨hR1, hns⟩ := hR.set (y := .inl (1, n, .inr (.inl (vp_updL f i.toNatClampNeg x)))) ha rfl hP1 hS1
  have k1 := kk H1 locs1 ls hR1 hl
  rw [hns, List.length_set] at k1
  exact k1
theorem xs_cast {i : Int32} {x : Int32} {a n : Nat} {f : Nat → Int32} (X : xi_X z cc own) (hd : decode cc pc = .ok (.castore, 1)) (ha : A[a]? = some (.inl (2, n, .inl f))) (hin : vp_in i n) (kk : xi_At z (pc + 1) lv r (A.set a (.inl (2, n, .inl (upd f i.toNatClampNeg (vp_nar .char x)))))) : xi_At z pc lv (.int x :: .int i :: .ref a :: r) A := by
  obtain ⟨p, l, e, R, s, m, args, below, meth, c, Q, nL, b0, aS, dA, D, n0, s0⟩ := z
  obtain ⟨hx, hb, hml, hown, hts, hK, hstr⟩ := X
  intro H locs ls hR hl
  refine va_cast hx hb hK hR.1 (xi_w_D A) hR.2.1 a 2 (xi_w_get ha) rfl hin hd (fun H1 locs1 hP1 _ hS1 => ?_)
  obtain ⟨hR1, hns⟩ := hR.set (y := .inl (2, n, .inl (upd f i.toNatClampNeg (vp_nar .char x)))) ha rfl hP1 hS1
  have k1 := kk H1 locs1 ls hR1 hl
  rw [hns, List.length_set] at k1
  exact k1
theorem xs_zast {i : Int32} {x : Int32} {a n : Nat} {f : Nat → Int32} (X : xi_X z cc own) (hd : decode cc pc = .ok (.bastore, 1)) (ha : A[a]? = some (.inl (3, n, .inl f))) (hin : vp_in i n) (kk : xi_At z (pc + 1) lv r (A.set a (.inl (3, n, .inl (upd f i.toNatClampNeg (vp_nar .boolean x)))))) : xi_At z pc lv (.int x :: .int i :: .ref a :: r) A := by
  obtain ⟨p, l, e, R, s, m, args, below, meth, c, Q, nL, b0, aS, dA, D, n0, s0⟩ := z
  obtain ⟨hx, hb, hml, hown, hts, hK, hstr⟩ := X
  intro H locs ls hR hl
  refine va_zast hx hb hK hR.1 (xi_w_D A) hR.2.1 a 3 (xi_w_get ha) rfl hin hd (fun H1 locs1 hP1 _ hS1 => ?_)
  obtain ⟨hR1, hns⟩ := hR.set (y := .inl (3, n, .inl (upd f i.toNatClampNeg (vp_nar .boolean x)))) ha rfl hP1 hS1
  have k1 := kk H1 locs1 ls hR1 hl
  rw [hns, List.length_set] at k1
  exact k1
theorem xi_up {b0 : Nat} (f : Nat → Option Nat) (j : Nat) (v : Option Nat) : va_up (fun j => (f j).map (fun k => b0 + k)) j (v.map (fun k => b0 + k)) = fun i => ((va_up f j v) i).map (fun k => b0 + k) := by
  funext i
  by_cases h : i = j <;> simp [va_up, h]
theorem xi_rf (b0 : Nat) (aS : Nat → Nat) (o : Option Nat) : va_rf (o.map (fun k => b0 + k)) = xi_v b0 aS (va_rf o) := by cases o <;> rfl
theorem xs_aald {i : Int32} {a n t : Nat} {C : String} {f : Nat → Option Nat} (X : xi_X z cc own) (hd : decode cc pc = .ok (.aaload, 1)) (ha : A[a]? = some (.inl (t, n, .inr (.inr (.inr (.inr f)))))) (hin : vp_in i n) (ht : xi_tyl[t]? = some (.object C)) (kk : xi_At z (pc + 1) lv (va_rf (f i.toNatClampNeg) :: r) A) : xi_At z pc lv (.int i :: .ref a :: r) A := by
  obtain ⟨p, l, e, R, s, m, args, below, meth, c, Q, nL, b0, aS, dA, D, n0, s0⟩ := z
  obtain ⟨hx, hb, hml, hown, hts, hK, hstr⟩ := X
  intro H locs ls hR hl
  refine va_aldq hx hb hK hR.1 a t (xi_w_get ha) (xi_tys_at dA ht) hin hd ?_
  have k1 := kk H locs ls hR hl
  rw [xi_rf b0 aS]
  exact k1
theorem xs_aast {i : Int32} {a n t v ci : Nat} {rr : vw_C} {vs : List Value} {f : Nat → Option Nat} (X : xi_X z cc own) (hd : decode cc pc = .ok (.aastore, 1)) (ha : A[a]? = some (.inl (t, n, .inr (.inr (.inr (.inr f)))))) (hin : vp_in i n) (hv : A[v]? = some (.inr (ci, vs))) (hc : xi_cl[ci]? = some rr) (ht : xi_tyl[t]? = some (.object rr.1)) (kk : xi_At z (pc + 1) lv r (A.set a (.inl (t, n, .inr (.inr (.inr (.inr (va_up f i.toNatClampNeg (some v))))))))) : xi_At z pc lv (.ref v :: .int i :: .ref a :: r) A := by
  obtain ⟨p, l, e, R, s, m, args, below, meth, c, Q, nL, b0, aS, dA, D, n0, s0⟩ := z
  obtain ⟨hx, hb, hml, hown, hts, hK, hstr⟩ := X
  intro H locs ls hR hl
  refine va_astq hx hb hK hR.1 (xi_w_D A) hR.2.1 a t v ci (xi_w_get ha) (xi_tys_at dA ht) (xi_w_get hv) hc hin hd (fun H1 locs1 hP1 _ hS1 => ?_)
  have hP1' : va_P D xi_cl ((xi_w b0 aS dA A).set a (b0 + a, xi_e b0 aS dA (.inl (t, n, .inr (.inr (.inr (.inr (va_up f i.toNatClampNeg (some v)))))))) ) H1 := by
    have := xi_up (b0 := b0) f i.toNatClampNeg (some v)
    simp only [xi_e, xi_q]
    rw [← this]
    exact hP1
  obtain ⟨hR1, hns⟩ := hR.set (y := .inl (t, n, .inr (.inr (.inr (.inr (va_up f i.toNatClampNeg (some v))))))) ha rfl hP1' hS1
  have k1 := kk H1 locs1 ls hR1 hl
  rw [hns, List.length_set] at k1
  exact k1
theorem xs_alen {a t : Nat} {x : vp_A} {ty : FieldType} (X : xi_X z cc own) (hd : decode cc pc = .ok (.arraylength, 1)) (ha : A[a]? = some (.inl (t, x))) (ht : xi_tyl[t]? = some ty) (kk : xi_At z (pc + 1) lv (.int (Int32.ofNat x.1) :: r) A) : xi_At z pc lv (.ref a :: r) A := by
  obtain ⟨p, l, e, R, s, m, args, below, meth, c, Q, nL, b0, aS, dA, D, n0, s0⟩ := z
  obtain ⟨hx, hb, hml, hown, hts, hK, hstr⟩ := X
  intro H locs ls hR hl
  refine va_alen hx hb hK hR.1 a t (xi_w_get ha) (xi_tys_at dA ht) (v := Int32.ofNat x.1) ?_ hd (kk H locs ls hR hl)
  obtain ⟨n, f | f | f | f | f⟩ := x <;> rfl
theorem xs_get {a ci k i : Nat} {C : String} {T : u_T} {N : Nat} {fs : List Value} {v : Value} (X : xi_X z cc own) (hd : decode cc pc = .ok (.getfield i, 3)) (ha : A[a]? = some (.inr (ci, fs))) (hc : xi_cl[ci]? = some (C, T, N)) (hk : k < N) (hw : Cond.fieldLink own i (T k).1 (T k).2.1 (T k).2.2.1 ∈ xi_G) (hv : fs[k]? = some v) (kk : xi_At z (pc + 3) lv (v :: r) A) : xi_At z pc lv (.ref a :: r) A := by
  obtain ⟨p, l, e, R, s, m, args, below, meth, c, Q, nL, b0, aS, dA, D, n0, s0⟩ := z
  obtain ⟨hx, hb, hml, hown, hts, hK, hstr⟩ := X
  intro H locs ls hR hl
  exact va_get hx hb hts (xi_in hc) hown hK hR.1 a (xi_w_get ha) hc k hk (hts _ hw) (fun _ h => h) (v := xi_v b0 aS v) (by simp [hv]) hd (kk H locs ls hR hl)
theorem xi_nar {b0 : Nat} {aS : Nat → Nat} {ty : FieldType} {v : Value} (h : narrow ty v = v) : narrow ty (xi_v b0 aS v) = xi_v b0 aS v := by
  cases v <;> first | exact h | (cases ty <;> rfl)
theorem xi_fit {b0 : Nat} {aS : Nat → Nat} {ty : FieldType} {v : Value} (h : fits ty v = true) : fits ty (xi_v b0 aS v) = true := by
  cases v <;> first | exact h | (cases ty <;> first | rfl | cases h)
theorem xs_put {a ci k i : Nat} {C : String} {T : u_T} {N : Nat} {fs : List Value} {v : Value} (X : xi_X z cc own) (hd : decode cc pc = .ok (.putfield i, 3)) (ha : A[a]? = some (.inr (ci, fs))) (hc : xi_cl[ci]? = some (C, T, N)) (hk : k < N) (hw : Cond.fieldLink own i (T k).1 (T k).2.1 (T k).2.2.1 ∈ xi_G) (hfin : (T k).2.2.2 = false) (hn : narrow (xi_ty ci k) v = v) (hf : fits (xi_ty ci k) v = true) (hl0 : k < fs.length) (kk : xi_At z (pc + 3) lv r (A.set a (.inr (ci, fs.set k v)))) : xi_At z pc lv (v :: .ref a :: r) A := by
  obtain ⟨p, l, e, R, s, m, args, below, meth, c, Q, nL, b0, aS, dA, D, n0, s0⟩ := z
  obtain ⟨hx, hb, hml, hown, hts, hK, hstr⟩ := X
  intro H locs ls hR hl
  refine va_put hx hb hts (xi_in hc) (xi_ty ci) (fun j hj => xi_ty_ok hc hj) (xi_nm hc) hown hK hR.1 (xi_w_D A) hR.2.1 a (xi_w_get ha) hc k hk (hts _ hw) (fun _ h => h) hfin (xi_ty_ok hc hk) (xi_nar hn) (xi_fit hf) (by simp [hl0]) hd (fun H1 locs1 hP1 _ hS1 => ?_)
  rw [← List.map_set] at hP1
  obtain ⟨hR1, hns⟩ := hR.set (y := .inr (ci, fs.set k v)) ha (by simp [xi_n]) hP1 hS1
  have k1 := kk H1 locs1 ls hR1 hl
  rw [hns, List.length_set] at k1
  exact k1
theorem xs_putF {a ci k i : Nat} {C : String} {T : u_T} {N : Nat} {fs : List Value} {v : Value} (X : xi_X z cc own) (hin2 : z.2.2.2.2.2.2.2.2.1.name = "<init>") (hd : decode cc pc = .ok (.putfield i, 3)) (ha : A[a]? = some (.inr (ci, fs))) (hc : xi_cl[ci]? = some (C, T, N)) (hk : k < N) (hw : Cond.fieldLink own i (T k).1 (T k).2.1 (T k).2.2.1 ∈ xi_G) (hfin : (T k).2.2.2 = true) (hdecl : (T k).1 = own) (hn : narrow (xi_ty ci k) v = v) (hf : fits (xi_ty ci k) v = true) (hl0 : k < fs.length) (kk : xi_At z (pc + 3) lv r (A.set a (.inr (ci, fs.set k v)))) : xi_At z pc lv (v :: .ref a :: r) A := by
  obtain ⟨p, l, e, R, s, m, args, below, meth, c, Q, nL, b0, aS, dA, D, n0, s0⟩ := z
  obtain ⟨hx, hb, hml, hown, hts, hK, hstr⟩ := X
  intro H locs ls hR hl
  refine va_putF hx hb hts (xi_in hc) (xi_ty ci) (fun j hj => xi_ty_ok hc hj) (xi_nm hc) hown hK hR.1 (xi_w_D A) hR.2.1 a (xi_w_get ha) hc k hk (hts _ hw) (fun _ h => h) hfin hin2 hdecl (xi_ty_ok hc hk) (xi_nar hn) (xi_fit hf) (by simp [hl0]) hd (fun H1 locs1 hP1 _ hS1 => ?_)
  rw [← List.map_set] at hP1
  obtain ⟨hR1, hns⟩ := hR.set (y := .inr (ci, fs.set k v)) ha (by simp [xi_n]) hP1 hS1
  have k1 := kk H1 locs1 ls hR1 hl
  rw [hns, List.length_set] at k1
  exact k1
theorem xi_R.push {b0 : Nat} {aS : Nat → Nat} {dA : Nat → ClassId} {D : va_G} {n0 s0 : Nat} {Hs H H1 : Heap} {locs : List Loc} {x : xi_E} (hR : xi_R b0 aS dA D n0 s0 Hs A H locs) (hP : va_P D xi_cl (xi_w b0 aS dA A ++ [(b0 + A.length, xi_e b0 aS dA x)]) H1) (hS : va_S (fun q => b0 ≤ q) Hs H1 locs) :
    xi_R b0 aS dA D n0 s0 Hs (A ++ [x]) H1 locs ∧ (A ++ [x]).length - n0 = A.length - n0 + 1 ∧ xi_ns (A ++ [x]) - s0 = xi_ns A - s0 + xi_n x := by
  have h1 := hR.2.2.1
  have h2 := hR.2.2.2.1
  refine ⟨⟨xi_w_push ▸ hP, hS, by simp; omega, by rw [xi_ns_push]; omega, hR.2.2.2.2⟩, by simp; omega, by rw [xi_ns_push]; omega⟩
theorem xs_new {ci i : Nat} {C : String} {T : u_T} {N : Nat} (X : xi_X z cc own) (hd : decode cc pc = .ok (.new i, 3)) (hc : xi_cl[ci]? = some (C, T, N)) (hw1 : Cond.classLink own i C ∈ xi_G) (hw2 : Cond.instantiable C N ∈ xi_G) (hw3 : Cond.initialized C ∈ xi_G) (hdl : (xi_df ci).length = N)
    (hE1 : (A ++ [(.inr (ci, xi_df ci) : xi_E)]).length - z.2.2.2.2.2.2.2.2.2.2.2.2.2.2.2.2.1 ≤ z.2.2.2.1.cells) (hE2 : xi_ns (A ++ [(.inr (ci, xi_df ci) : xi_E)]) - z.2.2.2.2.2.2.2.2.2.2.2.2.2.2.2.2.2 ≤ z.2.2.2.1.slots) (kk : xi_At z (pc + 3) lv (.ref A.length :: r) (A ++ [.inr (ci, xi_df ci)])) : xi_At z pc lv r A := by
  obtain ⟨p, l, e, R, s, m, args, below, meth, c, Q, nL, b0, aS, dA, D, n0, s0⟩ := z
  obtain ⟨hx, hb, hml, hown, hts, hK, hstr⟩ := X
  intro H locs ls hR hl
  have hA : ∀ q : Nat, s.heap.size ≤ q → b0 ≤ q := fun q h => by have := hR.2.2.2.2.1; omega
  obtain ⟨h1, h2⟩ := And.intro hR.2.2.1 hR.2.2.2.1
  have hdn : xi_n (.inr (ci, xi_df ci)) = N := hdl
  simp only [List.length_append, List.length_singleton] at hE1
  rw [xi_ns_push, hdn] at hE2
  refine va_new (ci := ci) (fs := (xi_df ci).map (xi_v b0 aS)) hx hb hts (xi_in hc) (xi_ty ci) (fun j hj => xi_ty_ok hc hj) hown (hts _ hw1) (hts _ hw2) (hts _ hw3) hK hR.1 (xi_w_D A) hR.2.1 hA hc (fun j hj => xi_df_ok b0 aS hc hj) (by show A.length - n0 + 1 ≤ R.cells; have : A.length + 1 - n0 ≤ R.cells := hE1; omega) (by show xi_ns A - s0 + N ≤ R.slots; have : xi_ns A + N - s0 ≤ R.slots := hE2; omega) hd (fun q H1 hP1 hD1 hS1 => ?_)
  intro T0 hT0 X1
  have hq : q = b0 + A.length := xi_fresh hP1 hD1 h1 hR.2.2.2.2.1 (by rw [← hT0]; exact X1.heapSize)
  subst hq
  obtain ⟨hR1, e1, e2⟩ := hR.push (x := .inr (ci, xi_df ci)) hP1 hS1
  have k1 := kk H1 locs ls hR1 hl
  rw [e1, e2, hdn] at k1
  exact k1 T0 hT0 X1
theorem xs_newa_int {n : Int32} (X : xi_X z cc own) (hd : decode cc pc = .ok (.newarray .int, 2)) (hw : Cond.arrayClass .int ∈ xi_G) (hn : ¬ n < 0) (hby : n.toNatClampNeg * componentBytes .int ≤ 536870912)
    (hE1 : (A ++ [(.inl (0, (n.toNatClampNeg, .inl (fun _ => 0))) : xi_E)]).length - z.2.2.2.2.2.2.2.2.2.2.2.2.2.2.2.2.1 ≤ z.2.2.2.1.cells) (hE2 : xi_ns (A ++ [(.inl (0, (n.toNatClampNeg, .inl (fun _ => 0))) : xi_E)]) - z.2.2.2.2.2.2.2.2.2.2.2.2.2.2.2.2.2 ≤ z.2.2.2.1.slots) (kk : xi_At z (pc + 2) lv (.ref A.length :: r) (A ++ [.inl (0, (n.toNatClampNeg, .inl (fun _ => 0)))])) : xi_At z pc lv (.int n :: r) A := by
  obtain ⟨p, l, e, R, s, m, args, below, meth, c, Q, nL, b0, aS, dA, D, n0, s0⟩ := z
  obtain ⟨hx, hb, hml, hown, hts, hK, hstr⟩ := X
  intro H locs ls hR hl
  have hA : ∀ q : Nat, s.heap.size ≤ q → b0 ≤ q := fun q h => by have := hR.2.2.2.2.1; omega
  obtain ⟨h1, h2⟩ := And.intro hR.2.2.1 hR.2.2.2.1
  have hdn : xi_n (.inl (0, (n.toNatClampNeg, .inl (fun _ => 0)))) = n.toNatClampNeg := rfl
  simp only [List.length_append, List.length_singleton] at hE1
  rw [xi_ns_push, hdn] at hE2
  refine va_newa (atype := .int) (N' := n.toNatClampNeg) (a0 := (n.toNatClampNeg, .inl (fun _ => 0))) (ty := .int) hx hb (hts _ hw) rfl hK hR.1 (xi_w_D A) hR.2.1 hA (fun _ => rfl) hn rfl hby (by show A.length - n0 + 1 ≤ R.cells; have : A.length + 1 - n0 ≤ R.cells := hE1; omega) (by show xi_ns A - s0 + n.toNatClampNeg ≤ R.slots; have : xi_ns A + n.toNatClampNeg - s0 ≤ R.slots := hE2; omega) hd (fun q cA H1 hK1 hP1 hD1 hS1 => ?_)
  have hcA : cA = dA 0 := by
    have g1 := (hK1.2 (xi_tys dA).length (cA, .int) (by simp)).2
    have g2 := (hK.2 0 (dA 0, .int) rfl).2
    exact Option.some.inj (g1.symm.trans g2)
  subst hcA
  intro T0 hT0 X1
  have hq : q = b0 + A.length := xi_fresh hP1 hD1 h1 hR.2.2.2.2.1 (by rw [← hT0]; exact X1.heapSize)
  subst hq
  obtain ⟨hR1, e1, e2⟩ := hR.push (x := .inl (0, (n.toNatClampNeg, .inl (fun _ => 0)))) hP1 hS1
  have k1 := kk H1 locs ls hR1 hl
  rw [e1, e2, hdn] at k1
  exact k1 T0 hT0 X1
theorem xs_newa_long {n : Int32} (X : xi_X z cc own) (hd : decode cc pc = .ok (.newarray .long, 2)) (hw : Cond.arrayClass .long ∈ xi_G) (hn : ¬ n < 0) (hby : n.toNatClampNeg * componentBytes .long ≤ 536870912)
    (hE1 : (A ++ [(.inl (1, (n.toNatClampNeg, .inr (.inl (fun _ => 0)))) : xi_E)]).length - z.2.2.2.2.2.2.2.2.2.2.2.2.2.2.2.2.1 ≤ z.2.2.2.1.cells) (hE2 : xi_ns (A ++ [(.inl (1, (n.toNatClampNeg, .inr (.inl (fun _ => 0)))) : xi_E)]) - z.2.2.2.2.2.2.2.2.2.2.2.2.2.2.2.2.2 ≤ z.2.2.2.1.slots) (kk : xi_At z (pc + 2) lv (.ref A.length :: r) (A ++ [.inl (1, (n.toNatClampNeg, .inr (.inl (fun _ => 0))))])) : xi_At z pc lv (.int n :: r) A := by
  obtain ⟨p, l, e, R, s, m, args, below, meth, c, Q, nL, b0, aS, dA, D, n0, s0⟩ := z
  obtain ⟨hx, hb, hml, hown, hts, hK, hstr⟩ := X
  intro H locs ls hR hl
  have hA : ∀ q : Nat, s.heap.size ≤ q → b0 ≤ q := fun q h => by have := hR.2.2.2.2.1; omega
  obtain ⟨h1, h2⟩ := And.intro hR.2.2.1 hR.2.2.2.1
  have hdn : xi_n (.inl (1, (n.toNatClampNeg, .inr (.inl (fun _ => 0))))) = n.toNatClampNeg := rfl
  simp only [List.length_append, List.length_singleton] at hE1
  rw [xi_ns_push, hdn] at hE2
  refine va_newa (atype := .long) (N' := n.toNatClampNeg) (a0 := (n.toNatClampNeg, .inr (.inl (fun _ => 0)))) (ty := .long) hx hb (hts _ hw) rfl hK hR.1 (xi_w_D A) hR.2.1 hA (fun _ => rfl) hn rfl hby (by show A.length - n0 + 1 ≤ R.cells; have : A.length + 1 - n0 ≤ R.cells := hE1; omega) (by show xi_ns A - s0 + n.toNatClampNeg ≤ R.slots; have : xi_ns A + n.toNatClampNeg - s0 ≤ R.slots := hE2; omega) hd (fun q cA H1 hK1 hP1 hD1 hS1 => ?_)
  have hcA : cA = dA 1 := by
    have g1 := (hK1.2 (xi_tys dA).length (cA, .long) (by simp)).2
    have g2 := (hK.2 1 (dA 1, .long) rfl).2
    exact Option.some.inj (g1.symm.trans g2)
  subst hcA
  intro T0 hT0 X1
  have hq : q = b0 + A.length := xi_fresh hP1 hD1 h1 hR.2.2.2.2.1 (by rw [← hT0]; exact X1.heapSize)
  subst hq
  obtain ⟨hR1, e1, e2⟩ := hR.push (x := .inl (1, (n.toNatClampNeg, .inr (.inl (fun _ => 0))))) hP1 hS1
  have k1 := kk H1 locs ls hR1 hl
  rw [e1, e2, hdn] at k1
  exact k1 T0 hT0 X1
theorem xs_newa_char {n : Int32} (X : xi_X z cc own) (hd : decode cc pc = .ok (.newarray .char, 2)) (hw : Cond.arrayClass .char ∈ xi_G) (hn : ¬ n < 0) (hby : n.toNatClampNeg * componentBytes .char ≤ 536870912)
    (hE1 : (A ++ [(.inl (2, (n.toNatClampNeg, .inl (fun _ => 0))) : xi_E)]).length - z.2.2.2.2.2.2.2.2.2.2.2.2.2.2.2.2.1 ≤ z.2.2.2.1.cells) (hE2 : xi_ns (A ++ [(.inl (2, (n.toNatClampNeg, .inl (fun _ => 0))) : xi_E)]) - z.2.2.2.2.2.2.2.2.2.2.2.2.2.2.2.2.2 ≤ z.2.2.2.1.slots) (kk : xi_At z (pc + 2) lv (.ref A.length :: r) (A ++ [.inl (2, (n.toNatClampNeg, .inl (fun _ => 0)))])) : xi_At z pc lv (.int n :: r) A := by
  obtain ⟨p, l, e, R, s, m, args, below, meth, c, Q, nL, b0, aS, dA, D, n0, s0⟩ := z
  obtain ⟨hx, hb, hml, hown, hts, hK, hstr⟩ := X
  intro H locs ls hR hl
  have hA : ∀ q : Nat, s.heap.size ≤ q → b0 ≤ q := fun q h => by have := hR.2.2.2.2.1; omega
  obtain ⟨h1, h2⟩ := And.intro hR.2.2.1 hR.2.2.2.1
  have hdn : xi_n (.inl (2, (n.toNatClampNeg, .inl (fun _ => 0)))) = n.toNatClampNeg := rfl
  simp only [List.length_append, List.length_singleton] at hE1
  rw [xi_ns_push, hdn] at hE2
  refine va_newa (atype := .char) (N' := n.toNatClampNeg) (a0 := (n.toNatClampNeg, .inl (fun _ => 0))) (ty := .char) hx hb (hts _ hw) rfl hK hR.1 (xi_w_D A) hR.2.1 hA (fun _ => rfl) hn rfl hby (by show A.length - n0 + 1 ≤ R.cells; have : A.length + 1 - n0 ≤ R.cells := hE1; omega) (by show xi_ns A - s0 + n.toNatClampNeg ≤ R.slots; have : xi_ns A + n.toNatClampNeg - s0 ≤ R.slots := hE2; omega) hd (fun q cA H1 hK1 hP1 hD1 hS1 => ?_)
  have hcA : cA = dA 2 := by
    have g1 := (hK1.2 (xi_tys dA).length (cA, .char) (by simp)).2
    have g2 := (hK.2 2 (dA 2, .char) rfl).2
    exact Option.some.inj (g1.symm.trans g2)
  subst hcA
  intro T0 hT0 X1
  have hq : q = b0 + A.length := xi_fresh hP1 hD1 h1 hR.2.2.2.2.1 (by rw [← hT0]; exact X1.heapSize)
  subst hq
  obtain ⟨hR1, e1, e2⟩ := hR.push (x := .inl (2, (n.toNatClampNeg, .inl (fun _ => 0)))) hP1 hS1
  have k1 := kk H1 locs ls hR1 hl
  rw [e1, e2, hdn] at k1
  exact k1 T0 hT0 X1
theorem xs_newa_boolean {n : Int32} (X : xi_X z cc own) (hd : decode cc pc = .ok (.newarray .boolean, 2)) (hw : Cond.arrayClass .boolean ∈ xi_G) (hn : ¬ n < 0) (hby : n.toNatClampNeg * componentBytes .boolean ≤ 536870912)
    (hE1 : (A ++ [(.inl (3, (n.toNatClampNeg, .inl (fun _ => 0))) : xi_E)]).length - z.2.2.2.2.2.2.2.2.2.2.2.2.2.2.2.2.1 ≤ z.2.2.2.1.cells) (hE2 : xi_ns (A ++ [(.inl (3, (n.toNatClampNeg, .inl (fun _ => 0))) : xi_E)]) - z.2.2.2.2.2.2.2.2.2.2.2.2.2.2.2.2.2 ≤ z.2.2.2.1.slots) (kk : xi_At z (pc + 2) lv (.ref A.length :: r) (A ++ [.inl (3, (n.toNatClampNeg, .inl (fun _ => 0)))])) : xi_At z pc lv (.int n :: r) A := by
  obtain ⟨p, l, e, R, s, m, args, below, meth, c, Q, nL, b0, aS, dA, D, n0, s0⟩ := z
  obtain ⟨hx, hb, hml, hown, hts, hK, hstr⟩ := X
  intro H locs ls hR hl
  have hA : ∀ q : Nat, s.heap.size ≤ q → b0 ≤ q := fun q h => by have := hR.2.2.2.2.1; omega
  obtain ⟨h1, h2⟩ := And.intro hR.2.2.1 hR.2.2.2.1
  have hdn : xi_n (.inl (3, (n.toNatClampNeg, .inl (fun _ => 0)))) = n.toNatClampNeg := rfl
  simp only [List.length_append, List.length_singleton] at hE1
  rw [xi_ns_push, hdn] at hE2
  refine va_newa (atype := .boolean) (N' := n.toNatClampNeg) (a0 := (n.toNatClampNeg, .inl (fun _ => 0))) (ty := .boolean) hx hb (hts _ hw) rfl hK hR.1 (xi_w_D A) hR.2.1 hA (fun _ => rfl) hn rfl hby (by show A.length - n0 + 1 ≤ R.cells; have : A.length + 1 - n0 ≤ R.cells := hE1; omega) (by show xi_ns A - s0 + n.toNatClampNeg ≤ R.slots; have : xi_ns A + n.toNatClampNeg - s0 ≤ R.slots := hE2; omega) hd (fun q cA H1 hK1 hP1 hD1 hS1 => ?_)
  have hcA : cA = dA 3 := by
    have g1 := (hK1.2 (xi_tys dA).length (cA, .boolean) (by simp)).2
    have g2 := (hK.2 3 (dA 3, .boolean) rfl).2
    exact Option.some.inj (g1.symm.trans g2)
  subst hcA
  intro T0 hT0 X1
  have hq : q = b0 + A.length := xi_fresh hP1 hD1 h1 hR.2.2.2.2.1 (by rw [← hT0]; exact X1.heapSize)
  subst hq
  obtain ⟨hR1, e1, e2⟩ := hR.push (x := .inl (3, (n.toNatClampNeg, .inl (fun _ => 0)))) hP1 hS1
  have k1 := kk H1 locs ls hR1 hl
  rw [e1, e2, hdn] at k1
  exact k1 T0 hT0 X1
theorem xs_anew {n : Int32} {t i : Nat} {C : String} (X : xi_X z cc own) (hd : decode cc pc = .ok (.anewarray i, 3)) (ht : xi_tyl[t]? = some (.object C)) (hw : Cond.classLink own i C ∈ xi_G) (hw2 : C ∈ xi_ao) (hn : ¬ n < 0) (hby : n.toNatClampNeg * 4 ≤ 536870912)
    (hE1 : (A ++ [(.inl (t, n.toNatClampNeg, .inr (.inr (.inr (.inr (fun _ => none))))) : xi_E)]).length - z.2.2.2.2.2.2.2.2.2.2.2.2.2.2.2.2.1 ≤ z.2.2.2.1.cells) (hE2 : xi_ns (A ++ [(.inl (t, n.toNatClampNeg, .inr (.inr (.inr (.inr (fun _ => none))))) : xi_E)]) - z.2.2.2.2.2.2.2.2.2.2.2.2.2.2.2.2.2 ≤ z.2.2.2.1.slots) (kk : xi_At z (pc + 3) lv (.ref A.length :: r) (A ++ [.inl (t, n.toNatClampNeg, .inr (.inr (.inr (.inr (fun _ => none)))))])) : xi_At z pc lv (.int n :: r) A := by
  obtain ⟨p, l, e, R, s, m, args, below, meth, c, Q, nL, b0, aS, dA, D, n0, s0⟩ := z
  obtain ⟨hx, hb, hml, hown, hts, hK, hstr⟩ := X
  intro H locs ls hR hl
  have hA : ∀ q : Nat, s.heap.size ≤ q → b0 ≤ q := fun q h => by have := hR.2.2.2.2.1; omega
  obtain ⟨h1, h2⟩ := And.intro hR.2.2.1 hR.2.2.2.1
  have hdn : xi_n (.inl (t, n.toNatClampNeg, .inr (.inr (.inr (.inr (fun _ => none)))))) = n.toNatClampNeg := rfl
  simp only [List.length_append, List.length_singleton] at hE1
  rw [xi_ns_push, hdn] at hE2
  refine va_newq (N' := n.toNatClampNeg) hx hb hown (hts _ hw) (hstr.2.2.1 C hw2) hK hR.1 (xi_w_D A) hR.2.1 hA hn rfl hby (by show A.length - n0 + 1 ≤ R.cells; have : A.length + 1 - n0 ≤ R.cells := hE1; omega) (by show xi_ns A - s0 + n.toNatClampNeg ≤ R.slots; have : xi_ns A + n.toNatClampNeg - s0 ≤ R.slots := hE2; omega) hd (fun q cA H1 hK1 hP1 hD1 hS1 => ?_)
  have hcA : cA = dA t := by
    obtain ⟨_, _, -, -, -, g1⟩ := (hK1.2 (xi_tys dA).length (cA, .object C) (by simp)).2
    obtain ⟨_, _, -, -, -, g2⟩ := (hK.2 t (dA t, .object C) (xi_tys_at dA ht)).2
    exact Option.some.inj (g1.symm.trans g2)
  subst hcA
  intro T0 hT0 X1
  have hq : q = b0 + A.length := xi_fresh hP1 hD1 h1 hR.2.2.2.2.1 (by rw [← hT0]; exact X1.heapSize)
  subst hq
  obtain ⟨hR1, e1, e2⟩ := hR.push (x := .inl (t, n.toNatClampNeg, .inr (.inr (.inr (.inr (fun _ => none)))))) hP1 hS1
  have k1 := kk H1 locs ls hR1 hl
  rw [e1, e2, hdn] at k1
  exact k1 T0 hT0 X1
end XS
end
section
/-- a step within a method: no call, no return -/
def xi_s (nL : Nat) (I : Instr) (nx : Nat) (aux : List Nat) (lv : xi_L) (st : List Value) (A : xi_H) : Option (Nat × xi_L × List Value × xi_H) := match I with
  | .iconst n => some (nx, lv, .int (Int32.ofInt n) :: st, A)
  | .bipush n => some (nx, lv, .int (Int8.ofInt n).toInt32 :: st, A)
  | .sipush n => some (nx, lv, .int (Int16.ofInt n).toInt32 :: st, A)
  | .lconst n => some (nx, lv, .long (Int64.ofNat (n : Nat)) :: st, A)
  | .aconst_null => some (nx, lv, .null :: st, A)
  | .iadd => match st with
    | .int y :: .int x :: r => some (nx, lv, .int (x + y) :: r, A)
    | _ => none
  | .isub => match st with
    | .int y :: .int x :: r => some (nx, lv, .int (x - y) :: r, A)
    | _ => none
  | .imul => match st with
    | .int y :: .int x :: r => some (nx, lv, .int (x * y) :: r, A)
    | _ => none
  | .iand => match st with
    | .int y :: .int x :: r => some (nx, lv, .int (x &&& y) :: r, A)
    | _ => none
  | .ior => match st with
    | .int y :: .int x :: r => some (nx, lv, .int (x ||| y) :: r, A)
    | _ => none
  | .ixor => match st with
    | .int y :: .int x :: r => some (nx, lv, .int (x ^^^ y) :: r, A)
    | _ => none
  | .ishl => match st with
    | .int y :: .int x :: r => some (nx, lv, .int (x <<< (y &&& 31)) :: r, A)
    | _ => none
  | .ishr => match st with
    | .int y :: .int x :: r => some (nx, lv, .int (x >>> (y &&& 31)) :: r, A)
    | _ => none
  | .iushr => match st with
    | .int y :: .int x :: r => some (nx, lv, .int ((x.toUInt32 >>> (y.toUInt32 &&& Int32.toUInt32 31)).toInt32) :: r, A)
    | _ => none
  | .idiv => match st with
    | .int y :: .int x :: r => if y = 0 then none else some (nx, lv, .int (x / y) :: r, A)
    | _ => none
  | .irem => match st with
    | .int y :: .int x :: r => if y = 0 then none else some (nx, lv, .int (x - x / y * y) :: r, A)
    | _ => none
  | .ineg => match st with
    | .int x :: r => some (nx, lv, .int (-x) :: r, A)
    | _ => none
  | .ladd => match st with
    | .long y :: .long x :: r => some (nx, lv, .long (x + y) :: r, A)
    | _ => none
  | .lsub => match st with
    | .long y :: .long x :: r => some (nx, lv, .long (x - y) :: r, A)
    | _ => none
  | .lmul => match st with
    | .long y :: .long x :: r => some (nx, lv, .long (x * y) :: r, A)
    | _ => none
  | .land => match st with
    | .long y :: .long x :: r => some (nx, lv, .long (x &&& y) :: r, A)
    | _ => none
  | .lor => match st with
    | .long y :: .long x :: r => some (nx, lv, .long (x ||| y) :: r, A)
    | _ => none
  | .lxor => match st with
    | .long y :: .long x :: r => some (nx, lv, .long (x ^^^ y) :: r, A)
    | _ => none
  | .ldiv => match st with
    | .long y :: .long x :: r => if y = 0 then none else some (nx, lv, .long (x / y) :: r, A)
    | _ => none
  | .lrem => match st with
    | .long y :: .long x :: r => if y = 0 then none else some (nx, lv, .long (x - x / y * y) :: r, A)
    | _ => none
  | .lshl => match st with
    | .int y :: .long x :: r => some (nx, lv, .long (x <<< (y.toInt64 &&& 63)) :: r, A)
    | _ => none
  | .lshr => match st with
    | .int y :: .long x :: r => some (nx, lv, .long (x >>> (y.toInt64 &&& 63)) :: r, A)
    | _ => none
  | .lushr => match st with
    | .int y :: .long x :: r => some (nx, lv, .long ((x.toUInt64 >>> (y.toInt64.toUInt64 &&& Int64.toUInt64 63)).toInt64) :: r, A)
    | _ => none
  | .i2l => match st with
    | .int x :: r => some (nx, lv, .long x.toInt64 :: r, A)
    | _ => none
  | .l2i => match st with
    | .long x :: r => some (nx, lv, .int x.toInt32 :: r, A)
    | _ => none
  | .i2c => match st with
    | .int x :: r => some (nx, lv, .int ((x.toUInt32 % 65536).toInt32) :: r, A)
    | _ => none
  | .lcmp => match st with
    | .long y :: .long x :: r => some (nx, lv, .int (lg_cmp x y) :: r, A)
    | _ => none
  | .dup => match st with
    | va :: r => if va.category = 1 then some (nx, lv, va :: va :: r, A) else none
    | _ => none
  | .pop => match st with
    | va :: r => if va.category = 1 then some (nx, lv, r, A) else none
    | _ => none
  | .dup_x1 => match st with
    | va :: vb :: r => if va.category = 1 ∧ vb.category = 1 then some (nx, lv, va :: vb :: va :: r, A) else none
    | _ => none
  | .dup_x2 => match st with
    | va :: vb :: vd :: r => if va.category = 1 ∧ vb.category = 1 ∧ vd.category = 1 then some (nx, lv, va :: vb :: vd :: va :: r, A) else none
    | _ => none
  | .dup2 => match st with
    | va :: vb :: r => if va.category = 1 ∧ vb.category = 1 then some (nx, lv, va :: vb :: va :: vb :: r, A) else if va.category = 2 then some (nx, lv, va :: va :: vb :: r, A) else none
    | [va] => if va.category = 2 then some (nx, lv, [va, va], A) else none
    | _ => none
  | .iload_n k => match xi_get lv k.val with
    | some (.int x) => some (nx, lv, .int x :: st, A)
    | _ => none
  | .iload i => match xi_get lv i with
    | some (.int x) => some (nx, lv, .int x :: st, A)
    | _ => none
  | .lload_n k => match xi_get lv k.val with
    | some (.long x) => some (nx, lv, .long x :: st, A)
    | _ => none
  | .lload i => match xi_get lv i with
    | some (.long x) => some (nx, lv, .long x :: st, A)
    | _ => none
  | .aload_n k => match xi_get lv k.val with
    | some v => if xi_isr v = true then some (nx, lv, v :: st, A) else none
    | _ => none
  | .aload i => match xi_get lv i with
    | some v => if xi_isr v = true then some (nx, lv, v :: st, A) else none
    | _ => none
  | .istore_n k => match st with
    | .int x :: r => if k.val < nL then some (nx, xi_put1 lv k.val (.int x), r, A) else none
    | _ => none
  | .istore i => match st with
    | .int x :: r => if i < nL then some (nx, xi_put1 lv i (.int x), r, A) else none
    | _ => none
  | .lstore_n k => match st with
    | .long x :: r => if k.val + 1 < nL then some (nx, xi_put2 lv k.val (.long x), r, A) else none
    | _ => none
  | .lstore i => match st with
    | .long x :: r => if i + 1 < nL then some (nx, xi_put2 lv i (.long x), r, A) else none
    | _ => none
  | .astore_n k => match st with
    | .ref x :: r => if k.val < nL then some (nx, xi_put1 lv k.val (.ref x), r, A) else none
    | _ => none
  | .astore i => match st with
    | .ref x :: r => if i < nL then some (nx, xi_put1 lv i (.ref x), r, A) else none
    | _ => none
  | .iinc i n => match xi_get lv i with
    | some (.int x) => if i < nL then some (nx, xi_put1 lv i (.int (x + Int32.ofInt n)), st, A) else none
    | _ => none
  | .ifCond .eq _ => match st, aux with
    | .int x :: r, [tgt] => some (if x = 0 then tgt else nx, lv, r, A)
    | _, _ => none
  | .ifCond .ne _ => match st, aux with
    | .int x :: r, [tgt] => some (if ¬ x = 0 then tgt else nx, lv, r, A)
    | _, _ => none
  | .ifCond .lt _ => match st, aux with
    | .int x :: r, [tgt] => some (if x < 0 then tgt else nx, lv, r, A)
    | _, _ => none
  | .ifCond .ge _ => match st, aux with
    | .int x :: r, [tgt] => some (if 0 ≤ x then tgt else nx, lv, r, A)
    | _, _ => none
  | .ifCond .gt _ => match st, aux with
    | .int x :: r, [tgt] => some (if 0 < x then tgt else nx, lv, r, A)
    | _, _ => none
  | .ifCond .le _ => match st, aux with
    | .int x :: r, [tgt] => some (if x ≤ 0 then tgt else nx, lv, r, A)
    | _, _ => none
  | .if_icmp .eq _ => match st, aux with
    | .int y :: .int x :: r, [tgt] => some (if x = y then tgt else nx, lv, r, A)
    | _, _ => none
  | .if_icmp .ne _ => match st, aux with
    | .int y :: .int x :: r, [tgt] => some (if ¬ x = y then tgt else nx, lv, r, A)
    | _, _ => none
  | .if_icmp .lt _ => match st, aux with
    | .int y :: .int x :: r, [tgt] => some (if x < y then tgt else nx, lv, r, A)
    | _, _ => none
  | .if_icmp .ge _ => match st, aux with
    | .int y :: .int x :: r, [tgt] => some (if y ≤ x then tgt else nx, lv, r, A)
    | _, _ => none
  | .if_icmp .gt _ => match st, aux with
    | .int y :: .int x :: r, [tgt] => some (if y < x then tgt else nx, lv, r, A)
    | _, _ => none
  | .if_icmp .le _ => match st, aux with
    | .int y :: .int x :: r, [tgt] => some (if x ≤ y then tgt else nx, lv, r, A)
    | _, _ => none
  | .goto _ => match aux with
    | [tgt] => some (tgt, lv, st, A)
    | _ => none
  | .ldc _ => match aux with
    | [0, v, _] => some (nx, lv, .int (Int32.ofNat v) :: st, A)
    | [1, j] => some (nx, lv, .retAddr j :: st, A)
    | _ => none
  | .ldc_w _ => match aux with
    | [0, v, _] => some (nx, lv, .int (Int32.ofNat v) :: st, A)
    | _ => none
  | .ldc2_w _ => match aux with
    | [v, _] => some (nx, lv, .long (Int64.ofNat v) :: st, A)
    | _ => none
  | .iaload => match st with
    | .int i :: .ref a :: r => match A[a]? with
      | some (.inl (0, n, .inl f)) => if i < 0 ∨ n ≤ i.toNatClampNeg then none else some (nx, lv, .int (f i.toNatClampNeg) :: r, A)
      | _ => none
    | _ => none
  | .laload => match st with
    | .int i :: .ref a :: r => match A[a]? with
      | some (.inl (1, n, .inr (.inl f))) => if i < 0 ∨ n ≤ i.toNatClampNeg then none else some (nx, lv, .long (f i.toNatClampNeg) :: r, A)
      | _ => none
    | _ => none
  | .caload => match st with
    | .int i :: .ref a :: r => match A[a]? with
      | some (.inl (2, n, .inl f)) => if i < 0 ∨ n ≤ i.toNatClampNeg then none else some (nx, lv, .int (f i.toNatClampNeg) :: r, A)
      | _ => none
    | _ => none
  | .baload => match st with
    | .int i :: .ref a :: r => match A[a]? with
      | some (.inl (3, n, .inl f)) => if i < 0 ∨ n ≤ i.toNatClampNeg then none else some (nx, lv, .int (f i.toNatClampNeg) :: r, A)
      | _ => none
    | _ => none
  | .aaload => match st with
    | .int i :: .ref a :: r => match A[a]? with
      | some (.inl (t, n, .inr (.inr (.inr (.inr f))))) => if i < 0 ∨ n ≤ i.toNatClampNeg then none else match xi_tyl[t]? with
        | some (.object _) => some (nx, lv, va_rf (f i.toNatClampNeg) :: r, A)
        | _ => none
      | _ => none
    | _ => none
  | .iastore => match st with
    | .int x :: .int i :: .ref a :: r => match A[a]? with
      | some (.inl (0, n, .inl f)) => if i < 0 ∨ n ≤ i.toNatClampNeg then none else some (nx, lv, r, A.set a (.inl (0, n, .inl (upd f i.toNatClampNeg x))))
      | _ => none
    | _ => none
  | .lastore => match st with
    | .long x :: .int i :: .ref a :: r => match A[a]? with
      | some (.inl (1, n, .inr (.inl f))) => if i < 0 ∨ n ≤ i.toNatClampNeg then none else some (nx, lv, r, A.set a (.inl (1, n, .inr (.inl (vp_updL f i.toNatClampNeg x)))))
      | _ => none
    | _ => none
  | .castore => match st with
    | .int x :: .int i :: .ref a :: r => match A[a]? with
      | some (.inl (2, n, .inl f)) => if i < 0 ∨ n ≤ i.toNatClampNeg then none else some (nx, lv, r, A.set a (.inl (2, n, .inl (upd f i.toNatClampNeg (vp_nar .char x)))))
      | _ => none
    | _ => none
  | .bastore => match st with
    | .int x :: .int i :: .ref a :: r => match A[a]? with
      | some (.inl (3, n, .inl f)) => if i < 0 ∨ n ≤ i.toNatClampNeg then none else some (nx, lv, r, A.set a (.inl (3, n, .inl (upd f i.toNatClampNeg (vp_nar .boolean x)))))
      | _ => none
    | _ => none
  | .aastore => match st with
    | .ref v :: .int i :: .ref a :: r => match A[a]?, A[v]? with
      | some (.inl (t, n, .inr (.inr (.inr (.inr f))))), some (.inr (ci, _)) => if i < 0 ∨ n ≤ i.toNatClampNeg then none else match xi_cl[ci]? with
        | some rr => if xi_tyl[t]? = some (.object rr.1) then some (nx, lv, r, A.set a (.inl (t, n, .inr (.inr (.inr (.inr (va_up f i.toNatClampNeg (some v)))))))) else none
        | _ => none
      | _, _ => none
    | _ => none
  | .arraylength => match st with
    | .ref a :: r => match A[a]? with
      | some (.inl (t, x)) => match xi_tyl[t]? with
        | some _ => some (nx, lv, .int (Int32.ofNat x.1) :: r, A)
        | _ => none
      | _ => none
    | _ => none
  | .getfield _ => match st, aux with
    | .ref a :: r, [ci, k, _] => match A[a]? with
      | some (.inr (cj, fs)) => if cj = ci then match fs[k]? with
        | some v => some (nx, lv, v :: r, A)
        | none => none
        else none
      | _ => none
    | _, _ => none
  | .putfield _ => match st, aux with
    | v :: .ref a :: r, [ci, k, _] => match A[a]? with
      | some (.inr (cj, fs)) => if cj = ci ∧ k < fs.length ∧ narrow (xi_ty ci k) v = v ∧ fits (xi_ty ci k) v = true then some (nx, lv, r, A.set a (.inr (ci, fs.set k v))) else none
      | _ => none
    | _, _ => none
  | .new _ => match aux with
    | [ci, _, _, _] => some (nx, lv, .ref A.length :: st, A ++ [.inr (ci, xi_df ci)])
    | _ => none
  | .newarray .int => match st with
    | .int n :: r => if n < 0 ∨ 536870912 < n.toNatClampNeg * componentBytes .int then none else some (nx, lv, .ref A.length :: r, A ++ [.inl (0, (n.toNatClampNeg, .inl (fun _ => 0)))])
    | _ => none
  | .newarray .long => match st with
    | .int n :: r => if n < 0 ∨ 536870912 < n.toNatClampNeg * componentBytes .long then none else some (nx, lv, .ref A.length :: r, A ++ [.inl (1, (n.toNatClampNeg, .inr (.inl (fun _ => 0))))])
    | _ => none
  | .newarray .char => match st with
    | .int n :: r => if n < 0 ∨ 536870912 < n.toNatClampNeg * componentBytes .char then none else some (nx, lv, .ref A.length :: r, A ++ [.inl (2, (n.toNatClampNeg, .inl (fun _ => 0)))])
    | _ => none
  | .newarray .boolean => match st with
    | .int n :: r => if n < 0 ∨ 536870912 < n.toNatClampNeg * componentBytes .boolean then none else some (nx, lv, .ref A.length :: r, A ++ [.inl (3, (n.toNatClampNeg, .inl (fun _ => 0)))])
    | _ => none
  | .anewarray _ => match st, aux with
    | .int n :: r, [t, _, _] => if n < 0 ∨ 536870912 < n.toNatClampNeg * 4 then none else some (nx, lv, .ref A.length :: r, A ++ [.inl (t, n.toNatClampNeg, .inr (.inr (.inr (.inr (fun _ => none)))))])
    | _, _ => none
  | _ => none
def xi_len : Instr → Nat
  | .iconst _ => 1
  | .bipush _ => 2
  | .sipush _ => 3
  | .lconst _ => 1
  | .aconst_null => 1
  | .iadd => 1
  | .isub => 1
  | .imul => 1
  | .iand => 1
  | .ior => 1
  | .ixor => 1
  | .ishl => 1
  | .ishr => 1
  | .iushr => 1
  | .idiv => 1
  | .irem => 1
  | .ineg => 1
  | .ladd => 1
  | .lsub => 1
  | .lmul => 1
  | .land => 1
  | .lor => 1
  | .lxor => 1
  | .ldiv => 1
  | .lrem => 1
  | .lshl => 1
  | .lshr => 1
  | .lushr => 1
  | .i2l => 1
  | .l2i => 1
  | .i2c => 1
  | .lcmp => 1
  | .dup => 1
  | .pop => 1
  | .dup_x1 => 1
  | .dup_x2 => 1
  | .dup2 => 1
  | .iload_n _ => 1
  | .iload _ => 2
  | .lload_n _ => 1
  | .lload _ => 2
  | .aload_n _ => 1
  | .aload _ => 2
  | .istore_n _ => 1
  | .istore _ => 2
  | .lstore_n _ => 1
  | .lstore _ => 2
  | .astore_n _ => 1
  | .astore _ => 2
  | .iinc _ _ => 3
  | .ifCond _ _ => 3
  | .if_icmp _ _ => 3
  | .goto _ => 3
  | .ldc _ => 2
  | .ldc_w _ => 3
  | .ldc2_w _ => 3
  | .iaload => 1
  | .laload => 1
  | .caload => 1
  | .baload => 1
  | .aaload => 1
  | .iastore => 1
  | .lastore => 1
  | .castore => 1
  | .bastore => 1
  | .aastore => 1
  | .arraylength => 1
  | .getfield _ => 3
  | .putfield _ => 3
  | .new _ => 3
  | .newarray _ => 2
  | .anewarray _ => 3
  | .ireturn => 1
  | .lreturn => 1
  | .areturn => 1
  | .return_ => 1
  | .invokevirtual _ => 3
  | .invokespecial _ => 3
  | .invokestatic _ => 3
  | .athrow => 1
  | _ => 0
/-- what a row of a table says beside its instruction's bytes -/
def xi_ok (own nm : String) (pc : Nat) (I : Instr) (aux : List Nat) : Bool := match I, aux with
  | .ifCond _ off, [tgt] => decide ((pc : Int) + off = (tgt : Int))
  | .if_icmp _ off, [tgt] => decide ((pc : Int) + off = (tgt : Int))
  | .goto off, [tgt] => decide ((pc : Int) + off = (tgt : Int))
  | .ldc i, [0, v, ix] => xi_Gat ix (.constant own i (Int32.ofNat v))
  | .ldc_w i, [0, v, ix] => xi_Gat ix (.constant own i (Int32.ofNat v))
  | .ldc i, [1, j] => match xi_str[j]? with
    | some (o2, i2, _) => decide (o2 = own) && decide (i2 = i)
    | none => false
  | .ldc2_w i, [v, ix] => xi_Gat ix (.constantLong own i (Int64.ofNat v))
  | .getfield i, [ci, k, ix] => match xi_cl[ci]? with
    | some (_, T, N) => decide (k < N) && xi_Gat ix (.fieldLink own i (T k).1 (T k).2.1 (T k).2.2.1)
    | none => false
  | .putfield i, [ci, k, ix] => match xi_cl[ci]? with
    | some (_, T, N) => (decide (k < N) && xi_Gat ix (.fieldLink own i (T k).1 (T k).2.1 (T k).2.2.1)) && (decide ((T k).2.2.2 = false) || ((decide ((T k).2.2.2 = true) && decide ((T k).1 = own)) && decide (nm = "<init>")))
    | none => false
  | .new i, [ci, i1, i2, i3] => match xi_cl[ci]? with
    | some (C, _, N) => ((xi_Gat i1 (.classLink own i C) && xi_Gat i2 (.instantiable C N)) && xi_Gat i3 (.initialized C)) && decide ((xi_df ci).length = N)
    | none => false
  | .newarray aty, [ix] => xi_Gat ix (.arrayClass (newarray.typeOf aty))
  | .anewarray i, [t, i1, _] => match xi_tyl[t]? with
    | some (.object C) => xi_Gat i1 (.classLink own i C) && decide (C ∈ xi_ao)
    | _ => false
  | .newarray _, _ => false
  | _, _ => true
set_option maxHeartbeats 4000000 in
theorem xi_s_sound {z : xi_Z} {cc : ByteArray} {own nm : String} {pc : Nat} {I : Instr} {aux : List Nat} {lv lv' : xi_L} {st st' : List Value} {A A' : xi_H} {pc' : Nat} (X : xi_X z cc own) (hinit : nm = "<init>" → z.2.2.2.2.2.2.2.2.1.name = "<init>") (hd : decode cc pc = .ok (I, xi_len I)) (hok : xi_ok own nm pc I aux = true) (h : xi_s z.2.2.2.2.2.2.2.2.2.2.2.1 I (pc + xi_len I) aux lv st A = some (pc', lv', st', A'))
    (hE1 : A'.length - z.2.2.2.2.2.2.2.2.2.2.2.2.2.2.2.2.1 ≤ z.2.2.2.1.cells) (hE2 : xi_ns A' - z.2.2.2.2.2.2.2.2.2.2.2.2.2.2.2.2.2 ≤ z.2.2.2.1.slots) (kk : xi_At z pc' lv' st' A') : xi_At z pc lv st A := by
  cases I with
  | iconst n =>
    simp only [xi_s, Option.some.injEq, Prod.mk.injEq] at h
    obtain ⟨rfl, rfl, rfl, rfl⟩ := h
    exact xs_iconst X hd kk
  | bipush n =>
    simp only [xi_s, Option.some.injEq, Prod.mk.injEq] at h
    obtain ⟨rfl, rfl, rfl, rfl⟩ := h
    exact xs_bipush X hd kk
  | sipush n =>
    simp only [xi_s, Option.some.injEq, Prod.mk.injEq] at h
    obtain ⟨rfl, rfl, rfl, rfl⟩ := h
    exact xs_sipush X hd kk
  | lconst n =>
    simp only [xi_s, Option.some.injEq, Prod.mk.injEq] at h
    obtain ⟨rfl, rfl, rfl, rfl⟩ := h
    exact xs_lconst X hd kk
  | aconst_null =>
    simp only [xi_s, Option.some.injEq, Prod.mk.injEq] at h
    obtain ⟨rfl, rfl, rfl, rfl⟩ := h
    exact xs_null X hd kk
  | iadd =>
    simp only [xi_s] at h
    split at h
    · simp only [Option.some.injEq, Prod.mk.injEq] at h
      obtain ⟨rfl, rfl, rfl, rfl⟩ := h
      exact xs_iadd X hd kk
    · cases h
  | isub =>
    simp only [xi_s] at h
    split at h
    · simp only [Option.some.injEq, Prod.mk.injEq] at h
      obtain ⟨rfl, rfl, rfl, rfl⟩ := h
      exact xs_isub X hd kk
    · cases h
  | imul =>
    simp only [xi_s] at h
    split at h
    · simp only [Option.some.injEq, Prod.mk.injEq] at h
      obtain ⟨rfl, rfl, rfl, rfl⟩ := h
      exact xs_imul X hd kk
    · cases h
  | iand =>
    simp only [xi_s] at h
    split at h
    · simp only [Option.some.injEq, Prod.mk.injEq] at h
      obtain ⟨rfl, rfl, rfl, rfl⟩ := h
      exact xs_iand X hd kk
    · cases h
  | ior =>
    simp only [xi_s] at h
    split at h
    · simp only [Option.some.injEq, Prod.mk.injEq] at h
      obtain ⟨rfl, rfl, rfl, rfl⟩ := h
      exact xs_ior X hd kk
    · cases h
  | ixor =>
    simp only [xi_s] at h
    split at h
    · simp only [Option.some.injEq, Prod.mk.injEq] at h
      obtain ⟨rfl, rfl, rfl, rfl⟩ := h
      exact xs_ixor X hd kk
    · cases h
  | ishl =>
    simp only [xi_s] at h
    split at h
    · simp only [Option.some.injEq, Prod.mk.injEq] at h
      obtain ⟨rfl, rfl, rfl, rfl⟩ := h
      exact xs_ishl X hd kk
    · cases h
  | ishr =>
    simp only [xi_s] at h
    split at h
    · simp only [Option.some.injEq, Prod.mk.injEq] at h
      obtain ⟨rfl, rfl, rfl, rfl⟩ := h
      exact xs_ishr X hd kk
    · cases h
  | iushr =>
    simp only [xi_s] at h
    split at h
    · simp only [Option.some.injEq, Prod.mk.injEq] at h
      obtain ⟨rfl, rfl, rfl, rfl⟩ := h
      exact xs_iushr X hd kk
    · cases h
  | idiv =>
    simp only [xi_s] at h
    split at h
    · split at h
      · cases h
      · rename_i hc
        simp only [Option.some.injEq, Prod.mk.injEq] at h
        obtain ⟨rfl, rfl, rfl, rfl⟩ := h
        exact xs_idiv X hd hc kk
    · cases h
  | irem =>
    simp only [xi_s] at h
    split at h
    · split at h
      · cases h
      · rename_i hc
        simp only [Option.some.injEq, Prod.mk.injEq] at h
        obtain ⟨rfl, rfl, rfl, rfl⟩ := h
        exact xs_irem X hd hc kk
    · cases h
  | ineg =>
    simp only [xi_s] at h
    split at h
    · simp only [Option.some.injEq, Prod.mk.injEq] at h
      obtain ⟨rfl, rfl, rfl, rfl⟩ := h
      exact xs_ineg X hd kk
    · cases h
  | ladd =>
    simp only [xi_s] at h
    split at h
    · simp only [Option.some.injEq, Prod.mk.injEq] at h
      obtain ⟨rfl, rfl, rfl, rfl⟩ := h
      exact xs_ladd X hd kk
    · cases h
  | lsub =>
    simp only [xi_s] at h
    split at h
    · simp only [Option.some.injEq, Prod.mk.injEq] at h
      obtain ⟨rfl, rfl, rfl, rfl⟩ := h
      exact xs_lsub X hd kk
    · cases h
  | lmul =>
    simp only [xi_s] at h
    split at h
    · simp only [Option.some.injEq, Prod.mk.injEq] at h
      obtain ⟨rfl, rfl, rfl, rfl⟩ := h
      exact xs_lmul X hd kk
    · cases h
  | land =>
    simp only [xi_s] at h
    split at h
    · simp only [Option.some.injEq, Prod.mk.injEq] at h
      obtain ⟨rfl, rfl, rfl, rfl⟩ := h
      exact xs_land X hd kk
    · cases h
  | lor =>
    simp only [xi_s] at h
    split at h
    · simp only [Option.some.injEq, Prod.mk.injEq] at h
      obtain ⟨rfl, rfl, rfl, rfl⟩ := h
      exact xs_lor X hd kk
    · cases h
  | lxor =>
    simp only [xi_s] at h
    split at h
    · simp only [Option.some.injEq, Prod.mk.injEq] at h
      obtain ⟨rfl, rfl, rfl, rfl⟩ := h
      exact xs_lxor X hd kk
    · cases h
  | ldiv =>
    simp only [xi_s] at h
    split at h
    · split at h
      · cases h
      · rename_i hc
        simp only [Option.some.injEq, Prod.mk.injEq] at h
        obtain ⟨rfl, rfl, rfl, rfl⟩ := h
        exact xs_ldiv X hd hc kk
    · cases h
  | lrem =>
    simp only [xi_s] at h
    split at h
    · split at h
      · cases h
      · rename_i hc
        simp only [Option.some.injEq, Prod.mk.injEq] at h
        obtain ⟨rfl, rfl, rfl, rfl⟩ := h
        exact xs_lrem X hd hc kk
    · cases h
  | lshl =>
    simp only [xi_s] at h
    split at h
    · simp only [Option.some.injEq, Prod.mk.injEq] at h
      obtain ⟨rfl, rfl, rfl, rfl⟩ := h
      exact xs_lshl X hd kk
    · cases h
  | lshr =>
    simp only [xi_s] at h
    split at h
    · simp only [Option.some.injEq, Prod.mk.injEq] at h
      obtain ⟨rfl, rfl, rfl, rfl⟩ := h
      exact xs_lshr X hd kk
    · cases h
  | lushr =>
    simp only [xi_s] at h
    split at h
    · simp only [Option.some.injEq, Prod.mk.injEq] at h
      obtain ⟨rfl, rfl, rfl, rfl⟩ := h
      exact xs_lushr X hd kk
    · cases h
  | i2l =>
    simp only [xi_s] at h
    split at h
    · simp only [Option.some.injEq, Prod.mk.injEq] at h
      obtain ⟨rfl, rfl, rfl, rfl⟩ := h
      exact xs_i2l X hd kk
    · cases h
  | l2i =>
    simp only [xi_s] at h
    split at h
    · simp only [Option.some.injEq, Prod.mk.injEq] at h
      obtain ⟨rfl, rfl, rfl, rfl⟩ := h
      exact xs_l2i X hd kk
    · cases h
  | i2c =>
    simp only [xi_s] at h
    split at h
    · simp only [Option.some.injEq, Prod.mk.injEq] at h
      obtain ⟨rfl, rfl, rfl, rfl⟩ := h
      exact xs_i2c X hd kk
    · cases h
  | lcmp =>
    simp only [xi_s] at h
    split at h
    · simp only [Option.some.injEq, Prod.mk.injEq] at h
      obtain ⟨rfl, rfl, rfl, rfl⟩ := h
      exact xs_lcmp X hd kk
    · cases h
  | dup =>
    simp only [xi_s] at h
    split at h
    · split at h
      · rename_i hc
        simp only [Option.some.injEq, Prod.mk.injEq] at h
        obtain ⟨rfl, rfl, rfl, rfl⟩ := h
        exact xs_dup X hd hc kk
      · cases h
    · cases h
  | pop =>
    simp only [xi_s] at h
    split at h
    · split at h
      · rename_i hc
        simp only [Option.some.injEq, Prod.mk.injEq] at h
        obtain ⟨rfl, rfl, rfl, rfl⟩ := h
        exact xs_pop X hd hc kk
      · cases h
    · cases h
  | dup_x1 =>
    simp only [xi_s] at h
    split at h
    · split at h
      · rename_i hc
        simp only [Option.some.injEq, Prod.mk.injEq] at h
        obtain ⟨rfl, rfl, rfl, rfl⟩ := h
        exact xs_dup_x1 X hd hc.1 hc.2 kk
      · cases h
    · cases h
  | dup_x2 =>
    simp only [xi_s] at h
    split at h
    · split at h
      · rename_i hc
        simp only [Option.some.injEq, Prod.mk.injEq] at h
        obtain ⟨rfl, rfl, rfl, rfl⟩ := h
        exact xs_dup_x2 X hd hc.1 hc.2.1 hc.2.2 kk
      · cases h
    · cases h
  | dup2 =>
    simp only [xi_s] at h
    split at h
    · split at h
      · rename_i hc
        simp only [Option.some.injEq, Prod.mk.injEq] at h
        obtain ⟨rfl, rfl, rfl, rfl⟩ := h
        exact xs_dup2_11 X hd hc.1 hc.2 kk
      · split at h
        · rename_i hc
          simp only [Option.some.injEq, Prod.mk.injEq] at h
          obtain ⟨rfl, rfl, rfl, rfl⟩ := h
          exact xs_dup2_2 X hd hc kk
        · cases h
    · split at h
      · rename_i hc
        simp only [Option.some.injEq, Prod.mk.injEq] at h
        obtain ⟨rfl, rfl, rfl, rfl⟩ := h
        exact xs_dup2_2 X hd hc kk
      · cases h
    · cases h
  | iload_n k =>
    simp only [xi_s] at h
    split at h
    · rename_i hc
      simp only [Option.some.injEq, Prod.mk.injEq] at h
      obtain ⟨rfl, rfl, rfl, rfl⟩ := h
      exact xs_iload_n X hd hc kk
    · cases h
  | iload i =>
    simp only [xi_s] at h
    split at h
    · rename_i hc
      simp only [Option.some.injEq, Prod.mk.injEq] at h
      obtain ⟨rfl, rfl, rfl, rfl⟩ := h
      exact xs_iload X hd hc kk
    · cases h
  | lload_n k =>
    simp only [xi_s] at h
    split at h
    · rename_i hc
      simp only [Option.some.injEq, Prod.mk.injEq] at h
      obtain ⟨rfl, rfl, rfl, rfl⟩ := h
      exact xs_lload_n X hd hc kk
    · cases h
  | lload i =>
    simp only [xi_s] at h
    split at h
    · rename_i hc
      simp only [Option.some.injEq, Prod.mk.injEq] at h
      obtain ⟨rfl, rfl, rfl, rfl⟩ := h
      exact xs_lload X hd hc kk
    · cases h
  | aload_n k =>
    simp only [xi_s] at h
    split at h
    · rename_i hc
      split at h
      · rename_i hv
        simp only [Option.some.injEq, Prod.mk.injEq] at h
        obtain ⟨rfl, rfl, rfl, rfl⟩ := h
        exact xs_aload_n X hd hc hv kk
      · cases h
    · cases h
  | aload i =>
    simp only [xi_s] at h
    split at h
    · rename_i hc
      split at h
      · rename_i hv
        simp only [Option.some.injEq, Prod.mk.injEq] at h
        obtain ⟨rfl, rfl, rfl, rfl⟩ := h
        exact xs_aload X hd hc hv kk
      · cases h
    · cases h
  | istore_n k =>
    simp only [xi_s] at h
    split at h
    · split at h
      · rename_i hc
        simp only [Option.some.injEq, Prod.mk.injEq] at h
        obtain ⟨rfl, rfl, rfl, rfl⟩ := h
        exact xs_istore_n X hd rfl hc kk
      · cases h
    · cases h
  | istore i =>
    simp only [xi_s] at h
    split at h
    · split at h
      · rename_i hc
        simp only [Option.some.injEq, Prod.mk.injEq] at h
        obtain ⟨rfl, rfl, rfl, rfl⟩ := h
        exact xs_istore X hd hc kk
      · cases h
    · cases h
  | lstore_n k =>
    simp only [xi_s] at h
    split at h
    · split at h
      · rename_i hc
        simp only [Option.some.injEq, Prod.mk.injEq] at h
        obtain ⟨rfl, rfl, rfl, rfl⟩ := h
        exact xs_lstore_n X hd rfl hc kk
      · cases h
    · cases h
  | lstore i =>
    simp only [xi_s] at h
    split at h
    · split at h
      · rename_i hc
        simp only [Option.some.injEq, Prod.mk.injEq] at h
        obtain ⟨rfl, rfl, rfl, rfl⟩ := h
        exact xs_lstore X hd hc kk
      · cases h
    · cases h
  | astore_n k =>
    simp only [xi_s] at h
    split at h
    · split at h
      · rename_i hc
        simp only [Option.some.injEq, Prod.mk.injEq] at h
        obtain ⟨rfl, rfl, rfl, rfl⟩ := h
        exact xs_astore_n X hd rfl hc kk
      · cases h
    · cases h
  | astore i =>
    simp only [xi_s] at h
    split at h
    · split at h
      · rename_i hc
        simp only [Option.some.injEq, Prod.mk.injEq] at h
        obtain ⟨rfl, rfl, rfl, rfl⟩ := h
        exact xs_astore X hd hc kk
      · cases h
    · cases h
  | iinc i n =>
    simp only [xi_s] at h
    split at h
    · rename_i hc
      split at h
      · rename_i hn
        simp only [Option.some.injEq, Prod.mk.injEq] at h
        obtain ⟨rfl, rfl, rfl, rfl⟩ := h
        exact xs_iinc X hd hc hn kk
      · cases h
    · cases h
  | ifCond cn off =>
    cases cn with
    | eq =>
      simp only [xi_s] at h
      split at h
      · simp only [Option.some.injEq, Prod.mk.injEq] at h
        obtain ⟨rfl, rfl, rfl, rfl⟩ := h
        exact xs_if_eq X hd (by simpa [xi_ok] using hok) kk
      · cases h
    | ne =>
      simp only [xi_s] at h
      split at h
      · simp only [Option.some.injEq, Prod.mk.injEq] at h
        obtain ⟨rfl, rfl, rfl, rfl⟩ := h
        exact xs_if_ne X hd (by simpa [xi_ok] using hok) kk
      · cases h
    | lt =>
      simp only [xi_s] at h
      split at h
      · simp only [Option.some.injEq, Prod.mk.injEq] at h
        obtain ⟨rfl, rfl, rfl, rfl⟩ := h
        exact xs_if_lt X hd (by simpa [xi_ok] using hok) kk
      · cases h
    | ge =>
      simp only [xi_s] at h
      split at h
      · simp only [Option.some.injEq, Prod.mk.injEq] at h
        obtain ⟨rfl, rfl, rfl, rfl⟩ := h
        exact xs_if_ge X hd (by simpa [xi_ok] using hok) kk
      · cases h
    | gt =>
      simp only [xi_s] at h
      split at h
      · simp only [Option.some.injEq, Prod.mk.injEq] at h
        obtain ⟨rfl, rfl, rfl, rfl⟩ := h
        exact xs_if_gt X hd (by simpa [xi_ok] using hok) kk
      · cases h
    | le =>
      simp only [xi_s] at h
      split at h
      · simp only [Option.some.injEq, Prod.mk.injEq] at h
        obtain ⟨rfl, rfl, rfl, rfl⟩ := h
        exact xs_if_le X hd (by simpa [xi_ok] using hok) kk
      · cases h
  | if_icmp cn off =>
    cases cn with
    | eq =>
      simp only [xi_s] at h
      split at h
      · simp only [Option.some.injEq, Prod.mk.injEq] at h
        obtain ⟨rfl, rfl, rfl, rfl⟩ := h
        exact xs_icmp_eq X hd (by simpa [xi_ok] using hok) kk
      · cases h
    | ne =>
      simp only [xi_s] at h
      split at h
      · simp only [Option.some.injEq, Prod.mk.injEq] at h
        obtain ⟨rfl, rfl, rfl, rfl⟩ := h
        exact xs_icmp_ne X hd (by simpa [xi_ok] using hok) kk
      · cases h
    | lt =>
      simp only [xi_s] at h
      split at h
      · simp only [Option.some.injEq, Prod.mk.injEq] at h
        obtain ⟨rfl, rfl, rfl, rfl⟩ := h
        exact xs_icmp_lt X hd (by simpa [xi_ok] using hok) kk
      · cases h
    | ge =>
      simp only [xi_s] at h
      split at h
      · simp only [Option.some.injEq, Prod.mk.injEq] at h
        obtain ⟨rfl, rfl, rfl, rfl⟩ := h
        exact xs_icmp_ge X hd (by simpa [xi_ok] using hok) kk
      · cases h
    | gt =>
      simp only [xi_s] at h
      split at h
      · simp only [Option.some.injEq, Prod.mk.injEq] at h
        obtain ⟨rfl, rfl, rfl, rfl⟩ := h
        exact xs_icmp_gt X hd (by simpa [xi_ok] using hok) kk
      · cases h
    | le =>
      simp only [xi_s] at h
      split at h
      · simp only [Option.some.injEq, Prod.mk.injEq] at h
        obtain ⟨rfl, rfl, rfl, rfl⟩ := h
        exact xs_icmp_le X hd (by simpa [xi_ok] using hok) kk
      · cases h
  | goto off =>
    simp only [xi_s] at h
    split at h
    · simp only [Option.some.injEq, Prod.mk.injEq] at h
      obtain ⟨rfl, rfl, rfl, rfl⟩ := h
      exact xs_goto X hd (by simpa [xi_ok] using hok) kk
    · cases h
  | ldc i =>
    simp only [xi_s] at h
    split at h
    · simp only [Option.some.injEq, Prod.mk.injEq] at h
      obtain ⟨rfl, rfl, rfl, rfl⟩ := h
      exact xs_ldc X hd (xi_Gm (by simpa [xi_ok] using hok)) kk
    · simp only [Option.some.injEq, Prod.mk.injEq] at h
      obtain ⟨rfl, rfl, rfl, rfl⟩ := h
      simp only [xi_ok] at hok
      split at hok
      · rename_i o2 i2 tx hj
        simp only [Bool.and_eq_true, decide_eq_true_eq] at hok
        obtain ⟨rfl, rfl⟩ := hok
        exact xs_ldcS X hd hj kk
      · cases hok
    · cases h
  | ldc_w i =>
    simp only [xi_s] at h
    split at h
    · simp only [Option.some.injEq, Prod.mk.injEq] at h
      obtain ⟨rfl, rfl, rfl, rfl⟩ := h
      exact xs_ldcw X hd (xi_Gm (by simpa [xi_ok] using hok)) kk
    · cases h
  | ldc2_w i =>
    simp only [xi_s] at h
    split at h
    · simp only [Option.some.injEq, Prod.mk.injEq] at h
      obtain ⟨rfl, rfl, rfl, rfl⟩ := h
      exact xs_ldc2 X hd (xi_Gm (by simpa [xi_ok] using hok)) kk
    · cases h
  | iaload =>
    simp only [xi_s] at h
    split at h
    · split at h
      · rename_i ha
        split at h
        · cases h
        · rename_i hin
          simp only [Option.some.injEq, Prod.mk.injEq] at h
          obtain ⟨rfl, rfl, rfl, rfl⟩ := h
          exact xs_iald X hd ha hin kk
      · cases h
    · cases h
  | laload =>
    simp only [xi_s] at h
    split at h
    · split at h
      · rename_i ha
        split at h
        · cases h
        · rename_i hin
          simp only [Option.some.injEq, Prod.mk.injEq] at h
          obtain ⟨rfl, rfl, rfl, rfl⟩ := h
          exact xs_lald X hd ha hin kk
      · cases h
    · cases h
  | caload =>
    simp only [xi_s] at h
    split at h
    · split at h
      · rename_i ha
        split at h
        · cases h
        · rename_i hin
          simp only [Option.some.injEq, Prod.mk.injEq] at h
          obtain ⟨rfl, rfl, rfl, rfl⟩ := h
          exact xs_cald X hd ha hin kk
      · cases h
    · cases h
  | baload =>
    simp only [xi_s] at h
    split at h
    · split at h
      · rename_i ha
        split at h
        · cases h
        · rename_i hin
          simp only [Option.some.injEq, Prod.mk.injEq] at h
          obtain ⟨rfl, rfl, rfl, rfl⟩ := h
          exact xs_zald X hd ha hin kk
      · cases h
    · cases h
  | aaload =>
    simp only [xi_s] at h
    split at h
    · split at h
      · rename_i ha
        split at h
        · cases h
        · rename_i hin
          split at h
          · rename_i ht
            simp only [Option.some.injEq, Prod.mk.injEq] at h
            obtain ⟨rfl, rfl, rfl, rfl⟩ := h
            exact xs_aald X hd ha hin ht kk
          · cases h
      · cases h
    · cases h
  | iastore =>
    simp only [xi_s] at h
    split at h
    · split at h
      · rename_i ha
        split at h
        · cases h
        · rename_i hin
          simp only [Option.some.injEq, Prod.mk.injEq] at h
          obtain ⟨rfl, rfl, rfl, rfl⟩ := h
          exact xs_iast X hd ha hin kk
      · cases h
    · cases h
  | lastore =>
    simp only [xi_s] at h
    split at h
    · split at h
      · rename_i ha
        split at h
        · cases h
        · rename_i hin
          simp only [Option.some.injEq, Prod.mk.injEq] at h
          obtain ⟨rfl, rfl, rfl, rfl⟩ := h
          exact xs_last X hd ha hin kk
      · cases h
    · cases h
  | castore =>
    simp only [xi_s] at h
    split at h
    · split at h
      · rename_i ha
        split at h
        · cases h
        · rename_i hin
          simp only [Option.some.injEq, Prod.mk.injEq] at h
          obtain ⟨rfl, rfl, rfl, rfl⟩ := h
          exact xs_cast X hd ha hin kk
      · cases h
    · cases h
  | bastore =>
    simp only [xi_s] at h
    split at h
    · split at h
      · rename_i ha
        split at h
        · cases h
        · rename_i hin
          simp only [Option.some.injEq, Prod.mk.injEq] at h
          obtain ⟨rfl, rfl, rfl, rfl⟩ := h
          exact xs_zast X hd ha hin kk
      · cases h
    · cases h
  | aastore =>
    simp only [xi_s] at h
    split at h
    · split at h
      · rename_i ha hv
        split at h
        · cases h
        · rename_i hin
          split at h
          · rename_i hc
            split at h
            · rename_i ht
              simp only [Option.some.injEq, Prod.mk.injEq] at h
              obtain ⟨rfl, rfl, rfl, rfl⟩ := h
              exact xs_aast X hd ha hin hv hc ht kk
            · cases h
          · cases h
      · cases h
    · cases h
  | arraylength =>
    simp only [xi_s] at h
    split at h
    · split at h
      · rename_i ha
        split at h
        · rename_i ht
          simp only [Option.some.injEq, Prod.mk.injEq] at h
          obtain ⟨rfl, rfl, rfl, rfl⟩ := h
          exact xs_alen X hd ha ht kk
        · cases h
      · cases h
    · cases h
  | getfield i =>
    simp only [xi_s] at h
    split at h
    · split at h
      · rename_i ha
        split at h
        · rename_i hcj
          subst hcj
          split at h
          · rename_i hv
            simp only [Option.some.injEq, Prod.mk.injEq] at h
            obtain ⟨rfl, rfl, rfl, rfl⟩ := h
            simp only [xi_ok] at hok
            split at hok
            · rename_i C T N hc
              simp only [Bool.and_eq_true, decide_eq_true_eq] at hok
              exact xs_get X hd ha hc hok.1 (xi_Gm hok.2) hv kk
            · cases hok
          · cases h
        · cases h
      · cases h
    · cases h
  | putfield i =>
    simp only [xi_s] at h
    split at h
    · split at h
      · rename_i ha
        split at h
        · rename_i hcj
          obtain ⟨rfl, hl0, hn, hf⟩ := hcj
          simp only [Option.some.injEq, Prod.mk.injEq] at h
          obtain ⟨rfl, rfl, rfl, rfl⟩ := h
          simp only [xi_ok] at hok
          split at hok
          · rename_i C T N hc
            simp only [Bool.and_eq_true, decide_eq_true_eq, Bool.or_eq_true] at hok
            obtain ⟨⟨hk, hw⟩, hfin⟩ := hok
            rcases hfin with hfin | ⟨⟨hfin, hdecl⟩, hin2⟩
            · exact xs_put X hd ha hc hk (xi_Gm hw) hfin hn hf hl0 kk
            · exact xs_putF X (hinit hin2) hd ha hc hk (xi_Gm hw) hfin hdecl hn hf hl0 kk
          · cases hok
        · cases h
      · cases h
    · cases h
  | new i =>
    simp only [xi_s] at h
    split at h
    · simp only [Option.some.injEq, Prod.mk.injEq] at h
      obtain ⟨rfl, rfl, rfl, rfl⟩ := h
      simp only [xi_ok] at hok
      split at hok
      · rename_i C T N hc
        simp only [Bool.and_eq_true, decide_eq_true_eq] at hok
        exact xs_new X hd hc (xi_Gm hok.1.1.1) (xi_Gm hok.1.1.2) (xi_Gm hok.1.2) hok.2 hE1 hE2 kk
      · cases hok
    · cases h
  | newarray aty =>
    cases aty with
    | int =>
      simp only [xi_s] at h
      split at h
      · split at h
        · cases h
        · rename_i hn
          simp only [Option.some.injEq, Prod.mk.injEq] at h
          obtain ⟨rfl, rfl, rfl, rfl⟩ := h
          match aux, hok with
          | [ix], hok => exact xs_newa_int X hd (xi_Gm (ix := ix) hok) (fun q => hn (Or.inl q)) (Nat.not_lt.mp fun q => hn (Or.inr q)) hE1 hE2 kk
          | [], hok => simp [xi_ok] at hok
          | _ :: _ :: _, hok => simp [xi_ok] at hok
      · cases h
    | long =>
      simp only [xi_s] at h
      split at h
      · split at h
        · cases h
        · rename_i hn
          simp only [Option.some.injEq, Prod.mk.injEq] at h
          obtain ⟨rfl, rfl, rfl, rfl⟩ := h
          match aux, hok with
          | [ix], hok => exact xs_newa_long X hd (xi_Gm (ix := ix) hok) (fun q => hn (Or.inl q)) (Nat.not_lt.mp fun q => hn (Or.inr q)) hE1 hE2 kk
          | [], hok => simp [xi_ok] at hok
          | _ :: _ :: _, hok => simp [xi_ok] at hok
      · cases h
    | char =>
      simp only [xi_s] at h
      split at h
      · split at h
        · cases h
        · rename_i hn
          simp only [Option.some.injEq, Prod.mk.injEq] at h
          obtain ⟨rfl, rfl, rfl, rfl⟩ := h
          match aux, hok with
          | [ix], hok => exact xs_newa_char X hd (xi_Gm (ix := ix) hok) (fun q => hn (Or.inl q)) (Nat.not_lt.mp fun q => hn (Or.inr q)) hE1 hE2 kk
          | [], hok => simp [xi_ok] at hok
          | _ :: _ :: _, hok => simp [xi_ok] at hok
      · cases h
    | boolean =>
      simp only [xi_s] at h
      split at h
      · split at h
        · cases h
        · rename_i hn
          simp only [Option.some.injEq, Prod.mk.injEq] at h
          obtain ⟨rfl, rfl, rfl, rfl⟩ := h
          match aux, hok with
          | [ix], hok => exact xs_newa_boolean X hd (xi_Gm (ix := ix) hok) (fun q => hn (Or.inl q)) (Nat.not_lt.mp fun q => hn (Or.inr q)) hE1 hE2 kk
          | [], hok => simp [xi_ok] at hok
          | _ :: _ :: _, hok => simp [xi_ok] at hok
      · cases h
    | _ => simp [xi_s] at h
  | anewarray i =>
    simp only [xi_s] at h
    split at h
    · split at h
      · cases h
      · rename_i hn
        simp only [Option.some.injEq, Prod.mk.injEq] at h
        obtain ⟨rfl, rfl, rfl, rfl⟩ := h
        simp only [xi_ok] at hok
        split at hok
        · rename_i C ht
          simp only [Bool.and_eq_true, decide_eq_true_eq] at hok
          exact xs_anew X hd ht (xi_Gm hok.1) hok.2 (fun q => hn (Or.inl q)) (Nat.not_lt.mp fun q => hn (Or.inr q)) hE1 hE2 kk
        · cases hok
    · cases h
  | _ => simp [xi_s] at h
end
section
/-! WHAT LASTS, MOVED -/
theorem xi_nest_warm {s U : State} (hW : s.WarmedH U.vm) (h : ∀ w ∈ xi_nest, va_Nw w s) : ∀ w ∈ xi_nest, va_Nw w U := by
  intro w hw
  have h1 := h w hw
  simp only [xi_nest, List.mem_cons, List.not_mem_nil, or_false] at hw
  rcases hw with rfl | rfl | rfl | rfl | rfl | rfl | rfl | rfl | rfl | rfl | rfl | rfl | rfl | rfl | rfl | rfl <;>
    first | exact va_Nw.warmM hW h1 | exact va_Nw.warmD hW h1 | exact va_Nw.warmC hW h1
theorem xi_St.warm {b0 : Nat} {aS : Nat → Nat} {s U : State} (hW : s.WarmedH U.vm) (hh : ∀ q : Nat, q < b0 → U.heap[q]? = s.heap[q]?) (h : xi_St b0 aS s) : xi_St b0 aS U := by
  obtain ⟨h1, h2, h3, h4⟩ := h
  refine ⟨fun j q hq => (h1 j q hq).warm hW, xi_nest_warm hW h2, fun C hC => (h3 C hC).moved hW.alike, fun q hq => ?_⟩
  have h5 := (h4 q hq).moved hW.alike
  exact h5.kept (fun a _ ha => hh a (Nat.not_le.mp ha))
/-! A METHOD's CONTRACT: from a heap A, with the values vs, it ends in o with the heap A' -/
def xi_o (b0 : Nat) (aS : Nat → Nat) : Outcome → Outcome
  | .returned v => .returned (v.map (xi_v b0 aS))
  | .threw k => .threw (b0 + k)
def xi_Pc (b0 : Nat) (aS : Nat → Nat) (dA : Nat → ClassId) (D : va_G) (vs : List Value) (A : xi_H) : Array Value → State → Prop := fun a U =>
  a = (vs.map (xi_v b0 aS)).toArray ∧ va_P D xi_cl (xi_w b0 aS dA A) U.heap ∧ U.heap.size = b0 + A.length ∧ va_K D xi_cl (xi_tys dA) U ∧ xi_St b0 aS U
def xi_Qc (b0 : Nat) (aS : Nat → Nat) (dA : Nat → ClassId) (D : va_G) (o : Outcome) (A' : xi_H) : Array Value → State → Outcome → State → Prop := fun _ st oc t =>
  oc = xi_o b0 aS o ∧ va_P D xi_cl (xi_w b0 aS dA A') t.heap ∧ va_F (fun q => b0 ≤ q) st t
def xi_MQ (below : List Frame) (Qc : Array Value → State → Outcome → State → Prop) (a : Array Value) (s : State) (mc ms : Nat) (free : Addr → Prop) : State → Prop := fun t =>
  ∃ o, t.status = .running ∧ Ended t below o ∧ Qc a s o t ∧ ∃ L, (s.WarmedH t.vm ∧ s.sameButNew ({ t with vm := s.vm } : State) L mc ms) ∧ ∀ q ∈ L, free q.base
def xi_Met (l : Launch) (y : MethodName) (ws : List Cond) (rm : Room) (Pc : Array Value → State → Prop) (Qc : Array Value → State → Outcome → State → Prop) (mc ms : Nat) (free : Addr → Prop) : Prop :=
  MetFree l y (headSpec ws rm) Pc (fun _ _ _ _ _ => True) (fun a st o t => Qc a st o t ∧ ∃ L, (st.WarmedH t.vm ∧ st.sameButNew ({ t with vm := st.vm } : State) L mc ms) ∧ ∀ q ∈ L, free q.base)
theorem xi_Pc_blind {b0 : Nat} {aS : Nat → Nat} {dA : Nat → ClassId} {D : va_G} {vs : List Value} {A : xi_H} : FrameBlind (xi_Pc b0 aS dA D vs A) := by
  intro a U g mk h
  obtain ⟨h1, h2, h3, h4, h5⟩ := h
  exact ⟨h1, h2, h3, va_K.moved (u := U) (U := U.calling g mk a) (Vm.Alike.refl U.vm) h4, h5.warm (s := U) (U := U.calling g mk a) (State.WarmedH.refl U) (fun _ _ => rfl)⟩
/-- a contract that returns is one of the kit's -/
theorem xi_Met.ret {l : Launch} {y : MethodName} {ws : List Cond} {rm : Room} {Pc : Array Value → State → Prop} {b0 : Nat} {aS : Nat → Nat} {dA : Nat → ClassId} {D : va_G} {v : Option Value} {A' : xi_H} {mc ms : Nat} {free : Addr → Prop} (h : xi_Met l y ws rm Pc (xi_Qc b0 aS dA D (.returned v) A') mc ms free) : Met l y ws rm Pc (xi_Qc b0 aS dA D (.returned v) A') mc ms free := by
  intro p e ha hc hk s m args below hf happ hP hK
  obtain ⟨n, o, h1, h2, h3, hq, L, hL, hfr⟩ := h p e ha hc hk s m args below hf happ hP hK
  exact ⟨n, o, h1, h2, h3, hq, L, ⟨⟨_, hq.1⟩, hL.1, hL.2⟩, hfr⟩
section XO
variable {p : Program} {l : Launch} {e : Env} {R : Room} {s : State} {m : MethodId} {args : Array Value} {below : List Frame} {meth : Method} {c : Code} {H : Heap} {locs : List Loc} {cells slots : Nat} {Q Q2 : State → Prop} {g : JFrame}
theorem xi_W_mono (h : ∀ t, Q t → Q2 t) (k : W p l e R s m args below meth c H locs cells slots Q g) : W p l e R s m args below meth c H locs cells slots Q2 g := by
  intro T hT X
  obtain ⟨t, a, b⟩ := k T hT X
  exact ⟨t, a, h t b⟩
theorem xi_MQ_of {Qc : Array Value → State → Outcome → State → Prop} {free : Addr → Prop} {a : Array Value} {mc ms : Nat} : ∀ t, MQ below Qc a s mc ms free t → xi_MQ below Qc a s mc ms free t := by
  intro t h
  obtain ⟨o, h1, h2, h3, L, hF, hL⟩ := h
  exact ⟨o, h1, h2, h3, L, hF.2, hL⟩
theorem xi_ofW {y : MethodName} {ws ws' : List Cond} {rm : Room} {Pc : Array Value → State → Prop} {Qc : Array Value → State → Outcome → State → Prop} {mc ms : Nat} {free : Addr → Prop} {cc : ByteArray} {maxL : Nat} {ret : Option FieldType}
    (hy : plainName y.cls = true) (hw : ws = Cond.code y cc maxL ret :: ws')
    (body : ∀ p e s m args below meth c s₁, BodyLoose p l y (headSpec ws rm) cc maxL ret e s m args below meth c s₁ → c.maxLocals = maxL → Pc args s →
      W p l e (headSpec ws rm).room s m args below meth c s.heap [] 0 0 (xi_MQ below Qc args s mc ms free) (entryFrame m args maxL)) : xi_Met l y ws rm Pc Qc mc ms free := by
  refine MetFree.of_bodyS (code := cc) (maxLocals := maxL) (ret := ret) hy ?_ ?_
  · intro args s m h hn
    obtain ⟨meth, c, h1, h2, h3, h4, h5, h6, -, -⟩ := Cond.code_spec hn (atoms_spec (ws := ws) h _ (by rw [hw]; exact List.mem_cons_self))
    exact ⟨meth, c, h1, h2, h3, h4, h5, h6⟩
  · intro p e s m args below meth c s₁ B hml hP _
    have hh0 : s₁.heap = s.heap := by rw [B.state]; rfl
    obtain ⟨t, a1, o, b1, b2, b3⟩ := body p e s m args below meth c s₁ B hml hP s₁ hh0 (Stand.of_body B)
    exact ⟨t, o, a1, b1, b2, ⟨b3.1, b3.2⟩⟩
/-- with a table of handlers -/
theorem xi_ofWH {y : MethodName} {ws ws' : List Cond} {rm : Room} {Pc : Array Value → State → Prop} {Qc : Array Value → State → Outcome → State → Prop} {mc ms : Nat} {free : Addr → Prop} {cc : ByteArray} {maxL : Nat} {ret : Option FieldType} {hs : List (Nat × Nat × Nat × Nat)}
    (hy : plainName y.cls = true) (hw : ws = Cond.codeWith y cc maxL ret hs :: ws')
    (body : ∀ p e s m args below meth c s₁, BodyLoose p l y (headSpec ws rm) cc maxL ret e s m args below meth c s₁ → c.maxLocals = maxL → Pc args s →
      W p l e (headSpec ws rm).room s m args below meth c s.heap [] 0 0 (xi_MQ below Qc args s mc ms free) (entryFrame m args maxL)) : xi_Met l y ws rm Pc Qc mc ms free := by
  refine MetFree.of_bodyS (code := cc) (maxLocals := maxL) (ret := ret) hy ?_ ?_
  · intro args s m h hn
    obtain ⟨m', meth, c, h0, h1, h2, h3, h4, -, h5, h6, -⟩ := Cond.codeWith_spec (atoms_spec (ws := ws) h _ (by rw [hw]; exact List.mem_cons_self))
    cases hn.symm.trans h0
    exact ⟨meth, c, h1, h2, h3, h4, h5, h6⟩
  · intro p e s m args below meth c s₁ B hml hP _
    have hh0 : s₁.heap = s.heap := by rw [B.state]; rfl
    obtain ⟨t, a1, o, b1, b2, b3⟩ := body p e s m args below meth c s₁ B hml hP s₁ hh0 (Stand.of_body B)
    exact ⟨t, o, a1, b1, b2, ⟨b3.1, b3.2⟩⟩
end XO
end
section
/-! CALLS THAT RETURN -/
theorem xi_good {w : Cond} (h : w ∈ xi_G) : (w.onTables && w.keeps) = true ∨ ∃ ty, w = .arrayClass ty := good_of_word (List.mem_filter.mp h).2
theorem xi_goodIn {y : MethodName} {cy : ByteArray} {nY : Nat} {ret : Option FieldType} (h : Cond.code y cy nY ret ∈ xi_G) : GoodIn xi_G (.code y cy nY ret :: xi_G) := by
  intro w hw
  rcases List.mem_cons.mp hw with rfl | hw
  · exact ⟨h, xi_good h⟩
  · exact ⟨hw, xi_good hw⟩
section XC
variable {p : Program} {l : Launch} {e : Env} {R : Room} {s : State} {m : MethodId} {args : Array Value} {below : List Frame} {meth : Method} {c : Code} {Q : State → Prop} {nL b0 : Nat} {aS : Nat → Nat} {dA : Nat → ClassId} {D : va_G} {n0 s0 : Nat}
variable {H : Heap} {locs : List Loc} {cells slots : Nat} {A A' : xi_H} {cc : ByteArray} {own : String} {pc i : Nat} {lv : xi_L} {y : MethodName} {cy : ByteArray} {nY : Nat} {ret : Option FieldType} {fr' lo' : Nat} {v : Option Value} {As rest : List Value} {b : Nat}
theorem xi_hz {T : State} (hR : xi_R b0 aS dA D n0 s0 s.heap A H locs) (hT : T.heap = H) (X : Stand p l e R s m args below meth c T locs (A.length - n0) slots) : H.size = b0 + A.length := by
  obtain ⟨hP, -, hn, -, hs, h0⟩ := hR
  have h1 := X.heapSize
  rw [hT] at h1
  have hlt : A.length - 1 < A.length := by omega
  have h2 := (hP _ _ (xi_w_get (List.getElem?_eq_getElem hlt))).lt
  simp only at h2
  omega
theorem xi_old (hR : xi_R b0 aS dA D n0 s0 s.heap A H locs) : ∀ q : Nat, q < b0 → H[q]? = s.heap[q]? := fun q hq => by
  have h := hR.2.2.2.2.1
  exact hR.2.1.2.1 q (by omega) (by omega)
theorem xi_pre (hR : xi_R b0 aS dA D n0 s0 s.heap A H locs) (hz : H.size = b0 + A.length) (hK : va_K D xi_cl (xi_tys dA) s) (hstr : xi_St b0 aS s) (vs : List Value) : ∀ U : State, U.heap = H → s.WarmedH U.vm → xi_Pc b0 aS dA D vs A (vs.map (xi_v b0 aS)).toArray U := by
  intro U hU hW
  exact ⟨rfl, by rw [hU]; exact hR.1, by rw [hU]; exact hz, va_K.moved hW.alike hK, hstr.warm hW (fun q hq => by rw [hU]; exact xi_old hR q hq)⟩
theorem xi_callK {ls : Array Slot} {st0 : List Value} {a : Array Value} {mc ms : Nat} (hr : va_Run p l e R s m args below meth c H locs cells slots mc ms (F0 m pc ls st0) rest (xi_Qc b0 aS dA D (.returned v) A' a) (fun q => b0 ≤ q)) (hS : va_S (fun q => b0 ≤ q) s.heap H locs)
    (kk : ∀ (H1 : Heap) (locs1 : List Loc), va_P D xi_cl (xi_w b0 aS dA A') H1 → va_S (fun q => b0 ≤ q) s.heap H1 locs1 → W p l e R s m args below meth c H1 locs1 (cells + mc) (slots + ms) Q (F0 m (pc + 3) ls ((v.map (xi_v b0 aS)).toList ++ rest))) : W p l e R s m args below meth c H locs cells slots Q (F0 m pc ls st0) := by
  intro T hT X
  obtain ⟨v', st₀, t, T', L, h0, X', hL, e1, e2, ⟨hv, hP, hz, hk⟩, st⟩ := hr T hT X
  have hv' : v' = v.map (xi_v b0 aS) := Outcome.returned.inj hv
  subst hv'
  rw [h0] at hz hk
  obtain ⟨t2, a1, b1⟩ := kk T'.heap (locs ++ L) (by rw [e1]; exact hP) ⟨Nat.le_trans hS.1 (by rw [e1]; exact hz), fun q h1 h2 => by rw [e1, hk q (Nat.lt_of_lt_of_le h1 hS.1) h2]; exact hS.2.1 q h1 h2, fun q hq => by
      rcases List.mem_append.mp hq with h | h
      · exact hS.2.2 q h
      · exact hL q h⟩ T' rfl X'
  exact ⟨t2, st t2 a1, b1⟩
/-- behind a call -/
theorem xi_back {ls : Array Slot} {st0 : List Value} {a : Array Value} (hR : xi_R b0 aS dA D n0 s0 s.heap A H locs) (hl : lv_has ls nL (xi_l b0 aS lv)) (hA1 : A.length ≤ A'.length) (hA2 : xi_ns A ≤ xi_ns A')
    (hr : va_Run p l e R s m args below meth c H locs (A.length - n0) (xi_ns A - s0) (A'.length - A.length) (xi_ns A' - xi_ns A) (F0 m pc ls st0) (rest.map (xi_v b0 aS)) (xi_Qc b0 aS dA D (.returned v) A' a) (fun q => b0 ≤ q))
    (kk : xi_At (p, l, e, R, s, m, args, below, meth, c, Q, nL, b0, aS, dA, D, n0, s0) (pc + 3) lv (v.toList ++ rest) A') : W p l e R s m args below meth c H locs (A.length - n0) (xi_ns A - s0) Q (F0 m pc ls st0) := by
  have h1 := hR.2.2.1
  have h2 := hR.2.2.2.1
  refine xi_callK hr hR.2.1 (fun H1 locs1 hP1 hS1 => ?_)
  have k1 := kk H1 locs1 ls ⟨hP1, hS1, by omega, by omega, hR.2.2.2.2⟩ hl
  rw [show A.length - n0 + (A'.length - A.length) = A'.length - n0 by omega, show xi_ns A - s0 + (xi_ns A' - xi_ns A) = xi_ns A' - s0 by omega]
  have e1 : (v.map (xi_v b0 aS)).toList ++ rest.map (xi_v b0 aS) = (v.toList ++ rest).map (xi_v b0 aS) := by cases v <;> simp
  rw [e1]
  exact k1
theorem xi_room (h : (rest.map fun v => v.category).sum ≤ 8) : ((rest.map (xi_v b0 aS)).map fun v => v.category).sum ≤ 8 := by
  rw [List.map_map]
  simpa [Function.comp_def, xi_v_cat] using h
theorem xs_callV {ci : Nat} {fs : List Value} {T : u_T} {N : Nat} (X : xi_X (p, l, e, R, s, m, args, below, meth, c, Q, nL, b0, aS, dA, D, n0, s0) cc own) (hd : decode cc pc = .ok (.invokevirtual i, 3))
    (hM : xi_Met l y (.code y cy nY ret :: xi_G) { frames := fr', cells := A'.length - A.length, slots := xi_ns A' - xi_ns A, locals := lo' } (xi_Pc b0 aS dA D (.ref b :: As) A) (xi_Qc b0 aS dA D (.returned v) A') (A'.length - A.length) (xi_ns A' - xi_ns A) (fun q => b0 ≤ q))
    (hA1 : A.length ≤ A'.length) (hA2 : xi_ns A ≤ xi_ns A') (hE1 : A'.length - n0 ≤ R.cells) (hE2 : xi_ns A' - s0 ≤ R.slots) (hfr : fr' + 1 ≤ R.frames) (hlo : 8 + (nY + 11) + lo' ≤ R.locals)
    (hw1 : Cond.methodLink own i y ∈ xi_G) (hw2 : Cond.instanceMethod y ∈ xi_G) (hw3 : Cond.selects y.cls y y ∈ xi_G) (hw4 : Cond.initialized y.cls ∈ xi_G) (hw5 : Cond.code y cy nY ret ∈ xi_G)
    (hy : y.cls ≠ "java/lang/invoke/MethodHandle" ∧ y.cls ≠ "java/lang/invoke/VarHandle") (hn : (parseMethodDescriptor y.desc).map (fun d => d.parameters.length) = some As.length)
    (hb : A[b]? = some (.inr (ci, fs))) (hc : xi_cl[ci]? = some (y.cls, T, N)) (h8 : (rest.map fun v => v.category).sum ≤ 8)
    (kk : xi_At (p, l, e, R, s, m, args, below, meth, c, Q, nL, b0, aS, dA, D, n0, s0) (pc + 3) lv (v.toList ++ rest) A') :
    xi_At (p, l, e, R, s, m, args, below, meth, c, Q, nL, b0, aS, dA, D, n0, s0) pc lv (As.reverse ++ .ref b :: rest) A := by
  obtain ⟨hx, hbb, hml, hown, hts, hK, hstr⟩ := X
  intro H locs ls hR hl T0 hT0 X0
  have hz := xi_hz hR hT0 X0
  have h1 := hR.2.2.1
  have h2 := hR.2.2.2.1
  have hgood : GoodIn xi_G (wsV own i y.cls y (.code y cy nY ret :: xi_G)) := by
    intro w hw
    rcases List.mem_append.mp hw with hw | hw
    · simp only [List.mem_cons, List.not_mem_nil, or_false] at hw
      rcases hw with rfl | rfl | rfl | rfl
      · exact ⟨hw1, xi_good hw1⟩
      · exact ⟨hw2, xi_good hw2⟩
      · exact ⟨hw3, xi_good hw3⟩
      · exact ⟨hw4, xi_good hw4⟩
    · exact xi_goodIn hw5 w hw
  have hst : (As.reverse ++ Value.ref b :: rest).map (xi_v b0 aS) = (As.map (xi_v b0 aS)).reverse ++ .ref (b0 + b) :: rest.map (xi_v b0 aS) := by simp [xi_v]
  rw [hst]
  refine xi_back hR hl hA1 hA2 (va_runV (C := y.cls) (b := b0 + b) (As := As.map (xi_v b0 aS)) (rest := rest.map (xi_v b0 aS)) ⟨hx, hbb, hml, hown, hts⟩ hM.ret (cwV As.length hts hgood rfl rfl rfl ⟨rfl, hy.1, hy.2, hn⟩ ⟨hfr, hlo⟩) ⟨xi_Pc_blind, va_recv hK hR.1 hc (xi_w_get hb), xi_pre hR hz hK hstr (.ref b :: As)⟩ rfl (by simp) hl.1 rfl (lv_room (xi_room h8)) hd ⟨by show A.length - n0 + (A'.length - A.length) ≤ R.cells; omega, by show xi_ns A - s0 + (xi_ns A' - xi_ns A) ≤ R.slots; omega⟩) kk T0 hT0 X0
theorem xs_callS (X : xi_X (p, l, e, R, s, m, args, below, meth, c, Q, nL, b0, aS, dA, D, n0, s0) cc own) (hd : decode cc pc = .ok (.invokestatic i, 3))
    (hM : xi_Met l y (.code y cy nY ret :: xi_G) { frames := fr', cells := A'.length - A.length, slots := xi_ns A' - xi_ns A, locals := lo' } (xi_Pc b0 aS dA D As A) (xi_Qc b0 aS dA D (.returned v) A') (A'.length - A.length) (xi_ns A' - xi_ns A) (fun q => b0 ≤ q))
    (hA1 : A.length ≤ A'.length) (hA2 : xi_ns A ≤ xi_ns A') (hE1 : A'.length - n0 ≤ R.cells) (hE2 : xi_ns A' - s0 ≤ R.slots) (hfr : fr' + 1 ≤ R.frames) (hlo : 8 + (nY + 11) + lo' ≤ R.locals)
    (hw1 : Cond.methodLink own i y ∈ xi_G) (hw2 : Cond.static y ∈ xi_G) (hw4 : Cond.initialized y.cls ∈ xi_G) (hw5 : Cond.code y cy nY ret ∈ xi_G)
    (hy : y.cls ≠ "java/lang/invoke/MethodHandle" ∧ y.cls ≠ "java/lang/invoke/VarHandle") (hn : (parseMethodDescriptor y.desc).map (fun d => d.parameters.length) = some As.length) (h8 : (rest.map fun v => v.category).sum ≤ 8)
    (kk : xi_At (p, l, e, R, s, m, args, below, meth, c, Q, nL, b0, aS, dA, D, n0, s0) (pc + 3) lv (v.toList ++ rest) A') :
    xi_At (p, l, e, R, s, m, args, below, meth, c, Q, nL, b0, aS, dA, D, n0, s0) pc lv (As.reverse ++ rest) A := by
  obtain ⟨hx, hbb, hml, hown, hts, hK, hstr⟩ := X
  intro H locs ls hR hl T0 hT0 X0
  have hz := xi_hz hR hT0 X0
  have h1 := hR.2.2.1
  have h2 := hR.2.2.2.1
  have hst : (As.reverse ++ rest).map (xi_v b0 aS) = (As.map (xi_v b0 aS)).reverse ++ rest.map (xi_v b0 aS) := by simp
  rw [hst]
  refine xi_back hR hl hA1 hA2 (va_runS (As := As.map (xi_v b0 aS)) (rest := rest.map (xi_v b0 aS)) ⟨hx, hbb, hml, hown, hts⟩ hM.ret ⟨callB_of As.length hts (xi_goodIn hw5) rfl rfl rfl (hts _ hw4) (hts _ hw1) ⟨hy.1, hy.2, hn⟩ ⟨hfr, hlo⟩, hts _ hw2⟩ ⟨xi_Pc_blind, xi_pre hR hz hK hstr As⟩ rfl (by simp) hl.1 rfl (lv_room (xi_room h8)) hd ⟨by show A.length - n0 + (A'.length - A.length) ≤ R.cells; omega, by show xi_ns A - s0 + (xi_ns A' - xi_ns A) ≤ R.slots; omega⟩) kk T0 hT0 X0
theorem xs_callI (X : xi_X (p, l, e, R, s, m, args, below, meth, c, Q, nL, b0, aS, dA, D, n0, s0) cc own) (hd : decode cc pc = .ok (.invokespecial i, 3))
    (hM : xi_Met l y (.code y cy nY none :: xi_G) { frames := fr', cells := A'.length - A.length, slots := xi_ns A' - xi_ns A, locals := lo' } (xi_Pc b0 aS dA D (.ref b :: As) A) (xi_Qc b0 aS dA D (.returned v) A') (A'.length - A.length) (xi_ns A' - xi_ns A) (fun q => b0 ≤ q))
    (hA1 : A.length ≤ A'.length) (hA2 : xi_ns A ≤ xi_ns A') (hE1 : A'.length - n0 ≤ R.cells) (hE2 : xi_ns A' - s0 ≤ R.slots) (hfr : fr' + 1 ≤ R.frames) (hlo : 8 + (nY + 11) + lo' ≤ R.locals)
    (hw1 : Cond.methodLink own i y ∈ xi_G ∨ ∃ host, Cond.methodLinkNest own i y host ∈ xi_nest) (hw2 : Cond.instanceMethod y ∈ xi_G) (hw4 : Cond.initialized y.cls ∈ xi_G) (hw5 : Cond.code y cy nY none ∈ xi_G) (hnm : y.name = "<init>")
    (hy : y.cls ≠ "java/lang/invoke/MethodHandle" ∧ y.cls ≠ "java/lang/invoke/VarHandle") (hn : (parseMethodDescriptor y.desc).map (fun d => d.parameters.length) = some As.length) (h8 : (rest.map fun v => v.category).sum ≤ 8)
    (kk : xi_At (p, l, e, R, s, m, args, below, meth, c, Q, nL, b0, aS, dA, D, n0, s0) (pc + 3) lv (v.toList ++ rest) A') :
    xi_At (p, l, e, R, s, m, args, below, meth, c, Q, nL, b0, aS, dA, D, n0, s0) pc lv (As.reverse ++ .ref b :: rest) A := by
  obtain ⟨hx, hbb, hml, hown, hts, hK, hstr⟩ := X
  intro H locs ls hR hl T0 hT0 X0
  have hz := xi_hz hR hT0 X0
  have h1 := hR.2.2.1
  have h2 := hR.2.2.2.1
  have hst : (As.reverse ++ Value.ref b :: rest).map (xi_v b0 aS) = (As.map (xi_v b0 aS)).reverse ++ .ref (b0 + b) :: rest.map (xi_v b0 aS) := by simp [xi_v]
  rw [hst]
  rcases hw1 with hw1 | ⟨host, hw1⟩
  · exact xi_back hR hl hA1 hA2 (va_runI (b := b0 + b) (As := As.map (xi_v b0 aS)) (rest := rest.map (xi_v b0 aS)) ⟨hx, hbb, hml, hown, hts⟩ hM.ret (cwI As.length hts (xi_goodIn hw5) rfl rfl rfl (hts _ hw4) (hts _ hw1) (hts _ hw2) hnm ⟨hy.1, hy.2, hn⟩ ⟨hfr, hlo⟩) ⟨xi_Pc_blind, xi_pre hR hz hK hstr (.ref b :: As)⟩ rfl (by simp) hl.1 rfl (lv_room (xi_room h8)) hd ⟨by show A.length - n0 + (A'.length - A.length) ≤ R.cells; omega, by show xi_ns A - s0 + (xi_ns A' - xi_ns A) ≤ R.slots; omega⟩) kk T0 hT0 X0
  · exact xi_back hR hl hA1 hA2 (va_runIN (b := b0 + b) (As := As.map (xi_v b0 aS)) (rest := rest.map (xi_v b0 aS)) ⟨hx, hbb, hml, hown, hts⟩ hM.ret ⟨va_cnB As.length hts (xi_goodIn hw5) rfl rfl rfl (hstr.2.1 _ hw1) (hts _ hw4) ⟨hy.1, hy.2, hn⟩ ⟨hfr, hlo⟩, hnm, hts _ hw2⟩ ⟨xi_Pc_blind, xi_pre hR hz hK hstr (.ref b :: As)⟩ rfl (by simp) hl.1 rfl (lv_room (xi_room h8)) hd ⟨by show A.length - n0 + (A'.length - A.length) ≤ R.cells; omega, by show xi_ns A - s0 + (xi_ns A' - xi_ns A) ≤ R.slots; omega⟩) kk T0 hT0 X0
theorem xs_obj (X : xi_X (p, l, e, R, s, m, args, below, meth, c, Q, nL, b0, aS, dA, D, n0, s0) cc own) (hd : decode cc pc = .ok (.invokespecial i, 3)) (hw1 : Cond.methodLink own i Lib.objectInit ∈ xi_G) (hw2 : Cond.instanceMethod Lib.objectInit ∈ xi_G) (hw5 : Cond.code Lib.objectInit ⟨#[0xb1]⟩ 1 none ∈ xi_G)
    (hfr : 1 ≤ R.frames) (hlo : 20 ≤ R.locals) (h8 : (rest.map fun v => v.category).sum ≤ 8) (kk : xi_At (p, l, e, R, s, m, args, below, meth, c, Q, nL, b0, aS, dA, D, n0, s0) (pc + 3) lv rest A) :
    xi_At (p, l, e, R, s, m, args, below, meth, c, Q, nL, b0, aS, dA, D, n0, s0) pc lv (.ref b :: rest) A := by
  obtain ⟨hx, hbb, hml, hown, hts, hK, hstr⟩ := X
  intro H locs ls hR hl
  have h9 := xi_room (b0 := b0) (aS := aS) h8
  exact W.objInit (a := b0 + b) (rest := rest.map (xi_v b0 aS)) hx hbb hown (hts _ hw1) (hts _ hw2) (hts _ hw5) rfl (hl.1.trans hml.symm) rfl hd hfr (by show 2 * 0 + _ + 12 ≤ R.locals; omega) (kk H locs ls hR hl)
end XC
end
section
/-! THROWS: 'new X(text)' thrown; a callee's throw that leaves, or is caught -/
section XT
variable {p : Program} {l : Launch} {e : Env} {R : Room} {s : State} {m : MethodId} {args : Array Value} {below : List Frame} {meth : Method} {c : Code} {T : State} {locs : List Loc} {cells slots : Nat}
theorem xi_hears {u U : State} (h : u.vm.Alike U.vm) (hh : u.hears m below = true) : U.hears m below = true := by
  have hc : ∀ x, U.code? x = u.code? x := fun x => by rw [State.code?_eq, State.code?_eq, h.method?]
  cases below with
  | nil => simpa only [State.hears, h.method?] using hh
  | cons f r => cases f <;> simpa only [State.hears, hc, h.method?] using hh
/-- the walk seen as one that begins here -/
theorem xi_rebase (X : Stand p l e R s m args below meth c T locs cells slots) {R' : Room} (hf : R'.frames ≤ R.frames) (hl : R'.locals ≤ R.locals) (hc : cells + R'.cells ≤ R.cells) (hs : slots + R'.slots ≤ R.slots) :
    Stand p l e R' (T.setFrames (.invoking m args :: below)) m args below meth c T [] 0 0 := by
  obtain ⟨g₀, hfr⟩ := X.frames_eq
  have hcur : T.cur < T.threads.size := State.cur_lt_of_frames hfr
  have hF : (T.setFrames (.invoking m args :: below)).frames = .invoking m args :: below := State.frames_setFrames _ hcur
  have h1 := X.room
  have hus := X.used
  have hhs := X.heapSize
  simp only [State.hasRoom, Bool.and_eq_true, decide_eq_true_eq] at h1
  rw [State.localsInUse_invoking X.frames X.method X.code, X.frames] at h1
  have hbook := X.book
  obtain ⟨th, hth, -⟩ := State.frames_cons hfr
  refine ⟨X.admits, X.cas, X.clock, hF, ?_, xi_hears X.warmed.alike X.hears, X.method', X.code, X.here, X.tail, State.WarmedH.refl T, by rw [State.stackLimits_setFrames], by rw [State.stackBytes_setFrames], ?_⟩
  · have e1 : (T.setFrames (.invoking m args :: below)).localsInUse = stackWeight below + vmFrameWords + (c.maxLocals + 11) := State.localsInUse_invoking hF X.method' X.code
    simp only [State.hasRoom, Bool.and_eq_true, decide_eq_true_eq]
    rw [e1, hF, State.stackLimits_setFrames, State.stackBytes_setFrames, X.limits, X.bytes]
    refine ⟨⟨⟨⟨by omega, by omega, by omega, by omega, by omega, h1.1.1.1.2.2.2.2.2⟩, ?_⟩, ?_⟩, hbook⟩
    · show T.heap.size + R'.cells ≤ _
      omega
    · show T.slotsUsed + R'.slots ≤ _
      omega
  · obtain ⟨th2, hth2, -⟩ := State.frames_cons hF
    have h2 := (State.sameButNew.refl (T.setFrames (.invoking m args :: below)) hth2).setFrames T.frames (State.cur_lt_of_frames hF)
    rw [State.setFrames_setFrames, State.setFrames_self hth] at h2
    exact h2
theorem xi_same_unframe {V : State} {L : List Loc} {k n : Nat} {F : List Frame} (h : (T.setFrames F).sameButNew V L k n) : T.sameButNew V L k n := by
  obtain ⟨h1, h2⟩ := h
  rw [State.setFrames_setFrames] at h1
  exact ⟨h1, h2⟩
theorem xi_same_cells {V : State} {k n : Nat} {F : List Frame} (h : (T.setFrames F).sameButNew V [] k n) : ∀ q : Nat, q < T.heap.size → V.heap[q]? = T.heap[q]? := by
  intro q hq
  obtain ⟨cl, hcl⟩ : ∃ cl, T.heap[q]? = some cl := ⟨_, Array.getElem?_eq_getElem hq⟩
  obtain ⟨c', h1, h2, h3, h4⟩ := h.2.2.2.2.2 q cl hcl
  rw [h1, hcl]
  have e1 : c'.slots = cl.slots := Array.ext_getElem? (fun i => h4 i (by simp))
  rw [h2, e1]
end XT
def xi_isr0 : Cond := .isRef (.static "java/lang/Throwable" "UNASSIGNED_STACK" "[Ljava/lang/StackTraceElement;")
def xi_isr1 : Cond := .isRef (.static "java/lang/Throwable" "SUPPRESSED_SENTINEL" "Ljava/util/List;")
def xi_atom (a : Cond) : Bool := ((decide (a ∈ lw_tbl) && goodWord a) || decide (a ∈ xi_nest)) || (decide (a = xi_isr0) || decide (a = xi_isr1))
theorem xi_isRef_of {b0 : Nat} {C n d : String} {args : Array Value} {U : State} (h : va_Zq C n d (fun x => b0 ≤ x) U U.heap) : (Cond.isRef (.static C n d)).before args U = true := by
  rcases h with h | ⟨t, h⟩
  · obtain ⟨cf, kf, fi, f, a, cell, h1, h2, h3, h4, h5, h6, h7, -⟩ := h
    simp [Cond.before, Cond.holds, Cond.value, Term.eval, State.fieldNamed?, h1, h2, h4, h5, h6, h7]
  · obtain ⟨cf, kf, fi, f, a, cell, h1, h2, h3, h4, h5, h6, h7, -⟩ := h
    simp [Cond.before, Cond.holds, Cond.value, Term.eval, State.fieldNamed?, h1, h2, h4, h5, h6, h7]
theorem xi_nest_tab {w : Cond} (h : w ∈ xi_nest) : w.onTables = true := by
  simp only [xi_nest, List.mem_cons, List.not_mem_nil, or_false] at h
  rcases h with rfl | rfl | rfl | rfl | rfl | rfl | rfl | rfl | rfl | rfl | rfl | rfl | rfl | rfl | rfl | rfl <;> rfl
theorem xi_atom_at {b0 : Nat} {aS : Nat → Nat} {args : Array Value} {U : State} {a : Cond} (h : xi_atom a = true) (hts : ∀ w ∈ xi_G, w.before args U = true) (hst : xi_St b0 aS U) : a.before args U = true := by
  simp only [xi_atom, Bool.or_eq_true, Bool.and_eq_true, decide_eq_true_eq] at h
  rcases h with (⟨h1, h2⟩ | h) | h | h
  · exact hts a (List.mem_filter.mpr ⟨h1, h2⟩)
  · exact va_Nw.use (xi_nest_tab h) (hst.2.1 a h)
  · rw [h]
    exact xi_isRef_of (hst.2.2.2 ("java/lang/Throwable", "UNASSIGNED_STACK", "[Ljava/lang/StackTraceElement;") (by simp [xi_stq]))
  · rw [h]
    exact xi_isRef_of (hst.2.2.2 ("java/lang/Throwable", "SUPPRESSED_SENTINEL", "Ljava/util/List;") (by simp [xi_stq]))
section XT2
variable {p : Program} {l : Launch} {e : Env} {R : Room} {s : State} {m : MethodId} {args : Array Value} {below : List Frame} {meth : Method} {c : Code} {nL b0 : Nat} {aS : Nat → Nat} {dA : Nat → ClassId} {D : va_G} {n0 s0 : Nat}
variable {A : xi_H} {cc : ByteArray} {own : String} {pc : Nat} {lv : xi_L}
set_option maxHeartbeats 1000000 in
theorem xs_throw {Q : State → Prop} {ci j i i1 i2 : Nat} {Xn tx : String} {T : u_T} {st : List Value} {mc ms : Nat} (X : xi_X (p, l, e, R, s, m, args, below, meth, c, Q, nL, b0, aS, dA, D, n0, s0) cc own) (htr : e.platform.stackTraces = false) (hlocks : meth.locks = false) (hout : ∀ x ∈ c.exceptionTable.toList, covers x (pc + 9) = false)
    (hd0 : decode cc pc = .ok (.new i, 3)) (hd3 : decode cc (pc + 3) = .ok (.dup, 1)) (hd4 : decode cc (pc + 4) = .ok (.ldc i1, 2)) (hd6 : decode cc (pc + 6) = .ok (.invokespecial i2, 3)) (hd9 : decode cc (pc + 9) = .ok (.athrow, 1))
    (hc : xi_cl[ci]? = some (Xn, T, 0)) (hw1 : Cond.classLink own i Xn ∈ xi_G) (hw2 : Cond.instantiable Xn 6 ∈ xi_G) (hw3 : Cond.initialized Xn ∈ xi_G) (hj : xi_str[j]? = some (own, i1, tx)) (hfit : Bundle.fit Xn = true)
    (hat : ∀ a ∈ Bundle.ownAtoms own i2 Xn ["java/lang/RuntimeException", "java/lang/Exception"], xi_atom a = true)
    (hE1 : (A ++ [(.inr (ci, List.replicate 6 .null) : xi_E)]).length - n0 ≤ R.cells) (hE2 : xi_ns (A ++ [(.inr (ci, List.replicate 6 .null) : xi_E)]) - s0 ≤ R.slots) (hfr : 6 ≤ R.frames) (hlo : 100 ≤ R.locals) (h8 : (st.map fun v => v.category).sum ≤ 8)
    (hQ : ∀ t, xi_MQ below (xi_Qc b0 aS dA D (.threw A.length) (A ++ [.inr (ci, List.replicate 6 .null)])) args s ((A ++ [(.inr (ci, List.replicate 6 .null) : xi_E)]).length - n0) (xi_ns (A ++ [(.inr (ci, List.replicate 6 .null) : xi_E)]) - s0) (fun q => b0 ≤ q) t → Q t) :
    xi_At (p, l, e, R, s, m, args, below, meth, c, Q, nL, b0, aS, dA, D, n0, s0) pc lv st A := by
  obtain ⟨hx, hbb, hml, hown, hts, hK, hstr⟩ := X
  intro H locs ls hR hl T0 hT0 X0
  have hz := xi_hz hR hT0 X0
  have h1 := hR.2.2.1
  have h2 := hR.2.2.2.1
  have hn6 : xi_n (.inr (ci, List.replicate 6 .null)) = 6 := rfl
  rw [xi_ns_push, hn6] at hE2 hQ
  simp only [List.length_append, List.length_singleton] at hE1 hQ
  generalize hs' : T0.setFrames (.invoking m args :: below) = s' 
  have X1 : Stand p l e { frames := 6, cells := 1, slots := 6, locals := 100 } s' m args below meth c T0 [] 0 0 := by
    rw [← hs']
    exact xi_rebase X0 hfr hlo (by show A.length - n0 + 1 ≤ R.cells; omega) (by show xi_ns A - s0 + 6 ≤ R.slots; omega)
  have hvm' : s'.vm = T0.vm := by rw [← hs']; rfl
  have hhp' : s'.heap = T0.heap := by rw [← hs']; rfl
  have hW0 : s.WarmedH s'.vm := by rw [hvm']; exact X0.warmed
  have hts' : ∀ w ∈ xi_G, w.before args s' = true := fun w hw => word_at hW0 (xi_good hw) (hts w hw)
  have hst' : xi_St b0 aS s' := hstr.warm hW0 (fun q hq => by rw [hhp', hT0]; exact xi_old hR q hq)
  have hown' : s'.vm.findClass own = some m.cls := by rw [hW0.alike.findClass]; exact hown
  have hcls := (hK.1 ci _ hc).2.1
  have hcls' : s'.vm.findClass Xn = some (D.1 ci) := by rw [hW0.alike.findClass]; exact hcls
  have key : W p l e { frames := 6, cells := 1, slots := 6, locals := 100 } s' m args below meth c H [] 0 0 (fun U => U.status = .running ∧ Ended U below (.threw H.size) ∧ s'.WarmedH U.vm ∧ s'.sameButNew ({ U with vm := s'.vm } : State) [] 1 6 ∧ ∃ ce, U.heap[H.size]? = some ce ∧ s'.vm.findClass Xn = some ce.cls ∧ ce.vm = .none) (F0 m pc ls (st.map (xi_v b0 aS))) := by
    refine W.newcK (n := 6) hx hbb hown' (hts' _ hw1) (hts' _ hw2) (hts' _ hw3) rfl hd0 (Nat.le_refl 1) (Nat.le_refl 6) hcls' rfl (fun H1 kC hkC e1 z1 o1 => ?_)
    refine lv_dup hx hbb hd3 rfl ?_
    refine va_ldcS hx hbb hown' (hst'.1 j _ hj) hd4 ?_
    intro T1 hT1 X2
    obtain ⟨U, u1, u2, u3, u4, u5, ce, u6, u7⟩ := X2.ctorThrowS hx htr (own := own) (cls := Xn) (names := ["java/lang/RuntimeException", "java/lang/Exception"]) (ic := i2) hown' hfit (by decide) (fun a ha => xi_atom_at (hat a ha) hts' hst') (fun x hx => by cases hx) (a := H.size) hcls' hkC (by rw [hT1]; exact e1) (by rw [hhp', hT0]; exact Nat.le_refl _) (msg := .ref (aS j)) rfl (g := F0 m (pc + 6) ls (.ref (aS j) :: .ref H.size :: .ref H.size :: st.map (xi_v b0 aS))) rfl (hl.1.trans hml.symm) rfl rfl (rest := st.map (xi_v b0 aS)) rfl (by rw [hbb]; exact hd6) (by rw [hbb]; exact hd9) hout (by decide) (by
        have h9 := xi_room (b0 := b0) (aS := aS) h8
        show 2 * 0 + ((Value.ref H.size :: st.map (xi_v b0 aS)).map fun v => v.category).sum + _ ≤ 100
        simp only [List.map_cons, List.sum_cons, List.length_cons, List.length_nil, Value.category] at h9 ⊢
        omega) hlocks
    exact ⟨U, u1, u2, u3, u4, u5, ce, u6, u7.cls, u7.vm⟩
  obtain ⟨U, u1, u2, u3, u4, u5, ce, u6, u7, u8⟩ := key T0 hT0 X1
  refine ⟨U, u1, hQ U ⟨.threw H.size, u2, u3, ?_, ?_⟩⟩
  · have hold : ∀ q : Nat, q < H.size → U.heap[q]? = H[q]? := by
      intro q hq
      have h3 := xi_same_cells (T := T0) (F := .invoking m args :: below) (V := ({ U with vm := s'.vm } : State)) (k := 1) (n := 6) (by rw [hs']; exact u5) q (by rw [hT0]; exact hq)
      rw [hT0] at h3
      exact h3
    refine ⟨by rw [hz]; rfl, ?_, ?_, ?_⟩
    · intro k q hk
      rw [← xi_w_push] at hk
      by_cases hlt : k < A.length
      · rw [List.getElem?_append_left (by rw [xi_w_len]; exact hlt)] at hk
        have h3 := hR.1 k q hk
        exact h3.kept (hold q.1 h3.lt)
      · rw [List.getElem?_append_right (by rw [xi_w_len]; omega)] at hk
        have hz0 : k - (xi_w b0 aS dA A).length < 1 := (List.getElem?_eq_some_iff.mp hk).1
        rw [show k - (xi_w b0 aS dA A).length = 0 by omega] at hk
        cases hk
        refine ⟨_, hc, ce, by rw [← hz]; exact u6, ?_, u8, fun k hk => absurd hk (Nat.not_lt_zero k)⟩
        exact Option.some.inj (u7.symm.trans hcls')
    · have h3 : s'.heap.size ≤ U.heap.size := u5.2.1
      rw [hhp', hT0] at h3
      exact Nat.le_trans hR.2.1.1 h3
    · intro q hq1 hq2
      have hq3 : q < H.size := Nat.lt_of_lt_of_le hq1 hR.2.1.1
      rw [hold q hq3]
      exact hR.2.1.2.1 q hq1 hq2
  · have h3 := X0.same.trans ((xi_same_unframe (T := T0) (F := .invoking m args :: below) (V := ({ U with vm := s'.vm } : State)) (by rw [hs']; exact u5)).setVm s.vm)
    refine ⟨locs ++ [], ⟨State.WarmedH.trans hW0 u4, ?_⟩, fun q hq => hR.2.1.2.2 q (by simpa using hq)⟩
    rw [show A.length + 1 - n0 = A.length - n0 + 1 by omega, show xi_ns A + 6 - s0 = xi_ns A - s0 + 6 by omega]
    exact h3
end XT2
end
section
/-! A CALLEE's THROW -/
section XU
variable {p : Program} {l : Launch} {e : Env} {R : Room} {s : State} {m : MethodId} {args : Array Value} {below : List Frame} {meth : Method} {c : Code} {T : State} {locs : List Loc} {cells slots : Nat}
theorem xi_callT (X : Stand p l e R s m args below meth c T locs cells slots) (hexec : p.tables.exec = Jvm.exec) {own : String} {i : Nat} {y : MethodName} {cy : ByteArray} {nY : Nat} {ret : Option FieldType} {ws : List Cond} {rm : Room} {Pc : Array Value → State → Prop} {Qc : Array Value → State → Outcome → State → Prop} {mc ms : Nat} {free : Addr → Prop}
    (hown : s.vm.findClass own = some m.cls) (hlink : (Cond.methodLink own i y).before args s = true) (hinst : (Cond.instanceMethod y).before args s = true) (hsel : (Cond.selects y.cls y y).before args s = true) (hini : (Cond.initialized y.cls).before args s = true) (hcode : (Cond.code y cy nY ret).before args s = true) (hy : y.cls ≠ "java/lang/invoke/MethodHandle" ∧ y.cls ≠ "java/lang/invoke/VarHandle")
    (hM : xi_Met l y ws rm Pc Qc mc ms free) (hthr : ∀ a st o t, Qc a st o t → ∃ x, o = .threw x) (hblind : FrameBlind Pc) (hws : ∀ w ∈ ws, ∀ (a' : Array Value) (U : State), s.WarmedH U.vm → w.before a' U = true)
    (hframes : rm.frames + 1 ≤ R.frames) (hlocals : 8 + (nY + 11) + rm.locals ≤ R.locals) (hcells : cells + rm.cells ≤ R.cells) (hslots : slots + rm.slots ≤ R.slots)
    {b : Addr} {cellB : Cell} (hcell : T.heap[b]? = some cellB) (hobj : cellB.vm.isStatics = false) (hcls : s.vm.findClass y.cls = some cellB.cls)
    {g : JFrame} (hg : g.method = m) (hsize : g.locals.size = c.maxLocals) {argsL rest : List Value} (hlen : ∀ sig, parseMethodDescriptor y.desc = some sig → argsL.length = sig.parameters.length)
    (hstack : g.stack = argsL.reverse ++ .ref b :: rest) (hW : 2 * g.monitorRoom + (rest.map fun v => v.category).sum ≤ 8) (hdg : decode c.code g.pc = .ok (.invokevirtual i, 3))
    (hpre : ∀ vm₁, s.WarmedH vm₁ → Pc (Value.ref b :: argsL).toArray (T.setVm vm₁)) :
    ∃ (x : Addr) (st₀ t T' : State) (L : List Loc), st₀.heap = T.heap ∧ Stand p l e R s m args below meth c T' (locs ++ L) (cells + mc) (slots + ms) ∧ (∀ q ∈ L, free q.base) ∧ T'.heap = t.heap ∧ Qc (Value.ref b :: argsL).toArray st₀ (.threw x) t ∧
      ∀ target, Steps p.tables e below ((T'.setTop { g with stack := rest }).pushFrame (.throwing x)) target → Steps p.tables e below (T.setTop g) target := by
  obtain ⟨mk, methM, hnamed, hmethM, hstM, habM⟩ := Cond.instanceMethod_spec hinst
  obtain ⟨methM', cM, hmethM', hcM, -, hlM, -, -, -, hsigM⟩ := Cond.code_spec hnamed hcode
  cases hmethM.symm.trans hmethM'
  obtain ⟨c2, r2, m2, q1, q2, q3, q4, kP, hkP, hkPi⟩ := Cond.selects_spec hsel
  cases hcls.symm.trans q1
  cases (State.methodFound?_of_named hnamed hy).symm.trans q2
  cases hnamed.symm.trans q3
  have hselP : selectMethod e.platform s.vm cellB.cls mk = .method mk := by rw [Launch.admits_selectMethod X.admits]; exact q4
  obtain ⟨vm₁, X₁, hstep₁⟩ := X.invokevirtual hexec hown hlink hnamed hmethM hstM hkP hkPi hy (a := b) (cell := cellB) hcell
    (fun z h => by rw [h] at hobj; cases hobj) hselP hmethM habM hkP hkPi (g := g) hg (argsL := argsL) (rest := rest) (hlen _ hsigM) hstack hdg
  have hn₁ : (T.setVm vm₁).methodNamed? y = some mk := X₁.named hnamed
  have hW₁ : s.WarmedH vm₁ := X₁.warmed
  obtain ⟨kY, hkY, -⟩ := className_of_methodNamed hn₁
  have hini₁ : (Cond.initialized y.cls).before (Value.ref b :: argsL).toArray (T.setVm vm₁) = true := word_at hW₁ (Or.inl rfl) hini
  have hinitY : kY.init = .initialized := Cond.initialized_spec (findClass_of_methodNamed hn₁) hkY hini₁
  have h : At (T.setVm vm₁) g.method c below := by rw [hg]; exact X₁.here
  have hmM : (T.setVm vm₁).vm.method? mk = some methM := by
    show vm₁.method? mk = _
    rw [hW₁.alike.method?]; exact hmethM
  have happ : (headSpec ws rm).appliesLoose y e.platform ((T.setVm vm₁).calling { g with stack := rest } mk (Value.ref b :: argsL).toArray) = true :=
    Spec.appliesLoose_calling (g := { g with stack := rest }) h hdg hn₁ hkY hinitY
      (X₁.room_calling (g := { g with stack := rest }) (R' := rm) hsize hmM hcM hframes (by rw [hlM]; show 2 * g.monitorRoom + (rest.map fun v => v.category).sum + (nY + 11) + rm.locals ≤ R.locals; omega) hcells hslots) (atoms_intro fun w hw => hws w hw _ _ hW₁)
  obtain ⟨mid, hmid⟩ := h.above
  have hfr : ((T.setVm vm₁).setTop { g with stack := rest }).frames = (.java { g with stack := rest } :: mid) ++ below := by rw [State.frames_setTop' { g with stack := rest } h.top, hmid]; rfl
  obtain ⟨o, s₂, hsteps, -, hend, hq⟩ := Steps.callFree hM p X.admits X.cas X.clock (acts := []) hfr happ (hblind _ _ _ _ (hpre vm₁ hW₁)) trivial
  rw [State.frames_setTop' { g with stack := rest } h.top, X₁.tail] at hend
  obtain ⟨hQ, L, ⟨hWL, hsame⟩, hL⟩ := hq
  obtain ⟨x, rfl⟩ := hthr _ _ _ _ hQ
  obtain ⟨T', X', -, -, ht⟩ := X₁.outOfThrown (g := { g with stack := rest }) hg hend hWL hsame
  refine ⟨x, (T.setVm vm₁).calling { g with stack := rest } mk (Value.ref b :: argsL).toArray, s₂, T', L, rfl, X', hL, ?_, hQ, fun target hrest => hstep₁ _ fun acts => ?_⟩
  · rw [ht, Stand.throwing_heap]
  · rw [doInvoke_state]
    refine Steps.trans hsteps ?_
    rw [ht]
    exact hrest
/-- what a search through a table that begins with a row for the thrown object's class gives, the row's class resolved or not -/
theorem xi_catch (X : Stand p l e R s m args below meth c T locs cells slots) (a : Addr) {g : JFrame} (hg : g.method = m) {own name : String} (hown : s.vm.findClass own = some m.cls) {x : ExceptionTableEntry} {rest : List ExceptionTableEntry} (hsplit : c.exceptionTable.toList = x :: rest) (hx : covers x g.pc = true) (h0 : x.catchType ≠ 0)
    (hlink : (Cond.classLink own x.catchType name).before args s = true) {cT : ClassId} {cell : Cell} (hcT : s.vm.findClass name = some cT) (hcell : T.heap[a]? = some cell) (hobj : ∀ k, cell.vm ≠ .statics k) (hfit : s.vm.assignable cell.cls cT = true) (hkc : ∃ k, s.vm.classes[cell.cls]? = some k) :
    ∃ vm', Stand p l e R s m args below meth c (T.setVm vm') locs cells slots ∧
      ∀ target, Steps p.tables e below ((T.setVm vm').setTop { g with pc := x.handlerPc, stack := [.ref a] }) target → Steps p.tables e below ((T.setTop g).pushFrame (.throwing a)) target := by
  subst hg
  have hpl : e.platform.magicAccessors = ({} : Platform).magicAccessors := by rw [X.admits.platform]
  obtain ⟨c', hc', hcl⟩ := Cond.classLink_spec hown hlink e.platform hpl
  cases hcT.symm.trans hc'
  obtain ⟨dk, _, _, kt, hd, _, _, _, _, hkt, _, hopen⟩ := hcl.here
  have hal := X.warmed.alike
  obtain ⟨k1, hk1⟩ := hkc
  obtain ⟨k1', hk1', -⟩ := hal.2.2 _ _ hk1
  obtain ⟨kt', hkt', -⟩ := hal.2.2 _ _ hkt
  have hal2 : T.vm.Alike (T.vm.noted g.method.cls x.catchType (.cls cT)) := (Vm.Alike.refl T.vm).noted _ _ _
  obtain ⟨k2, hk2, -⟩ := hal2.2.2 _ _ hk1'
  obtain ⟨kt2, hkt2, -⟩ := hal2.2.2 _ _ hkt'
  have hfit2 : (T.vm.noted g.method.cls x.catchType (.cls cT)).assignable cell.cls cT = true := by rw [hal2.assignable, hal.assignable]; exact hfit
  refine ⟨T.vm.noted g.method.cls x.catchType (.cls cT), X.noted (X.warmed.noted hd hopen (State.rightAt_cls hcl)), fun target hrest => ?_⟩
  obtain ⟨ha, ht⟩ := (resolveClass_links e.toSetting (X.warmed.classLinks hcl)).op (op := VmOp.resolveClass g.method.cls x.catchType) rfl
  simp only [covers] at hx
  have hfind : ∀ (Q : Handler → Pre) (E : CtlPost) (d : Bool) (acts : List Action), wp (findHandler g a) Q E e d acts ((T.setTop g).pushFrame (.throwing a)) ↔ Q (.found x.handlerPc) d acts (((T.setTop g).pushFrame (.throwing a)).setVm (T.vm.noted g.method.cls x.catchType (.cls cT))) := by
    intro Q E d acts
    rw [W.findHandler_eq (meth := meth) (code := c) (by rw [Stand.throwing_vm]; exact X.method') X.code, hsplit]
    simp [findHandler.go, hx, h0, Stand.throwing_vm, Stand.throwing_heap, ha, ht, hcell, hobj, hk2, hkt2, hfit2, VmOp.dirties, VmOp.acts]
  obtain ⟨hgo, hw⟩ := X.here.throwing a
  refine Steps.head hgo hw ?_
  have hstep : (stepThrowing e ((T.setTop g).pushFrame (.throwing a)) a (.java g :: T.frames.tail)).1 = (((T.setTop g).pushFrame (.throwing a)).setVm (T.vm.noted g.method.cls x.catchType (.cls cT))).setFrames (.java { g with pc := x.handlerPc, stack := [.ref a] } :: T.frames.tail) := by
    simp only [stepThrowing, searchFrame, vmDo]
    generalize hr : Sem.go _ e false [] _ = res
    obtain ⟨as, rfl, -⟩ := Sem.eq_ok_of hr (a := Handler.found x.handlerPc) (s' := ((T.setTop g).pushFrame (.throwing a)).setVm (T.vm.noted g.method.cls x.catchType (.cls cT))) (acts' := []) (by simp [hfind _ _ _ _])
    rfl
  rw [stepThread_throwing (frames_entered X.here.top _), hstep]
  obtain ⟨g₀, hr⟩ := X.frames_eq
  have hr' : (T.setVm (T.vm.noted g.method.cls x.catchType (.cls cT))).frames = .java g₀ :: below := hr
  rw [State.setTop_of_frames _ hr'] at hrest
  have e1 : ∀ F G : List Frame, ((T.setFrames F).setVm (T.vm.noted g.method.cls x.catchType (.cls cT))).setFrames G = (T.setVm (T.vm.noted g.method.cls x.catchType (.cls cT))).setFrames G := fun F G => by
    have h1 : (T.setFrames F).setVm (T.vm.noted g.method.cls x.catchType (.cls cT)) = (T.setVm (T.vm.noted g.method.cls x.catchType (.cls cT))).setFrames F := rfl
    rw [h1, State.setFrames_setFrames]
  rw [State.pushFrame, State.setTop_of_frames _ hr, State.setFrames_setFrames, e1, hr]
  exact hrest
end XU
section XV
variable {p : Program} {l : Launch} {e : Env} {R : Room} {s : State} {m : MethodId} {args : Array Value} {below : List Frame} {meth : Method} {c : Code} {Q : State → Prop} {nL b0 : Nat} {aS : Nat → Nat} {dA : Nat → ClassId} {D : va_G} {n0 s0 : Nat}
variable {A A' : xi_H} {cc : ByteArray} {own : String} {pc i : Nat} {lv : xi_L} {y : MethodName} {cy : ByteArray} {nY : Nat} {ret : Option FieldType} {fr' lo' : Nat} {As rest : List Value} {b k : Nat}
/-- the state in which a callee's throw arrives -/
theorem xi_thrown {ci : Nat} {fs : List Value} {T : u_T} {N : Nat} (X : xi_X (p, l, e, R, s, m, args, below, meth, c, Q, nL, b0, aS, dA, D, n0, s0) cc own) (hd : decode cc pc = .ok (.invokevirtual i, 3))
    (hM : xi_Met l y (.code y cy nY ret :: xi_G) { frames := fr', cells := A'.length - A.length, slots := xi_ns A' - xi_ns A, locals := lo' } (xi_Pc b0 aS dA D (.ref b :: As) A) (xi_Qc b0 aS dA D (.threw k) A') (A'.length - A.length) (xi_ns A' - xi_ns A) (fun q => b0 ≤ q))
    (hA1 : A.length ≤ A'.length) (hA2 : xi_ns A ≤ xi_ns A') (hE1 : A'.length - n0 ≤ R.cells) (hE2 : xi_ns A' - s0 ≤ R.slots) (hfr : fr' + 1 ≤ R.frames) (hlo : 8 + (nY + 11) + lo' ≤ R.locals)
    (hw1 : Cond.methodLink own i y ∈ xi_G) (hw2 : Cond.instanceMethod y ∈ xi_G) (hw3 : Cond.selects y.cls y y ∈ xi_G) (hw4 : Cond.initialized y.cls ∈ xi_G) (hw5 : Cond.code y cy nY ret ∈ xi_G)
    (hy : y.cls ≠ "java/lang/invoke/MethodHandle" ∧ y.cls ≠ "java/lang/invoke/VarHandle") (hn : (parseMethodDescriptor y.desc).map (fun d => d.parameters.length) = some As.length)
    (hb : A[b]? = some (.inr (ci, fs))) (hc : xi_cl[ci]? = some (y.cls, T, N)) (h8 : (rest.map fun v => v.category).sum ≤ 8)
    {H : Heap} {locs : List Loc} {ls : Array Slot} (hR : xi_R b0 aS dA D n0 s0 s.heap A H locs) (hl : lv_has ls nL (xi_l b0 aS lv)) {T0 : State} (hT0 : T0.heap = H) (X0 : Stand p l e R s m args below meth c T0 locs (A.length - n0) (xi_ns A - s0)) :
    ∃ (T' : State) (L : List Loc), Stand p l e R s m args below meth c T' (locs ++ L) (A'.length - n0) (xi_ns A' - s0) ∧ xi_R b0 aS dA D n0 s0 s.heap A' T'.heap (locs ++ L) ∧
      ∀ target, Steps p.tables e below ((T'.setTop (F0 m pc ls (rest.map (xi_v b0 aS)))).pushFrame (.throwing (b0 + k))) target → Steps p.tables e below (T0.setTop (F0 m pc ls ((As.reverse ++ Value.ref b :: rest).map (xi_v b0 aS)))) target := by
  obtain ⟨hx, hbb, hml, hown, hts, hK, hstr⟩ := X
  have hz := xi_hz hR hT0 X0
  have h1 := hR.2.2.1
  have h2 := hR.2.2.2.1
  have hst : (As.reverse ++ Value.ref b :: rest).map (xi_v b0 aS) = (As.map (xi_v b0 aS)).reverse ++ .ref (b0 + b) :: rest.map (xi_v b0 aS) := by simp [xi_v]
  rw [hst]
  obtain ⟨cellB, g1, g2, g3⟩ := va_recv hK hR.1 hc (xi_w_get hb)
  obtain ⟨x, st₀, t, T', L, e0, X', hL, e1, ⟨hv, hP, hzz, hk⟩, st⟩ := xi_callT X0 hx hown (hts _ hw1) (hts _ hw2) (hts _ hw3) (hts _ hw4) (hts _ hw5) hy hM (fun a st o t h => ⟨b0 + k, h.1⟩) xi_Pc_blind (pay_in hts (xi_goodIn hw5)) hfr hlo (by show A.length - n0 + (A'.length - A.length) ≤ R.cells; omega) (by show xi_ns A - s0 + (xi_ns A' - xi_ns A) ≤ R.slots; omega)
    (by rw [hT0]; exact g1) g2 g3 (g := F0 m pc ls ((As.map (xi_v b0 aS)).reverse ++ .ref (b0 + b) :: rest.map (xi_v b0 aS))) rfl (hl.1.trans hml.symm) (argsL := As.map (xi_v b0 aS)) (rest := rest.map (xi_v b0 aS))
    (fun sig h => by rw [h] at hn; rw [List.length_map]; exact (Option.some.inj hn).symm) rfl (lv_room (xi_room h8)) (by rw [hbb]; exact hd) (fun vm₁ hW₁ => xi_pre hR hz hK hstr (.ref b :: As) (T0.setVm vm₁) hT0 hW₁)
  have hxk : x = b0 + k := Outcome.threw.inj hv
  subst hxk
  rw [e0, hT0] at hzz hk
  refine ⟨T', L, ?_, ⟨by rw [e1]; exact hP, ⟨Nat.le_trans hR.2.1.1 (by rw [e1]; exact hzz), fun q q1 q2 => by rw [e1, hk q (Nat.lt_of_lt_of_le q1 hR.2.1.1) q2]; exact hR.2.1.2.1 q q1 q2, fun q hq => ?_⟩, by omega, by omega, hR.2.2.2.2⟩, st⟩
  · rw [show A'.length - n0 = A.length - n0 + (A'.length - A.length) by omega, show xi_ns A' - s0 = xi_ns A - s0 + (xi_ns A' - xi_ns A) by omega]
    exact X'
  · rcases List.mem_append.mp hq with h | h
    · exact hR.2.1.2.2 q h
    · exact hL q h
end XV
end
section
/-! THE ABSTRACT MACHINE's RUN -/
/-- a method: its name, bytes, locals, what it returns, its rows (place, instruction, next place, numbers), its handlers (from, to, place, entry, class) -/
abbrev xi_M : Type := MethodName × ByteArray × Nat × Option FieldType × List (Nat × Instr × Nat × List Nat) × List (Nat × Nat × Nat × Nat × Nat)
def xi_row (rows : List (Nat × Instr × Nat × List Nat)) (pc : Nat) : Option (Instr × Nat × List Nat) := (rows.find? (fun r => r.1 == pc)).map (·.2)
def xi_wt (st : List Value) : Nat := (st.map fun v => v.category).sum
/-- what a row asks for: an end; a call; another stack; a step -/
abbrev xi_A : Type := (Outcome × xi_H) ⊕ (Nat × List Value × List Value × Nat × Bool) ⊕ Option (List Value)
def xi_cv (Ms : List xi_M) (fr lo cM n : Nat) (st : List Value) (A : xi_H) : Option xi_A := match st.drop n, Ms[cM]? with
  | .ref b :: rest, some Mc => match A[b]? with
    | some (.inr (ci, _)) => if ((xi_cl[ci]?).map (·.1) = some Mc.1.cls ∧ n ≤ st.length ∧ xi_wt rest ≤ 8 ∧ 1 ≤ fr) ∧ 19 + Mc.2.2.1 ≤ lo ∧ xi_wt (.ref b :: (st.take n).reverse) ≤ Mc.2.2.1 ∧ Mc.2.2.2.2.2 = [] ∧ 0 < A.length then some (.inr (.inl (cM, .ref b :: (st.take n).reverse, rest, Mc.2.2.1, true))) else none
    | _ => none
  | _, _ => none
def xi_ci (Ms : List xi_M) (fr lo cM n : Nat) (st : List Value) (A : xi_H) : Option xi_A := match st.drop n, Ms[cM]? with
  | .ref b :: rest, some Mc => if (n ≤ st.length ∧ xi_wt rest ≤ 8 ∧ 1 ≤ fr) ∧ 19 + Mc.2.2.1 ≤ lo ∧ xi_wt (.ref b :: (st.take n).reverse) ≤ Mc.2.2.1 ∧ Mc.2.2.2.2.2 = [] ∧ 0 < A.length then some (.inr (.inl (cM, .ref b :: (st.take n).reverse, rest, Mc.2.2.1, false))) else none
  | _, _ => none
def xi_cs (Ms : List xi_M) (fr lo cM n : Nat) (st : List Value) (A : xi_H) : Option xi_A := match Ms[cM]? with
  | some Mc => if (n ≤ st.length ∧ xi_wt (st.drop n) ≤ 8 ∧ 1 ≤ fr) ∧ 19 + Mc.2.2.1 ≤ lo ∧ xi_wt ((st.take n).reverse) ≤ Mc.2.2.1 ∧ Mc.2.2.2.2.2 = [] ∧ 0 < A.length then some (.inr (.inl (cM, (st.take n).reverse, st.drop n, Mc.2.2.1, false))) else none
  | _ => none
def xi_x (Ms : List xi_M) (M : xi_M) (I : Instr) (aux : List Nat) (fr lo : Nat) (st : List Value) (A : xi_H) : Option xi_A := match I with
  | .ireturn => match st, M.2.2.2.1 with
    | [.int v], some ty => if narrow ty (.int v) = .int v then some (.inl (.returned (some (.int v)), A)) else none
    | _, _ => none
  | .lreturn => match st with
    | [.long v] => if M.2.2.2.1 = some .long then some (.inl (.returned (some (.long v)), A)) else none
    | _ => none
  | .return_ => match st with
    | [] => if M.2.2.2.1 = none then some (.inl (.returned none, A)) else none
    | _ => none
  | .new _ => match aux with
    | [ci, _, _, _, _, _, _] => if M.2.2.2.2.2 = [] ∧ 6 ≤ fr ∧ 100 ≤ lo ∧ xi_wt st ≤ 8 then some (.inl (.threw A.length, A ++ [.inr (ci, List.replicate 6 .null)])) else none
    | _ => some (.inr (.inr none))
  | .invokevirtual _ => match aux with
    | _ :: cM :: n :: _ => xi_cv Ms fr lo cM n st A
    | _ => none
  | .invokestatic _ => match aux with
    | _ :: cM :: n :: _ => xi_cs Ms fr lo cM n st A
    | _ => none
  | .invokespecial _ => match aux with
    | [0, _, _, _] => match st with
      | .ref _ :: rest => if xi_wt rest ≤ 8 ∧ 1 ≤ fr ∧ 20 ≤ lo then some (.inr (.inr (some rest))) else none
      | _ => none
    | _ :: cM :: n :: _ => xi_ci Ms fr lo cM n st A
    | _ => none
  | _ => some (.inr (.inr none))
abbrev xi_F : Type := Nat → Nat → Nat → Nat → xi_L → List Value → xi_H → Option (Outcome × xi_H)
def xi_body (Ms : List xi_M) (rec : xi_F) : xi_F := fun y fr lo pc lv st A => match Ms[y]? with
  | none => none
  | some M => match xi_row M.2.2.2.2.1 pc with
    | none => none
    | some (I, nx, aux) => match xi_x Ms M I aux fr lo st A with
      | none => none
      | some (.inl r) => some r
      | some (.inr (.inl (cM, vs, rest, nY, virt))) => match rec cM (fr - 1) (lo - (19 + nY)) 0 (lv_args 0 vs) [] A with
        | none => none
        | some (.returned v, A1) => rec y fr lo nx lv (v.toList ++ rest) A1
        | some (.threw k, A1) => if virt = true then match M.2.2.2.2.2 with
          | [] => some (.threw k, A1)
          | (a1, a2, h, _, ci) :: _ => match A1[k]? with
            | some (.inr (cj, _)) => if cj = ci ∧ a1 ≤ pc ∧ pc < a2 then rec y fr lo h lv [.ref k] A1 else none
            | _ => none
          else none
      | some (.inr (.inr (some rest))) => rec y fr lo nx lv rest A
      | some (.inr (.inr none)) => match xi_s M.2.2.1 I nx aux lv st A with
        | none => none
        | some (pc', lv', st', A') => rec y fr lo pc' lv' st' A'
noncomputable def xi_go (Ms : List xi_M) (n : Nat) : xi_F := Nat.rec (motive := fun _ => xi_F) (fun _ _ _ _ _ _ _ => none) (fun _ rec => xi_body Ms rec) n
theorem xi_go_succ (Ms : List xi_M) (n : Nat) : xi_go Ms (n + 1) = xi_body Ms (xi_go Ms n) := rfl
/-! WHAT A METHOD's TABLE MUST SAY -/
def xi_okc (Ms : List xi_M) (own : String) (cc : ByteArray) (pc : Nat) (I : Instr) (aux : List Nat) : Bool := match I, aux with
  | .invokevirtual i, [0, cM, n, i1, i2, i3, i4, i5] => match Ms[cM]? with
    | some (y, cy, nY, ret, _, _) => (((xi_Gat i1 (.methodLink own i y) && xi_Gat i2 (.instanceMethod y)) && (xi_Gat i3 (.selects y.cls y y) && xi_Gat i4 (.initialized y.cls))) && xi_Gat i5 (.code y cy nY ret)) && ((decide (y.cls ≠ "java/lang/invoke/MethodHandle") && decide (y.cls ≠ "java/lang/invoke/VarHandle")) && decide ((parseMethodDescriptor y.desc).map (fun d => d.parameters.length) = some n))
    | none => false
  | .invokespecial i, [1, cM, n, i1, i2, i4, i5] => match Ms[cM]? with
    | some (y, cy, nY, ret, _, _) => (((xi_Gat i1 (.methodLink own i y) || (xi_nest.any (fun w => match w with | .methodLinkNest o2 j y2 _ => decide (o2 = own ∧ j = i ∧ y2 = y) | _ => false))) && xi_Gat i2 (.instanceMethod y)) && (xi_Gat i4 (.initialized y.cls) && xi_Gat i5 (.code y cy nY ret))) && (((decide (y.cls ≠ "java/lang/invoke/MethodHandle") && decide (y.cls ≠ "java/lang/invoke/VarHandle")) && decide ((parseMethodDescriptor y.desc).map (fun d => d.parameters.length) = some n)) && (decide (y.name = "<init>") && decide (ret = none)))
    | none => false
  | .invokestatic i, [3, cM, n, i1, i2, i4, i5] => match Ms[cM]? with
    | some (y, cy, nY, ret, _, _) => ((xi_Gat i1 (.methodLink own i y) && xi_Gat i2 (.static y)) && (xi_Gat i4 (.initialized y.cls) && xi_Gat i5 (.code y cy nY ret))) && ((decide (y.cls ≠ "java/lang/invoke/MethodHandle") && decide (y.cls ≠ "java/lang/invoke/VarHandle")) && decide ((parseMethodDescriptor y.desc).map (fun d => d.parameters.length) = some n))
    | none => false
  | .invokespecial i, [0, i1, i2, i5] => (xi_Gat i1 (.methodLink own i Lib.objectInit) && xi_Gat i2 (.instanceMethod Lib.objectInit)) && xi_Gat i5 (.code Lib.objectInit ⟨#[0xb1]⟩ 1 none)
  | .invokevirtual _, _ => false
  | .invokespecial _, _ => false
  | .invokestatic _, _ => false
  | .new i, [ci, j, a1, a2, w1, w2, w3] => match xi_cl[ci]?, xi_str[j]? with
    | some (Xn, _, N), some (o2, b1, _) => (((decide (N = 0) && (decide (o2 = own) && decide (b1 = a1))) && (xi_Gat w1 (.classLink own i Xn) && (xi_Gat w2 (.instantiable Xn 6) && xi_Gat w3 (.initialized Xn)))) && (Bundle.fit Xn && (Bundle.ownAtoms own a2 Xn ["java/lang/RuntimeException", "java/lang/Exception"]).all xi_atom)) && ((decide (decode cc (pc + 3) = .ok (.dup, 1)) && decide (decode cc (pc + 4) = .ok (.ldc a1, 2))) && (decide (decode cc (pc + 6) = .ok (.invokespecial a2, 3)) && decide (decode cc (pc + 9) = .ok (.athrow, 1))))
    | _, _ => false
  | _, _ => true
def xi_okr (Ms : List xi_M) (M : xi_M) (r : Nat × Instr × Nat × List Nat) : Bool := (decide (decode M.2.1 r.1 = .ok (r.2.1, xi_len r.2.1)) && decide (r.2.2.1 = r.1 + xi_len r.2.1)) && (xi_ok M.1.cls M.1.name r.1 r.2.1 r.2.2.2 && xi_okc Ms M.1.cls M.2.1 r.1 r.2.1 r.2.2.2)
def xi_okM (Ms : List xi_M) (M : xi_M) : Bool := plainName M.1.cls && (M.2.2.2.2.1.all (xi_okr Ms M) && M.2.2.2.2.2.all (fun h => match xi_cl[h.2.2.2.2]? with
  | some (Xn, _, _) => (decide (Cond.classLink M.1.cls h.2.2.2.1 Xn ∈ lw_tbl) && goodWord (Cond.classLink M.1.cls h.2.2.2.1 Xn)) && decide (h.2.2.2.1 ≠ 0)
  | none => false))
/-! HEAPS GROW -/
theorem xi_s_mono {nL : Nat} {I : Instr} {nx pc' : Nat} {aux : List Nat} {lv lv' : xi_L} {st st' : List Value} {A A' : xi_H} (h : xi_s nL I nx aux lv st A = some (pc', lv', st', A')) : A.length ≤ A'.length ∧ xi_ns A ≤ xi_ns A' := by
  have push : ∀ x : xi_E, A.length ≤ (A ++ [x]).length ∧ xi_ns A ≤ xi_ns (A ++ [x]) := fun x => ⟨by simp, by rw [xi_ns_push]; omega⟩
  have set : ∀ (k : Nat) (x y : xi_E), A[k]? = some x → xi_n x = xi_n y → A.length ≤ (A.set k y).length ∧ xi_ns A ≤ xi_ns (A.set k y) := fun k x y h1 h2 => ⟨by simp, by rw [xi_ns_set h1 h2]; omega⟩
  unfold xi_s at h
  repeat' split at h
  all_goals first
    | (cases h; done)
    | (simp only [Option.some.injEq, Prod.mk.injEq] at h; obtain ⟨-, -, -, rfl⟩ := h; first | exact ⟨Nat.le_refl _, Nat.le_refl _⟩ | exact push _ | (refine set _ _ _ (by assumption) ?_; first | rfl | simp [xi_n]))
theorem xi_x_mono {Ms : List xi_M} {M : xi_M} {I : Instr} {aux : List Nat} {fr lo : Nat} {st : List Value} {A A' : xi_H} {o : Outcome} (h : xi_x Ms M I aux fr lo st A = some (.inl (o, A'))) : A.length ≤ A'.length ∧ xi_ns A ≤ xi_ns A' := by
  have push : ∀ x : xi_E, A.length ≤ (A ++ [x]).length ∧ xi_ns A ≤ xi_ns (A ++ [x]) := fun x => ⟨by simp, by rw [xi_ns_push]; omega⟩
  unfold xi_x xi_cv xi_ci xi_cs at h
  repeat' split at h
  all_goals first
    | (cases h; done)
    | (simp only [Option.some.injEq, Sum.inl.injEq, Prod.mk.injEq] at h; obtain ⟨-, rfl⟩ := h; first | exact ⟨Nat.le_refl _, Nat.le_refl _⟩ | exact push _)
    | (simp at h; done)
theorem xi_mono (Ms : List xi_M) : ∀ (n y fr lo pc : Nat) (lv : xi_L) (st : List Value) (A A' : xi_H) (o : Outcome), xi_go Ms n y fr lo pc lv st A = some (o, A') → A.length ≤ A'.length ∧ xi_ns A ≤ xi_ns A' := by
  intro n
  induction n with
  | zero => intro y fr lo pc lv st A A' o h; cases h
  | succ n ih =>
    intro y fr lo pc lv st A A' o h
    rw [xi_go_succ] at h
    unfold xi_body at h
    split at h
    · cases h
    · split at h
      · cases h
      · split at h
        · cases h
        · rename_i r hx
          cases h
          exact xi_x_mono hx
        · split at h
          · cases h
          · rename_i hr
            have h1 := ih _ _ _ _ _ _ _ _ _ hr
            have h2 := ih _ _ _ _ _ _ _ _ _ h
            omega
          · rename_i hr
            have h1 := ih _ _ _ _ _ _ _ _ _ hr
            split at h
            · split at h
              · cases h; exact h1
              · split at h
                · split at h
                  · have h2 := ih _ _ _ _ _ _ _ _ _ h
                    omega
                  · cases h
                · cases h
            · cases h
        · exact ih _ _ _ _ _ _ _ _ _ h
        · split at h
          · cases h
          · rename_i hs
            have h1 := xi_s_mono hs
            have h2 := ih _ _ _ _ _ _ _ _ _ h
            omega
end
section
/-! THE RUN IS THE MACHINE's -/
theorem xi_row_mem {rows : List (Nat × Instr × Nat × List Nat)} {pc : Nat} {r : Instr × Nat × List Nat} (h : xi_row rows pc = some r) : (pc, r) ∈ rows := by
  simp only [xi_row, Option.map_eq_some_iff] at h
  obtain ⟨q, h1, rfl⟩ := h
  have h2 := List.find?_some h1
  have h3 := List.mem_of_find?_eq_some h1
  simp only [beq_iff_eq] at h2
  rw [← h2]
  exact h3
theorem xi_args_l (b0 : Nat) (aS : Nat → Nat) (vs : List Value) : ∀ i : Nat, lv_args i (vs.map (xi_v b0 aS)) = xi_l b0 aS (lv_args i vs) := by
  induction vs with
  | nil => intro i; rfl
  | cons v vs ih =>
    intro i
    simp only [List.map_cons, lv_args, xi_v_cat, xi_l]
    rw [ih]
    rfl
theorem xi_sl_len (vs : List Value) : (lg_sl vs).length = xi_wt vs := by
  induction vs with
  | nil => rfl
  | cons v vs ih =>
    have e1 : lg_sl (v :: vs) = (if v.category = 2 then [Slot.val v, .second] else [.val v]) ++ lg_sl vs := by simp [lg_sl]
    rw [e1, List.length_append, ih]
    rcases lv_cat v with h | h <;> simp [xi_wt, h]
theorem xi_wt_v (b0 : Nat) (aS : Nat → Nat) (vs : List Value) : xi_wt (vs.map (xi_v b0 aS)) = xi_wt vs := by
  simp [xi_wt, Function.comp_def, xi_v_cat]
/-- the run from a place within a method, said of the machine -/
def xi_S (Ms : List xi_M) (l : Launch) (n : Nat) : Prop := ∀ (y : Nat) (M : xi_M) (fr lo pc : Nat) (lv : xi_L) (st : List Value) (A : xi_H) (o : Outcome) (A' : xi_H), Ms[y]? = some M → xi_go Ms n y fr lo pc lv st A = some (o, A') →
  ∀ (p : Program) (e : Env) (s : State) (m : MethodId) (args : Array Value) (below : List Frame) (meth : Method) (c : Code) (b0 : Nat) (aS : Nat → Nat) (dA : Nat → ClassId) (D : va_G) (n0 s0 : Nat),
    xi_X (p, l, e, { frames := fr, cells := A'.length - n0, slots := xi_ns A' - s0, locals := lo }, s, m, args, below, meth, c, xi_MQ below (xi_Qc b0 aS dA D o A') args s (A'.length - n0) (xi_ns A' - s0) (fun q => b0 ≤ q), M.2.2.1, b0, aS, dA, D, n0, s0) M.2.1 M.1.cls →
    meth.sig.returnType = M.2.2.2.1 → meth.locks = false → meth.name = M.1.name → c.exceptionTable.toList.map (fun h => (h.startPc, h.endPc, h.handlerPc, h.catchType)) = M.2.2.2.2.2.map (fun h => (h.1, h.2.1, h.2.2.1, h.2.2.2.1)) → e.platform.stackTraces = false →
    xi_At (p, l, e, { frames := fr, cells := A'.length - n0, slots := xi_ns A' - s0, locals := lo }, s, m, args, below, meth, c, xi_MQ below (xi_Qc b0 aS dA D o A') args s (A'.length - n0) (xi_ns A' - s0) (fun q => b0 ≤ q), M.2.2.1, b0, aS, dA, D, n0, s0) pc lv st A
/-- a method's contract out of its run -/
theorem xi_contract {Ms : List xi_M} {l : Launch} {n : Nat} (htr : ∀ e, l.admits e → e.platform.stackTraces = false) (ih : xi_S Ms l n) {cM : Nat} {Mc : xi_M} (hc : Ms[cM]? = some Mc) (hpn : plainName Mc.1.cls = true) (hh : Mc.2.2.2.2.2 = []) {fr lo : Nat} {vs : List Value} {A A1 : xi_H} {o1 : Outcome} (hr : xi_go Ms n cM fr lo 0 (lv_args 0 vs) [] A = some (o1, A1)) (hw : xi_wt vs ≤ Mc.2.2.1) (h0 : 0 < A.length) (b0 : Nat) (aS : Nat → Nat) (dA : Nat → ClassId) (D : va_G) :
    xi_Met l Mc.1 (.code Mc.1 Mc.2.1 Mc.2.2.1 Mc.2.2.2.1 :: xi_G) { frames := fr, cells := A1.length - A.length, slots := xi_ns A1 - xi_ns A, locals := lo } (xi_Pc b0 aS dA D vs A) (xi_Qc b0 aS dA D o1 A1) (A1.length - A.length) (xi_ns A1 - xi_ns A) (fun q => b0 ≤ q) := by
  refine xi_ofW (cc := Mc.2.1) (maxL := Mc.2.2.1) (ret := Mc.2.2.2.1) hpn rfl ?_
  intro p e s m args below meth c s₁ B hml hv
  obtain ⟨rfl, hP, hz, hK, hSt⟩ := hv
  have hts0 := atoms_spec (ws := .code Mc.1 Mc.2.1 Mc.2.2.1 Mc.2.2.2.1 :: xi_G) B.pre
  have hts : ∀ w ∈ xi_G, w.before _ s = true := fun w hw => hts0 w (List.mem_cons_of_mem _ hw)
  have hown : s.vm.findClass Mc.1.cls = some m.cls := findClass_of_methodNamed B.named
  have hnoh : c.exceptionTable.toList = [] := by
    have h1 := B.noHandlers (hts0 _ List.mem_cons_self)
    have h2 : c.exceptionTable.size = 0 := by simpa [Array.isEmpty] using h1
    exact List.eq_nil_of_length_eq_zero (by simpa using h2)
  have hl := lv_entry (vs.map (xi_v b0 aS)) (n := Mc.2.2.1) (by rw [xi_sl_len, xi_wt_v]; exact hw)
  rw [xi_args_l] at hl
  rw [lg_entry_eq]
  have k1 := ih cM Mc fr lo 0 (lv_args 0 vs) [] A o1 A1 hc hr p e s m _ below meth c b0 aS dA D A.length (xi_ns A) ⟨B.exec, B.bytes, hml, hown, hts, hK, hSt⟩ B.returns B.notSynchronized (name_of_methodNamed B.named B.method).1 (by rw [hnoh, hh]; rfl) (htr e B.admits) s.heap [] _ ⟨hP, va_S.rf, Nat.le_refl _, Nat.le_refl _, hz, h0⟩ hl
  rw [Nat.sub_self, Nat.sub_self] at k1
  exact k1
/-- what a checked row says of a call -/
theorem xi_okc_v {Ms : List xi_M} {own : String} {cc : ByteArray} {pc i x cM n : Nat} {tail : List Nat} (h : xi_okc Ms own cc pc (.invokevirtual i) (x :: cM :: n :: tail) = true) {Mc : xi_M} (hM : Ms[cM]? = some Mc) :
    (Cond.methodLink own i Mc.1 ∈ xi_G ∧ Cond.instanceMethod Mc.1 ∈ xi_G ∧ Cond.selects Mc.1.cls Mc.1 Mc.1 ∈ xi_G ∧ Cond.initialized Mc.1.cls ∈ xi_G ∧ Cond.code Mc.1 Mc.2.1 Mc.2.2.1 Mc.2.2.2.1 ∈ xi_G) ∧ (Mc.1.cls ≠ "java/lang/invoke/MethodHandle" ∧ Mc.1.cls ≠ "java/lang/invoke/VarHandle") ∧ (parseMethodDescriptor Mc.1.desc).map (fun d => d.parameters.length) = some n := by
  obtain ⟨y, cy, nY, ret, rows, hs⟩ := Mc
  unfold xi_okc at h
  split at h
  all_goals first
    | (rename_i heq; simp at heq; done)
    | skip
  · rename_i i' cM' n' i1 i2 i3 i4 i5 h1 h2
    cases h1
    cases h2
    rw [hM] at h
    simp only [Bool.and_eq_true, decide_eq_true_eq] at h
    obtain ⟨⟨⟨⟨q1, q2⟩, q3, q4⟩, q5⟩, ⟨q6, q7⟩, q8⟩ := h
    exact ⟨⟨xi_Gm q1, xi_Gm q2, xi_Gm q3, xi_Gm q4, xi_Gm q5⟩, ⟨q6, q7⟩, q8⟩
  all_goals first
    | (cases h; done)
    | (simp_all; done)
theorem xi_okc_s {Ms : List xi_M} {own : String} {cc : ByteArray} {pc i x cM n : Nat} {tail : List Nat} (h : xi_okc Ms own cc pc (.invokestatic i) (x :: cM :: n :: tail) = true) {Mc : xi_M} (hM : Ms[cM]? = some Mc) :
    (Cond.methodLink own i Mc.1 ∈ xi_G ∧ Cond.static Mc.1 ∈ xi_G ∧ Cond.initialized Mc.1.cls ∈ xi_G ∧ Cond.code Mc.1 Mc.2.1 Mc.2.2.1 Mc.2.2.2.1 ∈ xi_G) ∧ (Mc.1.cls ≠ "java/lang/invoke/MethodHandle" ∧ Mc.1.cls ≠ "java/lang/invoke/VarHandle") ∧ (parseMethodDescriptor Mc.1.desc).map (fun d => d.parameters.length) = some n := by
  obtain ⟨y, cy, nY, ret, rows, hs⟩ := Mc
  unfold xi_okc at h
  split at h
  case h_3 =>
    rename_i i' cM' n' i1 i2 i4 i5 h1 h2
    cases h1
    cases h2
    rw [hM] at h
    simp only [Bool.and_eq_true, decide_eq_true_eq] at h
    obtain ⟨⟨⟨q1, q2⟩, q4, q5⟩, ⟨q6, q7⟩, q8⟩ := h
    exact ⟨⟨xi_Gm q1, xi_Gm q2, xi_Gm q4, xi_Gm q5⟩, ⟨q6, q7⟩, q8⟩
  all_goals first
    | (cases h; done)
    | (simp_all; done)
theorem xi_okc_i {Ms : List xi_M} {own : String} {cc : ByteArray} {pc i x cM n : Nat} {tail : List Nat} (h : xi_okc Ms own cc pc (.invokespecial i) (x :: cM :: n :: tail) = true) (hx : ∀ a, x = 0 → tail ≠ [a]) {Mc : xi_M} (hM : Ms[cM]? = some Mc) :
    ((Cond.methodLink own i Mc.1 ∈ xi_G ∨ ∃ host, Cond.methodLinkNest own i Mc.1 host ∈ xi_nest) ∧ Cond.instanceMethod Mc.1 ∈ xi_G ∧ Cond.initialized Mc.1.cls ∈ xi_G ∧ Cond.code Mc.1 Mc.2.1 Mc.2.2.1 none ∈ xi_G) ∧ (Mc.1.cls ≠ "java/lang/invoke/MethodHandle" ∧ Mc.1.cls ≠ "java/lang/invoke/VarHandle") ∧ (parseMethodDescriptor Mc.1.desc).map (fun d => d.parameters.length) = some n ∧ Mc.1.name = "<init>" ∧ Mc.2.2.2.1 = none := by
  obtain ⟨y, cy, nY, ret, rows, hs⟩ := Mc
  unfold xi_okc at h
  split at h
  case h_2 =>
    rename_i i' cM' n' i1 i2 i4 i5 h1 h2
    cases h1
    cases h2
    rw [hM] at h
    simp only [Bool.and_eq_true, decide_eq_true_eq, Bool.or_eq_true, List.any_eq_true] at h
    obtain ⟨⟨⟨q1, q2⟩, q4, q5⟩, ⟨⟨q6, q7⟩, q8⟩, q9, q10⟩ := h
    subst q10
    refine ⟨⟨?_, xi_Gm q2, xi_Gm q4, xi_Gm q5⟩, ⟨q6, q7⟩, q8, q9, rfl⟩
    rcases q1 with q1 | ⟨w, hw, q1⟩
    · exact Or.inl (xi_Gm q1)
    · refine Or.inr ?_
      split at q1
      · simp only [decide_eq_true_eq] at q1
        obtain ⟨rfl, rfl, rfl⟩ := q1
        exact ⟨_, hw⟩
      · cases q1
  all_goals first
    | (cases h; done)
    | (simp_all; done)
set_option maxHeartbeats 4000000 in
theorem xi_sound {Ms : List xi_M} (hMs : ∀ (y : Nat) (M : xi_M), Ms[y]? = some M → xi_okM Ms M = true) {l : Launch} (htr : ∀ e, l.admits e → e.platform.stackTraces = false) : ∀ n : Nat, xi_S Ms l n := by
  intro n
  induction n with
  | zero => intro y M fr lo pc lv st A o A' hM h; cases h
  | succ n ih =>
    intro y M fr lo pc lv st A o A' hM h p e s m args below meth c b0 aS dA D n0 s0 X hret hlk hnm hhd hst
    have hmono := xi_mono Ms (n + 1) y fr lo pc lv st A A' o h
    have hok := hMs y M hM
    simp only [xi_okM, Bool.and_eq_true] at hok
    obtain ⟨hpn, hrows, hhok⟩ := hok
    rw [xi_go_succ] at h
    unfold xi_body at h
    rw [hM] at h
    simp only at h
    split at h
    · cases h
    · rename_i I nx aux hrow
      have hr0 := List.all_eq_true.mp hrows _ (xi_row_mem hrow)
      simp only [xi_okr, Bool.and_eq_true, decide_eq_true_eq] at hr0
      obtain ⟨⟨hd, rfl⟩, hro, hrc⟩ := hr0
      split at h
      · cases h
      · -- an end
        rename_i r hx
        cases h
        unfold xi_x at hx
        split at hx
        · split at hx
          · rename_i v ty hty
            split at hx
            · rename_i hnr
              simp only [Option.some.injEq, Sum.inl.injEq, Prod.mk.injEq] at hx
              obtain ⟨rfl, rfl⟩ := hx
              obtain ⟨hx0, hbb, -⟩ := X
              intro H locs ls hR hl
              exact xi_W_mono xi_MQ_of (W.zret hx0 hbb (hret.trans hty) hnr (fun t ht hW => ⟨rfl, by rw [ht]; exact hR.1, hR.2.1.F ht⟩) (fun q hq => hR.2.1.2.2 q hq) hd hlk)
            · cases hx
          · cases hx
        · split at hx
          · rename_i v
            split at hx
            · rename_i hty
              simp only [Option.some.injEq, Sum.inl.injEq, Prod.mk.injEq] at hx
              obtain ⟨rfl, rfl⟩ := hx
              obtain ⟨hx0, hbb, -⟩ := X
              intro H locs ls hR hl
              exact xi_W_mono xi_MQ_of (W.lret hx0 hbb (hret.trans hty) (fun t ht hW => ⟨rfl, by rw [ht]; exact hR.1, hR.2.1.F ht⟩) (fun q hq => hR.2.1.2.2 q hq) hd hlk)
            · cases hx
          · cases hx
        · split at hx
          · split at hx
            · rename_i hty
              simp only [Option.some.injEq, Sum.inl.injEq, Prod.mk.injEq] at hx
              obtain ⟨rfl, rfl⟩ := hx
              obtain ⟨hx0, hbb, -⟩ := X
              intro H locs ls hR hl
              exact xi_W_mono xi_MQ_of (W.vret hx0 hbb (hret.trans hty) (fun t ht hW => ⟨rfl, by rw [ht]; exact hR.1, hR.2.1.F ht⟩) (fun q hq => hR.2.1.2.2 q hq) hd hlk)
            · cases hx
          · cases hx
        · split at hx
          · rename_i ci j a1 a2 w1 w2 w3
            split at hx
            · rename_i hq
              simp only [Option.some.injEq, Sum.inl.injEq, Prod.mk.injEq] at hx
              obtain ⟨rfl, rfl⟩ := hx
              obtain ⟨hh0, hfr, hlo, hwt⟩ := hq
              have hnoh : c.exceptionTable.toList = [] := by rw [hh0] at hhd; simpa using hhd
              simp only [xi_okc] at hrc
              split at hrc
              · rename_i Xn T N o2 b1 tx hc hj
                simp only [Bool.and_eq_true, decide_eq_true_eq] at hrc
                obtain ⟨⟨⟨⟨rfl, rfl, rfl⟩, q1, q2, q3⟩, q4, q5⟩, ⟨q6, q7⟩, q8, q9⟩ := hrc
                exact xs_throw (mc := 0) (ms := 0) X hst hlk (by rw [hnoh]; intro x hx; cases hx) hd q6 q7 q8 q9 hc (xi_Gm q1) (xi_Gm q2) (xi_Gm q3) hj q4 (fun a ha => List.all_eq_true.mp q5 a ha) (Nat.le_refl _) (Nat.le_refl _) hfr hlo hwt (fun t ht => ht)
              · cases hrc
            · cases hx
          · cases hx
        · split at hx
          · unfold xi_cv at hx
            repeat' split at hx
            all_goals (first | (cases hx; done) | (simp at hx; done))
          · cases hx
        · split at hx
          · unfold xi_cs at hx
            repeat' split at hx
            all_goals (first | (cases hx; done) | (simp at hx; done))
          · cases hx
        · repeat' split at hx
          all_goals first
            | (cases hx; done)
            | (simp at hx; done)
            | (unfold xi_ci at hx; repeat' split at hx) 
          all_goals (first | (cases hx; done) | (simp at hx; done))
        · simp at hx
      · -- a call
        rename_i cM vs rest nY virt hx
        unfold xi_x at hx
        split at hx
        · repeat' split at hx
          all_goals (first | (cases hx; done) | (simp at hx; done))
        · repeat' split at hx
          all_goals (first | (cases hx; done) | (simp at hx; done))
        · repeat' split at hx
          all_goals (first | (cases hx; done) | (simp at hx; done))
        · repeat' split at hx
          all_goals (first | (cases hx; done) | (simp at hx; done))
        · -- invokevirtual
          split at hx
          · rename_i x0 cM0 n0' tl
            unfold xi_cv at hx
            split at hx
            · rename_i b rest0 Mc hdrop hMc
              split at hx
              · rename_i ci fs hb
                split at hx
                · rename_i hq
                  simp only [Option.some.injEq, Sum.inr.injEq, Sum.inl.injEq, Prod.mk.injEq] at hx
                  obtain ⟨rfl, rfl, rfl, rfl, rfl⟩ := hx
                  obtain ⟨⟨hcn, hnl, hwr, hfr1⟩, hlo1, hwv, hh0, hpos⟩ := hq
                  obtain ⟨⟨w1, w2, w3, w4, w5⟩, hy, hn⟩ := xi_okc_v hrc hMc
                  have hst0 : st = ((st.take n0').reverse).reverse ++ .ref b :: rest0 := by rw [List.reverse_reverse, ← hdrop, List.take_append_drop]
                  have hn' : (parseMethodDescriptor Mc.1.desc).map (fun d => d.parameters.length) = some ((st.take n0').reverse).length := by rw [hn, List.length_reverse, List.length_take, Nat.min_eq_left hnl]
                  obtain ⟨qc, hqc, hqn⟩ : ∃ q, xi_cl[ci]? = some q ∧ q.1 = Mc.1.cls := by
                    cases hq : xi_cl[ci]? with
                    | none => rw [hq] at hcn; simp at hcn
                    | some q => rw [hq] at hcn; exact ⟨q, rfl, by simpa using hcn⟩
                  obtain ⟨C, T, N⟩ := qc
                  simp only at hqn
                  subst hqn
                  have hpn' : plainName Mc.1.cls = true := by
                    have h9 := hMs _ _ hMc
                    simp only [xi_okM, Bool.and_eq_true] at h9
                    exact h9.1
                  split at h
                  · cases h
                  · rename_i v A1 hr
                    have hK := xi_contract htr ih hMc hpn' hh0 hr hwv hpos b0 aS dA D
                    have hm1 := xi_mono Ms n _ _ _ _ _ _ _ _ _ hr
                    have hm2 := xi_mono Ms n _ _ _ _ _ _ _ _ _ h
                    rw [hst0]
                    exact xs_callV X hd hK hm1.1 hm1.2 (by show A1.length - n0 ≤ A'.length - n0; omega) (by show xi_ns A1 - s0 ≤ xi_ns A' - s0; omega) (by show fr - 1 + 1 ≤ fr; omega) (by show 8 + (Mc.2.2.1 + 11) + (lo - (19 + Mc.2.2.1)) ≤ lo; omega) w1 w2 w3 w4 w5 hy hn' hb hqc hwr (ih y M fr lo _ lv _ A1 o A' hM h p e s m args below meth c b0 aS dA D n0 s0 X hret hlk hnm hhd hst)
                  · rename_i k A1 hr
                    have hK := xi_contract htr ih hMc hpn' hh0 hr hwv hpos b0 aS dA D
                    have hm1 := xi_mono Ms n _ _ _ _ _ _ _ _ _ hr
                    rw [if_pos rfl] at h
                    split at h
                    · -- it leaves
                      rename_i hnoh
                      cases h
                      have hnoh' : c.exceptionTable.toList = [] := by rw [hnoh] at hhd; simpa using hhd
                      rw [hst0]
                      intro H locs ls hR hl T0 hT0 X0
                      obtain ⟨T', L, X', hR', hgo⟩ := xi_thrown X hd hK hm1.1 hm1.2 (Nat.le_refl _) (Nat.le_refl _) (by show fr - 1 + 1 ≤ fr; omega) (by show 8 + (Mc.2.2.1 + 11) + (lo - (19 + Mc.2.2.1)) ≤ lo; omega) w1 w2 w3 w4 w5 hy hn' hb hqc hwr hR hl hT0 X0
                      obtain ⟨k1, k2, k3, k4, k5⟩ := X'.leaveThrown (b0 + k) (g := F0 m pc ls (rest0.map (xi_v b0 aS))) rfl rfl rfl (by rw [hnoh']; intro x hx; cases hx) hlk
                      exact ⟨_, hgo _ k1, .threw (b0 + k), k2, k3, ⟨rfl, hR'.1, hR'.2.1.F rfl⟩, locs ++ L, ⟨k4, k5⟩, fun q hq => hR'.2.1.2.2 q hq⟩
                    · -- it is caught
                      rename_i a1 a2 hpc ct cx hs hhs
                      split at h
                      · rename_i cj fs1 hk1
                        split at h
                        · rename_i hq2
                          obtain ⟨rfl, hlo2, hhi2⟩ := hq2
                          have hm2 := xi_mono Ms n _ _ _ _ _ _ _ _ _ h
                          rw [hhs] at hhd hhok
                          simp only [List.map_cons, List.all_cons, Bool.and_eq_true] at hhd hhok
                          have hkk := ih y M fr lo hpc lv [.ref k] A1 o A' hM h p e s m args below meth c b0 aS dA D n0 s0 X hret hlk hnm (by rw [hhs]; simpa only [List.map_cons] using hhd) hst
                          obtain ⟨xe, xrest, hsplit, hxe, -⟩ : ∃ xe xrest, c.exceptionTable.toList = xe :: xrest ∧ (xe.startPc, xe.endPc, xe.handlerPc, xe.catchType) = (a1, a2, hpc, ct) ∧ True := by
                            cases hl : c.exceptionTable.toList with
                            | nil => rw [hl] at hhd; simp at hhd
                            | cons xe xrest => rw [hl] at hhd; simp only [List.map_cons, List.cons.injEq] at hhd; exact ⟨xe, xrest, rfl, hhd.1, trivial⟩
                          simp only [Prod.mk.injEq] at hxe
                          obtain ⟨rfl, rfl, rfl, rfl⟩ := hxe
                          obtain ⟨hok1, -⟩ := hhok
                          split at hok1
                          · rename_i Xn T2 N2 hcx
                            simp only [Bool.and_eq_true, decide_eq_true_eq] at hok1
                            obtain ⟨⟨hl1, hl2⟩, hl3⟩ := hok1
                            rw [hst0]
                            intro H locs ls hR hl T0 hT0 X0
                            obtain ⟨T', L, X', hR', hgo⟩ := xi_thrown X hd hK hm1.1 hm1.2 (by show A1.length - n0 ≤ A'.length - n0; omega) (by show xi_ns A1 - s0 ≤ xi_ns A' - s0; omega) (by show fr - 1 + 1 ≤ fr; omega) (by show 8 + (Mc.2.2.1 + 11) + (lo - (19 + Mc.2.2.1)) ≤ lo; omega) w1 w2 w3 w4 w5 hy hn' hb hqc hwr hR hl hT0 X0
                            obtain ⟨hx0, hbb, hml, hown, hts, hKK, hstr⟩ := X
                            obtain ⟨rr, hrr, cell, g1, g2, g3, -⟩ := hR'.1 k _ (xi_w_get hk1)
                            have hcls := (hKK.1 _ _ hcx).2
                            obtain ⟨vm', X2, hgo2⟩ := xi_catch X' (b0 + k) (g := F0 m pc ls (rest0.map (xi_v b0 aS))) rfl hown hsplit (by simp only [covers, Bool.and_eq_true, decide_eq_true_eq]; exact ⟨hlo2, hhi2⟩) hl3 (hts _ (List.mem_filter.mpr ⟨hl1, hl2⟩)) hcls.1 g1 (fun q hq => by rw [g3] at hq; cases hq) (by rw [g2]; exact va_assign hcls) (by rw [g2]; obtain ⟨-, kC, hkC, -⟩ := hcls; exact ⟨kC, hkC⟩)
                            obtain ⟨t, t1, t2⟩ := hkk T'.heap (locs ++ L) ls hR' hl (T'.setVm vm') rfl X2
                            exact ⟨t, hgo _ (hgo2 _ t1), t2⟩
                          · cases hok1
                        · cases h
                      · cases h
                · cases hx
              · cases hx
            · cases hx
          · cases hx
        · -- invokestatic
          split at hx
          · rename_i x0 cM0 n0' tl
            unfold xi_cs at hx
            split at hx
            · rename_i Mc hMc
              split at hx
              · rename_i hq
                simp only [Option.some.injEq, Sum.inr.injEq, Sum.inl.injEq, Prod.mk.injEq] at hx
                obtain ⟨rfl, rfl, rfl, rfl, rfl⟩ := hx
                obtain ⟨⟨hnl, hwr, hfr1⟩, hlo1, hwv, hh0, hpos⟩ := hq
                obtain ⟨⟨w1, w2, w4, w5⟩, hy, hn⟩ := xi_okc_s hrc hMc
                have hst0 : st = ((st.take n0').reverse).reverse ++ st.drop n0' := by rw [List.reverse_reverse, List.take_append_drop]
                have hn' : (parseMethodDescriptor Mc.1.desc).map (fun d => d.parameters.length) = some ((st.take n0').reverse).length := by rw [hn, List.length_reverse, List.length_take, Nat.min_eq_left hnl]
                have hpn' : plainName Mc.1.cls = true := by
                  have h9 := hMs _ _ hMc
                  simp only [xi_okM, Bool.and_eq_true] at h9
                  exact h9.1
                split at h
                · cases h
                · rename_i v A1 hr
                  have hK := xi_contract htr ih hMc hpn' hh0 hr hwv hpos b0 aS dA D
                  have hm1 := xi_mono Ms n _ _ _ _ _ _ _ _ _ hr
                  have hm2 := xi_mono Ms n _ _ _ _ _ _ _ _ _ h
                  have hgoal := xs_callS X hd hK hm1.1 hm1.2 (by show A1.length - n0 ≤ A'.length - n0; omega) (by show xi_ns A1 - s0 ≤ xi_ns A' - s0; omega) (by show fr - 1 + 1 ≤ fr; omega) (by show 8 + (Mc.2.2.1 + 11) + (lo - (19 + Mc.2.2.1)) ≤ lo; omega) w1 w2 w4 w5 hy hn' hwr (ih y M fr lo _ lv _ A1 o A' hM h p e s m args below meth c b0 aS dA D n0 s0 X hret hlk hnm hhd hst)
                  rw [← hst0] at hgoal
                  exact hgoal
                · rw [if_neg (by decide)] at h
                  cases h
              · cases hx
            · cases hx
          · cases hx
        · -- invokespecial
          split at hx
          · repeat' split at hx
            all_goals (first | (cases hx; done) | (simp at hx; done))
          · rename_i x0 cM0 n0' tl hne
            unfold xi_ci at hx
            split at hx
            · rename_i b rest0 Mc hdrop hMc
              split at hx
              · rename_i hq
                simp only [Option.some.injEq, Sum.inr.injEq, Sum.inl.injEq, Prod.mk.injEq] at hx
                obtain ⟨rfl, rfl, rfl, rfl, rfl⟩ := hx
                obtain ⟨⟨hnl, hwr, hfr1⟩, hlo1, hwv, hh0, hpos⟩ := hq
                obtain ⟨⟨w1, w2, w4, w5⟩, hy, hn, hnm', hrt⟩ := xi_okc_i hrc (fun a h1 h2 => hne a h1 h2) hMc
                have hst0 : st = ((st.take n0').reverse).reverse ++ .ref b :: rest0 := by rw [List.reverse_reverse, ← hdrop, List.take_append_drop]
                have hn' : (parseMethodDescriptor Mc.1.desc).map (fun d => d.parameters.length) = some ((st.take n0').reverse).length := by rw [hn, List.length_reverse, List.length_take, Nat.min_eq_left hnl]
                have hpn' : plainName Mc.1.cls = true := by
                  have h9 := hMs _ _ hMc
                  simp only [xi_okM, Bool.and_eq_true] at h9
                  exact h9.1
                split at h
                · cases h
                · rename_i v A1 hr
                  have hK := xi_contract htr ih hMc hpn' hh0 hr hwv hpos b0 aS dA D
                  rw [hrt] at hK
                  have hm1 := xi_mono Ms n _ _ _ _ _ _ _ _ _ hr
                  have hm2 := xi_mono Ms n _ _ _ _ _ _ _ _ _ h
                  have hgoal := xs_callI X hd hK hm1.1 hm1.2 (by show A1.length - n0 ≤ A'.length - n0; omega) (by show xi_ns A1 - s0 ≤ xi_ns A' - s0; omega) (by show fr - 1 + 1 ≤ fr; omega) (by show 8 + (Mc.2.2.1 + 11) + (lo - (19 + Mc.2.2.1)) ≤ lo; omega) w1 w2 w4 w5 hnm' hy hn' hwr (ih y M fr lo _ lv _ A1 o A' hM h p e s m args below meth c b0 aS dA D n0 s0 X hret hlk hnm hhd hst)
                  rw [← hst0] at hgoal
                  exact hgoal
                · rw [if_neg (by decide)] at h
                  cases h
              · cases hx
            · cases hx
          · cases hx
        · simp at hx
      · -- another stack
        rename_i rest hx
        unfold xi_x at hx
        split at hx
        · repeat' split at hx
          all_goals (first | (cases hx; done) | (simp at hx; done))
        · repeat' split at hx
          all_goals (first | (cases hx; done) | (simp at hx; done))
        · repeat' split at hx
          all_goals (first | (cases hx; done) | (simp at hx; done))
        · repeat' split at hx
          all_goals (first | (cases hx; done) | (simp at hx; done))
        · unfold xi_cv at hx
          repeat' split at hx
          all_goals (first | (cases hx; done) | (simp at hx; done))
        · unfold xi_cs at hx
          repeat' split at hx
          all_goals (first | (cases hx; done) | (simp at hx; done))
        · split at hx
          · rename_i i1 i2 i5
            split at hx
            · split at hx
              · rename_i hq
                simp only [Option.some.injEq, Sum.inr.injEq] at hx
                subst hx
                simp only [xi_okc, Bool.and_eq_true] at hrc
                obtain ⟨⟨q1, q2⟩, q5⟩ := hrc
                exact xs_obj X hd (xi_Gm q1) (xi_Gm q2) (xi_Gm q5) hq.2.1 hq.2.2 hq.1 (ih y M fr lo _ lv _ A o A' hM h p e s m args below meth c b0 aS dA D n0 s0 X hret hlk hnm hhd hst)
              · cases hx
            · cases hx
          · unfold xi_ci at hx
            repeat' split at hx
            all_goals (first | (cases hx; done) | (simp at hx; done))
          · cases hx
        · simp at hx
      · -- a step
        rename_i hx
        split at h
        · cases h
        · rename_i pc' lv' st' A1 hs
          have hm1 := xi_s_mono hs
          have hm2 := xi_mono Ms n _ _ _ _ _ _ _ _ _ h
          exact xi_s_sound X (fun hq => hnm.trans hq) hd hro hs (by show A1.length - n0 ≤ A'.length - n0; omega) (by show xi_ns A1 - s0 ≤ xi_ns A' - s0; omega) (ih y M fr lo pc' lv' st' A1 o A' hM h p e s m args below meth c b0 aS dA D n0 s0 X hret hlk hnm hhd hst)
end

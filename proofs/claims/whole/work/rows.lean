section
-- ===== PART A: goes FIRST, ahead of the names: the tables' words, and 'selects' of the private methods out of them =====
/-- a private method of a class that the tables say can be made, by its rows of tables_1 -/
def lw_okq (q : MethodName × Nat) : Prop := (q.1.cls ≠ "java/lang/invoke/MethodHandle" ∧ q.1.cls ≠ "java/lang/invoke/VarHandle") ∧ Cond.instantiable q.1.cls q.2 ∈ tables_1 ∧ Cond.privateMethod q.1 ∈ tables_1 ∧ Cond.instanceMethod q.1 ∈ tables_1
theorem lw_p0 : lw_okq (⟨"DynamicLogicProver$Partition", "refine", "(LDynamicLogicProver$Model;)V"⟩, 5) := ⟨⟨by decide +kernel, by decide +kernel⟩, List.mem_of_getElem? (i := 221) (by decide +kernel), List.mem_of_getElem? (i := 499) (by decide +kernel), List.mem_of_getElem? (i := 500) (by decide +kernel)⟩
theorem lw_p1 : lw_okq (⟨"DynamicLogicProver$Partition", "sources", "(LDynamicLogicProver$Model;II)I"⟩, 5) := ⟨⟨by decide +kernel, by decide +kernel⟩, List.mem_of_getElem? (i := 221) (by decide +kernel), List.mem_of_getElem? (i := 507) (by decide +kernel), List.mem_of_getElem? (i := 508) (by decide +kernel)⟩
theorem lw_p2 : lw_okq (⟨"DynamicLogicProver$Parser", "formula", "()I"⟩, 8) := ⟨⟨by decide +kernel, by decide +kernel⟩, List.mem_of_getElem? (i := 127) (by decide +kernel), List.mem_of_getElem? (i := 542) (by decide +kernel), List.mem_of_getElem? (i := 543) (by decide +kernel)⟩
theorem lw_p3 : lw_okq (⟨"DynamicLogicProver$Parser", "disjunction", "()I"⟩, 8) := ⟨⟨by decide +kernel, by decide +kernel⟩, List.mem_of_getElem? (i := 127) (by decide +kernel), List.mem_of_getElem? (i := 546) (by decide +kernel), List.mem_of_getElem? (i := 547) (by decide +kernel)⟩
theorem lw_p4 : lw_okq (⟨"DynamicLogicProver$Parser", "conjunction", "()I"⟩, 8) := ⟨⟨by decide +kernel, by decide +kernel⟩, List.mem_of_getElem? (i := 127) (by decide +kernel), List.mem_of_getElem? (i := 550) (by decide +kernel), List.mem_of_getElem? (i := 551) (by decide +kernel)⟩
theorem lw_p5 : lw_okq (⟨"DynamicLogicProver$Parser", "unary", "()I"⟩, 8) := ⟨⟨by decide +kernel, by decide +kernel⟩, List.mem_of_getElem? (i := 127) (by decide +kernel), List.mem_of_getElem? (i := 554) (by decide +kernel), List.mem_of_getElem? (i := 555) (by decide +kernel)⟩
theorem lw_p6 : lw_okq (⟨"DynamicLogicProver$Parser", "peek", "()I"⟩, 8) := ⟨⟨by decide +kernel, by decide +kernel⟩, List.mem_of_getElem? (i := 127) (by decide +kernel), List.mem_of_getElem? (i := 558) (by decide +kernel), List.mem_of_getElem? (i := 559) (by decide +kernel)⟩
theorem lw_p7 : lw_okq (⟨"DynamicLogicProver$Pool", "find", "(III)I"⟩, 12) := ⟨⟨by decide +kernel, by decide +kernel⟩, List.mem_of_getElem? (i := 83) (by decide +kernel), List.mem_of_getElem? (i := 567) (by decide +kernel), List.mem_of_getElem? (i := 568) (by decide +kernel)⟩
theorem lw_p8 : lw_okq (⟨"DynamicLogicProver$Parser", "fail", "()I"⟩, 8) := ⟨⟨by decide +kernel, by decide +kernel⟩, List.mem_of_getElem? (i := 127) (by decide +kernel), List.mem_of_getElem? (i := 586) (by decide +kernel), List.mem_of_getElem? (i := 587) (by decide +kernel)⟩
theorem lw_p9 : lw_okq (⟨"DynamicLogicProver$Parser", "openFormula", "(I)I"⟩, 8) := ⟨⟨by decide +kernel, by decide +kernel⟩, List.mem_of_getElem? (i := 127) (by decide +kernel), List.mem_of_getElem? (i := 590) (by decide +kernel), List.mem_of_getElem? (i := 591) (by decide +kernel)⟩
theorem lw_p10 : lw_okq (⟨"DynamicLogicProver$Parser", "closed", "(II)I"⟩, 8) := ⟨⟨by decide +kernel, by decide +kernel⟩, List.mem_of_getElem? (i := 127) (by decide +kernel), List.mem_of_getElem? (i := 598) (by decide +kernel), List.mem_of_getElem? (i := 599) (by decide +kernel)⟩
theorem lw_p11 : lw_okq (⟨"DynamicLogicProver$Parser", "skip", "(I)Z"⟩, 8) := ⟨⟨by decide +kernel, by decide +kernel⟩, List.mem_of_getElem? (i := 127) (by decide +kernel), List.mem_of_getElem? (i := 602) (by decide +kernel), List.mem_of_getElem? (i := 603) (by decide +kernel)⟩
theorem lw_p12 : lw_okq (⟨"DynamicLogicProver$Parser", "choice", "()I"⟩, 8) := ⟨⟨by decide +kernel, by decide +kernel⟩, List.mem_of_getElem? (i := 127) (by decide +kernel), List.mem_of_getElem? (i := 606) (by decide +kernel), List.mem_of_getElem? (i := 607) (by decide +kernel)⟩
theorem lw_p13 : lw_okq (⟨"DynamicLogicProver$Parser", "sequence", "()I"⟩, 8) := ⟨⟨by decide +kernel, by decide +kernel⟩, List.mem_of_getElem? (i := 127) (by decide +kernel), List.mem_of_getElem? (i := 610) (by decide +kernel), List.mem_of_getElem? (i := 611) (by decide +kernel)⟩
theorem lw_p14 : lw_okq (⟨"DynamicLogicProver$Parser", "iteration", "()I"⟩, 8) := ⟨⟨by decide +kernel, by decide +kernel⟩, List.mem_of_getElem? (i := 127) (by decide +kernel), List.mem_of_getElem? (i := 614) (by decide +kernel), List.mem_of_getElem? (i := 615) (by decide +kernel)⟩
theorem lw_p15 : lw_okq (⟨"DynamicLogicProver$Parser", "program", "()I"⟩, 8) := ⟨⟨by decide +kernel, by decide +kernel⟩, List.mem_of_getElem? (i := 127) (by decide +kernel), List.mem_of_getElem? (i := 618) (by decide +kernel), List.mem_of_getElem? (i := 619) (by decide +kernel)⟩
def lw_privs_1 : List (MethodName × Nat) := [(⟨"DynamicLogicProver$Partition", "refine", "(LDynamicLogicProver$Model;)V"⟩, 5), (⟨"DynamicLogicProver$Partition", "sources", "(LDynamicLogicProver$Model;II)I"⟩, 5), (⟨"DynamicLogicProver$Parser", "formula", "()I"⟩, 8), (⟨"DynamicLogicProver$Parser", "disjunction", "()I"⟩, 8), (⟨"DynamicLogicProver$Parser", "conjunction", "()I"⟩, 8), (⟨"DynamicLogicProver$Parser", "unary", "()I"⟩, 8), (⟨"DynamicLogicProver$Parser", "peek", "()I"⟩, 8), (⟨"DynamicLogicProver$Pool", "find", "(III)I"⟩, 12), (⟨"DynamicLogicProver$Parser", "fail", "()I"⟩, 8), (⟨"DynamicLogicProver$Parser", "openFormula", "(I)I"⟩, 8), (⟨"DynamicLogicProver$Parser", "closed", "(II)I"⟩, 8), (⟨"DynamicLogicProver$Parser", "skip", "(I)Z"⟩, 8), (⟨"DynamicLogicProver$Parser", "choice", "()I"⟩, 8), (⟨"DynamicLogicProver$Parser", "sequence", "()I"⟩, 8), (⟨"DynamicLogicProver$Parser", "iteration", "()I"⟩, 8), (⟨"DynamicLogicProver$Parser", "program", "()I"⟩, 8)]
theorem lw_r1 : ∀ q ∈ lw_privs_1, lw_okq q := List.forall_mem_cons.mpr ⟨lw_p0, List.forall_mem_cons.mpr ⟨lw_p1, List.forall_mem_cons.mpr ⟨lw_p2, List.forall_mem_cons.mpr ⟨lw_p3, List.forall_mem_cons.mpr ⟨lw_p4, List.forall_mem_cons.mpr ⟨lw_p5, List.forall_mem_cons.mpr ⟨lw_p6, List.forall_mem_cons.mpr ⟨lw_p7, List.forall_mem_cons.mpr ⟨lw_p8, List.forall_mem_cons.mpr ⟨lw_p9, List.forall_mem_cons.mpr ⟨lw_p10, List.forall_mem_cons.mpr ⟨lw_p11, List.forall_mem_cons.mpr ⟨lw_p12, List.forall_mem_cons.mpr ⟨lw_p13, List.forall_mem_cons.mpr ⟨lw_p14, List.forall_mem_cons.mpr ⟨lw_p15, fun _ h => absurd h List.not_mem_nil⟩⟩⟩⟩⟩⟩⟩⟩⟩⟩⟩⟩⟩⟩⟩⟩
theorem lw_p16 : lw_okq (⟨"DynamicLogicProver$Parser", "await", "(I)V"⟩, 8) := ⟨⟨by decide +kernel, by decide +kernel⟩, List.mem_of_getElem? (i := 127) (by decide +kernel), List.mem_of_getElem? (i := 635) (by decide +kernel), List.mem_of_getElem? (i := 636) (by decide +kernel)⟩
theorem lw_p17 : lw_okq (⟨"DynamicLogicProver", "keep", "(I)I"⟩, 17) := ⟨⟨by decide +kernel, by decide +kernel⟩, List.mem_of_getElem? (i := 19) (by decide +kernel), List.mem_of_getElem? (i := 648) (by decide +kernel), List.mem_of_getElem? (i := 649) (by decide +kernel)⟩
theorem lw_p18 : lw_okq (⟨"DynamicLogicProver", "only", "(I)I"⟩, 17) := ⟨⟨by decide +kernel, by decide +kernel⟩, List.mem_of_getElem? (i := 19) (by decide +kernel), List.mem_of_getElem? (i := 703) (by decide +kernel), List.mem_of_getElem? (i := 704) (by decide +kernel)⟩
theorem lw_p19 : lw_okq (⟨"DynamicLogicProver$Pool", "write", "(I[I)I"⟩, 12) := ⟨⟨by decide +kernel, by decide +kernel⟩, List.mem_of_getElem? (i := 83) (by decide +kernel), List.mem_of_getElem? (i := 731) (by decide +kernel), List.mem_of_getElem? (i := 732) (by decide +kernel)⟩
theorem lw_p20 : lw_okq (⟨"DynamicLogicProver$Pool", "postpone", "(II)I"⟩, 12) := ⟨⟨by decide +kernel, by decide +kernel⟩, List.mem_of_getElem? (i := 83) (by decide +kernel), List.mem_of_getElem? (i := 735) (by decide +kernel), List.mem_of_getElem? (i := 736) (by decide +kernel)⟩
theorem lw_p21 : lw_okq (⟨"DynamicLogicProver", "worldsOf", "(I)I"⟩, 17) := ⟨⟨by decide +kernel, by decide +kernel⟩, List.mem_of_getElem? (i := 19) (by decide +kernel), List.mem_of_getElem? (i := 758) (by decide +kernel), List.mem_of_getElem? (i := 759) (by decide +kernel)⟩
theorem lw_p22 : lw_okq (⟨"DynamicLogicProver$Truth", "visit", "(ILDynamicLogicProver$Model;)V"⟩, 5) := ⟨⟨by decide +kernel, by decide +kernel⟩, List.mem_of_getElem? (i := 174) (by decide +kernel), List.mem_of_getElem? (i := 772) (by decide +kernel), List.mem_of_getElem? (i := 773) (by decide +kernel)⟩
theorem lw_p23 : lw_okq (⟨"DynamicLogicProver$Truth", "boxMask", "(II)I"⟩, 5) := ⟨⟨by decide +kernel, by decide +kernel⟩, List.mem_of_getElem? (i := 174) (by decide +kernel), List.mem_of_getElem? (i := 786) (by decide +kernel), List.mem_of_getElem? (i := 787) (by decide +kernel)⟩
theorem lw_p24 : lw_okq (⟨"DynamicLogicProver$Truth", "putRow", "(III)V"⟩, 5) := ⟨⟨by decide +kernel, by decide +kernel⟩, List.mem_of_getElem? (i := 174) (by decide +kernel), List.mem_of_getElem? (i := 795) (by decide +kernel), List.mem_of_getElem? (i := 796) (by decide +kernel)⟩
theorem lw_p25 : lw_okq (⟨"DynamicLogicProver$Truth", "joinRows", "(I)V"⟩, 5) := ⟨⟨by decide +kernel, by decide +kernel⟩, List.mem_of_getElem? (i := 174) (by decide +kernel), List.mem_of_getElem? (i := 799) (by decide +kernel), List.mem_of_getElem? (i := 800) (by decide +kernel)⟩
theorem lw_p26 : lw_okq (⟨"DynamicLogicProver$Truth", "image", "(II)I"⟩, 5) := ⟨⟨by decide +kernel, by decide +kernel⟩, List.mem_of_getElem? (i := 174) (by decide +kernel), List.mem_of_getElem? (i := 803) (by decide +kernel), List.mem_of_getElem? (i := 804) (by decide +kernel)⟩
theorem lw_p27 : lw_okq (⟨"DynamicLogicProver$Truth", "uniteRows", "(I)V"⟩, 5) := ⟨⟨by decide +kernel, by decide +kernel⟩, List.mem_of_getElem? (i := 174) (by decide +kernel), List.mem_of_getElem? (i := 807) (by decide +kernel), List.mem_of_getElem? (i := 808) (by decide +kernel)⟩
theorem lw_p28 : lw_okq (⟨"DynamicLogicProver$Truth", "repeatRows", "(I)V"⟩, 5) := ⟨⟨by decide +kernel, by decide +kernel⟩, List.mem_of_getElem? (i := 174) (by decide +kernel), List.mem_of_getElem? (i := 811) (by decide +kernel), List.mem_of_getElem? (i := 812) (by decide +kernel)⟩
theorem lw_p29 : lw_okq (⟨"DynamicLogicProver", "prepareRuns", "(I)Z"⟩, 17) := ⟨⟨by decide +kernel, by decide +kernel⟩, List.mem_of_getElem? (i := 19) (by decide +kernel), List.mem_of_getElem? (i := 840) (by decide +kernel), List.mem_of_getElem? (i := 841) (by decide +kernel)⟩
theorem lw_p30 : lw_okq (⟨"DynamicLogicProver$Closure", "admit", "(I)V"⟩, 6) := ⟨⟨by decide +kernel, by decide +kernel⟩, List.mem_of_getElem? (i := 196) (by decide +kernel), List.mem_of_getElem? (i := 855) (by decide +kernel), List.mem_of_getElem? (i := 856) (by decide +kernel)⟩
theorem lw_p31 : lw_okq (⟨"DynamicLogicProver$Closure", "expand", "(IZ)V"⟩, 6) := ⟨⟨by decide +kernel, by decide +kernel⟩, List.mem_of_getElem? (i := 196) (by decide +kernel), List.mem_of_getElem? (i := 865) (by decide +kernel), List.mem_of_getElem? (i := 866) (by decide +kernel)⟩
def lw_privs_2 : List (MethodName × Nat) := [(⟨"DynamicLogicProver$Parser", "await", "(I)V"⟩, 8), (⟨"DynamicLogicProver", "keep", "(I)I"⟩, 17), (⟨"DynamicLogicProver", "only", "(I)I"⟩, 17), (⟨"DynamicLogicProver$Pool", "write", "(I[I)I"⟩, 12), (⟨"DynamicLogicProver$Pool", "postpone", "(II)I"⟩, 12), (⟨"DynamicLogicProver", "worldsOf", "(I)I"⟩, 17), (⟨"DynamicLogicProver$Truth", "visit", "(ILDynamicLogicProver$Model;)V"⟩, 5), (⟨"DynamicLogicProver$Truth", "boxMask", "(II)I"⟩, 5), (⟨"DynamicLogicProver$Truth", "putRow", "(III)V"⟩, 5), (⟨"DynamicLogicProver$Truth", "joinRows", "(I)V"⟩, 5), (⟨"DynamicLogicProver$Truth", "image", "(II)I"⟩, 5), (⟨"DynamicLogicProver$Truth", "uniteRows", "(I)V"⟩, 5), (⟨"DynamicLogicProver$Truth", "repeatRows", "(I)V"⟩, 5), (⟨"DynamicLogicProver", "prepareRuns", "(I)Z"⟩, 17), (⟨"DynamicLogicProver$Closure", "admit", "(I)V"⟩, 6), (⟨"DynamicLogicProver$Closure", "expand", "(IZ)V"⟩, 6)]
theorem lw_r2 : ∀ q ∈ lw_privs_2, lw_okq q := List.forall_mem_cons.mpr ⟨lw_p16, List.forall_mem_cons.mpr ⟨lw_p17, List.forall_mem_cons.mpr ⟨lw_p18, List.forall_mem_cons.mpr ⟨lw_p19, List.forall_mem_cons.mpr ⟨lw_p20, List.forall_mem_cons.mpr ⟨lw_p21, List.forall_mem_cons.mpr ⟨lw_p22, List.forall_mem_cons.mpr ⟨lw_p23, List.forall_mem_cons.mpr ⟨lw_p24, List.forall_mem_cons.mpr ⟨lw_p25, List.forall_mem_cons.mpr ⟨lw_p26, List.forall_mem_cons.mpr ⟨lw_p27, List.forall_mem_cons.mpr ⟨lw_p28, List.forall_mem_cons.mpr ⟨lw_p29, List.forall_mem_cons.mpr ⟨lw_p30, List.forall_mem_cons.mpr ⟨lw_p31, fun _ h => absurd h List.not_mem_nil⟩⟩⟩⟩⟩⟩⟩⟩⟩⟩⟩⟩⟩⟩⟩⟩
theorem lw_p32 : lw_okq (⟨"DynamicLogicProver$Runs", "numberStates", "()V"⟩, 15) := ⟨⟨by decide +kernel, by decide +kernel⟩, List.mem_of_getElem? (i := 243) (by decide +kernel), List.mem_of_getElem? (i := 878) (by decide +kernel), List.mem_of_getElem? (i := 879) (by decide +kernel)⟩
theorem lw_p33 : lw_okq (⟨"DynamicLogicProver$Runs", "putOutcome", "(IJ)V"⟩, 15) := ⟨⟨by decide +kernel, by decide +kernel⟩, List.mem_of_getElem? (i := 243) (by decide +kernel), List.mem_of_getElem? (i := 892) (by decide +kernel), List.mem_of_getElem? (i := 893) (by decide +kernel)⟩
theorem lw_p34 : lw_okq (⟨"DynamicLogicProver$Runs", "spread", "()Z"⟩, 15) := ⟨⟨by decide +kernel, by decide +kernel⟩, List.mem_of_getElem? (i := 243) (by decide +kernel), List.mem_of_getElem? (i := 907) (by decide +kernel), List.mem_of_getElem? (i := 908) (by decide +kernel)⟩
theorem lw_p35 : lw_okq (⟨"DynamicLogicProver$Runs", "outcome", "(II)J"⟩, 15) := ⟨⟨by decide +kernel, by decide +kernel⟩, List.mem_of_getElem? (i := 243) (by decide +kernel), List.mem_of_getElem? (i := 916) (by decide +kernel), List.mem_of_getElem? (i := 917) (by decide +kernel)⟩
theorem lw_p36 : lw_okq (⟨"DynamicLogicProver$Runs", "brought", "(II)J"⟩, 15) := ⟨⟨by decide +kernel, by decide +kernel⟩, List.mem_of_getElem? (i := 243) (by decide +kernel), List.mem_of_getElem? (i := 927) (by decide +kernel), List.mem_of_getElem? (i := 928) (by decide +kernel)⟩
theorem lw_p37 : lw_okq (⟨"DynamicLogicProver$Runs", "widen", "(I)Z"⟩, 15) := ⟨⟨by decide +kernel, by decide +kernel⟩, List.mem_of_getElem? (i := 243) (by decide +kernel), List.mem_of_getElem? (i := 946) (by decide +kernel), List.mem_of_getElem? (i := 947) (by decide +kernel)⟩
theorem lw_p38 : lw_okq (⟨"DynamicLogicProver$Runs", "sources", "(I[J)J"⟩, 15) := ⟨⟨by decide +kernel, by decide +kernel⟩, List.mem_of_getElem? (i := 243) (by decide +kernel), List.mem_of_getElem? (i := 950) (by decide +kernel), List.mem_of_getElem? (i := 951) (by decide +kernel)⟩
theorem lw_p39 : lw_okq (⟨"DynamicLogicProver$Runs", "programOf", "(I)I"⟩, 15) := ⟨⟨by decide +kernel, by decide +kernel⟩, List.mem_of_getElem? (i := 243) (by decide +kernel), List.mem_of_getElem? (i := 954) (by decide +kernel), List.mem_of_getElem? (i := 955) (by decide +kernel)⟩
theorem lw_p40 : lw_okq (⟨"DynamicLogicProver$Runs", "after", "(II)J"⟩, 15) := ⟨⟨by decide +kernel, by decide +kernel⟩, List.mem_of_getElem? (i := 243) (by decide +kernel), List.mem_of_getElem? (i := 960) (by decide +kernel), List.mem_of_getElem? (i := 961) (by decide +kernel)⟩
theorem lw_p41 : lw_okq (⟨"DynamicLogicProver$Runs", "nearest", "(JI)I"⟩, 15) := ⟨⟨by decide +kernel, by decide +kernel⟩, List.mem_of_getElem? (i := 243) (by decide +kernel), List.mem_of_getElem? (i := 969) (by decide +kernel), List.mem_of_getElem? (i := 970) (by decide +kernel)⟩
theorem lw_p42 : lw_okq (⟨"DynamicLogicProver$Runs", "smallestStep", "(JII)I"⟩, 15) := ⟨⟨by decide +kernel, by decide +kernel⟩, List.mem_of_getElem? (i := 243) (by decide +kernel), List.mem_of_getElem? (i := 981) (by decide +kernel), List.mem_of_getElem? (i := 982) (by decide +kernel)⟩
theorem lw_p43 : lw_okq (⟨"DynamicLogicProver$Runs", "moved", "(JIII)J"⟩, 15) := ⟨⟨by decide +kernel, by decide +kernel⟩, List.mem_of_getElem? (i := 243) (by decide +kernel), List.mem_of_getElem? (i := 985) (by decide +kernel), List.mem_of_getElem? (i := 986) (by decide +kernel)⟩
theorem lw_p44 : lw_okq (⟨"DynamicLogicProver$Runs", "tally", "(JII)J"⟩, 15) := ⟨⟨by decide +kernel, by decide +kernel⟩, List.mem_of_getElem? (i := 243) (by decide +kernel), List.mem_of_getElem? (i := 998) (by decide +kernel), List.mem_of_getElem? (i := 999) (by decide +kernel)⟩
theorem lw_p45 : lw_okq (⟨"DynamicLogicProver$Runs", "slotOf", "(JI)I"⟩, 15) := ⟨⟨by decide +kernel, by decide +kernel⟩, List.mem_of_getElem? (i := 243) (by decide +kernel), List.mem_of_getElem? (i := 1002) (by decide +kernel), List.mem_of_getElem? (i := 1003) (by decide +kernel)⟩
theorem lw_p46 : lw_okq (⟨"DynamicLogicProver$Runs", "remember", "(JIJ)V"⟩, 15) := ⟨⟨by decide +kernel, by decide +kernel⟩, List.mem_of_getElem? (i := 243) (by decide +kernel), List.mem_of_getElem? (i := 1008) (by decide +kernel), List.mem_of_getElem? (i := 1009) (by decide +kernel)⟩
theorem lw_p47 : lw_okq (⟨"DynamicLogicProver", "filter", "(I)V"⟩, 17) := ⟨⟨by decide +kernel, by decide +kernel⟩, List.mem_of_getElem? (i := 19) (by decide +kernel), List.mem_of_getElem? (i := 1072) (by decide +kernel), List.mem_of_getElem? (i := 1073) (by decide +kernel)⟩
def lw_privs_3 : List (MethodName × Nat) := [(⟨"DynamicLogicProver$Runs", "numberStates", "()V"⟩, 15), (⟨"DynamicLogicProver$Runs", "putOutcome", "(IJ)V"⟩, 15), (⟨"DynamicLogicProver$Runs", "spread", "()Z"⟩, 15), (⟨"DynamicLogicProver$Runs", "outcome", "(II)J"⟩, 15), (⟨"DynamicLogicProver$Runs", "brought", "(II)J"⟩, 15), (⟨"DynamicLogicProver$Runs", "widen", "(I)Z"⟩, 15), (⟨"DynamicLogicProver$Runs", "sources", "(I[J)J"⟩, 15), (⟨"DynamicLogicProver$Runs", "programOf", "(I)I"⟩, 15), (⟨"DynamicLogicProver$Runs", "after", "(II)J"⟩, 15), (⟨"DynamicLogicProver$Runs", "nearest", "(JI)I"⟩, 15), (⟨"DynamicLogicProver$Runs", "smallestStep", "(JII)I"⟩, 15), (⟨"DynamicLogicProver$Runs", "moved", "(JIII)J"⟩, 15), (⟨"DynamicLogicProver$Runs", "tally", "(JII)J"⟩, 15), (⟨"DynamicLogicProver$Runs", "slotOf", "(JI)I"⟩, 15), (⟨"DynamicLogicProver$Runs", "remember", "(JIJ)V"⟩, 15), (⟨"DynamicLogicProver", "filter", "(I)V"⟩, 17)]
theorem lw_r3 : ∀ q ∈ lw_privs_3, lw_okq q := List.forall_mem_cons.mpr ⟨lw_p32, List.forall_mem_cons.mpr ⟨lw_p33, List.forall_mem_cons.mpr ⟨lw_p34, List.forall_mem_cons.mpr ⟨lw_p35, List.forall_mem_cons.mpr ⟨lw_p36, List.forall_mem_cons.mpr ⟨lw_p37, List.forall_mem_cons.mpr ⟨lw_p38, List.forall_mem_cons.mpr ⟨lw_p39, List.forall_mem_cons.mpr ⟨lw_p40, List.forall_mem_cons.mpr ⟨lw_p41, List.forall_mem_cons.mpr ⟨lw_p42, List.forall_mem_cons.mpr ⟨lw_p43, List.forall_mem_cons.mpr ⟨lw_p44, List.forall_mem_cons.mpr ⟨lw_p45, List.forall_mem_cons.mpr ⟨lw_p46, List.forall_mem_cons.mpr ⟨lw_p47, fun _ h => absurd h List.not_mem_nil⟩⟩⟩⟩⟩⟩⟩⟩⟩⟩⟩⟩⟩⟩⟩⟩
theorem lw_p48 : lw_okq (⟨"DynamicLogicProver$Rewriter", "markComplex", "(I)V"⟩, 3) := ⟨⟨by decide +kernel, by decide +kernel⟩, List.mem_of_getElem? (i := 158) (by decide +kernel), List.mem_of_getElem? (i := 1122) (by decide +kernel), List.mem_of_getElem? (i := 1123) (by decide +kernel)⟩
theorem lw_p49 : lw_okq (⟨"DynamicLogicProver$Rewriter", "goesLeft", "(I)Z"⟩, 3) := ⟨⟨by decide +kernel, by decide +kernel⟩, List.mem_of_getElem? (i := 158) (by decide +kernel), List.mem_of_getElem? (i := 1132) (by decide +kernel), List.mem_of_getElem? (i := 1133) (by decide +kernel)⟩
theorem lw_p50 : lw_okq (⟨"DynamicLogicProver$Rewriter", "opened", "(I)I"⟩, 3) := ⟨⟨by decide +kernel, by decide +kernel⟩, List.mem_of_getElem? (i := 158) (by decide +kernel), List.mem_of_getElem? (i := 1136) (by decide +kernel), List.mem_of_getElem? (i := 1137) (by decide +kernel)⟩
theorem lw_p51 : lw_okq (⟨"DynamicLogicProver$Rewriter", "rebuilt", "(II)I"⟩, 3) := ⟨⟨by decide +kernel, by decide +kernel⟩, List.mem_of_getElem? (i := 158) (by decide +kernel), List.mem_of_getElem? (i := 1150) (by decide +kernel), List.mem_of_getElem? (i := 1151) (by decide +kernel)⟩
theorem lw_p52 : lw_okq (⟨"DynamicLogicProver$Rewriter", "bounded", "(II)I"⟩, 3) := ⟨⟨by decide +kernel, by decide +kernel⟩, List.mem_of_getElem? (i := 158) (by decide +kernel), List.mem_of_getElem? (i := 1154) (by decide +kernel), List.mem_of_getElem? (i := 1155) (by decide +kernel)⟩
theorem lw_p53 : lw_okq (⟨"DynamicLogicProver", "decide", "(I)Z"⟩, 17) := ⟨⟨by decide +kernel, by decide +kernel⟩, List.mem_of_getElem? (i := 19) (by decide +kernel), List.mem_of_getElem? (i := 1172) (by decide +kernel), List.mem_of_getElem? (i := 1173) (by decide +kernel)⟩
theorem lw_p54 : lw_okq (⟨"DynamicLogicProver$Decision", "takeMembers", "()V"⟩, 13) := ⟨⟨by decide +kernel, by decide +kernel⟩, List.mem_of_getElem? (i := 295) (by decide +kernel), List.mem_of_getElem? (i := 1187) (by decide +kernel), List.mem_of_getElem? (i := 1188) (by decide +kernel)⟩
theorem lw_p55 : lw_okq (⟨"DynamicLogicProver$Decision", "fix", "(I)V"⟩, 13) := ⟨⟨by decide +kernel, by decide +kernel⟩, List.mem_of_getElem? (i := 295) (by decide +kernel), List.mem_of_getElem? (i := 1202) (by decide +kernel), List.mem_of_getElem? (i := 1203) (by decide +kernel)⟩
theorem lw_p56 : lw_okq (⟨"DynamicLogicProver$Decision", "isComplexBox", "(I)Z"⟩, 13) := ⟨⟨by decide +kernel, by decide +kernel⟩, List.mem_of_getElem? (i := 295) (by decide +kernel), List.mem_of_getElem? (i := 1206) (by decide +kernel), List.mem_of_getElem? (i := 1207) (by decide +kernel)⟩
theorem lw_p57 : lw_okq (⟨"DynamicLogicProver$Decision", "combine", "(I)Z"⟩, 13) := ⟨⟨by decide +kernel, by decide +kernel⟩, List.mem_of_getElem? (i := 295) (by decide +kernel), List.mem_of_getElem? (i := 1210) (by decide +kernel), List.mem_of_getElem? (i := 1211) (by decide +kernel)⟩
theorem lw_p58 : lw_okq (⟨"DynamicLogicProver$Decision", "combined", "(II)J"⟩, 13) := ⟨⟨by decide +kernel, by decide +kernel⟩, List.mem_of_getElem? (i := 295) (by decide +kernel), List.mem_of_getElem? (i := 1214) (by decide +kernel), List.mem_of_getElem? (i := 1215) (by decide +kernel)⟩
theorem lw_p59 : lw_okq (⟨"DynamicLogicProver$Decision", "value", "(II)J"⟩, 13) := ⟨⟨by decide +kernel, by decide +kernel⟩, List.mem_of_getElem? (i := 295) (by decide +kernel), List.mem_of_getElem? (i := 1218) (by decide +kernel), List.mem_of_getElem? (i := 1219) (by decide +kernel)⟩
theorem lw_p60 : lw_okq (⟨"DynamicLogicProver$Decision", "gather", "(I)I"⟩, 13) := ⟨⟨by decide +kernel, by decide +kernel⟩, List.mem_of_getElem? (i := 295) (by decide +kernel), List.mem_of_getElem? (i := 1223) (by decide +kernel), List.mem_of_getElem? (i := 1224) (by decide +kernel)⟩
theorem lw_p61 : lw_okq (⟨"DynamicLogicProver$Decision", "enlist", "(II)I"⟩, 13) := ⟨⟨by decide +kernel, by decide +kernel⟩, List.mem_of_getElem? (i := 295) (by decide +kernel), List.mem_of_getElem? (i := 1227) (by decide +kernel), List.mem_of_getElem? (i := 1228) (by decide +kernel)⟩
theorem lw_p62 : lw_okq (⟨"DynamicLogicProver$Decision", "linkAtoms", "()V"⟩, 13) := ⟨⟨by decide +kernel, by decide +kernel⟩, List.mem_of_getElem? (i := 295) (by decide +kernel), List.mem_of_getElem? (i := 1231) (by decide +kernel), List.mem_of_getElem? (i := 1232) (by decide +kernel)⟩
theorem lw_p63 : lw_okq (⟨"DynamicLogicProver$Decision", "isStep", "(I)Z"⟩, 13) := ⟨⟨by decide +kernel, by decide +kernel⟩, List.mem_of_getElem? (i := 295) (by decide +kernel), List.mem_of_getElem? (i := 1236) (by decide +kernel), List.mem_of_getElem? (i := 1237) (by decide +kernel)⟩
def lw_privs_4 : List (MethodName × Nat) := [(⟨"DynamicLogicProver$Rewriter", "markComplex", "(I)V"⟩, 3), (⟨"DynamicLogicProver$Rewriter", "goesLeft", "(I)Z"⟩, 3), (⟨"DynamicLogicProver$Rewriter", "opened", "(I)I"⟩, 3), (⟨"DynamicLogicProver$Rewriter", "rebuilt", "(II)I"⟩, 3), (⟨"DynamicLogicProver$Rewriter", "bounded", "(II)I"⟩, 3), (⟨"DynamicLogicProver", "decide", "(I)Z"⟩, 17), (⟨"DynamicLogicProver$Decision", "takeMembers", "()V"⟩, 13), (⟨"DynamicLogicProver$Decision", "fix", "(I)V"⟩, 13), (⟨"DynamicLogicProver$Decision", "isComplexBox", "(I)Z"⟩, 13), (⟨"DynamicLogicProver$Decision", "combine", "(I)Z"⟩, 13), (⟨"DynamicLogicProver$Decision", "combined", "(II)J"⟩, 13), (⟨"DynamicLogicProver$Decision", "value", "(II)J"⟩, 13), (⟨"DynamicLogicProver$Decision", "gather", "(I)I"⟩, 13), (⟨"DynamicLogicProver$Decision", "enlist", "(II)I"⟩, 13), (⟨"DynamicLogicProver$Decision", "linkAtoms", "()V"⟩, 13), (⟨"DynamicLogicProver$Decision", "isStep", "(I)Z"⟩, 13)]
theorem lw_r4 : ∀ q ∈ lw_privs_4, lw_okq q := List.forall_mem_cons.mpr ⟨lw_p48, List.forall_mem_cons.mpr ⟨lw_p49, List.forall_mem_cons.mpr ⟨lw_p50, List.forall_mem_cons.mpr ⟨lw_p51, List.forall_mem_cons.mpr ⟨lw_p52, List.forall_mem_cons.mpr ⟨lw_p53, List.forall_mem_cons.mpr ⟨lw_p54, List.forall_mem_cons.mpr ⟨lw_p55, List.forall_mem_cons.mpr ⟨lw_p56, List.forall_mem_cons.mpr ⟨lw_p57, List.forall_mem_cons.mpr ⟨lw_p58, List.forall_mem_cons.mpr ⟨lw_p59, List.forall_mem_cons.mpr ⟨lw_p60, List.forall_mem_cons.mpr ⟨lw_p61, List.forall_mem_cons.mpr ⟨lw_p62, List.forall_mem_cons.mpr ⟨lw_p63, fun _ h => absurd h List.not_mem_nil⟩⟩⟩⟩⟩⟩⟩⟩⟩⟩⟩⟩⟩⟩⟩⟩
theorem lw_p64 : lw_okq (⟨"DynamicLogicProver$Decision", "narrow", "(II)V"⟩, 13) := ⟨⟨by decide +kernel, by decide +kernel⟩, List.mem_of_getElem? (i := 295) (by decide +kernel), List.mem_of_getElem? (i := 1240) (by decide +kernel), List.mem_of_getElem? (i := 1241) (by decide +kernel)⟩
theorem lw_p65 : lw_okq (⟨"DynamicLogicProver$Decision", "refute", "()V"⟩, 13) := ⟨⟨by decide +kernel, by decide +kernel⟩, List.mem_of_getElem? (i := 295) (by decide +kernel), List.mem_of_getElem? (i := 1244) (by decide +kernel), List.mem_of_getElem? (i := 1245) (by decide +kernel)⟩
theorem lw_p66 : lw_okq (⟨"DynamicLogicProver$Decision", "extend", "(I)Z"⟩, 13) := ⟨⟨by decide +kernel, by decide +kernel⟩, List.mem_of_getElem? (i := 295) (by decide +kernel), List.mem_of_getElem? (i := 1249) (by decide +kernel), List.mem_of_getElem? (i := 1250) (by decide +kernel)⟩
theorem lw_p67 : lw_okq (⟨"DynamicLogicProver$Decision", "refutation", "(II)J"⟩, 13) := ⟨⟨by decide +kernel, by decide +kernel⟩, List.mem_of_getElem? (i := 295) (by decide +kernel), List.mem_of_getElem? (i := 1253) (by decide +kernel), List.mem_of_getElem? (i := 1254) (by decide +kernel)⟩
theorem lw_p68 : lw_okq (⟨"DynamicLogicProver$Decision", "refutedBy", "(IIJ)J"⟩, 13) := ⟨⟨by decide +kernel, by decide +kernel⟩, List.mem_of_getElem? (i := 295) (by decide +kernel), List.mem_of_getElem? (i := 1257) (by decide +kernel), List.mem_of_getElem? (i := 1258) (by decide +kernel)⟩
theorem lw_p69 : lw_okq (⟨"DynamicLogicProver$Decision", "leading", "(IIJ)J"⟩, 13) := ⟨⟨by decide +kernel, by decide +kernel⟩, List.mem_of_getElem? (i := 295) (by decide +kernel), List.mem_of_getElem? (i := 1261) (by decide +kernel), List.mem_of_getElem? (i := 1262) (by decide +kernel)⟩
theorem lw_p70 : lw_okq (⟨"DynamicLogicProver$Decision", "remove", "()Z"⟩, 13) := ⟨⟨by decide +kernel, by decide +kernel⟩, List.mem_of_getElem? (i := 295) (by decide +kernel), List.mem_of_getElem? (i := 1265) (by decide +kernel), List.mem_of_getElem? (i := 1266) (by decide +kernel)⟩
theorem lw_p71 : lw_okq (⟨"DynamicLogicProverModel", "clearModel", "(I)V"⟩, 88) := ⟨⟨by decide +kernel, by decide +kernel⟩, List.mem_of_getElem? (i := 1392) (by decide +kernel), List.mem_of_getElem? (i := 1679) (by decide +kernel), List.mem_of_getElem? (i := 1680) (by decide +kernel)⟩
theorem lw_p72 : lw_okq (⟨"DynamicLogicProverModel", "isWorld", "(I)Z"⟩, 88) := ⟨⟨by decide +kernel, by decide +kernel⟩, List.mem_of_getElem? (i := 1392) (by decide +kernel), List.mem_of_getElem? (i := 1687) (by decide +kernel), List.mem_of_getElem? (i := 1688) (by decide +kernel)⟩
theorem lw_p73 : lw_okq (⟨"DynamicLogicProverModel", "useCode", "(IIII)V"⟩, 88) := ⟨⟨by decide +kernel, by decide +kernel⟩, List.mem_of_getElem? (i := 1392) (by decide +kernel), List.mem_of_getElem? (i := 1713) (by decide +kernel), List.mem_of_getElem? (i := 1714) (by decide +kernel)⟩
theorem lw_p74 : lw_okq (⟨"DynamicLogicProverModel", "becomeUsed", "()V"⟩, 88) := ⟨⟨by decide +kernel, by decide +kernel⟩, List.mem_of_getElem? (i := 1392) (by decide +kernel), List.mem_of_getElem? (i := 1717) (by decide +kernel), List.mem_of_getElem? (i := 1718) (by decide +kernel)⟩
theorem lw_p75 : lw_okq (⟨"DynamicLogicProverModel", "findGroups", "()I"⟩, 88) := ⟨⟨by decide +kernel, by decide +kernel⟩, List.mem_of_getElem? (i := 1392) (by decide +kernel), List.mem_of_getElem? (i := 1725) (by decide +kernel), List.mem_of_getElem? (i := 1726) (by decide +kernel)⟩
theorem lw_p76 : lw_okq (⟨"DynamicLogicProverModel", "isFormula", "(I)Z"⟩, 88) := ⟨⟨by decide +kernel, by decide +kernel⟩, List.mem_of_getElem? (i := 1392) (by decide +kernel), List.mem_of_getElem? (i := 1737) (by decide +kernel), List.mem_of_getElem? (i := 1738) (by decide +kernel)⟩
theorem lw_p77 : lw_okq (⟨"DynamicLogicProverModel", "open", "(I)I"⟩, 88) := ⟨⟨by decide +kernel, by decide +kernel⟩, List.mem_of_getElem? (i := 1392) (by decide +kernel), List.mem_of_getElem? (i := 1745) (by decide +kernel), List.mem_of_getElem? (i := 1746) (by decide +kernel)⟩
theorem lw_p78 : lw_okq (⟨"DynamicLogicProverModel", "loaded", "(I)I"⟩, 88) := ⟨⟨by decide +kernel, by decide +kernel⟩, List.mem_of_getElem? (i := 1392) (by decide +kernel), List.mem_of_getElem? (i := 1749) (by decide +kernel), List.mem_of_getElem? (i := 1750) (by decide +kernel)⟩
theorem lw_p79 : lw_okq (⟨"DynamicLogicProverModel", "node", "(III)I"⟩, 88) := ⟨⟨by decide +kernel, by decide +kernel⟩, List.mem_of_getElem? (i := 1392) (by decide +kernel), List.mem_of_getElem? (i := 1758) (by decide +kernel), List.mem_of_getElem? (i := 1759) (by decide +kernel)⟩
def lw_privs_5 : List (MethodName × Nat) := [(⟨"DynamicLogicProver$Decision", "narrow", "(II)V"⟩, 13), (⟨"DynamicLogicProver$Decision", "refute", "()V"⟩, 13), (⟨"DynamicLogicProver$Decision", "extend", "(I)Z"⟩, 13), (⟨"DynamicLogicProver$Decision", "refutation", "(II)J"⟩, 13), (⟨"DynamicLogicProver$Decision", "refutedBy", "(IIJ)J"⟩, 13), (⟨"DynamicLogicProver$Decision", "leading", "(IIJ)J"⟩, 13), (⟨"DynamicLogicProver$Decision", "remove", "()Z"⟩, 13), (⟨"DynamicLogicProverModel", "clearModel", "(I)V"⟩, 88), (⟨"DynamicLogicProverModel", "isWorld", "(I)Z"⟩, 88), (⟨"DynamicLogicProverModel", "useCode", "(IIII)V"⟩, 88), (⟨"DynamicLogicProverModel", "becomeUsed", "()V"⟩, 88), (⟨"DynamicLogicProverModel", "findGroups", "()I"⟩, 88), (⟨"DynamicLogicProverModel", "isFormula", "(I)Z"⟩, 88), (⟨"DynamicLogicProverModel", "open", "(I)I"⟩, 88), (⟨"DynamicLogicProverModel", "loaded", "(I)I"⟩, 88), (⟨"DynamicLogicProverModel", "node", "(III)I"⟩, 88)]
theorem lw_r5 : ∀ q ∈ lw_privs_5, lw_okq q := List.forall_mem_cons.mpr ⟨lw_p64, List.forall_mem_cons.mpr ⟨lw_p65, List.forall_mem_cons.mpr ⟨lw_p66, List.forall_mem_cons.mpr ⟨lw_p67, List.forall_mem_cons.mpr ⟨lw_p68, List.forall_mem_cons.mpr ⟨lw_p69, List.forall_mem_cons.mpr ⟨lw_p70, List.forall_mem_cons.mpr ⟨lw_p71, List.forall_mem_cons.mpr ⟨lw_p72, List.forall_mem_cons.mpr ⟨lw_p73, List.forall_mem_cons.mpr ⟨lw_p74, List.forall_mem_cons.mpr ⟨lw_p75, List.forall_mem_cons.mpr ⟨lw_p76, List.forall_mem_cons.mpr ⟨lw_p77, List.forall_mem_cons.mpr ⟨lw_p78, List.forall_mem_cons.mpr ⟨lw_p79, fun _ h => absurd h List.not_mem_nil⟩⟩⟩⟩⟩⟩⟩⟩⟩⟩⟩⟩⟩⟩⟩⟩
theorem lw_p80 : lw_okq (⟨"DynamicLogicProverModel", "textOf", "(I)I"⟩, 88) := ⟨⟨by decide +kernel, by decide +kernel⟩, List.mem_of_getElem? (i := 1392) (by decide +kernel), List.mem_of_getElem? (i := 1766) (by decide +kernel), List.mem_of_getElem? (i := 1767) (by decide +kernel)⟩
theorem lw_p81 : lw_okq (⟨"DynamicLogicProverModel", "writeText", "(I)V"⟩, 88) := ⟨⟨by decide +kernel, by decide +kernel⟩, List.mem_of_getElem? (i := 1392) (by decide +kernel), List.mem_of_getElem? (i := 1770) (by decide +kernel), List.mem_of_getElem? (i := 1771) (by decide +kernel)⟩
theorem lw_p82 : lw_okq (⟨"DynamicLogicProverModel", "compareNodes", "(II)I"⟩, 88) := ⟨⟨by decide +kernel, by decide +kernel⟩, List.mem_of_getElem? (i := 1392) (by decide +kernel), List.mem_of_getElem? (i := 1782) (by decide +kernel), List.mem_of_getElem? (i := 1783) (by decide +kernel)⟩
theorem lw_p83 : lw_okq (⟨"DynamicLogicProverModel", "compareTexts", "(IIII)I"⟩, 88) := ⟨⟨by decide +kernel, by decide +kernel⟩, List.mem_of_getElem? (i := 1392) (by decide +kernel), List.mem_of_getElem? (i := 1786) (by decide +kernel), List.mem_of_getElem? (i := 1787) (by decide +kernel)⟩
theorem lw_p84 : lw_okq (⟨"DynamicLogicProverModel", "readOperand", "()V"⟩, 88) := ⟨⟨by decide +kernel, by decide +kernel⟩, List.mem_of_getElem? (i := 1392) (by decide +kernel), List.mem_of_getElem? (i := 1799) (by decide +kernel), List.mem_of_getElem? (i := 1800) (by decide +kernel)⟩
theorem lw_p85 : lw_okq (⟨"DynamicLogicProverModel", "here", "()I"⟩, 88) := ⟨⟨by decide +kernel, by decide +kernel⟩, List.mem_of_getElem? (i := 1392) (by decide +kernel), List.mem_of_getElem? (i := 1803) (by decide +kernel), List.mem_of_getElem? (i := 1804) (by decide +kernel)⟩
theorem lw_p86 : lw_okq (⟨"DynamicLogicProverModel", "openSign", "(I)V"⟩, 88) := ⟨⟨by decide +kernel, by decide +kernel⟩, List.mem_of_getElem? (i := 1392) (by decide +kernel), List.mem_of_getElem? (i := 1807) (by decide +kernel), List.mem_of_getElem? (i := 1808) (by decide +kernel)⟩
theorem lw_p87 : lw_okq (⟨"DynamicLogicProverModel", "leaf", "(I)I"⟩, 88) := ⟨⟨by decide +kernel, by decide +kernel⟩, List.mem_of_getElem? (i := 1392) (by decide +kernel), List.mem_of_getElem? (i := 1813) (by decide +kernel), List.mem_of_getElem? (i := 1814) (by decide +kernel)⟩
theorem lw_p88 : lw_okq (⟨"DynamicLogicProverModel", "not", "(I)I"⟩, 88) := ⟨⟨by decide +kernel, by decide +kernel⟩, List.mem_of_getElem? (i := 1392) (by decide +kernel), List.mem_of_getElem? (i := 1817) (by decide +kernel), List.mem_of_getElem? (i := 1818) (by decide +kernel)⟩
theorem lw_p89 : lw_okq (⟨"DynamicLogicProverModel", "pushValue", "(I)V"⟩, 88) := ⟨⟨by decide +kernel, by decide +kernel⟩, List.mem_of_getElem? (i := 1392) (by decide +kernel), List.mem_of_getElem? (i := 1821) (by decide +kernel), List.mem_of_getElem? (i := 1822) (by decide +kernel)⟩
theorem lw_p90 : lw_okq (⟨"DynamicLogicProverModel", "partEnds", "()V"⟩, 88) := ⟨⟨by decide +kernel, by decide +kernel⟩, List.mem_of_getElem? (i := 1392) (by decide +kernel), List.mem_of_getElem? (i := 1825) (by decide +kernel), List.mem_of_getElem? (i := 1826) (by decide +kernel)⟩
theorem lw_p91 : lw_okq (⟨"DynamicLogicProverModel", "topSign", "()I"⟩, 88) := ⟨⟨by decide +kernel, by decide +kernel⟩, List.mem_of_getElem? (i := 1392) (by decide +kernel), List.mem_of_getElem? (i := 1829) (by decide +kernel), List.mem_of_getElem? (i := 1830) (by decide +kernel)⟩
theorem lw_p92 : lw_okq (⟨"DynamicLogicProverModel", "readBehindFormula", "()V"⟩, 88) := ⟨⟨by decide +kernel, by decide +kernel⟩, List.mem_of_getElem? (i := 1392) (by decide +kernel), List.mem_of_getElem? (i := 1835) (by decide +kernel), List.mem_of_getElem? (i := 1836) (by decide +kernel)⟩
theorem lw_p93 : lw_okq (⟨"DynamicLogicProverModel", "workTop", "()V"⟩, 88) := ⟨⟨by decide +kernel, by decide +kernel⟩, List.mem_of_getElem? (i := 1392) (by decide +kernel), List.mem_of_getElem? (i := 1839) (by decide +kernel), List.mem_of_getElem? (i := 1840) (by decide +kernel)⟩
theorem lw_p94 : lw_okq (⟨"DynamicLogicProverModel", "and", "(II)I"⟩, 88) := ⟨⟨by decide +kernel, by decide +kernel⟩, List.mem_of_getElem? (i := 1392) (by decide +kernel), List.mem_of_getElem? (i := 1843) (by decide +kernel), List.mem_of_getElem? (i := 1844) (by decide +kernel)⟩
theorem lw_p95 : lw_okq (⟨"DynamicLogicProverModel", "readBehindProgram", "()V"⟩, 88) := ⟨⟨by decide +kernel, by decide +kernel⟩, List.mem_of_getElem? (i := 1392) (by decide +kernel), List.mem_of_getElem? (i := 1847) (by decide +kernel), List.mem_of_getElem? (i := 1848) (by decide +kernel)⟩
def lw_privs_6 : List (MethodName × Nat) := [(⟨"DynamicLogicProverModel", "textOf", "(I)I"⟩, 88), (⟨"DynamicLogicProverModel", "writeText", "(I)V"⟩, 88), (⟨"DynamicLogicProverModel", "compareNodes", "(II)I"⟩, 88), (⟨"DynamicLogicProverModel", "compareTexts", "(IIII)I"⟩, 88), (⟨"DynamicLogicProverModel", "readOperand", "()V"⟩, 88), (⟨"DynamicLogicProverModel", "here", "()I"⟩, 88), (⟨"DynamicLogicProverModel", "openSign", "(I)V"⟩, 88), (⟨"DynamicLogicProverModel", "leaf", "(I)I"⟩, 88), (⟨"DynamicLogicProverModel", "not", "(I)I"⟩, 88), (⟨"DynamicLogicProverModel", "pushValue", "(I)V"⟩, 88), (⟨"DynamicLogicProverModel", "partEnds", "()V"⟩, 88), (⟨"DynamicLogicProverModel", "topSign", "()I"⟩, 88), (⟨"DynamicLogicProverModel", "readBehindFormula", "()V"⟩, 88), (⟨"DynamicLogicProverModel", "workTop", "()V"⟩, 88), (⟨"DynamicLogicProverModel", "and", "(II)I"⟩, 88), (⟨"DynamicLogicProverModel", "readBehindProgram", "()V"⟩, 88)]
theorem lw_r6 : ∀ q ∈ lw_privs_6, lw_okq q := List.forall_mem_cons.mpr ⟨lw_p80, List.forall_mem_cons.mpr ⟨lw_p81, List.forall_mem_cons.mpr ⟨lw_p82, List.forall_mem_cons.mpr ⟨lw_p83, List.forall_mem_cons.mpr ⟨lw_p84, List.forall_mem_cons.mpr ⟨lw_p85, List.forall_mem_cons.mpr ⟨lw_p86, List.forall_mem_cons.mpr ⟨lw_p87, List.forall_mem_cons.mpr ⟨lw_p88, List.forall_mem_cons.mpr ⟨lw_p89, List.forall_mem_cons.mpr ⟨lw_p90, List.forall_mem_cons.mpr ⟨lw_p91, List.forall_mem_cons.mpr ⟨lw_p92, List.forall_mem_cons.mpr ⟨lw_p93, List.forall_mem_cons.mpr ⟨lw_p94, List.forall_mem_cons.mpr ⟨lw_p95, fun _ h => absurd h List.not_mem_nil⟩⟩⟩⟩⟩⟩⟩⟩⟩⟩⟩⟩⟩⟩⟩⟩
theorem lw_p96 : lw_okq (⟨"DynamicLogicProverModel", "keep", "(I)I"⟩, 88) := ⟨⟨by decide +kernel, by decide +kernel⟩, List.mem_of_getElem? (i := 1392) (by decide +kernel), List.mem_of_getElem? (i := 1851) (by decide +kernel), List.mem_of_getElem? (i := 1852) (by decide +kernel)⟩
theorem lw_p97 : lw_okq (⟨"DynamicLogicProverModel", "look", "(I)I"⟩, 88) := ⟨⟨by decide +kernel, by decide +kernel⟩, List.mem_of_getElem? (i := 1392) (by decide +kernel), List.mem_of_getElem? (i := 1863) (by decide +kernel), List.mem_of_getElem? (i := 1864) (by decide +kernel)⟩
theorem lw_p98 : lw_okq (⟨"DynamicLogicProverModel", "useOwn", "()V"⟩, 88) := ⟨⟨by decide +kernel, by decide +kernel⟩, List.mem_of_getElem? (i := 1392) (by decide +kernel), List.mem_of_getElem? (i := 1867) (by decide +kernel), List.mem_of_getElem? (i := 1868) (by decide +kernel)⟩
theorem lw_p99 : lw_okq (⟨"DynamicLogicProverModel", "evaluateAll", "()V"⟩, 88) := ⟨⟨by decide +kernel, by decide +kernel⟩, List.mem_of_getElem? (i := 1392) (by decide +kernel), List.mem_of_getElem? (i := 1871) (by decide +kernel), List.mem_of_getElem? (i := 1872) (by decide +kernel)⟩
theorem lw_p100 : lw_okq (⟨"DynamicLogicProverModel", "evaluate", "(I)V"⟩, 88) := ⟨⟨by decide +kernel, by decide +kernel⟩, List.mem_of_getElem? (i := 1392) (by decide +kernel), List.mem_of_getElem? (i := 1875) (by decide +kernel), List.mem_of_getElem? (i := 1876) (by decide +kernel)⟩
theorem lw_p101 : lw_okq (⟨"DynamicLogicProverModel", "through", "(I[II)I"⟩, 88) := ⟨⟨by decide +kernel, by decide +kernel⟩, List.mem_of_getElem? (i := 1392) (by decide +kernel), List.mem_of_getElem? (i := 1879) (by decide +kernel), List.mem_of_getElem? (i := 1880) (by decide +kernel)⟩
theorem lw_p102 : lw_okq (⟨"DynamicLogicProverModel", "wrongRun", "(III)I"⟩, 88) := ⟨⟨by decide +kernel, by decide +kernel⟩, List.mem_of_getElem? (i := 1392) (by decide +kernel), List.mem_of_getElem? (i := 1900) (by decide +kernel), List.mem_of_getElem? (i := 1901) (by decide +kernel)⟩
theorem lw_p103 : lw_okq (⟨"DynamicLogicProverModel", "makeNet", "(I)V"⟩, 88) := ⟨⟨by decide +kernel, by decide +kernel⟩, List.mem_of_getElem? (i := 1392) (by decide +kernel), List.mem_of_getElem? (i := 1904) (by decide +kernel), List.mem_of_getElem? (i := 1905) (by decide +kernel)⟩
theorem lw_p104 : lw_okq (⟨"DynamicLogicProverModel", "addEdge", "(IIII)V"⟩, 88) := ⟨⟨by decide +kernel, by decide +kernel⟩, List.mem_of_getElem? (i := 1392) (by decide +kernel), List.mem_of_getElem? (i := 1908) (by decide +kernel), List.mem_of_getElem? (i := 1909) (by decide +kernel)⟩
theorem lw_p105 : lw_okq (⟨"DynamicLogicProverModel", "findDues", "(I)V"⟩, 88) := ⟨⟨by decide +kernel, by decide +kernel⟩, List.mem_of_getElem? (i := 1392) (by decide +kernel), List.mem_of_getElem? (i := 1912) (by decide +kernel), List.mem_of_getElem? (i := 1913) (by decide +kernel)⟩
theorem lw_p106 : lw_okq (⟨"DynamicLogicProverModel", "isStill", "(II)Z"⟩, 88) := ⟨⟨by decide +kernel, by decide +kernel⟩, List.mem_of_getElem? (i := 1392) (by decide +kernel), List.mem_of_getElem? (i := 1917) (by decide +kernel), List.mem_of_getElem? (i := 1918) (by decide +kernel)⟩
theorem lw_p107 : lw_okq (⟨"DynamicLogicProverModel", "beginAt", "(I)V"⟩, 88) := ⟨⟨by decide +kernel, by decide +kernel⟩, List.mem_of_getElem? (i := 1392) (by decide +kernel), List.mem_of_getElem? (i := 1926) (by decide +kernel), List.mem_of_getElem? (i := 1927) (by decide +kernel)⟩
theorem lw_p108 : lw_okq (⟨"DynamicLogicProverModel", "goStill", "(I)V"⟩, 88) := ⟨⟨by decide +kernel, by decide +kernel⟩, List.mem_of_getElem? (i := 1392) (by decide +kernel), List.mem_of_getElem? (i := 1930) (by decide +kernel), List.mem_of_getElem? (i := 1931) (by decide +kernel)⟩
theorem lw_p109 : lw_okq (⟨"DynamicLogicProverModel", "firstStep", "(II)I"⟩, 88) := ⟨⟨by decide +kernel, by decide +kernel⟩, List.mem_of_getElem? (i := 1392) (by decide +kernel), List.mem_of_getElem? (i := 1934) (by decide +kernel), List.mem_of_getElem? (i := 1935) (by decide +kernel)⟩
theorem lw_p110 : lw_okq (⟨"DynamicLogicProverModel", "goBy", "(I)Z"⟩, 88) := ⟨⟨by decide +kernel, by decide +kernel⟩, List.mem_of_getElem? (i := 1392) (by decide +kernel), List.mem_of_getElem? (i := 1938) (by decide +kernel), List.mem_of_getElem? (i := 1939) (by decide +kernel)⟩
theorem lw_p111 : lw_okq (⟨"DynamicLogicProverModel", "takeNext", "()V"⟩, 88) := ⟨⟨by decide +kernel, by decide +kernel⟩, List.mem_of_getElem? (i := 1392) (by decide +kernel), List.mem_of_getElem? (i := 1942) (by decide +kernel), List.mem_of_getElem? (i := 1943) (by decide +kernel)⟩
def lw_privs_7 : List (MethodName × Nat) := [(⟨"DynamicLogicProverModel", "keep", "(I)I"⟩, 88), (⟨"DynamicLogicProverModel", "look", "(I)I"⟩, 88), (⟨"DynamicLogicProverModel", "useOwn", "()V"⟩, 88), (⟨"DynamicLogicProverModel", "evaluateAll", "()V"⟩, 88), (⟨"DynamicLogicProverModel", "evaluate", "(I)V"⟩, 88), (⟨"DynamicLogicProverModel", "through", "(I[II)I"⟩, 88), (⟨"DynamicLogicProverModel", "wrongRun", "(III)I"⟩, 88), (⟨"DynamicLogicProverModel", "makeNet", "(I)V"⟩, 88), (⟨"DynamicLogicProverModel", "addEdge", "(IIII)V"⟩, 88), (⟨"DynamicLogicProverModel", "findDues", "(I)V"⟩, 88), (⟨"DynamicLogicProverModel", "isStill", "(II)Z"⟩, 88), (⟨"DynamicLogicProverModel", "beginAt", "(I)V"⟩, 88), (⟨"DynamicLogicProverModel", "goStill", "(I)V"⟩, 88), (⟨"DynamicLogicProverModel", "firstStep", "(II)I"⟩, 88), (⟨"DynamicLogicProverModel", "goBy", "(I)Z"⟩, 88), (⟨"DynamicLogicProverModel", "takeNext", "()V"⟩, 88)]
theorem lw_r7 : ∀ q ∈ lw_privs_7, lw_okq q := List.forall_mem_cons.mpr ⟨lw_p96, List.forall_mem_cons.mpr ⟨lw_p97, List.forall_mem_cons.mpr ⟨lw_p98, List.forall_mem_cons.mpr ⟨lw_p99, List.forall_mem_cons.mpr ⟨lw_p100, List.forall_mem_cons.mpr ⟨lw_p101, List.forall_mem_cons.mpr ⟨lw_p102, List.forall_mem_cons.mpr ⟨lw_p103, List.forall_mem_cons.mpr ⟨lw_p104, List.forall_mem_cons.mpr ⟨lw_p105, List.forall_mem_cons.mpr ⟨lw_p106, List.forall_mem_cons.mpr ⟨lw_p107, List.forall_mem_cons.mpr ⟨lw_p108, List.forall_mem_cons.mpr ⟨lw_p109, List.forall_mem_cons.mpr ⟨lw_p110, List.forall_mem_cons.mpr ⟨lw_p111, fun _ h => absurd h List.not_mem_nil⟩⟩⟩⟩⟩⟩⟩⟩⟩⟩⟩⟩⟩⟩⟩⟩
theorem lw_p112 : lw_okq (⟨"DynamicLogicProverModel", "layUses", "(II)V"⟩, 88) := ⟨⟨by decide +kernel, by decide +kernel⟩, List.mem_of_getElem? (i := 1392) (by decide +kernel), List.mem_of_getElem? (i := 1952) (by decide +kernel), List.mem_of_getElem? (i := 1953) (by decide +kernel)⟩
theorem lw_p113 : lw_okq (⟨"DynamicLogicProverModel", "isStepOfUse", "(III)Z"⟩, 88) := ⟨⟨by decide +kernel, by decide +kernel⟩, List.mem_of_getElem? (i := 1392) (by decide +kernel), List.mem_of_getElem? (i := 1959) (by decide +kernel), List.mem_of_getElem? (i := 1960) (by decide +kernel)⟩
theorem lw_p114 : lw_okq (⟨"DynamicLogicProverModel", "clearLevel", "(I)V"⟩, 88) := ⟨⟨by decide +kernel, by decide +kernel⟩, List.mem_of_getElem? (i := 1392) (by decide +kernel), List.mem_of_getElem? (i := 1963) (by decide +kernel), List.mem_of_getElem? (i := 1964) (by decide +kernel)⟩
theorem lw_p115 : lw_okq (⟨"DynamicLogicProverModel", "addTo", "(IIIJ)V"⟩, 88) := ⟨⟨by decide +kernel, by decide +kernel⟩, List.mem_of_getElem? (i := 1392) (by decide +kernel), List.mem_of_getElem? (i := 1967) (by decide +kernel), List.mem_of_getElem? (i := 1968) (by decide +kernel)⟩
theorem lw_p116 : lw_okq (⟨"DynamicLogicProverModel", "grow", "(I)V"⟩, 88) := ⟨⟨by decide +kernel, by decide +kernel⟩, List.mem_of_getElem? (i := 1392) (by decide +kernel), List.mem_of_getElem? (i := 1973) (by decide +kernel), List.mem_of_getElem? (i := 1974) (by decide +kernel)⟩
theorem lw_p117 : lw_okq (⟨"DynamicLogicProverModel", "takeFrom", "(II)V"⟩, 88) := ⟨⟨by decide +kernel, by decide +kernel⟩, List.mem_of_getElem? (i := 1392) (by decide +kernel), List.mem_of_getElem? (i := 1983) (by decide +kernel), List.mem_of_getElem? (i := 1984) (by decide +kernel)⟩
theorem lw_p118 : lw_okq (⟨"DynamicLogicProverModel", "close", "(I)I"⟩, 88) := ⟨⟨by decide +kernel, by decide +kernel⟩, List.mem_of_getElem? (i := 1392) (by decide +kernel), List.mem_of_getElem? (i := 1999) (by decide +kernel), List.mem_of_getElem? (i := 2000) (by decide +kernel)⟩
theorem lw_p119 : lw_okq (⟨"DynamicLogicProverModel", "findClosure", "(I)V"⟩, 88) := ⟨⟨by decide +kernel, by decide +kernel⟩, List.mem_of_getElem? (i := 1392) (by decide +kernel), List.mem_of_getElem? (i := 2003) (by decide +kernel), List.mem_of_getElem? (i := 2004) (by decide +kernel)⟩
theorem lw_p120 : lw_okq (⟨"DynamicLogicProverModel", "addMember", "(I)V"⟩, 88) := ⟨⟨by decide +kernel, by decide +kernel⟩, List.mem_of_getElem? (i := 1392) (by decide +kernel), List.mem_of_getElem? (i := 2007) (by decide +kernel), List.mem_of_getElem? (i := 2008) (by decide +kernel)⟩
theorem lw_p121 : lw_okq (⟨"DynamicLogicProverModel", "firstOf", "(I)I"⟩, 88) := ⟨⟨by decide +kernel, by decide +kernel⟩, List.mem_of_getElem? (i := 1392) (by decide +kernel), List.mem_of_getElem? (i := 2011) (by decide +kernel), List.mem_of_getElem? (i := 2012) (by decide +kernel)⟩
theorem lw_p122 : lw_okq (⟨"DynamicLogicProverModel", "secondOf", "(I)I"⟩, 88) := ⟨⟨by decide +kernel, by decide +kernel⟩, List.mem_of_getElem? (i := 1392) (by decide +kernel), List.mem_of_getElem? (i := 2015) (by decide +kernel), List.mem_of_getElem? (i := 2016) (by decide +kernel)⟩
theorem lw_p123 : lw_okq (⟨"DynamicLogicProverModel", "sortMembers", "()V"⟩, 88) := ⟨⟨by decide +kernel, by decide +kernel⟩, List.mem_of_getElem? (i := 1392) (by decide +kernel), List.mem_of_getElem? (i := 2019) (by decide +kernel), List.mem_of_getElem? (i := 2020) (by decide +kernel)⟩
theorem lw_p124 : lw_okq (⟨"DynamicLogicProverModel", "isAhead", "(II)Z"⟩, 88) := ⟨⟨by decide +kernel, by decide +kernel⟩, List.mem_of_getElem? (i := 1392) (by decide +kernel), List.mem_of_getElem? (i := 2023) (by decide +kernel), List.mem_of_getElem? (i := 2024) (by decide +kernel)⟩
theorem lw_p125 : lw_okq (⟨"DynamicLogicProverModel", "findBase", "()I"⟩, 88) := ⟨⟨by decide +kernel, by decide +kernel⟩, List.mem_of_getElem? (i := 1392) (by decide +kernel), List.mem_of_getElem? (i := 2031) (by decide +kernel), List.mem_of_getElem? (i := 2032) (by decide +kernel)⟩
theorem lw_p126 : lw_okq (⟨"DynamicLogicProverModel", "isBase", "(I)Z"⟩, 88) := ⟨⟨by decide +kernel, by decide +kernel⟩, List.mem_of_getElem? (i := 1392) (by decide +kernel), List.mem_of_getElem? (i := 2035) (by decide +kernel), List.mem_of_getElem? (i := 2036) (by decide +kernel)⟩
theorem lw_p127 : lw_okq (⟨"DynamicLogicProverModel", "lookClosed", "(I)I"⟩, 88) := ⟨⟨by decide +kernel, by decide +kernel⟩, List.mem_of_getElem? (i := 1392) (by decide +kernel), List.mem_of_getElem? (i := 2051) (by decide +kernel), List.mem_of_getElem? (i := 2052) (by decide +kernel)⟩
def lw_privs_8 : List (MethodName × Nat) := [(⟨"DynamicLogicProverModel", "layUses", "(II)V"⟩, 88), (⟨"DynamicLogicProverModel", "isStepOfUse", "(III)Z"⟩, 88), (⟨"DynamicLogicProverModel", "clearLevel", "(I)V"⟩, 88), (⟨"DynamicLogicProverModel", "addTo", "(IIIJ)V"⟩, 88), (⟨"DynamicLogicProverModel", "grow", "(I)V"⟩, 88), (⟨"DynamicLogicProverModel", "takeFrom", "(II)V"⟩, 88), (⟨"DynamicLogicProverModel", "close", "(I)I"⟩, 88), (⟨"DynamicLogicProverModel", "findClosure", "(I)V"⟩, 88), (⟨"DynamicLogicProverModel", "addMember", "(I)V"⟩, 88), (⟨"DynamicLogicProverModel", "firstOf", "(I)I"⟩, 88), (⟨"DynamicLogicProverModel", "secondOf", "(I)I"⟩, 88), (⟨"DynamicLogicProverModel", "sortMembers", "()V"⟩, 88), (⟨"DynamicLogicProverModel", "isAhead", "(II)Z"⟩, 88), (⟨"DynamicLogicProverModel", "findBase", "()I"⟩, 88), (⟨"DynamicLogicProverModel", "isBase", "(I)Z"⟩, 88), (⟨"DynamicLogicProverModel", "lookClosed", "(I)I"⟩, 88)]
theorem lw_r8 : ∀ q ∈ lw_privs_8, lw_okq q := List.forall_mem_cons.mpr ⟨lw_p112, List.forall_mem_cons.mpr ⟨lw_p113, List.forall_mem_cons.mpr ⟨lw_p114, List.forall_mem_cons.mpr ⟨lw_p115, List.forall_mem_cons.mpr ⟨lw_p116, List.forall_mem_cons.mpr ⟨lw_p117, List.forall_mem_cons.mpr ⟨lw_p118, List.forall_mem_cons.mpr ⟨lw_p119, List.forall_mem_cons.mpr ⟨lw_p120, List.forall_mem_cons.mpr ⟨lw_p121, List.forall_mem_cons.mpr ⟨lw_p122, List.forall_mem_cons.mpr ⟨lw_p123, List.forall_mem_cons.mpr ⟨lw_p124, List.forall_mem_cons.mpr ⟨lw_p125, List.forall_mem_cons.mpr ⟨lw_p126, List.forall_mem_cons.mpr ⟨lw_p127, fun _ h => absurd h List.not_mem_nil⟩⟩⟩⟩⟩⟩⟩⟩⟩⟩⟩⟩⟩⟩⟩⟩
theorem lw_p128 : lw_okq (⟨"DynamicLogicProverModel", "findClasses", "(I)V"⟩, 88) := ⟨⟨by decide +kernel, by decide +kernel⟩, List.mem_of_getElem? (i := 1392) (by decide +kernel), List.mem_of_getElem? (i := 2059) (by decide +kernel), List.mem_of_getElem? (i := 2060) (by decide +kernel)⟩
theorem lw_p129 : lw_okq (⟨"DynamicLogicProverModel", "useClasses", "(I)V"⟩, 88) := ⟨⟨by decide +kernel, by decide +kernel⟩, List.mem_of_getElem? (i := 1392) (by decide +kernel), List.mem_of_getElem? (i := 2071) (by decide +kernel), List.mem_of_getElem? (i := 2072) (by decide +kernel)⟩
theorem lw_p130 : lw_okq (⟨"DynamicLogicProverModel", "put", "(I)V"⟩, 88) := ⟨⟨by decide +kernel, by decide +kernel⟩, List.mem_of_getElem? (i := 1392) (by decide +kernel), List.mem_of_getElem? (i := 2087) (by decide +kernel), List.mem_of_getElem? (i := 2088) (by decide +kernel)⟩
theorem lw_p131 : lw_okq (⟨"DynamicLogicProverModel", "endOf", "(I)I"⟩, 88) := ⟨⟨by decide +kernel, by decide +kernel⟩, List.mem_of_getElem? (i := 1392) (by decide +kernel), List.mem_of_getElem? (i := 2091) (by decide +kernel), List.mem_of_getElem? (i := 2092) (by decide +kernel)⟩
theorem lw_p132 : lw_okq (⟨"DynamicLogicProverModel", "putPart", "(I)V"⟩, 88) := ⟨⟨by decide +kernel, by decide +kernel⟩, List.mem_of_getElem? (i := 1392) (by decide +kernel), List.mem_of_getElem? (i := 2095) (by decide +kernel), List.mem_of_getElem? (i := 2096) (by decide +kernel)⟩
theorem lw_p133 : lw_okq (⟨"DynamicLogicProverModel", "keepWritten", "()I"⟩, 88) := ⟨⟨by decide +kernel, by decide +kernel⟩, List.mem_of_getElem? (i := 1392) (by decide +kernel), List.mem_of_getElem? (i := 2099) (by decide +kernel), List.mem_of_getElem? (i := 2100) (by decide +kernel)⟩
theorem lw_p134 : lw_okq (⟨"DynamicLogicProverModel", "bounded", "(II)I"⟩, 88) := ⟨⟨by decide +kernel, by decide +kernel⟩, List.mem_of_getElem? (i := 1392) (by decide +kernel), List.mem_of_getElem? (i := 2107) (by decide +kernel), List.mem_of_getElem? (i := 2108) (by decide +kernel)⟩
theorem lw_p135 : lw_okq (⟨"DynamicLogicProverModel", "searchSpace", "(IIII)I"⟩, 88) := ⟨⟨by decide +kernel, by decide +kernel⟩, List.mem_of_getElem? (i := 1392) (by decide +kernel), List.mem_of_getElem? (i := 2115) (by decide +kernel), List.mem_of_getElem? (i := 2116) (by decide +kernel)⟩
theorem lw_p136 : lw_okq (⟨"DynamicLogicProverModel", "canBe", "(IZ)I"⟩, 88) := ⟨⟨by decide +kernel, by decide +kernel⟩, List.mem_of_getElem? (i := 1392) (by decide +kernel), List.mem_of_getElem? (i := 2127) (by decide +kernel), List.mem_of_getElem? (i := 2128) (by decide +kernel)⟩
theorem lw_p137 : lw_okq (⟨"DynamicLogicProverModel", "findParts", "()V"⟩, 88) := ⟨⟨by decide +kernel, by decide +kernel⟩, List.mem_of_getElem? (i := 1392) (by decide +kernel), List.mem_of_getElem? (i := 2131) (by decide +kernel), List.mem_of_getElem? (i := 2132) (by decide +kernel)⟩
theorem lw_p138 : lw_okq (⟨"DynamicLogicProverModel", "findTrues", "()V"⟩, 88) := ⟨⟨by decide +kernel, by decide +kernel⟩, List.mem_of_getElem? (i := 1392) (by decide +kernel), List.mem_of_getElem? (i := 2135) (by decide +kernel), List.mem_of_getElem? (i := 2136) (by decide +kernel)⟩
theorem lw_p139 : lw_okq (⟨"DynamicLogicProverModel", "isBoxTrue", "(II)Z"⟩, 88) := ⟨⟨by decide +kernel, by decide +kernel⟩, List.mem_of_getElem? (i := 1392) (by decide +kernel), List.mem_of_getElem? (i := 2142) (by decide +kernel), List.mem_of_getElem? (i := 2143) (by decide +kernel)⟩
theorem lw_p140 : lw_okq (⟨"DynamicLogicProverModel", "takeAway", "()Z"⟩, 88) := ⟨⟨by decide +kernel, by decide +kernel⟩, List.mem_of_getElem? (i := 1392) (by decide +kernel), List.mem_of_getElem? (i := 2149) (by decide +kernel), List.mem_of_getElem? (i := 2150) (by decide +kernel)⟩
theorem lw_p141 : lw_okq (⟨"DynamicLogicProverModel", "moreEnds", "()Z"⟩, 88) := ⟨⟨by decide +kernel, by decide +kernel⟩, List.mem_of_getElem? (i := 1392) (by decide +kernel), List.mem_of_getElem? (i := 2154) (by decide +kernel), List.mem_of_getElem? (i := 2155) (by decide +kernel)⟩
theorem lw_p142 : lw_okq (⟨"DynamicLogicProverModel", "findAfter", "(II)V"⟩, 88) := ⟨⟨by decide +kernel, by decide +kernel⟩, List.mem_of_getElem? (i := 1392) (by decide +kernel), List.mem_of_getElem? (i := 2158) (by decide +kernel), List.mem_of_getElem? (i := 2159) (by decide +kernel)⟩
def lw_privs_9 : List (MethodName × Nat) := [(⟨"DynamicLogicProverModel", "findClasses", "(I)V"⟩, 88), (⟨"DynamicLogicProverModel", "useClasses", "(I)V"⟩, 88), (⟨"DynamicLogicProverModel", "put", "(I)V"⟩, 88), (⟨"DynamicLogicProverModel", "endOf", "(I)I"⟩, 88), (⟨"DynamicLogicProverModel", "putPart", "(I)V"⟩, 88), (⟨"DynamicLogicProverModel", "keepWritten", "()I"⟩, 88), (⟨"DynamicLogicProverModel", "bounded", "(II)I"⟩, 88), (⟨"DynamicLogicProverModel", "searchSpace", "(IIII)I"⟩, 88), (⟨"DynamicLogicProverModel", "canBe", "(IZ)I"⟩, 88), (⟨"DynamicLogicProverModel", "findParts", "()V"⟩, 88), (⟨"DynamicLogicProverModel", "findTrues", "()V"⟩, 88), (⟨"DynamicLogicProverModel", "isBoxTrue", "(II)Z"⟩, 88), (⟨"DynamicLogicProverModel", "takeAway", "()Z"⟩, 88), (⟨"DynamicLogicProverModel", "moreEnds", "()Z"⟩, 88), (⟨"DynamicLogicProverModel", "findAfter", "(II)V"⟩, 88)]
theorem lw_r9 : ∀ q ∈ lw_privs_9, lw_okq q := List.forall_mem_cons.mpr ⟨lw_p128, List.forall_mem_cons.mpr ⟨lw_p129, List.forall_mem_cons.mpr ⟨lw_p130, List.forall_mem_cons.mpr ⟨lw_p131, List.forall_mem_cons.mpr ⟨lw_p132, List.forall_mem_cons.mpr ⟨lw_p133, List.forall_mem_cons.mpr ⟨lw_p134, List.forall_mem_cons.mpr ⟨lw_p135, List.forall_mem_cons.mpr ⟨lw_p136, List.forall_mem_cons.mpr ⟨lw_p137, List.forall_mem_cons.mpr ⟨lw_p138, List.forall_mem_cons.mpr ⟨lw_p139, List.forall_mem_cons.mpr ⟨lw_p140, List.forall_mem_cons.mpr ⟨lw_p141, List.forall_mem_cons.mpr ⟨lw_p142, fun _ h => absurd h List.not_mem_nil⟩⟩⟩⟩⟩⟩⟩⟩⟩⟩⟩⟩⟩⟩⟩
def lw_privs : List (MethodName × Nat) := lw_privs_1 ++ (lw_privs_2 ++ (lw_privs_3 ++ (lw_privs_4 ++ (lw_privs_5 ++ (lw_privs_6 ++ (lw_privs_7 ++ (lw_privs_8 ++ (lw_privs_9))))))))
def lw_tbl : List Cond := k2_sels lw_privs ++ tables_1
theorem lw_privs_ok : ∀ q ∈ lw_privs, lw_okq q := by
  show ∀ q ∈ lw_privs_1 ++ (lw_privs_2 ++ (lw_privs_3 ++ (lw_privs_4 ++ (lw_privs_5 ++ (lw_privs_6 ++ (lw_privs_7 ++ (lw_privs_8 ++ (lw_privs_9)))))))), lw_okq q
  exact List.forall_mem_append.mpr ⟨lw_r1, List.forall_mem_append.mpr ⟨lw_r2, List.forall_mem_append.mpr ⟨lw_r3, List.forall_mem_append.mpr ⟨lw_r4, List.forall_mem_append.mpr ⟨lw_r5, List.forall_mem_append.mpr ⟨lw_r6, List.forall_mem_append.mpr ⟨lw_r7, List.forall_mem_append.mpr ⟨lw_r8, lw_r9⟩⟩⟩⟩⟩⟩⟩⟩
end
section
/-! ===== BEGIN words of one list among another's, by their places ===== -/
theorem goodIn_r {big : List Cond} (ws : List Cond) (ps : List Nat) (hp : ws = ps.filterMap (fun i => big[i]?)) (h : ws.all goodWord = true) : GoodIn big ws := by
  intro w hw
  have h1 := List.all_eq_true.mp h w hw
  rw [hp] at hw
  obtain ⟨i, -, hi⟩ := List.mem_filterMap.mp hw
  have hm : w ∈ big := by first | exact List.mem_of_getElem? hi | exact List.getElem?_mem hi
  exact ⟨hm, good_of_word h1⟩
theorem goodIn_app {big a b : List Cond} (ha : GoodIn big a) (hb : GoodIn big b) : GoodIn big (a ++ b) := fun w h => (List.mem_append.mp h).elim (ha w) (hb w)
theorem goodIn_ca {big a b : List Cond} {c : Cond} (ha : GoodIn big (c :: a)) (hb : GoodIn big b) : GoodIn big (c :: (a ++ b)) := fun w h => (List.mem_cons.mp h).elim (fun e => ha w (List.mem_cons.mpr (Or.inl e))) (fun h => (List.mem_append.mp h).elim (fun h => ha w (List.mem_cons.mpr (Or.inr h))) (hb w))
theorem goodIn_sub {big ws : List Cond} (hm : ∀ w ∈ ws, w ∈ big) (h : ws.all goodWord = true) : GoodIn big ws := fun w hw => ⟨hm w hw, good_of_word (List.all_eq_true.mp h w hw)⟩
/-! ===== END ===== -/

/-! ===== BEGIN new T[n][m]: the outer array a place, the inner ones among the pooled ===== -/
/-- f, but v at every address of l -/
def vr_up {α : Type} (f : Nat → α) (l : List Nat) (v : α) : Nat → α := fun a => if a ∈ l then v else f a
theorem vr_up_in {α : Type} {f : Nat → α} {l : List Nat} {v : α} {a : Nat} (h : a ∈ l) : vr_up f l v a = v := if_pos h
theorem vr_up_ne {α : Type} {f : Nat → α} {l : List Nat} {v : α} {a : Nat} (h : a ∉ l) : vr_up f l v a = f a := if_neg h
theorem vr_rows {L l : List Nat} {f : Nat → va_E} {e : va_E} (h : ∀ a, a ∈ l → a ∉ L) : va_pl L f ++ l.map (fun a => (a, e)) = va_pl (L ++ l) (vr_up f l e) := by
  unfold va_pl
  rw [List.map_append]
  congr 1
  · apply List.map_congr_left
    intro a ha
    rw [vr_up_ne (fun q => h a q ha)]
  · apply List.map_congr_left
    intro a ha
    rw [vr_up_in ha]
theorem vr_lay {X rows : va_W} {x : Nat × va_E} {pl : va_W} {D : va_G} {cl : List vw_C} {H : Heap} (hP : va_P D cl (((X ++ pl) ++ [x]) ++ rows) H) : va_P D cl ((X ++ [x]) ++ (pl ++ rows)) H := by
  rw [List.append_assoc (X ++ pl)] at hP
  have h := va_P.swap hP
  rw [← List.append_assoc X] at h
  have h2 := va_P.swap h
  rw [List.append_assoc (X ++ [x])] at h2
  exact h2
theorem vr_layD {X rows : va_W} {x : Nat × va_E} {pl : va_W} {A : Nat → Prop} (hD : va_D A (((X ++ pl) ++ [x]) ++ rows)) : va_D A ((X ++ [x]) ++ (pl ++ rows)) := by
  rw [List.append_assoc (X ++ pl)] at hD
  have h := va_D.swap hD
  rw [← List.append_assoc X] at h
  have h2 := va_D.swap h
  rw [List.append_assoc (X ++ [x])] at h2
  exact h2
theorem vr_outer (c : ClassId) (N h0 : Nat) : ∀ i : Nat, Jvm.Free.Multi.outerC c N h0 i = arrV c N (fun j => va_rf (if j < i then some (h0 + 1 + j) else none))
  | 0 => by
    show ({ cls := c, slots := Array.replicate N .null, vm := .none } : Cell) = _
    rw [arrV_new]
    refine congrArg (arrV c N) (funext fun j => ?_)
    simp [va_rf]
  | i + 1 => by
    show (Jvm.Free.Multi.outerC c N h0 i).setSlot i (.ref (h0 + 1 + i)) = _
    rw [vr_outer c N h0 i, arrV_store]
    refine congrArg (arrV c N) (funext fun j => ?_)
    by_cases e : j = i
    · subst e
      simp [updV, va_rf]
    · by_cases h : j < i
      · simp [updV, e, h, Nat.lt_succ_of_lt h]
      · simp [updV, e, h, show ¬ j < i + 1 by omega]
def va_AOA (t : FieldType) (U : State) : Prop := (Cond.arrayOver (.array t)).before #[] U = true
theorem va_AOA.of {t : FieldType} {A : Array Value} {U : State} (h : (Cond.arrayOver (.array t)).before A U = true) : va_AOA t U := h
theorem va_AOA.use {t : FieldType} {A : Array Value} {U : State} (h : va_AOA t U) : (Cond.arrayOver (.array t)).before A U = true := h
section VGM
variable {p : Program} {l : Launch} {e : Env} {R : Room} {s : State} {m : MethodId} {args : Array Value} {below : List Frame} {meth : Method} {c : Code} {H : Heap} {locs : List Loc} {cells slots : Nat} {Q : State → Prop}
variable {cc : ByteArray} {pc : Nat} {ls : Array Slot} {rest : List Value} {D : va_G} {cl : List vw_C} {A : Nat → Prop} {a : Nat} {tys : List (ClassId × FieldType)} {ws : va_W} {H0 : Heap}
theorem va_mna {X : va_W} {L : List Nat} {f : Nat → va_E} {cc : ByteArray} (hexec : p.tables.exec = Jvm.exec) (hb : c.code = cc) {own : String} {index : Nat} {ty : FieldType} {cy : ClassId} (hown : s.vm.findClass own = some m.cls) (hclink : (Cond.classLink own index ("[" ++ (FieldType.array ty).toString)).before args s = true) (hover : va_AOA ty s) (harr : (Cond.arrayClass ty).before args s = true) (hcy : s.vm.findClass (FieldType.array ty).toString = some cy)
    (hK : va_K D cl tys s) (hP : va_P D cl (X ++ va_pl L f) H) (hD : va_D A (X ++ va_pl L f)) (hS : va_S A H0 H locs) (hA : ∀ q, H0.size ≤ q → A q) {n k : Int32} {N' K' : Nat} {z : vp_A} (hn : ¬ n < 0) (hk : ¬ k < 0) (hN : n.toNatClampNeg = N') (hM : k.toNatClampNeg = K')
    (hb1 : N' * 4 ≤ 536870912) (hb2 : K' * componentBytes ty ≤ 536870912) (hb3 : K' ≤ 536870912) (hdf : fits ty (defaultValue ty) = true) (hdd : (defaultValue ty).isDefault = true) (hcells : cells + (1 + N') ≤ R.cells) (hslots : slots + (N' + N' * K') ≤ R.slots) (hz : ∀ c : ClassId, Jvm.Free.Multi.innerC c K' (defaultValue ty) = vp_cell c z) (hdg : decode cc pc = .ok (.multianewarray index 2, 4))
    (kk : ∀ (q : Nat) (r : Nat → Nat) (cA : ClassId) (H1 : Heap), (∀ i j : Nat, i < N' → j < N' → r i = r j → i = j) → (∀ i : Nat, i < N' → r i ∉ L) → va_K D cl (tys ++ [(cA, .array ty)]) s →
      va_P D cl ((X ++ [(q, .inl (cA, N', .inr (.inr (.inr (.inr (fun i => if i < N' then some (r i) else none))))))]) ++ va_pl (L ++ (List.range N').map r) (vr_up f ((List.range N').map r) (.inl (cy, z)))) H1 → va_D A ((X ++ [(q, .inl (cA, N', .inr (.inr (.inr (.inr (fun i => if i < N' then some (r i) else none))))))]) ++ va_pl (L ++ (List.range N').map r) (vr_up f ((List.range N').map r) (.inl (cy, z)))) → va_S A H0 H1 locs →
      W p l e R s m args below meth c H1 locs (cells + 1 + N') (slots + N' + N' * K') Q (F0 m (pc + 4) ls (.ref q :: rest))) : W p l e R s m args below meth c H locs cells slots Q (F0 m pc ls (.int k :: .int n :: rest)) := by
  subst hN
  subst hM
  intro T hT Xs
  obtain ⟨vm₁, cA, comp, -, fA, fC, hO, -, X', step⟩ := Xs.multianewarray2F hexec hown hclink (va_AOA.use hover) harr (g := F0 m pc ls (.int k :: .int n :: rest)) rfl (by rw [hb]; exact hdg) rfl hn hk hb1 hb2 hb3 hdf hdd hcells hslots
  have ec : some cy = some comp := hcy.symm.trans fC
  cases ec
  generalize hF : Jvm.Free.Multi.fill (T.setVm vm₁) cA cy n.toNatClampNeg k.toNatClampNeg (defaultValue ty) n.toNatClampNeg = F at X' step
  have hTh : (T.setVm vm₁).heap = H := hT
  obtain ⟨f1, f2, -, -⟩ := Jvm.Free.Multi.fill_facts (T.setVm vm₁) cA cy n.toNatClampNeg k.toNatClampNeg (defaultValue ty) n.toNatClampNeg
  rw [hF, hTh] at f1 f2
  have hold : ∀ x : Nat, x < H.size → F.heap[x]? = H[x]? := fun x hx => by
    have := Jvm.Free.Multi.fill_old (T.setVm vm₁) cA cy n.toNatClampNeg k.toNatClampNeg (defaultValue ty) (a := x) (by rw [hTh]; exact hx) n.toNatClampNeg
    rw [hF, hTh] at this
    exact this
  have hrow : ∀ j : Nat, j < n.toNatClampNeg → F.heap[H.size + 1 + j]? = some (vp_cell cy z) := fun j hj => by
    have := Jvm.Free.Multi.fill_inner (T.setVm vm₁) cA cy n.toNatClampNeg k.toNatClampNeg (defaultValue ty) n.toNatClampNeg j hj
    rw [hF, hTh, hz] at this
    exact this
  have hout : Jvm.Free.Multi.outerC cA n.toNatClampNeg H.size n.toNatClampNeg = vp_cell cA (n.toNatClampNeg, .inr (.inr (.inr (.inr (fun i => if i < n.toNatClampNeg then some (H.size + 1 + i) else none))))) := by
    rw [vp_cell_q]
    exact vr_outer cA n.toNatClampNeg H.size n.toNatClampNeg
  rw [hout] at f2
  have hlt : ∀ a, a ∈ L → a < H.size := fun a ha => by
    obtain ⟨k9, hk9⟩ := va_pl_get (X := X) (f := f) ha
    exact (hP k9 _ hk9).lt
  have hnl : ∀ i : Nat, i < n.toNatClampNeg → H.size + 1 + i ∉ L := fun i _ h => by
    have := hlt _ h
    omega
  have hnm : ∀ a, a ∈ (List.range n.toNatClampNeg).map (fun i => H.size + 1 + i) → a ∉ L := fun a ha h => by
    obtain ⟨i, -, rfl⟩ := List.mem_map.mp ha
    have := hlt _ h
    omega
  have hP0 : va_P D cl (X ++ va_pl L f) F.heap := hP.kept (fun k9 x hx => hold x.1 ((hP k9 x hx).lt))
  have hP1 : va_P D cl ((X ++ va_pl L f) ++ [(H.size, .inl (cA, n.toNatClampNeg, .inr (.inr (.inr (.inr (fun i => if i < n.toNatClampNeg then some (H.size + 1 + i) else none))))))]) F.heap := hP0.app (fun k9 x hx => by
    have h0 : k9 < 1 := (List.getElem?_eq_some_iff.mp hx).1
    rw [show k9 = 0 by omega] at hx
    cases hx
    exact f2)
  have hP2 : va_P D cl (((X ++ va_pl L f) ++ [(H.size, .inl (cA, n.toNatClampNeg, .inr (.inr (.inr (.inr (fun i => if i < n.toNatClampNeg then some (H.size + 1 + i) else none))))))]) ++ ((List.range n.toNatClampNeg).map (fun i => H.size + 1 + i)).map (fun a => (a, .inl (cy, z)))) F.heap := hP1.app (fun k9 x hx => by
    obtain ⟨a, ha, rfl⟩ := List.mem_map.mp (List.mem_of_getElem? hx)
    obtain ⟨i, hi, rfl⟩ := List.mem_map.mp ha
    exact hrow i (List.mem_range.mp hi))
  have hD2 : va_D A (((X ++ va_pl L f) ++ [(H.size, .inl (cA, n.toNatClampNeg, .inr (.inr (.inr (.inr (fun i => if i < n.toNatClampNeg then some (H.size + 1 + i) else none))))))]) ++ ((List.range n.toNatClampNeg).map (fun i => H.size + 1 + i)).map (fun a => (a, .inl (cy, z)))) := by
    have hD1 := hD.push (e := .inl (cA, n.toNatClampNeg, .inr (.inr (.inr (.inr (fun i => if i < n.toNatClampNeg then some (H.size + 1 + i) else none)))))) hP rfl (hA _ hS.1)
    generalize hW1 : (X ++ va_pl L f) ++ [(H.size, .inl (cA, n.toNatClampNeg, .inr (.inr (.inr (.inr (fun i => if i < n.toNatClampNeg then some (H.size + 1 + i) else none))))))] = W1 at hD1 hP1 ⊢
    have hle : ∀ (k9 : Nat) (x : Nat × va_E), W1[k9]? = some x → x.1 ≤ H.size := fun k9 x hx => by
      rw [← hW1] at hx
      by_cases hl : k9 < (X ++ va_pl L f).length
      · rw [List.getElem?_append_left hl] at hx
        exact Nat.le_of_lt ((hP k9 x hx).lt)
      · rw [List.getElem?_append_right (by omega)] at hx
        have h0 : k9 - (X ++ va_pl L f).length < 1 := (List.getElem?_eq_some_iff.mp hx).1
        rw [show k9 - (X ++ va_pl L f).length = 0 by omega] at hx
        cases hx
        exact Nat.le_refl _
    have hr : ∀ (k9 : Nat) (x : Nat × va_E), (((List.range n.toNatClampNeg).map (fun i => H.size + 1 + i)).map (fun a => ((a, .inl (cy, z)) : Nat × va_E)))[k9]? = some x → x.1 = H.size + 1 + k9 := fun k9 x hx => by
      rw [List.getElem?_map, List.getElem?_map] at hx
      by_cases h9 : k9 < n.toNatClampNeg
      · rw [List.getElem?_range h9] at hx
        cases hx
        rfl
      · have hn0 : (List.range n.toNatClampNeg)[k9]? = none := List.getElem?_eq_none (by rw [List.length_range]; omega)
        rw [hn0] at hx
        cases hx
    refine ⟨fun i j x y hi hj hxy => ?_, fun k9 x hx => ?_⟩
    · by_cases h1 : i < W1.length <;> by_cases h2 : j < W1.length
      · rw [List.getElem?_append_left h1] at hi
        rw [List.getElem?_append_left h2] at hj
        exact hD1.1 i j x y hi hj hxy
      · rw [List.getElem?_append_left h1] at hi
        rw [List.getElem?_append_right (by omega)] at hj
        have := hle _ _ hi
        have := hr _ _ hj
        omega
      · rw [List.getElem?_append_right (by omega)] at hi
        rw [List.getElem?_append_left h2] at hj
        have := hle _ _ hj
        have := hr _ _ hi
        omega
      · rw [List.getElem?_append_right (by omega)] at hi hj
        have := hr _ _ hi
        have := hr _ _ hj
        omega
    · by_cases h1 : k9 < W1.length
      · rw [List.getElem?_append_left h1] at hx
        exact hD1.2 k9 x hx
      · rw [List.getElem?_append_right (by omega)] at hx
        have := hr _ _ hx
        exact hA _ (by have := hS.1; omega)
  have hAr : ArrOfT s cA (.array ty) := fun N9 z9 => by
    obtain ⟨-, k9, hk9, cm9, hkk9⟩ := (hO 0 0 0).1
    exact ⟨(fun q hq => by cases hq), k9, hk9, cm9, hkk9⟩
  have hK2 : va_K D cl (tys ++ [(cA, .array ty)]) s := ⟨hK.1, fun k9 x hx => by
    by_cases hl : k9 < tys.length
    · rw [List.getElem?_append_left hl] at hx
      exact hK.2 k9 x hx
    · rw [List.getElem?_append_right (by omega)] at hx
      have h0 : k9 - tys.length < 1 := (List.getElem?_eq_some_iff.mp hx).1
      rw [show k9 - tys.length = 0 by omega] at hx
      cases hx
      exact ⟨hAr, fA⟩⟩
  obtain ⟨t, a1, b1⟩ := kk H.size (fun i => H.size + 1 + i) cA F.heap (fun i j _ _ h => by have h9 : H.size + 1 + i = H.size + 1 + j := h; omega) hnl hK2 (by rw [← vr_rows hnm]; exact vr_lay hP2) (by rw [← vr_rows hnm]; exact vr_layD hD2) ⟨by rw [f1]; have := hS.1; omega, fun x h1 h2 => (hold x (Nat.lt_of_lt_of_le h1 hS.1)).trans (hS.2.1 x h1 h2), hS.2.2⟩ F rfl X'
  refine ⟨t, step t ?_, b1⟩
  have e : T.heap.size = H.size := by rw [hT]
  rw [e]
  exact a1
end VGM
/-! ===== END ===== -/
end
section
def RX0 : String := "DynamicLogicProver$Buffers"
def TX0 : u_T := fun k => match k with
  | 0 => ("DynamicLogicProver$Buffers", "types", "[I", true)
  | 1 => ("DynamicLogicProver$Buffers", "lengths", "[I", true)
  | _ => ("DynamicLogicProver$Buffers", "cells", "[J", true)
def tyX0 : Nat → FieldType := fun k => match k with
  | 0 => .array .int
  | 1 => .array .int
  | _ => .array .long
abbrev wsX00 : List Cond := u_ws RX0 TX0 3
theorem nmX0 : ∀ a, a < 3 → ∀ b, b < 3 → a ≠ b → (TX0 a).2.1 ≠ (TX0 b).2.1 := by decide +kernel
theorem tyX0_ok : ∀ k, k < 3 → parseFieldDescriptor (TX0 k).2.2.1 = some (tyX0 k) := by decide +kernel
abbrev cX0_init : ByteArray := prog_2_method_1_code
def yX0_init : MethodName := ⟨RX0, "<init>", "()V"⟩
abbrev cX0_has : ByteArray := prog_2_method_2_code
def yX0_has : MethodName := ⟨RX0, "has", "(I)Z"⟩
abbrev cX0_isNull : ByteArray := prog_2_method_3_code
def yX0_isNull : MethodName := ⟨RX0, "isNull", "(I)Z"⟩
abbrev cX0_isShort : ByteArray := prog_2_method_4_code
def yX0_isShort : MethodName := ⟨RX0, "isShort", "(I)Z"⟩
abbrev cX0_isType : ByteArray := prog_2_method_5_code
def yX0_isType : MethodName := ⟨RX0, "isType", "(I)Z"⟩
abbrev cX0_sameType : ByteArray := prog_2_method_6_code
def yX0_sameType : MethodName := ⟨RX0, "sameType", "(II)Z"⟩
abbrev cX0_inside : ByteArray := prog_2_method_7_code
def yX0_inside : MethodName := ⟨RX0, "inside", "(IJ)Z"⟩
abbrev cX0_spans : ByteArray := prog_2_method_8_code
def yX0_spans : MethodName := ⟨RX0, "spans", "(III)Z"⟩
abbrev cX0_discard : ByteArray := prog_2_method_9_code
def yX0_discard : MethodName := ⟨RX0, "discard", "(I)V"⟩
abbrev cX0_renew : ByteArray := prog_2_method_10_code
def yX0_renew : MethodName := ⟨RX0, "renew", "(III)V"⟩
abbrev cX0_cell : ByteArray := prog_2_method_11_code
def yX0_cell : MethodName := ⟨RX0, "cell", "(II)J"⟩
abbrev cX0_putCell : ByteArray := prog_2_method_12_code
def yX0_putCell : MethodName := ⟨RX0, "putCell", "(IIJ)V"⟩
abbrev cX0_narrowed : ByteArray := prog_2_method_13_code
def yX0_narrowed : MethodName := ⟨RX0, "narrowed", "(IJ)J"⟩
abbrev cX0_move : ByteArray := prog_2_method_14_code
def yX0_move : MethodName := ⟨RX0, "move", "(IIIII)V"⟩
def RX1 : String := "DynamicLogicProver$Closure"
def TX1 : u_T := fun k => match k with
  | 0 => ("DynamicLogicProver$Closure", "pool", "LDynamicLogicProver$Pool;", true)
  | 1 => ("DynamicLogicProver$Closure", "members", "[I", true)
  | 2 => ("DynamicLogicProver$Closure", "places", "[I", true)
  | 3 => ("DynamicLogicProver$Closure", "firsts", "[I", true)
  | 4 => ("DynamicLogicProver$Closure", "seconds", "[I", true)
  | _ => ("DynamicLogicProver$Closure", "used", "I", false)
def tyX1 : Nat → FieldType := fun k => match k with
  | 0 => .object "DynamicLogicProver$Pool"
  | 1 => .array .int
  | 2 => .array .int
  | 3 => .array .int
  | 4 => .array .int
  | _ => .int
abbrev wsX10 : List Cond := u_ws RX1 TX1 6
theorem nmX1 : ∀ a, a < 6 → ∀ b, b < 6 → a ≠ b → (TX1 a).2.1 ≠ (TX1 b).2.1 := by decide +kernel
theorem tyX1_ok : ∀ k, k < 6 → parseFieldDescriptor (TX1 k).2.2.1 = some (tyX1 k) := by decide +kernel
abbrev cX1_init : ByteArray := prog_3_method_1_code
def yX1_init : MethodName := ⟨RX1, "<init>", "(LDynamicLogicProver$Pool;)V"⟩
abbrev cX1_size : ByteArray := prog_3_method_2_code
def yX1_size : MethodName := ⟨RX1, "size", "()I"⟩
abbrev cX1_member : ByteArray := prog_3_method_3_code
def yX1_member : MethodName := ⟨RX1, "member", "(I)I"⟩
abbrev cX1_placeOf : ByteArray := prog_3_method_4_code
def yX1_placeOf : MethodName := ⟨RX1, "placeOf", "(I)I"⟩
abbrev cX1_first : ByteArray := prog_3_method_5_code
def yX1_first : MethodName := ⟨RX1, "first", "(I)I"⟩
abbrev cX1_second : ByteArray := prog_3_method_6_code
def yX1_second : MethodName := ⟨RX1, "second", "(I)I"⟩
abbrev cX1_bases : ByteArray := prog_3_method_7_code
def yX1_bases : MethodName := ⟨RX1, "bases", "()I"⟩
abbrev cX1_grow : ByteArray := prog_3_method_8_code
def yX1_grow : MethodName := ⟨RX1, "grow", "(IZ)V"⟩
abbrev cX1_admit : ByteArray := prog_3_method_9_code
def yX1_admit : MethodName := ⟨RX1, "admit", "(I)V"⟩
abbrev cX1_expand : ByteArray := prog_3_method_10_code
def yX1_expand : MethodName := ⟨RX1, "expand", "(IZ)V"⟩
abbrev cX1_form : ByteArray := prog_3_method_11_code
def yX1_form : MethodName := ⟨RX1, "form", "(I)I"⟩
abbrev cX1_sort : ByteArray := prog_3_method_12_code
def yX1_sort : MethodName := ⟨RX1, "sort", "()V"⟩
def RX2 : String := "DynamicLogicProver$Decision"
def TX2 : u_T := fun k => match k with
  | 0 => ("DynamicLogicProver$Decision", "closure", "LDynamicLogicProver$Closure;", true)
  | 1 => ("DynamicLogicProver$Decision", "forms", "[I", true)
  | 2 => ("DynamicLogicProver$Decision", "firsts", "[I", true)
  | 3 => ("DynamicLogicProver$Decision", "seconds", "[I", true)
  | 4 => ("DynamicLogicProver$Decision", "states", "[I", true)
  | 5 => ("DynamicLogicProver$Decision", "group", "[I", true)
  | 6 => ("DynamicLogicProver$Decision", "values", "[J", true)
  | 7 => ("DynamicLogicProver$Decision", "refuted", "[J", true)
  | 8 => ("DynamicLogicProver$Decision", "onward", "[J", true)
  | 9 => ("DynamicLogicProver$Decision", "alive", "[J", true)
  | 10 => ("DynamicLogicProver$Decision", "members", "I", false)
  | 11 => ("DynamicLogicProver$Decision", "atoms", "I", false)
  | _ => ("DynamicLogicProver$Decision", "words", "I", false)
def tyX2 : Nat → FieldType := fun k => match k with
  | 0 => .object "DynamicLogicProver$Closure"
  | 1 => .array .int
  | 2 => .array .int
  | 3 => .array .int
  | 4 => .array .int
  | 5 => .array .int
  | 6 => .array .long
  | 7 => .array .long
  | 8 => .array .long
  | 9 => .array .long
  | 10 => .int
  | 11 => .int
  | _ => .int
abbrev wsX20 : List Cond := u_ws RX2 TX2 13
theorem nmX2 : ∀ a, a < 13 → ∀ b, b < 13 → a ≠ b → (TX2 a).2.1 ≠ (TX2 b).2.1 := by decide +kernel
theorem tyX2_ok : ∀ k, k < 13 → parseFieldDescriptor (TX2 k).2.2.1 = some (tyX2 k) := by decide +kernel
abbrev cX2_init : ByteArray := prog_4_method_1_code
def yX2_init : MethodName := ⟨RX2, "<init>", "(LDynamicLogicProver$Closure;)V"⟩
abbrev cX2_value : ByteArray := prog_4_method_2_code
def yX2_value : MethodName := ⟨RX2, "value", "(II)J"⟩
abbrev cX2_refutation : ByteArray := prog_4_method_3_code
def yX2_refutation : MethodName := ⟨RX2, "refutation", "(II)J"⟩
abbrev cX2_isStep : ByteArray := prog_4_method_4_code
def yX2_isStep : MethodName := ⟨RX2, "isStep", "(I)Z"⟩
abbrev cX2_isComplexBox : ByteArray := prog_4_method_5_code
def yX2_isComplexBox : MethodName := ⟨RX2, "isComplexBox", "(I)Z"⟩
abbrev cX2_settle : ByteArray := prog_4_method_6_code
def yX2_settle : MethodName := ⟨RX2, "settle", "()V"⟩
abbrev cX2_takeMembers : ByteArray := prog_4_method_7_code
def yX2_takeMembers : MethodName := ⟨RX2, "takeMembers", "()V"⟩
abbrev cX2_pattern : ByteArray := prog_4_method_8_code
def yX2_pattern : MethodName := ⟨RX2, "pattern", "(II)J"⟩
abbrev cX2_fix : ByteArray := prog_4_method_9_code
def yX2_fix : MethodName := ⟨RX2, "fix", "(I)V"⟩
abbrev cX2_gather : ByteArray := prog_4_method_10_code
def yX2_gather : MethodName := ⟨RX2, "gather", "(I)I"⟩
abbrev cX2_enlist : ByteArray := prog_4_method_11_code
def yX2_enlist : MethodName := ⟨RX2, "enlist", "(II)I"⟩
abbrev cX2_combine : ByteArray := prog_4_method_12_code
def yX2_combine : MethodName := ⟨RX2, "combine", "(I)Z"⟩
abbrev cX2_combined : ByteArray := prog_4_method_13_code
def yX2_combined : MethodName := ⟨RX2, "combined", "(II)J"⟩
abbrev cX2_linkAtoms : ByteArray := prog_4_method_14_code
def yX2_linkAtoms : MethodName := ⟨RX2, "linkAtoms", "()V"⟩
abbrev cX2_narrow : ByteArray := prog_4_method_15_code
def yX2_narrow : MethodName := ⟨RX2, "narrow", "(II)V"⟩
abbrev cX2_refute : ByteArray := prog_4_method_16_code
def yX2_refute : MethodName := ⟨RX2, "refute", "()V"⟩
abbrev cX2_extend : ByteArray := prog_4_method_17_code
def yX2_extend : MethodName := ⟨RX2, "extend", "(I)Z"⟩
abbrev cX2_refutedBy : ByteArray := prog_4_method_18_code
def yX2_refutedBy : MethodName := ⟨RX2, "refutedBy", "(IIJ)J"⟩
abbrev cX2_leading : ByteArray := prog_4_method_19_code
def yX2_leading : MethodName := ⟨RX2, "leading", "(IIJ)J"⟩
abbrev cX2_remove : ByteArray := prog_4_method_20_code
def yX2_remove : MethodName := ⟨RX2, "remove", "()Z"⟩
abbrev cX2_everywhere : ByteArray := prog_4_method_21_code
def yX2_everywhere : MethodName := ⟨RX2, "everywhere", "(I)Z"⟩
abbrev cX2_somewhere : ByteArray := prog_4_method_22_code
def yX2_somewhere : MethodName := ⟨RX2, "somewhere", "(I)Z"⟩
def RX3 : String := "DynamicLogicProver$Model"
def TX3 : u_T := fun k => match k with
  | 0 => ("DynamicLogicProver$Model", "truths", "[I", true)
  | 1 => ("DynamicLogicProver$Model", "moves", "[I", true)
  | _ => ("DynamicLogicProver$Model", "worlds", "I", false)
def tyX3 : Nat → FieldType := fun k => match k with
  | 0 => .array .int
  | 1 => .array .int
  | _ => .int
abbrev wsX30 : List Cond := u_ws RX3 TX3 3
theorem nmX3 : ∀ a, a < 3 → ∀ b, b < 3 → a ≠ b → (TX3 a).2.1 ≠ (TX3 b).2.1 := by decide +kernel
theorem tyX3_ok : ∀ k, k < 3 → parseFieldDescriptor (TX3 k).2.2.1 = some (tyX3 k) := by decide +kernel
abbrev cX3_init : ByteArray := prog_5_method_1_code
def yX3_init : MethodName := ⟨RX3, "<init>", "()V"⟩
abbrev cX3_reset : ByteArray := prog_5_method_2_code
def yX3_reset : MethodName := ⟨RX3, "reset", "(I)V"⟩
abbrev cX3_take : ByteArray := prog_5_method_3_code
def yX3_take : MethodName := ⟨RX3, "take", "(LDynamicLogicProver$Model;)V"⟩
abbrev cX3_size : ByteArray := prog_5_method_4_code
def yX3_size : MethodName := ⟨RX3, "size", "()I"⟩
abbrev cX3_all : ByteArray := prog_5_method_5_code
def yX3_all : MethodName := ⟨RX3, "all", "()I"⟩
abbrev cX3_has : ByteArray := prog_5_method_6_code
def yX3_has : MethodName := ⟨RX3, "has", "(I)Z"⟩
abbrev cX3_truths : ByteArray := prog_5_method_7_code
def yX3_truths : MethodName := ⟨RX3, "truths", "(I)I"⟩
abbrev cX3_moves : ByteArray := prog_5_method_8_code
def yX3_moves : MethodName := ⟨RX3, "moves", "(II)I"⟩
abbrev cX3_putTruth : ByteArray := prog_5_method_9_code
def yX3_putTruth : MethodName := ⟨RX3, "putTruth", "(IIZ)V"⟩
abbrev cX3_putMove : ByteArray := prog_5_method_10_code
def yX3_putMove : MethodName := ⟨RX3, "putMove", "(IIIZ)V"⟩
abbrev cX3_lettersAt : ByteArray := prog_5_method_11_code
def yX3_lettersAt : MethodName := ⟨RX3, "lettersAt", "(I)I"⟩
abbrev cX3_transitions : ByteArray := prog_5_method_12_code
def yX3_transitions : MethodName := ⟨RX3, "transitions", "()I"⟩
abbrev cX3_decode : ByteArray := prog_5_method_13_code
def yX3_decode : MethodName := ⟨RX3, "decode", "(IIII)V"⟩
def RX4 : String := "DynamicLogicProver$Parser"
def TX4 : u_T := fun k => match k with
  | 0 => ("DynamicLogicProver$Parser", "pool", "LDynamicLogicProver$Pool;", true)
  | 1 => ("DynamicLogicProver$Parser", "source", "[I", true)
  | 2 => ("DynamicLogicProver$Parser", "operands", "[I", true)
  | 3 => ("DynamicLogicProver$Parser", "end", "I", false)
  | 4 => ("DynamicLogicProver$Parser", "place", "I", false)
  | 5 => ("DynamicLogicProver$Parser", "open", "I", false)
  | 6 => ("DynamicLogicProver$Parser", "waiting", "I", false)
  | _ => ("DynamicLogicProver$Parser", "fault", "I", false)
def tyX4 : Nat → FieldType := fun k => match k with
  | 0 => .object "DynamicLogicProver$Pool"
  | 1 => .array .int
  | 2 => .array .int
  | 3 => .int
  | 4 => .int
  | 5 => .int
  | 6 => .int
  | _ => .int
abbrev wsX40 : List Cond := u_ws RX4 TX4 8
theorem nmX4 : ∀ a, a < 8 → ∀ b, b < 8 → a ≠ b → (TX4 a).2.1 ≠ (TX4 b).2.1 := by decide +kernel
theorem tyX4_ok : ∀ k, k < 8 → parseFieldDescriptor (TX4 k).2.2.1 = some (tyX4 k) := by decide +kernel
abbrev cX4_init : ByteArray := prog_6_method_1_code
def yX4_init : MethodName := ⟨RX4, "<init>", "(LDynamicLogicProver$Pool;[I)V"⟩
abbrev cX4_fault : ByteArray := prog_6_method_2_code
def yX4_fault : MethodName := ⟨RX4, "fault", "()I"⟩
abbrev cX4_parse : ByteArray := prog_6_method_3_code
def yX4_parse : MethodName := ⟨RX4, "parse", "(I)I"⟩
abbrev cX4_peek : ByteArray := prog_6_method_4_code
def yX4_peek : MethodName := ⟨RX4, "peek", "()I"⟩
abbrev cX4_skip : ByteArray := prog_6_method_5_code
def yX4_skip : MethodName := ⟨RX4, "skip", "(I)Z"⟩
abbrev cX4_fail : ByteArray := prog_6_method_6_code
def yX4_fail : MethodName := ⟨RX4, "fail", "()I"⟩
abbrev cX4_formula : ByteArray := prog_6_method_7_code
def yX4_formula : MethodName := ⟨RX4, "formula", "()I"⟩
abbrev cX4_await : ByteArray := prog_6_method_8_code
def yX4_await : MethodName := ⟨RX4, "await", "(I)V"⟩
abbrev cX4_disjunction : ByteArray := prog_6_method_9_code
def yX4_disjunction : MethodName := ⟨RX4, "disjunction", "()I"⟩
abbrev cX4_conjunction : ByteArray := prog_6_method_10_code
def yX4_conjunction : MethodName := ⟨RX4, "conjunction", "()I"⟩
abbrev cX4_unary : ByteArray := prog_6_method_11_code
def yX4_unary : MethodName := ⟨RX4, "unary", "()I"⟩
abbrev cX4_openFormula : ByteArray := prog_6_method_12_code
def yX4_openFormula : MethodName := ⟨RX4, "openFormula", "(I)I"⟩
abbrev cX4_closed : ByteArray := prog_6_method_13_code
def yX4_closed : MethodName := ⟨RX4, "closed", "(II)I"⟩
abbrev cX4_choice : ByteArray := prog_6_method_14_code
def yX4_choice : MethodName := ⟨RX4, "choice", "()I"⟩
abbrev cX4_sequence : ByteArray := prog_6_method_15_code
def yX4_sequence : MethodName := ⟨RX4, "sequence", "()I"⟩
abbrev cX4_iteration : ByteArray := prog_6_method_16_code
def yX4_iteration : MethodName := ⟨RX4, "iteration", "()I"⟩
abbrev cX4_program : ByteArray := prog_6_method_17_code
def yX4_program : MethodName := ⟨RX4, "program", "()I"⟩
def RX5 : String := "DynamicLogicProver$Partition"
def TX5 : u_T := fun k => match k with
  | 0 => ("DynamicLogicProver$Partition", "classes", "[I", true)
  | 1 => ("DynamicLogicProver$Partition", "before", "[I", true)
  | 2 => ("DynamicLogicProver$Partition", "images", "[I", true)
  | 3 => ("DynamicLogicProver$Partition", "worlds", "I", false)
  | _ => ("DynamicLogicProver$Partition", "number", "I", false)
def tyX5 : Nat → FieldType := fun k => match k with
  | 0 => .array .int
  | 1 => .array .int
  | 2 => .array .int
  | 3 => .int
  | _ => .int
abbrev wsX50 : List Cond := u_ws RX5 TX5 5
theorem nmX5 : ∀ a, a < 5 → ∀ b, b < 5 → a ≠ b → (TX5 a).2.1 ≠ (TX5 b).2.1 := by decide +kernel
theorem tyX5_ok : ∀ k, k < 5 → parseFieldDescriptor (TX5 k).2.2.1 = some (tyX5 k) := by decide +kernel
abbrev cX5_init : ByteArray := prog_7_method_1_code
def yX5_init : MethodName := ⟨RX5, "<init>", "()V"⟩
abbrev cX5_size : ByteArray := prog_7_method_2_code
def yX5_size : MethodName := ⟨RX5, "size", "()I"⟩
abbrev cX5_classOf : ByteArray := prog_7_method_3_code
def yX5_classOf : MethodName := ⟨RX5, "classOf", "(I)I"⟩
abbrev cX5_begin : ByteArray := prog_7_method_4_code
def yX5_begin : MethodName := ⟨RX5, "begin", "(I)V"⟩
abbrev cX5_split : ByteArray := prog_7_method_5_code
def yX5_split : MethodName := ⟨RX5, "split", "(I)V"⟩
abbrev cX5_bisimulate : ByteArray := prog_7_method_6_code
def yX5_bisimulate : MethodName := ⟨RX5, "bisimulate", "(LDynamicLogicProver$Model;)V"⟩
abbrev cX5_refine : ByteArray := prog_7_method_7_code
def yX5_refine : MethodName := ⟨RX5, "refine", "(LDynamicLogicProver$Model;)V"⟩
abbrev cX5_sources : ByteArray := prog_7_method_8_code
def yX5_sources : MethodName := ⟨RX5, "sources", "(LDynamicLogicProver$Model;II)I"⟩
abbrev cX5_quotient : ByteArray := prog_7_method_9_code
def yX5_quotient : MethodName := ⟨RX5, "quotient", "(LDynamicLogicProver$Model;ILDynamicLogicProver$Model;)V"⟩
def RX6 : String := "DynamicLogicProver$Pool"
def TX6 : u_T := fun k => match k with
  | 0 => ("DynamicLogicProver$Pool", "kinds", "[I", true)
  | 1 => ("DynamicLogicProver$Pool", "lefts", "[I", true)
  | 2 => ("DynamicLogicProver$Pool", "rights", "[I", true)
  | 3 => ("DynamicLogicProver$Pool", "sizes", "[I", true)
  | 4 => ("DynamicLogicProver$Pool", "heights", "[I", true)
  | 5 => ("DynamicLogicProver$Pool", "lengths", "[I", true)
  | 6 => ("DynamicLogicProver$Pool", "chains", "[I", true)
  | 7 => ("DynamicLogicProver$Pool", "heads", "[I", true)
  | 8 => ("DynamicLogicProver$Pool", "pending", "[I", true)
  | 9 => ("DynamicLogicProver$Pool", "here", "[I", true)
  | 10 => ("DynamicLogicProver$Pool", "there", "[I", true)
  | _ => ("DynamicLogicProver$Pool", "used", "I", false)
def tyX6 : Nat → FieldType := fun k => match k with
  | 0 => .array .int
  | 1 => .array .int
  | 2 => .array .int
  | 3 => .array .int
  | 4 => .array .int
  | 5 => .array .int
  | 6 => .array .int
  | 7 => .array .int
  | 8 => .array .int
  | 9 => .array .int
  | 10 => .array .int
  | _ => .int
abbrev wsX60 : List Cond := u_ws RX6 TX6 12
theorem nmX6 : ∀ a, a < 12 → ∀ b, b < 12 → a ≠ b → (TX6 a).2.1 ≠ (TX6 b).2.1 := by decide +kernel
theorem tyX6_ok : ∀ k, k < 12 → parseFieldDescriptor (TX6 k).2.2.1 = some (tyX6 k) := by decide +kernel
abbrev cX6_init : ByteArray := prog_8_method_1_code
def yX6_init : MethodName := ⟨RX6, "<init>", "()V"⟩
abbrev cX6_clear : ByteArray := prog_8_method_2_code
def yX6_clear : MethodName := ⟨RX6, "clear", "()V"⟩
abbrev cX6_nodes : ByteArray := prog_8_method_3_code
def yX6_nodes : MethodName := ⟨RX6, "nodes", "()I"⟩
abbrev cX6_kind : ByteArray := prog_8_method_4_code
def yX6_kind : MethodName := ⟨RX6, "kind", "(I)I"⟩
abbrev cX6_left : ByteArray := prog_8_method_5_code
def yX6_left : MethodName := ⟨RX6, "left", "(I)I"⟩
abbrev cX6_right : ByteArray := prog_8_method_6_code
def yX6_right : MethodName := ⟨RX6, "right", "(I)I"⟩
abbrev cX6_size : ByteArray := prog_8_method_7_code
def yX6_size : MethodName := ⟨RX6, "size", "(I)I"⟩
abbrev cX6_height : ByteArray := prog_8_method_8_code
def yX6_height : MethodName := ⟨RX6, "height", "(I)I"⟩
abbrev cX6_length : ByteArray := prog_8_method_9_code
def yX6_length : MethodName := ⟨RX6, "length", "(I)I"⟩
abbrev cX6_isLetter : ByteArray := prog_8_method_10_code
def yX6_isLetter : MethodName := ⟨RX6, "isLetter", "(I)Z"⟩
abbrev cX6_isAtomic : ByteArray := prog_8_method_11_code
def yX6_isAtomic : MethodName := ⟨RX6, "isAtomic", "(I)Z"⟩
abbrev cX6_isAtomicBox : ByteArray := prog_8_method_12_code
def yX6_isAtomicBox : MethodName := ⟨RX6, "isAtomicBox", "(I)Z"⟩
abbrev cX6_isComplexBox : ByteArray := prog_8_method_13_code
def yX6_isComplexBox : MethodName := ⟨RX6, "isComplexBox", "(I)Z"⟩
abbrev cX6_letterBit : ByteArray := prog_8_method_14_code
def yX6_letterBit : MethodName := ⟨RX6, "letterBit", "(I)I"⟩
abbrev cX6_leaf : ByteArray := prog_8_method_15_code
def yX6_leaf : MethodName := ⟨RX6, "leaf", "(I)I"⟩
abbrev cX6_single : ByteArray := prog_8_method_16_code
def yX6_single : MethodName := ⟨RX6, "single", "(II)I"⟩
abbrev cX6_pair : ByteArray := prog_8_method_17_code
def yX6_pair : MethodName := ⟨RX6, "pair", "(III)I"⟩
abbrev cX6_negate : ByteArray := prog_8_method_18_code
def yX6_negate : MethodName := ⟨RX6, "negate", "(I)I"⟩
abbrev cX6_truth : ByteArray := prog_8_method_19_code
def yX6_truth : MethodName := ⟨RX6, "truth", "()I"⟩
abbrev cX6_both : ByteArray := prog_8_method_20_code
def yX6_both : MethodName := ⟨RX6, "both", "(II)I"⟩
abbrev cX6_either : ByteArray := prog_8_method_21_code
def yX6_either : MethodName := ⟨RX6, "either", "(II)I"⟩
abbrev cX6_find : ByteArray := prog_8_method_22_code
def yX6_find : MethodName := ⟨RX6, "find", "(III)I"⟩
abbrev cX6_signs : ByteArray := prog_8_method_23_code
def yX6_signs : MethodName := ⟨RX6, "signs", "(I)I"⟩
abbrev cX6_charOf : ByteArray := prog_8_method_24_code
def yX6_charOf : MethodName := ⟨RX6, "charOf", "(II)I"⟩
abbrev cX6_order : ByteArray := prog_8_method_25_code
def yX6_order : MethodName := ⟨RX6, "order", "(II)I"⟩
abbrev cX6_write : ByteArray := prog_8_method_26_code
def yX6_write : MethodName := ⟨RX6, "write", "(I[I)I"⟩
abbrev cX6_postpone : ByteArray := prog_8_method_27_code
def yX6_postpone : MethodName := ⟨RX6, "postpone", "(II)I"⟩
def RX7 : String := "DynamicLogicProver$Rewriter"
def TX7 : u_T := fun k => match k with
  | 0 => ("DynamicLogicProver$Rewriter", "pool", "LDynamicLogicProver$Pool;", true)
  | 1 => ("DynamicLogicProver$Rewriter", "marks", "[I", true)
  | _ => ("DynamicLogicProver$Rewriter", "path", "[I", true)
def tyX7 : Nat → FieldType := fun k => match k with
  | 0 => .object "DynamicLogicProver$Pool"
  | 1 => .array .int
  | _ => .array .int
abbrev wsX70 : List Cond := u_ws RX7 TX7 3
theorem nmX7 : ∀ a, a < 3 → ∀ b, b < 3 → a ≠ b → (TX7 a).2.1 ≠ (TX7 b).2.1 := by decide +kernel
theorem tyX7_ok : ∀ k, k < 3 → parseFieldDescriptor (TX7 k).2.2.1 = some (tyX7 k) := by decide +kernel
abbrev cX7_init : ByteArray := prog_9_method_1_code
def yX7_init : MethodName := ⟨RX7, "<init>", "(LDynamicLogicProver$Pool;)V"⟩
abbrev cX7_unfolded : ByteArray := prog_9_method_2_code
def yX7_unfolded : MethodName := ⟨RX7, "unfolded", "(I)I"⟩
abbrev cX7_markComplex : ByteArray := prog_9_method_3_code
def yX7_markComplex : MethodName := ⟨RX7, "markComplex", "(I)V"⟩
abbrev cX7_goesLeft : ByteArray := prog_9_method_4_code
def yX7_goesLeft : MethodName := ⟨RX7, "goesLeft", "(I)Z"⟩
abbrev cX7_opened : ByteArray := prog_9_method_5_code
def yX7_opened : MethodName := ⟨RX7, "opened", "(I)I"⟩
abbrev cX7_unrolled : ByteArray := prog_9_method_6_code
def yX7_unrolled : MethodName := ⟨RX7, "unrolled", "(II)I"⟩
abbrev cX7_rebuilt : ByteArray := prog_9_method_7_code
def yX7_rebuilt : MethodName := ⟨RX7, "rebuilt", "(II)I"⟩
abbrev cX7_bounded : ByteArray := prog_9_method_8_code
def yX7_bounded : MethodName := ⟨RX7, "bounded", "(II)I"⟩
def RX8 : String := "DynamicLogicProver$Runs"
def TX8 : u_T := fun k => match k with
  | 0 => ("DynamicLogicProver$Runs", "pool", "LDynamicLogicProver$Pool;", true)
  | 1 => ("DynamicLogicProver$Runs", "closure", "LDynamicLogicProver$Closure;", true)
  | 2 => ("DynamicLogicProver$Runs", "truth", "LDynamicLogicProver$Truth;", true)
  | 3 => ("DynamicLogicProver$Runs", "model", "LDynamicLogicProver$Model;", true)
  | 4 => ("DynamicLogicProver$Runs", "outcomes", "[J", true)
  | 5 => ("DynamicLogicProver$Runs", "states", "[I", true)
  | 6 => ("DynamicLogicProver$Runs", "front", "[J", true)
  | 7 => ("DynamicLogicProver$Runs", "next", "[J", true)
  | 8 => ("DynamicLogicProver$Runs", "distances", "[I", true)
  | 9 => ("DynamicLogicProver$Runs", "useful", "[J", true)
  | 10 => ("DynamicLogicProver$Runs", "keyMasks", "[J", true)
  | 11 => ("DynamicLogicProver$Runs", "keyPlaces", "[I", true)
  | 12 => ("DynamicLogicProver$Runs", "answers", "[J", true)
  | 13 => ("DynamicLogicProver$Runs", "root", "I", false)
  | _ => ("DynamicLogicProver$Runs", "used", "I", false)
def tyX8 : Nat → FieldType := fun k => match k with
  | 0 => .object "DynamicLogicProver$Pool"
  | 1 => .object "DynamicLogicProver$Closure"
  | 2 => .object "DynamicLogicProver$Truth"
  | 3 => .object "DynamicLogicProver$Model"
  | 4 => .array .long
  | 5 => .array .int
  | 6 => .array .long
  | 7 => .array .long
  | 8 => .array .int
  | 9 => .array .long
  | 10 => .array .long
  | 11 => .array .int
  | 12 => .array .long
  | 13 => .int
  | _ => .int
abbrev wsX80 : List Cond := u_ws RX8 TX8 15
theorem nmX8 : ∀ a, a < 15 → ∀ b, b < 15 → a ≠ b → (TX8 a).2.1 ≠ (TX8 b).2.1 := by decide +kernel
theorem tyX8_ok : ∀ k, k < 15 → parseFieldDescriptor (TX8 k).2.2.1 = some (tyX8 k) := by decide +kernel
abbrev cX8_init : ByteArray := prog_10_method_1_code
def yX8_init : MethodName := ⟨RX8, "<init>", "(LDynamicLogicProver$Pool;LDynamicLogicProver$Closure;LDynamicLogicProver$Truth;LDynamicLogicProver$Model;)V"⟩
abbrev cX8_prepare : ByteArray := prog_10_method_2_code
def yX8_prepare : MethodName := ⟨RX8, "prepare", "(I)V"⟩
abbrev cX8_numberStates : ByteArray := prog_10_method_3_code
def yX8_numberStates : MethodName := ⟨RX8, "numberStates", "()V"⟩
abbrev cX8_putOutcome : ByteArray := prog_10_method_4_code
def yX8_putOutcome : MethodName := ⟨RX8, "putOutcome", "(IJ)V"⟩
abbrev cX8_outcome : ByteArray := prog_10_method_5_code
def yX8_outcome : MethodName := ⟨RX8, "outcome", "(II)J"⟩
abbrev cX8_spread : ByteArray := prog_10_method_6_code
def yX8_spread : MethodName := ⟨RX8, "spread", "()Z"⟩
abbrev cX8_brought : ByteArray := prog_10_method_7_code
def yX8_brought : MethodName := ⟨RX8, "brought", "(II)J"⟩
abbrev cX8_programOf : ByteArray := prog_10_method_8_code
def yX8_programOf : MethodName := ⟨RX8, "programOf", "(I)I"⟩
abbrev cX8_after : ByteArray := prog_10_method_9_code
def yX8_after : MethodName := ⟨RX8, "after", "(II)J"⟩
abbrev cX8_sources : ByteArray := prog_10_method_10_code
def yX8_sources : MethodName := ⟨RX8, "sources", "(I[J)J"⟩
abbrev cX8_measure : ByteArray := prog_10_method_11_code
def yX8_measure : MethodName := ⟨RX8, "measure", "(I)V"⟩
abbrev cX8_widen : ByteArray := prog_10_method_12_code
def yX8_widen : MethodName := ⟨RX8, "widen", "(I)Z"⟩
abbrev cX8_nearest : ByteArray := prog_10_method_13_code
def yX8_nearest : MethodName := ⟨RX8, "nearest", "(JI)I"⟩
abbrev cX8_shortest : ByteArray := prog_10_method_14_code
def yX8_shortest : MethodName := ⟨RX8, "shortest", "(I)I"⟩
abbrev cX8_returns : ByteArray := prog_10_method_15_code
def yX8_returns : MethodName := ⟨RX8, "returns", "(I)Z"⟩
abbrev cX8_moved : ByteArray := prog_10_method_16_code
def yX8_moved : MethodName := ⟨RX8, "moved", "(JIII)J"⟩
abbrev cX8_bestStep : ByteArray := prog_10_method_17_code
def yX8_bestStep : MethodName := ⟨RX8, "bestStep", "(III)I"⟩
abbrev cX8_smallestStep : ByteArray := prog_10_method_18_code
def yX8_smallestStep : MethodName := ⟨RX8, "smallestStep", "(JII)I"⟩
abbrev cX8_sequences : ByteArray := prog_10_method_19_code
def yX8_sequences : MethodName := ⟨RX8, "sequences", "(III)J"⟩
abbrev cX8_tally : ByteArray := prog_10_method_20_code
def yX8_tally : MethodName := ⟨RX8, "tally", "(JII)J"⟩
abbrev cX8_slotOf : ByteArray := prog_10_method_21_code
def yX8_slotOf : MethodName := ⟨RX8, "slotOf", "(JI)I"⟩
abbrev cX8_remember : ByteArray := prog_10_method_22_code
def yX8_remember : MethodName := ⟨RX8, "remember", "(JIJ)V"⟩
def RX9 : String := "DynamicLogicProver$Shelf"
def TX9 : u_T := fun k => match k with
  | 0 => ("DynamicLogicProver$Shelf", "codes", "[I", true)
  | 1 => ("DynamicLogicProver$Shelf", "sizes", "[I", true)
  | 2 => ("DynamicLogicProver$Shelf", "waiting", "[I", true)
  | _ => ("DynamicLogicProver$Shelf", "used", "I", false)
def tyX9 : Nat → FieldType := fun k => match k with
  | 0 => .array .int
  | 1 => .array .int
  | 2 => .array .int
  | _ => .int
abbrev wsX90 : List Cond := u_ws RX9 TX9 4
theorem nmX9 : ∀ a, a < 4 → ∀ b, b < 4 → a ≠ b → (TX9 a).2.1 ≠ (TX9 b).2.1 := by decide +kernel
theorem tyX9_ok : ∀ k, k < 4 → parseFieldDescriptor (TX9 k).2.2.1 = some (tyX9 k) := by decide +kernel
abbrev cX9_init : ByteArray := prog_11_method_1_code
def yX9_init : MethodName := ⟨RX9, "<init>", "()V"⟩
abbrev cX9_size : ByteArray := prog_11_method_2_code
def yX9_size : MethodName := ⟨RX9, "size", "()I"⟩
abbrev cX9_isEmpty : ByteArray := prog_11_method_3_code
def yX9_isEmpty : MethodName := ⟨RX9, "isEmpty", "()Z"⟩
abbrev cX9_isFull : ByteArray := prog_11_method_4_code
def yX9_isFull : MethodName := ⟨RX9, "isFull", "()Z"⟩
abbrev cX9_has : ByteArray := prog_11_method_5_code
def yX9_has : MethodName := ⟨RX9, "has", "(I)Z"⟩
abbrev cX9_sizeOf : ByteArray := prog_11_method_6_code
def yX9_sizeOf : MethodName := ⟨RX9, "sizeOf", "(I)I"⟩
abbrev cX9_take : ByteArray := prog_11_method_7_code
def yX9_take : MethodName := ⟨RX9, "take", "(LDynamicLogicProver$Shelf;)V"⟩
abbrev cX9_drop : ByteArray := prog_11_method_8_code
def yX9_drop : MethodName := ⟨RX9, "drop", "()I"⟩
abbrev cX9_add : ByteArray := prog_11_method_9_code
def yX9_add : MethodName := ⟨RX9, "add", "(ILDynamicLogicProver$Pool;)I"⟩
abbrev cX9_fetch : ByteArray := prog_11_method_10_code
def yX9_fetch : MethodName := ⟨RX9, "fetch", "(ILDynamicLogicProver$Pool;)I"⟩
def RX10 : String := "DynamicLogicProver$Truth"
def TX10 : u_T := fun k => match k with
  | 0 => ("DynamicLogicProver$Truth", "pool", "LDynamicLogicProver$Pool;", true)
  | 1 => ("DynamicLogicProver$Truth", "masks", "[I", true)
  | 2 => ("DynamicLogicProver$Truth", "rows", "[I", true)
  | 3 => ("DynamicLogicProver$Truth", "worlds", "I", false)
  | _ => ("DynamicLogicProver$Truth", "all", "I", false)
def tyX10 : Nat → FieldType := fun k => match k with
  | 0 => .object "DynamicLogicProver$Pool"
  | 1 => .array .int
  | 2 => .array .int
  | 3 => .int
  | _ => .int
abbrev wsX100 : List Cond := u_ws RX10 TX10 5
theorem nmX10 : ∀ a, a < 5 → ∀ b, b < 5 → a ≠ b → (TX10 a).2.1 ≠ (TX10 b).2.1 := by decide +kernel
theorem tyX10_ok : ∀ k, k < 5 → parseFieldDescriptor (TX10 k).2.2.1 = some (tyX10 k) := by decide +kernel
abbrev cX10_init : ByteArray := prog_12_method_1_code
def yX10_init : MethodName := ⟨RX10, "<init>", "(LDynamicLogicProver$Pool;)V"⟩
abbrev cX10_mask : ByteArray := prog_12_method_2_code
def yX10_mask : MethodName := ⟨RX10, "mask", "(I)I"⟩
abbrev cX10_row : ByteArray := prog_12_method_3_code
def yX10_row : MethodName := ⟨RX10, "row", "(II)I"⟩
abbrev cX10_putRow : ByteArray := prog_12_method_4_code
def yX10_putRow : MethodName := ⟨RX10, "putRow", "(III)V"⟩
abbrev cX10_evaluate : ByteArray := prog_12_method_5_code
def yX10_evaluate : MethodName := ⟨RX10, "evaluate", "(LDynamicLogicProver$Model;)V"⟩
abbrev cX10_visit : ByteArray := prog_12_method_6_code
def yX10_visit : MethodName := ⟨RX10, "visit", "(ILDynamicLogicProver$Model;)V"⟩
abbrev cX10_boxMask : ByteArray := prog_12_method_7_code
def yX10_boxMask : MethodName := ⟨RX10, "boxMask", "(II)I"⟩
abbrev cX10_image : ByteArray := prog_12_method_8_code
def yX10_image : MethodName := ⟨RX10, "image", "(II)I"⟩
abbrev cX10_joinRows : ByteArray := prog_12_method_9_code
def yX10_joinRows : MethodName := ⟨RX10, "joinRows", "(I)V"⟩
abbrev cX10_uniteRows : ByteArray := prog_12_method_10_code
def yX10_uniteRows : MethodName := ⟨RX10, "uniteRows", "(I)V"⟩
abbrev cX10_repeatRows : ByteArray := prog_12_method_11_code
def yX10_repeatRows : MethodName := ⟨RX10, "repeatRows", "(I)V"⟩
abbrev cX10_rounds : ByteArray := prog_12_method_12_code
def yX10_rounds : MethodName := ⟨RX10, "rounds", "(III)I"⟩
def RX11 : String := "DynamicLogicProver"
def TX11 : u_T := fun k => match k with
  | 0 => ("DynamicLogicProver", "model", "LDynamicLogicProver$Model;", true)
  | 1 => ("DynamicLogicProver", "savedModel", "LDynamicLogicProver$Model;", true)
  | 2 => ("DynamicLogicProver", "scratch", "LDynamicLogicProver$Model;", true)
  | 3 => ("DynamicLogicProver", "formulas", "LDynamicLogicProver$Shelf;", true)
  | 4 => ("DynamicLogicProver", "savedFormulas", "LDynamicLogicProver$Shelf;", true)
  | 5 => ("DynamicLogicProver", "buffers", "LDynamicLogicProver$Buffers;", true)
  | 6 => ("DynamicLogicProver", "pool", "LDynamicLogicProver$Pool;", true)
  | 7 => ("DynamicLogicProver", "text", "[I", true)
  | 8 => ("DynamicLogicProver", "parser", "LDynamicLogicProver$Parser;", true)
  | 9 => ("DynamicLogicProver", "rewriter", "LDynamicLogicProver$Rewriter;", true)
  | 10 => ("DynamicLogicProver", "truth", "LDynamicLogicProver$Truth;", true)
  | 11 => ("DynamicLogicProver", "closure", "LDynamicLogicProver$Closure;", true)
  | 12 => ("DynamicLogicProver", "partition", "LDynamicLogicProver$Partition;", true)
  | 13 => ("DynamicLogicProver", "runs", "LDynamicLogicProver$Runs;", true)
  | 14 => ("DynamicLogicProver", "decision", "LDynamicLogicProver$Decision;", true)
  | 15 => ("DynamicLogicProver", "textUsed", "I", false)
  | _ => ("DynamicLogicProver", "saved", "Z", false)
def tyX11 : Nat → FieldType := fun k => match k with
  | 0 => .object "DynamicLogicProver$Model"
  | 1 => .object "DynamicLogicProver$Model"
  | 2 => .object "DynamicLogicProver$Model"
  | 3 => .object "DynamicLogicProver$Shelf"
  | 4 => .object "DynamicLogicProver$Shelf"
  | 5 => .object "DynamicLogicProver$Buffers"
  | 6 => .object "DynamicLogicProver$Pool"
  | 7 => .array .int
  | 8 => .object "DynamicLogicProver$Parser"
  | 9 => .object "DynamicLogicProver$Rewriter"
  | 10 => .object "DynamicLogicProver$Truth"
  | 11 => .object "DynamicLogicProver$Closure"
  | 12 => .object "DynamicLogicProver$Partition"
  | 13 => .object "DynamicLogicProver$Runs"
  | 14 => .object "DynamicLogicProver$Decision"
  | 15 => .int
  | _ => .boolean
abbrev wsX110 : List Cond := u_ws RX11 TX11 17
theorem nmX11 : ∀ a, a < 17 → ∀ b, b < 17 → a ≠ b → (TX11 a).2.1 ≠ (TX11 b).2.1 := by decide +kernel
theorem tyX11_ok : ∀ k, k < 17 → parseFieldDescriptor (TX11 k).2.2.1 = some (tyX11 k) := by decide +kernel
abbrev cX11_init : ByteArray := prog_1_method_1_code
def yX11_init : MethodName := ⟨RX11, "<init>", "()V"⟩
abbrev cX11_setWorlds : ByteArray := prog_1_method_2_code
def yX11_setWorlds : MethodName := ⟨RX11, "setWorlds", "(I)I"⟩
abbrev cX11_setLetter : ByteArray := prog_1_method_3_code
def yX11_setLetter : MethodName := ⟨RX11, "setLetter", "(IIZ)I"⟩
abbrev cX11_setTransition : ByteArray := prog_1_method_4_code
def yX11_setTransition : MethodName := ⟨RX11, "setTransition", "(IIIZ)I"⟩
abbrev cX11_letters : ByteArray := prog_1_method_5_code
def yX11_letters : MethodName := ⟨RX11, "letters", "(I)I"⟩
abbrev cX11_successors : ByteArray := prog_1_method_6_code
def yX11_successors : MethodName := ⟨RX11, "successors", "(II)I"⟩
abbrev cX11_loadModel : ByteArray := prog_1_method_7_code
def yX11_loadModel : MethodName := ⟨RX11, "loadModel", "(IIII)I"⟩
abbrev cX11_bisimulationClasses : ByteArray := prog_1_method_8_code
def yX11_bisimulationClasses : MethodName := ⟨RX11, "bisimulationClasses", "()I"⟩
abbrev cX11_bisimulationClass : ByteArray := prog_1_method_9_code
def yX11_bisimulationClass : MethodName := ⟨RX11, "bisimulationClass", "(I)I"⟩
abbrev cX11_appendChar : ByteArray := prog_1_method_10_code
def yX11_appendChar : MethodName := ⟨RX11, "appendChar", "(I)I"⟩
abbrev cX11_parseFormula : ByteArray := prog_1_method_11_code
def yX11_parseFormula : MethodName := ⟨RX11, "parseFormula", "()I"⟩
abbrev cX11_dropFormula : ByteArray := prog_1_method_12_code
def yX11_dropFormula : MethodName := ⟨RX11, "dropFormula", "()I"⟩
abbrev cX11_formulaSize : ByteArray := prog_1_method_13_code
def yX11_formulaSize : MethodName := ⟨RX11, "formulaSize", "(I)I"⟩
abbrev cX11_starHeight : ByteArray := prog_1_method_14_code
def yX11_starHeight : MethodName := ⟨RX11, "starHeight", "(I)I"⟩
abbrev cX11_textLength : ByteArray := prog_1_method_15_code
def yX11_textLength : MethodName := ⟨RX11, "textLength", "(I)I"⟩
abbrev cX11_textChar : ByteArray := prog_1_method_16_code
def yX11_textChar : MethodName := ⟨RX11, "textChar", "(II)I"⟩
abbrev cX11_compareFormulas : ByteArray := prog_1_method_17_code
def yX11_compareFormulas : MethodName := ⟨RX11, "compareFormulas", "(II)I"⟩
abbrev cX11_holds : ByteArray := prog_1_method_18_code
def yX11_holds : MethodName := ⟨RX11, "holds", "(II)I"⟩
abbrev cX11_extension : ByteArray := prog_1_method_19_code
def yX11_extension : MethodName := ⟨RX11, "extension", "(I)I"⟩
abbrev cX11_distinguish : ByteArray := prog_1_method_20_code
def yX11_distinguish : MethodName := ⟨RX11, "distinguish", "(II)I"⟩
abbrev cX11_reach : ByteArray := prog_1_method_21_code
def yX11_reach : MethodName := ⟨RX11, "reach", "(II)I"⟩
abbrev cX11_runSteps : ByteArray := prog_1_method_22_code
def yX11_runSteps : MethodName := ⟨RX11, "runSteps", "(III)I"⟩
abbrev cX11_runStep : ByteArray := prog_1_method_23_code
def yX11_runStep : MethodName := ⟨RX11, "runStep", "(IIIII)I"⟩
abbrev cX11_runCount : ByteArray := prog_1_method_24_code
def yX11_runCount : MethodName := ⟨RX11, "runCount", "(IIII)J"⟩
abbrev cX11_iterations : ByteArray := prog_1_method_25_code
def yX11_iterations : MethodName := ⟨RX11, "iterations", "(III)I"⟩
abbrev cX11_cycles : ByteArray := prog_1_method_26_code
def yX11_cycles : MethodName := ⟨RX11, "cycles", "(I)I"⟩
abbrev cX11_closureSize : ByteArray := prog_1_method_27_code
def yX11_closureSize : MethodName := ⟨RX11, "closureSize", "(I)I"⟩
abbrev cX11_baseMembers : ByteArray := prog_1_method_28_code
def yX11_baseMembers : MethodName := ⟨RX11, "baseMembers", "(I)I"⟩
abbrev cX11_closureIndex : ByteArray := prog_1_method_29_code
def yX11_closureIndex : MethodName := ⟨RX11, "closureIndex", "(II)I"⟩
abbrev cX11_storeMember : ByteArray := prog_1_method_30_code
def yX11_storeMember : MethodName := ⟨RX11, "storeMember", "(II)I"⟩
abbrev cX11_trueMembers : ByteArray := prog_1_method_31_code
def yX11_trueMembers : MethodName := ⟨RX11, "trueMembers", "(II)I"⟩
abbrev cX11_filterClasses : ByteArray := prog_1_method_32_code
def yX11_filterClasses : MethodName := ⟨RX11, "filterClasses", "(I)I"⟩
abbrev cX11_filterClass : ByteArray := prog_1_method_33_code
def yX11_filterClass : MethodName := ⟨RX11, "filterClass", "(II)I"⟩
abbrev cX11_filterSuccessors : ByteArray := prog_1_method_34_code
def yX11_filterSuccessors : MethodName := ⟨RX11, "filterSuccessors", "(III)I"⟩
abbrev cX11_filterHolds : ByteArray := prog_1_method_35_code
def yX11_filterHolds : MethodName := ⟨RX11, "filterHolds", "(III)I"⟩
abbrev cX11_applyFilter : ByteArray := prog_1_method_36_code
def yX11_applyFilter : MethodName := ⟨RX11, "applyFilter", "(I)I"⟩
abbrev cX11_unfold : ByteArray := prog_1_method_37_code
def yX11_unfold : MethodName := ⟨RX11, "unfold", "(I)I"⟩
abbrev cX11_unroll : ByteArray := prog_1_method_38_code
def yX11_unroll : MethodName := ⟨RX11, "unroll", "(II)I"⟩
abbrev cX11_counterModels : ByteArray := prog_1_method_39_code
def yX11_counterModels : MethodName := ⟨RX11, "counterModels", "(IIII)I"⟩
abbrev cX11_firstCounterModel : ByteArray := prog_1_method_40_code
def yX11_firstCounterModel : MethodName := ⟨RX11, "firstCounterModel", "(IIII)I"⟩
abbrev cX11_isValid : ByteArray := prog_1_method_41_code
def yX11_isValid : MethodName := ⟨RX11, "isValid", "(I)I"⟩
abbrev cX11_isSatisfiable : ByteArray := prog_1_method_42_code
def yX11_isSatisfiable : MethodName := ⟨RX11, "isSatisfiable", "(I)I"⟩
abbrev cX11_entails : ByteArray := prog_1_method_43_code
def yX11_entails : MethodName := ⟨RX11, "entails", "(II)I"⟩
abbrev cX11_compare : ByteArray := prog_1_method_44_code
def yX11_compare : MethodName := ⟨RX11, "compare", "(II)I"⟩
abbrev cX11_save : ByteArray := prog_1_method_45_code
def yX11_save : MethodName := ⟨RX11, "save", "()I"⟩
abbrev cX11_restore : ByteArray := prog_1_method_46_code
def yX11_restore : MethodName := ⟨RX11, "restore", "()I"⟩
abbrev cX11_count : ByteArray := prog_1_method_47_code
def yX11_count : MethodName := ⟨RX11, "count", "(I)I"⟩
abbrev cX11_allocate : ByteArray := prog_1_method_48_code
def yX11_allocate : MethodName := ⟨RX11, "allocate", "(III)I"⟩
abbrev cX11_store : ByteArray := prog_1_method_49_code
def yX11_store : MethodName := ⟨RX11, "store", "(IIJ)I"⟩
abbrev cX11_load : ByteArray := prog_1_method_50_code
def yX11_load : MethodName := ⟨RX11, "load", "(II)J"⟩
abbrev cX11_copy : ByteArray := prog_1_method_51_code
def yX11_copy : MethodName := ⟨RX11, "copy", "(IIIII)I"⟩
abbrev cX11_only : ByteArray := prog_1_method_52_code
def yX11_only : MethodName := ⟨RX11, "only", "(I)I"⟩
abbrev cX11_keep : ByteArray := prog_1_method_53_code
def yX11_keep : MethodName := ⟨RX11, "keep", "(I)I"⟩
abbrev cX11_worldsOf : ByteArray := prog_1_method_54_code
def yX11_worldsOf : MethodName := ⟨RX11, "worldsOf", "(I)I"⟩
abbrev cX11_prepareRuns : ByteArray := prog_1_method_55_code
def yX11_prepareRuns : MethodName := ⟨RX11, "prepareRuns", "(I)Z"⟩
abbrev cX11_filter : ByteArray := prog_1_method_56_code
def yX11_filter : MethodName := ⟨RX11, "filter", "(I)V"⟩
abbrev cX11_decide : ByteArray := prog_1_method_57_code
def yX11_decide : MethodName := ⟨RX11, "decide", "(I)Z"⟩
abbrev cX11_spaceBits : ByteArray := prog_1_method_58_code
def yX11_spaceBits : MethodName := ⟨RX11, "spaceBits", "(III)I"⟩
abbrev cX11_isProgram : ByteArray := prog_1_method_59_code
def yX11_isProgram : MethodName := ⟨RX11, "isProgram", "(I)Z"⟩
abbrev cX11_isBaseForm : ByteArray := prog_1_method_60_code
def yX11_isBaseForm : MethodName := ⟨RX11, "isBaseForm", "(I)Z"⟩
abbrev cX11_bit : ByteArray := prog_1_method_61_code
def yX11_bit : MethodName := ⟨RX11, "bit", "(Z)I"⟩
abbrev cX11_at : ByteArray := prog_1_method_62_code
def yX11_at : MethodName := ⟨RX11, "at", "([II)I"⟩
abbrev cX11_put : ByteArray := prog_1_method_63_code
def yX11_put : MethodName := ⟨RX11, "put", "([III)V"⟩
abbrev cX11_wideAt : ByteArray := prog_1_method_64_code
def yX11_wideAt : MethodName := ⟨RX11, "wideAt", "([JI)J"⟩
abbrev cX11_putWide : ByteArray := prog_1_method_65_code
def yX11_putWide : MethodName := ⟨RX11, "putWide", "([JIJ)V"⟩
def RX12 : String := "DynamicLogicProverModel"
def TX12 : u_T := fun k => match k with
  | 0 => ("DynamicLogicProverModel", "n", "I", false)
  | 1 => ("DynamicLogicProverModel", "letters", "[I", true)
  | 2 => ("DynamicLogicProverModel", "next", "[I", true)
  | 3 => ("DynamicLogicProverModel", "many", "I", false)
  | 4 => ("DynamicLogicProverModel", "sizes", "[I", true)
  | 5 => ("DynamicLogicProverModel", "terms", "[I", true)
  | 6 => ("DynamicLogicProverModel", "chars", "[I", true)
  | 7 => ("DynamicLogicProverModel", "charMany", "I", false)
  | 8 => ("DynamicLogicProverModel", "isSaved", "Z", false)
  | 9 => ("DynamicLogicProverModel", "savedN", "I", false)
  | 10 => ("DynamicLogicProverModel", "savedLetters", "[I", true)
  | 11 => ("DynamicLogicProverModel", "savedNext", "[I", true)
  | 12 => ("DynamicLogicProverModel", "savedMany", "I", false)
  | 13 => ("DynamicLogicProverModel", "savedSizes", "[I", true)
  | 14 => ("DynamicLogicProverModel", "savedTerms", "[I", true)
  | 15 => ("DynamicLogicProverModel", "atN", "I", false)
  | 16 => ("DynamicLogicProverModel", "atLetters", "[I", true)
  | 17 => ("DynamicLogicProverModel", "atNext", "[I", true)
  | 18 => ("DynamicLogicProverModel", "group", "[I", true)
  | 19 => ("DynamicLogicProverModel", "mark", "[I", true)
  | 20 => ("DynamicLogicProverModel", "nodes", "I", false)
  | 21 => ("DynamicLogicProverModel", "kinds", "[I", true)
  | 22 => ("DynamicLogicProverModel", "lefts", "[I", true)
  | 23 => ("DynamicLogicProverModel", "rights", "[I", true)
  | 24 => ("DynamicLogicProverModel", "larges", "[I", true)
  | 25 => ("DynamicLogicProverModel", "stars", "[I", true)
  | 26 => ("DynamicLogicProverModel", "pile", "[I", true)
  | 27 => ("DynamicLogicProverModel", "pool", "[B", true)
  | 28 => ("DynamicLogicProverModel", "written", "I", false)
  | 29 => ("DynamicLogicProverModel", "values", "[I", true)
  | 30 => ("DynamicLogicProverModel", "valueMany", "I", false)
  | 31 => ("DynamicLogicProverModel", "signs", "[I", true)
  | 32 => ("DynamicLogicProverModel", "signMany", "I", false)
  | 33 => ("DynamicLogicProverModel", "opened", "I", false)
  | 34 => ("DynamicLogicProverModel", "at", "I", false)
  | 35 => ("DynamicLogicProverModel", "isBad", "Z", false)
  | 36 => ("DynamicLogicProverModel", "wantsFormula", "Z", false)
  | 37 => ("DynamicLogicProverModel", "wants", "Z", false)
  | 38 => ("DynamicLogicProverModel", "isOver", "Z", false)
  | 39 => ("DynamicLogicProverModel", "truths", "[I", true)
  | 40 => ("DynamicLogicProverModel", "leads", "[I", true)
  | 41 => ("DynamicLogicProverModel", "steps", "[I", true)
  | 42 => ("DynamicLogicProverModel", "states", "I", false)
  | 43 => ("DynamicLogicProverModel", "edges", "I", false)
  | 44 => ("DynamicLogicProverModel", "edgeFrom", "[I", true)
  | 45 => ("DynamicLogicProverModel", "edgeTo", "[I", true)
  | 46 => ("DynamicLogicProverModel", "edgeBy", "[I", true)
  | 47 => ("DynamicLogicProverModel", "edgeTest", "[I", true)
  | 48 => ("DynamicLogicProverModel", "works", "[I", true)
  | 49 => ("DynamicLogicProverModel", "dues", "[I", true)
  | 50 => ("DynamicLogicProverModel", "isAt", "[Z", true)
  | 51 => ("DynamicLogicProverModel", "isNext", "[Z", true)
  | 52 => ("DynamicLogicProverModel", "lows", "[[J", true)
  | 53 => ("DynamicLogicProverModel", "highs", "[[J", true)
  | 54 => ("DynamicLogicProverModel", "worlds", "[[I", true)
  | 55 => ("DynamicLogicProverModel", "counts", "[[J", true)
  | 56 => ("DynamicLogicProverModel", "behind", "[[I", true)
  | 57 => ("DynamicLogicProverModel", "heads", "[I", true)
  | 58 => ("DynamicLogicProverModel", "levelMany", "[I", true)
  | 59 => ("DynamicLogicProverModel", "isOfUse", "[Z", true)
  | 60 => ("DynamicLogicProverModel", "isOfUseStill", "[Z", true)
  | 61 => ("DynamicLogicProverModel", "members", "I", false)
  | 62 => ("DynamicLogicProverModel", "member", "[I", true)
  | 63 => ("DynamicLogicProverModel", "memberOf", "[I", true)
  | 64 => ("DynamicLogicProverModel", "textFrom", "[I", true)
  | 65 => ("DynamicLogicProverModel", "sorted", "[I", true)
  | 66 => ("DynamicLogicProverModel", "classOf", "[I", true)
  | 67 => ("DynamicLogicProverModel", "classes", "I", false)
  | 68 => ("DynamicLogicProverModel", "written0", "[I", true)
  | 69 => ("DynamicLogicProverModel", "writtenMany", "I", false)
  | 70 => ("DynamicLogicProverModel", "changed", "[I", true)
  | 71 => ("DynamicLogicProverModel", "counterMany", "I", false)
  | 72 => ("DynamicLogicProverModel", "firstCounter", "I", false)
  | 73 => ("DynamicLogicProverModel", "types", "I", false)
  | 74 => ("DynamicLogicProverModel", "baseOf", "[I", true)
  | 75 => ("DynamicLogicProverModel", "oneOf", "[I", true)
  | 76 => ("DynamicLogicProverModel", "otherOf", "[I", true)
  | 77 => ("DynamicLogicProverModel", "trues", "[J", true)
  | 78 => ("DynamicLogicProverModel", "ends", "[J", true)
  | 79 => ("DynamicLogicProverModel", "left0", "[J", true)
  | 80 => ("DynamicLogicProverModel", "path", "[I", true)
  | 81 => ("DynamicLogicProverModel", "seenBy", "[I", true)
  | 82 => ("DynamicLogicProverModel", "search", "I", false)
  | 83 => ("DynamicLogicProverModel", "after", "[J", true)
  | 84 => ("DynamicLogicProverModel", "sorts", "[I", true)
  | 85 => ("DynamicLogicProverModel", "lengths", "[I", true)
  | 86 => ("DynamicLogicProverModel", "elements", "[J", true)
  | _ => ("DynamicLogicProverModel", "between", "[J", true)
def tyX12 : Nat → FieldType := fun k => match k with
  | 0 => .int
  | 1 => .array .int
  | 2 => .array .int
  | 3 => .int
  | 4 => .array .int
  | 5 => .array .int
  | 6 => .array .int
  | 7 => .int
  | 8 => .boolean
  | 9 => .int
  | 10 => .array .int
  | 11 => .array .int
  | 12 => .int
  | 13 => .array .int
  | 14 => .array .int
  | 15 => .int
  | 16 => .array .int
  | 17 => .array .int
  | 18 => .array .int
  | 19 => .array .int
  | 20 => .int
  | 21 => .array .int
  | 22 => .array .int
  | 23 => .array .int
  | 24 => .array .int
  | 25 => .array .int
  | 26 => .array .int
  | 27 => .array .byte
  | 28 => .int
  | 29 => .array .int
  | 30 => .int
  | 31 => .array .int
  | 32 => .int
  | 33 => .int
  | 34 => .int
  | 35 => .boolean
  | 36 => .boolean
  | 37 => .boolean
  | 38 => .boolean
  | 39 => .array .int
  | 40 => .array .int
  | 41 => .array .int
  | 42 => .int
  | 43 => .int
  | 44 => .array .int
  | 45 => .array .int
  | 46 => .array .int
  | 47 => .array .int
  | 48 => .array .int
  | 49 => .array .int
  | 50 => .array .boolean
  | 51 => .array .boolean
  | 52 => .array (.array .long)
  | 53 => .array (.array .long)
  | 54 => .array (.array .int)
  | 55 => .array (.array .long)
  | 56 => .array (.array .int)
  | 57 => .array .int
  | 58 => .array .int
  | 59 => .array .boolean
  | 60 => .array .boolean
  | 61 => .int
  | 62 => .array .int
  | 63 => .array .int
  | 64 => .array .int
  | 65 => .array .int
  | 66 => .array .int
  | 67 => .int
  | 68 => .array .int
  | 69 => .int
  | 70 => .array .int
  | 71 => .int
  | 72 => .int
  | 73 => .int
  | 74 => .array .int
  | 75 => .array .int
  | 76 => .array .int
  | 77 => .array .long
  | 78 => .array .long
  | 79 => .array .long
  | 80 => .array .int
  | 81 => .array .int
  | 82 => .int
  | 83 => .array .long
  | 84 => .array .int
  | 85 => .array .int
  | 86 => .array .long
  | _ => .array .long
abbrev wsX120 : List Cond := u_ws RX12 TX12 88
theorem nmX12 : ∀ a, a < 88 → ∀ b, b < 88 → a ≠ b → (TX12 a).2.1 ≠ (TX12 b).2.1 := by decide +kernel
theorem tyX12_ok : ∀ k, k < 88 → parseFieldDescriptor (TX12 k).2.2.1 = some (tyX12 k) := by decide +kernel
abbrev cX12_init : ByteArray := prog_14_method_1_code
def yX12_init : MethodName := ⟨RX12, "<init>", "()V"⟩
abbrev cX12_in : ByteArray := prog_14_method_3_code
def yX12_in : MethodName := ⟨RX12, "in", "(JJJ)Z"⟩
abbrev cX12_isWorld : ByteArray := prog_14_method_4_code
def yX12_isWorld : MethodName := ⟨RX12, "isWorld", "(I)Z"⟩
abbrev cX12_isFormula : ByteArray := prog_14_method_5_code
def yX12_isFormula : MethodName := ⟨RX12, "isFormula", "(I)Z"⟩
abbrev cX12_clearModel : ByteArray := prog_14_method_6_code
def yX12_clearModel : MethodName := ⟨RX12, "clearModel", "(I)V"⟩
abbrev cX12_setWorlds : ByteArray := prog_14_method_7_code
def yX12_setWorlds : MethodName := ⟨RX12, "setWorlds", "(I)I"⟩
abbrev cX12_setLetter : ByteArray := prog_14_method_8_code
def yX12_setLetter : MethodName := ⟨RX12, "setLetter", "(IIZ)I"⟩
abbrev cX12_setTransition : ByteArray := prog_14_method_9_code
def yX12_setTransition : MethodName := ⟨RX12, "setTransition", "(IIIZ)I"⟩
abbrev cX12_letters : ByteArray := prog_14_method_10_code
def yX12_letters : MethodName := ⟨RX12, "letters", "(I)I"⟩
abbrev cX12_successors : ByteArray := prog_14_method_11_code
def yX12_successors : MethodName := ⟨RX12, "successors", "(II)I"⟩
abbrev cX12_bitsOf : ByteArray := prog_14_method_12_code
def yX12_bitsOf : MethodName := ⟨RX12, "bitsOf", "(III)I"⟩
abbrev cX12_useOwn : ByteArray := prog_14_method_13_code
def yX12_useOwn : MethodName := ⟨RX12, "useOwn", "()V"⟩
abbrev cX12_useCode : ByteArray := prog_14_method_14_code
def yX12_useCode : MethodName := ⟨RX12, "useCode", "(IIII)V"⟩
abbrev cX12_becomeUsed : ByteArray := prog_14_method_15_code
def yX12_becomeUsed : MethodName := ⟨RX12, "becomeUsed", "()V"⟩
abbrev cX12_loadModel : ByteArray := prog_14_method_16_code
def yX12_loadModel : MethodName := ⟨RX12, "loadModel", "(IIII)I"⟩
abbrev cX12_findGroups : ByteArray := prog_14_method_17_code
def yX12_findGroups : MethodName := ⟨RX12, "findGroups", "()I"⟩
abbrev cX12_bisimulationClasses : ByteArray := prog_14_method_18_code
def yX12_bisimulationClasses : MethodName := ⟨RX12, "bisimulationClasses", "()I"⟩
abbrev cX12_bisimulationClass : ByteArray := prog_14_method_19_code
def yX12_bisimulationClass : MethodName := ⟨RX12, "bisimulationClass", "(I)I"⟩
abbrev cX12_operandsOf : ByteArray := prog_14_method_20_code
def yX12_operandsOf : MethodName := ⟨RX12, "operandsOf", "(I)I"⟩
abbrev cX12_node : ByteArray := prog_14_method_21_code
def yX12_node : MethodName := ⟨RX12, "node", "(III)I"⟩
abbrev cX12_leaf : ByteArray := prog_14_method_22_code
def yX12_leaf : MethodName := ⟨RX12, "leaf", "(I)I"⟩
abbrev cX12_not : ByteArray := prog_14_method_23_code
def yX12_not : MethodName := ⟨RX12, "not", "(I)I"⟩
abbrev cX12_and : ByteArray := prog_14_method_24_code
def yX12_and : MethodName := ⟨RX12, "and", "(II)I"⟩
abbrev cX12_loaded : ByteArray := prog_14_method_25_code
def yX12_loaded : MethodName := ⟨RX12, "loaded", "(I)I"⟩
abbrev cX12_open : ByteArray := prog_14_method_26_code
def yX12_open : MethodName := ⟨RX12, "open", "(I)I"⟩
abbrev cX12_keep : ByteArray := prog_14_method_27_code
def yX12_keep : MethodName := ⟨RX12, "keep", "(I)I"⟩
abbrev cX12_writeText : ByteArray := prog_14_method_28_code
def yX12_writeText : MethodName := ⟨RX12, "writeText", "(I)V"⟩
abbrev cX12_compareTexts : ByteArray := prog_14_method_29_code
def yX12_compareTexts : MethodName := ⟨RX12, "compareTexts", "(IIII)I"⟩
abbrev cX12_compareNodes : ByteArray := prog_14_method_30_code
def yX12_compareNodes : MethodName := ⟨RX12, "compareNodes", "(II)I"⟩
abbrev cX12_formulaSize : ByteArray := prog_14_method_31_code
def yX12_formulaSize : MethodName := ⟨RX12, "formulaSize", "(I)I"⟩
abbrev cX12_starHeight : ByteArray := prog_14_method_32_code
def yX12_starHeight : MethodName := ⟨RX12, "starHeight", "(I)I"⟩
abbrev cX12_textOf : ByteArray := prog_14_method_33_code
def yX12_textOf : MethodName := ⟨RX12, "textOf", "(I)I"⟩
abbrev cX12_textLength : ByteArray := prog_14_method_34_code
def yX12_textLength : MethodName := ⟨RX12, "textLength", "(I)I"⟩
abbrev cX12_textChar : ByteArray := prog_14_method_35_code
def yX12_textChar : MethodName := ⟨RX12, "textChar", "(II)I"⟩
abbrev cX12_compareFormulas : ByteArray := prog_14_method_36_code
def yX12_compareFormulas : MethodName := ⟨RX12, "compareFormulas", "(II)I"⟩
abbrev cX12_appendChar : ByteArray := prog_14_method_37_code
def yX12_appendChar : MethodName := ⟨RX12, "appendChar", "(I)I"⟩
abbrev cX12_here : ByteArray := prog_14_method_38_code
def yX12_here : MethodName := ⟨RX12, "here", "()I"⟩
abbrev cX12_topSign : ByteArray := prog_14_method_39_code
def yX12_topSign : MethodName := ⟨RX12, "topSign", "()I"⟩
abbrev cX12_openSign : ByteArray := prog_14_method_40_code
def yX12_openSign : MethodName := ⟨RX12, "openSign", "(I)V"⟩
abbrev cX12_pushValue : ByteArray := prog_14_method_41_code
def yX12_pushValue : MethodName := ⟨RX12, "pushValue", "(I)V"⟩
abbrev cX12_workTop : ByteArray := prog_14_method_42_code
def yX12_workTop : MethodName := ⟨RX12, "workTop", "()V"⟩
abbrev cX12_partEnds : ByteArray := prog_14_method_43_code
def yX12_partEnds : MethodName := ⟨RX12, "partEnds", "()V"⟩
abbrev cX12_readOperand : ByteArray := prog_14_method_44_code
def yX12_readOperand : MethodName := ⟨RX12, "readOperand", "()V"⟩
abbrev cX12_readBehindFormula : ByteArray := prog_14_method_45_code
def yX12_readBehindFormula : MethodName := ⟨RX12, "readBehindFormula", "()V"⟩
abbrev cX12_readBehindProgram : ByteArray := prog_14_method_46_code
def yX12_readBehindProgram : MethodName := ⟨RX12, "readBehindProgram", "()V"⟩
abbrev cX12_parseFormula : ByteArray := prog_14_method_47_code
def yX12_parseFormula : MethodName := ⟨RX12, "parseFormula", "()I"⟩
abbrev cX12_dropFormula : ByteArray := prog_14_method_48_code
def yX12_dropFormula : MethodName := ⟨RX12, "dropFormula", "()I"⟩
abbrev cX12_through : ByteArray := prog_14_method_49_code
def yX12_through : MethodName := ⟨RX12, "through", "(I[II)I"⟩
abbrev cX12_evaluate : ByteArray := prog_14_method_50_code
def yX12_evaluate : MethodName := ⟨RX12, "evaluate", "(I)V"⟩
abbrev cX12_evaluateAll : ByteArray := prog_14_method_51_code
def yX12_evaluateAll : MethodName := ⟨RX12, "evaluateAll", "()V"⟩
abbrev cX12_look : ByteArray := prog_14_method_52_code
def yX12_look : MethodName := ⟨RX12, "look", "(I)I"⟩
abbrev cX12_holds : ByteArray := prog_14_method_53_code
def yX12_holds : MethodName := ⟨RX12, "holds", "(II)I"⟩
abbrev cX12_extension : ByteArray := prog_14_method_54_code
def yX12_extension : MethodName := ⟨RX12, "extension", "(I)I"⟩
abbrev cX12_distinguish : ByteArray := prog_14_method_55_code
def yX12_distinguish : MethodName := ⟨RX12, "distinguish", "(II)I"⟩
abbrev cX12_addEdge : ByteArray := prog_14_method_56_code
def yX12_addEdge : MethodName := ⟨RX12, "addEdge", "(IIII)V"⟩
abbrev cX12_makeNet : ByteArray := prog_14_method_57_code
def yX12_makeNet : MethodName := ⟨RX12, "makeNet", "(I)V"⟩
abbrev cX12_isStill : ByteArray := prog_14_method_58_code
def yX12_isStill : MethodName := ⟨RX12, "isStill", "(II)Z"⟩
abbrev cX12_findDues : ByteArray := prog_14_method_59_code
def yX12_findDues : MethodName := ⟨RX12, "findDues", "(I)V"⟩
abbrev cX12_wrongRun : ByteArray := prog_14_method_60_code
def yX12_wrongRun : MethodName := ⟨RX12, "wrongRun", "(III)I"⟩
abbrev cX12_reach : ByteArray := prog_14_method_61_code
def yX12_reach : MethodName := ⟨RX12, "reach", "(II)I"⟩
abbrev cX12_runSteps : ByteArray := prog_14_method_62_code
def yX12_runSteps : MethodName := ⟨RX12, "runSteps", "(III)I"⟩
abbrev cX12_goStill : ByteArray := prog_14_method_63_code
def yX12_goStill : MethodName := ⟨RX12, "goStill", "(I)V"⟩
abbrev cX12_goBy : ByteArray := prog_14_method_64_code
def yX12_goBy : MethodName := ⟨RX12, "goBy", "(I)Z"⟩
abbrev cX12_takeNext : ByteArray := prog_14_method_65_code
def yX12_takeNext : MethodName := ⟨RX12, "takeNext", "()V"⟩
abbrev cX12_beginAt : ByteArray := prog_14_method_66_code
def yX12_beginAt : MethodName := ⟨RX12, "beginAt", "(I)V"⟩
abbrev cX12_firstStep : ByteArray := prog_14_method_67_code
def yX12_firstStep : MethodName := ⟨RX12, "firstStep", "(II)I"⟩
abbrev cX12_runStep : ByteArray := prog_14_method_68_code
def yX12_runStep : MethodName := ⟨RX12, "runStep", "(IIIII)I"⟩
abbrev cX12_clearLevel : ByteArray := prog_14_method_69_code
def yX12_clearLevel : MethodName := ⟨RX12, "clearLevel", "(I)V"⟩
abbrev cX12_use : ByteArray := prog_14_method_70_code
def yX12_use : MethodName := ⟨RX12, "use", "(III)I"⟩
abbrev cX12_isStepOfUse : ByteArray := prog_14_method_71_code
def yX12_isStepOfUse : MethodName := ⟨RX12, "isStepOfUse", "(III)Z"⟩
abbrev cX12_layUses : ByteArray := prog_14_method_72_code
def yX12_layUses : MethodName := ⟨RX12, "layUses", "(II)V"⟩
abbrev cX12_twiceLongs : ByteArray := prog_14_method_73_code
def yX12_twiceLongs : MethodName := ⟨RX12, "twiceLongs", "([J)[J"⟩
abbrev cX12_twiceInts : ByteArray := prog_14_method_74_code
def yX12_twiceInts : MethodName := ⟨RX12, "twiceInts", "([I)[I"⟩
abbrev cX12_grow : ByteArray := prog_14_method_75_code
def yX12_grow : MethodName := ⟨RX12, "grow", "(I)V"⟩
abbrev cX12_addTo : ByteArray := prog_14_method_76_code
def yX12_addTo : MethodName := ⟨RX12, "addTo", "(IIIJ)V"⟩
abbrev cX12_takeFrom : ByteArray := prog_14_method_77_code
def yX12_takeFrom : MethodName := ⟨RX12, "takeFrom", "(II)V"⟩
abbrev cX12_runCount : ByteArray := prog_14_method_78_code
def yX12_runCount : MethodName := ⟨RX12, "runCount", "(IIII)J"⟩
abbrev cX12_iterations : ByteArray := prog_14_method_79_code
def yX12_iterations : MethodName := ⟨RX12, "iterations", "(III)I"⟩
abbrev cX12_cycles : ByteArray := prog_14_method_80_code
def yX12_cycles : MethodName := ⟨RX12, "cycles", "(I)I"⟩
abbrev cX12_addMember : ByteArray := prog_14_method_81_code
def yX12_addMember : MethodName := ⟨RX12, "addMember", "(I)V"⟩
abbrev cX12_firstOf : ByteArray := prog_14_method_82_code
def yX12_firstOf : MethodName := ⟨RX12, "firstOf", "(I)I"⟩
abbrev cX12_secondOf : ByteArray := prog_14_method_83_code
def yX12_secondOf : MethodName := ⟨RX12, "secondOf", "(I)I"⟩
abbrev cX12_findClosure : ByteArray := prog_14_method_84_code
def yX12_findClosure : MethodName := ⟨RX12, "findClosure", "(I)V"⟩
abbrev cX12_isAhead : ByteArray := prog_14_method_85_code
def yX12_isAhead : MethodName := ⟨RX12, "isAhead", "(II)Z"⟩
abbrev cX12_sortMembers : ByteArray := prog_14_method_86_code
def yX12_sortMembers : MethodName := ⟨RX12, "sortMembers", "()V"⟩
abbrev cX12_isBase : ByteArray := prog_14_method_87_code
def yX12_isBase : MethodName := ⟨RX12, "isBase", "(I)Z"⟩
abbrev cX12_findBase : ByteArray := prog_14_method_88_code
def yX12_findBase : MethodName := ⟨RX12, "findBase", "()I"⟩
abbrev cX12_close : ByteArray := prog_14_method_89_code
def yX12_close : MethodName := ⟨RX12, "close", "(I)I"⟩
abbrev cX12_closureSize : ByteArray := prog_14_method_90_code
def yX12_closureSize : MethodName := ⟨RX12, "closureSize", "(I)I"⟩
abbrev cX12_baseMembers : ByteArray := prog_14_method_91_code
def yX12_baseMembers : MethodName := ⟨RX12, "baseMembers", "(I)I"⟩
abbrev cX12_closureIndex : ByteArray := prog_14_method_92_code
def yX12_closureIndex : MethodName := ⟨RX12, "closureIndex", "(II)I"⟩
abbrev cX12_storeMember : ByteArray := prog_14_method_93_code
def yX12_storeMember : MethodName := ⟨RX12, "storeMember", "(II)I"⟩
abbrev cX12_lookClosed : ByteArray := prog_14_method_94_code
def yX12_lookClosed : MethodName := ⟨RX12, "lookClosed", "(I)I"⟩
abbrev cX12_trueMembers : ByteArray := prog_14_method_95_code
def yX12_trueMembers : MethodName := ⟨RX12, "trueMembers", "(II)I"⟩
abbrev cX12_findClasses : ByteArray := prog_14_method_96_code
def yX12_findClasses : MethodName := ⟨RX12, "findClasses", "(I)V"⟩
abbrev cX12_useClasses : ByteArray := prog_14_method_97_code
def yX12_useClasses : MethodName := ⟨RX12, "useClasses", "(I)V"⟩
abbrev cX12_filterClasses : ByteArray := prog_14_method_98_code
def yX12_filterClasses : MethodName := ⟨RX12, "filterClasses", "(I)I"⟩
abbrev cX12_filterClass : ByteArray := prog_14_method_99_code
def yX12_filterClass : MethodName := ⟨RX12, "filterClass", "(II)I"⟩
abbrev cX12_filterSuccessors : ByteArray := prog_14_method_100_code
def yX12_filterSuccessors : MethodName := ⟨RX12, "filterSuccessors", "(III)I"⟩
abbrev cX12_filterHolds : ByteArray := prog_14_method_101_code
def yX12_filterHolds : MethodName := ⟨RX12, "filterHolds", "(III)I"⟩
abbrev cX12_applyFilter : ByteArray := prog_14_method_102_code
def yX12_applyFilter : MethodName := ⟨RX12, "applyFilter", "(I)I"⟩
abbrev cX12_put : ByteArray := prog_14_method_103_code
def yX12_put : MethodName := ⟨RX12, "put", "(I)V"⟩
abbrev cX12_endOf : ByteArray := prog_14_method_104_code
def yX12_endOf : MethodName := ⟨RX12, "endOf", "(I)I"⟩
abbrev cX12_putPart : ByteArray := prog_14_method_105_code
def yX12_putPart : MethodName := ⟨RX12, "putPart", "(I)V"⟩
abbrev cX12_keepWritten : ByteArray := prog_14_method_106_code
def yX12_keepWritten : MethodName := ⟨RX12, "keepWritten", "()I"⟩
abbrev cX12_unfold : ByteArray := prog_14_method_107_code
def yX12_unfold : MethodName := ⟨RX12, "unfold", "(I)I"⟩
abbrev cX12_bounded : ByteArray := prog_14_method_108_code
def yX12_bounded : MethodName := ⟨RX12, "bounded", "(II)I"⟩
abbrev cX12_unroll : ByteArray := prog_14_method_109_code
def yX12_unroll : MethodName := ⟨RX12, "unroll", "(II)I"⟩
abbrev cX12_searchSpace : ByteArray := prog_14_method_110_code
def yX12_searchSpace : MethodName := ⟨RX12, "searchSpace", "(IIII)I"⟩
abbrev cX12_counterModels : ByteArray := prog_14_method_111_code
def yX12_counterModels : MethodName := ⟨RX12, "counterModels", "(IIII)I"⟩
abbrev cX12_firstCounterModel : ByteArray := prog_14_method_112_code
def yX12_firstCounterModel : MethodName := ⟨RX12, "firstCounterModel", "(IIII)I"⟩
abbrev cX12_has : ByteArray := prog_14_method_113_code
def yX12_has : MethodName := ⟨RX12, "has", "([JII)Z"⟩
abbrev cX12_set : ByteArray := prog_14_method_114_code
def yX12_set : MethodName := ⟨RX12, "set", "([JII)V"⟩
abbrev cX12_findParts : ByteArray := prog_14_method_115_code
def yX12_findParts : MethodName := ⟨RX12, "findParts", "()V"⟩
abbrev cX12_isBoxTrue : ByteArray := prog_14_method_116_code
def yX12_isBoxTrue : MethodName := ⟨RX12, "isBoxTrue", "(II)Z"⟩
abbrev cX12_findTrues : ByteArray := prog_14_method_117_code
def yX12_findTrues : MethodName := ⟨RX12, "findTrues", "()V"⟩
abbrev cX12_findAfter : ByteArray := prog_14_method_118_code
def yX12_findAfter : MethodName := ⟨RX12, "findAfter", "(II)V"⟩
abbrev cX12_moreEnds : ByteArray := prog_14_method_119_code
def yX12_moreEnds : MethodName := ⟨RX12, "moreEnds", "()Z"⟩
abbrev cX12_takeAway : ByteArray := prog_14_method_120_code
def yX12_takeAway : MethodName := ⟨RX12, "takeAway", "()Z"⟩
abbrev cX12_canBe : ByteArray := prog_14_method_121_code
def yX12_canBe : MethodName := ⟨RX12, "canBe", "(IZ)I"⟩
abbrev cX12_isValid : ByteArray := prog_14_method_122_code
def yX12_isValid : MethodName := ⟨RX12, "isValid", "(I)I"⟩
abbrev cX12_isSatisfiable : ByteArray := prog_14_method_123_code
def yX12_isSatisfiable : MethodName := ⟨RX12, "isSatisfiable", "(I)I"⟩
abbrev cX12_entails : ByteArray := prog_14_method_124_code
def yX12_entails : MethodName := ⟨RX12, "entails", "(II)I"⟩
abbrev cX12_compare : ByteArray := prog_14_method_125_code
def yX12_compare : MethodName := ⟨RX12, "compare", "(II)I"⟩
abbrev cX12_save : ByteArray := prog_14_method_126_code
def yX12_save : MethodName := ⟨RX12, "save", "()I"⟩
abbrev cX12_restore : ByteArray := prog_14_method_127_code
def yX12_restore : MethodName := ⟨RX12, "restore", "()I"⟩
abbrev cX12_count : ByteArray := prog_14_method_128_code
def yX12_count : MethodName := ⟨RX12, "count", "(I)I"⟩
abbrev cX12_allocate : ByteArray := prog_14_method_129_code
def yX12_allocate : MethodName := ⟨RX12, "allocate", "(III)I"⟩
abbrev cX12_narrowed : ByteArray := prog_14_method_130_code
def yX12_narrowed : MethodName := ⟨RX12, "narrowed", "(IJ)J"⟩
abbrev cX12_store : ByteArray := prog_14_method_131_code
def yX12_store : MethodName := ⟨RX12, "store", "(IIJ)I"⟩
abbrev cX12_load : ByteArray := prog_14_method_132_code
def yX12_load : MethodName := ⟨RX12, "load", "(II)J"⟩
abbrev cX12_copy : ByteArray := prog_14_method_133_code
def yX12_copy : MethodName := ⟨RX12, "copy", "(IIIII)I"⟩
def RJ6 : String := "java/lang/Integer"
def TJ6 : u_T := fun k => match k with
  | _ => ("", "", "", false)
def tyJ6 : Nat → FieldType := fun k => match k with
  | _ => .int
abbrev wsJ60 : List Cond := u_ws RJ6 TJ6 0
theorem nmJ6 : ∀ a, a < 0 → ∀ b, b < 0 → a ≠ b → (TJ6 a).2.1 ≠ (TJ6 b).2.1 := by decide +kernel
theorem tyJ6_ok : ∀ k, k < 0 → parseFieldDescriptor (TJ6 k).2.2.1 = some (tyJ6 k) := by decide +kernel
abbrev cJ6_compare_7cf53 : ByteArray := prog_15_method_40_code
def yJ6_compare_7cf53 : MethodName := ⟨RJ6, "compare", "(II)I"⟩
abbrev cJ6_bitCount_0f7a4 : ByteArray := prog_15_method_49_code
def yJ6_bitCount_0f7a4 : MethodName := ⟨RJ6, "bitCount", "(I)I"⟩
def RJ9 : String := "java/lang/Math"
def TJ9 : u_T := fun k => match k with
  | _ => ("", "", "", false)
def tyJ9 : Nat → FieldType := fun k => match k with
  | _ => .int
abbrev wsJ90 : List Cond := u_ws RJ9 TJ9 0
theorem nmJ9 : ∀ a, a < 0 → ∀ b, b < 0 → a ≠ b → (TJ9 a).2.1 ≠ (TJ9 b).2.1 := by decide +kernel
theorem tyJ9_ok : ∀ k, k < 0 → parseFieldDescriptor (TJ9 k).2.2.1 = some (tyJ9 k) := by decide +kernel
abbrev cJ9_max_7cf53 : ByteArray := prog_16_method_65_code
def yJ9_max_7cf53 : MethodName := ⟨RJ9, "max", "(II)I"⟩
abbrev cJ9_min_7cf53 : ByteArray := prog_16_method_69_code
def yJ9_min_7cf53 : MethodName := ⟨RJ9, "min", "(II)I"⟩
def RJ10 : String := "java/lang/System"
def TJ10 : u_T := fun k => match k with
  | _ => ("", "", "", false)
def tyJ10 : Nat → FieldType := fun k => match k with
  | _ => .int
abbrev wsJ100 : List Cond := u_ws RJ10 TJ10 0
theorem nmJ10 : ∀ a, a < 0 → ∀ b, b < 0 → a ≠ b → (TJ10 a).2.1 ≠ (TJ10 b).2.1 := by decide +kernel
theorem tyJ10_ok : ∀ k, k < 0 → parseFieldDescriptor (TJ10 k).2.2.1 = some (tyJ10 k) := by decide +kernel
def RJ7 : String := "java/util/Arrays"
def TJ7 : u_T := fun k => match k with
  | _ => ("", "", "", false)
def tyJ7 : Nat → FieldType := fun k => match k with
  | _ => .int
abbrev wsJ70 : List Cond := u_ws RJ7 TJ7 0
theorem nmJ7 : ∀ a, a < 0 → ∀ b, b < 0 → a ≠ b → (TJ7 a).2.1 ≠ (TJ7 b).2.1 := by decide +kernel
theorem tyJ7_ok : ∀ k, k < 0 → parseFieldDescriptor (TJ7 k).2.2.1 = some (tyJ7 k) := by decide +kernel
abbrev cJ7_fill_d0a16 : ByteArray := prog_18_method_101_code
def yJ7_fill_d0a16 : MethodName := ⟨RJ7, "fill", "([JJ)V"⟩
abbrev cJ7_fill_53178 : ByteArray := prog_18_method_103_code
def yJ7_fill_53178 : MethodName := ⟨RJ7, "fill", "([II)V"⟩
def RL : String := "DynamicLogicProverLaw"
abbrev cL_law : ByteArray := code
def yL_law : MethodName := ⟨RL, "law", "([I)Z"⟩
end
section
/-! ===== order of ints, in all its forms, and through longs ===== -/
theorem fa_lt (a b : Int32) : a < b ↔ a.toInt < b.toInt := Int32.lt_iff_toInt_lt
theorem fa_le (a b : Int32) : a ≤ b ↔ a.toInt ≤ b.toInt := Int32.le_iff_toInt_le
theorem fa_eq (a b : Int32) : a = b ↔ a.toInt = b.toInt := Int32.toInt_inj.symm
theorem fa_lt64 (a b : Int64) : a < b ↔ a.toInt < b.toInt := Int64.lt_iff_toInt_lt
theorem fa_le64 (a b : Int64) : a ≤ b ↔ a.toInt ≤ b.toInt := Int64.le_iff_toInt_le
theorem fa_eq64 (a b : Int64) : a = b ↔ a.toInt = b.toInt := Int64.toInt_inj.symm
/-- a comparison of two ints taken as longs -/
theorem fa_wide_lt (a b : Int32) : a.toInt64 < b.toInt64 ↔ a < b := by rw [fa_lt64, fa_lt, Int32.toInt_toInt64, Int32.toInt_toInt64]
theorem fa_wide_le (a b : Int32) : a.toInt64 ≤ b.toInt64 ↔ a ≤ b := by rw [fa_le64, fa_le, Int32.toInt_toInt64, Int32.toInt_toInt64]
theorem fa_wide_eq (a b : Int32) : a.toInt64 = b.toInt64 ↔ a = b := by rw [fa_eq64, fa_eq, Int32.toInt_toInt64, Int32.toInt_toInt64]
/-- one strict comparison gives all the others -/
theorem fa_of_lt {a b : Int32} (h : a < b) : a ≤ b ∧ ¬ b ≤ a ∧ ¬ b < a ∧ a ≠ b ∧ b ≠ a := by
  rw [fa_lt] at h
  refine ⟨?_, ?_, ?_, ?_, ?_⟩
  · rw [fa_le]; omega
  · rw [fa_le]; omega
  · rw [fa_lt]; omega
  · intro e; rw [fa_eq] at e; omega
  · intro e; rw [fa_eq] at e; omega
theorem fa_of_nlt {a b : Int32} (h : ¬ a < b) : b ≤ a := by
  rw [fa_lt] at h
  rw [fa_le]
  omega
theorem fa_of_nle {a b : Int32} (h : ¬ a ≤ b) : b < a := by
  rw [fa_le] at h
  rw [fa_lt]
  omega
theorem fa_le_ne {a b : Int32} (h : a ≤ b) (h2 : a ≠ b) : a < b := by
  rw [fa_le] at h
  rw [fa_lt]
  have h3 : a.toInt ≠ b.toInt := fun e => h2 ((fa_eq a b).mpr e)
  omega
theorem fa_three (a b : Int32) : a < b ∨ a = b ∨ b < a := by
  rw [fa_lt, fa_lt, fa_eq]
  omega
theorem fa_trans {a b c : Int32} (h : a < b) (h2 : b ≤ c) : a < c := by
  rw [fa_lt] at *
  rw [fa_le] at h2
  omega
abbrev vwCl : List vw_C := [(RX0, TX0, 3), (RX1, TX1, 6), (RX2, TX2, 13), (RX3, TX3, 3), (RX4, TX4, 8), (RX5, TX5, 5), (RX6, TX6, 12), (RX7, TX7, 3), (RX8, TX8, 15), (RX9, TX9, 4), (RX10, TX10, 5), (RX11, TX11, 17), (RX12, TX12, 88)]
abbrev nwT : List (String × Nat × MethodName) := [(RX0, 28, yX11_at), (RX0, 32, yX11_put), (RX0, 36, yX11_putWide), (RX0, 40, yX11_wideAt), (RX1, 32, yX11_at), (RX1, 43, yX11_isBaseForm), (RX1, 47, yX11_bit), (RX1, 65, yX11_put), (RX2, 44, yX11_wideAt), (RX2, 48, yX11_at), (RX2, 79, yX11_putWide), (RX2, 107, yX11_put), (RX2, 120, yX11_isBaseForm), (RX3, 34, yX11_at), (RX3, 38, yX11_put), (RX4, 42, yX11_at), (RX4, 66, yX11_put), (RX5, 28, yX11_at), (RX5, 44, yX11_put), (RX6, 55, yX11_at), (RX6, 83, yX11_put), (RX7, 26, yX11_at), (RX7, 36, yX11_put), (RX8, 95, yX11_put), (RX8, 120, yX11_putWide), (RX8, 127, yX11_wideAt), (RX8, 156, yX11_at), (RX9, 25, yX11_at), (RX9, 41, yX11_put), (RX10, 22, yX11_at), (RX10, 26, yX11_put)]
theorem kg_V {big ws : List Cond} {own C : String} {idx : Nat} {y : MethodName} (h1 : Cond.methodLink own idx y ∈ big) (h2 : Cond.instanceMethod y ∈ big) (h3 : Cond.selects C y y ∈ big) (h4 : Cond.initialized C ∈ big) (hw : GoodIn big ws) : GoodIn big (wsV own idx C y ws) := by
  intro w h
  rcases List.mem_append.mp h with h | h
  · simp only [List.mem_cons, List.not_mem_nil, or_false] at h
    rcases h with rfl | rfl | rfl | rfl
    · exact ⟨h1, Or.inl rfl⟩
    · exact ⟨h2, Or.inl rfl⟩
    · exact ⟨h3, Or.inl rfl⟩
    · exact ⟨h4, Or.inl rfl⟩
  · exact hw w h
theorem kg_S {big ws : List Cond} {own : String} {idx : Nat} {y : MethodName} (h1 : Cond.methodLink own idx y ∈ big) (h2 : Cond.static y ∈ big) (h4 : Cond.initialized y.cls ∈ big) (hw : GoodIn big ws) : GoodIn big (va_wsS own idx y ws) := by
  intro w h
  rcases List.mem_append.mp h with h | h
  · simp only [List.mem_cons, List.not_mem_nil, or_false] at h
    rcases h with rfl | rfl | rfl
    · exact ⟨h1, Or.inl rfl⟩
    · exact ⟨h2, Or.inl rfl⟩
    · exact ⟨h4, Or.inl rfl⟩
  · exact hw w h
/-- the words of nest mates' calls, by class and entry -/
def nw_ok (U : State) : Prop := ∀ t ∈ nwT, va_Nw (.methodLinkNest t.1 t.2.1 t.2.2 RX11) U
theorem nw_warm {s U : State} (hW : s.WarmedH U.vm) (h : nw_ok s) : nw_ok U := fun t ht => va_Nw.warmM hW (h t ht)
theorem nw_same {u U : State} (hv : u.vm = U.vm) (h : nw_ok u) : nw_ok U := fun t ht => va_Nw.same rfl hv (h t ht)
def kc_pre (D : va_G) (tc : List (ClassId × FieldType)) (wc : va_W) (sz : Nat) (U : State) : Prop := U.heap.size = sz ∧ va_P D vwCl wc U.heap ∧ va_K D vwCl tc U ∧ nw_ok U ∧ va_D (fun _ => True) wc
def kc_pos (D : va_G) (A : Nat → Prop) (w1 : va_W) (t1 : List (ClassId × FieldType)) (t : State) : Prop := va_P D vwCl w1 t.heap ∧ va_K D vwCl t1 t ∧ va_D A w1
theorem kc_blind {av : List Value} {D : va_G} {tc : List (ClassId × FieldType)} {wc : va_W} {sz : Nat} : FrameBlind (va_Pc av (kc_pre D tc wc sz)) := fun a U g mk q => by
  obtain ⟨q0, q1, qP, qK, qN, qD⟩ := q
  exact ⟨q0, q1, qP, va_K.moved (u := U) (U := U.calling g mk a) (Vm.Alike.refl U.vm) qK, nw_same rfl qN, qD⟩
theorem kc_at {av : List Value} {D : va_G} {tc : List (ClassId × FieldType)} {wc : va_W} {s : State} {H : Heap} {A : Nat → Prop} (hP : va_P D vwCl wc H) (hK : va_K D vwCl tc s) (hN : nw_ok s) (hD : va_D A wc) : ∀ U : State, U.heap = H → s.WarmedH U.vm → va_Pc av (kc_pre D tc wc H.size) av.toArray U := fun U hU hW =>
  ⟨rfl, by rw [hU], by rw [hU]; exact hP, va_K.moved hW.alike hK, nw_warm hW hN, hD.weaken (fun _ _ _ _ => trivial)⟩
section KC
variable {p : Program} {l : Launch} {e : Env} {R : Room} {s : State} {m : MethodId} {args : Array Value} {below : List Frame} {meth : Method} {c : Code} {H : Heap} {locs : List Loc} {cells slots : Nat} {Q : State → Prop}
variable {cc bytes : ByteArray} {nL maxL index n mc ms pc : Nat} {own C host : String} {y : MethodName} {ret : Option FieldType} {ws0 : List Cond} {rm : Room} {Ts : List Cond} {ls : Array Slot} {As rest st : List Value} {b : Nat} {D : va_G} {A : Nat → Prop} {H0 : Heap} {ws wc wr : va_W} {tys tc : List (ClassId × FieldType)} {S : Type} {w1 : S → va_W} {t1 : S → List (ClassId × FieldType)}
/-- a piece of the world by places -/
theorem kc_cut {isC : List Nat} (hP : va_P D vwCl ws H) (hC : isC.map (fun i => ws[i]?) = wc.map some) : va_P D vwCl wc H := by
  intro k q hq
  have h1 : (isC.map (fun i => ws[i]?))[k]? = some (some q) := by rw [hC, List.getElem?_map, hq]; rfl
  rw [List.getElem?_map] at h1
  cases hi : isC[k]? with
  | none => rw [hi] at h1; cases h1
  | some i => rw [hi] at h1; exact hP i q (Option.some.inj h1)
theorem kc_fin {t : State} {H1 : Heap} {u : S} {isC isR : List Nat} (hP : va_P D vwCl ws H) (hD : va_D A ws) (hS : va_S A H0 H locs) (hA : ∀ q, H0.size ≤ q → A q) (hC : isC.map (fun i => ws[i]?) = wc.map some) (hR : isR.map (fun i => ws[i]?) = wr.map some) (hn : va_nd isR = true) (hdis : ∀ i ∈ isR, i ∉ isC) (ht : t.heap = H1) (hvm : s.vm.Alike t.vm) (hB : kc_pos D (va_A wc H.size) (w1 u) (t1 u) t) (hk1 : ∀ q : Nat, q < H.size → ¬ va_A wc H.size q → H1[q]? = H[q]?) : va_P D vwCl (wr ++ w1 u) H1 ∧ va_D A (wr ++ w1 u) ∧ va_K D vwCl (t1 u) s := by
  obtain ⟨hP1, hK1, hD1⟩ := hB
  rw [ht] at hP1
  obtain ⟨a1, a2⟩ := va_join hP hD isC isR hC hR hn hdis hk1 (va_free hD hS hA isC hC) hP1 hD1
  exact ⟨a1, a2, va_K.moved hvm.symm hK1⟩
theorem kc_Vi {post : Int32 → S → Prop} (Sx : CallFix p m c cc nL s args Ts own) (hM : Met l y ws0 rm (va_Pc (.ref b :: As) (kc_pre D tc wc H.size)) (va_Qi post (fun u t => kc_pos D (va_A wc H.size) (w1 u) (t1 u) t) (va_A wc H.size)) mc ms (va_A wc H.size)) (cw : CallW R s args own C index y bytes maxL ret ws0 rm mc ms n) (q : vw_C) (ci q0 : Nat) {fs : List Value} (hcl : vwCl[ci]? = some q) (hqC : q.1 = C) (hq0 : ws[q0]? = some (b, .inr (ci, fs))) (hK : va_K D vwCl tys s) (hN : nw_ok s) (hP : va_P D vwCl ws H) (hD : va_D A ws) (hS : va_S A H0 H locs) (hA : ∀ q, H0.size ≤ q → A q) (isC isR isT : List Nat) (hC : isC.map (fun i => ws[i]?) = wc.map some) (hR : isR.map (fun i => ws[i]?) = wr.map some) (hnC : va_nd isC = true) (hn : va_nd isR = true) (hdis : ∀ i ∈ isR, i ∉ isC) (hT : isT.filterMap (fun i => tys[i]?) = tc) (hlen : As.length = n) (hl : ls.size = nL) (hst : st = As.reverse ++ .ref b :: rest) (hW : (rest.map fun v => v.category).sum ≤ 8) (hdg : decode cc pc = .ok (.invokevirtual index, 3)) (hf : cells + mc ≤ R.cells ∧ slots + ms ≤ R.slots)
    (kk : ∀ (r : Int32) (u : S) (H1 : Heap) (locs1 : List Loc), post r u → va_P D vwCl (wr ++ w1 u) H1 → va_D A (wr ++ w1 u) → va_K D vwCl (t1 u) s → va_S A H0 H1 locs1 → W p l e R s m args below meth c H1 locs1 (cells + mc) (slots + ms) Q (F0 m (pc + 3) ls (.int r :: rest))) : W p l e R s m args below meth c H locs cells slots Q (F0 m pc ls st) := by
  have hPc := kc_cut hP hC
  have hDc := hD.sub isC hnC hC
  have hKc := hK.sub isT hT
  refine va_calli (va_runV Sx hM cw ⟨kc_blind, by rw [← hqC]; exact va_recv hK hP hcl hq0, kc_at (av := .ref b :: As) hPc hKc hN hDc⟩ rfl hlen hl hst (lv_room hW) hdg hf) hS (fun q _ h => va_free hD hS hA isC hC q h) (va_free hD hS hA isC hC) (fun r u t H1 locs1 ht hvm hw hB hz1 hk1 hS1 => ?_)
  obtain ⟨a1, a2, a3⟩ := kc_fin (u := u) (t1 := t1) hP hD hS hA hC hR hn hdis ht hvm hB hk1
  exact kk r u H1 locs1 hw a1 a2 a3 hS1
theorem kc_Vl {post : Int64 → S → Prop} (Sx : CallFix p m c cc nL s args Ts own) (hM : Met l y ws0 rm (va_Pc (.ref b :: As) (kc_pre D tc wc H.size)) (va_Ql post (fun u t => kc_pos D (va_A wc H.size) (w1 u) (t1 u) t) (va_A wc H.size)) mc ms (va_A wc H.size)) (cw : CallW R s args own C index y bytes maxL ret ws0 rm mc ms n) (q : vw_C) (ci q0 : Nat) {fs : List Value} (hcl : vwCl[ci]? = some q) (hqC : q.1 = C) (hq0 : ws[q0]? = some (b, .inr (ci, fs))) (hK : va_K D vwCl tys s) (hN : nw_ok s) (hP : va_P D vwCl ws H) (hD : va_D A ws) (hS : va_S A H0 H locs) (hA : ∀ q, H0.size ≤ q → A q) (isC isR isT : List Nat) (hC : isC.map (fun i => ws[i]?) = wc.map some) (hR : isR.map (fun i => ws[i]?) = wr.map some) (hnC : va_nd isC = true) (hn : va_nd isR = true) (hdis : ∀ i ∈ isR, i ∉ isC) (hT : isT.filterMap (fun i => tys[i]?) = tc) (hlen : As.length = n) (hl : ls.size = nL) (hst : st = As.reverse ++ .ref b :: rest) (hW : (rest.map fun v => v.category).sum ≤ 8) (hdg : decode cc pc = .ok (.invokevirtual index, 3)) (hf : cells + mc ≤ R.cells ∧ slots + ms ≤ R.slots)
    (kk : ∀ (r : Int64) (u : S) (H1 : Heap) (locs1 : List Loc), post r u → va_P D vwCl (wr ++ w1 u) H1 → va_D A (wr ++ w1 u) → va_K D vwCl (t1 u) s → va_S A H0 H1 locs1 → W p l e R s m args below meth c H1 locs1 (cells + mc) (slots + ms) Q (F0 m (pc + 3) ls (.long r :: rest))) : W p l e R s m args below meth c H locs cells slots Q (F0 m pc ls st) := by
  have hPc := kc_cut hP hC
  have hDc := hD.sub isC hnC hC
  have hKc := hK.sub isT hT
  refine va_calll (va_runV Sx hM cw ⟨kc_blind, by rw [← hqC]; exact va_recv hK hP hcl hq0, kc_at (av := .ref b :: As) hPc hKc hN hDc⟩ rfl hlen hl hst (lv_room hW) hdg hf) hS (fun q _ h => va_free hD hS hA isC hC q h) (va_free hD hS hA isC hC) (fun r u t H1 locs1 ht hvm hw hB hz1 hk1 hS1 => ?_)
  obtain ⟨a1, a2, a3⟩ := kc_fin (u := u) (t1 := t1) hP hD hS hA hC hR hn hdis ht hvm hB hk1
  exact kk r u H1 locs1 hw a1 a2 a3 hS1
theorem kc_Vv {post : S → Prop} (Sx : CallFix p m c cc nL s args Ts own) (hM : Met l y ws0 rm (va_Pc (.ref b :: As) (kc_pre D tc wc H.size)) (va_Qv post (fun u t => kc_pos D (va_A wc H.size) (w1 u) (t1 u) t) (va_A wc H.size)) mc ms (va_A wc H.size)) (cw : CallW R s args own C index y bytes maxL ret ws0 rm mc ms n) (q : vw_C) (ci q0 : Nat) {fs : List Value} (hcl : vwCl[ci]? = some q) (hqC : q.1 = C) (hq0 : ws[q0]? = some (b, .inr (ci, fs))) (hK : va_K D vwCl tys s) (hN : nw_ok s) (hP : va_P D vwCl ws H) (hD : va_D A ws) (hS : va_S A H0 H locs) (hA : ∀ q, H0.size ≤ q → A q) (isC isR isT : List Nat) (hC : isC.map (fun i => ws[i]?) = wc.map some) (hR : isR.map (fun i => ws[i]?) = wr.map some) (hnC : va_nd isC = true) (hn : va_nd isR = true) (hdis : ∀ i ∈ isR, i ∉ isC) (hT : isT.filterMap (fun i => tys[i]?) = tc) (hlen : As.length = n) (hl : ls.size = nL) (hst : st = As.reverse ++ .ref b :: rest) (hW : (rest.map fun v => v.category).sum ≤ 8) (hdg : decode cc pc = .ok (.invokevirtual index, 3)) (hf : cells + mc ≤ R.cells ∧ slots + ms ≤ R.slots)
    (kk : ∀ (u : S) (H1 : Heap) (locs1 : List Loc), post u → va_P D vwCl (wr ++ w1 u) H1 → va_D A (wr ++ w1 u) → va_K D vwCl (t1 u) s → va_S A H0 H1 locs1 → W p l e R s m args below meth c H1 locs1 (cells + mc) (slots + ms) Q (F0 m (pc + 3) ls (rest))) : W p l e R s m args below meth c H locs cells slots Q (F0 m pc ls st) := by
  have hPc := kc_cut hP hC
  have hDc := hD.sub isC hnC hC
  have hKc := hK.sub isT hT
  refine va_callv (va_runV Sx hM cw ⟨kc_blind, by rw [← hqC]; exact va_recv hK hP hcl hq0, kc_at (av := .ref b :: As) hPc hKc hN hDc⟩ rfl hlen hl hst (lv_room hW) hdg hf) hS (fun q _ h => va_free hD hS hA isC hC q h) (va_free hD hS hA isC hC) (fun u t H1 locs1 ht hvm hw hB hz1 hk1 hS1 => ?_)
  obtain ⟨a1, a2, a3⟩ := kc_fin (u := u) (t1 := t1) hP hD hS hA hC hR hn hdis ht hvm hB hk1
  exact kk u H1 locs1 hw a1 a2 a3 hS1
theorem kc_Si {post : Int32 → S → Prop} (Sx : CallFix p m c cc nL s args Ts own) (hM : Met l y ws0 rm (va_Pc As (kc_pre D tc wc H.size)) (va_Qi post (fun u t => kc_pos D (va_A wc H.size) (w1 u) (t1 u) t) (va_A wc H.size)) mc ms (va_A wc H.size)) (cw : CallB R s args own index y bytes maxL ret ws0 rm mc ms n ∧ (Cond.static y).before args s = true) (hK : va_K D vwCl tys s) (hN : nw_ok s) (hP : va_P D vwCl ws H) (hD : va_D A ws) (hS : va_S A H0 H locs) (hA : ∀ q, H0.size ≤ q → A q) (isC isR isT : List Nat) (hC : isC.map (fun i => ws[i]?) = wc.map some) (hR : isR.map (fun i => ws[i]?) = wr.map some) (hnC : va_nd isC = true) (hn : va_nd isR = true) (hdis : ∀ i ∈ isR, i ∉ isC) (hT : isT.filterMap (fun i => tys[i]?) = tc) (hlen : As.length = n) (hl : ls.size = nL) (hst : st = As.reverse ++ rest) (hW : (rest.map fun v => v.category).sum ≤ 8) (hdg : decode cc pc = .ok (.invokestatic index, 3)) (hf : cells + mc ≤ R.cells ∧ slots + ms ≤ R.slots)
    (kk : ∀ (r : Int32) (u : S) (H1 : Heap) (locs1 : List Loc), post r u → va_P D vwCl (wr ++ w1 u) H1 → va_D A (wr ++ w1 u) → va_K D vwCl (t1 u) s → va_S A H0 H1 locs1 → W p l e R s m args below meth c H1 locs1 (cells + mc) (slots + ms) Q (F0 m (pc + 3) ls (.int r :: rest))) : W p l e R s m args below meth c H locs cells slots Q (F0 m pc ls st) := by
  have hPc := kc_cut hP hC
  have hDc := hD.sub isC hnC hC
  have hKc := hK.sub isT hT
  refine va_calli (va_runS Sx hM cw ⟨kc_blind, kc_at (av := As) hPc hKc hN hDc⟩ rfl hlen hl hst (lv_room hW) hdg hf) hS (fun q _ h => va_free hD hS hA isC hC q h) (va_free hD hS hA isC hC) (fun r u t H1 locs1 ht hvm hw hB hz1 hk1 hS1 => ?_)
  obtain ⟨a1, a2, a3⟩ := kc_fin (u := u) (t1 := t1) hP hD hS hA hC hR hn hdis ht hvm hB hk1
  exact kk r u H1 locs1 hw a1 a2 a3 hS1
theorem kc_Sl {post : Int64 → S → Prop} (Sx : CallFix p m c cc nL s args Ts own) (hM : Met l y ws0 rm (va_Pc As (kc_pre D tc wc H.size)) (va_Ql post (fun u t => kc_pos D (va_A wc H.size) (w1 u) (t1 u) t) (va_A wc H.size)) mc ms (va_A wc H.size)) (cw : CallB R s args own index y bytes maxL ret ws0 rm mc ms n ∧ (Cond.static y).before args s = true) (hK : va_K D vwCl tys s) (hN : nw_ok s) (hP : va_P D vwCl ws H) (hD : va_D A ws) (hS : va_S A H0 H locs) (hA : ∀ q, H0.size ≤ q → A q) (isC isR isT : List Nat) (hC : isC.map (fun i => ws[i]?) = wc.map some) (hR : isR.map (fun i => ws[i]?) = wr.map some) (hnC : va_nd isC = true) (hn : va_nd isR = true) (hdis : ∀ i ∈ isR, i ∉ isC) (hT : isT.filterMap (fun i => tys[i]?) = tc) (hlen : As.length = n) (hl : ls.size = nL) (hst : st = As.reverse ++ rest) (hW : (rest.map fun v => v.category).sum ≤ 8) (hdg : decode cc pc = .ok (.invokestatic index, 3)) (hf : cells + mc ≤ R.cells ∧ slots + ms ≤ R.slots)
    (kk : ∀ (r : Int64) (u : S) (H1 : Heap) (locs1 : List Loc), post r u → va_P D vwCl (wr ++ w1 u) H1 → va_D A (wr ++ w1 u) → va_K D vwCl (t1 u) s → va_S A H0 H1 locs1 → W p l e R s m args below meth c H1 locs1 (cells + mc) (slots + ms) Q (F0 m (pc + 3) ls (.long r :: rest))) : W p l e R s m args below meth c H locs cells slots Q (F0 m pc ls st) := by
  have hPc := kc_cut hP hC
  have hDc := hD.sub isC hnC hC
  have hKc := hK.sub isT hT
  refine va_calll (va_runS Sx hM cw ⟨kc_blind, kc_at (av := As) hPc hKc hN hDc⟩ rfl hlen hl hst (lv_room hW) hdg hf) hS (fun q _ h => va_free hD hS hA isC hC q h) (va_free hD hS hA isC hC) (fun r u t H1 locs1 ht hvm hw hB hz1 hk1 hS1 => ?_)
  obtain ⟨a1, a2, a3⟩ := kc_fin (u := u) (t1 := t1) hP hD hS hA hC hR hn hdis ht hvm hB hk1
  exact kk r u H1 locs1 hw a1 a2 a3 hS1
theorem kc_Sv {post : S → Prop} (Sx : CallFix p m c cc nL s args Ts own) (hM : Met l y ws0 rm (va_Pc As (kc_pre D tc wc H.size)) (va_Qv post (fun u t => kc_pos D (va_A wc H.size) (w1 u) (t1 u) t) (va_A wc H.size)) mc ms (va_A wc H.size)) (cw : CallB R s args own index y bytes maxL ret ws0 rm mc ms n ∧ (Cond.static y).before args s = true) (hK : va_K D vwCl tys s) (hN : nw_ok s) (hP : va_P D vwCl ws H) (hD : va_D A ws) (hS : va_S A H0 H locs) (hA : ∀ q, H0.size ≤ q → A q) (isC isR isT : List Nat) (hC : isC.map (fun i => ws[i]?) = wc.map some) (hR : isR.map (fun i => ws[i]?) = wr.map some) (hnC : va_nd isC = true) (hn : va_nd isR = true) (hdis : ∀ i ∈ isR, i ∉ isC) (hT : isT.filterMap (fun i => tys[i]?) = tc) (hlen : As.length = n) (hl : ls.size = nL) (hst : st = As.reverse ++ rest) (hW : (rest.map fun v => v.category).sum ≤ 8) (hdg : decode cc pc = .ok (.invokestatic index, 3)) (hf : cells + mc ≤ R.cells ∧ slots + ms ≤ R.slots)
    (kk : ∀ (u : S) (H1 : Heap) (locs1 : List Loc), post u → va_P D vwCl (wr ++ w1 u) H1 → va_D A (wr ++ w1 u) → va_K D vwCl (t1 u) s → va_S A H0 H1 locs1 → W p l e R s m args below meth c H1 locs1 (cells + mc) (slots + ms) Q (F0 m (pc + 3) ls (rest))) : W p l e R s m args below meth c H locs cells slots Q (F0 m pc ls st) := by
  have hPc := kc_cut hP hC
  have hDc := hD.sub isC hnC hC
  have hKc := hK.sub isT hT
  refine va_callv (va_runS Sx hM cw ⟨kc_blind, kc_at (av := As) hPc hKc hN hDc⟩ rfl hlen hl hst (lv_room hW) hdg hf) hS (fun q _ h => va_free hD hS hA isC hC q h) (va_free hD hS hA isC hC) (fun u t H1 locs1 ht hvm hw hB hz1 hk1 hS1 => ?_)
  obtain ⟨a1, a2, a3⟩ := kc_fin (u := u) (t1 := t1) hP hD hS hA hC hR hn hdis ht hvm hB hk1
  exact kk u H1 locs1 hw a1 a2 a3 hS1
theorem kc_Ni {post : Int32 → S → Prop} (Sx : CallFix p m c cc nL s args Ts own) (hM : Met l y ws0 rm (va_Pc As (kc_pre D tc wc H.size)) (va_Qi post (fun u t => kc_pos D (va_A wc H.size) (w1 u) (t1 u) t) (va_A wc H.size)) mc ms (va_A wc H.size)) (cw : va_CN R s args own index y host bytes maxL ret ws0 rm mc ms n ∧ (Cond.static y).before args s = true ∧ True) (hK : va_K D vwCl tys s) (hN : nw_ok s) (hP : va_P D vwCl ws H) (hD : va_D A ws) (hS : va_S A H0 H locs) (hA : ∀ q, H0.size ≤ q → A q) (isC isR isT : List Nat) (hC : isC.map (fun i => ws[i]?) = wc.map some) (hR : isR.map (fun i => ws[i]?) = wr.map some) (hnC : va_nd isC = true) (hn : va_nd isR = true) (hdis : ∀ i ∈ isR, i ∉ isC) (hT : isT.filterMap (fun i => tys[i]?) = tc) (hlen : As.length = n) (hl : ls.size = nL) (hst : st = As.reverse ++ rest) (hW : (rest.map fun v => v.category).sum ≤ 8) (hdg : decode cc pc = .ok (.invokestatic index, 3)) (hf : cells + mc ≤ R.cells ∧ slots + ms ≤ R.slots)
    (kk : ∀ (r : Int32) (u : S) (H1 : Heap) (locs1 : List Loc), post r u → va_P D vwCl (wr ++ w1 u) H1 → va_D A (wr ++ w1 u) → va_K D vwCl (t1 u) s → va_S A H0 H1 locs1 → W p l e R s m args below meth c H1 locs1 (cells + mc) (slots + ms) Q (F0 m (pc + 3) ls (.int r :: rest))) : W p l e R s m args below meth c H locs cells slots Q (F0 m pc ls st) := by
  have hPc := kc_cut hP hC
  have hDc := hD.sub isC hnC hC
  have hKc := hK.sub isT hT
  refine va_calli (va_runSN Sx hM cw ⟨kc_blind, kc_at (av := As) hPc hKc hN hDc⟩ rfl hlen hl hst (lv_room hW) hdg hf) hS (fun q _ h => va_free hD hS hA isC hC q h) (va_free hD hS hA isC hC) (fun r u t H1 locs1 ht hvm hw hB hz1 hk1 hS1 => ?_)
  obtain ⟨a1, a2, a3⟩ := kc_fin (u := u) (t1 := t1) hP hD hS hA hC hR hn hdis ht hvm hB hk1
  exact kk r u H1 locs1 hw a1 a2 a3 hS1
theorem kc_Nl {post : Int64 → S → Prop} (Sx : CallFix p m c cc nL s args Ts own) (hM : Met l y ws0 rm (va_Pc As (kc_pre D tc wc H.size)) (va_Ql post (fun u t => kc_pos D (va_A wc H.size) (w1 u) (t1 u) t) (va_A wc H.size)) mc ms (va_A wc H.size)) (cw : va_CN R s args own index y host bytes maxL ret ws0 rm mc ms n ∧ (Cond.static y).before args s = true ∧ True) (hK : va_K D vwCl tys s) (hN : nw_ok s) (hP : va_P D vwCl ws H) (hD : va_D A ws) (hS : va_S A H0 H locs) (hA : ∀ q, H0.size ≤ q → A q) (isC isR isT : List Nat) (hC : isC.map (fun i => ws[i]?) = wc.map some) (hR : isR.map (fun i => ws[i]?) = wr.map some) (hnC : va_nd isC = true) (hn : va_nd isR = true) (hdis : ∀ i ∈ isR, i ∉ isC) (hT : isT.filterMap (fun i => tys[i]?) = tc) (hlen : As.length = n) (hl : ls.size = nL) (hst : st = As.reverse ++ rest) (hW : (rest.map fun v => v.category).sum ≤ 8) (hdg : decode cc pc = .ok (.invokestatic index, 3)) (hf : cells + mc ≤ R.cells ∧ slots + ms ≤ R.slots)
    (kk : ∀ (r : Int64) (u : S) (H1 : Heap) (locs1 : List Loc), post r u → va_P D vwCl (wr ++ w1 u) H1 → va_D A (wr ++ w1 u) → va_K D vwCl (t1 u) s → va_S A H0 H1 locs1 → W p l e R s m args below meth c H1 locs1 (cells + mc) (slots + ms) Q (F0 m (pc + 3) ls (.long r :: rest))) : W p l e R s m args below meth c H locs cells slots Q (F0 m pc ls st) := by
  have hPc := kc_cut hP hC
  have hDc := hD.sub isC hnC hC
  have hKc := hK.sub isT hT
  refine va_calll (va_runSN Sx hM cw ⟨kc_blind, kc_at (av := As) hPc hKc hN hDc⟩ rfl hlen hl hst (lv_room hW) hdg hf) hS (fun q _ h => va_free hD hS hA isC hC q h) (va_free hD hS hA isC hC) (fun r u t H1 locs1 ht hvm hw hB hz1 hk1 hS1 => ?_)
  obtain ⟨a1, a2, a3⟩ := kc_fin (u := u) (t1 := t1) hP hD hS hA hC hR hn hdis ht hvm hB hk1
  exact kk r u H1 locs1 hw a1 a2 a3 hS1
theorem kc_Nv {post : S → Prop} (Sx : CallFix p m c cc nL s args Ts own) (hM : Met l y ws0 rm (va_Pc As (kc_pre D tc wc H.size)) (va_Qv post (fun u t => kc_pos D (va_A wc H.size) (w1 u) (t1 u) t) (va_A wc H.size)) mc ms (va_A wc H.size)) (cw : va_CN R s args own index y host bytes maxL ret ws0 rm mc ms n ∧ (Cond.static y).before args s = true ∧ True) (hK : va_K D vwCl tys s) (hN : nw_ok s) (hP : va_P D vwCl ws H) (hD : va_D A ws) (hS : va_S A H0 H locs) (hA : ∀ q, H0.size ≤ q → A q) (isC isR isT : List Nat) (hC : isC.map (fun i => ws[i]?) = wc.map some) (hR : isR.map (fun i => ws[i]?) = wr.map some) (hnC : va_nd isC = true) (hn : va_nd isR = true) (hdis : ∀ i ∈ isR, i ∉ isC) (hT : isT.filterMap (fun i => tys[i]?) = tc) (hlen : As.length = n) (hl : ls.size = nL) (hst : st = As.reverse ++ rest) (hW : (rest.map fun v => v.category).sum ≤ 8) (hdg : decode cc pc = .ok (.invokestatic index, 3)) (hf : cells + mc ≤ R.cells ∧ slots + ms ≤ R.slots)
    (kk : ∀ (u : S) (H1 : Heap) (locs1 : List Loc), post u → va_P D vwCl (wr ++ w1 u) H1 → va_D A (wr ++ w1 u) → va_K D vwCl (t1 u) s → va_S A H0 H1 locs1 → W p l e R s m args below meth c H1 locs1 (cells + mc) (slots + ms) Q (F0 m (pc + 3) ls (rest))) : W p l e R s m args below meth c H locs cells slots Q (F0 m pc ls st) := by
  have hPc := kc_cut hP hC
  have hDc := hD.sub isC hnC hC
  have hKc := hK.sub isT hT
  refine va_callv (va_runSN Sx hM cw ⟨kc_blind, kc_at (av := As) hPc hKc hN hDc⟩ rfl hlen hl hst (lv_room hW) hdg hf) hS (fun q _ h => va_free hD hS hA isC hC q h) (va_free hD hS hA isC hC) (fun u t H1 locs1 ht hvm hw hB hz1 hk1 hS1 => ?_)
  obtain ⟨a1, a2, a3⟩ := kc_fin (u := u) (t1 := t1) hP hD hS hA hC hR hn hdis ht hvm hB hk1
  exact kk u H1 locs1 hw a1 a2 a3 hS1
theorem kc_Iv {post : S → Prop} (Sx : CallFix p m c cc nL s args Ts own) (hM : Met l y ws0 rm (va_Pc (.ref b :: As) (kc_pre D tc wc H.size)) (va_Qv post (fun u t => kc_pos D (va_A wc H.size) (w1 u) (t1 u) t) (va_A wc H.size)) mc ms (va_A wc H.size)) (cw : CallB R s args own index y bytes maxL none ws0 rm mc ms n ∧ y.name = "<init>" ∧ (Cond.instanceMethod y).before args s = true) (hK : va_K D vwCl tys s) (hN : nw_ok s) (hP : va_P D vwCl ws H) (hD : va_D A ws) (hS : va_S A H0 H locs) (hA : ∀ q, H0.size ≤ q → A q) (isC isR isT : List Nat) (hC : isC.map (fun i => ws[i]?) = wc.map some) (hR : isR.map (fun i => ws[i]?) = wr.map some) (hnC : va_nd isC = true) (hn : va_nd isR = true) (hdis : ∀ i ∈ isR, i ∉ isC) (hT : isT.filterMap (fun i => tys[i]?) = tc) (hlen : As.length = n) (hl : ls.size = nL) (hst : st = As.reverse ++ .ref b :: rest) (hW : (rest.map fun v => v.category).sum ≤ 8) (hdg : decode cc pc = .ok (.invokespecial index, 3)) (hf : cells + mc ≤ R.cells ∧ slots + ms ≤ R.slots)
    (kk : ∀ (u : S) (H1 : Heap) (locs1 : List Loc), post u → va_P D vwCl (wr ++ w1 u) H1 → va_D A (wr ++ w1 u) → va_K D vwCl (t1 u) s → va_S A H0 H1 locs1 → W p l e R s m args below meth c H1 locs1 (cells + mc) (slots + ms) Q (F0 m (pc + 3) ls (rest))) : W p l e R s m args below meth c H locs cells slots Q (F0 m pc ls st) := by
  have hPc := kc_cut hP hC
  have hDc := hD.sub isC hnC hC
  have hKc := hK.sub isT hT
  refine va_callv (va_runI Sx hM cw ⟨kc_blind, kc_at (av := .ref b :: As) hPc hKc hN hDc⟩ rfl hlen hl hst (lv_room hW) hdg hf) hS (fun q _ h => va_free hD hS hA isC hC q h) (va_free hD hS hA isC hC) (fun u t H1 locs1 ht hvm hw hB hz1 hk1 hS1 => ?_)
  obtain ⟨a1, a2, a3⟩ := kc_fin (u := u) (t1 := t1) hP hD hS hA hC hR hn hdis ht hvm hB hk1
  exact kk u H1 locs1 hw a1 a2 a3 hS1
end KC
end
section
def at_v (f : Nat → Int32) (n : Nat) (i : Int32) : Int32 := if i < 0 ∨ n ≤ i.toNatClampNeg then 0 else f i.toNatClampNeg
def put_v (f : Nat → Int32) (n : Nat) (i x : Int32) : Nat → Int32 := if i < 0 ∨ n ≤ i.toNatClampNeg then f else upd f i.toNatClampNeg x
def atL_v (f : Nat → Int64) (n : Nat) (i : Int32) : Int64 := if i < 0 ∨ n ≤ i.toNatClampNeg then 0 else f i.toNatClampNeg
def putL_v (f : Nat → Int64) (n : Nat) (i : Int32) (x : Int64) : Nat → Int64 := if i < 0 ∨ n ≤ i.toNatClampNeg then f else vp_updL f i.toNatClampNeg x
theorem in_of {i : Int32} {n : Nat} (hn : n < 2 ^ 31) (h1 : ¬ i < 0) (h2 : ¬ nI n ≤ i) : vp_in i n := by
  obtain ⟨j, hj, rfl⟩ := nI_of h1
  have h3 : ¬ n ≤ j := fun q => h2 (nI_le q hj)
  exact vp_in_nI (by omega) hn
theorem out_hi {i : Int32} {n : Nat} (hn : n < 2 ^ 31) (h1 : ¬ i < 0) (h2 : nI n ≤ i) : n ≤ i.toNatClampNeg := by
  obtain ⟨j, hj, rfl⟩ := nI_of h1
  rw [nI_clamp hj]
  rcases Nat.lt_or_ge j n with q | q
  · exact absurd h2 (nI_ge q hn)
  · exact q
theorem at_lo {f : Nat → Int32} {n : Nat} {i : Int32} (h : i < 0) : 0 = at_v f n i := (if_pos (Or.inl h)).symm
theorem at_hi {f : Nat → Int32} {n : Nat} {i : Int32} (hn : n < 2 ^ 31) (h1 : ¬ i < 0) (h : nI n ≤ i) : 0 = at_v f n i := (if_pos (Or.inr (out_hi hn h1 h))).symm
theorem at_in {f : Nat → Int32} {n : Nat} {i : Int32} (h : vp_in i n) : f i.toNatClampNeg = at_v f n i := (if_neg h).symm
theorem put_lo {f : Nat → Int32} {n : Nat} {i x : Int32} (h : i < 0) : f = put_v f n i x := (if_pos (Or.inl h)).symm
theorem put_hi {f : Nat → Int32} {n : Nat} {i x : Int32} (hn : n < 2 ^ 31) (h1 : ¬ i < 0) (h : nI n ≤ i) : f = put_v f n i x := (if_pos (Or.inr (out_hi hn h1 h))).symm
theorem put_in {f : Nat → Int32} {n : Nat} {i x : Int32} (h : vp_in i n) : upd f i.toNatClampNeg x = put_v f n i x := (if_neg h).symm
theorem atL_lo {f : Nat → Int64} {n : Nat} {i : Int32} (h : i < 0) : 0 = atL_v f n i := (if_pos (Or.inl h)).symm
theorem atL_hi {f : Nat → Int64} {n : Nat} {i : Int32} (hn : n < 2 ^ 31) (h1 : ¬ i < 0) (h : nI n ≤ i) : 0 = atL_v f n i := (if_pos (Or.inr (out_hi hn h1 h))).symm
theorem atL_in {f : Nat → Int64} {n : Nat} {i : Int32} (h : vp_in i n) : f i.toNatClampNeg = atL_v f n i := (if_neg h).symm
theorem putL_lo {f : Nat → Int64} {n : Nat} {i : Int32} {x : Int64} (h : i < 0) : f = putL_v f n i x := (if_pos (Or.inl h)).symm
theorem putL_hi {f : Nat → Int64} {n : Nat} {i : Int32} {x : Int64} (hn : n < 2 ^ 31) (h1 : ¬ i < 0) (h : nI n ≤ i) : f = putL_v f n i x := (if_pos (Or.inr (out_hi hn h1 h))).symm
theorem putL_in {f : Nat → Int64} {n : Nat} {i : Int32} {x : Int64} (h : vp_in i n) : vp_updL f i.toNatClampNeg x = putL_v f n i x := (if_neg h).symm
theorem nk_lt {j n : Nat} (hn : n < 2 ^ 31) (hj : j ≤ n) (h : ¬ nI n ≤ nI j) : j < n := by
  rcases Nat.lt_or_ge j n with q | q
  · exact q
  · exact absurd (nI_le q (by omega)) h
theorem nk_ge {j n : Nat} (hn : n < 2 ^ 31) (hj : j ≤ n) (h : nI n ≤ nI j) : n ≤ j := by
  rcases Nat.lt_or_ge j n with q | q
  · exact absurd h (nI_ge q hn)
  · exact q
theorem fill_step {g : Nat → Int32} {v : Int32} {j : Nat} (hj : j < 2 ^ 31) (hg : ∀ k, k < j → g k = v) : ∀ k, k < j + 1 → upd g (nI j).toNatClampNeg v k = v := by
  intro k hk
  rw [nI_clamp hj]
  by_cases e : k = j
  · subst e; exact pk_us
  · rw [pk_un e]; exact hg k (by omega)
theorem dX11_at_0 : decode cX11_at 0 = .ok (.aload_n 0, 1) := by decide +kernel
theorem dX11_at_1 : decode cX11_at 1 = .ok (.ifnull 19, 3) := by decide +kernel
theorem dX11_at_4 : decode cX11_at 4 = .ok (.iload_n 1, 1) := by decide +kernel
theorem dX11_at_5 : decode cX11_at 5 = .ok (.ifCond .lt 15, 3) := by decide +kernel
theorem dX11_at_8 : decode cX11_at 8 = .ok (.iload_n 1, 1) := by decide +kernel
theorem dX11_at_9 : decode cX11_at 9 = .ok (.aload_n 0, 1) := by decide +kernel
theorem dX11_at_10 : decode cX11_at 10 = .ok (.arraylength, 1) := by decide +kernel
theorem dX11_at_11 : decode cX11_at 11 = .ok (.if_icmp .ge 9, 3) := by decide +kernel
theorem dX11_at_14 : decode cX11_at 14 = .ok (.aload_n 0, 1) := by decide +kernel
theorem dX11_at_15 : decode cX11_at 15 = .ok (.iload_n 1, 1) := by decide +kernel
theorem dX11_at_16 : decode cX11_at 16 = .ok (.iaload, 1) := by decide +kernel
theorem dX11_at_17 : decode cX11_at 17 = .ok (.goto 4, 3) := by decide +kernel
theorem dX11_at_20 : decode cX11_at 20 = .ok (.iconst 0, 1) := by decide +kernel
theorem dX11_at_21 : decode cX11_at 21 = .ok (.ireturn, 1) := by decide +kernel
def wo_X11_at : List Cond := []
def wd_X11_at : List Cond := .code yX11_at cX11_at 2 (some .int) :: (wo_X11_at ++ ([] : List Cond))
theorem hd_X11_at : yX11_at.cls ≠ "java/lang/invoke/MethodHandle" ∧ yX11_at.cls ≠ "java/lang/invoke/VarHandle" ∧ (parseMethodDescriptor yX11_at.desc).map (fun d => d.parameters.length) = some 2 := by decide +kernel
set_option maxRecDepth 20000 in
theorem gw_X11_at : wd_X11_at.all goodWord = true := by decide +kernel
abbrev qc_X11_at (D : va_G) (a : Nat) (kA : ClassId) (n : Nat) (f : Nat → Int32) (i : Int32) (A : Nat → Prop) : Array Value → State → Outcome → State → Prop := va_Qi (fun (r : Int32) (uZ : Unit) => r = at_v f n i) (fun uZ tZ => kc_pos D A [(a, .inl (kA, n, .inl f))] [] tZ) A
set_option maxHeartbeats 4000000 in
set_option maxRecDepth 100000 in
theorem ct_X11_at (l : Launch) (D : va_G) (a : Nat) (kA : ClassId) (n : Nat) (f : Nat → Int32) (i : Int32) (sz : Nat) (hn : n < 2 ^ 31) : Met l yX11_at wd_X11_at ({ frames := 0, cells := 0, slots := 0, locals := 0 }) (va_Pc [.ref a, .int i] (kc_pre D [(kA, .int)] [(a, .inl (kA, n, .inl f))] sz)) (qc_X11_at D a kA n f i (va_A [(a, .inl (kA, n, .inl f))] sz)) 0 0 (va_A [(a, .inl (kA, n, .inl f))] sz) := by
  refine Met.ofW (cc := cX11_at) (maxL := 2) (ret := (some .int)) (by decide) rfl ?_
  intro p e s m args below meth c s₁ B hml hv
  obtain ⟨rfl, hsz, hP, hK, hN, hD0⟩ := hv
  have hx := B.exec
  have hb := B.bytes
  have hr := B.returns
  have hts := atoms_spec (ws := wd_X11_at) B.pre
  have hown : s.vm.findClass RX11 = some m.cls := findClass_of_methodNamed B.named
  have hlocks := B.notSynchronized
  subst hsz
  have hD := hD0.self (sz := s.heap.size)
  generalize hAe : va_A [(a, .inl (kA, n, .inl f))] s.heap.size = A at hD ⊢
  have hA : ∀ q : Nat, s.heap.size ≤ q → A q := fun q h => by rw [← hAe]; exact Or.inr h
  have hS : va_S A s.heap s.heap [] := va_S.rf
  have hl := lv_entry ([.ref a, .int i]) (n := 2) (Nat.le_of_ble_eq_true rfl)
  rw [lg_entry_eq]
  generalize (lg_sl ([.ref a, .int i]) ++ List.replicate (2 - (lg_sl ([.ref a, .int i])).length) Slot.unset).toArray = ls at hl ⊢
  have hl : lv_has ls 2 [(0, .ref a), (1, .int i)] := hl
  refine lv_aload_n hx hb dX11_at_0 rfl (lv_at hl 0 rfl) ?_
  refine lv_ifnull hx hb dX11_at_1 ?_
  refine lv_iload_n hx hb dX11_at_4 rfl (lv_at hl 1 rfl) ?_
  refine lv_if_lt (tgt := 20) hx hb dX11_at_5 (by decide) (fun c_1 => ?_) (fun c_1 => ?_)
  · refine lv_iconst (v := 0) hx hb dX11_at_20 (by decide) ?_
    have hP9 := hP.sub (ws' := [(a, .inl (kA, n, .inl f))]) [0] rfl
    have hD9 := hD.sub (ws' := [(a, .inl (kA, n, .inl f))]) [0] (by decide) rfl
    have hK9 := hK.sub (tys' := []) [] rfl
    exact W.iret (v := 0) hx hb hr (fun tZ htZ hW => ⟨⟨0, (), rfl, (by first | exact at_lo (by assumption) | exact at_hi hn (by assumption) (by assumption)), by rw [htZ]; exact hP9, va_K.moved hW.alike hK9, hD9⟩, hS.F htZ⟩) hS.2.2 dX11_at_21
  · refine lv_iload_n hx hb dX11_at_8 rfl (lv_at hl 1 rfl) ?_
    refine lv_aload_n hx hb dX11_at_9 rfl (lv_at hl 0 rfl) ?_
    refine va_alen (v := nI n) hx hb hK hP 0 0 rfl rfl rfl dX11_at_10 ?_
    refine lv_icmp_ge (tgt := 20) hx hb dX11_at_11 (by decide) (fun c_2 => ?_) (fun c_2 => ?_)
    · refine lv_iconst (v := 0) hx hb dX11_at_20 (by decide) ?_
      have hP9 := hP.sub (ws' := [(a, .inl (kA, n, .inl f))]) [0] rfl
      have hD9 := hD.sub (ws' := [(a, .inl (kA, n, .inl f))]) [0] (by decide) rfl
      have hK9 := hK.sub (tys' := []) [] rfl
      exact W.iret (v := 0) hx hb hr (fun tZ htZ hW => ⟨⟨0, (), rfl, (by first | exact at_lo (by assumption) | exact at_hi hn (by assumption) (by assumption)), by rw [htZ]; exact hP9, va_K.moved hW.alike hK9, hD9⟩, hS.F htZ⟩) hS.2.2 dX11_at_21
    · refine lv_aload_n hx hb dX11_at_14 rfl (lv_at hl 0 rfl) ?_
      refine lv_iload_n hx hb dX11_at_15 rfl (lv_at hl 1 rfl) ?_
      refine va_iald hx hb hK hP 0 0 rfl rfl (in_of hn (by assumption) (by assumption)) dX11_at_16 ?_
      refine lv_topi (fun x_3 ex_3 => ?_)
      refine lv_goto (tgt := 21) hx hb dX11_at_17 (by decide) ?_
      have hP9 := hP.sub (ws' := [(a, .inl (kA, n, .inl f))]) [0] rfl
      have hD9 := hD.sub (ws' := [(a, .inl (kA, n, .inl f))]) [0] (by decide) rfl
      have hK9 := hK.sub (tys' := []) [] rfl
      exact W.iret (v := x_3) hx hb hr (fun tZ htZ hW => ⟨⟨x_3, (), rfl, (ex_3.trans (at_in (in_of hn (by assumption) (by assumption)))), by rw [htZ]; exact hP9, va_K.moved hW.alike hK9, hD9⟩, hS.F htZ⟩) hS.2.2 dX11_at_21
theorem dX11_put_0 : decode cX11_put 0 = .ok (.aload_n 0, 1) := by decide +kernel
theorem dX11_put_1 : decode cX11_put 1 = .ok (.ifnull 17, 3) := by decide +kernel
theorem dX11_put_4 : decode cX11_put 4 = .ok (.iload_n 1, 1) := by decide +kernel
theorem dX11_put_5 : decode cX11_put 5 = .ok (.ifCond .lt 13, 3) := by decide +kernel
theorem dX11_put_8 : decode cX11_put 8 = .ok (.iload_n 1, 1) := by decide +kernel
theorem dX11_put_9 : decode cX11_put 9 = .ok (.aload_n 0, 1) := by decide +kernel
theorem dX11_put_10 : decode cX11_put 10 = .ok (.arraylength, 1) := by decide +kernel
theorem dX11_put_11 : decode cX11_put 11 = .ok (.if_icmp .ge 7, 3) := by decide +kernel
theorem dX11_put_14 : decode cX11_put 14 = .ok (.aload_n 0, 1) := by decide +kernel
theorem dX11_put_15 : decode cX11_put 15 = .ok (.iload_n 1, 1) := by decide +kernel
theorem dX11_put_16 : decode cX11_put 16 = .ok (.iload_n 2, 1) := by decide +kernel
theorem dX11_put_17 : decode cX11_put 17 = .ok (.iastore, 1) := by decide +kernel
theorem dX11_put_18 : decode cX11_put 18 = .ok (.return_, 1) := by decide +kernel
def wo_X11_put : List Cond := []
def wd_X11_put : List Cond := .code yX11_put cX11_put 3 none :: (wo_X11_put ++ ([] : List Cond))
theorem hd_X11_put : yX11_put.cls ≠ "java/lang/invoke/MethodHandle" ∧ yX11_put.cls ≠ "java/lang/invoke/VarHandle" ∧ (parseMethodDescriptor yX11_put.desc).map (fun d => d.parameters.length) = some 3 := by decide +kernel
set_option maxRecDepth 20000 in
theorem gw_X11_put : wd_X11_put.all goodWord = true := by decide +kernel
abbrev qc_X11_put (D : va_G) (a : Nat) (kA : ClassId) (n : Nat) (f : Nat → Int32) (i : Int32) (x : Int32) (A : Nat → Prop) : Array Value → State → Outcome → State → Prop := va_Qv (fun (uZ : (Nat → Int32)) => uZ = put_v f n i x) (fun uZ tZ => kc_pos D A [(a, .inl (kA, n, .inl uZ))] [] tZ) A
set_option maxHeartbeats 4000000 in
set_option maxRecDepth 100000 in
theorem ct_X11_put (l : Launch) (D : va_G) (a : Nat) (kA : ClassId) (n : Nat) (f : Nat → Int32) (i : Int32) (x : Int32) (sz : Nat) (hn : n < 2 ^ 31) : Met l yX11_put wd_X11_put ({ frames := 0, cells := 0, slots := 0, locals := 0 }) (va_Pc [.ref a, .int i, .int x] (kc_pre D [(kA, .int)] [(a, .inl (kA, n, .inl f))] sz)) (qc_X11_put D a kA n f i x (va_A [(a, .inl (kA, n, .inl f))] sz)) 0 0 (va_A [(a, .inl (kA, n, .inl f))] sz) := by
  refine Met.ofW (cc := cX11_put) (maxL := 3) (ret := none) (by decide) rfl ?_
  intro p e s m args below meth c s₁ B hml hv
  obtain ⟨rfl, hsz, hP, hK, hN, hD0⟩ := hv
  have hx := B.exec
  have hb := B.bytes
  have hr := B.returns
  have hts := atoms_spec (ws := wd_X11_put) B.pre
  have hown : s.vm.findClass RX11 = some m.cls := findClass_of_methodNamed B.named
  have hlocks := B.notSynchronized
  subst hsz
  have hD := hD0.self (sz := s.heap.size)
  generalize hAe : va_A [(a, .inl (kA, n, .inl f))] s.heap.size = A at hD ⊢
  have hA : ∀ q : Nat, s.heap.size ≤ q → A q := fun q h => by rw [← hAe]; exact Or.inr h
  have hS : va_S A s.heap s.heap [] := va_S.rf
  have hl := lv_entry ([.ref a, .int i, .int x]) (n := 3) (Nat.le_of_ble_eq_true rfl)
  rw [lg_entry_eq]
  generalize (lg_sl ([.ref a, .int i, .int x]) ++ List.replicate (3 - (lg_sl ([.ref a, .int i, .int x])).length) Slot.unset).toArray = ls at hl ⊢
  have hl : lv_has ls 3 [(0, .ref a), (1, .int i), (2, .int x)] := hl
  refine lv_aload_n hx hb dX11_put_0 rfl (lv_at hl 0 rfl) ?_
  refine lv_ifnull hx hb dX11_put_1 ?_
  refine lv_iload_n hx hb dX11_put_4 rfl (lv_at hl 1 rfl) ?_
  refine lv_if_lt (tgt := 18) hx hb dX11_put_5 (by decide) (fun c_1 => ?_) (fun c_1 => ?_)
  · have hP9 := hP.sub (ws' := [(a, .inl (kA, n, .inl f))]) [0] rfl
    have hD9 := hD.sub (ws' := [(a, .inl (kA, n, .inl f))]) [0] (by decide) rfl
    have hK9 := hK.sub (tys' := []) [] rfl
    exact W.vret hx hb hr (fun tZ htZ hW => ⟨⟨f, rfl, (by first | exact put_lo (by assumption) | exact put_hi hn (by assumption) (by assumption) | exact (by assumption : _ = _).symm.trans (put_in (in_of hn (by assumption) (by assumption)))), by rw [htZ]; exact hP9, va_K.moved hW.alike hK9, hD9⟩, hS.F htZ⟩) hS.2.2 dX11_put_18
  · refine lv_iload_n hx hb dX11_put_8 rfl (lv_at hl 1 rfl) ?_
    refine lv_aload_n hx hb dX11_put_9 rfl (lv_at hl 0 rfl) ?_
    refine va_alen (v := nI n) hx hb hK hP 0 0 rfl rfl rfl dX11_put_10 ?_
    refine lv_icmp_ge (tgt := 18) hx hb dX11_put_11 (by decide) (fun c_2 => ?_) (fun c_2 => ?_)
    · have hP9 := hP.sub (ws' := [(a, .inl (kA, n, .inl f))]) [0] rfl
      have hD9 := hD.sub (ws' := [(a, .inl (kA, n, .inl f))]) [0] (by decide) rfl
      have hK9 := hK.sub (tys' := []) [] rfl
      exact W.vret hx hb hr (fun tZ htZ hW => ⟨⟨f, rfl, (by first | exact put_lo (by assumption) | exact put_hi hn (by assumption) (by assumption) | exact (by assumption : _ = _).symm.trans (put_in (in_of hn (by assumption) (by assumption)))), by rw [htZ]; exact hP9, va_K.moved hW.alike hK9, hD9⟩, hS.F htZ⟩) hS.2.2 dX11_put_18
    · refine lv_aload_n hx hb dX11_put_14 rfl (lv_at hl 0 rfl) ?_
      refine lv_iload_n hx hb dX11_put_15 rfl (lv_at hl 1 rfl) ?_
      refine lv_iload_n hx hb dX11_put_16 rfl (lv_at hl 2 rfl) ?_
      refine va_iast hx hb hK hP hD hS 0 0 rfl rfl (in_of hn (by assumption) (by assumption)) dX11_put_17 (fun H locs hP hD hS => ?_)
      generalize ef_3 : upd f i.toNatClampNeg x = f_3 at hP hD
      have hP : va_P D vwCl [(a, .inl (kA, n, .inl f_3))] H := hP
      have hD : va_D A [(a, .inl (kA, n, .inl f_3))] := hD
      have hP9 := hP.sub (ws' := [(a, .inl (kA, n, .inl f_3))]) [0] rfl
      have hD9 := hD.sub (ws' := [(a, .inl (kA, n, .inl f_3))]) [0] (by decide) rfl
      have hK9 := hK.sub (tys' := []) [] rfl
      exact W.vret hx hb hr (fun tZ htZ hW => ⟨⟨f_3, rfl, (by first | exact put_lo (by assumption) | exact put_hi hn (by assumption) (by assumption) | exact (by assumption : _ = _).symm.trans (put_in (in_of hn (by assumption) (by assumption)))), by rw [htZ]; exact hP9, va_K.moved hW.alike hK9, hD9⟩, hS.F htZ⟩) hS.2.2 dX11_put_18
theorem dX11_wideAt_0 : decode cX11_wideAt 0 = .ok (.aload_n 0, 1) := by decide +kernel
theorem dX11_wideAt_1 : decode cX11_wideAt 1 = .ok (.ifnull 19, 3) := by decide +kernel
theorem dX11_wideAt_4 : decode cX11_wideAt 4 = .ok (.iload_n 1, 1) := by decide +kernel
theorem dX11_wideAt_5 : decode cX11_wideAt 5 = .ok (.ifCond .lt 15, 3) := by decide +kernel
theorem dX11_wideAt_8 : decode cX11_wideAt 8 = .ok (.iload_n 1, 1) := by decide +kernel
theorem dX11_wideAt_9 : decode cX11_wideAt 9 = .ok (.aload_n 0, 1) := by decide +kernel
theorem dX11_wideAt_10 : decode cX11_wideAt 10 = .ok (.arraylength, 1) := by decide +kernel
theorem dX11_wideAt_11 : decode cX11_wideAt 11 = .ok (.if_icmp .ge 9, 3) := by decide +kernel
theorem dX11_wideAt_14 : decode cX11_wideAt 14 = .ok (.aload_n 0, 1) := by decide +kernel
theorem dX11_wideAt_15 : decode cX11_wideAt 15 = .ok (.iload_n 1, 1) := by decide +kernel
theorem dX11_wideAt_16 : decode cX11_wideAt 16 = .ok (.laload, 1) := by decide +kernel
theorem dX11_wideAt_17 : decode cX11_wideAt 17 = .ok (.goto 4, 3) := by decide +kernel
theorem dX11_wideAt_20 : decode cX11_wideAt 20 = .ok (.lconst 0, 1) := by decide +kernel
theorem dX11_wideAt_21 : decode cX11_wideAt 21 = .ok (.lreturn, 1) := by decide +kernel
def wo_X11_wideAt : List Cond := []
def wd_X11_wideAt : List Cond := .code yX11_wideAt cX11_wideAt 2 (some .long) :: (wo_X11_wideAt ++ ([] : List Cond))
theorem hd_X11_wideAt : yX11_wideAt.cls ≠ "java/lang/invoke/MethodHandle" ∧ yX11_wideAt.cls ≠ "java/lang/invoke/VarHandle" ∧ (parseMethodDescriptor yX11_wideAt.desc).map (fun d => d.parameters.length) = some 2 := by decide +kernel
set_option maxRecDepth 20000 in
theorem gw_X11_wideAt : wd_X11_wideAt.all goodWord = true := by decide +kernel
abbrev qc_X11_wideAt (D : va_G) (a : Nat) (kA : ClassId) (n : Nat) (f : Nat → Int64) (i : Int32) (A : Nat → Prop) : Array Value → State → Outcome → State → Prop := va_Ql (fun (r : Int64) (uZ : Unit) => r = atL_v f n i) (fun uZ tZ => kc_pos D A [(a, .inl (kA, n, .inr (.inl f)))] [] tZ) A
set_option maxHeartbeats 4000000 in
set_option maxRecDepth 100000 in
theorem ct_X11_wideAt (l : Launch) (D : va_G) (a : Nat) (kA : ClassId) (n : Nat) (f : Nat → Int64) (i : Int32) (sz : Nat) (hn : n < 2 ^ 31) : Met l yX11_wideAt wd_X11_wideAt ({ frames := 0, cells := 0, slots := 0, locals := 0 }) (va_Pc [.ref a, .int i] (kc_pre D [(kA, .long)] [(a, .inl (kA, n, .inr (.inl f)))] sz)) (qc_X11_wideAt D a kA n f i (va_A [(a, .inl (kA, n, .inr (.inl f)))] sz)) 0 0 (va_A [(a, .inl (kA, n, .inr (.inl f)))] sz) := by
  refine Met.ofW (cc := cX11_wideAt) (maxL := 2) (ret := (some .long)) (by decide) rfl ?_
  intro p e s m args below meth c s₁ B hml hv
  obtain ⟨rfl, hsz, hP, hK, hN, hD0⟩ := hv
  have hx := B.exec
  have hb := B.bytes
  have hr := B.returns
  have hts := atoms_spec (ws := wd_X11_wideAt) B.pre
  have hown : s.vm.findClass RX11 = some m.cls := findClass_of_methodNamed B.named
  have hlocks := B.notSynchronized
  subst hsz
  have hD := hD0.self (sz := s.heap.size)
  generalize hAe : va_A [(a, .inl (kA, n, .inr (.inl f)))] s.heap.size = A at hD ⊢
  have hA : ∀ q : Nat, s.heap.size ≤ q → A q := fun q h => by rw [← hAe]; exact Or.inr h
  have hS : va_S A s.heap s.heap [] := va_S.rf
  have hl := lv_entry ([.ref a, .int i]) (n := 2) (Nat.le_of_ble_eq_true rfl)
  rw [lg_entry_eq]
  generalize (lg_sl ([.ref a, .int i]) ++ List.replicate (2 - (lg_sl ([.ref a, .int i])).length) Slot.unset).toArray = ls at hl ⊢
  have hl : lv_has ls 2 [(0, .ref a), (1, .int i)] := hl
  refine lv_aload_n hx hb dX11_wideAt_0 rfl (lv_at hl 0 rfl) ?_
  refine lv_ifnull hx hb dX11_wideAt_1 ?_
  refine lv_iload_n hx hb dX11_wideAt_4 rfl (lv_at hl 1 rfl) ?_
  refine lv_if_lt (tgt := 20) hx hb dX11_wideAt_5 (by decide) (fun c_1 => ?_) (fun c_1 => ?_)
  · refine lv_lconst (v := 0) hx hb dX11_wideAt_20 (by decide) ?_
    have hP9 := hP.sub (ws' := [(a, .inl (kA, n, .inr (.inl f)))]) [0] rfl
    have hD9 := hD.sub (ws' := [(a, .inl (kA, n, .inr (.inl f)))]) [0] (by decide) rfl
    have hK9 := hK.sub (tys' := []) [] rfl
    exact W.lret (v := 0) hx hb hr (fun tZ htZ hW => ⟨⟨0, (), rfl, (by first | exact atL_lo (by assumption) | exact atL_hi hn (by assumption) (by assumption)), by rw [htZ]; exact hP9, va_K.moved hW.alike hK9, hD9⟩, hS.F htZ⟩) hS.2.2 dX11_wideAt_21
  · refine lv_iload_n hx hb dX11_wideAt_8 rfl (lv_at hl 1 rfl) ?_
    refine lv_aload_n hx hb dX11_wideAt_9 rfl (lv_at hl 0 rfl) ?_
    refine va_alen (v := nI n) hx hb hK hP 0 0 rfl rfl rfl dX11_wideAt_10 ?_
    refine lv_icmp_ge (tgt := 20) hx hb dX11_wideAt_11 (by decide) (fun c_2 => ?_) (fun c_2 => ?_)
    · refine lv_lconst (v := 0) hx hb dX11_wideAt_20 (by decide) ?_
      have hP9 := hP.sub (ws' := [(a, .inl (kA, n, .inr (.inl f)))]) [0] rfl
      have hD9 := hD.sub (ws' := [(a, .inl (kA, n, .inr (.inl f)))]) [0] (by decide) rfl
      have hK9 := hK.sub (tys' := []) [] rfl
      exact W.lret (v := 0) hx hb hr (fun tZ htZ hW => ⟨⟨0, (), rfl, (by first | exact atL_lo (by assumption) | exact atL_hi hn (by assumption) (by assumption)), by rw [htZ]; exact hP9, va_K.moved hW.alike hK9, hD9⟩, hS.F htZ⟩) hS.2.2 dX11_wideAt_21
    · refine lv_aload_n hx hb dX11_wideAt_14 rfl (lv_at hl 0 rfl) ?_
      refine lv_iload_n hx hb dX11_wideAt_15 rfl (lv_at hl 1 rfl) ?_
      refine va_lald hx hb hK hP 0 0 rfl rfl (in_of hn (by assumption) (by assumption)) dX11_wideAt_16 ?_
      refine lv_topl (fun y_3 ey_3 => ?_)
      refine lv_goto (tgt := 21) hx hb dX11_wideAt_17 (by decide) ?_
      have hP9 := hP.sub (ws' := [(a, .inl (kA, n, .inr (.inl f)))]) [0] rfl
      have hD9 := hD.sub (ws' := [(a, .inl (kA, n, .inr (.inl f)))]) [0] (by decide) rfl
      have hK9 := hK.sub (tys' := []) [] rfl
      exact W.lret (v := y_3) hx hb hr (fun tZ htZ hW => ⟨⟨y_3, (), rfl, (ey_3.trans (atL_in (in_of hn (by assumption) (by assumption)))), by rw [htZ]; exact hP9, va_K.moved hW.alike hK9, hD9⟩, hS.F htZ⟩) hS.2.2 dX11_wideAt_21
theorem dX11_putWide_0 : decode cX11_putWide 0 = .ok (.aload_n 0, 1) := by decide +kernel
theorem dX11_putWide_1 : decode cX11_putWide 1 = .ok (.ifnull 17, 3) := by decide +kernel
theorem dX11_putWide_4 : decode cX11_putWide 4 = .ok (.iload_n 1, 1) := by decide +kernel
theorem dX11_putWide_5 : decode cX11_putWide 5 = .ok (.ifCond .lt 13, 3) := by decide +kernel
theorem dX11_putWide_8 : decode cX11_putWide 8 = .ok (.iload_n 1, 1) := by decide +kernel
theorem dX11_putWide_9 : decode cX11_putWide 9 = .ok (.aload_n 0, 1) := by decide +kernel
theorem dX11_putWide_10 : decode cX11_putWide 10 = .ok (.arraylength, 1) := by decide +kernel
theorem dX11_putWide_11 : decode cX11_putWide 11 = .ok (.if_icmp .ge 7, 3) := by decide +kernel
theorem dX11_putWide_14 : decode cX11_putWide 14 = .ok (.aload_n 0, 1) := by decide +kernel
theorem dX11_putWide_15 : decode cX11_putWide 15 = .ok (.iload_n 1, 1) := by decide +kernel
theorem dX11_putWide_16 : decode cX11_putWide 16 = .ok (.lload_n 2, 1) := by decide +kernel
theorem dX11_putWide_17 : decode cX11_putWide 17 = .ok (.lastore, 1) := by decide +kernel
theorem dX11_putWide_18 : decode cX11_putWide 18 = .ok (.return_, 1) := by decide +kernel
def wo_X11_putWide : List Cond := []
def wd_X11_putWide : List Cond := .code yX11_putWide cX11_putWide 4 none :: (wo_X11_putWide ++ ([] : List Cond))
theorem hd_X11_putWide : yX11_putWide.cls ≠ "java/lang/invoke/MethodHandle" ∧ yX11_putWide.cls ≠ "java/lang/invoke/VarHandle" ∧ (parseMethodDescriptor yX11_putWide.desc).map (fun d => d.parameters.length) = some 3 := by decide +kernel
set_option maxRecDepth 20000 in
theorem gw_X11_putWide : wd_X11_putWide.all goodWord = true := by decide +kernel
abbrev qc_X11_putWide (D : va_G) (a : Nat) (kA : ClassId) (n : Nat) (f : Nat → Int64) (i : Int32) (x : Int64) (A : Nat → Prop) : Array Value → State → Outcome → State → Prop := va_Qv (fun (uZ : (Nat → Int64)) => uZ = putL_v f n i x) (fun uZ tZ => kc_pos D A [(a, .inl (kA, n, .inr (.inl uZ)))] [] tZ) A
set_option maxHeartbeats 4000000 in
set_option maxRecDepth 100000 in
theorem ct_X11_putWide (l : Launch) (D : va_G) (a : Nat) (kA : ClassId) (n : Nat) (f : Nat → Int64) (i : Int32) (x : Int64) (sz : Nat) (hn : n < 2 ^ 31) : Met l yX11_putWide wd_X11_putWide ({ frames := 0, cells := 0, slots := 0, locals := 0 }) (va_Pc [.ref a, .int i, .long x] (kc_pre D [(kA, .long)] [(a, .inl (kA, n, .inr (.inl f)))] sz)) (qc_X11_putWide D a kA n f i x (va_A [(a, .inl (kA, n, .inr (.inl f)))] sz)) 0 0 (va_A [(a, .inl (kA, n, .inr (.inl f)))] sz) := by
  refine Met.ofW (cc := cX11_putWide) (maxL := 4) (ret := none) (by decide) rfl ?_
  intro p e s m args below meth c s₁ B hml hv
  obtain ⟨rfl, hsz, hP, hK, hN, hD0⟩ := hv
  have hx := B.exec
  have hb := B.bytes
  have hr := B.returns
  have hts := atoms_spec (ws := wd_X11_putWide) B.pre
  have hown : s.vm.findClass RX11 = some m.cls := findClass_of_methodNamed B.named
  have hlocks := B.notSynchronized
  subst hsz
  have hD := hD0.self (sz := s.heap.size)
  generalize hAe : va_A [(a, .inl (kA, n, .inr (.inl f)))] s.heap.size = A at hD ⊢
  have hA : ∀ q : Nat, s.heap.size ≤ q → A q := fun q h => by rw [← hAe]; exact Or.inr h
  have hS : va_S A s.heap s.heap [] := va_S.rf
  have hl := lv_entry ([.ref a, .int i, .long x]) (n := 4) (Nat.le_of_ble_eq_true rfl)
  rw [lg_entry_eq]
  generalize (lg_sl ([.ref a, .int i, .long x]) ++ List.replicate (4 - (lg_sl ([.ref a, .int i, .long x])).length) Slot.unset).toArray = ls at hl ⊢
  have hl : lv_has ls 4 [(0, .ref a), (1, .int i), (2, .long x)] := hl
  refine lv_aload_n hx hb dX11_putWide_0 rfl (lv_at hl 0 rfl) ?_
  refine lv_ifnull hx hb dX11_putWide_1 ?_
  refine lv_iload_n hx hb dX11_putWide_4 rfl (lv_at hl 1 rfl) ?_
  refine lv_if_lt (tgt := 18) hx hb dX11_putWide_5 (by decide) (fun c_1 => ?_) (fun c_1 => ?_)
  · have hP9 := hP.sub (ws' := [(a, .inl (kA, n, .inr (.inl f)))]) [0] rfl
    have hD9 := hD.sub (ws' := [(a, .inl (kA, n, .inr (.inl f)))]) [0] (by decide) rfl
    have hK9 := hK.sub (tys' := []) [] rfl
    exact W.vret hx hb hr (fun tZ htZ hW => ⟨⟨f, rfl, (by first | exact putL_lo (by assumption) | exact putL_hi hn (by assumption) (by assumption) | exact (by assumption : _ = _).symm.trans (putL_in (in_of hn (by assumption) (by assumption)))), by rw [htZ]; exact hP9, va_K.moved hW.alike hK9, hD9⟩, hS.F htZ⟩) hS.2.2 dX11_putWide_18
  · refine lv_iload_n hx hb dX11_putWide_8 rfl (lv_at hl 1 rfl) ?_
    refine lv_aload_n hx hb dX11_putWide_9 rfl (lv_at hl 0 rfl) ?_
    refine va_alen (v := nI n) hx hb hK hP 0 0 rfl rfl rfl dX11_putWide_10 ?_
    refine lv_icmp_ge (tgt := 18) hx hb dX11_putWide_11 (by decide) (fun c_2 => ?_) (fun c_2 => ?_)
    · have hP9 := hP.sub (ws' := [(a, .inl (kA, n, .inr (.inl f)))]) [0] rfl
      have hD9 := hD.sub (ws' := [(a, .inl (kA, n, .inr (.inl f)))]) [0] (by decide) rfl
      have hK9 := hK.sub (tys' := []) [] rfl
      exact W.vret hx hb hr (fun tZ htZ hW => ⟨⟨f, rfl, (by first | exact putL_lo (by assumption) | exact putL_hi hn (by assumption) (by assumption) | exact (by assumption : _ = _).symm.trans (putL_in (in_of hn (by assumption) (by assumption)))), by rw [htZ]; exact hP9, va_K.moved hW.alike hK9, hD9⟩, hS.F htZ⟩) hS.2.2 dX11_putWide_18
    · refine lv_aload_n hx hb dX11_putWide_14 rfl (lv_at hl 0 rfl) ?_
      refine lv_iload_n hx hb dX11_putWide_15 rfl (lv_at hl 1 rfl) ?_
      refine lv_lload_n hx hb dX11_putWide_16 rfl (lv_at hl 2 rfl) ?_
      refine va_last hx hb hK hP hD hS 0 0 rfl rfl (in_of hn (by assumption) (by assumption)) dX11_putWide_17 (fun H locs hP hD hS => ?_)
      generalize ef_3 : vp_updL f i.toNatClampNeg x = f_3 at hP hD
      have hP : va_P D vwCl [(a, .inl (kA, n, .inr (.inl f_3)))] H := hP
      have hD : va_D A [(a, .inl (kA, n, .inr (.inl f_3)))] := hD
      have hP9 := hP.sub (ws' := [(a, .inl (kA, n, .inr (.inl f_3)))]) [0] rfl
      have hD9 := hD.sub (ws' := [(a, .inl (kA, n, .inr (.inl f_3)))]) [0] (by decide) rfl
      have hK9 := hK.sub (tys' := []) [] rfl
      exact W.vret hx hb hr (fun tZ htZ hW => ⟨⟨f_3, rfl, (by first | exact putL_lo (by assumption) | exact putL_hi hn (by assumption) (by assumption) | exact (by assumption : _ = _).symm.trans (putL_in (in_of hn (by assumption) (by assumption)))), by rw [htZ]; exact hP9, va_K.moved hW.alike hK9, hD9⟩, hS.F htZ⟩) hS.2.2 dX11_putWide_18
theorem dJ7_fill_53178_0 : decode cJ7_fill_53178 0 = .ok (.iconst 0, 1) := by decide +kernel
theorem dJ7_fill_53178_1 : decode cJ7_fill_53178 1 = .ok (.istore_n 2, 1) := by decide +kernel
theorem dJ7_fill_53178_2 : decode cJ7_fill_53178 2 = .ok (.aload_n 0, 1) := by decide +kernel
theorem dJ7_fill_53178_3 : decode cJ7_fill_53178 3 = .ok (.arraylength, 1) := by decide +kernel
theorem dJ7_fill_53178_4 : decode cJ7_fill_53178 4 = .ok (.istore_n 3, 1) := by decide +kernel
theorem dJ7_fill_53178_5 : decode cJ7_fill_53178 5 = .ok (.iload_n 2, 1) := by decide +kernel
theorem dJ7_fill_53178_6 : decode cJ7_fill_53178 6 = .ok (.iload_n 3, 1) := by decide +kernel
theorem dJ7_fill_53178_7 : decode cJ7_fill_53178 7 = .ok (.if_icmp .ge 13, 3) := by decide +kernel
theorem dJ7_fill_53178_10 : decode cJ7_fill_53178 10 = .ok (.aload_n 0, 1) := by decide +kernel
theorem dJ7_fill_53178_11 : decode cJ7_fill_53178 11 = .ok (.iload_n 2, 1) := by decide +kernel
theorem dJ7_fill_53178_12 : decode cJ7_fill_53178 12 = .ok (.iload_n 1, 1) := by decide +kernel
theorem dJ7_fill_53178_13 : decode cJ7_fill_53178 13 = .ok (.iastore, 1) := by decide +kernel
theorem dJ7_fill_53178_14 : decode cJ7_fill_53178 14 = .ok (.iinc 2 1, 3) := by decide +kernel
theorem dJ7_fill_53178_17 : decode cJ7_fill_53178 17 = .ok (.goto (-12), 3) := by decide +kernel
theorem dJ7_fill_53178_20 : decode cJ7_fill_53178 20 = .ok (.return_, 1) := by decide +kernel
def wo_J7_fill_53178 : List Cond := []
def wd_J7_fill_53178 : List Cond := .code yJ7_fill_53178 cJ7_fill_53178 4 none :: (wo_J7_fill_53178 ++ ([] : List Cond))
theorem hd_J7_fill_53178 : yJ7_fill_53178.cls ≠ "java/lang/invoke/MethodHandle" ∧ yJ7_fill_53178.cls ≠ "java/lang/invoke/VarHandle" ∧ (parseMethodDescriptor yJ7_fill_53178.desc).map (fun d => d.parameters.length) = some 2 := by decide +kernel
set_option maxRecDepth 20000 in
theorem gw_J7_fill_53178 : wd_J7_fill_53178.all goodWord = true := by decide +kernel
abbrev qc_J7_fill_53178 (D : va_G) (a : Nat) (kA : ClassId) (n : Nat) (f : Nat → Int32) (v : Int32) (A : Nat → Prop) : Array Value → State → Outcome → State → Prop := va_Qv (fun (uZ : (Nat → Int32)) => ∀ k, k < n → uZ k = v) (fun uZ tZ => kc_pos D A [(a, .inl (kA, n, .inl uZ))] [] tZ) A
set_option maxHeartbeats 4000000 in
set_option maxRecDepth 100000 in
theorem ct_J7_fill_53178 (l : Launch) (D : va_G) (a : Nat) (kA : ClassId) (n : Nat) (f : Nat → Int32) (v : Int32) (sz : Nat) (hn : n < 2 ^ 31) : Met l yJ7_fill_53178 wd_J7_fill_53178 ({ frames := 0, cells := 0, slots := 0, locals := 0 }) (va_Pc [.ref a, .int v] (kc_pre D [(kA, .int)] [(a, .inl (kA, n, .inl f))] sz)) (qc_J7_fill_53178 D a kA n f v (va_A [(a, .inl (kA, n, .inl f))] sz)) 0 0 (va_A [(a, .inl (kA, n, .inl f))] sz) := by
  refine Met.ofW (cc := cJ7_fill_53178) (maxL := 4) (ret := none) (by decide) rfl ?_
  intro p e s m args below meth c s₁ B hml hv
  obtain ⟨rfl, hsz, hP, hK, hN, hD0⟩ := hv
  have hx := B.exec
  have hb := B.bytes
  have hr := B.returns
  have hts := atoms_spec (ws := wd_J7_fill_53178) B.pre
  have hown : s.vm.findClass RJ7 = some m.cls := findClass_of_methodNamed B.named
  have hlocks := B.notSynchronized
  subst hsz
  have hD := hD0.self (sz := s.heap.size)
  generalize hAe : va_A [(a, .inl (kA, n, .inl f))] s.heap.size = A at hD ⊢
  have hA : ∀ q : Nat, s.heap.size ≤ q → A q := fun q h => by rw [← hAe]; exact Or.inr h
  have hS : va_S A s.heap s.heap [] := va_S.rf
  have hl := lv_entry ([.ref a, .int v]) (n := 4) (Nat.le_of_ble_eq_true rfl)
  rw [lg_entry_eq]
  generalize (lg_sl ([.ref a, .int v]) ++ List.replicate (4 - (lg_sl ([.ref a, .int v])).length) Slot.unset).toArray = ls at hl ⊢
  have hl : lv_has ls 4 [(0, .ref a), (1, .int v)] := hl
  refine lv_iconst (v := 0) hx hb dJ7_fill_53178_0 (by decide) ?_
  refine lv_istore_n (lv' := [(2, .int 0), (0, .ref a), (1, .int v)]) hx hb dJ7_fill_53178_1 rfl hl (by decide) rfl (fun ls hl => ?_)
  refine lv_aload_n hx hb dJ7_fill_53178_2 rfl (lv_at hl 1 rfl) ?_
  refine va_alen (v := nI n) hx hb hK hP 0 0 rfl rfl rfl dJ7_fill_53178_3 ?_
  refine lv_istore_n (lv' := [(3, .int (nI n)), (2, .int 0), (0, .ref a), (1, .int v)]) hx hb dJ7_fill_53178_4 rfl hl (by decide) rfl (fun ls hl => ?_)
  have lp_1 : ∀ (fu_3 : Nat) (j : Nat) (g : Nat → Int32) (H : Heap) (locs : List Loc) (ls : Array Slot), (j ≤ n) → (∀ k, k < j → g k = v) → n - j < fu_3 → va_P D vwCl [(a, .inl (kA, n, .inl g))] H → va_D A [(a, .inl (kA, n, .inl g))] → va_S A s.heap H locs → lv_has ls 4 [(3, .int (nI n)), (2, .int (nI j)), (0, .ref a), (1, .int v)] → W p l e (headSpec wd_J7_fill_53178 ({ frames := 0, cells := 0, slots := 0, locals := 0 })).room s m [.ref a, .int v].toArray below meth c H locs 0 0 (MQ below (qc_J7_fill_53178 D a kA n f v A) [.ref a, .int v].toArray s 0 0 A) (F0 m 5 ls []) := by
    intro fu_3
    induction fu_3 with
    | zero => intro j g H locs ls hj hg hf; exact absurd hf (Nat.not_lt_zero _)
    | succ fu_3 ih_2 =>
      intro j g H locs ls hj hg hf hP hD hS hl
      refine lv_iload_n hx hb dJ7_fill_53178_5 rfl (lv_at hl 1 rfl) ?_
      refine lv_iload_n hx hb dJ7_fill_53178_6 rfl (lv_at hl 0 rfl) ?_
      refine lv_icmp_ge (tgt := 20) hx hb dJ7_fill_53178_7 (by decide) (fun c_4 => ?_) (fun c_4 => ?_)
      · have hP9 := hP.sub (ws' := [(a, .inl (kA, n, .inl g))]) [0] rfl
        have hD9 := hD.sub (ws' := [(a, .inl (kA, n, .inl g))]) [0] (by decide) rfl
        have hK9 := hK.sub (tys' := []) [] rfl
        exact W.vret hx hb hr (fun tZ htZ hW => ⟨⟨g, rfl, (fun k hk => hg k (Nat.lt_of_lt_of_le hk (nk_ge hn hj c_4))), by rw [htZ]; exact hP9, va_K.moved hW.alike hK9, hD9⟩, hS.F htZ⟩) hS.2.2 dJ7_fill_53178_20
      · refine lv_aload_n hx hb dJ7_fill_53178_10 rfl (lv_at hl 2 rfl) ?_
        refine lv_iload_n hx hb dJ7_fill_53178_11 rfl (lv_at hl 1 rfl) ?_
        refine lv_iload_n hx hb dJ7_fill_53178_12 rfl (lv_at hl 3 rfl) ?_
        refine va_iast hx hb hK hP hD hS 0 0 rfl rfl (vp_in_nI (nk_lt hn hj c_4) hn) dJ7_fill_53178_13 (fun H locs hP hD hS => ?_)
        have hP : va_P D vwCl [(a, .inl (kA, n, .inl (upd g (nI j).toNatClampNeg v)))] H := hP
        have hD : va_D A [(a, .inl (kA, n, .inl (upd g (nI j).toNatClampNeg v)))] := hD
        refine lv_iinc (v := nI (j + 1)) (lv' := [(2, .int (nI (j + 1))), (3, .int (nI n)), (0, .ref a), (1, .int v)]) hx hb dJ7_fill_53178_14 hl (k := 1) rfl (by rw [← nI_1]; rfl) (by decide) rfl (fun ls hl => ?_)
        refine lv_goto (tgt := 5) hx hb dJ7_fill_53178_17 (by decide) ?_
        exact ih_2 (j + 1) (upd g (nI j).toNatClampNeg v) _ _ _ (nk_lt hn hj c_4) (fill_step (by omega) hg) (by have := nk_lt hn hj c_4; omega) (hP.sub [0] rfl) (hD.sub [0] (by decide) rfl) hS (lv_sub hl [1, 0, 2, 3] rfl)
  exact lp_1 _ 0 f _ _ _ (Nat.zero_le _) (fun k hk => absurd hk (Nat.not_lt_zero k)) (Nat.lt_succ_self _) hP hD hS (lv_sub hl [0, 1, 2, 3] rfl)
end
section
theorem ti_0 : (0 : Int32).toInt = 0 := by decide
theorem ti_1 : (1 : Int32).toInt = 1 := by decide
theorem ti_2 : (2 : Int32).toInt = 2 := by decide
theorem ti_3 : (3 : Int32).toInt = 3 := by decide
theorem ti_4 : (4 : Int32).toInt = 4 := by decide
theorem ti_5 : (5 : Int32).toInt = 5 := by decide
theorem ti_6 : (6 : Int32).toInt = 6 := by decide
theorem ti_8 : (8 : Int32).toInt = 8 := by decide
theorem ti_9 : (9 : Int32).toInt = 9 := by decide
theorem ti_10 : (10 : Int32).toInt = 10 := by decide
theorem ti_12 : (12 : Int32).toInt = 12 := by decide
theorem ti_18 : (18 : Int32).toInt = 18 := by decide
theorem ti_59 : (59 : Int32).toInt = 59 := by decide
theorem ti_60 : (60 : Int32).toInt = 60 := by decide
theorem ti_100 : (100 : Int32).toInt = 100 := by decide
theorem ti_127 : (127 : Int32).toInt = 127 := by decide
theorem ti_m1 : ((-1) : Int32).toInt = -1 := by decide
theorem ti_m2 : ((-2) : Int32).toInt = -2 := by decide
theorem ti_m3 : ((-3) : Int32).toInt = -3 := by decide
theorem ti_m4 : ((-4) : Int32).toInt = -4 := by decide
theorem ti_m5 : ((-5) : Int32).toInt = -5 := by decide
theorem ti_m10 : ((-10) : Int32).toInt = -10 := by decide
theorem ti_m11 : ((-11) : Int32).toInt = -11 := by decide
theorem ti_m12 : ((-12) : Int32).toInt = -12 := by decide
theorem ti_m13 : ((-13) : Int32).toInt = -13 := by decide
theorem ti_m14 : ((-14) : Int32).toInt = -14 := by decide
theorem z_shr (s : Int32) : (0 : Int32) >>> (s &&& 31) = 0 := by
  apply Int32.toBitVec_inj.1
  simp [Int32.toBitVec_shiftRight]
theorem z_shl (s : Int32) : (0 : Int32) <<< (s &&& 31) = 0 := by
  apply Int32.toBitVec_inj.1
  simp [Int32.toBitVec_shiftLeft]
theorem z_and (s : Int32) : (0 : Int32) &&& s = 0 := by
  apply Int32.toBitVec_inj.1
  simp
theorem z_and2 (s : Int32) : s &&& (0 : Int32) = 0 := by
  apply Int32.toBitVec_inj.1
  simp
theorem z_mul (s : Int32) : (0 : Int32) * s = 0 := by
  apply Int32.toBitVec_inj.1
  simp
theorem at_v0 (n : Nat) (i : Int32) : at_v (fun _ => 0) n i = 0 := by unfold at_v; split <;> rfl
theorem atL_v0 (n : Nat) (i : Int32) : atL_v (fun _ => 0) n i = 0 := by unfold atL_v; split <;> rfl
theorem dX3_init_0 : decode cX3_init 0 = .ok (.aload_n 0, 1) := by decide +kernel
theorem dX3_init_1 : decode cX3_init 1 = .ok (.invokespecial 3, 3) := by decide +kernel
theorem dX3_init_4 : decode cX3_init 4 = .ok (.aload_n 0, 1) := by decide +kernel
theorem dX3_init_5 : decode cX3_init 5 = .ok (.iconst 4, 1) := by decide +kernel
theorem dX3_init_6 : decode cX3_init 6 = .ok (.newarray .int, 2) := by decide +kernel
theorem dX3_init_8 : decode cX3_init 8 = .ok (.putfield 9, 3) := by decide +kernel
theorem dX3_init_11 : decode cX3_init 11 = .ok (.aload_n 0, 1) := by decide +kernel
theorem dX3_init_12 : decode cX3_init 12 = .ok (.bipush 18, 2) := by decide +kernel
theorem dX3_init_14 : decode cX3_init 14 = .ok (.newarray .int, 2) := by decide +kernel
theorem dX3_init_16 : decode cX3_init 16 = .ok (.putfield 15, 3) := by decide +kernel
theorem dX3_init_19 : decode cX3_init 19 = .ok (.aload_n 0, 1) := by decide +kernel
theorem dX3_init_20 : decode cX3_init 20 = .ok (.iconst 1, 1) := by decide +kernel
theorem dX3_init_21 : decode cX3_init 21 = .ok (.putfield 18, 3) := by decide +kernel
theorem dX3_init_24 : decode cX3_init 24 = .ok (.return_, 1) := by decide +kernel
def wo_X3_init : List Cond := [.methodLink RX3 3 objectInit, .instanceMethod objectInit, .code objectInit ⟨#[0xb1]⟩ 1 none, .arrayClass .int, .fieldLink RX3 9 "DynamicLogicProver$Model" "truths" "[I", .fieldLink RX3 15 "DynamicLogicProver$Model" "moves" "[I", .fieldLink RX3 18 "DynamicLogicProver$Model" "worlds" "I"]
def wd_X3_init : List Cond := .code yX3_init cX3_init 1 none :: (wo_X3_init ++ (wsX30 ++ ([] : List Cond)))
theorem mo_X3_init {w : Cond} (i : Nat) (h : wo_X3_init[i]? = some w) : w ∈ wd_X3_init := List.mem_cons_of_mem _ (List.mem_append_left _ (List.mem_of_getElem? h))
theorem mb_X3_init_0 : ∀ w ∈ wsX30, w ∈ wd_X3_init := fun w h => List.mem_cons_of_mem _ (List.mem_append_right _ (List.mem_append_left _ h))
theorem hd_X3_init : yX3_init.cls ≠ "java/lang/invoke/MethodHandle" ∧ yX3_init.cls ≠ "java/lang/invoke/VarHandle" ∧ (parseMethodDescriptor yX3_init.desc).map (fun d => d.parameters.length) = some 0 := by decide +kernel
set_option maxRecDepth 20000 in
theorem gw_X3_init : wd_X3_init.all goodWord = true := by decide +kernel
abbrev qc_X3_init (D : va_G) (h : Nat) (A : Nat → Prop) : Array Value → State → Outcome → State → Prop := va_Qv (fun (uZ : (Nat) × (Nat) × (ClassId) × (ClassId)) => True) (fun uZ tZ => kc_pos D A [(h, .inr (3, [.ref uZ.1, .ref uZ.2.1, .int 1])), (uZ.1, .inl (uZ.2.2.1, 4, .inl (fun _ => 0))), (uZ.2.1, .inl (uZ.2.2.2, 18, .inl (fun _ => 0)))] [(uZ.2.2.1, .int), (uZ.2.2.2, .int)] tZ) A
set_option maxHeartbeats 4000000 in
set_option maxRecDepth 100000 in
theorem ct_X3_init (l : Launch) (D : va_G) (h : Nat) (sz : Nat)  : Met l yX3_init wd_X3_init ({ frames := 1, cells := 2, slots := 22, locals := 12 }) (va_Pc [.ref h] (kc_pre D [] [(h, .inr (3, [.null, .null, .int 0]))] sz)) (qc_X3_init D h (va_A [(h, .inr (3, [.null, .null, .int 0]))] sz)) 2 22 (va_A [(h, .inr (3, [.null, .null, .int 0]))] sz) := by
  refine Met.ofW (cc := cX3_init) (maxL := 1) (ret := none) (by decide) rfl ?_
  intro p e s m args below meth c s₁ B hml hv
  obtain ⟨rfl, hsz, hP, hK, hN, hD0⟩ := hv
  have hx := B.exec
  have hb := B.bytes
  have hr := B.returns
  have hts := atoms_spec (ws := wd_X3_init) B.pre
  have hown : s.vm.findClass RX3 = some m.cls := findClass_of_methodNamed B.named
  have hlocks := B.notSynchronized
  have hin : meth.name = "<init>" := (name_of_methodNamed B.named B.method).1
  subst hsz
  have hD := hD0.self (sz := s.heap.size)
  generalize hAe : va_A [(h, .inr (3, [.null, .null, .int 0]))] s.heap.size = A at hD ⊢
  have hA : ∀ q : Nat, s.heap.size ≤ q → A q := fun q h => by rw [← hAe]; exact Or.inr h
  have hS : va_S A s.heap s.heap [] := va_S.rf
  have hiX3 : ∀ w ∈ wsX30, w ∈ wd_X3_init := mb_X3_init_0
  have hl := lv_entry ([.ref h]) (n := 1) (Nat.le_of_ble_eq_true rfl)
  rw [lg_entry_eq]
  generalize (lg_sl ([.ref h]) ++ List.replicate (1 - (lg_sl ([.ref h])).length) Slot.unset).toArray = ls at hl ⊢
  have hl : lv_has ls 1 [(0, .ref h)] := hl
  refine lv_aload_n hx hb dX3_init_0 rfl (lv_at hl 0 rfl) ?_
  refine W.objInit hx hb hown (hts (.methodLink RX3 3 objectInit) (mo_X3_init 0 rfl)) (hts (.instanceMethod objectInit) (mo_X3_init 1 rfl)) (hts (.code objectInit ⟨#[0xb1]⟩ 1 none) (mo_X3_init 2 rfl)) rfl (by rw [hml]; exact hl.1) rfl dX3_init_1 (Nat.le_of_ble_eq_true rfl) (Nat.le_of_ble_eq_true rfl) ?_
  refine W.eq (g2 := F0 m 4 ls []) rfl ?_
  refine lv_aload_n hx hb dX3_init_4 rfl (lv_at hl 0 rfl) ?_
  refine lv_iconst (v := 4) hx hb dX3_init_5 (by decide) ?_
  refine va_newa (atype := .int) (ty := .int) (a0 := (4, .inl (fun _ => 0))) hx hb (hts (.arrayClass .int) (mo_X3_init 3 rfl)) rfl hK hP hD hS hA (fun _ => rfl) (by decide) (N' := 4) (by decide) (by decide) (Nat.le_of_ble_eq_true rfl) (Nat.le_of_ble_eq_true rfl) dX3_init_6 (fun q_1 k_2 H hK hP hD hS => ?_)
  have hP : va_P D vwCl [(h, .inr (3, [.null, .null, .int 0])), (q_1, .inl (k_2, 4, .inl (fun _ => 0)))] H := hP
  have hD : va_D A [(h, .inr (3, [.null, .null, .int 0])), (q_1, .inl (k_2, 4, .inl (fun _ => 0)))] := hD
  have hK : va_K D vwCl [(k_2, .int)] s := hK
  refine W.widen (k := 1) (n := 4) (by decide) (Nat.le_of_ble_eq_true rfl) ?_
  refine va_putF (D := D) (ci := 3) (v := .ref q_1) (ty := .array .int) (C := RX3) (T := TX3) (N := 3) hx hb hts hiX3 tyX3 tyX3_ok nmX3 hown hK hP hD hS 0 rfl rfl 0 (by decide) (hts (.fieldLink RX3 9 "DynamicLogicProver$Model" "truths" "[I") (mo_X3_init 4 rfl)) (fun _ h9 => h9) rfl hin rfl (tyX3_ok 0 (by decide)) rfl rfl (Nat.le_of_ble_eq_true rfl) dX3_init_8 (fun H locs hP hD hS => ?_)
  have hP : va_P D vwCl [(h, .inr (3, [.ref q_1, .null, .int 0])), (q_1, .inl (k_2, 4, .inl (fun _ => 0)))] H := hP
  have hD : va_D A [(h, .inr (3, [.ref q_1, .null, .int 0])), (q_1, .inl (k_2, 4, .inl (fun _ => 0)))] := hD
  refine lv_aload_n hx hb dX3_init_11 rfl (lv_at hl 0 rfl) ?_
  refine lv_bipush (v := 18) hx hb dX3_init_12 (by decide) ?_
  refine va_newa (atype := .int) (ty := .int) (a0 := (18, .inl (fun _ => 0))) hx hb (hts (.arrayClass .int) (mo_X3_init 3 rfl)) rfl hK hP hD hS hA (fun _ => rfl) (by decide) (N' := 18) (by decide) (by decide) (Nat.le_of_ble_eq_true rfl) (Nat.le_of_ble_eq_true rfl) dX3_init_14 (fun q_3 k_4 H hK hP hD hS => ?_)
  have hP : va_P D vwCl [(h, .inr (3, [.ref q_1, .null, .int 0])), (q_1, .inl (k_2, 4, .inl (fun _ => 0))), (q_3, .inl (k_4, 18, .inl (fun _ => 0)))] H := hP
  have hD : va_D A [(h, .inr (3, [.ref q_1, .null, .int 0])), (q_1, .inl (k_2, 4, .inl (fun _ => 0))), (q_3, .inl (k_4, 18, .inl (fun _ => 0)))] := hD
  have hK : va_K D vwCl [(k_2, .int), (k_4, .int)] s := hK
  refine W.widen (k := 2) (n := 22) (by decide) (Nat.le_of_ble_eq_true rfl) ?_
  refine va_putF (D := D) (ci := 3) (v := .ref q_3) (ty := .array .int) (C := RX3) (T := TX3) (N := 3) hx hb hts hiX3 tyX3 tyX3_ok nmX3 hown hK hP hD hS 0 rfl rfl 1 (by decide) (hts (.fieldLink RX3 15 "DynamicLogicProver$Model" "moves" "[I") (mo_X3_init 5 rfl)) (fun _ h9 => h9) rfl hin rfl (tyX3_ok 1 (by decide)) rfl rfl (Nat.le_of_ble_eq_true rfl) dX3_init_16 (fun H locs hP hD hS => ?_)
  have hP : va_P D vwCl [(h, .inr (3, [.ref q_1, .ref q_3, .int 0])), (q_1, .inl (k_2, 4, .inl (fun _ => 0))), (q_3, .inl (k_4, 18, .inl (fun _ => 0)))] H := hP
  have hD : va_D A [(h, .inr (3, [.ref q_1, .ref q_3, .int 0])), (q_1, .inl (k_2, 4, .inl (fun _ => 0))), (q_3, .inl (k_4, 18, .inl (fun _ => 0)))] := hD
  refine lv_aload_n hx hb dX3_init_19 rfl (lv_at hl 0 rfl) ?_
  refine lv_iconst (v := 1) hx hb dX3_init_20 (by decide) ?_
  refine va_put (D := D) (ci := 3) (v := .int 1) (ty := .int) (C := RX3) (T := TX3) (N := 3) hx hb hts hiX3 tyX3 tyX3_ok nmX3 hown hK hP hD hS 0 rfl rfl 2 (by decide) (hts (.fieldLink RX3 18 "DynamicLogicProver$Model" "worlds" "I") (mo_X3_init 6 rfl)) (fun _ h9 => h9) rfl (tyX3_ok 2 (by decide)) rfl rfl (Nat.le_of_ble_eq_true rfl) dX3_init_21 (fun H locs hP hD hS => ?_)
  have hP : va_P D vwCl [(h, .inr (3, [.ref q_1, .ref q_3, .int 1])), (q_1, .inl (k_2, 4, .inl (fun _ => 0))), (q_3, .inl (k_4, 18, .inl (fun _ => 0)))] H := hP
  have hD : va_D A [(h, .inr (3, [.ref q_1, .ref q_3, .int 1])), (q_1, .inl (k_2, 4, .inl (fun _ => 0))), (q_3, .inl (k_4, 18, .inl (fun _ => 0)))] := hD
  have hP9 := hP.sub (ws' := [(h, .inr (3, [.ref q_1, .ref q_3, .int 1])), (q_1, .inl (k_2, 4, .inl (fun _ => 0))), (q_3, .inl (k_4, 18, .inl (fun _ => 0)))]) [0, 1, 2] rfl
  have hD9 := hD.sub (ws' := [(h, .inr (3, [.ref q_1, .ref q_3, .int 1])), (q_1, .inl (k_2, 4, .inl (fun _ => 0))), (q_3, .inl (k_4, 18, .inl (fun _ => 0)))]) [0, 1, 2] (by decide) rfl
  have hK9 := hK.sub (tys' := [(k_2, .int), (k_4, .int)]) [0, 1] rfl
  refine W.widen (k := 2) (n := 22) (Nat.le_of_ble_eq_true rfl) (Nat.le_of_ble_eq_true rfl) ?_
  exact W.vret hx hb hr (fun tZ htZ hW => ⟨⟨(q_1, q_3, k_2, k_4), rfl, trivial, by rw [htZ]; exact hP9, va_K.moved hW.alike hK9, hD9⟩, hS.F htZ⟩) hS.2.2 dX3_init_24
theorem dX3_size_0 : decode cX3_size 0 = .ok (.aload_n 0, 1) := by decide +kernel
theorem dX3_size_1 : decode cX3_size 1 = .ok (.getfield 18, 3) := by decide +kernel
theorem dX3_size_4 : decode cX3_size 4 = .ok (.ireturn, 1) := by decide +kernel
def wo_X3_size : List Cond := [.fieldLink RX3 18 "DynamicLogicProver$Model" "worlds" "I"]
def wd_X3_size : List Cond := .code yX3_size cX3_size 1 (some .int) :: (wo_X3_size ++ (wsX30 ++ ([] : List Cond)))
theorem mo_X3_size {w : Cond} (i : Nat) (h : wo_X3_size[i]? = some w) : w ∈ wd_X3_size := List.mem_cons_of_mem _ (List.mem_append_left _ (List.mem_of_getElem? h))
theorem mb_X3_size_0 : ∀ w ∈ wsX30, w ∈ wd_X3_size := fun w h => List.mem_cons_of_mem _ (List.mem_append_right _ (List.mem_append_left _ h))
theorem hd_X3_size : yX3_size.cls ≠ "java/lang/invoke/MethodHandle" ∧ yX3_size.cls ≠ "java/lang/invoke/VarHandle" ∧ (parseMethodDescriptor yX3_size.desc).map (fun d => d.parameters.length) = some 0 := by decide +kernel
set_option maxRecDepth 20000 in
theorem gw_X3_size : wd_X3_size.all goodWord = true := by decide +kernel
abbrev qc_X3_size (D : va_G) (h : Nat) (t : Nat) (v : Nat) (n : Int32) (A : Nat → Prop) : Array Value → State → Outcome → State → Prop := va_Qi (fun (r : Int32) (uZ : Unit) => r = n) (fun uZ tZ => kc_pos D A [(h, .inr (3, [.ref t, .ref v, .int n]))] [] tZ) A
set_option maxHeartbeats 4000000 in
set_option maxRecDepth 100000 in
theorem ct_X3_size (l : Launch) (D : va_G) (h : Nat) (t : Nat) (v : Nat) (n : Int32) (sz : Nat)  : Met l yX3_size wd_X3_size ({ frames := 0, cells := 0, slots := 0, locals := 0 }) (va_Pc [.ref h] (kc_pre D [] [(h, .inr (3, [.ref t, .ref v, .int n]))] sz)) (qc_X3_size D h t v n (va_A [(h, .inr (3, [.ref t, .ref v, .int n]))] sz)) 0 0 (va_A [(h, .inr (3, [.ref t, .ref v, .int n]))] sz) := by
  refine Met.ofW (cc := cX3_size) (maxL := 1) (ret := (some .int)) (by decide) rfl ?_
  intro p e s m args below meth c s₁ B hml hv
  obtain ⟨rfl, hsz, hP, hK, hN, hD0⟩ := hv
  have hx := B.exec
  have hb := B.bytes
  have hr := B.returns
  have hts := atoms_spec (ws := wd_X3_size) B.pre
  have hown : s.vm.findClass RX3 = some m.cls := findClass_of_methodNamed B.named
  have hlocks := B.notSynchronized
  subst hsz
  have hD := hD0.self (sz := s.heap.size)
  generalize hAe : va_A [(h, .inr (3, [.ref t, .ref v, .int n]))] s.heap.size = A at hD ⊢
  have hA : ∀ q : Nat, s.heap.size ≤ q → A q := fun q h => by rw [← hAe]; exact Or.inr h
  have hS : va_S A s.heap s.heap [] := va_S.rf
  have hiX3 : ∀ w ∈ wsX30, w ∈ wd_X3_size := mb_X3_size_0
  have hl := lv_entry ([.ref h]) (n := 1) (Nat.le_of_ble_eq_true rfl)
  rw [lg_entry_eq]
  generalize (lg_sl ([.ref h]) ++ List.replicate (1 - (lg_sl ([.ref h])).length) Slot.unset).toArray = ls at hl ⊢
  have hl : lv_has ls 1 [(0, .ref h)] := hl
  refine lv_aload_n hx hb dX3_size_0 rfl (lv_at hl 0 rfl) ?_
  refine va_get (D := D) (ci := 3) (v := .int n) (C := RX3) (T := TX3) (N := 3) hx hb hts hiX3 hown hK hP 0 rfl rfl 2 (by decide) (hts (.fieldLink RX3 18 "DynamicLogicProver$Model" "worlds" "I") (mo_X3_size 0 rfl)) (fun _ h9 => h9) rfl dX3_size_1 ?_
  have hP9 := hP.sub (ws' := [(h, .inr (3, [.ref t, .ref v, .int n]))]) [0] rfl
  have hD9 := hD.sub (ws' := [(h, .inr (3, [.ref t, .ref v, .int n]))]) [0] (by decide) rfl
  have hK9 := hK.sub (tys' := []) [] rfl
  exact W.iret (v := n) hx hb hr (fun tZ htZ hW => ⟨⟨n, (), rfl, rfl, by rw [htZ]; exact hP9, va_K.moved hW.alike hK9, hD9⟩, hS.F htZ⟩) hS.2.2 dX3_size_4
theorem dX3_has_0 : decode cX3_has 0 = .ok (.iload_n 1, 1) := by decide +kernel
theorem dX3_has_1 : decode cX3_has 1 = .ok (.ifCond .lt 15, 3) := by decide +kernel
theorem dX3_has_4 : decode cX3_has 4 = .ok (.iload_n 1, 1) := by decide +kernel
theorem dX3_has_5 : decode cX3_has 5 = .ok (.aload_n 0, 1) := by decide +kernel
theorem dX3_has_6 : decode cX3_has 6 = .ok (.getfield 18, 3) := by decide +kernel
theorem dX3_has_9 : decode cX3_has 9 = .ok (.if_icmp .ge 7, 3) := by decide +kernel
theorem dX3_has_12 : decode cX3_has 12 = .ok (.iconst 1, 1) := by decide +kernel
theorem dX3_has_13 : decode cX3_has 13 = .ok (.goto 4, 3) := by decide +kernel
theorem dX3_has_16 : decode cX3_has 16 = .ok (.iconst 0, 1) := by decide +kernel
theorem dX3_has_17 : decode cX3_has 17 = .ok (.ireturn, 1) := by decide +kernel
def wo_X3_has : List Cond := [.fieldLink RX3 18 "DynamicLogicProver$Model" "worlds" "I"]
def wd_X3_has : List Cond := .code yX3_has cX3_has 2 (some .boolean) :: (wo_X3_has ++ (wsX30 ++ ([] : List Cond)))
theorem mo_X3_has {w : Cond} (i : Nat) (h : wo_X3_has[i]? = some w) : w ∈ wd_X3_has := List.mem_cons_of_mem _ (List.mem_append_left _ (List.mem_of_getElem? h))
theorem mb_X3_has_0 : ∀ w ∈ wsX30, w ∈ wd_X3_has := fun w h => List.mem_cons_of_mem _ (List.mem_append_right _ (List.mem_append_left _ h))
theorem hd_X3_has : yX3_has.cls ≠ "java/lang/invoke/MethodHandle" ∧ yX3_has.cls ≠ "java/lang/invoke/VarHandle" ∧ (parseMethodDescriptor yX3_has.desc).map (fun d => d.parameters.length) = some 1 := by decide +kernel
set_option maxRecDepth 20000 in
theorem gw_X3_has : wd_X3_has.all goodWord = true := by decide +kernel
abbrev qc_X3_has (D : va_G) (h : Nat) (t : Nat) (v : Nat) (n : Int32) (w : Int32) (A : Nat → Prop) : Array Value → State → Outcome → State → Prop := va_Qi (fun (r : Int32) (uZ : Unit) => (r = 1 ∧ (0 ≤ w ∧ w < n)) ∨ (r = 0 ∧ ¬ (0 ≤ w ∧ w < n))) (fun uZ tZ => kc_pos D A [(h, .inr (3, [.ref t, .ref v, .int n]))] [] tZ) A
set_option maxHeartbeats 4000000 in
set_option maxRecDepth 100000 in
theorem ct_X3_has (l : Launch) (D : va_G) (h : Nat) (t : Nat) (v : Nat) (n : Int32) (w : Int32) (sz : Nat)  : Met l yX3_has wd_X3_has ({ frames := 0, cells := 0, slots := 0, locals := 0 }) (va_Pc [.ref h, .int w] (kc_pre D [] [(h, .inr (3, [.ref t, .ref v, .int n]))] sz)) (qc_X3_has D h t v n w (va_A [(h, .inr (3, [.ref t, .ref v, .int n]))] sz)) 0 0 (va_A [(h, .inr (3, [.ref t, .ref v, .int n]))] sz) := by
  refine Met.ofW (cc := cX3_has) (maxL := 2) (ret := (some .boolean)) (by decide) rfl ?_
  intro p e s m args below meth c s₁ B hml hv
  obtain ⟨rfl, hsz, hP, hK, hN, hD0⟩ := hv
  have hx := B.exec
  have hb := B.bytes
  have hr := B.returns
  have hts := atoms_spec (ws := wd_X3_has) B.pre
  have hown : s.vm.findClass RX3 = some m.cls := findClass_of_methodNamed B.named
  have hlocks := B.notSynchronized
  subst hsz
  have hD := hD0.self (sz := s.heap.size)
  generalize hAe : va_A [(h, .inr (3, [.ref t, .ref v, .int n]))] s.heap.size = A at hD ⊢
  have hA : ∀ q : Nat, s.heap.size ≤ q → A q := fun q h => by rw [← hAe]; exact Or.inr h
  have hS : va_S A s.heap s.heap [] := va_S.rf
  have hiX3 : ∀ w ∈ wsX30, w ∈ wd_X3_has := mb_X3_has_0
  have hl := lv_entry ([.ref h, .int w]) (n := 2) (Nat.le_of_ble_eq_true rfl)
  rw [lg_entry_eq]
  generalize (lg_sl ([.ref h, .int w]) ++ List.replicate (2 - (lg_sl ([.ref h, .int w])).length) Slot.unset).toArray = ls at hl ⊢
  have hl : lv_has ls 2 [(0, .ref h), (1, .int w)] := hl
  refine lv_iload_n hx hb dX3_has_0 rfl (lv_at hl 1 rfl) ?_
  refine lv_if_lt (tgt := 16) hx hb dX3_has_1 (by decide) (fun c_1 => ?_) (fun c_1 => ?_)
  · refine lv_iconst (v := 0) hx hb dX3_has_16 (by decide) ?_
    have hP9 := hP.sub (ws' := [(h, .inr (3, [.ref t, .ref v, .int n]))]) [0] rfl
    have hD9 := hD.sub (ws' := [(h, .inr (3, [.ref t, .ref v, .int n]))]) [0] (by decide) rfl
    have hK9 := hK.sub (tys' := []) [] rfl
    exact W.zret (v := 0) (ty := .boolean) hx hb hr rfl (fun tZ htZ hW => ⟨⟨0, (), rfl, (Or.inr ⟨rfl, by (try simp only [fa_lt, fa_le, fa_eq]); (try simp only [fa_lt, fa_le, fa_eq] at c_1); (try simp only [ti_0] at *); omega⟩), by rw [htZ]; exact hP9, va_K.moved hW.alike hK9, hD9⟩, hS.F htZ⟩) hS.2.2 dX3_has_17
  · refine lv_iload_n hx hb dX3_has_4 rfl (lv_at hl 1 rfl) ?_
    refine lv_aload_n hx hb dX3_has_5 rfl (lv_at hl 0 rfl) ?_
    refine va_get (D := D) (ci := 3) (v := .int n) (C := RX3) (T := TX3) (N := 3) hx hb hts hiX3 hown hK hP 0 rfl rfl 2 (by decide) (hts (.fieldLink RX3 18 "DynamicLogicProver$Model" "worlds" "I") (mo_X3_has 0 rfl)) (fun _ h9 => h9) rfl dX3_has_6 ?_
    refine lv_icmp_ge (tgt := 16) hx hb dX3_has_9 (by decide) (fun c_2 => ?_) (fun c_2 => ?_)
    · refine lv_iconst (v := 0) hx hb dX3_has_16 (by decide) ?_
      have hP9 := hP.sub (ws' := [(h, .inr (3, [.ref t, .ref v, .int n]))]) [0] rfl
      have hD9 := hD.sub (ws' := [(h, .inr (3, [.ref t, .ref v, .int n]))]) [0] (by decide) rfl
      have hK9 := hK.sub (tys' := []) [] rfl
      exact W.zret (v := 0) (ty := .boolean) hx hb hr rfl (fun tZ htZ hW => ⟨⟨0, (), rfl, (Or.inr ⟨rfl, by (try simp only [fa_lt, fa_le, fa_eq]); (try simp only [fa_lt, fa_le, fa_eq] at c_1); (try simp only [fa_lt, fa_le, fa_eq] at c_2); (try simp only [ti_0] at *); omega⟩), by rw [htZ]; exact hP9, va_K.moved hW.alike hK9, hD9⟩, hS.F htZ⟩) hS.2.2 dX3_has_17
    · refine lv_iconst (v := 1) hx hb dX3_has_12 (by decide) ?_
      refine lv_goto (tgt := 17) hx hb dX3_has_13 (by decide) ?_
      have hP9 := hP.sub (ws' := [(h, .inr (3, [.ref t, .ref v, .int n]))]) [0] rfl
      have hD9 := hD.sub (ws' := [(h, .inr (3, [.ref t, .ref v, .int n]))]) [0] (by decide) rfl
      have hK9 := hK.sub (tys' := []) [] rfl
      exact W.zret (v := 1) (ty := .boolean) hx hb hr rfl (fun tZ htZ hW => ⟨⟨1, (), rfl, (Or.inl ⟨rfl, by (try simp only [fa_lt, fa_le, fa_eq]); (try simp only [fa_lt, fa_le, fa_eq] at c_1); (try simp only [fa_lt, fa_le, fa_eq] at c_2); (try simp only [ti_0] at *); omega⟩), by rw [htZ]; exact hP9, va_K.moved hW.alike hK9, hD9⟩, hS.F htZ⟩) hS.2.2 dX3_has_17
theorem dX3_reset_0 : decode cX3_reset 0 = .ok (.aload_n 0, 1) := by decide +kernel
theorem dX3_reset_1 : decode cX3_reset 1 = .ok (.iload_n 1, 1) := by decide +kernel
theorem dX3_reset_2 : decode cX3_reset 2 = .ok (.putfield 18, 3) := by decide +kernel
theorem dX3_reset_5 : decode cX3_reset 5 = .ok (.aload_n 0, 1) := by decide +kernel
theorem dX3_reset_6 : decode cX3_reset 6 = .ok (.getfield 9, 3) := by decide +kernel
theorem dX3_reset_9 : decode cX3_reset 9 = .ok (.iconst 0, 1) := by decide +kernel
theorem dX3_reset_10 : decode cX3_reset 10 = .ok (.invokestatic 22, 3) := by decide +kernel
theorem dX3_reset_13 : decode cX3_reset 13 = .ok (.aload_n 0, 1) := by decide +kernel
theorem dX3_reset_14 : decode cX3_reset 14 = .ok (.getfield 15, 3) := by decide +kernel
theorem dX3_reset_17 : decode cX3_reset 17 = .ok (.iconst 0, 1) := by decide +kernel
theorem dX3_reset_18 : decode cX3_reset 18 = .ok (.invokestatic 22, 3) := by decide +kernel
theorem dX3_reset_21 : decode cX3_reset 21 = .ok (.return_, 1) := by decide +kernel
def wo_X3_reset : List Cond := [.fieldLink RX3 18 "DynamicLogicProver$Model" "worlds" "I", .fieldLink RX3 9 "DynamicLogicProver$Model" "truths" "[I", .methodLink RX3 22 yJ7_fill_53178, .static yJ7_fill_53178, .initialized RJ7, .fieldLink RX3 15 "DynamicLogicProver$Model" "moves" "[I"]
def wd_X3_reset : List Cond := .code yX3_reset cX3_reset 2 none :: (wo_X3_reset ++ (wd_J7_fill_53178 ++ (wsX30 ++ ([] : List Cond))))
theorem mo_X3_reset {w : Cond} (i : Nat) (h : wo_X3_reset[i]? = some w) : w ∈ wd_X3_reset := List.mem_cons_of_mem _ (List.mem_append_left _ (List.mem_of_getElem? h))
theorem mb_X3_reset_0 : ∀ w ∈ wd_J7_fill_53178, w ∈ wd_X3_reset := fun w h => List.mem_cons_of_mem _ (List.mem_append_right _ (List.mem_append_left _ h))
theorem mb_X3_reset_1 : ∀ w ∈ wsX30, w ∈ wd_X3_reset := fun w h => List.mem_cons_of_mem _ (List.mem_append_right _ (List.mem_append_right _ (List.mem_append_left _ h)))
theorem hd_X3_reset : yX3_reset.cls ≠ "java/lang/invoke/MethodHandle" ∧ yX3_reset.cls ≠ "java/lang/invoke/VarHandle" ∧ (parseMethodDescriptor yX3_reset.desc).map (fun d => d.parameters.length) = some 1 := by decide +kernel
set_option maxRecDepth 20000 in
theorem gw_X3_reset : wd_X3_reset.all goodWord = true := by decide +kernel
abbrev qc_X3_reset (D : va_G) (h : Nat) (t : Nat) (v : Nat) (kt : ClassId) (kv : ClassId) (f : Nat → Int32) (g : Nat → Int32) (n : Int32) (k : Int32) (A : Nat → Prop) : Array Value → State → Outcome → State → Prop := va_Qv (fun (uZ : (Nat → Int32) × (Nat → Int32)) => True) (fun uZ tZ => kc_pos D A [(h, .inr (3, [.ref t, .ref v, .int k])), (t, .inl (kt, 4, .inl uZ.1)), (v, .inl (kv, 18, .inl uZ.2))] [] tZ) A
set_option maxHeartbeats 4000000 in
set_option maxRecDepth 100000 in
theorem ct_X3_reset (l : Launch) (D : va_G) (h : Nat) (t : Nat) (v : Nat) (kt : ClassId) (kv : ClassId) (f : Nat → Int32) (g : Nat → Int32) (n : Int32) (k : Int32) (sz : Nat)  : Met l yX3_reset wd_X3_reset ({ frames := 1, cells := 0, slots := 0, locals := 23 }) (va_Pc [.ref h, .int k] (kc_pre D [(kt, .int), (kv, .int)] [(h, .inr (3, [.ref t, .ref v, .int n])), (t, .inl (kt, 4, .inl f)), (v, .inl (kv, 18, .inl g))] sz)) (qc_X3_reset D h t v kt kv f g n k (va_A [(h, .inr (3, [.ref t, .ref v, .int n])), (t, .inl (kt, 4, .inl f)), (v, .inl (kv, 18, .inl g))] sz)) 0 0 (va_A [(h, .inr (3, [.ref t, .ref v, .int n])), (t, .inl (kt, 4, .inl f)), (v, .inl (kv, 18, .inl g))] sz) := by
  refine Met.ofW (cc := cX3_reset) (maxL := 2) (ret := none) (by decide) rfl ?_
  intro p e s m args below meth c s₁ B hml hv
  obtain ⟨rfl, hsz, hP, hK, hN, hD0⟩ := hv
  have hx := B.exec
  have hb := B.bytes
  have hr := B.returns
  have hts := atoms_spec (ws := wd_X3_reset) B.pre
  have hown : s.vm.findClass RX3 = some m.cls := findClass_of_methodNamed B.named
  have hlocks := B.notSynchronized
  subst hsz
  have hD := hD0.self (sz := s.heap.size)
  generalize hAe : va_A [(h, .inr (3, [.ref t, .ref v, .int n])), (t, .inl (kt, 4, .inl f)), (v, .inl (kv, 18, .inl g))] s.heap.size = A at hD ⊢
  have hA : ∀ q : Nat, s.heap.size ≤ q → A q := fun q h => by rw [← hAe]; exact Or.inr h
  have hS : va_S A s.heap s.heap [] := va_S.rf
  have hiX3 : ∀ w ∈ wsX30, w ∈ wd_X3_reset := mb_X3_reset_1
  have hl := lv_entry ([.ref h, .int k]) (n := 2) (Nat.le_of_ble_eq_true rfl)
  rw [lg_entry_eq]
  generalize (lg_sl ([.ref h, .int k]) ++ List.replicate (2 - (lg_sl ([.ref h, .int k])).length) Slot.unset).toArray = ls at hl ⊢
  have hl : lv_has ls 2 [(0, .ref h), (1, .int k)] := hl
  refine lv_aload_n hx hb dX3_reset_0 rfl (lv_at hl 0 rfl) ?_
  refine lv_iload_n hx hb dX3_reset_1 rfl (lv_at hl 1 rfl) ?_
  refine va_put (D := D) (ci := 3) (v := .int k) (ty := .int) (C := RX3) (T := TX3) (N := 3) hx hb hts hiX3 tyX3 tyX3_ok nmX3 hown hK hP hD hS 0 rfl rfl 2 (by decide) (hts (.fieldLink RX3 18 "DynamicLogicProver$Model" "worlds" "I") (mo_X3_reset 0 rfl)) (fun _ h9 => h9) rfl (tyX3_ok 2 (by decide)) rfl rfl (Nat.le_of_ble_eq_true rfl) dX3_reset_2 (fun H locs hP hD hS => ?_)
  have hP : va_P D vwCl [(h, .inr (3, [.ref t, .ref v, .int k])), (t, .inl (kt, 4, .inl f)), (v, .inl (kv, 18, .inl g))] H := hP
  have hD : va_D A [(h, .inr (3, [.ref t, .ref v, .int k])), (t, .inl (kt, 4, .inl f)), (v, .inl (kv, 18, .inl g))] := hD
  refine lv_aload_n hx hb dX3_reset_5 rfl (lv_at hl 0 rfl) ?_
  refine va_get (D := D) (ci := 3) (v := .ref t) (C := RX3) (T := TX3) (N := 3) hx hb hts hiX3 hown hK hP 0 rfl rfl 0 (by decide) (hts (.fieldLink RX3 9 "DynamicLogicProver$Model" "truths" "[I") (mo_X3_reset 1 rfl)) (fun _ h9 => h9) rfl dX3_reset_6 ?_
  refine lv_iconst (v := 0) hx hb dX3_reset_9 (by decide) ?_
  refine kc_Sv (As := [.ref t, .int 0]) (rest := []) (wr := [(h, .inr (3, [.ref t, .ref v, .int k])), (v, .inl (kv, 18, .inl g))]) ⟨hx, hb, hml, hown, hts⟩ (ct_J7_fill_53178 l D t kt 4 f 0 _ (by decide)) (va_cwS 2 hts (kg_S (mo_X3_reset 2 rfl) (mo_X3_reset 3 rfl) (mo_X3_reset 4 rfl) (goodIn_sub mb_X3_reset_0 gw_J7_fill_53178)) rfl rfl rfl hd_J7_fill_53178 ⟨Nat.le_of_ble_eq_true rfl, Nat.le_of_ble_eq_true rfl⟩) hK hN hP hD hS hA [1] [0, 2] [0] rfl rfl (by decide) (by decide) (by decide) rfl rfl hl.1 rfl (Nat.le_of_ble_eq_true rfl) dX3_reset_10 ⟨Nat.le_of_ble_eq_true rfl, Nat.le_of_ble_eq_true rfl⟩ (fun u_2 H locs w_3 hP hD hK1 hS => ?_)
  obtain ⟨o_4, rfl⟩ : ∃ z, z = u_2 := ⟨_, rfl⟩
  have hP : va_P D vwCl [(h, .inr (3, [.ref t, .ref v, .int k])), (v, .inl (kv, 18, .inl g)), (t, .inl (kt, 4, .inl o_4))] H := hP
  have hD : va_D A [(h, .inr (3, [.ref t, .ref v, .int k])), (v, .inl (kv, 18, .inl g)), (t, .inl (kt, 4, .inl o_4))] := hD
  have w_3 : ∀ k, k < 4 → o_4 k = 0 := w_3
  refine lv_aload_n hx hb dX3_reset_13 rfl (lv_at hl 0 rfl) ?_
  refine va_get (D := D) (ci := 3) (v := .ref v) (C := RX3) (T := TX3) (N := 3) hx hb hts hiX3 hown hK hP 0 rfl rfl 1 (by decide) (hts (.fieldLink RX3 15 "DynamicLogicProver$Model" "moves" "[I") (mo_X3_reset 5 rfl)) (fun _ h9 => h9) rfl dX3_reset_14 ?_
  refine lv_iconst (v := 0) hx hb dX3_reset_17 (by decide) ?_
  refine kc_Sv (As := [.ref v, .int 0]) (rest := []) (wr := [(h, .inr (3, [.ref t, .ref v, .int k])), (t, .inl (kt, 4, .inl o_4))]) ⟨hx, hb, hml, hown, hts⟩ (ct_J7_fill_53178 l D v kv 18 g 0 _ (by decide)) (va_cwS 2 hts (kg_S (mo_X3_reset 2 rfl) (mo_X3_reset 3 rfl) (mo_X3_reset 4 rfl) (goodIn_sub mb_X3_reset_0 gw_J7_fill_53178)) rfl rfl rfl hd_J7_fill_53178 ⟨Nat.le_of_ble_eq_true rfl, Nat.le_of_ble_eq_true rfl⟩) hK hN hP hD hS hA [1] [0, 2] [1] rfl rfl (by decide) (by decide) (by decide) rfl rfl hl.1 rfl (Nat.le_of_ble_eq_true rfl) dX3_reset_18 ⟨Nat.le_of_ble_eq_true rfl, Nat.le_of_ble_eq_true rfl⟩ (fun u_6 H locs w_7 hP hD hK1 hS => ?_)
  obtain ⟨o_8, rfl⟩ : ∃ z, z = u_6 := ⟨_, rfl⟩
  have hP : va_P D vwCl [(h, .inr (3, [.ref t, .ref v, .int k])), (t, .inl (kt, 4, .inl o_4)), (v, .inl (kv, 18, .inl o_8))] H := hP
  have hD : va_D A [(h, .inr (3, [.ref t, .ref v, .int k])), (t, .inl (kt, 4, .inl o_4)), (v, .inl (kv, 18, .inl o_8))] := hD
  have w_7 : ∀ k, k < 18 → o_8 k = 0 := w_7
  have hP9 := hP.sub (ws' := [(h, .inr (3, [.ref t, .ref v, .int k])), (t, .inl (kt, 4, .inl o_4)), (v, .inl (kv, 18, .inl o_8))]) [0, 1, 2] rfl
  have hD9 := hD.sub (ws' := [(h, .inr (3, [.ref t, .ref v, .int k])), (t, .inl (kt, 4, .inl o_4)), (v, .inl (kv, 18, .inl o_8))]) [0, 1, 2] (by decide) rfl
  have hK9 := hK.sub (tys' := []) [] rfl
  exact W.vret hx hb hr (fun tZ htZ hW => ⟨⟨(o_4, o_8), rfl, trivial, by rw [htZ]; exact hP9, va_K.moved hW.alike hK9, hD9⟩, hS.F htZ⟩) hS.2.2 dX3_reset_21
theorem dX3_truths_0 : decode cX3_truths 0 = .ok (.aload_n 0, 1) := by decide +kernel
theorem dX3_truths_1 : decode cX3_truths 1 = .ok (.getfield 9, 3) := by decide +kernel
theorem dX3_truths_4 : decode cX3_truths 4 = .ok (.iload_n 1, 1) := by decide +kernel
theorem dX3_truths_5 : decode cX3_truths 5 = .ok (.invokestatic 34, 3) := by decide +kernel
theorem dX3_truths_8 : decode cX3_truths 8 = .ok (.ireturn, 1) := by decide +kernel
def wo_X3_truths : List Cond := [.fieldLink RX3 9 "DynamicLogicProver$Model" "truths" "[I", .initialized RX11, .static yX11_at]
def wd_X3_truths : List Cond := .code yX3_truths cX3_truths 2 (some .int) :: (wo_X3_truths ++ (wd_X11_at ++ (wsX30 ++ ([] : List Cond))))
theorem mo_X3_truths {w : Cond} (i : Nat) (h : wo_X3_truths[i]? = some w) : w ∈ wd_X3_truths := List.mem_cons_of_mem _ (List.mem_append_left _ (List.mem_of_getElem? h))
theorem mb_X3_truths_0 : ∀ w ∈ wd_X11_at, w ∈ wd_X3_truths := fun w h => List.mem_cons_of_mem _ (List.mem_append_right _ (List.mem_append_left _ h))
theorem mb_X3_truths_1 : ∀ w ∈ wsX30, w ∈ wd_X3_truths := fun w h => List.mem_cons_of_mem _ (List.mem_append_right _ (List.mem_append_right _ (List.mem_append_left _ h)))
theorem hd_X3_truths : yX3_truths.cls ≠ "java/lang/invoke/MethodHandle" ∧ yX3_truths.cls ≠ "java/lang/invoke/VarHandle" ∧ (parseMethodDescriptor yX3_truths.desc).map (fun d => d.parameters.length) = some 1 := by decide +kernel
set_option maxRecDepth 20000 in
theorem gw_X3_truths : wd_X3_truths.all goodWord = true := by decide +kernel
abbrev qc_X3_truths (D : va_G) (h : Nat) (t : Nat) (v : Nat) (kt : ClassId) (f : Nat → Int32) (n : Int32) (i : Int32) (A : Nat → Prop) : Array Value → State → Outcome → State → Prop := va_Qi (fun (r : Int32) (uZ : Unit) => r = at_v f 4 i) (fun uZ tZ => kc_pos D A [(h, .inr (3, [.ref t, .ref v, .int n])), (t, .inl (kt, 4, .inl f))] [] tZ) A
set_option maxHeartbeats 4000000 in
set_option maxRecDepth 100000 in
theorem ct_X3_truths (l : Launch) (D : va_G) (h : Nat) (t : Nat) (v : Nat) (kt : ClassId) (f : Nat → Int32) (n : Int32) (i : Int32) (sz : Nat)  : Met l yX3_truths wd_X3_truths ({ frames := 1, cells := 0, slots := 0, locals := 21 }) (va_Pc [.ref h, .int i] (kc_pre D [(kt, .int)] [(h, .inr (3, [.ref t, .ref v, .int n])), (t, .inl (kt, 4, .inl f))] sz)) (qc_X3_truths D h t v kt f n i (va_A [(h, .inr (3, [.ref t, .ref v, .int n])), (t, .inl (kt, 4, .inl f))] sz)) 0 0 (va_A [(h, .inr (3, [.ref t, .ref v, .int n])), (t, .inl (kt, 4, .inl f))] sz) := by
  refine Met.ofW (cc := cX3_truths) (maxL := 2) (ret := (some .int)) (by decide) rfl ?_
  intro p e s m args below meth c s₁ B hml hv
  obtain ⟨rfl, hsz, hP, hK, hN, hD0⟩ := hv
  have hx := B.exec
  have hb := B.bytes
  have hr := B.returns
  have hts := atoms_spec (ws := wd_X3_truths) B.pre
  have hown : s.vm.findClass RX3 = some m.cls := findClass_of_methodNamed B.named
  have hlocks := B.notSynchronized
  subst hsz
  have hD := hD0.self (sz := s.heap.size)
  generalize hAe : va_A [(h, .inr (3, [.ref t, .ref v, .int n])), (t, .inl (kt, 4, .inl f))] s.heap.size = A at hD ⊢
  have hA : ∀ q : Nat, s.heap.size ≤ q → A q := fun q h => by rw [← hAe]; exact Or.inr h
  have hS : va_S A s.heap s.heap [] := va_S.rf
  have hiX3 : ∀ w ∈ wsX30, w ∈ wd_X3_truths := mb_X3_truths_1
  have hl := lv_entry ([.ref h, .int i]) (n := 2) (Nat.le_of_ble_eq_true rfl)
  rw [lg_entry_eq]
  generalize (lg_sl ([.ref h, .int i]) ++ List.replicate (2 - (lg_sl ([.ref h, .int i])).length) Slot.unset).toArray = ls at hl ⊢
  have hl : lv_has ls 2 [(0, .ref h), (1, .int i)] := hl
  refine lv_aload_n hx hb dX3_truths_0 rfl (lv_at hl 0 rfl) ?_
  refine va_get (D := D) (ci := 3) (v := .ref t) (C := RX3) (T := TX3) (N := 3) hx hb hts hiX3 hown hK hP 0 rfl rfl 0 (by decide) (hts (.fieldLink RX3 9 "DynamicLogicProver$Model" "truths" "[I") (mo_X3_truths 0 rfl)) (fun _ h9 => h9) rfl dX3_truths_1 ?_
  refine lv_iload_n hx hb dX3_truths_4 rfl (lv_at hl 1 rfl) ?_
  refine kc_Ni (As := [.ref t, .int i]) (rest := []) (wr := [(h, .inr (3, [.ref t, .ref v, .int n]))]) ⟨hx, hb, hml, hown, hts⟩ (ct_X11_at l D t kt 4 f i _ (by decide)) ⟨va_cnB 2 hts (goodIn_sub mb_X3_truths_0 gw_X11_at) rfl rfl rfl (hN (RX3, 34, yX11_at) (List.mem_of_getElem? (i := 13) rfl)) (hts (.initialized RX11) (mo_X3_truths 1 rfl)) hd_X11_at ⟨Nat.le_of_ble_eq_true rfl, Nat.le_of_ble_eq_true rfl⟩, (hts (.static yX11_at) (mo_X3_truths 2 rfl)), trivial⟩ hK hN hP hD hS hA [1] [0] [0] rfl rfl (by decide) (by decide) (by decide) rfl rfl hl.1 rfl (Nat.le_of_ble_eq_true rfl) dX3_truths_5 ⟨Nat.le_of_ble_eq_true rfl, Nat.le_of_ble_eq_true rfl⟩ (fun r_1 u_2 H locs w_3 hP hD hK1 hS => ?_)
  have hP : va_P D vwCl [(h, .inr (3, [.ref t, .ref v, .int n])), (t, .inl (kt, 4, .inl f))] H := hP
  have hD : va_D A [(h, .inr (3, [.ref t, .ref v, .int n])), (t, .inl (kt, 4, .inl f))] := hD
  have w_3 : r_1 = at_v f 4 i := w_3
  have hP9 := hP.sub (ws' := [(h, .inr (3, [.ref t, .ref v, .int n])), (t, .inl (kt, 4, .inl f))]) [0, 1] rfl
  have hD9 := hD.sub (ws' := [(h, .inr (3, [.ref t, .ref v, .int n])), (t, .inl (kt, 4, .inl f))]) [0, 1] (by decide) rfl
  have hK9 := hK.sub (tys' := []) [] rfl
  exact W.iret (v := r_1) hx hb hr (fun tZ htZ hW => ⟨⟨r_1, (), rfl, w_3, by rw [htZ]; exact hP9, va_K.moved hW.alike hK9, hD9⟩, hS.F htZ⟩) hS.2.2 dX3_truths_8
theorem dX3_all_0 : decode cX3_all 0 = .ok (.iconst 1, 1) := by decide +kernel
theorem dX3_all_1 : decode cX3_all 1 = .ok (.aload_n 0, 1) := by decide +kernel
theorem dX3_all_2 : decode cX3_all 2 = .ok (.getfield 18, 3) := by decide +kernel
theorem dX3_all_5 : decode cX3_all 5 = .ok (.ishl, 1) := by decide +kernel
theorem dX3_all_6 : decode cX3_all 6 = .ok (.iconst 1, 1) := by decide +kernel
theorem dX3_all_7 : decode cX3_all 7 = .ok (.isub, 1) := by decide +kernel
theorem dX3_all_8 : decode cX3_all 8 = .ok (.ireturn, 1) := by decide +kernel
def wo_X3_all : List Cond := [.fieldLink RX3 18 "DynamicLogicProver$Model" "worlds" "I"]
def wd_X3_all : List Cond := .code yX3_all cX3_all 1 (some .int) :: (wo_X3_all ++ (wsX30 ++ ([] : List Cond)))
theorem mo_X3_all {w : Cond} (i : Nat) (h : wo_X3_all[i]? = some w) : w ∈ wd_X3_all := List.mem_cons_of_mem _ (List.mem_append_left _ (List.mem_of_getElem? h))
theorem mb_X3_all_0 : ∀ w ∈ wsX30, w ∈ wd_X3_all := fun w h => List.mem_cons_of_mem _ (List.mem_append_right _ (List.mem_append_left _ h))
theorem hd_X3_all : yX3_all.cls ≠ "java/lang/invoke/MethodHandle" ∧ yX3_all.cls ≠ "java/lang/invoke/VarHandle" ∧ (parseMethodDescriptor yX3_all.desc).map (fun d => d.parameters.length) = some 0 := by decide +kernel
set_option maxRecDepth 20000 in
theorem gw_X3_all : wd_X3_all.all goodWord = true := by decide +kernel
abbrev qc_X3_all (D : va_G) (h : Nat) (t : Nat) (v : Nat) (n : Int32) (A : Nat → Prop) : Array Value → State → Outcome → State → Prop := va_Qi (fun (r : Int32) (uZ : Unit) => True) (fun uZ tZ => kc_pos D A [(h, .inr (3, [.ref t, .ref v, .int n]))] [] tZ) A
set_option maxHeartbeats 4000000 in
set_option maxRecDepth 100000 in
theorem ct_X3_all (l : Launch) (D : va_G) (h : Nat) (t : Nat) (v : Nat) (n : Int32) (sz : Nat)  : Met l yX3_all wd_X3_all ({ frames := 0, cells := 0, slots := 0, locals := 0 }) (va_Pc [.ref h] (kc_pre D [] [(h, .inr (3, [.ref t, .ref v, .int n]))] sz)) (qc_X3_all D h t v n (va_A [(h, .inr (3, [.ref t, .ref v, .int n]))] sz)) 0 0 (va_A [(h, .inr (3, [.ref t, .ref v, .int n]))] sz) := by
  refine Met.ofW (cc := cX3_all) (maxL := 1) (ret := (some .int)) (by decide) rfl ?_
  intro p e s m args below meth c s₁ B hml hv
  obtain ⟨rfl, hsz, hP, hK, hN, hD0⟩ := hv
  have hx := B.exec
  have hb := B.bytes
  have hr := B.returns
  have hts := atoms_spec (ws := wd_X3_all) B.pre
  have hown : s.vm.findClass RX3 = some m.cls := findClass_of_methodNamed B.named
  have hlocks := B.notSynchronized
  subst hsz
  have hD := hD0.self (sz := s.heap.size)
  generalize hAe : va_A [(h, .inr (3, [.ref t, .ref v, .int n]))] s.heap.size = A at hD ⊢
  have hA : ∀ q : Nat, s.heap.size ≤ q → A q := fun q h => by rw [← hAe]; exact Or.inr h
  have hS : va_S A s.heap s.heap [] := va_S.rf
  have hiX3 : ∀ w ∈ wsX30, w ∈ wd_X3_all := mb_X3_all_0
  have hl := lv_entry ([.ref h]) (n := 1) (Nat.le_of_ble_eq_true rfl)
  rw [lg_entry_eq]
  generalize (lg_sl ([.ref h]) ++ List.replicate (1 - (lg_sl ([.ref h])).length) Slot.unset).toArray = ls at hl ⊢
  have hl : lv_has ls 1 [(0, .ref h)] := hl
  refine lv_iconst (v := 1) hx hb dX3_all_0 (by decide) ?_
  refine lv_aload_n hx hb dX3_all_1 rfl (lv_at hl 0 rfl) ?_
  refine va_get (D := D) (ci := 3) (v := .int n) (C := RX3) (T := TX3) (N := 3) hx hb hts hiX3 hown hK hP 0 rfl rfl 2 (by decide) (hts (.fieldLink RX3 18 "DynamicLogicProver$Model" "worlds" "I") (mo_X3_all 0 rfl)) (fun _ h9 => h9) rfl dX3_all_2 ?_
  refine lv_ishl hx hb dX3_all_5 ?_
  refine lv_topi (fun x_1 ex_1 => ?_)
  refine lv_iconst (v := 1) hx hb dX3_all_6 (by decide) ?_
  refine lv_isub hx hb dX3_all_7 ?_
  refine lv_topi (fun x_2 ex_2 => ?_)
  have hP9 := hP.sub (ws' := [(h, .inr (3, [.ref t, .ref v, .int n]))]) [0] rfl
  have hD9 := hD.sub (ws' := [(h, .inr (3, [.ref t, .ref v, .int n]))]) [0] (by decide) rfl
  have hK9 := hK.sub (tys' := []) [] rfl
  exact W.iret (v := x_2) hx hb hr (fun tZ htZ hW => ⟨⟨x_2, (), rfl, trivial, by rw [htZ]; exact hP9, va_K.moved hW.alike hK9, hD9⟩, hS.F htZ⟩) hS.2.2 dX3_all_8
theorem dX3_putTruth_0 : decode cX3_putTruth 0 = .ok (.aload_n 0, 1) := by decide +kernel
theorem dX3_putTruth_1 : decode cX3_putTruth 1 = .ok (.getfield 9, 3) := by decide +kernel
theorem dX3_putTruth_4 : decode cX3_putTruth 4 = .ok (.iload_n 1, 1) := by decide +kernel
theorem dX3_putTruth_5 : decode cX3_putTruth 5 = .ok (.invokestatic 34, 3) := by decide +kernel
theorem dX3_putTruth_8 : decode cX3_putTruth 8 = .ok (.iconst 1, 1) := by decide +kernel
theorem dX3_putTruth_9 : decode cX3_putTruth 9 = .ok (.iload_n 2, 1) := by decide +kernel
theorem dX3_putTruth_10 : decode cX3_putTruth 10 = .ok (.ishl, 1) := by decide +kernel
theorem dX3_putTruth_11 : decode cX3_putTruth 11 = .ok (.iconst (-1), 1) := by decide +kernel
theorem dX3_putTruth_12 : decode cX3_putTruth 12 = .ok (.ixor, 1) := by decide +kernel
theorem dX3_putTruth_13 : decode cX3_putTruth 13 = .ok (.iand, 1) := by decide +kernel
theorem dX3_putTruth_14 : decode cX3_putTruth 14 = .ok (.istore 4, 2) := by decide +kernel
theorem dX3_putTruth_16 : decode cX3_putTruth 16 = .ok (.aload_n 0, 1) := by decide +kernel
theorem dX3_putTruth_17 : decode cX3_putTruth 17 = .ok (.getfield 9, 3) := by decide +kernel
theorem dX3_putTruth_20 : decode cX3_putTruth 20 = .ok (.iload_n 1, 1) := by decide +kernel
theorem dX3_putTruth_21 : decode cX3_putTruth 21 = .ok (.iload_n 3, 1) := by decide +kernel
theorem dX3_putTruth_22 : decode cX3_putTruth 22 = .ok (.ifCond .eq 12, 3) := by decide +kernel
theorem dX3_putTruth_25 : decode cX3_putTruth 25 = .ok (.iload 4, 2) := by decide +kernel
theorem dX3_putTruth_27 : decode cX3_putTruth 27 = .ok (.iconst 1, 1) := by decide +kernel
theorem dX3_putTruth_28 : decode cX3_putTruth 28 = .ok (.iload_n 2, 1) := by decide +kernel
theorem dX3_putTruth_29 : decode cX3_putTruth 29 = .ok (.ishl, 1) := by decide +kernel
theorem dX3_putTruth_30 : decode cX3_putTruth 30 = .ok (.ior, 1) := by decide +kernel
theorem dX3_putTruth_31 : decode cX3_putTruth 31 = .ok (.goto 5, 3) := by decide +kernel
theorem dX3_putTruth_34 : decode cX3_putTruth 34 = .ok (.iload 4, 2) := by decide +kernel
theorem dX3_putTruth_36 : decode cX3_putTruth 36 = .ok (.invokestatic 38, 3) := by decide +kernel
theorem dX3_putTruth_39 : decode cX3_putTruth 39 = .ok (.return_, 1) := by decide +kernel
def wo_X3_putTruth : List Cond := [.fieldLink RX3 9 "DynamicLogicProver$Model" "truths" "[I", .initialized RX11, .static yX11_at, .static yX11_put]
def wd_X3_putTruth : List Cond := .code yX3_putTruth cX3_putTruth 5 none :: (wo_X3_putTruth ++ (wd_X11_at ++ (wd_X11_put ++ (wsX30 ++ ([] : List Cond)))))
theorem mo_X3_putTruth {w : Cond} (i : Nat) (h : wo_X3_putTruth[i]? = some w) : w ∈ wd_X3_putTruth := List.mem_cons_of_mem _ (List.mem_append_left _ (List.mem_of_getElem? h))
theorem mb_X3_putTruth_0 : ∀ w ∈ wd_X11_at, w ∈ wd_X3_putTruth := fun w h => List.mem_cons_of_mem _ (List.mem_append_right _ (List.mem_append_left _ h))
theorem mb_X3_putTruth_1 : ∀ w ∈ wd_X11_put, w ∈ wd_X3_putTruth := fun w h => List.mem_cons_of_mem _ (List.mem_append_right _ (List.mem_append_right _ (List.mem_append_left _ h)))
theorem mb_X3_putTruth_2 : ∀ w ∈ wsX30, w ∈ wd_X3_putTruth := fun w h => List.mem_cons_of_mem _ (List.mem_append_right _ (List.mem_append_right _ (List.mem_append_right _ (List.mem_append_left _ h))))
theorem hd_X3_putTruth : yX3_putTruth.cls ≠ "java/lang/invoke/MethodHandle" ∧ yX3_putTruth.cls ≠ "java/lang/invoke/VarHandle" ∧ (parseMethodDescriptor yX3_putTruth.desc).map (fun d => d.parameters.length) = some 3 := by decide +kernel
set_option maxRecDepth 20000 in
theorem gw_X3_putTruth : wd_X3_putTruth.all goodWord = true := by decide +kernel
abbrev qc_X3_putTruth (D : va_G) (h : Nat) (t : Nat) (v : Nat) (kt : ClassId) (f : Nat → Int32) (n : Int32) (i : Int32) (w : Int32) (b : Int32) (A : Nat → Prop) : Array Value → State → Outcome → State → Prop := va_Qv (fun (uZ : (Nat → Int32)) => True) (fun uZ tZ => kc_pos D A [(h, .inr (3, [.ref t, .ref v, .int n])), (t, .inl (kt, 4, .inl uZ))] [] tZ) A
set_option maxHeartbeats 4000000 in
set_option maxRecDepth 100000 in
theorem ct_X3_putTruth (l : Launch) (D : va_G) (h : Nat) (t : Nat) (v : Nat) (kt : ClassId) (f : Nat → Int32) (n : Int32) (i : Int32) (w : Int32) (b : Int32) (sz : Nat)  : Met l yX3_putTruth wd_X3_putTruth ({ frames := 1, cells := 0, slots := 0, locals := 22 }) (va_Pc [.ref h, .int i, .int w, .int b] (kc_pre D [(kt, .int)] [(h, .inr (3, [.ref t, .ref v, .int n])), (t, .inl (kt, 4, .inl f))] sz)) (qc_X3_putTruth D h t v kt f n i w b (va_A [(h, .inr (3, [.ref t, .ref v, .int n])), (t, .inl (kt, 4, .inl f))] sz)) 0 0 (va_A [(h, .inr (3, [.ref t, .ref v, .int n])), (t, .inl (kt, 4, .inl f))] sz) := by
  refine Met.ofW (cc := cX3_putTruth) (maxL := 5) (ret := none) (by decide) rfl ?_
  intro p e s m args below meth c s₁ B hml hv
  obtain ⟨rfl, hsz, hP, hK, hN, hD0⟩ := hv
  have hx := B.exec
  have hb := B.bytes
  have hr := B.returns
  have hts := atoms_spec (ws := wd_X3_putTruth) B.pre
  have hown : s.vm.findClass RX3 = some m.cls := findClass_of_methodNamed B.named
  have hlocks := B.notSynchronized
  subst hsz
  have hD := hD0.self (sz := s.heap.size)
  generalize hAe : va_A [(h, .inr (3, [.ref t, .ref v, .int n])), (t, .inl (kt, 4, .inl f))] s.heap.size = A at hD ⊢
  have hA : ∀ q : Nat, s.heap.size ≤ q → A q := fun q h => by rw [← hAe]; exact Or.inr h
  have hS : va_S A s.heap s.heap [] := va_S.rf
  have hiX3 : ∀ w ∈ wsX30, w ∈ wd_X3_putTruth := mb_X3_putTruth_2
  have hl := lv_entry ([.ref h, .int i, .int w, .int b]) (n := 5) (Nat.le_of_ble_eq_true rfl)
  rw [lg_entry_eq]
  generalize (lg_sl ([.ref h, .int i, .int w, .int b]) ++ List.replicate (5 - (lg_sl ([.ref h, .int i, .int w, .int b])).length) Slot.unset).toArray = ls at hl ⊢
  have hl : lv_has ls 5 [(0, .ref h), (1, .int i), (2, .int w), (3, .int b)] := hl
  refine lv_aload_n hx hb dX3_putTruth_0 rfl (lv_at hl 0 rfl) ?_
  refine va_get (D := D) (ci := 3) (v := .ref t) (C := RX3) (T := TX3) (N := 3) hx hb hts hiX3 hown hK hP 0 rfl rfl 0 (by decide) (hts (.fieldLink RX3 9 "DynamicLogicProver$Model" "truths" "[I") (mo_X3_putTruth 0 rfl)) (fun _ h9 => h9) rfl dX3_putTruth_1 ?_
  refine lv_iload_n hx hb dX3_putTruth_4 rfl (lv_at hl 1 rfl) ?_
  refine kc_Ni (As := [.ref t, .int i]) (rest := []) (wr := [(h, .inr (3, [.ref t, .ref v, .int n]))]) ⟨hx, hb, hml, hown, hts⟩ (ct_X11_at l D t kt 4 f i _ (by decide)) ⟨va_cnB 2 hts (goodIn_sub mb_X3_putTruth_0 gw_X11_at) rfl rfl rfl (hN (RX3, 34, yX11_at) (List.mem_of_getElem? (i := 13) rfl)) (hts (.initialized RX11) (mo_X3_putTruth 1 rfl)) hd_X11_at ⟨Nat.le_of_ble_eq_true rfl, Nat.le_of_ble_eq_true rfl⟩, (hts (.static yX11_at) (mo_X3_putTruth 2 rfl)), trivial⟩ hK hN hP hD hS hA [1] [0] [0] rfl rfl (by decide) (by decide) (by decide) rfl rfl hl.1 rfl (Nat.le_of_ble_eq_true rfl) dX3_putTruth_5 ⟨Nat.le_of_ble_eq_true rfl, Nat.le_of_ble_eq_true rfl⟩ (fun r_1 u_2 H locs w_3 hP hD hK1 hS => ?_)
  have hP : va_P D vwCl [(h, .inr (3, [.ref t, .ref v, .int n])), (t, .inl (kt, 4, .inl f))] H := hP
  have hD : va_D A [(h, .inr (3, [.ref t, .ref v, .int n])), (t, .inl (kt, 4, .inl f))] := hD
  have w_3 : r_1 = at_v f 4 i := w_3
  refine lv_iconst (v := 1) hx hb dX3_putTruth_8 (by decide) ?_
  refine lv_iload_n hx hb dX3_putTruth_9 rfl (lv_at hl 2 rfl) ?_
  refine lv_ishl hx hb dX3_putTruth_10 ?_
  refine lv_topi (fun x_4 ex_4 => ?_)
  refine lv_iconst (v := (-1)) hx hb dX3_putTruth_11 (by decide) ?_
  refine lv_ixor hx hb dX3_putTruth_12 ?_
  refine lv_topi (fun x_5 ex_5 => ?_)
  refine lv_iand hx hb dX3_putTruth_13 ?_
  refine lv_topi (fun x_6 ex_6 => ?_)
  refine lv_istore (lv' := [(4, .int x_6), (0, .ref h), (1, .int i), (2, .int w), (3, .int b)]) hx hb dX3_putTruth_14 hl (by decide) rfl (fun ls hl => ?_)
  refine lv_aload_n hx hb dX3_putTruth_16 rfl (lv_at hl 1 rfl) ?_
  refine va_get (D := D) (ci := 3) (v := .ref t) (C := RX3) (T := TX3) (N := 3) hx hb hts hiX3 hown hK hP 0 rfl rfl 0 (by decide) (hts (.fieldLink RX3 9 "DynamicLogicProver$Model" "truths" "[I") (mo_X3_putTruth 0 rfl)) (fun _ h9 => h9) rfl dX3_putTruth_17 ?_
  refine lv_iload_n hx hb dX3_putTruth_20 rfl (lv_at hl 2 rfl) ?_
  refine lv_iload_n hx hb dX3_putTruth_21 rfl (lv_at hl 4 rfl) ?_
  refine lv_if_eq (tgt := 34) hx hb dX3_putTruth_22 (by decide) (fun c_7 => ?_) (fun c_7 => ?_)
  · refine lv_iload hx hb dX3_putTruth_34 (lv_at hl 0 rfl) ?_
    refine kc_Nv (As := [.ref t, .int i, .int x_6]) (rest := []) (wr := [(h, .inr (3, [.ref t, .ref v, .int n]))]) ⟨hx, hb, hml, hown, hts⟩ (ct_X11_put l D t kt 4 f i x_6 _ (by decide)) ⟨va_cnB 3 hts (goodIn_sub mb_X3_putTruth_1 gw_X11_put) rfl rfl rfl (hN (RX3, 38, yX11_put) (List.mem_of_getElem? (i := 14) rfl)) (hts (.initialized RX11) (mo_X3_putTruth 1 rfl)) hd_X11_put ⟨Nat.le_of_ble_eq_true rfl, Nat.le_of_ble_eq_true rfl⟩, (hts (.static yX11_put) (mo_X3_putTruth 3 rfl)), trivial⟩ hK hN hP hD hS hA [1] [0] [0] rfl rfl (by decide) (by decide) (by decide) rfl rfl hl.1 rfl (Nat.le_of_ble_eq_true rfl) dX3_putTruth_36 ⟨Nat.le_of_ble_eq_true rfl, Nat.le_of_ble_eq_true rfl⟩ (fun u_9 H locs w_10 hP hD hK1 hS => ?_)
    obtain ⟨o_11, rfl⟩ : ∃ z, z = u_9 := ⟨_, rfl⟩
    have hP : va_P D vwCl [(h, .inr (3, [.ref t, .ref v, .int n])), (t, .inl (kt, 4, .inl o_11))] H := hP
    have hD : va_D A [(h, .inr (3, [.ref t, .ref v, .int n])), (t, .inl (kt, 4, .inl o_11))] := hD
    have w_10 : o_11 = put_v f 4 i x_6 := w_10
    have hP9 := hP.sub (ws' := [(h, .inr (3, [.ref t, .ref v, .int n])), (t, .inl (kt, 4, .inl o_11))]) [0, 1] rfl
    have hD9 := hD.sub (ws' := [(h, .inr (3, [.ref t, .ref v, .int n])), (t, .inl (kt, 4, .inl o_11))]) [0, 1] (by decide) rfl
    have hK9 := hK.sub (tys' := []) [] rfl
    exact W.vret hx hb hr (fun tZ htZ hW => ⟨⟨o_11, rfl, trivial, by rw [htZ]; exact hP9, va_K.moved hW.alike hK9, hD9⟩, hS.F htZ⟩) hS.2.2 dX3_putTruth_39
  · refine lv_iload hx hb dX3_putTruth_25 (lv_at hl 0 rfl) ?_
    refine lv_iconst (v := 1) hx hb dX3_putTruth_27 (by decide) ?_
    refine lv_iload_n hx hb dX3_putTruth_28 rfl (lv_at hl 3 rfl) ?_
    refine lv_ishl hx hb dX3_putTruth_29 ?_
    refine lv_topi (fun x_12 ex_12 => ?_)
    refine lv_ior hx hb dX3_putTruth_30 ?_
    refine lv_topi (fun x_13 ex_13 => ?_)
    refine lv_goto (tgt := 36) hx hb dX3_putTruth_31 (by decide) ?_
    refine kc_Nv (As := [.ref t, .int i, .int x_13]) (rest := []) (wr := [(h, .inr (3, [.ref t, .ref v, .int n]))]) ⟨hx, hb, hml, hown, hts⟩ (ct_X11_put l D t kt 4 f i x_13 _ (by decide)) ⟨va_cnB 3 hts (goodIn_sub mb_X3_putTruth_1 gw_X11_put) rfl rfl rfl (hN (RX3, 38, yX11_put) (List.mem_of_getElem? (i := 14) rfl)) (hts (.initialized RX11) (mo_X3_putTruth 1 rfl)) hd_X11_put ⟨Nat.le_of_ble_eq_true rfl, Nat.le_of_ble_eq_true rfl⟩, (hts (.static yX11_put) (mo_X3_putTruth 3 rfl)), trivial⟩ hK hN hP hD hS hA [1] [0] [0] rfl rfl (by decide) (by decide) (by decide) rfl rfl hl.1 rfl (Nat.le_of_ble_eq_true rfl) dX3_putTruth_36 ⟨Nat.le_of_ble_eq_true rfl, Nat.le_of_ble_eq_true rfl⟩ (fun u_15 H locs w_16 hP hD hK1 hS => ?_)
    obtain ⟨o_17, rfl⟩ : ∃ z, z = u_15 := ⟨_, rfl⟩
    have hP : va_P D vwCl [(h, .inr (3, [.ref t, .ref v, .int n])), (t, .inl (kt, 4, .inl o_17))] H := hP
    have hD : va_D A [(h, .inr (3, [.ref t, .ref v, .int n])), (t, .inl (kt, 4, .inl o_17))] := hD
    have w_16 : o_17 = put_v f 4 i x_13 := w_16
    have hP9 := hP.sub (ws' := [(h, .inr (3, [.ref t, .ref v, .int n])), (t, .inl (kt, 4, .inl o_17))]) [0, 1] rfl
    have hD9 := hD.sub (ws' := [(h, .inr (3, [.ref t, .ref v, .int n])), (t, .inl (kt, 4, .inl o_17))]) [0, 1] (by decide) rfl
    have hK9 := hK.sub (tys' := []) [] rfl
    exact W.vret hx hb hr (fun tZ htZ hW => ⟨⟨o_17, rfl, trivial, by rw [htZ]; exact hP9, va_K.moved hW.alike hK9, hD9⟩, hS.F htZ⟩) hS.2.2 dX3_putTruth_39
theorem dX3_putMove_0 : decode cX3_putMove 0 = .ok (.iload_n 1, 1) := by decide +kernel
theorem dX3_putMove_1 : decode cX3_putMove 1 = .ok (.bipush 6, 2) := by decide +kernel
theorem dX3_putMove_3 : decode cX3_putMove 3 = .ok (.imul, 1) := by decide +kernel
theorem dX3_putMove_4 : decode cX3_putMove 4 = .ok (.iload_n 2, 1) := by decide +kernel
theorem dX3_putMove_5 : decode cX3_putMove 5 = .ok (.iadd, 1) := by decide +kernel
theorem dX3_putMove_6 : decode cX3_putMove 6 = .ok (.istore 5, 2) := by decide +kernel
theorem dX3_putMove_8 : decode cX3_putMove 8 = .ok (.aload_n 0, 1) := by decide +kernel
theorem dX3_putMove_9 : decode cX3_putMove 9 = .ok (.getfield 15, 3) := by decide +kernel
theorem dX3_putMove_12 : decode cX3_putMove 12 = .ok (.iload 5, 2) := by decide +kernel
theorem dX3_putMove_14 : decode cX3_putMove 14 = .ok (.invokestatic 34, 3) := by decide +kernel
theorem dX3_putMove_17 : decode cX3_putMove 17 = .ok (.iconst 1, 1) := by decide +kernel
theorem dX3_putMove_18 : decode cX3_putMove 18 = .ok (.iload_n 3, 1) := by decide +kernel
theorem dX3_putMove_19 : decode cX3_putMove 19 = .ok (.ishl, 1) := by decide +kernel
theorem dX3_putMove_20 : decode cX3_putMove 20 = .ok (.iconst (-1), 1) := by decide +kernel
theorem dX3_putMove_21 : decode cX3_putMove 21 = .ok (.ixor, 1) := by decide +kernel
theorem dX3_putMove_22 : decode cX3_putMove 22 = .ok (.iand, 1) := by decide +kernel
theorem dX3_putMove_23 : decode cX3_putMove 23 = .ok (.istore 6, 2) := by decide +kernel
theorem dX3_putMove_25 : decode cX3_putMove 25 = .ok (.aload_n 0, 1) := by decide +kernel
theorem dX3_putMove_26 : decode cX3_putMove 26 = .ok (.getfield 15, 3) := by decide +kernel
theorem dX3_putMove_29 : decode cX3_putMove 29 = .ok (.iload 5, 2) := by decide +kernel
theorem dX3_putMove_31 : decode cX3_putMove 31 = .ok (.iload 4, 2) := by decide +kernel
theorem dX3_putMove_33 : decode cX3_putMove 33 = .ok (.ifCond .eq 12, 3) := by decide +kernel
theorem dX3_putMove_36 : decode cX3_putMove 36 = .ok (.iload 6, 2) := by decide +kernel
theorem dX3_putMove_38 : decode cX3_putMove 38 = .ok (.iconst 1, 1) := by decide +kernel
theorem dX3_putMove_39 : decode cX3_putMove 39 = .ok (.iload_n 3, 1) := by decide +kernel
theorem dX3_putMove_40 : decode cX3_putMove 40 = .ok (.ishl, 1) := by decide +kernel
theorem dX3_putMove_41 : decode cX3_putMove 41 = .ok (.ior, 1) := by decide +kernel
theorem dX3_putMove_42 : decode cX3_putMove 42 = .ok (.goto 5, 3) := by decide +kernel
theorem dX3_putMove_45 : decode cX3_putMove 45 = .ok (.iload 6, 2) := by decide +kernel
theorem dX3_putMove_47 : decode cX3_putMove 47 = .ok (.invokestatic 38, 3) := by decide +kernel
theorem dX3_putMove_50 : decode cX3_putMove 50 = .ok (.return_, 1) := by decide +kernel
def wo_X3_putMove : List Cond := [.fieldLink RX3 15 "DynamicLogicProver$Model" "moves" "[I", .initialized RX11, .static yX11_at, .static yX11_put]
def wd_X3_putMove : List Cond := .code yX3_putMove cX3_putMove 7 none :: (wo_X3_putMove ++ (wd_X11_at ++ (wd_X11_put ++ (wsX30 ++ ([] : List Cond)))))
theorem mo_X3_putMove {w : Cond} (i : Nat) (h : wo_X3_putMove[i]? = some w) : w ∈ wd_X3_putMove := List.mem_cons_of_mem _ (List.mem_append_left _ (List.mem_of_getElem? h))
theorem mb_X3_putMove_0 : ∀ w ∈ wd_X11_at, w ∈ wd_X3_putMove := fun w h => List.mem_cons_of_mem _ (List.mem_append_right _ (List.mem_append_left _ h))
theorem mb_X3_putMove_1 : ∀ w ∈ wd_X11_put, w ∈ wd_X3_putMove := fun w h => List.mem_cons_of_mem _ (List.mem_append_right _ (List.mem_append_right _ (List.mem_append_left _ h)))
theorem mb_X3_putMove_2 : ∀ w ∈ wsX30, w ∈ wd_X3_putMove := fun w h => List.mem_cons_of_mem _ (List.mem_append_right _ (List.mem_append_right _ (List.mem_append_right _ (List.mem_append_left _ h))))
theorem hd_X3_putMove : yX3_putMove.cls ≠ "java/lang/invoke/MethodHandle" ∧ yX3_putMove.cls ≠ "java/lang/invoke/VarHandle" ∧ (parseMethodDescriptor yX3_putMove.desc).map (fun d => d.parameters.length) = some 4 := by decide +kernel
set_option maxRecDepth 20000 in
theorem gw_X3_putMove : wd_X3_putMove.all goodWord = true := by decide +kernel
abbrev qc_X3_putMove (D : va_G) (h : Nat) (t : Nat) (v : Nat) (kv : ClassId) (g : Nat → Int32) (n : Int32) (i : Int32) (w : Int32) (o : Int32) (b : Int32) (A : Nat → Prop) : Array Value → State → Outcome → State → Prop := va_Qv (fun (uZ : (Nat → Int32)) => True) (fun uZ tZ => kc_pos D A [(h, .inr (3, [.ref t, .ref v, .int n])), (v, .inl (kv, 18, .inl uZ))] [] tZ) A
set_option maxHeartbeats 4000000 in
set_option maxRecDepth 100000 in
theorem ct_X3_putMove (l : Launch) (D : va_G) (h : Nat) (t : Nat) (v : Nat) (kv : ClassId) (g : Nat → Int32) (n : Int32) (i : Int32) (w : Int32) (o : Int32) (b : Int32) (sz : Nat)  : Met l yX3_putMove wd_X3_putMove ({ frames := 1, cells := 0, slots := 0, locals := 22 }) (va_Pc [.ref h, .int i, .int w, .int o, .int b] (kc_pre D [(kv, .int)] [(h, .inr (3, [.ref t, .ref v, .int n])), (v, .inl (kv, 18, .inl g))] sz)) (qc_X3_putMove D h t v kv g n i w o b (va_A [(h, .inr (3, [.ref t, .ref v, .int n])), (v, .inl (kv, 18, .inl g))] sz)) 0 0 (va_A [(h, .inr (3, [.ref t, .ref v, .int n])), (v, .inl (kv, 18, .inl g))] sz) := by
  refine Met.ofW (cc := cX3_putMove) (maxL := 7) (ret := none) (by decide) rfl ?_
  intro p e s m args below meth c s₁ B hml hv
  obtain ⟨rfl, hsz, hP, hK, hN, hD0⟩ := hv
  have hx := B.exec
  have hb := B.bytes
  have hr := B.returns
  have hts := atoms_spec (ws := wd_X3_putMove) B.pre
  have hown : s.vm.findClass RX3 = some m.cls := findClass_of_methodNamed B.named
  have hlocks := B.notSynchronized
  subst hsz
  have hD := hD0.self (sz := s.heap.size)
  generalize hAe : va_A [(h, .inr (3, [.ref t, .ref v, .int n])), (v, .inl (kv, 18, .inl g))] s.heap.size = A at hD ⊢
  have hA : ∀ q : Nat, s.heap.size ≤ q → A q := fun q h => by rw [← hAe]; exact Or.inr h
  have hS : va_S A s.heap s.heap [] := va_S.rf
  have hiX3 : ∀ w ∈ wsX30, w ∈ wd_X3_putMove := mb_X3_putMove_2
  have hl := lv_entry ([.ref h, .int i, .int w, .int o, .int b]) (n := 7) (Nat.le_of_ble_eq_true rfl)
  rw [lg_entry_eq]
  generalize (lg_sl ([.ref h, .int i, .int w, .int o, .int b]) ++ List.replicate (7 - (lg_sl ([.ref h, .int i, .int w, .int o, .int b])).length) Slot.unset).toArray = ls at hl ⊢
  have hl : lv_has ls 7 [(0, .ref h), (1, .int i), (2, .int w), (3, .int o), (4, .int b)] := hl
  refine lv_iload_n hx hb dX3_putMove_0 rfl (lv_at hl 1 rfl) ?_
  refine lv_bipush (v := 6) hx hb dX3_putMove_1 (by decide) ?_
  refine lv_imul hx hb dX3_putMove_3 ?_
  refine lv_topi (fun x_1 ex_1 => ?_)
  refine lv_iload_n hx hb dX3_putMove_4 rfl (lv_at hl 2 rfl) ?_
  refine lv_iadd hx hb dX3_putMove_5 ?_
  refine lv_topi (fun x_2 ex_2 => ?_)
  refine lv_istore (lv' := [(5, .int x_2), (0, .ref h), (1, .int i), (2, .int w), (3, .int o), (4, .int b)]) hx hb dX3_putMove_6 hl (by decide) rfl (fun ls hl => ?_)
  refine lv_aload_n hx hb dX3_putMove_8 rfl (lv_at hl 1 rfl) ?_
  refine va_get (D := D) (ci := 3) (v := .ref v) (C := RX3) (T := TX3) (N := 3) hx hb hts hiX3 hown hK hP 0 rfl rfl 1 (by decide) (hts (.fieldLink RX3 15 "DynamicLogicProver$Model" "moves" "[I") (mo_X3_putMove 0 rfl)) (fun _ h9 => h9) rfl dX3_putMove_9 ?_
  refine lv_iload hx hb dX3_putMove_12 (lv_at hl 0 rfl) ?_
  refine kc_Ni (As := [.ref v, .int x_2]) (rest := []) (wr := [(h, .inr (3, [.ref t, .ref v, .int n]))]) ⟨hx, hb, hml, hown, hts⟩ (ct_X11_at l D v kv 18 g x_2 _ (by decide)) ⟨va_cnB 2 hts (goodIn_sub mb_X3_putMove_0 gw_X11_at) rfl rfl rfl (hN (RX3, 34, yX11_at) (List.mem_of_getElem? (i := 13) rfl)) (hts (.initialized RX11) (mo_X3_putMove 1 rfl)) hd_X11_at ⟨Nat.le_of_ble_eq_true rfl, Nat.le_of_ble_eq_true rfl⟩, (hts (.static yX11_at) (mo_X3_putMove 2 rfl)), trivial⟩ hK hN hP hD hS hA [1] [0] [0] rfl rfl (by decide) (by decide) (by decide) rfl rfl hl.1 rfl (Nat.le_of_ble_eq_true rfl) dX3_putMove_14 ⟨Nat.le_of_ble_eq_true rfl, Nat.le_of_ble_eq_true rfl⟩ (fun r_3 u_4 H locs w_5 hP hD hK1 hS => ?_)
  have hP : va_P D vwCl [(h, .inr (3, [.ref t, .ref v, .int n])), (v, .inl (kv, 18, .inl g))] H := hP
  have hD : va_D A [(h, .inr (3, [.ref t, .ref v, .int n])), (v, .inl (kv, 18, .inl g))] := hD
  have w_5 : r_3 = at_v g 18 x_2 := w_5
  refine lv_iconst (v := 1) hx hb dX3_putMove_17 (by decide) ?_
  refine lv_iload_n hx hb dX3_putMove_18 rfl (lv_at hl 4 rfl) ?_
  refine lv_ishl hx hb dX3_putMove_19 ?_
  refine lv_topi (fun x_6 ex_6 => ?_)
  refine lv_iconst (v := (-1)) hx hb dX3_putMove_20 (by decide) ?_
  refine lv_ixor hx hb dX3_putMove_21 ?_
  refine lv_topi (fun x_7 ex_7 => ?_)
  refine lv_iand hx hb dX3_putMove_22 ?_
  refine lv_topi (fun x_8 ex_8 => ?_)
  refine lv_istore (lv' := [(6, .int x_8), (5, .int x_2), (0, .ref h), (1, .int i), (2, .int w), (3, .int o), (4, .int b)]) hx hb dX3_putMove_23 hl (by decide) rfl (fun ls hl => ?_)
  refine lv_aload_n hx hb dX3_putMove_25 rfl (lv_at hl 2 rfl) ?_
  refine va_get (D := D) (ci := 3) (v := .ref v) (C := RX3) (T := TX3) (N := 3) hx hb hts hiX3 hown hK hP 0 rfl rfl 1 (by decide) (hts (.fieldLink RX3 15 "DynamicLogicProver$Model" "moves" "[I") (mo_X3_putMove 0 rfl)) (fun _ h9 => h9) rfl dX3_putMove_26 ?_
  refine lv_iload hx hb dX3_putMove_29 (lv_at hl 1 rfl) ?_
  refine lv_iload hx hb dX3_putMove_31 (lv_at hl 6 rfl) ?_
  refine lv_if_eq (tgt := 45) hx hb dX3_putMove_33 (by decide) (fun c_9 => ?_) (fun c_9 => ?_)
  · refine lv_iload hx hb dX3_putMove_45 (lv_at hl 0 rfl) ?_
    refine kc_Nv (As := [.ref v, .int x_2, .int x_8]) (rest := []) (wr := [(h, .inr (3, [.ref t, .ref v, .int n]))]) ⟨hx, hb, hml, hown, hts⟩ (ct_X11_put l D v kv 18 g x_2 x_8 _ (by decide)) ⟨va_cnB 3 hts (goodIn_sub mb_X3_putMove_1 gw_X11_put) rfl rfl rfl (hN (RX3, 38, yX11_put) (List.mem_of_getElem? (i := 14) rfl)) (hts (.initialized RX11) (mo_X3_putMove 1 rfl)) hd_X11_put ⟨Nat.le_of_ble_eq_true rfl, Nat.le_of_ble_eq_true rfl⟩, (hts (.static yX11_put) (mo_X3_putMove 3 rfl)), trivial⟩ hK hN hP hD hS hA [1] [0] [0] rfl rfl (by decide) (by decide) (by decide) rfl rfl hl.1 rfl (Nat.le_of_ble_eq_true rfl) dX3_putMove_47 ⟨Nat.le_of_ble_eq_true rfl, Nat.le_of_ble_eq_true rfl⟩ (fun u_11 H locs w_12 hP hD hK1 hS => ?_)
    obtain ⟨o_13, rfl⟩ : ∃ z, z = u_11 := ⟨_, rfl⟩
    have hP : va_P D vwCl [(h, .inr (3, [.ref t, .ref v, .int n])), (v, .inl (kv, 18, .inl o_13))] H := hP
    have hD : va_D A [(h, .inr (3, [.ref t, .ref v, .int n])), (v, .inl (kv, 18, .inl o_13))] := hD
    have w_12 : o_13 = put_v g 18 x_2 x_8 := w_12
    have hP9 := hP.sub (ws' := [(h, .inr (3, [.ref t, .ref v, .int n])), (v, .inl (kv, 18, .inl o_13))]) [0, 1] rfl
    have hD9 := hD.sub (ws' := [(h, .inr (3, [.ref t, .ref v, .int n])), (v, .inl (kv, 18, .inl o_13))]) [0, 1] (by decide) rfl
    have hK9 := hK.sub (tys' := []) [] rfl
    exact W.vret hx hb hr (fun tZ htZ hW => ⟨⟨o_13, rfl, trivial, by rw [htZ]; exact hP9, va_K.moved hW.alike hK9, hD9⟩, hS.F htZ⟩) hS.2.2 dX3_putMove_50
  · refine lv_iload hx hb dX3_putMove_36 (lv_at hl 0 rfl) ?_
    refine lv_iconst (v := 1) hx hb dX3_putMove_38 (by decide) ?_
    refine lv_iload_n hx hb dX3_putMove_39 rfl (lv_at hl 5 rfl) ?_
    refine lv_ishl hx hb dX3_putMove_40 ?_
    refine lv_topi (fun x_14 ex_14 => ?_)
    refine lv_ior hx hb dX3_putMove_41 ?_
    refine lv_topi (fun x_15 ex_15 => ?_)
    refine lv_goto (tgt := 47) hx hb dX3_putMove_42 (by decide) ?_
    refine kc_Nv (As := [.ref v, .int x_2, .int x_15]) (rest := []) (wr := [(h, .inr (3, [.ref t, .ref v, .int n]))]) ⟨hx, hb, hml, hown, hts⟩ (ct_X11_put l D v kv 18 g x_2 x_15 _ (by decide)) ⟨va_cnB 3 hts (goodIn_sub mb_X3_putMove_1 gw_X11_put) rfl rfl rfl (hN (RX3, 38, yX11_put) (List.mem_of_getElem? (i := 14) rfl)) (hts (.initialized RX11) (mo_X3_putMove 1 rfl)) hd_X11_put ⟨Nat.le_of_ble_eq_true rfl, Nat.le_of_ble_eq_true rfl⟩, (hts (.static yX11_put) (mo_X3_putMove 3 rfl)), trivial⟩ hK hN hP hD hS hA [1] [0] [0] rfl rfl (by decide) (by decide) (by decide) rfl rfl hl.1 rfl (Nat.le_of_ble_eq_true rfl) dX3_putMove_47 ⟨Nat.le_of_ble_eq_true rfl, Nat.le_of_ble_eq_true rfl⟩ (fun u_17 H locs w_18 hP hD hK1 hS => ?_)
    obtain ⟨o_19, rfl⟩ : ∃ z, z = u_17 := ⟨_, rfl⟩
    have hP : va_P D vwCl [(h, .inr (3, [.ref t, .ref v, .int n])), (v, .inl (kv, 18, .inl o_19))] H := hP
    have hD : va_D A [(h, .inr (3, [.ref t, .ref v, .int n])), (v, .inl (kv, 18, .inl o_19))] := hD
    have w_18 : o_19 = put_v g 18 x_2 x_15 := w_18
    have hP9 := hP.sub (ws' := [(h, .inr (3, [.ref t, .ref v, .int n])), (v, .inl (kv, 18, .inl o_19))]) [0, 1] rfl
    have hD9 := hD.sub (ws' := [(h, .inr (3, [.ref t, .ref v, .int n])), (v, .inl (kv, 18, .inl o_19))]) [0, 1] (by decide) rfl
    have hK9 := hK.sub (tys' := []) [] rfl
    exact W.vret hx hb hr (fun tZ htZ hW => ⟨⟨o_19, rfl, trivial, by rw [htZ]; exact hP9, va_K.moved hW.alike hK9, hD9⟩, hS.F htZ⟩) hS.2.2 dX3_putMove_50
theorem dX3_moves_0 : decode cX3_moves 0 = .ok (.aload_n 0, 1) := by decide +kernel
theorem dX3_moves_1 : decode cX3_moves 1 = .ok (.getfield 15, 3) := by decide +kernel
theorem dX3_moves_4 : decode cX3_moves 4 = .ok (.iload_n 1, 1) := by decide +kernel
theorem dX3_moves_5 : decode cX3_moves 5 = .ok (.bipush 6, 2) := by decide +kernel
theorem dX3_moves_7 : decode cX3_moves 7 = .ok (.imul, 1) := by decide +kernel
theorem dX3_moves_8 : decode cX3_moves 8 = .ok (.iload_n 2, 1) := by decide +kernel
theorem dX3_moves_9 : decode cX3_moves 9 = .ok (.iadd, 1) := by decide +kernel
theorem dX3_moves_10 : decode cX3_moves 10 = .ok (.invokestatic 34, 3) := by decide +kernel
theorem dX3_moves_13 : decode cX3_moves 13 = .ok (.ireturn, 1) := by decide +kernel
def wo_X3_moves : List Cond := [.fieldLink RX3 15 "DynamicLogicProver$Model" "moves" "[I", .initialized RX11, .static yX11_at]
def wd_X3_moves : List Cond := .code yX3_moves cX3_moves 3 (some .int) :: (wo_X3_moves ++ (wd_X11_at ++ (wsX30 ++ ([] : List Cond))))
theorem mo_X3_moves {w : Cond} (i : Nat) (h : wo_X3_moves[i]? = some w) : w ∈ wd_X3_moves := List.mem_cons_of_mem _ (List.mem_append_left _ (List.mem_of_getElem? h))
theorem mb_X3_moves_0 : ∀ w ∈ wd_X11_at, w ∈ wd_X3_moves := fun w h => List.mem_cons_of_mem _ (List.mem_append_right _ (List.mem_append_left _ h))
theorem mb_X3_moves_1 : ∀ w ∈ wsX30, w ∈ wd_X3_moves := fun w h => List.mem_cons_of_mem _ (List.mem_append_right _ (List.mem_append_right _ (List.mem_append_left _ h)))
theorem hd_X3_moves : yX3_moves.cls ≠ "java/lang/invoke/MethodHandle" ∧ yX3_moves.cls ≠ "java/lang/invoke/VarHandle" ∧ (parseMethodDescriptor yX3_moves.desc).map (fun d => d.parameters.length) = some 2 := by decide +kernel
set_option maxRecDepth 20000 in
theorem gw_X3_moves : wd_X3_moves.all goodWord = true := by decide +kernel
abbrev qc_X3_moves (D : va_G) (h : Nat) (t : Nat) (v : Nat) (kv : ClassId) (g : Nat → Int32) (n : Int32) (i : Int32) (w : Int32) (A : Nat → Prop) : Array Value → State → Outcome → State → Prop := va_Qi (fun (r : Int32) (uZ : Unit) => r = at_v g 18 (i * 6 + w)) (fun uZ tZ => kc_pos D A [(h, .inr (3, [.ref t, .ref v, .int n])), (v, .inl (kv, 18, .inl g))] [] tZ) A
set_option maxHeartbeats 4000000 in
set_option maxRecDepth 100000 in
theorem ct_X3_moves (l : Launch) (D : va_G) (h : Nat) (t : Nat) (v : Nat) (kv : ClassId) (g : Nat → Int32) (n : Int32) (i : Int32) (w : Int32) (sz : Nat)  : Met l yX3_moves wd_X3_moves ({ frames := 1, cells := 0, slots := 0, locals := 21 }) (va_Pc [.ref h, .int i, .int w] (kc_pre D [(kv, .int)] [(h, .inr (3, [.ref t, .ref v, .int n])), (v, .inl (kv, 18, .inl g))] sz)) (qc_X3_moves D h t v kv g n i w (va_A [(h, .inr (3, [.ref t, .ref v, .int n])), (v, .inl (kv, 18, .inl g))] sz)) 0 0 (va_A [(h, .inr (3, [.ref t, .ref v, .int n])), (v, .inl (kv, 18, .inl g))] sz) := by
  refine Met.ofW (cc := cX3_moves) (maxL := 3) (ret := (some .int)) (by decide) rfl ?_
  intro p e s m args below meth c s₁ B hml hv
  obtain ⟨rfl, hsz, hP, hK, hN, hD0⟩ := hv
  have hx := B.exec
  have hb := B.bytes
  have hr := B.returns
  have hts := atoms_spec (ws := wd_X3_moves) B.pre
  have hown : s.vm.findClass RX3 = some m.cls := findClass_of_methodNamed B.named
  have hlocks := B.notSynchronized
  subst hsz
  have hD := hD0.self (sz := s.heap.size)
  generalize hAe : va_A [(h, .inr (3, [.ref t, .ref v, .int n])), (v, .inl (kv, 18, .inl g))] s.heap.size = A at hD ⊢
  have hA : ∀ q : Nat, s.heap.size ≤ q → A q := fun q h => by rw [← hAe]; exact Or.inr h
  have hS : va_S A s.heap s.heap [] := va_S.rf
  have hiX3 : ∀ w ∈ wsX30, w ∈ wd_X3_moves := mb_X3_moves_1
  have hl := lv_entry ([.ref h, .int i, .int w]) (n := 3) (Nat.le_of_ble_eq_true rfl)
  rw [lg_entry_eq]
  generalize (lg_sl ([.ref h, .int i, .int w]) ++ List.replicate (3 - (lg_sl ([.ref h, .int i, .int w])).length) Slot.unset).toArray = ls at hl ⊢
  have hl : lv_has ls 3 [(0, .ref h), (1, .int i), (2, .int w)] := hl
  refine lv_aload_n hx hb dX3_moves_0 rfl (lv_at hl 0 rfl) ?_
  refine va_get (D := D) (ci := 3) (v := .ref v) (C := RX3) (T := TX3) (N := 3) hx hb hts hiX3 hown hK hP 0 rfl rfl 1 (by decide) (hts (.fieldLink RX3 15 "DynamicLogicProver$Model" "moves" "[I") (mo_X3_moves 0 rfl)) (fun _ h9 => h9) rfl dX3_moves_1 ?_
  refine lv_iload_n hx hb dX3_moves_4 rfl (lv_at hl 1 rfl) ?_
  refine lv_bipush (v := 6) hx hb dX3_moves_5 (by decide) ?_
  refine lv_imul hx hb dX3_moves_7 ?_
  refine lv_topi (fun x_1 ex_1 => ?_)
  refine lv_iload_n hx hb dX3_moves_8 rfl (lv_at hl 2 rfl) ?_
  refine lv_iadd hx hb dX3_moves_9 ?_
  refine lv_topi (fun x_2 ex_2 => ?_)
  refine kc_Ni (As := [.ref v, .int x_2]) (rest := []) (wr := [(h, .inr (3, [.ref t, .ref v, .int n]))]) ⟨hx, hb, hml, hown, hts⟩ (ct_X11_at l D v kv 18 g x_2 _ (by decide)) ⟨va_cnB 2 hts (goodIn_sub mb_X3_moves_0 gw_X11_at) rfl rfl rfl (hN (RX3, 34, yX11_at) (List.mem_of_getElem? (i := 13) rfl)) (hts (.initialized RX11) (mo_X3_moves 1 rfl)) hd_X11_at ⟨Nat.le_of_ble_eq_true rfl, Nat.le_of_ble_eq_true rfl⟩, (hts (.static yX11_at) (mo_X3_moves 2 rfl)), trivial⟩ hK hN hP hD hS hA [1] [0] [0] rfl rfl (by decide) (by decide) (by decide) rfl rfl hl.1 rfl (Nat.le_of_ble_eq_true rfl) dX3_moves_10 ⟨Nat.le_of_ble_eq_true rfl, Nat.le_of_ble_eq_true rfl⟩ (fun r_3 u_4 H locs w_5 hP hD hK1 hS => ?_)
  have hP : va_P D vwCl [(h, .inr (3, [.ref t, .ref v, .int n])), (v, .inl (kv, 18, .inl g))] H := hP
  have hD : va_D A [(h, .inr (3, [.ref t, .ref v, .int n])), (v, .inl (kv, 18, .inl g))] := hD
  have w_5 : r_3 = at_v g 18 x_2 := w_5
  have hP9 := hP.sub (ws' := [(h, .inr (3, [.ref t, .ref v, .int n])), (v, .inl (kv, 18, .inl g))]) [0, 1] rfl
  have hD9 := hD.sub (ws' := [(h, .inr (3, [.ref t, .ref v, .int n])), (v, .inl (kv, 18, .inl g))]) [0, 1] (by decide) rfl
  have hK9 := hK.sub (tys' := []) [] rfl
  exact W.iret (v := r_3) hx hb hr (fun tZ htZ hW => ⟨⟨r_3, (), rfl, (by rw [w_5, ex_2, ex_1]), by rw [htZ]; exact hP9, va_K.moved hW.alike hK9, hD9⟩, hS.F htZ⟩) hS.2.2 dX3_moves_13
theorem dX3_lettersAt_0 : decode cX3_lettersAt 0 = .ok (.iconst 0, 1) := by decide +kernel
theorem dX3_lettersAt_1 : decode cX3_lettersAt 1 = .ok (.istore_n 2, 1) := by decide +kernel
theorem dX3_lettersAt_2 : decode cX3_lettersAt 2 = .ok (.iconst 0, 1) := by decide +kernel
theorem dX3_lettersAt_3 : decode cX3_lettersAt 3 = .ok (.istore_n 3, 1) := by decide +kernel
theorem dX3_lettersAt_4 : decode cX3_lettersAt 4 = .ok (.iload_n 3, 1) := by decide +kernel
theorem dX3_lettersAt_5 : decode cX3_lettersAt 5 = .ok (.iconst 4, 1) := by decide +kernel
theorem dX3_lettersAt_6 : decode cX3_lettersAt 6 = .ok (.if_icmp .ge 26, 3) := by decide +kernel
theorem dX3_lettersAt_9 : decode cX3_lettersAt 9 = .ok (.iload_n 2, 1) := by decide +kernel
theorem dX3_lettersAt_10 : decode cX3_lettersAt 10 = .ok (.aload_n 0, 1) := by decide +kernel
theorem dX3_lettersAt_11 : decode cX3_lettersAt 11 = .ok (.getfield 9, 3) := by decide +kernel
theorem dX3_lettersAt_14 : decode cX3_lettersAt 14 = .ok (.iload_n 3, 1) := by decide +kernel
theorem dX3_lettersAt_15 : decode cX3_lettersAt 15 = .ok (.invokestatic 34, 3) := by decide +kernel
theorem dX3_lettersAt_18 : decode cX3_lettersAt 18 = .ok (.iload_n 1, 1) := by decide +kernel
theorem dX3_lettersAt_19 : decode cX3_lettersAt 19 = .ok (.ishr, 1) := by decide +kernel
theorem dX3_lettersAt_20 : decode cX3_lettersAt 20 = .ok (.iconst 1, 1) := by decide +kernel
theorem dX3_lettersAt_21 : decode cX3_lettersAt 21 = .ok (.iand, 1) := by decide +kernel
theorem dX3_lettersAt_22 : decode cX3_lettersAt 22 = .ok (.iload_n 3, 1) := by decide +kernel
theorem dX3_lettersAt_23 : decode cX3_lettersAt 23 = .ok (.ishl, 1) := by decide +kernel
theorem dX3_lettersAt_24 : decode cX3_lettersAt 24 = .ok (.ior, 1) := by decide +kernel
theorem dX3_lettersAt_25 : decode cX3_lettersAt 25 = .ok (.istore_n 2, 1) := by decide +kernel
theorem dX3_lettersAt_26 : decode cX3_lettersAt 26 = .ok (.iinc 3 1, 3) := by decide +kernel
theorem dX3_lettersAt_29 : decode cX3_lettersAt 29 = .ok (.goto (-25), 3) := by decide +kernel
theorem dX3_lettersAt_32 : decode cX3_lettersAt 32 = .ok (.iload_n 2, 1) := by decide +kernel
theorem dX3_lettersAt_33 : decode cX3_lettersAt 33 = .ok (.ireturn, 1) := by decide +kernel
def wo_X3_lettersAt0 : List Cond := [.fieldLink RX3 9 "DynamicLogicProver$Model" "truths" "[I", .initialized RX11, .static yX11_at]
def wd_X3_lettersAt0 : List Cond := .code yX3_lettersAt cX3_lettersAt 4 (some .int) :: (wo_X3_lettersAt0 ++ (wd_X11_at ++ (wsX30 ++ ([] : List Cond))))
theorem mo_X3_lettersAt0 {w : Cond} (i : Nat) (h : wo_X3_lettersAt0[i]? = some w) : w ∈ wd_X3_lettersAt0 := List.mem_cons_of_mem _ (List.mem_append_left _ (List.mem_of_getElem? h))
theorem mb_X3_lettersAt0_0 : ∀ w ∈ wd_X11_at, w ∈ wd_X3_lettersAt0 := fun w h => List.mem_cons_of_mem _ (List.mem_append_right _ (List.mem_append_left _ h))
theorem mb_X3_lettersAt0_1 : ∀ w ∈ wsX30, w ∈ wd_X3_lettersAt0 := fun w h => List.mem_cons_of_mem _ (List.mem_append_right _ (List.mem_append_right _ (List.mem_append_left _ h)))
theorem hd_X3_lettersAt : yX3_lettersAt.cls ≠ "java/lang/invoke/MethodHandle" ∧ yX3_lettersAt.cls ≠ "java/lang/invoke/VarHandle" ∧ (parseMethodDescriptor yX3_lettersAt.desc).map (fun d => d.parameters.length) = some 1 := by decide +kernel
set_option maxRecDepth 20000 in
theorem gw_X3_lettersAt0 : wd_X3_lettersAt0.all goodWord = true := by decide +kernel
abbrev qc_X3_lettersAt0 (D : va_G) (h : Nat) (t : Nat) (v : Nat) (kt : ClassId) (n : Int32) (w : Int32) (A : Nat → Prop) : Array Value → State → Outcome → State → Prop := va_Qi (fun (r : Int32) (uZ : Unit) => r = 0) (fun uZ tZ => kc_pos D A [(h, .inr (3, [.ref t, .ref v, .int n])), (t, .inl (kt, 4, .inl (fun _ => 0)))] [] tZ) A
set_option maxHeartbeats 4000000 in
set_option maxRecDepth 100000 in
theorem ct_X3_lettersAt0 (l : Launch) (D : va_G) (h : Nat) (t : Nat) (v : Nat) (kt : ClassId) (n : Int32) (w : Int32) (sz : Nat)  : Met l yX3_lettersAt wd_X3_lettersAt0 ({ frames := 1, cells := 0, slots := 0, locals := 21 }) (va_Pc [.ref h, .int w] (kc_pre D [(kt, .int)] [(h, .inr (3, [.ref t, .ref v, .int n])), (t, .inl (kt, 4, .inl (fun _ => 0)))] sz)) (qc_X3_lettersAt0 D h t v kt n w (va_A [(h, .inr (3, [.ref t, .ref v, .int n])), (t, .inl (kt, 4, .inl (fun _ => 0)))] sz)) 0 0 (va_A [(h, .inr (3, [.ref t, .ref v, .int n])), (t, .inl (kt, 4, .inl (fun _ => 0)))] sz) := by
  refine Met.ofW (cc := cX3_lettersAt) (maxL := 4) (ret := (some .int)) (by decide) rfl ?_
  intro p e s m args below meth c s₁ B hml hv
  obtain ⟨rfl, hsz, hP, hK, hN, hD0⟩ := hv
  have hx := B.exec
  have hb := B.bytes
  have hr := B.returns
  have hts := atoms_spec (ws := wd_X3_lettersAt0) B.pre
  have hown : s.vm.findClass RX3 = some m.cls := findClass_of_methodNamed B.named
  have hlocks := B.notSynchronized
  subst hsz
  have hD := hD0.self (sz := s.heap.size)
  generalize hAe : va_A [(h, .inr (3, [.ref t, .ref v, .int n])), (t, .inl (kt, 4, .inl (fun _ => 0)))] s.heap.size = A at hD ⊢
  have hA : ∀ q : Nat, s.heap.size ≤ q → A q := fun q h => by rw [← hAe]; exact Or.inr h
  have hS : va_S A s.heap s.heap [] := va_S.rf
  have hiX3 : ∀ w ∈ wsX30, w ∈ wd_X3_lettersAt0 := mb_X3_lettersAt0_1
  have hl := lv_entry ([.ref h, .int w]) (n := 4) (Nat.le_of_ble_eq_true rfl)
  rw [lg_entry_eq]
  generalize (lg_sl ([.ref h, .int w]) ++ List.replicate (4 - (lg_sl ([.ref h, .int w])).length) Slot.unset).toArray = ls at hl ⊢
  have hl : lv_has ls 4 [(0, .ref h), (1, .int w)] := hl
  refine lv_iconst (v := 0) hx hb dX3_lettersAt_0 (by decide) ?_
  refine lv_istore_n (lv' := [(2, .int 0), (0, .ref h), (1, .int w)]) hx hb dX3_lettersAt_1 rfl hl (by decide) rfl (fun ls hl => ?_)
  refine lv_iconst (v := 0) hx hb dX3_lettersAt_2 (by decide) ?_
  refine lv_istore_n (lv' := [(3, .int 0), (2, .int 0), (0, .ref h), (1, .int w)]) hx hb dX3_lettersAt_3 rfl hl (by decide) rfl (fun ls hl => ?_)
  refine lv_iload_n hx hb dX3_lettersAt_4 rfl (lv_at hl 0 rfl) ?_
  refine lv_iconst (v := 4) hx hb dX3_lettersAt_5 (by decide) ?_
  refine lv_icmp_ge (tgt := 32) hx hb dX3_lettersAt_6 (by decide) (fun c_1 => ?_) (fun c_1 => ?_)
  · exact absurd c_1 (by decide)
  · refine lv_iload_n hx hb dX3_lettersAt_9 rfl (lv_at hl 1 rfl) ?_
    refine lv_aload_n hx hb dX3_lettersAt_10 rfl (lv_at hl 2 rfl) ?_
    refine va_get (D := D) (ci := 3) (v := .ref t) (C := RX3) (T := TX3) (N := 3) hx hb hts hiX3 hown hK hP 0 rfl rfl 0 (by decide) (hts (.fieldLink RX3 9 "DynamicLogicProver$Model" "truths" "[I") (mo_X3_lettersAt0 0 rfl)) (fun _ h9 => h9) rfl dX3_lettersAt_11 ?_
    refine lv_iload_n hx hb dX3_lettersAt_14 rfl (lv_at hl 0 rfl) ?_
    refine kc_Ni (As := [.ref t, .int 0]) (rest := [.int 0]) (wr := [(h, .inr (3, [.ref t, .ref v, .int n]))]) ⟨hx, hb, hml, hown, hts⟩ (ct_X11_at l D t kt 4 (fun _ => 0) 0 _ (by decide)) ⟨va_cnB 2 hts (goodIn_sub mb_X3_lettersAt0_0 gw_X11_at) rfl rfl rfl (hN (RX3, 34, yX11_at) (List.mem_of_getElem? (i := 13) rfl)) (hts (.initialized RX11) (mo_X3_lettersAt0 1 rfl)) hd_X11_at ⟨Nat.le_of_ble_eq_true rfl, Nat.le_of_ble_eq_true rfl⟩, (hts (.static yX11_at) (mo_X3_lettersAt0 2 rfl)), trivial⟩ hK hN hP hD hS hA [1] [0] [0] rfl rfl (by decide) (by decide) (by decide) rfl rfl hl.1 rfl (Nat.le_of_ble_eq_true rfl) dX3_lettersAt_15 ⟨Nat.le_of_ble_eq_true rfl, Nat.le_of_ble_eq_true rfl⟩ (fun r_2 u_3 H locs w_4 hP hD hK1 hS => ?_)
    have hP : va_P D vwCl [(h, .inr (3, [.ref t, .ref v, .int n])), (t, .inl (kt, 4, .inl (fun _ => 0)))] H := hP
    have hD : va_D A [(h, .inr (3, [.ref t, .ref v, .int n])), (t, .inl (kt, 4, .inl (fun _ => 0)))] := hD
    have w_4 : r_2 = at_v (fun _ => 0) 4 0 := w_4
    obtain rfl : r_2 = 0 := w_4.trans (at_v0 _ _)
    refine lv_iload_n hx hb dX3_lettersAt_18 rfl (lv_at hl 3 rfl) ?_
    refine lv_ishr hx hb dX3_lettersAt_19 ?_
    refine lv_topi (fun x_5 ex_5 => ?_)
    obtain rfl : x_5 = 0 := ex_5.trans (z_shr _)
    refine lv_iconst (v := 1) hx hb dX3_lettersAt_20 (by decide) ?_
    refine lv_iand hx hb dX3_lettersAt_21 ?_
    refine lv_topi (fun x_6 ex_6 => ?_)
    obtain rfl : x_6 = 0 := ex_6.trans (by decide)
    refine lv_iload_n hx hb dX3_lettersAt_22 rfl (lv_at hl 0 rfl) ?_
    refine lv_ishl hx hb dX3_lettersAt_23 ?_
    refine lv_topi (fun x_7 ex_7 => ?_)
    obtain rfl : x_7 = 0 := ex_7.trans (by decide)
    refine lv_ior hx hb dX3_lettersAt_24 ?_
    refine lv_topi (fun x_8 ex_8 => ?_)
    obtain rfl : x_8 = 0 := ex_8.trans (by decide)
    refine lv_istore_n (lv' := [(2, .int 0), (3, .int 0), (0, .ref h), (1, .int w)]) hx hb dX3_lettersAt_25 rfl hl (by decide) rfl (fun ls hl => ?_)
    refine lv_iinc (v := 1) (lv' := [(3, .int 1), (2, .int 0), (0, .ref h), (1, .int w)]) hx hb dX3_lettersAt_26 hl (k := 1) rfl (by decide) (by decide) rfl (fun ls hl => ?_)
    refine lv_goto (tgt := 4) hx hb dX3_lettersAt_29 (by decide) ?_
    refine lv_iload_n hx hb dX3_lettersAt_4 rfl (lv_at hl 0 rfl) ?_
    refine lv_iconst (v := 4) hx hb dX3_lettersAt_5 (by decide) ?_
    refine lv_icmp_ge (tgt := 32) hx hb dX3_lettersAt_6 (by decide) (fun c_9 => ?_) (fun c_9 => ?_)
    · exact absurd c_9 (by decide)
    · refine lv_iload_n hx hb dX3_lettersAt_9 rfl (lv_at hl 1 rfl) ?_
      refine lv_aload_n hx hb dX3_lettersAt_10 rfl (lv_at hl 2 rfl) ?_
      refine va_get (D := D) (ci := 3) (v := .ref t) (C := RX3) (T := TX3) (N := 3) hx hb hts hiX3 hown hK hP 0 rfl rfl 0 (by decide) (hts (.fieldLink RX3 9 "DynamicLogicProver$Model" "truths" "[I") (mo_X3_lettersAt0 0 rfl)) (fun _ h9 => h9) rfl dX3_lettersAt_11 ?_
      refine lv_iload_n hx hb dX3_lettersAt_14 rfl (lv_at hl 0 rfl) ?_
      refine kc_Ni (As := [.ref t, .int 1]) (rest := [.int 0]) (wr := [(h, .inr (3, [.ref t, .ref v, .int n]))]) ⟨hx, hb, hml, hown, hts⟩ (ct_X11_at l D t kt 4 (fun _ => 0) 1 _ (by decide)) ⟨va_cnB 2 hts (goodIn_sub mb_X3_lettersAt0_0 gw_X11_at) rfl rfl rfl (hN (RX3, 34, yX11_at) (List.mem_of_getElem? (i := 13) rfl)) (hts (.initialized RX11) (mo_X3_lettersAt0 1 rfl)) hd_X11_at ⟨Nat.le_of_ble_eq_true rfl, Nat.le_of_ble_eq_true rfl⟩, (hts (.static yX11_at) (mo_X3_lettersAt0 2 rfl)), trivial⟩ hK hN hP hD hS hA [1] [0] [0] rfl rfl (by decide) (by decide) (by decide) rfl rfl hl.1 rfl (Nat.le_of_ble_eq_true rfl) dX3_lettersAt_15 ⟨Nat.le_of_ble_eq_true rfl, Nat.le_of_ble_eq_true rfl⟩ (fun r_10 u_11 H locs w_12 hP hD hK1 hS => ?_)
      have hP : va_P D vwCl [(h, .inr (3, [.ref t, .ref v, .int n])), (t, .inl (kt, 4, .inl (fun _ => 0)))] H := hP
      have hD : va_D A [(h, .inr (3, [.ref t, .ref v, .int n])), (t, .inl (kt, 4, .inl (fun _ => 0)))] := hD
      have w_12 : r_10 = at_v (fun _ => 0) 4 1 := w_12
      obtain rfl : r_10 = 0 := w_12.trans (at_v0 _ _)
      refine lv_iload_n hx hb dX3_lettersAt_18 rfl (lv_at hl 3 rfl) ?_
      refine lv_ishr hx hb dX3_lettersAt_19 ?_
      refine lv_topi (fun x_13 ex_13 => ?_)
      obtain rfl : x_13 = 0 := ex_13.trans (z_shr _)
      refine lv_iconst (v := 1) hx hb dX3_lettersAt_20 (by decide) ?_
      refine lv_iand hx hb dX3_lettersAt_21 ?_
      refine lv_topi (fun x_14 ex_14 => ?_)
      obtain rfl : x_14 = 0 := ex_14.trans (by decide)
      refine lv_iload_n hx hb dX3_lettersAt_22 rfl (lv_at hl 0 rfl) ?_
      refine lv_ishl hx hb dX3_lettersAt_23 ?_
      refine lv_topi (fun x_15 ex_15 => ?_)
      obtain rfl : x_15 = 0 := ex_15.trans (by decide)
      refine lv_ior hx hb dX3_lettersAt_24 ?_
      refine lv_topi (fun x_16 ex_16 => ?_)
      obtain rfl : x_16 = 0 := ex_16.trans (by decide)
      refine lv_istore_n (lv' := [(2, .int 0), (3, .int 1), (0, .ref h), (1, .int w)]) hx hb dX3_lettersAt_25 rfl hl (by decide) rfl (fun ls hl => ?_)
      refine lv_iinc (v := 2) (lv' := [(3, .int 2), (2, .int 0), (0, .ref h), (1, .int w)]) hx hb dX3_lettersAt_26 hl (k := 1) rfl (by decide) (by decide) rfl (fun ls hl => ?_)
      refine lv_goto (tgt := 4) hx hb dX3_lettersAt_29 (by decide) ?_
      refine lv_iload_n hx hb dX3_lettersAt_4 rfl (lv_at hl 0 rfl) ?_
      refine lv_iconst (v := 4) hx hb dX3_lettersAt_5 (by decide) ?_
      refine lv_icmp_ge (tgt := 32) hx hb dX3_lettersAt_6 (by decide) (fun c_17 => ?_) (fun c_17 => ?_)
      · exact absurd c_17 (by decide)
      · refine lv_iload_n hx hb dX3_lettersAt_9 rfl (lv_at hl 1 rfl) ?_
        refine lv_aload_n hx hb dX3_lettersAt_10 rfl (lv_at hl 2 rfl) ?_
        refine va_get (D := D) (ci := 3) (v := .ref t) (C := RX3) (T := TX3) (N := 3) hx hb hts hiX3 hown hK hP 0 rfl rfl 0 (by decide) (hts (.fieldLink RX3 9 "DynamicLogicProver$Model" "truths" "[I") (mo_X3_lettersAt0 0 rfl)) (fun _ h9 => h9) rfl dX3_lettersAt_11 ?_
        refine lv_iload_n hx hb dX3_lettersAt_14 rfl (lv_at hl 0 rfl) ?_
        refine kc_Ni (As := [.ref t, .int 2]) (rest := [.int 0]) (wr := [(h, .inr (3, [.ref t, .ref v, .int n]))]) ⟨hx, hb, hml, hown, hts⟩ (ct_X11_at l D t kt 4 (fun _ => 0) 2 _ (by decide)) ⟨va_cnB 2 hts (goodIn_sub mb_X3_lettersAt0_0 gw_X11_at) rfl rfl rfl (hN (RX3, 34, yX11_at) (List.mem_of_getElem? (i := 13) rfl)) (hts (.initialized RX11) (mo_X3_lettersAt0 1 rfl)) hd_X11_at ⟨Nat.le_of_ble_eq_true rfl, Nat.le_of_ble_eq_true rfl⟩, (hts (.static yX11_at) (mo_X3_lettersAt0 2 rfl)), trivial⟩ hK hN hP hD hS hA [1] [0] [0] rfl rfl (by decide) (by decide) (by decide) rfl rfl hl.1 rfl (Nat.le_of_ble_eq_true rfl) dX3_lettersAt_15 ⟨Nat.le_of_ble_eq_true rfl, Nat.le_of_ble_eq_true rfl⟩ (fun r_18 u_19 H locs w_20 hP hD hK1 hS => ?_)
        have hP : va_P D vwCl [(h, .inr (3, [.ref t, .ref v, .int n])), (t, .inl (kt, 4, .inl (fun _ => 0)))] H := hP
        have hD : va_D A [(h, .inr (3, [.ref t, .ref v, .int n])), (t, .inl (kt, 4, .inl (fun _ => 0)))] := hD
        have w_20 : r_18 = at_v (fun _ => 0) 4 2 := w_20
        obtain rfl : r_18 = 0 := w_20.trans (at_v0 _ _)
        refine lv_iload_n hx hb dX3_lettersAt_18 rfl (lv_at hl 3 rfl) ?_
        refine lv_ishr hx hb dX3_lettersAt_19 ?_
        refine lv_topi (fun x_21 ex_21 => ?_)
        obtain rfl : x_21 = 0 := ex_21.trans (z_shr _)
        refine lv_iconst (v := 1) hx hb dX3_lettersAt_20 (by decide) ?_
        refine lv_iand hx hb dX3_lettersAt_21 ?_
        refine lv_topi (fun x_22 ex_22 => ?_)
        obtain rfl : x_22 = 0 := ex_22.trans (by decide)
        refine lv_iload_n hx hb dX3_lettersAt_22 rfl (lv_at hl 0 rfl) ?_
        refine lv_ishl hx hb dX3_lettersAt_23 ?_
        refine lv_topi (fun x_23 ex_23 => ?_)
        obtain rfl : x_23 = 0 := ex_23.trans (by decide)
        refine lv_ior hx hb dX3_lettersAt_24 ?_
        refine lv_topi (fun x_24 ex_24 => ?_)
        obtain rfl : x_24 = 0 := ex_24.trans (by decide)
        refine lv_istore_n (lv' := [(2, .int 0), (3, .int 2), (0, .ref h), (1, .int w)]) hx hb dX3_lettersAt_25 rfl hl (by decide) rfl (fun ls hl => ?_)
        refine lv_iinc (v := 3) (lv' := [(3, .int 3), (2, .int 0), (0, .ref h), (1, .int w)]) hx hb dX3_lettersAt_26 hl (k := 1) rfl (by decide) (by decide) rfl (fun ls hl => ?_)
        refine lv_goto (tgt := 4) hx hb dX3_lettersAt_29 (by decide) ?_
        refine lv_iload_n hx hb dX3_lettersAt_4 rfl (lv_at hl 0 rfl) ?_
        refine lv_iconst (v := 4) hx hb dX3_lettersAt_5 (by decide) ?_
        refine lv_icmp_ge (tgt := 32) hx hb dX3_lettersAt_6 (by decide) (fun c_25 => ?_) (fun c_25 => ?_)
        · exact absurd c_25 (by decide)
        · refine lv_iload_n hx hb dX3_lettersAt_9 rfl (lv_at hl 1 rfl) ?_
          refine lv_aload_n hx hb dX3_lettersAt_10 rfl (lv_at hl 2 rfl) ?_
          refine va_get (D := D) (ci := 3) (v := .ref t) (C := RX3) (T := TX3) (N := 3) hx hb hts hiX3 hown hK hP 0 rfl rfl 0 (by decide) (hts (.fieldLink RX3 9 "DynamicLogicProver$Model" "truths" "[I") (mo_X3_lettersAt0 0 rfl)) (fun _ h9 => h9) rfl dX3_lettersAt_11 ?_
          refine lv_iload_n hx hb dX3_lettersAt_14 rfl (lv_at hl 0 rfl) ?_
          refine kc_Ni (As := [.ref t, .int 3]) (rest := [.int 0]) (wr := [(h, .inr (3, [.ref t, .ref v, .int n]))]) ⟨hx, hb, hml, hown, hts⟩ (ct_X11_at l D t kt 4 (fun _ => 0) 3 _ (by decide)) ⟨va_cnB 2 hts (goodIn_sub mb_X3_lettersAt0_0 gw_X11_at) rfl rfl rfl (hN (RX3, 34, yX11_at) (List.mem_of_getElem? (i := 13) rfl)) (hts (.initialized RX11) (mo_X3_lettersAt0 1 rfl)) hd_X11_at ⟨Nat.le_of_ble_eq_true rfl, Nat.le_of_ble_eq_true rfl⟩, (hts (.static yX11_at) (mo_X3_lettersAt0 2 rfl)), trivial⟩ hK hN hP hD hS hA [1] [0] [0] rfl rfl (by decide) (by decide) (by decide) rfl rfl hl.1 rfl (Nat.le_of_ble_eq_true rfl) dX3_lettersAt_15 ⟨Nat.le_of_ble_eq_true rfl, Nat.le_of_ble_eq_true rfl⟩ (fun r_26 u_27 H locs w_28 hP hD hK1 hS => ?_)
          have hP : va_P D vwCl [(h, .inr (3, [.ref t, .ref v, .int n])), (t, .inl (kt, 4, .inl (fun _ => 0)))] H := hP
          have hD : va_D A [(h, .inr (3, [.ref t, .ref v, .int n])), (t, .inl (kt, 4, .inl (fun _ => 0)))] := hD
          have w_28 : r_26 = at_v (fun _ => 0) 4 3 := w_28
          obtain rfl : r_26 = 0 := w_28.trans (at_v0 _ _)
          refine lv_iload_n hx hb dX3_lettersAt_18 rfl (lv_at hl 3 rfl) ?_
          refine lv_ishr hx hb dX3_lettersAt_19 ?_
          refine lv_topi (fun x_29 ex_29 => ?_)
          obtain rfl : x_29 = 0 := ex_29.trans (z_shr _)
          refine lv_iconst (v := 1) hx hb dX3_lettersAt_20 (by decide) ?_
          refine lv_iand hx hb dX3_lettersAt_21 ?_
          refine lv_topi (fun x_30 ex_30 => ?_)
          obtain rfl : x_30 = 0 := ex_30.trans (by decide)
          refine lv_iload_n hx hb dX3_lettersAt_22 rfl (lv_at hl 0 rfl) ?_
          refine lv_ishl hx hb dX3_lettersAt_23 ?_
          refine lv_topi (fun x_31 ex_31 => ?_)
          obtain rfl : x_31 = 0 := ex_31.trans (by decide)
          refine lv_ior hx hb dX3_lettersAt_24 ?_
          refine lv_topi (fun x_32 ex_32 => ?_)
          obtain rfl : x_32 = 0 := ex_32.trans (by decide)
          refine lv_istore_n (lv' := [(2, .int 0), (3, .int 3), (0, .ref h), (1, .int w)]) hx hb dX3_lettersAt_25 rfl hl (by decide) rfl (fun ls hl => ?_)
          refine lv_iinc (v := 4) (lv' := [(3, .int 4), (2, .int 0), (0, .ref h), (1, .int w)]) hx hb dX3_lettersAt_26 hl (k := 1) rfl (by decide) (by decide) rfl (fun ls hl => ?_)
          refine lv_goto (tgt := 4) hx hb dX3_lettersAt_29 (by decide) ?_
          refine lv_iload_n hx hb dX3_lettersAt_4 rfl (lv_at hl 0 rfl) ?_
          refine lv_iconst (v := 4) hx hb dX3_lettersAt_5 (by decide) ?_
          refine lv_icmp_ge (tgt := 32) hx hb dX3_lettersAt_6 (by decide) (fun c_33 => ?_) (fun c_33 => ?_)
          · refine lv_iload_n hx hb dX3_lettersAt_32 rfl (lv_at hl 1 rfl) ?_
            have hP9 := hP.sub (ws' := [(h, .inr (3, [.ref t, .ref v, .int n])), (t, .inl (kt, 4, .inl (fun _ => 0)))]) [0, 1] rfl
            have hD9 := hD.sub (ws' := [(h, .inr (3, [.ref t, .ref v, .int n])), (t, .inl (kt, 4, .inl (fun _ => 0)))]) [0, 1] (by decide) rfl
            have hK9 := hK.sub (tys' := []) [] rfl
            exact W.iret (v := 0) hx hb hr (fun tZ htZ hW => ⟨⟨0, (), rfl, rfl, by rw [htZ]; exact hP9, va_K.moved hW.alike hK9, hD9⟩, hS.F htZ⟩) hS.2.2 dX3_lettersAt_33
          · exact absurd c_33 (by decide)
theorem dX3_take_0 : decode cX3_take 0 = .ok (.aload_n 0, 1) := by decide +kernel
theorem dX3_take_1 : decode cX3_take 1 = .ok (.aload_n 1, 1) := by decide +kernel
theorem dX3_take_2 : decode cX3_take 2 = .ok (.getfield 18, 3) := by decide +kernel
theorem dX3_take_5 : decode cX3_take 5 = .ok (.putfield 18, 3) := by decide +kernel
theorem dX3_take_8 : decode cX3_take 8 = .ok (.aload_n 1, 1) := by decide +kernel
theorem dX3_take_9 : decode cX3_take 9 = .ok (.getfield 9, 3) := by decide +kernel
theorem dX3_take_12 : decode cX3_take 12 = .ok (.iconst 0, 1) := by decide +kernel
theorem dX3_take_13 : decode cX3_take 13 = .ok (.aload_n 0, 1) := by decide +kernel
theorem dX3_take_14 : decode cX3_take 14 = .ok (.getfield 9, 3) := by decide +kernel
theorem dX3_take_17 : decode cX3_take 17 = .ok (.iconst 0, 1) := by decide +kernel
theorem dX3_take_18 : decode cX3_take 18 = .ok (.iconst 4, 1) := by decide +kernel
theorem dX3_take_19 : decode cX3_take 19 = .ok (.invokestatic 28, 3) := by decide +kernel
theorem dX3_take_22 : decode cX3_take 22 = .ok (.aload_n 1, 1) := by decide +kernel
theorem dX3_take_23 : decode cX3_take 23 = .ok (.getfield 15, 3) := by decide +kernel
theorem dX3_take_26 : decode cX3_take 26 = .ok (.iconst 0, 1) := by decide +kernel
theorem dX3_take_27 : decode cX3_take 27 = .ok (.aload_n 0, 1) := by decide +kernel
theorem dX3_take_28 : decode cX3_take 28 = .ok (.getfield 15, 3) := by decide +kernel
theorem dX3_take_31 : decode cX3_take 31 = .ok (.iconst 0, 1) := by decide +kernel
theorem dX3_take_32 : decode cX3_take 32 = .ok (.bipush 18, 2) := by decide +kernel
theorem dX3_take_34 : decode cX3_take 34 = .ok (.invokestatic 28, 3) := by decide +kernel
theorem dX3_take_37 : decode cX3_take 37 = .ok (.return_, 1) := by decide +kernel
def wo_X3_take : List Cond := [.fieldLink RX3 18 "DynamicLogicProver$Model" "worlds" "I", .fieldLink RX3 9 "DynamicLogicProver$Model" "truths" "[I", .methodLink RX3 28 arraycopyName, .native arraycopyName, .static arraycopyName, .initialized "java/lang/System", .fieldLink RX3 15 "DynamicLogicProver$Model" "moves" "[I"]
def wd_X3_take : List Cond := .code yX3_take cX3_take 2 none :: (wo_X3_take ++ (wsX30 ++ ([] : List Cond)))
theorem mo_X3_take {w : Cond} (i : Nat) (h : wo_X3_take[i]? = some w) : w ∈ wd_X3_take := List.mem_cons_of_mem _ (List.mem_append_left _ (List.mem_of_getElem? h))
theorem mb_X3_take_0 : ∀ w ∈ wsX30, w ∈ wd_X3_take := fun w h => List.mem_cons_of_mem _ (List.mem_append_right _ (List.mem_append_left _ h))
theorem hd_X3_take : yX3_take.cls ≠ "java/lang/invoke/MethodHandle" ∧ yX3_take.cls ≠ "java/lang/invoke/VarHandle" ∧ (parseMethodDescriptor yX3_take.desc).map (fun d => d.parameters.length) = some 1 := by decide +kernel
set_option maxRecDepth 20000 in
theorem gw_X3_take : wd_X3_take.all goodWord = true := by decide +kernel
abbrev qc_X3_take (D : va_G) (h : Nat) (t : Nat) (v : Nat) (h2 : Nat) (t2 : Nat) (v2 : Nat) (kt : ClassId) (kv : ClassId) (kt2 : ClassId) (kv2 : ClassId) (f : Nat → Int32) (g : Nat → Int32) (f2 : Nat → Int32) (g2 : Nat → Int32) (n : Int32) (n2 : Int32) (A : Nat → Prop) : Array Value → State → Outcome → State → Prop := va_Qv (fun (uZ : (Nat → Int32) × (Nat → Int32)) => True) (fun uZ tZ => kc_pos D A [(h, .inr (3, [.ref t, .ref v, .int n2])), (t, .inl (kt, 4, .inl uZ.1)), (v, .inl (kv, 18, .inl uZ.2)), (h2, .inr (3, [.ref t2, .ref v2, .int n2])), (t2, .inl (kt2, 4, .inl f2)), (v2, .inl (kv2, 18, .inl g2))] [] tZ) A
set_option maxHeartbeats 4000000 in
set_option maxRecDepth 100000 in
theorem ct_X3_take (l : Launch) (D : va_G) (h : Nat) (t : Nat) (v : Nat) (h2 : Nat) (t2 : Nat) (v2 : Nat) (kt : ClassId) (kv : ClassId) (kt2 : ClassId) (kv2 : ClassId) (f : Nat → Int32) (g : Nat → Int32) (f2 : Nat → Int32) (g2 : Nat → Int32) (n : Int32) (n2 : Int32) (sz : Nat)  : Met l yX3_take wd_X3_take ({ frames := 1, cells := 0, slots := 0, locals := 40 }) (va_Pc [.ref h, .ref h2] (kc_pre D [(kt, .int), (kv, .int), (kt2, .int), (kv2, .int)] [(h, .inr (3, [.ref t, .ref v, .int n])), (t, .inl (kt, 4, .inl f)), (v, .inl (kv, 18, .inl g)), (h2, .inr (3, [.ref t2, .ref v2, .int n2])), (t2, .inl (kt2, 4, .inl f2)), (v2, .inl (kv2, 18, .inl g2))] sz)) (qc_X3_take D h t v h2 t2 v2 kt kv kt2 kv2 f g f2 g2 n n2 (va_A [(h, .inr (3, [.ref t, .ref v, .int n])), (t, .inl (kt, 4, .inl f)), (v, .inl (kv, 18, .inl g)), (h2, .inr (3, [.ref t2, .ref v2, .int n2])), (t2, .inl (kt2, 4, .inl f2)), (v2, .inl (kv2, 18, .inl g2))] sz)) 0 0 (va_A [(h, .inr (3, [.ref t, .ref v, .int n])), (t, .inl (kt, 4, .inl f)), (v, .inl (kv, 18, .inl g)), (h2, .inr (3, [.ref t2, .ref v2, .int n2])), (t2, .inl (kt2, 4, .inl f2)), (v2, .inl (kv2, 18, .inl g2))] sz) := by
  refine Met.ofW (cc := cX3_take) (maxL := 2) (ret := none) (by decide) rfl ?_
  intro p e s m args below meth c s₁ B hml hv
  obtain ⟨rfl, hsz, hP, hK, hN, hD0⟩ := hv
  have hx := B.exec
  have hb := B.bytes
  have hr := B.returns
  have hts := atoms_spec (ws := wd_X3_take) B.pre
  have hown : s.vm.findClass RX3 = some m.cls := findClass_of_methodNamed B.named
  have hlocks := B.notSynchronized
  subst hsz
  have hD := hD0.self (sz := s.heap.size)
  generalize hAe : va_A [(h, .inr (3, [.ref t, .ref v, .int n])), (t, .inl (kt, 4, .inl f)), (v, .inl (kv, 18, .inl g)), (h2, .inr (3, [.ref t2, .ref v2, .int n2])), (t2, .inl (kt2, 4, .inl f2)), (v2, .inl (kv2, 18, .inl g2))] s.heap.size = A at hD ⊢
  have hA : ∀ q : Nat, s.heap.size ≤ q → A q := fun q h => by rw [← hAe]; exact Or.inr h
  have hS : va_S A s.heap s.heap [] := va_S.rf
  have hiX3 : ∀ w ∈ wsX30, w ∈ wd_X3_take := mb_X3_take_0
  have hl := lv_entry ([.ref h, .ref h2]) (n := 2) (Nat.le_of_ble_eq_true rfl)
  rw [lg_entry_eq]
  generalize (lg_sl ([.ref h, .ref h2]) ++ List.replicate (2 - (lg_sl ([.ref h, .ref h2])).length) Slot.unset).toArray = ls at hl ⊢
  have hl : lv_has ls 2 [(0, .ref h), (1, .ref h2)] := hl
  refine lv_aload_n hx hb dX3_take_0 rfl (lv_at hl 0 rfl) ?_
  refine lv_aload_n hx hb dX3_take_1 rfl (lv_at hl 1 rfl) ?_
  refine va_get (D := D) (ci := 3) (v := .int n2) (C := RX3) (T := TX3) (N := 3) hx hb hts hiX3 hown hK hP 3 rfl rfl 2 (by decide) (hts (.fieldLink RX3 18 "DynamicLogicProver$Model" "worlds" "I") (mo_X3_take 0 rfl)) (fun _ h9 => h9) rfl dX3_take_2 ?_
  refine va_put (D := D) (ci := 3) (v := .int n2) (ty := .int) (C := RX3) (T := TX3) (N := 3) hx hb hts hiX3 tyX3 tyX3_ok nmX3 hown hK hP hD hS 0 rfl rfl 2 (by decide) (hts (.fieldLink RX3 18 "DynamicLogicProver$Model" "worlds" "I") (mo_X3_take 0 rfl)) (fun _ h9 => h9) rfl (tyX3_ok 2 (by decide)) rfl rfl (Nat.le_of_ble_eq_true rfl) dX3_take_5 (fun H locs hP hD hS => ?_)
  have hP : va_P D vwCl [(h, .inr (3, [.ref t, .ref v, .int n2])), (t, .inl (kt, 4, .inl f)), (v, .inl (kv, 18, .inl g)), (h2, .inr (3, [.ref t2, .ref v2, .int n2])), (t2, .inl (kt2, 4, .inl f2)), (v2, .inl (kv2, 18, .inl g2))] H := hP
  have hD : va_D A [(h, .inr (3, [.ref t, .ref v, .int n2])), (t, .inl (kt, 4, .inl f)), (v, .inl (kv, 18, .inl g)), (h2, .inr (3, [.ref t2, .ref v2, .int n2])), (t2, .inl (kt2, 4, .inl f2)), (v2, .inl (kv2, 18, .inl g2))] := hD
  refine lv_aload_n hx hb dX3_take_8 rfl (lv_at hl 1 rfl) ?_
  refine va_get (D := D) (ci := 3) (v := .ref t2) (C := RX3) (T := TX3) (N := 3) hx hb hts hiX3 hown hK hP 3 rfl rfl 0 (by decide) (hts (.fieldLink RX3 9 "DynamicLogicProver$Model" "truths" "[I") (mo_X3_take 1 rfl)) (fun _ h9 => h9) rfl dX3_take_9 ?_
  refine lv_iconst (v := 0) hx hb dX3_take_12 (by decide) ?_
  refine lv_aload_n hx hb dX3_take_13 rfl (lv_at hl 0 rfl) ?_
  refine va_get (D := D) (ci := 3) (v := .ref t) (C := RX3) (T := TX3) (N := 3) hx hb hts hiX3 hown hK hP 0 rfl rfl 0 (by decide) (hts (.fieldLink RX3 9 "DynamicLogicProver$Model" "truths" "[I") (mo_X3_take 1 rfl)) (fun _ h9 => h9) rfl dX3_take_14 ?_
  refine lv_iconst (v := 0) hx hb dX3_take_17 (by decide) ?_
  refine lv_iconst (v := 4) hx hb dX3_take_18 (by decide) ?_
  refine va_copyi (ty := .int) hx hb (by rw [hml]; exact hl.1.symm) hown (hts (.methodLink RX3 28 arraycopyName) (mo_X3_take 2 rfl)) (hts (.native arraycopyName) (mo_X3_take 3 rfl)) (hts (.static arraycopyName) (mo_X3_take 4 rfl)) (hts (.initialized "java/lang/System") (mo_X3_take 5 rfl)) hK hP hD hS 4 1 2 0 rfl rfl rfl rfl rfl (by decide) (by decide) (by decide) (Nat.le_of_ble_eq_true rfl) (Nat.le_of_ble_eq_true rfl) (fun _ _ => rfl) (Nat.le_of_ble_eq_true rfl) (by decide) dX3_take_19 (fun H locs hP hD hS => ?_)
  generalize ef_1 : va_cpy f2 f (0 : Int32).toNatClampNeg (0 : Int32).toNatClampNeg (4 : Int32).toNatClampNeg = f_1 at hP hD
  have hP : va_P D vwCl [(h, .inr (3, [.ref t, .ref v, .int n2])), (t, .inl (kt, 4, .inl f_1)), (v, .inl (kv, 18, .inl g)), (h2, .inr (3, [.ref t2, .ref v2, .int n2])), (t2, .inl (kt2, 4, .inl f2)), (v2, .inl (kv2, 18, .inl g2))] H := hP
  have hD : va_D A [(h, .inr (3, [.ref t, .ref v, .int n2])), (t, .inl (kt, 4, .inl f_1)), (v, .inl (kv, 18, .inl g)), (h2, .inr (3, [.ref t2, .ref v2, .int n2])), (t2, .inl (kt2, 4, .inl f2)), (v2, .inl (kv2, 18, .inl g2))] := hD
  refine lv_aload_n hx hb dX3_take_22 rfl (lv_at hl 1 rfl) ?_
  refine va_get (D := D) (ci := 3) (v := .ref v2) (C := RX3) (T := TX3) (N := 3) hx hb hts hiX3 hown hK hP 3 rfl rfl 1 (by decide) (hts (.fieldLink RX3 15 "DynamicLogicProver$Model" "moves" "[I") (mo_X3_take 6 rfl)) (fun _ h9 => h9) rfl dX3_take_23 ?_
  refine lv_iconst (v := 0) hx hb dX3_take_26 (by decide) ?_
  refine lv_aload_n hx hb dX3_take_27 rfl (lv_at hl 0 rfl) ?_
  refine va_get (D := D) (ci := 3) (v := .ref v) (C := RX3) (T := TX3) (N := 3) hx hb hts hiX3 hown hK hP 0 rfl rfl 1 (by decide) (hts (.fieldLink RX3 15 "DynamicLogicProver$Model" "moves" "[I") (mo_X3_take 6 rfl)) (fun _ h9 => h9) rfl dX3_take_28 ?_
  refine lv_iconst (v := 0) hx hb dX3_take_31 (by decide) ?_
  refine lv_bipush (v := 18) hx hb dX3_take_32 (by decide) ?_
  refine va_copyi (ty := .int) hx hb (by rw [hml]; exact hl.1.symm) hown (hts (.methodLink RX3 28 arraycopyName) (mo_X3_take 2 rfl)) (hts (.native arraycopyName) (mo_X3_take 3 rfl)) (hts (.static arraycopyName) (mo_X3_take 4 rfl)) (hts (.initialized "java/lang/System") (mo_X3_take 5 rfl)) hK hP hD hS 5 2 3 1 rfl rfl rfl rfl rfl (by decide) (by decide) (by decide) (Nat.le_of_ble_eq_true rfl) (Nat.le_of_ble_eq_true rfl) (fun _ _ => rfl) (Nat.le_of_ble_eq_true rfl) (by decide) dX3_take_34 (fun H locs hP hD hS => ?_)
  generalize ef_2 : va_cpy g2 g (0 : Int32).toNatClampNeg (0 : Int32).toNatClampNeg (18 : Int32).toNatClampNeg = f_2 at hP hD
  have hP : va_P D vwCl [(h, .inr (3, [.ref t, .ref v, .int n2])), (t, .inl (kt, 4, .inl f_1)), (v, .inl (kv, 18, .inl f_2)), (h2, .inr (3, [.ref t2, .ref v2, .int n2])), (t2, .inl (kt2, 4, .inl f2)), (v2, .inl (kv2, 18, .inl g2))] H := hP
  have hD : va_D A [(h, .inr (3, [.ref t, .ref v, .int n2])), (t, .inl (kt, 4, .inl f_1)), (v, .inl (kv, 18, .inl f_2)), (h2, .inr (3, [.ref t2, .ref v2, .int n2])), (t2, .inl (kt2, 4, .inl f2)), (v2, .inl (kv2, 18, .inl g2))] := hD
  have hP9 := hP.sub (ws' := [(h, .inr (3, [.ref t, .ref v, .int n2])), (t, .inl (kt, 4, .inl f_1)), (v, .inl (kv, 18, .inl f_2)), (h2, .inr (3, [.ref t2, .ref v2, .int n2])), (t2, .inl (kt2, 4, .inl f2)), (v2, .inl (kv2, 18, .inl g2))]) [0, 1, 2, 3, 4, 5] rfl
  have hD9 := hD.sub (ws' := [(h, .inr (3, [.ref t, .ref v, .int n2])), (t, .inl (kt, 4, .inl f_1)), (v, .inl (kv, 18, .inl f_2)), (h2, .inr (3, [.ref t2, .ref v2, .int n2])), (t2, .inl (kt2, 4, .inl f2)), (v2, .inl (kv2, 18, .inl g2))]) [0, 1, 2, 3, 4, 5] (by decide) rfl
  have hK9 := hK.sub (tys' := []) [] rfl
  exact W.vret hx hb hr (fun tZ htZ hW => ⟨⟨(f_1, f_2), rfl, trivial, by rw [htZ]; exact hP9, va_K.moved hW.alike hK9, hD9⟩, hS.F htZ⟩) hS.2.2 dX3_take_37
end
section
theorem put_v00 (f : Nat → Int32) : put_v f 6 0 0 0 = 0 := by unfold put_v; rw [if_neg (by decide)]; rfl
theorem at_m1 {f : Nat → Int32} {b : Int32} (hf : ∀ k, k < 6 → f k = -1) (hb : 0 ≤ b ∧ b < 6) : at_v f 6 b = -1 := by
  have h0 : ¬ b < 0 := fun q => by
    have h1 := hb.1
    rw [fa_le, ti_0] at h1
    rw [fa_lt, ti_0] at q
    omega
  have h2 : ¬ nI 6 ≤ b := fun q => by
    have h3 := hb.2
    rw [fa_lt] at h3
    have q2 : (6 : Int32) ≤ b := q
    rw [fa_le] at q2
    omega
  have h4 := in_of (n := 6) (by decide) h0 h2
  rw [← at_in h4]
  obtain ⟨j, hj, rfl⟩ := vp_in_of h4 (by decide)
  rw [nI_clamp (by omega)]
  exact hf j hj
theorem dJ6_bitCount_0f7a4_0 : decode cJ6_bitCount_0f7a4 0 = .ok (.iload_n 0, 1) := by decide +kernel
theorem dJ6_bitCount_0f7a4_1 : decode cJ6_bitCount_0f7a4 1 = .ok (.iload_n 0, 1) := by decide +kernel
theorem dJ6_bitCount_0f7a4_2 : decode cJ6_bitCount_0f7a4 2 = .ok (.iconst 1, 1) := by decide +kernel
theorem dJ6_bitCount_0f7a4_3 : decode cJ6_bitCount_0f7a4 3 = .ok (.iushr, 1) := by decide +kernel
theorem dJ6_bitCount_0f7a4_4 : decode cJ6_bitCount_0f7a4 4 = .ok (.ldc_w 265, 3) := by decide +kernel
theorem dJ6_bitCount_0f7a4_7 : decode cJ6_bitCount_0f7a4 7 = .ok (.iand, 1) := by decide +kernel
theorem dJ6_bitCount_0f7a4_8 : decode cJ6_bitCount_0f7a4 8 = .ok (.isub, 1) := by decide +kernel
theorem dJ6_bitCount_0f7a4_9 : decode cJ6_bitCount_0f7a4 9 = .ok (.istore_n 0, 1) := by decide +kernel
theorem dJ6_bitCount_0f7a4_10 : decode cJ6_bitCount_0f7a4 10 = .ok (.iload_n 0, 1) := by decide +kernel
theorem dJ6_bitCount_0f7a4_11 : decode cJ6_bitCount_0f7a4 11 = .ok (.ldc_w 266, 3) := by decide +kernel
theorem dJ6_bitCount_0f7a4_14 : decode cJ6_bitCount_0f7a4 14 = .ok (.iand, 1) := by decide +kernel
theorem dJ6_bitCount_0f7a4_15 : decode cJ6_bitCount_0f7a4 15 = .ok (.iload_n 0, 1) := by decide +kernel
theorem dJ6_bitCount_0f7a4_16 : decode cJ6_bitCount_0f7a4 16 = .ok (.iconst 2, 1) := by decide +kernel
theorem dJ6_bitCount_0f7a4_17 : decode cJ6_bitCount_0f7a4 17 = .ok (.iushr, 1) := by decide +kernel
theorem dJ6_bitCount_0f7a4_18 : decode cJ6_bitCount_0f7a4 18 = .ok (.ldc_w 266, 3) := by decide +kernel
theorem dJ6_bitCount_0f7a4_21 : decode cJ6_bitCount_0f7a4 21 = .ok (.iand, 1) := by decide +kernel
theorem dJ6_bitCount_0f7a4_22 : decode cJ6_bitCount_0f7a4 22 = .ok (.iadd, 1) := by decide +kernel
theorem dJ6_bitCount_0f7a4_23 : decode cJ6_bitCount_0f7a4 23 = .ok (.istore_n 0, 1) := by decide +kernel
theorem dJ6_bitCount_0f7a4_24 : decode cJ6_bitCount_0f7a4 24 = .ok (.iload_n 0, 1) := by decide +kernel
theorem dJ6_bitCount_0f7a4_25 : decode cJ6_bitCount_0f7a4 25 = .ok (.iload_n 0, 1) := by decide +kernel
theorem dJ6_bitCount_0f7a4_26 : decode cJ6_bitCount_0f7a4 26 = .ok (.iconst 4, 1) := by decide +kernel
theorem dJ6_bitCount_0f7a4_27 : decode cJ6_bitCount_0f7a4 27 = .ok (.iushr, 1) := by decide +kernel
theorem dJ6_bitCount_0f7a4_28 : decode cJ6_bitCount_0f7a4 28 = .ok (.iadd, 1) := by decide +kernel
theorem dJ6_bitCount_0f7a4_29 : decode cJ6_bitCount_0f7a4 29 = .ok (.ldc_w 267, 3) := by decide +kernel
theorem dJ6_bitCount_0f7a4_32 : decode cJ6_bitCount_0f7a4 32 = .ok (.iand, 1) := by decide +kernel
theorem dJ6_bitCount_0f7a4_33 : decode cJ6_bitCount_0f7a4 33 = .ok (.istore_n 0, 1) := by decide +kernel
theorem dJ6_bitCount_0f7a4_34 : decode cJ6_bitCount_0f7a4 34 = .ok (.iload_n 0, 1) := by decide +kernel
theorem dJ6_bitCount_0f7a4_35 : decode cJ6_bitCount_0f7a4 35 = .ok (.iload_n 0, 1) := by decide +kernel
theorem dJ6_bitCount_0f7a4_36 : decode cJ6_bitCount_0f7a4 36 = .ok (.bipush 8, 2) := by decide +kernel
theorem dJ6_bitCount_0f7a4_38 : decode cJ6_bitCount_0f7a4 38 = .ok (.iushr, 1) := by decide +kernel
theorem dJ6_bitCount_0f7a4_39 : decode cJ6_bitCount_0f7a4 39 = .ok (.iadd, 1) := by decide +kernel
theorem dJ6_bitCount_0f7a4_40 : decode cJ6_bitCount_0f7a4 40 = .ok (.istore_n 0, 1) := by decide +kernel
theorem dJ6_bitCount_0f7a4_41 : decode cJ6_bitCount_0f7a4 41 = .ok (.iload_n 0, 1) := by decide +kernel
theorem dJ6_bitCount_0f7a4_42 : decode cJ6_bitCount_0f7a4 42 = .ok (.iload_n 0, 1) := by decide +kernel
theorem dJ6_bitCount_0f7a4_43 : decode cJ6_bitCount_0f7a4 43 = .ok (.bipush 16, 2) := by decide +kernel
theorem dJ6_bitCount_0f7a4_45 : decode cJ6_bitCount_0f7a4 45 = .ok (.iushr, 1) := by decide +kernel
theorem dJ6_bitCount_0f7a4_46 : decode cJ6_bitCount_0f7a4 46 = .ok (.iadd, 1) := by decide +kernel
theorem dJ6_bitCount_0f7a4_47 : decode cJ6_bitCount_0f7a4 47 = .ok (.istore_n 0, 1) := by decide +kernel
theorem dJ6_bitCount_0f7a4_48 : decode cJ6_bitCount_0f7a4 48 = .ok (.iload_n 0, 1) := by decide +kernel
theorem dJ6_bitCount_0f7a4_49 : decode cJ6_bitCount_0f7a4 49 = .ok (.bipush 63, 2) := by decide +kernel
theorem dJ6_bitCount_0f7a4_51 : decode cJ6_bitCount_0f7a4 51 = .ok (.iand, 1) := by decide +kernel
theorem dJ6_bitCount_0f7a4_52 : decode cJ6_bitCount_0f7a4 52 = .ok (.ireturn, 1) := by decide +kernel
def wo_bitCount0 : List Cond := [.constant RJ6 265 1431655765, .constant RJ6 266 858993459, .constant RJ6 267 252645135]
def wd_bitCount0 : List Cond := .code yJ6_bitCount_0f7a4 cJ6_bitCount_0f7a4 1 (some .int) :: (wo_bitCount0 ++ ([] : List Cond))
theorem mo_bitCount0 {w : Cond} (i : Nat) (h : wo_bitCount0[i]? = some w) : w ∈ wd_bitCount0 := List.mem_cons_of_mem _ (List.mem_append_left _ (List.mem_of_getElem? h))
theorem hd_J6_bitCount_0f7a4 : yJ6_bitCount_0f7a4.cls ≠ "java/lang/invoke/MethodHandle" ∧ yJ6_bitCount_0f7a4.cls ≠ "java/lang/invoke/VarHandle" ∧ (parseMethodDescriptor yJ6_bitCount_0f7a4.desc).map (fun d => d.parameters.length) = some 1 := by decide +kernel
set_option maxRecDepth 20000 in
theorem gw_bitCount0 : wd_bitCount0.all goodWord = true := by decide +kernel
abbrev qc_bitCount0 (D : va_G)  (A : Nat → Prop) : Array Value → State → Outcome → State → Prop := va_Qi (fun (r : Int32) (uZ : Unit) => r = 0) (fun uZ tZ => kc_pos D A [] [] tZ) A
set_option maxHeartbeats 4000000 in
set_option maxRecDepth 100000 in
theorem ct_bitCount0 (l : Launch) (D : va_G)  (sz : Nat)  : Met l yJ6_bitCount_0f7a4 wd_bitCount0 ({ frames := 0, cells := 0, slots := 0, locals := 0 }) (va_Pc [.int 0] (kc_pre D [] [] sz)) (qc_bitCount0 D  (va_A [] sz)) 0 0 (va_A [] sz) := by
  refine Met.ofW (cc := cJ6_bitCount_0f7a4) (maxL := 1) (ret := (some .int)) (by decide) rfl ?_
  intro p e s m args below meth c s₁ B hml hv
  obtain ⟨rfl, hsz, hP, hK, hN, hD0⟩ := hv
  have hx := B.exec
  have hb := B.bytes
  have hr := B.returns
  have hts := atoms_spec (ws := wd_bitCount0) B.pre
  have hown : s.vm.findClass RJ6 = some m.cls := findClass_of_methodNamed B.named
  have hlocks := B.notSynchronized
  subst hsz
  have hD := hD0.self (sz := s.heap.size)
  generalize hAe : va_A [] s.heap.size = A at hD ⊢
  have hA : ∀ q : Nat, s.heap.size ≤ q → A q := fun q h => by rw [← hAe]; exact Or.inr h
  have hS : va_S A s.heap s.heap [] := va_S.rf
  have hl := lv_entry ([.int 0]) (n := 1) (Nat.le_of_ble_eq_true rfl)
  rw [lg_entry_eq]
  generalize (lg_sl ([.int 0]) ++ List.replicate (1 - (lg_sl ([.int 0])).length) Slot.unset).toArray = ls at hl ⊢
  have hl : lv_has ls 1 [(0, .int 0)] := hl
  refine lv_iload_n hx hb dJ6_bitCount_0f7a4_0 rfl (lv_at hl 0 rfl) ?_
  refine lv_iload_n hx hb dJ6_bitCount_0f7a4_1 rfl (lv_at hl 0 rfl) ?_
  refine lv_iconst (v := 1) hx hb dJ6_bitCount_0f7a4_2 (by decide) ?_
  refine lv_iushr (v := 0) hx hb dJ6_bitCount_0f7a4_3 (by decide) ?_
  refine lv_ldcw hx hb hown (hts (.constant RJ6 265 1431655765) (mo_bitCount0 0 rfl)) dJ6_bitCount_0f7a4_4 ?_
  refine lv_iand hx hb dJ6_bitCount_0f7a4_7 ?_
  refine lv_topi (fun x_1 ex_1 => ?_)
  obtain rfl : x_1 = 0 := ex_1.trans (by decide)
  refine lv_isub hx hb dJ6_bitCount_0f7a4_8 ?_
  refine lv_topi (fun x_2 ex_2 => ?_)
  obtain rfl : x_2 = 0 := ex_2.trans (by decide)
  refine lv_istore_n (lv' := [(0, .int 0)]) hx hb dJ6_bitCount_0f7a4_9 rfl hl (by decide) rfl (fun ls hl => ?_)
  refine lv_iload_n hx hb dJ6_bitCount_0f7a4_10 rfl (lv_at hl 0 rfl) ?_
  refine lv_ldcw hx hb hown (hts (.constant RJ6 266 858993459) (mo_bitCount0 1 rfl)) dJ6_bitCount_0f7a4_11 ?_
  refine lv_iand hx hb dJ6_bitCount_0f7a4_14 ?_
  refine lv_topi (fun x_3 ex_3 => ?_)
  obtain rfl : x_3 = 0 := ex_3.trans (by decide)
  refine lv_iload_n hx hb dJ6_bitCount_0f7a4_15 rfl (lv_at hl 0 rfl) ?_
  refine lv_iconst (v := 2) hx hb dJ6_bitCount_0f7a4_16 (by decide) ?_
  refine lv_iushr (v := 0) hx hb dJ6_bitCount_0f7a4_17 (by decide) ?_
  refine lv_ldcw hx hb hown (hts (.constant RJ6 266 858993459) (mo_bitCount0 1 rfl)) dJ6_bitCount_0f7a4_18 ?_
  refine lv_iand hx hb dJ6_bitCount_0f7a4_21 ?_
  refine lv_topi (fun x_4 ex_4 => ?_)
  obtain rfl : x_4 = 0 := ex_4.trans (by decide)
  refine lv_iadd hx hb dJ6_bitCount_0f7a4_22 ?_
  refine lv_topi (fun x_5 ex_5 => ?_)
  obtain rfl : x_5 = 0 := ex_5.trans (by decide)
  refine lv_istore_n (lv' := [(0, .int 0)]) hx hb dJ6_bitCount_0f7a4_23 rfl hl (by decide) rfl (fun ls hl => ?_)
  refine lv_iload_n hx hb dJ6_bitCount_0f7a4_24 rfl (lv_at hl 0 rfl) ?_
  refine lv_iload_n hx hb dJ6_bitCount_0f7a4_25 rfl (lv_at hl 0 rfl) ?_
  refine lv_iconst (v := 4) hx hb dJ6_bitCount_0f7a4_26 (by decide) ?_
  refine lv_iushr (v := 0) hx hb dJ6_bitCount_0f7a4_27 (by decide) ?_
  refine lv_iadd hx hb dJ6_bitCount_0f7a4_28 ?_
  refine lv_topi (fun x_6 ex_6 => ?_)
  obtain rfl : x_6 = 0 := ex_6.trans (by decide)
  refine lv_ldcw hx hb hown (hts (.constant RJ6 267 252645135) (mo_bitCount0 2 rfl)) dJ6_bitCount_0f7a4_29 ?_
  refine lv_iand hx hb dJ6_bitCount_0f7a4_32 ?_
  refine lv_topi (fun x_7 ex_7 => ?_)
  obtain rfl : x_7 = 0 := ex_7.trans (by decide)
  refine lv_istore_n (lv' := [(0, .int 0)]) hx hb dJ6_bitCount_0f7a4_33 rfl hl (by decide) rfl (fun ls hl => ?_)
  refine lv_iload_n hx hb dJ6_bitCount_0f7a4_34 rfl (lv_at hl 0 rfl) ?_
  refine lv_iload_n hx hb dJ6_bitCount_0f7a4_35 rfl (lv_at hl 0 rfl) ?_
  refine lv_bipush (v := 8) hx hb dJ6_bitCount_0f7a4_36 (by decide) ?_
  refine lv_iushr (v := 0) hx hb dJ6_bitCount_0f7a4_38 (by decide) ?_
  refine lv_iadd hx hb dJ6_bitCount_0f7a4_39 ?_
  refine lv_topi (fun x_8 ex_8 => ?_)
  obtain rfl : x_8 = 0 := ex_8.trans (by decide)
  refine lv_istore_n (lv' := [(0, .int 0)]) hx hb dJ6_bitCount_0f7a4_40 rfl hl (by decide) rfl (fun ls hl => ?_)
  refine lv_iload_n hx hb dJ6_bitCount_0f7a4_41 rfl (lv_at hl 0 rfl) ?_
  refine lv_iload_n hx hb dJ6_bitCount_0f7a4_42 rfl (lv_at hl 0 rfl) ?_
  refine lv_bipush (v := 16) hx hb dJ6_bitCount_0f7a4_43 (by decide) ?_
  refine lv_iushr (v := 0) hx hb dJ6_bitCount_0f7a4_45 (by decide) ?_
  refine lv_iadd hx hb dJ6_bitCount_0f7a4_46 ?_
  refine lv_topi (fun x_9 ex_9 => ?_)
  obtain rfl : x_9 = 0 := ex_9.trans (by decide)
  refine lv_istore_n (lv' := [(0, .int 0)]) hx hb dJ6_bitCount_0f7a4_47 rfl hl (by decide) rfl (fun ls hl => ?_)
  refine lv_iload_n hx hb dJ6_bitCount_0f7a4_48 rfl (lv_at hl 0 rfl) ?_
  refine lv_bipush (v := 63) hx hb dJ6_bitCount_0f7a4_49 (by decide) ?_
  refine lv_iand hx hb dJ6_bitCount_0f7a4_51 ?_
  refine lv_topi (fun x_10 ex_10 => ?_)
  obtain rfl : x_10 = 0 := ex_10.trans (by decide)
  have hP9 := hP.sub (ws' := []) [] rfl
  have hD9 := hD.sub (ws' := []) [] (by decide) rfl
  have hK9 := hK.sub (tys' := []) [] rfl
  exact W.iret (v := 0) hx hb hr (fun tZ htZ hW => ⟨⟨0, (), rfl, rfl, by rw [htZ]; exact hP9, va_K.moved hW.alike hK9, hD9⟩, hS.F htZ⟩) hS.2.2 dJ6_bitCount_0f7a4_52
theorem dX3_transitions_0 : decode cX3_transitions 0 = .ok (.iconst 0, 1) := by decide +kernel
theorem dX3_transitions_1 : decode cX3_transitions 1 = .ok (.istore_n 1, 1) := by decide +kernel
theorem dX3_transitions_2 : decode cX3_transitions 2 = .ok (.iconst 0, 1) := by decide +kernel
theorem dX3_transitions_3 : decode cX3_transitions 3 = .ok (.istore_n 2, 1) := by decide +kernel
theorem dX3_transitions_4 : decode cX3_transitions 4 = .ok (.iload_n 2, 1) := by decide +kernel
theorem dX3_transitions_5 : decode cX3_transitions 5 = .ok (.bipush 18, 2) := by decide +kernel
theorem dX3_transitions_7 : decode cX3_transitions 7 = .ok (.if_icmp .ge 23, 3) := by decide +kernel
theorem dX3_transitions_10 : decode cX3_transitions 10 = .ok (.iload_n 1, 1) := by decide +kernel
theorem dX3_transitions_11 : decode cX3_transitions 11 = .ok (.aload_n 0, 1) := by decide +kernel
theorem dX3_transitions_12 : decode cX3_transitions 12 = .ok (.getfield 15, 3) := by decide +kernel
theorem dX3_transitions_15 : decode cX3_transitions 15 = .ok (.iload_n 2, 1) := by decide +kernel
theorem dX3_transitions_16 : decode cX3_transitions 16 = .ok (.invokestatic 34, 3) := by decide +kernel
theorem dX3_transitions_19 : decode cX3_transitions 19 = .ok (.invokestatic 42, 3) := by decide +kernel
theorem dX3_transitions_22 : decode cX3_transitions 22 = .ok (.iadd, 1) := by decide +kernel
theorem dX3_transitions_23 : decode cX3_transitions 23 = .ok (.istore_n 1, 1) := by decide +kernel
theorem dX3_transitions_24 : decode cX3_transitions 24 = .ok (.iinc 2 1, 3) := by decide +kernel
theorem dX3_transitions_27 : decode cX3_transitions 27 = .ok (.goto (-23), 3) := by decide +kernel
theorem dX3_transitions_30 : decode cX3_transitions 30 = .ok (.iload_n 1, 1) := by decide +kernel
theorem dX3_transitions_31 : decode cX3_transitions 31 = .ok (.ireturn, 1) := by decide +kernel
def wo_X3_transitions0 : List Cond := [.fieldLink RX3 15 "DynamicLogicProver$Model" "moves" "[I", .initialized RX11, .static yX11_at, .methodLink RX3 42 yJ6_bitCount_0f7a4, .static yJ6_bitCount_0f7a4, .initialized RJ6]
def wd_X3_transitions0 : List Cond := .code yX3_transitions cX3_transitions 3 (some .int) :: (wo_X3_transitions0 ++ (wd_X11_at ++ (wd_bitCount0 ++ (wsX30 ++ ([] : List Cond)))))
theorem mo_X3_transitions0 {w : Cond} (i : Nat) (h : wo_X3_transitions0[i]? = some w) : w ∈ wd_X3_transitions0 := List.mem_cons_of_mem _ (List.mem_append_left _ (List.mem_of_getElem? h))
theorem mb_X3_transitions0_0 : ∀ w ∈ wd_X11_at, w ∈ wd_X3_transitions0 := fun w h => List.mem_cons_of_mem _ (List.mem_append_right _ (List.mem_append_left _ h))
theorem mb_X3_transitions0_1 : ∀ w ∈ wd_bitCount0, w ∈ wd_X3_transitions0 := fun w h => List.mem_cons_of_mem _ (List.mem_append_right _ (List.mem_append_right _ (List.mem_append_left _ h)))
theorem mb_X3_transitions0_2 : ∀ w ∈ wsX30, w ∈ wd_X3_transitions0 := fun w h => List.mem_cons_of_mem _ (List.mem_append_right _ (List.mem_append_right _ (List.mem_append_right _ (List.mem_append_left _ h))))
theorem hd_X3_transitions : yX3_transitions.cls ≠ "java/lang/invoke/MethodHandle" ∧ yX3_transitions.cls ≠ "java/lang/invoke/VarHandle" ∧ (parseMethodDescriptor yX3_transitions.desc).map (fun d => d.parameters.length) = some 0 := by decide +kernel
set_option maxRecDepth 20000 in
theorem gw_X3_transitions0 : wd_X3_transitions0.all goodWord = true := by decide +kernel
abbrev qc_X3_transitions0 (D : va_G) (h : Nat) (t : Nat) (v : Nat) (kv : ClassId) (n : Int32) (A : Nat → Prop) : Array Value → State → Outcome → State → Prop := va_Qi (fun (r : Int32) (uZ : Unit) => r = 0) (fun uZ tZ => kc_pos D A [(h, .inr (3, [.ref t, .ref v, .int n])), (v, .inl (kv, 18, .inl (fun _ => 0)))] [] tZ) A
set_option maxHeartbeats 4000000 in
set_option maxRecDepth 100000 in
theorem ct_X3_transitions0 (l : Launch) (D : va_G) (h : Nat) (t : Nat) (v : Nat) (kv : ClassId) (n : Int32) (sz : Nat)  : Met l yX3_transitions wd_X3_transitions0 ({ frames := 1, cells := 0, slots := 0, locals := 21 }) (va_Pc [.ref h] (kc_pre D [(kv, .int)] [(h, .inr (3, [.ref t, .ref v, .int n])), (v, .inl (kv, 18, .inl (fun _ => 0)))] sz)) (qc_X3_transitions0 D h t v kv n (va_A [(h, .inr (3, [.ref t, .ref v, .int n])), (v, .inl (kv, 18, .inl (fun _ => 0)))] sz)) 0 0 (va_A [(h, .inr (3, [.ref t, .ref v, .int n])), (v, .inl (kv, 18, .inl (fun _ => 0)))] sz) := by
  refine Met.ofW (cc := cX3_transitions) (maxL := 3) (ret := (some .int)) (by decide) rfl ?_
  intro p e s m args below meth c s₁ B hml hv
  obtain ⟨rfl, hsz, hP, hK, hN, hD0⟩ := hv
  have hx := B.exec
  have hb := B.bytes
  have hr := B.returns
  have hts := atoms_spec (ws := wd_X3_transitions0) B.pre
  have hown : s.vm.findClass RX3 = some m.cls := findClass_of_methodNamed B.named
  have hlocks := B.notSynchronized
  subst hsz
  have hD := hD0.self (sz := s.heap.size)
  generalize hAe : va_A [(h, .inr (3, [.ref t, .ref v, .int n])), (v, .inl (kv, 18, .inl (fun _ => 0)))] s.heap.size = A at hD ⊢
  have hA : ∀ q : Nat, s.heap.size ≤ q → A q := fun q h => by rw [← hAe]; exact Or.inr h
  have hS : va_S A s.heap s.heap [] := va_S.rf
  have hiX3 : ∀ w ∈ wsX30, w ∈ wd_X3_transitions0 := mb_X3_transitions0_2
  have hl := lv_entry ([.ref h]) (n := 3) (Nat.le_of_ble_eq_true rfl)
  rw [lg_entry_eq]
  generalize (lg_sl ([.ref h]) ++ List.replicate (3 - (lg_sl ([.ref h])).length) Slot.unset).toArray = ls at hl ⊢
  have hl : lv_has ls 3 [(0, .ref h)] := hl
  refine lv_iconst (v := 0) hx hb dX3_transitions_0 (by decide) ?_
  refine lv_istore_n (lv' := [(1, .int 0), (0, .ref h)]) hx hb dX3_transitions_1 rfl hl (by decide) rfl (fun ls hl => ?_)
  refine lv_iconst (v := 0) hx hb dX3_transitions_2 (by decide) ?_
  refine lv_istore_n (lv' := [(2, .int 0), (1, .int 0), (0, .ref h)]) hx hb dX3_transitions_3 rfl hl (by decide) rfl (fun ls hl => ?_)
  refine lv_iload_n hx hb dX3_transitions_4 rfl (lv_at hl 0 rfl) ?_
  refine lv_bipush (v := 18) hx hb dX3_transitions_5 (by decide) ?_
  refine lv_icmp_ge (tgt := 30) hx hb dX3_transitions_7 (by decide) (fun c_1 => ?_) (fun c_1 => ?_)
  · exact absurd c_1 (by decide)
  · refine lv_iload_n hx hb dX3_transitions_10 rfl (lv_at hl 1 rfl) ?_
    refine lv_aload_n hx hb dX3_transitions_11 rfl (lv_at hl 2 rfl) ?_
    refine va_get (D := D) (ci := 3) (v := .ref v) (C := RX3) (T := TX3) (N := 3) hx hb hts hiX3 hown hK hP 0 rfl rfl 1 (by decide) (hts (.fieldLink RX3 15 "DynamicLogicProver$Model" "moves" "[I") (mo_X3_transitions0 0 rfl)) (fun _ h9 => h9) rfl dX3_transitions_12 ?_
    refine lv_iload_n hx hb dX3_transitions_15 rfl (lv_at hl 0 rfl) ?_
    refine kc_Ni (As := [.ref v, .int 0]) (rest := [.int 0]) (wr := [(h, .inr (3, [.ref t, .ref v, .int n]))]) ⟨hx, hb, hml, hown, hts⟩ (ct_X11_at l D v kv 18 (fun _ => 0) 0 _ (by decide)) ⟨va_cnB 2 hts (goodIn_sub mb_X3_transitions0_0 gw_X11_at) rfl rfl rfl (hN (RX3, 34, yX11_at) (List.mem_of_getElem? (i := 13) rfl)) (hts (.initialized RX11) (mo_X3_transitions0 1 rfl)) hd_X11_at ⟨Nat.le_of_ble_eq_true rfl, Nat.le_of_ble_eq_true rfl⟩, (hts (.static yX11_at) (mo_X3_transitions0 2 rfl)), trivial⟩ hK hN hP hD hS hA [1] [0] [0] rfl rfl (by decide) (by decide) (by decide) rfl rfl hl.1 rfl (Nat.le_of_ble_eq_true rfl) dX3_transitions_16 ⟨Nat.le_of_ble_eq_true rfl, Nat.le_of_ble_eq_true rfl⟩ (fun r_2 u_3 H locs w_4 hP hD hK1 hS => ?_)
    have hP : va_P D vwCl [(h, .inr (3, [.ref t, .ref v, .int n])), (v, .inl (kv, 18, .inl (fun _ => 0)))] H := hP
    have hD : va_D A [(h, .inr (3, [.ref t, .ref v, .int n])), (v, .inl (kv, 18, .inl (fun _ => 0)))] := hD
    have w_4 : r_2 = at_v (fun _ => 0) 18 0 := w_4
    obtain rfl : r_2 = 0 := w_4.trans (at_v0 _ _)
    refine kc_Si (As := [.int 0]) (rest := [.int 0]) (wr := [(h, .inr (3, [.ref t, .ref v, .int n])), (v, .inl (kv, 18, .inl (fun _ => 0)))]) ⟨hx, hb, hml, hown, hts⟩ (ct_bitCount0 l D  _ ) (va_cwS 1 hts (kg_S (mo_X3_transitions0 3 rfl) (mo_X3_transitions0 4 rfl) (mo_X3_transitions0 5 rfl) (goodIn_sub mb_X3_transitions0_1 gw_bitCount0)) rfl rfl rfl hd_J6_bitCount_0f7a4 ⟨Nat.le_of_ble_eq_true rfl, Nat.le_of_ble_eq_true rfl⟩) hK hN hP hD hS hA [] [0, 1] [] rfl rfl (by decide) (by decide) (by decide) rfl rfl hl.1 rfl (Nat.le_of_ble_eq_true rfl) dX3_transitions_19 ⟨Nat.le_of_ble_eq_true rfl, Nat.le_of_ble_eq_true rfl⟩ (fun r_5 u_6 H locs w_7 hP hD hK1 hS => ?_)
    have hP : va_P D vwCl [(h, .inr (3, [.ref t, .ref v, .int n])), (v, .inl (kv, 18, .inl (fun _ => 0)))] H := hP
    have hD : va_D A [(h, .inr (3, [.ref t, .ref v, .int n])), (v, .inl (kv, 18, .inl (fun _ => 0)))] := hD
    have w_7 : r_5 = 0 := w_7
    subst w_7
    refine lv_iadd hx hb dX3_transitions_22 ?_
    refine lv_topi (fun x_8 ex_8 => ?_)
    obtain rfl : x_8 = 0 := ex_8.trans (by decide)
    refine lv_istore_n (lv' := [(1, .int 0), (2, .int 0), (0, .ref h)]) hx hb dX3_transitions_23 rfl hl (by decide) rfl (fun ls hl => ?_)
    refine lv_iinc (v := 1) (lv' := [(2, .int 1), (1, .int 0), (0, .ref h)]) hx hb dX3_transitions_24 hl (k := 1) rfl (by decide) (by decide) rfl (fun ls hl => ?_)
    refine lv_goto (tgt := 4) hx hb dX3_transitions_27 (by decide) ?_
    refine lv_iload_n hx hb dX3_transitions_4 rfl (lv_at hl 0 rfl) ?_
    refine lv_bipush (v := 18) hx hb dX3_transitions_5 (by decide) ?_
    refine lv_icmp_ge (tgt := 30) hx hb dX3_transitions_7 (by decide) (fun c_9 => ?_) (fun c_9 => ?_)
    · exact absurd c_9 (by decide)
    · refine lv_iload_n hx hb dX3_transitions_10 rfl (lv_at hl 1 rfl) ?_
      refine lv_aload_n hx hb dX3_transitions_11 rfl (lv_at hl 2 rfl) ?_
      refine va_get (D := D) (ci := 3) (v := .ref v) (C := RX3) (T := TX3) (N := 3) hx hb hts hiX3 hown hK hP 0 rfl rfl 1 (by decide) (hts (.fieldLink RX3 15 "DynamicLogicProver$Model" "moves" "[I") (mo_X3_transitions0 0 rfl)) (fun _ h9 => h9) rfl dX3_transitions_12 ?_
      refine lv_iload_n hx hb dX3_transitions_15 rfl (lv_at hl 0 rfl) ?_
      refine kc_Ni (As := [.ref v, .int 1]) (rest := [.int 0]) (wr := [(h, .inr (3, [.ref t, .ref v, .int n]))]) ⟨hx, hb, hml, hown, hts⟩ (ct_X11_at l D v kv 18 (fun _ => 0) 1 _ (by decide)) ⟨va_cnB 2 hts (goodIn_sub mb_X3_transitions0_0 gw_X11_at) rfl rfl rfl (hN (RX3, 34, yX11_at) (List.mem_of_getElem? (i := 13) rfl)) (hts (.initialized RX11) (mo_X3_transitions0 1 rfl)) hd_X11_at ⟨Nat.le_of_ble_eq_true rfl, Nat.le_of_ble_eq_true rfl⟩, (hts (.static yX11_at) (mo_X3_transitions0 2 rfl)), trivial⟩ hK hN hP hD hS hA [1] [0] [0] rfl rfl (by decide) (by decide) (by decide) rfl rfl hl.1 rfl (Nat.le_of_ble_eq_true rfl) dX3_transitions_16 ⟨Nat.le_of_ble_eq_true rfl, Nat.le_of_ble_eq_true rfl⟩ (fun r_10 u_11 H locs w_12 hP hD hK1 hS => ?_)
      have hP : va_P D vwCl [(h, .inr (3, [.ref t, .ref v, .int n])), (v, .inl (kv, 18, .inl (fun _ => 0)))] H := hP
      have hD : va_D A [(h, .inr (3, [.ref t, .ref v, .int n])), (v, .inl (kv, 18, .inl (fun _ => 0)))] := hD
      have w_12 : r_10 = at_v (fun _ => 0) 18 1 := w_12
      obtain rfl : r_10 = 0 := w_12.trans (at_v0 _ _)
      refine kc_Si (As := [.int 0]) (rest := [.int 0]) (wr := [(h, .inr (3, [.ref t, .ref v, .int n])), (v, .inl (kv, 18, .inl (fun _ => 0)))]) ⟨hx, hb, hml, hown, hts⟩ (ct_bitCount0 l D  _ ) (va_cwS 1 hts (kg_S (mo_X3_transitions0 3 rfl) (mo_X3_transitions0 4 rfl) (mo_X3_transitions0 5 rfl) (goodIn_sub mb_X3_transitions0_1 gw_bitCount0)) rfl rfl rfl hd_J6_bitCount_0f7a4 ⟨Nat.le_of_ble_eq_true rfl, Nat.le_of_ble_eq_true rfl⟩) hK hN hP hD hS hA [] [0, 1] [] rfl rfl (by decide) (by decide) (by decide) rfl rfl hl.1 rfl (Nat.le_of_ble_eq_true rfl) dX3_transitions_19 ⟨Nat.le_of_ble_eq_true rfl, Nat.le_of_ble_eq_true rfl⟩ (fun r_13 u_14 H locs w_15 hP hD hK1 hS => ?_)
      have hP : va_P D vwCl [(h, .inr (3, [.ref t, .ref v, .int n])), (v, .inl (kv, 18, .inl (fun _ => 0)))] H := hP
      have hD : va_D A [(h, .inr (3, [.ref t, .ref v, .int n])), (v, .inl (kv, 18, .inl (fun _ => 0)))] := hD
      have w_15 : r_13 = 0 := w_15
      subst w_15
      refine lv_iadd hx hb dX3_transitions_22 ?_
      refine lv_topi (fun x_16 ex_16 => ?_)
      obtain rfl : x_16 = 0 := ex_16.trans (by decide)
      refine lv_istore_n (lv' := [(1, .int 0), (2, .int 1), (0, .ref h)]) hx hb dX3_transitions_23 rfl hl (by decide) rfl (fun ls hl => ?_)
      refine lv_iinc (v := 2) (lv' := [(2, .int 2), (1, .int 0), (0, .ref h)]) hx hb dX3_transitions_24 hl (k := 1) rfl (by decide) (by decide) rfl (fun ls hl => ?_)
      refine lv_goto (tgt := 4) hx hb dX3_transitions_27 (by decide) ?_
      refine lv_iload_n hx hb dX3_transitions_4 rfl (lv_at hl 0 rfl) ?_
      refine lv_bipush (v := 18) hx hb dX3_transitions_5 (by decide) ?_
      refine lv_icmp_ge (tgt := 30) hx hb dX3_transitions_7 (by decide) (fun c_17 => ?_) (fun c_17 => ?_)
      · exact absurd c_17 (by decide)
      · refine lv_iload_n hx hb dX3_transitions_10 rfl (lv_at hl 1 rfl) ?_
        refine lv_aload_n hx hb dX3_transitions_11 rfl (lv_at hl 2 rfl) ?_
        refine va_get (D := D) (ci := 3) (v := .ref v) (C := RX3) (T := TX3) (N := 3) hx hb hts hiX3 hown hK hP 0 rfl rfl 1 (by decide) (hts (.fieldLink RX3 15 "DynamicLogicProver$Model" "moves" "[I") (mo_X3_transitions0 0 rfl)) (fun _ h9 => h9) rfl dX3_transitions_12 ?_
        refine lv_iload_n hx hb dX3_transitions_15 rfl (lv_at hl 0 rfl) ?_
        refine kc_Ni (As := [.ref v, .int 2]) (rest := [.int 0]) (wr := [(h, .inr (3, [.ref t, .ref v, .int n]))]) ⟨hx, hb, hml, hown, hts⟩ (ct_X11_at l D v kv 18 (fun _ => 0) 2 _ (by decide)) ⟨va_cnB 2 hts (goodIn_sub mb_X3_transitions0_0 gw_X11_at) rfl rfl rfl (hN (RX3, 34, yX11_at) (List.mem_of_getElem? (i := 13) rfl)) (hts (.initialized RX11) (mo_X3_transitions0 1 rfl)) hd_X11_at ⟨Nat.le_of_ble_eq_true rfl, Nat.le_of_ble_eq_true rfl⟩, (hts (.static yX11_at) (mo_X3_transitions0 2 rfl)), trivial⟩ hK hN hP hD hS hA [1] [0] [0] rfl rfl (by decide) (by decide) (by decide) rfl rfl hl.1 rfl (Nat.le_of_ble_eq_true rfl) dX3_transitions_16 ⟨Nat.le_of_ble_eq_true rfl, Nat.le_of_ble_eq_true rfl⟩ (fun r_18 u_19 H locs w_20 hP hD hK1 hS => ?_)
        have hP : va_P D vwCl [(h, .inr (3, [.ref t, .ref v, .int n])), (v, .inl (kv, 18, .inl (fun _ => 0)))] H := hP
        have hD : va_D A [(h, .inr (3, [.ref t, .ref v, .int n])), (v, .inl (kv, 18, .inl (fun _ => 0)))] := hD
        have w_20 : r_18 = at_v (fun _ => 0) 18 2 := w_20
        obtain rfl : r_18 = 0 := w_20.trans (at_v0 _ _)
        refine kc_Si (As := [.int 0]) (rest := [.int 0]) (wr := [(h, .inr (3, [.ref t, .ref v, .int n])), (v, .inl (kv, 18, .inl (fun _ => 0)))]) ⟨hx, hb, hml, hown, hts⟩ (ct_bitCount0 l D  _ ) (va_cwS 1 hts (kg_S (mo_X3_transitions0 3 rfl) (mo_X3_transitions0 4 rfl) (mo_X3_transitions0 5 rfl) (goodIn_sub mb_X3_transitions0_1 gw_bitCount0)) rfl rfl rfl hd_J6_bitCount_0f7a4 ⟨Nat.le_of_ble_eq_true rfl, Nat.le_of_ble_eq_true rfl⟩) hK hN hP hD hS hA [] [0, 1] [] rfl rfl (by decide) (by decide) (by decide) rfl rfl hl.1 rfl (Nat.le_of_ble_eq_true rfl) dX3_transitions_19 ⟨Nat.le_of_ble_eq_true rfl, Nat.le_of_ble_eq_true rfl⟩ (fun r_21 u_22 H locs w_23 hP hD hK1 hS => ?_)
        have hP : va_P D vwCl [(h, .inr (3, [.ref t, .ref v, .int n])), (v, .inl (kv, 18, .inl (fun _ => 0)))] H := hP
        have hD : va_D A [(h, .inr (3, [.ref t, .ref v, .int n])), (v, .inl (kv, 18, .inl (fun _ => 0)))] := hD
        have w_23 : r_21 = 0 := w_23
        subst w_23
        refine lv_iadd hx hb dX3_transitions_22 ?_
        refine lv_topi (fun x_24 ex_24 => ?_)
        obtain rfl : x_24 = 0 := ex_24.trans (by decide)
        refine lv_istore_n (lv' := [(1, .int 0), (2, .int 2), (0, .ref h)]) hx hb dX3_transitions_23 rfl hl (by decide) rfl (fun ls hl => ?_)
        refine lv_iinc (v := 3) (lv' := [(2, .int 3), (1, .int 0), (0, .ref h)]) hx hb dX3_transitions_24 hl (k := 1) rfl (by decide) (by decide) rfl (fun ls hl => ?_)
        refine lv_goto (tgt := 4) hx hb dX3_transitions_27 (by decide) ?_
        refine lv_iload_n hx hb dX3_transitions_4 rfl (lv_at hl 0 rfl) ?_
        refine lv_bipush (v := 18) hx hb dX3_transitions_5 (by decide) ?_
        refine lv_icmp_ge (tgt := 30) hx hb dX3_transitions_7 (by decide) (fun c_25 => ?_) (fun c_25 => ?_)
        · exact absurd c_25 (by decide)
        · refine lv_iload_n hx hb dX3_transitions_10 rfl (lv_at hl 1 rfl) ?_
          refine lv_aload_n hx hb dX3_transitions_11 rfl (lv_at hl 2 rfl) ?_
          refine va_get (D := D) (ci := 3) (v := .ref v) (C := RX3) (T := TX3) (N := 3) hx hb hts hiX3 hown hK hP 0 rfl rfl 1 (by decide) (hts (.fieldLink RX3 15 "DynamicLogicProver$Model" "moves" "[I") (mo_X3_transitions0 0 rfl)) (fun _ h9 => h9) rfl dX3_transitions_12 ?_
          refine lv_iload_n hx hb dX3_transitions_15 rfl (lv_at hl 0 rfl) ?_
          refine kc_Ni (As := [.ref v, .int 3]) (rest := [.int 0]) (wr := [(h, .inr (3, [.ref t, .ref v, .int n]))]) ⟨hx, hb, hml, hown, hts⟩ (ct_X11_at l D v kv 18 (fun _ => 0) 3 _ (by decide)) ⟨va_cnB 2 hts (goodIn_sub mb_X3_transitions0_0 gw_X11_at) rfl rfl rfl (hN (RX3, 34, yX11_at) (List.mem_of_getElem? (i := 13) rfl)) (hts (.initialized RX11) (mo_X3_transitions0 1 rfl)) hd_X11_at ⟨Nat.le_of_ble_eq_true rfl, Nat.le_of_ble_eq_true rfl⟩, (hts (.static yX11_at) (mo_X3_transitions0 2 rfl)), trivial⟩ hK hN hP hD hS hA [1] [0] [0] rfl rfl (by decide) (by decide) (by decide) rfl rfl hl.1 rfl (Nat.le_of_ble_eq_true rfl) dX3_transitions_16 ⟨Nat.le_of_ble_eq_true rfl, Nat.le_of_ble_eq_true rfl⟩ (fun r_26 u_27 H locs w_28 hP hD hK1 hS => ?_)
          have hP : va_P D vwCl [(h, .inr (3, [.ref t, .ref v, .int n])), (v, .inl (kv, 18, .inl (fun _ => 0)))] H := hP
          have hD : va_D A [(h, .inr (3, [.ref t, .ref v, .int n])), (v, .inl (kv, 18, .inl (fun _ => 0)))] := hD
          have w_28 : r_26 = at_v (fun _ => 0) 18 3 := w_28
          obtain rfl : r_26 = 0 := w_28.trans (at_v0 _ _)
          refine kc_Si (As := [.int 0]) (rest := [.int 0]) (wr := [(h, .inr (3, [.ref t, .ref v, .int n])), (v, .inl (kv, 18, .inl (fun _ => 0)))]) ⟨hx, hb, hml, hown, hts⟩ (ct_bitCount0 l D  _ ) (va_cwS 1 hts (kg_S (mo_X3_transitions0 3 rfl) (mo_X3_transitions0 4 rfl) (mo_X3_transitions0 5 rfl) (goodIn_sub mb_X3_transitions0_1 gw_bitCount0)) rfl rfl rfl hd_J6_bitCount_0f7a4 ⟨Nat.le_of_ble_eq_true rfl, Nat.le_of_ble_eq_true rfl⟩) hK hN hP hD hS hA [] [0, 1] [] rfl rfl (by decide) (by decide) (by decide) rfl rfl hl.1 rfl (Nat.le_of_ble_eq_true rfl) dX3_transitions_19 ⟨Nat.le_of_ble_eq_true rfl, Nat.le_of_ble_eq_true rfl⟩ (fun r_29 u_30 H locs w_31 hP hD hK1 hS => ?_)
          have hP : va_P D vwCl [(h, .inr (3, [.ref t, .ref v, .int n])), (v, .inl (kv, 18, .inl (fun _ => 0)))] H := hP
          have hD : va_D A [(h, .inr (3, [.ref t, .ref v, .int n])), (v, .inl (kv, 18, .inl (fun _ => 0)))] := hD
          have w_31 : r_29 = 0 := w_31
          subst w_31
          refine lv_iadd hx hb dX3_transitions_22 ?_
          refine lv_topi (fun x_32 ex_32 => ?_)
          obtain rfl : x_32 = 0 := ex_32.trans (by decide)
          refine lv_istore_n (lv' := [(1, .int 0), (2, .int 3), (0, .ref h)]) hx hb dX3_transitions_23 rfl hl (by decide) rfl (fun ls hl => ?_)
          refine lv_iinc (v := 4) (lv' := [(2, .int 4), (1, .int 0), (0, .ref h)]) hx hb dX3_transitions_24 hl (k := 1) rfl (by decide) (by decide) rfl (fun ls hl => ?_)
          refine lv_goto (tgt := 4) hx hb dX3_transitions_27 (by decide) ?_
          refine lv_iload_n hx hb dX3_transitions_4 rfl (lv_at hl 0 rfl) ?_
          refine lv_bipush (v := 18) hx hb dX3_transitions_5 (by decide) ?_
          refine lv_icmp_ge (tgt := 30) hx hb dX3_transitions_7 (by decide) (fun c_33 => ?_) (fun c_33 => ?_)
          · exact absurd c_33 (by decide)
          · refine lv_iload_n hx hb dX3_transitions_10 rfl (lv_at hl 1 rfl) ?_
            refine lv_aload_n hx hb dX3_transitions_11 rfl (lv_at hl 2 rfl) ?_
            refine va_get (D := D) (ci := 3) (v := .ref v) (C := RX3) (T := TX3) (N := 3) hx hb hts hiX3 hown hK hP 0 rfl rfl 1 (by decide) (hts (.fieldLink RX3 15 "DynamicLogicProver$Model" "moves" "[I") (mo_X3_transitions0 0 rfl)) (fun _ h9 => h9) rfl dX3_transitions_12 ?_
            refine lv_iload_n hx hb dX3_transitions_15 rfl (lv_at hl 0 rfl) ?_
            refine kc_Ni (As := [.ref v, .int 4]) (rest := [.int 0]) (wr := [(h, .inr (3, [.ref t, .ref v, .int n]))]) ⟨hx, hb, hml, hown, hts⟩ (ct_X11_at l D v kv 18 (fun _ => 0) 4 _ (by decide)) ⟨va_cnB 2 hts (goodIn_sub mb_X3_transitions0_0 gw_X11_at) rfl rfl rfl (hN (RX3, 34, yX11_at) (List.mem_of_getElem? (i := 13) rfl)) (hts (.initialized RX11) (mo_X3_transitions0 1 rfl)) hd_X11_at ⟨Nat.le_of_ble_eq_true rfl, Nat.le_of_ble_eq_true rfl⟩, (hts (.static yX11_at) (mo_X3_transitions0 2 rfl)), trivial⟩ hK hN hP hD hS hA [1] [0] [0] rfl rfl (by decide) (by decide) (by decide) rfl rfl hl.1 rfl (Nat.le_of_ble_eq_true rfl) dX3_transitions_16 ⟨Nat.le_of_ble_eq_true rfl, Nat.le_of_ble_eq_true rfl⟩ (fun r_34 u_35 H locs w_36 hP hD hK1 hS => ?_)
            have hP : va_P D vwCl [(h, .inr (3, [.ref t, .ref v, .int n])), (v, .inl (kv, 18, .inl (fun _ => 0)))] H := hP
            have hD : va_D A [(h, .inr (3, [.ref t, .ref v, .int n])), (v, .inl (kv, 18, .inl (fun _ => 0)))] := hD
            have w_36 : r_34 = at_v (fun _ => 0) 18 4 := w_36
            obtain rfl : r_34 = 0 := w_36.trans (at_v0 _ _)
            refine kc_Si (As := [.int 0]) (rest := [.int 0]) (wr := [(h, .inr (3, [.ref t, .ref v, .int n])), (v, .inl (kv, 18, .inl (fun _ => 0)))]) ⟨hx, hb, hml, hown, hts⟩ (ct_bitCount0 l D  _ ) (va_cwS 1 hts (kg_S (mo_X3_transitions0 3 rfl) (mo_X3_transitions0 4 rfl) (mo_X3_transitions0 5 rfl) (goodIn_sub mb_X3_transitions0_1 gw_bitCount0)) rfl rfl rfl hd_J6_bitCount_0f7a4 ⟨Nat.le_of_ble_eq_true rfl, Nat.le_of_ble_eq_true rfl⟩) hK hN hP hD hS hA [] [0, 1] [] rfl rfl (by decide) (by decide) (by decide) rfl rfl hl.1 rfl (Nat.le_of_ble_eq_true rfl) dX3_transitions_19 ⟨Nat.le_of_ble_eq_true rfl, Nat.le_of_ble_eq_true rfl⟩ (fun r_37 u_38 H locs w_39 hP hD hK1 hS => ?_)
            have hP : va_P D vwCl [(h, .inr (3, [.ref t, .ref v, .int n])), (v, .inl (kv, 18, .inl (fun _ => 0)))] H := hP
            have hD : va_D A [(h, .inr (3, [.ref t, .ref v, .int n])), (v, .inl (kv, 18, .inl (fun _ => 0)))] := hD
            have w_39 : r_37 = 0 := w_39
            subst w_39
            refine lv_iadd hx hb dX3_transitions_22 ?_
            refine lv_topi (fun x_40 ex_40 => ?_)
            obtain rfl : x_40 = 0 := ex_40.trans (by decide)
            refine lv_istore_n (lv' := [(1, .int 0), (2, .int 4), (0, .ref h)]) hx hb dX3_transitions_23 rfl hl (by decide) rfl (fun ls hl => ?_)
            refine lv_iinc (v := 5) (lv' := [(2, .int 5), (1, .int 0), (0, .ref h)]) hx hb dX3_transitions_24 hl (k := 1) rfl (by decide) (by decide) rfl (fun ls hl => ?_)
            refine lv_goto (tgt := 4) hx hb dX3_transitions_27 (by decide) ?_
            refine lv_iload_n hx hb dX3_transitions_4 rfl (lv_at hl 0 rfl) ?_
            refine lv_bipush (v := 18) hx hb dX3_transitions_5 (by decide) ?_
            refine lv_icmp_ge (tgt := 30) hx hb dX3_transitions_7 (by decide) (fun c_41 => ?_) (fun c_41 => ?_)
            · exact absurd c_41 (by decide)
            · refine lv_iload_n hx hb dX3_transitions_10 rfl (lv_at hl 1 rfl) ?_
              refine lv_aload_n hx hb dX3_transitions_11 rfl (lv_at hl 2 rfl) ?_
              refine va_get (D := D) (ci := 3) (v := .ref v) (C := RX3) (T := TX3) (N := 3) hx hb hts hiX3 hown hK hP 0 rfl rfl 1 (by decide) (hts (.fieldLink RX3 15 "DynamicLogicProver$Model" "moves" "[I") (mo_X3_transitions0 0 rfl)) (fun _ h9 => h9) rfl dX3_transitions_12 ?_
              refine lv_iload_n hx hb dX3_transitions_15 rfl (lv_at hl 0 rfl) ?_
              refine kc_Ni (As := [.ref v, .int 5]) (rest := [.int 0]) (wr := [(h, .inr (3, [.ref t, .ref v, .int n]))]) ⟨hx, hb, hml, hown, hts⟩ (ct_X11_at l D v kv 18 (fun _ => 0) 5 _ (by decide)) ⟨va_cnB 2 hts (goodIn_sub mb_X3_transitions0_0 gw_X11_at) rfl rfl rfl (hN (RX3, 34, yX11_at) (List.mem_of_getElem? (i := 13) rfl)) (hts (.initialized RX11) (mo_X3_transitions0 1 rfl)) hd_X11_at ⟨Nat.le_of_ble_eq_true rfl, Nat.le_of_ble_eq_true rfl⟩, (hts (.static yX11_at) (mo_X3_transitions0 2 rfl)), trivial⟩ hK hN hP hD hS hA [1] [0] [0] rfl rfl (by decide) (by decide) (by decide) rfl rfl hl.1 rfl (Nat.le_of_ble_eq_true rfl) dX3_transitions_16 ⟨Nat.le_of_ble_eq_true rfl, Nat.le_of_ble_eq_true rfl⟩ (fun r_42 u_43 H locs w_44 hP hD hK1 hS => ?_)
              have hP : va_P D vwCl [(h, .inr (3, [.ref t, .ref v, .int n])), (v, .inl (kv, 18, .inl (fun _ => 0)))] H := hP
              have hD : va_D A [(h, .inr (3, [.ref t, .ref v, .int n])), (v, .inl (kv, 18, .inl (fun _ => 0)))] := hD
              have w_44 : r_42 = at_v (fun _ => 0) 18 5 := w_44
              obtain rfl : r_42 = 0 := w_44.trans (at_v0 _ _)
              refine kc_Si (As := [.int 0]) (rest := [.int 0]) (wr := [(h, .inr (3, [.ref t, .ref v, .int n])), (v, .inl (kv, 18, .inl (fun _ => 0)))]) ⟨hx, hb, hml, hown, hts⟩ (ct_bitCount0 l D  _ ) (va_cwS 1 hts (kg_S (mo_X3_transitions0 3 rfl) (mo_X3_transitions0 4 rfl) (mo_X3_transitions0 5 rfl) (goodIn_sub mb_X3_transitions0_1 gw_bitCount0)) rfl rfl rfl hd_J6_bitCount_0f7a4 ⟨Nat.le_of_ble_eq_true rfl, Nat.le_of_ble_eq_true rfl⟩) hK hN hP hD hS hA [] [0, 1] [] rfl rfl (by decide) (by decide) (by decide) rfl rfl hl.1 rfl (Nat.le_of_ble_eq_true rfl) dX3_transitions_19 ⟨Nat.le_of_ble_eq_true rfl, Nat.le_of_ble_eq_true rfl⟩ (fun r_45 u_46 H locs w_47 hP hD hK1 hS => ?_)
              have hP : va_P D vwCl [(h, .inr (3, [.ref t, .ref v, .int n])), (v, .inl (kv, 18, .inl (fun _ => 0)))] H := hP
              have hD : va_D A [(h, .inr (3, [.ref t, .ref v, .int n])), (v, .inl (kv, 18, .inl (fun _ => 0)))] := hD
              have w_47 : r_45 = 0 := w_47
              subst w_47
              refine lv_iadd hx hb dX3_transitions_22 ?_
              refine lv_topi (fun x_48 ex_48 => ?_)
              obtain rfl : x_48 = 0 := ex_48.trans (by decide)
              refine lv_istore_n (lv' := [(1, .int 0), (2, .int 5), (0, .ref h)]) hx hb dX3_transitions_23 rfl hl (by decide) rfl (fun ls hl => ?_)
              refine lv_iinc (v := 6) (lv' := [(2, .int 6), (1, .int 0), (0, .ref h)]) hx hb dX3_transitions_24 hl (k := 1) rfl (by decide) (by decide) rfl (fun ls hl => ?_)
              refine lv_goto (tgt := 4) hx hb dX3_transitions_27 (by decide) ?_
              refine lv_iload_n hx hb dX3_transitions_4 rfl (lv_at hl 0 rfl) ?_
              refine lv_bipush (v := 18) hx hb dX3_transitions_5 (by decide) ?_
              refine lv_icmp_ge (tgt := 30) hx hb dX3_transitions_7 (by decide) (fun c_49 => ?_) (fun c_49 => ?_)
              · exact absurd c_49 (by decide)
              · refine lv_iload_n hx hb dX3_transitions_10 rfl (lv_at hl 1 rfl) ?_
                refine lv_aload_n hx hb dX3_transitions_11 rfl (lv_at hl 2 rfl) ?_
                refine va_get (D := D) (ci := 3) (v := .ref v) (C := RX3) (T := TX3) (N := 3) hx hb hts hiX3 hown hK hP 0 rfl rfl 1 (by decide) (hts (.fieldLink RX3 15 "DynamicLogicProver$Model" "moves" "[I") (mo_X3_transitions0 0 rfl)) (fun _ h9 => h9) rfl dX3_transitions_12 ?_
                refine lv_iload_n hx hb dX3_transitions_15 rfl (lv_at hl 0 rfl) ?_
                refine kc_Ni (As := [.ref v, .int 6]) (rest := [.int 0]) (wr := [(h, .inr (3, [.ref t, .ref v, .int n]))]) ⟨hx, hb, hml, hown, hts⟩ (ct_X11_at l D v kv 18 (fun _ => 0) 6 _ (by decide)) ⟨va_cnB 2 hts (goodIn_sub mb_X3_transitions0_0 gw_X11_at) rfl rfl rfl (hN (RX3, 34, yX11_at) (List.mem_of_getElem? (i := 13) rfl)) (hts (.initialized RX11) (mo_X3_transitions0 1 rfl)) hd_X11_at ⟨Nat.le_of_ble_eq_true rfl, Nat.le_of_ble_eq_true rfl⟩, (hts (.static yX11_at) (mo_X3_transitions0 2 rfl)), trivial⟩ hK hN hP hD hS hA [1] [0] [0] rfl rfl (by decide) (by decide) (by decide) rfl rfl hl.1 rfl (Nat.le_of_ble_eq_true rfl) dX3_transitions_16 ⟨Nat.le_of_ble_eq_true rfl, Nat.le_of_ble_eq_true rfl⟩ (fun r_50 u_51 H locs w_52 hP hD hK1 hS => ?_)
                have hP : va_P D vwCl [(h, .inr (3, [.ref t, .ref v, .int n])), (v, .inl (kv, 18, .inl (fun _ => 0)))] H := hP
                have hD : va_D A [(h, .inr (3, [.ref t, .ref v, .int n])), (v, .inl (kv, 18, .inl (fun _ => 0)))] := hD
                have w_52 : r_50 = at_v (fun _ => 0) 18 6 := w_52
                obtain rfl : r_50 = 0 := w_52.trans (at_v0 _ _)
                refine kc_Si (As := [.int 0]) (rest := [.int 0]) (wr := [(h, .inr (3, [.ref t, .ref v, .int n])), (v, .inl (kv, 18, .inl (fun _ => 0)))]) ⟨hx, hb, hml, hown, hts⟩ (ct_bitCount0 l D  _ ) (va_cwS 1 hts (kg_S (mo_X3_transitions0 3 rfl) (mo_X3_transitions0 4 rfl) (mo_X3_transitions0 5 rfl) (goodIn_sub mb_X3_transitions0_1 gw_bitCount0)) rfl rfl rfl hd_J6_bitCount_0f7a4 ⟨Nat.le_of_ble_eq_true rfl, Nat.le_of_ble_eq_true rfl⟩) hK hN hP hD hS hA [] [0, 1] [] rfl rfl (by decide) (by decide) (by decide) rfl rfl hl.1 rfl (Nat.le_of_ble_eq_true rfl) dX3_transitions_19 ⟨Nat.le_of_ble_eq_true rfl, Nat.le_of_ble_eq_true rfl⟩ (fun r_53 u_54 H locs w_55 hP hD hK1 hS => ?_)
                have hP : va_P D vwCl [(h, .inr (3, [.ref t, .ref v, .int n])), (v, .inl (kv, 18, .inl (fun _ => 0)))] H := hP
                have hD : va_D A [(h, .inr (3, [.ref t, .ref v, .int n])), (v, .inl (kv, 18, .inl (fun _ => 0)))] := hD
                have w_55 : r_53 = 0 := w_55
                subst w_55
                refine lv_iadd hx hb dX3_transitions_22 ?_
                refine lv_topi (fun x_56 ex_56 => ?_)
                obtain rfl : x_56 = 0 := ex_56.trans (by decide)
                refine lv_istore_n (lv' := [(1, .int 0), (2, .int 6), (0, .ref h)]) hx hb dX3_transitions_23 rfl hl (by decide) rfl (fun ls hl => ?_)
                refine lv_iinc (v := 7) (lv' := [(2, .int 7), (1, .int 0), (0, .ref h)]) hx hb dX3_transitions_24 hl (k := 1) rfl (by decide) (by decide) rfl (fun ls hl => ?_)
                refine lv_goto (tgt := 4) hx hb dX3_transitions_27 (by decide) ?_
                refine lv_iload_n hx hb dX3_transitions_4 rfl (lv_at hl 0 rfl) ?_
                refine lv_bipush (v := 18) hx hb dX3_transitions_5 (by decide) ?_
                refine lv_icmp_ge (tgt := 30) hx hb dX3_transitions_7 (by decide) (fun c_57 => ?_) (fun c_57 => ?_)
                · exact absurd c_57 (by decide)
                · refine lv_iload_n hx hb dX3_transitions_10 rfl (lv_at hl 1 rfl) ?_
                  refine lv_aload_n hx hb dX3_transitions_11 rfl (lv_at hl 2 rfl) ?_
                  refine va_get (D := D) (ci := 3) (v := .ref v) (C := RX3) (T := TX3) (N := 3) hx hb hts hiX3 hown hK hP 0 rfl rfl 1 (by decide) (hts (.fieldLink RX3 15 "DynamicLogicProver$Model" "moves" "[I") (mo_X3_transitions0 0 rfl)) (fun _ h9 => h9) rfl dX3_transitions_12 ?_
                  refine lv_iload_n hx hb dX3_transitions_15 rfl (lv_at hl 0 rfl) ?_
                  refine kc_Ni (As := [.ref v, .int 7]) (rest := [.int 0]) (wr := [(h, .inr (3, [.ref t, .ref v, .int n]))]) ⟨hx, hb, hml, hown, hts⟩ (ct_X11_at l D v kv 18 (fun _ => 0) 7 _ (by decide)) ⟨va_cnB 2 hts (goodIn_sub mb_X3_transitions0_0 gw_X11_at) rfl rfl rfl (hN (RX3, 34, yX11_at) (List.mem_of_getElem? (i := 13) rfl)) (hts (.initialized RX11) (mo_X3_transitions0 1 rfl)) hd_X11_at ⟨Nat.le_of_ble_eq_true rfl, Nat.le_of_ble_eq_true rfl⟩, (hts (.static yX11_at) (mo_X3_transitions0 2 rfl)), trivial⟩ hK hN hP hD hS hA [1] [0] [0] rfl rfl (by decide) (by decide) (by decide) rfl rfl hl.1 rfl (Nat.le_of_ble_eq_true rfl) dX3_transitions_16 ⟨Nat.le_of_ble_eq_true rfl, Nat.le_of_ble_eq_true rfl⟩ (fun r_58 u_59 H locs w_60 hP hD hK1 hS => ?_)
                  have hP : va_P D vwCl [(h, .inr (3, [.ref t, .ref v, .int n])), (v, .inl (kv, 18, .inl (fun _ => 0)))] H := hP
                  have hD : va_D A [(h, .inr (3, [.ref t, .ref v, .int n])), (v, .inl (kv, 18, .inl (fun _ => 0)))] := hD
                  have w_60 : r_58 = at_v (fun _ => 0) 18 7 := w_60
                  obtain rfl : r_58 = 0 := w_60.trans (at_v0 _ _)
                  refine kc_Si (As := [.int 0]) (rest := [.int 0]) (wr := [(h, .inr (3, [.ref t, .ref v, .int n])), (v, .inl (kv, 18, .inl (fun _ => 0)))]) ⟨hx, hb, hml, hown, hts⟩ (ct_bitCount0 l D  _ ) (va_cwS 1 hts (kg_S (mo_X3_transitions0 3 rfl) (mo_X3_transitions0 4 rfl) (mo_X3_transitions0 5 rfl) (goodIn_sub mb_X3_transitions0_1 gw_bitCount0)) rfl rfl rfl hd_J6_bitCount_0f7a4 ⟨Nat.le_of_ble_eq_true rfl, Nat.le_of_ble_eq_true rfl⟩) hK hN hP hD hS hA [] [0, 1] [] rfl rfl (by decide) (by decide) (by decide) rfl rfl hl.1 rfl (Nat.le_of_ble_eq_true rfl) dX3_transitions_19 ⟨Nat.le_of_ble_eq_true rfl, Nat.le_of_ble_eq_true rfl⟩ (fun r_61 u_62 H locs w_63 hP hD hK1 hS => ?_)
                  have hP : va_P D vwCl [(h, .inr (3, [.ref t, .ref v, .int n])), (v, .inl (kv, 18, .inl (fun _ => 0)))] H := hP
                  have hD : va_D A [(h, .inr (3, [.ref t, .ref v, .int n])), (v, .inl (kv, 18, .inl (fun _ => 0)))] := hD
                  have w_63 : r_61 = 0 := w_63
                  subst w_63
                  refine lv_iadd hx hb dX3_transitions_22 ?_
                  refine lv_topi (fun x_64 ex_64 => ?_)
                  obtain rfl : x_64 = 0 := ex_64.trans (by decide)
                  refine lv_istore_n (lv' := [(1, .int 0), (2, .int 7), (0, .ref h)]) hx hb dX3_transitions_23 rfl hl (by decide) rfl (fun ls hl => ?_)
                  refine lv_iinc (v := 8) (lv' := [(2, .int 8), (1, .int 0), (0, .ref h)]) hx hb dX3_transitions_24 hl (k := 1) rfl (by decide) (by decide) rfl (fun ls hl => ?_)
                  refine lv_goto (tgt := 4) hx hb dX3_transitions_27 (by decide) ?_
                  refine lv_iload_n hx hb dX3_transitions_4 rfl (lv_at hl 0 rfl) ?_
                  refine lv_bipush (v := 18) hx hb dX3_transitions_5 (by decide) ?_
                  refine lv_icmp_ge (tgt := 30) hx hb dX3_transitions_7 (by decide) (fun c_65 => ?_) (fun c_65 => ?_)
                  · exact absurd c_65 (by decide)
                  · refine lv_iload_n hx hb dX3_transitions_10 rfl (lv_at hl 1 rfl) ?_
                    refine lv_aload_n hx hb dX3_transitions_11 rfl (lv_at hl 2 rfl) ?_
                    refine va_get (D := D) (ci := 3) (v := .ref v) (C := RX3) (T := TX3) (N := 3) hx hb hts hiX3 hown hK hP 0 rfl rfl 1 (by decide) (hts (.fieldLink RX3 15 "DynamicLogicProver$Model" "moves" "[I") (mo_X3_transitions0 0 rfl)) (fun _ h9 => h9) rfl dX3_transitions_12 ?_
                    refine lv_iload_n hx hb dX3_transitions_15 rfl (lv_at hl 0 rfl) ?_
                    refine kc_Ni (As := [.ref v, .int 8]) (rest := [.int 0]) (wr := [(h, .inr (3, [.ref t, .ref v, .int n]))]) ⟨hx, hb, hml, hown, hts⟩ (ct_X11_at l D v kv 18 (fun _ => 0) 8 _ (by decide)) ⟨va_cnB 2 hts (goodIn_sub mb_X3_transitions0_0 gw_X11_at) rfl rfl rfl (hN (RX3, 34, yX11_at) (List.mem_of_getElem? (i := 13) rfl)) (hts (.initialized RX11) (mo_X3_transitions0 1 rfl)) hd_X11_at ⟨Nat.le_of_ble_eq_true rfl, Nat.le_of_ble_eq_true rfl⟩, (hts (.static yX11_at) (mo_X3_transitions0 2 rfl)), trivial⟩ hK hN hP hD hS hA [1] [0] [0] rfl rfl (by decide) (by decide) (by decide) rfl rfl hl.1 rfl (Nat.le_of_ble_eq_true rfl) dX3_transitions_16 ⟨Nat.le_of_ble_eq_true rfl, Nat.le_of_ble_eq_true rfl⟩ (fun r_66 u_67 H locs w_68 hP hD hK1 hS => ?_)
                    have hP : va_P D vwCl [(h, .inr (3, [.ref t, .ref v, .int n])), (v, .inl (kv, 18, .inl (fun _ => 0)))] H := hP
                    have hD : va_D A [(h, .inr (3, [.ref t, .ref v, .int n])), (v, .inl (kv, 18, .inl (fun _ => 0)))] := hD
                    have w_68 : r_66 = at_v (fun _ => 0) 18 8 := w_68
                    obtain rfl : r_66 = 0 := w_68.trans (at_v0 _ _)
                    refine kc_Si (As := [.int 0]) (rest := [.int 0]) (wr := [(h, .inr (3, [.ref t, .ref v, .int n])), (v, .inl (kv, 18, .inl (fun _ => 0)))]) ⟨hx, hb, hml, hown, hts⟩ (ct_bitCount0 l D  _ ) (va_cwS 1 hts (kg_S (mo_X3_transitions0 3 rfl) (mo_X3_transitions0 4 rfl) (mo_X3_transitions0 5 rfl) (goodIn_sub mb_X3_transitions0_1 gw_bitCount0)) rfl rfl rfl hd_J6_bitCount_0f7a4 ⟨Nat.le_of_ble_eq_true rfl, Nat.le_of_ble_eq_true rfl⟩) hK hN hP hD hS hA [] [0, 1] [] rfl rfl (by decide) (by decide) (by decide) rfl rfl hl.1 rfl (Nat.le_of_ble_eq_true rfl) dX3_transitions_19 ⟨Nat.le_of_ble_eq_true rfl, Nat.le_of_ble_eq_true rfl⟩ (fun r_69 u_70 H locs w_71 hP hD hK1 hS => ?_)
                    have hP : va_P D vwCl [(h, .inr (3, [.ref t, .ref v, .int n])), (v, .inl (kv, 18, .inl (fun _ => 0)))] H := hP
                    have hD : va_D A [(h, .inr (3, [.ref t, .ref v, .int n])), (v, .inl (kv, 18, .inl (fun _ => 0)))] := hD
                    have w_71 : r_69 = 0 := w_71
                    subst w_71
                    refine lv_iadd hx hb dX3_transitions_22 ?_
                    refine lv_topi (fun x_72 ex_72 => ?_)
                    obtain rfl : x_72 = 0 := ex_72.trans (by decide)
                    refine lv_istore_n (lv' := [(1, .int 0), (2, .int 8), (0, .ref h)]) hx hb dX3_transitions_23 rfl hl (by decide) rfl (fun ls hl => ?_)
                    refine lv_iinc (v := 9) (lv' := [(2, .int 9), (1, .int 0), (0, .ref h)]) hx hb dX3_transitions_24 hl (k := 1) rfl (by decide) (by decide) rfl (fun ls hl => ?_)
                    refine lv_goto (tgt := 4) hx hb dX3_transitions_27 (by decide) ?_
                    refine lv_iload_n hx hb dX3_transitions_4 rfl (lv_at hl 0 rfl) ?_
                    refine lv_bipush (v := 18) hx hb dX3_transitions_5 (by decide) ?_
                    refine lv_icmp_ge (tgt := 30) hx hb dX3_transitions_7 (by decide) (fun c_73 => ?_) (fun c_73 => ?_)
                    · exact absurd c_73 (by decide)
                    · refine lv_iload_n hx hb dX3_transitions_10 rfl (lv_at hl 1 rfl) ?_
                      refine lv_aload_n hx hb dX3_transitions_11 rfl (lv_at hl 2 rfl) ?_
                      refine va_get (D := D) (ci := 3) (v := .ref v) (C := RX3) (T := TX3) (N := 3) hx hb hts hiX3 hown hK hP 0 rfl rfl 1 (by decide) (hts (.fieldLink RX3 15 "DynamicLogicProver$Model" "moves" "[I") (mo_X3_transitions0 0 rfl)) (fun _ h9 => h9) rfl dX3_transitions_12 ?_
                      refine lv_iload_n hx hb dX3_transitions_15 rfl (lv_at hl 0 rfl) ?_
                      refine kc_Ni (As := [.ref v, .int 9]) (rest := [.int 0]) (wr := [(h, .inr (3, [.ref t, .ref v, .int n]))]) ⟨hx, hb, hml, hown, hts⟩ (ct_X11_at l D v kv 18 (fun _ => 0) 9 _ (by decide)) ⟨va_cnB 2 hts (goodIn_sub mb_X3_transitions0_0 gw_X11_at) rfl rfl rfl (hN (RX3, 34, yX11_at) (List.mem_of_getElem? (i := 13) rfl)) (hts (.initialized RX11) (mo_X3_transitions0 1 rfl)) hd_X11_at ⟨Nat.le_of_ble_eq_true rfl, Nat.le_of_ble_eq_true rfl⟩, (hts (.static yX11_at) (mo_X3_transitions0 2 rfl)), trivial⟩ hK hN hP hD hS hA [1] [0] [0] rfl rfl (by decide) (by decide) (by decide) rfl rfl hl.1 rfl (Nat.le_of_ble_eq_true rfl) dX3_transitions_16 ⟨Nat.le_of_ble_eq_true rfl, Nat.le_of_ble_eq_true rfl⟩ (fun r_74 u_75 H locs w_76 hP hD hK1 hS => ?_)
                      have hP : va_P D vwCl [(h, .inr (3, [.ref t, .ref v, .int n])), (v, .inl (kv, 18, .inl (fun _ => 0)))] H := hP
                      have hD : va_D A [(h, .inr (3, [.ref t, .ref v, .int n])), (v, .inl (kv, 18, .inl (fun _ => 0)))] := hD
                      have w_76 : r_74 = at_v (fun _ => 0) 18 9 := w_76
                      obtain rfl : r_74 = 0 := w_76.trans (at_v0 _ _)
                      refine kc_Si (As := [.int 0]) (rest := [.int 0]) (wr := [(h, .inr (3, [.ref t, .ref v, .int n])), (v, .inl (kv, 18, .inl (fun _ => 0)))]) ⟨hx, hb, hml, hown, hts⟩ (ct_bitCount0 l D  _ ) (va_cwS 1 hts (kg_S (mo_X3_transitions0 3 rfl) (mo_X3_transitions0 4 rfl) (mo_X3_transitions0 5 rfl) (goodIn_sub mb_X3_transitions0_1 gw_bitCount0)) rfl rfl rfl hd_J6_bitCount_0f7a4 ⟨Nat.le_of_ble_eq_true rfl, Nat.le_of_ble_eq_true rfl⟩) hK hN hP hD hS hA [] [0, 1] [] rfl rfl (by decide) (by decide) (by decide) rfl rfl hl.1 rfl (Nat.le_of_ble_eq_true rfl) dX3_transitions_19 ⟨Nat.le_of_ble_eq_true rfl, Nat.le_of_ble_eq_true rfl⟩ (fun r_77 u_78 H locs w_79 hP hD hK1 hS => ?_)
                      have hP : va_P D vwCl [(h, .inr (3, [.ref t, .ref v, .int n])), (v, .inl (kv, 18, .inl (fun _ => 0)))] H := hP
                      have hD : va_D A [(h, .inr (3, [.ref t, .ref v, .int n])), (v, .inl (kv, 18, .inl (fun _ => 0)))] := hD
                      have w_79 : r_77 = 0 := w_79
                      subst w_79
                      refine lv_iadd hx hb dX3_transitions_22 ?_
                      refine lv_topi (fun x_80 ex_80 => ?_)
                      obtain rfl : x_80 = 0 := ex_80.trans (by decide)
                      refine lv_istore_n (lv' := [(1, .int 0), (2, .int 9), (0, .ref h)]) hx hb dX3_transitions_23 rfl hl (by decide) rfl (fun ls hl => ?_)
                      refine lv_iinc (v := 10) (lv' := [(2, .int 10), (1, .int 0), (0, .ref h)]) hx hb dX3_transitions_24 hl (k := 1) rfl (by decide) (by decide) rfl (fun ls hl => ?_)
                      refine lv_goto (tgt := 4) hx hb dX3_transitions_27 (by decide) ?_
                      refine lv_iload_n hx hb dX3_transitions_4 rfl (lv_at hl 0 rfl) ?_
                      refine lv_bipush (v := 18) hx hb dX3_transitions_5 (by decide) ?_
                      refine lv_icmp_ge (tgt := 30) hx hb dX3_transitions_7 (by decide) (fun c_81 => ?_) (fun c_81 => ?_)
                      · exact absurd c_81 (by decide)
                      · refine lv_iload_n hx hb dX3_transitions_10 rfl (lv_at hl 1 rfl) ?_
                        refine lv_aload_n hx hb dX3_transitions_11 rfl (lv_at hl 2 rfl) ?_
                        refine va_get (D := D) (ci := 3) (v := .ref v) (C := RX3) (T := TX3) (N := 3) hx hb hts hiX3 hown hK hP 0 rfl rfl 1 (by decide) (hts (.fieldLink RX3 15 "DynamicLogicProver$Model" "moves" "[I") (mo_X3_transitions0 0 rfl)) (fun _ h9 => h9) rfl dX3_transitions_12 ?_
                        refine lv_iload_n hx hb dX3_transitions_15 rfl (lv_at hl 0 rfl) ?_
                        refine kc_Ni (As := [.ref v, .int 10]) (rest := [.int 0]) (wr := [(h, .inr (3, [.ref t, .ref v, .int n]))]) ⟨hx, hb, hml, hown, hts⟩ (ct_X11_at l D v kv 18 (fun _ => 0) 10 _ (by decide)) ⟨va_cnB 2 hts (goodIn_sub mb_X3_transitions0_0 gw_X11_at) rfl rfl rfl (hN (RX3, 34, yX11_at) (List.mem_of_getElem? (i := 13) rfl)) (hts (.initialized RX11) (mo_X3_transitions0 1 rfl)) hd_X11_at ⟨Nat.le_of_ble_eq_true rfl, Nat.le_of_ble_eq_true rfl⟩, (hts (.static yX11_at) (mo_X3_transitions0 2 rfl)), trivial⟩ hK hN hP hD hS hA [1] [0] [0] rfl rfl (by decide) (by decide) (by decide) rfl rfl hl.1 rfl (Nat.le_of_ble_eq_true rfl) dX3_transitions_16 ⟨Nat.le_of_ble_eq_true rfl, Nat.le_of_ble_eq_true rfl⟩ (fun r_82 u_83 H locs w_84 hP hD hK1 hS => ?_)
                        have hP : va_P D vwCl [(h, .inr (3, [.ref t, .ref v, .int n])), (v, .inl (kv, 18, .inl (fun _ => 0)))] H := hP
                        have hD : va_D A [(h, .inr (3, [.ref t, .ref v, .int n])), (v, .inl (kv, 18, .inl (fun _ => 0)))] := hD
                        have w_84 : r_82 = at_v (fun _ => 0) 18 10 := w_84
                        obtain rfl : r_82 = 0 := w_84.trans (at_v0 _ _)
                        refine kc_Si (As := [.int 0]) (rest := [.int 0]) (wr := [(h, .inr (3, [.ref t, .ref v, .int n])), (v, .inl (kv, 18, .inl (fun _ => 0)))]) ⟨hx, hb, hml, hown, hts⟩ (ct_bitCount0 l D  _ ) (va_cwS 1 hts (kg_S (mo_X3_transitions0 3 rfl) (mo_X3_transitions0 4 rfl) (mo_X3_transitions0 5 rfl) (goodIn_sub mb_X3_transitions0_1 gw_bitCount0)) rfl rfl rfl hd_J6_bitCount_0f7a4 ⟨Nat.le_of_ble_eq_true rfl, Nat.le_of_ble_eq_true rfl⟩) hK hN hP hD hS hA [] [0, 1] [] rfl rfl (by decide) (by decide) (by decide) rfl rfl hl.1 rfl (Nat.le_of_ble_eq_true rfl) dX3_transitions_19 ⟨Nat.le_of_ble_eq_true rfl, Nat.le_of_ble_eq_true rfl⟩ (fun r_85 u_86 H locs w_87 hP hD hK1 hS => ?_)
                        have hP : va_P D vwCl [(h, .inr (3, [.ref t, .ref v, .int n])), (v, .inl (kv, 18, .inl (fun _ => 0)))] H := hP
                        have hD : va_D A [(h, .inr (3, [.ref t, .ref v, .int n])), (v, .inl (kv, 18, .inl (fun _ => 0)))] := hD
                        have w_87 : r_85 = 0 := w_87
                        subst w_87
                        refine lv_iadd hx hb dX3_transitions_22 ?_
                        refine lv_topi (fun x_88 ex_88 => ?_)
                        obtain rfl : x_88 = 0 := ex_88.trans (by decide)
                        refine lv_istore_n (lv' := [(1, .int 0), (2, .int 10), (0, .ref h)]) hx hb dX3_transitions_23 rfl hl (by decide) rfl (fun ls hl => ?_)
                        refine lv_iinc (v := 11) (lv' := [(2, .int 11), (1, .int 0), (0, .ref h)]) hx hb dX3_transitions_24 hl (k := 1) rfl (by decide) (by decide) rfl (fun ls hl => ?_)
                        refine lv_goto (tgt := 4) hx hb dX3_transitions_27 (by decide) ?_
                        refine lv_iload_n hx hb dX3_transitions_4 rfl (lv_at hl 0 rfl) ?_
                        refine lv_bipush (v := 18) hx hb dX3_transitions_5 (by decide) ?_
                        refine lv_icmp_ge (tgt := 30) hx hb dX3_transitions_7 (by decide) (fun c_89 => ?_) (fun c_89 => ?_)
                        · exact absurd c_89 (by decide)
                        · refine lv_iload_n hx hb dX3_transitions_10 rfl (lv_at hl 1 rfl) ?_
                          refine lv_aload_n hx hb dX3_transitions_11 rfl (lv_at hl 2 rfl) ?_
                          refine va_get (D := D) (ci := 3) (v := .ref v) (C := RX3) (T := TX3) (N := 3) hx hb hts hiX3 hown hK hP 0 rfl rfl 1 (by decide) (hts (.fieldLink RX3 15 "DynamicLogicProver$Model" "moves" "[I") (mo_X3_transitions0 0 rfl)) (fun _ h9 => h9) rfl dX3_transitions_12 ?_
                          refine lv_iload_n hx hb dX3_transitions_15 rfl (lv_at hl 0 rfl) ?_
                          refine kc_Ni (As := [.ref v, .int 11]) (rest := [.int 0]) (wr := [(h, .inr (3, [.ref t, .ref v, .int n]))]) ⟨hx, hb, hml, hown, hts⟩ (ct_X11_at l D v kv 18 (fun _ => 0) 11 _ (by decide)) ⟨va_cnB 2 hts (goodIn_sub mb_X3_transitions0_0 gw_X11_at) rfl rfl rfl (hN (RX3, 34, yX11_at) (List.mem_of_getElem? (i := 13) rfl)) (hts (.initialized RX11) (mo_X3_transitions0 1 rfl)) hd_X11_at ⟨Nat.le_of_ble_eq_true rfl, Nat.le_of_ble_eq_true rfl⟩, (hts (.static yX11_at) (mo_X3_transitions0 2 rfl)), trivial⟩ hK hN hP hD hS hA [1] [0] [0] rfl rfl (by decide) (by decide) (by decide) rfl rfl hl.1 rfl (Nat.le_of_ble_eq_true rfl) dX3_transitions_16 ⟨Nat.le_of_ble_eq_true rfl, Nat.le_of_ble_eq_true rfl⟩ (fun r_90 u_91 H locs w_92 hP hD hK1 hS => ?_)
                          have hP : va_P D vwCl [(h, .inr (3, [.ref t, .ref v, .int n])), (v, .inl (kv, 18, .inl (fun _ => 0)))] H := hP
                          have hD : va_D A [(h, .inr (3, [.ref t, .ref v, .int n])), (v, .inl (kv, 18, .inl (fun _ => 0)))] := hD
                          have w_92 : r_90 = at_v (fun _ => 0) 18 11 := w_92
                          obtain rfl : r_90 = 0 := w_92.trans (at_v0 _ _)
                          refine kc_Si (As := [.int 0]) (rest := [.int 0]) (wr := [(h, .inr (3, [.ref t, .ref v, .int n])), (v, .inl (kv, 18, .inl (fun _ => 0)))]) ⟨hx, hb, hml, hown, hts⟩ (ct_bitCount0 l D  _ ) (va_cwS 1 hts (kg_S (mo_X3_transitions0 3 rfl) (mo_X3_transitions0 4 rfl) (mo_X3_transitions0 5 rfl) (goodIn_sub mb_X3_transitions0_1 gw_bitCount0)) rfl rfl rfl hd_J6_bitCount_0f7a4 ⟨Nat.le_of_ble_eq_true rfl, Nat.le_of_ble_eq_true rfl⟩) hK hN hP hD hS hA [] [0, 1] [] rfl rfl (by decide) (by decide) (by decide) rfl rfl hl.1 rfl (Nat.le_of_ble_eq_true rfl) dX3_transitions_19 ⟨Nat.le_of_ble_eq_true rfl, Nat.le_of_ble_eq_true rfl⟩ (fun r_93 u_94 H locs w_95 hP hD hK1 hS => ?_)
                          have hP : va_P D vwCl [(h, .inr (3, [.ref t, .ref v, .int n])), (v, .inl (kv, 18, .inl (fun _ => 0)))] H := hP
                          have hD : va_D A [(h, .inr (3, [.ref t, .ref v, .int n])), (v, .inl (kv, 18, .inl (fun _ => 0)))] := hD
                          have w_95 : r_93 = 0 := w_95
                          subst w_95
                          refine lv_iadd hx hb dX3_transitions_22 ?_
                          refine lv_topi (fun x_96 ex_96 => ?_)
                          obtain rfl : x_96 = 0 := ex_96.trans (by decide)
                          refine lv_istore_n (lv' := [(1, .int 0), (2, .int 11), (0, .ref h)]) hx hb dX3_transitions_23 rfl hl (by decide) rfl (fun ls hl => ?_)
                          refine lv_iinc (v := 12) (lv' := [(2, .int 12), (1, .int 0), (0, .ref h)]) hx hb dX3_transitions_24 hl (k := 1) rfl (by decide) (by decide) rfl (fun ls hl => ?_)
                          refine lv_goto (tgt := 4) hx hb dX3_transitions_27 (by decide) ?_
                          refine lv_iload_n hx hb dX3_transitions_4 rfl (lv_at hl 0 rfl) ?_
                          refine lv_bipush (v := 18) hx hb dX3_transitions_5 (by decide) ?_
                          refine lv_icmp_ge (tgt := 30) hx hb dX3_transitions_7 (by decide) (fun c_97 => ?_) (fun c_97 => ?_)
                          · exact absurd c_97 (by decide)
                          · refine lv_iload_n hx hb dX3_transitions_10 rfl (lv_at hl 1 rfl) ?_
                            refine lv_aload_n hx hb dX3_transitions_11 rfl (lv_at hl 2 rfl) ?_
                            refine va_get (D := D) (ci := 3) (v := .ref v) (C := RX3) (T := TX3) (N := 3) hx hb hts hiX3 hown hK hP 0 rfl rfl 1 (by decide) (hts (.fieldLink RX3 15 "DynamicLogicProver$Model" "moves" "[I") (mo_X3_transitions0 0 rfl)) (fun _ h9 => h9) rfl dX3_transitions_12 ?_
                            refine lv_iload_n hx hb dX3_transitions_15 rfl (lv_at hl 0 rfl) ?_
                            refine kc_Ni (As := [.ref v, .int 12]) (rest := [.int 0]) (wr := [(h, .inr (3, [.ref t, .ref v, .int n]))]) ⟨hx, hb, hml, hown, hts⟩ (ct_X11_at l D v kv 18 (fun _ => 0) 12 _ (by decide)) ⟨va_cnB 2 hts (goodIn_sub mb_X3_transitions0_0 gw_X11_at) rfl rfl rfl (hN (RX3, 34, yX11_at) (List.mem_of_getElem? (i := 13) rfl)) (hts (.initialized RX11) (mo_X3_transitions0 1 rfl)) hd_X11_at ⟨Nat.le_of_ble_eq_true rfl, Nat.le_of_ble_eq_true rfl⟩, (hts (.static yX11_at) (mo_X3_transitions0 2 rfl)), trivial⟩ hK hN hP hD hS hA [1] [0] [0] rfl rfl (by decide) (by decide) (by decide) rfl rfl hl.1 rfl (Nat.le_of_ble_eq_true rfl) dX3_transitions_16 ⟨Nat.le_of_ble_eq_true rfl, Nat.le_of_ble_eq_true rfl⟩ (fun r_98 u_99 H locs w_100 hP hD hK1 hS => ?_)
                            have hP : va_P D vwCl [(h, .inr (3, [.ref t, .ref v, .int n])), (v, .inl (kv, 18, .inl (fun _ => 0)))] H := hP
                            have hD : va_D A [(h, .inr (3, [.ref t, .ref v, .int n])), (v, .inl (kv, 18, .inl (fun _ => 0)))] := hD
                            have w_100 : r_98 = at_v (fun _ => 0) 18 12 := w_100
                            obtain rfl : r_98 = 0 := w_100.trans (at_v0 _ _)
                            refine kc_Si (As := [.int 0]) (rest := [.int 0]) (wr := [(h, .inr (3, [.ref t, .ref v, .int n])), (v, .inl (kv, 18, .inl (fun _ => 0)))]) ⟨hx, hb, hml, hown, hts⟩ (ct_bitCount0 l D  _ ) (va_cwS 1 hts (kg_S (mo_X3_transitions0 3 rfl) (mo_X3_transitions0 4 rfl) (mo_X3_transitions0 5 rfl) (goodIn_sub mb_X3_transitions0_1 gw_bitCount0)) rfl rfl rfl hd_J6_bitCount_0f7a4 ⟨Nat.le_of_ble_eq_true rfl, Nat.le_of_ble_eq_true rfl⟩) hK hN hP hD hS hA [] [0, 1] [] rfl rfl (by decide) (by decide) (by decide) rfl rfl hl.1 rfl (Nat.le_of_ble_eq_true rfl) dX3_transitions_19 ⟨Nat.le_of_ble_eq_true rfl, Nat.le_of_ble_eq_true rfl⟩ (fun r_101 u_102 H locs w_103 hP hD hK1 hS => ?_)
                            have hP : va_P D vwCl [(h, .inr (3, [.ref t, .ref v, .int n])), (v, .inl (kv, 18, .inl (fun _ => 0)))] H := hP
                            have hD : va_D A [(h, .inr (3, [.ref t, .ref v, .int n])), (v, .inl (kv, 18, .inl (fun _ => 0)))] := hD
                            have w_103 : r_101 = 0 := w_103
                            subst w_103
                            refine lv_iadd hx hb dX3_transitions_22 ?_
                            refine lv_topi (fun x_104 ex_104 => ?_)
                            obtain rfl : x_104 = 0 := ex_104.trans (by decide)
                            refine lv_istore_n (lv' := [(1, .int 0), (2, .int 12), (0, .ref h)]) hx hb dX3_transitions_23 rfl hl (by decide) rfl (fun ls hl => ?_)
                            refine lv_iinc (v := 13) (lv' := [(2, .int 13), (1, .int 0), (0, .ref h)]) hx hb dX3_transitions_24 hl (k := 1) rfl (by decide) (by decide) rfl (fun ls hl => ?_)
                            refine lv_goto (tgt := 4) hx hb dX3_transitions_27 (by decide) ?_
                            refine lv_iload_n hx hb dX3_transitions_4 rfl (lv_at hl 0 rfl) ?_
                            refine lv_bipush (v := 18) hx hb dX3_transitions_5 (by decide) ?_
                            refine lv_icmp_ge (tgt := 30) hx hb dX3_transitions_7 (by decide) (fun c_105 => ?_) (fun c_105 => ?_)
                            · exact absurd c_105 (by decide)
                            · refine lv_iload_n hx hb dX3_transitions_10 rfl (lv_at hl 1 rfl) ?_
                              refine lv_aload_n hx hb dX3_transitions_11 rfl (lv_at hl 2 rfl) ?_
                              refine va_get (D := D) (ci := 3) (v := .ref v) (C := RX3) (T := TX3) (N := 3) hx hb hts hiX3 hown hK hP 0 rfl rfl 1 (by decide) (hts (.fieldLink RX3 15 "DynamicLogicProver$Model" "moves" "[I") (mo_X3_transitions0 0 rfl)) (fun _ h9 => h9) rfl dX3_transitions_12 ?_
                              refine lv_iload_n hx hb dX3_transitions_15 rfl (lv_at hl 0 rfl) ?_
                              refine kc_Ni (As := [.ref v, .int 13]) (rest := [.int 0]) (wr := [(h, .inr (3, [.ref t, .ref v, .int n]))]) ⟨hx, hb, hml, hown, hts⟩ (ct_X11_at l D v kv 18 (fun _ => 0) 13 _ (by decide)) ⟨va_cnB 2 hts (goodIn_sub mb_X3_transitions0_0 gw_X11_at) rfl rfl rfl (hN (RX3, 34, yX11_at) (List.mem_of_getElem? (i := 13) rfl)) (hts (.initialized RX11) (mo_X3_transitions0 1 rfl)) hd_X11_at ⟨Nat.le_of_ble_eq_true rfl, Nat.le_of_ble_eq_true rfl⟩, (hts (.static yX11_at) (mo_X3_transitions0 2 rfl)), trivial⟩ hK hN hP hD hS hA [1] [0] [0] rfl rfl (by decide) (by decide) (by decide) rfl rfl hl.1 rfl (Nat.le_of_ble_eq_true rfl) dX3_transitions_16 ⟨Nat.le_of_ble_eq_true rfl, Nat.le_of_ble_eq_true rfl⟩ (fun r_106 u_107 H locs w_108 hP hD hK1 hS => ?_)
                              have hP : va_P D vwCl [(h, .inr (3, [.ref t, .ref v, .int n])), (v, .inl (kv, 18, .inl (fun _ => 0)))] H := hP
                              have hD : va_D A [(h, .inr (3, [.ref t, .ref v, .int n])), (v, .inl (kv, 18, .inl (fun _ => 0)))] := hD
                              have w_108 : r_106 = at_v (fun _ => 0) 18 13 := w_108
                              obtain rfl : r_106 = 0 := w_108.trans (at_v0 _ _)
                              refine kc_Si (As := [.int 0]) (rest := [.int 0]) (wr := [(h, .inr (3, [.ref t, .ref v, .int n])), (v, .inl (kv, 18, .inl (fun _ => 0)))]) ⟨hx, hb, hml, hown, hts⟩ (ct_bitCount0 l D  _ ) (va_cwS 1 hts (kg_S (mo_X3_transitions0 3 rfl) (mo_X3_transitions0 4 rfl) (mo_X3_transitions0 5 rfl) (goodIn_sub mb_X3_transitions0_1 gw_bitCount0)) rfl rfl rfl hd_J6_bitCount_0f7a4 ⟨Nat.le_of_ble_eq_true rfl, Nat.le_of_ble_eq_true rfl⟩) hK hN hP hD hS hA [] [0, 1] [] rfl rfl (by decide) (by decide) (by decide) rfl rfl hl.1 rfl (Nat.le_of_ble_eq_true rfl) dX3_transitions_19 ⟨Nat.le_of_ble_eq_true rfl, Nat.le_of_ble_eq_true rfl⟩ (fun r_109 u_110 H locs w_111 hP hD hK1 hS => ?_)
                              have hP : va_P D vwCl [(h, .inr (3, [.ref t, .ref v, .int n])), (v, .inl (kv, 18, .inl (fun _ => 0)))] H := hP
                              have hD : va_D A [(h, .inr (3, [.ref t, .ref v, .int n])), (v, .inl (kv, 18, .inl (fun _ => 0)))] := hD
                              have w_111 : r_109 = 0 := w_111
                              subst w_111
                              refine lv_iadd hx hb dX3_transitions_22 ?_
                              refine lv_topi (fun x_112 ex_112 => ?_)
                              obtain rfl : x_112 = 0 := ex_112.trans (by decide)
                              refine lv_istore_n (lv' := [(1, .int 0), (2, .int 13), (0, .ref h)]) hx hb dX3_transitions_23 rfl hl (by decide) rfl (fun ls hl => ?_)
                              refine lv_iinc (v := 14) (lv' := [(2, .int 14), (1, .int 0), (0, .ref h)]) hx hb dX3_transitions_24 hl (k := 1) rfl (by decide) (by decide) rfl (fun ls hl => ?_)
                              refine lv_goto (tgt := 4) hx hb dX3_transitions_27 (by decide) ?_
                              refine lv_iload_n hx hb dX3_transitions_4 rfl (lv_at hl 0 rfl) ?_
                              refine lv_bipush (v := 18) hx hb dX3_transitions_5 (by decide) ?_
                              refine lv_icmp_ge (tgt := 30) hx hb dX3_transitions_7 (by decide) (fun c_113 => ?_) (fun c_113 => ?_)
                              · exact absurd c_113 (by decide)
                              · refine lv_iload_n hx hb dX3_transitions_10 rfl (lv_at hl 1 rfl) ?_
                                refine lv_aload_n hx hb dX3_transitions_11 rfl (lv_at hl 2 rfl) ?_
                                refine va_get (D := D) (ci := 3) (v := .ref v) (C := RX3) (T := TX3) (N := 3) hx hb hts hiX3 hown hK hP 0 rfl rfl 1 (by decide) (hts (.fieldLink RX3 15 "DynamicLogicProver$Model" "moves" "[I") (mo_X3_transitions0 0 rfl)) (fun _ h9 => h9) rfl dX3_transitions_12 ?_
                                refine lv_iload_n hx hb dX3_transitions_15 rfl (lv_at hl 0 rfl) ?_
                                refine kc_Ni (As := [.ref v, .int 14]) (rest := [.int 0]) (wr := [(h, .inr (3, [.ref t, .ref v, .int n]))]) ⟨hx, hb, hml, hown, hts⟩ (ct_X11_at l D v kv 18 (fun _ => 0) 14 _ (by decide)) ⟨va_cnB 2 hts (goodIn_sub mb_X3_transitions0_0 gw_X11_at) rfl rfl rfl (hN (RX3, 34, yX11_at) (List.mem_of_getElem? (i := 13) rfl)) (hts (.initialized RX11) (mo_X3_transitions0 1 rfl)) hd_X11_at ⟨Nat.le_of_ble_eq_true rfl, Nat.le_of_ble_eq_true rfl⟩, (hts (.static yX11_at) (mo_X3_transitions0 2 rfl)), trivial⟩ hK hN hP hD hS hA [1] [0] [0] rfl rfl (by decide) (by decide) (by decide) rfl rfl hl.1 rfl (Nat.le_of_ble_eq_true rfl) dX3_transitions_16 ⟨Nat.le_of_ble_eq_true rfl, Nat.le_of_ble_eq_true rfl⟩ (fun r_114 u_115 H locs w_116 hP hD hK1 hS => ?_)
                                have hP : va_P D vwCl [(h, .inr (3, [.ref t, .ref v, .int n])), (v, .inl (kv, 18, .inl (fun _ => 0)))] H := hP
                                have hD : va_D A [(h, .inr (3, [.ref t, .ref v, .int n])), (v, .inl (kv, 18, .inl (fun _ => 0)))] := hD
                                have w_116 : r_114 = at_v (fun _ => 0) 18 14 := w_116
                                obtain rfl : r_114 = 0 := w_116.trans (at_v0 _ _)
                                refine kc_Si (As := [.int 0]) (rest := [.int 0]) (wr := [(h, .inr (3, [.ref t, .ref v, .int n])), (v, .inl (kv, 18, .inl (fun _ => 0)))]) ⟨hx, hb, hml, hown, hts⟩ (ct_bitCount0 l D  _ ) (va_cwS 1 hts (kg_S (mo_X3_transitions0 3 rfl) (mo_X3_transitions0 4 rfl) (mo_X3_transitions0 5 rfl) (goodIn_sub mb_X3_transitions0_1 gw_bitCount0)) rfl rfl rfl hd_J6_bitCount_0f7a4 ⟨Nat.le_of_ble_eq_true rfl, Nat.le_of_ble_eq_true rfl⟩) hK hN hP hD hS hA [] [0, 1] [] rfl rfl (by decide) (by decide) (by decide) rfl rfl hl.1 rfl (Nat.le_of_ble_eq_true rfl) dX3_transitions_19 ⟨Nat.le_of_ble_eq_true rfl, Nat.le_of_ble_eq_true rfl⟩ (fun r_117 u_118 H locs w_119 hP hD hK1 hS => ?_)
                                have hP : va_P D vwCl [(h, .inr (3, [.ref t, .ref v, .int n])), (v, .inl (kv, 18, .inl (fun _ => 0)))] H := hP
                                have hD : va_D A [(h, .inr (3, [.ref t, .ref v, .int n])), (v, .inl (kv, 18, .inl (fun _ => 0)))] := hD
                                have w_119 : r_117 = 0 := w_119
                                subst w_119
                                refine lv_iadd hx hb dX3_transitions_22 ?_
                                refine lv_topi (fun x_120 ex_120 => ?_)
                                obtain rfl : x_120 = 0 := ex_120.trans (by decide)
                                refine lv_istore_n (lv' := [(1, .int 0), (2, .int 14), (0, .ref h)]) hx hb dX3_transitions_23 rfl hl (by decide) rfl (fun ls hl => ?_)
                                refine lv_iinc (v := 15) (lv' := [(2, .int 15), (1, .int 0), (0, .ref h)]) hx hb dX3_transitions_24 hl (k := 1) rfl (by decide) (by decide) rfl (fun ls hl => ?_)
                                refine lv_goto (tgt := 4) hx hb dX3_transitions_27 (by decide) ?_
                                refine lv_iload_n hx hb dX3_transitions_4 rfl (lv_at hl 0 rfl) ?_
                                refine lv_bipush (v := 18) hx hb dX3_transitions_5 (by decide) ?_
                                refine lv_icmp_ge (tgt := 30) hx hb dX3_transitions_7 (by decide) (fun c_121 => ?_) (fun c_121 => ?_)
                                · exact absurd c_121 (by decide)
                                · refine lv_iload_n hx hb dX3_transitions_10 rfl (lv_at hl 1 rfl) ?_
                                  refine lv_aload_n hx hb dX3_transitions_11 rfl (lv_at hl 2 rfl) ?_
                                  refine va_get (D := D) (ci := 3) (v := .ref v) (C := RX3) (T := TX3) (N := 3) hx hb hts hiX3 hown hK hP 0 rfl rfl 1 (by decide) (hts (.fieldLink RX3 15 "DynamicLogicProver$Model" "moves" "[I") (mo_X3_transitions0 0 rfl)) (fun _ h9 => h9) rfl dX3_transitions_12 ?_
                                  refine lv_iload_n hx hb dX3_transitions_15 rfl (lv_at hl 0 rfl) ?_
                                  refine kc_Ni (As := [.ref v, .int 15]) (rest := [.int 0]) (wr := [(h, .inr (3, [.ref t, .ref v, .int n]))]) ⟨hx, hb, hml, hown, hts⟩ (ct_X11_at l D v kv 18 (fun _ => 0) 15 _ (by decide)) ⟨va_cnB 2 hts (goodIn_sub mb_X3_transitions0_0 gw_X11_at) rfl rfl rfl (hN (RX3, 34, yX11_at) (List.mem_of_getElem? (i := 13) rfl)) (hts (.initialized RX11) (mo_X3_transitions0 1 rfl)) hd_X11_at ⟨Nat.le_of_ble_eq_true rfl, Nat.le_of_ble_eq_true rfl⟩, (hts (.static yX11_at) (mo_X3_transitions0 2 rfl)), trivial⟩ hK hN hP hD hS hA [1] [0] [0] rfl rfl (by decide) (by decide) (by decide) rfl rfl hl.1 rfl (Nat.le_of_ble_eq_true rfl) dX3_transitions_16 ⟨Nat.le_of_ble_eq_true rfl, Nat.le_of_ble_eq_true rfl⟩ (fun r_122 u_123 H locs w_124 hP hD hK1 hS => ?_)
                                  have hP : va_P D vwCl [(h, .inr (3, [.ref t, .ref v, .int n])), (v, .inl (kv, 18, .inl (fun _ => 0)))] H := hP
                                  have hD : va_D A [(h, .inr (3, [.ref t, .ref v, .int n])), (v, .inl (kv, 18, .inl (fun _ => 0)))] := hD
                                  have w_124 : r_122 = at_v (fun _ => 0) 18 15 := w_124
                                  obtain rfl : r_122 = 0 := w_124.trans (at_v0 _ _)
                                  refine kc_Si (As := [.int 0]) (rest := [.int 0]) (wr := [(h, .inr (3, [.ref t, .ref v, .int n])), (v, .inl (kv, 18, .inl (fun _ => 0)))]) ⟨hx, hb, hml, hown, hts⟩ (ct_bitCount0 l D  _ ) (va_cwS 1 hts (kg_S (mo_X3_transitions0 3 rfl) (mo_X3_transitions0 4 rfl) (mo_X3_transitions0 5 rfl) (goodIn_sub mb_X3_transitions0_1 gw_bitCount0)) rfl rfl rfl hd_J6_bitCount_0f7a4 ⟨Nat.le_of_ble_eq_true rfl, Nat.le_of_ble_eq_true rfl⟩) hK hN hP hD hS hA [] [0, 1] [] rfl rfl (by decide) (by decide) (by decide) rfl rfl hl.1 rfl (Nat.le_of_ble_eq_true rfl) dX3_transitions_19 ⟨Nat.le_of_ble_eq_true rfl, Nat.le_of_ble_eq_true rfl⟩ (fun r_125 u_126 H locs w_127 hP hD hK1 hS => ?_)
                                  have hP : va_P D vwCl [(h, .inr (3, [.ref t, .ref v, .int n])), (v, .inl (kv, 18, .inl (fun _ => 0)))] H := hP
                                  have hD : va_D A [(h, .inr (3, [.ref t, .ref v, .int n])), (v, .inl (kv, 18, .inl (fun _ => 0)))] := hD
                                  have w_127 : r_125 = 0 := w_127
                                  subst w_127
                                  refine lv_iadd hx hb dX3_transitions_22 ?_
                                  refine lv_topi (fun x_128 ex_128 => ?_)
                                  obtain rfl : x_128 = 0 := ex_128.trans (by decide)
                                  refine lv_istore_n (lv' := [(1, .int 0), (2, .int 15), (0, .ref h)]) hx hb dX3_transitions_23 rfl hl (by decide) rfl (fun ls hl => ?_)
                                  refine lv_iinc (v := 16) (lv' := [(2, .int 16), (1, .int 0), (0, .ref h)]) hx hb dX3_transitions_24 hl (k := 1) rfl (by decide) (by decide) rfl (fun ls hl => ?_)
                                  refine lv_goto (tgt := 4) hx hb dX3_transitions_27 (by decide) ?_
                                  refine lv_iload_n hx hb dX3_transitions_4 rfl (lv_at hl 0 rfl) ?_
                                  refine lv_bipush (v := 18) hx hb dX3_transitions_5 (by decide) ?_
                                  refine lv_icmp_ge (tgt := 30) hx hb dX3_transitions_7 (by decide) (fun c_129 => ?_) (fun c_129 => ?_)
                                  · exact absurd c_129 (by decide)
                                  · refine lv_iload_n hx hb dX3_transitions_10 rfl (lv_at hl 1 rfl) ?_
                                    refine lv_aload_n hx hb dX3_transitions_11 rfl (lv_at hl 2 rfl) ?_
                                    refine va_get (D := D) (ci := 3) (v := .ref v) (C := RX3) (T := TX3) (N := 3) hx hb hts hiX3 hown hK hP 0 rfl rfl 1 (by decide) (hts (.fieldLink RX3 15 "DynamicLogicProver$Model" "moves" "[I") (mo_X3_transitions0 0 rfl)) (fun _ h9 => h9) rfl dX3_transitions_12 ?_
                                    refine lv_iload_n hx hb dX3_transitions_15 rfl (lv_at hl 0 rfl) ?_
                                    refine kc_Ni (As := [.ref v, .int 16]) (rest := [.int 0]) (wr := [(h, .inr (3, [.ref t, .ref v, .int n]))]) ⟨hx, hb, hml, hown, hts⟩ (ct_X11_at l D v kv 18 (fun _ => 0) 16 _ (by decide)) ⟨va_cnB 2 hts (goodIn_sub mb_X3_transitions0_0 gw_X11_at) rfl rfl rfl (hN (RX3, 34, yX11_at) (List.mem_of_getElem? (i := 13) rfl)) (hts (.initialized RX11) (mo_X3_transitions0 1 rfl)) hd_X11_at ⟨Nat.le_of_ble_eq_true rfl, Nat.le_of_ble_eq_true rfl⟩, (hts (.static yX11_at) (mo_X3_transitions0 2 rfl)), trivial⟩ hK hN hP hD hS hA [1] [0] [0] rfl rfl (by decide) (by decide) (by decide) rfl rfl hl.1 rfl (Nat.le_of_ble_eq_true rfl) dX3_transitions_16 ⟨Nat.le_of_ble_eq_true rfl, Nat.le_of_ble_eq_true rfl⟩ (fun r_130 u_131 H locs w_132 hP hD hK1 hS => ?_)
                                    have hP : va_P D vwCl [(h, .inr (3, [.ref t, .ref v, .int n])), (v, .inl (kv, 18, .inl (fun _ => 0)))] H := hP
                                    have hD : va_D A [(h, .inr (3, [.ref t, .ref v, .int n])), (v, .inl (kv, 18, .inl (fun _ => 0)))] := hD
                                    have w_132 : r_130 = at_v (fun _ => 0) 18 16 := w_132
                                    obtain rfl : r_130 = 0 := w_132.trans (at_v0 _ _)
                                    refine kc_Si (As := [.int 0]) (rest := [.int 0]) (wr := [(h, .inr (3, [.ref t, .ref v, .int n])), (v, .inl (kv, 18, .inl (fun _ => 0)))]) ⟨hx, hb, hml, hown, hts⟩ (ct_bitCount0 l D  _ ) (va_cwS 1 hts (kg_S (mo_X3_transitions0 3 rfl) (mo_X3_transitions0 4 rfl) (mo_X3_transitions0 5 rfl) (goodIn_sub mb_X3_transitions0_1 gw_bitCount0)) rfl rfl rfl hd_J6_bitCount_0f7a4 ⟨Nat.le_of_ble_eq_true rfl, Nat.le_of_ble_eq_true rfl⟩) hK hN hP hD hS hA [] [0, 1] [] rfl rfl (by decide) (by decide) (by decide) rfl rfl hl.1 rfl (Nat.le_of_ble_eq_true rfl) dX3_transitions_19 ⟨Nat.le_of_ble_eq_true rfl, Nat.le_of_ble_eq_true rfl⟩ (fun r_133 u_134 H locs w_135 hP hD hK1 hS => ?_)
                                    have hP : va_P D vwCl [(h, .inr (3, [.ref t, .ref v, .int n])), (v, .inl (kv, 18, .inl (fun _ => 0)))] H := hP
                                    have hD : va_D A [(h, .inr (3, [.ref t, .ref v, .int n])), (v, .inl (kv, 18, .inl (fun _ => 0)))] := hD
                                    have w_135 : r_133 = 0 := w_135
                                    subst w_135
                                    refine lv_iadd hx hb dX3_transitions_22 ?_
                                    refine lv_topi (fun x_136 ex_136 => ?_)
                                    obtain rfl : x_136 = 0 := ex_136.trans (by decide)
                                    refine lv_istore_n (lv' := [(1, .int 0), (2, .int 16), (0, .ref h)]) hx hb dX3_transitions_23 rfl hl (by decide) rfl (fun ls hl => ?_)
                                    refine lv_iinc (v := 17) (lv' := [(2, .int 17), (1, .int 0), (0, .ref h)]) hx hb dX3_transitions_24 hl (k := 1) rfl (by decide) (by decide) rfl (fun ls hl => ?_)
                                    refine lv_goto (tgt := 4) hx hb dX3_transitions_27 (by decide) ?_
                                    refine lv_iload_n hx hb dX3_transitions_4 rfl (lv_at hl 0 rfl) ?_
                                    refine lv_bipush (v := 18) hx hb dX3_transitions_5 (by decide) ?_
                                    refine lv_icmp_ge (tgt := 30) hx hb dX3_transitions_7 (by decide) (fun c_137 => ?_) (fun c_137 => ?_)
                                    · exact absurd c_137 (by decide)
                                    · refine lv_iload_n hx hb dX3_transitions_10 rfl (lv_at hl 1 rfl) ?_
                                      refine lv_aload_n hx hb dX3_transitions_11 rfl (lv_at hl 2 rfl) ?_
                                      refine va_get (D := D) (ci := 3) (v := .ref v) (C := RX3) (T := TX3) (N := 3) hx hb hts hiX3 hown hK hP 0 rfl rfl 1 (by decide) (hts (.fieldLink RX3 15 "DynamicLogicProver$Model" "moves" "[I") (mo_X3_transitions0 0 rfl)) (fun _ h9 => h9) rfl dX3_transitions_12 ?_
                                      refine lv_iload_n hx hb dX3_transitions_15 rfl (lv_at hl 0 rfl) ?_
                                      refine kc_Ni (As := [.ref v, .int 17]) (rest := [.int 0]) (wr := [(h, .inr (3, [.ref t, .ref v, .int n]))]) ⟨hx, hb, hml, hown, hts⟩ (ct_X11_at l D v kv 18 (fun _ => 0) 17 _ (by decide)) ⟨va_cnB 2 hts (goodIn_sub mb_X3_transitions0_0 gw_X11_at) rfl rfl rfl (hN (RX3, 34, yX11_at) (List.mem_of_getElem? (i := 13) rfl)) (hts (.initialized RX11) (mo_X3_transitions0 1 rfl)) hd_X11_at ⟨Nat.le_of_ble_eq_true rfl, Nat.le_of_ble_eq_true rfl⟩, (hts (.static yX11_at) (mo_X3_transitions0 2 rfl)), trivial⟩ hK hN hP hD hS hA [1] [0] [0] rfl rfl (by decide) (by decide) (by decide) rfl rfl hl.1 rfl (Nat.le_of_ble_eq_true rfl) dX3_transitions_16 ⟨Nat.le_of_ble_eq_true rfl, Nat.le_of_ble_eq_true rfl⟩ (fun r_138 u_139 H locs w_140 hP hD hK1 hS => ?_)
                                      have hP : va_P D vwCl [(h, .inr (3, [.ref t, .ref v, .int n])), (v, .inl (kv, 18, .inl (fun _ => 0)))] H := hP
                                      have hD : va_D A [(h, .inr (3, [.ref t, .ref v, .int n])), (v, .inl (kv, 18, .inl (fun _ => 0)))] := hD
                                      have w_140 : r_138 = at_v (fun _ => 0) 18 17 := w_140
                                      obtain rfl : r_138 = 0 := w_140.trans (at_v0 _ _)
                                      refine kc_Si (As := [.int 0]) (rest := [.int 0]) (wr := [(h, .inr (3, [.ref t, .ref v, .int n])), (v, .inl (kv, 18, .inl (fun _ => 0)))]) ⟨hx, hb, hml, hown, hts⟩ (ct_bitCount0 l D  _ ) (va_cwS 1 hts (kg_S (mo_X3_transitions0 3 rfl) (mo_X3_transitions0 4 rfl) (mo_X3_transitions0 5 rfl) (goodIn_sub mb_X3_transitions0_1 gw_bitCount0)) rfl rfl rfl hd_J6_bitCount_0f7a4 ⟨Nat.le_of_ble_eq_true rfl, Nat.le_of_ble_eq_true rfl⟩) hK hN hP hD hS hA [] [0, 1] [] rfl rfl (by decide) (by decide) (by decide) rfl rfl hl.1 rfl (Nat.le_of_ble_eq_true rfl) dX3_transitions_19 ⟨Nat.le_of_ble_eq_true rfl, Nat.le_of_ble_eq_true rfl⟩ (fun r_141 u_142 H locs w_143 hP hD hK1 hS => ?_)
                                      have hP : va_P D vwCl [(h, .inr (3, [.ref t, .ref v, .int n])), (v, .inl (kv, 18, .inl (fun _ => 0)))] H := hP
                                      have hD : va_D A [(h, .inr (3, [.ref t, .ref v, .int n])), (v, .inl (kv, 18, .inl (fun _ => 0)))] := hD
                                      have w_143 : r_141 = 0 := w_143
                                      subst w_143
                                      refine lv_iadd hx hb dX3_transitions_22 ?_
                                      refine lv_topi (fun x_144 ex_144 => ?_)
                                      obtain rfl : x_144 = 0 := ex_144.trans (by decide)
                                      refine lv_istore_n (lv' := [(1, .int 0), (2, .int 17), (0, .ref h)]) hx hb dX3_transitions_23 rfl hl (by decide) rfl (fun ls hl => ?_)
                                      refine lv_iinc (v := 18) (lv' := [(2, .int 18), (1, .int 0), (0, .ref h)]) hx hb dX3_transitions_24 hl (k := 1) rfl (by decide) (by decide) rfl (fun ls hl => ?_)
                                      refine lv_goto (tgt := 4) hx hb dX3_transitions_27 (by decide) ?_
                                      refine lv_iload_n hx hb dX3_transitions_4 rfl (lv_at hl 0 rfl) ?_
                                      refine lv_bipush (v := 18) hx hb dX3_transitions_5 (by decide) ?_
                                      refine lv_icmp_ge (tgt := 30) hx hb dX3_transitions_7 (by decide) (fun c_145 => ?_) (fun c_145 => ?_)
                                      · refine lv_iload_n hx hb dX3_transitions_30 rfl (lv_at hl 1 rfl) ?_
                                        have hP9 := hP.sub (ws' := [(h, .inr (3, [.ref t, .ref v, .int n])), (v, .inl (kv, 18, .inl (fun _ => 0)))]) [0, 1] rfl
                                        have hD9 := hD.sub (ws' := [(h, .inr (3, [.ref t, .ref v, .int n])), (v, .inl (kv, 18, .inl (fun _ => 0)))]) [0, 1] (by decide) rfl
                                        have hK9 := hK.sub (tys' := []) [] rfl
                                        exact W.iret (v := 0) hx hb hr (fun tZ htZ hW => ⟨⟨0, (), rfl, rfl, by rw [htZ]; exact hP9, va_K.moved hW.alike hK9, hD9⟩, hS.F htZ⟩) hS.2.2 dX3_transitions_31
                                      · exact absurd c_145 (by decide)
theorem dX9_init_0 : decode cX9_init 0 = .ok (.aload_n 0, 1) := by decide +kernel
theorem dX9_init_1 : decode cX9_init 1 = .ok (.invokespecial 3, 3) := by decide +kernel
theorem dX9_init_4 : decode cX9_init 4 = .ok (.aload_n 0, 1) := by decide +kernel
theorem dX9_init_5 : decode cX9_init 5 = .ok (.sipush 960, 3) := by decide +kernel
theorem dX9_init_8 : decode cX9_init 8 = .ok (.newarray .int, 2) := by decide +kernel
theorem dX9_init_10 : decode cX9_init 10 = .ok (.putfield 9, 3) := by decide +kernel
theorem dX9_init_13 : decode cX9_init 13 = .ok (.aload_n 0, 1) := by decide +kernel
theorem dX9_init_14 : decode cX9_init 14 = .ok (.bipush 12, 2) := by decide +kernel
theorem dX9_init_16 : decode cX9_init 16 = .ok (.newarray .int, 2) := by decide +kernel
theorem dX9_init_18 : decode cX9_init 18 = .ok (.putfield 15, 3) := by decide +kernel
theorem dX9_init_21 : decode cX9_init 21 = .ok (.aload_n 0, 1) := by decide +kernel
theorem dX9_init_22 : decode cX9_init 22 = .ok (.bipush 82, 2) := by decide +kernel
theorem dX9_init_24 : decode cX9_init 24 = .ok (.newarray .int, 2) := by decide +kernel
theorem dX9_init_26 : decode cX9_init 26 = .ok (.putfield 18, 3) := by decide +kernel
theorem dX9_init_29 : decode cX9_init 29 = .ok (.aload_n 0, 1) := by decide +kernel
theorem dX9_init_30 : decode cX9_init 30 = .ok (.iconst 0, 1) := by decide +kernel
theorem dX9_init_31 : decode cX9_init 31 = .ok (.putfield 21, 3) := by decide +kernel
theorem dX9_init_34 : decode cX9_init 34 = .ok (.return_, 1) := by decide +kernel
def wo_X9_init : List Cond := [.methodLink RX9 3 objectInit, .instanceMethod objectInit, .code objectInit ⟨#[0xb1]⟩ 1 none, .arrayClass .int, .fieldLink RX9 9 "DynamicLogicProver$Shelf" "codes" "[I", .fieldLink RX9 15 "DynamicLogicProver$Shelf" "sizes" "[I", .fieldLink RX9 18 "DynamicLogicProver$Shelf" "waiting" "[I", .fieldLink RX9 21 "DynamicLogicProver$Shelf" "used" "I"]
def wd_X9_init : List Cond := .code yX9_init cX9_init 1 none :: (wo_X9_init ++ (wsX90 ++ ([] : List Cond)))
theorem mo_X9_init {w : Cond} (i : Nat) (h : wo_X9_init[i]? = some w) : w ∈ wd_X9_init := List.mem_cons_of_mem _ (List.mem_append_left _ (List.mem_of_getElem? h))
theorem mb_X9_init_0 : ∀ w ∈ wsX90, w ∈ wd_X9_init := fun w h => List.mem_cons_of_mem _ (List.mem_append_right _ (List.mem_append_left _ h))
theorem hd_X9_init : yX9_init.cls ≠ "java/lang/invoke/MethodHandle" ∧ yX9_init.cls ≠ "java/lang/invoke/VarHandle" ∧ (parseMethodDescriptor yX9_init.desc).map (fun d => d.parameters.length) = some 0 := by decide +kernel
set_option maxRecDepth 20000 in
theorem gw_X9_init : wd_X9_init.all goodWord = true := by decide +kernel
abbrev qc_X9_init (D : va_G) (h : Nat) (A : Nat → Prop) : Array Value → State → Outcome → State → Prop := va_Qv (fun (uZ : (Nat) × (Nat) × (Nat) × (ClassId) × (ClassId)) => True) (fun uZ tZ => kc_pos D A [(h, .inr (9, [.ref uZ.1, .ref uZ.2.1, .ref uZ.2.2.1, .int 0])), (uZ.1, .inl (uZ.2.2.2.1, 960, .inl (fun _ => 0))), (uZ.2.1, .inl (uZ.2.2.2.2, 12, .inl (fun _ => 0)))] [(uZ.2.2.2.1, .int), (uZ.2.2.2.2, .int)] tZ) A
set_option maxHeartbeats 4000000 in
set_option maxRecDepth 100000 in
theorem ct_X9_init (l : Launch) (D : va_G) (h : Nat) (sz : Nat)  : Met l yX9_init wd_X9_init ({ frames := 1, cells := 3, slots := 1054, locals := 12 }) (va_Pc [.ref h] (kc_pre D [] [(h, .inr (9, [.null, .null, .null, .int 0]))] sz)) (qc_X9_init D h (va_A [(h, .inr (9, [.null, .null, .null, .int 0]))] sz)) 3 1054 (va_A [(h, .inr (9, [.null, .null, .null, .int 0]))] sz) := by
  refine Met.ofW (cc := cX9_init) (maxL := 1) (ret := none) (by decide) rfl ?_
  intro p e s m args below meth c s₁ B hml hv
  obtain ⟨rfl, hsz, hP, hK, hN, hD0⟩ := hv
  have hx := B.exec
  have hb := B.bytes
  have hr := B.returns
  have hts := atoms_spec (ws := wd_X9_init) B.pre
  have hown : s.vm.findClass RX9 = some m.cls := findClass_of_methodNamed B.named
  have hlocks := B.notSynchronized
  have hin : meth.name = "<init>" := (name_of_methodNamed B.named B.method).1
  subst hsz
  have hD := hD0.self (sz := s.heap.size)
  generalize hAe : va_A [(h, .inr (9, [.null, .null, .null, .int 0]))] s.heap.size = A at hD ⊢
  have hA : ∀ q : Nat, s.heap.size ≤ q → A q := fun q h => by rw [← hAe]; exact Or.inr h
  have hS : va_S A s.heap s.heap [] := va_S.rf
  have hiX9 : ∀ w ∈ wsX90, w ∈ wd_X9_init := mb_X9_init_0
  have hl := lv_entry ([.ref h]) (n := 1) (Nat.le_of_ble_eq_true rfl)
  rw [lg_entry_eq]
  generalize (lg_sl ([.ref h]) ++ List.replicate (1 - (lg_sl ([.ref h])).length) Slot.unset).toArray = ls at hl ⊢
  have hl : lv_has ls 1 [(0, .ref h)] := hl
  refine lv_aload_n hx hb dX9_init_0 rfl (lv_at hl 0 rfl) ?_
  refine W.objInit hx hb hown (hts (.methodLink RX9 3 objectInit) (mo_X9_init 0 rfl)) (hts (.instanceMethod objectInit) (mo_X9_init 1 rfl)) (hts (.code objectInit ⟨#[0xb1]⟩ 1 none) (mo_X9_init 2 rfl)) rfl (by rw [hml]; exact hl.1) rfl dX9_init_1 (Nat.le_of_ble_eq_true rfl) (Nat.le_of_ble_eq_true rfl) ?_
  refine W.eq (g2 := F0 m 4 ls []) rfl ?_
  refine lv_aload_n hx hb dX9_init_4 rfl (lv_at hl 0 rfl) ?_
  refine lv_sipush (v := 960) hx hb dX9_init_5 (by decide) ?_
  refine va_newa (atype := .int) (ty := .int) (a0 := (960, .inl (fun _ => 0))) hx hb (hts (.arrayClass .int) (mo_X9_init 3 rfl)) rfl hK hP hD hS hA (fun _ => rfl) (by decide) (N' := 960) (by decide) (by decide) (Nat.le_of_ble_eq_true rfl) (Nat.le_of_ble_eq_true rfl) dX9_init_8 (fun q_1 k_2 H hK hP hD hS => ?_)
  have hP : va_P D vwCl [(h, .inr (9, [.null, .null, .null, .int 0])), (q_1, .inl (k_2, 960, .inl (fun _ => 0)))] H := hP
  have hD : va_D A [(h, .inr (9, [.null, .null, .null, .int 0])), (q_1, .inl (k_2, 960, .inl (fun _ => 0)))] := hD
  have hK : va_K D vwCl [(k_2, .int)] s := hK
  refine W.widen (k := 1) (n := 960) (by decide) (Nat.le_of_ble_eq_true rfl) ?_
  refine va_putF (D := D) (ci := 9) (v := .ref q_1) (ty := .array .int) (C := RX9) (T := TX9) (N := 4) hx hb hts hiX9 tyX9 tyX9_ok nmX9 hown hK hP hD hS 0 rfl rfl 0 (by decide) (hts (.fieldLink RX9 9 "DynamicLogicProver$Shelf" "codes" "[I") (mo_X9_init 4 rfl)) (fun _ h9 => h9) rfl hin rfl (tyX9_ok 0 (by decide)) rfl rfl (Nat.le_of_ble_eq_true rfl) dX9_init_10 (fun H locs hP hD hS => ?_)
  have hP : va_P D vwCl [(h, .inr (9, [.ref q_1, .null, .null, .int 0])), (q_1, .inl (k_2, 960, .inl (fun _ => 0)))] H := hP
  have hD : va_D A [(h, .inr (9, [.ref q_1, .null, .null, .int 0])), (q_1, .inl (k_2, 960, .inl (fun _ => 0)))] := hD
  refine lv_aload_n hx hb dX9_init_13 rfl (lv_at hl 0 rfl) ?_
  refine lv_bipush (v := 12) hx hb dX9_init_14 (by decide) ?_
  refine va_newa (atype := .int) (ty := .int) (a0 := (12, .inl (fun _ => 0))) hx hb (hts (.arrayClass .int) (mo_X9_init 3 rfl)) rfl hK hP hD hS hA (fun _ => rfl) (by decide) (N' := 12) (by decide) (by decide) (Nat.le_of_ble_eq_true rfl) (Nat.le_of_ble_eq_true rfl) dX9_init_16 (fun q_3 k_4 H hK hP hD hS => ?_)
  have hP : va_P D vwCl [(h, .inr (9, [.ref q_1, .null, .null, .int 0])), (q_1, .inl (k_2, 960, .inl (fun _ => 0))), (q_3, .inl (k_4, 12, .inl (fun _ => 0)))] H := hP
  have hD : va_D A [(h, .inr (9, [.ref q_1, .null, .null, .int 0])), (q_1, .inl (k_2, 960, .inl (fun _ => 0))), (q_3, .inl (k_4, 12, .inl (fun _ => 0)))] := hD
  have hK : va_K D vwCl [(k_2, .int), (k_4, .int)] s := hK
  refine W.widen (k := 2) (n := 972) (by decide) (Nat.le_of_ble_eq_true rfl) ?_
  refine va_putF (D := D) (ci := 9) (v := .ref q_3) (ty := .array .int) (C := RX9) (T := TX9) (N := 4) hx hb hts hiX9 tyX9 tyX9_ok nmX9 hown hK hP hD hS 0 rfl rfl 1 (by decide) (hts (.fieldLink RX9 15 "DynamicLogicProver$Shelf" "sizes" "[I") (mo_X9_init 5 rfl)) (fun _ h9 => h9) rfl hin rfl (tyX9_ok 1 (by decide)) rfl rfl (Nat.le_of_ble_eq_true rfl) dX9_init_18 (fun H locs hP hD hS => ?_)
  have hP : va_P D vwCl [(h, .inr (9, [.ref q_1, .ref q_3, .null, .int 0])), (q_1, .inl (k_2, 960, .inl (fun _ => 0))), (q_3, .inl (k_4, 12, .inl (fun _ => 0)))] H := hP
  have hD : va_D A [(h, .inr (9, [.ref q_1, .ref q_3, .null, .int 0])), (q_1, .inl (k_2, 960, .inl (fun _ => 0))), (q_3, .inl (k_4, 12, .inl (fun _ => 0)))] := hD
  refine lv_aload_n hx hb dX9_init_21 rfl (lv_at hl 0 rfl) ?_
  refine lv_bipush (v := 82) hx hb dX9_init_22 (by decide) ?_
  refine va_newa (atype := .int) (ty := .int) (a0 := (82, .inl (fun _ => 0))) hx hb (hts (.arrayClass .int) (mo_X9_init 3 rfl)) rfl hK hP hD hS hA (fun _ => rfl) (by decide) (N' := 82) (by decide) (by decide) (Nat.le_of_ble_eq_true rfl) (Nat.le_of_ble_eq_true rfl) dX9_init_24 (fun q_5 k_6 H hK hP hD hS => ?_)
  have hP : va_P D vwCl [(h, .inr (9, [.ref q_1, .ref q_3, .null, .int 0])), (q_1, .inl (k_2, 960, .inl (fun _ => 0))), (q_3, .inl (k_4, 12, .inl (fun _ => 0))), (q_5, .inl (k_6, 82, .inl (fun _ => 0)))] H := hP
  have hD : va_D A [(h, .inr (9, [.ref q_1, .ref q_3, .null, .int 0])), (q_1, .inl (k_2, 960, .inl (fun _ => 0))), (q_3, .inl (k_4, 12, .inl (fun _ => 0))), (q_5, .inl (k_6, 82, .inl (fun _ => 0)))] := hD
  have hK : va_K D vwCl [(k_2, .int), (k_4, .int), (k_6, .int)] s := hK
  refine W.widen (k := 3) (n := 1054) (by decide) (Nat.le_of_ble_eq_true rfl) ?_
  refine va_putF (D := D) (ci := 9) (v := .ref q_5) (ty := .array .int) (C := RX9) (T := TX9) (N := 4) hx hb hts hiX9 tyX9 tyX9_ok nmX9 hown hK hP hD hS 0 rfl rfl 2 (by decide) (hts (.fieldLink RX9 18 "DynamicLogicProver$Shelf" "waiting" "[I") (mo_X9_init 6 rfl)) (fun _ h9 => h9) rfl hin rfl (tyX9_ok 2 (by decide)) rfl rfl (Nat.le_of_ble_eq_true rfl) dX9_init_26 (fun H locs hP hD hS => ?_)
  have hP : va_P D vwCl [(h, .inr (9, [.ref q_1, .ref q_3, .ref q_5, .int 0])), (q_1, .inl (k_2, 960, .inl (fun _ => 0))), (q_3, .inl (k_4, 12, .inl (fun _ => 0))), (q_5, .inl (k_6, 82, .inl (fun _ => 0)))] H := hP
  have hD : va_D A [(h, .inr (9, [.ref q_1, .ref q_3, .ref q_5, .int 0])), (q_1, .inl (k_2, 960, .inl (fun _ => 0))), (q_3, .inl (k_4, 12, .inl (fun _ => 0))), (q_5, .inl (k_6, 82, .inl (fun _ => 0)))] := hD
  refine lv_aload_n hx hb dX9_init_29 rfl (lv_at hl 0 rfl) ?_
  refine lv_iconst (v := 0) hx hb dX9_init_30 (by decide) ?_
  refine va_put (D := D) (ci := 9) (v := .int 0) (ty := .int) (C := RX9) (T := TX9) (N := 4) hx hb hts hiX9 tyX9 tyX9_ok nmX9 hown hK hP hD hS 0 rfl rfl 3 (by decide) (hts (.fieldLink RX9 21 "DynamicLogicProver$Shelf" "used" "I") (mo_X9_init 7 rfl)) (fun _ h9 => h9) rfl (tyX9_ok 3 (by decide)) rfl rfl (Nat.le_of_ble_eq_true rfl) dX9_init_31 (fun H locs hP hD hS => ?_)
  have hP : va_P D vwCl [(h, .inr (9, [.ref q_1, .ref q_3, .ref q_5, .int 0])), (q_1, .inl (k_2, 960, .inl (fun _ => 0))), (q_3, .inl (k_4, 12, .inl (fun _ => 0))), (q_5, .inl (k_6, 82, .inl (fun _ => 0)))] H := hP
  have hD : va_D A [(h, .inr (9, [.ref q_1, .ref q_3, .ref q_5, .int 0])), (q_1, .inl (k_2, 960, .inl (fun _ => 0))), (q_3, .inl (k_4, 12, .inl (fun _ => 0))), (q_5, .inl (k_6, 82, .inl (fun _ => 0)))] := hD
  have hP9 := hP.sub (ws' := [(h, .inr (9, [.ref q_1, .ref q_3, .ref q_5, .int 0])), (q_1, .inl (k_2, 960, .inl (fun _ => 0))), (q_3, .inl (k_4, 12, .inl (fun _ => 0)))]) [0, 1, 2] rfl
  have hD9 := hD.sub (ws' := [(h, .inr (9, [.ref q_1, .ref q_3, .ref q_5, .int 0])), (q_1, .inl (k_2, 960, .inl (fun _ => 0))), (q_3, .inl (k_4, 12, .inl (fun _ => 0)))]) [0, 1, 2] (by decide) rfl
  have hK9 := hK.sub (tys' := [(k_2, .int), (k_4, .int)]) [0, 1] rfl
  refine W.widen (k := 3) (n := 1054) (Nat.le_of_ble_eq_true rfl) (Nat.le_of_ble_eq_true rfl) ?_
  exact W.vret hx hb hr (fun tZ htZ hW => ⟨⟨(q_1, q_3, q_5, k_2, k_4), rfl, trivial, by rw [htZ]; exact hP9, va_K.moved hW.alike hK9, hD9⟩, hS.F htZ⟩) hS.2.2 dX9_init_34
theorem dX9_size_0 : decode cX9_size 0 = .ok (.aload_n 0, 1) := by decide +kernel
theorem dX9_size_1 : decode cX9_size 1 = .ok (.getfield 21, 3) := by decide +kernel
theorem dX9_size_4 : decode cX9_size 4 = .ok (.ireturn, 1) := by decide +kernel
def wo_X9_size : List Cond := [.fieldLink RX9 21 "DynamicLogicProver$Shelf" "used" "I"]
def wd_X9_size : List Cond := .code yX9_size cX9_size 1 (some .int) :: (wo_X9_size ++ (wsX90 ++ ([] : List Cond)))
theorem mo_X9_size {w : Cond} (i : Nat) (h : wo_X9_size[i]? = some w) : w ∈ wd_X9_size := List.mem_cons_of_mem _ (List.mem_append_left _ (List.mem_of_getElem? h))
theorem mb_X9_size_0 : ∀ w ∈ wsX90, w ∈ wd_X9_size := fun w h => List.mem_cons_of_mem _ (List.mem_append_right _ (List.mem_append_left _ h))
theorem hd_X9_size : yX9_size.cls ≠ "java/lang/invoke/MethodHandle" ∧ yX9_size.cls ≠ "java/lang/invoke/VarHandle" ∧ (parseMethodDescriptor yX9_size.desc).map (fun d => d.parameters.length) = some 0 := by decide +kernel
set_option maxRecDepth 20000 in
theorem gw_X9_size : wd_X9_size.all goodWord = true := by decide +kernel
abbrev qc_X9_size (D : va_G) (h : Nat) (a : Nat) (b : Nat) (d : Nat) (n : Int32) (A : Nat → Prop) : Array Value → State → Outcome → State → Prop := va_Qi (fun (r : Int32) (uZ : Unit) => r = n) (fun uZ tZ => kc_pos D A [(h, .inr (9, [.ref a, .ref b, .ref d, .int n]))] [] tZ) A
set_option maxHeartbeats 4000000 in
set_option maxRecDepth 100000 in
theorem ct_X9_size (l : Launch) (D : va_G) (h : Nat) (a : Nat) (b : Nat) (d : Nat) (n : Int32) (sz : Nat)  : Met l yX9_size wd_X9_size ({ frames := 0, cells := 0, slots := 0, locals := 0 }) (va_Pc [.ref h] (kc_pre D [] [(h, .inr (9, [.ref a, .ref b, .ref d, .int n]))] sz)) (qc_X9_size D h a b d n (va_A [(h, .inr (9, [.ref a, .ref b, .ref d, .int n]))] sz)) 0 0 (va_A [(h, .inr (9, [.ref a, .ref b, .ref d, .int n]))] sz) := by
  refine Met.ofW (cc := cX9_size) (maxL := 1) (ret := (some .int)) (by decide) rfl ?_
  intro p e s m args below meth c s₁ B hml hv
  obtain ⟨rfl, hsz, hP, hK, hN, hD0⟩ := hv
  have hx := B.exec
  have hb := B.bytes
  have hr := B.returns
  have hts := atoms_spec (ws := wd_X9_size) B.pre
  have hown : s.vm.findClass RX9 = some m.cls := findClass_of_methodNamed B.named
  have hlocks := B.notSynchronized
  subst hsz
  have hD := hD0.self (sz := s.heap.size)
  generalize hAe : va_A [(h, .inr (9, [.ref a, .ref b, .ref d, .int n]))] s.heap.size = A at hD ⊢
  have hA : ∀ q : Nat, s.heap.size ≤ q → A q := fun q h => by rw [← hAe]; exact Or.inr h
  have hS : va_S A s.heap s.heap [] := va_S.rf
  have hiX9 : ∀ w ∈ wsX90, w ∈ wd_X9_size := mb_X9_size_0
  have hl := lv_entry ([.ref h]) (n := 1) (Nat.le_of_ble_eq_true rfl)
  rw [lg_entry_eq]
  generalize (lg_sl ([.ref h]) ++ List.replicate (1 - (lg_sl ([.ref h])).length) Slot.unset).toArray = ls at hl ⊢
  have hl : lv_has ls 1 [(0, .ref h)] := hl
  refine lv_aload_n hx hb dX9_size_0 rfl (lv_at hl 0 rfl) ?_
  refine va_get (D := D) (ci := 9) (v := .int n) (C := RX9) (T := TX9) (N := 4) hx hb hts hiX9 hown hK hP 0 rfl rfl 3 (by decide) (hts (.fieldLink RX9 21 "DynamicLogicProver$Shelf" "used" "I") (mo_X9_size 0 rfl)) (fun _ h9 => h9) rfl dX9_size_1 ?_
  have hP9 := hP.sub (ws' := [(h, .inr (9, [.ref a, .ref b, .ref d, .int n]))]) [0] rfl
  have hD9 := hD.sub (ws' := [(h, .inr (9, [.ref a, .ref b, .ref d, .int n]))]) [0] (by decide) rfl
  have hK9 := hK.sub (tys' := []) [] rfl
  exact W.iret (v := n) hx hb hr (fun tZ htZ hW => ⟨⟨n, (), rfl, rfl, by rw [htZ]; exact hP9, va_K.moved hW.alike hK9, hD9⟩, hS.F htZ⟩) hS.2.2 dX9_size_4
theorem dX9_isEmpty_0 : decode cX9_isEmpty 0 = .ok (.aload_n 0, 1) := by decide +kernel
theorem dX9_isEmpty_1 : decode cX9_isEmpty 1 = .ok (.getfield 21, 3) := by decide +kernel
theorem dX9_isEmpty_4 : decode cX9_isEmpty 4 = .ok (.ifCond .ne 7, 3) := by decide +kernel
theorem dX9_isEmpty_7 : decode cX9_isEmpty 7 = .ok (.iconst 1, 1) := by decide +kernel
theorem dX9_isEmpty_8 : decode cX9_isEmpty 8 = .ok (.goto 4, 3) := by decide +kernel
theorem dX9_isEmpty_11 : decode cX9_isEmpty 11 = .ok (.iconst 0, 1) := by decide +kernel
theorem dX9_isEmpty_12 : decode cX9_isEmpty 12 = .ok (.ireturn, 1) := by decide +kernel
def wo_X9_isEmpty0 : List Cond := [.fieldLink RX9 21 "DynamicLogicProver$Shelf" "used" "I"]
def wd_X9_isEmpty0 : List Cond := .code yX9_isEmpty cX9_isEmpty 1 (some .boolean) :: (wo_X9_isEmpty0 ++ (wsX90 ++ ([] : List Cond)))
theorem mo_X9_isEmpty0 {w : Cond} (i : Nat) (h : wo_X9_isEmpty0[i]? = some w) : w ∈ wd_X9_isEmpty0 := List.mem_cons_of_mem _ (List.mem_append_left _ (List.mem_of_getElem? h))
theorem mb_X9_isEmpty0_0 : ∀ w ∈ wsX90, w ∈ wd_X9_isEmpty0 := fun w h => List.mem_cons_of_mem _ (List.mem_append_right _ (List.mem_append_left _ h))
theorem hd_X9_isEmpty : yX9_isEmpty.cls ≠ "java/lang/invoke/MethodHandle" ∧ yX9_isEmpty.cls ≠ "java/lang/invoke/VarHandle" ∧ (parseMethodDescriptor yX9_isEmpty.desc).map (fun d => d.parameters.length) = some 0 := by decide +kernel
set_option maxRecDepth 20000 in
theorem gw_X9_isEmpty0 : wd_X9_isEmpty0.all goodWord = true := by decide +kernel
abbrev qc_X9_isEmpty0 (D : va_G) (h : Nat) (a : Nat) (b : Nat) (d : Nat) (A : Nat → Prop) : Array Value → State → Outcome → State → Prop := va_Qi (fun (r : Int32) (uZ : Unit) => r = 1) (fun uZ tZ => kc_pos D A [(h, .inr (9, [.ref a, .ref b, .ref d, .int 0]))] [] tZ) A
set_option maxHeartbeats 4000000 in
set_option maxRecDepth 100000 in
theorem ct_X9_isEmpty0 (l : Launch) (D : va_G) (h : Nat) (a : Nat) (b : Nat) (d : Nat) (sz : Nat)  : Met l yX9_isEmpty wd_X9_isEmpty0 ({ frames := 0, cells := 0, slots := 0, locals := 0 }) (va_Pc [.ref h] (kc_pre D [] [(h, .inr (9, [.ref a, .ref b, .ref d, .int 0]))] sz)) (qc_X9_isEmpty0 D h a b d (va_A [(h, .inr (9, [.ref a, .ref b, .ref d, .int 0]))] sz)) 0 0 (va_A [(h, .inr (9, [.ref a, .ref b, .ref d, .int 0]))] sz) := by
  refine Met.ofW (cc := cX9_isEmpty) (maxL := 1) (ret := (some .boolean)) (by decide) rfl ?_
  intro p e s m args below meth c s₁ B hml hv
  obtain ⟨rfl, hsz, hP, hK, hN, hD0⟩ := hv
  have hx := B.exec
  have hb := B.bytes
  have hr := B.returns
  have hts := atoms_spec (ws := wd_X9_isEmpty0) B.pre
  have hown : s.vm.findClass RX9 = some m.cls := findClass_of_methodNamed B.named
  have hlocks := B.notSynchronized
  subst hsz
  have hD := hD0.self (sz := s.heap.size)
  generalize hAe : va_A [(h, .inr (9, [.ref a, .ref b, .ref d, .int 0]))] s.heap.size = A at hD ⊢
  have hA : ∀ q : Nat, s.heap.size ≤ q → A q := fun q h => by rw [← hAe]; exact Or.inr h
  have hS : va_S A s.heap s.heap [] := va_S.rf
  have hiX9 : ∀ w ∈ wsX90, w ∈ wd_X9_isEmpty0 := mb_X9_isEmpty0_0
  have hl := lv_entry ([.ref h]) (n := 1) (Nat.le_of_ble_eq_true rfl)
  rw [lg_entry_eq]
  generalize (lg_sl ([.ref h]) ++ List.replicate (1 - (lg_sl ([.ref h])).length) Slot.unset).toArray = ls at hl ⊢
  have hl : lv_has ls 1 [(0, .ref h)] := hl
  refine lv_aload_n hx hb dX9_isEmpty_0 rfl (lv_at hl 0 rfl) ?_
  refine va_get (D := D) (ci := 9) (v := .int 0) (C := RX9) (T := TX9) (N := 4) hx hb hts hiX9 hown hK hP 0 rfl rfl 3 (by decide) (hts (.fieldLink RX9 21 "DynamicLogicProver$Shelf" "used" "I") (mo_X9_isEmpty0 0 rfl)) (fun _ h9 => h9) rfl dX9_isEmpty_1 ?_
  refine lv_if_ne (tgt := 11) hx hb dX9_isEmpty_4 (by decide) (fun c_1 => ?_) (fun c_1 => ?_)
  · exact absurd c_1 (by decide)
  · refine lv_iconst (v := 1) hx hb dX9_isEmpty_7 (by decide) ?_
    refine lv_goto (tgt := 12) hx hb dX9_isEmpty_8 (by decide) ?_
    have hP9 := hP.sub (ws' := [(h, .inr (9, [.ref a, .ref b, .ref d, .int 0]))]) [0] rfl
    have hD9 := hD.sub (ws' := [(h, .inr (9, [.ref a, .ref b, .ref d, .int 0]))]) [0] (by decide) rfl
    have hK9 := hK.sub (tys' := []) [] rfl
    exact W.zret (v := 1) (ty := .boolean) hx hb hr rfl (fun tZ htZ hW => ⟨⟨1, (), rfl, rfl, by rw [htZ]; exact hP9, va_K.moved hW.alike hK9, hD9⟩, hS.F htZ⟩) hS.2.2 dX9_isEmpty_12
theorem dX9_isFull_0 : decode cX9_isFull 0 = .ok (.aload_n 0, 1) := by decide +kernel
theorem dX9_isFull_1 : decode cX9_isFull 1 = .ok (.getfield 21, 3) := by decide +kernel
theorem dX9_isFull_4 : decode cX9_isFull 4 = .ok (.bipush 12, 2) := by decide +kernel
theorem dX9_isFull_6 : decode cX9_isFull 6 = .ok (.if_icmp .lt 7, 3) := by decide +kernel
theorem dX9_isFull_9 : decode cX9_isFull 9 = .ok (.iconst 1, 1) := by decide +kernel
theorem dX9_isFull_10 : decode cX9_isFull 10 = .ok (.goto 4, 3) := by decide +kernel
theorem dX9_isFull_13 : decode cX9_isFull 13 = .ok (.iconst 0, 1) := by decide +kernel
theorem dX9_isFull_14 : decode cX9_isFull 14 = .ok (.ireturn, 1) := by decide +kernel
def wo_X9_isFull0 : List Cond := [.fieldLink RX9 21 "DynamicLogicProver$Shelf" "used" "I"]
def wd_X9_isFull0 : List Cond := .code yX9_isFull cX9_isFull 1 (some .boolean) :: (wo_X9_isFull0 ++ (wsX90 ++ ([] : List Cond)))
theorem mo_X9_isFull0 {w : Cond} (i : Nat) (h : wo_X9_isFull0[i]? = some w) : w ∈ wd_X9_isFull0 := List.mem_cons_of_mem _ (List.mem_append_left _ (List.mem_of_getElem? h))
theorem mb_X9_isFull0_0 : ∀ w ∈ wsX90, w ∈ wd_X9_isFull0 := fun w h => List.mem_cons_of_mem _ (List.mem_append_right _ (List.mem_append_left _ h))
theorem hd_X9_isFull : yX9_isFull.cls ≠ "java/lang/invoke/MethodHandle" ∧ yX9_isFull.cls ≠ "java/lang/invoke/VarHandle" ∧ (parseMethodDescriptor yX9_isFull.desc).map (fun d => d.parameters.length) = some 0 := by decide +kernel
set_option maxRecDepth 20000 in
theorem gw_X9_isFull0 : wd_X9_isFull0.all goodWord = true := by decide +kernel
abbrev qc_X9_isFull0 (D : va_G) (h : Nat) (a : Nat) (b : Nat) (d : Nat) (A : Nat → Prop) : Array Value → State → Outcome → State → Prop := va_Qi (fun (r : Int32) (uZ : Unit) => r = 0) (fun uZ tZ => kc_pos D A [(h, .inr (9, [.ref a, .ref b, .ref d, .int 0]))] [] tZ) A
set_option maxHeartbeats 4000000 in
set_option maxRecDepth 100000 in
theorem ct_X9_isFull0 (l : Launch) (D : va_G) (h : Nat) (a : Nat) (b : Nat) (d : Nat) (sz : Nat)  : Met l yX9_isFull wd_X9_isFull0 ({ frames := 0, cells := 0, slots := 0, locals := 0 }) (va_Pc [.ref h] (kc_pre D [] [(h, .inr (9, [.ref a, .ref b, .ref d, .int 0]))] sz)) (qc_X9_isFull0 D h a b d (va_A [(h, .inr (9, [.ref a, .ref b, .ref d, .int 0]))] sz)) 0 0 (va_A [(h, .inr (9, [.ref a, .ref b, .ref d, .int 0]))] sz) := by
  refine Met.ofW (cc := cX9_isFull) (maxL := 1) (ret := (some .boolean)) (by decide) rfl ?_
  intro p e s m args below meth c s₁ B hml hv
  obtain ⟨rfl, hsz, hP, hK, hN, hD0⟩ := hv
  have hx := B.exec
  have hb := B.bytes
  have hr := B.returns
  have hts := atoms_spec (ws := wd_X9_isFull0) B.pre
  have hown : s.vm.findClass RX9 = some m.cls := findClass_of_methodNamed B.named
  have hlocks := B.notSynchronized
  subst hsz
  have hD := hD0.self (sz := s.heap.size)
  generalize hAe : va_A [(h, .inr (9, [.ref a, .ref b, .ref d, .int 0]))] s.heap.size = A at hD ⊢
  have hA : ∀ q : Nat, s.heap.size ≤ q → A q := fun q h => by rw [← hAe]; exact Or.inr h
  have hS : va_S A s.heap s.heap [] := va_S.rf
  have hiX9 : ∀ w ∈ wsX90, w ∈ wd_X9_isFull0 := mb_X9_isFull0_0
  have hl := lv_entry ([.ref h]) (n := 1) (Nat.le_of_ble_eq_true rfl)
  rw [lg_entry_eq]
  generalize (lg_sl ([.ref h]) ++ List.replicate (1 - (lg_sl ([.ref h])).length) Slot.unset).toArray = ls at hl ⊢
  have hl : lv_has ls 1 [(0, .ref h)] := hl
  refine lv_aload_n hx hb dX9_isFull_0 rfl (lv_at hl 0 rfl) ?_
  refine va_get (D := D) (ci := 9) (v := .int 0) (C := RX9) (T := TX9) (N := 4) hx hb hts hiX9 hown hK hP 0 rfl rfl 3 (by decide) (hts (.fieldLink RX9 21 "DynamicLogicProver$Shelf" "used" "I") (mo_X9_isFull0 0 rfl)) (fun _ h9 => h9) rfl dX9_isFull_1 ?_
  refine lv_bipush (v := 12) hx hb dX9_isFull_4 (by decide) ?_
  refine lv_icmp_lt (tgt := 13) hx hb dX9_isFull_6 (by decide) (fun c_1 => ?_) (fun c_1 => ?_)
  · refine lv_iconst (v := 0) hx hb dX9_isFull_13 (by decide) ?_
    have hP9 := hP.sub (ws' := [(h, .inr (9, [.ref a, .ref b, .ref d, .int 0]))]) [0] rfl
    have hD9 := hD.sub (ws' := [(h, .inr (9, [.ref a, .ref b, .ref d, .int 0]))]) [0] (by decide) rfl
    have hK9 := hK.sub (tys' := []) [] rfl
    exact W.zret (v := 0) (ty := .boolean) hx hb hr rfl (fun tZ htZ hW => ⟨⟨0, (), rfl, rfl, by rw [htZ]; exact hP9, va_K.moved hW.alike hK9, hD9⟩, hS.F htZ⟩) hS.2.2 dX9_isFull_14
  · exact absurd c_1 (by decide)
theorem dX9_has_0 : decode cX9_has 0 = .ok (.iload_n 1, 1) := by decide +kernel
theorem dX9_has_1 : decode cX9_has 1 = .ok (.ifCond .lt 15, 3) := by decide +kernel
theorem dX9_has_4 : decode cX9_has 4 = .ok (.iload_n 1, 1) := by decide +kernel
theorem dX9_has_5 : decode cX9_has 5 = .ok (.aload_n 0, 1) := by decide +kernel
theorem dX9_has_6 : decode cX9_has 6 = .ok (.getfield 21, 3) := by decide +kernel
theorem dX9_has_9 : decode cX9_has 9 = .ok (.if_icmp .ge 7, 3) := by decide +kernel
theorem dX9_has_12 : decode cX9_has 12 = .ok (.iconst 1, 1) := by decide +kernel
theorem dX9_has_13 : decode cX9_has 13 = .ok (.goto 4, 3) := by decide +kernel
theorem dX9_has_16 : decode cX9_has 16 = .ok (.iconst 0, 1) := by decide +kernel
theorem dX9_has_17 : decode cX9_has 17 = .ok (.ireturn, 1) := by decide +kernel
def wo_X9_has0 : List Cond := [.fieldLink RX9 21 "DynamicLogicProver$Shelf" "used" "I"]
def wd_X9_has0 : List Cond := .code yX9_has cX9_has 2 (some .boolean) :: (wo_X9_has0 ++ (wsX90 ++ ([] : List Cond)))
theorem mo_X9_has0 {w : Cond} (i : Nat) (h : wo_X9_has0[i]? = some w) : w ∈ wd_X9_has0 := List.mem_cons_of_mem _ (List.mem_append_left _ (List.mem_of_getElem? h))
theorem mb_X9_has0_0 : ∀ w ∈ wsX90, w ∈ wd_X9_has0 := fun w h => List.mem_cons_of_mem _ (List.mem_append_right _ (List.mem_append_left _ h))
theorem hd_X9_has : yX9_has.cls ≠ "java/lang/invoke/MethodHandle" ∧ yX9_has.cls ≠ "java/lang/invoke/VarHandle" ∧ (parseMethodDescriptor yX9_has.desc).map (fun d => d.parameters.length) = some 1 := by decide +kernel
set_option maxRecDepth 20000 in
theorem gw_X9_has0 : wd_X9_has0.all goodWord = true := by decide +kernel
abbrev qc_X9_has0 (D : va_G) (h : Nat) (a : Nat) (b : Nat) (d : Nat) (w : Int32) (A : Nat → Prop) : Array Value → State → Outcome → State → Prop := va_Qi (fun (r : Int32) (uZ : Unit) => r = 0) (fun uZ tZ => kc_pos D A [(h, .inr (9, [.ref a, .ref b, .ref d, .int 0]))] [] tZ) A
set_option maxHeartbeats 4000000 in
set_option maxRecDepth 100000 in
theorem ct_X9_has0 (l : Launch) (D : va_G) (h : Nat) (a : Nat) (b : Nat) (d : Nat) (w : Int32) (sz : Nat)  : Met l yX9_has wd_X9_has0 ({ frames := 0, cells := 0, slots := 0, locals := 0 }) (va_Pc [.ref h, .int w] (kc_pre D [] [(h, .inr (9, [.ref a, .ref b, .ref d, .int 0]))] sz)) (qc_X9_has0 D h a b d w (va_A [(h, .inr (9, [.ref a, .ref b, .ref d, .int 0]))] sz)) 0 0 (va_A [(h, .inr (9, [.ref a, .ref b, .ref d, .int 0]))] sz) := by
  refine Met.ofW (cc := cX9_has) (maxL := 2) (ret := (some .boolean)) (by decide) rfl ?_
  intro p e s m args below meth c s₁ B hml hv
  obtain ⟨rfl, hsz, hP, hK, hN, hD0⟩ := hv
  have hx := B.exec
  have hb := B.bytes
  have hr := B.returns
  have hts := atoms_spec (ws := wd_X9_has0) B.pre
  have hown : s.vm.findClass RX9 = some m.cls := findClass_of_methodNamed B.named
  have hlocks := B.notSynchronized
  subst hsz
  have hD := hD0.self (sz := s.heap.size)
  generalize hAe : va_A [(h, .inr (9, [.ref a, .ref b, .ref d, .int 0]))] s.heap.size = A at hD ⊢
  have hA : ∀ q : Nat, s.heap.size ≤ q → A q := fun q h => by rw [← hAe]; exact Or.inr h
  have hS : va_S A s.heap s.heap [] := va_S.rf
  have hiX9 : ∀ w ∈ wsX90, w ∈ wd_X9_has0 := mb_X9_has0_0
  have hl := lv_entry ([.ref h, .int w]) (n := 2) (Nat.le_of_ble_eq_true rfl)
  rw [lg_entry_eq]
  generalize (lg_sl ([.ref h, .int w]) ++ List.replicate (2 - (lg_sl ([.ref h, .int w])).length) Slot.unset).toArray = ls at hl ⊢
  have hl : lv_has ls 2 [(0, .ref h), (1, .int w)] := hl
  refine lv_iload_n hx hb dX9_has_0 rfl (lv_at hl 1 rfl) ?_
  refine lv_if_lt (tgt := 16) hx hb dX9_has_1 (by decide) (fun c_1 => ?_) (fun c_1 => ?_)
  · refine lv_iconst (v := 0) hx hb dX9_has_16 (by decide) ?_
    have hP9 := hP.sub (ws' := [(h, .inr (9, [.ref a, .ref b, .ref d, .int 0]))]) [0] rfl
    have hD9 := hD.sub (ws' := [(h, .inr (9, [.ref a, .ref b, .ref d, .int 0]))]) [0] (by decide) rfl
    have hK9 := hK.sub (tys' := []) [] rfl
    exact W.zret (v := 0) (ty := .boolean) hx hb hr rfl (fun tZ htZ hW => ⟨⟨0, (), rfl, rfl, by rw [htZ]; exact hP9, va_K.moved hW.alike hK9, hD9⟩, hS.F htZ⟩) hS.2.2 dX9_has_17
  · refine lv_iload_n hx hb dX9_has_4 rfl (lv_at hl 1 rfl) ?_
    refine lv_aload_n hx hb dX9_has_5 rfl (lv_at hl 0 rfl) ?_
    refine va_get (D := D) (ci := 9) (v := .int 0) (C := RX9) (T := TX9) (N := 4) hx hb hts hiX9 hown hK hP 0 rfl rfl 3 (by decide) (hts (.fieldLink RX9 21 "DynamicLogicProver$Shelf" "used" "I") (mo_X9_has0 0 rfl)) (fun _ h9 => h9) rfl dX9_has_6 ?_
    refine lv_icmp_ge (tgt := 16) hx hb dX9_has_9 (by decide) (fun c_2 => ?_) (fun c_2 => ?_)
    · refine lv_iconst (v := 0) hx hb dX9_has_16 (by decide) ?_
      have hP9 := hP.sub (ws' := [(h, .inr (9, [.ref a, .ref b, .ref d, .int 0]))]) [0] rfl
      have hD9 := hD.sub (ws' := [(h, .inr (9, [.ref a, .ref b, .ref d, .int 0]))]) [0] (by decide) rfl
      have hK9 := hK.sub (tys' := []) [] rfl
      exact W.zret (v := 0) (ty := .boolean) hx hb hr rfl (fun tZ htZ hW => ⟨⟨0, (), rfl, rfl, by rw [htZ]; exact hP9, va_K.moved hW.alike hK9, hD9⟩, hS.F htZ⟩) hS.2.2 dX9_has_17
    · exact absurd (show (0 : Int32) ≤ w from fa_of_nlt c_1) c_2
theorem dX9_take_0 : decode cX9_take 0 = .ok (.aload_n 0, 1) := by decide +kernel
theorem dX9_take_1 : decode cX9_take 1 = .ok (.aload_n 1, 1) := by decide +kernel
theorem dX9_take_2 : decode cX9_take 2 = .ok (.getfield 21, 3) := by decide +kernel
theorem dX9_take_5 : decode cX9_take 5 = .ok (.putfield 21, 3) := by decide +kernel
theorem dX9_take_8 : decode cX9_take 8 = .ok (.aload_n 1, 1) := by decide +kernel
theorem dX9_take_9 : decode cX9_take 9 = .ok (.getfield 9, 3) := by decide +kernel
theorem dX9_take_12 : decode cX9_take 12 = .ok (.iconst 0, 1) := by decide +kernel
theorem dX9_take_13 : decode cX9_take 13 = .ok (.aload_n 0, 1) := by decide +kernel
theorem dX9_take_14 : decode cX9_take 14 = .ok (.getfield 9, 3) := by decide +kernel
theorem dX9_take_17 : decode cX9_take 17 = .ok (.iconst 0, 1) := by decide +kernel
theorem dX9_take_18 : decode cX9_take 18 = .ok (.sipush 960, 3) := by decide +kernel
theorem dX9_take_21 : decode cX9_take 21 = .ok (.invokestatic 29, 3) := by decide +kernel
theorem dX9_take_24 : decode cX9_take 24 = .ok (.aload_n 1, 1) := by decide +kernel
theorem dX9_take_25 : decode cX9_take 25 = .ok (.getfield 15, 3) := by decide +kernel
theorem dX9_take_28 : decode cX9_take 28 = .ok (.iconst 0, 1) := by decide +kernel
theorem dX9_take_29 : decode cX9_take 29 = .ok (.aload_n 0, 1) := by decide +kernel
theorem dX9_take_30 : decode cX9_take 30 = .ok (.getfield 15, 3) := by decide +kernel
theorem dX9_take_33 : decode cX9_take 33 = .ok (.iconst 0, 1) := by decide +kernel
theorem dX9_take_34 : decode cX9_take 34 = .ok (.bipush 12, 2) := by decide +kernel
theorem dX9_take_36 : decode cX9_take 36 = .ok (.invokestatic 29, 3) := by decide +kernel
theorem dX9_take_39 : decode cX9_take 39 = .ok (.return_, 1) := by decide +kernel
def wo_X9_take : List Cond := [.fieldLink RX9 21 "DynamicLogicProver$Shelf" "used" "I", .fieldLink RX9 9 "DynamicLogicProver$Shelf" "codes" "[I", .methodLink RX9 29 arraycopyName, .native arraycopyName, .static arraycopyName, .initialized "java/lang/System", .fieldLink RX9 15 "DynamicLogicProver$Shelf" "sizes" "[I"]
def wd_X9_take : List Cond := .code yX9_take cX9_take 2 none :: (wo_X9_take ++ (wsX90 ++ ([] : List Cond)))
theorem mo_X9_take {w : Cond} (i : Nat) (h : wo_X9_take[i]? = some w) : w ∈ wd_X9_take := List.mem_cons_of_mem _ (List.mem_append_left _ (List.mem_of_getElem? h))
theorem mb_X9_take_0 : ∀ w ∈ wsX90, w ∈ wd_X9_take := fun w h => List.mem_cons_of_mem _ (List.mem_append_right _ (List.mem_append_left _ h))
theorem hd_X9_take : yX9_take.cls ≠ "java/lang/invoke/MethodHandle" ∧ yX9_take.cls ≠ "java/lang/invoke/VarHandle" ∧ (parseMethodDescriptor yX9_take.desc).map (fun d => d.parameters.length) = some 1 := by decide +kernel
set_option maxRecDepth 20000 in
theorem gw_X9_take : wd_X9_take.all goodWord = true := by decide +kernel
abbrev qc_X9_take (D : va_G) (h : Nat) (a : Nat) (b : Nat) (d : Nat) (h2 : Nat) (a2 : Nat) (b2 : Nat) (d2 : Nat) (ka : ClassId) (kb : ClassId) (ka2 : ClassId) (kb2 : ClassId) (f : Nat → Int32) (g : Nat → Int32) (f2 : Nat → Int32) (g2 : Nat → Int32) (n : Int32) (n2 : Int32) (A : Nat → Prop) : Array Value → State → Outcome → State → Prop := va_Qv (fun (uZ : (Nat → Int32) × (Nat → Int32)) => True) (fun uZ tZ => kc_pos D A [(h, .inr (9, [.ref a, .ref b, .ref d, .int n2])), (a, .inl (ka, 960, .inl uZ.1)), (b, .inl (kb, 12, .inl uZ.2)), (h2, .inr (9, [.ref a2, .ref b2, .ref d2, .int n2])), (a2, .inl (ka2, 960, .inl f2)), (b2, .inl (kb2, 12, .inl g2))] [] tZ) A
set_option maxHeartbeats 4000000 in
set_option maxRecDepth 100000 in
theorem ct_X9_take (l : Launch) (D : va_G) (h : Nat) (a : Nat) (b : Nat) (d : Nat) (h2 : Nat) (a2 : Nat) (b2 : Nat) (d2 : Nat) (ka : ClassId) (kb : ClassId) (ka2 : ClassId) (kb2 : ClassId) (f : Nat → Int32) (g : Nat → Int32) (f2 : Nat → Int32) (g2 : Nat → Int32) (n : Int32) (n2 : Int32) (sz : Nat)  : Met l yX9_take wd_X9_take ({ frames := 1, cells := 0, slots := 0, locals := 40 }) (va_Pc [.ref h, .ref h2] (kc_pre D [(ka, .int), (kb, .int), (ka2, .int), (kb2, .int)] [(h, .inr (9, [.ref a, .ref b, .ref d, .int n])), (a, .inl (ka, 960, .inl f)), (b, .inl (kb, 12, .inl g)), (h2, .inr (9, [.ref a2, .ref b2, .ref d2, .int n2])), (a2, .inl (ka2, 960, .inl f2)), (b2, .inl (kb2, 12, .inl g2))] sz)) (qc_X9_take D h a b d h2 a2 b2 d2 ka kb ka2 kb2 f g f2 g2 n n2 (va_A [(h, .inr (9, [.ref a, .ref b, .ref d, .int n])), (a, .inl (ka, 960, .inl f)), (b, .inl (kb, 12, .inl g)), (h2, .inr (9, [.ref a2, .ref b2, .ref d2, .int n2])), (a2, .inl (ka2, 960, .inl f2)), (b2, .inl (kb2, 12, .inl g2))] sz)) 0 0 (va_A [(h, .inr (9, [.ref a, .ref b, .ref d, .int n])), (a, .inl (ka, 960, .inl f)), (b, .inl (kb, 12, .inl g)), (h2, .inr (9, [.ref a2, .ref b2, .ref d2, .int n2])), (a2, .inl (ka2, 960, .inl f2)), (b2, .inl (kb2, 12, .inl g2))] sz) := by
  refine Met.ofW (cc := cX9_take) (maxL := 2) (ret := none) (by decide) rfl ?_
  intro p e s m args below meth c s₁ B hml hv
  obtain ⟨rfl, hsz, hP, hK, hN, hD0⟩ := hv
  have hx := B.exec
  have hb := B.bytes
  have hr := B.returns
  have hts := atoms_spec (ws := wd_X9_take) B.pre
  have hown : s.vm.findClass RX9 = some m.cls := findClass_of_methodNamed B.named
  have hlocks := B.notSynchronized
  subst hsz
  have hD := hD0.self (sz := s.heap.size)
  generalize hAe : va_A [(h, .inr (9, [.ref a, .ref b, .ref d, .int n])), (a, .inl (ka, 960, .inl f)), (b, .inl (kb, 12, .inl g)), (h2, .inr (9, [.ref a2, .ref b2, .ref d2, .int n2])), (a2, .inl (ka2, 960, .inl f2)), (b2, .inl (kb2, 12, .inl g2))] s.heap.size = A at hD ⊢
  have hA : ∀ q : Nat, s.heap.size ≤ q → A q := fun q h => by rw [← hAe]; exact Or.inr h
  have hS : va_S A s.heap s.heap [] := va_S.rf
  have hiX9 : ∀ w ∈ wsX90, w ∈ wd_X9_take := mb_X9_take_0
  have hl := lv_entry ([.ref h, .ref h2]) (n := 2) (Nat.le_of_ble_eq_true rfl)
  rw [lg_entry_eq]
  generalize (lg_sl ([.ref h, .ref h2]) ++ List.replicate (2 - (lg_sl ([.ref h, .ref h2])).length) Slot.unset).toArray = ls at hl ⊢
  have hl : lv_has ls 2 [(0, .ref h), (1, .ref h2)] := hl
  refine lv_aload_n hx hb dX9_take_0 rfl (lv_at hl 0 rfl) ?_
  refine lv_aload_n hx hb dX9_take_1 rfl (lv_at hl 1 rfl) ?_
  refine va_get (D := D) (ci := 9) (v := .int n2) (C := RX9) (T := TX9) (N := 4) hx hb hts hiX9 hown hK hP 3 rfl rfl 3 (by decide) (hts (.fieldLink RX9 21 "DynamicLogicProver$Shelf" "used" "I") (mo_X9_take 0 rfl)) (fun _ h9 => h9) rfl dX9_take_2 ?_
  refine va_put (D := D) (ci := 9) (v := .int n2) (ty := .int) (C := RX9) (T := TX9) (N := 4) hx hb hts hiX9 tyX9 tyX9_ok nmX9 hown hK hP hD hS 0 rfl rfl 3 (by decide) (hts (.fieldLink RX9 21 "DynamicLogicProver$Shelf" "used" "I") (mo_X9_take 0 rfl)) (fun _ h9 => h9) rfl (tyX9_ok 3 (by decide)) rfl rfl (Nat.le_of_ble_eq_true rfl) dX9_take_5 (fun H locs hP hD hS => ?_)
  have hP : va_P D vwCl [(h, .inr (9, [.ref a, .ref b, .ref d, .int n2])), (a, .inl (ka, 960, .inl f)), (b, .inl (kb, 12, .inl g)), (h2, .inr (9, [.ref a2, .ref b2, .ref d2, .int n2])), (a2, .inl (ka2, 960, .inl f2)), (b2, .inl (kb2, 12, .inl g2))] H := hP
  have hD : va_D A [(h, .inr (9, [.ref a, .ref b, .ref d, .int n2])), (a, .inl (ka, 960, .inl f)), (b, .inl (kb, 12, .inl g)), (h2, .inr (9, [.ref a2, .ref b2, .ref d2, .int n2])), (a2, .inl (ka2, 960, .inl f2)), (b2, .inl (kb2, 12, .inl g2))] := hD
  refine lv_aload_n hx hb dX9_take_8 rfl (lv_at hl 1 rfl) ?_
  refine va_get (D := D) (ci := 9) (v := .ref a2) (C := RX9) (T := TX9) (N := 4) hx hb hts hiX9 hown hK hP 3 rfl rfl 0 (by decide) (hts (.fieldLink RX9 9 "DynamicLogicProver$Shelf" "codes" "[I") (mo_X9_take 1 rfl)) (fun _ h9 => h9) rfl dX9_take_9 ?_
  refine lv_iconst (v := 0) hx hb dX9_take_12 (by decide) ?_
  refine lv_aload_n hx hb dX9_take_13 rfl (lv_at hl 0 rfl) ?_
  refine va_get (D := D) (ci := 9) (v := .ref a) (C := RX9) (T := TX9) (N := 4) hx hb hts hiX9 hown hK hP 0 rfl rfl 0 (by decide) (hts (.fieldLink RX9 9 "DynamicLogicProver$Shelf" "codes" "[I") (mo_X9_take 1 rfl)) (fun _ h9 => h9) rfl dX9_take_14 ?_
  refine lv_iconst (v := 0) hx hb dX9_take_17 (by decide) ?_
  refine lv_sipush (v := 960) hx hb dX9_take_18 (by decide) ?_
  refine va_copyi (ty := .int) hx hb (by rw [hml]; exact hl.1.symm) hown (hts (.methodLink RX9 29 arraycopyName) (mo_X9_take 2 rfl)) (hts (.native arraycopyName) (mo_X9_take 3 rfl)) (hts (.static arraycopyName) (mo_X9_take 4 rfl)) (hts (.initialized "java/lang/System") (mo_X9_take 5 rfl)) hK hP hD hS 4 1 2 0 rfl rfl rfl rfl rfl (by decide) (by decide) (by decide) (Nat.le_of_ble_eq_true rfl) (Nat.le_of_ble_eq_true rfl) (fun _ _ => rfl) (Nat.le_of_ble_eq_true rfl) (by decide) dX9_take_21 (fun H locs hP hD hS => ?_)
  generalize ef_1 : va_cpy f2 f (0 : Int32).toNatClampNeg (0 : Int32).toNatClampNeg (960 : Int32).toNatClampNeg = f_1 at hP hD
  have hP : va_P D vwCl [(h, .inr (9, [.ref a, .ref b, .ref d, .int n2])), (a, .inl (ka, 960, .inl f_1)), (b, .inl (kb, 12, .inl g)), (h2, .inr (9, [.ref a2, .ref b2, .ref d2, .int n2])), (a2, .inl (ka2, 960, .inl f2)), (b2, .inl (kb2, 12, .inl g2))] H := hP
  have hD : va_D A [(h, .inr (9, [.ref a, .ref b, .ref d, .int n2])), (a, .inl (ka, 960, .inl f_1)), (b, .inl (kb, 12, .inl g)), (h2, .inr (9, [.ref a2, .ref b2, .ref d2, .int n2])), (a2, .inl (ka2, 960, .inl f2)), (b2, .inl (kb2, 12, .inl g2))] := hD
  refine lv_aload_n hx hb dX9_take_24 rfl (lv_at hl 1 rfl) ?_
  refine va_get (D := D) (ci := 9) (v := .ref b2) (C := RX9) (T := TX9) (N := 4) hx hb hts hiX9 hown hK hP 3 rfl rfl 1 (by decide) (hts (.fieldLink RX9 15 "DynamicLogicProver$Shelf" "sizes" "[I") (mo_X9_take 6 rfl)) (fun _ h9 => h9) rfl dX9_take_25 ?_
  refine lv_iconst (v := 0) hx hb dX9_take_28 (by decide) ?_
  refine lv_aload_n hx hb dX9_take_29 rfl (lv_at hl 0 rfl) ?_
  refine va_get (D := D) (ci := 9) (v := .ref b) (C := RX9) (T := TX9) (N := 4) hx hb hts hiX9 hown hK hP 0 rfl rfl 1 (by decide) (hts (.fieldLink RX9 15 "DynamicLogicProver$Shelf" "sizes" "[I") (mo_X9_take 6 rfl)) (fun _ h9 => h9) rfl dX9_take_30 ?_
  refine lv_iconst (v := 0) hx hb dX9_take_33 (by decide) ?_
  refine lv_bipush (v := 12) hx hb dX9_take_34 (by decide) ?_
  refine va_copyi (ty := .int) hx hb (by rw [hml]; exact hl.1.symm) hown (hts (.methodLink RX9 29 arraycopyName) (mo_X9_take 2 rfl)) (hts (.native arraycopyName) (mo_X9_take 3 rfl)) (hts (.static arraycopyName) (mo_X9_take 4 rfl)) (hts (.initialized "java/lang/System") (mo_X9_take 5 rfl)) hK hP hD hS 5 2 3 1 rfl rfl rfl rfl rfl (by decide) (by decide) (by decide) (Nat.le_of_ble_eq_true rfl) (Nat.le_of_ble_eq_true rfl) (fun _ _ => rfl) (Nat.le_of_ble_eq_true rfl) (by decide) dX9_take_36 (fun H locs hP hD hS => ?_)
  generalize ef_2 : va_cpy g2 g (0 : Int32).toNatClampNeg (0 : Int32).toNatClampNeg (12 : Int32).toNatClampNeg = f_2 at hP hD
  have hP : va_P D vwCl [(h, .inr (9, [.ref a, .ref b, .ref d, .int n2])), (a, .inl (ka, 960, .inl f_1)), (b, .inl (kb, 12, .inl f_2)), (h2, .inr (9, [.ref a2, .ref b2, .ref d2, .int n2])), (a2, .inl (ka2, 960, .inl f2)), (b2, .inl (kb2, 12, .inl g2))] H := hP
  have hD : va_D A [(h, .inr (9, [.ref a, .ref b, .ref d, .int n2])), (a, .inl (ka, 960, .inl f_1)), (b, .inl (kb, 12, .inl f_2)), (h2, .inr (9, [.ref a2, .ref b2, .ref d2, .int n2])), (a2, .inl (ka2, 960, .inl f2)), (b2, .inl (kb2, 12, .inl g2))] := hD
  have hP9 := hP.sub (ws' := [(h, .inr (9, [.ref a, .ref b, .ref d, .int n2])), (a, .inl (ka, 960, .inl f_1)), (b, .inl (kb, 12, .inl f_2)), (h2, .inr (9, [.ref a2, .ref b2, .ref d2, .int n2])), (a2, .inl (ka2, 960, .inl f2)), (b2, .inl (kb2, 12, .inl g2))]) [0, 1, 2, 3, 4, 5] rfl
  have hD9 := hD.sub (ws' := [(h, .inr (9, [.ref a, .ref b, .ref d, .int n2])), (a, .inl (ka, 960, .inl f_1)), (b, .inl (kb, 12, .inl f_2)), (h2, .inr (9, [.ref a2, .ref b2, .ref d2, .int n2])), (a2, .inl (ka2, 960, .inl f2)), (b2, .inl (kb2, 12, .inl g2))]) [0, 1, 2, 3, 4, 5] (by decide) rfl
  have hK9 := hK.sub (tys' := []) [] rfl
  exact W.vret hx hb hr (fun tZ htZ hW => ⟨⟨(f_1, f_2), rfl, trivial, by rw [htZ]; exact hP9, va_K.moved hW.alike hK9, hD9⟩, hS.F htZ⟩) hS.2.2 dX9_take_39
theorem dX6_init_0 : decode cX6_init 0 = .ok (.aload_n 0, 1) := by decide +kernel
theorem dX6_init_1 : decode cX6_init 1 = .ok (.invokespecial 3, 3) := by decide +kernel
theorem dX6_init_4 : decode cX6_init 4 = .ok (.aload_n 0, 1) := by decide +kernel
theorem dX6_init_5 : decode cX6_init 5 = .ok (.sipush 1024, 3) := by decide +kernel
theorem dX6_init_8 : decode cX6_init 8 = .ok (.newarray .int, 2) := by decide +kernel
theorem dX6_init_10 : decode cX6_init 10 = .ok (.putfield 9, 3) := by decide +kernel
theorem dX6_init_13 : decode cX6_init 13 = .ok (.aload_n 0, 1) := by decide +kernel
theorem dX6_init_14 : decode cX6_init 14 = .ok (.sipush 1024, 3) := by decide +kernel
theorem dX6_init_17 : decode cX6_init 17 = .ok (.newarray .int, 2) := by decide +kernel
theorem dX6_init_19 : decode cX6_init 19 = .ok (.putfield 15, 3) := by decide +kernel
theorem dX6_init_22 : decode cX6_init 22 = .ok (.aload_n 0, 1) := by decide +kernel
theorem dX6_init_23 : decode cX6_init 23 = .ok (.sipush 1024, 3) := by decide +kernel
theorem dX6_init_26 : decode cX6_init 26 = .ok (.newarray .int, 2) := by decide +kernel
theorem dX6_init_28 : decode cX6_init 28 = .ok (.putfield 18, 3) := by decide +kernel
theorem dX6_init_31 : decode cX6_init 31 = .ok (.aload_n 0, 1) := by decide +kernel
theorem dX6_init_32 : decode cX6_init 32 = .ok (.sipush 1024, 3) := by decide +kernel
theorem dX6_init_35 : decode cX6_init 35 = .ok (.newarray .int, 2) := by decide +kernel
theorem dX6_init_37 : decode cX6_init 37 = .ok (.putfield 21, 3) := by decide +kernel
theorem dX6_init_40 : decode cX6_init 40 = .ok (.aload_n 0, 1) := by decide +kernel
theorem dX6_init_41 : decode cX6_init 41 = .ok (.sipush 1024, 3) := by decide +kernel
theorem dX6_init_44 : decode cX6_init 44 = .ok (.newarray .int, 2) := by decide +kernel
theorem dX6_init_46 : decode cX6_init 46 = .ok (.putfield 24, 3) := by decide +kernel
theorem dX6_init_49 : decode cX6_init 49 = .ok (.aload_n 0, 1) := by decide +kernel
theorem dX6_init_50 : decode cX6_init 50 = .ok (.sipush 1024, 3) := by decide +kernel
theorem dX6_init_53 : decode cX6_init 53 = .ok (.newarray .int, 2) := by decide +kernel
theorem dX6_init_55 : decode cX6_init 55 = .ok (.putfield 27, 3) := by decide +kernel
theorem dX6_init_58 : decode cX6_init 58 = .ok (.aload_n 0, 1) := by decide +kernel
theorem dX6_init_59 : decode cX6_init 59 = .ok (.sipush 1024, 3) := by decide +kernel
theorem dX6_init_62 : decode cX6_init 62 = .ok (.newarray .int, 2) := by decide +kernel
theorem dX6_init_64 : decode cX6_init 64 = .ok (.putfield 30, 3) := by decide +kernel
theorem dX6_init_67 : decode cX6_init 67 = .ok (.aload_n 0, 1) := by decide +kernel
theorem dX6_init_68 : decode cX6_init 68 = .ok (.sipush 256, 3) := by decide +kernel
theorem dX6_init_71 : decode cX6_init 71 = .ok (.newarray .int, 2) := by decide +kernel
theorem dX6_init_73 : decode cX6_init 73 = .ok (.putfield 33, 3) := by decide +kernel
theorem dX6_init_76 : decode cX6_init 76 = .ok (.aload_n 0, 1) := by decide +kernel
theorem dX6_init_77 : decode cX6_init 77 = .ok (.sipush 2048, 3) := by decide +kernel
theorem dX6_init_80 : decode cX6_init 80 = .ok (.newarray .int, 2) := by decide +kernel
theorem dX6_init_82 : decode cX6_init 82 = .ok (.putfield 36, 3) := by decide +kernel
theorem dX6_init_85 : decode cX6_init 85 = .ok (.aload_n 0, 1) := by decide +kernel
theorem dX6_init_86 : decode cX6_init 86 = .ok (.sipush 2048, 3) := by decide +kernel
theorem dX6_init_89 : decode cX6_init 89 = .ok (.newarray .int, 2) := by decide +kernel
theorem dX6_init_91 : decode cX6_init 91 = .ok (.putfield 39, 3) := by decide +kernel
theorem dX6_init_94 : decode cX6_init 94 = .ok (.aload_n 0, 1) := by decide +kernel
theorem dX6_init_95 : decode cX6_init 95 = .ok (.sipush 2048, 3) := by decide +kernel
theorem dX6_init_98 : decode cX6_init 98 = .ok (.newarray .int, 2) := by decide +kernel
theorem dX6_init_100 : decode cX6_init 100 = .ok (.putfield 42, 3) := by decide +kernel
theorem dX6_init_103 : decode cX6_init 103 = .ok (.aload_n 0, 1) := by decide +kernel
theorem dX6_init_104 : decode cX6_init 104 = .ok (.getfield 33, 3) := by decide +kernel
theorem dX6_init_107 : decode cX6_init 107 = .ok (.iconst (-1), 1) := by decide +kernel
theorem dX6_init_108 : decode cX6_init 108 = .ok (.invokestatic 45, 3) := by decide +kernel
theorem dX6_init_111 : decode cX6_init 111 = .ok (.aload_n 0, 1) := by decide +kernel
theorem dX6_init_112 : decode cX6_init 112 = .ok (.iconst 0, 1) := by decide +kernel
theorem dX6_init_113 : decode cX6_init 113 = .ok (.putfield 51, 3) := by decide +kernel
theorem dX6_init_116 : decode cX6_init 116 = .ok (.return_, 1) := by decide +kernel
def wo_X6_init : List Cond := [.methodLink RX6 3 objectInit, .instanceMethod objectInit, .code objectInit ⟨#[0xb1]⟩ 1 none, .arrayClass .int, .fieldLink RX6 9 "DynamicLogicProver$Pool" "kinds" "[I", .fieldLink RX6 15 "DynamicLogicProver$Pool" "lefts" "[I", .fieldLink RX6 18 "DynamicLogicProver$Pool" "rights" "[I", .fieldLink RX6 21 "DynamicLogicProver$Pool" "sizes" "[I", .fieldLink RX6 24 "DynamicLogicProver$Pool" "heights" "[I", .fieldLink RX6 27 "DynamicLogicProver$Pool" "lengths" "[I", .fieldLink RX6 30 "DynamicLogicProver$Pool" "chains" "[I", .fieldLink RX6 33 "DynamicLogicProver$Pool" "heads" "[I", .fieldLink RX6 36 "DynamicLogicProver$Pool" "pending" "[I", .fieldLink RX6 39 "DynamicLogicProver$Pool" "here" "[I", .fieldLink RX6 42 "DynamicLogicProver$Pool" "there" "[I", .methodLink RX6 45 yJ7_fill_53178, .static yJ7_fill_53178, .initialized RJ7, .fieldLink RX6 51 "DynamicLogicProver$Pool" "used" "I"]
def wd_X6_init : List Cond := .code yX6_init cX6_init 1 none :: (wo_X6_init ++ (wd_J7_fill_53178 ++ (wsX60 ++ ([] : List Cond))))
theorem mo_X6_init {w : Cond} (i : Nat) (h : wo_X6_init[i]? = some w) : w ∈ wd_X6_init := List.mem_cons_of_mem _ (List.mem_append_left _ (List.mem_of_getElem? h))
theorem mb_X6_init_0 : ∀ w ∈ wd_J7_fill_53178, w ∈ wd_X6_init := fun w h => List.mem_cons_of_mem _ (List.mem_append_right _ (List.mem_append_left _ h))
theorem mb_X6_init_1 : ∀ w ∈ wsX60, w ∈ wd_X6_init := fun w h => List.mem_cons_of_mem _ (List.mem_append_right _ (List.mem_append_right _ (List.mem_append_left _ h)))
theorem hd_X6_init : yX6_init.cls ≠ "java/lang/invoke/MethodHandle" ∧ yX6_init.cls ≠ "java/lang/invoke/VarHandle" ∧ (parseMethodDescriptor yX6_init.desc).map (fun d => d.parameters.length) = some 0 := by decide +kernel
set_option maxRecDepth 20000 in
theorem gw_X6_init : wd_X6_init.all goodWord = true := by decide +kernel
abbrev qc_X6_init (D : va_G) (h : Nat) (A : Nat → Prop) : Array Value → State → Outcome → State → Prop := va_Qv (fun (uZ : (Nat) × (Nat) × (Nat) × (Nat) × (Nat) × (Nat) × (Nat) × (Nat) × (Nat) × (Nat) × (Nat) × (ClassId) × (Nat → Int32)) => True) (fun uZ tZ => kc_pos D A [(h, .inr (6, [.ref uZ.1, .ref uZ.2.1, .ref uZ.2.2.1, .ref uZ.2.2.2.1, .ref uZ.2.2.2.2.1, .ref uZ.2.2.2.2.2.1, .ref uZ.2.2.2.2.2.2.1, .ref uZ.2.2.2.2.2.2.2.1, .ref uZ.2.2.2.2.2.2.2.2.1, .ref uZ.2.2.2.2.2.2.2.2.2.1, .ref uZ.2.2.2.2.2.2.2.2.2.2.1, .int 0])), (uZ.2.2.2.2.2.2.2.1, .inl (uZ.2.2.2.2.2.2.2.2.2.2.2.1, 256, .inl uZ.2.2.2.2.2.2.2.2.2.2.2.2))] [(uZ.2.2.2.2.2.2.2.2.2.2.2.1, .int)] tZ) A
set_option maxHeartbeats 4000000 in
set_option maxRecDepth 100000 in
theorem ct_X6_init (l : Launch) (D : va_G) (h : Nat) (sz : Nat)  : Met l yX6_init wd_X6_init ({ frames := 1, cells := 11, slots := 13568, locals := 23 }) (va_Pc [.ref h] (kc_pre D [] [(h, .inr (6, [.null, .null, .null, .null, .null, .null, .null, .null, .null, .null, .null, .int 0]))] sz)) (qc_X6_init D h (va_A [(h, .inr (6, [.null, .null, .null, .null, .null, .null, .null, .null, .null, .null, .null, .int 0]))] sz)) 11 13568 (va_A [(h, .inr (6, [.null, .null, .null, .null, .null, .null, .null, .null, .null, .null, .null, .int 0]))] sz) := by
  refine Met.ofW (cc := cX6_init) (maxL := 1) (ret := none) (by decide) rfl ?_
  intro p e s m args below meth c s₁ B hml hv
  obtain ⟨rfl, hsz, hP, hK, hN, hD0⟩ := hv
  have hx := B.exec
  have hb := B.bytes
  have hr := B.returns
  have hts := atoms_spec (ws := wd_X6_init) B.pre
  have hown : s.vm.findClass RX6 = some m.cls := findClass_of_methodNamed B.named
  have hlocks := B.notSynchronized
  have hin : meth.name = "<init>" := (name_of_methodNamed B.named B.method).1
  subst hsz
  have hD := hD0.self (sz := s.heap.size)
  generalize hAe : va_A [(h, .inr (6, [.null, .null, .null, .null, .null, .null, .null, .null, .null, .null, .null, .int 0]))] s.heap.size = A at hD ⊢
  have hA : ∀ q : Nat, s.heap.size ≤ q → A q := fun q h => by rw [← hAe]; exact Or.inr h
  have hS : va_S A s.heap s.heap [] := va_S.rf
  have hiX6 : ∀ w ∈ wsX60, w ∈ wd_X6_init := mb_X6_init_1
  have hl := lv_entry ([.ref h]) (n := 1) (Nat.le_of_ble_eq_true rfl)
  rw [lg_entry_eq]
  generalize (lg_sl ([.ref h]) ++ List.replicate (1 - (lg_sl ([.ref h])).length) Slot.unset).toArray = ls at hl ⊢
  have hl : lv_has ls 1 [(0, .ref h)] := hl
  refine lv_aload_n hx hb dX6_init_0 rfl (lv_at hl 0 rfl) ?_
  refine W.objInit hx hb hown (hts (.methodLink RX6 3 objectInit) (mo_X6_init 0 rfl)) (hts (.instanceMethod objectInit) (mo_X6_init 1 rfl)) (hts (.code objectInit ⟨#[0xb1]⟩ 1 none) (mo_X6_init 2 rfl)) rfl (by rw [hml]; exact hl.1) rfl dX6_init_1 (Nat.le_of_ble_eq_true rfl) (Nat.le_of_ble_eq_true rfl) ?_
  refine W.eq (g2 := F0 m 4 ls []) rfl ?_
  refine lv_aload_n hx hb dX6_init_4 rfl (lv_at hl 0 rfl) ?_
  refine lv_sipush (v := 1024) hx hb dX6_init_5 (by decide) ?_
  refine va_newa (atype := .int) (ty := .int) (a0 := (1024, .inl (fun _ => 0))) hx hb (hts (.arrayClass .int) (mo_X6_init 3 rfl)) rfl hK hP hD hS hA (fun _ => rfl) (by decide) (N' := 1024) (by decide) (by decide) (Nat.le_of_ble_eq_true rfl) (Nat.le_of_ble_eq_true rfl) dX6_init_8 (fun q_1 k_2 H hK hP hD hS => ?_)
  have hP : va_P D vwCl [(h, .inr (6, [.null, .null, .null, .null, .null, .null, .null, .null, .null, .null, .null, .int 0])), (q_1, .inl (k_2, 1024, .inl (fun _ => 0)))] H := hP
  have hD : va_D A [(h, .inr (6, [.null, .null, .null, .null, .null, .null, .null, .null, .null, .null, .null, .int 0])), (q_1, .inl (k_2, 1024, .inl (fun _ => 0)))] := hD
  have hK : va_K D vwCl [(k_2, .int)] s := hK
  refine W.widen (k := 1) (n := 1024) (by decide) (Nat.le_of_ble_eq_true rfl) ?_
  refine va_putF (D := D) (ci := 6) (v := .ref q_1) (ty := .array .int) (C := RX6) (T := TX6) (N := 12) hx hb hts hiX6 tyX6 tyX6_ok nmX6 hown hK hP hD hS 0 rfl rfl 0 (by decide) (hts (.fieldLink RX6 9 "DynamicLogicProver$Pool" "kinds" "[I") (mo_X6_init 4 rfl)) (fun _ h9 => h9) rfl hin rfl (tyX6_ok 0 (by decide)) rfl rfl (Nat.le_of_ble_eq_true rfl) dX6_init_10 (fun H locs hP hD hS => ?_)
  have hP : va_P D vwCl [(h, .inr (6, [.ref q_1, .null, .null, .null, .null, .null, .null, .null, .null, .null, .null, .int 0])), (q_1, .inl (k_2, 1024, .inl (fun _ => 0)))] H := hP
  have hD : va_D A [(h, .inr (6, [.ref q_1, .null, .null, .null, .null, .null, .null, .null, .null, .null, .null, .int 0])), (q_1, .inl (k_2, 1024, .inl (fun _ => 0)))] := hD
  refine lv_aload_n hx hb dX6_init_13 rfl (lv_at hl 0 rfl) ?_
  refine lv_sipush (v := 1024) hx hb dX6_init_14 (by decide) ?_
  refine va_newa (atype := .int) (ty := .int) (a0 := (1024, .inl (fun _ => 0))) hx hb (hts (.arrayClass .int) (mo_X6_init 3 rfl)) rfl hK hP hD hS hA (fun _ => rfl) (by decide) (N' := 1024) (by decide) (by decide) (Nat.le_of_ble_eq_true rfl) (Nat.le_of_ble_eq_true rfl) dX6_init_17 (fun q_3 k_4 H hK hP hD hS => ?_)
  have hP : va_P D vwCl [(h, .inr (6, [.ref q_1, .null, .null, .null, .null, .null, .null, .null, .null, .null, .null, .int 0])), (q_1, .inl (k_2, 1024, .inl (fun _ => 0))), (q_3, .inl (k_4, 1024, .inl (fun _ => 0)))] H := hP
  have hD : va_D A [(h, .inr (6, [.ref q_1, .null, .null, .null, .null, .null, .null, .null, .null, .null, .null, .int 0])), (q_1, .inl (k_2, 1024, .inl (fun _ => 0))), (q_3, .inl (k_4, 1024, .inl (fun _ => 0)))] := hD
  have hK : va_K D vwCl [(k_2, .int), (k_4, .int)] s := hK
  refine W.widen (k := 2) (n := 2048) (by decide) (Nat.le_of_ble_eq_true rfl) ?_
  refine va_putF (D := D) (ci := 6) (v := .ref q_3) (ty := .array .int) (C := RX6) (T := TX6) (N := 12) hx hb hts hiX6 tyX6 tyX6_ok nmX6 hown hK hP hD hS 0 rfl rfl 1 (by decide) (hts (.fieldLink RX6 15 "DynamicLogicProver$Pool" "lefts" "[I") (mo_X6_init 5 rfl)) (fun _ h9 => h9) rfl hin rfl (tyX6_ok 1 (by decide)) rfl rfl (Nat.le_of_ble_eq_true rfl) dX6_init_19 (fun H locs hP hD hS => ?_)
  have hP : va_P D vwCl [(h, .inr (6, [.ref q_1, .ref q_3, .null, .null, .null, .null, .null, .null, .null, .null, .null, .int 0])), (q_1, .inl (k_2, 1024, .inl (fun _ => 0))), (q_3, .inl (k_4, 1024, .inl (fun _ => 0)))] H := hP
  have hD : va_D A [(h, .inr (6, [.ref q_1, .ref q_3, .null, .null, .null, .null, .null, .null, .null, .null, .null, .int 0])), (q_1, .inl (k_2, 1024, .inl (fun _ => 0))), (q_3, .inl (k_4, 1024, .inl (fun _ => 0)))] := hD
  refine lv_aload_n hx hb dX6_init_22 rfl (lv_at hl 0 rfl) ?_
  refine lv_sipush (v := 1024) hx hb dX6_init_23 (by decide) ?_
  refine va_newa (atype := .int) (ty := .int) (a0 := (1024, .inl (fun _ => 0))) hx hb (hts (.arrayClass .int) (mo_X6_init 3 rfl)) rfl hK hP hD hS hA (fun _ => rfl) (by decide) (N' := 1024) (by decide) (by decide) (Nat.le_of_ble_eq_true rfl) (Nat.le_of_ble_eq_true rfl) dX6_init_26 (fun q_5 k_6 H hK hP hD hS => ?_)
  have hP : va_P D vwCl [(h, .inr (6, [.ref q_1, .ref q_3, .null, .null, .null, .null, .null, .null, .null, .null, .null, .int 0])), (q_1, .inl (k_2, 1024, .inl (fun _ => 0))), (q_3, .inl (k_4, 1024, .inl (fun _ => 0))), (q_5, .inl (k_6, 1024, .inl (fun _ => 0)))] H := hP
  have hD : va_D A [(h, .inr (6, [.ref q_1, .ref q_3, .null, .null, .null, .null, .null, .null, .null, .null, .null, .int 0])), (q_1, .inl (k_2, 1024, .inl (fun _ => 0))), (q_3, .inl (k_4, 1024, .inl (fun _ => 0))), (q_5, .inl (k_6, 1024, .inl (fun _ => 0)))] := hD
  have hK : va_K D vwCl [(k_2, .int), (k_4, .int), (k_6, .int)] s := hK
  refine W.widen (k := 3) (n := 3072) (by decide) (Nat.le_of_ble_eq_true rfl) ?_
  refine va_putF (D := D) (ci := 6) (v := .ref q_5) (ty := .array .int) (C := RX6) (T := TX6) (N := 12) hx hb hts hiX6 tyX6 tyX6_ok nmX6 hown hK hP hD hS 0 rfl rfl 2 (by decide) (hts (.fieldLink RX6 18 "DynamicLogicProver$Pool" "rights" "[I") (mo_X6_init 6 rfl)) (fun _ h9 => h9) rfl hin rfl (tyX6_ok 2 (by decide)) rfl rfl (Nat.le_of_ble_eq_true rfl) dX6_init_28 (fun H locs hP hD hS => ?_)
  have hP : va_P D vwCl [(h, .inr (6, [.ref q_1, .ref q_3, .ref q_5, .null, .null, .null, .null, .null, .null, .null, .null, .int 0])), (q_1, .inl (k_2, 1024, .inl (fun _ => 0))), (q_3, .inl (k_4, 1024, .inl (fun _ => 0))), (q_5, .inl (k_6, 1024, .inl (fun _ => 0)))] H := hP
  have hD : va_D A [(h, .inr (6, [.ref q_1, .ref q_3, .ref q_5, .null, .null, .null, .null, .null, .null, .null, .null, .int 0])), (q_1, .inl (k_2, 1024, .inl (fun _ => 0))), (q_3, .inl (k_4, 1024, .inl (fun _ => 0))), (q_5, .inl (k_6, 1024, .inl (fun _ => 0)))] := hD
  refine lv_aload_n hx hb dX6_init_31 rfl (lv_at hl 0 rfl) ?_
  refine lv_sipush (v := 1024) hx hb dX6_init_32 (by decide) ?_
  refine va_newa (atype := .int) (ty := .int) (a0 := (1024, .inl (fun _ => 0))) hx hb (hts (.arrayClass .int) (mo_X6_init 3 rfl)) rfl hK hP hD hS hA (fun _ => rfl) (by decide) (N' := 1024) (by decide) (by decide) (Nat.le_of_ble_eq_true rfl) (Nat.le_of_ble_eq_true rfl) dX6_init_35 (fun q_7 k_8 H hK hP hD hS => ?_)
  have hP : va_P D vwCl [(h, .inr (6, [.ref q_1, .ref q_3, .ref q_5, .null, .null, .null, .null, .null, .null, .null, .null, .int 0])), (q_1, .inl (k_2, 1024, .inl (fun _ => 0))), (q_3, .inl (k_4, 1024, .inl (fun _ => 0))), (q_5, .inl (k_6, 1024, .inl (fun _ => 0))), (q_7, .inl (k_8, 1024, .inl (fun _ => 0)))] H := hP
  have hD : va_D A [(h, .inr (6, [.ref q_1, .ref q_3, .ref q_5, .null, .null, .null, .null, .null, .null, .null, .null, .int 0])), (q_1, .inl (k_2, 1024, .inl (fun _ => 0))), (q_3, .inl (k_4, 1024, .inl (fun _ => 0))), (q_5, .inl (k_6, 1024, .inl (fun _ => 0))), (q_7, .inl (k_8, 1024, .inl (fun _ => 0)))] := hD
  have hK : va_K D vwCl [(k_2, .int), (k_4, .int), (k_6, .int), (k_8, .int)] s := hK
  refine W.widen (k := 4) (n := 4096) (by decide) (Nat.le_of_ble_eq_true rfl) ?_
  refine va_putF (D := D) (ci := 6) (v := .ref q_7) (ty := .array .int) (C := RX6) (T := TX6) (N := 12) hx hb hts hiX6 tyX6 tyX6_ok nmX6 hown hK hP hD hS 0 rfl rfl 3 (by decide) (hts (.fieldLink RX6 21 "DynamicLogicProver$Pool" "sizes" "[I") (mo_X6_init 7 rfl)) (fun _ h9 => h9) rfl hin rfl (tyX6_ok 3 (by decide)) rfl rfl (Nat.le_of_ble_eq_true rfl) dX6_init_37 (fun H locs hP hD hS => ?_)
  have hP : va_P D vwCl [(h, .inr (6, [.ref q_1, .ref q_3, .ref q_5, .ref q_7, .null, .null, .null, .null, .null, .null, .null, .int 0])), (q_1, .inl (k_2, 1024, .inl (fun _ => 0))), (q_3, .inl (k_4, 1024, .inl (fun _ => 0))), (q_5, .inl (k_6, 1024, .inl (fun _ => 0))), (q_7, .inl (k_8, 1024, .inl (fun _ => 0)))] H := hP
  have hD : va_D A [(h, .inr (6, [.ref q_1, .ref q_3, .ref q_5, .ref q_7, .null, .null, .null, .null, .null, .null, .null, .int 0])), (q_1, .inl (k_2, 1024, .inl (fun _ => 0))), (q_3, .inl (k_4, 1024, .inl (fun _ => 0))), (q_5, .inl (k_6, 1024, .inl (fun _ => 0))), (q_7, .inl (k_8, 1024, .inl (fun _ => 0)))] := hD
  refine lv_aload_n hx hb dX6_init_40 rfl (lv_at hl 0 rfl) ?_
  refine lv_sipush (v := 1024) hx hb dX6_init_41 (by decide) ?_
  refine va_newa (atype := .int) (ty := .int) (a0 := (1024, .inl (fun _ => 0))) hx hb (hts (.arrayClass .int) (mo_X6_init 3 rfl)) rfl hK hP hD hS hA (fun _ => rfl) (by decide) (N' := 1024) (by decide) (by decide) (Nat.le_of_ble_eq_true rfl) (Nat.le_of_ble_eq_true rfl) dX6_init_44 (fun q_9 k_10 H hK hP hD hS => ?_)
  have hP : va_P D vwCl [(h, .inr (6, [.ref q_1, .ref q_3, .ref q_5, .ref q_7, .null, .null, .null, .null, .null, .null, .null, .int 0])), (q_1, .inl (k_2, 1024, .inl (fun _ => 0))), (q_3, .inl (k_4, 1024, .inl (fun _ => 0))), (q_5, .inl (k_6, 1024, .inl (fun _ => 0))), (q_7, .inl (k_8, 1024, .inl (fun _ => 0))), (q_9, .inl (k_10, 1024, .inl (fun _ => 0)))] H := hP
  have hD : va_D A [(h, .inr (6, [.ref q_1, .ref q_3, .ref q_5, .ref q_7, .null, .null, .null, .null, .null, .null, .null, .int 0])), (q_1, .inl (k_2, 1024, .inl (fun _ => 0))), (q_3, .inl (k_4, 1024, .inl (fun _ => 0))), (q_5, .inl (k_6, 1024, .inl (fun _ => 0))), (q_7, .inl (k_8, 1024, .inl (fun _ => 0))), (q_9, .inl (k_10, 1024, .inl (fun _ => 0)))] := hD
  have hK : va_K D vwCl [(k_2, .int), (k_4, .int), (k_6, .int), (k_8, .int), (k_10, .int)] s := hK
  refine W.widen (k := 5) (n := 5120) (by decide) (Nat.le_of_ble_eq_true rfl) ?_
  refine va_putF (D := D) (ci := 6) (v := .ref q_9) (ty := .array .int) (C := RX6) (T := TX6) (N := 12) hx hb hts hiX6 tyX6 tyX6_ok nmX6 hown hK hP hD hS 0 rfl rfl 4 (by decide) (hts (.fieldLink RX6 24 "DynamicLogicProver$Pool" "heights" "[I") (mo_X6_init 8 rfl)) (fun _ h9 => h9) rfl hin rfl (tyX6_ok 4 (by decide)) rfl rfl (Nat.le_of_ble_eq_true rfl) dX6_init_46 (fun H locs hP hD hS => ?_)
  have hP : va_P D vwCl [(h, .inr (6, [.ref q_1, .ref q_3, .ref q_5, .ref q_7, .ref q_9, .null, .null, .null, .null, .null, .null, .int 0])), (q_1, .inl (k_2, 1024, .inl (fun _ => 0))), (q_3, .inl (k_4, 1024, .inl (fun _ => 0))), (q_5, .inl (k_6, 1024, .inl (fun _ => 0))), (q_7, .inl (k_8, 1024, .inl (fun _ => 0))), (q_9, .inl (k_10, 1024, .inl (fun _ => 0)))] H := hP
  have hD : va_D A [(h, .inr (6, [.ref q_1, .ref q_3, .ref q_5, .ref q_7, .ref q_9, .null, .null, .null, .null, .null, .null, .int 0])), (q_1, .inl (k_2, 1024, .inl (fun _ => 0))), (q_3, .inl (k_4, 1024, .inl (fun _ => 0))), (q_5, .inl (k_6, 1024, .inl (fun _ => 0))), (q_7, .inl (k_8, 1024, .inl (fun _ => 0))), (q_9, .inl (k_10, 1024, .inl (fun _ => 0)))] := hD
  refine lv_aload_n hx hb dX6_init_49 rfl (lv_at hl 0 rfl) ?_
  refine lv_sipush (v := 1024) hx hb dX6_init_50 (by decide) ?_
  refine va_newa (atype := .int) (ty := .int) (a0 := (1024, .inl (fun _ => 0))) hx hb (hts (.arrayClass .int) (mo_X6_init 3 rfl)) rfl hK hP hD hS hA (fun _ => rfl) (by decide) (N' := 1024) (by decide) (by decide) (Nat.le_of_ble_eq_true rfl) (Nat.le_of_ble_eq_true rfl) dX6_init_53 (fun q_11 k_12 H hK hP hD hS => ?_)
  have hP : va_P D vwCl [(h, .inr (6, [.ref q_1, .ref q_3, .ref q_5, .ref q_7, .ref q_9, .null, .null, .null, .null, .null, .null, .int 0])), (q_1, .inl (k_2, 1024, .inl (fun _ => 0))), (q_3, .inl (k_4, 1024, .inl (fun _ => 0))), (q_5, .inl (k_6, 1024, .inl (fun _ => 0))), (q_7, .inl (k_8, 1024, .inl (fun _ => 0))), (q_9, .inl (k_10, 1024, .inl (fun _ => 0))), (q_11, .inl (k_12, 1024, .inl (fun _ => 0)))] H := hP
  have hD : va_D A [(h, .inr (6, [.ref q_1, .ref q_3, .ref q_5, .ref q_7, .ref q_9, .null, .null, .null, .null, .null, .null, .int 0])), (q_1, .inl (k_2, 1024, .inl (fun _ => 0))), (q_3, .inl (k_4, 1024, .inl (fun _ => 0))), (q_5, .inl (k_6, 1024, .inl (fun _ => 0))), (q_7, .inl (k_8, 1024, .inl (fun _ => 0))), (q_9, .inl (k_10, 1024, .inl (fun _ => 0))), (q_11, .inl (k_12, 1024, .inl (fun _ => 0)))] := hD
  have hK : va_K D vwCl [(k_2, .int), (k_4, .int), (k_6, .int), (k_8, .int), (k_10, .int), (k_12, .int)] s := hK
  refine W.widen (k := 6) (n := 6144) (by decide) (Nat.le_of_ble_eq_true rfl) ?_
  refine va_putF (D := D) (ci := 6) (v := .ref q_11) (ty := .array .int) (C := RX6) (T := TX6) (N := 12) hx hb hts hiX6 tyX6 tyX6_ok nmX6 hown hK hP hD hS 0 rfl rfl 5 (by decide) (hts (.fieldLink RX6 27 "DynamicLogicProver$Pool" "lengths" "[I") (mo_X6_init 9 rfl)) (fun _ h9 => h9) rfl hin rfl (tyX6_ok 5 (by decide)) rfl rfl (Nat.le_of_ble_eq_true rfl) dX6_init_55 (fun H locs hP hD hS => ?_)
  have hP : va_P D vwCl [(h, .inr (6, [.ref q_1, .ref q_3, .ref q_5, .ref q_7, .ref q_9, .ref q_11, .null, .null, .null, .null, .null, .int 0])), (q_1, .inl (k_2, 1024, .inl (fun _ => 0))), (q_3, .inl (k_4, 1024, .inl (fun _ => 0))), (q_5, .inl (k_6, 1024, .inl (fun _ => 0))), (q_7, .inl (k_8, 1024, .inl (fun _ => 0))), (q_9, .inl (k_10, 1024, .inl (fun _ => 0))), (q_11, .inl (k_12, 1024, .inl (fun _ => 0)))] H := hP
  have hD : va_D A [(h, .inr (6, [.ref q_1, .ref q_3, .ref q_5, .ref q_7, .ref q_9, .ref q_11, .null, .null, .null, .null, .null, .int 0])), (q_1, .inl (k_2, 1024, .inl (fun _ => 0))), (q_3, .inl (k_4, 1024, .inl (fun _ => 0))), (q_5, .inl (k_6, 1024, .inl (fun _ => 0))), (q_7, .inl (k_8, 1024, .inl (fun _ => 0))), (q_9, .inl (k_10, 1024, .inl (fun _ => 0))), (q_11, .inl (k_12, 1024, .inl (fun _ => 0)))] := hD
  refine lv_aload_n hx hb dX6_init_58 rfl (lv_at hl 0 rfl) ?_
  refine lv_sipush (v := 1024) hx hb dX6_init_59 (by decide) ?_
  refine va_newa (atype := .int) (ty := .int) (a0 := (1024, .inl (fun _ => 0))) hx hb (hts (.arrayClass .int) (mo_X6_init 3 rfl)) rfl hK hP hD hS hA (fun _ => rfl) (by decide) (N' := 1024) (by decide) (by decide) (Nat.le_of_ble_eq_true rfl) (Nat.le_of_ble_eq_true rfl) dX6_init_62 (fun q_13 k_14 H hK hP hD hS => ?_)
  have hP : va_P D vwCl [(h, .inr (6, [.ref q_1, .ref q_3, .ref q_5, .ref q_7, .ref q_9, .ref q_11, .null, .null, .null, .null, .null, .int 0])), (q_1, .inl (k_2, 1024, .inl (fun _ => 0))), (q_3, .inl (k_4, 1024, .inl (fun _ => 0))), (q_5, .inl (k_6, 1024, .inl (fun _ => 0))), (q_7, .inl (k_8, 1024, .inl (fun _ => 0))), (q_9, .inl (k_10, 1024, .inl (fun _ => 0))), (q_11, .inl (k_12, 1024, .inl (fun _ => 0))), (q_13, .inl (k_14, 1024, .inl (fun _ => 0)))] H := hP
  have hD : va_D A [(h, .inr (6, [.ref q_1, .ref q_3, .ref q_5, .ref q_7, .ref q_9, .ref q_11, .null, .null, .null, .null, .null, .int 0])), (q_1, .inl (k_2, 1024, .inl (fun _ => 0))), (q_3, .inl (k_4, 1024, .inl (fun _ => 0))), (q_5, .inl (k_6, 1024, .inl (fun _ => 0))), (q_7, .inl (k_8, 1024, .inl (fun _ => 0))), (q_9, .inl (k_10, 1024, .inl (fun _ => 0))), (q_11, .inl (k_12, 1024, .inl (fun _ => 0))), (q_13, .inl (k_14, 1024, .inl (fun _ => 0)))] := hD
  have hK : va_K D vwCl [(k_2, .int), (k_4, .int), (k_6, .int), (k_8, .int), (k_10, .int), (k_12, .int), (k_14, .int)] s := hK
  refine W.widen (k := 7) (n := 7168) (by decide) (Nat.le_of_ble_eq_true rfl) ?_
  refine va_putF (D := D) (ci := 6) (v := .ref q_13) (ty := .array .int) (C := RX6) (T := TX6) (N := 12) hx hb hts hiX6 tyX6 tyX6_ok nmX6 hown hK hP hD hS 0 rfl rfl 6 (by decide) (hts (.fieldLink RX6 30 "DynamicLogicProver$Pool" "chains" "[I") (mo_X6_init 10 rfl)) (fun _ h9 => h9) rfl hin rfl (tyX6_ok 6 (by decide)) rfl rfl (Nat.le_of_ble_eq_true rfl) dX6_init_64 (fun H locs hP hD hS => ?_)
  have hP : va_P D vwCl [(h, .inr (6, [.ref q_1, .ref q_3, .ref q_5, .ref q_7, .ref q_9, .ref q_11, .ref q_13, .null, .null, .null, .null, .int 0])), (q_1, .inl (k_2, 1024, .inl (fun _ => 0))), (q_3, .inl (k_4, 1024, .inl (fun _ => 0))), (q_5, .inl (k_6, 1024, .inl (fun _ => 0))), (q_7, .inl (k_8, 1024, .inl (fun _ => 0))), (q_9, .inl (k_10, 1024, .inl (fun _ => 0))), (q_11, .inl (k_12, 1024, .inl (fun _ => 0))), (q_13, .inl (k_14, 1024, .inl (fun _ => 0)))] H := hP
  have hD : va_D A [(h, .inr (6, [.ref q_1, .ref q_3, .ref q_5, .ref q_7, .ref q_9, .ref q_11, .ref q_13, .null, .null, .null, .null, .int 0])), (q_1, .inl (k_2, 1024, .inl (fun _ => 0))), (q_3, .inl (k_4, 1024, .inl (fun _ => 0))), (q_5, .inl (k_6, 1024, .inl (fun _ => 0))), (q_7, .inl (k_8, 1024, .inl (fun _ => 0))), (q_9, .inl (k_10, 1024, .inl (fun _ => 0))), (q_11, .inl (k_12, 1024, .inl (fun _ => 0))), (q_13, .inl (k_14, 1024, .inl (fun _ => 0)))] := hD
  refine lv_aload_n hx hb dX6_init_67 rfl (lv_at hl 0 rfl) ?_
  refine lv_sipush (v := 256) hx hb dX6_init_68 (by decide) ?_
  refine va_newa (atype := .int) (ty := .int) (a0 := (256, .inl (fun _ => 0))) hx hb (hts (.arrayClass .int) (mo_X6_init 3 rfl)) rfl hK hP hD hS hA (fun _ => rfl) (by decide) (N' := 256) (by decide) (by decide) (Nat.le_of_ble_eq_true rfl) (Nat.le_of_ble_eq_true rfl) dX6_init_71 (fun q_15 k_16 H hK hP hD hS => ?_)
  have hP : va_P D vwCl [(h, .inr (6, [.ref q_1, .ref q_3, .ref q_5, .ref q_7, .ref q_9, .ref q_11, .ref q_13, .null, .null, .null, .null, .int 0])), (q_1, .inl (k_2, 1024, .inl (fun _ => 0))), (q_3, .inl (k_4, 1024, .inl (fun _ => 0))), (q_5, .inl (k_6, 1024, .inl (fun _ => 0))), (q_7, .inl (k_8, 1024, .inl (fun _ => 0))), (q_9, .inl (k_10, 1024, .inl (fun _ => 0))), (q_11, .inl (k_12, 1024, .inl (fun _ => 0))), (q_13, .inl (k_14, 1024, .inl (fun _ => 0))), (q_15, .inl (k_16, 256, .inl (fun _ => 0)))] H := hP
  have hD : va_D A [(h, .inr (6, [.ref q_1, .ref q_3, .ref q_5, .ref q_7, .ref q_9, .ref q_11, .ref q_13, .null, .null, .null, .null, .int 0])), (q_1, .inl (k_2, 1024, .inl (fun _ => 0))), (q_3, .inl (k_4, 1024, .inl (fun _ => 0))), (q_5, .inl (k_6, 1024, .inl (fun _ => 0))), (q_7, .inl (k_8, 1024, .inl (fun _ => 0))), (q_9, .inl (k_10, 1024, .inl (fun _ => 0))), (q_11, .inl (k_12, 1024, .inl (fun _ => 0))), (q_13, .inl (k_14, 1024, .inl (fun _ => 0))), (q_15, .inl (k_16, 256, .inl (fun _ => 0)))] := hD
  have hK : va_K D vwCl [(k_2, .int), (k_4, .int), (k_6, .int), (k_8, .int), (k_10, .int), (k_12, .int), (k_14, .int), (k_16, .int)] s := hK
  refine W.widen (k := 8) (n := 7424) (by decide) (Nat.le_of_ble_eq_true rfl) ?_
  refine va_putF (D := D) (ci := 6) (v := .ref q_15) (ty := .array .int) (C := RX6) (T := TX6) (N := 12) hx hb hts hiX6 tyX6 tyX6_ok nmX6 hown hK hP hD hS 0 rfl rfl 7 (by decide) (hts (.fieldLink RX6 33 "DynamicLogicProver$Pool" "heads" "[I") (mo_X6_init 11 rfl)) (fun _ h9 => h9) rfl hin rfl (tyX6_ok 7 (by decide)) rfl rfl (Nat.le_of_ble_eq_true rfl) dX6_init_73 (fun H locs hP hD hS => ?_)
  have hP : va_P D vwCl [(h, .inr (6, [.ref q_1, .ref q_3, .ref q_5, .ref q_7, .ref q_9, .ref q_11, .ref q_13, .ref q_15, .null, .null, .null, .int 0])), (q_1, .inl (k_2, 1024, .inl (fun _ => 0))), (q_3, .inl (k_4, 1024, .inl (fun _ => 0))), (q_5, .inl (k_6, 1024, .inl (fun _ => 0))), (q_7, .inl (k_8, 1024, .inl (fun _ => 0))), (q_9, .inl (k_10, 1024, .inl (fun _ => 0))), (q_11, .inl (k_12, 1024, .inl (fun _ => 0))), (q_13, .inl (k_14, 1024, .inl (fun _ => 0))), (q_15, .inl (k_16, 256, .inl (fun _ => 0)))] H := hP
  have hD : va_D A [(h, .inr (6, [.ref q_1, .ref q_3, .ref q_5, .ref q_7, .ref q_9, .ref q_11, .ref q_13, .ref q_15, .null, .null, .null, .int 0])), (q_1, .inl (k_2, 1024, .inl (fun _ => 0))), (q_3, .inl (k_4, 1024, .inl (fun _ => 0))), (q_5, .inl (k_6, 1024, .inl (fun _ => 0))), (q_7, .inl (k_8, 1024, .inl (fun _ => 0))), (q_9, .inl (k_10, 1024, .inl (fun _ => 0))), (q_11, .inl (k_12, 1024, .inl (fun _ => 0))), (q_13, .inl (k_14, 1024, .inl (fun _ => 0))), (q_15, .inl (k_16, 256, .inl (fun _ => 0)))] := hD
  refine lv_aload_n hx hb dX6_init_76 rfl (lv_at hl 0 rfl) ?_
  refine lv_sipush (v := 2048) hx hb dX6_init_77 (by decide) ?_
  refine va_newa (atype := .int) (ty := .int) (a0 := (2048, .inl (fun _ => 0))) hx hb (hts (.arrayClass .int) (mo_X6_init 3 rfl)) rfl hK hP hD hS hA (fun _ => rfl) (by decide) (N' := 2048) (by decide) (by decide) (Nat.le_of_ble_eq_true rfl) (Nat.le_of_ble_eq_true rfl) dX6_init_80 (fun q_17 k_18 H hK hP hD hS => ?_)
  have hP : va_P D vwCl [(h, .inr (6, [.ref q_1, .ref q_3, .ref q_5, .ref q_7, .ref q_9, .ref q_11, .ref q_13, .ref q_15, .null, .null, .null, .int 0])), (q_1, .inl (k_2, 1024, .inl (fun _ => 0))), (q_3, .inl (k_4, 1024, .inl (fun _ => 0))), (q_5, .inl (k_6, 1024, .inl (fun _ => 0))), (q_7, .inl (k_8, 1024, .inl (fun _ => 0))), (q_9, .inl (k_10, 1024, .inl (fun _ => 0))), (q_11, .inl (k_12, 1024, .inl (fun _ => 0))), (q_13, .inl (k_14, 1024, .inl (fun _ => 0))), (q_15, .inl (k_16, 256, .inl (fun _ => 0))), (q_17, .inl (k_18, 2048, .inl (fun _ => 0)))] H := hP
  have hD : va_D A [(h, .inr (6, [.ref q_1, .ref q_3, .ref q_5, .ref q_7, .ref q_9, .ref q_11, .ref q_13, .ref q_15, .null, .null, .null, .int 0])), (q_1, .inl (k_2, 1024, .inl (fun _ => 0))), (q_3, .inl (k_4, 1024, .inl (fun _ => 0))), (q_5, .inl (k_6, 1024, .inl (fun _ => 0))), (q_7, .inl (k_8, 1024, .inl (fun _ => 0))), (q_9, .inl (k_10, 1024, .inl (fun _ => 0))), (q_11, .inl (k_12, 1024, .inl (fun _ => 0))), (q_13, .inl (k_14, 1024, .inl (fun _ => 0))), (q_15, .inl (k_16, 256, .inl (fun _ => 0))), (q_17, .inl (k_18, 2048, .inl (fun _ => 0)))] := hD
  have hK : va_K D vwCl [(k_2, .int), (k_4, .int), (k_6, .int), (k_8, .int), (k_10, .int), (k_12, .int), (k_14, .int), (k_16, .int), (k_18, .int)] s := hK
  refine W.widen (k := 9) (n := 9472) (by decide) (Nat.le_of_ble_eq_true rfl) ?_
  refine va_putF (D := D) (ci := 6) (v := .ref q_17) (ty := .array .int) (C := RX6) (T := TX6) (N := 12) hx hb hts hiX6 tyX6 tyX6_ok nmX6 hown hK hP hD hS 0 rfl rfl 8 (by decide) (hts (.fieldLink RX6 36 "DynamicLogicProver$Pool" "pending" "[I") (mo_X6_init 12 rfl)) (fun _ h9 => h9) rfl hin rfl (tyX6_ok 8 (by decide)) rfl rfl (Nat.le_of_ble_eq_true rfl) dX6_init_82 (fun H locs hP hD hS => ?_)
  have hP : va_P D vwCl [(h, .inr (6, [.ref q_1, .ref q_3, .ref q_5, .ref q_7, .ref q_9, .ref q_11, .ref q_13, .ref q_15, .ref q_17, .null, .null, .int 0])), (q_1, .inl (k_2, 1024, .inl (fun _ => 0))), (q_3, .inl (k_4, 1024, .inl (fun _ => 0))), (q_5, .inl (k_6, 1024, .inl (fun _ => 0))), (q_7, .inl (k_8, 1024, .inl (fun _ => 0))), (q_9, .inl (k_10, 1024, .inl (fun _ => 0))), (q_11, .inl (k_12, 1024, .inl (fun _ => 0))), (q_13, .inl (k_14, 1024, .inl (fun _ => 0))), (q_15, .inl (k_16, 256, .inl (fun _ => 0))), (q_17, .inl (k_18, 2048, .inl (fun _ => 0)))] H := hP
  have hD : va_D A [(h, .inr (6, [.ref q_1, .ref q_3, .ref q_5, .ref q_7, .ref q_9, .ref q_11, .ref q_13, .ref q_15, .ref q_17, .null, .null, .int 0])), (q_1, .inl (k_2, 1024, .inl (fun _ => 0))), (q_3, .inl (k_4, 1024, .inl (fun _ => 0))), (q_5, .inl (k_6, 1024, .inl (fun _ => 0))), (q_7, .inl (k_8, 1024, .inl (fun _ => 0))), (q_9, .inl (k_10, 1024, .inl (fun _ => 0))), (q_11, .inl (k_12, 1024, .inl (fun _ => 0))), (q_13, .inl (k_14, 1024, .inl (fun _ => 0))), (q_15, .inl (k_16, 256, .inl (fun _ => 0))), (q_17, .inl (k_18, 2048, .inl (fun _ => 0)))] := hD
  refine lv_aload_n hx hb dX6_init_85 rfl (lv_at hl 0 rfl) ?_
  refine lv_sipush (v := 2048) hx hb dX6_init_86 (by decide) ?_
  refine va_newa (atype := .int) (ty := .int) (a0 := (2048, .inl (fun _ => 0))) hx hb (hts (.arrayClass .int) (mo_X6_init 3 rfl)) rfl hK hP hD hS hA (fun _ => rfl) (by decide) (N' := 2048) (by decide) (by decide) (Nat.le_of_ble_eq_true rfl) (Nat.le_of_ble_eq_true rfl) dX6_init_89 (fun q_19 k_20 H hK hP hD hS => ?_)
  have hP : va_P D vwCl [(h, .inr (6, [.ref q_1, .ref q_3, .ref q_5, .ref q_7, .ref q_9, .ref q_11, .ref q_13, .ref q_15, .ref q_17, .null, .null, .int 0])), (q_1, .inl (k_2, 1024, .inl (fun _ => 0))), (q_3, .inl (k_4, 1024, .inl (fun _ => 0))), (q_5, .inl (k_6, 1024, .inl (fun _ => 0))), (q_7, .inl (k_8, 1024, .inl (fun _ => 0))), (q_9, .inl (k_10, 1024, .inl (fun _ => 0))), (q_11, .inl (k_12, 1024, .inl (fun _ => 0))), (q_13, .inl (k_14, 1024, .inl (fun _ => 0))), (q_15, .inl (k_16, 256, .inl (fun _ => 0))), (q_17, .inl (k_18, 2048, .inl (fun _ => 0))), (q_19, .inl (k_20, 2048, .inl (fun _ => 0)))] H := hP
  have hD : va_D A [(h, .inr (6, [.ref q_1, .ref q_3, .ref q_5, .ref q_7, .ref q_9, .ref q_11, .ref q_13, .ref q_15, .ref q_17, .null, .null, .int 0])), (q_1, .inl (k_2, 1024, .inl (fun _ => 0))), (q_3, .inl (k_4, 1024, .inl (fun _ => 0))), (q_5, .inl (k_6, 1024, .inl (fun _ => 0))), (q_7, .inl (k_8, 1024, .inl (fun _ => 0))), (q_9, .inl (k_10, 1024, .inl (fun _ => 0))), (q_11, .inl (k_12, 1024, .inl (fun _ => 0))), (q_13, .inl (k_14, 1024, .inl (fun _ => 0))), (q_15, .inl (k_16, 256, .inl (fun _ => 0))), (q_17, .inl (k_18, 2048, .inl (fun _ => 0))), (q_19, .inl (k_20, 2048, .inl (fun _ => 0)))] := hD
  have hK : va_K D vwCl [(k_2, .int), (k_4, .int), (k_6, .int), (k_8, .int), (k_10, .int), (k_12, .int), (k_14, .int), (k_16, .int), (k_18, .int), (k_20, .int)] s := hK
  refine W.widen (k := 10) (n := 11520) (by decide) (Nat.le_of_ble_eq_true rfl) ?_
  refine va_putF (D := D) (ci := 6) (v := .ref q_19) (ty := .array .int) (C := RX6) (T := TX6) (N := 12) hx hb hts hiX6 tyX6 tyX6_ok nmX6 hown hK hP hD hS 0 rfl rfl 9 (by decide) (hts (.fieldLink RX6 39 "DynamicLogicProver$Pool" "here" "[I") (mo_X6_init 13 rfl)) (fun _ h9 => h9) rfl hin rfl (tyX6_ok 9 (by decide)) rfl rfl (Nat.le_of_ble_eq_true rfl) dX6_init_91 (fun H locs hP hD hS => ?_)
  have hP : va_P D vwCl [(h, .inr (6, [.ref q_1, .ref q_3, .ref q_5, .ref q_7, .ref q_9, .ref q_11, .ref q_13, .ref q_15, .ref q_17, .ref q_19, .null, .int 0])), (q_1, .inl (k_2, 1024, .inl (fun _ => 0))), (q_3, .inl (k_4, 1024, .inl (fun _ => 0))), (q_5, .inl (k_6, 1024, .inl (fun _ => 0))), (q_7, .inl (k_8, 1024, .inl (fun _ => 0))), (q_9, .inl (k_10, 1024, .inl (fun _ => 0))), (q_11, .inl (k_12, 1024, .inl (fun _ => 0))), (q_13, .inl (k_14, 1024, .inl (fun _ => 0))), (q_15, .inl (k_16, 256, .inl (fun _ => 0))), (q_17, .inl (k_18, 2048, .inl (fun _ => 0))), (q_19, .inl (k_20, 2048, .inl (fun _ => 0)))] H := hP
  have hD : va_D A [(h, .inr (6, [.ref q_1, .ref q_3, .ref q_5, .ref q_7, .ref q_9, .ref q_11, .ref q_13, .ref q_15, .ref q_17, .ref q_19, .null, .int 0])), (q_1, .inl (k_2, 1024, .inl (fun _ => 0))), (q_3, .inl (k_4, 1024, .inl (fun _ => 0))), (q_5, .inl (k_6, 1024, .inl (fun _ => 0))), (q_7, .inl (k_8, 1024, .inl (fun _ => 0))), (q_9, .inl (k_10, 1024, .inl (fun _ => 0))), (q_11, .inl (k_12, 1024, .inl (fun _ => 0))), (q_13, .inl (k_14, 1024, .inl (fun _ => 0))), (q_15, .inl (k_16, 256, .inl (fun _ => 0))), (q_17, .inl (k_18, 2048, .inl (fun _ => 0))), (q_19, .inl (k_20, 2048, .inl (fun _ => 0)))] := hD
  refine lv_aload_n hx hb dX6_init_94 rfl (lv_at hl 0 rfl) ?_
  refine lv_sipush (v := 2048) hx hb dX6_init_95 (by decide) ?_
  refine va_newa (atype := .int) (ty := .int) (a0 := (2048, .inl (fun _ => 0))) hx hb (hts (.arrayClass .int) (mo_X6_init 3 rfl)) rfl hK hP hD hS hA (fun _ => rfl) (by decide) (N' := 2048) (by decide) (by decide) (Nat.le_of_ble_eq_true rfl) (Nat.le_of_ble_eq_true rfl) dX6_init_98 (fun q_21 k_22 H hK hP hD hS => ?_)
  have hP : va_P D vwCl [(h, .inr (6, [.ref q_1, .ref q_3, .ref q_5, .ref q_7, .ref q_9, .ref q_11, .ref q_13, .ref q_15, .ref q_17, .ref q_19, .null, .int 0])), (q_1, .inl (k_2, 1024, .inl (fun _ => 0))), (q_3, .inl (k_4, 1024, .inl (fun _ => 0))), (q_5, .inl (k_6, 1024, .inl (fun _ => 0))), (q_7, .inl (k_8, 1024, .inl (fun _ => 0))), (q_9, .inl (k_10, 1024, .inl (fun _ => 0))), (q_11, .inl (k_12, 1024, .inl (fun _ => 0))), (q_13, .inl (k_14, 1024, .inl (fun _ => 0))), (q_15, .inl (k_16, 256, .inl (fun _ => 0))), (q_17, .inl (k_18, 2048, .inl (fun _ => 0))), (q_19, .inl (k_20, 2048, .inl (fun _ => 0))), (q_21, .inl (k_22, 2048, .inl (fun _ => 0)))] H := hP
  have hD : va_D A [(h, .inr (6, [.ref q_1, .ref q_3, .ref q_5, .ref q_7, .ref q_9, .ref q_11, .ref q_13, .ref q_15, .ref q_17, .ref q_19, .null, .int 0])), (q_1, .inl (k_2, 1024, .inl (fun _ => 0))), (q_3, .inl (k_4, 1024, .inl (fun _ => 0))), (q_5, .inl (k_6, 1024, .inl (fun _ => 0))), (q_7, .inl (k_8, 1024, .inl (fun _ => 0))), (q_9, .inl (k_10, 1024, .inl (fun _ => 0))), (q_11, .inl (k_12, 1024, .inl (fun _ => 0))), (q_13, .inl (k_14, 1024, .inl (fun _ => 0))), (q_15, .inl (k_16, 256, .inl (fun _ => 0))), (q_17, .inl (k_18, 2048, .inl (fun _ => 0))), (q_19, .inl (k_20, 2048, .inl (fun _ => 0))), (q_21, .inl (k_22, 2048, .inl (fun _ => 0)))] := hD
  have hK : va_K D vwCl [(k_2, .int), (k_4, .int), (k_6, .int), (k_8, .int), (k_10, .int), (k_12, .int), (k_14, .int), (k_16, .int), (k_18, .int), (k_20, .int), (k_22, .int)] s := hK
  refine W.widen (k := 11) (n := 13568) (by decide) (Nat.le_of_ble_eq_true rfl) ?_
  refine va_putF (D := D) (ci := 6) (v := .ref q_21) (ty := .array .int) (C := RX6) (T := TX6) (N := 12) hx hb hts hiX6 tyX6 tyX6_ok nmX6 hown hK hP hD hS 0 rfl rfl 10 (by decide) (hts (.fieldLink RX6 42 "DynamicLogicProver$Pool" "there" "[I") (mo_X6_init 14 rfl)) (fun _ h9 => h9) rfl hin rfl (tyX6_ok 10 (by decide)) rfl rfl (Nat.le_of_ble_eq_true rfl) dX6_init_100 (fun H locs hP hD hS => ?_)
  have hP : va_P D vwCl [(h, .inr (6, [.ref q_1, .ref q_3, .ref q_5, .ref q_7, .ref q_9, .ref q_11, .ref q_13, .ref q_15, .ref q_17, .ref q_19, .ref q_21, .int 0])), (q_1, .inl (k_2, 1024, .inl (fun _ => 0))), (q_3, .inl (k_4, 1024, .inl (fun _ => 0))), (q_5, .inl (k_6, 1024, .inl (fun _ => 0))), (q_7, .inl (k_8, 1024, .inl (fun _ => 0))), (q_9, .inl (k_10, 1024, .inl (fun _ => 0))), (q_11, .inl (k_12, 1024, .inl (fun _ => 0))), (q_13, .inl (k_14, 1024, .inl (fun _ => 0))), (q_15, .inl (k_16, 256, .inl (fun _ => 0))), (q_17, .inl (k_18, 2048, .inl (fun _ => 0))), (q_19, .inl (k_20, 2048, .inl (fun _ => 0))), (q_21, .inl (k_22, 2048, .inl (fun _ => 0)))] H := hP
  have hD : va_D A [(h, .inr (6, [.ref q_1, .ref q_3, .ref q_5, .ref q_7, .ref q_9, .ref q_11, .ref q_13, .ref q_15, .ref q_17, .ref q_19, .ref q_21, .int 0])), (q_1, .inl (k_2, 1024, .inl (fun _ => 0))), (q_3, .inl (k_4, 1024, .inl (fun _ => 0))), (q_5, .inl (k_6, 1024, .inl (fun _ => 0))), (q_7, .inl (k_8, 1024, .inl (fun _ => 0))), (q_9, .inl (k_10, 1024, .inl (fun _ => 0))), (q_11, .inl (k_12, 1024, .inl (fun _ => 0))), (q_13, .inl (k_14, 1024, .inl (fun _ => 0))), (q_15, .inl (k_16, 256, .inl (fun _ => 0))), (q_17, .inl (k_18, 2048, .inl (fun _ => 0))), (q_19, .inl (k_20, 2048, .inl (fun _ => 0))), (q_21, .inl (k_22, 2048, .inl (fun _ => 0)))] := hD
  refine lv_aload_n hx hb dX6_init_103 rfl (lv_at hl 0 rfl) ?_
  refine va_get (D := D) (ci := 6) (v := .ref q_15) (C := RX6) (T := TX6) (N := 12) hx hb hts hiX6 hown hK hP 0 rfl rfl 7 (by decide) (hts (.fieldLink RX6 33 "DynamicLogicProver$Pool" "heads" "[I") (mo_X6_init 11 rfl)) (fun _ h9 => h9) rfl dX6_init_104 ?_
  refine lv_iconst (v := (-1)) hx hb dX6_init_107 (by decide) ?_
  refine kc_Sv (As := [.ref q_15, .int (-1)]) (rest := []) (wr := [(h, .inr (6, [.ref q_1, .ref q_3, .ref q_5, .ref q_7, .ref q_9, .ref q_11, .ref q_13, .ref q_15, .ref q_17, .ref q_19, .ref q_21, .int 0])), (q_1, .inl (k_2, 1024, .inl (fun _ => 0))), (q_3, .inl (k_4, 1024, .inl (fun _ => 0))), (q_5, .inl (k_6, 1024, .inl (fun _ => 0))), (q_7, .inl (k_8, 1024, .inl (fun _ => 0))), (q_9, .inl (k_10, 1024, .inl (fun _ => 0))), (q_11, .inl (k_12, 1024, .inl (fun _ => 0))), (q_13, .inl (k_14, 1024, .inl (fun _ => 0))), (q_17, .inl (k_18, 2048, .inl (fun _ => 0))), (q_19, .inl (k_20, 2048, .inl (fun _ => 0))), (q_21, .inl (k_22, 2048, .inl (fun _ => 0)))]) ⟨hx, hb, hml, hown, hts⟩ (ct_J7_fill_53178 l D q_15 k_16 256 (fun _ => 0) (-1) _ (by decide)) (va_cwS 2 hts (kg_S (mo_X6_init 15 rfl) (mo_X6_init 16 rfl) (mo_X6_init 17 rfl) (goodIn_sub mb_X6_init_0 gw_J7_fill_53178)) rfl rfl rfl hd_J7_fill_53178 ⟨Nat.le_of_ble_eq_true rfl, Nat.le_of_ble_eq_true rfl⟩) hK hN hP hD hS hA [8] [0, 1, 2, 3, 4, 5, 6, 7, 9, 10, 11] [7] rfl rfl (by decide) (by decide) (by decide) rfl rfl hl.1 rfl (Nat.le_of_ble_eq_true rfl) dX6_init_108 ⟨Nat.le_of_ble_eq_true rfl, Nat.le_of_ble_eq_true rfl⟩ (fun u_24 H locs w_25 hP hD hK1 hS => ?_)
  obtain ⟨o_26, rfl⟩ : ∃ z, z = u_24 := ⟨_, rfl⟩
  have hP : va_P D vwCl [(h, .inr (6, [.ref q_1, .ref q_3, .ref q_5, .ref q_7, .ref q_9, .ref q_11, .ref q_13, .ref q_15, .ref q_17, .ref q_19, .ref q_21, .int 0])), (q_1, .inl (k_2, 1024, .inl (fun _ => 0))), (q_3, .inl (k_4, 1024, .inl (fun _ => 0))), (q_5, .inl (k_6, 1024, .inl (fun _ => 0))), (q_7, .inl (k_8, 1024, .inl (fun _ => 0))), (q_9, .inl (k_10, 1024, .inl (fun _ => 0))), (q_11, .inl (k_12, 1024, .inl (fun _ => 0))), (q_13, .inl (k_14, 1024, .inl (fun _ => 0))), (q_17, .inl (k_18, 2048, .inl (fun _ => 0))), (q_19, .inl (k_20, 2048, .inl (fun _ => 0))), (q_21, .inl (k_22, 2048, .inl (fun _ => 0))), (q_15, .inl (k_16, 256, .inl o_26))] H := hP
  have hD : va_D A [(h, .inr (6, [.ref q_1, .ref q_3, .ref q_5, .ref q_7, .ref q_9, .ref q_11, .ref q_13, .ref q_15, .ref q_17, .ref q_19, .ref q_21, .int 0])), (q_1, .inl (k_2, 1024, .inl (fun _ => 0))), (q_3, .inl (k_4, 1024, .inl (fun _ => 0))), (q_5, .inl (k_6, 1024, .inl (fun _ => 0))), (q_7, .inl (k_8, 1024, .inl (fun _ => 0))), (q_9, .inl (k_10, 1024, .inl (fun _ => 0))), (q_11, .inl (k_12, 1024, .inl (fun _ => 0))), (q_13, .inl (k_14, 1024, .inl (fun _ => 0))), (q_17, .inl (k_18, 2048, .inl (fun _ => 0))), (q_19, .inl (k_20, 2048, .inl (fun _ => 0))), (q_21, .inl (k_22, 2048, .inl (fun _ => 0))), (q_15, .inl (k_16, 256, .inl o_26))] := hD
  have w_25 : ∀ k, k < 256 → o_26 k = (-1) := w_25
  refine lv_aload_n hx hb dX6_init_111 rfl (lv_at hl 0 rfl) ?_
  refine lv_iconst (v := 0) hx hb dX6_init_112 (by decide) ?_
  refine va_put (D := D) (ci := 6) (v := .int 0) (ty := .int) (C := RX6) (T := TX6) (N := 12) hx hb hts hiX6 tyX6 tyX6_ok nmX6 hown hK hP hD hS 0 rfl rfl 11 (by decide) (hts (.fieldLink RX6 51 "DynamicLogicProver$Pool" "used" "I") (mo_X6_init 18 rfl)) (fun _ h9 => h9) rfl (tyX6_ok 11 (by decide)) rfl rfl (Nat.le_of_ble_eq_true rfl) dX6_init_113 (fun H locs hP hD hS => ?_)
  have hP : va_P D vwCl [(h, .inr (6, [.ref q_1, .ref q_3, .ref q_5, .ref q_7, .ref q_9, .ref q_11, .ref q_13, .ref q_15, .ref q_17, .ref q_19, .ref q_21, .int 0])), (q_1, .inl (k_2, 1024, .inl (fun _ => 0))), (q_3, .inl (k_4, 1024, .inl (fun _ => 0))), (q_5, .inl (k_6, 1024, .inl (fun _ => 0))), (q_7, .inl (k_8, 1024, .inl (fun _ => 0))), (q_9, .inl (k_10, 1024, .inl (fun _ => 0))), (q_11, .inl (k_12, 1024, .inl (fun _ => 0))), (q_13, .inl (k_14, 1024, .inl (fun _ => 0))), (q_17, .inl (k_18, 2048, .inl (fun _ => 0))), (q_19, .inl (k_20, 2048, .inl (fun _ => 0))), (q_21, .inl (k_22, 2048, .inl (fun _ => 0))), (q_15, .inl (k_16, 256, .inl o_26))] H := hP
  have hD : va_D A [(h, .inr (6, [.ref q_1, .ref q_3, .ref q_5, .ref q_7, .ref q_9, .ref q_11, .ref q_13, .ref q_15, .ref q_17, .ref q_19, .ref q_21, .int 0])), (q_1, .inl (k_2, 1024, .inl (fun _ => 0))), (q_3, .inl (k_4, 1024, .inl (fun _ => 0))), (q_5, .inl (k_6, 1024, .inl (fun _ => 0))), (q_7, .inl (k_8, 1024, .inl (fun _ => 0))), (q_9, .inl (k_10, 1024, .inl (fun _ => 0))), (q_11, .inl (k_12, 1024, .inl (fun _ => 0))), (q_13, .inl (k_14, 1024, .inl (fun _ => 0))), (q_17, .inl (k_18, 2048, .inl (fun _ => 0))), (q_19, .inl (k_20, 2048, .inl (fun _ => 0))), (q_21, .inl (k_22, 2048, .inl (fun _ => 0))), (q_15, .inl (k_16, 256, .inl o_26))] := hD
  have hP9 := hP.sub (ws' := [(h, .inr (6, [.ref q_1, .ref q_3, .ref q_5, .ref q_7, .ref q_9, .ref q_11, .ref q_13, .ref q_15, .ref q_17, .ref q_19, .ref q_21, .int 0])), (q_15, .inl (k_16, 256, .inl o_26))]) [0, 11] rfl
  have hD9 := hD.sub (ws' := [(h, .inr (6, [.ref q_1, .ref q_3, .ref q_5, .ref q_7, .ref q_9, .ref q_11, .ref q_13, .ref q_15, .ref q_17, .ref q_19, .ref q_21, .int 0])), (q_15, .inl (k_16, 256, .inl o_26))]) [0, 11] (by decide) rfl
  have hK9 := hK.sub (tys' := [(k_16, .int)]) [7] rfl
  refine W.widen (k := 11) (n := 13568) (Nat.le_of_ble_eq_true rfl) (Nat.le_of_ble_eq_true rfl) ?_
  exact W.vret hx hb hr (fun tZ htZ hW => ⟨⟨(q_1, q_3, q_5, q_7, q_9, q_11, q_13, q_15, q_17, q_19, q_21, k_16, o_26), rfl, trivial, by rw [htZ]; exact hP9, va_K.moved hW.alike hK9, hD9⟩, hS.F htZ⟩) hS.2.2 dX6_init_116
theorem dX6_clear_0 : decode cX6_clear 0 = .ok (.aload_n 0, 1) := by decide +kernel
theorem dX6_clear_1 : decode cX6_clear 1 = .ok (.getfield 33, 3) := by decide +kernel
theorem dX6_clear_4 : decode cX6_clear 4 = .ok (.iconst (-1), 1) := by decide +kernel
theorem dX6_clear_5 : decode cX6_clear 5 = .ok (.invokestatic 45, 3) := by decide +kernel
theorem dX6_clear_8 : decode cX6_clear 8 = .ok (.aload_n 0, 1) := by decide +kernel
theorem dX6_clear_9 : decode cX6_clear 9 = .ok (.iconst 0, 1) := by decide +kernel
theorem dX6_clear_10 : decode cX6_clear 10 = .ok (.putfield 51, 3) := by decide +kernel
theorem dX6_clear_13 : decode cX6_clear 13 = .ok (.return_, 1) := by decide +kernel
def wo_X6_clear : List Cond := [.fieldLink RX6 33 "DynamicLogicProver$Pool" "heads" "[I", .methodLink RX6 45 yJ7_fill_53178, .static yJ7_fill_53178, .initialized RJ7, .fieldLink RX6 51 "DynamicLogicProver$Pool" "used" "I"]
def wd_X6_clear : List Cond := .code yX6_clear cX6_clear 1 none :: (wo_X6_clear ++ (wd_J7_fill_53178 ++ (wsX60 ++ ([] : List Cond))))
theorem mo_X6_clear {w : Cond} (i : Nat) (h : wo_X6_clear[i]? = some w) : w ∈ wd_X6_clear := List.mem_cons_of_mem _ (List.mem_append_left _ (List.mem_of_getElem? h))
theorem mb_X6_clear_0 : ∀ w ∈ wd_J7_fill_53178, w ∈ wd_X6_clear := fun w h => List.mem_cons_of_mem _ (List.mem_append_right _ (List.mem_append_left _ h))
theorem mb_X6_clear_1 : ∀ w ∈ wsX60, w ∈ wd_X6_clear := fun w h => List.mem_cons_of_mem _ (List.mem_append_right _ (List.mem_append_right _ (List.mem_append_left _ h)))
theorem hd_X6_clear : yX6_clear.cls ≠ "java/lang/invoke/MethodHandle" ∧ yX6_clear.cls ≠ "java/lang/invoke/VarHandle" ∧ (parseMethodDescriptor yX6_clear.desc).map (fun d => d.parameters.length) = some 0 := by decide +kernel
set_option maxRecDepth 20000 in
theorem gw_X6_clear : wd_X6_clear.all goodWord = true := by decide +kernel
abbrev qc_X6_clear (D : va_G) (h : Nat) (a1 : Nat) (a2 : Nat) (a3 : Nat) (a4 : Nat) (a5 : Nat) (a6 : Nat) (a7 : Nat) (a8 : Nat) (a9 : Nat) (b1 : Nat) (b2 : Nat) (k8 : ClassId) (f : Nat → Int32) (n : Int32) (A : Nat → Prop) : Array Value → State → Outcome → State → Prop := va_Qv (fun (uZ : (Nat → Int32)) => True) (fun uZ tZ => kc_pos D A [(h, .inr (6, [.ref a1, .ref a2, .ref a3, .ref a4, .ref a5, .ref a6, .ref a7, .ref a8, .ref a9, .ref b1, .ref b2, .int 0])), (a8, .inl (k8, 256, .inl uZ))] [] tZ) A
set_option maxHeartbeats 4000000 in
set_option maxRecDepth 100000 in
theorem ct_X6_clear (l : Launch) (D : va_G) (h : Nat) (a1 : Nat) (a2 : Nat) (a3 : Nat) (a4 : Nat) (a5 : Nat) (a6 : Nat) (a7 : Nat) (a8 : Nat) (a9 : Nat) (b1 : Nat) (b2 : Nat) (k8 : ClassId) (f : Nat → Int32) (n : Int32) (sz : Nat)  : Met l yX6_clear wd_X6_clear ({ frames := 1, cells := 0, slots := 0, locals := 23 }) (va_Pc [.ref h] (kc_pre D [(k8, .int)] [(h, .inr (6, [.ref a1, .ref a2, .ref a3, .ref a4, .ref a5, .ref a6, .ref a7, .ref a8, .ref a9, .ref b1, .ref b2, .int n])), (a8, .inl (k8, 256, .inl f))] sz)) (qc_X6_clear D h a1 a2 a3 a4 a5 a6 a7 a8 a9 b1 b2 k8 f n (va_A [(h, .inr (6, [.ref a1, .ref a2, .ref a3, .ref a4, .ref a5, .ref a6, .ref a7, .ref a8, .ref a9, .ref b1, .ref b2, .int n])), (a8, .inl (k8, 256, .inl f))] sz)) 0 0 (va_A [(h, .inr (6, [.ref a1, .ref a2, .ref a3, .ref a4, .ref a5, .ref a6, .ref a7, .ref a8, .ref a9, .ref b1, .ref b2, .int n])), (a8, .inl (k8, 256, .inl f))] sz) := by
  refine Met.ofW (cc := cX6_clear) (maxL := 1) (ret := none) (by decide) rfl ?_
  intro p e s m args below meth c s₁ B hml hv
  obtain ⟨rfl, hsz, hP, hK, hN, hD0⟩ := hv
  have hx := B.exec
  have hb := B.bytes
  have hr := B.returns
  have hts := atoms_spec (ws := wd_X6_clear) B.pre
  have hown : s.vm.findClass RX6 = some m.cls := findClass_of_methodNamed B.named
  have hlocks := B.notSynchronized
  subst hsz
  have hD := hD0.self (sz := s.heap.size)
  generalize hAe : va_A [(h, .inr (6, [.ref a1, .ref a2, .ref a3, .ref a4, .ref a5, .ref a6, .ref a7, .ref a8, .ref a9, .ref b1, .ref b2, .int n])), (a8, .inl (k8, 256, .inl f))] s.heap.size = A at hD ⊢
  have hA : ∀ q : Nat, s.heap.size ≤ q → A q := fun q h => by rw [← hAe]; exact Or.inr h
  have hS : va_S A s.heap s.heap [] := va_S.rf
  have hiX6 : ∀ w ∈ wsX60, w ∈ wd_X6_clear := mb_X6_clear_1
  have hl := lv_entry ([.ref h]) (n := 1) (Nat.le_of_ble_eq_true rfl)
  rw [lg_entry_eq]
  generalize (lg_sl ([.ref h]) ++ List.replicate (1 - (lg_sl ([.ref h])).length) Slot.unset).toArray = ls at hl ⊢
  have hl : lv_has ls 1 [(0, .ref h)] := hl
  refine lv_aload_n hx hb dX6_clear_0 rfl (lv_at hl 0 rfl) ?_
  refine va_get (D := D) (ci := 6) (v := .ref a8) (C := RX6) (T := TX6) (N := 12) hx hb hts hiX6 hown hK hP 0 rfl rfl 7 (by decide) (hts (.fieldLink RX6 33 "DynamicLogicProver$Pool" "heads" "[I") (mo_X6_clear 0 rfl)) (fun _ h9 => h9) rfl dX6_clear_1 ?_
  refine lv_iconst (v := (-1)) hx hb dX6_clear_4 (by decide) ?_
  refine kc_Sv (As := [.ref a8, .int (-1)]) (rest := []) (wr := [(h, .inr (6, [.ref a1, .ref a2, .ref a3, .ref a4, .ref a5, .ref a6, .ref a7, .ref a8, .ref a9, .ref b1, .ref b2, .int n]))]) ⟨hx, hb, hml, hown, hts⟩ (ct_J7_fill_53178 l D a8 k8 256 f (-1) _ (by decide)) (va_cwS 2 hts (kg_S (mo_X6_clear 1 rfl) (mo_X6_clear 2 rfl) (mo_X6_clear 3 rfl) (goodIn_sub mb_X6_clear_0 gw_J7_fill_53178)) rfl rfl rfl hd_J7_fill_53178 ⟨Nat.le_of_ble_eq_true rfl, Nat.le_of_ble_eq_true rfl⟩) hK hN hP hD hS hA [1] [0] [0] rfl rfl (by decide) (by decide) (by decide) rfl rfl hl.1 rfl (Nat.le_of_ble_eq_true rfl) dX6_clear_5 ⟨Nat.le_of_ble_eq_true rfl, Nat.le_of_ble_eq_true rfl⟩ (fun u_2 H locs w_3 hP hD hK1 hS => ?_)
  obtain ⟨o_4, rfl⟩ : ∃ z, z = u_2 := ⟨_, rfl⟩
  have hP : va_P D vwCl [(h, .inr (6, [.ref a1, .ref a2, .ref a3, .ref a4, .ref a5, .ref a6, .ref a7, .ref a8, .ref a9, .ref b1, .ref b2, .int n])), (a8, .inl (k8, 256, .inl o_4))] H := hP
  have hD : va_D A [(h, .inr (6, [.ref a1, .ref a2, .ref a3, .ref a4, .ref a5, .ref a6, .ref a7, .ref a8, .ref a9, .ref b1, .ref b2, .int n])), (a8, .inl (k8, 256, .inl o_4))] := hD
  have w_3 : ∀ k, k < 256 → o_4 k = (-1) := w_3
  refine lv_aload_n hx hb dX6_clear_8 rfl (lv_at hl 0 rfl) ?_
  refine lv_iconst (v := 0) hx hb dX6_clear_9 (by decide) ?_
  refine va_put (D := D) (ci := 6) (v := .int 0) (ty := .int) (C := RX6) (T := TX6) (N := 12) hx hb hts hiX6 tyX6 tyX6_ok nmX6 hown hK hP hD hS 0 rfl rfl 11 (by decide) (hts (.fieldLink RX6 51 "DynamicLogicProver$Pool" "used" "I") (mo_X6_clear 4 rfl)) (fun _ h9 => h9) rfl (tyX6_ok 11 (by decide)) rfl rfl (Nat.le_of_ble_eq_true rfl) dX6_clear_10 (fun H locs hP hD hS => ?_)
  have hP : va_P D vwCl [(h, .inr (6, [.ref a1, .ref a2, .ref a3, .ref a4, .ref a5, .ref a6, .ref a7, .ref a8, .ref a9, .ref b1, .ref b2, .int 0])), (a8, .inl (k8, 256, .inl o_4))] H := hP
  have hD : va_D A [(h, .inr (6, [.ref a1, .ref a2, .ref a3, .ref a4, .ref a5, .ref a6, .ref a7, .ref a8, .ref a9, .ref b1, .ref b2, .int 0])), (a8, .inl (k8, 256, .inl o_4))] := hD
  have hP9 := hP.sub (ws' := [(h, .inr (6, [.ref a1, .ref a2, .ref a3, .ref a4, .ref a5, .ref a6, .ref a7, .ref a8, .ref a9, .ref b1, .ref b2, .int 0])), (a8, .inl (k8, 256, .inl o_4))]) [0, 1] rfl
  have hD9 := hD.sub (ws' := [(h, .inr (6, [.ref a1, .ref a2, .ref a3, .ref a4, .ref a5, .ref a6, .ref a7, .ref a8, .ref a9, .ref b1, .ref b2, .int 0])), (a8, .inl (k8, 256, .inl o_4))]) [0, 1] (by decide) rfl
  have hK9 := hK.sub (tys' := []) [] rfl
  exact W.vret hx hb hr (fun tZ htZ hW => ⟨⟨o_4, rfl, trivial, by rw [htZ]; exact hP9, va_K.moved hW.alike hK9, hD9⟩, hS.F htZ⟩) hS.2.2 dX6_clear_13
theorem dX0_init_0 : decode cX0_init 0 = .ok (.aload_n 0, 1) := by decide +kernel
theorem dX0_init_1 : decode cX0_init 1 = .ok (.invokespecial 3, 3) := by decide +kernel
theorem dX0_init_4 : decode cX0_init 4 = .ok (.aload_n 0, 1) := by decide +kernel
theorem dX0_init_5 : decode cX0_init 5 = .ok (.bipush 6, 2) := by decide +kernel
theorem dX0_init_7 : decode cX0_init 7 = .ok (.newarray .int, 2) := by decide +kernel
theorem dX0_init_9 : decode cX0_init 9 = .ok (.putfield 11, 3) := by decide +kernel
theorem dX0_init_12 : decode cX0_init 12 = .ok (.aload_n 0, 1) := by decide +kernel
theorem dX0_init_13 : decode cX0_init 13 = .ok (.bipush 6, 2) := by decide +kernel
theorem dX0_init_15 : decode cX0_init 15 = .ok (.newarray .int, 2) := by decide +kernel
theorem dX0_init_17 : decode cX0_init 17 = .ok (.putfield 15, 3) := by decide +kernel
theorem dX0_init_20 : decode cX0_init 20 = .ok (.aload_n 0, 1) := by decide +kernel
theorem dX0_init_21 : decode cX0_init 21 = .ok (.sipush 360, 3) := by decide +kernel
theorem dX0_init_24 : decode cX0_init 24 = .ok (.newarray .long, 2) := by decide +kernel
theorem dX0_init_26 : decode cX0_init 26 = .ok (.putfield 18, 3) := by decide +kernel
theorem dX0_init_29 : decode cX0_init 29 = .ok (.aload_n 0, 1) := by decide +kernel
theorem dX0_init_30 : decode cX0_init 30 = .ok (.getfield 11, 3) := by decide +kernel
theorem dX0_init_33 : decode cX0_init 33 = .ok (.iconst (-1), 1) := by decide +kernel
theorem dX0_init_34 : decode cX0_init 34 = .ok (.invokestatic 22, 3) := by decide +kernel
theorem dX0_init_37 : decode cX0_init 37 = .ok (.return_, 1) := by decide +kernel
def wo_X0_init : List Cond := [.methodLink RX0 3 objectInit, .instanceMethod objectInit, .code objectInit ⟨#[0xb1]⟩ 1 none, .arrayClass .int, .fieldLink RX0 11 "DynamicLogicProver$Buffers" "types" "[I", .fieldLink RX0 15 "DynamicLogicProver$Buffers" "lengths" "[I", .arrayClass .long, .fieldLink RX0 18 "DynamicLogicProver$Buffers" "cells" "[J", .methodLink RX0 22 yJ7_fill_53178, .static yJ7_fill_53178, .initialized RJ7]
def wd_X0_init : List Cond := .code yX0_init cX0_init 1 none :: (wo_X0_init ++ (wd_J7_fill_53178 ++ (wsX00 ++ ([] : List Cond))))
theorem mo_X0_init {w : Cond} (i : Nat) (h : wo_X0_init[i]? = some w) : w ∈ wd_X0_init := List.mem_cons_of_mem _ (List.mem_append_left _ (List.mem_of_getElem? h))
theorem mb_X0_init_0 : ∀ w ∈ wd_J7_fill_53178, w ∈ wd_X0_init := fun w h => List.mem_cons_of_mem _ (List.mem_append_right _ (List.mem_append_left _ h))
theorem mb_X0_init_1 : ∀ w ∈ wsX00, w ∈ wd_X0_init := fun w h => List.mem_cons_of_mem _ (List.mem_append_right _ (List.mem_append_right _ (List.mem_append_left _ h)))
theorem hd_X0_init : yX0_init.cls ≠ "java/lang/invoke/MethodHandle" ∧ yX0_init.cls ≠ "java/lang/invoke/VarHandle" ∧ (parseMethodDescriptor yX0_init.desc).map (fun d => d.parameters.length) = some 0 := by decide +kernel
set_option maxRecDepth 20000 in
theorem gw_X0_init : wd_X0_init.all goodWord = true := by decide +kernel
abbrev qc_X0_init (D : va_G) (h : Nat) (A : Nat → Prop) : Array Value → State → Outcome → State → Prop := va_Qv (fun (uZ : (Nat) × (Nat) × (Nat) × (ClassId) × (ClassId) × (ClassId) × (Nat → Int32)) => ∀ k, k < 6 → uZ.2.2.2.2.2.2 k = -1) (fun uZ tZ => kc_pos D A [(h, .inr (0, [.ref uZ.1, .ref uZ.2.1, .ref uZ.2.2.1])), (uZ.1, .inl (uZ.2.2.2.1, 6, .inl uZ.2.2.2.2.2.2)), (uZ.2.1, .inl (uZ.2.2.2.2.1, 6, .inl (fun _ => 0))), (uZ.2.2.1, .inl (uZ.2.2.2.2.2.1, 360, .inr (.inl (fun _ => 0))))] [(uZ.2.2.2.1, .int), (uZ.2.2.2.2.1, .int), (uZ.2.2.2.2.2.1, .long)] tZ) A
set_option maxHeartbeats 4000000 in
set_option maxRecDepth 100000 in
theorem ct_X0_init (l : Launch) (D : va_G) (h : Nat) (sz : Nat)  : Met l yX0_init wd_X0_init ({ frames := 1, cells := 3, slots := 372, locals := 23 }) (va_Pc [.ref h] (kc_pre D [] [(h, .inr (0, [.null, .null, .null]))] sz)) (qc_X0_init D h (va_A [(h, .inr (0, [.null, .null, .null]))] sz)) 3 372 (va_A [(h, .inr (0, [.null, .null, .null]))] sz) := by
  refine Met.ofW (cc := cX0_init) (maxL := 1) (ret := none) (by decide) rfl ?_
  intro p e s m args below meth c s₁ B hml hv
  obtain ⟨rfl, hsz, hP, hK, hN, hD0⟩ := hv
  have hx := B.exec
  have hb := B.bytes
  have hr := B.returns
  have hts := atoms_spec (ws := wd_X0_init) B.pre
  have hown : s.vm.findClass RX0 = some m.cls := findClass_of_methodNamed B.named
  have hlocks := B.notSynchronized
  have hin : meth.name = "<init>" := (name_of_methodNamed B.named B.method).1
  subst hsz
  have hD := hD0.self (sz := s.heap.size)
  generalize hAe : va_A [(h, .inr (0, [.null, .null, .null]))] s.heap.size = A at hD ⊢
  have hA : ∀ q : Nat, s.heap.size ≤ q → A q := fun q h => by rw [← hAe]; exact Or.inr h
  have hS : va_S A s.heap s.heap [] := va_S.rf
  have hiX0 : ∀ w ∈ wsX00, w ∈ wd_X0_init := mb_X0_init_1
  have hl := lv_entry ([.ref h]) (n := 1) (Nat.le_of_ble_eq_true rfl)
  rw [lg_entry_eq]
  generalize (lg_sl ([.ref h]) ++ List.replicate (1 - (lg_sl ([.ref h])).length) Slot.unset).toArray = ls at hl ⊢
  have hl : lv_has ls 1 [(0, .ref h)] := hl
  refine lv_aload_n hx hb dX0_init_0 rfl (lv_at hl 0 rfl) ?_
  refine W.objInit hx hb hown (hts (.methodLink RX0 3 objectInit) (mo_X0_init 0 rfl)) (hts (.instanceMethod objectInit) (mo_X0_init 1 rfl)) (hts (.code objectInit ⟨#[0xb1]⟩ 1 none) (mo_X0_init 2 rfl)) rfl (by rw [hml]; exact hl.1) rfl dX0_init_1 (Nat.le_of_ble_eq_true rfl) (Nat.le_of_ble_eq_true rfl) ?_
  refine W.eq (g2 := F0 m 4 ls []) rfl ?_
  refine lv_aload_n hx hb dX0_init_4 rfl (lv_at hl 0 rfl) ?_
  refine lv_bipush (v := 6) hx hb dX0_init_5 (by decide) ?_
  refine va_newa (atype := .int) (ty := .int) (a0 := (6, .inl (fun _ => 0))) hx hb (hts (.arrayClass .int) (mo_X0_init 3 rfl)) rfl hK hP hD hS hA (fun _ => rfl) (by decide) (N' := 6) (by decide) (by decide) (Nat.le_of_ble_eq_true rfl) (Nat.le_of_ble_eq_true rfl) dX0_init_7 (fun q_1 k_2 H hK hP hD hS => ?_)
  have hP : va_P D vwCl [(h, .inr (0, [.null, .null, .null])), (q_1, .inl (k_2, 6, .inl (fun _ => 0)))] H := hP
  have hD : va_D A [(h, .inr (0, [.null, .null, .null])), (q_1, .inl (k_2, 6, .inl (fun _ => 0)))] := hD
  have hK : va_K D vwCl [(k_2, .int)] s := hK
  refine W.widen (k := 1) (n := 6) (by decide) (Nat.le_of_ble_eq_true rfl) ?_
  refine va_putF (D := D) (ci := 0) (v := .ref q_1) (ty := .array .int) (C := RX0) (T := TX0) (N := 3) hx hb hts hiX0 tyX0 tyX0_ok nmX0 hown hK hP hD hS 0 rfl rfl 0 (by decide) (hts (.fieldLink RX0 11 "DynamicLogicProver$Buffers" "types" "[I") (mo_X0_init 4 rfl)) (fun _ h9 => h9) rfl hin rfl (tyX0_ok 0 (by decide)) rfl rfl (Nat.le_of_ble_eq_true rfl) dX0_init_9 (fun H locs hP hD hS => ?_)
  have hP : va_P D vwCl [(h, .inr (0, [.ref q_1, .null, .null])), (q_1, .inl (k_2, 6, .inl (fun _ => 0)))] H := hP
  have hD : va_D A [(h, .inr (0, [.ref q_1, .null, .null])), (q_1, .inl (k_2, 6, .inl (fun _ => 0)))] := hD
  refine lv_aload_n hx hb dX0_init_12 rfl (lv_at hl 0 rfl) ?_
  refine lv_bipush (v := 6) hx hb dX0_init_13 (by decide) ?_
  refine va_newa (atype := .int) (ty := .int) (a0 := (6, .inl (fun _ => 0))) hx hb (hts (.arrayClass .int) (mo_X0_init 3 rfl)) rfl hK hP hD hS hA (fun _ => rfl) (by decide) (N' := 6) (by decide) (by decide) (Nat.le_of_ble_eq_true rfl) (Nat.le_of_ble_eq_true rfl) dX0_init_15 (fun q_3 k_4 H hK hP hD hS => ?_)
  have hP : va_P D vwCl [(h, .inr (0, [.ref q_1, .null, .null])), (q_1, .inl (k_2, 6, .inl (fun _ => 0))), (q_3, .inl (k_4, 6, .inl (fun _ => 0)))] H := hP
  have hD : va_D A [(h, .inr (0, [.ref q_1, .null, .null])), (q_1, .inl (k_2, 6, .inl (fun _ => 0))), (q_3, .inl (k_4, 6, .inl (fun _ => 0)))] := hD
  have hK : va_K D vwCl [(k_2, .int), (k_4, .int)] s := hK
  refine W.widen (k := 2) (n := 12) (by decide) (Nat.le_of_ble_eq_true rfl) ?_
  refine va_putF (D := D) (ci := 0) (v := .ref q_3) (ty := .array .int) (C := RX0) (T := TX0) (N := 3) hx hb hts hiX0 tyX0 tyX0_ok nmX0 hown hK hP hD hS 0 rfl rfl 1 (by decide) (hts (.fieldLink RX0 15 "DynamicLogicProver$Buffers" "lengths" "[I") (mo_X0_init 5 rfl)) (fun _ h9 => h9) rfl hin rfl (tyX0_ok 1 (by decide)) rfl rfl (Nat.le_of_ble_eq_true rfl) dX0_init_17 (fun H locs hP hD hS => ?_)
  have hP : va_P D vwCl [(h, .inr (0, [.ref q_1, .ref q_3, .null])), (q_1, .inl (k_2, 6, .inl (fun _ => 0))), (q_3, .inl (k_4, 6, .inl (fun _ => 0)))] H := hP
  have hD : va_D A [(h, .inr (0, [.ref q_1, .ref q_3, .null])), (q_1, .inl (k_2, 6, .inl (fun _ => 0))), (q_3, .inl (k_4, 6, .inl (fun _ => 0)))] := hD
  refine lv_aload_n hx hb dX0_init_20 rfl (lv_at hl 0 rfl) ?_
  refine lv_sipush (v := 360) hx hb dX0_init_21 (by decide) ?_
  refine va_newa (atype := .long) (ty := .long) (a0 := (360, .inr (.inl (fun _ => 0)))) hx hb (hts (.arrayClass .long) (mo_X0_init 6 rfl)) rfl hK hP hD hS hA (fun _ => rfl) (by decide) (N' := 360) (by decide) (by decide) (Nat.le_of_ble_eq_true rfl) (Nat.le_of_ble_eq_true rfl) dX0_init_24 (fun q_5 k_6 H hK hP hD hS => ?_)
  have hP : va_P D vwCl [(h, .inr (0, [.ref q_1, .ref q_3, .null])), (q_1, .inl (k_2, 6, .inl (fun _ => 0))), (q_3, .inl (k_4, 6, .inl (fun _ => 0))), (q_5, .inl (k_6, 360, .inr (.inl (fun _ => 0))))] H := hP
  have hD : va_D A [(h, .inr (0, [.ref q_1, .ref q_3, .null])), (q_1, .inl (k_2, 6, .inl (fun _ => 0))), (q_3, .inl (k_4, 6, .inl (fun _ => 0))), (q_5, .inl (k_6, 360, .inr (.inl (fun _ => 0))))] := hD
  have hK : va_K D vwCl [(k_2, .int), (k_4, .int), (k_6, .long)] s := hK
  refine W.widen (k := 3) (n := 372) (by decide) (Nat.le_of_ble_eq_true rfl) ?_
  refine va_putF (D := D) (ci := 0) (v := .ref q_5) (ty := .array .long) (C := RX0) (T := TX0) (N := 3) hx hb hts hiX0 tyX0 tyX0_ok nmX0 hown hK hP hD hS 0 rfl rfl 2 (by decide) (hts (.fieldLink RX0 18 "DynamicLogicProver$Buffers" "cells" "[J") (mo_X0_init 7 rfl)) (fun _ h9 => h9) rfl hin rfl (tyX0_ok 2 (by decide)) rfl rfl (Nat.le_of_ble_eq_true rfl) dX0_init_26 (fun H locs hP hD hS => ?_)
  have hP : va_P D vwCl [(h, .inr (0, [.ref q_1, .ref q_3, .ref q_5])), (q_1, .inl (k_2, 6, .inl (fun _ => 0))), (q_3, .inl (k_4, 6, .inl (fun _ => 0))), (q_5, .inl (k_6, 360, .inr (.inl (fun _ => 0))))] H := hP
  have hD : va_D A [(h, .inr (0, [.ref q_1, .ref q_3, .ref q_5])), (q_1, .inl (k_2, 6, .inl (fun _ => 0))), (q_3, .inl (k_4, 6, .inl (fun _ => 0))), (q_5, .inl (k_6, 360, .inr (.inl (fun _ => 0))))] := hD
  refine lv_aload_n hx hb dX0_init_29 rfl (lv_at hl 0 rfl) ?_
  refine va_get (D := D) (ci := 0) (v := .ref q_1) (C := RX0) (T := TX0) (N := 3) hx hb hts hiX0 hown hK hP 0 rfl rfl 0 (by decide) (hts (.fieldLink RX0 11 "DynamicLogicProver$Buffers" "types" "[I") (mo_X0_init 4 rfl)) (fun _ h9 => h9) rfl dX0_init_30 ?_
  refine lv_iconst (v := (-1)) hx hb dX0_init_33 (by decide) ?_
  refine kc_Sv (As := [.ref q_1, .int (-1)]) (rest := []) (wr := [(h, .inr (0, [.ref q_1, .ref q_3, .ref q_5])), (q_3, .inl (k_4, 6, .inl (fun _ => 0))), (q_5, .inl (k_6, 360, .inr (.inl (fun _ => 0))))]) ⟨hx, hb, hml, hown, hts⟩ (ct_J7_fill_53178 l D q_1 k_2 6 (fun _ => 0) (-1) _ (by decide)) (va_cwS 2 hts (kg_S (mo_X0_init 8 rfl) (mo_X0_init 9 rfl) (mo_X0_init 10 rfl) (goodIn_sub mb_X0_init_0 gw_J7_fill_53178)) rfl rfl rfl hd_J7_fill_53178 ⟨Nat.le_of_ble_eq_true rfl, Nat.le_of_ble_eq_true rfl⟩) hK hN hP hD hS hA [1] [0, 2, 3] [0] rfl rfl (by decide) (by decide) (by decide) rfl rfl hl.1 rfl (Nat.le_of_ble_eq_true rfl) dX0_init_34 ⟨Nat.le_of_ble_eq_true rfl, Nat.le_of_ble_eq_true rfl⟩ (fun u_8 H locs w_9 hP hD hK1 hS => ?_)
  obtain ⟨o_10, rfl⟩ : ∃ z, z = u_8 := ⟨_, rfl⟩
  have hP : va_P D vwCl [(h, .inr (0, [.ref q_1, .ref q_3, .ref q_5])), (q_3, .inl (k_4, 6, .inl (fun _ => 0))), (q_5, .inl (k_6, 360, .inr (.inl (fun _ => 0)))), (q_1, .inl (k_2, 6, .inl o_10))] H := hP
  have hD : va_D A [(h, .inr (0, [.ref q_1, .ref q_3, .ref q_5])), (q_3, .inl (k_4, 6, .inl (fun _ => 0))), (q_5, .inl (k_6, 360, .inr (.inl (fun _ => 0)))), (q_1, .inl (k_2, 6, .inl o_10))] := hD
  have w_9 : ∀ k, k < 6 → o_10 k = (-1) := w_9
  have hP9 := hP.sub (ws' := [(h, .inr (0, [.ref q_1, .ref q_3, .ref q_5])), (q_1, .inl (k_2, 6, .inl o_10)), (q_3, .inl (k_4, 6, .inl (fun _ => 0))), (q_5, .inl (k_6, 360, .inr (.inl (fun _ => 0))))]) [0, 3, 1, 2] rfl
  have hD9 := hD.sub (ws' := [(h, .inr (0, [.ref q_1, .ref q_3, .ref q_5])), (q_1, .inl (k_2, 6, .inl o_10)), (q_3, .inl (k_4, 6, .inl (fun _ => 0))), (q_5, .inl (k_6, 360, .inr (.inl (fun _ => 0))))]) [0, 3, 1, 2] (by decide) rfl
  have hK9 := hK.sub (tys' := [(k_2, .int), (k_4, .int), (k_6, .long)]) [0, 1, 2] rfl
  refine W.widen (k := 3) (n := 372) (Nat.le_of_ble_eq_true rfl) (Nat.le_of_ble_eq_true rfl) ?_
  exact W.vret hx hb hr (fun tZ htZ hW => ⟨⟨(q_1, q_3, q_5, k_2, k_4, k_6, o_10), rfl, w_9, by rw [htZ]; exact hP9, va_K.moved hW.alike hK9, hD9⟩, hS.F htZ⟩) hS.2.2 dX0_init_37
theorem dX0_has_0 : decode cX0_has 0 = .ok (.iload_n 1, 1) := by decide +kernel
theorem dX0_has_1 : decode cX0_has 1 = .ok (.ifCond .lt 13, 3) := by decide +kernel
theorem dX0_has_4 : decode cX0_has 4 = .ok (.iload_n 1, 1) := by decide +kernel
theorem dX0_has_5 : decode cX0_has 5 = .ok (.bipush 6, 2) := by decide +kernel
theorem dX0_has_7 : decode cX0_has 7 = .ok (.if_icmp .ge 7, 3) := by decide +kernel
theorem dX0_has_10 : decode cX0_has 10 = .ok (.iconst 1, 1) := by decide +kernel
theorem dX0_has_11 : decode cX0_has 11 = .ok (.goto 4, 3) := by decide +kernel
theorem dX0_has_14 : decode cX0_has 14 = .ok (.iconst 0, 1) := by decide +kernel
theorem dX0_has_15 : decode cX0_has 15 = .ok (.ireturn, 1) := by decide +kernel
def wo_X0_has : List Cond := []
def wd_X0_has : List Cond := .code yX0_has cX0_has 2 (some .boolean) :: (wo_X0_has ++ ([] : List Cond))
theorem hd_X0_has : yX0_has.cls ≠ "java/lang/invoke/MethodHandle" ∧ yX0_has.cls ≠ "java/lang/invoke/VarHandle" ∧ (parseMethodDescriptor yX0_has.desc).map (fun d => d.parameters.length) = some 1 := by decide +kernel
set_option maxRecDepth 20000 in
theorem gw_X0_has : wd_X0_has.all goodWord = true := by decide +kernel
abbrev qc_X0_has (D : va_G) (h : Nat) (a : Nat) (b : Nat) (d : Nat) (w : Int32) (A : Nat → Prop) : Array Value → State → Outcome → State → Prop := va_Qi (fun (r : Int32) (uZ : Unit) => (r = 1 ∧ (0 ≤ w ∧ w < 6)) ∨ (r = 0 ∧ ¬ (0 ≤ w ∧ w < 6))) (fun uZ tZ => kc_pos D A [(h, .inr (0, [.ref a, .ref b, .ref d]))] [] tZ) A
set_option maxHeartbeats 4000000 in
set_option maxRecDepth 100000 in
theorem ct_X0_has (l : Launch) (D : va_G) (h : Nat) (a : Nat) (b : Nat) (d : Nat) (w : Int32) (sz : Nat)  : Met l yX0_has wd_X0_has ({ frames := 0, cells := 0, slots := 0, locals := 0 }) (va_Pc [.ref h, .int w] (kc_pre D [] [(h, .inr (0, [.ref a, .ref b, .ref d]))] sz)) (qc_X0_has D h a b d w (va_A [(h, .inr (0, [.ref a, .ref b, .ref d]))] sz)) 0 0 (va_A [(h, .inr (0, [.ref a, .ref b, .ref d]))] sz) := by
  refine Met.ofW (cc := cX0_has) (maxL := 2) (ret := (some .boolean)) (by decide) rfl ?_
  intro p e s m args below meth c s₁ B hml hv
  obtain ⟨rfl, hsz, hP, hK, hN, hD0⟩ := hv
  have hx := B.exec
  have hb := B.bytes
  have hr := B.returns
  have hts := atoms_spec (ws := wd_X0_has) B.pre
  have hown : s.vm.findClass RX0 = some m.cls := findClass_of_methodNamed B.named
  have hlocks := B.notSynchronized
  subst hsz
  have hD := hD0.self (sz := s.heap.size)
  generalize hAe : va_A [(h, .inr (0, [.ref a, .ref b, .ref d]))] s.heap.size = A at hD ⊢
  have hA : ∀ q : Nat, s.heap.size ≤ q → A q := fun q h => by rw [← hAe]; exact Or.inr h
  have hS : va_S A s.heap s.heap [] := va_S.rf
  have hl := lv_entry ([.ref h, .int w]) (n := 2) (Nat.le_of_ble_eq_true rfl)
  rw [lg_entry_eq]
  generalize (lg_sl ([.ref h, .int w]) ++ List.replicate (2 - (lg_sl ([.ref h, .int w])).length) Slot.unset).toArray = ls at hl ⊢
  have hl : lv_has ls 2 [(0, .ref h), (1, .int w)] := hl
  refine lv_iload_n hx hb dX0_has_0 rfl (lv_at hl 1 rfl) ?_
  refine lv_if_lt (tgt := 14) hx hb dX0_has_1 (by decide) (fun c_1 => ?_) (fun c_1 => ?_)
  · refine lv_iconst (v := 0) hx hb dX0_has_14 (by decide) ?_
    have hP9 := hP.sub (ws' := [(h, .inr (0, [.ref a, .ref b, .ref d]))]) [0] rfl
    have hD9 := hD.sub (ws' := [(h, .inr (0, [.ref a, .ref b, .ref d]))]) [0] (by decide) rfl
    have hK9 := hK.sub (tys' := []) [] rfl
    exact W.zret (v := 0) (ty := .boolean) hx hb hr rfl (fun tZ htZ hW => ⟨⟨0, (), rfl, (Or.inr ⟨rfl, by (try simp only [fa_lt, fa_le, fa_eq]); (try simp only [fa_lt, fa_le, fa_eq] at c_1); (try simp only [ti_0] at *); omega⟩), by rw [htZ]; exact hP9, va_K.moved hW.alike hK9, hD9⟩, hS.F htZ⟩) hS.2.2 dX0_has_15
  · refine lv_iload_n hx hb dX0_has_4 rfl (lv_at hl 1 rfl) ?_
    refine lv_bipush (v := 6) hx hb dX0_has_5 (by decide) ?_
    refine lv_icmp_ge (tgt := 14) hx hb dX0_has_7 (by decide) (fun c_2 => ?_) (fun c_2 => ?_)
    · refine lv_iconst (v := 0) hx hb dX0_has_14 (by decide) ?_
      have hP9 := hP.sub (ws' := [(h, .inr (0, [.ref a, .ref b, .ref d]))]) [0] rfl
      have hD9 := hD.sub (ws' := [(h, .inr (0, [.ref a, .ref b, .ref d]))]) [0] (by decide) rfl
      have hK9 := hK.sub (tys' := []) [] rfl
      exact W.zret (v := 0) (ty := .boolean) hx hb hr rfl (fun tZ htZ hW => ⟨⟨0, (), rfl, (Or.inr ⟨rfl, by (try simp only [fa_lt, fa_le, fa_eq]); (try simp only [fa_lt, fa_le, fa_eq] at c_1); (try simp only [fa_lt, fa_le, fa_eq] at c_2); (try simp only [ti_0] at *); omega⟩), by rw [htZ]; exact hP9, va_K.moved hW.alike hK9, hD9⟩, hS.F htZ⟩) hS.2.2 dX0_has_15
    · refine lv_iconst (v := 1) hx hb dX0_has_10 (by decide) ?_
      refine lv_goto (tgt := 15) hx hb dX0_has_11 (by decide) ?_
      have hP9 := hP.sub (ws' := [(h, .inr (0, [.ref a, .ref b, .ref d]))]) [0] rfl
      have hD9 := hD.sub (ws' := [(h, .inr (0, [.ref a, .ref b, .ref d]))]) [0] (by decide) rfl
      have hK9 := hK.sub (tys' := []) [] rfl
      exact W.zret (v := 1) (ty := .boolean) hx hb hr rfl (fun tZ htZ hW => ⟨⟨1, (), rfl, (Or.inl ⟨rfl, by (try simp only [fa_lt, fa_le, fa_eq]); (try simp only [fa_lt, fa_le, fa_eq] at c_1); (try simp only [fa_lt, fa_le, fa_eq] at c_2); (try simp only [ti_0] at *); omega⟩), by rw [htZ]; exact hP9, va_K.moved hW.alike hK9, hD9⟩, hS.F htZ⟩) hS.2.2 dX0_has_15
theorem dX0_isType_0 : decode cX0_isType 0 = .ok (.iload_n 1, 1) := by decide +kernel
theorem dX0_isType_1 : decode cX0_isType 1 = .ok (.ifCond .lt 12, 3) := by decide +kernel
theorem dX0_isType_4 : decode cX0_isType 4 = .ok (.iload_n 1, 1) := by decide +kernel
theorem dX0_isType_5 : decode cX0_isType 5 = .ok (.iconst 5, 1) := by decide +kernel
theorem dX0_isType_6 : decode cX0_isType 6 = .ok (.if_icmp .ge 7, 3) := by decide +kernel
theorem dX0_isType_9 : decode cX0_isType 9 = .ok (.iconst 1, 1) := by decide +kernel
theorem dX0_isType_10 : decode cX0_isType 10 = .ok (.goto 4, 3) := by decide +kernel
theorem dX0_isType_13 : decode cX0_isType 13 = .ok (.iconst 0, 1) := by decide +kernel
theorem dX0_isType_14 : decode cX0_isType 14 = .ok (.ireturn, 1) := by decide +kernel
def wo_X0_isType : List Cond := []
def wd_X0_isType : List Cond := .code yX0_isType cX0_isType 2 (some .boolean) :: (wo_X0_isType ++ ([] : List Cond))
theorem hd_X0_isType : yX0_isType.cls ≠ "java/lang/invoke/MethodHandle" ∧ yX0_isType.cls ≠ "java/lang/invoke/VarHandle" ∧ (parseMethodDescriptor yX0_isType.desc).map (fun d => d.parameters.length) = some 1 := by decide +kernel
set_option maxRecDepth 20000 in
theorem gw_X0_isType : wd_X0_isType.all goodWord = true := by decide +kernel
abbrev qc_X0_isType (D : va_G) (h : Nat) (a : Nat) (b : Nat) (d : Nat) (w : Int32) (A : Nat → Prop) : Array Value → State → Outcome → State → Prop := va_Qi (fun (r : Int32) (uZ : Unit) => (r = 1 ∧ (0 ≤ w ∧ w < 5)) ∨ (r = 0 ∧ ¬ (0 ≤ w ∧ w < 5))) (fun uZ tZ => kc_pos D A [(h, .inr (0, [.ref a, .ref b, .ref d]))] [] tZ) A
set_option maxHeartbeats 4000000 in
set_option maxRecDepth 100000 in
theorem ct_X0_isType (l : Launch) (D : va_G) (h : Nat) (a : Nat) (b : Nat) (d : Nat) (w : Int32) (sz : Nat)  : Met l yX0_isType wd_X0_isType ({ frames := 0, cells := 0, slots := 0, locals := 0 }) (va_Pc [.ref h, .int w] (kc_pre D [] [(h, .inr (0, [.ref a, .ref b, .ref d]))] sz)) (qc_X0_isType D h a b d w (va_A [(h, .inr (0, [.ref a, .ref b, .ref d]))] sz)) 0 0 (va_A [(h, .inr (0, [.ref a, .ref b, .ref d]))] sz) := by
  refine Met.ofW (cc := cX0_isType) (maxL := 2) (ret := (some .boolean)) (by decide) rfl ?_
  intro p e s m args below meth c s₁ B hml hv
  obtain ⟨rfl, hsz, hP, hK, hN, hD0⟩ := hv
  have hx := B.exec
  have hb := B.bytes
  have hr := B.returns
  have hts := atoms_spec (ws := wd_X0_isType) B.pre
  have hown : s.vm.findClass RX0 = some m.cls := findClass_of_methodNamed B.named
  have hlocks := B.notSynchronized
  subst hsz
  have hD := hD0.self (sz := s.heap.size)
  generalize hAe : va_A [(h, .inr (0, [.ref a, .ref b, .ref d]))] s.heap.size = A at hD ⊢
  have hA : ∀ q : Nat, s.heap.size ≤ q → A q := fun q h => by rw [← hAe]; exact Or.inr h
  have hS : va_S A s.heap s.heap [] := va_S.rf
  have hl := lv_entry ([.ref h, .int w]) (n := 2) (Nat.le_of_ble_eq_true rfl)
  rw [lg_entry_eq]
  generalize (lg_sl ([.ref h, .int w]) ++ List.replicate (2 - (lg_sl ([.ref h, .int w])).length) Slot.unset).toArray = ls at hl ⊢
  have hl : lv_has ls 2 [(0, .ref h), (1, .int w)] := hl
  refine lv_iload_n hx hb dX0_isType_0 rfl (lv_at hl 1 rfl) ?_
  refine lv_if_lt (tgt := 13) hx hb dX0_isType_1 (by decide) (fun c_1 => ?_) (fun c_1 => ?_)
  · refine lv_iconst (v := 0) hx hb dX0_isType_13 (by decide) ?_
    have hP9 := hP.sub (ws' := [(h, .inr (0, [.ref a, .ref b, .ref d]))]) [0] rfl
    have hD9 := hD.sub (ws' := [(h, .inr (0, [.ref a, .ref b, .ref d]))]) [0] (by decide) rfl
    have hK9 := hK.sub (tys' := []) [] rfl
    exact W.zret (v := 0) (ty := .boolean) hx hb hr rfl (fun tZ htZ hW => ⟨⟨0, (), rfl, (Or.inr ⟨rfl, by (try simp only [fa_lt, fa_le, fa_eq]); (try simp only [fa_lt, fa_le, fa_eq] at c_1); (try simp only [ti_0] at *); omega⟩), by rw [htZ]; exact hP9, va_K.moved hW.alike hK9, hD9⟩, hS.F htZ⟩) hS.2.2 dX0_isType_14
  · refine lv_iload_n hx hb dX0_isType_4 rfl (lv_at hl 1 rfl) ?_
    refine lv_iconst (v := 5) hx hb dX0_isType_5 (by decide) ?_
    refine lv_icmp_ge (tgt := 13) hx hb dX0_isType_6 (by decide) (fun c_2 => ?_) (fun c_2 => ?_)
    · refine lv_iconst (v := 0) hx hb dX0_isType_13 (by decide) ?_
      have hP9 := hP.sub (ws' := [(h, .inr (0, [.ref a, .ref b, .ref d]))]) [0] rfl
      have hD9 := hD.sub (ws' := [(h, .inr (0, [.ref a, .ref b, .ref d]))]) [0] (by decide) rfl
      have hK9 := hK.sub (tys' := []) [] rfl
      exact W.zret (v := 0) (ty := .boolean) hx hb hr rfl (fun tZ htZ hW => ⟨⟨0, (), rfl, (Or.inr ⟨rfl, by (try simp only [fa_lt, fa_le, fa_eq]); (try simp only [fa_lt, fa_le, fa_eq] at c_1); (try simp only [fa_lt, fa_le, fa_eq] at c_2); (try simp only [ti_0] at *); omega⟩), by rw [htZ]; exact hP9, va_K.moved hW.alike hK9, hD9⟩, hS.F htZ⟩) hS.2.2 dX0_isType_14
    · refine lv_iconst (v := 1) hx hb dX0_isType_9 (by decide) ?_
      refine lv_goto (tgt := 14) hx hb dX0_isType_10 (by decide) ?_
      have hP9 := hP.sub (ws' := [(h, .inr (0, [.ref a, .ref b, .ref d]))]) [0] rfl
      have hD9 := hD.sub (ws' := [(h, .inr (0, [.ref a, .ref b, .ref d]))]) [0] (by decide) rfl
      have hK9 := hK.sub (tys' := []) [] rfl
      exact W.zret (v := 1) (ty := .boolean) hx hb hr rfl (fun tZ htZ hW => ⟨⟨1, (), rfl, (Or.inl ⟨rfl, by (try simp only [fa_lt, fa_le, fa_eq]); (try simp only [fa_lt, fa_le, fa_eq] at c_1); (try simp only [fa_lt, fa_le, fa_eq] at c_2); (try simp only [ti_0] at *); omega⟩), by rw [htZ]; exact hP9, va_K.moved hW.alike hK9, hD9⟩, hS.F htZ⟩) hS.2.2 dX0_isType_14
theorem dX0_isNull_0 : decode cX0_isNull 0 = .ok (.aload_n 0, 1) := by decide +kernel
theorem dX0_isNull_1 : decode cX0_isNull 1 = .ok (.getfield 11, 3) := by decide +kernel
theorem dX0_isNull_4 : decode cX0_isNull 4 = .ok (.iload_n 1, 1) := by decide +kernel
theorem dX0_isNull_5 : decode cX0_isNull 5 = .ok (.invokestatic 28, 3) := by decide +kernel
theorem dX0_isNull_8 : decode cX0_isNull 8 = .ok (.iconst (-1), 1) := by decide +kernel
theorem dX0_isNull_9 : decode cX0_isNull 9 = .ok (.if_icmp .ne 7, 3) := by decide +kernel
theorem dX0_isNull_12 : decode cX0_isNull 12 = .ok (.iconst 1, 1) := by decide +kernel
theorem dX0_isNull_13 : decode cX0_isNull 13 = .ok (.goto 4, 3) := by decide +kernel
theorem dX0_isNull_16 : decode cX0_isNull 16 = .ok (.iconst 0, 1) := by decide +kernel
theorem dX0_isNull_17 : decode cX0_isNull 17 = .ok (.ireturn, 1) := by decide +kernel
def wo_X0_isNull1 : List Cond := [.fieldLink RX0 11 "DynamicLogicProver$Buffers" "types" "[I", .initialized RX11, .static yX11_at]
def wd_X0_isNull1 : List Cond := .code yX0_isNull cX0_isNull 2 (some .boolean) :: (wo_X0_isNull1 ++ (wd_X11_at ++ (wsX00 ++ ([] : List Cond))))
theorem mo_X0_isNull1 {w : Cond} (i : Nat) (h : wo_X0_isNull1[i]? = some w) : w ∈ wd_X0_isNull1 := List.mem_cons_of_mem _ (List.mem_append_left _ (List.mem_of_getElem? h))
theorem mb_X0_isNull1_0 : ∀ w ∈ wd_X11_at, w ∈ wd_X0_isNull1 := fun w h => List.mem_cons_of_mem _ (List.mem_append_right _ (List.mem_append_left _ h))
theorem mb_X0_isNull1_1 : ∀ w ∈ wsX00, w ∈ wd_X0_isNull1 := fun w h => List.mem_cons_of_mem _ (List.mem_append_right _ (List.mem_append_right _ (List.mem_append_left _ h)))
theorem hd_X0_isNull : yX0_isNull.cls ≠ "java/lang/invoke/MethodHandle" ∧ yX0_isNull.cls ≠ "java/lang/invoke/VarHandle" ∧ (parseMethodDescriptor yX0_isNull.desc).map (fun d => d.parameters.length) = some 1 := by decide +kernel
set_option maxRecDepth 20000 in
theorem gw_X0_isNull1 : wd_X0_isNull1.all goodWord = true := by decide +kernel
abbrev qc_X0_isNull1 (D : va_G) (h : Nat) (a : Nat) (b : Nat) (d : Nat) (ka : ClassId) (f : Nat → Int32) (w : Int32) (A : Nat → Prop) : Array Value → State → Outcome → State → Prop := va_Qi (fun (r : Int32) (uZ : Unit) => r = 1) (fun uZ tZ => kc_pos D A [(h, .inr (0, [.ref a, .ref b, .ref d])), (a, .inl (ka, 6, .inl f))] [] tZ) A
set_option maxHeartbeats 4000000 in
set_option maxRecDepth 100000 in
theorem ct_X0_isNull1 (l : Launch) (D : va_G) (h : Nat) (a : Nat) (b : Nat) (d : Nat) (ka : ClassId) (f : Nat → Int32) (w : Int32) (sz : Nat) (hf : ∀ k, k < 6 → f k = -1) (hb6 : 0 ≤ w ∧ w < 6) : Met l yX0_isNull wd_X0_isNull1 ({ frames := 1, cells := 0, slots := 0, locals := 21 }) (va_Pc [.ref h, .int w] (kc_pre D [(ka, .int)] [(h, .inr (0, [.ref a, .ref b, .ref d])), (a, .inl (ka, 6, .inl f))] sz)) (qc_X0_isNull1 D h a b d ka f w (va_A [(h, .inr (0, [.ref a, .ref b, .ref d])), (a, .inl (ka, 6, .inl f))] sz)) 0 0 (va_A [(h, .inr (0, [.ref a, .ref b, .ref d])), (a, .inl (ka, 6, .inl f))] sz) := by
  refine Met.ofW (cc := cX0_isNull) (maxL := 2) (ret := (some .boolean)) (by decide) rfl ?_
  intro p e s m args below meth c s₁ B hml hv
  obtain ⟨rfl, hsz, hP, hK, hN, hD0⟩ := hv
  have hx := B.exec
  have hb := B.bytes
  have hr := B.returns
  have hts := atoms_spec (ws := wd_X0_isNull1) B.pre
  have hown : s.vm.findClass RX0 = some m.cls := findClass_of_methodNamed B.named
  have hlocks := B.notSynchronized
  subst hsz
  have hD := hD0.self (sz := s.heap.size)
  generalize hAe : va_A [(h, .inr (0, [.ref a, .ref b, .ref d])), (a, .inl (ka, 6, .inl f))] s.heap.size = A at hD ⊢
  have hA : ∀ q : Nat, s.heap.size ≤ q → A q := fun q h => by rw [← hAe]; exact Or.inr h
  have hS : va_S A s.heap s.heap [] := va_S.rf
  have hiX0 : ∀ w ∈ wsX00, w ∈ wd_X0_isNull1 := mb_X0_isNull1_1
  have hl := lv_entry ([.ref h, .int w]) (n := 2) (Nat.le_of_ble_eq_true rfl)
  rw [lg_entry_eq]
  generalize (lg_sl ([.ref h, .int w]) ++ List.replicate (2 - (lg_sl ([.ref h, .int w])).length) Slot.unset).toArray = ls at hl ⊢
  have hl : lv_has ls 2 [(0, .ref h), (1, .int w)] := hl
  refine lv_aload_n hx hb dX0_isNull_0 rfl (lv_at hl 0 rfl) ?_
  refine va_get (D := D) (ci := 0) (v := .ref a) (C := RX0) (T := TX0) (N := 3) hx hb hts hiX0 hown hK hP 0 rfl rfl 0 (by decide) (hts (.fieldLink RX0 11 "DynamicLogicProver$Buffers" "types" "[I") (mo_X0_isNull1 0 rfl)) (fun _ h9 => h9) rfl dX0_isNull_1 ?_
  refine lv_iload_n hx hb dX0_isNull_4 rfl (lv_at hl 1 rfl) ?_
  refine kc_Ni (As := [.ref a, .int w]) (rest := []) (wr := [(h, .inr (0, [.ref a, .ref b, .ref d]))]) ⟨hx, hb, hml, hown, hts⟩ (ct_X11_at l D a ka 6 f w _ (by decide)) ⟨va_cnB 2 hts (goodIn_sub mb_X0_isNull1_0 gw_X11_at) rfl rfl rfl (hN (RX0, 28, yX11_at) (List.mem_of_getElem? (i := 0) rfl)) (hts (.initialized RX11) (mo_X0_isNull1 1 rfl)) hd_X11_at ⟨Nat.le_of_ble_eq_true rfl, Nat.le_of_ble_eq_true rfl⟩, (hts (.static yX11_at) (mo_X0_isNull1 2 rfl)), trivial⟩ hK hN hP hD hS hA [1] [0] [0] rfl rfl (by decide) (by decide) (by decide) rfl rfl hl.1 rfl (Nat.le_of_ble_eq_true rfl) dX0_isNull_5 ⟨Nat.le_of_ble_eq_true rfl, Nat.le_of_ble_eq_true rfl⟩ (fun r_1 u_2 H locs w_3 hP hD hK1 hS => ?_)
  have hP : va_P D vwCl [(h, .inr (0, [.ref a, .ref b, .ref d])), (a, .inl (ka, 6, .inl f))] H := hP
  have hD : va_D A [(h, .inr (0, [.ref a, .ref b, .ref d])), (a, .inl (ka, 6, .inl f))] := hD
  have w_3 : r_1 = at_v f 6 w := w_3
  refine lv_iconst (v := (-1)) hx hb dX0_isNull_8 (by decide) ?_
  refine lv_icmp_ne (tgt := 16) hx hb dX0_isNull_9 (by decide) (fun c_4 => ?_) (fun c_4 => ?_)
  · exact absurd (w_3.trans (at_m1 hf hb6)) c_4
  · refine lv_iconst (v := 1) hx hb dX0_isNull_12 (by decide) ?_
    refine lv_goto (tgt := 17) hx hb dX0_isNull_13 (by decide) ?_
    have hP9 := hP.sub (ws' := [(h, .inr (0, [.ref a, .ref b, .ref d])), (a, .inl (ka, 6, .inl f))]) [0, 1] rfl
    have hD9 := hD.sub (ws' := [(h, .inr (0, [.ref a, .ref b, .ref d])), (a, .inl (ka, 6, .inl f))]) [0, 1] (by decide) rfl
    have hK9 := hK.sub (tys' := []) [] rfl
    exact W.zret (v := 1) (ty := .boolean) hx hb hr rfl (fun tZ htZ hW => ⟨⟨1, (), rfl, rfl, by rw [htZ]; exact hP9, va_K.moved hW.alike hK9, hD9⟩, hS.F htZ⟩) hS.2.2 dX0_isNull_17
theorem dX0_discard_0 : decode cX0_discard 0 = .ok (.aload_n 0, 1) := by decide +kernel
theorem dX0_discard_1 : decode cX0_discard 1 = .ok (.getfield 11, 3) := by decide +kernel
theorem dX0_discard_4 : decode cX0_discard 4 = .ok (.iload_n 1, 1) := by decide +kernel
theorem dX0_discard_5 : decode cX0_discard 5 = .ok (.iconst (-1), 1) := by decide +kernel
theorem dX0_discard_6 : decode cX0_discard 6 = .ok (.invokestatic 32, 3) := by decide +kernel
theorem dX0_discard_9 : decode cX0_discard 9 = .ok (.aload_n 0, 1) := by decide +kernel
theorem dX0_discard_10 : decode cX0_discard 10 = .ok (.getfield 15, 3) := by decide +kernel
theorem dX0_discard_13 : decode cX0_discard 13 = .ok (.iload_n 1, 1) := by decide +kernel
theorem dX0_discard_14 : decode cX0_discard 14 = .ok (.iconst 0, 1) := by decide +kernel
theorem dX0_discard_15 : decode cX0_discard 15 = .ok (.invokestatic 32, 3) := by decide +kernel
theorem dX0_discard_18 : decode cX0_discard 18 = .ok (.return_, 1) := by decide +kernel
def wo_X0_discard : List Cond := [.fieldLink RX0 11 "DynamicLogicProver$Buffers" "types" "[I", .initialized RX11, .static yX11_put, .fieldLink RX0 15 "DynamicLogicProver$Buffers" "lengths" "[I"]
def wd_X0_discard : List Cond := .code yX0_discard cX0_discard 2 none :: (wo_X0_discard ++ (wd_X11_put ++ (wsX00 ++ ([] : List Cond))))
theorem mo_X0_discard {w : Cond} (i : Nat) (h : wo_X0_discard[i]? = some w) : w ∈ wd_X0_discard := List.mem_cons_of_mem _ (List.mem_append_left _ (List.mem_of_getElem? h))
theorem mb_X0_discard_0 : ∀ w ∈ wd_X11_put, w ∈ wd_X0_discard := fun w h => List.mem_cons_of_mem _ (List.mem_append_right _ (List.mem_append_left _ h))
theorem mb_X0_discard_1 : ∀ w ∈ wsX00, w ∈ wd_X0_discard := fun w h => List.mem_cons_of_mem _ (List.mem_append_right _ (List.mem_append_right _ (List.mem_append_left _ h)))
theorem hd_X0_discard : yX0_discard.cls ≠ "java/lang/invoke/MethodHandle" ∧ yX0_discard.cls ≠ "java/lang/invoke/VarHandle" ∧ (parseMethodDescriptor yX0_discard.desc).map (fun d => d.parameters.length) = some 1 := by decide +kernel
set_option maxRecDepth 20000 in
theorem gw_X0_discard : wd_X0_discard.all goodWord = true := by decide +kernel
abbrev qc_X0_discard (D : va_G) (h : Nat) (a : Nat) (b : Nat) (d : Nat) (ka : ClassId) (kb : ClassId) (f : Nat → Int32) (g : Nat → Int32) (w : Int32) (A : Nat → Prop) : Array Value → State → Outcome → State → Prop := va_Qv (fun (uZ : (Nat → Int32) × (Nat → Int32)) => True) (fun uZ tZ => kc_pos D A [(h, .inr (0, [.ref a, .ref b, .ref d])), (a, .inl (ka, 6, .inl uZ.1)), (b, .inl (kb, 6, .inl uZ.2))] [] tZ) A
set_option maxHeartbeats 4000000 in
set_option maxRecDepth 100000 in
theorem ct_X0_discard (l : Launch) (D : va_G) (h : Nat) (a : Nat) (b : Nat) (d : Nat) (ka : ClassId) (kb : ClassId) (f : Nat → Int32) (g : Nat → Int32) (w : Int32) (sz : Nat)  : Met l yX0_discard wd_X0_discard ({ frames := 1, cells := 0, slots := 0, locals := 22 }) (va_Pc [.ref h, .int w] (kc_pre D [(ka, .int), (kb, .int)] [(h, .inr (0, [.ref a, .ref b, .ref d])), (a, .inl (ka, 6, .inl f)), (b, .inl (kb, 6, .inl g))] sz)) (qc_X0_discard D h a b d ka kb f g w (va_A [(h, .inr (0, [.ref a, .ref b, .ref d])), (a, .inl (ka, 6, .inl f)), (b, .inl (kb, 6, .inl g))] sz)) 0 0 (va_A [(h, .inr (0, [.ref a, .ref b, .ref d])), (a, .inl (ka, 6, .inl f)), (b, .inl (kb, 6, .inl g))] sz) := by
  refine Met.ofW (cc := cX0_discard) (maxL := 2) (ret := none) (by decide) rfl ?_
  intro p e s m args below meth c s₁ B hml hv
  obtain ⟨rfl, hsz, hP, hK, hN, hD0⟩ := hv
  have hx := B.exec
  have hb := B.bytes
  have hr := B.returns
  have hts := atoms_spec (ws := wd_X0_discard) B.pre
  have hown : s.vm.findClass RX0 = some m.cls := findClass_of_methodNamed B.named
  have hlocks := B.notSynchronized
  subst hsz
  have hD := hD0.self (sz := s.heap.size)
  generalize hAe : va_A [(h, .inr (0, [.ref a, .ref b, .ref d])), (a, .inl (ka, 6, .inl f)), (b, .inl (kb, 6, .inl g))] s.heap.size = A at hD ⊢
  have hA : ∀ q : Nat, s.heap.size ≤ q → A q := fun q h => by rw [← hAe]; exact Or.inr h
  have hS : va_S A s.heap s.heap [] := va_S.rf
  have hiX0 : ∀ w ∈ wsX00, w ∈ wd_X0_discard := mb_X0_discard_1
  have hl := lv_entry ([.ref h, .int w]) (n := 2) (Nat.le_of_ble_eq_true rfl)
  rw [lg_entry_eq]
  generalize (lg_sl ([.ref h, .int w]) ++ List.replicate (2 - (lg_sl ([.ref h, .int w])).length) Slot.unset).toArray = ls at hl ⊢
  have hl : lv_has ls 2 [(0, .ref h), (1, .int w)] := hl
  refine lv_aload_n hx hb dX0_discard_0 rfl (lv_at hl 0 rfl) ?_
  refine va_get (D := D) (ci := 0) (v := .ref a) (C := RX0) (T := TX0) (N := 3) hx hb hts hiX0 hown hK hP 0 rfl rfl 0 (by decide) (hts (.fieldLink RX0 11 "DynamicLogicProver$Buffers" "types" "[I") (mo_X0_discard 0 rfl)) (fun _ h9 => h9) rfl dX0_discard_1 ?_
  refine lv_iload_n hx hb dX0_discard_4 rfl (lv_at hl 1 rfl) ?_
  refine lv_iconst (v := (-1)) hx hb dX0_discard_5 (by decide) ?_
  refine kc_Nv (As := [.ref a, .int w, .int (-1)]) (rest := []) (wr := [(h, .inr (0, [.ref a, .ref b, .ref d])), (b, .inl (kb, 6, .inl g))]) ⟨hx, hb, hml, hown, hts⟩ (ct_X11_put l D a ka 6 f w (-1) _ (by decide)) ⟨va_cnB 3 hts (goodIn_sub mb_X0_discard_0 gw_X11_put) rfl rfl rfl (hN (RX0, 32, yX11_put) (List.mem_of_getElem? (i := 1) rfl)) (hts (.initialized RX11) (mo_X0_discard 1 rfl)) hd_X11_put ⟨Nat.le_of_ble_eq_true rfl, Nat.le_of_ble_eq_true rfl⟩, (hts (.static yX11_put) (mo_X0_discard 2 rfl)), trivial⟩ hK hN hP hD hS hA [1] [0, 2] [0] rfl rfl (by decide) (by decide) (by decide) rfl rfl hl.1 rfl (Nat.le_of_ble_eq_true rfl) dX0_discard_6 ⟨Nat.le_of_ble_eq_true rfl, Nat.le_of_ble_eq_true rfl⟩ (fun u_2 H locs w_3 hP hD hK1 hS => ?_)
  obtain ⟨o_4, rfl⟩ : ∃ z, z = u_2 := ⟨_, rfl⟩
  have hP : va_P D vwCl [(h, .inr (0, [.ref a, .ref b, .ref d])), (b, .inl (kb, 6, .inl g)), (a, .inl (ka, 6, .inl o_4))] H := hP
  have hD : va_D A [(h, .inr (0, [.ref a, .ref b, .ref d])), (b, .inl (kb, 6, .inl g)), (a, .inl (ka, 6, .inl o_4))] := hD
  have w_3 : o_4 = put_v f 6 w (-1) := w_3
  refine lv_aload_n hx hb dX0_discard_9 rfl (lv_at hl 0 rfl) ?_
  refine va_get (D := D) (ci := 0) (v := .ref b) (C := RX0) (T := TX0) (N := 3) hx hb hts hiX0 hown hK hP 0 rfl rfl 1 (by decide) (hts (.fieldLink RX0 15 "DynamicLogicProver$Buffers" "lengths" "[I") (mo_X0_discard 3 rfl)) (fun _ h9 => h9) rfl dX0_discard_10 ?_
  refine lv_iload_n hx hb dX0_discard_13 rfl (lv_at hl 1 rfl) ?_
  refine lv_iconst (v := 0) hx hb dX0_discard_14 (by decide) ?_
  refine kc_Nv (As := [.ref b, .int w, .int 0]) (rest := []) (wr := [(h, .inr (0, [.ref a, .ref b, .ref d])), (a, .inl (ka, 6, .inl o_4))]) ⟨hx, hb, hml, hown, hts⟩ (ct_X11_put l D b kb 6 g w 0 _ (by decide)) ⟨va_cnB 3 hts (goodIn_sub mb_X0_discard_0 gw_X11_put) rfl rfl rfl (hN (RX0, 32, yX11_put) (List.mem_of_getElem? (i := 1) rfl)) (hts (.initialized RX11) (mo_X0_discard 1 rfl)) hd_X11_put ⟨Nat.le_of_ble_eq_true rfl, Nat.le_of_ble_eq_true rfl⟩, (hts (.static yX11_put) (mo_X0_discard 2 rfl)), trivial⟩ hK hN hP hD hS hA [1] [0, 2] [1] rfl rfl (by decide) (by decide) (by decide) rfl rfl hl.1 rfl (Nat.le_of_ble_eq_true rfl) dX0_discard_15 ⟨Nat.le_of_ble_eq_true rfl, Nat.le_of_ble_eq_true rfl⟩ (fun u_6 H locs w_7 hP hD hK1 hS => ?_)
  obtain ⟨o_8, rfl⟩ : ∃ z, z = u_6 := ⟨_, rfl⟩
  have hP : va_P D vwCl [(h, .inr (0, [.ref a, .ref b, .ref d])), (a, .inl (ka, 6, .inl o_4)), (b, .inl (kb, 6, .inl o_8))] H := hP
  have hD : va_D A [(h, .inr (0, [.ref a, .ref b, .ref d])), (a, .inl (ka, 6, .inl o_4)), (b, .inl (kb, 6, .inl o_8))] := hD
  have w_7 : o_8 = put_v g 6 w 0 := w_7
  have hP9 := hP.sub (ws' := [(h, .inr (0, [.ref a, .ref b, .ref d])), (a, .inl (ka, 6, .inl o_4)), (b, .inl (kb, 6, .inl o_8))]) [0, 1, 2] rfl
  have hD9 := hD.sub (ws' := [(h, .inr (0, [.ref a, .ref b, .ref d])), (a, .inl (ka, 6, .inl o_4)), (b, .inl (kb, 6, .inl o_8))]) [0, 1, 2] (by decide) rfl
  have hK9 := hK.sub (tys' := []) [] rfl
  exact W.vret hx hb hr (fun tZ htZ hW => ⟨⟨(o_4, o_8), rfl, trivial, by rw [htZ]; exact hP9, va_K.moved hW.alike hK9, hD9⟩, hS.F htZ⟩) hS.2.2 dX0_discard_18
theorem dX0_renew_0 : decode cX0_renew 0 = .ok (.aload_n 0, 1) := by decide +kernel
theorem dX0_renew_1 : decode cX0_renew 1 = .ok (.getfield 11, 3) := by decide +kernel
theorem dX0_renew_4 : decode cX0_renew 4 = .ok (.iload_n 1, 1) := by decide +kernel
theorem dX0_renew_5 : decode cX0_renew 5 = .ok (.iload_n 2, 1) := by decide +kernel
theorem dX0_renew_6 : decode cX0_renew 6 = .ok (.invokestatic 32, 3) := by decide +kernel
theorem dX0_renew_9 : decode cX0_renew 9 = .ok (.aload_n 0, 1) := by decide +kernel
theorem dX0_renew_10 : decode cX0_renew 10 = .ok (.getfield 15, 3) := by decide +kernel
theorem dX0_renew_13 : decode cX0_renew 13 = .ok (.iload_n 1, 1) := by decide +kernel
theorem dX0_renew_14 : decode cX0_renew 14 = .ok (.iload_n 3, 1) := by decide +kernel
theorem dX0_renew_15 : decode cX0_renew 15 = .ok (.invokestatic 32, 3) := by decide +kernel
theorem dX0_renew_18 : decode cX0_renew 18 = .ok (.iconst 0, 1) := by decide +kernel
theorem dX0_renew_19 : decode cX0_renew 19 = .ok (.istore 4, 2) := by decide +kernel
theorem dX0_renew_21 : decode cX0_renew 21 = .ok (.iload 4, 2) := by decide +kernel
theorem dX0_renew_23 : decode cX0_renew 23 = .ok (.iload_n 3, 1) := by decide +kernel
theorem dX0_renew_24 : decode cX0_renew 24 = .ok (.if_icmp .ge 31, 3) := by decide +kernel
theorem dX0_renew_27 : decode cX0_renew 27 = .ok (.iload 4, 2) := by decide +kernel
theorem dX0_renew_29 : decode cX0_renew 29 = .ok (.bipush 60, 2) := by decide +kernel
theorem dX0_renew_31 : decode cX0_renew 31 = .ok (.if_icmp .ge 24, 3) := by decide +kernel
theorem dX0_renew_34 : decode cX0_renew 34 = .ok (.aload_n 0, 1) := by decide +kernel
theorem dX0_renew_35 : decode cX0_renew 35 = .ok (.getfield 18, 3) := by decide +kernel
theorem dX0_renew_38 : decode cX0_renew 38 = .ok (.iload_n 1, 1) := by decide +kernel
theorem dX0_renew_39 : decode cX0_renew 39 = .ok (.bipush 60, 2) := by decide +kernel
theorem dX0_renew_41 : decode cX0_renew 41 = .ok (.imul, 1) := by decide +kernel
theorem dX0_renew_42 : decode cX0_renew 42 = .ok (.iload 4, 2) := by decide +kernel
theorem dX0_renew_44 : decode cX0_renew 44 = .ok (.iadd, 1) := by decide +kernel
theorem dX0_renew_45 : decode cX0_renew 45 = .ok (.lconst 0, 1) := by decide +kernel
theorem dX0_renew_46 : decode cX0_renew 46 = .ok (.invokestatic 36, 3) := by decide +kernel
theorem dX0_renew_49 : decode cX0_renew 49 = .ok (.iinc 4 1, 3) := by decide +kernel
theorem dX0_renew_52 : decode cX0_renew 52 = .ok (.goto (-31), 3) := by decide +kernel
theorem dX0_renew_55 : decode cX0_renew 55 = .ok (.return_, 1) := by decide +kernel
def wo_X0_renew : List Cond := [.fieldLink RX0 11 "DynamicLogicProver$Buffers" "types" "[I", .initialized RX11, .static yX11_put, .fieldLink RX0 15 "DynamicLogicProver$Buffers" "lengths" "[I", .fieldLink RX0 18 "DynamicLogicProver$Buffers" "cells" "[J", .static yX11_putWide]
def wd_X0_renew : List Cond := .code yX0_renew cX0_renew 5 none :: (wo_X0_renew ++ (wd_X11_put ++ (wd_X11_putWide ++ (wsX00 ++ ([] : List Cond)))))
theorem mo_X0_renew {w : Cond} (i : Nat) (h : wo_X0_renew[i]? = some w) : w ∈ wd_X0_renew := List.mem_cons_of_mem _ (List.mem_append_left _ (List.mem_of_getElem? h))
theorem mb_X0_renew_0 : ∀ w ∈ wd_X11_put, w ∈ wd_X0_renew := fun w h => List.mem_cons_of_mem _ (List.mem_append_right _ (List.mem_append_left _ h))
theorem mb_X0_renew_1 : ∀ w ∈ wd_X11_putWide, w ∈ wd_X0_renew := fun w h => List.mem_cons_of_mem _ (List.mem_append_right _ (List.mem_append_right _ (List.mem_append_left _ h)))
theorem mb_X0_renew_2 : ∀ w ∈ wsX00, w ∈ wd_X0_renew := fun w h => List.mem_cons_of_mem _ (List.mem_append_right _ (List.mem_append_right _ (List.mem_append_right _ (List.mem_append_left _ h))))
theorem hd_X0_renew : yX0_renew.cls ≠ "java/lang/invoke/MethodHandle" ∧ yX0_renew.cls ≠ "java/lang/invoke/VarHandle" ∧ (parseMethodDescriptor yX0_renew.desc).map (fun d => d.parameters.length) = some 3 := by decide +kernel
set_option maxRecDepth 20000 in
theorem gw_X0_renew : wd_X0_renew.all goodWord = true := by decide +kernel
abbrev qc_X0_renew (D : va_G) (h : Nat) (a : Nat) (b : Nat) (d : Nat) (ka : ClassId) (kb : ClassId) (kd : ClassId) (f : Nat → Int32) (g : Nat → Int32) (x : Nat → Int64) (w : Int32) (ty : Int32) (le : Int32) (A : Nat → Prop) : Array Value → State → Outcome → State → Prop := va_Qv (fun (uZ : (Nat → Int32) × (Nat → Int32) × (Nat → Int64)) => True) (fun uZ tZ => kc_pos D A [(h, .inr (0, [.ref a, .ref b, .ref d])), (a, .inl (ka, 6, .inl uZ.1)), (b, .inl (kb, 6, .inl uZ.2.1)), (d, .inl (kd, 360, .inr (.inl uZ.2.2)))] [] tZ) A
set_option maxHeartbeats 4000000 in
set_option maxRecDepth 100000 in
theorem ct_X0_renew (l : Launch) (D : va_G) (h : Nat) (a : Nat) (b : Nat) (d : Nat) (ka : ClassId) (kb : ClassId) (kd : ClassId) (f : Nat → Int32) (g : Nat → Int32) (x : Nat → Int64) (w : Int32) (ty : Int32) (le : Int32) (sz : Nat)  : Met l yX0_renew wd_X0_renew ({ frames := 1, cells := 0, slots := 0, locals := 23 }) (va_Pc [.ref h, .int w, .int ty, .int le] (kc_pre D [(ka, .int), (kb, .int), (kd, .long)] [(h, .inr (0, [.ref a, .ref b, .ref d])), (a, .inl (ka, 6, .inl f)), (b, .inl (kb, 6, .inl g)), (d, .inl (kd, 360, .inr (.inl x)))] sz)) (qc_X0_renew D h a b d ka kb kd f g x w ty le (va_A [(h, .inr (0, [.ref a, .ref b, .ref d])), (a, .inl (ka, 6, .inl f)), (b, .inl (kb, 6, .inl g)), (d, .inl (kd, 360, .inr (.inl x)))] sz)) 0 0 (va_A [(h, .inr (0, [.ref a, .ref b, .ref d])), (a, .inl (ka, 6, .inl f)), (b, .inl (kb, 6, .inl g)), (d, .inl (kd, 360, .inr (.inl x)))] sz) := by
  refine Met.ofW (cc := cX0_renew) (maxL := 5) (ret := none) (by decide) rfl ?_
  intro p e s m args below meth c s₁ B hml hv
  obtain ⟨rfl, hsz, hP, hK, hN, hD0⟩ := hv
  have hx := B.exec
  have hb := B.bytes
  have hr := B.returns
  have hts := atoms_spec (ws := wd_X0_renew) B.pre
  have hown : s.vm.findClass RX0 = some m.cls := findClass_of_methodNamed B.named
  have hlocks := B.notSynchronized
  subst hsz
  have hD := hD0.self (sz := s.heap.size)
  generalize hAe : va_A [(h, .inr (0, [.ref a, .ref b, .ref d])), (a, .inl (ka, 6, .inl f)), (b, .inl (kb, 6, .inl g)), (d, .inl (kd, 360, .inr (.inl x)))] s.heap.size = A at hD ⊢
  have hA : ∀ q : Nat, s.heap.size ≤ q → A q := fun q h => by rw [← hAe]; exact Or.inr h
  have hS : va_S A s.heap s.heap [] := va_S.rf
  have hiX0 : ∀ w ∈ wsX00, w ∈ wd_X0_renew := mb_X0_renew_2
  have hl := lv_entry ([.ref h, .int w, .int ty, .int le]) (n := 5) (Nat.le_of_ble_eq_true rfl)
  rw [lg_entry_eq]
  generalize (lg_sl ([.ref h, .int w, .int ty, .int le]) ++ List.replicate (5 - (lg_sl ([.ref h, .int w, .int ty, .int le])).length) Slot.unset).toArray = ls at hl ⊢
  have hl : lv_has ls 5 [(0, .ref h), (1, .int w), (2, .int ty), (3, .int le)] := hl
  refine lv_aload_n hx hb dX0_renew_0 rfl (lv_at hl 0 rfl) ?_
  refine va_get (D := D) (ci := 0) (v := .ref a) (C := RX0) (T := TX0) (N := 3) hx hb hts hiX0 hown hK hP 0 rfl rfl 0 (by decide) (hts (.fieldLink RX0 11 "DynamicLogicProver$Buffers" "types" "[I") (mo_X0_renew 0 rfl)) (fun _ h9 => h9) rfl dX0_renew_1 ?_
  refine lv_iload_n hx hb dX0_renew_4 rfl (lv_at hl 1 rfl) ?_
  refine lv_iload_n hx hb dX0_renew_5 rfl (lv_at hl 2 rfl) ?_
  refine kc_Nv (As := [.ref a, .int w, .int ty]) (rest := []) (wr := [(h, .inr (0, [.ref a, .ref b, .ref d])), (b, .inl (kb, 6, .inl g)), (d, .inl (kd, 360, .inr (.inl x)))]) ⟨hx, hb, hml, hown, hts⟩ (ct_X11_put l D a ka 6 f w ty _ (by decide)) ⟨va_cnB 3 hts (goodIn_sub mb_X0_renew_0 gw_X11_put) rfl rfl rfl (hN (RX0, 32, yX11_put) (List.mem_of_getElem? (i := 1) rfl)) (hts (.initialized RX11) (mo_X0_renew 1 rfl)) hd_X11_put ⟨Nat.le_of_ble_eq_true rfl, Nat.le_of_ble_eq_true rfl⟩, (hts (.static yX11_put) (mo_X0_renew 2 rfl)), trivial⟩ hK hN hP hD hS hA [1] [0, 2, 3] [0] rfl rfl (by decide) (by decide) (by decide) rfl rfl hl.1 rfl (Nat.le_of_ble_eq_true rfl) dX0_renew_6 ⟨Nat.le_of_ble_eq_true rfl, Nat.le_of_ble_eq_true rfl⟩ (fun u_2 H locs w_3 hP hD hK1 hS => ?_)
  obtain ⟨o_4, rfl⟩ : ∃ z, z = u_2 := ⟨_, rfl⟩
  have hP : va_P D vwCl [(h, .inr (0, [.ref a, .ref b, .ref d])), (b, .inl (kb, 6, .inl g)), (d, .inl (kd, 360, .inr (.inl x))), (a, .inl (ka, 6, .inl o_4))] H := hP
  have hD : va_D A [(h, .inr (0, [.ref a, .ref b, .ref d])), (b, .inl (kb, 6, .inl g)), (d, .inl (kd, 360, .inr (.inl x))), (a, .inl (ka, 6, .inl o_4))] := hD
  have w_3 : o_4 = put_v f 6 w ty := w_3
  refine lv_aload_n hx hb dX0_renew_9 rfl (lv_at hl 0 rfl) ?_
  refine va_get (D := D) (ci := 0) (v := .ref b) (C := RX0) (T := TX0) (N := 3) hx hb hts hiX0 hown hK hP 0 rfl rfl 1 (by decide) (hts (.fieldLink RX0 15 "DynamicLogicProver$Buffers" "lengths" "[I") (mo_X0_renew 3 rfl)) (fun _ h9 => h9) rfl dX0_renew_10 ?_
  refine lv_iload_n hx hb dX0_renew_13 rfl (lv_at hl 1 rfl) ?_
  refine lv_iload_n hx hb dX0_renew_14 rfl (lv_at hl 3 rfl) ?_
  refine kc_Nv (As := [.ref b, .int w, .int le]) (rest := []) (wr := [(h, .inr (0, [.ref a, .ref b, .ref d])), (d, .inl (kd, 360, .inr (.inl x))), (a, .inl (ka, 6, .inl o_4))]) ⟨hx, hb, hml, hown, hts⟩ (ct_X11_put l D b kb 6 g w le _ (by decide)) ⟨va_cnB 3 hts (goodIn_sub mb_X0_renew_0 gw_X11_put) rfl rfl rfl (hN (RX0, 32, yX11_put) (List.mem_of_getElem? (i := 1) rfl)) (hts (.initialized RX11) (mo_X0_renew 1 rfl)) hd_X11_put ⟨Nat.le_of_ble_eq_true rfl, Nat.le_of_ble_eq_true rfl⟩, (hts (.static yX11_put) (mo_X0_renew 2 rfl)), trivial⟩ hK hN hP hD hS hA [1] [0, 2, 3] [1] rfl rfl (by decide) (by decide) (by decide) rfl rfl hl.1 rfl (Nat.le_of_ble_eq_true rfl) dX0_renew_15 ⟨Nat.le_of_ble_eq_true rfl, Nat.le_of_ble_eq_true rfl⟩ (fun u_6 H locs w_7 hP hD hK1 hS => ?_)
  obtain ⟨o_8, rfl⟩ : ∃ z, z = u_6 := ⟨_, rfl⟩
  have hP : va_P D vwCl [(h, .inr (0, [.ref a, .ref b, .ref d])), (d, .inl (kd, 360, .inr (.inl x))), (a, .inl (ka, 6, .inl o_4)), (b, .inl (kb, 6, .inl o_8))] H := hP
  have hD : va_D A [(h, .inr (0, [.ref a, .ref b, .ref d])), (d, .inl (kd, 360, .inr (.inl x))), (a, .inl (ka, 6, .inl o_4)), (b, .inl (kb, 6, .inl o_8))] := hD
  have w_7 : o_8 = put_v g 6 w le := w_7
  refine lv_iconst (v := 0) hx hb dX0_renew_18 (by decide) ?_
  refine lv_istore (lv' := [(4, .int 0), (0, .ref h), (1, .int w), (2, .int ty), (3, .int le)]) hx hb dX0_renew_19 hl (by decide) rfl (fun ls hl => ?_)
  have lp_9 : ∀ (fu_11 : Nat) (j : Nat) (y : Nat → Int64) (H : Heap) (locs : List Loc) (ls : Array Slot), (j ≤ 60) → 60 - j < fu_11 → va_P D vwCl [(h, .inr (0, [.ref a, .ref b, .ref d])), (d, .inl (kd, 360, .inr (.inl y))), (a, .inl (ka, 6, .inl o_4)), (b, .inl (kb, 6, .inl o_8))] H → va_D A [(h, .inr (0, [.ref a, .ref b, .ref d])), (d, .inl (kd, 360, .inr (.inl y))), (a, .inl (ka, 6, .inl o_4)), (b, .inl (kb, 6, .inl o_8))] → va_S A s.heap H locs → lv_has ls 5 [(4, .int (nI j)), (0, .ref h), (1, .int w), (2, .int ty), (3, .int le)] → W p l e (headSpec wd_X0_renew ({ frames := 1, cells := 0, slots := 0, locals := 23 })).room s m [.ref h, .int w, .int ty, .int le].toArray below meth c H locs 0 0 (MQ below (qc_X0_renew D h a b d ka kb kd f g x w ty le A) [.ref h, .int w, .int ty, .int le].toArray s 0 0 A) (F0 m 21 ls []) := by
    intro fu_11
    induction fu_11 with
    | zero => intro j y H locs ls hj hf; exact absurd hf (Nat.not_lt_zero _)
    | succ fu_11 ih_10 =>
      intro j y H locs ls hj hf hP hD hS hl
      refine lv_iload hx hb dX0_renew_21 (lv_at hl 0 rfl) ?_
      refine lv_iload_n hx hb dX0_renew_23 rfl (lv_at hl 4 rfl) ?_
      refine lv_icmp_ge (tgt := 55) hx hb dX0_renew_24 (by decide) (fun c_12 => ?_) (fun c_12 => ?_)
      · have hP9 := hP.sub (ws' := [(h, .inr (0, [.ref a, .ref b, .ref d])), (a, .inl (ka, 6, .inl o_4)), (b, .inl (kb, 6, .inl o_8)), (d, .inl (kd, 360, .inr (.inl y)))]) [0, 2, 3, 1] rfl
        have hD9 := hD.sub (ws' := [(h, .inr (0, [.ref a, .ref b, .ref d])), (a, .inl (ka, 6, .inl o_4)), (b, .inl (kb, 6, .inl o_8)), (d, .inl (kd, 360, .inr (.inl y)))]) [0, 2, 3, 1] (by decide) rfl
        have hK9 := hK.sub (tys' := []) [] rfl
        exact W.vret hx hb hr (fun tZ htZ hW => ⟨⟨(o_4, o_8, y), rfl, trivial, by rw [htZ]; exact hP9, va_K.moved hW.alike hK9, hD9⟩, hS.F htZ⟩) hS.2.2 dX0_renew_55
      · refine lv_iload hx hb dX0_renew_27 (lv_at hl 0 rfl) ?_
        refine lv_bipush (v := 60) hx hb dX0_renew_29 (by decide) ?_
        refine lv_icmp_ge (tgt := 55) hx hb dX0_renew_31 (by decide) (fun c_13 => ?_) (fun c_13 => ?_)
        · have hP9 := hP.sub (ws' := [(h, .inr (0, [.ref a, .ref b, .ref d])), (a, .inl (ka, 6, .inl o_4)), (b, .inl (kb, 6, .inl o_8)), (d, .inl (kd, 360, .inr (.inl y)))]) [0, 2, 3, 1] rfl
          have hD9 := hD.sub (ws' := [(h, .inr (0, [.ref a, .ref b, .ref d])), (a, .inl (ka, 6, .inl o_4)), (b, .inl (kb, 6, .inl o_8)), (d, .inl (kd, 360, .inr (.inl y)))]) [0, 2, 3, 1] (by decide) rfl
          have hK9 := hK.sub (tys' := []) [] rfl
          exact W.vret hx hb hr (fun tZ htZ hW => ⟨⟨(o_4, o_8, y), rfl, trivial, by rw [htZ]; exact hP9, va_K.moved hW.alike hK9, hD9⟩, hS.F htZ⟩) hS.2.2 dX0_renew_55
        · refine lv_aload_n hx hb dX0_renew_34 rfl (lv_at hl 1 rfl) ?_
          refine va_get (D := D) (ci := 0) (v := .ref d) (C := RX0) (T := TX0) (N := 3) hx hb hts hiX0 hown hK hP 0 rfl rfl 2 (by decide) (hts (.fieldLink RX0 18 "DynamicLogicProver$Buffers" "cells" "[J") (mo_X0_renew 4 rfl)) (fun _ h9 => h9) rfl dX0_renew_35 ?_
          refine lv_iload_n hx hb dX0_renew_38 rfl (lv_at hl 2 rfl) ?_
          refine lv_bipush (v := 60) hx hb dX0_renew_39 (by decide) ?_
          refine lv_imul hx hb dX0_renew_41 ?_
          refine lv_topi (fun x_14 ex_14 => ?_)
          refine lv_iload hx hb dX0_renew_42 (lv_at hl 0 rfl) ?_
          refine lv_iadd hx hb dX0_renew_44 ?_
          refine lv_topi (fun x_15 ex_15 => ?_)
          refine lv_lconst (v := 0) hx hb dX0_renew_45 (by decide) ?_
          refine kc_Nv (As := [.ref d, .int x_15, .long 0]) (rest := []) (wr := [(h, .inr (0, [.ref a, .ref b, .ref d])), (a, .inl (ka, 6, .inl o_4)), (b, .inl (kb, 6, .inl o_8))]) ⟨hx, hb, hml, hown, hts⟩ (ct_X11_putWide l D d kd 360 y x_15 0 _ (by decide)) ⟨va_cnB 3 hts (goodIn_sub mb_X0_renew_1 gw_X11_putWide) rfl rfl rfl (hN (RX0, 36, yX11_putWide) (List.mem_of_getElem? (i := 2) rfl)) (hts (.initialized RX11) (mo_X0_renew 1 rfl)) hd_X11_putWide ⟨Nat.le_of_ble_eq_true rfl, Nat.le_of_ble_eq_true rfl⟩, (hts (.static yX11_putWide) (mo_X0_renew 5 rfl)), trivial⟩ hK hN hP hD hS hA [1] [0, 2, 3] [2] rfl rfl (by decide) (by decide) (by decide) rfl rfl hl.1 rfl (Nat.le_of_ble_eq_true rfl) dX0_renew_46 ⟨Nat.le_of_ble_eq_true rfl, Nat.le_of_ble_eq_true rfl⟩ (fun u_17 H locs w_18 hP hD hK1 hS => ?_)
          obtain ⟨o_19, rfl⟩ : ∃ z, z = u_17 := ⟨_, rfl⟩
          have hP : va_P D vwCl [(h, .inr (0, [.ref a, .ref b, .ref d])), (a, .inl (ka, 6, .inl o_4)), (b, .inl (kb, 6, .inl o_8)), (d, .inl (kd, 360, .inr (.inl o_19)))] H := hP
          have hD : va_D A [(h, .inr (0, [.ref a, .ref b, .ref d])), (a, .inl (ka, 6, .inl o_4)), (b, .inl (kb, 6, .inl o_8)), (d, .inl (kd, 360, .inr (.inl o_19)))] := hD
          have w_18 : o_19 = putL_v y 360 x_15 0 := w_18
          refine lv_iinc (v := nI (j + 1)) (lv' := [(4, .int (nI (j + 1))), (0, .ref h), (1, .int w), (2, .int ty), (3, .int le)]) hx hb dX0_renew_49 hl (k := 0) rfl (by rw [← nI_1]; rfl) (by decide) rfl (fun ls hl => ?_)
          refine lv_goto (tgt := 21) hx hb dX0_renew_52 (by decide) ?_
          exact ih_10 (j + 1) o_19 _ _ _ (nk_lt (n := 60) (by decide) hj c_13) (by have := nk_lt (n := 60) (by decide) hj c_13; omega) (hP.sub [0, 3, 1, 2] rfl) (hD.sub [0, 3, 1, 2] (by decide) rfl) hS (lv_sub hl [0, 1, 2, 3, 4] rfl)
  exact lp_9 _ 0 x _ _ _ (Nat.zero_le _) (Nat.lt_succ_self _) hP hD hS (lv_sub hl [0, 1, 2, 3, 4] rfl)
theorem dX5_init_0 : decode cX5_init 0 = .ok (.aload_n 0, 1) := by decide +kernel
theorem dX5_init_1 : decode cX5_init 1 = .ok (.invokespecial 3, 3) := by decide +kernel
theorem dX5_init_4 : decode cX5_init 4 = .ok (.aload_n 0, 1) := by decide +kernel
theorem dX5_init_5 : decode cX5_init 5 = .ok (.bipush 6, 2) := by decide +kernel
theorem dX5_init_7 : decode cX5_init 7 = .ok (.newarray .int, 2) := by decide +kernel
theorem dX5_init_9 : decode cX5_init 9 = .ok (.putfield 9, 3) := by decide +kernel
theorem dX5_init_12 : decode cX5_init 12 = .ok (.aload_n 0, 1) := by decide +kernel
theorem dX5_init_13 : decode cX5_init 13 = .ok (.bipush 6, 2) := by decide +kernel
theorem dX5_init_15 : decode cX5_init 15 = .ok (.newarray .int, 2) := by decide +kernel
theorem dX5_init_17 : decode cX5_init 17 = .ok (.putfield 15, 3) := by decide +kernel
theorem dX5_init_20 : decode cX5_init 20 = .ok (.aload_n 0, 1) := by decide +kernel
theorem dX5_init_21 : decode cX5_init 21 = .ok (.bipush 6, 2) := by decide +kernel
theorem dX5_init_23 : decode cX5_init 23 = .ok (.newarray .int, 2) := by decide +kernel
theorem dX5_init_25 : decode cX5_init 25 = .ok (.putfield 18, 3) := by decide +kernel
theorem dX5_init_28 : decode cX5_init 28 = .ok (.aload_n 0, 1) := by decide +kernel
theorem dX5_init_29 : decode cX5_init 29 = .ok (.iconst 1, 1) := by decide +kernel
theorem dX5_init_30 : decode cX5_init 30 = .ok (.putfield 21, 3) := by decide +kernel
theorem dX5_init_33 : decode cX5_init 33 = .ok (.aload_n 0, 1) := by decide +kernel
theorem dX5_init_34 : decode cX5_init 34 = .ok (.iconst 1, 1) := by decide +kernel
theorem dX5_init_35 : decode cX5_init 35 = .ok (.putfield 25, 3) := by decide +kernel
theorem dX5_init_38 : decode cX5_init 38 = .ok (.return_, 1) := by decide +kernel
def wo_X5_init : List Cond := [.methodLink RX5 3 objectInit, .instanceMethod objectInit, .code objectInit ⟨#[0xb1]⟩ 1 none, .arrayClass .int, .fieldLink RX5 9 "DynamicLogicProver$Partition" "classes" "[I", .fieldLink RX5 15 "DynamicLogicProver$Partition" "before" "[I", .fieldLink RX5 18 "DynamicLogicProver$Partition" "images" "[I", .fieldLink RX5 21 "DynamicLogicProver$Partition" "worlds" "I", .fieldLink RX5 25 "DynamicLogicProver$Partition" "number" "I"]
def wd_X5_init : List Cond := .code yX5_init cX5_init 1 none :: (wo_X5_init ++ (wsX50 ++ ([] : List Cond)))
theorem mo_X5_init {w : Cond} (i : Nat) (h : wo_X5_init[i]? = some w) : w ∈ wd_X5_init := List.mem_cons_of_mem _ (List.mem_append_left _ (List.mem_of_getElem? h))
theorem mb_X5_init_0 : ∀ w ∈ wsX50, w ∈ wd_X5_init := fun w h => List.mem_cons_of_mem _ (List.mem_append_right _ (List.mem_append_left _ h))
theorem hd_X5_init : yX5_init.cls ≠ "java/lang/invoke/MethodHandle" ∧ yX5_init.cls ≠ "java/lang/invoke/VarHandle" ∧ (parseMethodDescriptor yX5_init.desc).map (fun d => d.parameters.length) = some 0 := by decide +kernel
set_option maxRecDepth 20000 in
theorem gw_X5_init : wd_X5_init.all goodWord = true := by decide +kernel
abbrev qc_X5_init (D : va_G) (h : Nat) (A : Nat → Prop) : Array Value → State → Outcome → State → Prop := va_Qv (fun (uZ : (Nat) × (Nat) × (Nat) × (ClassId) × (ClassId) × (ClassId)) => True) (fun uZ tZ => kc_pos D A [(h, .inr (5, [.ref uZ.1, .ref uZ.2.1, .ref uZ.2.2.1, .int 1, .int 1])), (uZ.1, .inl (uZ.2.2.2.1, 6, .inl (fun _ => 0))), (uZ.2.1, .inl (uZ.2.2.2.2.1, 6, .inl (fun _ => 0))), (uZ.2.2.1, .inl (uZ.2.2.2.2.2, 6, .inl (fun _ => 0)))] [(uZ.2.2.2.1, .int), (uZ.2.2.2.2.1, .int), (uZ.2.2.2.2.2, .int)] tZ) A
set_option maxHeartbeats 4000000 in
set_option maxRecDepth 100000 in
theorem ct_X5_init (l : Launch) (D : va_G) (h : Nat) (sz : Nat)  : Met l yX5_init wd_X5_init ({ frames := 1, cells := 3, slots := 18, locals := 12 }) (va_Pc [.ref h] (kc_pre D [] [(h, .inr (5, [.null, .null, .null, .int 0, .int 0]))] sz)) (qc_X5_init D h (va_A [(h, .inr (5, [.null, .null, .null, .int 0, .int 0]))] sz)) 3 18 (va_A [(h, .inr (5, [.null, .null, .null, .int 0, .int 0]))] sz) := by
  refine Met.ofW (cc := cX5_init) (maxL := 1) (ret := none) (by decide) rfl ?_
  intro p e s m args below meth c s₁ B hml hv
  obtain ⟨rfl, hsz, hP, hK, hN, hD0⟩ := hv
  have hx := B.exec
  have hb := B.bytes
  have hr := B.returns
  have hts := atoms_spec (ws := wd_X5_init) B.pre
  have hown : s.vm.findClass RX5 = some m.cls := findClass_of_methodNamed B.named
  have hlocks := B.notSynchronized
  have hin : meth.name = "<init>" := (name_of_methodNamed B.named B.method).1
  subst hsz
  have hD := hD0.self (sz := s.heap.size)
  generalize hAe : va_A [(h, .inr (5, [.null, .null, .null, .int 0, .int 0]))] s.heap.size = A at hD ⊢
  have hA : ∀ q : Nat, s.heap.size ≤ q → A q := fun q h => by rw [← hAe]; exact Or.inr h
  have hS : va_S A s.heap s.heap [] := va_S.rf
  have hiX5 : ∀ w ∈ wsX50, w ∈ wd_X5_init := mb_X5_init_0
  have hl := lv_entry ([.ref h]) (n := 1) (Nat.le_of_ble_eq_true rfl)
  rw [lg_entry_eq]
  generalize (lg_sl ([.ref h]) ++ List.replicate (1 - (lg_sl ([.ref h])).length) Slot.unset).toArray = ls at hl ⊢
  have hl : lv_has ls 1 [(0, .ref h)] := hl
  refine lv_aload_n hx hb dX5_init_0 rfl (lv_at hl 0 rfl) ?_
  refine W.objInit hx hb hown (hts (.methodLink RX5 3 objectInit) (mo_X5_init 0 rfl)) (hts (.instanceMethod objectInit) (mo_X5_init 1 rfl)) (hts (.code objectInit ⟨#[0xb1]⟩ 1 none) (mo_X5_init 2 rfl)) rfl (by rw [hml]; exact hl.1) rfl dX5_init_1 (Nat.le_of_ble_eq_true rfl) (Nat.le_of_ble_eq_true rfl) ?_
  refine W.eq (g2 := F0 m 4 ls []) rfl ?_
  refine lv_aload_n hx hb dX5_init_4 rfl (lv_at hl 0 rfl) ?_
  refine lv_bipush (v := 6) hx hb dX5_init_5 (by decide) ?_
  refine va_newa (atype := .int) (ty := .int) (a0 := (6, .inl (fun _ => 0))) hx hb (hts (.arrayClass .int) (mo_X5_init 3 rfl)) rfl hK hP hD hS hA (fun _ => rfl) (by decide) (N' := 6) (by decide) (by decide) (Nat.le_of_ble_eq_true rfl) (Nat.le_of_ble_eq_true rfl) dX5_init_7 (fun q_1 k_2 H hK hP hD hS => ?_)
  have hP : va_P D vwCl [(h, .inr (5, [.null, .null, .null, .int 0, .int 0])), (q_1, .inl (k_2, 6, .inl (fun _ => 0)))] H := hP
  have hD : va_D A [(h, .inr (5, [.null, .null, .null, .int 0, .int 0])), (q_1, .inl (k_2, 6, .inl (fun _ => 0)))] := hD
  have hK : va_K D vwCl [(k_2, .int)] s := hK
  refine W.widen (k := 1) (n := 6) (by decide) (Nat.le_of_ble_eq_true rfl) ?_
  refine va_putF (D := D) (ci := 5) (v := .ref q_1) (ty := .array .int) (C := RX5) (T := TX5) (N := 5) hx hb hts hiX5 tyX5 tyX5_ok nmX5 hown hK hP hD hS 0 rfl rfl 0 (by decide) (hts (.fieldLink RX5 9 "DynamicLogicProver$Partition" "classes" "[I") (mo_X5_init 4 rfl)) (fun _ h9 => h9) rfl hin rfl (tyX5_ok 0 (by decide)) rfl rfl (Nat.le_of_ble_eq_true rfl) dX5_init_9 (fun H locs hP hD hS => ?_)
  have hP : va_P D vwCl [(h, .inr (5, [.ref q_1, .null, .null, .int 0, .int 0])), (q_1, .inl (k_2, 6, .inl (fun _ => 0)))] H := hP
  have hD : va_D A [(h, .inr (5, [.ref q_1, .null, .null, .int 0, .int 0])), (q_1, .inl (k_2, 6, .inl (fun _ => 0)))] := hD
  refine lv_aload_n hx hb dX5_init_12 rfl (lv_at hl 0 rfl) ?_
  refine lv_bipush (v := 6) hx hb dX5_init_13 (by decide) ?_
  refine va_newa (atype := .int) (ty := .int) (a0 := (6, .inl (fun _ => 0))) hx hb (hts (.arrayClass .int) (mo_X5_init 3 rfl)) rfl hK hP hD hS hA (fun _ => rfl) (by decide) (N' := 6) (by decide) (by decide) (Nat.le_of_ble_eq_true rfl) (Nat.le_of_ble_eq_true rfl) dX5_init_15 (fun q_3 k_4 H hK hP hD hS => ?_)
  have hP : va_P D vwCl [(h, .inr (5, [.ref q_1, .null, .null, .int 0, .int 0])), (q_1, .inl (k_2, 6, .inl (fun _ => 0))), (q_3, .inl (k_4, 6, .inl (fun _ => 0)))] H := hP
  have hD : va_D A [(h, .inr (5, [.ref q_1, .null, .null, .int 0, .int 0])), (q_1, .inl (k_2, 6, .inl (fun _ => 0))), (q_3, .inl (k_4, 6, .inl (fun _ => 0)))] := hD
  have hK : va_K D vwCl [(k_2, .int), (k_4, .int)] s := hK
  refine W.widen (k := 2) (n := 12) (by decide) (Nat.le_of_ble_eq_true rfl) ?_
  refine va_putF (D := D) (ci := 5) (v := .ref q_3) (ty := .array .int) (C := RX5) (T := TX5) (N := 5) hx hb hts hiX5 tyX5 tyX5_ok nmX5 hown hK hP hD hS 0 rfl rfl 1 (by decide) (hts (.fieldLink RX5 15 "DynamicLogicProver$Partition" "before" "[I") (mo_X5_init 5 rfl)) (fun _ h9 => h9) rfl hin rfl (tyX5_ok 1 (by decide)) rfl rfl (Nat.le_of_ble_eq_true rfl) dX5_init_17 (fun H locs hP hD hS => ?_)
  have hP : va_P D vwCl [(h, .inr (5, [.ref q_1, .ref q_3, .null, .int 0, .int 0])), (q_1, .inl (k_2, 6, .inl (fun _ => 0))), (q_3, .inl (k_4, 6, .inl (fun _ => 0)))] H := hP
  have hD : va_D A [(h, .inr (5, [.ref q_1, .ref q_3, .null, .int 0, .int 0])), (q_1, .inl (k_2, 6, .inl (fun _ => 0))), (q_3, .inl (k_4, 6, .inl (fun _ => 0)))] := hD
  refine lv_aload_n hx hb dX5_init_20 rfl (lv_at hl 0 rfl) ?_
  refine lv_bipush (v := 6) hx hb dX5_init_21 (by decide) ?_
  refine va_newa (atype := .int) (ty := .int) (a0 := (6, .inl (fun _ => 0))) hx hb (hts (.arrayClass .int) (mo_X5_init 3 rfl)) rfl hK hP hD hS hA (fun _ => rfl) (by decide) (N' := 6) (by decide) (by decide) (Nat.le_of_ble_eq_true rfl) (Nat.le_of_ble_eq_true rfl) dX5_init_23 (fun q_5 k_6 H hK hP hD hS => ?_)
  have hP : va_P D vwCl [(h, .inr (5, [.ref q_1, .ref q_3, .null, .int 0, .int 0])), (q_1, .inl (k_2, 6, .inl (fun _ => 0))), (q_3, .inl (k_4, 6, .inl (fun _ => 0))), (q_5, .inl (k_6, 6, .inl (fun _ => 0)))] H := hP
  have hD : va_D A [(h, .inr (5, [.ref q_1, .ref q_3, .null, .int 0, .int 0])), (q_1, .inl (k_2, 6, .inl (fun _ => 0))), (q_3, .inl (k_4, 6, .inl (fun _ => 0))), (q_5, .inl (k_6, 6, .inl (fun _ => 0)))] := hD
  have hK : va_K D vwCl [(k_2, .int), (k_4, .int), (k_6, .int)] s := hK
  refine W.widen (k := 3) (n := 18) (by decide) (Nat.le_of_ble_eq_true rfl) ?_
  refine va_putF (D := D) (ci := 5) (v := .ref q_5) (ty := .array .int) (C := RX5) (T := TX5) (N := 5) hx hb hts hiX5 tyX5 tyX5_ok nmX5 hown hK hP hD hS 0 rfl rfl 2 (by decide) (hts (.fieldLink RX5 18 "DynamicLogicProver$Partition" "images" "[I") (mo_X5_init 6 rfl)) (fun _ h9 => h9) rfl hin rfl (tyX5_ok 2 (by decide)) rfl rfl (Nat.le_of_ble_eq_true rfl) dX5_init_25 (fun H locs hP hD hS => ?_)
  have hP : va_P D vwCl [(h, .inr (5, [.ref q_1, .ref q_3, .ref q_5, .int 0, .int 0])), (q_1, .inl (k_2, 6, .inl (fun _ => 0))), (q_3, .inl (k_4, 6, .inl (fun _ => 0))), (q_5, .inl (k_6, 6, .inl (fun _ => 0)))] H := hP
  have hD : va_D A [(h, .inr (5, [.ref q_1, .ref q_3, .ref q_5, .int 0, .int 0])), (q_1, .inl (k_2, 6, .inl (fun _ => 0))), (q_3, .inl (k_4, 6, .inl (fun _ => 0))), (q_5, .inl (k_6, 6, .inl (fun _ => 0)))] := hD
  refine lv_aload_n hx hb dX5_init_28 rfl (lv_at hl 0 rfl) ?_
  refine lv_iconst (v := 1) hx hb dX5_init_29 (by decide) ?_
  refine va_put (D := D) (ci := 5) (v := .int 1) (ty := .int) (C := RX5) (T := TX5) (N := 5) hx hb hts hiX5 tyX5 tyX5_ok nmX5 hown hK hP hD hS 0 rfl rfl 3 (by decide) (hts (.fieldLink RX5 21 "DynamicLogicProver$Partition" "worlds" "I") (mo_X5_init 7 rfl)) (fun _ h9 => h9) rfl (tyX5_ok 3 (by decide)) rfl rfl (Nat.le_of_ble_eq_true rfl) dX5_init_30 (fun H locs hP hD hS => ?_)
  have hP : va_P D vwCl [(h, .inr (5, [.ref q_1, .ref q_3, .ref q_5, .int 1, .int 0])), (q_1, .inl (k_2, 6, .inl (fun _ => 0))), (q_3, .inl (k_4, 6, .inl (fun _ => 0))), (q_5, .inl (k_6, 6, .inl (fun _ => 0)))] H := hP
  have hD : va_D A [(h, .inr (5, [.ref q_1, .ref q_3, .ref q_5, .int 1, .int 0])), (q_1, .inl (k_2, 6, .inl (fun _ => 0))), (q_3, .inl (k_4, 6, .inl (fun _ => 0))), (q_5, .inl (k_6, 6, .inl (fun _ => 0)))] := hD
  refine lv_aload_n hx hb dX5_init_33 rfl (lv_at hl 0 rfl) ?_
  refine lv_iconst (v := 1) hx hb dX5_init_34 (by decide) ?_
  refine va_put (D := D) (ci := 5) (v := .int 1) (ty := .int) (C := RX5) (T := TX5) (N := 5) hx hb hts hiX5 tyX5 tyX5_ok nmX5 hown hK hP hD hS 0 rfl rfl 4 (by decide) (hts (.fieldLink RX5 25 "DynamicLogicProver$Partition" "number" "I") (mo_X5_init 8 rfl)) (fun _ h9 => h9) rfl (tyX5_ok 4 (by decide)) rfl rfl (Nat.le_of_ble_eq_true rfl) dX5_init_35 (fun H locs hP hD hS => ?_)
  have hP : va_P D vwCl [(h, .inr (5, [.ref q_1, .ref q_3, .ref q_5, .int 1, .int 1])), (q_1, .inl (k_2, 6, .inl (fun _ => 0))), (q_3, .inl (k_4, 6, .inl (fun _ => 0))), (q_5, .inl (k_6, 6, .inl (fun _ => 0)))] H := hP
  have hD : va_D A [(h, .inr (5, [.ref q_1, .ref q_3, .ref q_5, .int 1, .int 1])), (q_1, .inl (k_2, 6, .inl (fun _ => 0))), (q_3, .inl (k_4, 6, .inl (fun _ => 0))), (q_5, .inl (k_6, 6, .inl (fun _ => 0)))] := hD
  have hP9 := hP.sub (ws' := [(h, .inr (5, [.ref q_1, .ref q_3, .ref q_5, .int 1, .int 1])), (q_1, .inl (k_2, 6, .inl (fun _ => 0))), (q_3, .inl (k_4, 6, .inl (fun _ => 0))), (q_5, .inl (k_6, 6, .inl (fun _ => 0)))]) [0, 1, 2, 3] rfl
  have hD9 := hD.sub (ws' := [(h, .inr (5, [.ref q_1, .ref q_3, .ref q_5, .int 1, .int 1])), (q_1, .inl (k_2, 6, .inl (fun _ => 0))), (q_3, .inl (k_4, 6, .inl (fun _ => 0))), (q_5, .inl (k_6, 6, .inl (fun _ => 0)))]) [0, 1, 2, 3] (by decide) rfl
  have hK9 := hK.sub (tys' := [(k_2, .int), (k_4, .int), (k_6, .int)]) [0, 1, 2] rfl
  refine W.widen (k := 3) (n := 18) (Nat.le_of_ble_eq_true rfl) (Nat.le_of_ble_eq_true rfl) ?_
  exact W.vret hx hb hr (fun tZ htZ hW => ⟨⟨(q_1, q_3, q_5, k_2, k_4, k_6), rfl, trivial, by rw [htZ]; exact hP9, va_K.moved hW.alike hK9, hD9⟩, hS.F htZ⟩) hS.2.2 dX5_init_38
theorem dX5_size_0 : decode cX5_size 0 = .ok (.aload_n 0, 1) := by decide +kernel
theorem dX5_size_1 : decode cX5_size 1 = .ok (.getfield 25, 3) := by decide +kernel
theorem dX5_size_4 : decode cX5_size 4 = .ok (.ireturn, 1) := by decide +kernel
def wo_X5_size : List Cond := [.fieldLink RX5 25 "DynamicLogicProver$Partition" "number" "I"]
def wd_X5_size : List Cond := .code yX5_size cX5_size 1 (some .int) :: (wo_X5_size ++ (wsX50 ++ ([] : List Cond)))
theorem mo_X5_size {w : Cond} (i : Nat) (h : wo_X5_size[i]? = some w) : w ∈ wd_X5_size := List.mem_cons_of_mem _ (List.mem_append_left _ (List.mem_of_getElem? h))
theorem mb_X5_size_0 : ∀ w ∈ wsX50, w ∈ wd_X5_size := fun w h => List.mem_cons_of_mem _ (List.mem_append_right _ (List.mem_append_left _ h))
theorem hd_X5_size : yX5_size.cls ≠ "java/lang/invoke/MethodHandle" ∧ yX5_size.cls ≠ "java/lang/invoke/VarHandle" ∧ (parseMethodDescriptor yX5_size.desc).map (fun d => d.parameters.length) = some 0 := by decide +kernel
set_option maxRecDepth 20000 in
theorem gw_X5_size : wd_X5_size.all goodWord = true := by decide +kernel
abbrev qc_X5_size (D : va_G) (h : Nat) (a : Nat) (b : Nat) (d : Nat) (k : Int32) (n : Int32) (A : Nat → Prop) : Array Value → State → Outcome → State → Prop := va_Qi (fun (r : Int32) (uZ : Unit) => r = n) (fun uZ tZ => kc_pos D A [(h, .inr (5, [.ref a, .ref b, .ref d, .int k, .int n]))] [] tZ) A
set_option maxHeartbeats 4000000 in
set_option maxRecDepth 100000 in
theorem ct_X5_size (l : Launch) (D : va_G) (h : Nat) (a : Nat) (b : Nat) (d : Nat) (k : Int32) (n : Int32) (sz : Nat)  : Met l yX5_size wd_X5_size ({ frames := 0, cells := 0, slots := 0, locals := 0 }) (va_Pc [.ref h] (kc_pre D [] [(h, .inr (5, [.ref a, .ref b, .ref d, .int k, .int n]))] sz)) (qc_X5_size D h a b d k n (va_A [(h, .inr (5, [.ref a, .ref b, .ref d, .int k, .int n]))] sz)) 0 0 (va_A [(h, .inr (5, [.ref a, .ref b, .ref d, .int k, .int n]))] sz) := by
  refine Met.ofW (cc := cX5_size) (maxL := 1) (ret := (some .int)) (by decide) rfl ?_
  intro p e s m args below meth c s₁ B hml hv
  obtain ⟨rfl, hsz, hP, hK, hN, hD0⟩ := hv
  have hx := B.exec
  have hb := B.bytes
  have hr := B.returns
  have hts := atoms_spec (ws := wd_X5_size) B.pre
  have hown : s.vm.findClass RX5 = some m.cls := findClass_of_methodNamed B.named
  have hlocks := B.notSynchronized
  subst hsz
  have hD := hD0.self (sz := s.heap.size)
  generalize hAe : va_A [(h, .inr (5, [.ref a, .ref b, .ref d, .int k, .int n]))] s.heap.size = A at hD ⊢
  have hA : ∀ q : Nat, s.heap.size ≤ q → A q := fun q h => by rw [← hAe]; exact Or.inr h
  have hS : va_S A s.heap s.heap [] := va_S.rf
  have hiX5 : ∀ w ∈ wsX50, w ∈ wd_X5_size := mb_X5_size_0
  have hl := lv_entry ([.ref h]) (n := 1) (Nat.le_of_ble_eq_true rfl)
  rw [lg_entry_eq]
  generalize (lg_sl ([.ref h]) ++ List.replicate (1 - (lg_sl ([.ref h])).length) Slot.unset).toArray = ls at hl ⊢
  have hl : lv_has ls 1 [(0, .ref h)] := hl
  refine lv_aload_n hx hb dX5_size_0 rfl (lv_at hl 0 rfl) ?_
  refine va_get (D := D) (ci := 5) (v := .int n) (C := RX5) (T := TX5) (N := 5) hx hb hts hiX5 hown hK hP 0 rfl rfl 4 (by decide) (hts (.fieldLink RX5 25 "DynamicLogicProver$Partition" "number" "I") (mo_X5_size 0 rfl)) (fun _ h9 => h9) rfl dX5_size_1 ?_
  have hP9 := hP.sub (ws' := [(h, .inr (5, [.ref a, .ref b, .ref d, .int k, .int n]))]) [0] rfl
  have hD9 := hD.sub (ws' := [(h, .inr (5, [.ref a, .ref b, .ref d, .int k, .int n]))]) [0] (by decide) rfl
  have hK9 := hK.sub (tys' := []) [] rfl
  exact W.iret (v := n) hx hb hr (fun tZ htZ hW => ⟨⟨n, (), rfl, rfl, by rw [htZ]; exact hP9, va_K.moved hW.alike hK9, hD9⟩, hS.F htZ⟩) hS.2.2 dX5_size_4
theorem dX5_classOf_0 : decode cX5_classOf 0 = .ok (.aload_n 0, 1) := by decide +kernel
theorem dX5_classOf_1 : decode cX5_classOf 1 = .ok (.getfield 9, 3) := by decide +kernel
theorem dX5_classOf_4 : decode cX5_classOf 4 = .ok (.iload_n 1, 1) := by decide +kernel
theorem dX5_classOf_5 : decode cX5_classOf 5 = .ok (.invokestatic 28, 3) := by decide +kernel
theorem dX5_classOf_8 : decode cX5_classOf 8 = .ok (.ireturn, 1) := by decide +kernel
def wo_X5_classOf : List Cond := [.fieldLink RX5 9 "DynamicLogicProver$Partition" "classes" "[I", .initialized RX11, .static yX11_at]
def wd_X5_classOf : List Cond := .code yX5_classOf cX5_classOf 2 (some .int) :: (wo_X5_classOf ++ (wd_X11_at ++ (wsX50 ++ ([] : List Cond))))
theorem mo_X5_classOf {w : Cond} (i : Nat) (h : wo_X5_classOf[i]? = some w) : w ∈ wd_X5_classOf := List.mem_cons_of_mem _ (List.mem_append_left _ (List.mem_of_getElem? h))
theorem mb_X5_classOf_0 : ∀ w ∈ wd_X11_at, w ∈ wd_X5_classOf := fun w h => List.mem_cons_of_mem _ (List.mem_append_right _ (List.mem_append_left _ h))
theorem mb_X5_classOf_1 : ∀ w ∈ wsX50, w ∈ wd_X5_classOf := fun w h => List.mem_cons_of_mem _ (List.mem_append_right _ (List.mem_append_right _ (List.mem_append_left _ h)))
theorem hd_X5_classOf : yX5_classOf.cls ≠ "java/lang/invoke/MethodHandle" ∧ yX5_classOf.cls ≠ "java/lang/invoke/VarHandle" ∧ (parseMethodDescriptor yX5_classOf.desc).map (fun d => d.parameters.length) = some 1 := by decide +kernel
set_option maxRecDepth 20000 in
theorem gw_X5_classOf : wd_X5_classOf.all goodWord = true := by decide +kernel
abbrev qc_X5_classOf (D : va_G) (h : Nat) (a : Nat) (b : Nat) (d : Nat) (ka : ClassId) (f : Nat → Int32) (k : Int32) (n : Int32) (w : Int32) (A : Nat → Prop) : Array Value → State → Outcome → State → Prop := va_Qi (fun (r : Int32) (uZ : Unit) => r = at_v f 6 w) (fun uZ tZ => kc_pos D A [(h, .inr (5, [.ref a, .ref b, .ref d, .int k, .int n])), (a, .inl (ka, 6, .inl f))] [] tZ) A
set_option maxHeartbeats 4000000 in
set_option maxRecDepth 100000 in
theorem ct_X5_classOf (l : Launch) (D : va_G) (h : Nat) (a : Nat) (b : Nat) (d : Nat) (ka : ClassId) (f : Nat → Int32) (k : Int32) (n : Int32) (w : Int32) (sz : Nat)  : Met l yX5_classOf wd_X5_classOf ({ frames := 1, cells := 0, slots := 0, locals := 21 }) (va_Pc [.ref h, .int w] (kc_pre D [(ka, .int)] [(h, .inr (5, [.ref a, .ref b, .ref d, .int k, .int n])), (a, .inl (ka, 6, .inl f))] sz)) (qc_X5_classOf D h a b d ka f k n w (va_A [(h, .inr (5, [.ref a, .ref b, .ref d, .int k, .int n])), (a, .inl (ka, 6, .inl f))] sz)) 0 0 (va_A [(h, .inr (5, [.ref a, .ref b, .ref d, .int k, .int n])), (a, .inl (ka, 6, .inl f))] sz) := by
  refine Met.ofW (cc := cX5_classOf) (maxL := 2) (ret := (some .int)) (by decide) rfl ?_
  intro p e s m args below meth c s₁ B hml hv
  obtain ⟨rfl, hsz, hP, hK, hN, hD0⟩ := hv
  have hx := B.exec
  have hb := B.bytes
  have hr := B.returns
  have hts := atoms_spec (ws := wd_X5_classOf) B.pre
  have hown : s.vm.findClass RX5 = some m.cls := findClass_of_methodNamed B.named
  have hlocks := B.notSynchronized
  subst hsz
  have hD := hD0.self (sz := s.heap.size)
  generalize hAe : va_A [(h, .inr (5, [.ref a, .ref b, .ref d, .int k, .int n])), (a, .inl (ka, 6, .inl f))] s.heap.size = A at hD ⊢
  have hA : ∀ q : Nat, s.heap.size ≤ q → A q := fun q h => by rw [← hAe]; exact Or.inr h
  have hS : va_S A s.heap s.heap [] := va_S.rf
  have hiX5 : ∀ w ∈ wsX50, w ∈ wd_X5_classOf := mb_X5_classOf_1
  have hl := lv_entry ([.ref h, .int w]) (n := 2) (Nat.le_of_ble_eq_true rfl)
  rw [lg_entry_eq]
  generalize (lg_sl ([.ref h, .int w]) ++ List.replicate (2 - (lg_sl ([.ref h, .int w])).length) Slot.unset).toArray = ls at hl ⊢
  have hl : lv_has ls 2 [(0, .ref h), (1, .int w)] := hl
  refine lv_aload_n hx hb dX5_classOf_0 rfl (lv_at hl 0 rfl) ?_
  refine va_get (D := D) (ci := 5) (v := .ref a) (C := RX5) (T := TX5) (N := 5) hx hb hts hiX5 hown hK hP 0 rfl rfl 0 (by decide) (hts (.fieldLink RX5 9 "DynamicLogicProver$Partition" "classes" "[I") (mo_X5_classOf 0 rfl)) (fun _ h9 => h9) rfl dX5_classOf_1 ?_
  refine lv_iload_n hx hb dX5_classOf_4 rfl (lv_at hl 1 rfl) ?_
  refine kc_Ni (As := [.ref a, .int w]) (rest := []) (wr := [(h, .inr (5, [.ref a, .ref b, .ref d, .int k, .int n]))]) ⟨hx, hb, hml, hown, hts⟩ (ct_X11_at l D a ka 6 f w _ (by decide)) ⟨va_cnB 2 hts (goodIn_sub mb_X5_classOf_0 gw_X11_at) rfl rfl rfl (hN (RX5, 28, yX11_at) (List.mem_of_getElem? (i := 17) rfl)) (hts (.initialized RX11) (mo_X5_classOf 1 rfl)) hd_X11_at ⟨Nat.le_of_ble_eq_true rfl, Nat.le_of_ble_eq_true rfl⟩, (hts (.static yX11_at) (mo_X5_classOf 2 rfl)), trivial⟩ hK hN hP hD hS hA [1] [0] [0] rfl rfl (by decide) (by decide) (by decide) rfl rfl hl.1 rfl (Nat.le_of_ble_eq_true rfl) dX5_classOf_5 ⟨Nat.le_of_ble_eq_true rfl, Nat.le_of_ble_eq_true rfl⟩ (fun r_1 u_2 H locs w_3 hP hD hK1 hS => ?_)
  have hP : va_P D vwCl [(h, .inr (5, [.ref a, .ref b, .ref d, .int k, .int n])), (a, .inl (ka, 6, .inl f))] H := hP
  have hD : va_D A [(h, .inr (5, [.ref a, .ref b, .ref d, .int k, .int n])), (a, .inl (ka, 6, .inl f))] := hD
  have w_3 : r_1 = at_v f 6 w := w_3
  have hP9 := hP.sub (ws' := [(h, .inr (5, [.ref a, .ref b, .ref d, .int k, .int n])), (a, .inl (ka, 6, .inl f))]) [0, 1] rfl
  have hD9 := hD.sub (ws' := [(h, .inr (5, [.ref a, .ref b, .ref d, .int k, .int n])), (a, .inl (ka, 6, .inl f))]) [0, 1] (by decide) rfl
  have hK9 := hK.sub (tys' := []) [] rfl
  exact W.iret (v := r_1) hx hb hr (fun tZ htZ hW => ⟨⟨r_1, (), rfl, w_3, by rw [htZ]; exact hP9, va_K.moved hW.alike hK9, hD9⟩, hS.F htZ⟩) hS.2.2 dX5_classOf_8
theorem dX5_begin_0 : decode cX5_begin 0 = .ok (.aload_n 0, 1) := by decide +kernel
theorem dX5_begin_1 : decode cX5_begin 1 = .ok (.iload_n 1, 1) := by decide +kernel
theorem dX5_begin_2 : decode cX5_begin 2 = .ok (.putfield 21, 3) := by decide +kernel
theorem dX5_begin_5 : decode cX5_begin 5 = .ok (.aload_n 0, 1) := by decide +kernel
theorem dX5_begin_6 : decode cX5_begin 6 = .ok (.iconst 1, 1) := by decide +kernel
theorem dX5_begin_7 : decode cX5_begin 7 = .ok (.putfield 25, 3) := by decide +kernel
theorem dX5_begin_10 : decode cX5_begin 10 = .ok (.aload_n 0, 1) := by decide +kernel
theorem dX5_begin_11 : decode cX5_begin 11 = .ok (.getfield 9, 3) := by decide +kernel
theorem dX5_begin_14 : decode cX5_begin 14 = .ok (.iconst 0, 1) := by decide +kernel
theorem dX5_begin_15 : decode cX5_begin 15 = .ok (.invokestatic 32, 3) := by decide +kernel
theorem dX5_begin_18 : decode cX5_begin 18 = .ok (.return_, 1) := by decide +kernel
def wo_X5_begin : List Cond := [.fieldLink RX5 21 "DynamicLogicProver$Partition" "worlds" "I", .fieldLink RX5 25 "DynamicLogicProver$Partition" "number" "I", .fieldLink RX5 9 "DynamicLogicProver$Partition" "classes" "[I", .methodLink RX5 32 yJ7_fill_53178, .static yJ7_fill_53178, .initialized RJ7]
def wd_X5_begin : List Cond := .code yX5_begin cX5_begin 2 none :: (wo_X5_begin ++ (wd_J7_fill_53178 ++ (wsX50 ++ ([] : List Cond))))
theorem mo_X5_begin {w : Cond} (i : Nat) (h : wo_X5_begin[i]? = some w) : w ∈ wd_X5_begin := List.mem_cons_of_mem _ (List.mem_append_left _ (List.mem_of_getElem? h))
theorem mb_X5_begin_0 : ∀ w ∈ wd_J7_fill_53178, w ∈ wd_X5_begin := fun w h => List.mem_cons_of_mem _ (List.mem_append_right _ (List.mem_append_left _ h))
theorem mb_X5_begin_1 : ∀ w ∈ wsX50, w ∈ wd_X5_begin := fun w h => List.mem_cons_of_mem _ (List.mem_append_right _ (List.mem_append_right _ (List.mem_append_left _ h)))
theorem hd_X5_begin : yX5_begin.cls ≠ "java/lang/invoke/MethodHandle" ∧ yX5_begin.cls ≠ "java/lang/invoke/VarHandle" ∧ (parseMethodDescriptor yX5_begin.desc).map (fun d => d.parameters.length) = some 1 := by decide +kernel
set_option maxRecDepth 20000 in
theorem gw_X5_begin : wd_X5_begin.all goodWord = true := by decide +kernel
abbrev qc_X5_begin (D : va_G) (h : Nat) (a : Nat) (b : Nat) (d : Nat) (ka : ClassId) (f : Nat → Int32) (k : Int32) (n : Int32) (w : Int32) (A : Nat → Prop) : Array Value → State → Outcome → State → Prop := va_Qv (fun (uZ : (Nat → Int32)) => True) (fun uZ tZ => kc_pos D A [(h, .inr (5, [.ref a, .ref b, .ref d, .int w, .int 1])), (a, .inl (ka, 6, .inl uZ))] [] tZ) A
set_option maxHeartbeats 4000000 in
set_option maxRecDepth 100000 in
theorem ct_X5_begin (l : Launch) (D : va_G) (h : Nat) (a : Nat) (b : Nat) (d : Nat) (ka : ClassId) (f : Nat → Int32) (k : Int32) (n : Int32) (w : Int32) (sz : Nat)  : Met l yX5_begin wd_X5_begin ({ frames := 1, cells := 0, slots := 0, locals := 23 }) (va_Pc [.ref h, .int w] (kc_pre D [(ka, .int)] [(h, .inr (5, [.ref a, .ref b, .ref d, .int k, .int n])), (a, .inl (ka, 6, .inl f))] sz)) (qc_X5_begin D h a b d ka f k n w (va_A [(h, .inr (5, [.ref a, .ref b, .ref d, .int k, .int n])), (a, .inl (ka, 6, .inl f))] sz)) 0 0 (va_A [(h, .inr (5, [.ref a, .ref b, .ref d, .int k, .int n])), (a, .inl (ka, 6, .inl f))] sz) := by
  refine Met.ofW (cc := cX5_begin) (maxL := 2) (ret := none) (by decide) rfl ?_
  intro p e s m args below meth c s₁ B hml hv
  obtain ⟨rfl, hsz, hP, hK, hN, hD0⟩ := hv
  have hx := B.exec
  have hb := B.bytes
  have hr := B.returns
  have hts := atoms_spec (ws := wd_X5_begin) B.pre
  have hown : s.vm.findClass RX5 = some m.cls := findClass_of_methodNamed B.named
  have hlocks := B.notSynchronized
  subst hsz
  have hD := hD0.self (sz := s.heap.size)
  generalize hAe : va_A [(h, .inr (5, [.ref a, .ref b, .ref d, .int k, .int n])), (a, .inl (ka, 6, .inl f))] s.heap.size = A at hD ⊢
  have hA : ∀ q : Nat, s.heap.size ≤ q → A q := fun q h => by rw [← hAe]; exact Or.inr h
  have hS : va_S A s.heap s.heap [] := va_S.rf
  have hiX5 : ∀ w ∈ wsX50, w ∈ wd_X5_begin := mb_X5_begin_1
  have hl := lv_entry ([.ref h, .int w]) (n := 2) (Nat.le_of_ble_eq_true rfl)
  rw [lg_entry_eq]
  generalize (lg_sl ([.ref h, .int w]) ++ List.replicate (2 - (lg_sl ([.ref h, .int w])).length) Slot.unset).toArray = ls at hl ⊢
  have hl : lv_has ls 2 [(0, .ref h), (1, .int w)] := hl
  refine lv_aload_n hx hb dX5_begin_0 rfl (lv_at hl 0 rfl) ?_
  refine lv_iload_n hx hb dX5_begin_1 rfl (lv_at hl 1 rfl) ?_
  refine va_put (D := D) (ci := 5) (v := .int w) (ty := .int) (C := RX5) (T := TX5) (N := 5) hx hb hts hiX5 tyX5 tyX5_ok nmX5 hown hK hP hD hS 0 rfl rfl 3 (by decide) (hts (.fieldLink RX5 21 "DynamicLogicProver$Partition" "worlds" "I") (mo_X5_begin 0 rfl)) (fun _ h9 => h9) rfl (tyX5_ok 3 (by decide)) rfl rfl (Nat.le_of_ble_eq_true rfl) dX5_begin_2 (fun H locs hP hD hS => ?_)
  have hP : va_P D vwCl [(h, .inr (5, [.ref a, .ref b, .ref d, .int w, .int n])), (a, .inl (ka, 6, .inl f))] H := hP
  have hD : va_D A [(h, .inr (5, [.ref a, .ref b, .ref d, .int w, .int n])), (a, .inl (ka, 6, .inl f))] := hD
  refine lv_aload_n hx hb dX5_begin_5 rfl (lv_at hl 0 rfl) ?_
  refine lv_iconst (v := 1) hx hb dX5_begin_6 (by decide) ?_
  refine va_put (D := D) (ci := 5) (v := .int 1) (ty := .int) (C := RX5) (T := TX5) (N := 5) hx hb hts hiX5 tyX5 tyX5_ok nmX5 hown hK hP hD hS 0 rfl rfl 4 (by decide) (hts (.fieldLink RX5 25 "DynamicLogicProver$Partition" "number" "I") (mo_X5_begin 1 rfl)) (fun _ h9 => h9) rfl (tyX5_ok 4 (by decide)) rfl rfl (Nat.le_of_ble_eq_true rfl) dX5_begin_7 (fun H locs hP hD hS => ?_)
  have hP : va_P D vwCl [(h, .inr (5, [.ref a, .ref b, .ref d, .int w, .int 1])), (a, .inl (ka, 6, .inl f))] H := hP
  have hD : va_D A [(h, .inr (5, [.ref a, .ref b, .ref d, .int w, .int 1])), (a, .inl (ka, 6, .inl f))] := hD
  refine lv_aload_n hx hb dX5_begin_10 rfl (lv_at hl 0 rfl) ?_
  refine va_get (D := D) (ci := 5) (v := .ref a) (C := RX5) (T := TX5) (N := 5) hx hb hts hiX5 hown hK hP 0 rfl rfl 0 (by decide) (hts (.fieldLink RX5 9 "DynamicLogicProver$Partition" "classes" "[I") (mo_X5_begin 2 rfl)) (fun _ h9 => h9) rfl dX5_begin_11 ?_
  refine lv_iconst (v := 0) hx hb dX5_begin_14 (by decide) ?_
  refine kc_Sv (As := [.ref a, .int 0]) (rest := []) (wr := [(h, .inr (5, [.ref a, .ref b, .ref d, .int w, .int 1]))]) ⟨hx, hb, hml, hown, hts⟩ (ct_J7_fill_53178 l D a ka 6 f 0 _ (by decide)) (va_cwS 2 hts (kg_S (mo_X5_begin 3 rfl) (mo_X5_begin 4 rfl) (mo_X5_begin 5 rfl) (goodIn_sub mb_X5_begin_0 gw_J7_fill_53178)) rfl rfl rfl hd_J7_fill_53178 ⟨Nat.le_of_ble_eq_true rfl, Nat.le_of_ble_eq_true rfl⟩) hK hN hP hD hS hA [1] [0] [0] rfl rfl (by decide) (by decide) (by decide) rfl rfl hl.1 rfl (Nat.le_of_ble_eq_true rfl) dX5_begin_15 ⟨Nat.le_of_ble_eq_true rfl, Nat.le_of_ble_eq_true rfl⟩ (fun u_2 H locs w_3 hP hD hK1 hS => ?_)
  obtain ⟨o_4, rfl⟩ : ∃ z, z = u_2 := ⟨_, rfl⟩
  have hP : va_P D vwCl [(h, .inr (5, [.ref a, .ref b, .ref d, .int w, .int 1])), (a, .inl (ka, 6, .inl o_4))] H := hP
  have hD : va_D A [(h, .inr (5, [.ref a, .ref b, .ref d, .int w, .int 1])), (a, .inl (ka, 6, .inl o_4))] := hD
  have w_3 : ∀ k, k < 6 → o_4 k = 0 := w_3
  have hP9 := hP.sub (ws' := [(h, .inr (5, [.ref a, .ref b, .ref d, .int w, .int 1])), (a, .inl (ka, 6, .inl o_4))]) [0, 1] rfl
  have hD9 := hD.sub (ws' := [(h, .inr (5, [.ref a, .ref b, .ref d, .int w, .int 1])), (a, .inl (ka, 6, .inl o_4))]) [0, 1] (by decide) rfl
  have hK9 := hK.sub (tys' := []) [] rfl
  exact W.vret hx hb hr (fun tZ htZ hW => ⟨⟨o_4, rfl, trivial, by rw [htZ]; exact hP9, va_K.moved hW.alike hK9, hD9⟩, hS.F htZ⟩) hS.2.2 dX5_begin_18
theorem dX5_split_0 : decode cX5_split 0 = .ok (.aload_n 0, 1) := by decide +kernel
theorem dX5_split_1 : decode cX5_split 1 = .ok (.getfield 9, 3) := by decide +kernel
theorem dX5_split_4 : decode cX5_split 4 = .ok (.iconst 0, 1) := by decide +kernel
theorem dX5_split_5 : decode cX5_split 5 = .ok (.aload_n 0, 1) := by decide +kernel
theorem dX5_split_6 : decode cX5_split 6 = .ok (.getfield 15, 3) := by decide +kernel
theorem dX5_split_9 : decode cX5_split 9 = .ok (.iconst 0, 1) := by decide +kernel
theorem dX5_split_10 : decode cX5_split 10 = .ok (.bipush 6, 2) := by decide +kernel
theorem dX5_split_12 : decode cX5_split 12 = .ok (.invokestatic 38, 3) := by decide +kernel
theorem dX5_split_15 : decode cX5_split 15 = .ok (.aload_n 0, 1) := by decide +kernel
theorem dX5_split_16 : decode cX5_split 16 = .ok (.iconst 0, 1) := by decide +kernel
theorem dX5_split_17 : decode cX5_split 17 = .ok (.putfield 25, 3) := by decide +kernel
theorem dX5_split_20 : decode cX5_split 20 = .ok (.iconst 0, 1) := by decide +kernel
theorem dX5_split_21 : decode cX5_split 21 = .ok (.istore_n 2, 1) := by decide +kernel
theorem dX5_split_22 : decode cX5_split 22 = .ok (.iload_n 2, 1) := by decide +kernel
theorem dX5_split_23 : decode cX5_split 23 = .ok (.aload_n 0, 1) := by decide +kernel
theorem dX5_split_24 : decode cX5_split 24 = .ok (.getfield 21, 3) := by decide +kernel
theorem dX5_split_27 : decode cX5_split 27 = .ok (.if_icmp .ge 111, 3) := by decide +kernel
theorem dX5_split_30 : decode cX5_split 30 = .ok (.aload_n 0, 1) := by decide +kernel
theorem dX5_split_31 : decode cX5_split 31 = .ok (.getfield 25, 3) := by decide +kernel
theorem dX5_split_34 : decode cX5_split 34 = .ok (.istore_n 3, 1) := by decide +kernel
theorem dX5_split_35 : decode cX5_split 35 = .ok (.iconst 0, 1) := by decide +kernel
theorem dX5_split_36 : decode cX5_split 36 = .ok (.istore 4, 2) := by decide +kernel
theorem dX5_split_38 : decode cX5_split 38 = .ok (.iload 4, 2) := by decide +kernel
theorem dX5_split_40 : decode cX5_split 40 = .ok (.iload_n 2, 1) := by decide +kernel
theorem dX5_split_41 : decode cX5_split 41 = .ok (.if_icmp .ge 68, 3) := by decide +kernel
theorem dX5_split_44 : decode cX5_split 44 = .ok (.iload_n 1, 1) := by decide +kernel
theorem dX5_split_45 : decode cX5_split 45 = .ok (.iload_n 2, 1) := by decide +kernel
theorem dX5_split_46 : decode cX5_split 46 = .ok (.ishr, 1) := by decide +kernel
theorem dX5_split_47 : decode cX5_split 47 = .ok (.iconst 1, 1) := by decide +kernel
theorem dX5_split_48 : decode cX5_split 48 = .ok (.iand, 1) := by decide +kernel
theorem dX5_split_49 : decode cX5_split 49 = .ok (.iload_n 1, 1) := by decide +kernel
theorem dX5_split_50 : decode cX5_split 50 = .ok (.iload 4, 2) := by decide +kernel
theorem dX5_split_52 : decode cX5_split 52 = .ok (.ishr, 1) := by decide +kernel
theorem dX5_split_53 : decode cX5_split 53 = .ok (.iconst 1, 1) := by decide +kernel
theorem dX5_split_54 : decode cX5_split 54 = .ok (.iand, 1) := by decide +kernel
theorem dX5_split_55 : decode cX5_split 55 = .ok (.if_icmp .ne 7, 3) := by decide +kernel
theorem dX5_split_58 : decode cX5_split 58 = .ok (.iconst 1, 1) := by decide +kernel
theorem dX5_split_59 : decode cX5_split 59 = .ok (.goto 4, 3) := by decide +kernel
theorem dX5_split_62 : decode cX5_split 62 = .ok (.iconst 0, 1) := by decide +kernel
theorem dX5_split_63 : decode cX5_split 63 = .ok (.istore 5, 2) := by decide +kernel
theorem dX5_split_65 : decode cX5_split 65 = .ok (.iload 5, 2) := by decide +kernel
theorem dX5_split_67 : decode cX5_split 67 = .ok (.ifCond .eq 36, 3) := by decide +kernel
theorem dX5_split_70 : decode cX5_split 70 = .ok (.aload_n 0, 1) := by decide +kernel
theorem dX5_split_71 : decode cX5_split 71 = .ok (.getfield 15, 3) := by decide +kernel
theorem dX5_split_74 : decode cX5_split 74 = .ok (.iload 4, 2) := by decide +kernel
theorem dX5_split_76 : decode cX5_split 76 = .ok (.invokestatic 28, 3) := by decide +kernel
theorem dX5_split_79 : decode cX5_split 79 = .ok (.aload_n 0, 1) := by decide +kernel
theorem dX5_split_80 : decode cX5_split 80 = .ok (.getfield 15, 3) := by decide +kernel
theorem dX5_split_83 : decode cX5_split 83 = .ok (.iload_n 2, 1) := by decide +kernel
theorem dX5_split_84 : decode cX5_split 84 = .ok (.invokestatic 28, 3) := by decide +kernel
theorem dX5_split_87 : decode cX5_split 87 = .ok (.if_icmp .ne 16, 3) := by decide +kernel
theorem dX5_split_90 : decode cX5_split 90 = .ok (.aload_n 0, 1) := by decide +kernel
theorem dX5_split_91 : decode cX5_split 91 = .ok (.getfield 9, 3) := by decide +kernel
theorem dX5_split_94 : decode cX5_split 94 = .ok (.iload 4, 2) := by decide +kernel
theorem dX5_split_96 : decode cX5_split 96 = .ok (.invokestatic 28, 3) := by decide +kernel
theorem dX5_split_99 : decode cX5_split 99 = .ok (.istore_n 3, 1) := by decide +kernel
theorem dX5_split_100 : decode cX5_split 100 = .ok (.goto 9, 3) := by decide +kernel
theorem dX5_split_103 : decode cX5_split 103 = .ok (.iinc 4 1, 3) := by decide +kernel
theorem dX5_split_106 : decode cX5_split 106 = .ok (.goto (-68), 3) := by decide +kernel
theorem dX5_split_109 : decode cX5_split 109 = .ok (.aload_n 0, 1) := by decide +kernel
theorem dX5_split_110 : decode cX5_split 110 = .ok (.getfield 9, 3) := by decide +kernel
theorem dX5_split_113 : decode cX5_split 113 = .ok (.iload_n 2, 1) := by decide +kernel
theorem dX5_split_114 : decode cX5_split 114 = .ok (.iload_n 3, 1) := by decide +kernel
theorem dX5_split_115 : decode cX5_split 115 = .ok (.invokestatic 44, 3) := by decide +kernel
theorem dX5_split_118 : decode cX5_split 118 = .ok (.aload_n 0, 1) := by decide +kernel
theorem dX5_split_119 : decode cX5_split 119 = .ok (.aload_n 0, 1) := by decide +kernel
theorem dX5_split_120 : decode cX5_split 120 = .ok (.getfield 25, 3) := by decide +kernel
theorem dX5_split_123 : decode cX5_split 123 = .ok (.iload_n 3, 1) := by decide +kernel
theorem dX5_split_124 : decode cX5_split 124 = .ok (.iconst 1, 1) := by decide +kernel
theorem dX5_split_125 : decode cX5_split 125 = .ok (.iadd, 1) := by decide +kernel
theorem dX5_split_126 : decode cX5_split 126 = .ok (.invokestatic 48, 3) := by decide +kernel
theorem dX5_split_129 : decode cX5_split 129 = .ok (.putfield 25, 3) := by decide +kernel
theorem dX5_split_132 : decode cX5_split 132 = .ok (.iinc 2 1, 3) := by decide +kernel
theorem dX5_split_135 : decode cX5_split 135 = .ok (.goto (-113), 3) := by decide +kernel
theorem dX5_split_138 : decode cX5_split 138 = .ok (.return_, 1) := by decide +kernel
def wo_X5_split1 : List Cond := [.fieldLink RX5 9 "DynamicLogicProver$Partition" "classes" "[I", .fieldLink RX5 15 "DynamicLogicProver$Partition" "before" "[I", .methodLink RX5 38 arraycopyName, .native arraycopyName, .static arraycopyName, .initialized "java/lang/System", .fieldLink RX5 25 "DynamicLogicProver$Partition" "number" "I", .fieldLink RX5 21 "DynamicLogicProver$Partition" "worlds" "I", .initialized RX11, .static yX11_put, .methodLink RX5 48 Lib.Math.max.name, .static Lib.Math.max.name, .initialized "java/lang/Math", .code Lib.Math.max.name Lib.Math.max.code 2 (some .int)]
def wd_X5_split1 : List Cond := .code yX5_split cX5_split 6 none :: (wo_X5_split1 ++ (wd_X11_put ++ (wsX50 ++ ([] : List Cond))))
theorem mo_X5_split1 {w : Cond} (i : Nat) (h : wo_X5_split1[i]? = some w) : w ∈ wd_X5_split1 := List.mem_cons_of_mem _ (List.mem_append_left _ (List.mem_of_getElem? h))
theorem mb_X5_split1_0 : ∀ w ∈ wd_X11_put, w ∈ wd_X5_split1 := fun w h => List.mem_cons_of_mem _ (List.mem_append_right _ (List.mem_append_left _ h))
theorem mb_X5_split1_1 : ∀ w ∈ wsX50, w ∈ wd_X5_split1 := fun w h => List.mem_cons_of_mem _ (List.mem_append_right _ (List.mem_append_right _ (List.mem_append_left _ h)))
theorem hd_X5_split : yX5_split.cls ≠ "java/lang/invoke/MethodHandle" ∧ yX5_split.cls ≠ "java/lang/invoke/VarHandle" ∧ (parseMethodDescriptor yX5_split.desc).map (fun d => d.parameters.length) = some 1 := by decide +kernel
set_option maxRecDepth 20000 in
theorem gw_X5_split1 : wd_X5_split1.all goodWord = true := by decide +kernel
abbrev qc_X5_split1 (D : va_G) (h : Nat) (a : Nat) (b : Nat) (d : Nat) (ka : ClassId) (kb : ClassId) (f : Nat → Int32) (g : Nat → Int32) (n : Int32) (w : Int32) (A : Nat → Prop) : Array Value → State → Outcome → State → Prop := va_Qv (fun (uZ : (Nat → Int32) × (Nat → Int32)) => uZ.1 0 = 0) (fun uZ tZ => kc_pos D A [(h, .inr (5, [.ref a, .ref b, .ref d, .int 1, .int 1])), (a, .inl (ka, 6, .inl uZ.1)), (b, .inl (kb, 6, .inl uZ.2))] [] tZ) A
set_option maxHeartbeats 4000000 in
set_option maxRecDepth 100000 in
theorem ct_X5_split1 (l : Launch) (D : va_G) (h : Nat) (a : Nat) (b : Nat) (d : Nat) (ka : ClassId) (kb : ClassId) (f : Nat → Int32) (g : Nat → Int32) (n : Int32) (w : Int32) (sz : Nat)  : Met l yX5_split wd_X5_split1 ({ frames := 1, cells := 0, slots := 0, locals := 40 }) (va_Pc [.ref h, .int w] (kc_pre D [(ka, .int), (kb, .int)] [(h, .inr (5, [.ref a, .ref b, .ref d, .int 1, .int n])), (a, .inl (ka, 6, .inl f)), (b, .inl (kb, 6, .inl g))] sz)) (qc_X5_split1 D h a b d ka kb f g n w (va_A [(h, .inr (5, [.ref a, .ref b, .ref d, .int 1, .int n])), (a, .inl (ka, 6, .inl f)), (b, .inl (kb, 6, .inl g))] sz)) 0 0 (va_A [(h, .inr (5, [.ref a, .ref b, .ref d, .int 1, .int n])), (a, .inl (ka, 6, .inl f)), (b, .inl (kb, 6, .inl g))] sz) := by
  refine Met.ofW (cc := cX5_split) (maxL := 6) (ret := none) (by decide) rfl ?_
  intro p e s m args below meth c s₁ B hml hv
  obtain ⟨rfl, hsz, hP, hK, hN, hD0⟩ := hv
  have hx := B.exec
  have hb := B.bytes
  have hr := B.returns
  have hts := atoms_spec (ws := wd_X5_split1) B.pre
  have hown : s.vm.findClass RX5 = some m.cls := findClass_of_methodNamed B.named
  have hlocks := B.notSynchronized
  subst hsz
  have hD := hD0.self (sz := s.heap.size)
  generalize hAe : va_A [(h, .inr (5, [.ref a, .ref b, .ref d, .int 1, .int n])), (a, .inl (ka, 6, .inl f)), (b, .inl (kb, 6, .inl g))] s.heap.size = A at hD ⊢
  have hA : ∀ q : Nat, s.heap.size ≤ q → A q := fun q h => by rw [← hAe]; exact Or.inr h
  have hS : va_S A s.heap s.heap [] := va_S.rf
  have hiX5 : ∀ w ∈ wsX50, w ∈ wd_X5_split1 := mb_X5_split1_1
  have hl := lv_entry ([.ref h, .int w]) (n := 6) (Nat.le_of_ble_eq_true rfl)
  rw [lg_entry_eq]
  generalize (lg_sl ([.ref h, .int w]) ++ List.replicate (6 - (lg_sl ([.ref h, .int w])).length) Slot.unset).toArray = ls at hl ⊢
  have hl : lv_has ls 6 [(0, .ref h), (1, .int w)] := hl
  refine lv_aload_n hx hb dX5_split_0 rfl (lv_at hl 0 rfl) ?_
  refine va_get (D := D) (ci := 5) (v := .ref a) (C := RX5) (T := TX5) (N := 5) hx hb hts hiX5 hown hK hP 0 rfl rfl 0 (by decide) (hts (.fieldLink RX5 9 "DynamicLogicProver$Partition" "classes" "[I") (mo_X5_split1 0 rfl)) (fun _ h9 => h9) rfl dX5_split_1 ?_
  refine lv_iconst (v := 0) hx hb dX5_split_4 (by decide) ?_
  refine lv_aload_n hx hb dX5_split_5 rfl (lv_at hl 0 rfl) ?_
  refine va_get (D := D) (ci := 5) (v := .ref b) (C := RX5) (T := TX5) (N := 5) hx hb hts hiX5 hown hK hP 0 rfl rfl 1 (by decide) (hts (.fieldLink RX5 15 "DynamicLogicProver$Partition" "before" "[I") (mo_X5_split1 1 rfl)) (fun _ h9 => h9) rfl dX5_split_6 ?_
  refine lv_iconst (v := 0) hx hb dX5_split_9 (by decide) ?_
  refine lv_bipush (v := 6) hx hb dX5_split_10 (by decide) ?_
  refine va_copyi (ty := .int) hx hb (by rw [hml]; exact hl.1.symm) hown (hts (.methodLink RX5 38 arraycopyName) (mo_X5_split1 2 rfl)) (hts (.native arraycopyName) (mo_X5_split1 3 rfl)) (hts (.static arraycopyName) (mo_X5_split1 4 rfl)) (hts (.initialized "java/lang/System") (mo_X5_split1 5 rfl)) hK hP hD hS 1 2 0 1 rfl rfl rfl rfl rfl (by decide) (by decide) (by decide) (Nat.le_of_ble_eq_true rfl) (Nat.le_of_ble_eq_true rfl) (fun _ _ => rfl) (Nat.le_of_ble_eq_true rfl) (by decide) dX5_split_12 (fun H locs hP hD hS => ?_)
  generalize ef_1 : va_cpy f g (0 : Int32).toNatClampNeg (0 : Int32).toNatClampNeg (6 : Int32).toNatClampNeg = f_1 at hP hD
  have hP : va_P D vwCl [(h, .inr (5, [.ref a, .ref b, .ref d, .int 1, .int n])), (a, .inl (ka, 6, .inl f)), (b, .inl (kb, 6, .inl f_1))] H := hP
  have hD : va_D A [(h, .inr (5, [.ref a, .ref b, .ref d, .int 1, .int n])), (a, .inl (ka, 6, .inl f)), (b, .inl (kb, 6, .inl f_1))] := hD
  refine lv_aload_n hx hb dX5_split_15 rfl (lv_at hl 0 rfl) ?_
  refine lv_iconst (v := 0) hx hb dX5_split_16 (by decide) ?_
  refine va_put (D := D) (ci := 5) (v := .int 0) (ty := .int) (C := RX5) (T := TX5) (N := 5) hx hb hts hiX5 tyX5 tyX5_ok nmX5 hown hK hP hD hS 0 rfl rfl 4 (by decide) (hts (.fieldLink RX5 25 "DynamicLogicProver$Partition" "number" "I") (mo_X5_split1 6 rfl)) (fun _ h9 => h9) rfl (tyX5_ok 4 (by decide)) rfl rfl (Nat.le_of_ble_eq_true rfl) dX5_split_17 (fun H locs hP hD hS => ?_)
  have hP : va_P D vwCl [(h, .inr (5, [.ref a, .ref b, .ref d, .int 1, .int 0])), (a, .inl (ka, 6, .inl f)), (b, .inl (kb, 6, .inl f_1))] H := hP
  have hD : va_D A [(h, .inr (5, [.ref a, .ref b, .ref d, .int 1, .int 0])), (a, .inl (ka, 6, .inl f)), (b, .inl (kb, 6, .inl f_1))] := hD
  refine lv_iconst (v := 0) hx hb dX5_split_20 (by decide) ?_
  refine lv_istore_n (lv' := [(2, .int 0), (0, .ref h), (1, .int w)]) hx hb dX5_split_21 rfl hl (by decide) rfl (fun ls hl => ?_)
  refine lv_iload_n hx hb dX5_split_22 rfl (lv_at hl 0 rfl) ?_
  refine lv_aload_n hx hb dX5_split_23 rfl (lv_at hl 1 rfl) ?_
  refine va_get (D := D) (ci := 5) (v := .int 1) (C := RX5) (T := TX5) (N := 5) hx hb hts hiX5 hown hK hP 0 rfl rfl 3 (by decide) (hts (.fieldLink RX5 21 "DynamicLogicProver$Partition" "worlds" "I") (mo_X5_split1 7 rfl)) (fun _ h9 => h9) rfl dX5_split_24 ?_
  refine lv_icmp_ge (tgt := 138) hx hb dX5_split_27 (by decide) (fun c_2 => ?_) (fun c_2 => ?_)
  · exact absurd c_2 (by decide)
  · refine lv_aload_n hx hb dX5_split_30 rfl (lv_at hl 1 rfl) ?_
    refine va_get (D := D) (ci := 5) (v := .int 0) (C := RX5) (T := TX5) (N := 5) hx hb hts hiX5 hown hK hP 0 rfl rfl 4 (by decide) (hts (.fieldLink RX5 25 "DynamicLogicProver$Partition" "number" "I") (mo_X5_split1 6 rfl)) (fun _ h9 => h9) rfl dX5_split_31 ?_
    refine lv_istore_n (lv' := [(3, .int 0), (2, .int 0), (0, .ref h), (1, .int w)]) hx hb dX5_split_34 rfl hl (by decide) rfl (fun ls hl => ?_)
    refine lv_iconst (v := 0) hx hb dX5_split_35 (by decide) ?_
    refine lv_istore (lv' := [(4, .int 0), (3, .int 0), (2, .int 0), (0, .ref h), (1, .int w)]) hx hb dX5_split_36 hl (by decide) rfl (fun ls hl => ?_)
    refine lv_iload hx hb dX5_split_38 (lv_at hl 0 rfl) ?_
    refine lv_iload_n hx hb dX5_split_40 rfl (lv_at hl 2 rfl) ?_
    refine lv_icmp_ge (tgt := 109) hx hb dX5_split_41 (by decide) (fun c_3 => ?_) (fun c_3 => ?_)
    · refine lv_aload_n hx hb dX5_split_109 rfl (lv_at hl 3 rfl) ?_
      refine va_get (D := D) (ci := 5) (v := .ref a) (C := RX5) (T := TX5) (N := 5) hx hb hts hiX5 hown hK hP 0 rfl rfl 0 (by decide) (hts (.fieldLink RX5 9 "DynamicLogicProver$Partition" "classes" "[I") (mo_X5_split1 0 rfl)) (fun _ h9 => h9) rfl dX5_split_110 ?_
      refine lv_iload_n hx hb dX5_split_113 rfl (lv_at hl 2 rfl) ?_
      refine lv_iload_n hx hb dX5_split_114 rfl (lv_at hl 1 rfl) ?_
      refine kc_Nv (As := [.ref a, .int 0, .int 0]) (rest := []) (wr := [(h, .inr (5, [.ref a, .ref b, .ref d, .int 1, .int 0])), (b, .inl (kb, 6, .inl f_1))]) ⟨hx, hb, hml, hown, hts⟩ (ct_X11_put l D a ka 6 f 0 0 _ (by decide)) ⟨va_cnB 3 hts (goodIn_sub mb_X5_split1_0 gw_X11_put) rfl rfl rfl (hN (RX5, 44, yX11_put) (List.mem_of_getElem? (i := 18) rfl)) (hts (.initialized RX11) (mo_X5_split1 8 rfl)) hd_X11_put ⟨Nat.le_of_ble_eq_true rfl, Nat.le_of_ble_eq_true rfl⟩, (hts (.static yX11_put) (mo_X5_split1 9 rfl)), trivial⟩ hK hN hP hD hS hA [1] [0, 2] [0] rfl rfl (by decide) (by decide) (by decide) rfl rfl hl.1 rfl (Nat.le_of_ble_eq_true rfl) dX5_split_115 ⟨Nat.le_of_ble_eq_true rfl, Nat.le_of_ble_eq_true rfl⟩ (fun u_5 H locs w_6 hP hD hK1 hS => ?_)
      obtain ⟨o_7, rfl⟩ : ∃ z, z = u_5 := ⟨_, rfl⟩
      have hP : va_P D vwCl [(h, .inr (5, [.ref a, .ref b, .ref d, .int 1, .int 0])), (b, .inl (kb, 6, .inl f_1)), (a, .inl (ka, 6, .inl o_7))] H := hP
      have hD : va_D A [(h, .inr (5, [.ref a, .ref b, .ref d, .int 1, .int 0])), (b, .inl (kb, 6, .inl f_1)), (a, .inl (ka, 6, .inl o_7))] := hD
      have w_6 : o_7 = put_v f 6 0 0 := w_6
      refine lv_aload_n hx hb dX5_split_118 rfl (lv_at hl 3 rfl) ?_
      refine lv_aload_n hx hb dX5_split_119 rfl (lv_at hl 3 rfl) ?_
      refine va_get (D := D) (ci := 5) (v := .int 0) (C := RX5) (T := TX5) (N := 5) hx hb hts hiX5 hown hK hP 0 rfl rfl 4 (by decide) (hts (.fieldLink RX5 25 "DynamicLogicProver$Partition" "number" "I") (mo_X5_split1 6 rfl)) (fun _ h9 => h9) rfl dX5_split_120 ?_
      refine lv_iload_n hx hb dX5_split_123 rfl (lv_at hl 1 rfl) ?_
      refine lv_iconst (v := 1) hx hb dX5_split_124 (by decide) ?_
      refine lv_iadd hx hb dX5_split_125 ?_
      refine lv_topi (fun x_8 ex_8 => ?_)
      obtain rfl : x_8 = 1 := ex_8.trans (by decide)
      refine va_mmax hx hb (by rw [hml]; exact hl.1.symm) hown (hts (.methodLink RX5 48 Lib.Math.max.name) (mo_X5_split1 10 rfl)) (hts (.static Lib.Math.max.name) (mo_X5_split1 11 rfl)) (hts (.initialized "java/lang/Math") (mo_X5_split1 12 rfl)) (hts (.code Lib.Math.max.name Lib.Math.max.code 2 (some .int)) (mo_X5_split1 13 rfl)) (Nat.le_of_ble_eq_true rfl) (Nat.le_of_ble_eq_true rfl) (Nat.le_of_ble_eq_true rfl) (Nat.le_of_ble_eq_true rfl) dX5_split_126 ?_
      refine lv_topi (fun x_9 ex_9 => ?_)
      obtain rfl : x_9 = 1 := ex_9.trans (by decide)
      refine va_put (D := D) (ci := 5) (v := .int 1) (ty := .int) (C := RX5) (T := TX5) (N := 5) hx hb hts hiX5 tyX5 tyX5_ok nmX5 hown hK hP hD hS 0 rfl rfl 4 (by decide) (hts (.fieldLink RX5 25 "DynamicLogicProver$Partition" "number" "I") (mo_X5_split1 6 rfl)) (fun _ h9 => h9) rfl (tyX5_ok 4 (by decide)) rfl rfl (Nat.le_of_ble_eq_true rfl) dX5_split_129 (fun H locs hP hD hS => ?_)
      have hP : va_P D vwCl [(h, .inr (5, [.ref a, .ref b, .ref d, .int 1, .int 1])), (b, .inl (kb, 6, .inl f_1)), (a, .inl (ka, 6, .inl o_7))] H := hP
      have hD : va_D A [(h, .inr (5, [.ref a, .ref b, .ref d, .int 1, .int 1])), (b, .inl (kb, 6, .inl f_1)), (a, .inl (ka, 6, .inl o_7))] := hD
      refine lv_iinc (v := 1) (lv' := [(2, .int 1), (4, .int 0), (3, .int 0), (0, .ref h), (1, .int w)]) hx hb dX5_split_132 hl (k := 2) rfl (by decide) (by decide) rfl (fun ls hl => ?_)
      refine lv_goto (tgt := 22) hx hb dX5_split_135 (by decide) ?_
      refine lv_iload_n hx hb dX5_split_22 rfl (lv_at hl 0 rfl) ?_
      refine lv_aload_n hx hb dX5_split_23 rfl (lv_at hl 3 rfl) ?_
      refine va_get (D := D) (ci := 5) (v := .int 1) (C := RX5) (T := TX5) (N := 5) hx hb hts hiX5 hown hK hP 0 rfl rfl 3 (by decide) (hts (.fieldLink RX5 21 "DynamicLogicProver$Partition" "worlds" "I") (mo_X5_split1 7 rfl)) (fun _ h9 => h9) rfl dX5_split_24 ?_
      refine lv_icmp_ge (tgt := 138) hx hb dX5_split_27 (by decide) (fun c_10 => ?_) (fun c_10 => ?_)
      · have hP9 := hP.sub (ws' := [(h, .inr (5, [.ref a, .ref b, .ref d, .int 1, .int 1])), (a, .inl (ka, 6, .inl o_7)), (b, .inl (kb, 6, .inl f_1))]) [0, 2, 1] rfl
        have hD9 := hD.sub (ws' := [(h, .inr (5, [.ref a, .ref b, .ref d, .int 1, .int 1])), (a, .inl (ka, 6, .inl o_7)), (b, .inl (kb, 6, .inl f_1))]) [0, 2, 1] (by decide) rfl
        have hK9 := hK.sub (tys' := []) [] rfl
        exact W.vret hx hb hr (fun tZ htZ hW => ⟨⟨(o_7, f_1), rfl, (by rw [w_6]; exact put_v00 f), by rw [htZ]; exact hP9, va_K.moved hW.alike hK9, hD9⟩, hS.F htZ⟩) hS.2.2 dX5_split_138
      · exact absurd c_10 (by decide)
    · exact absurd c_3 (by decide)
theorem dX5_sources_0 : decode cX5_sources 0 = .ok (.iconst 0, 1) := by decide +kernel
theorem dX5_sources_1 : decode cX5_sources 1 = .ok (.istore 4, 2) := by decide +kernel
theorem dX5_sources_3 : decode cX5_sources 3 = .ok (.iconst 0, 1) := by decide +kernel
theorem dX5_sources_4 : decode cX5_sources 4 = .ok (.istore 5, 2) := by decide +kernel
theorem dX5_sources_6 : decode cX5_sources 6 = .ok (.iload 5, 2) := by decide +kernel
theorem dX5_sources_8 : decode cX5_sources 8 = .ok (.aload_n 0, 1) := by decide +kernel
theorem dX5_sources_9 : decode cX5_sources 9 = .ok (.getfield 21, 3) := by decide +kernel
theorem dX5_sources_12 : decode cX5_sources 12 = .ok (.if_icmp .ge 30, 3) := by decide +kernel
theorem dX5_sources_15 : decode cX5_sources 15 = .ok (.aload_n 1, 1) := by decide +kernel
theorem dX5_sources_16 : decode cX5_sources 16 = .ok (.iload_n 2, 1) := by decide +kernel
theorem dX5_sources_17 : decode cX5_sources 17 = .ok (.iload 5, 2) := by decide +kernel
theorem dX5_sources_19 : decode cX5_sources 19 = .ok (.invokevirtual 82, 3) := by decide +kernel
theorem dX5_sources_22 : decode cX5_sources 22 = .ok (.iload_n 3, 1) := by decide +kernel
theorem dX5_sources_23 : decode cX5_sources 23 = .ok (.iand, 1) := by decide +kernel
theorem dX5_sources_24 : decode cX5_sources 24 = .ok (.ifCond .eq 12, 3) := by decide +kernel
theorem dX5_sources_27 : decode cX5_sources 27 = .ok (.iload 4, 2) := by decide +kernel
theorem dX5_sources_29 : decode cX5_sources 29 = .ok (.iconst 1, 1) := by decide +kernel
theorem dX5_sources_30 : decode cX5_sources 30 = .ok (.iload 5, 2) := by decide +kernel
theorem dX5_sources_32 : decode cX5_sources 32 = .ok (.ishl, 1) := by decide +kernel
theorem dX5_sources_33 : decode cX5_sources 33 = .ok (.ior, 1) := by decide +kernel
theorem dX5_sources_34 : decode cX5_sources 34 = .ok (.istore 4, 2) := by decide +kernel
theorem dX5_sources_36 : decode cX5_sources 36 = .ok (.iinc 5 1, 3) := by decide +kernel
theorem dX5_sources_39 : decode cX5_sources 39 = .ok (.goto (-33), 3) := by decide +kernel
theorem dX5_sources_42 : decode cX5_sources 42 = .ok (.iload 4, 2) := by decide +kernel
theorem dX5_sources_44 : decode cX5_sources 44 = .ok (.ireturn, 1) := by decide +kernel
def wo_X5_sources1 : List Cond := [.fieldLink RX5 21 "DynamicLogicProver$Partition" "worlds" "I", .methodLink RX5 82 yX3_moves, .instanceMethod yX3_moves, .selects RX3 yX3_moves yX3_moves, .initialized RX3]
def wd_X5_sources1 : List Cond := .code yX5_sources cX5_sources 6 (some .int) :: (wo_X5_sources1 ++ (wd_X3_moves ++ (wsX50 ++ ([] : List Cond))))
theorem mo_X5_sources1 {w : Cond} (i : Nat) (h : wo_X5_sources1[i]? = some w) : w ∈ wd_X5_sources1 := List.mem_cons_of_mem _ (List.mem_append_left _ (List.mem_of_getElem? h))
theorem mb_X5_sources1_0 : ∀ w ∈ wd_X3_moves, w ∈ wd_X5_sources1 := fun w h => List.mem_cons_of_mem _ (List.mem_append_right _ (List.mem_append_left _ h))
theorem mb_X5_sources1_1 : ∀ w ∈ wsX50, w ∈ wd_X5_sources1 := fun w h => List.mem_cons_of_mem _ (List.mem_append_right _ (List.mem_append_right _ (List.mem_append_left _ h)))
theorem hd_X5_sources : yX5_sources.cls ≠ "java/lang/invoke/MethodHandle" ∧ yX5_sources.cls ≠ "java/lang/invoke/VarHandle" ∧ (parseMethodDescriptor yX5_sources.desc).map (fun d => d.parameters.length) = some 3 := by decide +kernel
set_option maxRecDepth 20000 in
theorem gw_X5_sources1 : wd_X5_sources1.all goodWord = true := by decide +kernel
abbrev qc_X5_sources1 (D : va_G) (h : Nat) (a : Nat) (b : Nat) (d : Nat) (o : Nat) (ot : Nat) (ov : Nat) (kv : ClassId) (fv : Nat → Int32) (n : Int32) (i : Int32) (w : Int32) (A : Nat → Prop) : Array Value → State → Outcome → State → Prop := va_Qi (fun (r : Int32) (uZ : Unit) => True) (fun uZ tZ => kc_pos D A [(h, .inr (5, [.ref a, .ref b, .ref d, .int 1, .int n])), (o, .inr (3, [.ref ot, .ref ov, .int 1])), (ov, .inl (kv, 18, .inl fv))] [] tZ) A
set_option maxHeartbeats 4000000 in
set_option maxRecDepth 100000 in
theorem ct_X5_sources1 (l : Launch) (D : va_G) (h : Nat) (a : Nat) (b : Nat) (d : Nat) (o : Nat) (ot : Nat) (ov : Nat) (kv : ClassId) (fv : Nat → Int32) (n : Int32) (i : Int32) (w : Int32) (sz : Nat)  : Met l yX5_sources wd_X5_sources1 ({ frames := 2, cells := 0, slots := 0, locals := 43 }) (va_Pc [.ref h, .ref o, .int i, .int w] (kc_pre D [(kv, .int)] [(h, .inr (5, [.ref a, .ref b, .ref d, .int 1, .int n])), (o, .inr (3, [.ref ot, .ref ov, .int 1])), (ov, .inl (kv, 18, .inl fv))] sz)) (qc_X5_sources1 D h a b d o ot ov kv fv n i w (va_A [(h, .inr (5, [.ref a, .ref b, .ref d, .int 1, .int n])), (o, .inr (3, [.ref ot, .ref ov, .int 1])), (ov, .inl (kv, 18, .inl fv))] sz)) 0 0 (va_A [(h, .inr (5, [.ref a, .ref b, .ref d, .int 1, .int n])), (o, .inr (3, [.ref ot, .ref ov, .int 1])), (ov, .inl (kv, 18, .inl fv))] sz) := by
  refine Met.ofW (cc := cX5_sources) (maxL := 6) (ret := (some .int)) (by decide) rfl ?_
  intro p e s m args below meth c s₁ B hml hv
  obtain ⟨rfl, hsz, hP, hK, hN, hD0⟩ := hv
  have hx := B.exec
  have hb := B.bytes
  have hr := B.returns
  have hts := atoms_spec (ws := wd_X5_sources1) B.pre
  have hown : s.vm.findClass RX5 = some m.cls := findClass_of_methodNamed B.named
  have hlocks := B.notSynchronized
  subst hsz
  have hD := hD0.self (sz := s.heap.size)
  generalize hAe : va_A [(h, .inr (5, [.ref a, .ref b, .ref d, .int 1, .int n])), (o, .inr (3, [.ref ot, .ref ov, .int 1])), (ov, .inl (kv, 18, .inl fv))] s.heap.size = A at hD ⊢
  have hA : ∀ q : Nat, s.heap.size ≤ q → A q := fun q h => by rw [← hAe]; exact Or.inr h
  have hS : va_S A s.heap s.heap [] := va_S.rf
  have hiX5 : ∀ w ∈ wsX50, w ∈ wd_X5_sources1 := mb_X5_sources1_1
  have hl := lv_entry ([.ref h, .ref o, .int i, .int w]) (n := 6) (Nat.le_of_ble_eq_true rfl)
  rw [lg_entry_eq]
  generalize (lg_sl ([.ref h, .ref o, .int i, .int w]) ++ List.replicate (6 - (lg_sl ([.ref h, .ref o, .int i, .int w])).length) Slot.unset).toArray = ls at hl ⊢
  have hl : lv_has ls 6 [(0, .ref h), (1, .ref o), (2, .int i), (3, .int w)] := hl
  refine lv_iconst (v := 0) hx hb dX5_sources_0 (by decide) ?_
  refine lv_istore (lv' := [(4, .int 0), (0, .ref h), (1, .ref o), (2, .int i), (3, .int w)]) hx hb dX5_sources_1 hl (by decide) rfl (fun ls hl => ?_)
  refine lv_iconst (v := 0) hx hb dX5_sources_3 (by decide) ?_
  refine lv_istore (lv' := [(5, .int 0), (4, .int 0), (0, .ref h), (1, .ref o), (2, .int i), (3, .int w)]) hx hb dX5_sources_4 hl (by decide) rfl (fun ls hl => ?_)
  refine lv_iload hx hb dX5_sources_6 (lv_at hl 0 rfl) ?_
  refine lv_aload_n hx hb dX5_sources_8 rfl (lv_at hl 2 rfl) ?_
  refine va_get (D := D) (ci := 5) (v := .int 1) (C := RX5) (T := TX5) (N := 5) hx hb hts hiX5 hown hK hP 0 rfl rfl 3 (by decide) (hts (.fieldLink RX5 21 "DynamicLogicProver$Partition" "worlds" "I") (mo_X5_sources1 0 rfl)) (fun _ h9 => h9) rfl dX5_sources_9 ?_
  refine lv_icmp_ge (tgt := 42) hx hb dX5_sources_12 (by decide) (fun c_1 => ?_) (fun c_1 => ?_)
  · exact absurd c_1 (by decide)
  · refine lv_aload_n hx hb dX5_sources_15 rfl (lv_at hl 3 rfl) ?_
    refine lv_iload_n hx hb dX5_sources_16 rfl (lv_at hl 4 rfl) ?_
    refine lv_iload hx hb dX5_sources_17 (lv_at hl 0 rfl) ?_
    refine kc_Vi (As := [.int i, .int 0]) (rest := []) (wr := [(h, .inr (5, [.ref a, .ref b, .ref d, .int 1, .int n]))]) ⟨hx, hb, hml, hown, hts⟩ (ct_X3_moves l D o ot ov kv fv 1 i 0 _ ) (cwV 2 hts (kg_V (mo_X5_sources1 1 rfl) (mo_X5_sources1 2 rfl) (mo_X5_sources1 3 rfl) (mo_X5_sources1 4 rfl) (goodIn_sub mb_X5_sources1_0 gw_X3_moves)) rfl rfl rfl ⟨rfl, hd_X3_moves⟩ ⟨Nat.le_of_ble_eq_true rfl, Nat.le_of_ble_eq_true rfl⟩) (RX3, TX3, 3) 3 1 rfl rfl rfl hK hN hP hD hS hA [1, 2] [0] [0] rfl rfl (by decide) (by decide) (by decide) rfl rfl hl.1 rfl (Nat.le_of_ble_eq_true rfl) dX5_sources_19 ⟨Nat.le_of_ble_eq_true rfl, Nat.le_of_ble_eq_true rfl⟩ (fun r_2 u_3 H locs w_4 hP hD hK1 hS => ?_)
    have hP : va_P D vwCl [(h, .inr (5, [.ref a, .ref b, .ref d, .int 1, .int n])), (o, .inr (3, [.ref ot, .ref ov, .int 1])), (ov, .inl (kv, 18, .inl fv))] H := hP
    have hD : va_D A [(h, .inr (5, [.ref a, .ref b, .ref d, .int 1, .int n])), (o, .inr (3, [.ref ot, .ref ov, .int 1])), (ov, .inl (kv, 18, .inl fv))] := hD
    have w_4 : r_2 = at_v fv 18 (i * 6 + 0) := w_4
    refine lv_iload_n hx hb dX5_sources_22 rfl (lv_at hl 5 rfl) ?_
    refine lv_iand hx hb dX5_sources_23 ?_
    refine lv_topi (fun x_5 ex_5 => ?_)
    refine lv_if_eq (tgt := 36) hx hb dX5_sources_24 (by decide) (fun c_6 => ?_) (fun c_6 => ?_)
    · refine lv_iinc (v := 1) (lv' := [(5, .int 1), (4, .int 0), (0, .ref h), (1, .ref o), (2, .int i), (3, .int w)]) hx hb dX5_sources_36 hl (k := 0) rfl (by decide) (by decide) rfl (fun ls hl => ?_)
      refine lv_goto (tgt := 6) hx hb dX5_sources_39 (by decide) ?_
      refine lv_iload hx hb dX5_sources_6 (lv_at hl 0 rfl) ?_
      refine lv_aload_n hx hb dX5_sources_8 rfl (lv_at hl 2 rfl) ?_
      refine va_get (D := D) (ci := 5) (v := .int 1) (C := RX5) (T := TX5) (N := 5) hx hb hts hiX5 hown hK hP 0 rfl rfl 3 (by decide) (hts (.fieldLink RX5 21 "DynamicLogicProver$Partition" "worlds" "I") (mo_X5_sources1 0 rfl)) (fun _ h9 => h9) rfl dX5_sources_9 ?_
      refine lv_icmp_ge (tgt := 42) hx hb dX5_sources_12 (by decide) (fun c_7 => ?_) (fun c_7 => ?_)
      · refine lv_iload hx hb dX5_sources_42 (lv_at hl 1 rfl) ?_
        have hP9 := hP.sub (ws' := [(h, .inr (5, [.ref a, .ref b, .ref d, .int 1, .int n])), (o, .inr (3, [.ref ot, .ref ov, .int 1])), (ov, .inl (kv, 18, .inl fv))]) [0, 1, 2] rfl
        have hD9 := hD.sub (ws' := [(h, .inr (5, [.ref a, .ref b, .ref d, .int 1, .int n])), (o, .inr (3, [.ref ot, .ref ov, .int 1])), (ov, .inl (kv, 18, .inl fv))]) [0, 1, 2] (by decide) rfl
        have hK9 := hK.sub (tys' := []) [] rfl
        exact W.iret (v := 0) hx hb hr (fun tZ htZ hW => ⟨⟨0, (), rfl, trivial, by rw [htZ]; exact hP9, va_K.moved hW.alike hK9, hD9⟩, hS.F htZ⟩) hS.2.2 dX5_sources_44
      · exact absurd c_7 (by decide)
    · refine lv_iload hx hb dX5_sources_27 (lv_at hl 1 rfl) ?_
      refine lv_iconst (v := 1) hx hb dX5_sources_29 (by decide) ?_
      refine lv_iload hx hb dX5_sources_30 (lv_at hl 0 rfl) ?_
      refine lv_ishl hx hb dX5_sources_32 ?_
      refine lv_topi (fun x_8 ex_8 => ?_)
      obtain rfl : x_8 = 1 := ex_8.trans (by decide)
      refine lv_ior hx hb dX5_sources_33 ?_
      refine lv_topi (fun x_9 ex_9 => ?_)
      obtain rfl : x_9 = 1 := ex_9.trans (by decide)
      refine lv_istore (lv' := [(4, .int 1), (5, .int 0), (0, .ref h), (1, .ref o), (2, .int i), (3, .int w)]) hx hb dX5_sources_34 hl (by decide) rfl (fun ls hl => ?_)
      refine lv_iinc (v := 1) (lv' := [(5, .int 1), (4, .int 1), (0, .ref h), (1, .ref o), (2, .int i), (3, .int w)]) hx hb dX5_sources_36 hl (k := 1) rfl (by decide) (by decide) rfl (fun ls hl => ?_)
      refine lv_goto (tgt := 6) hx hb dX5_sources_39 (by decide) ?_
      refine lv_iload hx hb dX5_sources_6 (lv_at hl 0 rfl) ?_
      refine lv_aload_n hx hb dX5_sources_8 rfl (lv_at hl 2 rfl) ?_
      refine va_get (D := D) (ci := 5) (v := .int 1) (C := RX5) (T := TX5) (N := 5) hx hb hts hiX5 hown hK hP 0 rfl rfl 3 (by decide) (hts (.fieldLink RX5 21 "DynamicLogicProver$Partition" "worlds" "I") (mo_X5_sources1 0 rfl)) (fun _ h9 => h9) rfl dX5_sources_9 ?_
      refine lv_icmp_ge (tgt := 42) hx hb dX5_sources_12 (by decide) (fun c_10 => ?_) (fun c_10 => ?_)
      · refine lv_iload hx hb dX5_sources_42 (lv_at hl 1 rfl) ?_
        have hP9 := hP.sub (ws' := [(h, .inr (5, [.ref a, .ref b, .ref d, .int 1, .int n])), (o, .inr (3, [.ref ot, .ref ov, .int 1])), (ov, .inl (kv, 18, .inl fv))]) [0, 1, 2] rfl
        have hD9 := hD.sub (ws' := [(h, .inr (5, [.ref a, .ref b, .ref d, .int 1, .int n])), (o, .inr (3, [.ref ot, .ref ov, .int 1])), (ov, .inl (kv, 18, .inl fv))]) [0, 1, 2] (by decide) rfl
        have hK9 := hK.sub (tys' := []) [] rfl
        exact W.iret (v := 1) hx hb hr (fun tZ htZ hW => ⟨⟨1, (), rfl, trivial, by rw [htZ]; exact hP9, va_K.moved hW.alike hK9, hD9⟩, hS.F htZ⟩) hS.2.2 dX5_sources_44
      · exact absurd c_10 (by decide)
theorem dX5_refine_0 : decode cX5_refine 0 = .ok (.aload_n 0, 1) := by decide +kernel
theorem dX5_refine_1 : decode cX5_refine 1 = .ok (.getfield 25, 3) := by decide +kernel
theorem dX5_refine_4 : decode cX5_refine 4 = .ok (.istore_n 2, 1) := by decide +kernel
theorem dX5_refine_5 : decode cX5_refine 5 = .ok (.aload_n 0, 1) := by decide +kernel
theorem dX5_refine_6 : decode cX5_refine 6 = .ok (.getfield 18, 3) := by decide +kernel
theorem dX5_refine_9 : decode cX5_refine 9 = .ok (.iconst 0, 1) := by decide +kernel
theorem dX5_refine_10 : decode cX5_refine 10 = .ok (.invokestatic 32, 3) := by decide +kernel
theorem dX5_refine_13 : decode cX5_refine 13 = .ok (.iconst 0, 1) := by decide +kernel
theorem dX5_refine_14 : decode cX5_refine 14 = .ok (.istore_n 3, 1) := by decide +kernel
theorem dX5_refine_15 : decode cX5_refine 15 = .ok (.iload_n 3, 1) := by decide +kernel
theorem dX5_refine_16 : decode cX5_refine 16 = .ok (.aload_n 0, 1) := by decide +kernel
theorem dX5_refine_17 : decode cX5_refine 17 = .ok (.getfield 21, 3) := by decide +kernel
theorem dX5_refine_20 : decode cX5_refine 20 = .ok (.if_icmp .ge 37, 3) := by decide +kernel
theorem dX5_refine_23 : decode cX5_refine 23 = .ok (.aload_n 0, 1) := by decide +kernel
theorem dX5_refine_24 : decode cX5_refine 24 = .ok (.getfield 18, 3) := by decide +kernel
theorem dX5_refine_27 : decode cX5_refine 27 = .ok (.aload_n 0, 1) := by decide +kernel
theorem dX5_refine_28 : decode cX5_refine 28 = .ok (.iload_n 3, 1) := by decide +kernel
theorem dX5_refine_29 : decode cX5_refine 29 = .ok (.invokevirtual 75, 3) := by decide +kernel
theorem dX5_refine_32 : decode cX5_refine 32 = .ok (.aload_n 0, 1) := by decide +kernel
theorem dX5_refine_33 : decode cX5_refine 33 = .ok (.getfield 18, 3) := by decide +kernel
theorem dX5_refine_36 : decode cX5_refine 36 = .ok (.aload_n 0, 1) := by decide +kernel
theorem dX5_refine_37 : decode cX5_refine 37 = .ok (.iload_n 3, 1) := by decide +kernel
theorem dX5_refine_38 : decode cX5_refine 38 = .ok (.invokevirtual 75, 3) := by decide +kernel
theorem dX5_refine_41 : decode cX5_refine 41 = .ok (.invokestatic 28, 3) := by decide +kernel
theorem dX5_refine_44 : decode cX5_refine 44 = .ok (.iconst 1, 1) := by decide +kernel
theorem dX5_refine_45 : decode cX5_refine 45 = .ok (.iload_n 3, 1) := by decide +kernel
theorem dX5_refine_46 : decode cX5_refine 46 = .ok (.ishl, 1) := by decide +kernel
theorem dX5_refine_47 : decode cX5_refine 47 = .ok (.ior, 1) := by decide +kernel
theorem dX5_refine_48 : decode cX5_refine 48 = .ok (.invokestatic 44, 3) := by decide +kernel
theorem dX5_refine_51 : decode cX5_refine 51 = .ok (.iinc 3 1, 3) := by decide +kernel
theorem dX5_refine_54 : decode cX5_refine 54 = .ok (.goto (-39), 3) := by decide +kernel
theorem dX5_refine_57 : decode cX5_refine 57 = .ok (.iconst 0, 1) := by decide +kernel
theorem dX5_refine_58 : decode cX5_refine 58 = .ok (.istore_n 3, 1) := by decide +kernel
theorem dX5_refine_59 : decode cX5_refine 59 = .ok (.iload_n 3, 1) := by decide +kernel
theorem dX5_refine_60 : decode cX5_refine 60 = .ok (.iconst 3, 1) := by decide +kernel
theorem dX5_refine_61 : decode cX5_refine 61 = .ok (.if_icmp .ge 43, 3) := by decide +kernel
theorem dX5_refine_64 : decode cX5_refine 64 = .ok (.iconst 0, 1) := by decide +kernel
theorem dX5_refine_65 : decode cX5_refine 65 = .ok (.istore 4, 2) := by decide +kernel
theorem dX5_refine_67 : decode cX5_refine 67 = .ok (.iload 4, 2) := by decide +kernel
theorem dX5_refine_69 : decode cX5_refine 69 = .ok (.iload_n 2, 1) := by decide +kernel
theorem dX5_refine_70 : decode cX5_refine 70 = .ok (.if_icmp .ge 28, 3) := by decide +kernel
theorem dX5_refine_73 : decode cX5_refine 73 = .ok (.aload_n 0, 1) := by decide +kernel
theorem dX5_refine_74 : decode cX5_refine 74 = .ok (.aload_n 0, 1) := by decide +kernel
theorem dX5_refine_75 : decode cX5_refine 75 = .ok (.aload_n 1, 1) := by decide +kernel
theorem dX5_refine_76 : decode cX5_refine 76 = .ok (.iload_n 3, 1) := by decide +kernel
theorem dX5_refine_77 : decode cX5_refine 77 = .ok (.aload_n 0, 1) := by decide +kernel
theorem dX5_refine_78 : decode cX5_refine 78 = .ok (.getfield 18, 3) := by decide +kernel
theorem dX5_refine_81 : decode cX5_refine 81 = .ok (.iload 4, 2) := by decide +kernel
theorem dX5_refine_83 : decode cX5_refine 83 = .ok (.invokestatic 28, 3) := by decide +kernel
theorem dX5_refine_86 : decode cX5_refine 86 = .ok (.invokevirtual 78, 3) := by decide +kernel
theorem dX5_refine_89 : decode cX5_refine 89 = .ok (.invokevirtual 68, 3) := by decide +kernel
theorem dX5_refine_92 : decode cX5_refine 92 = .ok (.iinc 4 1, 3) := by decide +kernel
theorem dX5_refine_95 : decode cX5_refine 95 = .ok (.goto (-28), 3) := by decide +kernel
theorem dX5_refine_98 : decode cX5_refine 98 = .ok (.iinc 3 1, 3) := by decide +kernel
theorem dX5_refine_101 : decode cX5_refine 101 = .ok (.goto (-42), 3) := by decide +kernel
theorem dX5_refine_104 : decode cX5_refine 104 = .ok (.return_, 1) := by decide +kernel
def wo_X5_refine1 : List Cond := [.fieldLink RX5 25 "DynamicLogicProver$Partition" "number" "I", .fieldLink RX5 18 "DynamicLogicProver$Partition" "images" "[I", .methodLink RX5 32 yJ7_fill_53178, .static yJ7_fill_53178, .initialized RJ7, .fieldLink RX5 21 "DynamicLogicProver$Partition" "worlds" "I", .methodLink RX5 75 yX5_classOf, .instanceMethod yX5_classOf, .selects RX5 yX5_classOf yX5_classOf, .initialized RX5, .initialized RX11, .static yX11_at, .static yX11_put, .methodLink RX5 78 yX5_sources, .instanceMethod yX5_sources, .selects RX5 yX5_sources yX5_sources, .methodLink RX5 68 yX5_split, .instanceMethod yX5_split, .selects RX5 yX5_split yX5_split]
def wd_X5_refine1 : List Cond := .code yX5_refine cX5_refine 5 none :: (wo_X5_refine1 ++ (wd_J7_fill_53178 ++ (wd_X5_classOf ++ (wd_X11_at ++ (wd_X11_put ++ (wd_X5_sources1 ++ (wd_X5_split1 ++ (wsX50 ++ ([] : List Cond)))))))))
theorem mo_X5_refine1 {w : Cond} (i : Nat) (h : wo_X5_refine1[i]? = some w) : w ∈ wd_X5_refine1 := List.mem_cons_of_mem _ (List.mem_append_left _ (List.mem_of_getElem? h))
theorem mb_X5_refine1_0 : ∀ w ∈ wd_J7_fill_53178, w ∈ wd_X5_refine1 := fun w h => List.mem_cons_of_mem _ (List.mem_append_right _ (List.mem_append_left _ h))
theorem mb_X5_refine1_1 : ∀ w ∈ wd_X5_classOf, w ∈ wd_X5_refine1 := fun w h => List.mem_cons_of_mem _ (List.mem_append_right _ (List.mem_append_right _ (List.mem_append_left _ h)))
theorem mb_X5_refine1_2 : ∀ w ∈ wd_X11_at, w ∈ wd_X5_refine1 := fun w h => List.mem_cons_of_mem _ (List.mem_append_right _ (List.mem_append_right _ (List.mem_append_right _ (List.mem_append_left _ h))))
theorem mb_X5_refine1_3 : ∀ w ∈ wd_X11_put, w ∈ wd_X5_refine1 := fun w h => List.mem_cons_of_mem _ (List.mem_append_right _ (List.mem_append_right _ (List.mem_append_right _ (List.mem_append_right _ (List.mem_append_left _ h)))))
theorem mb_X5_refine1_4 : ∀ w ∈ wd_X5_sources1, w ∈ wd_X5_refine1 := fun w h => List.mem_cons_of_mem _ (List.mem_append_right _ (List.mem_append_right _ (List.mem_append_right _ (List.mem_append_right _ (List.mem_append_right _ (List.mem_append_left _ h))))))
theorem mb_X5_refine1_5 : ∀ w ∈ wd_X5_split1, w ∈ wd_X5_refine1 := fun w h => List.mem_cons_of_mem _ (List.mem_append_right _ (List.mem_append_right _ (List.mem_append_right _ (List.mem_append_right _ (List.mem_append_right _ (List.mem_append_right _ (List.mem_append_left _ h)))))))
theorem mb_X5_refine1_6 : ∀ w ∈ wsX50, w ∈ wd_X5_refine1 := fun w h => List.mem_cons_of_mem _ (List.mem_append_right _ (List.mem_append_right _ (List.mem_append_right _ (List.mem_append_right _ (List.mem_append_right _ (List.mem_append_right _ (List.mem_append_right _ (List.mem_append_left _ h))))))))
theorem hd_X5_refine : yX5_refine.cls ≠ "java/lang/invoke/MethodHandle" ∧ yX5_refine.cls ≠ "java/lang/invoke/VarHandle" ∧ (parseMethodDescriptor yX5_refine.desc).map (fun d => d.parameters.length) = some 1 := by decide +kernel
set_option maxRecDepth 20000 in
theorem gw_X5_refine1 : wd_X5_refine1.all goodWord = true := by decide +kernel
abbrev qc_X5_refine1 (D : va_G) (h : Nat) (a : Nat) (b : Nat) (d : Nat) (ka : ClassId) (kb : ClassId) (kd : ClassId) (f : Nat → Int32) (g : Nat → Int32) (x : Nat → Int32) (o : Nat) (ot : Nat) (ov : Nat) (kv : ClassId) (fv : Nat → Int32) (A : Nat → Prop) : Array Value → State → Outcome → State → Prop := va_Qv (fun (uZ : (Nat → Int32) × (Nat → Int32) × (Nat → Int32)) => uZ.1 0 = 0) (fun uZ tZ => kc_pos D A [(h, .inr (5, [.ref a, .ref b, .ref d, .int 1, .int 1])), (a, .inl (ka, 6, .inl uZ.1)), (b, .inl (kb, 6, .inl uZ.2.1)), (d, .inl (kd, 6, .inl uZ.2.2)), (o, .inr (3, [.ref ot, .ref ov, .int 1])), (ov, .inl (kv, 18, .inl fv))] [] tZ) A
set_option maxHeartbeats 4000000 in
set_option maxRecDepth 100000 in
theorem ct_X5_refine1 (l : Launch) (D : va_G) (h : Nat) (a : Nat) (b : Nat) (d : Nat) (ka : ClassId) (kb : ClassId) (kd : ClassId) (f : Nat → Int32) (g : Nat → Int32) (x : Nat → Int32) (o : Nat) (ot : Nat) (ov : Nat) (kv : ClassId) (fv : Nat → Int32) (sz : Nat)  : Met l yX5_refine wd_X5_refine1 ({ frames := 3, cells := 0, slots := 0, locals := 68 }) (va_Pc [.ref h, .ref o] (kc_pre D [(ka, .int), (kb, .int), (kd, .int), (kv, .int)] [(h, .inr (5, [.ref a, .ref b, .ref d, .int 1, .int 1])), (a, .inl (ka, 6, .inl f)), (b, .inl (kb, 6, .inl g)), (d, .inl (kd, 6, .inl x)), (o, .inr (3, [.ref ot, .ref ov, .int 1])), (ov, .inl (kv, 18, .inl fv))] sz)) (qc_X5_refine1 D h a b d ka kb kd f g x o ot ov kv fv (va_A [(h, .inr (5, [.ref a, .ref b, .ref d, .int 1, .int 1])), (a, .inl (ka, 6, .inl f)), (b, .inl (kb, 6, .inl g)), (d, .inl (kd, 6, .inl x)), (o, .inr (3, [.ref ot, .ref ov, .int 1])), (ov, .inl (kv, 18, .inl fv))] sz)) 0 0 (va_A [(h, .inr (5, [.ref a, .ref b, .ref d, .int 1, .int 1])), (a, .inl (ka, 6, .inl f)), (b, .inl (kb, 6, .inl g)), (d, .inl (kd, 6, .inl x)), (o, .inr (3, [.ref ot, .ref ov, .int 1])), (ov, .inl (kv, 18, .inl fv))] sz) := by
  refine Met.ofW (cc := cX5_refine) (maxL := 5) (ret := none) (by decide) rfl ?_
  intro p e s m args below meth c s₁ B hml hv
  obtain ⟨rfl, hsz, hP, hK, hN, hD0⟩ := hv
  have hx := B.exec
  have hb := B.bytes
  have hr := B.returns
  have hts := atoms_spec (ws := wd_X5_refine1) B.pre
  have hown : s.vm.findClass RX5 = some m.cls := findClass_of_methodNamed B.named
  have hlocks := B.notSynchronized
  subst hsz
  have hD := hD0.self (sz := s.heap.size)
  generalize hAe : va_A [(h, .inr (5, [.ref a, .ref b, .ref d, .int 1, .int 1])), (a, .inl (ka, 6, .inl f)), (b, .inl (kb, 6, .inl g)), (d, .inl (kd, 6, .inl x)), (o, .inr (3, [.ref ot, .ref ov, .int 1])), (ov, .inl (kv, 18, .inl fv))] s.heap.size = A at hD ⊢
  have hA : ∀ q : Nat, s.heap.size ≤ q → A q := fun q h => by rw [← hAe]; exact Or.inr h
  have hS : va_S A s.heap s.heap [] := va_S.rf
  have hiX5 : ∀ w ∈ wsX50, w ∈ wd_X5_refine1 := mb_X5_refine1_6
  have hl := lv_entry ([.ref h, .ref o]) (n := 5) (Nat.le_of_ble_eq_true rfl)
  rw [lg_entry_eq]
  generalize (lg_sl ([.ref h, .ref o]) ++ List.replicate (5 - (lg_sl ([.ref h, .ref o])).length) Slot.unset).toArray = ls at hl ⊢
  have hl : lv_has ls 5 [(0, .ref h), (1, .ref o)] := hl
  refine lv_aload_n hx hb dX5_refine_0 rfl (lv_at hl 0 rfl) ?_
  refine va_get (D := D) (ci := 5) (v := .int 1) (C := RX5) (T := TX5) (N := 5) hx hb hts hiX5 hown hK hP 0 rfl rfl 4 (by decide) (hts (.fieldLink RX5 25 "DynamicLogicProver$Partition" "number" "I") (mo_X5_refine1 0 rfl)) (fun _ h9 => h9) rfl dX5_refine_1 ?_
  refine lv_istore_n (lv' := [(2, .int 1), (0, .ref h), (1, .ref o)]) hx hb dX5_refine_4 rfl hl (by decide) rfl (fun ls hl => ?_)
  refine lv_aload_n hx hb dX5_refine_5 rfl (lv_at hl 1 rfl) ?_
  refine va_get (D := D) (ci := 5) (v := .ref d) (C := RX5) (T := TX5) (N := 5) hx hb hts hiX5 hown hK hP 0 rfl rfl 2 (by decide) (hts (.fieldLink RX5 18 "DynamicLogicProver$Partition" "images" "[I") (mo_X5_refine1 1 rfl)) (fun _ h9 => h9) rfl dX5_refine_6 ?_
  refine lv_iconst (v := 0) hx hb dX5_refine_9 (by decide) ?_
  refine kc_Sv (As := [.ref d, .int 0]) (rest := []) (wr := [(h, .inr (5, [.ref a, .ref b, .ref d, .int 1, .int 1])), (a, .inl (ka, 6, .inl f)), (b, .inl (kb, 6, .inl g)), (o, .inr (3, [.ref ot, .ref ov, .int 1])), (ov, .inl (kv, 18, .inl fv))]) ⟨hx, hb, hml, hown, hts⟩ (ct_J7_fill_53178 l D d kd 6 x 0 _ (by decide)) (va_cwS 2 hts (kg_S (mo_X5_refine1 2 rfl) (mo_X5_refine1 3 rfl) (mo_X5_refine1 4 rfl) (goodIn_sub mb_X5_refine1_0 gw_J7_fill_53178)) rfl rfl rfl hd_J7_fill_53178 ⟨Nat.le_of_ble_eq_true rfl, Nat.le_of_ble_eq_true rfl⟩) hK hN hP hD hS hA [3] [0, 1, 2, 4, 5] [2] rfl rfl (by decide) (by decide) (by decide) rfl rfl hl.1 rfl (Nat.le_of_ble_eq_true rfl) dX5_refine_10 ⟨Nat.le_of_ble_eq_true rfl, Nat.le_of_ble_eq_true rfl⟩ (fun u_2 H locs w_3 hP hD hK1 hS => ?_)
  obtain ⟨o_4, rfl⟩ : ∃ z, z = u_2 := ⟨_, rfl⟩
  have hP : va_P D vwCl [(h, .inr (5, [.ref a, .ref b, .ref d, .int 1, .int 1])), (a, .inl (ka, 6, .inl f)), (b, .inl (kb, 6, .inl g)), (o, .inr (3, [.ref ot, .ref ov, .int 1])), (ov, .inl (kv, 18, .inl fv)), (d, .inl (kd, 6, .inl o_4))] H := hP
  have hD : va_D A [(h, .inr (5, [.ref a, .ref b, .ref d, .int 1, .int 1])), (a, .inl (ka, 6, .inl f)), (b, .inl (kb, 6, .inl g)), (o, .inr (3, [.ref ot, .ref ov, .int 1])), (ov, .inl (kv, 18, .inl fv)), (d, .inl (kd, 6, .inl o_4))] := hD
  have w_3 : ∀ k, k < 6 → o_4 k = 0 := w_3
  refine lv_iconst (v := 0) hx hb dX5_refine_13 (by decide) ?_
  refine lv_istore_n (lv' := [(3, .int 0), (2, .int 1), (0, .ref h), (1, .ref o)]) hx hb dX5_refine_14 rfl hl (by decide) rfl (fun ls hl => ?_)
  refine lv_iload_n hx hb dX5_refine_15 rfl (lv_at hl 0 rfl) ?_
  refine lv_aload_n hx hb dX5_refine_16 rfl (lv_at hl 2 rfl) ?_
  refine va_get (D := D) (ci := 5) (v := .int 1) (C := RX5) (T := TX5) (N := 5) hx hb hts hiX5 hown hK hP 0 rfl rfl 3 (by decide) (hts (.fieldLink RX5 21 "DynamicLogicProver$Partition" "worlds" "I") (mo_X5_refine1 5 rfl)) (fun _ h9 => h9) rfl dX5_refine_17 ?_
  refine lv_icmp_ge (tgt := 57) hx hb dX5_refine_20 (by decide) (fun c_5 => ?_) (fun c_5 => ?_)
  · exact absurd c_5 (by decide)
  · refine lv_aload_n hx hb dX5_refine_23 rfl (lv_at hl 2 rfl) ?_
    refine va_get (D := D) (ci := 5) (v := .ref d) (C := RX5) (T := TX5) (N := 5) hx hb hts hiX5 hown hK hP 0 rfl rfl 2 (by decide) (hts (.fieldLink RX5 18 "DynamicLogicProver$Partition" "images" "[I") (mo_X5_refine1 1 rfl)) (fun _ h9 => h9) rfl dX5_refine_24 ?_
    refine lv_aload_n hx hb dX5_refine_27 rfl (lv_at hl 2 rfl) ?_
    refine lv_iload_n hx hb dX5_refine_28 rfl (lv_at hl 0 rfl) ?_
    refine kc_Vi (As := [.int 0]) (rest := [.ref d]) (wr := [(b, .inl (kb, 6, .inl g)), (o, .inr (3, [.ref ot, .ref ov, .int 1])), (ov, .inl (kv, 18, .inl fv)), (d, .inl (kd, 6, .inl o_4))]) ⟨hx, hb, hml, hown, hts⟩ (ct_X5_classOf l D h a b d ka f 1 1 0 _ ) (cwV 1 hts (kg_V (mo_X5_refine1 6 rfl) (mo_X5_refine1 7 rfl) (mo_X5_refine1 8 rfl) (mo_X5_refine1 9 rfl) (goodIn_sub mb_X5_refine1_1 gw_X5_classOf)) rfl rfl rfl ⟨rfl, hd_X5_classOf⟩ ⟨Nat.le_of_ble_eq_true rfl, Nat.le_of_ble_eq_true rfl⟩) (RX5, TX5, 5) 5 0 rfl rfl rfl hK hN hP hD hS hA [0, 1] [2, 3, 4, 5] [0] rfl rfl (by decide) (by decide) (by decide) rfl rfl hl.1 rfl (Nat.le_of_ble_eq_true rfl) dX5_refine_29 ⟨Nat.le_of_ble_eq_true rfl, Nat.le_of_ble_eq_true rfl⟩ (fun r_6 u_7 H locs w_8 hP hD hK1 hS => ?_)
    have hP : va_P D vwCl [(b, .inl (kb, 6, .inl g)), (o, .inr (3, [.ref ot, .ref ov, .int 1])), (ov, .inl (kv, 18, .inl fv)), (d, .inl (kd, 6, .inl o_4)), (h, .inr (5, [.ref a, .ref b, .ref d, .int 1, .int 1])), (a, .inl (ka, 6, .inl f))] H := hP
    have hD : va_D A [(b, .inl (kb, 6, .inl g)), (o, .inr (3, [.ref ot, .ref ov, .int 1])), (ov, .inl (kv, 18, .inl fv)), (d, .inl (kd, 6, .inl o_4)), (h, .inr (5, [.ref a, .ref b, .ref d, .int 1, .int 1])), (a, .inl (ka, 6, .inl f))] := hD
    have w_8 : r_6 = at_v f 6 0 := w_8
    refine lv_aload_n hx hb dX5_refine_32 rfl (lv_at hl 2 rfl) ?_
    refine va_get (D := D) (ci := 5) (v := .ref d) (C := RX5) (T := TX5) (N := 5) hx hb hts hiX5 hown hK hP 4 rfl rfl 2 (by decide) (hts (.fieldLink RX5 18 "DynamicLogicProver$Partition" "images" "[I") (mo_X5_refine1 1 rfl)) (fun _ h9 => h9) rfl dX5_refine_33 ?_
    refine lv_aload_n hx hb dX5_refine_36 rfl (lv_at hl 2 rfl) ?_
    refine lv_iload_n hx hb dX5_refine_37 rfl (lv_at hl 0 rfl) ?_
    refine kc_Vi (As := [.int 0]) (rest := [.ref d, .int r_6, .ref d]) (wr := [(b, .inl (kb, 6, .inl g)), (o, .inr (3, [.ref ot, .ref ov, .int 1])), (ov, .inl (kv, 18, .inl fv)), (d, .inl (kd, 6, .inl o_4))]) ⟨hx, hb, hml, hown, hts⟩ (ct_X5_classOf l D h a b d ka f 1 1 0 _ ) (cwV 1 hts (kg_V (mo_X5_refine1 6 rfl) (mo_X5_refine1 7 rfl) (mo_X5_refine1 8 rfl) (mo_X5_refine1 9 rfl) (goodIn_sub mb_X5_refine1_1 gw_X5_classOf)) rfl rfl rfl ⟨rfl, hd_X5_classOf⟩ ⟨Nat.le_of_ble_eq_true rfl, Nat.le_of_ble_eq_true rfl⟩) (RX5, TX5, 5) 5 4 rfl rfl rfl hK hN hP hD hS hA [4, 5] [0, 1, 2, 3] [0] rfl rfl (by decide) (by decide) (by decide) rfl rfl hl.1 rfl (Nat.le_of_ble_eq_true rfl) dX5_refine_38 ⟨Nat.le_of_ble_eq_true rfl, Nat.le_of_ble_eq_true rfl⟩ (fun r_9 u_10 H locs w_11 hP hD hK1 hS => ?_)
    have hP : va_P D vwCl [(b, .inl (kb, 6, .inl g)), (o, .inr (3, [.ref ot, .ref ov, .int 1])), (ov, .inl (kv, 18, .inl fv)), (d, .inl (kd, 6, .inl o_4)), (h, .inr (5, [.ref a, .ref b, .ref d, .int 1, .int 1])), (a, .inl (ka, 6, .inl f))] H := hP
    have hD : va_D A [(b, .inl (kb, 6, .inl g)), (o, .inr (3, [.ref ot, .ref ov, .int 1])), (ov, .inl (kv, 18, .inl fv)), (d, .inl (kd, 6, .inl o_4)), (h, .inr (5, [.ref a, .ref b, .ref d, .int 1, .int 1])), (a, .inl (ka, 6, .inl f))] := hD
    have w_11 : r_9 = at_v f 6 0 := w_11
    refine kc_Ni (As := [.ref d, .int r_9]) (rest := [.int r_6, .ref d]) (wr := [(b, .inl (kb, 6, .inl g)), (o, .inr (3, [.ref ot, .ref ov, .int 1])), (ov, .inl (kv, 18, .inl fv)), (h, .inr (5, [.ref a, .ref b, .ref d, .int 1, .int 1])), (a, .inl (ka, 6, .inl f))]) ⟨hx, hb, hml, hown, hts⟩ (ct_X11_at l D d kd 6 o_4 r_9 _ (by decide)) ⟨va_cnB 2 hts (goodIn_sub mb_X5_refine1_2 gw_X11_at) rfl rfl rfl (hN (RX5, 28, yX11_at) (List.mem_of_getElem? (i := 17) rfl)) (hts (.initialized RX11) (mo_X5_refine1 10 rfl)) hd_X11_at ⟨Nat.le_of_ble_eq_true rfl, Nat.le_of_ble_eq_true rfl⟩, (hts (.static yX11_at) (mo_X5_refine1 11 rfl)), trivial⟩ hK hN hP hD hS hA [3] [0, 1, 2, 4, 5] [2] rfl rfl (by decide) (by decide) (by decide) rfl rfl hl.1 rfl (Nat.le_of_ble_eq_true rfl) dX5_refine_41 ⟨Nat.le_of_ble_eq_true rfl, Nat.le_of_ble_eq_true rfl⟩ (fun r_12 u_13 H locs w_14 hP hD hK1 hS => ?_)
    have hP : va_P D vwCl [(b, .inl (kb, 6, .inl g)), (o, .inr (3, [.ref ot, .ref ov, .int 1])), (ov, .inl (kv, 18, .inl fv)), (h, .inr (5, [.ref a, .ref b, .ref d, .int 1, .int 1])), (a, .inl (ka, 6, .inl f)), (d, .inl (kd, 6, .inl o_4))] H := hP
    have hD : va_D A [(b, .inl (kb, 6, .inl g)), (o, .inr (3, [.ref ot, .ref ov, .int 1])), (ov, .inl (kv, 18, .inl fv)), (h, .inr (5, [.ref a, .ref b, .ref d, .int 1, .int 1])), (a, .inl (ka, 6, .inl f)), (d, .inl (kd, 6, .inl o_4))] := hD
    have w_14 : r_12 = at_v o_4 6 r_9 := w_14
    refine lv_iconst (v := 1) hx hb dX5_refine_44 (by decide) ?_
    refine lv_iload_n hx hb dX5_refine_45 rfl (lv_at hl 0 rfl) ?_
    refine lv_ishl hx hb dX5_refine_46 ?_
    refine lv_topi (fun x_15 ex_15 => ?_)
    obtain rfl : x_15 = 1 := ex_15.trans (by decide)
    refine lv_ior hx hb dX5_refine_47 ?_
    refine lv_topi (fun x_16 ex_16 => ?_)
    refine kc_Nv (As := [.ref d, .int r_6, .int x_16]) (rest := []) (wr := [(b, .inl (kb, 6, .inl g)), (o, .inr (3, [.ref ot, .ref ov, .int 1])), (ov, .inl (kv, 18, .inl fv)), (h, .inr (5, [.ref a, .ref b, .ref d, .int 1, .int 1])), (a, .inl (ka, 6, .inl f))]) ⟨hx, hb, hml, hown, hts⟩ (ct_X11_put l D d kd 6 o_4 r_6 x_16 _ (by decide)) ⟨va_cnB 3 hts (goodIn_sub mb_X5_refine1_3 gw_X11_put) rfl rfl rfl (hN (RX5, 44, yX11_put) (List.mem_of_getElem? (i := 18) rfl)) (hts (.initialized RX11) (mo_X5_refine1 10 rfl)) hd_X11_put ⟨Nat.le_of_ble_eq_true rfl, Nat.le_of_ble_eq_true rfl⟩, (hts (.static yX11_put) (mo_X5_refine1 12 rfl)), trivial⟩ hK hN hP hD hS hA [5] [0, 1, 2, 3, 4] [2] rfl rfl (by decide) (by decide) (by decide) rfl rfl hl.1 rfl (Nat.le_of_ble_eq_true rfl) dX5_refine_48 ⟨Nat.le_of_ble_eq_true rfl, Nat.le_of_ble_eq_true rfl⟩ (fun u_18 H locs w_19 hP hD hK1 hS => ?_)
    obtain ⟨o_20, rfl⟩ : ∃ z, z = u_18 := ⟨_, rfl⟩
    have hP : va_P D vwCl [(b, .inl (kb, 6, .inl g)), (o, .inr (3, [.ref ot, .ref ov, .int 1])), (ov, .inl (kv, 18, .inl fv)), (h, .inr (5, [.ref a, .ref b, .ref d, .int 1, .int 1])), (a, .inl (ka, 6, .inl f)), (d, .inl (kd, 6, .inl o_20))] H := hP
    have hD : va_D A [(b, .inl (kb, 6, .inl g)), (o, .inr (3, [.ref ot, .ref ov, .int 1])), (ov, .inl (kv, 18, .inl fv)), (h, .inr (5, [.ref a, .ref b, .ref d, .int 1, .int 1])), (a, .inl (ka, 6, .inl f)), (d, .inl (kd, 6, .inl o_20))] := hD
    have w_19 : o_20 = put_v o_4 6 r_6 x_16 := w_19
    refine lv_iinc (v := 1) (lv' := [(3, .int 1), (2, .int 1), (0, .ref h), (1, .ref o)]) hx hb dX5_refine_51 hl (k := 0) rfl (by decide) (by decide) rfl (fun ls hl => ?_)
    refine lv_goto (tgt := 15) hx hb dX5_refine_54 (by decide) ?_
    refine lv_iload_n hx hb dX5_refine_15 rfl (lv_at hl 0 rfl) ?_
    refine lv_aload_n hx hb dX5_refine_16 rfl (lv_at hl 2 rfl) ?_
    refine va_get (D := D) (ci := 5) (v := .int 1) (C := RX5) (T := TX5) (N := 5) hx hb hts hiX5 hown hK hP 3 rfl rfl 3 (by decide) (hts (.fieldLink RX5 21 "DynamicLogicProver$Partition" "worlds" "I") (mo_X5_refine1 5 rfl)) (fun _ h9 => h9) rfl dX5_refine_17 ?_
    refine lv_icmp_ge (tgt := 57) hx hb dX5_refine_20 (by decide) (fun c_21 => ?_) (fun c_21 => ?_)
    · refine lv_iconst (v := 0) hx hb dX5_refine_57 (by decide) ?_
      refine lv_istore_n (lv' := [(3, .int 0), (2, .int 1), (0, .ref h), (1, .ref o)]) hx hb dX5_refine_58 rfl hl (by decide) rfl (fun ls hl => ?_)
      refine lv_iload_n hx hb dX5_refine_59 rfl (lv_at hl 0 rfl) ?_
      refine lv_iconst (v := 3) hx hb dX5_refine_60 (by decide) ?_
      refine lv_icmp_ge (tgt := 104) hx hb dX5_refine_61 (by decide) (fun c_22 => ?_) (fun c_22 => ?_)
      · exact absurd c_22 (by decide)
      · refine lv_iconst (v := 0) hx hb dX5_refine_64 (by decide) ?_
        refine lv_istore (lv' := [(4, .int 0), (3, .int 0), (2, .int 1), (0, .ref h), (1, .ref o)]) hx hb dX5_refine_65 hl (by decide) rfl (fun ls hl => ?_)
        refine lv_iload hx hb dX5_refine_67 (lv_at hl 0 rfl) ?_
        refine lv_iload_n hx hb dX5_refine_69 rfl (lv_at hl 2 rfl) ?_
        refine lv_icmp_ge (tgt := 98) hx hb dX5_refine_70 (by decide) (fun c_23 => ?_) (fun c_23 => ?_)
        · exact absurd c_23 (by decide)
        · refine lv_aload_n hx hb dX5_refine_73 rfl (lv_at hl 3 rfl) ?_
          refine lv_aload_n hx hb dX5_refine_74 rfl (lv_at hl 3 rfl) ?_
          refine lv_aload_n hx hb dX5_refine_75 rfl (lv_at hl 4 rfl) ?_
          refine lv_iload_n hx hb dX5_refine_76 rfl (lv_at hl 1 rfl) ?_
          refine lv_aload_n hx hb dX5_refine_77 rfl (lv_at hl 3 rfl) ?_
          refine va_get (D := D) (ci := 5) (v := .ref d) (C := RX5) (T := TX5) (N := 5) hx hb hts hiX5 hown hK hP 3 rfl rfl 2 (by decide) (hts (.fieldLink RX5 18 "DynamicLogicProver$Partition" "images" "[I") (mo_X5_refine1 1 rfl)) (fun _ h9 => h9) rfl dX5_refine_78 ?_
          refine lv_iload hx hb dX5_refine_81 (lv_at hl 0 rfl) ?_
          refine kc_Ni (As := [.ref d, .int 0]) (rest := [.int 0, .ref o, .ref h, .ref h]) (wr := [(b, .inl (kb, 6, .inl g)), (o, .inr (3, [.ref ot, .ref ov, .int 1])), (ov, .inl (kv, 18, .inl fv)), (h, .inr (5, [.ref a, .ref b, .ref d, .int 1, .int 1])), (a, .inl (ka, 6, .inl f))]) ⟨hx, hb, hml, hown, hts⟩ (ct_X11_at l D d kd 6 o_20 0 _ (by decide)) ⟨va_cnB 2 hts (goodIn_sub mb_X5_refine1_2 gw_X11_at) rfl rfl rfl (hN (RX5, 28, yX11_at) (List.mem_of_getElem? (i := 17) rfl)) (hts (.initialized RX11) (mo_X5_refine1 10 rfl)) hd_X11_at ⟨Nat.le_of_ble_eq_true rfl, Nat.le_of_ble_eq_true rfl⟩, (hts (.static yX11_at) (mo_X5_refine1 11 rfl)), trivial⟩ hK hN hP hD hS hA [5] [0, 1, 2, 3, 4] [2] rfl rfl (by decide) (by decide) (by decide) rfl rfl hl.1 rfl (Nat.le_of_ble_eq_true rfl) dX5_refine_83 ⟨Nat.le_of_ble_eq_true rfl, Nat.le_of_ble_eq_true rfl⟩ (fun r_24 u_25 H locs w_26 hP hD hK1 hS => ?_)
          have hP : va_P D vwCl [(b, .inl (kb, 6, .inl g)), (o, .inr (3, [.ref ot, .ref ov, .int 1])), (ov, .inl (kv, 18, .inl fv)), (h, .inr (5, [.ref a, .ref b, .ref d, .int 1, .int 1])), (a, .inl (ka, 6, .inl f)), (d, .inl (kd, 6, .inl o_20))] H := hP
          have hD : va_D A [(b, .inl (kb, 6, .inl g)), (o, .inr (3, [.ref ot, .ref ov, .int 1])), (ov, .inl (kv, 18, .inl fv)), (h, .inr (5, [.ref a, .ref b, .ref d, .int 1, .int 1])), (a, .inl (ka, 6, .inl f)), (d, .inl (kd, 6, .inl o_20))] := hD
          have w_26 : r_24 = at_v o_20 6 0 := w_26
          refine kc_Vi (As := [.ref o, .int 0, .int r_24]) (rest := [.ref h]) (wr := [(b, .inl (kb, 6, .inl g)), (a, .inl (ka, 6, .inl f)), (d, .inl (kd, 6, .inl o_20))]) ⟨hx, hb, hml, hown, hts⟩ (ct_X5_sources1 l D h a b d o ot ov kv fv 1 0 r_24 _ ) (cwV 3 hts (kg_V (mo_X5_refine1 13 rfl) (mo_X5_refine1 14 rfl) (mo_X5_refine1 15 rfl) (mo_X5_refine1 9 rfl) (goodIn_sub mb_X5_refine1_4 gw_X5_sources1)) rfl rfl rfl ⟨rfl, hd_X5_sources⟩ ⟨Nat.le_of_ble_eq_true rfl, Nat.le_of_ble_eq_true rfl⟩) (RX5, TX5, 5) 5 3 rfl rfl rfl hK hN hP hD hS hA [3, 1, 2] [0, 4, 5] [3] rfl rfl (by decide) (by decide) (by decide) rfl rfl hl.1 rfl (Nat.le_of_ble_eq_true rfl) dX5_refine_86 ⟨Nat.le_of_ble_eq_true rfl, Nat.le_of_ble_eq_true rfl⟩ (fun r_27 u_28 H locs w_29 hP hD hK1 hS => ?_)
          have hP : va_P D vwCl [(b, .inl (kb, 6, .inl g)), (a, .inl (ka, 6, .inl f)), (d, .inl (kd, 6, .inl o_20)), (h, .inr (5, [.ref a, .ref b, .ref d, .int 1, .int 1])), (o, .inr (3, [.ref ot, .ref ov, .int 1])), (ov, .inl (kv, 18, .inl fv))] H := hP
          have hD : va_D A [(b, .inl (kb, 6, .inl g)), (a, .inl (ka, 6, .inl f)), (d, .inl (kd, 6, .inl o_20)), (h, .inr (5, [.ref a, .ref b, .ref d, .int 1, .int 1])), (o, .inr (3, [.ref ot, .ref ov, .int 1])), (ov, .inl (kv, 18, .inl fv))] := hD
          refine kc_Vv (As := [.int r_27]) (rest := []) (wr := [(d, .inl (kd, 6, .inl o_20)), (o, .inr (3, [.ref ot, .ref ov, .int 1])), (ov, .inl (kv, 18, .inl fv))]) ⟨hx, hb, hml, hown, hts⟩ (ct_X5_split1 l D h a b d ka kb f g 1 r_27 _ ) (cwV 1 hts (kg_V (mo_X5_refine1 16 rfl) (mo_X5_refine1 17 rfl) (mo_X5_refine1 18 rfl) (mo_X5_refine1 9 rfl) (goodIn_sub mb_X5_refine1_5 gw_X5_split1)) rfl rfl rfl ⟨rfl, hd_X5_split⟩ ⟨Nat.le_of_ble_eq_true rfl, Nat.le_of_ble_eq_true rfl⟩) (RX5, TX5, 5) 5 3 rfl rfl rfl hK hN hP hD hS hA [3, 1, 0] [2, 4, 5] [0, 1] rfl rfl (by decide) (by decide) (by decide) rfl rfl hl.1 rfl (Nat.le_of_ble_eq_true rfl) dX5_refine_89 ⟨Nat.le_of_ble_eq_true rfl, Nat.le_of_ble_eq_true rfl⟩ (fun u_31 H locs w_32 hP hD hK1 hS => ?_)
          obtain ⟨o_33, o_34⟩ := u_31
          have hP : va_P D vwCl [(d, .inl (kd, 6, .inl o_20)), (o, .inr (3, [.ref ot, .ref ov, .int 1])), (ov, .inl (kv, 18, .inl fv)), (h, .inr (5, [.ref a, .ref b, .ref d, .int 1, .int 1])), (a, .inl (ka, 6, .inl o_33)), (b, .inl (kb, 6, .inl o_34))] H := hP
          have hD : va_D A [(d, .inl (kd, 6, .inl o_20)), (o, .inr (3, [.ref ot, .ref ov, .int 1])), (ov, .inl (kv, 18, .inl fv)), (h, .inr (5, [.ref a, .ref b, .ref d, .int 1, .int 1])), (a, .inl (ka, 6, .inl o_33)), (b, .inl (kb, 6, .inl o_34))] := hD
          have w_32 : o_33 0 = 0 := w_32
          refine lv_iinc (v := 1) (lv' := [(4, .int 1), (3, .int 0), (2, .int 1), (0, .ref h), (1, .ref o)]) hx hb dX5_refine_92 hl (k := 0) rfl (by decide) (by decide) rfl (fun ls hl => ?_)
          refine lv_goto (tgt := 67) hx hb dX5_refine_95 (by decide) ?_
          refine lv_iload hx hb dX5_refine_67 (lv_at hl 0 rfl) ?_
          refine lv_iload_n hx hb dX5_refine_69 rfl (lv_at hl 2 rfl) ?_
          refine lv_icmp_ge (tgt := 98) hx hb dX5_refine_70 (by decide) (fun c_35 => ?_) (fun c_35 => ?_)
          · refine lv_iinc (v := 1) (lv' := [(3, .int 1), (4, .int 1), (2, .int 1), (0, .ref h), (1, .ref o)]) hx hb dX5_refine_98 hl (k := 1) rfl (by decide) (by decide) rfl (fun ls hl => ?_)
            refine lv_goto (tgt := 59) hx hb dX5_refine_101 (by decide) ?_
            refine lv_iload_n hx hb dX5_refine_59 rfl (lv_at hl 0 rfl) ?_
            refine lv_iconst (v := 3) hx hb dX5_refine_60 (by decide) ?_
            refine lv_icmp_ge (tgt := 104) hx hb dX5_refine_61 (by decide) (fun c_36 => ?_) (fun c_36 => ?_)
            · exact absurd c_36 (by decide)
            · refine lv_iconst (v := 0) hx hb dX5_refine_64 (by decide) ?_
              refine lv_istore (lv' := [(4, .int 0), (3, .int 1), (2, .int 1), (0, .ref h), (1, .ref o)]) hx hb dX5_refine_65 hl (by decide) rfl (fun ls hl => ?_)
              refine lv_iload hx hb dX5_refine_67 (lv_at hl 0 rfl) ?_
              refine lv_iload_n hx hb dX5_refine_69 rfl (lv_at hl 2 rfl) ?_
              refine lv_icmp_ge (tgt := 98) hx hb dX5_refine_70 (by decide) (fun c_37 => ?_) (fun c_37 => ?_)
              · exact absurd c_37 (by decide)
              · refine lv_aload_n hx hb dX5_refine_73 rfl (lv_at hl 3 rfl) ?_
                refine lv_aload_n hx hb dX5_refine_74 rfl (lv_at hl 3 rfl) ?_
                refine lv_aload_n hx hb dX5_refine_75 rfl (lv_at hl 4 rfl) ?_
                refine lv_iload_n hx hb dX5_refine_76 rfl (lv_at hl 1 rfl) ?_
                refine lv_aload_n hx hb dX5_refine_77 rfl (lv_at hl 3 rfl) ?_
                refine va_get (D := D) (ci := 5) (v := .ref d) (C := RX5) (T := TX5) (N := 5) hx hb hts hiX5 hown hK hP 3 rfl rfl 2 (by decide) (hts (.fieldLink RX5 18 "DynamicLogicProver$Partition" "images" "[I") (mo_X5_refine1 1 rfl)) (fun _ h9 => h9) rfl dX5_refine_78 ?_
                refine lv_iload hx hb dX5_refine_81 (lv_at hl 0 rfl) ?_
                refine kc_Ni (As := [.ref d, .int 0]) (rest := [.int 1, .ref o, .ref h, .ref h]) (wr := [(o, .inr (3, [.ref ot, .ref ov, .int 1])), (ov, .inl (kv, 18, .inl fv)), (h, .inr (5, [.ref a, .ref b, .ref d, .int 1, .int 1])), (a, .inl (ka, 6, .inl o_33)), (b, .inl (kb, 6, .inl o_34))]) ⟨hx, hb, hml, hown, hts⟩ (ct_X11_at l D d kd 6 o_20 0 _ (by decide)) ⟨va_cnB 2 hts (goodIn_sub mb_X5_refine1_2 gw_X11_at) rfl rfl rfl (hN (RX5, 28, yX11_at) (List.mem_of_getElem? (i := 17) rfl)) (hts (.initialized RX11) (mo_X5_refine1 10 rfl)) hd_X11_at ⟨Nat.le_of_ble_eq_true rfl, Nat.le_of_ble_eq_true rfl⟩, (hts (.static yX11_at) (mo_X5_refine1 11 rfl)), trivial⟩ hK hN hP hD hS hA [0] [1, 2, 3, 4, 5] [2] rfl rfl (by decide) (by decide) (by decide) rfl rfl hl.1 rfl (Nat.le_of_ble_eq_true rfl) dX5_refine_83 ⟨Nat.le_of_ble_eq_true rfl, Nat.le_of_ble_eq_true rfl⟩ (fun r_38 u_39 H locs w_40 hP hD hK1 hS => ?_)
                have hP : va_P D vwCl [(o, .inr (3, [.ref ot, .ref ov, .int 1])), (ov, .inl (kv, 18, .inl fv)), (h, .inr (5, [.ref a, .ref b, .ref d, .int 1, .int 1])), (a, .inl (ka, 6, .inl o_33)), (b, .inl (kb, 6, .inl o_34)), (d, .inl (kd, 6, .inl o_20))] H := hP
                have hD : va_D A [(o, .inr (3, [.ref ot, .ref ov, .int 1])), (ov, .inl (kv, 18, .inl fv)), (h, .inr (5, [.ref a, .ref b, .ref d, .int 1, .int 1])), (a, .inl (ka, 6, .inl o_33)), (b, .inl (kb, 6, .inl o_34)), (d, .inl (kd, 6, .inl o_20))] := hD
                have w_40 : r_38 = at_v o_20 6 0 := w_40
                refine kc_Vi (As := [.ref o, .int 1, .int r_38]) (rest := [.ref h]) (wr := [(a, .inl (ka, 6, .inl o_33)), (b, .inl (kb, 6, .inl o_34)), (d, .inl (kd, 6, .inl o_20))]) ⟨hx, hb, hml, hown, hts⟩ (ct_X5_sources1 l D h a b d o ot ov kv fv 1 1 r_38 _ ) (cwV 3 hts (kg_V (mo_X5_refine1 13 rfl) (mo_X5_refine1 14 rfl) (mo_X5_refine1 15 rfl) (mo_X5_refine1 9 rfl) (goodIn_sub mb_X5_refine1_4 gw_X5_sources1)) rfl rfl rfl ⟨rfl, hd_X5_sources⟩ ⟨Nat.le_of_ble_eq_true rfl, Nat.le_of_ble_eq_true rfl⟩) (RX5, TX5, 5) 5 2 rfl rfl rfl hK hN hP hD hS hA [2, 0, 1] [3, 4, 5] [3] rfl rfl (by decide) (by decide) (by decide) rfl rfl hl.1 rfl (Nat.le_of_ble_eq_true rfl) dX5_refine_86 ⟨Nat.le_of_ble_eq_true rfl, Nat.le_of_ble_eq_true rfl⟩ (fun r_41 u_42 H locs w_43 hP hD hK1 hS => ?_)
                have hP : va_P D vwCl [(a, .inl (ka, 6, .inl o_33)), (b, .inl (kb, 6, .inl o_34)), (d, .inl (kd, 6, .inl o_20)), (h, .inr (5, [.ref a, .ref b, .ref d, .int 1, .int 1])), (o, .inr (3, [.ref ot, .ref ov, .int 1])), (ov, .inl (kv, 18, .inl fv))] H := hP
                have hD : va_D A [(a, .inl (ka, 6, .inl o_33)), (b, .inl (kb, 6, .inl o_34)), (d, .inl (kd, 6, .inl o_20)), (h, .inr (5, [.ref a, .ref b, .ref d, .int 1, .int 1])), (o, .inr (3, [.ref ot, .ref ov, .int 1])), (ov, .inl (kv, 18, .inl fv))] := hD
                refine kc_Vv (As := [.int r_41]) (rest := []) (wr := [(d, .inl (kd, 6, .inl o_20)), (o, .inr (3, [.ref ot, .ref ov, .int 1])), (ov, .inl (kv, 18, .inl fv))]) ⟨hx, hb, hml, hown, hts⟩ (ct_X5_split1 l D h a b d ka kb o_33 o_34 1 r_41 _ ) (cwV 1 hts (kg_V (mo_X5_refine1 16 rfl) (mo_X5_refine1 17 rfl) (mo_X5_refine1 18 rfl) (mo_X5_refine1 9 rfl) (goodIn_sub mb_X5_refine1_5 gw_X5_split1)) rfl rfl rfl ⟨rfl, hd_X5_split⟩ ⟨Nat.le_of_ble_eq_true rfl, Nat.le_of_ble_eq_true rfl⟩) (RX5, TX5, 5) 5 3 rfl rfl rfl hK hN hP hD hS hA [3, 0, 1] [2, 4, 5] [0, 1] rfl rfl (by decide) (by decide) (by decide) rfl rfl hl.1 rfl (Nat.le_of_ble_eq_true rfl) dX5_refine_89 ⟨Nat.le_of_ble_eq_true rfl, Nat.le_of_ble_eq_true rfl⟩ (fun u_45 H locs w_46 hP hD hK1 hS => ?_)
                obtain ⟨o_47, o_48⟩ := u_45
                have hP : va_P D vwCl [(d, .inl (kd, 6, .inl o_20)), (o, .inr (3, [.ref ot, .ref ov, .int 1])), (ov, .inl (kv, 18, .inl fv)), (h, .inr (5, [.ref a, .ref b, .ref d, .int 1, .int 1])), (a, .inl (ka, 6, .inl o_47)), (b, .inl (kb, 6, .inl o_48))] H := hP
                have hD : va_D A [(d, .inl (kd, 6, .inl o_20)), (o, .inr (3, [.ref ot, .ref ov, .int 1])), (ov, .inl (kv, 18, .inl fv)), (h, .inr (5, [.ref a, .ref b, .ref d, .int 1, .int 1])), (a, .inl (ka, 6, .inl o_47)), (b, .inl (kb, 6, .inl o_48))] := hD
                have w_46 : o_47 0 = 0 := w_46
                refine lv_iinc (v := 1) (lv' := [(4, .int 1), (3, .int 1), (2, .int 1), (0, .ref h), (1, .ref o)]) hx hb dX5_refine_92 hl (k := 0) rfl (by decide) (by decide) rfl (fun ls hl => ?_)
                refine lv_goto (tgt := 67) hx hb dX5_refine_95 (by decide) ?_
                refine lv_iload hx hb dX5_refine_67 (lv_at hl 0 rfl) ?_
                refine lv_iload_n hx hb dX5_refine_69 rfl (lv_at hl 2 rfl) ?_
                refine lv_icmp_ge (tgt := 98) hx hb dX5_refine_70 (by decide) (fun c_49 => ?_) (fun c_49 => ?_)
                · refine lv_iinc (v := 2) (lv' := [(3, .int 2), (4, .int 1), (2, .int 1), (0, .ref h), (1, .ref o)]) hx hb dX5_refine_98 hl (k := 1) rfl (by decide) (by decide) rfl (fun ls hl => ?_)
                  refine lv_goto (tgt := 59) hx hb dX5_refine_101 (by decide) ?_
                  refine lv_iload_n hx hb dX5_refine_59 rfl (lv_at hl 0 rfl) ?_
                  refine lv_iconst (v := 3) hx hb dX5_refine_60 (by decide) ?_
                  refine lv_icmp_ge (tgt := 104) hx hb dX5_refine_61 (by decide) (fun c_50 => ?_) (fun c_50 => ?_)
                  · exact absurd c_50 (by decide)
                  · refine lv_iconst (v := 0) hx hb dX5_refine_64 (by decide) ?_
                    refine lv_istore (lv' := [(4, .int 0), (3, .int 2), (2, .int 1), (0, .ref h), (1, .ref o)]) hx hb dX5_refine_65 hl (by decide) rfl (fun ls hl => ?_)
                    refine lv_iload hx hb dX5_refine_67 (lv_at hl 0 rfl) ?_
                    refine lv_iload_n hx hb dX5_refine_69 rfl (lv_at hl 2 rfl) ?_
                    refine lv_icmp_ge (tgt := 98) hx hb dX5_refine_70 (by decide) (fun c_51 => ?_) (fun c_51 => ?_)
                    · exact absurd c_51 (by decide)
                    · refine lv_aload_n hx hb dX5_refine_73 rfl (lv_at hl 3 rfl) ?_
                      refine lv_aload_n hx hb dX5_refine_74 rfl (lv_at hl 3 rfl) ?_
                      refine lv_aload_n hx hb dX5_refine_75 rfl (lv_at hl 4 rfl) ?_
                      refine lv_iload_n hx hb dX5_refine_76 rfl (lv_at hl 1 rfl) ?_
                      refine lv_aload_n hx hb dX5_refine_77 rfl (lv_at hl 3 rfl) ?_
                      refine va_get (D := D) (ci := 5) (v := .ref d) (C := RX5) (T := TX5) (N := 5) hx hb hts hiX5 hown hK hP 3 rfl rfl 2 (by decide) (hts (.fieldLink RX5 18 "DynamicLogicProver$Partition" "images" "[I") (mo_X5_refine1 1 rfl)) (fun _ h9 => h9) rfl dX5_refine_78 ?_
                      refine lv_iload hx hb dX5_refine_81 (lv_at hl 0 rfl) ?_
                      refine kc_Ni (As := [.ref d, .int 0]) (rest := [.int 2, .ref o, .ref h, .ref h]) (wr := [(o, .inr (3, [.ref ot, .ref ov, .int 1])), (ov, .inl (kv, 18, .inl fv)), (h, .inr (5, [.ref a, .ref b, .ref d, .int 1, .int 1])), (a, .inl (ka, 6, .inl o_47)), (b, .inl (kb, 6, .inl o_48))]) ⟨hx, hb, hml, hown, hts⟩ (ct_X11_at l D d kd 6 o_20 0 _ (by decide)) ⟨va_cnB 2 hts (goodIn_sub mb_X5_refine1_2 gw_X11_at) rfl rfl rfl (hN (RX5, 28, yX11_at) (List.mem_of_getElem? (i := 17) rfl)) (hts (.initialized RX11) (mo_X5_refine1 10 rfl)) hd_X11_at ⟨Nat.le_of_ble_eq_true rfl, Nat.le_of_ble_eq_true rfl⟩, (hts (.static yX11_at) (mo_X5_refine1 11 rfl)), trivial⟩ hK hN hP hD hS hA [0] [1, 2, 3, 4, 5] [2] rfl rfl (by decide) (by decide) (by decide) rfl rfl hl.1 rfl (Nat.le_of_ble_eq_true rfl) dX5_refine_83 ⟨Nat.le_of_ble_eq_true rfl, Nat.le_of_ble_eq_true rfl⟩ (fun r_52 u_53 H locs w_54 hP hD hK1 hS => ?_)
                      have hP : va_P D vwCl [(o, .inr (3, [.ref ot, .ref ov, .int 1])), (ov, .inl (kv, 18, .inl fv)), (h, .inr (5, [.ref a, .ref b, .ref d, .int 1, .int 1])), (a, .inl (ka, 6, .inl o_47)), (b, .inl (kb, 6, .inl o_48)), (d, .inl (kd, 6, .inl o_20))] H := hP
                      have hD : va_D A [(o, .inr (3, [.ref ot, .ref ov, .int 1])), (ov, .inl (kv, 18, .inl fv)), (h, .inr (5, [.ref a, .ref b, .ref d, .int 1, .int 1])), (a, .inl (ka, 6, .inl o_47)), (b, .inl (kb, 6, .inl o_48)), (d, .inl (kd, 6, .inl o_20))] := hD
                      have w_54 : r_52 = at_v o_20 6 0 := w_54
                      refine kc_Vi (As := [.ref o, .int 2, .int r_52]) (rest := [.ref h]) (wr := [(a, .inl (ka, 6, .inl o_47)), (b, .inl (kb, 6, .inl o_48)), (d, .inl (kd, 6, .inl o_20))]) ⟨hx, hb, hml, hown, hts⟩ (ct_X5_sources1 l D h a b d o ot ov kv fv 1 2 r_52 _ ) (cwV 3 hts (kg_V (mo_X5_refine1 13 rfl) (mo_X5_refine1 14 rfl) (mo_X5_refine1 15 rfl) (mo_X5_refine1 9 rfl) (goodIn_sub mb_X5_refine1_4 gw_X5_sources1)) rfl rfl rfl ⟨rfl, hd_X5_sources⟩ ⟨Nat.le_of_ble_eq_true rfl, Nat.le_of_ble_eq_true rfl⟩) (RX5, TX5, 5) 5 2 rfl rfl rfl hK hN hP hD hS hA [2, 0, 1] [3, 4, 5] [3] rfl rfl (by decide) (by decide) (by decide) rfl rfl hl.1 rfl (Nat.le_of_ble_eq_true rfl) dX5_refine_86 ⟨Nat.le_of_ble_eq_true rfl, Nat.le_of_ble_eq_true rfl⟩ (fun r_55 u_56 H locs w_57 hP hD hK1 hS => ?_)
                      have hP : va_P D vwCl [(a, .inl (ka, 6, .inl o_47)), (b, .inl (kb, 6, .inl o_48)), (d, .inl (kd, 6, .inl o_20)), (h, .inr (5, [.ref a, .ref b, .ref d, .int 1, .int 1])), (o, .inr (3, [.ref ot, .ref ov, .int 1])), (ov, .inl (kv, 18, .inl fv))] H := hP
                      have hD : va_D A [(a, .inl (ka, 6, .inl o_47)), (b, .inl (kb, 6, .inl o_48)), (d, .inl (kd, 6, .inl o_20)), (h, .inr (5, [.ref a, .ref b, .ref d, .int 1, .int 1])), (o, .inr (3, [.ref ot, .ref ov, .int 1])), (ov, .inl (kv, 18, .inl fv))] := hD
                      refine kc_Vv (As := [.int r_55]) (rest := []) (wr := [(d, .inl (kd, 6, .inl o_20)), (o, .inr (3, [.ref ot, .ref ov, .int 1])), (ov, .inl (kv, 18, .inl fv))]) ⟨hx, hb, hml, hown, hts⟩ (ct_X5_split1 l D h a b d ka kb o_47 o_48 1 r_55 _ ) (cwV 1 hts (kg_V (mo_X5_refine1 16 rfl) (mo_X5_refine1 17 rfl) (mo_X5_refine1 18 rfl) (mo_X5_refine1 9 rfl) (goodIn_sub mb_X5_refine1_5 gw_X5_split1)) rfl rfl rfl ⟨rfl, hd_X5_split⟩ ⟨Nat.le_of_ble_eq_true rfl, Nat.le_of_ble_eq_true rfl⟩) (RX5, TX5, 5) 5 3 rfl rfl rfl hK hN hP hD hS hA [3, 0, 1] [2, 4, 5] [0, 1] rfl rfl (by decide) (by decide) (by decide) rfl rfl hl.1 rfl (Nat.le_of_ble_eq_true rfl) dX5_refine_89 ⟨Nat.le_of_ble_eq_true rfl, Nat.le_of_ble_eq_true rfl⟩ (fun u_59 H locs w_60 hP hD hK1 hS => ?_)
                      obtain ⟨o_61, o_62⟩ := u_59
                      have hP : va_P D vwCl [(d, .inl (kd, 6, .inl o_20)), (o, .inr (3, [.ref ot, .ref ov, .int 1])), (ov, .inl (kv, 18, .inl fv)), (h, .inr (5, [.ref a, .ref b, .ref d, .int 1, .int 1])), (a, .inl (ka, 6, .inl o_61)), (b, .inl (kb, 6, .inl o_62))] H := hP
                      have hD : va_D A [(d, .inl (kd, 6, .inl o_20)), (o, .inr (3, [.ref ot, .ref ov, .int 1])), (ov, .inl (kv, 18, .inl fv)), (h, .inr (5, [.ref a, .ref b, .ref d, .int 1, .int 1])), (a, .inl (ka, 6, .inl o_61)), (b, .inl (kb, 6, .inl o_62))] := hD
                      have w_60 : o_61 0 = 0 := w_60
                      refine lv_iinc (v := 1) (lv' := [(4, .int 1), (3, .int 2), (2, .int 1), (0, .ref h), (1, .ref o)]) hx hb dX5_refine_92 hl (k := 0) rfl (by decide) (by decide) rfl (fun ls hl => ?_)
                      refine lv_goto (tgt := 67) hx hb dX5_refine_95 (by decide) ?_
                      refine lv_iload hx hb dX5_refine_67 (lv_at hl 0 rfl) ?_
                      refine lv_iload_n hx hb dX5_refine_69 rfl (lv_at hl 2 rfl) ?_
                      refine lv_icmp_ge (tgt := 98) hx hb dX5_refine_70 (by decide) (fun c_63 => ?_) (fun c_63 => ?_)
                      · refine lv_iinc (v := 3) (lv' := [(3, .int 3), (4, .int 1), (2, .int 1), (0, .ref h), (1, .ref o)]) hx hb dX5_refine_98 hl (k := 1) rfl (by decide) (by decide) rfl (fun ls hl => ?_)
                        refine lv_goto (tgt := 59) hx hb dX5_refine_101 (by decide) ?_
                        refine lv_iload_n hx hb dX5_refine_59 rfl (lv_at hl 0 rfl) ?_
                        refine lv_iconst (v := 3) hx hb dX5_refine_60 (by decide) ?_
                        refine lv_icmp_ge (tgt := 104) hx hb dX5_refine_61 (by decide) (fun c_64 => ?_) (fun c_64 => ?_)
                        · have hP9 := hP.sub (ws' := [(h, .inr (5, [.ref a, .ref b, .ref d, .int 1, .int 1])), (a, .inl (ka, 6, .inl o_61)), (b, .inl (kb, 6, .inl o_62)), (d, .inl (kd, 6, .inl o_20)), (o, .inr (3, [.ref ot, .ref ov, .int 1])), (ov, .inl (kv, 18, .inl fv))]) [3, 4, 5, 0, 1, 2] rfl
                          have hD9 := hD.sub (ws' := [(h, .inr (5, [.ref a, .ref b, .ref d, .int 1, .int 1])), (a, .inl (ka, 6, .inl o_61)), (b, .inl (kb, 6, .inl o_62)), (d, .inl (kd, 6, .inl o_20)), (o, .inr (3, [.ref ot, .ref ov, .int 1])), (ov, .inl (kv, 18, .inl fv))]) [3, 4, 5, 0, 1, 2] (by decide) rfl
                          have hK9 := hK.sub (tys' := []) [] rfl
                          exact W.vret hx hb hr (fun tZ htZ hW => ⟨⟨(o_61, o_62, o_20), rfl, w_60, by rw [htZ]; exact hP9, va_K.moved hW.alike hK9, hD9⟩, hS.F htZ⟩) hS.2.2 dX5_refine_104
                        · exact absurd c_64 (by decide)
                      · exact absurd c_63 (by decide)
                · exact absurd c_49 (by decide)
          · exact absurd c_35 (by decide)
    · exact absurd c_21 (by decide)
theorem dX5_bisimulate_0 : decode cX5_bisimulate 0 = .ok (.aload_n 0, 1) := by decide +kernel
theorem dX5_bisimulate_1 : decode cX5_bisimulate 1 = .ok (.aload_n 1, 1) := by decide +kernel
theorem dX5_bisimulate_2 : decode cX5_bisimulate 2 = .ok (.invokevirtual 54, 3) := by decide +kernel
theorem dX5_bisimulate_5 : decode cX5_bisimulate 5 = .ok (.invokevirtual 60, 3) := by decide +kernel
theorem dX5_bisimulate_8 : decode cX5_bisimulate 8 = .ok (.iconst 0, 1) := by decide +kernel
theorem dX5_bisimulate_9 : decode cX5_bisimulate 9 = .ok (.istore_n 2, 1) := by decide +kernel
theorem dX5_bisimulate_10 : decode cX5_bisimulate 10 = .ok (.iload_n 2, 1) := by decide +kernel
theorem dX5_bisimulate_11 : decode cX5_bisimulate 11 = .ok (.iconst 4, 1) := by decide +kernel
theorem dX5_bisimulate_12 : decode cX5_bisimulate 12 = .ok (.if_icmp .ge 18, 3) := by decide +kernel
theorem dX5_bisimulate_15 : decode cX5_bisimulate 15 = .ok (.aload_n 0, 1) := by decide +kernel
theorem dX5_bisimulate_16 : decode cX5_bisimulate 16 = .ok (.aload_n 1, 1) := by decide +kernel
theorem dX5_bisimulate_17 : decode cX5_bisimulate 17 = .ok (.iload_n 2, 1) := by decide +kernel
theorem dX5_bisimulate_18 : decode cX5_bisimulate 18 = .ok (.invokevirtual 64, 3) := by decide +kernel
theorem dX5_bisimulate_21 : decode cX5_bisimulate 21 = .ok (.invokevirtual 68, 3) := by decide +kernel
theorem dX5_bisimulate_24 : decode cX5_bisimulate 24 = .ok (.iinc 2 1, 3) := by decide +kernel
theorem dX5_bisimulate_27 : decode cX5_bisimulate 27 = .ok (.goto (-17), 3) := by decide +kernel
theorem dX5_bisimulate_30 : decode cX5_bisimulate 30 = .ok (.iconst 0, 1) := by decide +kernel
theorem dX5_bisimulate_31 : decode cX5_bisimulate 31 = .ok (.istore_n 2, 1) := by decide +kernel
theorem dX5_bisimulate_32 : decode cX5_bisimulate 32 = .ok (.iconst 0, 1) := by decide +kernel
theorem dX5_bisimulate_33 : decode cX5_bisimulate 33 = .ok (.istore_n 3, 1) := by decide +kernel
theorem dX5_bisimulate_34 : decode cX5_bisimulate 34 = .ok (.iload_n 3, 1) := by decide +kernel
theorem dX5_bisimulate_35 : decode cX5_bisimulate 35 = .ok (.bipush 6, 2) := by decide +kernel
theorem dX5_bisimulate_37 : decode cX5_bisimulate 37 = .ok (.if_icmp .ge 27, 3) := by decide +kernel
theorem dX5_bisimulate_40 : decode cX5_bisimulate 40 = .ok (.aload_n 0, 1) := by decide +kernel
theorem dX5_bisimulate_41 : decode cX5_bisimulate 41 = .ok (.getfield 25, 3) := by decide +kernel
theorem dX5_bisimulate_44 : decode cX5_bisimulate 44 = .ok (.iload_n 2, 1) := by decide +kernel
theorem dX5_bisimulate_45 : decode cX5_bisimulate 45 = .ok (.if_icmp .eq 19, 3) := by decide +kernel
theorem dX5_bisimulate_48 : decode cX5_bisimulate 48 = .ok (.aload_n 0, 1) := by decide +kernel
theorem dX5_bisimulate_49 : decode cX5_bisimulate 49 = .ok (.getfield 25, 3) := by decide +kernel
theorem dX5_bisimulate_52 : decode cX5_bisimulate 52 = .ok (.istore_n 2, 1) := by decide +kernel
theorem dX5_bisimulate_53 : decode cX5_bisimulate 53 = .ok (.aload_n 0, 1) := by decide +kernel
theorem dX5_bisimulate_54 : decode cX5_bisimulate 54 = .ok (.aload_n 1, 1) := by decide +kernel
theorem dX5_bisimulate_55 : decode cX5_bisimulate 55 = .ok (.invokevirtual 71, 3) := by decide +kernel
theorem dX5_bisimulate_58 : decode cX5_bisimulate 58 = .ok (.iinc 3 1, 3) := by decide +kernel
theorem dX5_bisimulate_61 : decode cX5_bisimulate 61 = .ok (.goto (-27), 3) := by decide +kernel
theorem dX5_bisimulate_64 : decode cX5_bisimulate 64 = .ok (.return_, 1) := by decide +kernel
def wo_X5_bisimulate1 : List Cond := [.methodLink RX5 54 yX3_size, .instanceMethod yX3_size, .selects RX3 yX3_size yX3_size, .initialized RX3, .methodLink RX5 60 yX5_begin, .instanceMethod yX5_begin, .selects RX5 yX5_begin yX5_begin, .initialized RX5, .methodLink RX5 64 yX3_truths, .instanceMethod yX3_truths, .selects RX3 yX3_truths yX3_truths, .methodLink RX5 68 yX5_split, .instanceMethod yX5_split, .selects RX5 yX5_split yX5_split, .fieldLink RX5 25 "DynamicLogicProver$Partition" "number" "I", .methodLink RX5 71 yX5_refine, .instanceMethod yX5_refine, .selects RX5 yX5_refine yX5_refine]
def wd_X5_bisimulate1 : List Cond := .code yX5_bisimulate cX5_bisimulate 4 none :: (wo_X5_bisimulate1 ++ (wd_X3_size ++ (wd_X5_begin ++ (wd_X3_truths ++ (wd_X5_split1 ++ (wd_X5_refine1 ++ (wsX50 ++ ([] : List Cond))))))))
theorem mo_X5_bisimulate1 {w : Cond} (i : Nat) (h : wo_X5_bisimulate1[i]? = some w) : w ∈ wd_X5_bisimulate1 := List.mem_cons_of_mem _ (List.mem_append_left _ (List.mem_of_getElem? h))
theorem mb_X5_bisimulate1_0 : ∀ w ∈ wd_X3_size, w ∈ wd_X5_bisimulate1 := fun w h => List.mem_cons_of_mem _ (List.mem_append_right _ (List.mem_append_left _ h))
theorem mb_X5_bisimulate1_1 : ∀ w ∈ wd_X5_begin, w ∈ wd_X5_bisimulate1 := fun w h => List.mem_cons_of_mem _ (List.mem_append_right _ (List.mem_append_right _ (List.mem_append_left _ h)))
theorem mb_X5_bisimulate1_2 : ∀ w ∈ wd_X3_truths, w ∈ wd_X5_bisimulate1 := fun w h => List.mem_cons_of_mem _ (List.mem_append_right _ (List.mem_append_right _ (List.mem_append_right _ (List.mem_append_left _ h))))
theorem mb_X5_bisimulate1_3 : ∀ w ∈ wd_X5_split1, w ∈ wd_X5_bisimulate1 := fun w h => List.mem_cons_of_mem _ (List.mem_append_right _ (List.mem_append_right _ (List.mem_append_right _ (List.mem_append_right _ (List.mem_append_left _ h)))))
theorem mb_X5_bisimulate1_4 : ∀ w ∈ wd_X5_refine1, w ∈ wd_X5_bisimulate1 := fun w h => List.mem_cons_of_mem _ (List.mem_append_right _ (List.mem_append_right _ (List.mem_append_right _ (List.mem_append_right _ (List.mem_append_right _ (List.mem_append_left _ h))))))
theorem mb_X5_bisimulate1_5 : ∀ w ∈ wsX50, w ∈ wd_X5_bisimulate1 := fun w h => List.mem_cons_of_mem _ (List.mem_append_right _ (List.mem_append_right _ (List.mem_append_right _ (List.mem_append_right _ (List.mem_append_right _ (List.mem_append_right _ (List.mem_append_left _ h)))))))
theorem hd_X5_bisimulate : yX5_bisimulate.cls ≠ "java/lang/invoke/MethodHandle" ∧ yX5_bisimulate.cls ≠ "java/lang/invoke/VarHandle" ∧ (parseMethodDescriptor yX5_bisimulate.desc).map (fun d => d.parameters.length) = some 1 := by decide +kernel
set_option maxRecDepth 20000 in
theorem gw_X5_bisimulate1 : wd_X5_bisimulate1.all goodWord = true := by decide +kernel
abbrev qc_X5_bisimulate1 (D : va_G) (h : Nat) (a : Nat) (b : Nat) (d : Nat) (ka : ClassId) (kb : ClassId) (kd : ClassId) (f : Nat → Int32) (g : Nat → Int32) (x : Nat → Int32) (o : Nat) (ot : Nat) (ov : Nat) (kt : ClassId) (kv : ClassId) (ft : Nat → Int32) (fv : Nat → Int32) (k : Int32) (n : Int32) (A : Nat → Prop) : Array Value → State → Outcome → State → Prop := va_Qv (fun (uZ : (Nat → Int32) × (Nat → Int32) × (Nat → Int32)) => uZ.1 0 = 0) (fun uZ tZ => kc_pos D A [(h, .inr (5, [.ref a, .ref b, .ref d, .int 1, .int 1])), (a, .inl (ka, 6, .inl uZ.1)), (b, .inl (kb, 6, .inl uZ.2.1)), (d, .inl (kd, 6, .inl uZ.2.2)), (o, .inr (3, [.ref ot, .ref ov, .int 1])), (ot, .inl (kt, 4, .inl ft)), (ov, .inl (kv, 18, .inl fv))] [] tZ) A
set_option maxHeartbeats 4000000 in
set_option maxRecDepth 100000 in
theorem ct_X5_bisimulate1 (l : Launch) (D : va_G) (h : Nat) (a : Nat) (b : Nat) (d : Nat) (ka : ClassId) (kb : ClassId) (kd : ClassId) (f : Nat → Int32) (g : Nat → Int32) (x : Nat → Int32) (o : Nat) (ot : Nat) (ov : Nat) (kt : ClassId) (kv : ClassId) (ft : Nat → Int32) (fv : Nat → Int32) (k : Int32) (n : Int32) (sz : Nat)  : Met l yX5_bisimulate wd_X5_bisimulate1 ({ frames := 4, cells := 0, slots := 0, locals := 92 }) (va_Pc [.ref h, .ref o] (kc_pre D [(ka, .int), (kb, .int), (kd, .int), (kt, .int), (kv, .int)] [(h, .inr (5, [.ref a, .ref b, .ref d, .int k, .int n])), (a, .inl (ka, 6, .inl f)), (b, .inl (kb, 6, .inl g)), (d, .inl (kd, 6, .inl x)), (o, .inr (3, [.ref ot, .ref ov, .int 1])), (ot, .inl (kt, 4, .inl ft)), (ov, .inl (kv, 18, .inl fv))] sz)) (qc_X5_bisimulate1 D h a b d ka kb kd f g x o ot ov kt kv ft fv k n (va_A [(h, .inr (5, [.ref a, .ref b, .ref d, .int k, .int n])), (a, .inl (ka, 6, .inl f)), (b, .inl (kb, 6, .inl g)), (d, .inl (kd, 6, .inl x)), (o, .inr (3, [.ref ot, .ref ov, .int 1])), (ot, .inl (kt, 4, .inl ft)), (ov, .inl (kv, 18, .inl fv))] sz)) 0 0 (va_A [(h, .inr (5, [.ref a, .ref b, .ref d, .int k, .int n])), (a, .inl (ka, 6, .inl f)), (b, .inl (kb, 6, .inl g)), (d, .inl (kd, 6, .inl x)), (o, .inr (3, [.ref ot, .ref ov, .int 1])), (ot, .inl (kt, 4, .inl ft)), (ov, .inl (kv, 18, .inl fv))] sz) := by
  refine Met.ofW (cc := cX5_bisimulate) (maxL := 4) (ret := none) (by decide) rfl ?_
  intro p e s m args below meth c s₁ B hml hv
  obtain ⟨rfl, hsz, hP, hK, hN, hD0⟩ := hv
  have hx := B.exec
  have hb := B.bytes
  have hr := B.returns
  have hts := atoms_spec (ws := wd_X5_bisimulate1) B.pre
  have hown : s.vm.findClass RX5 = some m.cls := findClass_of_methodNamed B.named
  have hlocks := B.notSynchronized
  subst hsz
  have hD := hD0.self (sz := s.heap.size)
  generalize hAe : va_A [(h, .inr (5, [.ref a, .ref b, .ref d, .int k, .int n])), (a, .inl (ka, 6, .inl f)), (b, .inl (kb, 6, .inl g)), (d, .inl (kd, 6, .inl x)), (o, .inr (3, [.ref ot, .ref ov, .int 1])), (ot, .inl (kt, 4, .inl ft)), (ov, .inl (kv, 18, .inl fv))] s.heap.size = A at hD ⊢
  have hA : ∀ q : Nat, s.heap.size ≤ q → A q := fun q h => by rw [← hAe]; exact Or.inr h
  have hS : va_S A s.heap s.heap [] := va_S.rf
  have hiX5 : ∀ w ∈ wsX50, w ∈ wd_X5_bisimulate1 := mb_X5_bisimulate1_5
  have hl := lv_entry ([.ref h, .ref o]) (n := 4) (Nat.le_of_ble_eq_true rfl)
  rw [lg_entry_eq]
  generalize (lg_sl ([.ref h, .ref o]) ++ List.replicate (4 - (lg_sl ([.ref h, .ref o])).length) Slot.unset).toArray = ls at hl ⊢
  have hl : lv_has ls 4 [(0, .ref h), (1, .ref o)] := hl
  refine lv_aload_n hx hb dX5_bisimulate_0 rfl (lv_at hl 0 rfl) ?_
  refine lv_aload_n hx hb dX5_bisimulate_1 rfl (lv_at hl 1 rfl) ?_
  refine kc_Vi (As := []) (rest := [.ref h]) (wr := [(h, .inr (5, [.ref a, .ref b, .ref d, .int k, .int n])), (a, .inl (ka, 6, .inl f)), (b, .inl (kb, 6, .inl g)), (d, .inl (kd, 6, .inl x)), (ot, .inl (kt, 4, .inl ft)), (ov, .inl (kv, 18, .inl fv))]) ⟨hx, hb, hml, hown, hts⟩ (ct_X3_size l D o ot ov 1 _ ) (cwV 0 hts (kg_V (mo_X5_bisimulate1 0 rfl) (mo_X5_bisimulate1 1 rfl) (mo_X5_bisimulate1 2 rfl) (mo_X5_bisimulate1 3 rfl) (goodIn_sub mb_X5_bisimulate1_0 gw_X3_size)) rfl rfl rfl ⟨rfl, hd_X3_size⟩ ⟨Nat.le_of_ble_eq_true rfl, Nat.le_of_ble_eq_true rfl⟩) (RX3, TX3, 3) 3 4 rfl rfl rfl hK hN hP hD hS hA [4] [0, 1, 2, 3, 5, 6] [] rfl rfl (by decide) (by decide) (by decide) rfl rfl hl.1 rfl (Nat.le_of_ble_eq_true rfl) dX5_bisimulate_2 ⟨Nat.le_of_ble_eq_true rfl, Nat.le_of_ble_eq_true rfl⟩ (fun r_1 u_2 H locs w_3 hP hD hK1 hS => ?_)
  have hP : va_P D vwCl [(h, .inr (5, [.ref a, .ref b, .ref d, .int k, .int n])), (a, .inl (ka, 6, .inl f)), (b, .inl (kb, 6, .inl g)), (d, .inl (kd, 6, .inl x)), (ot, .inl (kt, 4, .inl ft)), (ov, .inl (kv, 18, .inl fv)), (o, .inr (3, [.ref ot, .ref ov, .int 1]))] H := hP
  have hD : va_D A [(h, .inr (5, [.ref a, .ref b, .ref d, .int k, .int n])), (a, .inl (ka, 6, .inl f)), (b, .inl (kb, 6, .inl g)), (d, .inl (kd, 6, .inl x)), (ot, .inl (kt, 4, .inl ft)), (ov, .inl (kv, 18, .inl fv)), (o, .inr (3, [.ref ot, .ref ov, .int 1]))] := hD
  have w_3 : r_1 = 1 := w_3
  subst w_3
  refine kc_Vv (As := [.int 1]) (rest := []) (wr := [(b, .inl (kb, 6, .inl g)), (d, .inl (kd, 6, .inl x)), (ot, .inl (kt, 4, .inl ft)), (ov, .inl (kv, 18, .inl fv)), (o, .inr (3, [.ref ot, .ref ov, .int 1]))]) ⟨hx, hb, hml, hown, hts⟩ (ct_X5_begin l D h a b d ka f k n 1 _ ) (cwV 1 hts (kg_V (mo_X5_bisimulate1 4 rfl) (mo_X5_bisimulate1 5 rfl) (mo_X5_bisimulate1 6 rfl) (mo_X5_bisimulate1 7 rfl) (goodIn_sub mb_X5_bisimulate1_1 gw_X5_begin)) rfl rfl rfl ⟨rfl, hd_X5_begin⟩ ⟨Nat.le_of_ble_eq_true rfl, Nat.le_of_ble_eq_true rfl⟩) (RX5, TX5, 5) 5 0 rfl rfl rfl hK hN hP hD hS hA [0, 1] [2, 3, 4, 5, 6] [0] rfl rfl (by decide) (by decide) (by decide) rfl rfl hl.1 rfl (Nat.le_of_ble_eq_true rfl) dX5_bisimulate_5 ⟨Nat.le_of_ble_eq_true rfl, Nat.le_of_ble_eq_true rfl⟩ (fun u_5 H locs w_6 hP hD hK1 hS => ?_)
  obtain ⟨o_7, rfl⟩ : ∃ z, z = u_5 := ⟨_, rfl⟩
  have hP : va_P D vwCl [(b, .inl (kb, 6, .inl g)), (d, .inl (kd, 6, .inl x)), (ot, .inl (kt, 4, .inl ft)), (ov, .inl (kv, 18, .inl fv)), (o, .inr (3, [.ref ot, .ref ov, .int 1])), (h, .inr (5, [.ref a, .ref b, .ref d, .int 1, .int 1])), (a, .inl (ka, 6, .inl o_7))] H := hP
  have hD : va_D A [(b, .inl (kb, 6, .inl g)), (d, .inl (kd, 6, .inl x)), (ot, .inl (kt, 4, .inl ft)), (ov, .inl (kv, 18, .inl fv)), (o, .inr (3, [.ref ot, .ref ov, .int 1])), (h, .inr (5, [.ref a, .ref b, .ref d, .int 1, .int 1])), (a, .inl (ka, 6, .inl o_7))] := hD
  refine lv_iconst (v := 0) hx hb dX5_bisimulate_8 (by decide) ?_
  refine lv_istore_n (lv' := [(2, .int 0), (0, .ref h), (1, .ref o)]) hx hb dX5_bisimulate_9 rfl hl (by decide) rfl (fun ls hl => ?_)
  refine lv_iload_n hx hb dX5_bisimulate_10 rfl (lv_at hl 0 rfl) ?_
  refine lv_iconst (v := 4) hx hb dX5_bisimulate_11 (by decide) ?_
  refine lv_icmp_ge (tgt := 30) hx hb dX5_bisimulate_12 (by decide) (fun c_8 => ?_) (fun c_8 => ?_)
  · exact absurd c_8 (by decide)
  · refine lv_aload_n hx hb dX5_bisimulate_15 rfl (lv_at hl 1 rfl) ?_
    refine lv_aload_n hx hb dX5_bisimulate_16 rfl (lv_at hl 2 rfl) ?_
    refine lv_iload_n hx hb dX5_bisimulate_17 rfl (lv_at hl 0 rfl) ?_
    refine kc_Vi (As := [.int 0]) (rest := [.ref h]) (wr := [(b, .inl (kb, 6, .inl g)), (d, .inl (kd, 6, .inl x)), (ov, .inl (kv, 18, .inl fv)), (h, .inr (5, [.ref a, .ref b, .ref d, .int 1, .int 1])), (a, .inl (ka, 6, .inl o_7))]) ⟨hx, hb, hml, hown, hts⟩ (ct_X3_truths l D o ot ov kt ft 1 0 _ ) (cwV 1 hts (kg_V (mo_X5_bisimulate1 8 rfl) (mo_X5_bisimulate1 9 rfl) (mo_X5_bisimulate1 10 rfl) (mo_X5_bisimulate1 3 rfl) (goodIn_sub mb_X5_bisimulate1_2 gw_X3_truths)) rfl rfl rfl ⟨rfl, hd_X3_truths⟩ ⟨Nat.le_of_ble_eq_true rfl, Nat.le_of_ble_eq_true rfl⟩) (RX3, TX3, 3) 3 4 rfl rfl rfl hK hN hP hD hS hA [4, 2] [0, 1, 3, 5, 6] [3] rfl rfl (by decide) (by decide) (by decide) rfl rfl hl.1 rfl (Nat.le_of_ble_eq_true rfl) dX5_bisimulate_18 ⟨Nat.le_of_ble_eq_true rfl, Nat.le_of_ble_eq_true rfl⟩ (fun r_9 u_10 H locs w_11 hP hD hK1 hS => ?_)
    have hP : va_P D vwCl [(b, .inl (kb, 6, .inl g)), (d, .inl (kd, 6, .inl x)), (ov, .inl (kv, 18, .inl fv)), (h, .inr (5, [.ref a, .ref b, .ref d, .int 1, .int 1])), (a, .inl (ka, 6, .inl o_7)), (o, .inr (3, [.ref ot, .ref ov, .int 1])), (ot, .inl (kt, 4, .inl ft))] H := hP
    have hD : va_D A [(b, .inl (kb, 6, .inl g)), (d, .inl (kd, 6, .inl x)), (ov, .inl (kv, 18, .inl fv)), (h, .inr (5, [.ref a, .ref b, .ref d, .int 1, .int 1])), (a, .inl (ka, 6, .inl o_7)), (o, .inr (3, [.ref ot, .ref ov, .int 1])), (ot, .inl (kt, 4, .inl ft))] := hD
    have w_11 : r_9 = at_v ft 4 0 := w_11
    refine kc_Vv (As := [.int r_9]) (rest := []) (wr := [(d, .inl (kd, 6, .inl x)), (ov, .inl (kv, 18, .inl fv)), (o, .inr (3, [.ref ot, .ref ov, .int 1])), (ot, .inl (kt, 4, .inl ft))]) ⟨hx, hb, hml, hown, hts⟩ (ct_X5_split1 l D h a b d ka kb o_7 g 1 r_9 _ ) (cwV 1 hts (kg_V (mo_X5_bisimulate1 11 rfl) (mo_X5_bisimulate1 12 rfl) (mo_X5_bisimulate1 13 rfl) (mo_X5_bisimulate1 7 rfl) (goodIn_sub mb_X5_bisimulate1_3 gw_X5_split1)) rfl rfl rfl ⟨rfl, hd_X5_split⟩ ⟨Nat.le_of_ble_eq_true rfl, Nat.le_of_ble_eq_true rfl⟩) (RX5, TX5, 5) 5 3 rfl rfl rfl hK hN hP hD hS hA [3, 4, 0] [1, 2, 5, 6] [0, 1] rfl rfl (by decide) (by decide) (by decide) rfl rfl hl.1 rfl (Nat.le_of_ble_eq_true rfl) dX5_bisimulate_21 ⟨Nat.le_of_ble_eq_true rfl, Nat.le_of_ble_eq_true rfl⟩ (fun u_13 H locs w_14 hP hD hK1 hS => ?_)
    obtain ⟨o_15, o_16⟩ := u_13
    have hP : va_P D vwCl [(d, .inl (kd, 6, .inl x)), (ov, .inl (kv, 18, .inl fv)), (o, .inr (3, [.ref ot, .ref ov, .int 1])), (ot, .inl (kt, 4, .inl ft)), (h, .inr (5, [.ref a, .ref b, .ref d, .int 1, .int 1])), (a, .inl (ka, 6, .inl o_15)), (b, .inl (kb, 6, .inl o_16))] H := hP
    have hD : va_D A [(d, .inl (kd, 6, .inl x)), (ov, .inl (kv, 18, .inl fv)), (o, .inr (3, [.ref ot, .ref ov, .int 1])), (ot, .inl (kt, 4, .inl ft)), (h, .inr (5, [.ref a, .ref b, .ref d, .int 1, .int 1])), (a, .inl (ka, 6, .inl o_15)), (b, .inl (kb, 6, .inl o_16))] := hD
    have w_14 : o_15 0 = 0 := w_14
    refine lv_iinc (v := 1) (lv' := [(2, .int 1), (0, .ref h), (1, .ref o)]) hx hb dX5_bisimulate_24 hl (k := 0) rfl (by decide) (by decide) rfl (fun ls hl => ?_)
    refine lv_goto (tgt := 10) hx hb dX5_bisimulate_27 (by decide) ?_
    refine lv_iload_n hx hb dX5_bisimulate_10 rfl (lv_at hl 0 rfl) ?_
    refine lv_iconst (v := 4) hx hb dX5_bisimulate_11 (by decide) ?_
    refine lv_icmp_ge (tgt := 30) hx hb dX5_bisimulate_12 (by decide) (fun c_17 => ?_) (fun c_17 => ?_)
    · exact absurd c_17 (by decide)
    · refine lv_aload_n hx hb dX5_bisimulate_15 rfl (lv_at hl 1 rfl) ?_
      refine lv_aload_n hx hb dX5_bisimulate_16 rfl (lv_at hl 2 rfl) ?_
      refine lv_iload_n hx hb dX5_bisimulate_17 rfl (lv_at hl 0 rfl) ?_
      refine kc_Vi (As := [.int 1]) (rest := [.ref h]) (wr := [(d, .inl (kd, 6, .inl x)), (ov, .inl (kv, 18, .inl fv)), (h, .inr (5, [.ref a, .ref b, .ref d, .int 1, .int 1])), (a, .inl (ka, 6, .inl o_15)), (b, .inl (kb, 6, .inl o_16))]) ⟨hx, hb, hml, hown, hts⟩ (ct_X3_truths l D o ot ov kt ft 1 1 _ ) (cwV 1 hts (kg_V (mo_X5_bisimulate1 8 rfl) (mo_X5_bisimulate1 9 rfl) (mo_X5_bisimulate1 10 rfl) (mo_X5_bisimulate1 3 rfl) (goodIn_sub mb_X5_bisimulate1_2 gw_X3_truths)) rfl rfl rfl ⟨rfl, hd_X3_truths⟩ ⟨Nat.le_of_ble_eq_true rfl, Nat.le_of_ble_eq_true rfl⟩) (RX3, TX3, 3) 3 2 rfl rfl rfl hK hN hP hD hS hA [2, 3] [0, 1, 4, 5, 6] [3] rfl rfl (by decide) (by decide) (by decide) rfl rfl hl.1 rfl (Nat.le_of_ble_eq_true rfl) dX5_bisimulate_18 ⟨Nat.le_of_ble_eq_true rfl, Nat.le_of_ble_eq_true rfl⟩ (fun r_18 u_19 H locs w_20 hP hD hK1 hS => ?_)
      have hP : va_P D vwCl [(d, .inl (kd, 6, .inl x)), (ov, .inl (kv, 18, .inl fv)), (h, .inr (5, [.ref a, .ref b, .ref d, .int 1, .int 1])), (a, .inl (ka, 6, .inl o_15)), (b, .inl (kb, 6, .inl o_16)), (o, .inr (3, [.ref ot, .ref ov, .int 1])), (ot, .inl (kt, 4, .inl ft))] H := hP
      have hD : va_D A [(d, .inl (kd, 6, .inl x)), (ov, .inl (kv, 18, .inl fv)), (h, .inr (5, [.ref a, .ref b, .ref d, .int 1, .int 1])), (a, .inl (ka, 6, .inl o_15)), (b, .inl (kb, 6, .inl o_16)), (o, .inr (3, [.ref ot, .ref ov, .int 1])), (ot, .inl (kt, 4, .inl ft))] := hD
      have w_20 : r_18 = at_v ft 4 1 := w_20
      refine kc_Vv (As := [.int r_18]) (rest := []) (wr := [(d, .inl (kd, 6, .inl x)), (ov, .inl (kv, 18, .inl fv)), (o, .inr (3, [.ref ot, .ref ov, .int 1])), (ot, .inl (kt, 4, .inl ft))]) ⟨hx, hb, hml, hown, hts⟩ (ct_X5_split1 l D h a b d ka kb o_15 o_16 1 r_18 _ ) (cwV 1 hts (kg_V (mo_X5_bisimulate1 11 rfl) (mo_X5_bisimulate1 12 rfl) (mo_X5_bisimulate1 13 rfl) (mo_X5_bisimulate1 7 rfl) (goodIn_sub mb_X5_bisimulate1_3 gw_X5_split1)) rfl rfl rfl ⟨rfl, hd_X5_split⟩ ⟨Nat.le_of_ble_eq_true rfl, Nat.le_of_ble_eq_true rfl⟩) (RX5, TX5, 5) 5 2 rfl rfl rfl hK hN hP hD hS hA [2, 3, 4] [0, 1, 5, 6] [0, 1] rfl rfl (by decide) (by decide) (by decide) rfl rfl hl.1 rfl (Nat.le_of_ble_eq_true rfl) dX5_bisimulate_21 ⟨Nat.le_of_ble_eq_true rfl, Nat.le_of_ble_eq_true rfl⟩ (fun u_22 H locs w_23 hP hD hK1 hS => ?_)
      obtain ⟨o_24, o_25⟩ := u_22
      have hP : va_P D vwCl [(d, .inl (kd, 6, .inl x)), (ov, .inl (kv, 18, .inl fv)), (o, .inr (3, [.ref ot, .ref ov, .int 1])), (ot, .inl (kt, 4, .inl ft)), (h, .inr (5, [.ref a, .ref b, .ref d, .int 1, .int 1])), (a, .inl (ka, 6, .inl o_24)), (b, .inl (kb, 6, .inl o_25))] H := hP
      have hD : va_D A [(d, .inl (kd, 6, .inl x)), (ov, .inl (kv, 18, .inl fv)), (o, .inr (3, [.ref ot, .ref ov, .int 1])), (ot, .inl (kt, 4, .inl ft)), (h, .inr (5, [.ref a, .ref b, .ref d, .int 1, .int 1])), (a, .inl (ka, 6, .inl o_24)), (b, .inl (kb, 6, .inl o_25))] := hD
      have w_23 : o_24 0 = 0 := w_23
      refine lv_iinc (v := 2) (lv' := [(2, .int 2), (0, .ref h), (1, .ref o)]) hx hb dX5_bisimulate_24 hl (k := 0) rfl (by decide) (by decide) rfl (fun ls hl => ?_)
      refine lv_goto (tgt := 10) hx hb dX5_bisimulate_27 (by decide) ?_
      refine lv_iload_n hx hb dX5_bisimulate_10 rfl (lv_at hl 0 rfl) ?_
      refine lv_iconst (v := 4) hx hb dX5_bisimulate_11 (by decide) ?_
      refine lv_icmp_ge (tgt := 30) hx hb dX5_bisimulate_12 (by decide) (fun c_26 => ?_) (fun c_26 => ?_)
      · exact absurd c_26 (by decide)
      · refine lv_aload_n hx hb dX5_bisimulate_15 rfl (lv_at hl 1 rfl) ?_
        refine lv_aload_n hx hb dX5_bisimulate_16 rfl (lv_at hl 2 rfl) ?_
        refine lv_iload_n hx hb dX5_bisimulate_17 rfl (lv_at hl 0 rfl) ?_
        refine kc_Vi (As := [.int 2]) (rest := [.ref h]) (wr := [(d, .inl (kd, 6, .inl x)), (ov, .inl (kv, 18, .inl fv)), (h, .inr (5, [.ref a, .ref b, .ref d, .int 1, .int 1])), (a, .inl (ka, 6, .inl o_24)), (b, .inl (kb, 6, .inl o_25))]) ⟨hx, hb, hml, hown, hts⟩ (ct_X3_truths l D o ot ov kt ft 1 2 _ ) (cwV 1 hts (kg_V (mo_X5_bisimulate1 8 rfl) (mo_X5_bisimulate1 9 rfl) (mo_X5_bisimulate1 10 rfl) (mo_X5_bisimulate1 3 rfl) (goodIn_sub mb_X5_bisimulate1_2 gw_X3_truths)) rfl rfl rfl ⟨rfl, hd_X3_truths⟩ ⟨Nat.le_of_ble_eq_true rfl, Nat.le_of_ble_eq_true rfl⟩) (RX3, TX3, 3) 3 2 rfl rfl rfl hK hN hP hD hS hA [2, 3] [0, 1, 4, 5, 6] [3] rfl rfl (by decide) (by decide) (by decide) rfl rfl hl.1 rfl (Nat.le_of_ble_eq_true rfl) dX5_bisimulate_18 ⟨Nat.le_of_ble_eq_true rfl, Nat.le_of_ble_eq_true rfl⟩ (fun r_27 u_28 H locs w_29 hP hD hK1 hS => ?_)
        have hP : va_P D vwCl [(d, .inl (kd, 6, .inl x)), (ov, .inl (kv, 18, .inl fv)), (h, .inr (5, [.ref a, .ref b, .ref d, .int 1, .int 1])), (a, .inl (ka, 6, .inl o_24)), (b, .inl (kb, 6, .inl o_25)), (o, .inr (3, [.ref ot, .ref ov, .int 1])), (ot, .inl (kt, 4, .inl ft))] H := hP
        have hD : va_D A [(d, .inl (kd, 6, .inl x)), (ov, .inl (kv, 18, .inl fv)), (h, .inr (5, [.ref a, .ref b, .ref d, .int 1, .int 1])), (a, .inl (ka, 6, .inl o_24)), (b, .inl (kb, 6, .inl o_25)), (o, .inr (3, [.ref ot, .ref ov, .int 1])), (ot, .inl (kt, 4, .inl ft))] := hD
        have w_29 : r_27 = at_v ft 4 2 := w_29
        refine kc_Vv (As := [.int r_27]) (rest := []) (wr := [(d, .inl (kd, 6, .inl x)), (ov, .inl (kv, 18, .inl fv)), (o, .inr (3, [.ref ot, .ref ov, .int 1])), (ot, .inl (kt, 4, .inl ft))]) ⟨hx, hb, hml, hown, hts⟩ (ct_X5_split1 l D h a b d ka kb o_24 o_25 1 r_27 _ ) (cwV 1 hts (kg_V (mo_X5_bisimulate1 11 rfl) (mo_X5_bisimulate1 12 rfl) (mo_X5_bisimulate1 13 rfl) (mo_X5_bisimulate1 7 rfl) (goodIn_sub mb_X5_bisimulate1_3 gw_X5_split1)) rfl rfl rfl ⟨rfl, hd_X5_split⟩ ⟨Nat.le_of_ble_eq_true rfl, Nat.le_of_ble_eq_true rfl⟩) (RX5, TX5, 5) 5 2 rfl rfl rfl hK hN hP hD hS hA [2, 3, 4] [0, 1, 5, 6] [0, 1] rfl rfl (by decide) (by decide) (by decide) rfl rfl hl.1 rfl (Nat.le_of_ble_eq_true rfl) dX5_bisimulate_21 ⟨Nat.le_of_ble_eq_true rfl, Nat.le_of_ble_eq_true rfl⟩ (fun u_31 H locs w_32 hP hD hK1 hS => ?_)
        obtain ⟨o_33, o_34⟩ := u_31
        have hP : va_P D vwCl [(d, .inl (kd, 6, .inl x)), (ov, .inl (kv, 18, .inl fv)), (o, .inr (3, [.ref ot, .ref ov, .int 1])), (ot, .inl (kt, 4, .inl ft)), (h, .inr (5, [.ref a, .ref b, .ref d, .int 1, .int 1])), (a, .inl (ka, 6, .inl o_33)), (b, .inl (kb, 6, .inl o_34))] H := hP
        have hD : va_D A [(d, .inl (kd, 6, .inl x)), (ov, .inl (kv, 18, .inl fv)), (o, .inr (3, [.ref ot, .ref ov, .int 1])), (ot, .inl (kt, 4, .inl ft)), (h, .inr (5, [.ref a, .ref b, .ref d, .int 1, .int 1])), (a, .inl (ka, 6, .inl o_33)), (b, .inl (kb, 6, .inl o_34))] := hD
        have w_32 : o_33 0 = 0 := w_32
        refine lv_iinc (v := 3) (lv' := [(2, .int 3), (0, .ref h), (1, .ref o)]) hx hb dX5_bisimulate_24 hl (k := 0) rfl (by decide) (by decide) rfl (fun ls hl => ?_)
        refine lv_goto (tgt := 10) hx hb dX5_bisimulate_27 (by decide) ?_
        refine lv_iload_n hx hb dX5_bisimulate_10 rfl (lv_at hl 0 rfl) ?_
        refine lv_iconst (v := 4) hx hb dX5_bisimulate_11 (by decide) ?_
        refine lv_icmp_ge (tgt := 30) hx hb dX5_bisimulate_12 (by decide) (fun c_35 => ?_) (fun c_35 => ?_)
        · exact absurd c_35 (by decide)
        · refine lv_aload_n hx hb dX5_bisimulate_15 rfl (lv_at hl 1 rfl) ?_
          refine lv_aload_n hx hb dX5_bisimulate_16 rfl (lv_at hl 2 rfl) ?_
          refine lv_iload_n hx hb dX5_bisimulate_17 rfl (lv_at hl 0 rfl) ?_
          refine kc_Vi (As := [.int 3]) (rest := [.ref h]) (wr := [(d, .inl (kd, 6, .inl x)), (ov, .inl (kv, 18, .inl fv)), (h, .inr (5, [.ref a, .ref b, .ref d, .int 1, .int 1])), (a, .inl (ka, 6, .inl o_33)), (b, .inl (kb, 6, .inl o_34))]) ⟨hx, hb, hml, hown, hts⟩ (ct_X3_truths l D o ot ov kt ft 1 3 _ ) (cwV 1 hts (kg_V (mo_X5_bisimulate1 8 rfl) (mo_X5_bisimulate1 9 rfl) (mo_X5_bisimulate1 10 rfl) (mo_X5_bisimulate1 3 rfl) (goodIn_sub mb_X5_bisimulate1_2 gw_X3_truths)) rfl rfl rfl ⟨rfl, hd_X3_truths⟩ ⟨Nat.le_of_ble_eq_true rfl, Nat.le_of_ble_eq_true rfl⟩) (RX3, TX3, 3) 3 2 rfl rfl rfl hK hN hP hD hS hA [2, 3] [0, 1, 4, 5, 6] [3] rfl rfl (by decide) (by decide) (by decide) rfl rfl hl.1 rfl (Nat.le_of_ble_eq_true rfl) dX5_bisimulate_18 ⟨Nat.le_of_ble_eq_true rfl, Nat.le_of_ble_eq_true rfl⟩ (fun r_36 u_37 H locs w_38 hP hD hK1 hS => ?_)
          have hP : va_P D vwCl [(d, .inl (kd, 6, .inl x)), (ov, .inl (kv, 18, .inl fv)), (h, .inr (5, [.ref a, .ref b, .ref d, .int 1, .int 1])), (a, .inl (ka, 6, .inl o_33)), (b, .inl (kb, 6, .inl o_34)), (o, .inr (3, [.ref ot, .ref ov, .int 1])), (ot, .inl (kt, 4, .inl ft))] H := hP
          have hD : va_D A [(d, .inl (kd, 6, .inl x)), (ov, .inl (kv, 18, .inl fv)), (h, .inr (5, [.ref a, .ref b, .ref d, .int 1, .int 1])), (a, .inl (ka, 6, .inl o_33)), (b, .inl (kb, 6, .inl o_34)), (o, .inr (3, [.ref ot, .ref ov, .int 1])), (ot, .inl (kt, 4, .inl ft))] := hD
          have w_38 : r_36 = at_v ft 4 3 := w_38
          refine kc_Vv (As := [.int r_36]) (rest := []) (wr := [(d, .inl (kd, 6, .inl x)), (ov, .inl (kv, 18, .inl fv)), (o, .inr (3, [.ref ot, .ref ov, .int 1])), (ot, .inl (kt, 4, .inl ft))]) ⟨hx, hb, hml, hown, hts⟩ (ct_X5_split1 l D h a b d ka kb o_33 o_34 1 r_36 _ ) (cwV 1 hts (kg_V (mo_X5_bisimulate1 11 rfl) (mo_X5_bisimulate1 12 rfl) (mo_X5_bisimulate1 13 rfl) (mo_X5_bisimulate1 7 rfl) (goodIn_sub mb_X5_bisimulate1_3 gw_X5_split1)) rfl rfl rfl ⟨rfl, hd_X5_split⟩ ⟨Nat.le_of_ble_eq_true rfl, Nat.le_of_ble_eq_true rfl⟩) (RX5, TX5, 5) 5 2 rfl rfl rfl hK hN hP hD hS hA [2, 3, 4] [0, 1, 5, 6] [0, 1] rfl rfl (by decide) (by decide) (by decide) rfl rfl hl.1 rfl (Nat.le_of_ble_eq_true rfl) dX5_bisimulate_21 ⟨Nat.le_of_ble_eq_true rfl, Nat.le_of_ble_eq_true rfl⟩ (fun u_40 H locs w_41 hP hD hK1 hS => ?_)
          obtain ⟨o_42, o_43⟩ := u_40
          have hP : va_P D vwCl [(d, .inl (kd, 6, .inl x)), (ov, .inl (kv, 18, .inl fv)), (o, .inr (3, [.ref ot, .ref ov, .int 1])), (ot, .inl (kt, 4, .inl ft)), (h, .inr (5, [.ref a, .ref b, .ref d, .int 1, .int 1])), (a, .inl (ka, 6, .inl o_42)), (b, .inl (kb, 6, .inl o_43))] H := hP
          have hD : va_D A [(d, .inl (kd, 6, .inl x)), (ov, .inl (kv, 18, .inl fv)), (o, .inr (3, [.ref ot, .ref ov, .int 1])), (ot, .inl (kt, 4, .inl ft)), (h, .inr (5, [.ref a, .ref b, .ref d, .int 1, .int 1])), (a, .inl (ka, 6, .inl o_42)), (b, .inl (kb, 6, .inl o_43))] := hD
          have w_41 : o_42 0 = 0 := w_41
          refine lv_iinc (v := 4) (lv' := [(2, .int 4), (0, .ref h), (1, .ref o)]) hx hb dX5_bisimulate_24 hl (k := 0) rfl (by decide) (by decide) rfl (fun ls hl => ?_)
          refine lv_goto (tgt := 10) hx hb dX5_bisimulate_27 (by decide) ?_
          refine lv_iload_n hx hb dX5_bisimulate_10 rfl (lv_at hl 0 rfl) ?_
          refine lv_iconst (v := 4) hx hb dX5_bisimulate_11 (by decide) ?_
          refine lv_icmp_ge (tgt := 30) hx hb dX5_bisimulate_12 (by decide) (fun c_44 => ?_) (fun c_44 => ?_)
          · refine lv_iconst (v := 0) hx hb dX5_bisimulate_30 (by decide) ?_
            refine lv_istore_n (lv' := [(2, .int 0), (0, .ref h), (1, .ref o)]) hx hb dX5_bisimulate_31 rfl hl (by decide) rfl (fun ls hl => ?_)
            refine lv_iconst (v := 0) hx hb dX5_bisimulate_32 (by decide) ?_
            refine lv_istore_n (lv' := [(3, .int 0), (2, .int 0), (0, .ref h), (1, .ref o)]) hx hb dX5_bisimulate_33 rfl hl (by decide) rfl (fun ls hl => ?_)
            refine lv_iload_n hx hb dX5_bisimulate_34 rfl (lv_at hl 0 rfl) ?_
            refine lv_bipush (v := 6) hx hb dX5_bisimulate_35 (by decide) ?_
            refine lv_icmp_ge (tgt := 64) hx hb dX5_bisimulate_37 (by decide) (fun c_45 => ?_) (fun c_45 => ?_)
            · exact absurd c_45 (by decide)
            · refine lv_aload_n hx hb dX5_bisimulate_40 rfl (lv_at hl 2 rfl) ?_
              refine va_get (D := D) (ci := 5) (v := .int 1) (C := RX5) (T := TX5) (N := 5) hx hb hts hiX5 hown hK hP 4 rfl rfl 4 (by decide) (hts (.fieldLink RX5 25 "DynamicLogicProver$Partition" "number" "I") (mo_X5_bisimulate1 14 rfl)) (fun _ h9 => h9) rfl dX5_bisimulate_41 ?_
              refine lv_iload_n hx hb dX5_bisimulate_44 rfl (lv_at hl 1 rfl) ?_
              refine lv_icmp_eq (tgt := 64) hx hb dX5_bisimulate_45 (by decide) (fun c_46 => ?_) (fun c_46 => ?_)
              · exact absurd c_46 (by decide)
              · refine lv_aload_n hx hb dX5_bisimulate_48 rfl (lv_at hl 2 rfl) ?_
                refine va_get (D := D) (ci := 5) (v := .int 1) (C := RX5) (T := TX5) (N := 5) hx hb hts hiX5 hown hK hP 4 rfl rfl 4 (by decide) (hts (.fieldLink RX5 25 "DynamicLogicProver$Partition" "number" "I") (mo_X5_bisimulate1 14 rfl)) (fun _ h9 => h9) rfl dX5_bisimulate_49 ?_
                refine lv_istore_n (lv' := [(2, .int 1), (3, .int 0), (0, .ref h), (1, .ref o)]) hx hb dX5_bisimulate_52 rfl hl (by decide) rfl (fun ls hl => ?_)
                refine lv_aload_n hx hb dX5_bisimulate_53 rfl (lv_at hl 2 rfl) ?_
                refine lv_aload_n hx hb dX5_bisimulate_54 rfl (lv_at hl 3 rfl) ?_
                refine kc_Vv (As := [.ref o]) (rest := []) (wr := [(ot, .inl (kt, 4, .inl ft))]) ⟨hx, hb, hml, hown, hts⟩ (ct_X5_refine1 l D h a b d ka kb kd o_42 o_43 x o ot ov kv fv _ ) (cwV 1 hts (kg_V (mo_X5_bisimulate1 15 rfl) (mo_X5_bisimulate1 16 rfl) (mo_X5_bisimulate1 17 rfl) (mo_X5_bisimulate1 7 rfl) (goodIn_sub mb_X5_bisimulate1_4 gw_X5_refine1)) rfl rfl rfl ⟨rfl, hd_X5_refine⟩ ⟨Nat.le_of_ble_eq_true rfl, Nat.le_of_ble_eq_true rfl⟩) (RX5, TX5, 5) 5 4 rfl rfl rfl hK hN hP hD hS hA [4, 5, 6, 0, 2, 1] [3] [0, 1, 2, 4] rfl rfl (by decide) (by decide) (by decide) rfl rfl hl.1 rfl (Nat.le_of_ble_eq_true rfl) dX5_bisimulate_55 ⟨Nat.le_of_ble_eq_true rfl, Nat.le_of_ble_eq_true rfl⟩ (fun u_48 H locs w_49 hP hD hK1 hS => ?_)
                obtain ⟨o_50, o_51, o_52⟩ := u_48
                have hP : va_P D vwCl [(ot, .inl (kt, 4, .inl ft)), (h, .inr (5, [.ref a, .ref b, .ref d, .int 1, .int 1])), (a, .inl (ka, 6, .inl o_50)), (b, .inl (kb, 6, .inl o_51)), (d, .inl (kd, 6, .inl o_52)), (o, .inr (3, [.ref ot, .ref ov, .int 1])), (ov, .inl (kv, 18, .inl fv))] H := hP
                have hD : va_D A [(ot, .inl (kt, 4, .inl ft)), (h, .inr (5, [.ref a, .ref b, .ref d, .int 1, .int 1])), (a, .inl (ka, 6, .inl o_50)), (b, .inl (kb, 6, .inl o_51)), (d, .inl (kd, 6, .inl o_52)), (o, .inr (3, [.ref ot, .ref ov, .int 1])), (ov, .inl (kv, 18, .inl fv))] := hD
                have w_49 : o_50 0 = 0 := w_49
                refine lv_iinc (v := 1) (lv' := [(3, .int 1), (2, .int 1), (0, .ref h), (1, .ref o)]) hx hb dX5_bisimulate_58 hl (k := 1) rfl (by decide) (by decide) rfl (fun ls hl => ?_)
                refine lv_goto (tgt := 34) hx hb dX5_bisimulate_61 (by decide) ?_
                refine lv_iload_n hx hb dX5_bisimulate_34 rfl (lv_at hl 0 rfl) ?_
                refine lv_bipush (v := 6) hx hb dX5_bisimulate_35 (by decide) ?_
                refine lv_icmp_ge (tgt := 64) hx hb dX5_bisimulate_37 (by decide) (fun c_53 => ?_) (fun c_53 => ?_)
                · exact absurd c_53 (by decide)
                · refine lv_aload_n hx hb dX5_bisimulate_40 rfl (lv_at hl 2 rfl) ?_
                  refine va_get (D := D) (ci := 5) (v := .int 1) (C := RX5) (T := TX5) (N := 5) hx hb hts hiX5 hown hK hP 1 rfl rfl 4 (by decide) (hts (.fieldLink RX5 25 "DynamicLogicProver$Partition" "number" "I") (mo_X5_bisimulate1 14 rfl)) (fun _ h9 => h9) rfl dX5_bisimulate_41 ?_
                  refine lv_iload_n hx hb dX5_bisimulate_44 rfl (lv_at hl 1 rfl) ?_
                  refine lv_icmp_eq (tgt := 64) hx hb dX5_bisimulate_45 (by decide) (fun c_54 => ?_) (fun c_54 => ?_)
                  · have hP9 := hP.sub (ws' := [(h, .inr (5, [.ref a, .ref b, .ref d, .int 1, .int 1])), (a, .inl (ka, 6, .inl o_50)), (b, .inl (kb, 6, .inl o_51)), (d, .inl (kd, 6, .inl o_52)), (o, .inr (3, [.ref ot, .ref ov, .int 1])), (ot, .inl (kt, 4, .inl ft)), (ov, .inl (kv, 18, .inl fv))]) [1, 2, 3, 4, 5, 0, 6] rfl
                    have hD9 := hD.sub (ws' := [(h, .inr (5, [.ref a, .ref b, .ref d, .int 1, .int 1])), (a, .inl (ka, 6, .inl o_50)), (b, .inl (kb, 6, .inl o_51)), (d, .inl (kd, 6, .inl o_52)), (o, .inr (3, [.ref ot, .ref ov, .int 1])), (ot, .inl (kt, 4, .inl ft)), (ov, .inl (kv, 18, .inl fv))]) [1, 2, 3, 4, 5, 0, 6] (by decide) rfl
                    have hK9 := hK.sub (tys' := []) [] rfl
                    exact W.vret hx hb hr (fun tZ htZ hW => ⟨⟨(o_50, o_51, o_52), rfl, w_49, by rw [htZ]; exact hP9, va_K.moved hW.alike hK9, hD9⟩, hS.F htZ⟩) hS.2.2 dX5_bisimulate_64
                  · exact absurd c_54 (by decide)
          · exact absurd c_44 (by decide)
end

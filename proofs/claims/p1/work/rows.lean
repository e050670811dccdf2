section
-- ===== PART A: goes FIRST, ahead of the names: the tables' words, and 'selects' of the private methods out of them =====
/-- a private method of a class that the tables say can be made, by its rows of tables_1 -/
def lw_okq (q : MethodName × Nat) : Prop := (q.1.cls ≠ "java/lang/invoke/MethodHandle" ∧ q.1.cls ≠ "java/lang/invoke/VarHandle") ∧ Cond.instantiable q.1.cls q.2 ∈ tables_1 ∧ Cond.privateMethod q.1 ∈ tables_1 ∧ Cond.instanceMethod q.1 ∈ tables_1
theorem lw_p0 : lw_okq (⟨"java/lang/Throwable", "fillInStackTrace", "(I)Ljava/lang/Throwable;"⟩, 6) := ⟨⟨by decide +kernel, by decide +kernel⟩, List.mem_of_getElem? (i := 358) (by decide +kernel), List.mem_of_getElem? (i := 356) (by decide +kernel), List.mem_of_getElem? (i := 357) (by decide +kernel)⟩
theorem lw_p1 : lw_okq (⟨"VisitGrammar", "dropAnalysis", "()V"⟩, 4) := ⟨⟨by decide +kernel, by decide +kernel⟩, List.mem_of_getElem? (i := 22) (by decide +kernel), List.mem_of_getElem? (i := 404) (by decide +kernel), List.mem_of_getElem? (i := 405) (by decide +kernel)⟩
theorem lw_p2 : lw_okq (⟨"VisitGrammar$Grammar", "place", "(III)V"⟩, 13) := ⟨⟨by decide +kernel, by decide +kernel⟩, List.mem_of_getElem? (i := 30) (by decide +kernel), List.mem_of_getElem? (i := 438) (by decide +kernel), List.mem_of_getElem? (i := 439) (by decide +kernel)⟩
theorem lw_p3 : lw_okq (⟨"VisitGrammar$Analysis", "forgetFault", "()V"⟩, 8) := ⟨⟨by decide +kernel, by decide +kernel⟩, List.mem_of_getElem? (i := 95) (by decide +kernel), List.mem_of_getElem? (i := 509) (by decide +kernel), List.mem_of_getElem? (i := 510) (by decide +kernel)⟩
theorem lw_p4 : lw_okq (⟨"VisitGrammar$Analysis", "isComplete", "()Z"⟩, 8) := ⟨⟨by decide +kernel, by decide +kernel⟩, List.mem_of_getElem? (i := 95) (by decide +kernel), List.mem_of_getElem? (i := 513) (by decide +kernel), List.mem_of_getElem? (i := 514) (by decide +kernel)⟩
theorem lw_p5 : lw_okq (⟨"VisitGrammar$Analysis", "noteFault", "(III)V"⟩, 8) := ⟨⟨by decide +kernel, by decide +kernel⟩, List.mem_of_getElem? (i := 95) (by decide +kernel), List.mem_of_getElem? (i := 530) (by decide +kernel), List.mem_of_getElem? (i := 531) (by decide +kernel)⟩
theorem lw_p6 : lw_okq (⟨"VisitGrammar$Analysis", "isWithoutCircle", "()Z"⟩, 8) := ⟨⟨by decide +kernel, by decide +kernel⟩, List.mem_of_getElem? (i := 95) (by decide +kernel), List.mem_of_getElem? (i := 534) (by decide +kernel), List.mem_of_getElem? (i := 535) (by decide +kernel)⟩
theorem lw_p7 : lw_okq (⟨"VisitGrammar$Leads", "takeRules", "()V"⟩, 3) := ⟨⟨by decide +kernel, by decide +kernel⟩, List.mem_of_getElem? (i := 101) (by decide +kernel), List.mem_of_getElem? (i := 545) (by decide +kernel), List.mem_of_getElem? (i := 546) (by decide +kernel)⟩
theorem lw_p8 : lw_okq (⟨"VisitGrammar$Leads", "takeRule", "(III)V"⟩, 3) := ⟨⟨by decide +kernel, by decide +kernel⟩, List.mem_of_getElem? (i := 101) (by decide +kernel), List.mem_of_getElem? (i := 549) (by decide +kernel), List.mem_of_getElem? (i := 550) (by decide +kernel)⟩
theorem lw_p9 : lw_okq (⟨"VisitGrammar$Leads", "takeFromSymbols", "(I)V"⟩, 3) := ⟨⟨by decide +kernel, by decide +kernel⟩, List.mem_of_getElem? (i := 101) (by decide +kernel), List.mem_of_getElem? (i := 554) (by decide +kernel), List.mem_of_getElem? (i := 555) (by decide +kernel)⟩
theorem lw_p10 : lw_okq (⟨"VisitGrammar$Leads", "close", "(I)V"⟩, 3) := ⟨⟨by decide +kernel, by decide +kernel⟩, List.mem_of_getElem? (i := 101) (by decide +kernel), List.mem_of_getElem? (i := 562) (by decide +kernel), List.mem_of_getElem? (i := 563) (by decide +kernel)⟩
theorem lw_p11 : lw_okq (⟨"VisitGrammar$Leads", "giveToSymbols", "(I)Z"⟩, 3) := ⟨⟨by decide +kernel, by decide +kernel⟩, List.mem_of_getElem? (i := 101) (by decide +kernel), List.mem_of_getElem? (i := 566) (by decide +kernel), List.mem_of_getElem? (i := 567) (by decide +kernel)⟩
theorem lw_p12 : lw_okq (⟨"VisitGrammar$Analysis", "noneLeadsToItself", "(I)Z"⟩, 8) := ⟨⟨by decide +kernel, by decide +kernel⟩, List.mem_of_getElem? (i := 95) (by decide +kernel), List.mem_of_getElem? (i := 576) (by decide +kernel), List.mem_of_getElem? (i := 577) (by decide +kernel)⟩
theorem lw_p13 : lw_okq (⟨"VisitGrammar$Analysis", "isOrdered", "()Z"⟩, 8) := ⟨⟨by decide +kernel, by decide +kernel⟩, List.mem_of_getElem? (i := 95) (by decide +kernel), List.mem_of_getElem? (i := 584) (by decide +kernel), List.mem_of_getElem? (i := 585) (by decide +kernel)⟩
theorem lw_p14 : lw_okq (⟨"VisitGrammar$Ranking", "rankAttributes", "(I)V"⟩, 5) := ⟨⟨by decide +kernel, by decide +kernel⟩, List.mem_of_getElem? (i := 118) (by decide +kernel), List.mem_of_getElem? (i := 593) (by decide +kernel), List.mem_of_getElem? (i := 594) (by decide +kernel)⟩
theorem lw_p15 : lw_okq (⟨"VisitGrammar$Ranking", "leastRank", "(II)I"⟩, 5) := ⟨⟨by decide +kernel, by decide +kernel⟩, List.mem_of_getElem? (i := 118) (by decide +kernel), List.mem_of_getElem? (i := 597) (by decide +kernel), List.mem_of_getElem? (i := 598) (by decide +kernel)⟩
def lw_privs_1 : List (MethodName × Nat) := [(⟨"java/lang/Throwable", "fillInStackTrace", "(I)Ljava/lang/Throwable;"⟩, 6), (⟨"VisitGrammar", "dropAnalysis", "()V"⟩, 4), (⟨"VisitGrammar$Grammar", "place", "(III)V"⟩, 13), (⟨"VisitGrammar$Analysis", "forgetFault", "()V"⟩, 8), (⟨"VisitGrammar$Analysis", "isComplete", "()Z"⟩, 8), (⟨"VisitGrammar$Analysis", "noteFault", "(III)V"⟩, 8), (⟨"VisitGrammar$Analysis", "isWithoutCircle", "()Z"⟩, 8), (⟨"VisitGrammar$Leads", "takeRules", "()V"⟩, 3), (⟨"VisitGrammar$Leads", "takeRule", "(III)V"⟩, 3), (⟨"VisitGrammar$Leads", "takeFromSymbols", "(I)V"⟩, 3), (⟨"VisitGrammar$Leads", "close", "(I)V"⟩, 3), (⟨"VisitGrammar$Leads", "giveToSymbols", "(I)Z"⟩, 3), (⟨"VisitGrammar$Analysis", "noneLeadsToItself", "(I)Z"⟩, 8), (⟨"VisitGrammar$Analysis", "isOrdered", "()Z"⟩, 8), (⟨"VisitGrammar$Ranking", "rankAttributes", "(I)V"⟩, 5), (⟨"VisitGrammar$Ranking", "leastRank", "(II)I"⟩, 5)]
theorem lw_r1 : ∀ q ∈ lw_privs_1, lw_okq q := List.forall_mem_cons.mpr ⟨lw_p0, List.forall_mem_cons.mpr ⟨lw_p1, List.forall_mem_cons.mpr ⟨lw_p2, List.forall_mem_cons.mpr ⟨lw_p3, List.forall_mem_cons.mpr ⟨lw_p4, List.forall_mem_cons.mpr ⟨lw_p5, List.forall_mem_cons.mpr ⟨lw_p6, List.forall_mem_cons.mpr ⟨lw_p7, List.forall_mem_cons.mpr ⟨lw_p8, List.forall_mem_cons.mpr ⟨lw_p9, List.forall_mem_cons.mpr ⟨lw_p10, List.forall_mem_cons.mpr ⟨lw_p11, List.forall_mem_cons.mpr ⟨lw_p12, List.forall_mem_cons.mpr ⟨lw_p13, List.forall_mem_cons.mpr ⟨lw_p14, List.forall_mem_cons.mpr ⟨lw_p15, fun _ h => absurd h List.not_mem_nil⟩⟩⟩⟩⟩⟩⟩⟩⟩⟩⟩⟩⟩⟩⟩⟩
theorem lw_p16 : lw_okq (⟨"VisitGrammar$Ranking", "rankAboveLed", "(II)I"⟩, 5) := ⟨⟨by decide +kernel, by decide +kernel⟩, List.mem_of_getElem? (i := 118) (by decide +kernel), List.mem_of_getElem? (i := 602) (by decide +kernel), List.mem_of_getElem? (i := 603) (by decide +kernel)⟩
theorem lw_p17 : lw_okq (⟨"VisitGrammar$Ranking", "countVisits", "(I)V"⟩, 5) := ⟨⟨by decide +kernel, by decide +kernel⟩, List.mem_of_getElem? (i := 118) (by decide +kernel), List.mem_of_getElem? (i := 609) (by decide +kernel), List.mem_of_getElem? (i := 610) (by decide +kernel)⟩
theorem lw_p18 : lw_okq (⟨"VisitGrammar$Ranking", "shareOut", "(I)V"⟩, 5) := ⟨⟨by decide +kernel, by decide +kernel⟩, List.mem_of_getElem? (i := 118) (by decide +kernel), List.mem_of_getElem? (i := 613) (by decide +kernel), List.mem_of_getElem? (i := 614) (by decide +kernel)⟩
theorem lw_p19 : lw_okq (⟨"VisitGrammar$Ranking", "ofLessRank", "(II)I"⟩, 5) := ⟨⟨by decide +kernel, by decide +kernel⟩, List.mem_of_getElem? (i := 118) (by decide +kernel), List.mem_of_getElem? (i := 621) (by decide +kernel), List.mem_of_getElem? (i := 622) (by decide +kernel)⟩
theorem lw_p20 : lw_okq (⟨"VisitGrammar$Sequences", "beginWriting", "(I)V"⟩, 7) := ⟨⟨by decide +kernel, by decide +kernel⟩, List.mem_of_getElem? (i := 143) (by decide +kernel), List.mem_of_getElem? (i := 633) (by decide +kernel), List.mem_of_getElem? (i := 634) (by decide +kernel)⟩
theorem lw_p21 : lw_okq (⟨"VisitGrammar$Sequences", "fullLength", "(I)I"⟩, 7) := ⟨⟨by decide +kernel, by decide +kernel⟩, List.mem_of_getElem? (i := 143) (by decide +kernel), List.mem_of_getElem? (i := 643) (by decide +kernel), List.mem_of_getElem? (i := 644) (by decide +kernel)⟩
theorem lw_p22 : lw_okq (⟨"VisitGrammar$Sequences", "visitsAt", "(II)I"⟩, 7) := ⟨⟨by decide +kernel, by decide +kernel⟩, List.mem_of_getElem? (i := 143) (by decide +kernel), List.mem_of_getElem? (i := 648) (by decide +kernel), List.mem_of_getElem? (i := 649) (by decide +kernel)⟩
theorem lw_p23 : lw_okq (⟨"VisitGrammar$Sequences", "writeNext", "(IZ)I"⟩, 7) := ⟨⟨by decide +kernel, by decide +kernel⟩, List.mem_of_getElem? (i := 143) (by decide +kernel), List.mem_of_getElem? (i := 652) (by decide +kernel), List.mem_of_getElem? (i := 653) (by decide +kernel)⟩
theorem lw_p24 : lw_okq (⟨"VisitGrammar$Sequences", "readySet", "(I)I"⟩, 7) := ⟨⟨by decide +kernel, by decide +kernel⟩, List.mem_of_getElem? (i := 143) (by decide +kernel), List.mem_of_getElem? (i := 656) (by decide +kernel), List.mem_of_getElem? (i := 657) (by decide +kernel)⟩
theorem lw_p25 : lw_okq (⟨"VisitGrammar$Sequences", "writeSet", "(I)I"⟩, 7) := ⟨⟨by decide +kernel, by decide +kernel⟩, List.mem_of_getElem? (i := 143) (by decide +kernel), List.mem_of_getElem? (i := 662) (by decide +kernel), List.mem_of_getElem? (i := 663) (by decide +kernel)⟩
theorem lw_p26 : lw_okq (⟨"VisitGrammar$Sequences", "readyVisit", "(I)I"⟩, 7) := ⟨⟨by decide +kernel, by decide +kernel⟩, List.mem_of_getElem? (i := 143) (by decide +kernel), List.mem_of_getElem? (i := 666) (by decide +kernel), List.mem_of_getElem? (i := 667) (by decide +kernel)⟩
theorem lw_p27 : lw_okq (⟨"VisitGrammar$Sequences", "writeVisit", "(II)I"⟩, 7) := ⟨⟨by decide +kernel, by decide +kernel⟩, List.mem_of_getElem? (i := 143) (by decide +kernel), List.mem_of_getElem? (i := 670) (by decide +kernel), List.mem_of_getElem? (i := 671) (by decide +kernel)⟩
theorem lw_p28 : lw_okq (⟨"VisitGrammar$Sequences", "isLeaveReady", "(IZ)Z"⟩, 7) := ⟨⟨by decide +kernel, by decide +kernel⟩, List.mem_of_getElem? (i := 143) (by decide +kernel), List.mem_of_getElem? (i := 678) (by decide +kernel), List.mem_of_getElem? (i := 679) (by decide +kernel)⟩
theorem lw_p29 : lw_okq (⟨"VisitGrammar$Sequences", "writeLeave", "(I)I"⟩, 7) := ⟨⟨by decide +kernel, by decide +kernel⟩, List.mem_of_getElem? (i := 143) (by decide +kernel), List.mem_of_getElem? (i := 682) (by decide +kernel), List.mem_of_getElem? (i := 683) (by decide +kernel)⟩
theorem lw_p30 : lw_okq (⟨"VisitGrammar", "requireAnalysis", "()V"⟩, 4) := ⟨⟨by decide +kernel, by decide +kernel⟩, List.mem_of_getElem? (i := 22) (by decide +kernel), List.mem_of_getElem? (i := 714) (by decide +kernel), List.mem_of_getElem? (i := 715) (by decide +kernel)⟩
theorem lw_p31 : lw_okq (⟨"VisitGrammar$Tree", "canBeChild", "(III)Z"⟩, 6) := ⟨⟨by decide +kernel, by decide +kernel⟩, List.mem_of_getElem? (i := 203) (by decide +kernel), List.mem_of_getElem? (i := 755) (by decide +kernel), List.mem_of_getElem? (i := 756) (by decide +kernel)⟩
def lw_privs_2 : List (MethodName × Nat) := [(⟨"VisitGrammar$Ranking", "rankAboveLed", "(II)I"⟩, 5), (⟨"VisitGrammar$Ranking", "countVisits", "(I)V"⟩, 5), (⟨"VisitGrammar$Ranking", "shareOut", "(I)V"⟩, 5), (⟨"VisitGrammar$Ranking", "ofLessRank", "(II)I"⟩, 5), (⟨"VisitGrammar$Sequences", "beginWriting", "(I)V"⟩, 7), (⟨"VisitGrammar$Sequences", "fullLength", "(I)I"⟩, 7), (⟨"VisitGrammar$Sequences", "visitsAt", "(II)I"⟩, 7), (⟨"VisitGrammar$Sequences", "writeNext", "(IZ)I"⟩, 7), (⟨"VisitGrammar$Sequences", "readySet", "(I)I"⟩, 7), (⟨"VisitGrammar$Sequences", "writeSet", "(I)I"⟩, 7), (⟨"VisitGrammar$Sequences", "readyVisit", "(I)I"⟩, 7), (⟨"VisitGrammar$Sequences", "writeVisit", "(II)I"⟩, 7), (⟨"VisitGrammar$Sequences", "isLeaveReady", "(IZ)Z"⟩, 7), (⟨"VisitGrammar$Sequences", "writeLeave", "(I)I"⟩, 7), (⟨"VisitGrammar", "requireAnalysis", "()V"⟩, 4), (⟨"VisitGrammar$Tree", "canBeChild", "(III)Z"⟩, 6)]
theorem lw_r2 : ∀ q ∈ lw_privs_2, lw_okq q := List.forall_mem_cons.mpr ⟨lw_p16, List.forall_mem_cons.mpr ⟨lw_p17, List.forall_mem_cons.mpr ⟨lw_p18, List.forall_mem_cons.mpr ⟨lw_p19, List.forall_mem_cons.mpr ⟨lw_p20, List.forall_mem_cons.mpr ⟨lw_p21, List.forall_mem_cons.mpr ⟨lw_p22, List.forall_mem_cons.mpr ⟨lw_p23, List.forall_mem_cons.mpr ⟨lw_p24, List.forall_mem_cons.mpr ⟨lw_p25, List.forall_mem_cons.mpr ⟨lw_p26, List.forall_mem_cons.mpr ⟨lw_p27, List.forall_mem_cons.mpr ⟨lw_p28, List.forall_mem_cons.mpr ⟨lw_p29, List.forall_mem_cons.mpr ⟨lw_p30, List.forall_mem_cons.mpr ⟨lw_p31, fun _ h => absurd h List.not_mem_nil⟩⟩⟩⟩⟩⟩⟩⟩⟩⟩⟩⟩⟩⟩⟩⟩
theorem lw_p32 : lw_okq (⟨"VisitGrammar$Tree", "adopt", "(III)V"⟩, 6) := ⟨⟨by decide +kernel, by decide +kernel⟩, List.mem_of_getElem? (i := 203) (by decide +kernel), List.mem_of_getElem? (i := 774) (by decide +kernel), List.mem_of_getElem? (i := 775) (by decide +kernel)⟩
theorem lw_p33 : lw_okq (⟨"VisitGrammar$Walk", "step", "()V"⟩, 10) := ⟨⟨by decide +kernel, by decide +kernel⟩, List.mem_of_getElem? (i := 232) (by decide +kernel), List.mem_of_getElem? (i := 817) (by decide +kernel), List.mem_of_getElem? (i := 818) (by decide +kernel)⟩
theorem lw_p34 : lw_okq (⟨"VisitGrammar$Walk", "leaveNode", "(I)V"⟩, 10) := ⟨⟨by decide +kernel, by decide +kernel⟩, List.mem_of_getElem? (i := 232) (by decide +kernel), List.mem_of_getElem? (i := 822) (by decide +kernel), List.mem_of_getElem? (i := 823) (by decide +kernel)⟩
theorem lw_p35 : lw_okq (⟨"VisitGrammar$Walk", "result", "(I)I"⟩, 10) := ⟨⟨by decide +kernel, by decide +kernel⟩, List.mem_of_getElem? (i := 232) (by decide +kernel), List.mem_of_getElem? (i := 830) (by decide +kernel), List.mem_of_getElem? (i := 831) (by decide +kernel)⟩
theorem lw_p36 : lw_okq (⟨"VisitGrammar$Walk", "valueOf", "(I)I"⟩, 10) := ⟨⟨by decide +kernel, by decide +kernel⟩, List.mem_of_getElem? (i := 232) (by decide +kernel), List.mem_of_getElem? (i := 834) (by decide +kernel), List.mem_of_getElem? (i := 835) (by decide +kernel)⟩
theorem lw_p37 : lw_okq (⟨"VisitGrammar$Walk", "setOccurrence", "(II)V"⟩, 10) := ⟨⟨by decide +kernel, by decide +kernel⟩, List.mem_of_getElem? (i := 232) (by decide +kernel), List.mem_of_getElem? (i := 839) (by decide +kernel), List.mem_of_getElem? (i := 840) (by decide +kernel)⟩
theorem lw_p38 : lw_okq (⟨"VisitGrammar", "requireAttribute", "(II)V"⟩, 4) := ⟨⟨by decide +kernel, by decide +kernel⟩, List.mem_of_getElem? (i := 22) (by decide +kernel), List.mem_of_getElem? (i := 850) (by decide +kernel), List.mem_of_getElem? (i := 851) (by decide +kernel)⟩
theorem lw_p39 : lw_okq (⟨"VisitGrammarModel", "forget", "()V"⟩, 35) := ⟨⟨by decide +kernel, by decide +kernel⟩, List.mem_of_getElem? (i := 869) (by decide +kernel), List.mem_of_getElem? (i := 990) (by decide +kernel), List.mem_of_getElem? (i := 991) (by decide +kernel)⟩
theorem lw_p40 : lw_okq (⟨"VisitGrammarModel", "endRun", "()V"⟩, 35) := ⟨⟨by decide +kernel, by decide +kernel⟩, List.mem_of_getElem? (i := 869) (by decide +kernel), List.mem_of_getElem? (i := 994) (by decide +kernel), List.mem_of_getElem? (i := 995) (by decide +kernel)⟩
theorem lw_p41 : lw_okq (⟨"VisitGrammarModel", "isSymbol", "(I)Z"⟩, 35) := ⟨⟨by decide +kernel, by decide +kernel⟩, List.mem_of_getElem? (i := 869) (by decide +kernel), List.mem_of_getElem? (i := 1002) (by decide +kernel), List.mem_of_getElem? (i := 1003) (by decide +kernel)⟩
theorem lw_p42 : lw_okq (⟨"VisitGrammarModel", "isDefined", "(II)Z"⟩, 35) := ⟨⟨by decide +kernel, by decide +kernel⟩, List.mem_of_getElem? (i := 869) (by decide +kernel), List.mem_of_getElem? (i := 1010) (by decide +kernel), List.mem_of_getElem? (i := 1011) (by decide +kernel)⟩
theorem lw_p43 : lw_okq (⟨"VisitGrammarModel", "isOccurrence", "(II)Z"⟩, 35) := ⟨⟨by decide +kernel, by decide +kernel⟩, List.mem_of_getElem? (i := 869) (by decide +kernel), List.mem_of_getElem? (i := 1014) (by decide +kernel), List.mem_of_getElem? (i := 1015) (by decide +kernel)⟩
theorem lw_p44 : lw_okq (⟨"VisitGrammarModel", "attributeOf", "(II)I"⟩, 35) := ⟨⟨by decide +kernel, by decide +kernel⟩, List.mem_of_getElem? (i := 869) (by decide +kernel), List.mem_of_getElem? (i := 1018) (by decide +kernel), List.mem_of_getElem? (i := 1019) (by decide +kernel)⟩
theorem lw_p45 : lw_okq (⟨"VisitGrammarModel", "blame", "(III)Z"⟩, 35) := ⟨⟨by decide +kernel, by decide +kernel⟩, List.mem_of_getElem? (i := 869) (by decide +kernel), List.mem_of_getElem? (i := 1029) (by decide +kernel), List.mem_of_getElem? (i := 1030) (by decide +kernel)⟩
theorem lw_p46 : lw_okq (⟨"VisitGrammarModel", "lacks", "()Z"⟩, 35) := ⟨⟨by decide +kernel, by decide +kernel⟩, List.mem_of_getElem? (i := 869) (by decide +kernel), List.mem_of_getElem? (i := 1033) (by decide +kernel), List.mem_of_getElem? (i := 1034) (by decide +kernel)⟩
theorem lw_p47 : lw_okq (⟨"VisitGrammarModel", "fail", "(I)I"⟩, 35) := ⟨⟨by decide +kernel, by decide +kernel⟩, List.mem_of_getElem? (i := 869) (by decide +kernel), List.mem_of_getElem? (i := 1037) (by decide +kernel), List.mem_of_getElem? (i := 1038) (by decide +kernel)⟩
def lw_privs_3 : List (MethodName × Nat) := [(⟨"VisitGrammar$Tree", "adopt", "(III)V"⟩, 6), (⟨"VisitGrammar$Walk", "step", "()V"⟩, 10), (⟨"VisitGrammar$Walk", "leaveNode", "(I)V"⟩, 10), (⟨"VisitGrammar$Walk", "result", "(I)I"⟩, 10), (⟨"VisitGrammar$Walk", "valueOf", "(I)I"⟩, 10), (⟨"VisitGrammar$Walk", "setOccurrence", "(II)V"⟩, 10), (⟨"VisitGrammar", "requireAttribute", "(II)V"⟩, 4), (⟨"VisitGrammarModel", "forget", "()V"⟩, 35), (⟨"VisitGrammarModel", "endRun", "()V"⟩, 35), (⟨"VisitGrammarModel", "isSymbol", "(I)Z"⟩, 35), (⟨"VisitGrammarModel", "isDefined", "(II)Z"⟩, 35), (⟨"VisitGrammarModel", "isOccurrence", "(II)Z"⟩, 35), (⟨"VisitGrammarModel", "attributeOf", "(II)I"⟩, 35), (⟨"VisitGrammarModel", "blame", "(III)Z"⟩, 35), (⟨"VisitGrammarModel", "lacks", "()Z"⟩, 35), (⟨"VisitGrammarModel", "fail", "(I)I"⟩, 35)]
theorem lw_r3 : ∀ q ∈ lw_privs_3, lw_okq q := List.forall_mem_cons.mpr ⟨lw_p32, List.forall_mem_cons.mpr ⟨lw_p33, List.forall_mem_cons.mpr ⟨lw_p34, List.forall_mem_cons.mpr ⟨lw_p35, List.forall_mem_cons.mpr ⟨lw_p36, List.forall_mem_cons.mpr ⟨lw_p37, List.forall_mem_cons.mpr ⟨lw_p38, List.forall_mem_cons.mpr ⟨lw_p39, List.forall_mem_cons.mpr ⟨lw_p40, List.forall_mem_cons.mpr ⟨lw_p41, List.forall_mem_cons.mpr ⟨lw_p42, List.forall_mem_cons.mpr ⟨lw_p43, List.forall_mem_cons.mpr ⟨lw_p44, List.forall_mem_cons.mpr ⟨lw_p45, List.forall_mem_cons.mpr ⟨lw_p46, List.forall_mem_cons.mpr ⟨lw_p47, fun _ h => absurd h List.not_mem_nil⟩⟩⟩⟩⟩⟩⟩⟩⟩⟩⟩⟩⟩⟩⟩⟩
theorem lw_p48 : lw_okq (⟨"VisitGrammarModel", "begin", "()V"⟩, 35) := ⟨⟨by decide +kernel, by decide +kernel⟩, List.mem_of_getElem? (i := 869) (by decide +kernel), List.mem_of_getElem? (i := 1041) (by decide +kernel), List.mem_of_getElem? (i := 1042) (by decide +kernel)⟩
theorem lw_p49 : lw_okq (⟨"VisitGrammarModel", "isUsed", "(III)Z"⟩, 35) := ⟨⟨by decide +kernel, by decide +kernel⟩, List.mem_of_getElem? (i := 869) (by decide +kernel), List.mem_of_getElem? (i := 1045) (by decide +kernel), List.mem_of_getElem? (i := 1046) (by decide +kernel)⟩
theorem lw_p50 : lw_okq (⟨"VisitGrammarModel", "circles", "()Z"⟩, 35) := ⟨⟨by decide +kernel, by decide +kernel⟩, List.mem_of_getElem? (i := 869) (by decide +kernel), List.mem_of_getElem? (i := 1049) (by decide +kernel), List.mem_of_getElem? (i := 1050) (by decide +kernel)⟩
theorem lw_p51 : lw_okq (⟨"VisitGrammarModel", "learn", "(I)Z"⟩, 35) := ⟨⟨by decide +kernel, by decide +kernel⟩, List.mem_of_getElem? (i := 869) (by decide +kernel), List.mem_of_getElem? (i := 1053) (by decide +kernel), List.mem_of_getElem? (i := 1054) (by decide +kernel)⟩
theorem lw_p52 : lw_okq (⟨"VisitGrammarModel", "rankAll", "(I)V"⟩, 35) := ⟨⟨by decide +kernel, by decide +kernel⟩, List.mem_of_getElem? (i := 869) (by decide +kernel), List.mem_of_getElem? (i := 1057) (by decide +kernel), List.mem_of_getElem? (i := 1058) (by decide +kernel)⟩
theorem lw_p53 : lw_okq (⟨"VisitGrammarModel", "reach", "(II)I"⟩, 35) := ⟨⟨by decide +kernel, by decide +kernel⟩, List.mem_of_getElem? (i := 869) (by decide +kernel), List.mem_of_getElem? (i := 1061) (by decide +kernel), List.mem_of_getElem? (i := 1062) (by decide +kernel)⟩
theorem lw_p54 : lw_okq (⟨"VisitGrammarModel", "mixes", "()Z"⟩, 35) := ⟨⟨by decide +kernel, by decide +kernel⟩, List.mem_of_getElem? (i := 869) (by decide +kernel), List.mem_of_getElem? (i := 1065) (by decide +kernel), List.mem_of_getElem? (i := 1066) (by decide +kernel)⟩
theorem lw_p55 : lw_okq (⟨"VisitGrammarModel", "isDemanded", "(III)Z"⟩, 35) := ⟨⟨by decide +kernel, by decide +kernel⟩, List.mem_of_getElem? (i := 869) (by decide +kernel), List.mem_of_getElem? (i := 1069) (by decide +kernel), List.mem_of_getElem? (i := 1070) (by decide +kernel)⟩
theorem lw_p56 : lw_okq (⟨"VisitGrammarModel", "plan", "(I)V"⟩, 35) := ⟨⟨by decide +kernel, by decide +kernel⟩, List.mem_of_getElem? (i := 869) (by decide +kernel), List.mem_of_getElem? (i := 1073) (by decide +kernel), List.mem_of_getElem? (i := 1074) (by decide +kernel)⟩
theorem lw_p57 : lw_okq (⟨"VisitGrammarModel", "canSet", "(II)Z"⟩, 35) := ⟨⟨by decide +kernel, by decide +kernel⟩, List.mem_of_getElem? (i := 869) (by decide +kernel), List.mem_of_getElem? (i := 1077) (by decide +kernel), List.mem_of_getElem? (i := 1078) (by decide +kernel)⟩
theorem lw_p58 : lw_okq (⟨"VisitGrammarModel", "isKnown", "(II)Z"⟩, 35) := ⟨⟨by decide +kernel, by decide +kernel⟩, List.mem_of_getElem? (i := 869) (by decide +kernel), List.mem_of_getElem? (i := 1081) (by decide +kernel), List.mem_of_getElem? (i := 1082) (by decide +kernel)⟩
theorem lw_p59 : lw_okq (⟨"VisitGrammarModel", "visitOf", "(II)I"⟩, 35) := ⟨⟨by decide +kernel, by decide +kernel⟩, List.mem_of_getElem? (i := 869) (by decide +kernel), List.mem_of_getElem? (i := 1085) (by decide +kernel), List.mem_of_getElem? (i := 1086) (by decide +kernel)⟩
theorem lw_p60 : lw_okq (⟨"VisitGrammarModel", "canGo", "(II)Z"⟩, 35) := ⟨⟨by decide +kernel, by decide +kernel⟩, List.mem_of_getElem? (i := 869) (by decide +kernel), List.mem_of_getElem? (i := 1089) (by decide +kernel), List.mem_of_getElem? (i := 1090) (by decide +kernel)⟩
theorem lw_p61 : lw_okq (⟨"VisitGrammarModel", "isPrepared", "(III)Z"⟩, 35) := ⟨⟨by decide +kernel, by decide +kernel⟩, List.mem_of_getElem? (i := 869) (by decide +kernel), List.mem_of_getElem? (i := 1093) (by decide +kernel), List.mem_of_getElem? (i := 1094) (by decide +kernel)⟩
theorem lw_p62 : lw_okq (⟨"VisitGrammarModel", "fits", "(III)Z"⟩, 35) := ⟨⟨by decide +kernel, by decide +kernel⟩, List.mem_of_getElem? (i := 869) (by decide +kernel), List.mem_of_getElem? (i := 1117) (by decide +kernel), List.mem_of_getElem? (i := 1118) (by decide +kernel)⟩
theorem lw_p63 : lw_okq (⟨"VisitGrammarModel", "isNode", "(I)Z"⟩, 35) := ⟨⟨by decide +kernel, by decide +kernel⟩, List.mem_of_getElem? (i := 869) (by decide +kernel), List.mem_of_getElem? (i := 1133) (by decide +kernel), List.mem_of_getElem? (i := 1134) (by decide +kernel)⟩
def lw_privs_4 : List (MethodName × Nat) := [(⟨"VisitGrammarModel", "begin", "()V"⟩, 35), (⟨"VisitGrammarModel", "isUsed", "(III)Z"⟩, 35), (⟨"VisitGrammarModel", "circles", "()Z"⟩, 35), (⟨"VisitGrammarModel", "learn", "(I)Z"⟩, 35), (⟨"VisitGrammarModel", "rankAll", "(I)V"⟩, 35), (⟨"VisitGrammarModel", "reach", "(II)I"⟩, 35), (⟨"VisitGrammarModel", "mixes", "()Z"⟩, 35), (⟨"VisitGrammarModel", "isDemanded", "(III)Z"⟩, 35), (⟨"VisitGrammarModel", "plan", "(I)V"⟩, 35), (⟨"VisitGrammarModel", "canSet", "(II)Z"⟩, 35), (⟨"VisitGrammarModel", "isKnown", "(II)Z"⟩, 35), (⟨"VisitGrammarModel", "visitOf", "(II)I"⟩, 35), (⟨"VisitGrammarModel", "canGo", "(II)Z"⟩, 35), (⟨"VisitGrammarModel", "isPrepared", "(III)Z"⟩, 35), (⟨"VisitGrammarModel", "fits", "(III)Z"⟩, 35), (⟨"VisitGrammarModel", "isNode", "(I)Z"⟩, 35)]
theorem lw_r4 : ∀ q ∈ lw_privs_4, lw_okq q := List.forall_mem_cons.mpr ⟨lw_p48, List.forall_mem_cons.mpr ⟨lw_p49, List.forall_mem_cons.mpr ⟨lw_p50, List.forall_mem_cons.mpr ⟨lw_p51, List.forall_mem_cons.mpr ⟨lw_p52, List.forall_mem_cons.mpr ⟨lw_p53, List.forall_mem_cons.mpr ⟨lw_p54, List.forall_mem_cons.mpr ⟨lw_p55, List.forall_mem_cons.mpr ⟨lw_p56, List.forall_mem_cons.mpr ⟨lw_p57, List.forall_mem_cons.mpr ⟨lw_p58, List.forall_mem_cons.mpr ⟨lw_p59, List.forall_mem_cons.mpr ⟨lw_p60, List.forall_mem_cons.mpr ⟨lw_p61, List.forall_mem_cons.mpr ⟨lw_p62, List.forall_mem_cons.mpr ⟨lw_p63, fun _ h => absurd h List.not_mem_nil⟩⟩⟩⟩⟩⟩⟩⟩⟩⟩⟩⟩⟩⟩⟩⟩
theorem lw_p64 : lw_okq (⟨"VisitGrammarModel", "step", "()V"⟩, 35) := ⟨⟨by decide +kernel, by decide +kernel⟩, List.mem_of_getElem? (i := 869) (by decide +kernel), List.mem_of_getElem? (i := 1141) (by decide +kernel), List.mem_of_getElem? (i := 1142) (by decide +kernel)⟩
theorem lw_p65 : lw_okq (⟨"VisitGrammarModel", "cell", "(II)I"⟩, 35) := ⟨⟨by decide +kernel, by decide +kernel⟩, List.mem_of_getElem? (i := 869) (by decide +kernel), List.mem_of_getElem? (i := 1145) (by decide +kernel), List.mem_of_getElem? (i := 1146) (by decide +kernel)⟩
theorem lw_p66 : lw_okq (⟨"VisitGrammarModel", "worth", "(II)I"⟩, 35) := ⟨⟨by decide +kernel, by decide +kernel⟩, List.mem_of_getElem? (i := 869) (by decide +kernel), List.mem_of_getElem? (i := 1149) (by decide +kernel), List.mem_of_getElem? (i := 1150) (by decide +kernel)⟩
theorem lw_p67 : lw_okq (⟨"VisitGrammarModel", "isAttribute", "(II)Z"⟩, 35) := ⟨⟨by decide +kernel, by decide +kernel⟩, List.mem_of_getElem? (i := 869) (by decide +kernel), List.mem_of_getElem? (i := 1165) (by decide +kernel), List.mem_of_getElem? (i := 1166) (by decide +kernel)⟩
def lw_privs_5 : List (MethodName × Nat) := [(⟨"VisitGrammarModel", "step", "()V"⟩, 35), (⟨"VisitGrammarModel", "cell", "(II)I"⟩, 35), (⟨"VisitGrammarModel", "worth", "(II)I"⟩, 35), (⟨"VisitGrammarModel", "isAttribute", "(II)Z"⟩, 35)]
theorem lw_r5 : ∀ q ∈ lw_privs_5, lw_okq q := List.forall_mem_cons.mpr ⟨lw_p64, List.forall_mem_cons.mpr ⟨lw_p65, List.forall_mem_cons.mpr ⟨lw_p66, List.forall_mem_cons.mpr ⟨lw_p67, fun _ h => absurd h List.not_mem_nil⟩⟩⟩⟩
def lw_privs : List (MethodName × Nat) := lw_privs_1 ++ (lw_privs_2 ++ (lw_privs_3 ++ (lw_privs_4 ++ (lw_privs_5))))
def lw_tbl : List Cond := k2_sels lw_privs ++ tables_1
theorem lw_privs_ok : ∀ q ∈ lw_privs, lw_okq q := by
  show ∀ q ∈ lw_privs_1 ++ (lw_privs_2 ++ (lw_privs_3 ++ (lw_privs_4 ++ (lw_privs_5)))), lw_okq q
  exact List.forall_mem_append.mpr ⟨lw_r1, List.forall_mem_append.mpr ⟨lw_r2, List.forall_mem_append.mpr ⟨lw_r3, List.forall_mem_append.mpr ⟨lw_r4, lw_r5⟩⟩⟩⟩
end
section
/-! Rows of my own: words that stay, a call by a contract whatever comes of it, contracts that throw, the catch. -/
-- which words stay true while the tables grow warmer
def vq_k (w : Cond) : Bool := (w.onTables && (w.keepsH || w.faceAtom)) || (match w with | .arrayClass _ => true | .stringRef _ _ _ => true | _ => false)
theorem vq_at {w : Cond} (hk : vq_k w = true) {args a' : Array Value} {s U : State} (hW : s.WarmedH U.vm) (h : w.before args s = true) : w.before a' U = true := by
  unfold vq_k at hk
  rw [Bool.or_eq_true] at hk
  rcases hk with hk | hk
  · simp only [Bool.and_eq_true, Bool.or_eq_true] at hk
    obtain ⟨h1, h2 | h2⟩ := hk
    · have h3 := Cond.onTables_warmH (T := U) (args' := a') hW h1 h2 h
      rwa [State.setVm_self] at h3
    · exact va_tabs h1 (rfl : (s.setVm U.vm).vm = U.vm) (Cond.faceAtom_setVm hW.alike _ h2 h)
  · match w, hk, h with
    | .arrayClass ty, _, h => exact word_at hW (Or.inr ⟨ty, rfl⟩) h
    | .stringRef o i t, _, h =>
      have h1 := Cond.stringRef_warmed hW h
      exact h1
theorem vq_all {ws : List Cond} (hk : ws.all vq_k = true) {args : Array Value} {s : State} (hts : ∀ w ∈ ws, w.before args s = true) : ∀ w ∈ ws, ∀ (a' : Array Value) (U : State), s.WarmedH U.vm → w.before a' U = true :=
  fun w hw _ _ hW => vq_at (List.all_eq_true.mp hk w hw) hW (hts w hw)
-- the two statics of Throwable that an exception's making reads
def vq_sw : List Cond := [.laysStatic "java/lang/Throwable" "UNASSIGNED_STACK" "[Ljava/lang/StackTraceElement;", .isRef (.static "java/lang/Throwable" "UNASSIGNED_STACK" "[Ljava/lang/StackTraceElement;"), .laysStatic "java/lang/Throwable" "SUPPRESSED_SENTINEL" "Ljava/util/List;", .isRef (.static "java/lang/Throwable" "SUPPRESSED_SENTINEL" "Ljava/util/List;")]
-- and that a state's exception is no argument's
def vq_st (U : State) : Prop := (∀ w ∈ vq_sw, w.before #[] U = true) ∧ va_Nc "java/lang/IllegalStateException" "java/lang/IllegalArgumentException" U
-- the cells that hold statics are as they were
def vq_kept (H H1 : Heap) : Prop := ∀ (a : Nat) (cell : Cell), H[a]? = some cell → cell.vm.isStatics = true → H1[a]? = some cell
theorem vq_lays {O n d : String} {A A' : Array Value} {s U : State} (hvm : s.vm = U.vm) (hk : vq_kept s.heap U.heap) (h : (Cond.laysStatic O n d).before A s = true) : (Cond.laysStatic O n d).before A' U = true := by
  simp only [Cond.before, Cond.holds, Cond.value, State.fieldFound?, hvm] at h ⊢
  split at h
  · rename_i c c' k i f hc hf
    try simp only [hc, hf]
    cases hs : k.statics with
    | none => simp [hs] at h
    | some a =>
      cases hh : s.heap[a]? with
      | none => simp [hs, hh] at h
      | some cell =>
        simp only [hs, hh, Option.bind_some, Option.map_some, beq_iff_eq, Option.some.injEq] at h
        have h2 := h
        simp only [Bool.and_eq_true] at h2
        have hcell := hk a cell hh h2.1.1.1.2
        simp only [hs, hcell, Option.bind_some, Option.map_some, beq_iff_eq, Option.some.injEq]
        exact h
  · simp at h
theorem vq_static {O n d : String} {A A' : Array Value} {s U : State} (hvm : s.vm = U.vm) (hk : vq_kept s.heap U.heap) {v : Value} (h : (Term.static O n d).eval A s none [] s = some v) : (Term.static O n d).eval A' U none [] U = some v := by
  have e : s.fieldNamed? O n d true = U.fieldNamed? O n d true := by simp only [State.fieldNamed?, State.fieldFound?, hvm]
  simp only [Term.eval] at h ⊢
  rw [← e]
  cases hf : s.fieldNamed? O n d true with
  | none => simp [hf] at h
  | some q =>
    obtain ⟨c, k, slot⟩ := q
    cases hs : k.statics with
    | none => simp [hf, hs] at h
    | some a =>
      cases hh : s.heap[a]? with
      | none => simp [hf, hs, hh] at h
      | some cell =>
        by_cases hst : cell.vm.isStatics = true
        · have hcell := hk a cell hh hst
          simp [hf, hs, hh, hst] at h
          simp [hs, hcell, hst, h]
        · simp [hf, hs, hh, hst] at h
theorem vq_isref {O n d : String} {A A' : Array Value} {s U : State} (hvm : s.vm = U.vm) (hk : vq_kept s.heap U.heap) (h : (Cond.isRef (.static O n d)).before A s = true) : (Cond.isRef (.static O n d)).before A' U = true := by
  simp only [Cond.before, Cond.holds, Cond.value] at h ⊢
  cases hv : (Term.static O n d).eval A s none [] s with
  | none => simp [hv] at h
  | some v =>
    rw [vq_static (A' := A') hvm hk hv]
    rw [hv] at h
    exact h
theorem vq_st.moved {s U : State} (hal : s.vm.Alike U.vm) (hk : vq_kept s.heap U.heap) (h : vq_st s) : vq_st U := by
  have key : ∀ w : Cond, w.steady = true → w.before #[] s = true → w.before #[] (s.setVm U.vm) = true := fun w hw h1 => by
    have e := Cond.value_setVm₂ (args := #[]) (o := none) hal hal w [] hw
    simp only [Cond.before, Cond.holds] at h1 ⊢
    rw [e]
    exact h1
  refine ⟨?_, h.2.moved hal⟩
  intro w hw
  have h0 := h.1 w hw
  simp only [vq_sw, List.mem_cons, List.not_mem_nil, or_false] at hw
  rcases hw with rfl | rfl | rfl | rfl
  · exact vq_lays (s := s.setVm U.vm) rfl hk (key _ rfl h0)
  · exact vq_isref (s := s.setVm U.vm) rfl hk (key _ rfl h0)
  · exact vq_lays (s := s.setVm U.vm) rfl hk (key _ rfl h0)
  · exact vq_isref (s := s.setVm U.vm) rfl hk (key _ rfl h0)
theorem vq_ns {D : va_G} {cl : List vw_C} {ws : va_W} {H : Heap} (hP : va_P D cl ws H) : ∀ q : Nat, va_A ws H.size q → ∀ cell : Cell, H[q]? = some cell → cell.vm.isStatics = false := by
  intro q hA cell hc
  rcases hA with ⟨k, e, hk⟩ | h
  · have h1 := hP k _ hk
    match e, h1 with
    | .inl (cA, x), h1 =>
      have h2 : H[q]? = some (vp_cell cA x) := h1
      cases Option.some.inj (hc.symm.trans h2)
      obtain ⟨n, f | f | f | f | f⟩ := x <;> rfl
    | .inr (ci, fs), h1 =>
      obtain ⟨r, -, cell2, q1, -, q3, -⟩ := h1
      cases Option.some.inj (hc.symm.trans q1)
      rw [q3]; rfl
  · have h2 := (Array.getElem?_eq_some_iff.mp hc).1
    exact absurd h2 (Nat.not_lt.mpr h)
theorem vq_kept.of {A : Nat → Prop} {H0 H : Heap} {locs : List Loc} (hS : va_S A H0 H locs) (hN : ∀ q : Nat, A q → ∀ cell : Cell, H0[q]? = some cell → cell.vm.isStatics = false) : vq_kept H0 H := by
  intro a cell ha hst
  have hlt := (Array.getElem?_eq_some_iff.mp ha).1
  have hnA : ¬ A a := fun h => by rw [hN a h cell ha] at hst; cases hst
  rw [hS.2.1 a hlt hnA]
  exact ha
/-- the contract of a method that throws an E, always; no old cell changes but those in A -/
def vq_TQ (E : String) (A : Nat → Prop) (mc ms : Nat) (st : State) (o : Outcome) (t : State) : Prop :=
  ∃ (x : Addr) (ce : Cell) (L : List Loc), o = .threw x ∧ st.WarmedH t.vm ∧ va_F A st t ∧ t.heap[x]? = some ce ∧ ce.vm = .none ∧ st.vm.findClass E = some ce.cls ∧ st.sameButNew ({ t with vm := st.vm } : State) L mc ms ∧ ∀ q ∈ L, A q.base
def vq_T (l : Launch) (y : MethodName) (ws : List Cond) (rm : Room) (Pc : Array Value → State → Prop) (E : String) (A : Nat → Prop) (mc ms : Nat) : Prop :=
  MetFree l y (headSpec ws rm) Pc (fun _ _ _ _ _ => True) (fun _ st o t => vq_TQ E A mc ms st o t)
def vq_MQ (below : List Frame) (E : String) (A : Nat → Prop) (s : State) (mc ms : Nat) : State → Prop := fun t => ∃ o, t.status = .running ∧ Ended t below o ∧ vq_TQ E A mc ms s o t
-- bodies: the code word stands anywhere among the words; with handlers or without
theorem vq_his {ws : List Cond} {rm : Room} {y : MethodName} {cc : ByteArray} {maxL : Nat} {ret : Option FieldType} (hw : Cond.code y cc maxL ret ∈ ws) :
    ∀ args (s : State) m, (headSpec ws rm).pre.before args s = true → s.methodNamed? y = some m → ∃ meth c, s.vm.method? m = some meth ∧ meth.code = some c ∧ c.code = cc ∧ c.maxLocals = maxL ∧ meth.sig.returnType = ret ∧ meth.locks = false := by
  intro args s m h hn
  obtain ⟨meth, c, h1, h2, h3, h4, h5, h6, -, -⟩ := Cond.code_spec hn (atoms_spec (ws := ws) h _ hw)
  exact ⟨meth, c, h1, h2, h3, h4, h5, h6⟩
theorem vq_hisH {ws : List Cond} {rm : Room} {y : MethodName} {cc : ByteArray} {maxL : Nat} {ret : Option FieldType} {hh : List (Nat × Nat × Nat × Nat)} (hw : Cond.codeWith y cc maxL ret hh ∈ ws) :
    ∀ args (s : State) m, (headSpec ws rm).pre.before args s = true → s.methodNamed? y = some m → ∃ meth c, s.vm.method? m = some meth ∧ meth.code = some c ∧ c.code = cc ∧ c.maxLocals = maxL ∧ meth.sig.returnType = ret ∧ meth.locks = false := by
  intro args s m h hn
  obtain ⟨m', meth, c, h0, h1, h2, h3, h4, -, h5, h6, -⟩ := Cond.codeWith_spec (atoms_spec (ws := ws) h _ hw)
  cases Option.some.inj (hn.symm.trans h0)
  exact ⟨meth, c, h1, h2, h3, h4, h5, h6⟩
theorem vq_ofW {l : Launch} {y : MethodName} {ws : List Cond} {rm : Room} {Pc : Array Value → State → Prop} {Qc : Array Value → State → Outcome → State → Prop} {mc ms : Nat} {free : Addr → Prop} {cc : ByteArray} {maxL : Nat} {ret : Option FieldType}
    (hy : plainName y.cls = true) (his : ∀ args (s : State) m, (headSpec ws rm).pre.before args s = true → s.methodNamed? y = some m → ∃ meth c, s.vm.method? m = some meth ∧ meth.code = some c ∧ c.code = cc ∧ c.maxLocals = maxL ∧ meth.sig.returnType = ret ∧ meth.locks = false)
    (body : ∀ p e s m args below meth c s₁, BodyLoose p l y (headSpec ws rm) cc maxL ret e s m args below meth c s₁ → c.maxLocals = maxL → Pc args s →
      W p l e (headSpec ws rm).room s m args below meth c s.heap [] 0 0 (MQ below Qc args s mc ms free) (entryFrame m args maxL)) : Met l y ws rm Pc Qc mc ms free := by
  refine MetFree.of_bodyS (code := cc) (maxLocals := maxL) (ret := ret) hy his ?_
  intro p e s m args below meth c s₁ B hml hP _
  have hh0 : s₁.heap = s.heap := by rw [B.state]; rfl
  obtain ⟨t, a1, o, b1, b2, b3⟩ := body p e s m args below meth c s₁ B hml hP s₁ hh0 (Stand.of_body B)
  exact ⟨t, o, a1, b1, b2, ⟨b3.1, b3.2⟩⟩
theorem vq_ofT {l : Launch} {y : MethodName} {ws : List Cond} {rm : Room} {Pc : Array Value → State → Prop} {E : String} {A : Nat → Prop} {mc ms : Nat} {cc : ByteArray} {maxL : Nat} {ret : Option FieldType}
    (hy : plainName y.cls = true) (his : ∀ args (s : State) m, (headSpec ws rm).pre.before args s = true → s.methodNamed? y = some m → ∃ meth c, s.vm.method? m = some meth ∧ meth.code = some c ∧ c.code = cc ∧ c.maxLocals = maxL ∧ meth.sig.returnType = ret ∧ meth.locks = false)
    (body : ∀ p e s m args below meth c s₁, BodyLoose p l y (headSpec ws rm) cc maxL ret e s m args below meth c s₁ → c.maxLocals = maxL → Pc args s →
      W p l e (headSpec ws rm).room s m args below meth c s.heap [] 0 0 (vq_MQ below E A s mc ms) (entryFrame m args maxL)) : vq_T l y ws rm Pc E A mc ms := by
  refine MetFree.of_bodyS (code := cc) (maxLocals := maxL) (ret := ret) hy his ?_
  intro p e s m args below meth c s₁ B hml hP _
  have hh0 : s₁.heap = s.heap := by rw [B.state]; rfl
  obtain ⟨t, a1, o, b1, b2, b3⟩ := body p e s m args below meth c s₁ B hml hP s₁ hh0 (Stand.of_body B)
  exact ⟨t, o, a1, b1, b2, b3⟩
theorem vq_noH {p : Program} {l : Launch} {y : MethodName} {S : Spec} {code : ByteArray} {maxL : Nat} {ret : Option FieldType} {e : Env} {s : State} {m : MethodId} {args : Array Value} {below : List Frame} {meth : Method} {c : Code} {s₁ : State}
    (B : BodyLoose p l y S code maxL ret e s m args below meth c s₁) (h : (Cond.code y code maxL ret).before args s = true) : c.exceptionTable.toList = [] := by
  obtain ⟨meth', c', hm', hc', -, -, -, -, hempty, -⟩ := Cond.code_spec B.named h
  cases B.method.symm.trans hm'
  cases (Stand.of_body B).code.symm.trans hc'
  have h0 : c.exceptionTable.size = 0 := by simpa [Array.isEmpty] using hempty
  exact List.eq_nil_of_length_eq_zero (by simpa using h0)
theorem vq_tab {L : List ExceptionTableEntry} {hh : List (Nat × Nat × Nat × Nat)} (h : L.map (fun h => (h.startPc, h.endPc, h.handlerPc, h.catchType)) = hh) : L = hh.map (fun t => ⟨t.1, t.2.1, t.2.2.1, t.2.2.2⟩) := by
  rw [← h, List.map_map]
  exact (List.map_id L).symm
theorem vq_hasH {p : Program} {l : Launch} {y : MethodName} {S : Spec} {code : ByteArray} {maxL : Nat} {ret : Option FieldType} {hh : List (Nat × Nat × Nat × Nat)} {e : Env} {s : State} {m : MethodId} {args : Array Value} {below : List Frame} {meth : Method} {c : Code} {s₁ : State}
    (B : BodyLoose p l y S code maxL ret e s m args below meth c s₁) (h : (Cond.codeWith y code maxL ret hh).before args s = true) : c.exceptionTable.toList = hh.map (fun t => ⟨t.1, t.2.1, t.2.2.1, t.2.2.2⟩) := by
  obtain ⟨m', meth', c', hn', hm', hc', -, -, htab, -, -, -⟩ := Cond.codeWith_spec h
  cases Option.some.inj (B.named.symm.trans hn')
  cases B.method.symm.trans hm'
  cases (Stand.of_body B).code.symm.trans hc'
  exact vq_tab htab
section VQ
variable {p : Program} {l : Launch} {e : Env} {R : Room} {s : State} {m : MethodId} {args : Array Value} {below : List Frame} {meth : Method} {c : Code} {T : State} {locs : List Loc} {cells slots : Nat}
/-- a call by a contract, whatever comes of it -/
theorem vq_go (X : Stand p l e R s m args below meth c T locs cells slots) {y : MethodName} {S : Spec} {P : Array Value → State → Prop} {Q : Array Value → State → Outcome → State → Prop} {maxL : Nat}
    (hM : MetFree l y S P (fun _ _ _ _ _ => True) Q) {g : JFrame} {ig : Instr} {len : Nat} {mk : MethodId} {a : Array Value} {W : Nat}
    (hg : g.method = m) (hsize : g.locals.size = c.maxLocals) (hdg : decode c.code g.pc = .ok (ig, len)) (hW : 2 * g.monitorRoom + (g.stack.map fun v => v.category).sum ≤ W)
    (hn : T.methodNamed? y = some mk) (hcode : ∃ methY cY, T.vm.method? mk = some methY ∧ methY.code = some cY ∧ cY.maxLocals = maxL)
    (hini : (Cond.initialized y.cls).before a T = true) (hpre : S.pre.before a T = true)
    (hfr : S.room.frames + 1 ≤ R.frames) (hlo : W + (maxL + 11) + S.room.locals ≤ R.locals) (hce : cells + S.room.cells ≤ R.cells) (hsl : slots + S.room.slots ≤ R.slots)
    (hP : P a (T.calling g mk a)) :
    ∃ o s₂, Steps p.tables e below (doInvoke e (T.setTop g) [] mk a).1 s₂ ∧ Ended s₂ (.java g :: T.frames.tail) o ∧ Q a (T.calling g mk a) o s₂ := by
  obtain ⟨methY, cY, hmY, hcY, hlY⟩ := hcode
  obtain ⟨kY, hkY, -⟩ := className_of_methodNamed hn
  have hinitY : kY.init = .initialized := Cond.initialized_spec (findClass_of_methodNamed hn) hkY hini
  have h : At T g.method c below := by rw [hg]; exact X.here
  have happ : S.appliesLoose y e.platform (T.calling g mk a) = true :=
    Spec.appliesLoose_calling (g := g) h hdg hn hkY hinitY (X.room_calling (g := g) (R' := S.room) hsize hmY hcY hfr (by rw [hlY]; omega) hce hsl) hpre
  obtain ⟨mid, hmid⟩ := h.above
  have hfr2 : (T.setTop g).frames = (.java g :: mid) ++ below := by rw [State.frames_setTop' g h.top, hmid]; rfl
  obtain ⟨o, s₂, hsteps, -, hend, hq⟩ := Steps.callFree hM p X.admits X.cas X.clock (acts := []) hfr2 happ hP trivial
  rw [State.frames_setTop' g h.top] at hend
  exact ⟨o, s₂, hsteps, hend, hq⟩
theorem vq_note (X : Stand p l e R s m args below meth c T locs cells slots) (g : JFrame) (a : Addr) : (T.setTop g).pushFrame (.throwing a) = T.setFrames (.throwing a :: .java g :: below) := by
  obtain ⟨g₁, hfr⟩ := X.frames_eq
  rw [State.pushFrame, State.frames_setTop _ hfr, State.setTop_of_frames _ hfr, State.setFrames_setFrames]
/-- behind a callee that has gone, by what it left: where the walk stands -/
theorem vq_back (X : Stand p l e R s m args below meth c T locs cells slots) {g : JFrame} {mk : MethodId} {a : Array Value} {s₂ : State} {L : List Loc} {k n : Nat}
    (hW₂ : (T.calling g mk a).WarmedH s₂.vm) (hsame : (T.calling g mk a).sameButNew ({ s₂ with vm := (T.calling g mk a).vm } : State) L k n) :
    Stand p l e R s m args below meth c (({ T with heap := s₂.heap, slotsUsed := s₂.slotsUsed } : State).setVm s₂.vm) (locs ++ L) (cells + k) (slots + n) ∧
      s₂ = (({ T with heap := s₂.heap, slotsUsed := s₂.slotsUsed } : State).setVm s₂.vm).setFrames s₂.frames := by
  obtain ⟨e2, q2, q3, q4, q5, q6⟩ := hsame
  have h := X.here
  have e3 : s₂ = ({ (T.calling g mk a).setFrames s₂.frames with heap := s₂.heap, slotsUsed := s₂.slotsUsed } : State).setVm s₂.vm := by
    have h1 : s₂ = ({ s₂ with vm := (T.calling g mk a).vm } : State).setVm s₂.vm := rfl
    rw [e2] at h1
    exact h1
  have hW' : T.WarmedH s₂.vm := hW₂
  obtain ⟨g₀, hg0⟩ := Option.isSome_iff_exists.mp h.top
  obtain ⟨r, hr⟩ := State.topJava?_eq_some.mp hg0
  have hsm : T.sameButNew ({ T with heap := s₂.heap, slotsUsed := s₂.slotsUsed } : State) L k n := by
    refine ⟨?_, q2, q3, q4, q5, q6⟩
    obtain ⟨t, ht, -⟩ := State.frames_cons hr
    show ({ T with heap := s₂.heap, slotsUsed := s₂.slotsUsed } : State) = { T.setFrames T.frames with heap := s₂.heap, slotsUsed := s₂.slotsUsed }
    rw [State.setFrames_self ht]
  refine ⟨⟨X.admits, X.cas, X.clock, X.frames, X.room, X.hears, X.method, X.code, (X.here.setHeapUsed s₂.heap s₂.slotsUsed).setVm hW'.alike, X.tail, State.WarmedH.trans X.warmed hW', X.limits, X.bytes, X.same.trans (hsm.setVm s.vm)⟩, ?_⟩
  refine e3.trans ?_
  rw [State.calling_eq h.top, State.setFrames_setFrames]
  rfl
/-- what is known where a callee has thrown: the note lies over the caller's frame -/
def vq_TRun (p : Program) (l : Launch) (e : Env) (R : Room) (s : State) (m : MethodId) (args : Array Value) (below : List Frame) (meth : Method) (c : Code) (H : Heap) (locs : List Loc) (cells slots mc ms : Nat) (g : JFrame) (rest : List Value) (E : String) (A1 : Nat → Prop) : Prop :=
  ∀ T : State, T.heap = H → Stand p l e R s m args below meth c T locs cells slots → ∃ (x : Addr) (ce : Cell) (T' : State) (L : List Loc), Stand p l e R s m args below meth c T' (locs ++ L) (cells + mc) (slots + ms) ∧ (∀ q ∈ L, A1 q.base) ∧ H.size ≤ T'.heap.size ∧ (∀ q : Nat, q < H.size → ¬ A1 q → T'.heap[q]? = H[q]?) ∧
    T'.heap[x]? = some ce ∧ ce.vm = .none ∧ s.vm.findClass E = some ce.cls ∧ Steps p.tables e below (T.setTop g) ((T'.setTop { g with stack := rest }).pushFrame (.throwing x))
variable {H : Heap} {cc bytes : ByteArray} {nL maxL index n mc ms : Nat} {Ts ws : List Cond} {own C E : String} {y : MethodName} {ret : Option FieldType} {rm : Room} {Pc : Array Value → State → Prop} {A1 : Nat → Prop} {b : Addr} {As rest : List Value} {g : JFrame}
theorem vq_runT (S : CallFix p m c cc nL s args Ts own) (hM : vq_T l y ws rm Pc E A1 mc ms) (cw : CallW R s args own C index y bytes maxL ret ws rm mc ms n) (hp : PreV s H C b Pc As)
    (hg : g.method = m) (hn : As.length = n) (hsize : g.locals.size = nL) (hstack : g.stack = As.reverse ++ .ref b :: rest) (hW : 2 * g.monitorRoom + (rest.map fun v => v.category).sum ≤ 8) (hdg : decode cc g.pc = .ok (.invokevirtual index, 3)) (hf : cells + mc ≤ R.cells ∧ slots + ms ≤ R.slots) :
    vq_TRun p l e R s m args below meth c H locs cells slots mc ms g rest E A1 := by
  obtain ⟨⟨hrc, hrs, hfr, hlo, hws, hcw, hcode, hini, hy, hlen, hlink⟩, hinst, hsel⟩ := cw
  obtain ⟨hblind, ⟨cellB, hcell, hobj, hcls⟩, hPc⟩ := hp
  obtain ⟨hexec, hb, hml, hown, -⟩ := S
  intro T hT X
  subst hb
  obtain ⟨mk, methM, hnamed, hmethM, hstM, habM⟩ := Cond.instanceMethod_spec hinst
  obtain ⟨methM', cM, hmethM', -, -, -, -, -, -, hsigM⟩ := Cond.code_spec hnamed hcode
  cases hmethM.symm.trans hmethM'
  obtain ⟨c2, r2, m2, q1, q2, q3, q4, kP, hkP, hkPi⟩ := Cond.selects_spec hsel
  cases hcls.symm.trans q1
  cases (State.methodFound?_of_named hnamed hy).symm.trans q2
  cases hnamed.symm.trans q3
  have hselP : selectMethod e.platform s.vm cellB.cls mk = .method mk := by rw [Launch.admits_selectMethod X.admits]; exact q4
  obtain ⟨vm₁, X₁, hstep₁⟩ := X.invokevirtual hexec hown hlink hnamed hmethM hstM hkP hkPi hy (a := b) (cell := cellB) (by rw [hT]; exact hcell)
    (fun z h => by rw [h] at hobj; cases hobj) hselP hmethM habM hkP hkPi (g := g) hg (argsL := As) (rest := rest) (hn.trans (hlen _ hsigM)) hstack hdg
  have hn₁ : (T.setVm vm₁).methodNamed? y = some mk := X₁.named hnamed
  have hw₁ : s.WarmedH (T.setVm vm₁).vm := X₁.warmed
  obtain ⟨methY, cY, hmY, hcY, -, hlY, -, -, -, -⟩ := Cond.code_spec hn₁ (hws _ hcw (Value.ref b :: As).toArray (T.setVm vm₁) hw₁)
  obtain ⟨o, s₂, hsteps, hend, x, ce, L, rfl, hW₂, hF, hce, hvm, hfc, hsame, hL⟩ := vq_go X₁ (W := 8) (maxL := maxL) (g := { g with stack := rest }) (a := (Value.ref b :: As).toArray) hM hg (hsize.trans hml.symm) hdg hW hn₁ ⟨methY, cY, hmY, hcY, hlY⟩
    (word_at hw₁ (Or.inl (by first | rfl | simp [Cond.onTables, Cond.keeps, Cond.steady])) hini) (atoms_intro fun w hw => hws w hw _ _ hw₁) hfr hlo (by rw [show (headSpec ws rm).room.cells = mc from hrc]; exact hf.1) (by rw [show (headSpec ws rm).room.slots = ms from hrs]; exact hf.2)
    (hblind _ _ _ _ (hPc (T.setVm vm₁) hT hw₁))
  obtain ⟨X', hs₂⟩ := vq_back X₁ hW₂ hsame
  have hal : s.vm.Alike vm₁ := X₁.warmed.alike
  refine ⟨x, ce, _, L, X', hL, ?_, ?_, hce, hvm, ?_, ?_⟩
  · have h1 := hF.1
    have h2 : ((T.setVm vm₁).calling { g with stack := rest } mk (Value.ref b :: As).toArray).heap.size = H.size := by rw [← hT]; rfl
    rw [h2] at h1
    exact h1
  · intro q hq hA
    have h2 : ((T.setVm vm₁).calling { g with stack := rest } mk (Value.ref b :: As).toArray).heap = H := hT
    have h1 := hF.2 q (by rw [h2]; exact hq) hA
    rw [h2] at h1
    exact h1
  · have h1 : vm₁.findClass E = some ce.cls := hfc
    rw [hal.findClass] at h1
    exact h1
  · refine hstep₁ _ fun acts => ?_
    rw [doInvoke_state]
    have h3 : s₂.frames = .throwing x :: .java { g with stack := rest } :: below := by
      have h4 : s₂.frames = .throwing x :: .java { g with stack := rest } :: (T.setVm vm₁).frames.tail := hend
      rw [h4, X₁.tail]
    rw [vq_note X', ← h3, ← hs₂]
    exact hsteps
variable {Q : State → Prop} {A A0 : Nat → Prop} {H0 : Heap} {pc : Nat} {ls : Array Slot} {st0 : List Value}
theorem vq_S {L : List Loc} {H1 : Heap} (hS : va_S A0 H0 H locs) (hA : ∀ q, A1 q → A0 q) (hL : ∀ q ∈ L, A1 q.base) (hz : H.size ≤ H1.size) (hk : ∀ q : Nat, q < H.size → ¬ A1 q → H1[q]? = H[q]?) : va_S A0 H0 H1 (locs ++ L) := by
  refine ⟨Nat.le_trans hS.1 hz, fun q hq hn => ?_, fun x hx => ?_⟩
  · rw [hk q (Nat.lt_of_lt_of_le hq hS.1) (fun h => hn (hA q h))]
    exact hS.2.1 q hq hn
  · rcases List.mem_append.mp hx with h | h
    · exact hS.2.2 x h
    · exact hA _ (hL x h)
/-- not caught here: it goes on to the caller -/
theorem vq_pass {mk1 ms1 : Nat} (hr : vq_TRun p l e R s m args below meth c H locs cells slots mk1 ms1 (F0 m pc ls st0) rest E A1) (hS : va_S A s.heap H locs) (hA : ∀ q, A1 q → A q) (hno : c.exceptionTable.toList = []) (hlocks : meth.locks = false) (hc : cells + mk1 ≤ mc) (hs : slots + ms1 ≤ ms) :
    W p l e R s m args below meth c H locs cells slots (vq_MQ below E A s mc ms) (F0 m pc ls st0) := by
  intro T hT X
  obtain ⟨x, ce, T', L, X', hL, hz, hk, hce, hvm, hfc, st⟩ := hr T hT X
  obtain ⟨st1, hrun, hend, hW, hsm⟩ := X'.leaveThrown x (g := { F0 m pc ls st0 with stack := rest }) rfl rfl rfl (by rw [hno]; intro z hz; cases hz) hlocks
  have hS' : va_S A s.heap T'.heap (locs ++ L) := vq_S hS hA hL hz hk
  exact ⟨_, st.trans st1, .threw x, hrun, hend, x, ce, locs ++ L, rfl, hW, ⟨hS'.1, hS'.2.1⟩, hce, hvm, hfc, hsm.mono hc hs, hS'.2.2⟩
theorem vq_st.use {U : State} (h : vq_st U) {a9 : Array Value} : ∀ w ∈ vq_sw, w.before a9 U = true := by
  intro w hw
  have h0 := h.1 w hw
  simp only [vq_sw, List.mem_cons, List.not_mem_nil, or_false] at hw
  rcases hw with rfl | rfl | rfl | rfl
  · exact vq_lays rfl (fun _ _ h _ => h) h0
  · exact vq_isref rfl (fun _ _ h _ => h) h0
  · exact vq_lays rfl (fun _ _ h _ => h) h0
  · exact vq_isref rfl (fun _ _ h _ => h) h0
/-- throw new E("text"): five instructions -/
theorem vq_throw (hexec : p.tables.exec = Jvm.exec) (hb : c.code = cc) (hl : l.stackTraces = false) {cls text : String} {names : List String} {ik ic is : Nat} (hown : s.vm.findClass own = some m.cls) (hcls : Bundle.fit cls = true) (hnames : ∀ n ∈ names, Bundle.fit n = true)
    (hat : ∀ a ∈ Bundle.ownAtoms own ic cls names, a.before args s = true) (hkl : (Cond.classLink own ik cls).before args s = true) (hini : (Cond.initialized cls).before args s = true) (hstr : (Cond.stringRef own is text).before args s = true)
    (hS : va_S A s.heap H locs) (hA : ∀ q, s.heap.size ≤ q → A q) (hN : ∀ q : Nat, A q → ∀ cell : Cell, s.heap[q]? = some cell → cell.vm.isStatics = false) (hno : c.exceptionTable.toList = []) (hlocks : meth.locks = false)
    (hR : cells + 1 ≤ R.cells ∧ slots + 6 ≤ R.slots ∧ cells + 1 ≤ mc ∧ slots + 6 ≤ ms ∧ names.length + 3 < R.frames ∧ (rest.map fun v => v.category).sum + (13 * (names.length + 1) + 43) ≤ R.locals) (hsz : ls.size = c.maxLocals)
    (d0 : decode cc pc = .ok (.new ik, 3)) (d3 : decode cc (pc + 3) = .ok (.dup, 1)) (d4 : decode cc (pc + 3 + 1) = .ok (.ldc is, 2)) (d6 : decode cc (pc + 3 + 1 + 2) = .ok (.invokespecial ic, 3)) (d9 : decode cc (pc + 3 + 1 + 2 + 3) = .ok (.athrow, 1)) :
    W p l e R s m args below meth c H locs cells slots (vq_MQ below cls A s mc ms) (F0 m pc ls rest) := by
  obtain ⟨hc1, hs1, hmc, hms, hfr, hlo⟩ := hR
  refine W.newc (n := 6) hexec hb hown hkl (hat (.instantiable cls 6) (by simp [Bundle.ownAtoms])) hini rfl d0 hc1 hs1 fun cC kC h1 h2 h3 h4 => ?_
  refine W.eq (g2 := F0 m (pc + 3) ls (.ref H.size :: rest)) rfl ?_
  refine lv_dup hexec hb d3 rfl ?_
  intro T hT X
  have htr : e.platform.stackTraces = false := (show e.platform.stackTraces = l.stackTraces by rw [X.admits.platform]).trans hl
  obtain ⟨k5, cf5, i5, a, -, -, -, -, -, hev⟩ := Cond.stringRef_spec hown hstr
  have st1 := X.ldcString hexec hown hstr hev (g := F0 m (pc + 3 + 1) ls (.ref H.size :: .ref H.size :: rest)) rfl (by rw [hb]; exact d4)
  have hcell : T.heap[H.size]? = some (freshCell cC kC) := by rw [hT]; simp [freshCell]
  have hcat : 2 * (F0 m (pc + 3 + 1 + 2) ls (.ref a :: .ref H.size :: .ref H.size :: rest)).monitorRoom + ((Value.ref H.size :: rest).map fun v => v.category).sum + (13 * (names.length + 1) + 42) ≤ R.locals := by
    have h0 : (F0 m (pc + 3 + 1 + 2) ls (.ref a :: .ref H.size :: .ref H.size :: rest)).monitorRoom = 0 := rfl
    have h9 : (Value.ref H.size).category = 1 := rfl
    rw [h0, List.map_cons, List.sum_cons, h9]
    omega
  obtain ⟨U, st, hrun, hend, hW, hsame, ce, hce, hO⟩ := X.ctorThrowS hexec htr hown hcls hnames hat (fun x hx cell hc => hN _ (hS.2.2 x hx) cell hc) h1 h2 hcell hS.1 (msg := .ref a) rfl (g := F0 m (pc + 3 + 1 + 2) ls (.ref a :: .ref H.size :: .ref H.size :: rest)) rfl hsz rfl rfl (rest := rest) rfl
    (by rw [hb]; exact d6) (by rw [hb]; exact d9) (by rw [hno]; intro z hz; cases hz) hfr hcat hlocks
  refine ⟨U, st1 _ st, .threw H.size, hrun, hend, H.size, ce, locs, rfl, hW, ⟨hsame.2.1, fun q hq hnA => ?_⟩, hce, hO.vm, hO.cls, hsame.mono hmc hms, hS.2.2⟩
  have hg : s.heap[q]? = some s.heap[q] := Array.getElem?_eq_getElem hq
  rw [hg]
  exact hsame.kept_off (fun i hi => hnA (hS.2.2 _ hi)) hg
-- the search for a handler, behind rows that are passed; the catch types may be resolved on the way
def vq_passed (pl : Platform) (s₀ : State) (d : ClassId) (pc : Nat) (thrown : ClassId) (z : ExceptionTableEntry) : Prop := covers z pc = false ∨ (z.catchType ≠ 0 ∧ ∃ cT, s₀.vm.ClassLinks pl d z.catchType cT ∧ s₀.vm.assignable thrown cT = false)
theorem vq_search {f : JFrame} {a : Addr} {cell : Cell} (hobj : ∀ k, cell.vm ≠ .statics k) (hk0 : ∃ k, s.vm.classes[cell.cls]? = some k) (x : ExceptionTableEntry) (suf : List ExceptionTableEntry) (hx : covers x f.pc = true) (h0 : x.catchType ≠ 0)
    {cT : ClassId} (hl : s.vm.ClassLinks e.platform f.method.cls x.catchType cT) (hfit : s.vm.assignable cell.cls cT = true) :
    ∀ (pre : List ExceptionTableEntry) (S : State), s.WarmedH S.vm → S.heap[a]? = some cell → (∀ z ∈ pre, vq_passed e.platform s f.method.cls f.pc cell.cls z) →
      ∃ vm', s.WarmedH vm' ∧ ∀ (Q : Handler → Pre) (E : CtlPost) (d : Bool) (acts : List Action), wp (findHandler.go f a (pre ++ x :: suf)) Q E e d acts S ↔ Q (.found x.handlerPc) d acts (S.setVm vm') := by
  obtain ⟨k0, hk0⟩ := hk0
  have link : ∀ (z : ExceptionTableEntry) (cZ : ClassId), covers z f.pc = true → z.catchType ≠ 0 → s.vm.ClassLinks e.platform f.method.cls z.catchType cZ → ∀ S : State, s.WarmedH S.vm → S.heap[a]? = some cell → ∀ t : List ExceptionTableEntry,
      s.WarmedH (S.vm.noted f.method.cls z.catchType (.cls cZ)) ∧ ∀ (Q : Handler → Pre) (E : CtlPost) (d : Bool) (acts : List Action), wp (findHandler.go f a (z :: t)) Q E e d acts S ↔
        (if s.vm.assignable cell.cls cZ then Q (.found z.handlerPc) d acts (S.setVm (S.vm.noted f.method.cls z.catchType (.cls cZ))) else wp (findHandler.go f a t) Q E e d acts (S.setVm (S.vm.noted f.method.cls z.catchType (.cls cZ)))) := by
    intro z cZ hz hz0 hlz S hW hcell t
    obtain ⟨dk, _, _, kt, hd, _, _, _, _, hkt, _, hopen⟩ := hlz.here
    refine ⟨hW.noted hd hopen (State.rightAt_cls hlz), fun Q E d acts => ?_⟩
    obtain ⟨kt', hkt', -⟩ := hW.alike.2.2 _ _ hkt
    obtain ⟨k0', hk0', -⟩ := hW.alike.2.2 _ _ hk0
    obtain ⟨ha, ht⟩ := (resolveClass_links e.toSetting (hW.classLinks hlz)).op (op := VmOp.resolveClass f.method.cls z.catchType) rfl
    have hal : S.vm.Alike (S.vm.noted f.method.cls z.catchType (.cls cZ)) := (Vm.Alike.refl S.vm).noted _ _ _
    obtain ⟨k1', hk1', -⟩ := hal.2.2 _ _ hk0'
    obtain ⟨k2', hk2', -⟩ := hal.2.2 _ _ hkt'
    have has : (S.vm.noted f.method.cls z.catchType (.cls cZ)).assignable cell.cls cZ = s.vm.assignable cell.cls cZ := by rw [hal.assignable, hW.alike.assignable]
    simp only [covers] at hz
    by_cases hf : s.vm.assignable cell.cls cZ = true
    · rw [hf] at has
      simp [findHandler.go, hz, hz0, ha, ht, hcell, hobj, hk1', hk2', has, hf, VmOp.dirties, VmOp.acts]
    · have hf2 : s.vm.assignable cell.cls cZ = false := by simpa using hf
      rw [hf2] at has
      simp [findHandler.go, hz, hz0, ha, ht, hcell, hobj, hk1', hk2', has, hf2, VmOp.dirties, VmOp.acts]
  intro pre
  induction pre with
  | nil =>
    intro S hW hcell _
    obtain ⟨hW', hq⟩ := link x cT hx h0 hl S hW hcell suf
    exact ⟨_, hW', fun Q E d acts => by rw [List.nil_append, hq, if_pos hfit]⟩
  | cons z zs ih =>
    intro S hW hcell hpass
    have hrest : ∀ z2 ∈ zs, vq_passed e.platform s f.method.cls f.pc cell.cls z2 := fun z2 hz2 => hpass z2 (List.mem_cons_of_mem _ hz2)
    by_cases hcov : covers z f.pc = true
    · rcases hpass z (List.mem_cons_self ..) with h | ⟨hz0, cZ, hlz, hno⟩
      · rw [h] at hcov; cases hcov
      · obtain ⟨hW', hq⟩ := link z cZ hcov hz0 hlz S hW hcell (zs ++ x :: suf)
        obtain ⟨vm', hW2, hq2⟩ := ih (S.setVm (S.vm.noted f.method.cls z.catchType (.cls cZ))) hW' hcell hrest
        exact ⟨vm', hW2, fun Q E d acts => by rw [List.cons_append, hq, if_neg (by rw [hno]; decide)]; exact hq2 Q E d acts⟩
    · obtain ⟨vm', hW2, hq2⟩ := ih S hW hcell hrest
      exact ⟨vm', hW2, fun Q E d acts => by rw [List.cons_append, W.findHandler_go_skip (by simpa using hcov)]; exact hq2 Q E d acts⟩
theorem vq_sfv (u : State) (vm' : Vm) (F G : List Frame) : ((u.setFrames F).setVm vm').setFrames G = (u.setVm vm').setFrames G := by
  have h1 : (u.setFrames F).setVm vm' = (u.setVm vm').setFrames F := rfl
  rw [h1, State.setFrames_setFrames]
/-- a callee's exception, caught by the row x of this method's own table -/
theorem vq_catch {mk1 ms1 : Nat} {name : String} (hr : vq_TRun p l e R s m args below meth c H locs cells slots mk1 ms1 (F0 m pc ls st0) rest E A1) (hS : va_S A0 H0 H locs) (hA : ∀ q, A1 q → A0 q) (hown : s.vm.findClass own = some m.cls)
    (pre : List ExceptionTableEntry) (x : ExceptionTableEntry) (suf : List ExceptionTableEntry) (hsplit : c.exceptionTable.toList = pre ++ x :: suf)
    (hpass : ∀ z ∈ pre, covers z pc = false ∨ (z.catchType ≠ 0 ∧ ∃ nm : String, (Cond.classLink own z.catchType nm).before args s = true ∧ va_Nc E nm s)) (hx : covers x pc = true) (h0 : x.catchType ≠ 0)
    (hlink : (Cond.classLink own x.catchType name).before args s = true) (hcast : (Cond.castable E name).before args s = true)
    (kk : ∀ (q : Addr) (H1 : Heap) (locs1 : List Loc), H.size ≤ H1.size → (∀ q : Nat, q < H.size → ¬ A1 q → H1[q]? = H[q]?) → va_S A0 H0 H1 locs1 → W p l e R s m args below meth c H1 locs1 (cells + mk1) (slots + ms1) Q (F0 m x.handlerPc ls [.ref q])) :
    W p l e R s m args below meth c H locs cells slots Q (F0 m pc ls st0) := by
  intro T hT X
  obtain ⟨q, ce, T', L, X', hL, hz, hk, hce, hvm, hfc, st⟩ := hr T hT X
  have hpl : e.platform.magicAccessors = ({} : Platform).magicAccessors := by rw [X.admits.platform]
  obtain ⟨c3, c4, hc3, hc4, hasg⟩ := Cond.castable_spec hcast
  cases Option.some.inj (hc3.symm.trans hfc)
  obtain ⟨c5, hc5, hcl5⟩ := Cond.classLink_spec hown hlink e.platform hpl
  cases Option.some.inj (hc4.symm.trans hc5)
  have hk0 : ∃ k, s.vm.classes[ce.cls]? = some k := by obtain ⟨k9, h9, -⟩ := Vm.findClass_spec hfc; exact ⟨k9, h9⟩
  obtain ⟨vm', hW', hq⟩ := vq_search (e := e) (s := s) (f := F0 m pc ls rest) (a := q) (cell := ce) (by rw [hvm]; intro k h; cases h) hk0 x suf hx h0 hcl5 hasg pre ((T'.setTop (F0 m pc ls rest)).pushFrame (.throwing q)) X'.warmed hce
    (fun z hz => by
      rcases hpass z hz with h | ⟨hz0, nm, hl1, a8, b8, h1, h2, h3⟩
      · exact Or.inl h
      · obtain ⟨c6, hc6, hcl6⟩ := Cond.classLink_spec hown hl1 e.platform hpl
        cases Option.some.inj (h1.symm.trans hfc)
        cases Option.some.inj (h2.symm.trans hc6)
        exact Or.inr ⟨hz0, _, hcl6, h3⟩)
  have X2 := X'.noted hW'
  obtain ⟨t, a1, b1⟩ := kk q T'.heap (locs ++ L) hz hk (vq_S hS hA hL hz hk) (T'.setVm vm') rfl X2
  refine ⟨t, st.trans ?_, b1⟩
  have h : At T' (F0 m pc ls rest).method c below := X'.here
  obtain ⟨hgo, hw⟩ := h.throwing q
  refine Steps.head hgo hw ?_
  have hfind : ∀ (Q : Handler → Pre) (E : CtlPost) (d : Bool) (acts : List Action), wp (findHandler (F0 m pc ls rest) q) Q E e d acts ((T'.setTop (F0 m pc ls rest)).pushFrame (.throwing q)) ↔ Q (.found x.handlerPc) d acts (((T'.setTop (F0 m pc ls rest)).pushFrame (.throwing q)).setVm vm') := by
    intro Q E d acts
    rw [W.findHandler_eq (meth := meth) (code := c) X'.method' X'.code, hsplit]
    exact hq Q E d acts
  have hstep : (stepThrowing e ((T'.setTop (F0 m pc ls rest)).pushFrame (.throwing q)) q (.java (F0 m pc ls rest) :: below)).Is ((((T'.setTop (F0 m pc ls rest)).pushFrame (.throwing q)).setVm vm').setFrames (.java { F0 m pc ls rest with pc := x.handlerPc, stack := [.ref q] } :: below)) [] := by
    simp only [stepThrowing, searchFrame, vmDo]
    generalize hr9 : Sem.go _ e false [] _ = res
    obtain ⟨as, rfl, ha⟩ := Sem.eq_ok_of hr9 (a := Handler.found x.handlerPc) (s' := ((T'.setTop (F0 m pc ls rest)).pushFrame (.throwing q)).setVm vm') (acts' := []) (by simp [hfind _ _ _ _])
    exact ⟨rfl, ha⟩
  rw [stepThread_throwing (frames_entered h.top _), X'.tail, hstep.1]
  obtain ⟨g₀, hfr⟩ := X2.frames_eq
  rw [State.setTop_of_frames _ hfr] at a1
  rw [vq_note X', vq_sfv]
  exact a1
-- a call's words, out of one list for all
theorem vq_cB (hk : Ts.all vq_k = true) (hts : ∀ w ∈ Ts, w.before args s = true) (n : Nat) (hrc : rm.cells = mc) (hrs : rm.slots = ms) (hR : rm.frames + 1 ≤ R.frames ∧ 8 + (maxL + 11) + rm.locals ≤ R.locals) (hcode : Cond.code y bytes maxL ret ∈ Ts) (hini : Cond.initialized y.cls ∈ Ts) (hl : Cond.methodLink own index y ∈ Ts)
    (hd : y.cls ≠ "java/lang/invoke/MethodHandle" ∧ y.cls ≠ "java/lang/invoke/VarHandle" ∧ (parseMethodDescriptor y.desc).map (fun d => d.parameters.length) = some n) : CallB R s args own index y bytes maxL ret Ts rm mc ms n := by
  refine ⟨hrc, hrs, hR.1, hR.2, vq_all hk hts, hcode, hts _ hcode, hts _ hini, ⟨hd.1, hd.2.1⟩, fun sig h => ?_, hts _ hl⟩
  have h2 := hd.2.2
  rw [h] at h2
  exact (Option.some.inj h2).symm
theorem vq_cV (hk : Ts.all vq_k = true) (hts : ∀ w ∈ Ts, w.before args s = true) (n : Nat) (hrc : rm.cells = mc) (hrs : rm.slots = ms) (hR : rm.frames + 1 ≤ R.frames ∧ 8 + (maxL + 11) + rm.locals ≤ R.locals) (hcode : Cond.code y bytes maxL ret ∈ Ts) (hini : Cond.initialized y.cls ∈ Ts) (hl : Cond.methodLink own index y ∈ Ts)
    (hin : Cond.instanceMethod y ∈ Ts) (hsel : Cond.selects C y y ∈ Ts) (hd : y.cls ≠ "java/lang/invoke/MethodHandle" ∧ y.cls ≠ "java/lang/invoke/VarHandle" ∧ (parseMethodDescriptor y.desc).map (fun d => d.parameters.length) = some n) : CallW R s args own C index y bytes maxL ret Ts rm mc ms n :=
  ⟨vq_cB hk hts n hrc hrs hR hcode hini hl hd, hts _ hin, hts _ hsel⟩
theorem vq_cI (hk : Ts.all vq_k = true) (hts : ∀ w ∈ Ts, w.before args s = true) (n : Nat) (hrc : rm.cells = mc) (hrs : rm.slots = ms) (hR : rm.frames + 1 ≤ R.frames ∧ 8 + (maxL + 11) + rm.locals ≤ R.locals) (hcode : Cond.code y bytes maxL none ∈ Ts) (hini : Cond.initialized y.cls ∈ Ts) (hl : Cond.methodLink own index y ∈ Ts)
    (hin : Cond.instanceMethod y ∈ Ts) (hnm : y.name = "<init>") (hd : y.cls ≠ "java/lang/invoke/MethodHandle" ∧ y.cls ≠ "java/lang/invoke/VarHandle" ∧ (parseMethodDescriptor y.desc).map (fun d => d.parameters.length) = some n) : CallB R s args own index y bytes maxL none Ts rm mc ms n ∧ y.name = "<init>" ∧ (Cond.instanceMethod y).before args s = true :=
  ⟨vq_cB hk hts n hrc hrs hR hcode hini hl hd, hnm, hts _ hin⟩
theorem vq_cS (hk : Ts.all vq_k = true) (hts : ∀ w ∈ Ts, w.before args s = true) (n : Nat) (hrc : rm.cells = mc) (hrs : rm.slots = ms) (hR : rm.frames + 1 ≤ R.frames ∧ 8 + (maxL + 11) + rm.locals ≤ R.locals) (hcode : Cond.code y bytes maxL ret ∈ Ts) (hini : Cond.initialized y.cls ∈ Ts) (hl : Cond.methodLink own index y ∈ Ts)
    (hin : Cond.static y ∈ Ts) (hd : y.cls ≠ "java/lang/invoke/MethodHandle" ∧ y.cls ≠ "java/lang/invoke/VarHandle" ∧ (parseMethodDescriptor y.desc).map (fun d => d.parameters.length) = some n) : CallB R s args own index y bytes maxL ret Ts rm mc ms n ∧ (Cond.static y).before args s = true :=
  ⟨vq_cB hk hts n hrc hrs hR hcode hini hl hd, hts _ hin⟩
theorem vq_cIN {host : String} (hk : Ts.all vq_k = true) (hts : ∀ w ∈ Ts, w.before args s = true) (n : Nat) (hrc : rm.cells = mc) (hrs : rm.slots = ms) (hR : rm.frames + 1 ≤ R.frames ∧ 8 + (maxL + 11) + rm.locals ≤ R.locals) (hcode : Cond.code y bytes maxL none ∈ Ts) (hini : Cond.initialized y.cls ∈ Ts) (hl : Cond.methodLinkNest own index y host ∈ Ts)
    (hin : Cond.instanceMethod y ∈ Ts) (hnm : y.name = "<init>") (hd : y.cls ≠ "java/lang/invoke/MethodHandle" ∧ y.cls ≠ "java/lang/invoke/VarHandle" ∧ (parseMethodDescriptor y.desc).map (fun d => d.parameters.length) = some n) : va_CN R s args own index y host bytes maxL none Ts rm mc ms n ∧ y.name = "<init>" ∧ (Cond.instanceMethod y).before args s = true := by
  refine ⟨⟨⟨hrc, hrs, hR.1, hR.2, vq_all hk hts, hcode⟩, hts _ hcode, hts _ hini, ⟨hd.1, hd.2.1⟩, fun sig h => ?_, hts _ hl⟩, hnm, hts _ hin⟩
  have h2 := hd.2.2
  rw [h] at h2
  exact (Option.some.inj h2).symm
/-- a static method that has handlers, and returns -/
theorem vq_runSH {Qc : Array Value → State → Outcome → State → Prop} {free : Addr → Prop} {hh : List (Nat × Nat × Nat × Nat)} (S : CallFix p m c cc nL s args Ts own) (hM : Met l y Ts rm Pc Qc mc ms free) (hk : Ts.all vq_k = true) (hrc : rm.cells = mc) (hrs : rm.slots = ms) (hR : rm.frames + 1 ≤ R.frames ∧ 8 + (maxL + 11) + rm.locals ≤ R.locals)
    (hcode : Cond.codeWith y bytes maxL ret hh ∈ Ts) (hini : Cond.initialized y.cls ∈ Ts) (hl : Cond.methodLink own index y ∈ Ts) (hstat : Cond.static y ∈ Ts) (hd : y.cls ≠ "java/lang/invoke/MethodHandle" ∧ y.cls ≠ "java/lang/invoke/VarHandle" ∧ (parseMethodDescriptor y.desc).map (fun d => d.parameters.length) = some n)
    (hp : PreS s H Pc As) (hg : g.method = m) (hn : As.length = n) (hsize : g.locals.size = nL) (hstack : g.stack = As.reverse ++ rest) (hW : 2 * g.monitorRoom + (rest.map fun v => v.category).sum ≤ 8) (hdg : decode cc g.pc = .ok (.invokestatic index, 3)) (hf : cells + mc ≤ R.cells ∧ slots + ms ≤ R.slots) :
    va_Run p l e R s m args below meth c H locs cells slots mc ms g rest (Qc As.toArray) free := by
  obtain ⟨hexec, hb, hml, hown, hts⟩ := S
  obtain ⟨hblind, hPc⟩ := hp
  have hws := vq_all hk hts
  intro T hT X
  subst hb
  obtain ⟨mk, methM, cM, hnamed, hmethM, -, -, -, -, -, -, hsigM⟩ := Cond.codeWith_spec (hts _ hcode)
  have hstatic : methM.isStatic = true := Cond.static_spec hnamed hmethM (hts _ hstat)
  obtain ⟨kP, hkP, -⟩ := className_of_methodNamed hnamed
  have hinitP : kP.init = .initialized := Cond.initialized_spec (findClass_of_methodNamed hnamed) hkP (hts _ hini)
  have hlen : As.length = methM.sig.parameters.length := by
    have h2 := hd.2.2
    rw [hsigM] at h2
    exact hn.trans (Option.some.inj h2).symm
  obtain ⟨vm₁, X₁, hstep₁⟩ := X.invokestatic hexec hown (hts _ hl) hnamed hmethM hstatic hkP hinitP ⟨hd.1, hd.2.1⟩ (g := g) hg (argsL := As) (rest := rest) hlen hstack hdg
  have hn₁ : (T.setVm vm₁).methodNamed? y = some mk := X₁.named hnamed
  have hw₁ : s.WarmedH (T.setVm vm₁).vm := X₁.warmed
  obtain ⟨mk', methY, cY, hmk', hmY, hcY, -, hlY, -, -, -, -⟩ := Cond.codeWith_spec (hws _ hcode As.toArray (T.setVm vm₁) hw₁)
  cases Option.some.inj (hn₁.symm.trans hmk')
  obtain ⟨o, s₂, hsteps, hend, hq, L, hFE, hL⟩ := vq_go X₁ (W := 8) (maxL := maxL) (g := { g with stack := rest }) (a := As.toArray) hM hg (hsize.trans hml.symm) hdg hW hn₁ ⟨methY, cY, hmY, hcY, hlY⟩
    (hws _ hini _ _ hw₁) (atoms_intro fun w hw => hws w hw _ _ hw₁) hR.1 hR.2 (by rw [show (headSpec Ts rm).room.cells = mc from hrc]; exact hf.1) (by rw [show (headSpec Ts rm).room.slots = ms from hrs]; exact hf.2)
    (hblind _ _ _ _ (hPc (T.setVm vm₁) hT hw₁))
  obtain ⟨⟨v, rfl⟩, hW₂, hsame⟩ := hFE
  obtain ⟨X', hs₂⟩ := vq_back X₁ hW₂ hsame
  obtain ⟨c₂, i₂, len₂, hc₂, hd₂, hf₂⟩ := hend
  have hW' : (T.setVm vm₁).WarmedH s₂.vm := hW₂
  have hcc : c₂ = c := by
    have h1 : s₂.code? m = (T.setVm vm₁).code? m := by rw [State.code?_eq, State.code?_eq, hW'.alike.method?]
    have h2 : s₂.code? m = some c₂ := by rw [← hg]; exact hc₂
    exact Option.some.inj (h2.symm.trans (h1.trans X₁.here.code))
  subst hcc
  have hlen2 : len₂ = 3 := by
    have h1 : decode c₂.code g.pc = .ok (i₂, len₂) := hd₂
    rw [hdg] at h1
    cases h1
    rfl
  subst hlen2
  refine ⟨v, (T.setVm vm₁).calling { g with stack := rest } mk As.toArray, s₂, _, L, hT, X', hL, rfl, rfl, hq, fun tg htg => ?_⟩
  refine hstep₁ _ fun acts => ?_
  rw [doInvoke_state]
  refine hsteps.trans ?_
  obtain ⟨g₀, hfr⟩ := X'.frames_eq
  rw [State.setTop_of_frames _ hfr] at htg
  rw [hs₂, hf₂, X₁.tail]
  exact htg
end VQ
-- the form of all my contracts: what is asked of the start, what the end gives
abbrev vq_Pre (D : va_G) (cl : List vw_C) (sz : Nat) (ws : va_W) (tys : List (ClassId × FieldType)) (U : State) : Prop := vq_st U ∧ U.heap.size = sz ∧ va_P D cl ws U.heap ∧ va_K D cl tys U ∧ va_D (fun _ => True) ws
abbrev vq_Post (D : va_G) (cl : List vw_C) (A : Nat → Prop) (ws : va_W) (tys : List (ClassId × FieldType)) (t : State) : Prop := va_P D cl ws t.heap ∧ va_K D cl tys t ∧ va_D A ws
theorem vq_blind {D : va_G} {cl : List vw_C} {sz : Nat} {ws : va_W} {tys : List (ClassId × FieldType)} {av : List Value} : FrameBlind (va_Pc av (vq_Pre D cl sz ws tys)) := by
  intro a U g mk q
  obtain ⟨q0, qs, q1, qP, qK, qD⟩ := q
  exact ⟨q0, vq_st.moved (s := U) (U := U.calling g mk a) (Vm.Alike.refl U.vm) (fun _ _ h _ => h) qs, q1, qP, va_K.moved (u := U) (U := U.calling g mk a) (Vm.Alike.refl U.vm) qK, qD⟩
theorem vq_here {D : va_G} {cl : List vw_C} {ws : va_W} {tys : List (ClassId × FieldType)} {av : List Value} {s : State} {H : Heap} {A : Nat → Prop} {locs : List Loc} (hst : vq_st s) (hS : va_S A s.heap H locs) (hN : ∀ q : Nat, A q → ∀ cell : Cell, s.heap[q]? = some cell → cell.vm.isStatics = false)
    (hP : va_P D cl ws H) (hK : va_K D cl tys s) (hD : va_D A ws) : ∀ U : State, U.heap = H → s.WarmedH U.vm → va_Pc av (vq_Pre D cl H.size ws tys) av.toArray U := by
  intro U hU hW
  subst hU
  exact ⟨rfl, vq_st.moved hW.alike (vq_kept.of hS hN) hst, rfl, hP, va_K.moved hW.alike hK, hD.weaken (fun _ _ _ _ => trivial)⟩
theorem vq_P0 {D : va_G} {cl : List vw_C} {H : Heap} : va_P D cl [] H := fun k q h => by simp at h
theorem vq_D0 {A : Nat → Prop} : va_D A [] := ⟨fun i j p q h => by simp at h, fun k q h => by simp at h⟩
theorem vq_top {p : Program} {l : Launch} {e : Env} {R : Room} {s : State} {m : MethodId} {args : Array Value} {below : List Frame} {meth : Method} {c : Code} {H : Heap} {locs : List Loc} {cells slots : Nat} {Q : State → Prop} {pc : Nat} {ls : Array Slot} {rest : List Value} {x y : Int32} (h : x = y)
    (k : W p l e R s m args below meth c H locs cells slots Q (F0 m pc ls (.int y :: rest))) : W p l e R s m args below meth c H locs cells slots Q (F0 m pc ls (.int x :: rest)) := by rw [h]; exact k
theorem vq_topl {p : Program} {l : Launch} {e : Env} {R : Room} {s : State} {m : MethodId} {args : Array Value} {below : List Frame} {meth : Method} {c : Code} {H : Heap} {locs : List Loc} {cells slots : Nat} {Q : State → Prop} {pc : Nat} {ls : Array Slot} {rest : List Value} {x y : Int64} (h : x = y)
    (k : W p l e R s m args below meth c H locs cells slots Q (F0 m pc ls (.long y :: rest))) : W p l e R s m args below meth c H locs cells slots Q (F0 m pc ls (.long x :: rest)) := by rw [h]; exact k
theorem vq_short (L : Nat) (h : L < 6) : Int32.ofNat L - 6 < 0 := by
  have h1 : L = 0 ∨ L = 1 ∨ L = 2 ∨ L = 3 ∨ L = 4 ∨ L = 5 := by omega
  rcases h1 with rfl | rfl | rfl | rfl | rfl | rfl <;> decide
theorem vq_g4 {x : Int32} (h0 : ¬ x < 0) : (x < 4 ↔ x ≤ 3) ∧ (x < 4 → vp_in x 4) := by
  have e4 : (4 : Int32).toInt = 4 := by decide
  have e3 : (3 : Int32).toInt = 3 := by decide
  have e0 : (0 : Int32).toInt = 0 := by decide
  rw [Int32.lt_iff_toInt_lt, e0] at h0
  refine ⟨?_, fun h => ?_⟩
  · rw [Int32.lt_iff_toInt_lt, Int32.le_iff_toInt_le, e4, e3]; omega
  · rw [Int32.lt_iff_toInt_lt, e4] at h
    rw [vp_in_iff]
    omega
theorem vq_f4 {x : Int32} (e0 : ¬ x = 0) (e1 : ¬ x = 1) (e2 : ¬ x = 2) : x.toInt < 0 ∨ 2 < x.toInt := by
  have k : ∀ y : Int32, x.toInt = y.toInt → x = y := fun y h => Int32.toInt_inj.mp h
  by_cases h : x.toInt < 0
  · exact Or.inl h
  · refine Or.inr ?_
    by_cases h0 : x.toInt = 0
    · exact absurd (k 0 (h0.trans (by decide))) e0
    by_cases h1 : x.toInt = 1
    · exact absurd (k 1 (h1.trans (by decide))) e1
    by_cases h2 : x.toInt = 2
    · exact absurd (k 2 (h2.trans (by decide))) e2
    omega
end
section
/-! Names: classes, fields, methods, the words that are used, decoded instructions. Written by wip/tools/gen.py. -/
def R_V : String := "VisitGrammar"
def R_G : String := "VisitGrammar$Grammar"
def R_A : String := "VisitGrammar$Analysis"
def R_E : String := "VisitGrammar$Leads"
def R_K : String := "VisitGrammar$Ranking"
def R_Q : String := "VisitGrammar$Sequences"
def R_Z : String := "VisitGrammar$Tree"
def R_U : String := "VisitGrammar$Walk"
def R_M : String := "VisitGrammarModel"
def R_L : String := "VisitGrammarLaw"
def F_V : u_T := fun k => match k with
  | 0 => ("VisitGrammar", "grammar", "LVisitGrammar$Grammar;", true)
  | 1 => ("VisitGrammar", "analysis", "LVisitGrammar$Analysis;", true)
  | 2 => ("VisitGrammar", "tree", "LVisitGrammar$Tree;", true)
  | _ => ("VisitGrammar", "walk", "LVisitGrammar$Walk;", true)
def t_V : Nat → FieldType := fun k => match k with
  | 0 => .object "VisitGrammar$Grammar"
  | 1 => .object "VisitGrammar$Analysis"
  | 2 => .object "VisitGrammar$Tree"
  | _ => .object "VisitGrammar$Walk"
def F_G : u_T := fun k => match k with
  | 0 => ("VisitGrammar$Grammar", "attributeCounts", "[I", true)
  | 1 => ("VisitGrammar$Grammar", "inheritedBits", "[I", true)
  | 2 => ("VisitGrammar$Grammar", "symbolCount", "I", false)
  | 3 => ("VisitGrammar$Grammar", "symbolsAt", "[I", true)
  | 4 => ("VisitGrammar$Grammar", "lastPositions", "[I", true)
  | 5 => ("VisitGrammar$Grammar", "presentBits", "[I", true)
  | 6 => ("VisitGrammar$Grammar", "toDefineBits", "[I", true)
  | 7 => ("VisitGrammar$Grammar", "productionCount", "I", false)
  | 8 => ("VisitGrammar$Grammar", "ruledBits", "[I", true)
  | 9 => ("VisitGrammar$Grammar", "forms", "[I", true)
  | 10 => ("VisitGrammar$Grammar", "firsts", "[I", true)
  | 11 => ("VisitGrammar$Grammar", "seconds", "[I", true)
  | _ => ("VisitGrammar$Grammar", "usedBits", "[I", true)
def t_G : Nat → FieldType := fun k => match k with
  | 0 => .array .int
  | 1 => .array .int
  | 2 => .int
  | 3 => .array .int
  | 4 => .array .int
  | 5 => .array .int
  | 6 => .array .int
  | 7 => .int
  | 8 => .array .int
  | 9 => .array .int
  | 10 => .array .int
  | 11 => .array .int
  | _ => .array .int
def F_A : u_T := fun k => match k with
  | 0 => ("VisitGrammar$Analysis", "grammar", "LVisitGrammar$Grammar;", true)
  | 1 => ("VisitGrammar$Analysis", "leads", "LVisitGrammar$Leads;", true)
  | 2 => ("VisitGrammar$Analysis", "ranking", "LVisitGrammar$Ranking;", true)
  | 3 => ("VisitGrammar$Analysis", "sequences", "LVisitGrammar$Sequences;", true)
  | 4 => ("VisitGrammar$Analysis", "present", "Z", false)
  | 5 => ("VisitGrammar$Analysis", "faultKind", "I", false)
  | 6 => ("VisitGrammar$Analysis", "faultProduction", "I", false)
  | _ => ("VisitGrammar$Analysis", "faultOccurrence", "I", false)
def t_A : Nat → FieldType := fun k => match k with
  | 0 => .object "VisitGrammar$Grammar"
  | 1 => .object "VisitGrammar$Leads"
  | 2 => .object "VisitGrammar$Ranking"
  | 3 => .object "VisitGrammar$Sequences"
  | 4 => .boolean
  | 5 => .int
  | 6 => .int
  | _ => .int
def F_E : u_T := fun k => match k with
  | 0 => ("VisitGrammar$Leads", "grammar", "LVisitGrammar$Grammar;", true)
  | 1 => ("VisitGrammar$Leads", "ofOccurrences", "[I", true)
  | _ => ("VisitGrammar$Leads", "ofAttributes", "[I", true)
def t_E : Nat → FieldType := fun k => match k with
  | 0 => .object "VisitGrammar$Grammar"
  | 1 => .array .int
  | _ => .array .int
def F_K : u_T := fun k => match k with
  | 0 => ("VisitGrammar$Ranking", "grammar", "LVisitGrammar$Grammar;", true)
  | 1 => ("VisitGrammar$Ranking", "leads", "LVisitGrammar$Leads;", true)
  | 2 => ("VisitGrammar$Ranking", "ranks", "[I", true)
  | 3 => ("VisitGrammar$Ranking", "visitCounts", "[I", true)
  | _ => ("VisitGrammar$Ranking", "belonging", "[I", true)
def t_K : Nat → FieldType := fun k => match k with
  | 0 => .object "VisitGrammar$Grammar"
  | 1 => .object "VisitGrammar$Leads"
  | 2 => .array .int
  | 3 => .array .int
  | _ => .array .int
def F_Q : u_T := fun k => match k with
  | 0 => ("VisitGrammar$Sequences", "grammar", "LVisitGrammar$Grammar;", true)
  | 1 => ("VisitGrammar$Sequences", "ranking", "LVisitGrammar$Ranking;", true)
  | 2 => ("VisitGrammar$Sequences", "instructions", "[I", true)
  | 3 => ("VisitGrammar$Sequences", "lengths", "[I", true)
  | 4 => ("VisitGrammar$Sequences", "visitsWritten", "[I", true)
  | 5 => ("VisitGrammar$Sequences", "setBits", "I", false)
  | _ => ("VisitGrammar$Sequences", "knownBits", "I", false)
def t_Q : Nat → FieldType := fun k => match k with
  | 0 => .object "VisitGrammar$Grammar"
  | 1 => .object "VisitGrammar$Ranking"
  | 2 => .array .int
  | 3 => .array .int
  | 4 => .array .int
  | 5 => .int
  | _ => .int
def F_Z : u_T := fun k => match k with
  | 0 => ("VisitGrammar$Tree", "grammar", "LVisitGrammar$Grammar;", true)
  | 1 => ("VisitGrammar$Tree", "productions", "[I", true)
  | 2 => ("VisitGrammar$Tree", "tokens", "[I", true)
  | 3 => ("VisitGrammar$Tree", "parents", "[I", true)
  | 4 => ("VisitGrammar$Tree", "nodesAt", "[I", true)
  | _ => ("VisitGrammar$Tree", "nodeCount", "I", false)
def t_Z : Nat → FieldType := fun k => match k with
  | 0 => .object "VisitGrammar$Grammar"
  | 1 => .array .int
  | 2 => .array .int
  | 3 => .array .int
  | 4 => .array .int
  | _ => .int
def F_U : u_T := fun k => match k with
  | 0 => ("VisitGrammar$Walk", "grammar", "LVisitGrammar$Grammar;", true)
  | 1 => ("VisitGrammar$Walk", "sequences", "LVisitGrammar$Sequences;", true)
  | 2 => ("VisitGrammar$Walk", "tree", "LVisitGrammar$Tree;", true)
  | 3 => ("VisitGrammar$Walk", "given", "[I", true)
  | 4 => ("VisitGrammar$Walk", "values", "[I", true)
  | 5 => ("VisitGrammar$Walk", "knownBits", "[I", true)
  | 6 => ("VisitGrammar$Walk", "instructionsDone", "[I", true)
  | 7 => ("VisitGrammar$Walk", "state", "I", false)
  | 8 => ("VisitGrammar$Walk", "root", "I", false)
  | _ => ("VisitGrammar$Walk", "nodeAtHand", "I", false)
def t_U : Nat → FieldType := fun k => match k with
  | 0 => .object "VisitGrammar$Grammar"
  | 1 => .object "VisitGrammar$Sequences"
  | 2 => .object "VisitGrammar$Tree"
  | 3 => .array .int
  | 4 => .array .int
  | 5 => .array .int
  | 6 => .array .int
  | 7 => .int
  | 8 => .int
  | _ => .int
def F_M : u_T := fun k => match k with
  | 0 => ("VisitGrammarModel", "code", "I", false)
  | 1 => ("VisitGrammarModel", "symbols", "I", false)
  | 2 => ("VisitGrammarModel", "attributes", "[I", true)
  | 3 => ("VisitGrammarModel", "inherits", "[Z", true)
  | 4 => ("VisitGrammarModel", "productions", "I", false)
  | 5 => ("VisitGrammarModel", "positions", "[I", true)
  | 6 => ("VisitGrammarModel", "symbolAt", "[I", true)
  | 7 => ("VisitGrammarModel", "form", "[I", true)
  | 8 => ("VisitGrammarModel", "ruleX", "[I", true)
  | 9 => ("VisitGrammarModel", "ruleY", "[I", true)
  | 10 => ("VisitGrammarModel", "analysed", "Z", false)
  | 11 => ("VisitGrammarModel", "faultKind", "I", false)
  | 12 => ("VisitGrammarModel", "faultProduction", "I", false)
  | 13 => ("VisitGrammarModel", "faultOccurrence", "I", false)
  | 14 => ("VisitGrammarModel", "uses", "[Z", true)
  | 15 => ("VisitGrammarModel", "leads", "[Z", true)
  | 16 => ("VisitGrammarModel", "symbolLeads", "[Z", true)
  | 17 => ("VisitGrammarModel", "order", "[Z", true)
  | 18 => ("VisitGrammarModel", "rank", "[I", true)
  | 19 => ("VisitGrammarModel", "visits", "[I", true)
  | 20 => ("VisitGrammarModel", "length", "[I", true)
  | 21 => ("VisitGrammarModel", "sequence", "[I", true)
  | 22 => ("VisitGrammarModel", "set", "[Z", true)
  | 23 => ("VisitGrammarModel", "visited", "[I", true)
  | 24 => ("VisitGrammarModel", "nodes", "I", false)
  | 25 => ("VisitGrammarModel", "production", "[I", true)
  | 26 => ("VisitGrammarModel", "token", "[I", true)
  | 27 => ("VisitGrammarModel", "child", "[I", true)
  | 28 => ("VisitGrammarModel", "parent", "[I", true)
  | 29 => ("VisitGrammarModel", "next", "[I", true)
  | 30 => ("VisitGrammarModel", "known", "[Z", true)
  | 31 => ("VisitGrammarModel", "value", "[I", true)
  | 32 => ("VisitGrammarModel", "given", "[I", true)
  | 33 => ("VisitGrammarModel", "root", "I", false)
  | _ => ("VisitGrammarModel", "hand", "I", false)
def t_M : Nat → FieldType := fun k => match k with
  | 0 => .int
  | 1 => .int
  | 2 => .array .int
  | 3 => .array .boolean
  | 4 => .int
  | 5 => .array .int
  | 6 => .array .int
  | 7 => .array .int
  | 8 => .array .int
  | 9 => .array .int
  | 10 => .boolean
  | 11 => .int
  | 12 => .int
  | 13 => .int
  | 14 => .array .boolean
  | 15 => .array .boolean
  | 16 => .array .boolean
  | 17 => .array .boolean
  | 18 => .array .int
  | 19 => .array .int
  | 20 => .array .int
  | 21 => .array .int
  | 22 => .array .boolean
  | 23 => .array .int
  | 24 => .int
  | 25 => .array .int
  | 26 => .array .int
  | 27 => .array .int
  | 28 => .array .int
  | 29 => .array .int
  | 30 => .array .boolean
  | 31 => .array .int
  | 32 => .array .int
  | 33 => .int
  | _ => .int
def y_V_init : MethodName := ⟨"VisitGrammar", "<init>", "()V"⟩
def y_V_symbol : MethodName := ⟨"VisitGrammar", "symbol", "(II)I"⟩
def y_V_production : MethodName := ⟨"VisitGrammar", "production", "(IIII)I"⟩
def y_V_rule : MethodName := ⟨"VisitGrammar", "rule", "(IIIII)V"⟩
def y_V_analyse : MethodName := ⟨"VisitGrammar", "analyse", "()I"⟩
def y_V_fault : MethodName := ⟨"VisitGrammar", "fault", "(I)I"⟩
def y_V_visits : MethodName := ⟨"VisitGrammar", "visits", "(I)I"⟩
def y_V_rank : MethodName := ⟨"VisitGrammar", "rank", "(II)I"⟩
def y_V_instruction : MethodName := ⟨"VisitGrammar", "instruction", "(II)I"⟩
def y_V_node : MethodName := ⟨"VisitGrammar", "node", "(IIIII)I"⟩
def y_V_fell : MethodName := ⟨"VisitGrammar", "fell", "()V"⟩
def y_V_give : MethodName := ⟨"VisitGrammar", "give", "(II)V"⟩
def y_V_start : MethodName := ⟨"VisitGrammar", "start", "(I)V"⟩
def y_V_run : MethodName := ⟨"VisitGrammar", "run", "(I)I"⟩
def y_V_status : MethodName := ⟨"VisitGrammar", "status", "()I"⟩
def y_V_atHand : MethodName := ⟨"VisitGrammar", "atHand", "()I"⟩
def y_V_knows : MethodName := ⟨"VisitGrammar", "knows", "(II)Z"⟩
def y_V_value : MethodName := ⟨"VisitGrammar", "value", "(II)I"⟩
def y_V_dropAnalysis : MethodName := ⟨"VisitGrammar", "dropAnalysis", "()V"⟩
def y_V_requireAnalysis : MethodName := ⟨"VisitGrammar", "requireAnalysis", "()V"⟩
def y_V_requireAttribute : MethodName := ⟨"VisitGrammar", "requireAttribute", "(II)V"⟩
def y_V_holds : MethodName := ⟨"VisitGrammar", "holds", "(II)Z"⟩
def y_V_holdsAll : MethodName := ⟨"VisitGrammar", "holdsAll", "(II)Z"⟩
def y_V_leastOf : MethodName := ⟨"VisitGrammar", "leastOf", "(I)I"⟩
def y_M_init : MethodName := ⟨"VisitGrammarModel", "<init>", "()V"⟩
def y_M_thrown : MethodName := ⟨"VisitGrammarModel", "thrown", "()I"⟩
def y_M_fail : MethodName := ⟨"VisitGrammarModel", "fail", "(I)I"⟩
def y_M_endRun : MethodName := ⟨"VisitGrammarModel", "endRun", "()V"⟩
def y_M_forget : MethodName := ⟨"VisitGrammarModel", "forget", "()V"⟩
def y_M_symbol : MethodName := ⟨"VisitGrammarModel", "symbol", "(II)I"⟩
def y_M_isSymbol : MethodName := ⟨"VisitGrammarModel", "isSymbol", "(I)Z"⟩
def y_M_production : MethodName := ⟨"VisitGrammarModel", "production", "(IIII)I"⟩
def y_M_isOccurrence : MethodName := ⟨"VisitGrammarModel", "isOccurrence", "(II)Z"⟩
def y_M_attributeOf : MethodName := ⟨"VisitGrammarModel", "attributeOf", "(II)I"⟩
def y_M_isDefined : MethodName := ⟨"VisitGrammarModel", "isDefined", "(II)Z"⟩
def y_M_needs : MethodName := ⟨"VisitGrammarModel", "needs", "(I)I"⟩
def y_M_rule : MethodName := ⟨"VisitGrammarModel", "rule", "(IIIII)V"⟩
def y_M_isUsed : MethodName := ⟨"VisitGrammarModel", "isUsed", "(III)Z"⟩
def y_M_lacks : MethodName := ⟨"VisitGrammarModel", "lacks", "()Z"⟩
def y_M_blame : MethodName := ⟨"VisitGrammarModel", "blame", "(III)Z"⟩
def y_M_begin : MethodName := ⟨"VisitGrammarModel", "begin", "()V"⟩
def y_M_learn : MethodName := ⟨"VisitGrammarModel", "learn", "(I)Z"⟩
def y_M_circles : MethodName := ⟨"VisitGrammarModel", "circles", "()Z"⟩
def y_M_reach : MethodName := ⟨"VisitGrammarModel", "reach", "(II)I"⟩
def y_M_rankAll : MethodName := ⟨"VisitGrammarModel", "rankAll", "(I)V"⟩
def y_M_isDemanded : MethodName := ⟨"VisitGrammarModel", "isDemanded", "(III)Z"⟩
def y_M_mixes : MethodName := ⟨"VisitGrammarModel", "mixes", "()Z"⟩
def y_M_visitOf : MethodName := ⟨"VisitGrammarModel", "visitOf", "(II)I"⟩
def y_M_isKnown : MethodName := ⟨"VisitGrammarModel", "isKnown", "(II)Z"⟩
def y_M_canSet : MethodName := ⟨"VisitGrammarModel", "canSet", "(II)Z"⟩
def y_M_isPrepared : MethodName := ⟨"VisitGrammarModel", "isPrepared", "(III)Z"⟩
def y_M_canGo : MethodName := ⟨"VisitGrammarModel", "canGo", "(II)Z"⟩
def y_M_plan : MethodName := ⟨"VisitGrammarModel", "plan", "(I)V"⟩
def y_M_analyse : MethodName := ⟨"VisitGrammarModel", "analyse", "()I"⟩
def y_M_fault : MethodName := ⟨"VisitGrammarModel", "fault", "(I)I"⟩
def y_M_visits : MethodName := ⟨"VisitGrammarModel", "visits", "(I)I"⟩
def y_M_rank : MethodName := ⟨"VisitGrammarModel", "rank", "(II)I"⟩
def y_M_instruction : MethodName := ⟨"VisitGrammarModel", "instruction", "(II)I"⟩
def y_M_fits : MethodName := ⟨"VisitGrammarModel", "fits", "(III)Z"⟩
def y_M_node : MethodName := ⟨"VisitGrammarModel", "node", "(IIIII)I"⟩
def y_M_fell : MethodName := ⟨"VisitGrammarModel", "fell", "()V"⟩
def y_M_give : MethodName := ⟨"VisitGrammarModel", "give", "(II)V"⟩
def y_M_isNode : MethodName := ⟨"VisitGrammarModel", "isNode", "(I)Z"⟩
def y_M_start : MethodName := ⟨"VisitGrammarModel", "start", "(I)V"⟩
def y_M_cell : MethodName := ⟨"VisitGrammarModel", "cell", "(II)I"⟩
def y_M_worth : MethodName := ⟨"VisitGrammarModel", "worth", "(II)I"⟩
def y_M_step : MethodName := ⟨"VisitGrammarModel", "step", "()V"⟩
def y_M_run : MethodName := ⟨"VisitGrammarModel", "run", "(I)I"⟩
def y_M_status : MethodName := ⟨"VisitGrammarModel", "status", "()I"⟩
def y_M_atHand : MethodName := ⟨"VisitGrammarModel", "atHand", "()I"⟩
def y_M_isAttribute : MethodName := ⟨"VisitGrammarModel", "isAttribute", "(II)Z"⟩
def y_M_knows : MethodName := ⟨"VisitGrammarModel", "knows", "(II)Z"⟩
def y_M_value : MethodName := ⟨"VisitGrammarModel", "value", "(II)I"⟩
def y_A_init : MethodName := ⟨"VisitGrammar$Analysis", "<init>", "(LVisitGrammar$Grammar;)V"⟩
def y_A_make : MethodName := ⟨"VisitGrammar$Analysis", "make", "()V"⟩
def y_A_forgetFault : MethodName := ⟨"VisitGrammar$Analysis", "forgetFault", "()V"⟩
def y_A_isComplete : MethodName := ⟨"VisitGrammar$Analysis", "isComplete", "()Z"⟩
def y_A_isWithoutCircle : MethodName := ⟨"VisitGrammar$Analysis", "isWithoutCircle", "()Z"⟩
def y_A_isOrdered : MethodName := ⟨"VisitGrammar$Analysis", "isOrdered", "()Z"⟩
def y_A_noneLeadsToItself : MethodName := ⟨"VisitGrammar$Analysis", "noneLeadsToItself", "(I)Z"⟩
def y_A_noteFault : MethodName := ⟨"VisitGrammar$Analysis", "noteFault", "(III)V"⟩
def y_G_init : MethodName := ⟨"VisitGrammar$Grammar", "<init>", "()V"⟩
def y_G_hasSymbol : MethodName := ⟨"VisitGrammar$Grammar", "hasSymbol", "(I)Z"⟩
def y_G_hasAttribute : MethodName := ⟨"VisitGrammar$Grammar", "hasAttribute", "(II)Z"⟩
def y_G_hasProduction : MethodName := ⟨"VisitGrammar$Grammar", "hasProduction", "(I)Z"⟩
def y_G_hasOccurrence : MethodName := ⟨"VisitGrammar$Grammar", "hasOccurrence", "(II)Z"⟩
def y_G_isToBeDefined : MethodName := ⟨"VisitGrammar$Grammar", "isToBeDefined", "(II)Z"⟩
def y_G_isRight : MethodName := ⟨"VisitGrammar$Grammar", "isRight", "(III)Z"⟩
def y_G_isForm : MethodName := ⟨"VisitGrammar$Grammar", "isForm", "(IIII)Z"⟩
def y_G_symbolAt : MethodName := ⟨"VisitGrammar$Grammar", "symbolAt", "(II)I"⟩
def y_G_addSymbol : MethodName := ⟨"VisitGrammar$Grammar", "addSymbol", "(II)I"⟩
def y_G_addProduction : MethodName := ⟨"VisitGrammar$Grammar", "addProduction", "(IIII)I"⟩
def y_G_place : MethodName := ⟨"VisitGrammar$Grammar", "place", "(III)V"⟩
def y_G_setRule : MethodName := ⟨"VisitGrammar$Grammar", "setRule", "(IIIII)V"⟩
def y_G_allAttributes : MethodName := ⟨"VisitGrammar$Grammar", "allAttributes", "(I)I"⟩
def y_G_leastWithoutRule : MethodName := ⟨"VisitGrammar$Grammar", "leastWithoutRule", "(I)I"⟩
def y_G_usesFirst : MethodName := ⟨"VisitGrammar$Grammar", "usesFirst", "(I)Z"⟩
def y_G_usesSecond : MethodName := ⟨"VisitGrammar$Grammar", "usesSecond", "(I)Z"⟩
def y_E_init : MethodName := ⟨"VisitGrammar$Leads", "<init>", "(LVisitGrammar$Grammar;)V"⟩
def y_E_spread : MethodName := ⟨"VisitGrammar$Leads", "spread", "()V"⟩
def y_E_takeOrder : MethodName := ⟨"VisitGrammar$Leads", "takeOrder", "()V"⟩
def y_E_leastLeadingToItself : MethodName := ⟨"VisitGrammar$Leads", "leastLeadingToItself", "(I)I"⟩
def y_E_takeRules : MethodName := ⟨"VisitGrammar$Leads", "takeRules", "()V"⟩
def y_E_takeRule : MethodName := ⟨"VisitGrammar$Leads", "takeRule", "(III)V"⟩
def y_E_takeFromSymbols : MethodName := ⟨"VisitGrammar$Leads", "takeFromSymbols", "(I)V"⟩
def y_E_close : MethodName := ⟨"VisitGrammar$Leads", "close", "(I)V"⟩
def y_E_giveToSymbols : MethodName := ⟨"VisitGrammar$Leads", "giveToSymbols", "(I)Z"⟩
def y_E_othersAt : MethodName := ⟨"VisitGrammar$Leads", "othersAt", "(III)I"⟩
def y_K_init : MethodName := ⟨"VisitGrammar$Ranking", "<init>", "(LVisitGrammar$Grammar;LVisitGrammar$Leads;)V"⟩
def y_K_make : MethodName := ⟨"VisitGrammar$Ranking", "make", "()V"⟩
def y_K_addToLeads : MethodName := ⟨"VisitGrammar$Ranking", "addToLeads", "()V"⟩
def y_K_inheritedOf : MethodName := ⟨"VisitGrammar$Ranking", "inheritedOf", "(II)I"⟩
def y_K_synthesizedOf : MethodName := ⟨"VisitGrammar$Ranking", "synthesizedOf", "(II)I"⟩
def y_K_rankAttributes : MethodName := ⟨"VisitGrammar$Ranking", "rankAttributes", "(I)V"⟩
def y_K_leastRank : MethodName := ⟨"VisitGrammar$Ranking", "leastRank", "(II)I"⟩
def y_K_rankAboveLed : MethodName := ⟨"VisitGrammar$Ranking", "rankAboveLed", "(II)I"⟩
def y_K_countVisits : MethodName := ⟨"VisitGrammar$Ranking", "countVisits", "(I)V"⟩
def y_K_shareOut : MethodName := ⟨"VisitGrammar$Ranking", "shareOut", "(I)V"⟩
def y_K_ofLessRank : MethodName := ⟨"VisitGrammar$Ranking", "ofLessRank", "(II)I"⟩
def y_Q_init : MethodName := ⟨"VisitGrammar$Sequences", "<init>", "(LVisitGrammar$Grammar;LVisitGrammar$Ranking;)V"⟩
def y_Q_at : MethodName := ⟨"VisitGrammar$Sequences", "at", "(II)I"⟩
def y_Q_lengthOfAll : MethodName := ⟨"VisitGrammar$Sequences", "lengthOfAll", "()I"⟩
def y_Q_write : MethodName := ⟨"VisitGrammar$Sequences", "write", "()V"⟩
def y_Q_beginWriting : MethodName := ⟨"VisitGrammar$Sequences", "beginWriting", "(I)V"⟩
def y_Q_fullLength : MethodName := ⟨"VisitGrammar$Sequences", "fullLength", "(I)I"⟩
def y_Q_visitsAt : MethodName := ⟨"VisitGrammar$Sequences", "visitsAt", "(II)I"⟩
def y_Q_writeNext : MethodName := ⟨"VisitGrammar$Sequences", "writeNext", "(IZ)I"⟩
def y_Q_readySet : MethodName := ⟨"VisitGrammar$Sequences", "readySet", "(I)I"⟩
def y_Q_readyVisit : MethodName := ⟨"VisitGrammar$Sequences", "readyVisit", "(I)I"⟩
def y_Q_isLeaveReady : MethodName := ⟨"VisitGrammar$Sequences", "isLeaveReady", "(IZ)Z"⟩
def y_Q_writeSet : MethodName := ⟨"VisitGrammar$Sequences", "writeSet", "(I)I"⟩
def y_Q_writeVisit : MethodName := ⟨"VisitGrammar$Sequences", "writeVisit", "(II)I"⟩
def y_Q_writeLeave : MethodName := ⟨"VisitGrammar$Sequences", "writeLeave", "(I)I"⟩
def y_Z_init : MethodName := ⟨"VisitGrammar$Tree", "<init>", "(LVisitGrammar$Grammar;)V"⟩
def y_Z_hasNode : MethodName := ⟨"VisitGrammar$Tree", "hasNode", "(I)Z"⟩
def y_Z_symbolOf : MethodName := ⟨"VisitGrammar$Tree", "symbolOf", "(I)I"⟩
def y_Z_nodeAt : MethodName := ⟨"VisitGrammar$Tree", "nodeAt", "(II)I"⟩
def y_Z_canBeChildren : MethodName := ⟨"VisitGrammar$Tree", "canBeChildren", "(IIII)Z"⟩
def y_Z_canBeChild : MethodName := ⟨"VisitGrammar$Tree", "canBeChild", "(III)Z"⟩
def y_Z_grow : MethodName := ⟨"VisitGrammar$Tree", "grow", "(IIIII)I"⟩
def y_Z_adopt : MethodName := ⟨"VisitGrammar$Tree", "adopt", "(III)V"⟩
def y_Z_clear : MethodName := ⟨"VisitGrammar$Tree", "clear", "()V"⟩
def y_U_init : MethodName := ⟨"VisitGrammar$Walk", "<init>", "(LVisitGrammar$Grammar;LVisitGrammar$Sequences;LVisitGrammar$Tree;)V"⟩
def y_U_begin : MethodName := ⟨"VisitGrammar$Walk", "begin", "(I)V"⟩
def y_U_end : MethodName := ⟨"VisitGrammar$Walk", "end", "()V"⟩
def y_U_isKnown : MethodName := ⟨"VisitGrammar$Walk", "isKnown", "(II)Z"⟩
def y_U_advance : MethodName := ⟨"VisitGrammar$Walk", "advance", "(I)I"⟩
def y_U_step : MethodName := ⟨"VisitGrammar$Walk", "step", "()V"⟩
def y_U_leaveNode : MethodName := ⟨"VisitGrammar$Walk", "leaveNode", "(I)V"⟩
def y_U_setOccurrence : MethodName := ⟨"VisitGrammar$Walk", "setOccurrence", "(II)V"⟩
def y_U_result : MethodName := ⟨"VisitGrammar$Walk", "result", "(I)I"⟩
def y_U_valueOf : MethodName := ⟨"VisitGrammar$Walk", "valueOf", "(I)I"⟩
def y_L_symbol : MethodName := ⟨"VisitGrammarLaw", "symbol", "(LVisitGrammar;II[J)I"⟩
def y_L_production : MethodName := ⟨"VisitGrammarLaw", "production", "(LVisitGrammar;IIII[J)I"⟩
def y_L_rule : MethodName := ⟨"VisitGrammarLaw", "rule", "(LVisitGrammar;IIIII)I"⟩
def y_L_analyse : MethodName := ⟨"VisitGrammarLaw", "analyse", "(LVisitGrammar;[J)I"⟩
def y_L_visits : MethodName := ⟨"VisitGrammarLaw", "visits", "(LVisitGrammar;I[J)I"⟩
def y_L_rank : MethodName := ⟨"VisitGrammarLaw", "rank", "(LVisitGrammar;II[J)I"⟩
def y_L_instruction : MethodName := ⟨"VisitGrammarLaw", "instruction", "(LVisitGrammar;II[J)I"⟩
def y_L_node : MethodName := ⟨"VisitGrammarLaw", "node", "(LVisitGrammar;IIIII[J)I"⟩
def y_L_give : MethodName := ⟨"VisitGrammarLaw", "give", "(LVisitGrammar;II)I"⟩
def y_L_start : MethodName := ⟨"VisitGrammarLaw", "start", "(LVisitGrammar;I)I"⟩
def y_L_run : MethodName := ⟨"VisitGrammarLaw", "run", "(LVisitGrammar;I[J)I"⟩
def y_L_knows : MethodName := ⟨"VisitGrammarLaw", "knows", "(LVisitGrammar;II[J)I"⟩
def y_L_value : MethodName := ⟨"VisitGrammarLaw", "value", "(LVisitGrammar;II[J)I"⟩
def y_L_law : MethodName := ⟨"VisitGrammarLaw", "law", "([I)Z"⟩
abbrev CL : List vw_C := [(R_V, F_V, 4), (R_G, F_G, 13), (R_A, F_A, 8), (R_E, F_E, 3), (R_K, F_K, 5), (R_Q, F_Q, 7), (R_Z, F_Z, 6), (R_U, F_U, 10), (R_M, F_M, 35)]
/-! The words, one list for all, and where each stands. Written by wip/tools/gen.py. -/
def WS_0 : List Cond := [(Jvm.Cond.code y_G_init prog_3_method_1_code (1 : Nat) (Option.none : Option Jvm.ClassFile.FieldType)), (Jvm.Cond.methodLink "VisitGrammar$Grammar" (3 : Nat) ({ cls := "java/lang/Object", name := "<init>", desc := "()V" } : Jvm.MethodName)), (Jvm.Cond.instanceMethod ({ cls := "java/lang/Object", name := "<init>", desc := "()V" } : Jvm.MethodName)), (Jvm.Cond.code ({ cls := "java/lang/Object", name := "<init>", desc := "()V" } : Jvm.MethodName) object_method_1_code (1 : Nat) (Option.none : Option Jvm.ClassFile.FieldType)), (Jvm.Cond.arrayClass Jvm.ClassFile.FieldType.int), (Jvm.Cond.fieldLink "VisitGrammar$Grammar" (9 : Nat) "VisitGrammar$Grammar" "attributeCounts" "[I"), (Jvm.Cond.fieldLink "VisitGrammar$Grammar" (15 : Nat) "VisitGrammar$Grammar" "inheritedBits" "[I"), (Jvm.Cond.fieldLink "VisitGrammar$Grammar" (18 : Nat) "VisitGrammar$Grammar" "symbolsAt" "[I"), (Jvm.Cond.fieldLink "VisitGrammar$Grammar" (21 : Nat) "VisitGrammar$Grammar" "lastPositions" "[I"), (Jvm.Cond.fieldLink "VisitGrammar$Grammar" (24 : Nat) "VisitGrammar$Grammar" "presentBits" "[I"), (Jvm.Cond.fieldLink "VisitGrammar$Grammar" (27 : Nat) "VisitGrammar$Grammar" "toDefineBits" "[I"), (Jvm.Cond.fieldLink "VisitGrammar$Grammar" (30 : Nat) "VisitGrammar$Grammar" "ruledBits" "[I"), (Jvm.Cond.fieldLink "VisitGrammar$Grammar" (33 : Nat) "VisitGrammar$Grammar" "forms" "[I"), (Jvm.Cond.fieldLink "VisitGrammar$Grammar" (36 : Nat) "VisitGrammar$Grammar" "firsts" "[I"), (Jvm.Cond.fieldLink "VisitGrammar$Grammar" (39 : Nat) "VisitGrammar$Grammar" "seconds" "[I"), (Jvm.Cond.fieldLink "VisitGrammar$Grammar" (42 : Nat) "VisitGrammar$Grammar" "usedBits" "[I"), (Jvm.Cond.code y_E_init prog_4_method_1_code (2 : Nat) (Option.none : Option Jvm.ClassFile.FieldType)), (Jvm.Cond.methodLink "VisitGrammar$Leads" (3 : Nat) ({ cls := "java/lang/Object", name := "<init>", desc := "()V" } : Jvm.MethodName)), (Jvm.Cond.fieldLink "VisitGrammar$Leads" (9 : Nat) "VisitGrammar$Leads" "ofOccurrences" "[I"), (Jvm.Cond.fieldLink "VisitGrammar$Leads" (15 : Nat) "VisitGrammar$Leads" "ofAttributes" "[I"), (Jvm.Cond.fieldLink "VisitGrammar$Leads" (18 : Nat) "VisitGrammar$Leads" "grammar" "LVisitGrammar$Grammar;"), (Jvm.Cond.code y_K_init prog_5_method_1_code (3 : Nat) (Option.none : Option Jvm.ClassFile.FieldType)), (Jvm.Cond.methodLink "VisitGrammar$Ranking" (3 : Nat) ({ cls := "java/lang/Object", name := "<init>", desc := "()V" } : Jvm.MethodName)), (Jvm.Cond.fieldLink "VisitGrammar$Ranking" (9 : Nat) "VisitGrammar$Ranking" "ranks" "[I"), (Jvm.Cond.fieldLink "VisitGrammar$Ranking" (15 : Nat) "VisitGrammar$Ranking" "visitCounts" "[I"), (Jvm.Cond.fieldLink "VisitGrammar$Ranking" (18 : Nat) "VisitGrammar$Ranking" "belonging" "[I"), (Jvm.Cond.fieldLink "VisitGrammar$Ranking" (21 : Nat) "VisitGrammar$Ranking" "grammar" "LVisitGrammar$Grammar;"), (Jvm.Cond.fieldLink "VisitGrammar$Ranking" (25 : Nat) "VisitGrammar$Ranking" "leads" "LVisitGrammar$Leads;"), (Jvm.Cond.code y_Q_init prog_6_method_1_code (3 : Nat) (Option.none : Option Jvm.ClassFile.FieldType)), (Jvm.Cond.methodLink "VisitGrammar$Sequences" (3 : Nat) ({ cls := "java/lang/Object", name := "<init>", desc := "()V" } : Jvm.MethodName)), (Jvm.Cond.fieldLink "VisitGrammar$Sequences" (11 : Nat) "VisitGrammar$Sequences" "instructions" "[I"), (Jvm.Cond.fieldLink "VisitGrammar$Sequences" (15 : Nat) "VisitGrammar$Sequences" "lengths" "[I"), (Jvm.Cond.fieldLink "VisitGrammar$Sequences" (18 : Nat) "VisitGrammar$Sequences" "visitsWritten" "[I"), (Jvm.Cond.fieldLink "VisitGrammar$Sequences" (21 : Nat) "VisitGrammar$Sequences" "grammar" "LVisitGrammar$Grammar;"), (Jvm.Cond.fieldLink "VisitGrammar$Sequences" (25 : Nat) "VisitGrammar$Sequences" "ranking" "LVisitGrammar$Ranking;"), (Jvm.Cond.code y_A_init prog_2_method_1_code (2 : Nat) (Option.none : Option Jvm.ClassFile.FieldType)), (Jvm.Cond.methodLink "VisitGrammar$Analysis" (3 : Nat) ({ cls := "java/lang/Object", name := "<init>", desc := "()V" } : Jvm.MethodName)), (Jvm.Cond.fieldLink "VisitGrammar$Analysis" (9 : Nat) "VisitGrammar$Analysis" "faultProduction" "I"), (Jvm.Cond.fieldLink "VisitGrammar$Analysis" (15 : Nat) "VisitGrammar$Analysis" "faultOccurrence" "I"), (Jvm.Cond.fieldLink "VisitGrammar$Analysis" (18 : Nat) "VisitGrammar$Analysis" "grammar" "LVisitGrammar$Grammar;"), (Jvm.Cond.classLink "VisitGrammar$Analysis" (22 : Nat) "VisitGrammar$Leads"), (Jvm.Cond.instantiable "VisitGrammar$Leads" (3 : Nat)), (Jvm.Cond.initialized "VisitGrammar$Leads"), (Jvm.Cond.methodLink "VisitGrammar$Analysis" (24 : Nat) y_E_init), (Jvm.Cond.instanceMethod y_E_init), (Jvm.Cond.fieldLink "VisitGrammar$Analysis" (27 : Nat) "VisitGrammar$Analysis" "leads" "LVisitGrammar$Leads;"), (Jvm.Cond.classLink "VisitGrammar$Analysis" (31 : Nat) "VisitGrammar$Ranking"), (Jvm.Cond.instantiable "VisitGrammar$Ranking" (5 : Nat)), (Jvm.Cond.initialized "VisitGrammar$Ranking"), (Jvm.Cond.methodLink "VisitGrammar$Analysis" (33 : Nat) y_K_init), (Jvm.Cond.instanceMethod y_K_init), (Jvm.Cond.fieldLink "VisitGrammar$Analysis" (36 : Nat) "VisitGrammar$Analysis" "ranking" "LVisitGrammar$Ranking;"), (Jvm.Cond.classLink "VisitGrammar$Analysis" (40 : Nat) "VisitGrammar$Sequences"), (Jvm.Cond.instantiable "VisitGrammar$Sequences" (7 : Nat)), (Jvm.Cond.initialized "VisitGrammar$Sequences"), (Jvm.Cond.methodLink "VisitGrammar$Analysis" (42 : Nat) y_Q_init), (Jvm.Cond.instanceMethod y_Q_init), (Jvm.Cond.fieldLink "VisitGrammar$Analysis" (45 : Nat) "VisitGrammar$Analysis" "sequences" "LVisitGrammar$Sequences;"), (Jvm.Cond.code y_Z_init prog_7_method_1_code (2 : Nat) (Option.none : Option Jvm.ClassFile.FieldType)), (Jvm.Cond.methodLink "VisitGrammar$Tree" (3 : Nat) ({ cls := "java/lang/Object", name := "<init>", desc := "()V" } : Jvm.MethodName))]
def WS_1 : List Cond := [(Jvm.Cond.fieldLink "VisitGrammar$Tree" (9 : Nat) "VisitGrammar$Tree" "productions" "[I"), (Jvm.Cond.fieldLink "VisitGrammar$Tree" (15 : Nat) "VisitGrammar$Tree" "tokens" "[I"), (Jvm.Cond.fieldLink "VisitGrammar$Tree" (18 : Nat) "VisitGrammar$Tree" "parents" "[I"), (Jvm.Cond.fieldLink "VisitGrammar$Tree" (21 : Nat) "VisitGrammar$Tree" "nodesAt" "[I"), (Jvm.Cond.fieldLink "VisitGrammar$Tree" (24 : Nat) "VisitGrammar$Tree" "grammar" "LVisitGrammar$Grammar;"), (Jvm.Cond.code y_U_init prog_8_method_1_code (4 : Nat) (Option.none : Option Jvm.ClassFile.FieldType)), (Jvm.Cond.methodLink "VisitGrammar$Walk" (3 : Nat) ({ cls := "java/lang/Object", name := "<init>", desc := "()V" } : Jvm.MethodName)), (Jvm.Cond.fieldLink "VisitGrammar$Walk" (9 : Nat) "VisitGrammar$Walk" "given" "[I"), (Jvm.Cond.fieldLink "VisitGrammar$Walk" (15 : Nat) "VisitGrammar$Walk" "values" "[I"), (Jvm.Cond.fieldLink "VisitGrammar$Walk" (18 : Nat) "VisitGrammar$Walk" "knownBits" "[I"), (Jvm.Cond.fieldLink "VisitGrammar$Walk" (21 : Nat) "VisitGrammar$Walk" "instructionsDone" "[I"), (Jvm.Cond.fieldLink "VisitGrammar$Walk" (24 : Nat) "VisitGrammar$Walk" "grammar" "LVisitGrammar$Grammar;"), (Jvm.Cond.fieldLink "VisitGrammar$Walk" (28 : Nat) "VisitGrammar$Walk" "sequences" "LVisitGrammar$Sequences;"), (Jvm.Cond.fieldLink "VisitGrammar$Walk" (32 : Nat) "VisitGrammar$Walk" "tree" "LVisitGrammar$Tree;"), (Jvm.Cond.code y_V_init prog_1_method_1_code (1 : Nat) (Option.none : Option Jvm.ClassFile.FieldType)), (Jvm.Cond.methodLink "VisitGrammar" (3 : Nat) ({ cls := "java/lang/Object", name := "<init>", desc := "()V" } : Jvm.MethodName)), (Jvm.Cond.classLink "VisitGrammar" (9 : Nat) "VisitGrammar$Grammar"), (Jvm.Cond.instantiable "VisitGrammar$Grammar" (13 : Nat)), (Jvm.Cond.initialized "VisitGrammar$Grammar"), (Jvm.Cond.methodLinkNest "VisitGrammar" (11 : Nat) y_G_init "VisitGrammar"), (Jvm.Cond.instanceMethod y_G_init), (Jvm.Cond.fieldLink "VisitGrammar" (12 : Nat) "VisitGrammar" "grammar" "LVisitGrammar$Grammar;"), (Jvm.Cond.classLink "VisitGrammar" (16 : Nat) "VisitGrammar$Analysis"), (Jvm.Cond.instantiable "VisitGrammar$Analysis" (8 : Nat)), (Jvm.Cond.initialized "VisitGrammar$Analysis"), (Jvm.Cond.methodLink "VisitGrammar" (18 : Nat) y_A_init), (Jvm.Cond.instanceMethod y_A_init), (Jvm.Cond.fieldLink "VisitGrammar" (21 : Nat) "VisitGrammar" "analysis" "LVisitGrammar$Analysis;"), (Jvm.Cond.classLink "VisitGrammar" (25 : Nat) "VisitGrammar$Tree"), (Jvm.Cond.instantiable "VisitGrammar$Tree" (6 : Nat)), (Jvm.Cond.initialized "VisitGrammar$Tree"), (Jvm.Cond.methodLink "VisitGrammar" (27 : Nat) y_Z_init), (Jvm.Cond.instanceMethod y_Z_init), (Jvm.Cond.fieldLink "VisitGrammar" (28 : Nat) "VisitGrammar" "tree" "LVisitGrammar$Tree;"), (Jvm.Cond.classLink "VisitGrammar" (32 : Nat) "VisitGrammar$Walk"), (Jvm.Cond.instantiable "VisitGrammar$Walk" (10 : Nat)), (Jvm.Cond.initialized "VisitGrammar$Walk"), (Jvm.Cond.fieldLinkNest "VisitGrammar" (34 : Nat) "VisitGrammar$Analysis" "sequences" "LVisitGrammar$Sequences;" "VisitGrammar"), (Jvm.Cond.methodLink "VisitGrammar" (38 : Nat) y_U_init), (Jvm.Cond.instanceMethod y_U_init), (Jvm.Cond.fieldLink "VisitGrammar" (41 : Nat) "VisitGrammar" "walk" "LVisitGrammar$Walk;"), (Jvm.Cond.code y_U_end prog_8_method_3_code (1 : Nat) (Option.none : Option Jvm.ClassFile.FieldType)), (Jvm.Cond.fieldLink "VisitGrammar$Walk" (66 : Nat) "VisitGrammar$Walk" "state" "I"), (Jvm.Cond.code y_V_dropAnalysis prog_1_method_19_code (1 : Nat) (Option.none : Option Jvm.ClassFile.FieldType)), (Jvm.Cond.fieldLinkNest "VisitGrammar" (125 : Nat) "VisitGrammar$Analysis" "present" "Z" "VisitGrammar"), (Jvm.Cond.methodLink "VisitGrammar" (111 : Nat) y_U_end), (Jvm.Cond.instanceMethod y_U_end), (Jvm.Cond.selects "VisitGrammar$Walk" y_U_end y_U_end), (Jvm.Cond.code y_V_requireAnalysis prog_1_method_20_code (1 : Nat) (Option.none : Option Jvm.ClassFile.FieldType)), (Jvm.Cond.methodLink "VisitGrammar" (60 : Nat) ({ cls := "java/lang/IllegalStateException", name := "<init>", desc := "(Ljava/lang/String;)V" } : Jvm.MethodName)), (Jvm.Cond.classLink "VisitGrammar" (56 : Nat) "java/lang/IllegalStateException"), (Jvm.Cond.initialized "java/lang/IllegalStateException"), (Jvm.Cond.stringRef "VisitGrammar" (228 : Nat) "there is no analysis"), (Jvm.Cond.code y_G_hasSymbol prog_3_method_2_code (2 : Nat) (Option.some Jvm.ClassFile.FieldType.boolean)), (Jvm.Cond.fieldLink "VisitGrammar$Grammar" (45 : Nat) "VisitGrammar$Grammar" "symbolCount" "I"), (Jvm.Cond.code y_G_hasProduction prog_3_method_4_code (2 : Nat) (Option.some Jvm.ClassFile.FieldType.boolean)), (Jvm.Cond.fieldLink "VisitGrammar$Grammar" (49 : Nat) "VisitGrammar$Grammar" "productionCount" "I"), (Jvm.Cond.code y_Z_hasNode prog_7_method_2_code (2 : Nat) (Option.some Jvm.ClassFile.FieldType.boolean)), (Jvm.Cond.fieldLink "VisitGrammar$Tree" (28 : Nat) "VisitGrammar$Tree" "nodeCount" "I"), (Jvm.Cond.code y_Z_clear prog_7_method_9_code (1 : Nat) (Option.none : Option Jvm.ClassFile.FieldType))]
def WS_2 : List Cond := [(Jvm.Cond.code y_G_allAttributes prog_3_method_14_code (2 : Nat) (Option.some Jvm.ClassFile.FieldType.int)), (Jvm.Cond.code y_G_addSymbol prog_3_method_10_code (4 : Nat) (Option.some Jvm.ClassFile.FieldType.int)), (Jvm.Cond.methodLink "VisitGrammar$Grammar" (69 : Nat) y_G_allAttributes), (Jvm.Cond.instanceMethod y_G_allAttributes), (Jvm.Cond.selects "VisitGrammar$Grammar" y_G_allAttributes y_G_allAttributes), (Jvm.Cond.code y_A_forgetFault prog_2_method_3_code (1 : Nat) (Option.none : Option Jvm.ClassFile.FieldType)), (Jvm.Cond.fieldLink "VisitGrammar$Analysis" (74 : Nat) "VisitGrammar$Analysis" "faultKind" "I"), (Jvm.Cond.code y_A_make prog_2_method_2_code (1 : Nat) (Option.none : Option Jvm.ClassFile.FieldType)), (Jvm.Cond.methodLink "VisitGrammar$Analysis" (49 : Nat) y_A_forgetFault), (Jvm.Cond.instanceMethod y_A_forgetFault), (Jvm.Cond.selects "VisitGrammar$Analysis" y_A_forgetFault y_A_forgetFault), (Jvm.Cond.fieldLinkNest "VisitGrammar$Analysis" (52 : Nat) "VisitGrammar$Grammar" "productionCount" "I" "VisitGrammar"), (Jvm.Cond.fieldLink "VisitGrammar$Analysis" (67 : Nat) "VisitGrammar$Analysis" "present" "Z"), (Jvm.Cond.code y_V_requireAttribute prog_1_method_21_code (3 : Nat) (Option.none : Option Jvm.ClassFile.FieldType)), (Jvm.Cond.methodLink "VisitGrammar" (193 : Nat) y_Z_hasNode), (Jvm.Cond.instanceMethod y_Z_hasNode), (Jvm.Cond.selects "VisitGrammar$Tree" y_Z_hasNode y_Z_hasNode), (Jvm.Cond.methodLink "VisitGrammar" (94 : Nat) ({ cls := "java/lang/IndexOutOfBoundsException", name := "<init>", desc := "(Ljava/lang/String;)V" } : Jvm.MethodName)), (Jvm.Cond.classLink "VisitGrammar" (90 : Nat) "java/lang/IndexOutOfBoundsException"), (Jvm.Cond.initialized "java/lang/IndexOutOfBoundsException"), (Jvm.Cond.stringRef "VisitGrammar" (233 : Nat) "no such node or attribute"), (Jvm.Cond.code y_V_symbol prog_1_method_2_code (3 : Nat) (Option.some Jvm.ClassFile.FieldType.int)), (Jvm.Cond.fieldLinkNest "VisitGrammar" (52 : Nat) "VisitGrammar$Grammar" "symbolCount" "I" "VisitGrammar"), (Jvm.Cond.initialized "VisitGrammar"), (Jvm.Cond.methodLink "VisitGrammar" (61 : Nat) y_V_dropAnalysis), (Jvm.Cond.instanceMethod y_V_dropAnalysis), (Jvm.Cond.selects "VisitGrammar" y_V_dropAnalysis y_V_dropAnalysis), (Jvm.Cond.methodLink "VisitGrammar" (64 : Nat) y_G_addSymbol), (Jvm.Cond.instanceMethod y_G_addSymbol), (Jvm.Cond.selects "VisitGrammar$Grammar" y_G_addSymbol y_G_addSymbol), (Jvm.Cond.methodLink "VisitGrammar" (49 : Nat) ({ cls := "java/lang/IllegalArgumentException", name := "<init>", desc := "(Ljava/lang/String;)V" } : Jvm.MethodName)), (Jvm.Cond.classLink "VisitGrammar" (45 : Nat) "java/lang/IllegalArgumentException"), (Jvm.Cond.initialized "java/lang/IllegalArgumentException"), (Jvm.Cond.stringRef "VisitGrammar" (47 : Nat) "attributes are not 0 to 4"), (Jvm.Cond.code y_V_production prog_1_method_3_code (5 : Nat) (Option.some Jvm.ClassFile.FieldType.int)), (Jvm.Cond.methodLink "VisitGrammar" (68 : Nat) y_G_hasSymbol), (Jvm.Cond.instanceMethod y_G_hasSymbol), (Jvm.Cond.selects "VisitGrammar$Grammar" y_G_hasSymbol y_G_hasSymbol), (Jvm.Cond.stringRef "VisitGrammar" (76 : Nat) "no such symbol, or something behind a -1"), (Jvm.Cond.code y_V_rule prog_1_method_4_code (6 : Nat) (Option.none : Option Jvm.ClassFile.FieldType)), (Jvm.Cond.methodLink "VisitGrammar" (87 : Nat) y_G_hasProduction), (Jvm.Cond.instanceMethod y_G_hasProduction), (Jvm.Cond.selects "VisitGrammar$Grammar" y_G_hasProduction y_G_hasProduction), (Jvm.Cond.stringRef "VisitGrammar" (92 : Nat) "no such production"), (Jvm.Cond.code y_V_analyse prog_1_method_5_code (1 : Nat) (Option.some Jvm.ClassFile.FieldType.int)), (Jvm.Cond.methodLink "VisitGrammar" (114 : Nat) y_A_make), (Jvm.Cond.instanceMethod y_A_make), (Jvm.Cond.selects "VisitGrammar$Analysis" y_A_make y_A_make), (Jvm.Cond.fieldLinkNest "VisitGrammar" (117 : Nat) "VisitGrammar$Analysis" "faultKind" "I" "VisitGrammar"), (Jvm.Cond.stringRef "VisitGrammar" (129 : Nat) "incomplete, or no production"), (Jvm.Cond.code y_V_visits prog_1_method_7_code (2 : Nat) (Option.some Jvm.ClassFile.FieldType.int)), (Jvm.Cond.methodLink "VisitGrammar" (143 : Nat) y_V_requireAnalysis), (Jvm.Cond.instanceMethod y_V_requireAnalysis), (Jvm.Cond.selects "VisitGrammar" y_V_requireAnalysis y_V_requireAnalysis), (Jvm.Cond.code y_V_rank prog_1_method_8_code (3 : Nat) (Option.some Jvm.ClassFile.FieldType.int)), (Jvm.Cond.code y_V_instruction prog_1_method_9_code (3 : Nat) (Option.some Jvm.ClassFile.FieldType.int)), (Jvm.Cond.code y_V_node prog_1_method_10_code (6 : Nat) (Option.some Jvm.ClassFile.FieldType.int)), (Jvm.Cond.stringRef "VisitGrammar" (174 : Nat) "no such production, or a child that will not do"), (Jvm.Cond.code y_V_fell prog_1_method_11_code (1 : Nat) (Option.none : Option Jvm.ClassFile.FieldType)), (Jvm.Cond.methodLink "VisitGrammar" (185 : Nat) y_Z_clear)]
def WS_3 : List Cond := [(Jvm.Cond.instanceMethod y_Z_clear), (Jvm.Cond.selects "VisitGrammar$Tree" y_Z_clear y_Z_clear), (Jvm.Cond.code y_V_give prog_1_method_12_code (3 : Nat) (Option.none : Option Jvm.ClassFile.FieldType)), (Jvm.Cond.stringRef "VisitGrammar" (188 : Nat) "not an attribute 0 to 3"), (Jvm.Cond.fieldLinkNest "VisitGrammar" (190 : Nat) "VisitGrammar$Walk" "given" "[I" "VisitGrammar"), (Jvm.Cond.code y_V_start prog_1_method_13_code (2 : Nat) (Option.none : Option Jvm.ClassFile.FieldType)), (Jvm.Cond.code y_V_run prog_1_method_14_code (2 : Nat) (Option.some Jvm.ClassFile.FieldType.int)), (Jvm.Cond.stringRef "VisitGrammar" (202 : Nat) "steps are not 0 to 500"), (Jvm.Cond.fieldLinkNest "VisitGrammar" (204 : Nat) "VisitGrammar$Walk" "state" "I" "VisitGrammar"), (Jvm.Cond.stringRef "VisitGrammar" (207 : Nat) "there is no run"), (Jvm.Cond.code y_V_status prog_1_method_15_code (1 : Nat) (Option.some Jvm.ClassFile.FieldType.int)), (Jvm.Cond.code y_V_atHand prog_1_method_16_code (1 : Nat) (Option.some Jvm.ClassFile.FieldType.int)), (Jvm.Cond.code y_V_knows prog_1_method_17_code (3 : Nat) (Option.some Jvm.ClassFile.FieldType.boolean)), (Jvm.Cond.methodLink "VisitGrammar" (216 : Nat) y_V_requireAttribute), (Jvm.Cond.instanceMethod y_V_requireAttribute), (Jvm.Cond.selects "VisitGrammar" y_V_requireAttribute y_V_requireAttribute), (Jvm.Cond.code y_V_value prog_1_method_18_code (3 : Nat) (Option.some Jvm.ClassFile.FieldType.int)), (Jvm.Cond.code y_V_fault prog_1_method_6_code (2 : Nat) (Option.some Jvm.ClassFile.FieldType.int)), (Jvm.Cond.fieldLinkNest "VisitGrammar" (137 : Nat) "VisitGrammar$Analysis" "faultProduction" "I" "VisitGrammar"), (Jvm.Cond.fieldLinkNest "VisitGrammar" (140 : Nat) "VisitGrammar$Analysis" "faultOccurrence" "I" "VisitGrammar"), (Jvm.Cond.code y_M_init prog_10_method_1_code (2 : Nat) (Option.none : Option Jvm.ClassFile.FieldType)), (Jvm.Cond.methodLink "VisitGrammarModel" (1 : Nat) ({ cls := "java/lang/Object", name := "<init>", desc := "()V" } : Jvm.MethodName)), (Jvm.Cond.fieldLink "VisitGrammarModel" (7 : Nat) "VisitGrammarModel" "attributes" "[I"), (Jvm.Cond.arrayClass Jvm.ClassFile.FieldType.boolean), (Jvm.Cond.fieldLink "VisitGrammarModel" (13 : Nat) "VisitGrammarModel" "inherits" "[Z"), (Jvm.Cond.fieldLink "VisitGrammarModel" (17 : Nat) "VisitGrammarModel" "positions" "[I"), (Jvm.Cond.fieldLink "VisitGrammarModel" (20 : Nat) "VisitGrammarModel" "symbolAt" "[I"), (Jvm.Cond.fieldLink "VisitGrammarModel" (23 : Nat) "VisitGrammarModel" "form" "[I"), (Jvm.Cond.fieldLink "VisitGrammarModel" (26 : Nat) "VisitGrammarModel" "ruleX" "[I"), (Jvm.Cond.fieldLink "VisitGrammarModel" (29 : Nat) "VisitGrammarModel" "ruleY" "[I"), (Jvm.Cond.fieldLink "VisitGrammarModel" (32 : Nat) "VisitGrammarModel" "faultProduction" "I"), (Jvm.Cond.fieldLink "VisitGrammarModel" (36 : Nat) "VisitGrammarModel" "faultOccurrence" "I"), (Jvm.Cond.fieldLink "VisitGrammarModel" (39 : Nat) "VisitGrammarModel" "uses" "[Z"), (Jvm.Cond.fieldLink "VisitGrammarModel" (42 : Nat) "VisitGrammarModel" "leads" "[Z"), (Jvm.Cond.fieldLink "VisitGrammarModel" (45 : Nat) "VisitGrammarModel" "symbolLeads" "[Z"), (Jvm.Cond.fieldLink "VisitGrammarModel" (48 : Nat) "VisitGrammarModel" "order" "[Z"), (Jvm.Cond.fieldLink "VisitGrammarModel" (51 : Nat) "VisitGrammarModel" "rank" "[I"), (Jvm.Cond.fieldLink "VisitGrammarModel" (54 : Nat) "VisitGrammarModel" "visits" "[I"), (Jvm.Cond.fieldLink "VisitGrammarModel" (57 : Nat) "VisitGrammarModel" "length" "[I"), (Jvm.Cond.fieldLink "VisitGrammarModel" (60 : Nat) "VisitGrammarModel" "sequence" "[I"), (Jvm.Cond.fieldLink "VisitGrammarModel" (63 : Nat) "VisitGrammarModel" "set" "[Z"), (Jvm.Cond.fieldLink "VisitGrammarModel" (66 : Nat) "VisitGrammarModel" "visited" "[I"), (Jvm.Cond.fieldLink "VisitGrammarModel" (69 : Nat) "VisitGrammarModel" "production" "[I"), (Jvm.Cond.fieldLink "VisitGrammarModel" (72 : Nat) "VisitGrammarModel" "token" "[I"), (Jvm.Cond.fieldLink "VisitGrammarModel" (75 : Nat) "VisitGrammarModel" "child" "[I"), (Jvm.Cond.fieldLink "VisitGrammarModel" (78 : Nat) "VisitGrammarModel" "parent" "[I"), (Jvm.Cond.fieldLink "VisitGrammarModel" (81 : Nat) "VisitGrammarModel" "next" "[I"), (Jvm.Cond.fieldLink "VisitGrammarModel" (84 : Nat) "VisitGrammarModel" "known" "[Z"), (Jvm.Cond.fieldLink "VisitGrammarModel" (87 : Nat) "VisitGrammarModel" "value" "[I"), (Jvm.Cond.fieldLink "VisitGrammarModel" (90 : Nat) "VisitGrammarModel" "given" "[I"), (Jvm.Cond.fieldLink "VisitGrammarModel" (93 : Nat) "VisitGrammarModel" "root" "I"), (Jvm.Cond.fieldLink "VisitGrammarModel" (96 : Nat) "VisitGrammarModel" "hand" "I"), (Jvm.Cond.code y_M_endRun prog_10_method_4_code (2 : Nat) (Option.none : Option Jvm.ClassFile.FieldType)), (Jvm.Cond.code y_M_forget prog_10_method_5_code (1 : Nat) (Option.none : Option Jvm.ClassFile.FieldType)), (Jvm.Cond.fieldLink "VisitGrammarModel" (102 : Nat) "VisitGrammarModel" "analysed" "Z"), (Jvm.Cond.initialized "VisitGrammarModel"), (Jvm.Cond.methodLink "VisitGrammarModel" (106 : Nat) y_M_endRun), (Jvm.Cond.instanceMethod y_M_endRun), (Jvm.Cond.selects "VisitGrammarModel" y_M_endRun y_M_endRun), (Jvm.Cond.code y_M_thrown prog_10_method_2_code (1 : Nat) (Option.some Jvm.ClassFile.FieldType.int))]
def WS_4 : List Cond := [(Jvm.Cond.fieldLink "VisitGrammarModel" (99 : Nat) "VisitGrammarModel" "code" "I"), (Jvm.Cond.code y_M_fail prog_10_method_3_code (2 : Nat) (Option.some Jvm.ClassFile.FieldType.int)), (Jvm.Cond.code y_M_blame prog_10_method_16_code (4 : Nat) (Option.some Jvm.ClassFile.FieldType.boolean)), (Jvm.Cond.fieldLink "VisitGrammarModel" (141 : Nat) "VisitGrammarModel" "faultKind" "I"), (Jvm.Cond.code y_M_isSymbol prog_10_method_7_code (2 : Nat) (Option.some Jvm.ClassFile.FieldType.boolean)), (Jvm.Cond.fieldLink "VisitGrammarModel" (109 : Nat) "VisitGrammarModel" "symbols" "I"), (Jvm.Cond.code y_M_isNode prog_10_method_39_code (2 : Nat) (Option.some Jvm.ClassFile.FieldType.boolean)), (Jvm.Cond.fieldLink "VisitGrammarModel" (194 : Nat) "VisitGrammarModel" "nodes" "I"), (Jvm.Cond.code y_M_isAttribute prog_10_method_47_code (3 : Nat) (Option.some Jvm.ClassFile.FieldType.boolean)), (Jvm.Cond.methodLink "VisitGrammarModel" (200 : Nat) y_M_isNode), (Jvm.Cond.instanceMethod y_M_isNode), (Jvm.Cond.selects "VisitGrammarModel" y_M_isNode y_M_isNode), (Jvm.Cond.code y_M_lacks prog_10_method_15_code (3 : Nat) (Option.some Jvm.ClassFile.FieldType.boolean)), (Jvm.Cond.fieldLink "VisitGrammarModel" (119 : Nat) "VisitGrammarModel" "productions" "I"), (Jvm.Cond.code y_M_symbol prog_10_method_6_code (4 : Nat) (Option.some Jvm.ClassFile.FieldType.int)), (Jvm.Cond.methodLink "VisitGrammarModel" (112 : Nat) y_M_forget), (Jvm.Cond.instanceMethod y_M_forget), (Jvm.Cond.selects "VisitGrammarModel" y_M_forget y_M_forget), (Jvm.Cond.code y_M_production prog_10_method_8_code (9 : Nat) (Option.some Jvm.ClassFile.FieldType.int)), (Jvm.Cond.methodLink "VisitGrammarModel" (115 : Nat) y_M_isSymbol), (Jvm.Cond.instanceMethod y_M_isSymbol), (Jvm.Cond.selects "VisitGrammarModel" y_M_isSymbol y_M_isSymbol), (Jvm.Cond.code y_M_rule prog_10_method_13_code (7 : Nat) (Option.none : Option Jvm.ClassFile.FieldType)), (Jvm.Cond.code y_M_analyse prog_10_method_30_code (3 : Nat) (Option.some Jvm.ClassFile.FieldType.int)), (Jvm.Cond.methodLink "VisitGrammarModel" (137 : Nat) y_M_blame), (Jvm.Cond.instanceMethod y_M_blame), (Jvm.Cond.selects "VisitGrammarModel" y_M_blame y_M_blame), (Jvm.Cond.methodLink "VisitGrammarModel" (171 : Nat) y_M_lacks), (Jvm.Cond.instanceMethod y_M_lacks), (Jvm.Cond.selects "VisitGrammarModel" y_M_lacks y_M_lacks), (Jvm.Cond.methodLink "VisitGrammarModel" (175 : Nat) y_M_fail), (Jvm.Cond.instanceMethod y_M_fail), (Jvm.Cond.selects "VisitGrammarModel" y_M_fail y_M_fail), (Jvm.Cond.code y_M_fault prog_10_method_31_code (2 : Nat) (Option.some Jvm.ClassFile.FieldType.int)), (Jvm.Cond.code y_M_visits prog_10_method_32_code (2 : Nat) (Option.some Jvm.ClassFile.FieldType.int)), (Jvm.Cond.code y_M_rank prog_10_method_33_code (3 : Nat) (Option.some Jvm.ClassFile.FieldType.int)), (Jvm.Cond.code y_M_instruction prog_10_method_34_code (3 : Nat) (Option.some Jvm.ClassFile.FieldType.int)), (Jvm.Cond.code y_M_node prog_10_method_36_code (9 : Nat) (Option.some Jvm.ClassFile.FieldType.int)), (Jvm.Cond.code y_M_fell prog_10_method_37_code (1 : Nat) (Option.none : Option Jvm.ClassFile.FieldType)), (Jvm.Cond.code y_M_give prog_10_method_38_code (3 : Nat) (Option.none : Option Jvm.ClassFile.FieldType)), (Jvm.Cond.code y_M_start prog_10_method_40_code (4 : Nat) (Option.none : Option Jvm.ClassFile.FieldType)), (Jvm.Cond.code y_M_run prog_10_method_44_code (3 : Nat) (Option.some Jvm.ClassFile.FieldType.int)), (Jvm.Cond.code y_M_status prog_10_method_45_code (1 : Nat) (Option.some Jvm.ClassFile.FieldType.int)), (Jvm.Cond.code y_M_atHand prog_10_method_46_code (1 : Nat) (Option.some Jvm.ClassFile.FieldType.int)), (Jvm.Cond.code y_M_knows prog_10_method_48_code (3 : Nat) (Option.some Jvm.ClassFile.FieldType.boolean)), (Jvm.Cond.methodLink "VisitGrammarModel" (212 : Nat) y_M_isAttribute), (Jvm.Cond.instanceMethod y_M_isAttribute), (Jvm.Cond.selects "VisitGrammarModel" y_M_isAttribute y_M_isAttribute), (Jvm.Cond.code y_M_value prog_10_method_49_code (3 : Nat) (Option.some Jvm.ClassFile.FieldType.int)), (Jvm.Cond.codeWith y_L_symbol method_3_code (5 : Nat) (Option.some Jvm.ClassFile.FieldType.int) [((0 : Nat), (10 : Nat), (13 : Nat), (13 : Nat)), ((0 : Nat), (10 : Nat), (17 : Nat), (15 : Nat))]), (Jvm.Cond.methodLink "VisitGrammarLaw" (7 : Nat) y_V_symbol), (Jvm.Cond.instanceMethod y_V_symbol), (Jvm.Cond.selects "VisitGrammar" y_V_symbol y_V_symbol), (Jvm.Cond.classLink "VisitGrammarLaw" (13 : Nat) "java/lang/IllegalArgumentException"), (Jvm.Cond.castable "java/lang/IllegalArgumentException" "java/lang/IllegalArgumentException"), (Jvm.Cond.codeWith y_L_production method_4_code (7 : Nat) (Option.some Jvm.ClassFile.FieldType.int) [((0 : Nat), (14 : Nat), (17 : Nat), (13 : Nat)), ((0 : Nat), (14 : Nat), (21 : Nat), (15 : Nat))]), (Jvm.Cond.methodLink "VisitGrammarLaw" (17 : Nat) y_V_production), (Jvm.Cond.instanceMethod y_V_production), (Jvm.Cond.selects "VisitGrammar" y_V_production y_V_production), (Jvm.Cond.codeWith y_L_rule method_5_code (7 : Nat) (Option.some Jvm.ClassFile.FieldType.int) [((0 : Nat), (11 : Nat), (14 : Nat), (25 : Nat)), ((0 : Nat), (11 : Nat), (18 : Nat), (13 : Nat))])]
def WS_5 : List Cond := [(Jvm.Cond.methodLink "VisitGrammarLaw" (21 : Nat) y_V_rule), (Jvm.Cond.instanceMethod y_V_rule), (Jvm.Cond.selects "VisitGrammar" y_V_rule y_V_rule), (Jvm.Cond.classLink "VisitGrammarLaw" (25 : Nat) "java/lang/IndexOutOfBoundsException"), (Jvm.Cond.castable "java/lang/IndexOutOfBoundsException" "java/lang/IndexOutOfBoundsException"), (Jvm.Cond.codeWith y_L_analyse method_6_code (3 : Nat) (Option.some Jvm.ClassFile.FieldType.int) [((0 : Nat), (8 : Nat), (11 : Nat), (15 : Nat)), ((0 : Nat), (8 : Nat), (14 : Nat), (31 : Nat))]), (Jvm.Cond.methodLink "VisitGrammarLaw" (27 : Nat) y_V_analyse), (Jvm.Cond.instanceMethod y_V_analyse), (Jvm.Cond.selects "VisitGrammar" y_V_analyse y_V_analyse), (Jvm.Cond.classLink "VisitGrammarLaw" (15 : Nat) "java/lang/IllegalStateException"), (Jvm.Cond.castable "java/lang/IllegalStateException" "java/lang/IllegalStateException"), (Jvm.Cond.codeWith y_L_visits method_7_code (4 : Nat) (Option.some Jvm.ClassFile.FieldType.int) [((0 : Nat), (9 : Nat), (12 : Nat), (15 : Nat)), ((0 : Nat), (9 : Nat), (15 : Nat), (25 : Nat))]), (Jvm.Cond.methodLink "VisitGrammarLaw" (33 : Nat) y_V_visits), (Jvm.Cond.instanceMethod y_V_visits), (Jvm.Cond.selects "VisitGrammar" y_V_visits y_V_visits), (Jvm.Cond.codeWith y_L_rank method_8_code (5 : Nat) (Option.some Jvm.ClassFile.FieldType.int) [((0 : Nat), (10 : Nat), (13 : Nat), (15 : Nat)), ((0 : Nat), (10 : Nat), (17 : Nat), (25 : Nat))]), (Jvm.Cond.methodLink "VisitGrammarLaw" (37 : Nat) y_V_rank), (Jvm.Cond.instanceMethod y_V_rank), (Jvm.Cond.selects "VisitGrammar" y_V_rank y_V_rank), (Jvm.Cond.codeWith y_L_instruction method_9_code (5 : Nat) (Option.some Jvm.ClassFile.FieldType.int) [((0 : Nat), (10 : Nat), (13 : Nat), (15 : Nat)), ((0 : Nat), (10 : Nat), (17 : Nat), (25 : Nat))]), (Jvm.Cond.methodLink "VisitGrammarLaw" (40 : Nat) y_V_instruction), (Jvm.Cond.instanceMethod y_V_instruction), (Jvm.Cond.selects "VisitGrammar" y_V_instruction y_V_instruction), (Jvm.Cond.codeWith y_L_node method_10_code (8 : Nat) (Option.some Jvm.ClassFile.FieldType.int) [((0 : Nat), (16 : Nat), (19 : Nat), (13 : Nat)), ((0 : Nat), (16 : Nat), (23 : Nat), (15 : Nat))]), (Jvm.Cond.methodLink "VisitGrammarLaw" (43 : Nat) y_V_node), (Jvm.Cond.instanceMethod y_V_node), (Jvm.Cond.selects "VisitGrammar" y_V_node y_V_node), (Jvm.Cond.codeWith y_L_give method_11_code (4 : Nat) (Option.some Jvm.ClassFile.FieldType.int) [((0 : Nat), (6 : Nat), (9 : Nat), (25 : Nat))]), (Jvm.Cond.methodLink "VisitGrammarLaw" (47 : Nat) y_V_give), (Jvm.Cond.instanceMethod y_V_give), (Jvm.Cond.selects "VisitGrammar" y_V_give y_V_give), (Jvm.Cond.codeWith y_L_start method_12_code (3 : Nat) (Option.some Jvm.ClassFile.FieldType.int) [((0 : Nat), (5 : Nat), (8 : Nat), (15 : Nat)), ((0 : Nat), (5 : Nat), (11 : Nat), (25 : Nat))]), (Jvm.Cond.methodLink "VisitGrammarLaw" (51 : Nat) y_V_start), (Jvm.Cond.instanceMethod y_V_start), (Jvm.Cond.selects "VisitGrammar" y_V_start y_V_start), (Jvm.Cond.codeWith y_L_run method_13_code (4 : Nat) (Option.some Jvm.ClassFile.FieldType.int) [((0 : Nat), (9 : Nat), (12 : Nat), (13 : Nat)), ((0 : Nat), (9 : Nat), (15 : Nat), (15 : Nat))]), (Jvm.Cond.methodLink "VisitGrammarLaw" (55 : Nat) y_V_run), (Jvm.Cond.instanceMethod y_V_run), (Jvm.Cond.selects "VisitGrammar" y_V_run y_V_run), (Jvm.Cond.codeWith y_L_knows method_14_code (5 : Nat) (Option.some Jvm.ClassFile.FieldType.int) [((0 : Nat), (17 : Nat), (20 : Nat), (25 : Nat))]), (Jvm.Cond.methodLink "VisitGrammarLaw" (58 : Nat) y_V_knows), (Jvm.Cond.instanceMethod y_V_knows), (Jvm.Cond.selects "VisitGrammar" y_V_knows y_V_knows), (Jvm.Cond.codeWith y_L_value method_15_code (5 : Nat) (Option.some Jvm.ClassFile.FieldType.int) [((0 : Nat), (10 : Nat), (13 : Nat), (25 : Nat)), ((0 : Nat), (10 : Nat), (17 : Nat), (15 : Nat))]), (Jvm.Cond.methodLink "VisitGrammarLaw" (62 : Nat) y_V_value), (Jvm.Cond.instanceMethod y_V_value), (Jvm.Cond.selects "VisitGrammar" y_V_value y_V_value), (Jvm.Cond.initialized "VisitGrammarLaw"), (Jvm.Cond.methodLink "VisitGrammarLaw" (69 : Nat) y_L_symbol), (Jvm.Cond.static y_L_symbol), (Jvm.Cond.methodLink "VisitGrammarLaw" (74 : Nat) y_M_symbol), (Jvm.Cond.instanceMethod y_M_symbol), (Jvm.Cond.selects "VisitGrammarModel" y_M_symbol y_M_symbol), (Jvm.Cond.methodLink "VisitGrammarLaw" (75 : Nat) y_M_thrown), (Jvm.Cond.instanceMethod y_M_thrown), (Jvm.Cond.selects "VisitGrammarModel" y_M_thrown y_M_thrown), (Jvm.Cond.methodLink "VisitGrammarLaw" (78 : Nat) y_L_production), (Jvm.Cond.static y_L_production), (Jvm.Cond.methodLink "VisitGrammarLaw" (81 : Nat) y_M_production), (Jvm.Cond.instanceMethod y_M_production)]
def WS_6 : List Cond := [(Jvm.Cond.selects "VisitGrammarModel" y_M_production y_M_production), (Jvm.Cond.methodLink "VisitGrammarLaw" (82 : Nat) y_L_rule), (Jvm.Cond.static y_L_rule), (Jvm.Cond.methodLink "VisitGrammarLaw" (85 : Nat) y_M_rule), (Jvm.Cond.instanceMethod y_M_rule), (Jvm.Cond.selects "VisitGrammarModel" y_M_rule y_M_rule), (Jvm.Cond.methodLink "VisitGrammarLaw" (86 : Nat) y_L_analyse), (Jvm.Cond.static y_L_analyse), (Jvm.Cond.methodLink "VisitGrammarLaw" (89 : Nat) y_M_analyse), (Jvm.Cond.instanceMethod y_M_analyse), (Jvm.Cond.selects "VisitGrammarModel" y_M_analyse y_M_analyse), (Jvm.Cond.methodLink "VisitGrammarLaw" (94 : Nat) y_L_visits), (Jvm.Cond.static y_L_visits), (Jvm.Cond.methodLink "VisitGrammarLaw" (97 : Nat) y_M_visits), (Jvm.Cond.instanceMethod y_M_visits), (Jvm.Cond.selects "VisitGrammarModel" y_M_visits y_M_visits), (Jvm.Cond.methodLink "VisitGrammarLaw" (98 : Nat) y_L_rank), (Jvm.Cond.static y_L_rank), (Jvm.Cond.methodLink "VisitGrammarLaw" (100 : Nat) y_M_rank), (Jvm.Cond.instanceMethod y_M_rank), (Jvm.Cond.selects "VisitGrammarModel" y_M_rank y_M_rank), (Jvm.Cond.methodLink "VisitGrammarLaw" (101 : Nat) y_L_instruction), (Jvm.Cond.static y_L_instruction), (Jvm.Cond.methodLink "VisitGrammarLaw" (103 : Nat) y_M_instruction), (Jvm.Cond.instanceMethod y_M_instruction), (Jvm.Cond.selects "VisitGrammarModel" y_M_instruction y_M_instruction), (Jvm.Cond.methodLink "VisitGrammarLaw" (104 : Nat) y_L_node), (Jvm.Cond.static y_L_node), (Jvm.Cond.methodLink "VisitGrammarLaw" (107 : Nat) y_M_node), (Jvm.Cond.instanceMethod y_M_node), (Jvm.Cond.selects "VisitGrammarModel" y_M_node y_M_node), (Jvm.Cond.methodLink "VisitGrammarLaw" (108 : Nat) y_V_fell), (Jvm.Cond.instanceMethod y_V_fell), (Jvm.Cond.selects "VisitGrammar" y_V_fell y_V_fell), (Jvm.Cond.methodLink "VisitGrammarLaw" (111 : Nat) y_M_fell), (Jvm.Cond.instanceMethod y_M_fell), (Jvm.Cond.selects "VisitGrammarModel" y_M_fell y_M_fell), (Jvm.Cond.methodLink "VisitGrammarLaw" (112 : Nat) y_L_give), (Jvm.Cond.static y_L_give), (Jvm.Cond.methodLink "VisitGrammarLaw" (115 : Nat) y_M_give), (Jvm.Cond.instanceMethod y_M_give), (Jvm.Cond.selects "VisitGrammarModel" y_M_give y_M_give), (Jvm.Cond.methodLink "VisitGrammarLaw" (116 : Nat) y_L_start), (Jvm.Cond.static y_L_start), (Jvm.Cond.methodLink "VisitGrammarLaw" (119 : Nat) y_M_start), (Jvm.Cond.instanceMethod y_M_start), (Jvm.Cond.selects "VisitGrammarModel" y_M_start y_M_start), (Jvm.Cond.methodLink "VisitGrammarLaw" (120 : Nat) y_L_run), (Jvm.Cond.static y_L_run), (Jvm.Cond.methodLink "VisitGrammarLaw" (122 : Nat) y_M_run), (Jvm.Cond.instanceMethod y_M_run), (Jvm.Cond.selects "VisitGrammarModel" y_M_run y_M_run), (Jvm.Cond.methodLink "VisitGrammarLaw" (123 : Nat) y_V_status), (Jvm.Cond.instanceMethod y_V_status), (Jvm.Cond.selects "VisitGrammar" y_V_status y_V_status), (Jvm.Cond.methodLink "VisitGrammarLaw" (126 : Nat) y_M_status), (Jvm.Cond.instanceMethod y_M_status), (Jvm.Cond.selects "VisitGrammarModel" y_M_status y_M_status), (Jvm.Cond.methodLink "VisitGrammarLaw" (127 : Nat) y_V_atHand), (Jvm.Cond.instanceMethod y_V_atHand)]
def WS_7 : List Cond := [(Jvm.Cond.selects "VisitGrammar" y_V_atHand y_V_atHand), (Jvm.Cond.methodLink "VisitGrammarLaw" (130 : Nat) y_M_atHand), (Jvm.Cond.instanceMethod y_M_atHand), (Jvm.Cond.selects "VisitGrammarModel" y_M_atHand y_M_atHand), (Jvm.Cond.methodLink "VisitGrammarLaw" (131 : Nat) y_L_knows), (Jvm.Cond.static y_L_knows), (Jvm.Cond.methodLink "VisitGrammarLaw" (133 : Nat) y_M_knows), (Jvm.Cond.instanceMethod y_M_knows), (Jvm.Cond.selects "VisitGrammarModel" y_M_knows y_M_knows), (Jvm.Cond.methodLink "VisitGrammarLaw" (134 : Nat) y_L_value), (Jvm.Cond.static y_L_value), (Jvm.Cond.methodLink "VisitGrammarLaw" (136 : Nat) y_M_value), (Jvm.Cond.instanceMethod y_M_value), (Jvm.Cond.selects "VisitGrammarModel" y_M_value y_M_value), (Jvm.Cond.methodLink "VisitGrammarLaw" (90 : Nat) y_V_fault), (Jvm.Cond.instanceMethod y_V_fault), (Jvm.Cond.selects "VisitGrammar" y_V_fault y_V_fault), (Jvm.Cond.methodLink "VisitGrammarLaw" (93 : Nat) y_M_fault), (Jvm.Cond.instanceMethod y_M_fault), (Jvm.Cond.selects "VisitGrammarModel" y_M_fault y_M_fault), (Jvm.Cond.classLink "VisitGrammarLaw" (8 : Nat) "VisitGrammar"), (Jvm.Cond.instantiable "VisitGrammar" (4 : Nat)), (Jvm.Cond.methodLink "VisitGrammarLaw" (65 : Nat) y_V_init), (Jvm.Cond.instanceMethod y_V_init), (Jvm.Cond.classLink "VisitGrammarLaw" (66 : Nat) "VisitGrammarModel"), (Jvm.Cond.instantiable "VisitGrammarModel" (35 : Nat)), (Jvm.Cond.methodLink "VisitGrammarLaw" (68 : Nat) y_M_init), (Jvm.Cond.instanceMethod y_M_init), (Jvm.Cond.arrayClass Jvm.ClassFile.FieldType.long), (Jvm.Cond.initialized "java/lang/Throwable"), (Jvm.Cond.initialized "java/lang/Exception"), (Jvm.Cond.initialized "java/lang/RuntimeException"), (Jvm.Cond.initialized "java/lang/UnsupportedOperationException"), (Jvm.Cond.instantiable "java/lang/IllegalArgumentException" (6 : Nat)), (Jvm.Cond.declares ({ cls := "java/lang/RuntimeException", name := "<init>", desc := "()V" } : Jvm.MethodName)), (Jvm.Cond.declares ({ cls := "java/lang/RuntimeException", name := "<init>", desc := "(Ljava/lang/String;)V" } : Jvm.MethodName)), (Jvm.Cond.declares ({ cls := "java/lang/Exception", name := "<init>", desc := "()V" } : Jvm.MethodName)), (Jvm.Cond.declares ({ cls := "java/lang/Exception", name := "<init>", desc := "(Ljava/lang/String;)V" } : Jvm.MethodName)), (Jvm.Cond.declares ({ cls := "java/lang/Throwable", name := "<init>", desc := "()V" } : Jvm.MethodName)), (Jvm.Cond.declares ({ cls := "java/lang/Throwable", name := "<init>", desc := "(Ljava/lang/String;)V" } : Jvm.MethodName)), (Jvm.Cond.selects "java/lang/IllegalArgumentException" ({ cls := "java/lang/Throwable", name := "fillInStackTrace", desc := "(I)Ljava/lang/Throwable;" } : Jvm.MethodName) ({ cls := "java/lang/Throwable", name := "fillInStackTrace", desc := "(I)Ljava/lang/Throwable;" } : Jvm.MethodName)), (Jvm.Cond.selects "java/lang/IllegalArgumentException" ({ cls := "java/lang/Throwable", name := "fillInStackTrace", desc := "()Ljava/lang/Throwable;" } : Jvm.MethodName) ({ cls := "java/lang/Throwable", name := "fillInStackTrace", desc := "()Ljava/lang/Throwable;" } : Jvm.MethodName)), (Jvm.Cond.lays "java/lang/IllegalArgumentException" "java/lang/Throwable" "cause" "Ljava/lang/Throwable;"), (Jvm.Cond.lays "java/lang/Throwable" "java/lang/Throwable" "cause" "Ljava/lang/Throwable;"), (Jvm.Cond.lays "java/lang/IllegalArgumentException" "java/lang/Throwable" "stackTrace" "[Ljava/lang/StackTraceElement;"), (Jvm.Cond.lays "java/lang/Throwable" "java/lang/Throwable" "stackTrace" "[Ljava/lang/StackTraceElement;"), (Jvm.Cond.lays "java/lang/IllegalArgumentException" "java/lang/Throwable" "suppressedExceptions" "Ljava/util/List;"), (Jvm.Cond.lays "java/lang/Throwable" "java/lang/Throwable" "suppressedExceptions" "Ljava/util/List;"), (Jvm.Cond.lays "java/lang/IllegalArgumentException" "java/lang/Throwable" "detailMessage" "Ljava/lang/String;"), (Jvm.Cond.lays "java/lang/Throwable" "java/lang/Throwable" "detailMessage" "Ljava/lang/String;"), (Jvm.Cond.lays "java/lang/IllegalArgumentException" "java/lang/Throwable" "backtrace" "Ljava/lang/Object;"), (Jvm.Cond.lays "java/lang/Throwable" "java/lang/Throwable" "backtrace" "Ljava/lang/Object;"), (Jvm.Cond.fieldLink "java/lang/Throwable" (198 : Nat) "java/lang/Throwable" "backtrace" "Ljava/lang/Object;"), (Jvm.Cond.superclass "java/lang/Throwable" "java/lang/Object"), (Jvm.Cond.instanceMethod ({ cls := "java/lang/Throwable", name := "<init>", desc := "()V" } : Jvm.MethodName)), (Jvm.Cond.code ({ cls := "java/lang/Throwable", name := "<init>", desc := "()V" } : Jvm.MethodName) prog_20_method_1_code (1 : Nat) (Option.none : Option Jvm.ClassFile.FieldType)), (Jvm.Cond.methodLink "java/lang/Throwable" (1 : Nat) ({ cls := "java/lang/Object", name := "<init>", desc := "()V" } : Jvm.MethodName)), (Jvm.Cond.fieldLink "java/lang/Throwable" (13 : Nat) "java/lang/Throwable" "UNASSIGNED_STACK" "[Ljava/lang/StackTraceElement;"), (Jvm.Cond.fieldLink "java/lang/Throwable" (20 : Nat) "java/lang/Throwable" "SUPPRESSED_SENTINEL" "Ljava/util/List;"), (Jvm.Cond.methodLink "java/lang/Throwable" (27 : Nat) ({ cls := "java/lang/Throwable", name := "fillInStackTrace", desc := "()Ljava/lang/Throwable;" } : Jvm.MethodName))]
def WS_8 : List Cond := [(Jvm.Cond.instanceMethod ({ cls := "java/lang/Throwable", name := "fillInStackTrace", desc := "()Ljava/lang/Throwable;" } : Jvm.MethodName)), (Jvm.Cond.sameMethod "java/lang/Throwable" "java/lang/Throwable" "fillInStackTrace" "()Ljava/lang/Throwable;"), (Jvm.Cond.selects "java/lang/IllegalStateException" ({ cls := "java/lang/Throwable", name := "fillInStackTrace", desc := "()Ljava/lang/Throwable;" } : Jvm.MethodName) ({ cls := "java/lang/Throwable", name := "fillInStackTrace", desc := "()Ljava/lang/Throwable;" } : Jvm.MethodName)), (Jvm.Cond.selects "java/lang/IndexOutOfBoundsException" ({ cls := "java/lang/Throwable", name := "fillInStackTrace", desc := "()Ljava/lang/Throwable;" } : Jvm.MethodName) ({ cls := "java/lang/Throwable", name := "fillInStackTrace", desc := "()Ljava/lang/Throwable;" } : Jvm.MethodName)), (Jvm.Cond.selects "java/lang/UnsupportedOperationException" ({ cls := "java/lang/Throwable", name := "fillInStackTrace", desc := "()Ljava/lang/Throwable;" } : Jvm.MethodName) ({ cls := "java/lang/Throwable", name := "fillInStackTrace", desc := "()Ljava/lang/Throwable;" } : Jvm.MethodName)), (Jvm.Cond.codeSync ({ cls := "java/lang/Throwable", name := "fillInStackTrace", desc := "()Ljava/lang/Throwable;" } : Jvm.MethodName) prog_20_method_18_code (1 : Nat) (Option.some (Jvm.ClassFile.FieldType.object "java/lang/Throwable"))), (Jvm.Cond.methodLink "java/lang/Throwable" (202 : Nat) ({ cls := "java/lang/Throwable", name := "fillInStackTrace", desc := "(I)Ljava/lang/Throwable;" } : Jvm.MethodName)), (Jvm.Cond.privateMethod ({ cls := "java/lang/Throwable", name := "fillInStackTrace", desc := "(I)Ljava/lang/Throwable;" } : Jvm.MethodName)), (Jvm.Cond.instanceMethod ({ cls := "java/lang/Throwable", name := "fillInStackTrace", desc := "(I)Ljava/lang/Throwable;" } : Jvm.MethodName)), (Jvm.Cond.instantiable "java/lang/Throwable" (6 : Nat)), (Jvm.Cond.native ({ cls := "java/lang/Throwable", name := "fillInStackTrace", desc := "(I)Ljava/lang/Throwable;" } : Jvm.MethodName)), (Jvm.Cond.instanceMethod ({ cls := "java/lang/IllegalArgumentException", name := "<init>", desc := "(Ljava/lang/String;)V" } : Jvm.MethodName)), (Jvm.Cond.code ({ cls := "java/lang/IllegalArgumentException", name := "<init>", desc := "(Ljava/lang/String;)V" } : Jvm.MethodName) prog_12_method_2_code (2 : Nat) (Option.none : Option Jvm.ClassFile.FieldType)), (Jvm.Cond.methodLink "java/lang/IllegalArgumentException" (7 : Nat) ({ cls := "java/lang/RuntimeException", name := "<init>", desc := "(Ljava/lang/String;)V" } : Jvm.MethodName)), (Jvm.Cond.instanceMethod ({ cls := "java/lang/RuntimeException", name := "<init>", desc := "(Ljava/lang/String;)V" } : Jvm.MethodName)), (Jvm.Cond.code ({ cls := "java/lang/RuntimeException", name := "<init>", desc := "(Ljava/lang/String;)V" } : Jvm.MethodName) prog_17_method_2_code (2 : Nat) (Option.none : Option Jvm.ClassFile.FieldType)), (Jvm.Cond.methodLink "java/lang/RuntimeException" (7 : Nat) ({ cls := "java/lang/Exception", name := "<init>", desc := "(Ljava/lang/String;)V" } : Jvm.MethodName)), (Jvm.Cond.instanceMethod ({ cls := "java/lang/Exception", name := "<init>", desc := "(Ljava/lang/String;)V" } : Jvm.MethodName)), (Jvm.Cond.code ({ cls := "java/lang/Exception", name := "<init>", desc := "(Ljava/lang/String;)V" } : Jvm.MethodName) prog_11_method_2_code (2 : Nat) (Option.none : Option Jvm.ClassFile.FieldType)), (Jvm.Cond.methodLink "java/lang/Exception" (7 : Nat) ({ cls := "java/lang/Throwable", name := "<init>", desc := "(Ljava/lang/String;)V" } : Jvm.MethodName)), (Jvm.Cond.instanceMethod ({ cls := "java/lang/Throwable", name := "<init>", desc := "(Ljava/lang/String;)V" } : Jvm.MethodName)), (Jvm.Cond.code ({ cls := "java/lang/Throwable", name := "<init>", desc := "(Ljava/lang/String;)V" } : Jvm.MethodName) prog_20_method_2_code (2 : Nat) (Option.none : Option Jvm.ClassFile.FieldType)), (Jvm.Cond.fieldLink "java/lang/Throwable" (31 : Nat) "java/lang/Throwable" "detailMessage" "Ljava/lang/String;"), (Jvm.Cond.fieldLink "java/lang/Throwable" (7 : Nat) "java/lang/Throwable" "cause" "Ljava/lang/Throwable;"), (Jvm.Cond.fieldLink "java/lang/Throwable" (17 : Nat) "java/lang/Throwable" "stackTrace" "[Ljava/lang/StackTraceElement;"), (Jvm.Cond.fieldLink "java/lang/Throwable" (24 : Nat) "java/lang/Throwable" "suppressedExceptions" "Ljava/util/List;"), (Jvm.Cond.soleField "java/lang/Throwable" "backtrace"), (Jvm.Cond.soleField "java/lang/Throwable" "detailMessage"), (Jvm.Cond.soleField "java/lang/Throwable" "cause"), (Jvm.Cond.soleField "java/lang/Throwable" "stackTrace"), (Jvm.Cond.lays "java/lang/IllegalArgumentException" "java/lang/Throwable" "depth" "I"), (Jvm.Cond.soleField "java/lang/Throwable" "depth"), (Jvm.Cond.soleField "java/lang/Throwable" "suppressedExceptions"), (Jvm.Cond.superclass "java/lang/IllegalArgumentException" "java/lang/RuntimeException"), (Jvm.Cond.instantiable "java/lang/IllegalStateException" (6 : Nat)), (Jvm.Cond.selects "java/lang/IllegalStateException" ({ cls := "java/lang/Throwable", name := "fillInStackTrace", desc := "(I)Ljava/lang/Throwable;" } : Jvm.MethodName) ({ cls := "java/lang/Throwable", name := "fillInStackTrace", desc := "(I)Ljava/lang/Throwable;" } : Jvm.MethodName)), (Jvm.Cond.lays "java/lang/IllegalStateException" "java/lang/Throwable" "cause" "Ljava/lang/Throwable;"), (Jvm.Cond.lays "java/lang/IllegalStateException" "java/lang/Throwable" "stackTrace" "[Ljava/lang/StackTraceElement;"), (Jvm.Cond.lays "java/lang/IllegalStateException" "java/lang/Throwable" "suppressedExceptions" "Ljava/util/List;"), (Jvm.Cond.lays "java/lang/IllegalStateException" "java/lang/Throwable" "detailMessage" "Ljava/lang/String;"), (Jvm.Cond.lays "java/lang/IllegalStateException" "java/lang/Throwable" "backtrace" "Ljava/lang/Object;"), (Jvm.Cond.instanceMethod ({ cls := "java/lang/IllegalStateException", name := "<init>", desc := "(Ljava/lang/String;)V" } : Jvm.MethodName)), (Jvm.Cond.code ({ cls := "java/lang/IllegalStateException", name := "<init>", desc := "(Ljava/lang/String;)V" } : Jvm.MethodName) prog_13_method_2_code (2 : Nat) (Option.none : Option Jvm.ClassFile.FieldType)), (Jvm.Cond.methodLink "java/lang/IllegalStateException" (7 : Nat) ({ cls := "java/lang/RuntimeException", name := "<init>", desc := "(Ljava/lang/String;)V" } : Jvm.MethodName)), (Jvm.Cond.lays "java/lang/IllegalStateException" "java/lang/Throwable" "depth" "I"), (Jvm.Cond.superclass "java/lang/IllegalStateException" "java/lang/RuntimeException"), (Jvm.Cond.instantiable "java/lang/IndexOutOfBoundsException" (6 : Nat)), (Jvm.Cond.selects "java/lang/IndexOutOfBoundsException" ({ cls := "java/lang/Throwable", name := "fillInStackTrace", desc := "(I)Ljava/lang/Throwable;" } : Jvm.MethodName) ({ cls := "java/lang/Throwable", name := "fillInStackTrace", desc := "(I)Ljava/lang/Throwable;" } : Jvm.MethodName)), (Jvm.Cond.lays "java/lang/IndexOutOfBoundsException" "java/lang/Throwable" "cause" "Ljava/lang/Throwable;"), (Jvm.Cond.lays "java/lang/IndexOutOfBoundsException" "java/lang/Throwable" "stackTrace" "[Ljava/lang/StackTraceElement;"), (Jvm.Cond.lays "java/lang/IndexOutOfBoundsException" "java/lang/Throwable" "suppressedExceptions" "Ljava/util/List;"), (Jvm.Cond.lays "java/lang/IndexOutOfBoundsException" "java/lang/Throwable" "detailMessage" "Ljava/lang/String;"), (Jvm.Cond.lays "java/lang/IndexOutOfBoundsException" "java/lang/Throwable" "backtrace" "Ljava/lang/Object;"), (Jvm.Cond.instanceMethod ({ cls := "java/lang/IndexOutOfBoundsException", name := "<init>", desc := "(Ljava/lang/String;)V" } : Jvm.MethodName)), (Jvm.Cond.code ({ cls := "java/lang/IndexOutOfBoundsException", name := "<init>", desc := "(Ljava/lang/String;)V" } : Jvm.MethodName) prog_14_method_2_code (2 : Nat) (Option.none : Option Jvm.ClassFile.FieldType)), (Jvm.Cond.methodLink "java/lang/IndexOutOfBoundsException" (7 : Nat) ({ cls := "java/lang/RuntimeException", name := "<init>", desc := "(Ljava/lang/String;)V" } : Jvm.MethodName)), (Jvm.Cond.lays "java/lang/IndexOutOfBoundsException" "java/lang/Throwable" "depth" "I"), (Jvm.Cond.superclass "java/lang/IndexOutOfBoundsException" "java/lang/RuntimeException"), (Jvm.Cond.instantiable "java/lang/UnsupportedOperationException" (6 : Nat)), (Jvm.Cond.castable "java/lang/UnsupportedOperationException" "java/lang/UnsupportedOperationException")]
def WS_9 : List Cond := [(Jvm.Cond.selects "java/lang/UnsupportedOperationException" ({ cls := "java/lang/Throwable", name := "fillInStackTrace", desc := "(I)Ljava/lang/Throwable;" } : Jvm.MethodName) ({ cls := "java/lang/Throwable", name := "fillInStackTrace", desc := "(I)Ljava/lang/Throwable;" } : Jvm.MethodName)), (Jvm.Cond.lays "java/lang/UnsupportedOperationException" "java/lang/Throwable" "cause" "Ljava/lang/Throwable;"), (Jvm.Cond.lays "java/lang/UnsupportedOperationException" "java/lang/Throwable" "stackTrace" "[Ljava/lang/StackTraceElement;"), (Jvm.Cond.lays "java/lang/UnsupportedOperationException" "java/lang/Throwable" "suppressedExceptions" "Ljava/util/List;"), (Jvm.Cond.lays "java/lang/UnsupportedOperationException" "java/lang/Throwable" "detailMessage" "Ljava/lang/String;"), (Jvm.Cond.lays "java/lang/UnsupportedOperationException" "java/lang/Throwable" "backtrace" "Ljava/lang/Object;"), (Jvm.Cond.instanceMethod ({ cls := "java/lang/UnsupportedOperationException", name := "<init>", desc := "(Ljava/lang/String;)V" } : Jvm.MethodName)), (Jvm.Cond.code ({ cls := "java/lang/UnsupportedOperationException", name := "<init>", desc := "(Ljava/lang/String;)V" } : Jvm.MethodName) prog_21_method_2_code (2 : Nat) (Option.none : Option Jvm.ClassFile.FieldType)), (Jvm.Cond.methodLink "java/lang/UnsupportedOperationException" (7 : Nat) ({ cls := "java/lang/RuntimeException", name := "<init>", desc := "(Ljava/lang/String;)V" } : Jvm.MethodName)), (Jvm.Cond.lays "java/lang/UnsupportedOperationException" "java/lang/Throwable" "depth" "I"), (Jvm.Cond.superclass "java/lang/UnsupportedOperationException" "java/lang/RuntimeException"), (Jvm.Cond.sameMethod "java/lang/Throwable" "java/lang/Throwable" "fillInStackTrace" "(I)Ljava/lang/Throwable;"), (Jvm.Cond.laysFinal "VisitGrammar" "VisitGrammar" "grammar" "LVisitGrammar$Grammar;"), (Jvm.Cond.laysFinal "VisitGrammar" "VisitGrammar" "analysis" "LVisitGrammar$Analysis;"), (Jvm.Cond.laysFinal "VisitGrammar" "VisitGrammar" "tree" "LVisitGrammar$Tree;"), (Jvm.Cond.laysFinal "VisitGrammar" "VisitGrammar" "walk" "LVisitGrammar$Walk;"), (Jvm.Cond.laysFinal "VisitGrammar$Grammar" "VisitGrammar$Grammar" "attributeCounts" "[I"), (Jvm.Cond.laysFinal "VisitGrammar$Grammar" "VisitGrammar$Grammar" "inheritedBits" "[I"), (Jvm.Cond.lays "VisitGrammar$Grammar" "VisitGrammar$Grammar" "symbolCount" "I"), (Jvm.Cond.laysFinal "VisitGrammar$Grammar" "VisitGrammar$Grammar" "symbolsAt" "[I"), (Jvm.Cond.laysFinal "VisitGrammar$Grammar" "VisitGrammar$Grammar" "lastPositions" "[I"), (Jvm.Cond.laysFinal "VisitGrammar$Grammar" "VisitGrammar$Grammar" "presentBits" "[I"), (Jvm.Cond.laysFinal "VisitGrammar$Grammar" "VisitGrammar$Grammar" "toDefineBits" "[I"), (Jvm.Cond.lays "VisitGrammar$Grammar" "VisitGrammar$Grammar" "productionCount" "I"), (Jvm.Cond.laysFinal "VisitGrammar$Grammar" "VisitGrammar$Grammar" "ruledBits" "[I"), (Jvm.Cond.laysFinal "VisitGrammar$Grammar" "VisitGrammar$Grammar" "forms" "[I"), (Jvm.Cond.laysFinal "VisitGrammar$Grammar" "VisitGrammar$Grammar" "firsts" "[I"), (Jvm.Cond.laysFinal "VisitGrammar$Grammar" "VisitGrammar$Grammar" "seconds" "[I"), (Jvm.Cond.laysFinal "VisitGrammar$Grammar" "VisitGrammar$Grammar" "usedBits" "[I"), (Jvm.Cond.laysFinal "VisitGrammar$Analysis" "VisitGrammar$Analysis" "grammar" "LVisitGrammar$Grammar;"), (Jvm.Cond.laysFinal "VisitGrammar$Analysis" "VisitGrammar$Analysis" "leads" "LVisitGrammar$Leads;"), (Jvm.Cond.laysFinal "VisitGrammar$Analysis" "VisitGrammar$Analysis" "ranking" "LVisitGrammar$Ranking;"), (Jvm.Cond.laysFinal "VisitGrammar$Analysis" "VisitGrammar$Analysis" "sequences" "LVisitGrammar$Sequences;"), (Jvm.Cond.lays "VisitGrammar$Analysis" "VisitGrammar$Analysis" "present" "Z"), (Jvm.Cond.lays "VisitGrammar$Analysis" "VisitGrammar$Analysis" "faultKind" "I"), (Jvm.Cond.lays "VisitGrammar$Analysis" "VisitGrammar$Analysis" "faultProduction" "I"), (Jvm.Cond.lays "VisitGrammar$Analysis" "VisitGrammar$Analysis" "faultOccurrence" "I"), (Jvm.Cond.laysFinal "VisitGrammar$Leads" "VisitGrammar$Leads" "grammar" "LVisitGrammar$Grammar;"), (Jvm.Cond.laysFinal "VisitGrammar$Leads" "VisitGrammar$Leads" "ofOccurrences" "[I"), (Jvm.Cond.laysFinal "VisitGrammar$Leads" "VisitGrammar$Leads" "ofAttributes" "[I"), (Jvm.Cond.laysFinal "VisitGrammar$Ranking" "VisitGrammar$Ranking" "grammar" "LVisitGrammar$Grammar;"), (Jvm.Cond.laysFinal "VisitGrammar$Ranking" "VisitGrammar$Ranking" "leads" "LVisitGrammar$Leads;"), (Jvm.Cond.laysFinal "VisitGrammar$Ranking" "VisitGrammar$Ranking" "ranks" "[I"), (Jvm.Cond.laysFinal "VisitGrammar$Ranking" "VisitGrammar$Ranking" "visitCounts" "[I"), (Jvm.Cond.laysFinal "VisitGrammar$Ranking" "VisitGrammar$Ranking" "belonging" "[I"), (Jvm.Cond.laysFinal "VisitGrammar$Sequences" "VisitGrammar$Sequences" "grammar" "LVisitGrammar$Grammar;"), (Jvm.Cond.laysFinal "VisitGrammar$Sequences" "VisitGrammar$Sequences" "ranking" "LVisitGrammar$Ranking;"), (Jvm.Cond.laysFinal "VisitGrammar$Sequences" "VisitGrammar$Sequences" "instructions" "[I"), (Jvm.Cond.laysFinal "VisitGrammar$Sequences" "VisitGrammar$Sequences" "lengths" "[I"), (Jvm.Cond.laysFinal "VisitGrammar$Sequences" "VisitGrammar$Sequences" "visitsWritten" "[I"), (Jvm.Cond.lays "VisitGrammar$Sequences" "VisitGrammar$Sequences" "setBits" "I"), (Jvm.Cond.lays "VisitGrammar$Sequences" "VisitGrammar$Sequences" "knownBits" "I"), (Jvm.Cond.laysFinal "VisitGrammar$Tree" "VisitGrammar$Tree" "grammar" "LVisitGrammar$Grammar;"), (Jvm.Cond.laysFinal "VisitGrammar$Tree" "VisitGrammar$Tree" "productions" "[I"), (Jvm.Cond.laysFinal "VisitGrammar$Tree" "VisitGrammar$Tree" "tokens" "[I"), (Jvm.Cond.laysFinal "VisitGrammar$Tree" "VisitGrammar$Tree" "parents" "[I"), (Jvm.Cond.laysFinal "VisitGrammar$Tree" "VisitGrammar$Tree" "nodesAt" "[I"), (Jvm.Cond.lays "VisitGrammar$Tree" "VisitGrammar$Tree" "nodeCount" "I"), (Jvm.Cond.laysFinal "VisitGrammar$Walk" "VisitGrammar$Walk" "grammar" "LVisitGrammar$Grammar;"), (Jvm.Cond.laysFinal "VisitGrammar$Walk" "VisitGrammar$Walk" "sequences" "LVisitGrammar$Sequences;")]
def WS_10 : List Cond := [(Jvm.Cond.laysFinal "VisitGrammar$Walk" "VisitGrammar$Walk" "tree" "LVisitGrammar$Tree;"), (Jvm.Cond.laysFinal "VisitGrammar$Walk" "VisitGrammar$Walk" "given" "[I"), (Jvm.Cond.laysFinal "VisitGrammar$Walk" "VisitGrammar$Walk" "values" "[I"), (Jvm.Cond.laysFinal "VisitGrammar$Walk" "VisitGrammar$Walk" "knownBits" "[I"), (Jvm.Cond.laysFinal "VisitGrammar$Walk" "VisitGrammar$Walk" "instructionsDone" "[I"), (Jvm.Cond.lays "VisitGrammar$Walk" "VisitGrammar$Walk" "state" "I"), (Jvm.Cond.lays "VisitGrammar$Walk" "VisitGrammar$Walk" "root" "I"), (Jvm.Cond.lays "VisitGrammar$Walk" "VisitGrammar$Walk" "nodeAtHand" "I"), (Jvm.Cond.lays "VisitGrammarModel" "VisitGrammarModel" "code" "I"), (Jvm.Cond.lays "VisitGrammarModel" "VisitGrammarModel" "symbols" "I"), (Jvm.Cond.laysFinal "VisitGrammarModel" "VisitGrammarModel" "attributes" "[I"), (Jvm.Cond.laysFinal "VisitGrammarModel" "VisitGrammarModel" "inherits" "[Z"), (Jvm.Cond.lays "VisitGrammarModel" "VisitGrammarModel" "productions" "I"), (Jvm.Cond.laysFinal "VisitGrammarModel" "VisitGrammarModel" "positions" "[I"), (Jvm.Cond.laysFinal "VisitGrammarModel" "VisitGrammarModel" "symbolAt" "[I"), (Jvm.Cond.laysFinal "VisitGrammarModel" "VisitGrammarModel" "form" "[I"), (Jvm.Cond.laysFinal "VisitGrammarModel" "VisitGrammarModel" "ruleX" "[I"), (Jvm.Cond.laysFinal "VisitGrammarModel" "VisitGrammarModel" "ruleY" "[I"), (Jvm.Cond.lays "VisitGrammarModel" "VisitGrammarModel" "analysed" "Z"), (Jvm.Cond.lays "VisitGrammarModel" "VisitGrammarModel" "faultKind" "I"), (Jvm.Cond.lays "VisitGrammarModel" "VisitGrammarModel" "faultProduction" "I"), (Jvm.Cond.lays "VisitGrammarModel" "VisitGrammarModel" "faultOccurrence" "I"), (Jvm.Cond.laysFinal "VisitGrammarModel" "VisitGrammarModel" "uses" "[Z"), (Jvm.Cond.laysFinal "VisitGrammarModel" "VisitGrammarModel" "leads" "[Z"), (Jvm.Cond.laysFinal "VisitGrammarModel" "VisitGrammarModel" "symbolLeads" "[Z"), (Jvm.Cond.laysFinal "VisitGrammarModel" "VisitGrammarModel" "order" "[Z"), (Jvm.Cond.laysFinal "VisitGrammarModel" "VisitGrammarModel" "rank" "[I"), (Jvm.Cond.laysFinal "VisitGrammarModel" "VisitGrammarModel" "visits" "[I"), (Jvm.Cond.laysFinal "VisitGrammarModel" "VisitGrammarModel" "length" "[I"), (Jvm.Cond.laysFinal "VisitGrammarModel" "VisitGrammarModel" "sequence" "[I"), (Jvm.Cond.laysFinal "VisitGrammarModel" "VisitGrammarModel" "set" "[Z"), (Jvm.Cond.laysFinal "VisitGrammarModel" "VisitGrammarModel" "visited" "[I"), (Jvm.Cond.lays "VisitGrammarModel" "VisitGrammarModel" "nodes" "I"), (Jvm.Cond.laysFinal "VisitGrammarModel" "VisitGrammarModel" "production" "[I"), (Jvm.Cond.laysFinal "VisitGrammarModel" "VisitGrammarModel" "token" "[I"), (Jvm.Cond.laysFinal "VisitGrammarModel" "VisitGrammarModel" "child" "[I"), (Jvm.Cond.laysFinal "VisitGrammarModel" "VisitGrammarModel" "parent" "[I"), (Jvm.Cond.laysFinal "VisitGrammarModel" "VisitGrammarModel" "next" "[I"), (Jvm.Cond.laysFinal "VisitGrammarModel" "VisitGrammarModel" "known" "[Z"), (Jvm.Cond.laysFinal "VisitGrammarModel" "VisitGrammarModel" "value" "[I"), (Jvm.Cond.laysFinal "VisitGrammarModel" "VisitGrammarModel" "given" "[I"), (Jvm.Cond.lays "VisitGrammarModel" "VisitGrammarModel" "root" "I"), (Jvm.Cond.lays "VisitGrammarModel" "VisitGrammarModel" "hand" "I")]
def WS : List Cond := WS_0 ++ (WS_1 ++ (WS_2 ++ (WS_3 ++ (WS_4 ++ (WS_5 ++ (WS_6 ++ (WS_7 ++ (WS_8 ++ (WS_9 ++ (WS_10))))))))))
theorem WSk : WS.all vq_k = true := by decide +kernel
theorem k_0 : (Jvm.Cond.code y_G_init prog_3_method_1_code (1 : Nat) (Option.none : Option Jvm.ClassFile.FieldType)) ∈ WS := List.mem_of_getElem? (i := 0) (by decide +kernel)
theorem k_1 : (Jvm.Cond.methodLink "VisitGrammar$Grammar" (3 : Nat) ({ cls := "java/lang/Object", name := "<init>", desc := "()V" } : Jvm.MethodName)) ∈ WS := List.mem_of_getElem? (i := 1) (by decide +kernel)
theorem k_2 : (Jvm.Cond.instanceMethod ({ cls := "java/lang/Object", name := "<init>", desc := "()V" } : Jvm.MethodName)) ∈ WS := List.mem_of_getElem? (i := 2) (by decide +kernel)
theorem k_3 : (Jvm.Cond.code ({ cls := "java/lang/Object", name := "<init>", desc := "()V" } : Jvm.MethodName) object_method_1_code (1 : Nat) (Option.none : Option Jvm.ClassFile.FieldType)) ∈ WS := List.mem_of_getElem? (i := 3) (by decide +kernel)
theorem k_4 : (Jvm.Cond.arrayClass Jvm.ClassFile.FieldType.int) ∈ WS := List.mem_of_getElem? (i := 4) (by decide +kernel)
theorem k_5 : (Jvm.Cond.fieldLink "VisitGrammar$Grammar" (9 : Nat) "VisitGrammar$Grammar" "attributeCounts" "[I") ∈ WS := List.mem_of_getElem? (i := 5) (by decide +kernel)
theorem k_6 : (Jvm.Cond.fieldLink "VisitGrammar$Grammar" (15 : Nat) "VisitGrammar$Grammar" "inheritedBits" "[I") ∈ WS := List.mem_of_getElem? (i := 6) (by decide +kernel)
theorem k_7 : (Jvm.Cond.fieldLink "VisitGrammar$Grammar" (18 : Nat) "VisitGrammar$Grammar" "symbolsAt" "[I") ∈ WS := List.mem_of_getElem? (i := 7) (by decide +kernel)
theorem k_8 : (Jvm.Cond.fieldLink "VisitGrammar$Grammar" (21 : Nat) "VisitGrammar$Grammar" "lastPositions" "[I") ∈ WS := List.mem_of_getElem? (i := 8) (by decide +kernel)
theorem k_9 : (Jvm.Cond.fieldLink "VisitGrammar$Grammar" (24 : Nat) "VisitGrammar$Grammar" "presentBits" "[I") ∈ WS := List.mem_of_getElem? (i := 9) (by decide +kernel)
theorem k_10 : (Jvm.Cond.fieldLink "VisitGrammar$Grammar" (27 : Nat) "VisitGrammar$Grammar" "toDefineBits" "[I") ∈ WS := List.mem_of_getElem? (i := 10) (by decide +kernel)
theorem k_11 : (Jvm.Cond.fieldLink "VisitGrammar$Grammar" (30 : Nat) "VisitGrammar$Grammar" "ruledBits" "[I") ∈ WS := List.mem_of_getElem? (i := 11) (by decide +kernel)
theorem k_12 : (Jvm.Cond.fieldLink "VisitGrammar$Grammar" (33 : Nat) "VisitGrammar$Grammar" "forms" "[I") ∈ WS := List.mem_of_getElem? (i := 12) (by decide +kernel)
theorem k_13 : (Jvm.Cond.fieldLink "VisitGrammar$Grammar" (36 : Nat) "VisitGrammar$Grammar" "firsts" "[I") ∈ WS := List.mem_of_getElem? (i := 13) (by decide +kernel)
theorem k_14 : (Jvm.Cond.fieldLink "VisitGrammar$Grammar" (39 : Nat) "VisitGrammar$Grammar" "seconds" "[I") ∈ WS := List.mem_of_getElem? (i := 14) (by decide +kernel)
theorem k_15 : (Jvm.Cond.fieldLink "VisitGrammar$Grammar" (42 : Nat) "VisitGrammar$Grammar" "usedBits" "[I") ∈ WS := List.mem_of_getElem? (i := 15) (by decide +kernel)
theorem k_16 : (Jvm.Cond.code y_E_init prog_4_method_1_code (2 : Nat) (Option.none : Option Jvm.ClassFile.FieldType)) ∈ WS := List.mem_of_getElem? (i := 16) (by decide +kernel)
theorem k_17 : (Jvm.Cond.methodLink "VisitGrammar$Leads" (3 : Nat) ({ cls := "java/lang/Object", name := "<init>", desc := "()V" } : Jvm.MethodName)) ∈ WS := List.mem_of_getElem? (i := 17) (by decide +kernel)
theorem k_18 : (Jvm.Cond.fieldLink "VisitGrammar$Leads" (9 : Nat) "VisitGrammar$Leads" "ofOccurrences" "[I") ∈ WS := List.mem_of_getElem? (i := 18) (by decide +kernel)
theorem k_19 : (Jvm.Cond.fieldLink "VisitGrammar$Leads" (15 : Nat) "VisitGrammar$Leads" "ofAttributes" "[I") ∈ WS := List.mem_of_getElem? (i := 19) (by decide +kernel)
theorem k_20 : (Jvm.Cond.fieldLink "VisitGrammar$Leads" (18 : Nat) "VisitGrammar$Leads" "grammar" "LVisitGrammar$Grammar;") ∈ WS := List.mem_of_getElem? (i := 20) (by decide +kernel)
theorem k_21 : (Jvm.Cond.code y_K_init prog_5_method_1_code (3 : Nat) (Option.none : Option Jvm.ClassFile.FieldType)) ∈ WS := List.mem_of_getElem? (i := 21) (by decide +kernel)
theorem k_22 : (Jvm.Cond.methodLink "VisitGrammar$Ranking" (3 : Nat) ({ cls := "java/lang/Object", name := "<init>", desc := "()V" } : Jvm.MethodName)) ∈ WS := List.mem_of_getElem? (i := 22) (by decide +kernel)
theorem k_23 : (Jvm.Cond.fieldLink "VisitGrammar$Ranking" (9 : Nat) "VisitGrammar$Ranking" "ranks" "[I") ∈ WS := List.mem_of_getElem? (i := 23) (by decide +kernel)
theorem k_24 : (Jvm.Cond.fieldLink "VisitGrammar$Ranking" (15 : Nat) "VisitGrammar$Ranking" "visitCounts" "[I") ∈ WS := List.mem_of_getElem? (i := 24) (by decide +kernel)
theorem k_25 : (Jvm.Cond.fieldLink "VisitGrammar$Ranking" (18 : Nat) "VisitGrammar$Ranking" "belonging" "[I") ∈ WS := List.mem_of_getElem? (i := 25) (by decide +kernel)
theorem k_26 : (Jvm.Cond.fieldLink "VisitGrammar$Ranking" (21 : Nat) "VisitGrammar$Ranking" "grammar" "LVisitGrammar$Grammar;") ∈ WS := List.mem_of_getElem? (i := 26) (by decide +kernel)
theorem k_27 : (Jvm.Cond.fieldLink "VisitGrammar$Ranking" (25 : Nat) "VisitGrammar$Ranking" "leads" "LVisitGrammar$Leads;") ∈ WS := List.mem_of_getElem? (i := 27) (by decide +kernel)
theorem k_28 : (Jvm.Cond.code y_Q_init prog_6_method_1_code (3 : Nat) (Option.none : Option Jvm.ClassFile.FieldType)) ∈ WS := List.mem_of_getElem? (i := 28) (by decide +kernel)
theorem k_29 : (Jvm.Cond.methodLink "VisitGrammar$Sequences" (3 : Nat) ({ cls := "java/lang/Object", name := "<init>", desc := "()V" } : Jvm.MethodName)) ∈ WS := List.mem_of_getElem? (i := 29) (by decide +kernel)
theorem k_30 : (Jvm.Cond.fieldLink "VisitGrammar$Sequences" (11 : Nat) "VisitGrammar$Sequences" "instructions" "[I") ∈ WS := List.mem_of_getElem? (i := 30) (by decide +kernel)
theorem k_31 : (Jvm.Cond.fieldLink "VisitGrammar$Sequences" (15 : Nat) "VisitGrammar$Sequences" "lengths" "[I") ∈ WS := List.mem_of_getElem? (i := 31) (by decide +kernel)
theorem k_32 : (Jvm.Cond.fieldLink "VisitGrammar$Sequences" (18 : Nat) "VisitGrammar$Sequences" "visitsWritten" "[I") ∈ WS := List.mem_of_getElem? (i := 32) (by decide +kernel)
theorem k_33 : (Jvm.Cond.fieldLink "VisitGrammar$Sequences" (21 : Nat) "VisitGrammar$Sequences" "grammar" "LVisitGrammar$Grammar;") ∈ WS := List.mem_of_getElem? (i := 33) (by decide +kernel)
theorem k_34 : (Jvm.Cond.fieldLink "VisitGrammar$Sequences" (25 : Nat) "VisitGrammar$Sequences" "ranking" "LVisitGrammar$Ranking;") ∈ WS := List.mem_of_getElem? (i := 34) (by decide +kernel)
theorem k_35 : (Jvm.Cond.code y_A_init prog_2_method_1_code (2 : Nat) (Option.none : Option Jvm.ClassFile.FieldType)) ∈ WS := List.mem_of_getElem? (i := 35) (by decide +kernel)
theorem k_36 : (Jvm.Cond.methodLink "VisitGrammar$Analysis" (3 : Nat) ({ cls := "java/lang/Object", name := "<init>", desc := "()V" } : Jvm.MethodName)) ∈ WS := List.mem_of_getElem? (i := 36) (by decide +kernel)
theorem k_37 : (Jvm.Cond.fieldLink "VisitGrammar$Analysis" (9 : Nat) "VisitGrammar$Analysis" "faultProduction" "I") ∈ WS := List.mem_of_getElem? (i := 37) (by decide +kernel)
theorem k_38 : (Jvm.Cond.fieldLink "VisitGrammar$Analysis" (15 : Nat) "VisitGrammar$Analysis" "faultOccurrence" "I") ∈ WS := List.mem_of_getElem? (i := 38) (by decide +kernel)
theorem k_39 : (Jvm.Cond.fieldLink "VisitGrammar$Analysis" (18 : Nat) "VisitGrammar$Analysis" "grammar" "LVisitGrammar$Grammar;") ∈ WS := List.mem_of_getElem? (i := 39) (by decide +kernel)
theorem k_40 : (Jvm.Cond.classLink "VisitGrammar$Analysis" (22 : Nat) "VisitGrammar$Leads") ∈ WS := List.mem_of_getElem? (i := 40) (by decide +kernel)
theorem k_41 : (Jvm.Cond.instantiable "VisitGrammar$Leads" (3 : Nat)) ∈ WS := List.mem_of_getElem? (i := 41) (by decide +kernel)
theorem k_42 : (Jvm.Cond.initialized "VisitGrammar$Leads") ∈ WS := List.mem_of_getElem? (i := 42) (by decide +kernel)
theorem k_43 : (Jvm.Cond.methodLink "VisitGrammar$Analysis" (24 : Nat) y_E_init) ∈ WS := List.mem_of_getElem? (i := 43) (by decide +kernel)
theorem k_44 : (Jvm.Cond.instanceMethod y_E_init) ∈ WS := List.mem_of_getElem? (i := 44) (by decide +kernel)
theorem k_45 : (Jvm.Cond.fieldLink "VisitGrammar$Analysis" (27 : Nat) "VisitGrammar$Analysis" "leads" "LVisitGrammar$Leads;") ∈ WS := List.mem_of_getElem? (i := 45) (by decide +kernel)
theorem k_46 : (Jvm.Cond.classLink "VisitGrammar$Analysis" (31 : Nat) "VisitGrammar$Ranking") ∈ WS := List.mem_of_getElem? (i := 46) (by decide +kernel)
theorem k_47 : (Jvm.Cond.instantiable "VisitGrammar$Ranking" (5 : Nat)) ∈ WS := List.mem_of_getElem? (i := 47) (by decide +kernel)
theorem k_48 : (Jvm.Cond.initialized "VisitGrammar$Ranking") ∈ WS := List.mem_of_getElem? (i := 48) (by decide +kernel)
theorem k_49 : (Jvm.Cond.methodLink "VisitGrammar$Analysis" (33 : Nat) y_K_init) ∈ WS := List.mem_of_getElem? (i := 49) (by decide +kernel)
theorem k_50 : (Jvm.Cond.instanceMethod y_K_init) ∈ WS := List.mem_of_getElem? (i := 50) (by decide +kernel)
theorem k_51 : (Jvm.Cond.fieldLink "VisitGrammar$Analysis" (36 : Nat) "VisitGrammar$Analysis" "ranking" "LVisitGrammar$Ranking;") ∈ WS := List.mem_of_getElem? (i := 51) (by decide +kernel)
theorem k_52 : (Jvm.Cond.classLink "VisitGrammar$Analysis" (40 : Nat) "VisitGrammar$Sequences") ∈ WS := List.mem_of_getElem? (i := 52) (by decide +kernel)
theorem k_53 : (Jvm.Cond.instantiable "VisitGrammar$Sequences" (7 : Nat)) ∈ WS := List.mem_of_getElem? (i := 53) (by decide +kernel)
theorem k_54 : (Jvm.Cond.initialized "VisitGrammar$Sequences") ∈ WS := List.mem_of_getElem? (i := 54) (by decide +kernel)
theorem k_55 : (Jvm.Cond.methodLink "VisitGrammar$Analysis" (42 : Nat) y_Q_init) ∈ WS := List.mem_of_getElem? (i := 55) (by decide +kernel)
theorem k_56 : (Jvm.Cond.instanceMethod y_Q_init) ∈ WS := List.mem_of_getElem? (i := 56) (by decide +kernel)
theorem k_57 : (Jvm.Cond.fieldLink "VisitGrammar$Analysis" (45 : Nat) "VisitGrammar$Analysis" "sequences" "LVisitGrammar$Sequences;") ∈ WS := List.mem_of_getElem? (i := 57) (by decide +kernel)
theorem k_58 : (Jvm.Cond.code y_Z_init prog_7_method_1_code (2 : Nat) (Option.none : Option Jvm.ClassFile.FieldType)) ∈ WS := List.mem_of_getElem? (i := 58) (by decide +kernel)
theorem k_59 : (Jvm.Cond.methodLink "VisitGrammar$Tree" (3 : Nat) ({ cls := "java/lang/Object", name := "<init>", desc := "()V" } : Jvm.MethodName)) ∈ WS := List.mem_of_getElem? (i := 59) (by decide +kernel)
theorem k_60 : (Jvm.Cond.fieldLink "VisitGrammar$Tree" (9 : Nat) "VisitGrammar$Tree" "productions" "[I") ∈ WS := List.mem_of_getElem? (i := 60) (by decide +kernel)
theorem k_61 : (Jvm.Cond.fieldLink "VisitGrammar$Tree" (15 : Nat) "VisitGrammar$Tree" "tokens" "[I") ∈ WS := List.mem_of_getElem? (i := 61) (by decide +kernel)
theorem k_62 : (Jvm.Cond.fieldLink "VisitGrammar$Tree" (18 : Nat) "VisitGrammar$Tree" "parents" "[I") ∈ WS := List.mem_of_getElem? (i := 62) (by decide +kernel)
theorem k_63 : (Jvm.Cond.fieldLink "VisitGrammar$Tree" (21 : Nat) "VisitGrammar$Tree" "nodesAt" "[I") ∈ WS := List.mem_of_getElem? (i := 63) (by decide +kernel)
theorem k_64 : (Jvm.Cond.fieldLink "VisitGrammar$Tree" (24 : Nat) "VisitGrammar$Tree" "grammar" "LVisitGrammar$Grammar;") ∈ WS := List.mem_of_getElem? (i := 64) (by decide +kernel)
theorem k_65 : (Jvm.Cond.code y_U_init prog_8_method_1_code (4 : Nat) (Option.none : Option Jvm.ClassFile.FieldType)) ∈ WS := List.mem_of_getElem? (i := 65) (by decide +kernel)
theorem k_66 : (Jvm.Cond.methodLink "VisitGrammar$Walk" (3 : Nat) ({ cls := "java/lang/Object", name := "<init>", desc := "()V" } : Jvm.MethodName)) ∈ WS := List.mem_of_getElem? (i := 66) (by decide +kernel)
theorem k_67 : (Jvm.Cond.fieldLink "VisitGrammar$Walk" (9 : Nat) "VisitGrammar$Walk" "given" "[I") ∈ WS := List.mem_of_getElem? (i := 67) (by decide +kernel)
theorem k_68 : (Jvm.Cond.fieldLink "VisitGrammar$Walk" (15 : Nat) "VisitGrammar$Walk" "values" "[I") ∈ WS := List.mem_of_getElem? (i := 68) (by decide +kernel)
theorem k_69 : (Jvm.Cond.fieldLink "VisitGrammar$Walk" (18 : Nat) "VisitGrammar$Walk" "knownBits" "[I") ∈ WS := List.mem_of_getElem? (i := 69) (by decide +kernel)
theorem k_70 : (Jvm.Cond.fieldLink "VisitGrammar$Walk" (21 : Nat) "VisitGrammar$Walk" "instructionsDone" "[I") ∈ WS := List.mem_of_getElem? (i := 70) (by decide +kernel)
theorem k_71 : (Jvm.Cond.fieldLink "VisitGrammar$Walk" (24 : Nat) "VisitGrammar$Walk" "grammar" "LVisitGrammar$Grammar;") ∈ WS := List.mem_of_getElem? (i := 71) (by decide +kernel)
theorem k_72 : (Jvm.Cond.fieldLink "VisitGrammar$Walk" (28 : Nat) "VisitGrammar$Walk" "sequences" "LVisitGrammar$Sequences;") ∈ WS := List.mem_of_getElem? (i := 72) (by decide +kernel)
theorem k_73 : (Jvm.Cond.fieldLink "VisitGrammar$Walk" (32 : Nat) "VisitGrammar$Walk" "tree" "LVisitGrammar$Tree;") ∈ WS := List.mem_of_getElem? (i := 73) (by decide +kernel)
theorem k_74 : (Jvm.Cond.code y_V_init prog_1_method_1_code (1 : Nat) (Option.none : Option Jvm.ClassFile.FieldType)) ∈ WS := List.mem_of_getElem? (i := 74) (by decide +kernel)
theorem k_75 : (Jvm.Cond.methodLink "VisitGrammar" (3 : Nat) ({ cls := "java/lang/Object", name := "<init>", desc := "()V" } : Jvm.MethodName)) ∈ WS := List.mem_of_getElem? (i := 75) (by decide +kernel)
theorem k_76 : (Jvm.Cond.classLink "VisitGrammar" (9 : Nat) "VisitGrammar$Grammar") ∈ WS := List.mem_of_getElem? (i := 76) (by decide +kernel)
theorem k_77 : (Jvm.Cond.instantiable "VisitGrammar$Grammar" (13 : Nat)) ∈ WS := List.mem_of_getElem? (i := 77) (by decide +kernel)
theorem k_78 : (Jvm.Cond.initialized "VisitGrammar$Grammar") ∈ WS := List.mem_of_getElem? (i := 78) (by decide +kernel)
theorem k_79 : (Jvm.Cond.methodLinkNest "VisitGrammar" (11 : Nat) y_G_init "VisitGrammar") ∈ WS := List.mem_of_getElem? (i := 79) (by decide +kernel)
theorem k_80 : (Jvm.Cond.instanceMethod y_G_init) ∈ WS := List.mem_of_getElem? (i := 80) (by decide +kernel)
theorem k_81 : (Jvm.Cond.fieldLink "VisitGrammar" (12 : Nat) "VisitGrammar" "grammar" "LVisitGrammar$Grammar;") ∈ WS := List.mem_of_getElem? (i := 81) (by decide +kernel)
theorem k_82 : (Jvm.Cond.classLink "VisitGrammar" (16 : Nat) "VisitGrammar$Analysis") ∈ WS := List.mem_of_getElem? (i := 82) (by decide +kernel)
theorem k_83 : (Jvm.Cond.instantiable "VisitGrammar$Analysis" (8 : Nat)) ∈ WS := List.mem_of_getElem? (i := 83) (by decide +kernel)
theorem k_84 : (Jvm.Cond.initialized "VisitGrammar$Analysis") ∈ WS := List.mem_of_getElem? (i := 84) (by decide +kernel)
theorem k_85 : (Jvm.Cond.methodLink "VisitGrammar" (18 : Nat) y_A_init) ∈ WS := List.mem_of_getElem? (i := 85) (by decide +kernel)
theorem k_86 : (Jvm.Cond.instanceMethod y_A_init) ∈ WS := List.mem_of_getElem? (i := 86) (by decide +kernel)
theorem k_87 : (Jvm.Cond.fieldLink "VisitGrammar" (21 : Nat) "VisitGrammar" "analysis" "LVisitGrammar$Analysis;") ∈ WS := List.mem_of_getElem? (i := 87) (by decide +kernel)
theorem k_88 : (Jvm.Cond.classLink "VisitGrammar" (25 : Nat) "VisitGrammar$Tree") ∈ WS := List.mem_of_getElem? (i := 88) (by decide +kernel)
theorem k_89 : (Jvm.Cond.instantiable "VisitGrammar$Tree" (6 : Nat)) ∈ WS := List.mem_of_getElem? (i := 89) (by decide +kernel)
theorem k_90 : (Jvm.Cond.initialized "VisitGrammar$Tree") ∈ WS := List.mem_of_getElem? (i := 90) (by decide +kernel)
theorem k_91 : (Jvm.Cond.methodLink "VisitGrammar" (27 : Nat) y_Z_init) ∈ WS := List.mem_of_getElem? (i := 91) (by decide +kernel)
theorem k_92 : (Jvm.Cond.instanceMethod y_Z_init) ∈ WS := List.mem_of_getElem? (i := 92) (by decide +kernel)
theorem k_93 : (Jvm.Cond.fieldLink "VisitGrammar" (28 : Nat) "VisitGrammar" "tree" "LVisitGrammar$Tree;") ∈ WS := List.mem_of_getElem? (i := 93) (by decide +kernel)
theorem k_94 : (Jvm.Cond.classLink "VisitGrammar" (32 : Nat) "VisitGrammar$Walk") ∈ WS := List.mem_of_getElem? (i := 94) (by decide +kernel)
theorem k_95 : (Jvm.Cond.instantiable "VisitGrammar$Walk" (10 : Nat)) ∈ WS := List.mem_of_getElem? (i := 95) (by decide +kernel)
theorem k_96 : (Jvm.Cond.initialized "VisitGrammar$Walk") ∈ WS := List.mem_of_getElem? (i := 96) (by decide +kernel)
theorem k_97 : (Jvm.Cond.fieldLinkNest "VisitGrammar" (34 : Nat) "VisitGrammar$Analysis" "sequences" "LVisitGrammar$Sequences;" "VisitGrammar") ∈ WS := List.mem_of_getElem? (i := 97) (by decide +kernel)
theorem k_98 : (Jvm.Cond.methodLink "VisitGrammar" (38 : Nat) y_U_init) ∈ WS := List.mem_of_getElem? (i := 98) (by decide +kernel)
theorem k_99 : (Jvm.Cond.instanceMethod y_U_init) ∈ WS := List.mem_of_getElem? (i := 99) (by decide +kernel)
theorem k_100 : (Jvm.Cond.fieldLink "VisitGrammar" (41 : Nat) "VisitGrammar" "walk" "LVisitGrammar$Walk;") ∈ WS := List.mem_of_getElem? (i := 100) (by decide +kernel)
theorem k_101 : (Jvm.Cond.code y_U_end prog_8_method_3_code (1 : Nat) (Option.none : Option Jvm.ClassFile.FieldType)) ∈ WS := List.mem_of_getElem? (i := 101) (by decide +kernel)
theorem k_102 : (Jvm.Cond.fieldLink "VisitGrammar$Walk" (66 : Nat) "VisitGrammar$Walk" "state" "I") ∈ WS := List.mem_of_getElem? (i := 102) (by decide +kernel)
theorem k_103 : (Jvm.Cond.code y_V_dropAnalysis prog_1_method_19_code (1 : Nat) (Option.none : Option Jvm.ClassFile.FieldType)) ∈ WS := List.mem_of_getElem? (i := 103) (by decide +kernel)
theorem k_104 : (Jvm.Cond.fieldLinkNest "VisitGrammar" (125 : Nat) "VisitGrammar$Analysis" "present" "Z" "VisitGrammar") ∈ WS := List.mem_of_getElem? (i := 104) (by decide +kernel)
theorem k_105 : (Jvm.Cond.methodLink "VisitGrammar" (111 : Nat) y_U_end) ∈ WS := List.mem_of_getElem? (i := 105) (by decide +kernel)
theorem k_106 : (Jvm.Cond.instanceMethod y_U_end) ∈ WS := List.mem_of_getElem? (i := 106) (by decide +kernel)
theorem k_107 : (Jvm.Cond.selects "VisitGrammar$Walk" y_U_end y_U_end) ∈ WS := List.mem_of_getElem? (i := 107) (by decide +kernel)
theorem k_108 : (Jvm.Cond.code y_V_requireAnalysis prog_1_method_20_code (1 : Nat) (Option.none : Option Jvm.ClassFile.FieldType)) ∈ WS := List.mem_of_getElem? (i := 108) (by decide +kernel)
theorem k_109 : (Jvm.Cond.methodLink "VisitGrammar" (60 : Nat) ({ cls := "java/lang/IllegalStateException", name := "<init>", desc := "(Ljava/lang/String;)V" } : Jvm.MethodName)) ∈ WS := List.mem_of_getElem? (i := 109) (by decide +kernel)
theorem k_110 : (Jvm.Cond.classLink "VisitGrammar" (56 : Nat) "java/lang/IllegalStateException") ∈ WS := List.mem_of_getElem? (i := 110) (by decide +kernel)
theorem k_111 : (Jvm.Cond.initialized "java/lang/IllegalStateException") ∈ WS := List.mem_of_getElem? (i := 111) (by decide +kernel)
theorem k_112 : (Jvm.Cond.stringRef "VisitGrammar" (228 : Nat) "there is no analysis") ∈ WS := List.mem_of_getElem? (i := 112) (by decide +kernel)
theorem k_113 : (Jvm.Cond.code y_G_hasSymbol prog_3_method_2_code (2 : Nat) (Option.some Jvm.ClassFile.FieldType.boolean)) ∈ WS := List.mem_of_getElem? (i := 113) (by decide +kernel)
theorem k_114 : (Jvm.Cond.fieldLink "VisitGrammar$Grammar" (45 : Nat) "VisitGrammar$Grammar" "symbolCount" "I") ∈ WS := List.mem_of_getElem? (i := 114) (by decide +kernel)
theorem k_115 : (Jvm.Cond.code y_G_hasProduction prog_3_method_4_code (2 : Nat) (Option.some Jvm.ClassFile.FieldType.boolean)) ∈ WS := List.mem_of_getElem? (i := 115) (by decide +kernel)
theorem k_116 : (Jvm.Cond.fieldLink "VisitGrammar$Grammar" (49 : Nat) "VisitGrammar$Grammar" "productionCount" "I") ∈ WS := List.mem_of_getElem? (i := 116) (by decide +kernel)
theorem k_117 : (Jvm.Cond.code y_Z_hasNode prog_7_method_2_code (2 : Nat) (Option.some Jvm.ClassFile.FieldType.boolean)) ∈ WS := List.mem_of_getElem? (i := 117) (by decide +kernel)
theorem k_118 : (Jvm.Cond.fieldLink "VisitGrammar$Tree" (28 : Nat) "VisitGrammar$Tree" "nodeCount" "I") ∈ WS := List.mem_of_getElem? (i := 118) (by decide +kernel)
theorem k_119 : (Jvm.Cond.code y_Z_clear prog_7_method_9_code (1 : Nat) (Option.none : Option Jvm.ClassFile.FieldType)) ∈ WS := List.mem_of_getElem? (i := 119) (by decide +kernel)
theorem k_120 : (Jvm.Cond.code y_G_allAttributes prog_3_method_14_code (2 : Nat) (Option.some Jvm.ClassFile.FieldType.int)) ∈ WS := List.mem_of_getElem? (i := 120) (by decide +kernel)
theorem k_121 : (Jvm.Cond.code y_G_addSymbol prog_3_method_10_code (4 : Nat) (Option.some Jvm.ClassFile.FieldType.int)) ∈ WS := List.mem_of_getElem? (i := 121) (by decide +kernel)
theorem k_122 : (Jvm.Cond.methodLink "VisitGrammar$Grammar" (69 : Nat) y_G_allAttributes) ∈ WS := List.mem_of_getElem? (i := 122) (by decide +kernel)
theorem k_123 : (Jvm.Cond.instanceMethod y_G_allAttributes) ∈ WS := List.mem_of_getElem? (i := 123) (by decide +kernel)
theorem k_124 : (Jvm.Cond.selects "VisitGrammar$Grammar" y_G_allAttributes y_G_allAttributes) ∈ WS := List.mem_of_getElem? (i := 124) (by decide +kernel)
theorem k_125 : (Jvm.Cond.code y_A_forgetFault prog_2_method_3_code (1 : Nat) (Option.none : Option Jvm.ClassFile.FieldType)) ∈ WS := List.mem_of_getElem? (i := 125) (by decide +kernel)
theorem k_126 : (Jvm.Cond.fieldLink "VisitGrammar$Analysis" (74 : Nat) "VisitGrammar$Analysis" "faultKind" "I") ∈ WS := List.mem_of_getElem? (i := 126) (by decide +kernel)
theorem k_127 : (Jvm.Cond.code y_A_make prog_2_method_2_code (1 : Nat) (Option.none : Option Jvm.ClassFile.FieldType)) ∈ WS := List.mem_of_getElem? (i := 127) (by decide +kernel)
theorem k_128 : (Jvm.Cond.methodLink "VisitGrammar$Analysis" (49 : Nat) y_A_forgetFault) ∈ WS := List.mem_of_getElem? (i := 128) (by decide +kernel)
theorem k_129 : (Jvm.Cond.instanceMethod y_A_forgetFault) ∈ WS := List.mem_of_getElem? (i := 129) (by decide +kernel)
theorem k_130 : (Jvm.Cond.selects "VisitGrammar$Analysis" y_A_forgetFault y_A_forgetFault) ∈ WS := List.mem_of_getElem? (i := 130) (by decide +kernel)
theorem k_131 : (Jvm.Cond.fieldLinkNest "VisitGrammar$Analysis" (52 : Nat) "VisitGrammar$Grammar" "productionCount" "I" "VisitGrammar") ∈ WS := List.mem_of_getElem? (i := 131) (by decide +kernel)
theorem k_132 : (Jvm.Cond.fieldLink "VisitGrammar$Analysis" (67 : Nat) "VisitGrammar$Analysis" "present" "Z") ∈ WS := List.mem_of_getElem? (i := 132) (by decide +kernel)
theorem k_133 : (Jvm.Cond.code y_V_requireAttribute prog_1_method_21_code (3 : Nat) (Option.none : Option Jvm.ClassFile.FieldType)) ∈ WS := List.mem_of_getElem? (i := 133) (by decide +kernel)
theorem k_134 : (Jvm.Cond.methodLink "VisitGrammar" (193 : Nat) y_Z_hasNode) ∈ WS := List.mem_of_getElem? (i := 134) (by decide +kernel)
theorem k_135 : (Jvm.Cond.instanceMethod y_Z_hasNode) ∈ WS := List.mem_of_getElem? (i := 135) (by decide +kernel)
theorem k_136 : (Jvm.Cond.selects "VisitGrammar$Tree" y_Z_hasNode y_Z_hasNode) ∈ WS := List.mem_of_getElem? (i := 136) (by decide +kernel)
theorem k_137 : (Jvm.Cond.methodLink "VisitGrammar" (94 : Nat) ({ cls := "java/lang/IndexOutOfBoundsException", name := "<init>", desc := "(Ljava/lang/String;)V" } : Jvm.MethodName)) ∈ WS := List.mem_of_getElem? (i := 137) (by decide +kernel)
theorem k_138 : (Jvm.Cond.classLink "VisitGrammar" (90 : Nat) "java/lang/IndexOutOfBoundsException") ∈ WS := List.mem_of_getElem? (i := 138) (by decide +kernel)
theorem k_139 : (Jvm.Cond.initialized "java/lang/IndexOutOfBoundsException") ∈ WS := List.mem_of_getElem? (i := 139) (by decide +kernel)
theorem k_140 : (Jvm.Cond.stringRef "VisitGrammar" (233 : Nat) "no such node or attribute") ∈ WS := List.mem_of_getElem? (i := 140) (by decide +kernel)
theorem k_141 : (Jvm.Cond.code y_V_symbol prog_1_method_2_code (3 : Nat) (Option.some Jvm.ClassFile.FieldType.int)) ∈ WS := List.mem_of_getElem? (i := 141) (by decide +kernel)
theorem k_142 : (Jvm.Cond.fieldLinkNest "VisitGrammar" (52 : Nat) "VisitGrammar$Grammar" "symbolCount" "I" "VisitGrammar") ∈ WS := List.mem_of_getElem? (i := 142) (by decide +kernel)
theorem k_143 : (Jvm.Cond.initialized "VisitGrammar") ∈ WS := List.mem_of_getElem? (i := 143) (by decide +kernel)
theorem k_144 : (Jvm.Cond.methodLink "VisitGrammar" (61 : Nat) y_V_dropAnalysis) ∈ WS := List.mem_of_getElem? (i := 144) (by decide +kernel)
theorem k_145 : (Jvm.Cond.instanceMethod y_V_dropAnalysis) ∈ WS := List.mem_of_getElem? (i := 145) (by decide +kernel)
theorem k_146 : (Jvm.Cond.selects "VisitGrammar" y_V_dropAnalysis y_V_dropAnalysis) ∈ WS := List.mem_of_getElem? (i := 146) (by decide +kernel)
theorem k_147 : (Jvm.Cond.methodLink "VisitGrammar" (64 : Nat) y_G_addSymbol) ∈ WS := List.mem_of_getElem? (i := 147) (by decide +kernel)
theorem k_148 : (Jvm.Cond.instanceMethod y_G_addSymbol) ∈ WS := List.mem_of_getElem? (i := 148) (by decide +kernel)
theorem k_149 : (Jvm.Cond.selects "VisitGrammar$Grammar" y_G_addSymbol y_G_addSymbol) ∈ WS := List.mem_of_getElem? (i := 149) (by decide +kernel)
theorem k_150 : (Jvm.Cond.methodLink "VisitGrammar" (49 : Nat) ({ cls := "java/lang/IllegalArgumentException", name := "<init>", desc := "(Ljava/lang/String;)V" } : Jvm.MethodName)) ∈ WS := List.mem_of_getElem? (i := 150) (by decide +kernel)
theorem k_151 : (Jvm.Cond.classLink "VisitGrammar" (45 : Nat) "java/lang/IllegalArgumentException") ∈ WS := List.mem_of_getElem? (i := 151) (by decide +kernel)
theorem k_152 : (Jvm.Cond.initialized "java/lang/IllegalArgumentException") ∈ WS := List.mem_of_getElem? (i := 152) (by decide +kernel)
theorem k_153 : (Jvm.Cond.stringRef "VisitGrammar" (47 : Nat) "attributes are not 0 to 4") ∈ WS := List.mem_of_getElem? (i := 153) (by decide +kernel)
theorem k_154 : (Jvm.Cond.code y_V_production prog_1_method_3_code (5 : Nat) (Option.some Jvm.ClassFile.FieldType.int)) ∈ WS := List.mem_of_getElem? (i := 154) (by decide +kernel)
theorem k_155 : (Jvm.Cond.methodLink "VisitGrammar" (68 : Nat) y_G_hasSymbol) ∈ WS := List.mem_of_getElem? (i := 155) (by decide +kernel)
theorem k_156 : (Jvm.Cond.instanceMethod y_G_hasSymbol) ∈ WS := List.mem_of_getElem? (i := 156) (by decide +kernel)
theorem k_157 : (Jvm.Cond.selects "VisitGrammar$Grammar" y_G_hasSymbol y_G_hasSymbol) ∈ WS := List.mem_of_getElem? (i := 157) (by decide +kernel)
theorem k_158 : (Jvm.Cond.stringRef "VisitGrammar" (76 : Nat) "no such symbol, or something behind a -1") ∈ WS := List.mem_of_getElem? (i := 158) (by decide +kernel)
theorem k_159 : (Jvm.Cond.code y_V_rule prog_1_method_4_code (6 : Nat) (Option.none : Option Jvm.ClassFile.FieldType)) ∈ WS := List.mem_of_getElem? (i := 159) (by decide +kernel)
theorem k_160 : (Jvm.Cond.methodLink "VisitGrammar" (87 : Nat) y_G_hasProduction) ∈ WS := List.mem_of_getElem? (i := 160) (by decide +kernel)
theorem k_161 : (Jvm.Cond.instanceMethod y_G_hasProduction) ∈ WS := List.mem_of_getElem? (i := 161) (by decide +kernel)
theorem k_162 : (Jvm.Cond.selects "VisitGrammar$Grammar" y_G_hasProduction y_G_hasProduction) ∈ WS := List.mem_of_getElem? (i := 162) (by decide +kernel)
theorem k_163 : (Jvm.Cond.stringRef "VisitGrammar" (92 : Nat) "no such production") ∈ WS := List.mem_of_getElem? (i := 163) (by decide +kernel)
theorem k_164 : (Jvm.Cond.code y_V_analyse prog_1_method_5_code (1 : Nat) (Option.some Jvm.ClassFile.FieldType.int)) ∈ WS := List.mem_of_getElem? (i := 164) (by decide +kernel)
theorem k_165 : (Jvm.Cond.methodLink "VisitGrammar" (114 : Nat) y_A_make) ∈ WS := List.mem_of_getElem? (i := 165) (by decide +kernel)
theorem k_166 : (Jvm.Cond.instanceMethod y_A_make) ∈ WS := List.mem_of_getElem? (i := 166) (by decide +kernel)
theorem k_167 : (Jvm.Cond.selects "VisitGrammar$Analysis" y_A_make y_A_make) ∈ WS := List.mem_of_getElem? (i := 167) (by decide +kernel)
theorem k_168 : (Jvm.Cond.fieldLinkNest "VisitGrammar" (117 : Nat) "VisitGrammar$Analysis" "faultKind" "I" "VisitGrammar") ∈ WS := List.mem_of_getElem? (i := 168) (by decide +kernel)
theorem k_169 : (Jvm.Cond.stringRef "VisitGrammar" (129 : Nat) "incomplete, or no production") ∈ WS := List.mem_of_getElem? (i := 169) (by decide +kernel)
theorem k_170 : (Jvm.Cond.code y_V_visits prog_1_method_7_code (2 : Nat) (Option.some Jvm.ClassFile.FieldType.int)) ∈ WS := List.mem_of_getElem? (i := 170) (by decide +kernel)
theorem k_171 : (Jvm.Cond.methodLink "VisitGrammar" (143 : Nat) y_V_requireAnalysis) ∈ WS := List.mem_of_getElem? (i := 171) (by decide +kernel)
theorem k_172 : (Jvm.Cond.instanceMethod y_V_requireAnalysis) ∈ WS := List.mem_of_getElem? (i := 172) (by decide +kernel)
theorem k_173 : (Jvm.Cond.selects "VisitGrammar" y_V_requireAnalysis y_V_requireAnalysis) ∈ WS := List.mem_of_getElem? (i := 173) (by decide +kernel)
theorem k_174 : (Jvm.Cond.code y_V_rank prog_1_method_8_code (3 : Nat) (Option.some Jvm.ClassFile.FieldType.int)) ∈ WS := List.mem_of_getElem? (i := 174) (by decide +kernel)
theorem k_175 : (Jvm.Cond.code y_V_instruction prog_1_method_9_code (3 : Nat) (Option.some Jvm.ClassFile.FieldType.int)) ∈ WS := List.mem_of_getElem? (i := 175) (by decide +kernel)
theorem k_176 : (Jvm.Cond.code y_V_node prog_1_method_10_code (6 : Nat) (Option.some Jvm.ClassFile.FieldType.int)) ∈ WS := List.mem_of_getElem? (i := 176) (by decide +kernel)
theorem k_177 : (Jvm.Cond.stringRef "VisitGrammar" (174 : Nat) "no such production, or a child that will not do") ∈ WS := List.mem_of_getElem? (i := 177) (by decide +kernel)
theorem k_178 : (Jvm.Cond.code y_V_fell prog_1_method_11_code (1 : Nat) (Option.none : Option Jvm.ClassFile.FieldType)) ∈ WS := List.mem_of_getElem? (i := 178) (by decide +kernel)
theorem k_179 : (Jvm.Cond.methodLink "VisitGrammar" (185 : Nat) y_Z_clear) ∈ WS := List.mem_of_getElem? (i := 179) (by decide +kernel)
theorem k_180 : (Jvm.Cond.instanceMethod y_Z_clear) ∈ WS := List.mem_of_getElem? (i := 180) (by decide +kernel)
theorem k_181 : (Jvm.Cond.selects "VisitGrammar$Tree" y_Z_clear y_Z_clear) ∈ WS := List.mem_of_getElem? (i := 181) (by decide +kernel)
theorem k_182 : (Jvm.Cond.code y_V_give prog_1_method_12_code (3 : Nat) (Option.none : Option Jvm.ClassFile.FieldType)) ∈ WS := List.mem_of_getElem? (i := 182) (by decide +kernel)
theorem k_183 : (Jvm.Cond.stringRef "VisitGrammar" (188 : Nat) "not an attribute 0 to 3") ∈ WS := List.mem_of_getElem? (i := 183) (by decide +kernel)
theorem k_184 : (Jvm.Cond.fieldLinkNest "VisitGrammar" (190 : Nat) "VisitGrammar$Walk" "given" "[I" "VisitGrammar") ∈ WS := List.mem_of_getElem? (i := 184) (by decide +kernel)
theorem k_185 : (Jvm.Cond.code y_V_start prog_1_method_13_code (2 : Nat) (Option.none : Option Jvm.ClassFile.FieldType)) ∈ WS := List.mem_of_getElem? (i := 185) (by decide +kernel)
theorem k_186 : (Jvm.Cond.code y_V_run prog_1_method_14_code (2 : Nat) (Option.some Jvm.ClassFile.FieldType.int)) ∈ WS := List.mem_of_getElem? (i := 186) (by decide +kernel)
theorem k_187 : (Jvm.Cond.stringRef "VisitGrammar" (202 : Nat) "steps are not 0 to 500") ∈ WS := List.mem_of_getElem? (i := 187) (by decide +kernel)
theorem k_188 : (Jvm.Cond.fieldLinkNest "VisitGrammar" (204 : Nat) "VisitGrammar$Walk" "state" "I" "VisitGrammar") ∈ WS := List.mem_of_getElem? (i := 188) (by decide +kernel)
theorem k_189 : (Jvm.Cond.stringRef "VisitGrammar" (207 : Nat) "there is no run") ∈ WS := List.mem_of_getElem? (i := 189) (by decide +kernel)
theorem k_190 : (Jvm.Cond.code y_V_status prog_1_method_15_code (1 : Nat) (Option.some Jvm.ClassFile.FieldType.int)) ∈ WS := List.mem_of_getElem? (i := 190) (by decide +kernel)
theorem k_191 : (Jvm.Cond.code y_V_atHand prog_1_method_16_code (1 : Nat) (Option.some Jvm.ClassFile.FieldType.int)) ∈ WS := List.mem_of_getElem? (i := 191) (by decide +kernel)
theorem k_192 : (Jvm.Cond.code y_V_knows prog_1_method_17_code (3 : Nat) (Option.some Jvm.ClassFile.FieldType.boolean)) ∈ WS := List.mem_of_getElem? (i := 192) (by decide +kernel)
theorem k_193 : (Jvm.Cond.methodLink "VisitGrammar" (216 : Nat) y_V_requireAttribute) ∈ WS := List.mem_of_getElem? (i := 193) (by decide +kernel)
theorem k_194 : (Jvm.Cond.instanceMethod y_V_requireAttribute) ∈ WS := List.mem_of_getElem? (i := 194) (by decide +kernel)
theorem k_195 : (Jvm.Cond.selects "VisitGrammar" y_V_requireAttribute y_V_requireAttribute) ∈ WS := List.mem_of_getElem? (i := 195) (by decide +kernel)
theorem k_196 : (Jvm.Cond.code y_V_value prog_1_method_18_code (3 : Nat) (Option.some Jvm.ClassFile.FieldType.int)) ∈ WS := List.mem_of_getElem? (i := 196) (by decide +kernel)
theorem k_197 : (Jvm.Cond.code y_V_fault prog_1_method_6_code (2 : Nat) (Option.some Jvm.ClassFile.FieldType.int)) ∈ WS := List.mem_of_getElem? (i := 197) (by decide +kernel)
theorem k_198 : (Jvm.Cond.fieldLinkNest "VisitGrammar" (137 : Nat) "VisitGrammar$Analysis" "faultProduction" "I" "VisitGrammar") ∈ WS := List.mem_of_getElem? (i := 198) (by decide +kernel)
theorem k_199 : (Jvm.Cond.fieldLinkNest "VisitGrammar" (140 : Nat) "VisitGrammar$Analysis" "faultOccurrence" "I" "VisitGrammar") ∈ WS := List.mem_of_getElem? (i := 199) (by decide +kernel)
theorem k_200 : (Jvm.Cond.code y_M_init prog_10_method_1_code (2 : Nat) (Option.none : Option Jvm.ClassFile.FieldType)) ∈ WS := List.mem_of_getElem? (i := 200) (by decide +kernel)
theorem k_201 : (Jvm.Cond.methodLink "VisitGrammarModel" (1 : Nat) ({ cls := "java/lang/Object", name := "<init>", desc := "()V" } : Jvm.MethodName)) ∈ WS := List.mem_of_getElem? (i := 201) (by decide +kernel)
theorem k_202 : (Jvm.Cond.fieldLink "VisitGrammarModel" (7 : Nat) "VisitGrammarModel" "attributes" "[I") ∈ WS := List.mem_of_getElem? (i := 202) (by decide +kernel)
theorem k_203 : (Jvm.Cond.arrayClass Jvm.ClassFile.FieldType.boolean) ∈ WS := List.mem_of_getElem? (i := 203) (by decide +kernel)
theorem k_204 : (Jvm.Cond.fieldLink "VisitGrammarModel" (13 : Nat) "VisitGrammarModel" "inherits" "[Z") ∈ WS := List.mem_of_getElem? (i := 204) (by decide +kernel)
theorem k_205 : (Jvm.Cond.fieldLink "VisitGrammarModel" (17 : Nat) "VisitGrammarModel" "positions" "[I") ∈ WS := List.mem_of_getElem? (i := 205) (by decide +kernel)
theorem k_206 : (Jvm.Cond.fieldLink "VisitGrammarModel" (20 : Nat) "VisitGrammarModel" "symbolAt" "[I") ∈ WS := List.mem_of_getElem? (i := 206) (by decide +kernel)
theorem k_207 : (Jvm.Cond.fieldLink "VisitGrammarModel" (23 : Nat) "VisitGrammarModel" "form" "[I") ∈ WS := List.mem_of_getElem? (i := 207) (by decide +kernel)
theorem k_208 : (Jvm.Cond.fieldLink "VisitGrammarModel" (26 : Nat) "VisitGrammarModel" "ruleX" "[I") ∈ WS := List.mem_of_getElem? (i := 208) (by decide +kernel)
theorem k_209 : (Jvm.Cond.fieldLink "VisitGrammarModel" (29 : Nat) "VisitGrammarModel" "ruleY" "[I") ∈ WS := List.mem_of_getElem? (i := 209) (by decide +kernel)
theorem k_210 : (Jvm.Cond.fieldLink "VisitGrammarModel" (32 : Nat) "VisitGrammarModel" "faultProduction" "I") ∈ WS := List.mem_of_getElem? (i := 210) (by decide +kernel)
theorem k_211 : (Jvm.Cond.fieldLink "VisitGrammarModel" (36 : Nat) "VisitGrammarModel" "faultOccurrence" "I") ∈ WS := List.mem_of_getElem? (i := 211) (by decide +kernel)
theorem k_212 : (Jvm.Cond.fieldLink "VisitGrammarModel" (39 : Nat) "VisitGrammarModel" "uses" "[Z") ∈ WS := List.mem_of_getElem? (i := 212) (by decide +kernel)
theorem k_213 : (Jvm.Cond.fieldLink "VisitGrammarModel" (42 : Nat) "VisitGrammarModel" "leads" "[Z") ∈ WS := List.mem_of_getElem? (i := 213) (by decide +kernel)
theorem k_214 : (Jvm.Cond.fieldLink "VisitGrammarModel" (45 : Nat) "VisitGrammarModel" "symbolLeads" "[Z") ∈ WS := List.mem_of_getElem? (i := 214) (by decide +kernel)
theorem k_215 : (Jvm.Cond.fieldLink "VisitGrammarModel" (48 : Nat) "VisitGrammarModel" "order" "[Z") ∈ WS := List.mem_of_getElem? (i := 215) (by decide +kernel)
theorem k_216 : (Jvm.Cond.fieldLink "VisitGrammarModel" (51 : Nat) "VisitGrammarModel" "rank" "[I") ∈ WS := List.mem_of_getElem? (i := 216) (by decide +kernel)
theorem k_217 : (Jvm.Cond.fieldLink "VisitGrammarModel" (54 : Nat) "VisitGrammarModel" "visits" "[I") ∈ WS := List.mem_of_getElem? (i := 217) (by decide +kernel)
theorem k_218 : (Jvm.Cond.fieldLink "VisitGrammarModel" (57 : Nat) "VisitGrammarModel" "length" "[I") ∈ WS := List.mem_of_getElem? (i := 218) (by decide +kernel)
theorem k_219 : (Jvm.Cond.fieldLink "VisitGrammarModel" (60 : Nat) "VisitGrammarModel" "sequence" "[I") ∈ WS := List.mem_of_getElem? (i := 219) (by decide +kernel)
theorem k_220 : (Jvm.Cond.fieldLink "VisitGrammarModel" (63 : Nat) "VisitGrammarModel" "set" "[Z") ∈ WS := List.mem_of_getElem? (i := 220) (by decide +kernel)
theorem k_221 : (Jvm.Cond.fieldLink "VisitGrammarModel" (66 : Nat) "VisitGrammarModel" "visited" "[I") ∈ WS := List.mem_of_getElem? (i := 221) (by decide +kernel)
theorem k_222 : (Jvm.Cond.fieldLink "VisitGrammarModel" (69 : Nat) "VisitGrammarModel" "production" "[I") ∈ WS := List.mem_of_getElem? (i := 222) (by decide +kernel)
theorem k_223 : (Jvm.Cond.fieldLink "VisitGrammarModel" (72 : Nat) "VisitGrammarModel" "token" "[I") ∈ WS := List.mem_of_getElem? (i := 223) (by decide +kernel)
theorem k_224 : (Jvm.Cond.fieldLink "VisitGrammarModel" (75 : Nat) "VisitGrammarModel" "child" "[I") ∈ WS := List.mem_of_getElem? (i := 224) (by decide +kernel)
theorem k_225 : (Jvm.Cond.fieldLink "VisitGrammarModel" (78 : Nat) "VisitGrammarModel" "parent" "[I") ∈ WS := List.mem_of_getElem? (i := 225) (by decide +kernel)
theorem k_226 : (Jvm.Cond.fieldLink "VisitGrammarModel" (81 : Nat) "VisitGrammarModel" "next" "[I") ∈ WS := List.mem_of_getElem? (i := 226) (by decide +kernel)
theorem k_227 : (Jvm.Cond.fieldLink "VisitGrammarModel" (84 : Nat) "VisitGrammarModel" "known" "[Z") ∈ WS := List.mem_of_getElem? (i := 227) (by decide +kernel)
theorem k_228 : (Jvm.Cond.fieldLink "VisitGrammarModel" (87 : Nat) "VisitGrammarModel" "value" "[I") ∈ WS := List.mem_of_getElem? (i := 228) (by decide +kernel)
theorem k_229 : (Jvm.Cond.fieldLink "VisitGrammarModel" (90 : Nat) "VisitGrammarModel" "given" "[I") ∈ WS := List.mem_of_getElem? (i := 229) (by decide +kernel)
theorem k_230 : (Jvm.Cond.fieldLink "VisitGrammarModel" (93 : Nat) "VisitGrammarModel" "root" "I") ∈ WS := List.mem_of_getElem? (i := 230) (by decide +kernel)
theorem k_231 : (Jvm.Cond.fieldLink "VisitGrammarModel" (96 : Nat) "VisitGrammarModel" "hand" "I") ∈ WS := List.mem_of_getElem? (i := 231) (by decide +kernel)
theorem k_232 : (Jvm.Cond.code y_M_endRun prog_10_method_4_code (2 : Nat) (Option.none : Option Jvm.ClassFile.FieldType)) ∈ WS := List.mem_of_getElem? (i := 232) (by decide +kernel)
theorem k_233 : (Jvm.Cond.code y_M_forget prog_10_method_5_code (1 : Nat) (Option.none : Option Jvm.ClassFile.FieldType)) ∈ WS := List.mem_of_getElem? (i := 233) (by decide +kernel)
theorem k_234 : (Jvm.Cond.fieldLink "VisitGrammarModel" (102 : Nat) "VisitGrammarModel" "analysed" "Z") ∈ WS := List.mem_of_getElem? (i := 234) (by decide +kernel)
theorem k_235 : (Jvm.Cond.initialized "VisitGrammarModel") ∈ WS := List.mem_of_getElem? (i := 235) (by decide +kernel)
theorem k_236 : (Jvm.Cond.methodLink "VisitGrammarModel" (106 : Nat) y_M_endRun) ∈ WS := List.mem_of_getElem? (i := 236) (by decide +kernel)
theorem k_237 : (Jvm.Cond.instanceMethod y_M_endRun) ∈ WS := List.mem_of_getElem? (i := 237) (by decide +kernel)
theorem k_238 : (Jvm.Cond.selects "VisitGrammarModel" y_M_endRun y_M_endRun) ∈ WS := List.mem_of_getElem? (i := 238) (by decide +kernel)
theorem k_239 : (Jvm.Cond.code y_M_thrown prog_10_method_2_code (1 : Nat) (Option.some Jvm.ClassFile.FieldType.int)) ∈ WS := List.mem_of_getElem? (i := 239) (by decide +kernel)
theorem k_240 : (Jvm.Cond.fieldLink "VisitGrammarModel" (99 : Nat) "VisitGrammarModel" "code" "I") ∈ WS := List.mem_of_getElem? (i := 240) (by decide +kernel)
theorem k_241 : (Jvm.Cond.code y_M_fail prog_10_method_3_code (2 : Nat) (Option.some Jvm.ClassFile.FieldType.int)) ∈ WS := List.mem_of_getElem? (i := 241) (by decide +kernel)
theorem k_242 : (Jvm.Cond.code y_M_blame prog_10_method_16_code (4 : Nat) (Option.some Jvm.ClassFile.FieldType.boolean)) ∈ WS := List.mem_of_getElem? (i := 242) (by decide +kernel)
theorem k_243 : (Jvm.Cond.fieldLink "VisitGrammarModel" (141 : Nat) "VisitGrammarModel" "faultKind" "I") ∈ WS := List.mem_of_getElem? (i := 243) (by decide +kernel)
theorem k_244 : (Jvm.Cond.code y_M_isSymbol prog_10_method_7_code (2 : Nat) (Option.some Jvm.ClassFile.FieldType.boolean)) ∈ WS := List.mem_of_getElem? (i := 244) (by decide +kernel)
theorem k_245 : (Jvm.Cond.fieldLink "VisitGrammarModel" (109 : Nat) "VisitGrammarModel" "symbols" "I") ∈ WS := List.mem_of_getElem? (i := 245) (by decide +kernel)
theorem k_246 : (Jvm.Cond.code y_M_isNode prog_10_method_39_code (2 : Nat) (Option.some Jvm.ClassFile.FieldType.boolean)) ∈ WS := List.mem_of_getElem? (i := 246) (by decide +kernel)
theorem k_247 : (Jvm.Cond.fieldLink "VisitGrammarModel" (194 : Nat) "VisitGrammarModel" "nodes" "I") ∈ WS := List.mem_of_getElem? (i := 247) (by decide +kernel)
theorem k_248 : (Jvm.Cond.code y_M_isAttribute prog_10_method_47_code (3 : Nat) (Option.some Jvm.ClassFile.FieldType.boolean)) ∈ WS := List.mem_of_getElem? (i := 248) (by decide +kernel)
theorem k_249 : (Jvm.Cond.methodLink "VisitGrammarModel" (200 : Nat) y_M_isNode) ∈ WS := List.mem_of_getElem? (i := 249) (by decide +kernel)
theorem k_250 : (Jvm.Cond.instanceMethod y_M_isNode) ∈ WS := List.mem_of_getElem? (i := 250) (by decide +kernel)
theorem k_251 : (Jvm.Cond.selects "VisitGrammarModel" y_M_isNode y_M_isNode) ∈ WS := List.mem_of_getElem? (i := 251) (by decide +kernel)
theorem k_252 : (Jvm.Cond.code y_M_lacks prog_10_method_15_code (3 : Nat) (Option.some Jvm.ClassFile.FieldType.boolean)) ∈ WS := List.mem_of_getElem? (i := 252) (by decide +kernel)
theorem k_253 : (Jvm.Cond.fieldLink "VisitGrammarModel" (119 : Nat) "VisitGrammarModel" "productions" "I") ∈ WS := List.mem_of_getElem? (i := 253) (by decide +kernel)
theorem k_254 : (Jvm.Cond.code y_M_symbol prog_10_method_6_code (4 : Nat) (Option.some Jvm.ClassFile.FieldType.int)) ∈ WS := List.mem_of_getElem? (i := 254) (by decide +kernel)
theorem k_255 : (Jvm.Cond.methodLink "VisitGrammarModel" (112 : Nat) y_M_forget) ∈ WS := List.mem_of_getElem? (i := 255) (by decide +kernel)
theorem k_256 : (Jvm.Cond.instanceMethod y_M_forget) ∈ WS := List.mem_of_getElem? (i := 256) (by decide +kernel)
theorem k_257 : (Jvm.Cond.selects "VisitGrammarModel" y_M_forget y_M_forget) ∈ WS := List.mem_of_getElem? (i := 257) (by decide +kernel)
theorem k_258 : (Jvm.Cond.code y_M_production prog_10_method_8_code (9 : Nat) (Option.some Jvm.ClassFile.FieldType.int)) ∈ WS := List.mem_of_getElem? (i := 258) (by decide +kernel)
theorem k_259 : (Jvm.Cond.methodLink "VisitGrammarModel" (115 : Nat) y_M_isSymbol) ∈ WS := List.mem_of_getElem? (i := 259) (by decide +kernel)
theorem k_260 : (Jvm.Cond.instanceMethod y_M_isSymbol) ∈ WS := List.mem_of_getElem? (i := 260) (by decide +kernel)
theorem k_261 : (Jvm.Cond.selects "VisitGrammarModel" y_M_isSymbol y_M_isSymbol) ∈ WS := List.mem_of_getElem? (i := 261) (by decide +kernel)
theorem k_262 : (Jvm.Cond.code y_M_rule prog_10_method_13_code (7 : Nat) (Option.none : Option Jvm.ClassFile.FieldType)) ∈ WS := List.mem_of_getElem? (i := 262) (by decide +kernel)
theorem k_263 : (Jvm.Cond.code y_M_analyse prog_10_method_30_code (3 : Nat) (Option.some Jvm.ClassFile.FieldType.int)) ∈ WS := List.mem_of_getElem? (i := 263) (by decide +kernel)
theorem k_264 : (Jvm.Cond.methodLink "VisitGrammarModel" (137 : Nat) y_M_blame) ∈ WS := List.mem_of_getElem? (i := 264) (by decide +kernel)
theorem k_265 : (Jvm.Cond.instanceMethod y_M_blame) ∈ WS := List.mem_of_getElem? (i := 265) (by decide +kernel)
theorem k_266 : (Jvm.Cond.selects "VisitGrammarModel" y_M_blame y_M_blame) ∈ WS := List.mem_of_getElem? (i := 266) (by decide +kernel)
theorem k_267 : (Jvm.Cond.methodLink "VisitGrammarModel" (171 : Nat) y_M_lacks) ∈ WS := List.mem_of_getElem? (i := 267) (by decide +kernel)
theorem k_268 : (Jvm.Cond.instanceMethod y_M_lacks) ∈ WS := List.mem_of_getElem? (i := 268) (by decide +kernel)
theorem k_269 : (Jvm.Cond.selects "VisitGrammarModel" y_M_lacks y_M_lacks) ∈ WS := List.mem_of_getElem? (i := 269) (by decide +kernel)
theorem k_270 : (Jvm.Cond.methodLink "VisitGrammarModel" (175 : Nat) y_M_fail) ∈ WS := List.mem_of_getElem? (i := 270) (by decide +kernel)
theorem k_271 : (Jvm.Cond.instanceMethod y_M_fail) ∈ WS := List.mem_of_getElem? (i := 271) (by decide +kernel)
theorem k_272 : (Jvm.Cond.selects "VisitGrammarModel" y_M_fail y_M_fail) ∈ WS := List.mem_of_getElem? (i := 272) (by decide +kernel)
theorem k_273 : (Jvm.Cond.code y_M_fault prog_10_method_31_code (2 : Nat) (Option.some Jvm.ClassFile.FieldType.int)) ∈ WS := List.mem_of_getElem? (i := 273) (by decide +kernel)
theorem k_274 : (Jvm.Cond.code y_M_visits prog_10_method_32_code (2 : Nat) (Option.some Jvm.ClassFile.FieldType.int)) ∈ WS := List.mem_of_getElem? (i := 274) (by decide +kernel)
theorem k_275 : (Jvm.Cond.code y_M_rank prog_10_method_33_code (3 : Nat) (Option.some Jvm.ClassFile.FieldType.int)) ∈ WS := List.mem_of_getElem? (i := 275) (by decide +kernel)
theorem k_276 : (Jvm.Cond.code y_M_instruction prog_10_method_34_code (3 : Nat) (Option.some Jvm.ClassFile.FieldType.int)) ∈ WS := List.mem_of_getElem? (i := 276) (by decide +kernel)
theorem k_277 : (Jvm.Cond.code y_M_node prog_10_method_36_code (9 : Nat) (Option.some Jvm.ClassFile.FieldType.int)) ∈ WS := List.mem_of_getElem? (i := 277) (by decide +kernel)
theorem k_278 : (Jvm.Cond.code y_M_fell prog_10_method_37_code (1 : Nat) (Option.none : Option Jvm.ClassFile.FieldType)) ∈ WS := List.mem_of_getElem? (i := 278) (by decide +kernel)
theorem k_279 : (Jvm.Cond.code y_M_give prog_10_method_38_code (3 : Nat) (Option.none : Option Jvm.ClassFile.FieldType)) ∈ WS := List.mem_of_getElem? (i := 279) (by decide +kernel)
theorem k_280 : (Jvm.Cond.code y_M_start prog_10_method_40_code (4 : Nat) (Option.none : Option Jvm.ClassFile.FieldType)) ∈ WS := List.mem_of_getElem? (i := 280) (by decide +kernel)
theorem k_281 : (Jvm.Cond.code y_M_run prog_10_method_44_code (3 : Nat) (Option.some Jvm.ClassFile.FieldType.int)) ∈ WS := List.mem_of_getElem? (i := 281) (by decide +kernel)
theorem k_282 : (Jvm.Cond.code y_M_status prog_10_method_45_code (1 : Nat) (Option.some Jvm.ClassFile.FieldType.int)) ∈ WS := List.mem_of_getElem? (i := 282) (by decide +kernel)
theorem k_283 : (Jvm.Cond.code y_M_atHand prog_10_method_46_code (1 : Nat) (Option.some Jvm.ClassFile.FieldType.int)) ∈ WS := List.mem_of_getElem? (i := 283) (by decide +kernel)
theorem k_284 : (Jvm.Cond.code y_M_knows prog_10_method_48_code (3 : Nat) (Option.some Jvm.ClassFile.FieldType.boolean)) ∈ WS := List.mem_of_getElem? (i := 284) (by decide +kernel)
theorem k_285 : (Jvm.Cond.methodLink "VisitGrammarModel" (212 : Nat) y_M_isAttribute) ∈ WS := List.mem_of_getElem? (i := 285) (by decide +kernel)
theorem k_286 : (Jvm.Cond.instanceMethod y_M_isAttribute) ∈ WS := List.mem_of_getElem? (i := 286) (by decide +kernel)
theorem k_287 : (Jvm.Cond.selects "VisitGrammarModel" y_M_isAttribute y_M_isAttribute) ∈ WS := List.mem_of_getElem? (i := 287) (by decide +kernel)
theorem k_288 : (Jvm.Cond.code y_M_value prog_10_method_49_code (3 : Nat) (Option.some Jvm.ClassFile.FieldType.int)) ∈ WS := List.mem_of_getElem? (i := 288) (by decide +kernel)
theorem k_289 : (Jvm.Cond.codeWith y_L_symbol method_3_code (5 : Nat) (Option.some Jvm.ClassFile.FieldType.int) [((0 : Nat), (10 : Nat), (13 : Nat), (13 : Nat)), ((0 : Nat), (10 : Nat), (17 : Nat), (15 : Nat))]) ∈ WS := List.mem_of_getElem? (i := 289) (by decide +kernel)
theorem k_290 : (Jvm.Cond.methodLink "VisitGrammarLaw" (7 : Nat) y_V_symbol) ∈ WS := List.mem_of_getElem? (i := 290) (by decide +kernel)
theorem k_291 : (Jvm.Cond.instanceMethod y_V_symbol) ∈ WS := List.mem_of_getElem? (i := 291) (by decide +kernel)
theorem k_292 : (Jvm.Cond.selects "VisitGrammar" y_V_symbol y_V_symbol) ∈ WS := List.mem_of_getElem? (i := 292) (by decide +kernel)
theorem k_293 : (Jvm.Cond.classLink "VisitGrammarLaw" (13 : Nat) "java/lang/IllegalArgumentException") ∈ WS := List.mem_of_getElem? (i := 293) (by decide +kernel)
theorem k_294 : (Jvm.Cond.castable "java/lang/IllegalArgumentException" "java/lang/IllegalArgumentException") ∈ WS := List.mem_of_getElem? (i := 294) (by decide +kernel)
theorem k_295 : (Jvm.Cond.codeWith y_L_production method_4_code (7 : Nat) (Option.some Jvm.ClassFile.FieldType.int) [((0 : Nat), (14 : Nat), (17 : Nat), (13 : Nat)), ((0 : Nat), (14 : Nat), (21 : Nat), (15 : Nat))]) ∈ WS := List.mem_of_getElem? (i := 295) (by decide +kernel)
theorem k_296 : (Jvm.Cond.methodLink "VisitGrammarLaw" (17 : Nat) y_V_production) ∈ WS := List.mem_of_getElem? (i := 296) (by decide +kernel)
theorem k_297 : (Jvm.Cond.instanceMethod y_V_production) ∈ WS := List.mem_of_getElem? (i := 297) (by decide +kernel)
theorem k_298 : (Jvm.Cond.selects "VisitGrammar" y_V_production y_V_production) ∈ WS := List.mem_of_getElem? (i := 298) (by decide +kernel)
theorem k_299 : (Jvm.Cond.codeWith y_L_rule method_5_code (7 : Nat) (Option.some Jvm.ClassFile.FieldType.int) [((0 : Nat), (11 : Nat), (14 : Nat), (25 : Nat)), ((0 : Nat), (11 : Nat), (18 : Nat), (13 : Nat))]) ∈ WS := List.mem_of_getElem? (i := 299) (by decide +kernel)
theorem k_300 : (Jvm.Cond.methodLink "VisitGrammarLaw" (21 : Nat) y_V_rule) ∈ WS := List.mem_of_getElem? (i := 300) (by decide +kernel)
theorem k_301 : (Jvm.Cond.instanceMethod y_V_rule) ∈ WS := List.mem_of_getElem? (i := 301) (by decide +kernel)
theorem k_302 : (Jvm.Cond.selects "VisitGrammar" y_V_rule y_V_rule) ∈ WS := List.mem_of_getElem? (i := 302) (by decide +kernel)
theorem k_303 : (Jvm.Cond.classLink "VisitGrammarLaw" (25 : Nat) "java/lang/IndexOutOfBoundsException") ∈ WS := List.mem_of_getElem? (i := 303) (by decide +kernel)
theorem k_304 : (Jvm.Cond.castable "java/lang/IndexOutOfBoundsException" "java/lang/IndexOutOfBoundsException") ∈ WS := List.mem_of_getElem? (i := 304) (by decide +kernel)
theorem k_305 : (Jvm.Cond.codeWith y_L_analyse method_6_code (3 : Nat) (Option.some Jvm.ClassFile.FieldType.int) [((0 : Nat), (8 : Nat), (11 : Nat), (15 : Nat)), ((0 : Nat), (8 : Nat), (14 : Nat), (31 : Nat))]) ∈ WS := List.mem_of_getElem? (i := 305) (by decide +kernel)
theorem k_306 : (Jvm.Cond.methodLink "VisitGrammarLaw" (27 : Nat) y_V_analyse) ∈ WS := List.mem_of_getElem? (i := 306) (by decide +kernel)
theorem k_307 : (Jvm.Cond.instanceMethod y_V_analyse) ∈ WS := List.mem_of_getElem? (i := 307) (by decide +kernel)
theorem k_308 : (Jvm.Cond.selects "VisitGrammar" y_V_analyse y_V_analyse) ∈ WS := List.mem_of_getElem? (i := 308) (by decide +kernel)
theorem k_309 : (Jvm.Cond.classLink "VisitGrammarLaw" (15 : Nat) "java/lang/IllegalStateException") ∈ WS := List.mem_of_getElem? (i := 309) (by decide +kernel)
theorem k_310 : (Jvm.Cond.castable "java/lang/IllegalStateException" "java/lang/IllegalStateException") ∈ WS := List.mem_of_getElem? (i := 310) (by decide +kernel)
theorem k_311 : (Jvm.Cond.codeWith y_L_visits method_7_code (4 : Nat) (Option.some Jvm.ClassFile.FieldType.int) [((0 : Nat), (9 : Nat), (12 : Nat), (15 : Nat)), ((0 : Nat), (9 : Nat), (15 : Nat), (25 : Nat))]) ∈ WS := List.mem_of_getElem? (i := 311) (by decide +kernel)
theorem k_312 : (Jvm.Cond.methodLink "VisitGrammarLaw" (33 : Nat) y_V_visits) ∈ WS := List.mem_of_getElem? (i := 312) (by decide +kernel)
theorem k_313 : (Jvm.Cond.instanceMethod y_V_visits) ∈ WS := List.mem_of_getElem? (i := 313) (by decide +kernel)
theorem k_314 : (Jvm.Cond.selects "VisitGrammar" y_V_visits y_V_visits) ∈ WS := List.mem_of_getElem? (i := 314) (by decide +kernel)
theorem k_315 : (Jvm.Cond.codeWith y_L_rank method_8_code (5 : Nat) (Option.some Jvm.ClassFile.FieldType.int) [((0 : Nat), (10 : Nat), (13 : Nat), (15 : Nat)), ((0 : Nat), (10 : Nat), (17 : Nat), (25 : Nat))]) ∈ WS := List.mem_of_getElem? (i := 315) (by decide +kernel)
theorem k_316 : (Jvm.Cond.methodLink "VisitGrammarLaw" (37 : Nat) y_V_rank) ∈ WS := List.mem_of_getElem? (i := 316) (by decide +kernel)
theorem k_317 : (Jvm.Cond.instanceMethod y_V_rank) ∈ WS := List.mem_of_getElem? (i := 317) (by decide +kernel)
theorem k_318 : (Jvm.Cond.selects "VisitGrammar" y_V_rank y_V_rank) ∈ WS := List.mem_of_getElem? (i := 318) (by decide +kernel)
theorem k_319 : (Jvm.Cond.codeWith y_L_instruction method_9_code (5 : Nat) (Option.some Jvm.ClassFile.FieldType.int) [((0 : Nat), (10 : Nat), (13 : Nat), (15 : Nat)), ((0 : Nat), (10 : Nat), (17 : Nat), (25 : Nat))]) ∈ WS := List.mem_of_getElem? (i := 319) (by decide +kernel)
theorem k_320 : (Jvm.Cond.methodLink "VisitGrammarLaw" (40 : Nat) y_V_instruction) ∈ WS := List.mem_of_getElem? (i := 320) (by decide +kernel)
theorem k_321 : (Jvm.Cond.instanceMethod y_V_instruction) ∈ WS := List.mem_of_getElem? (i := 321) (by decide +kernel)
theorem k_322 : (Jvm.Cond.selects "VisitGrammar" y_V_instruction y_V_instruction) ∈ WS := List.mem_of_getElem? (i := 322) (by decide +kernel)
theorem k_323 : (Jvm.Cond.codeWith y_L_node method_10_code (8 : Nat) (Option.some Jvm.ClassFile.FieldType.int) [((0 : Nat), (16 : Nat), (19 : Nat), (13 : Nat)), ((0 : Nat), (16 : Nat), (23 : Nat), (15 : Nat))]) ∈ WS := List.mem_of_getElem? (i := 323) (by decide +kernel)
theorem k_324 : (Jvm.Cond.methodLink "VisitGrammarLaw" (43 : Nat) y_V_node) ∈ WS := List.mem_of_getElem? (i := 324) (by decide +kernel)
theorem k_325 : (Jvm.Cond.instanceMethod y_V_node) ∈ WS := List.mem_of_getElem? (i := 325) (by decide +kernel)
theorem k_326 : (Jvm.Cond.selects "VisitGrammar" y_V_node y_V_node) ∈ WS := List.mem_of_getElem? (i := 326) (by decide +kernel)
theorem k_327 : (Jvm.Cond.codeWith y_L_give method_11_code (4 : Nat) (Option.some Jvm.ClassFile.FieldType.int) [((0 : Nat), (6 : Nat), (9 : Nat), (25 : Nat))]) ∈ WS := List.mem_of_getElem? (i := 327) (by decide +kernel)
theorem k_328 : (Jvm.Cond.methodLink "VisitGrammarLaw" (47 : Nat) y_V_give) ∈ WS := List.mem_of_getElem? (i := 328) (by decide +kernel)
theorem k_329 : (Jvm.Cond.instanceMethod y_V_give) ∈ WS := List.mem_of_getElem? (i := 329) (by decide +kernel)
theorem k_330 : (Jvm.Cond.selects "VisitGrammar" y_V_give y_V_give) ∈ WS := List.mem_of_getElem? (i := 330) (by decide +kernel)
theorem k_331 : (Jvm.Cond.codeWith y_L_start method_12_code (3 : Nat) (Option.some Jvm.ClassFile.FieldType.int) [((0 : Nat), (5 : Nat), (8 : Nat), (15 : Nat)), ((0 : Nat), (5 : Nat), (11 : Nat), (25 : Nat))]) ∈ WS := List.mem_of_getElem? (i := 331) (by decide +kernel)
theorem k_332 : (Jvm.Cond.methodLink "VisitGrammarLaw" (51 : Nat) y_V_start) ∈ WS := List.mem_of_getElem? (i := 332) (by decide +kernel)
theorem k_333 : (Jvm.Cond.instanceMethod y_V_start) ∈ WS := List.mem_of_getElem? (i := 333) (by decide +kernel)
theorem k_334 : (Jvm.Cond.selects "VisitGrammar" y_V_start y_V_start) ∈ WS := List.mem_of_getElem? (i := 334) (by decide +kernel)
theorem k_335 : (Jvm.Cond.codeWith y_L_run method_13_code (4 : Nat) (Option.some Jvm.ClassFile.FieldType.int) [((0 : Nat), (9 : Nat), (12 : Nat), (13 : Nat)), ((0 : Nat), (9 : Nat), (15 : Nat), (15 : Nat))]) ∈ WS := List.mem_of_getElem? (i := 335) (by decide +kernel)
theorem k_336 : (Jvm.Cond.methodLink "VisitGrammarLaw" (55 : Nat) y_V_run) ∈ WS := List.mem_of_getElem? (i := 336) (by decide +kernel)
theorem k_337 : (Jvm.Cond.instanceMethod y_V_run) ∈ WS := List.mem_of_getElem? (i := 337) (by decide +kernel)
theorem k_338 : (Jvm.Cond.selects "VisitGrammar" y_V_run y_V_run) ∈ WS := List.mem_of_getElem? (i := 338) (by decide +kernel)
theorem k_339 : (Jvm.Cond.codeWith y_L_knows method_14_code (5 : Nat) (Option.some Jvm.ClassFile.FieldType.int) [((0 : Nat), (17 : Nat), (20 : Nat), (25 : Nat))]) ∈ WS := List.mem_of_getElem? (i := 339) (by decide +kernel)
theorem k_340 : (Jvm.Cond.methodLink "VisitGrammarLaw" (58 : Nat) y_V_knows) ∈ WS := List.mem_of_getElem? (i := 340) (by decide +kernel)
theorem k_341 : (Jvm.Cond.instanceMethod y_V_knows) ∈ WS := List.mem_of_getElem? (i := 341) (by decide +kernel)
theorem k_342 : (Jvm.Cond.selects "VisitGrammar" y_V_knows y_V_knows) ∈ WS := List.mem_of_getElem? (i := 342) (by decide +kernel)
theorem k_343 : (Jvm.Cond.codeWith y_L_value method_15_code (5 : Nat) (Option.some Jvm.ClassFile.FieldType.int) [((0 : Nat), (10 : Nat), (13 : Nat), (25 : Nat)), ((0 : Nat), (10 : Nat), (17 : Nat), (15 : Nat))]) ∈ WS := List.mem_of_getElem? (i := 343) (by decide +kernel)
theorem k_344 : (Jvm.Cond.methodLink "VisitGrammarLaw" (62 : Nat) y_V_value) ∈ WS := List.mem_of_getElem? (i := 344) (by decide +kernel)
theorem k_345 : (Jvm.Cond.instanceMethod y_V_value) ∈ WS := List.mem_of_getElem? (i := 345) (by decide +kernel)
theorem k_346 : (Jvm.Cond.selects "VisitGrammar" y_V_value y_V_value) ∈ WS := List.mem_of_getElem? (i := 346) (by decide +kernel)
theorem k_347 : (Jvm.Cond.initialized "VisitGrammarLaw") ∈ WS := List.mem_of_getElem? (i := 347) (by decide +kernel)
theorem k_348 : (Jvm.Cond.methodLink "VisitGrammarLaw" (69 : Nat) y_L_symbol) ∈ WS := List.mem_of_getElem? (i := 348) (by decide +kernel)
theorem k_349 : (Jvm.Cond.static y_L_symbol) ∈ WS := List.mem_of_getElem? (i := 349) (by decide +kernel)
theorem k_350 : (Jvm.Cond.methodLink "VisitGrammarLaw" (74 : Nat) y_M_symbol) ∈ WS := List.mem_of_getElem? (i := 350) (by decide +kernel)
theorem k_351 : (Jvm.Cond.instanceMethod y_M_symbol) ∈ WS := List.mem_of_getElem? (i := 351) (by decide +kernel)
theorem k_352 : (Jvm.Cond.selects "VisitGrammarModel" y_M_symbol y_M_symbol) ∈ WS := List.mem_of_getElem? (i := 352) (by decide +kernel)
theorem k_353 : (Jvm.Cond.methodLink "VisitGrammarLaw" (75 : Nat) y_M_thrown) ∈ WS := List.mem_of_getElem? (i := 353) (by decide +kernel)
theorem k_354 : (Jvm.Cond.instanceMethod y_M_thrown) ∈ WS := List.mem_of_getElem? (i := 354) (by decide +kernel)
theorem k_355 : (Jvm.Cond.selects "VisitGrammarModel" y_M_thrown y_M_thrown) ∈ WS := List.mem_of_getElem? (i := 355) (by decide +kernel)
theorem k_356 : (Jvm.Cond.methodLink "VisitGrammarLaw" (78 : Nat) y_L_production) ∈ WS := List.mem_of_getElem? (i := 356) (by decide +kernel)
theorem k_357 : (Jvm.Cond.static y_L_production) ∈ WS := List.mem_of_getElem? (i := 357) (by decide +kernel)
theorem k_358 : (Jvm.Cond.methodLink "VisitGrammarLaw" (81 : Nat) y_M_production) ∈ WS := List.mem_of_getElem? (i := 358) (by decide +kernel)
theorem k_359 : (Jvm.Cond.instanceMethod y_M_production) ∈ WS := List.mem_of_getElem? (i := 359) (by decide +kernel)
theorem k_360 : (Jvm.Cond.selects "VisitGrammarModel" y_M_production y_M_production) ∈ WS := List.mem_of_getElem? (i := 360) (by decide +kernel)
theorem k_361 : (Jvm.Cond.methodLink "VisitGrammarLaw" (82 : Nat) y_L_rule) ∈ WS := List.mem_of_getElem? (i := 361) (by decide +kernel)
theorem k_362 : (Jvm.Cond.static y_L_rule) ∈ WS := List.mem_of_getElem? (i := 362) (by decide +kernel)
theorem k_363 : (Jvm.Cond.methodLink "VisitGrammarLaw" (85 : Nat) y_M_rule) ∈ WS := List.mem_of_getElem? (i := 363) (by decide +kernel)
theorem k_364 : (Jvm.Cond.instanceMethod y_M_rule) ∈ WS := List.mem_of_getElem? (i := 364) (by decide +kernel)
theorem k_365 : (Jvm.Cond.selects "VisitGrammarModel" y_M_rule y_M_rule) ∈ WS := List.mem_of_getElem? (i := 365) (by decide +kernel)
theorem k_366 : (Jvm.Cond.methodLink "VisitGrammarLaw" (86 : Nat) y_L_analyse) ∈ WS := List.mem_of_getElem? (i := 366) (by decide +kernel)
theorem k_367 : (Jvm.Cond.static y_L_analyse) ∈ WS := List.mem_of_getElem? (i := 367) (by decide +kernel)
theorem k_368 : (Jvm.Cond.methodLink "VisitGrammarLaw" (89 : Nat) y_M_analyse) ∈ WS := List.mem_of_getElem? (i := 368) (by decide +kernel)
theorem k_369 : (Jvm.Cond.instanceMethod y_M_analyse) ∈ WS := List.mem_of_getElem? (i := 369) (by decide +kernel)
theorem k_370 : (Jvm.Cond.selects "VisitGrammarModel" y_M_analyse y_M_analyse) ∈ WS := List.mem_of_getElem? (i := 370) (by decide +kernel)
theorem k_371 : (Jvm.Cond.methodLink "VisitGrammarLaw" (94 : Nat) y_L_visits) ∈ WS := List.mem_of_getElem? (i := 371) (by decide +kernel)
theorem k_372 : (Jvm.Cond.static y_L_visits) ∈ WS := List.mem_of_getElem? (i := 372) (by decide +kernel)
theorem k_373 : (Jvm.Cond.methodLink "VisitGrammarLaw" (97 : Nat) y_M_visits) ∈ WS := List.mem_of_getElem? (i := 373) (by decide +kernel)
theorem k_374 : (Jvm.Cond.instanceMethod y_M_visits) ∈ WS := List.mem_of_getElem? (i := 374) (by decide +kernel)
theorem k_375 : (Jvm.Cond.selects "VisitGrammarModel" y_M_visits y_M_visits) ∈ WS := List.mem_of_getElem? (i := 375) (by decide +kernel)
theorem k_376 : (Jvm.Cond.methodLink "VisitGrammarLaw" (98 : Nat) y_L_rank) ∈ WS := List.mem_of_getElem? (i := 376) (by decide +kernel)
theorem k_377 : (Jvm.Cond.static y_L_rank) ∈ WS := List.mem_of_getElem? (i := 377) (by decide +kernel)
theorem k_378 : (Jvm.Cond.methodLink "VisitGrammarLaw" (100 : Nat) y_M_rank) ∈ WS := List.mem_of_getElem? (i := 378) (by decide +kernel)
theorem k_379 : (Jvm.Cond.instanceMethod y_M_rank) ∈ WS := List.mem_of_getElem? (i := 379) (by decide +kernel)
theorem k_380 : (Jvm.Cond.selects "VisitGrammarModel" y_M_rank y_M_rank) ∈ WS := List.mem_of_getElem? (i := 380) (by decide +kernel)
theorem k_381 : (Jvm.Cond.methodLink "VisitGrammarLaw" (101 : Nat) y_L_instruction) ∈ WS := List.mem_of_getElem? (i := 381) (by decide +kernel)
theorem k_382 : (Jvm.Cond.static y_L_instruction) ∈ WS := List.mem_of_getElem? (i := 382) (by decide +kernel)
theorem k_383 : (Jvm.Cond.methodLink "VisitGrammarLaw" (103 : Nat) y_M_instruction) ∈ WS := List.mem_of_getElem? (i := 383) (by decide +kernel)
theorem k_384 : (Jvm.Cond.instanceMethod y_M_instruction) ∈ WS := List.mem_of_getElem? (i := 384) (by decide +kernel)
theorem k_385 : (Jvm.Cond.selects "VisitGrammarModel" y_M_instruction y_M_instruction) ∈ WS := List.mem_of_getElem? (i := 385) (by decide +kernel)
theorem k_386 : (Jvm.Cond.methodLink "VisitGrammarLaw" (104 : Nat) y_L_node) ∈ WS := List.mem_of_getElem? (i := 386) (by decide +kernel)
theorem k_387 : (Jvm.Cond.static y_L_node) ∈ WS := List.mem_of_getElem? (i := 387) (by decide +kernel)
theorem k_388 : (Jvm.Cond.methodLink "VisitGrammarLaw" (107 : Nat) y_M_node) ∈ WS := List.mem_of_getElem? (i := 388) (by decide +kernel)
theorem k_389 : (Jvm.Cond.instanceMethod y_M_node) ∈ WS := List.mem_of_getElem? (i := 389) (by decide +kernel)
theorem k_390 : (Jvm.Cond.selects "VisitGrammarModel" y_M_node y_M_node) ∈ WS := List.mem_of_getElem? (i := 390) (by decide +kernel)
theorem k_391 : (Jvm.Cond.methodLink "VisitGrammarLaw" (108 : Nat) y_V_fell) ∈ WS := List.mem_of_getElem? (i := 391) (by decide +kernel)
theorem k_392 : (Jvm.Cond.instanceMethod y_V_fell) ∈ WS := List.mem_of_getElem? (i := 392) (by decide +kernel)
theorem k_393 : (Jvm.Cond.selects "VisitGrammar" y_V_fell y_V_fell) ∈ WS := List.mem_of_getElem? (i := 393) (by decide +kernel)
theorem k_394 : (Jvm.Cond.methodLink "VisitGrammarLaw" (111 : Nat) y_M_fell) ∈ WS := List.mem_of_getElem? (i := 394) (by decide +kernel)
theorem k_395 : (Jvm.Cond.instanceMethod y_M_fell) ∈ WS := List.mem_of_getElem? (i := 395) (by decide +kernel)
theorem k_396 : (Jvm.Cond.selects "VisitGrammarModel" y_M_fell y_M_fell) ∈ WS := List.mem_of_getElem? (i := 396) (by decide +kernel)
theorem k_397 : (Jvm.Cond.methodLink "VisitGrammarLaw" (112 : Nat) y_L_give) ∈ WS := List.mem_of_getElem? (i := 397) (by decide +kernel)
theorem k_398 : (Jvm.Cond.static y_L_give) ∈ WS := List.mem_of_getElem? (i := 398) (by decide +kernel)
theorem k_399 : (Jvm.Cond.methodLink "VisitGrammarLaw" (115 : Nat) y_M_give) ∈ WS := List.mem_of_getElem? (i := 399) (by decide +kernel)
theorem k_400 : (Jvm.Cond.instanceMethod y_M_give) ∈ WS := List.mem_of_getElem? (i := 400) (by decide +kernel)
theorem k_401 : (Jvm.Cond.selects "VisitGrammarModel" y_M_give y_M_give) ∈ WS := List.mem_of_getElem? (i := 401) (by decide +kernel)
theorem k_402 : (Jvm.Cond.methodLink "VisitGrammarLaw" (116 : Nat) y_L_start) ∈ WS := List.mem_of_getElem? (i := 402) (by decide +kernel)
theorem k_403 : (Jvm.Cond.static y_L_start) ∈ WS := List.mem_of_getElem? (i := 403) (by decide +kernel)
theorem k_404 : (Jvm.Cond.methodLink "VisitGrammarLaw" (119 : Nat) y_M_start) ∈ WS := List.mem_of_getElem? (i := 404) (by decide +kernel)
theorem k_405 : (Jvm.Cond.instanceMethod y_M_start) ∈ WS := List.mem_of_getElem? (i := 405) (by decide +kernel)
theorem k_406 : (Jvm.Cond.selects "VisitGrammarModel" y_M_start y_M_start) ∈ WS := List.mem_of_getElem? (i := 406) (by decide +kernel)
theorem k_407 : (Jvm.Cond.methodLink "VisitGrammarLaw" (120 : Nat) y_L_run) ∈ WS := List.mem_of_getElem? (i := 407) (by decide +kernel)
theorem k_408 : (Jvm.Cond.static y_L_run) ∈ WS := List.mem_of_getElem? (i := 408) (by decide +kernel)
theorem k_409 : (Jvm.Cond.methodLink "VisitGrammarLaw" (122 : Nat) y_M_run) ∈ WS := List.mem_of_getElem? (i := 409) (by decide +kernel)
theorem k_410 : (Jvm.Cond.instanceMethod y_M_run) ∈ WS := List.mem_of_getElem? (i := 410) (by decide +kernel)
theorem k_411 : (Jvm.Cond.selects "VisitGrammarModel" y_M_run y_M_run) ∈ WS := List.mem_of_getElem? (i := 411) (by decide +kernel)
theorem k_412 : (Jvm.Cond.methodLink "VisitGrammarLaw" (123 : Nat) y_V_status) ∈ WS := List.mem_of_getElem? (i := 412) (by decide +kernel)
theorem k_413 : (Jvm.Cond.instanceMethod y_V_status) ∈ WS := List.mem_of_getElem? (i := 413) (by decide +kernel)
theorem k_414 : (Jvm.Cond.selects "VisitGrammar" y_V_status y_V_status) ∈ WS := List.mem_of_getElem? (i := 414) (by decide +kernel)
theorem k_415 : (Jvm.Cond.methodLink "VisitGrammarLaw" (126 : Nat) y_M_status) ∈ WS := List.mem_of_getElem? (i := 415) (by decide +kernel)
theorem k_416 : (Jvm.Cond.instanceMethod y_M_status) ∈ WS := List.mem_of_getElem? (i := 416) (by decide +kernel)
theorem k_417 : (Jvm.Cond.selects "VisitGrammarModel" y_M_status y_M_status) ∈ WS := List.mem_of_getElem? (i := 417) (by decide +kernel)
theorem k_418 : (Jvm.Cond.methodLink "VisitGrammarLaw" (127 : Nat) y_V_atHand) ∈ WS := List.mem_of_getElem? (i := 418) (by decide +kernel)
theorem k_419 : (Jvm.Cond.instanceMethod y_V_atHand) ∈ WS := List.mem_of_getElem? (i := 419) (by decide +kernel)
theorem k_420 : (Jvm.Cond.selects "VisitGrammar" y_V_atHand y_V_atHand) ∈ WS := List.mem_of_getElem? (i := 420) (by decide +kernel)
theorem k_421 : (Jvm.Cond.methodLink "VisitGrammarLaw" (130 : Nat) y_M_atHand) ∈ WS := List.mem_of_getElem? (i := 421) (by decide +kernel)
theorem k_422 : (Jvm.Cond.instanceMethod y_M_atHand) ∈ WS := List.mem_of_getElem? (i := 422) (by decide +kernel)
theorem k_423 : (Jvm.Cond.selects "VisitGrammarModel" y_M_atHand y_M_atHand) ∈ WS := List.mem_of_getElem? (i := 423) (by decide +kernel)
theorem k_424 : (Jvm.Cond.methodLink "VisitGrammarLaw" (131 : Nat) y_L_knows) ∈ WS := List.mem_of_getElem? (i := 424) (by decide +kernel)
theorem k_425 : (Jvm.Cond.static y_L_knows) ∈ WS := List.mem_of_getElem? (i := 425) (by decide +kernel)
theorem k_426 : (Jvm.Cond.methodLink "VisitGrammarLaw" (133 : Nat) y_M_knows) ∈ WS := List.mem_of_getElem? (i := 426) (by decide +kernel)
theorem k_427 : (Jvm.Cond.instanceMethod y_M_knows) ∈ WS := List.mem_of_getElem? (i := 427) (by decide +kernel)
theorem k_428 : (Jvm.Cond.selects "VisitGrammarModel" y_M_knows y_M_knows) ∈ WS := List.mem_of_getElem? (i := 428) (by decide +kernel)
theorem k_429 : (Jvm.Cond.methodLink "VisitGrammarLaw" (134 : Nat) y_L_value) ∈ WS := List.mem_of_getElem? (i := 429) (by decide +kernel)
theorem k_430 : (Jvm.Cond.static y_L_value) ∈ WS := List.mem_of_getElem? (i := 430) (by decide +kernel)
theorem k_431 : (Jvm.Cond.methodLink "VisitGrammarLaw" (136 : Nat) y_M_value) ∈ WS := List.mem_of_getElem? (i := 431) (by decide +kernel)
theorem k_432 : (Jvm.Cond.instanceMethod y_M_value) ∈ WS := List.mem_of_getElem? (i := 432) (by decide +kernel)
theorem k_433 : (Jvm.Cond.selects "VisitGrammarModel" y_M_value y_M_value) ∈ WS := List.mem_of_getElem? (i := 433) (by decide +kernel)
theorem k_434 : (Jvm.Cond.methodLink "VisitGrammarLaw" (90 : Nat) y_V_fault) ∈ WS := List.mem_of_getElem? (i := 434) (by decide +kernel)
theorem k_435 : (Jvm.Cond.instanceMethod y_V_fault) ∈ WS := List.mem_of_getElem? (i := 435) (by decide +kernel)
theorem k_436 : (Jvm.Cond.selects "VisitGrammar" y_V_fault y_V_fault) ∈ WS := List.mem_of_getElem? (i := 436) (by decide +kernel)
theorem k_437 : (Jvm.Cond.methodLink "VisitGrammarLaw" (93 : Nat) y_M_fault) ∈ WS := List.mem_of_getElem? (i := 437) (by decide +kernel)
theorem k_438 : (Jvm.Cond.instanceMethod y_M_fault) ∈ WS := List.mem_of_getElem? (i := 438) (by decide +kernel)
theorem k_439 : (Jvm.Cond.selects "VisitGrammarModel" y_M_fault y_M_fault) ∈ WS := List.mem_of_getElem? (i := 439) (by decide +kernel)
theorem k_440 : (Jvm.Cond.classLink "VisitGrammarLaw" (8 : Nat) "VisitGrammar") ∈ WS := List.mem_of_getElem? (i := 440) (by decide +kernel)
theorem k_441 : (Jvm.Cond.instantiable "VisitGrammar" (4 : Nat)) ∈ WS := List.mem_of_getElem? (i := 441) (by decide +kernel)
theorem k_442 : (Jvm.Cond.methodLink "VisitGrammarLaw" (65 : Nat) y_V_init) ∈ WS := List.mem_of_getElem? (i := 442) (by decide +kernel)
theorem k_443 : (Jvm.Cond.instanceMethod y_V_init) ∈ WS := List.mem_of_getElem? (i := 443) (by decide +kernel)
theorem k_444 : (Jvm.Cond.classLink "VisitGrammarLaw" (66 : Nat) "VisitGrammarModel") ∈ WS := List.mem_of_getElem? (i := 444) (by decide +kernel)
theorem k_445 : (Jvm.Cond.instantiable "VisitGrammarModel" (35 : Nat)) ∈ WS := List.mem_of_getElem? (i := 445) (by decide +kernel)
theorem k_446 : (Jvm.Cond.methodLink "VisitGrammarLaw" (68 : Nat) y_M_init) ∈ WS := List.mem_of_getElem? (i := 446) (by decide +kernel)
theorem k_447 : (Jvm.Cond.instanceMethod y_M_init) ∈ WS := List.mem_of_getElem? (i := 447) (by decide +kernel)
theorem k_448 : (Jvm.Cond.arrayClass Jvm.ClassFile.FieldType.long) ∈ WS := List.mem_of_getElem? (i := 448) (by decide +kernel)
theorem k_449 : (Jvm.Cond.initialized "java/lang/Throwable") ∈ WS := List.mem_of_getElem? (i := 449) (by decide +kernel)
theorem k_450 : (Jvm.Cond.initialized "java/lang/Exception") ∈ WS := List.mem_of_getElem? (i := 450) (by decide +kernel)
theorem k_451 : (Jvm.Cond.initialized "java/lang/RuntimeException") ∈ WS := List.mem_of_getElem? (i := 451) (by decide +kernel)
theorem k_452 : (Jvm.Cond.initialized "java/lang/UnsupportedOperationException") ∈ WS := List.mem_of_getElem? (i := 452) (by decide +kernel)
theorem k_453 : (Jvm.Cond.instantiable "java/lang/IllegalArgumentException" (6 : Nat)) ∈ WS := List.mem_of_getElem? (i := 453) (by decide +kernel)
theorem k_454 : (Jvm.Cond.declares ({ cls := "java/lang/RuntimeException", name := "<init>", desc := "()V" } : Jvm.MethodName)) ∈ WS := List.mem_of_getElem? (i := 454) (by decide +kernel)
theorem k_455 : (Jvm.Cond.declares ({ cls := "java/lang/RuntimeException", name := "<init>", desc := "(Ljava/lang/String;)V" } : Jvm.MethodName)) ∈ WS := List.mem_of_getElem? (i := 455) (by decide +kernel)
theorem k_456 : (Jvm.Cond.declares ({ cls := "java/lang/Exception", name := "<init>", desc := "()V" } : Jvm.MethodName)) ∈ WS := List.mem_of_getElem? (i := 456) (by decide +kernel)
theorem k_457 : (Jvm.Cond.declares ({ cls := "java/lang/Exception", name := "<init>", desc := "(Ljava/lang/String;)V" } : Jvm.MethodName)) ∈ WS := List.mem_of_getElem? (i := 457) (by decide +kernel)
theorem k_458 : (Jvm.Cond.declares ({ cls := "java/lang/Throwable", name := "<init>", desc := "()V" } : Jvm.MethodName)) ∈ WS := List.mem_of_getElem? (i := 458) (by decide +kernel)
theorem k_459 : (Jvm.Cond.declares ({ cls := "java/lang/Throwable", name := "<init>", desc := "(Ljava/lang/String;)V" } : Jvm.MethodName)) ∈ WS := List.mem_of_getElem? (i := 459) (by decide +kernel)
theorem k_460 : (Jvm.Cond.selects "java/lang/IllegalArgumentException" ({ cls := "java/lang/Throwable", name := "fillInStackTrace", desc := "(I)Ljava/lang/Throwable;" } : Jvm.MethodName) ({ cls := "java/lang/Throwable", name := "fillInStackTrace", desc := "(I)Ljava/lang/Throwable;" } : Jvm.MethodName)) ∈ WS := List.mem_of_getElem? (i := 460) (by decide +kernel)
theorem k_461 : (Jvm.Cond.selects "java/lang/IllegalArgumentException" ({ cls := "java/lang/Throwable", name := "fillInStackTrace", desc := "()Ljava/lang/Throwable;" } : Jvm.MethodName) ({ cls := "java/lang/Throwable", name := "fillInStackTrace", desc := "()Ljava/lang/Throwable;" } : Jvm.MethodName)) ∈ WS := List.mem_of_getElem? (i := 461) (by decide +kernel)
theorem k_462 : (Jvm.Cond.lays "java/lang/IllegalArgumentException" "java/lang/Throwable" "cause" "Ljava/lang/Throwable;") ∈ WS := List.mem_of_getElem? (i := 462) (by decide +kernel)
theorem k_463 : (Jvm.Cond.lays "java/lang/Throwable" "java/lang/Throwable" "cause" "Ljava/lang/Throwable;") ∈ WS := List.mem_of_getElem? (i := 463) (by decide +kernel)
theorem k_464 : (Jvm.Cond.lays "java/lang/IllegalArgumentException" "java/lang/Throwable" "stackTrace" "[Ljava/lang/StackTraceElement;") ∈ WS := List.mem_of_getElem? (i := 464) (by decide +kernel)
theorem k_465 : (Jvm.Cond.lays "java/lang/Throwable" "java/lang/Throwable" "stackTrace" "[Ljava/lang/StackTraceElement;") ∈ WS := List.mem_of_getElem? (i := 465) (by decide +kernel)
theorem k_466 : (Jvm.Cond.lays "java/lang/IllegalArgumentException" "java/lang/Throwable" "suppressedExceptions" "Ljava/util/List;") ∈ WS := List.mem_of_getElem? (i := 466) (by decide +kernel)
theorem k_467 : (Jvm.Cond.lays "java/lang/Throwable" "java/lang/Throwable" "suppressedExceptions" "Ljava/util/List;") ∈ WS := List.mem_of_getElem? (i := 467) (by decide +kernel)
theorem k_468 : (Jvm.Cond.lays "java/lang/IllegalArgumentException" "java/lang/Throwable" "detailMessage" "Ljava/lang/String;") ∈ WS := List.mem_of_getElem? (i := 468) (by decide +kernel)
theorem k_469 : (Jvm.Cond.lays "java/lang/Throwable" "java/lang/Throwable" "detailMessage" "Ljava/lang/String;") ∈ WS := List.mem_of_getElem? (i := 469) (by decide +kernel)
theorem k_470 : (Jvm.Cond.lays "java/lang/IllegalArgumentException" "java/lang/Throwable" "backtrace" "Ljava/lang/Object;") ∈ WS := List.mem_of_getElem? (i := 470) (by decide +kernel)
theorem k_471 : (Jvm.Cond.lays "java/lang/Throwable" "java/lang/Throwable" "backtrace" "Ljava/lang/Object;") ∈ WS := List.mem_of_getElem? (i := 471) (by decide +kernel)
theorem k_472 : (Jvm.Cond.fieldLink "java/lang/Throwable" (198 : Nat) "java/lang/Throwable" "backtrace" "Ljava/lang/Object;") ∈ WS := List.mem_of_getElem? (i := 472) (by decide +kernel)
theorem k_473 : (Jvm.Cond.superclass "java/lang/Throwable" "java/lang/Object") ∈ WS := List.mem_of_getElem? (i := 473) (by decide +kernel)
theorem k_474 : (Jvm.Cond.instanceMethod ({ cls := "java/lang/Throwable", name := "<init>", desc := "()V" } : Jvm.MethodName)) ∈ WS := List.mem_of_getElem? (i := 474) (by decide +kernel)
theorem k_475 : (Jvm.Cond.code ({ cls := "java/lang/Throwable", name := "<init>", desc := "()V" } : Jvm.MethodName) prog_20_method_1_code (1 : Nat) (Option.none : Option Jvm.ClassFile.FieldType)) ∈ WS := List.mem_of_getElem? (i := 475) (by decide +kernel)
theorem k_476 : (Jvm.Cond.methodLink "java/lang/Throwable" (1 : Nat) ({ cls := "java/lang/Object", name := "<init>", desc := "()V" } : Jvm.MethodName)) ∈ WS := List.mem_of_getElem? (i := 476) (by decide +kernel)
theorem k_477 : (Jvm.Cond.fieldLink "java/lang/Throwable" (13 : Nat) "java/lang/Throwable" "UNASSIGNED_STACK" "[Ljava/lang/StackTraceElement;") ∈ WS := List.mem_of_getElem? (i := 477) (by decide +kernel)
theorem k_478 : (Jvm.Cond.fieldLink "java/lang/Throwable" (20 : Nat) "java/lang/Throwable" "SUPPRESSED_SENTINEL" "Ljava/util/List;") ∈ WS := List.mem_of_getElem? (i := 478) (by decide +kernel)
theorem k_479 : (Jvm.Cond.methodLink "java/lang/Throwable" (27 : Nat) ({ cls := "java/lang/Throwable", name := "fillInStackTrace", desc := "()Ljava/lang/Throwable;" } : Jvm.MethodName)) ∈ WS := List.mem_of_getElem? (i := 479) (by decide +kernel)
theorem k_480 : (Jvm.Cond.instanceMethod ({ cls := "java/lang/Throwable", name := "fillInStackTrace", desc := "()Ljava/lang/Throwable;" } : Jvm.MethodName)) ∈ WS := List.mem_of_getElem? (i := 480) (by decide +kernel)
theorem k_481 : (Jvm.Cond.sameMethod "java/lang/Throwable" "java/lang/Throwable" "fillInStackTrace" "()Ljava/lang/Throwable;") ∈ WS := List.mem_of_getElem? (i := 481) (by decide +kernel)
theorem k_482 : (Jvm.Cond.selects "java/lang/IllegalStateException" ({ cls := "java/lang/Throwable", name := "fillInStackTrace", desc := "()Ljava/lang/Throwable;" } : Jvm.MethodName) ({ cls := "java/lang/Throwable", name := "fillInStackTrace", desc := "()Ljava/lang/Throwable;" } : Jvm.MethodName)) ∈ WS := List.mem_of_getElem? (i := 482) (by decide +kernel)
theorem k_483 : (Jvm.Cond.selects "java/lang/IndexOutOfBoundsException" ({ cls := "java/lang/Throwable", name := "fillInStackTrace", desc := "()Ljava/lang/Throwable;" } : Jvm.MethodName) ({ cls := "java/lang/Throwable", name := "fillInStackTrace", desc := "()Ljava/lang/Throwable;" } : Jvm.MethodName)) ∈ WS := List.mem_of_getElem? (i := 483) (by decide +kernel)
theorem k_484 : (Jvm.Cond.selects "java/lang/UnsupportedOperationException" ({ cls := "java/lang/Throwable", name := "fillInStackTrace", desc := "()Ljava/lang/Throwable;" } : Jvm.MethodName) ({ cls := "java/lang/Throwable", name := "fillInStackTrace", desc := "()Ljava/lang/Throwable;" } : Jvm.MethodName)) ∈ WS := List.mem_of_getElem? (i := 484) (by decide +kernel)
theorem k_485 : (Jvm.Cond.codeSync ({ cls := "java/lang/Throwable", name := "fillInStackTrace", desc := "()Ljava/lang/Throwable;" } : Jvm.MethodName) prog_20_method_18_code (1 : Nat) (Option.some (Jvm.ClassFile.FieldType.object "java/lang/Throwable"))) ∈ WS := List.mem_of_getElem? (i := 485) (by decide +kernel)
theorem k_486 : (Jvm.Cond.methodLink "java/lang/Throwable" (202 : Nat) ({ cls := "java/lang/Throwable", name := "fillInStackTrace", desc := "(I)Ljava/lang/Throwable;" } : Jvm.MethodName)) ∈ WS := List.mem_of_getElem? (i := 486) (by decide +kernel)
theorem k_487 : (Jvm.Cond.privateMethod ({ cls := "java/lang/Throwable", name := "fillInStackTrace", desc := "(I)Ljava/lang/Throwable;" } : Jvm.MethodName)) ∈ WS := List.mem_of_getElem? (i := 487) (by decide +kernel)
theorem k_488 : (Jvm.Cond.instanceMethod ({ cls := "java/lang/Throwable", name := "fillInStackTrace", desc := "(I)Ljava/lang/Throwable;" } : Jvm.MethodName)) ∈ WS := List.mem_of_getElem? (i := 488) (by decide +kernel)
theorem k_489 : (Jvm.Cond.instantiable "java/lang/Throwable" (6 : Nat)) ∈ WS := List.mem_of_getElem? (i := 489) (by decide +kernel)
theorem k_490 : (Jvm.Cond.native ({ cls := "java/lang/Throwable", name := "fillInStackTrace", desc := "(I)Ljava/lang/Throwable;" } : Jvm.MethodName)) ∈ WS := List.mem_of_getElem? (i := 490) (by decide +kernel)
theorem k_491 : (Jvm.Cond.instanceMethod ({ cls := "java/lang/IllegalArgumentException", name := "<init>", desc := "(Ljava/lang/String;)V" } : Jvm.MethodName)) ∈ WS := List.mem_of_getElem? (i := 491) (by decide +kernel)
theorem k_492 : (Jvm.Cond.code ({ cls := "java/lang/IllegalArgumentException", name := "<init>", desc := "(Ljava/lang/String;)V" } : Jvm.MethodName) prog_12_method_2_code (2 : Nat) (Option.none : Option Jvm.ClassFile.FieldType)) ∈ WS := List.mem_of_getElem? (i := 492) (by decide +kernel)
theorem k_493 : (Jvm.Cond.methodLink "java/lang/IllegalArgumentException" (7 : Nat) ({ cls := "java/lang/RuntimeException", name := "<init>", desc := "(Ljava/lang/String;)V" } : Jvm.MethodName)) ∈ WS := List.mem_of_getElem? (i := 493) (by decide +kernel)
theorem k_494 : (Jvm.Cond.instanceMethod ({ cls := "java/lang/RuntimeException", name := "<init>", desc := "(Ljava/lang/String;)V" } : Jvm.MethodName)) ∈ WS := List.mem_of_getElem? (i := 494) (by decide +kernel)
theorem k_495 : (Jvm.Cond.code ({ cls := "java/lang/RuntimeException", name := "<init>", desc := "(Ljava/lang/String;)V" } : Jvm.MethodName) prog_17_method_2_code (2 : Nat) (Option.none : Option Jvm.ClassFile.FieldType)) ∈ WS := List.mem_of_getElem? (i := 495) (by decide +kernel)
theorem k_496 : (Jvm.Cond.methodLink "java/lang/RuntimeException" (7 : Nat) ({ cls := "java/lang/Exception", name := "<init>", desc := "(Ljava/lang/String;)V" } : Jvm.MethodName)) ∈ WS := List.mem_of_getElem? (i := 496) (by decide +kernel)
theorem k_497 : (Jvm.Cond.instanceMethod ({ cls := "java/lang/Exception", name := "<init>", desc := "(Ljava/lang/String;)V" } : Jvm.MethodName)) ∈ WS := List.mem_of_getElem? (i := 497) (by decide +kernel)
theorem k_498 : (Jvm.Cond.code ({ cls := "java/lang/Exception", name := "<init>", desc := "(Ljava/lang/String;)V" } : Jvm.MethodName) prog_11_method_2_code (2 : Nat) (Option.none : Option Jvm.ClassFile.FieldType)) ∈ WS := List.mem_of_getElem? (i := 498) (by decide +kernel)
theorem k_499 : (Jvm.Cond.methodLink "java/lang/Exception" (7 : Nat) ({ cls := "java/lang/Throwable", name := "<init>", desc := "(Ljava/lang/String;)V" } : Jvm.MethodName)) ∈ WS := List.mem_of_getElem? (i := 499) (by decide +kernel)
theorem k_500 : (Jvm.Cond.instanceMethod ({ cls := "java/lang/Throwable", name := "<init>", desc := "(Ljava/lang/String;)V" } : Jvm.MethodName)) ∈ WS := List.mem_of_getElem? (i := 500) (by decide +kernel)
theorem k_501 : (Jvm.Cond.code ({ cls := "java/lang/Throwable", name := "<init>", desc := "(Ljava/lang/String;)V" } : Jvm.MethodName) prog_20_method_2_code (2 : Nat) (Option.none : Option Jvm.ClassFile.FieldType)) ∈ WS := List.mem_of_getElem? (i := 501) (by decide +kernel)
theorem k_502 : (Jvm.Cond.fieldLink "java/lang/Throwable" (31 : Nat) "java/lang/Throwable" "detailMessage" "Ljava/lang/String;") ∈ WS := List.mem_of_getElem? (i := 502) (by decide +kernel)
theorem k_503 : (Jvm.Cond.fieldLink "java/lang/Throwable" (7 : Nat) "java/lang/Throwable" "cause" "Ljava/lang/Throwable;") ∈ WS := List.mem_of_getElem? (i := 503) (by decide +kernel)
theorem k_504 : (Jvm.Cond.fieldLink "java/lang/Throwable" (17 : Nat) "java/lang/Throwable" "stackTrace" "[Ljava/lang/StackTraceElement;") ∈ WS := List.mem_of_getElem? (i := 504) (by decide +kernel)
theorem k_505 : (Jvm.Cond.fieldLink "java/lang/Throwable" (24 : Nat) "java/lang/Throwable" "suppressedExceptions" "Ljava/util/List;") ∈ WS := List.mem_of_getElem? (i := 505) (by decide +kernel)
theorem k_506 : (Jvm.Cond.soleField "java/lang/Throwable" "backtrace") ∈ WS := List.mem_of_getElem? (i := 506) (by decide +kernel)
theorem k_507 : (Jvm.Cond.soleField "java/lang/Throwable" "detailMessage") ∈ WS := List.mem_of_getElem? (i := 507) (by decide +kernel)
theorem k_508 : (Jvm.Cond.soleField "java/lang/Throwable" "cause") ∈ WS := List.mem_of_getElem? (i := 508) (by decide +kernel)
theorem k_509 : (Jvm.Cond.soleField "java/lang/Throwable" "stackTrace") ∈ WS := List.mem_of_getElem? (i := 509) (by decide +kernel)
theorem k_510 : (Jvm.Cond.lays "java/lang/IllegalArgumentException" "java/lang/Throwable" "depth" "I") ∈ WS := List.mem_of_getElem? (i := 510) (by decide +kernel)
theorem k_511 : (Jvm.Cond.soleField "java/lang/Throwable" "depth") ∈ WS := List.mem_of_getElem? (i := 511) (by decide +kernel)
theorem k_512 : (Jvm.Cond.soleField "java/lang/Throwable" "suppressedExceptions") ∈ WS := List.mem_of_getElem? (i := 512) (by decide +kernel)
theorem k_513 : (Jvm.Cond.superclass "java/lang/IllegalArgumentException" "java/lang/RuntimeException") ∈ WS := List.mem_of_getElem? (i := 513) (by decide +kernel)
theorem k_514 : (Jvm.Cond.instantiable "java/lang/IllegalStateException" (6 : Nat)) ∈ WS := List.mem_of_getElem? (i := 514) (by decide +kernel)
theorem k_515 : (Jvm.Cond.selects "java/lang/IllegalStateException" ({ cls := "java/lang/Throwable", name := "fillInStackTrace", desc := "(I)Ljava/lang/Throwable;" } : Jvm.MethodName) ({ cls := "java/lang/Throwable", name := "fillInStackTrace", desc := "(I)Ljava/lang/Throwable;" } : Jvm.MethodName)) ∈ WS := List.mem_of_getElem? (i := 515) (by decide +kernel)
theorem k_516 : (Jvm.Cond.lays "java/lang/IllegalStateException" "java/lang/Throwable" "cause" "Ljava/lang/Throwable;") ∈ WS := List.mem_of_getElem? (i := 516) (by decide +kernel)
theorem k_517 : (Jvm.Cond.lays "java/lang/IllegalStateException" "java/lang/Throwable" "stackTrace" "[Ljava/lang/StackTraceElement;") ∈ WS := List.mem_of_getElem? (i := 517) (by decide +kernel)
theorem k_518 : (Jvm.Cond.lays "java/lang/IllegalStateException" "java/lang/Throwable" "suppressedExceptions" "Ljava/util/List;") ∈ WS := List.mem_of_getElem? (i := 518) (by decide +kernel)
theorem k_519 : (Jvm.Cond.lays "java/lang/IllegalStateException" "java/lang/Throwable" "detailMessage" "Ljava/lang/String;") ∈ WS := List.mem_of_getElem? (i := 519) (by decide +kernel)
theorem k_520 : (Jvm.Cond.lays "java/lang/IllegalStateException" "java/lang/Throwable" "backtrace" "Ljava/lang/Object;") ∈ WS := List.mem_of_getElem? (i := 520) (by decide +kernel)
theorem k_521 : (Jvm.Cond.instanceMethod ({ cls := "java/lang/IllegalStateException", name := "<init>", desc := "(Ljava/lang/String;)V" } : Jvm.MethodName)) ∈ WS := List.mem_of_getElem? (i := 521) (by decide +kernel)
theorem k_522 : (Jvm.Cond.code ({ cls := "java/lang/IllegalStateException", name := "<init>", desc := "(Ljava/lang/String;)V" } : Jvm.MethodName) prog_13_method_2_code (2 : Nat) (Option.none : Option Jvm.ClassFile.FieldType)) ∈ WS := List.mem_of_getElem? (i := 522) (by decide +kernel)
theorem k_523 : (Jvm.Cond.methodLink "java/lang/IllegalStateException" (7 : Nat) ({ cls := "java/lang/RuntimeException", name := "<init>", desc := "(Ljava/lang/String;)V" } : Jvm.MethodName)) ∈ WS := List.mem_of_getElem? (i := 523) (by decide +kernel)
theorem k_524 : (Jvm.Cond.lays "java/lang/IllegalStateException" "java/lang/Throwable" "depth" "I") ∈ WS := List.mem_of_getElem? (i := 524) (by decide +kernel)
theorem k_525 : (Jvm.Cond.superclass "java/lang/IllegalStateException" "java/lang/RuntimeException") ∈ WS := List.mem_of_getElem? (i := 525) (by decide +kernel)
theorem k_526 : (Jvm.Cond.instantiable "java/lang/IndexOutOfBoundsException" (6 : Nat)) ∈ WS := List.mem_of_getElem? (i := 526) (by decide +kernel)
theorem k_527 : (Jvm.Cond.selects "java/lang/IndexOutOfBoundsException" ({ cls := "java/lang/Throwable", name := "fillInStackTrace", desc := "(I)Ljava/lang/Throwable;" } : Jvm.MethodName) ({ cls := "java/lang/Throwable", name := "fillInStackTrace", desc := "(I)Ljava/lang/Throwable;" } : Jvm.MethodName)) ∈ WS := List.mem_of_getElem? (i := 527) (by decide +kernel)
theorem k_528 : (Jvm.Cond.lays "java/lang/IndexOutOfBoundsException" "java/lang/Throwable" "cause" "Ljava/lang/Throwable;") ∈ WS := List.mem_of_getElem? (i := 528) (by decide +kernel)
theorem k_529 : (Jvm.Cond.lays "java/lang/IndexOutOfBoundsException" "java/lang/Throwable" "stackTrace" "[Ljava/lang/StackTraceElement;") ∈ WS := List.mem_of_getElem? (i := 529) (by decide +kernel)
theorem k_530 : (Jvm.Cond.lays "java/lang/IndexOutOfBoundsException" "java/lang/Throwable" "suppressedExceptions" "Ljava/util/List;") ∈ WS := List.mem_of_getElem? (i := 530) (by decide +kernel)
theorem k_531 : (Jvm.Cond.lays "java/lang/IndexOutOfBoundsException" "java/lang/Throwable" "detailMessage" "Ljava/lang/String;") ∈ WS := List.mem_of_getElem? (i := 531) (by decide +kernel)
theorem k_532 : (Jvm.Cond.lays "java/lang/IndexOutOfBoundsException" "java/lang/Throwable" "backtrace" "Ljava/lang/Object;") ∈ WS := List.mem_of_getElem? (i := 532) (by decide +kernel)
theorem k_533 : (Jvm.Cond.instanceMethod ({ cls := "java/lang/IndexOutOfBoundsException", name := "<init>", desc := "(Ljava/lang/String;)V" } : Jvm.MethodName)) ∈ WS := List.mem_of_getElem? (i := 533) (by decide +kernel)
theorem k_534 : (Jvm.Cond.code ({ cls := "java/lang/IndexOutOfBoundsException", name := "<init>", desc := "(Ljava/lang/String;)V" } : Jvm.MethodName) prog_14_method_2_code (2 : Nat) (Option.none : Option Jvm.ClassFile.FieldType)) ∈ WS := List.mem_of_getElem? (i := 534) (by decide +kernel)
theorem k_535 : (Jvm.Cond.methodLink "java/lang/IndexOutOfBoundsException" (7 : Nat) ({ cls := "java/lang/RuntimeException", name := "<init>", desc := "(Ljava/lang/String;)V" } : Jvm.MethodName)) ∈ WS := List.mem_of_getElem? (i := 535) (by decide +kernel)
theorem k_536 : (Jvm.Cond.lays "java/lang/IndexOutOfBoundsException" "java/lang/Throwable" "depth" "I") ∈ WS := List.mem_of_getElem? (i := 536) (by decide +kernel)
theorem k_537 : (Jvm.Cond.superclass "java/lang/IndexOutOfBoundsException" "java/lang/RuntimeException") ∈ WS := List.mem_of_getElem? (i := 537) (by decide +kernel)
theorem k_538 : (Jvm.Cond.instantiable "java/lang/UnsupportedOperationException" (6 : Nat)) ∈ WS := List.mem_of_getElem? (i := 538) (by decide +kernel)
theorem k_539 : (Jvm.Cond.castable "java/lang/UnsupportedOperationException" "java/lang/UnsupportedOperationException") ∈ WS := List.mem_of_getElem? (i := 539) (by decide +kernel)
theorem k_540 : (Jvm.Cond.selects "java/lang/UnsupportedOperationException" ({ cls := "java/lang/Throwable", name := "fillInStackTrace", desc := "(I)Ljava/lang/Throwable;" } : Jvm.MethodName) ({ cls := "java/lang/Throwable", name := "fillInStackTrace", desc := "(I)Ljava/lang/Throwable;" } : Jvm.MethodName)) ∈ WS := List.mem_of_getElem? (i := 540) (by decide +kernel)
theorem k_541 : (Jvm.Cond.lays "java/lang/UnsupportedOperationException" "java/lang/Throwable" "cause" "Ljava/lang/Throwable;") ∈ WS := List.mem_of_getElem? (i := 541) (by decide +kernel)
theorem k_542 : (Jvm.Cond.lays "java/lang/UnsupportedOperationException" "java/lang/Throwable" "stackTrace" "[Ljava/lang/StackTraceElement;") ∈ WS := List.mem_of_getElem? (i := 542) (by decide +kernel)
theorem k_543 : (Jvm.Cond.lays "java/lang/UnsupportedOperationException" "java/lang/Throwable" "suppressedExceptions" "Ljava/util/List;") ∈ WS := List.mem_of_getElem? (i := 543) (by decide +kernel)
theorem k_544 : (Jvm.Cond.lays "java/lang/UnsupportedOperationException" "java/lang/Throwable" "detailMessage" "Ljava/lang/String;") ∈ WS := List.mem_of_getElem? (i := 544) (by decide +kernel)
theorem k_545 : (Jvm.Cond.lays "java/lang/UnsupportedOperationException" "java/lang/Throwable" "backtrace" "Ljava/lang/Object;") ∈ WS := List.mem_of_getElem? (i := 545) (by decide +kernel)
theorem k_546 : (Jvm.Cond.instanceMethod ({ cls := "java/lang/UnsupportedOperationException", name := "<init>", desc := "(Ljava/lang/String;)V" } : Jvm.MethodName)) ∈ WS := List.mem_of_getElem? (i := 546) (by decide +kernel)
theorem k_547 : (Jvm.Cond.code ({ cls := "java/lang/UnsupportedOperationException", name := "<init>", desc := "(Ljava/lang/String;)V" } : Jvm.MethodName) prog_21_method_2_code (2 : Nat) (Option.none : Option Jvm.ClassFile.FieldType)) ∈ WS := List.mem_of_getElem? (i := 547) (by decide +kernel)
theorem k_548 : (Jvm.Cond.methodLink "java/lang/UnsupportedOperationException" (7 : Nat) ({ cls := "java/lang/RuntimeException", name := "<init>", desc := "(Ljava/lang/String;)V" } : Jvm.MethodName)) ∈ WS := List.mem_of_getElem? (i := 548) (by decide +kernel)
theorem k_549 : (Jvm.Cond.lays "java/lang/UnsupportedOperationException" "java/lang/Throwable" "depth" "I") ∈ WS := List.mem_of_getElem? (i := 549) (by decide +kernel)
theorem k_550 : (Jvm.Cond.superclass "java/lang/UnsupportedOperationException" "java/lang/RuntimeException") ∈ WS := List.mem_of_getElem? (i := 550) (by decide +kernel)
theorem k_551 : (Jvm.Cond.sameMethod "java/lang/Throwable" "java/lang/Throwable" "fillInStackTrace" "(I)Ljava/lang/Throwable;") ∈ WS := List.mem_of_getElem? (i := 551) (by decide +kernel)
theorem k_552 : (Jvm.Cond.laysFinal "VisitGrammar" "VisitGrammar" "grammar" "LVisitGrammar$Grammar;") ∈ WS := List.mem_of_getElem? (i := 552) (by decide +kernel)
theorem k_553 : (Jvm.Cond.laysFinal "VisitGrammar" "VisitGrammar" "analysis" "LVisitGrammar$Analysis;") ∈ WS := List.mem_of_getElem? (i := 553) (by decide +kernel)
theorem k_554 : (Jvm.Cond.laysFinal "VisitGrammar" "VisitGrammar" "tree" "LVisitGrammar$Tree;") ∈ WS := List.mem_of_getElem? (i := 554) (by decide +kernel)
theorem k_555 : (Jvm.Cond.laysFinal "VisitGrammar" "VisitGrammar" "walk" "LVisitGrammar$Walk;") ∈ WS := List.mem_of_getElem? (i := 555) (by decide +kernel)
theorem k_556 : (Jvm.Cond.laysFinal "VisitGrammar$Grammar" "VisitGrammar$Grammar" "attributeCounts" "[I") ∈ WS := List.mem_of_getElem? (i := 556) (by decide +kernel)
theorem k_557 : (Jvm.Cond.laysFinal "VisitGrammar$Grammar" "VisitGrammar$Grammar" "inheritedBits" "[I") ∈ WS := List.mem_of_getElem? (i := 557) (by decide +kernel)
theorem k_558 : (Jvm.Cond.lays "VisitGrammar$Grammar" "VisitGrammar$Grammar" "symbolCount" "I") ∈ WS := List.mem_of_getElem? (i := 558) (by decide +kernel)
theorem k_559 : (Jvm.Cond.laysFinal "VisitGrammar$Grammar" "VisitGrammar$Grammar" "symbolsAt" "[I") ∈ WS := List.mem_of_getElem? (i := 559) (by decide +kernel)
theorem k_560 : (Jvm.Cond.laysFinal "VisitGrammar$Grammar" "VisitGrammar$Grammar" "lastPositions" "[I") ∈ WS := List.mem_of_getElem? (i := 560) (by decide +kernel)
theorem k_561 : (Jvm.Cond.laysFinal "VisitGrammar$Grammar" "VisitGrammar$Grammar" "presentBits" "[I") ∈ WS := List.mem_of_getElem? (i := 561) (by decide +kernel)
theorem k_562 : (Jvm.Cond.laysFinal "VisitGrammar$Grammar" "VisitGrammar$Grammar" "toDefineBits" "[I") ∈ WS := List.mem_of_getElem? (i := 562) (by decide +kernel)
theorem k_563 : (Jvm.Cond.lays "VisitGrammar$Grammar" "VisitGrammar$Grammar" "productionCount" "I") ∈ WS := List.mem_of_getElem? (i := 563) (by decide +kernel)
theorem k_564 : (Jvm.Cond.laysFinal "VisitGrammar$Grammar" "VisitGrammar$Grammar" "ruledBits" "[I") ∈ WS := List.mem_of_getElem? (i := 564) (by decide +kernel)
theorem k_565 : (Jvm.Cond.laysFinal "VisitGrammar$Grammar" "VisitGrammar$Grammar" "forms" "[I") ∈ WS := List.mem_of_getElem? (i := 565) (by decide +kernel)
theorem k_566 : (Jvm.Cond.laysFinal "VisitGrammar$Grammar" "VisitGrammar$Grammar" "firsts" "[I") ∈ WS := List.mem_of_getElem? (i := 566) (by decide +kernel)
theorem k_567 : (Jvm.Cond.laysFinal "VisitGrammar$Grammar" "VisitGrammar$Grammar" "seconds" "[I") ∈ WS := List.mem_of_getElem? (i := 567) (by decide +kernel)
theorem k_568 : (Jvm.Cond.laysFinal "VisitGrammar$Grammar" "VisitGrammar$Grammar" "usedBits" "[I") ∈ WS := List.mem_of_getElem? (i := 568) (by decide +kernel)
theorem k_569 : (Jvm.Cond.laysFinal "VisitGrammar$Analysis" "VisitGrammar$Analysis" "grammar" "LVisitGrammar$Grammar;") ∈ WS := List.mem_of_getElem? (i := 569) (by decide +kernel)
theorem k_570 : (Jvm.Cond.laysFinal "VisitGrammar$Analysis" "VisitGrammar$Analysis" "leads" "LVisitGrammar$Leads;") ∈ WS := List.mem_of_getElem? (i := 570) (by decide +kernel)
theorem k_571 : (Jvm.Cond.laysFinal "VisitGrammar$Analysis" "VisitGrammar$Analysis" "ranking" "LVisitGrammar$Ranking;") ∈ WS := List.mem_of_getElem? (i := 571) (by decide +kernel)
theorem k_572 : (Jvm.Cond.laysFinal "VisitGrammar$Analysis" "VisitGrammar$Analysis" "sequences" "LVisitGrammar$Sequences;") ∈ WS := List.mem_of_getElem? (i := 572) (by decide +kernel)
theorem k_573 : (Jvm.Cond.lays "VisitGrammar$Analysis" "VisitGrammar$Analysis" "present" "Z") ∈ WS := List.mem_of_getElem? (i := 573) (by decide +kernel)
theorem k_574 : (Jvm.Cond.lays "VisitGrammar$Analysis" "VisitGrammar$Analysis" "faultKind" "I") ∈ WS := List.mem_of_getElem? (i := 574) (by decide +kernel)
theorem k_575 : (Jvm.Cond.lays "VisitGrammar$Analysis" "VisitGrammar$Analysis" "faultProduction" "I") ∈ WS := List.mem_of_getElem? (i := 575) (by decide +kernel)
theorem k_576 : (Jvm.Cond.lays "VisitGrammar$Analysis" "VisitGrammar$Analysis" "faultOccurrence" "I") ∈ WS := List.mem_of_getElem? (i := 576) (by decide +kernel)
theorem k_577 : (Jvm.Cond.laysFinal "VisitGrammar$Leads" "VisitGrammar$Leads" "grammar" "LVisitGrammar$Grammar;") ∈ WS := List.mem_of_getElem? (i := 577) (by decide +kernel)
theorem k_578 : (Jvm.Cond.laysFinal "VisitGrammar$Leads" "VisitGrammar$Leads" "ofOccurrences" "[I") ∈ WS := List.mem_of_getElem? (i := 578) (by decide +kernel)
theorem k_579 : (Jvm.Cond.laysFinal "VisitGrammar$Leads" "VisitGrammar$Leads" "ofAttributes" "[I") ∈ WS := List.mem_of_getElem? (i := 579) (by decide +kernel)
theorem k_580 : (Jvm.Cond.laysFinal "VisitGrammar$Ranking" "VisitGrammar$Ranking" "grammar" "LVisitGrammar$Grammar;") ∈ WS := List.mem_of_getElem? (i := 580) (by decide +kernel)
theorem k_581 : (Jvm.Cond.laysFinal "VisitGrammar$Ranking" "VisitGrammar$Ranking" "leads" "LVisitGrammar$Leads;") ∈ WS := List.mem_of_getElem? (i := 581) (by decide +kernel)
theorem k_582 : (Jvm.Cond.laysFinal "VisitGrammar$Ranking" "VisitGrammar$Ranking" "ranks" "[I") ∈ WS := List.mem_of_getElem? (i := 582) (by decide +kernel)
theorem k_583 : (Jvm.Cond.laysFinal "VisitGrammar$Ranking" "VisitGrammar$Ranking" "visitCounts" "[I") ∈ WS := List.mem_of_getElem? (i := 583) (by decide +kernel)
theorem k_584 : (Jvm.Cond.laysFinal "VisitGrammar$Ranking" "VisitGrammar$Ranking" "belonging" "[I") ∈ WS := List.mem_of_getElem? (i := 584) (by decide +kernel)
theorem k_585 : (Jvm.Cond.laysFinal "VisitGrammar$Sequences" "VisitGrammar$Sequences" "grammar" "LVisitGrammar$Grammar;") ∈ WS := List.mem_of_getElem? (i := 585) (by decide +kernel)
theorem k_586 : (Jvm.Cond.laysFinal "VisitGrammar$Sequences" "VisitGrammar$Sequences" "ranking" "LVisitGrammar$Ranking;") ∈ WS := List.mem_of_getElem? (i := 586) (by decide +kernel)
theorem k_587 : (Jvm.Cond.laysFinal "VisitGrammar$Sequences" "VisitGrammar$Sequences" "instructions" "[I") ∈ WS := List.mem_of_getElem? (i := 587) (by decide +kernel)
theorem k_588 : (Jvm.Cond.laysFinal "VisitGrammar$Sequences" "VisitGrammar$Sequences" "lengths" "[I") ∈ WS := List.mem_of_getElem? (i := 588) (by decide +kernel)
theorem k_589 : (Jvm.Cond.laysFinal "VisitGrammar$Sequences" "VisitGrammar$Sequences" "visitsWritten" "[I") ∈ WS := List.mem_of_getElem? (i := 589) (by decide +kernel)
theorem k_590 : (Jvm.Cond.lays "VisitGrammar$Sequences" "VisitGrammar$Sequences" "setBits" "I") ∈ WS := List.mem_of_getElem? (i := 590) (by decide +kernel)
theorem k_591 : (Jvm.Cond.lays "VisitGrammar$Sequences" "VisitGrammar$Sequences" "knownBits" "I") ∈ WS := List.mem_of_getElem? (i := 591) (by decide +kernel)
theorem k_592 : (Jvm.Cond.laysFinal "VisitGrammar$Tree" "VisitGrammar$Tree" "grammar" "LVisitGrammar$Grammar;") ∈ WS := List.mem_of_getElem? (i := 592) (by decide +kernel)
theorem k_593 : (Jvm.Cond.laysFinal "VisitGrammar$Tree" "VisitGrammar$Tree" "productions" "[I") ∈ WS := List.mem_of_getElem? (i := 593) (by decide +kernel)
theorem k_594 : (Jvm.Cond.laysFinal "VisitGrammar$Tree" "VisitGrammar$Tree" "tokens" "[I") ∈ WS := List.mem_of_getElem? (i := 594) (by decide +kernel)
theorem k_595 : (Jvm.Cond.laysFinal "VisitGrammar$Tree" "VisitGrammar$Tree" "parents" "[I") ∈ WS := List.mem_of_getElem? (i := 595) (by decide +kernel)
theorem k_596 : (Jvm.Cond.laysFinal "VisitGrammar$Tree" "VisitGrammar$Tree" "nodesAt" "[I") ∈ WS := List.mem_of_getElem? (i := 596) (by decide +kernel)
theorem k_597 : (Jvm.Cond.lays "VisitGrammar$Tree" "VisitGrammar$Tree" "nodeCount" "I") ∈ WS := List.mem_of_getElem? (i := 597) (by decide +kernel)
theorem k_598 : (Jvm.Cond.laysFinal "VisitGrammar$Walk" "VisitGrammar$Walk" "grammar" "LVisitGrammar$Grammar;") ∈ WS := List.mem_of_getElem? (i := 598) (by decide +kernel)
theorem k_599 : (Jvm.Cond.laysFinal "VisitGrammar$Walk" "VisitGrammar$Walk" "sequences" "LVisitGrammar$Sequences;") ∈ WS := List.mem_of_getElem? (i := 599) (by decide +kernel)
theorem k_600 : (Jvm.Cond.laysFinal "VisitGrammar$Walk" "VisitGrammar$Walk" "tree" "LVisitGrammar$Tree;") ∈ WS := List.mem_of_getElem? (i := 600) (by decide +kernel)
theorem k_601 : (Jvm.Cond.laysFinal "VisitGrammar$Walk" "VisitGrammar$Walk" "given" "[I") ∈ WS := List.mem_of_getElem? (i := 601) (by decide +kernel)
theorem k_602 : (Jvm.Cond.laysFinal "VisitGrammar$Walk" "VisitGrammar$Walk" "values" "[I") ∈ WS := List.mem_of_getElem? (i := 602) (by decide +kernel)
theorem k_603 : (Jvm.Cond.laysFinal "VisitGrammar$Walk" "VisitGrammar$Walk" "knownBits" "[I") ∈ WS := List.mem_of_getElem? (i := 603) (by decide +kernel)
theorem k_604 : (Jvm.Cond.laysFinal "VisitGrammar$Walk" "VisitGrammar$Walk" "instructionsDone" "[I") ∈ WS := List.mem_of_getElem? (i := 604) (by decide +kernel)
theorem k_605 : (Jvm.Cond.lays "VisitGrammar$Walk" "VisitGrammar$Walk" "state" "I") ∈ WS := List.mem_of_getElem? (i := 605) (by decide +kernel)
theorem k_606 : (Jvm.Cond.lays "VisitGrammar$Walk" "VisitGrammar$Walk" "root" "I") ∈ WS := List.mem_of_getElem? (i := 606) (by decide +kernel)
theorem k_607 : (Jvm.Cond.lays "VisitGrammar$Walk" "VisitGrammar$Walk" "nodeAtHand" "I") ∈ WS := List.mem_of_getElem? (i := 607) (by decide +kernel)
theorem k_608 : (Jvm.Cond.lays "VisitGrammarModel" "VisitGrammarModel" "code" "I") ∈ WS := List.mem_of_getElem? (i := 608) (by decide +kernel)
theorem k_609 : (Jvm.Cond.lays "VisitGrammarModel" "VisitGrammarModel" "symbols" "I") ∈ WS := List.mem_of_getElem? (i := 609) (by decide +kernel)
theorem k_610 : (Jvm.Cond.laysFinal "VisitGrammarModel" "VisitGrammarModel" "attributes" "[I") ∈ WS := List.mem_of_getElem? (i := 610) (by decide +kernel)
theorem k_611 : (Jvm.Cond.laysFinal "VisitGrammarModel" "VisitGrammarModel" "inherits" "[Z") ∈ WS := List.mem_of_getElem? (i := 611) (by decide +kernel)
theorem k_612 : (Jvm.Cond.lays "VisitGrammarModel" "VisitGrammarModel" "productions" "I") ∈ WS := List.mem_of_getElem? (i := 612) (by decide +kernel)
theorem k_613 : (Jvm.Cond.laysFinal "VisitGrammarModel" "VisitGrammarModel" "positions" "[I") ∈ WS := List.mem_of_getElem? (i := 613) (by decide +kernel)
theorem k_614 : (Jvm.Cond.laysFinal "VisitGrammarModel" "VisitGrammarModel" "symbolAt" "[I") ∈ WS := List.mem_of_getElem? (i := 614) (by decide +kernel)
theorem k_615 : (Jvm.Cond.laysFinal "VisitGrammarModel" "VisitGrammarModel" "form" "[I") ∈ WS := List.mem_of_getElem? (i := 615) (by decide +kernel)
theorem k_616 : (Jvm.Cond.laysFinal "VisitGrammarModel" "VisitGrammarModel" "ruleX" "[I") ∈ WS := List.mem_of_getElem? (i := 616) (by decide +kernel)
theorem k_617 : (Jvm.Cond.laysFinal "VisitGrammarModel" "VisitGrammarModel" "ruleY" "[I") ∈ WS := List.mem_of_getElem? (i := 617) (by decide +kernel)
theorem k_618 : (Jvm.Cond.lays "VisitGrammarModel" "VisitGrammarModel" "analysed" "Z") ∈ WS := List.mem_of_getElem? (i := 618) (by decide +kernel)
theorem k_619 : (Jvm.Cond.lays "VisitGrammarModel" "VisitGrammarModel" "faultKind" "I") ∈ WS := List.mem_of_getElem? (i := 619) (by decide +kernel)
theorem k_620 : (Jvm.Cond.lays "VisitGrammarModel" "VisitGrammarModel" "faultProduction" "I") ∈ WS := List.mem_of_getElem? (i := 620) (by decide +kernel)
theorem k_621 : (Jvm.Cond.lays "VisitGrammarModel" "VisitGrammarModel" "faultOccurrence" "I") ∈ WS := List.mem_of_getElem? (i := 621) (by decide +kernel)
theorem k_622 : (Jvm.Cond.laysFinal "VisitGrammarModel" "VisitGrammarModel" "uses" "[Z") ∈ WS := List.mem_of_getElem? (i := 622) (by decide +kernel)
theorem k_623 : (Jvm.Cond.laysFinal "VisitGrammarModel" "VisitGrammarModel" "leads" "[Z") ∈ WS := List.mem_of_getElem? (i := 623) (by decide +kernel)
theorem k_624 : (Jvm.Cond.laysFinal "VisitGrammarModel" "VisitGrammarModel" "symbolLeads" "[Z") ∈ WS := List.mem_of_getElem? (i := 624) (by decide +kernel)
theorem k_625 : (Jvm.Cond.laysFinal "VisitGrammarModel" "VisitGrammarModel" "order" "[Z") ∈ WS := List.mem_of_getElem? (i := 625) (by decide +kernel)
theorem k_626 : (Jvm.Cond.laysFinal "VisitGrammarModel" "VisitGrammarModel" "rank" "[I") ∈ WS := List.mem_of_getElem? (i := 626) (by decide +kernel)
theorem k_627 : (Jvm.Cond.laysFinal "VisitGrammarModel" "VisitGrammarModel" "visits" "[I") ∈ WS := List.mem_of_getElem? (i := 627) (by decide +kernel)
theorem k_628 : (Jvm.Cond.laysFinal "VisitGrammarModel" "VisitGrammarModel" "length" "[I") ∈ WS := List.mem_of_getElem? (i := 628) (by decide +kernel)
theorem k_629 : (Jvm.Cond.laysFinal "VisitGrammarModel" "VisitGrammarModel" "sequence" "[I") ∈ WS := List.mem_of_getElem? (i := 629) (by decide +kernel)
theorem k_630 : (Jvm.Cond.laysFinal "VisitGrammarModel" "VisitGrammarModel" "set" "[Z") ∈ WS := List.mem_of_getElem? (i := 630) (by decide +kernel)
theorem k_631 : (Jvm.Cond.laysFinal "VisitGrammarModel" "VisitGrammarModel" "visited" "[I") ∈ WS := List.mem_of_getElem? (i := 631) (by decide +kernel)
theorem k_632 : (Jvm.Cond.lays "VisitGrammarModel" "VisitGrammarModel" "nodes" "I") ∈ WS := List.mem_of_getElem? (i := 632) (by decide +kernel)
theorem k_633 : (Jvm.Cond.laysFinal "VisitGrammarModel" "VisitGrammarModel" "production" "[I") ∈ WS := List.mem_of_getElem? (i := 633) (by decide +kernel)
theorem k_634 : (Jvm.Cond.laysFinal "VisitGrammarModel" "VisitGrammarModel" "token" "[I") ∈ WS := List.mem_of_getElem? (i := 634) (by decide +kernel)
theorem k_635 : (Jvm.Cond.laysFinal "VisitGrammarModel" "VisitGrammarModel" "child" "[I") ∈ WS := List.mem_of_getElem? (i := 635) (by decide +kernel)
theorem k_636 : (Jvm.Cond.laysFinal "VisitGrammarModel" "VisitGrammarModel" "parent" "[I") ∈ WS := List.mem_of_getElem? (i := 636) (by decide +kernel)
theorem k_637 : (Jvm.Cond.laysFinal "VisitGrammarModel" "VisitGrammarModel" "next" "[I") ∈ WS := List.mem_of_getElem? (i := 637) (by decide +kernel)
theorem k_638 : (Jvm.Cond.laysFinal "VisitGrammarModel" "VisitGrammarModel" "known" "[Z") ∈ WS := List.mem_of_getElem? (i := 638) (by decide +kernel)
theorem k_639 : (Jvm.Cond.laysFinal "VisitGrammarModel" "VisitGrammarModel" "value" "[I") ∈ WS := List.mem_of_getElem? (i := 639) (by decide +kernel)
theorem k_640 : (Jvm.Cond.laysFinal "VisitGrammarModel" "VisitGrammarModel" "given" "[I") ∈ WS := List.mem_of_getElem? (i := 640) (by decide +kernel)
theorem k_641 : (Jvm.Cond.lays "VisitGrammarModel" "VisitGrammarModel" "root" "I") ∈ WS := List.mem_of_getElem? (i := 641) (by decide +kernel)
theorem k_642 : (Jvm.Cond.lays "VisitGrammarModel" "VisitGrammarModel" "hand" "I") ∈ WS := List.mem_of_getElem? (i := 642) (by decide +kernel)
theorem u_V : ∀ w ∈ u_ws R_V F_V 4, w ∈ WS := by decide +kernel
theorem n_V : ∀ a, a < 4 → ∀ b, b < 4 → a ≠ b → (F_V a).2.1 ≠ (F_V b).2.1 := by decide +kernel
theorem t_V_ok : ∀ k, k < 4 → parseFieldDescriptor (F_V k).2.2.1 = some (t_V k) := by decide +kernel
theorem z_V : ∀ j, j < 4 → defaultValue (t_V j) = vp_V [.null, .null, .null, .null] j := by decide +kernel
theorem u_G : ∀ w ∈ u_ws R_G F_G 13, w ∈ WS := by decide +kernel
theorem n_G : ∀ a, a < 13 → ∀ b, b < 13 → a ≠ b → (F_G a).2.1 ≠ (F_G b).2.1 := by decide +kernel
theorem t_G_ok : ∀ k, k < 13 → parseFieldDescriptor (F_G k).2.2.1 = some (t_G k) := by decide +kernel
theorem z_G : ∀ j, j < 13 → defaultValue (t_G j) = vp_V [.null, .null, .int 0, .null, .null, .null, .null, .int 0, .null, .null, .null, .null, .null] j := by decide +kernel
theorem u_A : ∀ w ∈ u_ws R_A F_A 8, w ∈ WS := by decide +kernel
theorem n_A : ∀ a, a < 8 → ∀ b, b < 8 → a ≠ b → (F_A a).2.1 ≠ (F_A b).2.1 := by decide +kernel
theorem t_A_ok : ∀ k, k < 8 → parseFieldDescriptor (F_A k).2.2.1 = some (t_A k) := by decide +kernel
theorem z_A : ∀ j, j < 8 → defaultValue (t_A j) = vp_V [.null, .null, .null, .null, .int 0, .int 0, .int 0, .int 0] j := by decide +kernel
theorem u_E : ∀ w ∈ u_ws R_E F_E 3, w ∈ WS := by decide +kernel
theorem n_E : ∀ a, a < 3 → ∀ b, b < 3 → a ≠ b → (F_E a).2.1 ≠ (F_E b).2.1 := by decide +kernel
theorem t_E_ok : ∀ k, k < 3 → parseFieldDescriptor (F_E k).2.2.1 = some (t_E k) := by decide +kernel
theorem z_E : ∀ j, j < 3 → defaultValue (t_E j) = vp_V [.null, .null, .null] j := by decide +kernel
theorem u_K : ∀ w ∈ u_ws R_K F_K 5, w ∈ WS := by decide +kernel
theorem n_K : ∀ a, a < 5 → ∀ b, b < 5 → a ≠ b → (F_K a).2.1 ≠ (F_K b).2.1 := by decide +kernel
theorem t_K_ok : ∀ k, k < 5 → parseFieldDescriptor (F_K k).2.2.1 = some (t_K k) := by decide +kernel
theorem z_K : ∀ j, j < 5 → defaultValue (t_K j) = vp_V [.null, .null, .null, .null, .null] j := by decide +kernel
theorem u_Q : ∀ w ∈ u_ws R_Q F_Q 7, w ∈ WS := by decide +kernel
theorem n_Q : ∀ a, a < 7 → ∀ b, b < 7 → a ≠ b → (F_Q a).2.1 ≠ (F_Q b).2.1 := by decide +kernel
theorem t_Q_ok : ∀ k, k < 7 → parseFieldDescriptor (F_Q k).2.2.1 = some (t_Q k) := by decide +kernel
theorem z_Q : ∀ j, j < 7 → defaultValue (t_Q j) = vp_V [.null, .null, .null, .null, .null, .int 0, .int 0] j := by decide +kernel
theorem u_Z : ∀ w ∈ u_ws R_Z F_Z 6, w ∈ WS := by decide +kernel
theorem n_Z : ∀ a, a < 6 → ∀ b, b < 6 → a ≠ b → (F_Z a).2.1 ≠ (F_Z b).2.1 := by decide +kernel
theorem t_Z_ok : ∀ k, k < 6 → parseFieldDescriptor (F_Z k).2.2.1 = some (t_Z k) := by decide +kernel
theorem z_Z : ∀ j, j < 6 → defaultValue (t_Z j) = vp_V [.null, .null, .null, .null, .null, .int 0] j := by decide +kernel
theorem u_U : ∀ w ∈ u_ws R_U F_U 10, w ∈ WS := by decide +kernel
theorem n_U : ∀ a, a < 10 → ∀ b, b < 10 → a ≠ b → (F_U a).2.1 ≠ (F_U b).2.1 := by decide +kernel
theorem t_U_ok : ∀ k, k < 10 → parseFieldDescriptor (F_U k).2.2.1 = some (t_U k) := by decide +kernel
theorem z_U : ∀ j, j < 10 → defaultValue (t_U j) = vp_V [.null, .null, .null, .null, .null, .null, .null, .int 0, .int 0, .int 0] j := by decide +kernel
theorem u_M : ∀ w ∈ u_ws R_M F_M 35, w ∈ WS := by decide +kernel
theorem n_M : ∀ a, a < 35 → ∀ b, b < 35 → a ≠ b → (F_M a).2.1 ≠ (F_M b).2.1 := by decide +kernel
theorem t_M_ok : ∀ k, k < 35 → parseFieldDescriptor (F_M k).2.2.1 = some (t_M k) := by decide +kernel
theorem z_M : ∀ j, j < 35 → defaultValue (t_M j) = vp_V [.int 0, .int 0, .null, .null, .int 0, .null, .null, .null, .null, .null, .int 0, .int 0, .int 0, .int 0, .null, .null, .null, .null, .null, .null, .null, .null, .null, .null, .int 0, .null, .null, .null, .null, .null, .null, .null, .null, .int 0, .int 0] j := by decide +kernel
def up_names : List String := ["java/lang/RuntimeException", "java/lang/Exception"]
end
section
set_option maxRecDepth 100000 in
theorem at_V_IllegalStateException_m : ∀ w ∈ Bundle.ownAtoms "VisitGrammar" 60 "java/lang/IllegalStateException" up_names, w ∈ WS ∨ w ∈ vq_sw := by decide +kernel
theorem at_V_IllegalStateException {args : Array Value} {s : State} (hts : ∀ w ∈ WS, w.before args s = true) (hst : vq_st s) : ∀ w ∈ Bundle.ownAtoms "VisitGrammar" 60 "java/lang/IllegalStateException" up_names, w.before args s = true := fun w hw => (at_V_IllegalStateException_m w hw).elim (hts w) (hst.use w)
set_option maxRecDepth 100000 in
theorem at_V_IndexOutOfBoundsException_m : ∀ w ∈ Bundle.ownAtoms "VisitGrammar" 94 "java/lang/IndexOutOfBoundsException" up_names, w ∈ WS ∨ w ∈ vq_sw := by decide +kernel
theorem at_V_IndexOutOfBoundsException {args : Array Value} {s : State} (hts : ∀ w ∈ WS, w.before args s = true) (hst : vq_st s) : ∀ w ∈ Bundle.ownAtoms "VisitGrammar" 94 "java/lang/IndexOutOfBoundsException" up_names, w.before args s = true := fun w hw => (at_V_IndexOutOfBoundsException_m w hw).elim (hts w) (hst.use w)
set_option maxRecDepth 100000 in
theorem at_V_IllegalArgumentException_m : ∀ w ∈ Bundle.ownAtoms "VisitGrammar" 49 "java/lang/IllegalArgumentException" up_names, w ∈ WS ∨ w ∈ vq_sw := by decide +kernel
theorem at_V_IllegalArgumentException {args : Array Value} {s : State} (hts : ∀ w ∈ WS, w.before args s = true) (hst : vq_st s) : ∀ w ∈ Bundle.ownAtoms "VisitGrammar" 49 "java/lang/IllegalArgumentException" up_names, w.before args s = true := fun w hw => (at_V_IllegalArgumentException_m w hw).elim (hts w) (hst.use w)
end
section
theorem vq_known {args : Array Value} {s : State} (hts : ∀ w ∈ WS, w.before args s = true) : ∃ D : va_G, va_K D CL [] s := by
  obtain ⟨c0, i0, h0⟩ := u_known hts u_V (hts _ k_441)
  obtain ⟨c1, i1, h1⟩ := u_known hts u_G (hts _ k_77)
  obtain ⟨c2, i2, h2⟩ := u_known hts u_A (hts _ k_83)
  obtain ⟨c3, i3, h3⟩ := u_known hts u_E (hts _ k_41)
  obtain ⟨c4, i4, h4⟩ := u_known hts u_K (hts _ k_47)
  obtain ⟨c5, i5, h5⟩ := u_known hts u_Q (hts _ k_53)
  obtain ⟨c6, i6, h6⟩ := u_known hts u_Z (hts _ k_89)
  obtain ⟨c7, i7, h7⟩ := u_known hts u_U (hts _ k_95)
  obtain ⟨c8, i8, h8⟩ := u_known hts u_M (hts _ k_445)
  refine ⟨((fun k : Nat => match k with | 0 => c0 | 1 => c1 | 2 => c2 | 3 => c3 | 4 => c4 | 5 => c5 | 6 => c6 | 7 => c7 | _ => c8), (fun k : Nat => match k with | 0 => i0 | 1 => i1 | 2 => i2 | 3 => i3 | 4 => i4 | 5 => i5 | 6 => i6 | 7 => i7 | _ => i8)), ?_, fun k q h => by simp at h⟩
  intro c q hq
  match c, hq with
  | 0, hq => cases hq; exact h0
  | 1, hq => cases hq; exact h1
  | 2, hq => cases hq; exact h2
  | 3, hq => cases hq; exact h3
  | 4, hq => cases hq; exact h4
  | 5, hq => cases hq; exact h5
  | 6, hq => cases hq; exact h6
  | 7, hq => cases hq; exact h7
  | 8, hq => cases hq; exact h8
  | n + 9, hq => exact absurd hq (by simp [CL])
end
section
theorem d_G_init_0 : decode prog_3_method_1_code 0 = .ok (.aload_n 0, 1) := by decide +kernel
theorem d_G_init_1 : decode prog_3_method_1_code 1 = .ok (.invokespecial 3, 3) := by decide +kernel
theorem d_G_init_4 : decode prog_3_method_1_code 4 = .ok (.aload_n 0, 1) := by decide +kernel
theorem d_G_init_5 : decode prog_3_method_1_code 5 = .ok (.bipush 6, 2) := by decide +kernel
theorem d_G_init_7 : decode prog_3_method_1_code 7 = .ok (.newarray .int, 2) := by decide +kernel
theorem d_G_init_9 : decode prog_3_method_1_code 9 = .ok (.putfield 9, 3) := by decide +kernel
theorem d_G_init_12 : decode prog_3_method_1_code 12 = .ok (.aload_n 0, 1) := by decide +kernel
theorem d_G_init_13 : decode prog_3_method_1_code 13 = .ok (.bipush 6, 2) := by decide +kernel
theorem d_G_init_15 : decode prog_3_method_1_code 15 = .ok (.newarray .int, 2) := by decide +kernel
theorem d_G_init_17 : decode prog_3_method_1_code 17 = .ok (.putfield 15, 3) := by decide +kernel
theorem d_G_init_20 : decode prog_3_method_1_code 20 = .ok (.aload_n 0, 1) := by decide +kernel
theorem d_G_init_21 : decode prog_3_method_1_code 21 = .ok (.bipush 40, 2) := by decide +kernel
theorem d_G_init_23 : decode prog_3_method_1_code 23 = .ok (.newarray .int, 2) := by decide +kernel
theorem d_G_init_25 : decode prog_3_method_1_code 25 = .ok (.putfield 18, 3) := by decide +kernel
theorem d_G_init_28 : decode prog_3_method_1_code 28 = .ok (.aload_n 0, 1) := by decide +kernel
theorem d_G_init_29 : decode prog_3_method_1_code 29 = .ok (.bipush 10, 2) := by decide +kernel
theorem d_G_init_31 : decode prog_3_method_1_code 31 = .ok (.newarray .int, 2) := by decide +kernel
theorem d_G_init_33 : decode prog_3_method_1_code 33 = .ok (.putfield 21, 3) := by decide +kernel
theorem d_G_init_36 : decode prog_3_method_1_code 36 = .ok (.aload_n 0, 1) := by decide +kernel
theorem d_G_init_37 : decode prog_3_method_1_code 37 = .ok (.bipush 10, 2) := by decide +kernel
theorem d_G_init_39 : decode prog_3_method_1_code 39 = .ok (.newarray .int, 2) := by decide +kernel
theorem d_G_init_41 : decode prog_3_method_1_code 41 = .ok (.putfield 24, 3) := by decide +kernel
theorem d_G_init_44 : decode prog_3_method_1_code 44 = .ok (.aload_n 0, 1) := by decide +kernel
theorem d_G_init_45 : decode prog_3_method_1_code 45 = .ok (.bipush 10, 2) := by decide +kernel
theorem d_G_init_47 : decode prog_3_method_1_code 47 = .ok (.newarray .int, 2) := by decide +kernel
theorem d_G_init_49 : decode prog_3_method_1_code 49 = .ok (.putfield 27, 3) := by decide +kernel
theorem d_G_init_52 : decode prog_3_method_1_code 52 = .ok (.aload_n 0, 1) := by decide +kernel
theorem d_G_init_53 : decode prog_3_method_1_code 53 = .ok (.bipush 10, 2) := by decide +kernel
theorem d_G_init_55 : decode prog_3_method_1_code 55 = .ok (.newarray .int, 2) := by decide +kernel
theorem d_G_init_57 : decode prog_3_method_1_code 57 = .ok (.putfield 30, 3) := by decide +kernel
theorem d_G_init_60 : decode prog_3_method_1_code 60 = .ok (.aload_n 0, 1) := by decide +kernel
theorem d_G_init_61 : decode prog_3_method_1_code 61 = .ok (.sipush 160, 3) := by decide +kernel
theorem d_G_init_64 : decode prog_3_method_1_code 64 = .ok (.newarray .int, 2) := by decide +kernel
theorem d_G_init_66 : decode prog_3_method_1_code 66 = .ok (.putfield 33, 3) := by decide +kernel
theorem d_G_init_69 : decode prog_3_method_1_code 69 = .ok (.aload_n 0, 1) := by decide +kernel
theorem d_G_init_70 : decode prog_3_method_1_code 70 = .ok (.sipush 160, 3) := by decide +kernel
theorem d_G_init_73 : decode prog_3_method_1_code 73 = .ok (.newarray .int, 2) := by decide +kernel
theorem d_G_init_75 : decode prog_3_method_1_code 75 = .ok (.putfield 36, 3) := by decide +kernel
theorem d_G_init_78 : decode prog_3_method_1_code 78 = .ok (.aload_n 0, 1) := by decide +kernel
theorem d_G_init_79 : decode prog_3_method_1_code 79 = .ok (.sipush 160, 3) := by decide +kernel
theorem d_G_init_82 : decode prog_3_method_1_code 82 = .ok (.newarray .int, 2) := by decide +kernel
theorem d_G_init_84 : decode prog_3_method_1_code 84 = .ok (.putfield 39, 3) := by decide +kernel
theorem d_G_init_87 : decode prog_3_method_1_code 87 = .ok (.aload_n 0, 1) := by decide +kernel
theorem d_G_init_88 : decode prog_3_method_1_code 88 = .ok (.sipush 160, 3) := by decide +kernel
theorem d_G_init_91 : decode prog_3_method_1_code 91 = .ok (.newarray .int, 2) := by decide +kernel
theorem d_G_init_93 : decode prog_3_method_1_code 93 = .ok (.putfield 42, 3) := by decide +kernel
theorem d_G_init_96 : decode prog_3_method_1_code 96 = .ok (.return_, 1) := by decide +kernel
theorem d_E_init_0 : decode prog_4_method_1_code 0 = .ok (.aload_n 0, 1) := by decide +kernel
theorem d_E_init_1 : decode prog_4_method_1_code 1 = .ok (.invokespecial 3, 3) := by decide +kernel
theorem d_E_init_4 : decode prog_4_method_1_code 4 = .ok (.aload_n 0, 1) := by decide +kernel
theorem d_E_init_5 : decode prog_4_method_1_code 5 = .ok (.sipush 160, 3) := by decide +kernel
theorem d_E_init_8 : decode prog_4_method_1_code 8 = .ok (.newarray .int, 2) := by decide +kernel
theorem d_E_init_10 : decode prog_4_method_1_code 10 = .ok (.putfield 9, 3) := by decide +kernel
theorem d_E_init_13 : decode prog_4_method_1_code 13 = .ok (.aload_n 0, 1) := by decide +kernel
theorem d_E_init_14 : decode prog_4_method_1_code 14 = .ok (.bipush 24, 2) := by decide +kernel
theorem d_E_init_16 : decode prog_4_method_1_code 16 = .ok (.newarray .int, 2) := by decide +kernel
theorem d_E_init_18 : decode prog_4_method_1_code 18 = .ok (.putfield 15, 3) := by decide +kernel
theorem d_E_init_21 : decode prog_4_method_1_code 21 = .ok (.aload_n 0, 1) := by decide +kernel
theorem d_E_init_22 : decode prog_4_method_1_code 22 = .ok (.aload_n 1, 1) := by decide +kernel
theorem d_E_init_23 : decode prog_4_method_1_code 23 = .ok (.putfield 18, 3) := by decide +kernel
theorem d_E_init_26 : decode prog_4_method_1_code 26 = .ok (.return_, 1) := by decide +kernel
theorem d_K_init_0 : decode prog_5_method_1_code 0 = .ok (.aload_n 0, 1) := by decide +kernel
theorem d_K_init_1 : decode prog_5_method_1_code 1 = .ok (.invokespecial 3, 3) := by decide +kernel
theorem d_K_init_4 : decode prog_5_method_1_code 4 = .ok (.aload_n 0, 1) := by decide +kernel
theorem d_K_init_5 : decode prog_5_method_1_code 5 = .ok (.bipush 24, 2) := by decide +kernel
theorem d_K_init_7 : decode prog_5_method_1_code 7 = .ok (.newarray .int, 2) := by decide +kernel
theorem d_K_init_9 : decode prog_5_method_1_code 9 = .ok (.putfield 9, 3) := by decide +kernel
theorem d_K_init_12 : decode prog_5_method_1_code 12 = .ok (.aload_n 0, 1) := by decide +kernel
theorem d_K_init_13 : decode prog_5_method_1_code 13 = .ok (.bipush 6, 2) := by decide +kernel
theorem d_K_init_15 : decode prog_5_method_1_code 15 = .ok (.newarray .int, 2) := by decide +kernel
theorem d_K_init_17 : decode prog_5_method_1_code 17 = .ok (.putfield 15, 3) := by decide +kernel
theorem d_K_init_20 : decode prog_5_method_1_code 20 = .ok (.aload_n 0, 1) := by decide +kernel
theorem d_K_init_21 : decode prog_5_method_1_code 21 = .ok (.bipush 24, 2) := by decide +kernel
theorem d_K_init_23 : decode prog_5_method_1_code 23 = .ok (.newarray .int, 2) := by decide +kernel
theorem d_K_init_25 : decode prog_5_method_1_code 25 = .ok (.putfield 18, 3) := by decide +kernel
theorem d_K_init_28 : decode prog_5_method_1_code 28 = .ok (.aload_n 0, 1) := by decide +kernel
theorem d_K_init_29 : decode prog_5_method_1_code 29 = .ok (.aload_n 1, 1) := by decide +kernel
theorem d_K_init_30 : decode prog_5_method_1_code 30 = .ok (.putfield 21, 3) := by decide +kernel
theorem d_K_init_33 : decode prog_5_method_1_code 33 = .ok (.aload_n 0, 1) := by decide +kernel
theorem d_K_init_34 : decode prog_5_method_1_code 34 = .ok (.aload_n 2, 1) := by decide +kernel
theorem d_K_init_35 : decode prog_5_method_1_code 35 = .ok (.putfield 25, 3) := by decide +kernel
theorem d_K_init_38 : decode prog_5_method_1_code 38 = .ok (.return_, 1) := by decide +kernel
theorem d_Q_init_0 : decode prog_6_method_1_code 0 = .ok (.aload_n 0, 1) := by decide +kernel
theorem d_Q_init_1 : decode prog_6_method_1_code 1 = .ok (.invokespecial 3, 3) := by decide +kernel
theorem d_Q_init_4 : decode prog_6_method_1_code 4 = .ok (.aload_n 0, 1) := by decide +kernel
theorem d_Q_init_5 : decode prog_6_method_1_code 5 = .ok (.sipush 320, 3) := by decide +kernel
theorem d_Q_init_8 : decode prog_6_method_1_code 8 = .ok (.newarray .int, 2) := by decide +kernel
theorem d_Q_init_10 : decode prog_6_method_1_code 10 = .ok (.putfield 11, 3) := by decide +kernel
theorem d_Q_init_13 : decode prog_6_method_1_code 13 = .ok (.aload_n 0, 1) := by decide +kernel
theorem d_Q_init_14 : decode prog_6_method_1_code 14 = .ok (.bipush 10, 2) := by decide +kernel
theorem d_Q_init_16 : decode prog_6_method_1_code 16 = .ok (.newarray .int, 2) := by decide +kernel
theorem d_Q_init_18 : decode prog_6_method_1_code 18 = .ok (.putfield 15, 3) := by decide +kernel
theorem d_Q_init_21 : decode prog_6_method_1_code 21 = .ok (.aload_n 0, 1) := by decide +kernel
theorem d_Q_init_22 : decode prog_6_method_1_code 22 = .ok (.iconst 4, 1) := by decide +kernel
theorem d_Q_init_23 : decode prog_6_method_1_code 23 = .ok (.newarray .int, 2) := by decide +kernel
theorem d_Q_init_25 : decode prog_6_method_1_code 25 = .ok (.putfield 18, 3) := by decide +kernel
theorem d_Q_init_28 : decode prog_6_method_1_code 28 = .ok (.aload_n 0, 1) := by decide +kernel
theorem d_Q_init_29 : decode prog_6_method_1_code 29 = .ok (.aload_n 1, 1) := by decide +kernel
theorem d_Q_init_30 : decode prog_6_method_1_code 30 = .ok (.putfield 21, 3) := by decide +kernel
theorem d_Q_init_33 : decode prog_6_method_1_code 33 = .ok (.aload_n 0, 1) := by decide +kernel
theorem d_Q_init_34 : decode prog_6_method_1_code 34 = .ok (.aload_n 2, 1) := by decide +kernel
theorem d_Q_init_35 : decode prog_6_method_1_code 35 = .ok (.putfield 25, 3) := by decide +kernel
theorem d_Q_init_38 : decode prog_6_method_1_code 38 = .ok (.return_, 1) := by decide +kernel
theorem d_A_init_0 : decode prog_2_method_1_code 0 = .ok (.aload_n 0, 1) := by decide +kernel
theorem d_A_init_1 : decode prog_2_method_1_code 1 = .ok (.invokespecial 3, 3) := by decide +kernel
theorem d_A_init_4 : decode prog_2_method_1_code 4 = .ok (.aload_n 0, 1) := by decide +kernel
theorem d_A_init_5 : decode prog_2_method_1_code 5 = .ok (.iconst (-1), 1) := by decide +kernel
theorem d_A_init_6 : decode prog_2_method_1_code 6 = .ok (.putfield 9, 3) := by decide +kernel
theorem d_A_init_9 : decode prog_2_method_1_code 9 = .ok (.aload_n 0, 1) := by decide +kernel
theorem d_A_init_10 : decode prog_2_method_1_code 10 = .ok (.iconst (-1), 1) := by decide +kernel
theorem d_A_init_11 : decode prog_2_method_1_code 11 = .ok (.putfield 15, 3) := by decide +kernel
theorem d_A_init_14 : decode prog_2_method_1_code 14 = .ok (.aload_n 0, 1) := by decide +kernel
theorem d_A_init_15 : decode prog_2_method_1_code 15 = .ok (.aload_n 1, 1) := by decide +kernel
theorem d_A_init_16 : decode prog_2_method_1_code 16 = .ok (.putfield 18, 3) := by decide +kernel
theorem d_A_init_19 : decode prog_2_method_1_code 19 = .ok (.aload_n 0, 1) := by decide +kernel
theorem d_A_init_20 : decode prog_2_method_1_code 20 = .ok (.new 22, 3) := by decide +kernel
theorem d_A_init_23 : decode prog_2_method_1_code 23 = .ok (.dup, 1) := by decide +kernel
theorem d_A_init_24 : decode prog_2_method_1_code 24 = .ok (.aload_n 1, 1) := by decide +kernel
theorem d_A_init_25 : decode prog_2_method_1_code 25 = .ok (.invokespecial 24, 3) := by decide +kernel
theorem d_A_init_28 : decode prog_2_method_1_code 28 = .ok (.putfield 27, 3) := by decide +kernel
theorem d_A_init_31 : decode prog_2_method_1_code 31 = .ok (.aload_n 0, 1) := by decide +kernel
theorem d_A_init_32 : decode prog_2_method_1_code 32 = .ok (.new 31, 3) := by decide +kernel
theorem d_A_init_35 : decode prog_2_method_1_code 35 = .ok (.dup, 1) := by decide +kernel
theorem d_A_init_36 : decode prog_2_method_1_code 36 = .ok (.aload_n 1, 1) := by decide +kernel
theorem d_A_init_37 : decode prog_2_method_1_code 37 = .ok (.aload_n 0, 1) := by decide +kernel
theorem d_A_init_38 : decode prog_2_method_1_code 38 = .ok (.getfield 27, 3) := by decide +kernel
theorem d_A_init_41 : decode prog_2_method_1_code 41 = .ok (.invokespecial 33, 3) := by decide +kernel
theorem d_A_init_44 : decode prog_2_method_1_code 44 = .ok (.putfield 36, 3) := by decide +kernel
theorem d_A_init_47 : decode prog_2_method_1_code 47 = .ok (.aload_n 0, 1) := by decide +kernel
theorem d_A_init_48 : decode prog_2_method_1_code 48 = .ok (.new 40, 3) := by decide +kernel
theorem d_A_init_51 : decode prog_2_method_1_code 51 = .ok (.dup, 1) := by decide +kernel
theorem d_A_init_52 : decode prog_2_method_1_code 52 = .ok (.aload_n 1, 1) := by decide +kernel
theorem d_A_init_53 : decode prog_2_method_1_code 53 = .ok (.aload_n 0, 1) := by decide +kernel
theorem d_A_init_54 : decode prog_2_method_1_code 54 = .ok (.getfield 36, 3) := by decide +kernel
theorem d_A_init_57 : decode prog_2_method_1_code 57 = .ok (.invokespecial 42, 3) := by decide +kernel
theorem d_A_init_60 : decode prog_2_method_1_code 60 = .ok (.putfield 45, 3) := by decide +kernel
theorem d_A_init_63 : decode prog_2_method_1_code 63 = .ok (.return_, 1) := by decide +kernel
theorem d_Z_init_0 : decode prog_7_method_1_code 0 = .ok (.aload_n 0, 1) := by decide +kernel
theorem d_Z_init_1 : decode prog_7_method_1_code 1 = .ok (.invokespecial 3, 3) := by decide +kernel
theorem d_Z_init_4 : decode prog_7_method_1_code 4 = .ok (.aload_n 0, 1) := by decide +kernel
theorem d_Z_init_5 : decode prog_7_method_1_code 5 = .ok (.bipush 40, 2) := by decide +kernel
theorem d_Z_init_7 : decode prog_7_method_1_code 7 = .ok (.newarray .int, 2) := by decide +kernel
theorem d_Z_init_9 : decode prog_7_method_1_code 9 = .ok (.putfield 9, 3) := by decide +kernel
theorem d_Z_init_12 : decode prog_7_method_1_code 12 = .ok (.aload_n 0, 1) := by decide +kernel
theorem d_Z_init_13 : decode prog_7_method_1_code 13 = .ok (.bipush 40, 2) := by decide +kernel
theorem d_Z_init_15 : decode prog_7_method_1_code 15 = .ok (.newarray .int, 2) := by decide +kernel
theorem d_Z_init_17 : decode prog_7_method_1_code 17 = .ok (.putfield 15, 3) := by decide +kernel
theorem d_Z_init_20 : decode prog_7_method_1_code 20 = .ok (.aload_n 0, 1) := by decide +kernel
theorem d_Z_init_21 : decode prog_7_method_1_code 21 = .ok (.bipush 40, 2) := by decide +kernel
theorem d_Z_init_23 : decode prog_7_method_1_code 23 = .ok (.newarray .int, 2) := by decide +kernel
theorem d_Z_init_25 : decode prog_7_method_1_code 25 = .ok (.putfield 18, 3) := by decide +kernel
theorem d_Z_init_28 : decode prog_7_method_1_code 28 = .ok (.aload_n 0, 1) := by decide +kernel
theorem d_Z_init_29 : decode prog_7_method_1_code 29 = .ok (.sipush 160, 3) := by decide +kernel
theorem d_Z_init_32 : decode prog_7_method_1_code 32 = .ok (.newarray .int, 2) := by decide +kernel
theorem d_Z_init_34 : decode prog_7_method_1_code 34 = .ok (.putfield 21, 3) := by decide +kernel
theorem d_Z_init_37 : decode prog_7_method_1_code 37 = .ok (.aload_n 0, 1) := by decide +kernel
theorem d_Z_init_38 : decode prog_7_method_1_code 38 = .ok (.aload_n 1, 1) := by decide +kernel
theorem d_Z_init_39 : decode prog_7_method_1_code 39 = .ok (.putfield 24, 3) := by decide +kernel
theorem d_Z_init_42 : decode prog_7_method_1_code 42 = .ok (.return_, 1) := by decide +kernel
theorem d_U_init_0 : decode prog_8_method_1_code 0 = .ok (.aload_n 0, 1) := by decide +kernel
theorem d_U_init_1 : decode prog_8_method_1_code 1 = .ok (.invokespecial 3, 3) := by decide +kernel
theorem d_U_init_4 : decode prog_8_method_1_code 4 = .ok (.aload_n 0, 1) := by decide +kernel
theorem d_U_init_5 : decode prog_8_method_1_code 5 = .ok (.iconst 4, 1) := by decide +kernel
theorem d_U_init_6 : decode prog_8_method_1_code 6 = .ok (.newarray .int, 2) := by decide +kernel
theorem d_U_init_8 : decode prog_8_method_1_code 8 = .ok (.putfield 9, 3) := by decide +kernel
theorem d_U_init_11 : decode prog_8_method_1_code 11 = .ok (.aload_n 0, 1) := by decide +kernel
theorem d_U_init_12 : decode prog_8_method_1_code 12 = .ok (.sipush 160, 3) := by decide +kernel
theorem d_U_init_15 : decode prog_8_method_1_code 15 = .ok (.newarray .int, 2) := by decide +kernel
theorem d_U_init_17 : decode prog_8_method_1_code 17 = .ok (.putfield 15, 3) := by decide +kernel
theorem d_U_init_20 : decode prog_8_method_1_code 20 = .ok (.aload_n 0, 1) := by decide +kernel
theorem d_U_init_21 : decode prog_8_method_1_code 21 = .ok (.bipush 40, 2) := by decide +kernel
theorem d_U_init_23 : decode prog_8_method_1_code 23 = .ok (.newarray .int, 2) := by decide +kernel
theorem d_U_init_25 : decode prog_8_method_1_code 25 = .ok (.putfield 18, 3) := by decide +kernel
theorem d_U_init_28 : decode prog_8_method_1_code 28 = .ok (.aload_n 0, 1) := by decide +kernel
theorem d_U_init_29 : decode prog_8_method_1_code 29 = .ok (.bipush 40, 2) := by decide +kernel
theorem d_U_init_31 : decode prog_8_method_1_code 31 = .ok (.newarray .int, 2) := by decide +kernel
theorem d_U_init_33 : decode prog_8_method_1_code 33 = .ok (.putfield 21, 3) := by decide +kernel
theorem d_U_init_36 : decode prog_8_method_1_code 36 = .ok (.aload_n 0, 1) := by decide +kernel
theorem d_U_init_37 : decode prog_8_method_1_code 37 = .ok (.aload_n 1, 1) := by decide +kernel
theorem d_U_init_38 : decode prog_8_method_1_code 38 = .ok (.putfield 24, 3) := by decide +kernel
theorem d_U_init_41 : decode prog_8_method_1_code 41 = .ok (.aload_n 0, 1) := by decide +kernel
theorem d_U_init_42 : decode prog_8_method_1_code 42 = .ok (.aload_n 2, 1) := by decide +kernel
theorem d_U_init_43 : decode prog_8_method_1_code 43 = .ok (.putfield 28, 3) := by decide +kernel
theorem d_U_init_46 : decode prog_8_method_1_code 46 = .ok (.aload_n 0, 1) := by decide +kernel
theorem d_U_init_47 : decode prog_8_method_1_code 47 = .ok (.aload_n 3, 1) := by decide +kernel
theorem d_U_init_48 : decode prog_8_method_1_code 48 = .ok (.putfield 32, 3) := by decide +kernel
theorem d_U_init_51 : decode prog_8_method_1_code 51 = .ok (.return_, 1) := by decide +kernel
theorem d_V_init_0 : decode prog_1_method_1_code 0 = .ok (.aload_n 0, 1) := by decide +kernel
theorem d_V_init_1 : decode prog_1_method_1_code 1 = .ok (.invokespecial 3, 3) := by decide +kernel
theorem d_V_init_4 : decode prog_1_method_1_code 4 = .ok (.aload_n 0, 1) := by decide +kernel
theorem d_V_init_5 : decode prog_1_method_1_code 5 = .ok (.new 9, 3) := by decide +kernel
theorem d_V_init_8 : decode prog_1_method_1_code 8 = .ok (.dup, 1) := by decide +kernel
theorem d_V_init_9 : decode prog_1_method_1_code 9 = .ok (.invokespecial 11, 3) := by decide +kernel
theorem d_V_init_12 : decode prog_1_method_1_code 12 = .ok (.putfield 12, 3) := by decide +kernel
theorem d_V_init_15 : decode prog_1_method_1_code 15 = .ok (.aload_n 0, 1) := by decide +kernel
theorem d_V_init_16 : decode prog_1_method_1_code 16 = .ok (.new 16, 3) := by decide +kernel
theorem d_V_init_19 : decode prog_1_method_1_code 19 = .ok (.dup, 1) := by decide +kernel
theorem d_V_init_20 : decode prog_1_method_1_code 20 = .ok (.aload_n 0, 1) := by decide +kernel
theorem d_V_init_21 : decode prog_1_method_1_code 21 = .ok (.getfield 12, 3) := by decide +kernel
theorem d_V_init_24 : decode prog_1_method_1_code 24 = .ok (.invokespecial 18, 3) := by decide +kernel
end
section
theorem d_V_init_27 : decode prog_1_method_1_code 27 = .ok (.putfield 21, 3) := by decide +kernel
theorem d_V_init_30 : decode prog_1_method_1_code 30 = .ok (.aload_n 0, 1) := by decide +kernel
theorem d_V_init_31 : decode prog_1_method_1_code 31 = .ok (.new 25, 3) := by decide +kernel
theorem d_V_init_34 : decode prog_1_method_1_code 34 = .ok (.dup, 1) := by decide +kernel
theorem d_V_init_35 : decode prog_1_method_1_code 35 = .ok (.aload_n 0, 1) := by decide +kernel
theorem d_V_init_36 : decode prog_1_method_1_code 36 = .ok (.getfield 12, 3) := by decide +kernel
theorem d_V_init_39 : decode prog_1_method_1_code 39 = .ok (.invokespecial 27, 3) := by decide +kernel
theorem d_V_init_42 : decode prog_1_method_1_code 42 = .ok (.putfield 28, 3) := by decide +kernel
theorem d_V_init_45 : decode prog_1_method_1_code 45 = .ok (.aload_n 0, 1) := by decide +kernel
theorem d_V_init_46 : decode prog_1_method_1_code 46 = .ok (.new 32, 3) := by decide +kernel
theorem d_V_init_49 : decode prog_1_method_1_code 49 = .ok (.dup, 1) := by decide +kernel
theorem d_V_init_50 : decode prog_1_method_1_code 50 = .ok (.aload_n 0, 1) := by decide +kernel
theorem d_V_init_51 : decode prog_1_method_1_code 51 = .ok (.getfield 12, 3) := by decide +kernel
theorem d_V_init_54 : decode prog_1_method_1_code 54 = .ok (.aload_n 0, 1) := by decide +kernel
theorem d_V_init_55 : decode prog_1_method_1_code 55 = .ok (.getfield 21, 3) := by decide +kernel
theorem d_V_init_58 : decode prog_1_method_1_code 58 = .ok (.getfield 34, 3) := by decide +kernel
theorem d_V_init_61 : decode prog_1_method_1_code 61 = .ok (.aload_n 0, 1) := by decide +kernel
theorem d_V_init_62 : decode prog_1_method_1_code 62 = .ok (.getfield 28, 3) := by decide +kernel
theorem d_V_init_65 : decode prog_1_method_1_code 65 = .ok (.invokespecial 38, 3) := by decide +kernel
theorem d_V_init_68 : decode prog_1_method_1_code 68 = .ok (.putfield 41, 3) := by decide +kernel
theorem d_V_init_71 : decode prog_1_method_1_code 71 = .ok (.return_, 1) := by decide +kernel
theorem d_U_end_0 : decode prog_8_method_3_code 0 = .ok (.aload_n 0, 1) := by decide +kernel
theorem d_U_end_1 : decode prog_8_method_3_code 1 = .ok (.iconst 0, 1) := by decide +kernel
theorem d_U_end_2 : decode prog_8_method_3_code 2 = .ok (.putfield 66, 3) := by decide +kernel
theorem d_U_end_5 : decode prog_8_method_3_code 5 = .ok (.return_, 1) := by decide +kernel
theorem d_V_dropAnalysis_0 : decode prog_1_method_19_code 0 = .ok (.aload_n 0, 1) := by decide +kernel
theorem d_V_dropAnalysis_1 : decode prog_1_method_19_code 1 = .ok (.getfield 21, 3) := by decide +kernel
theorem d_V_dropAnalysis_4 : decode prog_1_method_19_code 4 = .ok (.iconst 0, 1) := by decide +kernel
theorem d_V_dropAnalysis_5 : decode prog_1_method_19_code 5 = .ok (.putfield 125, 3) := by decide +kernel
theorem d_V_dropAnalysis_8 : decode prog_1_method_19_code 8 = .ok (.aload_n 0, 1) := by decide +kernel
theorem d_V_dropAnalysis_9 : decode prog_1_method_19_code 9 = .ok (.getfield 41, 3) := by decide +kernel
theorem d_V_dropAnalysis_12 : decode prog_1_method_19_code 12 = .ok (.invokevirtual 111, 3) := by decide +kernel
theorem d_V_dropAnalysis_15 : decode prog_1_method_19_code 15 = .ok (.return_, 1) := by decide +kernel
theorem d_V_requireAnalysis_0 : decode prog_1_method_20_code 0 = .ok (.aload_n 0, 1) := by decide +kernel
theorem d_V_requireAnalysis_1 : decode prog_1_method_20_code 1 = .ok (.getfield 21, 3) := by decide +kernel
theorem d_V_requireAnalysis_4 : decode prog_1_method_20_code 4 = .ok (.getfield 125, 3) := by decide +kernel
theorem d_V_requireAnalysis_7 : decode prog_1_method_20_code 7 = .ok (.ifCond .ne 13, 3) := by decide +kernel
theorem d_V_requireAnalysis_10 : decode prog_1_method_20_code 10 = .ok (.new 56, 3) := by decide +kernel
theorem d_V_requireAnalysis_13 : decode prog_1_method_20_code 13 = .ok (.dup, 1) := by decide +kernel
theorem d_V_requireAnalysis_14 : decode prog_1_method_20_code 14 = .ok (.ldc 228, 2) := by decide +kernel
theorem d_V_requireAnalysis_16 : decode prog_1_method_20_code 16 = .ok (.invokespecial 60, 3) := by decide +kernel
theorem d_V_requireAnalysis_19 : decode prog_1_method_20_code 19 = .ok (.athrow, 1) := by decide +kernel
theorem d_G_hasSymbol_0 : decode prog_3_method_2_code 0 = .ok (.iload_n 1, 1) := by decide +kernel
theorem d_G_hasSymbol_1 : decode prog_3_method_2_code 1 = .ok (.ifCond .lt 15, 3) := by decide +kernel
theorem d_G_hasSymbol_16 : decode prog_3_method_2_code 16 = .ok (.iconst 0, 1) := by decide +kernel
theorem d_G_hasSymbol_17 : decode prog_3_method_2_code 17 = .ok (.ireturn, 1) := by decide +kernel
theorem d_G_hasSymbol_4 : decode prog_3_method_2_code 4 = .ok (.iload_n 1, 1) := by decide +kernel
theorem d_G_hasSymbol_5 : decode prog_3_method_2_code 5 = .ok (.aload_n 0, 1) := by decide +kernel
theorem d_G_hasSymbol_6 : decode prog_3_method_2_code 6 = .ok (.getfield 45, 3) := by decide +kernel
theorem d_G_hasSymbol_9 : decode prog_3_method_2_code 9 = .ok (.if_icmp .ge 7, 3) := by decide +kernel
theorem d_G_hasProduction_0 : decode prog_3_method_4_code 0 = .ok (.iload_n 1, 1) := by decide +kernel
theorem d_G_hasProduction_1 : decode prog_3_method_4_code 1 = .ok (.ifCond .lt 15, 3) := by decide +kernel
theorem d_G_hasProduction_16 : decode prog_3_method_4_code 16 = .ok (.iconst 0, 1) := by decide +kernel
theorem d_G_hasProduction_17 : decode prog_3_method_4_code 17 = .ok (.ireturn, 1) := by decide +kernel
theorem d_G_hasProduction_4 : decode prog_3_method_4_code 4 = .ok (.iload_n 1, 1) := by decide +kernel
theorem d_G_hasProduction_5 : decode prog_3_method_4_code 5 = .ok (.aload_n 0, 1) := by decide +kernel
theorem d_G_hasProduction_6 : decode prog_3_method_4_code 6 = .ok (.getfield 49, 3) := by decide +kernel
theorem d_G_hasProduction_9 : decode prog_3_method_4_code 9 = .ok (.if_icmp .ge 7, 3) := by decide +kernel
theorem d_Z_hasNode_0 : decode prog_7_method_2_code 0 = .ok (.iload_n 1, 1) := by decide +kernel
theorem d_Z_hasNode_1 : decode prog_7_method_2_code 1 = .ok (.ifCond .lt 15, 3) := by decide +kernel
theorem d_Z_hasNode_16 : decode prog_7_method_2_code 16 = .ok (.iconst 0, 1) := by decide +kernel
theorem d_Z_hasNode_17 : decode prog_7_method_2_code 17 = .ok (.ireturn, 1) := by decide +kernel
theorem d_Z_hasNode_4 : decode prog_7_method_2_code 4 = .ok (.iload_n 1, 1) := by decide +kernel
theorem d_Z_hasNode_5 : decode prog_7_method_2_code 5 = .ok (.aload_n 0, 1) := by decide +kernel
theorem d_Z_hasNode_6 : decode prog_7_method_2_code 6 = .ok (.getfield 28, 3) := by decide +kernel
theorem d_Z_hasNode_9 : decode prog_7_method_2_code 9 = .ok (.if_icmp .ge 7, 3) := by decide +kernel
theorem d_Z_clear_0 : decode prog_7_method_9_code 0 = .ok (.aload_n 0, 1) := by decide +kernel
theorem d_Z_clear_1 : decode prog_7_method_9_code 1 = .ok (.iconst 0, 1) := by decide +kernel
theorem d_Z_clear_2 : decode prog_7_method_9_code 2 = .ok (.putfield 28, 3) := by decide +kernel
theorem d_Z_clear_5 : decode prog_7_method_9_code 5 = .ok (.return_, 1) := by decide +kernel
theorem d_G_allAttributes_0 : decode prog_3_method_14_code 0 = .ok (.iconst 1, 1) := by decide +kernel
theorem d_G_allAttributes_1 : decode prog_3_method_14_code 1 = .ok (.aload_n 0, 1) := by decide +kernel
theorem d_G_allAttributes_2 : decode prog_3_method_14_code 2 = .ok (.getfield 9, 3) := by decide +kernel
theorem d_G_allAttributes_5 : decode prog_3_method_14_code 5 = .ok (.iload_n 1, 1) := by decide +kernel
theorem d_G_allAttributes_6 : decode prog_3_method_14_code 6 = .ok (.iaload, 1) := by decide +kernel
theorem d_G_allAttributes_7 : decode prog_3_method_14_code 7 = .ok (.ishl, 1) := by decide +kernel
theorem d_G_allAttributes_8 : decode prog_3_method_14_code 8 = .ok (.iconst 1, 1) := by decide +kernel
theorem d_G_allAttributes_9 : decode prog_3_method_14_code 9 = .ok (.isub, 1) := by decide +kernel
theorem d_G_allAttributes_10 : decode prog_3_method_14_code 10 = .ok (.ireturn, 1) := by decide +kernel
theorem d_G_addSymbol_0 : decode prog_3_method_10_code 0 = .ok (.aload_n 0, 1) := by decide +kernel
theorem d_G_addSymbol_1 : decode prog_3_method_10_code 1 = .ok (.getfield 45, 3) := by decide +kernel
theorem d_G_addSymbol_4 : decode prog_3_method_10_code 4 = .ok (.istore_n 3, 1) := by decide +kernel
theorem d_G_addSymbol_5 : decode prog_3_method_10_code 5 = .ok (.aload_n 0, 1) := by decide +kernel
theorem d_G_addSymbol_6 : decode prog_3_method_10_code 6 = .ok (.getfield 9, 3) := by decide +kernel
theorem d_G_addSymbol_9 : decode prog_3_method_10_code 9 = .ok (.iload_n 3, 1) := by decide +kernel
theorem d_G_addSymbol_10 : decode prog_3_method_10_code 10 = .ok (.iload_n 1, 1) := by decide +kernel
theorem d_G_addSymbol_11 : decode prog_3_method_10_code 11 = .ok (.iastore, 1) := by decide +kernel
theorem d_G_addSymbol_12 : decode prog_3_method_10_code 12 = .ok (.aload_n 0, 1) := by decide +kernel
theorem d_G_addSymbol_13 : decode prog_3_method_10_code 13 = .ok (.getfield 15, 3) := by decide +kernel
theorem d_G_addSymbol_16 : decode prog_3_method_10_code 16 = .ok (.iload_n 3, 1) := by decide +kernel
theorem d_G_addSymbol_17 : decode prog_3_method_10_code 17 = .ok (.iload_n 2, 1) := by decide +kernel
theorem d_G_addSymbol_18 : decode prog_3_method_10_code 18 = .ok (.aload_n 0, 1) := by decide +kernel
theorem d_G_addSymbol_19 : decode prog_3_method_10_code 19 = .ok (.iload_n 3, 1) := by decide +kernel
theorem d_G_addSymbol_20 : decode prog_3_method_10_code 20 = .ok (.invokevirtual 69, 3) := by decide +kernel
theorem d_G_addSymbol_23 : decode prog_3_method_10_code 23 = .ok (.iand, 1) := by decide +kernel
theorem d_G_addSymbol_24 : decode prog_3_method_10_code 24 = .ok (.iastore, 1) := by decide +kernel
theorem d_G_addSymbol_25 : decode prog_3_method_10_code 25 = .ok (.aload_n 0, 1) := by decide +kernel
theorem d_G_addSymbol_26 : decode prog_3_method_10_code 26 = .ok (.dup, 1) := by decide +kernel
theorem d_G_addSymbol_27 : decode prog_3_method_10_code 27 = .ok (.getfield 45, 3) := by decide +kernel
theorem d_G_addSymbol_30 : decode prog_3_method_10_code 30 = .ok (.iconst 1, 1) := by decide +kernel
theorem d_G_addSymbol_31 : decode prog_3_method_10_code 31 = .ok (.iadd, 1) := by decide +kernel
theorem d_G_addSymbol_32 : decode prog_3_method_10_code 32 = .ok (.putfield 45, 3) := by decide +kernel
theorem d_G_addSymbol_35 : decode prog_3_method_10_code 35 = .ok (.iload_n 3, 1) := by decide +kernel
theorem d_G_addSymbol_36 : decode prog_3_method_10_code 36 = .ok (.ireturn, 1) := by decide +kernel
theorem d_A_forgetFault_0 : decode prog_2_method_3_code 0 = .ok (.aload_n 0, 1) := by decide +kernel
theorem d_A_forgetFault_1 : decode prog_2_method_3_code 1 = .ok (.iconst 0, 1) := by decide +kernel
theorem d_A_forgetFault_2 : decode prog_2_method_3_code 2 = .ok (.putfield 74, 3) := by decide +kernel
theorem d_A_forgetFault_5 : decode prog_2_method_3_code 5 = .ok (.aload_n 0, 1) := by decide +kernel
theorem d_A_forgetFault_6 : decode prog_2_method_3_code 6 = .ok (.iconst (-1), 1) := by decide +kernel
theorem d_A_forgetFault_7 : decode prog_2_method_3_code 7 = .ok (.putfield 9, 3) := by decide +kernel
theorem d_A_forgetFault_10 : decode prog_2_method_3_code 10 = .ok (.aload_n 0, 1) := by decide +kernel
theorem d_A_forgetFault_11 : decode prog_2_method_3_code 11 = .ok (.iconst (-1), 1) := by decide +kernel
theorem d_A_forgetFault_12 : decode prog_2_method_3_code 12 = .ok (.putfield 15, 3) := by decide +kernel
theorem d_A_forgetFault_15 : decode prog_2_method_3_code 15 = .ok (.return_, 1) := by decide +kernel
theorem d_A_make_0 : decode prog_2_method_2_code 0 = .ok (.aload_n 0, 1) := by decide +kernel
theorem d_A_make_1 : decode prog_2_method_2_code 1 = .ok (.invokevirtual 49, 3) := by decide +kernel
theorem d_A_make_4 : decode prog_2_method_2_code 4 = .ok (.aload_n 0, 1) := by decide +kernel
theorem d_A_make_5 : decode prog_2_method_2_code 5 = .ok (.aload_n 0, 1) := by decide +kernel
theorem d_A_make_6 : decode prog_2_method_2_code 6 = .ok (.getfield 18, 3) := by decide +kernel
theorem d_A_make_9 : decode prog_2_method_2_code 9 = .ok (.getfield 52, 3) := by decide +kernel
theorem d_A_make_12 : decode prog_2_method_2_code 12 = .ok (.ifCond .le 28, 3) := by decide +kernel
theorem d_A_make_40 : decode prog_2_method_2_code 40 = .ok (.iconst 0, 1) := by decide +kernel
theorem d_A_make_41 : decode prog_2_method_2_code 41 = .ok (.putfield 67, 3) := by decide +kernel
theorem d_A_make_44 : decode prog_2_method_2_code 44 = .ok (.aload_n 0, 1) := by decide +kernel
theorem d_A_make_45 : decode prog_2_method_2_code 45 = .ok (.getfield 67, 3) := by decide +kernel
theorem d_A_make_48 : decode prog_2_method_2_code 48 = .ok (.ifCond .eq 10, 3) := by decide +kernel
theorem d_A_make_58 : decode prog_2_method_2_code 58 = .ok (.return_, 1) := by decide +kernel
theorem d_V_requireAttribute_0 : decode prog_1_method_21_code 0 = .ok (.aload_n 0, 1) := by decide +kernel
theorem d_V_requireAttribute_1 : decode prog_1_method_21_code 1 = .ok (.getfield 28, 3) := by decide +kernel
theorem d_V_requireAttribute_4 : decode prog_1_method_21_code 4 = .ok (.iload_n 1, 1) := by decide +kernel
theorem d_V_requireAttribute_5 : decode prog_1_method_21_code 5 = .ok (.invokevirtual 193, 3) := by decide +kernel
theorem d_V_requireAttribute_8 : decode prog_1_method_21_code 8 = .ok (.ifCond .eq 22, 3) := by decide +kernel
theorem d_V_requireAttribute_30 : decode prog_1_method_21_code 30 = .ok (.new 90, 3) := by decide +kernel
theorem d_V_requireAttribute_33 : decode prog_1_method_21_code 33 = .ok (.dup, 1) := by decide +kernel
theorem d_V_requireAttribute_34 : decode prog_1_method_21_code 34 = .ok (.ldc 233, 2) := by decide +kernel
theorem d_V_requireAttribute_36 : decode prog_1_method_21_code 36 = .ok (.invokespecial 94, 3) := by decide +kernel
theorem d_V_requireAttribute_39 : decode prog_1_method_21_code 39 = .ok (.athrow, 1) := by decide +kernel
theorem d_V_symbol_0 : decode prog_1_method_2_code 0 = .ok (.iload_n 1, 1) := by decide +kernel
theorem d_V_symbol_1 : decode prog_1_method_2_code 1 = .ok (.ifCond .lt 8, 3) := by decide +kernel
theorem d_V_symbol_4 : decode prog_1_method_2_code 4 = .ok (.iload_n 1, 1) := by decide +kernel
theorem d_V_symbol_5 : decode prog_1_method_2_code 5 = .ok (.iconst 4, 1) := by decide +kernel
theorem d_V_symbol_6 : decode prog_1_method_2_code 6 = .ok (.if_icmp .le 13, 3) := by decide +kernel
theorem d_V_symbol_19 : decode prog_1_method_2_code 19 = .ok (.aload_n 0, 1) := by decide +kernel
theorem d_V_symbol_20 : decode prog_1_method_2_code 20 = .ok (.getfield 12, 3) := by decide +kernel
theorem d_V_symbol_23 : decode prog_1_method_2_code 23 = .ok (.getfield 52, 3) := by decide +kernel
theorem d_V_symbol_26 : decode prog_1_method_2_code 26 = .ok (.bipush 6, 2) := by decide +kernel
theorem d_V_symbol_28 : decode prog_1_method_2_code 28 = .ok (.if_icmp .ne 13, 3) := by decide +kernel
theorem d_V_symbol_41 : decode prog_1_method_2_code 41 = .ok (.aload_n 0, 1) := by decide +kernel
theorem d_V_symbol_42 : decode prog_1_method_2_code 42 = .ok (.invokevirtual 61, 3) := by decide +kernel
theorem d_V_symbol_45 : decode prog_1_method_2_code 45 = .ok (.aload_n 0, 1) := by decide +kernel
theorem d_V_symbol_46 : decode prog_1_method_2_code 46 = .ok (.getfield 12, 3) := by decide +kernel
theorem d_V_symbol_49 : decode prog_1_method_2_code 49 = .ok (.iload_n 1, 1) := by decide +kernel
theorem d_V_symbol_50 : decode prog_1_method_2_code 50 = .ok (.iload_n 2, 1) := by decide +kernel
theorem d_V_symbol_51 : decode prog_1_method_2_code 51 = .ok (.invokevirtual 64, 3) := by decide +kernel
theorem d_V_symbol_54 : decode prog_1_method_2_code 54 = .ok (.ireturn, 1) := by decide +kernel
theorem d_V_symbol_9 : decode prog_1_method_2_code 9 = .ok (.new 45, 3) := by decide +kernel
theorem d_V_symbol_12 : decode prog_1_method_2_code 12 = .ok (.dup, 1) := by decide +kernel
theorem d_V_symbol_13 : decode prog_1_method_2_code 13 = .ok (.ldc 47, 2) := by decide +kernel
theorem d_V_symbol_15 : decode prog_1_method_2_code 15 = .ok (.invokespecial 49, 3) := by decide +kernel
theorem d_V_symbol_18 : decode prog_1_method_2_code 18 = .ok (.athrow, 1) := by decide +kernel
theorem d_V_production_0 : decode prog_1_method_3_code 0 = .ok (.aload_n 0, 1) := by decide +kernel
theorem d_V_production_1 : decode prog_1_method_3_code 1 = .ok (.getfield 12, 3) := by decide +kernel
theorem d_V_production_4 : decode prog_1_method_3_code 4 = .ok (.iload_n 1, 1) := by decide +kernel
theorem d_V_production_5 : decode prog_1_method_3_code 5 = .ok (.invokevirtual 68, 3) := by decide +kernel
theorem d_V_production_8 : decode prog_1_method_3_code 8 = .ok (.ifCond .eq 17, 3) := by decide +kernel
theorem d_V_production_25 : decode prog_1_method_3_code 25 = .ok (.new 45, 3) := by decide +kernel
theorem d_V_production_28 : decode prog_1_method_3_code 28 = .ok (.dup, 1) := by decide +kernel
theorem d_V_production_29 : decode prog_1_method_3_code 29 = .ok (.ldc 76, 2) := by decide +kernel
theorem d_V_production_31 : decode prog_1_method_3_code 31 = .ok (.invokespecial 49, 3) := by decide +kernel
theorem d_V_production_34 : decode prog_1_method_3_code 34 = .ok (.athrow, 1) := by decide +kernel
theorem d_V_rule_0 : decode prog_1_method_4_code 0 = .ok (.aload_n 0, 1) := by decide +kernel
theorem d_V_rule_1 : decode prog_1_method_4_code 1 = .ok (.getfield 12, 3) := by decide +kernel
theorem d_V_rule_4 : decode prog_1_method_4_code 4 = .ok (.iload_n 1, 1) := by decide +kernel
theorem d_V_rule_5 : decode prog_1_method_4_code 5 = .ok (.invokevirtual 87, 3) := by decide +kernel
theorem d_V_rule_8 : decode prog_1_method_4_code 8 = .ok (.ifCond .ne 13, 3) := by decide +kernel
theorem d_V_rule_11 : decode prog_1_method_4_code 11 = .ok (.new 90, 3) := by decide +kernel
theorem d_V_rule_14 : decode prog_1_method_4_code 14 = .ok (.dup, 1) := by decide +kernel
theorem d_V_rule_15 : decode prog_1_method_4_code 15 = .ok (.ldc 92, 2) := by decide +kernel
theorem d_V_rule_17 : decode prog_1_method_4_code 17 = .ok (.invokespecial 94, 3) := by decide +kernel
theorem d_V_rule_20 : decode prog_1_method_4_code 20 = .ok (.athrow, 1) := by decide +kernel
theorem d_V_analyse_0 : decode prog_1_method_5_code 0 = .ok (.aload_n 0, 1) := by decide +kernel
theorem d_V_analyse_1 : decode prog_1_method_5_code 1 = .ok (.getfield 41, 3) := by decide +kernel
theorem d_V_analyse_4 : decode prog_1_method_5_code 4 = .ok (.invokevirtual 111, 3) := by decide +kernel
theorem d_V_analyse_7 : decode prog_1_method_5_code 7 = .ok (.aload_n 0, 1) := by decide +kernel
theorem d_V_analyse_8 : decode prog_1_method_5_code 8 = .ok (.getfield 21, 3) := by decide +kernel
theorem d_V_analyse_11 : decode prog_1_method_5_code 11 = .ok (.invokevirtual 114, 3) := by decide +kernel
theorem d_V_analyse_14 : decode prog_1_method_5_code 14 = .ok (.aload_n 0, 1) := by decide +kernel
theorem d_V_analyse_15 : decode prog_1_method_5_code 15 = .ok (.getfield 21, 3) := by decide +kernel
theorem d_V_analyse_18 : decode prog_1_method_5_code 18 = .ok (.getfield 117, 3) := by decide +kernel
theorem d_V_analyse_21 : decode prog_1_method_5_code 21 = .ok (.iconst 2, 1) := by decide +kernel
theorem d_V_analyse_22 : decode prog_1_method_5_code 22 = .ok (.if_icmp .eq 14, 3) := by decide +kernel
theorem d_V_analyse_25 : decode prog_1_method_5_code 25 = .ok (.aload_n 0, 1) := by decide +kernel
theorem d_V_analyse_26 : decode prog_1_method_5_code 26 = .ok (.getfield 21, 3) := by decide +kernel
theorem d_V_analyse_29 : decode prog_1_method_5_code 29 = .ok (.getfield 117, 3) := by decide +kernel
theorem d_V_analyse_32 : decode prog_1_method_5_code 32 = .ok (.iconst 3, 1) := by decide +kernel
theorem d_V_analyse_33 : decode prog_1_method_5_code 33 = .ok (.if_icmp .ne 13, 3) := by decide +kernel
theorem d_V_analyse_46 : decode prog_1_method_5_code 46 = .ok (.aload_n 0, 1) := by decide +kernel
theorem d_V_analyse_47 : decode prog_1_method_5_code 47 = .ok (.getfield 21, 3) := by decide +kernel
theorem d_V_analyse_50 : decode prog_1_method_5_code 50 = .ok (.getfield 125, 3) := by decide +kernel
theorem d_V_analyse_53 : decode prog_1_method_5_code 53 = .ok (.ifCond .ne 13, 3) := by decide +kernel
end
section
theorem d_V_analyse_56 : decode prog_1_method_5_code 56 = .ok (.new 56, 3) := by decide +kernel
theorem d_V_analyse_59 : decode prog_1_method_5_code 59 = .ok (.dup, 1) := by decide +kernel
theorem d_V_analyse_60 : decode prog_1_method_5_code 60 = .ok (.ldc 129, 2) := by decide +kernel
theorem d_V_analyse_62 : decode prog_1_method_5_code 62 = .ok (.invokespecial 60, 3) := by decide +kernel
theorem d_V_analyse_65 : decode prog_1_method_5_code 65 = .ok (.athrow, 1) := by decide +kernel
theorem d_V_visits_0 : decode prog_1_method_7_code 0 = .ok (.aload_n 0, 1) := by decide +kernel
theorem d_V_visits_1 : decode prog_1_method_7_code 1 = .ok (.invokevirtual 143, 3) := by decide +kernel
theorem d_V_rank_0 : decode prog_1_method_8_code 0 = .ok (.aload_n 0, 1) := by decide +kernel
theorem d_V_rank_1 : decode prog_1_method_8_code 1 = .ok (.invokevirtual 143, 3) := by decide +kernel
theorem d_V_instruction_0 : decode prog_1_method_9_code 0 = .ok (.aload_n 0, 1) := by decide +kernel
theorem d_V_instruction_1 : decode prog_1_method_9_code 1 = .ok (.invokevirtual 143, 3) := by decide +kernel
theorem d_V_node_0 : decode prog_1_method_10_code 0 = .ok (.aload_n 0, 1) := by decide +kernel
theorem d_V_node_1 : decode prog_1_method_10_code 1 = .ok (.getfield 12, 3) := by decide +kernel
theorem d_V_node_4 : decode prog_1_method_10_code 4 = .ok (.iload_n 1, 1) := by decide +kernel
theorem d_V_node_5 : decode prog_1_method_10_code 5 = .ok (.invokevirtual 87, 3) := by decide +kernel
theorem d_V_node_8 : decode prog_1_method_10_code 8 = .ok (.ifCond .eq 19, 3) := by decide +kernel
theorem d_V_node_27 : decode prog_1_method_10_code 27 = .ok (.new 45, 3) := by decide +kernel
theorem d_V_node_30 : decode prog_1_method_10_code 30 = .ok (.dup, 1) := by decide +kernel
theorem d_V_node_31 : decode prog_1_method_10_code 31 = .ok (.ldc 174, 2) := by decide +kernel
theorem d_V_node_33 : decode prog_1_method_10_code 33 = .ok (.invokespecial 49, 3) := by decide +kernel
theorem d_V_node_36 : decode prog_1_method_10_code 36 = .ok (.athrow, 1) := by decide +kernel
theorem d_V_fell_0 : decode prog_1_method_11_code 0 = .ok (.aload_n 0, 1) := by decide +kernel
theorem d_V_fell_1 : decode prog_1_method_11_code 1 = .ok (.getfield 41, 3) := by decide +kernel
theorem d_V_fell_4 : decode prog_1_method_11_code 4 = .ok (.invokevirtual 111, 3) := by decide +kernel
theorem d_V_fell_7 : decode prog_1_method_11_code 7 = .ok (.aload_n 0, 1) := by decide +kernel
theorem d_V_fell_8 : decode prog_1_method_11_code 8 = .ok (.getfield 28, 3) := by decide +kernel
theorem d_V_fell_11 : decode prog_1_method_11_code 11 = .ok (.invokevirtual 185, 3) := by decide +kernel
theorem d_V_fell_14 : decode prog_1_method_11_code 14 = .ok (.return_, 1) := by decide +kernel
theorem d_V_give_0 : decode prog_1_method_12_code 0 = .ok (.iload_n 1, 1) := by decide +kernel
theorem d_V_give_1 : decode prog_1_method_12_code 1 = .ok (.ifCond .lt 8, 3) := by decide +kernel
theorem d_V_give_9 : decode prog_1_method_12_code 9 = .ok (.new 90, 3) := by decide +kernel
theorem d_V_give_12 : decode prog_1_method_12_code 12 = .ok (.dup, 1) := by decide +kernel
theorem d_V_give_13 : decode prog_1_method_12_code 13 = .ok (.ldc 188, 2) := by decide +kernel
theorem d_V_give_15 : decode prog_1_method_12_code 15 = .ok (.invokespecial 94, 3) := by decide +kernel
theorem d_V_give_18 : decode prog_1_method_12_code 18 = .ok (.athrow, 1) := by decide +kernel
theorem d_V_give_4 : decode prog_1_method_12_code 4 = .ok (.iload_n 1, 1) := by decide +kernel
theorem d_V_give_5 : decode prog_1_method_12_code 5 = .ok (.iconst 4, 1) := by decide +kernel
theorem d_V_give_6 : decode prog_1_method_12_code 6 = .ok (.if_icmp .lt 13, 3) := by decide +kernel
theorem d_V_give_19 : decode prog_1_method_12_code 19 = .ok (.aload_n 0, 1) := by decide +kernel
theorem d_V_give_20 : decode prog_1_method_12_code 20 = .ok (.getfield 41, 3) := by decide +kernel
theorem d_V_give_23 : decode prog_1_method_12_code 23 = .ok (.getfield 190, 3) := by decide +kernel
theorem d_V_give_26 : decode prog_1_method_12_code 26 = .ok (.iload_n 1, 1) := by decide +kernel
theorem d_V_give_27 : decode prog_1_method_12_code 27 = .ok (.iload_n 2, 1) := by decide +kernel
theorem d_V_give_28 : decode prog_1_method_12_code 28 = .ok (.iastore, 1) := by decide +kernel
theorem d_V_give_29 : decode prog_1_method_12_code 29 = .ok (.return_, 1) := by decide +kernel
theorem d_V_start_0 : decode prog_1_method_13_code 0 = .ok (.aload_n 0, 1) := by decide +kernel
theorem d_V_start_1 : decode prog_1_method_13_code 1 = .ok (.invokevirtual 143, 3) := by decide +kernel
theorem d_V_run_0 : decode prog_1_method_14_code 0 = .ok (.iload_n 1, 1) := by decide +kernel
theorem d_V_run_1 : decode prog_1_method_14_code 1 = .ok (.ifCond .lt 10, 3) := by decide +kernel
theorem d_V_run_11 : decode prog_1_method_14_code 11 = .ok (.new 45, 3) := by decide +kernel
theorem d_V_run_14 : decode prog_1_method_14_code 14 = .ok (.dup, 1) := by decide +kernel
theorem d_V_run_15 : decode prog_1_method_14_code 15 = .ok (.ldc 202, 2) := by decide +kernel
theorem d_V_run_17 : decode prog_1_method_14_code 17 = .ok (.invokespecial 49, 3) := by decide +kernel
theorem d_V_run_20 : decode prog_1_method_14_code 20 = .ok (.athrow, 1) := by decide +kernel
theorem d_V_run_4 : decode prog_1_method_14_code 4 = .ok (.iload_n 1, 1) := by decide +kernel
theorem d_V_run_5 : decode prog_1_method_14_code 5 = .ok (.sipush 500, 3) := by decide +kernel
theorem d_V_run_8 : decode prog_1_method_14_code 8 = .ok (.if_icmp .le 13, 3) := by decide +kernel
theorem d_V_run_21 : decode prog_1_method_14_code 21 = .ok (.aload_n 0, 1) := by decide +kernel
theorem d_V_run_22 : decode prog_1_method_14_code 22 = .ok (.getfield 41, 3) := by decide +kernel
theorem d_V_run_25 : decode prog_1_method_14_code 25 = .ok (.getfield 204, 3) := by decide +kernel
theorem d_V_run_28 : decode prog_1_method_14_code 28 = .ok (.ifCond .ne 13, 3) := by decide +kernel
theorem d_V_run_31 : decode prog_1_method_14_code 31 = .ok (.new 56, 3) := by decide +kernel
theorem d_V_run_34 : decode prog_1_method_14_code 34 = .ok (.dup, 1) := by decide +kernel
theorem d_V_run_35 : decode prog_1_method_14_code 35 = .ok (.ldc 207, 2) := by decide +kernel
theorem d_V_run_37 : decode prog_1_method_14_code 37 = .ok (.invokespecial 60, 3) := by decide +kernel
theorem d_V_run_40 : decode prog_1_method_14_code 40 = .ok (.athrow, 1) := by decide +kernel
theorem d_V_status_0 : decode prog_1_method_15_code 0 = .ok (.aload_n 0, 1) := by decide +kernel
theorem d_V_status_1 : decode prog_1_method_15_code 1 = .ok (.getfield 41, 3) := by decide +kernel
theorem d_V_status_4 : decode prog_1_method_15_code 4 = .ok (.getfield 204, 3) := by decide +kernel
theorem d_V_status_7 : decode prog_1_method_15_code 7 = .ok (.ireturn, 1) := by decide +kernel
theorem d_V_atHand_0 : decode prog_1_method_16_code 0 = .ok (.aload_n 0, 1) := by decide +kernel
theorem d_V_atHand_1 : decode prog_1_method_16_code 1 = .ok (.getfield 41, 3) := by decide +kernel
theorem d_V_atHand_4 : decode prog_1_method_16_code 4 = .ok (.getfield 204, 3) := by decide +kernel
theorem d_V_atHand_7 : decode prog_1_method_16_code 7 = .ok (.iconst 1, 1) := by decide +kernel
theorem d_V_atHand_8 : decode prog_1_method_16_code 8 = .ok (.if_icmp .ne 13, 3) := by decide +kernel
theorem d_V_atHand_21 : decode prog_1_method_16_code 21 = .ok (.iconst (-1), 1) := by decide +kernel
theorem d_V_atHand_22 : decode prog_1_method_16_code 22 = .ok (.ireturn, 1) := by decide +kernel
theorem d_V_knows_0 : decode prog_1_method_17_code 0 = .ok (.aload_n 0, 1) := by decide +kernel
theorem d_V_knows_1 : decode prog_1_method_17_code 1 = .ok (.iload_n 1, 1) := by decide +kernel
theorem d_V_knows_2 : decode prog_1_method_17_code 2 = .ok (.iload_n 2, 1) := by decide +kernel
theorem d_V_knows_3 : decode prog_1_method_17_code 3 = .ok (.invokevirtual 216, 3) := by decide +kernel
theorem d_V_value_0 : decode prog_1_method_18_code 0 = .ok (.aload_n 0, 1) := by decide +kernel
theorem d_V_value_1 : decode prog_1_method_18_code 1 = .ok (.iload_n 1, 1) := by decide +kernel
theorem d_V_value_2 : decode prog_1_method_18_code 2 = .ok (.iload_n 2, 1) := by decide +kernel
theorem d_V_value_3 : decode prog_1_method_18_code 3 = .ok (.invokevirtual 216, 3) := by decide +kernel
theorem d_V_fault_0 : decode prog_1_method_6_code 0 = .ok (.iload_n 1, 1) := by decide +kernel
theorem d_V_fault_1 : decode prog_1_method_6_code 1 = .ok (.tableswitch 51 0 2 #[27, 35, 43], 27) := by decide +kernel
theorem d_V_fault_28 : decode prog_1_method_6_code 28 = .ok (.aload_n 0, 1) := by decide +kernel
theorem d_V_fault_29 : decode prog_1_method_6_code 29 = .ok (.getfield 21, 3) := by decide +kernel
theorem d_V_fault_32 : decode prog_1_method_6_code 32 = .ok (.getfield 117, 3) := by decide +kernel
theorem d_V_fault_35 : decode prog_1_method_6_code 35 = .ok (.ireturn, 1) := by decide +kernel
theorem d_V_fault_36 : decode prog_1_method_6_code 36 = .ok (.aload_n 0, 1) := by decide +kernel
theorem d_V_fault_37 : decode prog_1_method_6_code 37 = .ok (.getfield 21, 3) := by decide +kernel
theorem d_V_fault_40 : decode prog_1_method_6_code 40 = .ok (.getfield 137, 3) := by decide +kernel
theorem d_V_fault_43 : decode prog_1_method_6_code 43 = .ok (.ireturn, 1) := by decide +kernel
theorem d_V_fault_44 : decode prog_1_method_6_code 44 = .ok (.aload_n 0, 1) := by decide +kernel
theorem d_V_fault_45 : decode prog_1_method_6_code 45 = .ok (.getfield 21, 3) := by decide +kernel
theorem d_V_fault_48 : decode prog_1_method_6_code 48 = .ok (.getfield 140, 3) := by decide +kernel
theorem d_V_fault_51 : decode prog_1_method_6_code 51 = .ok (.ireturn, 1) := by decide +kernel
theorem d_V_fault_52 : decode prog_1_method_6_code 52 = .ok (.iconst (-1), 1) := by decide +kernel
theorem d_V_fault_53 : decode prog_1_method_6_code 53 = .ok (.ireturn, 1) := by decide +kernel
theorem d_M_init_0 : decode prog_10_method_1_code 0 = .ok (.aload_n 0, 1) := by decide +kernel
theorem d_M_init_1 : decode prog_10_method_1_code 1 = .ok (.invokespecial 1, 3) := by decide +kernel
theorem d_M_init_4 : decode prog_10_method_1_code 4 = .ok (.aload_n 0, 1) := by decide +kernel
theorem d_M_init_5 : decode prog_10_method_1_code 5 = .ok (.bipush 6, 2) := by decide +kernel
theorem d_M_init_7 : decode prog_10_method_1_code 7 = .ok (.newarray .int, 2) := by decide +kernel
theorem d_M_init_9 : decode prog_10_method_1_code 9 = .ok (.putfield 7, 3) := by decide +kernel
theorem d_M_init_12 : decode prog_10_method_1_code 12 = .ok (.aload_n 0, 1) := by decide +kernel
theorem d_M_init_13 : decode prog_10_method_1_code 13 = .ok (.bipush 24, 2) := by decide +kernel
theorem d_M_init_15 : decode prog_10_method_1_code 15 = .ok (.newarray .boolean, 2) := by decide +kernel
theorem d_M_init_17 : decode prog_10_method_1_code 17 = .ok (.putfield 13, 3) := by decide +kernel
theorem d_M_init_20 : decode prog_10_method_1_code 20 = .ok (.aload_n 0, 1) := by decide +kernel
theorem d_M_init_21 : decode prog_10_method_1_code 21 = .ok (.bipush 10, 2) := by decide +kernel
theorem d_M_init_23 : decode prog_10_method_1_code 23 = .ok (.newarray .int, 2) := by decide +kernel
theorem d_M_init_25 : decode prog_10_method_1_code 25 = .ok (.putfield 17, 3) := by decide +kernel
theorem d_M_init_28 : decode prog_10_method_1_code 28 = .ok (.aload_n 0, 1) := by decide +kernel
theorem d_M_init_29 : decode prog_10_method_1_code 29 = .ok (.bipush 40, 2) := by decide +kernel
theorem d_M_init_31 : decode prog_10_method_1_code 31 = .ok (.newarray .int, 2) := by decide +kernel
theorem d_M_init_33 : decode prog_10_method_1_code 33 = .ok (.putfield 20, 3) := by decide +kernel
theorem d_M_init_36 : decode prog_10_method_1_code 36 = .ok (.aload_n 0, 1) := by decide +kernel
theorem d_M_init_37 : decode prog_10_method_1_code 37 = .ok (.sipush 160, 3) := by decide +kernel
theorem d_M_init_40 : decode prog_10_method_1_code 40 = .ok (.newarray .int, 2) := by decide +kernel
theorem d_M_init_42 : decode prog_10_method_1_code 42 = .ok (.putfield 23, 3) := by decide +kernel
theorem d_M_init_45 : decode prog_10_method_1_code 45 = .ok (.aload_n 0, 1) := by decide +kernel
theorem d_M_init_46 : decode prog_10_method_1_code 46 = .ok (.sipush 160, 3) := by decide +kernel
theorem d_M_init_49 : decode prog_10_method_1_code 49 = .ok (.newarray .int, 2) := by decide +kernel
theorem d_M_init_51 : decode prog_10_method_1_code 51 = .ok (.putfield 26, 3) := by decide +kernel
theorem d_M_init_54 : decode prog_10_method_1_code 54 = .ok (.aload_n 0, 1) := by decide +kernel
theorem d_M_init_55 : decode prog_10_method_1_code 55 = .ok (.sipush 160, 3) := by decide +kernel
theorem d_M_init_58 : decode prog_10_method_1_code 58 = .ok (.newarray .int, 2) := by decide +kernel
theorem d_M_init_60 : decode prog_10_method_1_code 60 = .ok (.putfield 29, 3) := by decide +kernel
theorem d_M_init_63 : decode prog_10_method_1_code 63 = .ok (.aload_n 0, 1) := by decide +kernel
theorem d_M_init_64 : decode prog_10_method_1_code 64 = .ok (.iconst (-1), 1) := by decide +kernel
theorem d_M_init_65 : decode prog_10_method_1_code 65 = .ok (.putfield 32, 3) := by decide +kernel
theorem d_M_init_68 : decode prog_10_method_1_code 68 = .ok (.aload_n 0, 1) := by decide +kernel
theorem d_M_init_69 : decode prog_10_method_1_code 69 = .ok (.iconst (-1), 1) := by decide +kernel
theorem d_M_init_70 : decode prog_10_method_1_code 70 = .ok (.putfield 36, 3) := by decide +kernel
theorem d_M_init_73 : decode prog_10_method_1_code 73 = .ok (.aload_n 0, 1) := by decide +kernel
theorem d_M_init_74 : decode prog_10_method_1_code 74 = .ok (.sipush 2560, 3) := by decide +kernel
theorem d_M_init_77 : decode prog_10_method_1_code 77 = .ok (.newarray .boolean, 2) := by decide +kernel
theorem d_M_init_79 : decode prog_10_method_1_code 79 = .ok (.putfield 39, 3) := by decide +kernel
theorem d_M_init_82 : decode prog_10_method_1_code 82 = .ok (.aload_n 0, 1) := by decide +kernel
theorem d_M_init_83 : decode prog_10_method_1_code 83 = .ok (.sipush 2560, 3) := by decide +kernel
theorem d_M_init_86 : decode prog_10_method_1_code 86 = .ok (.newarray .boolean, 2) := by decide +kernel
theorem d_M_init_88 : decode prog_10_method_1_code 88 = .ok (.putfield 42, 3) := by decide +kernel
theorem d_M_init_91 : decode prog_10_method_1_code 91 = .ok (.aload_n 0, 1) := by decide +kernel
theorem d_M_init_92 : decode prog_10_method_1_code 92 = .ok (.bipush 96, 2) := by decide +kernel
theorem d_M_init_94 : decode prog_10_method_1_code 94 = .ok (.newarray .boolean, 2) := by decide +kernel
theorem d_M_init_96 : decode prog_10_method_1_code 96 = .ok (.putfield 45, 3) := by decide +kernel
theorem d_M_init_99 : decode prog_10_method_1_code 99 = .ok (.aload_n 0, 1) := by decide +kernel
theorem d_M_init_100 : decode prog_10_method_1_code 100 = .ok (.sipush 256, 3) := by decide +kernel
theorem d_M_init_103 : decode prog_10_method_1_code 103 = .ok (.newarray .boolean, 2) := by decide +kernel
theorem d_M_init_105 : decode prog_10_method_1_code 105 = .ok (.putfield 48, 3) := by decide +kernel
theorem d_M_init_108 : decode prog_10_method_1_code 108 = .ok (.aload_n 0, 1) := by decide +kernel
theorem d_M_init_109 : decode prog_10_method_1_code 109 = .ok (.bipush 24, 2) := by decide +kernel
theorem d_M_init_111 : decode prog_10_method_1_code 111 = .ok (.newarray .int, 2) := by decide +kernel
theorem d_M_init_113 : decode prog_10_method_1_code 113 = .ok (.putfield 51, 3) := by decide +kernel
theorem d_M_init_116 : decode prog_10_method_1_code 116 = .ok (.aload_n 0, 1) := by decide +kernel
theorem d_M_init_117 : decode prog_10_method_1_code 117 = .ok (.bipush 6, 2) := by decide +kernel
theorem d_M_init_119 : decode prog_10_method_1_code 119 = .ok (.newarray .int, 2) := by decide +kernel
theorem d_M_init_121 : decode prog_10_method_1_code 121 = .ok (.putfield 54, 3) := by decide +kernel
theorem d_M_init_124 : decode prog_10_method_1_code 124 = .ok (.aload_n 0, 1) := by decide +kernel
theorem d_M_init_125 : decode prog_10_method_1_code 125 = .ok (.bipush 10, 2) := by decide +kernel
theorem d_M_init_127 : decode prog_10_method_1_code 127 = .ok (.newarray .int, 2) := by decide +kernel
theorem d_M_init_129 : decode prog_10_method_1_code 129 = .ok (.putfield 57, 3) := by decide +kernel
theorem d_M_init_132 : decode prog_10_method_1_code 132 = .ok (.aload_n 0, 1) := by decide +kernel
theorem d_M_init_133 : decode prog_10_method_1_code 133 = .ok (.sipush 480, 3) := by decide +kernel
theorem d_M_init_136 : decode prog_10_method_1_code 136 = .ok (.newarray .int, 2) := by decide +kernel
theorem d_M_init_138 : decode prog_10_method_1_code 138 = .ok (.putfield 60, 3) := by decide +kernel
theorem d_M_init_141 : decode prog_10_method_1_code 141 = .ok (.aload_n 0, 1) := by decide +kernel
theorem d_M_init_142 : decode prog_10_method_1_code 142 = .ok (.bipush 16, 2) := by decide +kernel
theorem d_M_init_144 : decode prog_10_method_1_code 144 = .ok (.newarray .boolean, 2) := by decide +kernel
theorem d_M_init_146 : decode prog_10_method_1_code 146 = .ok (.putfield 63, 3) := by decide +kernel
theorem d_M_init_149 : decode prog_10_method_1_code 149 = .ok (.aload_n 0, 1) := by decide +kernel
theorem d_M_init_150 : decode prog_10_method_1_code 150 = .ok (.iconst 4, 1) := by decide +kernel
theorem d_M_init_151 : decode prog_10_method_1_code 151 = .ok (.newarray .int, 2) := by decide +kernel
theorem d_M_init_153 : decode prog_10_method_1_code 153 = .ok (.putfield 66, 3) := by decide +kernel
theorem d_M_init_156 : decode prog_10_method_1_code 156 = .ok (.aload_n 0, 1) := by decide +kernel
theorem d_M_init_157 : decode prog_10_method_1_code 157 = .ok (.bipush 40, 2) := by decide +kernel
theorem d_M_init_159 : decode prog_10_method_1_code 159 = .ok (.newarray .int, 2) := by decide +kernel
theorem d_M_init_161 : decode prog_10_method_1_code 161 = .ok (.putfield 69, 3) := by decide +kernel
theorem d_M_init_164 : decode prog_10_method_1_code 164 = .ok (.aload_n 0, 1) := by decide +kernel
theorem d_M_init_165 : decode prog_10_method_1_code 165 = .ok (.bipush 40, 2) := by decide +kernel
theorem d_M_init_167 : decode prog_10_method_1_code 167 = .ok (.newarray .int, 2) := by decide +kernel
theorem d_M_init_169 : decode prog_10_method_1_code 169 = .ok (.putfield 72, 3) := by decide +kernel
theorem d_M_init_172 : decode prog_10_method_1_code 172 = .ok (.aload_n 0, 1) := by decide +kernel
theorem d_M_init_173 : decode prog_10_method_1_code 173 = .ok (.bipush 120, 2) := by decide +kernel
theorem d_M_init_175 : decode prog_10_method_1_code 175 = .ok (.newarray .int, 2) := by decide +kernel
theorem d_M_init_177 : decode prog_10_method_1_code 177 = .ok (.putfield 75, 3) := by decide +kernel
theorem d_M_init_180 : decode prog_10_method_1_code 180 = .ok (.aload_n 0, 1) := by decide +kernel
theorem d_M_init_181 : decode prog_10_method_1_code 181 = .ok (.bipush 40, 2) := by decide +kernel
theorem d_M_init_183 : decode prog_10_method_1_code 183 = .ok (.newarray .int, 2) := by decide +kernel
theorem d_M_init_185 : decode prog_10_method_1_code 185 = .ok (.putfield 78, 3) := by decide +kernel
theorem d_M_init_188 : decode prog_10_method_1_code 188 = .ok (.aload_n 0, 1) := by decide +kernel
theorem d_M_init_189 : decode prog_10_method_1_code 189 = .ok (.bipush 40, 2) := by decide +kernel
theorem d_M_init_191 : decode prog_10_method_1_code 191 = .ok (.newarray .int, 2) := by decide +kernel
theorem d_M_init_193 : decode prog_10_method_1_code 193 = .ok (.putfield 81, 3) := by decide +kernel
theorem d_M_init_196 : decode prog_10_method_1_code 196 = .ok (.aload_n 0, 1) := by decide +kernel
theorem d_M_init_197 : decode prog_10_method_1_code 197 = .ok (.sipush 160, 3) := by decide +kernel
theorem d_M_init_200 : decode prog_10_method_1_code 200 = .ok (.newarray .boolean, 2) := by decide +kernel
end
section
theorem d_M_init_202 : decode prog_10_method_1_code 202 = .ok (.putfield 84, 3) := by decide +kernel
theorem d_M_init_205 : decode prog_10_method_1_code 205 = .ok (.aload_n 0, 1) := by decide +kernel
theorem d_M_init_206 : decode prog_10_method_1_code 206 = .ok (.sipush 160, 3) := by decide +kernel
theorem d_M_init_209 : decode prog_10_method_1_code 209 = .ok (.newarray .int, 2) := by decide +kernel
theorem d_M_init_211 : decode prog_10_method_1_code 211 = .ok (.putfield 87, 3) := by decide +kernel
theorem d_M_init_214 : decode prog_10_method_1_code 214 = .ok (.aload_n 0, 1) := by decide +kernel
theorem d_M_init_215 : decode prog_10_method_1_code 215 = .ok (.iconst 4, 1) := by decide +kernel
theorem d_M_init_216 : decode prog_10_method_1_code 216 = .ok (.newarray .int, 2) := by decide +kernel
theorem d_M_init_218 : decode prog_10_method_1_code 218 = .ok (.putfield 90, 3) := by decide +kernel
theorem d_M_init_221 : decode prog_10_method_1_code 221 = .ok (.aload_n 0, 1) := by decide +kernel
theorem d_M_init_222 : decode prog_10_method_1_code 222 = .ok (.iconst (-1), 1) := by decide +kernel
theorem d_M_init_223 : decode prog_10_method_1_code 223 = .ok (.putfield 93, 3) := by decide +kernel
theorem d_M_init_226 : decode prog_10_method_1_code 226 = .ok (.aload_n 0, 1) := by decide +kernel
theorem d_M_init_227 : decode prog_10_method_1_code 227 = .ok (.iconst (-1), 1) := by decide +kernel
theorem d_M_init_228 : decode prog_10_method_1_code 228 = .ok (.putfield 96, 3) := by decide +kernel
theorem d_M_init_231 : decode prog_10_method_1_code 231 = .ok (.iconst 0, 1) := by decide +kernel
theorem d_M_init_232 : decode prog_10_method_1_code 232 = .ok (.istore_n 1, 1) := by decide +kernel
theorem d_M_init_233 : decode prog_10_method_1_code 233 = .ok (.iload_n 1, 1) := by decide +kernel
theorem d_M_init_234 : decode prog_10_method_1_code 234 = .ok (.sipush 160, 3) := by decide +kernel
theorem d_M_init_237 : decode prog_10_method_1_code 237 = .ok (.if_icmp .ge 16, 3) := by decide +kernel
theorem d_M_init_253 : decode prog_10_method_1_code 253 = .ok (.return_, 1) := by decide +kernel
theorem d_M_init_240 : decode prog_10_method_1_code 240 = .ok (.aload_n 0, 1) := by decide +kernel
theorem d_M_init_241 : decode prog_10_method_1_code 241 = .ok (.getfield 23, 3) := by decide +kernel
theorem d_M_init_244 : decode prog_10_method_1_code 244 = .ok (.iload_n 1, 1) := by decide +kernel
theorem d_M_init_245 : decode prog_10_method_1_code 245 = .ok (.iconst (-1), 1) := by decide +kernel
theorem d_M_init_246 : decode prog_10_method_1_code 246 = .ok (.iastore, 1) := by decide +kernel
theorem d_M_init_247 : decode prog_10_method_1_code 247 = .ok (.iinc 1 1, 3) := by decide +kernel
theorem d_M_init_250 : decode prog_10_method_1_code 250 = .ok (.goto (-17), 3) := by decide +kernel
theorem d_M_endRun_0 : decode prog_10_method_4_code 0 = .ok (.aload_n 0, 1) := by decide +kernel
theorem d_M_endRun_1 : decode prog_10_method_4_code 1 = .ok (.iconst (-1), 1) := by decide +kernel
theorem d_M_endRun_2 : decode prog_10_method_4_code 2 = .ok (.putfield 93, 3) := by decide +kernel
theorem d_M_endRun_5 : decode prog_10_method_4_code 5 = .ok (.aload_n 0, 1) := by decide +kernel
theorem d_M_endRun_6 : decode prog_10_method_4_code 6 = .ok (.iconst (-1), 1) := by decide +kernel
theorem d_M_endRun_7 : decode prog_10_method_4_code 7 = .ok (.putfield 96, 3) := by decide +kernel
theorem d_M_endRun_10 : decode prog_10_method_4_code 10 = .ok (.iconst 0, 1) := by decide +kernel
theorem d_M_endRun_11 : decode prog_10_method_4_code 11 = .ok (.istore_n 1, 1) := by decide +kernel
theorem d_M_endRun_12 : decode prog_10_method_4_code 12 = .ok (.iload_n 1, 1) := by decide +kernel
theorem d_M_endRun_13 : decode prog_10_method_4_code 13 = .ok (.sipush 160, 3) := by decide +kernel
theorem d_M_endRun_16 : decode prog_10_method_4_code 16 = .ok (.if_icmp .ge 16, 3) := by decide +kernel
theorem d_M_endRun_32 : decode prog_10_method_4_code 32 = .ok (.return_, 1) := by decide +kernel
theorem d_M_endRun_19 : decode prog_10_method_4_code 19 = .ok (.aload_n 0, 1) := by decide +kernel
theorem d_M_endRun_20 : decode prog_10_method_4_code 20 = .ok (.getfield 84, 3) := by decide +kernel
theorem d_M_endRun_23 : decode prog_10_method_4_code 23 = .ok (.iload_n 1, 1) := by decide +kernel
theorem d_M_endRun_24 : decode prog_10_method_4_code 24 = .ok (.iconst 0, 1) := by decide +kernel
theorem d_M_endRun_25 : decode prog_10_method_4_code 25 = .ok (.bastore, 1) := by decide +kernel
theorem d_M_endRun_26 : decode prog_10_method_4_code 26 = .ok (.iinc 1 1, 3) := by decide +kernel
theorem d_M_endRun_29 : decode prog_10_method_4_code 29 = .ok (.goto (-17), 3) := by decide +kernel
theorem d_M_forget_0 : decode prog_10_method_5_code 0 = .ok (.aload_n 0, 1) := by decide +kernel
theorem d_M_forget_1 : decode prog_10_method_5_code 1 = .ok (.iconst 0, 1) := by decide +kernel
theorem d_M_forget_2 : decode prog_10_method_5_code 2 = .ok (.putfield 102, 3) := by decide +kernel
theorem d_M_forget_5 : decode prog_10_method_5_code 5 = .ok (.aload_n 0, 1) := by decide +kernel
theorem d_M_forget_6 : decode prog_10_method_5_code 6 = .ok (.invokevirtual 106, 3) := by decide +kernel
theorem d_M_forget_9 : decode prog_10_method_5_code 9 = .ok (.return_, 1) := by decide +kernel
theorem d_M_thrown_0 : decode prog_10_method_2_code 0 = .ok (.aload_n 0, 1) := by decide +kernel
theorem d_M_thrown_1 : decode prog_10_method_2_code 1 = .ok (.getfield 99, 3) := by decide +kernel
theorem d_M_thrown_4 : decode prog_10_method_2_code 4 = .ok (.ireturn, 1) := by decide +kernel
theorem d_M_fail_0 : decode prog_10_method_3_code 0 = .ok (.aload_n 0, 1) := by decide +kernel
theorem d_M_fail_1 : decode prog_10_method_3_code 1 = .ok (.iload_n 1, 1) := by decide +kernel
theorem d_M_fail_2 : decode prog_10_method_3_code 2 = .ok (.putfield 99, 3) := by decide +kernel
theorem d_M_fail_5 : decode prog_10_method_3_code 5 = .ok (.iconst 0, 1) := by decide +kernel
theorem d_M_fail_6 : decode prog_10_method_3_code 6 = .ok (.ireturn, 1) := by decide +kernel
theorem d_M_blame_0 : decode prog_10_method_16_code 0 = .ok (.aload_n 0, 1) := by decide +kernel
theorem d_M_blame_1 : decode prog_10_method_16_code 1 = .ok (.iload_n 1, 1) := by decide +kernel
theorem d_M_blame_2 : decode prog_10_method_16_code 2 = .ok (.putfield 141, 3) := by decide +kernel
theorem d_M_blame_5 : decode prog_10_method_16_code 5 = .ok (.aload_n 0, 1) := by decide +kernel
theorem d_M_blame_6 : decode prog_10_method_16_code 6 = .ok (.iload_n 2, 1) := by decide +kernel
theorem d_M_blame_7 : decode prog_10_method_16_code 7 = .ok (.putfield 32, 3) := by decide +kernel
theorem d_M_blame_10 : decode prog_10_method_16_code 10 = .ok (.aload_n 0, 1) := by decide +kernel
theorem d_M_blame_11 : decode prog_10_method_16_code 11 = .ok (.iload_n 3, 1) := by decide +kernel
theorem d_M_blame_12 : decode prog_10_method_16_code 12 = .ok (.putfield 36, 3) := by decide +kernel
theorem d_M_blame_15 : decode prog_10_method_16_code 15 = .ok (.iconst 1, 1) := by decide +kernel
theorem d_M_blame_16 : decode prog_10_method_16_code 16 = .ok (.ireturn, 1) := by decide +kernel
theorem d_M_isSymbol_0 : decode prog_10_method_7_code 0 = .ok (.iload_n 1, 1) := by decide +kernel
theorem d_M_isSymbol_1 : decode prog_10_method_7_code 1 = .ok (.ifCond .lt 15, 3) := by decide +kernel
theorem d_M_isSymbol_16 : decode prog_10_method_7_code 16 = .ok (.iconst 0, 1) := by decide +kernel
theorem d_M_isSymbol_17 : decode prog_10_method_7_code 17 = .ok (.ireturn, 1) := by decide +kernel
theorem d_M_isSymbol_4 : decode prog_10_method_7_code 4 = .ok (.iload_n 1, 1) := by decide +kernel
theorem d_M_isSymbol_5 : decode prog_10_method_7_code 5 = .ok (.aload_n 0, 1) := by decide +kernel
theorem d_M_isSymbol_6 : decode prog_10_method_7_code 6 = .ok (.getfield 109, 3) := by decide +kernel
theorem d_M_isSymbol_9 : decode prog_10_method_7_code 9 = .ok (.if_icmp .ge 7, 3) := by decide +kernel
theorem d_M_isNode_0 : decode prog_10_method_39_code 0 = .ok (.iload_n 1, 1) := by decide +kernel
theorem d_M_isNode_1 : decode prog_10_method_39_code 1 = .ok (.ifCond .lt 15, 3) := by decide +kernel
theorem d_M_isNode_16 : decode prog_10_method_39_code 16 = .ok (.iconst 0, 1) := by decide +kernel
theorem d_M_isNode_17 : decode prog_10_method_39_code 17 = .ok (.ireturn, 1) := by decide +kernel
theorem d_M_isNode_4 : decode prog_10_method_39_code 4 = .ok (.iload_n 1, 1) := by decide +kernel
theorem d_M_isNode_5 : decode prog_10_method_39_code 5 = .ok (.aload_n 0, 1) := by decide +kernel
theorem d_M_isNode_6 : decode prog_10_method_39_code 6 = .ok (.getfield 194, 3) := by decide +kernel
theorem d_M_isNode_9 : decode prog_10_method_39_code 9 = .ok (.if_icmp .ge 7, 3) := by decide +kernel
theorem d_M_isAttribute_0 : decode prog_10_method_47_code 0 = .ok (.aload_n 0, 1) := by decide +kernel
theorem d_M_isAttribute_1 : decode prog_10_method_47_code 1 = .ok (.iload_n 1, 1) := by decide +kernel
theorem d_M_isAttribute_2 : decode prog_10_method_47_code 2 = .ok (.invokevirtual 200, 3) := by decide +kernel
theorem d_M_isAttribute_5 : decode prog_10_method_47_code 5 = .ok (.ifCond .eq 33, 3) := by decide +kernel
theorem d_M_isAttribute_38 : decode prog_10_method_47_code 38 = .ok (.iconst 0, 1) := by decide +kernel
theorem d_M_isAttribute_39 : decode prog_10_method_47_code 39 = .ok (.ireturn, 1) := by decide +kernel
theorem d_M_lacks_0 : decode prog_10_method_15_code 0 = .ok (.iconst 0, 1) := by decide +kernel
theorem d_M_lacks_1 : decode prog_10_method_15_code 1 = .ok (.istore_n 1, 1) := by decide +kernel
theorem d_M_lacks_2 : decode prog_10_method_15_code 2 = .ok (.iload_n 1, 1) := by decide +kernel
theorem d_M_lacks_3 : decode prog_10_method_15_code 3 = .ok (.aload_n 0, 1) := by decide +kernel
theorem d_M_lacks_4 : decode prog_10_method_15_code 4 = .ok (.getfield 119, 3) := by decide +kernel
theorem d_M_lacks_7 : decode prog_10_method_15_code 7 = .ok (.if_icmp .ge 55, 3) := by decide +kernel
theorem d_M_lacks_62 : decode prog_10_method_15_code 62 = .ok (.iconst 0, 1) := by decide +kernel
theorem d_M_lacks_63 : decode prog_10_method_15_code 63 = .ok (.ireturn, 1) := by decide +kernel
theorem d_M_symbol_0 : decode prog_10_method_6_code 0 = .ok (.aload_n 0, 1) := by decide +kernel
theorem d_M_symbol_1 : decode prog_10_method_6_code 1 = .ok (.iload_n 1, 1) := by decide +kernel
theorem d_M_symbol_2 : decode prog_10_method_6_code 2 = .ok (.ifCond .lt 8, 3) := by decide +kernel
theorem d_M_symbol_5 : decode prog_10_method_6_code 5 = .ok (.iload_n 1, 1) := by decide +kernel
theorem d_M_symbol_6 : decode prog_10_method_6_code 6 = .ok (.iconst 4, 1) := by decide +kernel
theorem d_M_symbol_7 : decode prog_10_method_6_code 7 = .ok (.if_icmp .le 7, 3) := by decide +kernel
theorem d_M_symbol_14 : decode prog_10_method_6_code 14 = .ok (.aload_n 0, 1) := by decide +kernel
theorem d_M_symbol_15 : decode prog_10_method_6_code 15 = .ok (.getfield 109, 3) := by decide +kernel
theorem d_M_symbol_18 : decode prog_10_method_6_code 18 = .ok (.bipush 6, 2) := by decide +kernel
theorem d_M_symbol_20 : decode prog_10_method_6_code 20 = .ok (.if_icmp .ne 7, 3) := by decide +kernel
theorem d_M_symbol_27 : decode prog_10_method_6_code 27 = .ok (.iconst 0, 1) := by decide +kernel
theorem d_M_symbol_28 : decode prog_10_method_6_code 28 = .ok (.putfield 99, 3) := by decide +kernel
theorem d_M_symbol_31 : decode prog_10_method_6_code 31 = .ok (.aload_n 0, 1) := by decide +kernel
theorem d_M_symbol_32 : decode prog_10_method_6_code 32 = .ok (.getfield 99, 3) := by decide +kernel
theorem d_M_symbol_35 : decode prog_10_method_6_code 35 = .ok (.ifCond .le 5, 3) := by decide +kernel
theorem d_M_symbol_40 : decode prog_10_method_6_code 40 = .ok (.aload_n 0, 1) := by decide +kernel
theorem d_M_symbol_41 : decode prog_10_method_6_code 41 = .ok (.getfield 7, 3) := by decide +kernel
theorem d_M_symbol_44 : decode prog_10_method_6_code 44 = .ok (.aload_n 0, 1) := by decide +kernel
theorem d_M_symbol_45 : decode prog_10_method_6_code 45 = .ok (.getfield 109, 3) := by decide +kernel
theorem d_M_symbol_48 : decode prog_10_method_6_code 48 = .ok (.iload_n 1, 1) := by decide +kernel
theorem d_M_symbol_49 : decode prog_10_method_6_code 49 = .ok (.iastore, 1) := by decide +kernel
theorem d_M_symbol_50 : decode prog_10_method_6_code 50 = .ok (.iconst 0, 1) := by decide +kernel
theorem d_M_symbol_51 : decode prog_10_method_6_code 51 = .ok (.istore_n 3, 1) := by decide +kernel
theorem d_M_symbol_52 : decode prog_10_method_6_code 52 = .ok (.iload_n 3, 1) := by decide +kernel
theorem d_M_symbol_53 : decode prog_10_method_6_code 53 = .ok (.iconst 4, 1) := by decide +kernel
theorem d_M_symbol_54 : decode prog_10_method_6_code 54 = .ok (.if_icmp .ge 41, 3) := by decide +kernel
theorem d_M_symbol_57 : decode prog_10_method_6_code 57 = .ok (.aload_n 0, 1) := by decide +kernel
theorem d_M_symbol_58 : decode prog_10_method_6_code 58 = .ok (.getfield 13, 3) := by decide +kernel
theorem d_M_symbol_61 : decode prog_10_method_6_code 61 = .ok (.iconst 4, 1) := by decide +kernel
theorem d_M_symbol_62 : decode prog_10_method_6_code 62 = .ok (.aload_n 0, 1) := by decide +kernel
theorem d_M_symbol_63 : decode prog_10_method_6_code 63 = .ok (.getfield 109, 3) := by decide +kernel
theorem d_M_symbol_66 : decode prog_10_method_6_code 66 = .ok (.imul, 1) := by decide +kernel
theorem d_M_symbol_67 : decode prog_10_method_6_code 67 = .ok (.iload_n 3, 1) := by decide +kernel
theorem d_M_symbol_68 : decode prog_10_method_6_code 68 = .ok (.iadd, 1) := by decide +kernel
theorem d_M_symbol_88 : decode prog_10_method_6_code 88 = .ok (.bastore, 1) := by decide +kernel
theorem d_M_symbol_89 : decode prog_10_method_6_code 89 = .ok (.iinc 3 1, 3) := by decide +kernel
theorem d_M_symbol_92 : decode prog_10_method_6_code 92 = .ok (.goto (-40), 3) := by decide +kernel
theorem d_M_symbol_95 : decode prog_10_method_6_code 95 = .ok (.aload_n 0, 1) := by decide +kernel
theorem d_M_symbol_96 : decode prog_10_method_6_code 96 = .ok (.dup, 1) := by decide +kernel
theorem d_M_symbol_97 : decode prog_10_method_6_code 97 = .ok (.getfield 109, 3) := by decide +kernel
theorem d_M_symbol_100 : decode prog_10_method_6_code 100 = .ok (.iconst 1, 1) := by decide +kernel
theorem d_M_symbol_101 : decode prog_10_method_6_code 101 = .ok (.iadd, 1) := by decide +kernel
theorem d_M_symbol_102 : decode prog_10_method_6_code 102 = .ok (.putfield 109, 3) := by decide +kernel
theorem d_M_symbol_105 : decode prog_10_method_6_code 105 = .ok (.aload_n 0, 1) := by decide +kernel
theorem d_M_symbol_106 : decode prog_10_method_6_code 106 = .ok (.invokevirtual 112, 3) := by decide +kernel
theorem d_M_symbol_109 : decode prog_10_method_6_code 109 = .ok (.aload_n 0, 1) := by decide +kernel
theorem d_M_symbol_110 : decode prog_10_method_6_code 110 = .ok (.getfield 109, 3) := by decide +kernel
theorem d_M_symbol_113 : decode prog_10_method_6_code 113 = .ok (.iconst 1, 1) := by decide +kernel
theorem d_M_symbol_114 : decode prog_10_method_6_code 114 = .ok (.isub, 1) := by decide +kernel
theorem d_M_symbol_115 : decode prog_10_method_6_code 115 = .ok (.ireturn, 1) := by decide +kernel
theorem d_M_symbol_69 : decode prog_10_method_6_code 69 = .ok (.iload_n 3, 1) := by decide +kernel
theorem d_M_symbol_70 : decode prog_10_method_6_code 70 = .ok (.iload_n 1, 1) := by decide +kernel
theorem d_M_symbol_71 : decode prog_10_method_6_code 71 = .ok (.if_icmp .ge 16, 3) := by decide +kernel
theorem d_M_symbol_87 : decode prog_10_method_6_code 87 = .ok (.iconst 0, 1) := by decide +kernel
theorem d_M_symbol_74 : decode prog_10_method_6_code 74 = .ok (.iload_n 2, 1) := by decide +kernel
theorem d_M_symbol_75 : decode prog_10_method_6_code 75 = .ok (.iload_n 3, 1) := by decide +kernel
theorem d_M_symbol_76 : decode prog_10_method_6_code 76 = .ok (.ishr, 1) := by decide +kernel
theorem d_M_symbol_77 : decode prog_10_method_6_code 77 = .ok (.iconst 1, 1) := by decide +kernel
theorem d_M_symbol_78 : decode prog_10_method_6_code 78 = .ok (.iand, 1) := by decide +kernel
theorem d_M_symbol_79 : decode prog_10_method_6_code 79 = .ok (.iconst 1, 1) := by decide +kernel
theorem d_M_symbol_80 : decode prog_10_method_6_code 80 = .ok (.if_icmp .ne 7, 3) := by decide +kernel
theorem d_M_symbol_83 : decode prog_10_method_6_code 83 = .ok (.iconst 1, 1) := by decide +kernel
theorem d_M_symbol_84 : decode prog_10_method_6_code 84 = .ok (.goto 4, 3) := by decide +kernel
theorem d_M_symbol_10 : decode prog_10_method_6_code 10 = .ok (.iconst 1, 1) := by decide +kernel
theorem d_M_symbol_11 : decode prog_10_method_6_code 11 = .ok (.goto 17, 3) := by decide +kernel
theorem d_M_symbol_38 : decode prog_10_method_6_code 38 = .ok (.iconst 0, 1) := by decide +kernel
theorem d_M_symbol_39 : decode prog_10_method_6_code 39 = .ok (.ireturn, 1) := by decide +kernel
theorem d_M_production_29 : decode prog_10_method_8_code 29 = .ok (.istore 5, 2) := by decide +kernel
theorem d_M_production_55 : decode prog_10_method_8_code 55 = .ok (.istore 6, 2) := by decide +kernel
theorem d_M_production_77 : decode prog_10_method_8_code 77 = .ok (.istore 7, 2) := by decide +kernel
theorem d_M_production_79 : decode prog_10_method_8_code 79 = .ok (.aload_n 0, 1) := by decide +kernel
theorem d_M_production_80 : decode prog_10_method_8_code 80 = .ok (.aload_n 0, 1) := by decide +kernel
theorem d_M_production_81 : decode prog_10_method_8_code 81 = .ok (.iload_n 1, 1) := by decide +kernel
theorem d_M_production_82 : decode prog_10_method_8_code 82 = .ok (.invokevirtual 115, 3) := by decide +kernel
theorem d_M_production_85 : decode prog_10_method_8_code 85 = .ok (.ifCond .eq 18, 3) := by decide +kernel
theorem d_M_production_103 : decode prog_10_method_8_code 103 = .ok (.iconst 1, 1) := by decide +kernel
theorem d_M_production_104 : decode prog_10_method_8_code 104 = .ok (.goto 17, 3) := by decide +kernel
theorem d_M_production_121 : decode prog_10_method_8_code 121 = .ok (.putfield 99, 3) := by decide +kernel
theorem d_M_production_124 : decode prog_10_method_8_code 124 = .ok (.aload_n 0, 1) := by decide +kernel
theorem d_M_production_125 : decode prog_10_method_8_code 125 = .ok (.getfield 99, 3) := by decide +kernel
theorem d_M_production_128 : decode prog_10_method_8_code 128 = .ok (.ifCond .le 5, 3) := by decide +kernel
theorem d_M_production_131 : decode prog_10_method_8_code 131 = .ok (.iconst 0, 1) := by decide +kernel
theorem d_M_production_132 : decode prog_10_method_8_code 132 = .ok (.ireturn, 1) := by decide +kernel
theorem d_M_production_57 : decode prog_10_method_8_code 57 = .ok (.iload 4, 2) := by decide +kernel
theorem d_M_production_59 : decode prog_10_method_8_code 59 = .ok (.iconst (-1), 1) := by decide +kernel
theorem d_M_production_60 : decode prog_10_method_8_code 60 = .ok (.if_icmp .eq 12, 3) := by decide +kernel
theorem d_M_production_72 : decode prog_10_method_8_code 72 = .ok (.iconst 1, 1) := by decide +kernel
theorem d_M_production_73 : decode prog_10_method_8_code 73 = .ok (.goto 4, 3) := by decide +kernel
theorem d_M_production_63 : decode prog_10_method_8_code 63 = .ok (.aload_n 0, 1) := by decide +kernel
theorem d_M_production_64 : decode prog_10_method_8_code 64 = .ok (.iload 4, 2) := by decide +kernel
theorem d_M_production_66 : decode prog_10_method_8_code 66 = .ok (.invokevirtual 115, 3) := by decide +kernel
theorem d_M_production_69 : decode prog_10_method_8_code 69 = .ok (.ifCond .eq 7, 3) := by decide +kernel
theorem d_M_production_76 : decode prog_10_method_8_code 76 = .ok (.iconst 0, 1) := by decide +kernel
theorem d_M_production_31 : decode prog_10_method_8_code 31 = .ok (.iload_n 3, 1) := by decide +kernel
theorem d_M_production_32 : decode prog_10_method_8_code 32 = .ok (.iconst (-1), 1) := by decide +kernel
theorem d_M_production_33 : decode prog_10_method_8_code 33 = .ok (.if_icmp .ne 17, 3) := by decide +kernel
theorem d_M_production_50 : decode prog_10_method_8_code 50 = .ok (.aload_n 0, 1) := by decide +kernel
theorem d_M_production_51 : decode prog_10_method_8_code 51 = .ok (.iload_n 3, 1) := by decide +kernel
end
section
theorem d_M_production_52 : decode prog_10_method_8_code 52 = .ok (.invokevirtual 115, 3) := by decide +kernel
theorem d_M_production_36 : decode prog_10_method_8_code 36 = .ok (.iload 4, 2) := by decide +kernel
theorem d_M_production_38 : decode prog_10_method_8_code 38 = .ok (.iconst (-1), 1) := by decide +kernel
theorem d_M_production_39 : decode prog_10_method_8_code 39 = .ok (.if_icmp .ne 7, 3) := by decide +kernel
theorem d_M_production_46 : decode prog_10_method_8_code 46 = .ok (.iconst 0, 1) := by decide +kernel
theorem d_M_production_47 : decode prog_10_method_8_code 47 = .ok (.goto 8, 3) := by decide +kernel
theorem d_M_production_42 : decode prog_10_method_8_code 42 = .ok (.iconst 1, 1) := by decide +kernel
theorem d_M_production_43 : decode prog_10_method_8_code 43 = .ok (.goto 12, 3) := by decide +kernel
theorem d_M_production_0 : decode prog_10_method_8_code 0 = .ok (.iload_n 2, 1) := by decide +kernel
theorem d_M_production_1 : decode prog_10_method_8_code 1 = .ok (.iconst (-1), 1) := by decide +kernel
theorem d_M_production_2 : decode prog_10_method_8_code 2 = .ok (.if_icmp .ne 22, 3) := by decide +kernel
theorem d_M_production_24 : decode prog_10_method_8_code 24 = .ok (.aload_n 0, 1) := by decide +kernel
theorem d_M_production_25 : decode prog_10_method_8_code 25 = .ok (.iload_n 2, 1) := by decide +kernel
theorem d_M_production_26 : decode prog_10_method_8_code 26 = .ok (.invokevirtual 115, 3) := by decide +kernel
theorem d_M_production_5 : decode prog_10_method_8_code 5 = .ok (.iload_n 3, 1) := by decide +kernel
theorem d_M_production_6 : decode prog_10_method_8_code 6 = .ok (.iconst (-1), 1) := by decide +kernel
theorem d_M_production_7 : decode prog_10_method_8_code 7 = .ok (.if_icmp .ne 13, 3) := by decide +kernel
theorem d_M_production_20 : decode prog_10_method_8_code 20 = .ok (.iconst 0, 1) := by decide +kernel
theorem d_M_production_21 : decode prog_10_method_8_code 21 = .ok (.goto 8, 3) := by decide +kernel
theorem d_M_production_10 : decode prog_10_method_8_code 10 = .ok (.iload 4, 2) := by decide +kernel
theorem d_M_production_12 : decode prog_10_method_8_code 12 = .ok (.iconst (-1), 1) := by decide +kernel
theorem d_M_production_13 : decode prog_10_method_8_code 13 = .ok (.if_icmp .ne 7, 3) := by decide +kernel
theorem d_M_production_16 : decode prog_10_method_8_code 16 = .ok (.iconst 1, 1) := by decide +kernel
theorem d_M_production_17 : decode prog_10_method_8_code 17 = .ok (.goto 12, 3) := by decide +kernel
theorem d_M_rule_0 : decode prog_10_method_13_code 0 = .ok (.aload_n 0, 1) := by decide +kernel
theorem d_M_rule_1 : decode prog_10_method_13_code 1 = .ok (.iload_n 1, 1) := by decide +kernel
theorem d_M_rule_2 : decode prog_10_method_13_code 2 = .ok (.ifCond .lt 11, 3) := by decide +kernel
theorem d_M_rule_13 : decode prog_10_method_13_code 13 = .ok (.iconst 1, 1) := by decide +kernel
theorem d_M_rule_14 : decode prog_10_method_13_code 14 = .ok (.goto 4, 3) := by decide +kernel
theorem d_M_rule_18 : decode prog_10_method_13_code 18 = .ok (.putfield 99, 3) := by decide +kernel
theorem d_M_rule_21 : decode prog_10_method_13_code 21 = .ok (.aload_n 0, 1) := by decide +kernel
theorem d_M_rule_22 : decode prog_10_method_13_code 22 = .ok (.getfield 99, 3) := by decide +kernel
theorem d_M_rule_25 : decode prog_10_method_13_code 25 = .ok (.ifCond .le 4, 3) := by decide +kernel
theorem d_M_rule_28 : decode prog_10_method_13_code 28 = .ok (.return_, 1) := by decide +kernel
theorem d_M_rule_5 : decode prog_10_method_13_code 5 = .ok (.iload_n 1, 1) := by decide +kernel
theorem d_M_rule_6 : decode prog_10_method_13_code 6 = .ok (.aload_n 0, 1) := by decide +kernel
theorem d_M_rule_7 : decode prog_10_method_13_code 7 = .ok (.getfield 119, 3) := by decide +kernel
theorem d_M_rule_10 : decode prog_10_method_13_code 10 = .ok (.if_icmp .lt 7, 3) := by decide +kernel
theorem d_M_analyse_0 : decode prog_10_method_30_code 0 = .ok (.aload_n 0, 1) := by decide +kernel
theorem d_M_analyse_1 : decode prog_10_method_30_code 1 = .ok (.iconst 0, 1) := by decide +kernel
theorem d_M_analyse_2 : decode prog_10_method_30_code 2 = .ok (.putfield 99, 3) := by decide +kernel
theorem d_M_analyse_5 : decode prog_10_method_30_code 5 = .ok (.aload_n 0, 1) := by decide +kernel
theorem d_M_analyse_6 : decode prog_10_method_30_code 6 = .ok (.invokevirtual 112, 3) := by decide +kernel
theorem d_M_analyse_9 : decode prog_10_method_30_code 9 = .ok (.aload_n 0, 1) := by decide +kernel
theorem d_M_analyse_10 : decode prog_10_method_30_code 10 = .ok (.iconst 0, 1) := by decide +kernel
theorem d_M_analyse_11 : decode prog_10_method_30_code 11 = .ok (.iconst (-1), 1) := by decide +kernel
theorem d_M_analyse_12 : decode prog_10_method_30_code 12 = .ok (.iconst (-1), 1) := by decide +kernel
theorem d_M_analyse_13 : decode prog_10_method_30_code 13 = .ok (.invokevirtual 137, 3) := by decide +kernel
theorem d_M_analyse_16 : decode prog_10_method_30_code 16 = .ok (.pop, 1) := by decide +kernel
theorem d_M_analyse_17 : decode prog_10_method_30_code 17 = .ok (.aload_n 0, 1) := by decide +kernel
theorem d_M_analyse_18 : decode prog_10_method_30_code 18 = .ok (.invokevirtual 171, 3) := by decide +kernel
theorem d_M_analyse_21 : decode prog_10_method_30_code 21 = .ok (.ifCond .ne 10, 3) := by decide +kernel
theorem d_M_analyse_24 : decode prog_10_method_30_code 24 = .ok (.aload_n 0, 1) := by decide +kernel
theorem d_M_analyse_25 : decode prog_10_method_30_code 25 = .ok (.getfield 119, 3) := by decide +kernel
theorem d_M_analyse_28 : decode prog_10_method_30_code 28 = .ok (.ifCond .ne 9, 3) := by decide +kernel
theorem d_M_analyse_31 : decode prog_10_method_30_code 31 = .ok (.aload_n 0, 1) := by decide +kernel
theorem d_M_analyse_32 : decode prog_10_method_30_code 32 = .ok (.iconst 1, 1) := by decide +kernel
theorem d_M_analyse_33 : decode prog_10_method_30_code 33 = .ok (.invokevirtual 175, 3) := by decide +kernel
theorem d_M_analyse_36 : decode prog_10_method_30_code 36 = .ok (.ireturn, 1) := by decide +kernel
theorem d_M_fault_0 : decode prog_10_method_31_code 0 = .ok (.aload_n 0, 1) := by decide +kernel
theorem d_M_fault_1 : decode prog_10_method_31_code 1 = .ok (.iconst 0, 1) := by decide +kernel
theorem d_M_fault_2 : decode prog_10_method_31_code 2 = .ok (.putfield 99, 3) := by decide +kernel
theorem d_M_fault_5 : decode prog_10_method_31_code 5 = .ok (.iload_n 1, 1) := by decide +kernel
theorem d_M_fault_6 : decode prog_10_method_31_code 6 = .ok (.ifCond .ne 10, 3) := by decide +kernel
theorem d_M_fault_9 : decode prog_10_method_31_code 9 = .ok (.aload_n 0, 1) := by decide +kernel
theorem d_M_fault_10 : decode prog_10_method_31_code 10 = .ok (.getfield 141, 3) := by decide +kernel
theorem d_M_fault_13 : decode prog_10_method_31_code 13 = .ok (.goto 28, 3) := by decide +kernel
theorem d_M_fault_41 : decode prog_10_method_31_code 41 = .ok (.ireturn, 1) := by decide +kernel
theorem d_M_fault_16 : decode prog_10_method_31_code 16 = .ok (.iload_n 1, 1) := by decide +kernel
theorem d_M_fault_17 : decode prog_10_method_31_code 17 = .ok (.iconst 1, 1) := by decide +kernel
theorem d_M_fault_18 : decode prog_10_method_31_code 18 = .ok (.if_icmp .ne 10, 3) := by decide +kernel
theorem d_M_fault_21 : decode prog_10_method_31_code 21 = .ok (.aload_n 0, 1) := by decide +kernel
theorem d_M_fault_22 : decode prog_10_method_31_code 22 = .ok (.getfield 32, 3) := by decide +kernel
theorem d_M_fault_25 : decode prog_10_method_31_code 25 = .ok (.goto 16, 3) := by decide +kernel
theorem d_M_fault_28 : decode prog_10_method_31_code 28 = .ok (.iload_n 1, 1) := by decide +kernel
theorem d_M_fault_29 : decode prog_10_method_31_code 29 = .ok (.iconst 2, 1) := by decide +kernel
theorem d_M_fault_30 : decode prog_10_method_31_code 30 = .ok (.if_icmp .ne 10, 3) := by decide +kernel
theorem d_M_fault_33 : decode prog_10_method_31_code 33 = .ok (.aload_n 0, 1) := by decide +kernel
theorem d_M_fault_34 : decode prog_10_method_31_code 34 = .ok (.getfield 36, 3) := by decide +kernel
theorem d_M_fault_37 : decode prog_10_method_31_code 37 = .ok (.goto 4, 3) := by decide +kernel
theorem d_M_fault_40 : decode prog_10_method_31_code 40 = .ok (.iconst (-1), 1) := by decide +kernel
theorem d_M_visits_0 : decode prog_10_method_32_code 0 = .ok (.aload_n 0, 1) := by decide +kernel
theorem d_M_visits_1 : decode prog_10_method_32_code 1 = .ok (.aload_n 0, 1) := by decide +kernel
theorem d_M_visits_2 : decode prog_10_method_32_code 2 = .ok (.getfield 102, 3) := by decide +kernel
theorem d_M_visits_5 : decode prog_10_method_32_code 5 = .ok (.ifCond .ne 7, 3) := by decide +kernel
theorem d_M_visits_8 : decode prog_10_method_32_code 8 = .ok (.iconst 1, 1) := by decide +kernel
theorem d_M_visits_9 : decode prog_10_method_32_code 9 = .ok (.goto 16, 3) := by decide +kernel
theorem d_M_visits_25 : decode prog_10_method_32_code 25 = .ok (.putfield 99, 3) := by decide +kernel
theorem d_M_visits_28 : decode prog_10_method_32_code 28 = .ok (.aload_n 0, 1) := by decide +kernel
theorem d_M_visits_29 : decode prog_10_method_32_code 29 = .ok (.getfield 99, 3) := by decide +kernel
theorem d_M_visits_32 : decode prog_10_method_32_code 32 = .ok (.ifCond .le 7, 3) := by decide +kernel
theorem d_M_visits_35 : decode prog_10_method_32_code 35 = .ok (.iconst 0, 1) := by decide +kernel
theorem d_M_visits_36 : decode prog_10_method_32_code 36 = .ok (.goto 9, 3) := by decide +kernel
theorem d_M_visits_45 : decode prog_10_method_32_code 45 = .ok (.ireturn, 1) := by decide +kernel
theorem d_M_rank_0 : decode prog_10_method_33_code 0 = .ok (.aload_n 0, 1) := by decide +kernel
theorem d_M_rank_1 : decode prog_10_method_33_code 1 = .ok (.aload_n 0, 1) := by decide +kernel
theorem d_M_rank_2 : decode prog_10_method_33_code 2 = .ok (.getfield 102, 3) := by decide +kernel
theorem d_M_rank_5 : decode prog_10_method_33_code 5 = .ok (.ifCond .ne 7, 3) := by decide +kernel
theorem d_M_rank_8 : decode prog_10_method_33_code 8 = .ok (.iconst 1, 1) := by decide +kernel
theorem d_M_rank_9 : decode prog_10_method_33_code 9 = .ok (.goto 30, 3) := by decide +kernel
theorem d_M_rank_39 : decode prog_10_method_33_code 39 = .ok (.putfield 99, 3) := by decide +kernel
theorem d_M_rank_42 : decode prog_10_method_33_code 42 = .ok (.aload_n 0, 1) := by decide +kernel
theorem d_M_rank_43 : decode prog_10_method_33_code 43 = .ok (.getfield 99, 3) := by decide +kernel
theorem d_M_rank_46 : decode prog_10_method_33_code 46 = .ok (.ifCond .le 7, 3) := by decide +kernel
theorem d_M_rank_49 : decode prog_10_method_33_code 49 = .ok (.iconst 0, 1) := by decide +kernel
theorem d_M_rank_50 : decode prog_10_method_33_code 50 = .ok (.goto 13, 3) := by decide +kernel
theorem d_M_rank_63 : decode prog_10_method_33_code 63 = .ok (.ireturn, 1) := by decide +kernel
theorem d_M_instruction_0 : decode prog_10_method_34_code 0 = .ok (.aload_n 0, 1) := by decide +kernel
theorem d_M_instruction_1 : decode prog_10_method_34_code 1 = .ok (.aload_n 0, 1) := by decide +kernel
theorem d_M_instruction_2 : decode prog_10_method_34_code 2 = .ok (.getfield 102, 3) := by decide +kernel
theorem d_M_instruction_5 : decode prog_10_method_34_code 5 = .ok (.ifCond .ne 7, 3) := by decide +kernel
theorem d_M_instruction_8 : decode prog_10_method_34_code 8 = .ok (.iconst 1, 1) := by decide +kernel
theorem d_M_instruction_9 : decode prog_10_method_34_code 9 = .ok (.goto 24, 3) := by decide +kernel
theorem d_M_instruction_33 : decode prog_10_method_34_code 33 = .ok (.putfield 99, 3) := by decide +kernel
theorem d_M_instruction_36 : decode prog_10_method_34_code 36 = .ok (.aload_n 0, 1) := by decide +kernel
theorem d_M_instruction_37 : decode prog_10_method_34_code 37 = .ok (.getfield 99, 3) := by decide +kernel
theorem d_M_instruction_40 : decode prog_10_method_34_code 40 = .ok (.ifCond .le 5, 3) := by decide +kernel
theorem d_M_instruction_43 : decode prog_10_method_34_code 43 = .ok (.iconst 0, 1) := by decide +kernel
theorem d_M_instruction_44 : decode prog_10_method_34_code 44 = .ok (.ireturn, 1) := by decide +kernel
theorem d_M_node_0 : decode prog_10_method_36_code 0 = .ok (.iload_n 1, 1) := by decide +kernel
theorem d_M_node_1 : decode prog_10_method_36_code 1 = .ok (.ifCond .lt 47, 3) := by decide +kernel
theorem d_M_node_48 : decode prog_10_method_36_code 48 = .ok (.iconst 0, 1) := by decide +kernel
theorem d_M_node_49 : decode prog_10_method_36_code 49 = .ok (.istore 6, 2) := by decide +kernel
theorem d_M_node_51 : decode prog_10_method_36_code 51 = .ok (.iload 6, 2) := by decide +kernel
theorem d_M_node_53 : decode prog_10_method_36_code 53 = .ok (.ifCond .eq 37, 3) := by decide +kernel
theorem d_M_node_90 : decode prog_10_method_36_code 90 = .ok (.iconst 0, 1) := by decide +kernel
theorem d_M_node_91 : decode prog_10_method_36_code 91 = .ok (.istore 6, 2) := by decide +kernel
theorem d_M_node_93 : decode prog_10_method_36_code 93 = .ok (.aload_n 0, 1) := by decide +kernel
theorem d_M_node_94 : decode prog_10_method_36_code 94 = .ok (.iload 6, 2) := by decide +kernel
theorem d_M_node_96 : decode prog_10_method_36_code 96 = .ok (.ifCond .ne 7, 3) := by decide +kernel
theorem d_M_node_99 : decode prog_10_method_36_code 99 = .ok (.iconst 1, 1) := by decide +kernel
theorem d_M_node_100 : decode prog_10_method_36_code 100 = .ok (.goto 17, 3) := by decide +kernel
theorem d_M_node_117 : decode prog_10_method_36_code 117 = .ok (.putfield 99, 3) := by decide +kernel
theorem d_M_node_120 : decode prog_10_method_36_code 120 = .ok (.aload_n 0, 1) := by decide +kernel
theorem d_M_node_121 : decode prog_10_method_36_code 121 = .ok (.getfield 99, 3) := by decide +kernel
theorem d_M_node_124 : decode prog_10_method_36_code 124 = .ok (.ifCond .le 5, 3) := by decide +kernel
theorem d_M_node_127 : decode prog_10_method_36_code 127 = .ok (.iconst 0, 1) := by decide +kernel
theorem d_M_node_128 : decode prog_10_method_36_code 128 = .ok (.ireturn, 1) := by decide +kernel
theorem d_M_node_4 : decode prog_10_method_36_code 4 = .ok (.iload_n 1, 1) := by decide +kernel
theorem d_M_node_5 : decode prog_10_method_36_code 5 = .ok (.aload_n 0, 1) := by decide +kernel
theorem d_M_node_6 : decode prog_10_method_36_code 6 = .ok (.getfield 119, 3) := by decide +kernel
theorem d_M_node_9 : decode prog_10_method_36_code 9 = .ok (.if_icmp .ge 39, 3) := by decide +kernel
theorem d_M_fell_0 : decode prog_10_method_37_code 0 = .ok (.aload_n 0, 1) := by decide +kernel
theorem d_M_fell_1 : decode prog_10_method_37_code 1 = .ok (.iconst 0, 1) := by decide +kernel
theorem d_M_fell_2 : decode prog_10_method_37_code 2 = .ok (.putfield 99, 3) := by decide +kernel
theorem d_M_fell_5 : decode prog_10_method_37_code 5 = .ok (.aload_n 0, 1) := by decide +kernel
theorem d_M_fell_6 : decode prog_10_method_37_code 6 = .ok (.invokevirtual 106, 3) := by decide +kernel
theorem d_M_fell_9 : decode prog_10_method_37_code 9 = .ok (.aload_n 0, 1) := by decide +kernel
theorem d_M_fell_10 : decode prog_10_method_37_code 10 = .ok (.iconst 0, 1) := by decide +kernel
theorem d_M_fell_11 : decode prog_10_method_37_code 11 = .ok (.putfield 194, 3) := by decide +kernel
theorem d_M_fell_14 : decode prog_10_method_37_code 14 = .ok (.return_, 1) := by decide +kernel
theorem d_M_give_0 : decode prog_10_method_38_code 0 = .ok (.aload_n 0, 1) := by decide +kernel
theorem d_M_give_1 : decode prog_10_method_38_code 1 = .ok (.iload_n 1, 1) := by decide +kernel
theorem d_M_give_2 : decode prog_10_method_38_code 2 = .ok (.ifCond .lt 8, 3) := by decide +kernel
theorem d_M_give_10 : decode prog_10_method_38_code 10 = .ok (.iconst 1, 1) := by decide +kernel
theorem d_M_give_11 : decode prog_10_method_38_code 11 = .ok (.goto 4, 3) := by decide +kernel
theorem d_M_give_15 : decode prog_10_method_38_code 15 = .ok (.putfield 99, 3) := by decide +kernel
theorem d_M_give_18 : decode prog_10_method_38_code 18 = .ok (.aload_n 0, 1) := by decide +kernel
theorem d_M_give_19 : decode prog_10_method_38_code 19 = .ok (.getfield 99, 3) := by decide +kernel
theorem d_M_give_22 : decode prog_10_method_38_code 22 = .ok (.ifCond .ne 10, 3) := by decide +kernel
theorem d_M_give_32 : decode prog_10_method_38_code 32 = .ok (.return_, 1) := by decide +kernel
theorem d_M_give_5 : decode prog_10_method_38_code 5 = .ok (.iload_n 1, 1) := by decide +kernel
theorem d_M_give_6 : decode prog_10_method_38_code 6 = .ok (.iconst 3, 1) := by decide +kernel
theorem d_M_give_7 : decode prog_10_method_38_code 7 = .ok (.if_icmp .le 7, 3) := by decide +kernel
theorem d_M_give_14 : decode prog_10_method_38_code 14 = .ok (.iconst 0, 1) := by decide +kernel
theorem d_M_give_25 : decode prog_10_method_38_code 25 = .ok (.aload_n 0, 1) := by decide +kernel
theorem d_M_give_26 : decode prog_10_method_38_code 26 = .ok (.getfield 90, 3) := by decide +kernel
theorem d_M_give_29 : decode prog_10_method_38_code 29 = .ok (.iload_n 1, 1) := by decide +kernel
theorem d_M_give_30 : decode prog_10_method_38_code 30 = .ok (.iload_n 2, 1) := by decide +kernel
theorem d_M_give_31 : decode prog_10_method_38_code 31 = .ok (.iastore, 1) := by decide +kernel
theorem d_M_start_0 : decode prog_10_method_40_code 0 = .ok (.aload_n 0, 1) := by decide +kernel
theorem d_M_start_1 : decode prog_10_method_40_code 1 = .ok (.aload_n 0, 1) := by decide +kernel
theorem d_M_start_2 : decode prog_10_method_40_code 2 = .ok (.getfield 102, 3) := by decide +kernel
theorem d_M_start_5 : decode prog_10_method_40_code 5 = .ok (.ifCond .ne 7, 3) := by decide +kernel
theorem d_M_start_8 : decode prog_10_method_40_code 8 = .ok (.iconst 1, 1) := by decide +kernel
theorem d_M_start_9 : decode prog_10_method_40_code 9 = .ok (.goto 16, 3) := by decide +kernel
theorem d_M_start_25 : decode prog_10_method_40_code 25 = .ok (.putfield 99, 3) := by decide +kernel
theorem d_M_start_28 : decode prog_10_method_40_code 28 = .ok (.aload_n 0, 1) := by decide +kernel
theorem d_M_start_29 : decode prog_10_method_40_code 29 = .ok (.getfield 99, 3) := by decide +kernel
theorem d_M_start_32 : decode prog_10_method_40_code 32 = .ok (.ifCond .le 4, 3) := by decide +kernel
theorem d_M_start_35 : decode prog_10_method_40_code 35 = .ok (.return_, 1) := by decide +kernel
theorem d_M_run_0 : decode prog_10_method_44_code 0 = .ok (.aload_n 0, 1) := by decide +kernel
theorem d_M_run_1 : decode prog_10_method_44_code 1 = .ok (.iload_n 1, 1) := by decide +kernel
theorem d_M_run_2 : decode prog_10_method_44_code 2 = .ok (.ifCond .lt 10, 3) := by decide +kernel
theorem d_M_run_12 : decode prog_10_method_44_code 12 = .ok (.iconst 1, 1) := by decide +kernel
theorem d_M_run_13 : decode prog_10_method_44_code 13 = .ok (.goto 16, 3) := by decide +kernel
theorem d_M_run_29 : decode prog_10_method_44_code 29 = .ok (.putfield 99, 3) := by decide +kernel
theorem d_M_run_32 : decode prog_10_method_44_code 32 = .ok (.aload_n 0, 1) := by decide +kernel
theorem d_M_run_33 : decode prog_10_method_44_code 33 = .ok (.getfield 99, 3) := by decide +kernel
theorem d_M_run_36 : decode prog_10_method_44_code 36 = .ok (.ifCond .le 5, 3) := by decide +kernel
theorem d_M_run_39 : decode prog_10_method_44_code 39 = .ok (.iconst 0, 1) := by decide +kernel
theorem d_M_run_40 : decode prog_10_method_44_code 40 = .ok (.ireturn, 1) := by decide +kernel
theorem d_M_run_5 : decode prog_10_method_44_code 5 = .ok (.iload_n 1, 1) := by decide +kernel
theorem d_M_run_6 : decode prog_10_method_44_code 6 = .ok (.sipush 500, 3) := by decide +kernel
theorem d_M_run_9 : decode prog_10_method_44_code 9 = .ok (.if_icmp .le 7, 3) := by decide +kernel
theorem d_M_run_16 : decode prog_10_method_44_code 16 = .ok (.aload_n 0, 1) := by decide +kernel
theorem d_M_run_17 : decode prog_10_method_44_code 17 = .ok (.getfield 93, 3) := by decide +kernel
theorem d_M_run_20 : decode prog_10_method_44_code 20 = .ok (.iconst (-1), 1) := by decide +kernel
theorem d_M_run_21 : decode prog_10_method_44_code 21 = .ok (.if_icmp .ne 7, 3) := by decide +kernel
theorem d_M_run_24 : decode prog_10_method_44_code 24 = .ok (.iconst 2, 1) := by decide +kernel
end
section
theorem d_M_run_25 : decode prog_10_method_44_code 25 = .ok (.goto 4, 3) := by decide +kernel
theorem d_M_status_0 : decode prog_10_method_45_code 0 = .ok (.aload_n 0, 1) := by decide +kernel
theorem d_M_status_1 : decode prog_10_method_45_code 1 = .ok (.iconst 0, 1) := by decide +kernel
theorem d_M_status_2 : decode prog_10_method_45_code 2 = .ok (.putfield 99, 3) := by decide +kernel
theorem d_M_status_5 : decode prog_10_method_45_code 5 = .ok (.aload_n 0, 1) := by decide +kernel
theorem d_M_status_6 : decode prog_10_method_45_code 6 = .ok (.getfield 93, 3) := by decide +kernel
theorem d_M_status_9 : decode prog_10_method_45_code 9 = .ok (.iconst (-1), 1) := by decide +kernel
theorem d_M_status_10 : decode prog_10_method_45_code 10 = .ok (.if_icmp .ne 7, 3) := by decide +kernel
theorem d_M_status_13 : decode prog_10_method_45_code 13 = .ok (.iconst 0, 1) := by decide +kernel
theorem d_M_status_14 : decode prog_10_method_45_code 14 = .ok (.goto 16, 3) := by decide +kernel
theorem d_M_status_30 : decode prog_10_method_45_code 30 = .ok (.ireturn, 1) := by decide +kernel
theorem d_M_atHand_0 : decode prog_10_method_46_code 0 = .ok (.aload_n 0, 1) := by decide +kernel
theorem d_M_atHand_1 : decode prog_10_method_46_code 1 = .ok (.iconst 0, 1) := by decide +kernel
theorem d_M_atHand_2 : decode prog_10_method_46_code 2 = .ok (.putfield 99, 3) := by decide +kernel
theorem d_M_atHand_5 : decode prog_10_method_46_code 5 = .ok (.aload_n 0, 1) := by decide +kernel
theorem d_M_atHand_6 : decode prog_10_method_46_code 6 = .ok (.getfield 96, 3) := by decide +kernel
theorem d_M_atHand_9 : decode prog_10_method_46_code 9 = .ok (.ireturn, 1) := by decide +kernel
theorem d_M_knows_0 : decode prog_10_method_48_code 0 = .ok (.aload_n 0, 1) := by decide +kernel
theorem d_M_knows_1 : decode prog_10_method_48_code 1 = .ok (.aload_n 0, 1) := by decide +kernel
theorem d_M_knows_2 : decode prog_10_method_48_code 2 = .ok (.iload_n 1, 1) := by decide +kernel
theorem d_M_knows_3 : decode prog_10_method_48_code 3 = .ok (.iload_n 2, 1) := by decide +kernel
theorem d_M_knows_4 : decode prog_10_method_48_code 4 = .ok (.invokevirtual 212, 3) := by decide +kernel
theorem d_M_knows_7 : decode prog_10_method_48_code 7 = .ok (.ifCond .eq 7, 3) := by decide +kernel
theorem d_M_knows_14 : decode prog_10_method_48_code 14 = .ok (.iconst 1, 1) := by decide +kernel
theorem d_M_knows_15 : decode prog_10_method_48_code 15 = .ok (.putfield 99, 3) := by decide +kernel
theorem d_M_knows_18 : decode prog_10_method_48_code 18 = .ok (.aload_n 0, 1) := by decide +kernel
theorem d_M_knows_19 : decode prog_10_method_48_code 19 = .ok (.getfield 99, 3) := by decide +kernel
theorem d_M_knows_22 : decode prog_10_method_48_code 22 = .ok (.ifCond .ne 20, 3) := by decide +kernel
theorem d_M_knows_42 : decode prog_10_method_48_code 42 = .ok (.iconst 0, 1) := by decide +kernel
theorem d_M_knows_43 : decode prog_10_method_48_code 43 = .ok (.ireturn, 1) := by decide +kernel
theorem d_M_value_0 : decode prog_10_method_49_code 0 = .ok (.aload_n 0, 1) := by decide +kernel
theorem d_M_value_1 : decode prog_10_method_49_code 1 = .ok (.aload_n 0, 1) := by decide +kernel
theorem d_M_value_2 : decode prog_10_method_49_code 2 = .ok (.iload_n 1, 1) := by decide +kernel
theorem d_M_value_3 : decode prog_10_method_49_code 3 = .ok (.iload_n 2, 1) := by decide +kernel
theorem d_M_value_4 : decode prog_10_method_49_code 4 = .ok (.invokevirtual 212, 3) := by decide +kernel
theorem d_M_value_7 : decode prog_10_method_49_code 7 = .ok (.ifCond .ne 7, 3) := by decide +kernel
theorem d_M_value_10 : decode prog_10_method_49_code 10 = .ok (.iconst 1, 1) := by decide +kernel
theorem d_M_value_11 : decode prog_10_method_49_code 11 = .ok (.goto 21, 3) := by decide +kernel
theorem d_M_value_32 : decode prog_10_method_49_code 32 = .ok (.putfield 99, 3) := by decide +kernel
theorem d_M_value_35 : decode prog_10_method_49_code 35 = .ok (.aload_n 0, 1) := by decide +kernel
theorem d_M_value_36 : decode prog_10_method_49_code 36 = .ok (.getfield 99, 3) := by decide +kernel
theorem d_M_value_39 : decode prog_10_method_49_code 39 = .ok (.ifCond .le 7, 3) := by decide +kernel
theorem d_M_value_42 : decode prog_10_method_49_code 42 = .ok (.iconst 0, 1) := by decide +kernel
theorem d_M_value_43 : decode prog_10_method_49_code 43 = .ok (.goto 13, 3) := by decide +kernel
theorem d_M_value_56 : decode prog_10_method_49_code 56 = .ok (.ireturn, 1) := by decide +kernel
theorem d_L_symbol_0 : decode method_3_code 0 = .ok (.aload_n 3, 1) := by decide +kernel
theorem d_L_symbol_1 : decode method_3_code 1 = .ok (.iconst 0, 1) := by decide +kernel
theorem d_L_symbol_2 : decode method_3_code 2 = .ok (.aload_n 0, 1) := by decide +kernel
theorem d_L_symbol_3 : decode method_3_code 3 = .ok (.iload_n 1, 1) := by decide +kernel
theorem d_L_symbol_4 : decode method_3_code 4 = .ok (.iload_n 2, 1) := by decide +kernel
theorem d_L_symbol_5 : decode method_3_code 5 = .ok (.invokevirtual 7, 3) := by decide +kernel
theorem d_L_symbol_8 : decode method_3_code 8 = .ok (.i2l, 1) := by decide +kernel
theorem d_L_symbol_9 : decode method_3_code 9 = .ok (.lastore, 1) := by decide +kernel
theorem d_L_symbol_10 : decode method_3_code 10 = .ok (.goto 11, 3) := by decide +kernel
theorem d_L_symbol_21 : decode method_3_code 21 = .ok (.iconst 0, 1) := by decide +kernel
theorem d_L_symbol_22 : decode method_3_code 22 = .ok (.ireturn, 1) := by decide +kernel
theorem d_L_symbol_13 : decode method_3_code 13 = .ok (.astore 4, 2) := by decide +kernel
theorem d_L_symbol_15 : decode method_3_code 15 = .ok (.iconst 1, 1) := by decide +kernel
theorem d_L_symbol_16 : decode method_3_code 16 = .ok (.ireturn, 1) := by decide +kernel
theorem d_L_production_0 : decode method_4_code 0 = .ok (.aload 5, 2) := by decide +kernel
theorem d_L_production_2 : decode method_4_code 2 = .ok (.iconst 0, 1) := by decide +kernel
theorem d_L_production_3 : decode method_4_code 3 = .ok (.aload_n 0, 1) := by decide +kernel
theorem d_L_production_4 : decode method_4_code 4 = .ok (.iload_n 1, 1) := by decide +kernel
theorem d_L_production_5 : decode method_4_code 5 = .ok (.iload_n 2, 1) := by decide +kernel
theorem d_L_production_6 : decode method_4_code 6 = .ok (.iload_n 3, 1) := by decide +kernel
theorem d_L_production_7 : decode method_4_code 7 = .ok (.iload 4, 2) := by decide +kernel
theorem d_L_production_9 : decode method_4_code 9 = .ok (.invokevirtual 17, 3) := by decide +kernel
theorem d_L_production_17 : decode method_4_code 17 = .ok (.astore 6, 2) := by decide +kernel
theorem d_L_production_19 : decode method_4_code 19 = .ok (.iconst 1, 1) := by decide +kernel
theorem d_L_production_20 : decode method_4_code 20 = .ok (.ireturn, 1) := by decide +kernel
theorem d_L_rule_0 : decode method_5_code 0 = .ok (.aload_n 0, 1) := by decide +kernel
theorem d_L_rule_1 : decode method_5_code 1 = .ok (.iload_n 1, 1) := by decide +kernel
theorem d_L_rule_2 : decode method_5_code 2 = .ok (.iload_n 2, 1) := by decide +kernel
theorem d_L_rule_3 : decode method_5_code 3 = .ok (.iload_n 3, 1) := by decide +kernel
theorem d_L_rule_4 : decode method_5_code 4 = .ok (.iload 4, 2) := by decide +kernel
theorem d_L_rule_6 : decode method_5_code 6 = .ok (.iload 5, 2) := by decide +kernel
theorem d_L_rule_8 : decode method_5_code 8 = .ok (.invokevirtual 21, 3) := by decide +kernel
theorem d_L_rule_14 : decode method_5_code 14 = .ok (.astore 6, 2) := by decide +kernel
theorem d_L_rule_16 : decode method_5_code 16 = .ok (.iconst 1, 1) := by decide +kernel
theorem d_L_rule_17 : decode method_5_code 17 = .ok (.ireturn, 1) := by decide +kernel
theorem d_L_analyse_0 : decode method_6_code 0 = .ok (.aload_n 1, 1) := by decide +kernel
theorem d_L_analyse_1 : decode method_6_code 1 = .ok (.iconst 0, 1) := by decide +kernel
theorem d_L_analyse_2 : decode method_6_code 2 = .ok (.aload_n 0, 1) := by decide +kernel
theorem d_L_analyse_3 : decode method_6_code 3 = .ok (.invokevirtual 27, 3) := by decide +kernel
theorem d_L_analyse_11 : decode method_6_code 11 = .ok (.astore_n 2, 1) := by decide +kernel
theorem d_L_analyse_12 : decode method_6_code 12 = .ok (.iconst 1, 1) := by decide +kernel
theorem d_L_analyse_13 : decode method_6_code 13 = .ok (.ireturn, 1) := by decide +kernel
theorem d_L_visits_0 : decode method_7_code 0 = .ok (.aload_n 2, 1) := by decide +kernel
theorem d_L_visits_1 : decode method_7_code 1 = .ok (.iconst 0, 1) := by decide +kernel
theorem d_L_visits_2 : decode method_7_code 2 = .ok (.aload_n 0, 1) := by decide +kernel
theorem d_L_visits_3 : decode method_7_code 3 = .ok (.iload_n 1, 1) := by decide +kernel
theorem d_L_visits_4 : decode method_7_code 4 = .ok (.invokevirtual 33, 3) := by decide +kernel
theorem d_L_visits_12 : decode method_7_code 12 = .ok (.astore_n 3, 1) := by decide +kernel
theorem d_L_visits_13 : decode method_7_code 13 = .ok (.iconst 1, 1) := by decide +kernel
theorem d_L_visits_14 : decode method_7_code 14 = .ok (.ireturn, 1) := by decide +kernel
theorem d_L_rank_0 : decode method_8_code 0 = .ok (.aload_n 3, 1) := by decide +kernel
theorem d_L_rank_1 : decode method_8_code 1 = .ok (.iconst 0, 1) := by decide +kernel
theorem d_L_rank_2 : decode method_8_code 2 = .ok (.aload_n 0, 1) := by decide +kernel
theorem d_L_rank_3 : decode method_8_code 3 = .ok (.iload_n 1, 1) := by decide +kernel
theorem d_L_rank_4 : decode method_8_code 4 = .ok (.iload_n 2, 1) := by decide +kernel
theorem d_L_rank_5 : decode method_8_code 5 = .ok (.invokevirtual 37, 3) := by decide +kernel
theorem d_L_rank_13 : decode method_8_code 13 = .ok (.astore 4, 2) := by decide +kernel
theorem d_L_rank_15 : decode method_8_code 15 = .ok (.iconst 1, 1) := by decide +kernel
theorem d_L_rank_16 : decode method_8_code 16 = .ok (.ireturn, 1) := by decide +kernel
theorem d_L_instruction_0 : decode method_9_code 0 = .ok (.aload_n 3, 1) := by decide +kernel
theorem d_L_instruction_1 : decode method_9_code 1 = .ok (.iconst 0, 1) := by decide +kernel
theorem d_L_instruction_2 : decode method_9_code 2 = .ok (.aload_n 0, 1) := by decide +kernel
theorem d_L_instruction_3 : decode method_9_code 3 = .ok (.iload_n 1, 1) := by decide +kernel
theorem d_L_instruction_4 : decode method_9_code 4 = .ok (.iload_n 2, 1) := by decide +kernel
theorem d_L_instruction_5 : decode method_9_code 5 = .ok (.invokevirtual 40, 3) := by decide +kernel
theorem d_L_instruction_13 : decode method_9_code 13 = .ok (.astore 4, 2) := by decide +kernel
theorem d_L_instruction_15 : decode method_9_code 15 = .ok (.iconst 1, 1) := by decide +kernel
theorem d_L_instruction_16 : decode method_9_code 16 = .ok (.ireturn, 1) := by decide +kernel
theorem d_L_node_0 : decode method_10_code 0 = .ok (.aload 6, 2) := by decide +kernel
theorem d_L_node_2 : decode method_10_code 2 = .ok (.iconst 0, 1) := by decide +kernel
theorem d_L_node_3 : decode method_10_code 3 = .ok (.aload_n 0, 1) := by decide +kernel
theorem d_L_node_4 : decode method_10_code 4 = .ok (.iload_n 1, 1) := by decide +kernel
theorem d_L_node_5 : decode method_10_code 5 = .ok (.iload_n 2, 1) := by decide +kernel
theorem d_L_node_6 : decode method_10_code 6 = .ok (.iload_n 3, 1) := by decide +kernel
theorem d_L_node_7 : decode method_10_code 7 = .ok (.iload 4, 2) := by decide +kernel
theorem d_L_node_9 : decode method_10_code 9 = .ok (.iload 5, 2) := by decide +kernel
theorem d_L_node_11 : decode method_10_code 11 = .ok (.invokevirtual 43, 3) := by decide +kernel
theorem d_L_node_19 : decode method_10_code 19 = .ok (.astore 7, 2) := by decide +kernel
theorem d_L_node_21 : decode method_10_code 21 = .ok (.iconst 1, 1) := by decide +kernel
theorem d_L_node_22 : decode method_10_code 22 = .ok (.ireturn, 1) := by decide +kernel
theorem d_L_give_0 : decode method_11_code 0 = .ok (.aload_n 0, 1) := by decide +kernel
theorem d_L_give_1 : decode method_11_code 1 = .ok (.iload_n 1, 1) := by decide +kernel
theorem d_L_give_2 : decode method_11_code 2 = .ok (.iload_n 2, 1) := by decide +kernel
theorem d_L_give_3 : decode method_11_code 3 = .ok (.invokevirtual 47, 3) := by decide +kernel
theorem d_L_give_6 : decode method_11_code 6 = .ok (.goto 6, 3) := by decide +kernel
theorem d_L_give_12 : decode method_11_code 12 = .ok (.iconst 0, 1) := by decide +kernel
theorem d_L_give_13 : decode method_11_code 13 = .ok (.ireturn, 1) := by decide +kernel
theorem d_L_give_9 : decode method_11_code 9 = .ok (.astore_n 3, 1) := by decide +kernel
theorem d_L_give_10 : decode method_11_code 10 = .ok (.iconst 1, 1) := by decide +kernel
theorem d_L_give_11 : decode method_11_code 11 = .ok (.ireturn, 1) := by decide +kernel
theorem d_L_start_0 : decode method_12_code 0 = .ok (.aload_n 0, 1) := by decide +kernel
theorem d_L_start_1 : decode method_12_code 1 = .ok (.iload_n 1, 1) := by decide +kernel
theorem d_L_start_2 : decode method_12_code 2 = .ok (.invokevirtual 51, 3) := by decide +kernel
theorem d_L_start_8 : decode method_12_code 8 = .ok (.astore_n 2, 1) := by decide +kernel
theorem d_L_start_9 : decode method_12_code 9 = .ok (.iconst 1, 1) := by decide +kernel
theorem d_L_start_10 : decode method_12_code 10 = .ok (.ireturn, 1) := by decide +kernel
theorem d_L_run_0 : decode method_13_code 0 = .ok (.aload_n 2, 1) := by decide +kernel
theorem d_L_run_1 : decode method_13_code 1 = .ok (.iconst 0, 1) := by decide +kernel
theorem d_L_run_2 : decode method_13_code 2 = .ok (.aload_n 0, 1) := by decide +kernel
theorem d_L_run_3 : decode method_13_code 3 = .ok (.iload_n 1, 1) := by decide +kernel
theorem d_L_run_4 : decode method_13_code 4 = .ok (.invokevirtual 55, 3) := by decide +kernel
theorem d_L_run_12 : decode method_13_code 12 = .ok (.astore_n 3, 1) := by decide +kernel
theorem d_L_run_13 : decode method_13_code 13 = .ok (.iconst 1, 1) := by decide +kernel
theorem d_L_run_14 : decode method_13_code 14 = .ok (.ireturn, 1) := by decide +kernel
theorem d_L_run_15 : decode method_13_code 15 = .ok (.astore_n 3, 1) := by decide +kernel
theorem d_L_run_16 : decode method_13_code 16 = .ok (.iconst 2, 1) := by decide +kernel
theorem d_L_run_17 : decode method_13_code 17 = .ok (.ireturn, 1) := by decide +kernel
theorem d_L_knows_0 : decode method_14_code 0 = .ok (.aload_n 3, 1) := by decide +kernel
theorem d_L_knows_1 : decode method_14_code 1 = .ok (.iconst 0, 1) := by decide +kernel
theorem d_L_knows_2 : decode method_14_code 2 = .ok (.aload_n 0, 1) := by decide +kernel
theorem d_L_knows_3 : decode method_14_code 3 = .ok (.iload_n 1, 1) := by decide +kernel
theorem d_L_knows_4 : decode method_14_code 4 = .ok (.iload_n 2, 1) := by decide +kernel
theorem d_L_knows_5 : decode method_14_code 5 = .ok (.invokevirtual 58, 3) := by decide +kernel
theorem d_L_knows_20 : decode method_14_code 20 = .ok (.astore 4, 2) := by decide +kernel
theorem d_L_knows_22 : decode method_14_code 22 = .ok (.iconst 1, 1) := by decide +kernel
theorem d_L_knows_23 : decode method_14_code 23 = .ok (.ireturn, 1) := by decide +kernel
theorem d_L_value_0 : decode method_15_code 0 = .ok (.aload_n 3, 1) := by decide +kernel
theorem d_L_value_1 : decode method_15_code 1 = .ok (.iconst 0, 1) := by decide +kernel
theorem d_L_value_2 : decode method_15_code 2 = .ok (.aload_n 0, 1) := by decide +kernel
theorem d_L_value_3 : decode method_15_code 3 = .ok (.iload_n 1, 1) := by decide +kernel
theorem d_L_value_4 : decode method_15_code 4 = .ok (.iload_n 2, 1) := by decide +kernel
theorem d_L_value_5 : decode method_15_code 5 = .ok (.invokevirtual 62, 3) := by decide +kernel
theorem d_L_value_13 : decode method_15_code 13 = .ok (.astore 4, 2) := by decide +kernel
theorem d_L_value_15 : decode method_15_code 15 = .ok (.iconst 1, 1) := by decide +kernel
theorem d_L_value_16 : decode method_15_code 16 = .ok (.ireturn, 1) := by decide +kernel
theorem d_L_law_124 : decode code 124 = .ok (.aload_n 1, 1) := by decide +kernel
theorem d_L_law_125 : decode code 125 = .ok (.aload_n 0, 1) := by decide +kernel
theorem d_L_law_126 : decode code 126 = .ok (.iload 4, 2) := by decide +kernel
theorem d_L_law_128 : decode code 128 = .ok (.iconst 1, 1) := by decide +kernel
theorem d_L_law_129 : decode code 129 = .ok (.iadd, 1) := by decide +kernel
theorem d_L_law_130 : decode code 130 = .ok (.iaload, 1) := by decide +kernel
theorem d_L_law_131 : decode code 131 = .ok (.aload_n 0, 1) := by decide +kernel
theorem d_L_law_132 : decode code 132 = .ok (.iload 4, 2) := by decide +kernel
theorem d_L_law_134 : decode code 134 = .ok (.iconst 2, 1) := by decide +kernel
theorem d_L_law_135 : decode code 135 = .ok (.iadd, 1) := by decide +kernel
theorem d_L_law_136 : decode code 136 = .ok (.iaload, 1) := by decide +kernel
theorem d_L_law_137 : decode code 137 = .ok (.aload_n 3, 1) := by decide +kernel
theorem d_L_law_138 : decode code 138 = .ok (.invokestatic 69, 3) := by decide +kernel
theorem d_L_law_141 : decode code 141 = .ok (.istore 5, 2) := by decide +kernel
theorem d_L_law_143 : decode code 143 = .ok (.aload_n 2, 1) := by decide +kernel
theorem d_L_law_144 : decode code 144 = .ok (.aload_n 0, 1) := by decide +kernel
theorem d_L_law_145 : decode code 145 = .ok (.iload 4, 2) := by decide +kernel
theorem d_L_law_147 : decode code 147 = .ok (.iconst 1, 1) := by decide +kernel
theorem d_L_law_148 : decode code 148 = .ok (.iadd, 1) := by decide +kernel
theorem d_L_law_149 : decode code 149 = .ok (.iaload, 1) := by decide +kernel
theorem d_L_law_150 : decode code 150 = .ok (.aload_n 0, 1) := by decide +kernel
theorem d_L_law_151 : decode code 151 = .ok (.iload 4, 2) := by decide +kernel
theorem d_L_law_153 : decode code 153 = .ok (.iconst 2, 1) := by decide +kernel
theorem d_L_law_154 : decode code 154 = .ok (.iadd, 1) := by decide +kernel
theorem d_L_law_155 : decode code 155 = .ok (.iaload, 1) := by decide +kernel
theorem d_L_law_156 : decode code 156 = .ok (.invokevirtual 74, 3) := by decide +kernel
theorem d_L_law_159 : decode code 159 = .ok (.istore 6, 2) := by decide +kernel
theorem d_L_law_161 : decode code 161 = .ok (.aload_n 2, 1) := by decide +kernel
theorem d_L_law_162 : decode code 162 = .ok (.invokevirtual 75, 3) := by decide +kernel
theorem d_L_law_165 : decode code 165 = .ok (.iload 5, 2) := by decide +kernel
end
section
theorem d_L_law_167 : decode code 167 = .ok (.if_icmp .eq 5, 3) := by decide +kernel
theorem d_L_law_172 : decode code 172 = .ok (.iload 5, 2) := by decide +kernel
theorem d_L_law_174 : decode code 174 = .ok (.ifCond .ne 15, 3) := by decide +kernel
theorem d_L_law_177 : decode code 177 = .ok (.aload_n 3, 1) := by decide +kernel
theorem d_L_law_178 : decode code 178 = .ok (.iconst 0, 1) := by decide +kernel
theorem d_L_law_179 : decode code 179 = .ok (.laload, 1) := by decide +kernel
theorem d_L_law_180 : decode code 180 = .ok (.iload 6, 2) := by decide +kernel
theorem d_L_law_182 : decode code 182 = .ok (.i2l, 1) := by decide +kernel
theorem d_L_law_183 : decode code 183 = .ok (.lcmp, 1) := by decide +kernel
theorem d_L_law_184 : decode code 184 = .ok (.ifCond .eq 5, 3) := by decide +kernel
theorem d_L_law_189 : decode code 189 = .ok (.goto 864, 3) := by decide +kernel
theorem d_L_law_1053 : decode code 1053 = .ok (.iinc 4 6, 3) := by decide +kernel
theorem d_L_law_1056 : decode code 1056 = .ok (.goto (-1033), 3) := by decide +kernel
theorem d_L_law_23 : decode code 23 = .ok (.iload 4, 2) := by decide +kernel
theorem d_L_law_25 : decode code 25 = .ok (.aload_n 0, 1) := by decide +kernel
theorem d_L_law_26 : decode code 26 = .ok (.arraylength, 1) := by decide +kernel
theorem d_L_law_27 : decode code 27 = .ok (.bipush 6, 2) := by decide +kernel
theorem d_L_law_29 : decode code 29 = .ok (.isub, 1) := by decide +kernel
theorem d_L_law_30 : decode code 30 = .ok (.if_icmp .gt 1029, 3) := by decide +kernel
theorem d_L_law_1059 : decode code 1059 = .ok (.iconst 1, 1) := by decide +kernel
theorem d_L_law_1060 : decode code 1060 = .ok (.ireturn, 1) := by decide +kernel
theorem d_L_law_192 : decode code 192 = .ok (.aload_n 1, 1) := by decide +kernel
theorem d_L_law_193 : decode code 193 = .ok (.aload_n 0, 1) := by decide +kernel
theorem d_L_law_194 : decode code 194 = .ok (.iload 4, 2) := by decide +kernel
theorem d_L_law_196 : decode code 196 = .ok (.iconst 1, 1) := by decide +kernel
theorem d_L_law_197 : decode code 197 = .ok (.iadd, 1) := by decide +kernel
theorem d_L_law_198 : decode code 198 = .ok (.iaload, 1) := by decide +kernel
theorem d_L_law_199 : decode code 199 = .ok (.aload_n 0, 1) := by decide +kernel
theorem d_L_law_200 : decode code 200 = .ok (.iload 4, 2) := by decide +kernel
theorem d_L_law_202 : decode code 202 = .ok (.iconst 2, 1) := by decide +kernel
theorem d_L_law_203 : decode code 203 = .ok (.iadd, 1) := by decide +kernel
theorem d_L_law_204 : decode code 204 = .ok (.iaload, 1) := by decide +kernel
theorem d_L_law_205 : decode code 205 = .ok (.aload_n 0, 1) := by decide +kernel
theorem d_L_law_206 : decode code 206 = .ok (.iload 4, 2) := by decide +kernel
theorem d_L_law_208 : decode code 208 = .ok (.iconst 3, 1) := by decide +kernel
theorem d_L_law_209 : decode code 209 = .ok (.iadd, 1) := by decide +kernel
theorem d_L_law_210 : decode code 210 = .ok (.iaload, 1) := by decide +kernel
theorem d_L_law_211 : decode code 211 = .ok (.aload_n 0, 1) := by decide +kernel
theorem d_L_law_212 : decode code 212 = .ok (.iload 4, 2) := by decide +kernel
theorem d_L_law_214 : decode code 214 = .ok (.iconst 4, 1) := by decide +kernel
theorem d_L_law_215 : decode code 215 = .ok (.iadd, 1) := by decide +kernel
theorem d_L_law_216 : decode code 216 = .ok (.iaload, 1) := by decide +kernel
theorem d_L_law_217 : decode code 217 = .ok (.aload_n 3, 1) := by decide +kernel
theorem d_L_law_218 : decode code 218 = .ok (.invokestatic 78, 3) := by decide +kernel
theorem d_L_law_221 : decode code 221 = .ok (.istore 5, 2) := by decide +kernel
theorem d_L_law_223 : decode code 223 = .ok (.aload_n 2, 1) := by decide +kernel
theorem d_L_law_224 : decode code 224 = .ok (.aload_n 0, 1) := by decide +kernel
theorem d_L_law_225 : decode code 225 = .ok (.iload 4, 2) := by decide +kernel
theorem d_L_law_227 : decode code 227 = .ok (.iconst 1, 1) := by decide +kernel
theorem d_L_law_228 : decode code 228 = .ok (.iadd, 1) := by decide +kernel
theorem d_L_law_229 : decode code 229 = .ok (.iaload, 1) := by decide +kernel
theorem d_L_law_230 : decode code 230 = .ok (.aload_n 0, 1) := by decide +kernel
theorem d_L_law_231 : decode code 231 = .ok (.iload 4, 2) := by decide +kernel
theorem d_L_law_233 : decode code 233 = .ok (.iconst 2, 1) := by decide +kernel
theorem d_L_law_234 : decode code 234 = .ok (.iadd, 1) := by decide +kernel
theorem d_L_law_235 : decode code 235 = .ok (.iaload, 1) := by decide +kernel
theorem d_L_law_236 : decode code 236 = .ok (.aload_n 0, 1) := by decide +kernel
theorem d_L_law_237 : decode code 237 = .ok (.iload 4, 2) := by decide +kernel
theorem d_L_law_239 : decode code 239 = .ok (.iconst 3, 1) := by decide +kernel
theorem d_L_law_240 : decode code 240 = .ok (.iadd, 1) := by decide +kernel
theorem d_L_law_241 : decode code 241 = .ok (.iaload, 1) := by decide +kernel
theorem d_L_law_242 : decode code 242 = .ok (.aload_n 0, 1) := by decide +kernel
theorem d_L_law_243 : decode code 243 = .ok (.iload 4, 2) := by decide +kernel
theorem d_L_law_245 : decode code 245 = .ok (.iconst 4, 1) := by decide +kernel
theorem d_L_law_246 : decode code 246 = .ok (.iadd, 1) := by decide +kernel
theorem d_L_law_247 : decode code 247 = .ok (.iaload, 1) := by decide +kernel
theorem d_L_law_248 : decode code 248 = .ok (.invokevirtual 81, 3) := by decide +kernel
theorem d_L_law_251 : decode code 251 = .ok (.istore 6, 2) := by decide +kernel
theorem d_L_law_253 : decode code 253 = .ok (.aload_n 2, 1) := by decide +kernel
theorem d_L_law_254 : decode code 254 = .ok (.invokevirtual 75, 3) := by decide +kernel
theorem d_L_law_257 : decode code 257 = .ok (.iload 5, 2) := by decide +kernel
theorem d_L_law_259 : decode code 259 = .ok (.if_icmp .eq 5, 3) := by decide +kernel
theorem d_L_law_264 : decode code 264 = .ok (.iload 5, 2) := by decide +kernel
theorem d_L_law_266 : decode code 266 = .ok (.ifCond .ne 15, 3) := by decide +kernel
theorem d_L_law_281 : decode code 281 = .ok (.goto 772, 3) := by decide +kernel
theorem d_L_law_284 : decode code 284 = .ok (.aload_n 1, 1) := by decide +kernel
theorem d_L_law_285 : decode code 285 = .ok (.aload_n 0, 1) := by decide +kernel
theorem d_L_law_286 : decode code 286 = .ok (.iload 4, 2) := by decide +kernel
theorem d_L_law_288 : decode code 288 = .ok (.iconst 1, 1) := by decide +kernel
theorem d_L_law_289 : decode code 289 = .ok (.iadd, 1) := by decide +kernel
theorem d_L_law_290 : decode code 290 = .ok (.iaload, 1) := by decide +kernel
theorem d_L_law_291 : decode code 291 = .ok (.aload_n 0, 1) := by decide +kernel
theorem d_L_law_292 : decode code 292 = .ok (.iload 4, 2) := by decide +kernel
theorem d_L_law_294 : decode code 294 = .ok (.iconst 2, 1) := by decide +kernel
theorem d_L_law_295 : decode code 295 = .ok (.iadd, 1) := by decide +kernel
theorem d_L_law_296 : decode code 296 = .ok (.iaload, 1) := by decide +kernel
theorem d_L_law_297 : decode code 297 = .ok (.aload_n 0, 1) := by decide +kernel
theorem d_L_law_298 : decode code 298 = .ok (.iload 4, 2) := by decide +kernel
theorem d_L_law_300 : decode code 300 = .ok (.iconst 3, 1) := by decide +kernel
theorem d_L_law_301 : decode code 301 = .ok (.iadd, 1) := by decide +kernel
theorem d_L_law_302 : decode code 302 = .ok (.iaload, 1) := by decide +kernel
theorem d_L_law_303 : decode code 303 = .ok (.aload_n 0, 1) := by decide +kernel
theorem d_L_law_304 : decode code 304 = .ok (.iload 4, 2) := by decide +kernel
theorem d_L_law_306 : decode code 306 = .ok (.iconst 4, 1) := by decide +kernel
theorem d_L_law_307 : decode code 307 = .ok (.iadd, 1) := by decide +kernel
theorem d_L_law_308 : decode code 308 = .ok (.iaload, 1) := by decide +kernel
theorem d_L_law_309 : decode code 309 = .ok (.aload_n 0, 1) := by decide +kernel
theorem d_L_law_310 : decode code 310 = .ok (.iload 4, 2) := by decide +kernel
theorem d_L_law_312 : decode code 312 = .ok (.iconst 5, 1) := by decide +kernel
theorem d_L_law_313 : decode code 313 = .ok (.iadd, 1) := by decide +kernel
theorem d_L_law_314 : decode code 314 = .ok (.iaload, 1) := by decide +kernel
theorem d_L_law_315 : decode code 315 = .ok (.invokestatic 82, 3) := by decide +kernel
theorem d_L_law_318 : decode code 318 = .ok (.istore 5, 2) := by decide +kernel
theorem d_L_law_320 : decode code 320 = .ok (.aload_n 2, 1) := by decide +kernel
theorem d_L_law_321 : decode code 321 = .ok (.aload_n 0, 1) := by decide +kernel
theorem d_L_law_322 : decode code 322 = .ok (.iload 4, 2) := by decide +kernel
theorem d_L_law_324 : decode code 324 = .ok (.iconst 1, 1) := by decide +kernel
theorem d_L_law_325 : decode code 325 = .ok (.iadd, 1) := by decide +kernel
theorem d_L_law_326 : decode code 326 = .ok (.iaload, 1) := by decide +kernel
theorem d_L_law_327 : decode code 327 = .ok (.aload_n 0, 1) := by decide +kernel
theorem d_L_law_328 : decode code 328 = .ok (.iload 4, 2) := by decide +kernel
theorem d_L_law_330 : decode code 330 = .ok (.iconst 2, 1) := by decide +kernel
theorem d_L_law_331 : decode code 331 = .ok (.iadd, 1) := by decide +kernel
theorem d_L_law_332 : decode code 332 = .ok (.iaload, 1) := by decide +kernel
theorem d_L_law_333 : decode code 333 = .ok (.aload_n 0, 1) := by decide +kernel
theorem d_L_law_334 : decode code 334 = .ok (.iload 4, 2) := by decide +kernel
theorem d_L_law_336 : decode code 336 = .ok (.iconst 3, 1) := by decide +kernel
theorem d_L_law_337 : decode code 337 = .ok (.iadd, 1) := by decide +kernel
theorem d_L_law_338 : decode code 338 = .ok (.iaload, 1) := by decide +kernel
theorem d_L_law_339 : decode code 339 = .ok (.aload_n 0, 1) := by decide +kernel
theorem d_L_law_340 : decode code 340 = .ok (.iload 4, 2) := by decide +kernel
theorem d_L_law_342 : decode code 342 = .ok (.iconst 4, 1) := by decide +kernel
theorem d_L_law_343 : decode code 343 = .ok (.iadd, 1) := by decide +kernel
theorem d_L_law_344 : decode code 344 = .ok (.iaload, 1) := by decide +kernel
theorem d_L_law_345 : decode code 345 = .ok (.aload_n 0, 1) := by decide +kernel
theorem d_L_law_346 : decode code 346 = .ok (.iload 4, 2) := by decide +kernel
theorem d_L_law_348 : decode code 348 = .ok (.iconst 5, 1) := by decide +kernel
theorem d_L_law_349 : decode code 349 = .ok (.iadd, 1) := by decide +kernel
theorem d_L_law_350 : decode code 350 = .ok (.iaload, 1) := by decide +kernel
theorem d_L_law_351 : decode code 351 = .ok (.invokevirtual 85, 3) := by decide +kernel
theorem d_L_law_354 : decode code 354 = .ok (.aload_n 2, 1) := by decide +kernel
theorem d_L_law_355 : decode code 355 = .ok (.invokevirtual 75, 3) := by decide +kernel
theorem d_L_law_358 : decode code 358 = .ok (.iload 5, 2) := by decide +kernel
theorem d_L_law_360 : decode code 360 = .ok (.if_icmp .eq 5, 3) := by decide +kernel
theorem d_L_law_365 : decode code 365 = .ok (.goto 688, 3) := by decide +kernel
theorem d_L_law_368 : decode code 368 = .ok (.aload_n 1, 1) := by decide +kernel
theorem d_L_law_369 : decode code 369 = .ok (.aload_n 3, 1) := by decide +kernel
theorem d_L_law_370 : decode code 370 = .ok (.invokestatic 86, 3) := by decide +kernel
theorem d_L_law_373 : decode code 373 = .ok (.istore 5, 2) := by decide +kernel
theorem d_L_law_375 : decode code 375 = .ok (.aload_n 2, 1) := by decide +kernel
theorem d_L_law_376 : decode code 376 = .ok (.invokevirtual 89, 3) := by decide +kernel
theorem d_L_law_379 : decode code 379 = .ok (.istore 6, 2) := by decide +kernel
theorem d_L_law_381 : decode code 381 = .ok (.aload_n 2, 1) := by decide +kernel
theorem d_L_law_382 : decode code 382 = .ok (.invokevirtual 75, 3) := by decide +kernel
theorem d_L_law_385 : decode code 385 = .ok (.iload 5, 2) := by decide +kernel
theorem d_L_law_387 : decode code 387 = .ok (.if_icmp .eq 5, 3) := by decide +kernel
theorem d_L_law_392 : decode code 392 = .ok (.iload 5, 2) := by decide +kernel
theorem d_L_law_394 : decode code 394 = .ok (.ifCond .ne 15, 3) := by decide +kernel
theorem d_L_law_409 : decode code 409 = .ok (.goto 644, 3) := by decide +kernel
theorem d_L_law_437 : decode code 437 = .ok (.aload_n 1, 1) := by decide +kernel
theorem d_L_law_438 : decode code 438 = .ok (.aload_n 0, 1) := by decide +kernel
theorem d_L_law_439 : decode code 439 = .ok (.iload 4, 2) := by decide +kernel
theorem d_L_law_441 : decode code 441 = .ok (.iconst 1, 1) := by decide +kernel
theorem d_L_law_442 : decode code 442 = .ok (.iadd, 1) := by decide +kernel
theorem d_L_law_443 : decode code 443 = .ok (.iaload, 1) := by decide +kernel
theorem d_L_law_444 : decode code 444 = .ok (.aload_n 3, 1) := by decide +kernel
theorem d_L_law_445 : decode code 445 = .ok (.invokestatic 94, 3) := by decide +kernel
theorem d_L_law_448 : decode code 448 = .ok (.istore 5, 2) := by decide +kernel
theorem d_L_law_450 : decode code 450 = .ok (.aload_n 2, 1) := by decide +kernel
theorem d_L_law_451 : decode code 451 = .ok (.aload_n 0, 1) := by decide +kernel
theorem d_L_law_452 : decode code 452 = .ok (.iload 4, 2) := by decide +kernel
theorem d_L_law_454 : decode code 454 = .ok (.iconst 1, 1) := by decide +kernel
theorem d_L_law_455 : decode code 455 = .ok (.iadd, 1) := by decide +kernel
theorem d_L_law_456 : decode code 456 = .ok (.iaload, 1) := by decide +kernel
theorem d_L_law_457 : decode code 457 = .ok (.invokevirtual 97, 3) := by decide +kernel
theorem d_L_law_460 : decode code 460 = .ok (.istore 6, 2) := by decide +kernel
theorem d_L_law_462 : decode code 462 = .ok (.aload_n 2, 1) := by decide +kernel
theorem d_L_law_463 : decode code 463 = .ok (.invokevirtual 75, 3) := by decide +kernel
theorem d_L_law_466 : decode code 466 = .ok (.iload 5, 2) := by decide +kernel
theorem d_L_law_468 : decode code 468 = .ok (.if_icmp .eq 5, 3) := by decide +kernel
theorem d_L_law_473 : decode code 473 = .ok (.iload 5, 2) := by decide +kernel
theorem d_L_law_475 : decode code 475 = .ok (.ifCond .ne 15, 3) := by decide +kernel
theorem d_L_law_490 : decode code 490 = .ok (.goto 563, 3) := by decide +kernel
theorem d_L_law_493 : decode code 493 = .ok (.aload_n 1, 1) := by decide +kernel
theorem d_L_law_494 : decode code 494 = .ok (.aload_n 0, 1) := by decide +kernel
theorem d_L_law_495 : decode code 495 = .ok (.iload 4, 2) := by decide +kernel
theorem d_L_law_497 : decode code 497 = .ok (.iconst 1, 1) := by decide +kernel
theorem d_L_law_498 : decode code 498 = .ok (.iadd, 1) := by decide +kernel
theorem d_L_law_499 : decode code 499 = .ok (.iaload, 1) := by decide +kernel
theorem d_L_law_500 : decode code 500 = .ok (.aload_n 0, 1) := by decide +kernel
theorem d_L_law_501 : decode code 501 = .ok (.iload 4, 2) := by decide +kernel
theorem d_L_law_503 : decode code 503 = .ok (.iconst 2, 1) := by decide +kernel
theorem d_L_law_504 : decode code 504 = .ok (.iadd, 1) := by decide +kernel
theorem d_L_law_505 : decode code 505 = .ok (.iaload, 1) := by decide +kernel
theorem d_L_law_506 : decode code 506 = .ok (.aload_n 3, 1) := by decide +kernel
theorem d_L_law_507 : decode code 507 = .ok (.invokestatic 98, 3) := by decide +kernel
theorem d_L_law_510 : decode code 510 = .ok (.istore 5, 2) := by decide +kernel
theorem d_L_law_512 : decode code 512 = .ok (.aload_n 2, 1) := by decide +kernel
theorem d_L_law_513 : decode code 513 = .ok (.aload_n 0, 1) := by decide +kernel
theorem d_L_law_514 : decode code 514 = .ok (.iload 4, 2) := by decide +kernel
theorem d_L_law_516 : decode code 516 = .ok (.iconst 1, 1) := by decide +kernel
theorem d_L_law_517 : decode code 517 = .ok (.iadd, 1) := by decide +kernel
theorem d_L_law_518 : decode code 518 = .ok (.iaload, 1) := by decide +kernel
theorem d_L_law_519 : decode code 519 = .ok (.aload_n 0, 1) := by decide +kernel
theorem d_L_law_520 : decode code 520 = .ok (.iload 4, 2) := by decide +kernel
theorem d_L_law_522 : decode code 522 = .ok (.iconst 2, 1) := by decide +kernel
theorem d_L_law_523 : decode code 523 = .ok (.iadd, 1) := by decide +kernel
theorem d_L_law_524 : decode code 524 = .ok (.iaload, 1) := by decide +kernel
theorem d_L_law_525 : decode code 525 = .ok (.invokevirtual 100, 3) := by decide +kernel
theorem d_L_law_528 : decode code 528 = .ok (.istore 6, 2) := by decide +kernel
end
section
theorem d_L_law_530 : decode code 530 = .ok (.aload_n 2, 1) := by decide +kernel
theorem d_L_law_531 : decode code 531 = .ok (.invokevirtual 75, 3) := by decide +kernel
theorem d_L_law_534 : decode code 534 = .ok (.iload 5, 2) := by decide +kernel
theorem d_L_law_536 : decode code 536 = .ok (.if_icmp .eq 5, 3) := by decide +kernel
theorem d_L_law_541 : decode code 541 = .ok (.iload 5, 2) := by decide +kernel
theorem d_L_law_543 : decode code 543 = .ok (.ifCond .ne 15, 3) := by decide +kernel
theorem d_L_law_558 : decode code 558 = .ok (.goto 495, 3) := by decide +kernel
theorem d_L_law_561 : decode code 561 = .ok (.aload_n 1, 1) := by decide +kernel
theorem d_L_law_562 : decode code 562 = .ok (.aload_n 0, 1) := by decide +kernel
theorem d_L_law_563 : decode code 563 = .ok (.iload 4, 2) := by decide +kernel
theorem d_L_law_565 : decode code 565 = .ok (.iconst 1, 1) := by decide +kernel
theorem d_L_law_566 : decode code 566 = .ok (.iadd, 1) := by decide +kernel
theorem d_L_law_567 : decode code 567 = .ok (.iaload, 1) := by decide +kernel
theorem d_L_law_568 : decode code 568 = .ok (.aload_n 0, 1) := by decide +kernel
theorem d_L_law_569 : decode code 569 = .ok (.iload 4, 2) := by decide +kernel
theorem d_L_law_571 : decode code 571 = .ok (.iconst 2, 1) := by decide +kernel
theorem d_L_law_572 : decode code 572 = .ok (.iadd, 1) := by decide +kernel
theorem d_L_law_573 : decode code 573 = .ok (.iaload, 1) := by decide +kernel
theorem d_L_law_574 : decode code 574 = .ok (.aload_n 3, 1) := by decide +kernel
theorem d_L_law_575 : decode code 575 = .ok (.invokestatic 101, 3) := by decide +kernel
theorem d_L_law_578 : decode code 578 = .ok (.istore 5, 2) := by decide +kernel
theorem d_L_law_580 : decode code 580 = .ok (.aload_n 2, 1) := by decide +kernel
theorem d_L_law_581 : decode code 581 = .ok (.aload_n 0, 1) := by decide +kernel
theorem d_L_law_582 : decode code 582 = .ok (.iload 4, 2) := by decide +kernel
theorem d_L_law_584 : decode code 584 = .ok (.iconst 1, 1) := by decide +kernel
theorem d_L_law_585 : decode code 585 = .ok (.iadd, 1) := by decide +kernel
theorem d_L_law_586 : decode code 586 = .ok (.iaload, 1) := by decide +kernel
theorem d_L_law_587 : decode code 587 = .ok (.aload_n 0, 1) := by decide +kernel
theorem d_L_law_588 : decode code 588 = .ok (.iload 4, 2) := by decide +kernel
theorem d_L_law_590 : decode code 590 = .ok (.iconst 2, 1) := by decide +kernel
theorem d_L_law_591 : decode code 591 = .ok (.iadd, 1) := by decide +kernel
theorem d_L_law_592 : decode code 592 = .ok (.iaload, 1) := by decide +kernel
theorem d_L_law_593 : decode code 593 = .ok (.invokevirtual 103, 3) := by decide +kernel
theorem d_L_law_596 : decode code 596 = .ok (.istore 6, 2) := by decide +kernel
theorem d_L_law_598 : decode code 598 = .ok (.aload_n 2, 1) := by decide +kernel
theorem d_L_law_599 : decode code 599 = .ok (.invokevirtual 75, 3) := by decide +kernel
theorem d_L_law_602 : decode code 602 = .ok (.iload 5, 2) := by decide +kernel
theorem d_L_law_604 : decode code 604 = .ok (.if_icmp .eq 5, 3) := by decide +kernel
theorem d_L_law_609 : decode code 609 = .ok (.iload 5, 2) := by decide +kernel
theorem d_L_law_611 : decode code 611 = .ok (.ifCond .ne 15, 3) := by decide +kernel
theorem d_L_law_626 : decode code 626 = .ok (.goto 427, 3) := by decide +kernel
theorem d_L_law_629 : decode code 629 = .ok (.aload_n 1, 1) := by decide +kernel
theorem d_L_law_630 : decode code 630 = .ok (.aload_n 0, 1) := by decide +kernel
theorem d_L_law_631 : decode code 631 = .ok (.iload 4, 2) := by decide +kernel
theorem d_L_law_633 : decode code 633 = .ok (.iconst 1, 1) := by decide +kernel
theorem d_L_law_634 : decode code 634 = .ok (.iadd, 1) := by decide +kernel
theorem d_L_law_635 : decode code 635 = .ok (.iaload, 1) := by decide +kernel
theorem d_L_law_636 : decode code 636 = .ok (.aload_n 0, 1) := by decide +kernel
theorem d_L_law_637 : decode code 637 = .ok (.iload 4, 2) := by decide +kernel
theorem d_L_law_639 : decode code 639 = .ok (.iconst 2, 1) := by decide +kernel
theorem d_L_law_640 : decode code 640 = .ok (.iadd, 1) := by decide +kernel
theorem d_L_law_641 : decode code 641 = .ok (.iaload, 1) := by decide +kernel
theorem d_L_law_642 : decode code 642 = .ok (.aload_n 0, 1) := by decide +kernel
theorem d_L_law_643 : decode code 643 = .ok (.iload 4, 2) := by decide +kernel
theorem d_L_law_645 : decode code 645 = .ok (.iconst 3, 1) := by decide +kernel
theorem d_L_law_646 : decode code 646 = .ok (.iadd, 1) := by decide +kernel
theorem d_L_law_647 : decode code 647 = .ok (.iaload, 1) := by decide +kernel
theorem d_L_law_648 : decode code 648 = .ok (.aload_n 0, 1) := by decide +kernel
theorem d_L_law_649 : decode code 649 = .ok (.iload 4, 2) := by decide +kernel
theorem d_L_law_651 : decode code 651 = .ok (.iconst 4, 1) := by decide +kernel
theorem d_L_law_652 : decode code 652 = .ok (.iadd, 1) := by decide +kernel
theorem d_L_law_653 : decode code 653 = .ok (.iaload, 1) := by decide +kernel
theorem d_L_law_654 : decode code 654 = .ok (.aload_n 0, 1) := by decide +kernel
theorem d_L_law_655 : decode code 655 = .ok (.iload 4, 2) := by decide +kernel
theorem d_L_law_657 : decode code 657 = .ok (.iconst 5, 1) := by decide +kernel
theorem d_L_law_658 : decode code 658 = .ok (.iadd, 1) := by decide +kernel
theorem d_L_law_659 : decode code 659 = .ok (.iaload, 1) := by decide +kernel
theorem d_L_law_660 : decode code 660 = .ok (.aload_n 3, 1) := by decide +kernel
theorem d_L_law_661 : decode code 661 = .ok (.invokestatic 104, 3) := by decide +kernel
theorem d_L_law_664 : decode code 664 = .ok (.istore 5, 2) := by decide +kernel
theorem d_L_law_666 : decode code 666 = .ok (.aload_n 2, 1) := by decide +kernel
theorem d_L_law_667 : decode code 667 = .ok (.aload_n 0, 1) := by decide +kernel
theorem d_L_law_668 : decode code 668 = .ok (.iload 4, 2) := by decide +kernel
theorem d_L_law_670 : decode code 670 = .ok (.iconst 1, 1) := by decide +kernel
theorem d_L_law_671 : decode code 671 = .ok (.iadd, 1) := by decide +kernel
theorem d_L_law_672 : decode code 672 = .ok (.iaload, 1) := by decide +kernel
theorem d_L_law_673 : decode code 673 = .ok (.aload_n 0, 1) := by decide +kernel
theorem d_L_law_674 : decode code 674 = .ok (.iload 4, 2) := by decide +kernel
theorem d_L_law_676 : decode code 676 = .ok (.iconst 2, 1) := by decide +kernel
theorem d_L_law_677 : decode code 677 = .ok (.iadd, 1) := by decide +kernel
theorem d_L_law_678 : decode code 678 = .ok (.iaload, 1) := by decide +kernel
theorem d_L_law_679 : decode code 679 = .ok (.aload_n 0, 1) := by decide +kernel
theorem d_L_law_680 : decode code 680 = .ok (.iload 4, 2) := by decide +kernel
theorem d_L_law_682 : decode code 682 = .ok (.iconst 3, 1) := by decide +kernel
theorem d_L_law_683 : decode code 683 = .ok (.iadd, 1) := by decide +kernel
theorem d_L_law_684 : decode code 684 = .ok (.iaload, 1) := by decide +kernel
theorem d_L_law_685 : decode code 685 = .ok (.aload_n 0, 1) := by decide +kernel
theorem d_L_law_686 : decode code 686 = .ok (.iload 4, 2) := by decide +kernel
theorem d_L_law_688 : decode code 688 = .ok (.iconst 4, 1) := by decide +kernel
theorem d_L_law_689 : decode code 689 = .ok (.iadd, 1) := by decide +kernel
theorem d_L_law_690 : decode code 690 = .ok (.iaload, 1) := by decide +kernel
theorem d_L_law_691 : decode code 691 = .ok (.aload_n 0, 1) := by decide +kernel
theorem d_L_law_692 : decode code 692 = .ok (.iload 4, 2) := by decide +kernel
theorem d_L_law_694 : decode code 694 = .ok (.iconst 5, 1) := by decide +kernel
theorem d_L_law_695 : decode code 695 = .ok (.iadd, 1) := by decide +kernel
theorem d_L_law_696 : decode code 696 = .ok (.iaload, 1) := by decide +kernel
theorem d_L_law_697 : decode code 697 = .ok (.invokevirtual 107, 3) := by decide +kernel
theorem d_L_law_700 : decode code 700 = .ok (.istore 6, 2) := by decide +kernel
theorem d_L_law_702 : decode code 702 = .ok (.aload_n 2, 1) := by decide +kernel
theorem d_L_law_703 : decode code 703 = .ok (.invokevirtual 75, 3) := by decide +kernel
theorem d_L_law_706 : decode code 706 = .ok (.iload 5, 2) := by decide +kernel
theorem d_L_law_708 : decode code 708 = .ok (.if_icmp .eq 5, 3) := by decide +kernel
theorem d_L_law_713 : decode code 713 = .ok (.iload 5, 2) := by decide +kernel
theorem d_L_law_715 : decode code 715 = .ok (.ifCond .ne 15, 3) := by decide +kernel
theorem d_L_law_730 : decode code 730 = .ok (.goto 323, 3) := by decide +kernel
theorem d_L_law_733 : decode code 733 = .ok (.aload_n 1, 1) := by decide +kernel
theorem d_L_law_734 : decode code 734 = .ok (.invokevirtual 108, 3) := by decide +kernel
theorem d_L_law_737 : decode code 737 = .ok (.aload_n 2, 1) := by decide +kernel
theorem d_L_law_738 : decode code 738 = .ok (.invokevirtual 111, 3) := by decide +kernel
theorem d_L_law_741 : decode code 741 = .ok (.goto 312, 3) := by decide +kernel
theorem d_L_law_744 : decode code 744 = .ok (.aload_n 1, 1) := by decide +kernel
theorem d_L_law_745 : decode code 745 = .ok (.aload_n 0, 1) := by decide +kernel
theorem d_L_law_746 : decode code 746 = .ok (.iload 4, 2) := by decide +kernel
theorem d_L_law_748 : decode code 748 = .ok (.iconst 1, 1) := by decide +kernel
theorem d_L_law_749 : decode code 749 = .ok (.iadd, 1) := by decide +kernel
theorem d_L_law_750 : decode code 750 = .ok (.iaload, 1) := by decide +kernel
theorem d_L_law_751 : decode code 751 = .ok (.aload_n 0, 1) := by decide +kernel
theorem d_L_law_752 : decode code 752 = .ok (.iload 4, 2) := by decide +kernel
theorem d_L_law_754 : decode code 754 = .ok (.iconst 2, 1) := by decide +kernel
theorem d_L_law_755 : decode code 755 = .ok (.iadd, 1) := by decide +kernel
theorem d_L_law_756 : decode code 756 = .ok (.iaload, 1) := by decide +kernel
theorem d_L_law_757 : decode code 757 = .ok (.invokestatic 112, 3) := by decide +kernel
theorem d_L_law_760 : decode code 760 = .ok (.istore 5, 2) := by decide +kernel
theorem d_L_law_762 : decode code 762 = .ok (.aload_n 2, 1) := by decide +kernel
theorem d_L_law_763 : decode code 763 = .ok (.aload_n 0, 1) := by decide +kernel
theorem d_L_law_764 : decode code 764 = .ok (.iload 4, 2) := by decide +kernel
theorem d_L_law_766 : decode code 766 = .ok (.iconst 1, 1) := by decide +kernel
theorem d_L_law_767 : decode code 767 = .ok (.iadd, 1) := by decide +kernel
theorem d_L_law_768 : decode code 768 = .ok (.iaload, 1) := by decide +kernel
theorem d_L_law_769 : decode code 769 = .ok (.aload_n 0, 1) := by decide +kernel
theorem d_L_law_770 : decode code 770 = .ok (.iload 4, 2) := by decide +kernel
theorem d_L_law_772 : decode code 772 = .ok (.iconst 2, 1) := by decide +kernel
theorem d_L_law_773 : decode code 773 = .ok (.iadd, 1) := by decide +kernel
theorem d_L_law_774 : decode code 774 = .ok (.iaload, 1) := by decide +kernel
theorem d_L_law_775 : decode code 775 = .ok (.invokevirtual 115, 3) := by decide +kernel
theorem d_L_law_778 : decode code 778 = .ok (.aload_n 2, 1) := by decide +kernel
theorem d_L_law_779 : decode code 779 = .ok (.invokevirtual 75, 3) := by decide +kernel
theorem d_L_law_782 : decode code 782 = .ok (.iload 5, 2) := by decide +kernel
theorem d_L_law_784 : decode code 784 = .ok (.if_icmp .eq 5, 3) := by decide +kernel
theorem d_L_law_789 : decode code 789 = .ok (.goto 264, 3) := by decide +kernel
theorem d_L_law_792 : decode code 792 = .ok (.aload_n 1, 1) := by decide +kernel
theorem d_L_law_793 : decode code 793 = .ok (.aload_n 0, 1) := by decide +kernel
theorem d_L_law_794 : decode code 794 = .ok (.iload 4, 2) := by decide +kernel
theorem d_L_law_796 : decode code 796 = .ok (.iconst 1, 1) := by decide +kernel
theorem d_L_law_797 : decode code 797 = .ok (.iadd, 1) := by decide +kernel
theorem d_L_law_798 : decode code 798 = .ok (.iaload, 1) := by decide +kernel
theorem d_L_law_799 : decode code 799 = .ok (.invokestatic 116, 3) := by decide +kernel
theorem d_L_law_802 : decode code 802 = .ok (.istore 5, 2) := by decide +kernel
theorem d_L_law_804 : decode code 804 = .ok (.aload_n 2, 1) := by decide +kernel
theorem d_L_law_805 : decode code 805 = .ok (.aload_n 0, 1) := by decide +kernel
theorem d_L_law_806 : decode code 806 = .ok (.iload 4, 2) := by decide +kernel
theorem d_L_law_808 : decode code 808 = .ok (.iconst 1, 1) := by decide +kernel
theorem d_L_law_809 : decode code 809 = .ok (.iadd, 1) := by decide +kernel
theorem d_L_law_810 : decode code 810 = .ok (.iaload, 1) := by decide +kernel
theorem d_L_law_811 : decode code 811 = .ok (.invokevirtual 119, 3) := by decide +kernel
theorem d_L_law_814 : decode code 814 = .ok (.aload_n 2, 1) := by decide +kernel
theorem d_L_law_815 : decode code 815 = .ok (.invokevirtual 75, 3) := by decide +kernel
theorem d_L_law_818 : decode code 818 = .ok (.iload 5, 2) := by decide +kernel
theorem d_L_law_820 : decode code 820 = .ok (.if_icmp .eq 5, 3) := by decide +kernel
theorem d_L_law_825 : decode code 825 = .ok (.goto 228, 3) := by decide +kernel
theorem d_L_law_828 : decode code 828 = .ok (.aload_n 1, 1) := by decide +kernel
theorem d_L_law_829 : decode code 829 = .ok (.aload_n 0, 1) := by decide +kernel
theorem d_L_law_830 : decode code 830 = .ok (.iload 4, 2) := by decide +kernel
theorem d_L_law_832 : decode code 832 = .ok (.iconst 1, 1) := by decide +kernel
theorem d_L_law_833 : decode code 833 = .ok (.iadd, 1) := by decide +kernel
theorem d_L_law_834 : decode code 834 = .ok (.iaload, 1) := by decide +kernel
theorem d_L_law_835 : decode code 835 = .ok (.aload_n 3, 1) := by decide +kernel
theorem d_L_law_836 : decode code 836 = .ok (.invokestatic 120, 3) := by decide +kernel
theorem d_L_law_839 : decode code 839 = .ok (.istore 5, 2) := by decide +kernel
theorem d_L_law_841 : decode code 841 = .ok (.aload_n 2, 1) := by decide +kernel
theorem d_L_law_842 : decode code 842 = .ok (.aload_n 0, 1) := by decide +kernel
theorem d_L_law_843 : decode code 843 = .ok (.iload 4, 2) := by decide +kernel
theorem d_L_law_845 : decode code 845 = .ok (.iconst 1, 1) := by decide +kernel
theorem d_L_law_846 : decode code 846 = .ok (.iadd, 1) := by decide +kernel
theorem d_L_law_847 : decode code 847 = .ok (.iaload, 1) := by decide +kernel
theorem d_L_law_848 : decode code 848 = .ok (.invokevirtual 122, 3) := by decide +kernel
theorem d_L_law_851 : decode code 851 = .ok (.istore 6, 2) := by decide +kernel
theorem d_L_law_853 : decode code 853 = .ok (.aload_n 2, 1) := by decide +kernel
theorem d_L_law_854 : decode code 854 = .ok (.invokevirtual 75, 3) := by decide +kernel
theorem d_L_law_857 : decode code 857 = .ok (.iload 5, 2) := by decide +kernel
theorem d_L_law_859 : decode code 859 = .ok (.if_icmp .eq 5, 3) := by decide +kernel
theorem d_L_law_864 : decode code 864 = .ok (.iload 5, 2) := by decide +kernel
theorem d_L_law_866 : decode code 866 = .ok (.ifCond .ne 15, 3) := by decide +kernel
theorem d_L_law_881 : decode code 881 = .ok (.goto 172, 3) := by decide +kernel
theorem d_L_law_884 : decode code 884 = .ok (.aload_n 1, 1) := by decide +kernel
theorem d_L_law_885 : decode code 885 = .ok (.invokevirtual 123, 3) := by decide +kernel
theorem d_L_law_888 : decode code 888 = .ok (.aload_n 2, 1) := by decide +kernel
theorem d_L_law_889 : decode code 889 = .ok (.invokevirtual 126, 3) := by decide +kernel
theorem d_L_law_892 : decode code 892 = .ok (.if_icmp .eq 161, 3) := by decide +kernel
theorem d_L_law_897 : decode code 897 = .ok (.aload_n 1, 1) := by decide +kernel
theorem d_L_law_898 : decode code 898 = .ok (.invokevirtual 127, 3) := by decide +kernel
theorem d_L_law_901 : decode code 901 = .ok (.aload_n 2, 1) := by decide +kernel
theorem d_L_law_902 : decode code 902 = .ok (.invokevirtual 130, 3) := by decide +kernel
theorem d_L_law_905 : decode code 905 = .ok (.if_icmp .eq 148, 3) := by decide +kernel
theorem d_L_law_910 : decode code 910 = .ok (.aload_n 1, 1) := by decide +kernel
theorem d_L_law_911 : decode code 911 = .ok (.aload_n 0, 1) := by decide +kernel
theorem d_L_law_912 : decode code 912 = .ok (.iload 4, 2) := by decide +kernel
theorem d_L_law_914 : decode code 914 = .ok (.iconst 1, 1) := by decide +kernel
theorem d_L_law_915 : decode code 915 = .ok (.iadd, 1) := by decide +kernel
theorem d_L_law_916 : decode code 916 = .ok (.iaload, 1) := by decide +kernel
end
section
theorem d_L_law_917 : decode code 917 = .ok (.aload_n 0, 1) := by decide +kernel
theorem d_L_law_918 : decode code 918 = .ok (.iload 4, 2) := by decide +kernel
theorem d_L_law_920 : decode code 920 = .ok (.iconst 2, 1) := by decide +kernel
theorem d_L_law_921 : decode code 921 = .ok (.iadd, 1) := by decide +kernel
theorem d_L_law_922 : decode code 922 = .ok (.iaload, 1) := by decide +kernel
theorem d_L_law_923 : decode code 923 = .ok (.aload_n 3, 1) := by decide +kernel
theorem d_L_law_924 : decode code 924 = .ok (.invokestatic 131, 3) := by decide +kernel
theorem d_L_law_927 : decode code 927 = .ok (.istore 5, 2) := by decide +kernel
theorem d_L_law_929 : decode code 929 = .ok (.aload_n 2, 1) := by decide +kernel
theorem d_L_law_930 : decode code 930 = .ok (.aload_n 0, 1) := by decide +kernel
theorem d_L_law_931 : decode code 931 = .ok (.iload 4, 2) := by decide +kernel
theorem d_L_law_933 : decode code 933 = .ok (.iconst 1, 1) := by decide +kernel
theorem d_L_law_934 : decode code 934 = .ok (.iadd, 1) := by decide +kernel
theorem d_L_law_935 : decode code 935 = .ok (.iaload, 1) := by decide +kernel
theorem d_L_law_936 : decode code 936 = .ok (.aload_n 0, 1) := by decide +kernel
theorem d_L_law_937 : decode code 937 = .ok (.iload 4, 2) := by decide +kernel
theorem d_L_law_939 : decode code 939 = .ok (.iconst 2, 1) := by decide +kernel
theorem d_L_law_940 : decode code 940 = .ok (.iadd, 1) := by decide +kernel
theorem d_L_law_941 : decode code 941 = .ok (.iaload, 1) := by decide +kernel
theorem d_L_law_942 : decode code 942 = .ok (.invokevirtual 133, 3) := by decide +kernel
theorem d_L_law_945 : decode code 945 = .ok (.istore 6, 2) := by decide +kernel
theorem d_L_law_947 : decode code 947 = .ok (.aload_n 2, 1) := by decide +kernel
theorem d_L_law_948 : decode code 948 = .ok (.invokevirtual 75, 3) := by decide +kernel
theorem d_L_law_951 : decode code 951 = .ok (.iload 5, 2) := by decide +kernel
theorem d_L_law_953 : decode code 953 = .ok (.if_icmp .eq 5, 3) := by decide +kernel
theorem d_L_law_958 : decode code 958 = .ok (.iload 5, 2) := by decide +kernel
theorem d_L_law_960 : decode code 960 = .ok (.ifCond .ne 22, 3) := by decide +kernel
theorem d_L_law_982 : decode code 982 = .ok (.goto 71, 3) := by decide +kernel
theorem d_L_law_985 : decode code 985 = .ok (.aload_n 1, 1) := by decide +kernel
theorem d_L_law_986 : decode code 986 = .ok (.aload_n 0, 1) := by decide +kernel
theorem d_L_law_987 : decode code 987 = .ok (.iload 4, 2) := by decide +kernel
theorem d_L_law_989 : decode code 989 = .ok (.iconst 1, 1) := by decide +kernel
theorem d_L_law_990 : decode code 990 = .ok (.iadd, 1) := by decide +kernel
theorem d_L_law_991 : decode code 991 = .ok (.iaload, 1) := by decide +kernel
theorem d_L_law_992 : decode code 992 = .ok (.aload_n 0, 1) := by decide +kernel
theorem d_L_law_993 : decode code 993 = .ok (.iload 4, 2) := by decide +kernel
theorem d_L_law_995 : decode code 995 = .ok (.iconst 2, 1) := by decide +kernel
theorem d_L_law_996 : decode code 996 = .ok (.iadd, 1) := by decide +kernel
theorem d_L_law_997 : decode code 997 = .ok (.iaload, 1) := by decide +kernel
theorem d_L_law_998 : decode code 998 = .ok (.aload_n 3, 1) := by decide +kernel
theorem d_L_law_999 : decode code 999 = .ok (.invokestatic 134, 3) := by decide +kernel
theorem d_L_law_1002 : decode code 1002 = .ok (.istore 5, 2) := by decide +kernel
theorem d_L_law_1004 : decode code 1004 = .ok (.aload_n 2, 1) := by decide +kernel
theorem d_L_law_1005 : decode code 1005 = .ok (.aload_n 0, 1) := by decide +kernel
theorem d_L_law_1006 : decode code 1006 = .ok (.iload 4, 2) := by decide +kernel
theorem d_L_law_1008 : decode code 1008 = .ok (.iconst 1, 1) := by decide +kernel
theorem d_L_law_1009 : decode code 1009 = .ok (.iadd, 1) := by decide +kernel
theorem d_L_law_1010 : decode code 1010 = .ok (.iaload, 1) := by decide +kernel
theorem d_L_law_1011 : decode code 1011 = .ok (.aload_n 0, 1) := by decide +kernel
theorem d_L_law_1012 : decode code 1012 = .ok (.iload 4, 2) := by decide +kernel
theorem d_L_law_1014 : decode code 1014 = .ok (.iconst 2, 1) := by decide +kernel
theorem d_L_law_1015 : decode code 1015 = .ok (.iadd, 1) := by decide +kernel
theorem d_L_law_1016 : decode code 1016 = .ok (.iaload, 1) := by decide +kernel
theorem d_L_law_1017 : decode code 1017 = .ok (.invokevirtual 136, 3) := by decide +kernel
theorem d_L_law_1020 : decode code 1020 = .ok (.istore 6, 2) := by decide +kernel
theorem d_L_law_1022 : decode code 1022 = .ok (.aload_n 2, 1) := by decide +kernel
theorem d_L_law_1023 : decode code 1023 = .ok (.invokevirtual 75, 3) := by decide +kernel
theorem d_L_law_1026 : decode code 1026 = .ok (.iload 5, 2) := by decide +kernel
theorem d_L_law_1028 : decode code 1028 = .ok (.if_icmp .eq 5, 3) := by decide +kernel
theorem d_L_law_1033 : decode code 1033 = .ok (.iload 5, 2) := by decide +kernel
theorem d_L_law_1035 : decode code 1035 = .ok (.ifCond .ne 15, 3) := by decide +kernel
theorem d_L_law_1050 : decode code 1050 = .ok (.goto 3, 3) := by decide +kernel
theorem d_L_law_412 : decode code 412 = .ok (.aload_n 1, 1) := by decide +kernel
theorem d_L_law_413 : decode code 413 = .ok (.aload_n 0, 1) := by decide +kernel
theorem d_L_law_414 : decode code 414 = .ok (.iload 4, 2) := by decide +kernel
theorem d_L_law_416 : decode code 416 = .ok (.iconst 1, 1) := by decide +kernel
theorem d_L_law_417 : decode code 417 = .ok (.iadd, 1) := by decide +kernel
theorem d_L_law_418 : decode code 418 = .ok (.iaload, 1) := by decide +kernel
theorem d_L_law_419 : decode code 419 = .ok (.invokevirtual 90, 3) := by decide +kernel
theorem d_L_law_422 : decode code 422 = .ok (.aload_n 2, 1) := by decide +kernel
theorem d_L_law_423 : decode code 423 = .ok (.aload_n 0, 1) := by decide +kernel
theorem d_L_law_424 : decode code 424 = .ok (.iload 4, 2) := by decide +kernel
theorem d_L_law_426 : decode code 426 = .ok (.iconst 1, 1) := by decide +kernel
theorem d_L_law_427 : decode code 427 = .ok (.iadd, 1) := by decide +kernel
theorem d_L_law_428 : decode code 428 = .ok (.iaload, 1) := by decide +kernel
theorem d_L_law_429 : decode code 429 = .ok (.invokevirtual 93, 3) := by decide +kernel
theorem d_L_law_432 : decode code 432 = .ok (.if_icmp .eq 621, 3) := by decide +kernel
theorem d_L_law_0 : decode code 0 = .ok (.new 8, 3) := by decide +kernel
theorem d_L_law_3 : decode code 3 = .ok (.dup, 1) := by decide +kernel
theorem d_L_law_4 : decode code 4 = .ok (.invokespecial 65, 3) := by decide +kernel
theorem d_L_law_7 : decode code 7 = .ok (.astore_n 1, 1) := by decide +kernel
theorem d_L_law_8 : decode code 8 = .ok (.new 66, 3) := by decide +kernel
theorem d_L_law_11 : decode code 11 = .ok (.dup, 1) := by decide +kernel
theorem d_L_law_12 : decode code 12 = .ok (.invokespecial 68, 3) := by decide +kernel
theorem d_L_law_15 : decode code 15 = .ok (.astore_n 2, 1) := by decide +kernel
theorem d_L_law_16 : decode code 16 = .ok (.iconst 1, 1) := by decide +kernel
theorem d_L_law_17 : decode code 17 = .ok (.newarray .long, 2) := by decide +kernel
theorem d_L_law_19 : decode code 19 = .ok (.astore_n 3, 1) := by decide +kernel
theorem d_L_law_20 : decode code 20 = .ok (.iconst 0, 1) := by decide +kernel
theorem d_L_law_21 : decode code 21 = .ok (.istore 4, 2) := by decide +kernel
theorem d_L_law_33 : decode code 33 = .ok (.aload_n 0, 1) := by decide +kernel
theorem d_L_law_34 : decode code 34 = .ok (.iload 4, 2) := by decide +kernel
theorem d_L_law_36 : decode code 36 = .ok (.iaload, 1) := by decide +kernel
theorem d_L_law_37 : decode code 37 = .ok (.bipush 31, 2) := by decide +kernel
theorem d_L_law_39 : decode code 39 = .ok (.iand, 1) := by decide +kernel
theorem d_L_law_40 : decode code 40 = .ok (.tableswitch 1013 0 16 #[84, 152, 244, 328, 372, 397, 453, 521, 589, 693, 704, 752, 788, 844, 857, 870, 945], 84) := by decide +kernel
end
section
set_option maxHeartbeats 4000000 in
set_option maxRecDepth 100000 in
theorem c_G_init (l : Launch) (htr : l.stackTraces = false) (dC : Nat → ClassId) (dI : Nat → Nat → Nat) (h : Nat) (sz : Nat) : Met l y_G_init WS ({ frames := 1, cells := 11, slots := 732, locals := 12 }) (va_Pc [.ref h] (vq_Pre (dC, dI) CL sz [(h, .inr (1, [.null, .null, .int 0, .null, .null, .null, .null, .int 0, .null, .null, .null, .null, .null]))] [])) (va_Qv (fun _ : Unit => True) (fun _ t => ∃ q1 : Nat, ∃ q3 : Nat, ∃ q5 : Nat, ∃ q7 : Nat, ∃ q9 : Nat, ∃ q11 : Nat, ∃ q13 : Nat, ∃ q15 : Nat, ∃ q17 : Nat, ∃ q19 : Nat, ∃ q21 : Nat, ∃ c2 : ClassId, ∃ c4 : ClassId, vq_Post (dC, dI) CL (va_A [(h, .inr (1, [.null, .null, .int 0, .null, .null, .null, .null, .int 0, .null, .null, .null, .null, .null]))] sz) [(h, .inr (1, [.ref q1, .ref q3, .int 0, .ref q5, .ref q7, .ref q9, .ref q11, .int 0, .ref q13, .ref q15, .ref q17, .ref q19, .ref q21])), (q1, .inl (c2, 6, .inl ((fun _ => 0)))), (q3, .inl (c4, 6, .inl ((fun _ => 0))))] [(c2, .int), (c4, .int)] t) (va_A [(h, .inr (1, [.null, .null, .int 0, .null, .null, .null, .null, .int 0, .null, .null, .null, .null, .null]))] sz)) 11 732 (va_A [(h, .inr (1, [.null, .null, .int 0, .null, .null, .null, .null, .int 0, .null, .null, .null, .null, .null]))] sz) := by
  refine vq_ofW (cc := prog_3_method_1_code) (maxL := 1) (ret := (Option.none : Option Jvm.ClassFile.FieldType)) (by decide) (vq_his k_0) ?_
  intro p e s m args below meth c s₁ B hml hv
  obtain ⟨rfl, hst, hsz, hP, hK, hD0⟩ := hv
  have hx := B.exec
  have hb := B.bytes
  have hr := B.returns
  have hts := atoms_spec (ws := WS) B.pre
  have hown : s.vm.findClass R_G = some m.cls := findClass_of_methodNamed B.named
  have hlocks := B.notSynchronized
  have hin : meth.name = "<init>" := (name_of_methodNamed B.named B.method).1
  have hno := vq_noH B (hts _ k_0)
  subst hsz
  have hN := vq_ns hP
  have hD := hD0.self (sz := s.heap.size)
  generalize hAe : va_A [(h, .inr (1, [.null, .null, .int 0, .null, .null, .null, .null, .int 0, .null, .null, .null, .null, .null]))] s.heap.size = A at hD hN ⊢
  have hA : ∀ q : Nat, s.heap.size ≤ q → A q := fun q h => by rw [← hAe]; exact Or.inr h
  have hS : va_S A s.heap s.heap [] := va_S.rf
  have hP : va_P (dC, dI) CL [(h, .inr (1, [.null, .null, .int 0, .null, .null, .null, .null, .int 0, .null, .null, .null, .null, .null]))] s.heap := hP
  have hD : va_D A [(h, .inr (1, [.null, .null, .int 0, .null, .null, .null, .null, .int 0, .null, .null, .null, .null, .null]))] := hD
  have hl := lv_entry ([.ref h]) (n := 1) (Nat.le_of_ble_eq_true rfl)
  rw [lg_entry_eq]
  generalize (lg_sl ([.ref h]) ++ List.replicate (1 - (lg_sl ([.ref h])).length) Slot.unset).toArray = ls at hl ⊢
  have hl : lv_has ls 1 [(0, .ref h)] := hl
  refine lv_aload_n hx hb d_G_init_0 rfl (lv_at hl 0 rfl) ?_
  refine W.objInit hx hb hown (hts _ k_1) (hts _ k_2) (hts _ k_3) rfl (by rw [hml]; exact hl.1) rfl d_G_init_1 (Nat.le_of_ble_eq_true rfl) (Nat.le_of_ble_eq_true rfl) ?_
  refine W.eq (g2 := F0 m 4 ls []) rfl ?_
  refine lv_aload_n hx hb d_G_init_4 rfl (lv_at hl 0 rfl) ?_
  refine lv_bipush (v := 6) hx hb d_G_init_5 (by decide) ?_
  refine va_newa (D := (dC, dI)) (atype := .int) (ty := .int) (N' := 6) (a0 := (6, .inl (fun _ => 0))) hx hb (hts _ k_4) rfl hK hP hD hS hA (fun _ => rfl) (by decide) (by decide) (by decide) (Nat.le_of_ble_eq_true rfl) (Nat.le_of_ble_eq_true rfl) d_G_init_7 (fun q1 c2 H hK hP hD hS => ?_)
  have hP : va_P (dC, dI) CL [(h, .inr (1, [.null, .null, .int 0, .null, .null, .null, .null, .int 0, .null, .null, .null, .null, .null])), (q1, .inl (c2, 6, .inl ((fun _ => 0))))] H := hP
  have hD : va_D A [(h, .inr (1, [.null, .null, .int 0, .null, .null, .null, .null, .int 0, .null, .null, .null, .null, .null])), (q1, .inl (c2, 6, .inl ((fun _ => 0))))] := hD
  have hK : va_K (dC, dI) CL [(c2, .int)] s := hK
  refine W.widen (k := 1) (n := 6) (by decide) (by decide) ?_
  refine va_putF (D := (dC, dI)) (ci := 1) (v := .ref q1) (ty := .array .int) (C := R_G) (T := F_G) (N := 13) hx hb hts u_G t_G t_G_ok n_G hown hK hP hD hS 0 rfl rfl 0 (by decide) (hts _ k_5) (fun _ h9 => h9) rfl hin rfl (by decide +kernel) rfl rfl (Nat.le_of_ble_eq_true rfl) d_G_init_9 (fun H locs hP hD hS => ?_)
  have hP : va_P (dC, dI) CL [(h, .inr (1, [.ref q1, .null, .int 0, .null, .null, .null, .null, .int 0, .null, .null, .null, .null, .null])), (q1, .inl (c2, 6, .inl ((fun _ => 0))))] H := hP
  have hD : va_D A [(h, .inr (1, [.ref q1, .null, .int 0, .null, .null, .null, .null, .int 0, .null, .null, .null, .null, .null])), (q1, .inl (c2, 6, .inl ((fun _ => 0))))] := hD
  refine lv_aload_n hx hb d_G_init_12 rfl (lv_at hl 0 rfl) ?_
  refine lv_bipush (v := 6) hx hb d_G_init_13 (by decide) ?_
  refine va_newa (D := (dC, dI)) (atype := .int) (ty := .int) (N' := 6) (a0 := (6, .inl (fun _ => 0))) hx hb (hts _ k_4) rfl hK hP hD hS hA (fun _ => rfl) (by decide) (by decide) (by decide) (Nat.le_of_ble_eq_true rfl) (Nat.le_of_ble_eq_true rfl) d_G_init_15 (fun q3 c4 H hK hP hD hS => ?_)
  have hP : va_P (dC, dI) CL [(h, .inr (1, [.ref q1, .null, .int 0, .null, .null, .null, .null, .int 0, .null, .null, .null, .null, .null])), (q1, .inl (c2, 6, .inl ((fun _ => 0)))), (q3, .inl (c4, 6, .inl ((fun _ => 0))))] H := hP
  have hD : va_D A [(h, .inr (1, [.ref q1, .null, .int 0, .null, .null, .null, .null, .int 0, .null, .null, .null, .null, .null])), (q1, .inl (c2, 6, .inl ((fun _ => 0)))), (q3, .inl (c4, 6, .inl ((fun _ => 0))))] := hD
  have hK : va_K (dC, dI) CL [(c2, .int), (c4, .int)] s := hK
  refine W.widen (k := 2) (n := 12) (by decide) (by decide) ?_
  refine va_putF (D := (dC, dI)) (ci := 1) (v := .ref q3) (ty := .array .int) (C := R_G) (T := F_G) (N := 13) hx hb hts u_G t_G t_G_ok n_G hown hK hP hD hS 0 rfl rfl 1 (by decide) (hts _ k_6) (fun _ h9 => h9) rfl hin rfl (by decide +kernel) rfl rfl (Nat.le_of_ble_eq_true rfl) d_G_init_17 (fun H locs hP hD hS => ?_)
  have hP : va_P (dC, dI) CL [(h, .inr (1, [.ref q1, .ref q3, .int 0, .null, .null, .null, .null, .int 0, .null, .null, .null, .null, .null])), (q1, .inl (c2, 6, .inl ((fun _ => 0)))), (q3, .inl (c4, 6, .inl ((fun _ => 0))))] H := hP
  have hD : va_D A [(h, .inr (1, [.ref q1, .ref q3, .int 0, .null, .null, .null, .null, .int 0, .null, .null, .null, .null, .null])), (q1, .inl (c2, 6, .inl ((fun _ => 0)))), (q3, .inl (c4, 6, .inl ((fun _ => 0))))] := hD
  refine lv_aload_n hx hb d_G_init_20 rfl (lv_at hl 0 rfl) ?_
  refine lv_bipush (v := 40) hx hb d_G_init_21 (by decide) ?_
  refine va_newa (D := (dC, dI)) (atype := .int) (ty := .int) (N' := 40) (a0 := (40, .inl (fun _ => 0))) hx hb (hts _ k_4) rfl hK hP hD hS hA (fun _ => rfl) (by decide) (by decide) (by decide) (Nat.le_of_ble_eq_true rfl) (Nat.le_of_ble_eq_true rfl) d_G_init_23 (fun q5 c6 H hK hP hD hS => ?_)
  have hP : va_P (dC, dI) CL [(h, .inr (1, [.ref q1, .ref q3, .int 0, .null, .null, .null, .null, .int 0, .null, .null, .null, .null, .null])), (q1, .inl (c2, 6, .inl ((fun _ => 0)))), (q3, .inl (c4, 6, .inl ((fun _ => 0)))), (q5, .inl (c6, 40, .inl ((fun _ => 0))))] H := hP
  have hD : va_D A [(h, .inr (1, [.ref q1, .ref q3, .int 0, .null, .null, .null, .null, .int 0, .null, .null, .null, .null, .null])), (q1, .inl (c2, 6, .inl ((fun _ => 0)))), (q3, .inl (c4, 6, .inl ((fun _ => 0)))), (q5, .inl (c6, 40, .inl ((fun _ => 0))))] := hD
  have hK : va_K (dC, dI) CL [(c2, .int), (c4, .int), (c6, .int)] s := hK
  refine W.widen (k := 3) (n := 52) (by decide) (by decide) ?_
  refine va_putF (D := (dC, dI)) (ci := 1) (v := .ref q5) (ty := .array .int) (C := R_G) (T := F_G) (N := 13) hx hb hts u_G t_G t_G_ok n_G hown hK hP hD hS 0 rfl rfl 3 (by decide) (hts _ k_7) (fun _ h9 => h9) rfl hin rfl (by decide +kernel) rfl rfl (Nat.le_of_ble_eq_true rfl) d_G_init_25 (fun H locs hP hD hS => ?_)
  have hP : va_P (dC, dI) CL [(h, .inr (1, [.ref q1, .ref q3, .int 0, .ref q5, .null, .null, .null, .int 0, .null, .null, .null, .null, .null])), (q1, .inl (c2, 6, .inl ((fun _ => 0)))), (q3, .inl (c4, 6, .inl ((fun _ => 0)))), (q5, .inl (c6, 40, .inl ((fun _ => 0))))] H := hP
  have hD : va_D A [(h, .inr (1, [.ref q1, .ref q3, .int 0, .ref q5, .null, .null, .null, .int 0, .null, .null, .null, .null, .null])), (q1, .inl (c2, 6, .inl ((fun _ => 0)))), (q3, .inl (c4, 6, .inl ((fun _ => 0)))), (q5, .inl (c6, 40, .inl ((fun _ => 0))))] := hD
  have hP := hP.sub (ws' := [(h, .inr (1, [.ref q1, .ref q3, .int 0, .ref q5, .null, .null, .null, .int 0, .null, .null, .null, .null, .null])), (q1, .inl (c2, 6, .inl ((fun _ => 0)))), (q3, .inl (c4, 6, .inl ((fun _ => 0))))]) [0, 1, 2] rfl
  have hD := hD.sub (ws' := [(h, .inr (1, [.ref q1, .ref q3, .int 0, .ref q5, .null, .null, .null, .int 0, .null, .null, .null, .null, .null])), (q1, .inl (c2, 6, .inl ((fun _ => 0)))), (q3, .inl (c4, 6, .inl ((fun _ => 0))))]) [0, 1, 2] (by decide) rfl
  have hK := hK.sub (tys' := [(c2, .int), (c4, .int)]) [0, 1] rfl
  refine lv_aload_n hx hb d_G_init_28 rfl (lv_at hl 0 rfl) ?_
  refine lv_bipush (v := 10) hx hb d_G_init_29 (by decide) ?_
  refine va_newa (D := (dC, dI)) (atype := .int) (ty := .int) (N' := 10) (a0 := (10, .inl (fun _ => 0))) hx hb (hts _ k_4) rfl hK hP hD hS hA (fun _ => rfl) (by decide) (by decide) (by decide) (Nat.le_of_ble_eq_true rfl) (Nat.le_of_ble_eq_true rfl) d_G_init_31 (fun q7 c8 H hK hP hD hS => ?_)
  have hP : va_P (dC, dI) CL [(h, .inr (1, [.ref q1, .ref q3, .int 0, .ref q5, .null, .null, .null, .int 0, .null, .null, .null, .null, .null])), (q1, .inl (c2, 6, .inl ((fun _ => 0)))), (q3, .inl (c4, 6, .inl ((fun _ => 0)))), (q7, .inl (c8, 10, .inl ((fun _ => 0))))] H := hP
  have hD : va_D A [(h, .inr (1, [.ref q1, .ref q3, .int 0, .ref q5, .null, .null, .null, .int 0, .null, .null, .null, .null, .null])), (q1, .inl (c2, 6, .inl ((fun _ => 0)))), (q3, .inl (c4, 6, .inl ((fun _ => 0)))), (q7, .inl (c8, 10, .inl ((fun _ => 0))))] := hD
  have hK : va_K (dC, dI) CL [(c2, .int), (c4, .int), (c8, .int)] s := hK
  refine W.widen (k := 4) (n := 62) (by decide) (by decide) ?_
  refine va_putF (D := (dC, dI)) (ci := 1) (v := .ref q7) (ty := .array .int) (C := R_G) (T := F_G) (N := 13) hx hb hts u_G t_G t_G_ok n_G hown hK hP hD hS 0 rfl rfl 4 (by decide) (hts _ k_8) (fun _ h9 => h9) rfl hin rfl (by decide +kernel) rfl rfl (Nat.le_of_ble_eq_true rfl) d_G_init_33 (fun H locs hP hD hS => ?_)
  have hP : va_P (dC, dI) CL [(h, .inr (1, [.ref q1, .ref q3, .int 0, .ref q5, .ref q7, .null, .null, .int 0, .null, .null, .null, .null, .null])), (q1, .inl (c2, 6, .inl ((fun _ => 0)))), (q3, .inl (c4, 6, .inl ((fun _ => 0)))), (q7, .inl (c8, 10, .inl ((fun _ => 0))))] H := hP
  have hD : va_D A [(h, .inr (1, [.ref q1, .ref q3, .int 0, .ref q5, .ref q7, .null, .null, .int 0, .null, .null, .null, .null, .null])), (q1, .inl (c2, 6, .inl ((fun _ => 0)))), (q3, .inl (c4, 6, .inl ((fun _ => 0)))), (q7, .inl (c8, 10, .inl ((fun _ => 0))))] := hD
  have hP := hP.sub (ws' := [(h, .inr (1, [.ref q1, .ref q3, .int 0, .ref q5, .ref q7, .null, .null, .int 0, .null, .null, .null, .null, .null])), (q1, .inl (c2, 6, .inl ((fun _ => 0)))), (q3, .inl (c4, 6, .inl ((fun _ => 0))))]) [0, 1, 2] rfl
  have hD := hD.sub (ws' := [(h, .inr (1, [.ref q1, .ref q3, .int 0, .ref q5, .ref q7, .null, .null, .int 0, .null, .null, .null, .null, .null])), (q1, .inl (c2, 6, .inl ((fun _ => 0)))), (q3, .inl (c4, 6, .inl ((fun _ => 0))))]) [0, 1, 2] (by decide) rfl
  have hK := hK.sub (tys' := [(c2, .int), (c4, .int)]) [0, 1] rfl
  refine lv_aload_n hx hb d_G_init_36 rfl (lv_at hl 0 rfl) ?_
  refine lv_bipush (v := 10) hx hb d_G_init_37 (by decide) ?_
  refine va_newa (D := (dC, dI)) (atype := .int) (ty := .int) (N' := 10) (a0 := (10, .inl (fun _ => 0))) hx hb (hts _ k_4) rfl hK hP hD hS hA (fun _ => rfl) (by decide) (by decide) (by decide) (Nat.le_of_ble_eq_true rfl) (Nat.le_of_ble_eq_true rfl) d_G_init_39 (fun q9 c10 H hK hP hD hS => ?_)
  have hP : va_P (dC, dI) CL [(h, .inr (1, [.ref q1, .ref q3, .int 0, .ref q5, .ref q7, .null, .null, .int 0, .null, .null, .null, .null, .null])), (q1, .inl (c2, 6, .inl ((fun _ => 0)))), (q3, .inl (c4, 6, .inl ((fun _ => 0)))), (q9, .inl (c10, 10, .inl ((fun _ => 0))))] H := hP
  have hD : va_D A [(h, .inr (1, [.ref q1, .ref q3, .int 0, .ref q5, .ref q7, .null, .null, .int 0, .null, .null, .null, .null, .null])), (q1, .inl (c2, 6, .inl ((fun _ => 0)))), (q3, .inl (c4, 6, .inl ((fun _ => 0)))), (q9, .inl (c10, 10, .inl ((fun _ => 0))))] := hD
  have hK : va_K (dC, dI) CL [(c2, .int), (c4, .int), (c10, .int)] s := hK
  refine W.widen (k := 5) (n := 72) (by decide) (by decide) ?_
  refine va_putF (D := (dC, dI)) (ci := 1) (v := .ref q9) (ty := .array .int) (C := R_G) (T := F_G) (N := 13) hx hb hts u_G t_G t_G_ok n_G hown hK hP hD hS 0 rfl rfl 5 (by decide) (hts _ k_9) (fun _ h9 => h9) rfl hin rfl (by decide +kernel) rfl rfl (Nat.le_of_ble_eq_true rfl) d_G_init_41 (fun H locs hP hD hS => ?_)
  have hP : va_P (dC, dI) CL [(h, .inr (1, [.ref q1, .ref q3, .int 0, .ref q5, .ref q7, .ref q9, .null, .int 0, .null, .null, .null, .null, .null])), (q1, .inl (c2, 6, .inl ((fun _ => 0)))), (q3, .inl (c4, 6, .inl ((fun _ => 0)))), (q9, .inl (c10, 10, .inl ((fun _ => 0))))] H := hP
  have hD : va_D A [(h, .inr (1, [.ref q1, .ref q3, .int 0, .ref q5, .ref q7, .ref q9, .null, .int 0, .null, .null, .null, .null, .null])), (q1, .inl (c2, 6, .inl ((fun _ => 0)))), (q3, .inl (c4, 6, .inl ((fun _ => 0)))), (q9, .inl (c10, 10, .inl ((fun _ => 0))))] := hD
  have hP := hP.sub (ws' := [(h, .inr (1, [.ref q1, .ref q3, .int 0, .ref q5, .ref q7, .ref q9, .null, .int 0, .null, .null, .null, .null, .null])), (q1, .inl (c2, 6, .inl ((fun _ => 0)))), (q3, .inl (c4, 6, .inl ((fun _ => 0))))]) [0, 1, 2] rfl
  have hD := hD.sub (ws' := [(h, .inr (1, [.ref q1, .ref q3, .int 0, .ref q5, .ref q7, .ref q9, .null, .int 0, .null, .null, .null, .null, .null])), (q1, .inl (c2, 6, .inl ((fun _ => 0)))), (q3, .inl (c4, 6, .inl ((fun _ => 0))))]) [0, 1, 2] (by decide) rfl
  have hK := hK.sub (tys' := [(c2, .int), (c4, .int)]) [0, 1] rfl
  refine lv_aload_n hx hb d_G_init_44 rfl (lv_at hl 0 rfl) ?_
  refine lv_bipush (v := 10) hx hb d_G_init_45 (by decide) ?_
  refine va_newa (D := (dC, dI)) (atype := .int) (ty := .int) (N' := 10) (a0 := (10, .inl (fun _ => 0))) hx hb (hts _ k_4) rfl hK hP hD hS hA (fun _ => rfl) (by decide) (by decide) (by decide) (Nat.le_of_ble_eq_true rfl) (Nat.le_of_ble_eq_true rfl) d_G_init_47 (fun q11 c12 H hK hP hD hS => ?_)
  have hP : va_P (dC, dI) CL [(h, .inr (1, [.ref q1, .ref q3, .int 0, .ref q5, .ref q7, .ref q9, .null, .int 0, .null, .null, .null, .null, .null])), (q1, .inl (c2, 6, .inl ((fun _ => 0)))), (q3, .inl (c4, 6, .inl ((fun _ => 0)))), (q11, .inl (c12, 10, .inl ((fun _ => 0))))] H := hP
  have hD : va_D A [(h, .inr (1, [.ref q1, .ref q3, .int 0, .ref q5, .ref q7, .ref q9, .null, .int 0, .null, .null, .null, .null, .null])), (q1, .inl (c2, 6, .inl ((fun _ => 0)))), (q3, .inl (c4, 6, .inl ((fun _ => 0)))), (q11, .inl (c12, 10, .inl ((fun _ => 0))))] := hD
  have hK : va_K (dC, dI) CL [(c2, .int), (c4, .int), (c12, .int)] s := hK
  refine W.widen (k := 6) (n := 82) (by decide) (by decide) ?_
  refine va_putF (D := (dC, dI)) (ci := 1) (v := .ref q11) (ty := .array .int) (C := R_G) (T := F_G) (N := 13) hx hb hts u_G t_G t_G_ok n_G hown hK hP hD hS 0 rfl rfl 6 (by decide) (hts _ k_10) (fun _ h9 => h9) rfl hin rfl (by decide +kernel) rfl rfl (Nat.le_of_ble_eq_true rfl) d_G_init_49 (fun H locs hP hD hS => ?_)
  have hP : va_P (dC, dI) CL [(h, .inr (1, [.ref q1, .ref q3, .int 0, .ref q5, .ref q7, .ref q9, .ref q11, .int 0, .null, .null, .null, .null, .null])), (q1, .inl (c2, 6, .inl ((fun _ => 0)))), (q3, .inl (c4, 6, .inl ((fun _ => 0)))), (q11, .inl (c12, 10, .inl ((fun _ => 0))))] H := hP
  have hD : va_D A [(h, .inr (1, [.ref q1, .ref q3, .int 0, .ref q5, .ref q7, .ref q9, .ref q11, .int 0, .null, .null, .null, .null, .null])), (q1, .inl (c2, 6, .inl ((fun _ => 0)))), (q3, .inl (c4, 6, .inl ((fun _ => 0)))), (q11, .inl (c12, 10, .inl ((fun _ => 0))))] := hD
  have hP := hP.sub (ws' := [(h, .inr (1, [.ref q1, .ref q3, .int 0, .ref q5, .ref q7, .ref q9, .ref q11, .int 0, .null, .null, .null, .null, .null])), (q1, .inl (c2, 6, .inl ((fun _ => 0)))), (q3, .inl (c4, 6, .inl ((fun _ => 0))))]) [0, 1, 2] rfl
  have hD := hD.sub (ws' := [(h, .inr (1, [.ref q1, .ref q3, .int 0, .ref q5, .ref q7, .ref q9, .ref q11, .int 0, .null, .null, .null, .null, .null])), (q1, .inl (c2, 6, .inl ((fun _ => 0)))), (q3, .inl (c4, 6, .inl ((fun _ => 0))))]) [0, 1, 2] (by decide) rfl
  have hK := hK.sub (tys' := [(c2, .int), (c4, .int)]) [0, 1] rfl
  refine lv_aload_n hx hb d_G_init_52 rfl (lv_at hl 0 rfl) ?_
  refine lv_bipush (v := 10) hx hb d_G_init_53 (by decide) ?_
  refine va_newa (D := (dC, dI)) (atype := .int) (ty := .int) (N' := 10) (a0 := (10, .inl (fun _ => 0))) hx hb (hts _ k_4) rfl hK hP hD hS hA (fun _ => rfl) (by decide) (by decide) (by decide) (Nat.le_of_ble_eq_true rfl) (Nat.le_of_ble_eq_true rfl) d_G_init_55 (fun q13 c14 H hK hP hD hS => ?_)
  have hP : va_P (dC, dI) CL [(h, .inr (1, [.ref q1, .ref q3, .int 0, .ref q5, .ref q7, .ref q9, .ref q11, .int 0, .null, .null, .null, .null, .null])), (q1, .inl (c2, 6, .inl ((fun _ => 0)))), (q3, .inl (c4, 6, .inl ((fun _ => 0)))), (q13, .inl (c14, 10, .inl ((fun _ => 0))))] H := hP
  have hD : va_D A [(h, .inr (1, [.ref q1, .ref q3, .int 0, .ref q5, .ref q7, .ref q9, .ref q11, .int 0, .null, .null, .null, .null, .null])), (q1, .inl (c2, 6, .inl ((fun _ => 0)))), (q3, .inl (c4, 6, .inl ((fun _ => 0)))), (q13, .inl (c14, 10, .inl ((fun _ => 0))))] := hD
  have hK : va_K (dC, dI) CL [(c2, .int), (c4, .int), (c14, .int)] s := hK
  refine W.widen (k := 7) (n := 92) (by decide) (by decide) ?_
  refine va_putF (D := (dC, dI)) (ci := 1) (v := .ref q13) (ty := .array .int) (C := R_G) (T := F_G) (N := 13) hx hb hts u_G t_G t_G_ok n_G hown hK hP hD hS 0 rfl rfl 8 (by decide) (hts _ k_11) (fun _ h9 => h9) rfl hin rfl (by decide +kernel) rfl rfl (Nat.le_of_ble_eq_true rfl) d_G_init_57 (fun H locs hP hD hS => ?_)
  have hP : va_P (dC, dI) CL [(h, .inr (1, [.ref q1, .ref q3, .int 0, .ref q5, .ref q7, .ref q9, .ref q11, .int 0, .ref q13, .null, .null, .null, .null])), (q1, .inl (c2, 6, .inl ((fun _ => 0)))), (q3, .inl (c4, 6, .inl ((fun _ => 0)))), (q13, .inl (c14, 10, .inl ((fun _ => 0))))] H := hP
  have hD : va_D A [(h, .inr (1, [.ref q1, .ref q3, .int 0, .ref q5, .ref q7, .ref q9, .ref q11, .int 0, .ref q13, .null, .null, .null, .null])), (q1, .inl (c2, 6, .inl ((fun _ => 0)))), (q3, .inl (c4, 6, .inl ((fun _ => 0)))), (q13, .inl (c14, 10, .inl ((fun _ => 0))))] := hD
  have hP := hP.sub (ws' := [(h, .inr (1, [.ref q1, .ref q3, .int 0, .ref q5, .ref q7, .ref q9, .ref q11, .int 0, .ref q13, .null, .null, .null, .null])), (q1, .inl (c2, 6, .inl ((fun _ => 0)))), (q3, .inl (c4, 6, .inl ((fun _ => 0))))]) [0, 1, 2] rfl
  have hD := hD.sub (ws' := [(h, .inr (1, [.ref q1, .ref q3, .int 0, .ref q5, .ref q7, .ref q9, .ref q11, .int 0, .ref q13, .null, .null, .null, .null])), (q1, .inl (c2, 6, .inl ((fun _ => 0)))), (q3, .inl (c4, 6, .inl ((fun _ => 0))))]) [0, 1, 2] (by decide) rfl
  have hK := hK.sub (tys' := [(c2, .int), (c4, .int)]) [0, 1] rfl
  refine lv_aload_n hx hb d_G_init_60 rfl (lv_at hl 0 rfl) ?_
  refine lv_sipush (v := 160) hx hb d_G_init_61 (by decide) ?_
  refine va_newa (D := (dC, dI)) (atype := .int) (ty := .int) (N' := 160) (a0 := (160, .inl (fun _ => 0))) hx hb (hts _ k_4) rfl hK hP hD hS hA (fun _ => rfl) (by decide) (by decide) (by decide) (Nat.le_of_ble_eq_true rfl) (Nat.le_of_ble_eq_true rfl) d_G_init_64 (fun q15 c16 H hK hP hD hS => ?_)
  have hP : va_P (dC, dI) CL [(h, .inr (1, [.ref q1, .ref q3, .int 0, .ref q5, .ref q7, .ref q9, .ref q11, .int 0, .ref q13, .null, .null, .null, .null])), (q1, .inl (c2, 6, .inl ((fun _ => 0)))), (q3, .inl (c4, 6, .inl ((fun _ => 0)))), (q15, .inl (c16, 160, .inl ((fun _ => 0))))] H := hP
  have hD : va_D A [(h, .inr (1, [.ref q1, .ref q3, .int 0, .ref q5, .ref q7, .ref q9, .ref q11, .int 0, .ref q13, .null, .null, .null, .null])), (q1, .inl (c2, 6, .inl ((fun _ => 0)))), (q3, .inl (c4, 6, .inl ((fun _ => 0)))), (q15, .inl (c16, 160, .inl ((fun _ => 0))))] := hD
  have hK : va_K (dC, dI) CL [(c2, .int), (c4, .int), (c16, .int)] s := hK
  refine W.widen (k := 8) (n := 252) (by decide) (by decide) ?_
  refine va_putF (D := (dC, dI)) (ci := 1) (v := .ref q15) (ty := .array .int) (C := R_G) (T := F_G) (N := 13) hx hb hts u_G t_G t_G_ok n_G hown hK hP hD hS 0 rfl rfl 9 (by decide) (hts _ k_12) (fun _ h9 => h9) rfl hin rfl (by decide +kernel) rfl rfl (Nat.le_of_ble_eq_true rfl) d_G_init_66 (fun H locs hP hD hS => ?_)
  have hP : va_P (dC, dI) CL [(h, .inr (1, [.ref q1, .ref q3, .int 0, .ref q5, .ref q7, .ref q9, .ref q11, .int 0, .ref q13, .ref q15, .null, .null, .null])), (q1, .inl (c2, 6, .inl ((fun _ => 0)))), (q3, .inl (c4, 6, .inl ((fun _ => 0)))), (q15, .inl (c16, 160, .inl ((fun _ => 0))))] H := hP
  have hD : va_D A [(h, .inr (1, [.ref q1, .ref q3, .int 0, .ref q5, .ref q7, .ref q9, .ref q11, .int 0, .ref q13, .ref q15, .null, .null, .null])), (q1, .inl (c2, 6, .inl ((fun _ => 0)))), (q3, .inl (c4, 6, .inl ((fun _ => 0)))), (q15, .inl (c16, 160, .inl ((fun _ => 0))))] := hD
  have hP := hP.sub (ws' := [(h, .inr (1, [.ref q1, .ref q3, .int 0, .ref q5, .ref q7, .ref q9, .ref q11, .int 0, .ref q13, .ref q15, .null, .null, .null])), (q1, .inl (c2, 6, .inl ((fun _ => 0)))), (q3, .inl (c4, 6, .inl ((fun _ => 0))))]) [0, 1, 2] rfl
  have hD := hD.sub (ws' := [(h, .inr (1, [.ref q1, .ref q3, .int 0, .ref q5, .ref q7, .ref q9, .ref q11, .int 0, .ref q13, .ref q15, .null, .null, .null])), (q1, .inl (c2, 6, .inl ((fun _ => 0)))), (q3, .inl (c4, 6, .inl ((fun _ => 0))))]) [0, 1, 2] (by decide) rfl
  have hK := hK.sub (tys' := [(c2, .int), (c4, .int)]) [0, 1] rfl
  refine lv_aload_n hx hb d_G_init_69 rfl (lv_at hl 0 rfl) ?_
  refine lv_sipush (v := 160) hx hb d_G_init_70 (by decide) ?_
  refine va_newa (D := (dC, dI)) (atype := .int) (ty := .int) (N' := 160) (a0 := (160, .inl (fun _ => 0))) hx hb (hts _ k_4) rfl hK hP hD hS hA (fun _ => rfl) (by decide) (by decide) (by decide) (Nat.le_of_ble_eq_true rfl) (Nat.le_of_ble_eq_true rfl) d_G_init_73 (fun q17 c18 H hK hP hD hS => ?_)
  have hP : va_P (dC, dI) CL [(h, .inr (1, [.ref q1, .ref q3, .int 0, .ref q5, .ref q7, .ref q9, .ref q11, .int 0, .ref q13, .ref q15, .null, .null, .null])), (q1, .inl (c2, 6, .inl ((fun _ => 0)))), (q3, .inl (c4, 6, .inl ((fun _ => 0)))), (q17, .inl (c18, 160, .inl ((fun _ => 0))))] H := hP
  have hD : va_D A [(h, .inr (1, [.ref q1, .ref q3, .int 0, .ref q5, .ref q7, .ref q9, .ref q11, .int 0, .ref q13, .ref q15, .null, .null, .null])), (q1, .inl (c2, 6, .inl ((fun _ => 0)))), (q3, .inl (c4, 6, .inl ((fun _ => 0)))), (q17, .inl (c18, 160, .inl ((fun _ => 0))))] := hD
  have hK : va_K (dC, dI) CL [(c2, .int), (c4, .int), (c18, .int)] s := hK
  refine W.widen (k := 9) (n := 412) (by decide) (by decide) ?_
  refine va_putF (D := (dC, dI)) (ci := 1) (v := .ref q17) (ty := .array .int) (C := R_G) (T := F_G) (N := 13) hx hb hts u_G t_G t_G_ok n_G hown hK hP hD hS 0 rfl rfl 10 (by decide) (hts _ k_13) (fun _ h9 => h9) rfl hin rfl (by decide +kernel) rfl rfl (Nat.le_of_ble_eq_true rfl) d_G_init_75 (fun H locs hP hD hS => ?_)
  have hP : va_P (dC, dI) CL [(h, .inr (1, [.ref q1, .ref q3, .int 0, .ref q5, .ref q7, .ref q9, .ref q11, .int 0, .ref q13, .ref q15, .ref q17, .null, .null])), (q1, .inl (c2, 6, .inl ((fun _ => 0)))), (q3, .inl (c4, 6, .inl ((fun _ => 0)))), (q17, .inl (c18, 160, .inl ((fun _ => 0))))] H := hP
  have hD : va_D A [(h, .inr (1, [.ref q1, .ref q3, .int 0, .ref q5, .ref q7, .ref q9, .ref q11, .int 0, .ref q13, .ref q15, .ref q17, .null, .null])), (q1, .inl (c2, 6, .inl ((fun _ => 0)))), (q3, .inl (c4, 6, .inl ((fun _ => 0)))), (q17, .inl (c18, 160, .inl ((fun _ => 0))))] := hD
  have hP := hP.sub (ws' := [(h, .inr (1, [.ref q1, .ref q3, .int 0, .ref q5, .ref q7, .ref q9, .ref q11, .int 0, .ref q13, .ref q15, .ref q17, .null, .null])), (q1, .inl (c2, 6, .inl ((fun _ => 0)))), (q3, .inl (c4, 6, .inl ((fun _ => 0))))]) [0, 1, 2] rfl
  have hD := hD.sub (ws' := [(h, .inr (1, [.ref q1, .ref q3, .int 0, .ref q5, .ref q7, .ref q9, .ref q11, .int 0, .ref q13, .ref q15, .ref q17, .null, .null])), (q1, .inl (c2, 6, .inl ((fun _ => 0)))), (q3, .inl (c4, 6, .inl ((fun _ => 0))))]) [0, 1, 2] (by decide) rfl
  have hK := hK.sub (tys' := [(c2, .int), (c4, .int)]) [0, 1] rfl
  refine lv_aload_n hx hb d_G_init_78 rfl (lv_at hl 0 rfl) ?_
  refine lv_sipush (v := 160) hx hb d_G_init_79 (by decide) ?_
  refine va_newa (D := (dC, dI)) (atype := .int) (ty := .int) (N' := 160) (a0 := (160, .inl (fun _ => 0))) hx hb (hts _ k_4) rfl hK hP hD hS hA (fun _ => rfl) (by decide) (by decide) (by decide) (Nat.le_of_ble_eq_true rfl) (Nat.le_of_ble_eq_true rfl) d_G_init_82 (fun q19 c20 H hK hP hD hS => ?_)
  have hP : va_P (dC, dI) CL [(h, .inr (1, [.ref q1, .ref q3, .int 0, .ref q5, .ref q7, .ref q9, .ref q11, .int 0, .ref q13, .ref q15, .ref q17, .null, .null])), (q1, .inl (c2, 6, .inl ((fun _ => 0)))), (q3, .inl (c4, 6, .inl ((fun _ => 0)))), (q19, .inl (c20, 160, .inl ((fun _ => 0))))] H := hP
  have hD : va_D A [(h, .inr (1, [.ref q1, .ref q3, .int 0, .ref q5, .ref q7, .ref q9, .ref q11, .int 0, .ref q13, .ref q15, .ref q17, .null, .null])), (q1, .inl (c2, 6, .inl ((fun _ => 0)))), (q3, .inl (c4, 6, .inl ((fun _ => 0)))), (q19, .inl (c20, 160, .inl ((fun _ => 0))))] := hD
  have hK : va_K (dC, dI) CL [(c2, .int), (c4, .int), (c20, .int)] s := hK
  refine W.widen (k := 10) (n := 572) (by decide) (by decide) ?_
  refine va_putF (D := (dC, dI)) (ci := 1) (v := .ref q19) (ty := .array .int) (C := R_G) (T := F_G) (N := 13) hx hb hts u_G t_G t_G_ok n_G hown hK hP hD hS 0 rfl rfl 11 (by decide) (hts _ k_14) (fun _ h9 => h9) rfl hin rfl (by decide +kernel) rfl rfl (Nat.le_of_ble_eq_true rfl) d_G_init_84 (fun H locs hP hD hS => ?_)
  have hP : va_P (dC, dI) CL [(h, .inr (1, [.ref q1, .ref q3, .int 0, .ref q5, .ref q7, .ref q9, .ref q11, .int 0, .ref q13, .ref q15, .ref q17, .ref q19, .null])), (q1, .inl (c2, 6, .inl ((fun _ => 0)))), (q3, .inl (c4, 6, .inl ((fun _ => 0)))), (q19, .inl (c20, 160, .inl ((fun _ => 0))))] H := hP
  have hD : va_D A [(h, .inr (1, [.ref q1, .ref q3, .int 0, .ref q5, .ref q7, .ref q9, .ref q11, .int 0, .ref q13, .ref q15, .ref q17, .ref q19, .null])), (q1, .inl (c2, 6, .inl ((fun _ => 0)))), (q3, .inl (c4, 6, .inl ((fun _ => 0)))), (q19, .inl (c20, 160, .inl ((fun _ => 0))))] := hD
  have hP := hP.sub (ws' := [(h, .inr (1, [.ref q1, .ref q3, .int 0, .ref q5, .ref q7, .ref q9, .ref q11, .int 0, .ref q13, .ref q15, .ref q17, .ref q19, .null])), (q1, .inl (c2, 6, .inl ((fun _ => 0)))), (q3, .inl (c4, 6, .inl ((fun _ => 0))))]) [0, 1, 2] rfl
  have hD := hD.sub (ws' := [(h, .inr (1, [.ref q1, .ref q3, .int 0, .ref q5, .ref q7, .ref q9, .ref q11, .int 0, .ref q13, .ref q15, .ref q17, .ref q19, .null])), (q1, .inl (c2, 6, .inl ((fun _ => 0)))), (q3, .inl (c4, 6, .inl ((fun _ => 0))))]) [0, 1, 2] (by decide) rfl
  have hK := hK.sub (tys' := [(c2, .int), (c4, .int)]) [0, 1] rfl
  refine lv_aload_n hx hb d_G_init_87 rfl (lv_at hl 0 rfl) ?_
  refine lv_sipush (v := 160) hx hb d_G_init_88 (by decide) ?_
  refine va_newa (D := (dC, dI)) (atype := .int) (ty := .int) (N' := 160) (a0 := (160, .inl (fun _ => 0))) hx hb (hts _ k_4) rfl hK hP hD hS hA (fun _ => rfl) (by decide) (by decide) (by decide) (Nat.le_of_ble_eq_true rfl) (Nat.le_of_ble_eq_true rfl) d_G_init_91 (fun q21 c22 H hK hP hD hS => ?_)
  have hP : va_P (dC, dI) CL [(h, .inr (1, [.ref q1, .ref q3, .int 0, .ref q5, .ref q7, .ref q9, .ref q11, .int 0, .ref q13, .ref q15, .ref q17, .ref q19, .null])), (q1, .inl (c2, 6, .inl ((fun _ => 0)))), (q3, .inl (c4, 6, .inl ((fun _ => 0)))), (q21, .inl (c22, 160, .inl ((fun _ => 0))))] H := hP
  have hD : va_D A [(h, .inr (1, [.ref q1, .ref q3, .int 0, .ref q5, .ref q7, .ref q9, .ref q11, .int 0, .ref q13, .ref q15, .ref q17, .ref q19, .null])), (q1, .inl (c2, 6, .inl ((fun _ => 0)))), (q3, .inl (c4, 6, .inl ((fun _ => 0)))), (q21, .inl (c22, 160, .inl ((fun _ => 0))))] := hD
  have hK : va_K (dC, dI) CL [(c2, .int), (c4, .int), (c22, .int)] s := hK
  refine W.widen (k := 11) (n := 732) (by decide) (by decide) ?_
  refine va_putF (D := (dC, dI)) (ci := 1) (v := .ref q21) (ty := .array .int) (C := R_G) (T := F_G) (N := 13) hx hb hts u_G t_G t_G_ok n_G hown hK hP hD hS 0 rfl rfl 12 (by decide) (hts _ k_15) (fun _ h9 => h9) rfl hin rfl (by decide +kernel) rfl rfl (Nat.le_of_ble_eq_true rfl) d_G_init_93 (fun H locs hP hD hS => ?_)
  have hP : va_P (dC, dI) CL [(h, .inr (1, [.ref q1, .ref q3, .int 0, .ref q5, .ref q7, .ref q9, .ref q11, .int 0, .ref q13, .ref q15, .ref q17, .ref q19, .ref q21])), (q1, .inl (c2, 6, .inl ((fun _ => 0)))), (q3, .inl (c4, 6, .inl ((fun _ => 0)))), (q21, .inl (c22, 160, .inl ((fun _ => 0))))] H := hP
  have hD : va_D A [(h, .inr (1, [.ref q1, .ref q3, .int 0, .ref q5, .ref q7, .ref q9, .ref q11, .int 0, .ref q13, .ref q15, .ref q17, .ref q19, .ref q21])), (q1, .inl (c2, 6, .inl ((fun _ => 0)))), (q3, .inl (c4, 6, .inl ((fun _ => 0)))), (q21, .inl (c22, 160, .inl ((fun _ => 0))))] := hD
  have hP := hP.sub (ws' := [(h, .inr (1, [.ref q1, .ref q3, .int 0, .ref q5, .ref q7, .ref q9, .ref q11, .int 0, .ref q13, .ref q15, .ref q17, .ref q19, .ref q21])), (q1, .inl (c2, 6, .inl ((fun _ => 0)))), (q3, .inl (c4, 6, .inl ((fun _ => 0))))]) [0, 1, 2] rfl
  have hD := hD.sub (ws' := [(h, .inr (1, [.ref q1, .ref q3, .int 0, .ref q5, .ref q7, .ref q9, .ref q11, .int 0, .ref q13, .ref q15, .ref q17, .ref q19, .ref q21])), (q1, .inl (c2, 6, .inl ((fun _ => 0)))), (q3, .inl (c4, 6, .inl ((fun _ => 0))))]) [0, 1, 2] (by decide) rfl
  have hK := hK.sub (tys' := [(c2, .int), (c4, .int)]) [0, 1] rfl
  have hP9 := hP.sub (ws' := [(h, .inr (1, [.ref q1, .ref q3, .int 0, .ref q5, .ref q7, .ref q9, .ref q11, .int 0, .ref q13, .ref q15, .ref q17, .ref q19, .ref q21])), (q1, .inl (c2, 6, .inl ((fun _ => 0)))), (q3, .inl (c4, 6, .inl ((fun _ => 0))))]) [0, 1, 2] rfl
  have hD9 := hD.sub (ws' := [(h, .inr (1, [.ref q1, .ref q3, .int 0, .ref q5, .ref q7, .ref q9, .ref q11, .int 0, .ref q13, .ref q15, .ref q17, .ref q19, .ref q21])), (q1, .inl (c2, 6, .inl ((fun _ => 0)))), (q3, .inl (c4, 6, .inl ((fun _ => 0))))]) [0, 1, 2] (by decide) rfl
  have hK9 := hK.sub (tys' := [(c2, .int), (c4, .int)]) [0, 1] rfl
  refine W.widen (k := 11) (n := 732) (by decide) (by decide) ?_
  exact W.vret hx hb hr (fun t ht hW => ⟨⟨(), rfl, trivial, q1, q3, q5, q7, q9, q11, q13, q15, q17, q19, q21, c2, c4, by rw [ht]; exact hP9, va_K.moved hW.alike hK9, hD9⟩, hS.F ht⟩) hS.2.2 d_G_init_96

set_option maxHeartbeats 4000000 in
set_option maxRecDepth 100000 in
theorem c_E_init (l : Launch) (htr : l.stackTraces = false) (dC : Nat → ClassId) (dI : Nat → Nat → Nat) (h : Nat) (g : Nat) (sz : Nat) : Met l y_E_init WS ({ frames := 1, cells := 2, slots := 184, locals := 12 }) (va_Pc [.ref h, .ref g] (vq_Pre (dC, dI) CL sz [(h, .inr (3, [.null, .null, .null]))] [])) (va_Qv (fun _ : Unit => True) (fun _ t => vq_Post (dC, dI) CL (va_A [(h, .inr (3, [.null, .null, .null]))] sz) [] [] t) (va_A [(h, .inr (3, [.null, .null, .null]))] sz)) 2 184 (va_A [(h, .inr (3, [.null, .null, .null]))] sz) := by
  refine vq_ofW (cc := prog_4_method_1_code) (maxL := 2) (ret := (Option.none : Option Jvm.ClassFile.FieldType)) (by decide) (vq_his k_16) ?_
  intro p e s m args below meth c s₁ B hml hv
  obtain ⟨rfl, hst, hsz, hP, hK, hD0⟩ := hv
  have hx := B.exec
  have hb := B.bytes
  have hr := B.returns
  have hts := atoms_spec (ws := WS) B.pre
  have hown : s.vm.findClass R_E = some m.cls := findClass_of_methodNamed B.named
  have hlocks := B.notSynchronized
  have hin : meth.name = "<init>" := (name_of_methodNamed B.named B.method).1
  have hno := vq_noH B (hts _ k_16)
  subst hsz
  have hN := vq_ns hP
  have hD := hD0.self (sz := s.heap.size)
  generalize hAe : va_A [(h, .inr (3, [.null, .null, .null]))] s.heap.size = A at hD hN ⊢
  have hA : ∀ q : Nat, s.heap.size ≤ q → A q := fun q h => by rw [← hAe]; exact Or.inr h
  have hS : va_S A s.heap s.heap [] := va_S.rf
  have hP : va_P (dC, dI) CL [(h, .inr (3, [.null, .null, .null]))] s.heap := hP
  have hD : va_D A [(h, .inr (3, [.null, .null, .null]))] := hD
  have hl := lv_entry ([.ref h, .ref g]) (n := 2) (Nat.le_of_ble_eq_true rfl)
  rw [lg_entry_eq]
  generalize (lg_sl ([.ref h, .ref g]) ++ List.replicate (2 - (lg_sl ([.ref h, .ref g])).length) Slot.unset).toArray = ls at hl ⊢
  have hl : lv_has ls 2 [(0, .ref h), (1, .ref g)] := hl
  refine lv_aload_n hx hb d_E_init_0 rfl (lv_at hl 0 rfl) ?_
  refine W.objInit hx hb hown (hts _ k_17) (hts _ k_2) (hts _ k_3) rfl (by rw [hml]; exact hl.1) rfl d_E_init_1 (Nat.le_of_ble_eq_true rfl) (Nat.le_of_ble_eq_true rfl) ?_
  refine W.eq (g2 := F0 m 4 ls []) rfl ?_
  refine lv_aload_n hx hb d_E_init_4 rfl (lv_at hl 0 rfl) ?_
  refine lv_sipush (v := 160) hx hb d_E_init_5 (by decide) ?_
  refine va_newa (D := (dC, dI)) (atype := .int) (ty := .int) (N' := 160) (a0 := (160, .inl (fun _ => 0))) hx hb (hts _ k_4) rfl hK hP hD hS hA (fun _ => rfl) (by decide) (by decide) (by decide) (Nat.le_of_ble_eq_true rfl) (Nat.le_of_ble_eq_true rfl) d_E_init_8 (fun q1 c2 H hK hP hD hS => ?_)
  have hP : va_P (dC, dI) CL [(h, .inr (3, [.null, .null, .null])), (q1, .inl (c2, 160, .inl ((fun _ => 0))))] H := hP
  have hD : va_D A [(h, .inr (3, [.null, .null, .null])), (q1, .inl (c2, 160, .inl ((fun _ => 0))))] := hD
  have hK : va_K (dC, dI) CL [(c2, .int)] s := hK
  refine W.widen (k := 1) (n := 160) (by decide) (by decide) ?_
  refine va_putF (D := (dC, dI)) (ci := 3) (v := .ref q1) (ty := .array .int) (C := R_E) (T := F_E) (N := 3) hx hb hts u_E t_E t_E_ok n_E hown hK hP hD hS 0 rfl rfl 1 (by decide) (hts _ k_18) (fun _ h9 => h9) rfl hin rfl (by decide +kernel) rfl rfl (Nat.le_of_ble_eq_true rfl) d_E_init_10 (fun H locs hP hD hS => ?_)
  have hP : va_P (dC, dI) CL [(h, .inr (3, [.null, .ref q1, .null])), (q1, .inl (c2, 160, .inl ((fun _ => 0))))] H := hP
  have hD : va_D A [(h, .inr (3, [.null, .ref q1, .null])), (q1, .inl (c2, 160, .inl ((fun _ => 0))))] := hD
  have hP := hP.sub (ws' := [(h, .inr (3, [.null, .ref q1, .null]))]) [0] rfl
  have hD := hD.sub (ws' := [(h, .inr (3, [.null, .ref q1, .null]))]) [0] (by decide) rfl
  have hK := hK.sub (tys' := []) [] rfl
  refine lv_aload_n hx hb d_E_init_13 rfl (lv_at hl 0 rfl) ?_
  refine lv_bipush (v := 24) hx hb d_E_init_14 (by decide) ?_
  refine va_newa (D := (dC, dI)) (atype := .int) (ty := .int) (N' := 24) (a0 := (24, .inl (fun _ => 0))) hx hb (hts _ k_4) rfl hK hP hD hS hA (fun _ => rfl) (by decide) (by decide) (by decide) (Nat.le_of_ble_eq_true rfl) (Nat.le_of_ble_eq_true rfl) d_E_init_16 (fun q3 c4 H hK hP hD hS => ?_)
  have hP : va_P (dC, dI) CL [(h, .inr (3, [.null, .ref q1, .null])), (q3, .inl (c4, 24, .inl ((fun _ => 0))))] H := hP
  have hD : va_D A [(h, .inr (3, [.null, .ref q1, .null])), (q3, .inl (c4, 24, .inl ((fun _ => 0))))] := hD
  have hK : va_K (dC, dI) CL [(c4, .int)] s := hK
  refine W.widen (k := 2) (n := 184) (by decide) (by decide) ?_
  refine va_putF (D := (dC, dI)) (ci := 3) (v := .ref q3) (ty := .array .int) (C := R_E) (T := F_E) (N := 3) hx hb hts u_E t_E t_E_ok n_E hown hK hP hD hS 0 rfl rfl 2 (by decide) (hts _ k_19) (fun _ h9 => h9) rfl hin rfl (by decide +kernel) rfl rfl (Nat.le_of_ble_eq_true rfl) d_E_init_18 (fun H locs hP hD hS => ?_)
  have hP : va_P (dC, dI) CL [(h, .inr (3, [.null, .ref q1, .ref q3])), (q3, .inl (c4, 24, .inl ((fun _ => 0))))] H := hP
  have hD : va_D A [(h, .inr (3, [.null, .ref q1, .ref q3])), (q3, .inl (c4, 24, .inl ((fun _ => 0))))] := hD
  have hP := hP.sub (ws' := [(h, .inr (3, [.null, .ref q1, .ref q3]))]) [0] rfl
  have hD := hD.sub (ws' := [(h, .inr (3, [.null, .ref q1, .ref q3]))]) [0] (by decide) rfl
  have hK := hK.sub (tys' := []) [] rfl
  refine lv_aload_n hx hb d_E_init_21 rfl (lv_at hl 0 rfl) ?_
  refine lv_aload_n hx hb d_E_init_22 rfl (lv_at hl 1 rfl) ?_
  refine va_putF (D := (dC, dI)) (ci := 3) (v := .ref g) (ty := .object "VisitGrammar$Grammar") (C := R_E) (T := F_E) (N := 3) hx hb hts u_E t_E t_E_ok n_E hown hK hP hD hS 0 rfl rfl 0 (by decide) (hts _ k_20) (fun _ h9 => h9) rfl hin rfl (by decide +kernel) rfl rfl (Nat.le_of_ble_eq_true rfl) d_E_init_23 (fun H locs hP hD hS => ?_)
  have hP : va_P (dC, dI) CL [(h, .inr (3, [.ref g, .ref q1, .ref q3]))] H := hP
  have hD : va_D A [(h, .inr (3, [.ref g, .ref q1, .ref q3]))] := hD
  have hP9 := hP.sub (ws' := []) [] rfl
  have hD9 := hD.sub (ws' := []) [] (by decide) rfl
  have hK9 := hK.sub (tys' := []) [] rfl
  refine W.widen (k := 2) (n := 184) (by decide) (by decide) ?_
  exact W.vret hx hb hr (fun t ht hW => ⟨⟨(), rfl, trivial, by rw [ht]; exact hP9, va_K.moved hW.alike hK9, hD9⟩, hS.F ht⟩) hS.2.2 d_E_init_26

set_option maxHeartbeats 4000000 in
set_option maxRecDepth 100000 in
theorem c_K_init (l : Launch) (htr : l.stackTraces = false) (dC : Nat → ClassId) (dI : Nat → Nat → Nat) (h : Nat) (g : Nat) (le : Nat) (sz : Nat) : Met l y_K_init WS ({ frames := 1, cells := 3, slots := 54, locals := 12 }) (va_Pc [.ref h, .ref g, .ref le] (vq_Pre (dC, dI) CL sz [(h, .inr (4, [.null, .null, .null, .null, .null]))] [])) (va_Qv (fun _ : Unit => True) (fun _ t => vq_Post (dC, dI) CL (va_A [(h, .inr (4, [.null, .null, .null, .null, .null]))] sz) [] [] t) (va_A [(h, .inr (4, [.null, .null, .null, .null, .null]))] sz)) 3 54 (va_A [(h, .inr (4, [.null, .null, .null, .null, .null]))] sz) := by
  refine vq_ofW (cc := prog_5_method_1_code) (maxL := 3) (ret := (Option.none : Option Jvm.ClassFile.FieldType)) (by decide) (vq_his k_21) ?_
  intro p e s m args below meth c s₁ B hml hv
  obtain ⟨rfl, hst, hsz, hP, hK, hD0⟩ := hv
  have hx := B.exec
  have hb := B.bytes
  have hr := B.returns
  have hts := atoms_spec (ws := WS) B.pre
  have hown : s.vm.findClass R_K = some m.cls := findClass_of_methodNamed B.named
  have hlocks := B.notSynchronized
  have hin : meth.name = "<init>" := (name_of_methodNamed B.named B.method).1
  have hno := vq_noH B (hts _ k_21)
  subst hsz
  have hN := vq_ns hP
  have hD := hD0.self (sz := s.heap.size)
  generalize hAe : va_A [(h, .inr (4, [.null, .null, .null, .null, .null]))] s.heap.size = A at hD hN ⊢
  have hA : ∀ q : Nat, s.heap.size ≤ q → A q := fun q h => by rw [← hAe]; exact Or.inr h
  have hS : va_S A s.heap s.heap [] := va_S.rf
  have hP : va_P (dC, dI) CL [(h, .inr (4, [.null, .null, .null, .null, .null]))] s.heap := hP
  have hD : va_D A [(h, .inr (4, [.null, .null, .null, .null, .null]))] := hD
  have hl := lv_entry ([.ref h, .ref g, .ref le]) (n := 3) (Nat.le_of_ble_eq_true rfl)
  rw [lg_entry_eq]
  generalize (lg_sl ([.ref h, .ref g, .ref le]) ++ List.replicate (3 - (lg_sl ([.ref h, .ref g, .ref le])).length) Slot.unset).toArray = ls at hl ⊢
  have hl : lv_has ls 3 [(0, .ref h), (1, .ref g), (2, .ref le)] := hl
  refine lv_aload_n hx hb d_K_init_0 rfl (lv_at hl 0 rfl) ?_
  refine W.objInit hx hb hown (hts _ k_22) (hts _ k_2) (hts _ k_3) rfl (by rw [hml]; exact hl.1) rfl d_K_init_1 (Nat.le_of_ble_eq_true rfl) (Nat.le_of_ble_eq_true rfl) ?_
  refine W.eq (g2 := F0 m 4 ls []) rfl ?_
  refine lv_aload_n hx hb d_K_init_4 rfl (lv_at hl 0 rfl) ?_
  refine lv_bipush (v := 24) hx hb d_K_init_5 (by decide) ?_
  refine va_newa (D := (dC, dI)) (atype := .int) (ty := .int) (N' := 24) (a0 := (24, .inl (fun _ => 0))) hx hb (hts _ k_4) rfl hK hP hD hS hA (fun _ => rfl) (by decide) (by decide) (by decide) (Nat.le_of_ble_eq_true rfl) (Nat.le_of_ble_eq_true rfl) d_K_init_7 (fun q1 c2 H hK hP hD hS => ?_)
  have hP : va_P (dC, dI) CL [(h, .inr (4, [.null, .null, .null, .null, .null])), (q1, .inl (c2, 24, .inl ((fun _ => 0))))] H := hP
  have hD : va_D A [(h, .inr (4, [.null, .null, .null, .null, .null])), (q1, .inl (c2, 24, .inl ((fun _ => 0))))] := hD
  have hK : va_K (dC, dI) CL [(c2, .int)] s := hK
  refine W.widen (k := 1) (n := 24) (by decide) (by decide) ?_
  refine va_putF (D := (dC, dI)) (ci := 4) (v := .ref q1) (ty := .array .int) (C := R_K) (T := F_K) (N := 5) hx hb hts u_K t_K t_K_ok n_K hown hK hP hD hS 0 rfl rfl 2 (by decide) (hts _ k_23) (fun _ h9 => h9) rfl hin rfl (by decide +kernel) rfl rfl (Nat.le_of_ble_eq_true rfl) d_K_init_9 (fun H locs hP hD hS => ?_)
  have hP : va_P (dC, dI) CL [(h, .inr (4, [.null, .null, .ref q1, .null, .null])), (q1, .inl (c2, 24, .inl ((fun _ => 0))))] H := hP
  have hD : va_D A [(h, .inr (4, [.null, .null, .ref q1, .null, .null])), (q1, .inl (c2, 24, .inl ((fun _ => 0))))] := hD
  have hP := hP.sub (ws' := [(h, .inr (4, [.null, .null, .ref q1, .null, .null]))]) [0] rfl
  have hD := hD.sub (ws' := [(h, .inr (4, [.null, .null, .ref q1, .null, .null]))]) [0] (by decide) rfl
  have hK := hK.sub (tys' := []) [] rfl
  refine lv_aload_n hx hb d_K_init_12 rfl (lv_at hl 0 rfl) ?_
  refine lv_bipush (v := 6) hx hb d_K_init_13 (by decide) ?_
  refine va_newa (D := (dC, dI)) (atype := .int) (ty := .int) (N' := 6) (a0 := (6, .inl (fun _ => 0))) hx hb (hts _ k_4) rfl hK hP hD hS hA (fun _ => rfl) (by decide) (by decide) (by decide) (Nat.le_of_ble_eq_true rfl) (Nat.le_of_ble_eq_true rfl) d_K_init_15 (fun q3 c4 H hK hP hD hS => ?_)
  have hP : va_P (dC, dI) CL [(h, .inr (4, [.null, .null, .ref q1, .null, .null])), (q3, .inl (c4, 6, .inl ((fun _ => 0))))] H := hP
  have hD : va_D A [(h, .inr (4, [.null, .null, .ref q1, .null, .null])), (q3, .inl (c4, 6, .inl ((fun _ => 0))))] := hD
  have hK : va_K (dC, dI) CL [(c4, .int)] s := hK
  refine W.widen (k := 2) (n := 30) (by decide) (by decide) ?_
  refine va_putF (D := (dC, dI)) (ci := 4) (v := .ref q3) (ty := .array .int) (C := R_K) (T := F_K) (N := 5) hx hb hts u_K t_K t_K_ok n_K hown hK hP hD hS 0 rfl rfl 3 (by decide) (hts _ k_24) (fun _ h9 => h9) rfl hin rfl (by decide +kernel) rfl rfl (Nat.le_of_ble_eq_true rfl) d_K_init_17 (fun H locs hP hD hS => ?_)
  have hP : va_P (dC, dI) CL [(h, .inr (4, [.null, .null, .ref q1, .ref q3, .null])), (q3, .inl (c4, 6, .inl ((fun _ => 0))))] H := hP
  have hD : va_D A [(h, .inr (4, [.null, .null, .ref q1, .ref q3, .null])), (q3, .inl (c4, 6, .inl ((fun _ => 0))))] := hD
  have hP := hP.sub (ws' := [(h, .inr (4, [.null, .null, .ref q1, .ref q3, .null]))]) [0] rfl
  have hD := hD.sub (ws' := [(h, .inr (4, [.null, .null, .ref q1, .ref q3, .null]))]) [0] (by decide) rfl
  have hK := hK.sub (tys' := []) [] rfl
  refine lv_aload_n hx hb d_K_init_20 rfl (lv_at hl 0 rfl) ?_
  refine lv_bipush (v := 24) hx hb d_K_init_21 (by decide) ?_
  refine va_newa (D := (dC, dI)) (atype := .int) (ty := .int) (N' := 24) (a0 := (24, .inl (fun _ => 0))) hx hb (hts _ k_4) rfl hK hP hD hS hA (fun _ => rfl) (by decide) (by decide) (by decide) (Nat.le_of_ble_eq_true rfl) (Nat.le_of_ble_eq_true rfl) d_K_init_23 (fun q5 c6 H hK hP hD hS => ?_)
  have hP : va_P (dC, dI) CL [(h, .inr (4, [.null, .null, .ref q1, .ref q3, .null])), (q5, .inl (c6, 24, .inl ((fun _ => 0))))] H := hP
  have hD : va_D A [(h, .inr (4, [.null, .null, .ref q1, .ref q3, .null])), (q5, .inl (c6, 24, .inl ((fun _ => 0))))] := hD
  have hK : va_K (dC, dI) CL [(c6, .int)] s := hK
  refine W.widen (k := 3) (n := 54) (by decide) (by decide) ?_
  refine va_putF (D := (dC, dI)) (ci := 4) (v := .ref q5) (ty := .array .int) (C := R_K) (T := F_K) (N := 5) hx hb hts u_K t_K t_K_ok n_K hown hK hP hD hS 0 rfl rfl 4 (by decide) (hts _ k_25) (fun _ h9 => h9) rfl hin rfl (by decide +kernel) rfl rfl (Nat.le_of_ble_eq_true rfl) d_K_init_25 (fun H locs hP hD hS => ?_)
  have hP : va_P (dC, dI) CL [(h, .inr (4, [.null, .null, .ref q1, .ref q3, .ref q5])), (q5, .inl (c6, 24, .inl ((fun _ => 0))))] H := hP
  have hD : va_D A [(h, .inr (4, [.null, .null, .ref q1, .ref q3, .ref q5])), (q5, .inl (c6, 24, .inl ((fun _ => 0))))] := hD
  have hP := hP.sub (ws' := [(h, .inr (4, [.null, .null, .ref q1, .ref q3, .ref q5]))]) [0] rfl
  have hD := hD.sub (ws' := [(h, .inr (4, [.null, .null, .ref q1, .ref q3, .ref q5]))]) [0] (by decide) rfl
  have hK := hK.sub (tys' := []) [] rfl
  refine lv_aload_n hx hb d_K_init_28 rfl (lv_at hl 0 rfl) ?_
  refine lv_aload_n hx hb d_K_init_29 rfl (lv_at hl 1 rfl) ?_
  refine va_putF (D := (dC, dI)) (ci := 4) (v := .ref g) (ty := .object "VisitGrammar$Grammar") (C := R_K) (T := F_K) (N := 5) hx hb hts u_K t_K t_K_ok n_K hown hK hP hD hS 0 rfl rfl 0 (by decide) (hts _ k_26) (fun _ h9 => h9) rfl hin rfl (by decide +kernel) rfl rfl (Nat.le_of_ble_eq_true rfl) d_K_init_30 (fun H locs hP hD hS => ?_)
  have hP : va_P (dC, dI) CL [(h, .inr (4, [.ref g, .null, .ref q1, .ref q3, .ref q5]))] H := hP
  have hD : va_D A [(h, .inr (4, [.ref g, .null, .ref q1, .ref q3, .ref q5]))] := hD
  refine lv_aload_n hx hb d_K_init_33 rfl (lv_at hl 0 rfl) ?_
  refine lv_aload_n hx hb d_K_init_34 rfl (lv_at hl 2 rfl) ?_
  refine va_putF (D := (dC, dI)) (ci := 4) (v := .ref le) (ty := .object "VisitGrammar$Leads") (C := R_K) (T := F_K) (N := 5) hx hb hts u_K t_K t_K_ok n_K hown hK hP hD hS 0 rfl rfl 1 (by decide) (hts _ k_27) (fun _ h9 => h9) rfl hin rfl (by decide +kernel) rfl rfl (Nat.le_of_ble_eq_true rfl) d_K_init_35 (fun H locs hP hD hS => ?_)
  have hP : va_P (dC, dI) CL [(h, .inr (4, [.ref g, .ref le, .ref q1, .ref q3, .ref q5]))] H := hP
  have hD : va_D A [(h, .inr (4, [.ref g, .ref le, .ref q1, .ref q3, .ref q5]))] := hD
  have hP9 := hP.sub (ws' := []) [] rfl
  have hD9 := hD.sub (ws' := []) [] (by decide) rfl
  have hK9 := hK.sub (tys' := []) [] rfl
  refine W.widen (k := 3) (n := 54) (by decide) (by decide) ?_
  exact W.vret hx hb hr (fun t ht hW => ⟨⟨(), rfl, trivial, by rw [ht]; exact hP9, va_K.moved hW.alike hK9, hD9⟩, hS.F ht⟩) hS.2.2 d_K_init_38

set_option maxHeartbeats 4000000 in
set_option maxRecDepth 100000 in
theorem c_Q_init (l : Launch) (htr : l.stackTraces = false) (dC : Nat → ClassId) (dI : Nat → Nat → Nat) (h : Nat) (g : Nat) (ra : Nat) (sz : Nat) : Met l y_Q_init WS ({ frames := 1, cells := 3, slots := 334, locals := 12 }) (va_Pc [.ref h, .ref g, .ref ra] (vq_Pre (dC, dI) CL sz [(h, .inr (5, [.null, .null, .null, .null, .null, .int 0, .int 0]))] [])) (va_Qv (fun _ : Unit => True) (fun _ t => vq_Post (dC, dI) CL (va_A [(h, .inr (5, [.null, .null, .null, .null, .null, .int 0, .int 0]))] sz) [] [] t) (va_A [(h, .inr (5, [.null, .null, .null, .null, .null, .int 0, .int 0]))] sz)) 3 334 (va_A [(h, .inr (5, [.null, .null, .null, .null, .null, .int 0, .int 0]))] sz) := by
  refine vq_ofW (cc := prog_6_method_1_code) (maxL := 3) (ret := (Option.none : Option Jvm.ClassFile.FieldType)) (by decide) (vq_his k_28) ?_
  intro p e s m args below meth c s₁ B hml hv
  obtain ⟨rfl, hst, hsz, hP, hK, hD0⟩ := hv
  have hx := B.exec
  have hb := B.bytes
  have hr := B.returns
  have hts := atoms_spec (ws := WS) B.pre
  have hown : s.vm.findClass R_Q = some m.cls := findClass_of_methodNamed B.named
  have hlocks := B.notSynchronized
  have hin : meth.name = "<init>" := (name_of_methodNamed B.named B.method).1
  have hno := vq_noH B (hts _ k_28)
  subst hsz
  have hN := vq_ns hP
  have hD := hD0.self (sz := s.heap.size)
  generalize hAe : va_A [(h, .inr (5, [.null, .null, .null, .null, .null, .int 0, .int 0]))] s.heap.size = A at hD hN ⊢
  have hA : ∀ q : Nat, s.heap.size ≤ q → A q := fun q h => by rw [← hAe]; exact Or.inr h
  have hS : va_S A s.heap s.heap [] := va_S.rf
  have hP : va_P (dC, dI) CL [(h, .inr (5, [.null, .null, .null, .null, .null, .int 0, .int 0]))] s.heap := hP
  have hD : va_D A [(h, .inr (5, [.null, .null, .null, .null, .null, .int 0, .int 0]))] := hD
  have hl := lv_entry ([.ref h, .ref g, .ref ra]) (n := 3) (Nat.le_of_ble_eq_true rfl)
  rw [lg_entry_eq]
  generalize (lg_sl ([.ref h, .ref g, .ref ra]) ++ List.replicate (3 - (lg_sl ([.ref h, .ref g, .ref ra])).length) Slot.unset).toArray = ls at hl ⊢
  have hl : lv_has ls 3 [(0, .ref h), (1, .ref g), (2, .ref ra)] := hl
  refine lv_aload_n hx hb d_Q_init_0 rfl (lv_at hl 0 rfl) ?_
  refine W.objInit hx hb hown (hts _ k_29) (hts _ k_2) (hts _ k_3) rfl (by rw [hml]; exact hl.1) rfl d_Q_init_1 (Nat.le_of_ble_eq_true rfl) (Nat.le_of_ble_eq_true rfl) ?_
  refine W.eq (g2 := F0 m 4 ls []) rfl ?_
  refine lv_aload_n hx hb d_Q_init_4 rfl (lv_at hl 0 rfl) ?_
  refine lv_sipush (v := 320) hx hb d_Q_init_5 (by decide) ?_
  refine va_newa (D := (dC, dI)) (atype := .int) (ty := .int) (N' := 320) (a0 := (320, .inl (fun _ => 0))) hx hb (hts _ k_4) rfl hK hP hD hS hA (fun _ => rfl) (by decide) (by decide) (by decide) (Nat.le_of_ble_eq_true rfl) (Nat.le_of_ble_eq_true rfl) d_Q_init_8 (fun q1 c2 H hK hP hD hS => ?_)
  have hP : va_P (dC, dI) CL [(h, .inr (5, [.null, .null, .null, .null, .null, .int 0, .int 0])), (q1, .inl (c2, 320, .inl ((fun _ => 0))))] H := hP
  have hD : va_D A [(h, .inr (5, [.null, .null, .null, .null, .null, .int 0, .int 0])), (q1, .inl (c2, 320, .inl ((fun _ => 0))))] := hD
  have hK : va_K (dC, dI) CL [(c2, .int)] s := hK
  refine W.widen (k := 1) (n := 320) (by decide) (by decide) ?_
  refine va_putF (D := (dC, dI)) (ci := 5) (v := .ref q1) (ty := .array .int) (C := R_Q) (T := F_Q) (N := 7) hx hb hts u_Q t_Q t_Q_ok n_Q hown hK hP hD hS 0 rfl rfl 2 (by decide) (hts _ k_30) (fun _ h9 => h9) rfl hin rfl (by decide +kernel) rfl rfl (Nat.le_of_ble_eq_true rfl) d_Q_init_10 (fun H locs hP hD hS => ?_)
  have hP : va_P (dC, dI) CL [(h, .inr (5, [.null, .null, .ref q1, .null, .null, .int 0, .int 0])), (q1, .inl (c2, 320, .inl ((fun _ => 0))))] H := hP
  have hD : va_D A [(h, .inr (5, [.null, .null, .ref q1, .null, .null, .int 0, .int 0])), (q1, .inl (c2, 320, .inl ((fun _ => 0))))] := hD
  have hP := hP.sub (ws' := [(h, .inr (5, [.null, .null, .ref q1, .null, .null, .int 0, .int 0]))]) [0] rfl
  have hD := hD.sub (ws' := [(h, .inr (5, [.null, .null, .ref q1, .null, .null, .int 0, .int 0]))]) [0] (by decide) rfl
  have hK := hK.sub (tys' := []) [] rfl
  refine lv_aload_n hx hb d_Q_init_13 rfl (lv_at hl 0 rfl) ?_
  refine lv_bipush (v := 10) hx hb d_Q_init_14 (by decide) ?_
  refine va_newa (D := (dC, dI)) (atype := .int) (ty := .int) (N' := 10) (a0 := (10, .inl (fun _ => 0))) hx hb (hts _ k_4) rfl hK hP hD hS hA (fun _ => rfl) (by decide) (by decide) (by decide) (Nat.le_of_ble_eq_true rfl) (Nat.le_of_ble_eq_true rfl) d_Q_init_16 (fun q3 c4 H hK hP hD hS => ?_)
  have hP : va_P (dC, dI) CL [(h, .inr (5, [.null, .null, .ref q1, .null, .null, .int 0, .int 0])), (q3, .inl (c4, 10, .inl ((fun _ => 0))))] H := hP
  have hD : va_D A [(h, .inr (5, [.null, .null, .ref q1, .null, .null, .int 0, .int 0])), (q3, .inl (c4, 10, .inl ((fun _ => 0))))] := hD
  have hK : va_K (dC, dI) CL [(c4, .int)] s := hK
  refine W.widen (k := 2) (n := 330) (by decide) (by decide) ?_
  refine va_putF (D := (dC, dI)) (ci := 5) (v := .ref q3) (ty := .array .int) (C := R_Q) (T := F_Q) (N := 7) hx hb hts u_Q t_Q t_Q_ok n_Q hown hK hP hD hS 0 rfl rfl 3 (by decide) (hts _ k_31) (fun _ h9 => h9) rfl hin rfl (by decide +kernel) rfl rfl (Nat.le_of_ble_eq_true rfl) d_Q_init_18 (fun H locs hP hD hS => ?_)
  have hP : va_P (dC, dI) CL [(h, .inr (5, [.null, .null, .ref q1, .ref q3, .null, .int 0, .int 0])), (q3, .inl (c4, 10, .inl ((fun _ => 0))))] H := hP
  have hD : va_D A [(h, .inr (5, [.null, .null, .ref q1, .ref q3, .null, .int 0, .int 0])), (q3, .inl (c4, 10, .inl ((fun _ => 0))))] := hD
  have hP := hP.sub (ws' := [(h, .inr (5, [.null, .null, .ref q1, .ref q3, .null, .int 0, .int 0]))]) [0] rfl
  have hD := hD.sub (ws' := [(h, .inr (5, [.null, .null, .ref q1, .ref q3, .null, .int 0, .int 0]))]) [0] (by decide) rfl
  have hK := hK.sub (tys' := []) [] rfl
  refine lv_aload_n hx hb d_Q_init_21 rfl (lv_at hl 0 rfl) ?_
  refine lv_iconst (v := 4) hx hb d_Q_init_22 (by decide) ?_
  refine va_newa (D := (dC, dI)) (atype := .int) (ty := .int) (N' := 4) (a0 := (4, .inl (fun _ => 0))) hx hb (hts _ k_4) rfl hK hP hD hS hA (fun _ => rfl) (by decide) (by decide) (by decide) (Nat.le_of_ble_eq_true rfl) (Nat.le_of_ble_eq_true rfl) d_Q_init_23 (fun q5 c6 H hK hP hD hS => ?_)
  have hP : va_P (dC, dI) CL [(h, .inr (5, [.null, .null, .ref q1, .ref q3, .null, .int 0, .int 0])), (q5, .inl (c6, 4, .inl ((fun _ => 0))))] H := hP
  have hD : va_D A [(h, .inr (5, [.null, .null, .ref q1, .ref q3, .null, .int 0, .int 0])), (q5, .inl (c6, 4, .inl ((fun _ => 0))))] := hD
  have hK : va_K (dC, dI) CL [(c6, .int)] s := hK
  refine W.widen (k := 3) (n := 334) (by decide) (by decide) ?_
  refine va_putF (D := (dC, dI)) (ci := 5) (v := .ref q5) (ty := .array .int) (C := R_Q) (T := F_Q) (N := 7) hx hb hts u_Q t_Q t_Q_ok n_Q hown hK hP hD hS 0 rfl rfl 4 (by decide) (hts _ k_32) (fun _ h9 => h9) rfl hin rfl (by decide +kernel) rfl rfl (Nat.le_of_ble_eq_true rfl) d_Q_init_25 (fun H locs hP hD hS => ?_)
  have hP : va_P (dC, dI) CL [(h, .inr (5, [.null, .null, .ref q1, .ref q3, .ref q5, .int 0, .int 0])), (q5, .inl (c6, 4, .inl ((fun _ => 0))))] H := hP
  have hD : va_D A [(h, .inr (5, [.null, .null, .ref q1, .ref q3, .ref q5, .int 0, .int 0])), (q5, .inl (c6, 4, .inl ((fun _ => 0))))] := hD
  have hP := hP.sub (ws' := [(h, .inr (5, [.null, .null, .ref q1, .ref q3, .ref q5, .int 0, .int 0]))]) [0] rfl
  have hD := hD.sub (ws' := [(h, .inr (5, [.null, .null, .ref q1, .ref q3, .ref q5, .int 0, .int 0]))]) [0] (by decide) rfl
  have hK := hK.sub (tys' := []) [] rfl
  refine lv_aload_n hx hb d_Q_init_28 rfl (lv_at hl 0 rfl) ?_
  refine lv_aload_n hx hb d_Q_init_29 rfl (lv_at hl 1 rfl) ?_
  refine va_putF (D := (dC, dI)) (ci := 5) (v := .ref g) (ty := .object "VisitGrammar$Grammar") (C := R_Q) (T := F_Q) (N := 7) hx hb hts u_Q t_Q t_Q_ok n_Q hown hK hP hD hS 0 rfl rfl 0 (by decide) (hts _ k_33) (fun _ h9 => h9) rfl hin rfl (by decide +kernel) rfl rfl (Nat.le_of_ble_eq_true rfl) d_Q_init_30 (fun H locs hP hD hS => ?_)
  have hP : va_P (dC, dI) CL [(h, .inr (5, [.ref g, .null, .ref q1, .ref q3, .ref q5, .int 0, .int 0]))] H := hP
  have hD : va_D A [(h, .inr (5, [.ref g, .null, .ref q1, .ref q3, .ref q5, .int 0, .int 0]))] := hD
  refine lv_aload_n hx hb d_Q_init_33 rfl (lv_at hl 0 rfl) ?_
  refine lv_aload_n hx hb d_Q_init_34 rfl (lv_at hl 2 rfl) ?_
  refine va_putF (D := (dC, dI)) (ci := 5) (v := .ref ra) (ty := .object "VisitGrammar$Ranking") (C := R_Q) (T := F_Q) (N := 7) hx hb hts u_Q t_Q t_Q_ok n_Q hown hK hP hD hS 0 rfl rfl 1 (by decide) (hts _ k_34) (fun _ h9 => h9) rfl hin rfl (by decide +kernel) rfl rfl (Nat.le_of_ble_eq_true rfl) d_Q_init_35 (fun H locs hP hD hS => ?_)
  have hP : va_P (dC, dI) CL [(h, .inr (5, [.ref g, .ref ra, .ref q1, .ref q3, .ref q5, .int 0, .int 0]))] H := hP
  have hD : va_D A [(h, .inr (5, [.ref g, .ref ra, .ref q1, .ref q3, .ref q5, .int 0, .int 0]))] := hD
  have hP9 := hP.sub (ws' := []) [] rfl
  have hD9 := hD.sub (ws' := []) [] (by decide) rfl
  have hK9 := hK.sub (tys' := []) [] rfl
  refine W.widen (k := 3) (n := 334) (by decide) (by decide) ?_
  exact W.vret hx hb hr (fun t ht hW => ⟨⟨(), rfl, trivial, by rw [ht]; exact hP9, va_K.moved hW.alike hK9, hD9⟩, hS.F ht⟩) hS.2.2 d_Q_init_38

set_option maxHeartbeats 4000000 in
set_option maxRecDepth 100000 in
theorem c_A_init (l : Launch) (htr : l.stackTraces = false) (dC : Nat → ClassId) (dI : Nat → Nat → Nat) (h : Nat) (g : Nat) (sz : Nat) : Met l y_A_init WS ({ frames := 2, cells := 11, slots := 587, locals := 34 }) (va_Pc [.ref h, .ref g] (vq_Pre (dC, dI) CL sz [(h, .inr (2, [.null, .null, .null, .null, .int 0, .int 0, .int 0, .int 0]))] [])) (va_Qv (fun _ : Unit => True) (fun _ t => ∃ q1 : Nat, ∃ q3 : Nat, ∃ q5 : Nat, vq_Post (dC, dI) CL (va_A [(h, .inr (2, [.null, .null, .null, .null, .int 0, .int 0, .int 0, .int 0]))] sz) [(h, .inr (2, [.ref g, .ref q1, .ref q3, .ref q5, .int 0, .int 0, .int (-1), .int (-1)]))] [] t) (va_A [(h, .inr (2, [.null, .null, .null, .null, .int 0, .int 0, .int 0, .int 0]))] sz)) 11 587 (va_A [(h, .inr (2, [.null, .null, .null, .null, .int 0, .int 0, .int 0, .int 0]))] sz) := by
  refine vq_ofW (cc := prog_2_method_1_code) (maxL := 2) (ret := (Option.none : Option Jvm.ClassFile.FieldType)) (by decide) (vq_his k_35) ?_
  intro p e s m args below meth c s₁ B hml hv
  obtain ⟨rfl, hst, hsz, hP, hK, hD0⟩ := hv
  have hx := B.exec
  have hb := B.bytes
  have hr := B.returns
  have hts := atoms_spec (ws := WS) B.pre
  have hown : s.vm.findClass R_A = some m.cls := findClass_of_methodNamed B.named
  have hlocks := B.notSynchronized
  have hin : meth.name = "<init>" := (name_of_methodNamed B.named B.method).1
  have hno := vq_noH B (hts _ k_35)
  subst hsz
  have hN := vq_ns hP
  have hD := hD0.self (sz := s.heap.size)
  generalize hAe : va_A [(h, .inr (2, [.null, .null, .null, .null, .int 0, .int 0, .int 0, .int 0]))] s.heap.size = A at hD hN ⊢
  have hA : ∀ q : Nat, s.heap.size ≤ q → A q := fun q h => by rw [← hAe]; exact Or.inr h
  have hS : va_S A s.heap s.heap [] := va_S.rf
  have hP : va_P (dC, dI) CL [(h, .inr (2, [.null, .null, .null, .null, .int 0, .int 0, .int 0, .int 0]))] s.heap := hP
  have hD : va_D A [(h, .inr (2, [.null, .null, .null, .null, .int 0, .int 0, .int 0, .int 0]))] := hD
  have hl := lv_entry ([.ref h, .ref g]) (n := 2) (Nat.le_of_ble_eq_true rfl)
  rw [lg_entry_eq]
  generalize (lg_sl ([.ref h, .ref g]) ++ List.replicate (2 - (lg_sl ([.ref h, .ref g])).length) Slot.unset).toArray = ls at hl ⊢
  have hl : lv_has ls 2 [(0, .ref h), (1, .ref g)] := hl
  refine lv_aload_n hx hb d_A_init_0 rfl (lv_at hl 0 rfl) ?_
  refine W.objInit hx hb hown (hts _ k_36) (hts _ k_2) (hts _ k_3) rfl (by rw [hml]; exact hl.1) rfl d_A_init_1 (Nat.le_of_ble_eq_true rfl) (Nat.le_of_ble_eq_true rfl) ?_
  refine W.eq (g2 := F0 m 4 ls []) rfl ?_
  refine lv_aload_n hx hb d_A_init_4 rfl (lv_at hl 0 rfl) ?_
  refine lv_iconst (v := (-1)) hx hb d_A_init_5 (by decide) ?_
  refine va_put (D := (dC, dI)) (ci := 2) (v := .int (-1)) (ty := .int) (C := R_A) (T := F_A) (N := 8) hx hb hts u_A t_A t_A_ok n_A hown hK hP hD hS 0 rfl rfl 6 (by decide) (hts _ k_37) (fun _ h9 => h9) rfl (by decide +kernel) rfl rfl (Nat.le_of_ble_eq_true rfl) d_A_init_6 (fun H locs hP hD hS => ?_)
  have hP : va_P (dC, dI) CL [(h, .inr (2, [.null, .null, .null, .null, .int 0, .int 0, .int (-1), .int 0]))] H := hP
  have hD : va_D A [(h, .inr (2, [.null, .null, .null, .null, .int 0, .int 0, .int (-1), .int 0]))] := hD
  refine lv_aload_n hx hb d_A_init_9 rfl (lv_at hl 0 rfl) ?_
  refine lv_iconst (v := (-1)) hx hb d_A_init_10 (by decide) ?_
  refine va_put (D := (dC, dI)) (ci := 2) (v := .int (-1)) (ty := .int) (C := R_A) (T := F_A) (N := 8) hx hb hts u_A t_A t_A_ok n_A hown hK hP hD hS 0 rfl rfl 7 (by decide) (hts _ k_38) (fun _ h9 => h9) rfl (by decide +kernel) rfl rfl (Nat.le_of_ble_eq_true rfl) d_A_init_11 (fun H locs hP hD hS => ?_)
  have hP : va_P (dC, dI) CL [(h, .inr (2, [.null, .null, .null, .null, .int 0, .int 0, .int (-1), .int (-1)]))] H := hP
  have hD : va_D A [(h, .inr (2, [.null, .null, .null, .null, .int 0, .int 0, .int (-1), .int (-1)]))] := hD
  refine lv_aload_n hx hb d_A_init_14 rfl (lv_at hl 0 rfl) ?_
  refine lv_aload_n hx hb d_A_init_15 rfl (lv_at hl 1 rfl) ?_
  refine va_putF (D := (dC, dI)) (ci := 2) (v := .ref g) (ty := .object "VisitGrammar$Grammar") (C := R_A) (T := F_A) (N := 8) hx hb hts u_A t_A t_A_ok n_A hown hK hP hD hS 0 rfl rfl 0 (by decide) (hts _ k_39) (fun _ h9 => h9) rfl hin rfl (by decide +kernel) rfl rfl (Nat.le_of_ble_eq_true rfl) d_A_init_16 (fun H locs hP hD hS => ?_)
  have hP : va_P (dC, dI) CL [(h, .inr (2, [.ref g, .null, .null, .null, .int 0, .int 0, .int (-1), .int (-1)]))] H := hP
  have hD : va_D A [(h, .inr (2, [.ref g, .null, .null, .null, .int 0, .int 0, .int (-1), .int (-1)]))] := hD
  refine lv_aload_n hx hb d_A_init_19 rfl (lv_at hl 0 rfl) ?_
  refine va_new (ci := 3) (fs := [.null, .null, .null]) (C := R_E) (T := F_E) (N := 3) hx hb hts u_E t_E t_E_ok hown (hts _ k_40) (hts _ k_41) (hts _ k_42) hK hP hD hS hA rfl z_E (Nat.le_of_ble_eq_true rfl) (Nat.le_of_ble_eq_true rfl) d_A_init_20 (fun q1 H hP hD hS => ?_)
  have hP : va_P (dC, dI) CL [(h, .inr (2, [.ref g, .null, .null, .null, .int 0, .int 0, .int (-1), .int (-1)])), (q1, .inr (3, [.null, .null, .null]))] H := hP
  have hD : va_D A [(h, .inr (2, [.ref g, .null, .null, .null, .int 0, .int 0, .int (-1), .int (-1)])), (q1, .inr (3, [.null, .null, .null]))] := hD
  refine W.widen (k := 1) (n := 3) (by decide) (by decide) ?_
  refine lv_dup hx hb d_A_init_23 rfl ?_
  refine lv_aload_n hx hb d_A_init_24 rfl (lv_at hl 1 rfl) ?_
  have hPc := hP.sub (ws' := [(q1, .inr (3, [.null, .null, .null]))]) [1] rfl
  have hDc := hD.sub (ws' := [(q1, .inr (3, [.null, .null, .null]))]) [1] (by decide) rfl
  have hKc := hK.sub (tys' := []) [] rfl
  have hFc := va_free (wc := [(q1, .inr (3, [.null, .null, .null]))]) hD hS hA [1] rfl
  refine va_callv (va_runI (As := [.ref g]) (rest := [.ref q1, .ref h]) ⟨hx, hb, hml, hown, hts⟩ (c_E_init l htr dC dI q1 g H.size) (vq_cI WSk hts 1 rfl rfl ⟨by decide, by decide⟩ k_16 k_42 k_43 k_44 rfl (by decide +kernel)) ⟨vq_blind, vq_here hst hS hN hPc hKc hDc⟩ rfl rfl hl.1 rfl (lv_room (Nat.le_of_ble_eq_true rfl)) d_A_init_25 ⟨by decide, by decide⟩) hS (fun q _ h => hFc q h) hFc (fun u t H1 locs ht hvm hw hB hz1 hk1 hS => ?_)
  obtain ⟨hP1, hK1, hD1⟩ := hB
  rw [ht] at hP1
  have hK1 := va_K.moved hvm.symm hK1
  obtain ⟨hP, hD⟩ := va_join (wr := [(h, .inr (2, [.ref g, .null, .null, .null, .int 0, .int 0, .int (-1), .int (-1)]))]) (w1 := []) hP hD [1] [0] rfl rfl (by decide) (by decide) hk1 hFc hP1 hD1
  have hK := (hK.sub (tys' := []) [] rfl).app hK1
  generalize H1 = H at hP hS ⊢
  have hP : va_P (dC, dI) CL [(h, .inr (2, [.ref g, .null, .null, .null, .int 0, .int 0, .int (-1), .int (-1)]))] H := hP
  have hD : va_D A [(h, .inr (2, [.ref g, .null, .null, .null, .int 0, .int 0, .int (-1), .int (-1)]))] := hD
  have hK : va_K (dC, dI) CL [] s := hK
  refine W.widen (k := 3) (n := 187) (by decide) (by decide) ?_
  refine va_putF (D := (dC, dI)) (ci := 2) (v := .ref q1) (ty := .object "VisitGrammar$Leads") (C := R_A) (T := F_A) (N := 8) hx hb hts u_A t_A t_A_ok n_A hown hK hP hD hS 0 rfl rfl 1 (by decide) (hts _ k_45) (fun _ h9 => h9) rfl hin rfl (by decide +kernel) rfl rfl (Nat.le_of_ble_eq_true rfl) d_A_init_28 (fun H locs hP hD hS => ?_)
  have hP : va_P (dC, dI) CL [(h, .inr (2, [.ref g, .ref q1, .null, .null, .int 0, .int 0, .int (-1), .int (-1)]))] H := hP
  have hD : va_D A [(h, .inr (2, [.ref g, .ref q1, .null, .null, .int 0, .int 0, .int (-1), .int (-1)]))] := hD
  refine lv_aload_n hx hb d_A_init_31 rfl (lv_at hl 0 rfl) ?_
  refine va_new (ci := 4) (fs := [.null, .null, .null, .null, .null]) (C := R_K) (T := F_K) (N := 5) hx hb hts u_K t_K t_K_ok hown (hts _ k_46) (hts _ k_47) (hts _ k_48) hK hP hD hS hA rfl z_K (Nat.le_of_ble_eq_true rfl) (Nat.le_of_ble_eq_true rfl) d_A_init_32 (fun q3 H hP hD hS => ?_)
  have hP : va_P (dC, dI) CL [(h, .inr (2, [.ref g, .ref q1, .null, .null, .int 0, .int 0, .int (-1), .int (-1)])), (q3, .inr (4, [.null, .null, .null, .null, .null]))] H := hP
  have hD : va_D A [(h, .inr (2, [.ref g, .ref q1, .null, .null, .int 0, .int 0, .int (-1), .int (-1)])), (q3, .inr (4, [.null, .null, .null, .null, .null]))] := hD
  refine W.widen (k := 4) (n := 192) (by decide) (by decide) ?_
  refine lv_dup hx hb d_A_init_35 rfl ?_
  refine lv_aload_n hx hb d_A_init_36 rfl (lv_at hl 1 rfl) ?_
  refine lv_aload_n hx hb d_A_init_37 rfl (lv_at hl 0 rfl) ?_
  refine va_get (D := (dC, dI)) (ci := 2) (v := .ref q1) (C := R_A) (T := F_A) (N := 8) hx hb hts u_A hown hK hP 0 rfl rfl 1 (by decide) (hts _ k_45) (fun _ h9 => h9) rfl d_A_init_38 ?_
  have hPc := hP.sub (ws' := [(q3, .inr (4, [.null, .null, .null, .null, .null]))]) [1] rfl
  have hDc := hD.sub (ws' := [(q3, .inr (4, [.null, .null, .null, .null, .null]))]) [1] (by decide) rfl
  have hKc := hK.sub (tys' := []) [] rfl
  have hFc := va_free (wc := [(q3, .inr (4, [.null, .null, .null, .null, .null]))]) hD hS hA [1] rfl
  refine va_callv (va_runI (As := [.ref g, .ref q1]) (rest := [.ref q3, .ref h]) ⟨hx, hb, hml, hown, hts⟩ (c_K_init l htr dC dI q3 g q1 H.size) (vq_cI WSk hts 2 rfl rfl ⟨by decide, by decide⟩ k_21 k_48 k_49 k_50 rfl (by decide +kernel)) ⟨vq_blind, vq_here hst hS hN hPc hKc hDc⟩ rfl rfl hl.1 rfl (lv_room (Nat.le_of_ble_eq_true rfl)) d_A_init_41 ⟨by decide, by decide⟩) hS (fun q _ h => hFc q h) hFc (fun u t H1 locs ht hvm hw hB hz1 hk1 hS => ?_)
  obtain ⟨hP1, hK1, hD1⟩ := hB
  rw [ht] at hP1
  have hK1 := va_K.moved hvm.symm hK1
  obtain ⟨hP, hD⟩ := va_join (wr := [(h, .inr (2, [.ref g, .ref q1, .null, .null, .int 0, .int 0, .int (-1), .int (-1)]))]) (w1 := []) hP hD [1] [0] rfl rfl (by decide) (by decide) hk1 hFc hP1 hD1
  have hK := (hK.sub (tys' := []) [] rfl).app hK1
  generalize H1 = H at hP hS ⊢
  have hP : va_P (dC, dI) CL [(h, .inr (2, [.ref g, .ref q1, .null, .null, .int 0, .int 0, .int (-1), .int (-1)]))] H := hP
  have hD : va_D A [(h, .inr (2, [.ref g, .ref q1, .null, .null, .int 0, .int 0, .int (-1), .int (-1)]))] := hD
  have hK : va_K (dC, dI) CL [] s := hK
  refine W.widen (k := 7) (n := 246) (by decide) (by decide) ?_
  refine va_putF (D := (dC, dI)) (ci := 2) (v := .ref q3) (ty := .object "VisitGrammar$Ranking") (C := R_A) (T := F_A) (N := 8) hx hb hts u_A t_A t_A_ok n_A hown hK hP hD hS 0 rfl rfl 2 (by decide) (hts _ k_51) (fun _ h9 => h9) rfl hin rfl (by decide +kernel) rfl rfl (Nat.le_of_ble_eq_true rfl) d_A_init_44 (fun H locs hP hD hS => ?_)
  have hP : va_P (dC, dI) CL [(h, .inr (2, [.ref g, .ref q1, .ref q3, .null, .int 0, .int 0, .int (-1), .int (-1)]))] H := hP
  have hD : va_D A [(h, .inr (2, [.ref g, .ref q1, .ref q3, .null, .int 0, .int 0, .int (-1), .int (-1)]))] := hD
  refine lv_aload_n hx hb d_A_init_47 rfl (lv_at hl 0 rfl) ?_
  refine va_new (ci := 5) (fs := [.null, .null, .null, .null, .null, .int 0, .int 0]) (C := R_Q) (T := F_Q) (N := 7) hx hb hts u_Q t_Q t_Q_ok hown (hts _ k_52) (hts _ k_53) (hts _ k_54) hK hP hD hS hA rfl z_Q (Nat.le_of_ble_eq_true rfl) (Nat.le_of_ble_eq_true rfl) d_A_init_48 (fun q5 H hP hD hS => ?_)
  have hP : va_P (dC, dI) CL [(h, .inr (2, [.ref g, .ref q1, .ref q3, .null, .int 0, .int 0, .int (-1), .int (-1)])), (q5, .inr (5, [.null, .null, .null, .null, .null, .int 0, .int 0]))] H := hP
  have hD : va_D A [(h, .inr (2, [.ref g, .ref q1, .ref q3, .null, .int 0, .int 0, .int (-1), .int (-1)])), (q5, .inr (5, [.null, .null, .null, .null, .null, .int 0, .int 0]))] := hD
  refine W.widen (k := 8) (n := 253) (by decide) (by decide) ?_
  refine lv_dup hx hb d_A_init_51 rfl ?_
  refine lv_aload_n hx hb d_A_init_52 rfl (lv_at hl 1 rfl) ?_
  refine lv_aload_n hx hb d_A_init_53 rfl (lv_at hl 0 rfl) ?_
  refine va_get (D := (dC, dI)) (ci := 2) (v := .ref q3) (C := R_A) (T := F_A) (N := 8) hx hb hts u_A hown hK hP 0 rfl rfl 2 (by decide) (hts _ k_51) (fun _ h9 => h9) rfl d_A_init_54 ?_
  have hPc := hP.sub (ws' := [(q5, .inr (5, [.null, .null, .null, .null, .null, .int 0, .int 0]))]) [1] rfl
  have hDc := hD.sub (ws' := [(q5, .inr (5, [.null, .null, .null, .null, .null, .int 0, .int 0]))]) [1] (by decide) rfl
  have hKc := hK.sub (tys' := []) [] rfl
  have hFc := va_free (wc := [(q5, .inr (5, [.null, .null, .null, .null, .null, .int 0, .int 0]))]) hD hS hA [1] rfl
  refine va_callv (va_runI (As := [.ref g, .ref q3]) (rest := [.ref q5, .ref h]) ⟨hx, hb, hml, hown, hts⟩ (c_Q_init l htr dC dI q5 g q3 H.size) (vq_cI WSk hts 2 rfl rfl ⟨by decide, by decide⟩ k_28 k_54 k_55 k_56 rfl (by decide +kernel)) ⟨vq_blind, vq_here hst hS hN hPc hKc hDc⟩ rfl rfl hl.1 rfl (lv_room (Nat.le_of_ble_eq_true rfl)) d_A_init_57 ⟨by decide, by decide⟩) hS (fun q _ h => hFc q h) hFc (fun u t H1 locs ht hvm hw hB hz1 hk1 hS => ?_)
  obtain ⟨hP1, hK1, hD1⟩ := hB
  rw [ht] at hP1
  have hK1 := va_K.moved hvm.symm hK1
  obtain ⟨hP, hD⟩ := va_join (wr := [(h, .inr (2, [.ref g, .ref q1, .ref q3, .null, .int 0, .int 0, .int (-1), .int (-1)]))]) (w1 := []) hP hD [1] [0] rfl rfl (by decide) (by decide) hk1 hFc hP1 hD1
  have hK := (hK.sub (tys' := []) [] rfl).app hK1
  generalize H1 = H at hP hS ⊢
  have hP : va_P (dC, dI) CL [(h, .inr (2, [.ref g, .ref q1, .ref q3, .null, .int 0, .int 0, .int (-1), .int (-1)]))] H := hP
  have hD : va_D A [(h, .inr (2, [.ref g, .ref q1, .ref q3, .null, .int 0, .int 0, .int (-1), .int (-1)]))] := hD
  have hK : va_K (dC, dI) CL [] s := hK
  refine W.widen (k := 11) (n := 587) (by decide) (by decide) ?_
  refine va_putF (D := (dC, dI)) (ci := 2) (v := .ref q5) (ty := .object "VisitGrammar$Sequences") (C := R_A) (T := F_A) (N := 8) hx hb hts u_A t_A t_A_ok n_A hown hK hP hD hS 0 rfl rfl 3 (by decide) (hts _ k_57) (fun _ h9 => h9) rfl hin rfl (by decide +kernel) rfl rfl (Nat.le_of_ble_eq_true rfl) d_A_init_60 (fun H locs hP hD hS => ?_)
  have hP : va_P (dC, dI) CL [(h, .inr (2, [.ref g, .ref q1, .ref q3, .ref q5, .int 0, .int 0, .int (-1), .int (-1)]))] H := hP
  have hD : va_D A [(h, .inr (2, [.ref g, .ref q1, .ref q3, .ref q5, .int 0, .int 0, .int (-1), .int (-1)]))] := hD
  have hP9 := hP.sub (ws' := [(h, .inr (2, [.ref g, .ref q1, .ref q3, .ref q5, .int 0, .int 0, .int (-1), .int (-1)]))]) [0] rfl
  have hD9 := hD.sub (ws' := [(h, .inr (2, [.ref g, .ref q1, .ref q3, .ref q5, .int 0, .int 0, .int (-1), .int (-1)]))]) [0] (by decide) rfl
  have hK9 := hK.sub (tys' := []) [] rfl
  refine W.widen (k := 11) (n := 587) (by decide) (by decide) ?_
  exact W.vret hx hb hr (fun t ht hW => ⟨⟨(), rfl, trivial, q1, q3, q5, by rw [ht]; exact hP9, va_K.moved hW.alike hK9, hD9⟩, hS.F ht⟩) hS.2.2 d_A_init_63

set_option maxHeartbeats 4000000 in
set_option maxRecDepth 100000 in
theorem c_T_init (l : Launch) (htr : l.stackTraces = false) (dC : Nat → ClassId) (dI : Nat → Nat → Nat) (h : Nat) (g : Nat) (sz : Nat) : Met l y_Z_init WS ({ frames := 1, cells := 4, slots := 280, locals := 12 }) (va_Pc [.ref h, .ref g] (vq_Pre (dC, dI) CL sz [(h, .inr (6, [.null, .null, .null, .null, .null, .int 0]))] [])) (va_Qv (fun _ : Unit => True) (fun _ t => ∃ q1 : Nat, ∃ q3 : Nat, ∃ q5 : Nat, ∃ q7 : Nat, vq_Post (dC, dI) CL (va_A [(h, .inr (6, [.null, .null, .null, .null, .null, .int 0]))] sz) [(h, .inr (6, [.ref g, .ref q1, .ref q3, .ref q5, .ref q7, .int 0]))] [] t) (va_A [(h, .inr (6, [.null, .null, .null, .null, .null, .int 0]))] sz)) 4 280 (va_A [(h, .inr (6, [.null, .null, .null, .null, .null, .int 0]))] sz) := by
  refine vq_ofW (cc := prog_7_method_1_code) (maxL := 2) (ret := (Option.none : Option Jvm.ClassFile.FieldType)) (by decide) (vq_his k_58) ?_
  intro p e s m args below meth c s₁ B hml hv
  obtain ⟨rfl, hst, hsz, hP, hK, hD0⟩ := hv
  have hx := B.exec
  have hb := B.bytes
  have hr := B.returns
  have hts := atoms_spec (ws := WS) B.pre
  have hown : s.vm.findClass R_Z = some m.cls := findClass_of_methodNamed B.named
  have hlocks := B.notSynchronized
  have hin : meth.name = "<init>" := (name_of_methodNamed B.named B.method).1
  have hno := vq_noH B (hts _ k_58)
  subst hsz
  have hN := vq_ns hP
  have hD := hD0.self (sz := s.heap.size)
  generalize hAe : va_A [(h, .inr (6, [.null, .null, .null, .null, .null, .int 0]))] s.heap.size = A at hD hN ⊢
  have hA : ∀ q : Nat, s.heap.size ≤ q → A q := fun q h => by rw [← hAe]; exact Or.inr h
  have hS : va_S A s.heap s.heap [] := va_S.rf
  have hP : va_P (dC, dI) CL [(h, .inr (6, [.null, .null, .null, .null, .null, .int 0]))] s.heap := hP
  have hD : va_D A [(h, .inr (6, [.null, .null, .null, .null, .null, .int 0]))] := hD
  have hl := lv_entry ([.ref h, .ref g]) (n := 2) (Nat.le_of_ble_eq_true rfl)
  rw [lg_entry_eq]
  generalize (lg_sl ([.ref h, .ref g]) ++ List.replicate (2 - (lg_sl ([.ref h, .ref g])).length) Slot.unset).toArray = ls at hl ⊢
  have hl : lv_has ls 2 [(0, .ref h), (1, .ref g)] := hl
  refine lv_aload_n hx hb d_Z_init_0 rfl (lv_at hl 0 rfl) ?_
  refine W.objInit hx hb hown (hts _ k_59) (hts _ k_2) (hts _ k_3) rfl (by rw [hml]; exact hl.1) rfl d_Z_init_1 (Nat.le_of_ble_eq_true rfl) (Nat.le_of_ble_eq_true rfl) ?_
  refine W.eq (g2 := F0 m 4 ls []) rfl ?_
  refine lv_aload_n hx hb d_Z_init_4 rfl (lv_at hl 0 rfl) ?_
  refine lv_bipush (v := 40) hx hb d_Z_init_5 (by decide) ?_
  refine va_newa (D := (dC, dI)) (atype := .int) (ty := .int) (N' := 40) (a0 := (40, .inl (fun _ => 0))) hx hb (hts _ k_4) rfl hK hP hD hS hA (fun _ => rfl) (by decide) (by decide) (by decide) (Nat.le_of_ble_eq_true rfl) (Nat.le_of_ble_eq_true rfl) d_Z_init_7 (fun q1 c2 H hK hP hD hS => ?_)
  have hP : va_P (dC, dI) CL [(h, .inr (6, [.null, .null, .null, .null, .null, .int 0])), (q1, .inl (c2, 40, .inl ((fun _ => 0))))] H := hP
  have hD : va_D A [(h, .inr (6, [.null, .null, .null, .null, .null, .int 0])), (q1, .inl (c2, 40, .inl ((fun _ => 0))))] := hD
  have hK : va_K (dC, dI) CL [(c2, .int)] s := hK
  refine W.widen (k := 1) (n := 40) (by decide) (by decide) ?_
  refine va_putF (D := (dC, dI)) (ci := 6) (v := .ref q1) (ty := .array .int) (C := R_Z) (T := F_Z) (N := 6) hx hb hts u_Z t_Z t_Z_ok n_Z hown hK hP hD hS 0 rfl rfl 1 (by decide) (hts _ k_60) (fun _ h9 => h9) rfl hin rfl (by decide +kernel) rfl rfl (Nat.le_of_ble_eq_true rfl) d_Z_init_9 (fun H locs hP hD hS => ?_)
  have hP : va_P (dC, dI) CL [(h, .inr (6, [.null, .ref q1, .null, .null, .null, .int 0])), (q1, .inl (c2, 40, .inl ((fun _ => 0))))] H := hP
  have hD : va_D A [(h, .inr (6, [.null, .ref q1, .null, .null, .null, .int 0])), (q1, .inl (c2, 40, .inl ((fun _ => 0))))] := hD
  have hP := hP.sub (ws' := [(h, .inr (6, [.null, .ref q1, .null, .null, .null, .int 0]))]) [0] rfl
  have hD := hD.sub (ws' := [(h, .inr (6, [.null, .ref q1, .null, .null, .null, .int 0]))]) [0] (by decide) rfl
  have hK := hK.sub (tys' := []) [] rfl
  refine lv_aload_n hx hb d_Z_init_12 rfl (lv_at hl 0 rfl) ?_
  refine lv_bipush (v := 40) hx hb d_Z_init_13 (by decide) ?_
  refine va_newa (D := (dC, dI)) (atype := .int) (ty := .int) (N' := 40) (a0 := (40, .inl (fun _ => 0))) hx hb (hts _ k_4) rfl hK hP hD hS hA (fun _ => rfl) (by decide) (by decide) (by decide) (Nat.le_of_ble_eq_true rfl) (Nat.le_of_ble_eq_true rfl) d_Z_init_15 (fun q3 c4 H hK hP hD hS => ?_)
  have hP : va_P (dC, dI) CL [(h, .inr (6, [.null, .ref q1, .null, .null, .null, .int 0])), (q3, .inl (c4, 40, .inl ((fun _ => 0))))] H := hP
  have hD : va_D A [(h, .inr (6, [.null, .ref q1, .null, .null, .null, .int 0])), (q3, .inl (c4, 40, .inl ((fun _ => 0))))] := hD
  have hK : va_K (dC, dI) CL [(c4, .int)] s := hK
  refine W.widen (k := 2) (n := 80) (by decide) (by decide) ?_
  refine va_putF (D := (dC, dI)) (ci := 6) (v := .ref q3) (ty := .array .int) (C := R_Z) (T := F_Z) (N := 6) hx hb hts u_Z t_Z t_Z_ok n_Z hown hK hP hD hS 0 rfl rfl 2 (by decide) (hts _ k_61) (fun _ h9 => h9) rfl hin rfl (by decide +kernel) rfl rfl (Nat.le_of_ble_eq_true rfl) d_Z_init_17 (fun H locs hP hD hS => ?_)
  have hP : va_P (dC, dI) CL [(h, .inr (6, [.null, .ref q1, .ref q3, .null, .null, .int 0])), (q3, .inl (c4, 40, .inl ((fun _ => 0))))] H := hP
  have hD : va_D A [(h, .inr (6, [.null, .ref q1, .ref q3, .null, .null, .int 0])), (q3, .inl (c4, 40, .inl ((fun _ => 0))))] := hD
  have hP := hP.sub (ws' := [(h, .inr (6, [.null, .ref q1, .ref q3, .null, .null, .int 0]))]) [0] rfl
  have hD := hD.sub (ws' := [(h, .inr (6, [.null, .ref q1, .ref q3, .null, .null, .int 0]))]) [0] (by decide) rfl
  have hK := hK.sub (tys' := []) [] rfl
  refine lv_aload_n hx hb d_Z_init_20 rfl (lv_at hl 0 rfl) ?_
  refine lv_bipush (v := 40) hx hb d_Z_init_21 (by decide) ?_
  refine va_newa (D := (dC, dI)) (atype := .int) (ty := .int) (N' := 40) (a0 := (40, .inl (fun _ => 0))) hx hb (hts _ k_4) rfl hK hP hD hS hA (fun _ => rfl) (by decide) (by decide) (by decide) (Nat.le_of_ble_eq_true rfl) (Nat.le_of_ble_eq_true rfl) d_Z_init_23 (fun q5 c6 H hK hP hD hS => ?_)
  have hP : va_P (dC, dI) CL [(h, .inr (6, [.null, .ref q1, .ref q3, .null, .null, .int 0])), (q5, .inl (c6, 40, .inl ((fun _ => 0))))] H := hP
  have hD : va_D A [(h, .inr (6, [.null, .ref q1, .ref q3, .null, .null, .int 0])), (q5, .inl (c6, 40, .inl ((fun _ => 0))))] := hD
  have hK : va_K (dC, dI) CL [(c6, .int)] s := hK
  refine W.widen (k := 3) (n := 120) (by decide) (by decide) ?_
  refine va_putF (D := (dC, dI)) (ci := 6) (v := .ref q5) (ty := .array .int) (C := R_Z) (T := F_Z) (N := 6) hx hb hts u_Z t_Z t_Z_ok n_Z hown hK hP hD hS 0 rfl rfl 3 (by decide) (hts _ k_62) (fun _ h9 => h9) rfl hin rfl (by decide +kernel) rfl rfl (Nat.le_of_ble_eq_true rfl) d_Z_init_25 (fun H locs hP hD hS => ?_)
  have hP : va_P (dC, dI) CL [(h, .inr (6, [.null, .ref q1, .ref q3, .ref q5, .null, .int 0])), (q5, .inl (c6, 40, .inl ((fun _ => 0))))] H := hP
  have hD : va_D A [(h, .inr (6, [.null, .ref q1, .ref q3, .ref q5, .null, .int 0])), (q5, .inl (c6, 40, .inl ((fun _ => 0))))] := hD
  have hP := hP.sub (ws' := [(h, .inr (6, [.null, .ref q1, .ref q3, .ref q5, .null, .int 0]))]) [0] rfl
  have hD := hD.sub (ws' := [(h, .inr (6, [.null, .ref q1, .ref q3, .ref q5, .null, .int 0]))]) [0] (by decide) rfl
  have hK := hK.sub (tys' := []) [] rfl
  refine lv_aload_n hx hb d_Z_init_28 rfl (lv_at hl 0 rfl) ?_
  refine lv_sipush (v := 160) hx hb d_Z_init_29 (by decide) ?_
  refine va_newa (D := (dC, dI)) (atype := .int) (ty := .int) (N' := 160) (a0 := (160, .inl (fun _ => 0))) hx hb (hts _ k_4) rfl hK hP hD hS hA (fun _ => rfl) (by decide) (by decide) (by decide) (Nat.le_of_ble_eq_true rfl) (Nat.le_of_ble_eq_true rfl) d_Z_init_32 (fun q7 c8 H hK hP hD hS => ?_)
  have hP : va_P (dC, dI) CL [(h, .inr (6, [.null, .ref q1, .ref q3, .ref q5, .null, .int 0])), (q7, .inl (c8, 160, .inl ((fun _ => 0))))] H := hP
  have hD : va_D A [(h, .inr (6, [.null, .ref q1, .ref q3, .ref q5, .null, .int 0])), (q7, .inl (c8, 160, .inl ((fun _ => 0))))] := hD
  have hK : va_K (dC, dI) CL [(c8, .int)] s := hK
  refine W.widen (k := 4) (n := 280) (by decide) (by decide) ?_
  refine va_putF (D := (dC, dI)) (ci := 6) (v := .ref q7) (ty := .array .int) (C := R_Z) (T := F_Z) (N := 6) hx hb hts u_Z t_Z t_Z_ok n_Z hown hK hP hD hS 0 rfl rfl 4 (by decide) (hts _ k_63) (fun _ h9 => h9) rfl hin rfl (by decide +kernel) rfl rfl (Nat.le_of_ble_eq_true rfl) d_Z_init_34 (fun H locs hP hD hS => ?_)
  have hP : va_P (dC, dI) CL [(h, .inr (6, [.null, .ref q1, .ref q3, .ref q5, .ref q7, .int 0])), (q7, .inl (c8, 160, .inl ((fun _ => 0))))] H := hP
  have hD : va_D A [(h, .inr (6, [.null, .ref q1, .ref q3, .ref q5, .ref q7, .int 0])), (q7, .inl (c8, 160, .inl ((fun _ => 0))))] := hD
  have hP := hP.sub (ws' := [(h, .inr (6, [.null, .ref q1, .ref q3, .ref q5, .ref q7, .int 0]))]) [0] rfl
  have hD := hD.sub (ws' := [(h, .inr (6, [.null, .ref q1, .ref q3, .ref q5, .ref q7, .int 0]))]) [0] (by decide) rfl
  have hK := hK.sub (tys' := []) [] rfl
  refine lv_aload_n hx hb d_Z_init_37 rfl (lv_at hl 0 rfl) ?_
  refine lv_aload_n hx hb d_Z_init_38 rfl (lv_at hl 1 rfl) ?_
  refine va_putF (D := (dC, dI)) (ci := 6) (v := .ref g) (ty := .object "VisitGrammar$Grammar") (C := R_Z) (T := F_Z) (N := 6) hx hb hts u_Z t_Z t_Z_ok n_Z hown hK hP hD hS 0 rfl rfl 0 (by decide) (hts _ k_64) (fun _ h9 => h9) rfl hin rfl (by decide +kernel) rfl rfl (Nat.le_of_ble_eq_true rfl) d_Z_init_39 (fun H locs hP hD hS => ?_)
  have hP : va_P (dC, dI) CL [(h, .inr (6, [.ref g, .ref q1, .ref q3, .ref q5, .ref q7, .int 0]))] H := hP
  have hD : va_D A [(h, .inr (6, [.ref g, .ref q1, .ref q3, .ref q5, .ref q7, .int 0]))] := hD
  have hP9 := hP.sub (ws' := [(h, .inr (6, [.ref g, .ref q1, .ref q3, .ref q5, .ref q7, .int 0]))]) [0] rfl
  have hD9 := hD.sub (ws' := [(h, .inr (6, [.ref g, .ref q1, .ref q3, .ref q5, .ref q7, .int 0]))]) [0] (by decide) rfl
  have hK9 := hK.sub (tys' := []) [] rfl
  refine W.widen (k := 4) (n := 280) (by decide) (by decide) ?_
  exact W.vret hx hb hr (fun t ht hW => ⟨⟨(), rfl, trivial, q1, q3, q5, q7, by rw [ht]; exact hP9, va_K.moved hW.alike hK9, hD9⟩, hS.F ht⟩) hS.2.2 d_Z_init_42

set_option maxHeartbeats 4000000 in
set_option maxRecDepth 100000 in
theorem c_U_init (l : Launch) (htr : l.stackTraces = false) (dC : Nat → ClassId) (dI : Nat → Nat → Nat) (h : Nat) (g : Nat) (sq : Nat) (tr : Nat) (sz : Nat) : Met l y_U_init WS ({ frames := 1, cells := 4, slots := 244, locals := 12 }) (va_Pc [.ref h, .ref g, .ref sq, .ref tr] (vq_Pre (dC, dI) CL sz [(h, .inr (7, [.null, .null, .null, .null, .null, .null, .null, .int 0, .int 0, .int 0]))] [])) (va_Qv (fun _ : Unit => True) (fun _ t => ∃ q1 : Nat, ∃ q3 : Nat, ∃ q5 : Nat, ∃ q7 : Nat, ∃ c2 : ClassId, vq_Post (dC, dI) CL (va_A [(h, .inr (7, [.null, .null, .null, .null, .null, .null, .null, .int 0, .int 0, .int 0]))] sz) [(h, .inr (7, [.ref g, .ref sq, .ref tr, .ref q1, .ref q3, .ref q5, .ref q7, .int 0, .int 0, .int 0])), (q1, .inl (c2, 4, .inl ((fun _ => 0))))] [(c2, .int)] t) (va_A [(h, .inr (7, [.null, .null, .null, .null, .null, .null, .null, .int 0, .int 0, .int 0]))] sz)) 4 244 (va_A [(h, .inr (7, [.null, .null, .null, .null, .null, .null, .null, .int 0, .int 0, .int 0]))] sz) := by
  refine vq_ofW (cc := prog_8_method_1_code) (maxL := 4) (ret := (Option.none : Option Jvm.ClassFile.FieldType)) (by decide) (vq_his k_65) ?_
  intro p e s m args below meth c s₁ B hml hv
  obtain ⟨rfl, hst, hsz, hP, hK, hD0⟩ := hv
  have hx := B.exec
  have hb := B.bytes
  have hr := B.returns
  have hts := atoms_spec (ws := WS) B.pre
  have hown : s.vm.findClass R_U = some m.cls := findClass_of_methodNamed B.named
  have hlocks := B.notSynchronized
  have hin : meth.name = "<init>" := (name_of_methodNamed B.named B.method).1
  have hno := vq_noH B (hts _ k_65)
  subst hsz
  have hN := vq_ns hP
  have hD := hD0.self (sz := s.heap.size)
  generalize hAe : va_A [(h, .inr (7, [.null, .null, .null, .null, .null, .null, .null, .int 0, .int 0, .int 0]))] s.heap.size = A at hD hN ⊢
  have hA : ∀ q : Nat, s.heap.size ≤ q → A q := fun q h => by rw [← hAe]; exact Or.inr h
  have hS : va_S A s.heap s.heap [] := va_S.rf
  have hP : va_P (dC, dI) CL [(h, .inr (7, [.null, .null, .null, .null, .null, .null, .null, .int 0, .int 0, .int 0]))] s.heap := hP
  have hD : va_D A [(h, .inr (7, [.null, .null, .null, .null, .null, .null, .null, .int 0, .int 0, .int 0]))] := hD
  have hl := lv_entry ([.ref h, .ref g, .ref sq, .ref tr]) (n := 4) (Nat.le_of_ble_eq_true rfl)
  rw [lg_entry_eq]
  generalize (lg_sl ([.ref h, .ref g, .ref sq, .ref tr]) ++ List.replicate (4 - (lg_sl ([.ref h, .ref g, .ref sq, .ref tr])).length) Slot.unset).toArray = ls at hl ⊢
  have hl : lv_has ls 4 [(0, .ref h), (1, .ref g), (2, .ref sq), (3, .ref tr)] := hl
  refine lv_aload_n hx hb d_U_init_0 rfl (lv_at hl 0 rfl) ?_
  refine W.objInit hx hb hown (hts _ k_66) (hts _ k_2) (hts _ k_3) rfl (by rw [hml]; exact hl.1) rfl d_U_init_1 (Nat.le_of_ble_eq_true rfl) (Nat.le_of_ble_eq_true rfl) ?_
  refine W.eq (g2 := F0 m 4 ls []) rfl ?_
  refine lv_aload_n hx hb d_U_init_4 rfl (lv_at hl 0 rfl) ?_
  refine lv_iconst (v := 4) hx hb d_U_init_5 (by decide) ?_
  refine va_newa (D := (dC, dI)) (atype := .int) (ty := .int) (N' := 4) (a0 := (4, .inl (fun _ => 0))) hx hb (hts _ k_4) rfl hK hP hD hS hA (fun _ => rfl) (by decide) (by decide) (by decide) (Nat.le_of_ble_eq_true rfl) (Nat.le_of_ble_eq_true rfl) d_U_init_6 (fun q1 c2 H hK hP hD hS => ?_)
  have hP : va_P (dC, dI) CL [(h, .inr (7, [.null, .null, .null, .null, .null, .null, .null, .int 0, .int 0, .int 0])), (q1, .inl (c2, 4, .inl ((fun _ => 0))))] H := hP
  have hD : va_D A [(h, .inr (7, [.null, .null, .null, .null, .null, .null, .null, .int 0, .int 0, .int 0])), (q1, .inl (c2, 4, .inl ((fun _ => 0))))] := hD
  have hK : va_K (dC, dI) CL [(c2, .int)] s := hK
  refine W.widen (k := 1) (n := 4) (by decide) (by decide) ?_
  refine va_putF (D := (dC, dI)) (ci := 7) (v := .ref q1) (ty := .array .int) (C := R_U) (T := F_U) (N := 10) hx hb hts u_U t_U t_U_ok n_U hown hK hP hD hS 0 rfl rfl 3 (by decide) (hts _ k_67) (fun _ h9 => h9) rfl hin rfl (by decide +kernel) rfl rfl (Nat.le_of_ble_eq_true rfl) d_U_init_8 (fun H locs hP hD hS => ?_)
  have hP : va_P (dC, dI) CL [(h, .inr (7, [.null, .null, .null, .ref q1, .null, .null, .null, .int 0, .int 0, .int 0])), (q1, .inl (c2, 4, .inl ((fun _ => 0))))] H := hP
  have hD : va_D A [(h, .inr (7, [.null, .null, .null, .ref q1, .null, .null, .null, .int 0, .int 0, .int 0])), (q1, .inl (c2, 4, .inl ((fun _ => 0))))] := hD
  refine lv_aload_n hx hb d_U_init_11 rfl (lv_at hl 0 rfl) ?_
  refine lv_sipush (v := 160) hx hb d_U_init_12 (by decide) ?_
  refine va_newa (D := (dC, dI)) (atype := .int) (ty := .int) (N' := 160) (a0 := (160, .inl (fun _ => 0))) hx hb (hts _ k_4) rfl hK hP hD hS hA (fun _ => rfl) (by decide) (by decide) (by decide) (Nat.le_of_ble_eq_true rfl) (Nat.le_of_ble_eq_true rfl) d_U_init_15 (fun q3 c4 H hK hP hD hS => ?_)
  have hP : va_P (dC, dI) CL [(h, .inr (7, [.null, .null, .null, .ref q1, .null, .null, .null, .int 0, .int 0, .int 0])), (q1, .inl (c2, 4, .inl ((fun _ => 0)))), (q3, .inl (c4, 160, .inl ((fun _ => 0))))] H := hP
  have hD : va_D A [(h, .inr (7, [.null, .null, .null, .ref q1, .null, .null, .null, .int 0, .int 0, .int 0])), (q1, .inl (c2, 4, .inl ((fun _ => 0)))), (q3, .inl (c4, 160, .inl ((fun _ => 0))))] := hD
  have hK : va_K (dC, dI) CL [(c2, .int), (c4, .int)] s := hK
  refine W.widen (k := 2) (n := 164) (by decide) (by decide) ?_
  refine va_putF (D := (dC, dI)) (ci := 7) (v := .ref q3) (ty := .array .int) (C := R_U) (T := F_U) (N := 10) hx hb hts u_U t_U t_U_ok n_U hown hK hP hD hS 0 rfl rfl 4 (by decide) (hts _ k_68) (fun _ h9 => h9) rfl hin rfl (by decide +kernel) rfl rfl (Nat.le_of_ble_eq_true rfl) d_U_init_17 (fun H locs hP hD hS => ?_)
  have hP : va_P (dC, dI) CL [(h, .inr (7, [.null, .null, .null, .ref q1, .ref q3, .null, .null, .int 0, .int 0, .int 0])), (q1, .inl (c2, 4, .inl ((fun _ => 0)))), (q3, .inl (c4, 160, .inl ((fun _ => 0))))] H := hP
  have hD : va_D A [(h, .inr (7, [.null, .null, .null, .ref q1, .ref q3, .null, .null, .int 0, .int 0, .int 0])), (q1, .inl (c2, 4, .inl ((fun _ => 0)))), (q3, .inl (c4, 160, .inl ((fun _ => 0))))] := hD
  have hP := hP.sub (ws' := [(h, .inr (7, [.null, .null, .null, .ref q1, .ref q3, .null, .null, .int 0, .int 0, .int 0])), (q1, .inl (c2, 4, .inl ((fun _ => 0))))]) [0, 1] rfl
  have hD := hD.sub (ws' := [(h, .inr (7, [.null, .null, .null, .ref q1, .ref q3, .null, .null, .int 0, .int 0, .int 0])), (q1, .inl (c2, 4, .inl ((fun _ => 0))))]) [0, 1] (by decide) rfl
  have hK := hK.sub (tys' := [(c2, .int)]) [0] rfl
  refine lv_aload_n hx hb d_U_init_20 rfl (lv_at hl 0 rfl) ?_
  refine lv_bipush (v := 40) hx hb d_U_init_21 (by decide) ?_
  refine va_newa (D := (dC, dI)) (atype := .int) (ty := .int) (N' := 40) (a0 := (40, .inl (fun _ => 0))) hx hb (hts _ k_4) rfl hK hP hD hS hA (fun _ => rfl) (by decide) (by decide) (by decide) (Nat.le_of_ble_eq_true rfl) (Nat.le_of_ble_eq_true rfl) d_U_init_23 (fun q5 c6 H hK hP hD hS => ?_)
  have hP : va_P (dC, dI) CL [(h, .inr (7, [.null, .null, .null, .ref q1, .ref q3, .null, .null, .int 0, .int 0, .int 0])), (q1, .inl (c2, 4, .inl ((fun _ => 0)))), (q5, .inl (c6, 40, .inl ((fun _ => 0))))] H := hP
  have hD : va_D A [(h, .inr (7, [.null, .null, .null, .ref q1, .ref q3, .null, .null, .int 0, .int 0, .int 0])), (q1, .inl (c2, 4, .inl ((fun _ => 0)))), (q5, .inl (c6, 40, .inl ((fun _ => 0))))] := hD
  have hK : va_K (dC, dI) CL [(c2, .int), (c6, .int)] s := hK
  refine W.widen (k := 3) (n := 204) (by decide) (by decide) ?_
  refine va_putF (D := (dC, dI)) (ci := 7) (v := .ref q5) (ty := .array .int) (C := R_U) (T := F_U) (N := 10) hx hb hts u_U t_U t_U_ok n_U hown hK hP hD hS 0 rfl rfl 5 (by decide) (hts _ k_69) (fun _ h9 => h9) rfl hin rfl (by decide +kernel) rfl rfl (Nat.le_of_ble_eq_true rfl) d_U_init_25 (fun H locs hP hD hS => ?_)
  have hP : va_P (dC, dI) CL [(h, .inr (7, [.null, .null, .null, .ref q1, .ref q3, .ref q5, .null, .int 0, .int 0, .int 0])), (q1, .inl (c2, 4, .inl ((fun _ => 0)))), (q5, .inl (c6, 40, .inl ((fun _ => 0))))] H := hP
  have hD : va_D A [(h, .inr (7, [.null, .null, .null, .ref q1, .ref q3, .ref q5, .null, .int 0, .int 0, .int 0])), (q1, .inl (c2, 4, .inl ((fun _ => 0)))), (q5, .inl (c6, 40, .inl ((fun _ => 0))))] := hD
  have hP := hP.sub (ws' := [(h, .inr (7, [.null, .null, .null, .ref q1, .ref q3, .ref q5, .null, .int 0, .int 0, .int 0])), (q1, .inl (c2, 4, .inl ((fun _ => 0))))]) [0, 1] rfl
  have hD := hD.sub (ws' := [(h, .inr (7, [.null, .null, .null, .ref q1, .ref q3, .ref q5, .null, .int 0, .int 0, .int 0])), (q1, .inl (c2, 4, .inl ((fun _ => 0))))]) [0, 1] (by decide) rfl
  have hK := hK.sub (tys' := [(c2, .int)]) [0] rfl
  refine lv_aload_n hx hb d_U_init_28 rfl (lv_at hl 0 rfl) ?_
  refine lv_bipush (v := 40) hx hb d_U_init_29 (by decide) ?_
  refine va_newa (D := (dC, dI)) (atype := .int) (ty := .int) (N' := 40) (a0 := (40, .inl (fun _ => 0))) hx hb (hts _ k_4) rfl hK hP hD hS hA (fun _ => rfl) (by decide) (by decide) (by decide) (Nat.le_of_ble_eq_true rfl) (Nat.le_of_ble_eq_true rfl) d_U_init_31 (fun q7 c8 H hK hP hD hS => ?_)
  have hP : va_P (dC, dI) CL [(h, .inr (7, [.null, .null, .null, .ref q1, .ref q3, .ref q5, .null, .int 0, .int 0, .int 0])), (q1, .inl (c2, 4, .inl ((fun _ => 0)))), (q7, .inl (c8, 40, .inl ((fun _ => 0))))] H := hP
  have hD : va_D A [(h, .inr (7, [.null, .null, .null, .ref q1, .ref q3, .ref q5, .null, .int 0, .int 0, .int 0])), (q1, .inl (c2, 4, .inl ((fun _ => 0)))), (q7, .inl (c8, 40, .inl ((fun _ => 0))))] := hD
  have hK : va_K (dC, dI) CL [(c2, .int), (c8, .int)] s := hK
  refine W.widen (k := 4) (n := 244) (by decide) (by decide) ?_
  refine va_putF (D := (dC, dI)) (ci := 7) (v := .ref q7) (ty := .array .int) (C := R_U) (T := F_U) (N := 10) hx hb hts u_U t_U t_U_ok n_U hown hK hP hD hS 0 rfl rfl 6 (by decide) (hts _ k_70) (fun _ h9 => h9) rfl hin rfl (by decide +kernel) rfl rfl (Nat.le_of_ble_eq_true rfl) d_U_init_33 (fun H locs hP hD hS => ?_)
  have hP : va_P (dC, dI) CL [(h, .inr (7, [.null, .null, .null, .ref q1, .ref q3, .ref q5, .ref q7, .int 0, .int 0, .int 0])), (q1, .inl (c2, 4, .inl ((fun _ => 0)))), (q7, .inl (c8, 40, .inl ((fun _ => 0))))] H := hP
  have hD : va_D A [(h, .inr (7, [.null, .null, .null, .ref q1, .ref q3, .ref q5, .ref q7, .int 0, .int 0, .int 0])), (q1, .inl (c2, 4, .inl ((fun _ => 0)))), (q7, .inl (c8, 40, .inl ((fun _ => 0))))] := hD
  have hP := hP.sub (ws' := [(h, .inr (7, [.null, .null, .null, .ref q1, .ref q3, .ref q5, .ref q7, .int 0, .int 0, .int 0])), (q1, .inl (c2, 4, .inl ((fun _ => 0))))]) [0, 1] rfl
  have hD := hD.sub (ws' := [(h, .inr (7, [.null, .null, .null, .ref q1, .ref q3, .ref q5, .ref q7, .int 0, .int 0, .int 0])), (q1, .inl (c2, 4, .inl ((fun _ => 0))))]) [0, 1] (by decide) rfl
  have hK := hK.sub (tys' := [(c2, .int)]) [0] rfl
  refine lv_aload_n hx hb d_U_init_36 rfl (lv_at hl 0 rfl) ?_
  refine lv_aload_n hx hb d_U_init_37 rfl (lv_at hl 1 rfl) ?_
  refine va_putF (D := (dC, dI)) (ci := 7) (v := .ref g) (ty := .object "VisitGrammar$Grammar") (C := R_U) (T := F_U) (N := 10) hx hb hts u_U t_U t_U_ok n_U hown hK hP hD hS 0 rfl rfl 0 (by decide) (hts _ k_71) (fun _ h9 => h9) rfl hin rfl (by decide +kernel) rfl rfl (Nat.le_of_ble_eq_true rfl) d_U_init_38 (fun H locs hP hD hS => ?_)
  have hP : va_P (dC, dI) CL [(h, .inr (7, [.ref g, .null, .null, .ref q1, .ref q3, .ref q5, .ref q7, .int 0, .int 0, .int 0])), (q1, .inl (c2, 4, .inl ((fun _ => 0))))] H := hP
  have hD : va_D A [(h, .inr (7, [.ref g, .null, .null, .ref q1, .ref q3, .ref q5, .ref q7, .int 0, .int 0, .int 0])), (q1, .inl (c2, 4, .inl ((fun _ => 0))))] := hD
  refine lv_aload_n hx hb d_U_init_41 rfl (lv_at hl 0 rfl) ?_
  refine lv_aload_n hx hb d_U_init_42 rfl (lv_at hl 2 rfl) ?_
  refine va_putF (D := (dC, dI)) (ci := 7) (v := .ref sq) (ty := .object "VisitGrammar$Sequences") (C := R_U) (T := F_U) (N := 10) hx hb hts u_U t_U t_U_ok n_U hown hK hP hD hS 0 rfl rfl 1 (by decide) (hts _ k_72) (fun _ h9 => h9) rfl hin rfl (by decide +kernel) rfl rfl (Nat.le_of_ble_eq_true rfl) d_U_init_43 (fun H locs hP hD hS => ?_)
  have hP : va_P (dC, dI) CL [(h, .inr (7, [.ref g, .ref sq, .null, .ref q1, .ref q3, .ref q5, .ref q7, .int 0, .int 0, .int 0])), (q1, .inl (c2, 4, .inl ((fun _ => 0))))] H := hP
  have hD : va_D A [(h, .inr (7, [.ref g, .ref sq, .null, .ref q1, .ref q3, .ref q5, .ref q7, .int 0, .int 0, .int 0])), (q1, .inl (c2, 4, .inl ((fun _ => 0))))] := hD
  refine lv_aload_n hx hb d_U_init_46 rfl (lv_at hl 0 rfl) ?_
  refine lv_aload_n hx hb d_U_init_47 rfl (lv_at hl 3 rfl) ?_
  refine va_putF (D := (dC, dI)) (ci := 7) (v := .ref tr) (ty := .object "VisitGrammar$Tree") (C := R_U) (T := F_U) (N := 10) hx hb hts u_U t_U t_U_ok n_U hown hK hP hD hS 0 rfl rfl 2 (by decide) (hts _ k_73) (fun _ h9 => h9) rfl hin rfl (by decide +kernel) rfl rfl (Nat.le_of_ble_eq_true rfl) d_U_init_48 (fun H locs hP hD hS => ?_)
  have hP : va_P (dC, dI) CL [(h, .inr (7, [.ref g, .ref sq, .ref tr, .ref q1, .ref q3, .ref q5, .ref q7, .int 0, .int 0, .int 0])), (q1, .inl (c2, 4, .inl ((fun _ => 0))))] H := hP
  have hD : va_D A [(h, .inr (7, [.ref g, .ref sq, .ref tr, .ref q1, .ref q3, .ref q5, .ref q7, .int 0, .int 0, .int 0])), (q1, .inl (c2, 4, .inl ((fun _ => 0))))] := hD
  have hP9 := hP.sub (ws' := [(h, .inr (7, [.ref g, .ref sq, .ref tr, .ref q1, .ref q3, .ref q5, .ref q7, .int 0, .int 0, .int 0])), (q1, .inl (c2, 4, .inl ((fun _ => 0))))]) [0, 1] rfl
  have hD9 := hD.sub (ws' := [(h, .inr (7, [.ref g, .ref sq, .ref tr, .ref q1, .ref q3, .ref q5, .ref q7, .int 0, .int 0, .int 0])), (q1, .inl (c2, 4, .inl ((fun _ => 0))))]) [0, 1] (by decide) rfl
  have hK9 := hK.sub (tys' := [(c2, .int)]) [0] rfl
  refine W.widen (k := 4) (n := 244) (by decide) (by decide) ?_
  exact W.vret hx hb hr (fun t ht hW => ⟨⟨(), rfl, trivial, q1, q3, q5, q7, c2, by rw [ht]; exact hP9, va_K.moved hW.alike hK9, hD9⟩, hS.F ht⟩) hS.2.2 d_U_init_51

set_option maxHeartbeats 4000000 in
set_option maxRecDepth 100000 in
theorem c_V_init (l : Launch) (htr : l.stackTraces = false) (dC : Nat → ClassId) (dI : Nat → Nat → Nat) (h : Nat) (sz : Nat) : Met l y_V_init WS ({ frames := 3, cells := 34, slots := 1880, locals := 55 }) (va_Pc [.ref h] (vq_Pre (dC, dI) CL sz [(h, .inr (0, [.null, .null, .null, .null]))] [])) (va_Qv (fun _ : Unit => True) (fun _ t => ∃ q1 : Nat, ∃ q16 : Nat, ∃ q21 : Nat, ∃ q27 : Nat, ∃ q2 : Nat, ∃ q3 : Nat, ∃ q4 : Nat, ∃ q5 : Nat, ∃ q6 : Nat, ∃ q7 : Nat, ∃ q8 : Nat, ∃ q9 : Nat, ∃ q10 : Nat, ∃ q11 : Nat, ∃ q12 : Nat, ∃ c13 : ClassId, ∃ c14 : ClassId, ∃ q17 : Nat, ∃ q18 : Nat, ∃ q19 : Nat, ∃ q22 : Nat, ∃ q23 : Nat, ∃ q24 : Nat, ∃ q25 : Nat, ∃ q28 : Nat, ∃ q29 : Nat, ∃ q30 : Nat, ∃ q31 : Nat, ∃ c32 : ClassId, vq_Post (dC, dI) CL (va_A [(h, .inr (0, [.null, .null, .null, .null]))] sz) [(h, .inr (0, [.ref q1, .ref q16, .ref q21, .ref q27])), (q1, .inr (1, [.ref q2, .ref q3, .int 0, .ref q4, .ref q5, .ref q6, .ref q7, .int 0, .ref q8, .ref q9, .ref q10, .ref q11, .ref q12])), (q2, .inl (c13, 6, .inl ((fun _ => 0)))), (q3, .inl (c14, 6, .inl ((fun _ => 0)))), (q16, .inr (2, [.ref q1, .ref q17, .ref q18, .ref q19, .int 0, .int 0, .int (-1), .int (-1)])), (q21, .inr (6, [.ref q1, .ref q22, .ref q23, .ref q24, .ref q25, .int 0])), (q27, .inr (7, [.ref q1, .ref q19, .ref q21, .ref q28, .ref q29, .ref q30, .ref q31, .int 0, .int 0, .int 0])), (q28, .inl (c32, 4, .inl ((fun _ => 0))))] [(c13, .int), (c14, .int), (c32, .int)] t) (va_A [(h, .inr (0, [.null, .null, .null, .null]))] sz)) 34 1880 (va_A [(h, .inr (0, [.null, .null, .null, .null]))] sz) := by
  refine vq_ofW (cc := prog_1_method_1_code) (maxL := 1) (ret := (Option.none : Option Jvm.ClassFile.FieldType)) (by decide) (vq_his k_74) ?_
  intro p e s m args below meth c s₁ B hml hv
  obtain ⟨rfl, hst, hsz, hP, hK, hD0⟩ := hv
  have hx := B.exec
  have hb := B.bytes
  have hr := B.returns
  have hts := atoms_spec (ws := WS) B.pre
  have hown : s.vm.findClass R_V = some m.cls := findClass_of_methodNamed B.named
  have hlocks := B.notSynchronized
  have hin : meth.name = "<init>" := (name_of_methodNamed B.named B.method).1
  have hno := vq_noH B (hts _ k_74)
  subst hsz
  have hN := vq_ns hP
  have hD := hD0.self (sz := s.heap.size)
  generalize hAe : va_A [(h, .inr (0, [.null, .null, .null, .null]))] s.heap.size = A at hD hN ⊢
  have hA : ∀ q : Nat, s.heap.size ≤ q → A q := fun q h => by rw [← hAe]; exact Or.inr h
  have hS : va_S A s.heap s.heap [] := va_S.rf
  have hP : va_P (dC, dI) CL [(h, .inr (0, [.null, .null, .null, .null]))] s.heap := hP
  have hD : va_D A [(h, .inr (0, [.null, .null, .null, .null]))] := hD
  have hl := lv_entry ([.ref h]) (n := 1) (Nat.le_of_ble_eq_true rfl)
  rw [lg_entry_eq]
  generalize (lg_sl ([.ref h]) ++ List.replicate (1 - (lg_sl ([.ref h])).length) Slot.unset).toArray = ls at hl ⊢
  have hl : lv_has ls 1 [(0, .ref h)] := hl
  refine lv_aload_n hx hb d_V_init_0 rfl (lv_at hl 0 rfl) ?_
  refine W.objInit hx hb hown (hts _ k_75) (hts _ k_2) (hts _ k_3) rfl (by rw [hml]; exact hl.1) rfl d_V_init_1 (Nat.le_of_ble_eq_true rfl) (Nat.le_of_ble_eq_true rfl) ?_
  refine W.eq (g2 := F0 m 4 ls []) rfl ?_
  refine lv_aload_n hx hb d_V_init_4 rfl (lv_at hl 0 rfl) ?_
  refine va_new (ci := 1) (fs := [.null, .null, .int 0, .null, .null, .null, .null, .int 0, .null, .null, .null, .null, .null]) (C := R_G) (T := F_G) (N := 13) hx hb hts u_G t_G t_G_ok hown (hts _ k_76) (hts _ k_77) (hts _ k_78) hK hP hD hS hA rfl z_G (Nat.le_of_ble_eq_true rfl) (Nat.le_of_ble_eq_true rfl) d_V_init_5 (fun q1 H hP hD hS => ?_)
  have hP : va_P (dC, dI) CL [(h, .inr (0, [.null, .null, .null, .null])), (q1, .inr (1, [.null, .null, .int 0, .null, .null, .null, .null, .int 0, .null, .null, .null, .null, .null]))] H := hP
  have hD : va_D A [(h, .inr (0, [.null, .null, .null, .null])), (q1, .inr (1, [.null, .null, .int 0, .null, .null, .null, .null, .int 0, .null, .null, .null, .null, .null]))] := hD
  refine W.widen (k := 1) (n := 13) (by decide) (by decide) ?_
  refine lv_dup hx hb d_V_init_8 rfl ?_
  have hPc := hP.sub (ws' := [(q1, .inr (1, [.null, .null, .int 0, .null, .null, .null, .null, .int 0, .null, .null, .null, .null, .null]))]) [1] rfl
  have hDc := hD.sub (ws' := [(q1, .inr (1, [.null, .null, .int 0, .null, .null, .null, .null, .int 0, .null, .null, .null, .null, .null]))]) [1] (by decide) rfl
  have hKc := hK.sub (tys' := []) [] rfl
  have hFc := va_free (wc := [(q1, .inr (1, [.null, .null, .int 0, .null, .null, .null, .null, .int 0, .null, .null, .null, .null, .null]))]) hD hS hA [1] rfl
  refine va_callv (va_runIN (As := []) (rest := [.ref q1, .ref h]) ⟨hx, hb, hml, hown, hts⟩ (c_G_init l htr dC dI q1 H.size) (vq_cIN WSk hts 0 rfl rfl ⟨by decide, by decide⟩ k_0 k_78 k_79 k_80 rfl (by decide +kernel)) ⟨vq_blind, vq_here hst hS hN hPc hKc hDc⟩ rfl rfl hl.1 rfl (lv_room (Nat.le_of_ble_eq_true rfl)) d_V_init_9 ⟨by decide, by decide⟩) hS (fun q _ h => hFc q h) hFc (fun u t H1 locs ht hvm hw hB hz1 hk1 hS => ?_)
  obtain ⟨q2, q3, q4, q5, q6, q7, q8, q9, q10, q11, q12, c13, c14, hP1, hK1, hD1⟩ := hB
  rw [ht] at hP1
  have hK1 := va_K.moved hvm.symm hK1
  obtain ⟨hP, hD⟩ := va_join (wr := [(h, .inr (0, [.null, .null, .null, .null]))]) (w1 := [(q1, .inr (1, [.ref q2, .ref q3, .int 0, .ref q4, .ref q5, .ref q6, .ref q7, .int 0, .ref q8, .ref q9, .ref q10, .ref q11, .ref q12])), (q2, .inl (c13, 6, .inl ((fun _ => 0)))), (q3, .inl (c14, 6, .inl ((fun _ => 0))))]) hP hD [1] [0] rfl rfl (by decide) (by decide) hk1 hFc hP1 hD1
  have hK := (hK.sub (tys' := []) [] rfl).app hK1
  generalize H1 = H at hP hS ⊢
  have hP : va_P (dC, dI) CL [(h, .inr (0, [.null, .null, .null, .null])), (q1, .inr (1, [.ref q2, .ref q3, .int 0, .ref q4, .ref q5, .ref q6, .ref q7, .int 0, .ref q8, .ref q9, .ref q10, .ref q11, .ref q12])), (q2, .inl (c13, 6, .inl ((fun _ => 0)))), (q3, .inl (c14, 6, .inl ((fun _ => 0))))] H := hP
  have hD : va_D A [(h, .inr (0, [.null, .null, .null, .null])), (q1, .inr (1, [.ref q2, .ref q3, .int 0, .ref q4, .ref q5, .ref q6, .ref q7, .int 0, .ref q8, .ref q9, .ref q10, .ref q11, .ref q12])), (q2, .inl (c13, 6, .inl ((fun _ => 0)))), (q3, .inl (c14, 6, .inl ((fun _ => 0))))] := hD
  have hK : va_K (dC, dI) CL [(c13, .int), (c14, .int)] s := hK
  refine W.widen (k := 12) (n := 745) (by decide) (by decide) ?_
  refine va_putF (D := (dC, dI)) (ci := 0) (v := .ref q1) (ty := .object "VisitGrammar$Grammar") (C := R_V) (T := F_V) (N := 4) hx hb hts u_V t_V t_V_ok n_V hown hK hP hD hS 0 rfl rfl 0 (by decide) (hts _ k_81) (fun _ h9 => h9) rfl hin rfl (by decide +kernel) rfl rfl (Nat.le_of_ble_eq_true rfl) d_V_init_12 (fun H locs hP hD hS => ?_)
  have hP : va_P (dC, dI) CL [(h, .inr (0, [.ref q1, .null, .null, .null])), (q1, .inr (1, [.ref q2, .ref q3, .int 0, .ref q4, .ref q5, .ref q6, .ref q7, .int 0, .ref q8, .ref q9, .ref q10, .ref q11, .ref q12])), (q2, .inl (c13, 6, .inl ((fun _ => 0)))), (q3, .inl (c14, 6, .inl ((fun _ => 0))))] H := hP
  have hD : va_D A [(h, .inr (0, [.ref q1, .null, .null, .null])), (q1, .inr (1, [.ref q2, .ref q3, .int 0, .ref q4, .ref q5, .ref q6, .ref q7, .int 0, .ref q8, .ref q9, .ref q10, .ref q11, .ref q12])), (q2, .inl (c13, 6, .inl ((fun _ => 0)))), (q3, .inl (c14, 6, .inl ((fun _ => 0))))] := hD
  refine lv_aload_n hx hb d_V_init_15 rfl (lv_at hl 0 rfl) ?_
  refine va_new (ci := 2) (fs := [.null, .null, .null, .null, .int 0, .int 0, .int 0, .int 0]) (C := R_A) (T := F_A) (N := 8) hx hb hts u_A t_A t_A_ok hown (hts _ k_82) (hts _ k_83) (hts _ k_84) hK hP hD hS hA rfl z_A (Nat.le_of_ble_eq_true rfl) (Nat.le_of_ble_eq_true rfl) d_V_init_16 (fun q16 H hP hD hS => ?_)
  have hP : va_P (dC, dI) CL [(h, .inr (0, [.ref q1, .null, .null, .null])), (q1, .inr (1, [.ref q2, .ref q3, .int 0, .ref q4, .ref q5, .ref q6, .ref q7, .int 0, .ref q8, .ref q9, .ref q10, .ref q11, .ref q12])), (q2, .inl (c13, 6, .inl ((fun _ => 0)))), (q3, .inl (c14, 6, .inl ((fun _ => 0)))), (q16, .inr (2, [.null, .null, .null, .null, .int 0, .int 0, .int 0, .int 0]))] H := hP
  have hD : va_D A [(h, .inr (0, [.ref q1, .null, .null, .null])), (q1, .inr (1, [.ref q2, .ref q3, .int 0, .ref q4, .ref q5, .ref q6, .ref q7, .int 0, .ref q8, .ref q9, .ref q10, .ref q11, .ref q12])), (q2, .inl (c13, 6, .inl ((fun _ => 0)))), (q3, .inl (c14, 6, .inl ((fun _ => 0)))), (q16, .inr (2, [.null, .null, .null, .null, .int 0, .int 0, .int 0, .int 0]))] := hD
  refine W.widen (k := 13) (n := 753) (by decide) (by decide) ?_
  refine lv_dup hx hb d_V_init_19 rfl ?_
  refine lv_aload_n hx hb d_V_init_20 rfl (lv_at hl 0 rfl) ?_
  refine va_get (D := (dC, dI)) (ci := 0) (v := .ref q1) (C := R_V) (T := F_V) (N := 4) hx hb hts u_V hown hK hP 0 rfl rfl 0 (by decide) (hts _ k_81) (fun _ h9 => h9) rfl d_V_init_21 ?_
  have hPc := hP.sub (ws' := [(q16, .inr (2, [.null, .null, .null, .null, .int 0, .int 0, .int 0, .int 0]))]) [4] rfl
  have hDc := hD.sub (ws' := [(q16, .inr (2, [.null, .null, .null, .null, .int 0, .int 0, .int 0, .int 0]))]) [4] (by decide) rfl
  have hKc := hK.sub (tys' := []) [] rfl
  have hFc := va_free (wc := [(q16, .inr (2, [.null, .null, .null, .null, .int 0, .int 0, .int 0, .int 0]))]) hD hS hA [4] rfl
  refine va_callv (va_runI (As := [.ref q1]) (rest := [.ref q16, .ref h]) ⟨hx, hb, hml, hown, hts⟩ (c_A_init l htr dC dI q16 q1 H.size) (vq_cI WSk hts 1 rfl rfl ⟨by decide, by decide⟩ k_35 k_84 k_85 k_86 rfl (by decide +kernel)) ⟨vq_blind, vq_here hst hS hN hPc hKc hDc⟩ rfl rfl hl.1 rfl (lv_room (Nat.le_of_ble_eq_true rfl)) d_V_init_24 ⟨by decide, by decide⟩) hS (fun q _ h => hFc q h) hFc (fun u t H1 locs ht hvm hw hB hz1 hk1 hS => ?_)
  obtain ⟨q17, q18, q19, hP1, hK1, hD1⟩ := hB
  rw [ht] at hP1
  have hK1 := va_K.moved hvm.symm hK1
  obtain ⟨hP, hD⟩ := va_join (wr := [(h, .inr (0, [.ref q1, .null, .null, .null])), (q1, .inr (1, [.ref q2, .ref q3, .int 0, .ref q4, .ref q5, .ref q6, .ref q7, .int 0, .ref q8, .ref q9, .ref q10, .ref q11, .ref q12])), (q2, .inl (c13, 6, .inl ((fun _ => 0)))), (q3, .inl (c14, 6, .inl ((fun _ => 0))))]) (w1 := [(q16, .inr (2, [.ref q1, .ref q17, .ref q18, .ref q19, .int 0, .int 0, .int (-1), .int (-1)]))]) hP hD [4] [0, 1, 2, 3] rfl rfl (by decide) (by decide) hk1 hFc hP1 hD1
  have hK := (hK.sub (tys' := [(c13, .int), (c14, .int)]) [0, 1] rfl).app hK1
  generalize H1 = H at hP hS ⊢
  have hP : va_P (dC, dI) CL [(h, .inr (0, [.ref q1, .null, .null, .null])), (q1, .inr (1, [.ref q2, .ref q3, .int 0, .ref q4, .ref q5, .ref q6, .ref q7, .int 0, .ref q8, .ref q9, .ref q10, .ref q11, .ref q12])), (q2, .inl (c13, 6, .inl ((fun _ => 0)))), (q3, .inl (c14, 6, .inl ((fun _ => 0)))), (q16, .inr (2, [.ref q1, .ref q17, .ref q18, .ref q19, .int 0, .int 0, .int (-1), .int (-1)]))] H := hP
  have hD : va_D A [(h, .inr (0, [.ref q1, .null, .null, .null])), (q1, .inr (1, [.ref q2, .ref q3, .int 0, .ref q4, .ref q5, .ref q6, .ref q7, .int 0, .ref q8, .ref q9, .ref q10, .ref q11, .ref q12])), (q2, .inl (c13, 6, .inl ((fun _ => 0)))), (q3, .inl (c14, 6, .inl ((fun _ => 0)))), (q16, .inr (2, [.ref q1, .ref q17, .ref q18, .ref q19, .int 0, .int 0, .int (-1), .int (-1)]))] := hD
  have hK : va_K (dC, dI) CL [(c13, .int), (c14, .int)] s := hK
  refine W.widen (k := 24) (n := 1340) (by decide) (by decide) ?_
  refine va_putF (D := (dC, dI)) (ci := 0) (v := .ref q16) (ty := .object "VisitGrammar$Analysis") (C := R_V) (T := F_V) (N := 4) hx hb hts u_V t_V t_V_ok n_V hown hK hP hD hS 0 rfl rfl 1 (by decide) (hts _ k_87) (fun _ h9 => h9) rfl hin rfl (by decide +kernel) rfl rfl (Nat.le_of_ble_eq_true rfl) d_V_init_27 (fun H locs hP hD hS => ?_)
  have hP : va_P (dC, dI) CL [(h, .inr (0, [.ref q1, .ref q16, .null, .null])), (q1, .inr (1, [.ref q2, .ref q3, .int 0, .ref q4, .ref q5, .ref q6, .ref q7, .int 0, .ref q8, .ref q9, .ref q10, .ref q11, .ref q12])), (q2, .inl (c13, 6, .inl ((fun _ => 0)))), (q3, .inl (c14, 6, .inl ((fun _ => 0)))), (q16, .inr (2, [.ref q1, .ref q17, .ref q18, .ref q19, .int 0, .int 0, .int (-1), .int (-1)]))] H := hP
  have hD : va_D A [(h, .inr (0, [.ref q1, .ref q16, .null, .null])), (q1, .inr (1, [.ref q2, .ref q3, .int 0, .ref q4, .ref q5, .ref q6, .ref q7, .int 0, .ref q8, .ref q9, .ref q10, .ref q11, .ref q12])), (q2, .inl (c13, 6, .inl ((fun _ => 0)))), (q3, .inl (c14, 6, .inl ((fun _ => 0)))), (q16, .inr (2, [.ref q1, .ref q17, .ref q18, .ref q19, .int 0, .int 0, .int (-1), .int (-1)]))] := hD
  refine lv_aload_n hx hb d_V_init_30 rfl (lv_at hl 0 rfl) ?_
  refine va_new (ci := 6) (fs := [.null, .null, .null, .null, .null, .int 0]) (C := R_Z) (T := F_Z) (N := 6) hx hb hts u_Z t_Z t_Z_ok hown (hts _ k_88) (hts _ k_89) (hts _ k_90) hK hP hD hS hA rfl z_Z (Nat.le_of_ble_eq_true rfl) (Nat.le_of_ble_eq_true rfl) d_V_init_31 (fun q21 H hP hD hS => ?_)
  have hP : va_P (dC, dI) CL [(h, .inr (0, [.ref q1, .ref q16, .null, .null])), (q1, .inr (1, [.ref q2, .ref q3, .int 0, .ref q4, .ref q5, .ref q6, .ref q7, .int 0, .ref q8, .ref q9, .ref q10, .ref q11, .ref q12])), (q2, .inl (c13, 6, .inl ((fun _ => 0)))), (q3, .inl (c14, 6, .inl ((fun _ => 0)))), (q16, .inr (2, [.ref q1, .ref q17, .ref q18, .ref q19, .int 0, .int 0, .int (-1), .int (-1)])), (q21, .inr (6, [.null, .null, .null, .null, .null, .int 0]))] H := hP
  have hD : va_D A [(h, .inr (0, [.ref q1, .ref q16, .null, .null])), (q1, .inr (1, [.ref q2, .ref q3, .int 0, .ref q4, .ref q5, .ref q6, .ref q7, .int 0, .ref q8, .ref q9, .ref q10, .ref q11, .ref q12])), (q2, .inl (c13, 6, .inl ((fun _ => 0)))), (q3, .inl (c14, 6, .inl ((fun _ => 0)))), (q16, .inr (2, [.ref q1, .ref q17, .ref q18, .ref q19, .int 0, .int 0, .int (-1), .int (-1)])), (q21, .inr (6, [.null, .null, .null, .null, .null, .int 0]))] := hD
  refine W.widen (k := 25) (n := 1346) (by decide) (by decide) ?_
  refine lv_dup hx hb d_V_init_34 rfl ?_
  refine lv_aload_n hx hb d_V_init_35 rfl (lv_at hl 0 rfl) ?_
  refine va_get (D := (dC, dI)) (ci := 0) (v := .ref q1) (C := R_V) (T := F_V) (N := 4) hx hb hts u_V hown hK hP 0 rfl rfl 0 (by decide) (hts _ k_81) (fun _ h9 => h9) rfl d_V_init_36 ?_
  have hPc := hP.sub (ws' := [(q21, .inr (6, [.null, .null, .null, .null, .null, .int 0]))]) [5] rfl
  have hDc := hD.sub (ws' := [(q21, .inr (6, [.null, .null, .null, .null, .null, .int 0]))]) [5] (by decide) rfl
  have hKc := hK.sub (tys' := []) [] rfl
  have hFc := va_free (wc := [(q21, .inr (6, [.null, .null, .null, .null, .null, .int 0]))]) hD hS hA [5] rfl
  refine va_callv (va_runI (As := [.ref q1]) (rest := [.ref q21, .ref h]) ⟨hx, hb, hml, hown, hts⟩ (c_T_init l htr dC dI q21 q1 H.size) (vq_cI WSk hts 1 rfl rfl ⟨by decide, by decide⟩ k_58 k_90 k_91 k_92 rfl (by decide +kernel)) ⟨vq_blind, vq_here hst hS hN hPc hKc hDc⟩ rfl rfl hl.1 rfl (lv_room (Nat.le_of_ble_eq_true rfl)) d_V_init_39 ⟨by decide, by decide⟩) hS (fun q _ h => hFc q h) hFc (fun u t H1 locs ht hvm hw hB hz1 hk1 hS => ?_)
  obtain ⟨q22, q23, q24, q25, hP1, hK1, hD1⟩ := hB
  rw [ht] at hP1
  have hK1 := va_K.moved hvm.symm hK1
  obtain ⟨hP, hD⟩ := va_join (wr := [(h, .inr (0, [.ref q1, .ref q16, .null, .null])), (q1, .inr (1, [.ref q2, .ref q3, .int 0, .ref q4, .ref q5, .ref q6, .ref q7, .int 0, .ref q8, .ref q9, .ref q10, .ref q11, .ref q12])), (q2, .inl (c13, 6, .inl ((fun _ => 0)))), (q3, .inl (c14, 6, .inl ((fun _ => 0)))), (q16, .inr (2, [.ref q1, .ref q17, .ref q18, .ref q19, .int 0, .int 0, .int (-1), .int (-1)]))]) (w1 := [(q21, .inr (6, [.ref q1, .ref q22, .ref q23, .ref q24, .ref q25, .int 0]))]) hP hD [5] [0, 1, 2, 3, 4] rfl rfl (by decide) (by decide) hk1 hFc hP1 hD1
  have hK := (hK.sub (tys' := [(c13, .int), (c14, .int)]) [0, 1] rfl).app hK1
  generalize H1 = H at hP hS ⊢
  have hP : va_P (dC, dI) CL [(h, .inr (0, [.ref q1, .ref q16, .null, .null])), (q1, .inr (1, [.ref q2, .ref q3, .int 0, .ref q4, .ref q5, .ref q6, .ref q7, .int 0, .ref q8, .ref q9, .ref q10, .ref q11, .ref q12])), (q2, .inl (c13, 6, .inl ((fun _ => 0)))), (q3, .inl (c14, 6, .inl ((fun _ => 0)))), (q16, .inr (2, [.ref q1, .ref q17, .ref q18, .ref q19, .int 0, .int 0, .int (-1), .int (-1)])), (q21, .inr (6, [.ref q1, .ref q22, .ref q23, .ref q24, .ref q25, .int 0]))] H := hP
  have hD : va_D A [(h, .inr (0, [.ref q1, .ref q16, .null, .null])), (q1, .inr (1, [.ref q2, .ref q3, .int 0, .ref q4, .ref q5, .ref q6, .ref q7, .int 0, .ref q8, .ref q9, .ref q10, .ref q11, .ref q12])), (q2, .inl (c13, 6, .inl ((fun _ => 0)))), (q3, .inl (c14, 6, .inl ((fun _ => 0)))), (q16, .inr (2, [.ref q1, .ref q17, .ref q18, .ref q19, .int 0, .int 0, .int (-1), .int (-1)])), (q21, .inr (6, [.ref q1, .ref q22, .ref q23, .ref q24, .ref q25, .int 0]))] := hD
  have hK : va_K (dC, dI) CL [(c13, .int), (c14, .int)] s := hK
  refine W.widen (k := 29) (n := 1626) (by decide) (by decide) ?_
  refine va_putF (D := (dC, dI)) (ci := 0) (v := .ref q21) (ty := .object "VisitGrammar$Tree") (C := R_V) (T := F_V) (N := 4) hx hb hts u_V t_V t_V_ok n_V hown hK hP hD hS 0 rfl rfl 2 (by decide) (hts _ k_93) (fun _ h9 => h9) rfl hin rfl (by decide +kernel) rfl rfl (Nat.le_of_ble_eq_true rfl) d_V_init_42 (fun H locs hP hD hS => ?_)
  have hP : va_P (dC, dI) CL [(h, .inr (0, [.ref q1, .ref q16, .ref q21, .null])), (q1, .inr (1, [.ref q2, .ref q3, .int 0, .ref q4, .ref q5, .ref q6, .ref q7, .int 0, .ref q8, .ref q9, .ref q10, .ref q11, .ref q12])), (q2, .inl (c13, 6, .inl ((fun _ => 0)))), (q3, .inl (c14, 6, .inl ((fun _ => 0)))), (q16, .inr (2, [.ref q1, .ref q17, .ref q18, .ref q19, .int 0, .int 0, .int (-1), .int (-1)])), (q21, .inr (6, [.ref q1, .ref q22, .ref q23, .ref q24, .ref q25, .int 0]))] H := hP
  have hD : va_D A [(h, .inr (0, [.ref q1, .ref q16, .ref q21, .null])), (q1, .inr (1, [.ref q2, .ref q3, .int 0, .ref q4, .ref q5, .ref q6, .ref q7, .int 0, .ref q8, .ref q9, .ref q10, .ref q11, .ref q12])), (q2, .inl (c13, 6, .inl ((fun _ => 0)))), (q3, .inl (c14, 6, .inl ((fun _ => 0)))), (q16, .inr (2, [.ref q1, .ref q17, .ref q18, .ref q19, .int 0, .int 0, .int (-1), .int (-1)])), (q21, .inr (6, [.ref q1, .ref q22, .ref q23, .ref q24, .ref q25, .int 0]))] := hD
  refine lv_aload_n hx hb d_V_init_45 rfl (lv_at hl 0 rfl) ?_
  refine va_new (ci := 7) (fs := [.null, .null, .null, .null, .null, .null, .null, .int 0, .int 0, .int 0]) (C := R_U) (T := F_U) (N := 10) hx hb hts u_U t_U t_U_ok hown (hts _ k_94) (hts _ k_95) (hts _ k_96) hK hP hD hS hA rfl z_U (Nat.le_of_ble_eq_true rfl) (Nat.le_of_ble_eq_true rfl) d_V_init_46 (fun q27 H hP hD hS => ?_)
  have hP : va_P (dC, dI) CL [(h, .inr (0, [.ref q1, .ref q16, .ref q21, .null])), (q1, .inr (1, [.ref q2, .ref q3, .int 0, .ref q4, .ref q5, .ref q6, .ref q7, .int 0, .ref q8, .ref q9, .ref q10, .ref q11, .ref q12])), (q2, .inl (c13, 6, .inl ((fun _ => 0)))), (q3, .inl (c14, 6, .inl ((fun _ => 0)))), (q16, .inr (2, [.ref q1, .ref q17, .ref q18, .ref q19, .int 0, .int 0, .int (-1), .int (-1)])), (q21, .inr (6, [.ref q1, .ref q22, .ref q23, .ref q24, .ref q25, .int 0])), (q27, .inr (7, [.null, .null, .null, .null, .null, .null, .null, .int 0, .int 0, .int 0]))] H := hP
  have hD : va_D A [(h, .inr (0, [.ref q1, .ref q16, .ref q21, .null])), (q1, .inr (1, [.ref q2, .ref q3, .int 0, .ref q4, .ref q5, .ref q6, .ref q7, .int 0, .ref q8, .ref q9, .ref q10, .ref q11, .ref q12])), (q2, .inl (c13, 6, .inl ((fun _ => 0)))), (q3, .inl (c14, 6, .inl ((fun _ => 0)))), (q16, .inr (2, [.ref q1, .ref q17, .ref q18, .ref q19, .int 0, .int 0, .int (-1), .int (-1)])), (q21, .inr (6, [.ref q1, .ref q22, .ref q23, .ref q24, .ref q25, .int 0])), (q27, .inr (7, [.null, .null, .null, .null, .null, .null, .null, .int 0, .int 0, .int 0]))] := hD
  refine W.widen (k := 30) (n := 1636) (by decide) (by decide) ?_
  refine lv_dup hx hb d_V_init_49 rfl ?_
  refine lv_aload_n hx hb d_V_init_50 rfl (lv_at hl 0 rfl) ?_
  refine va_get (D := (dC, dI)) (ci := 0) (v := .ref q1) (C := R_V) (T := F_V) (N := 4) hx hb hts u_V hown hK hP 0 rfl rfl 0 (by decide) (hts _ k_81) (fun _ h9 => h9) rfl d_V_init_51 ?_
  refine lv_aload_n hx hb d_V_init_54 rfl (lv_at hl 0 rfl) ?_
  refine va_get (D := (dC, dI)) (ci := 0) (v := .ref q16) (C := R_V) (T := F_V) (N := 4) hx hb hts u_V hown hK hP 0 rfl rfl 1 (by decide) (hts _ k_87) (fun _ h9 => h9) rfl d_V_init_55 ?_
  refine va_getN (D := (dC, dI)) (ci := 2) (v := .ref q19) (C := R_A) (T := F_A) (N := 8) hx hb hts u_A hown hK hP 4 rfl rfl 3 (by decide) (hts _ k_97) (fun _ h9 => h9) rfl d_V_init_58 ?_
  refine lv_aload_n hx hb d_V_init_61 rfl (lv_at hl 0 rfl) ?_
  refine va_get (D := (dC, dI)) (ci := 0) (v := .ref q21) (C := R_V) (T := F_V) (N := 4) hx hb hts u_V hown hK hP 0 rfl rfl 2 (by decide) (hts _ k_93) (fun _ h9 => h9) rfl d_V_init_62 ?_
  have hPc := hP.sub (ws' := [(q27, .inr (7, [.null, .null, .null, .null, .null, .null, .null, .int 0, .int 0, .int 0]))]) [6] rfl
  have hDc := hD.sub (ws' := [(q27, .inr (7, [.null, .null, .null, .null, .null, .null, .null, .int 0, .int 0, .int 0]))]) [6] (by decide) rfl
  have hKc := hK.sub (tys' := []) [] rfl
  have hFc := va_free (wc := [(q27, .inr (7, [.null, .null, .null, .null, .null, .null, .null, .int 0, .int 0, .int 0]))]) hD hS hA [6] rfl
  refine va_callv (va_runI (As := [.ref q1, .ref q19, .ref q21]) (rest := [.ref q27, .ref h]) ⟨hx, hb, hml, hown, hts⟩ (c_U_init l htr dC dI q27 q1 q19 q21 H.size) (vq_cI WSk hts 3 rfl rfl ⟨by decide, by decide⟩ k_65 k_96 k_98 k_99 rfl (by decide +kernel)) ⟨vq_blind, vq_here hst hS hN hPc hKc hDc⟩ rfl rfl hl.1 rfl (lv_room (Nat.le_of_ble_eq_true rfl)) d_V_init_65 ⟨by decide, by decide⟩) hS (fun q _ h => hFc q h) hFc (fun u t H1 locs ht hvm hw hB hz1 hk1 hS => ?_)
  obtain ⟨q28, q29, q30, q31, c32, hP1, hK1, hD1⟩ := hB
  rw [ht] at hP1
  have hK1 := va_K.moved hvm.symm hK1
  obtain ⟨hP, hD⟩ := va_join (wr := [(h, .inr (0, [.ref q1, .ref q16, .ref q21, .null])), (q1, .inr (1, [.ref q2, .ref q3, .int 0, .ref q4, .ref q5, .ref q6, .ref q7, .int 0, .ref q8, .ref q9, .ref q10, .ref q11, .ref q12])), (q2, .inl (c13, 6, .inl ((fun _ => 0)))), (q3, .inl (c14, 6, .inl ((fun _ => 0)))), (q16, .inr (2, [.ref q1, .ref q17, .ref q18, .ref q19, .int 0, .int 0, .int (-1), .int (-1)])), (q21, .inr (6, [.ref q1, .ref q22, .ref q23, .ref q24, .ref q25, .int 0]))]) (w1 := [(q27, .inr (7, [.ref q1, .ref q19, .ref q21, .ref q28, .ref q29, .ref q30, .ref q31, .int 0, .int 0, .int 0])), (q28, .inl (c32, 4, .inl ((fun _ => 0))))]) hP hD [6] [0, 1, 2, 3, 4, 5] rfl rfl (by decide) (by decide) hk1 hFc hP1 hD1
  have hK := (hK.sub (tys' := [(c13, .int), (c14, .int)]) [0, 1] rfl).app hK1
  generalize H1 = H at hP hS ⊢
  have hP : va_P (dC, dI) CL [(h, .inr (0, [.ref q1, .ref q16, .ref q21, .null])), (q1, .inr (1, [.ref q2, .ref q3, .int 0, .ref q4, .ref q5, .ref q6, .ref q7, .int 0, .ref q8, .ref q9, .ref q10, .ref q11, .ref q12])), (q2, .inl (c13, 6, .inl ((fun _ => 0)))), (q3, .inl (c14, 6, .inl ((fun _ => 0)))), (q16, .inr (2, [.ref q1, .ref q17, .ref q18, .ref q19, .int 0, .int 0, .int (-1), .int (-1)])), (q21, .inr (6, [.ref q1, .ref q22, .ref q23, .ref q24, .ref q25, .int 0])), (q27, .inr (7, [.ref q1, .ref q19, .ref q21, .ref q28, .ref q29, .ref q30, .ref q31, .int 0, .int 0, .int 0])), (q28, .inl (c32, 4, .inl ((fun _ => 0))))] H := hP
  have hD : va_D A [(h, .inr (0, [.ref q1, .ref q16, .ref q21, .null])), (q1, .inr (1, [.ref q2, .ref q3, .int 0, .ref q4, .ref q5, .ref q6, .ref q7, .int 0, .ref q8, .ref q9, .ref q10, .ref q11, .ref q12])), (q2, .inl (c13, 6, .inl ((fun _ => 0)))), (q3, .inl (c14, 6, .inl ((fun _ => 0)))), (q16, .inr (2, [.ref q1, .ref q17, .ref q18, .ref q19, .int 0, .int 0, .int (-1), .int (-1)])), (q21, .inr (6, [.ref q1, .ref q22, .ref q23, .ref q24, .ref q25, .int 0])), (q27, .inr (7, [.ref q1, .ref q19, .ref q21, .ref q28, .ref q29, .ref q30, .ref q31, .int 0, .int 0, .int 0])), (q28, .inl (c32, 4, .inl ((fun _ => 0))))] := hD
  have hK : va_K (dC, dI) CL [(c13, .int), (c14, .int), (c32, .int)] s := hK
  refine W.widen (k := 34) (n := 1880) (by decide) (by decide) ?_
  refine va_putF (D := (dC, dI)) (ci := 0) (v := .ref q27) (ty := .object "VisitGrammar$Walk") (C := R_V) (T := F_V) (N := 4) hx hb hts u_V t_V t_V_ok n_V hown hK hP hD hS 0 rfl rfl 3 (by decide) (hts _ k_100) (fun _ h9 => h9) rfl hin rfl (by decide +kernel) rfl rfl (Nat.le_of_ble_eq_true rfl) d_V_init_68 (fun H locs hP hD hS => ?_)
  have hP : va_P (dC, dI) CL [(h, .inr (0, [.ref q1, .ref q16, .ref q21, .ref q27])), (q1, .inr (1, [.ref q2, .ref q3, .int 0, .ref q4, .ref q5, .ref q6, .ref q7, .int 0, .ref q8, .ref q9, .ref q10, .ref q11, .ref q12])), (q2, .inl (c13, 6, .inl ((fun _ => 0)))), (q3, .inl (c14, 6, .inl ((fun _ => 0)))), (q16, .inr (2, [.ref q1, .ref q17, .ref q18, .ref q19, .int 0, .int 0, .int (-1), .int (-1)])), (q21, .inr (6, [.ref q1, .ref q22, .ref q23, .ref q24, .ref q25, .int 0])), (q27, .inr (7, [.ref q1, .ref q19, .ref q21, .ref q28, .ref q29, .ref q30, .ref q31, .int 0, .int 0, .int 0])), (q28, .inl (c32, 4, .inl ((fun _ => 0))))] H := hP
  have hD : va_D A [(h, .inr (0, [.ref q1, .ref q16, .ref q21, .ref q27])), (q1, .inr (1, [.ref q2, .ref q3, .int 0, .ref q4, .ref q5, .ref q6, .ref q7, .int 0, .ref q8, .ref q9, .ref q10, .ref q11, .ref q12])), (q2, .inl (c13, 6, .inl ((fun _ => 0)))), (q3, .inl (c14, 6, .inl ((fun _ => 0)))), (q16, .inr (2, [.ref q1, .ref q17, .ref q18, .ref q19, .int 0, .int 0, .int (-1), .int (-1)])), (q21, .inr (6, [.ref q1, .ref q22, .ref q23, .ref q24, .ref q25, .int 0])), (q27, .inr (7, [.ref q1, .ref q19, .ref q21, .ref q28, .ref q29, .ref q30, .ref q31, .int 0, .int 0, .int 0])), (q28, .inl (c32, 4, .inl ((fun _ => 0))))] := hD
  have hP9 := hP.sub (ws' := [(h, .inr (0, [.ref q1, .ref q16, .ref q21, .ref q27])), (q1, .inr (1, [.ref q2, .ref q3, .int 0, .ref q4, .ref q5, .ref q6, .ref q7, .int 0, .ref q8, .ref q9, .ref q10, .ref q11, .ref q12])), (q2, .inl (c13, 6, .inl ((fun _ => 0)))), (q3, .inl (c14, 6, .inl ((fun _ => 0)))), (q16, .inr (2, [.ref q1, .ref q17, .ref q18, .ref q19, .int 0, .int 0, .int (-1), .int (-1)])), (q21, .inr (6, [.ref q1, .ref q22, .ref q23, .ref q24, .ref q25, .int 0])), (q27, .inr (7, [.ref q1, .ref q19, .ref q21, .ref q28, .ref q29, .ref q30, .ref q31, .int 0, .int 0, .int 0])), (q28, .inl (c32, 4, .inl ((fun _ => 0))))]) [0, 1, 2, 3, 4, 5, 6, 7] rfl
  have hD9 := hD.sub (ws' := [(h, .inr (0, [.ref q1, .ref q16, .ref q21, .ref q27])), (q1, .inr (1, [.ref q2, .ref q3, .int 0, .ref q4, .ref q5, .ref q6, .ref q7, .int 0, .ref q8, .ref q9, .ref q10, .ref q11, .ref q12])), (q2, .inl (c13, 6, .inl ((fun _ => 0)))), (q3, .inl (c14, 6, .inl ((fun _ => 0)))), (q16, .inr (2, [.ref q1, .ref q17, .ref q18, .ref q19, .int 0, .int 0, .int (-1), .int (-1)])), (q21, .inr (6, [.ref q1, .ref q22, .ref q23, .ref q24, .ref q25, .int 0])), (q27, .inr (7, [.ref q1, .ref q19, .ref q21, .ref q28, .ref q29, .ref q30, .ref q31, .int 0, .int 0, .int 0])), (q28, .inl (c32, 4, .inl ((fun _ => 0))))]) [0, 1, 2, 3, 4, 5, 6, 7] (by decide) rfl
  have hK9 := hK.sub (tys' := [(c13, .int), (c14, .int), (c32, .int)]) [0, 1, 2] rfl
  refine W.widen (k := 34) (n := 1880) (by decide) (by decide) ?_
  exact W.vret hx hb hr (fun t ht hW => ⟨⟨(), rfl, trivial, q1, q16, q21, q27, q2, q3, q4, q5, q6, q7, q8, q9, q10, q11, q12, c13, c14, q17, q18, q19, q22, q23, q24, q25, q28, q29, q30, q31, c32, by rw [ht]; exact hP9, va_K.moved hW.alike hK9, hD9⟩, hS.F ht⟩) hS.2.2 d_V_init_71
end
section
set_option maxHeartbeats 4000000 in
set_option maxRecDepth 100000 in
theorem c_U_end (l : Launch) (htr : l.stackTraces = false) (dC : Nat → ClassId) (dI : Nat → Nat → Nat) (w : Nat) (g : Nat) (an_sequences : Nat) (tr : Nat) (w_given : Nat) (w_values : Nat) (w_knownBits : Nat) (w_instructionsDone : Nat) (st0 : Int32) (sz : Nat) : Met l y_U_end WS ({ frames := 0, cells := 0, slots := 0, locals := 0 }) (va_Pc [.ref w] (vq_Pre (dC, dI) CL sz [(w, .inr (7, [.ref g, .ref an_sequences, .ref tr, .ref w_given, .ref w_values, .ref w_knownBits, .ref w_instructionsDone, .int st0, .int 0, .int 0]))] [])) (va_Qv (fun _ : Unit => True) (fun _ t => vq_Post (dC, dI) CL (va_A [(w, .inr (7, [.ref g, .ref an_sequences, .ref tr, .ref w_given, .ref w_values, .ref w_knownBits, .ref w_instructionsDone, .int st0, .int 0, .int 0]))] sz) [(w, .inr (7, [.ref g, .ref an_sequences, .ref tr, .ref w_given, .ref w_values, .ref w_knownBits, .ref w_instructionsDone, .int 0, .int 0, .int 0]))] [] t) (va_A [(w, .inr (7, [.ref g, .ref an_sequences, .ref tr, .ref w_given, .ref w_values, .ref w_knownBits, .ref w_instructionsDone, .int st0, .int 0, .int 0]))] sz)) 0 0 (va_A [(w, .inr (7, [.ref g, .ref an_sequences, .ref tr, .ref w_given, .ref w_values, .ref w_knownBits, .ref w_instructionsDone, .int st0, .int 0, .int 0]))] sz) := by
  refine vq_ofW (cc := prog_8_method_3_code) (maxL := 1) (ret := (Option.none : Option Jvm.ClassFile.FieldType)) (by decide) (vq_his k_101) ?_
  intro p e s m args below meth c s₁ B hml hv
  obtain ⟨rfl, hst, hsz, hP, hK, hD0⟩ := hv
  have hx := B.exec
  have hb := B.bytes
  have hr := B.returns
  have hts := atoms_spec (ws := WS) B.pre
  have hown : s.vm.findClass R_U = some m.cls := findClass_of_methodNamed B.named
  have hlocks := B.notSynchronized
  have hno := vq_noH B (hts _ k_101)
  subst hsz
  have hN := vq_ns hP
  have hD := hD0.self (sz := s.heap.size)
  generalize hAe : va_A [(w, .inr (7, [.ref g, .ref an_sequences, .ref tr, .ref w_given, .ref w_values, .ref w_knownBits, .ref w_instructionsDone, .int st0, .int 0, .int 0]))] s.heap.size = A at hD hN ⊢
  have hA : ∀ q : Nat, s.heap.size ≤ q → A q := fun q h => by rw [← hAe]; exact Or.inr h
  have hS : va_S A s.heap s.heap [] := va_S.rf
  have hP : va_P (dC, dI) CL [(w, .inr (7, [.ref g, .ref an_sequences, .ref tr, .ref w_given, .ref w_values, .ref w_knownBits, .ref w_instructionsDone, .int st0, .int 0, .int 0]))] s.heap := hP
  have hD : va_D A [(w, .inr (7, [.ref g, .ref an_sequences, .ref tr, .ref w_given, .ref w_values, .ref w_knownBits, .ref w_instructionsDone, .int st0, .int 0, .int 0]))] := hD
  have hl := lv_entry ([.ref w]) (n := 1) (Nat.le_of_ble_eq_true rfl)
  rw [lg_entry_eq]
  generalize (lg_sl ([.ref w]) ++ List.replicate (1 - (lg_sl ([.ref w])).length) Slot.unset).toArray = ls at hl ⊢
  have hl : lv_has ls 1 [(0, .ref w)] := hl
  refine lv_aload_n hx hb d_U_end_0 rfl (lv_at hl 0 rfl) ?_
  refine lv_iconst (v := 0) hx hb d_U_end_1 (by decide) ?_
  refine va_put (D := (dC, dI)) (ci := 7) (v := .int 0) (ty := .int) (C := R_U) (T := F_U) (N := 10) hx hb hts u_U t_U t_U_ok n_U hown hK hP hD hS 0 rfl rfl 7 (by decide) (hts _ k_102) (fun _ h9 => h9) rfl (by decide +kernel) rfl rfl (Nat.le_of_ble_eq_true rfl) d_U_end_2 (fun H locs hP hD hS => ?_)
  have hP : va_P (dC, dI) CL [(w, .inr (7, [.ref g, .ref an_sequences, .ref tr, .ref w_given, .ref w_values, .ref w_knownBits, .ref w_instructionsDone, .int 0, .int 0, .int 0]))] H := hP
  have hD : va_D A [(w, .inr (7, [.ref g, .ref an_sequences, .ref tr, .ref w_given, .ref w_values, .ref w_knownBits, .ref w_instructionsDone, .int 0, .int 0, .int 0]))] := hD
  have hP9 := hP.sub (ws' := [(w, .inr (7, [.ref g, .ref an_sequences, .ref tr, .ref w_given, .ref w_values, .ref w_knownBits, .ref w_instructionsDone, .int 0, .int 0, .int 0]))]) [0] rfl
  have hD9 := hD.sub (ws' := [(w, .inr (7, [.ref g, .ref an_sequences, .ref tr, .ref w_given, .ref w_values, .ref w_knownBits, .ref w_instructionsDone, .int 0, .int 0, .int 0]))]) [0] (by decide) rfl
  have hK9 := hK.sub (tys' := []) [] rfl
  refine W.widen (k := 0) (n := 0) (by decide) (by decide) ?_
  exact W.vret hx hb hr (fun t ht hW => ⟨⟨(), rfl, trivial, by rw [ht]; exact hP9, va_K.moved hW.alike hK9, hD9⟩, hS.F ht⟩) hS.2.2 d_U_end_5

set_option maxHeartbeats 4000000 in
set_option maxRecDepth 100000 in
theorem c_V_drop (l : Launch) (htr : l.stackTraces = false) (dC : Nat → ClassId) (dI : Nat → Nat → Nat) (x : Nat) (g : Nat) (an : Nat) (tr : Nat) (w : Nat) (an_leads : Nat) (an_ranking : Nat) (an_sequences : Nat) (w_given : Nat) (w_values : Nat) (w_knownBits : Nat) (w_instructionsDone : Nat) (sz : Nat) : Met l y_V_dropAnalysis WS ({ frames := 1, cells := 0, slots := 0, locals := 20 }) (va_Pc [.ref x] (vq_Pre (dC, dI) CL sz [(x, .inr (0, [.ref g, .ref an, .ref tr, .ref w])), (an, .inr (2, [.ref g, .ref an_leads, .ref an_ranking, .ref an_sequences, .int 0, .int 0, .int (-1), .int (-1)])), (w, .inr (7, [.ref g, .ref an_sequences, .ref tr, .ref w_given, .ref w_values, .ref w_knownBits, .ref w_instructionsDone, .int 0, .int 0, .int 0]))] [])) (va_Qv (fun _ : Unit => True) (fun _ t => vq_Post (dC, dI) CL (va_A [(x, .inr (0, [.ref g, .ref an, .ref tr, .ref w])), (an, .inr (2, [.ref g, .ref an_leads, .ref an_ranking, .ref an_sequences, .int 0, .int 0, .int (-1), .int (-1)])), (w, .inr (7, [.ref g, .ref an_sequences, .ref tr, .ref w_given, .ref w_values, .ref w_knownBits, .ref w_instructionsDone, .int 0, .int 0, .int 0]))] sz) [(x, .inr (0, [.ref g, .ref an, .ref tr, .ref w])), (an, .inr (2, [.ref g, .ref an_leads, .ref an_ranking, .ref an_sequences, .int 0, .int 0, .int (-1), .int (-1)])), (w, .inr (7, [.ref g, .ref an_sequences, .ref tr, .ref w_given, .ref w_values, .ref w_knownBits, .ref w_instructionsDone, .int 0, .int 0, .int 0]))] [] t) (va_A [(x, .inr (0, [.ref g, .ref an, .ref tr, .ref w])), (an, .inr (2, [.ref g, .ref an_leads, .ref an_ranking, .ref an_sequences, .int 0, .int 0, .int (-1), .int (-1)])), (w, .inr (7, [.ref g, .ref an_sequences, .ref tr, .ref w_given, .ref w_values, .ref w_knownBits, .ref w_instructionsDone, .int 0, .int 0, .int 0]))] sz)) 0 0 (va_A [(x, .inr (0, [.ref g, .ref an, .ref tr, .ref w])), (an, .inr (2, [.ref g, .ref an_leads, .ref an_ranking, .ref an_sequences, .int 0, .int 0, .int (-1), .int (-1)])), (w, .inr (7, [.ref g, .ref an_sequences, .ref tr, .ref w_given, .ref w_values, .ref w_knownBits, .ref w_instructionsDone, .int 0, .int 0, .int 0]))] sz) := by
  refine vq_ofW (cc := prog_1_method_19_code) (maxL := 1) (ret := (Option.none : Option Jvm.ClassFile.FieldType)) (by decide) (vq_his k_103) ?_
  intro p e s m args below meth c s₁ B hml hv
  obtain ⟨rfl, hst, hsz, hP, hK, hD0⟩ := hv
  have hx := B.exec
  have hb := B.bytes
  have hr := B.returns
  have hts := atoms_spec (ws := WS) B.pre
  have hown : s.vm.findClass R_V = some m.cls := findClass_of_methodNamed B.named
  have hlocks := B.notSynchronized
  have hno := vq_noH B (hts _ k_103)
  subst hsz
  have hN := vq_ns hP
  have hD := hD0.self (sz := s.heap.size)
  generalize hAe : va_A [(x, .inr (0, [.ref g, .ref an, .ref tr, .ref w])), (an, .inr (2, [.ref g, .ref an_leads, .ref an_ranking, .ref an_sequences, .int 0, .int 0, .int (-1), .int (-1)])), (w, .inr (7, [.ref g, .ref an_sequences, .ref tr, .ref w_given, .ref w_values, .ref w_knownBits, .ref w_instructionsDone, .int 0, .int 0, .int 0]))] s.heap.size = A at hD hN ⊢
  have hA : ∀ q : Nat, s.heap.size ≤ q → A q := fun q h => by rw [← hAe]; exact Or.inr h
  have hS : va_S A s.heap s.heap [] := va_S.rf
  have hP : va_P (dC, dI) CL [(x, .inr (0, [.ref g, .ref an, .ref tr, .ref w])), (an, .inr (2, [.ref g, .ref an_leads, .ref an_ranking, .ref an_sequences, .int 0, .int 0, .int (-1), .int (-1)])), (w, .inr (7, [.ref g, .ref an_sequences, .ref tr, .ref w_given, .ref w_values, .ref w_knownBits, .ref w_instructionsDone, .int 0, .int 0, .int 0]))] s.heap := hP
  have hD : va_D A [(x, .inr (0, [.ref g, .ref an, .ref tr, .ref w])), (an, .inr (2, [.ref g, .ref an_leads, .ref an_ranking, .ref an_sequences, .int 0, .int 0, .int (-1), .int (-1)])), (w, .inr (7, [.ref g, .ref an_sequences, .ref tr, .ref w_given, .ref w_values, .ref w_knownBits, .ref w_instructionsDone, .int 0, .int 0, .int 0]))] := hD
  have hl := lv_entry ([.ref x]) (n := 1) (Nat.le_of_ble_eq_true rfl)
  rw [lg_entry_eq]
  generalize (lg_sl ([.ref x]) ++ List.replicate (1 - (lg_sl ([.ref x])).length) Slot.unset).toArray = ls at hl ⊢
  have hl : lv_has ls 1 [(0, .ref x)] := hl
  refine lv_aload_n hx hb d_V_dropAnalysis_0 rfl (lv_at hl 0 rfl) ?_
  refine va_get (D := (dC, dI)) (ci := 0) (v := .ref an) (C := R_V) (T := F_V) (N := 4) hx hb hts u_V hown hK hP 0 rfl rfl 1 (by decide) (hts _ k_87) (fun _ h9 => h9) rfl d_V_dropAnalysis_1 ?_
  refine lv_iconst (v := 0) hx hb d_V_dropAnalysis_4 (by decide) ?_
  refine va_putN (D := (dC, dI)) (ci := 2) (v := .int 0) (ty := .boolean) (C := R_A) (T := F_A) (N := 8) hx hb hts u_A t_A t_A_ok n_A hown hK hP hD hS 1 rfl rfl 4 (by decide) (hts _ k_104) (fun _ h9 => h9) rfl (by decide +kernel) rfl rfl (Nat.le_of_ble_eq_true rfl) d_V_dropAnalysis_5 (fun H locs hP hD hS => ?_)
  have hP : va_P (dC, dI) CL [(x, .inr (0, [.ref g, .ref an, .ref tr, .ref w])), (an, .inr (2, [.ref g, .ref an_leads, .ref an_ranking, .ref an_sequences, .int 0, .int 0, .int (-1), .int (-1)])), (w, .inr (7, [.ref g, .ref an_sequences, .ref tr, .ref w_given, .ref w_values, .ref w_knownBits, .ref w_instructionsDone, .int 0, .int 0, .int 0]))] H := hP
  have hD : va_D A [(x, .inr (0, [.ref g, .ref an, .ref tr, .ref w])), (an, .inr (2, [.ref g, .ref an_leads, .ref an_ranking, .ref an_sequences, .int 0, .int 0, .int (-1), .int (-1)])), (w, .inr (7, [.ref g, .ref an_sequences, .ref tr, .ref w_given, .ref w_values, .ref w_knownBits, .ref w_instructionsDone, .int 0, .int 0, .int 0]))] := hD
  refine lv_aload_n hx hb d_V_dropAnalysis_8 rfl (lv_at hl 0 rfl) ?_
  refine va_get (D := (dC, dI)) (ci := 0) (v := .ref w) (C := R_V) (T := F_V) (N := 4) hx hb hts u_V hown hK hP 0 rfl rfl 3 (by decide) (hts _ k_100) (fun _ h9 => h9) rfl d_V_dropAnalysis_9 ?_
  have hPc := hP.sub (ws' := [(w, .inr (7, [.ref g, .ref an_sequences, .ref tr, .ref w_given, .ref w_values, .ref w_knownBits, .ref w_instructionsDone, .int 0, .int 0, .int 0]))]) [2] rfl
  have hDc := hD.sub (ws' := [(w, .inr (7, [.ref g, .ref an_sequences, .ref tr, .ref w_given, .ref w_values, .ref w_knownBits, .ref w_instructionsDone, .int 0, .int 0, .int 0]))]) [2] (by decide) rfl
  have hKc := hK.sub (tys' := []) [] rfl
  have hFc := va_free (wc := [(w, .inr (7, [.ref g, .ref an_sequences, .ref tr, .ref w_given, .ref w_values, .ref w_knownBits, .ref w_instructionsDone, .int 0, .int 0, .int 0]))]) hD hS hA [2] rfl
  refine va_callv (va_runV (As := []) (rest := []) ⟨hx, hb, hml, hown, hts⟩ (c_U_end l htr dC dI w g an_sequences tr w_given w_values w_knownBits w_instructionsDone 0 H.size) (vq_cV WSk hts 0 rfl rfl ⟨by decide, by decide⟩ k_101 k_96 k_105 k_106 k_107 (by decide +kernel)) ⟨vq_blind, va_recv hK hP (ci := 7) (q0 := 2) rfl rfl, vq_here hst hS hN hPc hKc hDc⟩ rfl rfl hl.1 rfl (lv_room (Nat.le_of_ble_eq_true rfl)) d_V_dropAnalysis_12 ⟨by decide, by decide⟩) hS (fun q _ h => hFc q h) hFc (fun u t H1 locs ht hvm hw hB hz1 hk1 hS => ?_)
  obtain ⟨hP1, hK1, hD1⟩ := hB
  rw [ht] at hP1
  have hK1 := va_K.moved hvm.symm hK1
  obtain ⟨hP, hD⟩ := va_join (wr := [(x, .inr (0, [.ref g, .ref an, .ref tr, .ref w])), (an, .inr (2, [.ref g, .ref an_leads, .ref an_ranking, .ref an_sequences, .int 0, .int 0, .int (-1), .int (-1)]))]) (w1 := [(w, .inr (7, [.ref g, .ref an_sequences, .ref tr, .ref w_given, .ref w_values, .ref w_knownBits, .ref w_instructionsDone, .int 0, .int 0, .int 0]))]) hP hD [2] [0, 1] rfl rfl (by decide) (by decide) hk1 hFc hP1 hD1
  have hK := (hK.sub (tys' := []) [] rfl).app hK1
  generalize H1 = H at hP hS ⊢
  have hP : va_P (dC, dI) CL [(x, .inr (0, [.ref g, .ref an, .ref tr, .ref w])), (an, .inr (2, [.ref g, .ref an_leads, .ref an_ranking, .ref an_sequences, .int 0, .int 0, .int (-1), .int (-1)])), (w, .inr (7, [.ref g, .ref an_sequences, .ref tr, .ref w_given, .ref w_values, .ref w_knownBits, .ref w_instructionsDone, .int 0, .int 0, .int 0]))] H := hP
  have hD : va_D A [(x, .inr (0, [.ref g, .ref an, .ref tr, .ref w])), (an, .inr (2, [.ref g, .ref an_leads, .ref an_ranking, .ref an_sequences, .int 0, .int 0, .int (-1), .int (-1)])), (w, .inr (7, [.ref g, .ref an_sequences, .ref tr, .ref w_given, .ref w_values, .ref w_knownBits, .ref w_instructionsDone, .int 0, .int 0, .int 0]))] := hD
  have hK : va_K (dC, dI) CL [] s := hK
  refine W.widen (k := 0) (n := 0) (by decide) (by decide) ?_
  have hP9 := hP.sub (ws' := [(x, .inr (0, [.ref g, .ref an, .ref tr, .ref w])), (an, .inr (2, [.ref g, .ref an_leads, .ref an_ranking, .ref an_sequences, .int 0, .int 0, .int (-1), .int (-1)])), (w, .inr (7, [.ref g, .ref an_sequences, .ref tr, .ref w_given, .ref w_values, .ref w_knownBits, .ref w_instructionsDone, .int 0, .int 0, .int 0]))]) [0, 1, 2] rfl
  have hD9 := hD.sub (ws' := [(x, .inr (0, [.ref g, .ref an, .ref tr, .ref w])), (an, .inr (2, [.ref g, .ref an_leads, .ref an_ranking, .ref an_sequences, .int 0, .int 0, .int (-1), .int (-1)])), (w, .inr (7, [.ref g, .ref an_sequences, .ref tr, .ref w_given, .ref w_values, .ref w_knownBits, .ref w_instructionsDone, .int 0, .int 0, .int 0]))]) [0, 1, 2] (by decide) rfl
  have hK9 := hK.sub (tys' := []) [] rfl
  refine W.widen (k := 0) (n := 0) (by decide) (by decide) ?_
  exact W.vret hx hb hr (fun t ht hW => ⟨⟨(), rfl, trivial, by rw [ht]; exact hP9, va_K.moved hW.alike hK9, hD9⟩, hS.F ht⟩) hS.2.2 d_V_dropAnalysis_15

set_option maxHeartbeats 4000000 in
set_option maxRecDepth 100000 in
theorem t_V_reqA (l : Launch) (htr : l.stackTraces = false) (dC : Nat → ClassId) (dI : Nat → Nat → Nat) (x : Nat) (g : Nat) (an : Nat) (tr : Nat) (w : Nat) (an_leads : Nat) (an_ranking : Nat) (an_sequences : Nat) (sz : Nat) : vq_T l y_V_requireAnalysis WS ({ frames := 6, cells := 1, slots := 6, locals := 82 }) (va_Pc [.ref x] (vq_Pre (dC, dI) CL sz [(x, .inr (0, [.ref g, .ref an, .ref tr, .ref w])), (an, .inr (2, [.ref g, .ref an_leads, .ref an_ranking, .ref an_sequences, .int 0, .int 0, .int (-1), .int (-1)]))] [])) "java/lang/IllegalStateException" (va_A [(x, .inr (0, [.ref g, .ref an, .ref tr, .ref w])), (an, .inr (2, [.ref g, .ref an_leads, .ref an_ranking, .ref an_sequences, .int 0, .int 0, .int (-1), .int (-1)]))] sz) 1 6 := by
  refine vq_ofT (cc := prog_1_method_20_code) (maxL := 1) (ret := (Option.none : Option Jvm.ClassFile.FieldType)) (by decide) (vq_his k_108) ?_
  intro p e s m args below meth c s₁ B hml hv
  obtain ⟨rfl, hst, hsz, hP, hK, hD0⟩ := hv
  have hx := B.exec
  have hb := B.bytes
  have hr := B.returns
  have hts := atoms_spec (ws := WS) B.pre
  have hown : s.vm.findClass R_V = some m.cls := findClass_of_methodNamed B.named
  have hlocks := B.notSynchronized
  have hno := vq_noH B (hts _ k_108)
  subst hsz
  have hN := vq_ns hP
  have hD := hD0.self (sz := s.heap.size)
  generalize hAe : va_A [(x, .inr (0, [.ref g, .ref an, .ref tr, .ref w])), (an, .inr (2, [.ref g, .ref an_leads, .ref an_ranking, .ref an_sequences, .int 0, .int 0, .int (-1), .int (-1)]))] s.heap.size = A at hD hN ⊢
  have hA : ∀ q : Nat, s.heap.size ≤ q → A q := fun q h => by rw [← hAe]; exact Or.inr h
  have hS : va_S A s.heap s.heap [] := va_S.rf
  have hP : va_P (dC, dI) CL [(x, .inr (0, [.ref g, .ref an, .ref tr, .ref w])), (an, .inr (2, [.ref g, .ref an_leads, .ref an_ranking, .ref an_sequences, .int 0, .int 0, .int (-1), .int (-1)]))] s.heap := hP
  have hD : va_D A [(x, .inr (0, [.ref g, .ref an, .ref tr, .ref w])), (an, .inr (2, [.ref g, .ref an_leads, .ref an_ranking, .ref an_sequences, .int 0, .int 0, .int (-1), .int (-1)]))] := hD
  have hl := lv_entry ([.ref x]) (n := 1) (Nat.le_of_ble_eq_true rfl)
  rw [lg_entry_eq]
  generalize (lg_sl ([.ref x]) ++ List.replicate (1 - (lg_sl ([.ref x])).length) Slot.unset).toArray = ls at hl ⊢
  have hl : lv_has ls 1 [(0, .ref x)] := hl
  refine lv_aload_n hx hb d_V_requireAnalysis_0 rfl (lv_at hl 0 rfl) ?_
  refine va_get (D := (dC, dI)) (ci := 0) (v := .ref an) (C := R_V) (T := F_V) (N := 4) hx hb hts u_V hown hK hP 0 rfl rfl 1 (by decide) (hts _ k_87) (fun _ h9 => h9) rfl d_V_requireAnalysis_1 ?_
  refine va_getN (D := (dC, dI)) (ci := 2) (v := .int 0) (C := R_A) (T := F_A) (N := 8) hx hb hts u_A hown hK hP 1 rfl rfl 4 (by decide) (hts _ k_104) (fun _ h9 => h9) rfl d_V_requireAnalysis_4 ?_
  refine lv_if_ne (tgt := 20) hx hb d_V_requireAnalysis_7 (by decide) (fun h9 => absurd (by decide) h9) (fun _ => ?_)
  exact vq_throw (names := up_names) hx hb htr hown (by decide +kernel) (by decide +kernel) (at_V_IllegalStateException hts hst) (hts _ k_110) (hts _ k_111) (hts _ k_112) hS hA hN hno hlocks (by decide) (hl.1.trans hml.symm) d_V_requireAnalysis_10 d_V_requireAnalysis_13 d_V_requireAnalysis_14 d_V_requireAnalysis_16 d_V_requireAnalysis_19

set_option maxHeartbeats 4000000 in
set_option maxRecDepth 100000 in
theorem c_G_hasS (l : Launch) (htr : l.stackTraces = false) (dC : Nat → ClassId) (dI : Nat → Nat → Nat) (g : Nat) (k : Int32) (g_attributeCounts : Nat) (g_inheritedBits : Nat) (g_symbolsAt : Nat) (g_lastPositions : Nat) (g_presentBits : Nat) (g_toDefineBits : Nat) (g_ruledBits : Nat) (g_forms : Nat) (g_firsts : Nat) (g_seconds : Nat) (g_usedBits : Nat) (sz : Nat) : Met l y_G_hasSymbol WS ({ frames := 0, cells := 0, slots := 0, locals := 0 }) (va_Pc [.ref g, .int k] (vq_Pre (dC, dI) CL sz [(g, .inr (1, [.ref g_attributeCounts, .ref g_inheritedBits, .int 0, .ref g_symbolsAt, .ref g_lastPositions, .ref g_presentBits, .ref g_toDefineBits, .int 0, .ref g_ruledBits, .ref g_forms, .ref g_firsts, .ref g_seconds, .ref g_usedBits]))] [])) (va_Qi (fun (r : Int32) (_ : Unit) => r = 0) (fun _ t => vq_Post (dC, dI) CL (va_A [(g, .inr (1, [.ref g_attributeCounts, .ref g_inheritedBits, .int 0, .ref g_symbolsAt, .ref g_lastPositions, .ref g_presentBits, .ref g_toDefineBits, .int 0, .ref g_ruledBits, .ref g_forms, .ref g_firsts, .ref g_seconds, .ref g_usedBits]))] sz) [(g, .inr (1, [.ref g_attributeCounts, .ref g_inheritedBits, .int 0, .ref g_symbolsAt, .ref g_lastPositions, .ref g_presentBits, .ref g_toDefineBits, .int 0, .ref g_ruledBits, .ref g_forms, .ref g_firsts, .ref g_seconds, .ref g_usedBits]))] [] t) (va_A [(g, .inr (1, [.ref g_attributeCounts, .ref g_inheritedBits, .int 0, .ref g_symbolsAt, .ref g_lastPositions, .ref g_presentBits, .ref g_toDefineBits, .int 0, .ref g_ruledBits, .ref g_forms, .ref g_firsts, .ref g_seconds, .ref g_usedBits]))] sz)) 0 0 (va_A [(g, .inr (1, [.ref g_attributeCounts, .ref g_inheritedBits, .int 0, .ref g_symbolsAt, .ref g_lastPositions, .ref g_presentBits, .ref g_toDefineBits, .int 0, .ref g_ruledBits, .ref g_forms, .ref g_firsts, .ref g_seconds, .ref g_usedBits]))] sz) := by
  refine vq_ofW (cc := prog_3_method_2_code) (maxL := 2) (ret := (Option.some Jvm.ClassFile.FieldType.boolean)) (by decide) (vq_his k_113) ?_
  intro p e s m args below meth c s₁ B hml hv
  obtain ⟨rfl, hst, hsz, hP, hK, hD0⟩ := hv
  have hx := B.exec
  have hb := B.bytes
  have hr := B.returns
  have hts := atoms_spec (ws := WS) B.pre
  have hown : s.vm.findClass R_G = some m.cls := findClass_of_methodNamed B.named
  have hlocks := B.notSynchronized
  have hno := vq_noH B (hts _ k_113)
  subst hsz
  have hN := vq_ns hP
  have hD := hD0.self (sz := s.heap.size)
  generalize hAe : va_A [(g, .inr (1, [.ref g_attributeCounts, .ref g_inheritedBits, .int 0, .ref g_symbolsAt, .ref g_lastPositions, .ref g_presentBits, .ref g_toDefineBits, .int 0, .ref g_ruledBits, .ref g_forms, .ref g_firsts, .ref g_seconds, .ref g_usedBits]))] s.heap.size = A at hD hN ⊢
  have hA : ∀ q : Nat, s.heap.size ≤ q → A q := fun q h => by rw [← hAe]; exact Or.inr h
  have hS : va_S A s.heap s.heap [] := va_S.rf
  have hP : va_P (dC, dI) CL [(g, .inr (1, [.ref g_attributeCounts, .ref g_inheritedBits, .int 0, .ref g_symbolsAt, .ref g_lastPositions, .ref g_presentBits, .ref g_toDefineBits, .int 0, .ref g_ruledBits, .ref g_forms, .ref g_firsts, .ref g_seconds, .ref g_usedBits]))] s.heap := hP
  have hD : va_D A [(g, .inr (1, [.ref g_attributeCounts, .ref g_inheritedBits, .int 0, .ref g_symbolsAt, .ref g_lastPositions, .ref g_presentBits, .ref g_toDefineBits, .int 0, .ref g_ruledBits, .ref g_forms, .ref g_firsts, .ref g_seconds, .ref g_usedBits]))] := hD
  have hl := lv_entry ([.ref g, .int k]) (n := 2) (Nat.le_of_ble_eq_true rfl)
  rw [lg_entry_eq]
  generalize (lg_sl ([.ref g, .int k]) ++ List.replicate (2 - (lg_sl ([.ref g, .int k])).length) Slot.unset).toArray = ls at hl ⊢
  have hl : lv_has ls 2 [(0, .ref g), (1, .int k)] := hl
  refine lv_iload_n hx hb d_G_hasSymbol_0 rfl (lv_at hl 1 rfl) ?_
  refine lv_if_lt (tgt := 16) hx hb d_G_hasSymbol_1 (by decide) (fun hc1 => ?_) (fun hc1 => ?_)
  ·
    refine lv_iconst (v := 0) hx hb d_G_hasSymbol_16 (by decide) ?_
    have hP9 := hP.sub (ws' := [(g, .inr (1, [.ref g_attributeCounts, .ref g_inheritedBits, .int 0, .ref g_symbolsAt, .ref g_lastPositions, .ref g_presentBits, .ref g_toDefineBits, .int 0, .ref g_ruledBits, .ref g_forms, .ref g_firsts, .ref g_seconds, .ref g_usedBits]))]) [0] rfl
    have hD9 := hD.sub (ws' := [(g, .inr (1, [.ref g_attributeCounts, .ref g_inheritedBits, .int 0, .ref g_symbolsAt, .ref g_lastPositions, .ref g_presentBits, .ref g_toDefineBits, .int 0, .ref g_ruledBits, .ref g_forms, .ref g_firsts, .ref g_seconds, .ref g_usedBits]))]) [0] (by decide) rfl
    have hK9 := hK.sub (tys' := []) [] rfl
    refine W.widen (k := 0) (n := 0) (by decide) (by decide) ?_
    exact W.zret (v := 0) (ty := .boolean) hx hb hr (by decide) (fun t ht hW => ⟨⟨0, (), rfl, rfl, by rw [ht]; exact hP9, va_K.moved hW.alike hK9, hD9⟩, hS.F ht⟩) hS.2.2 d_G_hasSymbol_17
  ·
    refine lv_iload_n hx hb d_G_hasSymbol_4 rfl (lv_at hl 1 rfl) ?_
    refine lv_aload_n hx hb d_G_hasSymbol_5 rfl (lv_at hl 0 rfl) ?_
    refine va_get (D := (dC, dI)) (ci := 1) (v := .int 0) (C := R_G) (T := F_G) (N := 13) hx hb hts u_G hown hK hP 0 rfl rfl 2 (by decide) (hts _ k_114) (fun _ h9 => h9) rfl d_G_hasSymbol_6 ?_
    refine lv_icmp_ge (tgt := 16) hx hb d_G_hasSymbol_9 (by decide) (fun _ => ?_) (fun h9 => absurd (Int32.not_lt.mp hc1) h9)
    refine lv_iconst (v := 0) hx hb d_G_hasSymbol_16 (by decide) ?_
    have hP9 := hP.sub (ws' := [(g, .inr (1, [.ref g_attributeCounts, .ref g_inheritedBits, .int 0, .ref g_symbolsAt, .ref g_lastPositions, .ref g_presentBits, .ref g_toDefineBits, .int 0, .ref g_ruledBits, .ref g_forms, .ref g_firsts, .ref g_seconds, .ref g_usedBits]))]) [0] rfl
    have hD9 := hD.sub (ws' := [(g, .inr (1, [.ref g_attributeCounts, .ref g_inheritedBits, .int 0, .ref g_symbolsAt, .ref g_lastPositions, .ref g_presentBits, .ref g_toDefineBits, .int 0, .ref g_ruledBits, .ref g_forms, .ref g_firsts, .ref g_seconds, .ref g_usedBits]))]) [0] (by decide) rfl
    have hK9 := hK.sub (tys' := []) [] rfl
    refine W.widen (k := 0) (n := 0) (by decide) (by decide) ?_
    exact W.zret (v := 0) (ty := .boolean) hx hb hr (by decide) (fun t ht hW => ⟨⟨0, (), rfl, rfl, by rw [ht]; exact hP9, va_K.moved hW.alike hK9, hD9⟩, hS.F ht⟩) hS.2.2 d_G_hasSymbol_17

set_option maxHeartbeats 4000000 in
set_option maxRecDepth 100000 in
theorem c_G_hasP (l : Launch) (htr : l.stackTraces = false) (dC : Nat → ClassId) (dI : Nat → Nat → Nat) (g : Nat) (k : Int32) (g_attributeCounts : Nat) (g_inheritedBits : Nat) (g_symbolsAt : Nat) (g_lastPositions : Nat) (g_presentBits : Nat) (g_toDefineBits : Nat) (g_ruledBits : Nat) (g_forms : Nat) (g_firsts : Nat) (g_seconds : Nat) (g_usedBits : Nat) (sz : Nat) : Met l y_G_hasProduction WS ({ frames := 0, cells := 0, slots := 0, locals := 0 }) (va_Pc [.ref g, .int k] (vq_Pre (dC, dI) CL sz [(g, .inr (1, [.ref g_attributeCounts, .ref g_inheritedBits, .int 0, .ref g_symbolsAt, .ref g_lastPositions, .ref g_presentBits, .ref g_toDefineBits, .int 0, .ref g_ruledBits, .ref g_forms, .ref g_firsts, .ref g_seconds, .ref g_usedBits]))] [])) (va_Qi (fun (r : Int32) (_ : Unit) => r = 0) (fun _ t => vq_Post (dC, dI) CL (va_A [(g, .inr (1, [.ref g_attributeCounts, .ref g_inheritedBits, .int 0, .ref g_symbolsAt, .ref g_lastPositions, .ref g_presentBits, .ref g_toDefineBits, .int 0, .ref g_ruledBits, .ref g_forms, .ref g_firsts, .ref g_seconds, .ref g_usedBits]))] sz) [(g, .inr (1, [.ref g_attributeCounts, .ref g_inheritedBits, .int 0, .ref g_symbolsAt, .ref g_lastPositions, .ref g_presentBits, .ref g_toDefineBits, .int 0, .ref g_ruledBits, .ref g_forms, .ref g_firsts, .ref g_seconds, .ref g_usedBits]))] [] t) (va_A [(g, .inr (1, [.ref g_attributeCounts, .ref g_inheritedBits, .int 0, .ref g_symbolsAt, .ref g_lastPositions, .ref g_presentBits, .ref g_toDefineBits, .int 0, .ref g_ruledBits, .ref g_forms, .ref g_firsts, .ref g_seconds, .ref g_usedBits]))] sz)) 0 0 (va_A [(g, .inr (1, [.ref g_attributeCounts, .ref g_inheritedBits, .int 0, .ref g_symbolsAt, .ref g_lastPositions, .ref g_presentBits, .ref g_toDefineBits, .int 0, .ref g_ruledBits, .ref g_forms, .ref g_firsts, .ref g_seconds, .ref g_usedBits]))] sz) := by
  refine vq_ofW (cc := prog_3_method_4_code) (maxL := 2) (ret := (Option.some Jvm.ClassFile.FieldType.boolean)) (by decide) (vq_his k_115) ?_
  intro p e s m args below meth c s₁ B hml hv
  obtain ⟨rfl, hst, hsz, hP, hK, hD0⟩ := hv
  have hx := B.exec
  have hb := B.bytes
  have hr := B.returns
  have hts := atoms_spec (ws := WS) B.pre
  have hown : s.vm.findClass R_G = some m.cls := findClass_of_methodNamed B.named
  have hlocks := B.notSynchronized
  have hno := vq_noH B (hts _ k_115)
  subst hsz
  have hN := vq_ns hP
  have hD := hD0.self (sz := s.heap.size)
  generalize hAe : va_A [(g, .inr (1, [.ref g_attributeCounts, .ref g_inheritedBits, .int 0, .ref g_symbolsAt, .ref g_lastPositions, .ref g_presentBits, .ref g_toDefineBits, .int 0, .ref g_ruledBits, .ref g_forms, .ref g_firsts, .ref g_seconds, .ref g_usedBits]))] s.heap.size = A at hD hN ⊢
  have hA : ∀ q : Nat, s.heap.size ≤ q → A q := fun q h => by rw [← hAe]; exact Or.inr h
  have hS : va_S A s.heap s.heap [] := va_S.rf
  have hP : va_P (dC, dI) CL [(g, .inr (1, [.ref g_attributeCounts, .ref g_inheritedBits, .int 0, .ref g_symbolsAt, .ref g_lastPositions, .ref g_presentBits, .ref g_toDefineBits, .int 0, .ref g_ruledBits, .ref g_forms, .ref g_firsts, .ref g_seconds, .ref g_usedBits]))] s.heap := hP
  have hD : va_D A [(g, .inr (1, [.ref g_attributeCounts, .ref g_inheritedBits, .int 0, .ref g_symbolsAt, .ref g_lastPositions, .ref g_presentBits, .ref g_toDefineBits, .int 0, .ref g_ruledBits, .ref g_forms, .ref g_firsts, .ref g_seconds, .ref g_usedBits]))] := hD
  have hl := lv_entry ([.ref g, .int k]) (n := 2) (Nat.le_of_ble_eq_true rfl)
  rw [lg_entry_eq]
  generalize (lg_sl ([.ref g, .int k]) ++ List.replicate (2 - (lg_sl ([.ref g, .int k])).length) Slot.unset).toArray = ls at hl ⊢
  have hl : lv_has ls 2 [(0, .ref g), (1, .int k)] := hl
  refine lv_iload_n hx hb d_G_hasProduction_0 rfl (lv_at hl 1 rfl) ?_
  refine lv_if_lt (tgt := 16) hx hb d_G_hasProduction_1 (by decide) (fun hc1 => ?_) (fun hc1 => ?_)
  ·
    refine lv_iconst (v := 0) hx hb d_G_hasProduction_16 (by decide) ?_
    have hP9 := hP.sub (ws' := [(g, .inr (1, [.ref g_attributeCounts, .ref g_inheritedBits, .int 0, .ref g_symbolsAt, .ref g_lastPositions, .ref g_presentBits, .ref g_toDefineBits, .int 0, .ref g_ruledBits, .ref g_forms, .ref g_firsts, .ref g_seconds, .ref g_usedBits]))]) [0] rfl
    have hD9 := hD.sub (ws' := [(g, .inr (1, [.ref g_attributeCounts, .ref g_inheritedBits, .int 0, .ref g_symbolsAt, .ref g_lastPositions, .ref g_presentBits, .ref g_toDefineBits, .int 0, .ref g_ruledBits, .ref g_forms, .ref g_firsts, .ref g_seconds, .ref g_usedBits]))]) [0] (by decide) rfl
    have hK9 := hK.sub (tys' := []) [] rfl
    refine W.widen (k := 0) (n := 0) (by decide) (by decide) ?_
    exact W.zret (v := 0) (ty := .boolean) hx hb hr (by decide) (fun t ht hW => ⟨⟨0, (), rfl, rfl, by rw [ht]; exact hP9, va_K.moved hW.alike hK9, hD9⟩, hS.F ht⟩) hS.2.2 d_G_hasProduction_17
  ·
    refine lv_iload_n hx hb d_G_hasProduction_4 rfl (lv_at hl 1 rfl) ?_
    refine lv_aload_n hx hb d_G_hasProduction_5 rfl (lv_at hl 0 rfl) ?_
    refine va_get (D := (dC, dI)) (ci := 1) (v := .int 0) (C := R_G) (T := F_G) (N := 13) hx hb hts u_G hown hK hP 0 rfl rfl 7 (by decide) (hts _ k_116) (fun _ h9 => h9) rfl d_G_hasProduction_6 ?_
    refine lv_icmp_ge (tgt := 16) hx hb d_G_hasProduction_9 (by decide) (fun _ => ?_) (fun h9 => absurd (Int32.not_lt.mp hc1) h9)
    refine lv_iconst (v := 0) hx hb d_G_hasProduction_16 (by decide) ?_
    have hP9 := hP.sub (ws' := [(g, .inr (1, [.ref g_attributeCounts, .ref g_inheritedBits, .int 0, .ref g_symbolsAt, .ref g_lastPositions, .ref g_presentBits, .ref g_toDefineBits, .int 0, .ref g_ruledBits, .ref g_forms, .ref g_firsts, .ref g_seconds, .ref g_usedBits]))]) [0] rfl
    have hD9 := hD.sub (ws' := [(g, .inr (1, [.ref g_attributeCounts, .ref g_inheritedBits, .int 0, .ref g_symbolsAt, .ref g_lastPositions, .ref g_presentBits, .ref g_toDefineBits, .int 0, .ref g_ruledBits, .ref g_forms, .ref g_firsts, .ref g_seconds, .ref g_usedBits]))]) [0] (by decide) rfl
    have hK9 := hK.sub (tys' := []) [] rfl
    refine W.widen (k := 0) (n := 0) (by decide) (by decide) ?_
    exact W.zret (v := 0) (ty := .boolean) hx hb hr (by decide) (fun t ht hW => ⟨⟨0, (), rfl, rfl, by rw [ht]; exact hP9, va_K.moved hW.alike hK9, hD9⟩, hS.F ht⟩) hS.2.2 d_G_hasProduction_17

set_option maxHeartbeats 4000000 in
set_option maxRecDepth 100000 in
theorem c_T_hasN (l : Launch) (htr : l.stackTraces = false) (dC : Nat → ClassId) (dI : Nat → Nat → Nat) (tr : Nat) (k : Int32) (g : Nat) (tr_productions : Nat) (tr_tokens : Nat) (tr_parents : Nat) (tr_nodesAt : Nat) (sz : Nat) : Met l y_Z_hasNode WS ({ frames := 0, cells := 0, slots := 0, locals := 0 }) (va_Pc [.ref tr, .int k] (vq_Pre (dC, dI) CL sz [(tr, .inr (6, [.ref g, .ref tr_productions, .ref tr_tokens, .ref tr_parents, .ref tr_nodesAt, .int 0]))] [])) (va_Qi (fun (r : Int32) (_ : Unit) => r = 0) (fun _ t => vq_Post (dC, dI) CL (va_A [(tr, .inr (6, [.ref g, .ref tr_productions, .ref tr_tokens, .ref tr_parents, .ref tr_nodesAt, .int 0]))] sz) [(tr, .inr (6, [.ref g, .ref tr_productions, .ref tr_tokens, .ref tr_parents, .ref tr_nodesAt, .int 0]))] [] t) (va_A [(tr, .inr (6, [.ref g, .ref tr_productions, .ref tr_tokens, .ref tr_parents, .ref tr_nodesAt, .int 0]))] sz)) 0 0 (va_A [(tr, .inr (6, [.ref g, .ref tr_productions, .ref tr_tokens, .ref tr_parents, .ref tr_nodesAt, .int 0]))] sz) := by
  refine vq_ofW (cc := prog_7_method_2_code) (maxL := 2) (ret := (Option.some Jvm.ClassFile.FieldType.boolean)) (by decide) (vq_his k_117) ?_
  intro p e s m args below meth c s₁ B hml hv
  obtain ⟨rfl, hst, hsz, hP, hK, hD0⟩ := hv
  have hx := B.exec
  have hb := B.bytes
  have hr := B.returns
  have hts := atoms_spec (ws := WS) B.pre
  have hown : s.vm.findClass R_Z = some m.cls := findClass_of_methodNamed B.named
  have hlocks := B.notSynchronized
  have hno := vq_noH B (hts _ k_117)
  subst hsz
  have hN := vq_ns hP
  have hD := hD0.self (sz := s.heap.size)
  generalize hAe : va_A [(tr, .inr (6, [.ref g, .ref tr_productions, .ref tr_tokens, .ref tr_parents, .ref tr_nodesAt, .int 0]))] s.heap.size = A at hD hN ⊢
  have hA : ∀ q : Nat, s.heap.size ≤ q → A q := fun q h => by rw [← hAe]; exact Or.inr h
  have hS : va_S A s.heap s.heap [] := va_S.rf
  have hP : va_P (dC, dI) CL [(tr, .inr (6, [.ref g, .ref tr_productions, .ref tr_tokens, .ref tr_parents, .ref tr_nodesAt, .int 0]))] s.heap := hP
  have hD : va_D A [(tr, .inr (6, [.ref g, .ref tr_productions, .ref tr_tokens, .ref tr_parents, .ref tr_nodesAt, .int 0]))] := hD
  have hl := lv_entry ([.ref tr, .int k]) (n := 2) (Nat.le_of_ble_eq_true rfl)
  rw [lg_entry_eq]
  generalize (lg_sl ([.ref tr, .int k]) ++ List.replicate (2 - (lg_sl ([.ref tr, .int k])).length) Slot.unset).toArray = ls at hl ⊢
  have hl : lv_has ls 2 [(0, .ref tr), (1, .int k)] := hl
  refine lv_iload_n hx hb d_Z_hasNode_0 rfl (lv_at hl 1 rfl) ?_
  refine lv_if_lt (tgt := 16) hx hb d_Z_hasNode_1 (by decide) (fun hc1 => ?_) (fun hc1 => ?_)
  ·
    refine lv_iconst (v := 0) hx hb d_Z_hasNode_16 (by decide) ?_
    have hP9 := hP.sub (ws' := [(tr, .inr (6, [.ref g, .ref tr_productions, .ref tr_tokens, .ref tr_parents, .ref tr_nodesAt, .int 0]))]) [0] rfl
    have hD9 := hD.sub (ws' := [(tr, .inr (6, [.ref g, .ref tr_productions, .ref tr_tokens, .ref tr_parents, .ref tr_nodesAt, .int 0]))]) [0] (by decide) rfl
    have hK9 := hK.sub (tys' := []) [] rfl
    refine W.widen (k := 0) (n := 0) (by decide) (by decide) ?_
    exact W.zret (v := 0) (ty := .boolean) hx hb hr (by decide) (fun t ht hW => ⟨⟨0, (), rfl, rfl, by rw [ht]; exact hP9, va_K.moved hW.alike hK9, hD9⟩, hS.F ht⟩) hS.2.2 d_Z_hasNode_17
  ·
    refine lv_iload_n hx hb d_Z_hasNode_4 rfl (lv_at hl 1 rfl) ?_
    refine lv_aload_n hx hb d_Z_hasNode_5 rfl (lv_at hl 0 rfl) ?_
    refine va_get (D := (dC, dI)) (ci := 6) (v := .int 0) (C := R_Z) (T := F_Z) (N := 6) hx hb hts u_Z hown hK hP 0 rfl rfl 5 (by decide) (hts _ k_118) (fun _ h9 => h9) rfl d_Z_hasNode_6 ?_
    refine lv_icmp_ge (tgt := 16) hx hb d_Z_hasNode_9 (by decide) (fun _ => ?_) (fun h9 => absurd (Int32.not_lt.mp hc1) h9)
    refine lv_iconst (v := 0) hx hb d_Z_hasNode_16 (by decide) ?_
    have hP9 := hP.sub (ws' := [(tr, .inr (6, [.ref g, .ref tr_productions, .ref tr_tokens, .ref tr_parents, .ref tr_nodesAt, .int 0]))]) [0] rfl
    have hD9 := hD.sub (ws' := [(tr, .inr (6, [.ref g, .ref tr_productions, .ref tr_tokens, .ref tr_parents, .ref tr_nodesAt, .int 0]))]) [0] (by decide) rfl
    have hK9 := hK.sub (tys' := []) [] rfl
    refine W.widen (k := 0) (n := 0) (by decide) (by decide) ?_
    exact W.zret (v := 0) (ty := .boolean) hx hb hr (by decide) (fun t ht hW => ⟨⟨0, (), rfl, rfl, by rw [ht]; exact hP9, va_K.moved hW.alike hK9, hD9⟩, hS.F ht⟩) hS.2.2 d_Z_hasNode_17

set_option maxHeartbeats 4000000 in
set_option maxRecDepth 100000 in
theorem c_T_clear (l : Launch) (htr : l.stackTraces = false) (dC : Nat → ClassId) (dI : Nat → Nat → Nat) (tr : Nat) (g : Nat) (tr_productions : Nat) (tr_tokens : Nat) (tr_parents : Nat) (tr_nodesAt : Nat) (sz : Nat) : Met l y_Z_clear WS ({ frames := 0, cells := 0, slots := 0, locals := 0 }) (va_Pc [.ref tr] (vq_Pre (dC, dI) CL sz [(tr, .inr (6, [.ref g, .ref tr_productions, .ref tr_tokens, .ref tr_parents, .ref tr_nodesAt, .int 0]))] [])) (va_Qv (fun _ : Unit => True) (fun _ t => vq_Post (dC, dI) CL (va_A [(tr, .inr (6, [.ref g, .ref tr_productions, .ref tr_tokens, .ref tr_parents, .ref tr_nodesAt, .int 0]))] sz) [(tr, .inr (6, [.ref g, .ref tr_productions, .ref tr_tokens, .ref tr_parents, .ref tr_nodesAt, .int 0]))] [] t) (va_A [(tr, .inr (6, [.ref g, .ref tr_productions, .ref tr_tokens, .ref tr_parents, .ref tr_nodesAt, .int 0]))] sz)) 0 0 (va_A [(tr, .inr (6, [.ref g, .ref tr_productions, .ref tr_tokens, .ref tr_parents, .ref tr_nodesAt, .int 0]))] sz) := by
  refine vq_ofW (cc := prog_7_method_9_code) (maxL := 1) (ret := (Option.none : Option Jvm.ClassFile.FieldType)) (by decide) (vq_his k_119) ?_
  intro p e s m args below meth c s₁ B hml hv
  obtain ⟨rfl, hst, hsz, hP, hK, hD0⟩ := hv
  have hx := B.exec
  have hb := B.bytes
  have hr := B.returns
  have hts := atoms_spec (ws := WS) B.pre
  have hown : s.vm.findClass R_Z = some m.cls := findClass_of_methodNamed B.named
  have hlocks := B.notSynchronized
  have hno := vq_noH B (hts _ k_119)
  subst hsz
  have hN := vq_ns hP
  have hD := hD0.self (sz := s.heap.size)
  generalize hAe : va_A [(tr, .inr (6, [.ref g, .ref tr_productions, .ref tr_tokens, .ref tr_parents, .ref tr_nodesAt, .int 0]))] s.heap.size = A at hD hN ⊢
  have hA : ∀ q : Nat, s.heap.size ≤ q → A q := fun q h => by rw [← hAe]; exact Or.inr h
  have hS : va_S A s.heap s.heap [] := va_S.rf
  have hP : va_P (dC, dI) CL [(tr, .inr (6, [.ref g, .ref tr_productions, .ref tr_tokens, .ref tr_parents, .ref tr_nodesAt, .int 0]))] s.heap := hP
  have hD : va_D A [(tr, .inr (6, [.ref g, .ref tr_productions, .ref tr_tokens, .ref tr_parents, .ref tr_nodesAt, .int 0]))] := hD
  have hl := lv_entry ([.ref tr]) (n := 1) (Nat.le_of_ble_eq_true rfl)
  rw [lg_entry_eq]
  generalize (lg_sl ([.ref tr]) ++ List.replicate (1 - (lg_sl ([.ref tr])).length) Slot.unset).toArray = ls at hl ⊢
  have hl : lv_has ls 1 [(0, .ref tr)] := hl
  refine lv_aload_n hx hb d_Z_clear_0 rfl (lv_at hl 0 rfl) ?_
  refine lv_iconst (v := 0) hx hb d_Z_clear_1 (by decide) ?_
  refine va_put (D := (dC, dI)) (ci := 6) (v := .int 0) (ty := .int) (C := R_Z) (T := F_Z) (N := 6) hx hb hts u_Z t_Z t_Z_ok n_Z hown hK hP hD hS 0 rfl rfl 5 (by decide) (hts _ k_118) (fun _ h9 => h9) rfl (by decide +kernel) rfl rfl (Nat.le_of_ble_eq_true rfl) d_Z_clear_2 (fun H locs hP hD hS => ?_)
  have hP : va_P (dC, dI) CL [(tr, .inr (6, [.ref g, .ref tr_productions, .ref tr_tokens, .ref tr_parents, .ref tr_nodesAt, .int 0]))] H := hP
  have hD : va_D A [(tr, .inr (6, [.ref g, .ref tr_productions, .ref tr_tokens, .ref tr_parents, .ref tr_nodesAt, .int 0]))] := hD
  have hP9 := hP.sub (ws' := [(tr, .inr (6, [.ref g, .ref tr_productions, .ref tr_tokens, .ref tr_parents, .ref tr_nodesAt, .int 0]))]) [0] rfl
  have hD9 := hD.sub (ws' := [(tr, .inr (6, [.ref g, .ref tr_productions, .ref tr_tokens, .ref tr_parents, .ref tr_nodesAt, .int 0]))]) [0] (by decide) rfl
  have hK9 := hK.sub (tys' := []) [] rfl
  refine W.widen (k := 0) (n := 0) (by decide) (by decide) ?_
  exact W.vret hx hb hr (fun t ht hW => ⟨⟨(), rfl, trivial, by rw [ht]; exact hP9, va_K.moved hW.alike hK9, hD9⟩, hS.F ht⟩) hS.2.2 d_Z_clear_5

set_option maxHeartbeats 4000000 in
set_option maxRecDepth 100000 in
theorem c_G_allA (l : Launch) (htr : l.stackTraces = false) (dC : Nat → ClassId) (dI : Nat → Nat → Nat) (g : Nat) (g_attributeCounts : Nat) (g_inheritedBits : Nat) (g_symbolsAt : Nat) (g_lastPositions : Nat) (g_presentBits : Nat) (g_toDefineBits : Nat) (g_ruledBits : Nat) (g_forms : Nat) (g_firsts : Nat) (g_seconds : Nat) (g_usedBits : Nat) (cac : ClassId) (fac : Nat → Int32) (sz : Nat) : Met l y_G_allAttributes WS ({ frames := 0, cells := 0, slots := 0, locals := 0 }) (va_Pc [.ref g, .int 0] (vq_Pre (dC, dI) CL sz [(g, .inr (1, [.ref g_attributeCounts, .ref g_inheritedBits, .int 0, .ref g_symbolsAt, .ref g_lastPositions, .ref g_presentBits, .ref g_toDefineBits, .int 0, .ref g_ruledBits, .ref g_forms, .ref g_firsts, .ref g_seconds, .ref g_usedBits])), (g_attributeCounts, .inl (cac, 6, .inl fac))] [(cac, .int)])) (va_Qi (fun (_ : Int32) (_ : Unit) => True) (fun _ t => vq_Post (dC, dI) CL (va_A [(g, .inr (1, [.ref g_attributeCounts, .ref g_inheritedBits, .int 0, .ref g_symbolsAt, .ref g_lastPositions, .ref g_presentBits, .ref g_toDefineBits, .int 0, .ref g_ruledBits, .ref g_forms, .ref g_firsts, .ref g_seconds, .ref g_usedBits])), (g_attributeCounts, .inl (cac, 6, .inl fac))] sz) [(g, .inr (1, [.ref g_attributeCounts, .ref g_inheritedBits, .int 0, .ref g_symbolsAt, .ref g_lastPositions, .ref g_presentBits, .ref g_toDefineBits, .int 0, .ref g_ruledBits, .ref g_forms, .ref g_firsts, .ref g_seconds, .ref g_usedBits])), (g_attributeCounts, .inl (cac, 6, .inl fac))] [(cac, .int)] t) (va_A [(g, .inr (1, [.ref g_attributeCounts, .ref g_inheritedBits, .int 0, .ref g_symbolsAt, .ref g_lastPositions, .ref g_presentBits, .ref g_toDefineBits, .int 0, .ref g_ruledBits, .ref g_forms, .ref g_firsts, .ref g_seconds, .ref g_usedBits])), (g_attributeCounts, .inl (cac, 6, .inl fac))] sz)) 0 0 (va_A [(g, .inr (1, [.ref g_attributeCounts, .ref g_inheritedBits, .int 0, .ref g_symbolsAt, .ref g_lastPositions, .ref g_presentBits, .ref g_toDefineBits, .int 0, .ref g_ruledBits, .ref g_forms, .ref g_firsts, .ref g_seconds, .ref g_usedBits])), (g_attributeCounts, .inl (cac, 6, .inl fac))] sz) := by
  refine vq_ofW (cc := prog_3_method_14_code) (maxL := 2) (ret := (Option.some Jvm.ClassFile.FieldType.int)) (by decide) (vq_his k_120) ?_
  intro p e s m args below meth c s₁ B hml hv
  obtain ⟨rfl, hst, hsz, hP, hK, hD0⟩ := hv
  have hx := B.exec
  have hb := B.bytes
  have hr := B.returns
  have hts := atoms_spec (ws := WS) B.pre
  have hown : s.vm.findClass R_G = some m.cls := findClass_of_methodNamed B.named
  have hlocks := B.notSynchronized
  have hno := vq_noH B (hts _ k_120)
  subst hsz
  have hN := vq_ns hP
  have hD := hD0.self (sz := s.heap.size)
  generalize hAe : va_A [(g, .inr (1, [.ref g_attributeCounts, .ref g_inheritedBits, .int 0, .ref g_symbolsAt, .ref g_lastPositions, .ref g_presentBits, .ref g_toDefineBits, .int 0, .ref g_ruledBits, .ref g_forms, .ref g_firsts, .ref g_seconds, .ref g_usedBits])), (g_attributeCounts, .inl (cac, 6, .inl fac))] s.heap.size = A at hD hN ⊢
  have hA : ∀ q : Nat, s.heap.size ≤ q → A q := fun q h => by rw [← hAe]; exact Or.inr h
  have hS : va_S A s.heap s.heap [] := va_S.rf
  have hP : va_P (dC, dI) CL [(g, .inr (1, [.ref g_attributeCounts, .ref g_inheritedBits, .int 0, .ref g_symbolsAt, .ref g_lastPositions, .ref g_presentBits, .ref g_toDefineBits, .int 0, .ref g_ruledBits, .ref g_forms, .ref g_firsts, .ref g_seconds, .ref g_usedBits])), (g_attributeCounts, .inl (cac, 6, .inl fac))] s.heap := hP
  have hD : va_D A [(g, .inr (1, [.ref g_attributeCounts, .ref g_inheritedBits, .int 0, .ref g_symbolsAt, .ref g_lastPositions, .ref g_presentBits, .ref g_toDefineBits, .int 0, .ref g_ruledBits, .ref g_forms, .ref g_firsts, .ref g_seconds, .ref g_usedBits])), (g_attributeCounts, .inl (cac, 6, .inl fac))] := hD
  have hl := lv_entry ([.ref g, .int 0]) (n := 2) (Nat.le_of_ble_eq_true rfl)
  rw [lg_entry_eq]
  generalize (lg_sl ([.ref g, .int 0]) ++ List.replicate (2 - (lg_sl ([.ref g, .int 0])).length) Slot.unset).toArray = ls at hl ⊢
  have hl : lv_has ls 2 [(0, .ref g), (1, .int 0)] := hl
  refine lv_iconst (v := 1) hx hb d_G_allAttributes_0 (by decide) ?_
  refine lv_aload_n hx hb d_G_allAttributes_1 rfl (lv_at hl 0 rfl) ?_
  refine va_get (D := (dC, dI)) (ci := 1) (v := .ref g_attributeCounts) (C := R_G) (T := F_G) (N := 13) hx hb hts u_G hown hK hP 0 rfl rfl 0 (by decide) (hts _ k_5) (fun _ h9 => h9) rfl d_G_allAttributes_2 ?_
  refine lv_iload_n hx hb d_G_allAttributes_5 rfl (lv_at hl 1 rfl) ?_
  refine va_iald (n := 6) (f := fac) hx hb hK hP 1 0 rfl rfl (show ¬ ((0 : Int32) < 0 ∨ 6 ≤ Int32.toNatClampNeg 0) by decide) d_G_allAttributes_6 ?_
  refine lv_topi (fun i1 _ => ?_)
  refine lv_ishl hx hb d_G_allAttributes_7 ?_
  refine lv_topi (fun i2 _ => ?_)
  refine lv_iconst (v := 1) hx hb d_G_allAttributes_8 (by decide) ?_
  refine lv_isub hx hb d_G_allAttributes_9 ?_
  refine lv_topi (fun i3 _ => ?_)
  have hP9 := hP.sub (ws' := [(g, .inr (1, [.ref g_attributeCounts, .ref g_inheritedBits, .int 0, .ref g_symbolsAt, .ref g_lastPositions, .ref g_presentBits, .ref g_toDefineBits, .int 0, .ref g_ruledBits, .ref g_forms, .ref g_firsts, .ref g_seconds, .ref g_usedBits])), (g_attributeCounts, .inl (cac, 6, .inl fac))]) [0, 1] rfl
  have hD9 := hD.sub (ws' := [(g, .inr (1, [.ref g_attributeCounts, .ref g_inheritedBits, .int 0, .ref g_symbolsAt, .ref g_lastPositions, .ref g_presentBits, .ref g_toDefineBits, .int 0, .ref g_ruledBits, .ref g_forms, .ref g_firsts, .ref g_seconds, .ref g_usedBits])), (g_attributeCounts, .inl (cac, 6, .inl fac))]) [0, 1] (by decide) rfl
  have hK9 := hK.sub (tys' := [(cac, .int)]) [0] rfl
  refine W.widen (k := 0) (n := 0) (by decide) (by decide) ?_
  exact W.iret (v := i3) hx hb hr (fun t ht hW => ⟨⟨i3, (), rfl, trivial, by rw [ht]; exact hP9, va_K.moved hW.alike hK9, hD9⟩, hS.F ht⟩) hS.2.2 d_G_allAttributes_10

set_option maxHeartbeats 4000000 in
set_option maxRecDepth 100000 in
theorem c_G_addS (l : Launch) (htr : l.stackTraces = false) (dC : Nat → ClassId) (dI : Nat → Nat → Nat) (g : Nat) (a : Int32) (inh : Int32) (g_attributeCounts : Nat) (g_inheritedBits : Nat) (g_symbolsAt : Nat) (g_lastPositions : Nat) (g_presentBits : Nat) (g_toDefineBits : Nat) (g_ruledBits : Nat) (g_forms : Nat) (g_firsts : Nat) (g_seconds : Nat) (g_usedBits : Nat) (cac : ClassId) (fac : Nat → Int32) (cib : ClassId) (fib : Nat → Int32) (sz : Nat) : Met l y_G_addSymbol WS ({ frames := 1, cells := 0, slots := 0, locals := 21 }) (va_Pc [.ref g, .int a, .int inh] (vq_Pre (dC, dI) CL sz [(g, .inr (1, [.ref g_attributeCounts, .ref g_inheritedBits, .int 0, .ref g_symbolsAt, .ref g_lastPositions, .ref g_presentBits, .ref g_toDefineBits, .int 0, .ref g_ruledBits, .ref g_forms, .ref g_firsts, .ref g_seconds, .ref g_usedBits])), (g_attributeCounts, .inl (cac, 6, .inl fac)), (g_inheritedBits, .inl (cib, 6, .inl fib))] [(cac, .int), (cib, .int)])) (va_Qi (fun (r : Int32) (_ : Unit) => r = 0) (fun _ t => vq_Post (dC, dI) CL (va_A [(g, .inr (1, [.ref g_attributeCounts, .ref g_inheritedBits, .int 0, .ref g_symbolsAt, .ref g_lastPositions, .ref g_presentBits, .ref g_toDefineBits, .int 0, .ref g_ruledBits, .ref g_forms, .ref g_firsts, .ref g_seconds, .ref g_usedBits])), (g_attributeCounts, .inl (cac, 6, .inl fac)), (g_inheritedBits, .inl (cib, 6, .inl fib))] sz) [] [] t) (va_A [(g, .inr (1, [.ref g_attributeCounts, .ref g_inheritedBits, .int 0, .ref g_symbolsAt, .ref g_lastPositions, .ref g_presentBits, .ref g_toDefineBits, .int 0, .ref g_ruledBits, .ref g_forms, .ref g_firsts, .ref g_seconds, .ref g_usedBits])), (g_attributeCounts, .inl (cac, 6, .inl fac)), (g_inheritedBits, .inl (cib, 6, .inl fib))] sz)) 0 0 (va_A [(g, .inr (1, [.ref g_attributeCounts, .ref g_inheritedBits, .int 0, .ref g_symbolsAt, .ref g_lastPositions, .ref g_presentBits, .ref g_toDefineBits, .int 0, .ref g_ruledBits, .ref g_forms, .ref g_firsts, .ref g_seconds, .ref g_usedBits])), (g_attributeCounts, .inl (cac, 6, .inl fac)), (g_inheritedBits, .inl (cib, 6, .inl fib))] sz) := by
  refine vq_ofW (cc := prog_3_method_10_code) (maxL := 4) (ret := (Option.some Jvm.ClassFile.FieldType.int)) (by decide) (vq_his k_121) ?_
  intro p e s m args below meth c s₁ B hml hv
  obtain ⟨rfl, hst, hsz, hP, hK, hD0⟩ := hv
  have hx := B.exec
  have hb := B.bytes
  have hr := B.returns
  have hts := atoms_spec (ws := WS) B.pre
  have hown : s.vm.findClass R_G = some m.cls := findClass_of_methodNamed B.named
  have hlocks := B.notSynchronized
  have hno := vq_noH B (hts _ k_121)
  subst hsz
  have hN := vq_ns hP
  have hD := hD0.self (sz := s.heap.size)
  generalize hAe : va_A [(g, .inr (1, [.ref g_attributeCounts, .ref g_inheritedBits, .int 0, .ref g_symbolsAt, .ref g_lastPositions, .ref g_presentBits, .ref g_toDefineBits, .int 0, .ref g_ruledBits, .ref g_forms, .ref g_firsts, .ref g_seconds, .ref g_usedBits])), (g_attributeCounts, .inl (cac, 6, .inl fac)), (g_inheritedBits, .inl (cib, 6, .inl fib))] s.heap.size = A at hD hN ⊢
  have hA : ∀ q : Nat, s.heap.size ≤ q → A q := fun q h => by rw [← hAe]; exact Or.inr h
  have hS : va_S A s.heap s.heap [] := va_S.rf
  have hP : va_P (dC, dI) CL [(g, .inr (1, [.ref g_attributeCounts, .ref g_inheritedBits, .int 0, .ref g_symbolsAt, .ref g_lastPositions, .ref g_presentBits, .ref g_toDefineBits, .int 0, .ref g_ruledBits, .ref g_forms, .ref g_firsts, .ref g_seconds, .ref g_usedBits])), (g_attributeCounts, .inl (cac, 6, .inl fac)), (g_inheritedBits, .inl (cib, 6, .inl fib))] s.heap := hP
  have hD : va_D A [(g, .inr (1, [.ref g_attributeCounts, .ref g_inheritedBits, .int 0, .ref g_symbolsAt, .ref g_lastPositions, .ref g_presentBits, .ref g_toDefineBits, .int 0, .ref g_ruledBits, .ref g_forms, .ref g_firsts, .ref g_seconds, .ref g_usedBits])), (g_attributeCounts, .inl (cac, 6, .inl fac)), (g_inheritedBits, .inl (cib, 6, .inl fib))] := hD
  have hl := lv_entry ([.ref g, .int a, .int inh]) (n := 4) (Nat.le_of_ble_eq_true rfl)
  rw [lg_entry_eq]
  generalize (lg_sl ([.ref g, .int a, .int inh]) ++ List.replicate (4 - (lg_sl ([.ref g, .int a, .int inh])).length) Slot.unset).toArray = ls at hl ⊢
  have hl : lv_has ls 4 [(0, .ref g), (1, .int a), (2, .int inh)] := hl
  refine lv_aload_n hx hb d_G_addSymbol_0 rfl (lv_at hl 0 rfl) ?_
  refine va_get (D := (dC, dI)) (ci := 1) (v := .int 0) (C := R_G) (T := F_G) (N := 13) hx hb hts u_G hown hK hP 0 rfl rfl 2 (by decide) (hts _ k_114) (fun _ h9 => h9) rfl d_G_addSymbol_1 ?_
  refine lv_istore_n (lv' := [(3, .int 0), (0, .ref g), (1, .int a), (2, .int inh)]) hx hb d_G_addSymbol_4 rfl hl (by decide) rfl (fun ls hl => ?_)
  refine lv_aload_n hx hb d_G_addSymbol_5 rfl (lv_at hl 1 rfl) ?_
  refine va_get (D := (dC, dI)) (ci := 1) (v := .ref g_attributeCounts) (C := R_G) (T := F_G) (N := 13) hx hb hts u_G hown hK hP 0 rfl rfl 0 (by decide) (hts _ k_5) (fun _ h9 => h9) rfl d_G_addSymbol_6 ?_
  refine lv_iload_n hx hb d_G_addSymbol_9 rfl (lv_at hl 0 rfl) ?_
  refine lv_iload_n hx hb d_G_addSymbol_10 rfl (lv_at hl 2 rfl) ?_
  refine va_iast (n := 6) (f := fac) hx hb hK hP hD hS 1 0 rfl rfl (show ¬ ((0 : Int32) < 0 ∨ 6 ≤ Int32.toNatClampNeg 0) by decide) d_G_addSymbol_11 (fun H locs hP hD hS => ?_)
  have hP : va_P (dC, dI) CL [(g, .inr (1, [.ref g_attributeCounts, .ref g_inheritedBits, .int 0, .ref g_symbolsAt, .ref g_lastPositions, .ref g_presentBits, .ref g_toDefineBits, .int 0, .ref g_ruledBits, .ref g_forms, .ref g_firsts, .ref g_seconds, .ref g_usedBits])), (g_attributeCounts, .inl (cac, 6, .inl (upd fac (0 : Int32).toNatClampNeg a))), (g_inheritedBits, .inl (cib, 6, .inl fib))] H := hP
  have hD : va_D A [(g, .inr (1, [.ref g_attributeCounts, .ref g_inheritedBits, .int 0, .ref g_symbolsAt, .ref g_lastPositions, .ref g_presentBits, .ref g_toDefineBits, .int 0, .ref g_ruledBits, .ref g_forms, .ref g_firsts, .ref g_seconds, .ref g_usedBits])), (g_attributeCounts, .inl (cac, 6, .inl (upd fac (0 : Int32).toNatClampNeg a))), (g_inheritedBits, .inl (cib, 6, .inl fib))] := hD
  generalize (upd fac (0 : Int32).toNatClampNeg a) = f1 at hP hD
  refine lv_aload_n hx hb d_G_addSymbol_12 rfl (lv_at hl 1 rfl) ?_
  refine va_get (D := (dC, dI)) (ci := 1) (v := .ref g_inheritedBits) (C := R_G) (T := F_G) (N := 13) hx hb hts u_G hown hK hP 0 rfl rfl 1 (by decide) (hts _ k_6) (fun _ h9 => h9) rfl d_G_addSymbol_13 ?_
  refine lv_iload_n hx hb d_G_addSymbol_16 rfl (lv_at hl 0 rfl) ?_
  refine lv_iload_n hx hb d_G_addSymbol_17 rfl (lv_at hl 3 rfl) ?_
  refine lv_aload_n hx hb d_G_addSymbol_18 rfl (lv_at hl 1 rfl) ?_
  refine lv_iload_n hx hb d_G_addSymbol_19 rfl (lv_at hl 0 rfl) ?_
  have hPc := hP.sub (ws' := [(g, .inr (1, [.ref g_attributeCounts, .ref g_inheritedBits, .int 0, .ref g_symbolsAt, .ref g_lastPositions, .ref g_presentBits, .ref g_toDefineBits, .int 0, .ref g_ruledBits, .ref g_forms, .ref g_firsts, .ref g_seconds, .ref g_usedBits])), (g_attributeCounts, .inl (cac, 6, .inl f1))]) [0, 1] rfl
  have hDc := hD.sub (ws' := [(g, .inr (1, [.ref g_attributeCounts, .ref g_inheritedBits, .int 0, .ref g_symbolsAt, .ref g_lastPositions, .ref g_presentBits, .ref g_toDefineBits, .int 0, .ref g_ruledBits, .ref g_forms, .ref g_firsts, .ref g_seconds, .ref g_usedBits])), (g_attributeCounts, .inl (cac, 6, .inl f1))]) [0, 1] (by decide) rfl
  have hKc := hK.sub (tys' := [(cac, .int)]) [0] rfl
  have hFc := va_free (wc := [(g, .inr (1, [.ref g_attributeCounts, .ref g_inheritedBits, .int 0, .ref g_symbolsAt, .ref g_lastPositions, .ref g_presentBits, .ref g_toDefineBits, .int 0, .ref g_ruledBits, .ref g_forms, .ref g_firsts, .ref g_seconds, .ref g_usedBits])), (g_attributeCounts, .inl (cac, 6, .inl f1))]) hD hS hA [0, 1] rfl
  refine va_calli (va_runV (As := [.int 0]) (rest := [.int inh, .int 0, .ref g_inheritedBits]) ⟨hx, hb, hml, hown, hts⟩ (c_G_allA l htr dC dI g g_attributeCounts g_inheritedBits g_symbolsAt g_lastPositions g_presentBits g_toDefineBits g_ruledBits g_forms g_firsts g_seconds g_usedBits cac f1 H.size) (vq_cV WSk hts 1 rfl rfl ⟨by decide, by decide⟩ k_120 k_78 k_122 k_123 k_124 (by decide +kernel)) ⟨vq_blind, va_recv hK hP (ci := 1) (q0 := 0) rfl rfl, vq_here hst hS hN hPc hKc hDc⟩ rfl rfl hl.1 rfl (lv_room (Nat.le_of_ble_eq_true rfl)) d_G_addSymbol_20 ⟨by decide, by decide⟩) hS (fun q _ h => hFc q h) hFc (fun r2 u t H1 locs ht hvm hw hB hz1 hk1 hS => ?_)
  obtain ⟨hP1, hK1, hD1⟩ := hB
  rw [ht] at hP1
  have hK1 := va_K.moved hvm.symm hK1
  obtain ⟨hP, hD⟩ := va_join (wr := [(g_inheritedBits, .inl (cib, 6, .inl fib))]) (w1 := [(g, .inr (1, [.ref g_attributeCounts, .ref g_inheritedBits, .int 0, .ref g_symbolsAt, .ref g_lastPositions, .ref g_presentBits, .ref g_toDefineBits, .int 0, .ref g_ruledBits, .ref g_forms, .ref g_firsts, .ref g_seconds, .ref g_usedBits])), (g_attributeCounts, .inl (cac, 6, .inl f1))]) hP hD [0, 1] [2] rfl rfl (by decide) (by decide) hk1 hFc hP1 hD1
  have hK := (hK.sub (tys' := [(cib, .int)]) [1] rfl).app hK1
  generalize H1 = H at hP hS ⊢
  have hP : va_P (dC, dI) CL [(g_inheritedBits, .inl (cib, 6, .inl fib)), (g, .inr (1, [.ref g_attributeCounts, .ref g_inheritedBits, .int 0, .ref g_symbolsAt, .ref g_lastPositions, .ref g_presentBits, .ref g_toDefineBits, .int 0, .ref g_ruledBits, .ref g_forms, .ref g_firsts, .ref g_seconds, .ref g_usedBits])), (g_attributeCounts, .inl (cac, 6, .inl f1))] H := hP
  have hD : va_D A [(g_inheritedBits, .inl (cib, 6, .inl fib)), (g, .inr (1, [.ref g_attributeCounts, .ref g_inheritedBits, .int 0, .ref g_symbolsAt, .ref g_lastPositions, .ref g_presentBits, .ref g_toDefineBits, .int 0, .ref g_ruledBits, .ref g_forms, .ref g_firsts, .ref g_seconds, .ref g_usedBits])), (g_attributeCounts, .inl (cac, 6, .inl f1))] := hD
  have hK : va_K (dC, dI) CL [(cib, .int), (cac, .int)] s := hK
  refine W.widen (k := 0) (n := 0) (by decide) (by decide) ?_
  refine lv_iand hx hb d_G_addSymbol_23 ?_
  refine lv_topi (fun i3 _ => ?_)
  refine va_iast (n := 6) (f := fib) hx hb hK hP hD hS 0 0 rfl rfl (show ¬ ((0 : Int32) < 0 ∨ 6 ≤ Int32.toNatClampNeg 0) by decide) d_G_addSymbol_24 (fun H locs hP hD hS => ?_)
  have hP : va_P (dC, dI) CL [(g_inheritedBits, .inl (cib, 6, .inl (upd fib (0 : Int32).toNatClampNeg i3))), (g, .inr (1, [.ref g_attributeCounts, .ref g_inheritedBits, .int 0, .ref g_symbolsAt, .ref g_lastPositions, .ref g_presentBits, .ref g_toDefineBits, .int 0, .ref g_ruledBits, .ref g_forms, .ref g_firsts, .ref g_seconds, .ref g_usedBits])), (g_attributeCounts, .inl (cac, 6, .inl f1))] H := hP
  have hD : va_D A [(g_inheritedBits, .inl (cib, 6, .inl (upd fib (0 : Int32).toNatClampNeg i3))), (g, .inr (1, [.ref g_attributeCounts, .ref g_inheritedBits, .int 0, .ref g_symbolsAt, .ref g_lastPositions, .ref g_presentBits, .ref g_toDefineBits, .int 0, .ref g_ruledBits, .ref g_forms, .ref g_firsts, .ref g_seconds, .ref g_usedBits])), (g_attributeCounts, .inl (cac, 6, .inl f1))] := hD
  generalize (upd fib (0 : Int32).toNatClampNeg i3) = f4 at hP hD
  refine lv_aload_n hx hb d_G_addSymbol_25 rfl (lv_at hl 1 rfl) ?_
  refine lv_dup hx hb d_G_addSymbol_26 rfl ?_
  refine va_get (D := (dC, dI)) (ci := 1) (v := .int 0) (C := R_G) (T := F_G) (N := 13) hx hb hts u_G hown hK hP 1 rfl rfl 2 (by decide) (hts _ k_114) (fun _ h9 => h9) rfl d_G_addSymbol_27 ?_
  refine lv_iconst (v := 1) hx hb d_G_addSymbol_30 (by decide) ?_
  refine lv_iadd hx hb d_G_addSymbol_31 ?_
  refine vq_top (y := 1) (by decide) ?_
  refine va_put (D := (dC, dI)) (ci := 1) (v := .int 1) (ty := .int) (C := R_G) (T := F_G) (N := 13) hx hb hts u_G t_G t_G_ok n_G hown hK hP hD hS 1 rfl rfl 2 (by decide) (hts _ k_114) (fun _ h9 => h9) rfl (by decide +kernel) rfl rfl (Nat.le_of_ble_eq_true rfl) d_G_addSymbol_32 (fun H locs hP hD hS => ?_)
  have hP : va_P (dC, dI) CL [(g_inheritedBits, .inl (cib, 6, .inl f4)), (g, .inr (1, [.ref g_attributeCounts, .ref g_inheritedBits, .int 1, .ref g_symbolsAt, .ref g_lastPositions, .ref g_presentBits, .ref g_toDefineBits, .int 0, .ref g_ruledBits, .ref g_forms, .ref g_firsts, .ref g_seconds, .ref g_usedBits])), (g_attributeCounts, .inl (cac, 6, .inl f1))] H := hP
  have hD : va_D A [(g_inheritedBits, .inl (cib, 6, .inl f4)), (g, .inr (1, [.ref g_attributeCounts, .ref g_inheritedBits, .int 1, .ref g_symbolsAt, .ref g_lastPositions, .ref g_presentBits, .ref g_toDefineBits, .int 0, .ref g_ruledBits, .ref g_forms, .ref g_firsts, .ref g_seconds, .ref g_usedBits])), (g_attributeCounts, .inl (cac, 6, .inl f1))] := hD
  refine lv_iload_n hx hb d_G_addSymbol_35 rfl (lv_at hl 0 rfl) ?_
  have hP9 := hP.sub (ws' := []) [] rfl
  have hD9 := hD.sub (ws' := []) [] (by decide) rfl
  have hK9 := hK.sub (tys' := []) [] rfl
  refine W.widen (k := 0) (n := 0) (by decide) (by decide) ?_
  exact W.iret (v := 0) hx hb hr (fun t ht hW => ⟨⟨0, (), rfl, rfl, by rw [ht]; exact hP9, va_K.moved hW.alike hK9, hD9⟩, hS.F ht⟩) hS.2.2 d_G_addSymbol_36

set_option maxHeartbeats 4000000 in
set_option maxRecDepth 100000 in
theorem c_A_forg (l : Launch) (htr : l.stackTraces = false) (dC : Nat → ClassId) (dI : Nat → Nat → Nat) (an : Nat) (g : Nat) (an_leads : Nat) (an_ranking : Nat) (an_sequences : Nat) (sz : Nat) : Met l y_A_forgetFault WS ({ frames := 0, cells := 0, slots := 0, locals := 0 }) (va_Pc [.ref an] (vq_Pre (dC, dI) CL sz [(an, .inr (2, [.ref g, .ref an_leads, .ref an_ranking, .ref an_sequences, .int 0, .int 0, .int (-1), .int (-1)]))] [])) (va_Qv (fun _ : Unit => True) (fun _ t => vq_Post (dC, dI) CL (va_A [(an, .inr (2, [.ref g, .ref an_leads, .ref an_ranking, .ref an_sequences, .int 0, .int 0, .int (-1), .int (-1)]))] sz) [(an, .inr (2, [.ref g, .ref an_leads, .ref an_ranking, .ref an_sequences, .int 0, .int 0, .int (-1), .int (-1)]))] [] t) (va_A [(an, .inr (2, [.ref g, .ref an_leads, .ref an_ranking, .ref an_sequences, .int 0, .int 0, .int (-1), .int (-1)]))] sz)) 0 0 (va_A [(an, .inr (2, [.ref g, .ref an_leads, .ref an_ranking, .ref an_sequences, .int 0, .int 0, .int (-1), .int (-1)]))] sz) := by
  refine vq_ofW (cc := prog_2_method_3_code) (maxL := 1) (ret := (Option.none : Option Jvm.ClassFile.FieldType)) (by decide) (vq_his k_125) ?_
  intro p e s m args below meth c s₁ B hml hv
  obtain ⟨rfl, hst, hsz, hP, hK, hD0⟩ := hv
  have hx := B.exec
  have hb := B.bytes
  have hr := B.returns
  have hts := atoms_spec (ws := WS) B.pre
  have hown : s.vm.findClass R_A = some m.cls := findClass_of_methodNamed B.named
  have hlocks := B.notSynchronized
  have hno := vq_noH B (hts _ k_125)
  subst hsz
  have hN := vq_ns hP
  have hD := hD0.self (sz := s.heap.size)
  generalize hAe : va_A [(an, .inr (2, [.ref g, .ref an_leads, .ref an_ranking, .ref an_sequences, .int 0, .int 0, .int (-1), .int (-1)]))] s.heap.size = A at hD hN ⊢
  have hA : ∀ q : Nat, s.heap.size ≤ q → A q := fun q h => by rw [← hAe]; exact Or.inr h
  have hS : va_S A s.heap s.heap [] := va_S.rf
  have hP : va_P (dC, dI) CL [(an, .inr (2, [.ref g, .ref an_leads, .ref an_ranking, .ref an_sequences, .int 0, .int 0, .int (-1), .int (-1)]))] s.heap := hP
  have hD : va_D A [(an, .inr (2, [.ref g, .ref an_leads, .ref an_ranking, .ref an_sequences, .int 0, .int 0, .int (-1), .int (-1)]))] := hD
  have hl := lv_entry ([.ref an]) (n := 1) (Nat.le_of_ble_eq_true rfl)
  rw [lg_entry_eq]
  generalize (lg_sl ([.ref an]) ++ List.replicate (1 - (lg_sl ([.ref an])).length) Slot.unset).toArray = ls at hl ⊢
  have hl : lv_has ls 1 [(0, .ref an)] := hl
  refine lv_aload_n hx hb d_A_forgetFault_0 rfl (lv_at hl 0 rfl) ?_
  refine lv_iconst (v := 0) hx hb d_A_forgetFault_1 (by decide) ?_
  refine va_put (D := (dC, dI)) (ci := 2) (v := .int 0) (ty := .int) (C := R_A) (T := F_A) (N := 8) hx hb hts u_A t_A t_A_ok n_A hown hK hP hD hS 0 rfl rfl 5 (by decide) (hts _ k_126) (fun _ h9 => h9) rfl (by decide +kernel) rfl rfl (Nat.le_of_ble_eq_true rfl) d_A_forgetFault_2 (fun H locs hP hD hS => ?_)
  have hP : va_P (dC, dI) CL [(an, .inr (2, [.ref g, .ref an_leads, .ref an_ranking, .ref an_sequences, .int 0, .int 0, .int (-1), .int (-1)]))] H := hP
  have hD : va_D A [(an, .inr (2, [.ref g, .ref an_leads, .ref an_ranking, .ref an_sequences, .int 0, .int 0, .int (-1), .int (-1)]))] := hD
  refine lv_aload_n hx hb d_A_forgetFault_5 rfl (lv_at hl 0 rfl) ?_
  refine lv_iconst (v := (-1)) hx hb d_A_forgetFault_6 (by decide) ?_
  refine va_put (D := (dC, dI)) (ci := 2) (v := .int (-1)) (ty := .int) (C := R_A) (T := F_A) (N := 8) hx hb hts u_A t_A t_A_ok n_A hown hK hP hD hS 0 rfl rfl 6 (by decide) (hts _ k_37) (fun _ h9 => h9) rfl (by decide +kernel) rfl rfl (Nat.le_of_ble_eq_true rfl) d_A_forgetFault_7 (fun H locs hP hD hS => ?_)
  have hP : va_P (dC, dI) CL [(an, .inr (2, [.ref g, .ref an_leads, .ref an_ranking, .ref an_sequences, .int 0, .int 0, .int (-1), .int (-1)]))] H := hP
  have hD : va_D A [(an, .inr (2, [.ref g, .ref an_leads, .ref an_ranking, .ref an_sequences, .int 0, .int 0, .int (-1), .int (-1)]))] := hD
  refine lv_aload_n hx hb d_A_forgetFault_10 rfl (lv_at hl 0 rfl) ?_
  refine lv_iconst (v := (-1)) hx hb d_A_forgetFault_11 (by decide) ?_
  refine va_put (D := (dC, dI)) (ci := 2) (v := .int (-1)) (ty := .int) (C := R_A) (T := F_A) (N := 8) hx hb hts u_A t_A t_A_ok n_A hown hK hP hD hS 0 rfl rfl 7 (by decide) (hts _ k_38) (fun _ h9 => h9) rfl (by decide +kernel) rfl rfl (Nat.le_of_ble_eq_true rfl) d_A_forgetFault_12 (fun H locs hP hD hS => ?_)
  have hP : va_P (dC, dI) CL [(an, .inr (2, [.ref g, .ref an_leads, .ref an_ranking, .ref an_sequences, .int 0, .int 0, .int (-1), .int (-1)]))] H := hP
  have hD : va_D A [(an, .inr (2, [.ref g, .ref an_leads, .ref an_ranking, .ref an_sequences, .int 0, .int 0, .int (-1), .int (-1)]))] := hD
  have hP9 := hP.sub (ws' := [(an, .inr (2, [.ref g, .ref an_leads, .ref an_ranking, .ref an_sequences, .int 0, .int 0, .int (-1), .int (-1)]))]) [0] rfl
  have hD9 := hD.sub (ws' := [(an, .inr (2, [.ref g, .ref an_leads, .ref an_ranking, .ref an_sequences, .int 0, .int 0, .int (-1), .int (-1)]))]) [0] (by decide) rfl
  have hK9 := hK.sub (tys' := []) [] rfl
  refine W.widen (k := 0) (n := 0) (by decide) (by decide) ?_
  exact W.vret hx hb hr (fun t ht hW => ⟨⟨(), rfl, trivial, by rw [ht]; exact hP9, va_K.moved hW.alike hK9, hD9⟩, hS.F ht⟩) hS.2.2 d_A_forgetFault_15

set_option maxHeartbeats 4000000 in
set_option maxRecDepth 100000 in
theorem c_A_make (l : Launch) (htr : l.stackTraces = false) (dC : Nat → ClassId) (dI : Nat → Nat → Nat) (an : Nat) (g : Nat) (an_leads : Nat) (an_ranking : Nat) (an_sequences : Nat) (g_attributeCounts : Nat) (g_inheritedBits : Nat) (g_symbolsAt : Nat) (g_lastPositions : Nat) (g_presentBits : Nat) (g_toDefineBits : Nat) (g_ruledBits : Nat) (g_forms : Nat) (g_firsts : Nat) (g_seconds : Nat) (g_usedBits : Nat) (sz : Nat) : Met l y_A_make WS ({ frames := 1, cells := 0, slots := 0, locals := 20 }) (va_Pc [.ref an] (vq_Pre (dC, dI) CL sz [(an, .inr (2, [.ref g, .ref an_leads, .ref an_ranking, .ref an_sequences, .int 0, .int 0, .int (-1), .int (-1)])), (g, .inr (1, [.ref g_attributeCounts, .ref g_inheritedBits, .int 0, .ref g_symbolsAt, .ref g_lastPositions, .ref g_presentBits, .ref g_toDefineBits, .int 0, .ref g_ruledBits, .ref g_forms, .ref g_firsts, .ref g_seconds, .ref g_usedBits]))] [])) (va_Qv (fun _ : Unit => True) (fun _ t => vq_Post (dC, dI) CL (va_A [(an, .inr (2, [.ref g, .ref an_leads, .ref an_ranking, .ref an_sequences, .int 0, .int 0, .int (-1), .int (-1)])), (g, .inr (1, [.ref g_attributeCounts, .ref g_inheritedBits, .int 0, .ref g_symbolsAt, .ref g_lastPositions, .ref g_presentBits, .ref g_toDefineBits, .int 0, .ref g_ruledBits, .ref g_forms, .ref g_firsts, .ref g_seconds, .ref g_usedBits]))] sz) [(g, .inr (1, [.ref g_attributeCounts, .ref g_inheritedBits, .int 0, .ref g_symbolsAt, .ref g_lastPositions, .ref g_presentBits, .ref g_toDefineBits, .int 0, .ref g_ruledBits, .ref g_forms, .ref g_firsts, .ref g_seconds, .ref g_usedBits])), (an, .inr (2, [.ref g, .ref an_leads, .ref an_ranking, .ref an_sequences, .int 0, .int 0, .int (-1), .int (-1)]))] [] t) (va_A [(an, .inr (2, [.ref g, .ref an_leads, .ref an_ranking, .ref an_sequences, .int 0, .int 0, .int (-1), .int (-1)])), (g, .inr (1, [.ref g_attributeCounts, .ref g_inheritedBits, .int 0, .ref g_symbolsAt, .ref g_lastPositions, .ref g_presentBits, .ref g_toDefineBits, .int 0, .ref g_ruledBits, .ref g_forms, .ref g_firsts, .ref g_seconds, .ref g_usedBits]))] sz)) 0 0 (va_A [(an, .inr (2, [.ref g, .ref an_leads, .ref an_ranking, .ref an_sequences, .int 0, .int 0, .int (-1), .int (-1)])), (g, .inr (1, [.ref g_attributeCounts, .ref g_inheritedBits, .int 0, .ref g_symbolsAt, .ref g_lastPositions, .ref g_presentBits, .ref g_toDefineBits, .int 0, .ref g_ruledBits, .ref g_forms, .ref g_firsts, .ref g_seconds, .ref g_usedBits]))] sz) := by
  refine vq_ofW (cc := prog_2_method_2_code) (maxL := 1) (ret := (Option.none : Option Jvm.ClassFile.FieldType)) (by decide) (vq_his k_127) ?_
  intro p e s m args below meth c s₁ B hml hv
  obtain ⟨rfl, hst, hsz, hP, hK, hD0⟩ := hv
  have hx := B.exec
  have hb := B.bytes
  have hr := B.returns
  have hts := atoms_spec (ws := WS) B.pre
  have hown : s.vm.findClass R_A = some m.cls := findClass_of_methodNamed B.named
  have hlocks := B.notSynchronized
  have hno := vq_noH B (hts _ k_127)
  subst hsz
  have hN := vq_ns hP
  have hD := hD0.self (sz := s.heap.size)
  generalize hAe : va_A [(an, .inr (2, [.ref g, .ref an_leads, .ref an_ranking, .ref an_sequences, .int 0, .int 0, .int (-1), .int (-1)])), (g, .inr (1, [.ref g_attributeCounts, .ref g_inheritedBits, .int 0, .ref g_symbolsAt, .ref g_lastPositions, .ref g_presentBits, .ref g_toDefineBits, .int 0, .ref g_ruledBits, .ref g_forms, .ref g_firsts, .ref g_seconds, .ref g_usedBits]))] s.heap.size = A at hD hN ⊢
  have hA : ∀ q : Nat, s.heap.size ≤ q → A q := fun q h => by rw [← hAe]; exact Or.inr h
  have hS : va_S A s.heap s.heap [] := va_S.rf
  have hP : va_P (dC, dI) CL [(an, .inr (2, [.ref g, .ref an_leads, .ref an_ranking, .ref an_sequences, .int 0, .int 0, .int (-1), .int (-1)])), (g, .inr (1, [.ref g_attributeCounts, .ref g_inheritedBits, .int 0, .ref g_symbolsAt, .ref g_lastPositions, .ref g_presentBits, .ref g_toDefineBits, .int 0, .ref g_ruledBits, .ref g_forms, .ref g_firsts, .ref g_seconds, .ref g_usedBits]))] s.heap := hP
  have hD : va_D A [(an, .inr (2, [.ref g, .ref an_leads, .ref an_ranking, .ref an_sequences, .int 0, .int 0, .int (-1), .int (-1)])), (g, .inr (1, [.ref g_attributeCounts, .ref g_inheritedBits, .int 0, .ref g_symbolsAt, .ref g_lastPositions, .ref g_presentBits, .ref g_toDefineBits, .int 0, .ref g_ruledBits, .ref g_forms, .ref g_firsts, .ref g_seconds, .ref g_usedBits]))] := hD
  have hl := lv_entry ([.ref an]) (n := 1) (Nat.le_of_ble_eq_true rfl)
  rw [lg_entry_eq]
  generalize (lg_sl ([.ref an]) ++ List.replicate (1 - (lg_sl ([.ref an])).length) Slot.unset).toArray = ls at hl ⊢
  have hl : lv_has ls 1 [(0, .ref an)] := hl
  refine lv_aload_n hx hb d_A_make_0 rfl (lv_at hl 0 rfl) ?_
  have hPc := hP.sub (ws' := [(an, .inr (2, [.ref g, .ref an_leads, .ref an_ranking, .ref an_sequences, .int 0, .int 0, .int (-1), .int (-1)]))]) [0] rfl
  have hDc := hD.sub (ws' := [(an, .inr (2, [.ref g, .ref an_leads, .ref an_ranking, .ref an_sequences, .int 0, .int 0, .int (-1), .int (-1)]))]) [0] (by decide) rfl
  have hKc := hK.sub (tys' := []) [] rfl
  have hFc := va_free (wc := [(an, .inr (2, [.ref g, .ref an_leads, .ref an_ranking, .ref an_sequences, .int 0, .int 0, .int (-1), .int (-1)]))]) hD hS hA [0] rfl
  refine va_callv (va_runV (As := []) (rest := []) ⟨hx, hb, hml, hown, hts⟩ (c_A_forg l htr dC dI an g an_leads an_ranking an_sequences s.heap.size) (vq_cV WSk hts 0 rfl rfl ⟨by decide, by decide⟩ k_125 k_84 k_128 k_129 k_130 (by decide +kernel)) ⟨vq_blind, va_recv hK hP (ci := 2) (q0 := 0) rfl rfl, vq_here hst hS hN hPc hKc hDc⟩ rfl rfl hl.1 rfl (lv_room (Nat.le_of_ble_eq_true rfl)) d_A_make_1 ⟨by decide, by decide⟩) hS (fun q _ h => hFc q h) hFc (fun u t H1 locs ht hvm hw hB hz1 hk1 hS => ?_)
  obtain ⟨hP1, hK1, hD1⟩ := hB
  rw [ht] at hP1
  have hK1 := va_K.moved hvm.symm hK1
  obtain ⟨hP, hD⟩ := va_join (wr := [(g, .inr (1, [.ref g_attributeCounts, .ref g_inheritedBits, .int 0, .ref g_symbolsAt, .ref g_lastPositions, .ref g_presentBits, .ref g_toDefineBits, .int 0, .ref g_ruledBits, .ref g_forms, .ref g_firsts, .ref g_seconds, .ref g_usedBits]))]) (w1 := [(an, .inr (2, [.ref g, .ref an_leads, .ref an_ranking, .ref an_sequences, .int 0, .int 0, .int (-1), .int (-1)]))]) hP hD [0] [1] rfl rfl (by decide) (by decide) hk1 hFc hP1 hD1
  have hK := (hK.sub (tys' := []) [] rfl).app hK1
  generalize H1 = H at hP hS ⊢
  have hP : va_P (dC, dI) CL [(g, .inr (1, [.ref g_attributeCounts, .ref g_inheritedBits, .int 0, .ref g_symbolsAt, .ref g_lastPositions, .ref g_presentBits, .ref g_toDefineBits, .int 0, .ref g_ruledBits, .ref g_forms, .ref g_firsts, .ref g_seconds, .ref g_usedBits])), (an, .inr (2, [.ref g, .ref an_leads, .ref an_ranking, .ref an_sequences, .int 0, .int 0, .int (-1), .int (-1)]))] H := hP
  have hD : va_D A [(g, .inr (1, [.ref g_attributeCounts, .ref g_inheritedBits, .int 0, .ref g_symbolsAt, .ref g_lastPositions, .ref g_presentBits, .ref g_toDefineBits, .int 0, .ref g_ruledBits, .ref g_forms, .ref g_firsts, .ref g_seconds, .ref g_usedBits])), (an, .inr (2, [.ref g, .ref an_leads, .ref an_ranking, .ref an_sequences, .int 0, .int 0, .int (-1), .int (-1)]))] := hD
  have hK : va_K (dC, dI) CL [] s := hK
  refine W.widen (k := 0) (n := 0) (by decide) (by decide) ?_
  refine lv_aload_n hx hb d_A_make_4 rfl (lv_at hl 0 rfl) ?_
  refine lv_aload_n hx hb d_A_make_5 rfl (lv_at hl 0 rfl) ?_
  refine va_get (D := (dC, dI)) (ci := 2) (v := .ref g) (C := R_A) (T := F_A) (N := 8) hx hb hts u_A hown hK hP 1 rfl rfl 0 (by decide) (hts _ k_39) (fun _ h9 => h9) rfl d_A_make_6 ?_
  refine va_getN (D := (dC, dI)) (ci := 1) (v := .int 0) (C := R_G) (T := F_G) (N := 13) hx hb hts u_G hown hK hP 0 rfl rfl 7 (by decide) (hts _ k_131) (fun _ h9 => h9) rfl d_A_make_9 ?_
  refine lv_if_le (tgt := 40) hx hb d_A_make_12 (by decide) (fun _ => ?_) (fun h9 => absurd (by decide) h9)
  refine lv_iconst (v := 0) hx hb d_A_make_40 (by decide) ?_
  refine va_put (D := (dC, dI)) (ci := 2) (v := .int 0) (ty := .boolean) (C := R_A) (T := F_A) (N := 8) hx hb hts u_A t_A t_A_ok n_A hown hK hP hD hS 1 rfl rfl 4 (by decide) (hts _ k_132) (fun _ h9 => h9) rfl (by decide +kernel) rfl rfl (Nat.le_of_ble_eq_true rfl) d_A_make_41 (fun H locs hP hD hS => ?_)
  have hP : va_P (dC, dI) CL [(g, .inr (1, [.ref g_attributeCounts, .ref g_inheritedBits, .int 0, .ref g_symbolsAt, .ref g_lastPositions, .ref g_presentBits, .ref g_toDefineBits, .int 0, .ref g_ruledBits, .ref g_forms, .ref g_firsts, .ref g_seconds, .ref g_usedBits])), (an, .inr (2, [.ref g, .ref an_leads, .ref an_ranking, .ref an_sequences, .int 0, .int 0, .int (-1), .int (-1)]))] H := hP
  have hD : va_D A [(g, .inr (1, [.ref g_attributeCounts, .ref g_inheritedBits, .int 0, .ref g_symbolsAt, .ref g_lastPositions, .ref g_presentBits, .ref g_toDefineBits, .int 0, .ref g_ruledBits, .ref g_forms, .ref g_firsts, .ref g_seconds, .ref g_usedBits])), (an, .inr (2, [.ref g, .ref an_leads, .ref an_ranking, .ref an_sequences, .int 0, .int 0, .int (-1), .int (-1)]))] := hD
  refine lv_aload_n hx hb d_A_make_44 rfl (lv_at hl 0 rfl) ?_
  refine va_get (D := (dC, dI)) (ci := 2) (v := .int 0) (C := R_A) (T := F_A) (N := 8) hx hb hts u_A hown hK hP 1 rfl rfl 4 (by decide) (hts _ k_132) (fun _ h9 => h9) rfl d_A_make_45 ?_
  refine lv_if_eq (tgt := 58) hx hb d_A_make_48 (by decide) (fun _ => ?_) (fun h9 => absurd (by decide) h9)
  have hP9 := hP.sub (ws' := [(g, .inr (1, [.ref g_attributeCounts, .ref g_inheritedBits, .int 0, .ref g_symbolsAt, .ref g_lastPositions, .ref g_presentBits, .ref g_toDefineBits, .int 0, .ref g_ruledBits, .ref g_forms, .ref g_firsts, .ref g_seconds, .ref g_usedBits])), (an, .inr (2, [.ref g, .ref an_leads, .ref an_ranking, .ref an_sequences, .int 0, .int 0, .int (-1), .int (-1)]))]) [0, 1] rfl
  have hD9 := hD.sub (ws' := [(g, .inr (1, [.ref g_attributeCounts, .ref g_inheritedBits, .int 0, .ref g_symbolsAt, .ref g_lastPositions, .ref g_presentBits, .ref g_toDefineBits, .int 0, .ref g_ruledBits, .ref g_forms, .ref g_firsts, .ref g_seconds, .ref g_usedBits])), (an, .inr (2, [.ref g, .ref an_leads, .ref an_ranking, .ref an_sequences, .int 0, .int 0, .int (-1), .int (-1)]))]) [0, 1] (by decide) rfl
  have hK9 := hK.sub (tys' := []) [] rfl
  refine W.widen (k := 0) (n := 0) (by decide) (by decide) ?_
  exact W.vret hx hb hr (fun t ht hW => ⟨⟨(), rfl, trivial, by rw [ht]; exact hP9, va_K.moved hW.alike hK9, hD9⟩, hS.F ht⟩) hS.2.2 d_A_make_58

set_option maxHeartbeats 4000000 in
set_option maxRecDepth 100000 in
theorem t_V_reqT (l : Launch) (htr : l.stackTraces = false) (dC : Nat → ClassId) (dI : Nat → Nat → Nat) (x : Nat) (n : Int32) (a : Int32) (g : Nat) (an : Nat) (tr : Nat) (w : Nat) (tr_productions : Nat) (tr_tokens : Nat) (tr_parents : Nat) (tr_nodesAt : Nat) (sz : Nat) : vq_T l y_V_requireAttribute WS ({ frames := 6, cells := 1, slots := 6, locals := 82 }) (va_Pc [.ref x, .int n, .int a] (vq_Pre (dC, dI) CL sz [(x, .inr (0, [.ref g, .ref an, .ref tr, .ref w])), (tr, .inr (6, [.ref g, .ref tr_productions, .ref tr_tokens, .ref tr_parents, .ref tr_nodesAt, .int 0]))] [])) "java/lang/IndexOutOfBoundsException" (va_A [(x, .inr (0, [.ref g, .ref an, .ref tr, .ref w])), (tr, .inr (6, [.ref g, .ref tr_productions, .ref tr_tokens, .ref tr_parents, .ref tr_nodesAt, .int 0]))] sz) 1 6 := by
  refine vq_ofT (cc := prog_1_method_21_code) (maxL := 3) (ret := (Option.none : Option Jvm.ClassFile.FieldType)) (by decide) (vq_his k_133) ?_
  intro p e s m args below meth c s₁ B hml hv
  obtain ⟨rfl, hst, hsz, hP, hK, hD0⟩ := hv
  have hx := B.exec
  have hb := B.bytes
  have hr := B.returns
  have hts := atoms_spec (ws := WS) B.pre
  have hown : s.vm.findClass R_V = some m.cls := findClass_of_methodNamed B.named
  have hlocks := B.notSynchronized
  have hno := vq_noH B (hts _ k_133)
  subst hsz
  have hN := vq_ns hP
  have hD := hD0.self (sz := s.heap.size)
  generalize hAe : va_A [(x, .inr (0, [.ref g, .ref an, .ref tr, .ref w])), (tr, .inr (6, [.ref g, .ref tr_productions, .ref tr_tokens, .ref tr_parents, .ref tr_nodesAt, .int 0]))] s.heap.size = A at hD hN ⊢
  have hA : ∀ q : Nat, s.heap.size ≤ q → A q := fun q h => by rw [← hAe]; exact Or.inr h
  have hS : va_S A s.heap s.heap [] := va_S.rf
  have hP : va_P (dC, dI) CL [(x, .inr (0, [.ref g, .ref an, .ref tr, .ref w])), (tr, .inr (6, [.ref g, .ref tr_productions, .ref tr_tokens, .ref tr_parents, .ref tr_nodesAt, .int 0]))] s.heap := hP
  have hD : va_D A [(x, .inr (0, [.ref g, .ref an, .ref tr, .ref w])), (tr, .inr (6, [.ref g, .ref tr_productions, .ref tr_tokens, .ref tr_parents, .ref tr_nodesAt, .int 0]))] := hD
  have hl := lv_entry ([.ref x, .int n, .int a]) (n := 3) (Nat.le_of_ble_eq_true rfl)
  rw [lg_entry_eq]
  generalize (lg_sl ([.ref x, .int n, .int a]) ++ List.replicate (3 - (lg_sl ([.ref x, .int n, .int a])).length) Slot.unset).toArray = ls at hl ⊢
  have hl : lv_has ls 3 [(0, .ref x), (1, .int n), (2, .int a)] := hl
  refine lv_aload_n hx hb d_V_requireAttribute_0 rfl (lv_at hl 0 rfl) ?_
  refine va_get (D := (dC, dI)) (ci := 0) (v := .ref tr) (C := R_V) (T := F_V) (N := 4) hx hb hts u_V hown hK hP 0 rfl rfl 2 (by decide) (hts _ k_93) (fun _ h9 => h9) rfl d_V_requireAttribute_1 ?_
  refine lv_iload_n hx hb d_V_requireAttribute_4 rfl (lv_at hl 1 rfl) ?_
  have hPc := hP.sub (ws' := [(tr, .inr (6, [.ref g, .ref tr_productions, .ref tr_tokens, .ref tr_parents, .ref tr_nodesAt, .int 0]))]) [1] rfl
  have hDc := hD.sub (ws' := [(tr, .inr (6, [.ref g, .ref tr_productions, .ref tr_tokens, .ref tr_parents, .ref tr_nodesAt, .int 0]))]) [1] (by decide) rfl
  have hKc := hK.sub (tys' := []) [] rfl
  have hFc := va_free (wc := [(tr, .inr (6, [.ref g, .ref tr_productions, .ref tr_tokens, .ref tr_parents, .ref tr_nodesAt, .int 0]))]) hD hS hA [1] rfl
  refine va_calli (va_runV (As := [.int n]) (rest := []) ⟨hx, hb, hml, hown, hts⟩ (c_T_hasN l htr dC dI tr n g tr_productions tr_tokens tr_parents tr_nodesAt s.heap.size) (vq_cV WSk hts 1 rfl rfl ⟨by decide, by decide⟩ k_117 k_90 k_134 k_135 k_136 (by decide +kernel)) ⟨vq_blind, va_recv hK hP (ci := 6) (q0 := 1) rfl rfl, vq_here hst hS hN hPc hKc hDc⟩ rfl rfl hl.1 rfl (lv_room (Nat.le_of_ble_eq_true rfl)) d_V_requireAttribute_5 ⟨by decide, by decide⟩) hS (fun q _ h => hFc q h) hFc (fun r1 u t H1 locs ht hvm hw hB hz1 hk1 hS => ?_)
  obtain ⟨hP1, hK1, hD1⟩ := hB
  rw [ht] at hP1
  have hK1 := va_K.moved hvm.symm hK1
  have hw : r1 = 0 := hw
  subst hw
  obtain ⟨hP, hD⟩ := va_join (wr := [(x, .inr (0, [.ref g, .ref an, .ref tr, .ref w]))]) (w1 := [(tr, .inr (6, [.ref g, .ref tr_productions, .ref tr_tokens, .ref tr_parents, .ref tr_nodesAt, .int 0]))]) hP hD [1] [0] rfl rfl (by decide) (by decide) hk1 hFc hP1 hD1
  have hK := (hK.sub (tys' := []) [] rfl).app hK1
  generalize H1 = H at hP hS ⊢
  have hP : va_P (dC, dI) CL [(x, .inr (0, [.ref g, .ref an, .ref tr, .ref w])), (tr, .inr (6, [.ref g, .ref tr_productions, .ref tr_tokens, .ref tr_parents, .ref tr_nodesAt, .int 0]))] H := hP
  have hD : va_D A [(x, .inr (0, [.ref g, .ref an, .ref tr, .ref w])), (tr, .inr (6, [.ref g, .ref tr_productions, .ref tr_tokens, .ref tr_parents, .ref tr_nodesAt, .int 0]))] := hD
  have hK : va_K (dC, dI) CL [] s := hK
  refine W.widen (k := 0) (n := 0) (by decide) (by decide) ?_
  refine lv_if_eq (tgt := 30) hx hb d_V_requireAttribute_8 (by decide) (fun _ => ?_) (fun h9 => absurd (by decide) h9)
  exact vq_throw (names := up_names) hx hb htr hown (by decide +kernel) (by decide +kernel) (at_V_IndexOutOfBoundsException hts hst) (hts _ k_138) (hts _ k_139) (hts _ k_140) hS hA hN hno hlocks (by decide) (hl.1.trans hml.symm) d_V_requireAttribute_30 d_V_requireAttribute_33 d_V_requireAttribute_34 d_V_requireAttribute_36 d_V_requireAttribute_39
end
section
set_option maxHeartbeats 4000000 in
set_option maxRecDepth 100000 in
theorem c_V_symbol (l : Launch) (htr : l.stackTraces = false) (dC : Nat → ClassId) (dI : Nat → Nat → Nat) (x : Nat) (a : Int32) (inh : Int32) (g : Nat) (an : Nat) (tr : Nat) (w : Nat) (g_attributeCounts : Nat) (g_inheritedBits : Nat) (g_symbolsAt : Nat) (g_lastPositions : Nat) (g_presentBits : Nat) (g_toDefineBits : Nat) (g_ruledBits : Nat) (g_forms : Nat) (g_firsts : Nat) (g_seconds : Nat) (g_usedBits : Nat) (an_leads : Nat) (an_ranking : Nat) (an_sequences : Nat) (w_given : Nat) (w_values : Nat) (w_knownBits : Nat) (w_instructionsDone : Nat) (cac : ClassId) (fac : Nat → Int32) (cib : ClassId) (fib : Nat → Int32) (sz : Nat) (h0 : ¬ a < 0) (h4 : a ≤ 4) : Met l y_V_symbol WS ({ frames := 2, cells := 0, slots := 0, locals := 44 }) (va_Pc [.ref x, .int a, .int inh] (vq_Pre (dC, dI) CL sz [(x, .inr (0, [.ref g, .ref an, .ref tr, .ref w])), (g, .inr (1, [.ref g_attributeCounts, .ref g_inheritedBits, .int 0, .ref g_symbolsAt, .ref g_lastPositions, .ref g_presentBits, .ref g_toDefineBits, .int 0, .ref g_ruledBits, .ref g_forms, .ref g_firsts, .ref g_seconds, .ref g_usedBits])), (an, .inr (2, [.ref g, .ref an_leads, .ref an_ranking, .ref an_sequences, .int 0, .int 0, .int (-1), .int (-1)])), (w, .inr (7, [.ref g, .ref an_sequences, .ref tr, .ref w_given, .ref w_values, .ref w_knownBits, .ref w_instructionsDone, .int 0, .int 0, .int 0])), (g_attributeCounts, .inl (cac, 6, .inl fac)), (g_inheritedBits, .inl (cib, 6, .inl fib))] [(cac, .int), (cib, .int)])) (va_Qi (fun (r : Int32) (_ : Unit) => r = 0) (fun _ t => vq_Post (dC, dI) CL (va_A [(x, .inr (0, [.ref g, .ref an, .ref tr, .ref w])), (g, .inr (1, [.ref g_attributeCounts, .ref g_inheritedBits, .int 0, .ref g_symbolsAt, .ref g_lastPositions, .ref g_presentBits, .ref g_toDefineBits, .int 0, .ref g_ruledBits, .ref g_forms, .ref g_firsts, .ref g_seconds, .ref g_usedBits])), (an, .inr (2, [.ref g, .ref an_leads, .ref an_ranking, .ref an_sequences, .int 0, .int 0, .int (-1), .int (-1)])), (w, .inr (7, [.ref g, .ref an_sequences, .ref tr, .ref w_given, .ref w_values, .ref w_knownBits, .ref w_instructionsDone, .int 0, .int 0, .int 0])), (g_attributeCounts, .inl (cac, 6, .inl fac)), (g_inheritedBits, .inl (cib, 6, .inl fib))] sz) [] [] t) (va_A [(x, .inr (0, [.ref g, .ref an, .ref tr, .ref w])), (g, .inr (1, [.ref g_attributeCounts, .ref g_inheritedBits, .int 0, .ref g_symbolsAt, .ref g_lastPositions, .ref g_presentBits, .ref g_toDefineBits, .int 0, .ref g_ruledBits, .ref g_forms, .ref g_firsts, .ref g_seconds, .ref g_usedBits])), (an, .inr (2, [.ref g, .ref an_leads, .ref an_ranking, .ref an_sequences, .int 0, .int 0, .int (-1), .int (-1)])), (w, .inr (7, [.ref g, .ref an_sequences, .ref tr, .ref w_given, .ref w_values, .ref w_knownBits, .ref w_instructionsDone, .int 0, .int 0, .int 0])), (g_attributeCounts, .inl (cac, 6, .inl fac)), (g_inheritedBits, .inl (cib, 6, .inl fib))] sz)) 0 0 (va_A [(x, .inr (0, [.ref g, .ref an, .ref tr, .ref w])), (g, .inr (1, [.ref g_attributeCounts, .ref g_inheritedBits, .int 0, .ref g_symbolsAt, .ref g_lastPositions, .ref g_presentBits, .ref g_toDefineBits, .int 0, .ref g_ruledBits, .ref g_forms, .ref g_firsts, .ref g_seconds, .ref g_usedBits])), (an, .inr (2, [.ref g, .ref an_leads, .ref an_ranking, .ref an_sequences, .int 0, .int 0, .int (-1), .int (-1)])), (w, .inr (7, [.ref g, .ref an_sequences, .ref tr, .ref w_given, .ref w_values, .ref w_knownBits, .ref w_instructionsDone, .int 0, .int 0, .int 0])), (g_attributeCounts, .inl (cac, 6, .inl fac)), (g_inheritedBits, .inl (cib, 6, .inl fib))] sz) := by
  refine vq_ofW (cc := prog_1_method_2_code) (maxL := 3) (ret := (Option.some Jvm.ClassFile.FieldType.int)) (by decide) (vq_his k_141) ?_
  intro p e s m args below meth c s₁ B hml hv
  obtain ⟨rfl, hst, hsz, hP, hK, hD0⟩ := hv
  have hx := B.exec
  have hb := B.bytes
  have hr := B.returns
  have hts := atoms_spec (ws := WS) B.pre
  have hown : s.vm.findClass R_V = some m.cls := findClass_of_methodNamed B.named
  have hlocks := B.notSynchronized
  have hno := vq_noH B (hts _ k_141)
  subst hsz
  have hN := vq_ns hP
  have hD := hD0.self (sz := s.heap.size)
  generalize hAe : va_A [(x, .inr (0, [.ref g, .ref an, .ref tr, .ref w])), (g, .inr (1, [.ref g_attributeCounts, .ref g_inheritedBits, .int 0, .ref g_symbolsAt, .ref g_lastPositions, .ref g_presentBits, .ref g_toDefineBits, .int 0, .ref g_ruledBits, .ref g_forms, .ref g_firsts, .ref g_seconds, .ref g_usedBits])), (an, .inr (2, [.ref g, .ref an_leads, .ref an_ranking, .ref an_sequences, .int 0, .int 0, .int (-1), .int (-1)])), (w, .inr (7, [.ref g, .ref an_sequences, .ref tr, .ref w_given, .ref w_values, .ref w_knownBits, .ref w_instructionsDone, .int 0, .int 0, .int 0])), (g_attributeCounts, .inl (cac, 6, .inl fac)), (g_inheritedBits, .inl (cib, 6, .inl fib))] s.heap.size = A at hD hN ⊢
  have hA : ∀ q : Nat, s.heap.size ≤ q → A q := fun q h => by rw [← hAe]; exact Or.inr h
  have hS : va_S A s.heap s.heap [] := va_S.rf
  have hP : va_P (dC, dI) CL [(x, .inr (0, [.ref g, .ref an, .ref tr, .ref w])), (g, .inr (1, [.ref g_attributeCounts, .ref g_inheritedBits, .int 0, .ref g_symbolsAt, .ref g_lastPositions, .ref g_presentBits, .ref g_toDefineBits, .int 0, .ref g_ruledBits, .ref g_forms, .ref g_firsts, .ref g_seconds, .ref g_usedBits])), (an, .inr (2, [.ref g, .ref an_leads, .ref an_ranking, .ref an_sequences, .int 0, .int 0, .int (-1), .int (-1)])), (w, .inr (7, [.ref g, .ref an_sequences, .ref tr, .ref w_given, .ref w_values, .ref w_knownBits, .ref w_instructionsDone, .int 0, .int 0, .int 0])), (g_attributeCounts, .inl (cac, 6, .inl fac)), (g_inheritedBits, .inl (cib, 6, .inl fib))] s.heap := hP
  have hD : va_D A [(x, .inr (0, [.ref g, .ref an, .ref tr, .ref w])), (g, .inr (1, [.ref g_attributeCounts, .ref g_inheritedBits, .int 0, .ref g_symbolsAt, .ref g_lastPositions, .ref g_presentBits, .ref g_toDefineBits, .int 0, .ref g_ruledBits, .ref g_forms, .ref g_firsts, .ref g_seconds, .ref g_usedBits])), (an, .inr (2, [.ref g, .ref an_leads, .ref an_ranking, .ref an_sequences, .int 0, .int 0, .int (-1), .int (-1)])), (w, .inr (7, [.ref g, .ref an_sequences, .ref tr, .ref w_given, .ref w_values, .ref w_knownBits, .ref w_instructionsDone, .int 0, .int 0, .int 0])), (g_attributeCounts, .inl (cac, 6, .inl fac)), (g_inheritedBits, .inl (cib, 6, .inl fib))] := hD
  have hl := lv_entry ([.ref x, .int a, .int inh]) (n := 3) (Nat.le_of_ble_eq_true rfl)
  rw [lg_entry_eq]
  generalize (lg_sl ([.ref x, .int a, .int inh]) ++ List.replicate (3 - (lg_sl ([.ref x, .int a, .int inh])).length) Slot.unset).toArray = ls at hl ⊢
  have hl : lv_has ls 3 [(0, .ref x), (1, .int a), (2, .int inh)] := hl
  refine lv_iload_n hx hb d_V_symbol_0 rfl (lv_at hl 1 rfl) ?_
  refine lv_if_lt (tgt := 9) hx hb d_V_symbol_1 (by decide) (fun h9 => absurd h9 (h0)) (fun _ => ?_)
  refine lv_iload_n hx hb d_V_symbol_4 rfl (lv_at hl 1 rfl) ?_
  refine lv_iconst (v := 4) hx hb d_V_symbol_5 (by decide) ?_
  refine lv_icmp_le (tgt := 19) hx hb d_V_symbol_6 (by decide) (fun _ => ?_) (fun h9 => absurd (h4) h9)
  refine lv_aload_n hx hb d_V_symbol_19 rfl (lv_at hl 0 rfl) ?_
  refine va_get (D := (dC, dI)) (ci := 0) (v := .ref g) (C := R_V) (T := F_V) (N := 4) hx hb hts u_V hown hK hP 0 rfl rfl 0 (by decide) (hts _ k_81) (fun _ h9 => h9) rfl d_V_symbol_20 ?_
  refine va_getN (D := (dC, dI)) (ci := 1) (v := .int 0) (C := R_G) (T := F_G) (N := 13) hx hb hts u_G hown hK hP 1 rfl rfl 2 (by decide) (hts _ k_142) (fun _ h9 => h9) rfl d_V_symbol_23 ?_
  refine lv_bipush (v := 6) hx hb d_V_symbol_26 (by decide) ?_
  refine lv_icmp_ne (tgt := 41) hx hb d_V_symbol_28 (by decide) (fun _ => ?_) (fun h9 => absurd h9 (by decide))
  refine lv_aload_n hx hb d_V_symbol_41 rfl (lv_at hl 0 rfl) ?_
  have hPc := hP.sub (ws' := [(x, .inr (0, [.ref g, .ref an, .ref tr, .ref w])), (an, .inr (2, [.ref g, .ref an_leads, .ref an_ranking, .ref an_sequences, .int 0, .int 0, .int (-1), .int (-1)])), (w, .inr (7, [.ref g, .ref an_sequences, .ref tr, .ref w_given, .ref w_values, .ref w_knownBits, .ref w_instructionsDone, .int 0, .int 0, .int 0]))]) [0, 2, 3] rfl
  have hDc := hD.sub (ws' := [(x, .inr (0, [.ref g, .ref an, .ref tr, .ref w])), (an, .inr (2, [.ref g, .ref an_leads, .ref an_ranking, .ref an_sequences, .int 0, .int 0, .int (-1), .int (-1)])), (w, .inr (7, [.ref g, .ref an_sequences, .ref tr, .ref w_given, .ref w_values, .ref w_knownBits, .ref w_instructionsDone, .int 0, .int 0, .int 0]))]) [0, 2, 3] (by decide) rfl
  have hKc := hK.sub (tys' := []) [] rfl
  have hFc := va_free (wc := [(x, .inr (0, [.ref g, .ref an, .ref tr, .ref w])), (an, .inr (2, [.ref g, .ref an_leads, .ref an_ranking, .ref an_sequences, .int 0, .int 0, .int (-1), .int (-1)])), (w, .inr (7, [.ref g, .ref an_sequences, .ref tr, .ref w_given, .ref w_values, .ref w_knownBits, .ref w_instructionsDone, .int 0, .int 0, .int 0]))]) hD hS hA [0, 2, 3] rfl
  refine va_callv (va_runV (As := []) (rest := []) ⟨hx, hb, hml, hown, hts⟩ (c_V_drop l htr dC dI x g an tr w an_leads an_ranking an_sequences w_given w_values w_knownBits w_instructionsDone s.heap.size) (vq_cV WSk hts 0 rfl rfl ⟨by decide, by decide⟩ k_103 k_143 k_144 k_145 k_146 (by decide +kernel)) ⟨vq_blind, va_recv hK hP (ci := 0) (q0 := 0) rfl rfl, vq_here hst hS hN hPc hKc hDc⟩ rfl rfl hl.1 rfl (lv_room (Nat.le_of_ble_eq_true rfl)) d_V_symbol_42 ⟨by decide, by decide⟩) hS (fun q _ h => hFc q h) hFc (fun u t H1 locs ht hvm hw hB hz1 hk1 hS => ?_)
  obtain ⟨hP1, hK1, hD1⟩ := hB
  rw [ht] at hP1
  have hK1 := va_K.moved hvm.symm hK1
  obtain ⟨hP, hD⟩ := va_join (wr := [(g, .inr (1, [.ref g_attributeCounts, .ref g_inheritedBits, .int 0, .ref g_symbolsAt, .ref g_lastPositions, .ref g_presentBits, .ref g_toDefineBits, .int 0, .ref g_ruledBits, .ref g_forms, .ref g_firsts, .ref g_seconds, .ref g_usedBits])), (g_attributeCounts, .inl (cac, 6, .inl fac)), (g_inheritedBits, .inl (cib, 6, .inl fib))]) (w1 := [(x, .inr (0, [.ref g, .ref an, .ref tr, .ref w])), (an, .inr (2, [.ref g, .ref an_leads, .ref an_ranking, .ref an_sequences, .int 0, .int 0, .int (-1), .int (-1)])), (w, .inr (7, [.ref g, .ref an_sequences, .ref tr, .ref w_given, .ref w_values, .ref w_knownBits, .ref w_instructionsDone, .int 0, .int 0, .int 0]))]) hP hD [0, 2, 3] [1, 4, 5] rfl rfl (by decide) (by decide) hk1 hFc hP1 hD1
  have hK := (hK.sub (tys' := [(cac, .int), (cib, .int)]) [0, 1] rfl).app hK1
  generalize H1 = H at hP hS ⊢
  have hP : va_P (dC, dI) CL [(g, .inr (1, [.ref g_attributeCounts, .ref g_inheritedBits, .int 0, .ref g_symbolsAt, .ref g_lastPositions, .ref g_presentBits, .ref g_toDefineBits, .int 0, .ref g_ruledBits, .ref g_forms, .ref g_firsts, .ref g_seconds, .ref g_usedBits])), (g_attributeCounts, .inl (cac, 6, .inl fac)), (g_inheritedBits, .inl (cib, 6, .inl fib)), (x, .inr (0, [.ref g, .ref an, .ref tr, .ref w])), (an, .inr (2, [.ref g, .ref an_leads, .ref an_ranking, .ref an_sequences, .int 0, .int 0, .int (-1), .int (-1)])), (w, .inr (7, [.ref g, .ref an_sequences, .ref tr, .ref w_given, .ref w_values, .ref w_knownBits, .ref w_instructionsDone, .int 0, .int 0, .int 0]))] H := hP
  have hD : va_D A [(g, .inr (1, [.ref g_attributeCounts, .ref g_inheritedBits, .int 0, .ref g_symbolsAt, .ref g_lastPositions, .ref g_presentBits, .ref g_toDefineBits, .int 0, .ref g_ruledBits, .ref g_forms, .ref g_firsts, .ref g_seconds, .ref g_usedBits])), (g_attributeCounts, .inl (cac, 6, .inl fac)), (g_inheritedBits, .inl (cib, 6, .inl fib)), (x, .inr (0, [.ref g, .ref an, .ref tr, .ref w])), (an, .inr (2, [.ref g, .ref an_leads, .ref an_ranking, .ref an_sequences, .int 0, .int 0, .int (-1), .int (-1)])), (w, .inr (7, [.ref g, .ref an_sequences, .ref tr, .ref w_given, .ref w_values, .ref w_knownBits, .ref w_instructionsDone, .int 0, .int 0, .int 0]))] := hD
  have hK : va_K (dC, dI) CL [(cac, .int), (cib, .int)] s := hK
  refine W.widen (k := 0) (n := 0) (by decide) (by decide) ?_
  refine lv_aload_n hx hb d_V_symbol_45 rfl (lv_at hl 0 rfl) ?_
  refine va_get (D := (dC, dI)) (ci := 0) (v := .ref g) (C := R_V) (T := F_V) (N := 4) hx hb hts u_V hown hK hP 3 rfl rfl 0 (by decide) (hts _ k_81) (fun _ h9 => h9) rfl d_V_symbol_46 ?_
  refine lv_iload_n hx hb d_V_symbol_49 rfl (lv_at hl 1 rfl) ?_
  refine lv_iload_n hx hb d_V_symbol_50 rfl (lv_at hl 2 rfl) ?_
  have hPc := hP.sub (ws' := [(g, .inr (1, [.ref g_attributeCounts, .ref g_inheritedBits, .int 0, .ref g_symbolsAt, .ref g_lastPositions, .ref g_presentBits, .ref g_toDefineBits, .int 0, .ref g_ruledBits, .ref g_forms, .ref g_firsts, .ref g_seconds, .ref g_usedBits])), (g_attributeCounts, .inl (cac, 6, .inl fac)), (g_inheritedBits, .inl (cib, 6, .inl fib))]) [0, 1, 2] rfl
  have hDc := hD.sub (ws' := [(g, .inr (1, [.ref g_attributeCounts, .ref g_inheritedBits, .int 0, .ref g_symbolsAt, .ref g_lastPositions, .ref g_presentBits, .ref g_toDefineBits, .int 0, .ref g_ruledBits, .ref g_forms, .ref g_firsts, .ref g_seconds, .ref g_usedBits])), (g_attributeCounts, .inl (cac, 6, .inl fac)), (g_inheritedBits, .inl (cib, 6, .inl fib))]) [0, 1, 2] (by decide) rfl
  have hKc := hK.sub (tys' := [(cac, .int), (cib, .int)]) [0, 1] rfl
  have hFc := va_free (wc := [(g, .inr (1, [.ref g_attributeCounts, .ref g_inheritedBits, .int 0, .ref g_symbolsAt, .ref g_lastPositions, .ref g_presentBits, .ref g_toDefineBits, .int 0, .ref g_ruledBits, .ref g_forms, .ref g_firsts, .ref g_seconds, .ref g_usedBits])), (g_attributeCounts, .inl (cac, 6, .inl fac)), (g_inheritedBits, .inl (cib, 6, .inl fib))]) hD hS hA [0, 1, 2] rfl
  refine va_calli (va_runV (As := [.int a, .int inh]) (rest := []) ⟨hx, hb, hml, hown, hts⟩ (c_G_addS l htr dC dI g a inh g_attributeCounts g_inheritedBits g_symbolsAt g_lastPositions g_presentBits g_toDefineBits g_ruledBits g_forms g_firsts g_seconds g_usedBits cac fac cib fib H.size) (vq_cV WSk hts 2 rfl rfl ⟨by decide, by decide⟩ k_121 k_78 k_147 k_148 k_149 (by decide +kernel)) ⟨vq_blind, va_recv hK hP (ci := 1) (q0 := 0) rfl rfl, vq_here hst hS hN hPc hKc hDc⟩ rfl rfl hl.1 rfl (lv_room (Nat.le_of_ble_eq_true rfl)) d_V_symbol_51 ⟨by decide, by decide⟩) hS (fun q _ h => hFc q h) hFc (fun r2 u t H1 locs ht hvm hw hB hz1 hk1 hS => ?_)
  obtain ⟨hP1, hK1, hD1⟩ := hB
  rw [ht] at hP1
  have hK1 := va_K.moved hvm.symm hK1
  have hw : r2 = 0 := hw
  subst hw
  obtain ⟨hP, hD⟩ := va_join (wr := [(x, .inr (0, [.ref g, .ref an, .ref tr, .ref w])), (an, .inr (2, [.ref g, .ref an_leads, .ref an_ranking, .ref an_sequences, .int 0, .int 0, .int (-1), .int (-1)])), (w, .inr (7, [.ref g, .ref an_sequences, .ref tr, .ref w_given, .ref w_values, .ref w_knownBits, .ref w_instructionsDone, .int 0, .int 0, .int 0]))]) (w1 := []) hP hD [0, 1, 2] [3, 4, 5] rfl rfl (by decide) (by decide) hk1 hFc hP1 hD1
  have hK := (hK.sub (tys' := []) [] rfl).app hK1
  generalize H1 = H at hP hS ⊢
  have hP : va_P (dC, dI) CL [(x, .inr (0, [.ref g, .ref an, .ref tr, .ref w])), (an, .inr (2, [.ref g, .ref an_leads, .ref an_ranking, .ref an_sequences, .int 0, .int 0, .int (-1), .int (-1)])), (w, .inr (7, [.ref g, .ref an_sequences, .ref tr, .ref w_given, .ref w_values, .ref w_knownBits, .ref w_instructionsDone, .int 0, .int 0, .int 0]))] H := hP
  have hD : va_D A [(x, .inr (0, [.ref g, .ref an, .ref tr, .ref w])), (an, .inr (2, [.ref g, .ref an_leads, .ref an_ranking, .ref an_sequences, .int 0, .int 0, .int (-1), .int (-1)])), (w, .inr (7, [.ref g, .ref an_sequences, .ref tr, .ref w_given, .ref w_values, .ref w_knownBits, .ref w_instructionsDone, .int 0, .int 0, .int 0]))] := hD
  have hK : va_K (dC, dI) CL [] s := hK
  refine W.widen (k := 0) (n := 0) (by decide) (by decide) ?_
  have hP9 := hP.sub (ws' := []) [] rfl
  have hD9 := hD.sub (ws' := []) [] (by decide) rfl
  have hK9 := hK.sub (tys' := []) [] rfl
  refine W.widen (k := 0) (n := 0) (by decide) (by decide) ?_
  exact W.iret (v := 0) hx hb hr (fun t ht hW => ⟨⟨0, (), rfl, rfl, by rw [ht]; exact hP9, va_K.moved hW.alike hK9, hD9⟩, hS.F ht⟩) hS.2.2 d_V_symbol_54

set_option maxHeartbeats 4000000 in
set_option maxRecDepth 100000 in
theorem t_V_symbolL (l : Launch) (htr : l.stackTraces = false) (dC : Nat → ClassId) (dI : Nat → Nat → Nat) (x : Nat) (a : Int32) (inh : Int32) (g : Nat) (an : Nat) (tr : Nat) (w : Nat) (sz : Nat) (h0 : a < 0) : vq_T l y_V_symbol WS ({ frames := 6, cells := 1, slots := 6, locals := 82 }) (va_Pc [.ref x, .int a, .int inh] (vq_Pre (dC, dI) CL sz [(x, .inr (0, [.ref g, .ref an, .ref tr, .ref w]))] [])) "java/lang/IllegalArgumentException" (va_A [(x, .inr (0, [.ref g, .ref an, .ref tr, .ref w]))] sz) 1 6 := by
  refine vq_ofT (cc := prog_1_method_2_code) (maxL := 3) (ret := (Option.some Jvm.ClassFile.FieldType.int)) (by decide) (vq_his k_141) ?_
  intro p e s m args below meth c s₁ B hml hv
  obtain ⟨rfl, hst, hsz, hP, hK, hD0⟩ := hv
  have hx := B.exec
  have hb := B.bytes
  have hr := B.returns
  have hts := atoms_spec (ws := WS) B.pre
  have hown : s.vm.findClass R_V = some m.cls := findClass_of_methodNamed B.named
  have hlocks := B.notSynchronized
  have hno := vq_noH B (hts _ k_141)
  subst hsz
  have hN := vq_ns hP
  have hD := hD0.self (sz := s.heap.size)
  generalize hAe : va_A [(x, .inr (0, [.ref g, .ref an, .ref tr, .ref w]))] s.heap.size = A at hD hN ⊢
  have hA : ∀ q : Nat, s.heap.size ≤ q → A q := fun q h => by rw [← hAe]; exact Or.inr h
  have hS : va_S A s.heap s.heap [] := va_S.rf
  have hP : va_P (dC, dI) CL [(x, .inr (0, [.ref g, .ref an, .ref tr, .ref w]))] s.heap := hP
  have hD : va_D A [(x, .inr (0, [.ref g, .ref an, .ref tr, .ref w]))] := hD
  have hl := lv_entry ([.ref x, .int a, .int inh]) (n := 3) (Nat.le_of_ble_eq_true rfl)
  rw [lg_entry_eq]
  generalize (lg_sl ([.ref x, .int a, .int inh]) ++ List.replicate (3 - (lg_sl ([.ref x, .int a, .int inh])).length) Slot.unset).toArray = ls at hl ⊢
  have hl : lv_has ls 3 [(0, .ref x), (1, .int a), (2, .int inh)] := hl
  refine lv_iload_n hx hb d_V_symbol_0 rfl (lv_at hl 1 rfl) ?_
  refine lv_if_lt (tgt := 9) hx hb d_V_symbol_1 (by decide) (fun _ => ?_) (fun h9 => absurd (h0) h9)
  exact vq_throw (names := up_names) hx hb htr hown (by decide +kernel) (by decide +kernel) (at_V_IllegalArgumentException hts hst) (hts _ k_151) (hts _ k_152) (hts _ k_153) hS hA hN hno hlocks (by decide) (hl.1.trans hml.symm) d_V_symbol_9 d_V_symbol_12 d_V_symbol_13 d_V_symbol_15 d_V_symbol_18

set_option maxHeartbeats 4000000 in
set_option maxRecDepth 100000 in
theorem t_V_symbolG (l : Launch) (htr : l.stackTraces = false) (dC : Nat → ClassId) (dI : Nat → Nat → Nat) (x : Nat) (a : Int32) (inh : Int32) (g : Nat) (an : Nat) (tr : Nat) (w : Nat) (sz : Nat) (h0 : ¬ a < 0) (h4 : ¬ a ≤ 4) : vq_T l y_V_symbol WS ({ frames := 6, cells := 1, slots := 6, locals := 82 }) (va_Pc [.ref x, .int a, .int inh] (vq_Pre (dC, dI) CL sz [(x, .inr (0, [.ref g, .ref an, .ref tr, .ref w]))] [])) "java/lang/IllegalArgumentException" (va_A [(x, .inr (0, [.ref g, .ref an, .ref tr, .ref w]))] sz) 1 6 := by
  refine vq_ofT (cc := prog_1_method_2_code) (maxL := 3) (ret := (Option.some Jvm.ClassFile.FieldType.int)) (by decide) (vq_his k_141) ?_
  intro p e s m args below meth c s₁ B hml hv
  obtain ⟨rfl, hst, hsz, hP, hK, hD0⟩ := hv
  have hx := B.exec
  have hb := B.bytes
  have hr := B.returns
  have hts := atoms_spec (ws := WS) B.pre
  have hown : s.vm.findClass R_V = some m.cls := findClass_of_methodNamed B.named
  have hlocks := B.notSynchronized
  have hno := vq_noH B (hts _ k_141)
  subst hsz
  have hN := vq_ns hP
  have hD := hD0.self (sz := s.heap.size)
  generalize hAe : va_A [(x, .inr (0, [.ref g, .ref an, .ref tr, .ref w]))] s.heap.size = A at hD hN ⊢
  have hA : ∀ q : Nat, s.heap.size ≤ q → A q := fun q h => by rw [← hAe]; exact Or.inr h
  have hS : va_S A s.heap s.heap [] := va_S.rf
  have hP : va_P (dC, dI) CL [(x, .inr (0, [.ref g, .ref an, .ref tr, .ref w]))] s.heap := hP
  have hD : va_D A [(x, .inr (0, [.ref g, .ref an, .ref tr, .ref w]))] := hD
  have hl := lv_entry ([.ref x, .int a, .int inh]) (n := 3) (Nat.le_of_ble_eq_true rfl)
  rw [lg_entry_eq]
  generalize (lg_sl ([.ref x, .int a, .int inh]) ++ List.replicate (3 - (lg_sl ([.ref x, .int a, .int inh])).length) Slot.unset).toArray = ls at hl ⊢
  have hl : lv_has ls 3 [(0, .ref x), (1, .int a), (2, .int inh)] := hl
  refine lv_iload_n hx hb d_V_symbol_0 rfl (lv_at hl 1 rfl) ?_
  refine lv_if_lt (tgt := 9) hx hb d_V_symbol_1 (by decide) (fun h9 => absurd h9 (h0)) (fun _ => ?_)
  refine lv_iload_n hx hb d_V_symbol_4 rfl (lv_at hl 1 rfl) ?_
  refine lv_iconst (v := 4) hx hb d_V_symbol_5 (by decide) ?_
  refine lv_icmp_le (tgt := 19) hx hb d_V_symbol_6 (by decide) (fun h9 => absurd h9 (h4)) (fun _ => ?_)
  exact vq_throw (names := up_names) hx hb htr hown (by decide +kernel) (by decide +kernel) (at_V_IllegalArgumentException hts hst) (hts _ k_151) (hts _ k_152) (hts _ k_153) hS hA hN hno hlocks (by decide) (hl.1.trans hml.symm) d_V_symbol_9 d_V_symbol_12 d_V_symbol_13 d_V_symbol_15 d_V_symbol_18

set_option maxHeartbeats 4000000 in
set_option maxRecDepth 100000 in
theorem t_V_production (l : Launch) (htr : l.stackTraces = false) (dC : Nat → ClassId) (dI : Nat → Nat → Nat) (x : Nat) (a : Int32) (b : Int32) (c9 : Int32) (d9 : Int32) (g : Nat) (an : Nat) (tr : Nat) (w : Nat) (g_attributeCounts : Nat) (g_inheritedBits : Nat) (g_symbolsAt : Nat) (g_lastPositions : Nat) (g_presentBits : Nat) (g_toDefineBits : Nat) (g_ruledBits : Nat) (g_forms : Nat) (g_firsts : Nat) (g_seconds : Nat) (g_usedBits : Nat) (sz : Nat) : vq_T l y_V_production WS ({ frames := 6, cells := 1, slots := 6, locals := 82 }) (va_Pc [.ref x, .int a, .int b, .int c9, .int d9] (vq_Pre (dC, dI) CL sz [(x, .inr (0, [.ref g, .ref an, .ref tr, .ref w])), (g, .inr (1, [.ref g_attributeCounts, .ref g_inheritedBits, .int 0, .ref g_symbolsAt, .ref g_lastPositions, .ref g_presentBits, .ref g_toDefineBits, .int 0, .ref g_ruledBits, .ref g_forms, .ref g_firsts, .ref g_seconds, .ref g_usedBits]))] [])) "java/lang/IllegalArgumentException" (va_A [(x, .inr (0, [.ref g, .ref an, .ref tr, .ref w])), (g, .inr (1, [.ref g_attributeCounts, .ref g_inheritedBits, .int 0, .ref g_symbolsAt, .ref g_lastPositions, .ref g_presentBits, .ref g_toDefineBits, .int 0, .ref g_ruledBits, .ref g_forms, .ref g_firsts, .ref g_seconds, .ref g_usedBits]))] sz) 1 6 := by
  refine vq_ofT (cc := prog_1_method_3_code) (maxL := 5) (ret := (Option.some Jvm.ClassFile.FieldType.int)) (by decide) (vq_his k_154) ?_
  intro p e s m args below meth c s₁ B hml hv
  obtain ⟨rfl, hst, hsz, hP, hK, hD0⟩ := hv
  have hx := B.exec
  have hb := B.bytes
  have hr := B.returns
  have hts := atoms_spec (ws := WS) B.pre
  have hown : s.vm.findClass R_V = some m.cls := findClass_of_methodNamed B.named
  have hlocks := B.notSynchronized
  have hno := vq_noH B (hts _ k_154)
  subst hsz
  have hN := vq_ns hP
  have hD := hD0.self (sz := s.heap.size)
  generalize hAe : va_A [(x, .inr (0, [.ref g, .ref an, .ref tr, .ref w])), (g, .inr (1, [.ref g_attributeCounts, .ref g_inheritedBits, .int 0, .ref g_symbolsAt, .ref g_lastPositions, .ref g_presentBits, .ref g_toDefineBits, .int 0, .ref g_ruledBits, .ref g_forms, .ref g_firsts, .ref g_seconds, .ref g_usedBits]))] s.heap.size = A at hD hN ⊢
  have hA : ∀ q : Nat, s.heap.size ≤ q → A q := fun q h => by rw [← hAe]; exact Or.inr h
  have hS : va_S A s.heap s.heap [] := va_S.rf
  have hP : va_P (dC, dI) CL [(x, .inr (0, [.ref g, .ref an, .ref tr, .ref w])), (g, .inr (1, [.ref g_attributeCounts, .ref g_inheritedBits, .int 0, .ref g_symbolsAt, .ref g_lastPositions, .ref g_presentBits, .ref g_toDefineBits, .int 0, .ref g_ruledBits, .ref g_forms, .ref g_firsts, .ref g_seconds, .ref g_usedBits]))] s.heap := hP
  have hD : va_D A [(x, .inr (0, [.ref g, .ref an, .ref tr, .ref w])), (g, .inr (1, [.ref g_attributeCounts, .ref g_inheritedBits, .int 0, .ref g_symbolsAt, .ref g_lastPositions, .ref g_presentBits, .ref g_toDefineBits, .int 0, .ref g_ruledBits, .ref g_forms, .ref g_firsts, .ref g_seconds, .ref g_usedBits]))] := hD
  have hl := lv_entry ([.ref x, .int a, .int b, .int c9, .int d9]) (n := 5) (Nat.le_of_ble_eq_true rfl)
  rw [lg_entry_eq]
  generalize (lg_sl ([.ref x, .int a, .int b, .int c9, .int d9]) ++ List.replicate (5 - (lg_sl ([.ref x, .int a, .int b, .int c9, .int d9])).length) Slot.unset).toArray = ls at hl ⊢
  have hl : lv_has ls 5 [(0, .ref x), (1, .int a), (2, .int b), (3, .int c9), (4, .int d9)] := hl
  refine lv_aload_n hx hb d_V_production_0 rfl (lv_at hl 0 rfl) ?_
  refine va_get (D := (dC, dI)) (ci := 0) (v := .ref g) (C := R_V) (T := F_V) (N := 4) hx hb hts u_V hown hK hP 0 rfl rfl 0 (by decide) (hts _ k_81) (fun _ h9 => h9) rfl d_V_production_1 ?_
  refine lv_iload_n hx hb d_V_production_4 rfl (lv_at hl 1 rfl) ?_
  have hPc := hP.sub (ws' := [(g, .inr (1, [.ref g_attributeCounts, .ref g_inheritedBits, .int 0, .ref g_symbolsAt, .ref g_lastPositions, .ref g_presentBits, .ref g_toDefineBits, .int 0, .ref g_ruledBits, .ref g_forms, .ref g_firsts, .ref g_seconds, .ref g_usedBits]))]) [1] rfl
  have hDc := hD.sub (ws' := [(g, .inr (1, [.ref g_attributeCounts, .ref g_inheritedBits, .int 0, .ref g_symbolsAt, .ref g_lastPositions, .ref g_presentBits, .ref g_toDefineBits, .int 0, .ref g_ruledBits, .ref g_forms, .ref g_firsts, .ref g_seconds, .ref g_usedBits]))]) [1] (by decide) rfl
  have hKc := hK.sub (tys' := []) [] rfl
  have hFc := va_free (wc := [(g, .inr (1, [.ref g_attributeCounts, .ref g_inheritedBits, .int 0, .ref g_symbolsAt, .ref g_lastPositions, .ref g_presentBits, .ref g_toDefineBits, .int 0, .ref g_ruledBits, .ref g_forms, .ref g_firsts, .ref g_seconds, .ref g_usedBits]))]) hD hS hA [1] rfl
  refine va_calli (va_runV (As := [.int a]) (rest := []) ⟨hx, hb, hml, hown, hts⟩ (c_G_hasS l htr dC dI g a g_attributeCounts g_inheritedBits g_symbolsAt g_lastPositions g_presentBits g_toDefineBits g_ruledBits g_forms g_firsts g_seconds g_usedBits s.heap.size) (vq_cV WSk hts 1 rfl rfl ⟨by decide, by decide⟩ k_113 k_78 k_155 k_156 k_157 (by decide +kernel)) ⟨vq_blind, va_recv hK hP (ci := 1) (q0 := 1) rfl rfl, vq_here hst hS hN hPc hKc hDc⟩ rfl rfl hl.1 rfl (lv_room (Nat.le_of_ble_eq_true rfl)) d_V_production_5 ⟨by decide, by decide⟩) hS (fun q _ h => hFc q h) hFc (fun r1 u t H1 locs ht hvm hw hB hz1 hk1 hS => ?_)
  obtain ⟨hP1, hK1, hD1⟩ := hB
  rw [ht] at hP1
  have hK1 := va_K.moved hvm.symm hK1
  have hw : r1 = 0 := hw
  subst hw
  obtain ⟨hP, hD⟩ := va_join (wr := [(x, .inr (0, [.ref g, .ref an, .ref tr, .ref w]))]) (w1 := [(g, .inr (1, [.ref g_attributeCounts, .ref g_inheritedBits, .int 0, .ref g_symbolsAt, .ref g_lastPositions, .ref g_presentBits, .ref g_toDefineBits, .int 0, .ref g_ruledBits, .ref g_forms, .ref g_firsts, .ref g_seconds, .ref g_usedBits]))]) hP hD [1] [0] rfl rfl (by decide) (by decide) hk1 hFc hP1 hD1
  have hK := (hK.sub (tys' := []) [] rfl).app hK1
  generalize H1 = H at hP hS ⊢
  have hP : va_P (dC, dI) CL [(x, .inr (0, [.ref g, .ref an, .ref tr, .ref w])), (g, .inr (1, [.ref g_attributeCounts, .ref g_inheritedBits, .int 0, .ref g_symbolsAt, .ref g_lastPositions, .ref g_presentBits, .ref g_toDefineBits, .int 0, .ref g_ruledBits, .ref g_forms, .ref g_firsts, .ref g_seconds, .ref g_usedBits]))] H := hP
  have hD : va_D A [(x, .inr (0, [.ref g, .ref an, .ref tr, .ref w])), (g, .inr (1, [.ref g_attributeCounts, .ref g_inheritedBits, .int 0, .ref g_symbolsAt, .ref g_lastPositions, .ref g_presentBits, .ref g_toDefineBits, .int 0, .ref g_ruledBits, .ref g_forms, .ref g_firsts, .ref g_seconds, .ref g_usedBits]))] := hD
  have hK : va_K (dC, dI) CL [] s := hK
  refine W.widen (k := 0) (n := 0) (by decide) (by decide) ?_
  refine lv_if_eq (tgt := 25) hx hb d_V_production_8 (by decide) (fun _ => ?_) (fun h9 => absurd (by decide) h9)
  exact vq_throw (names := up_names) hx hb htr hown (by decide +kernel) (by decide +kernel) (at_V_IllegalArgumentException hts hst) (hts _ k_151) (hts _ k_152) (hts _ k_158) hS hA hN hno hlocks (by decide) (hl.1.trans hml.symm) d_V_production_25 d_V_production_28 d_V_production_29 d_V_production_31 d_V_production_34

set_option maxHeartbeats 4000000 in
set_option maxRecDepth 100000 in
theorem t_V_rule (l : Launch) (htr : l.stackTraces = false) (dC : Nat → ClassId) (dI : Nat → Nat → Nat) (x : Nat) (a : Int32) (b : Int32) (c9 : Int32) (d9 : Int32) (e9 : Int32) (g : Nat) (an : Nat) (tr : Nat) (w : Nat) (g_attributeCounts : Nat) (g_inheritedBits : Nat) (g_symbolsAt : Nat) (g_lastPositions : Nat) (g_presentBits : Nat) (g_toDefineBits : Nat) (g_ruledBits : Nat) (g_forms : Nat) (g_firsts : Nat) (g_seconds : Nat) (g_usedBits : Nat) (sz : Nat) : vq_T l y_V_rule WS ({ frames := 6, cells := 1, slots := 6, locals := 82 }) (va_Pc [.ref x, .int a, .int b, .int c9, .int d9, .int e9] (vq_Pre (dC, dI) CL sz [(x, .inr (0, [.ref g, .ref an, .ref tr, .ref w])), (g, .inr (1, [.ref g_attributeCounts, .ref g_inheritedBits, .int 0, .ref g_symbolsAt, .ref g_lastPositions, .ref g_presentBits, .ref g_toDefineBits, .int 0, .ref g_ruledBits, .ref g_forms, .ref g_firsts, .ref g_seconds, .ref g_usedBits]))] [])) "java/lang/IndexOutOfBoundsException" (va_A [(x, .inr (0, [.ref g, .ref an, .ref tr, .ref w])), (g, .inr (1, [.ref g_attributeCounts, .ref g_inheritedBits, .int 0, .ref g_symbolsAt, .ref g_lastPositions, .ref g_presentBits, .ref g_toDefineBits, .int 0, .ref g_ruledBits, .ref g_forms, .ref g_firsts, .ref g_seconds, .ref g_usedBits]))] sz) 1 6 := by
  refine vq_ofT (cc := prog_1_method_4_code) (maxL := 6) (ret := (Option.none : Option Jvm.ClassFile.FieldType)) (by decide) (vq_his k_159) ?_
  intro p e s m args below meth c s₁ B hml hv
  obtain ⟨rfl, hst, hsz, hP, hK, hD0⟩ := hv
  have hx := B.exec
  have hb := B.bytes
  have hr := B.returns
  have hts := atoms_spec (ws := WS) B.pre
  have hown : s.vm.findClass R_V = some m.cls := findClass_of_methodNamed B.named
  have hlocks := B.notSynchronized
  have hno := vq_noH B (hts _ k_159)
  subst hsz
  have hN := vq_ns hP
  have hD := hD0.self (sz := s.heap.size)
  generalize hAe : va_A [(x, .inr (0, [.ref g, .ref an, .ref tr, .ref w])), (g, .inr (1, [.ref g_attributeCounts, .ref g_inheritedBits, .int 0, .ref g_symbolsAt, .ref g_lastPositions, .ref g_presentBits, .ref g_toDefineBits, .int 0, .ref g_ruledBits, .ref g_forms, .ref g_firsts, .ref g_seconds, .ref g_usedBits]))] s.heap.size = A at hD hN ⊢
  have hA : ∀ q : Nat, s.heap.size ≤ q → A q := fun q h => by rw [← hAe]; exact Or.inr h
  have hS : va_S A s.heap s.heap [] := va_S.rf
  have hP : va_P (dC, dI) CL [(x, .inr (0, [.ref g, .ref an, .ref tr, .ref w])), (g, .inr (1, [.ref g_attributeCounts, .ref g_inheritedBits, .int 0, .ref g_symbolsAt, .ref g_lastPositions, .ref g_presentBits, .ref g_toDefineBits, .int 0, .ref g_ruledBits, .ref g_forms, .ref g_firsts, .ref g_seconds, .ref g_usedBits]))] s.heap := hP
  have hD : va_D A [(x, .inr (0, [.ref g, .ref an, .ref tr, .ref w])), (g, .inr (1, [.ref g_attributeCounts, .ref g_inheritedBits, .int 0, .ref g_symbolsAt, .ref g_lastPositions, .ref g_presentBits, .ref g_toDefineBits, .int 0, .ref g_ruledBits, .ref g_forms, .ref g_firsts, .ref g_seconds, .ref g_usedBits]))] := hD
  have hl := lv_entry ([.ref x, .int a, .int b, .int c9, .int d9, .int e9]) (n := 6) (Nat.le_of_ble_eq_true rfl)
  rw [lg_entry_eq]
  generalize (lg_sl ([.ref x, .int a, .int b, .int c9, .int d9, .int e9]) ++ List.replicate (6 - (lg_sl ([.ref x, .int a, .int b, .int c9, .int d9, .int e9])).length) Slot.unset).toArray = ls at hl ⊢
  have hl : lv_has ls 6 [(0, .ref x), (1, .int a), (2, .int b), (3, .int c9), (4, .int d9), (5, .int e9)] := hl
  refine lv_aload_n hx hb d_V_rule_0 rfl (lv_at hl 0 rfl) ?_
  refine va_get (D := (dC, dI)) (ci := 0) (v := .ref g) (C := R_V) (T := F_V) (N := 4) hx hb hts u_V hown hK hP 0 rfl rfl 0 (by decide) (hts _ k_81) (fun _ h9 => h9) rfl d_V_rule_1 ?_
  refine lv_iload_n hx hb d_V_rule_4 rfl (lv_at hl 1 rfl) ?_
  have hPc := hP.sub (ws' := [(g, .inr (1, [.ref g_attributeCounts, .ref g_inheritedBits, .int 0, .ref g_symbolsAt, .ref g_lastPositions, .ref g_presentBits, .ref g_toDefineBits, .int 0, .ref g_ruledBits, .ref g_forms, .ref g_firsts, .ref g_seconds, .ref g_usedBits]))]) [1] rfl
  have hDc := hD.sub (ws' := [(g, .inr (1, [.ref g_attributeCounts, .ref g_inheritedBits, .int 0, .ref g_symbolsAt, .ref g_lastPositions, .ref g_presentBits, .ref g_toDefineBits, .int 0, .ref g_ruledBits, .ref g_forms, .ref g_firsts, .ref g_seconds, .ref g_usedBits]))]) [1] (by decide) rfl
  have hKc := hK.sub (tys' := []) [] rfl
  have hFc := va_free (wc := [(g, .inr (1, [.ref g_attributeCounts, .ref g_inheritedBits, .int 0, .ref g_symbolsAt, .ref g_lastPositions, .ref g_presentBits, .ref g_toDefineBits, .int 0, .ref g_ruledBits, .ref g_forms, .ref g_firsts, .ref g_seconds, .ref g_usedBits]))]) hD hS hA [1] rfl
  refine va_calli (va_runV (As := [.int a]) (rest := []) ⟨hx, hb, hml, hown, hts⟩ (c_G_hasP l htr dC dI g a g_attributeCounts g_inheritedBits g_symbolsAt g_lastPositions g_presentBits g_toDefineBits g_ruledBits g_forms g_firsts g_seconds g_usedBits s.heap.size) (vq_cV WSk hts 1 rfl rfl ⟨by decide, by decide⟩ k_115 k_78 k_160 k_161 k_162 (by decide +kernel)) ⟨vq_blind, va_recv hK hP (ci := 1) (q0 := 1) rfl rfl, vq_here hst hS hN hPc hKc hDc⟩ rfl rfl hl.1 rfl (lv_room (Nat.le_of_ble_eq_true rfl)) d_V_rule_5 ⟨by decide, by decide⟩) hS (fun q _ h => hFc q h) hFc (fun r1 u t H1 locs ht hvm hw hB hz1 hk1 hS => ?_)
  obtain ⟨hP1, hK1, hD1⟩ := hB
  rw [ht] at hP1
  have hK1 := va_K.moved hvm.symm hK1
  have hw : r1 = 0 := hw
  subst hw
  obtain ⟨hP, hD⟩ := va_join (wr := [(x, .inr (0, [.ref g, .ref an, .ref tr, .ref w]))]) (w1 := [(g, .inr (1, [.ref g_attributeCounts, .ref g_inheritedBits, .int 0, .ref g_symbolsAt, .ref g_lastPositions, .ref g_presentBits, .ref g_toDefineBits, .int 0, .ref g_ruledBits, .ref g_forms, .ref g_firsts, .ref g_seconds, .ref g_usedBits]))]) hP hD [1] [0] rfl rfl (by decide) (by decide) hk1 hFc hP1 hD1
  have hK := (hK.sub (tys' := []) [] rfl).app hK1
  generalize H1 = H at hP hS ⊢
  have hP : va_P (dC, dI) CL [(x, .inr (0, [.ref g, .ref an, .ref tr, .ref w])), (g, .inr (1, [.ref g_attributeCounts, .ref g_inheritedBits, .int 0, .ref g_symbolsAt, .ref g_lastPositions, .ref g_presentBits, .ref g_toDefineBits, .int 0, .ref g_ruledBits, .ref g_forms, .ref g_firsts, .ref g_seconds, .ref g_usedBits]))] H := hP
  have hD : va_D A [(x, .inr (0, [.ref g, .ref an, .ref tr, .ref w])), (g, .inr (1, [.ref g_attributeCounts, .ref g_inheritedBits, .int 0, .ref g_symbolsAt, .ref g_lastPositions, .ref g_presentBits, .ref g_toDefineBits, .int 0, .ref g_ruledBits, .ref g_forms, .ref g_firsts, .ref g_seconds, .ref g_usedBits]))] := hD
  have hK : va_K (dC, dI) CL [] s := hK
  refine W.widen (k := 0) (n := 0) (by decide) (by decide) ?_
  refine lv_if_ne (tgt := 21) hx hb d_V_rule_8 (by decide) (fun h9 => absurd (by decide) h9) (fun _ => ?_)
  exact vq_throw (names := up_names) hx hb htr hown (by decide +kernel) (by decide +kernel) (at_V_IndexOutOfBoundsException hts hst) (hts _ k_138) (hts _ k_139) (hts _ k_163) hS hA hN hno hlocks (by decide) (hl.1.trans hml.symm) d_V_rule_11 d_V_rule_14 d_V_rule_15 d_V_rule_17 d_V_rule_20

set_option maxHeartbeats 4000000 in
set_option maxRecDepth 100000 in
theorem t_V_analyse (l : Launch) (htr : l.stackTraces = false) (dC : Nat → ClassId) (dI : Nat → Nat → Nat) (x : Nat) (g : Nat) (an : Nat) (tr : Nat) (w : Nat) (g_attributeCounts : Nat) (g_inheritedBits : Nat) (g_symbolsAt : Nat) (g_lastPositions : Nat) (g_presentBits : Nat) (g_toDefineBits : Nat) (g_ruledBits : Nat) (g_forms : Nat) (g_firsts : Nat) (g_seconds : Nat) (g_usedBits : Nat) (an_leads : Nat) (an_ranking : Nat) (an_sequences : Nat) (w_given : Nat) (w_values : Nat) (w_knownBits : Nat) (w_instructionsDone : Nat) (sz : Nat) : vq_T l y_V_analyse WS ({ frames := 6, cells := 1, slots := 6, locals := 82 }) (va_Pc [.ref x] (vq_Pre (dC, dI) CL sz [(x, .inr (0, [.ref g, .ref an, .ref tr, .ref w])), (g, .inr (1, [.ref g_attributeCounts, .ref g_inheritedBits, .int 0, .ref g_symbolsAt, .ref g_lastPositions, .ref g_presentBits, .ref g_toDefineBits, .int 0, .ref g_ruledBits, .ref g_forms, .ref g_firsts, .ref g_seconds, .ref g_usedBits])), (an, .inr (2, [.ref g, .ref an_leads, .ref an_ranking, .ref an_sequences, .int 0, .int 0, .int (-1), .int (-1)])), (w, .inr (7, [.ref g, .ref an_sequences, .ref tr, .ref w_given, .ref w_values, .ref w_knownBits, .ref w_instructionsDone, .int 0, .int 0, .int 0]))] [])) "java/lang/IllegalStateException" (va_A [(x, .inr (0, [.ref g, .ref an, .ref tr, .ref w])), (g, .inr (1, [.ref g_attributeCounts, .ref g_inheritedBits, .int 0, .ref g_symbolsAt, .ref g_lastPositions, .ref g_presentBits, .ref g_toDefineBits, .int 0, .ref g_ruledBits, .ref g_forms, .ref g_firsts, .ref g_seconds, .ref g_usedBits])), (an, .inr (2, [.ref g, .ref an_leads, .ref an_ranking, .ref an_sequences, .int 0, .int 0, .int (-1), .int (-1)])), (w, .inr (7, [.ref g, .ref an_sequences, .ref tr, .ref w_given, .ref w_values, .ref w_knownBits, .ref w_instructionsDone, .int 0, .int 0, .int 0]))] sz) 1 6 := by
  refine vq_ofT (cc := prog_1_method_5_code) (maxL := 1) (ret := (Option.some Jvm.ClassFile.FieldType.int)) (by decide) (vq_his k_164) ?_
  intro p e s m args below meth c s₁ B hml hv
  obtain ⟨rfl, hst, hsz, hP, hK, hD0⟩ := hv
  have hx := B.exec
  have hb := B.bytes
  have hr := B.returns
  have hts := atoms_spec (ws := WS) B.pre
  have hown : s.vm.findClass R_V = some m.cls := findClass_of_methodNamed B.named
  have hlocks := B.notSynchronized
  have hno := vq_noH B (hts _ k_164)
  subst hsz
  have hN := vq_ns hP
  have hD := hD0.self (sz := s.heap.size)
  generalize hAe : va_A [(x, .inr (0, [.ref g, .ref an, .ref tr, .ref w])), (g, .inr (1, [.ref g_attributeCounts, .ref g_inheritedBits, .int 0, .ref g_symbolsAt, .ref g_lastPositions, .ref g_presentBits, .ref g_toDefineBits, .int 0, .ref g_ruledBits, .ref g_forms, .ref g_firsts, .ref g_seconds, .ref g_usedBits])), (an, .inr (2, [.ref g, .ref an_leads, .ref an_ranking, .ref an_sequences, .int 0, .int 0, .int (-1), .int (-1)])), (w, .inr (7, [.ref g, .ref an_sequences, .ref tr, .ref w_given, .ref w_values, .ref w_knownBits, .ref w_instructionsDone, .int 0, .int 0, .int 0]))] s.heap.size = A at hD hN ⊢
  have hA : ∀ q : Nat, s.heap.size ≤ q → A q := fun q h => by rw [← hAe]; exact Or.inr h
  have hS : va_S A s.heap s.heap [] := va_S.rf
  have hP : va_P (dC, dI) CL [(x, .inr (0, [.ref g, .ref an, .ref tr, .ref w])), (g, .inr (1, [.ref g_attributeCounts, .ref g_inheritedBits, .int 0, .ref g_symbolsAt, .ref g_lastPositions, .ref g_presentBits, .ref g_toDefineBits, .int 0, .ref g_ruledBits, .ref g_forms, .ref g_firsts, .ref g_seconds, .ref g_usedBits])), (an, .inr (2, [.ref g, .ref an_leads, .ref an_ranking, .ref an_sequences, .int 0, .int 0, .int (-1), .int (-1)])), (w, .inr (7, [.ref g, .ref an_sequences, .ref tr, .ref w_given, .ref w_values, .ref w_knownBits, .ref w_instructionsDone, .int 0, .int 0, .int 0]))] s.heap := hP
  have hD : va_D A [(x, .inr (0, [.ref g, .ref an, .ref tr, .ref w])), (g, .inr (1, [.ref g_attributeCounts, .ref g_inheritedBits, .int 0, .ref g_symbolsAt, .ref g_lastPositions, .ref g_presentBits, .ref g_toDefineBits, .int 0, .ref g_ruledBits, .ref g_forms, .ref g_firsts, .ref g_seconds, .ref g_usedBits])), (an, .inr (2, [.ref g, .ref an_leads, .ref an_ranking, .ref an_sequences, .int 0, .int 0, .int (-1), .int (-1)])), (w, .inr (7, [.ref g, .ref an_sequences, .ref tr, .ref w_given, .ref w_values, .ref w_knownBits, .ref w_instructionsDone, .int 0, .int 0, .int 0]))] := hD
  have hl := lv_entry ([.ref x]) (n := 1) (Nat.le_of_ble_eq_true rfl)
  rw [lg_entry_eq]
  generalize (lg_sl ([.ref x]) ++ List.replicate (1 - (lg_sl ([.ref x])).length) Slot.unset).toArray = ls at hl ⊢
  have hl : lv_has ls 1 [(0, .ref x)] := hl
  refine lv_aload_n hx hb d_V_analyse_0 rfl (lv_at hl 0 rfl) ?_
  refine va_get (D := (dC, dI)) (ci := 0) (v := .ref w) (C := R_V) (T := F_V) (N := 4) hx hb hts u_V hown hK hP 0 rfl rfl 3 (by decide) (hts _ k_100) (fun _ h9 => h9) rfl d_V_analyse_1 ?_
  have hPc := hP.sub (ws' := [(w, .inr (7, [.ref g, .ref an_sequences, .ref tr, .ref w_given, .ref w_values, .ref w_knownBits, .ref w_instructionsDone, .int 0, .int 0, .int 0]))]) [3] rfl
  have hDc := hD.sub (ws' := [(w, .inr (7, [.ref g, .ref an_sequences, .ref tr, .ref w_given, .ref w_values, .ref w_knownBits, .ref w_instructionsDone, .int 0, .int 0, .int 0]))]) [3] (by decide) rfl
  have hKc := hK.sub (tys' := []) [] rfl
  have hFc := va_free (wc := [(w, .inr (7, [.ref g, .ref an_sequences, .ref tr, .ref w_given, .ref w_values, .ref w_knownBits, .ref w_instructionsDone, .int 0, .int 0, .int 0]))]) hD hS hA [3] rfl
  refine va_callv (va_runV (As := []) (rest := []) ⟨hx, hb, hml, hown, hts⟩ (c_U_end l htr dC dI w g an_sequences tr w_given w_values w_knownBits w_instructionsDone 0 s.heap.size) (vq_cV WSk hts 0 rfl rfl ⟨by decide, by decide⟩ k_101 k_96 k_105 k_106 k_107 (by decide +kernel)) ⟨vq_blind, va_recv hK hP (ci := 7) (q0 := 3) rfl rfl, vq_here hst hS hN hPc hKc hDc⟩ rfl rfl hl.1 rfl (lv_room (Nat.le_of_ble_eq_true rfl)) d_V_analyse_4 ⟨by decide, by decide⟩) hS (fun q _ h => hFc q h) hFc (fun u t H1 locs ht hvm hw hB hz1 hk1 hS => ?_)
  obtain ⟨hP1, hK1, hD1⟩ := hB
  rw [ht] at hP1
  have hK1 := va_K.moved hvm.symm hK1
  obtain ⟨hP, hD⟩ := va_join (wr := [(x, .inr (0, [.ref g, .ref an, .ref tr, .ref w])), (g, .inr (1, [.ref g_attributeCounts, .ref g_inheritedBits, .int 0, .ref g_symbolsAt, .ref g_lastPositions, .ref g_presentBits, .ref g_toDefineBits, .int 0, .ref g_ruledBits, .ref g_forms, .ref g_firsts, .ref g_seconds, .ref g_usedBits])), (an, .inr (2, [.ref g, .ref an_leads, .ref an_ranking, .ref an_sequences, .int 0, .int 0, .int (-1), .int (-1)]))]) (w1 := [(w, .inr (7, [.ref g, .ref an_sequences, .ref tr, .ref w_given, .ref w_values, .ref w_knownBits, .ref w_instructionsDone, .int 0, .int 0, .int 0]))]) hP hD [3] [0, 1, 2] rfl rfl (by decide) (by decide) hk1 hFc hP1 hD1
  have hK := (hK.sub (tys' := []) [] rfl).app hK1
  generalize H1 = H at hP hS ⊢
  have hP : va_P (dC, dI) CL [(x, .inr (0, [.ref g, .ref an, .ref tr, .ref w])), (g, .inr (1, [.ref g_attributeCounts, .ref g_inheritedBits, .int 0, .ref g_symbolsAt, .ref g_lastPositions, .ref g_presentBits, .ref g_toDefineBits, .int 0, .ref g_ruledBits, .ref g_forms, .ref g_firsts, .ref g_seconds, .ref g_usedBits])), (an, .inr (2, [.ref g, .ref an_leads, .ref an_ranking, .ref an_sequences, .int 0, .int 0, .int (-1), .int (-1)])), (w, .inr (7, [.ref g, .ref an_sequences, .ref tr, .ref w_given, .ref w_values, .ref w_knownBits, .ref w_instructionsDone, .int 0, .int 0, .int 0]))] H := hP
  have hD : va_D A [(x, .inr (0, [.ref g, .ref an, .ref tr, .ref w])), (g, .inr (1, [.ref g_attributeCounts, .ref g_inheritedBits, .int 0, .ref g_symbolsAt, .ref g_lastPositions, .ref g_presentBits, .ref g_toDefineBits, .int 0, .ref g_ruledBits, .ref g_forms, .ref g_firsts, .ref g_seconds, .ref g_usedBits])), (an, .inr (2, [.ref g, .ref an_leads, .ref an_ranking, .ref an_sequences, .int 0, .int 0, .int (-1), .int (-1)])), (w, .inr (7, [.ref g, .ref an_sequences, .ref tr, .ref w_given, .ref w_values, .ref w_knownBits, .ref w_instructionsDone, .int 0, .int 0, .int 0]))] := hD
  have hK : va_K (dC, dI) CL [] s := hK
  refine W.widen (k := 0) (n := 0) (by decide) (by decide) ?_
  refine lv_aload_n hx hb d_V_analyse_7 rfl (lv_at hl 0 rfl) ?_
  refine va_get (D := (dC, dI)) (ci := 0) (v := .ref an) (C := R_V) (T := F_V) (N := 4) hx hb hts u_V hown hK hP 0 rfl rfl 1 (by decide) (hts _ k_87) (fun _ h9 => h9) rfl d_V_analyse_8 ?_
  have hPc := hP.sub (ws' := [(an, .inr (2, [.ref g, .ref an_leads, .ref an_ranking, .ref an_sequences, .int 0, .int 0, .int (-1), .int (-1)])), (g, .inr (1, [.ref g_attributeCounts, .ref g_inheritedBits, .int 0, .ref g_symbolsAt, .ref g_lastPositions, .ref g_presentBits, .ref g_toDefineBits, .int 0, .ref g_ruledBits, .ref g_forms, .ref g_firsts, .ref g_seconds, .ref g_usedBits]))]) [2, 1] rfl
  have hDc := hD.sub (ws' := [(an, .inr (2, [.ref g, .ref an_leads, .ref an_ranking, .ref an_sequences, .int 0, .int 0, .int (-1), .int (-1)])), (g, .inr (1, [.ref g_attributeCounts, .ref g_inheritedBits, .int 0, .ref g_symbolsAt, .ref g_lastPositions, .ref g_presentBits, .ref g_toDefineBits, .int 0, .ref g_ruledBits, .ref g_forms, .ref g_firsts, .ref g_seconds, .ref g_usedBits]))]) [2, 1] (by decide) rfl
  have hKc := hK.sub (tys' := []) [] rfl
  have hFc := va_free (wc := [(an, .inr (2, [.ref g, .ref an_leads, .ref an_ranking, .ref an_sequences, .int 0, .int 0, .int (-1), .int (-1)])), (g, .inr (1, [.ref g_attributeCounts, .ref g_inheritedBits, .int 0, .ref g_symbolsAt, .ref g_lastPositions, .ref g_presentBits, .ref g_toDefineBits, .int 0, .ref g_ruledBits, .ref g_forms, .ref g_firsts, .ref g_seconds, .ref g_usedBits]))]) hD hS hA [2, 1] rfl
  refine va_callv (va_runV (As := []) (rest := []) ⟨hx, hb, hml, hown, hts⟩ (c_A_make l htr dC dI an g an_leads an_ranking an_sequences g_attributeCounts g_inheritedBits g_symbolsAt g_lastPositions g_presentBits g_toDefineBits g_ruledBits g_forms g_firsts g_seconds g_usedBits H.size) (vq_cV WSk hts 0 rfl rfl ⟨by decide, by decide⟩ k_127 k_84 k_165 k_166 k_167 (by decide +kernel)) ⟨vq_blind, va_recv hK hP (ci := 2) (q0 := 2) rfl rfl, vq_here hst hS hN hPc hKc hDc⟩ rfl rfl hl.1 rfl (lv_room (Nat.le_of_ble_eq_true rfl)) d_V_analyse_11 ⟨by decide, by decide⟩) hS (fun q _ h => hFc q h) hFc (fun u t H1 locs ht hvm hw hB hz1 hk1 hS => ?_)
  obtain ⟨hP1, hK1, hD1⟩ := hB
  rw [ht] at hP1
  have hK1 := va_K.moved hvm.symm hK1
  obtain ⟨hP, hD⟩ := va_join (wr := [(x, .inr (0, [.ref g, .ref an, .ref tr, .ref w])), (w, .inr (7, [.ref g, .ref an_sequences, .ref tr, .ref w_given, .ref w_values, .ref w_knownBits, .ref w_instructionsDone, .int 0, .int 0, .int 0]))]) (w1 := [(g, .inr (1, [.ref g_attributeCounts, .ref g_inheritedBits, .int 0, .ref g_symbolsAt, .ref g_lastPositions, .ref g_presentBits, .ref g_toDefineBits, .int 0, .ref g_ruledBits, .ref g_forms, .ref g_firsts, .ref g_seconds, .ref g_usedBits])), (an, .inr (2, [.ref g, .ref an_leads, .ref an_ranking, .ref an_sequences, .int 0, .int 0, .int (-1), .int (-1)]))]) hP hD [2, 1] [0, 3] rfl rfl (by decide) (by decide) hk1 hFc hP1 hD1
  have hK := (hK.sub (tys' := []) [] rfl).app hK1
  generalize H1 = H at hP hS ⊢
  have hP : va_P (dC, dI) CL [(x, .inr (0, [.ref g, .ref an, .ref tr, .ref w])), (w, .inr (7, [.ref g, .ref an_sequences, .ref tr, .ref w_given, .ref w_values, .ref w_knownBits, .ref w_instructionsDone, .int 0, .int 0, .int 0])), (g, .inr (1, [.ref g_attributeCounts, .ref g_inheritedBits, .int 0, .ref g_symbolsAt, .ref g_lastPositions, .ref g_presentBits, .ref g_toDefineBits, .int 0, .ref g_ruledBits, .ref g_forms, .ref g_firsts, .ref g_seconds, .ref g_usedBits])), (an, .inr (2, [.ref g, .ref an_leads, .ref an_ranking, .ref an_sequences, .int 0, .int 0, .int (-1), .int (-1)]))] H := hP
  have hD : va_D A [(x, .inr (0, [.ref g, .ref an, .ref tr, .ref w])), (w, .inr (7, [.ref g, .ref an_sequences, .ref tr, .ref w_given, .ref w_values, .ref w_knownBits, .ref w_instructionsDone, .int 0, .int 0, .int 0])), (g, .inr (1, [.ref g_attributeCounts, .ref g_inheritedBits, .int 0, .ref g_symbolsAt, .ref g_lastPositions, .ref g_presentBits, .ref g_toDefineBits, .int 0, .ref g_ruledBits, .ref g_forms, .ref g_firsts, .ref g_seconds, .ref g_usedBits])), (an, .inr (2, [.ref g, .ref an_leads, .ref an_ranking, .ref an_sequences, .int 0, .int 0, .int (-1), .int (-1)]))] := hD
  have hK : va_K (dC, dI) CL [] s := hK
  refine W.widen (k := 0) (n := 0) (by decide) (by decide) ?_
  refine lv_aload_n hx hb d_V_analyse_14 rfl (lv_at hl 0 rfl) ?_
  refine va_get (D := (dC, dI)) (ci := 0) (v := .ref an) (C := R_V) (T := F_V) (N := 4) hx hb hts u_V hown hK hP 0 rfl rfl 1 (by decide) (hts _ k_87) (fun _ h9 => h9) rfl d_V_analyse_15 ?_
  refine va_getN (D := (dC, dI)) (ci := 2) (v := .int 0) (C := R_A) (T := F_A) (N := 8) hx hb hts u_A hown hK hP 3 rfl rfl 5 (by decide) (hts _ k_168) (fun _ h9 => h9) rfl d_V_analyse_18 ?_
  refine lv_iconst (v := 2) hx hb d_V_analyse_21 (by decide) ?_
  refine lv_icmp_eq (tgt := 36) hx hb d_V_analyse_22 (by decide) (fun h9 => absurd h9 (by decide)) (fun _ => ?_)
  refine lv_aload_n hx hb d_V_analyse_25 rfl (lv_at hl 0 rfl) ?_
  refine va_get (D := (dC, dI)) (ci := 0) (v := .ref an) (C := R_V) (T := F_V) (N := 4) hx hb hts u_V hown hK hP 0 rfl rfl 1 (by decide) (hts _ k_87) (fun _ h9 => h9) rfl d_V_analyse_26 ?_
  refine va_getN (D := (dC, dI)) (ci := 2) (v := .int 0) (C := R_A) (T := F_A) (N := 8) hx hb hts u_A hown hK hP 3 rfl rfl 5 (by decide) (hts _ k_168) (fun _ h9 => h9) rfl d_V_analyse_29 ?_
  refine lv_iconst (v := 3) hx hb d_V_analyse_32 (by decide) ?_
  refine lv_icmp_ne (tgt := 46) hx hb d_V_analyse_33 (by decide) (fun _ => ?_) (fun h9 => absurd h9 (by decide))
  refine lv_aload_n hx hb d_V_analyse_46 rfl (lv_at hl 0 rfl) ?_
  refine va_get (D := (dC, dI)) (ci := 0) (v := .ref an) (C := R_V) (T := F_V) (N := 4) hx hb hts u_V hown hK hP 0 rfl rfl 1 (by decide) (hts _ k_87) (fun _ h9 => h9) rfl d_V_analyse_47 ?_
  refine va_getN (D := (dC, dI)) (ci := 2) (v := .int 0) (C := R_A) (T := F_A) (N := 8) hx hb hts u_A hown hK hP 3 rfl rfl 4 (by decide) (hts _ k_104) (fun _ h9 => h9) rfl d_V_analyse_50 ?_
  refine lv_if_ne (tgt := 66) hx hb d_V_analyse_53 (by decide) (fun h9 => absurd (by decide) h9) (fun _ => ?_)
  exact vq_throw (names := up_names) hx hb htr hown (by decide +kernel) (by decide +kernel) (at_V_IllegalStateException hts hst) (hts _ k_110) (hts _ k_111) (hts _ k_169) hS hA hN hno hlocks (by decide) (hl.1.trans hml.symm) d_V_analyse_56 d_V_analyse_59 d_V_analyse_60 d_V_analyse_62 d_V_analyse_65

set_option maxHeartbeats 4000000 in
set_option maxRecDepth 100000 in
theorem t_V_visits (l : Launch) (htr : l.stackTraces = false) (dC : Nat → ClassId) (dI : Nat → Nat → Nat) (x : Nat) (a : Int32) (g : Nat) (an : Nat) (tr : Nat) (w : Nat) (an_leads : Nat) (an_ranking : Nat) (an_sequences : Nat) (sz : Nat) : vq_T l y_V_visits WS ({ frames := 7, cells := 1, slots := 6, locals := 102 }) (va_Pc [.ref x, .int a] (vq_Pre (dC, dI) CL sz [(x, .inr (0, [.ref g, .ref an, .ref tr, .ref w])), (an, .inr (2, [.ref g, .ref an_leads, .ref an_ranking, .ref an_sequences, .int 0, .int 0, .int (-1), .int (-1)]))] [])) "java/lang/IllegalStateException" (va_A [(x, .inr (0, [.ref g, .ref an, .ref tr, .ref w])), (an, .inr (2, [.ref g, .ref an_leads, .ref an_ranking, .ref an_sequences, .int 0, .int 0, .int (-1), .int (-1)]))] sz) 1 6 := by
  refine vq_ofT (cc := prog_1_method_7_code) (maxL := 2) (ret := (Option.some Jvm.ClassFile.FieldType.int)) (by decide) (vq_his k_170) ?_
  intro p e s m args below meth c s₁ B hml hv
  obtain ⟨rfl, hst, hsz, hP, hK, hD0⟩ := hv
  have hx := B.exec
  have hb := B.bytes
  have hr := B.returns
  have hts := atoms_spec (ws := WS) B.pre
  have hown : s.vm.findClass R_V = some m.cls := findClass_of_methodNamed B.named
  have hlocks := B.notSynchronized
  have hno := vq_noH B (hts _ k_170)
  subst hsz
  have hN := vq_ns hP
  have hD := hD0.self (sz := s.heap.size)
  generalize hAe : va_A [(x, .inr (0, [.ref g, .ref an, .ref tr, .ref w])), (an, .inr (2, [.ref g, .ref an_leads, .ref an_ranking, .ref an_sequences, .int 0, .int 0, .int (-1), .int (-1)]))] s.heap.size = A at hD hN ⊢
  have hA : ∀ q : Nat, s.heap.size ≤ q → A q := fun q h => by rw [← hAe]; exact Or.inr h
  have hS : va_S A s.heap s.heap [] := va_S.rf
  have hP : va_P (dC, dI) CL [(x, .inr (0, [.ref g, .ref an, .ref tr, .ref w])), (an, .inr (2, [.ref g, .ref an_leads, .ref an_ranking, .ref an_sequences, .int 0, .int 0, .int (-1), .int (-1)]))] s.heap := hP
  have hD : va_D A [(x, .inr (0, [.ref g, .ref an, .ref tr, .ref w])), (an, .inr (2, [.ref g, .ref an_leads, .ref an_ranking, .ref an_sequences, .int 0, .int 0, .int (-1), .int (-1)]))] := hD
  have hl := lv_entry ([.ref x, .int a]) (n := 2) (Nat.le_of_ble_eq_true rfl)
  rw [lg_entry_eq]
  generalize (lg_sl ([.ref x, .int a]) ++ List.replicate (2 - (lg_sl ([.ref x, .int a])).length) Slot.unset).toArray = ls at hl ⊢
  have hl : lv_has ls 2 [(0, .ref x), (1, .int a)] := hl
  refine lv_aload_n hx hb d_V_visits_0 rfl (lv_at hl 0 rfl) ?_
  have hPc := hP.sub (ws' := [(x, .inr (0, [.ref g, .ref an, .ref tr, .ref w])), (an, .inr (2, [.ref g, .ref an_leads, .ref an_ranking, .ref an_sequences, .int 0, .int 0, .int (-1), .int (-1)]))]) [0, 1] rfl
  have hDc := hD.sub (ws' := [(x, .inr (0, [.ref g, .ref an, .ref tr, .ref w])), (an, .inr (2, [.ref g, .ref an_leads, .ref an_ranking, .ref an_sequences, .int 0, .int 0, .int (-1), .int (-1)]))]) [0, 1] (by decide) rfl
  have hKc := hK.sub (tys' := []) [] rfl
  have hFc := va_free (wc := [(x, .inr (0, [.ref g, .ref an, .ref tr, .ref w])), (an, .inr (2, [.ref g, .ref an_leads, .ref an_ranking, .ref an_sequences, .int 0, .int 0, .int (-1), .int (-1)]))]) hD hS hA [0, 1] rfl
  exact vq_pass (vq_runT (As := []) (rest := []) ⟨hx, hb, hml, hown, hts⟩ (t_V_reqA l htr dC dI x g an tr w an_leads an_ranking an_sequences s.heap.size) (vq_cV WSk hts 0 rfl rfl ⟨by decide, by decide⟩ k_108 k_143 k_171 k_172 k_173 (by decide +kernel)) ⟨vq_blind, va_recv hK hP (ci := 0) (q0 := 0) rfl rfl, vq_here hst hS hN hPc hKc hDc⟩ rfl rfl hl.1 rfl (lv_room (Nat.le_of_ble_eq_true rfl)) d_V_visits_1 ⟨by decide, by decide⟩) hS hFc hno hlocks (by decide) (by decide)

set_option maxHeartbeats 4000000 in
set_option maxRecDepth 100000 in
theorem t_V_rank (l : Launch) (htr : l.stackTraces = false) (dC : Nat → ClassId) (dI : Nat → Nat → Nat) (x : Nat) (a : Int32) (b : Int32) (g : Nat) (an : Nat) (tr : Nat) (w : Nat) (an_leads : Nat) (an_ranking : Nat) (an_sequences : Nat) (sz : Nat) : vq_T l y_V_rank WS ({ frames := 7, cells := 1, slots := 6, locals := 102 }) (va_Pc [.ref x, .int a, .int b] (vq_Pre (dC, dI) CL sz [(x, .inr (0, [.ref g, .ref an, .ref tr, .ref w])), (an, .inr (2, [.ref g, .ref an_leads, .ref an_ranking, .ref an_sequences, .int 0, .int 0, .int (-1), .int (-1)]))] [])) "java/lang/IllegalStateException" (va_A [(x, .inr (0, [.ref g, .ref an, .ref tr, .ref w])), (an, .inr (2, [.ref g, .ref an_leads, .ref an_ranking, .ref an_sequences, .int 0, .int 0, .int (-1), .int (-1)]))] sz) 1 6 := by
  refine vq_ofT (cc := prog_1_method_8_code) (maxL := 3) (ret := (Option.some Jvm.ClassFile.FieldType.int)) (by decide) (vq_his k_174) ?_
  intro p e s m args below meth c s₁ B hml hv
  obtain ⟨rfl, hst, hsz, hP, hK, hD0⟩ := hv
  have hx := B.exec
  have hb := B.bytes
  have hr := B.returns
  have hts := atoms_spec (ws := WS) B.pre
  have hown : s.vm.findClass R_V = some m.cls := findClass_of_methodNamed B.named
  have hlocks := B.notSynchronized
  have hno := vq_noH B (hts _ k_174)
  subst hsz
  have hN := vq_ns hP
  have hD := hD0.self (sz := s.heap.size)
  generalize hAe : va_A [(x, .inr (0, [.ref g, .ref an, .ref tr, .ref w])), (an, .inr (2, [.ref g, .ref an_leads, .ref an_ranking, .ref an_sequences, .int 0, .int 0, .int (-1), .int (-1)]))] s.heap.size = A at hD hN ⊢
  have hA : ∀ q : Nat, s.heap.size ≤ q → A q := fun q h => by rw [← hAe]; exact Or.inr h
  have hS : va_S A s.heap s.heap [] := va_S.rf
  have hP : va_P (dC, dI) CL [(x, .inr (0, [.ref g, .ref an, .ref tr, .ref w])), (an, .inr (2, [.ref g, .ref an_leads, .ref an_ranking, .ref an_sequences, .int 0, .int 0, .int (-1), .int (-1)]))] s.heap := hP
  have hD : va_D A [(x, .inr (0, [.ref g, .ref an, .ref tr, .ref w])), (an, .inr (2, [.ref g, .ref an_leads, .ref an_ranking, .ref an_sequences, .int 0, .int 0, .int (-1), .int (-1)]))] := hD
  have hl := lv_entry ([.ref x, .int a, .int b]) (n := 3) (Nat.le_of_ble_eq_true rfl)
  rw [lg_entry_eq]
  generalize (lg_sl ([.ref x, .int a, .int b]) ++ List.replicate (3 - (lg_sl ([.ref x, .int a, .int b])).length) Slot.unset).toArray = ls at hl ⊢
  have hl : lv_has ls 3 [(0, .ref x), (1, .int a), (2, .int b)] := hl
  refine lv_aload_n hx hb d_V_rank_0 rfl (lv_at hl 0 rfl) ?_
  have hPc := hP.sub (ws' := [(x, .inr (0, [.ref g, .ref an, .ref tr, .ref w])), (an, .inr (2, [.ref g, .ref an_leads, .ref an_ranking, .ref an_sequences, .int 0, .int 0, .int (-1), .int (-1)]))]) [0, 1] rfl
  have hDc := hD.sub (ws' := [(x, .inr (0, [.ref g, .ref an, .ref tr, .ref w])), (an, .inr (2, [.ref g, .ref an_leads, .ref an_ranking, .ref an_sequences, .int 0, .int 0, .int (-1), .int (-1)]))]) [0, 1] (by decide) rfl
  have hKc := hK.sub (tys' := []) [] rfl
  have hFc := va_free (wc := [(x, .inr (0, [.ref g, .ref an, .ref tr, .ref w])), (an, .inr (2, [.ref g, .ref an_leads, .ref an_ranking, .ref an_sequences, .int 0, .int 0, .int (-1), .int (-1)]))]) hD hS hA [0, 1] rfl
  exact vq_pass (vq_runT (As := []) (rest := []) ⟨hx, hb, hml, hown, hts⟩ (t_V_reqA l htr dC dI x g an tr w an_leads an_ranking an_sequences s.heap.size) (vq_cV WSk hts 0 rfl rfl ⟨by decide, by decide⟩ k_108 k_143 k_171 k_172 k_173 (by decide +kernel)) ⟨vq_blind, va_recv hK hP (ci := 0) (q0 := 0) rfl rfl, vq_here hst hS hN hPc hKc hDc⟩ rfl rfl hl.1 rfl (lv_room (Nat.le_of_ble_eq_true rfl)) d_V_rank_1 ⟨by decide, by decide⟩) hS hFc hno hlocks (by decide) (by decide)

set_option maxHeartbeats 4000000 in
set_option maxRecDepth 100000 in
theorem t_V_instruction (l : Launch) (htr : l.stackTraces = false) (dC : Nat → ClassId) (dI : Nat → Nat → Nat) (x : Nat) (a : Int32) (b : Int32) (g : Nat) (an : Nat) (tr : Nat) (w : Nat) (an_leads : Nat) (an_ranking : Nat) (an_sequences : Nat) (sz : Nat) : vq_T l y_V_instruction WS ({ frames := 7, cells := 1, slots := 6, locals := 102 }) (va_Pc [.ref x, .int a, .int b] (vq_Pre (dC, dI) CL sz [(x, .inr (0, [.ref g, .ref an, .ref tr, .ref w])), (an, .inr (2, [.ref g, .ref an_leads, .ref an_ranking, .ref an_sequences, .int 0, .int 0, .int (-1), .int (-1)]))] [])) "java/lang/IllegalStateException" (va_A [(x, .inr (0, [.ref g, .ref an, .ref tr, .ref w])), (an, .inr (2, [.ref g, .ref an_leads, .ref an_ranking, .ref an_sequences, .int 0, .int 0, .int (-1), .int (-1)]))] sz) 1 6 := by
  refine vq_ofT (cc := prog_1_method_9_code) (maxL := 3) (ret := (Option.some Jvm.ClassFile.FieldType.int)) (by decide) (vq_his k_175) ?_
  intro p e s m args below meth c s₁ B hml hv
  obtain ⟨rfl, hst, hsz, hP, hK, hD0⟩ := hv
  have hx := B.exec
  have hb := B.bytes
  have hr := B.returns
  have hts := atoms_spec (ws := WS) B.pre
  have hown : s.vm.findClass R_V = some m.cls := findClass_of_methodNamed B.named
  have hlocks := B.notSynchronized
  have hno := vq_noH B (hts _ k_175)
  subst hsz
  have hN := vq_ns hP
  have hD := hD0.self (sz := s.heap.size)
  generalize hAe : va_A [(x, .inr (0, [.ref g, .ref an, .ref tr, .ref w])), (an, .inr (2, [.ref g, .ref an_leads, .ref an_ranking, .ref an_sequences, .int 0, .int 0, .int (-1), .int (-1)]))] s.heap.size = A at hD hN ⊢
  have hA : ∀ q : Nat, s.heap.size ≤ q → A q := fun q h => by rw [← hAe]; exact Or.inr h
  have hS : va_S A s.heap s.heap [] := va_S.rf
  have hP : va_P (dC, dI) CL [(x, .inr (0, [.ref g, .ref an, .ref tr, .ref w])), (an, .inr (2, [.ref g, .ref an_leads, .ref an_ranking, .ref an_sequences, .int 0, .int 0, .int (-1), .int (-1)]))] s.heap := hP
  have hD : va_D A [(x, .inr (0, [.ref g, .ref an, .ref tr, .ref w])), (an, .inr (2, [.ref g, .ref an_leads, .ref an_ranking, .ref an_sequences, .int 0, .int 0, .int (-1), .int (-1)]))] := hD
  have hl := lv_entry ([.ref x, .int a, .int b]) (n := 3) (Nat.le_of_ble_eq_true rfl)
  rw [lg_entry_eq]
  generalize (lg_sl ([.ref x, .int a, .int b]) ++ List.replicate (3 - (lg_sl ([.ref x, .int a, .int b])).length) Slot.unset).toArray = ls at hl ⊢
  have hl : lv_has ls 3 [(0, .ref x), (1, .int a), (2, .int b)] := hl
  refine lv_aload_n hx hb d_V_instruction_0 rfl (lv_at hl 0 rfl) ?_
  have hPc := hP.sub (ws' := [(x, .inr (0, [.ref g, .ref an, .ref tr, .ref w])), (an, .inr (2, [.ref g, .ref an_leads, .ref an_ranking, .ref an_sequences, .int 0, .int 0, .int (-1), .int (-1)]))]) [0, 1] rfl
  have hDc := hD.sub (ws' := [(x, .inr (0, [.ref g, .ref an, .ref tr, .ref w])), (an, .inr (2, [.ref g, .ref an_leads, .ref an_ranking, .ref an_sequences, .int 0, .int 0, .int (-1), .int (-1)]))]) [0, 1] (by decide) rfl
  have hKc := hK.sub (tys' := []) [] rfl
  have hFc := va_free (wc := [(x, .inr (0, [.ref g, .ref an, .ref tr, .ref w])), (an, .inr (2, [.ref g, .ref an_leads, .ref an_ranking, .ref an_sequences, .int 0, .int 0, .int (-1), .int (-1)]))]) hD hS hA [0, 1] rfl
  exact vq_pass (vq_runT (As := []) (rest := []) ⟨hx, hb, hml, hown, hts⟩ (t_V_reqA l htr dC dI x g an tr w an_leads an_ranking an_sequences s.heap.size) (vq_cV WSk hts 0 rfl rfl ⟨by decide, by decide⟩ k_108 k_143 k_171 k_172 k_173 (by decide +kernel)) ⟨vq_blind, va_recv hK hP (ci := 0) (q0 := 0) rfl rfl, vq_here hst hS hN hPc hKc hDc⟩ rfl rfl hl.1 rfl (lv_room (Nat.le_of_ble_eq_true rfl)) d_V_instruction_1 ⟨by decide, by decide⟩) hS hFc hno hlocks (by decide) (by decide)

set_option maxHeartbeats 4000000 in
set_option maxRecDepth 100000 in
theorem t_V_node (l : Launch) (htr : l.stackTraces = false) (dC : Nat → ClassId) (dI : Nat → Nat → Nat) (x : Nat) (a : Int32) (b : Int32) (c9 : Int32) (d9 : Int32) (e9 : Int32) (g : Nat) (an : Nat) (tr : Nat) (w : Nat) (g_attributeCounts : Nat) (g_inheritedBits : Nat) (g_symbolsAt : Nat) (g_lastPositions : Nat) (g_presentBits : Nat) (g_toDefineBits : Nat) (g_ruledBits : Nat) (g_forms : Nat) (g_firsts : Nat) (g_seconds : Nat) (g_usedBits : Nat) (sz : Nat) : vq_T l y_V_node WS ({ frames := 6, cells := 1, slots := 6, locals := 82 }) (va_Pc [.ref x, .int a, .int b, .int c9, .int d9, .int e9] (vq_Pre (dC, dI) CL sz [(x, .inr (0, [.ref g, .ref an, .ref tr, .ref w])), (g, .inr (1, [.ref g_attributeCounts, .ref g_inheritedBits, .int 0, .ref g_symbolsAt, .ref g_lastPositions, .ref g_presentBits, .ref g_toDefineBits, .int 0, .ref g_ruledBits, .ref g_forms, .ref g_firsts, .ref g_seconds, .ref g_usedBits]))] [])) "java/lang/IllegalArgumentException" (va_A [(x, .inr (0, [.ref g, .ref an, .ref tr, .ref w])), (g, .inr (1, [.ref g_attributeCounts, .ref g_inheritedBits, .int 0, .ref g_symbolsAt, .ref g_lastPositions, .ref g_presentBits, .ref g_toDefineBits, .int 0, .ref g_ruledBits, .ref g_forms, .ref g_firsts, .ref g_seconds, .ref g_usedBits]))] sz) 1 6 := by
  refine vq_ofT (cc := prog_1_method_10_code) (maxL := 6) (ret := (Option.some Jvm.ClassFile.FieldType.int)) (by decide) (vq_his k_176) ?_
  intro p e s m args below meth c s₁ B hml hv
  obtain ⟨rfl, hst, hsz, hP, hK, hD0⟩ := hv
  have hx := B.exec
  have hb := B.bytes
  have hr := B.returns
  have hts := atoms_spec (ws := WS) B.pre
  have hown : s.vm.findClass R_V = some m.cls := findClass_of_methodNamed B.named
  have hlocks := B.notSynchronized
  have hno := vq_noH B (hts _ k_176)
  subst hsz
  have hN := vq_ns hP
  have hD := hD0.self (sz := s.heap.size)
  generalize hAe : va_A [(x, .inr (0, [.ref g, .ref an, .ref tr, .ref w])), (g, .inr (1, [.ref g_attributeCounts, .ref g_inheritedBits, .int 0, .ref g_symbolsAt, .ref g_lastPositions, .ref g_presentBits, .ref g_toDefineBits, .int 0, .ref g_ruledBits, .ref g_forms, .ref g_firsts, .ref g_seconds, .ref g_usedBits]))] s.heap.size = A at hD hN ⊢
  have hA : ∀ q : Nat, s.heap.size ≤ q → A q := fun q h => by rw [← hAe]; exact Or.inr h
  have hS : va_S A s.heap s.heap [] := va_S.rf
  have hP : va_P (dC, dI) CL [(x, .inr (0, [.ref g, .ref an, .ref tr, .ref w])), (g, .inr (1, [.ref g_attributeCounts, .ref g_inheritedBits, .int 0, .ref g_symbolsAt, .ref g_lastPositions, .ref g_presentBits, .ref g_toDefineBits, .int 0, .ref g_ruledBits, .ref g_forms, .ref g_firsts, .ref g_seconds, .ref g_usedBits]))] s.heap := hP
  have hD : va_D A [(x, .inr (0, [.ref g, .ref an, .ref tr, .ref w])), (g, .inr (1, [.ref g_attributeCounts, .ref g_inheritedBits, .int 0, .ref g_symbolsAt, .ref g_lastPositions, .ref g_presentBits, .ref g_toDefineBits, .int 0, .ref g_ruledBits, .ref g_forms, .ref g_firsts, .ref g_seconds, .ref g_usedBits]))] := hD
  have hl := lv_entry ([.ref x, .int a, .int b, .int c9, .int d9, .int e9]) (n := 6) (Nat.le_of_ble_eq_true rfl)
  rw [lg_entry_eq]
  generalize (lg_sl ([.ref x, .int a, .int b, .int c9, .int d9, .int e9]) ++ List.replicate (6 - (lg_sl ([.ref x, .int a, .int b, .int c9, .int d9, .int e9])).length) Slot.unset).toArray = ls at hl ⊢
  have hl : lv_has ls 6 [(0, .ref x), (1, .int a), (2, .int b), (3, .int c9), (4, .int d9), (5, .int e9)] := hl
  refine lv_aload_n hx hb d_V_node_0 rfl (lv_at hl 0 rfl) ?_
  refine va_get (D := (dC, dI)) (ci := 0) (v := .ref g) (C := R_V) (T := F_V) (N := 4) hx hb hts u_V hown hK hP 0 rfl rfl 0 (by decide) (hts _ k_81) (fun _ h9 => h9) rfl d_V_node_1 ?_
  refine lv_iload_n hx hb d_V_node_4 rfl (lv_at hl 1 rfl) ?_
  have hPc := hP.sub (ws' := [(g, .inr (1, [.ref g_attributeCounts, .ref g_inheritedBits, .int 0, .ref g_symbolsAt, .ref g_lastPositions, .ref g_presentBits, .ref g_toDefineBits, .int 0, .ref g_ruledBits, .ref g_forms, .ref g_firsts, .ref g_seconds, .ref g_usedBits]))]) [1] rfl
  have hDc := hD.sub (ws' := [(g, .inr (1, [.ref g_attributeCounts, .ref g_inheritedBits, .int 0, .ref g_symbolsAt, .ref g_lastPositions, .ref g_presentBits, .ref g_toDefineBits, .int 0, .ref g_ruledBits, .ref g_forms, .ref g_firsts, .ref g_seconds, .ref g_usedBits]))]) [1] (by decide) rfl
  have hKc := hK.sub (tys' := []) [] rfl
  have hFc := va_free (wc := [(g, .inr (1, [.ref g_attributeCounts, .ref g_inheritedBits, .int 0, .ref g_symbolsAt, .ref g_lastPositions, .ref g_presentBits, .ref g_toDefineBits, .int 0, .ref g_ruledBits, .ref g_forms, .ref g_firsts, .ref g_seconds, .ref g_usedBits]))]) hD hS hA [1] rfl
  refine va_calli (va_runV (As := [.int a]) (rest := []) ⟨hx, hb, hml, hown, hts⟩ (c_G_hasP l htr dC dI g a g_attributeCounts g_inheritedBits g_symbolsAt g_lastPositions g_presentBits g_toDefineBits g_ruledBits g_forms g_firsts g_seconds g_usedBits s.heap.size) (vq_cV WSk hts 1 rfl rfl ⟨by decide, by decide⟩ k_115 k_78 k_160 k_161 k_162 (by decide +kernel)) ⟨vq_blind, va_recv hK hP (ci := 1) (q0 := 1) rfl rfl, vq_here hst hS hN hPc hKc hDc⟩ rfl rfl hl.1 rfl (lv_room (Nat.le_of_ble_eq_true rfl)) d_V_node_5 ⟨by decide, by decide⟩) hS (fun q _ h => hFc q h) hFc (fun r1 u t H1 locs ht hvm hw hB hz1 hk1 hS => ?_)
  obtain ⟨hP1, hK1, hD1⟩ := hB
  rw [ht] at hP1
  have hK1 := va_K.moved hvm.symm hK1
  have hw : r1 = 0 := hw
  subst hw
  obtain ⟨hP, hD⟩ := va_join (wr := [(x, .inr (0, [.ref g, .ref an, .ref tr, .ref w]))]) (w1 := [(g, .inr (1, [.ref g_attributeCounts, .ref g_inheritedBits, .int 0, .ref g_symbolsAt, .ref g_lastPositions, .ref g_presentBits, .ref g_toDefineBits, .int 0, .ref g_ruledBits, .ref g_forms, .ref g_firsts, .ref g_seconds, .ref g_usedBits]))]) hP hD [1] [0] rfl rfl (by decide) (by decide) hk1 hFc hP1 hD1
  have hK := (hK.sub (tys' := []) [] rfl).app hK1
  generalize H1 = H at hP hS ⊢
  have hP : va_P (dC, dI) CL [(x, .inr (0, [.ref g, .ref an, .ref tr, .ref w])), (g, .inr (1, [.ref g_attributeCounts, .ref g_inheritedBits, .int 0, .ref g_symbolsAt, .ref g_lastPositions, .ref g_presentBits, .ref g_toDefineBits, .int 0, .ref g_ruledBits, .ref g_forms, .ref g_firsts, .ref g_seconds, .ref g_usedBits]))] H := hP
  have hD : va_D A [(x, .inr (0, [.ref g, .ref an, .ref tr, .ref w])), (g, .inr (1, [.ref g_attributeCounts, .ref g_inheritedBits, .int 0, .ref g_symbolsAt, .ref g_lastPositions, .ref g_presentBits, .ref g_toDefineBits, .int 0, .ref g_ruledBits, .ref g_forms, .ref g_firsts, .ref g_seconds, .ref g_usedBits]))] := hD
  have hK : va_K (dC, dI) CL [] s := hK
  refine W.widen (k := 0) (n := 0) (by decide) (by decide) ?_
  refine lv_if_eq (tgt := 27) hx hb d_V_node_8 (by decide) (fun _ => ?_) (fun h9 => absurd (by decide) h9)
  exact vq_throw (names := up_names) hx hb htr hown (by decide +kernel) (by decide +kernel) (at_V_IllegalArgumentException hts hst) (hts _ k_151) (hts _ k_152) (hts _ k_177) hS hA hN hno hlocks (by decide) (hl.1.trans hml.symm) d_V_node_27 d_V_node_30 d_V_node_31 d_V_node_33 d_V_node_36

set_option maxHeartbeats 4000000 in
set_option maxRecDepth 100000 in
theorem c_V_fell (l : Launch) (htr : l.stackTraces = false) (dC : Nat → ClassId) (dI : Nat → Nat → Nat) (x : Nat) (g : Nat) (an : Nat) (tr : Nat) (w : Nat) (tr_productions : Nat) (tr_tokens : Nat) (tr_parents : Nat) (tr_nodesAt : Nat) (an_sequences : Nat) (w_given : Nat) (w_values : Nat) (w_knownBits : Nat) (w_instructionsDone : Nat) (sz : Nat) : Met l y_V_fell WS ({ frames := 1, cells := 0, slots := 0, locals := 20 }) (va_Pc [.ref x] (vq_Pre (dC, dI) CL sz [(x, .inr (0, [.ref g, .ref an, .ref tr, .ref w])), (tr, .inr (6, [.ref g, .ref tr_productions, .ref tr_tokens, .ref tr_parents, .ref tr_nodesAt, .int 0])), (w, .inr (7, [.ref g, .ref an_sequences, .ref tr, .ref w_given, .ref w_values, .ref w_knownBits, .ref w_instructionsDone, .int 0, .int 0, .int 0]))] [])) (va_Qv (fun _ : Unit => True) (fun _ t => vq_Post (dC, dI) CL (va_A [(x, .inr (0, [.ref g, .ref an, .ref tr, .ref w])), (tr, .inr (6, [.ref g, .ref tr_productions, .ref tr_tokens, .ref tr_parents, .ref tr_nodesAt, .int 0])), (w, .inr (7, [.ref g, .ref an_sequences, .ref tr, .ref w_given, .ref w_values, .ref w_knownBits, .ref w_instructionsDone, .int 0, .int 0, .int 0]))] sz) [] [] t) (va_A [(x, .inr (0, [.ref g, .ref an, .ref tr, .ref w])), (tr, .inr (6, [.ref g, .ref tr_productions, .ref tr_tokens, .ref tr_parents, .ref tr_nodesAt, .int 0])), (w, .inr (7, [.ref g, .ref an_sequences, .ref tr, .ref w_given, .ref w_values, .ref w_knownBits, .ref w_instructionsDone, .int 0, .int 0, .int 0]))] sz)) 0 0 (va_A [(x, .inr (0, [.ref g, .ref an, .ref tr, .ref w])), (tr, .inr (6, [.ref g, .ref tr_productions, .ref tr_tokens, .ref tr_parents, .ref tr_nodesAt, .int 0])), (w, .inr (7, [.ref g, .ref an_sequences, .ref tr, .ref w_given, .ref w_values, .ref w_knownBits, .ref w_instructionsDone, .int 0, .int 0, .int 0]))] sz) := by
  refine vq_ofW (cc := prog_1_method_11_code) (maxL := 1) (ret := (Option.none : Option Jvm.ClassFile.FieldType)) (by decide) (vq_his k_178) ?_
  intro p e s m args below meth c s₁ B hml hv
  obtain ⟨rfl, hst, hsz, hP, hK, hD0⟩ := hv
  have hx := B.exec
  have hb := B.bytes
  have hr := B.returns
  have hts := atoms_spec (ws := WS) B.pre
  have hown : s.vm.findClass R_V = some m.cls := findClass_of_methodNamed B.named
  have hlocks := B.notSynchronized
  have hno := vq_noH B (hts _ k_178)
  subst hsz
  have hN := vq_ns hP
  have hD := hD0.self (sz := s.heap.size)
  generalize hAe : va_A [(x, .inr (0, [.ref g, .ref an, .ref tr, .ref w])), (tr, .inr (6, [.ref g, .ref tr_productions, .ref tr_tokens, .ref tr_parents, .ref tr_nodesAt, .int 0])), (w, .inr (7, [.ref g, .ref an_sequences, .ref tr, .ref w_given, .ref w_values, .ref w_knownBits, .ref w_instructionsDone, .int 0, .int 0, .int 0]))] s.heap.size = A at hD hN ⊢
  have hA : ∀ q : Nat, s.heap.size ≤ q → A q := fun q h => by rw [← hAe]; exact Or.inr h
  have hS : va_S A s.heap s.heap [] := va_S.rf
  have hP : va_P (dC, dI) CL [(x, .inr (0, [.ref g, .ref an, .ref tr, .ref w])), (tr, .inr (6, [.ref g, .ref tr_productions, .ref tr_tokens, .ref tr_parents, .ref tr_nodesAt, .int 0])), (w, .inr (7, [.ref g, .ref an_sequences, .ref tr, .ref w_given, .ref w_values, .ref w_knownBits, .ref w_instructionsDone, .int 0, .int 0, .int 0]))] s.heap := hP
  have hD : va_D A [(x, .inr (0, [.ref g, .ref an, .ref tr, .ref w])), (tr, .inr (6, [.ref g, .ref tr_productions, .ref tr_tokens, .ref tr_parents, .ref tr_nodesAt, .int 0])), (w, .inr (7, [.ref g, .ref an_sequences, .ref tr, .ref w_given, .ref w_values, .ref w_knownBits, .ref w_instructionsDone, .int 0, .int 0, .int 0]))] := hD
  have hl := lv_entry ([.ref x]) (n := 1) (Nat.le_of_ble_eq_true rfl)
  rw [lg_entry_eq]
  generalize (lg_sl ([.ref x]) ++ List.replicate (1 - (lg_sl ([.ref x])).length) Slot.unset).toArray = ls at hl ⊢
  have hl : lv_has ls 1 [(0, .ref x)] := hl
  refine lv_aload_n hx hb d_V_fell_0 rfl (lv_at hl 0 rfl) ?_
  refine va_get (D := (dC, dI)) (ci := 0) (v := .ref w) (C := R_V) (T := F_V) (N := 4) hx hb hts u_V hown hK hP 0 rfl rfl 3 (by decide) (hts _ k_100) (fun _ h9 => h9) rfl d_V_fell_1 ?_
  have hPc := hP.sub (ws' := [(w, .inr (7, [.ref g, .ref an_sequences, .ref tr, .ref w_given, .ref w_values, .ref w_knownBits, .ref w_instructionsDone, .int 0, .int 0, .int 0]))]) [2] rfl
  have hDc := hD.sub (ws' := [(w, .inr (7, [.ref g, .ref an_sequences, .ref tr, .ref w_given, .ref w_values, .ref w_knownBits, .ref w_instructionsDone, .int 0, .int 0, .int 0]))]) [2] (by decide) rfl
  have hKc := hK.sub (tys' := []) [] rfl
  have hFc := va_free (wc := [(w, .inr (7, [.ref g, .ref an_sequences, .ref tr, .ref w_given, .ref w_values, .ref w_knownBits, .ref w_instructionsDone, .int 0, .int 0, .int 0]))]) hD hS hA [2] rfl
  refine va_callv (va_runV (As := []) (rest := []) ⟨hx, hb, hml, hown, hts⟩ (c_U_end l htr dC dI w g an_sequences tr w_given w_values w_knownBits w_instructionsDone 0 s.heap.size) (vq_cV WSk hts 0 rfl rfl ⟨by decide, by decide⟩ k_101 k_96 k_105 k_106 k_107 (by decide +kernel)) ⟨vq_blind, va_recv hK hP (ci := 7) (q0 := 2) rfl rfl, vq_here hst hS hN hPc hKc hDc⟩ rfl rfl hl.1 rfl (lv_room (Nat.le_of_ble_eq_true rfl)) d_V_fell_4 ⟨by decide, by decide⟩) hS (fun q _ h => hFc q h) hFc (fun u t H1 locs ht hvm hw hB hz1 hk1 hS => ?_)
  obtain ⟨hP1, hK1, hD1⟩ := hB
  rw [ht] at hP1
  have hK1 := va_K.moved hvm.symm hK1
  obtain ⟨hP, hD⟩ := va_join (wr := [(x, .inr (0, [.ref g, .ref an, .ref tr, .ref w])), (tr, .inr (6, [.ref g, .ref tr_productions, .ref tr_tokens, .ref tr_parents, .ref tr_nodesAt, .int 0]))]) (w1 := [(w, .inr (7, [.ref g, .ref an_sequences, .ref tr, .ref w_given, .ref w_values, .ref w_knownBits, .ref w_instructionsDone, .int 0, .int 0, .int 0]))]) hP hD [2] [0, 1] rfl rfl (by decide) (by decide) hk1 hFc hP1 hD1
  have hK := (hK.sub (tys' := []) [] rfl).app hK1
  generalize H1 = H at hP hS ⊢
  have hP : va_P (dC, dI) CL [(x, .inr (0, [.ref g, .ref an, .ref tr, .ref w])), (tr, .inr (6, [.ref g, .ref tr_productions, .ref tr_tokens, .ref tr_parents, .ref tr_nodesAt, .int 0])), (w, .inr (7, [.ref g, .ref an_sequences, .ref tr, .ref w_given, .ref w_values, .ref w_knownBits, .ref w_instructionsDone, .int 0, .int 0, .int 0]))] H := hP
  have hD : va_D A [(x, .inr (0, [.ref g, .ref an, .ref tr, .ref w])), (tr, .inr (6, [.ref g, .ref tr_productions, .ref tr_tokens, .ref tr_parents, .ref tr_nodesAt, .int 0])), (w, .inr (7, [.ref g, .ref an_sequences, .ref tr, .ref w_given, .ref w_values, .ref w_knownBits, .ref w_instructionsDone, .int 0, .int 0, .int 0]))] := hD
  have hK : va_K (dC, dI) CL [] s := hK
  refine W.widen (k := 0) (n := 0) (by decide) (by decide) ?_
  refine lv_aload_n hx hb d_V_fell_7 rfl (lv_at hl 0 rfl) ?_
  refine va_get (D := (dC, dI)) (ci := 0) (v := .ref tr) (C := R_V) (T := F_V) (N := 4) hx hb hts u_V hown hK hP 0 rfl rfl 2 (by decide) (hts _ k_93) (fun _ h9 => h9) rfl d_V_fell_8 ?_
  have hPc := hP.sub (ws' := [(tr, .inr (6, [.ref g, .ref tr_productions, .ref tr_tokens, .ref tr_parents, .ref tr_nodesAt, .int 0]))]) [1] rfl
  have hDc := hD.sub (ws' := [(tr, .inr (6, [.ref g, .ref tr_productions, .ref tr_tokens, .ref tr_parents, .ref tr_nodesAt, .int 0]))]) [1] (by decide) rfl
  have hKc := hK.sub (tys' := []) [] rfl
  have hFc := va_free (wc := [(tr, .inr (6, [.ref g, .ref tr_productions, .ref tr_tokens, .ref tr_parents, .ref tr_nodesAt, .int 0]))]) hD hS hA [1] rfl
  refine va_callv (va_runV (As := []) (rest := []) ⟨hx, hb, hml, hown, hts⟩ (c_T_clear l htr dC dI tr g tr_productions tr_tokens tr_parents tr_nodesAt H.size) (vq_cV WSk hts 0 rfl rfl ⟨by decide, by decide⟩ k_119 k_90 k_179 k_180 k_181 (by decide +kernel)) ⟨vq_blind, va_recv hK hP (ci := 6) (q0 := 1) rfl rfl, vq_here hst hS hN hPc hKc hDc⟩ rfl rfl hl.1 rfl (lv_room (Nat.le_of_ble_eq_true rfl)) d_V_fell_11 ⟨by decide, by decide⟩) hS (fun q _ h => hFc q h) hFc (fun u t H1 locs ht hvm hw hB hz1 hk1 hS => ?_)
  obtain ⟨hP1, hK1, hD1⟩ := hB
  rw [ht] at hP1
  have hK1 := va_K.moved hvm.symm hK1
  obtain ⟨hP, hD⟩ := va_join (wr := [(x, .inr (0, [.ref g, .ref an, .ref tr, .ref w])), (w, .inr (7, [.ref g, .ref an_sequences, .ref tr, .ref w_given, .ref w_values, .ref w_knownBits, .ref w_instructionsDone, .int 0, .int 0, .int 0]))]) (w1 := [(tr, .inr (6, [.ref g, .ref tr_productions, .ref tr_tokens, .ref tr_parents, .ref tr_nodesAt, .int 0]))]) hP hD [1] [0, 2] rfl rfl (by decide) (by decide) hk1 hFc hP1 hD1
  have hK := (hK.sub (tys' := []) [] rfl).app hK1
  generalize H1 = H at hP hS ⊢
  have hP : va_P (dC, dI) CL [(x, .inr (0, [.ref g, .ref an, .ref tr, .ref w])), (w, .inr (7, [.ref g, .ref an_sequences, .ref tr, .ref w_given, .ref w_values, .ref w_knownBits, .ref w_instructionsDone, .int 0, .int 0, .int 0])), (tr, .inr (6, [.ref g, .ref tr_productions, .ref tr_tokens, .ref tr_parents, .ref tr_nodesAt, .int 0]))] H := hP
  have hD : va_D A [(x, .inr (0, [.ref g, .ref an, .ref tr, .ref w])), (w, .inr (7, [.ref g, .ref an_sequences, .ref tr, .ref w_given, .ref w_values, .ref w_knownBits, .ref w_instructionsDone, .int 0, .int 0, .int 0])), (tr, .inr (6, [.ref g, .ref tr_productions, .ref tr_tokens, .ref tr_parents, .ref tr_nodesAt, .int 0]))] := hD
  have hK : va_K (dC, dI) CL [] s := hK
  refine W.widen (k := 0) (n := 0) (by decide) (by decide) ?_
  have hP9 := hP.sub (ws' := []) [] rfl
  have hD9 := hD.sub (ws' := []) [] (by decide) rfl
  have hK9 := hK.sub (tys' := []) [] rfl
  refine W.widen (k := 0) (n := 0) (by decide) (by decide) ?_
  exact W.vret hx hb hr (fun t ht hW => ⟨⟨(), rfl, trivial, by rw [ht]; exact hP9, va_K.moved hW.alike hK9, hD9⟩, hS.F ht⟩) hS.2.2 d_V_fell_14

set_option maxHeartbeats 4000000 in
set_option maxRecDepth 100000 in
theorem t_V_giveL (l : Launch) (htr : l.stackTraces = false) (dC : Nat → ClassId) (dI : Nat → Nat → Nat) (x : Nat) (a : Int32) (b : Int32) (g : Nat) (an : Nat) (tr : Nat) (w : Nat) (sz : Nat) (h0 : a < 0) : vq_T l y_V_give WS ({ frames := 6, cells := 1, slots := 6, locals := 82 }) (va_Pc [.ref x, .int a, .int b] (vq_Pre (dC, dI) CL sz [(x, .inr (0, [.ref g, .ref an, .ref tr, .ref w]))] [])) "java/lang/IndexOutOfBoundsException" (va_A [(x, .inr (0, [.ref g, .ref an, .ref tr, .ref w]))] sz) 1 6 := by
  refine vq_ofT (cc := prog_1_method_12_code) (maxL := 3) (ret := (Option.none : Option Jvm.ClassFile.FieldType)) (by decide) (vq_his k_182) ?_
  intro p e s m args below meth c s₁ B hml hv
  obtain ⟨rfl, hst, hsz, hP, hK, hD0⟩ := hv
  have hx := B.exec
  have hb := B.bytes
  have hr := B.returns
  have hts := atoms_spec (ws := WS) B.pre
  have hown : s.vm.findClass R_V = some m.cls := findClass_of_methodNamed B.named
  have hlocks := B.notSynchronized
  have hno := vq_noH B (hts _ k_182)
  subst hsz
  have hN := vq_ns hP
  have hD := hD0.self (sz := s.heap.size)
  generalize hAe : va_A [(x, .inr (0, [.ref g, .ref an, .ref tr, .ref w]))] s.heap.size = A at hD hN ⊢
  have hA : ∀ q : Nat, s.heap.size ≤ q → A q := fun q h => by rw [← hAe]; exact Or.inr h
  have hS : va_S A s.heap s.heap [] := va_S.rf
  have hP : va_P (dC, dI) CL [(x, .inr (0, [.ref g, .ref an, .ref tr, .ref w]))] s.heap := hP
  have hD : va_D A [(x, .inr (0, [.ref g, .ref an, .ref tr, .ref w]))] := hD
  have hl := lv_entry ([.ref x, .int a, .int b]) (n := 3) (Nat.le_of_ble_eq_true rfl)
  rw [lg_entry_eq]
  generalize (lg_sl ([.ref x, .int a, .int b]) ++ List.replicate (3 - (lg_sl ([.ref x, .int a, .int b])).length) Slot.unset).toArray = ls at hl ⊢
  have hl : lv_has ls 3 [(0, .ref x), (1, .int a), (2, .int b)] := hl
  refine lv_iload_n hx hb d_V_give_0 rfl (lv_at hl 1 rfl) ?_
  refine lv_if_lt (tgt := 9) hx hb d_V_give_1 (by decide) (fun _ => ?_) (fun h9 => absurd (h0) h9)
  exact vq_throw (names := up_names) hx hb htr hown (by decide +kernel) (by decide +kernel) (at_V_IndexOutOfBoundsException hts hst) (hts _ k_138) (hts _ k_139) (hts _ k_183) hS hA hN hno hlocks (by decide) (hl.1.trans hml.symm) d_V_give_9 d_V_give_12 d_V_give_13 d_V_give_15 d_V_give_18

set_option maxHeartbeats 4000000 in
set_option maxRecDepth 100000 in
theorem t_V_giveG (l : Launch) (htr : l.stackTraces = false) (dC : Nat → ClassId) (dI : Nat → Nat → Nat) (x : Nat) (a : Int32) (b : Int32) (g : Nat) (an : Nat) (tr : Nat) (w : Nat) (sz : Nat) (h0 : ¬ a < 0) (h4 : ¬ a < 4) : vq_T l y_V_give WS ({ frames := 6, cells := 1, slots := 6, locals := 82 }) (va_Pc [.ref x, .int a, .int b] (vq_Pre (dC, dI) CL sz [(x, .inr (0, [.ref g, .ref an, .ref tr, .ref w]))] [])) "java/lang/IndexOutOfBoundsException" (va_A [(x, .inr (0, [.ref g, .ref an, .ref tr, .ref w]))] sz) 1 6 := by
  refine vq_ofT (cc := prog_1_method_12_code) (maxL := 3) (ret := (Option.none : Option Jvm.ClassFile.FieldType)) (by decide) (vq_his k_182) ?_
  intro p e s m args below meth c s₁ B hml hv
  obtain ⟨rfl, hst, hsz, hP, hK, hD0⟩ := hv
  have hx := B.exec
  have hb := B.bytes
  have hr := B.returns
  have hts := atoms_spec (ws := WS) B.pre
  have hown : s.vm.findClass R_V = some m.cls := findClass_of_methodNamed B.named
  have hlocks := B.notSynchronized
  have hno := vq_noH B (hts _ k_182)
  subst hsz
  have hN := vq_ns hP
  have hD := hD0.self (sz := s.heap.size)
  generalize hAe : va_A [(x, .inr (0, [.ref g, .ref an, .ref tr, .ref w]))] s.heap.size = A at hD hN ⊢
  have hA : ∀ q : Nat, s.heap.size ≤ q → A q := fun q h => by rw [← hAe]; exact Or.inr h
  have hS : va_S A s.heap s.heap [] := va_S.rf
  have hP : va_P (dC, dI) CL [(x, .inr (0, [.ref g, .ref an, .ref tr, .ref w]))] s.heap := hP
  have hD : va_D A [(x, .inr (0, [.ref g, .ref an, .ref tr, .ref w]))] := hD
  have hl := lv_entry ([.ref x, .int a, .int b]) (n := 3) (Nat.le_of_ble_eq_true rfl)
  rw [lg_entry_eq]
  generalize (lg_sl ([.ref x, .int a, .int b]) ++ List.replicate (3 - (lg_sl ([.ref x, .int a, .int b])).length) Slot.unset).toArray = ls at hl ⊢
  have hl : lv_has ls 3 [(0, .ref x), (1, .int a), (2, .int b)] := hl
  refine lv_iload_n hx hb d_V_give_0 rfl (lv_at hl 1 rfl) ?_
  refine lv_if_lt (tgt := 9) hx hb d_V_give_1 (by decide) (fun h9 => absurd h9 (h0)) (fun _ => ?_)
  refine lv_iload_n hx hb d_V_give_4 rfl (lv_at hl 1 rfl) ?_
  refine lv_iconst (v := 4) hx hb d_V_give_5 (by decide) ?_
  refine lv_icmp_lt (tgt := 19) hx hb d_V_give_6 (by decide) (fun h9 => absurd h9 (h4)) (fun _ => ?_)
  exact vq_throw (names := up_names) hx hb htr hown (by decide +kernel) (by decide +kernel) (at_V_IndexOutOfBoundsException hts hst) (hts _ k_138) (hts _ k_139) (hts _ k_183) hS hA hN hno hlocks (by decide) (hl.1.trans hml.symm) d_V_give_9 d_V_give_12 d_V_give_13 d_V_give_15 d_V_give_18

set_option maxHeartbeats 4000000 in
set_option maxRecDepth 100000 in
theorem c_V_give (l : Launch) (htr : l.stackTraces = false) (dC : Nat → ClassId) (dI : Nat → Nat → Nat) (x : Nat) (a : Int32) (b : Int32) (g : Nat) (an : Nat) (tr : Nat) (w : Nat) (an_sequences : Nat) (w_given : Nat) (w_values : Nat) (w_knownBits : Nat) (w_instructionsDone : Nat) (cgv : ClassId) (fgv : Nat → Int32) (sz : Nat) (h0 : ¬ a < 0) (h4 : a < 4) (hi : vp_in a 4) : Met l y_V_give WS ({ frames := 0, cells := 0, slots := 0, locals := 0 }) (va_Pc [.ref x, .int a, .int b] (vq_Pre (dC, dI) CL sz [(x, .inr (0, [.ref g, .ref an, .ref tr, .ref w])), (w, .inr (7, [.ref g, .ref an_sequences, .ref tr, .ref w_given, .ref w_values, .ref w_knownBits, .ref w_instructionsDone, .int 0, .int 0, .int 0])), (w_given, .inl (cgv, 4, .inl fgv))] [(cgv, .int)])) (va_Qv (fun _ : Unit => True) (fun _ t => vq_Post (dC, dI) CL (va_A [(x, .inr (0, [.ref g, .ref an, .ref tr, .ref w])), (w, .inr (7, [.ref g, .ref an_sequences, .ref tr, .ref w_given, .ref w_values, .ref w_knownBits, .ref w_instructionsDone, .int 0, .int 0, .int 0])), (w_given, .inl (cgv, 4, .inl fgv))] sz) [] [] t) (va_A [(x, .inr (0, [.ref g, .ref an, .ref tr, .ref w])), (w, .inr (7, [.ref g, .ref an_sequences, .ref tr, .ref w_given, .ref w_values, .ref w_knownBits, .ref w_instructionsDone, .int 0, .int 0, .int 0])), (w_given, .inl (cgv, 4, .inl fgv))] sz)) 0 0 (va_A [(x, .inr (0, [.ref g, .ref an, .ref tr, .ref w])), (w, .inr (7, [.ref g, .ref an_sequences, .ref tr, .ref w_given, .ref w_values, .ref w_knownBits, .ref w_instructionsDone, .int 0, .int 0, .int 0])), (w_given, .inl (cgv, 4, .inl fgv))] sz) := by
  refine vq_ofW (cc := prog_1_method_12_code) (maxL := 3) (ret := (Option.none : Option Jvm.ClassFile.FieldType)) (by decide) (vq_his k_182) ?_
  intro p e s m args below meth c s₁ B hml hv
  obtain ⟨rfl, hst, hsz, hP, hK, hD0⟩ := hv
  have hx := B.exec
  have hb := B.bytes
  have hr := B.returns
  have hts := atoms_spec (ws := WS) B.pre
  have hown : s.vm.findClass R_V = some m.cls := findClass_of_methodNamed B.named
  have hlocks := B.notSynchronized
  have hno := vq_noH B (hts _ k_182)
  subst hsz
  have hN := vq_ns hP
  have hD := hD0.self (sz := s.heap.size)
  generalize hAe : va_A [(x, .inr (0, [.ref g, .ref an, .ref tr, .ref w])), (w, .inr (7, [.ref g, .ref an_sequences, .ref tr, .ref w_given, .ref w_values, .ref w_knownBits, .ref w_instructionsDone, .int 0, .int 0, .int 0])), (w_given, .inl (cgv, 4, .inl fgv))] s.heap.size = A at hD hN ⊢
  have hA : ∀ q : Nat, s.heap.size ≤ q → A q := fun q h => by rw [← hAe]; exact Or.inr h
  have hS : va_S A s.heap s.heap [] := va_S.rf
  have hP : va_P (dC, dI) CL [(x, .inr (0, [.ref g, .ref an, .ref tr, .ref w])), (w, .inr (7, [.ref g, .ref an_sequences, .ref tr, .ref w_given, .ref w_values, .ref w_knownBits, .ref w_instructionsDone, .int 0, .int 0, .int 0])), (w_given, .inl (cgv, 4, .inl fgv))] s.heap := hP
  have hD : va_D A [(x, .inr (0, [.ref g, .ref an, .ref tr, .ref w])), (w, .inr (7, [.ref g, .ref an_sequences, .ref tr, .ref w_given, .ref w_values, .ref w_knownBits, .ref w_instructionsDone, .int 0, .int 0, .int 0])), (w_given, .inl (cgv, 4, .inl fgv))] := hD
  have hl := lv_entry ([.ref x, .int a, .int b]) (n := 3) (Nat.le_of_ble_eq_true rfl)
  rw [lg_entry_eq]
  generalize (lg_sl ([.ref x, .int a, .int b]) ++ List.replicate (3 - (lg_sl ([.ref x, .int a, .int b])).length) Slot.unset).toArray = ls at hl ⊢
  have hl : lv_has ls 3 [(0, .ref x), (1, .int a), (2, .int b)] := hl
  refine lv_iload_n hx hb d_V_give_0 rfl (lv_at hl 1 rfl) ?_
  refine lv_if_lt (tgt := 9) hx hb d_V_give_1 (by decide) (fun h9 => absurd h9 (h0)) (fun _ => ?_)
  refine lv_iload_n hx hb d_V_give_4 rfl (lv_at hl 1 rfl) ?_
  refine lv_iconst (v := 4) hx hb d_V_give_5 (by decide) ?_
  refine lv_icmp_lt (tgt := 19) hx hb d_V_give_6 (by decide) (fun _ => ?_) (fun h9 => absurd (h4) h9)
  refine lv_aload_n hx hb d_V_give_19 rfl (lv_at hl 0 rfl) ?_
  refine va_get (D := (dC, dI)) (ci := 0) (v := .ref w) (C := R_V) (T := F_V) (N := 4) hx hb hts u_V hown hK hP 0 rfl rfl 3 (by decide) (hts _ k_100) (fun _ h9 => h9) rfl d_V_give_20 ?_
  refine va_getN (D := (dC, dI)) (ci := 7) (v := .ref w_given) (C := R_U) (T := F_U) (N := 10) hx hb hts u_U hown hK hP 1 rfl rfl 3 (by decide) (hts _ k_184) (fun _ h9 => h9) rfl d_V_give_23 ?_
  refine lv_iload_n hx hb d_V_give_26 rfl (lv_at hl 1 rfl) ?_
  refine lv_iload_n hx hb d_V_give_27 rfl (lv_at hl 2 rfl) ?_
  refine va_iast (n := 4) (f := fgv) hx hb hK hP hD hS 2 0 rfl rfl hi d_V_give_28 (fun H locs hP hD hS => ?_)
  have hP : va_P (dC, dI) CL [(x, .inr (0, [.ref g, .ref an, .ref tr, .ref w])), (w, .inr (7, [.ref g, .ref an_sequences, .ref tr, .ref w_given, .ref w_values, .ref w_knownBits, .ref w_instructionsDone, .int 0, .int 0, .int 0])), (w_given, .inl (cgv, 4, .inl (upd fgv (a : Int32).toNatClampNeg b)))] H := hP
  have hD : va_D A [(x, .inr (0, [.ref g, .ref an, .ref tr, .ref w])), (w, .inr (7, [.ref g, .ref an_sequences, .ref tr, .ref w_given, .ref w_values, .ref w_knownBits, .ref w_instructionsDone, .int 0, .int 0, .int 0])), (w_given, .inl (cgv, 4, .inl (upd fgv (a : Int32).toNatClampNeg b)))] := hD
  generalize (upd fgv (a : Int32).toNatClampNeg b) = f1 at hP hD
  have hP9 := hP.sub (ws' := []) [] rfl
  have hD9 := hD.sub (ws' := []) [] (by decide) rfl
  have hK9 := hK.sub (tys' := []) [] rfl
  refine W.widen (k := 0) (n := 0) (by decide) (by decide) ?_
  exact W.vret hx hb hr (fun t ht hW => ⟨⟨(), rfl, trivial, by rw [ht]; exact hP9, va_K.moved hW.alike hK9, hD9⟩, hS.F ht⟩) hS.2.2 d_V_give_29

set_option maxHeartbeats 4000000 in
set_option maxRecDepth 100000 in
theorem t_V_start (l : Launch) (htr : l.stackTraces = false) (dC : Nat → ClassId) (dI : Nat → Nat → Nat) (x : Nat) (a : Int32) (g : Nat) (an : Nat) (tr : Nat) (w : Nat) (an_leads : Nat) (an_ranking : Nat) (an_sequences : Nat) (sz : Nat) : vq_T l y_V_start WS ({ frames := 7, cells := 1, slots := 6, locals := 102 }) (va_Pc [.ref x, .int a] (vq_Pre (dC, dI) CL sz [(x, .inr (0, [.ref g, .ref an, .ref tr, .ref w])), (an, .inr (2, [.ref g, .ref an_leads, .ref an_ranking, .ref an_sequences, .int 0, .int 0, .int (-1), .int (-1)]))] [])) "java/lang/IllegalStateException" (va_A [(x, .inr (0, [.ref g, .ref an, .ref tr, .ref w])), (an, .inr (2, [.ref g, .ref an_leads, .ref an_ranking, .ref an_sequences, .int 0, .int 0, .int (-1), .int (-1)]))] sz) 1 6 := by
  refine vq_ofT (cc := prog_1_method_13_code) (maxL := 2) (ret := (Option.none : Option Jvm.ClassFile.FieldType)) (by decide) (vq_his k_185) ?_
  intro p e s m args below meth c s₁ B hml hv
  obtain ⟨rfl, hst, hsz, hP, hK, hD0⟩ := hv
  have hx := B.exec
  have hb := B.bytes
  have hr := B.returns
  have hts := atoms_spec (ws := WS) B.pre
  have hown : s.vm.findClass R_V = some m.cls := findClass_of_methodNamed B.named
  have hlocks := B.notSynchronized
  have hno := vq_noH B (hts _ k_185)
  subst hsz
  have hN := vq_ns hP
  have hD := hD0.self (sz := s.heap.size)
  generalize hAe : va_A [(x, .inr (0, [.ref g, .ref an, .ref tr, .ref w])), (an, .inr (2, [.ref g, .ref an_leads, .ref an_ranking, .ref an_sequences, .int 0, .int 0, .int (-1), .int (-1)]))] s.heap.size = A at hD hN ⊢
  have hA : ∀ q : Nat, s.heap.size ≤ q → A q := fun q h => by rw [← hAe]; exact Or.inr h
  have hS : va_S A s.heap s.heap [] := va_S.rf
  have hP : va_P (dC, dI) CL [(x, .inr (0, [.ref g, .ref an, .ref tr, .ref w])), (an, .inr (2, [.ref g, .ref an_leads, .ref an_ranking, .ref an_sequences, .int 0, .int 0, .int (-1), .int (-1)]))] s.heap := hP
  have hD : va_D A [(x, .inr (0, [.ref g, .ref an, .ref tr, .ref w])), (an, .inr (2, [.ref g, .ref an_leads, .ref an_ranking, .ref an_sequences, .int 0, .int 0, .int (-1), .int (-1)]))] := hD
  have hl := lv_entry ([.ref x, .int a]) (n := 2) (Nat.le_of_ble_eq_true rfl)
  rw [lg_entry_eq]
  generalize (lg_sl ([.ref x, .int a]) ++ List.replicate (2 - (lg_sl ([.ref x, .int a])).length) Slot.unset).toArray = ls at hl ⊢
  have hl : lv_has ls 2 [(0, .ref x), (1, .int a)] := hl
  refine lv_aload_n hx hb d_V_start_0 rfl (lv_at hl 0 rfl) ?_
  have hPc := hP.sub (ws' := [(x, .inr (0, [.ref g, .ref an, .ref tr, .ref w])), (an, .inr (2, [.ref g, .ref an_leads, .ref an_ranking, .ref an_sequences, .int 0, .int 0, .int (-1), .int (-1)]))]) [0, 1] rfl
  have hDc := hD.sub (ws' := [(x, .inr (0, [.ref g, .ref an, .ref tr, .ref w])), (an, .inr (2, [.ref g, .ref an_leads, .ref an_ranking, .ref an_sequences, .int 0, .int 0, .int (-1), .int (-1)]))]) [0, 1] (by decide) rfl
  have hKc := hK.sub (tys' := []) [] rfl
  have hFc := va_free (wc := [(x, .inr (0, [.ref g, .ref an, .ref tr, .ref w])), (an, .inr (2, [.ref g, .ref an_leads, .ref an_ranking, .ref an_sequences, .int 0, .int 0, .int (-1), .int (-1)]))]) hD hS hA [0, 1] rfl
  exact vq_pass (vq_runT (As := []) (rest := []) ⟨hx, hb, hml, hown, hts⟩ (t_V_reqA l htr dC dI x g an tr w an_leads an_ranking an_sequences s.heap.size) (vq_cV WSk hts 0 rfl rfl ⟨by decide, by decide⟩ k_108 k_143 k_171 k_172 k_173 (by decide +kernel)) ⟨vq_blind, va_recv hK hP (ci := 0) (q0 := 0) rfl rfl, vq_here hst hS hN hPc hKc hDc⟩ rfl rfl hl.1 rfl (lv_room (Nat.le_of_ble_eq_true rfl)) d_V_start_1 ⟨by decide, by decide⟩) hS hFc hno hlocks (by decide) (by decide)

set_option maxHeartbeats 4000000 in
set_option maxRecDepth 100000 in
theorem t_V_runL (l : Launch) (htr : l.stackTraces = false) (dC : Nat → ClassId) (dI : Nat → Nat → Nat) (x : Nat) (a : Int32) (g : Nat) (an : Nat) (tr : Nat) (w : Nat) (sz : Nat) (h0 : a < 0) : vq_T l y_V_run WS ({ frames := 6, cells := 1, slots := 6, locals := 82 }) (va_Pc [.ref x, .int a] (vq_Pre (dC, dI) CL sz [(x, .inr (0, [.ref g, .ref an, .ref tr, .ref w]))] [])) "java/lang/IllegalArgumentException" (va_A [(x, .inr (0, [.ref g, .ref an, .ref tr, .ref w]))] sz) 1 6 := by
  refine vq_ofT (cc := prog_1_method_14_code) (maxL := 2) (ret := (Option.some Jvm.ClassFile.FieldType.int)) (by decide) (vq_his k_186) ?_
  intro p e s m args below meth c s₁ B hml hv
  obtain ⟨rfl, hst, hsz, hP, hK, hD0⟩ := hv
  have hx := B.exec
  have hb := B.bytes
  have hr := B.returns
  have hts := atoms_spec (ws := WS) B.pre
  have hown : s.vm.findClass R_V = some m.cls := findClass_of_methodNamed B.named
  have hlocks := B.notSynchronized
  have hno := vq_noH B (hts _ k_186)
  subst hsz
  have hN := vq_ns hP
  have hD := hD0.self (sz := s.heap.size)
  generalize hAe : va_A [(x, .inr (0, [.ref g, .ref an, .ref tr, .ref w]))] s.heap.size = A at hD hN ⊢
  have hA : ∀ q : Nat, s.heap.size ≤ q → A q := fun q h => by rw [← hAe]; exact Or.inr h
  have hS : va_S A s.heap s.heap [] := va_S.rf
  have hP : va_P (dC, dI) CL [(x, .inr (0, [.ref g, .ref an, .ref tr, .ref w]))] s.heap := hP
  have hD : va_D A [(x, .inr (0, [.ref g, .ref an, .ref tr, .ref w]))] := hD
  have hl := lv_entry ([.ref x, .int a]) (n := 2) (Nat.le_of_ble_eq_true rfl)
  rw [lg_entry_eq]
  generalize (lg_sl ([.ref x, .int a]) ++ List.replicate (2 - (lg_sl ([.ref x, .int a])).length) Slot.unset).toArray = ls at hl ⊢
  have hl : lv_has ls 2 [(0, .ref x), (1, .int a)] := hl
  refine lv_iload_n hx hb d_V_run_0 rfl (lv_at hl 1 rfl) ?_
  refine lv_if_lt (tgt := 11) hx hb d_V_run_1 (by decide) (fun _ => ?_) (fun h9 => absurd (h0) h9)
  exact vq_throw (names := up_names) hx hb htr hown (by decide +kernel) (by decide +kernel) (at_V_IllegalArgumentException hts hst) (hts _ k_151) (hts _ k_152) (hts _ k_187) hS hA hN hno hlocks (by decide) (hl.1.trans hml.symm) d_V_run_11 d_V_run_14 d_V_run_15 d_V_run_17 d_V_run_20

set_option maxHeartbeats 4000000 in
set_option maxRecDepth 100000 in
theorem t_V_runG (l : Launch) (htr : l.stackTraces = false) (dC : Nat → ClassId) (dI : Nat → Nat → Nat) (x : Nat) (a : Int32) (g : Nat) (an : Nat) (tr : Nat) (w : Nat) (sz : Nat) (h0 : ¬ a < 0) (h4 : ¬ a ≤ 500) : vq_T l y_V_run WS ({ frames := 6, cells := 1, slots := 6, locals := 82 }) (va_Pc [.ref x, .int a] (vq_Pre (dC, dI) CL sz [(x, .inr (0, [.ref g, .ref an, .ref tr, .ref w]))] [])) "java/lang/IllegalArgumentException" (va_A [(x, .inr (0, [.ref g, .ref an, .ref tr, .ref w]))] sz) 1 6 := by
  refine vq_ofT (cc := prog_1_method_14_code) (maxL := 2) (ret := (Option.some Jvm.ClassFile.FieldType.int)) (by decide) (vq_his k_186) ?_
  intro p e s m args below meth c s₁ B hml hv
  obtain ⟨rfl, hst, hsz, hP, hK, hD0⟩ := hv
  have hx := B.exec
  have hb := B.bytes
  have hr := B.returns
  have hts := atoms_spec (ws := WS) B.pre
  have hown : s.vm.findClass R_V = some m.cls := findClass_of_methodNamed B.named
  have hlocks := B.notSynchronized
  have hno := vq_noH B (hts _ k_186)
  subst hsz
  have hN := vq_ns hP
  have hD := hD0.self (sz := s.heap.size)
  generalize hAe : va_A [(x, .inr (0, [.ref g, .ref an, .ref tr, .ref w]))] s.heap.size = A at hD hN ⊢
  have hA : ∀ q : Nat, s.heap.size ≤ q → A q := fun q h => by rw [← hAe]; exact Or.inr h
  have hS : va_S A s.heap s.heap [] := va_S.rf
  have hP : va_P (dC, dI) CL [(x, .inr (0, [.ref g, .ref an, .ref tr, .ref w]))] s.heap := hP
  have hD : va_D A [(x, .inr (0, [.ref g, .ref an, .ref tr, .ref w]))] := hD
  have hl := lv_entry ([.ref x, .int a]) (n := 2) (Nat.le_of_ble_eq_true rfl)
  rw [lg_entry_eq]
  generalize (lg_sl ([.ref x, .int a]) ++ List.replicate (2 - (lg_sl ([.ref x, .int a])).length) Slot.unset).toArray = ls at hl ⊢
  have hl : lv_has ls 2 [(0, .ref x), (1, .int a)] := hl
  refine lv_iload_n hx hb d_V_run_0 rfl (lv_at hl 1 rfl) ?_
  refine lv_if_lt (tgt := 11) hx hb d_V_run_1 (by decide) (fun h9 => absurd h9 (h0)) (fun _ => ?_)
  refine lv_iload_n hx hb d_V_run_4 rfl (lv_at hl 1 rfl) ?_
  refine lv_sipush (v := 500) hx hb d_V_run_5 (by decide) ?_
  refine lv_icmp_le (tgt := 21) hx hb d_V_run_8 (by decide) (fun h9 => absurd h9 (h4)) (fun _ => ?_)
  exact vq_throw (names := up_names) hx hb htr hown (by decide +kernel) (by decide +kernel) (at_V_IllegalArgumentException hts hst) (hts _ k_151) (hts _ k_152) (hts _ k_187) hS hA hN hno hlocks (by decide) (hl.1.trans hml.symm) d_V_run_11 d_V_run_14 d_V_run_15 d_V_run_17 d_V_run_20

set_option maxHeartbeats 4000000 in
set_option maxRecDepth 100000 in
theorem t_V_run (l : Launch) (htr : l.stackTraces = false) (dC : Nat → ClassId) (dI : Nat → Nat → Nat) (x : Nat) (a : Int32) (g : Nat) (an : Nat) (tr : Nat) (w : Nat) (an_sequences : Nat) (w_given : Nat) (w_values : Nat) (w_knownBits : Nat) (w_instructionsDone : Nat) (sz : Nat) (h0 : ¬ a < 0) (h4 : a ≤ 500) : vq_T l y_V_run WS ({ frames := 6, cells := 1, slots := 6, locals := 82 }) (va_Pc [.ref x, .int a] (vq_Pre (dC, dI) CL sz [(x, .inr (0, [.ref g, .ref an, .ref tr, .ref w])), (w, .inr (7, [.ref g, .ref an_sequences, .ref tr, .ref w_given, .ref w_values, .ref w_knownBits, .ref w_instructionsDone, .int 0, .int 0, .int 0]))] [])) "java/lang/IllegalStateException" (va_A [(x, .inr (0, [.ref g, .ref an, .ref tr, .ref w])), (w, .inr (7, [.ref g, .ref an_sequences, .ref tr, .ref w_given, .ref w_values, .ref w_knownBits, .ref w_instructionsDone, .int 0, .int 0, .int 0]))] sz) 1 6 := by
  refine vq_ofT (cc := prog_1_method_14_code) (maxL := 2) (ret := (Option.some Jvm.ClassFile.FieldType.int)) (by decide) (vq_his k_186) ?_
  intro p e s m args below meth c s₁ B hml hv
  obtain ⟨rfl, hst, hsz, hP, hK, hD0⟩ := hv
  have hx := B.exec
  have hb := B.bytes
  have hr := B.returns
  have hts := atoms_spec (ws := WS) B.pre
  have hown : s.vm.findClass R_V = some m.cls := findClass_of_methodNamed B.named
  have hlocks := B.notSynchronized
  have hno := vq_noH B (hts _ k_186)
  subst hsz
  have hN := vq_ns hP
  have hD := hD0.self (sz := s.heap.size)
  generalize hAe : va_A [(x, .inr (0, [.ref g, .ref an, .ref tr, .ref w])), (w, .inr (7, [.ref g, .ref an_sequences, .ref tr, .ref w_given, .ref w_values, .ref w_knownBits, .ref w_instructionsDone, .int 0, .int 0, .int 0]))] s.heap.size = A at hD hN ⊢
  have hA : ∀ q : Nat, s.heap.size ≤ q → A q := fun q h => by rw [← hAe]; exact Or.inr h
  have hS : va_S A s.heap s.heap [] := va_S.rf
  have hP : va_P (dC, dI) CL [(x, .inr (0, [.ref g, .ref an, .ref tr, .ref w])), (w, .inr (7, [.ref g, .ref an_sequences, .ref tr, .ref w_given, .ref w_values, .ref w_knownBits, .ref w_instructionsDone, .int 0, .int 0, .int 0]))] s.heap := hP
  have hD : va_D A [(x, .inr (0, [.ref g, .ref an, .ref tr, .ref w])), (w, .inr (7, [.ref g, .ref an_sequences, .ref tr, .ref w_given, .ref w_values, .ref w_knownBits, .ref w_instructionsDone, .int 0, .int 0, .int 0]))] := hD
  have hl := lv_entry ([.ref x, .int a]) (n := 2) (Nat.le_of_ble_eq_true rfl)
  rw [lg_entry_eq]
  generalize (lg_sl ([.ref x, .int a]) ++ List.replicate (2 - (lg_sl ([.ref x, .int a])).length) Slot.unset).toArray = ls at hl ⊢
  have hl : lv_has ls 2 [(0, .ref x), (1, .int a)] := hl
  refine lv_iload_n hx hb d_V_run_0 rfl (lv_at hl 1 rfl) ?_
  refine lv_if_lt (tgt := 11) hx hb d_V_run_1 (by decide) (fun h9 => absurd h9 (h0)) (fun _ => ?_)
  refine lv_iload_n hx hb d_V_run_4 rfl (lv_at hl 1 rfl) ?_
  refine lv_sipush (v := 500) hx hb d_V_run_5 (by decide) ?_
  refine lv_icmp_le (tgt := 21) hx hb d_V_run_8 (by decide) (fun _ => ?_) (fun h9 => absurd (h4) h9)
  refine lv_aload_n hx hb d_V_run_21 rfl (lv_at hl 0 rfl) ?_
  refine va_get (D := (dC, dI)) (ci := 0) (v := .ref w) (C := R_V) (T := F_V) (N := 4) hx hb hts u_V hown hK hP 0 rfl rfl 3 (by decide) (hts _ k_100) (fun _ h9 => h9) rfl d_V_run_22 ?_
  refine va_getN (D := (dC, dI)) (ci := 7) (v := .int 0) (C := R_U) (T := F_U) (N := 10) hx hb hts u_U hown hK hP 1 rfl rfl 7 (by decide) (hts _ k_188) (fun _ h9 => h9) rfl d_V_run_25 ?_
  refine lv_if_ne (tgt := 41) hx hb d_V_run_28 (by decide) (fun h9 => absurd (by decide) h9) (fun _ => ?_)
  exact vq_throw (names := up_names) hx hb htr hown (by decide +kernel) (by decide +kernel) (at_V_IllegalStateException hts hst) (hts _ k_110) (hts _ k_111) (hts _ k_189) hS hA hN hno hlocks (by decide) (hl.1.trans hml.symm) d_V_run_31 d_V_run_34 d_V_run_35 d_V_run_37 d_V_run_40

set_option maxHeartbeats 4000000 in
set_option maxRecDepth 100000 in
theorem c_V_status (l : Launch) (htr : l.stackTraces = false) (dC : Nat → ClassId) (dI : Nat → Nat → Nat) (x : Nat) (g : Nat) (an : Nat) (tr : Nat) (w : Nat) (an_sequences : Nat) (w_given : Nat) (w_values : Nat) (w_knownBits : Nat) (w_instructionsDone : Nat) (sz : Nat) : Met l y_V_status WS ({ frames := 0, cells := 0, slots := 0, locals := 0 }) (va_Pc [.ref x] (vq_Pre (dC, dI) CL sz [(x, .inr (0, [.ref g, .ref an, .ref tr, .ref w])), (w, .inr (7, [.ref g, .ref an_sequences, .ref tr, .ref w_given, .ref w_values, .ref w_knownBits, .ref w_instructionsDone, .int 0, .int 0, .int 0]))] [])) (va_Qi (fun (r : Int32) (_ : Unit) => r = 0) (fun _ t => vq_Post (dC, dI) CL (va_A [(x, .inr (0, [.ref g, .ref an, .ref tr, .ref w])), (w, .inr (7, [.ref g, .ref an_sequences, .ref tr, .ref w_given, .ref w_values, .ref w_knownBits, .ref w_instructionsDone, .int 0, .int 0, .int 0]))] sz) [(x, .inr (0, [.ref g, .ref an, .ref tr, .ref w])), (w, .inr (7, [.ref g, .ref an_sequences, .ref tr, .ref w_given, .ref w_values, .ref w_knownBits, .ref w_instructionsDone, .int 0, .int 0, .int 0]))] [] t) (va_A [(x, .inr (0, [.ref g, .ref an, .ref tr, .ref w])), (w, .inr (7, [.ref g, .ref an_sequences, .ref tr, .ref w_given, .ref w_values, .ref w_knownBits, .ref w_instructionsDone, .int 0, .int 0, .int 0]))] sz)) 0 0 (va_A [(x, .inr (0, [.ref g, .ref an, .ref tr, .ref w])), (w, .inr (7, [.ref g, .ref an_sequences, .ref tr, .ref w_given, .ref w_values, .ref w_knownBits, .ref w_instructionsDone, .int 0, .int 0, .int 0]))] sz) := by
  refine vq_ofW (cc := prog_1_method_15_code) (maxL := 1) (ret := (Option.some Jvm.ClassFile.FieldType.int)) (by decide) (vq_his k_190) ?_
  intro p e s m args below meth c s₁ B hml hv
  obtain ⟨rfl, hst, hsz, hP, hK, hD0⟩ := hv
  have hx := B.exec
  have hb := B.bytes
  have hr := B.returns
  have hts := atoms_spec (ws := WS) B.pre
  have hown : s.vm.findClass R_V = some m.cls := findClass_of_methodNamed B.named
  have hlocks := B.notSynchronized
  have hno := vq_noH B (hts _ k_190)
  subst hsz
  have hN := vq_ns hP
  have hD := hD0.self (sz := s.heap.size)
  generalize hAe : va_A [(x, .inr (0, [.ref g, .ref an, .ref tr, .ref w])), (w, .inr (7, [.ref g, .ref an_sequences, .ref tr, .ref w_given, .ref w_values, .ref w_knownBits, .ref w_instructionsDone, .int 0, .int 0, .int 0]))] s.heap.size = A at hD hN ⊢
  have hA : ∀ q : Nat, s.heap.size ≤ q → A q := fun q h => by rw [← hAe]; exact Or.inr h
  have hS : va_S A s.heap s.heap [] := va_S.rf
  have hP : va_P (dC, dI) CL [(x, .inr (0, [.ref g, .ref an, .ref tr, .ref w])), (w, .inr (7, [.ref g, .ref an_sequences, .ref tr, .ref w_given, .ref w_values, .ref w_knownBits, .ref w_instructionsDone, .int 0, .int 0, .int 0]))] s.heap := hP
  have hD : va_D A [(x, .inr (0, [.ref g, .ref an, .ref tr, .ref w])), (w, .inr (7, [.ref g, .ref an_sequences, .ref tr, .ref w_given, .ref w_values, .ref w_knownBits, .ref w_instructionsDone, .int 0, .int 0, .int 0]))] := hD
  have hl := lv_entry ([.ref x]) (n := 1) (Nat.le_of_ble_eq_true rfl)
  rw [lg_entry_eq]
  generalize (lg_sl ([.ref x]) ++ List.replicate (1 - (lg_sl ([.ref x])).length) Slot.unset).toArray = ls at hl ⊢
  have hl : lv_has ls 1 [(0, .ref x)] := hl
  refine lv_aload_n hx hb d_V_status_0 rfl (lv_at hl 0 rfl) ?_
  refine va_get (D := (dC, dI)) (ci := 0) (v := .ref w) (C := R_V) (T := F_V) (N := 4) hx hb hts u_V hown hK hP 0 rfl rfl 3 (by decide) (hts _ k_100) (fun _ h9 => h9) rfl d_V_status_1 ?_
  refine va_getN (D := (dC, dI)) (ci := 7) (v := .int 0) (C := R_U) (T := F_U) (N := 10) hx hb hts u_U hown hK hP 1 rfl rfl 7 (by decide) (hts _ k_188) (fun _ h9 => h9) rfl d_V_status_4 ?_
  have hP9 := hP.sub (ws' := [(x, .inr (0, [.ref g, .ref an, .ref tr, .ref w])), (w, .inr (7, [.ref g, .ref an_sequences, .ref tr, .ref w_given, .ref w_values, .ref w_knownBits, .ref w_instructionsDone, .int 0, .int 0, .int 0]))]) [0, 1] rfl
  have hD9 := hD.sub (ws' := [(x, .inr (0, [.ref g, .ref an, .ref tr, .ref w])), (w, .inr (7, [.ref g, .ref an_sequences, .ref tr, .ref w_given, .ref w_values, .ref w_knownBits, .ref w_instructionsDone, .int 0, .int 0, .int 0]))]) [0, 1] (by decide) rfl
  have hK9 := hK.sub (tys' := []) [] rfl
  refine W.widen (k := 0) (n := 0) (by decide) (by decide) ?_
  exact W.iret (v := 0) hx hb hr (fun t ht hW => ⟨⟨0, (), rfl, rfl, by rw [ht]; exact hP9, va_K.moved hW.alike hK9, hD9⟩, hS.F ht⟩) hS.2.2 d_V_status_7

set_option maxHeartbeats 4000000 in
set_option maxRecDepth 100000 in
theorem c_V_atHand (l : Launch) (htr : l.stackTraces = false) (dC : Nat → ClassId) (dI : Nat → Nat → Nat) (x : Nat) (g : Nat) (an : Nat) (tr : Nat) (w : Nat) (an_sequences : Nat) (w_given : Nat) (w_values : Nat) (w_knownBits : Nat) (w_instructionsDone : Nat) (sz : Nat) : Met l y_V_atHand WS ({ frames := 0, cells := 0, slots := 0, locals := 0 }) (va_Pc [.ref x] (vq_Pre (dC, dI) CL sz [(x, .inr (0, [.ref g, .ref an, .ref tr, .ref w])), (w, .inr (7, [.ref g, .ref an_sequences, .ref tr, .ref w_given, .ref w_values, .ref w_knownBits, .ref w_instructionsDone, .int 0, .int 0, .int 0]))] [])) (va_Qi (fun (r : Int32) (_ : Unit) => r = (-1)) (fun _ t => vq_Post (dC, dI) CL (va_A [(x, .inr (0, [.ref g, .ref an, .ref tr, .ref w])), (w, .inr (7, [.ref g, .ref an_sequences, .ref tr, .ref w_given, .ref w_values, .ref w_knownBits, .ref w_instructionsDone, .int 0, .int 0, .int 0]))] sz) [(x, .inr (0, [.ref g, .ref an, .ref tr, .ref w])), (w, .inr (7, [.ref g, .ref an_sequences, .ref tr, .ref w_given, .ref w_values, .ref w_knownBits, .ref w_instructionsDone, .int 0, .int 0, .int 0]))] [] t) (va_A [(x, .inr (0, [.ref g, .ref an, .ref tr, .ref w])), (w, .inr (7, [.ref g, .ref an_sequences, .ref tr, .ref w_given, .ref w_values, .ref w_knownBits, .ref w_instructionsDone, .int 0, .int 0, .int 0]))] sz)) 0 0 (va_A [(x, .inr (0, [.ref g, .ref an, .ref tr, .ref w])), (w, .inr (7, [.ref g, .ref an_sequences, .ref tr, .ref w_given, .ref w_values, .ref w_knownBits, .ref w_instructionsDone, .int 0, .int 0, .int 0]))] sz) := by
  refine vq_ofW (cc := prog_1_method_16_code) (maxL := 1) (ret := (Option.some Jvm.ClassFile.FieldType.int)) (by decide) (vq_his k_191) ?_
  intro p e s m args below meth c s₁ B hml hv
  obtain ⟨rfl, hst, hsz, hP, hK, hD0⟩ := hv
  have hx := B.exec
  have hb := B.bytes
  have hr := B.returns
  have hts := atoms_spec (ws := WS) B.pre
  have hown : s.vm.findClass R_V = some m.cls := findClass_of_methodNamed B.named
  have hlocks := B.notSynchronized
  have hno := vq_noH B (hts _ k_191)
  subst hsz
  have hN := vq_ns hP
  have hD := hD0.self (sz := s.heap.size)
  generalize hAe : va_A [(x, .inr (0, [.ref g, .ref an, .ref tr, .ref w])), (w, .inr (7, [.ref g, .ref an_sequences, .ref tr, .ref w_given, .ref w_values, .ref w_knownBits, .ref w_instructionsDone, .int 0, .int 0, .int 0]))] s.heap.size = A at hD hN ⊢
  have hA : ∀ q : Nat, s.heap.size ≤ q → A q := fun q h => by rw [← hAe]; exact Or.inr h
  have hS : va_S A s.heap s.heap [] := va_S.rf
  have hP : va_P (dC, dI) CL [(x, .inr (0, [.ref g, .ref an, .ref tr, .ref w])), (w, .inr (7, [.ref g, .ref an_sequences, .ref tr, .ref w_given, .ref w_values, .ref w_knownBits, .ref w_instructionsDone, .int 0, .int 0, .int 0]))] s.heap := hP
  have hD : va_D A [(x, .inr (0, [.ref g, .ref an, .ref tr, .ref w])), (w, .inr (7, [.ref g, .ref an_sequences, .ref tr, .ref w_given, .ref w_values, .ref w_knownBits, .ref w_instructionsDone, .int 0, .int 0, .int 0]))] := hD
  have hl := lv_entry ([.ref x]) (n := 1) (Nat.le_of_ble_eq_true rfl)
  rw [lg_entry_eq]
  generalize (lg_sl ([.ref x]) ++ List.replicate (1 - (lg_sl ([.ref x])).length) Slot.unset).toArray = ls at hl ⊢
  have hl : lv_has ls 1 [(0, .ref x)] := hl
  refine lv_aload_n hx hb d_V_atHand_0 rfl (lv_at hl 0 rfl) ?_
  refine va_get (D := (dC, dI)) (ci := 0) (v := .ref w) (C := R_V) (T := F_V) (N := 4) hx hb hts u_V hown hK hP 0 rfl rfl 3 (by decide) (hts _ k_100) (fun _ h9 => h9) rfl d_V_atHand_1 ?_
  refine va_getN (D := (dC, dI)) (ci := 7) (v := .int 0) (C := R_U) (T := F_U) (N := 10) hx hb hts u_U hown hK hP 1 rfl rfl 7 (by decide) (hts _ k_188) (fun _ h9 => h9) rfl d_V_atHand_4 ?_
  refine lv_iconst (v := 1) hx hb d_V_atHand_7 (by decide) ?_
  refine lv_icmp_ne (tgt := 21) hx hb d_V_atHand_8 (by decide) (fun _ => ?_) (fun h9 => absurd h9 (by decide))
  refine lv_iconst (v := (-1)) hx hb d_V_atHand_21 (by decide) ?_
  have hP9 := hP.sub (ws' := [(x, .inr (0, [.ref g, .ref an, .ref tr, .ref w])), (w, .inr (7, [.ref g, .ref an_sequences, .ref tr, .ref w_given, .ref w_values, .ref w_knownBits, .ref w_instructionsDone, .int 0, .int 0, .int 0]))]) [0, 1] rfl
  have hD9 := hD.sub (ws' := [(x, .inr (0, [.ref g, .ref an, .ref tr, .ref w])), (w, .inr (7, [.ref g, .ref an_sequences, .ref tr, .ref w_given, .ref w_values, .ref w_knownBits, .ref w_instructionsDone, .int 0, .int 0, .int 0]))]) [0, 1] (by decide) rfl
  have hK9 := hK.sub (tys' := []) [] rfl
  refine W.widen (k := 0) (n := 0) (by decide) (by decide) ?_
  exact W.iret (v := (-1)) hx hb hr (fun t ht hW => ⟨⟨(-1), (), rfl, rfl, by rw [ht]; exact hP9, va_K.moved hW.alike hK9, hD9⟩, hS.F ht⟩) hS.2.2 d_V_atHand_22

set_option maxHeartbeats 4000000 in
set_option maxRecDepth 100000 in
theorem t_V_knows (l : Launch) (htr : l.stackTraces = false) (dC : Nat → ClassId) (dI : Nat → Nat → Nat) (x : Nat) (a : Int32) (b : Int32) (g : Nat) (an : Nat) (tr : Nat) (w : Nat) (tr_productions : Nat) (tr_tokens : Nat) (tr_parents : Nat) (tr_nodesAt : Nat) (sz : Nat) : vq_T l y_V_knows WS ({ frames := 7, cells := 1, slots := 6, locals := 104 }) (va_Pc [.ref x, .int a, .int b] (vq_Pre (dC, dI) CL sz [(x, .inr (0, [.ref g, .ref an, .ref tr, .ref w])), (tr, .inr (6, [.ref g, .ref tr_productions, .ref tr_tokens, .ref tr_parents, .ref tr_nodesAt, .int 0]))] [])) "java/lang/IndexOutOfBoundsException" (va_A [(x, .inr (0, [.ref g, .ref an, .ref tr, .ref w])), (tr, .inr (6, [.ref g, .ref tr_productions, .ref tr_tokens, .ref tr_parents, .ref tr_nodesAt, .int 0]))] sz) 1 6 := by
  refine vq_ofT (cc := prog_1_method_17_code) (maxL := 3) (ret := (Option.some Jvm.ClassFile.FieldType.boolean)) (by decide) (vq_his k_192) ?_
  intro p e s m args below meth c s₁ B hml hv
  obtain ⟨rfl, hst, hsz, hP, hK, hD0⟩ := hv
  have hx := B.exec
  have hb := B.bytes
  have hr := B.returns
  have hts := atoms_spec (ws := WS) B.pre
  have hown : s.vm.findClass R_V = some m.cls := findClass_of_methodNamed B.named
  have hlocks := B.notSynchronized
  have hno := vq_noH B (hts _ k_192)
  subst hsz
  have hN := vq_ns hP
  have hD := hD0.self (sz := s.heap.size)
  generalize hAe : va_A [(x, .inr (0, [.ref g, .ref an, .ref tr, .ref w])), (tr, .inr (6, [.ref g, .ref tr_productions, .ref tr_tokens, .ref tr_parents, .ref tr_nodesAt, .int 0]))] s.heap.size = A at hD hN ⊢
  have hA : ∀ q : Nat, s.heap.size ≤ q → A q := fun q h => by rw [← hAe]; exact Or.inr h
  have hS : va_S A s.heap s.heap [] := va_S.rf
  have hP : va_P (dC, dI) CL [(x, .inr (0, [.ref g, .ref an, .ref tr, .ref w])), (tr, .inr (6, [.ref g, .ref tr_productions, .ref tr_tokens, .ref tr_parents, .ref tr_nodesAt, .int 0]))] s.heap := hP
  have hD : va_D A [(x, .inr (0, [.ref g, .ref an, .ref tr, .ref w])), (tr, .inr (6, [.ref g, .ref tr_productions, .ref tr_tokens, .ref tr_parents, .ref tr_nodesAt, .int 0]))] := hD
  have hl := lv_entry ([.ref x, .int a, .int b]) (n := 3) (Nat.le_of_ble_eq_true rfl)
  rw [lg_entry_eq]
  generalize (lg_sl ([.ref x, .int a, .int b]) ++ List.replicate (3 - (lg_sl ([.ref x, .int a, .int b])).length) Slot.unset).toArray = ls at hl ⊢
  have hl : lv_has ls 3 [(0, .ref x), (1, .int a), (2, .int b)] := hl
  refine lv_aload_n hx hb d_V_knows_0 rfl (lv_at hl 0 rfl) ?_
  refine lv_iload_n hx hb d_V_knows_1 rfl (lv_at hl 1 rfl) ?_
  refine lv_iload_n hx hb d_V_knows_2 rfl (lv_at hl 2 rfl) ?_
  have hPc := hP.sub (ws' := [(x, .inr (0, [.ref g, .ref an, .ref tr, .ref w])), (tr, .inr (6, [.ref g, .ref tr_productions, .ref tr_tokens, .ref tr_parents, .ref tr_nodesAt, .int 0]))]) [0, 1] rfl
  have hDc := hD.sub (ws' := [(x, .inr (0, [.ref g, .ref an, .ref tr, .ref w])), (tr, .inr (6, [.ref g, .ref tr_productions, .ref tr_tokens, .ref tr_parents, .ref tr_nodesAt, .int 0]))]) [0, 1] (by decide) rfl
  have hKc := hK.sub (tys' := []) [] rfl
  have hFc := va_free (wc := [(x, .inr (0, [.ref g, .ref an, .ref tr, .ref w])), (tr, .inr (6, [.ref g, .ref tr_productions, .ref tr_tokens, .ref tr_parents, .ref tr_nodesAt, .int 0]))]) hD hS hA [0, 1] rfl
  exact vq_pass (vq_runT (As := [.int a, .int b]) (rest := []) ⟨hx, hb, hml, hown, hts⟩ (t_V_reqT l htr dC dI x a b g an tr w tr_productions tr_tokens tr_parents tr_nodesAt s.heap.size) (vq_cV WSk hts 2 rfl rfl ⟨by decide, by decide⟩ k_133 k_143 k_193 k_194 k_195 (by decide +kernel)) ⟨vq_blind, va_recv hK hP (ci := 0) (q0 := 0) rfl rfl, vq_here hst hS hN hPc hKc hDc⟩ rfl rfl hl.1 rfl (lv_room (Nat.le_of_ble_eq_true rfl)) d_V_knows_3 ⟨by decide, by decide⟩) hS hFc hno hlocks (by decide) (by decide)

set_option maxHeartbeats 4000000 in
set_option maxRecDepth 100000 in
theorem t_V_value (l : Launch) (htr : l.stackTraces = false) (dC : Nat → ClassId) (dI : Nat → Nat → Nat) (x : Nat) (a : Int32) (b : Int32) (g : Nat) (an : Nat) (tr : Nat) (w : Nat) (tr_productions : Nat) (tr_tokens : Nat) (tr_parents : Nat) (tr_nodesAt : Nat) (sz : Nat) : vq_T l y_V_value WS ({ frames := 7, cells := 1, slots := 6, locals := 104 }) (va_Pc [.ref x, .int a, .int b] (vq_Pre (dC, dI) CL sz [(x, .inr (0, [.ref g, .ref an, .ref tr, .ref w])), (tr, .inr (6, [.ref g, .ref tr_productions, .ref tr_tokens, .ref tr_parents, .ref tr_nodesAt, .int 0]))] [])) "java/lang/IndexOutOfBoundsException" (va_A [(x, .inr (0, [.ref g, .ref an, .ref tr, .ref w])), (tr, .inr (6, [.ref g, .ref tr_productions, .ref tr_tokens, .ref tr_parents, .ref tr_nodesAt, .int 0]))] sz) 1 6 := by
  refine vq_ofT (cc := prog_1_method_18_code) (maxL := 3) (ret := (Option.some Jvm.ClassFile.FieldType.int)) (by decide) (vq_his k_196) ?_
  intro p e s m args below meth c s₁ B hml hv
  obtain ⟨rfl, hst, hsz, hP, hK, hD0⟩ := hv
  have hx := B.exec
  have hb := B.bytes
  have hr := B.returns
  have hts := atoms_spec (ws := WS) B.pre
  have hown : s.vm.findClass R_V = some m.cls := findClass_of_methodNamed B.named
  have hlocks := B.notSynchronized
  have hno := vq_noH B (hts _ k_196)
  subst hsz
  have hN := vq_ns hP
  have hD := hD0.self (sz := s.heap.size)
  generalize hAe : va_A [(x, .inr (0, [.ref g, .ref an, .ref tr, .ref w])), (tr, .inr (6, [.ref g, .ref tr_productions, .ref tr_tokens, .ref tr_parents, .ref tr_nodesAt, .int 0]))] s.heap.size = A at hD hN ⊢
  have hA : ∀ q : Nat, s.heap.size ≤ q → A q := fun q h => by rw [← hAe]; exact Or.inr h
  have hS : va_S A s.heap s.heap [] := va_S.rf
  have hP : va_P (dC, dI) CL [(x, .inr (0, [.ref g, .ref an, .ref tr, .ref w])), (tr, .inr (6, [.ref g, .ref tr_productions, .ref tr_tokens, .ref tr_parents, .ref tr_nodesAt, .int 0]))] s.heap := hP
  have hD : va_D A [(x, .inr (0, [.ref g, .ref an, .ref tr, .ref w])), (tr, .inr (6, [.ref g, .ref tr_productions, .ref tr_tokens, .ref tr_parents, .ref tr_nodesAt, .int 0]))] := hD
  have hl := lv_entry ([.ref x, .int a, .int b]) (n := 3) (Nat.le_of_ble_eq_true rfl)
  rw [lg_entry_eq]
  generalize (lg_sl ([.ref x, .int a, .int b]) ++ List.replicate (3 - (lg_sl ([.ref x, .int a, .int b])).length) Slot.unset).toArray = ls at hl ⊢
  have hl : lv_has ls 3 [(0, .ref x), (1, .int a), (2, .int b)] := hl
  refine lv_aload_n hx hb d_V_value_0 rfl (lv_at hl 0 rfl) ?_
  refine lv_iload_n hx hb d_V_value_1 rfl (lv_at hl 1 rfl) ?_
  refine lv_iload_n hx hb d_V_value_2 rfl (lv_at hl 2 rfl) ?_
  have hPc := hP.sub (ws' := [(x, .inr (0, [.ref g, .ref an, .ref tr, .ref w])), (tr, .inr (6, [.ref g, .ref tr_productions, .ref tr_tokens, .ref tr_parents, .ref tr_nodesAt, .int 0]))]) [0, 1] rfl
  have hDc := hD.sub (ws' := [(x, .inr (0, [.ref g, .ref an, .ref tr, .ref w])), (tr, .inr (6, [.ref g, .ref tr_productions, .ref tr_tokens, .ref tr_parents, .ref tr_nodesAt, .int 0]))]) [0, 1] (by decide) rfl
  have hKc := hK.sub (tys' := []) [] rfl
  have hFc := va_free (wc := [(x, .inr (0, [.ref g, .ref an, .ref tr, .ref w])), (tr, .inr (6, [.ref g, .ref tr_productions, .ref tr_tokens, .ref tr_parents, .ref tr_nodesAt, .int 0]))]) hD hS hA [0, 1] rfl
  exact vq_pass (vq_runT (As := [.int a, .int b]) (rest := []) ⟨hx, hb, hml, hown, hts⟩ (t_V_reqT l htr dC dI x a b g an tr w tr_productions tr_tokens tr_parents tr_nodesAt s.heap.size) (vq_cV WSk hts 2 rfl rfl ⟨by decide, by decide⟩ k_133 k_143 k_193 k_194 k_195 (by decide +kernel)) ⟨vq_blind, va_recv hK hP (ci := 0) (q0 := 0) rfl rfl, vq_here hst hS hN hPc hKc hDc⟩ rfl rfl hl.1 rfl (lv_room (Nat.le_of_ble_eq_true rfl)) d_V_value_3 ⟨by decide, by decide⟩) hS hFc hno hlocks (by decide) (by decide)

set_option maxHeartbeats 4000000 in
set_option maxRecDepth 100000 in
theorem c_V_fault0 (l : Launch) (htr : l.stackTraces = false) (dC : Nat → ClassId) (dI : Nat → Nat → Nat) (x : Nat) (g : Nat) (an : Nat) (tr : Nat) (w : Nat) (an_leads : Nat) (an_ranking : Nat) (an_sequences : Nat) (sz : Nat) : Met l y_V_fault WS ({ frames := 0, cells := 0, slots := 0, locals := 0 }) (va_Pc [.ref x, .int 0] (vq_Pre (dC, dI) CL sz [(x, .inr (0, [.ref g, .ref an, .ref tr, .ref w])), (an, .inr (2, [.ref g, .ref an_leads, .ref an_ranking, .ref an_sequences, .int 0, .int 0, .int (-1), .int (-1)]))] [])) (va_Qi (fun (r : Int32) (_ : Unit) => r = 0) (fun _ t => vq_Post (dC, dI) CL (va_A [(x, .inr (0, [.ref g, .ref an, .ref tr, .ref w])), (an, .inr (2, [.ref g, .ref an_leads, .ref an_ranking, .ref an_sequences, .int 0, .int 0, .int (-1), .int (-1)]))] sz) [(x, .inr (0, [.ref g, .ref an, .ref tr, .ref w])), (an, .inr (2, [.ref g, .ref an_leads, .ref an_ranking, .ref an_sequences, .int 0, .int 0, .int (-1), .int (-1)]))] [] t) (va_A [(x, .inr (0, [.ref g, .ref an, .ref tr, .ref w])), (an, .inr (2, [.ref g, .ref an_leads, .ref an_ranking, .ref an_sequences, .int 0, .int 0, .int (-1), .int (-1)]))] sz)) 0 0 (va_A [(x, .inr (0, [.ref g, .ref an, .ref tr, .ref w])), (an, .inr (2, [.ref g, .ref an_leads, .ref an_ranking, .ref an_sequences, .int 0, .int 0, .int (-1), .int (-1)]))] sz) := by
  refine vq_ofW (cc := prog_1_method_6_code) (maxL := 2) (ret := (Option.some Jvm.ClassFile.FieldType.int)) (by decide) (vq_his k_197) ?_
  intro p e s m args below meth c s₁ B hml hv
  obtain ⟨rfl, hst, hsz, hP, hK, hD0⟩ := hv
  have hx := B.exec
  have hb := B.bytes
  have hr := B.returns
  have hts := atoms_spec (ws := WS) B.pre
  have hown : s.vm.findClass R_V = some m.cls := findClass_of_methodNamed B.named
  have hlocks := B.notSynchronized
  have hno := vq_noH B (hts _ k_197)
  subst hsz
  have hN := vq_ns hP
  have hD := hD0.self (sz := s.heap.size)
  generalize hAe : va_A [(x, .inr (0, [.ref g, .ref an, .ref tr, .ref w])), (an, .inr (2, [.ref g, .ref an_leads, .ref an_ranking, .ref an_sequences, .int 0, .int 0, .int (-1), .int (-1)]))] s.heap.size = A at hD hN ⊢
  have hA : ∀ q : Nat, s.heap.size ≤ q → A q := fun q h => by rw [← hAe]; exact Or.inr h
  have hS : va_S A s.heap s.heap [] := va_S.rf
  have hP : va_P (dC, dI) CL [(x, .inr (0, [.ref g, .ref an, .ref tr, .ref w])), (an, .inr (2, [.ref g, .ref an_leads, .ref an_ranking, .ref an_sequences, .int 0, .int 0, .int (-1), .int (-1)]))] s.heap := hP
  have hD : va_D A [(x, .inr (0, [.ref g, .ref an, .ref tr, .ref w])), (an, .inr (2, [.ref g, .ref an_leads, .ref an_ranking, .ref an_sequences, .int 0, .int 0, .int (-1), .int (-1)]))] := hD
  have hl := lv_entry ([.ref x, .int 0]) (n := 2) (Nat.le_of_ble_eq_true rfl)
  rw [lg_entry_eq]
  generalize (lg_sl ([.ref x, .int 0]) ++ List.replicate (2 - (lg_sl ([.ref x, .int 0])).length) Slot.unset).toArray = ls at hl ⊢
  have hl : lv_has ls 2 [(0, .ref x), (1, .int 0)] := hl
  refine lv_iload_n hx hb d_V_fault_0 rfl (lv_at hl 1 rfl) ?_
  refine lv_tableIn (x := 0) (off := 27) (tgt := 28) hx hb d_V_fault_1 (by decide) (by decide) (by decide) (by decide) ?_
  refine lv_aload_n hx hb d_V_fault_28 rfl (lv_at hl 0 rfl) ?_
  refine va_get (D := (dC, dI)) (ci := 0) (v := .ref an) (C := R_V) (T := F_V) (N := 4) hx hb hts u_V hown hK hP 0 rfl rfl 1 (by decide) (hts _ k_87) (fun _ h9 => h9) rfl d_V_fault_29 ?_
  refine va_getN (D := (dC, dI)) (ci := 2) (v := .int 0) (C := R_A) (T := F_A) (N := 8) hx hb hts u_A hown hK hP 1 rfl rfl 5 (by decide) (hts _ k_168) (fun _ h9 => h9) rfl d_V_fault_32 ?_
  have hP9 := hP.sub (ws' := [(x, .inr (0, [.ref g, .ref an, .ref tr, .ref w])), (an, .inr (2, [.ref g, .ref an_leads, .ref an_ranking, .ref an_sequences, .int 0, .int 0, .int (-1), .int (-1)]))]) [0, 1] rfl
  have hD9 := hD.sub (ws' := [(x, .inr (0, [.ref g, .ref an, .ref tr, .ref w])), (an, .inr (2, [.ref g, .ref an_leads, .ref an_ranking, .ref an_sequences, .int 0, .int 0, .int (-1), .int (-1)]))]) [0, 1] (by decide) rfl
  have hK9 := hK.sub (tys' := []) [] rfl
  refine W.widen (k := 0) (n := 0) (by decide) (by decide) ?_
  exact W.iret (v := 0) hx hb hr (fun t ht hW => ⟨⟨0, (), rfl, rfl, by rw [ht]; exact hP9, va_K.moved hW.alike hK9, hD9⟩, hS.F ht⟩) hS.2.2 d_V_fault_35

set_option maxHeartbeats 4000000 in
set_option maxRecDepth 100000 in
theorem c_V_fault1 (l : Launch) (htr : l.stackTraces = false) (dC : Nat → ClassId) (dI : Nat → Nat → Nat) (x : Nat) (g : Nat) (an : Nat) (tr : Nat) (w : Nat) (an_leads : Nat) (an_ranking : Nat) (an_sequences : Nat) (sz : Nat) : Met l y_V_fault WS ({ frames := 0, cells := 0, slots := 0, locals := 0 }) (va_Pc [.ref x, .int 1] (vq_Pre (dC, dI) CL sz [(x, .inr (0, [.ref g, .ref an, .ref tr, .ref w])), (an, .inr (2, [.ref g, .ref an_leads, .ref an_ranking, .ref an_sequences, .int 0, .int 0, .int (-1), .int (-1)]))] [])) (va_Qi (fun (r : Int32) (_ : Unit) => r = (-1)) (fun _ t => vq_Post (dC, dI) CL (va_A [(x, .inr (0, [.ref g, .ref an, .ref tr, .ref w])), (an, .inr (2, [.ref g, .ref an_leads, .ref an_ranking, .ref an_sequences, .int 0, .int 0, .int (-1), .int (-1)]))] sz) [(x, .inr (0, [.ref g, .ref an, .ref tr, .ref w])), (an, .inr (2, [.ref g, .ref an_leads, .ref an_ranking, .ref an_sequences, .int 0, .int 0, .int (-1), .int (-1)]))] [] t) (va_A [(x, .inr (0, [.ref g, .ref an, .ref tr, .ref w])), (an, .inr (2, [.ref g, .ref an_leads, .ref an_ranking, .ref an_sequences, .int 0, .int 0, .int (-1), .int (-1)]))] sz)) 0 0 (va_A [(x, .inr (0, [.ref g, .ref an, .ref tr, .ref w])), (an, .inr (2, [.ref g, .ref an_leads, .ref an_ranking, .ref an_sequences, .int 0, .int 0, .int (-1), .int (-1)]))] sz) := by
  refine vq_ofW (cc := prog_1_method_6_code) (maxL := 2) (ret := (Option.some Jvm.ClassFile.FieldType.int)) (by decide) (vq_his k_197) ?_
  intro p e s m args below meth c s₁ B hml hv
  obtain ⟨rfl, hst, hsz, hP, hK, hD0⟩ := hv
  have hx := B.exec
  have hb := B.bytes
  have hr := B.returns
  have hts := atoms_spec (ws := WS) B.pre
  have hown : s.vm.findClass R_V = some m.cls := findClass_of_methodNamed B.named
  have hlocks := B.notSynchronized
  have hno := vq_noH B (hts _ k_197)
  subst hsz
  have hN := vq_ns hP
  have hD := hD0.self (sz := s.heap.size)
  generalize hAe : va_A [(x, .inr (0, [.ref g, .ref an, .ref tr, .ref w])), (an, .inr (2, [.ref g, .ref an_leads, .ref an_ranking, .ref an_sequences, .int 0, .int 0, .int (-1), .int (-1)]))] s.heap.size = A at hD hN ⊢
  have hA : ∀ q : Nat, s.heap.size ≤ q → A q := fun q h => by rw [← hAe]; exact Or.inr h
  have hS : va_S A s.heap s.heap [] := va_S.rf
  have hP : va_P (dC, dI) CL [(x, .inr (0, [.ref g, .ref an, .ref tr, .ref w])), (an, .inr (2, [.ref g, .ref an_leads, .ref an_ranking, .ref an_sequences, .int 0, .int 0, .int (-1), .int (-1)]))] s.heap := hP
  have hD : va_D A [(x, .inr (0, [.ref g, .ref an, .ref tr, .ref w])), (an, .inr (2, [.ref g, .ref an_leads, .ref an_ranking, .ref an_sequences, .int 0, .int 0, .int (-1), .int (-1)]))] := hD
  have hl := lv_entry ([.ref x, .int 1]) (n := 2) (Nat.le_of_ble_eq_true rfl)
  rw [lg_entry_eq]
  generalize (lg_sl ([.ref x, .int 1]) ++ List.replicate (2 - (lg_sl ([.ref x, .int 1])).length) Slot.unset).toArray = ls at hl ⊢
  have hl : lv_has ls 2 [(0, .ref x), (1, .int 1)] := hl
  refine lv_iload_n hx hb d_V_fault_0 rfl (lv_at hl 1 rfl) ?_
  refine lv_tableIn (x := 1) (off := 35) (tgt := 36) hx hb d_V_fault_1 (by decide) (by decide) (by decide) (by decide) ?_
  refine lv_aload_n hx hb d_V_fault_36 rfl (lv_at hl 0 rfl) ?_
  refine va_get (D := (dC, dI)) (ci := 0) (v := .ref an) (C := R_V) (T := F_V) (N := 4) hx hb hts u_V hown hK hP 0 rfl rfl 1 (by decide) (hts _ k_87) (fun _ h9 => h9) rfl d_V_fault_37 ?_
  refine va_getN (D := (dC, dI)) (ci := 2) (v := .int (-1)) (C := R_A) (T := F_A) (N := 8) hx hb hts u_A hown hK hP 1 rfl rfl 6 (by decide) (hts _ k_198) (fun _ h9 => h9) rfl d_V_fault_40 ?_
  have hP9 := hP.sub (ws' := [(x, .inr (0, [.ref g, .ref an, .ref tr, .ref w])), (an, .inr (2, [.ref g, .ref an_leads, .ref an_ranking, .ref an_sequences, .int 0, .int 0, .int (-1), .int (-1)]))]) [0, 1] rfl
  have hD9 := hD.sub (ws' := [(x, .inr (0, [.ref g, .ref an, .ref tr, .ref w])), (an, .inr (2, [.ref g, .ref an_leads, .ref an_ranking, .ref an_sequences, .int 0, .int 0, .int (-1), .int (-1)]))]) [0, 1] (by decide) rfl
  have hK9 := hK.sub (tys' := []) [] rfl
  refine W.widen (k := 0) (n := 0) (by decide) (by decide) ?_
  exact W.iret (v := (-1)) hx hb hr (fun t ht hW => ⟨⟨(-1), (), rfl, rfl, by rw [ht]; exact hP9, va_K.moved hW.alike hK9, hD9⟩, hS.F ht⟩) hS.2.2 d_V_fault_43

set_option maxHeartbeats 4000000 in
set_option maxRecDepth 100000 in
theorem c_V_fault2 (l : Launch) (htr : l.stackTraces = false) (dC : Nat → ClassId) (dI : Nat → Nat → Nat) (x : Nat) (g : Nat) (an : Nat) (tr : Nat) (w : Nat) (an_leads : Nat) (an_ranking : Nat) (an_sequences : Nat) (sz : Nat) : Met l y_V_fault WS ({ frames := 0, cells := 0, slots := 0, locals := 0 }) (va_Pc [.ref x, .int 2] (vq_Pre (dC, dI) CL sz [(x, .inr (0, [.ref g, .ref an, .ref tr, .ref w])), (an, .inr (2, [.ref g, .ref an_leads, .ref an_ranking, .ref an_sequences, .int 0, .int 0, .int (-1), .int (-1)]))] [])) (va_Qi (fun (r : Int32) (_ : Unit) => r = (-1)) (fun _ t => vq_Post (dC, dI) CL (va_A [(x, .inr (0, [.ref g, .ref an, .ref tr, .ref w])), (an, .inr (2, [.ref g, .ref an_leads, .ref an_ranking, .ref an_sequences, .int 0, .int 0, .int (-1), .int (-1)]))] sz) [(x, .inr (0, [.ref g, .ref an, .ref tr, .ref w])), (an, .inr (2, [.ref g, .ref an_leads, .ref an_ranking, .ref an_sequences, .int 0, .int 0, .int (-1), .int (-1)]))] [] t) (va_A [(x, .inr (0, [.ref g, .ref an, .ref tr, .ref w])), (an, .inr (2, [.ref g, .ref an_leads, .ref an_ranking, .ref an_sequences, .int 0, .int 0, .int (-1), .int (-1)]))] sz)) 0 0 (va_A [(x, .inr (0, [.ref g, .ref an, .ref tr, .ref w])), (an, .inr (2, [.ref g, .ref an_leads, .ref an_ranking, .ref an_sequences, .int 0, .int 0, .int (-1), .int (-1)]))] sz) := by
  refine vq_ofW (cc := prog_1_method_6_code) (maxL := 2) (ret := (Option.some Jvm.ClassFile.FieldType.int)) (by decide) (vq_his k_197) ?_
  intro p e s m args below meth c s₁ B hml hv
  obtain ⟨rfl, hst, hsz, hP, hK, hD0⟩ := hv
  have hx := B.exec
  have hb := B.bytes
  have hr := B.returns
  have hts := atoms_spec (ws := WS) B.pre
  have hown : s.vm.findClass R_V = some m.cls := findClass_of_methodNamed B.named
  have hlocks := B.notSynchronized
  have hno := vq_noH B (hts _ k_197)
  subst hsz
  have hN := vq_ns hP
  have hD := hD0.self (sz := s.heap.size)
  generalize hAe : va_A [(x, .inr (0, [.ref g, .ref an, .ref tr, .ref w])), (an, .inr (2, [.ref g, .ref an_leads, .ref an_ranking, .ref an_sequences, .int 0, .int 0, .int (-1), .int (-1)]))] s.heap.size = A at hD hN ⊢
  have hA : ∀ q : Nat, s.heap.size ≤ q → A q := fun q h => by rw [← hAe]; exact Or.inr h
  have hS : va_S A s.heap s.heap [] := va_S.rf
  have hP : va_P (dC, dI) CL [(x, .inr (0, [.ref g, .ref an, .ref tr, .ref w])), (an, .inr (2, [.ref g, .ref an_leads, .ref an_ranking, .ref an_sequences, .int 0, .int 0, .int (-1), .int (-1)]))] s.heap := hP
  have hD : va_D A [(x, .inr (0, [.ref g, .ref an, .ref tr, .ref w])), (an, .inr (2, [.ref g, .ref an_leads, .ref an_ranking, .ref an_sequences, .int 0, .int 0, .int (-1), .int (-1)]))] := hD
  have hl := lv_entry ([.ref x, .int 2]) (n := 2) (Nat.le_of_ble_eq_true rfl)
  rw [lg_entry_eq]
  generalize (lg_sl ([.ref x, .int 2]) ++ List.replicate (2 - (lg_sl ([.ref x, .int 2])).length) Slot.unset).toArray = ls at hl ⊢
  have hl : lv_has ls 2 [(0, .ref x), (1, .int 2)] := hl
  refine lv_iload_n hx hb d_V_fault_0 rfl (lv_at hl 1 rfl) ?_
  refine lv_tableIn (x := 2) (off := 43) (tgt := 44) hx hb d_V_fault_1 (by decide) (by decide) (by decide) (by decide) ?_
  refine lv_aload_n hx hb d_V_fault_44 rfl (lv_at hl 0 rfl) ?_
  refine va_get (D := (dC, dI)) (ci := 0) (v := .ref an) (C := R_V) (T := F_V) (N := 4) hx hb hts u_V hown hK hP 0 rfl rfl 1 (by decide) (hts _ k_87) (fun _ h9 => h9) rfl d_V_fault_45 ?_
  refine va_getN (D := (dC, dI)) (ci := 2) (v := .int (-1)) (C := R_A) (T := F_A) (N := 8) hx hb hts u_A hown hK hP 1 rfl rfl 7 (by decide) (hts _ k_199) (fun _ h9 => h9) rfl d_V_fault_48 ?_
  have hP9 := hP.sub (ws' := [(x, .inr (0, [.ref g, .ref an, .ref tr, .ref w])), (an, .inr (2, [.ref g, .ref an_leads, .ref an_ranking, .ref an_sequences, .int 0, .int 0, .int (-1), .int (-1)]))]) [0, 1] rfl
  have hD9 := hD.sub (ws' := [(x, .inr (0, [.ref g, .ref an, .ref tr, .ref w])), (an, .inr (2, [.ref g, .ref an_leads, .ref an_ranking, .ref an_sequences, .int 0, .int 0, .int (-1), .int (-1)]))]) [0, 1] (by decide) rfl
  have hK9 := hK.sub (tys' := []) [] rfl
  refine W.widen (k := 0) (n := 0) (by decide) (by decide) ?_
  exact W.iret (v := (-1)) hx hb hr (fun t ht hW => ⟨⟨(-1), (), rfl, rfl, by rw [ht]; exact hP9, va_K.moved hW.alike hK9, hD9⟩, hS.F ht⟩) hS.2.2 d_V_fault_51

set_option maxHeartbeats 4000000 in
set_option maxRecDepth 100000 in
theorem c_V_faultD (l : Launch) (htr : l.stackTraces = false) (dC : Nat → ClassId) (dI : Nat → Nat → Nat) (x : Nat) (a : Int32) (g : Nat) (an : Nat) (tr : Nat) (w : Nat) (an_leads : Nat) (an_ranking : Nat) (an_sequences : Nat) (sz : Nat) (ho : a.toInt < 0 ∨ 2 < a.toInt) : Met l y_V_fault WS ({ frames := 0, cells := 0, slots := 0, locals := 0 }) (va_Pc [.ref x, .int a] (vq_Pre (dC, dI) CL sz [(x, .inr (0, [.ref g, .ref an, .ref tr, .ref w])), (an, .inr (2, [.ref g, .ref an_leads, .ref an_ranking, .ref an_sequences, .int 0, .int 0, .int (-1), .int (-1)]))] [])) (va_Qi (fun (r : Int32) (_ : Unit) => r = (-1)) (fun _ t => vq_Post (dC, dI) CL (va_A [(x, .inr (0, [.ref g, .ref an, .ref tr, .ref w])), (an, .inr (2, [.ref g, .ref an_leads, .ref an_ranking, .ref an_sequences, .int 0, .int 0, .int (-1), .int (-1)]))] sz) [(x, .inr (0, [.ref g, .ref an, .ref tr, .ref w])), (an, .inr (2, [.ref g, .ref an_leads, .ref an_ranking, .ref an_sequences, .int 0, .int 0, .int (-1), .int (-1)]))] [] t) (va_A [(x, .inr (0, [.ref g, .ref an, .ref tr, .ref w])), (an, .inr (2, [.ref g, .ref an_leads, .ref an_ranking, .ref an_sequences, .int 0, .int 0, .int (-1), .int (-1)]))] sz)) 0 0 (va_A [(x, .inr (0, [.ref g, .ref an, .ref tr, .ref w])), (an, .inr (2, [.ref g, .ref an_leads, .ref an_ranking, .ref an_sequences, .int 0, .int 0, .int (-1), .int (-1)]))] sz) := by
  refine vq_ofW (cc := prog_1_method_6_code) (maxL := 2) (ret := (Option.some Jvm.ClassFile.FieldType.int)) (by decide) (vq_his k_197) ?_
  intro p e s m args below meth c s₁ B hml hv
  obtain ⟨rfl, hst, hsz, hP, hK, hD0⟩ := hv
  have hx := B.exec
  have hb := B.bytes
  have hr := B.returns
  have hts := atoms_spec (ws := WS) B.pre
  have hown : s.vm.findClass R_V = some m.cls := findClass_of_methodNamed B.named
  have hlocks := B.notSynchronized
  have hno := vq_noH B (hts _ k_197)
  subst hsz
  have hN := vq_ns hP
  have hD := hD0.self (sz := s.heap.size)
  generalize hAe : va_A [(x, .inr (0, [.ref g, .ref an, .ref tr, .ref w])), (an, .inr (2, [.ref g, .ref an_leads, .ref an_ranking, .ref an_sequences, .int 0, .int 0, .int (-1), .int (-1)]))] s.heap.size = A at hD hN ⊢
  have hA : ∀ q : Nat, s.heap.size ≤ q → A q := fun q h => by rw [← hAe]; exact Or.inr h
  have hS : va_S A s.heap s.heap [] := va_S.rf
  have hP : va_P (dC, dI) CL [(x, .inr (0, [.ref g, .ref an, .ref tr, .ref w])), (an, .inr (2, [.ref g, .ref an_leads, .ref an_ranking, .ref an_sequences, .int 0, .int 0, .int (-1), .int (-1)]))] s.heap := hP
  have hD : va_D A [(x, .inr (0, [.ref g, .ref an, .ref tr, .ref w])), (an, .inr (2, [.ref g, .ref an_leads, .ref an_ranking, .ref an_sequences, .int 0, .int 0, .int (-1), .int (-1)]))] := hD
  have hl := lv_entry ([.ref x, .int a]) (n := 2) (Nat.le_of_ble_eq_true rfl)
  rw [lg_entry_eq]
  generalize (lg_sl ([.ref x, .int a]) ++ List.replicate (2 - (lg_sl ([.ref x, .int a])).length) Slot.unset).toArray = ls at hl ⊢
  have hl : lv_has ls 2 [(0, .ref x), (1, .int a)] := hl
  refine lv_iload_n hx hb d_V_fault_0 rfl (lv_at hl 1 rfl) ?_
  refine lv_tableOut (tgt := 52) hx hb d_V_fault_1 ho (by decide) ?_
  refine lv_iconst (v := (-1)) hx hb d_V_fault_52 (by decide) ?_
  have hP9 := hP.sub (ws' := [(x, .inr (0, [.ref g, .ref an, .ref tr, .ref w])), (an, .inr (2, [.ref g, .ref an_leads, .ref an_ranking, .ref an_sequences, .int 0, .int 0, .int (-1), .int (-1)]))]) [0, 1] rfl
  have hD9 := hD.sub (ws' := [(x, .inr (0, [.ref g, .ref an, .ref tr, .ref w])), (an, .inr (2, [.ref g, .ref an_leads, .ref an_ranking, .ref an_sequences, .int 0, .int 0, .int (-1), .int (-1)]))]) [0, 1] (by decide) rfl
  have hK9 := hK.sub (tys' := []) [] rfl
  refine W.widen (k := 0) (n := 0) (by decide) (by decide) ?_
  exact W.iret (v := (-1)) hx hb hr (fun t ht hW => ⟨⟨(-1), (), rfl, rfl, by rw [ht]; exact hP9, va_K.moved hW.alike hK9, hD9⟩, hS.F ht⟩) hS.2.2 d_V_fault_53
end
section
set_option maxHeartbeats 4000000 in
set_option maxRecDepth 100000 in
theorem c_M_init (l : Launch) (htr : l.stackTraces = false) (dC : Nat → ClassId) (dI : Nat → Nat → Nat) (h : Nat) (sz : Nat) : Met l y_M_init WS ({ frames := 1, cells := 25, slots := 7176, locals := 12 }) (va_Pc [.ref h] (vq_Pre (dC, dI) CL sz [(h, .inr (8, [.int 0, .int 0, .null, .null, .int 0, .null, .null, .null, .null, .null, .int 0, .int 0, .int 0, .int 0, .null, .null, .null, .null, .null, .null, .null, .null, .null, .null, .int 0, .null, .null, .null, .null, .null, .null, .null, .null, .int 0, .int 0]))] [])) (va_Qv (fun _ : Unit => True) (fun _ t => ∃ q1 : Nat, ∃ q3 : Nat, ∃ q5 : Nat, ∃ q7 : Nat, ∃ q9 : Nat, ∃ q11 : Nat, ∃ q13 : Nat, ∃ q15 : Nat, ∃ q17 : Nat, ∃ q19 : Nat, ∃ q21 : Nat, ∃ q23 : Nat, ∃ q25 : Nat, ∃ q27 : Nat, ∃ q29 : Nat, ∃ q31 : Nat, ∃ q33 : Nat, ∃ q35 : Nat, ∃ q37 : Nat, ∃ q39 : Nat, ∃ q41 : Nat, ∃ q43 : Nat, ∃ q45 : Nat, ∃ q47 : Nat, ∃ q49 : Nat, ∃ c2 : ClassId, ∃ c4 : ClassId, ∃ c46 : ClassId, ∃ c50 : ClassId, vq_Post (dC, dI) CL (va_A [(h, .inr (8, [.int 0, .int 0, .null, .null, .int 0, .null, .null, .null, .null, .null, .int 0, .int 0, .int 0, .int 0, .null, .null, .null, .null, .null, .null, .null, .null, .null, .null, .int 0, .null, .null, .null, .null, .null, .null, .null, .null, .int 0, .int 0]))] sz) [(h, .inr (8, [.int 0, .int 0, .ref q1, .ref q3, .int 0, .ref q5, .ref q7, .ref q9, .ref q11, .ref q13, .int 0, .int 0, .int (-1), .int (-1), .ref q15, .ref q17, .ref q19, .ref q21, .ref q23, .ref q25, .ref q27, .ref q29, .ref q31, .ref q33, .int 0, .ref q35, .ref q37, .ref q39, .ref q41, .ref q43, .ref q45, .ref q47, .ref q49, .int (-1), .int (-1)])), (q1, .inl (c2, 6, .inl ((fun _ => 0)))), (q3, .inl (c4, 24, .inl ((fun _ => 0)))), (q45, .inl (c46, 160, .inl ((fun _ => 0)))), (q49, .inl (c50, 4, .inl ((fun _ => 0))))] [(c2, .int), (c4, .boolean), (c46, .boolean), (c50, .int)] t) (va_A [(h, .inr (8, [.int 0, .int 0, .null, .null, .int 0, .null, .null, .null, .null, .null, .int 0, .int 0, .int 0, .int 0, .null, .null, .null, .null, .null, .null, .null, .null, .null, .null, .int 0, .null, .null, .null, .null, .null, .null, .null, .null, .int 0, .int 0]))] sz)) 25 7176 (va_A [(h, .inr (8, [.int 0, .int 0, .null, .null, .int 0, .null, .null, .null, .null, .null, .int 0, .int 0, .int 0, .int 0, .null, .null, .null, .null, .null, .null, .null, .null, .null, .null, .int 0, .null, .null, .null, .null, .null, .null, .null, .null, .int 0, .int 0]))] sz) := by
  refine vq_ofW (cc := prog_10_method_1_code) (maxL := 2) (ret := (Option.none : Option Jvm.ClassFile.FieldType)) (by decide) (vq_his k_200) ?_
  intro p e s m args below meth c s₁ B hml hv
  obtain ⟨rfl, hst, hsz, hP, hK, hD0⟩ := hv
  have hx := B.exec
  have hb := B.bytes
  have hr := B.returns
  have hts := atoms_spec (ws := WS) B.pre
  have hown : s.vm.findClass R_M = some m.cls := findClass_of_methodNamed B.named
  have hlocks := B.notSynchronized
  have hin : meth.name = "<init>" := (name_of_methodNamed B.named B.method).1
  have hno := vq_noH B (hts _ k_200)
  subst hsz
  have hN := vq_ns hP
  have hD := hD0.self (sz := s.heap.size)
  generalize hAe : va_A [(h, .inr (8, [.int 0, .int 0, .null, .null, .int 0, .null, .null, .null, .null, .null, .int 0, .int 0, .int 0, .int 0, .null, .null, .null, .null, .null, .null, .null, .null, .null, .null, .int 0, .null, .null, .null, .null, .null, .null, .null, .null, .int 0, .int 0]))] s.heap.size = A at hD hN ⊢
  have hA : ∀ q : Nat, s.heap.size ≤ q → A q := fun q h => by rw [← hAe]; exact Or.inr h
  have hS : va_S A s.heap s.heap [] := va_S.rf
  have hP : va_P (dC, dI) CL [(h, .inr (8, [.int 0, .int 0, .null, .null, .int 0, .null, .null, .null, .null, .null, .int 0, .int 0, .int 0, .int 0, .null, .null, .null, .null, .null, .null, .null, .null, .null, .null, .int 0, .null, .null, .null, .null, .null, .null, .null, .null, .int 0, .int 0]))] s.heap := hP
  have hD : va_D A [(h, .inr (8, [.int 0, .int 0, .null, .null, .int 0, .null, .null, .null, .null, .null, .int 0, .int 0, .int 0, .int 0, .null, .null, .null, .null, .null, .null, .null, .null, .null, .null, .int 0, .null, .null, .null, .null, .null, .null, .null, .null, .int 0, .int 0]))] := hD
  have hl := lv_entry ([.ref h]) (n := 2) (Nat.le_of_ble_eq_true rfl)
  rw [lg_entry_eq]
  generalize (lg_sl ([.ref h]) ++ List.replicate (2 - (lg_sl ([.ref h])).length) Slot.unset).toArray = ls at hl ⊢
  have hl : lv_has ls 2 [(0, .ref h)] := hl
  refine lv_aload_n hx hb d_M_init_0 rfl (lv_at hl 0 rfl) ?_
  refine W.objInit hx hb hown (hts _ k_201) (hts _ k_2) (hts _ k_3) rfl (by rw [hml]; exact hl.1) rfl d_M_init_1 (Nat.le_of_ble_eq_true rfl) (Nat.le_of_ble_eq_true rfl) ?_
  refine W.eq (g2 := F0 m 4 ls []) rfl ?_
  refine lv_aload_n hx hb d_M_init_4 rfl (lv_at hl 0 rfl) ?_
  refine lv_bipush (v := 6) hx hb d_M_init_5 (by decide) ?_
  refine va_newa (D := (dC, dI)) (atype := .int) (ty := .int) (N' := 6) (a0 := (6, .inl (fun _ => 0))) hx hb (hts _ k_4) rfl hK hP hD hS hA (fun _ => rfl) (by decide) (by decide) (by decide) (Nat.le_of_ble_eq_true rfl) (Nat.le_of_ble_eq_true rfl) d_M_init_7 (fun q1 c2 H hK hP hD hS => ?_)
  have hP : va_P (dC, dI) CL [(h, .inr (8, [.int 0, .int 0, .null, .null, .int 0, .null, .null, .null, .null, .null, .int 0, .int 0, .int 0, .int 0, .null, .null, .null, .null, .null, .null, .null, .null, .null, .null, .int 0, .null, .null, .null, .null, .null, .null, .null, .null, .int 0, .int 0])), (q1, .inl (c2, 6, .inl ((fun _ => 0))))] H := hP
  have hD : va_D A [(h, .inr (8, [.int 0, .int 0, .null, .null, .int 0, .null, .null, .null, .null, .null, .int 0, .int 0, .int 0, .int 0, .null, .null, .null, .null, .null, .null, .null, .null, .null, .null, .int 0, .null, .null, .null, .null, .null, .null, .null, .null, .int 0, .int 0])), (q1, .inl (c2, 6, .inl ((fun _ => 0))))] := hD
  have hK : va_K (dC, dI) CL [(c2, .int)] s := hK
  refine W.widen (k := 1) (n := 6) (by decide) (by decide) ?_
  refine va_putF (D := (dC, dI)) (ci := 8) (v := .ref q1) (ty := .array .int) (C := R_M) (T := F_M) (N := 35) hx hb hts u_M t_M t_M_ok n_M hown hK hP hD hS 0 rfl rfl 2 (by decide) (hts _ k_202) (fun _ h9 => h9) rfl hin rfl (by decide +kernel) rfl rfl (Nat.le_of_ble_eq_true rfl) d_M_init_9 (fun H locs hP hD hS => ?_)
  have hP : va_P (dC, dI) CL [(h, .inr (8, [.int 0, .int 0, .ref q1, .null, .int 0, .null, .null, .null, .null, .null, .int 0, .int 0, .int 0, .int 0, .null, .null, .null, .null, .null, .null, .null, .null, .null, .null, .int 0, .null, .null, .null, .null, .null, .null, .null, .null, .int 0, .int 0])), (q1, .inl (c2, 6, .inl ((fun _ => 0))))] H := hP
  have hD : va_D A [(h, .inr (8, [.int 0, .int 0, .ref q1, .null, .int 0, .null, .null, .null, .null, .null, .int 0, .int 0, .int 0, .int 0, .null, .null, .null, .null, .null, .null, .null, .null, .null, .null, .int 0, .null, .null, .null, .null, .null, .null, .null, .null, .int 0, .int 0])), (q1, .inl (c2, 6, .inl ((fun _ => 0))))] := hD
  refine lv_aload_n hx hb d_M_init_12 rfl (lv_at hl 0 rfl) ?_
  refine lv_bipush (v := 24) hx hb d_M_init_13 (by decide) ?_
  refine va_newa (D := (dC, dI)) (atype := .boolean) (ty := .boolean) (N' := 24) (a0 := (24, .inl (fun _ => 0))) hx hb (hts _ k_203) rfl hK hP hD hS hA (fun _ => rfl) (by decide) (by decide) (by decide) (Nat.le_of_ble_eq_true rfl) (Nat.le_of_ble_eq_true rfl) d_M_init_15 (fun q3 c4 H hK hP hD hS => ?_)
  have hP : va_P (dC, dI) CL [(h, .inr (8, [.int 0, .int 0, .ref q1, .null, .int 0, .null, .null, .null, .null, .null, .int 0, .int 0, .int 0, .int 0, .null, .null, .null, .null, .null, .null, .null, .null, .null, .null, .int 0, .null, .null, .null, .null, .null, .null, .null, .null, .int 0, .int 0])), (q1, .inl (c2, 6, .inl ((fun _ => 0)))), (q3, .inl (c4, 24, .inl ((fun _ => 0))))] H := hP
  have hD : va_D A [(h, .inr (8, [.int 0, .int 0, .ref q1, .null, .int 0, .null, .null, .null, .null, .null, .int 0, .int 0, .int 0, .int 0, .null, .null, .null, .null, .null, .null, .null, .null, .null, .null, .int 0, .null, .null, .null, .null, .null, .null, .null, .null, .int 0, .int 0])), (q1, .inl (c2, 6, .inl ((fun _ => 0)))), (q3, .inl (c4, 24, .inl ((fun _ => 0))))] := hD
  have hK : va_K (dC, dI) CL [(c2, .int), (c4, .boolean)] s := hK
  refine W.widen (k := 2) (n := 30) (by decide) (by decide) ?_
  refine va_putF (D := (dC, dI)) (ci := 8) (v := .ref q3) (ty := .array .boolean) (C := R_M) (T := F_M) (N := 35) hx hb hts u_M t_M t_M_ok n_M hown hK hP hD hS 0 rfl rfl 3 (by decide) (hts _ k_204) (fun _ h9 => h9) rfl hin rfl (by decide +kernel) rfl rfl (Nat.le_of_ble_eq_true rfl) d_M_init_17 (fun H locs hP hD hS => ?_)
  have hP : va_P (dC, dI) CL [(h, .inr (8, [.int 0, .int 0, .ref q1, .ref q3, .int 0, .null, .null, .null, .null, .null, .int 0, .int 0, .int 0, .int 0, .null, .null, .null, .null, .null, .null, .null, .null, .null, .null, .int 0, .null, .null, .null, .null, .null, .null, .null, .null, .int 0, .int 0])), (q1, .inl (c2, 6, .inl ((fun _ => 0)))), (q3, .inl (c4, 24, .inl ((fun _ => 0))))] H := hP
  have hD : va_D A [(h, .inr (8, [.int 0, .int 0, .ref q1, .ref q3, .int 0, .null, .null, .null, .null, .null, .int 0, .int 0, .int 0, .int 0, .null, .null, .null, .null, .null, .null, .null, .null, .null, .null, .int 0, .null, .null, .null, .null, .null, .null, .null, .null, .int 0, .int 0])), (q1, .inl (c2, 6, .inl ((fun _ => 0)))), (q3, .inl (c4, 24, .inl ((fun _ => 0))))] := hD
  refine lv_aload_n hx hb d_M_init_20 rfl (lv_at hl 0 rfl) ?_
  refine lv_bipush (v := 10) hx hb d_M_init_21 (by decide) ?_
  refine va_newa (D := (dC, dI)) (atype := .int) (ty := .int) (N' := 10) (a0 := (10, .inl (fun _ => 0))) hx hb (hts _ k_4) rfl hK hP hD hS hA (fun _ => rfl) (by decide) (by decide) (by decide) (Nat.le_of_ble_eq_true rfl) (Nat.le_of_ble_eq_true rfl) d_M_init_23 (fun q5 c6 H hK hP hD hS => ?_)
  have hP : va_P (dC, dI) CL [(h, .inr (8, [.int 0, .int 0, .ref q1, .ref q3, .int 0, .null, .null, .null, .null, .null, .int 0, .int 0, .int 0, .int 0, .null, .null, .null, .null, .null, .null, .null, .null, .null, .null, .int 0, .null, .null, .null, .null, .null, .null, .null, .null, .int 0, .int 0])), (q1, .inl (c2, 6, .inl ((fun _ => 0)))), (q3, .inl (c4, 24, .inl ((fun _ => 0)))), (q5, .inl (c6, 10, .inl ((fun _ => 0))))] H := hP
  have hD : va_D A [(h, .inr (8, [.int 0, .int 0, .ref q1, .ref q3, .int 0, .null, .null, .null, .null, .null, .int 0, .int 0, .int 0, .int 0, .null, .null, .null, .null, .null, .null, .null, .null, .null, .null, .int 0, .null, .null, .null, .null, .null, .null, .null, .null, .int 0, .int 0])), (q1, .inl (c2, 6, .inl ((fun _ => 0)))), (q3, .inl (c4, 24, .inl ((fun _ => 0)))), (q5, .inl (c6, 10, .inl ((fun _ => 0))))] := hD
  have hK : va_K (dC, dI) CL [(c2, .int), (c4, .boolean), (c6, .int)] s := hK
  refine W.widen (k := 3) (n := 40) (by decide) (by decide) ?_
  refine va_putF (D := (dC, dI)) (ci := 8) (v := .ref q5) (ty := .array .int) (C := R_M) (T := F_M) (N := 35) hx hb hts u_M t_M t_M_ok n_M hown hK hP hD hS 0 rfl rfl 5 (by decide) (hts _ k_205) (fun _ h9 => h9) rfl hin rfl (by decide +kernel) rfl rfl (Nat.le_of_ble_eq_true rfl) d_M_init_25 (fun H locs hP hD hS => ?_)
  have hP : va_P (dC, dI) CL [(h, .inr (8, [.int 0, .int 0, .ref q1, .ref q3, .int 0, .ref q5, .null, .null, .null, .null, .int 0, .int 0, .int 0, .int 0, .null, .null, .null, .null, .null, .null, .null, .null, .null, .null, .int 0, .null, .null, .null, .null, .null, .null, .null, .null, .int 0, .int 0])), (q1, .inl (c2, 6, .inl ((fun _ => 0)))), (q3, .inl (c4, 24, .inl ((fun _ => 0)))), (q5, .inl (c6, 10, .inl ((fun _ => 0))))] H := hP
  have hD : va_D A [(h, .inr (8, [.int 0, .int 0, .ref q1, .ref q3, .int 0, .ref q5, .null, .null, .null, .null, .int 0, .int 0, .int 0, .int 0, .null, .null, .null, .null, .null, .null, .null, .null, .null, .null, .int 0, .null, .null, .null, .null, .null, .null, .null, .null, .int 0, .int 0])), (q1, .inl (c2, 6, .inl ((fun _ => 0)))), (q3, .inl (c4, 24, .inl ((fun _ => 0)))), (q5, .inl (c6, 10, .inl ((fun _ => 0))))] := hD
  have hP := hP.sub (ws' := [(h, .inr (8, [.int 0, .int 0, .ref q1, .ref q3, .int 0, .ref q5, .null, .null, .null, .null, .int 0, .int 0, .int 0, .int 0, .null, .null, .null, .null, .null, .null, .null, .null, .null, .null, .int 0, .null, .null, .null, .null, .null, .null, .null, .null, .int 0, .int 0])), (q1, .inl (c2, 6, .inl ((fun _ => 0)))), (q3, .inl (c4, 24, .inl ((fun _ => 0))))]) [0, 1, 2] rfl
  have hD := hD.sub (ws' := [(h, .inr (8, [.int 0, .int 0, .ref q1, .ref q3, .int 0, .ref q5, .null, .null, .null, .null, .int 0, .int 0, .int 0, .int 0, .null, .null, .null, .null, .null, .null, .null, .null, .null, .null, .int 0, .null, .null, .null, .null, .null, .null, .null, .null, .int 0, .int 0])), (q1, .inl (c2, 6, .inl ((fun _ => 0)))), (q3, .inl (c4, 24, .inl ((fun _ => 0))))]) [0, 1, 2] (by decide) rfl
  have hK := hK.sub (tys' := [(c2, .int), (c4, .boolean)]) [0, 1] rfl
  refine lv_aload_n hx hb d_M_init_28 rfl (lv_at hl 0 rfl) ?_
  refine lv_bipush (v := 40) hx hb d_M_init_29 (by decide) ?_
  refine va_newa (D := (dC, dI)) (atype := .int) (ty := .int) (N' := 40) (a0 := (40, .inl (fun _ => 0))) hx hb (hts _ k_4) rfl hK hP hD hS hA (fun _ => rfl) (by decide) (by decide) (by decide) (Nat.le_of_ble_eq_true rfl) (Nat.le_of_ble_eq_true rfl) d_M_init_31 (fun q7 c8 H hK hP hD hS => ?_)
  have hP : va_P (dC, dI) CL [(h, .inr (8, [.int 0, .int 0, .ref q1, .ref q3, .int 0, .ref q5, .null, .null, .null, .null, .int 0, .int 0, .int 0, .int 0, .null, .null, .null, .null, .null, .null, .null, .null, .null, .null, .int 0, .null, .null, .null, .null, .null, .null, .null, .null, .int 0, .int 0])), (q1, .inl (c2, 6, .inl ((fun _ => 0)))), (q3, .inl (c4, 24, .inl ((fun _ => 0)))), (q7, .inl (c8, 40, .inl ((fun _ => 0))))] H := hP
  have hD : va_D A [(h, .inr (8, [.int 0, .int 0, .ref q1, .ref q3, .int 0, .ref q5, .null, .null, .null, .null, .int 0, .int 0, .int 0, .int 0, .null, .null, .null, .null, .null, .null, .null, .null, .null, .null, .int 0, .null, .null, .null, .null, .null, .null, .null, .null, .int 0, .int 0])), (q1, .inl (c2, 6, .inl ((fun _ => 0)))), (q3, .inl (c4, 24, .inl ((fun _ => 0)))), (q7, .inl (c8, 40, .inl ((fun _ => 0))))] := hD
  have hK : va_K (dC, dI) CL [(c2, .int), (c4, .boolean), (c8, .int)] s := hK
  refine W.widen (k := 4) (n := 80) (by decide) (by decide) ?_
  refine va_putF (D := (dC, dI)) (ci := 8) (v := .ref q7) (ty := .array .int) (C := R_M) (T := F_M) (N := 35) hx hb hts u_M t_M t_M_ok n_M hown hK hP hD hS 0 rfl rfl 6 (by decide) (hts _ k_206) (fun _ h9 => h9) rfl hin rfl (by decide +kernel) rfl rfl (Nat.le_of_ble_eq_true rfl) d_M_init_33 (fun H locs hP hD hS => ?_)
  have hP : va_P (dC, dI) CL [(h, .inr (8, [.int 0, .int 0, .ref q1, .ref q3, .int 0, .ref q5, .ref q7, .null, .null, .null, .int 0, .int 0, .int 0, .int 0, .null, .null, .null, .null, .null, .null, .null, .null, .null, .null, .int 0, .null, .null, .null, .null, .null, .null, .null, .null, .int 0, .int 0])), (q1, .inl (c2, 6, .inl ((fun _ => 0)))), (q3, .inl (c4, 24, .inl ((fun _ => 0)))), (q7, .inl (c8, 40, .inl ((fun _ => 0))))] H := hP
  have hD : va_D A [(h, .inr (8, [.int 0, .int 0, .ref q1, .ref q3, .int 0, .ref q5, .ref q7, .null, .null, .null, .int 0, .int 0, .int 0, .int 0, .null, .null, .null, .null, .null, .null, .null, .null, .null, .null, .int 0, .null, .null, .null, .null, .null, .null, .null, .null, .int 0, .int 0])), (q1, .inl (c2, 6, .inl ((fun _ => 0)))), (q3, .inl (c4, 24, .inl ((fun _ => 0)))), (q7, .inl (c8, 40, .inl ((fun _ => 0))))] := hD
  have hP := hP.sub (ws' := [(h, .inr (8, [.int 0, .int 0, .ref q1, .ref q3, .int 0, .ref q5, .ref q7, .null, .null, .null, .int 0, .int 0, .int 0, .int 0, .null, .null, .null, .null, .null, .null, .null, .null, .null, .null, .int 0, .null, .null, .null, .null, .null, .null, .null, .null, .int 0, .int 0])), (q1, .inl (c2, 6, .inl ((fun _ => 0)))), (q3, .inl (c4, 24, .inl ((fun _ => 0))))]) [0, 1, 2] rfl
  have hD := hD.sub (ws' := [(h, .inr (8, [.int 0, .int 0, .ref q1, .ref q3, .int 0, .ref q5, .ref q7, .null, .null, .null, .int 0, .int 0, .int 0, .int 0, .null, .null, .null, .null, .null, .null, .null, .null, .null, .null, .int 0, .null, .null, .null, .null, .null, .null, .null, .null, .int 0, .int 0])), (q1, .inl (c2, 6, .inl ((fun _ => 0)))), (q3, .inl (c4, 24, .inl ((fun _ => 0))))]) [0, 1, 2] (by decide) rfl
  have hK := hK.sub (tys' := [(c2, .int), (c4, .boolean)]) [0, 1] rfl
  refine lv_aload_n hx hb d_M_init_36 rfl (lv_at hl 0 rfl) ?_
  refine lv_sipush (v := 160) hx hb d_M_init_37 (by decide) ?_
  refine va_newa (D := (dC, dI)) (atype := .int) (ty := .int) (N' := 160) (a0 := (160, .inl (fun _ => 0))) hx hb (hts _ k_4) rfl hK hP hD hS hA (fun _ => rfl) (by decide) (by decide) (by decide) (Nat.le_of_ble_eq_true rfl) (Nat.le_of_ble_eq_true rfl) d_M_init_40 (fun q9 c10 H hK hP hD hS => ?_)
  have hP : va_P (dC, dI) CL [(h, .inr (8, [.int 0, .int 0, .ref q1, .ref q3, .int 0, .ref q5, .ref q7, .null, .null, .null, .int 0, .int 0, .int 0, .int 0, .null, .null, .null, .null, .null, .null, .null, .null, .null, .null, .int 0, .null, .null, .null, .null, .null, .null, .null, .null, .int 0, .int 0])), (q1, .inl (c2, 6, .inl ((fun _ => 0)))), (q3, .inl (c4, 24, .inl ((fun _ => 0)))), (q9, .inl (c10, 160, .inl ((fun _ => 0))))] H := hP
  have hD : va_D A [(h, .inr (8, [.int 0, .int 0, .ref q1, .ref q3, .int 0, .ref q5, .ref q7, .null, .null, .null, .int 0, .int 0, .int 0, .int 0, .null, .null, .null, .null, .null, .null, .null, .null, .null, .null, .int 0, .null, .null, .null, .null, .null, .null, .null, .null, .int 0, .int 0])), (q1, .inl (c2, 6, .inl ((fun _ => 0)))), (q3, .inl (c4, 24, .inl ((fun _ => 0)))), (q9, .inl (c10, 160, .inl ((fun _ => 0))))] := hD
  have hK : va_K (dC, dI) CL [(c2, .int), (c4, .boolean), (c10, .int)] s := hK
  refine W.widen (k := 5) (n := 240) (by decide) (by decide) ?_
  refine va_putF (D := (dC, dI)) (ci := 8) (v := .ref q9) (ty := .array .int) (C := R_M) (T := F_M) (N := 35) hx hb hts u_M t_M t_M_ok n_M hown hK hP hD hS 0 rfl rfl 7 (by decide) (hts _ k_207) (fun _ h9 => h9) rfl hin rfl (by decide +kernel) rfl rfl (Nat.le_of_ble_eq_true rfl) d_M_init_42 (fun H locs hP hD hS => ?_)
  have hP : va_P (dC, dI) CL [(h, .inr (8, [.int 0, .int 0, .ref q1, .ref q3, .int 0, .ref q5, .ref q7, .ref q9, .null, .null, .int 0, .int 0, .int 0, .int 0, .null, .null, .null, .null, .null, .null, .null, .null, .null, .null, .int 0, .null, .null, .null, .null, .null, .null, .null, .null, .int 0, .int 0])), (q1, .inl (c2, 6, .inl ((fun _ => 0)))), (q3, .inl (c4, 24, .inl ((fun _ => 0)))), (q9, .inl (c10, 160, .inl ((fun _ => 0))))] H := hP
  have hD : va_D A [(h, .inr (8, [.int 0, .int 0, .ref q1, .ref q3, .int 0, .ref q5, .ref q7, .ref q9, .null, .null, .int 0, .int 0, .int 0, .int 0, .null, .null, .null, .null, .null, .null, .null, .null, .null, .null, .int 0, .null, .null, .null, .null, .null, .null, .null, .null, .int 0, .int 0])), (q1, .inl (c2, 6, .inl ((fun _ => 0)))), (q3, .inl (c4, 24, .inl ((fun _ => 0)))), (q9, .inl (c10, 160, .inl ((fun _ => 0))))] := hD
  refine lv_aload_n hx hb d_M_init_45 rfl (lv_at hl 0 rfl) ?_
  refine lv_sipush (v := 160) hx hb d_M_init_46 (by decide) ?_
  refine va_newa (D := (dC, dI)) (atype := .int) (ty := .int) (N' := 160) (a0 := (160, .inl (fun _ => 0))) hx hb (hts _ k_4) rfl hK hP hD hS hA (fun _ => rfl) (by decide) (by decide) (by decide) (Nat.le_of_ble_eq_true rfl) (Nat.le_of_ble_eq_true rfl) d_M_init_49 (fun q11 c12 H hK hP hD hS => ?_)
  have hP : va_P (dC, dI) CL [(h, .inr (8, [.int 0, .int 0, .ref q1, .ref q3, .int 0, .ref q5, .ref q7, .ref q9, .null, .null, .int 0, .int 0, .int 0, .int 0, .null, .null, .null, .null, .null, .null, .null, .null, .null, .null, .int 0, .null, .null, .null, .null, .null, .null, .null, .null, .int 0, .int 0])), (q1, .inl (c2, 6, .inl ((fun _ => 0)))), (q3, .inl (c4, 24, .inl ((fun _ => 0)))), (q9, .inl (c10, 160, .inl ((fun _ => 0)))), (q11, .inl (c12, 160, .inl ((fun _ => 0))))] H := hP
  have hD : va_D A [(h, .inr (8, [.int 0, .int 0, .ref q1, .ref q3, .int 0, .ref q5, .ref q7, .ref q9, .null, .null, .int 0, .int 0, .int 0, .int 0, .null, .null, .null, .null, .null, .null, .null, .null, .null, .null, .int 0, .null, .null, .null, .null, .null, .null, .null, .null, .int 0, .int 0])), (q1, .inl (c2, 6, .inl ((fun _ => 0)))), (q3, .inl (c4, 24, .inl ((fun _ => 0)))), (q9, .inl (c10, 160, .inl ((fun _ => 0)))), (q11, .inl (c12, 160, .inl ((fun _ => 0))))] := hD
  have hK : va_K (dC, dI) CL [(c2, .int), (c4, .boolean), (c10, .int), (c12, .int)] s := hK
  refine W.widen (k := 6) (n := 400) (by decide) (by decide) ?_
  refine va_putF (D := (dC, dI)) (ci := 8) (v := .ref q11) (ty := .array .int) (C := R_M) (T := F_M) (N := 35) hx hb hts u_M t_M t_M_ok n_M hown hK hP hD hS 0 rfl rfl 8 (by decide) (hts _ k_208) (fun _ h9 => h9) rfl hin rfl (by decide +kernel) rfl rfl (Nat.le_of_ble_eq_true rfl) d_M_init_51 (fun H locs hP hD hS => ?_)
  have hP : va_P (dC, dI) CL [(h, .inr (8, [.int 0, .int 0, .ref q1, .ref q3, .int 0, .ref q5, .ref q7, .ref q9, .ref q11, .null, .int 0, .int 0, .int 0, .int 0, .null, .null, .null, .null, .null, .null, .null, .null, .null, .null, .int 0, .null, .null, .null, .null, .null, .null, .null, .null, .int 0, .int 0])), (q1, .inl (c2, 6, .inl ((fun _ => 0)))), (q3, .inl (c4, 24, .inl ((fun _ => 0)))), (q9, .inl (c10, 160, .inl ((fun _ => 0)))), (q11, .inl (c12, 160, .inl ((fun _ => 0))))] H := hP
  have hD : va_D A [(h, .inr (8, [.int 0, .int 0, .ref q1, .ref q3, .int 0, .ref q5, .ref q7, .ref q9, .ref q11, .null, .int 0, .int 0, .int 0, .int 0, .null, .null, .null, .null, .null, .null, .null, .null, .null, .null, .int 0, .null, .null, .null, .null, .null, .null, .null, .null, .int 0, .int 0])), (q1, .inl (c2, 6, .inl ((fun _ => 0)))), (q3, .inl (c4, 24, .inl ((fun _ => 0)))), (q9, .inl (c10, 160, .inl ((fun _ => 0)))), (q11, .inl (c12, 160, .inl ((fun _ => 0))))] := hD
  have hP := hP.sub (ws' := [(h, .inr (8, [.int 0, .int 0, .ref q1, .ref q3, .int 0, .ref q5, .ref q7, .ref q9, .ref q11, .null, .int 0, .int 0, .int 0, .int 0, .null, .null, .null, .null, .null, .null, .null, .null, .null, .null, .int 0, .null, .null, .null, .null, .null, .null, .null, .null, .int 0, .int 0])), (q1, .inl (c2, 6, .inl ((fun _ => 0)))), (q3, .inl (c4, 24, .inl ((fun _ => 0)))), (q9, .inl (c10, 160, .inl ((fun _ => 0))))]) [0, 1, 2, 3] rfl
  have hD := hD.sub (ws' := [(h, .inr (8, [.int 0, .int 0, .ref q1, .ref q3, .int 0, .ref q5, .ref q7, .ref q9, .ref q11, .null, .int 0, .int 0, .int 0, .int 0, .null, .null, .null, .null, .null, .null, .null, .null, .null, .null, .int 0, .null, .null, .null, .null, .null, .null, .null, .null, .int 0, .int 0])), (q1, .inl (c2, 6, .inl ((fun _ => 0)))), (q3, .inl (c4, 24, .inl ((fun _ => 0)))), (q9, .inl (c10, 160, .inl ((fun _ => 0))))]) [0, 1, 2, 3] (by decide) rfl
  have hK := hK.sub (tys' := [(c2, .int), (c4, .boolean), (c10, .int)]) [0, 1, 2] rfl
  refine lv_aload_n hx hb d_M_init_54 rfl (lv_at hl 0 rfl) ?_
  refine lv_sipush (v := 160) hx hb d_M_init_55 (by decide) ?_
  refine va_newa (D := (dC, dI)) (atype := .int) (ty := .int) (N' := 160) (a0 := (160, .inl (fun _ => 0))) hx hb (hts _ k_4) rfl hK hP hD hS hA (fun _ => rfl) (by decide) (by decide) (by decide) (Nat.le_of_ble_eq_true rfl) (Nat.le_of_ble_eq_true rfl) d_M_init_58 (fun q13 c14 H hK hP hD hS => ?_)
  have hP : va_P (dC, dI) CL [(h, .inr (8, [.int 0, .int 0, .ref q1, .ref q3, .int 0, .ref q5, .ref q7, .ref q9, .ref q11, .null, .int 0, .int 0, .int 0, .int 0, .null, .null, .null, .null, .null, .null, .null, .null, .null, .null, .int 0, .null, .null, .null, .null, .null, .null, .null, .null, .int 0, .int 0])), (q1, .inl (c2, 6, .inl ((fun _ => 0)))), (q3, .inl (c4, 24, .inl ((fun _ => 0)))), (q9, .inl (c10, 160, .inl ((fun _ => 0)))), (q13, .inl (c14, 160, .inl ((fun _ => 0))))] H := hP
  have hD : va_D A [(h, .inr (8, [.int 0, .int 0, .ref q1, .ref q3, .int 0, .ref q5, .ref q7, .ref q9, .ref q11, .null, .int 0, .int 0, .int 0, .int 0, .null, .null, .null, .null, .null, .null, .null, .null, .null, .null, .int 0, .null, .null, .null, .null, .null, .null, .null, .null, .int 0, .int 0])), (q1, .inl (c2, 6, .inl ((fun _ => 0)))), (q3, .inl (c4, 24, .inl ((fun _ => 0)))), (q9, .inl (c10, 160, .inl ((fun _ => 0)))), (q13, .inl (c14, 160, .inl ((fun _ => 0))))] := hD
  have hK : va_K (dC, dI) CL [(c2, .int), (c4, .boolean), (c10, .int), (c14, .int)] s := hK
  refine W.widen (k := 7) (n := 560) (by decide) (by decide) ?_
  refine va_putF (D := (dC, dI)) (ci := 8) (v := .ref q13) (ty := .array .int) (C := R_M) (T := F_M) (N := 35) hx hb hts u_M t_M t_M_ok n_M hown hK hP hD hS 0 rfl rfl 9 (by decide) (hts _ k_209) (fun _ h9 => h9) rfl hin rfl (by decide +kernel) rfl rfl (Nat.le_of_ble_eq_true rfl) d_M_init_60 (fun H locs hP hD hS => ?_)
  have hP : va_P (dC, dI) CL [(h, .inr (8, [.int 0, .int 0, .ref q1, .ref q3, .int 0, .ref q5, .ref q7, .ref q9, .ref q11, .ref q13, .int 0, .int 0, .int 0, .int 0, .null, .null, .null, .null, .null, .null, .null, .null, .null, .null, .int 0, .null, .null, .null, .null, .null, .null, .null, .null, .int 0, .int 0])), (q1, .inl (c2, 6, .inl ((fun _ => 0)))), (q3, .inl (c4, 24, .inl ((fun _ => 0)))), (q9, .inl (c10, 160, .inl ((fun _ => 0)))), (q13, .inl (c14, 160, .inl ((fun _ => 0))))] H := hP
  have hD : va_D A [(h, .inr (8, [.int 0, .int 0, .ref q1, .ref q3, .int 0, .ref q5, .ref q7, .ref q9, .ref q11, .ref q13, .int 0, .int 0, .int 0, .int 0, .null, .null, .null, .null, .null, .null, .null, .null, .null, .null, .int 0, .null, .null, .null, .null, .null, .null, .null, .null, .int 0, .int 0])), (q1, .inl (c2, 6, .inl ((fun _ => 0)))), (q3, .inl (c4, 24, .inl ((fun _ => 0)))), (q9, .inl (c10, 160, .inl ((fun _ => 0)))), (q13, .inl (c14, 160, .inl ((fun _ => 0))))] := hD
  have hP := hP.sub (ws' := [(h, .inr (8, [.int 0, .int 0, .ref q1, .ref q3, .int 0, .ref q5, .ref q7, .ref q9, .ref q11, .ref q13, .int 0, .int 0, .int 0, .int 0, .null, .null, .null, .null, .null, .null, .null, .null, .null, .null, .int 0, .null, .null, .null, .null, .null, .null, .null, .null, .int 0, .int 0])), (q1, .inl (c2, 6, .inl ((fun _ => 0)))), (q3, .inl (c4, 24, .inl ((fun _ => 0)))), (q9, .inl (c10, 160, .inl ((fun _ => 0))))]) [0, 1, 2, 3] rfl
  have hD := hD.sub (ws' := [(h, .inr (8, [.int 0, .int 0, .ref q1, .ref q3, .int 0, .ref q5, .ref q7, .ref q9, .ref q11, .ref q13, .int 0, .int 0, .int 0, .int 0, .null, .null, .null, .null, .null, .null, .null, .null, .null, .null, .int 0, .null, .null, .null, .null, .null, .null, .null, .null, .int 0, .int 0])), (q1, .inl (c2, 6, .inl ((fun _ => 0)))), (q3, .inl (c4, 24, .inl ((fun _ => 0)))), (q9, .inl (c10, 160, .inl ((fun _ => 0))))]) [0, 1, 2, 3] (by decide) rfl
  have hK := hK.sub (tys' := [(c2, .int), (c4, .boolean), (c10, .int)]) [0, 1, 2] rfl
  refine lv_aload_n hx hb d_M_init_63 rfl (lv_at hl 0 rfl) ?_
  refine lv_iconst (v := (-1)) hx hb d_M_init_64 (by decide) ?_
  refine va_put (D := (dC, dI)) (ci := 8) (v := .int (-1)) (ty := .int) (C := R_M) (T := F_M) (N := 35) hx hb hts u_M t_M t_M_ok n_M hown hK hP hD hS 0 rfl rfl 12 (by decide) (hts _ k_210) (fun _ h9 => h9) rfl (by decide +kernel) rfl rfl (Nat.le_of_ble_eq_true rfl) d_M_init_65 (fun H locs hP hD hS => ?_)
  have hP : va_P (dC, dI) CL [(h, .inr (8, [.int 0, .int 0, .ref q1, .ref q3, .int 0, .ref q5, .ref q7, .ref q9, .ref q11, .ref q13, .int 0, .int 0, .int (-1), .int 0, .null, .null, .null, .null, .null, .null, .null, .null, .null, .null, .int 0, .null, .null, .null, .null, .null, .null, .null, .null, .int 0, .int 0])), (q1, .inl (c2, 6, .inl ((fun _ => 0)))), (q3, .inl (c4, 24, .inl ((fun _ => 0)))), (q9, .inl (c10, 160, .inl ((fun _ => 0))))] H := hP
  have hD : va_D A [(h, .inr (8, [.int 0, .int 0, .ref q1, .ref q3, .int 0, .ref q5, .ref q7, .ref q9, .ref q11, .ref q13, .int 0, .int 0, .int (-1), .int 0, .null, .null, .null, .null, .null, .null, .null, .null, .null, .null, .int 0, .null, .null, .null, .null, .null, .null, .null, .null, .int 0, .int 0])), (q1, .inl (c2, 6, .inl ((fun _ => 0)))), (q3, .inl (c4, 24, .inl ((fun _ => 0)))), (q9, .inl (c10, 160, .inl ((fun _ => 0))))] := hD
  refine lv_aload_n hx hb d_M_init_68 rfl (lv_at hl 0 rfl) ?_
  refine lv_iconst (v := (-1)) hx hb d_M_init_69 (by decide) ?_
  refine va_put (D := (dC, dI)) (ci := 8) (v := .int (-1)) (ty := .int) (C := R_M) (T := F_M) (N := 35) hx hb hts u_M t_M t_M_ok n_M hown hK hP hD hS 0 rfl rfl 13 (by decide) (hts _ k_211) (fun _ h9 => h9) rfl (by decide +kernel) rfl rfl (Nat.le_of_ble_eq_true rfl) d_M_init_70 (fun H locs hP hD hS => ?_)
  have hP : va_P (dC, dI) CL [(h, .inr (8, [.int 0, .int 0, .ref q1, .ref q3, .int 0, .ref q5, .ref q7, .ref q9, .ref q11, .ref q13, .int 0, .int 0, .int (-1), .int (-1), .null, .null, .null, .null, .null, .null, .null, .null, .null, .null, .int 0, .null, .null, .null, .null, .null, .null, .null, .null, .int 0, .int 0])), (q1, .inl (c2, 6, .inl ((fun _ => 0)))), (q3, .inl (c4, 24, .inl ((fun _ => 0)))), (q9, .inl (c10, 160, .inl ((fun _ => 0))))] H := hP
  have hD : va_D A [(h, .inr (8, [.int 0, .int 0, .ref q1, .ref q3, .int 0, .ref q5, .ref q7, .ref q9, .ref q11, .ref q13, .int 0, .int 0, .int (-1), .int (-1), .null, .null, .null, .null, .null, .null, .null, .null, .null, .null, .int 0, .null, .null, .null, .null, .null, .null, .null, .null, .int 0, .int 0])), (q1, .inl (c2, 6, .inl ((fun _ => 0)))), (q3, .inl (c4, 24, .inl ((fun _ => 0)))), (q9, .inl (c10, 160, .inl ((fun _ => 0))))] := hD
  refine lv_aload_n hx hb d_M_init_73 rfl (lv_at hl 0 rfl) ?_
  refine lv_sipush (v := 2560) hx hb d_M_init_74 (by decide) ?_
  refine va_newa (D := (dC, dI)) (atype := .boolean) (ty := .boolean) (N' := 2560) (a0 := (2560, .inl (fun _ => 0))) hx hb (hts _ k_203) rfl hK hP hD hS hA (fun _ => rfl) (by decide) (by decide) (by decide) (Nat.le_of_ble_eq_true rfl) (Nat.le_of_ble_eq_true rfl) d_M_init_77 (fun q15 c16 H hK hP hD hS => ?_)
  have hP : va_P (dC, dI) CL [(h, .inr (8, [.int 0, .int 0, .ref q1, .ref q3, .int 0, .ref q5, .ref q7, .ref q9, .ref q11, .ref q13, .int 0, .int 0, .int (-1), .int (-1), .null, .null, .null, .null, .null, .null, .null, .null, .null, .null, .int 0, .null, .null, .null, .null, .null, .null, .null, .null, .int 0, .int 0])), (q1, .inl (c2, 6, .inl ((fun _ => 0)))), (q3, .inl (c4, 24, .inl ((fun _ => 0)))), (q9, .inl (c10, 160, .inl ((fun _ => 0)))), (q15, .inl (c16, 2560, .inl ((fun _ => 0))))] H := hP
  have hD : va_D A [(h, .inr (8, [.int 0, .int 0, .ref q1, .ref q3, .int 0, .ref q5, .ref q7, .ref q9, .ref q11, .ref q13, .int 0, .int 0, .int (-1), .int (-1), .null, .null, .null, .null, .null, .null, .null, .null, .null, .null, .int 0, .null, .null, .null, .null, .null, .null, .null, .null, .int 0, .int 0])), (q1, .inl (c2, 6, .inl ((fun _ => 0)))), (q3, .inl (c4, 24, .inl ((fun _ => 0)))), (q9, .inl (c10, 160, .inl ((fun _ => 0)))), (q15, .inl (c16, 2560, .inl ((fun _ => 0))))] := hD
  have hK : va_K (dC, dI) CL [(c2, .int), (c4, .boolean), (c10, .int), (c16, .boolean)] s := hK
  refine W.widen (k := 8) (n := 3120) (by decide) (by decide) ?_
  refine va_putF (D := (dC, dI)) (ci := 8) (v := .ref q15) (ty := .array .boolean) (C := R_M) (T := F_M) (N := 35) hx hb hts u_M t_M t_M_ok n_M hown hK hP hD hS 0 rfl rfl 14 (by decide) (hts _ k_212) (fun _ h9 => h9) rfl hin rfl (by decide +kernel) rfl rfl (Nat.le_of_ble_eq_true rfl) d_M_init_79 (fun H locs hP hD hS => ?_)
  have hP : va_P (dC, dI) CL [(h, .inr (8, [.int 0, .int 0, .ref q1, .ref q3, .int 0, .ref q5, .ref q7, .ref q9, .ref q11, .ref q13, .int 0, .int 0, .int (-1), .int (-1), .ref q15, .null, .null, .null, .null, .null, .null, .null, .null, .null, .int 0, .null, .null, .null, .null, .null, .null, .null, .null, .int 0, .int 0])), (q1, .inl (c2, 6, .inl ((fun _ => 0)))), (q3, .inl (c4, 24, .inl ((fun _ => 0)))), (q9, .inl (c10, 160, .inl ((fun _ => 0)))), (q15, .inl (c16, 2560, .inl ((fun _ => 0))))] H := hP
  have hD : va_D A [(h, .inr (8, [.int 0, .int 0, .ref q1, .ref q3, .int 0, .ref q5, .ref q7, .ref q9, .ref q11, .ref q13, .int 0, .int 0, .int (-1), .int (-1), .ref q15, .null, .null, .null, .null, .null, .null, .null, .null, .null, .int 0, .null, .null, .null, .null, .null, .null, .null, .null, .int 0, .int 0])), (q1, .inl (c2, 6, .inl ((fun _ => 0)))), (q3, .inl (c4, 24, .inl ((fun _ => 0)))), (q9, .inl (c10, 160, .inl ((fun _ => 0)))), (q15, .inl (c16, 2560, .inl ((fun _ => 0))))] := hD
  have hP := hP.sub (ws' := [(h, .inr (8, [.int 0, .int 0, .ref q1, .ref q3, .int 0, .ref q5, .ref q7, .ref q9, .ref q11, .ref q13, .int 0, .int 0, .int (-1), .int (-1), .ref q15, .null, .null, .null, .null, .null, .null, .null, .null, .null, .int 0, .null, .null, .null, .null, .null, .null, .null, .null, .int 0, .int 0])), (q1, .inl (c2, 6, .inl ((fun _ => 0)))), (q3, .inl (c4, 24, .inl ((fun _ => 0)))), (q9, .inl (c10, 160, .inl ((fun _ => 0))))]) [0, 1, 2, 3] rfl
  have hD := hD.sub (ws' := [(h, .inr (8, [.int 0, .int 0, .ref q1, .ref q3, .int 0, .ref q5, .ref q7, .ref q9, .ref q11, .ref q13, .int 0, .int 0, .int (-1), .int (-1), .ref q15, .null, .null, .null, .null, .null, .null, .null, .null, .null, .int 0, .null, .null, .null, .null, .null, .null, .null, .null, .int 0, .int 0])), (q1, .inl (c2, 6, .inl ((fun _ => 0)))), (q3, .inl (c4, 24, .inl ((fun _ => 0)))), (q9, .inl (c10, 160, .inl ((fun _ => 0))))]) [0, 1, 2, 3] (by decide) rfl
  have hK := hK.sub (tys' := [(c2, .int), (c4, .boolean), (c10, .int)]) [0, 1, 2] rfl
  refine lv_aload_n hx hb d_M_init_82 rfl (lv_at hl 0 rfl) ?_
  refine lv_sipush (v := 2560) hx hb d_M_init_83 (by decide) ?_
  refine va_newa (D := (dC, dI)) (atype := .boolean) (ty := .boolean) (N' := 2560) (a0 := (2560, .inl (fun _ => 0))) hx hb (hts _ k_203) rfl hK hP hD hS hA (fun _ => rfl) (by decide) (by decide) (by decide) (Nat.le_of_ble_eq_true rfl) (Nat.le_of_ble_eq_true rfl) d_M_init_86 (fun q17 c18 H hK hP hD hS => ?_)
  have hP : va_P (dC, dI) CL [(h, .inr (8, [.int 0, .int 0, .ref q1, .ref q3, .int 0, .ref q5, .ref q7, .ref q9, .ref q11, .ref q13, .int 0, .int 0, .int (-1), .int (-1), .ref q15, .null, .null, .null, .null, .null, .null, .null, .null, .null, .int 0, .null, .null, .null, .null, .null, .null, .null, .null, .int 0, .int 0])), (q1, .inl (c2, 6, .inl ((fun _ => 0)))), (q3, .inl (c4, 24, .inl ((fun _ => 0)))), (q9, .inl (c10, 160, .inl ((fun _ => 0)))), (q17, .inl (c18, 2560, .inl ((fun _ => 0))))] H := hP
  have hD : va_D A [(h, .inr (8, [.int 0, .int 0, .ref q1, .ref q3, .int 0, .ref q5, .ref q7, .ref q9, .ref q11, .ref q13, .int 0, .int 0, .int (-1), .int (-1), .ref q15, .null, .null, .null, .null, .null, .null, .null, .null, .null, .int 0, .null, .null, .null, .null, .null, .null, .null, .null, .int 0, .int 0])), (q1, .inl (c2, 6, .inl ((fun _ => 0)))), (q3, .inl (c4, 24, .inl ((fun _ => 0)))), (q9, .inl (c10, 160, .inl ((fun _ => 0)))), (q17, .inl (c18, 2560, .inl ((fun _ => 0))))] := hD
  have hK : va_K (dC, dI) CL [(c2, .int), (c4, .boolean), (c10, .int), (c18, .boolean)] s := hK
  refine W.widen (k := 9) (n := 5680) (by decide) (by decide) ?_
  refine va_putF (D := (dC, dI)) (ci := 8) (v := .ref q17) (ty := .array .boolean) (C := R_M) (T := F_M) (N := 35) hx hb hts u_M t_M t_M_ok n_M hown hK hP hD hS 0 rfl rfl 15 (by decide) (hts _ k_213) (fun _ h9 => h9) rfl hin rfl (by decide +kernel) rfl rfl (Nat.le_of_ble_eq_true rfl) d_M_init_88 (fun H locs hP hD hS => ?_)
  have hP : va_P (dC, dI) CL [(h, .inr (8, [.int 0, .int 0, .ref q1, .ref q3, .int 0, .ref q5, .ref q7, .ref q9, .ref q11, .ref q13, .int 0, .int 0, .int (-1), .int (-1), .ref q15, .ref q17, .null, .null, .null, .null, .null, .null, .null, .null, .int 0, .null, .null, .null, .null, .null, .null, .null, .null, .int 0, .int 0])), (q1, .inl (c2, 6, .inl ((fun _ => 0)))), (q3, .inl (c4, 24, .inl ((fun _ => 0)))), (q9, .inl (c10, 160, .inl ((fun _ => 0)))), (q17, .inl (c18, 2560, .inl ((fun _ => 0))))] H := hP
  have hD : va_D A [(h, .inr (8, [.int 0, .int 0, .ref q1, .ref q3, .int 0, .ref q5, .ref q7, .ref q9, .ref q11, .ref q13, .int 0, .int 0, .int (-1), .int (-1), .ref q15, .ref q17, .null, .null, .null, .null, .null, .null, .null, .null, .int 0, .null, .null, .null, .null, .null, .null, .null, .null, .int 0, .int 0])), (q1, .inl (c2, 6, .inl ((fun _ => 0)))), (q3, .inl (c4, 24, .inl ((fun _ => 0)))), (q9, .inl (c10, 160, .inl ((fun _ => 0)))), (q17, .inl (c18, 2560, .inl ((fun _ => 0))))] := hD
  have hP := hP.sub (ws' := [(h, .inr (8, [.int 0, .int 0, .ref q1, .ref q3, .int 0, .ref q5, .ref q7, .ref q9, .ref q11, .ref q13, .int 0, .int 0, .int (-1), .int (-1), .ref q15, .ref q17, .null, .null, .null, .null, .null, .null, .null, .null, .int 0, .null, .null, .null, .null, .null, .null, .null, .null, .int 0, .int 0])), (q1, .inl (c2, 6, .inl ((fun _ => 0)))), (q3, .inl (c4, 24, .inl ((fun _ => 0)))), (q9, .inl (c10, 160, .inl ((fun _ => 0))))]) [0, 1, 2, 3] rfl
  have hD := hD.sub (ws' := [(h, .inr (8, [.int 0, .int 0, .ref q1, .ref q3, .int 0, .ref q5, .ref q7, .ref q9, .ref q11, .ref q13, .int 0, .int 0, .int (-1), .int (-1), .ref q15, .ref q17, .null, .null, .null, .null, .null, .null, .null, .null, .int 0, .null, .null, .null, .null, .null, .null, .null, .null, .int 0, .int 0])), (q1, .inl (c2, 6, .inl ((fun _ => 0)))), (q3, .inl (c4, 24, .inl ((fun _ => 0)))), (q9, .inl (c10, 160, .inl ((fun _ => 0))))]) [0, 1, 2, 3] (by decide) rfl
  have hK := hK.sub (tys' := [(c2, .int), (c4, .boolean), (c10, .int)]) [0, 1, 2] rfl
  refine lv_aload_n hx hb d_M_init_91 rfl (lv_at hl 0 rfl) ?_
  refine lv_bipush (v := 96) hx hb d_M_init_92 (by decide) ?_
  refine va_newa (D := (dC, dI)) (atype := .boolean) (ty := .boolean) (N' := 96) (a0 := (96, .inl (fun _ => 0))) hx hb (hts _ k_203) rfl hK hP hD hS hA (fun _ => rfl) (by decide) (by decide) (by decide) (Nat.le_of_ble_eq_true rfl) (Nat.le_of_ble_eq_true rfl) d_M_init_94 (fun q19 c20 H hK hP hD hS => ?_)
  have hP : va_P (dC, dI) CL [(h, .inr (8, [.int 0, .int 0, .ref q1, .ref q3, .int 0, .ref q5, .ref q7, .ref q9, .ref q11, .ref q13, .int 0, .int 0, .int (-1), .int (-1), .ref q15, .ref q17, .null, .null, .null, .null, .null, .null, .null, .null, .int 0, .null, .null, .null, .null, .null, .null, .null, .null, .int 0, .int 0])), (q1, .inl (c2, 6, .inl ((fun _ => 0)))), (q3, .inl (c4, 24, .inl ((fun _ => 0)))), (q9, .inl (c10, 160, .inl ((fun _ => 0)))), (q19, .inl (c20, 96, .inl ((fun _ => 0))))] H := hP
  have hD : va_D A [(h, .inr (8, [.int 0, .int 0, .ref q1, .ref q3, .int 0, .ref q5, .ref q7, .ref q9, .ref q11, .ref q13, .int 0, .int 0, .int (-1), .int (-1), .ref q15, .ref q17, .null, .null, .null, .null, .null, .null, .null, .null, .int 0, .null, .null, .null, .null, .null, .null, .null, .null, .int 0, .int 0])), (q1, .inl (c2, 6, .inl ((fun _ => 0)))), (q3, .inl (c4, 24, .inl ((fun _ => 0)))), (q9, .inl (c10, 160, .inl ((fun _ => 0)))), (q19, .inl (c20, 96, .inl ((fun _ => 0))))] := hD
  have hK : va_K (dC, dI) CL [(c2, .int), (c4, .boolean), (c10, .int), (c20, .boolean)] s := hK
  refine W.widen (k := 10) (n := 5776) (by decide) (by decide) ?_
  refine va_putF (D := (dC, dI)) (ci := 8) (v := .ref q19) (ty := .array .boolean) (C := R_M) (T := F_M) (N := 35) hx hb hts u_M t_M t_M_ok n_M hown hK hP hD hS 0 rfl rfl 16 (by decide) (hts _ k_214) (fun _ h9 => h9) rfl hin rfl (by decide +kernel) rfl rfl (Nat.le_of_ble_eq_true rfl) d_M_init_96 (fun H locs hP hD hS => ?_)
  have hP : va_P (dC, dI) CL [(h, .inr (8, [.int 0, .int 0, .ref q1, .ref q3, .int 0, .ref q5, .ref q7, .ref q9, .ref q11, .ref q13, .int 0, .int 0, .int (-1), .int (-1), .ref q15, .ref q17, .ref q19, .null, .null, .null, .null, .null, .null, .null, .int 0, .null, .null, .null, .null, .null, .null, .null, .null, .int 0, .int 0])), (q1, .inl (c2, 6, .inl ((fun _ => 0)))), (q3, .inl (c4, 24, .inl ((fun _ => 0)))), (q9, .inl (c10, 160, .inl ((fun _ => 0)))), (q19, .inl (c20, 96, .inl ((fun _ => 0))))] H := hP
  have hD : va_D A [(h, .inr (8, [.int 0, .int 0, .ref q1, .ref q3, .int 0, .ref q5, .ref q7, .ref q9, .ref q11, .ref q13, .int 0, .int 0, .int (-1), .int (-1), .ref q15, .ref q17, .ref q19, .null, .null, .null, .null, .null, .null, .null, .int 0, .null, .null, .null, .null, .null, .null, .null, .null, .int 0, .int 0])), (q1, .inl (c2, 6, .inl ((fun _ => 0)))), (q3, .inl (c4, 24, .inl ((fun _ => 0)))), (q9, .inl (c10, 160, .inl ((fun _ => 0)))), (q19, .inl (c20, 96, .inl ((fun _ => 0))))] := hD
  have hP := hP.sub (ws' := [(h, .inr (8, [.int 0, .int 0, .ref q1, .ref q3, .int 0, .ref q5, .ref q7, .ref q9, .ref q11, .ref q13, .int 0, .int 0, .int (-1), .int (-1), .ref q15, .ref q17, .ref q19, .null, .null, .null, .null, .null, .null, .null, .int 0, .null, .null, .null, .null, .null, .null, .null, .null, .int 0, .int 0])), (q1, .inl (c2, 6, .inl ((fun _ => 0)))), (q3, .inl (c4, 24, .inl ((fun _ => 0)))), (q9, .inl (c10, 160, .inl ((fun _ => 0))))]) [0, 1, 2, 3] rfl
  have hD := hD.sub (ws' := [(h, .inr (8, [.int 0, .int 0, .ref q1, .ref q3, .int 0, .ref q5, .ref q7, .ref q9, .ref q11, .ref q13, .int 0, .int 0, .int (-1), .int (-1), .ref q15, .ref q17, .ref q19, .null, .null, .null, .null, .null, .null, .null, .int 0, .null, .null, .null, .null, .null, .null, .null, .null, .int 0, .int 0])), (q1, .inl (c2, 6, .inl ((fun _ => 0)))), (q3, .inl (c4, 24, .inl ((fun _ => 0)))), (q9, .inl (c10, 160, .inl ((fun _ => 0))))]) [0, 1, 2, 3] (by decide) rfl
  have hK := hK.sub (tys' := [(c2, .int), (c4, .boolean), (c10, .int)]) [0, 1, 2] rfl
  refine lv_aload_n hx hb d_M_init_99 rfl (lv_at hl 0 rfl) ?_
  refine lv_sipush (v := 256) hx hb d_M_init_100 (by decide) ?_
  refine va_newa (D := (dC, dI)) (atype := .boolean) (ty := .boolean) (N' := 256) (a0 := (256, .inl (fun _ => 0))) hx hb (hts _ k_203) rfl hK hP hD hS hA (fun _ => rfl) (by decide) (by decide) (by decide) (Nat.le_of_ble_eq_true rfl) (Nat.le_of_ble_eq_true rfl) d_M_init_103 (fun q21 c22 H hK hP hD hS => ?_)
  have hP : va_P (dC, dI) CL [(h, .inr (8, [.int 0, .int 0, .ref q1, .ref q3, .int 0, .ref q5, .ref q7, .ref q9, .ref q11, .ref q13, .int 0, .int 0, .int (-1), .int (-1), .ref q15, .ref q17, .ref q19, .null, .null, .null, .null, .null, .null, .null, .int 0, .null, .null, .null, .null, .null, .null, .null, .null, .int 0, .int 0])), (q1, .inl (c2, 6, .inl ((fun _ => 0)))), (q3, .inl (c4, 24, .inl ((fun _ => 0)))), (q9, .inl (c10, 160, .inl ((fun _ => 0)))), (q21, .inl (c22, 256, .inl ((fun _ => 0))))] H := hP
  have hD : va_D A [(h, .inr (8, [.int 0, .int 0, .ref q1, .ref q3, .int 0, .ref q5, .ref q7, .ref q9, .ref q11, .ref q13, .int 0, .int 0, .int (-1), .int (-1), .ref q15, .ref q17, .ref q19, .null, .null, .null, .null, .null, .null, .null, .int 0, .null, .null, .null, .null, .null, .null, .null, .null, .int 0, .int 0])), (q1, .inl (c2, 6, .inl ((fun _ => 0)))), (q3, .inl (c4, 24, .inl ((fun _ => 0)))), (q9, .inl (c10, 160, .inl ((fun _ => 0)))), (q21, .inl (c22, 256, .inl ((fun _ => 0))))] := hD
  have hK : va_K (dC, dI) CL [(c2, .int), (c4, .boolean), (c10, .int), (c22, .boolean)] s := hK
  refine W.widen (k := 11) (n := 6032) (by decide) (by decide) ?_
  refine va_putF (D := (dC, dI)) (ci := 8) (v := .ref q21) (ty := .array .boolean) (C := R_M) (T := F_M) (N := 35) hx hb hts u_M t_M t_M_ok n_M hown hK hP hD hS 0 rfl rfl 17 (by decide) (hts _ k_215) (fun _ h9 => h9) rfl hin rfl (by decide +kernel) rfl rfl (Nat.le_of_ble_eq_true rfl) d_M_init_105 (fun H locs hP hD hS => ?_)
  have hP : va_P (dC, dI) CL [(h, .inr (8, [.int 0, .int 0, .ref q1, .ref q3, .int 0, .ref q5, .ref q7, .ref q9, .ref q11, .ref q13, .int 0, .int 0, .int (-1), .int (-1), .ref q15, .ref q17, .ref q19, .ref q21, .null, .null, .null, .null, .null, .null, .int 0, .null, .null, .null, .null, .null, .null, .null, .null, .int 0, .int 0])), (q1, .inl (c2, 6, .inl ((fun _ => 0)))), (q3, .inl (c4, 24, .inl ((fun _ => 0)))), (q9, .inl (c10, 160, .inl ((fun _ => 0)))), (q21, .inl (c22, 256, .inl ((fun _ => 0))))] H := hP
  have hD : va_D A [(h, .inr (8, [.int 0, .int 0, .ref q1, .ref q3, .int 0, .ref q5, .ref q7, .ref q9, .ref q11, .ref q13, .int 0, .int 0, .int (-1), .int (-1), .ref q15, .ref q17, .ref q19, .ref q21, .null, .null, .null, .null, .null, .null, .int 0, .null, .null, .null, .null, .null, .null, .null, .null, .int 0, .int 0])), (q1, .inl (c2, 6, .inl ((fun _ => 0)))), (q3, .inl (c4, 24, .inl ((fun _ => 0)))), (q9, .inl (c10, 160, .inl ((fun _ => 0)))), (q21, .inl (c22, 256, .inl ((fun _ => 0))))] := hD
  have hP := hP.sub (ws' := [(h, .inr (8, [.int 0, .int 0, .ref q1, .ref q3, .int 0, .ref q5, .ref q7, .ref q9, .ref q11, .ref q13, .int 0, .int 0, .int (-1), .int (-1), .ref q15, .ref q17, .ref q19, .ref q21, .null, .null, .null, .null, .null, .null, .int 0, .null, .null, .null, .null, .null, .null, .null, .null, .int 0, .int 0])), (q1, .inl (c2, 6, .inl ((fun _ => 0)))), (q3, .inl (c4, 24, .inl ((fun _ => 0)))), (q9, .inl (c10, 160, .inl ((fun _ => 0))))]) [0, 1, 2, 3] rfl
  have hD := hD.sub (ws' := [(h, .inr (8, [.int 0, .int 0, .ref q1, .ref q3, .int 0, .ref q5, .ref q7, .ref q9, .ref q11, .ref q13, .int 0, .int 0, .int (-1), .int (-1), .ref q15, .ref q17, .ref q19, .ref q21, .null, .null, .null, .null, .null, .null, .int 0, .null, .null, .null, .null, .null, .null, .null, .null, .int 0, .int 0])), (q1, .inl (c2, 6, .inl ((fun _ => 0)))), (q3, .inl (c4, 24, .inl ((fun _ => 0)))), (q9, .inl (c10, 160, .inl ((fun _ => 0))))]) [0, 1, 2, 3] (by decide) rfl
  have hK := hK.sub (tys' := [(c2, .int), (c4, .boolean), (c10, .int)]) [0, 1, 2] rfl
  refine lv_aload_n hx hb d_M_init_108 rfl (lv_at hl 0 rfl) ?_
  refine lv_bipush (v := 24) hx hb d_M_init_109 (by decide) ?_
  refine va_newa (D := (dC, dI)) (atype := .int) (ty := .int) (N' := 24) (a0 := (24, .inl (fun _ => 0))) hx hb (hts _ k_4) rfl hK hP hD hS hA (fun _ => rfl) (by decide) (by decide) (by decide) (Nat.le_of_ble_eq_true rfl) (Nat.le_of_ble_eq_true rfl) d_M_init_111 (fun q23 c24 H hK hP hD hS => ?_)
  have hP : va_P (dC, dI) CL [(h, .inr (8, [.int 0, .int 0, .ref q1, .ref q3, .int 0, .ref q5, .ref q7, .ref q9, .ref q11, .ref q13, .int 0, .int 0, .int (-1), .int (-1), .ref q15, .ref q17, .ref q19, .ref q21, .null, .null, .null, .null, .null, .null, .int 0, .null, .null, .null, .null, .null, .null, .null, .null, .int 0, .int 0])), (q1, .inl (c2, 6, .inl ((fun _ => 0)))), (q3, .inl (c4, 24, .inl ((fun _ => 0)))), (q9, .inl (c10, 160, .inl ((fun _ => 0)))), (q23, .inl (c24, 24, .inl ((fun _ => 0))))] H := hP
  have hD : va_D A [(h, .inr (8, [.int 0, .int 0, .ref q1, .ref q3, .int 0, .ref q5, .ref q7, .ref q9, .ref q11, .ref q13, .int 0, .int 0, .int (-1), .int (-1), .ref q15, .ref q17, .ref q19, .ref q21, .null, .null, .null, .null, .null, .null, .int 0, .null, .null, .null, .null, .null, .null, .null, .null, .int 0, .int 0])), (q1, .inl (c2, 6, .inl ((fun _ => 0)))), (q3, .inl (c4, 24, .inl ((fun _ => 0)))), (q9, .inl (c10, 160, .inl ((fun _ => 0)))), (q23, .inl (c24, 24, .inl ((fun _ => 0))))] := hD
  have hK : va_K (dC, dI) CL [(c2, .int), (c4, .boolean), (c10, .int), (c24, .int)] s := hK
  refine W.widen (k := 12) (n := 6056) (by decide) (by decide) ?_
  refine va_putF (D := (dC, dI)) (ci := 8) (v := .ref q23) (ty := .array .int) (C := R_M) (T := F_M) (N := 35) hx hb hts u_M t_M t_M_ok n_M hown hK hP hD hS 0 rfl rfl 18 (by decide) (hts _ k_216) (fun _ h9 => h9) rfl hin rfl (by decide +kernel) rfl rfl (Nat.le_of_ble_eq_true rfl) d_M_init_113 (fun H locs hP hD hS => ?_)
  have hP : va_P (dC, dI) CL [(h, .inr (8, [.int 0, .int 0, .ref q1, .ref q3, .int 0, .ref q5, .ref q7, .ref q9, .ref q11, .ref q13, .int 0, .int 0, .int (-1), .int (-1), .ref q15, .ref q17, .ref q19, .ref q21, .ref q23, .null, .null, .null, .null, .null, .int 0, .null, .null, .null, .null, .null, .null, .null, .null, .int 0, .int 0])), (q1, .inl (c2, 6, .inl ((fun _ => 0)))), (q3, .inl (c4, 24, .inl ((fun _ => 0)))), (q9, .inl (c10, 160, .inl ((fun _ => 0)))), (q23, .inl (c24, 24, .inl ((fun _ => 0))))] H := hP
  have hD : va_D A [(h, .inr (8, [.int 0, .int 0, .ref q1, .ref q3, .int 0, .ref q5, .ref q7, .ref q9, .ref q11, .ref q13, .int 0, .int 0, .int (-1), .int (-1), .ref q15, .ref q17, .ref q19, .ref q21, .ref q23, .null, .null, .null, .null, .null, .int 0, .null, .null, .null, .null, .null, .null, .null, .null, .int 0, .int 0])), (q1, .inl (c2, 6, .inl ((fun _ => 0)))), (q3, .inl (c4, 24, .inl ((fun _ => 0)))), (q9, .inl (c10, 160, .inl ((fun _ => 0)))), (q23, .inl (c24, 24, .inl ((fun _ => 0))))] := hD
  have hP := hP.sub (ws' := [(h, .inr (8, [.int 0, .int 0, .ref q1, .ref q3, .int 0, .ref q5, .ref q7, .ref q9, .ref q11, .ref q13, .int 0, .int 0, .int (-1), .int (-1), .ref q15, .ref q17, .ref q19, .ref q21, .ref q23, .null, .null, .null, .null, .null, .int 0, .null, .null, .null, .null, .null, .null, .null, .null, .int 0, .int 0])), (q1, .inl (c2, 6, .inl ((fun _ => 0)))), (q3, .inl (c4, 24, .inl ((fun _ => 0)))), (q9, .inl (c10, 160, .inl ((fun _ => 0))))]) [0, 1, 2, 3] rfl
  have hD := hD.sub (ws' := [(h, .inr (8, [.int 0, .int 0, .ref q1, .ref q3, .int 0, .ref q5, .ref q7, .ref q9, .ref q11, .ref q13, .int 0, .int 0, .int (-1), .int (-1), .ref q15, .ref q17, .ref q19, .ref q21, .ref q23, .null, .null, .null, .null, .null, .int 0, .null, .null, .null, .null, .null, .null, .null, .null, .int 0, .int 0])), (q1, .inl (c2, 6, .inl ((fun _ => 0)))), (q3, .inl (c4, 24, .inl ((fun _ => 0)))), (q9, .inl (c10, 160, .inl ((fun _ => 0))))]) [0, 1, 2, 3] (by decide) rfl
  have hK := hK.sub (tys' := [(c2, .int), (c4, .boolean), (c10, .int)]) [0, 1, 2] rfl
  refine lv_aload_n hx hb d_M_init_116 rfl (lv_at hl 0 rfl) ?_
  refine lv_bipush (v := 6) hx hb d_M_init_117 (by decide) ?_
  refine va_newa (D := (dC, dI)) (atype := .int) (ty := .int) (N' := 6) (a0 := (6, .inl (fun _ => 0))) hx hb (hts _ k_4) rfl hK hP hD hS hA (fun _ => rfl) (by decide) (by decide) (by decide) (Nat.le_of_ble_eq_true rfl) (Nat.le_of_ble_eq_true rfl) d_M_init_119 (fun q25 c26 H hK hP hD hS => ?_)
  have hP : va_P (dC, dI) CL [(h, .inr (8, [.int 0, .int 0, .ref q1, .ref q3, .int 0, .ref q5, .ref q7, .ref q9, .ref q11, .ref q13, .int 0, .int 0, .int (-1), .int (-1), .ref q15, .ref q17, .ref q19, .ref q21, .ref q23, .null, .null, .null, .null, .null, .int 0, .null, .null, .null, .null, .null, .null, .null, .null, .int 0, .int 0])), (q1, .inl (c2, 6, .inl ((fun _ => 0)))), (q3, .inl (c4, 24, .inl ((fun _ => 0)))), (q9, .inl (c10, 160, .inl ((fun _ => 0)))), (q25, .inl (c26, 6, .inl ((fun _ => 0))))] H := hP
  have hD : va_D A [(h, .inr (8, [.int 0, .int 0, .ref q1, .ref q3, .int 0, .ref q5, .ref q7, .ref q9, .ref q11, .ref q13, .int 0, .int 0, .int (-1), .int (-1), .ref q15, .ref q17, .ref q19, .ref q21, .ref q23, .null, .null, .null, .null, .null, .int 0, .null, .null, .null, .null, .null, .null, .null, .null, .int 0, .int 0])), (q1, .inl (c2, 6, .inl ((fun _ => 0)))), (q3, .inl (c4, 24, .inl ((fun _ => 0)))), (q9, .inl (c10, 160, .inl ((fun _ => 0)))), (q25, .inl (c26, 6, .inl ((fun _ => 0))))] := hD
  have hK : va_K (dC, dI) CL [(c2, .int), (c4, .boolean), (c10, .int), (c26, .int)] s := hK
  refine W.widen (k := 13) (n := 6062) (by decide) (by decide) ?_
  refine va_putF (D := (dC, dI)) (ci := 8) (v := .ref q25) (ty := .array .int) (C := R_M) (T := F_M) (N := 35) hx hb hts u_M t_M t_M_ok n_M hown hK hP hD hS 0 rfl rfl 19 (by decide) (hts _ k_217) (fun _ h9 => h9) rfl hin rfl (by decide +kernel) rfl rfl (Nat.le_of_ble_eq_true rfl) d_M_init_121 (fun H locs hP hD hS => ?_)
  have hP : va_P (dC, dI) CL [(h, .inr (8, [.int 0, .int 0, .ref q1, .ref q3, .int 0, .ref q5, .ref q7, .ref q9, .ref q11, .ref q13, .int 0, .int 0, .int (-1), .int (-1), .ref q15, .ref q17, .ref q19, .ref q21, .ref q23, .ref q25, .null, .null, .null, .null, .int 0, .null, .null, .null, .null, .null, .null, .null, .null, .int 0, .int 0])), (q1, .inl (c2, 6, .inl ((fun _ => 0)))), (q3, .inl (c4, 24, .inl ((fun _ => 0)))), (q9, .inl (c10, 160, .inl ((fun _ => 0)))), (q25, .inl (c26, 6, .inl ((fun _ => 0))))] H := hP
  have hD : va_D A [(h, .inr (8, [.int 0, .int 0, .ref q1, .ref q3, .int 0, .ref q5, .ref q7, .ref q9, .ref q11, .ref q13, .int 0, .int 0, .int (-1), .int (-1), .ref q15, .ref q17, .ref q19, .ref q21, .ref q23, .ref q25, .null, .null, .null, .null, .int 0, .null, .null, .null, .null, .null, .null, .null, .null, .int 0, .int 0])), (q1, .inl (c2, 6, .inl ((fun _ => 0)))), (q3, .inl (c4, 24, .inl ((fun _ => 0)))), (q9, .inl (c10, 160, .inl ((fun _ => 0)))), (q25, .inl (c26, 6, .inl ((fun _ => 0))))] := hD
  have hP := hP.sub (ws' := [(h, .inr (8, [.int 0, .int 0, .ref q1, .ref q3, .int 0, .ref q5, .ref q7, .ref q9, .ref q11, .ref q13, .int 0, .int 0, .int (-1), .int (-1), .ref q15, .ref q17, .ref q19, .ref q21, .ref q23, .ref q25, .null, .null, .null, .null, .int 0, .null, .null, .null, .null, .null, .null, .null, .null, .int 0, .int 0])), (q1, .inl (c2, 6, .inl ((fun _ => 0)))), (q3, .inl (c4, 24, .inl ((fun _ => 0)))), (q9, .inl (c10, 160, .inl ((fun _ => 0))))]) [0, 1, 2, 3] rfl
  have hD := hD.sub (ws' := [(h, .inr (8, [.int 0, .int 0, .ref q1, .ref q3, .int 0, .ref q5, .ref q7, .ref q9, .ref q11, .ref q13, .int 0, .int 0, .int (-1), .int (-1), .ref q15, .ref q17, .ref q19, .ref q21, .ref q23, .ref q25, .null, .null, .null, .null, .int 0, .null, .null, .null, .null, .null, .null, .null, .null, .int 0, .int 0])), (q1, .inl (c2, 6, .inl ((fun _ => 0)))), (q3, .inl (c4, 24, .inl ((fun _ => 0)))), (q9, .inl (c10, 160, .inl ((fun _ => 0))))]) [0, 1, 2, 3] (by decide) rfl
  have hK := hK.sub (tys' := [(c2, .int), (c4, .boolean), (c10, .int)]) [0, 1, 2] rfl
  refine lv_aload_n hx hb d_M_init_124 rfl (lv_at hl 0 rfl) ?_
  refine lv_bipush (v := 10) hx hb d_M_init_125 (by decide) ?_
  refine va_newa (D := (dC, dI)) (atype := .int) (ty := .int) (N' := 10) (a0 := (10, .inl (fun _ => 0))) hx hb (hts _ k_4) rfl hK hP hD hS hA (fun _ => rfl) (by decide) (by decide) (by decide) (Nat.le_of_ble_eq_true rfl) (Nat.le_of_ble_eq_true rfl) d_M_init_127 (fun q27 c28 H hK hP hD hS => ?_)
  have hP : va_P (dC, dI) CL [(h, .inr (8, [.int 0, .int 0, .ref q1, .ref q3, .int 0, .ref q5, .ref q7, .ref q9, .ref q11, .ref q13, .int 0, .int 0, .int (-1), .int (-1), .ref q15, .ref q17, .ref q19, .ref q21, .ref q23, .ref q25, .null, .null, .null, .null, .int 0, .null, .null, .null, .null, .null, .null, .null, .null, .int 0, .int 0])), (q1, .inl (c2, 6, .inl ((fun _ => 0)))), (q3, .inl (c4, 24, .inl ((fun _ => 0)))), (q9, .inl (c10, 160, .inl ((fun _ => 0)))), (q27, .inl (c28, 10, .inl ((fun _ => 0))))] H := hP
  have hD : va_D A [(h, .inr (8, [.int 0, .int 0, .ref q1, .ref q3, .int 0, .ref q5, .ref q7, .ref q9, .ref q11, .ref q13, .int 0, .int 0, .int (-1), .int (-1), .ref q15, .ref q17, .ref q19, .ref q21, .ref q23, .ref q25, .null, .null, .null, .null, .int 0, .null, .null, .null, .null, .null, .null, .null, .null, .int 0, .int 0])), (q1, .inl (c2, 6, .inl ((fun _ => 0)))), (q3, .inl (c4, 24, .inl ((fun _ => 0)))), (q9, .inl (c10, 160, .inl ((fun _ => 0)))), (q27, .inl (c28, 10, .inl ((fun _ => 0))))] := hD
  have hK : va_K (dC, dI) CL [(c2, .int), (c4, .boolean), (c10, .int), (c28, .int)] s := hK
  refine W.widen (k := 14) (n := 6072) (by decide) (by decide) ?_
  refine va_putF (D := (dC, dI)) (ci := 8) (v := .ref q27) (ty := .array .int) (C := R_M) (T := F_M) (N := 35) hx hb hts u_M t_M t_M_ok n_M hown hK hP hD hS 0 rfl rfl 20 (by decide) (hts _ k_218) (fun _ h9 => h9) rfl hin rfl (by decide +kernel) rfl rfl (Nat.le_of_ble_eq_true rfl) d_M_init_129 (fun H locs hP hD hS => ?_)
  have hP : va_P (dC, dI) CL [(h, .inr (8, [.int 0, .int 0, .ref q1, .ref q3, .int 0, .ref q5, .ref q7, .ref q9, .ref q11, .ref q13, .int 0, .int 0, .int (-1), .int (-1), .ref q15, .ref q17, .ref q19, .ref q21, .ref q23, .ref q25, .ref q27, .null, .null, .null, .int 0, .null, .null, .null, .null, .null, .null, .null, .null, .int 0, .int 0])), (q1, .inl (c2, 6, .inl ((fun _ => 0)))), (q3, .inl (c4, 24, .inl ((fun _ => 0)))), (q9, .inl (c10, 160, .inl ((fun _ => 0)))), (q27, .inl (c28, 10, .inl ((fun _ => 0))))] H := hP
  have hD : va_D A [(h, .inr (8, [.int 0, .int 0, .ref q1, .ref q3, .int 0, .ref q5, .ref q7, .ref q9, .ref q11, .ref q13, .int 0, .int 0, .int (-1), .int (-1), .ref q15, .ref q17, .ref q19, .ref q21, .ref q23, .ref q25, .ref q27, .null, .null, .null, .int 0, .null, .null, .null, .null, .null, .null, .null, .null, .int 0, .int 0])), (q1, .inl (c2, 6, .inl ((fun _ => 0)))), (q3, .inl (c4, 24, .inl ((fun _ => 0)))), (q9, .inl (c10, 160, .inl ((fun _ => 0)))), (q27, .inl (c28, 10, .inl ((fun _ => 0))))] := hD
  have hP := hP.sub (ws' := [(h, .inr (8, [.int 0, .int 0, .ref q1, .ref q3, .int 0, .ref q5, .ref q7, .ref q9, .ref q11, .ref q13, .int 0, .int 0, .int (-1), .int (-1), .ref q15, .ref q17, .ref q19, .ref q21, .ref q23, .ref q25, .ref q27, .null, .null, .null, .int 0, .null, .null, .null, .null, .null, .null, .null, .null, .int 0, .int 0])), (q1, .inl (c2, 6, .inl ((fun _ => 0)))), (q3, .inl (c4, 24, .inl ((fun _ => 0)))), (q9, .inl (c10, 160, .inl ((fun _ => 0))))]) [0, 1, 2, 3] rfl
  have hD := hD.sub (ws' := [(h, .inr (8, [.int 0, .int 0, .ref q1, .ref q3, .int 0, .ref q5, .ref q7, .ref q9, .ref q11, .ref q13, .int 0, .int 0, .int (-1), .int (-1), .ref q15, .ref q17, .ref q19, .ref q21, .ref q23, .ref q25, .ref q27, .null, .null, .null, .int 0, .null, .null, .null, .null, .null, .null, .null, .null, .int 0, .int 0])), (q1, .inl (c2, 6, .inl ((fun _ => 0)))), (q3, .inl (c4, 24, .inl ((fun _ => 0)))), (q9, .inl (c10, 160, .inl ((fun _ => 0))))]) [0, 1, 2, 3] (by decide) rfl
  have hK := hK.sub (tys' := [(c2, .int), (c4, .boolean), (c10, .int)]) [0, 1, 2] rfl
  refine lv_aload_n hx hb d_M_init_132 rfl (lv_at hl 0 rfl) ?_
  refine lv_sipush (v := 480) hx hb d_M_init_133 (by decide) ?_
  refine va_newa (D := (dC, dI)) (atype := .int) (ty := .int) (N' := 480) (a0 := (480, .inl (fun _ => 0))) hx hb (hts _ k_4) rfl hK hP hD hS hA (fun _ => rfl) (by decide) (by decide) (by decide) (Nat.le_of_ble_eq_true rfl) (Nat.le_of_ble_eq_true rfl) d_M_init_136 (fun q29 c30 H hK hP hD hS => ?_)
  have hP : va_P (dC, dI) CL [(h, .inr (8, [.int 0, .int 0, .ref q1, .ref q3, .int 0, .ref q5, .ref q7, .ref q9, .ref q11, .ref q13, .int 0, .int 0, .int (-1), .int (-1), .ref q15, .ref q17, .ref q19, .ref q21, .ref q23, .ref q25, .ref q27, .null, .null, .null, .int 0, .null, .null, .null, .null, .null, .null, .null, .null, .int 0, .int 0])), (q1, .inl (c2, 6, .inl ((fun _ => 0)))), (q3, .inl (c4, 24, .inl ((fun _ => 0)))), (q9, .inl (c10, 160, .inl ((fun _ => 0)))), (q29, .inl (c30, 480, .inl ((fun _ => 0))))] H := hP
  have hD : va_D A [(h, .inr (8, [.int 0, .int 0, .ref q1, .ref q3, .int 0, .ref q5, .ref q7, .ref q9, .ref q11, .ref q13, .int 0, .int 0, .int (-1), .int (-1), .ref q15, .ref q17, .ref q19, .ref q21, .ref q23, .ref q25, .ref q27, .null, .null, .null, .int 0, .null, .null, .null, .null, .null, .null, .null, .null, .int 0, .int 0])), (q1, .inl (c2, 6, .inl ((fun _ => 0)))), (q3, .inl (c4, 24, .inl ((fun _ => 0)))), (q9, .inl (c10, 160, .inl ((fun _ => 0)))), (q29, .inl (c30, 480, .inl ((fun _ => 0))))] := hD
  have hK : va_K (dC, dI) CL [(c2, .int), (c4, .boolean), (c10, .int), (c30, .int)] s := hK
  refine W.widen (k := 15) (n := 6552) (by decide) (by decide) ?_
  refine va_putF (D := (dC, dI)) (ci := 8) (v := .ref q29) (ty := .array .int) (C := R_M) (T := F_M) (N := 35) hx hb hts u_M t_M t_M_ok n_M hown hK hP hD hS 0 rfl rfl 21 (by decide) (hts _ k_219) (fun _ h9 => h9) rfl hin rfl (by decide +kernel) rfl rfl (Nat.le_of_ble_eq_true rfl) d_M_init_138 (fun H locs hP hD hS => ?_)
  have hP : va_P (dC, dI) CL [(h, .inr (8, [.int 0, .int 0, .ref q1, .ref q3, .int 0, .ref q5, .ref q7, .ref q9, .ref q11, .ref q13, .int 0, .int 0, .int (-1), .int (-1), .ref q15, .ref q17, .ref q19, .ref q21, .ref q23, .ref q25, .ref q27, .ref q29, .null, .null, .int 0, .null, .null, .null, .null, .null, .null, .null, .null, .int 0, .int 0])), (q1, .inl (c2, 6, .inl ((fun _ => 0)))), (q3, .inl (c4, 24, .inl ((fun _ => 0)))), (q9, .inl (c10, 160, .inl ((fun _ => 0)))), (q29, .inl (c30, 480, .inl ((fun _ => 0))))] H := hP
  have hD : va_D A [(h, .inr (8, [.int 0, .int 0, .ref q1, .ref q3, .int 0, .ref q5, .ref q7, .ref q9, .ref q11, .ref q13, .int 0, .int 0, .int (-1), .int (-1), .ref q15, .ref q17, .ref q19, .ref q21, .ref q23, .ref q25, .ref q27, .ref q29, .null, .null, .int 0, .null, .null, .null, .null, .null, .null, .null, .null, .int 0, .int 0])), (q1, .inl (c2, 6, .inl ((fun _ => 0)))), (q3, .inl (c4, 24, .inl ((fun _ => 0)))), (q9, .inl (c10, 160, .inl ((fun _ => 0)))), (q29, .inl (c30, 480, .inl ((fun _ => 0))))] := hD
  have hP := hP.sub (ws' := [(h, .inr (8, [.int 0, .int 0, .ref q1, .ref q3, .int 0, .ref q5, .ref q7, .ref q9, .ref q11, .ref q13, .int 0, .int 0, .int (-1), .int (-1), .ref q15, .ref q17, .ref q19, .ref q21, .ref q23, .ref q25, .ref q27, .ref q29, .null, .null, .int 0, .null, .null, .null, .null, .null, .null, .null, .null, .int 0, .int 0])), (q1, .inl (c2, 6, .inl ((fun _ => 0)))), (q3, .inl (c4, 24, .inl ((fun _ => 0)))), (q9, .inl (c10, 160, .inl ((fun _ => 0))))]) [0, 1, 2, 3] rfl
  have hD := hD.sub (ws' := [(h, .inr (8, [.int 0, .int 0, .ref q1, .ref q3, .int 0, .ref q5, .ref q7, .ref q9, .ref q11, .ref q13, .int 0, .int 0, .int (-1), .int (-1), .ref q15, .ref q17, .ref q19, .ref q21, .ref q23, .ref q25, .ref q27, .ref q29, .null, .null, .int 0, .null, .null, .null, .null, .null, .null, .null, .null, .int 0, .int 0])), (q1, .inl (c2, 6, .inl ((fun _ => 0)))), (q3, .inl (c4, 24, .inl ((fun _ => 0)))), (q9, .inl (c10, 160, .inl ((fun _ => 0))))]) [0, 1, 2, 3] (by decide) rfl
  have hK := hK.sub (tys' := [(c2, .int), (c4, .boolean), (c10, .int)]) [0, 1, 2] rfl
  refine lv_aload_n hx hb d_M_init_141 rfl (lv_at hl 0 rfl) ?_
  refine lv_bipush (v := 16) hx hb d_M_init_142 (by decide) ?_
  refine va_newa (D := (dC, dI)) (atype := .boolean) (ty := .boolean) (N' := 16) (a0 := (16, .inl (fun _ => 0))) hx hb (hts _ k_203) rfl hK hP hD hS hA (fun _ => rfl) (by decide) (by decide) (by decide) (Nat.le_of_ble_eq_true rfl) (Nat.le_of_ble_eq_true rfl) d_M_init_144 (fun q31 c32 H hK hP hD hS => ?_)
  have hP : va_P (dC, dI) CL [(h, .inr (8, [.int 0, .int 0, .ref q1, .ref q3, .int 0, .ref q5, .ref q7, .ref q9, .ref q11, .ref q13, .int 0, .int 0, .int (-1), .int (-1), .ref q15, .ref q17, .ref q19, .ref q21, .ref q23, .ref q25, .ref q27, .ref q29, .null, .null, .int 0, .null, .null, .null, .null, .null, .null, .null, .null, .int 0, .int 0])), (q1, .inl (c2, 6, .inl ((fun _ => 0)))), (q3, .inl (c4, 24, .inl ((fun _ => 0)))), (q9, .inl (c10, 160, .inl ((fun _ => 0)))), (q31, .inl (c32, 16, .inl ((fun _ => 0))))] H := hP
  have hD : va_D A [(h, .inr (8, [.int 0, .int 0, .ref q1, .ref q3, .int 0, .ref q5, .ref q7, .ref q9, .ref q11, .ref q13, .int 0, .int 0, .int (-1), .int (-1), .ref q15, .ref q17, .ref q19, .ref q21, .ref q23, .ref q25, .ref q27, .ref q29, .null, .null, .int 0, .null, .null, .null, .null, .null, .null, .null, .null, .int 0, .int 0])), (q1, .inl (c2, 6, .inl ((fun _ => 0)))), (q3, .inl (c4, 24, .inl ((fun _ => 0)))), (q9, .inl (c10, 160, .inl ((fun _ => 0)))), (q31, .inl (c32, 16, .inl ((fun _ => 0))))] := hD
  have hK : va_K (dC, dI) CL [(c2, .int), (c4, .boolean), (c10, .int), (c32, .boolean)] s := hK
  refine W.widen (k := 16) (n := 6568) (by decide) (by decide) ?_
  refine va_putF (D := (dC, dI)) (ci := 8) (v := .ref q31) (ty := .array .boolean) (C := R_M) (T := F_M) (N := 35) hx hb hts u_M t_M t_M_ok n_M hown hK hP hD hS 0 rfl rfl 22 (by decide) (hts _ k_220) (fun _ h9 => h9) rfl hin rfl (by decide +kernel) rfl rfl (Nat.le_of_ble_eq_true rfl) d_M_init_146 (fun H locs hP hD hS => ?_)
  have hP : va_P (dC, dI) CL [(h, .inr (8, [.int 0, .int 0, .ref q1, .ref q3, .int 0, .ref q5, .ref q7, .ref q9, .ref q11, .ref q13, .int 0, .int 0, .int (-1), .int (-1), .ref q15, .ref q17, .ref q19, .ref q21, .ref q23, .ref q25, .ref q27, .ref q29, .ref q31, .null, .int 0, .null, .null, .null, .null, .null, .null, .null, .null, .int 0, .int 0])), (q1, .inl (c2, 6, .inl ((fun _ => 0)))), (q3, .inl (c4, 24, .inl ((fun _ => 0)))), (q9, .inl (c10, 160, .inl ((fun _ => 0)))), (q31, .inl (c32, 16, .inl ((fun _ => 0))))] H := hP
  have hD : va_D A [(h, .inr (8, [.int 0, .int 0, .ref q1, .ref q3, .int 0, .ref q5, .ref q7, .ref q9, .ref q11, .ref q13, .int 0, .int 0, .int (-1), .int (-1), .ref q15, .ref q17, .ref q19, .ref q21, .ref q23, .ref q25, .ref q27, .ref q29, .ref q31, .null, .int 0, .null, .null, .null, .null, .null, .null, .null, .null, .int 0, .int 0])), (q1, .inl (c2, 6, .inl ((fun _ => 0)))), (q3, .inl (c4, 24, .inl ((fun _ => 0)))), (q9, .inl (c10, 160, .inl ((fun _ => 0)))), (q31, .inl (c32, 16, .inl ((fun _ => 0))))] := hD
  have hP := hP.sub (ws' := [(h, .inr (8, [.int 0, .int 0, .ref q1, .ref q3, .int 0, .ref q5, .ref q7, .ref q9, .ref q11, .ref q13, .int 0, .int 0, .int (-1), .int (-1), .ref q15, .ref q17, .ref q19, .ref q21, .ref q23, .ref q25, .ref q27, .ref q29, .ref q31, .null, .int 0, .null, .null, .null, .null, .null, .null, .null, .null, .int 0, .int 0])), (q1, .inl (c2, 6, .inl ((fun _ => 0)))), (q3, .inl (c4, 24, .inl ((fun _ => 0)))), (q9, .inl (c10, 160, .inl ((fun _ => 0))))]) [0, 1, 2, 3] rfl
  have hD := hD.sub (ws' := [(h, .inr (8, [.int 0, .int 0, .ref q1, .ref q3, .int 0, .ref q5, .ref q7, .ref q9, .ref q11, .ref q13, .int 0, .int 0, .int (-1), .int (-1), .ref q15, .ref q17, .ref q19, .ref q21, .ref q23, .ref q25, .ref q27, .ref q29, .ref q31, .null, .int 0, .null, .null, .null, .null, .null, .null, .null, .null, .int 0, .int 0])), (q1, .inl (c2, 6, .inl ((fun _ => 0)))), (q3, .inl (c4, 24, .inl ((fun _ => 0)))), (q9, .inl (c10, 160, .inl ((fun _ => 0))))]) [0, 1, 2, 3] (by decide) rfl
  have hK := hK.sub (tys' := [(c2, .int), (c4, .boolean), (c10, .int)]) [0, 1, 2] rfl
  refine lv_aload_n hx hb d_M_init_149 rfl (lv_at hl 0 rfl) ?_
  refine lv_iconst (v := 4) hx hb d_M_init_150 (by decide) ?_
  refine va_newa (D := (dC, dI)) (atype := .int) (ty := .int) (N' := 4) (a0 := (4, .inl (fun _ => 0))) hx hb (hts _ k_4) rfl hK hP hD hS hA (fun _ => rfl) (by decide) (by decide) (by decide) (Nat.le_of_ble_eq_true rfl) (Nat.le_of_ble_eq_true rfl) d_M_init_151 (fun q33 c34 H hK hP hD hS => ?_)
  have hP : va_P (dC, dI) CL [(h, .inr (8, [.int 0, .int 0, .ref q1, .ref q3, .int 0, .ref q5, .ref q7, .ref q9, .ref q11, .ref q13, .int 0, .int 0, .int (-1), .int (-1), .ref q15, .ref q17, .ref q19, .ref q21, .ref q23, .ref q25, .ref q27, .ref q29, .ref q31, .null, .int 0, .null, .null, .null, .null, .null, .null, .null, .null, .int 0, .int 0])), (q1, .inl (c2, 6, .inl ((fun _ => 0)))), (q3, .inl (c4, 24, .inl ((fun _ => 0)))), (q9, .inl (c10, 160, .inl ((fun _ => 0)))), (q33, .inl (c34, 4, .inl ((fun _ => 0))))] H := hP
  have hD : va_D A [(h, .inr (8, [.int 0, .int 0, .ref q1, .ref q3, .int 0, .ref q5, .ref q7, .ref q9, .ref q11, .ref q13, .int 0, .int 0, .int (-1), .int (-1), .ref q15, .ref q17, .ref q19, .ref q21, .ref q23, .ref q25, .ref q27, .ref q29, .ref q31, .null, .int 0, .null, .null, .null, .null, .null, .null, .null, .null, .int 0, .int 0])), (q1, .inl (c2, 6, .inl ((fun _ => 0)))), (q3, .inl (c4, 24, .inl ((fun _ => 0)))), (q9, .inl (c10, 160, .inl ((fun _ => 0)))), (q33, .inl (c34, 4, .inl ((fun _ => 0))))] := hD
  have hK : va_K (dC, dI) CL [(c2, .int), (c4, .boolean), (c10, .int), (c34, .int)] s := hK
  refine W.widen (k := 17) (n := 6572) (by decide) (by decide) ?_
  refine va_putF (D := (dC, dI)) (ci := 8) (v := .ref q33) (ty := .array .int) (C := R_M) (T := F_M) (N := 35) hx hb hts u_M t_M t_M_ok n_M hown hK hP hD hS 0 rfl rfl 23 (by decide) (hts _ k_221) (fun _ h9 => h9) rfl hin rfl (by decide +kernel) rfl rfl (Nat.le_of_ble_eq_true rfl) d_M_init_153 (fun H locs hP hD hS => ?_)
  have hP : va_P (dC, dI) CL [(h, .inr (8, [.int 0, .int 0, .ref q1, .ref q3, .int 0, .ref q5, .ref q7, .ref q9, .ref q11, .ref q13, .int 0, .int 0, .int (-1), .int (-1), .ref q15, .ref q17, .ref q19, .ref q21, .ref q23, .ref q25, .ref q27, .ref q29, .ref q31, .ref q33, .int 0, .null, .null, .null, .null, .null, .null, .null, .null, .int 0, .int 0])), (q1, .inl (c2, 6, .inl ((fun _ => 0)))), (q3, .inl (c4, 24, .inl ((fun _ => 0)))), (q9, .inl (c10, 160, .inl ((fun _ => 0)))), (q33, .inl (c34, 4, .inl ((fun _ => 0))))] H := hP
  have hD : va_D A [(h, .inr (8, [.int 0, .int 0, .ref q1, .ref q3, .int 0, .ref q5, .ref q7, .ref q9, .ref q11, .ref q13, .int 0, .int 0, .int (-1), .int (-1), .ref q15, .ref q17, .ref q19, .ref q21, .ref q23, .ref q25, .ref q27, .ref q29, .ref q31, .ref q33, .int 0, .null, .null, .null, .null, .null, .null, .null, .null, .int 0, .int 0])), (q1, .inl (c2, 6, .inl ((fun _ => 0)))), (q3, .inl (c4, 24, .inl ((fun _ => 0)))), (q9, .inl (c10, 160, .inl ((fun _ => 0)))), (q33, .inl (c34, 4, .inl ((fun _ => 0))))] := hD
  have hP := hP.sub (ws' := [(h, .inr (8, [.int 0, .int 0, .ref q1, .ref q3, .int 0, .ref q5, .ref q7, .ref q9, .ref q11, .ref q13, .int 0, .int 0, .int (-1), .int (-1), .ref q15, .ref q17, .ref q19, .ref q21, .ref q23, .ref q25, .ref q27, .ref q29, .ref q31, .ref q33, .int 0, .null, .null, .null, .null, .null, .null, .null, .null, .int 0, .int 0])), (q1, .inl (c2, 6, .inl ((fun _ => 0)))), (q3, .inl (c4, 24, .inl ((fun _ => 0)))), (q9, .inl (c10, 160, .inl ((fun _ => 0))))]) [0, 1, 2, 3] rfl
  have hD := hD.sub (ws' := [(h, .inr (8, [.int 0, .int 0, .ref q1, .ref q3, .int 0, .ref q5, .ref q7, .ref q9, .ref q11, .ref q13, .int 0, .int 0, .int (-1), .int (-1), .ref q15, .ref q17, .ref q19, .ref q21, .ref q23, .ref q25, .ref q27, .ref q29, .ref q31, .ref q33, .int 0, .null, .null, .null, .null, .null, .null, .null, .null, .int 0, .int 0])), (q1, .inl (c2, 6, .inl ((fun _ => 0)))), (q3, .inl (c4, 24, .inl ((fun _ => 0)))), (q9, .inl (c10, 160, .inl ((fun _ => 0))))]) [0, 1, 2, 3] (by decide) rfl
  have hK := hK.sub (tys' := [(c2, .int), (c4, .boolean), (c10, .int)]) [0, 1, 2] rfl
  refine lv_aload_n hx hb d_M_init_156 rfl (lv_at hl 0 rfl) ?_
  refine lv_bipush (v := 40) hx hb d_M_init_157 (by decide) ?_
  refine va_newa (D := (dC, dI)) (atype := .int) (ty := .int) (N' := 40) (a0 := (40, .inl (fun _ => 0))) hx hb (hts _ k_4) rfl hK hP hD hS hA (fun _ => rfl) (by decide) (by decide) (by decide) (Nat.le_of_ble_eq_true rfl) (Nat.le_of_ble_eq_true rfl) d_M_init_159 (fun q35 c36 H hK hP hD hS => ?_)
  have hP : va_P (dC, dI) CL [(h, .inr (8, [.int 0, .int 0, .ref q1, .ref q3, .int 0, .ref q5, .ref q7, .ref q9, .ref q11, .ref q13, .int 0, .int 0, .int (-1), .int (-1), .ref q15, .ref q17, .ref q19, .ref q21, .ref q23, .ref q25, .ref q27, .ref q29, .ref q31, .ref q33, .int 0, .null, .null, .null, .null, .null, .null, .null, .null, .int 0, .int 0])), (q1, .inl (c2, 6, .inl ((fun _ => 0)))), (q3, .inl (c4, 24, .inl ((fun _ => 0)))), (q9, .inl (c10, 160, .inl ((fun _ => 0)))), (q35, .inl (c36, 40, .inl ((fun _ => 0))))] H := hP
  have hD : va_D A [(h, .inr (8, [.int 0, .int 0, .ref q1, .ref q3, .int 0, .ref q5, .ref q7, .ref q9, .ref q11, .ref q13, .int 0, .int 0, .int (-1), .int (-1), .ref q15, .ref q17, .ref q19, .ref q21, .ref q23, .ref q25, .ref q27, .ref q29, .ref q31, .ref q33, .int 0, .null, .null, .null, .null, .null, .null, .null, .null, .int 0, .int 0])), (q1, .inl (c2, 6, .inl ((fun _ => 0)))), (q3, .inl (c4, 24, .inl ((fun _ => 0)))), (q9, .inl (c10, 160, .inl ((fun _ => 0)))), (q35, .inl (c36, 40, .inl ((fun _ => 0))))] := hD
  have hK : va_K (dC, dI) CL [(c2, .int), (c4, .boolean), (c10, .int), (c36, .int)] s := hK
  refine W.widen (k := 18) (n := 6612) (by decide) (by decide) ?_
  refine va_putF (D := (dC, dI)) (ci := 8) (v := .ref q35) (ty := .array .int) (C := R_M) (T := F_M) (N := 35) hx hb hts u_M t_M t_M_ok n_M hown hK hP hD hS 0 rfl rfl 25 (by decide) (hts _ k_222) (fun _ h9 => h9) rfl hin rfl (by decide +kernel) rfl rfl (Nat.le_of_ble_eq_true rfl) d_M_init_161 (fun H locs hP hD hS => ?_)
  have hP : va_P (dC, dI) CL [(h, .inr (8, [.int 0, .int 0, .ref q1, .ref q3, .int 0, .ref q5, .ref q7, .ref q9, .ref q11, .ref q13, .int 0, .int 0, .int (-1), .int (-1), .ref q15, .ref q17, .ref q19, .ref q21, .ref q23, .ref q25, .ref q27, .ref q29, .ref q31, .ref q33, .int 0, .ref q35, .null, .null, .null, .null, .null, .null, .null, .int 0, .int 0])), (q1, .inl (c2, 6, .inl ((fun _ => 0)))), (q3, .inl (c4, 24, .inl ((fun _ => 0)))), (q9, .inl (c10, 160, .inl ((fun _ => 0)))), (q35, .inl (c36, 40, .inl ((fun _ => 0))))] H := hP
  have hD : va_D A [(h, .inr (8, [.int 0, .int 0, .ref q1, .ref q3, .int 0, .ref q5, .ref q7, .ref q9, .ref q11, .ref q13, .int 0, .int 0, .int (-1), .int (-1), .ref q15, .ref q17, .ref q19, .ref q21, .ref q23, .ref q25, .ref q27, .ref q29, .ref q31, .ref q33, .int 0, .ref q35, .null, .null, .null, .null, .null, .null, .null, .int 0, .int 0])), (q1, .inl (c2, 6, .inl ((fun _ => 0)))), (q3, .inl (c4, 24, .inl ((fun _ => 0)))), (q9, .inl (c10, 160, .inl ((fun _ => 0)))), (q35, .inl (c36, 40, .inl ((fun _ => 0))))] := hD
  have hP := hP.sub (ws' := [(h, .inr (8, [.int 0, .int 0, .ref q1, .ref q3, .int 0, .ref q5, .ref q7, .ref q9, .ref q11, .ref q13, .int 0, .int 0, .int (-1), .int (-1), .ref q15, .ref q17, .ref q19, .ref q21, .ref q23, .ref q25, .ref q27, .ref q29, .ref q31, .ref q33, .int 0, .ref q35, .null, .null, .null, .null, .null, .null, .null, .int 0, .int 0])), (q1, .inl (c2, 6, .inl ((fun _ => 0)))), (q3, .inl (c4, 24, .inl ((fun _ => 0)))), (q9, .inl (c10, 160, .inl ((fun _ => 0))))]) [0, 1, 2, 3] rfl
  have hD := hD.sub (ws' := [(h, .inr (8, [.int 0, .int 0, .ref q1, .ref q3, .int 0, .ref q5, .ref q7, .ref q9, .ref q11, .ref q13, .int 0, .int 0, .int (-1), .int (-1), .ref q15, .ref q17, .ref q19, .ref q21, .ref q23, .ref q25, .ref q27, .ref q29, .ref q31, .ref q33, .int 0, .ref q35, .null, .null, .null, .null, .null, .null, .null, .int 0, .int 0])), (q1, .inl (c2, 6, .inl ((fun _ => 0)))), (q3, .inl (c4, 24, .inl ((fun _ => 0)))), (q9, .inl (c10, 160, .inl ((fun _ => 0))))]) [0, 1, 2, 3] (by decide) rfl
  have hK := hK.sub (tys' := [(c2, .int), (c4, .boolean), (c10, .int)]) [0, 1, 2] rfl
  refine lv_aload_n hx hb d_M_init_164 rfl (lv_at hl 0 rfl) ?_
  refine lv_bipush (v := 40) hx hb d_M_init_165 (by decide) ?_
  refine va_newa (D := (dC, dI)) (atype := .int) (ty := .int) (N' := 40) (a0 := (40, .inl (fun _ => 0))) hx hb (hts _ k_4) rfl hK hP hD hS hA (fun _ => rfl) (by decide) (by decide) (by decide) (Nat.le_of_ble_eq_true rfl) (Nat.le_of_ble_eq_true rfl) d_M_init_167 (fun q37 c38 H hK hP hD hS => ?_)
  have hP : va_P (dC, dI) CL [(h, .inr (8, [.int 0, .int 0, .ref q1, .ref q3, .int 0, .ref q5, .ref q7, .ref q9, .ref q11, .ref q13, .int 0, .int 0, .int (-1), .int (-1), .ref q15, .ref q17, .ref q19, .ref q21, .ref q23, .ref q25, .ref q27, .ref q29, .ref q31, .ref q33, .int 0, .ref q35, .null, .null, .null, .null, .null, .null, .null, .int 0, .int 0])), (q1, .inl (c2, 6, .inl ((fun _ => 0)))), (q3, .inl (c4, 24, .inl ((fun _ => 0)))), (q9, .inl (c10, 160, .inl ((fun _ => 0)))), (q37, .inl (c38, 40, .inl ((fun _ => 0))))] H := hP
  have hD : va_D A [(h, .inr (8, [.int 0, .int 0, .ref q1, .ref q3, .int 0, .ref q5, .ref q7, .ref q9, .ref q11, .ref q13, .int 0, .int 0, .int (-1), .int (-1), .ref q15, .ref q17, .ref q19, .ref q21, .ref q23, .ref q25, .ref q27, .ref q29, .ref q31, .ref q33, .int 0, .ref q35, .null, .null, .null, .null, .null, .null, .null, .int 0, .int 0])), (q1, .inl (c2, 6, .inl ((fun _ => 0)))), (q3, .inl (c4, 24, .inl ((fun _ => 0)))), (q9, .inl (c10, 160, .inl ((fun _ => 0)))), (q37, .inl (c38, 40, .inl ((fun _ => 0))))] := hD
  have hK : va_K (dC, dI) CL [(c2, .int), (c4, .boolean), (c10, .int), (c38, .int)] s := hK
  refine W.widen (k := 19) (n := 6652) (by decide) (by decide) ?_
  refine va_putF (D := (dC, dI)) (ci := 8) (v := .ref q37) (ty := .array .int) (C := R_M) (T := F_M) (N := 35) hx hb hts u_M t_M t_M_ok n_M hown hK hP hD hS 0 rfl rfl 26 (by decide) (hts _ k_223) (fun _ h9 => h9) rfl hin rfl (by decide +kernel) rfl rfl (Nat.le_of_ble_eq_true rfl) d_M_init_169 (fun H locs hP hD hS => ?_)
  have hP : va_P (dC, dI) CL [(h, .inr (8, [.int 0, .int 0, .ref q1, .ref q3, .int 0, .ref q5, .ref q7, .ref q9, .ref q11, .ref q13, .int 0, .int 0, .int (-1), .int (-1), .ref q15, .ref q17, .ref q19, .ref q21, .ref q23, .ref q25, .ref q27, .ref q29, .ref q31, .ref q33, .int 0, .ref q35, .ref q37, .null, .null, .null, .null, .null, .null, .int 0, .int 0])), (q1, .inl (c2, 6, .inl ((fun _ => 0)))), (q3, .inl (c4, 24, .inl ((fun _ => 0)))), (q9, .inl (c10, 160, .inl ((fun _ => 0)))), (q37, .inl (c38, 40, .inl ((fun _ => 0))))] H := hP
  have hD : va_D A [(h, .inr (8, [.int 0, .int 0, .ref q1, .ref q3, .int 0, .ref q5, .ref q7, .ref q9, .ref q11, .ref q13, .int 0, .int 0, .int (-1), .int (-1), .ref q15, .ref q17, .ref q19, .ref q21, .ref q23, .ref q25, .ref q27, .ref q29, .ref q31, .ref q33, .int 0, .ref q35, .ref q37, .null, .null, .null, .null, .null, .null, .int 0, .int 0])), (q1, .inl (c2, 6, .inl ((fun _ => 0)))), (q3, .inl (c4, 24, .inl ((fun _ => 0)))), (q9, .inl (c10, 160, .inl ((fun _ => 0)))), (q37, .inl (c38, 40, .inl ((fun _ => 0))))] := hD
  have hP := hP.sub (ws' := [(h, .inr (8, [.int 0, .int 0, .ref q1, .ref q3, .int 0, .ref q5, .ref q7, .ref q9, .ref q11, .ref q13, .int 0, .int 0, .int (-1), .int (-1), .ref q15, .ref q17, .ref q19, .ref q21, .ref q23, .ref q25, .ref q27, .ref q29, .ref q31, .ref q33, .int 0, .ref q35, .ref q37, .null, .null, .null, .null, .null, .null, .int 0, .int 0])), (q1, .inl (c2, 6, .inl ((fun _ => 0)))), (q3, .inl (c4, 24, .inl ((fun _ => 0)))), (q9, .inl (c10, 160, .inl ((fun _ => 0))))]) [0, 1, 2, 3] rfl
  have hD := hD.sub (ws' := [(h, .inr (8, [.int 0, .int 0, .ref q1, .ref q3, .int 0, .ref q5, .ref q7, .ref q9, .ref q11, .ref q13, .int 0, .int 0, .int (-1), .int (-1), .ref q15, .ref q17, .ref q19, .ref q21, .ref q23, .ref q25, .ref q27, .ref q29, .ref q31, .ref q33, .int 0, .ref q35, .ref q37, .null, .null, .null, .null, .null, .null, .int 0, .int 0])), (q1, .inl (c2, 6, .inl ((fun _ => 0)))), (q3, .inl (c4, 24, .inl ((fun _ => 0)))), (q9, .inl (c10, 160, .inl ((fun _ => 0))))]) [0, 1, 2, 3] (by decide) rfl
  have hK := hK.sub (tys' := [(c2, .int), (c4, .boolean), (c10, .int)]) [0, 1, 2] rfl
  refine lv_aload_n hx hb d_M_init_172 rfl (lv_at hl 0 rfl) ?_
  refine lv_bipush (v := 120) hx hb d_M_init_173 (by decide) ?_
  refine va_newa (D := (dC, dI)) (atype := .int) (ty := .int) (N' := 120) (a0 := (120, .inl (fun _ => 0))) hx hb (hts _ k_4) rfl hK hP hD hS hA (fun _ => rfl) (by decide) (by decide) (by decide) (Nat.le_of_ble_eq_true rfl) (Nat.le_of_ble_eq_true rfl) d_M_init_175 (fun q39 c40 H hK hP hD hS => ?_)
  have hP : va_P (dC, dI) CL [(h, .inr (8, [.int 0, .int 0, .ref q1, .ref q3, .int 0, .ref q5, .ref q7, .ref q9, .ref q11, .ref q13, .int 0, .int 0, .int (-1), .int (-1), .ref q15, .ref q17, .ref q19, .ref q21, .ref q23, .ref q25, .ref q27, .ref q29, .ref q31, .ref q33, .int 0, .ref q35, .ref q37, .null, .null, .null, .null, .null, .null, .int 0, .int 0])), (q1, .inl (c2, 6, .inl ((fun _ => 0)))), (q3, .inl (c4, 24, .inl ((fun _ => 0)))), (q9, .inl (c10, 160, .inl ((fun _ => 0)))), (q39, .inl (c40, 120, .inl ((fun _ => 0))))] H := hP
  have hD : va_D A [(h, .inr (8, [.int 0, .int 0, .ref q1, .ref q3, .int 0, .ref q5, .ref q7, .ref q9, .ref q11, .ref q13, .int 0, .int 0, .int (-1), .int (-1), .ref q15, .ref q17, .ref q19, .ref q21, .ref q23, .ref q25, .ref q27, .ref q29, .ref q31, .ref q33, .int 0, .ref q35, .ref q37, .null, .null, .null, .null, .null, .null, .int 0, .int 0])), (q1, .inl (c2, 6, .inl ((fun _ => 0)))), (q3, .inl (c4, 24, .inl ((fun _ => 0)))), (q9, .inl (c10, 160, .inl ((fun _ => 0)))), (q39, .inl (c40, 120, .inl ((fun _ => 0))))] := hD
  have hK : va_K (dC, dI) CL [(c2, .int), (c4, .boolean), (c10, .int), (c40, .int)] s := hK
  refine W.widen (k := 20) (n := 6772) (by decide) (by decide) ?_
  refine va_putF (D := (dC, dI)) (ci := 8) (v := .ref q39) (ty := .array .int) (C := R_M) (T := F_M) (N := 35) hx hb hts u_M t_M t_M_ok n_M hown hK hP hD hS 0 rfl rfl 27 (by decide) (hts _ k_224) (fun _ h9 => h9) rfl hin rfl (by decide +kernel) rfl rfl (Nat.le_of_ble_eq_true rfl) d_M_init_177 (fun H locs hP hD hS => ?_)
  have hP : va_P (dC, dI) CL [(h, .inr (8, [.int 0, .int 0, .ref q1, .ref q3, .int 0, .ref q5, .ref q7, .ref q9, .ref q11, .ref q13, .int 0, .int 0, .int (-1), .int (-1), .ref q15, .ref q17, .ref q19, .ref q21, .ref q23, .ref q25, .ref q27, .ref q29, .ref q31, .ref q33, .int 0, .ref q35, .ref q37, .ref q39, .null, .null, .null, .null, .null, .int 0, .int 0])), (q1, .inl (c2, 6, .inl ((fun _ => 0)))), (q3, .inl (c4, 24, .inl ((fun _ => 0)))), (q9, .inl (c10, 160, .inl ((fun _ => 0)))), (q39, .inl (c40, 120, .inl ((fun _ => 0))))] H := hP
  have hD : va_D A [(h, .inr (8, [.int 0, .int 0, .ref q1, .ref q3, .int 0, .ref q5, .ref q7, .ref q9, .ref q11, .ref q13, .int 0, .int 0, .int (-1), .int (-1), .ref q15, .ref q17, .ref q19, .ref q21, .ref q23, .ref q25, .ref q27, .ref q29, .ref q31, .ref q33, .int 0, .ref q35, .ref q37, .ref q39, .null, .null, .null, .null, .null, .int 0, .int 0])), (q1, .inl (c2, 6, .inl ((fun _ => 0)))), (q3, .inl (c4, 24, .inl ((fun _ => 0)))), (q9, .inl (c10, 160, .inl ((fun _ => 0)))), (q39, .inl (c40, 120, .inl ((fun _ => 0))))] := hD
  have hP := hP.sub (ws' := [(h, .inr (8, [.int 0, .int 0, .ref q1, .ref q3, .int 0, .ref q5, .ref q7, .ref q9, .ref q11, .ref q13, .int 0, .int 0, .int (-1), .int (-1), .ref q15, .ref q17, .ref q19, .ref q21, .ref q23, .ref q25, .ref q27, .ref q29, .ref q31, .ref q33, .int 0, .ref q35, .ref q37, .ref q39, .null, .null, .null, .null, .null, .int 0, .int 0])), (q1, .inl (c2, 6, .inl ((fun _ => 0)))), (q3, .inl (c4, 24, .inl ((fun _ => 0)))), (q9, .inl (c10, 160, .inl ((fun _ => 0))))]) [0, 1, 2, 3] rfl
  have hD := hD.sub (ws' := [(h, .inr (8, [.int 0, .int 0, .ref q1, .ref q3, .int 0, .ref q5, .ref q7, .ref q9, .ref q11, .ref q13, .int 0, .int 0, .int (-1), .int (-1), .ref q15, .ref q17, .ref q19, .ref q21, .ref q23, .ref q25, .ref q27, .ref q29, .ref q31, .ref q33, .int 0, .ref q35, .ref q37, .ref q39, .null, .null, .null, .null, .null, .int 0, .int 0])), (q1, .inl (c2, 6, .inl ((fun _ => 0)))), (q3, .inl (c4, 24, .inl ((fun _ => 0)))), (q9, .inl (c10, 160, .inl ((fun _ => 0))))]) [0, 1, 2, 3] (by decide) rfl
  have hK := hK.sub (tys' := [(c2, .int), (c4, .boolean), (c10, .int)]) [0, 1, 2] rfl
  refine lv_aload_n hx hb d_M_init_180 rfl (lv_at hl 0 rfl) ?_
  refine lv_bipush (v := 40) hx hb d_M_init_181 (by decide) ?_
  refine va_newa (D := (dC, dI)) (atype := .int) (ty := .int) (N' := 40) (a0 := (40, .inl (fun _ => 0))) hx hb (hts _ k_4) rfl hK hP hD hS hA (fun _ => rfl) (by decide) (by decide) (by decide) (Nat.le_of_ble_eq_true rfl) (Nat.le_of_ble_eq_true rfl) d_M_init_183 (fun q41 c42 H hK hP hD hS => ?_)
  have hP : va_P (dC, dI) CL [(h, .inr (8, [.int 0, .int 0, .ref q1, .ref q3, .int 0, .ref q5, .ref q7, .ref q9, .ref q11, .ref q13, .int 0, .int 0, .int (-1), .int (-1), .ref q15, .ref q17, .ref q19, .ref q21, .ref q23, .ref q25, .ref q27, .ref q29, .ref q31, .ref q33, .int 0, .ref q35, .ref q37, .ref q39, .null, .null, .null, .null, .null, .int 0, .int 0])), (q1, .inl (c2, 6, .inl ((fun _ => 0)))), (q3, .inl (c4, 24, .inl ((fun _ => 0)))), (q9, .inl (c10, 160, .inl ((fun _ => 0)))), (q41, .inl (c42, 40, .inl ((fun _ => 0))))] H := hP
  have hD : va_D A [(h, .inr (8, [.int 0, .int 0, .ref q1, .ref q3, .int 0, .ref q5, .ref q7, .ref q9, .ref q11, .ref q13, .int 0, .int 0, .int (-1), .int (-1), .ref q15, .ref q17, .ref q19, .ref q21, .ref q23, .ref q25, .ref q27, .ref q29, .ref q31, .ref q33, .int 0, .ref q35, .ref q37, .ref q39, .null, .null, .null, .null, .null, .int 0, .int 0])), (q1, .inl (c2, 6, .inl ((fun _ => 0)))), (q3, .inl (c4, 24, .inl ((fun _ => 0)))), (q9, .inl (c10, 160, .inl ((fun _ => 0)))), (q41, .inl (c42, 40, .inl ((fun _ => 0))))] := hD
  have hK : va_K (dC, dI) CL [(c2, .int), (c4, .boolean), (c10, .int), (c42, .int)] s := hK
  refine W.widen (k := 21) (n := 6812) (by decide) (by decide) ?_
  refine va_putF (D := (dC, dI)) (ci := 8) (v := .ref q41) (ty := .array .int) (C := R_M) (T := F_M) (N := 35) hx hb hts u_M t_M t_M_ok n_M hown hK hP hD hS 0 rfl rfl 28 (by decide) (hts _ k_225) (fun _ h9 => h9) rfl hin rfl (by decide +kernel) rfl rfl (Nat.le_of_ble_eq_true rfl) d_M_init_185 (fun H locs hP hD hS => ?_)
  have hP : va_P (dC, dI) CL [(h, .inr (8, [.int 0, .int 0, .ref q1, .ref q3, .int 0, .ref q5, .ref q7, .ref q9, .ref q11, .ref q13, .int 0, .int 0, .int (-1), .int (-1), .ref q15, .ref q17, .ref q19, .ref q21, .ref q23, .ref q25, .ref q27, .ref q29, .ref q31, .ref q33, .int 0, .ref q35, .ref q37, .ref q39, .ref q41, .null, .null, .null, .null, .int 0, .int 0])), (q1, .inl (c2, 6, .inl ((fun _ => 0)))), (q3, .inl (c4, 24, .inl ((fun _ => 0)))), (q9, .inl (c10, 160, .inl ((fun _ => 0)))), (q41, .inl (c42, 40, .inl ((fun _ => 0))))] H := hP
  have hD : va_D A [(h, .inr (8, [.int 0, .int 0, .ref q1, .ref q3, .int 0, .ref q5, .ref q7, .ref q9, .ref q11, .ref q13, .int 0, .int 0, .int (-1), .int (-1), .ref q15, .ref q17, .ref q19, .ref q21, .ref q23, .ref q25, .ref q27, .ref q29, .ref q31, .ref q33, .int 0, .ref q35, .ref q37, .ref q39, .ref q41, .null, .null, .null, .null, .int 0, .int 0])), (q1, .inl (c2, 6, .inl ((fun _ => 0)))), (q3, .inl (c4, 24, .inl ((fun _ => 0)))), (q9, .inl (c10, 160, .inl ((fun _ => 0)))), (q41, .inl (c42, 40, .inl ((fun _ => 0))))] := hD
  have hP := hP.sub (ws' := [(h, .inr (8, [.int 0, .int 0, .ref q1, .ref q3, .int 0, .ref q5, .ref q7, .ref q9, .ref q11, .ref q13, .int 0, .int 0, .int (-1), .int (-1), .ref q15, .ref q17, .ref q19, .ref q21, .ref q23, .ref q25, .ref q27, .ref q29, .ref q31, .ref q33, .int 0, .ref q35, .ref q37, .ref q39, .ref q41, .null, .null, .null, .null, .int 0, .int 0])), (q1, .inl (c2, 6, .inl ((fun _ => 0)))), (q3, .inl (c4, 24, .inl ((fun _ => 0)))), (q9, .inl (c10, 160, .inl ((fun _ => 0))))]) [0, 1, 2, 3] rfl
  have hD := hD.sub (ws' := [(h, .inr (8, [.int 0, .int 0, .ref q1, .ref q3, .int 0, .ref q5, .ref q7, .ref q9, .ref q11, .ref q13, .int 0, .int 0, .int (-1), .int (-1), .ref q15, .ref q17, .ref q19, .ref q21, .ref q23, .ref q25, .ref q27, .ref q29, .ref q31, .ref q33, .int 0, .ref q35, .ref q37, .ref q39, .ref q41, .null, .null, .null, .null, .int 0, .int 0])), (q1, .inl (c2, 6, .inl ((fun _ => 0)))), (q3, .inl (c4, 24, .inl ((fun _ => 0)))), (q9, .inl (c10, 160, .inl ((fun _ => 0))))]) [0, 1, 2, 3] (by decide) rfl
  have hK := hK.sub (tys' := [(c2, .int), (c4, .boolean), (c10, .int)]) [0, 1, 2] rfl
  refine lv_aload_n hx hb d_M_init_188 rfl (lv_at hl 0 rfl) ?_
  refine lv_bipush (v := 40) hx hb d_M_init_189 (by decide) ?_
  refine va_newa (D := (dC, dI)) (atype := .int) (ty := .int) (N' := 40) (a0 := (40, .inl (fun _ => 0))) hx hb (hts _ k_4) rfl hK hP hD hS hA (fun _ => rfl) (by decide) (by decide) (by decide) (Nat.le_of_ble_eq_true rfl) (Nat.le_of_ble_eq_true rfl) d_M_init_191 (fun q43 c44 H hK hP hD hS => ?_)
  have hP : va_P (dC, dI) CL [(h, .inr (8, [.int 0, .int 0, .ref q1, .ref q3, .int 0, .ref q5, .ref q7, .ref q9, .ref q11, .ref q13, .int 0, .int 0, .int (-1), .int (-1), .ref q15, .ref q17, .ref q19, .ref q21, .ref q23, .ref q25, .ref q27, .ref q29, .ref q31, .ref q33, .int 0, .ref q35, .ref q37, .ref q39, .ref q41, .null, .null, .null, .null, .int 0, .int 0])), (q1, .inl (c2, 6, .inl ((fun _ => 0)))), (q3, .inl (c4, 24, .inl ((fun _ => 0)))), (q9, .inl (c10, 160, .inl ((fun _ => 0)))), (q43, .inl (c44, 40, .inl ((fun _ => 0))))] H := hP
  have hD : va_D A [(h, .inr (8, [.int 0, .int 0, .ref q1, .ref q3, .int 0, .ref q5, .ref q7, .ref q9, .ref q11, .ref q13, .int 0, .int 0, .int (-1), .int (-1), .ref q15, .ref q17, .ref q19, .ref q21, .ref q23, .ref q25, .ref q27, .ref q29, .ref q31, .ref q33, .int 0, .ref q35, .ref q37, .ref q39, .ref q41, .null, .null, .null, .null, .int 0, .int 0])), (q1, .inl (c2, 6, .inl ((fun _ => 0)))), (q3, .inl (c4, 24, .inl ((fun _ => 0)))), (q9, .inl (c10, 160, .inl ((fun _ => 0)))), (q43, .inl (c44, 40, .inl ((fun _ => 0))))] := hD
  have hK : va_K (dC, dI) CL [(c2, .int), (c4, .boolean), (c10, .int), (c44, .int)] s := hK
  refine W.widen (k := 22) (n := 6852) (by decide) (by decide) ?_
  refine va_putF (D := (dC, dI)) (ci := 8) (v := .ref q43) (ty := .array .int) (C := R_M) (T := F_M) (N := 35) hx hb hts u_M t_M t_M_ok n_M hown hK hP hD hS 0 rfl rfl 29 (by decide) (hts _ k_226) (fun _ h9 => h9) rfl hin rfl (by decide +kernel) rfl rfl (Nat.le_of_ble_eq_true rfl) d_M_init_193 (fun H locs hP hD hS => ?_)
  have hP : va_P (dC, dI) CL [(h, .inr (8, [.int 0, .int 0, .ref q1, .ref q3, .int 0, .ref q5, .ref q7, .ref q9, .ref q11, .ref q13, .int 0, .int 0, .int (-1), .int (-1), .ref q15, .ref q17, .ref q19, .ref q21, .ref q23, .ref q25, .ref q27, .ref q29, .ref q31, .ref q33, .int 0, .ref q35, .ref q37, .ref q39, .ref q41, .ref q43, .null, .null, .null, .int 0, .int 0])), (q1, .inl (c2, 6, .inl ((fun _ => 0)))), (q3, .inl (c4, 24, .inl ((fun _ => 0)))), (q9, .inl (c10, 160, .inl ((fun _ => 0)))), (q43, .inl (c44, 40, .inl ((fun _ => 0))))] H := hP
  have hD : va_D A [(h, .inr (8, [.int 0, .int 0, .ref q1, .ref q3, .int 0, .ref q5, .ref q7, .ref q9, .ref q11, .ref q13, .int 0, .int 0, .int (-1), .int (-1), .ref q15, .ref q17, .ref q19, .ref q21, .ref q23, .ref q25, .ref q27, .ref q29, .ref q31, .ref q33, .int 0, .ref q35, .ref q37, .ref q39, .ref q41, .ref q43, .null, .null, .null, .int 0, .int 0])), (q1, .inl (c2, 6, .inl ((fun _ => 0)))), (q3, .inl (c4, 24, .inl ((fun _ => 0)))), (q9, .inl (c10, 160, .inl ((fun _ => 0)))), (q43, .inl (c44, 40, .inl ((fun _ => 0))))] := hD
  have hP := hP.sub (ws' := [(h, .inr (8, [.int 0, .int 0, .ref q1, .ref q3, .int 0, .ref q5, .ref q7, .ref q9, .ref q11, .ref q13, .int 0, .int 0, .int (-1), .int (-1), .ref q15, .ref q17, .ref q19, .ref q21, .ref q23, .ref q25, .ref q27, .ref q29, .ref q31, .ref q33, .int 0, .ref q35, .ref q37, .ref q39, .ref q41, .ref q43, .null, .null, .null, .int 0, .int 0])), (q1, .inl (c2, 6, .inl ((fun _ => 0)))), (q3, .inl (c4, 24, .inl ((fun _ => 0)))), (q9, .inl (c10, 160, .inl ((fun _ => 0))))]) [0, 1, 2, 3] rfl
  have hD := hD.sub (ws' := [(h, .inr (8, [.int 0, .int 0, .ref q1, .ref q3, .int 0, .ref q5, .ref q7, .ref q9, .ref q11, .ref q13, .int 0, .int 0, .int (-1), .int (-1), .ref q15, .ref q17, .ref q19, .ref q21, .ref q23, .ref q25, .ref q27, .ref q29, .ref q31, .ref q33, .int 0, .ref q35, .ref q37, .ref q39, .ref q41, .ref q43, .null, .null, .null, .int 0, .int 0])), (q1, .inl (c2, 6, .inl ((fun _ => 0)))), (q3, .inl (c4, 24, .inl ((fun _ => 0)))), (q9, .inl (c10, 160, .inl ((fun _ => 0))))]) [0, 1, 2, 3] (by decide) rfl
  have hK := hK.sub (tys' := [(c2, .int), (c4, .boolean), (c10, .int)]) [0, 1, 2] rfl
  refine lv_aload_n hx hb d_M_init_196 rfl (lv_at hl 0 rfl) ?_
  refine lv_sipush (v := 160) hx hb d_M_init_197 (by decide) ?_
  refine va_newa (D := (dC, dI)) (atype := .boolean) (ty := .boolean) (N' := 160) (a0 := (160, .inl (fun _ => 0))) hx hb (hts _ k_203) rfl hK hP hD hS hA (fun _ => rfl) (by decide) (by decide) (by decide) (Nat.le_of_ble_eq_true rfl) (Nat.le_of_ble_eq_true rfl) d_M_init_200 (fun q45 c46 H hK hP hD hS => ?_)
  have hP : va_P (dC, dI) CL [(h, .inr (8, [.int 0, .int 0, .ref q1, .ref q3, .int 0, .ref q5, .ref q7, .ref q9, .ref q11, .ref q13, .int 0, .int 0, .int (-1), .int (-1), .ref q15, .ref q17, .ref q19, .ref q21, .ref q23, .ref q25, .ref q27, .ref q29, .ref q31, .ref q33, .int 0, .ref q35, .ref q37, .ref q39, .ref q41, .ref q43, .null, .null, .null, .int 0, .int 0])), (q1, .inl (c2, 6, .inl ((fun _ => 0)))), (q3, .inl (c4, 24, .inl ((fun _ => 0)))), (q9, .inl (c10, 160, .inl ((fun _ => 0)))), (q45, .inl (c46, 160, .inl ((fun _ => 0))))] H := hP
  have hD : va_D A [(h, .inr (8, [.int 0, .int 0, .ref q1, .ref q3, .int 0, .ref q5, .ref q7, .ref q9, .ref q11, .ref q13, .int 0, .int 0, .int (-1), .int (-1), .ref q15, .ref q17, .ref q19, .ref q21, .ref q23, .ref q25, .ref q27, .ref q29, .ref q31, .ref q33, .int 0, .ref q35, .ref q37, .ref q39, .ref q41, .ref q43, .null, .null, .null, .int 0, .int 0])), (q1, .inl (c2, 6, .inl ((fun _ => 0)))), (q3, .inl (c4, 24, .inl ((fun _ => 0)))), (q9, .inl (c10, 160, .inl ((fun _ => 0)))), (q45, .inl (c46, 160, .inl ((fun _ => 0))))] := hD
  have hK : va_K (dC, dI) CL [(c2, .int), (c4, .boolean), (c10, .int), (c46, .boolean)] s := hK
  refine W.widen (k := 23) (n := 7012) (by decide) (by decide) ?_
  refine va_putF (D := (dC, dI)) (ci := 8) (v := .ref q45) (ty := .array .boolean) (C := R_M) (T := F_M) (N := 35) hx hb hts u_M t_M t_M_ok n_M hown hK hP hD hS 0 rfl rfl 30 (by decide) (hts _ k_227) (fun _ h9 => h9) rfl hin rfl (by decide +kernel) rfl rfl (Nat.le_of_ble_eq_true rfl) d_M_init_202 (fun H locs hP hD hS => ?_)
  have hP : va_P (dC, dI) CL [(h, .inr (8, [.int 0, .int 0, .ref q1, .ref q3, .int 0, .ref q5, .ref q7, .ref q9, .ref q11, .ref q13, .int 0, .int 0, .int (-1), .int (-1), .ref q15, .ref q17, .ref q19, .ref q21, .ref q23, .ref q25, .ref q27, .ref q29, .ref q31, .ref q33, .int 0, .ref q35, .ref q37, .ref q39, .ref q41, .ref q43, .ref q45, .null, .null, .int 0, .int 0])), (q1, .inl (c2, 6, .inl ((fun _ => 0)))), (q3, .inl (c4, 24, .inl ((fun _ => 0)))), (q9, .inl (c10, 160, .inl ((fun _ => 0)))), (q45, .inl (c46, 160, .inl ((fun _ => 0))))] H := hP
  have hD : va_D A [(h, .inr (8, [.int 0, .int 0, .ref q1, .ref q3, .int 0, .ref q5, .ref q7, .ref q9, .ref q11, .ref q13, .int 0, .int 0, .int (-1), .int (-1), .ref q15, .ref q17, .ref q19, .ref q21, .ref q23, .ref q25, .ref q27, .ref q29, .ref q31, .ref q33, .int 0, .ref q35, .ref q37, .ref q39, .ref q41, .ref q43, .ref q45, .null, .null, .int 0, .int 0])), (q1, .inl (c2, 6, .inl ((fun _ => 0)))), (q3, .inl (c4, 24, .inl ((fun _ => 0)))), (q9, .inl (c10, 160, .inl ((fun _ => 0)))), (q45, .inl (c46, 160, .inl ((fun _ => 0))))] := hD
  refine lv_aload_n hx hb d_M_init_205 rfl (lv_at hl 0 rfl) ?_
  refine lv_sipush (v := 160) hx hb d_M_init_206 (by decide) ?_
  refine va_newa (D := (dC, dI)) (atype := .int) (ty := .int) (N' := 160) (a0 := (160, .inl (fun _ => 0))) hx hb (hts _ k_4) rfl hK hP hD hS hA (fun _ => rfl) (by decide) (by decide) (by decide) (Nat.le_of_ble_eq_true rfl) (Nat.le_of_ble_eq_true rfl) d_M_init_209 (fun q47 c48 H hK hP hD hS => ?_)
  have hP : va_P (dC, dI) CL [(h, .inr (8, [.int 0, .int 0, .ref q1, .ref q3, .int 0, .ref q5, .ref q7, .ref q9, .ref q11, .ref q13, .int 0, .int 0, .int (-1), .int (-1), .ref q15, .ref q17, .ref q19, .ref q21, .ref q23, .ref q25, .ref q27, .ref q29, .ref q31, .ref q33, .int 0, .ref q35, .ref q37, .ref q39, .ref q41, .ref q43, .ref q45, .null, .null, .int 0, .int 0])), (q1, .inl (c2, 6, .inl ((fun _ => 0)))), (q3, .inl (c4, 24, .inl ((fun _ => 0)))), (q9, .inl (c10, 160, .inl ((fun _ => 0)))), (q45, .inl (c46, 160, .inl ((fun _ => 0)))), (q47, .inl (c48, 160, .inl ((fun _ => 0))))] H := hP
  have hD : va_D A [(h, .inr (8, [.int 0, .int 0, .ref q1, .ref q3, .int 0, .ref q5, .ref q7, .ref q9, .ref q11, .ref q13, .int 0, .int 0, .int (-1), .int (-1), .ref q15, .ref q17, .ref q19, .ref q21, .ref q23, .ref q25, .ref q27, .ref q29, .ref q31, .ref q33, .int 0, .ref q35, .ref q37, .ref q39, .ref q41, .ref q43, .ref q45, .null, .null, .int 0, .int 0])), (q1, .inl (c2, 6, .inl ((fun _ => 0)))), (q3, .inl (c4, 24, .inl ((fun _ => 0)))), (q9, .inl (c10, 160, .inl ((fun _ => 0)))), (q45, .inl (c46, 160, .inl ((fun _ => 0)))), (q47, .inl (c48, 160, .inl ((fun _ => 0))))] := hD
  have hK : va_K (dC, dI) CL [(c2, .int), (c4, .boolean), (c10, .int), (c46, .boolean), (c48, .int)] s := hK
  refine W.widen (k := 24) (n := 7172) (by decide) (by decide) ?_
  refine va_putF (D := (dC, dI)) (ci := 8) (v := .ref q47) (ty := .array .int) (C := R_M) (T := F_M) (N := 35) hx hb hts u_M t_M t_M_ok n_M hown hK hP hD hS 0 rfl rfl 31 (by decide) (hts _ k_228) (fun _ h9 => h9) rfl hin rfl (by decide +kernel) rfl rfl (Nat.le_of_ble_eq_true rfl) d_M_init_211 (fun H locs hP hD hS => ?_)
  have hP : va_P (dC, dI) CL [(h, .inr (8, [.int 0, .int 0, .ref q1, .ref q3, .int 0, .ref q5, .ref q7, .ref q9, .ref q11, .ref q13, .int 0, .int 0, .int (-1), .int (-1), .ref q15, .ref q17, .ref q19, .ref q21, .ref q23, .ref q25, .ref q27, .ref q29, .ref q31, .ref q33, .int 0, .ref q35, .ref q37, .ref q39, .ref q41, .ref q43, .ref q45, .ref q47, .null, .int 0, .int 0])), (q1, .inl (c2, 6, .inl ((fun _ => 0)))), (q3, .inl (c4, 24, .inl ((fun _ => 0)))), (q9, .inl (c10, 160, .inl ((fun _ => 0)))), (q45, .inl (c46, 160, .inl ((fun _ => 0)))), (q47, .inl (c48, 160, .inl ((fun _ => 0))))] H := hP
  have hD : va_D A [(h, .inr (8, [.int 0, .int 0, .ref q1, .ref q3, .int 0, .ref q5, .ref q7, .ref q9, .ref q11, .ref q13, .int 0, .int 0, .int (-1), .int (-1), .ref q15, .ref q17, .ref q19, .ref q21, .ref q23, .ref q25, .ref q27, .ref q29, .ref q31, .ref q33, .int 0, .ref q35, .ref q37, .ref q39, .ref q41, .ref q43, .ref q45, .ref q47, .null, .int 0, .int 0])), (q1, .inl (c2, 6, .inl ((fun _ => 0)))), (q3, .inl (c4, 24, .inl ((fun _ => 0)))), (q9, .inl (c10, 160, .inl ((fun _ => 0)))), (q45, .inl (c46, 160, .inl ((fun _ => 0)))), (q47, .inl (c48, 160, .inl ((fun _ => 0))))] := hD
  have hP := hP.sub (ws' := [(h, .inr (8, [.int 0, .int 0, .ref q1, .ref q3, .int 0, .ref q5, .ref q7, .ref q9, .ref q11, .ref q13, .int 0, .int 0, .int (-1), .int (-1), .ref q15, .ref q17, .ref q19, .ref q21, .ref q23, .ref q25, .ref q27, .ref q29, .ref q31, .ref q33, .int 0, .ref q35, .ref q37, .ref q39, .ref q41, .ref q43, .ref q45, .ref q47, .null, .int 0, .int 0])), (q1, .inl (c2, 6, .inl ((fun _ => 0)))), (q3, .inl (c4, 24, .inl ((fun _ => 0)))), (q9, .inl (c10, 160, .inl ((fun _ => 0)))), (q45, .inl (c46, 160, .inl ((fun _ => 0))))]) [0, 1, 2, 3, 4] rfl
  have hD := hD.sub (ws' := [(h, .inr (8, [.int 0, .int 0, .ref q1, .ref q3, .int 0, .ref q5, .ref q7, .ref q9, .ref q11, .ref q13, .int 0, .int 0, .int (-1), .int (-1), .ref q15, .ref q17, .ref q19, .ref q21, .ref q23, .ref q25, .ref q27, .ref q29, .ref q31, .ref q33, .int 0, .ref q35, .ref q37, .ref q39, .ref q41, .ref q43, .ref q45, .ref q47, .null, .int 0, .int 0])), (q1, .inl (c2, 6, .inl ((fun _ => 0)))), (q3, .inl (c4, 24, .inl ((fun _ => 0)))), (q9, .inl (c10, 160, .inl ((fun _ => 0)))), (q45, .inl (c46, 160, .inl ((fun _ => 0))))]) [0, 1, 2, 3, 4] (by decide) rfl
  have hK := hK.sub (tys' := [(c2, .int), (c4, .boolean), (c10, .int), (c46, .boolean)]) [0, 1, 2, 3] rfl
  refine lv_aload_n hx hb d_M_init_214 rfl (lv_at hl 0 rfl) ?_
  refine lv_iconst (v := 4) hx hb d_M_init_215 (by decide) ?_
  refine va_newa (D := (dC, dI)) (atype := .int) (ty := .int) (N' := 4) (a0 := (4, .inl (fun _ => 0))) hx hb (hts _ k_4) rfl hK hP hD hS hA (fun _ => rfl) (by decide) (by decide) (by decide) (Nat.le_of_ble_eq_true rfl) (Nat.le_of_ble_eq_true rfl) d_M_init_216 (fun q49 c50 H hK hP hD hS => ?_)
  have hP : va_P (dC, dI) CL [(h, .inr (8, [.int 0, .int 0, .ref q1, .ref q3, .int 0, .ref q5, .ref q7, .ref q9, .ref q11, .ref q13, .int 0, .int 0, .int (-1), .int (-1), .ref q15, .ref q17, .ref q19, .ref q21, .ref q23, .ref q25, .ref q27, .ref q29, .ref q31, .ref q33, .int 0, .ref q35, .ref q37, .ref q39, .ref q41, .ref q43, .ref q45, .ref q47, .null, .int 0, .int 0])), (q1, .inl (c2, 6, .inl ((fun _ => 0)))), (q3, .inl (c4, 24, .inl ((fun _ => 0)))), (q9, .inl (c10, 160, .inl ((fun _ => 0)))), (q45, .inl (c46, 160, .inl ((fun _ => 0)))), (q49, .inl (c50, 4, .inl ((fun _ => 0))))] H := hP
  have hD : va_D A [(h, .inr (8, [.int 0, .int 0, .ref q1, .ref q3, .int 0, .ref q5, .ref q7, .ref q9, .ref q11, .ref q13, .int 0, .int 0, .int (-1), .int (-1), .ref q15, .ref q17, .ref q19, .ref q21, .ref q23, .ref q25, .ref q27, .ref q29, .ref q31, .ref q33, .int 0, .ref q35, .ref q37, .ref q39, .ref q41, .ref q43, .ref q45, .ref q47, .null, .int 0, .int 0])), (q1, .inl (c2, 6, .inl ((fun _ => 0)))), (q3, .inl (c4, 24, .inl ((fun _ => 0)))), (q9, .inl (c10, 160, .inl ((fun _ => 0)))), (q45, .inl (c46, 160, .inl ((fun _ => 0)))), (q49, .inl (c50, 4, .inl ((fun _ => 0))))] := hD
  have hK : va_K (dC, dI) CL [(c2, .int), (c4, .boolean), (c10, .int), (c46, .boolean), (c50, .int)] s := hK
  refine W.widen (k := 25) (n := 7176) (by decide) (by decide) ?_
  refine va_putF (D := (dC, dI)) (ci := 8) (v := .ref q49) (ty := .array .int) (C := R_M) (T := F_M) (N := 35) hx hb hts u_M t_M t_M_ok n_M hown hK hP hD hS 0 rfl rfl 32 (by decide) (hts _ k_229) (fun _ h9 => h9) rfl hin rfl (by decide +kernel) rfl rfl (Nat.le_of_ble_eq_true rfl) d_M_init_218 (fun H locs hP hD hS => ?_)
  have hP : va_P (dC, dI) CL [(h, .inr (8, [.int 0, .int 0, .ref q1, .ref q3, .int 0, .ref q5, .ref q7, .ref q9, .ref q11, .ref q13, .int 0, .int 0, .int (-1), .int (-1), .ref q15, .ref q17, .ref q19, .ref q21, .ref q23, .ref q25, .ref q27, .ref q29, .ref q31, .ref q33, .int 0, .ref q35, .ref q37, .ref q39, .ref q41, .ref q43, .ref q45, .ref q47, .ref q49, .int 0, .int 0])), (q1, .inl (c2, 6, .inl ((fun _ => 0)))), (q3, .inl (c4, 24, .inl ((fun _ => 0)))), (q9, .inl (c10, 160, .inl ((fun _ => 0)))), (q45, .inl (c46, 160, .inl ((fun _ => 0)))), (q49, .inl (c50, 4, .inl ((fun _ => 0))))] H := hP
  have hD : va_D A [(h, .inr (8, [.int 0, .int 0, .ref q1, .ref q3, .int 0, .ref q5, .ref q7, .ref q9, .ref q11, .ref q13, .int 0, .int 0, .int (-1), .int (-1), .ref q15, .ref q17, .ref q19, .ref q21, .ref q23, .ref q25, .ref q27, .ref q29, .ref q31, .ref q33, .int 0, .ref q35, .ref q37, .ref q39, .ref q41, .ref q43, .ref q45, .ref q47, .ref q49, .int 0, .int 0])), (q1, .inl (c2, 6, .inl ((fun _ => 0)))), (q3, .inl (c4, 24, .inl ((fun _ => 0)))), (q9, .inl (c10, 160, .inl ((fun _ => 0)))), (q45, .inl (c46, 160, .inl ((fun _ => 0)))), (q49, .inl (c50, 4, .inl ((fun _ => 0))))] := hD
  refine lv_aload_n hx hb d_M_init_221 rfl (lv_at hl 0 rfl) ?_
  refine lv_iconst (v := (-1)) hx hb d_M_init_222 (by decide) ?_
  refine va_put (D := (dC, dI)) (ci := 8) (v := .int (-1)) (ty := .int) (C := R_M) (T := F_M) (N := 35) hx hb hts u_M t_M t_M_ok n_M hown hK hP hD hS 0 rfl rfl 33 (by decide) (hts _ k_230) (fun _ h9 => h9) rfl (by decide +kernel) rfl rfl (Nat.le_of_ble_eq_true rfl) d_M_init_223 (fun H locs hP hD hS => ?_)
  have hP : va_P (dC, dI) CL [(h, .inr (8, [.int 0, .int 0, .ref q1, .ref q3, .int 0, .ref q5, .ref q7, .ref q9, .ref q11, .ref q13, .int 0, .int 0, .int (-1), .int (-1), .ref q15, .ref q17, .ref q19, .ref q21, .ref q23, .ref q25, .ref q27, .ref q29, .ref q31, .ref q33, .int 0, .ref q35, .ref q37, .ref q39, .ref q41, .ref q43, .ref q45, .ref q47, .ref q49, .int (-1), .int 0])), (q1, .inl (c2, 6, .inl ((fun _ => 0)))), (q3, .inl (c4, 24, .inl ((fun _ => 0)))), (q9, .inl (c10, 160, .inl ((fun _ => 0)))), (q45, .inl (c46, 160, .inl ((fun _ => 0)))), (q49, .inl (c50, 4, .inl ((fun _ => 0))))] H := hP
  have hD : va_D A [(h, .inr (8, [.int 0, .int 0, .ref q1, .ref q3, .int 0, .ref q5, .ref q7, .ref q9, .ref q11, .ref q13, .int 0, .int 0, .int (-1), .int (-1), .ref q15, .ref q17, .ref q19, .ref q21, .ref q23, .ref q25, .ref q27, .ref q29, .ref q31, .ref q33, .int 0, .ref q35, .ref q37, .ref q39, .ref q41, .ref q43, .ref q45, .ref q47, .ref q49, .int (-1), .int 0])), (q1, .inl (c2, 6, .inl ((fun _ => 0)))), (q3, .inl (c4, 24, .inl ((fun _ => 0)))), (q9, .inl (c10, 160, .inl ((fun _ => 0)))), (q45, .inl (c46, 160, .inl ((fun _ => 0)))), (q49, .inl (c50, 4, .inl ((fun _ => 0))))] := hD
  refine lv_aload_n hx hb d_M_init_226 rfl (lv_at hl 0 rfl) ?_
  refine lv_iconst (v := (-1)) hx hb d_M_init_227 (by decide) ?_
  refine va_put (D := (dC, dI)) (ci := 8) (v := .int (-1)) (ty := .int) (C := R_M) (T := F_M) (N := 35) hx hb hts u_M t_M t_M_ok n_M hown hK hP hD hS 0 rfl rfl 34 (by decide) (hts _ k_231) (fun _ h9 => h9) rfl (by decide +kernel) rfl rfl (Nat.le_of_ble_eq_true rfl) d_M_init_228 (fun H locs hP hD hS => ?_)
  have hP : va_P (dC, dI) CL [(h, .inr (8, [.int 0, .int 0, .ref q1, .ref q3, .int 0, .ref q5, .ref q7, .ref q9, .ref q11, .ref q13, .int 0, .int 0, .int (-1), .int (-1), .ref q15, .ref q17, .ref q19, .ref q21, .ref q23, .ref q25, .ref q27, .ref q29, .ref q31, .ref q33, .int 0, .ref q35, .ref q37, .ref q39, .ref q41, .ref q43, .ref q45, .ref q47, .ref q49, .int (-1), .int (-1)])), (q1, .inl (c2, 6, .inl ((fun _ => 0)))), (q3, .inl (c4, 24, .inl ((fun _ => 0)))), (q9, .inl (c10, 160, .inl ((fun _ => 0)))), (q45, .inl (c46, 160, .inl ((fun _ => 0)))), (q49, .inl (c50, 4, .inl ((fun _ => 0))))] H := hP
  have hD : va_D A [(h, .inr (8, [.int 0, .int 0, .ref q1, .ref q3, .int 0, .ref q5, .ref q7, .ref q9, .ref q11, .ref q13, .int 0, .int 0, .int (-1), .int (-1), .ref q15, .ref q17, .ref q19, .ref q21, .ref q23, .ref q25, .ref q27, .ref q29, .ref q31, .ref q33, .int 0, .ref q35, .ref q37, .ref q39, .ref q41, .ref q43, .ref q45, .ref q47, .ref q49, .int (-1), .int (-1)])), (q1, .inl (c2, 6, .inl ((fun _ => 0)))), (q3, .inl (c4, 24, .inl ((fun _ => 0)))), (q9, .inl (c10, 160, .inl ((fun _ => 0)))), (q45, .inl (c46, 160, .inl ((fun _ => 0)))), (q49, .inl (c50, 4, .inl ((fun _ => 0))))] := hD
  refine lv_iconst (v := 0) hx hb d_M_init_231 (by decide) ?_
  refine lv_istore_n (lv' := [(1, .int 0), (0, .ref h)]) hx hb d_M_init_232 rfl hl (by decide) rfl (fun ls hl => ?_)
  have loop53 : ∀ (d n52 : Nat) (f51 : Nat → Int32) (H : Heap) (locs : List Loc) (ls : Array Slot), n52 + d = 160 → lv_has ls 2 [(1, .int (nI n52)), (0, .ref h)] → va_P (dC, dI) CL [(h, .inr (8, [.int 0, .int 0, .ref q1, .ref q3, .int 0, .ref q5, .ref q7, .ref q9, .ref q11, .ref q13, .int 0, .int 0, .int (-1), .int (-1), .ref q15, .ref q17, .ref q19, .ref q21, .ref q23, .ref q25, .ref q27, .ref q29, .ref q31, .ref q33, .int 0, .ref q35, .ref q37, .ref q39, .ref q41, .ref q43, .ref q45, .ref q47, .ref q49, .int (-1), .int (-1)])), (q1, .inl (c2, 6, .inl ((fun _ => 0)))), (q3, .inl (c4, 24, .inl ((fun _ => 0)))), (q9, .inl (c10, 160, .inl f51)), (q45, .inl (c46, 160, .inl ((fun _ => 0)))), (q49, .inl (c50, 4, .inl ((fun _ => 0))))] H → va_D A [(h, .inr (8, [.int 0, .int 0, .ref q1, .ref q3, .int 0, .ref q5, .ref q7, .ref q9, .ref q11, .ref q13, .int 0, .int 0, .int (-1), .int (-1), .ref q15, .ref q17, .ref q19, .ref q21, .ref q23, .ref q25, .ref q27, .ref q29, .ref q31, .ref q33, .int 0, .ref q35, .ref q37, .ref q39, .ref q41, .ref q43, .ref q45, .ref q47, .ref q49, .int (-1), .int (-1)])), (q1, .inl (c2, 6, .inl ((fun _ => 0)))), (q3, .inl (c4, 24, .inl ((fun _ => 0)))), (q9, .inl (c10, 160, .inl f51)), (q45, .inl (c46, 160, .inl ((fun _ => 0)))), (q49, .inl (c50, 4, .inl ((fun _ => 0))))] → va_S A s.heap H locs → W p l e (headSpec WS ({ frames := 1, cells := 25, slots := 7176, locals := 12 })).room s m ([.ref h] : List Value).toArray below meth c H locs 25 7176 (MQ below (va_Qv (fun _ : Unit => True) (fun _ t => ∃ q1 : Nat, ∃ q3 : Nat, ∃ q5 : Nat, ∃ q7 : Nat, ∃ q9 : Nat, ∃ q11 : Nat, ∃ q13 : Nat, ∃ q15 : Nat, ∃ q17 : Nat, ∃ q19 : Nat, ∃ q21 : Nat, ∃ q23 : Nat, ∃ q25 : Nat, ∃ q27 : Nat, ∃ q29 : Nat, ∃ q31 : Nat, ∃ q33 : Nat, ∃ q35 : Nat, ∃ q37 : Nat, ∃ q39 : Nat, ∃ q41 : Nat, ∃ q43 : Nat, ∃ q45 : Nat, ∃ q47 : Nat, ∃ q49 : Nat, ∃ c2 : ClassId, ∃ c4 : ClassId, ∃ c46 : ClassId, ∃ c50 : ClassId, vq_Post (dC, dI) CL A [(h, .inr (8, [.int 0, .int 0, .ref q1, .ref q3, .int 0, .ref q5, .ref q7, .ref q9, .ref q11, .ref q13, .int 0, .int 0, .int (-1), .int (-1), .ref q15, .ref q17, .ref q19, .ref q21, .ref q23, .ref q25, .ref q27, .ref q29, .ref q31, .ref q33, .int 0, .ref q35, .ref q37, .ref q39, .ref q41, .ref q43, .ref q45, .ref q47, .ref q49, .int (-1), .int (-1)])), (q1, .inl (c2, 6, .inl ((fun _ => 0)))), (q3, .inl (c4, 24, .inl ((fun _ => 0)))), (q45, .inl (c46, 160, .inl ((fun _ => 0)))), (q49, .inl (c50, 4, .inl ((fun _ => 0))))] [(c2, .int), (c4, .boolean), (c46, .boolean), (c50, .int)] t) A) ([.ref h] : List Value).toArray s 25 7176 A) (F0 m 233 ls []) := by
    intro d
    induction d with
    | zero =>
      intro n52 f51 H locs ls hn hl hP hD hS
      have hn2 : n52 = 160 := by omega
      subst hn2
      refine lv_iload_n hx hb d_M_init_233 rfl (lv_at hl 0 rfl) ?_
      refine lv_sipush (v := 160) hx hb d_M_init_234 (by decide) ?_
      refine lv_icmp_ge (tgt := 253) hx hb d_M_init_237 (by decide) (fun _ => ?_) (fun h9 => absurd (show (160 : Int32) ≤ nI 160 from nI_le (a := 160) (b := 160) (Nat.le_refl _) (by decide)) h9)
      have hP9 := hP.sub (ws' := [(h, .inr (8, [.int 0, .int 0, .ref q1, .ref q3, .int 0, .ref q5, .ref q7, .ref q9, .ref q11, .ref q13, .int 0, .int 0, .int (-1), .int (-1), .ref q15, .ref q17, .ref q19, .ref q21, .ref q23, .ref q25, .ref q27, .ref q29, .ref q31, .ref q33, .int 0, .ref q35, .ref q37, .ref q39, .ref q41, .ref q43, .ref q45, .ref q47, .ref q49, .int (-1), .int (-1)])), (q1, .inl (c2, 6, .inl ((fun _ => 0)))), (q3, .inl (c4, 24, .inl ((fun _ => 0)))), (q45, .inl (c46, 160, .inl ((fun _ => 0)))), (q49, .inl (c50, 4, .inl ((fun _ => 0))))]) [0, 1, 2, 4, 5] rfl
      have hD9 := hD.sub (ws' := [(h, .inr (8, [.int 0, .int 0, .ref q1, .ref q3, .int 0, .ref q5, .ref q7, .ref q9, .ref q11, .ref q13, .int 0, .int 0, .int (-1), .int (-1), .ref q15, .ref q17, .ref q19, .ref q21, .ref q23, .ref q25, .ref q27, .ref q29, .ref q31, .ref q33, .int 0, .ref q35, .ref q37, .ref q39, .ref q41, .ref q43, .ref q45, .ref q47, .ref q49, .int (-1), .int (-1)])), (q1, .inl (c2, 6, .inl ((fun _ => 0)))), (q3, .inl (c4, 24, .inl ((fun _ => 0)))), (q45, .inl (c46, 160, .inl ((fun _ => 0)))), (q49, .inl (c50, 4, .inl ((fun _ => 0))))]) [0, 1, 2, 4, 5] (by decide) rfl
      have hK9 := hK.sub (tys' := [(c2, .int), (c4, .boolean), (c46, .boolean), (c50, .int)]) [0, 1, 3, 4] rfl
      refine W.widen (k := 25) (n := 7176) (by decide) (by decide) ?_
      exact W.vret hx hb hr (fun t ht hW => ⟨⟨(), rfl, trivial, q1, q3, q5, q7, q9, q11, q13, q15, q17, q19, q21, q23, q25, q27, q29, q31, q33, q35, q37, q39, q41, q43, q45, q47, q49, c2, c4, c46, c50, by rw [ht]; exact hP9, va_K.moved hW.alike hK9, hD9⟩, hS.F ht⟩) hS.2.2 d_M_init_253
    | succ d ih =>
      intro n52 f51 H locs ls hn hl hP hD hS
      refine lv_iload_n hx hb d_M_init_233 rfl (lv_at hl 0 rfl) ?_
      refine lv_sipush (v := 160) hx hb d_M_init_234 (by decide) ?_
      refine lv_icmp_ge (tgt := 253) hx hb d_M_init_237 (by decide) (fun h9 => absurd h9 (show ¬ (160 : Int32) ≤ nI n52 from nI_ge (a := n52) (b := 160) (by omega) (by decide))) (fun _ => ?_)
      refine lv_aload_n hx hb d_M_init_240 rfl (lv_at hl 1 rfl) ?_
      refine va_get (D := (dC, dI)) (ci := 8) (v := .ref q9) (C := R_M) (T := F_M) (N := 35) hx hb hts u_M hown hK hP 0 rfl rfl 7 (by decide) (hts _ k_207) (fun _ h9 => h9) rfl d_M_init_241 ?_
      refine lv_iload_n hx hb d_M_init_244 rfl (lv_at hl 0 rfl) ?_
      refine lv_iconst (v := (-1)) hx hb d_M_init_245 (by decide) ?_
      refine va_iast (n := 160) (f := f51) hx hb hK hP hD hS 3 2 rfl rfl (vp_in_nI (by omega) (by decide)) d_M_init_246 (fun H locs hP hD hS => ?_)
      have hP : va_P (dC, dI) CL [(h, .inr (8, [.int 0, .int 0, .ref q1, .ref q3, .int 0, .ref q5, .ref q7, .ref q9, .ref q11, .ref q13, .int 0, .int 0, .int (-1), .int (-1), .ref q15, .ref q17, .ref q19, .ref q21, .ref q23, .ref q25, .ref q27, .ref q29, .ref q31, .ref q33, .int 0, .ref q35, .ref q37, .ref q39, .ref q41, .ref q43, .ref q45, .ref q47, .ref q49, .int (-1), .int (-1)])), (q1, .inl (c2, 6, .inl ((fun _ => 0)))), (q3, .inl (c4, 24, .inl ((fun _ => 0)))), (q9, .inl (c10, 160, .inl (upd f51 ((nI n52) : Int32).toNatClampNeg (-1)))), (q45, .inl (c46, 160, .inl ((fun _ => 0)))), (q49, .inl (c50, 4, .inl ((fun _ => 0))))] H := hP
      have hD : va_D A [(h, .inr (8, [.int 0, .int 0, .ref q1, .ref q3, .int 0, .ref q5, .ref q7, .ref q9, .ref q11, .ref q13, .int 0, .int 0, .int (-1), .int (-1), .ref q15, .ref q17, .ref q19, .ref q21, .ref q23, .ref q25, .ref q27, .ref q29, .ref q31, .ref q33, .int 0, .ref q35, .ref q37, .ref q39, .ref q41, .ref q43, .ref q45, .ref q47, .ref q49, .int (-1), .int (-1)])), (q1, .inl (c2, 6, .inl ((fun _ => 0)))), (q3, .inl (c4, 24, .inl ((fun _ => 0)))), (q9, .inl (c10, 160, .inl (upd f51 ((nI n52) : Int32).toNatClampNeg (-1)))), (q45, .inl (c46, 160, .inl ((fun _ => 0)))), (q49, .inl (c50, 4, .inl ((fun _ => 0))))] := hD
      generalize (upd f51 ((nI n52) : Int32).toNatClampNeg (-1)) = f54 at hP hD
      refine lv_iinc (k := 0) (v := (nI (n52 + 1))) (lv' := [(1, .int (nI (n52 + 1))), (0, .ref h)]) hx hb d_M_init_247 hl rfl (nI_1 n52) (by decide) rfl (fun ls hl => ?_)
      refine lv_goto (tgt := 233) hx hb d_M_init_250 (by decide) ?_
      exact ih _ _ _ _ _ (by omega) (lv_sub hl [0, 1] rfl) hP hD hS
  exact loop53 160 0 ((fun _ => 0)) _ _ _ (by decide) hl hP hD hS

set_option maxHeartbeats 4000000 in
set_option maxRecDepth 100000 in
theorem c_M_endRun (l : Launch) (htr : l.stackTraces = false) (dC : Nat → ClassId) (dI : Nat → Nat → Nat) (mo : Nat) (m_code : Int32) (m_symbols : Int32) (m_attributes : Nat) (m_inherits : Nat) (m_productions : Int32) (m_positions : Nat) (m_symbolAt : Nat) (m_form : Nat) (m_ruleX : Nat) (m_ruleY : Nat) (m_analysed : Int32) (m_faultKind : Int32) (m_faultProduction : Int32) (m_faultOccurrence : Int32) (m_uses : Nat) (m_leads : Nat) (m_symbolLeads : Nat) (m_order : Nat) (m_rank : Nat) (m_visits : Nat) (m_length : Nat) (m_sequence : Nat) (m_set : Nat) (m_visited : Nat) (m_nodes : Int32) (m_production : Nat) (m_token : Nat) (m_child : Nat) (m_parent : Nat) (m_next : Nat) (m_known : Nat) (m_value : Nat) (m_given : Nat) (m_root : Int32) (m_hand : Int32) (ckn : ClassId) (fkn : Nat → Int32) (sz : Nat) : Met l y_M_endRun WS ({ frames := 0, cells := 0, slots := 0, locals := 0 }) (va_Pc [.ref mo] (vq_Pre (dC, dI) CL sz [(mo, .inr (8, [.int m_code, .int m_symbols, .ref m_attributes, .ref m_inherits, .int m_productions, .ref m_positions, .ref m_symbolAt, .ref m_form, .ref m_ruleX, .ref m_ruleY, .int m_analysed, .int m_faultKind, .int m_faultProduction, .int m_faultOccurrence, .ref m_uses, .ref m_leads, .ref m_symbolLeads, .ref m_order, .ref m_rank, .ref m_visits, .ref m_length, .ref m_sequence, .ref m_set, .ref m_visited, .int m_nodes, .ref m_production, .ref m_token, .ref m_child, .ref m_parent, .ref m_next, .ref m_known, .ref m_value, .ref m_given, .int m_root, .int m_hand])), (m_known, .inl (ckn, 160, .inl fkn))] [(ckn, .boolean)])) (va_Qv (fun _ : Unit => True) (fun _ t => vq_Post (dC, dI) CL (va_A [(mo, .inr (8, [.int m_code, .int m_symbols, .ref m_attributes, .ref m_inherits, .int m_productions, .ref m_positions, .ref m_symbolAt, .ref m_form, .ref m_ruleX, .ref m_ruleY, .int m_analysed, .int m_faultKind, .int m_faultProduction, .int m_faultOccurrence, .ref m_uses, .ref m_leads, .ref m_symbolLeads, .ref m_order, .ref m_rank, .ref m_visits, .ref m_length, .ref m_sequence, .ref m_set, .ref m_visited, .int m_nodes, .ref m_production, .ref m_token, .ref m_child, .ref m_parent, .ref m_next, .ref m_known, .ref m_value, .ref m_given, .int m_root, .int m_hand])), (m_known, .inl (ckn, 160, .inl fkn))] sz) [(mo, .inr (8, [.int m_code, .int m_symbols, .ref m_attributes, .ref m_inherits, .int m_productions, .ref m_positions, .ref m_symbolAt, .ref m_form, .ref m_ruleX, .ref m_ruleY, .int m_analysed, .int m_faultKind, .int m_faultProduction, .int m_faultOccurrence, .ref m_uses, .ref m_leads, .ref m_symbolLeads, .ref m_order, .ref m_rank, .ref m_visits, .ref m_length, .ref m_sequence, .ref m_set, .ref m_visited, .int m_nodes, .ref m_production, .ref m_token, .ref m_child, .ref m_parent, .ref m_next, .ref m_known, .ref m_value, .ref m_given, .int (-1), .int (-1)]))] [] t) (va_A [(mo, .inr (8, [.int m_code, .int m_symbols, .ref m_attributes, .ref m_inherits, .int m_productions, .ref m_positions, .ref m_symbolAt, .ref m_form, .ref m_ruleX, .ref m_ruleY, .int m_analysed, .int m_faultKind, .int m_faultProduction, .int m_faultOccurrence, .ref m_uses, .ref m_leads, .ref m_symbolLeads, .ref m_order, .ref m_rank, .ref m_visits, .ref m_length, .ref m_sequence, .ref m_set, .ref m_visited, .int m_nodes, .ref m_production, .ref m_token, .ref m_child, .ref m_parent, .ref m_next, .ref m_known, .ref m_value, .ref m_given, .int m_root, .int m_hand])), (m_known, .inl (ckn, 160, .inl fkn))] sz)) 0 0 (va_A [(mo, .inr (8, [.int m_code, .int m_symbols, .ref m_attributes, .ref m_inherits, .int m_productions, .ref m_positions, .ref m_symbolAt, .ref m_form, .ref m_ruleX, .ref m_ruleY, .int m_analysed, .int m_faultKind, .int m_faultProduction, .int m_faultOccurrence, .ref m_uses, .ref m_leads, .ref m_symbolLeads, .ref m_order, .ref m_rank, .ref m_visits, .ref m_length, .ref m_sequence, .ref m_set, .ref m_visited, .int m_nodes, .ref m_production, .ref m_token, .ref m_child, .ref m_parent, .ref m_next, .ref m_known, .ref m_value, .ref m_given, .int m_root, .int m_hand])), (m_known, .inl (ckn, 160, .inl fkn))] sz) := by
  refine vq_ofW (cc := prog_10_method_4_code) (maxL := 2) (ret := (Option.none : Option Jvm.ClassFile.FieldType)) (by decide) (vq_his k_232) ?_
  intro p e s m args below meth c s₁ B hml hv
  obtain ⟨rfl, hst, hsz, hP, hK, hD0⟩ := hv
  have hx := B.exec
  have hb := B.bytes
  have hr := B.returns
  have hts := atoms_spec (ws := WS) B.pre
  have hown : s.vm.findClass R_M = some m.cls := findClass_of_methodNamed B.named
  have hlocks := B.notSynchronized
  have hno := vq_noH B (hts _ k_232)
  subst hsz
  have hN := vq_ns hP
  have hD := hD0.self (sz := s.heap.size)
  generalize hAe : va_A [(mo, .inr (8, [.int m_code, .int m_symbols, .ref m_attributes, .ref m_inherits, .int m_productions, .ref m_positions, .ref m_symbolAt, .ref m_form, .ref m_ruleX, .ref m_ruleY, .int m_analysed, .int m_faultKind, .int m_faultProduction, .int m_faultOccurrence, .ref m_uses, .ref m_leads, .ref m_symbolLeads, .ref m_order, .ref m_rank, .ref m_visits, .ref m_length, .ref m_sequence, .ref m_set, .ref m_visited, .int m_nodes, .ref m_production, .ref m_token, .ref m_child, .ref m_parent, .ref m_next, .ref m_known, .ref m_value, .ref m_given, .int m_root, .int m_hand])), (m_known, .inl (ckn, 160, .inl fkn))] s.heap.size = A at hD hN ⊢
  have hA : ∀ q : Nat, s.heap.size ≤ q → A q := fun q h => by rw [← hAe]; exact Or.inr h
  have hS : va_S A s.heap s.heap [] := va_S.rf
  have hP : va_P (dC, dI) CL [(mo, .inr (8, [.int m_code, .int m_symbols, .ref m_attributes, .ref m_inherits, .int m_productions, .ref m_positions, .ref m_symbolAt, .ref m_form, .ref m_ruleX, .ref m_ruleY, .int m_analysed, .int m_faultKind, .int m_faultProduction, .int m_faultOccurrence, .ref m_uses, .ref m_leads, .ref m_symbolLeads, .ref m_order, .ref m_rank, .ref m_visits, .ref m_length, .ref m_sequence, .ref m_set, .ref m_visited, .int m_nodes, .ref m_production, .ref m_token, .ref m_child, .ref m_parent, .ref m_next, .ref m_known, .ref m_value, .ref m_given, .int m_root, .int m_hand])), (m_known, .inl (ckn, 160, .inl fkn))] s.heap := hP
  have hD : va_D A [(mo, .inr (8, [.int m_code, .int m_symbols, .ref m_attributes, .ref m_inherits, .int m_productions, .ref m_positions, .ref m_symbolAt, .ref m_form, .ref m_ruleX, .ref m_ruleY, .int m_analysed, .int m_faultKind, .int m_faultProduction, .int m_faultOccurrence, .ref m_uses, .ref m_leads, .ref m_symbolLeads, .ref m_order, .ref m_rank, .ref m_visits, .ref m_length, .ref m_sequence, .ref m_set, .ref m_visited, .int m_nodes, .ref m_production, .ref m_token, .ref m_child, .ref m_parent, .ref m_next, .ref m_known, .ref m_value, .ref m_given, .int m_root, .int m_hand])), (m_known, .inl (ckn, 160, .inl fkn))] := hD
  have hl := lv_entry ([.ref mo]) (n := 2) (Nat.le_of_ble_eq_true rfl)
  rw [lg_entry_eq]
  generalize (lg_sl ([.ref mo]) ++ List.replicate (2 - (lg_sl ([.ref mo])).length) Slot.unset).toArray = ls at hl ⊢
  have hl : lv_has ls 2 [(0, .ref mo)] := hl
  refine lv_aload_n hx hb d_M_endRun_0 rfl (lv_at hl 0 rfl) ?_
  refine lv_iconst (v := (-1)) hx hb d_M_endRun_1 (by decide) ?_
  refine va_put (D := (dC, dI)) (ci := 8) (v := .int (-1)) (ty := .int) (C := R_M) (T := F_M) (N := 35) hx hb hts u_M t_M t_M_ok n_M hown hK hP hD hS 0 rfl rfl 33 (by decide) (hts _ k_230) (fun _ h9 => h9) rfl (by decide +kernel) rfl rfl (Nat.le_of_ble_eq_true rfl) d_M_endRun_2 (fun H locs hP hD hS => ?_)
  have hP : va_P (dC, dI) CL [(mo, .inr (8, [.int m_code, .int m_symbols, .ref m_attributes, .ref m_inherits, .int m_productions, .ref m_positions, .ref m_symbolAt, .ref m_form, .ref m_ruleX, .ref m_ruleY, .int m_analysed, .int m_faultKind, .int m_faultProduction, .int m_faultOccurrence, .ref m_uses, .ref m_leads, .ref m_symbolLeads, .ref m_order, .ref m_rank, .ref m_visits, .ref m_length, .ref m_sequence, .ref m_set, .ref m_visited, .int m_nodes, .ref m_production, .ref m_token, .ref m_child, .ref m_parent, .ref m_next, .ref m_known, .ref m_value, .ref m_given, .int (-1), .int m_hand])), (m_known, .inl (ckn, 160, .inl fkn))] H := hP
  have hD : va_D A [(mo, .inr (8, [.int m_code, .int m_symbols, .ref m_attributes, .ref m_inherits, .int m_productions, .ref m_positions, .ref m_symbolAt, .ref m_form, .ref m_ruleX, .ref m_ruleY, .int m_analysed, .int m_faultKind, .int m_faultProduction, .int m_faultOccurrence, .ref m_uses, .ref m_leads, .ref m_symbolLeads, .ref m_order, .ref m_rank, .ref m_visits, .ref m_length, .ref m_sequence, .ref m_set, .ref m_visited, .int m_nodes, .ref m_production, .ref m_token, .ref m_child, .ref m_parent, .ref m_next, .ref m_known, .ref m_value, .ref m_given, .int (-1), .int m_hand])), (m_known, .inl (ckn, 160, .inl fkn))] := hD
  refine lv_aload_n hx hb d_M_endRun_5 rfl (lv_at hl 0 rfl) ?_
  refine lv_iconst (v := (-1)) hx hb d_M_endRun_6 (by decide) ?_
  refine va_put (D := (dC, dI)) (ci := 8) (v := .int (-1)) (ty := .int) (C := R_M) (T := F_M) (N := 35) hx hb hts u_M t_M t_M_ok n_M hown hK hP hD hS 0 rfl rfl 34 (by decide) (hts _ k_231) (fun _ h9 => h9) rfl (by decide +kernel) rfl rfl (Nat.le_of_ble_eq_true rfl) d_M_endRun_7 (fun H locs hP hD hS => ?_)
  have hP : va_P (dC, dI) CL [(mo, .inr (8, [.int m_code, .int m_symbols, .ref m_attributes, .ref m_inherits, .int m_productions, .ref m_positions, .ref m_symbolAt, .ref m_form, .ref m_ruleX, .ref m_ruleY, .int m_analysed, .int m_faultKind, .int m_faultProduction, .int m_faultOccurrence, .ref m_uses, .ref m_leads, .ref m_symbolLeads, .ref m_order, .ref m_rank, .ref m_visits, .ref m_length, .ref m_sequence, .ref m_set, .ref m_visited, .int m_nodes, .ref m_production, .ref m_token, .ref m_child, .ref m_parent, .ref m_next, .ref m_known, .ref m_value, .ref m_given, .int (-1), .int (-1)])), (m_known, .inl (ckn, 160, .inl fkn))] H := hP
  have hD : va_D A [(mo, .inr (8, [.int m_code, .int m_symbols, .ref m_attributes, .ref m_inherits, .int m_productions, .ref m_positions, .ref m_symbolAt, .ref m_form, .ref m_ruleX, .ref m_ruleY, .int m_analysed, .int m_faultKind, .int m_faultProduction, .int m_faultOccurrence, .ref m_uses, .ref m_leads, .ref m_symbolLeads, .ref m_order, .ref m_rank, .ref m_visits, .ref m_length, .ref m_sequence, .ref m_set, .ref m_visited, .int m_nodes, .ref m_production, .ref m_token, .ref m_child, .ref m_parent, .ref m_next, .ref m_known, .ref m_value, .ref m_given, .int (-1), .int (-1)])), (m_known, .inl (ckn, 160, .inl fkn))] := hD
  refine lv_iconst (v := 0) hx hb d_M_endRun_10 (by decide) ?_
  refine lv_istore_n (lv' := [(1, .int 0), (0, .ref mo)]) hx hb d_M_endRun_11 rfl hl (by decide) rfl (fun ls hl => ?_)
  have loop3 : ∀ (d n2 : Nat) (f1 : Nat → Int32) (H : Heap) (locs : List Loc) (ls : Array Slot), n2 + d = 160 → lv_has ls 2 [(1, .int (nI n2)), (0, .ref mo)] → va_P (dC, dI) CL [(mo, .inr (8, [.int m_code, .int m_symbols, .ref m_attributes, .ref m_inherits, .int m_productions, .ref m_positions, .ref m_symbolAt, .ref m_form, .ref m_ruleX, .ref m_ruleY, .int m_analysed, .int m_faultKind, .int m_faultProduction, .int m_faultOccurrence, .ref m_uses, .ref m_leads, .ref m_symbolLeads, .ref m_order, .ref m_rank, .ref m_visits, .ref m_length, .ref m_sequence, .ref m_set, .ref m_visited, .int m_nodes, .ref m_production, .ref m_token, .ref m_child, .ref m_parent, .ref m_next, .ref m_known, .ref m_value, .ref m_given, .int (-1), .int (-1)])), (m_known, .inl (ckn, 160, .inl f1))] H → va_D A [(mo, .inr (8, [.int m_code, .int m_symbols, .ref m_attributes, .ref m_inherits, .int m_productions, .ref m_positions, .ref m_symbolAt, .ref m_form, .ref m_ruleX, .ref m_ruleY, .int m_analysed, .int m_faultKind, .int m_faultProduction, .int m_faultOccurrence, .ref m_uses, .ref m_leads, .ref m_symbolLeads, .ref m_order, .ref m_rank, .ref m_visits, .ref m_length, .ref m_sequence, .ref m_set, .ref m_visited, .int m_nodes, .ref m_production, .ref m_token, .ref m_child, .ref m_parent, .ref m_next, .ref m_known, .ref m_value, .ref m_given, .int (-1), .int (-1)])), (m_known, .inl (ckn, 160, .inl f1))] → va_S A s.heap H locs → W p l e (headSpec WS ({ frames := 0, cells := 0, slots := 0, locals := 0 })).room s m ([.ref mo] : List Value).toArray below meth c H locs 0 0 (MQ below (va_Qv (fun _ : Unit => True) (fun _ t => vq_Post (dC, dI) CL A [(mo, .inr (8, [.int m_code, .int m_symbols, .ref m_attributes, .ref m_inherits, .int m_productions, .ref m_positions, .ref m_symbolAt, .ref m_form, .ref m_ruleX, .ref m_ruleY, .int m_analysed, .int m_faultKind, .int m_faultProduction, .int m_faultOccurrence, .ref m_uses, .ref m_leads, .ref m_symbolLeads, .ref m_order, .ref m_rank, .ref m_visits, .ref m_length, .ref m_sequence, .ref m_set, .ref m_visited, .int m_nodes, .ref m_production, .ref m_token, .ref m_child, .ref m_parent, .ref m_next, .ref m_known, .ref m_value, .ref m_given, .int (-1), .int (-1)]))] [] t) A) ([.ref mo] : List Value).toArray s 0 0 A) (F0 m 12 ls []) := by
    intro d
    induction d with
    | zero =>
      intro n2 f1 H locs ls hn hl hP hD hS
      have hn2 : n2 = 160 := by omega
      subst hn2
      refine lv_iload_n hx hb d_M_endRun_12 rfl (lv_at hl 0 rfl) ?_
      refine lv_sipush (v := 160) hx hb d_M_endRun_13 (by decide) ?_
      refine lv_icmp_ge (tgt := 32) hx hb d_M_endRun_16 (by decide) (fun _ => ?_) (fun h9 => absurd (show (160 : Int32) ≤ nI 160 from nI_le (a := 160) (b := 160) (Nat.le_refl _) (by decide)) h9)
      have hP9 := hP.sub (ws' := [(mo, .inr (8, [.int m_code, .int m_symbols, .ref m_attributes, .ref m_inherits, .int m_productions, .ref m_positions, .ref m_symbolAt, .ref m_form, .ref m_ruleX, .ref m_ruleY, .int m_analysed, .int m_faultKind, .int m_faultProduction, .int m_faultOccurrence, .ref m_uses, .ref m_leads, .ref m_symbolLeads, .ref m_order, .ref m_rank, .ref m_visits, .ref m_length, .ref m_sequence, .ref m_set, .ref m_visited, .int m_nodes, .ref m_production, .ref m_token, .ref m_child, .ref m_parent, .ref m_next, .ref m_known, .ref m_value, .ref m_given, .int (-1), .int (-1)]))]) [0] rfl
      have hD9 := hD.sub (ws' := [(mo, .inr (8, [.int m_code, .int m_symbols, .ref m_attributes, .ref m_inherits, .int m_productions, .ref m_positions, .ref m_symbolAt, .ref m_form, .ref m_ruleX, .ref m_ruleY, .int m_analysed, .int m_faultKind, .int m_faultProduction, .int m_faultOccurrence, .ref m_uses, .ref m_leads, .ref m_symbolLeads, .ref m_order, .ref m_rank, .ref m_visits, .ref m_length, .ref m_sequence, .ref m_set, .ref m_visited, .int m_nodes, .ref m_production, .ref m_token, .ref m_child, .ref m_parent, .ref m_next, .ref m_known, .ref m_value, .ref m_given, .int (-1), .int (-1)]))]) [0] (by decide) rfl
      have hK9 := hK.sub (tys' := []) [] rfl
      refine W.widen (k := 0) (n := 0) (by decide) (by decide) ?_
      exact W.vret hx hb hr (fun t ht hW => ⟨⟨(), rfl, trivial, by rw [ht]; exact hP9, va_K.moved hW.alike hK9, hD9⟩, hS.F ht⟩) hS.2.2 d_M_endRun_32
    | succ d ih =>
      intro n2 f1 H locs ls hn hl hP hD hS
      refine lv_iload_n hx hb d_M_endRun_12 rfl (lv_at hl 0 rfl) ?_
      refine lv_sipush (v := 160) hx hb d_M_endRun_13 (by decide) ?_
      refine lv_icmp_ge (tgt := 32) hx hb d_M_endRun_16 (by decide) (fun h9 => absurd h9 (show ¬ (160 : Int32) ≤ nI n2 from nI_ge (a := n2) (b := 160) (by omega) (by decide))) (fun _ => ?_)
      refine lv_aload_n hx hb d_M_endRun_19 rfl (lv_at hl 1 rfl) ?_
      refine va_get (D := (dC, dI)) (ci := 8) (v := .ref m_known) (C := R_M) (T := F_M) (N := 35) hx hb hts u_M hown hK hP 0 rfl rfl 30 (by decide) (hts _ k_227) (fun _ h9 => h9) rfl d_M_endRun_20 ?_
      refine lv_iload_n hx hb d_M_endRun_23 rfl (lv_at hl 0 rfl) ?_
      refine lv_iconst (v := 0) hx hb d_M_endRun_24 (by decide) ?_
      refine va_zast (n := 160) (f := f1) hx hb hK hP hD hS 1 0 rfl rfl (vp_in_nI (by omega) (by decide)) d_M_endRun_25 (fun H locs hP hD hS => ?_)
      have hP : va_P (dC, dI) CL [(mo, .inr (8, [.int m_code, .int m_symbols, .ref m_attributes, .ref m_inherits, .int m_productions, .ref m_positions, .ref m_symbolAt, .ref m_form, .ref m_ruleX, .ref m_ruleY, .int m_analysed, .int m_faultKind, .int m_faultProduction, .int m_faultOccurrence, .ref m_uses, .ref m_leads, .ref m_symbolLeads, .ref m_order, .ref m_rank, .ref m_visits, .ref m_length, .ref m_sequence, .ref m_set, .ref m_visited, .int m_nodes, .ref m_production, .ref m_token, .ref m_child, .ref m_parent, .ref m_next, .ref m_known, .ref m_value, .ref m_given, .int (-1), .int (-1)])), (m_known, .inl (ckn, 160, .inl (upd f1 ((nI n2) : Int32).toNatClampNeg (vp_nar .boolean 0))))] H := hP
      have hD : va_D A [(mo, .inr (8, [.int m_code, .int m_symbols, .ref m_attributes, .ref m_inherits, .int m_productions, .ref m_positions, .ref m_symbolAt, .ref m_form, .ref m_ruleX, .ref m_ruleY, .int m_analysed, .int m_faultKind, .int m_faultProduction, .int m_faultOccurrence, .ref m_uses, .ref m_leads, .ref m_symbolLeads, .ref m_order, .ref m_rank, .ref m_visits, .ref m_length, .ref m_sequence, .ref m_set, .ref m_visited, .int m_nodes, .ref m_production, .ref m_token, .ref m_child, .ref m_parent, .ref m_next, .ref m_known, .ref m_value, .ref m_given, .int (-1), .int (-1)])), (m_known, .inl (ckn, 160, .inl (upd f1 ((nI n2) : Int32).toNatClampNeg (vp_nar .boolean 0))))] := hD
      generalize (upd f1 ((nI n2) : Int32).toNatClampNeg (vp_nar .boolean 0)) = f4 at hP hD
      refine lv_iinc (k := 0) (v := (nI (n2 + 1))) (lv' := [(1, .int (nI (n2 + 1))), (0, .ref mo)]) hx hb d_M_endRun_26 hl rfl (nI_1 n2) (by decide) rfl (fun ls hl => ?_)
      refine lv_goto (tgt := 12) hx hb d_M_endRun_29 (by decide) ?_
      exact ih _ _ _ _ _ (by omega) (lv_sub hl [0, 1] rfl) hP hD hS
  exact loop3 160 0 fkn _ _ _ (by decide) hl hP hD hS

set_option maxHeartbeats 4000000 in
set_option maxRecDepth 100000 in
theorem c_M_forget (l : Launch) (htr : l.stackTraces = false) (dC : Nat → ClassId) (dI : Nat → Nat → Nat) (mo : Nat) (m_code : Int32) (m_symbols : Int32) (m_attributes : Nat) (m_inherits : Nat) (m_productions : Int32) (m_positions : Nat) (m_symbolAt : Nat) (m_form : Nat) (m_ruleX : Nat) (m_ruleY : Nat) (m_analysed : Int32) (m_faultKind : Int32) (m_faultProduction : Int32) (m_faultOccurrence : Int32) (m_uses : Nat) (m_leads : Nat) (m_symbolLeads : Nat) (m_order : Nat) (m_rank : Nat) (m_visits : Nat) (m_length : Nat) (m_sequence : Nat) (m_set : Nat) (m_visited : Nat) (m_nodes : Int32) (m_production : Nat) (m_token : Nat) (m_child : Nat) (m_parent : Nat) (m_next : Nat) (m_known : Nat) (m_value : Nat) (m_given : Nat) (m_root : Int32) (m_hand : Int32) (ckn : ClassId) (fkn : Nat → Int32) (sz : Nat) : Met l y_M_forget WS ({ frames := 1, cells := 0, slots := 0, locals := 21 }) (va_Pc [.ref mo] (vq_Pre (dC, dI) CL sz [(mo, .inr (8, [.int m_code, .int m_symbols, .ref m_attributes, .ref m_inherits, .int m_productions, .ref m_positions, .ref m_symbolAt, .ref m_form, .ref m_ruleX, .ref m_ruleY, .int m_analysed, .int m_faultKind, .int m_faultProduction, .int m_faultOccurrence, .ref m_uses, .ref m_leads, .ref m_symbolLeads, .ref m_order, .ref m_rank, .ref m_visits, .ref m_length, .ref m_sequence, .ref m_set, .ref m_visited, .int m_nodes, .ref m_production, .ref m_token, .ref m_child, .ref m_parent, .ref m_next, .ref m_known, .ref m_value, .ref m_given, .int m_root, .int m_hand])), (m_known, .inl (ckn, 160, .inl fkn))] [(ckn, .boolean)])) (va_Qv (fun _ : Unit => True) (fun _ t => vq_Post (dC, dI) CL (va_A [(mo, .inr (8, [.int m_code, .int m_symbols, .ref m_attributes, .ref m_inherits, .int m_productions, .ref m_positions, .ref m_symbolAt, .ref m_form, .ref m_ruleX, .ref m_ruleY, .int m_analysed, .int m_faultKind, .int m_faultProduction, .int m_faultOccurrence, .ref m_uses, .ref m_leads, .ref m_symbolLeads, .ref m_order, .ref m_rank, .ref m_visits, .ref m_length, .ref m_sequence, .ref m_set, .ref m_visited, .int m_nodes, .ref m_production, .ref m_token, .ref m_child, .ref m_parent, .ref m_next, .ref m_known, .ref m_value, .ref m_given, .int m_root, .int m_hand])), (m_known, .inl (ckn, 160, .inl fkn))] sz) [(mo, .inr (8, [.int m_code, .int m_symbols, .ref m_attributes, .ref m_inherits, .int m_productions, .ref m_positions, .ref m_symbolAt, .ref m_form, .ref m_ruleX, .ref m_ruleY, .int 0, .int m_faultKind, .int m_faultProduction, .int m_faultOccurrence, .ref m_uses, .ref m_leads, .ref m_symbolLeads, .ref m_order, .ref m_rank, .ref m_visits, .ref m_length, .ref m_sequence, .ref m_set, .ref m_visited, .int m_nodes, .ref m_production, .ref m_token, .ref m_child, .ref m_parent, .ref m_next, .ref m_known, .ref m_value, .ref m_given, .int (-1), .int (-1)]))] [] t) (va_A [(mo, .inr (8, [.int m_code, .int m_symbols, .ref m_attributes, .ref m_inherits, .int m_productions, .ref m_positions, .ref m_symbolAt, .ref m_form, .ref m_ruleX, .ref m_ruleY, .int m_analysed, .int m_faultKind, .int m_faultProduction, .int m_faultOccurrence, .ref m_uses, .ref m_leads, .ref m_symbolLeads, .ref m_order, .ref m_rank, .ref m_visits, .ref m_length, .ref m_sequence, .ref m_set, .ref m_visited, .int m_nodes, .ref m_production, .ref m_token, .ref m_child, .ref m_parent, .ref m_next, .ref m_known, .ref m_value, .ref m_given, .int m_root, .int m_hand])), (m_known, .inl (ckn, 160, .inl fkn))] sz)) 0 0 (va_A [(mo, .inr (8, [.int m_code, .int m_symbols, .ref m_attributes, .ref m_inherits, .int m_productions, .ref m_positions, .ref m_symbolAt, .ref m_form, .ref m_ruleX, .ref m_ruleY, .int m_analysed, .int m_faultKind, .int m_faultProduction, .int m_faultOccurrence, .ref m_uses, .ref m_leads, .ref m_symbolLeads, .ref m_order, .ref m_rank, .ref m_visits, .ref m_length, .ref m_sequence, .ref m_set, .ref m_visited, .int m_nodes, .ref m_production, .ref m_token, .ref m_child, .ref m_parent, .ref m_next, .ref m_known, .ref m_value, .ref m_given, .int m_root, .int m_hand])), (m_known, .inl (ckn, 160, .inl fkn))] sz) := by
  refine vq_ofW (cc := prog_10_method_5_code) (maxL := 1) (ret := (Option.none : Option Jvm.ClassFile.FieldType)) (by decide) (vq_his k_233) ?_
  intro p e s m args below meth c s₁ B hml hv
  obtain ⟨rfl, hst, hsz, hP, hK, hD0⟩ := hv
  have hx := B.exec
  have hb := B.bytes
  have hr := B.returns
  have hts := atoms_spec (ws := WS) B.pre
  have hown : s.vm.findClass R_M = some m.cls := findClass_of_methodNamed B.named
  have hlocks := B.notSynchronized
  have hno := vq_noH B (hts _ k_233)
  subst hsz
  have hN := vq_ns hP
  have hD := hD0.self (sz := s.heap.size)
  generalize hAe : va_A [(mo, .inr (8, [.int m_code, .int m_symbols, .ref m_attributes, .ref m_inherits, .int m_productions, .ref m_positions, .ref m_symbolAt, .ref m_form, .ref m_ruleX, .ref m_ruleY, .int m_analysed, .int m_faultKind, .int m_faultProduction, .int m_faultOccurrence, .ref m_uses, .ref m_leads, .ref m_symbolLeads, .ref m_order, .ref m_rank, .ref m_visits, .ref m_length, .ref m_sequence, .ref m_set, .ref m_visited, .int m_nodes, .ref m_production, .ref m_token, .ref m_child, .ref m_parent, .ref m_next, .ref m_known, .ref m_value, .ref m_given, .int m_root, .int m_hand])), (m_known, .inl (ckn, 160, .inl fkn))] s.heap.size = A at hD hN ⊢
  have hA : ∀ q : Nat, s.heap.size ≤ q → A q := fun q h => by rw [← hAe]; exact Or.inr h
  have hS : va_S A s.heap s.heap [] := va_S.rf
  have hP : va_P (dC, dI) CL [(mo, .inr (8, [.int m_code, .int m_symbols, .ref m_attributes, .ref m_inherits, .int m_productions, .ref m_positions, .ref m_symbolAt, .ref m_form, .ref m_ruleX, .ref m_ruleY, .int m_analysed, .int m_faultKind, .int m_faultProduction, .int m_faultOccurrence, .ref m_uses, .ref m_leads, .ref m_symbolLeads, .ref m_order, .ref m_rank, .ref m_visits, .ref m_length, .ref m_sequence, .ref m_set, .ref m_visited, .int m_nodes, .ref m_production, .ref m_token, .ref m_child, .ref m_parent, .ref m_next, .ref m_known, .ref m_value, .ref m_given, .int m_root, .int m_hand])), (m_known, .inl (ckn, 160, .inl fkn))] s.heap := hP
  have hD : va_D A [(mo, .inr (8, [.int m_code, .int m_symbols, .ref m_attributes, .ref m_inherits, .int m_productions, .ref m_positions, .ref m_symbolAt, .ref m_form, .ref m_ruleX, .ref m_ruleY, .int m_analysed, .int m_faultKind, .int m_faultProduction, .int m_faultOccurrence, .ref m_uses, .ref m_leads, .ref m_symbolLeads, .ref m_order, .ref m_rank, .ref m_visits, .ref m_length, .ref m_sequence, .ref m_set, .ref m_visited, .int m_nodes, .ref m_production, .ref m_token, .ref m_child, .ref m_parent, .ref m_next, .ref m_known, .ref m_value, .ref m_given, .int m_root, .int m_hand])), (m_known, .inl (ckn, 160, .inl fkn))] := hD
  have hl := lv_entry ([.ref mo]) (n := 1) (Nat.le_of_ble_eq_true rfl)
  rw [lg_entry_eq]
  generalize (lg_sl ([.ref mo]) ++ List.replicate (1 - (lg_sl ([.ref mo])).length) Slot.unset).toArray = ls at hl ⊢
  have hl : lv_has ls 1 [(0, .ref mo)] := hl
  refine lv_aload_n hx hb d_M_forget_0 rfl (lv_at hl 0 rfl) ?_
  refine lv_iconst (v := 0) hx hb d_M_forget_1 (by decide) ?_
  refine va_put (D := (dC, dI)) (ci := 8) (v := .int 0) (ty := .boolean) (C := R_M) (T := F_M) (N := 35) hx hb hts u_M t_M t_M_ok n_M hown hK hP hD hS 0 rfl rfl 10 (by decide) (hts _ k_234) (fun _ h9 => h9) rfl (by decide +kernel) rfl rfl (Nat.le_of_ble_eq_true rfl) d_M_forget_2 (fun H locs hP hD hS => ?_)
  have hP : va_P (dC, dI) CL [(mo, .inr (8, [.int m_code, .int m_symbols, .ref m_attributes, .ref m_inherits, .int m_productions, .ref m_positions, .ref m_symbolAt, .ref m_form, .ref m_ruleX, .ref m_ruleY, .int 0, .int m_faultKind, .int m_faultProduction, .int m_faultOccurrence, .ref m_uses, .ref m_leads, .ref m_symbolLeads, .ref m_order, .ref m_rank, .ref m_visits, .ref m_length, .ref m_sequence, .ref m_set, .ref m_visited, .int m_nodes, .ref m_production, .ref m_token, .ref m_child, .ref m_parent, .ref m_next, .ref m_known, .ref m_value, .ref m_given, .int m_root, .int m_hand])), (m_known, .inl (ckn, 160, .inl fkn))] H := hP
  have hD : va_D A [(mo, .inr (8, [.int m_code, .int m_symbols, .ref m_attributes, .ref m_inherits, .int m_productions, .ref m_positions, .ref m_symbolAt, .ref m_form, .ref m_ruleX, .ref m_ruleY, .int 0, .int m_faultKind, .int m_faultProduction, .int m_faultOccurrence, .ref m_uses, .ref m_leads, .ref m_symbolLeads, .ref m_order, .ref m_rank, .ref m_visits, .ref m_length, .ref m_sequence, .ref m_set, .ref m_visited, .int m_nodes, .ref m_production, .ref m_token, .ref m_child, .ref m_parent, .ref m_next, .ref m_known, .ref m_value, .ref m_given, .int m_root, .int m_hand])), (m_known, .inl (ckn, 160, .inl fkn))] := hD
  refine lv_aload_n hx hb d_M_forget_5 rfl (lv_at hl 0 rfl) ?_
  have hPc := hP.sub (ws' := [(mo, .inr (8, [.int m_code, .int m_symbols, .ref m_attributes, .ref m_inherits, .int m_productions, .ref m_positions, .ref m_symbolAt, .ref m_form, .ref m_ruleX, .ref m_ruleY, .int 0, .int m_faultKind, .int m_faultProduction, .int m_faultOccurrence, .ref m_uses, .ref m_leads, .ref m_symbolLeads, .ref m_order, .ref m_rank, .ref m_visits, .ref m_length, .ref m_sequence, .ref m_set, .ref m_visited, .int m_nodes, .ref m_production, .ref m_token, .ref m_child, .ref m_parent, .ref m_next, .ref m_known, .ref m_value, .ref m_given, .int m_root, .int m_hand])), (m_known, .inl (ckn, 160, .inl fkn))]) [0, 1] rfl
  have hDc := hD.sub (ws' := [(mo, .inr (8, [.int m_code, .int m_symbols, .ref m_attributes, .ref m_inherits, .int m_productions, .ref m_positions, .ref m_symbolAt, .ref m_form, .ref m_ruleX, .ref m_ruleY, .int 0, .int m_faultKind, .int m_faultProduction, .int m_faultOccurrence, .ref m_uses, .ref m_leads, .ref m_symbolLeads, .ref m_order, .ref m_rank, .ref m_visits, .ref m_length, .ref m_sequence, .ref m_set, .ref m_visited, .int m_nodes, .ref m_production, .ref m_token, .ref m_child, .ref m_parent, .ref m_next, .ref m_known, .ref m_value, .ref m_given, .int m_root, .int m_hand])), (m_known, .inl (ckn, 160, .inl fkn))]) [0, 1] (by decide) rfl
  have hKc := hK.sub (tys' := [(ckn, .boolean)]) [0] rfl
  have hFc := va_free (wc := [(mo, .inr (8, [.int m_code, .int m_symbols, .ref m_attributes, .ref m_inherits, .int m_productions, .ref m_positions, .ref m_symbolAt, .ref m_form, .ref m_ruleX, .ref m_ruleY, .int 0, .int m_faultKind, .int m_faultProduction, .int m_faultOccurrence, .ref m_uses, .ref m_leads, .ref m_symbolLeads, .ref m_order, .ref m_rank, .ref m_visits, .ref m_length, .ref m_sequence, .ref m_set, .ref m_visited, .int m_nodes, .ref m_production, .ref m_token, .ref m_child, .ref m_parent, .ref m_next, .ref m_known, .ref m_value, .ref m_given, .int m_root, .int m_hand])), (m_known, .inl (ckn, 160, .inl fkn))]) hD hS hA [0, 1] rfl
  refine va_callv (va_runV (As := []) (rest := []) ⟨hx, hb, hml, hown, hts⟩ (c_M_endRun l htr dC dI mo m_code m_symbols m_attributes m_inherits m_productions m_positions m_symbolAt m_form m_ruleX m_ruleY 0 m_faultKind m_faultProduction m_faultOccurrence m_uses m_leads m_symbolLeads m_order m_rank m_visits m_length m_sequence m_set m_visited m_nodes m_production m_token m_child m_parent m_next m_known m_value m_given m_root m_hand ckn fkn H.size) (vq_cV WSk hts 0 rfl rfl ⟨by decide, by decide⟩ k_232 k_235 k_236 k_237 k_238 (by decide +kernel)) ⟨vq_blind, va_recv hK hP (ci := 8) (q0 := 0) rfl rfl, vq_here hst hS hN hPc hKc hDc⟩ rfl rfl hl.1 rfl (lv_room (Nat.le_of_ble_eq_true rfl)) d_M_forget_6 ⟨by decide, by decide⟩) hS (fun q _ h => hFc q h) hFc (fun u t H1 locs ht hvm hw hB hz1 hk1 hS => ?_)
  obtain ⟨hP1, hK1, hD1⟩ := hB
  rw [ht] at hP1
  have hK1 := va_K.moved hvm.symm hK1
  obtain ⟨hP, hD⟩ := va_join (wr := []) (w1 := [(mo, .inr (8, [.int m_code, .int m_symbols, .ref m_attributes, .ref m_inherits, .int m_productions, .ref m_positions, .ref m_symbolAt, .ref m_form, .ref m_ruleX, .ref m_ruleY, .int 0, .int m_faultKind, .int m_faultProduction, .int m_faultOccurrence, .ref m_uses, .ref m_leads, .ref m_symbolLeads, .ref m_order, .ref m_rank, .ref m_visits, .ref m_length, .ref m_sequence, .ref m_set, .ref m_visited, .int m_nodes, .ref m_production, .ref m_token, .ref m_child, .ref m_parent, .ref m_next, .ref m_known, .ref m_value, .ref m_given, .int (-1), .int (-1)]))]) hP hD [0, 1] [] rfl rfl (by decide) (by decide) hk1 hFc hP1 hD1
  have hK := (hK.sub (tys' := []) [] rfl).app hK1
  generalize H1 = H at hP hS ⊢
  have hP : va_P (dC, dI) CL [(mo, .inr (8, [.int m_code, .int m_symbols, .ref m_attributes, .ref m_inherits, .int m_productions, .ref m_positions, .ref m_symbolAt, .ref m_form, .ref m_ruleX, .ref m_ruleY, .int 0, .int m_faultKind, .int m_faultProduction, .int m_faultOccurrence, .ref m_uses, .ref m_leads, .ref m_symbolLeads, .ref m_order, .ref m_rank, .ref m_visits, .ref m_length, .ref m_sequence, .ref m_set, .ref m_visited, .int m_nodes, .ref m_production, .ref m_token, .ref m_child, .ref m_parent, .ref m_next, .ref m_known, .ref m_value, .ref m_given, .int (-1), .int (-1)]))] H := hP
  have hD : va_D A [(mo, .inr (8, [.int m_code, .int m_symbols, .ref m_attributes, .ref m_inherits, .int m_productions, .ref m_positions, .ref m_symbolAt, .ref m_form, .ref m_ruleX, .ref m_ruleY, .int 0, .int m_faultKind, .int m_faultProduction, .int m_faultOccurrence, .ref m_uses, .ref m_leads, .ref m_symbolLeads, .ref m_order, .ref m_rank, .ref m_visits, .ref m_length, .ref m_sequence, .ref m_set, .ref m_visited, .int m_nodes, .ref m_production, .ref m_token, .ref m_child, .ref m_parent, .ref m_next, .ref m_known, .ref m_value, .ref m_given, .int (-1), .int (-1)]))] := hD
  have hK : va_K (dC, dI) CL [] s := hK
  refine W.widen (k := 0) (n := 0) (by decide) (by decide) ?_
  have hP9 := hP.sub (ws' := [(mo, .inr (8, [.int m_code, .int m_symbols, .ref m_attributes, .ref m_inherits, .int m_productions, .ref m_positions, .ref m_symbolAt, .ref m_form, .ref m_ruleX, .ref m_ruleY, .int 0, .int m_faultKind, .int m_faultProduction, .int m_faultOccurrence, .ref m_uses, .ref m_leads, .ref m_symbolLeads, .ref m_order, .ref m_rank, .ref m_visits, .ref m_length, .ref m_sequence, .ref m_set, .ref m_visited, .int m_nodes, .ref m_production, .ref m_token, .ref m_child, .ref m_parent, .ref m_next, .ref m_known, .ref m_value, .ref m_given, .int (-1), .int (-1)]))]) [0] rfl
  have hD9 := hD.sub (ws' := [(mo, .inr (8, [.int m_code, .int m_symbols, .ref m_attributes, .ref m_inherits, .int m_productions, .ref m_positions, .ref m_symbolAt, .ref m_form, .ref m_ruleX, .ref m_ruleY, .int 0, .int m_faultKind, .int m_faultProduction, .int m_faultOccurrence, .ref m_uses, .ref m_leads, .ref m_symbolLeads, .ref m_order, .ref m_rank, .ref m_visits, .ref m_length, .ref m_sequence, .ref m_set, .ref m_visited, .int m_nodes, .ref m_production, .ref m_token, .ref m_child, .ref m_parent, .ref m_next, .ref m_known, .ref m_value, .ref m_given, .int (-1), .int (-1)]))]) [0] (by decide) rfl
  have hK9 := hK.sub (tys' := []) [] rfl
  refine W.widen (k := 0) (n := 0) (by decide) (by decide) ?_
  exact W.vret hx hb hr (fun t ht hW => ⟨⟨(), rfl, trivial, by rw [ht]; exact hP9, va_K.moved hW.alike hK9, hD9⟩, hS.F ht⟩) hS.2.2 d_M_forget_9

set_option maxHeartbeats 4000000 in
set_option maxRecDepth 100000 in
theorem c_M_thrown (l : Launch) (htr : l.stackTraces = false) (dC : Nat → ClassId) (dI : Nat → Nat → Nat) (mo : Nat) (m_code : Int32) (m_symbols : Int32) (m_attributes : Nat) (m_inherits : Nat) (m_productions : Int32) (m_positions : Nat) (m_symbolAt : Nat) (m_form : Nat) (m_ruleX : Nat) (m_ruleY : Nat) (m_analysed : Int32) (m_faultKind : Int32) (m_faultProduction : Int32) (m_faultOccurrence : Int32) (m_uses : Nat) (m_leads : Nat) (m_symbolLeads : Nat) (m_order : Nat) (m_rank : Nat) (m_visits : Nat) (m_length : Nat) (m_sequence : Nat) (m_set : Nat) (m_visited : Nat) (m_nodes : Int32) (m_production : Nat) (m_token : Nat) (m_child : Nat) (m_parent : Nat) (m_next : Nat) (m_known : Nat) (m_value : Nat) (m_given : Nat) (m_root : Int32) (m_hand : Int32) (sz : Nat) : Met l y_M_thrown WS ({ frames := 0, cells := 0, slots := 0, locals := 0 }) (va_Pc [.ref mo] (vq_Pre (dC, dI) CL sz [(mo, .inr (8, [.int m_code, .int m_symbols, .ref m_attributes, .ref m_inherits, .int m_productions, .ref m_positions, .ref m_symbolAt, .ref m_form, .ref m_ruleX, .ref m_ruleY, .int m_analysed, .int m_faultKind, .int m_faultProduction, .int m_faultOccurrence, .ref m_uses, .ref m_leads, .ref m_symbolLeads, .ref m_order, .ref m_rank, .ref m_visits, .ref m_length, .ref m_sequence, .ref m_set, .ref m_visited, .int m_nodes, .ref m_production, .ref m_token, .ref m_child, .ref m_parent, .ref m_next, .ref m_known, .ref m_value, .ref m_given, .int m_root, .int m_hand]))] [])) (va_Qi (fun (r : Int32) (_ : Unit) => r = m_code) (fun _ t => vq_Post (dC, dI) CL (va_A [(mo, .inr (8, [.int m_code, .int m_symbols, .ref m_attributes, .ref m_inherits, .int m_productions, .ref m_positions, .ref m_symbolAt, .ref m_form, .ref m_ruleX, .ref m_ruleY, .int m_analysed, .int m_faultKind, .int m_faultProduction, .int m_faultOccurrence, .ref m_uses, .ref m_leads, .ref m_symbolLeads, .ref m_order, .ref m_rank, .ref m_visits, .ref m_length, .ref m_sequence, .ref m_set, .ref m_visited, .int m_nodes, .ref m_production, .ref m_token, .ref m_child, .ref m_parent, .ref m_next, .ref m_known, .ref m_value, .ref m_given, .int m_root, .int m_hand]))] sz) [(mo, .inr (8, [.int m_code, .int m_symbols, .ref m_attributes, .ref m_inherits, .int m_productions, .ref m_positions, .ref m_symbolAt, .ref m_form, .ref m_ruleX, .ref m_ruleY, .int m_analysed, .int m_faultKind, .int m_faultProduction, .int m_faultOccurrence, .ref m_uses, .ref m_leads, .ref m_symbolLeads, .ref m_order, .ref m_rank, .ref m_visits, .ref m_length, .ref m_sequence, .ref m_set, .ref m_visited, .int m_nodes, .ref m_production, .ref m_token, .ref m_child, .ref m_parent, .ref m_next, .ref m_known, .ref m_value, .ref m_given, .int m_root, .int m_hand]))] [] t) (va_A [(mo, .inr (8, [.int m_code, .int m_symbols, .ref m_attributes, .ref m_inherits, .int m_productions, .ref m_positions, .ref m_symbolAt, .ref m_form, .ref m_ruleX, .ref m_ruleY, .int m_analysed, .int m_faultKind, .int m_faultProduction, .int m_faultOccurrence, .ref m_uses, .ref m_leads, .ref m_symbolLeads, .ref m_order, .ref m_rank, .ref m_visits, .ref m_length, .ref m_sequence, .ref m_set, .ref m_visited, .int m_nodes, .ref m_production, .ref m_token, .ref m_child, .ref m_parent, .ref m_next, .ref m_known, .ref m_value, .ref m_given, .int m_root, .int m_hand]))] sz)) 0 0 (va_A [(mo, .inr (8, [.int m_code, .int m_symbols, .ref m_attributes, .ref m_inherits, .int m_productions, .ref m_positions, .ref m_symbolAt, .ref m_form, .ref m_ruleX, .ref m_ruleY, .int m_analysed, .int m_faultKind, .int m_faultProduction, .int m_faultOccurrence, .ref m_uses, .ref m_leads, .ref m_symbolLeads, .ref m_order, .ref m_rank, .ref m_visits, .ref m_length, .ref m_sequence, .ref m_set, .ref m_visited, .int m_nodes, .ref m_production, .ref m_token, .ref m_child, .ref m_parent, .ref m_next, .ref m_known, .ref m_value, .ref m_given, .int m_root, .int m_hand]))] sz) := by
  refine vq_ofW (cc := prog_10_method_2_code) (maxL := 1) (ret := (Option.some Jvm.ClassFile.FieldType.int)) (by decide) (vq_his k_239) ?_
  intro p e s m args below meth c s₁ B hml hv
  obtain ⟨rfl, hst, hsz, hP, hK, hD0⟩ := hv
  have hx := B.exec
  have hb := B.bytes
  have hr := B.returns
  have hts := atoms_spec (ws := WS) B.pre
  have hown : s.vm.findClass R_M = some m.cls := findClass_of_methodNamed B.named
  have hlocks := B.notSynchronized
  have hno := vq_noH B (hts _ k_239)
  subst hsz
  have hN := vq_ns hP
  have hD := hD0.self (sz := s.heap.size)
  generalize hAe : va_A [(mo, .inr (8, [.int m_code, .int m_symbols, .ref m_attributes, .ref m_inherits, .int m_productions, .ref m_positions, .ref m_symbolAt, .ref m_form, .ref m_ruleX, .ref m_ruleY, .int m_analysed, .int m_faultKind, .int m_faultProduction, .int m_faultOccurrence, .ref m_uses, .ref m_leads, .ref m_symbolLeads, .ref m_order, .ref m_rank, .ref m_visits, .ref m_length, .ref m_sequence, .ref m_set, .ref m_visited, .int m_nodes, .ref m_production, .ref m_token, .ref m_child, .ref m_parent, .ref m_next, .ref m_known, .ref m_value, .ref m_given, .int m_root, .int m_hand]))] s.heap.size = A at hD hN ⊢
  have hA : ∀ q : Nat, s.heap.size ≤ q → A q := fun q h => by rw [← hAe]; exact Or.inr h
  have hS : va_S A s.heap s.heap [] := va_S.rf
  have hP : va_P (dC, dI) CL [(mo, .inr (8, [.int m_code, .int m_symbols, .ref m_attributes, .ref m_inherits, .int m_productions, .ref m_positions, .ref m_symbolAt, .ref m_form, .ref m_ruleX, .ref m_ruleY, .int m_analysed, .int m_faultKind, .int m_faultProduction, .int m_faultOccurrence, .ref m_uses, .ref m_leads, .ref m_symbolLeads, .ref m_order, .ref m_rank, .ref m_visits, .ref m_length, .ref m_sequence, .ref m_set, .ref m_visited, .int m_nodes, .ref m_production, .ref m_token, .ref m_child, .ref m_parent, .ref m_next, .ref m_known, .ref m_value, .ref m_given, .int m_root, .int m_hand]))] s.heap := hP
  have hD : va_D A [(mo, .inr (8, [.int m_code, .int m_symbols, .ref m_attributes, .ref m_inherits, .int m_productions, .ref m_positions, .ref m_symbolAt, .ref m_form, .ref m_ruleX, .ref m_ruleY, .int m_analysed, .int m_faultKind, .int m_faultProduction, .int m_faultOccurrence, .ref m_uses, .ref m_leads, .ref m_symbolLeads, .ref m_order, .ref m_rank, .ref m_visits, .ref m_length, .ref m_sequence, .ref m_set, .ref m_visited, .int m_nodes, .ref m_production, .ref m_token, .ref m_child, .ref m_parent, .ref m_next, .ref m_known, .ref m_value, .ref m_given, .int m_root, .int m_hand]))] := hD
  have hl := lv_entry ([.ref mo]) (n := 1) (Nat.le_of_ble_eq_true rfl)
  rw [lg_entry_eq]
  generalize (lg_sl ([.ref mo]) ++ List.replicate (1 - (lg_sl ([.ref mo])).length) Slot.unset).toArray = ls at hl ⊢
  have hl : lv_has ls 1 [(0, .ref mo)] := hl
  refine lv_aload_n hx hb d_M_thrown_0 rfl (lv_at hl 0 rfl) ?_
  refine va_get (D := (dC, dI)) (ci := 8) (v := .int m_code) (C := R_M) (T := F_M) (N := 35) hx hb hts u_M hown hK hP 0 rfl rfl 0 (by decide) (hts _ k_240) (fun _ h9 => h9) rfl d_M_thrown_1 ?_
  have hP9 := hP.sub (ws' := [(mo, .inr (8, [.int m_code, .int m_symbols, .ref m_attributes, .ref m_inherits, .int m_productions, .ref m_positions, .ref m_symbolAt, .ref m_form, .ref m_ruleX, .ref m_ruleY, .int m_analysed, .int m_faultKind, .int m_faultProduction, .int m_faultOccurrence, .ref m_uses, .ref m_leads, .ref m_symbolLeads, .ref m_order, .ref m_rank, .ref m_visits, .ref m_length, .ref m_sequence, .ref m_set, .ref m_visited, .int m_nodes, .ref m_production, .ref m_token, .ref m_child, .ref m_parent, .ref m_next, .ref m_known, .ref m_value, .ref m_given, .int m_root, .int m_hand]))]) [0] rfl
  have hD9 := hD.sub (ws' := [(mo, .inr (8, [.int m_code, .int m_symbols, .ref m_attributes, .ref m_inherits, .int m_productions, .ref m_positions, .ref m_symbolAt, .ref m_form, .ref m_ruleX, .ref m_ruleY, .int m_analysed, .int m_faultKind, .int m_faultProduction, .int m_faultOccurrence, .ref m_uses, .ref m_leads, .ref m_symbolLeads, .ref m_order, .ref m_rank, .ref m_visits, .ref m_length, .ref m_sequence, .ref m_set, .ref m_visited, .int m_nodes, .ref m_production, .ref m_token, .ref m_child, .ref m_parent, .ref m_next, .ref m_known, .ref m_value, .ref m_given, .int m_root, .int m_hand]))]) [0] (by decide) rfl
  have hK9 := hK.sub (tys' := []) [] rfl
  refine W.widen (k := 0) (n := 0) (by decide) (by decide) ?_
  exact W.iret (v := m_code) hx hb hr (fun t ht hW => ⟨⟨m_code, (), rfl, rfl, by rw [ht]; exact hP9, va_K.moved hW.alike hK9, hD9⟩, hS.F ht⟩) hS.2.2 d_M_thrown_4

set_option maxHeartbeats 4000000 in
set_option maxRecDepth 100000 in
theorem c_M_fail (l : Launch) (htr : l.stackTraces = false) (dC : Nat → ClassId) (dI : Nat → Nat → Nat) (mo : Nat) (m_code : Int32) (m_symbols : Int32) (m_attributes : Nat) (m_inherits : Nat) (m_productions : Int32) (m_positions : Nat) (m_symbolAt : Nat) (m_form : Nat) (m_ruleX : Nat) (m_ruleY : Nat) (m_analysed : Int32) (m_faultKind : Int32) (m_faultProduction : Int32) (m_faultOccurrence : Int32) (m_uses : Nat) (m_leads : Nat) (m_symbolLeads : Nat) (m_order : Nat) (m_rank : Nat) (m_visits : Nat) (m_length : Nat) (m_sequence : Nat) (m_set : Nat) (m_visited : Nat) (m_nodes : Int32) (m_production : Nat) (m_token : Nat) (m_child : Nat) (m_parent : Nat) (m_next : Nat) (m_known : Nat) (m_value : Nat) (m_given : Nat) (m_root : Int32) (m_hand : Int32) (sz : Nat) : Met l y_M_fail WS ({ frames := 0, cells := 0, slots := 0, locals := 0 }) (va_Pc [.ref mo, .int 1] (vq_Pre (dC, dI) CL sz [(mo, .inr (8, [.int m_code, .int m_symbols, .ref m_attributes, .ref m_inherits, .int m_productions, .ref m_positions, .ref m_symbolAt, .ref m_form, .ref m_ruleX, .ref m_ruleY, .int m_analysed, .int m_faultKind, .int m_faultProduction, .int m_faultOccurrence, .ref m_uses, .ref m_leads, .ref m_symbolLeads, .ref m_order, .ref m_rank, .ref m_visits, .ref m_length, .ref m_sequence, .ref m_set, .ref m_visited, .int m_nodes, .ref m_production, .ref m_token, .ref m_child, .ref m_parent, .ref m_next, .ref m_known, .ref m_value, .ref m_given, .int m_root, .int m_hand]))] [])) (va_Qi (fun (r : Int32) (_ : Unit) => r = 0) (fun _ t => vq_Post (dC, dI) CL (va_A [(mo, .inr (8, [.int m_code, .int m_symbols, .ref m_attributes, .ref m_inherits, .int m_productions, .ref m_positions, .ref m_symbolAt, .ref m_form, .ref m_ruleX, .ref m_ruleY, .int m_analysed, .int m_faultKind, .int m_faultProduction, .int m_faultOccurrence, .ref m_uses, .ref m_leads, .ref m_symbolLeads, .ref m_order, .ref m_rank, .ref m_visits, .ref m_length, .ref m_sequence, .ref m_set, .ref m_visited, .int m_nodes, .ref m_production, .ref m_token, .ref m_child, .ref m_parent, .ref m_next, .ref m_known, .ref m_value, .ref m_given, .int m_root, .int m_hand]))] sz) [(mo, .inr (8, [.int 1, .int m_symbols, .ref m_attributes, .ref m_inherits, .int m_productions, .ref m_positions, .ref m_symbolAt, .ref m_form, .ref m_ruleX, .ref m_ruleY, .int m_analysed, .int m_faultKind, .int m_faultProduction, .int m_faultOccurrence, .ref m_uses, .ref m_leads, .ref m_symbolLeads, .ref m_order, .ref m_rank, .ref m_visits, .ref m_length, .ref m_sequence, .ref m_set, .ref m_visited, .int m_nodes, .ref m_production, .ref m_token, .ref m_child, .ref m_parent, .ref m_next, .ref m_known, .ref m_value, .ref m_given, .int m_root, .int m_hand]))] [] t) (va_A [(mo, .inr (8, [.int m_code, .int m_symbols, .ref m_attributes, .ref m_inherits, .int m_productions, .ref m_positions, .ref m_symbolAt, .ref m_form, .ref m_ruleX, .ref m_ruleY, .int m_analysed, .int m_faultKind, .int m_faultProduction, .int m_faultOccurrence, .ref m_uses, .ref m_leads, .ref m_symbolLeads, .ref m_order, .ref m_rank, .ref m_visits, .ref m_length, .ref m_sequence, .ref m_set, .ref m_visited, .int m_nodes, .ref m_production, .ref m_token, .ref m_child, .ref m_parent, .ref m_next, .ref m_known, .ref m_value, .ref m_given, .int m_root, .int m_hand]))] sz)) 0 0 (va_A [(mo, .inr (8, [.int m_code, .int m_symbols, .ref m_attributes, .ref m_inherits, .int m_productions, .ref m_positions, .ref m_symbolAt, .ref m_form, .ref m_ruleX, .ref m_ruleY, .int m_analysed, .int m_faultKind, .int m_faultProduction, .int m_faultOccurrence, .ref m_uses, .ref m_leads, .ref m_symbolLeads, .ref m_order, .ref m_rank, .ref m_visits, .ref m_length, .ref m_sequence, .ref m_set, .ref m_visited, .int m_nodes, .ref m_production, .ref m_token, .ref m_child, .ref m_parent, .ref m_next, .ref m_known, .ref m_value, .ref m_given, .int m_root, .int m_hand]))] sz) := by
  refine vq_ofW (cc := prog_10_method_3_code) (maxL := 2) (ret := (Option.some Jvm.ClassFile.FieldType.int)) (by decide) (vq_his k_241) ?_
  intro p e s m args below meth c s₁ B hml hv
  obtain ⟨rfl, hst, hsz, hP, hK, hD0⟩ := hv
  have hx := B.exec
  have hb := B.bytes
  have hr := B.returns
  have hts := atoms_spec (ws := WS) B.pre
  have hown : s.vm.findClass R_M = some m.cls := findClass_of_methodNamed B.named
  have hlocks := B.notSynchronized
  have hno := vq_noH B (hts _ k_241)
  subst hsz
  have hN := vq_ns hP
  have hD := hD0.self (sz := s.heap.size)
  generalize hAe : va_A [(mo, .inr (8, [.int m_code, .int m_symbols, .ref m_attributes, .ref m_inherits, .int m_productions, .ref m_positions, .ref m_symbolAt, .ref m_form, .ref m_ruleX, .ref m_ruleY, .int m_analysed, .int m_faultKind, .int m_faultProduction, .int m_faultOccurrence, .ref m_uses, .ref m_leads, .ref m_symbolLeads, .ref m_order, .ref m_rank, .ref m_visits, .ref m_length, .ref m_sequence, .ref m_set, .ref m_visited, .int m_nodes, .ref m_production, .ref m_token, .ref m_child, .ref m_parent, .ref m_next, .ref m_known, .ref m_value, .ref m_given, .int m_root, .int m_hand]))] s.heap.size = A at hD hN ⊢
  have hA : ∀ q : Nat, s.heap.size ≤ q → A q := fun q h => by rw [← hAe]; exact Or.inr h
  have hS : va_S A s.heap s.heap [] := va_S.rf
  have hP : va_P (dC, dI) CL [(mo, .inr (8, [.int m_code, .int m_symbols, .ref m_attributes, .ref m_inherits, .int m_productions, .ref m_positions, .ref m_symbolAt, .ref m_form, .ref m_ruleX, .ref m_ruleY, .int m_analysed, .int m_faultKind, .int m_faultProduction, .int m_faultOccurrence, .ref m_uses, .ref m_leads, .ref m_symbolLeads, .ref m_order, .ref m_rank, .ref m_visits, .ref m_length, .ref m_sequence, .ref m_set, .ref m_visited, .int m_nodes, .ref m_production, .ref m_token, .ref m_child, .ref m_parent, .ref m_next, .ref m_known, .ref m_value, .ref m_given, .int m_root, .int m_hand]))] s.heap := hP
  have hD : va_D A [(mo, .inr (8, [.int m_code, .int m_symbols, .ref m_attributes, .ref m_inherits, .int m_productions, .ref m_positions, .ref m_symbolAt, .ref m_form, .ref m_ruleX, .ref m_ruleY, .int m_analysed, .int m_faultKind, .int m_faultProduction, .int m_faultOccurrence, .ref m_uses, .ref m_leads, .ref m_symbolLeads, .ref m_order, .ref m_rank, .ref m_visits, .ref m_length, .ref m_sequence, .ref m_set, .ref m_visited, .int m_nodes, .ref m_production, .ref m_token, .ref m_child, .ref m_parent, .ref m_next, .ref m_known, .ref m_value, .ref m_given, .int m_root, .int m_hand]))] := hD
  have hl := lv_entry ([.ref mo, .int 1]) (n := 2) (Nat.le_of_ble_eq_true rfl)
  rw [lg_entry_eq]
  generalize (lg_sl ([.ref mo, .int 1]) ++ List.replicate (2 - (lg_sl ([.ref mo, .int 1])).length) Slot.unset).toArray = ls at hl ⊢
  have hl : lv_has ls 2 [(0, .ref mo), (1, .int 1)] := hl
  refine lv_aload_n hx hb d_M_fail_0 rfl (lv_at hl 0 rfl) ?_
  refine lv_iload_n hx hb d_M_fail_1 rfl (lv_at hl 1 rfl) ?_
  refine va_put (D := (dC, dI)) (ci := 8) (v := .int 1) (ty := .int) (C := R_M) (T := F_M) (N := 35) hx hb hts u_M t_M t_M_ok n_M hown hK hP hD hS 0 rfl rfl 0 (by decide) (hts _ k_240) (fun _ h9 => h9) rfl (by decide +kernel) rfl rfl (Nat.le_of_ble_eq_true rfl) d_M_fail_2 (fun H locs hP hD hS => ?_)
  have hP : va_P (dC, dI) CL [(mo, .inr (8, [.int 1, .int m_symbols, .ref m_attributes, .ref m_inherits, .int m_productions, .ref m_positions, .ref m_symbolAt, .ref m_form, .ref m_ruleX, .ref m_ruleY, .int m_analysed, .int m_faultKind, .int m_faultProduction, .int m_faultOccurrence, .ref m_uses, .ref m_leads, .ref m_symbolLeads, .ref m_order, .ref m_rank, .ref m_visits, .ref m_length, .ref m_sequence, .ref m_set, .ref m_visited, .int m_nodes, .ref m_production, .ref m_token, .ref m_child, .ref m_parent, .ref m_next, .ref m_known, .ref m_value, .ref m_given, .int m_root, .int m_hand]))] H := hP
  have hD : va_D A [(mo, .inr (8, [.int 1, .int m_symbols, .ref m_attributes, .ref m_inherits, .int m_productions, .ref m_positions, .ref m_symbolAt, .ref m_form, .ref m_ruleX, .ref m_ruleY, .int m_analysed, .int m_faultKind, .int m_faultProduction, .int m_faultOccurrence, .ref m_uses, .ref m_leads, .ref m_symbolLeads, .ref m_order, .ref m_rank, .ref m_visits, .ref m_length, .ref m_sequence, .ref m_set, .ref m_visited, .int m_nodes, .ref m_production, .ref m_token, .ref m_child, .ref m_parent, .ref m_next, .ref m_known, .ref m_value, .ref m_given, .int m_root, .int m_hand]))] := hD
  refine lv_iconst (v := 0) hx hb d_M_fail_5 (by decide) ?_
  have hP9 := hP.sub (ws' := [(mo, .inr (8, [.int 1, .int m_symbols, .ref m_attributes, .ref m_inherits, .int m_productions, .ref m_positions, .ref m_symbolAt, .ref m_form, .ref m_ruleX, .ref m_ruleY, .int m_analysed, .int m_faultKind, .int m_faultProduction, .int m_faultOccurrence, .ref m_uses, .ref m_leads, .ref m_symbolLeads, .ref m_order, .ref m_rank, .ref m_visits, .ref m_length, .ref m_sequence, .ref m_set, .ref m_visited, .int m_nodes, .ref m_production, .ref m_token, .ref m_child, .ref m_parent, .ref m_next, .ref m_known, .ref m_value, .ref m_given, .int m_root, .int m_hand]))]) [0] rfl
  have hD9 := hD.sub (ws' := [(mo, .inr (8, [.int 1, .int m_symbols, .ref m_attributes, .ref m_inherits, .int m_productions, .ref m_positions, .ref m_symbolAt, .ref m_form, .ref m_ruleX, .ref m_ruleY, .int m_analysed, .int m_faultKind, .int m_faultProduction, .int m_faultOccurrence, .ref m_uses, .ref m_leads, .ref m_symbolLeads, .ref m_order, .ref m_rank, .ref m_visits, .ref m_length, .ref m_sequence, .ref m_set, .ref m_visited, .int m_nodes, .ref m_production, .ref m_token, .ref m_child, .ref m_parent, .ref m_next, .ref m_known, .ref m_value, .ref m_given, .int m_root, .int m_hand]))]) [0] (by decide) rfl
  have hK9 := hK.sub (tys' := []) [] rfl
  refine W.widen (k := 0) (n := 0) (by decide) (by decide) ?_
  exact W.iret (v := 0) hx hb hr (fun t ht hW => ⟨⟨0, (), rfl, rfl, by rw [ht]; exact hP9, va_K.moved hW.alike hK9, hD9⟩, hS.F ht⟩) hS.2.2 d_M_fail_6

set_option maxHeartbeats 4000000 in
set_option maxRecDepth 100000 in
theorem c_M_blame (l : Launch) (htr : l.stackTraces = false) (dC : Nat → ClassId) (dI : Nat → Nat → Nat) (mo : Nat) (m_code : Int32) (m_symbols : Int32) (m_attributes : Nat) (m_inherits : Nat) (m_productions : Int32) (m_positions : Nat) (m_symbolAt : Nat) (m_form : Nat) (m_ruleX : Nat) (m_ruleY : Nat) (m_analysed : Int32) (m_faultKind : Int32) (m_faultProduction : Int32) (m_faultOccurrence : Int32) (m_uses : Nat) (m_leads : Nat) (m_symbolLeads : Nat) (m_order : Nat) (m_rank : Nat) (m_visits : Nat) (m_length : Nat) (m_sequence : Nat) (m_set : Nat) (m_visited : Nat) (m_nodes : Int32) (m_production : Nat) (m_token : Nat) (m_child : Nat) (m_parent : Nat) (m_next : Nat) (m_known : Nat) (m_value : Nat) (m_given : Nat) (m_root : Int32) (m_hand : Int32) (sz : Nat) : Met l y_M_blame WS ({ frames := 0, cells := 0, slots := 0, locals := 0 }) (va_Pc [.ref mo, .int 0, .int (-1), .int (-1)] (vq_Pre (dC, dI) CL sz [(mo, .inr (8, [.int m_code, .int m_symbols, .ref m_attributes, .ref m_inherits, .int m_productions, .ref m_positions, .ref m_symbolAt, .ref m_form, .ref m_ruleX, .ref m_ruleY, .int m_analysed, .int m_faultKind, .int m_faultProduction, .int m_faultOccurrence, .ref m_uses, .ref m_leads, .ref m_symbolLeads, .ref m_order, .ref m_rank, .ref m_visits, .ref m_length, .ref m_sequence, .ref m_set, .ref m_visited, .int m_nodes, .ref m_production, .ref m_token, .ref m_child, .ref m_parent, .ref m_next, .ref m_known, .ref m_value, .ref m_given, .int m_root, .int m_hand]))] [])) (va_Qi (fun (r : Int32) (_ : Unit) => r = 1) (fun _ t => vq_Post (dC, dI) CL (va_A [(mo, .inr (8, [.int m_code, .int m_symbols, .ref m_attributes, .ref m_inherits, .int m_productions, .ref m_positions, .ref m_symbolAt, .ref m_form, .ref m_ruleX, .ref m_ruleY, .int m_analysed, .int m_faultKind, .int m_faultProduction, .int m_faultOccurrence, .ref m_uses, .ref m_leads, .ref m_symbolLeads, .ref m_order, .ref m_rank, .ref m_visits, .ref m_length, .ref m_sequence, .ref m_set, .ref m_visited, .int m_nodes, .ref m_production, .ref m_token, .ref m_child, .ref m_parent, .ref m_next, .ref m_known, .ref m_value, .ref m_given, .int m_root, .int m_hand]))] sz) [(mo, .inr (8, [.int m_code, .int m_symbols, .ref m_attributes, .ref m_inherits, .int m_productions, .ref m_positions, .ref m_symbolAt, .ref m_form, .ref m_ruleX, .ref m_ruleY, .int m_analysed, .int 0, .int (-1), .int (-1), .ref m_uses, .ref m_leads, .ref m_symbolLeads, .ref m_order, .ref m_rank, .ref m_visits, .ref m_length, .ref m_sequence, .ref m_set, .ref m_visited, .int m_nodes, .ref m_production, .ref m_token, .ref m_child, .ref m_parent, .ref m_next, .ref m_known, .ref m_value, .ref m_given, .int m_root, .int m_hand]))] [] t) (va_A [(mo, .inr (8, [.int m_code, .int m_symbols, .ref m_attributes, .ref m_inherits, .int m_productions, .ref m_positions, .ref m_symbolAt, .ref m_form, .ref m_ruleX, .ref m_ruleY, .int m_analysed, .int m_faultKind, .int m_faultProduction, .int m_faultOccurrence, .ref m_uses, .ref m_leads, .ref m_symbolLeads, .ref m_order, .ref m_rank, .ref m_visits, .ref m_length, .ref m_sequence, .ref m_set, .ref m_visited, .int m_nodes, .ref m_production, .ref m_token, .ref m_child, .ref m_parent, .ref m_next, .ref m_known, .ref m_value, .ref m_given, .int m_root, .int m_hand]))] sz)) 0 0 (va_A [(mo, .inr (8, [.int m_code, .int m_symbols, .ref m_attributes, .ref m_inherits, .int m_productions, .ref m_positions, .ref m_symbolAt, .ref m_form, .ref m_ruleX, .ref m_ruleY, .int m_analysed, .int m_faultKind, .int m_faultProduction, .int m_faultOccurrence, .ref m_uses, .ref m_leads, .ref m_symbolLeads, .ref m_order, .ref m_rank, .ref m_visits, .ref m_length, .ref m_sequence, .ref m_set, .ref m_visited, .int m_nodes, .ref m_production, .ref m_token, .ref m_child, .ref m_parent, .ref m_next, .ref m_known, .ref m_value, .ref m_given, .int m_root, .int m_hand]))] sz) := by
  refine vq_ofW (cc := prog_10_method_16_code) (maxL := 4) (ret := (Option.some Jvm.ClassFile.FieldType.boolean)) (by decide) (vq_his k_242) ?_
  intro p e s m args below meth c s₁ B hml hv
  obtain ⟨rfl, hst, hsz, hP, hK, hD0⟩ := hv
  have hx := B.exec
  have hb := B.bytes
  have hr := B.returns
  have hts := atoms_spec (ws := WS) B.pre
  have hown : s.vm.findClass R_M = some m.cls := findClass_of_methodNamed B.named
  have hlocks := B.notSynchronized
  have hno := vq_noH B (hts _ k_242)
  subst hsz
  have hN := vq_ns hP
  have hD := hD0.self (sz := s.heap.size)
  generalize hAe : va_A [(mo, .inr (8, [.int m_code, .int m_symbols, .ref m_attributes, .ref m_inherits, .int m_productions, .ref m_positions, .ref m_symbolAt, .ref m_form, .ref m_ruleX, .ref m_ruleY, .int m_analysed, .int m_faultKind, .int m_faultProduction, .int m_faultOccurrence, .ref m_uses, .ref m_leads, .ref m_symbolLeads, .ref m_order, .ref m_rank, .ref m_visits, .ref m_length, .ref m_sequence, .ref m_set, .ref m_visited, .int m_nodes, .ref m_production, .ref m_token, .ref m_child, .ref m_parent, .ref m_next, .ref m_known, .ref m_value, .ref m_given, .int m_root, .int m_hand]))] s.heap.size = A at hD hN ⊢
  have hA : ∀ q : Nat, s.heap.size ≤ q → A q := fun q h => by rw [← hAe]; exact Or.inr h
  have hS : va_S A s.heap s.heap [] := va_S.rf
  have hP : va_P (dC, dI) CL [(mo, .inr (8, [.int m_code, .int m_symbols, .ref m_attributes, .ref m_inherits, .int m_productions, .ref m_positions, .ref m_symbolAt, .ref m_form, .ref m_ruleX, .ref m_ruleY, .int m_analysed, .int m_faultKind, .int m_faultProduction, .int m_faultOccurrence, .ref m_uses, .ref m_leads, .ref m_symbolLeads, .ref m_order, .ref m_rank, .ref m_visits, .ref m_length, .ref m_sequence, .ref m_set, .ref m_visited, .int m_nodes, .ref m_production, .ref m_token, .ref m_child, .ref m_parent, .ref m_next, .ref m_known, .ref m_value, .ref m_given, .int m_root, .int m_hand]))] s.heap := hP
  have hD : va_D A [(mo, .inr (8, [.int m_code, .int m_symbols, .ref m_attributes, .ref m_inherits, .int m_productions, .ref m_positions, .ref m_symbolAt, .ref m_form, .ref m_ruleX, .ref m_ruleY, .int m_analysed, .int m_faultKind, .int m_faultProduction, .int m_faultOccurrence, .ref m_uses, .ref m_leads, .ref m_symbolLeads, .ref m_order, .ref m_rank, .ref m_visits, .ref m_length, .ref m_sequence, .ref m_set, .ref m_visited, .int m_nodes, .ref m_production, .ref m_token, .ref m_child, .ref m_parent, .ref m_next, .ref m_known, .ref m_value, .ref m_given, .int m_root, .int m_hand]))] := hD
  have hl := lv_entry ([.ref mo, .int 0, .int (-1), .int (-1)]) (n := 4) (Nat.le_of_ble_eq_true rfl)
  rw [lg_entry_eq]
  generalize (lg_sl ([.ref mo, .int 0, .int (-1), .int (-1)]) ++ List.replicate (4 - (lg_sl ([.ref mo, .int 0, .int (-1), .int (-1)])).length) Slot.unset).toArray = ls at hl ⊢
  have hl : lv_has ls 4 [(0, .ref mo), (1, .int 0), (2, .int (-1)), (3, .int (-1))] := hl
  refine lv_aload_n hx hb d_M_blame_0 rfl (lv_at hl 0 rfl) ?_
  refine lv_iload_n hx hb d_M_blame_1 rfl (lv_at hl 1 rfl) ?_
  refine va_put (D := (dC, dI)) (ci := 8) (v := .int 0) (ty := .int) (C := R_M) (T := F_M) (N := 35) hx hb hts u_M t_M t_M_ok n_M hown hK hP hD hS 0 rfl rfl 11 (by decide) (hts _ k_243) (fun _ h9 => h9) rfl (by decide +kernel) rfl rfl (Nat.le_of_ble_eq_true rfl) d_M_blame_2 (fun H locs hP hD hS => ?_)
  have hP : va_P (dC, dI) CL [(mo, .inr (8, [.int m_code, .int m_symbols, .ref m_attributes, .ref m_inherits, .int m_productions, .ref m_positions, .ref m_symbolAt, .ref m_form, .ref m_ruleX, .ref m_ruleY, .int m_analysed, .int 0, .int m_faultProduction, .int m_faultOccurrence, .ref m_uses, .ref m_leads, .ref m_symbolLeads, .ref m_order, .ref m_rank, .ref m_visits, .ref m_length, .ref m_sequence, .ref m_set, .ref m_visited, .int m_nodes, .ref m_production, .ref m_token, .ref m_child, .ref m_parent, .ref m_next, .ref m_known, .ref m_value, .ref m_given, .int m_root, .int m_hand]))] H := hP
  have hD : va_D A [(mo, .inr (8, [.int m_code, .int m_symbols, .ref m_attributes, .ref m_inherits, .int m_productions, .ref m_positions, .ref m_symbolAt, .ref m_form, .ref m_ruleX, .ref m_ruleY, .int m_analysed, .int 0, .int m_faultProduction, .int m_faultOccurrence, .ref m_uses, .ref m_leads, .ref m_symbolLeads, .ref m_order, .ref m_rank, .ref m_visits, .ref m_length, .ref m_sequence, .ref m_set, .ref m_visited, .int m_nodes, .ref m_production, .ref m_token, .ref m_child, .ref m_parent, .ref m_next, .ref m_known, .ref m_value, .ref m_given, .int m_root, .int m_hand]))] := hD
  refine lv_aload_n hx hb d_M_blame_5 rfl (lv_at hl 0 rfl) ?_
  refine lv_iload_n hx hb d_M_blame_6 rfl (lv_at hl 2 rfl) ?_
  refine va_put (D := (dC, dI)) (ci := 8) (v := .int (-1)) (ty := .int) (C := R_M) (T := F_M) (N := 35) hx hb hts u_M t_M t_M_ok n_M hown hK hP hD hS 0 rfl rfl 12 (by decide) (hts _ k_210) (fun _ h9 => h9) rfl (by decide +kernel) rfl rfl (Nat.le_of_ble_eq_true rfl) d_M_blame_7 (fun H locs hP hD hS => ?_)
  have hP : va_P (dC, dI) CL [(mo, .inr (8, [.int m_code, .int m_symbols, .ref m_attributes, .ref m_inherits, .int m_productions, .ref m_positions, .ref m_symbolAt, .ref m_form, .ref m_ruleX, .ref m_ruleY, .int m_analysed, .int 0, .int (-1), .int m_faultOccurrence, .ref m_uses, .ref m_leads, .ref m_symbolLeads, .ref m_order, .ref m_rank, .ref m_visits, .ref m_length, .ref m_sequence, .ref m_set, .ref m_visited, .int m_nodes, .ref m_production, .ref m_token, .ref m_child, .ref m_parent, .ref m_next, .ref m_known, .ref m_value, .ref m_given, .int m_root, .int m_hand]))] H := hP
  have hD : va_D A [(mo, .inr (8, [.int m_code, .int m_symbols, .ref m_attributes, .ref m_inherits, .int m_productions, .ref m_positions, .ref m_symbolAt, .ref m_form, .ref m_ruleX, .ref m_ruleY, .int m_analysed, .int 0, .int (-1), .int m_faultOccurrence, .ref m_uses, .ref m_leads, .ref m_symbolLeads, .ref m_order, .ref m_rank, .ref m_visits, .ref m_length, .ref m_sequence, .ref m_set, .ref m_visited, .int m_nodes, .ref m_production, .ref m_token, .ref m_child, .ref m_parent, .ref m_next, .ref m_known, .ref m_value, .ref m_given, .int m_root, .int m_hand]))] := hD
  refine lv_aload_n hx hb d_M_blame_10 rfl (lv_at hl 0 rfl) ?_
  refine lv_iload_n hx hb d_M_blame_11 rfl (lv_at hl 3 rfl) ?_
  refine va_put (D := (dC, dI)) (ci := 8) (v := .int (-1)) (ty := .int) (C := R_M) (T := F_M) (N := 35) hx hb hts u_M t_M t_M_ok n_M hown hK hP hD hS 0 rfl rfl 13 (by decide) (hts _ k_211) (fun _ h9 => h9) rfl (by decide +kernel) rfl rfl (Nat.le_of_ble_eq_true rfl) d_M_blame_12 (fun H locs hP hD hS => ?_)
  have hP : va_P (dC, dI) CL [(mo, .inr (8, [.int m_code, .int m_symbols, .ref m_attributes, .ref m_inherits, .int m_productions, .ref m_positions, .ref m_symbolAt, .ref m_form, .ref m_ruleX, .ref m_ruleY, .int m_analysed, .int 0, .int (-1), .int (-1), .ref m_uses, .ref m_leads, .ref m_symbolLeads, .ref m_order, .ref m_rank, .ref m_visits, .ref m_length, .ref m_sequence, .ref m_set, .ref m_visited, .int m_nodes, .ref m_production, .ref m_token, .ref m_child, .ref m_parent, .ref m_next, .ref m_known, .ref m_value, .ref m_given, .int m_root, .int m_hand]))] H := hP
  have hD : va_D A [(mo, .inr (8, [.int m_code, .int m_symbols, .ref m_attributes, .ref m_inherits, .int m_productions, .ref m_positions, .ref m_symbolAt, .ref m_form, .ref m_ruleX, .ref m_ruleY, .int m_analysed, .int 0, .int (-1), .int (-1), .ref m_uses, .ref m_leads, .ref m_symbolLeads, .ref m_order, .ref m_rank, .ref m_visits, .ref m_length, .ref m_sequence, .ref m_set, .ref m_visited, .int m_nodes, .ref m_production, .ref m_token, .ref m_child, .ref m_parent, .ref m_next, .ref m_known, .ref m_value, .ref m_given, .int m_root, .int m_hand]))] := hD
  refine lv_iconst (v := 1) hx hb d_M_blame_15 (by decide) ?_
  have hP9 := hP.sub (ws' := [(mo, .inr (8, [.int m_code, .int m_symbols, .ref m_attributes, .ref m_inherits, .int m_productions, .ref m_positions, .ref m_symbolAt, .ref m_form, .ref m_ruleX, .ref m_ruleY, .int m_analysed, .int 0, .int (-1), .int (-1), .ref m_uses, .ref m_leads, .ref m_symbolLeads, .ref m_order, .ref m_rank, .ref m_visits, .ref m_length, .ref m_sequence, .ref m_set, .ref m_visited, .int m_nodes, .ref m_production, .ref m_token, .ref m_child, .ref m_parent, .ref m_next, .ref m_known, .ref m_value, .ref m_given, .int m_root, .int m_hand]))]) [0] rfl
  have hD9 := hD.sub (ws' := [(mo, .inr (8, [.int m_code, .int m_symbols, .ref m_attributes, .ref m_inherits, .int m_productions, .ref m_positions, .ref m_symbolAt, .ref m_form, .ref m_ruleX, .ref m_ruleY, .int m_analysed, .int 0, .int (-1), .int (-1), .ref m_uses, .ref m_leads, .ref m_symbolLeads, .ref m_order, .ref m_rank, .ref m_visits, .ref m_length, .ref m_sequence, .ref m_set, .ref m_visited, .int m_nodes, .ref m_production, .ref m_token, .ref m_child, .ref m_parent, .ref m_next, .ref m_known, .ref m_value, .ref m_given, .int m_root, .int m_hand]))]) [0] (by decide) rfl
  have hK9 := hK.sub (tys' := []) [] rfl
  refine W.widen (k := 0) (n := 0) (by decide) (by decide) ?_
  exact W.zret (v := 1) (ty := .boolean) hx hb hr (by decide) (fun t ht hW => ⟨⟨1, (), rfl, rfl, by rw [ht]; exact hP9, va_K.moved hW.alike hK9, hD9⟩, hS.F ht⟩) hS.2.2 d_M_blame_16

set_option maxHeartbeats 4000000 in
set_option maxRecDepth 100000 in
theorem c_M_isSymbol (l : Launch) (htr : l.stackTraces = false) (dC : Nat → ClassId) (dI : Nat → Nat → Nat) (mo : Nat) (k : Int32) (m_attributes : Nat) (m_inherits : Nat) (m_positions : Nat) (m_symbolAt : Nat) (m_form : Nat) (m_ruleX : Nat) (m_ruleY : Nat) (m_uses : Nat) (m_leads : Nat) (m_symbolLeads : Nat) (m_order : Nat) (m_rank : Nat) (m_visits : Nat) (m_length : Nat) (m_sequence : Nat) (m_set : Nat) (m_visited : Nat) (m_production : Nat) (m_token : Nat) (m_child : Nat) (m_parent : Nat) (m_next : Nat) (m_known : Nat) (m_value : Nat) (m_given : Nat) (sz : Nat) : Met l y_M_isSymbol WS ({ frames := 0, cells := 0, slots := 0, locals := 0 }) (va_Pc [.ref mo, .int k] (vq_Pre (dC, dI) CL sz [(mo, .inr (8, [.int 0, .int 0, .ref m_attributes, .ref m_inherits, .int 0, .ref m_positions, .ref m_symbolAt, .ref m_form, .ref m_ruleX, .ref m_ruleY, .int 0, .int 0, .int (-1), .int (-1), .ref m_uses, .ref m_leads, .ref m_symbolLeads, .ref m_order, .ref m_rank, .ref m_visits, .ref m_length, .ref m_sequence, .ref m_set, .ref m_visited, .int 0, .ref m_production, .ref m_token, .ref m_child, .ref m_parent, .ref m_next, .ref m_known, .ref m_value, .ref m_given, .int (-1), .int (-1)]))] [])) (va_Qi (fun (r : Int32) (_ : Unit) => r = 0) (fun _ t => vq_Post (dC, dI) CL (va_A [(mo, .inr (8, [.int 0, .int 0, .ref m_attributes, .ref m_inherits, .int 0, .ref m_positions, .ref m_symbolAt, .ref m_form, .ref m_ruleX, .ref m_ruleY, .int 0, .int 0, .int (-1), .int (-1), .ref m_uses, .ref m_leads, .ref m_symbolLeads, .ref m_order, .ref m_rank, .ref m_visits, .ref m_length, .ref m_sequence, .ref m_set, .ref m_visited, .int 0, .ref m_production, .ref m_token, .ref m_child, .ref m_parent, .ref m_next, .ref m_known, .ref m_value, .ref m_given, .int (-1), .int (-1)]))] sz) [(mo, .inr (8, [.int 0, .int 0, .ref m_attributes, .ref m_inherits, .int 0, .ref m_positions, .ref m_symbolAt, .ref m_form, .ref m_ruleX, .ref m_ruleY, .int 0, .int 0, .int (-1), .int (-1), .ref m_uses, .ref m_leads, .ref m_symbolLeads, .ref m_order, .ref m_rank, .ref m_visits, .ref m_length, .ref m_sequence, .ref m_set, .ref m_visited, .int 0, .ref m_production, .ref m_token, .ref m_child, .ref m_parent, .ref m_next, .ref m_known, .ref m_value, .ref m_given, .int (-1), .int (-1)]))] [] t) (va_A [(mo, .inr (8, [.int 0, .int 0, .ref m_attributes, .ref m_inherits, .int 0, .ref m_positions, .ref m_symbolAt, .ref m_form, .ref m_ruleX, .ref m_ruleY, .int 0, .int 0, .int (-1), .int (-1), .ref m_uses, .ref m_leads, .ref m_symbolLeads, .ref m_order, .ref m_rank, .ref m_visits, .ref m_length, .ref m_sequence, .ref m_set, .ref m_visited, .int 0, .ref m_production, .ref m_token, .ref m_child, .ref m_parent, .ref m_next, .ref m_known, .ref m_value, .ref m_given, .int (-1), .int (-1)]))] sz)) 0 0 (va_A [(mo, .inr (8, [.int 0, .int 0, .ref m_attributes, .ref m_inherits, .int 0, .ref m_positions, .ref m_symbolAt, .ref m_form, .ref m_ruleX, .ref m_ruleY, .int 0, .int 0, .int (-1), .int (-1), .ref m_uses, .ref m_leads, .ref m_symbolLeads, .ref m_order, .ref m_rank, .ref m_visits, .ref m_length, .ref m_sequence, .ref m_set, .ref m_visited, .int 0, .ref m_production, .ref m_token, .ref m_child, .ref m_parent, .ref m_next, .ref m_known, .ref m_value, .ref m_given, .int (-1), .int (-1)]))] sz) := by
  refine vq_ofW (cc := prog_10_method_7_code) (maxL := 2) (ret := (Option.some Jvm.ClassFile.FieldType.boolean)) (by decide) (vq_his k_244) ?_
  intro p e s m args below meth c s₁ B hml hv
  obtain ⟨rfl, hst, hsz, hP, hK, hD0⟩ := hv
  have hx := B.exec
  have hb := B.bytes
  have hr := B.returns
  have hts := atoms_spec (ws := WS) B.pre
  have hown : s.vm.findClass R_M = some m.cls := findClass_of_methodNamed B.named
  have hlocks := B.notSynchronized
  have hno := vq_noH B (hts _ k_244)
  subst hsz
  have hN := vq_ns hP
  have hD := hD0.self (sz := s.heap.size)
  generalize hAe : va_A [(mo, .inr (8, [.int 0, .int 0, .ref m_attributes, .ref m_inherits, .int 0, .ref m_positions, .ref m_symbolAt, .ref m_form, .ref m_ruleX, .ref m_ruleY, .int 0, .int 0, .int (-1), .int (-1), .ref m_uses, .ref m_leads, .ref m_symbolLeads, .ref m_order, .ref m_rank, .ref m_visits, .ref m_length, .ref m_sequence, .ref m_set, .ref m_visited, .int 0, .ref m_production, .ref m_token, .ref m_child, .ref m_parent, .ref m_next, .ref m_known, .ref m_value, .ref m_given, .int (-1), .int (-1)]))] s.heap.size = A at hD hN ⊢
  have hA : ∀ q : Nat, s.heap.size ≤ q → A q := fun q h => by rw [← hAe]; exact Or.inr h
  have hS : va_S A s.heap s.heap [] := va_S.rf
  have hP : va_P (dC, dI) CL [(mo, .inr (8, [.int 0, .int 0, .ref m_attributes, .ref m_inherits, .int 0, .ref m_positions, .ref m_symbolAt, .ref m_form, .ref m_ruleX, .ref m_ruleY, .int 0, .int 0, .int (-1), .int (-1), .ref m_uses, .ref m_leads, .ref m_symbolLeads, .ref m_order, .ref m_rank, .ref m_visits, .ref m_length, .ref m_sequence, .ref m_set, .ref m_visited, .int 0, .ref m_production, .ref m_token, .ref m_child, .ref m_parent, .ref m_next, .ref m_known, .ref m_value, .ref m_given, .int (-1), .int (-1)]))] s.heap := hP
  have hD : va_D A [(mo, .inr (8, [.int 0, .int 0, .ref m_attributes, .ref m_inherits, .int 0, .ref m_positions, .ref m_symbolAt, .ref m_form, .ref m_ruleX, .ref m_ruleY, .int 0, .int 0, .int (-1), .int (-1), .ref m_uses, .ref m_leads, .ref m_symbolLeads, .ref m_order, .ref m_rank, .ref m_visits, .ref m_length, .ref m_sequence, .ref m_set, .ref m_visited, .int 0, .ref m_production, .ref m_token, .ref m_child, .ref m_parent, .ref m_next, .ref m_known, .ref m_value, .ref m_given, .int (-1), .int (-1)]))] := hD
  have hl := lv_entry ([.ref mo, .int k]) (n := 2) (Nat.le_of_ble_eq_true rfl)
  rw [lg_entry_eq]
  generalize (lg_sl ([.ref mo, .int k]) ++ List.replicate (2 - (lg_sl ([.ref mo, .int k])).length) Slot.unset).toArray = ls at hl ⊢
  have hl : lv_has ls 2 [(0, .ref mo), (1, .int k)] := hl
  refine lv_iload_n hx hb d_M_isSymbol_0 rfl (lv_at hl 1 rfl) ?_
  refine lv_if_lt (tgt := 16) hx hb d_M_isSymbol_1 (by decide) (fun hc1 => ?_) (fun hc1 => ?_)
  ·
    refine lv_iconst (v := 0) hx hb d_M_isSymbol_16 (by decide) ?_
    have hP9 := hP.sub (ws' := [(mo, .inr (8, [.int 0, .int 0, .ref m_attributes, .ref m_inherits, .int 0, .ref m_positions, .ref m_symbolAt, .ref m_form, .ref m_ruleX, .ref m_ruleY, .int 0, .int 0, .int (-1), .int (-1), .ref m_uses, .ref m_leads, .ref m_symbolLeads, .ref m_order, .ref m_rank, .ref m_visits, .ref m_length, .ref m_sequence, .ref m_set, .ref m_visited, .int 0, .ref m_production, .ref m_token, .ref m_child, .ref m_parent, .ref m_next, .ref m_known, .ref m_value, .ref m_given, .int (-1), .int (-1)]))]) [0] rfl
    have hD9 := hD.sub (ws' := [(mo, .inr (8, [.int 0, .int 0, .ref m_attributes, .ref m_inherits, .int 0, .ref m_positions, .ref m_symbolAt, .ref m_form, .ref m_ruleX, .ref m_ruleY, .int 0, .int 0, .int (-1), .int (-1), .ref m_uses, .ref m_leads, .ref m_symbolLeads, .ref m_order, .ref m_rank, .ref m_visits, .ref m_length, .ref m_sequence, .ref m_set, .ref m_visited, .int 0, .ref m_production, .ref m_token, .ref m_child, .ref m_parent, .ref m_next, .ref m_known, .ref m_value, .ref m_given, .int (-1), .int (-1)]))]) [0] (by decide) rfl
    have hK9 := hK.sub (tys' := []) [] rfl
    refine W.widen (k := 0) (n := 0) (by decide) (by decide) ?_
    exact W.zret (v := 0) (ty := .boolean) hx hb hr (by decide) (fun t ht hW => ⟨⟨0, (), rfl, rfl, by rw [ht]; exact hP9, va_K.moved hW.alike hK9, hD9⟩, hS.F ht⟩) hS.2.2 d_M_isSymbol_17
  ·
    refine lv_iload_n hx hb d_M_isSymbol_4 rfl (lv_at hl 1 rfl) ?_
    refine lv_aload_n hx hb d_M_isSymbol_5 rfl (lv_at hl 0 rfl) ?_
    refine va_get (D := (dC, dI)) (ci := 8) (v := .int 0) (C := R_M) (T := F_M) (N := 35) hx hb hts u_M hown hK hP 0 rfl rfl 1 (by decide) (hts _ k_245) (fun _ h9 => h9) rfl d_M_isSymbol_6 ?_
    refine lv_icmp_ge (tgt := 16) hx hb d_M_isSymbol_9 (by decide) (fun _ => ?_) (fun h9 => absurd (Int32.not_lt.mp hc1) h9)
    refine lv_iconst (v := 0) hx hb d_M_isSymbol_16 (by decide) ?_
    have hP9 := hP.sub (ws' := [(mo, .inr (8, [.int 0, .int 0, .ref m_attributes, .ref m_inherits, .int 0, .ref m_positions, .ref m_symbolAt, .ref m_form, .ref m_ruleX, .ref m_ruleY, .int 0, .int 0, .int (-1), .int (-1), .ref m_uses, .ref m_leads, .ref m_symbolLeads, .ref m_order, .ref m_rank, .ref m_visits, .ref m_length, .ref m_sequence, .ref m_set, .ref m_visited, .int 0, .ref m_production, .ref m_token, .ref m_child, .ref m_parent, .ref m_next, .ref m_known, .ref m_value, .ref m_given, .int (-1), .int (-1)]))]) [0] rfl
    have hD9 := hD.sub (ws' := [(mo, .inr (8, [.int 0, .int 0, .ref m_attributes, .ref m_inherits, .int 0, .ref m_positions, .ref m_symbolAt, .ref m_form, .ref m_ruleX, .ref m_ruleY, .int 0, .int 0, .int (-1), .int (-1), .ref m_uses, .ref m_leads, .ref m_symbolLeads, .ref m_order, .ref m_rank, .ref m_visits, .ref m_length, .ref m_sequence, .ref m_set, .ref m_visited, .int 0, .ref m_production, .ref m_token, .ref m_child, .ref m_parent, .ref m_next, .ref m_known, .ref m_value, .ref m_given, .int (-1), .int (-1)]))]) [0] (by decide) rfl
    have hK9 := hK.sub (tys' := []) [] rfl
    refine W.widen (k := 0) (n := 0) (by decide) (by decide) ?_
    exact W.zret (v := 0) (ty := .boolean) hx hb hr (by decide) (fun t ht hW => ⟨⟨0, (), rfl, rfl, by rw [ht]; exact hP9, va_K.moved hW.alike hK9, hD9⟩, hS.F ht⟩) hS.2.2 d_M_isSymbol_17

set_option maxHeartbeats 4000000 in
set_option maxRecDepth 100000 in
theorem c_M_isNode (l : Launch) (htr : l.stackTraces = false) (dC : Nat → ClassId) (dI : Nat → Nat → Nat) (mo : Nat) (k : Int32) (m_attributes : Nat) (m_inherits : Nat) (m_positions : Nat) (m_symbolAt : Nat) (m_form : Nat) (m_ruleX : Nat) (m_ruleY : Nat) (m_uses : Nat) (m_leads : Nat) (m_symbolLeads : Nat) (m_order : Nat) (m_rank : Nat) (m_visits : Nat) (m_length : Nat) (m_sequence : Nat) (m_set : Nat) (m_visited : Nat) (m_production : Nat) (m_token : Nat) (m_child : Nat) (m_parent : Nat) (m_next : Nat) (m_known : Nat) (m_value : Nat) (m_given : Nat) (sz : Nat) : Met l y_M_isNode WS ({ frames := 0, cells := 0, slots := 0, locals := 0 }) (va_Pc [.ref mo, .int k] (vq_Pre (dC, dI) CL sz [(mo, .inr (8, [.int 0, .int 0, .ref m_attributes, .ref m_inherits, .int 0, .ref m_positions, .ref m_symbolAt, .ref m_form, .ref m_ruleX, .ref m_ruleY, .int 0, .int 0, .int (-1), .int (-1), .ref m_uses, .ref m_leads, .ref m_symbolLeads, .ref m_order, .ref m_rank, .ref m_visits, .ref m_length, .ref m_sequence, .ref m_set, .ref m_visited, .int 0, .ref m_production, .ref m_token, .ref m_child, .ref m_parent, .ref m_next, .ref m_known, .ref m_value, .ref m_given, .int (-1), .int (-1)]))] [])) (va_Qi (fun (r : Int32) (_ : Unit) => r = 0) (fun _ t => vq_Post (dC, dI) CL (va_A [(mo, .inr (8, [.int 0, .int 0, .ref m_attributes, .ref m_inherits, .int 0, .ref m_positions, .ref m_symbolAt, .ref m_form, .ref m_ruleX, .ref m_ruleY, .int 0, .int 0, .int (-1), .int (-1), .ref m_uses, .ref m_leads, .ref m_symbolLeads, .ref m_order, .ref m_rank, .ref m_visits, .ref m_length, .ref m_sequence, .ref m_set, .ref m_visited, .int 0, .ref m_production, .ref m_token, .ref m_child, .ref m_parent, .ref m_next, .ref m_known, .ref m_value, .ref m_given, .int (-1), .int (-1)]))] sz) [(mo, .inr (8, [.int 0, .int 0, .ref m_attributes, .ref m_inherits, .int 0, .ref m_positions, .ref m_symbolAt, .ref m_form, .ref m_ruleX, .ref m_ruleY, .int 0, .int 0, .int (-1), .int (-1), .ref m_uses, .ref m_leads, .ref m_symbolLeads, .ref m_order, .ref m_rank, .ref m_visits, .ref m_length, .ref m_sequence, .ref m_set, .ref m_visited, .int 0, .ref m_production, .ref m_token, .ref m_child, .ref m_parent, .ref m_next, .ref m_known, .ref m_value, .ref m_given, .int (-1), .int (-1)]))] [] t) (va_A [(mo, .inr (8, [.int 0, .int 0, .ref m_attributes, .ref m_inherits, .int 0, .ref m_positions, .ref m_symbolAt, .ref m_form, .ref m_ruleX, .ref m_ruleY, .int 0, .int 0, .int (-1), .int (-1), .ref m_uses, .ref m_leads, .ref m_symbolLeads, .ref m_order, .ref m_rank, .ref m_visits, .ref m_length, .ref m_sequence, .ref m_set, .ref m_visited, .int 0, .ref m_production, .ref m_token, .ref m_child, .ref m_parent, .ref m_next, .ref m_known, .ref m_value, .ref m_given, .int (-1), .int (-1)]))] sz)) 0 0 (va_A [(mo, .inr (8, [.int 0, .int 0, .ref m_attributes, .ref m_inherits, .int 0, .ref m_positions, .ref m_symbolAt, .ref m_form, .ref m_ruleX, .ref m_ruleY, .int 0, .int 0, .int (-1), .int (-1), .ref m_uses, .ref m_leads, .ref m_symbolLeads, .ref m_order, .ref m_rank, .ref m_visits, .ref m_length, .ref m_sequence, .ref m_set, .ref m_visited, .int 0, .ref m_production, .ref m_token, .ref m_child, .ref m_parent, .ref m_next, .ref m_known, .ref m_value, .ref m_given, .int (-1), .int (-1)]))] sz) := by
  refine vq_ofW (cc := prog_10_method_39_code) (maxL := 2) (ret := (Option.some Jvm.ClassFile.FieldType.boolean)) (by decide) (vq_his k_246) ?_
  intro p e s m args below meth c s₁ B hml hv
  obtain ⟨rfl, hst, hsz, hP, hK, hD0⟩ := hv
  have hx := B.exec
  have hb := B.bytes
  have hr := B.returns
  have hts := atoms_spec (ws := WS) B.pre
  have hown : s.vm.findClass R_M = some m.cls := findClass_of_methodNamed B.named
  have hlocks := B.notSynchronized
  have hno := vq_noH B (hts _ k_246)
  subst hsz
  have hN := vq_ns hP
  have hD := hD0.self (sz := s.heap.size)
  generalize hAe : va_A [(mo, .inr (8, [.int 0, .int 0, .ref m_attributes, .ref m_inherits, .int 0, .ref m_positions, .ref m_symbolAt, .ref m_form, .ref m_ruleX, .ref m_ruleY, .int 0, .int 0, .int (-1), .int (-1), .ref m_uses, .ref m_leads, .ref m_symbolLeads, .ref m_order, .ref m_rank, .ref m_visits, .ref m_length, .ref m_sequence, .ref m_set, .ref m_visited, .int 0, .ref m_production, .ref m_token, .ref m_child, .ref m_parent, .ref m_next, .ref m_known, .ref m_value, .ref m_given, .int (-1), .int (-1)]))] s.heap.size = A at hD hN ⊢
  have hA : ∀ q : Nat, s.heap.size ≤ q → A q := fun q h => by rw [← hAe]; exact Or.inr h
  have hS : va_S A s.heap s.heap [] := va_S.rf
  have hP : va_P (dC, dI) CL [(mo, .inr (8, [.int 0, .int 0, .ref m_attributes, .ref m_inherits, .int 0, .ref m_positions, .ref m_symbolAt, .ref m_form, .ref m_ruleX, .ref m_ruleY, .int 0, .int 0, .int (-1), .int (-1), .ref m_uses, .ref m_leads, .ref m_symbolLeads, .ref m_order, .ref m_rank, .ref m_visits, .ref m_length, .ref m_sequence, .ref m_set, .ref m_visited, .int 0, .ref m_production, .ref m_token, .ref m_child, .ref m_parent, .ref m_next, .ref m_known, .ref m_value, .ref m_given, .int (-1), .int (-1)]))] s.heap := hP
  have hD : va_D A [(mo, .inr (8, [.int 0, .int 0, .ref m_attributes, .ref m_inherits, .int 0, .ref m_positions, .ref m_symbolAt, .ref m_form, .ref m_ruleX, .ref m_ruleY, .int 0, .int 0, .int (-1), .int (-1), .ref m_uses, .ref m_leads, .ref m_symbolLeads, .ref m_order, .ref m_rank, .ref m_visits, .ref m_length, .ref m_sequence, .ref m_set, .ref m_visited, .int 0, .ref m_production, .ref m_token, .ref m_child, .ref m_parent, .ref m_next, .ref m_known, .ref m_value, .ref m_given, .int (-1), .int (-1)]))] := hD
  have hl := lv_entry ([.ref mo, .int k]) (n := 2) (Nat.le_of_ble_eq_true rfl)
  rw [lg_entry_eq]
  generalize (lg_sl ([.ref mo, .int k]) ++ List.replicate (2 - (lg_sl ([.ref mo, .int k])).length) Slot.unset).toArray = ls at hl ⊢
  have hl : lv_has ls 2 [(0, .ref mo), (1, .int k)] := hl
  refine lv_iload_n hx hb d_M_isNode_0 rfl (lv_at hl 1 rfl) ?_
  refine lv_if_lt (tgt := 16) hx hb d_M_isNode_1 (by decide) (fun hc1 => ?_) (fun hc1 => ?_)
  ·
    refine lv_iconst (v := 0) hx hb d_M_isNode_16 (by decide) ?_
    have hP9 := hP.sub (ws' := [(mo, .inr (8, [.int 0, .int 0, .ref m_attributes, .ref m_inherits, .int 0, .ref m_positions, .ref m_symbolAt, .ref m_form, .ref m_ruleX, .ref m_ruleY, .int 0, .int 0, .int (-1), .int (-1), .ref m_uses, .ref m_leads, .ref m_symbolLeads, .ref m_order, .ref m_rank, .ref m_visits, .ref m_length, .ref m_sequence, .ref m_set, .ref m_visited, .int 0, .ref m_production, .ref m_token, .ref m_child, .ref m_parent, .ref m_next, .ref m_known, .ref m_value, .ref m_given, .int (-1), .int (-1)]))]) [0] rfl
    have hD9 := hD.sub (ws' := [(mo, .inr (8, [.int 0, .int 0, .ref m_attributes, .ref m_inherits, .int 0, .ref m_positions, .ref m_symbolAt, .ref m_form, .ref m_ruleX, .ref m_ruleY, .int 0, .int 0, .int (-1), .int (-1), .ref m_uses, .ref m_leads, .ref m_symbolLeads, .ref m_order, .ref m_rank, .ref m_visits, .ref m_length, .ref m_sequence, .ref m_set, .ref m_visited, .int 0, .ref m_production, .ref m_token, .ref m_child, .ref m_parent, .ref m_next, .ref m_known, .ref m_value, .ref m_given, .int (-1), .int (-1)]))]) [0] (by decide) rfl
    have hK9 := hK.sub (tys' := []) [] rfl
    refine W.widen (k := 0) (n := 0) (by decide) (by decide) ?_
    exact W.zret (v := 0) (ty := .boolean) hx hb hr (by decide) (fun t ht hW => ⟨⟨0, (), rfl, rfl, by rw [ht]; exact hP9, va_K.moved hW.alike hK9, hD9⟩, hS.F ht⟩) hS.2.2 d_M_isNode_17
  ·
    refine lv_iload_n hx hb d_M_isNode_4 rfl (lv_at hl 1 rfl) ?_
    refine lv_aload_n hx hb d_M_isNode_5 rfl (lv_at hl 0 rfl) ?_
    refine va_get (D := (dC, dI)) (ci := 8) (v := .int 0) (C := R_M) (T := F_M) (N := 35) hx hb hts u_M hown hK hP 0 rfl rfl 24 (by decide) (hts _ k_247) (fun _ h9 => h9) rfl d_M_isNode_6 ?_
    refine lv_icmp_ge (tgt := 16) hx hb d_M_isNode_9 (by decide) (fun _ => ?_) (fun h9 => absurd (Int32.not_lt.mp hc1) h9)
    refine lv_iconst (v := 0) hx hb d_M_isNode_16 (by decide) ?_
    have hP9 := hP.sub (ws' := [(mo, .inr (8, [.int 0, .int 0, .ref m_attributes, .ref m_inherits, .int 0, .ref m_positions, .ref m_symbolAt, .ref m_form, .ref m_ruleX, .ref m_ruleY, .int 0, .int 0, .int (-1), .int (-1), .ref m_uses, .ref m_leads, .ref m_symbolLeads, .ref m_order, .ref m_rank, .ref m_visits, .ref m_length, .ref m_sequence, .ref m_set, .ref m_visited, .int 0, .ref m_production, .ref m_token, .ref m_child, .ref m_parent, .ref m_next, .ref m_known, .ref m_value, .ref m_given, .int (-1), .int (-1)]))]) [0] rfl
    have hD9 := hD.sub (ws' := [(mo, .inr (8, [.int 0, .int 0, .ref m_attributes, .ref m_inherits, .int 0, .ref m_positions, .ref m_symbolAt, .ref m_form, .ref m_ruleX, .ref m_ruleY, .int 0, .int 0, .int (-1), .int (-1), .ref m_uses, .ref m_leads, .ref m_symbolLeads, .ref m_order, .ref m_rank, .ref m_visits, .ref m_length, .ref m_sequence, .ref m_set, .ref m_visited, .int 0, .ref m_production, .ref m_token, .ref m_child, .ref m_parent, .ref m_next, .ref m_known, .ref m_value, .ref m_given, .int (-1), .int (-1)]))]) [0] (by decide) rfl
    have hK9 := hK.sub (tys' := []) [] rfl
    refine W.widen (k := 0) (n := 0) (by decide) (by decide) ?_
    exact W.zret (v := 0) (ty := .boolean) hx hb hr (by decide) (fun t ht hW => ⟨⟨0, (), rfl, rfl, by rw [ht]; exact hP9, va_K.moved hW.alike hK9, hD9⟩, hS.F ht⟩) hS.2.2 d_M_isNode_17

set_option maxHeartbeats 4000000 in
set_option maxRecDepth 100000 in
theorem c_M_isAttribute (l : Launch) (htr : l.stackTraces = false) (dC : Nat → ClassId) (dI : Nat → Nat → Nat) (mo : Nat) (k : Int32) (j : Int32) (m_attributes : Nat) (m_inherits : Nat) (m_positions : Nat) (m_symbolAt : Nat) (m_form : Nat) (m_ruleX : Nat) (m_ruleY : Nat) (m_uses : Nat) (m_leads : Nat) (m_symbolLeads : Nat) (m_order : Nat) (m_rank : Nat) (m_visits : Nat) (m_length : Nat) (m_sequence : Nat) (m_set : Nat) (m_visited : Nat) (m_production : Nat) (m_token : Nat) (m_child : Nat) (m_parent : Nat) (m_next : Nat) (m_known : Nat) (m_value : Nat) (m_given : Nat) (sz : Nat) : Met l y_M_isAttribute WS ({ frames := 1, cells := 0, slots := 0, locals := 21 }) (va_Pc [.ref mo, .int k, .int j] (vq_Pre (dC, dI) CL sz [(mo, .inr (8, [.int 0, .int 0, .ref m_attributes, .ref m_inherits, .int 0, .ref m_positions, .ref m_symbolAt, .ref m_form, .ref m_ruleX, .ref m_ruleY, .int 0, .int 0, .int (-1), .int (-1), .ref m_uses, .ref m_leads, .ref m_symbolLeads, .ref m_order, .ref m_rank, .ref m_visits, .ref m_length, .ref m_sequence, .ref m_set, .ref m_visited, .int 0, .ref m_production, .ref m_token, .ref m_child, .ref m_parent, .ref m_next, .ref m_known, .ref m_value, .ref m_given, .int (-1), .int (-1)]))] [])) (va_Qi (fun (r : Int32) (_ : Unit) => r = 0) (fun _ t => vq_Post (dC, dI) CL (va_A [(mo, .inr (8, [.int 0, .int 0, .ref m_attributes, .ref m_inherits, .int 0, .ref m_positions, .ref m_symbolAt, .ref m_form, .ref m_ruleX, .ref m_ruleY, .int 0, .int 0, .int (-1), .int (-1), .ref m_uses, .ref m_leads, .ref m_symbolLeads, .ref m_order, .ref m_rank, .ref m_visits, .ref m_length, .ref m_sequence, .ref m_set, .ref m_visited, .int 0, .ref m_production, .ref m_token, .ref m_child, .ref m_parent, .ref m_next, .ref m_known, .ref m_value, .ref m_given, .int (-1), .int (-1)]))] sz) [(mo, .inr (8, [.int 0, .int 0, .ref m_attributes, .ref m_inherits, .int 0, .ref m_positions, .ref m_symbolAt, .ref m_form, .ref m_ruleX, .ref m_ruleY, .int 0, .int 0, .int (-1), .int (-1), .ref m_uses, .ref m_leads, .ref m_symbolLeads, .ref m_order, .ref m_rank, .ref m_visits, .ref m_length, .ref m_sequence, .ref m_set, .ref m_visited, .int 0, .ref m_production, .ref m_token, .ref m_child, .ref m_parent, .ref m_next, .ref m_known, .ref m_value, .ref m_given, .int (-1), .int (-1)]))] [] t) (va_A [(mo, .inr (8, [.int 0, .int 0, .ref m_attributes, .ref m_inherits, .int 0, .ref m_positions, .ref m_symbolAt, .ref m_form, .ref m_ruleX, .ref m_ruleY, .int 0, .int 0, .int (-1), .int (-1), .ref m_uses, .ref m_leads, .ref m_symbolLeads, .ref m_order, .ref m_rank, .ref m_visits, .ref m_length, .ref m_sequence, .ref m_set, .ref m_visited, .int 0, .ref m_production, .ref m_token, .ref m_child, .ref m_parent, .ref m_next, .ref m_known, .ref m_value, .ref m_given, .int (-1), .int (-1)]))] sz)) 0 0 (va_A [(mo, .inr (8, [.int 0, .int 0, .ref m_attributes, .ref m_inherits, .int 0, .ref m_positions, .ref m_symbolAt, .ref m_form, .ref m_ruleX, .ref m_ruleY, .int 0, .int 0, .int (-1), .int (-1), .ref m_uses, .ref m_leads, .ref m_symbolLeads, .ref m_order, .ref m_rank, .ref m_visits, .ref m_length, .ref m_sequence, .ref m_set, .ref m_visited, .int 0, .ref m_production, .ref m_token, .ref m_child, .ref m_parent, .ref m_next, .ref m_known, .ref m_value, .ref m_given, .int (-1), .int (-1)]))] sz) := by
  refine vq_ofW (cc := prog_10_method_47_code) (maxL := 3) (ret := (Option.some Jvm.ClassFile.FieldType.boolean)) (by decide) (vq_his k_248) ?_
  intro p e s m args below meth c s₁ B hml hv
  obtain ⟨rfl, hst, hsz, hP, hK, hD0⟩ := hv
  have hx := B.exec
  have hb := B.bytes
  have hr := B.returns
  have hts := atoms_spec (ws := WS) B.pre
  have hown : s.vm.findClass R_M = some m.cls := findClass_of_methodNamed B.named
  have hlocks := B.notSynchronized
  have hno := vq_noH B (hts _ k_248)
  subst hsz
  have hN := vq_ns hP
  have hD := hD0.self (sz := s.heap.size)
  generalize hAe : va_A [(mo, .inr (8, [.int 0, .int 0, .ref m_attributes, .ref m_inherits, .int 0, .ref m_positions, .ref m_symbolAt, .ref m_form, .ref m_ruleX, .ref m_ruleY, .int 0, .int 0, .int (-1), .int (-1), .ref m_uses, .ref m_leads, .ref m_symbolLeads, .ref m_order, .ref m_rank, .ref m_visits, .ref m_length, .ref m_sequence, .ref m_set, .ref m_visited, .int 0, .ref m_production, .ref m_token, .ref m_child, .ref m_parent, .ref m_next, .ref m_known, .ref m_value, .ref m_given, .int (-1), .int (-1)]))] s.heap.size = A at hD hN ⊢
  have hA : ∀ q : Nat, s.heap.size ≤ q → A q := fun q h => by rw [← hAe]; exact Or.inr h
  have hS : va_S A s.heap s.heap [] := va_S.rf
  have hP : va_P (dC, dI) CL [(mo, .inr (8, [.int 0, .int 0, .ref m_attributes, .ref m_inherits, .int 0, .ref m_positions, .ref m_symbolAt, .ref m_form, .ref m_ruleX, .ref m_ruleY, .int 0, .int 0, .int (-1), .int (-1), .ref m_uses, .ref m_leads, .ref m_symbolLeads, .ref m_order, .ref m_rank, .ref m_visits, .ref m_length, .ref m_sequence, .ref m_set, .ref m_visited, .int 0, .ref m_production, .ref m_token, .ref m_child, .ref m_parent, .ref m_next, .ref m_known, .ref m_value, .ref m_given, .int (-1), .int (-1)]))] s.heap := hP
  have hD : va_D A [(mo, .inr (8, [.int 0, .int 0, .ref m_attributes, .ref m_inherits, .int 0, .ref m_positions, .ref m_symbolAt, .ref m_form, .ref m_ruleX, .ref m_ruleY, .int 0, .int 0, .int (-1), .int (-1), .ref m_uses, .ref m_leads, .ref m_symbolLeads, .ref m_order, .ref m_rank, .ref m_visits, .ref m_length, .ref m_sequence, .ref m_set, .ref m_visited, .int 0, .ref m_production, .ref m_token, .ref m_child, .ref m_parent, .ref m_next, .ref m_known, .ref m_value, .ref m_given, .int (-1), .int (-1)]))] := hD
  have hl := lv_entry ([.ref mo, .int k, .int j]) (n := 3) (Nat.le_of_ble_eq_true rfl)
  rw [lg_entry_eq]
  generalize (lg_sl ([.ref mo, .int k, .int j]) ++ List.replicate (3 - (lg_sl ([.ref mo, .int k, .int j])).length) Slot.unset).toArray = ls at hl ⊢
  have hl : lv_has ls 3 [(0, .ref mo), (1, .int k), (2, .int j)] := hl
  refine lv_aload_n hx hb d_M_isAttribute_0 rfl (lv_at hl 0 rfl) ?_
  refine lv_iload_n hx hb d_M_isAttribute_1 rfl (lv_at hl 1 rfl) ?_
  have hPc := hP.sub (ws' := [(mo, .inr (8, [.int 0, .int 0, .ref m_attributes, .ref m_inherits, .int 0, .ref m_positions, .ref m_symbolAt, .ref m_form, .ref m_ruleX, .ref m_ruleY, .int 0, .int 0, .int (-1), .int (-1), .ref m_uses, .ref m_leads, .ref m_symbolLeads, .ref m_order, .ref m_rank, .ref m_visits, .ref m_length, .ref m_sequence, .ref m_set, .ref m_visited, .int 0, .ref m_production, .ref m_token, .ref m_child, .ref m_parent, .ref m_next, .ref m_known, .ref m_value, .ref m_given, .int (-1), .int (-1)]))]) [0] rfl
  have hDc := hD.sub (ws' := [(mo, .inr (8, [.int 0, .int 0, .ref m_attributes, .ref m_inherits, .int 0, .ref m_positions, .ref m_symbolAt, .ref m_form, .ref m_ruleX, .ref m_ruleY, .int 0, .int 0, .int (-1), .int (-1), .ref m_uses, .ref m_leads, .ref m_symbolLeads, .ref m_order, .ref m_rank, .ref m_visits, .ref m_length, .ref m_sequence, .ref m_set, .ref m_visited, .int 0, .ref m_production, .ref m_token, .ref m_child, .ref m_parent, .ref m_next, .ref m_known, .ref m_value, .ref m_given, .int (-1), .int (-1)]))]) [0] (by decide) rfl
  have hKc := hK.sub (tys' := []) [] rfl
  have hFc := va_free (wc := [(mo, .inr (8, [.int 0, .int 0, .ref m_attributes, .ref m_inherits, .int 0, .ref m_positions, .ref m_symbolAt, .ref m_form, .ref m_ruleX, .ref m_ruleY, .int 0, .int 0, .int (-1), .int (-1), .ref m_uses, .ref m_leads, .ref m_symbolLeads, .ref m_order, .ref m_rank, .ref m_visits, .ref m_length, .ref m_sequence, .ref m_set, .ref m_visited, .int 0, .ref m_production, .ref m_token, .ref m_child, .ref m_parent, .ref m_next, .ref m_known, .ref m_value, .ref m_given, .int (-1), .int (-1)]))]) hD hS hA [0] rfl
  refine va_calli (va_runV (As := [.int k]) (rest := []) ⟨hx, hb, hml, hown, hts⟩ (c_M_isNode l htr dC dI mo k m_attributes m_inherits m_positions m_symbolAt m_form m_ruleX m_ruleY m_uses m_leads m_symbolLeads m_order m_rank m_visits m_length m_sequence m_set m_visited m_production m_token m_child m_parent m_next m_known m_value m_given s.heap.size) (vq_cV WSk hts 1 rfl rfl ⟨by decide, by decide⟩ k_246 k_235 k_249 k_250 k_251 (by decide +kernel)) ⟨vq_blind, va_recv hK hP (ci := 8) (q0 := 0) rfl rfl, vq_here hst hS hN hPc hKc hDc⟩ rfl rfl hl.1 rfl (lv_room (Nat.le_of_ble_eq_true rfl)) d_M_isAttribute_2 ⟨by decide, by decide⟩) hS (fun q _ h => hFc q h) hFc (fun r1 u t H1 locs ht hvm hw hB hz1 hk1 hS => ?_)
  obtain ⟨hP1, hK1, hD1⟩ := hB
  rw [ht] at hP1
  have hK1 := va_K.moved hvm.symm hK1
  have hw : r1 = 0 := hw
  subst hw
  obtain ⟨hP, hD⟩ := va_join (wr := []) (w1 := [(mo, .inr (8, [.int 0, .int 0, .ref m_attributes, .ref m_inherits, .int 0, .ref m_positions, .ref m_symbolAt, .ref m_form, .ref m_ruleX, .ref m_ruleY, .int 0, .int 0, .int (-1), .int (-1), .ref m_uses, .ref m_leads, .ref m_symbolLeads, .ref m_order, .ref m_rank, .ref m_visits, .ref m_length, .ref m_sequence, .ref m_set, .ref m_visited, .int 0, .ref m_production, .ref m_token, .ref m_child, .ref m_parent, .ref m_next, .ref m_known, .ref m_value, .ref m_given, .int (-1), .int (-1)]))]) hP hD [0] [] rfl rfl (by decide) (by decide) hk1 hFc hP1 hD1
  have hK := (hK.sub (tys' := []) [] rfl).app hK1
  generalize H1 = H at hP hS ⊢
  have hP : va_P (dC, dI) CL [(mo, .inr (8, [.int 0, .int 0, .ref m_attributes, .ref m_inherits, .int 0, .ref m_positions, .ref m_symbolAt, .ref m_form, .ref m_ruleX, .ref m_ruleY, .int 0, .int 0, .int (-1), .int (-1), .ref m_uses, .ref m_leads, .ref m_symbolLeads, .ref m_order, .ref m_rank, .ref m_visits, .ref m_length, .ref m_sequence, .ref m_set, .ref m_visited, .int 0, .ref m_production, .ref m_token, .ref m_child, .ref m_parent, .ref m_next, .ref m_known, .ref m_value, .ref m_given, .int (-1), .int (-1)]))] H := hP
  have hD : va_D A [(mo, .inr (8, [.int 0, .int 0, .ref m_attributes, .ref m_inherits, .int 0, .ref m_positions, .ref m_symbolAt, .ref m_form, .ref m_ruleX, .ref m_ruleY, .int 0, .int 0, .int (-1), .int (-1), .ref m_uses, .ref m_leads, .ref m_symbolLeads, .ref m_order, .ref m_rank, .ref m_visits, .ref m_length, .ref m_sequence, .ref m_set, .ref m_visited, .int 0, .ref m_production, .ref m_token, .ref m_child, .ref m_parent, .ref m_next, .ref m_known, .ref m_value, .ref m_given, .int (-1), .int (-1)]))] := hD
  have hK : va_K (dC, dI) CL [] s := hK
  refine W.widen (k := 0) (n := 0) (by decide) (by decide) ?_
  refine lv_if_eq (tgt := 38) hx hb d_M_isAttribute_5 (by decide) (fun _ => ?_) (fun h9 => absurd (by decide) h9)
  refine lv_iconst (v := 0) hx hb d_M_isAttribute_38 (by decide) ?_
  have hP9 := hP.sub (ws' := [(mo, .inr (8, [.int 0, .int 0, .ref m_attributes, .ref m_inherits, .int 0, .ref m_positions, .ref m_symbolAt, .ref m_form, .ref m_ruleX, .ref m_ruleY, .int 0, .int 0, .int (-1), .int (-1), .ref m_uses, .ref m_leads, .ref m_symbolLeads, .ref m_order, .ref m_rank, .ref m_visits, .ref m_length, .ref m_sequence, .ref m_set, .ref m_visited, .int 0, .ref m_production, .ref m_token, .ref m_child, .ref m_parent, .ref m_next, .ref m_known, .ref m_value, .ref m_given, .int (-1), .int (-1)]))]) [0] rfl
  have hD9 := hD.sub (ws' := [(mo, .inr (8, [.int 0, .int 0, .ref m_attributes, .ref m_inherits, .int 0, .ref m_positions, .ref m_symbolAt, .ref m_form, .ref m_ruleX, .ref m_ruleY, .int 0, .int 0, .int (-1), .int (-1), .ref m_uses, .ref m_leads, .ref m_symbolLeads, .ref m_order, .ref m_rank, .ref m_visits, .ref m_length, .ref m_sequence, .ref m_set, .ref m_visited, .int 0, .ref m_production, .ref m_token, .ref m_child, .ref m_parent, .ref m_next, .ref m_known, .ref m_value, .ref m_given, .int (-1), .int (-1)]))]) [0] (by decide) rfl
  have hK9 := hK.sub (tys' := []) [] rfl
  refine W.widen (k := 0) (n := 0) (by decide) (by decide) ?_
  exact W.zret (v := 0) (ty := .boolean) hx hb hr (by decide) (fun t ht hW => ⟨⟨0, (), rfl, rfl, by rw [ht]; exact hP9, va_K.moved hW.alike hK9, hD9⟩, hS.F ht⟩) hS.2.2 d_M_isAttribute_39

set_option maxHeartbeats 4000000 in
set_option maxRecDepth 100000 in
theorem c_M_lacks (l : Launch) (htr : l.stackTraces = false) (dC : Nat → ClassId) (dI : Nat → Nat → Nat) (mo : Nat) (m_code : Int32) (m_symbols : Int32) (m_attributes : Nat) (m_inherits : Nat) (m_positions : Nat) (m_symbolAt : Nat) (m_form : Nat) (m_ruleX : Nat) (m_ruleY : Nat) (m_analysed : Int32) (m_faultKind : Int32) (m_faultProduction : Int32) (m_faultOccurrence : Int32) (m_uses : Nat) (m_leads : Nat) (m_symbolLeads : Nat) (m_order : Nat) (m_rank : Nat) (m_visits : Nat) (m_length : Nat) (m_sequence : Nat) (m_set : Nat) (m_visited : Nat) (m_nodes : Int32) (m_production : Nat) (m_token : Nat) (m_child : Nat) (m_parent : Nat) (m_next : Nat) (m_known : Nat) (m_value : Nat) (m_given : Nat) (m_root : Int32) (m_hand : Int32) (sz : Nat) : Met l y_M_lacks WS ({ frames := 0, cells := 0, slots := 0, locals := 0 }) (va_Pc [.ref mo] (vq_Pre (dC, dI) CL sz [(mo, .inr (8, [.int m_code, .int m_symbols, .ref m_attributes, .ref m_inherits, .int 0, .ref m_positions, .ref m_symbolAt, .ref m_form, .ref m_ruleX, .ref m_ruleY, .int m_analysed, .int m_faultKind, .int m_faultProduction, .int m_faultOccurrence, .ref m_uses, .ref m_leads, .ref m_symbolLeads, .ref m_order, .ref m_rank, .ref m_visits, .ref m_length, .ref m_sequence, .ref m_set, .ref m_visited, .int m_nodes, .ref m_production, .ref m_token, .ref m_child, .ref m_parent, .ref m_next, .ref m_known, .ref m_value, .ref m_given, .int m_root, .int m_hand]))] [])) (va_Qi (fun (r : Int32) (_ : Unit) => r = 0) (fun _ t => vq_Post (dC, dI) CL (va_A [(mo, .inr (8, [.int m_code, .int m_symbols, .ref m_attributes, .ref m_inherits, .int 0, .ref m_positions, .ref m_symbolAt, .ref m_form, .ref m_ruleX, .ref m_ruleY, .int m_analysed, .int m_faultKind, .int m_faultProduction, .int m_faultOccurrence, .ref m_uses, .ref m_leads, .ref m_symbolLeads, .ref m_order, .ref m_rank, .ref m_visits, .ref m_length, .ref m_sequence, .ref m_set, .ref m_visited, .int m_nodes, .ref m_production, .ref m_token, .ref m_child, .ref m_parent, .ref m_next, .ref m_known, .ref m_value, .ref m_given, .int m_root, .int m_hand]))] sz) [(mo, .inr (8, [.int m_code, .int m_symbols, .ref m_attributes, .ref m_inherits, .int 0, .ref m_positions, .ref m_symbolAt, .ref m_form, .ref m_ruleX, .ref m_ruleY, .int m_analysed, .int m_faultKind, .int m_faultProduction, .int m_faultOccurrence, .ref m_uses, .ref m_leads, .ref m_symbolLeads, .ref m_order, .ref m_rank, .ref m_visits, .ref m_length, .ref m_sequence, .ref m_set, .ref m_visited, .int m_nodes, .ref m_production, .ref m_token, .ref m_child, .ref m_parent, .ref m_next, .ref m_known, .ref m_value, .ref m_given, .int m_root, .int m_hand]))] [] t) (va_A [(mo, .inr (8, [.int m_code, .int m_symbols, .ref m_attributes, .ref m_inherits, .int 0, .ref m_positions, .ref m_symbolAt, .ref m_form, .ref m_ruleX, .ref m_ruleY, .int m_analysed, .int m_faultKind, .int m_faultProduction, .int m_faultOccurrence, .ref m_uses, .ref m_leads, .ref m_symbolLeads, .ref m_order, .ref m_rank, .ref m_visits, .ref m_length, .ref m_sequence, .ref m_set, .ref m_visited, .int m_nodes, .ref m_production, .ref m_token, .ref m_child, .ref m_parent, .ref m_next, .ref m_known, .ref m_value, .ref m_given, .int m_root, .int m_hand]))] sz)) 0 0 (va_A [(mo, .inr (8, [.int m_code, .int m_symbols, .ref m_attributes, .ref m_inherits, .int 0, .ref m_positions, .ref m_symbolAt, .ref m_form, .ref m_ruleX, .ref m_ruleY, .int m_analysed, .int m_faultKind, .int m_faultProduction, .int m_faultOccurrence, .ref m_uses, .ref m_leads, .ref m_symbolLeads, .ref m_order, .ref m_rank, .ref m_visits, .ref m_length, .ref m_sequence, .ref m_set, .ref m_visited, .int m_nodes, .ref m_production, .ref m_token, .ref m_child, .ref m_parent, .ref m_next, .ref m_known, .ref m_value, .ref m_given, .int m_root, .int m_hand]))] sz) := by
  refine vq_ofW (cc := prog_10_method_15_code) (maxL := 3) (ret := (Option.some Jvm.ClassFile.FieldType.boolean)) (by decide) (vq_his k_252) ?_
  intro p e s m args below meth c s₁ B hml hv
  obtain ⟨rfl, hst, hsz, hP, hK, hD0⟩ := hv
  have hx := B.exec
  have hb := B.bytes
  have hr := B.returns
  have hts := atoms_spec (ws := WS) B.pre
  have hown : s.vm.findClass R_M = some m.cls := findClass_of_methodNamed B.named
  have hlocks := B.notSynchronized
  have hno := vq_noH B (hts _ k_252)
  subst hsz
  have hN := vq_ns hP
  have hD := hD0.self (sz := s.heap.size)
  generalize hAe : va_A [(mo, .inr (8, [.int m_code, .int m_symbols, .ref m_attributes, .ref m_inherits, .int 0, .ref m_positions, .ref m_symbolAt, .ref m_form, .ref m_ruleX, .ref m_ruleY, .int m_analysed, .int m_faultKind, .int m_faultProduction, .int m_faultOccurrence, .ref m_uses, .ref m_leads, .ref m_symbolLeads, .ref m_order, .ref m_rank, .ref m_visits, .ref m_length, .ref m_sequence, .ref m_set, .ref m_visited, .int m_nodes, .ref m_production, .ref m_token, .ref m_child, .ref m_parent, .ref m_next, .ref m_known, .ref m_value, .ref m_given, .int m_root, .int m_hand]))] s.heap.size = A at hD hN ⊢
  have hA : ∀ q : Nat, s.heap.size ≤ q → A q := fun q h => by rw [← hAe]; exact Or.inr h
  have hS : va_S A s.heap s.heap [] := va_S.rf
  have hP : va_P (dC, dI) CL [(mo, .inr (8, [.int m_code, .int m_symbols, .ref m_attributes, .ref m_inherits, .int 0, .ref m_positions, .ref m_symbolAt, .ref m_form, .ref m_ruleX, .ref m_ruleY, .int m_analysed, .int m_faultKind, .int m_faultProduction, .int m_faultOccurrence, .ref m_uses, .ref m_leads, .ref m_symbolLeads, .ref m_order, .ref m_rank, .ref m_visits, .ref m_length, .ref m_sequence, .ref m_set, .ref m_visited, .int m_nodes, .ref m_production, .ref m_token, .ref m_child, .ref m_parent, .ref m_next, .ref m_known, .ref m_value, .ref m_given, .int m_root, .int m_hand]))] s.heap := hP
  have hD : va_D A [(mo, .inr (8, [.int m_code, .int m_symbols, .ref m_attributes, .ref m_inherits, .int 0, .ref m_positions, .ref m_symbolAt, .ref m_form, .ref m_ruleX, .ref m_ruleY, .int m_analysed, .int m_faultKind, .int m_faultProduction, .int m_faultOccurrence, .ref m_uses, .ref m_leads, .ref m_symbolLeads, .ref m_order, .ref m_rank, .ref m_visits, .ref m_length, .ref m_sequence, .ref m_set, .ref m_visited, .int m_nodes, .ref m_production, .ref m_token, .ref m_child, .ref m_parent, .ref m_next, .ref m_known, .ref m_value, .ref m_given, .int m_root, .int m_hand]))] := hD
  have hl := lv_entry ([.ref mo]) (n := 3) (Nat.le_of_ble_eq_true rfl)
  rw [lg_entry_eq]
  generalize (lg_sl ([.ref mo]) ++ List.replicate (3 - (lg_sl ([.ref mo])).length) Slot.unset).toArray = ls at hl ⊢
  have hl : lv_has ls 3 [(0, .ref mo)] := hl
  refine lv_iconst (v := 0) hx hb d_M_lacks_0 (by decide) ?_
  refine lv_istore_n (lv' := [(1, .int 0), (0, .ref mo)]) hx hb d_M_lacks_1 rfl hl (by decide) rfl (fun ls hl => ?_)
  refine lv_iload_n hx hb d_M_lacks_2 rfl (lv_at hl 0 rfl) ?_
  refine lv_aload_n hx hb d_M_lacks_3 rfl (lv_at hl 1 rfl) ?_
  refine va_get (D := (dC, dI)) (ci := 8) (v := .int 0) (C := R_M) (T := F_M) (N := 35) hx hb hts u_M hown hK hP 0 rfl rfl 4 (by decide) (hts _ k_253) (fun _ h9 => h9) rfl d_M_lacks_4 ?_
  refine lv_icmp_ge (tgt := 62) hx hb d_M_lacks_7 (by decide) (fun _ => ?_) (fun h9 => absurd (by decide) h9)
  refine lv_iconst (v := 0) hx hb d_M_lacks_62 (by decide) ?_
  have hP9 := hP.sub (ws' := [(mo, .inr (8, [.int m_code, .int m_symbols, .ref m_attributes, .ref m_inherits, .int 0, .ref m_positions, .ref m_symbolAt, .ref m_form, .ref m_ruleX, .ref m_ruleY, .int m_analysed, .int m_faultKind, .int m_faultProduction, .int m_faultOccurrence, .ref m_uses, .ref m_leads, .ref m_symbolLeads, .ref m_order, .ref m_rank, .ref m_visits, .ref m_length, .ref m_sequence, .ref m_set, .ref m_visited, .int m_nodes, .ref m_production, .ref m_token, .ref m_child, .ref m_parent, .ref m_next, .ref m_known, .ref m_value, .ref m_given, .int m_root, .int m_hand]))]) [0] rfl
  have hD9 := hD.sub (ws' := [(mo, .inr (8, [.int m_code, .int m_symbols, .ref m_attributes, .ref m_inherits, .int 0, .ref m_positions, .ref m_symbolAt, .ref m_form, .ref m_ruleX, .ref m_ruleY, .int m_analysed, .int m_faultKind, .int m_faultProduction, .int m_faultOccurrence, .ref m_uses, .ref m_leads, .ref m_symbolLeads, .ref m_order, .ref m_rank, .ref m_visits, .ref m_length, .ref m_sequence, .ref m_set, .ref m_visited, .int m_nodes, .ref m_production, .ref m_token, .ref m_child, .ref m_parent, .ref m_next, .ref m_known, .ref m_value, .ref m_given, .int m_root, .int m_hand]))]) [0] (by decide) rfl
  have hK9 := hK.sub (tys' := []) [] rfl
  refine W.widen (k := 0) (n := 0) (by decide) (by decide) ?_
  exact W.zret (v := 0) (ty := .boolean) hx hb hr (by decide) (fun t ht hW => ⟨⟨0, (), rfl, rfl, by rw [ht]; exact hP9, va_K.moved hW.alike hK9, hD9⟩, hS.F ht⟩) hS.2.2 d_M_lacks_63
end

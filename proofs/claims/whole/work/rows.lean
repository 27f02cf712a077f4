section
-- ===== PART A: goes FIRST, ahead of the names: the tables' words, and 'selects' of the private methods out of them =====
/-- a private method of a class that the tables say can be made, by its rows of tables_1 -/
def lw_okq (q : MethodName × Nat) : Prop := (q.1.cls ≠ "java/lang/invoke/MethodHandle" ∧ q.1.cls ≠ "java/lang/invoke/VarHandle") ∧ Cond.instantiable q.1.cls q.2 ∈ tables_1 ∧ Cond.privateMethod q.1 ∈ tables_1 ∧ Cond.instanceMethod q.1 ∈ tables_1
theorem lw_p0 : lw_okq (⟨"DebtFronts", "found", "(I)I"⟩, 10) := ⟨⟨by decide +kernel, by decide +kernel⟩, List.mem_of_getElem? (i := 15) (by decide +kernel), List.mem_of_getElem? (i := 209) (by decide +kernel), List.mem_of_getElem? (i := 210) (by decide +kernel)⟩
theorem lw_p1 : lw_okq (⟨"DebtFronts", "foundNothing", "(I)I"⟩, 10) := ⟨⟨by decide +kernel, by decide +kernel⟩, List.mem_of_getElem? (i := 15) (by decide +kernel), List.mem_of_getElem? (i := 218) (by decide +kernel), List.mem_of_getElem? (i := 219) (by decide +kernel)⟩
theorem lw_p2 : lw_okq (⟨"DebtFronts$Reader", "toNextToken", "()V"⟩, 9) := ⟨⟨by decide +kernel, by decide +kernel⟩, List.mem_of_getElem? (i := 44) (by decide +kernel), List.mem_of_getElem? (i := 270) (by decide +kernel), List.mem_of_getElem? (i := 271) (by decide +kernel)⟩
theorem lw_p3 : lw_okq (⟨"DebtFronts$Reader", "endName", "()V"⟩, 9) := ⟨⟨by decide +kernel, by decide +kernel⟩, List.mem_of_getElem? (i := 44) (by decide +kernel), List.mem_of_getElem? (i := 280) (by decide +kernel), List.mem_of_getElem? (i := 281) (by decide +kernel)⟩
theorem lw_p4 : lw_okq (⟨"DebtFronts$Reader", "endNumber", "()V"⟩, 9) := ⟨⟨by decide +kernel, by decide +kernel⟩, List.mem_of_getElem? (i := 44) (by decide +kernel), List.mem_of_getElem? (i := 287) (by decide +kernel), List.mem_of_getElem? (i := 288) (by decide +kernel)⟩
theorem lw_p5 : lw_okq (⟨"DebtFronts$Reader", "readsLaw", "()Z"⟩, 9) := ⟨⟨by decide +kernel, by decide +kernel⟩, List.mem_of_getElem? (i := 44) (by decide +kernel), List.mem_of_getElem? (i := 291) (by decide +kernel), List.mem_of_getElem? (i := 292) (by decide +kernel)⟩
theorem lw_p6 : lw_okq (⟨"DebtFronts$Reader", "takesWord", "(Ljava/lang/String;)Z"⟩, 9) := ⟨⟨by decide +kernel, by decide +kernel⟩, List.mem_of_getElem? (i := 44) (by decide +kernel), List.mem_of_getElem? (i := 296) (by decide +kernel), List.mem_of_getElem? (i := 297) (by decide +kernel)⟩
theorem lw_p7 : lw_okq (⟨"DebtFronts$Reader", "isAtWord", "(Ljava/lang/String;)Z"⟩, 9) := ⟨⟨by decide +kernel, by decide +kernel⟩, List.mem_of_getElem? (i := 44) (by decide +kernel), List.mem_of_getElem? (i := 300) (by decide +kernel), List.mem_of_getElem? (i := 301) (by decide +kernel)⟩
theorem lw_p8 : lw_okq (⟨"DebtFronts$Reader", "hasFault", "(I)Z"⟩, 9) := ⟨⟨by decide +kernel, by decide +kernel⟩, List.mem_of_getElem? (i := 44) (by decide +kernel), List.mem_of_getElem? (i := 352) (by decide +kernel), List.mem_of_getElem? (i := 353) (by decide +kernel)⟩
theorem lw_p9 : lw_okq (⟨"DebtFronts$Reader", "takesNumber", "(III)Z"⟩, 9) := ⟨⟨by decide +kernel, by decide +kernel⟩, List.mem_of_getElem? (i := 44) (by decide +kernel), List.mem_of_getElem? (i := 356) (by decide +kernel), List.mem_of_getElem? (i := 357) (by decide +kernel)⟩
theorem lw_p10 : lw_okq (⟨"DebtFronts$Reader", "takesSign", "()Z"⟩, 9) := ⟨⟨by decide +kernel, by decide +kernel⟩, List.mem_of_getElem? (i := 44) (by decide +kernel), List.mem_of_getElem? (i := 360) (by decide +kernel), List.mem_of_getElem? (i := 361) (by decide +kernel)⟩
theorem lw_p11 : lw_okq (⟨"DebtFronts$Reader", "readsPeople", "()Z"⟩, 9) := ⟨⟨by decide +kernel, by decide +kernel⟩, List.mem_of_getElem? (i := 44) (by decide +kernel), List.mem_of_getElem? (i := 364) (by decide +kernel), List.mem_of_getElem? (i := 365) (by decide +kernel)⟩
theorem lw_p12 : lw_okq (⟨"DebtFronts$Reader", "readsPerson", "()Z"⟩, 9) := ⟨⟨by decide +kernel, by decide +kernel⟩, List.mem_of_getElem? (i := 44) (by decide +kernel), List.mem_of_getElem? (i := 369) (by decide +kernel), List.mem_of_getElem? (i := 370) (by decide +kernel)⟩
theorem lw_p13 : lw_okq (⟨"DebtFronts$Reader", "readsDebts", "()Z"⟩, 9) := ⟨⟨by decide +kernel, by decide +kernel⟩, List.mem_of_getElem? (i := 44) (by decide +kernel), List.mem_of_getElem? (i := 379) (by decide +kernel), List.mem_of_getElem? (i := 380) (by decide +kernel)⟩
theorem lw_p14 : lw_okq (⟨"DebtFronts$Reader", "readsDebt", "()Z"⟩, 9) := ⟨⟨by decide +kernel, by decide +kernel⟩, List.mem_of_getElem? (i := 44) (by decide +kernel), List.mem_of_getElem? (i := 384) (by decide +kernel), List.mem_of_getElem? (i := 385) (by decide +kernel)⟩
theorem lw_p15 : lw_okq (⟨"DebtFronts", "isNoPair", "(II)Z"⟩, 10) := ⟨⟨by decide +kernel, by decide +kernel⟩, List.mem_of_getElem? (i := 15) (by decide +kernel), List.mem_of_getElem? (i := 410) (by decide +kernel), List.mem_of_getElem? (i := 411) (by decide +kernel)⟩
def lw_privs_1 : List (MethodName × Nat) := [(⟨"DebtFronts", "found", "(I)I"⟩, 10), (⟨"DebtFronts", "foundNothing", "(I)I"⟩, 10), (⟨"DebtFronts$Reader", "toNextToken", "()V"⟩, 9), (⟨"DebtFronts$Reader", "endName", "()V"⟩, 9), (⟨"DebtFronts$Reader", "endNumber", "()V"⟩, 9), (⟨"DebtFronts$Reader", "readsLaw", "()Z"⟩, 9), (⟨"DebtFronts$Reader", "takesWord", "(Ljava/lang/String;)Z"⟩, 9), (⟨"DebtFronts$Reader", "isAtWord", "(Ljava/lang/String;)Z"⟩, 9), (⟨"DebtFronts$Reader", "hasFault", "(I)Z"⟩, 9), (⟨"DebtFronts$Reader", "takesNumber", "(III)Z"⟩, 9), (⟨"DebtFronts$Reader", "takesSign", "()Z"⟩, 9), (⟨"DebtFronts$Reader", "readsPeople", "()Z"⟩, 9), (⟨"DebtFronts$Reader", "readsPerson", "()Z"⟩, 9), (⟨"DebtFronts$Reader", "readsDebts", "()Z"⟩, 9), (⟨"DebtFronts$Reader", "readsDebt", "()Z"⟩, 9), (⟨"DebtFronts", "isNoPair", "(II)Z"⟩, 10)]
theorem lw_r1 : ∀ q ∈ lw_privs_1, lw_okq q := List.forall_mem_cons.mpr ⟨lw_p0, List.forall_mem_cons.mpr ⟨lw_p1, List.forall_mem_cons.mpr ⟨lw_p2, List.forall_mem_cons.mpr ⟨lw_p3, List.forall_mem_cons.mpr ⟨lw_p4, List.forall_mem_cons.mpr ⟨lw_p5, List.forall_mem_cons.mpr ⟨lw_p6, List.forall_mem_cons.mpr ⟨lw_p7, List.forall_mem_cons.mpr ⟨lw_p8, List.forall_mem_cons.mpr ⟨lw_p9, List.forall_mem_cons.mpr ⟨lw_p10, List.forall_mem_cons.mpr ⟨lw_p11, List.forall_mem_cons.mpr ⟨lw_p12, List.forall_mem_cons.mpr ⟨lw_p13, List.forall_mem_cons.mpr ⟨lw_p14, List.forall_mem_cons.mpr ⟨lw_p15, fun _ h => absurd h List.not_mem_nil⟩⟩⟩⟩⟩⟩⟩⟩⟩⟩⟩⟩⟩⟩⟩⟩
theorem lw_p16 : lw_okq (⟨"DebtFronts", "isNoPerson", "(I)Z"⟩, 10) := ⟨⟨by decide +kernel, by decide +kernel⟩, List.mem_of_getElem? (i := 15) (by decide +kernel), List.mem_of_getElem? (i := 414) (by decide +kernel), List.mem_of_getElem? (i := 415) (by decide +kernel)⟩
theorem lw_p17 : lw_okq (⟨"DebtFronts", "isNoTown", "()Z"⟩, 10) := ⟨⟨by decide +kernel, by decide +kernel⟩, List.mem_of_getElem? (i := 15) (by decide +kernel), List.mem_of_getElem? (i := 474) (by decide +kernel), List.mem_of_getElem? (i := 475) (by decide +kernel)⟩
theorem lw_p18 : lw_okq (⟨"DebtFronts$Town", "incomesCome", "(I)V"⟩, 10) := ⟨⟨by decide +kernel, by decide +kernel⟩, List.mem_of_getElem? (i := 50) (by decide +kernel), List.mem_of_getElem? (i := 483) (by decide +kernel), List.mem_of_getElem? (i := 484) (by decide +kernel)⟩
theorem lw_p19 : lw_okq (⟨"DebtFronts$Town", "allSettle", "()V"⟩, 10) := ⟨⟨by decide +kernel, by decide +kernel⟩, List.mem_of_getElem? (i := 50) (by decide +kernel), List.mem_of_getElem? (i := 492) (by decide +kernel), List.mem_of_getElem? (i := 493) (by decide +kernel)⟩
theorem lw_p20 : lw_okq (⟨"DebtFronts$Town", "smallDebtsAreForgiven", "()V"⟩, 10) := ⟨⟨by decide +kernel, by decide +kernel⟩, List.mem_of_getElem? (i := 50) (by decide +kernel), List.mem_of_getElem? (i := 501) (by decide +kernel), List.mem_of_getElem? (i := 502) (by decide +kernel)⟩
theorem lw_p21 : lw_okq (⟨"DebtFronts$Town", "debtsGrow", "()V"⟩, 10) := ⟨⟨by decide +kernel, by decide +kernel⟩, List.mem_of_getElem? (i := 50) (by decide +kernel), List.mem_of_getElem? (i := 505) (by decide +kernel), List.mem_of_getElem? (i := 506) (by decide +kernel)⟩
theorem lw_p22 : lw_okq (⟨"DebtFronts", "peopleForetoldPaler", "()I"⟩, 10) := ⟨⟨by decide +kernel, by decide +kernel⟩, List.mem_of_getElem? (i := 15) (by decide +kernel), List.mem_of_getElem? (i := 549) (by decide +kernel), List.mem_of_getElem? (i := 550) (by decide +kernel)⟩
theorem lw_p23 : lw_okq (⟨"DebtFronts", "gatherNeeds", "()I"⟩, 10) := ⟨⟨by decide +kernel, by decide +kernel⟩, List.mem_of_getElem? (i := 15) (by decide +kernel), List.mem_of_getElem? (i := 557) (by decide +kernel), List.mem_of_getElem? (i := 558) (by decide +kernel)⟩
theorem lw_p24 : lw_okq (⟨"DebtFronts$Asks", "body", "(ILDebtFronts$Town;II)I"⟩, 2) := ⟨⟨by decide +kernel, by decide +kernel⟩, List.mem_of_getElem? (i := 155) (by decide +kernel), List.mem_of_getElem? (i := 628) (by decide +kernel), List.mem_of_getElem? (i := 629) (by decide +kernel)⟩
theorem lw_p25 : lw_okq (⟨"DebtFronts$Asks", "begins", "(I)V"⟩, 2) := ⟨⟨by decide +kernel, by decide +kernel⟩, List.mem_of_getElem? (i := 155) (by decide +kernel), List.mem_of_getElem? (i := 632) (by decide +kernel), List.mem_of_getElem? (i := 633) (by decide +kernel)⟩
theorem lw_p26 : lw_okq (⟨"DebtFronts", "rowsThere", "()I"⟩, 10) := ⟨⟨by decide +kernel, by decide +kernel⟩, List.mem_of_getElem? (i := 15) (by decide +kernel), List.mem_of_getElem? (i := 645) (by decide +kernel), List.mem_of_getElem? (i := 646) (by decide +kernel)⟩
theorem lw_p27 : lw_okq (⟨"DebtFrontsModel", "finds", "(I)I"⟩, 24) := ⟨⟨by decide +kernel, by decide +kernel⟩, List.mem_of_getElem? (i := 661) (by decide +kernel), List.mem_of_getElem? (i := 754) (by decide +kernel), List.mem_of_getElem? (i := 755) (by decide +kernel)⟩
theorem lw_p28 : lw_okq (⟨"DebtFrontsModel", "fine", "(I)I"⟩, 24) := ⟨⟨by decide +kernel, by decide +kernel⟩, List.mem_of_getElem? (i := 661) (by decide +kernel), List.mem_of_getElem? (i := 759) (by decide +kernel), List.mem_of_getElem? (i := 760) (by decide +kernel)⟩
theorem lw_p29 : lw_okq (⟨"DebtFrontsModel", "reads", "()Z"⟩, 24) := ⟨⟨by decide +kernel, by decide +kernel⟩, List.mem_of_getElem? (i := 661) (by decide +kernel), List.mem_of_getElem? (i := 786) (by decide +kernel), List.mem_of_getElem? (i := 787) (by decide +kernel)⟩
theorem lw_p30 : lw_okq (⟨"DebtFrontsModel", "scans", "()V"⟩, 24) := ⟨⟨by decide +kernel, by decide +kernel⟩, List.mem_of_getElem? (i := 661) (by decide +kernel), List.mem_of_getElem? (i := 790) (by decide +kernel), List.mem_of_getElem? (i := 791) (by decide +kernel)⟩
theorem lw_p31 : lw_okq (⟨"DebtFrontsModel", "isAt", "(II)Z"⟩, 24) := ⟨⟨by decide +kernel, by decide +kernel⟩, List.mem_of_getElem? (i := 661) (by decide +kernel), List.mem_of_getElem? (i := 794) (by decide +kernel), List.mem_of_getElem? (i := 795) (by decide +kernel)⟩
def lw_privs_2 : List (MethodName × Nat) := [(⟨"DebtFronts", "isNoPerson", "(I)Z"⟩, 10), (⟨"DebtFronts", "isNoTown", "()Z"⟩, 10), (⟨"DebtFronts$Town", "incomesCome", "(I)V"⟩, 10), (⟨"DebtFronts$Town", "allSettle", "()V"⟩, 10), (⟨"DebtFronts$Town", "smallDebtsAreForgiven", "()V"⟩, 10), (⟨"DebtFronts$Town", "debtsGrow", "()V"⟩, 10), (⟨"DebtFronts", "peopleForetoldPaler", "()I"⟩, 10), (⟨"DebtFronts", "gatherNeeds", "()I"⟩, 10), (⟨"DebtFronts$Asks", "body", "(ILDebtFronts$Town;II)I"⟩, 2), (⟨"DebtFronts$Asks", "begins", "(I)V"⟩, 2), (⟨"DebtFronts", "rowsThere", "()I"⟩, 10), (⟨"DebtFrontsModel", "finds", "(I)I"⟩, 24), (⟨"DebtFrontsModel", "fine", "(I)I"⟩, 24), (⟨"DebtFrontsModel", "reads", "()Z"⟩, 24), (⟨"DebtFrontsModel", "scans", "()V"⟩, 24), (⟨"DebtFrontsModel", "isAt", "(II)Z"⟩, 24)]
theorem lw_r2 : ∀ q ∈ lw_privs_2, lw_okq q := List.forall_mem_cons.mpr ⟨lw_p16, List.forall_mem_cons.mpr ⟨lw_p17, List.forall_mem_cons.mpr ⟨lw_p18, List.forall_mem_cons.mpr ⟨lw_p19, List.forall_mem_cons.mpr ⟨lw_p20, List.forall_mem_cons.mpr ⟨lw_p21, List.forall_mem_cons.mpr ⟨lw_p22, List.forall_mem_cons.mpr ⟨lw_p23, List.forall_mem_cons.mpr ⟨lw_p24, List.forall_mem_cons.mpr ⟨lw_p25, List.forall_mem_cons.mpr ⟨lw_p26, List.forall_mem_cons.mpr ⟨lw_p27, List.forall_mem_cons.mpr ⟨lw_p28, List.forall_mem_cons.mpr ⟨lw_p29, List.forall_mem_cons.mpr ⟨lw_p30, List.forall_mem_cons.mpr ⟨lw_p31, fun _ h => absurd h List.not_mem_nil⟩⟩⟩⟩⟩⟩⟩⟩⟩⟩⟩⟩⟩⟩⟩⟩
theorem lw_p32 : lw_okq (⟨"DebtFrontsModel", "law", "()Z"⟩, 24) := ⟨⟨by decide +kernel, by decide +kernel⟩, List.mem_of_getElem? (i := 661) (by decide +kernel), List.mem_of_getElem? (i := 805) (by decide +kernel), List.mem_of_getElem? (i := 806) (by decide +kernel)⟩
theorem lw_p33 : lw_okq (⟨"DebtFrontsModel", "faults", "(I)Z"⟩, 24) := ⟨⟨by decide +kernel, by decide +kernel⟩, List.mem_of_getElem? (i := 661) (by decide +kernel), List.mem_of_getElem? (i := 809) (by decide +kernel), List.mem_of_getElem? (i := 810) (by decide +kernel)⟩
theorem lw_p34 : lw_okq (⟨"DebtFrontsModel", "takes", "(II)Z"⟩, 24) := ⟨⟨by decide +kernel, by decide +kernel⟩, List.mem_of_getElem? (i := 661) (by decide +kernel), List.mem_of_getElem? (i := 813) (by decide +kernel), List.mem_of_getElem? (i := 814) (by decide +kernel)⟩
theorem lw_p35 : lw_okq (⟨"DebtFrontsModel", "ends", "()Z"⟩, 24) := ⟨⟨by decide +kernel, by decide +kernel⟩, List.mem_of_getElem? (i := 661) (by decide +kernel), List.mem_of_getElem? (i := 817) (by decide +kernel), List.mem_of_getElem? (i := 818) (by decide +kernel)⟩
theorem lw_p36 : lw_okq (⟨"DebtFrontsModel", "person", "()Z"⟩, 24) := ⟨⟨by decide +kernel, by decide +kernel⟩, List.mem_of_getElem? (i := 661) (by decide +kernel), List.mem_of_getElem? (i := 821) (by decide +kernel), List.mem_of_getElem? (i := 822) (by decide +kernel)⟩
theorem lw_p37 : lw_okq (⟨"DebtFrontsModel", "debt", "(I)Z"⟩, 24) := ⟨⟨by decide +kernel, by decide +kernel⟩, List.mem_of_getElem? (i := 661) (by decide +kernel), List.mem_of_getElem? (i := 825) (by decide +kernel), List.mem_of_getElem? (i := 826) (by decide +kernel)⟩
theorem lw_p38 : lw_okq (⟨"DebtFrontsModel", "areTwo", "(II)Z"⟩, 24) := ⟨⟨by decide +kernel, by decide +kernel⟩, List.mem_of_getElem? (i := 661) (by decide +kernel), List.mem_of_getElem? (i := 838) (by decide +kernel), List.mem_of_getElem? (i := 839) (by decide +kernel)⟩
theorem lw_p39 : lw_okq (⟨"DebtFrontsModel", "isOne", "(I)Z"⟩, 24) := ⟨⟨by decide +kernel, by decide +kernel⟩, List.mem_of_getElem? (i := 661) (by decide +kernel), List.mem_of_getElem? (i := 842) (by decide +kernel), List.mem_of_getElem? (i := 843) (by decide +kernel)⟩
theorem lw_p40 : lw_okq (⟨"DebtFrontsModel", "remembers", "()V"⟩, 24) := ⟨⟨by decide +kernel, by decide +kernel⟩, List.mem_of_getElem? (i := 661) (by decide +kernel), List.mem_of_getElem? (i := 849) (by decide +kernel), List.mem_of_getElem? (i := 850) (by decide +kernel)⟩
theorem lw_p41 : lw_okq (⟨"DebtFrontsModel", "looks", "(I)I"⟩, 24) := ⟨⟨by decide +kernel, by decide +kernel⟩, List.mem_of_getElem? (i := 661) (by decide +kernel), List.mem_of_getElem? (i := 863) (by decide +kernel), List.mem_of_getElem? (i := 864) (by decide +kernel)⟩
theorem lw_p42 : lw_okq (⟨"DebtFrontsModel", "netOf", "(I)I"⟩, 24) := ⟨⟨by decide +kernel, by decide +kernel⟩, List.mem_of_getElem? (i := 661) (by decide +kernel), List.mem_of_getElem? (i := 896) (by decide +kernel), List.mem_of_getElem? (i := 897) (by decide +kernel)⟩
theorem lw_p43 : lw_okq (⟨"DebtFrontsModel", "tries", "()V"⟩, 24) := ⟨⟨by decide +kernel, by decide +kernel⟩, List.mem_of_getElem? (i := 661) (by decide +kernel), List.mem_of_getElem? (i := 911) (by decide +kernel), List.mem_of_getElem? (i := 912) (by decide +kernel)⟩
theorem lw_p44 : lw_okq (⟨"DebtFrontsModel", "needs", "()V"⟩, 24) := ⟨⟨by decide +kernel, by decide +kernel⟩, List.mem_of_getElem? (i := 661) (by decide +kernel), List.mem_of_getElem? (i := 919) (by decide +kernel), List.mem_of_getElem? (i := 920) (by decide +kernel)⟩
theorem lw_p45 : lw_okq (⟨"DebtFrontsModel", "kindOf", "(I)I"⟩, 24) := ⟨⟨by decide +kernel, by decide +kernel⟩, List.mem_of_getElem? (i := 661) (by decide +kernel), List.mem_of_getElem? (i := 952) (by decide +kernel), List.mem_of_getElem? (i := 953) (by decide +kernel)⟩
theorem lw_p46 : lw_okq (⟨"DebtFrontsModel", "sizeFree", "(II)I"⟩, 24) := ⟨⟨by decide +kernel, by decide +kernel⟩, List.mem_of_getElem? (i := 661) (by decide +kernel), List.mem_of_getElem? (i := 965) (by decide +kernel), List.mem_of_getElem? (i := 966) (by decide +kernel)⟩
theorem lw_p47 : lw_okq (⟨"DebtFrontsModel", "leaves", "(I)V"⟩, 24) := ⟨⟨by decide +kernel, by decide +kernel⟩, List.mem_of_getElem? (i := 661) (by decide +kernel), List.mem_of_getElem? (i := 969) (by decide +kernel), List.mem_of_getElem? (i := 970) (by decide +kernel)⟩
def lw_privs_3 : List (MethodName × Nat) := [(⟨"DebtFrontsModel", "law", "()Z"⟩, 24), (⟨"DebtFrontsModel", "faults", "(I)Z"⟩, 24), (⟨"DebtFrontsModel", "takes", "(II)Z"⟩, 24), (⟨"DebtFrontsModel", "ends", "()Z"⟩, 24), (⟨"DebtFrontsModel", "person", "()Z"⟩, 24), (⟨"DebtFrontsModel", "debt", "(I)Z"⟩, 24), (⟨"DebtFrontsModel", "areTwo", "(II)Z"⟩, 24), (⟨"DebtFrontsModel", "isOne", "(I)Z"⟩, 24), (⟨"DebtFrontsModel", "remembers", "()V"⟩, 24), (⟨"DebtFrontsModel", "looks", "(I)I"⟩, 24), (⟨"DebtFrontsModel", "netOf", "(I)I"⟩, 24), (⟨"DebtFrontsModel", "tries", "()V"⟩, 24), (⟨"DebtFrontsModel", "needs", "()V"⟩, 24), (⟨"DebtFrontsModel", "kindOf", "(I)I"⟩, 24), (⟨"DebtFrontsModel", "sizeFree", "(II)I"⟩, 24), (⟨"DebtFrontsModel", "leaves", "(I)V"⟩, 24)]
theorem lw_r3 : ∀ q ∈ lw_privs_3, lw_okq q := List.forall_mem_cons.mpr ⟨lw_p32, List.forall_mem_cons.mpr ⟨lw_p33, List.forall_mem_cons.mpr ⟨lw_p34, List.forall_mem_cons.mpr ⟨lw_p35, List.forall_mem_cons.mpr ⟨lw_p36, List.forall_mem_cons.mpr ⟨lw_p37, List.forall_mem_cons.mpr ⟨lw_p38, List.forall_mem_cons.mpr ⟨lw_p39, List.forall_mem_cons.mpr ⟨lw_p40, List.forall_mem_cons.mpr ⟨lw_p41, List.forall_mem_cons.mpr ⟨lw_p42, List.forall_mem_cons.mpr ⟨lw_p43, List.forall_mem_cons.mpr ⟨lw_p44, List.forall_mem_cons.mpr ⟨lw_p45, List.forall_mem_cons.mpr ⟨lw_p46, List.forall_mem_cons.mpr ⟨lw_p47, fun _ h => absurd h List.not_mem_nil⟩⟩⟩⟩⟩⟩⟩⟩⟩⟩⟩⟩⟩⟩⟩⟩
theorem lw_p48 : lw_okq (⟨"DebtFrontsModel", "sizeLent", "(I)I"⟩, 24) := ⟨⟨by decide +kernel, by decide +kernel⟩, List.mem_of_getElem? (i := 661) (by decide +kernel), List.mem_of_getElem? (i := 973) (by decide +kernel), List.mem_of_getElem? (i := 974) (by decide +kernel)⟩
theorem lw_p49 : lw_okq (⟨"DebtFrontsModel", "sizeOwing", "(II)I"⟩, 24) := ⟨⟨by decide +kernel, by decide +kernel⟩, List.mem_of_getElem? (i := 661) (by decide +kernel), List.mem_of_getElem? (i := 977) (by decide +kernel), List.mem_of_getElem? (i := 978) (by decide +kernel)⟩
theorem lw_p50 : lw_okq (⟨"DebtFrontsModel", "markOwing", "(II)I"⟩, 24) := ⟨⟨by decide +kernel, by decide +kernel⟩, List.mem_of_getElem? (i := 661) (by decide +kernel), List.mem_of_getElem? (i := 981) (by decide +kernel), List.mem_of_getElem? (i := 982) (by decide +kernel)⟩
theorem lw_p51 : lw_okq (⟨"DebtFrontsModel", "markLent", "(I)I"⟩, 24) := ⟨⟨by decide +kernel, by decide +kernel⟩, List.mem_of_getElem? (i := 661) (by decide +kernel), List.mem_of_getElem? (i := 985) (by decide +kernel), List.mem_of_getElem? (i := 986) (by decide +kernel)⟩
theorem lw_p52 : lw_okq (⟨"DebtFrontsModel", "markFree", "(II)I"⟩, 24) := ⟨⟨by decide +kernel, by decide +kernel⟩, List.mem_of_getElem? (i := 661) (by decide +kernel), List.mem_of_getElem? (i := 989) (by decide +kernel), List.mem_of_getElem? (i := 990) (by decide +kernel)⟩
def lw_privs_4 : List (MethodName × Nat) := [(⟨"DebtFrontsModel", "sizeLent", "(I)I"⟩, 24), (⟨"DebtFrontsModel", "sizeOwing", "(II)I"⟩, 24), (⟨"DebtFrontsModel", "markOwing", "(II)I"⟩, 24), (⟨"DebtFrontsModel", "markLent", "(I)I"⟩, 24), (⟨"DebtFrontsModel", "markFree", "(II)I"⟩, 24)]
theorem lw_r4 : ∀ q ∈ lw_privs_4, lw_okq q := List.forall_mem_cons.mpr ⟨lw_p48, List.forall_mem_cons.mpr ⟨lw_p49, List.forall_mem_cons.mpr ⟨lw_p50, List.forall_mem_cons.mpr ⟨lw_p51, List.forall_mem_cons.mpr ⟨lw_p52, fun _ h => absurd h List.not_mem_nil⟩⟩⟩⟩⟩
def lw_privs : List (MethodName × Nat) := lw_privs_1 ++ (lw_privs_2 ++ (lw_privs_3 ++ (lw_privs_4)))
def lw_tbl : List Cond := k2_sels lw_privs ++ tables_1
theorem lw_privs_ok : ∀ q ∈ lw_privs, lw_okq q := by
  show ∀ q ∈ lw_privs_1 ++ (lw_privs_2 ++ (lw_privs_3 ++ (lw_privs_4))), lw_okq q
  exact List.forall_mem_append.mpr ⟨lw_r1, List.forall_mem_append.mpr ⟨lw_r2, List.forall_mem_append.mpr ⟨lw_r3, lw_r4⟩⟩⟩
-- ===== end of PART A; then your names; then what follows =====
end
section
/-! ===== BEGIN words of one list among another's, by their places ===== -/
theorem goodIn_r {big : List Cond} (ws : List Cond) (ps : List Nat) (hp : ws = ps.filterMap (fun i => big[i]?)) (h : ws.all goodWord = true) : GoodIn big ws := by
  intro w hw
  have h1 := List.all_eq_true.mp h w hw
  rw [hp] at hw
  obtain ⟨i, -, hi⟩ := List.mem_filterMap.mp hw
  have hm : w ∈ big := by first | exact List.mem_of_getElem? hi | exact List.getElem?_mem hi
  exact ⟨hm, good_of_word h1⟩
theorem goodIn_app {big a b : List Cond} (ha : GoodIn big a) (hb : GoodIn big b) : GoodIn big (a ++ b) := fun w h => (List.mem_append.mp h).elim (ha w) (hb w)
theorem goodIn_ca {big a b : List Cond} {c : Cond} (ha : GoodIn big (c :: a)) (hb : GoodIn big b) : GoodIn big (c :: (a ++ b)) := fun w h => (List.mem_cons.mp h).elim (fun e => ha w (List.mem_cons.mpr (Or.inl e))) (fun h => (List.mem_append.mp h).elim (fun h => ha w (List.mem_cons.mpr (Or.inr h))) (hb w))
theorem goodIn_sub {big ws : List Cond} (hm : ∀ w ∈ ws, w ∈ big) (h : ws.all goodWord = true) : GoodIn big ws := fun w hw => ⟨hm w hw, good_of_word (List.all_eq_true.mp h w hw)⟩
/-! ===== END ===== -/

def RX0 : String := "DebtFronts$Acts"
def TX0 : u_T := fun k => match k with
  | 0 => ("DebtFronts$Acts", "ahead", "[LDebtFronts$Town;", true)
  | 1 => ("DebtFronts$Acts", "next", "I", false)
  | _ => ("DebtFronts$Acts", "kept", "I", false)
def tyX0 : Nat → FieldType := fun k => match k with
  | 0 => .array (.object "DebtFronts$Town")
  | 1 => .int
  | _ => .int
abbrev wsX00 : List Cond := u_ws RX0 TX0 3
theorem nmX0 : ∀ a, a < 3 → ∀ b, b < 3 → a ≠ b → (TX0 a).2.1 ≠ (TX0 b).2.1 := by decide +kernel
theorem tyX0_ok : ∀ k, k < 3 → parseFieldDescriptor (TX0 k).2.2.1 = some (tyX0 k) := by decide +kernel
abbrev cX0_init : ByteArray := prog_2_method_1_code
def yX0_init : MethodName := ⟨RX0, "<init>", "()V"⟩
abbrev cX0_forgetAll : ByteArray := prog_2_method_2_code
def yX0_forgetAll : MethodName := ⟨RX0, "forgetAll", "()V"⟩
abbrev cX0_keep : ByteArray := prog_2_method_3_code
def yX0_keep : MethodName := ⟨RX0, "keep", "(LDebtFronts$Town;)V"⟩
abbrev cX0_takeBack : ByteArray := prog_2_method_4_code
def yX0_takeBack : MethodName := ⟨RX0, "takeBack", "(LDebtFronts$Town;)V"⟩
def RX1 : String := "DebtFronts$Asks"
def TX1 : u_T := fun k => match k with
  | 0 => ("DebtFronts$Asks", "bodies", "[I", true)
  | _ => ("DebtFronts$Asks", "traced", "I", false)
def tyX1 : Nat → FieldType := fun k => match k with
  | 0 => .array .int
  | _ => .int
abbrev wsX10 : List Cond := u_ws RX1 TX1 2
theorem nmX1 : ∀ a, a < 2 → ∀ b, b < 2 → a ≠ b → (TX1 a).2.1 ≠ (TX1 b).2.1 := by decide +kernel
theorem tyX1_ok : ∀ k, k < 2 → parseFieldDescriptor (TX1 k).2.2.1 = some (tyX1 k) := by decide +kernel
abbrev cX1_init : ByteArray := prog_3_method_1_code
def yX1_init : MethodName := ⟨RX1, "<init>", "()V"⟩
abbrev cX1_answerOf : ByteArray := prog_3_method_2_code
def yX1_answerOf : MethodName := ⟨RX1, "answerOf", "(LDebtFronts$Town;II)I"⟩
abbrev cX1_body : ByteArray := prog_3_method_3_code
def yX1_body : MethodName := ⟨RX1, "body", "(ILDebtFronts$Town;II)I"⟩
abbrev cX1_begins : ByteArray := prog_3_method_4_code
def yX1_begins : MethodName := ⟨RX1, "begins", "(I)V"⟩
def RX2 : String := "DebtFronts$Reader"
def TX2 : u_T := fun k => match k with
  | 0 => ("DebtFronts$Reader", "tape", "[B", true)
  | 1 => ("DebtFronts$Reader", "draft", "LDebtFronts$Town;", true)
  | 2 => ("DebtFronts$Reader", "length", "I", false)
  | 3 => ("DebtFronts$Reader", "sort", "I", false)
  | 4 => ("DebtFronts$Reader", "start", "I", false)
  | 5 => ("DebtFronts$Reader", "end", "I", false)
  | 6 => ("DebtFronts$Reader", "value", "I", false)
  | 7 => ("DebtFronts$Reader", "taken", "I", false)
  | _ => ("DebtFronts$Reader", "fault", "I", false)
def tyX2 : Nat → FieldType := fun k => match k with
  | 0 => .array .byte
  | 1 => .object "DebtFronts$Town"
  | 2 => .int
  | 3 => .int
  | 4 => .int
  | 5 => .int
  | 6 => .int
  | 7 => .int
  | _ => .int
abbrev wsX20 : List Cond := u_ws RX2 TX2 9
theorem nmX2 : ∀ a, a < 9 → ∀ b, b < 9 → a ≠ b → (TX2 a).2.1 ≠ (TX2 b).2.1 := by decide +kernel
theorem tyX2_ok : ∀ k, k < 9 → parseFieldDescriptor (TX2 k).2.2.1 = some (tyX2 k) := by decide +kernel
abbrev cX2_init : ByteArray := prog_4_method_1_code
def yX2_init : MethodName := ⟨RX2, "<init>", "()V"⟩
abbrev cX2_readsTown : ByteArray := prog_4_method_2_code
def yX2_readsTown : MethodName := ⟨RX2, "readsTown", "()Z"⟩
abbrev cX2_readsLaw : ByteArray := prog_4_method_3_code
def yX2_readsLaw : MethodName := ⟨RX2, "readsLaw", "()Z"⟩
abbrev cX2_readsPeople : ByteArray := prog_4_method_4_code
def yX2_readsPeople : MethodName := ⟨RX2, "readsPeople", "()Z"⟩
abbrev cX2_readsPerson : ByteArray := prog_4_method_5_code
def yX2_readsPerson : MethodName := ⟨RX2, "readsPerson", "()Z"⟩
abbrev cX2_readsDebts : ByteArray := prog_4_method_6_code
def yX2_readsDebts : MethodName := ⟨RX2, "readsDebts", "()Z"⟩
abbrev cX2_readsDebt : ByteArray := prog_4_method_7_code
def yX2_readsDebt : MethodName := ⟨RX2, "readsDebt", "()Z"⟩
abbrev cX2_hasFault : ByteArray := prog_4_method_8_code
def yX2_hasFault : MethodName := ⟨RX2, "hasFault", "(I)Z"⟩
abbrev cX2_isAtWord : ByteArray := prog_4_method_9_code
def yX2_isAtWord : MethodName := ⟨RX2, "isAtWord", "(Ljava/lang/String;)Z"⟩
abbrev cX2_takesWord : ByteArray := prog_4_method_10_code
def yX2_takesWord : MethodName := ⟨RX2, "takesWord", "(Ljava/lang/String;)Z"⟩
abbrev cX2_takesSign : ByteArray := prog_4_method_11_code
def yX2_takesSign : MethodName := ⟨RX2, "takesSign", "()Z"⟩
abbrev cX2_takesNumber : ByteArray := prog_4_method_12_code
def yX2_takesNumber : MethodName := ⟨RX2, "takesNumber", "(III)Z"⟩
abbrev cX2_toNextToken : ByteArray := prog_4_method_13_code
def yX2_toNextToken : MethodName := ⟨RX2, "toNextToken", "()V"⟩
abbrev cX2_endName : ByteArray := prog_4_method_14_code
def yX2_endName : MethodName := ⟨RX2, "endName", "()V"⟩
abbrev cX2_endNumber : ByteArray := prog_4_method_15_code
def yX2_endNumber : MethodName := ⟨RX2, "endNumber", "()V"⟩
abbrev cX2_isBlank : ByteArray := prog_4_method_16_code
def yX2_isBlank : MethodName := ⟨RX2, "isBlank", "(I)Z"⟩
abbrev cX2_isLetter : ByteArray := prog_4_method_17_code
def yX2_isLetter : MethodName := ⟨RX2, "isLetter", "(I)Z"⟩
abbrev cX2_isFigure : ByteArray := prog_4_method_18_code
def yX2_isFigure : MethodName := ⟨RX2, "isFigure", "(I)Z"⟩
def RX3 : String := "DebtFronts$Row"
def TX3 : u_T := fun k => match k with
  | 0 => ("DebtFronts$Row", "items", "[I", true)
  | 1 => ("DebtFronts$Row", "lane", "I", false)
  | _ => ("DebtFronts$Row", "length", "I", false)
def tyX3 : Nat → FieldType := fun k => match k with
  | 0 => .array .int
  | 1 => .int
  | _ => .int
abbrev wsX30 : List Cond := u_ws RX3 TX3 3
theorem nmX3 : ∀ a, a < 3 → ∀ b, b < 3 → a ≠ b → (TX3 a).2.1 ≠ (TX3 b).2.1 := by decide +kernel
theorem tyX3_ok : ∀ k, k < 3 → parseFieldDescriptor (TX3 k).2.2.1 = some (tyX3 k) := by decide +kernel
abbrev cX3_init : ByteArray := prog_5_method_1_code
def yX3_init : MethodName := ⟨RX3, "<init>", "()V"⟩
abbrev cX3_isMissing : ByteArray := prog_5_method_2_code
def yX3_isMissing : MethodName := ⟨RX3, "isMissing", "()Z"⟩
abbrev cX3_begin : ByteArray := prog_5_method_3_code
def yX3_begin : MethodName := ⟨RX3, "begin", "(II)V"⟩
abbrev cX3_vanish : ByteArray := prog_5_method_4_code
def yX3_vanish : MethodName := ⟨RX3, "vanish", "()V"⟩
abbrev cX3_hasRange : ByteArray := prog_5_method_5_code
def yX3_hasRange : MethodName := ⟨RX3, "hasRange", "(II)Z"⟩
abbrev cX3_put : ByteArray := prog_5_method_6_code
def yX3_put : MethodName := ⟨RX3, "put", "(II)I"⟩
def RX4 : String := "DebtFronts$Town"
def TX4 : u_T := fun k => match k with
  | 0 => ("DebtFronts$Town", "cash", "[I", true)
  | 1 => ("DebtFronts$Town", "income", "[I", true)
  | 2 => ("DebtFronts$Town", "painted", "[I", true)
  | 3 => ("DebtFronts$Town", "debts", "[I", true)
  | 4 => ("DebtFronts$Town", "people", "I", false)
  | 5 => ("DebtFronts$Town", "unit", "I", false)
  | 6 => ("DebtFronts$Town", "rate", "I", false)
  | 7 => ("DebtFronts$Town", "quarters", "I", false)
  | 8 => ("DebtFronts$Town", "hidden", "I", false)
  | _ => ("DebtFronts$Town", "failed", "I", false)
def tyX4 : Nat → FieldType := fun k => match k with
  | 0 => .array .int
  | 1 => .array .int
  | 2 => .array .int
  | 3 => .array .int
  | 4 => .int
  | 5 => .int
  | 6 => .int
  | 7 => .int
  | 8 => .int
  | _ => .int
abbrev wsX40 : List Cond := u_ws RX4 TX4 10
theorem nmX4 : ∀ a, a < 10 → ∀ b, b < 10 → a ≠ b → (TX4 a).2.1 ≠ (TX4 b).2.1 := by decide +kernel
theorem tyX4_ok : ∀ k, k < 10 → parseFieldDescriptor (TX4 k).2.2.1 = some (tyX4 k) := by decide +kernel
abbrev cX4_init : ByteArray := prog_6_method_1_code
def yX4_init : MethodName := ⟨RX4, "<init>", "()V"⟩
abbrev cX4_becomes : ByteArray := prog_6_method_2_code
def yX4_becomes : MethodName := ⟨RX4, "becomes", "(LDebtFronts$Town;)V"⟩
abbrev cX4_becomesEmpty : ByteArray := prog_6_method_3_code
def yX4_becomesEmpty : MethodName := ⟨RX4, "becomesEmpty", "()V"⟩
abbrev cX4_settlesIn : ByteArray := prog_6_method_4_code
def yX4_settlesIn : MethodName := ⟨RX4, "settlesIn", "(IIZ)V"⟩
abbrev cX4_debtOf : ByteArray := prog_6_method_5_code
def yX4_debtOf : MethodName := ⟨RX4, "debtOf", "(II)I"⟩
abbrev cX4_owesMore : ByteArray := prog_6_method_6_code
def yX4_owesMore : MethodName := ⟨RX4, "owesMore", "(III)V"⟩
abbrev cX4_owedBy : ByteArray := prog_6_method_7_code
def yX4_owedBy : MethodName := ⟨RX4, "owedBy", "(I)I"⟩
abbrev cX4_owedTo : ByteArray := prog_6_method_8_code
def yX4_owedTo : MethodName := ⟨RX4, "owedTo", "(I)I"⟩
abbrev cX4_shadeOf : ByteArray := prog_6_method_9_code
def yX4_shadeOf : MethodName := ⟨RX4, "shadeOf", "(I)I"⟩
abbrev cX4_looksOf : ByteArray := prog_6_method_10_code
def yX4_looksOf : MethodName := ⟨RX4, "looksOf", "(I)I"⟩
abbrev cX4_debtsAboveNone : ByteArray := prog_6_method_11_code
def yX4_debtsAboveNone : MethodName := ⟨RX4, "debtsAboveNone", "()I"⟩
abbrev cX4_cashOfAll : ByteArray := prog_6_method_12_code
def yX4_cashOfAll : MethodName := ⟨RX4, "cashOfAll", "()I"⟩
abbrev cX4_kindOf : ByteArray := prog_6_method_13_code
def yX4_kindOf : MethodName := ⟨RX4, "kindOf", "(I)I"⟩
abbrev cX4_lends : ByteArray := prog_6_method_14_code
def yX4_lends : MethodName := ⟨RX4, "lends", "(III)V"⟩
abbrev cX4_paysBack : ByteArray := prog_6_method_15_code
def yX4_paysBack : MethodName := ⟨RX4, "paysBack", "(III)V"⟩
abbrev cX4_settle : ByteArray := prog_6_method_16_code
def yX4_settle : MethodName := ⟨RX4, "settle", "(I)I"⟩
abbrev cX4_settleAll : ByteArray := prog_6_method_17_code
def yX4_settleAll : MethodName := ⟨RX4, "settleAll", "(I)I"⟩
abbrev cX4_lendersOf : ByteArray := prog_6_method_18_code
def yX4_lendersOf : MethodName := ⟨RX4, "lendersOf", "(I)I"⟩
abbrev cX4_seenFrom : ByteArray := prog_6_method_19_code
def yX4_seenFrom : MethodName := ⟨RX4, "seenFrom", "(I)I"⟩
abbrev cX4_strikeOutMutual : ByteArray := prog_6_method_20_code
def yX4_strikeOutMutual : MethodName := ⟨RX4, "strikeOutMutual", "()I"⟩
abbrev cX4_passQuarter : ByteArray := prog_6_method_21_code
def yX4_passQuarter : MethodName := ⟨RX4, "passQuarter", "(I)V"⟩
abbrev cX4_incomesCome : ByteArray := prog_6_method_22_code
def yX4_incomesCome : MethodName := ⟨RX4, "incomesCome", "(I)V"⟩
abbrev cX4_drawn : ByteArray := prog_6_method_23_code
def yX4_drawn : MethodName := ⟨RX4, "drawn", "(JI)I"⟩
abbrev cX4_allSettle : ByteArray := prog_6_method_24_code
def yX4_allSettle : MethodName := ⟨RX4, "allSettle", "()V"⟩
abbrev cX4_smallDebtsAreForgiven : ByteArray := prog_6_method_25_code
def yX4_smallDebtsAreForgiven : MethodName := ⟨RX4, "smallDebtsAreForgiven", "()V"⟩
abbrev cX4_debtsGrow : ByteArray := prog_6_method_26_code
def yX4_debtsGrow : MethodName := ⟨RX4, "debtsGrow", "()V"⟩
def RX5 : String := "DebtFronts"
def TX5 : u_T := fun k => match k with
  | 0 => ("DebtFronts", "rows", "[LDebtFronts$Row;", true)
  | 1 => ("DebtFronts", "reader", "LDebtFronts$Reader;", true)
  | 2 => ("DebtFronts", "latestFault", "I", false)
  | 3 => ("DebtFronts", "latestFinding", "I", false)
  | 4 => ("DebtFronts", "town", "LDebtFronts$Town;", true)
  | 5 => ("DebtFronts", "foretold", "LDebtFronts$Town;", true)
  | 6 => ("DebtFronts", "acts", "LDebtFronts$Acts;", true)
  | 7 => ("DebtFronts", "images", "[LDebtFronts$Town;", true)
  | 8 => ("DebtFronts", "asks", "LDebtFronts$Asks;", true)
  | _ => ("DebtFronts", "needs", "[I", true)
def tyX5 : Nat → FieldType := fun k => match k with
  | 0 => .array (.object "DebtFronts$Row")
  | 1 => .object "DebtFronts$Reader"
  | 2 => .int
  | 3 => .int
  | 4 => .object "DebtFronts$Town"
  | 5 => .object "DebtFronts$Town"
  | 6 => .object "DebtFronts$Acts"
  | 7 => .array (.object "DebtFronts$Town")
  | 8 => .object "DebtFronts$Asks"
  | _ => .array .int
abbrev wsX50 : List Cond := u_ws RX5 TX5 10
theorem nmX5 : ∀ a, a < 10 → ∀ b, b < 10 → a ≠ b → (TX5 a).2.1 ≠ (TX5 b).2.1 := by decide +kernel
theorem tyX5_ok : ∀ k, k < 10 → parseFieldDescriptor (TX5 k).2.2.1 = some (tyX5 k) := by decide +kernel
abbrev cX5_init : ByteArray := prog_1_method_1_code
def yX5_init : MethodName := ⟨RX5, "<init>", "()V"⟩
abbrev cX5_row : ByteArray := prog_1_method_2_code
def yX5_row : MethodName := ⟨RX5, "row", "(III)I"⟩
abbrev cX5_set : ByteArray := prog_1_method_3_code
def yX5_set : MethodName := ⟨RX5, "set", "(III)I"⟩
abbrev cX5_copy : ByteArray := prog_1_method_4_code
def yX5_copy : MethodName := ⟨RX5, "copy", "(IIIII)I"⟩
abbrev cX5_drop : ByteArray := prog_1_method_5_code
def yX5_drop : MethodName := ⟨RX5, "drop", "(I)I"⟩
abbrev cX5_feed : ByteArray := prog_1_method_6_code
def yX5_feed : MethodName := ⟨RX5, "feed", "(JI)I"⟩
abbrev cX5_town : ByteArray := prog_1_method_7_code
def yX5_town : MethodName := ⟨RX5, "town", "()I"⟩
abbrev cX5_fault : ByteArray := prog_1_method_8_code
def yX5_fault : MethodName := ⟨RX5, "fault", "()I"⟩
abbrev cX5_loan : ByteArray := prog_1_method_9_code
def yX5_loan : MethodName := ⟨RX5, "loan", "(III)I"⟩
abbrev cX5_pay : ByteArray := prog_1_method_10_code
def yX5_pay : MethodName := ⟨RX5, "pay", "(III)I"⟩
abbrev cX5_paint : ByteArray := prog_1_method_11_code
def yX5_paint : MethodName := ⟨RX5, "paint", "(II)I"⟩
abbrev cX5_hedge : ByteArray := prog_1_method_12_code
def yX5_hedge : MethodName := ⟨RX5, "hedge", "(II)I"⟩
abbrev cX5_quarter : ByteArray := prog_1_method_13_code
def yX5_quarter : MethodName := ⟨RX5, "quarter", "(I)I"⟩
abbrev cX5_undo : ByteArray := prog_1_method_14_code
def yX5_undo : MethodName := ⟨RX5, "undo", "()I"⟩
abbrev cX5_person : ByteArray := prog_1_method_15_code
def yX5_person : MethodName := ⟨RX5, "person", "(II)I"⟩
abbrev cX5_fits : ByteArray := prog_1_method_16_code
def yX5_fits : MethodName := ⟨RX5, "fits", "(III)I"⟩
abbrev cX5_hiding : ByteArray := prog_1_method_17_code
def yX5_hiding : MethodName := ⟨RX5, "hiding", "(I)I"⟩
abbrev cX5_clear : ByteArray := prog_1_method_18_code
def yX5_clear : MethodName := ⟨RX5, "clear", "(I)I"⟩
abbrev cX5_coin : ByteArray := prog_1_method_19_code
def yX5_coin : MethodName := ⟨RX5, "coin", "(I)I"⟩
abbrev cX5_run : ByteArray := prog_1_method_20_code
def yX5_run : MethodName := ⟨RX5, "run", "(II)I"⟩
abbrev cX5_cheats : ByteArray := prog_1_method_21_code
def yX5_cheats : MethodName := ⟨RX5, "cheats", "()I"⟩
abbrev cX5_walk : ByteArray := prog_1_method_22_code
def yX5_walk : MethodName := ⟨RX5, "walk", "(II)I"⟩
abbrev cX5_image : ByteArray := prog_1_method_23_code
def yX5_image : MethodName := ⟨RX5, "image", "(I)I"⟩
abbrev cX5_restore : ByteArray := prog_1_method_24_code
def yX5_restore : MethodName := ⟨RX5, "restore", "(I)I"⟩
abbrev cX5_kind : ByteArray := prog_1_method_25_code
def yX5_kind : MethodName := ⟨RX5, "kind", "(I)I"⟩
abbrev cX5_as : ByteArray := prog_1_method_26_code
def yX5_as : MethodName := ⟨RX5, "as", "(II)I"⟩
abbrev cX5_ask : ByteArray := prog_1_method_27_code
def yX5_ask : MethodName := ⟨RX5, "ask", "(II)I"⟩
abbrev cX5_trace : ByteArray := prog_1_method_28_code
def yX5_trace : MethodName := ⟨RX5, "trace", "(I)I"⟩
abbrev cX5_count : ByteArray := prog_1_method_29_code
def yX5_count : MethodName := ⟨RX5, "count", "(I)I"⟩
abbrev cX5_status : ByteArray := prog_1_method_30_code
def yX5_status : MethodName := ⟨RX5, "status", "()I"⟩
abbrev cX5_found : ByteArray := prog_1_method_31_code
def yX5_found : MethodName := ⟨RX5, "found", "(I)I"⟩
abbrev cX5_foundNothing : ByteArray := prog_1_method_32_code
def yX5_foundNothing : MethodName := ⟨RX5, "foundNothing", "(I)I"⟩
abbrev cX5_isNoRow : ByteArray := prog_1_method_33_code
def yX5_isNoRow : MethodName := ⟨RX5, "isNoRow", "(I)Z"⟩
abbrev cX5_isNoTown : ByteArray := prog_1_method_34_code
def yX5_isNoTown : MethodName := ⟨RX5, "isNoTown", "()Z"⟩
abbrev cX5_isNoPerson : ByteArray := prog_1_method_35_code
def yX5_isNoPerson : MethodName := ⟨RX5, "isNoPerson", "(I)Z"⟩
abbrev cX5_isNoPair : ByteArray := prog_1_method_36_code
def yX5_isNoPair : MethodName := ⟨RX5, "isNoPair", "(II)Z"⟩
abbrev cX5_bitOf : ByteArray := prog_1_method_37_code
def yX5_bitOf : MethodName := ⟨RX5, "bitOf", "(II)I"⟩
abbrev cX5_rowsThere : ByteArray := prog_1_method_38_code
def yX5_rowsThere : MethodName := ⟨RX5, "rowsThere", "()I"⟩
abbrev cX5_areShadesAndNets : ByteArray := prog_1_method_39_code
def yX5_areShadesAndNets : MethodName := ⟨RX5, "areShadesAndNets", "([II)Z"⟩
abbrev cX5_waysToFit : ByteArray := prog_1_method_40_code
def yX5_waysToFit : MethodName := ⟨RX5, "waysToFit", "([III)I"⟩
abbrev cX5_isWithin : ByteArray := prog_1_method_41_code
def yX5_isWithin : MethodName := ⟨RX5, "isWithin", "(II)Z"⟩
abbrev cX5_peopleForetoldPaler : ByteArray := prog_1_method_42_code
def yX5_peopleForetoldPaler : MethodName := ⟨RX5, "peopleForetoldPaler", "()I"⟩
abbrev cX5_gatherNeeds : ByteArray := prog_1_method_43_code
def yX5_gatherNeeds : MethodName := ⟨RX5, "gatherNeeds", "()I"⟩
def RX6 : String := "DebtFrontsModel"
def TX6 : u_T := fun k => match k with
  | 0 => ("DebtFrontsModel", "town", "[I", true)
  | 1 => ("DebtFrontsModel", "trial", "[I", true)
  | 2 => ("DebtFrontsModel", "images", "[I", true)
  | 3 => ("DebtFrontsModel", "kept", "[Z", true)
  | 4 => ("DebtFrontsModel", "was", "[I", true)
  | 5 => ("DebtFrontsModel", "acts", "I", false)
  | 6 => ("DebtFrontsModel", "status", "I", false)
  | 7 => ("DebtFrontsModel", "fault", "I", false)
  | 8 => ("DebtFrontsModel", "sizes", "[I", true)
  | 9 => ("DebtFrontsModel", "lanes", "[I", true)
  | 10 => ("DebtFrontsModel", "items", "[I", true)
  | 11 => ("DebtFrontsModel", "tape", "[I", true)
  | 12 => ("DebtFrontsModel", "fed", "I", false)
  | 13 => ("DebtFrontsModel", "at", "I", false)
  | 14 => ("DebtFrontsModel", "start", "I", false)
  | 15 => ("DebtFrontsModel", "token", "I", false)
  | 16 => ("DebtFrontsModel", "value", "I", false)
  | 17 => ("DebtFrontsModel", "wrong", "I", false)
  | 18 => ("DebtFrontsModel", "got", "I", false)
  | 19 => ("DebtFrontsModel", "six", "[I", true)
  | 20 => ("DebtFrontsModel", "costs", "[I", true)
  | 21 => ("DebtFrontsModel", "many", "I", false)
  | 22 => ("DebtFrontsModel", "traced", "[I", true)
  | _ => ("DebtFrontsModel", "traces", "I", false)
def tyX6 : Nat → FieldType := fun k => match k with
  | 0 => .array .int
  | 1 => .array .int
  | 2 => .array .int
  | 3 => .array .boolean
  | 4 => .array .int
  | 5 => .int
  | 6 => .int
  | 7 => .int
  | 8 => .array .int
  | 9 => .array .int
  | 10 => .array .int
  | 11 => .array .int
  | 12 => .int
  | 13 => .int
  | 14 => .int
  | 15 => .int
  | 16 => .int
  | 17 => .int
  | 18 => .int
  | 19 => .array .int
  | 20 => .array .int
  | 21 => .int
  | 22 => .array .int
  | _ => .int
abbrev wsX60 : List Cond := u_ws RX6 TX6 24
theorem nmX6 : ∀ a, a < 24 → ∀ b, b < 24 → a ≠ b → (TX6 a).2.1 ≠ (TX6 b).2.1 := by decide +kernel
theorem tyX6_ok : ∀ k, k < 24 → parseFieldDescriptor (TX6 k).2.2.1 = some (tyX6 k) := by decide +kernel
abbrev cX6_in : ByteArray := prog_8_method_2_code
def yX6_in : MethodName := ⟨RX6, "in", "(JJJ)Z"⟩
abbrev cX6_init : ByteArray := prog_8_method_3_code
def yX6_init : MethodName := ⟨RX6, "<init>", "()V"⟩
abbrev cX6_finds : ByteArray := prog_8_method_4_code
def yX6_finds : MethodName := ⟨RX6, "finds", "(I)I"⟩
abbrev cX6_fine : ByteArray := prog_8_method_5_code
def yX6_fine : MethodName := ⟨RX6, "fine", "(I)I"⟩
abbrev cX6_isRow : ByteArray := prog_8_method_6_code
def yX6_isRow : MethodName := ⟨RX6, "isRow", "(I)Z"⟩
abbrev cX6_row : ByteArray := prog_8_method_7_code
def yX6_row : MethodName := ⟨RX6, "row", "(III)I"⟩
abbrev cX6_set : ByteArray := prog_8_method_8_code
def yX6_set : MethodName := ⟨RX6, "set", "(III)I"⟩
abbrev cX6_copy : ByteArray := prog_8_method_9_code
def yX6_copy : MethodName := ⟨RX6, "copy", "(IIIII)I"⟩
abbrev cX6_drop : ByteArray := prog_8_method_10_code
def yX6_drop : MethodName := ⟨RX6, "drop", "(I)I"⟩
abbrev cX6_feed : ByteArray := prog_8_method_11_code
def yX6_feed : MethodName := ⟨RX6, "feed", "(JI)I"⟩
abbrev cX6_isAt : ByteArray := prog_8_method_12_code
def yX6_isAt : MethodName := ⟨RX6, "isAt", "(II)Z"⟩
abbrev cX6_scans : ByteArray := prog_8_method_13_code
def yX6_scans : MethodName := ⟨RX6, "scans", "()V"⟩
abbrev cX6_faults : ByteArray := prog_8_method_14_code
def yX6_faults : MethodName := ⟨RX6, "faults", "(I)Z"⟩
abbrev cX6_takes : ByteArray := prog_8_method_15_code
def yX6_takes : MethodName := ⟨RX6, "takes", "(II)Z"⟩
abbrev cX6_ends : ByteArray := prog_8_method_16_code
def yX6_ends : MethodName := ⟨RX6, "ends", "()Z"⟩
abbrev cX6_law : ByteArray := prog_8_method_17_code
def yX6_law : MethodName := ⟨RX6, "law", "()Z"⟩
abbrev cX6_person : ByteArray := prog_8_method_18_code
def yX6_person : MethodName := ⟨RX6, "person", "()Z"⟩
abbrev cX6_debt : ByteArray := prog_8_method_19_code
def yX6_debt : MethodName := ⟨RX6, "debt", "(I)Z"⟩
abbrev cX6_reads : ByteArray := prog_8_method_20_code
def yX6_reads : MethodName := ⟨RX6, "reads", "()Z"⟩
abbrev cX6_town : ByteArray := prog_8_method_21_code
def yX6_town : MethodName := ⟨RX6, "town", "()I"⟩
abbrev cX6_fault : ByteArray := prog_8_method_22_code
def yX6_fault : MethodName := ⟨RX6, "fault", "()I"⟩
abbrev cX6_isOne : ByteArray := prog_8_method_23_code
def yX6_isOne : MethodName := ⟨RX6, "isOne", "(I)Z"⟩
abbrev cX6_areTwo : ByteArray := prog_8_method_24_code
def yX6_areTwo : MethodName := ⟨RX6, "areTwo", "(II)Z"⟩
abbrev cX6_owedIn : ByteArray := prog_8_method_25_code
def yX6_owedIn : MethodName := ⟨RX6, "owedIn", "([II)I"⟩
abbrev cX6_shadeIn : ByteArray := prog_8_method_26_code
def yX6_shadeIn : MethodName := ⟨RX6, "shadeIn", "([II)I"⟩
abbrev cX6_looks : ByteArray := prog_8_method_27_code
def yX6_looks : MethodName := ⟨RX6, "looks", "(I)I"⟩
abbrev cX6_netOf : ByteArray := prog_8_method_28_code
def yX6_netOf : MethodName := ⟨RX6, "netOf", "(I)I"⟩
abbrev cX6_pays : ByteArray := prog_8_method_29_code
def yX6_pays : MethodName := ⟨RX6, "pays", "([II)I"⟩
abbrev cX6_remembers : ByteArray := prog_8_method_30_code
def yX6_remembers : MethodName := ⟨RX6, "remembers", "()V"⟩
abbrev cX6_loan : ByteArray := prog_8_method_31_code
def yX6_loan : MethodName := ⟨RX6, "loan", "(III)I"⟩
abbrev cX6_pay : ByteArray := prog_8_method_32_code
def yX6_pay : MethodName := ⟨RX6, "pay", "(III)I"⟩
abbrev cX6_paint : ByteArray := prog_8_method_33_code
def yX6_paint : MethodName := ⟨RX6, "paint", "(II)I"⟩
abbrev cX6_hedge : ByteArray := prog_8_method_34_code
def yX6_hedge : MethodName := ⟨RX6, "hedge", "(II)I"⟩
abbrev cX6_quarter : ByteArray := prog_8_method_35_code
def yX6_quarter : MethodName := ⟨RX6, "quarter", "(I)I"⟩
abbrev cX6_undo : ByteArray := prog_8_method_36_code
def yX6_undo : MethodName := ⟨RX6, "undo", "()I"⟩
abbrev cX6_person_ : ByteArray := prog_8_method_37_code
def yX6_person_ : MethodName := ⟨RX6, "person", "(II)I"⟩
abbrev cX6_fits : ByteArray := prog_8_method_38_code
def yX6_fits : MethodName := ⟨RX6, "fits", "(III)I"⟩
abbrev cX6_tries : ByteArray := prog_8_method_39_code
def yX6_tries : MethodName := ⟨RX6, "tries", "()V"⟩
abbrev cX6_hiding : ByteArray := prog_8_method_40_code
def yX6_hiding : MethodName := ⟨RX6, "hiding", "(I)I"⟩
abbrev cX6_needs : ByteArray := prog_8_method_41_code
def yX6_needs : MethodName := ⟨RX6, "needs", "()V"⟩
abbrev cX6_clear : ByteArray := prog_8_method_42_code
def yX6_clear : MethodName := ⟨RX6, "clear", "(I)I"⟩
abbrev cX6_coin : ByteArray := prog_8_method_43_code
def yX6_coin : MethodName := ⟨RX6, "coin", "(I)I"⟩
abbrev cX6_run : ByteArray := prog_8_method_44_code
def yX6_run : MethodName := ⟨RX6, "run", "(II)I"⟩
abbrev cX6_cheats : ByteArray := prog_8_method_45_code
def yX6_cheats : MethodName := ⟨RX6, "cheats", "()I"⟩
abbrev cX6_walk : ByteArray := prog_8_method_46_code
def yX6_walk : MethodName := ⟨RX6, "walk", "(II)I"⟩
abbrev cX6_image : ByteArray := prog_8_method_47_code
def yX6_image : MethodName := ⟨RX6, "image", "(I)I"⟩
abbrev cX6_restore : ByteArray := prog_8_method_48_code
def yX6_restore : MethodName := ⟨RX6, "restore", "(I)I"⟩
abbrev cX6_kindOf : ByteArray := prog_8_method_49_code
def yX6_kindOf : MethodName := ⟨RX6, "kindOf", "(I)I"⟩
abbrev cX6_kind : ByteArray := prog_8_method_50_code
def yX6_kind : MethodName := ⟨RX6, "kind", "(I)I"⟩
abbrev cX6_as : ByteArray := prog_8_method_51_code
def yX6_as : MethodName := ⟨RX6, "as", "(II)I"⟩
abbrev cX6_leaves : ByteArray := prog_8_method_52_code
def yX6_leaves : MethodName := ⟨RX6, "leaves", "(I)V"⟩
abbrev cX6_sizeLent : ByteArray := prog_8_method_53_code
def yX6_sizeLent : MethodName := ⟨RX6, "sizeLent", "(I)I"⟩
abbrev cX6_markLent : ByteArray := prog_8_method_54_code
def yX6_markLent : MethodName := ⟨RX6, "markLent", "(I)I"⟩
abbrev cX6_markOwing : ByteArray := prog_8_method_55_code
def yX6_markOwing : MethodName := ⟨RX6, "markOwing", "(II)I"⟩
abbrev cX6_sizeFree : ByteArray := prog_8_method_56_code
def yX6_sizeFree : MethodName := ⟨RX6, "sizeFree", "(II)I"⟩
abbrev cX6_markFree : ByteArray := prog_8_method_57_code
def yX6_markFree : MethodName := ⟨RX6, "markFree", "(II)I"⟩
abbrev cX6_sizeOwing : ByteArray := prog_8_method_58_code
def yX6_sizeOwing : MethodName := ⟨RX6, "sizeOwing", "(II)I"⟩
abbrev cX6_ask : ByteArray := prog_8_method_59_code
def yX6_ask : MethodName := ⟨RX6, "ask", "(II)I"⟩
abbrev cX6_trace : ByteArray := prog_8_method_60_code
def yX6_trace : MethodName := ⟨RX6, "trace", "(I)I"⟩
abbrev cX6_count : ByteArray := prog_8_method_61_code
def yX6_count : MethodName := ⟨RX6, "count", "(I)I"⟩
abbrev cX6_status : ByteArray := prog_8_method_62_code
def yX6_status : MethodName := ⟨RX6, "status", "()I"⟩
def RJ9 : String := "java/lang/Math"
def TJ9 : u_T := fun k => match k with
  | _ => ("", "", "", false)
def tyJ9 : Nat → FieldType := fun k => match k with
  | _ => .int
abbrev wsJ90 : List Cond := u_ws RJ9 TJ9 0
theorem nmJ9 : ∀ a, a < 0 → ∀ b, b < 0 → a ≠ b → (TJ9 a).2.1 ≠ (TJ9 b).2.1 := by decide +kernel
theorem tyJ9_ok : ∀ k, k < 0 → parseFieldDescriptor (TJ9 k).2.2.1 = some (tyJ9 k) := by decide +kernel
abbrev cJ9_min_7cf53 : ByteArray := prog_9_method_69_code
def yJ9_min_7cf53 : MethodName := ⟨RJ9, "min", "(II)I"⟩
def RJ0 : String := "java/lang/String"
def TJ0 : u_T := fun k => match k with
  | _ => ("", "", "", false)
def tyJ0 : Nat → FieldType := fun k => match k with
  | _ => .int
abbrev wsJ00 : List Cond := u_ws RJ0 TJ0 0
theorem nmJ0 : ∀ a, a < 0 → ∀ b, b < 0 → a ≠ b → (TJ0 a).2.1 ≠ (TJ0 b).2.1 := by decide +kernel
theorem tyJ0_ok : ∀ k, k < 0 → parseFieldDescriptor (TJ0 k).2.2.1 = some (tyJ0 k) := by decide +kernel
abbrev cJ0_length_8abf5 : ByteArray := prog_10_method_54_code
def yJ0_length_8abf5 : MethodName := ⟨RJ0, "length", "()I"⟩
abbrev cJ0_charAt_5068e : ByteArray := prog_10_method_56_code
def yJ0_charAt_5068e : MethodName := ⟨RJ0, "charAt", "(I)C"⟩
abbrev cJ0_coder_7d493 : ByteArray := prog_10_method_152_code
def yJ0_coder_7d493 : MethodName := ⟨RJ0, "coder", "()B"⟩
abbrev cJ0_isLatin1_aae02 : ByteArray := prog_10_method_154_code
def yJ0_isLatin1_aae02 : MethodName := ⟨RJ0, "isLatin1", "()Z"⟩
abbrev cJ0_checkIndex_df160 : ByteArray := prog_10_method_155_code
def yJ0_checkIndex_df160 : MethodName := ⟨RJ0, "checkIndex", "(II)V"⟩
def RJ1 : String := "java/lang/StringLatin1"
def TJ1 : u_T := fun k => match k with
  | _ => ("", "", "", false)
def tyJ1 : Nat → FieldType := fun k => match k with
  | _ => .int
abbrev wsJ10 : List Cond := u_ws RJ1 TJ1 0
theorem nmJ1 : ∀ a, a < 0 → ∀ b, b < 0 → a ≠ b → (TJ1 a).2.1 ≠ (TJ1 b).2.1 := by decide +kernel
theorem tyJ1_ok : ∀ k, k < 0 → parseFieldDescriptor (TJ1 k).2.2.1 = some (tyJ1 k) := by decide +kernel
abbrev cJ1_charAt_3b067 : ByteArray := prog_11_method_2_code
def yJ1_charAt_3b067 : MethodName := ⟨RJ1, "charAt", "([BI)C"⟩
def RJ2 : String := "java/lang/StringUTF16"
def TJ2 : u_T := fun k => match k with
  | _ => ("", "", "", false)
def tyJ2 : Nat → FieldType := fun k => match k with
  | _ => .int
abbrev wsJ20 : List Cond := u_ws RJ2 TJ2 0
theorem nmJ2 : ∀ a, a < 0 → ∀ b, b < 0 → a ≠ b → (TJ2 a).2.1 ≠ (TJ2 b).2.1 := by decide +kernel
theorem tyJ2_ok : ∀ k, k < 0 → parseFieldDescriptor (TJ2 k).2.2.1 = some (tyJ2 k) := by decide +kernel
abbrev cJ2_getChar_3b067 : ByteArray := prog_12_method_5_code
def yJ2_getChar_3b067 : MethodName := ⟨RJ2, "getChar", "([BI)C"⟩
abbrev cJ2_length_9d52b : ByteArray := prog_12_method_6_code
def yJ2_length_9d52b : MethodName := ⟨RJ2, "length", "([B)I"⟩
abbrev cJ2_charAt_3b067 : ByteArray := prog_12_method_83_code
def yJ2_charAt_3b067 : MethodName := ⟨RJ2, "charAt", "([BI)C"⟩
abbrev cJ2_checkIndex_2214a : ByteArray := prog_12_method_91_code
def yJ2_checkIndex_2214a : MethodName := ⟨RJ2, "checkIndex", "(I[B)V"⟩
def RJ10 : String := "java/lang/System"
def TJ10 : u_T := fun k => match k with
  | _ => ("", "", "", false)
def tyJ10 : Nat → FieldType := fun k => match k with
  | _ => .int
abbrev wsJ100 : List Cond := u_ws RJ10 TJ10 0
theorem nmJ10 : ∀ a, a < 0 → ∀ b, b < 0 → a ≠ b → (TJ10 a).2.1 ≠ (TJ10 b).2.1 := by decide +kernel
theorem tyJ10_ok : ∀ k, k < 0 → parseFieldDescriptor (TJ10 k).2.2.1 = some (tyJ10 k) := by decide +kernel
def RJ3 : String := "jdk/internal/util/Preconditions"
def TJ3 : u_T := fun k => match k with
  | _ => ("", "", "", false)
def tyJ3 : Nat → FieldType := fun k => match k with
  | _ => .int
abbrev wsJ30 : List Cond := u_ws RJ3 TJ3 0
theorem nmJ3 : ∀ a, a < 0 → ∀ b, b < 0 → a ≠ b → (TJ3 a).2.1 ≠ (TJ3 b).2.1 := by decide +kernel
theorem tyJ3_ok : ∀ k, k < 0 → parseFieldDescriptor (TJ3 k).2.2.1 = some (tyJ3 k) := by decide +kernel
abbrev cJ3_checkIndex_8e157 : ByteArray := prog_14_method_11_code
def yJ3_checkIndex_8e157 : MethodName := ⟨RJ3, "checkIndex", "(IILjava/util/function/BiFunction;)I"⟩
def RL : String := "DebtFrontsLaw"
abbrev cL_law : ByteArray := code
def yL_law : MethodName := ⟨RL, "law", "([I)Z"⟩
end
section
/-! THE WORLD: an abstract heap σ (cells by number), laid at G.1 + k in the machine's heap; what lies outside has a number from EXT on -/
abbrev AE : Type := (Nat × Nat × (Nat → Int32)) ⊕ (Nat × Nat × (Nat → Option Nat)) ⊕ (Nat × List Value)
abbrev AH : Type := Nat → Option AE
abbrev GG : Type := Nat × (Nat → ClassId) × (Nat → Nat → Nat) × (Nat → ClassId) × (Nat → Nat)
abbrev EXT : Nat := 1000000
def ad (G : GG) (k : Nat) : Nat := if k < EXT then G.1 + k else G.2.2.2.2 k
def cV (G : GG) : Value → Value
  | .ref k => .ref (ad G k)
  | v => v
def cE (G : GG) : AE → va_E
  | .inl q => .inl (G.2.2.2.1 q.1, q.2.1, .inl q.2.2)
  | .inr (.inl q) => .inl (G.2.2.2.1 q.1, q.2.1, .inr (.inr (.inr (.inr (fun j => (q.2.2 j).map (ad G))))))
  | .inr (.inr q) => .inr (q.1, q.2.map (cV G))
abbrev classes : List vw_C := [(RX0, TX0, 3), (RX1, TX1, 2), (RX2, TX2, 9), (RX3, TX3, 3), (RX4, TX4, 10), (RX5, TX5, 10), (RX6, TX6, 24)]
def tyA : Nat → FieldType
  | 0 => .int
  | 1 => .byte
  | 2 => .boolean
  | 3 => .object RX3
  | _ => .object RX4
def tysG (G : GG) : List (ClassId × FieldType) := [(G.2.2.2.1 0, .int), (G.2.2.2.1 1, .byte), (G.2.2.2.1 2, .boolean), (G.2.2.2.1 3, .object RX3), (G.2.2.2.1 4, .object RX4)]
abbrev DG (G : GG) : va_G := (G.2.1, G.2.2.1)
abbrev AG (G : GG) : Nat → Prop := fun q => G.1 ≤ q
theorem ad_lt {G : GG} {k : Nat} (h : k < EXT) : ad G k = G.1 + k := by unfold ad; rw [if_pos h]
/-- the cells of σ, of which there are z, lie in H -/
def Wc (G : GG) (z : Nat) (σ : AH) (H : Heap) : Prop := H.size = G.1 + z ∧ z ≤ EXT ∧ ∀ (k : Nat) (e : AE), σ k = some e → k < z ∧ va_at (DG G) classes (G.1 + k, cE G e) H
def tb0 : List Int32 := [1, 3, 7, 15, 17, 49]
def tb1 : List Int32 := [10, 11, 11, 12, 13, 14]
def tb2 : List Int32 := [20, 21, 22, 24, 23, 23]
def lenS : List Nat := [3, 6, 5, 4, 4]
def bytS : List (List Int32) := [[108, 97, 119], [112, 101, 114, 115, 111, 110], [104, 101, 100, 103, 101], [111, 112, 101, 110], [111, 119, 101, 115]]
def txS : List String := ["law", "person", "hedge", "open", "owes"]
def idS : List Nat := [49, 71, 79, 81, 87]
/-- what nobody writes: statics, texts, the link of a nest mate's method -/
def Gx (G : GG) (U : State) (H : Heap) : Prop :=
  (va_Z RX5 "KINDS_THAT_ONE_IS" "[I" (.ref (ad G (EXT + 200))) (AG G) U H ∧ va_T .int (ad G (EXT + 200)) 6 (fun j => .int (tb0.getD j 0)) (AG G) U H) ∧
  (va_Z RX1 "SIZE_BODIES" "[I" (.ref (ad G (EXT + 201))) (AG G) U H ∧ va_T .int (ad G (EXT + 201)) 6 (fun j => .int (tb1.getD j 0)) (AG G) U H) ∧
  (va_Z RX1 "MARK_BODIES" "[I" (.ref (ad G (EXT + 202))) (AG G) U H ∧ va_T .int (ad G (EXT + 202)) 6 (fun j => .int (tb2.getD j 0)) (AG G) U H) ∧
  va_Z "java/lang/String" "COMPACT_STRINGS" "Z" (.int 1) (AG G) U H ∧
  vk_S 5 lenS bytS (fun i => ad G (EXT + i)) (fun i => ad G (EXT + 100 + i)) (AG G) U H ∧
  (∀ i : Nat, i < 5 → vk_R RX2 (idS.getD i 0) (txS.getD i "") (ad G (EXT + i)) U) ∧
  va_Nw (.methodLinkNest RX4 65 yX5_bitOf RX5) U ∧ va_AO RX3 U ∧ va_AO RX4 U
theorem Gx.warm {G : GG} {s U : State} {H : Heap} (hW : s.WarmedH U.vm) (hq : ∀ a : Nat, a < s.heap.size → ¬ AG G a → H[a]? = s.heap[a]?) (h : Gx G s s.heap) : Gx G U H := by
  obtain ⟨⟨a1, a2⟩, ⟨b1, b2⟩, ⟨c1, c2⟩, d1, e1, f1, g1, i1, i2⟩ := h
  have hv := hW.alike
  exact ⟨⟨(a1.moved hv).kept hq, (a2.moved hv).kept hq⟩, ⟨(b1.moved hv).kept hq, (b2.moved hv).kept hq⟩, ⟨(c1.moved hv).kept hq, (c2.moved hv).kept hq⟩, (d1.moved hv).kept hq, (e1.moved hv).kept hq, fun i hi => (f1 i hi).warm hW, va_Nw.warmM hW g1, i1.moved hv, i2.moved hv⟩
theorem Gx.same {G : GG} {U : State} {g : JFrame} {mk : MethodId} {a : Array Value} (h : Gx G U U.heap) : Gx G (U.calling g mk a) (U.calling g mk a).heap := by
  obtain ⟨⟨a1, a2⟩, ⟨b1, b2⟩, ⟨c1, c2⟩, d1, e1, f1, g1, i1, i2⟩ := h
  have hv : U.vm.Alike (U.calling g mk a).vm := Vm.Alike.refl U.vm
  exact ⟨⟨a1.moved hv, a2.moved hv⟩, ⟨b1.moved hv, b2.moved hv⟩, ⟨c1.moved hv, c2.moved hv⟩, d1.moved hv, e1.moved hv, fun i hi => (f1 i hi).same rfl, g1.same rfl rfl, i1.moved hv, i2.moved hv⟩
/-- the words of the tables that hold at every later state -/
def gw : List Cond := lw_tbl.filter goodWord
theorem gw_in {w : Cond} (h : w ∈ gw) : w ∈ lw_tbl := (List.mem_filter.mp h).1
theorem gw_good {w : Cond} (h : w ∈ gw) : (w.onTables && w.keeps) = true ∨ ∃ ty, w = .arrayClass ty := good_of_word (List.mem_filter.mp h).2
abbrev MI : Type := String × ByteArray × Nat × Option FieldType
abbrev TG : Type := Room × (List Frame → Array Value → State → State → Prop) × (Method → Array Value → State → Prop)
def Cx (G : GG) (M : MI) (p : Program) (s : State) (m : MethodId) (args : Array Value) (meth : Method) (c : Code) : Prop :=
  p.tables.exec = Jvm.exec ∧ c.code = M.2.1 ∧ meth.sig.returnType = M.2.2.2 ∧ c.maxLocals = M.2.2.1 ∧ s.vm.findClass M.1 = some m.cls ∧ (∀ w ∈ gw, w.before args s = true) ∧ meth.locks = false ∧ va_K (DG G) classes (tysG G) s ∧ Gx G s s.heap ∧ G.1 ≤ s.heap.size
def LH (G : GG) (ls : Array Slot) (nL : Nat) (L : List (Option Value)) : Prop := ls.size = nL ∧ lv_wf ls ∧ ∀ (i : Nat) (v : Value), L[i]? = some (some v) → ls[i]? = some (.val (cV G v))
/-- FROM HERE the method M comes to its end: heap σ of z cells, kc cells of ks slots new, at pc with the locals L and the stack st -/
def J (G : GG) (oR : String) (oc : ByteArray) (on : Nat) (ort : Option FieldType) (T : TG) (z : Nat) (σ : AH) (kc ks pc : Nat) (L : List (Option Value)) (st : List Value) : Prop :=
  ∀ (p : Program) (l : Launch) (e : Env) (s : State) (m : MethodId) (args : Array Value) (below : List Frame) (meth : Method) (c : Code) (H : Heap) (locs : List Loc) (ls : Array Slot),
    Cx G (oR, oc, on, ort) p s m args meth c → T.2.2 meth args s → Wc G z σ H → va_S (AG G) s.heap H locs → LH G ls on L →
    W p l e T.1 s m args below meth c H locs kc ks (T.2.1 below args s) (F0 m pc ls (st.map (cV G)))
abbrev rmm (n mc ms : Nat) : Room := { frames := n, cells := mc, slots := ms, locals := 40 * n }
def Qr (G : GG) (r : Option Value) (z1 : Nat) (σ1 : AH) : Array Value → State → Outcome → State → Prop := fun _ st o t => o = .returned (r.map (cV G)) ∧ Wc G z1 σ1 t.heap ∧ va_F (AG G) st t
abbrev TQ (G : GG) (n mc ms : Nat) (r : Option Value) (z1 : Nat) (σ1 : AH) : TG := (rmm n mc ms, fun below args s => MQ below (Qr G r z1 σ1) args s mc ms (AG G), fun _ _ _ => True)
abbrev TI (G : GG) (n mc ms : Nat) (z1 : Nat) (σ1 : AH) : TG := (rmm n mc ms, fun below args s => MQ below (Qr G none z1 σ1) args s mc ms (AG G), fun meth _ _ => meth.name = "<init>")
/-- A CONTRACT: from the heap σ with args the method y answers r and leaves σ1 -/
def Ct (G : GG) (y : MethodName) (cc : ByteArray) (nL : Nat) (ret : Option FieldType) (n mc ms z : Nat) (σ : AH) (args : List Value) (r : Option Value) (z1 : Nat) (σ1 : AH) : Prop :=
  ∀ l : Launch, Met l y (.code y cc nL ret :: gw) (rmm n mc ms) (va_Pc (args.map (cV G)) (fun U => Wc G z σ U.heap ∧ va_K (DG G) classes (tysG G) U ∧ Gx G U U.heap ∧ G.1 ≤ U.heap.size)) (Qr G r z1 σ1) mc ms (AG G)
/-- the locals at the entry -/
def padL (nL : Nat) (vs : List Value) : List (Option Value) := (vs.flatMap fun v => if v.category = 2 then [some v, none] else [some v]) ++ List.replicate (nL - (vs.flatMap fun v => if v.category = 2 then [some v, none] else [some v]).length) none
theorem cV_cat (G : GG) (v : Value) : (cV G v).category = v.category := by cases v <;> rfl
theorem lg_sl_len (G : GG) (vs : List Value) : (lg_sl (vs.map (cV G))).length = (vs.flatMap fun v => if v.category = 2 then [some v, none] else [some v]).length := by
  induction vs with
  | nil => rfl
  | cons v t ih =>
    simp only [lg_sl, List.map_cons, List.flatMap_cons, List.length_append, cV_cat] at ih ⊢
    rw [ih]
    congr 1
    by_cases h : v.category = 2 <;> simp [h]
theorem lg_sl_at (G : GG) (vs : List Value) : ∀ (i : Nat) (v : Value), (vs.flatMap fun v => if v.category = 2 then [some v, none] else [some v])[i]? = some (some v) → (lg_sl (vs.map (cV G)))[i]? = some (.val (cV G v)) := by
  induction vs with
  | nil => intro i v h; simp at h
  | cons w t ih =>
    intro i v h
    simp only [lg_sl, List.map_cons, List.flatMap_cons, cV_cat] at ih ⊢ h
    by_cases hc : w.category = 2
    · simp only [hc, if_true, List.cons_append, List.nil_append] at h ⊢
      match i with
      | 0 => simp at h; subst h; simp
      | 1 => simp at h
      | i + 2 => simp only [List.getElem?_cons_succ] at h ⊢; exact ih i v h
    · simp only [hc, if_false, List.cons_append, List.nil_append] at h ⊢
      match i with
      | 0 => simp at h; subst h; simp
      | i + 1 => simp only [List.getElem?_cons_succ] at h ⊢; exact ih i v h
theorem LH.entry {G : GG} {nL : Nat} {vs : List Value} (h : (vs.flatMap fun v => if v.category = 2 then [some v, none] else [some v]).length ≤ nL) : LH G ((lg_sl (vs.map (cV G)) ++ List.replicate (nL - (lg_sl (vs.map (cV G))).length) Slot.unset).toArray) nL (padL nL vs) := by
  have h1 := lv_entry (vs.map (cV G)) (n := nL) (by rw [lg_sl_len]; exact h)
  refine ⟨h1.1, h1.2.1, fun i v hi => ?_⟩
  unfold padL at hi
  by_cases hl : i < (vs.flatMap fun v => if v.category = 2 then [some v, none] else [some v]).length
  · rw [List.getElem?_append_left hl] at hi
    have h2 := lg_sl_at G vs i v hi
    simp only [List.getElem?_toArray]
    rw [List.getElem?_append_left (by rw [lg_sl_len]; exact hl)]
    exact h2
  · rw [List.getElem?_append_right (by omega), List.getElem?_replicate] at hi
    split at hi <;> simp at hi
theorem Ct.ofJ {G : GG} {y : MethodName} {cc : ByteArray} {nL : Nat} {ret : Option FieldType} {n mc ms z : Nat} {σ : AH} {args : List Value} {r : Option Value} {z1 : Nat} {σ1 : AH} (R : String) (hR : y.cls = R) (L : List (Option Value)) (hL : padL nL args = L) (hy : plainName y.cls = true) (hn : (args.flatMap fun v => if v.category = 2 then [some v, none] else [some v]).length ≤ nL)
    (h : J G R cc nL ret (TQ G n mc ms r z1 σ1) z σ 0 0 0 L []) : Ct G y cc nL ret n mc ms z σ args r z1 σ1 := by
  intro l
  refine Met.ofW (cc := cc) (maxL := nL) (ret := ret) hy rfl ?_
  intro p e s m as below meth c s₁ B hml hv
  obtain ⟨rfl, hw, hk, hg, hb⟩ := hv
  have hts := atoms_spec (ws := .code y cc nL ret :: gw) B.pre
  rw [lg_entry_eq]
  subst hL; subst hR
  exact h p l e s m _ below meth c s.heap [] _ ⟨B.exec, B.bytes, B.returns, hml, findClass_of_methodNamed B.named, fun w hw => hts w (List.mem_cons_of_mem _ hw), B.notSynchronized, hk, hg, hb⟩ trivial hw va_S.rf (LH.entry hn)
theorem Ct.ofJI {G : GG} {y : MethodName} {cc : ByteArray} {nL : Nat} {ret : Option FieldType} {n mc ms z : Nat} {σ : AH} {args : List Value} {z1 : Nat} {σ1 : AH} (R : String) (hR : y.cls = R) (L : List (Option Value)) (hL : padL nL args = L) (hy : plainName y.cls = true) (hyn : y.name = "<init>") (hn : (args.flatMap fun v => if v.category = 2 then [some v, none] else [some v]).length ≤ nL)
    (h : J G R cc nL ret (TI G n mc ms z1 σ1) z σ 0 0 0 L []) : Ct G y cc nL ret n mc ms z σ args none z1 σ1 := by
  intro l
  refine Met.ofW (cc := cc) (maxL := nL) (ret := ret) hy rfl ?_
  intro p e s m as below meth c s₁ B hml hv
  obtain ⟨rfl, hw, hk, hg, hb⟩ := hv
  have hts := atoms_spec (ws := .code y cc nL ret :: gw) B.pre
  rw [lg_entry_eq]
  subst hL; subst hR
  exact h p l e s m _ below meth c s.heap [] _ ⟨B.exec, B.bytes, B.returns, hml, findClass_of_methodNamed B.named, fun w hw => hts w (List.mem_cons_of_mem _ hw), B.notSynchronized, hk, hg, hb⟩ (by show meth.name = "<init>"; rw [← hyn]; exact (name_of_methodNamed B.named B.method).1) hw va_S.rf (LH.entry hn)
end
section
/-! LOCALS: what the kit's list of places says, in our list -/
def prsL (G : GG) (L : List (Option Value)) : List (Nat × Value) := L.zipIdx.filterMap fun q => q.1.map fun v => (q.2, cV G v)
theorem prs_mem {G : GG} {L : List (Option Value)} {i : Nat} {w : Value} : (i, w) ∈ prsL G L ↔ ∃ v, L[i]? = some (some v) ∧ w = cV G v := by
  unfold prsL
  rw [List.mem_filterMap]
  constructor
  · rintro ⟨⟨o, j⟩, hm, ho⟩
    rw [List.mem_zipIdx_iff_getElem?] at hm
    cases o with
    | none => simp at ho
    | some v =>
      simp at ho
      obtain ⟨rfl, rfl⟩ := ho
      exact ⟨v, hm, rfl⟩
  · rintro ⟨v, hv, rfl⟩
    exact ⟨(some v, i), by rw [List.mem_zipIdx_iff_getElem?]; exact hv, rfl⟩
theorem LH.prs {G : GG} {ls : Array Slot} {nL : Nat} {L : List (Option Value)} (h : LH G ls nL L) : lv_has ls nL (prsL G L) := by
  refine ⟨h.1, h.2.1, fun q hq => ?_⟩
  obtain ⟨v, h1, h2⟩ := prs_mem.mp (show (q.1, q.2) ∈ prsL G L from hq)
  rw [h2]
  exact h.2.2 q.1 v h1
theorem LH.at {G : GG} {ls : Array Slot} {nL : Nat} {L : List (Option Value)} (_ : LH G ls nL L) {i : Nat} {x : Int32} (hx : L[i]? = some (some (.int x))) : ∃ q : Nat, (prsL G L)[q]? = some (i, Value.int x) := List.getElem?_of_mem (prs_mem.mpr ⟨_, hx, rfl⟩)
/-- no long lies in the place ahead -/
def lok (L : List (Option Value)) : Nat → Bool
  | 0 => true
  | i + 1 => match L[i]? with
    | some (some (.long _)) => false
    | some (some (.double _)) => false
    | _ => true
theorem lok_cat {L : List (Option Value)} {i j : Nat} {v : Value} (h : lok L i = true) (hv : L[j]? = some (some v)) (hj : j + 1 = i) : ¬ v.category = 2 := by
  subst hj
  cases v <;> simp [lok, hv, Value.category] at h ⊢
theorem LH.set {G : GG} {ls ls1 : Array Slot} {nL : Nat} {L : List (Option Value)} (_ : LH G ls nL L) {i : Nat} {v : Value} (hc : lok L i = true) (h1 : lv_has ls1 nL ((i, cV G v) :: (prsL G L).filter (fun q => !(q.1 == i) && !(q.1 + 1 == i && q.2.category == 2)))) : LH G ls1 nL (L.set i (some v)) := by
  refine ⟨h1.1, h1.2.1, fun j w hj => ?_⟩
  by_cases hij : j = i
  · subst hij
    have hl : j < L.length := by
      have := (List.getElem?_eq_some_iff.mp hj).1
      simpa using this
    rw [List.getElem?_set_self hl] at hj
    cases hj
    exact h1.2.2 (j, cV G v) List.mem_cons_self
  · rw [List.getElem?_set_ne (Ne.symm hij)] at hj
    refine h1.2.2 (j, cV G w) (List.mem_cons_of_mem _ (List.mem_filter.mpr ⟨prs_mem.mpr ⟨w, hj, rfl⟩, ?_⟩))
    by_cases hji : j + 1 = i
    · have := lok_cat hc hj hji
      simp [hij, cV_cat, this]
    · simp [hij, hji]
theorem LH.set2 {G : GG} {ls ls1 : Array Slot} {nL : Nat} {L : List (Option Value)} (_ : LH G ls nL L) {i : Nat} {v : Value} (hc : lok L i = true) (h1 : lv_has ls1 nL ((i, cV G v) :: (prsL G L).filter (fun q => !(q.1 == i) && (!(q.1 == i + 1) && !(q.1 + 1 == i && q.2.category == 2))))) : LH G ls1 nL ((L.set i (some v)).set (i + 1) none) := by
  refine ⟨h1.1, h1.2.1, fun j w hj => ?_⟩
  by_cases hj1 : j = i + 1
  · subst hj1
    have hl : i + 1 < (L.set i (some v)).length := by
      have := (List.getElem?_eq_some_iff.mp hj).1
      simpa using this
    rw [List.getElem?_set_self hl] at hj
    cases hj
  · rw [List.getElem?_set_ne (Ne.symm hj1)] at hj
    by_cases hij : j = i
    · subst hij
      have hl : j < L.length := by
        have := (List.getElem?_eq_some_iff.mp hj).1
        simpa using this
      rw [List.getElem?_set_self hl] at hj
      cases hj
      exact h1.2.2 (j, cV G v) List.mem_cons_self
    · rw [List.getElem?_set_ne (Ne.symm hij)] at hj
      refine h1.2.2 (j, cV G w) (List.mem_cons_of_mem _ (List.mem_filter.mpr ⟨prs_mem.mpr ⟨w, hj, rfl⟩, ?_⟩))
      by_cases hji : j + 1 = i
      · have := lok_cat hc hj hji
        simp [hij, hj1, cV_cat, this]
      · simp [hij, hj1, hji]
/-! ROWS OF J, one an instruction (printed by wip/tools/mkrows.py) -/
section JR
variable {G : GG} {oR : String} {oc : ByteArray} {on : Nat} {ort : Option FieldType} {T : TG} {z kc ks pc : Nat} {σ : AH} {L : List (Option Value)} {st : List Value}
theorem j_iconst {n : Int} (v : Int32) (hd : decode oc pc = .ok (.iconst n, 1)) (hv : Int32.ofInt n = v) (k : J G oR oc on ort T z σ kc ks (pc + 1) L (.int v :: st)) : J G oR oc on ort T z σ kc ks pc L st := by
  intro p l e s m args below meth c H locs ls C X hw hS hL
  exact lv_iconst C.1 C.2.1 hd hv (k p l e s m args below meth c H locs ls C X hw hS hL)
theorem j_bipush {n : Int} (v : Int32) (hd : decode oc pc = .ok (.bipush n, 2)) (hv : (Int8.ofInt n).toInt32 = v) (k : J G oR oc on ort T z σ kc ks (pc + 2) L (.int v :: st)) : J G oR oc on ort T z σ kc ks pc L st := by
  intro p l e s m args below meth c H locs ls C X hw hS hL
  exact lv_bipush C.1 C.2.1 hd hv (k p l e s m args below meth c H locs ls C X hw hS hL)
theorem j_sipush {n : Int} (v : Int32) (hd : decode oc pc = .ok (.sipush n, 3)) (hv : (Int16.ofInt n).toInt32 = v) (k : J G oR oc on ort T z σ kc ks (pc + 3) L (.int v :: st)) : J G oR oc on ort T z σ kc ks pc L st := by
  intro p l e s m args below meth c H locs ls C X hw hS hL
  exact lv_sipush C.1 C.2.1 hd hv (k p l e s m args below meth c H locs ls C X hw hS hL)
theorem j_lconst {n : Fin 2} (v : Int64) (hd : decode oc pc = .ok (.lconst n, 1)) (hv : Int64.ofNat (n : Nat) = v) (k : J G oR oc on ort T z σ kc ks (pc + 1) L (.long v :: st)) : J G oR oc on ort T z σ kc ks pc L st := by
  intro p l e s m args below meth c H locs ls C X hw hS hL
  exact lv_lconst C.1 C.2.1 hd hv (k p l e s m args below meth c H locs ls C X hw hS hL)
theorem j_ldc {ix : Nat} (v : Int32) (hd : decode oc pc = .ok (.ldc ix, 2)) (hw0 : Cond.constant oR ix v ∈ gw) (k : J G oR oc on ort T z σ kc ks (pc + 2) L (.int v :: st)) : J G oR oc on ort T z σ kc ks pc L st := by
  intro p l e s m args below meth c H locs ls C X hw hS hL
  exact lv_ldc C.1 C.2.1 C.2.2.2.2.1 (C.2.2.2.2.2.1 _ hw0) hd (k p l e s m args below meth c H locs ls C X hw hS hL)
theorem j_ldc2 {ix : Nat} (v : Int64) (hd : decode oc pc = .ok (.ldc2_w ix, 3)) (hw0 : Cond.constantLong oR ix v ∈ gw) (k : J G oR oc on ort T z σ kc ks (pc + 3) L (.long v :: st)) : J G oR oc on ort T z σ kc ks pc L st := by
  intro p l e s m args below meth c H locs ls C X hw hS hL
  exact lv_ldc2 C.1 C.2.1 C.2.2.2.2.1 (C.2.2.2.2.2.1 _ hw0) hd (k p l e s m args below meth c H locs ls C X hw hS hL)
theorem j_iload_n {q : Fin 4} {i : Nat} {x : Int32} (hd : decode oc pc = .ok (.iload_n q, 1)) (hi : (q : Nat) = i) (hx : L[i]? = some (some (.int x))) (k : J G oR oc on ort T z σ kc ks (pc + 1) L (.int x :: st)) : J G oR oc on ort T z σ kc ks pc L st := by
  intro p l e s m args below meth c H locs ls C X hw hS hL
  exact lv_iload_n C.1 C.2.1 hd hi (hL.2.2 i _ hx) (k p l e s m args below meth c H locs ls C X hw hS hL)
theorem j_iload {i : Nat} {x : Int32} (hd : decode oc pc = .ok (.iload i, 2)) (hx : L[i]? = some (some (.int x))) (k : J G oR oc on ort T z σ kc ks (pc + 2) L (.int x :: st)) : J G oR oc on ort T z σ kc ks pc L st := by
  intro p l e s m args below meth c H locs ls C X hw hS hL
  exact lv_iload C.1 C.2.1 hd (hL.2.2 i _ hx) (k p l e s m args below meth c H locs ls C X hw hS hL)
theorem j_lload_n {q : Fin 4} {i : Nat} {x : Int64} (hd : decode oc pc = .ok (.lload_n q, 1)) (hi : (q : Nat) = i) (hx : L[i]? = some (some (.long x))) (k : J G oR oc on ort T z σ kc ks (pc + 1) L (.long x :: st)) : J G oR oc on ort T z σ kc ks pc L st := by
  intro p l e s m args below meth c H locs ls C X hw hS hL
  exact lv_lload_n C.1 C.2.1 hd hi (hL.2.2 i _ hx) (k p l e s m args below meth c H locs ls C X hw hS hL)
theorem j_lload {i : Nat} {x : Int64} (hd : decode oc pc = .ok (.lload i, 2)) (hx : L[i]? = some (some (.long x))) (k : J G oR oc on ort T z σ kc ks (pc + 2) L (.long x :: st)) : J G oR oc on ort T z σ kc ks pc L st := by
  intro p l e s m args below meth c H locs ls C X hw hS hL
  exact lv_lload C.1 C.2.1 hd (hL.2.2 i _ hx) (k p l e s m args below meth c H locs ls C X hw hS hL)
theorem j_aload_n {q : Fin 4} {i : Nat} {x : Nat} (hd : decode oc pc = .ok (.aload_n q, 1)) (hi : (q : Nat) = i) (hx : L[i]? = some (some (.ref x))) (k : J G oR oc on ort T z σ kc ks (pc + 1) L (.ref x :: st)) : J G oR oc on ort T z σ kc ks pc L st := by
  intro p l e s m args below meth c H locs ls C X hw hS hL
  exact lv_aload_n C.1 C.2.1 hd hi (hL.2.2 i _ hx) (k p l e s m args below meth c H locs ls C X hw hS hL)
theorem j_aload {i : Nat} {x : Nat} (hd : decode oc pc = .ok (.aload i, 2)) (hx : L[i]? = some (some (.ref x))) (k : J G oR oc on ort T z σ kc ks (pc + 2) L (.ref x :: st)) : J G oR oc on ort T z σ kc ks pc L st := by
  intro p l e s m args below meth c H locs ls C X hw hS hL
  exact lv_aload C.1 C.2.1 hd (hL.2.2 i _ hx) (k p l e s m args below meth c H locs ls C X hw hS hL)
theorem j_istore_n {q : Fin 4} {i : Nat} {x : Int32} (hd : decode oc pc = .ok (.istore_n q, 1)) (hi : (q : Nat) = i) (hn : i < on) (hc : lok L i = true) (k : J G oR oc on ort T z σ kc ks (pc + 1) (L.set i (some (.int x))) st) : J G oR oc on ort T z σ kc ks pc L (.int x :: st) := by
  intro p l e s m args below meth c H locs ls C X hw hS hL
  refine lv_istore_n C.1 C.2.1 hd hi (LH.prs hL) hn rfl fun ls1 h1 => ?_
  exact k p l e s m args below meth c H locs ls1 C X hw hS (LH.set hL hc h1)
theorem j_istore {i : Nat} {x : Int32} (hd : decode oc pc = .ok (.istore i, 2)) (hn : i < on) (hc : lok L i = true) (k : J G oR oc on ort T z σ kc ks (pc + 2) (L.set i (some (.int x))) st) : J G oR oc on ort T z σ kc ks pc L (.int x :: st) := by
  intro p l e s m args below meth c H locs ls C X hw hS hL
  refine lv_istore C.1 C.2.1 hd (LH.prs hL) hn rfl fun ls1 h1 => ?_
  exact k p l e s m args below meth c H locs ls1 C X hw hS (LH.set hL hc h1)
theorem j_astore_n {q : Fin 4} {i : Nat} {x : Nat} (hd : decode oc pc = .ok (.astore_n q, 1)) (hi : (q : Nat) = i) (hn : i < on) (hc : lok L i = true) (k : J G oR oc on ort T z σ kc ks (pc + 1) (L.set i (some (.ref x))) st) : J G oR oc on ort T z σ kc ks pc L (.ref x :: st) := by
  intro p l e s m args below meth c H locs ls C X hw hS hL
  refine lv_astore_n C.1 C.2.1 hd hi (LH.prs hL) hn rfl fun ls1 h1 => ?_
  exact k p l e s m args below meth c H locs ls1 C X hw hS (LH.set hL hc h1)
theorem j_astore {i : Nat} {x : Nat} (hd : decode oc pc = .ok (.astore i, 2)) (hn : i < on) (hc : lok L i = true) (k : J G oR oc on ort T z σ kc ks (pc + 2) (L.set i (some (.ref x))) st) : J G oR oc on ort T z σ kc ks pc L (.ref x :: st) := by
  intro p l e s m args below meth c H locs ls C X hw hS hL
  refine lv_astore C.1 C.2.1 hd (LH.prs hL) hn rfl fun ls1 h1 => ?_
  exact k p l e s m args below meth c H locs ls1 C X hw hS (LH.set hL hc h1)
theorem j_lstore_n {q : Fin 4} {i : Nat} {x : Int64} (hd : decode oc pc = .ok (.lstore_n q, 1)) (hi : (q : Nat) = i) (hn : i + 1 < on) (hc : lok L i = true) (k : J G oR oc on ort T z σ kc ks (pc + 1) ((L.set i (some (.long x))).set (i + 1) none) st) : J G oR oc on ort T z σ kc ks pc L (.long x :: st) := by
  intro p l e s m args below meth c H locs ls C X hw hS hL
  refine lv_lstore_n C.1 C.2.1 hd hi (LH.prs hL) hn rfl fun ls1 h1 => ?_
  exact k p l e s m args below meth c H locs ls1 C X hw hS (LH.set2 hL hc h1)
theorem j_lstore {i : Nat} {x : Int64} (hd : decode oc pc = .ok (.lstore i, 2)) (hn : i + 1 < on) (hc : lok L i = true) (k : J G oR oc on ort T z σ kc ks (pc + 2) ((L.set i (some (.long x))).set (i + 1) none) st) : J G oR oc on ort T z σ kc ks pc L (.long x :: st) := by
  intro p l e s m args below meth c H locs ls C X hw hS hL
  refine lv_lstore C.1 C.2.1 hd (LH.prs hL) hn rfl fun ls1 h1 => ?_
  exact k p l e s m args below meth c H locs ls1 C X hw hS (LH.set2 hL hc h1)
theorem j_iinc {i : Nat} {n : Int} {x : Int32} (v : Int32) (hd : decode oc pc = .ok (.iinc i n, 3)) (hx : L[i]? = some (some (.int x))) (hv : x + Int32.ofInt n = v) (hn : i < on) (hc : lok L i = true) (k : J G oR oc on ort T z σ kc ks (pc + 3) (L.set i (some (.int v))) st) : J G oR oc on ort T z σ kc ks pc L st := by
  intro p l e s m args below meth c H locs ls C X hw hS hL
  obtain ⟨q, hq⟩ := LH.at hL hx
  refine lv_iinc C.1 C.2.1 hd (LH.prs hL) (k := q) hq hv hn rfl fun ls1 h1 => ?_
  exact k p l e s m args below meth c H locs ls1 C X hw hS (LH.set hL hc h1)
theorem j_iadd {x y : Int32} (hd : decode oc pc = .ok (.iadd, 1)) (k : J G oR oc on ort T z σ kc ks (pc + 1) L (.int (x + y) :: st)) : J G oR oc on ort T z σ kc ks pc L (.int y :: .int x :: st) := by
  intro p l e s m args below meth c H locs ls C X hw hS hL
  exact lv_iadd C.1 C.2.1 hd (k p l e s m args below meth c H locs ls C X hw hS hL)
theorem j_isub {x y : Int32} (hd : decode oc pc = .ok (.isub, 1)) (k : J G oR oc on ort T z σ kc ks (pc + 1) L (.int (x - y) :: st)) : J G oR oc on ort T z σ kc ks pc L (.int y :: .int x :: st) := by
  intro p l e s m args below meth c H locs ls C X hw hS hL
  exact lv_isub C.1 C.2.1 hd (k p l e s m args below meth c H locs ls C X hw hS hL)
theorem j_imul {x y : Int32} (hd : decode oc pc = .ok (.imul, 1)) (k : J G oR oc on ort T z σ kc ks (pc + 1) L (.int (x * y) :: st)) : J G oR oc on ort T z σ kc ks pc L (.int y :: .int x :: st) := by
  intro p l e s m args below meth c H locs ls C X hw hS hL
  exact lv_imul C.1 C.2.1 hd (k p l e s m args below meth c H locs ls C X hw hS hL)
theorem j_ishl {x y : Int32} (hd : decode oc pc = .ok (.ishl, 1)) (k : J G oR oc on ort T z σ kc ks (pc + 1) L (.int (x <<< (y &&& 31)) :: st)) : J G oR oc on ort T z σ kc ks pc L (.int y :: .int x :: st) := by
  intro p l e s m args below meth c H locs ls C X hw hS hL
  exact lv_ishl C.1 C.2.1 hd (k p l e s m args below meth c H locs ls C X hw hS hL)
theorem j_ishr {x y : Int32} (hd : decode oc pc = .ok (.ishr, 1)) (k : J G oR oc on ort T z σ kc ks (pc + 1) L (.int (x >>> (y &&& 31)) :: st)) : J G oR oc on ort T z σ kc ks pc L (.int y :: .int x :: st) := by
  intro p l e s m args below meth c H locs ls C X hw hS hL
  exact lv_ishr C.1 C.2.1 hd (k p l e s m args below meth c H locs ls C X hw hS hL)
theorem j_iand {x y : Int32} (hd : decode oc pc = .ok (.iand, 1)) (k : J G oR oc on ort T z σ kc ks (pc + 1) L (.int (x &&& y) :: st)) : J G oR oc on ort T z σ kc ks pc L (.int y :: .int x :: st) := by
  intro p l e s m args below meth c H locs ls C X hw hS hL
  exact lv_iand C.1 C.2.1 hd (k p l e s m args below meth c H locs ls C X hw hS hL)
theorem j_ior {x y : Int32} (hd : decode oc pc = .ok (.ior, 1)) (k : J G oR oc on ort T z σ kc ks (pc + 1) L (.int (x ||| y) :: st)) : J G oR oc on ort T z σ kc ks pc L (.int y :: .int x :: st) := by
  intro p l e s m args below meth c H locs ls C X hw hS hL
  exact lv_ior C.1 C.2.1 hd (k p l e s m args below meth c H locs ls C X hw hS hL)
theorem j_ixor {x y : Int32} (hd : decode oc pc = .ok (.ixor, 1)) (k : J G oR oc on ort T z σ kc ks (pc + 1) L (.int (x ^^^ y) :: st)) : J G oR oc on ort T z σ kc ks pc L (.int y :: .int x :: st) := by
  intro p l e s m args below meth c H locs ls C X hw hS hL
  exact lv_ixor C.1 C.2.1 hd (k p l e s m args below meth c H locs ls C X hw hS hL)
theorem j_idiv {x y : Int32} (hd : decode oc pc = .ok (.idiv, 1)) (hne : ¬ y = 0) (k : J G oR oc on ort T z σ kc ks (pc + 1) L (.int (x / y) :: st)) : J G oR oc on ort T z σ kc ks pc L (.int y :: .int x :: st) := by
  intro p l e s m args below meth c H locs ls C X hw hS hL
  exact lv_idiv C.1 C.2.1 hd hne (k p l e s m args below meth c H locs ls C X hw hS hL)
theorem j_irem {x y : Int32} (hd : decode oc pc = .ok (.irem, 1)) (hne : ¬ y = 0) (k : J G oR oc on ort T z σ kc ks (pc + 1) L (.int (x - x / y * y) :: st)) : J G oR oc on ort T z σ kc ks pc L (.int y :: .int x :: st) := by
  intro p l e s m args below meth c H locs ls C X hw hS hL
  exact lv_irem C.1 C.2.1 hd hne (k p l e s m args below meth c H locs ls C X hw hS hL)
theorem j_ineg {x : Int32} (hd : decode oc pc = .ok (.ineg, 1)) (k : J G oR oc on ort T z σ kc ks (pc + 1) L (.int (-x) :: st)) : J G oR oc on ort T z σ kc ks pc L (.int x :: st) := by
  intro p l e s m args below meth c H locs ls C X hw hS hL
  exact lv_ineg C.1 C.2.1 hd (k p l e s m args below meth c H locs ls C X hw hS hL)
theorem j_ladd {x y : Int64} (hd : decode oc pc = .ok (.ladd, 1)) (k : J G oR oc on ort T z σ kc ks (pc + 1) L (.long (x + y) :: st)) : J G oR oc on ort T z σ kc ks pc L (.long y :: .long x :: st) := by
  intro p l e s m args below meth c H locs ls C X hw hS hL
  exact lv_ladd C.1 C.2.1 hd (k p l e s m args below meth c H locs ls C X hw hS hL)
theorem j_lsub {x y : Int64} (hd : decode oc pc = .ok (.lsub, 1)) (k : J G oR oc on ort T z σ kc ks (pc + 1) L (.long (x - y) :: st)) : J G oR oc on ort T z σ kc ks pc L (.long y :: .long x :: st) := by
  intro p l e s m args below meth c H locs ls C X hw hS hL
  exact lv_lsub C.1 C.2.1 hd (k p l e s m args below meth c H locs ls C X hw hS hL)
theorem j_lmul {x y : Int64} (hd : decode oc pc = .ok (.lmul, 1)) (k : J G oR oc on ort T z σ kc ks (pc + 1) L (.long (x * y) :: st)) : J G oR oc on ort T z σ kc ks pc L (.long y :: .long x :: st) := by
  intro p l e s m args below meth c H locs ls C X hw hS hL
  exact lv_lmul C.1 C.2.1 hd (k p l e s m args below meth c H locs ls C X hw hS hL)
theorem j_land {x y : Int64} (hd : decode oc pc = .ok (.land, 1)) (k : J G oR oc on ort T z σ kc ks (pc + 1) L (.long (x &&& y) :: st)) : J G oR oc on ort T z σ kc ks pc L (.long y :: .long x :: st) := by
  intro p l e s m args below meth c H locs ls C X hw hS hL
  exact lv_land C.1 C.2.1 hd (k p l e s m args below meth c H locs ls C X hw hS hL)
theorem j_lor {x y : Int64} (hd : decode oc pc = .ok (.lor, 1)) (k : J G oR oc on ort T z σ kc ks (pc + 1) L (.long (x ||| y) :: st)) : J G oR oc on ort T z σ kc ks pc L (.long y :: .long x :: st) := by
  intro p l e s m args below meth c H locs ls C X hw hS hL
  exact lv_lor C.1 C.2.1 hd (k p l e s m args below meth c H locs ls C X hw hS hL)
theorem j_lrem {x y : Int64} (hd : decode oc pc = .ok (.lrem, 1)) (hne : ¬ y = 0) (k : J G oR oc on ort T z σ kc ks (pc + 1) L (.long (x - x / y * y) :: st)) : J G oR oc on ort T z σ kc ks pc L (.long y :: .long x :: st) := by
  intro p l e s m args below meth c H locs ls C X hw hS hL
  exact lv_lrem C.1 C.2.1 hd hne (k p l e s m args below meth c H locs ls C X hw hS hL)
theorem j_lshl {x : Int64} {y : Int32} (hd : decode oc pc = .ok (.lshl, 1)) (k : J G oR oc on ort T z σ kc ks (pc + 1) L (.long (x <<< (y.toInt64 &&& 63)) :: st)) : J G oR oc on ort T z σ kc ks pc L (.int y :: .long x :: st) := by
  intro p l e s m args below meth c H locs ls C X hw hS hL
  exact lv_lshl C.1 C.2.1 hd rfl (k p l e s m args below meth c H locs ls C X hw hS hL)
theorem j_lshr {x : Int64} {y : Int32} (hd : decode oc pc = .ok (.lshr, 1)) (k : J G oR oc on ort T z σ kc ks (pc + 1) L (.long (x >>> (y.toInt64 &&& 63)) :: st)) : J G oR oc on ort T z σ kc ks pc L (.int y :: .long x :: st) := by
  intro p l e s m args below meth c H locs ls C X hw hS hL
  exact lv_lshr C.1 C.2.1 hd rfl (k p l e s m args below meth c H locs ls C X hw hS hL)
theorem j_lcmp {x y : Int64} (hd : decode oc pc = .ok (.lcmp, 1)) (k : J G oR oc on ort T z σ kc ks (pc + 1) L (.int (lg_cmp x y) :: st)) : J G oR oc on ort T z σ kc ks pc L (.long y :: .long x :: st) := by
  intro p l e s m args below meth c H locs ls C X hw hS hL
  exact W.lcmp C.1 C.2.1 hd (k p l e s m args below meth c H locs ls C X hw hS hL)
theorem j_i2b {x : Int32} (hd : decode oc pc = .ok (.i2b, 1)) (k : J G oR oc on ort T z σ kc ks (pc + 1) L (.int (x.toInt8.toInt32) :: st)) : J G oR oc on ort T z σ kc ks pc L (.int x :: st) := by
  intro p l e s m args below meth c H locs ls C X hw hS hL
  exact lv_i2b C.1 C.2.1 hd rfl (k p l e s m args below meth c H locs ls C X hw hS hL)
theorem j_i2s {x : Int32} (hd : decode oc pc = .ok (.i2s, 1)) (k : J G oR oc on ort T z σ kc ks (pc + 1) L (.int (x.toInt16.toInt32) :: st)) : J G oR oc on ort T z σ kc ks pc L (.int x :: st) := by
  intro p l e s m args below meth c H locs ls C X hw hS hL
  exact lv_i2s C.1 C.2.1 hd rfl (k p l e s m args below meth c H locs ls C X hw hS hL)
theorem j_i2c {x : Int32} (hd : decode oc pc = .ok (.i2c, 1)) (k : J G oR oc on ort T z σ kc ks (pc + 1) L (.int ((x.toUInt32 % 65536).toInt32) :: st)) : J G oR oc on ort T z σ kc ks pc L (.int x :: st) := by
  intro p l e s m args below meth c H locs ls C X hw hS hL
  exact lv_i2c C.1 C.2.1 hd rfl (k p l e s m args below meth c H locs ls C X hw hS hL)
theorem j_i2l {x : Int32} (hd : decode oc pc = .ok (.i2l, 1)) (k : J G oR oc on ort T z σ kc ks (pc + 1) L (.long (x.toInt64) :: st)) : J G oR oc on ort T z σ kc ks pc L (.int x :: st) := by
  intro p l e s m args below meth c H locs ls C X hw hS hL
  exact lv_i2l C.1 C.2.1 hd rfl (k p l e s m args below meth c H locs ls C X hw hS hL)
theorem j_l2i {x : Int64} (hd : decode oc pc = .ok (.l2i, 1)) (k : J G oR oc on ort T z σ kc ks (pc + 1) L (.int (x.toInt32) :: st)) : J G oR oc on ort T z σ kc ks pc L (.long x :: st) := by
  intro p l e s m args below meth c H locs ls C X hw hS hL
  exact lv_l2i C.1 C.2.1 hd rfl (k p l e s m args below meth c H locs ls C X hw hS hL)
theorem j_dup {v : Value} (hd : decode oc pc = .ok (.dup, 1)) (hv : v.category = 1) (k : J G oR oc on ort T z σ kc ks (pc + 1) L (v :: v :: st)) : J G oR oc on ort T z σ kc ks pc L (v :: st) := by
  intro p l e s m args below meth c H locs ls C X hw hS hL
  exact lv_dup C.1 C.2.1 hd (by rw [cV_cat]; exact hv) (k p l e s m args below meth c H locs ls C X hw hS hL)
theorem j_dup2 {v w : Value} (hd : decode oc pc = .ok (.dup2, 1)) (hv : v.category = 1) (hw9 : w.category = 1) (k : J G oR oc on ort T z σ kc ks (pc + 1) L (v :: w :: v :: w :: st)) : J G oR oc on ort T z σ kc ks pc L (v :: w :: st) := by
  intro p l e s m args below meth c H locs ls C X hw hS hL
  exact lv_dup2_11 C.1 C.2.1 hd (by rw [cV_cat]; exact hv) (by rw [cV_cat]; exact hw9) (k p l e s m args below meth c H locs ls C X hw hS hL)
theorem j_pop {v : Value} (hd : decode oc pc = .ok (.pop, 1)) (hv : v.category = 1) (k : J G oR oc on ort T z σ kc ks (pc + 1) L st) : J G oR oc on ort T z σ kc ks pc L (v :: st) := by
  intro p l e s m args below meth c H locs ls C X hw hS hL
  exact lv_pop C.1 C.2.1 hd (by rw [cV_cat]; exact hv) (k p l e s m args below meth c H locs ls C X hw hS hL)
theorem j_goto {off : Int} (tgt : Nat) (hd : decode oc pc = .ok (.goto off, 3)) (ht : (pc : Int) + off = (tgt : Int)) (k : J G oR oc on ort T z σ kc ks tgt L st) : J G oR oc on ort T z σ kc ks pc L st := by
  intro p l e s m args below meth c H locs ls C X hw hS hL
  exact lv_goto C.1 C.2.1 hd ht (k p l e s m args below meth c H locs ls C X hw hS hL)
theorem j_if_eq {x : Int32} {off : Int} (tgt : Nat) (hd : decode oc pc = .ok (.ifCond .eq off, 3)) (ht : (pc : Int) + off = (tgt : Int)) (kt : (x = 0) → J G oR oc on ort T z σ kc ks tgt L st) (kf : (¬ x = 0) → J G oR oc on ort T z σ kc ks (pc + 3) L st) : J G oR oc on ort T z σ kc ks pc L (.int x :: st) := by
  intro p l e s m args below meth c H locs ls C X hw hS hL
  exact lv_if_eq C.1 C.2.1 hd ht (fun q => kt q p l e s m args below meth c H locs ls C X hw hS hL) (fun q => kf q p l e s m args below meth c H locs ls C X hw hS hL)
theorem j_if_ne {x : Int32} {off : Int} (tgt : Nat) (hd : decode oc pc = .ok (.ifCond .ne off, 3)) (ht : (pc : Int) + off = (tgt : Int)) (kt : (¬ x = 0) → J G oR oc on ort T z σ kc ks tgt L st) (kf : (x = 0) → J G oR oc on ort T z σ kc ks (pc + 3) L st) : J G oR oc on ort T z σ kc ks pc L (.int x :: st) := by
  intro p l e s m args below meth c H locs ls C X hw hS hL
  exact lv_if_ne C.1 C.2.1 hd ht (fun q => kt q p l e s m args below meth c H locs ls C X hw hS hL) (fun q => kf q p l e s m args below meth c H locs ls C X hw hS hL)
theorem j_if_lt {x : Int32} {off : Int} (tgt : Nat) (hd : decode oc pc = .ok (.ifCond .lt off, 3)) (ht : (pc : Int) + off = (tgt : Int)) (kt : (x < 0) → J G oR oc on ort T z σ kc ks tgt L st) (kf : (¬ x < 0) → J G oR oc on ort T z σ kc ks (pc + 3) L st) : J G oR oc on ort T z σ kc ks pc L (.int x :: st) := by
  intro p l e s m args below meth c H locs ls C X hw hS hL
  exact lv_if_lt C.1 C.2.1 hd ht (fun q => kt q p l e s m args below meth c H locs ls C X hw hS hL) (fun q => kf q p l e s m args below meth c H locs ls C X hw hS hL)
theorem j_if_ge {x : Int32} {off : Int} (tgt : Nat) (hd : decode oc pc = .ok (.ifCond .ge off, 3)) (ht : (pc : Int) + off = (tgt : Int)) (kt : (0 ≤ x) → J G oR oc on ort T z σ kc ks tgt L st) (kf : (¬ 0 ≤ x) → J G oR oc on ort T z σ kc ks (pc + 3) L st) : J G oR oc on ort T z σ kc ks pc L (.int x :: st) := by
  intro p l e s m args below meth c H locs ls C X hw hS hL
  exact lv_if_ge C.1 C.2.1 hd ht (fun q => kt q p l e s m args below meth c H locs ls C X hw hS hL) (fun q => kf q p l e s m args below meth c H locs ls C X hw hS hL)
theorem j_if_gt {x : Int32} {off : Int} (tgt : Nat) (hd : decode oc pc = .ok (.ifCond .gt off, 3)) (ht : (pc : Int) + off = (tgt : Int)) (kt : (0 < x) → J G oR oc on ort T z σ kc ks tgt L st) (kf : (¬ 0 < x) → J G oR oc on ort T z σ kc ks (pc + 3) L st) : J G oR oc on ort T z σ kc ks pc L (.int x :: st) := by
  intro p l e s m args below meth c H locs ls C X hw hS hL
  exact lv_if_gt C.1 C.2.1 hd ht (fun q => kt q p l e s m args below meth c H locs ls C X hw hS hL) (fun q => kf q p l e s m args below meth c H locs ls C X hw hS hL)
theorem j_if_le {x : Int32} {off : Int} (tgt : Nat) (hd : decode oc pc = .ok (.ifCond .le off, 3)) (ht : (pc : Int) + off = (tgt : Int)) (kt : (x ≤ 0) → J G oR oc on ort T z σ kc ks tgt L st) (kf : (¬ x ≤ 0) → J G oR oc on ort T z σ kc ks (pc + 3) L st) : J G oR oc on ort T z σ kc ks pc L (.int x :: st) := by
  intro p l e s m args below meth c H locs ls C X hw hS hL
  exact lv_if_le C.1 C.2.1 hd ht (fun q => kt q p l e s m args below meth c H locs ls C X hw hS hL) (fun q => kf q p l e s m args below meth c H locs ls C X hw hS hL)
theorem j_icmp_eq {x y : Int32} {off : Int} (tgt : Nat) (hd : decode oc pc = .ok (.if_icmp .eq off, 3)) (ht : (pc : Int) + off = (tgt : Int)) (kt : (x = y) → J G oR oc on ort T z σ kc ks tgt L st) (kf : (¬ x = y) → J G oR oc on ort T z σ kc ks (pc + 3) L st) : J G oR oc on ort T z σ kc ks pc L (.int y :: .int x :: st) := by
  intro p l e s m args below meth c H locs ls C X hw hS hL
  exact lv_icmp_eq C.1 C.2.1 hd ht (fun q => kt q p l e s m args below meth c H locs ls C X hw hS hL) (fun q => kf q p l e s m args below meth c H locs ls C X hw hS hL)
theorem j_icmp_ne {x y : Int32} {off : Int} (tgt : Nat) (hd : decode oc pc = .ok (.if_icmp .ne off, 3)) (ht : (pc : Int) + off = (tgt : Int)) (kt : (¬ x = y) → J G oR oc on ort T z σ kc ks tgt L st) (kf : (x = y) → J G oR oc on ort T z σ kc ks (pc + 3) L st) : J G oR oc on ort T z σ kc ks pc L (.int y :: .int x :: st) := by
  intro p l e s m args below meth c H locs ls C X hw hS hL
  exact lv_icmp_ne C.1 C.2.1 hd ht (fun q => kt q p l e s m args below meth c H locs ls C X hw hS hL) (fun q => kf q p l e s m args below meth c H locs ls C X hw hS hL)
theorem j_icmp_lt {x y : Int32} {off : Int} (tgt : Nat) (hd : decode oc pc = .ok (.if_icmp .lt off, 3)) (ht : (pc : Int) + off = (tgt : Int)) (kt : (x < y) → J G oR oc on ort T z σ kc ks tgt L st) (kf : (¬ x < y) → J G oR oc on ort T z σ kc ks (pc + 3) L st) : J G oR oc on ort T z σ kc ks pc L (.int y :: .int x :: st) := by
  intro p l e s m args below meth c H locs ls C X hw hS hL
  exact lv_icmp_lt C.1 C.2.1 hd ht (fun q => kt q p l e s m args below meth c H locs ls C X hw hS hL) (fun q => kf q p l e s m args below meth c H locs ls C X hw hS hL)
theorem j_icmp_ge {x y : Int32} {off : Int} (tgt : Nat) (hd : decode oc pc = .ok (.if_icmp .ge off, 3)) (ht : (pc : Int) + off = (tgt : Int)) (kt : (y ≤ x) → J G oR oc on ort T z σ kc ks tgt L st) (kf : (¬ y ≤ x) → J G oR oc on ort T z σ kc ks (pc + 3) L st) : J G oR oc on ort T z σ kc ks pc L (.int y :: .int x :: st) := by
  intro p l e s m args below meth c H locs ls C X hw hS hL
  exact lv_icmp_ge C.1 C.2.1 hd ht (fun q => kt q p l e s m args below meth c H locs ls C X hw hS hL) (fun q => kf q p l e s m args below meth c H locs ls C X hw hS hL)
theorem j_icmp_gt {x y : Int32} {off : Int} (tgt : Nat) (hd : decode oc pc = .ok (.if_icmp .gt off, 3)) (ht : (pc : Int) + off = (tgt : Int)) (kt : (y < x) → J G oR oc on ort T z σ kc ks tgt L st) (kf : (¬ y < x) → J G oR oc on ort T z σ kc ks (pc + 3) L st) : J G oR oc on ort T z σ kc ks pc L (.int y :: .int x :: st) := by
  intro p l e s m args below meth c H locs ls C X hw hS hL
  exact lv_icmp_gt C.1 C.2.1 hd ht (fun q => kt q p l e s m args below meth c H locs ls C X hw hS hL) (fun q => kf q p l e s m args below meth c H locs ls C X hw hS hL)
theorem j_icmp_le {x y : Int32} {off : Int} (tgt : Nat) (hd : decode oc pc = .ok (.if_icmp .le off, 3)) (ht : (pc : Int) + off = (tgt : Int)) (kt : (x ≤ y) → J G oR oc on ort T z σ kc ks tgt L st) (kf : (¬ x ≤ y) → J G oR oc on ort T z σ kc ks (pc + 3) L st) : J G oR oc on ort T z σ kc ks pc L (.int y :: .int x :: st) := by
  intro p l e s m args below meth c H locs ls C X hw hS hL
  exact lv_icmp_le C.1 C.2.1 hd ht (fun q => kt q p l e s m args below meth c H locs ls C X hw hS hL) (fun q => kf q p l e s m args below meth c H locs ls C X hw hS hL)
theorem j_tabOut {dflt lo hi : Int} {offs : Array Int} {len : Nat} {x : Int32} (tgt : Nat) (hd : decode oc pc = .ok (.tableswitch dflt lo hi offs, len)) (h : x.toInt < lo ∨ hi < x.toInt) (ht : (pc : Int) + dflt = (tgt : Int)) (k : J G oR oc on ort T z σ kc ks tgt L st) : J G oR oc on ort T z σ kc ks pc L (.int x :: st) := by
  intro p l e s m args below meth c H locs ls C X hw hS hL
  exact lv_tableOut C.1 C.2.1 hd h ht (k p l e s m args below meth c H locs ls C X hw hS hL)
theorem j_tabIn {dflt lo hi : Int} {offs : Array Int} {len : Nat} {x : Int32} {off : Int} (tgt : Nat) (hd : decode oc pc = .ok (.tableswitch dflt lo hi offs, len)) (h1 : ¬ x.toInt < lo) (h2 : ¬ hi < x.toInt) (ho : offs[(x.toInt - lo).toNat]? = some off) (ht : (pc : Int) + off = (tgt : Int)) (k : J G oR oc on ort T z σ kc ks tgt L st) : J G oR oc on ort T z σ kc ks pc L (.int x :: st) := by
  intro p l e s m args below meth c H locs ls C X hw hS hL
  exact lv_tableIn C.1 C.2.1 hd h1 h2 ho ht (k p l e s m args below meth c H locs ls C X hw hS hL)
theorem j_top {x : Int32} (x1 : Int32) (h : x = x1) (k : J G oR oc on ort T z σ kc ks pc L (.int x1 :: st)) : J G oR oc on ort T z σ kc ks pc L (.int x :: st) := by rw [h]; exact k
theorem j_topl {x : Int64} (x1 : Int64) (h : x = x1) (k : J G oR oc on ort T z σ kc ks pc L (.long x1 :: st)) : J G oR oc on ort T z σ kc ks pc L (.long x :: st) := by rw [h]; exact k
theorem j_iaddN {a b : Nat} (hd : decode oc pc = .ok (.iadd, 1)) (k : J G oR oc on ort T z σ kc ks (pc + 1) L (.int (nI (a + b)) :: st)) : J G oR oc on ort T z σ kc ks pc L (.int (nI b) :: .int (nI a) :: st) := j_iadd hd (by rw [nI_add]; exact k)
theorem j_imulN {a b : Nat} (hd : decode oc pc = .ok (.imul, 1)) (k : J G oR oc on ort T z σ kc ks (pc + 1) L (.int (nI (a * b)) :: st)) : J G oR oc on ort T z σ kc ks pc L (.int (nI b) :: .int (nI a) :: st) := j_imul hd (by rw [pk_mul]; exact k)
theorem j_isubN {a b : Nat} (hd : decode oc pc = .ok (.isub, 1)) (h : b ≤ a) (k : J G oR oc on ort T z σ kc ks (pc + 1) L (.int (nI (a - b)) :: st)) : J G oR oc on ort T z σ kc ks pc L (.int (nI b) :: .int (nI a) :: st) := j_isub hd (by rw [pk_sub h]; exact k)
theorem j_iincN {i : Nat} {a : Nat} (hd : decode oc pc = .ok (.iinc i 1, 3)) (hx : L[i]? = some (some (.int (nI a)))) (hn : i < on) (hc : lok L i = true) (k : J G oR oc on ort T z σ kc ks (pc + 3) (L.set i (some (.int (nI (a + 1))))) st) : J G oR oc on ort T z σ kc ks pc L st := j_iinc (nI (a + 1)) hd hx (by rw [← nI_1]; rfl) hn hc k
theorem j_icmp_geN {a b : Nat} {off : Int} (tgt : Nat) (hd : decode oc pc = .ok (.if_icmp .ge off, 3)) (ht : (pc : Int) + off = (tgt : Int)) (ha : a < 2 ^ 31) (hb : b < 2 ^ 31) (kt : (b ≤ a) → J G oR oc on ort T z σ kc ks tgt L st) (kf : (a < b) → J G oR oc on ort T z σ kc ks (pc + 3) L st) : J G oR oc on ort T z σ kc ks pc L (.int (nI b) :: .int (nI a) :: st) := j_icmp_ge tgt hd ht (fun q => kt ((nI_leI hb ha).mp q)) (fun q => kf (by have := mt (nI_leI hb ha).mpr q; omega))
theorem j_icmp_gtN {a b : Nat} {off : Int} (tgt : Nat) (hd : decode oc pc = .ok (.if_icmp .gt off, 3)) (ht : (pc : Int) + off = (tgt : Int)) (ha : a < 2 ^ 31) (hb : b < 2 ^ 31) (kt : (b < a) → J G oR oc on ort T z σ kc ks tgt L st) (kf : (a ≤ b) → J G oR oc on ort T z σ kc ks (pc + 3) L st) : J G oR oc on ort T z σ kc ks pc L (.int (nI b) :: .int (nI a) :: st) := j_icmp_gt tgt hd ht (fun q => kt ((nI_ltI hb ha).mp q)) (fun q => kf (by have := mt (nI_ltI hb ha).mpr q; omega))
theorem j_icmp_ltN {a b : Nat} {off : Int} (tgt : Nat) (hd : decode oc pc = .ok (.if_icmp .lt off, 3)) (ht : (pc : Int) + off = (tgt : Int)) (ha : a < 2 ^ 31) (hb : b < 2 ^ 31) (kt : (a < b) → J G oR oc on ort T z σ kc ks tgt L st) (kf : (b ≤ a) → J G oR oc on ort T z σ kc ks (pc + 3) L st) : J G oR oc on ort T z σ kc ks pc L (.int (nI b) :: .int (nI a) :: st) := j_icmp_lt tgt hd ht (fun q => kt ((nI_ltI ha hb).mp q)) (fun q => kf (by have := mt (nI_ltI ha hb).mpr q; omega))
theorem j_icmp_leN {a b : Nat} {off : Int} (tgt : Nat) (hd : decode oc pc = .ok (.if_icmp .le off, 3)) (ht : (pc : Int) + off = (tgt : Int)) (ha : a < 2 ^ 31) (hb : b < 2 ^ 31) (kt : (a ≤ b) → J G oR oc on ort T z σ kc ks tgt L st) (kf : (b < a) → J G oR oc on ort T z σ kc ks (pc + 3) L st) : J G oR oc on ort T z σ kc ks pc L (.int (nI b) :: .int (nI a) :: st) := j_icmp_le tgt hd ht (fun q => kt ((nI_leI ha hb).mp q)) (fun q => kf (by have := mt (nI_leI ha hb).mpr q; omega))
theorem j_icmp_eqN {a b : Nat} {off : Int} (tgt : Nat) (hd : decode oc pc = .ok (.if_icmp .eq off, 3)) (ht : (pc : Int) + off = (tgt : Int)) (ha : a < 2 ^ 31) (hb : b < 2 ^ 31) (kt : (a = b) → J G oR oc on ort T z σ kc ks tgt L st) (kf : (¬ a = b) → J G oR oc on ort T z σ kc ks (pc + 3) L st) : J G oR oc on ort T z σ kc ks pc L (.int (nI b) :: .int (nI a) :: st) := j_icmp_eq tgt hd ht (fun q => kt ((nI_eq ha hb).mp q)) (fun q => kf (fun w => q ((nI_eq ha hb).mpr w)))
theorem j_icmp_neN {a b : Nat} {off : Int} (tgt : Nat) (hd : decode oc pc = .ok (.if_icmp .ne off, 3)) (ht : (pc : Int) + off = (tgt : Int)) (ha : a < 2 ^ 31) (hb : b < 2 ^ 31) (kt : (¬ a = b) → J G oR oc on ort T z σ kc ks tgt L st) (kf : (a = b) → J G oR oc on ort T z σ kc ks (pc + 3) L st) : J G oR oc on ort T z σ kc ks pc L (.int (nI b) :: .int (nI a) :: st) := j_icmp_ne tgt hd ht (fun q => kt (fun w => q ((nI_eq ha hb).mpr w))) (fun q => kf ((nI_eq ha hb).mp q))
end JR
end
section
/-! ROWS OF J over the heap -/
def ups (σ : AH) (a : Nat) (e : AE) : AH := fun k => if k = a then some e else σ k
theorem Wc.at {G : GG} {z : Nat} {σ : AH} {H : Heap} (h : Wc G z σ H) {a : Nat} {e : AE} (he : σ a = some e) : va_at (DG G) classes (ad G a, cE G e) H ∧ ad G a = G.1 + a := by
  obtain ⟨h1, h2, h3⟩ := h
  obtain ⟨h4, h5⟩ := h3 a e he
  have h6 : ad G a = G.1 + a := ad_lt (Nat.lt_of_lt_of_le h4 h2)
  rw [h6]
  exact ⟨h5, rfl⟩
theorem Wc.one {G : GG} {z : Nat} {σ : AH} {H : Heap} (h : Wc G z σ H) {a : Nat} {e : AE} (he : σ a = some e) : va_P (DG G) classes [(ad G a, cE G e)] H := by
  intro k q hk
  match k, hk with
  | 0, hk => cases hk; exact (h.at he).1
/-- one cell is another one now -/
theorem Wc.put {G : GG} {z : Nat} {σ : AH} {H H1 : Heap} (h : Wc G z σ H) {a : Nat} {e0 e : AE} (he : σ a = some e0) (hs : H1.size = H.size) (hn : va_at (DG G) classes (ad G a, cE G e) H1) (ho : ∀ q : Nat, q ≠ ad G a → H1[q]? = H[q]?) : Wc G z (ups σ a e) H1 := by
  have ha := (h.at he).2
  refine ⟨by rw [hs]; exact h.1, h.2.1, fun k x hk => ?_⟩
  unfold ups at hk
  by_cases hka : k = a
  · subst hka
    rw [if_pos rfl] at hk
    cases hk
    exact ⟨(h.2.2 k e0 he).1, by rw [← ha]; exact hn⟩
  · rw [if_neg hka] at hk
    obtain ⟨h4, h5⟩ := h.2.2 k x hk
    exact ⟨h4, h5.kept (ho _ (by rw [ha]; show ¬ G.1 + k = G.1 + a; omega))⟩
/-- one cell more -/
theorem Wc.push {G : GG} {z : Nat} {σ : AH} {H H1 : Heap} (h : Wc G z σ H) {e : AE} (hz : z < EXT) (hs : H1.size = H.size + 1) (hn : va_at (DG G) classes (H.size, cE G e) H1) (ho : ∀ q : Nat, q < H.size → H1[q]? = H[q]?) : Wc G (z + 1) (ups σ z e) H1 := by
  refine ⟨by rw [hs, h.1]; omega, by omega, fun k x hk => ?_⟩
  unfold ups at hk
  by_cases hka : k = z
  · subst hka
    rw [if_pos rfl] at hk
    cases hk
    exact ⟨by omega, by rw [← h.1]; exact hn⟩
  · rw [if_neg hka] at hk
    obtain ⟨h4, h5⟩ := h.2.2 k x hk
    exact ⟨by omega, h5.kept (ho _ (by rw [h.1]; show G.1 + k < _; omega))⟩
theorem AG_ad {G : GG} {z : Nat} {σ : AH} {H : Heap} (h : Wc G z σ H) {a : Nat} {e : AE} (he : σ a = some e) : AG G (ad G a) := by
  rw [(h.at he).2]; exact Nat.le_add_right _ _
theorem tysG_at {G : GG} {k : Nat} (h : k < 5) : (tysG G)[k]? = some (G.2.2.2.1 k, tyA k) := by
  match k, h with
  | 0, _ => rfl
  | 1, _ => rfl
  | 2, _ => rfl
  | 3, _ => rfl
  | 4, _ => rfl
section JH
variable {G : GG} {oR : String} {oc : ByteArray} {on : Nat} {ort : Option FieldType} {T : TG} {z kc ks pc : Nat} {σ : AH} {L : List (Option Value)} {st : List Value}
theorem j_getf {ix : Nat} (hd : decode oc pc = .ok (.getfield ix, 3)) (ci k : Nat) {C : String} {TT : u_T} {N : Nat} (hc : classes[ci]? = some (C, TT, N)) (hk : k < N) (hl : Cond.fieldLink oR ix (TT k).1 (TT k).2.1 (TT k).2.2.1 ∈ gw) (hin : ∀ w ∈ u_ws C TT N, w ∈ gw) {a : Nat} {fs : List Value} {v : Value} (he : σ a = some (.inr (.inr (ci, fs)))) (hv : fs[k]? = some v)
    (kk : J G oR oc on ort T z σ kc ks (pc + 3) L (v :: st)) : J G oR oc on ort T z σ kc ks pc L (.ref a :: st) := by
  intro p l e s m args below meth c H locs ls C0 X hw hS hL
  exact va_get (C := C) (T := TT) (N := N) C0.1 C0.2.1 C0.2.2.2.2.2.1 hin C0.2.2.2.2.1 C0.2.2.2.2.2.2.2.1 (hw.one he) 0 rfl hc k hk (C0.2.2.2.2.2.1 _ hl) (fun _ h => h) (v := cV G v) (by rw [List.getElem?_map, hv]; rfl) hd (kk p l e s m args below meth c H locs ls C0 X hw hS hL)
theorem j_putf {ix : Nat} (hd : decode oc pc = .ok (.putfield ix, 3)) (ci k : Nat) {C : String} {TT : u_T} {N : Nat} (hc : classes[ci]? = some (C, TT, N)) (hk : k < N) (hl : Cond.fieldLink oR ix (TT k).1 (TT k).2.1 (TT k).2.2.1 ∈ gw) (hin : ∀ w ∈ u_ws C TT N, w ∈ gw) (ty0 : Nat → FieldType) (hty : ∀ k, k < N → parseFieldDescriptor (TT k).2.2.1 = some (ty0 k)) (hnm : ∀ a, a < N → ∀ b, b < N → a ≠ b → (TT a).2.1 ≠ (TT b).2.1)
    (hfin : (TT k).2.2.2 = false) (hti : ty0 k = .int) {a : Nat} {fs : List Value} {x : Int32} (he : σ a = some (.inr (.inr (ci, fs)))) (hlen : k < fs.length) (σ2 : AH) (h2 : ups σ a (.inr (.inr (ci, fs.set k (.int x)))) = σ2)
    (kk : J G oR oc on ort T z σ2 kc ks (pc + 3) L st) : J G oR oc on ort T z σ kc ks pc L (.int x :: .ref a :: st) := by
  intro p l e s m args below meth c H locs ls C0 X hw hS hL
  subst h2
  obtain ⟨hx, hb, hr, hml, hown, hts, hlk, hK, hg, hB⟩ := id C0
  have hap := va_apart (own := oR) hts hin ty0 hty hnm hK hc
  obtain ⟨r, h1, cell, q1, q2, q3, q4⟩ := (hw.at he).1
  have hr2 : r = (C, TT, N) := Option.some.inj (h1.symm.trans hc)
  subst hr2
  obtain ⟨hSl, hfc, kC, hkC, hkind⟩ := hK.1 ci _ hc
  obtain ⟨cf, kf, fi, f, hi, hsl⟩ := hSl k hk
  have hlay := hts _ (hin _ (u_in_lay hk))
  unfold u_lay at hlay
  rw [if_neg (by rw [hfin]; decide)] at hlay
  have hst := (u_facts hfc hkC (u_lays hts hin hk) hi).1
  have h6 := u_store (v := .int x) hfc hkC hkind hlay hi (hty k hk) (by rw [hti]; rfl) (by rw [hti]; rfl)
  refine W.putK hx hb (f := f) ⟨hown, hts _ hl, ⟨_, _, _, hi⟩, hst⟩ (by rw [q2]; exact h6) q1 q3 (by rw [hsl]; exact k2_hasslot (q4 k hk)) rfl rfl hd fun H' e1 e2 e3 => ?_
  rw [hsl] at e1
  refine kk p l e s m args below meth c H' _ ls C0 X (hw.put he e2 ⟨_, hc, t_OB.to (V := updV (vp_V (fs.map (cV G))) k (.int x)) ⟨_, e1, q2, q3, t_set q4 hap hk (.int x)⟩ (fun j _ => ?_)⟩ e3) (hS.put e2 e3 (AG_ad hw he)) hL
  rw [vp_updV_set (by rw [List.length_map]; exact hlen)]
  show vp_V _ j = vp_V ((fs.set k (.int x)).map (cV G)) j
  rw [List.map_set]
  rfl
theorem j_putF {ix : Nat} (hd : decode oc pc = .ok (.putfield ix, 3)) (ci k : Nat) {C : String} {TT : u_T} {N : Nat} (hc : classes[ci]? = some (C, TT, N)) (hk : k < N) (hl : Cond.fieldLink oR ix (TT k).1 (TT k).2.1 (TT k).2.2.1 ∈ gw) (hin : ∀ w ∈ u_ws C TT N, w ∈ gw) (ty0 : Nat → FieldType) (hty : ∀ k, k < N → parseFieldDescriptor (TT k).2.2.1 = some (ty0 k)) (hnm : ∀ a, a < N → ∀ b, b < N → a ≠ b → (TT a).2.1 ≠ (TT b).2.1)
    (hfin : (TT k).2.2.2 = true) (hdecl : (TT k).1 = oR) (hT : ∀ meth args s, T.2.2 meth args s → meth.name = "<init>") {a b : Nat} {fs : List Value} (hn : ∀ b, narrow (ty0 k) (.ref b) = .ref b) (hf : ∀ b, fits (ty0 k) (.ref b) = true) (he : σ a = some (.inr (.inr (ci, fs)))) (hlen : k < fs.length) (σ2 : AH) (h2 : ups σ a (.inr (.inr (ci, fs.set k (.ref b)))) = σ2)
    (kk : J G oR oc on ort T z σ2 kc ks (pc + 3) L st) : J G oR oc on ort T z σ kc ks pc L (.ref b :: .ref a :: st) := by
  intro p l e s m args below meth c H locs ls C0 X hw hS hL
  subst h2
  obtain ⟨hx, hb, hr, hml, hown, hts, hlk, hK, hg, hB⟩ := id C0
  have hap := va_apart (own := oR) hts hin ty0 hty hnm hK hc
  obtain ⟨r, h1, cell, q1, q2, q3, q4⟩ := (hw.at he).1
  have hr2 : r = (C, TT, N) := Option.some.inj (h1.symm.trans hc)
  subst hr2
  obtain ⟨hSl, hfc, kC, hkC, hkind⟩ := hK.1 ci _ hc
  obtain ⟨cf, kf, fi, f, hi, hsl⟩ := hSl k hk
  have hlay := hts _ (hin _ (u_in_lay hk))
  unfold u_lay at hlay
  rw [if_pos hfin] at hlay
  have hst := (u_facts hfc hkC (u_lays hts hin hk) hi).1
  have hcf : m.cls = cf := by
    obtain ⟨_, _, c', _, _, _, -, -, hf', -, -, -, hown2, -⟩ := Cond.laysFinal_spec hlay
    have e1 : c' = cf := by have := hi.symm.trans hf'; simp at this; exact this.1.symm
    rw [hdecl] at hown2
    rw [← e1]; exact Option.some.inj (hown.symm.trans hown2)
  have h6 := u_fits (v := .ref (ad G b)) hfc hkC hkind (Or.inr hlay) hi (hty k hk) (hn _) (hf _)
  refine W.putFinK hx hb hown (hts _ hl) hi hst hcf (hT _ _ _ X) (by rw [q2]; exact h6) q1 q3 (by rw [hsl]; exact k2_hasslot (q4 k hk)) rfl rfl hd fun H' e1 e2 e3 => ?_
  rw [hsl] at e1
  refine kk p l e s m args below meth c H' _ ls C0 X (hw.put he e2 ⟨_, hc, t_OB.to (V := updV (vp_V (fs.map (cV G))) k (.ref (ad G b))) ⟨_, e1, q2, q3, t_set q4 hap hk (.ref (ad G b))⟩ (fun j _ => ?_)⟩ e3) (hS.put e2 e3 (AG_ad hw he)) hL
  rw [vp_updV_set (by rw [List.length_map]; exact hlen)]
  show vp_V _ j = vp_V ((fs.set k (.ref b)).map (cV G)) j
  rw [List.map_set]
  rfl
theorem j_iald {a n k : Nat} {f : Nat → Int32} {i : Int32} (hd : decode oc pc = .ok (.iaload, 1)) (he : σ a = some (.inl (0, n, f))) (hi : i = nI k) (hk : k < n) (hn : n < 2 ^ 31)
    (kk : J G oR oc on ort T z σ kc ks (pc + 1) L (.int (f k) :: st)) : J G oR oc on ort T z σ kc ks pc L (.int i :: .ref a :: st) := by
  intro p l e s m args below meth c H locs ls C0 X hw hS hL
  subst hi
  refine va_iald C0.1 C0.2.1 C0.2.2.2.2.2.2.2.1 (hw.one he) 0 0 rfl rfl (vp_in_nI hk hn) hd ?_
  rw [nI_clamp (by omega)]
  exact kk p l e s m args below meth c H locs ls C0 X hw hS hL
theorem j_bald {a n k : Nat} {f : Nat → Int32} {i : Int32} (hd : decode oc pc = .ok (.baload, 1)) (he : σ a = some (.inl (1, n, f))) (hi : i = nI k) (hk : k < n) (hn : n < 2 ^ 31)
    (kk : J G oR oc on ort T z σ kc ks (pc + 1) L (.int (f k) :: st)) : J G oR oc on ort T z σ kc ks pc L (.int i :: .ref a :: st) := by
  intro p l e s m args below meth c H locs ls C0 X hw hS hL
  subst hi
  refine va_bald C0.1 C0.2.1 C0.2.2.2.2.2.2.2.1 (hw.one he) 0 1 rfl rfl (vp_in_nI hk hn) hd ?_
  rw [nI_clamp (by omega)]
  exact kk p l e s m args below meth c H locs ls C0 X hw hS hL
theorem j_zald {a n k : Nat} {f : Nat → Int32} {i : Int32} (hd : decode oc pc = .ok (.baload, 1)) (he : σ a = some (.inl (2, n, f))) (hi : i = nI k) (hk : k < n) (hn : n < 2 ^ 31)
    (kk : J G oR oc on ort T z σ kc ks (pc + 1) L (.int (f k) :: st)) : J G oR oc on ort T z σ kc ks pc L (.int i :: .ref a :: st) := by
  intro p l e s m args below meth c H locs ls C0 X hw hS hL
  subst hi
  refine va_zald C0.1 C0.2.1 C0.2.2.2.2.2.2.2.1 (hw.one he) 0 2 rfl rfl (vp_in_nI hk hn) hd ?_
  rw [nI_clamp (by omega)]
  exact kk p l e s m args below meth c H locs ls C0 X hw hS hL
theorem j_aald {a n k kd b : Nat} {f : Nat → Option Nat} {i : Int32} (hd : decode oc pc = .ok (.aaload, 1)) (he : σ a = some (.inr (.inl (kd, n, f)))) (hkd : kd = 3 ∨ kd = 4) (hi : i = nI k) (hk : k < n) (hn : n < 2 ^ 31) (hf : f k = some b)
    (kk : J G oR oc on ort T z σ kc ks (pc + 1) L (.ref b :: st)) : J G oR oc on ort T z σ kc ks pc L (.int i :: .ref a :: st) := by
  intro p l e s m args below meth c H locs ls C0 X hw hS hL
  subst hi
  have kk2 := kk p l e s m args below meth c H locs ls C0 X hw hS hL
  rcases hkd with rfl | rfl
  · refine va_aldq (C := RX3) C0.1 C0.2.1 C0.2.2.2.2.2.2.2.1 (hw.one he) 0 3 rfl rfl (vp_in_nI hk hn) hd ?_
    rw [nI_clamp (by omega)]
    dsimp only
    rw [hf]
    exact kk2
  · refine va_aldq (C := RX4) C0.1 C0.2.1 C0.2.2.2.2.2.2.2.1 (hw.one he) 0 4 rfl rfl (vp_in_nI hk hn) hd ?_
    rw [nI_clamp (by omega)]
    dsimp only
    rw [hf]
    exact kk2
theorem upd_cell (cA : ClassId) (n k : Nat) (f : Nat → Int32) (x y : Int32) (h : Value.int y = .int x) : (vp_cell cA (n, .inl f)).setSlot k (.int y) = vp_cell cA (n, .inl (upd f k x)) := by
  rw [vp_cell_i, vp_cell_i, arrV_store]
  congr 2
  funext q
  cases h
  by_cases hq : q = k
  · subst hq
    simp [updV, upd]
  · simp [updV, upd, hq]
theorem j_iast {a n k : Nat} {f : Nat → Int32} {i x : Int32} (hd : decode oc pc = .ok (.iastore, 1)) (he : σ a = some (.inl (0, n, f))) (hi : i = nI k) (hk : k < n) (hn : n < 2 ^ 31) (σ2 : AH) (h2 : ups σ a (.inl (0, n, upd f k x)) = σ2)
    (kk : J G oR oc on ort T z σ2 kc ks (pc + 1) L st) : J G oR oc on ort T z σ kc ks pc L (.int x :: .int i :: .ref a :: st) := by
  intro p l e s m args below meth c H locs ls C0 X hw hS hL
  subst hi; subst h2
  have hin : vp_in (nI k) n := vp_in_nI hk hn
  have hkc : (nI k).toNatClampNeg = k := nI_clamp (by omega)
  refine W.iast C0.1 C0.2.1 (hw.at he).1 (((C0.2.2.2.2.2.2.2.1).2 0 _ rfl).1 n (fun j => .int (f j))) (fun q => by cases q) (by show ¬ (nI k < 0 ∨ (arrV _ _ _).slots.size ≤ _); rw [arrV_size]; exact hin) rfl rfl hd fun H1 e1 z1 oq => ?_
  refine kk p l e s m args below meth c H1 _ ls C0 X (hw.put he z1 ?_ oq) (hS.put z1 oq (AG_ad hw he)) hL
  show H1[ad G a]? = some (vp_cell _ _)
  rw [e1, hkc]
  exact congrArg some (upd_cell _ n k f x x rfl)
theorem j_bast {a n k : Nat} {f : Nat → Int32} {i x : Int32} (hd : decode oc pc = .ok (.bastore, 1)) (he : σ a = some (.inl (1, n, f))) (hi : i = nI k) (hk : k < n) (hn : n < 2 ^ 31) (σ2 : AH) (h2 : ups σ a (.inl (1, n, upd f k (x.toInt8.toInt32))) = σ2)
    (kk : J G oR oc on ort T z σ2 kc ks (pc + 1) L st) : J G oR oc on ort T z σ kc ks pc L (.int x :: .int i :: .ref a :: st) := by
  intro p l e s m args below meth c H locs ls C0 X hw hS hL
  subst hi; subst h2
  have hin : vp_in (nI k) n := vp_in_nI hk hn
  have hkc : (nI k).toNatClampNeg = k := nI_clamp (by omega)
  refine W.bast C0.1 C0.2.1 (hw.at he).1 (((C0.2.2.2.2.2.2.2.1).2 1 _ rfl).1 n (fun j => .int (f j))) (fun q => by cases q) (by show ¬ (nI k < 0 ∨ (arrV _ _ _).slots.size ≤ _); rw [arrV_size]; exact hin) rfl rfl hd fun H1 e1 z1 oq => ?_
  refine kk p l e s m args below meth c H1 _ ls C0 X (hw.put he z1 ?_ oq) (hS.put z1 oq (AG_ad hw he)) hL
  show H1[ad G a]? = some (vp_cell _ _)
  rw [e1, hkc]
  exact congrArg some (upd_cell _ n k f _ _ rfl)
theorem j_zast {a n k : Nat} {f : Nat → Int32} {i x : Int32} (hd : decode oc pc = .ok (.bastore, 1)) (he : σ a = some (.inl (2, n, f))) (hi : i = nI k) (hk : k < n) (hn : n < 2 ^ 31) (hx : narrow .boolean (.int x) = .int x) (σ2 : AH) (h2 : ups σ a (.inl (2, n, upd f k x)) = σ2)
    (kk : J G oR oc on ort T z σ2 kc ks (pc + 1) L st) : J G oR oc on ort T z σ kc ks pc L (.int x :: .int i :: .ref a :: st) := by
  intro p l e s m args below meth c H locs ls C0 X hw hS hL
  subst hi; subst h2
  have hin : vp_in (nI k) n := vp_in_nI hk hn
  have hkc : (nI k).toNatClampNeg = k := nI_clamp (by omega)
  refine W.zast C0.1 C0.2.1 (hw.at he).1 (((C0.2.2.2.2.2.2.2.1).2 2 _ rfl).1 n (fun j => .int (f j))) (fun q => by cases q) (by show ¬ (nI k < 0 ∨ (arrV _ _ _).slots.size ≤ _); rw [arrV_size]; exact hin) rfl rfl hd fun H1 e1 z1 oq => ?_
  refine kk p l e s m args below meth c H1 _ ls C0 X (hw.put he z1 ?_ oq) (hS.put z1 oq (AG_ad hw he)) hL
  show H1[ad G a]? = some (vp_cell _ _)
  rw [e1, hkc, hx]
  exact congrArg some (upd_cell _ n k f x x rfl)
theorem j_alen {a n kd : Nat} {f : Nat → Int32} (hd : decode oc pc = .ok (.arraylength, 1)) (he : σ a = some (.inl (kd, n, f))) (hkd : kd < 5)
    (kk : J G oR oc on ort T z σ kc ks (pc + 1) L (.int (nI n) :: st)) : J G oR oc on ort T z σ kc ks pc L (.ref a :: st) := by
  intro p l e s m args below meth c H locs ls C0 X hw hS hL
  exact va_alen C0.1 C0.2.1 C0.2.2.2.2.2.2.2.1 (hw.one he) 0 kd rfl (tysG_at hkd) (v := nI n) rfl hd (kk p l e s m args below meth c H locs ls C0 X hw hS hL)
theorem j_min {ix : Nat} {x y : Int32} (hd : decode oc pc = .ok (.invokestatic ix, 3)) (h : ∀ w ∈ [Cond.methodLink oR ix Lib.Math.min.name, .static Lib.Math.min.name, .initialized "java/lang/Math", .code Lib.Math.min.name Lib.Math.min.code 2 (some .int)], w ∈ gw) (hf : 1 ≤ T.1.frames) (hl : (st.map fun v => v.category).sum + 13 ≤ T.1.locals) (hc : kc ≤ T.1.cells) (hs : ks ≤ T.1.slots)
    (kk : J G oR oc on ort T z σ kc ks (pc + 3) L (.int (if y < x then y else x) :: st)) : J G oR oc on ort T z σ kc ks pc L (.int y :: .int x :: st) := by
  intro p l e s m args below meth c H locs ls C0 X hw hS hL
  have hh : ∀ w ∈ [Cond.methodLink oR ix Lib.Math.min.name, .static Lib.Math.min.name, .initialized "java/lang/Math", .code Lib.Math.min.name Lib.Math.min.code 2 (some .int)], w.before args s = true := fun w q => C0.2.2.2.2.2.1 w (h w q)
  refine va_mmin C0.1 C0.2.1 (by rw [hL.1]; exact C0.2.2.2.1) C0.2.2.2.2.1 (hh _ (by simp)) (hh _ (by simp)) (hh _ (by simp)) (hh _ (by simp)) hf ?_ hc hs hd (kk p l e s m args below meth c H locs ls C0 X hw hS hL)
  have e1 : (st.map (cV G)).map (fun v => v.category) = st.map fun v => v.category := by rw [List.map_map]; exact List.map_congr_left fun v _ => cV_cat G v
  rw [e1]
  exact hl
end JH
end
section
/-! ROWS OF J: ends of a method, calls, new cells, statics -/
section JC
variable {G : GG} {oR : String} {oc : ByteArray} {on : Nat} {ort : Option FieldType} {T : TG} {z kc ks pc : Nat} {σ : AH} {L : List (Option Value)} {st : List Value}
theorem j_iret {n mc ms : Nat} {r : Option Value} {σ1 : AH} {v : Int32} (hM : ort = some .int) (hd : decode oc pc = .ok (.ireturn, 1)) (hr : r = some (.int v)) (h1 : σ1 = σ) (hkc : kc ≤ mc) (hks : ks ≤ ms) : J G oR oc on ort (TQ G n mc ms r z σ1) z σ kc ks pc L [.int v] := by
  intro p l e s m args below meth c H locs ls C X hw hS hL
  subst hr; subst h1
  refine W.widen (k := mc) (n := ms) hkc hks ?_
  exact W.iret C.1 C.2.1 (C.2.2.1.trans hM) (fun t ht _ => ⟨rfl, by rw [ht]; exact hw, hS.F ht⟩) hS.2.2 hd (hlocks := C.2.2.2.2.2.2.1)
theorem j_zret {n mc ms : Nat} {r : Option Value} {σ1 : AH} {v : Int32} (ty : FieldType) (hM : ort = some ty) (hn : narrow ty (.int v) = .int v) (hd : decode oc pc = .ok (.ireturn, 1)) (hr : r = some (.int v)) (h1 : σ1 = σ) (hkc : kc ≤ mc) (hks : ks ≤ ms) : J G oR oc on ort (TQ G n mc ms r z σ1) z σ kc ks pc L [.int v] := by
  intro p l e s m args below meth c H locs ls C X hw hS hL
  subst hr; subst h1
  refine W.widen (k := mc) (n := ms) hkc hks ?_
  exact W.zret C.1 C.2.1 (C.2.2.1.trans hM) hn (fun t ht _ => ⟨rfl, by rw [ht]; exact hw, hS.F ht⟩) hS.2.2 hd (hlocks := C.2.2.2.2.2.2.1)
theorem j_vret {n mc ms : Nat} {σ1 : AH} (hM : ort = none) (hd : decode oc pc = .ok (.return_, 1)) (h1 : σ1 = σ) (hkc : kc ≤ mc) (hks : ks ≤ ms) : J G oR oc on ort (TQ G n mc ms none z σ1) z σ kc ks pc L [] := by
  intro p l e s m args below meth c H locs ls C X hw hS hL
  subst h1
  refine W.widen (k := mc) (n := ms) hkc hks ?_
  exact W.vret C.1 C.2.1 (C.2.2.1.trans hM) (fun t ht _ => ⟨rfl, by rw [ht]; exact hw, hS.F ht⟩) hS.2.2 hd (hlocks := C.2.2.2.2.2.2.1)
theorem j_vretI {n mc ms z1 : Nat} {σ1 : AH} (hM : ort = none) (hd : decode oc pc = .ok (.return_, 1)) (hz : z1 = z) (h1 : σ1 = σ) (hkc : kc ≤ mc) (hks : ks ≤ ms) : J G oR oc on ort (TI G n mc ms z1 σ1) z σ kc ks pc L [] := by
  intro p l e s m args below meth c H locs ls C X hw hS hL
  subst h1; subst hz
  refine W.widen (k := mc) (n := ms) hkc hks ?_
  exact W.vret C.1 C.2.1 (C.2.2.1.trans hM) (fun t ht _ => ⟨rfl, by rw [ht]; exact hw, hS.F ht⟩) hS.2.2 hd (hlocks := C.2.2.2.2.2.2.1)
end JC
theorem W_call {p : Program} {l : Launch} {e : Env} {R : Room} {s : State} {m : MethodId} {args : Array Value} {below : List Frame} {meth : Method} {c : Code} {H : Heap} {locs : List Loc} {cells slots : Nat} {Q : State → Prop} {pc mc ms : Nat} {ls : Array Slot} {rest st0 : List Value} {a : Array Value} {G : GG} {r : Option Value} {z2 : Nat} {σ2 : AH}
    (hr : va_Run p l e R s m args below meth c H locs cells slots mc ms (F0 m pc ls st0) rest (Qr G r z2 σ2 a) (AG G)) (hS : va_S (AG G) s.heap H locs)
    (kk : ∀ (H1 : Heap) (locs1 : List Loc), Wc G z2 σ2 H1 → va_S (AG G) s.heap H1 locs1 → W p l e R s m args below meth c H1 locs1 (cells + mc) (slots + ms) Q (F0 m (pc + 3) ls ((r.map (cV G)).toList ++ rest))) : W p l e R s m args below meth c H locs cells slots Q (F0 m pc ls st0) := by
  intro T hT X
  obtain ⟨v, st₀, t, T', L, h0, X', hL, e1, e2, ⟨hv, hwc, hz, hk⟩, st⟩ := hr T hT X
  cases hv
  rw [h0] at hz hk
  rw [← e1] at hwc
  obtain ⟨t2, a1, b1⟩ := kk T'.heap (locs ++ L) hwc
    ⟨Nat.le_trans hS.1 (by rw [e1]; exact hz), fun q h1 h2 => by rw [e1, hk q (Nat.lt_of_lt_of_le h1 hS.1) h2]; exact hS.2.1 q h1 h2, fun q hq => by
      rcases List.mem_append.mp hq with h | h
      · exact hS.2.2 q h
      · exact hL q h⟩ T' rfl X'
  exact ⟨t2, st t2 a1, b1⟩
/-- the words of a call -/
def WV (own : String) (ix : Nat) (y : MethodName) (cc : ByteArray) (nL : Nat) (ret : Option FieldType) (n : Nat) : Prop := (∀ w ∈ [Cond.methodLink own ix y, .instanceMethod y, .selects y.cls y y, .initialized y.cls, .code y cc nL ret], w ∈ gw) ∧ y.cls ≠ "java/lang/invoke/MethodHandle" ∧ y.cls ≠ "java/lang/invoke/VarHandle" ∧ (parseMethodDescriptor y.desc).map (fun d => d.parameters.length) = some n
def WS (own : String) (ix : Nat) (y : MethodName) (cc : ByteArray) (nL : Nat) (ret : Option FieldType) (n : Nat) : Prop := (∀ w ∈ [Cond.methodLink own ix y, .static y, .initialized y.cls, .code y cc nL ret], w ∈ gw) ∧ y.cls ≠ "java/lang/invoke/MethodHandle" ∧ y.cls ≠ "java/lang/invoke/VarHandle" ∧ (parseMethodDescriptor y.desc).map (fun d => d.parameters.length) = some n
def WN (y : MethodName) (cc : ByteArray) (nL : Nat) (ret : Option FieldType) (n : Nat) : Prop := (∀ w ∈ [Cond.static y, .initialized y.cls, .code y cc nL ret], w ∈ gw) ∧ y.cls ≠ "java/lang/invoke/MethodHandle" ∧ y.cls ≠ "java/lang/invoke/VarHandle" ∧ (parseMethodDescriptor y.desc).map (fun d => d.parameters.length) = some n
def WI (own : String) (ix : Nat) (y : MethodName) (cc : ByteArray) (nL : Nat) (n : Nat) : Prop := (∀ w ∈ [Cond.methodLink own ix y, .instanceMethod y, .initialized y.cls, .code y cc nL none], w ∈ gw) ∧ y.name = "<init>" ∧ y.cls ≠ "java/lang/invoke/MethodHandle" ∧ y.cls ≠ "java/lang/invoke/VarHandle" ∧ (parseMethodDescriptor y.desc).map (fun d => d.parameters.length) = some n
theorem gw_code {y : MethodName} {cc : ByteArray} {nL : Nat} {ret : Option FieldType} (h : Cond.code y cc nL ret ∈ gw) : GoodIn gw (.code y cc nL ret :: gw) := by
  intro w hw
  rcases List.mem_cons.mp hw with rfl | h1
  · exact ⟨h, gw_good h⟩
  · exact ⟨h1, gw_good h1⟩
theorem pc_blind {G : GG} {z : Nat} {σ : AH} {av : List Value} : FrameBlind (va_Pc av (fun U => Wc G z σ U.heap ∧ va_K (DG G) classes (tysG G) U ∧ Gx G U U.heap ∧ G.1 ≤ U.heap.size)) := by
  intro a U g mk q
  obtain ⟨q0, q1, q2, q3, q4⟩ := q
  exact ⟨q0, q1, va_K.moved (u := U) (U := U.calling g mk a) (Vm.Alike.refl U.vm) q2, q3.same, q4⟩
theorem pc_here {G : GG} {oR : String} {oc : ByteArray} {on : Nat} {ort : Option FieldType} {p : Program} {s : State} {m : MethodId} {args : Array Value} {meth : Method} {c : Code} {z : Nat} {σ : AH} {H : Heap} {locs : List Loc} {av : List Value} (C : Cx G (oR, oc, on, ort) p s m args meth c) (hw : Wc G z σ H) (hS : va_S (AG G) s.heap H locs) : ∀ U : State, U.heap = H → s.WarmedH U.vm → va_Pc av (fun U => Wc G z σ U.heap ∧ va_K (DG G) classes (tysG G) U ∧ Gx G U U.heap ∧ G.1 ≤ U.heap.size) av.toArray U := by
  intro U hU hW
  obtain ⟨hx, hb, hr, hml, hown, hts, hlk, hK, hg, hB⟩ := C
  exact ⟨rfl, by rw [hU]; exact hw, va_K.moved hW.alike hK, by rw [hU]; exact hg.warm hW (fun a h1 h2 => hS.2.1 a h1 h2), by rw [hU]; exact Nat.le_trans hB hS.1⟩
theorem cat_map (G : GG) (st : List Value) : ((st.map (cV G)).map fun v => v.category).sum = (st.map fun v => v.category).sum := by
  congr 1
  rw [List.map_map]
  exact List.map_congr_left fun v _ => cV_cat G v
section JC2
variable {G : GG} {oR : String} {oc : ByteArray} {on : Nat} {ort : Option FieldType} {T : TG} {z kc ks pc : Nat} {σ : AH} {L : List (Option Value)} {st : List Value}
variable {ix : Nat} {y : MethodName} {cc : ByteArray} {nL n mc ms : Nat} {ret : Option FieldType} {As rest : List Value} {a : Nat} {r : Option Value} {z2 : Nat} {σ2 : AH}
theorem j_callV (hC : Ct G y cc nL ret n mc ms z σ (.ref a :: As) r z2 σ2) (hd : decode oc pc = .ok (.invokevirtual ix, 3)) (hst : st = As.reverse ++ .ref a :: rest) (hwd : WV oR ix y cc nL ret As.length) {ci : Nat} {fs : List Value} {TT : u_T} {N : Nat} (he : σ a = some (.inr (.inr (ci, fs)))) (hc : classes[ci]? = some (y.cls, TT, N))
    (hrm : n + 1 ≤ T.1.frames ∧ 8 + (nL + 11) + 40 * n ≤ T.1.locals) (hf : kc + mc ≤ T.1.cells ∧ ks + ms ≤ T.1.slots) (hcat : (rest.map fun v => v.category).sum ≤ 8)
    (kk : J G oR oc on ort T z2 σ2 (kc + mc) (ks + ms) (pc + 3) L (r.toList ++ rest)) : J G oR oc on ort T z σ kc ks pc L st := by
  intro p l e s m args below meth c H locs ls C X hw hS hL
  subst hst
  obtain ⟨hwd, hd1, hd2, hd3⟩ := hwd
  have hts := C.2.2.2.2.2.1
  refine W_call (r := r) (z2 := z2) (σ2 := σ2) (rest := rest.map (cV G)) (va_runV (As := As.map (cV G)) (b := ad G a) ⟨C.1, C.2.1, C.2.2.2.1, C.2.2.2.2.1, hts⟩ (hC l) (cwV As.length hts (fun w h => ?_) rfl rfl rfl ⟨rfl, hd1, hd2, hd3⟩ hrm) ⟨pc_blind, ?_, ?_⟩ rfl (by simp) hL.1 (by simp [cV]) (lv_room (by rw [cat_map]; exact hcat)) hd hf) hS (fun H1 locs1 h1 h2 => ?_)
  · unfold wsV at h
    rcases List.mem_append.mp h with h | h
    · have h2 : w ∈ gw := hwd w (by simp at h ⊢; rcases h with h | h | h | h <;> simp [h])
      exact ⟨h2, gw_good h2⟩
    · exact gw_code (hwd _ (by simp)) w h
  · obtain ⟨cell, g1, g2, g3⟩ := va_recv C.2.2.2.2.2.2.2.1 (hw.one he) hc (q0 := 0) rfl
    exact ⟨cell, g1, g2, g3⟩
  · exact fun U hU hW => pc_here (av := (Value.ref a :: As).map (cV G)) C hw hS U hU hW
  · have e1 : (r.map (cV G)).toList ++ rest.map (cV G) = (r.toList ++ rest).map (cV G) := by cases r <;> simp
    rw [e1]
    exact kk p l e s m args below meth c H1 locs1 ls C X h1 h2 hL
theorem j_callS (hC : Ct G y cc nL ret n mc ms z σ As r z2 σ2) (hd : decode oc pc = .ok (.invokestatic ix, 3)) (hst : st = As.reverse ++ rest) (hwd : WS oR ix y cc nL ret As.length)
    (hrm : n + 1 ≤ T.1.frames ∧ 8 + (nL + 11) + 40 * n ≤ T.1.locals) (hf : kc + mc ≤ T.1.cells ∧ ks + ms ≤ T.1.slots) (hcat : (rest.map fun v => v.category).sum ≤ 8)
    (kk : J G oR oc on ort T z2 σ2 (kc + mc) (ks + ms) (pc + 3) L (r.toList ++ rest)) : J G oR oc on ort T z σ kc ks pc L st := by
  intro p l e s m args below meth c H locs ls C X hw hS hL
  subst hst
  obtain ⟨hwd, hd1, hd2, hd3⟩ := hwd
  have hts := C.2.2.2.2.2.1
  refine W_call (r := r) (z2 := z2) (σ2 := σ2) (rest := rest.map (cV G)) (va_runS (As := As.map (cV G)) ⟨C.1, C.2.1, C.2.2.2.1, C.2.2.2.2.1, hts⟩ (hC l) (va_cwS As.length hts (fun w h => ?_) rfl rfl rfl ⟨hd1, hd2, hd3⟩ hrm) ⟨pc_blind, ?_⟩ rfl (by simp) hL.1 (by simp) (lv_room (by rw [cat_map]; exact hcat)) hd hf) hS (fun H1 locs1 h1 h2 => ?_)
  · unfold va_wsS at h
    rcases List.mem_append.mp h with h | h
    · have h2 : w ∈ gw := hwd w (by simp at h ⊢; rcases h with h | h | h <;> simp [h])
      exact ⟨h2, gw_good h2⟩
    · exact gw_code (hwd _ (by simp)) w h
  · exact fun U hU hW => pc_here (av := As.map (cV G)) C hw hS U hU hW
  · have e1 : (r.map (cV G)).toList ++ rest.map (cV G) = (r.toList ++ rest).map (cV G) := by cases r <;> simp
    rw [e1]
    exact kk p l e s m args below meth c H1 locs1 ls C X h1 h2 hL
/-- the one call of a nest mate: bitOf, out of Town -/
theorem j_bitOf (hM : oR = RX4) (hC : Ct G yX5_bitOf cc nL ret n mc ms z σ As r z2 σ2) (hd : decode oc pc = .ok (.invokestatic 65, 3)) (hst : st = As.reverse ++ rest) (hwd : WN yX5_bitOf cc nL ret As.length)
    (hrm : n + 1 ≤ T.1.frames ∧ 8 + (nL + 11) + 40 * n ≤ T.1.locals) (hf : kc + mc ≤ T.1.cells ∧ ks + ms ≤ T.1.slots) (hcat : (rest.map fun v => v.category).sum ≤ 8)
    (kk : J G oR oc on ort T z2 σ2 (kc + mc) (ks + ms) (pc + 3) L (r.toList ++ rest)) : J G oR oc on ort T z σ kc ks pc L st := by
  intro p l e s m args below meth c H locs ls C X hw hS hL
  subst hst
  obtain ⟨hwd, hd1, hd2, hd3⟩ := hwd
  have hts := C.2.2.2.2.2.1
  have hown : s.vm.findClass RX4 = some m.cls := by rw [← hM]; exact C.2.2.2.2.1
  refine W_call (r := r) (z2 := z2) (σ2 := σ2) (rest := rest.map (cV G)) (va_runSN (As := As.map (cV G)) (Ts := gw) ⟨C.1, C.2.1, C.2.2.2.1, hown, hts⟩ (hC l) ⟨va_cnB As.length hts (gw_code (hwd _ (by simp))) rfl rfl rfl C.2.2.2.2.2.2.2.2.1.2.2.2.2.2.2.1 (hts _ (hwd _ (by simp))) ⟨hd1, hd2, hd3⟩ hrm, hts _ (hwd _ (by simp)), trivial⟩ ⟨pc_blind, ?_⟩ rfl (by simp) hL.1 (by simp) (lv_room (by rw [cat_map]; exact hcat)) hd hf) hS (fun H1 locs1 h1 h2 => ?_)
  · exact fun U hU hW => pc_here (av := As.map (cV G)) C hw hS U hU hW
  · have e1 : (r.map (cV G)).toList ++ rest.map (cV G) = (r.toList ++ rest).map (cV G) := by cases r <;> simp
    rw [e1]
    exact kk p l e s m args below meth c H1 locs1 ls C X h1 h2 hL
theorem j_callI (hC : Ct G y cc nL none n mc ms z σ (.ref a :: As) none z2 σ2) (hd : decode oc pc = .ok (.invokespecial ix, 3)) (hst : st = As.reverse ++ .ref a :: rest) (hwd : WI oR ix y cc nL As.length)
    (hrm : n + 1 ≤ T.1.frames ∧ 8 + (nL + 11) + 40 * n ≤ T.1.locals) (hf : kc + mc ≤ T.1.cells ∧ ks + ms ≤ T.1.slots) (hcat : (rest.map fun v => v.category).sum ≤ 8)
    (kk : J G oR oc on ort T z2 σ2 (kc + mc) (ks + ms) (pc + 3) L rest) : J G oR oc on ort T z σ kc ks pc L st := by
  intro p l e s m args below meth c H locs ls C X hw hS hL
  subst hst
  obtain ⟨hwd, hd0, hd1, hd2, hd3⟩ := hwd
  have hts := C.2.2.2.2.2.1
  refine W_call (r := none) (z2 := z2) (σ2 := σ2) (rest := rest.map (cV G)) (va_runI (As := As.map (cV G)) (b := ad G a) ⟨C.1, C.2.1, C.2.2.2.1, C.2.2.2.2.1, hts⟩ (hC l) (cwI As.length hts (gw_code (hwd _ (by simp))) rfl rfl rfl (hts _ (hwd _ (by simp))) (hts _ (hwd _ (by simp))) (hts _ (hwd _ (by simp))) hd0 ⟨hd1, hd2, hd3⟩ hrm) ⟨pc_blind, ?_⟩ rfl (by simp) hL.1 (by simp [cV]) (lv_room (by rw [cat_map]; exact hcat)) hd hf) hS (fun H1 locs1 h1 h2 => ?_)
  · exact fun U hU hW => pc_here (av := (Value.ref a :: As).map (cV G)) C hw hS U hU hW
  · exact kk p l e s m args below meth c H1 locs1 ls C X h1 h2 hL
theorem j_objInit {ix : Nat} (hd : decode oc pc = .ok (.invokespecial ix, 3)) (h : ∀ w ∈ [Cond.methodLink oR ix objectInit, .instanceMethod objectInit, .code objectInit ⟨#[0xb1]⟩ 1 none], w ∈ gw) (hf : 1 ≤ T.1.frames) (hl : (st.map fun v => v.category).sum + 12 ≤ T.1.locals) (kk : J G oR oc on ort T z σ kc ks (pc + 3) L st) : J G oR oc on ort T z σ kc ks pc L (.ref a :: st) := by
  intro p l e s m args below meth c H locs ls C X hw hS hL
  have hh : ∀ w ∈ [Cond.methodLink oR ix objectInit, .instanceMethod objectInit, .code objectInit ⟨#[0xb1]⟩ 1 none], w.before args s = true := fun w q => C.2.2.2.2.2.1 w (h w q)
  exact W.objInit C.1 C.2.1 C.2.2.2.2.1 (hh _ (by simp)) (hh _ (by simp)) (hh _ (by simp)) rfl (by rw [C.2.2.2.1]; exact hL.1) rfl hd hf (by show 2 * 0 + _ + 12 ≤ _; rw [cat_map]; omega) (kk p l e s m args below meth c H locs ls C X hw hS hL)
end JC2
end
section
/-! LINKS: which words of the tables each link is (printed by wip/tools/mklinks.py) -/
theorem gws (ws : List Cond) (ps : List Nat) (hp : ws = ps.filterMap (fun i => lw_tbl[i]?)) (hg : ws.all goodWord = true) : ∀ w ∈ ws, w ∈ gw := by
  intro w hw
  have h1 := List.all_eq_true.mp hg w hw
  rw [hp] at hw
  obtain ⟨i, -, hi⟩ := List.mem_filterMap.mp hw
  exact List.mem_filter.mpr ⟨List.mem_of_getElem? hi, h1⟩
theorem gw1 {w : Cond} (i : Nat) (h : lw_tbl[i]? = some w) (hg : goodWord w = true) : w ∈ gw := List.mem_filter.mpr ⟨List.mem_of_getElem? h, hg⟩
theorem in_0 : ∀ w ∈ u_ws RX0 TX0 3, w ∈ gw := gws _ [200, 202, 204] (by decide +kernel) (by decide +kernel)
theorem nw_0 : ∀ w ∈ [Cond.instantiable RX0 3, .initialized RX0], w ∈ gw := gws _ [188, 58] (by decide +kernel) (by decide +kernel)
theorem in_1 : ∀ w ∈ u_ws RX1 TX1 2, w ∈ gw := gws _ [217, 219] (by decide +kernel) (by decide +kernel)
theorem nw_1 : ∀ w ∈ [Cond.instantiable RX1 2, .initialized RX1], w ∈ gw := gws _ [208, 59] (by decide +kernel) (by decide +kernel)
theorem in_2 : ∀ w ∈ u_ws RX2 TX2 9, w ∈ gw := gws _ [166, 168, 170, 172, 174, 176, 178, 180, 182] (by decide +kernel) (by decide +kernel)
theorem nw_2 : ∀ w ∈ [Cond.instantiable RX2 9, .initialized RX2], w ∈ gw := gws _ [97, 56] (by decide +kernel) (by decide +kernel)
theorem in_3 : ∀ w ∈ u_ws RX3 TX3 3, w ∈ gw := gws _ [88, 90, 92] (by decide +kernel) (by decide +kernel)
theorem nw_3 : ∀ w ∈ [Cond.instantiable RX3 3, .initialized RX3], w ∈ gw := gws _ [77, 55] (by decide +kernel) (by decide +kernel)
theorem in_4 : ∀ w ∈ u_ws RX4 TX4 10, w ∈ gw := gws _ [130, 132, 134, 136, 138, 140, 142, 144, 146, 148] (by decide +kernel) (by decide +kernel)
theorem nw_4 : ∀ w ∈ [Cond.instantiable RX4 10, .initialized RX4], w ∈ gw := gws _ [103, 57] (by decide +kernel) (by decide +kernel)
theorem in_5 : ∀ w ∈ u_ws RX5 TX5 10, w ∈ gw := gws _ [232, 234, 236, 238, 240, 242, 244, 246, 248, 250] (by decide +kernel) (by decide +kernel)
theorem nw_5 : ∀ w ∈ [Cond.instantiable RX5 10, .initialized RX5], w ∈ gw := gws _ [68, 54] (by decide +kernel) (by decide +kernel)
theorem in_6 : ∀ w ∈ u_ws RX6 TX6 24, w ∈ gw := gws _ [743, 745, 747, 749, 751, 753, 755, 757, 759, 761, 763, 765, 767, 769, 771, 773, 775, 777, 779, 781, 783, 785, 787, 789] (by decide +kernel) (by decide +kernel)
theorem nw_6 : ∀ w ∈ [Cond.instantiable RX6 24, .initialized RX6], w ∈ gw := gws _ [714, 60] (by decide +kernel) (by decide +kernel)
theorem fl_X5_11 : Cond.fieldLink RX5 11 "DebtFronts" "rows" "[LDebtFronts$Row;" ∈ gw := gw1 222 (by decide +kernel) (by decide +kernel)
theorem fl_X5_19 : Cond.fieldLink RX5 19 "DebtFronts" "reader" "LDebtFronts$Reader;" ∈ gw := gw1 223 (by decide +kernel) (by decide +kernel)
theorem fl_X5_26 : Cond.fieldLink RX5 26 "DebtFronts" "town" "LDebtFronts$Town;" ∈ gw := gw1 226 (by decide +kernel) (by decide +kernel)
theorem fl_X5_30 : Cond.fieldLink RX5 30 "DebtFronts" "foretold" "LDebtFronts$Town;" ∈ gw := gw1 227 (by decide +kernel) (by decide +kernel)
theorem fl_X5_36 : Cond.fieldLink RX5 36 "DebtFronts" "acts" "LDebtFronts$Acts;" ∈ gw := gw1 228 (by decide +kernel) (by decide +kernel)
theorem fl_X5_40 : Cond.fieldLink RX5 40 "DebtFronts" "images" "[LDebtFronts$Town;" ∈ gw := gw1 229 (by decide +kernel) (by decide +kernel)
theorem fl_X5_47 : Cond.fieldLink RX5 47 "DebtFronts" "asks" "LDebtFronts$Asks;" ∈ gw := gw1 230 (by decide +kernel) (by decide +kernel)
theorem fl_X5_51 : Cond.fieldLink RX5 51 "DebtFronts" "needs" "[I" ∈ gw := gw1 231 (by decide +kernel) (by decide +kernel)
theorem fl_X5_83 : Cond.fieldLink RX5 83 "DebtFronts$Row" "lane" "I" ∈ gw := gw1 85 (by decide +kernel) (by decide +kernel)
theorem fl_X5_87 : Cond.fieldLink RX5 87 "DebtFronts$Row" "items" "[I" ∈ gw := gw1 83 (by decide +kernel) (by decide +kernel)
theorem fl_X5_96 : Cond.fieldLink RX5 96 "DebtFronts$Row" "length" "I" ∈ gw := gw1 87 (by decide +kernel) (by decide +kernel)
theorem fl_X5_102 : Cond.fieldLink RX5 102 "DebtFronts$Reader" "length" "I" ∈ gw := gw1 156 (by decide +kernel) (by decide +kernel)
theorem fl_X5_104 : Cond.fieldLink RX5 104 "DebtFronts$Reader" "tape" "[B" ∈ gw := gw1 153 (by decide +kernel) (by decide +kernel)
theorem fl_X5_111 : Cond.fieldLink RX5 111 "DebtFronts$Reader" "fault" "I" ∈ gw := gw1 164 (by decide +kernel) (by decide +kernel)
theorem fl_X5_114 : Cond.fieldLink RX5 114 "DebtFronts" "latestFault" "I" ∈ gw := gw1 224 (by decide +kernel) (by decide +kernel)
theorem fl_X5_118 : Cond.fieldLink RX5 118 "DebtFronts$Reader" "start" "I" ∈ gw := gw1 159 (by decide +kernel) (by decide +kernel)
theorem fl_X5_121 : Cond.fieldLink RX5 121 "DebtFronts$Reader" "draft" "LDebtFronts$Town;" ∈ gw := gw1 155 (by decide +kernel) (by decide +kernel)
theorem fl_X5_131 : Cond.fieldLink RX5 131 "DebtFronts$Town" "people" "I" ∈ gw := gw1 118 (by decide +kernel) (by decide +kernel)
theorem fl_X5_137 : Cond.fieldLink RX5 137 "DebtFronts$Town" "cash" "[I" ∈ gw := gw1 110 (by decide +kernel) (by decide +kernel)
theorem fl_X5_161 : Cond.fieldLink RX5 161 "DebtFronts$Town" "painted" "[I" ∈ gw := gw1 114 (by decide +kernel) (by decide +kernel)
theorem fl_X5_164 : Cond.fieldLink RX5 164 "DebtFronts$Town" "hidden" "I" ∈ gw := gw1 127 (by decide +kernel) (by decide +kernel)
theorem fl_X5_174 : Cond.fieldLink RX5 174 "DebtFronts$Town" "quarters" "I" ∈ gw := gw1 125 (by decide +kernel) (by decide +kernel)
theorem fl_X5_181 : Cond.fieldLink RX5 181 "DebtFronts$Acts" "kept" "I" ∈ gw := gw1 199 (by decide +kernel) (by decide +kernel)
theorem fl_X5_187 : Cond.fieldLink RX5 187 "DebtFronts$Town" "income" "[I" ∈ gw := gw1 112 (by decide +kernel) (by decide +kernel)
theorem fl_X5_196 : Cond.fieldLink RX5 196 "DebtFronts$Town" "failed" "I" ∈ gw := gw1 129 (by decide +kernel) (by decide +kernel)
theorem fl_X5_233 : Cond.fieldLink RX5 233 "DebtFronts" "KINDS_THAT_ONE_IS" "[I" ∈ gw := gw1 665 (by decide +kernel) (by decide +kernel)
theorem fl_X5_240 : Cond.fieldLink RX5 240 "DebtFronts$Asks" "traced" "I" ∈ gw := gw1 216 (by decide +kernel) (by decide +kernel)
theorem fl_X5_243 : Cond.fieldLink RX5 243 "DebtFronts$Asks" "bodies" "[I" ∈ gw := gw1 214 (by decide +kernel) (by decide +kernel)
theorem fl_X5_255 : Cond.fieldLink RX5 255 "DebtFronts" "latestFinding" "I" ∈ gw := gw1 225 (by decide +kernel) (by decide +kernel)
theorem fl_X5_262 : Cond.fieldLink RX5 262 "DebtFronts$Town" "unit" "I" ∈ gw := gw1 121 (by decide +kernel) (by decide +kernel)
theorem fl_X0_11 : Cond.fieldLink RX0 11 "DebtFronts$Acts" "ahead" "[LDebtFronts$Town;" ∈ gw := gw1 196 (by decide +kernel) (by decide +kernel)
theorem fl_X0_18 : Cond.fieldLink RX0 18 "DebtFronts$Acts" "next" "I" ∈ gw := gw1 197 (by decide +kernel) (by decide +kernel)
theorem fl_X0_22 : Cond.fieldLink RX0 22 "DebtFronts$Acts" "kept" "I" ∈ gw := gw1 198 (by decide +kernel) (by decide +kernel)
theorem fl_X1_9 : Cond.fieldLink RX1 9 "DebtFronts$Asks" "bodies" "[I" ∈ gw := gw1 213 (by decide +kernel) (by decide +kernel)
theorem fl_X1_15 : Cond.fieldLink RX1 15 "DebtFronts$Asks" "traced" "I" ∈ gw := gw1 215 (by decide +kernel) (by decide +kernel)
theorem fl_X1_25 : Cond.fieldLink RX1 25 "DebtFronts$Asks" "SIZE_BODIES" "[I" ∈ gw := gw1 676 (by decide +kernel) (by decide +kernel)
theorem fl_X1_28 : Cond.fieldLink RX1 28 "DebtFronts$Asks" "MARK_BODIES" "[I" ∈ gw := gw1 678 (by decide +kernel) (by decide +kernel)
theorem fl_X1_39 : Cond.fieldLink RX1 39 "DebtFronts$Town" "cash" "[I" ∈ gw := gw1 109 (by decide +kernel) (by decide +kernel)
theorem fl_X2_9 : Cond.fieldLink RX2 9 "DebtFronts$Reader" "tape" "[B" ∈ gw := gw1 152 (by decide +kernel) (by decide +kernel)
theorem fl_X2_18 : Cond.fieldLink RX2 18 "DebtFronts$Reader" "draft" "LDebtFronts$Town;" ∈ gw := gw1 154 (by decide +kernel) (by decide +kernel)
theorem fl_X2_22 : Cond.fieldLink RX2 22 "DebtFronts$Reader" "end" "I" ∈ gw := gw1 161 (by decide +kernel) (by decide +kernel)
theorem fl_X2_42 : Cond.fieldLink RX2 42 "DebtFronts$Reader" "sort" "I" ∈ gw := gw1 158 (by decide +kernel) (by decide +kernel)
theorem fl_X2_59 : Cond.fieldLink RX2 59 "DebtFronts$Reader" "taken" "I" ∈ gw := gw1 163 (by decide +kernel) (by decide +kernel)
theorem fl_X2_62 : Cond.fieldLink RX2 62 "DebtFronts$Town" "unit" "I" ∈ gw := gw1 120 (by decide +kernel) (by decide +kernel)
theorem fl_X2_65 : Cond.fieldLink RX2 65 "DebtFronts$Town" "rate" "I" ∈ gw := gw1 123 (by decide +kernel) (by decide +kernel)
theorem fl_X2_92 : Cond.fieldLink RX2 92 "DebtFronts$Town" "people" "I" ∈ gw := gw1 117 (by decide +kernel) (by decide +kernel)
theorem fl_X2_99 : Cond.fieldLink RX2 99 "DebtFronts$Reader" "fault" "I" ∈ gw := gw1 165 (by decide +kernel) (by decide +kernel)
theorem fl_X2_102 : Cond.fieldLink RX2 102 "DebtFronts$Reader" "start" "I" ∈ gw := gw1 160 (by decide +kernel) (by decide +kernel)
theorem fl_X2_115 : Cond.fieldLink RX2 115 "DebtFronts$Reader" "value" "I" ∈ gw := gw1 162 (by decide +kernel) (by decide +kernel)
theorem fl_X2_118 : Cond.fieldLink RX2 118 "DebtFronts$Reader" "length" "I" ∈ gw := gw1 157 (by decide +kernel) (by decide +kernel)
theorem fl_X3_9 : Cond.fieldLink RX3 9 "DebtFronts$Row" "items" "[I" ∈ gw := gw1 82 (by decide +kernel) (by decide +kernel)
theorem fl_X3_15 : Cond.fieldLink RX3 15 "DebtFronts$Row" "lane" "I" ∈ gw := gw1 84 (by decide +kernel) (by decide +kernel)
theorem fl_X3_19 : Cond.fieldLink RX3 19 "DebtFronts$Row" "length" "I" ∈ gw := gw1 86 (by decide +kernel) (by decide +kernel)
theorem fl_X4_9 : Cond.fieldLink RX4 9 "DebtFronts$Town" "cash" "[I" ∈ gw := gw1 108 (by decide +kernel) (by decide +kernel)
theorem fl_X4_15 : Cond.fieldLink RX4 15 "DebtFronts$Town" "income" "[I" ∈ gw := gw1 111 (by decide +kernel) (by decide +kernel)
theorem fl_X4_18 : Cond.fieldLink RX4 18 "DebtFronts$Town" "painted" "[I" ∈ gw := gw1 113 (by decide +kernel) (by decide +kernel)
theorem fl_X4_21 : Cond.fieldLink RX4 21 "DebtFronts$Town" "debts" "[I" ∈ gw := gw1 115 (by decide +kernel) (by decide +kernel)
theorem fl_X4_24 : Cond.fieldLink RX4 24 "DebtFronts$Town" "unit" "I" ∈ gw := gw1 119 (by decide +kernel) (by decide +kernel)
theorem fl_X4_34 : Cond.fieldLink RX4 34 "DebtFronts$Town" "people" "I" ∈ gw := gw1 116 (by decide +kernel) (by decide +kernel)
theorem fl_X4_37 : Cond.fieldLink RX4 37 "DebtFronts$Town" "rate" "I" ∈ gw := gw1 122 (by decide +kernel) (by decide +kernel)
theorem fl_X4_40 : Cond.fieldLink RX4 40 "DebtFronts$Town" "quarters" "I" ∈ gw := gw1 124 (by decide +kernel) (by decide +kernel)
theorem fl_X4_43 : Cond.fieldLink RX4 43 "DebtFronts$Town" "hidden" "I" ∈ gw := gw1 126 (by decide +kernel) (by decide +kernel)
theorem fl_X4_46 : Cond.fieldLink RX4 46 "DebtFronts$Town" "failed" "I" ∈ gw := gw1 128 (by decide +kernel) (by decide +kernel)
theorem fl_X6_7 : Cond.fieldLink RX6 7 "DebtFrontsModel" "town" "[I" ∈ gw := gw1 719 (by decide +kernel) (by decide +kernel)
theorem fl_X6_13 : Cond.fieldLink RX6 13 "DebtFrontsModel" "trial" "[I" ∈ gw := gw1 720 (by decide +kernel) (by decide +kernel)
theorem fl_X6_16 : Cond.fieldLink RX6 16 "DebtFrontsModel" "images" "[I" ∈ gw := gw1 721 (by decide +kernel) (by decide +kernel)
theorem fl_X6_19 : Cond.fieldLink RX6 19 "DebtFrontsModel" "kept" "[Z" ∈ gw := gw1 722 (by decide +kernel) (by decide +kernel)
theorem fl_X6_23 : Cond.fieldLink RX6 23 "DebtFrontsModel" "was" "[I" ∈ gw := gw1 723 (by decide +kernel) (by decide +kernel)
theorem fl_X6_26 : Cond.fieldLink RX6 26 "DebtFrontsModel" "sizes" "[I" ∈ gw := gw1 727 (by decide +kernel) (by decide +kernel)
theorem fl_X6_29 : Cond.fieldLink RX6 29 "DebtFrontsModel" "lanes" "[I" ∈ gw := gw1 728 (by decide +kernel) (by decide +kernel)
theorem fl_X6_32 : Cond.fieldLink RX6 32 "DebtFrontsModel" "items" "[I" ∈ gw := gw1 729 (by decide +kernel) (by decide +kernel)
theorem fl_X6_35 : Cond.fieldLink RX6 35 "DebtFrontsModel" "tape" "[I" ∈ gw := gw1 730 (by decide +kernel) (by decide +kernel)
theorem fl_X6_38 : Cond.fieldLink RX6 38 "DebtFrontsModel" "six" "[I" ∈ gw := gw1 738 (by decide +kernel) (by decide +kernel)
theorem fl_X6_41 : Cond.fieldLink RX6 41 "DebtFrontsModel" "costs" "[I" ∈ gw := gw1 739 (by decide +kernel) (by decide +kernel)
theorem fl_X6_44 : Cond.fieldLink RX6 44 "DebtFrontsModel" "traced" "[I" ∈ gw := gw1 741 (by decide +kernel) (by decide +kernel)
theorem fl_X6_47 : Cond.fieldLink RX6 47 "DebtFrontsModel" "status" "I" ∈ gw := gw1 725 (by decide +kernel) (by decide +kernel)
theorem fl_X6_74 : Cond.fieldLink RX6 74 "DebtFrontsModel" "fed" "I" ∈ gw := gw1 731 (by decide +kernel) (by decide +kernel)
theorem fl_X6_80 : Cond.fieldLink RX6 80 "DebtFrontsModel" "at" "I" ∈ gw := gw1 732 (by decide +kernel) (by decide +kernel)
theorem fl_X6_87 : Cond.fieldLink RX6 87 "DebtFrontsModel" "start" "I" ∈ gw := gw1 733 (by decide +kernel) (by decide +kernel)
theorem fl_X6_90 : Cond.fieldLink RX6 90 "DebtFrontsModel" "token" "I" ∈ gw := gw1 734 (by decide +kernel) (by decide +kernel)
theorem fl_X6_107 : Cond.fieldLink RX6 107 "DebtFrontsModel" "value" "I" ∈ gw := gw1 735 (by decide +kernel) (by decide +kernel)
theorem fl_X6_110 : Cond.fieldLink RX6 110 "DebtFrontsModel" "wrong" "I" ∈ gw := gw1 736 (by decide +kernel) (by decide +kernel)
theorem fl_X6_116 : Cond.fieldLink RX6 116 "DebtFrontsModel" "got" "I" ∈ gw := gw1 737 (by decide +kernel) (by decide +kernel)
theorem fl_X6_141 : Cond.fieldLink RX6 141 "DebtFrontsModel" "fault" "I" ∈ gw := gw1 726 (by decide +kernel) (by decide +kernel)
theorem fl_X6_145 : Cond.fieldLink RX6 145 "DebtFrontsModel" "acts" "I" ∈ gw := gw1 724 (by decide +kernel) (by decide +kernel)
theorem fl_X6_198 : Cond.fieldLink RX6 198 "DebtFrontsModel" "many" "I" ∈ gw := gw1 740 (by decide +kernel) (by decide +kernel)
theorem fl_X6_210 : Cond.fieldLink RX6 210 "DebtFrontsModel" "traces" "I" ∈ gw := gw1 742 (by decide +kernel) (by decide +kernel)
theorem fl_J0_9 : Cond.fieldLink RJ0 9 "java/lang/String" "value" "[B" ∈ gw := gw1 1058 (by decide +kernel) (by decide +kernel)
theorem fl_J0_15 : Cond.fieldLink RJ0 15 "java/lang/String" "coder" "B" ∈ gw := gw1 1059 (by decide +kernel) (by decide +kernel)
theorem fl_J0_38 : Cond.fieldLink RJ0 38 "java/lang/String" "COMPACT_STRINGS" "Z" ∈ gw := gw1 364 (by decide +kernel) (by decide +kernel)
theorem fl_J0_1053 : Cond.fieldLink RJ0 1053 "jdk/internal/util/Preconditions" "SIOOBE_FORMATTER" "Ljava/util/function/BiFunction;" ∈ gw := gw1 380 (by decide +kernel) (by decide +kernel)
theorem fl_J2_44 : Cond.fieldLink RJ2 44 "java/lang/StringUTF16" "$assertionsDisabled" "Z" ∈ gw := gw1 398 (by decide +kernel) (by decide +kernel)
theorem fl_J2_59 : Cond.fieldLink RJ2 59 "java/lang/StringUTF16" "HI_BYTE_SHIFT" "I" ∈ gw := gw1 400 (by decide +kernel) (by decide +kernel)
theorem fl_J2_63 : Cond.fieldLink RJ2 63 "java/lang/StringUTF16" "LO_BYTE_SHIFT" "I" ∈ gw := gw1 402 (by decide +kernel) (by decide +kernel)
theorem kc_X5_59 : Cond.constant RX5 59 (-1000001) ∈ gw := gw1 260 (by decide +kernel) (by decide +kernel)
theorem kc_X5_103 : Cond.constant RX5 103 (-1000003) ∈ gw := gw1 309 (by decide +kernel) (by decide +kernel)
theorem kc_X5_117 : Cond.constant RX5 117 (-1000100) ∈ gw := gw1 444 (by decide +kernel) (by decide +kernel)
theorem kc_X5_140 : Cond.constant RX5 140 (-1000002) ∈ gw := gw1 470 (by decide +kernel) (by decide +kernel)
theorem kc_X5_144 : Cond.constant RX5 144 (99999) ∈ gw := gw1 475 (by decide +kernel) (by decide +kernel)
theorem kc_X5_173 : Cond.constant RX5 173 (999999) ∈ gw := gw1 530 (by decide +kernel) (by decide +kernel)
theorem kc_X5_220 : Cond.constant RX5 220 (-1000000) ∈ gw := gw1 617 (by decide +kernel) (by decide +kernel)
theorem kc_X5_258 : Cond.constant RX5 258 (-1000010) ∈ gw := gw1 265 (by decide +kernel) (by decide +kernel)
theorem kc_X4_105 : Cond.constant RX4 105 (99999) ∈ gw := gw1 561 (by decide +kernel) (by decide +kernel)
theorem kc_X6_51 : Cond.constant RX6 51 (-1000010) ∈ gw := gw1 810 (by decide +kernel) (by decide +kernel)
theorem kc_X6_64 : Cond.constant RX6 64 (-1000001) ∈ gw := gw1 805 (by decide +kernel) (by decide +kernel)
theorem kc_X6_77 : Cond.constant RX6 77 (-1000003) ∈ gw := gw1 832 (by decide +kernel) (by decide +kernel)
theorem kc_X6_144 : Cond.constant RX6 144 (-1000100) ∈ gw := gw1 881 (by decide +kernel) (by decide +kernel)
theorem kc_X6_163 : Cond.constant RX6 163 (-1000002) ∈ gw := gw1 899 (by decide +kernel) (by decide +kernel)
theorem kc_X6_164 : Cond.constant RX6 164 (99999) ∈ gw := gw1 900 (by decide +kernel) (by decide +kernel)
theorem kc_X6_204 : Cond.constant RX6 204 (-1000000) ∈ gw := gw1 979 (by decide +kernel) (by decide +kernel)
theorem kl_X4_97 : Cond.constantLong RX4 97 (16807) ∈ gw := gw1 539 (by decide +kernel) (by decide +kernel)
theorem kl_X4_99 : Cond.constantLong RX4 99 (2147483647) ∈ gw := gw1 540 (by decide +kernel) (by decide +kernel)
theorem kl_L_32 : Cond.constantLong RL 32 (4294967295) ∈ gw := gw1 1057 (by decide +kernel) (by decide +kernel)
theorem kl_X6_52 : Cond.constantLong RX6 52 (7) ∈ gw := gw1 800 (by decide +kernel) (by decide +kernel)
theorem kl_X6_62 : Cond.constantLong RX6 62 (2) ∈ gw := gw1 804 (by decide +kernel) (by decide +kernel)
theorem kl_X6_72 : Cond.constantLong RX6 72 (8) ∈ gw := gw1 831 (by decide +kernel) (by decide +kernel)
theorem kl_X6_78 : Cond.constantLong RX6 78 (255) ∈ gw := gw1 833 (by decide +kernel) (by decide +kernel)
theorem kl_X6_93 : Cond.constantLong RX6 93 (32) ∈ gw := gw1 850 (by decide +kernel) (by decide +kernel)
theorem kl_X6_95 : Cond.constantLong RX6 95 (97) ∈ gw := gw1 851 (by decide +kernel) (by decide +kernel)
theorem kl_X6_97 : Cond.constantLong RX6 97 (12343) ∈ gw := gw1 852 (by decide +kernel) (by decide +kernel)
theorem kl_X6_99 : Cond.constantLong RX6 99 (542723566) ∈ gw := gw1 853 (by decide +kernel) (by decide +kernel)
theorem kl_X6_101 : Cond.constantLong RX6 101 (515251) ∈ gw := gw1 854 (by decide +kernel) (by decide +kernel)
theorem kl_X6_103 : Cond.constantLong RX6 103 (508078) ∈ gw := gw1 855 (by decide +kernel) (by decide +kernel)
theorem kl_X6_105 : Cond.constantLong RX6 105 (8556773) ∈ gw := gw1 856 (by decide +kernel) (by decide +kernel)
theorem kl_X6_161 : Cond.constantLong RX6 161 (999) ∈ gw := gw1 898 (by decide +kernel) (by decide +kernel)
theorem kl_X6_168 : Cond.constantLong RX6 168 (99999) ∈ gw := gw1 909 (by decide +kernel) (by decide +kernel)
theorem kl_X6_170 : Cond.constantLong RX6 170 (9) ∈ gw := gw1 914 (by decide +kernel) (by decide +kernel)
theorem kl_X6_175 : Cond.constantLong RX6 175 (999999) ∈ gw := gw1 933 (by decide +kernel) (by decide +kernel)
theorem kl_X6_177 : Cond.constantLong RX6 177 (16807) ∈ gw := gw1 934 (by decide +kernel) (by decide +kernel)
theorem kl_X6_179 : Cond.constantLong RX6 179 (2147483647) ∈ gw := gw1 935 (by decide +kernel) (by decide +kernel)
theorem kl_X6_184 : Cond.constantLong RX6 184 (10) ∈ gw := gw1 947 (by decide +kernel) (by decide +kernel)
theorem kl_X6_189 : Cond.constantLong RX6 189 (3) ∈ gw := gw1 956 (by decide +kernel) (by decide +kernel)
theorem kl_X6_191 : Cond.constantLong RX6 191 (6) ∈ gw := gw1 957 (by decide +kernel) (by decide +kernel)
theorem kl_X6_193 : Cond.constantLong RX6 193 (-9) ∈ gw := gw1 958 (by decide +kernel) (by decide +kernel)
theorem kl_X6_208 : Cond.constantLong RX6 208 (5) ∈ gw := gw1 1012 (by decide +kernel) (by decide +kernel)
theorem cl_X5_9 : Cond.classLink RX5 9 RX3 ∈ gw := gw1 75 (by decide +kernel) (by decide +kernel)
theorem cl_X5_16 : Cond.classLink RX5 16 RX2 ∈ gw := gw1 96 (by decide +kernel) (by decide +kernel)
theorem cl_X5_23 : Cond.classLink RX5 23 RX4 ∈ gw := gw1 185 (by decide +kernel) (by decide +kernel)
theorem cl_X5_33 : Cond.classLink RX5 33 RX0 ∈ gw := gw1 187 (by decide +kernel) (by decide +kernel)
theorem cl_X5_44 : Cond.classLink RX5 44 RX1 ∈ gw := gw1 207 (by decide +kernel) (by decide +kernel)
theorem cl_X0_9 : Cond.classLink RX0 9 RX4 ∈ gw := gw1 193 (by decide +kernel) (by decide +kernel)
theorem cl_X2_15 : Cond.classLink RX2 15 RX4 ∈ gw := gw1 102 (by decide +kernel) (by decide +kernel)
theorem cl_L_7 : Cond.classLink RL 7 RX5 ∈ gw := gw1 67 (by decide +kernel) (by decide +kernel)
theorem cl_L_10 : Cond.classLink RL 10 RX6 ∈ gw := gw1 713 (by decide +kernel) (by decide +kernel)
theorem ar_int : Cond.arrayClass .int ∈ gw := gw1 95 (by decide +kernel) (by decide +kernel)
theorem ar_byte : Cond.arrayClass .byte ∈ gw := gw1 151 (by decide +kernel) (by decide +kernel)
theorem ar_boolean : Cond.arrayClass .boolean ∈ gw := gw1 792 (by decide +kernel) (by decide +kernel)
theorem oi_X5_1 : ∀ w ∈ [Cond.methodLink RX5 1 objectInit, .instanceMethod objectInit, .code objectInit ⟨#[0xb1]⟩ 1 none], w ∈ gw := gws _ [72, 73, 74] (by decide +kernel) (by decide +kernel)
theorem mi_X5_15 : WI RX5 15 yX3_init cX3_init 1 0 := ⟨gws _ [78, 79, 55, 80] (by decide +kernel) (by decide +kernel), rfl, by decide, by decide, by decide +kernel⟩
theorem mi_X5_18 : WI RX5 18 yX2_init cX2_init 1 0 := ⟨gws _ [98, 99, 56, 100] (by decide +kernel) (by decide +kernel), rfl, by decide, by decide, by decide +kernel⟩
theorem mi_X5_25 : WI RX5 25 yX4_init cX4_init 1 0 := ⟨gws _ [186, 105, 57, 106] (by decide +kernel) (by decide +kernel), rfl, by decide, by decide, by decide +kernel⟩
theorem mi_X5_35 : WI RX5 35 yX0_init cX0_init 2 0 := ⟨gws _ [189, 190, 58, 191] (by decide +kernel) (by decide +kernel), rfl, by decide, by decide, by decide +kernel⟩
theorem mi_X5_46 : WI RX5 46 yX1_init cX1_init 1 0 := ⟨gws _ [209, 210, 59, 211] (by decide +kernel) (by decide +kernel), rfl, by decide, by decide, by decide +kernel⟩
theorem ms_X5_55 : WS RX5 55 yX5_isNoRow cX5_isNoRow 1 (some .boolean) 1 := ⟨gws _ [257, 258, 54, 259] (by decide +kernel) (by decide +kernel), by decide, by decide, by decide +kernel⟩
theorem mv_X5_60 : WV RX5 60 yX5_found cX5_found 2 (some .int) 1 := ⟨gws _ [261, 263, 0, 54, 264] (by decide +kernel) (by decide +kernel), by decide, by decide, by decide +kernel⟩
theorem mv_X5_64 : WV RX5 64 yX3_begin cX3_begin 4 none 2 := ⟨gws _ [266, 267, 268, 55, 269] (by decide +kernel) (by decide +kernel), by decide, by decide, by decide +kernel⟩
theorem mv_X5_68 : WV RX5 68 yX5_foundNothing cX5_foundNothing 2 (some .int) 1 := ⟨gws _ [270, 272, 1, 54, 273] (by decide +kernel) (by decide +kernel), by decide, by decide, by decide +kernel⟩
theorem mv_X5_71 : WV RX5 71 yX3_isMissing cX3_isMissing 1 (some .boolean) 0 := ⟨gws _ [278, 279, 280, 55, 281] (by decide +kernel) (by decide +kernel), by decide, by decide, by decide +kernel⟩
theorem mv_X5_75 : WV RX5 75 yX3_hasRange cX3_hasRange 3 (some .boolean) 2 := ⟨gws _ [282, 283, 284, 55, 285] (by decide +kernel) (by decide +kernel), by decide, by decide, by decide +kernel⟩
theorem mv_X5_79 : WV RX5 79 yX3_put cX3_put 3 (some .int) 2 := ⟨gws _ [286, 287, 288, 55, 289] (by decide +kernel) (by decide +kernel), by decide, by decide, by decide +kernel⟩
theorem ac_X5_90 : ∀ w ∈ [Cond.methodLink RX5 90 arraycopyName, .native arraycopyName, .static arraycopyName, .initialized "java/lang/System"], w ∈ gw := gws _ [294, 296, 295, 61] (by decide +kernel) (by decide +kernel)
theorem mv_X5_99 : WV RX5 99 yX3_vanish cX3_vanish 1 none 0 := ⟨gws _ [301, 302, 303, 55, 304] (by decide +kernel) (by decide +kernel), by decide, by decide, by decide +kernel⟩
theorem mv_X5_108 : WV RX5 108 yX2_readsTown cX2_readsTown 1 (some .boolean) 0 := ⟨gws _ [314, 315, 316, 56, 317] (by decide +kernel) (by decide +kernel), by decide, by decide, by decide +kernel⟩
theorem mv_X5_124 : WV RX5 124 yX4_becomes cX4_becomes 2 none 1 := ⟨gws _ [445, 446, 447, 57, 448] (by decide +kernel) (by decide +kernel), by decide, by decide, by decide +kernel⟩
theorem mv_X5_128 : WV RX5 128 yX0_forgetAll cX0_forgetAll 1 none 0 := ⟨gws _ [450, 451, 452, 58, 453] (by decide +kernel) (by decide +kernel), by decide, by decide, by decide +kernel⟩
theorem mv_X5_134 : WV RX5 134 yX5_isNoPair cX5_isNoPair 3 (some .boolean) 2 := ⟨gws _ [462, 464, 15, 54, 465] (by decide +kernel) (by decide +kernel), by decide, by decide, by decide +kernel⟩
theorem mv_X5_141 : WV RX5 141 yX4_debtOf cX4_debtOf 3 (some .int) 2 := ⟨gws _ [471, 472, 473, 57, 474] (by decide +kernel) (by decide +kernel), by decide, by decide, by decide +kernel⟩
theorem mv_X5_145 : WV RX5 145 yX0_keep cX0_keep 2 none 1 := ⟨gws _ [476, 477, 478, 58, 479] (by decide +kernel) (by decide +kernel), by decide, by decide, by decide +kernel⟩
theorem mv_X5_148 : WV RX5 148 yX4_lends cX4_lends 4 none 3 := ⟨gws _ [484, 485, 486, 57, 487] (by decide +kernel) (by decide +kernel), by decide, by decide, by decide +kernel⟩
theorem mv_X5_152 : WV RX5 152 yX4_paysBack cX4_paysBack 4 none 3 := ⟨gws _ [493, 494, 495, 57, 496] (by decide +kernel) (by decide +kernel), by decide, by decide, by decide +kernel⟩
theorem mv_X5_155 : WV RX5 155 yX5_isNoPerson cX5_isNoPerson 2 (some .boolean) 1 := ⟨gws _ [466, 468, 16, 54, 469] (by decide +kernel) (by decide +kernel), by decide, by decide, by decide +kernel⟩
theorem mv_X5_158 : WV RX5 158 yX4_looksOf cX4_looksOf 2 (some .int) 1 := ⟨gws _ [501, 502, 503, 57, 504] (by decide +kernel) (by decide +kernel), by decide, by decide, by decide +kernel⟩
theorem ms_X5_167 : WS RX5 167 yX5_bitOf cX5_bitOf 2 (some .int) 2 := ⟨gws _ [519, 520, 54, 521] (by decide +kernel) (by decide +kernel), by decide, by decide, by decide +kernel⟩
theorem mv_X5_170 : WV RX5 170 yX5_isNoTown cX5_isNoTown 1 (some .boolean) 0 := ⟨gws _ [526, 528, 17, 54, 529] (by decide +kernel) (by decide +kernel), by decide, by decide, by decide +kernel⟩
theorem mv_X5_177 : WV RX5 177 yX4_passQuarter cX4_passQuarter 3 none 1 := ⟨gws _ [531, 532, 533, 57, 534] (by decide +kernel) (by decide +kernel), by decide, by decide, by decide +kernel⟩
theorem mv_X5_184 : WV RX5 184 yX0_takeBack cX0_takeBack 2 none 1 := ⟨gws _ [566, 567, 568, 58, 569] (by decide +kernel) (by decide +kernel), by decide, by decide, by decide +kernel⟩
theorem mv_X5_190 : WV RX5 190 yX4_owedBy cX4_owedBy 4 (some .int) 1 := ⟨gws _ [574, 510, 511, 57, 512] (by decide +kernel) (by decide +kernel), by decide, by decide, by decide +kernel⟩
theorem mv_X5_193 : WV RX5 193 yX4_shadeOf cX4_shadeOf 2 (some .int) 1 := ⟨gws _ [575, 506, 507, 57, 508] (by decide +kernel) (by decide +kernel), by decide, by decide, by decide +kernel⟩
theorem mv_X5_199 : WV RX5 199 yX4_owedTo cX4_owedTo 4 (some .int) 1 := ⟨gws _ [576, 577, 578, 57, 579] (by decide +kernel) (by decide +kernel), by decide, by decide, by decide +kernel⟩
theorem ms_X5_202 : WS RX5 202 yX5_areShadesAndNets cX5_areShadesAndNets 5 (some .boolean) 2 := ⟨gws _ [584, 585, 54, 586] (by decide +kernel) (by decide +kernel), by decide, by decide, by decide +kernel⟩
theorem ms_X5_206 : WS RX5 206 yX5_waysToFit cX5_waysToFit 11 (some .int) 3 := ⟨gws _ [587, 588, 54, 589] (by decide +kernel) (by decide +kernel), by decide, by decide, by decide +kernel⟩
theorem mv_X5_210 : WV RX5 210 yX4_strikeOutMutual cX4_strikeOutMutual 5 (some .int) 0 := ⟨gws _ [597, 598, 599, 57, 600] (by decide +kernel) (by decide +kernel), by decide, by decide, by decide +kernel⟩
theorem mv_X5_214 : WV RX5 214 yX5_peopleForetoldPaler cX5_peopleForetoldPaler 3 (some .int) 0 := ⟨gws _ [601, 603, 22, 54, 604] (by decide +kernel) (by decide +kernel), by decide, by decide, by decide +kernel⟩
theorem mv_X5_217 : WV RX5 217 yX5_gatherNeeds cX5_gatherNeeds 6 (some .int) 0 := ⟨gws _ [609, 611, 23, 54, 612] (by decide +kernel) (by decide +kernel), by decide, by decide, by decide +kernel⟩
theorem mv_X5_221 : WV RX5 221 yX4_seenFrom cX4_seenFrom 4 (some .int) 1 := ⟨gws _ [622, 623, 624, 57, 625] (by decide +kernel) (by decide +kernel), by decide, by decide, by decide +kernel⟩
theorem mv_X5_224 : WV RX5 224 yX4_settleAll cX4_settleAll 4 (some .int) 1 := ⟨gws _ [628, 629, 630, 57, 631] (by decide +kernel) (by decide +kernel), by decide, by decide, by decide +kernel⟩
theorem mv_X5_227 : WV RX5 227 yX4_lendersOf cX4_lendersOf 5 (some .int) 1 := ⟨gws _ [632, 633, 634, 57, 635] (by decide +kernel) (by decide +kernel), by decide, by decide, by decide +kernel⟩
theorem mv_X5_230 : WV RX5 230 yX4_kindOf cX4_kindOf 2 (some .int) 1 := ⟨gws _ [656, 657, 658, 57, 659] (by decide +kernel) (by decide +kernel), by decide, by decide, by decide +kernel⟩
theorem mv_X5_236 : WV RX5 236 yX1_answerOf cX1_answerOf 5 (some .int) 3 := ⟨gws _ [671, 672, 673, 59, 674] (by decide +kernel) (by decide +kernel), by decide, by decide, by decide +kernel⟩
theorem mv_X5_246 : WV RX5 246 yX5_rowsThere cX5_rowsThere 3 (some .int) 0 := ⟨gws _ [697, 699, 26, 54, 700] (by decide +kernel) (by decide +kernel), by decide, by decide, by decide +kernel⟩
theorem mv_X5_249 : WV RX5 249 yX4_debtsAboveNone cX4_debtsAboveNone 4 (some .int) 0 := ⟨gws _ [701, 702, 703, 57, 704] (by decide +kernel) (by decide +kernel), by decide, by decide, by decide +kernel⟩
theorem mv_X5_252 : WV RX5 252 yX4_cashOfAll cX4_cashOfAll 3 (some .int) 0 := ⟨gws _ [705, 706, 707, 57, 708] (by decide +kernel) (by decide +kernel), by decide, by decide, by decide +kernel⟩
theorem ms_X5_259 : WS RX5 259 yX5_isWithin cX5_isWithin 2 (some .boolean) 2 := ⟨gws _ [590, 591, 54, 592] (by decide +kernel) (by decide +kernel), by decide, by decide, by decide +kernel⟩
theorem oi_X0_3 : ∀ w ∈ [Cond.methodLink RX0 3 objectInit, .instanceMethod objectInit, .code objectInit ⟨#[0xb1]⟩ 1 none], w ∈ gw := gws _ [192, 73, 74] (by decide +kernel) (by decide +kernel)
theorem mi_X0_17 : WI RX0 17 yX4_init cX4_init 1 0 := ⟨gws _ [195, 105, 57, 106] (by decide +kernel) (by decide +kernel), rfl, by decide, by decide, by decide +kernel⟩
theorem mv_X0_25 : WV RX0 25 yX4_becomes cX4_becomes 2 none 1 := ⟨gws _ [480, 446, 447, 57, 448] (by decide +kernel) (by decide +kernel), by decide, by decide, by decide +kernel⟩
theorem mm_X0_29 : ∀ w ∈ [Cond.methodLink RX0 29 Lib.Math.min.name, .static Lib.Math.min.name, .initialized "java/lang/Math", .code Lib.Math.min.name Lib.Math.min.code 2 (some .int)], w ∈ gw := gws _ [481, 482, 66, 483] (by decide +kernel) (by decide +kernel)
theorem oi_X1_3 : ∀ w ∈ [Cond.methodLink RX1 3 objectInit, .instanceMethod objectInit, .code objectInit ⟨#[0xb1]⟩ 1 none], w ∈ gw := gws _ [212, 73, 74] (by decide +kernel) (by decide +kernel)
theorem mv_X1_19 : WV RX1 19 yX4_kindOf cX4_kindOf 2 (some .int) 1 := ⟨gws _ [675, 657, 658, 57, 659] (by decide +kernel) (by decide +kernel), by decide, by decide, by decide +kernel⟩
theorem mv_X1_31 : WV RX1 31 yX1_body cX1_body 6 (some .int) 4 := ⟨gws _ [680, 682, 24, 59, 683] (by decide +kernel) (by decide +kernel), by decide, by decide, by decide +kernel⟩
theorem mv_X1_35 : WV RX1 35 yX1_begins cX1_begins 2 none 1 := ⟨gws _ [684, 686, 25, 59, 687] (by decide +kernel) (by decide +kernel), by decide, by decide, by decide +kernel⟩
theorem mv_X1_42 : WV RX1 42 yX4_owedBy cX4_owedBy 4 (some .int) 1 := ⟨gws _ [688, 510, 511, 57, 512] (by decide +kernel) (by decide +kernel), by decide, by decide, by decide +kernel⟩
theorem oi_X2_3 : ∀ w ∈ [Cond.methodLink RX2 3 objectInit, .instanceMethod objectInit, .code objectInit ⟨#[0xb1]⟩ 1 none], w ∈ gw := gws _ [101, 73, 74] (by decide +kernel) (by decide +kernel)
theorem mi_X2_17 : WI RX2 17 yX4_init cX4_init 1 0 := ⟨gws _ [104, 105, 57, 106] (by decide +kernel) (by decide +kernel), rfl, by decide, by decide, by decide +kernel⟩
theorem mv_X2_26 : WV RX2 26 yX4_becomesEmpty cX4_becomesEmpty 2 none 0 := ⟨gws _ [318, 319, 320, 57, 321] (by decide +kernel) (by decide +kernel), by decide, by decide, by decide +kernel⟩
theorem mv_X2_29 : WV RX2 29 yX2_toNextToken cX2_toNextToken 1 none 0 := ⟨gws _ [322, 324, 2, 56, 325] (by decide +kernel) (by decide +kernel), by decide, by decide, by decide +kernel⟩
theorem mv_X2_32 : WV RX2 32 yX2_readsLaw cX2_readsLaw 1 (some .boolean) 0 := ⟨gws _ [343, 345, 5, 56, 346] (by decide +kernel) (by decide +kernel), by decide, by decide, by decide +kernel⟩
theorem mv_X2_36 : WV RX2 36 yX2_readsPeople cX2_readsPeople 2 (some .boolean) 0 := ⟨gws _ [416, 418, 11, 56, 419] (by decide +kernel) (by decide +kernel), by decide, by decide, by decide +kernel⟩
theorem mv_X2_39 : WV RX2 39 yX2_readsDebts cX2_readsDebts 2 (some .boolean) 0 := ⟨gws _ [431, 433, 13, 56, 434] (by decide +kernel) (by decide +kernel), by decide, by decide, by decide +kernel⟩
theorem mv_X2_45 : WV RX2 45 yX2_hasFault cX2_hasFault 2 (some .boolean) 1 := ⟨gws _ [404, 406, 8, 56, 407] (by decide +kernel) (by decide +kernel), by decide, by decide, by decide +kernel⟩
theorem mv_X2_51 : WV RX2 51 yX2_takesWord cX2_takesWord 2 (some .boolean) 1 := ⟨gws _ [348, 350, 6, 56, 351] (by decide +kernel) (by decide +kernel), by decide, by decide, by decide +kernel⟩
theorem mv_X2_55 : WV RX2 55 yX2_takesNumber cX2_takesNumber 4 (some .boolean) 3 := ⟨gws _ [408, 410, 9, 56, 411] (by decide +kernel) (by decide +kernel), by decide, by decide, by decide +kernel⟩
theorem mv_X2_68 : WV RX2 68 yX2_takesSign cX2_takesSign 1 (some .boolean) 0 := ⟨gws _ [412, 414, 10, 56, 415] (by decide +kernel) (by decide +kernel), by decide, by decide, by decide +kernel⟩
theorem mv_X2_73 : WV RX2 73 yX2_isAtWord cX2_isAtWord 3 (some .boolean) 1 := ⟨gws _ [352, 354, 7, 56, 355] (by decide +kernel) (by decide +kernel), by decide, by decide, by decide +kernel⟩
theorem mv_X2_76 : WV RX2 76 yX2_readsPerson cX2_readsPerson 4 (some .boolean) 0 := ⟨gws _ [421, 423, 12, 56, 424] (by decide +kernel) (by decide +kernel), by decide, by decide, by decide +kernel⟩
theorem mv_X2_83 : WV RX2 83 yX4_settlesIn cX4_settlesIn 4 none 3 := ⟨gws _ [427, 428, 429, 57, 430] (by decide +kernel) (by decide +kernel), by decide, by decide, by decide +kernel⟩
theorem mv_X2_89 : WV RX2 89 yX2_readsDebt cX2_readsDebt 3 (some .boolean) 0 := ⟨gws _ [436, 438, 14, 56, 439] (by decide +kernel) (by decide +kernel), by decide, by decide, by decide +kernel⟩
theorem mv_X2_95 : WV RX2 95 yX4_owesMore cX4_owesMore 4 none 3 := ⟨gws _ [440, 441, 442, 57, 443] (by decide +kernel) (by decide +kernel), by decide, by decide, by decide +kernel⟩
theorem mv_X2_105 : WV RX2 105 yJ0_length_8abf5 cJ0_length_8abf5 1 (some .int) 0 := ⟨gws _ [356, 357, 358, 62, 359] (by decide +kernel) (by decide +kernel), by decide, by decide, by decide +kernel⟩
theorem mv_X2_111 : WV RX2 111 yJ0_charAt_5068e cJ0_charAt_5068e 2 (some .char) 1 := ⟨gws _ [366, 367, 368, 62, 369] (by decide +kernel) (by decide +kernel), by decide, by decide, by decide +kernel⟩
theorem ms_X2_120 : WS RX2 120 yX2_isBlank cX2_isBlank 1 (some .boolean) 1 := ⟨gws _ [326, 327, 56, 328] (by decide +kernel) (by decide +kernel), by decide, by decide, by decide +kernel⟩
theorem ms_X2_123 : WS RX2 123 yX2_isLetter cX2_isLetter 1 (some .boolean) 1 := ⟨gws _ [329, 330, 56, 331] (by decide +kernel) (by decide +kernel), by decide, by decide, by decide +kernel⟩
theorem mv_X2_126 : WV RX2 126 yX2_endName cX2_endName 1 none 0 := ⟨gws _ [332, 334, 3, 56, 335] (by decide +kernel) (by decide +kernel), by decide, by decide, by decide +kernel⟩
theorem ms_X2_129 : WS RX2 129 yX2_isFigure cX2_isFigure 1 (some .boolean) 1 := ⟨gws _ [336, 337, 56, 338] (by decide +kernel) (by decide +kernel), by decide, by decide, by decide +kernel⟩
theorem mv_X2_132 : WV RX2 132 yX2_endNumber cX2_endNumber 1 none 0 := ⟨gws _ [339, 341, 4, 56, 342] (by decide +kernel) (by decide +kernel), by decide, by decide, by decide +kernel⟩
theorem oi_X3_3 : ∀ w ∈ [Cond.methodLink RX3 3 objectInit, .instanceMethod objectInit, .code objectInit ⟨#[0xb1]⟩ 1 none], w ∈ gw := gws _ [81, 73, 74] (by decide +kernel) (by decide +kernel)
theorem oi_X4_3 : ∀ w ∈ [Cond.methodLink RX4 3 objectInit, .instanceMethod objectInit, .code objectInit ⟨#[0xb1]⟩ 1 none], w ∈ gw := gws _ [107, 73, 74] (by decide +kernel) (by decide +kernel)
theorem ac_X4_28 : ∀ w ∈ [Cond.methodLink RX4 28 arraycopyName, .native arraycopyName, .static arraycopyName, .initialized "java/lang/System"], w ∈ gw := gws _ [449, 296, 295, 61] (by decide +kernel) (by decide +kernel)
theorem mv_X4_49 : WV RX4 49 yX4_debtOf cX4_debtOf 3 (some .int) 2 := ⟨gws _ [513, 472, 473, 57, 474] (by decide +kernel) (by decide +kernel), by decide, by decide, by decide +kernel⟩
theorem mv_X4_53 : WV RX4 53 yX4_owedBy cX4_owedBy 4 (some .int) 1 := ⟨gws _ [509, 510, 511, 57, 512] (by decide +kernel) (by decide +kernel), by decide, by decide, by decide +kernel⟩
theorem mm_X4_57 : ∀ w ∈ [Cond.methodLink RX4 57 Lib.Math.min.name, .static Lib.Math.min.name, .initialized "java/lang/Math", .code Lib.Math.min.name Lib.Math.min.code 2 (some .int)], w ∈ gw := gws _ [514, 482, 66, 483] (by decide +kernel) (by decide +kernel)
theorem mv_X4_62 : WV RX4 62 yX4_shadeOf cX4_shadeOf 2 (some .int) 1 := ⟨gws _ [505, 506, 507, 57, 508] (by decide +kernel) (by decide +kernel), by decide, by decide, by decide +kernel⟩
theorem mv_X4_68 : WV RX4 68 yX4_owedTo cX4_owedTo 4 (some .int) 1 := ⟨gws _ [660, 577, 578, 57, 579] (by decide +kernel) (by decide +kernel), by decide, by decide, by decide +kernel⟩
theorem mv_X4_71 : WV RX4 71 yX4_owesMore cX4_owesMore 4 none 3 := ⟨gws _ [488, 441, 442, 57, 443] (by decide +kernel) (by decide +kernel), by decide, by decide, by decide +kernel⟩
theorem mv_X4_75 : WV RX4 75 yX4_paysBack cX4_paysBack 4 none 3 := ⟨gws _ [552, 494, 495, 57, 496] (by decide +kernel) (by decide +kernel), by decide, by decide, by decide +kernel⟩
theorem mv_X4_78 : WV RX4 78 yX4_settle cX4_settle 5 (some .int) 1 := ⟨gws _ [548, 549, 550, 57, 551] (by decide +kernel) (by decide +kernel), by decide, by decide, by decide +kernel⟩
theorem mv_X4_81 : WV RX4 81 yX4_looksOf cX4_looksOf 2 (some .int) 1 := ⟨gws _ [627, 502, 503, 57, 504] (by decide +kernel) (by decide +kernel), by decide, by decide, by decide +kernel⟩
theorem mv_X4_84 : WV RX4 84 yX4_incomesCome cX4_incomesCome 5 none 1 := ⟨gws _ [535, 537, 18, 57, 538] (by decide +kernel) (by decide +kernel), by decide, by decide, by decide +kernel⟩
theorem mv_X4_88 : WV RX4 88 yX4_allSettle cX4_allSettle 4 none 0 := ⟨gws _ [544, 546, 19, 57, 547] (by decide +kernel) (by decide +kernel), by decide, by decide, by decide +kernel⟩
theorem mv_X4_91 : WV RX4 91 yX4_smallDebtsAreForgiven cX4_smallDebtsAreForgiven 2 none 0 := ⟨gws _ [553, 555, 20, 57, 556] (by decide +kernel) (by decide +kernel), by decide, by decide, by decide +kernel⟩
theorem mv_X4_94 : WV RX4 94 yX4_debtsGrow cX4_debtsGrow 2 none 0 := ⟨gws _ [557, 559, 21, 57, 560] (by decide +kernel) (by decide +kernel), by decide, by decide, by decide +kernel⟩
theorem ms_X4_101 : WS RX4 101 yX4_drawn cX4_drawn 3 (some .int) 2 := ⟨gws _ [541, 542, 57, 543] (by decide +kernel) (by decide +kernel), by decide, by decide, by decide +kernel⟩
theorem mi_L_9 : WI RL 9 yX5_init cX5_init 2 0 := ⟨gws _ [69, 70, 54, 71] (by decide +kernel) (by decide +kernel), rfl, by decide, by decide, by decide +kernel⟩
theorem mi_L_12 : WI RL 12 yX6_init cX6_init 2 0 := ⟨gws _ [715, 716, 60, 717] (by decide +kernel) (by decide +kernel), rfl, by decide, by decide, by decide +kernel⟩
theorem mv_L_13 : WV RL 13 yX5_row cX5_row 4 (some .int) 3 := ⟨gws _ [253, 254, 255, 54, 256] (by decide +kernel) (by decide +kernel), by decide, by decide, by decide +kernel⟩
theorem mv_L_17 : WV RL 17 yX6_row cX6_row 5 (some .int) 3 := ⟨gws _ [793, 794, 795, 60, 796] (by decide +kernel) (by decide +kernel), by decide, by decide, by decide +kernel⟩
theorem mv_L_18 : WV RL 18 yX5_set cX5_set 5 (some .int) 3 := ⟨gws _ [274, 275, 276, 54, 277] (by decide +kernel) (by decide +kernel), by decide, by decide, by decide +kernel⟩
theorem mv_L_21 : WV RL 21 yX6_set cX6_set 4 (some .int) 3 := ⟨gws _ [815, 816, 817, 60, 818] (by decide +kernel) (by decide +kernel), by decide, by decide, by decide +kernel⟩
theorem mv_L_22 : WV RL 22 yX5_copy cX5_copy 8 (some .int) 5 := ⟨gws _ [290, 291, 292, 54, 293] (by decide +kernel) (by decide +kernel), by decide, by decide, by decide +kernel⟩
theorem mv_L_26 : WV RL 26 yX6_copy cX6_copy 9 (some .int) 5 := ⟨gws _ [819, 820, 821, 60, 822] (by decide +kernel) (by decide +kernel), by decide, by decide, by decide +kernel⟩
theorem mv_L_27 : WV RL 27 yX5_drop cX5_drop 4 (some .int) 1 := ⟨gws _ [297, 298, 299, 54, 300] (by decide +kernel) (by decide +kernel), by decide, by decide, by decide +kernel⟩
theorem mv_L_31 : WV RL 31 yX6_drop cX6_drop 3 (some .int) 1 := ⟨gws _ [823, 824, 825, 60, 826] (by decide +kernel) (by decide +kernel), by decide, by decide, by decide +kernel⟩
theorem mv_L_34 : WV RL 34 yX5_feed cX5_feed 5 (some .int) 2 := ⟨gws _ [305, 306, 307, 54, 308] (by decide +kernel) (by decide +kernel), by decide, by decide, by decide +kernel⟩
theorem mv_L_38 : WV RL 38 yX6_feed cX6_feed 5 (some .int) 2 := ⟨gws _ [827, 828, 829, 60, 830] (by decide +kernel) (by decide +kernel), by decide, by decide, by decide +kernel⟩
theorem mv_L_39 : WV RL 39 yX5_town cX5_town 2 (some .int) 0 := ⟨gws _ [310, 311, 312, 54, 313] (by decide +kernel) (by decide +kernel), by decide, by decide, by decide +kernel⟩
theorem mv_L_43 : WV RL 43 yX6_town cX6_town 3 (some .int) 0 := ⟨gws _ [834, 835, 836, 60, 837] (by decide +kernel) (by decide +kernel), by decide, by decide, by decide +kernel⟩
theorem mv_L_44 : WV RL 44 yX5_fault cX5_fault 1 (some .int) 0 := ⟨gws _ [454, 455, 456, 54, 457] (by decide +kernel) (by decide +kernel), by decide, by decide, by decide +kernel⟩
theorem mv_L_47 : WV RL 47 yX6_fault cX6_fault 1 (some .int) 0 := ⟨gws _ [882, 883, 884, 60, 885] (by decide +kernel) (by decide +kernel), by decide, by decide, by decide +kernel⟩
theorem mv_L_48 : WV RL 48 yX5_loan cX5_loan 5 (some .int) 3 := ⟨gws _ [458, 459, 460, 54, 461] (by decide +kernel) (by decide +kernel), by decide, by decide, by decide +kernel⟩
theorem mv_L_51 : WV RL 51 yX6_loan cX6_loan 4 (some .int) 3 := ⟨gws _ [886, 887, 888, 60, 889] (by decide +kernel) (by decide +kernel), by decide, by decide, by decide +kernel⟩
theorem mv_L_52 : WV RL 52 yX5_pay cX5_pay 4 (some .int) 3 := ⟨gws _ [489, 490, 491, 54, 492] (by decide +kernel) (by decide +kernel), by decide, by decide, by decide +kernel⟩
theorem mv_L_55 : WV RL 55 yX6_pay cX6_pay 4 (some .int) 3 := ⟨gws _ [905, 906, 907, 60, 908] (by decide +kernel) (by decide +kernel), by decide, by decide, by decide +kernel⟩
theorem mv_L_56 : WV RL 56 yX5_paint cX5_paint 4 (some .int) 2 := ⟨gws _ [497, 498, 499, 54, 500] (by decide +kernel) (by decide +kernel), by decide, by decide, by decide +kernel⟩
theorem mv_L_60 : WV RL 60 yX6_paint cX6_paint 4 (some .int) 2 := ⟨gws _ [910, 911, 912, 60, 913] (by decide +kernel) (by decide +kernel), by decide, by decide, by decide +kernel⟩
theorem mv_L_61 : WV RL 61 yX5_hedge cX5_hedge 4 (some .int) 2 := ⟨gws _ [515, 516, 517, 54, 518] (by decide +kernel) (by decide +kernel), by decide, by decide, by decide +kernel⟩
theorem mv_L_64 : WV RL 64 yX6_hedge cX6_hedge 4 (some .int) 2 := ⟨gws _ [925, 926, 927, 60, 928] (by decide +kernel) (by decide +kernel), by decide, by decide, by decide +kernel⟩
theorem mv_L_65 : WV RL 65 yX5_quarter cX5_quarter 2 (some .int) 1 := ⟨gws _ [522, 523, 524, 54, 525] (by decide +kernel) (by decide +kernel), by decide, by decide, by decide +kernel⟩
theorem mv_L_68 : WV RL 68 yX6_quarter cX6_quarter 9 (some .int) 1 := ⟨gws _ [929, 930, 931, 60, 932] (by decide +kernel) (by decide +kernel), by decide, by decide, by decide +kernel⟩
theorem mv_L_69 : WV RL 69 yX5_undo cX5_undo 1 (some .int) 0 := ⟨gws _ [562, 563, 564, 54, 565] (by decide +kernel) (by decide +kernel), by decide, by decide, by decide +kernel⟩
theorem mv_L_72 : WV RL 72 yX6_undo cX6_undo 2 (some .int) 0 := ⟨gws _ [939, 940, 941, 60, 942] (by decide +kernel) (by decide +kernel), by decide, by decide, by decide +kernel⟩
theorem mv_L_73 : WV RL 73 yX5_person cX5_person 3 (some .int) 2 := ⟨gws _ [570, 571, 572, 54, 573] (by decide +kernel) (by decide +kernel), by decide, by decide, by decide +kernel⟩
theorem mv_L_76 : WV RL 76 yX6_person_ cX6_person_ 4 (some .int) 2 := ⟨gws _ [943, 944, 945, 60, 946] (by decide +kernel) (by decide +kernel), by decide, by decide, by decide +kernel⟩
theorem mv_L_77 : WV RL 77 yX5_fits cX5_fits 5 (some .int) 3 := ⟨gws _ [580, 581, 582, 54, 583] (by decide +kernel) (by decide +kernel), by decide, by decide, by decide +kernel⟩
theorem mv_L_80 : WV RL 80 yX6_fits cX6_fits 13 (some .int) 3 := ⟨gws _ [952, 953, 954, 60, 955] (by decide +kernel) (by decide +kernel), by decide, by decide, by decide +kernel⟩
theorem mv_L_81 : WV RL 81 yX5_hiding cX5_hiding 3 (some .int) 1 := ⟨gws _ [593, 594, 595, 54, 596] (by decide +kernel) (by decide +kernel), by decide, by decide, by decide +kernel⟩
theorem mv_L_84 : WV RL 84 yX6_hiding cX6_hiding 8 (some .int) 1 := ⟨gws _ [959, 960, 961, 60, 962] (by decide +kernel) (by decide +kernel), by decide, by decide, by decide +kernel⟩
theorem mv_L_85 : WV RL 85 yX5_clear cX5_clear 5 (some .int) 1 := ⟨gws _ [605, 606, 607, 54, 608] (by decide +kernel) (by decide +kernel), by decide, by decide, by decide +kernel⟩
theorem mv_L_88 : WV RL 88 yX6_clear cX6_clear 4 (some .int) 1 := ⟨gws _ [967, 968, 969, 60, 970] (by decide +kernel) (by decide +kernel), by decide, by decide, by decide +kernel⟩
theorem mv_L_89 : WV RL 89 yX5_coin cX5_coin 4 (some .int) 1 := ⟨gws _ [613, 614, 615, 54, 616] (by decide +kernel) (by decide +kernel), by decide, by decide, by decide +kernel⟩
theorem mv_L_92 : WV RL 92 yX6_coin cX6_coin 4 (some .int) 1 := ⟨gws _ [975, 976, 977, 60, 978] (by decide +kernel) (by decide +kernel), by decide, by decide, by decide +kernel⟩
theorem mv_L_93 : WV RL 93 yX5_run cX5_run 7 (some .int) 2 := ⟨gws _ [618, 619, 620, 54, 621] (by decide +kernel) (by decide +kernel), by decide, by decide, by decide +kernel⟩
theorem mv_L_96 : WV RL 96 yX6_run cX6_run 10 (some .int) 2 := ⟨gws _ [980, 981, 982, 60, 983] (by decide +kernel) (by decide +kernel), by decide, by decide, by decide +kernel⟩
theorem mv_L_97 : WV RL 97 yX5_cheats cX5_cheats 3 (some .int) 0 := ⟨gws _ [636, 637, 638, 54, 639] (by decide +kernel) (by decide +kernel), by decide, by decide, by decide +kernel⟩
theorem mv_L_100 : WV RL 100 yX6_cheats cX6_cheats 3 (some .int) 0 := ⟨gws _ [984, 985, 986, 60, 987] (by decide +kernel) (by decide +kernel), by decide, by decide, by decide +kernel⟩
theorem mv_L_101 : WV RL 101 yX5_walk cX5_walk 6 (some .int) 2 := ⟨gws _ [640, 641, 642, 54, 643] (by decide +kernel) (by decide +kernel), by decide, by decide, by decide +kernel⟩
theorem mv_L_104 : WV RL 104 yX6_walk cX6_walk 6 (some .int) 2 := ⟨gws _ [988, 989, 990, 60, 991] (by decide +kernel) (by decide +kernel), by decide, by decide, by decide +kernel⟩
theorem mv_L_105 : WV RL 105 yX5_image cX5_image 2 (some .int) 1 := ⟨gws _ [644, 645, 646, 54, 647] (by decide +kernel) (by decide +kernel), by decide, by decide, by decide +kernel⟩
theorem mv_L_108 : WV RL 108 yX6_image cX6_image 3 (some .int) 1 := ⟨gws _ [992, 993, 994, 60, 995] (by decide +kernel) (by decide +kernel), by decide, by decide, by decide +kernel⟩
theorem mv_L_109 : WV RL 109 yX5_restore cX5_restore 2 (some .int) 1 := ⟨gws _ [648, 649, 650, 54, 651] (by decide +kernel) (by decide +kernel), by decide, by decide, by decide +kernel⟩
theorem mv_L_112 : WV RL 112 yX6_restore cX6_restore 3 (some .int) 1 := ⟨gws _ [996, 997, 998, 60, 999] (by decide +kernel) (by decide +kernel), by decide, by decide, by decide +kernel⟩
theorem mv_L_113 : WV RL 113 yX5_kind cX5_kind 2 (some .int) 1 := ⟨gws _ [652, 653, 654, 54, 655] (by decide +kernel) (by decide +kernel), by decide, by decide, by decide +kernel⟩
theorem mv_L_116 : WV RL 116 yX6_kind cX6_kind 2 (some .int) 1 := ⟨gws _ [1000, 1001, 1002, 60, 1003] (by decide +kernel) (by decide +kernel), by decide, by decide, by decide +kernel⟩
theorem mv_L_117 : WV RL 117 yX5_as cX5_as 3 (some .int) 2 := ⟨gws _ [661, 662, 663, 54, 664] (by decide +kernel) (by decide +kernel), by decide, by decide, by decide +kernel⟩
theorem mv_L_120 : WV RL 120 yX6_as cX6_as 5 (some .int) 2 := ⟨gws _ [1008, 1009, 1010, 60, 1011] (by decide +kernel) (by decide +kernel), by decide, by decide, by decide +kernel⟩
theorem mv_L_121 : WV RL 121 yX5_ask cX5_ask 3 (some .int) 2 := ⟨gws _ [667, 668, 669, 54, 670] (by decide +kernel) (by decide +kernel), by decide, by decide, by decide +kernel⟩
theorem mv_L_124 : WV RL 124 yX6_ask cX6_ask 4 (some .int) 2 := ⟨gws _ [1013, 1014, 1015, 60, 1016] (by decide +kernel) (by decide +kernel), by decide, by decide, by decide +kernel⟩
theorem mv_L_125 : WV RL 125 yX5_trace cX5_trace 2 (some .int) 1 := ⟨gws _ [689, 690, 691, 54, 692] (by decide +kernel) (by decide +kernel), by decide, by decide, by decide +kernel⟩
theorem mv_L_128 : WV RL 128 yX6_trace cX6_trace 2 (some .int) 1 := ⟨gws _ [1045, 1046, 1047, 60, 1048] (by decide +kernel) (by decide +kernel), by decide, by decide, by decide +kernel⟩
theorem mv_L_129 : WV RL 129 yX5_count cX5_count 2 (some .int) 1 := ⟨gws _ [693, 694, 695, 54, 696] (by decide +kernel) (by decide +kernel), by decide, by decide, by decide +kernel⟩
theorem mv_L_132 : WV RL 132 yX6_count cX6_count 6 (some .int) 1 := ⟨gws _ [1049, 1050, 1051, 60, 1052] (by decide +kernel) (by decide +kernel), by decide, by decide, by decide +kernel⟩
theorem mv_L_133 : WV RL 133 yX5_status cX5_status 1 (some .int) 0 := ⟨gws _ [709, 710, 711, 54, 712] (by decide +kernel) (by decide +kernel), by decide, by decide, by decide +kernel⟩
theorem mv_L_136 : WV RL 136 yX6_status cX6_status 1 (some .int) 0 := ⟨gws _ [1053, 1054, 1055, 60, 1056] (by decide +kernel) (by decide +kernel), by decide, by decide, by decide +kernel⟩
theorem oi_X6_1 : ∀ w ∈ [Cond.methodLink RX6 1 objectInit, .instanceMethod objectInit, .code objectInit ⟨#[0xb1]⟩ 1 none], w ∈ gw := gws _ [718, 73, 74] (by decide +kernel) (by decide +kernel)
theorem ms_X6_54 : WS RX6 54 yX6_in cX6_in 6 (some .boolean) 3 := ⟨gws _ [801, 802, 60, 803] (by decide +kernel) (by decide +kernel), by decide, by decide, by decide +kernel⟩
theorem ms_X6_58 : WS RX6 58 yX6_isRow cX6_isRow 1 (some .boolean) 1 := ⟨gws _ [797, 798, 60, 799] (by decide +kernel) (by decide +kernel), by decide, by decide, by decide +kernel⟩
theorem mv_X6_65 : WV RX6 65 yX6_finds cX6_finds 2 (some .int) 1 := ⟨gws _ [806, 808, 27, 60, 809] (by decide +kernel) (by decide +kernel), by decide, by decide, by decide +kernel⟩
theorem mv_X6_69 : WV RX6 69 yX6_fine cX6_fine 2 (some .int) 1 := ⟨gws _ [811, 813, 28, 60, 814] (by decide +kernel) (by decide +kernel), by decide, by decide, by decide +kernel⟩
theorem mv_X6_83 : WV RX6 83 yX6_isAt cX6_isAt 3 (some .boolean) 2 := ⟨gws _ [846, 848, 31, 60, 849] (by decide +kernel) (by decide +kernel), by decide, by decide, by decide +kernel⟩
theorem mv_X6_113 : WV RX6 113 yX6_faults cX6_faults 2 (some .boolean) 1 := ⟨gws _ [861, 863, 33, 60, 864] (by decide +kernel) (by decide +kernel), by decide, by decide, by decide +kernel⟩
theorem mv_X6_119 : WV RX6 119 yX6_scans cX6_scans 3 none 0 := ⟨gws _ [842, 844, 30, 60, 845] (by decide +kernel) (by decide +kernel), by decide, by decide, by decide +kernel⟩
theorem mv_X6_122 : WV RX6 122 yX6_takes cX6_takes 3 (some .boolean) 2 := ⟨gws _ [865, 867, 34, 60, 868] (by decide +kernel) (by decide +kernel), by decide, by decide, by decide +kernel⟩
theorem mv_X6_125 : WV RX6 125 yX6_ends cX6_ends 1 (some .boolean) 0 := ⟨gws _ [869, 871, 35, 60, 872] (by decide +kernel) (by decide +kernel), by decide, by decide, by decide +kernel⟩
theorem mv_X6_129 : WV RX6 129 yX6_law cX6_law 1 (some .boolean) 0 := ⟨gws _ [857, 859, 32, 60, 860] (by decide +kernel) (by decide +kernel), by decide, by decide, by decide +kernel⟩
theorem mv_X6_132 : WV RX6 132 yX6_person cX6_person 2 (some .boolean) 0 := ⟨gws _ [873, 875, 36, 60, 876] (by decide +kernel) (by decide +kernel), by decide, by decide, by decide +kernel⟩
theorem mv_X6_135 : WV RX6 135 yX6_debt cX6_debt 4 (some .boolean) 1 := ⟨gws _ [877, 879, 37, 60, 880] (by decide +kernel) (by decide +kernel), by decide, by decide, by decide +kernel⟩
theorem mv_X6_138 : WV RX6 138 yX6_reads cX6_reads 2 (some .boolean) 0 := ⟨gws _ [838, 840, 29, 60, 841] (by decide +kernel) (by decide +kernel), by decide, by decide, by decide +kernel⟩
theorem mv_X6_148 : WV RX6 148 yX6_isOne cX6_isOne 2 (some .boolean) 1 := ⟨gws _ [894, 896, 39, 60, 897] (by decide +kernel) (by decide +kernel), by decide, by decide, by decide +kernel⟩
theorem ms_X6_151 : WS RX6 151 yX6_owedIn cX6_owedIn 4 (some .int) 2 := ⟨gws _ [922, 923, 60, 924] (by decide +kernel) (by decide +kernel), by decide, by decide, by decide +kernel⟩
theorem ms_X6_155 : WS RX6 155 yX6_shadeIn cX6_shadeIn 3 (some .int) 2 := ⟨gws _ [919, 920, 60, 921] (by decide +kernel) (by decide +kernel), by decide, by decide, by decide +kernel⟩
theorem mv_X6_158 : WV RX6 158 yX6_areTwo cX6_areTwo 3 (some .boolean) 2 := ⟨gws _ [890, 892, 38, 60, 893] (by decide +kernel) (by decide +kernel), by decide, by decide, by decide +kernel⟩
theorem mv_X6_165 : WV RX6 165 yX6_remembers cX6_remembers 2 none 0 := ⟨gws _ [901, 903, 40, 60, 904] (by decide +kernel) (by decide +kernel), by decide, by decide, by decide +kernel⟩
theorem mv_X6_172 : WV RX6 172 yX6_looks cX6_looks 2 (some .int) 1 := ⟨gws _ [915, 917, 41, 60, 918] (by decide +kernel) (by decide +kernel), by decide, by decide, by decide +kernel⟩
theorem ms_X6_181 : WS RX6 181 yX6_pays cX6_pays 6 (some .int) 2 := ⟨gws _ [936, 937, 60, 938] (by decide +kernel) (by decide +kernel), by decide, by decide, by decide +kernel⟩
theorem mv_X6_186 : WV RX6 186 yX6_netOf cX6_netOf 4 (some .int) 1 := ⟨gws _ [948, 950, 42, 60, 951] (by decide +kernel) (by decide +kernel), by decide, by decide, by decide +kernel⟩
theorem mv_X6_195 : WV RX6 195 yX6_tries cX6_tries 2 none 0 := ⟨gws _ [963, 965, 43, 60, 966] (by decide +kernel) (by decide +kernel), by decide, by decide, by decide +kernel⟩
theorem mv_X6_201 : WV RX6 201 yX6_needs cX6_needs 4 none 0 := ⟨gws _ [971, 973, 44, 60, 974] (by decide +kernel) (by decide +kernel), by decide, by decide, by decide +kernel⟩
theorem mv_X6_205 : WV RX6 205 yX6_kindOf cX6_kindOf 2 (some .int) 1 := ⟨gws _ [1004, 1006, 45, 60, 1007] (by decide +kernel) (by decide +kernel), by decide, by decide, by decide +kernel⟩
theorem mv_X6_213 : WV RX6 213 yX6_leaves cX6_leaves 2 none 1 := ⟨gws _ [1021, 1023, 47, 60, 1024] (by decide +kernel) (by decide +kernel), by decide, by decide, by decide +kernel⟩
theorem mv_X6_217 : WV RX6 217 yX6_markLent cX6_markLent 2 (some .int) 1 := ⟨gws _ [1037, 1039, 51, 60, 1040] (by decide +kernel) (by decide +kernel), by decide, by decide, by decide +kernel⟩
theorem mv_X6_220 : WV RX6 220 yX6_sizeLent cX6_sizeLent 2 (some .int) 1 := ⟨gws _ [1025, 1027, 48, 60, 1028] (by decide +kernel) (by decide +kernel), by decide, by decide, by decide +kernel⟩
theorem mv_X6_223 : WV RX6 223 yX6_sizeFree cX6_sizeFree 4 (some .int) 2 := ⟨gws _ [1017, 1019, 46, 60, 1020] (by decide +kernel) (by decide +kernel), by decide, by decide, by decide +kernel⟩
theorem mv_X6_227 : WV RX6 227 yX6_markOwing cX6_markOwing 4 (some .int) 2 := ⟨gws _ [1033, 1035, 50, 60, 1036] (by decide +kernel) (by decide +kernel), by decide, by decide, by decide +kernel⟩
theorem mv_X6_230 : WV RX6 230 yX6_sizeOwing cX6_sizeOwing 5 (some .int) 2 := ⟨gws _ [1029, 1031, 49, 60, 1032] (by decide +kernel) (by decide +kernel), by decide, by decide, by decide +kernel⟩
theorem mv_X6_233 : WV RX6 233 yX6_markFree cX6_markFree 4 (some .int) 2 := ⟨gws _ [1041, 1043, 52, 60, 1044] (by decide +kernel) (by decide +kernel), by decide, by decide, by decide +kernel⟩
theorem mv_J0_335 : WV RJ0 335 yJ0_coder_7d493 cJ0_coder_7d493 1 (some .byte) 0 := ⟨gws _ [360, 361, 362, 62, 363] (by decide +kernel) (by decide +kernel), by decide, by decide, by decide +kernel⟩
theorem mv_J0_492 : WV RJ0 492 yJ0_isLatin1_aae02 cJ0_isLatin1_aae02 1 (some .boolean) 0 := ⟨gws _ [370, 371, 372, 62, 373] (by decide +kernel) (by decide +kernel), by decide, by decide, by decide +kernel⟩
theorem ms_J0_495 : WS RJ0 495 yJ1_charAt_3b067 cJ1_charAt_3b067 2 (some .char) 2 := ⟨gws _ [374, 375, 63, 376] (by decide +kernel) (by decide +kernel), by decide, by decide, by decide +kernel⟩
theorem ms_J0_498 : WS RJ0 498 yJ2_charAt_3b067 cJ2_charAt_3b067 2 (some .char) 2 := ⟨gws _ [385, 386, 65, 387] (by decide +kernel) (by decide +kernel), by decide, by decide, by decide +kernel⟩
theorem ms_J0_1059 : WS RJ0 1059 yJ3_checkIndex_8e157 cJ3_checkIndex_8e157 3 (some .int) 3 := ⟨gws _ [382, 383, 64, 384] (by decide +kernel) (by decide +kernel), by decide, by decide, by decide +kernel⟩
theorem ms_J1_9 : WS RJ1 9 yJ0_checkIndex_df160 cJ0_checkIndex_df160 2 none 2 := ⟨gws _ [377, 378, 62, 379] (by decide +kernel) (by decide +kernel), by decide, by decide, by decide +kernel⟩
theorem ms_J2_48 : WS RJ2 48 yJ2_length_9d52b cJ2_length_9d52b 1 (some .int) 1 := ⟨gws _ [391, 392, 65, 393] (by decide +kernel) (by decide +kernel), by decide, by decide, by decide +kernel⟩
theorem ms_J2_67 : WS RJ2 67 yJ2_checkIndex_2214a cJ2_checkIndex_2214a 2 none 2 := ⟨gws _ [388, 389, 65, 390] (by decide +kernel) (by decide +kernel), by decide, by decide, by decide +kernel⟩
theorem ms_J2_71 : WS RJ2 71 yJ2_getChar_3b067 cJ2_getChar_3b067 2 (some .char) 2 := ⟨gws _ [395, 396, 65, 397] (by decide +kernel) (by decide +kernel), by decide, by decide, by decide +kernel⟩
theorem ms_J2_414 : WS RJ2 414 yJ0_checkIndex_df160 cJ0_checkIndex_df160 2 none 2 := ⟨gws _ [394, 378, 62, 379] (by decide +kernel) (by decide +kernel), by decide, by decide, by decide +kernel⟩
theorem mn_bitOf : WN yX5_bitOf cX5_bitOf 2 (some .int) 2 := ⟨gws _ [520, 54, 521] (by decide +kernel) (by decide +kernel), by decide, by decide, by decide +kernel⟩
end
section
/-! ROWS OF J: System.arraycopy of ints, new cells, statics -/
section JM
variable {G : GG} {oR : String} {oc : ByteArray} {on : Nat} {ort : Option FieldType} {T : TG} {z kc ks pc : Nat} {σ : AH} {L : List (Option Value)} {st : List Value}
theorem j_copy {ix a0 a1 n0 n1 sp dp n : Nat} {f g : Nat → Int32} (hd : decode oc pc = .ok (.invokestatic ix, 3)) (hw0 : ∀ w ∈ [Cond.methodLink oR ix arraycopyName, .native arraycopyName, .static arraycopyName, .initialized "java/lang/System"], w ∈ gw) (he0 : σ a0 = some (.inl (0, n0, f))) (he1 : σ a1 = some (.inl (0, n1, g))) (hs : sp + n ≤ n0) (hs2 : dp + n ≤ n1) (hn0 : n0 < 2 ^ 31) (hn1 : n1 < 2 ^ 31) (hf : 1 ≤ T.1.frames) (hl : (st.map fun v => v.category).sum + (nativeFrameWords "java/lang/System" "arraycopy" 5 + 11) ≤ T.1.locals) (σ2 : AH) (h2 : ups σ a1 (.inl (0, n1, va_cpy f g sp dp n)) = σ2)
    (kk : J G oR oc on ort T z σ2 kc ks (pc + 3) L st) : J G oR oc on ort T z σ kc ks pc L (.int (nI n) :: .int (nI dp) :: .ref a1 :: .int (nI sp) :: .ref a0 :: st) := by
  intro p l e s m args below meth c H locs ls C0 X hw hS hL
  subst h2
  have hh : ∀ w ∈ [Cond.methodLink oR ix arraycopyName, .native arraycopyName, .static arraycopyName, .initialized "java/lang/System"], w.before args s = true := fun w q => C0.2.2.2.2.2.1 w (hw0 w q)
  have w1 := hh (.methodLink oR ix arraycopyName) (by simp)
  have w2 := hh (.native arraycopyName) (by simp)
  have w3 := hh (.static arraycopyName) (by simp)
  have w4 := hh (.initialized "java/lang/System") (by simp)
  have ksp : (nI sp).toNatClampNeg = sp := nI_clamp (by omega)
  have kdp : (nI dp).toNatClampNeg = dp := nI_clamp (by omega)
  have kn : (nI n).toNatClampNeg = n := nI_clamp (by omega)
  have isp : (nI sp).toInt = (sp : Int) := nI_toInt (by omega)
  have idp : (nI dp).toInt = (dp : Int) := nI_toInt (by omega)
  have inn : (nI n).toInt = (n : Int) := nI_toInt (by omega)
  intro TT hT X1
  have hc0 : H[ad G a0]? = some (vp_cell (G.2.2.2.1 0) (n0, .inl f)) := (hw.at he0).1
  have hc1 : H[ad G a1]? = some (vp_cell (G.2.2.2.1 0) (n1, .inl g)) := (hw.at he1).1
  obtain ⟨-, k0, hk0, cm0, hkk0⟩ := ((C0.2.2.2.2.2.2.2.1).2 0 _ rfl).1 n0 (fun j => .int (f j))
  obtain ⟨-, k1, hk1, cm1, hkk1⟩ := ((C0.2.2.2.2.2.2.2.1).2 0 _ rfl).1 n1 (fun j => .int (g j))
  obtain ⟨vm', X', step⟩ := X1.arraycopy C0.1 C0.2.2.2.2.1 w1 w2 w3 w4 (src := ad G a0) (dst := ad G a1) (cs := vp_cell (G.2.2.2.1 0) (n0, .inl f)) (cd := vp_cell (G.2.2.2.1 0) (n1, .inl g)) (srcPos := nI sp) (destPos := nI dp) (n := nI n) (by rw [hT]; exact hc0) (by rw [hT]; exact hc1)
    (fun _ h => by cases h) (fun _ h => by cases h) (fun h => by cases h) (fun h => by cases h) hk0 hk1 hkk0 hkk1 (by simp [refKind]) (nI_pos (by omega)) (nI_pos (by omega)) (nI_pos (by omega))
    (by rw [isp, inn]; show ¬ _ > ((arrV (G.2.2.2.1 0) n0 (fun j => .int (f j))).slots.size : Int); rw [arrV_size]; omega)
    (by rw [idp, inn]; show ¬ _ > ((arrV (G.2.2.2.1 0) n1 (fun j => .int (g j))).slots.size : Int); rw [arrV_size]; omega)
    (fun vm₁ _ i hi => by
      rw [kn] at hi
      rw [ksp]
      have e : (vp_cell (G.2.2.2.1 0) (n0, .inl f)).slots.getD (sp + i) .null = .int (f (sp + i)) := by
        show (arrV (G.2.2.2.1 0) n0 (fun j => .int (f j))).slots.getD _ _ = _
        rw [Array.getD_eq_getD_getElem?, arrV_read _ _ (by omega)]
        rfl
      refine ⟨?_, ?_⟩
      · rw [e]; rfl
      · rw [e]; exact trivial)
    (g := F0 m pc ls ((Value.int (nI n) :: .int (nI dp) :: .ref a1 :: .int (nI sp) :: .ref a0 :: st).map (cV G))) rfl (by rw [C0.2.2.2.1]; exact hL.1) (rest := st.map (cV G)) rfl (by rw [C0.2.1]; exact hd) hf (by show 2 * 0 + _ + _ ≤ _; rw [cat_map]; omega)
  have e1 : copied (vp_cell (G.2.2.2.1 0) (n0, .inl f)) (vp_cell (G.2.2.2.1 0) (n1, .inl g)) (nI sp) (nI dp) (nI n) = vp_cell (G.2.2.2.1 0) (n1, .inl (va_cpy f g sp dp n)) := by
    unfold copied
    rw [ksp, kdp, kn]
    exact va_copied (fun z => .int z) (G.2.2.2.1 0) (G.2.2.2.1 0) f g hs
  rw [e1] at X' step
  have hl2 : ad G a1 < H.size := (Array.getElem?_eq_some_iff.mp hc1).1
  have hheap : ((TT.setVm vm').setCell (ad G a1) (vp_cell (G.2.2.2.1 0) (n1, .inl (va_cpy f g sp dp n)))).heap = H.setIfInBounds (ad G a1) (vp_cell (G.2.2.2.1 0) (n1, .inl (va_cpy f g sp dp n))) := by rw [← hT]; rfl
  have oq : ∀ q : Nat, q ≠ ad G a1 → (H.setIfInBounds (ad G a1) (vp_cell (G.2.2.2.1 0) (n1, .inl (va_cpy f g sp dp n))))[q]? = H[q]? := fun q hq => by simp [Array.getElem?_setIfInBounds, Ne.symm hq]
  obtain ⟨t, a1', b1⟩ := kk p l e s m args below meth c _ _ ls C0 X (hw.put he1 (by simp) (show (H.setIfInBounds (ad G a1) _)[ad G a1]? = some _ by simp [Array.getElem?_setIfInBounds, hl2]) oq) ⟨by simp; exact hS.1, fun q g1 g2 => by
      rw [oq q (fun e => g2 (by rw [e]; exact AG_ad hw he1))]
      exact hS.2.1 q g1 g2, fun q hq => by
      rcases List.mem_append.mp hq with h | h
      · exact hS.2.2 q h
      · obtain ⟨z, -, hz⟩ := List.mem_map.mp h
        rw [← hz]
        exact AG_ad hw he1⟩ hL _ hheap X'
  exact ⟨t, step t a1', b1⟩
theorem j_new {ix : Nat} (hd : decode oc pc = .ok (.new ix, 3)) (ci : Nat) {C : String} {TT : u_T} {N : Nat} (hc : classes[ci]? = some (C, TT, N)) (hcl : Cond.classLink oR ix C ∈ gw) (hnw : ∀ w ∈ [Cond.instantiable C N, .initialized C], w ∈ gw) (hin : ∀ w ∈ u_ws C TT N, w ∈ gw) (ty0 : Nat → FieldType) (hty : ∀ k, k < N → parseFieldDescriptor (TT k).2.2.1 = some (ty0 k)) (fs : List Value) (hfs : ∀ j, j < N → defaultValue (ty0 j) = vp_V (fs.map (cV G)) j) (hz : z < EXT) (hc1 : kc + 1 ≤ T.1.cells) (hs1 : ks + N ≤ T.1.slots)
    (kk : J G oR oc on ort T (z + 1) (ups σ z (.inr (.inr (ci, fs)))) (kc + 1) (ks + N) (pc + 3) L (.ref z :: st)) : J G oR oc on ort T z σ kc ks pc L st := by
  intro p l e s m args below meth c H locs ls C0 X hw hS hL
  obtain ⟨hx, hb, hr, hml, hown, hts, hlk, hK, hg, hB⟩ := id C0
  have hKn := hK.1 ci _ hc
  refine W.newcK hx hb hown (hts _ hcl) (hts (.instantiable C N) (hnw _ (by simp))) (hts (.initialized C) (hnw _ (by simp))) rfl hd hc1 hs1 hKn.2.1 rfl fun H1 kC hkC e1 z1 o1 => ?_
  have hz2 : ad G z = H.size := by rw [ad_lt hz, hw.1]
  have kk2 := kk p l e s m args below meth c H1 locs ls C0 X (hw.push hz z1 ⟨_, hc, (u_born ty0 hts hin hKn hkC e1 hty).to hfs⟩ o1) ⟨Nat.le_trans hS.1 (by omega), fun x h1 h2 => (o1 x (Nat.lt_of_lt_of_le h1 hS.1)).trans (hS.2.1 x h1 h2), hS.2.2⟩ hL
  rw [List.map_cons] at kk2
  rw [show cV G (.ref z) = .ref H.size by show Value.ref (ad G z) = _; rw [hz2]] at kk2
  exact kk2
theorem j_newa {N : Nat} {x : Int32} (atype : ArrayType) (kd : Nat) (hkd : kd < 3) (hd : decode oc pc = .ok (.newarray atype, 2)) (hty : newarray.typeOf atype = tyA kd) (har : Cond.arrayClass (newarray.typeOf atype) ∈ gw) (hx : x = nI N) (hN : N < 100000) (hz : z < EXT) (hc1 : kc + 1 ≤ T.1.cells) (hs1 : ks + N ≤ T.1.slots)
    (kk : J G oR oc on ort T (z + 1) (ups σ z (.inl (kd, N, fun _ => 0))) (kc + 1) (ks + N) (pc + 2) L (.ref z :: st)) : J G oR oc on ort T z σ kc ks pc L (.int x :: st) := by
  intro p l e s m args below meth c H locs ls C0 X hw hS hL
  subst hx
  obtain ⟨hx, hb, hr, hml, hown, hts, hlk, hK, hg, hB⟩ := id C0
  have hcb : N * componentBytes (newarray.typeOf atype) ≤ 536870912 := by
    have h8 : componentBytes (newarray.typeOf atype) ≤ 8 := by cases atype <;> decide
    exact Nat.le_trans (Nat.mul_le_mul (Nat.le_of_lt hN) h8) (by decide)
  refine va_newaK hx hb (hts _ har) rfl hd rfl (nI_pos (by omega)) (nI_clamp (by omega)) hcb hc1 hs1 rfl fun H1 cA e1 z1 o1 hAr hNm => ?_
  have hcA : cA = G.2.2.2.1 kd := by
    have h1 := (hK.2 kd _ (tysG_at (by omega))).2
    rw [hty] at hNm
    match kd, hkd, h1, hNm with
    | 0, _, h1, hNm => exact Option.some.inj (hNm.symm.trans h1)
    | 1, _, h1, hNm => exact Option.some.inj (hNm.symm.trans h1)
    | 2, _, h1, hNm => exact Option.some.inj (hNm.symm.trans h1)
  have hdv : (fun _ : Nat => defaultValue (newarray.typeOf atype)) = fun _ => Value.int 0 := by
    funext _
    rw [hty]
    match kd, hkd with
    | 0, _ => rfl
    | 1, _ => rfl
    | 2, _ => rfl
  have hz2 : ad G z = H.size := by rw [ad_lt hz, hw.1]
  have kk2 := kk p l e s m args below meth c H1 locs ls C0 X (hw.push hz z1 (show H1[H.size]? = some (vp_cell _ _) by rw [e1, hcA, hdv]; rfl) o1) ⟨Nat.le_trans hS.1 (by omega), fun x h1 h2 => (o1 x (Nat.lt_of_lt_of_le h1 hS.1)).trans (hS.2.1 x h1 h2), hS.2.2⟩ hL
  rw [List.map_cons] at kk2
  rw [show cV G (.ref z) = .ref H.size by show Value.ref (ad G z) = _; rw [hz2]] at kk2
  exact kk2
theorem cell_ext (cA : ClassId) (n : Nat) (f g : Nat → Int32) (h : ∀ j, j < n → f j = g j) : vp_cell cA (n, .inl f) = vp_cell cA (n, .inl g) := by
  rw [vp_cell_i, vp_cell_i]
  unfold arrV
  congr 1
  apply Array.ext
  · simp
  · intro i h1 h2
    simp at h1
    simp [h i h1]
/-- an array's contents under another name: what lies beyond its end is nothing -/
theorem j_arr {a kd n : Nat} {f : Nat → Int32} (g : Nat → Int32) (he : σ a = some (.inl (kd, n, f))) (hg : ∀ j, j < n → f j = g j) (σ2 : AH) (h2 : ups σ a (.inl (kd, n, g)) = σ2) (kk : J G oR oc on ort T z σ2 kc ks pc L st) : J G oR oc on ort T z σ kc ks pc L st := by
  intro p l e s m args below meth c H locs ls C0 X hw hS hL
  subst h2
  refine kk p l e s m args below meth c H locs ls C0 X (hw.put he rfl ?_ (fun _ _ => rfl)) hS hL
  have h1 : H[ad G a]? = some (vp_cell (G.2.2.2.1 kd) (n, .inl f)) := (hw.at he).1
  show H[ad G a]? = some (vp_cell (G.2.2.2.1 kd) (n, .inl g))
  rw [h1, cell_ext _ n f g hg]
end JM
end
section
/-! THE TOWN: five cells from t on: the object, cash, income, painted, debts -/
def tw (σ : AH) (t : Nat) (ca inc pa de : Nat → Int32) (pe un ra qu hi fa : Int32) : AH := fun k =>
  if k = t then some (.inr (.inr (4, [.ref (t + 1), .ref (t + 2), .ref (t + 3), .ref (t + 4), .int pe, .int un, .int ra, .int qu, .int hi, .int fa])))
  else if k = t + 1 then some (.inl (0, 7, ca)) else if k = t + 2 then some (.inl (0, 7, inc)) else if k = t + 3 then some (.inl (0, 7, pa)) else if k = t + 4 then some (.inl (0, 49, de)) else σ k
section TW
variable {σ : AH} {t : Nat} {ca inc pa de ca2 inc2 pa2 de2 : Nat → Int32} {pe un ra qu hi fa pe2 un2 ra2 qu2 hi2 fa2 : Int32}
theorem tw_o : tw σ t ca inc pa de pe un ra qu hi fa t = some (.inr (.inr (4, [.ref (t + 1), .ref (t + 2), .ref (t + 3), .ref (t + 4), .int pe, .int un, .int ra, .int qu, .int hi, .int fa]))) := by simp [tw]
theorem tw_c : tw σ t ca inc pa de pe un ra qu hi fa (t + 1) = some (.inl (0, 7, ca)) := by simp [tw]
theorem tw_i : tw σ t ca inc pa de pe un ra qu hi fa (t + 2) = some (.inl (0, 7, inc)) := by simp [tw]
theorem tw_p : tw σ t ca inc pa de pe un ra qu hi fa (t + 3) = some (.inl (0, 7, pa)) := by simp [tw]
theorem tw_d : tw σ t ca inc pa de pe un ra qu hi fa (t + 4) = some (.inl (0, 49, de)) := by simp [tw]
theorem tw_x {k : Nat} (h : k < t ∨ t + 4 < k) : tw σ t ca inc pa de pe un ra qu hi fa k = σ k := by
  unfold tw
  rw [if_neg (by omega), if_neg (by omega), if_neg (by omega), if_neg (by omega), if_neg (by omega)]
theorem tws_o : ups (tw σ t ca inc pa de pe un ra qu hi fa) t (.inr (.inr (4, [.ref (t + 1), .ref (t + 2), .ref (t + 3), .ref (t + 4), .int pe2, .int un2, .int ra2, .int qu2, .int hi2, .int fa2]))) = tw σ t ca inc pa de pe2 un2 ra2 qu2 hi2 fa2 := by
  funext k; unfold ups tw; split <;> simp_all
theorem tws_c : ups (tw σ t ca inc pa de pe un ra qu hi fa) (t + 1) (.inl (0, 7, ca2)) = tw σ t ca2 inc pa de pe un ra qu hi fa := by
  funext k; unfold ups tw; split <;> simp_all
theorem tws_i : ups (tw σ t ca inc pa de pe un ra qu hi fa) (t + 2) (.inl (0, 7, inc2)) = tw σ t ca inc2 pa de pe un ra qu hi fa := by
  funext k; unfold ups tw; split <;> simp_all
theorem tws_p : ups (tw σ t ca inc pa de pe un ra qu hi fa) (t + 3) (.inl (0, 7, pa2)) = tw σ t ca inc pa2 de pe un ra qu hi fa := by
  funext k; unfold ups tw; split <;> simp_all
theorem tws_d : ups (tw σ t ca inc pa de pe un ra qu hi fa) (t + 4) (.inl (0, 49, de2)) = tw σ t ca inc pa de2 pe un ra qu hi fa := by
  funext k; unfold ups tw; split <;> simp_all
theorem tw_tw : tw (tw σ t ca inc pa de pe un ra qu hi fa) t ca2 inc2 pa2 de2 pe2 un2 ra2 qu2 hi2 fa2 = tw σ t ca2 inc2 pa2 de2 pe2 un2 ra2 qu2 hi2 fa2 := by
  funext k; unfold tw; repeat (split; rfl)
  rfl
end TW
/-- the sum of f 0 .. f (n - 1) -/
def sumR (f : Nat → Int32) : Nat → Int32
  | 0 => nI 0
  | n + 1 => sumR f n + f n
def minI (x y : Int32) : Int32 := if y < x then y else x
theorem dX5_bitOf_0 : decode cX5_bitOf 0 = .ok (.iload_n 0, 1) := by decide +kernel
theorem dX5_bitOf_1 : decode cX5_bitOf 1 = .ok (.iload_n 1, 1) := by decide +kernel
theorem dX5_bitOf_2 : decode cX5_bitOf 2 = .ok (.ishr, 1) := by decide +kernel
theorem dX5_bitOf_3 : decode cX5_bitOf 3 = .ok (.iconst 1, 1) := by decide +kernel
theorem dX5_bitOf_4 : decode cX5_bitOf 4 = .ok (.iand, 1) := by decide +kernel
theorem dX5_bitOf_5 : decode cX5_bitOf 5 = .ok (.ireturn, 1) := by decide +kernel
theorem dX4_debtOf_0 : decode cX4_debtOf 0 = .ok (.aload_n 0, 1) := by decide +kernel
theorem dX4_debtOf_1 : decode cX4_debtOf 1 = .ok (.getfield 21, 3) := by decide +kernel
theorem dX4_debtOf_4 : decode cX4_debtOf 4 = .ok (.iload_n 1, 1) := by decide +kernel
theorem dX4_debtOf_5 : decode cX4_debtOf 5 = .ok (.bipush 7, 2) := by decide +kernel
theorem dX4_debtOf_7 : decode cX4_debtOf 7 = .ok (.imul, 1) := by decide +kernel
theorem dX4_debtOf_8 : decode cX4_debtOf 8 = .ok (.iload_n 2, 1) := by decide +kernel
theorem dX4_debtOf_9 : decode cX4_debtOf 9 = .ok (.iadd, 1) := by decide +kernel
theorem dX4_debtOf_10 : decode cX4_debtOf 10 = .ok (.iaload, 1) := by decide +kernel
theorem dX4_debtOf_11 : decode cX4_debtOf 11 = .ok (.ireturn, 1) := by decide +kernel
theorem dX4_owedBy_0 : decode cX4_owedBy 0 = .ok (.iconst 0, 1) := by decide +kernel
theorem dX4_owedBy_1 : decode cX4_owedBy 1 = .ok (.istore_n 2, 1) := by decide +kernel
theorem dX4_owedBy_2 : decode cX4_owedBy 2 = .ok (.iconst 0, 1) := by decide +kernel
theorem dX4_owedBy_3 : decode cX4_owedBy 3 = .ok (.istore_n 3, 1) := by decide +kernel
theorem dX4_owedBy_4 : decode cX4_owedBy 4 = .ok (.iload_n 3, 1) := by decide +kernel
theorem dX4_owedBy_5 : decode cX4_owedBy 5 = .ok (.aload_n 0, 1) := by decide +kernel
theorem dX4_owedBy_6 : decode cX4_owedBy 6 = .ok (.getfield 34, 3) := by decide +kernel
theorem dX4_owedBy_9 : decode cX4_owedBy 9 = .ok (.if_icmp .ge 18, 3) := by decide +kernel
theorem dX4_owedBy_12 : decode cX4_owedBy 12 = .ok (.iload_n 2, 1) := by decide +kernel
theorem dX4_owedBy_13 : decode cX4_owedBy 13 = .ok (.aload_n 0, 1) := by decide +kernel
theorem dX4_owedBy_14 : decode cX4_owedBy 14 = .ok (.iload_n 1, 1) := by decide +kernel
theorem dX4_owedBy_15 : decode cX4_owedBy 15 = .ok (.iload_n 3, 1) := by decide +kernel
theorem dX4_owedBy_16 : decode cX4_owedBy 16 = .ok (.invokevirtual 49, 3) := by decide +kernel
theorem dX4_owedBy_19 : decode cX4_owedBy 19 = .ok (.iadd, 1) := by decide +kernel
theorem dX4_owedBy_20 : decode cX4_owedBy 20 = .ok (.istore_n 2, 1) := by decide +kernel
theorem dX4_owedBy_21 : decode cX4_owedBy 21 = .ok (.iinc 3 1, 3) := by decide +kernel
theorem dX4_owedBy_24 : decode cX4_owedBy 24 = .ok (.goto (-20), 3) := by decide +kernel
theorem dX4_owedBy_27 : decode cX4_owedBy 27 = .ok (.iload_n 2, 1) := by decide +kernel
theorem dX4_owedBy_28 : decode cX4_owedBy 28 = .ok (.ireturn, 1) := by decide +kernel
theorem dX4_shadeOf_0 : decode cX4_shadeOf 0 = .ok (.aload_n 0, 1) := by decide +kernel
theorem dX4_shadeOf_1 : decode cX4_shadeOf 1 = .ok (.getfield 24, 3) := by decide +kernel
theorem dX4_shadeOf_4 : decode cX4_shadeOf 4 = .ok (.iconst 1, 1) := by decide +kernel
theorem dX4_shadeOf_5 : decode cX4_shadeOf 5 = .ok (.if_icmp .ge 7, 3) := by decide +kernel
theorem dX4_shadeOf_8 : decode cX4_shadeOf 8 = .ok (.iconst 0, 1) := by decide +kernel
theorem dX4_shadeOf_9 : decode cX4_shadeOf 9 = .ok (.goto 18, 3) := by decide +kernel
theorem dX4_shadeOf_12 : decode cX4_shadeOf 12 = .ok (.aload_n 0, 1) := by decide +kernel
theorem dX4_shadeOf_13 : decode cX4_shadeOf 13 = .ok (.iload_n 1, 1) := by decide +kernel
theorem dX4_shadeOf_14 : decode cX4_shadeOf 14 = .ok (.invokevirtual 53, 3) := by decide +kernel
theorem dX4_shadeOf_17 : decode cX4_shadeOf 17 = .ok (.aload_n 0, 1) := by decide +kernel
theorem dX4_shadeOf_18 : decode cX4_shadeOf 18 = .ok (.getfield 24, 3) := by decide +kernel
theorem dX4_shadeOf_21 : decode cX4_shadeOf 21 = .ok (.idiv, 1) := by decide +kernel
theorem dX4_shadeOf_22 : decode cX4_shadeOf 22 = .ok (.bipush 9, 2) := by decide +kernel
theorem dX4_shadeOf_24 : decode cX4_shadeOf 24 = .ok (.invokestatic 57, 3) := by decide +kernel
theorem dX4_shadeOf_27 : decode cX4_shadeOf 27 = .ok (.ireturn, 1) := by decide +kernel
section T1
variable (G : GG) (z : Nat) (σ : AH) (t : Nat) (ca inc pa de : Nat → Int32) (pe un ra qu hi fa : Int32)
theorem c_bitOf (x : Int32) (k : Int32) : Ct G yX5_bitOf cX5_bitOf 2 (some .int) 1 0 0 z σ [.int x, .int k] (some (.int ((x >>> (k &&& 31)) &&& nI 1))) z σ := by
  refine Ct.ofJ RX5 rfl [some (.int x), some (.int k)] rfl (by decide) Nat.le.refl ?_
  refine j_iload_n dX5_bitOf_0 rfl rfl ?_
  refine j_iload_n dX5_bitOf_1 rfl rfl ?_
  refine j_ishr dX5_bitOf_2 ?_
  refine j_iconst (nI 1) dX5_bitOf_3 rfl ?_
  refine j_iand dX5_bitOf_4 ?_
  exact j_iret rfl dX5_bitOf_5 rfl rfl (Nat.le_of_ble_eq_true rfl) (Nat.le_of_ble_eq_true rfl)
theorem c_debtOf {a b : Nat} (h : a * 7 + b < 49) : Ct G yX4_debtOf cX4_debtOf 3 (some .int) 1 0 0 z (tw σ t ca inc pa de pe un ra qu hi fa) [.ref t, .int (nI a), .int (nI b)] (some (.int (de (a * 7 + b)))) z (tw σ t ca inc pa de pe un ra qu hi fa) := by
  refine Ct.ofJ RX4 rfl [some (.ref t), some (.int (nI a)), some (.int (nI b))] rfl (by decide) Nat.le.refl ?_
  refine j_aload_n dX4_debtOf_0 rfl rfl ?_
  refine j_getf dX4_debtOf_1 4 3 rfl (Nat.le_of_ble_eq_true rfl) fl_X4_21 in_4 (by first | exact tw_o | exact tw_c | exact tw_i | exact tw_p | exact tw_d) rfl ?_
  refine j_iload_n dX4_debtOf_4 rfl rfl ?_
  refine j_bipush (nI 7) dX4_debtOf_5 rfl ?_
  first | refine j_imulN dX4_debtOf_7 ?_ | refine j_imul dX4_debtOf_7 ?_
  refine j_iload_n dX4_debtOf_8 rfl rfl ?_
  first | refine j_iaddN dX4_debtOf_9 ?_ | refine j_iadd dX4_debtOf_9 ?_
  refine j_iald dX4_debtOf_10 (by first | exact tw_o | exact tw_c | exact tw_i | exact tw_p | exact tw_d) rfl (by omega) (by decide) ?_
  exact j_iret rfl dX4_debtOf_11 rfl rfl (Nat.le_of_ble_eq_true rfl) (Nat.le_of_ble_eq_true rfl)
theorem c_owedBy {N p : Nat} (hN : N ≤ 7) (hp : p < 7) : Ct G yX4_owedBy cX4_owedBy 4 (some .int) 2 0 0 z (tw σ t ca inc pa de (nI N) un ra qu hi fa) [.ref t, .int (nI p)] (some (.int (sumR (fun b => de (p * 7 + b)) N))) z (tw σ t ca inc pa de (nI N) un ra qu hi fa) := by
  refine Ct.ofJ RX4 rfl [some (.ref t), some (.int (nI p)), none, none] rfl (by decide) (by simp [Value.category]) ?_
  refine j_iconst (nI 0) dX4_owedBy_0 rfl ?_
  refine j_istore_n dX4_owedBy_1 rfl (Nat.le_of_ble_eq_true rfl) rfl ?_
  refine j_iconst (nI 0) dX4_owedBy_2 rfl ?_
  refine j_istore_n dX4_owedBy_3 rfl (Nat.le_of_ble_eq_true rfl) rfl ?_
  suffices H : ∀ k i, i ≤ N → N < i + k → J G RX4 cX4_owedBy 4 (some .int) (TQ G 2 0 0 (some (.int (sumR (fun b => de (p * 7 + b)) N))) z (tw σ t ca inc pa de (nI N) un ra qu hi fa)) z (tw σ t ca inc pa de (nI N) un ra qu hi fa) 0 0 4 [some (.ref t), some (.int (nI p)), some (.int (sumR (fun b => de (p * 7 + b)) i)), some (.int (nI i))] [] from H (N + 1) 0 (by omega) (by omega)
  intro k
  induction k with
  | zero => intro i h1 h2; exact absurd h2 (by omega)
  | succ k ih =>
    intro i h1 h2
    refine j_iload_n dX4_owedBy_4 rfl rfl ?_
    refine j_aload_n dX4_owedBy_5 rfl rfl ?_
    refine j_getf dX4_owedBy_6 4 4 rfl (Nat.le_of_ble_eq_true rfl) fl_X4_34 in_4 (by first | exact tw_o | exact tw_c | exact tw_i | exact tw_p | exact tw_d) rfl ?_
    refine j_icmp_geN 27 dX4_owedBy_9 (by decide) (by omega) (by omega) (fun b9 => ?_) (fun b9 => ?_)
    · obtain rfl : i = N := by omega
      refine j_iload_n dX4_owedBy_27 rfl rfl ?_
      exact j_iret rfl dX4_owedBy_28 rfl rfl (Nat.le_of_ble_eq_true rfl) (Nat.le_of_ble_eq_true rfl)
    · refine j_iload_n dX4_owedBy_12 rfl rfl ?_
      refine j_aload_n dX4_owedBy_13 rfl rfl ?_
      refine j_iload_n dX4_owedBy_14 rfl rfl ?_
      refine j_iload_n dX4_owedBy_15 rfl rfl ?_
      refine j_callV (c_debtOf G z σ t ca inc pa de (nI N) un ra qu hi fa (by omega)) dX4_owedBy_16 rfl mv_X4_49 (by first | exact tw_o | exact tw_c | exact tw_i | exact tw_p | exact tw_d) rfl ⟨(Nat.le_of_ble_eq_true rfl), (Nat.le_of_ble_eq_true rfl)⟩ ⟨(Nat.le_of_ble_eq_true rfl), (Nat.le_of_ble_eq_true rfl)⟩ (Nat.le_of_ble_eq_true rfl) ?_
      first | refine j_iaddN dX4_owedBy_19 ?_ | refine j_iadd dX4_owedBy_19 ?_
      refine j_istore_n dX4_owedBy_20 rfl (Nat.le_of_ble_eq_true rfl) rfl ?_
      first | refine j_iincN dX4_owedBy_21 rfl (Nat.le_of_ble_eq_true rfl) rfl ?_ | refine j_iinc _ dX4_owedBy_21 rfl rfl (Nat.le_of_ble_eq_true rfl) rfl ?_
      refine j_goto 4 dX4_owedBy_24 (by decide) ?_
      exact ih (i + 1) (by omega) (by omega)
theorem c_shadeOf {N p u : Nat} (hN : N ≤ 7) (hp : p < 7) (hu : 1 ≤ u) (hu2 : u ≤ 20) : Ct G yX4_shadeOf cX4_shadeOf 2 (some .int) 3 0 0 z (tw σ t ca inc pa de (nI N) (nI u) ra qu hi fa) [.ref t, .int (nI p)] (some (.int (minI (sumR (fun b => de (p * 7 + b)) N / nI u) (nI 9)))) z (tw σ t ca inc pa de (nI N) (nI u) ra qu hi fa) := by
  refine Ct.ofJ RX4 rfl [some (.ref t), some (.int (nI p))] rfl (by decide) Nat.le.refl ?_
  refine j_aload_n dX4_shadeOf_0 rfl rfl ?_
  refine j_getf dX4_shadeOf_1 4 5 rfl (Nat.le_of_ble_eq_true rfl) fl_X4_24 in_4 (by first | exact tw_o | exact tw_c | exact tw_i | exact tw_p | exact tw_d) rfl ?_
  refine j_iconst (nI 1) dX4_shadeOf_4 rfl ?_
  refine j_icmp_geN 12 dX4_shadeOf_5 (by decide) (by omega) (by omega) (fun b5 => ?_) (fun b5 => ?_)
  · refine j_aload_n dX4_shadeOf_12 rfl rfl ?_
    refine j_iload_n dX4_shadeOf_13 rfl rfl ?_
    refine j_callV (c_owedBy G z σ t ca inc pa de (nI u) ra qu hi fa hN hp) dX4_shadeOf_14 rfl mv_X4_53 (by first | exact tw_o | exact tw_c | exact tw_i | exact tw_p | exact tw_d) rfl ⟨(Nat.le_of_ble_eq_true rfl), (Nat.le_of_ble_eq_true rfl)⟩ ⟨(Nat.le_of_ble_eq_true rfl), (Nat.le_of_ble_eq_true rfl)⟩ (Nat.le_of_ble_eq_true rfl) ?_
    refine j_aload_n dX4_shadeOf_17 rfl rfl ?_
    refine j_getf dX4_shadeOf_18 4 5 rfl (Nat.le_of_ble_eq_true rfl) fl_X4_24 in_4 (by first | exact tw_o | exact tw_c | exact tw_i | exact tw_p | exact tw_d) rfl ?_
    refine j_idiv dX4_shadeOf_21 (nI_ne0 (by omega) (by omega)) ?_
    refine j_bipush (nI 9) dX4_shadeOf_22 rfl ?_
    refine j_min dX4_shadeOf_24 mm_X4_57 (Nat.le_of_ble_eq_true rfl) (Nat.le_of_ble_eq_true rfl) (Nat.le_of_ble_eq_true rfl) (Nat.le_of_ble_eq_true rfl) ?_
    exact j_iret rfl dX4_shadeOf_27 rfl rfl (Nat.le_of_ble_eq_true rfl) (Nat.le_of_ble_eq_true rfl)
  · exfalso; omega
end T1
end
section
/-! THE TOWN's methods that only look -/
def iter {α : Type} (f : Nat → α → α) : Nat → α → α
  | 0, x => x
  | n + 1, x => f n (iter f n x)
def bitI (x : Int32) (k : Int32) : Int32 := (x >>> (k &&& 31)) &&& nI 1
def orI (x : Int32) (k : Nat) : Int32 := x ||| (nI 1 <<< (nI k &&& 31))
def dsum (de : Nat → Int32) (N p : Nat) : Int32 := sumR (fun b => de (p * 7 + b)) N
def tsum (de : Nat → Int32) (N p : Nat) : Int32 := sumR (fun a => de (a * 7 + p)) N
def shd (de : Nat → Int32) (N u p : Nat) : Int32 := minI (dsum de N p / nI u) (nI 9)
def lks (pa de : Nat → Int32) (N u p : Nat) : Int32 := if pa p = -1 then shd de N u p else pa p
def cntD (de : Nat → Int32) (N a : Nat) (c : Nat) : Nat → Nat := fun k => iter (fun b c => if 0 < de (a * 7 + b) then c + 1 else c) k c
def cntDs (de : Nat → Int32) (N : Nat) : Nat → Nat := fun k => iter (fun a c => cntD de N a c N) k 0
def kindI (de : Nat → Int32) (fa : Int32) (N u p : Nat) : Int32 := if bitI fa (nI p) = nI 1 then nI 3 else if 0 < dsum de N p then (if shd de N u p < nI 7 then nI 1 else nI 2) else if 0 < tsum de N p then nI 5 else nI 4
def lendB (de : Nat → Int32) (some : Int32) (a : Nat) : Nat → Int32 → Int32 := iter (fun b s => if bitI some (nI a) = nI 1 ∧ 0 < de (a * 7 + b) then orI s b else s)
def lendA (de : Nat → Int32) (some : Int32) (N : Nat) : Nat → Int32 := fun k => iter (fun a s => lendB de some a N s) k (nI 0)
def seenI (pa de : Nat → Int32) (hi x : Int32) (N u : Nat) : Nat → Int32 := fun k => iter (fun p s => if bitI hi (nI p) = 0 ∧ x ≤ lks pa de N u p then orI s p else s) k (nI 0)
theorem dX4_owedTo_0 : decode cX4_owedTo 0 = .ok (.iconst 0, 1) := by decide +kernel
theorem dX4_owedTo_1 : decode cX4_owedTo 1 = .ok (.istore_n 2, 1) := by decide +kernel
theorem dX4_owedTo_2 : decode cX4_owedTo 2 = .ok (.iconst 0, 1) := by decide +kernel
theorem dX4_owedTo_3 : decode cX4_owedTo 3 = .ok (.istore_n 3, 1) := by decide +kernel
theorem dX4_owedTo_4 : decode cX4_owedTo 4 = .ok (.iload_n 3, 1) := by decide +kernel
theorem dX4_owedTo_5 : decode cX4_owedTo 5 = .ok (.aload_n 0, 1) := by decide +kernel
theorem dX4_owedTo_6 : decode cX4_owedTo 6 = .ok (.getfield 34, 3) := by decide +kernel
theorem dX4_owedTo_9 : decode cX4_owedTo 9 = .ok (.if_icmp .ge 18, 3) := by decide +kernel
theorem dX4_owedTo_12 : decode cX4_owedTo 12 = .ok (.iload_n 2, 1) := by decide +kernel
theorem dX4_owedTo_13 : decode cX4_owedTo 13 = .ok (.aload_n 0, 1) := by decide +kernel
theorem dX4_owedTo_14 : decode cX4_owedTo 14 = .ok (.iload_n 3, 1) := by decide +kernel
theorem dX4_owedTo_15 : decode cX4_owedTo 15 = .ok (.iload_n 1, 1) := by decide +kernel
theorem dX4_owedTo_16 : decode cX4_owedTo 16 = .ok (.invokevirtual 49, 3) := by decide +kernel
theorem dX4_owedTo_19 : decode cX4_owedTo 19 = .ok (.iadd, 1) := by decide +kernel
theorem dX4_owedTo_20 : decode cX4_owedTo 20 = .ok (.istore_n 2, 1) := by decide +kernel
theorem dX4_owedTo_21 : decode cX4_owedTo 21 = .ok (.iinc 3 1, 3) := by decide +kernel
theorem dX4_owedTo_24 : decode cX4_owedTo 24 = .ok (.goto (-20), 3) := by decide +kernel
theorem dX4_owedTo_27 : decode cX4_owedTo 27 = .ok (.iload_n 2, 1) := by decide +kernel
theorem dX4_owedTo_28 : decode cX4_owedTo 28 = .ok (.ireturn, 1) := by decide +kernel
theorem dX4_looksOf_0 : decode cX4_looksOf 0 = .ok (.aload_n 0, 1) := by decide +kernel
theorem dX4_looksOf_1 : decode cX4_looksOf 1 = .ok (.getfield 18, 3) := by decide +kernel
theorem dX4_looksOf_4 : decode cX4_looksOf 4 = .ok (.iload_n 1, 1) := by decide +kernel
theorem dX4_looksOf_5 : decode cX4_looksOf 5 = .ok (.iaload, 1) := by decide +kernel
theorem dX4_looksOf_6 : decode cX4_looksOf 6 = .ok (.iconst (-1), 1) := by decide +kernel
theorem dX4_looksOf_7 : decode cX4_looksOf 7 = .ok (.if_icmp .ne 11, 3) := by decide +kernel
theorem dX4_looksOf_10 : decode cX4_looksOf 10 = .ok (.aload_n 0, 1) := by decide +kernel
theorem dX4_looksOf_11 : decode cX4_looksOf 11 = .ok (.iload_n 1, 1) := by decide +kernel
theorem dX4_looksOf_12 : decode cX4_looksOf 12 = .ok (.invokevirtual 62, 3) := by decide +kernel
theorem dX4_looksOf_15 : decode cX4_looksOf 15 = .ok (.goto 9, 3) := by decide +kernel
theorem dX4_looksOf_18 : decode cX4_looksOf 18 = .ok (.aload_n 0, 1) := by decide +kernel
theorem dX4_looksOf_19 : decode cX4_looksOf 19 = .ok (.getfield 18, 3) := by decide +kernel
theorem dX4_looksOf_22 : decode cX4_looksOf 22 = .ok (.iload_n 1, 1) := by decide +kernel
theorem dX4_looksOf_23 : decode cX4_looksOf 23 = .ok (.iaload, 1) := by decide +kernel
theorem dX4_looksOf_24 : decode cX4_looksOf 24 = .ok (.ireturn, 1) := by decide +kernel
theorem dX4_debtsAboveNone_0 : decode cX4_debtsAboveNone 0 = .ok (.iconst 0, 1) := by decide +kernel
theorem dX4_debtsAboveNone_1 : decode cX4_debtsAboveNone 1 = .ok (.istore_n 1, 1) := by decide +kernel
theorem dX4_debtsAboveNone_2 : decode cX4_debtsAboveNone 2 = .ok (.iconst 0, 1) := by decide +kernel
theorem dX4_debtsAboveNone_3 : decode cX4_debtsAboveNone 3 = .ok (.istore_n 2, 1) := by decide +kernel
theorem dX4_debtsAboveNone_4 : decode cX4_debtsAboveNone 4 = .ok (.iload_n 2, 1) := by decide +kernel
theorem dX4_debtsAboveNone_5 : decode cX4_debtsAboveNone 5 = .ok (.aload_n 0, 1) := by decide +kernel
theorem dX4_debtsAboveNone_6 : decode cX4_debtsAboveNone 6 = .ok (.getfield 34, 3) := by decide +kernel
theorem dX4_debtsAboveNone_9 : decode cX4_debtsAboveNone 9 = .ok (.if_icmp .ge 37, 3) := by decide +kernel
theorem dX4_debtsAboveNone_12 : decode cX4_debtsAboveNone 12 = .ok (.iconst 0, 1) := by decide +kernel
theorem dX4_debtsAboveNone_13 : decode cX4_debtsAboveNone 13 = .ok (.istore_n 3, 1) := by decide +kernel
theorem dX4_debtsAboveNone_14 : decode cX4_debtsAboveNone 14 = .ok (.iload_n 3, 1) := by decide +kernel
theorem dX4_debtsAboveNone_15 : decode cX4_debtsAboveNone 15 = .ok (.aload_n 0, 1) := by decide +kernel
theorem dX4_debtsAboveNone_16 : decode cX4_debtsAboveNone 16 = .ok (.getfield 34, 3) := by decide +kernel
theorem dX4_debtsAboveNone_19 : decode cX4_debtsAboveNone 19 = .ok (.if_icmp .ge 21, 3) := by decide +kernel
theorem dX4_debtsAboveNone_22 : decode cX4_debtsAboveNone 22 = .ok (.aload_n 0, 1) := by decide +kernel
theorem dX4_debtsAboveNone_23 : decode cX4_debtsAboveNone 23 = .ok (.iload_n 2, 1) := by decide +kernel
theorem dX4_debtsAboveNone_24 : decode cX4_debtsAboveNone 24 = .ok (.iload_n 3, 1) := by decide +kernel
theorem dX4_debtsAboveNone_25 : decode cX4_debtsAboveNone 25 = .ok (.invokevirtual 49, 3) := by decide +kernel
theorem dX4_debtsAboveNone_28 : decode cX4_debtsAboveNone 28 = .ok (.ifCond .le 6, 3) := by decide +kernel
theorem dX4_debtsAboveNone_31 : decode cX4_debtsAboveNone 31 = .ok (.iinc 1 1, 3) := by decide +kernel
theorem dX4_debtsAboveNone_34 : decode cX4_debtsAboveNone 34 = .ok (.iinc 3 1, 3) := by decide +kernel
theorem dX4_debtsAboveNone_37 : decode cX4_debtsAboveNone 37 = .ok (.goto (-23), 3) := by decide +kernel
theorem dX4_debtsAboveNone_40 : decode cX4_debtsAboveNone 40 = .ok (.iinc 2 1, 3) := by decide +kernel
theorem dX4_debtsAboveNone_43 : decode cX4_debtsAboveNone 43 = .ok (.goto (-39), 3) := by decide +kernel
theorem dX4_debtsAboveNone_46 : decode cX4_debtsAboveNone 46 = .ok (.iload_n 1, 1) := by decide +kernel
theorem dX4_debtsAboveNone_47 : decode cX4_debtsAboveNone 47 = .ok (.ireturn, 1) := by decide +kernel
theorem dX4_cashOfAll_0 : decode cX4_cashOfAll 0 = .ok (.iconst 0, 1) := by decide +kernel
theorem dX4_cashOfAll_1 : decode cX4_cashOfAll 1 = .ok (.istore_n 1, 1) := by decide +kernel
theorem dX4_cashOfAll_2 : decode cX4_cashOfAll 2 = .ok (.iconst 0, 1) := by decide +kernel
theorem dX4_cashOfAll_3 : decode cX4_cashOfAll 3 = .ok (.istore_n 2, 1) := by decide +kernel
theorem dX4_cashOfAll_4 : decode cX4_cashOfAll 4 = .ok (.iload_n 2, 1) := by decide +kernel
theorem dX4_cashOfAll_5 : decode cX4_cashOfAll 5 = .ok (.aload_n 0, 1) := by decide +kernel
theorem dX4_cashOfAll_6 : decode cX4_cashOfAll 6 = .ok (.getfield 34, 3) := by decide +kernel
theorem dX4_cashOfAll_9 : decode cX4_cashOfAll 9 = .ok (.if_icmp .ge 18, 3) := by decide +kernel
theorem dX4_cashOfAll_12 : decode cX4_cashOfAll 12 = .ok (.iload_n 1, 1) := by decide +kernel
theorem dX4_cashOfAll_13 : decode cX4_cashOfAll 13 = .ok (.aload_n 0, 1) := by decide +kernel
theorem dX4_cashOfAll_14 : decode cX4_cashOfAll 14 = .ok (.getfield 9, 3) := by decide +kernel
theorem dX4_cashOfAll_17 : decode cX4_cashOfAll 17 = .ok (.iload_n 2, 1) := by decide +kernel
theorem dX4_cashOfAll_18 : decode cX4_cashOfAll 18 = .ok (.iaload, 1) := by decide +kernel
theorem dX4_cashOfAll_19 : decode cX4_cashOfAll 19 = .ok (.iadd, 1) := by decide +kernel
theorem dX4_cashOfAll_20 : decode cX4_cashOfAll 20 = .ok (.istore_n 1, 1) := by decide +kernel
theorem dX4_cashOfAll_21 : decode cX4_cashOfAll 21 = .ok (.iinc 2 1, 3) := by decide +kernel
theorem dX4_cashOfAll_24 : decode cX4_cashOfAll 24 = .ok (.goto (-20), 3) := by decide +kernel
theorem dX4_cashOfAll_27 : decode cX4_cashOfAll 27 = .ok (.iload_n 1, 1) := by decide +kernel
theorem dX4_cashOfAll_28 : decode cX4_cashOfAll 28 = .ok (.ireturn, 1) := by decide +kernel
theorem dX4_kindOf_0 : decode cX4_kindOf 0 = .ok (.aload_n 0, 1) := by decide +kernel
theorem dX4_kindOf_1 : decode cX4_kindOf 1 = .ok (.getfield 46, 3) := by decide +kernel
theorem dX4_kindOf_4 : decode cX4_kindOf 4 = .ok (.iload_n 1, 1) := by decide +kernel
theorem dX4_kindOf_5 : decode cX4_kindOf 5 = .ok (.invokestatic 65, 3) := by decide +kernel
theorem dX4_kindOf_8 : decode cX4_kindOf 8 = .ok (.iconst 1, 1) := by decide +kernel
theorem dX4_kindOf_9 : decode cX4_kindOf 9 = .ok (.if_icmp .ne 5, 3) := by decide +kernel
theorem dX4_kindOf_12 : decode cX4_kindOf 12 = .ok (.iconst 3, 1) := by decide +kernel
theorem dX4_kindOf_13 : decode cX4_kindOf 13 = .ok (.ireturn, 1) := by decide +kernel
theorem dX4_kindOf_14 : decode cX4_kindOf 14 = .ok (.aload_n 0, 1) := by decide +kernel
theorem dX4_kindOf_15 : decode cX4_kindOf 15 = .ok (.iload_n 1, 1) := by decide +kernel
theorem dX4_kindOf_16 : decode cX4_kindOf 16 = .ok (.invokevirtual 53, 3) := by decide +kernel
theorem dX4_kindOf_19 : decode cX4_kindOf 19 = .ok (.ifCond .le 19, 3) := by decide +kernel
theorem dX4_kindOf_22 : decode cX4_kindOf 22 = .ok (.aload_n 0, 1) := by decide +kernel
theorem dX4_kindOf_23 : decode cX4_kindOf 23 = .ok (.iload_n 1, 1) := by decide +kernel
theorem dX4_kindOf_24 : decode cX4_kindOf 24 = .ok (.invokevirtual 62, 3) := by decide +kernel
theorem dX4_kindOf_27 : decode cX4_kindOf 27 = .ok (.bipush 7, 2) := by decide +kernel
theorem dX4_kindOf_29 : decode cX4_kindOf 29 = .ok (.if_icmp .lt 7, 3) := by decide +kernel
theorem dX4_kindOf_32 : decode cX4_kindOf 32 = .ok (.iconst 2, 1) := by decide +kernel
theorem dX4_kindOf_33 : decode cX4_kindOf 33 = .ok (.goto 4, 3) := by decide +kernel
theorem dX4_kindOf_36 : decode cX4_kindOf 36 = .ok (.iconst 1, 1) := by decide +kernel
theorem dX4_kindOf_37 : decode cX4_kindOf 37 = .ok (.ireturn, 1) := by decide +kernel
theorem dX4_kindOf_38 : decode cX4_kindOf 38 = .ok (.aload_n 0, 1) := by decide +kernel
theorem dX4_kindOf_39 : decode cX4_kindOf 39 = .ok (.iload_n 1, 1) := by decide +kernel
theorem dX4_kindOf_40 : decode cX4_kindOf 40 = .ok (.invokevirtual 68, 3) := by decide +kernel
theorem dX4_kindOf_43 : decode cX4_kindOf 43 = .ok (.ifCond .le 7, 3) := by decide +kernel
theorem dX4_kindOf_46 : decode cX4_kindOf 46 = .ok (.iconst 5, 1) := by decide +kernel
theorem dX4_kindOf_47 : decode cX4_kindOf 47 = .ok (.goto 4, 3) := by decide +kernel
theorem dX4_kindOf_50 : decode cX4_kindOf 50 = .ok (.iconst 4, 1) := by decide +kernel
theorem dX4_kindOf_51 : decode cX4_kindOf 51 = .ok (.ireturn, 1) := by decide +kernel
theorem dX4_lendersOf_0 : decode cX4_lendersOf 0 = .ok (.iconst 0, 1) := by decide +kernel
theorem dX4_lendersOf_1 : decode cX4_lendersOf 1 = .ok (.istore_n 2, 1) := by decide +kernel
theorem dX4_lendersOf_2 : decode cX4_lendersOf 2 = .ok (.iconst 0, 1) := by decide +kernel
theorem dX4_lendersOf_3 : decode cX4_lendersOf 3 = .ok (.istore_n 3, 1) := by decide +kernel
theorem dX4_lendersOf_4 : decode cX4_lendersOf 4 = .ok (.iload_n 3, 1) := by decide +kernel
theorem dX4_lendersOf_5 : decode cX4_lendersOf 5 = .ok (.aload_n 0, 1) := by decide +kernel
theorem dX4_lendersOf_6 : decode cX4_lendersOf 6 = .ok (.getfield 34, 3) := by decide +kernel
theorem dX4_lendersOf_9 : decode cX4_lendersOf 9 = .ok (.if_icmp .ge 53, 3) := by decide +kernel
theorem dX4_lendersOf_12 : decode cX4_lendersOf 12 = .ok (.iconst 0, 1) := by decide +kernel
theorem dX4_lendersOf_13 : decode cX4_lendersOf 13 = .ok (.istore 4, 2) := by decide +kernel
theorem dX4_lendersOf_15 : decode cX4_lendersOf 15 = .ok (.iload 4, 2) := by decide +kernel
theorem dX4_lendersOf_17 : decode cX4_lendersOf 17 = .ok (.aload_n 0, 1) := by decide +kernel
theorem dX4_lendersOf_18 : decode cX4_lendersOf 18 = .ok (.getfield 34, 3) := by decide +kernel
theorem dX4_lendersOf_21 : decode cX4_lendersOf 21 = .ok (.if_icmp .ge 35, 3) := by decide +kernel
theorem dX4_lendersOf_24 : decode cX4_lendersOf 24 = .ok (.iload_n 1, 1) := by decide +kernel
theorem dX4_lendersOf_25 : decode cX4_lendersOf 25 = .ok (.iload_n 3, 1) := by decide +kernel
theorem dX4_lendersOf_26 : decode cX4_lendersOf 26 = .ok (.invokestatic 65, 3) := by decide +kernel
theorem dX4_lendersOf_29 : decode cX4_lendersOf 29 = .ok (.iconst 1, 1) := by decide +kernel
theorem dX4_lendersOf_30 : decode cX4_lendersOf 30 = .ok (.if_icmp .ne 20, 3) := by decide +kernel
theorem dX4_lendersOf_33 : decode cX4_lendersOf 33 = .ok (.aload_n 0, 1) := by decide +kernel
theorem dX4_lendersOf_34 : decode cX4_lendersOf 34 = .ok (.iload_n 3, 1) := by decide +kernel
theorem dX4_lendersOf_35 : decode cX4_lendersOf 35 = .ok (.iload 4, 2) := by decide +kernel
theorem dX4_lendersOf_37 : decode cX4_lendersOf 37 = .ok (.invokevirtual 49, 3) := by decide +kernel
theorem dX4_lendersOf_40 : decode cX4_lendersOf 40 = .ok (.ifCond .le 10, 3) := by decide +kernel
theorem dX4_lendersOf_43 : decode cX4_lendersOf 43 = .ok (.iload_n 2, 1) := by decide +kernel
theorem dX4_lendersOf_44 : decode cX4_lendersOf 44 = .ok (.iconst 1, 1) := by decide +kernel
theorem dX4_lendersOf_45 : decode cX4_lendersOf 45 = .ok (.iload 4, 2) := by decide +kernel
theorem dX4_lendersOf_47 : decode cX4_lendersOf 47 = .ok (.ishl, 1) := by decide +kernel
theorem dX4_lendersOf_48 : decode cX4_lendersOf 48 = .ok (.ior, 1) := by decide +kernel
theorem dX4_lendersOf_49 : decode cX4_lendersOf 49 = .ok (.istore_n 2, 1) := by decide +kernel
theorem dX4_lendersOf_50 : decode cX4_lendersOf 50 = .ok (.iinc 4 1, 3) := by decide +kernel
theorem dX4_lendersOf_53 : decode cX4_lendersOf 53 = .ok (.goto (-38), 3) := by decide +kernel
theorem dX4_lendersOf_56 : decode cX4_lendersOf 56 = .ok (.iinc 3 1, 3) := by decide +kernel
theorem dX4_lendersOf_59 : decode cX4_lendersOf 59 = .ok (.goto (-55), 3) := by decide +kernel
theorem dX4_lendersOf_62 : decode cX4_lendersOf 62 = .ok (.iload_n 2, 1) := by decide +kernel
theorem dX4_lendersOf_63 : decode cX4_lendersOf 63 = .ok (.ireturn, 1) := by decide +kernel
theorem dX4_seenFrom_0 : decode cX4_seenFrom 0 = .ok (.iconst 0, 1) := by decide +kernel
theorem dX4_seenFrom_1 : decode cX4_seenFrom 1 = .ok (.istore_n 2, 1) := by decide +kernel
theorem dX4_seenFrom_2 : decode cX4_seenFrom 2 = .ok (.iconst 0, 1) := by decide +kernel
theorem dX4_seenFrom_3 : decode cX4_seenFrom 3 = .ok (.istore_n 3, 1) := by decide +kernel
theorem dX4_seenFrom_4 : decode cX4_seenFrom 4 = .ok (.iload_n 3, 1) := by decide +kernel
theorem dX4_seenFrom_5 : decode cX4_seenFrom 5 = .ok (.aload_n 0, 1) := by decide +kernel
theorem dX4_seenFrom_6 : decode cX4_seenFrom 6 = .ok (.getfield 34, 3) := by decide +kernel
theorem dX4_seenFrom_9 : decode cX4_seenFrom 9 = .ok (.if_icmp .ge 35, 3) := by decide +kernel
theorem dX4_seenFrom_12 : decode cX4_seenFrom 12 = .ok (.aload_n 0, 1) := by decide +kernel
theorem dX4_seenFrom_13 : decode cX4_seenFrom 13 = .ok (.getfield 43, 3) := by decide +kernel
theorem dX4_seenFrom_16 : decode cX4_seenFrom 16 = .ok (.iload_n 3, 1) := by decide +kernel
theorem dX4_seenFrom_17 : decode cX4_seenFrom 17 = .ok (.invokestatic 65, 3) := by decide +kernel
theorem dX4_seenFrom_20 : decode cX4_seenFrom 20 = .ok (.ifCond .ne 18, 3) := by decide +kernel
theorem dX4_seenFrom_23 : decode cX4_seenFrom 23 = .ok (.aload_n 0, 1) := by decide +kernel
theorem dX4_seenFrom_24 : decode cX4_seenFrom 24 = .ok (.iload_n 3, 1) := by decide +kernel
theorem dX4_seenFrom_25 : decode cX4_seenFrom 25 = .ok (.invokevirtual 81, 3) := by decide +kernel
theorem dX4_seenFrom_28 : decode cX4_seenFrom 28 = .ok (.iload_n 1, 1) := by decide +kernel
theorem dX4_seenFrom_29 : decode cX4_seenFrom 29 = .ok (.if_icmp .lt 9, 3) := by decide +kernel
theorem dX4_seenFrom_32 : decode cX4_seenFrom 32 = .ok (.iload_n 2, 1) := by decide +kernel
theorem dX4_seenFrom_33 : decode cX4_seenFrom 33 = .ok (.iconst 1, 1) := by decide +kernel
theorem dX4_seenFrom_34 : decode cX4_seenFrom 34 = .ok (.iload_n 3, 1) := by decide +kernel
theorem dX4_seenFrom_35 : decode cX4_seenFrom 35 = .ok (.ishl, 1) := by decide +kernel
theorem dX4_seenFrom_36 : decode cX4_seenFrom 36 = .ok (.ior, 1) := by decide +kernel
theorem dX4_seenFrom_37 : decode cX4_seenFrom 37 = .ok (.istore_n 2, 1) := by decide +kernel
theorem dX4_seenFrom_38 : decode cX4_seenFrom 38 = .ok (.iinc 3 1, 3) := by decide +kernel
theorem dX4_seenFrom_41 : decode cX4_seenFrom 41 = .ok (.goto (-37), 3) := by decide +kernel
theorem dX4_seenFrom_44 : decode cX4_seenFrom 44 = .ok (.iload_n 2, 1) := by decide +kernel
theorem dX4_seenFrom_45 : decode cX4_seenFrom 45 = .ok (.ireturn, 1) := by decide +kernel
section T2
variable (G : GG) (z : Nat) (σ : AH) (t : Nat) (ca inc pa de : Nat → Int32) (pe un ra qu hi fa : Int32)
theorem c_owedTo {N p : Nat} (hN : N ≤ 7) (hp : p < 7) : Ct G yX4_owedTo cX4_owedTo 4 (some .int) 2 0 0 z (tw σ t ca inc pa de (nI N) un ra qu hi fa) [.ref t, .int (nI p)] (some (.int (tsum de N p))) z (tw σ t ca inc pa de (nI N) un ra qu hi fa) := by
  refine Ct.ofJ RX4 rfl [some (.ref t), some (.int (nI p)), none, none] rfl (by decide) (by simp [Value.category]) ?_
  refine j_iconst (nI 0) dX4_owedTo_0 rfl ?_
  refine j_istore_n dX4_owedTo_1 rfl (Nat.le_of_ble_eq_true rfl) rfl ?_
  refine j_iconst (nI 0) dX4_owedTo_2 rfl ?_
  refine j_istore_n dX4_owedTo_3 rfl (Nat.le_of_ble_eq_true rfl) rfl ?_
  suffices H : ∀ k i, i ≤ N → N < i + k → J G RX4 cX4_owedTo 4 (some .int) (TQ G 2 0 0 (some (.int (tsum de N p))) z (tw σ t ca inc pa de (nI N) un ra qu hi fa)) z (tw σ t ca inc pa de (nI N) un ra qu hi fa) 0 0 4 [some (.ref t), some (.int (nI p)), some (.int (sumR (fun a => de (a * 7 + p)) i)), some (.int (nI i))] [] from H (N + 1) 0 (by omega) (by omega)
  intro k
  induction k with
  | zero => intro i h1 h2; exact absurd h2 (by omega)
  | succ k ih =>
    intro i h1 h2
    refine j_iload_n dX4_owedTo_4 rfl rfl ?_
    refine j_aload_n dX4_owedTo_5 rfl rfl ?_
    refine j_getf dX4_owedTo_6 4 4 rfl (Nat.le_of_ble_eq_true rfl) fl_X4_34 in_4 (by first | exact tw_o | exact tw_c | exact tw_i | exact tw_p | exact tw_d) rfl ?_
    refine j_icmp_geN 27 dX4_owedTo_9 (by decide) (by omega) (by omega) (fun b9 => ?_) (fun b9 => ?_)
    · obtain rfl : i = N := by omega
      refine j_iload_n dX4_owedTo_27 rfl rfl ?_
      exact j_iret rfl dX4_owedTo_28 rfl rfl (Nat.le_of_ble_eq_true rfl) (Nat.le_of_ble_eq_true rfl)
    · refine j_iload_n dX4_owedTo_12 rfl rfl ?_
      refine j_aload_n dX4_owedTo_13 rfl rfl ?_
      refine j_iload_n dX4_owedTo_14 rfl rfl ?_
      refine j_iload_n dX4_owedTo_15 rfl rfl ?_
      refine j_callV (c_debtOf G z σ t ca inc pa de (nI N) un ra qu hi fa (by omega)) dX4_owedTo_16 rfl mv_X4_49 (by first | exact tw_o | exact tw_c | exact tw_i | exact tw_p | exact tw_d) rfl ⟨(Nat.le_of_ble_eq_true rfl), (Nat.le_of_ble_eq_true rfl)⟩ ⟨(Nat.le_of_ble_eq_true rfl), (Nat.le_of_ble_eq_true rfl)⟩ (Nat.le_of_ble_eq_true rfl) ?_
      first | refine j_iaddN dX4_owedTo_19 ?_ | refine j_iadd dX4_owedTo_19 ?_
      refine j_istore_n dX4_owedTo_20 rfl (Nat.le_of_ble_eq_true rfl) rfl ?_
      first | refine j_iincN dX4_owedTo_21 rfl (Nat.le_of_ble_eq_true rfl) rfl ?_ | refine j_iinc _ dX4_owedTo_21 rfl rfl (Nat.le_of_ble_eq_true rfl) rfl ?_
      refine j_goto 4 dX4_owedTo_24 (by decide) ?_
      exact ih (i + 1) (by omega) (by omega)
theorem c_looksOf {N p u : Nat} (hN : N ≤ 7) (hp : p < 7) (hu : 1 ≤ u) (hu2 : u ≤ 20) : Ct G yX4_looksOf cX4_looksOf 2 (some .int) 4 0 0 z (tw σ t ca inc pa de (nI N) (nI u) ra qu hi fa) [.ref t, .int (nI p)] (some (.int (lks pa de N u p))) z (tw σ t ca inc pa de (nI N) (nI u) ra qu hi fa) := by
  refine Ct.ofJ RX4 rfl [some (.ref t), some (.int (nI p))] rfl (by decide) Nat.le.refl ?_
  refine j_aload_n dX4_looksOf_0 rfl rfl ?_
  refine j_getf dX4_looksOf_1 4 2 rfl (Nat.le_of_ble_eq_true rfl) fl_X4_18 in_4 (by first | exact tw_o | exact tw_c | exact tw_i | exact tw_p | exact tw_d) rfl ?_
  refine j_iload_n dX4_looksOf_4 rfl rfl ?_
  refine j_iald dX4_looksOf_5 (by first | exact tw_o | exact tw_c | exact tw_i | exact tw_p | exact tw_d) rfl (by omega) (by decide) ?_
  refine j_iconst (-1) dX4_looksOf_6 rfl ?_
  refine j_icmp_ne 18 dX4_looksOf_7 (by decide) (fun b7 => ?_) (fun b7 => ?_)
  · refine j_aload_n dX4_looksOf_18 rfl rfl ?_
    refine j_getf dX4_looksOf_19 4 2 rfl (Nat.le_of_ble_eq_true rfl) fl_X4_18 in_4 (by first | exact tw_o | exact tw_c | exact tw_i | exact tw_p | exact tw_d) rfl ?_
    refine j_iload_n dX4_looksOf_22 rfl rfl ?_
    refine j_iald dX4_looksOf_23 (by first | exact tw_o | exact tw_c | exact tw_i | exact tw_p | exact tw_d) rfl (by omega) (by decide) ?_
    exact j_iret rfl dX4_looksOf_24 (by simp only [lks, shd, dsum]; first | rw [if_pos b7] | rw [if_neg b7]) rfl (Nat.le_of_ble_eq_true rfl) (Nat.le_of_ble_eq_true rfl)
  · refine j_aload_n dX4_looksOf_10 rfl rfl ?_
    refine j_iload_n dX4_looksOf_11 rfl rfl ?_
    refine j_callV (c_shadeOf G z σ t ca inc pa de ra qu hi fa hN hp hu hu2) dX4_looksOf_12 rfl mv_X4_62 (by first | exact tw_o | exact tw_c | exact tw_i | exact tw_p | exact tw_d) rfl ⟨(Nat.le_of_ble_eq_true rfl), (Nat.le_of_ble_eq_true rfl)⟩ ⟨(Nat.le_of_ble_eq_true rfl), (Nat.le_of_ble_eq_true rfl)⟩ (Nat.le_of_ble_eq_true rfl) ?_
    refine j_goto 24 dX4_looksOf_15 (by decide) ?_
    exact j_iret rfl dX4_looksOf_24 (by simp only [lks, shd, dsum]; first | rw [if_pos b7] | rw [if_neg b7]) rfl (Nat.le_of_ble_eq_true rfl) (Nat.le_of_ble_eq_true rfl)
theorem c_cashOfAll {N : Nat} (hN : N ≤ 7) : Ct G yX4_cashOfAll cX4_cashOfAll 3 (some .int) 1 0 0 z (tw σ t ca inc pa de (nI N) un ra qu hi fa) [.ref t] (some (.int (sumR ca N))) z (tw σ t ca inc pa de (nI N) un ra qu hi fa) := by
  refine Ct.ofJ RX4 rfl [some (.ref t), none, none] rfl (by decide) (by simp [Value.category]) ?_
  refine j_iconst (nI 0) dX4_cashOfAll_0 rfl ?_
  refine j_istore_n dX4_cashOfAll_1 rfl (Nat.le_of_ble_eq_true rfl) rfl ?_
  refine j_iconst (nI 0) dX4_cashOfAll_2 rfl ?_
  refine j_istore_n dX4_cashOfAll_3 rfl (Nat.le_of_ble_eq_true rfl) rfl ?_
  suffices H : ∀ k i, i ≤ N → N < i + k → J G RX4 cX4_cashOfAll 3 (some .int) (TQ G 1 0 0 (some (.int (sumR ca N))) z (tw σ t ca inc pa de (nI N) un ra qu hi fa)) z (tw σ t ca inc pa de (nI N) un ra qu hi fa) 0 0 4 [some (.ref t), some (.int (sumR ca i)), some (.int (nI i))] [] from H (N + 1) 0 (by omega) (by omega)
  intro k
  induction k with
  | zero => intro i h1 h2; exact absurd h2 (by omega)
  | succ k ih =>
    intro i h1 h2
    refine j_iload_n dX4_cashOfAll_4 rfl rfl ?_
    refine j_aload_n dX4_cashOfAll_5 rfl rfl ?_
    refine j_getf dX4_cashOfAll_6 4 4 rfl (Nat.le_of_ble_eq_true rfl) fl_X4_34 in_4 (by first | exact tw_o | exact tw_c | exact tw_i | exact tw_p | exact tw_d) rfl ?_
    refine j_icmp_geN 27 dX4_cashOfAll_9 (by decide) (by omega) (by omega) (fun b9 => ?_) (fun b9 => ?_)
    · obtain rfl : i = N := by omega
      refine j_iload_n dX4_cashOfAll_27 rfl rfl ?_
      exact j_iret rfl dX4_cashOfAll_28 rfl rfl (Nat.le_of_ble_eq_true rfl) (Nat.le_of_ble_eq_true rfl)
    · refine j_iload_n dX4_cashOfAll_12 rfl rfl ?_
      refine j_aload_n dX4_cashOfAll_13 rfl rfl ?_
      refine j_getf dX4_cashOfAll_14 4 0 rfl (Nat.le_of_ble_eq_true rfl) fl_X4_9 in_4 (by first | exact tw_o | exact tw_c | exact tw_i | exact tw_p | exact tw_d) rfl ?_
      refine j_iload_n dX4_cashOfAll_17 rfl rfl ?_
      refine j_iald dX4_cashOfAll_18 (by first | exact tw_o | exact tw_c | exact tw_i | exact tw_p | exact tw_d) rfl (by omega) (by decide) ?_
      first | refine j_iaddN dX4_cashOfAll_19 ?_ | refine j_iadd dX4_cashOfAll_19 ?_
      refine j_istore_n dX4_cashOfAll_20 rfl (Nat.le_of_ble_eq_true rfl) rfl ?_
      first | refine j_iincN dX4_cashOfAll_21 rfl (Nat.le_of_ble_eq_true rfl) rfl ?_ | refine j_iinc _ dX4_cashOfAll_21 rfl rfl (Nat.le_of_ble_eq_true rfl) rfl ?_
      refine j_goto 4 dX4_cashOfAll_24 (by decide) ?_
      exact ih (i + 1) (by omega) (by omega)
theorem c_kindOf {N p u : Nat} (hN : N ≤ 7) (hp : p < 7) (hu : 1 ≤ u) (hu2 : u ≤ 20) : Ct G yX4_kindOf cX4_kindOf 2 (some .int) 4 0 0 z (tw σ t ca inc pa de (nI N) (nI u) ra qu hi fa) [.ref t, .int (nI p)] (some (.int (kindI de fa N u p))) z (tw σ t ca inc pa de (nI N) (nI u) ra qu hi fa) := by
  refine Ct.ofJ RX4 rfl [some (.ref t), some (.int (nI p))] rfl (by decide) Nat.le.refl ?_
  refine j_aload_n dX4_kindOf_0 rfl rfl ?_
  refine j_getf dX4_kindOf_1 4 9 rfl (Nat.le_of_ble_eq_true rfl) fl_X4_46 in_4 (by first | exact tw_o | exact tw_c | exact tw_i | exact tw_p | exact tw_d) rfl ?_
  refine j_iload_n dX4_kindOf_4 rfl rfl ?_
  refine j_bitOf rfl (c_bitOf G z _ fa (nI p)) dX4_kindOf_5 rfl mn_bitOf ⟨(Nat.le_of_ble_eq_true rfl), (Nat.le_of_ble_eq_true rfl)⟩ ⟨(Nat.le_of_ble_eq_true rfl), (Nat.le_of_ble_eq_true rfl)⟩ (Nat.le_of_ble_eq_true rfl) ?_
  refine j_iconst (nI 1) dX4_kindOf_8 rfl ?_
  refine j_icmp_ne 14 dX4_kindOf_9 (by decide) (fun b9 => ?_) (fun b9 => ?_)
  · refine j_aload_n dX4_kindOf_14 rfl rfl ?_
    refine j_iload_n dX4_kindOf_15 rfl rfl ?_
    refine j_callV (c_owedBy G z σ t ca inc pa de (nI u) ra qu hi fa hN hp) dX4_kindOf_16 rfl mv_X4_53 (by first | exact tw_o | exact tw_c | exact tw_i | exact tw_p | exact tw_d) rfl ⟨(Nat.le_of_ble_eq_true rfl), (Nat.le_of_ble_eq_true rfl)⟩ ⟨(Nat.le_of_ble_eq_true rfl), (Nat.le_of_ble_eq_true rfl)⟩ (Nat.le_of_ble_eq_true rfl) ?_
    refine j_if_le 38 dX4_kindOf_19 (by decide) (fun b19 => ?_) (fun b19 => ?_)
    · refine j_aload_n dX4_kindOf_38 rfl rfl ?_
      refine j_iload_n dX4_kindOf_39 rfl rfl ?_
      refine j_callV (c_owedTo G z σ t ca inc pa de (nI u) ra qu hi fa hN hp) dX4_kindOf_40 rfl mv_X4_68 (by first | exact tw_o | exact tw_c | exact tw_i | exact tw_p | exact tw_d) rfl ⟨(Nat.le_of_ble_eq_true rfl), (Nat.le_of_ble_eq_true rfl)⟩ ⟨(Nat.le_of_ble_eq_true rfl), (Nat.le_of_ble_eq_true rfl)⟩ (Nat.le_of_ble_eq_true rfl) ?_
      refine j_if_le 50 dX4_kindOf_43 (by decide) (fun b43 => ?_) (fun b43 => ?_)
      · refine j_iconst (nI 4) dX4_kindOf_50 rfl ?_
        exact j_iret rfl dX4_kindOf_51 (by unfold kindI; rw [if_neg (show ¬ bitI fa (nI p) = nI 1 from b9), if_neg (show ¬ 0 < dsum de N p from Int32.not_lt.mpr b19)]; first | rw [if_pos (show 0 < tsum de N p from Int32.not_le.mp b43)] | rw [if_neg (show ¬ 0 < tsum de N p from Int32.not_lt.mpr b43)]) rfl (Nat.le_of_ble_eq_true rfl) (Nat.le_of_ble_eq_true rfl)
      · refine j_iconst (nI 5) dX4_kindOf_46 rfl ?_
        refine j_goto 51 dX4_kindOf_47 (by decide) ?_
        exact j_iret rfl dX4_kindOf_51 (by unfold kindI; rw [if_neg (show ¬ bitI fa (nI p) = nI 1 from b9), if_neg (show ¬ 0 < dsum de N p from Int32.not_lt.mpr b19)]; first | rw [if_pos (show 0 < tsum de N p from Int32.not_le.mp b43)] | rw [if_neg (show ¬ 0 < tsum de N p from Int32.not_lt.mpr b43)]) rfl (Nat.le_of_ble_eq_true rfl) (Nat.le_of_ble_eq_true rfl)
    · refine j_aload_n dX4_kindOf_22 rfl rfl ?_
      refine j_iload_n dX4_kindOf_23 rfl rfl ?_
      refine j_callV (c_shadeOf G z σ t ca inc pa de ra qu hi fa hN hp hu hu2) dX4_kindOf_24 rfl mv_X4_62 (by first | exact tw_o | exact tw_c | exact tw_i | exact tw_p | exact tw_d) rfl ⟨(Nat.le_of_ble_eq_true rfl), (Nat.le_of_ble_eq_true rfl)⟩ ⟨(Nat.le_of_ble_eq_true rfl), (Nat.le_of_ble_eq_true rfl)⟩ (Nat.le_of_ble_eq_true rfl) ?_
      refine j_bipush (nI 7) dX4_kindOf_27 rfl ?_
      refine j_icmp_lt 36 dX4_kindOf_29 (by decide) (fun b29 => ?_) (fun b29 => ?_)
      · refine j_iconst (nI 1) dX4_kindOf_36 rfl ?_
        exact j_iret rfl dX4_kindOf_37 (by unfold kindI; rw [if_neg (show ¬ bitI fa (nI p) = nI 1 from b9), if_pos (show 0 < dsum de N p from Int32.not_le.mp b19)]; first | rw [if_pos (show shd de N u p < nI 7 from b29)] | rw [if_neg (show ¬ shd de N u p < nI 7 from b29)]) rfl (Nat.le_of_ble_eq_true rfl) (Nat.le_of_ble_eq_true rfl)
      · refine j_iconst (nI 2) dX4_kindOf_32 rfl ?_
        refine j_goto 37 dX4_kindOf_33 (by decide) ?_
        exact j_iret rfl dX4_kindOf_37 (by unfold kindI; rw [if_neg (show ¬ bitI fa (nI p) = nI 1 from b9), if_pos (show 0 < dsum de N p from Int32.not_le.mp b19)]; first | rw [if_pos (show shd de N u p < nI 7 from b29)] | rw [if_neg (show ¬ shd de N u p < nI 7 from b29)]) rfl (Nat.le_of_ble_eq_true rfl) (Nat.le_of_ble_eq_true rfl)
  · refine j_iconst (nI 3) dX4_kindOf_12 rfl ?_
    exact j_iret rfl dX4_kindOf_13 (by unfold kindI; rw [if_pos (show bitI fa (nI p) = nI 1 from b9)]) rfl (Nat.le_of_ble_eq_true rfl) (Nat.le_of_ble_eq_true rfl)
end T2
end
section
/-! THE TOWN's methods that change it -/
def pbC (ca : Nat → Int32) (a b : Nat) (n : Int32) : Nat → Int32 := upd (upd ca a (ca a - n)) b (upd ca a (ca a - n) b + n)
/-- TO PAY: cash, debts, how much was paid, behind the first k -/
def stl (p : Nat) (ca de : Nat → Int32) : Nat → (Nat → Int32) × (Nat → Int32) × Int32
  | 0 => (ca, de, nI 0)
  | b + 1 => (pbC (stl p ca de b).1 p b (minI ((stl p ca de b).1 p) ((stl p ca de b).2.1 (p * 7 + b))), upd (stl p ca de b).2.1 (p * 7 + b) ((stl p ca de b).2.1 (p * 7 + b) + -(minI ((stl p ca de b).1 p) ((stl p ca de b).2.1 (p * 7 + b)))), (stl p ca de b).2.2 + minI ((stl p ca de b).1 p) ((stl p ca de b).2.1 (p * 7 + b)))
/-- each of some is TO PAY: cash, debts, who owes yet -/
def stA (N : Nat) (so : Int32) (ca de : Nat → Int32) : Nat → (Nat → Int32) × (Nat → Int32) × Int32
  | 0 => (ca, de, nI 0)
  | p + 1 => if bitI so (nI p) = nI 1 then ((stl p (stA N so ca de p).1 (stA N so ca de p).2.1 N).1, (stl p (stA N so ca de p).1 (stA N so ca de p).2.1 N).2.1, if 0 < dsum (stl p (stA N so ca de p).1 (stA N so ca de p).2.1 N).2.1 N p then orI (stA N so ca de p).2.2 p else (stA N so ca de p).2.2) else stA N so ca de p
/-- HIDING: debts, how much was struck: of a, from b = a + 1 on, k of them -/
def strB (a : Nat) (s : (Nat → Int32) × Int32) : Nat → (Nat → Int32) × Int32
  | 0 => s
  | k + 1 => (upd (upd (strB a s k).1 (a * 7 + (a + 1 + k)) ((strB a s k).1 (a * 7 + (a + 1 + k)) + -(minI ((strB a s k).1 (a * 7 + (a + 1 + k))) ((strB a s k).1 ((a + 1 + k) * 7 + a))))) ((a + 1 + k) * 7 + a) (upd (strB a s k).1 (a * 7 + (a + 1 + k)) ((strB a s k).1 (a * 7 + (a + 1 + k)) + -(minI ((strB a s k).1 (a * 7 + (a + 1 + k))) ((strB a s k).1 ((a + 1 + k) * 7 + a)))) ((a + 1 + k) * 7 + a) + -(minI ((strB a s k).1 (a * 7 + (a + 1 + k))) ((strB a s k).1 ((a + 1 + k) * 7 + a)))), (strB a s k).2 + nI 2 * minI ((strB a s k).1 (a * 7 + (a + 1 + k))) ((strB a s k).1 ((a + 1 + k) * 7 + a)))
def strA (N : Nat) (de : Nat → Int32) : Nat → (Nat → Int32) × Int32
  | 0 => (de, nI 0)
  | a + 1 => strB a (strA N de a) (N - (a + 1))
theorem dX4_owesMore_0 : decode cX4_owesMore 0 = .ok (.aload_n 0, 1) := by decide +kernel
theorem dX4_owesMore_1 : decode cX4_owesMore 1 = .ok (.getfield 21, 3) := by decide +kernel
theorem dX4_owesMore_4 : decode cX4_owesMore 4 = .ok (.iload_n 1, 1) := by decide +kernel
theorem dX4_owesMore_5 : decode cX4_owesMore 5 = .ok (.bipush 7, 2) := by decide +kernel
theorem dX4_owesMore_7 : decode cX4_owesMore 7 = .ok (.imul, 1) := by decide +kernel
theorem dX4_owesMore_8 : decode cX4_owesMore 8 = .ok (.iload_n 2, 1) := by decide +kernel
theorem dX4_owesMore_9 : decode cX4_owesMore 9 = .ok (.iadd, 1) := by decide +kernel
theorem dX4_owesMore_10 : decode cX4_owesMore 10 = .ok (.dup2, 1) := by decide +kernel
theorem dX4_owesMore_11 : decode cX4_owesMore 11 = .ok (.iaload, 1) := by decide +kernel
theorem dX4_owesMore_12 : decode cX4_owesMore 12 = .ok (.iload_n 3, 1) := by decide +kernel
theorem dX4_owesMore_13 : decode cX4_owesMore 13 = .ok (.iadd, 1) := by decide +kernel
theorem dX4_owesMore_14 : decode cX4_owesMore 14 = .ok (.iastore, 1) := by decide +kernel
theorem dX4_owesMore_15 : decode cX4_owesMore 15 = .ok (.return_, 1) := by decide +kernel
theorem dX4_lends_0 : decode cX4_lends 0 = .ok (.aload_n 0, 1) := by decide +kernel
theorem dX4_lends_1 : decode cX4_lends 1 = .ok (.getfield 9, 3) := by decide +kernel
theorem dX4_lends_4 : decode cX4_lends 4 = .ok (.iload_n 1, 1) := by decide +kernel
theorem dX4_lends_5 : decode cX4_lends 5 = .ok (.dup2, 1) := by decide +kernel
theorem dX4_lends_6 : decode cX4_lends 6 = .ok (.iaload, 1) := by decide +kernel
theorem dX4_lends_7 : decode cX4_lends 7 = .ok (.iload_n 3, 1) := by decide +kernel
theorem dX4_lends_8 : decode cX4_lends 8 = .ok (.isub, 1) := by decide +kernel
theorem dX4_lends_9 : decode cX4_lends 9 = .ok (.iastore, 1) := by decide +kernel
theorem dX4_lends_10 : decode cX4_lends 10 = .ok (.aload_n 0, 1) := by decide +kernel
theorem dX4_lends_11 : decode cX4_lends 11 = .ok (.getfield 9, 3) := by decide +kernel
theorem dX4_lends_14 : decode cX4_lends 14 = .ok (.iload_n 2, 1) := by decide +kernel
theorem dX4_lends_15 : decode cX4_lends 15 = .ok (.dup2, 1) := by decide +kernel
theorem dX4_lends_16 : decode cX4_lends 16 = .ok (.iaload, 1) := by decide +kernel
theorem dX4_lends_17 : decode cX4_lends 17 = .ok (.iload_n 3, 1) := by decide +kernel
theorem dX4_lends_18 : decode cX4_lends 18 = .ok (.iadd, 1) := by decide +kernel
theorem dX4_lends_19 : decode cX4_lends 19 = .ok (.iastore, 1) := by decide +kernel
theorem dX4_lends_20 : decode cX4_lends 20 = .ok (.aload_n 0, 1) := by decide +kernel
theorem dX4_lends_21 : decode cX4_lends 21 = .ok (.iload_n 2, 1) := by decide +kernel
theorem dX4_lends_22 : decode cX4_lends 22 = .ok (.iload_n 1, 1) := by decide +kernel
theorem dX4_lends_23 : decode cX4_lends 23 = .ok (.iload_n 3, 1) := by decide +kernel
theorem dX4_lends_24 : decode cX4_lends 24 = .ok (.invokevirtual 71, 3) := by decide +kernel
theorem dX4_lends_27 : decode cX4_lends 27 = .ok (.return_, 1) := by decide +kernel
theorem dX4_paysBack_0 : decode cX4_paysBack 0 = .ok (.aload_n 0, 1) := by decide +kernel
theorem dX4_paysBack_1 : decode cX4_paysBack 1 = .ok (.getfield 9, 3) := by decide +kernel
theorem dX4_paysBack_4 : decode cX4_paysBack 4 = .ok (.iload_n 1, 1) := by decide +kernel
theorem dX4_paysBack_5 : decode cX4_paysBack 5 = .ok (.dup2, 1) := by decide +kernel
theorem dX4_paysBack_6 : decode cX4_paysBack 6 = .ok (.iaload, 1) := by decide +kernel
theorem dX4_paysBack_7 : decode cX4_paysBack 7 = .ok (.iload_n 3, 1) := by decide +kernel
theorem dX4_paysBack_8 : decode cX4_paysBack 8 = .ok (.isub, 1) := by decide +kernel
theorem dX4_paysBack_9 : decode cX4_paysBack 9 = .ok (.iastore, 1) := by decide +kernel
theorem dX4_paysBack_10 : decode cX4_paysBack 10 = .ok (.aload_n 0, 1) := by decide +kernel
theorem dX4_paysBack_11 : decode cX4_paysBack 11 = .ok (.getfield 9, 3) := by decide +kernel
theorem dX4_paysBack_14 : decode cX4_paysBack 14 = .ok (.iload_n 2, 1) := by decide +kernel
theorem dX4_paysBack_15 : decode cX4_paysBack 15 = .ok (.dup2, 1) := by decide +kernel
theorem dX4_paysBack_16 : decode cX4_paysBack 16 = .ok (.iaload, 1) := by decide +kernel
theorem dX4_paysBack_17 : decode cX4_paysBack 17 = .ok (.iload_n 3, 1) := by decide +kernel
theorem dX4_paysBack_18 : decode cX4_paysBack 18 = .ok (.iadd, 1) := by decide +kernel
theorem dX4_paysBack_19 : decode cX4_paysBack 19 = .ok (.iastore, 1) := by decide +kernel
theorem dX4_paysBack_20 : decode cX4_paysBack 20 = .ok (.aload_n 0, 1) := by decide +kernel
theorem dX4_paysBack_21 : decode cX4_paysBack 21 = .ok (.iload_n 1, 1) := by decide +kernel
theorem dX4_paysBack_22 : decode cX4_paysBack 22 = .ok (.iload_n 2, 1) := by decide +kernel
theorem dX4_paysBack_23 : decode cX4_paysBack 23 = .ok (.iload_n 3, 1) := by decide +kernel
theorem dX4_paysBack_24 : decode cX4_paysBack 24 = .ok (.ineg, 1) := by decide +kernel
theorem dX4_paysBack_25 : decode cX4_paysBack 25 = .ok (.invokevirtual 71, 3) := by decide +kernel
theorem dX4_paysBack_28 : decode cX4_paysBack 28 = .ok (.return_, 1) := by decide +kernel
theorem dX4_settle_0 : decode cX4_settle 0 = .ok (.iconst 0, 1) := by decide +kernel
theorem dX4_settle_1 : decode cX4_settle 1 = .ok (.istore_n 2, 1) := by decide +kernel
theorem dX4_settle_2 : decode cX4_settle 2 = .ok (.iconst 0, 1) := by decide +kernel
theorem dX4_settle_3 : decode cX4_settle 3 = .ok (.istore_n 3, 1) := by decide +kernel
theorem dX4_settle_4 : decode cX4_settle 4 = .ok (.iload_n 3, 1) := by decide +kernel
theorem dX4_settle_5 : decode cX4_settle 5 = .ok (.aload_n 0, 1) := by decide +kernel
theorem dX4_settle_6 : decode cX4_settle 6 = .ok (.getfield 34, 3) := by decide +kernel
theorem dX4_settle_9 : decode cX4_settle 9 = .ok (.if_icmp .ge 39, 3) := by decide +kernel
theorem dX4_settle_12 : decode cX4_settle 12 = .ok (.aload_n 0, 1) := by decide +kernel
theorem dX4_settle_13 : decode cX4_settle 13 = .ok (.getfield 9, 3) := by decide +kernel
theorem dX4_settle_16 : decode cX4_settle 16 = .ok (.iload_n 1, 1) := by decide +kernel
theorem dX4_settle_17 : decode cX4_settle 17 = .ok (.iaload, 1) := by decide +kernel
theorem dX4_settle_18 : decode cX4_settle 18 = .ok (.aload_n 0, 1) := by decide +kernel
theorem dX4_settle_19 : decode cX4_settle 19 = .ok (.iload_n 1, 1) := by decide +kernel
theorem dX4_settle_20 : decode cX4_settle 20 = .ok (.iload_n 3, 1) := by decide +kernel
theorem dX4_settle_21 : decode cX4_settle 21 = .ok (.invokevirtual 49, 3) := by decide +kernel
theorem dX4_settle_24 : decode cX4_settle 24 = .ok (.invokestatic 57, 3) := by decide +kernel
theorem dX4_settle_27 : decode cX4_settle 27 = .ok (.istore 4, 2) := by decide +kernel
theorem dX4_settle_29 : decode cX4_settle 29 = .ok (.aload_n 0, 1) := by decide +kernel
theorem dX4_settle_30 : decode cX4_settle 30 = .ok (.iload_n 1, 1) := by decide +kernel
theorem dX4_settle_31 : decode cX4_settle 31 = .ok (.iload_n 3, 1) := by decide +kernel
theorem dX4_settle_32 : decode cX4_settle 32 = .ok (.iload 4, 2) := by decide +kernel
theorem dX4_settle_34 : decode cX4_settle 34 = .ok (.invokevirtual 75, 3) := by decide +kernel
theorem dX4_settle_37 : decode cX4_settle 37 = .ok (.iload_n 2, 1) := by decide +kernel
theorem dX4_settle_38 : decode cX4_settle 38 = .ok (.iload 4, 2) := by decide +kernel
theorem dX4_settle_40 : decode cX4_settle 40 = .ok (.iadd, 1) := by decide +kernel
theorem dX4_settle_41 : decode cX4_settle 41 = .ok (.istore_n 2, 1) := by decide +kernel
theorem dX4_settle_42 : decode cX4_settle 42 = .ok (.iinc 3 1, 3) := by decide +kernel
theorem dX4_settle_45 : decode cX4_settle 45 = .ok (.goto (-41), 3) := by decide +kernel
theorem dX4_settle_48 : decode cX4_settle 48 = .ok (.iload_n 2, 1) := by decide +kernel
theorem dX4_settle_49 : decode cX4_settle 49 = .ok (.ireturn, 1) := by decide +kernel
theorem dX4_settleAll_0 : decode cX4_settleAll 0 = .ok (.iconst 0, 1) := by decide +kernel
theorem dX4_settleAll_1 : decode cX4_settleAll 1 = .ok (.istore_n 2, 1) := by decide +kernel
theorem dX4_settleAll_2 : decode cX4_settleAll 2 = .ok (.iconst 0, 1) := by decide +kernel
theorem dX4_settleAll_3 : decode cX4_settleAll 3 = .ok (.istore_n 3, 1) := by decide +kernel
theorem dX4_settleAll_4 : decode cX4_settleAll 4 = .ok (.iload_n 3, 1) := by decide +kernel
theorem dX4_settleAll_5 : decode cX4_settleAll 5 = .ok (.aload_n 0, 1) := by decide +kernel
theorem dX4_settleAll_6 : decode cX4_settleAll 6 = .ok (.getfield 34, 3) := by decide +kernel
theorem dX4_settleAll_9 : decode cX4_settleAll 9 = .ok (.if_icmp .ge 38, 3) := by decide +kernel
theorem dX4_settleAll_12 : decode cX4_settleAll 12 = .ok (.iload_n 1, 1) := by decide +kernel
theorem dX4_settleAll_13 : decode cX4_settleAll 13 = .ok (.iload_n 3, 1) := by decide +kernel
theorem dX4_settleAll_14 : decode cX4_settleAll 14 = .ok (.invokestatic 65, 3) := by decide +kernel
theorem dX4_settleAll_17 : decode cX4_settleAll 17 = .ok (.iconst 1, 1) := by decide +kernel
theorem dX4_settleAll_18 : decode cX4_settleAll 18 = .ok (.if_icmp .ne 23, 3) := by decide +kernel
theorem dX4_settleAll_21 : decode cX4_settleAll 21 = .ok (.aload_n 0, 1) := by decide +kernel
theorem dX4_settleAll_22 : decode cX4_settleAll 22 = .ok (.iload_n 3, 1) := by decide +kernel
theorem dX4_settleAll_23 : decode cX4_settleAll 23 = .ok (.invokevirtual 78, 3) := by decide +kernel
theorem dX4_settleAll_26 : decode cX4_settleAll 26 = .ok (.pop, 1) := by decide +kernel
theorem dX4_settleAll_27 : decode cX4_settleAll 27 = .ok (.aload_n 0, 1) := by decide +kernel
theorem dX4_settleAll_28 : decode cX4_settleAll 28 = .ok (.iload_n 3, 1) := by decide +kernel
theorem dX4_settleAll_29 : decode cX4_settleAll 29 = .ok (.invokevirtual 53, 3) := by decide +kernel
theorem dX4_settleAll_32 : decode cX4_settleAll 32 = .ok (.ifCond .le 9, 3) := by decide +kernel
theorem dX4_settleAll_35 : decode cX4_settleAll 35 = .ok (.iload_n 2, 1) := by decide +kernel
theorem dX4_settleAll_36 : decode cX4_settleAll 36 = .ok (.iconst 1, 1) := by decide +kernel
theorem dX4_settleAll_37 : decode cX4_settleAll 37 = .ok (.iload_n 3, 1) := by decide +kernel
theorem dX4_settleAll_38 : decode cX4_settleAll 38 = .ok (.ishl, 1) := by decide +kernel
theorem dX4_settleAll_39 : decode cX4_settleAll 39 = .ok (.ior, 1) := by decide +kernel
theorem dX4_settleAll_40 : decode cX4_settleAll 40 = .ok (.istore_n 2, 1) := by decide +kernel
theorem dX4_settleAll_41 : decode cX4_settleAll 41 = .ok (.iinc 3 1, 3) := by decide +kernel
theorem dX4_settleAll_44 : decode cX4_settleAll 44 = .ok (.goto (-40), 3) := by decide +kernel
theorem dX4_settleAll_47 : decode cX4_settleAll 47 = .ok (.iload_n 2, 1) := by decide +kernel
theorem dX4_settleAll_48 : decode cX4_settleAll 48 = .ok (.ireturn, 1) := by decide +kernel
theorem dX4_strikeOutMutual_0 : decode cX4_strikeOutMutual 0 = .ok (.iconst 0, 1) := by decide +kernel
theorem dX4_strikeOutMutual_1 : decode cX4_strikeOutMutual 1 = .ok (.istore_n 1, 1) := by decide +kernel
theorem dX4_strikeOutMutual_2 : decode cX4_strikeOutMutual 2 = .ok (.iconst 0, 1) := by decide +kernel
theorem dX4_strikeOutMutual_3 : decode cX4_strikeOutMutual 3 = .ok (.istore_n 2, 1) := by decide +kernel
theorem dX4_strikeOutMutual_4 : decode cX4_strikeOutMutual 4 = .ok (.iload_n 2, 1) := by decide +kernel
theorem dX4_strikeOutMutual_5 : decode cX4_strikeOutMutual 5 = .ok (.aload_n 0, 1) := by decide +kernel
theorem dX4_strikeOutMutual_6 : decode cX4_strikeOutMutual 6 = .ok (.getfield 34, 3) := by decide +kernel
theorem dX4_strikeOutMutual_9 : decode cX4_strikeOutMutual 9 = .ok (.if_icmp .ge 69, 3) := by decide +kernel
theorem dX4_strikeOutMutual_12 : decode cX4_strikeOutMutual 12 = .ok (.iload_n 2, 1) := by decide +kernel
theorem dX4_strikeOutMutual_13 : decode cX4_strikeOutMutual 13 = .ok (.iconst 1, 1) := by decide +kernel
theorem dX4_strikeOutMutual_14 : decode cX4_strikeOutMutual 14 = .ok (.iadd, 1) := by decide +kernel
theorem dX4_strikeOutMutual_15 : decode cX4_strikeOutMutual 15 = .ok (.istore_n 3, 1) := by decide +kernel
theorem dX4_strikeOutMutual_16 : decode cX4_strikeOutMutual 16 = .ok (.iload_n 3, 1) := by decide +kernel
theorem dX4_strikeOutMutual_17 : decode cX4_strikeOutMutual 17 = .ok (.aload_n 0, 1) := by decide +kernel
theorem dX4_strikeOutMutual_18 : decode cX4_strikeOutMutual 18 = .ok (.getfield 34, 3) := by decide +kernel
theorem dX4_strikeOutMutual_21 : decode cX4_strikeOutMutual 21 = .ok (.if_icmp .ge 51, 3) := by decide +kernel
theorem dX4_strikeOutMutual_24 : decode cX4_strikeOutMutual 24 = .ok (.aload_n 0, 1) := by decide +kernel
theorem dX4_strikeOutMutual_25 : decode cX4_strikeOutMutual 25 = .ok (.iload_n 2, 1) := by decide +kernel
theorem dX4_strikeOutMutual_26 : decode cX4_strikeOutMutual 26 = .ok (.iload_n 3, 1) := by decide +kernel
theorem dX4_strikeOutMutual_27 : decode cX4_strikeOutMutual 27 = .ok (.invokevirtual 49, 3) := by decide +kernel
theorem dX4_strikeOutMutual_30 : decode cX4_strikeOutMutual 30 = .ok (.aload_n 0, 1) := by decide +kernel
theorem dX4_strikeOutMutual_31 : decode cX4_strikeOutMutual 31 = .ok (.iload_n 3, 1) := by decide +kernel
theorem dX4_strikeOutMutual_32 : decode cX4_strikeOutMutual 32 = .ok (.iload_n 2, 1) := by decide +kernel
theorem dX4_strikeOutMutual_33 : decode cX4_strikeOutMutual 33 = .ok (.invokevirtual 49, 3) := by decide +kernel
theorem dX4_strikeOutMutual_36 : decode cX4_strikeOutMutual 36 = .ok (.invokestatic 57, 3) := by decide +kernel
theorem dX4_strikeOutMutual_39 : decode cX4_strikeOutMutual 39 = .ok (.istore 4, 2) := by decide +kernel
theorem dX4_strikeOutMutual_41 : decode cX4_strikeOutMutual 41 = .ok (.aload_n 0, 1) := by decide +kernel
theorem dX4_strikeOutMutual_42 : decode cX4_strikeOutMutual 42 = .ok (.iload_n 2, 1) := by decide +kernel
theorem dX4_strikeOutMutual_43 : decode cX4_strikeOutMutual 43 = .ok (.iload_n 3, 1) := by decide +kernel
theorem dX4_strikeOutMutual_44 : decode cX4_strikeOutMutual 44 = .ok (.iload 4, 2) := by decide +kernel
theorem dX4_strikeOutMutual_46 : decode cX4_strikeOutMutual 46 = .ok (.ineg, 1) := by decide +kernel
theorem dX4_strikeOutMutual_47 : decode cX4_strikeOutMutual 47 = .ok (.invokevirtual 71, 3) := by decide +kernel
theorem dX4_strikeOutMutual_50 : decode cX4_strikeOutMutual 50 = .ok (.aload_n 0, 1) := by decide +kernel
theorem dX4_strikeOutMutual_51 : decode cX4_strikeOutMutual 51 = .ok (.iload_n 3, 1) := by decide +kernel
theorem dX4_strikeOutMutual_52 : decode cX4_strikeOutMutual 52 = .ok (.iload_n 2, 1) := by decide +kernel
theorem dX4_strikeOutMutual_53 : decode cX4_strikeOutMutual 53 = .ok (.iload 4, 2) := by decide +kernel
theorem dX4_strikeOutMutual_55 : decode cX4_strikeOutMutual 55 = .ok (.ineg, 1) := by decide +kernel
theorem dX4_strikeOutMutual_56 : decode cX4_strikeOutMutual 56 = .ok (.invokevirtual 71, 3) := by decide +kernel
theorem dX4_strikeOutMutual_59 : decode cX4_strikeOutMutual 59 = .ok (.iload_n 1, 1) := by decide +kernel
theorem dX4_strikeOutMutual_60 : decode cX4_strikeOutMutual 60 = .ok (.iconst 2, 1) := by decide +kernel
theorem dX4_strikeOutMutual_61 : decode cX4_strikeOutMutual 61 = .ok (.iload 4, 2) := by decide +kernel
theorem dX4_strikeOutMutual_63 : decode cX4_strikeOutMutual 63 = .ok (.imul, 1) := by decide +kernel
theorem dX4_strikeOutMutual_64 : decode cX4_strikeOutMutual 64 = .ok (.iadd, 1) := by decide +kernel
theorem dX4_strikeOutMutual_65 : decode cX4_strikeOutMutual 65 = .ok (.istore_n 1, 1) := by decide +kernel
theorem dX4_strikeOutMutual_66 : decode cX4_strikeOutMutual 66 = .ok (.iinc 3 1, 3) := by decide +kernel
theorem dX4_strikeOutMutual_69 : decode cX4_strikeOutMutual 69 = .ok (.goto (-53), 3) := by decide +kernel
theorem dX4_strikeOutMutual_72 : decode cX4_strikeOutMutual 72 = .ok (.iinc 2 1, 3) := by decide +kernel
theorem dX4_strikeOutMutual_75 : decode cX4_strikeOutMutual 75 = .ok (.goto (-71), 3) := by decide +kernel
theorem dX4_strikeOutMutual_78 : decode cX4_strikeOutMutual 78 = .ok (.iload_n 1, 1) := by decide +kernel
theorem dX4_strikeOutMutual_79 : decode cX4_strikeOutMutual 79 = .ok (.ireturn, 1) := by decide +kernel
section T3
variable (G : GG) (z : Nat) (σ : AH) (t : Nat) (ca inc pa de : Nat → Int32) (pe un ra qu hi fa : Int32)
theorem c_owesMore {a b : Nat} (x : Int32) (h : a * 7 + b < 49) : Ct G yX4_owesMore cX4_owesMore 4 none 1 0 0 z (tw σ t ca inc pa de pe un ra qu hi fa) [.ref t, .int (nI a), .int (nI b), .int x] none z (tw σ t ca inc pa (upd de (a * 7 + b) (de (a * 7 + b) + x)) pe un ra qu hi fa) := by
  refine Ct.ofJ RX4 rfl [some (.ref t), some (.int (nI a)), some (.int (nI b)), some (.int x)] rfl (by decide) Nat.le.refl ?_
  refine j_aload_n dX4_owesMore_0 rfl rfl ?_
  refine j_getf dX4_owesMore_1 4 3 rfl (Nat.le_of_ble_eq_true rfl) fl_X4_21 in_4 (by first | exact tw_o | exact tw_c | exact tw_i | exact tw_p | exact tw_d) rfl ?_
  refine j_iload_n dX4_owesMore_4 rfl rfl ?_
  refine j_bipush (nI 7) dX4_owesMore_5 rfl ?_
  first | refine j_imulN dX4_owesMore_7 ?_ | refine j_imul dX4_owesMore_7 ?_
  refine j_iload_n dX4_owesMore_8 rfl rfl ?_
  first | refine j_iaddN dX4_owesMore_9 ?_ | refine j_iadd dX4_owesMore_9 ?_
  refine j_dup2 dX4_owesMore_10 rfl rfl ?_
  refine j_iald dX4_owesMore_11 (by first | exact tw_o | exact tw_c | exact tw_i | exact tw_p | exact tw_d) rfl (by omega) (by decide) ?_
  refine j_iload_n dX4_owesMore_12 rfl rfl ?_
  first | refine j_iaddN dX4_owesMore_13 ?_ | refine j_iadd dX4_owesMore_13 ?_
  refine j_iast dX4_owesMore_14 (by first | exact tw_o | exact tw_c | exact tw_i | exact tw_p | exact tw_d) rfl (by omega) (by decide) _ (by first | exact tws_o | exact tws_c | exact tws_i | exact tws_p | exact tws_d) ?_
  exact j_vret rfl dX4_owesMore_15 rfl (Nat.le_of_ble_eq_true rfl) (Nat.le_of_ble_eq_true rfl)
theorem c_lends {a b : Nat} (x : Int32) (ha : a < 7) (hb : b < 7) : Ct G yX4_lends cX4_lends 4 none 2 0 0 z (tw σ t ca inc pa de pe un ra qu hi fa) [.ref t, .int (nI a), .int (nI b), .int x] none z (tw σ t (pbC ca a b x) inc pa (upd de (b * 7 + a) (de (b * 7 + a) + x)) pe un ra qu hi fa) := by
  refine Ct.ofJ RX4 rfl [some (.ref t), some (.int (nI a)), some (.int (nI b)), some (.int x)] rfl (by decide) Nat.le.refl ?_
  refine j_aload_n dX4_lends_0 rfl rfl ?_
  refine j_getf dX4_lends_1 4 0 rfl (Nat.le_of_ble_eq_true rfl) fl_X4_9 in_4 (by first | exact tw_o | exact tw_c | exact tw_i | exact tw_p | exact tw_d) rfl ?_
  refine j_iload_n dX4_lends_4 rfl rfl ?_
  refine j_dup2 dX4_lends_5 rfl rfl ?_
  refine j_iald dX4_lends_6 (by first | exact tw_o | exact tw_c | exact tw_i | exact tw_p | exact tw_d) rfl (by omega) (by decide) ?_
  refine j_iload_n dX4_lends_7 rfl rfl ?_
  refine j_isub dX4_lends_8 ?_
  refine j_iast dX4_lends_9 (by first | exact tw_o | exact tw_c | exact tw_i | exact tw_p | exact tw_d) rfl (by omega) (by decide) _ (by first | exact tws_o | exact tws_c | exact tws_i | exact tws_p | exact tws_d) ?_
  refine j_aload_n dX4_lends_10 rfl rfl ?_
  refine j_getf dX4_lends_11 4 0 rfl (Nat.le_of_ble_eq_true rfl) fl_X4_9 in_4 (by first | exact tw_o | exact tw_c | exact tw_i | exact tw_p | exact tw_d) rfl ?_
  refine j_iload_n dX4_lends_14 rfl rfl ?_
  refine j_dup2 dX4_lends_15 rfl rfl ?_
  refine j_iald dX4_lends_16 (by first | exact tw_o | exact tw_c | exact tw_i | exact tw_p | exact tw_d) rfl (by omega) (by decide) ?_
  refine j_iload_n dX4_lends_17 rfl rfl ?_
  first | refine j_iaddN dX4_lends_18 ?_ | refine j_iadd dX4_lends_18 ?_
  refine j_iast dX4_lends_19 (by first | exact tw_o | exact tw_c | exact tw_i | exact tw_p | exact tw_d) rfl (by omega) (by decide) _ (by first | exact tws_o | exact tws_c | exact tws_i | exact tws_p | exact tws_d) ?_
  refine j_aload_n dX4_lends_20 rfl rfl ?_
  refine j_iload_n dX4_lends_21 rfl rfl ?_
  refine j_iload_n dX4_lends_22 rfl rfl ?_
  refine j_iload_n dX4_lends_23 rfl rfl ?_
  refine j_callV (c_owesMore G z σ t _ inc pa de pe un ra qu hi fa x (by omega)) dX4_lends_24 rfl mv_X4_71 (by first | exact tw_o | exact tw_c | exact tw_i | exact tw_p | exact tw_d) rfl ⟨(Nat.le_of_ble_eq_true rfl), (Nat.le_of_ble_eq_true rfl)⟩ ⟨(Nat.le_of_ble_eq_true rfl), (Nat.le_of_ble_eq_true rfl)⟩ (Nat.le_of_ble_eq_true rfl) ?_
  exact j_vret rfl dX4_lends_27 rfl (Nat.le_of_ble_eq_true rfl) (Nat.le_of_ble_eq_true rfl)
theorem c_paysBack {a b : Nat} (x : Int32) (ha : a < 7) (hb : b < 7) : Ct G yX4_paysBack cX4_paysBack 4 none 2 0 0 z (tw σ t ca inc pa de pe un ra qu hi fa) [.ref t, .int (nI a), .int (nI b), .int x] none z (tw σ t (pbC ca a b x) inc pa (upd de (a * 7 + b) (de (a * 7 + b) + -x)) pe un ra qu hi fa) := by
  refine Ct.ofJ RX4 rfl [some (.ref t), some (.int (nI a)), some (.int (nI b)), some (.int x)] rfl (by decide) Nat.le.refl ?_
  refine j_aload_n dX4_paysBack_0 rfl rfl ?_
  refine j_getf dX4_paysBack_1 4 0 rfl (Nat.le_of_ble_eq_true rfl) fl_X4_9 in_4 (by first | exact tw_o | exact tw_c | exact tw_i | exact tw_p | exact tw_d) rfl ?_
  refine j_iload_n dX4_paysBack_4 rfl rfl ?_
  refine j_dup2 dX4_paysBack_5 rfl rfl ?_
  refine j_iald dX4_paysBack_6 (by first | exact tw_o | exact tw_c | exact tw_i | exact tw_p | exact tw_d) rfl (by omega) (by decide) ?_
  refine j_iload_n dX4_paysBack_7 rfl rfl ?_
  refine j_isub dX4_paysBack_8 ?_
  refine j_iast dX4_paysBack_9 (by first | exact tw_o | exact tw_c | exact tw_i | exact tw_p | exact tw_d) rfl (by omega) (by decide) _ (by first | exact tws_o | exact tws_c | exact tws_i | exact tws_p | exact tws_d) ?_
  refine j_aload_n dX4_paysBack_10 rfl rfl ?_
  refine j_getf dX4_paysBack_11 4 0 rfl (Nat.le_of_ble_eq_true rfl) fl_X4_9 in_4 (by first | exact tw_o | exact tw_c | exact tw_i | exact tw_p | exact tw_d) rfl ?_
  refine j_iload_n dX4_paysBack_14 rfl rfl ?_
  refine j_dup2 dX4_paysBack_15 rfl rfl ?_
  refine j_iald dX4_paysBack_16 (by first | exact tw_o | exact tw_c | exact tw_i | exact tw_p | exact tw_d) rfl (by omega) (by decide) ?_
  refine j_iload_n dX4_paysBack_17 rfl rfl ?_
  first | refine j_iaddN dX4_paysBack_18 ?_ | refine j_iadd dX4_paysBack_18 ?_
  refine j_iast dX4_paysBack_19 (by first | exact tw_o | exact tw_c | exact tw_i | exact tw_p | exact tw_d) rfl (by omega) (by decide) _ (by first | exact tws_o | exact tws_c | exact tws_i | exact tws_p | exact tws_d) ?_
  refine j_aload_n dX4_paysBack_20 rfl rfl ?_
  refine j_iload_n dX4_paysBack_21 rfl rfl ?_
  refine j_iload_n dX4_paysBack_22 rfl rfl ?_
  refine j_iload_n dX4_paysBack_23 rfl rfl ?_
  refine j_ineg dX4_paysBack_24 ?_
  refine j_callV (c_owesMore G z σ t _ inc pa de pe un ra qu hi fa (-x) (by omega)) dX4_paysBack_25 rfl mv_X4_71 (by first | exact tw_o | exact tw_c | exact tw_i | exact tw_p | exact tw_d) rfl ⟨(Nat.le_of_ble_eq_true rfl), (Nat.le_of_ble_eq_true rfl)⟩ ⟨(Nat.le_of_ble_eq_true rfl), (Nat.le_of_ble_eq_true rfl)⟩ (Nat.le_of_ble_eq_true rfl) ?_
  exact j_vret rfl dX4_paysBack_28 rfl (Nat.le_of_ble_eq_true rfl) (Nat.le_of_ble_eq_true rfl)
theorem c_settle {N p : Nat} (hN : N ≤ 7) (hp : p < 7) : Ct G yX4_settle cX4_settle 5 (some .int) 3 0 0 z (tw σ t ca inc pa de (nI N) un ra qu hi fa) [.ref t, .int (nI p)] (some (.int (stl p ca de N).2.2)) z (tw σ t (stl p ca de N).1 inc pa (stl p ca de N).2.1 (nI N) un ra qu hi fa) := by
  refine Ct.ofJ RX4 rfl [some (.ref t), some (.int (nI p)), none, none, none] rfl (by decide) (by simp [Value.category]) ?_
  refine j_iconst (nI 0) dX4_settle_0 rfl ?_
  refine j_istore_n dX4_settle_1 rfl (Nat.le_of_ble_eq_true rfl) rfl ?_
  refine j_iconst (nI 0) dX4_settle_2 rfl ?_
  refine j_istore_n dX4_settle_3 rfl (Nat.le_of_ble_eq_true rfl) rfl ?_
  suffices H : ∀ (k i : Nat) (o : Option Value), (∀ v, o = some v → v.category = 1) → i ≤ N → N < i + k → J G RX4 cX4_settle 5 (some .int) (TQ G 3 0 0 (some (.int (stl p ca de N).2.2)) z (tw σ t (stl p ca de N).1 inc pa (stl p ca de N).2.1 (nI N) un ra qu hi fa)) z (tw σ t (stl p ca de i).1 inc pa (stl p ca de i).2.1 (nI N) un ra qu hi fa) 0 0 4 [some (.ref t), some (.int (nI p)), some (.int (stl p ca de i).2.2), some (.int (nI i)), o] [] from H (N + 1) 0 none (by intro v h; cases h) (by omega) (by omega)
  intro k
  induction k with
  | zero => intro i o ho h1 h2; exact absurd h2 (by omega)
  | succ k ih =>
    intro i o ho h1 h2
    refine j_iload_n dX4_settle_4 rfl rfl ?_
    refine j_aload_n dX4_settle_5 rfl rfl ?_
    refine j_getf dX4_settle_6 4 4 rfl (Nat.le_of_ble_eq_true rfl) fl_X4_34 in_4 (by first | exact tw_o | exact tw_c | exact tw_i | exact tw_p | exact tw_d) rfl ?_
    refine j_icmp_geN 48 dX4_settle_9 (by decide) (by omega) (by omega) (fun b9 => ?_) (fun b9 => ?_)
    · obtain rfl : i = N := by omega
      refine j_iload_n dX4_settle_48 rfl rfl ?_
      exact j_iret rfl dX4_settle_49 rfl rfl (Nat.le_of_ble_eq_true rfl) (Nat.le_of_ble_eq_true rfl)
    · refine j_aload_n dX4_settle_12 rfl rfl ?_
      refine j_getf dX4_settle_13 4 0 rfl (Nat.le_of_ble_eq_true rfl) fl_X4_9 in_4 (by first | exact tw_o | exact tw_c | exact tw_i | exact tw_p | exact tw_d) rfl ?_
      refine j_iload_n dX4_settle_16 rfl rfl ?_
      refine j_iald dX4_settle_17 (by first | exact tw_o | exact tw_c | exact tw_i | exact tw_p | exact tw_d) rfl (by omega) (by decide) ?_
      refine j_aload_n dX4_settle_18 rfl rfl ?_
      refine j_iload_n dX4_settle_19 rfl rfl ?_
      refine j_iload_n dX4_settle_20 rfl rfl ?_
      refine j_callV (c_debtOf G z σ t _ inc pa _ (nI N) un ra qu hi fa (by omega)) dX4_settle_21 rfl mv_X4_49 (by first | exact tw_o | exact tw_c | exact tw_i | exact tw_p | exact tw_d) rfl ⟨(Nat.le_of_ble_eq_true rfl), (Nat.le_of_ble_eq_true rfl)⟩ ⟨(Nat.le_of_ble_eq_true rfl), (Nat.le_of_ble_eq_true rfl)⟩ (Nat.le_of_ble_eq_true rfl) ?_
      refine j_min dX4_settle_24 mm_X4_57 (Nat.le_of_ble_eq_true rfl) (Nat.le_of_ble_eq_true rfl) (Nat.le_of_ble_eq_true rfl) (Nat.le_of_ble_eq_true rfl) ?_
      refine j_istore dX4_settle_27 (Nat.le_of_ble_eq_true rfl) rfl ?_
      refine j_aload_n dX4_settle_29 rfl rfl ?_
      refine j_iload_n dX4_settle_30 rfl rfl ?_
      refine j_iload_n dX4_settle_31 rfl rfl ?_
      refine j_iload dX4_settle_32 rfl ?_
      refine j_callV (c_paysBack G z σ t _ inc pa _ (nI N) un ra qu hi fa (minI ((stl p ca de i).1 p) ((stl p ca de i).2.1 (p * 7 + i))) hp (by omega)) dX4_settle_34 rfl mv_X4_75 (by first | exact tw_o | exact tw_c | exact tw_i | exact tw_p | exact tw_d) rfl ⟨(Nat.le_of_ble_eq_true rfl), (Nat.le_of_ble_eq_true rfl)⟩ ⟨(Nat.le_of_ble_eq_true rfl), (Nat.le_of_ble_eq_true rfl)⟩ (Nat.le_of_ble_eq_true rfl) ?_
      refine j_iload_n dX4_settle_37 rfl rfl ?_
      refine j_iload dX4_settle_38 rfl ?_
      first | refine j_iaddN dX4_settle_40 ?_ | refine j_iadd dX4_settle_40 ?_
      refine j_istore_n dX4_settle_41 rfl (Nat.le_of_ble_eq_true rfl) rfl ?_
      first | refine j_iincN dX4_settle_42 rfl (Nat.le_of_ble_eq_true rfl) rfl ?_ | refine j_iinc _ dX4_settle_42 rfl rfl (Nat.le_of_ble_eq_true rfl) rfl ?_
      refine j_goto 4 dX4_settle_45 (by decide) ?_
      exact ih (i + 1) _ (by intro v h; cases h; rfl) (by omega) (by omega)
theorem c_settleAll {N : Nat} (so : Int32) (hN : N ≤ 7) : Ct G yX4_settleAll cX4_settleAll 4 (some .int) 4 0 0 z (tw σ t ca inc pa de (nI N) un ra qu hi fa) [.ref t, .int so] (some (.int (stA N so ca de N).2.2)) z (tw σ t (stA N so ca de N).1 inc pa (stA N so ca de N).2.1 (nI N) un ra qu hi fa) := by
  refine Ct.ofJ RX4 rfl [some (.ref t), some (.int so), none, none] rfl (by decide) (by simp [Value.category]) ?_
  refine j_iconst (nI 0) dX4_settleAll_0 rfl ?_
  refine j_istore_n dX4_settleAll_1 rfl (Nat.le_of_ble_eq_true rfl) rfl ?_
  refine j_iconst (nI 0) dX4_settleAll_2 rfl ?_
  refine j_istore_n dX4_settleAll_3 rfl (Nat.le_of_ble_eq_true rfl) rfl ?_
  skip
  suffices H : ∀ (ki i : Nat), i ≤ N → N < i + ki → J G RX4 cX4_settleAll 4 (some .int) (TQ G 4 0 0 (some (.int (stA N so ca de N).2.2)) z (tw σ t (stA N so ca de N).1 inc pa (stA N so ca de N).2.1 (nI N) un ra qu hi fa)) z (tw σ t (stA N so ca de i).1 inc pa (stA N so ca de i).2.1 (nI N) un ra qu hi fa) 0 0 4 [some (.ref t), some (.int so), some (.int (stA N so ca de i).2.2), some (.int (nI i))] [] from H (N + 1) 0 (by omega) (by omega)
  intro ki
  induction ki with
  | zero => intro i h1i h2i; exact absurd h2i (by omega)
  | succ ki ih =>
    intro i h1i h2i
    refine j_iload_n dX4_settleAll_4 rfl rfl ?_
    refine j_aload_n dX4_settleAll_5 rfl rfl ?_
    refine j_getf dX4_settleAll_6 4 4 rfl (Nat.le_of_ble_eq_true rfl) fl_X4_34 in_4 (by first | exact tw_o | exact tw_c | exact tw_i | exact tw_p | exact tw_d) rfl ?_
    refine j_icmp_geN 47 dX4_settleAll_9 (by decide) (by omega) (by omega) (fun b9 => ?_) (fun b9 => ?_)
    · obtain rfl : i = N := by omega
      refine j_iload_n dX4_settleAll_47 rfl rfl ?_
      exact j_iret rfl dX4_settleAll_48 rfl rfl (Nat.le_of_ble_eq_true rfl) (Nat.le_of_ble_eq_true rfl)
    · refine j_iload_n dX4_settleAll_12 rfl rfl ?_
      refine j_iload_n dX4_settleAll_13 rfl rfl ?_
      refine j_bitOf rfl (c_bitOf G z _ so (nI i)) dX4_settleAll_14 rfl mn_bitOf ⟨(Nat.le_of_ble_eq_true rfl), (Nat.le_of_ble_eq_true rfl)⟩ ⟨(Nat.le_of_ble_eq_true rfl), (Nat.le_of_ble_eq_true rfl)⟩ (Nat.le_of_ble_eq_true rfl) ?_
      refine j_iconst (nI 1) dX4_settleAll_17 rfl ?_
      refine j_icmp_ne 41 dX4_settleAll_18 (by decide) (fun b18 => ?_) (fun b18 => ?_)
      · first | refine j_iincN dX4_settleAll_41 rfl (Nat.le_of_ble_eq_true rfl) rfl ?_ | refine j_iinc _ dX4_settleAll_41 rfl rfl (Nat.le_of_ble_eq_true rfl) rfl ?_
        refine j_goto 4 dX4_settleAll_44 (by decide) ?_
        refine Eq.mp ?_ (ih (i + 1) (by omega) (by omega))
        simp only [stA]
        first | rw [if_neg (show ¬ bitI so (nI i) = nI 1 from b18)]; rfl | (rw [if_pos (show bitI so (nI i) = nI 1 from b18)]; first | (rw [if_pos (show 0 < dsum _ N i from Int32.not_le.mp b32)]; rfl) | (rw [if_neg (show ¬ 0 < dsum _ N i from Int32.not_lt.mpr b32)]; rfl))
      · refine j_aload_n dX4_settleAll_21 rfl rfl ?_
        refine j_iload_n dX4_settleAll_22 rfl rfl ?_
        refine j_callV (c_settle G z σ t _ inc pa _ un ra qu hi fa hN (by omega)) dX4_settleAll_23 rfl mv_X4_78 (by first | exact tw_o | exact tw_c | exact tw_i | exact tw_p | exact tw_d) rfl ⟨(Nat.le_of_ble_eq_true rfl), (Nat.le_of_ble_eq_true rfl)⟩ ⟨(Nat.le_of_ble_eq_true rfl), (Nat.le_of_ble_eq_true rfl)⟩ (Nat.le_of_ble_eq_true rfl) ?_
        refine j_pop dX4_settleAll_26 rfl ?_
        refine j_aload_n dX4_settleAll_27 rfl rfl ?_
        refine j_iload_n dX4_settleAll_28 rfl rfl ?_
        refine j_callV (c_owedBy G z σ t _ inc pa _ un ra qu hi fa hN (by omega)) dX4_settleAll_29 rfl mv_X4_53 (by first | exact tw_o | exact tw_c | exact tw_i | exact tw_p | exact tw_d) rfl ⟨(Nat.le_of_ble_eq_true rfl), (Nat.le_of_ble_eq_true rfl)⟩ ⟨(Nat.le_of_ble_eq_true rfl), (Nat.le_of_ble_eq_true rfl)⟩ (Nat.le_of_ble_eq_true rfl) ?_
        refine j_if_le 41 dX4_settleAll_32 (by decide) (fun b32 => ?_) (fun b32 => ?_)
        · first | refine j_iincN dX4_settleAll_41 rfl (Nat.le_of_ble_eq_true rfl) rfl ?_ | refine j_iinc _ dX4_settleAll_41 rfl rfl (Nat.le_of_ble_eq_true rfl) rfl ?_
          refine j_goto 4 dX4_settleAll_44 (by decide) ?_
          refine Eq.mp ?_ (ih (i + 1) (by omega) (by omega))
          simp only [stA]
          first | rw [if_neg (show ¬ bitI so (nI i) = nI 1 from b18)]; rfl | (rw [if_pos (show bitI so (nI i) = nI 1 from b18)]; first | (rw [if_pos (show 0 < dsum _ N i from Int32.not_le.mp b32)]; rfl) | (rw [if_neg (show ¬ 0 < dsum _ N i from Int32.not_lt.mpr b32)]; rfl))
        · refine j_iload_n dX4_settleAll_35 rfl rfl ?_
          refine j_iconst (nI 1) dX4_settleAll_36 rfl ?_
          refine j_iload_n dX4_settleAll_37 rfl rfl ?_
          refine j_ishl dX4_settleAll_38 ?_
          refine j_ior dX4_settleAll_39 ?_
          refine j_istore_n dX4_settleAll_40 rfl (Nat.le_of_ble_eq_true rfl) rfl ?_
          first | refine j_iincN dX4_settleAll_41 rfl (Nat.le_of_ble_eq_true rfl) rfl ?_ | refine j_iinc _ dX4_settleAll_41 rfl rfl (Nat.le_of_ble_eq_true rfl) rfl ?_
          refine j_goto 4 dX4_settleAll_44 (by decide) ?_
          refine Eq.mp ?_ (ih (i + 1) (by omega) (by omega))
          simp only [stA]
          first | rw [if_neg (show ¬ bitI so (nI i) = nI 1 from b18)]; rfl | (rw [if_pos (show bitI so (nI i) = nI 1 from b18)]; first | (rw [if_pos (show 0 < dsum _ N i from Int32.not_le.mp b32)]; rfl) | (rw [if_neg (show ¬ 0 < dsum _ N i from Int32.not_lt.mpr b32)]; rfl))
theorem c_strikeOutMutual {N : Nat} (hN : N ≤ 7) : Ct G yX4_strikeOutMutual cX4_strikeOutMutual 5 (some .int) 2 0 0 z (tw σ t ca inc pa de (nI N) un ra qu hi fa) [.ref t] (some (.int (strA N de N).2)) z (tw σ t ca inc pa (strA N de N).1 (nI N) un ra qu hi fa) := by
  refine Ct.ofJ RX4 rfl [some (.ref t), none, none, none, none] rfl (by decide) (by simp [Value.category]) ?_
  refine j_iconst (nI 0) dX4_strikeOutMutual_0 rfl ?_
  refine j_istore_n dX4_strikeOutMutual_1 rfl (Nat.le_of_ble_eq_true rfl) rfl ?_
  refine j_iconst (nI 0) dX4_strikeOutMutual_2 rfl ?_
  refine j_istore_n dX4_strikeOutMutual_3 rfl (Nat.le_of_ble_eq_true rfl) rfl ?_
  suffices H : ∀ (k a : Nat) (o1 o2 : Option Value), a ≤ N → N < a + k → J G RX4 cX4_strikeOutMutual 5 (some .int) (TQ G 2 0 0 (some (.int (strA N de N).2)) z (tw σ t ca inc pa (strA N de N).1 (nI N) un ra qu hi fa)) z (tw σ t ca inc pa (strA N de a).1 (nI N) un ra qu hi fa) 0 0 4 [some (.ref t), some (.int (strA N de a).2), some (.int (nI a)), o1, o2] [] from H (N + 1) 0 none none (by omega) (by omega)
  intro k
  induction k with
  | zero => intro a o1 o2 h1 h2; exact absurd h2 (by omega)
  | succ k ih =>
    intro a o1 o2 h1 h2
    refine j_iload_n dX4_strikeOutMutual_4 rfl rfl ?_
    refine j_aload_n dX4_strikeOutMutual_5 rfl rfl ?_
    refine j_getf dX4_strikeOutMutual_6 4 4 rfl (Nat.le_of_ble_eq_true rfl) fl_X4_34 in_4 (by first | exact tw_o | exact tw_c | exact tw_i | exact tw_p | exact tw_d) rfl ?_
    refine j_icmp_geN 78 dX4_strikeOutMutual_9 (by decide) (by omega) (by omega) (fun b9 => ?_) (fun b9 => ?_)
    · obtain rfl : a = N := by omega
      refine j_iload_n dX4_strikeOutMutual_78 rfl rfl ?_
      exact j_iret rfl dX4_strikeOutMutual_79 rfl rfl (Nat.le_of_ble_eq_true rfl) (Nat.le_of_ble_eq_true rfl)
    · refine j_iload_n dX4_strikeOutMutual_12 rfl rfl ?_
      refine j_iconst (nI 1) dX4_strikeOutMutual_13 rfl ?_
      first | refine j_iaddN dX4_strikeOutMutual_14 ?_ | refine j_iadd dX4_strikeOutMutual_14 ?_
      refine j_istore_n dX4_strikeOutMutual_15 rfl (Nat.le_of_ble_eq_true rfl) rfl ?_
      suffices H2 : ∀ (k2 b : Nat) (o2 : Option Value), a + 1 + b ≤ N → N < a + 1 + b + k2 → J G RX4 cX4_strikeOutMutual 5 (some .int) (TQ G 2 0 0 (some (.int (strA N de N).2)) z (tw σ t ca inc pa (strA N de N).1 (nI N) un ra qu hi fa)) z (tw σ t ca inc pa (strB a (strA N de a) b).1 (nI N) un ra qu hi fa) 0 0 16 [some (.ref t), some (.int (strB a (strA N de a) b).2), some (.int (nI a)), some (.int (nI (a + 1 + b))), o2] [] from H2 (N + 1) 0 o2 (by omega) (by omega)
      intro k2
      induction k2 with
      | zero => intro b o2 h3 h4; exact absurd h4 (by omega)
      | succ k2 ih2 =>
        intro b o2 h3 h4
        refine j_iload_n dX4_strikeOutMutual_16 rfl rfl ?_
        refine j_aload_n dX4_strikeOutMutual_17 rfl rfl ?_
        refine j_getf dX4_strikeOutMutual_18 4 4 rfl (Nat.le_of_ble_eq_true rfl) fl_X4_34 in_4 (by first | exact tw_o | exact tw_c | exact tw_i | exact tw_p | exact tw_d) rfl ?_
        refine j_icmp_geN 72 dX4_strikeOutMutual_21 (by decide) (by omega) (by omega) (fun b21 => ?_) (fun b21 => ?_)
        · first | refine j_iincN dX4_strikeOutMutual_72 rfl (Nat.le_of_ble_eq_true rfl) rfl ?_ | refine j_iinc _ dX4_strikeOutMutual_72 rfl rfl (Nat.le_of_ble_eq_true rfl) rfl ?_
          refine j_goto 4 dX4_strikeOutMutual_75 (by decide) ?_
          refine Eq.mp ?_ (ih (a + 1) (some (.int (nI (a + 1 + b)))) o2 (by omega) (by omega))
          rw [show b = N - (a + 1) by omega]; rfl
        · refine j_aload_n dX4_strikeOutMutual_24 rfl rfl ?_
          refine j_iload_n dX4_strikeOutMutual_25 rfl rfl ?_
          refine j_iload_n dX4_strikeOutMutual_26 rfl rfl ?_
          refine j_callV (c_debtOf G z σ t _ inc pa _ (nI N) un ra qu hi fa (by omega)) dX4_strikeOutMutual_27 rfl mv_X4_49 (by first | exact tw_o | exact tw_c | exact tw_i | exact tw_p | exact tw_d) rfl ⟨(Nat.le_of_ble_eq_true rfl), (Nat.le_of_ble_eq_true rfl)⟩ ⟨(Nat.le_of_ble_eq_true rfl), (Nat.le_of_ble_eq_true rfl)⟩ (Nat.le_of_ble_eq_true rfl) ?_
          refine j_aload_n dX4_strikeOutMutual_30 rfl rfl ?_
          refine j_iload_n dX4_strikeOutMutual_31 rfl rfl ?_
          refine j_iload_n dX4_strikeOutMutual_32 rfl rfl ?_
          refine j_callV (c_debtOf G z σ t _ inc pa _ (nI N) un ra qu hi fa (by omega)) dX4_strikeOutMutual_33 rfl mv_X4_49 (by first | exact tw_o | exact tw_c | exact tw_i | exact tw_p | exact tw_d) rfl ⟨(Nat.le_of_ble_eq_true rfl), (Nat.le_of_ble_eq_true rfl)⟩ ⟨(Nat.le_of_ble_eq_true rfl), (Nat.le_of_ble_eq_true rfl)⟩ (Nat.le_of_ble_eq_true rfl) ?_
          refine j_min dX4_strikeOutMutual_36 mm_X4_57 (Nat.le_of_ble_eq_true rfl) (Nat.le_of_ble_eq_true rfl) (Nat.le_of_ble_eq_true rfl) (Nat.le_of_ble_eq_true rfl) ?_
          refine j_istore dX4_strikeOutMutual_39 (Nat.le_of_ble_eq_true rfl) rfl ?_
          refine j_aload_n dX4_strikeOutMutual_41 rfl rfl ?_
          refine j_iload_n dX4_strikeOutMutual_42 rfl rfl ?_
          refine j_iload_n dX4_strikeOutMutual_43 rfl rfl ?_
          refine j_iload dX4_strikeOutMutual_44 rfl ?_
          refine j_ineg dX4_strikeOutMutual_46 ?_
          refine j_callV (c_owesMore G z σ t _ inc pa _ (nI N) un ra qu hi fa _ (by omega)) dX4_strikeOutMutual_47 rfl mv_X4_71 (by first | exact tw_o | exact tw_c | exact tw_i | exact tw_p | exact tw_d) rfl ⟨(Nat.le_of_ble_eq_true rfl), (Nat.le_of_ble_eq_true rfl)⟩ ⟨(Nat.le_of_ble_eq_true rfl), (Nat.le_of_ble_eq_true rfl)⟩ (Nat.le_of_ble_eq_true rfl) ?_
          refine j_aload_n dX4_strikeOutMutual_50 rfl rfl ?_
          refine j_iload_n dX4_strikeOutMutual_51 rfl rfl ?_
          refine j_iload_n dX4_strikeOutMutual_52 rfl rfl ?_
          refine j_iload dX4_strikeOutMutual_53 rfl ?_
          refine j_ineg dX4_strikeOutMutual_55 ?_
          refine j_callV (c_owesMore G z σ t _ inc pa _ (nI N) un ra qu hi fa _ (by omega)) dX4_strikeOutMutual_56 rfl mv_X4_71 (by first | exact tw_o | exact tw_c | exact tw_i | exact tw_p | exact tw_d) rfl ⟨(Nat.le_of_ble_eq_true rfl), (Nat.le_of_ble_eq_true rfl)⟩ ⟨(Nat.le_of_ble_eq_true rfl), (Nat.le_of_ble_eq_true rfl)⟩ (Nat.le_of_ble_eq_true rfl) ?_
          refine j_iload_n dX4_strikeOutMutual_59 rfl rfl ?_
          refine j_iconst (nI 2) dX4_strikeOutMutual_60 rfl ?_
          refine j_iload dX4_strikeOutMutual_61 rfl ?_
          first | refine j_imulN dX4_strikeOutMutual_63 ?_ | refine j_imul dX4_strikeOutMutual_63 ?_
          first | refine j_iaddN dX4_strikeOutMutual_64 ?_ | refine j_iadd dX4_strikeOutMutual_64 ?_
          refine j_istore_n dX4_strikeOutMutual_65 rfl (Nat.le_of_ble_eq_true rfl) rfl ?_
          first | refine j_iincN dX4_strikeOutMutual_66 rfl (Nat.le_of_ble_eq_true rfl) rfl ?_ | refine j_iinc _ dX4_strikeOutMutual_66 rfl rfl (Nat.le_of_ble_eq_true rfl) rfl ?_
          refine j_goto 16 dX4_strikeOutMutual_69 (by decide) ?_
          exact ih2 (b + 1) _ (by omega) (by omega)
end T3
end
section
/-! THE TOWN: counting, who lends, who is seen; copies; a quarter -/
def clrI (x : Int32) (k : Nat) : Int32 := x &&& ((nI 1 <<< (nI k &&& 31)) ^^^ (-1))
def drawX (seed : Int32) : Nat → Int64
  | 0 => seed.toInt64
  | p + 1 => drawX seed p * 16807 - drawX seed p * 16807 / 2147483647 * 2147483647
def drawnI (x : Int64) (v : Int32) : Int32 := (x - x / (v + nI 1).toInt64 * (v + nI 1).toInt64).toInt32
def incC (seed : Int32) (inc ca : Nat → Int32) : Nat → Nat → Int32
  | 0 => ca
  | p + 1 => upd (incC seed inc ca p) p (incC seed inc ca p p + (if seed = 0 then inc p else drawnI (drawX seed (p + 1)) (inc p)))
/-- all are TO PAY: cash, debts, who has FAILED -/
def alS (N : Nat) (ca de : Nat → Int32) (fa : Int32) : Nat → (Nat → Int32) × (Nat → Int32) × Int32
  | 0 => (ca, de, fa)
  | p + 1 => ((stl p (alS N ca de fa p).1 (alS N ca de fa p).2.1 N).1, (stl p (alS N ca de fa p).1 (alS N ca de fa p).2.1 N).2.1,
      if dsum (stl p (alS N ca de fa p).1 (alS N ca de fa p).2.1 N).2.1 N p = 0 then clrI (if 0 < dsum (alS N ca de fa p).2.1 N p ∧ ¬ 0 < (stl p (alS N ca de fa p).1 (alS N ca de fa p).2.1 N).2.2 then orI (alS N ca de fa p).2.2 p else (alS N ca de fa p).2.2) p
      else (if 0 < dsum (alS N ca de fa p).2.1 N p ∧ ¬ 0 < (stl p (alS N ca de fa p).1 (alS N ca de fa p).2.1 N).2.2 then orI (alS N ca de fa p).2.2 p else (alS N ca de fa p).2.2))
def fgv (un : Int32) (de : Nat → Int32) : Nat → Nat → Int32
  | 0 => de
  | k + 1 => if un ≤ fgv un de k k then fgv un de k else upd (fgv un de k) k (nI 0)
def grw (ra : Int32) (de : Nat → Int32) : Nat → Nat → Int32
  | 0 => de
  | k + 1 => upd (grw ra de k) k (minI (grw ra de k k + ra * grw ra de k k / nI 100) 99999)
def fil (x : Int32) (f : Nat → Int32) : Nat → Nat → Int32
  | 0 => f
  | k + 1 => upd (fil x f k) k x
theorem dX4_drawn_0 : decode cX4_drawn 0 = .ok (.iload_n 2, 1) := by decide +kernel
theorem dX4_drawn_1 : decode cX4_drawn 1 = .ok (.ifCond .ge 7, 3) := by decide +kernel
theorem dX4_drawn_4 : decode cX4_drawn 4 = .ok (.iconst 0, 1) := by decide +kernel
theorem dX4_drawn_5 : decode cX4_drawn 5 = .ok (.goto 10, 3) := by decide +kernel
theorem dX4_drawn_8 : decode cX4_drawn 8 = .ok (.lload_n 0, 1) := by decide +kernel
theorem dX4_drawn_9 : decode cX4_drawn 9 = .ok (.iload_n 2, 1) := by decide +kernel
theorem dX4_drawn_10 : decode cX4_drawn 10 = .ok (.iconst 1, 1) := by decide +kernel
theorem dX4_drawn_11 : decode cX4_drawn 11 = .ok (.iadd, 1) := by decide +kernel
theorem dX4_drawn_12 : decode cX4_drawn 12 = .ok (.i2l, 1) := by decide +kernel
theorem dX4_drawn_13 : decode cX4_drawn 13 = .ok (.lrem, 1) := by decide +kernel
theorem dX4_drawn_14 : decode cX4_drawn 14 = .ok (.l2i, 1) := by decide +kernel
theorem dX4_drawn_15 : decode cX4_drawn 15 = .ok (.ireturn, 1) := by decide +kernel
theorem dX4_incomesCome_0 : decode cX4_incomesCome 0 = .ok (.iload_n 1, 1) := by decide +kernel
theorem dX4_incomesCome_1 : decode cX4_incomesCome 1 = .ok (.i2l, 1) := by decide +kernel
theorem dX4_incomesCome_2 : decode cX4_incomesCome 2 = .ok (.lstore_n 2, 1) := by decide +kernel
theorem dX4_incomesCome_3 : decode cX4_incomesCome 3 = .ok (.iconst 0, 1) := by decide +kernel
theorem dX4_incomesCome_4 : decode cX4_incomesCome 4 = .ok (.istore 4, 2) := by decide +kernel
theorem dX4_incomesCome_6 : decode cX4_incomesCome 6 = .ok (.iload 4, 2) := by decide +kernel
theorem dX4_incomesCome_8 : decode cX4_incomesCome 8 = .ok (.aload_n 0, 1) := by decide +kernel
theorem dX4_incomesCome_9 : decode cX4_incomesCome 9 = .ok (.getfield 34, 3) := by decide +kernel
theorem dX4_incomesCome_12 : decode cX4_incomesCome 12 = .ok (.if_icmp .ge 54, 3) := by decide +kernel
theorem dX4_incomesCome_15 : decode cX4_incomesCome 15 = .ok (.lload_n 2, 1) := by decide +kernel
theorem dX4_incomesCome_16 : decode cX4_incomesCome 16 = .ok (.ldc2_w 97, 3) := by decide +kernel
theorem dX4_incomesCome_19 : decode cX4_incomesCome 19 = .ok (.lmul, 1) := by decide +kernel
theorem dX4_incomesCome_20 : decode cX4_incomesCome 20 = .ok (.ldc2_w 99, 3) := by decide +kernel
theorem dX4_incomesCome_23 : decode cX4_incomesCome 23 = .ok (.lrem, 1) := by decide +kernel
theorem dX4_incomesCome_24 : decode cX4_incomesCome 24 = .ok (.lstore_n 2, 1) := by decide +kernel
theorem dX4_incomesCome_25 : decode cX4_incomesCome 25 = .ok (.aload_n 0, 1) := by decide +kernel
theorem dX4_incomesCome_26 : decode cX4_incomesCome 26 = .ok (.getfield 9, 3) := by decide +kernel
theorem dX4_incomesCome_29 : decode cX4_incomesCome 29 = .ok (.iload 4, 2) := by decide +kernel
theorem dX4_incomesCome_31 : decode cX4_incomesCome 31 = .ok (.dup2, 1) := by decide +kernel
theorem dX4_incomesCome_32 : decode cX4_incomesCome 32 = .ok (.iaload, 1) := by decide +kernel
theorem dX4_incomesCome_33 : decode cX4_incomesCome 33 = .ok (.iload_n 1, 1) := by decide +kernel
theorem dX4_incomesCome_34 : decode cX4_incomesCome 34 = .ok (.ifCond .ne 13, 3) := by decide +kernel
theorem dX4_incomesCome_37 : decode cX4_incomesCome 37 = .ok (.aload_n 0, 1) := by decide +kernel
theorem dX4_incomesCome_38 : decode cX4_incomesCome 38 = .ok (.getfield 15, 3) := by decide +kernel
theorem dX4_incomesCome_41 : decode cX4_incomesCome 41 = .ok (.iload 4, 2) := by decide +kernel
theorem dX4_incomesCome_43 : decode cX4_incomesCome 43 = .ok (.iaload, 1) := by decide +kernel
theorem dX4_incomesCome_44 : decode cX4_incomesCome 44 = .ok (.goto 14, 3) := by decide +kernel
theorem dX4_incomesCome_47 : decode cX4_incomesCome 47 = .ok (.lload_n 2, 1) := by decide +kernel
theorem dX4_incomesCome_48 : decode cX4_incomesCome 48 = .ok (.aload_n 0, 1) := by decide +kernel
theorem dX4_incomesCome_49 : decode cX4_incomesCome 49 = .ok (.getfield 15, 3) := by decide +kernel
theorem dX4_incomesCome_52 : decode cX4_incomesCome 52 = .ok (.iload 4, 2) := by decide +kernel
theorem dX4_incomesCome_54 : decode cX4_incomesCome 54 = .ok (.iaload, 1) := by decide +kernel
theorem dX4_incomesCome_55 : decode cX4_incomesCome 55 = .ok (.invokestatic 101, 3) := by decide +kernel
theorem dX4_incomesCome_58 : decode cX4_incomesCome 58 = .ok (.iadd, 1) := by decide +kernel
theorem dX4_incomesCome_59 : decode cX4_incomesCome 59 = .ok (.iastore, 1) := by decide +kernel
theorem dX4_incomesCome_60 : decode cX4_incomesCome 60 = .ok (.iinc 4 1, 3) := by decide +kernel
theorem dX4_incomesCome_63 : decode cX4_incomesCome 63 = .ok (.goto (-57), 3) := by decide +kernel
theorem dX4_incomesCome_66 : decode cX4_incomesCome 66 = .ok (.return_, 1) := by decide +kernel
theorem dX4_allSettle_0 : decode cX4_allSettle 0 = .ok (.iconst 0, 1) := by decide +kernel
theorem dX4_allSettle_1 : decode cX4_allSettle 1 = .ok (.istore_n 1, 1) := by decide +kernel
theorem dX4_allSettle_2 : decode cX4_allSettle 2 = .ok (.iload_n 1, 1) := by decide +kernel
theorem dX4_allSettle_3 : decode cX4_allSettle 3 = .ok (.aload_n 0, 1) := by decide +kernel
theorem dX4_allSettle_4 : decode cX4_allSettle 4 = .ok (.getfield 34, 3) := by decide +kernel
theorem dX4_allSettle_7 : decode cX4_allSettle 7 = .ok (.if_icmp .ge 79, 3) := by decide +kernel
theorem dX4_allSettle_10 : decode cX4_allSettle 10 = .ok (.aload_n 0, 1) := by decide +kernel
theorem dX4_allSettle_11 : decode cX4_allSettle 11 = .ok (.iload_n 1, 1) := by decide +kernel
theorem dX4_allSettle_12 : decode cX4_allSettle 12 = .ok (.invokevirtual 53, 3) := by decide +kernel
theorem dX4_allSettle_15 : decode cX4_allSettle 15 = .ok (.ifCond .le 7, 3) := by decide +kernel
theorem dX4_allSettle_18 : decode cX4_allSettle 18 = .ok (.iconst 1, 1) := by decide +kernel
theorem dX4_allSettle_19 : decode cX4_allSettle 19 = .ok (.goto 4, 3) := by decide +kernel
theorem dX4_allSettle_22 : decode cX4_allSettle 22 = .ok (.iconst 0, 1) := by decide +kernel
theorem dX4_allSettle_23 : decode cX4_allSettle 23 = .ok (.istore_n 2, 1) := by decide +kernel
theorem dX4_allSettle_24 : decode cX4_allSettle 24 = .ok (.aload_n 0, 1) := by decide +kernel
theorem dX4_allSettle_25 : decode cX4_allSettle 25 = .ok (.iload_n 1, 1) := by decide +kernel
theorem dX4_allSettle_26 : decode cX4_allSettle 26 = .ok (.invokevirtual 78, 3) := by decide +kernel
theorem dX4_allSettle_29 : decode cX4_allSettle 29 = .ok (.ifCond .le 7, 3) := by decide +kernel
theorem dX4_allSettle_32 : decode cX4_allSettle 32 = .ok (.iconst 1, 1) := by decide +kernel
theorem dX4_allSettle_33 : decode cX4_allSettle 33 = .ok (.goto 4, 3) := by decide +kernel
theorem dX4_allSettle_36 : decode cX4_allSettle 36 = .ok (.iconst 0, 1) := by decide +kernel
theorem dX4_allSettle_37 : decode cX4_allSettle 37 = .ok (.istore_n 3, 1) := by decide +kernel
theorem dX4_allSettle_38 : decode cX4_allSettle 38 = .ok (.iload_n 2, 1) := by decide +kernel
theorem dX4_allSettle_39 : decode cX4_allSettle 39 = .ok (.ifCond .eq 19, 3) := by decide +kernel
theorem dX4_allSettle_42 : decode cX4_allSettle 42 = .ok (.iload_n 3, 1) := by decide +kernel
theorem dX4_allSettle_43 : decode cX4_allSettle 43 = .ok (.ifCond .ne 15, 3) := by decide +kernel
theorem dX4_allSettle_46 : decode cX4_allSettle 46 = .ok (.aload_n 0, 1) := by decide +kernel
theorem dX4_allSettle_47 : decode cX4_allSettle 47 = .ok (.dup, 1) := by decide +kernel
theorem dX4_allSettle_48 : decode cX4_allSettle 48 = .ok (.getfield 46, 3) := by decide +kernel
theorem dX4_allSettle_51 : decode cX4_allSettle 51 = .ok (.iconst 1, 1) := by decide +kernel
theorem dX4_allSettle_52 : decode cX4_allSettle 52 = .ok (.iload_n 1, 1) := by decide +kernel
theorem dX4_allSettle_53 : decode cX4_allSettle 53 = .ok (.ishl, 1) := by decide +kernel
theorem dX4_allSettle_54 : decode cX4_allSettle 54 = .ok (.ior, 1) := by decide +kernel
theorem dX4_allSettle_55 : decode cX4_allSettle 55 = .ok (.putfield 46, 3) := by decide +kernel
theorem dX4_allSettle_58 : decode cX4_allSettle 58 = .ok (.aload_n 0, 1) := by decide +kernel
theorem dX4_allSettle_59 : decode cX4_allSettle 59 = .ok (.iload_n 1, 1) := by decide +kernel
theorem dX4_allSettle_60 : decode cX4_allSettle 60 = .ok (.invokevirtual 53, 3) := by decide +kernel
theorem dX4_allSettle_63 : decode cX4_allSettle 63 = .ok (.ifCond .ne 17, 3) := by decide +kernel
theorem dX4_allSettle_66 : decode cX4_allSettle 66 = .ok (.aload_n 0, 1) := by decide +kernel
theorem dX4_allSettle_67 : decode cX4_allSettle 67 = .ok (.dup, 1) := by decide +kernel
theorem dX4_allSettle_68 : decode cX4_allSettle 68 = .ok (.getfield 46, 3) := by decide +kernel
theorem dX4_allSettle_71 : decode cX4_allSettle 71 = .ok (.iconst 1, 1) := by decide +kernel
theorem dX4_allSettle_72 : decode cX4_allSettle 72 = .ok (.iload_n 1, 1) := by decide +kernel
theorem dX4_allSettle_73 : decode cX4_allSettle 73 = .ok (.ishl, 1) := by decide +kernel
theorem dX4_allSettle_74 : decode cX4_allSettle 74 = .ok (.iconst (-1), 1) := by decide +kernel
theorem dX4_allSettle_75 : decode cX4_allSettle 75 = .ok (.ixor, 1) := by decide +kernel
theorem dX4_allSettle_76 : decode cX4_allSettle 76 = .ok (.iand, 1) := by decide +kernel
theorem dX4_allSettle_77 : decode cX4_allSettle 77 = .ok (.putfield 46, 3) := by decide +kernel
theorem dX4_allSettle_80 : decode cX4_allSettle 80 = .ok (.iinc 1 1, 3) := by decide +kernel
theorem dX4_allSettle_83 : decode cX4_allSettle 83 = .ok (.goto (-81), 3) := by decide +kernel
theorem dX4_allSettle_86 : decode cX4_allSettle 86 = .ok (.return_, 1) := by decide +kernel
theorem dX4_smallDebtsAreForgiven_0 : decode cX4_smallDebtsAreForgiven 0 = .ok (.iconst 0, 1) := by decide +kernel
theorem dX4_smallDebtsAreForgiven_1 : decode cX4_smallDebtsAreForgiven 1 = .ok (.istore_n 1, 1) := by decide +kernel
theorem dX4_smallDebtsAreForgiven_2 : decode cX4_smallDebtsAreForgiven 2 = .ok (.iload_n 1, 1) := by decide +kernel
theorem dX4_smallDebtsAreForgiven_3 : decode cX4_smallDebtsAreForgiven 3 = .ok (.bipush 49, 2) := by decide +kernel
theorem dX4_smallDebtsAreForgiven_5 : decode cX4_smallDebtsAreForgiven 5 = .ok (.if_icmp .ge 29, 3) := by decide +kernel
theorem dX4_smallDebtsAreForgiven_8 : decode cX4_smallDebtsAreForgiven 8 = .ok (.aload_n 0, 1) := by decide +kernel
theorem dX4_smallDebtsAreForgiven_9 : decode cX4_smallDebtsAreForgiven 9 = .ok (.getfield 21, 3) := by decide +kernel
theorem dX4_smallDebtsAreForgiven_12 : decode cX4_smallDebtsAreForgiven 12 = .ok (.iload_n 1, 1) := by decide +kernel
theorem dX4_smallDebtsAreForgiven_13 : decode cX4_smallDebtsAreForgiven 13 = .ok (.iaload, 1) := by decide +kernel
theorem dX4_smallDebtsAreForgiven_14 : decode cX4_smallDebtsAreForgiven 14 = .ok (.aload_n 0, 1) := by decide +kernel
theorem dX4_smallDebtsAreForgiven_15 : decode cX4_smallDebtsAreForgiven 15 = .ok (.getfield 24, 3) := by decide +kernel
theorem dX4_smallDebtsAreForgiven_18 : decode cX4_smallDebtsAreForgiven 18 = .ok (.if_icmp .ge 10, 3) := by decide +kernel
theorem dX4_smallDebtsAreForgiven_21 : decode cX4_smallDebtsAreForgiven 21 = .ok (.aload_n 0, 1) := by decide +kernel
theorem dX4_smallDebtsAreForgiven_22 : decode cX4_smallDebtsAreForgiven 22 = .ok (.getfield 21, 3) := by decide +kernel
theorem dX4_smallDebtsAreForgiven_25 : decode cX4_smallDebtsAreForgiven 25 = .ok (.iload_n 1, 1) := by decide +kernel
theorem dX4_smallDebtsAreForgiven_26 : decode cX4_smallDebtsAreForgiven 26 = .ok (.iconst 0, 1) := by decide +kernel
theorem dX4_smallDebtsAreForgiven_27 : decode cX4_smallDebtsAreForgiven 27 = .ok (.iastore, 1) := by decide +kernel
theorem dX4_smallDebtsAreForgiven_28 : decode cX4_smallDebtsAreForgiven 28 = .ok (.iinc 1 1, 3) := by decide +kernel
theorem dX4_smallDebtsAreForgiven_31 : decode cX4_smallDebtsAreForgiven 31 = .ok (.goto (-29), 3) := by decide +kernel
theorem dX4_smallDebtsAreForgiven_34 : decode cX4_smallDebtsAreForgiven 34 = .ok (.return_, 1) := by decide +kernel
theorem dX4_debtsGrow_0 : decode cX4_debtsGrow 0 = .ok (.iconst 0, 1) := by decide +kernel
theorem dX4_debtsGrow_1 : decode cX4_debtsGrow 1 = .ok (.istore_n 1, 1) := by decide +kernel
theorem dX4_debtsGrow_2 : decode cX4_debtsGrow 2 = .ok (.iload_n 1, 1) := by decide +kernel
theorem dX4_debtsGrow_3 : decode cX4_debtsGrow 3 = .ok (.bipush 49, 2) := by decide +kernel
theorem dX4_debtsGrow_5 : decode cX4_debtsGrow 5 = .ok (.if_icmp .ge 41, 3) := by decide +kernel
theorem dX4_debtsGrow_8 : decode cX4_debtsGrow 8 = .ok (.aload_n 0, 1) := by decide +kernel
theorem dX4_debtsGrow_9 : decode cX4_debtsGrow 9 = .ok (.getfield 21, 3) := by decide +kernel
theorem dX4_debtsGrow_12 : decode cX4_debtsGrow 12 = .ok (.iload_n 1, 1) := by decide +kernel
theorem dX4_debtsGrow_13 : decode cX4_debtsGrow 13 = .ok (.aload_n 0, 1) := by decide +kernel
theorem dX4_debtsGrow_14 : decode cX4_debtsGrow 14 = .ok (.getfield 21, 3) := by decide +kernel
theorem dX4_debtsGrow_17 : decode cX4_debtsGrow 17 = .ok (.iload_n 1, 1) := by decide +kernel
theorem dX4_debtsGrow_18 : decode cX4_debtsGrow 18 = .ok (.iaload, 1) := by decide +kernel
theorem dX4_debtsGrow_19 : decode cX4_debtsGrow 19 = .ok (.aload_n 0, 1) := by decide +kernel
theorem dX4_debtsGrow_20 : decode cX4_debtsGrow 20 = .ok (.getfield 37, 3) := by decide +kernel
theorem dX4_debtsGrow_23 : decode cX4_debtsGrow 23 = .ok (.aload_n 0, 1) := by decide +kernel
theorem dX4_debtsGrow_24 : decode cX4_debtsGrow 24 = .ok (.getfield 21, 3) := by decide +kernel
theorem dX4_debtsGrow_27 : decode cX4_debtsGrow 27 = .ok (.iload_n 1, 1) := by decide +kernel
theorem dX4_debtsGrow_28 : decode cX4_debtsGrow 28 = .ok (.iaload, 1) := by decide +kernel
theorem dX4_debtsGrow_29 : decode cX4_debtsGrow 29 = .ok (.imul, 1) := by decide +kernel
theorem dX4_debtsGrow_30 : decode cX4_debtsGrow 30 = .ok (.bipush 100, 2) := by decide +kernel
theorem dX4_debtsGrow_32 : decode cX4_debtsGrow 32 = .ok (.idiv, 1) := by decide +kernel
theorem dX4_debtsGrow_33 : decode cX4_debtsGrow 33 = .ok (.iadd, 1) := by decide +kernel
theorem dX4_debtsGrow_34 : decode cX4_debtsGrow 34 = .ok (.ldc 105, 2) := by decide +kernel
theorem dX4_debtsGrow_36 : decode cX4_debtsGrow 36 = .ok (.invokestatic 57, 3) := by decide +kernel
theorem dX4_debtsGrow_39 : decode cX4_debtsGrow 39 = .ok (.iastore, 1) := by decide +kernel
theorem dX4_debtsGrow_40 : decode cX4_debtsGrow 40 = .ok (.iinc 1 1, 3) := by decide +kernel
theorem dX4_debtsGrow_43 : decode cX4_debtsGrow 43 = .ok (.goto (-41), 3) := by decide +kernel
theorem dX4_debtsGrow_46 : decode cX4_debtsGrow 46 = .ok (.return_, 1) := by decide +kernel
theorem dX4_becomesEmpty_0 : decode cX4_becomesEmpty 0 = .ok (.iconst 0, 1) := by decide +kernel
theorem dX4_becomesEmpty_1 : decode cX4_becomesEmpty 1 = .ok (.istore_n 1, 1) := by decide +kernel
theorem dX4_becomesEmpty_2 : decode cX4_becomesEmpty 2 = .ok (.iload_n 1, 1) := by decide +kernel
theorem dX4_becomesEmpty_3 : decode cX4_becomesEmpty 3 = .ok (.bipush 49, 2) := by decide +kernel
theorem dX4_becomesEmpty_5 : decode cX4_becomesEmpty 5 = .ok (.if_icmp .ge 16, 3) := by decide +kernel
theorem dX4_becomesEmpty_8 : decode cX4_becomesEmpty 8 = .ok (.aload_n 0, 1) := by decide +kernel
theorem dX4_becomesEmpty_9 : decode cX4_becomesEmpty 9 = .ok (.getfield 21, 3) := by decide +kernel
theorem dX4_becomesEmpty_12 : decode cX4_becomesEmpty 12 = .ok (.iload_n 1, 1) := by decide +kernel
theorem dX4_becomesEmpty_13 : decode cX4_becomesEmpty 13 = .ok (.iconst 0, 1) := by decide +kernel
theorem dX4_becomesEmpty_14 : decode cX4_becomesEmpty 14 = .ok (.iastore, 1) := by decide +kernel
theorem dX4_becomesEmpty_15 : decode cX4_becomesEmpty 15 = .ok (.iinc 1 1, 3) := by decide +kernel
theorem dX4_becomesEmpty_18 : decode cX4_becomesEmpty 18 = .ok (.goto (-16), 3) := by decide +kernel
theorem dX4_becomesEmpty_21 : decode cX4_becomesEmpty 21 = .ok (.aload_n 0, 1) := by decide +kernel
theorem dX4_becomesEmpty_22 : decode cX4_becomesEmpty 22 = .ok (.iconst 0, 1) := by decide +kernel
theorem dX4_becomesEmpty_23 : decode cX4_becomesEmpty 23 = .ok (.putfield 34, 3) := by decide +kernel
theorem dX4_becomesEmpty_26 : decode cX4_becomesEmpty 26 = .ok (.aload_n 0, 1) := by decide +kernel
theorem dX4_becomesEmpty_27 : decode cX4_becomesEmpty 27 = .ok (.iconst 1, 1) := by decide +kernel
theorem dX4_becomesEmpty_28 : decode cX4_becomesEmpty 28 = .ok (.putfield 24, 3) := by decide +kernel
theorem dX4_becomesEmpty_31 : decode cX4_becomesEmpty 31 = .ok (.aload_n 0, 1) := by decide +kernel
theorem dX4_becomesEmpty_32 : decode cX4_becomesEmpty 32 = .ok (.iconst 0, 1) := by decide +kernel
theorem dX4_becomesEmpty_33 : decode cX4_becomesEmpty 33 = .ok (.putfield 37, 3) := by decide +kernel
theorem dX4_becomesEmpty_36 : decode cX4_becomesEmpty 36 = .ok (.aload_n 0, 1) := by decide +kernel
theorem dX4_becomesEmpty_37 : decode cX4_becomesEmpty 37 = .ok (.iconst 0, 1) := by decide +kernel
theorem dX4_becomesEmpty_38 : decode cX4_becomesEmpty 38 = .ok (.putfield 40, 3) := by decide +kernel
theorem dX4_becomesEmpty_41 : decode cX4_becomesEmpty 41 = .ok (.aload_n 0, 1) := by decide +kernel
theorem dX4_becomesEmpty_42 : decode cX4_becomesEmpty 42 = .ok (.iconst 0, 1) := by decide +kernel
theorem dX4_becomesEmpty_43 : decode cX4_becomesEmpty 43 = .ok (.putfield 43, 3) := by decide +kernel
theorem dX4_becomesEmpty_46 : decode cX4_becomesEmpty 46 = .ok (.aload_n 0, 1) := by decide +kernel
theorem dX4_becomesEmpty_47 : decode cX4_becomesEmpty 47 = .ok (.iconst 0, 1) := by decide +kernel
theorem dX4_becomesEmpty_48 : decode cX4_becomesEmpty 48 = .ok (.putfield 46, 3) := by decide +kernel
theorem dX4_becomesEmpty_51 : decode cX4_becomesEmpty 51 = .ok (.return_, 1) := by decide +kernel
theorem dX4_becomes_0 : decode cX4_becomes 0 = .ok (.aload_n 1, 1) := by decide +kernel
theorem dX4_becomes_1 : decode cX4_becomes 1 = .ok (.getfield 9, 3) := by decide +kernel
theorem dX4_becomes_4 : decode cX4_becomes 4 = .ok (.iconst 0, 1) := by decide +kernel
theorem dX4_becomes_5 : decode cX4_becomes 5 = .ok (.aload_n 0, 1) := by decide +kernel
theorem dX4_becomes_6 : decode cX4_becomes 6 = .ok (.getfield 9, 3) := by decide +kernel
theorem dX4_becomes_9 : decode cX4_becomes 9 = .ok (.iconst 0, 1) := by decide +kernel
theorem dX4_becomes_10 : decode cX4_becomes 10 = .ok (.bipush 7, 2) := by decide +kernel
theorem dX4_becomes_12 : decode cX4_becomes 12 = .ok (.invokestatic 28, 3) := by decide +kernel
theorem dX4_becomes_15 : decode cX4_becomes 15 = .ok (.aload_n 1, 1) := by decide +kernel
theorem dX4_becomes_16 : decode cX4_becomes 16 = .ok (.getfield 15, 3) := by decide +kernel
theorem dX4_becomes_19 : decode cX4_becomes 19 = .ok (.iconst 0, 1) := by decide +kernel
theorem dX4_becomes_20 : decode cX4_becomes 20 = .ok (.aload_n 0, 1) := by decide +kernel
theorem dX4_becomes_21 : decode cX4_becomes 21 = .ok (.getfield 15, 3) := by decide +kernel
theorem dX4_becomes_24 : decode cX4_becomes 24 = .ok (.iconst 0, 1) := by decide +kernel
theorem dX4_becomes_25 : decode cX4_becomes 25 = .ok (.bipush 7, 2) := by decide +kernel
theorem dX4_becomes_27 : decode cX4_becomes 27 = .ok (.invokestatic 28, 3) := by decide +kernel
theorem dX4_becomes_30 : decode cX4_becomes 30 = .ok (.aload_n 1, 1) := by decide +kernel
theorem dX4_becomes_31 : decode cX4_becomes 31 = .ok (.getfield 18, 3) := by decide +kernel
theorem dX4_becomes_34 : decode cX4_becomes 34 = .ok (.iconst 0, 1) := by decide +kernel
theorem dX4_becomes_35 : decode cX4_becomes 35 = .ok (.aload_n 0, 1) := by decide +kernel
theorem dX4_becomes_36 : decode cX4_becomes 36 = .ok (.getfield 18, 3) := by decide +kernel
theorem dX4_becomes_39 : decode cX4_becomes 39 = .ok (.iconst 0, 1) := by decide +kernel
theorem dX4_becomes_40 : decode cX4_becomes 40 = .ok (.bipush 7, 2) := by decide +kernel
theorem dX4_becomes_42 : decode cX4_becomes 42 = .ok (.invokestatic 28, 3) := by decide +kernel
theorem dX4_becomes_45 : decode cX4_becomes 45 = .ok (.aload_n 1, 1) := by decide +kernel
theorem dX4_becomes_46 : decode cX4_becomes 46 = .ok (.getfield 21, 3) := by decide +kernel
theorem dX4_becomes_49 : decode cX4_becomes 49 = .ok (.iconst 0, 1) := by decide +kernel
theorem dX4_becomes_50 : decode cX4_becomes 50 = .ok (.aload_n 0, 1) := by decide +kernel
theorem dX4_becomes_51 : decode cX4_becomes 51 = .ok (.getfield 21, 3) := by decide +kernel
theorem dX4_becomes_54 : decode cX4_becomes 54 = .ok (.iconst 0, 1) := by decide +kernel
theorem dX4_becomes_55 : decode cX4_becomes 55 = .ok (.bipush 49, 2) := by decide +kernel
theorem dX4_becomes_57 : decode cX4_becomes 57 = .ok (.invokestatic 28, 3) := by decide +kernel
theorem dX4_becomes_60 : decode cX4_becomes 60 = .ok (.aload_n 0, 1) := by decide +kernel
theorem dX4_becomes_61 : decode cX4_becomes 61 = .ok (.aload_n 1, 1) := by decide +kernel
theorem dX4_becomes_62 : decode cX4_becomes 62 = .ok (.getfield 34, 3) := by decide +kernel
theorem dX4_becomes_65 : decode cX4_becomes 65 = .ok (.putfield 34, 3) := by decide +kernel
theorem dX4_becomes_68 : decode cX4_becomes 68 = .ok (.aload_n 0, 1) := by decide +kernel
theorem dX4_becomes_69 : decode cX4_becomes 69 = .ok (.aload_n 1, 1) := by decide +kernel
theorem dX4_becomes_70 : decode cX4_becomes 70 = .ok (.getfield 24, 3) := by decide +kernel
theorem dX4_becomes_73 : decode cX4_becomes 73 = .ok (.putfield 24, 3) := by decide +kernel
theorem dX4_becomes_76 : decode cX4_becomes 76 = .ok (.aload_n 0, 1) := by decide +kernel
theorem dX4_becomes_77 : decode cX4_becomes 77 = .ok (.aload_n 1, 1) := by decide +kernel
theorem dX4_becomes_78 : decode cX4_becomes 78 = .ok (.getfield 37, 3) := by decide +kernel
theorem dX4_becomes_81 : decode cX4_becomes 81 = .ok (.putfield 37, 3) := by decide +kernel
theorem dX4_becomes_84 : decode cX4_becomes 84 = .ok (.aload_n 0, 1) := by decide +kernel
theorem dX4_becomes_85 : decode cX4_becomes 85 = .ok (.aload_n 1, 1) := by decide +kernel
theorem dX4_becomes_86 : decode cX4_becomes 86 = .ok (.getfield 40, 3) := by decide +kernel
theorem dX4_becomes_89 : decode cX4_becomes 89 = .ok (.putfield 40, 3) := by decide +kernel
theorem dX4_becomes_92 : decode cX4_becomes 92 = .ok (.aload_n 0, 1) := by decide +kernel
theorem dX4_becomes_93 : decode cX4_becomes 93 = .ok (.aload_n 1, 1) := by decide +kernel
theorem dX4_becomes_94 : decode cX4_becomes 94 = .ok (.getfield 43, 3) := by decide +kernel
theorem dX4_becomes_97 : decode cX4_becomes 97 = .ok (.putfield 43, 3) := by decide +kernel
theorem dX4_becomes_100 : decode cX4_becomes 100 = .ok (.aload_n 0, 1) := by decide +kernel
theorem dX4_becomes_101 : decode cX4_becomes 101 = .ok (.aload_n 1, 1) := by decide +kernel
theorem dX4_becomes_102 : decode cX4_becomes 102 = .ok (.getfield 46, 3) := by decide +kernel
theorem dX4_becomes_105 : decode cX4_becomes 105 = .ok (.putfield 46, 3) := by decide +kernel
theorem dX4_becomes_108 : decode cX4_becomes 108 = .ok (.return_, 1) := by decide +kernel
theorem dX4_settlesIn_0 : decode cX4_settlesIn 0 = .ok (.aload_n 0, 1) := by decide +kernel
theorem dX4_settlesIn_1 : decode cX4_settlesIn 1 = .ok (.getfield 34, 3) := by decide +kernel
theorem dX4_settlesIn_4 : decode cX4_settlesIn 4 = .ok (.bipush 7, 2) := by decide +kernel
theorem dX4_settlesIn_6 : decode cX4_settlesIn 6 = .ok (.if_icmp .lt 4, 3) := by decide +kernel
theorem dX4_settlesIn_9 : decode cX4_settlesIn 9 = .ok (.return_, 1) := by decide +kernel
theorem dX4_settlesIn_10 : decode cX4_settlesIn 10 = .ok (.aload_n 0, 1) := by decide +kernel
theorem dX4_settlesIn_11 : decode cX4_settlesIn 11 = .ok (.getfield 9, 3) := by decide +kernel
theorem dX4_settlesIn_14 : decode cX4_settlesIn 14 = .ok (.aload_n 0, 1) := by decide +kernel
theorem dX4_settlesIn_15 : decode cX4_settlesIn 15 = .ok (.getfield 34, 3) := by decide +kernel
theorem dX4_settlesIn_18 : decode cX4_settlesIn 18 = .ok (.iload_n 1, 1) := by decide +kernel
theorem dX4_settlesIn_19 : decode cX4_settlesIn 19 = .ok (.iastore, 1) := by decide +kernel
theorem dX4_settlesIn_20 : decode cX4_settlesIn 20 = .ok (.aload_n 0, 1) := by decide +kernel
theorem dX4_settlesIn_21 : decode cX4_settlesIn 21 = .ok (.getfield 15, 3) := by decide +kernel
theorem dX4_settlesIn_24 : decode cX4_settlesIn 24 = .ok (.aload_n 0, 1) := by decide +kernel
theorem dX4_settlesIn_25 : decode cX4_settlesIn 25 = .ok (.getfield 34, 3) := by decide +kernel
theorem dX4_settlesIn_28 : decode cX4_settlesIn 28 = .ok (.iload_n 2, 1) := by decide +kernel
theorem dX4_settlesIn_29 : decode cX4_settlesIn 29 = .ok (.iastore, 1) := by decide +kernel
theorem dX4_settlesIn_30 : decode cX4_settlesIn 30 = .ok (.aload_n 0, 1) := by decide +kernel
theorem dX4_settlesIn_31 : decode cX4_settlesIn 31 = .ok (.getfield 18, 3) := by decide +kernel
theorem dX4_settlesIn_34 : decode cX4_settlesIn 34 = .ok (.aload_n 0, 1) := by decide +kernel
theorem dX4_settlesIn_35 : decode cX4_settlesIn 35 = .ok (.getfield 34, 3) := by decide +kernel
theorem dX4_settlesIn_38 : decode cX4_settlesIn 38 = .ok (.iconst (-1), 1) := by decide +kernel
theorem dX4_settlesIn_39 : decode cX4_settlesIn 39 = .ok (.iastore, 1) := by decide +kernel
theorem dX4_settlesIn_40 : decode cX4_settlesIn 40 = .ok (.iload_n 3, 1) := by decide +kernel
theorem dX4_settlesIn_41 : decode cX4_settlesIn 41 = .ok (.ifCond .eq 18, 3) := by decide +kernel
theorem dX4_settlesIn_44 : decode cX4_settlesIn 44 = .ok (.aload_n 0, 1) := by decide +kernel
theorem dX4_settlesIn_45 : decode cX4_settlesIn 45 = .ok (.dup, 1) := by decide +kernel
theorem dX4_settlesIn_46 : decode cX4_settlesIn 46 = .ok (.getfield 43, 3) := by decide +kernel
theorem dX4_settlesIn_49 : decode cX4_settlesIn 49 = .ok (.iconst 1, 1) := by decide +kernel
theorem dX4_settlesIn_50 : decode cX4_settlesIn 50 = .ok (.aload_n 0, 1) := by decide +kernel
theorem dX4_settlesIn_51 : decode cX4_settlesIn 51 = .ok (.getfield 34, 3) := by decide +kernel
theorem dX4_settlesIn_54 : decode cX4_settlesIn 54 = .ok (.ishl, 1) := by decide +kernel
theorem dX4_settlesIn_55 : decode cX4_settlesIn 55 = .ok (.ior, 1) := by decide +kernel
theorem dX4_settlesIn_56 : decode cX4_settlesIn 56 = .ok (.putfield 43, 3) := by decide +kernel
theorem dX4_settlesIn_59 : decode cX4_settlesIn 59 = .ok (.aload_n 0, 1) := by decide +kernel
theorem dX4_settlesIn_60 : decode cX4_settlesIn 60 = .ok (.dup, 1) := by decide +kernel
theorem dX4_settlesIn_61 : decode cX4_settlesIn 61 = .ok (.getfield 34, 3) := by decide +kernel
theorem dX4_settlesIn_64 : decode cX4_settlesIn 64 = .ok (.iconst 1, 1) := by decide +kernel
theorem dX4_settlesIn_65 : decode cX4_settlesIn 65 = .ok (.iadd, 1) := by decide +kernel
theorem dX4_settlesIn_66 : decode cX4_settlesIn 66 = .ok (.putfield 34, 3) := by decide +kernel
theorem dX4_settlesIn_69 : decode cX4_settlesIn 69 = .ok (.return_, 1) := by decide +kernel
theorem dX4_passQuarter_0 : decode cX4_passQuarter 0 = .ok (.aload_n 0, 1) := by decide +kernel
theorem dX4_passQuarter_1 : decode cX4_passQuarter 1 = .ok (.dup, 1) := by decide +kernel
theorem dX4_passQuarter_2 : decode cX4_passQuarter 2 = .ok (.getfield 40, 3) := by decide +kernel
theorem dX4_passQuarter_5 : decode cX4_passQuarter 5 = .ok (.iconst 1, 1) := by decide +kernel
theorem dX4_passQuarter_6 : decode cX4_passQuarter 6 = .ok (.iadd, 1) := by decide +kernel
theorem dX4_passQuarter_7 : decode cX4_passQuarter 7 = .ok (.putfield 40, 3) := by decide +kernel
theorem dX4_passQuarter_10 : decode cX4_passQuarter 10 = .ok (.aload_n 0, 1) := by decide +kernel
theorem dX4_passQuarter_11 : decode cX4_passQuarter 11 = .ok (.iload_n 1, 1) := by decide +kernel
theorem dX4_passQuarter_12 : decode cX4_passQuarter 12 = .ok (.invokevirtual 84, 3) := by decide +kernel
theorem dX4_passQuarter_15 : decode cX4_passQuarter 15 = .ok (.aload_n 0, 1) := by decide +kernel
theorem dX4_passQuarter_16 : decode cX4_passQuarter 16 = .ok (.invokevirtual 88, 3) := by decide +kernel
theorem dX4_passQuarter_19 : decode cX4_passQuarter 19 = .ok (.aload_n 0, 1) := by decide +kernel
theorem dX4_passQuarter_20 : decode cX4_passQuarter 20 = .ok (.getfield 40, 3) := by decide +kernel
theorem dX4_passQuarter_23 : decode cX4_passQuarter 23 = .ok (.bipush 9, 2) := by decide +kernel
theorem dX4_passQuarter_25 : decode cX4_passQuarter 25 = .ok (.irem, 1) := by decide +kernel
theorem dX4_passQuarter_26 : decode cX4_passQuarter 26 = .ok (.ifCond .ne 10, 3) := by decide +kernel
theorem dX4_passQuarter_29 : decode cX4_passQuarter 29 = .ok (.aload_n 0, 1) := by decide +kernel
theorem dX4_passQuarter_30 : decode cX4_passQuarter 30 = .ok (.invokevirtual 91, 3) := by decide +kernel
theorem dX4_passQuarter_33 : decode cX4_passQuarter 33 = .ok (.goto 7, 3) := by decide +kernel
theorem dX4_passQuarter_36 : decode cX4_passQuarter 36 = .ok (.aload_n 0, 1) := by decide +kernel
theorem dX4_passQuarter_37 : decode cX4_passQuarter 37 = .ok (.invokevirtual 94, 3) := by decide +kernel
theorem dX4_passQuarter_40 : decode cX4_passQuarter 40 = .ok (.iconst 0, 1) := by decide +kernel
theorem dX4_passQuarter_41 : decode cX4_passQuarter 41 = .ok (.istore_n 2, 1) := by decide +kernel
theorem dX4_passQuarter_42 : decode cX4_passQuarter 42 = .ok (.iload_n 2, 1) := by decide +kernel
theorem dX4_passQuarter_43 : decode cX4_passQuarter 43 = .ok (.aload_n 0, 1) := by decide +kernel
theorem dX4_passQuarter_44 : decode cX4_passQuarter 44 = .ok (.getfield 34, 3) := by decide +kernel
theorem dX4_passQuarter_47 : decode cX4_passQuarter 47 = .ok (.if_icmp .ge 16, 3) := by decide +kernel
theorem dX4_passQuarter_50 : decode cX4_passQuarter 50 = .ok (.aload_n 0, 1) := by decide +kernel
theorem dX4_passQuarter_51 : decode cX4_passQuarter 51 = .ok (.getfield 18, 3) := by decide +kernel
theorem dX4_passQuarter_54 : decode cX4_passQuarter 54 = .ok (.iload_n 2, 1) := by decide +kernel
theorem dX4_passQuarter_55 : decode cX4_passQuarter 55 = .ok (.iconst (-1), 1) := by decide +kernel
theorem dX4_passQuarter_56 : decode cX4_passQuarter 56 = .ok (.iastore, 1) := by decide +kernel
theorem dX4_passQuarter_57 : decode cX4_passQuarter 57 = .ok (.iinc 2 1, 3) := by decide +kernel
theorem dX4_passQuarter_60 : decode cX4_passQuarter 60 = .ok (.goto (-18), 3) := by decide +kernel
theorem dX4_passQuarter_63 : decode cX4_passQuarter 63 = .ok (.return_, 1) := by decide +kernel
section T4
variable (G : GG) (z : Nat) (σ : AH) (t : Nat) (ca inc pa de : Nat → Int32) (pe un ra qu hi fa : Int32)
theorem c_seenFrom {N u : Nat} (x : Int32) (hN : N ≤ 7) (hu : 1 ≤ u) (hu2 : u ≤ 20) : Ct G yX4_seenFrom cX4_seenFrom 4 (some .int) 5 0 0 z (tw σ t ca inc pa de (nI N) (nI u) ra qu hi fa) [.ref t, .int x] (some (.int (seenI pa de hi x N u N))) z (tw σ t ca inc pa de (nI N) (nI u) ra qu hi fa) := by
  refine Ct.ofJ RX4 rfl [some (.ref t), some (.int x), none, none] rfl (by decide) (by simp [Value.category]) ?_
  refine j_iconst (nI 0) dX4_seenFrom_0 rfl ?_
  refine j_istore_n dX4_seenFrom_1 rfl (Nat.le_of_ble_eq_true rfl) rfl ?_
  refine j_iconst (nI 0) dX4_seenFrom_2 rfl ?_
  refine j_istore_n dX4_seenFrom_3 rfl (Nat.le_of_ble_eq_true rfl) rfl ?_
  skip
  suffices H : ∀ (ki i : Nat), i ≤ N → N < i + ki → J G RX4 cX4_seenFrom 4 (some .int) (TQ G 5 0 0 (some (.int (seenI pa de hi x N u N))) z (tw σ t ca inc pa de (nI N) (nI u) ra qu hi fa)) z (tw σ t ca inc pa de (nI N) (nI u) ra qu hi fa) 0 0 4 [some (.ref t), some (.int x), some (.int (seenI pa de hi x N u i)), some (.int (nI i))] [] from H (N + 1) 0 (by omega) (by omega)
  intro ki
  induction ki with
  | zero => intro i h1i h2i; exact absurd h2i (by omega)
  | succ ki ih =>
    intro i h1i h2i
    have e1 : seenI pa de hi x N u (i + 1) = if bitI hi (nI i) = 0 ∧ x ≤ lks pa de N u i then orI (seenI pa de hi x N u i) i else seenI pa de hi x N u i := rfl
    refine j_iload_n dX4_seenFrom_4 rfl rfl ?_
    refine j_aload_n dX4_seenFrom_5 rfl rfl ?_
    refine j_getf dX4_seenFrom_6 4 4 rfl (Nat.le_of_ble_eq_true rfl) fl_X4_34 in_4 (by first | exact tw_o | exact tw_c | exact tw_i | exact tw_p | exact tw_d) rfl ?_
    refine j_icmp_geN 44 dX4_seenFrom_9 (by decide) (by omega) (by omega) (fun b9 => ?_) (fun b9 => ?_)
    · obtain rfl : i = N := by omega
      refine j_iload_n dX4_seenFrom_44 rfl rfl ?_
      exact j_iret rfl dX4_seenFrom_45 rfl rfl (Nat.le_of_ble_eq_true rfl) (Nat.le_of_ble_eq_true rfl)
    · refine j_aload_n dX4_seenFrom_12 rfl rfl ?_
      refine j_getf dX4_seenFrom_13 4 8 rfl (Nat.le_of_ble_eq_true rfl) fl_X4_43 in_4 (by first | exact tw_o | exact tw_c | exact tw_i | exact tw_p | exact tw_d) rfl ?_
      refine j_iload_n dX4_seenFrom_16 rfl rfl ?_
      refine j_bitOf rfl (c_bitOf G z _ hi (nI i)) dX4_seenFrom_17 rfl mn_bitOf ⟨(Nat.le_of_ble_eq_true rfl), (Nat.le_of_ble_eq_true rfl)⟩ ⟨(Nat.le_of_ble_eq_true rfl), (Nat.le_of_ble_eq_true rfl)⟩ (Nat.le_of_ble_eq_true rfl) ?_
      refine j_if_ne 38 dX4_seenFrom_20 (by decide) (fun b20 => ?_) (fun b20 => ?_)
      · first | refine j_iincN dX4_seenFrom_38 rfl (Nat.le_of_ble_eq_true rfl) rfl ?_ | refine j_iinc _ dX4_seenFrom_38 rfl rfl (Nat.le_of_ble_eq_true rfl) rfl ?_
        refine j_goto 4 dX4_seenFrom_41 (by decide) ?_
        have ih2 := ih (i + 1) (by omega) (by omega)
        first | (rw [e1, if_neg (fun q => b20 q.1)] at ih2; exact ih2) | (rw [e1, if_neg (fun q => absurd q.2 (Int32.not_le.mpr b29))] at ih2; exact ih2) | (rw [e1, if_pos ⟨b20, Int32.not_lt.mp b29⟩] at ih2; exact ih2)
      · refine j_aload_n dX4_seenFrom_23 rfl rfl ?_
        refine j_iload_n dX4_seenFrom_24 rfl rfl ?_
        refine j_callV (c_looksOf G z σ t ca inc pa de ra qu hi fa hN (by omega) hu hu2) dX4_seenFrom_25 rfl mv_X4_81 (by first | exact tw_o | exact tw_c | exact tw_i | exact tw_p | exact tw_d) rfl ⟨(Nat.le_of_ble_eq_true rfl), (Nat.le_of_ble_eq_true rfl)⟩ ⟨(Nat.le_of_ble_eq_true rfl), (Nat.le_of_ble_eq_true rfl)⟩ (Nat.le_of_ble_eq_true rfl) ?_
        refine j_iload_n dX4_seenFrom_28 rfl rfl ?_
        refine j_icmp_lt 38 dX4_seenFrom_29 (by decide) (fun b29 => ?_) (fun b29 => ?_)
        · first | refine j_iincN dX4_seenFrom_38 rfl (Nat.le_of_ble_eq_true rfl) rfl ?_ | refine j_iinc _ dX4_seenFrom_38 rfl rfl (Nat.le_of_ble_eq_true rfl) rfl ?_
          refine j_goto 4 dX4_seenFrom_41 (by decide) ?_
          have ih2 := ih (i + 1) (by omega) (by omega)
          first | (rw [e1, if_neg (fun q => b20 q.1)] at ih2; exact ih2) | (rw [e1, if_neg (fun q => absurd q.2 (Int32.not_le.mpr b29))] at ih2; exact ih2) | (rw [e1, if_pos ⟨b20, Int32.not_lt.mp b29⟩] at ih2; exact ih2)
        · refine j_iload_n dX4_seenFrom_32 rfl rfl ?_
          refine j_iconst (nI 1) dX4_seenFrom_33 rfl ?_
          refine j_iload_n dX4_seenFrom_34 rfl rfl ?_
          refine j_ishl dX4_seenFrom_35 ?_
          refine j_ior dX4_seenFrom_36 ?_
          refine j_istore_n dX4_seenFrom_37 rfl (Nat.le_of_ble_eq_true rfl) rfl ?_
          first | refine j_iincN dX4_seenFrom_38 rfl (Nat.le_of_ble_eq_true rfl) rfl ?_ | refine j_iinc _ dX4_seenFrom_38 rfl rfl (Nat.le_of_ble_eq_true rfl) rfl ?_
          refine j_goto 4 dX4_seenFrom_41 (by decide) ?_
          have ih2 := ih (i + 1) (by omega) (by omega)
          first | (rw [e1, if_neg (fun q => b20 q.1)] at ih2; exact ih2) | (rw [e1, if_neg (fun q => absurd q.2 (Int32.not_le.mpr b29))] at ih2; exact ih2) | (rw [e1, if_pos ⟨b20, Int32.not_lt.mp b29⟩] at ih2; exact ih2)
theorem c_debtsAboveNone {N : Nat} (hN : N ≤ 7) : Ct G yX4_debtsAboveNone cX4_debtsAboveNone 4 (some .int) 2 0 0 z (tw σ t ca inc pa de (nI N) un ra qu hi fa) [.ref t] (some (.int (nI (cntDs de N N)))) z (tw σ t ca inc pa de (nI N) un ra qu hi fa) := by
  refine Ct.ofJ RX4 rfl [some (.ref t), none, none, none] rfl (by decide) (by simp [Value.category]) ?_
  refine j_iconst (nI 0) dX4_debtsAboveNone_0 rfl ?_
  refine j_istore_n dX4_debtsAboveNone_1 rfl (Nat.le_of_ble_eq_true rfl) rfl ?_
  refine j_iconst (nI 0) dX4_debtsAboveNone_2 rfl ?_
  refine j_istore_n dX4_debtsAboveNone_3 rfl (Nat.le_of_ble_eq_true rfl) rfl ?_
  suffices H : ∀ (k a : Nat) (o : Option Value), a ≤ N → N < a + k → J G RX4 cX4_debtsAboveNone 4 (some .int) (TQ G 2 0 0 (some (.int (nI (cntDs de N N)))) z (tw σ t ca inc pa de (nI N) un ra qu hi fa)) z (tw σ t ca inc pa de (nI N) un ra qu hi fa) 0 0 4 [some (.ref t), some (.int (nI (cntDs de N a))), some (.int (nI a)), o] [] from H (N + 1) 0 none (by omega) (by omega)
  intro k
  induction k with
  | zero => intro a o h1 h2; exact absurd h2 (by omega)
  | succ k ih =>
    intro a o h1 h2
    refine j_iload_n dX4_debtsAboveNone_4 rfl rfl ?_
    refine j_aload_n dX4_debtsAboveNone_5 rfl rfl ?_
    refine j_getf dX4_debtsAboveNone_6 4 4 rfl (Nat.le_of_ble_eq_true rfl) fl_X4_34 in_4 (by first | exact tw_o | exact tw_c | exact tw_i | exact tw_p | exact tw_d) rfl ?_
    refine j_icmp_geN 46 dX4_debtsAboveNone_9 (by decide) (by omega) (by omega) (fun b9 => ?_) (fun b9 => ?_)
    · obtain rfl : a = N := by omega
      refine j_iload_n dX4_debtsAboveNone_46 rfl rfl ?_
      exact j_iret rfl dX4_debtsAboveNone_47 rfl rfl (Nat.le_of_ble_eq_true rfl) (Nat.le_of_ble_eq_true rfl)
    · refine j_iconst (nI 0) dX4_debtsAboveNone_12 rfl ?_
      refine j_istore_n dX4_debtsAboveNone_13 rfl (Nat.le_of_ble_eq_true rfl) rfl ?_
      skip
      suffices H2 : ∀ (kb b : Nat), b ≤ N → N < b + kb → J G RX4 cX4_debtsAboveNone 4 (some .int) (TQ G 2 0 0 (some (.int (nI (cntDs de N N)))) z (tw σ t ca inc pa de (nI N) un ra qu hi fa)) z (tw σ t ca inc pa de (nI N) un ra qu hi fa) 0 0 14 [some (.ref t), some (.int (nI (cntD de N a (cntDs de N a) b))), some (.int (nI a)), some (.int (nI b))] [] from H2 (N + 1) 0 (by omega) (by omega)
      intro kb
      induction kb with
      | zero => intro b h1b h2b; exact absurd h2b (by omega)
      | succ kb ih2 =>
        intro b h1b h2b
        have e1 : cntD de N a (cntDs de N a) (b + 1) = if 0 < de (a * 7 + b) then cntD de N a (cntDs de N a) b + 1 else cntD de N a (cntDs de N a) b := rfl
        refine j_iload_n dX4_debtsAboveNone_14 rfl rfl ?_
        refine j_aload_n dX4_debtsAboveNone_15 rfl rfl ?_
        refine j_getf dX4_debtsAboveNone_16 4 4 rfl (Nat.le_of_ble_eq_true rfl) fl_X4_34 in_4 (by first | exact tw_o | exact tw_c | exact tw_i | exact tw_p | exact tw_d) rfl ?_
        refine j_icmp_geN 40 dX4_debtsAboveNone_19 (by decide) (by omega) (by omega) (fun b19 => ?_) (fun b19 => ?_)
        · obtain rfl : b = N := by omega
          first | refine j_iincN dX4_debtsAboveNone_40 rfl (Nat.le_of_ble_eq_true rfl) rfl ?_ | refine j_iinc _ dX4_debtsAboveNone_40 rfl rfl (Nat.le_of_ble_eq_true rfl) rfl ?_
          refine j_goto 4 dX4_debtsAboveNone_43 (by decide) ?_
          exact ih (a + 1) _ (by omega) (by omega)
        · refine j_aload_n dX4_debtsAboveNone_22 rfl rfl ?_
          refine j_iload_n dX4_debtsAboveNone_23 rfl rfl ?_
          refine j_iload_n dX4_debtsAboveNone_24 rfl rfl ?_
          refine j_callV (c_debtOf G z σ t ca inc pa de (nI N) un ra qu hi fa (by omega)) dX4_debtsAboveNone_25 rfl mv_X4_49 (by first | exact tw_o | exact tw_c | exact tw_i | exact tw_p | exact tw_d) rfl ⟨(Nat.le_of_ble_eq_true rfl), (Nat.le_of_ble_eq_true rfl)⟩ ⟨(Nat.le_of_ble_eq_true rfl), (Nat.le_of_ble_eq_true rfl)⟩ (Nat.le_of_ble_eq_true rfl) ?_
          refine j_if_le 34 dX4_debtsAboveNone_28 (by decide) (fun b28 => ?_) (fun b28 => ?_)
          · first | refine j_iincN dX4_debtsAboveNone_34 rfl (Nat.le_of_ble_eq_true rfl) rfl ?_ | refine j_iinc _ dX4_debtsAboveNone_34 rfl rfl (Nat.le_of_ble_eq_true rfl) rfl ?_
            refine j_goto 14 dX4_debtsAboveNone_37 (by decide) ?_
            have ih3 := ih2 (b + 1) (by omega) (by omega)
            first | (rw [e1, if_neg (Int32.not_lt.mpr b28)] at ih3; exact ih3) | (rw [e1, if_pos (Int32.not_le.mp b28)] at ih3; exact ih3)
          · first | refine j_iincN dX4_debtsAboveNone_31 rfl (Nat.le_of_ble_eq_true rfl) rfl ?_ | refine j_iinc _ dX4_debtsAboveNone_31 rfl rfl (Nat.le_of_ble_eq_true rfl) rfl ?_
            first | refine j_iincN dX4_debtsAboveNone_34 rfl (Nat.le_of_ble_eq_true rfl) rfl ?_ | refine j_iinc _ dX4_debtsAboveNone_34 rfl rfl (Nat.le_of_ble_eq_true rfl) rfl ?_
            refine j_goto 14 dX4_debtsAboveNone_37 (by decide) ?_
            have ih3 := ih2 (b + 1) (by omega) (by omega)
            first | (rw [e1, if_neg (Int32.not_lt.mpr b28)] at ih3; exact ih3) | (rw [e1, if_pos (Int32.not_le.mp b28)] at ih3; exact ih3)
theorem c_lendersOf {N : Nat} (so : Int32) (hN : N ≤ 7) : Ct G yX4_lendersOf cX4_lendersOf 5 (some .int) 2 0 0 z (tw σ t ca inc pa de (nI N) un ra qu hi fa) [.ref t, .int so] (some (.int (lendA de so N N))) z (tw σ t ca inc pa de (nI N) un ra qu hi fa) := by
  refine Ct.ofJ RX4 rfl [some (.ref t), some (.int so), none, none, none] rfl (by decide) (by simp [Value.category]) ?_
  refine j_iconst (nI 0) dX4_lendersOf_0 rfl ?_
  refine j_istore_n dX4_lendersOf_1 rfl (Nat.le_of_ble_eq_true rfl) rfl ?_
  refine j_iconst (nI 0) dX4_lendersOf_2 rfl ?_
  refine j_istore_n dX4_lendersOf_3 rfl (Nat.le_of_ble_eq_true rfl) rfl ?_
  suffices H : ∀ (k a : Nat) (o : Option Value), a ≤ N → N < a + k → J G RX4 cX4_lendersOf 5 (some .int) (TQ G 2 0 0 (some (.int (lendA de so N N))) z (tw σ t ca inc pa de (nI N) un ra qu hi fa)) z (tw σ t ca inc pa de (nI N) un ra qu hi fa) 0 0 4 [some (.ref t), some (.int so), some (.int (lendA de so N a)), some (.int (nI a)), o] [] from H (N + 1) 0 none (by omega) (by omega)
  intro k
  induction k with
  | zero => intro a o h1 h2; exact absurd h2 (by omega)
  | succ k ih =>
    intro a o h1 h2
    refine j_iload_n dX4_lendersOf_4 rfl rfl ?_
    refine j_aload_n dX4_lendersOf_5 rfl rfl ?_
    refine j_getf dX4_lendersOf_6 4 4 rfl (Nat.le_of_ble_eq_true rfl) fl_X4_34 in_4 (by first | exact tw_o | exact tw_c | exact tw_i | exact tw_p | exact tw_d) rfl ?_
    refine j_icmp_geN 62 dX4_lendersOf_9 (by decide) (by omega) (by omega) (fun b9 => ?_) (fun b9 => ?_)
    · obtain rfl : a = N := by omega
      refine j_iload_n dX4_lendersOf_62 rfl rfl ?_
      exact j_iret rfl dX4_lendersOf_63 rfl rfl (Nat.le_of_ble_eq_true rfl) (Nat.le_of_ble_eq_true rfl)
    · refine j_iconst (nI 0) dX4_lendersOf_12 rfl ?_
      refine j_istore dX4_lendersOf_13 (Nat.le_of_ble_eq_true rfl) rfl ?_
      skip
      suffices H2 : ∀ (kb b : Nat), b ≤ N → N < b + kb → J G RX4 cX4_lendersOf 5 (some .int) (TQ G 2 0 0 (some (.int (lendA de so N N))) z (tw σ t ca inc pa de (nI N) un ra qu hi fa)) z (tw σ t ca inc pa de (nI N) un ra qu hi fa) 0 0 15 [some (.ref t), some (.int so), some (.int (lendB de so a b (lendA de so N a))), some (.int (nI a)), some (.int (nI b))] [] from H2 (N + 1) 0 (by omega) (by omega)
      intro kb
      induction kb with
      | zero => intro b h1b h2b; exact absurd h2b (by omega)
      | succ kb ih2 =>
        intro b h1b h2b
        have e1 : lendB de so a (b + 1) (lendA de so N a) = if bitI so (nI a) = nI 1 ∧ 0 < de (a * 7 + b) then orI (lendB de so a b (lendA de so N a)) b else lendB de so a b (lendA de so N a) := rfl
        refine j_iload dX4_lendersOf_15 rfl ?_
        refine j_aload_n dX4_lendersOf_17 rfl rfl ?_
        refine j_getf dX4_lendersOf_18 4 4 rfl (Nat.le_of_ble_eq_true rfl) fl_X4_34 in_4 (by first | exact tw_o | exact tw_c | exact tw_i | exact tw_p | exact tw_d) rfl ?_
        refine j_icmp_geN 56 dX4_lendersOf_21 (by decide) (by omega) (by omega) (fun b21 => ?_) (fun b21 => ?_)
        · obtain rfl : b = N := by omega
          first | refine j_iincN dX4_lendersOf_56 rfl (Nat.le_of_ble_eq_true rfl) rfl ?_ | refine j_iinc _ dX4_lendersOf_56 rfl rfl (Nat.le_of_ble_eq_true rfl) rfl ?_
          refine j_goto 4 dX4_lendersOf_59 (by decide) ?_
          exact ih (a + 1) _ (by omega) (by omega)
        · refine j_iload_n dX4_lendersOf_24 rfl rfl ?_
          refine j_iload_n dX4_lendersOf_25 rfl rfl ?_
          refine j_bitOf rfl (c_bitOf G z _ so (nI a)) dX4_lendersOf_26 rfl mn_bitOf ⟨(Nat.le_of_ble_eq_true rfl), (Nat.le_of_ble_eq_true rfl)⟩ ⟨(Nat.le_of_ble_eq_true rfl), (Nat.le_of_ble_eq_true rfl)⟩ (Nat.le_of_ble_eq_true rfl) ?_
          refine j_iconst (nI 1) dX4_lendersOf_29 rfl ?_
          refine j_icmp_ne 50 dX4_lendersOf_30 (by decide) (fun b30 => ?_) (fun b30 => ?_)
          · first | refine j_iincN dX4_lendersOf_50 rfl (Nat.le_of_ble_eq_true rfl) rfl ?_ | refine j_iinc _ dX4_lendersOf_50 rfl rfl (Nat.le_of_ble_eq_true rfl) rfl ?_
            refine j_goto 15 dX4_lendersOf_53 (by decide) ?_
            have ih3 := ih2 (b + 1) (by omega) (by omega)
            first | (rw [e1, if_neg (fun q => b30 q.1)] at ih3; exact ih3) | (rw [e1, if_neg (fun q => absurd q.2 (Int32.not_lt.mpr b40))] at ih3; exact ih3) | (rw [e1, if_pos ⟨b30, Int32.not_le.mp b40⟩] at ih3; exact ih3)
          · refine j_aload_n dX4_lendersOf_33 rfl rfl ?_
            refine j_iload_n dX4_lendersOf_34 rfl rfl ?_
            refine j_iload dX4_lendersOf_35 rfl ?_
            refine j_callV (c_debtOf G z σ t ca inc pa de (nI N) un ra qu hi fa (by omega)) dX4_lendersOf_37 rfl mv_X4_49 (by first | exact tw_o | exact tw_c | exact tw_i | exact tw_p | exact tw_d) rfl ⟨(Nat.le_of_ble_eq_true rfl), (Nat.le_of_ble_eq_true rfl)⟩ ⟨(Nat.le_of_ble_eq_true rfl), (Nat.le_of_ble_eq_true rfl)⟩ (Nat.le_of_ble_eq_true rfl) ?_
            refine j_if_le 50 dX4_lendersOf_40 (by decide) (fun b40 => ?_) (fun b40 => ?_)
            · first | refine j_iincN dX4_lendersOf_50 rfl (Nat.le_of_ble_eq_true rfl) rfl ?_ | refine j_iinc _ dX4_lendersOf_50 rfl rfl (Nat.le_of_ble_eq_true rfl) rfl ?_
              refine j_goto 15 dX4_lendersOf_53 (by decide) ?_
              have ih3 := ih2 (b + 1) (by omega) (by omega)
              first | (rw [e1, if_neg (fun q => b30 q.1)] at ih3; exact ih3) | (rw [e1, if_neg (fun q => absurd q.2 (Int32.not_lt.mpr b40))] at ih3; exact ih3) | (rw [e1, if_pos ⟨b30, Int32.not_le.mp b40⟩] at ih3; exact ih3)
            · refine j_iload_n dX4_lendersOf_43 rfl rfl ?_
              refine j_iconst (nI 1) dX4_lendersOf_44 rfl ?_
              refine j_iload dX4_lendersOf_45 rfl ?_
              refine j_ishl dX4_lendersOf_47 ?_
              refine j_ior dX4_lendersOf_48 ?_
              refine j_istore_n dX4_lendersOf_49 rfl (Nat.le_of_ble_eq_true rfl) rfl ?_
              first | refine j_iincN dX4_lendersOf_50 rfl (Nat.le_of_ble_eq_true rfl) rfl ?_ | refine j_iinc _ dX4_lendersOf_50 rfl rfl (Nat.le_of_ble_eq_true rfl) rfl ?_
              refine j_goto 15 dX4_lendersOf_53 (by decide) ?_
              have ih3 := ih2 (b + 1) (by omega) (by omega)
              first | (rw [e1, if_neg (fun q => b30 q.1)] at ih3; exact ih3) | (rw [e1, if_neg (fun q => absurd q.2 (Int32.not_lt.mpr b40))] at ih3; exact ih3) | (rw [e1, if_pos ⟨b30, Int32.not_le.mp b40⟩] at ih3; exact ih3)
theorem c_drawn (x : Int64) (v : Int32) (hv : 0 ≤ v) (hne : ¬ (v + nI 1).toInt64 = 0) : Ct G yX4_drawn cX4_drawn 3 (some .int) 1 0 0 z σ [.long x, .int v] (some (.int (drawnI x v))) z σ := by
  refine Ct.ofJ RX4 rfl [some (.long x), none, some (.int v)] rfl (by decide) Nat.le.refl ?_
  refine j_iload_n dX4_drawn_0 rfl rfl ?_
  refine j_if_ge 8 dX4_drawn_1 (by decide) (fun b1 => ?_) (fun b1 => ?_)
  · refine j_lload_n dX4_drawn_8 rfl rfl ?_
    refine j_iload_n dX4_drawn_9 rfl rfl ?_
    refine j_iconst (nI 1) dX4_drawn_10 rfl ?_
    refine j_iadd dX4_drawn_11 ?_
    refine j_i2l dX4_drawn_12 ?_
    refine j_lrem dX4_drawn_13 hne ?_
    refine j_l2i dX4_drawn_14 ?_
    exact j_iret rfl dX4_drawn_15 rfl rfl (Nat.le_of_ble_eq_true rfl) (Nat.le_of_ble_eq_true rfl)
  · exact absurd hv b1
theorem c_smallDebtsAreForgiven : Ct G yX4_smallDebtsAreForgiven cX4_smallDebtsAreForgiven 2 none 1 0 0 z (tw σ t ca inc pa de pe un ra qu hi fa) [.ref t] none z (tw σ t ca inc pa (fgv un de 49) pe un ra qu hi fa) := by
  refine Ct.ofJ RX4 rfl [some (.ref t), none] rfl (by decide) (by simp [Value.category]) ?_
  refine j_iconst (nI 0) dX4_smallDebtsAreForgiven_0 rfl ?_
  refine j_istore_n dX4_smallDebtsAreForgiven_1 rfl (Nat.le_of_ble_eq_true rfl) rfl ?_
  skip
  suffices H : ∀ (ki i : Nat), i ≤ 49 → 49 < i + ki → J G RX4 cX4_smallDebtsAreForgiven 2 none (TQ G 1 0 0 none z (tw σ t ca inc pa (fgv un de 49) pe un ra qu hi fa)) z (tw σ t ca inc pa (fgv un de i) pe un ra qu hi fa) 0 0 2 [some (.ref t), some (.int (nI i))] [] from H (49 + 1) 0 (by omega) (by omega)
  intro ki
  induction ki with
  | zero => intro i h1i h2i; exact absurd h2i (by omega)
  | succ ki ih =>
    intro i h1i h2i
    have e1 : fgv un de (i + 1) = if un ≤ fgv un de i i then fgv un de i else upd (fgv un de i) i (nI 0) := rfl
    refine j_iload_n dX4_smallDebtsAreForgiven_2 rfl rfl ?_
    refine j_bipush (nI 49) dX4_smallDebtsAreForgiven_3 rfl ?_
    refine j_icmp_geN 34 dX4_smallDebtsAreForgiven_5 (by decide) (by omega) (by omega) (fun b5 => ?_) (fun b5 => ?_)
    · obtain rfl : i = 49 := by omega
      exact j_vret rfl dX4_smallDebtsAreForgiven_34 rfl (Nat.le_of_ble_eq_true rfl) (Nat.le_of_ble_eq_true rfl)
    · refine j_aload_n dX4_smallDebtsAreForgiven_8 rfl rfl ?_
      refine j_getf dX4_smallDebtsAreForgiven_9 4 3 rfl (Nat.le_of_ble_eq_true rfl) fl_X4_21 in_4 (by first | exact tw_o | exact tw_c | exact tw_i | exact tw_p | exact tw_d) rfl ?_
      refine j_iload_n dX4_smallDebtsAreForgiven_12 rfl rfl ?_
      refine j_iald dX4_smallDebtsAreForgiven_13 (by first | exact tw_o | exact tw_c | exact tw_i | exact tw_p | exact tw_d) rfl (by omega) (by decide) ?_
      refine j_aload_n dX4_smallDebtsAreForgiven_14 rfl rfl ?_
      refine j_getf dX4_smallDebtsAreForgiven_15 4 5 rfl (Nat.le_of_ble_eq_true rfl) fl_X4_24 in_4 (by first | exact tw_o | exact tw_c | exact tw_i | exact tw_p | exact tw_d) rfl ?_
      refine j_icmp_ge 28 dX4_smallDebtsAreForgiven_18 (by decide) (fun b18 => ?_) (fun b18 => ?_)
      · first | refine j_iincN dX4_smallDebtsAreForgiven_28 rfl (Nat.le_of_ble_eq_true rfl) rfl ?_ | refine j_iinc _ dX4_smallDebtsAreForgiven_28 rfl rfl (Nat.le_of_ble_eq_true rfl) rfl ?_
        refine j_goto 2 dX4_smallDebtsAreForgiven_31 (by decide) ?_
        have ih2 := ih (i + 1) (by omega) (by omega)
        first | (rw [e1, if_pos b18] at ih2; exact ih2) | (rw [e1, if_neg b18] at ih2; exact ih2)
      · refine j_aload_n dX4_smallDebtsAreForgiven_21 rfl rfl ?_
        refine j_getf dX4_smallDebtsAreForgiven_22 4 3 rfl (Nat.le_of_ble_eq_true rfl) fl_X4_21 in_4 (by first | exact tw_o | exact tw_c | exact tw_i | exact tw_p | exact tw_d) rfl ?_
        refine j_iload_n dX4_smallDebtsAreForgiven_25 rfl rfl ?_
        refine j_iconst (nI 0) dX4_smallDebtsAreForgiven_26 rfl ?_
        refine j_iast dX4_smallDebtsAreForgiven_27 (by first | exact tw_o | exact tw_c | exact tw_i | exact tw_p | exact tw_d) rfl (by omega) (by decide) _ (by first | exact tws_o | exact tws_c | exact tws_i | exact tws_p | exact tws_d) ?_
        first | refine j_iincN dX4_smallDebtsAreForgiven_28 rfl (Nat.le_of_ble_eq_true rfl) rfl ?_ | refine j_iinc _ dX4_smallDebtsAreForgiven_28 rfl rfl (Nat.le_of_ble_eq_true rfl) rfl ?_
        refine j_goto 2 dX4_smallDebtsAreForgiven_31 (by decide) ?_
        have ih2 := ih (i + 1) (by omega) (by omega)
        first | (rw [e1, if_pos b18] at ih2; exact ih2) | (rw [e1, if_neg b18] at ih2; exact ih2)
theorem c_debtsGrow : Ct G yX4_debtsGrow cX4_debtsGrow 2 none 2 0 0 z (tw σ t ca inc pa de pe un ra qu hi fa) [.ref t] none z (tw σ t ca inc pa (grw ra de 49) pe un ra qu hi fa) := by
  refine Ct.ofJ RX4 rfl [some (.ref t), none] rfl (by decide) (by simp [Value.category]) ?_
  refine j_iconst (nI 0) dX4_debtsGrow_0 rfl ?_
  refine j_istore_n dX4_debtsGrow_1 rfl (Nat.le_of_ble_eq_true rfl) rfl ?_
  skip
  suffices H : ∀ (ki i : Nat), i ≤ 49 → 49 < i + ki → J G RX4 cX4_debtsGrow 2 none (TQ G 2 0 0 none z (tw σ t ca inc pa (grw ra de 49) pe un ra qu hi fa)) z (tw σ t ca inc pa (grw ra de i) pe un ra qu hi fa) 0 0 2 [some (.ref t), some (.int (nI i))] [] from H (49 + 1) 0 (by omega) (by omega)
  intro ki
  induction ki with
  | zero => intro i h1i h2i; exact absurd h2i (by omega)
  | succ ki ih =>
    intro i h1i h2i
    refine j_iload_n dX4_debtsGrow_2 rfl rfl ?_
    refine j_bipush (nI 49) dX4_debtsGrow_3 rfl ?_
    refine j_icmp_geN 46 dX4_debtsGrow_5 (by decide) (by omega) (by omega) (fun b5 => ?_) (fun b5 => ?_)
    · obtain rfl : i = 49 := by omega
      exact j_vret rfl dX4_debtsGrow_46 rfl (Nat.le_of_ble_eq_true rfl) (Nat.le_of_ble_eq_true rfl)
    · refine j_aload_n dX4_debtsGrow_8 rfl rfl ?_
      refine j_getf dX4_debtsGrow_9 4 3 rfl (Nat.le_of_ble_eq_true rfl) fl_X4_21 in_4 (by first | exact tw_o | exact tw_c | exact tw_i | exact tw_p | exact tw_d) rfl ?_
      refine j_iload_n dX4_debtsGrow_12 rfl rfl ?_
      refine j_aload_n dX4_debtsGrow_13 rfl rfl ?_
      refine j_getf dX4_debtsGrow_14 4 3 rfl (Nat.le_of_ble_eq_true rfl) fl_X4_21 in_4 (by first | exact tw_o | exact tw_c | exact tw_i | exact tw_p | exact tw_d) rfl ?_
      refine j_iload_n dX4_debtsGrow_17 rfl rfl ?_
      refine j_iald dX4_debtsGrow_18 (by first | exact tw_o | exact tw_c | exact tw_i | exact tw_p | exact tw_d) rfl (by omega) (by decide) ?_
      refine j_aload_n dX4_debtsGrow_19 rfl rfl ?_
      refine j_getf dX4_debtsGrow_20 4 6 rfl (Nat.le_of_ble_eq_true rfl) fl_X4_37 in_4 (by first | exact tw_o | exact tw_c | exact tw_i | exact tw_p | exact tw_d) rfl ?_
      refine j_aload_n dX4_debtsGrow_23 rfl rfl ?_
      refine j_getf dX4_debtsGrow_24 4 3 rfl (Nat.le_of_ble_eq_true rfl) fl_X4_21 in_4 (by first | exact tw_o | exact tw_c | exact tw_i | exact tw_p | exact tw_d) rfl ?_
      refine j_iload_n dX4_debtsGrow_27 rfl rfl ?_
      refine j_iald dX4_debtsGrow_28 (by first | exact tw_o | exact tw_c | exact tw_i | exact tw_p | exact tw_d) rfl (by omega) (by decide) ?_
      first | refine j_imulN dX4_debtsGrow_29 ?_ | refine j_imul dX4_debtsGrow_29 ?_
      refine j_bipush (nI 100) dX4_debtsGrow_30 rfl ?_
      refine j_idiv dX4_debtsGrow_32 (by decide) ?_
      first | refine j_iaddN dX4_debtsGrow_33 ?_ | refine j_iadd dX4_debtsGrow_33 ?_
      refine j_ldc (99999) dX4_debtsGrow_34 kc_X4_105 ?_
      refine j_min dX4_debtsGrow_36 mm_X4_57 (Nat.le_of_ble_eq_true rfl) (Nat.le_of_ble_eq_true rfl) (Nat.le_of_ble_eq_true rfl) (Nat.le_of_ble_eq_true rfl) ?_
      refine j_iast dX4_debtsGrow_39 (by first | exact tw_o | exact tw_c | exact tw_i | exact tw_p | exact tw_d) rfl (by omega) (by decide) _ (by first | exact tws_o | exact tws_c | exact tws_i | exact tws_p | exact tws_d) ?_
      first | refine j_iincN dX4_debtsGrow_40 rfl (Nat.le_of_ble_eq_true rfl) rfl ?_ | refine j_iinc _ dX4_debtsGrow_40 rfl rfl (Nat.le_of_ble_eq_true rfl) rfl ?_
      refine j_goto 2 dX4_debtsGrow_43 (by decide) ?_
      exact ih (i + 1) (by omega) (by omega)
theorem c_becomesEmpty : Ct G yX4_becomesEmpty cX4_becomesEmpty 2 none 1 0 0 z (tw σ t ca inc pa de pe un ra qu hi fa) [.ref t] none z (tw σ t ca inc pa (fun _ => nI 0) (nI 0) (nI 1) (nI 0) (nI 0) (nI 0) (nI 0)) := by
  refine Ct.ofJ RX4 rfl [some (.ref t), none] rfl (by decide) (by simp [Value.category]) ?_
  refine j_iconst (nI 0) dX4_becomesEmpty_0 rfl ?_
  refine j_istore_n dX4_becomesEmpty_1 rfl (Nat.le_of_ble_eq_true rfl) rfl ?_
  skip
  suffices H : ∀ (ki i : Nat), i ≤ 49 → 49 < i + ki → J G RX4 cX4_becomesEmpty 2 none (TQ G 1 0 0 none z (tw σ t ca inc pa (fun _ => nI 0) (nI 0) (nI 1) (nI 0) (nI 0) (nI 0) (nI 0))) z (tw σ t ca inc pa (fil (nI 0) de i) pe un ra qu hi fa) 0 0 2 [some (.ref t), some (.int (nI i))] [] from H (49 + 1) 0 (by omega) (by omega)
  intro ki
  induction ki with
  | zero => intro i h1i h2i; exact absurd h2i (by omega)
  | succ ki ih =>
    intro i h1i h2i
    refine j_iload_n dX4_becomesEmpty_2 rfl rfl ?_
    refine j_bipush (nI 49) dX4_becomesEmpty_3 rfl ?_
    refine j_icmp_geN 21 dX4_becomesEmpty_5 (by decide) (by omega) (by omega) (fun b5 => ?_) (fun b5 => ?_)
    · obtain rfl : i = 49 := by omega
      refine j_arr (fun _ => nI 0) tw_d ?_ _ tws_d ?_
      · have key : ∀ n j, j < n → fil (nI 0) de n j = nI 0 := by
          intro n
          induction n with
          | zero => intro j h; omega
          | succ n ihn =>
            intro j h
            show upd (fil (nI 0) de n) n (nI 0) j = nI 0
            by_cases hj : j = n
            · subst hj; exact pk_us
            · rw [pk_un hj]; exact ihn j (by omega)
        exact fun j hj => key 49 j hj
      refine j_aload_n dX4_becomesEmpty_21 rfl rfl ?_
      refine j_iconst (nI 0) dX4_becomesEmpty_22 rfl ?_
      refine j_putf dX4_becomesEmpty_23 4 4 rfl (Nat.le_of_ble_eq_true rfl) fl_X4_34 in_4 tyX4 tyX4_ok nmX4 rfl rfl (by first | exact tw_o | exact tw_c | exact tw_i | exact tw_p | exact tw_d) (Nat.le_of_ble_eq_true rfl) _ (by first | exact tws_o | exact tws_c | exact tws_i | exact tws_p | exact tws_d) ?_
      refine j_aload_n dX4_becomesEmpty_26 rfl rfl ?_
      refine j_iconst (nI 1) dX4_becomesEmpty_27 rfl ?_
      refine j_putf dX4_becomesEmpty_28 4 5 rfl (Nat.le_of_ble_eq_true rfl) fl_X4_24 in_4 tyX4 tyX4_ok nmX4 rfl rfl (by first | exact tw_o | exact tw_c | exact tw_i | exact tw_p | exact tw_d) (Nat.le_of_ble_eq_true rfl) _ (by first | exact tws_o | exact tws_c | exact tws_i | exact tws_p | exact tws_d) ?_
      refine j_aload_n dX4_becomesEmpty_31 rfl rfl ?_
      refine j_iconst (nI 0) dX4_becomesEmpty_32 rfl ?_
      refine j_putf dX4_becomesEmpty_33 4 6 rfl (Nat.le_of_ble_eq_true rfl) fl_X4_37 in_4 tyX4 tyX4_ok nmX4 rfl rfl (by first | exact tw_o | exact tw_c | exact tw_i | exact tw_p | exact tw_d) (Nat.le_of_ble_eq_true rfl) _ (by first | exact tws_o | exact tws_c | exact tws_i | exact tws_p | exact tws_d) ?_
      refine j_aload_n dX4_becomesEmpty_36 rfl rfl ?_
      refine j_iconst (nI 0) dX4_becomesEmpty_37 rfl ?_
      refine j_putf dX4_becomesEmpty_38 4 7 rfl (Nat.le_of_ble_eq_true rfl) fl_X4_40 in_4 tyX4 tyX4_ok nmX4 rfl rfl (by first | exact tw_o | exact tw_c | exact tw_i | exact tw_p | exact tw_d) (Nat.le_of_ble_eq_true rfl) _ (by first | exact tws_o | exact tws_c | exact tws_i | exact tws_p | exact tws_d) ?_
      refine j_aload_n dX4_becomesEmpty_41 rfl rfl ?_
      refine j_iconst (nI 0) dX4_becomesEmpty_42 rfl ?_
      refine j_putf dX4_becomesEmpty_43 4 8 rfl (Nat.le_of_ble_eq_true rfl) fl_X4_43 in_4 tyX4 tyX4_ok nmX4 rfl rfl (by first | exact tw_o | exact tw_c | exact tw_i | exact tw_p | exact tw_d) (Nat.le_of_ble_eq_true rfl) _ (by first | exact tws_o | exact tws_c | exact tws_i | exact tws_p | exact tws_d) ?_
      refine j_aload_n dX4_becomesEmpty_46 rfl rfl ?_
      refine j_iconst (nI 0) dX4_becomesEmpty_47 rfl ?_
      refine j_putf dX4_becomesEmpty_48 4 9 rfl (Nat.le_of_ble_eq_true rfl) fl_X4_46 in_4 tyX4 tyX4_ok nmX4 rfl rfl (by first | exact tw_o | exact tw_c | exact tw_i | exact tw_p | exact tw_d) (Nat.le_of_ble_eq_true rfl) _ (by first | exact tws_o | exact tws_c | exact tws_i | exact tws_p | exact tws_d) ?_
      exact j_vret rfl dX4_becomesEmpty_51 rfl (Nat.le_of_ble_eq_true rfl) (Nat.le_of_ble_eq_true rfl)
    · refine j_aload_n dX4_becomesEmpty_8 rfl rfl ?_
      refine j_getf dX4_becomesEmpty_9 4 3 rfl (Nat.le_of_ble_eq_true rfl) fl_X4_21 in_4 (by first | exact tw_o | exact tw_c | exact tw_i | exact tw_p | exact tw_d) rfl ?_
      refine j_iload_n dX4_becomesEmpty_12 rfl rfl ?_
      refine j_iconst (nI 0) dX4_becomesEmpty_13 rfl ?_
      refine j_iast dX4_becomesEmpty_14 (by first | exact tw_o | exact tw_c | exact tw_i | exact tw_p | exact tw_d) rfl (by omega) (by decide) _ (by first | exact tws_o | exact tws_c | exact tws_i | exact tws_p | exact tws_d) ?_
      first | refine j_iincN dX4_becomesEmpty_15 rfl (Nat.le_of_ble_eq_true rfl) rfl ?_ | refine j_iinc _ dX4_becomesEmpty_15 rfl rfl (Nat.le_of_ble_eq_true rfl) rfl ?_
      refine j_goto 2 dX4_becomesEmpty_18 (by decide) ?_
      exact ih (i + 1) (by omega) (by omega)
end T4
end
section
/-! THE TOWN: incomes, paying of all, a quarter; copies; one settles in -/
section T5
variable (G : GG) (z : Nat) (σ : AH) (t : Nat) (ca inc pa de : Nat → Int32) (pe un ra qu hi fa : Int32)
theorem c_incomesCome {N : Nat} (seed : Int32) (hN : N ≤ 7) (hinc : ∀ p, p < 7 → 0 ≤ inc p ∧ ¬ (inc p + nI 1).toInt64 = 0) : Ct G yX4_incomesCome cX4_incomesCome 5 none 2 0 0 z (tw σ t ca inc pa de (nI N) un ra qu hi fa) [.ref t, .int seed] none z (tw σ t (incC seed inc ca N) inc pa de (nI N) un ra qu hi fa) := by
  refine Ct.ofJ RX4 rfl [some (.ref t), some (.int seed), none, none, none] rfl (by decide) (by simp [Value.category]) ?_
  refine j_iload_n dX4_incomesCome_0 rfl rfl ?_
  refine j_i2l dX4_incomesCome_1 ?_
  refine j_lstore_n dX4_incomesCome_2 rfl (Nat.le_of_ble_eq_true rfl) rfl ?_
  refine j_iconst (nI 0) dX4_incomesCome_3 rfl ?_
  refine j_istore dX4_incomesCome_4 (Nat.le_of_ble_eq_true rfl) rfl ?_
  skip
  suffices H : ∀ (ki i : Nat), i ≤ N → N < i + ki → J G RX4 cX4_incomesCome 5 none (TQ G 2 0 0 none z (tw σ t (incC seed inc ca N) inc pa de (nI N) un ra qu hi fa)) z (tw σ t (incC seed inc ca i) inc pa de (nI N) un ra qu hi fa) 0 0 6 [some (.ref t), some (.int seed), some (.long (drawX seed i)), none, some (.int (nI i))] [] from H (N + 1) 0 (by omega) (by omega)
  intro ki
  induction ki with
  | zero => intro i h1i h2i; exact absurd h2i (by omega)
  | succ ki ih =>
    intro i h1i h2i
    have e1 : incC seed inc ca (i + 1) = upd (incC seed inc ca i) i (incC seed inc ca i i + (if seed = 0 then inc i else drawnI (drawX seed (i + 1)) (inc i))) := rfl
    refine j_iload dX4_incomesCome_6 rfl ?_
    refine j_aload_n dX4_incomesCome_8 rfl rfl ?_
    refine j_getf dX4_incomesCome_9 4 4 rfl (Nat.le_of_ble_eq_true rfl) fl_X4_34 in_4 (by first | exact tw_o | exact tw_c | exact tw_i | exact tw_p | exact tw_d) rfl ?_
    refine j_icmp_geN 66 dX4_incomesCome_12 (by decide) (by omega) (by omega) (fun b12 => ?_) (fun b12 => ?_)
    · obtain rfl : i = N := by omega
      exact j_vret rfl dX4_incomesCome_66 rfl (Nat.le_of_ble_eq_true rfl) (Nat.le_of_ble_eq_true rfl)
    · refine j_lload_n dX4_incomesCome_15 rfl rfl ?_
      refine j_ldc2 (16807) dX4_incomesCome_16 kl_X4_97 ?_
      refine j_lmul dX4_incomesCome_19 ?_
      refine j_ldc2 (2147483647) dX4_incomesCome_20 kl_X4_99 ?_
      refine j_lrem dX4_incomesCome_23 (by decide) ?_
      refine j_lstore_n dX4_incomesCome_24 rfl (Nat.le_of_ble_eq_true rfl) rfl ?_
      refine j_aload_n dX4_incomesCome_25 rfl rfl ?_
      refine j_getf dX4_incomesCome_26 4 0 rfl (Nat.le_of_ble_eq_true rfl) fl_X4_9 in_4 (by first | exact tw_o | exact tw_c | exact tw_i | exact tw_p | exact tw_d) rfl ?_
      refine j_iload dX4_incomesCome_29 rfl ?_
      refine j_dup2 dX4_incomesCome_31 rfl rfl ?_
      refine j_iald dX4_incomesCome_32 (by first | exact tw_o | exact tw_c | exact tw_i | exact tw_p | exact tw_d) rfl (by omega) (by decide) ?_
      refine j_iload_n dX4_incomesCome_33 rfl rfl ?_
      refine j_if_ne 47 dX4_incomesCome_34 (by decide) (fun b34 => ?_) (fun b34 => ?_)
      · refine j_lload_n dX4_incomesCome_47 rfl rfl ?_
        refine j_aload_n dX4_incomesCome_48 rfl rfl ?_
        refine j_getf dX4_incomesCome_49 4 1 rfl (Nat.le_of_ble_eq_true rfl) fl_X4_15 in_4 (by first | exact tw_o | exact tw_c | exact tw_i | exact tw_p | exact tw_d) rfl ?_
        refine j_iload dX4_incomesCome_52 rfl ?_
        refine j_iald dX4_incomesCome_54 (by first | exact tw_o | exact tw_c | exact tw_i | exact tw_p | exact tw_d) rfl (by omega) (by decide) ?_
        refine j_callS (c_drawn G z _ (drawX seed (i + 1)) (inc i) (hinc i (by omega)).1 (hinc i (by omega)).2) dX4_incomesCome_55 rfl ms_X4_101 ⟨(Nat.le_of_ble_eq_true rfl), (Nat.le_of_ble_eq_true rfl)⟩ ⟨(Nat.le_of_ble_eq_true rfl), (Nat.le_of_ble_eq_true rfl)⟩ (Nat.le_of_ble_eq_true rfl) ?_
        first | refine j_iaddN dX4_incomesCome_58 ?_ | refine j_iadd dX4_incomesCome_58 ?_
        refine j_iast dX4_incomesCome_59 (by first | exact tw_o | exact tw_c | exact tw_i | exact tw_p | exact tw_d) rfl (by omega) (by decide) _ (by first | exact tws_o | exact tws_c | exact tws_i | exact tws_p | exact tws_d) ?_
        first | refine j_iincN dX4_incomesCome_60 rfl (Nat.le_of_ble_eq_true rfl) rfl ?_ | refine j_iinc _ dX4_incomesCome_60 rfl rfl (Nat.le_of_ble_eq_true rfl) rfl ?_
        refine j_goto 6 dX4_incomesCome_63 (by decide) ?_
        have ih2 := ih (i + 1) (by omega) (by omega)
        first | (rw [e1, if_pos b34] at ih2; exact ih2) | (rw [e1, if_neg b34] at ih2; exact ih2)
      · refine j_aload_n dX4_incomesCome_37 rfl rfl ?_
        refine j_getf dX4_incomesCome_38 4 1 rfl (Nat.le_of_ble_eq_true rfl) fl_X4_15 in_4 (by first | exact tw_o | exact tw_c | exact tw_i | exact tw_p | exact tw_d) rfl ?_
        refine j_iload dX4_incomesCome_41 rfl ?_
        refine j_iald dX4_incomesCome_43 (by first | exact tw_o | exact tw_c | exact tw_i | exact tw_p | exact tw_d) rfl (by omega) (by decide) ?_
        refine j_goto 58 dX4_incomesCome_44 (by decide) ?_
        first | refine j_iaddN dX4_incomesCome_58 ?_ | refine j_iadd dX4_incomesCome_58 ?_
        refine j_iast dX4_incomesCome_59 (by first | exact tw_o | exact tw_c | exact tw_i | exact tw_p | exact tw_d) rfl (by omega) (by decide) _ (by first | exact tws_o | exact tws_c | exact tws_i | exact tws_p | exact tws_d) ?_
        first | refine j_iincN dX4_incomesCome_60 rfl (Nat.le_of_ble_eq_true rfl) rfl ?_ | refine j_iinc _ dX4_incomesCome_60 rfl rfl (Nat.le_of_ble_eq_true rfl) rfl ?_
        refine j_goto 6 dX4_incomesCome_63 (by decide) ?_
        have ih2 := ih (i + 1) (by omega) (by omega)
        first | (rw [e1, if_pos b34] at ih2; exact ih2) | (rw [e1, if_neg b34] at ih2; exact ih2)
theorem c_allSettle {N : Nat} (hN : N ≤ 7) : Ct G yX4_allSettle cX4_allSettle 4 none 4 0 0 z (tw σ t ca inc pa de (nI N) un ra qu hi fa) [.ref t] none z (tw σ t (alS N ca de fa N).1 inc pa (alS N ca de fa N).2.1 (nI N) un ra qu hi (alS N ca de fa N).2.2) := by
  refine Ct.ofJ RX4 rfl [some (.ref t), none, none, none] rfl (by decide) (by simp [Value.category]) ?_
  refine j_iconst (nI 0) dX4_allSettle_0 rfl ?_
  refine j_istore_n dX4_allSettle_1 rfl (Nat.le_of_ble_eq_true rfl) rfl ?_
  suffices H : ∀ (k i : Nat) (o2 o3 : Option Value), (lok [some (.ref t), some (.int (nI i)), o2, o3] 3 = true) → i ≤ N → N < i + k → J G RX4 cX4_allSettle 4 none (TQ G 4 0 0 none z (tw σ t (alS N ca de fa N).1 inc pa (alS N ca de fa N).2.1 (nI N) un ra qu hi (alS N ca de fa N).2.2)) z (tw σ t (alS N ca de fa i).1 inc pa (alS N ca de fa i).2.1 (nI N) un ra qu hi (alS N ca de fa i).2.2) 0 0 2 [some (.ref t), some (.int (nI i)), o2, o3] [] from H (N + 1) 0 none none rfl (by omega) (by omega)
  intro k
  induction k with
  | zero => intro i o2 o3 ho h1 h2; exact absurd h2 (by omega)
  | succ k ih =>
    intro i o2 o3 ho h1 h2
    have ih2 := fun o2 o3 ho h h9 => ih (i + 1) o2 o3 ho h h9
    simp only [alS] at ih2
    refine j_iload_n dX4_allSettle_2 rfl rfl ?_
    refine j_aload_n dX4_allSettle_3 rfl rfl ?_
    refine j_getf dX4_allSettle_4 4 4 rfl (Nat.le_of_ble_eq_true rfl) fl_X4_34 in_4 (by first | exact tw_o | exact tw_c | exact tw_i | exact tw_p | exact tw_d) rfl ?_
    refine j_icmp_geN 86 dX4_allSettle_7 (by decide) (by omega) (by omega) (fun b7 => ?_) (fun b7 => ?_)
    · obtain rfl : i = N := by omega
      exact j_vret rfl dX4_allSettle_86 rfl (Nat.le_of_ble_eq_true rfl) (Nat.le_of_ble_eq_true rfl)
    · refine j_aload_n dX4_allSettle_10 rfl rfl ?_
      refine j_iload_n dX4_allSettle_11 rfl rfl ?_
      refine j_callV (c_owedBy G z σ t _ inc pa _ un ra qu hi _ hN (by omega)) dX4_allSettle_12 rfl mv_X4_53 (by first | exact tw_o | exact tw_c | exact tw_i | exact tw_p | exact tw_d) rfl ⟨(Nat.le_of_ble_eq_true rfl), (Nat.le_of_ble_eq_true rfl)⟩ ⟨(Nat.le_of_ble_eq_true rfl), (Nat.le_of_ble_eq_true rfl)⟩ (Nat.le_of_ble_eq_true rfl) ?_
      refine j_if_le 22 dX4_allSettle_15 (by decide) (fun b15 => ?_) (fun b15 => ?_)
      · refine j_iconst (nI 0) dX4_allSettle_22 rfl ?_
        refine j_istore_n dX4_allSettle_23 rfl (Nat.le_of_ble_eq_true rfl) rfl ?_
        refine j_aload_n dX4_allSettle_24 rfl rfl ?_
        refine j_iload_n dX4_allSettle_25 rfl rfl ?_
        refine j_callV (c_settle G z σ t _ inc pa _ un ra qu hi _ hN (by omega)) dX4_allSettle_26 rfl mv_X4_78 (by first | exact tw_o | exact tw_c | exact tw_i | exact tw_p | exact tw_d) rfl ⟨(Nat.le_of_ble_eq_true rfl), (Nat.le_of_ble_eq_true rfl)⟩ ⟨(Nat.le_of_ble_eq_true rfl), (Nat.le_of_ble_eq_true rfl)⟩ (Nat.le_of_ble_eq_true rfl) ?_
        refine j_if_le 36 dX4_allSettle_29 (by decide) (fun b29 => ?_) (fun b29 => ?_)
        · refine j_iconst (nI 0) dX4_allSettle_36 rfl ?_
          refine j_istore_n dX4_allSettle_37 rfl (Nat.le_of_ble_eq_true rfl) rfl ?_
          refine j_iload_n dX4_allSettle_38 rfl rfl ?_
          refine j_if_eq 58 dX4_allSettle_39 (by decide) (fun _ => ?_) (fun h => absurd rfl h)
          refine j_aload_n dX4_allSettle_58 rfl rfl ?_
          refine j_iload_n dX4_allSettle_59 rfl rfl ?_
          refine j_callV (c_owedBy G z σ t _ inc pa _ un ra qu hi _ hN (by omega)) dX4_allSettle_60 rfl mv_X4_53 (by first | exact tw_o | exact tw_c | exact tw_i | exact tw_p | exact tw_d) rfl ⟨(Nat.le_of_ble_eq_true rfl), (Nat.le_of_ble_eq_true rfl)⟩ ⟨(Nat.le_of_ble_eq_true rfl), (Nat.le_of_ble_eq_true rfl)⟩ (Nat.le_of_ble_eq_true rfl) ?_
          refine j_if_ne 80 dX4_allSettle_63 (by decide) (fun b63 => ?_) (fun b63 => ?_)
          · first | refine j_iincN dX4_allSettle_80 rfl (Nat.le_of_ble_eq_true rfl) rfl ?_ | refine j_iinc _ dX4_allSettle_80 rfl rfl (Nat.le_of_ble_eq_true rfl) rfl ?_
            refine j_goto 2 dX4_allSettle_83 (by decide) ?_
            first | (rw [if_pos (show dsum _ N i = 0 from b63)] at ih2) | skip
            first
              | (simp only [if_neg (show ¬ dsum _ N i = 0 from b63), if_pos (show 0 < dsum _ N i ∧ ¬ 0 < (stl i _ _ N).2.2 from ⟨Int32.not_le.mp b15, Int32.not_lt.mpr b29⟩)] at ih2; exact ih2 _ _ rfl (by omega) (by omega))
              | (simp only [if_neg (show ¬ dsum _ N i = 0 from b63), if_neg (show ¬ (0 < dsum _ N i ∧ ¬ 0 < (stl i _ _ N).2.2) from fun q => q.2 (Int32.not_le.mp b29))] at ih2; exact ih2 _ _ rfl (by omega) (by omega))
              | (simp only [if_neg (show ¬ dsum _ N i = 0 from b63), if_neg (show ¬ (0 < dsum _ N i ∧ ¬ 0 < (stl i _ _ N).2.2) from fun q => absurd q.1 (Int32.not_lt.mpr b15))] at ih2; exact ih2 _ _ rfl (by omega) (by omega))
              | (simp only [if_pos (show dsum _ N i = 0 from b63), if_pos (show 0 < dsum _ N i ∧ ¬ 0 < (stl i _ _ N).2.2 from ⟨Int32.not_le.mp b15, Int32.not_lt.mpr b29⟩)] at ih2; exact ih2 _ _ rfl (by omega) (by omega))
              | (simp only [if_pos (show dsum _ N i = 0 from b63), if_neg (show ¬ (0 < dsum _ N i ∧ ¬ 0 < (stl i _ _ N).2.2) from fun q => q.2 (Int32.not_le.mp b29))] at ih2; exact ih2 _ _ rfl (by omega) (by omega))
              | (simp only [if_pos (show dsum _ N i = 0 from b63), if_neg (show ¬ (0 < dsum _ N i ∧ ¬ 0 < (stl i _ _ N).2.2) from fun q => absurd q.1 (Int32.not_lt.mpr b15))] at ih2; exact ih2 _ _ rfl (by omega) (by omega))
          · refine j_aload_n dX4_allSettle_66 rfl rfl ?_
            refine j_dup dX4_allSettle_67 rfl ?_
            refine j_getf dX4_allSettle_68 4 9 rfl (Nat.le_of_ble_eq_true rfl) fl_X4_46 in_4 (by first | exact tw_o | exact tw_c | exact tw_i | exact tw_p | exact tw_d) rfl ?_
            refine j_iconst (nI 1) dX4_allSettle_71 rfl ?_
            refine j_iload_n dX4_allSettle_72 rfl rfl ?_
            refine j_ishl dX4_allSettle_73 ?_
            refine j_iconst (-1) dX4_allSettle_74 rfl ?_
            refine j_ixor dX4_allSettle_75 ?_
            refine j_iand dX4_allSettle_76 ?_
            refine j_putf dX4_allSettle_77 4 9 rfl (Nat.le_of_ble_eq_true rfl) fl_X4_46 in_4 tyX4 tyX4_ok nmX4 rfl rfl (by first | exact tw_o | exact tw_c | exact tw_i | exact tw_p | exact tw_d) (Nat.le_of_ble_eq_true rfl) _ (by first | exact tws_o | exact tws_c | exact tws_i | exact tws_p | exact tws_d) ?_
            first | refine j_iincN dX4_allSettle_80 rfl (Nat.le_of_ble_eq_true rfl) rfl ?_ | refine j_iinc _ dX4_allSettle_80 rfl rfl (Nat.le_of_ble_eq_true rfl) rfl ?_
            refine j_goto 2 dX4_allSettle_83 (by decide) ?_
            first | (rw [if_pos (show dsum _ N i = 0 from b63)] at ih2) | skip
            first
              | (simp only [if_neg (show ¬ dsum _ N i = 0 from b63), if_pos (show 0 < dsum _ N i ∧ ¬ 0 < (stl i _ _ N).2.2 from ⟨Int32.not_le.mp b15, Int32.not_lt.mpr b29⟩)] at ih2; exact ih2 _ _ rfl (by omega) (by omega))
              | (simp only [if_neg (show ¬ dsum _ N i = 0 from b63), if_neg (show ¬ (0 < dsum _ N i ∧ ¬ 0 < (stl i _ _ N).2.2) from fun q => q.2 (Int32.not_le.mp b29))] at ih2; exact ih2 _ _ rfl (by omega) (by omega))
              | (simp only [if_neg (show ¬ dsum _ N i = 0 from b63), if_neg (show ¬ (0 < dsum _ N i ∧ ¬ 0 < (stl i _ _ N).2.2) from fun q => absurd q.1 (Int32.not_lt.mpr b15))] at ih2; exact ih2 _ _ rfl (by omega) (by omega))
              | (simp only [if_pos (show dsum _ N i = 0 from b63), if_pos (show 0 < dsum _ N i ∧ ¬ 0 < (stl i _ _ N).2.2 from ⟨Int32.not_le.mp b15, Int32.not_lt.mpr b29⟩)] at ih2; exact ih2 _ _ rfl (by omega) (by omega))
              | (simp only [if_pos (show dsum _ N i = 0 from b63), if_neg (show ¬ (0 < dsum _ N i ∧ ¬ 0 < (stl i _ _ N).2.2) from fun q => q.2 (Int32.not_le.mp b29))] at ih2; exact ih2 _ _ rfl (by omega) (by omega))
              | (simp only [if_pos (show dsum _ N i = 0 from b63), if_neg (show ¬ (0 < dsum _ N i ∧ ¬ 0 < (stl i _ _ N).2.2) from fun q => absurd q.1 (Int32.not_lt.mpr b15))] at ih2; exact ih2 _ _ rfl (by omega) (by omega))
        · refine j_iconst (nI 1) dX4_allSettle_32 rfl ?_
          refine j_goto 37 dX4_allSettle_33 (by decide) ?_
          refine j_istore_n dX4_allSettle_37 rfl (Nat.le_of_ble_eq_true rfl) rfl ?_
          refine j_iload_n dX4_allSettle_38 rfl rfl ?_
          refine j_if_eq 58 dX4_allSettle_39 (by decide) (fun _ => ?_) (fun h => absurd rfl h)
          refine j_aload_n dX4_allSettle_58 rfl rfl ?_
          refine j_iload_n dX4_allSettle_59 rfl rfl ?_
          refine j_callV (c_owedBy G z σ t _ inc pa _ un ra qu hi _ hN (by omega)) dX4_allSettle_60 rfl mv_X4_53 (by first | exact tw_o | exact tw_c | exact tw_i | exact tw_p | exact tw_d) rfl ⟨(Nat.le_of_ble_eq_true rfl), (Nat.le_of_ble_eq_true rfl)⟩ ⟨(Nat.le_of_ble_eq_true rfl), (Nat.le_of_ble_eq_true rfl)⟩ (Nat.le_of_ble_eq_true rfl) ?_
          refine j_if_ne 80 dX4_allSettle_63 (by decide) (fun b63 => ?_) (fun b63 => ?_)
          · first | refine j_iincN dX4_allSettle_80 rfl (Nat.le_of_ble_eq_true rfl) rfl ?_ | refine j_iinc _ dX4_allSettle_80 rfl rfl (Nat.le_of_ble_eq_true rfl) rfl ?_
            refine j_goto 2 dX4_allSettle_83 (by decide) ?_
            first | (rw [if_pos (show dsum _ N i = 0 from b63)] at ih2) | skip
            first
              | (simp only [if_neg (show ¬ dsum _ N i = 0 from b63), if_pos (show 0 < dsum _ N i ∧ ¬ 0 < (stl i _ _ N).2.2 from ⟨Int32.not_le.mp b15, Int32.not_lt.mpr b29⟩)] at ih2; exact ih2 _ _ rfl (by omega) (by omega))
              | (simp only [if_neg (show ¬ dsum _ N i = 0 from b63), if_neg (show ¬ (0 < dsum _ N i ∧ ¬ 0 < (stl i _ _ N).2.2) from fun q => q.2 (Int32.not_le.mp b29))] at ih2; exact ih2 _ _ rfl (by omega) (by omega))
              | (simp only [if_neg (show ¬ dsum _ N i = 0 from b63), if_neg (show ¬ (0 < dsum _ N i ∧ ¬ 0 < (stl i _ _ N).2.2) from fun q => absurd q.1 (Int32.not_lt.mpr b15))] at ih2; exact ih2 _ _ rfl (by omega) (by omega))
              | (simp only [if_pos (show dsum _ N i = 0 from b63), if_pos (show 0 < dsum _ N i ∧ ¬ 0 < (stl i _ _ N).2.2 from ⟨Int32.not_le.mp b15, Int32.not_lt.mpr b29⟩)] at ih2; exact ih2 _ _ rfl (by omega) (by omega))
              | (simp only [if_pos (show dsum _ N i = 0 from b63), if_neg (show ¬ (0 < dsum _ N i ∧ ¬ 0 < (stl i _ _ N).2.2) from fun q => q.2 (Int32.not_le.mp b29))] at ih2; exact ih2 _ _ rfl (by omega) (by omega))
              | (simp only [if_pos (show dsum _ N i = 0 from b63), if_neg (show ¬ (0 < dsum _ N i ∧ ¬ 0 < (stl i _ _ N).2.2) from fun q => absurd q.1 (Int32.not_lt.mpr b15))] at ih2; exact ih2 _ _ rfl (by omega) (by omega))
          · refine j_aload_n dX4_allSettle_66 rfl rfl ?_
            refine j_dup dX4_allSettle_67 rfl ?_
            refine j_getf dX4_allSettle_68 4 9 rfl (Nat.le_of_ble_eq_true rfl) fl_X4_46 in_4 (by first | exact tw_o | exact tw_c | exact tw_i | exact tw_p | exact tw_d) rfl ?_
            refine j_iconst (nI 1) dX4_allSettle_71 rfl ?_
            refine j_iload_n dX4_allSettle_72 rfl rfl ?_
            refine j_ishl dX4_allSettle_73 ?_
            refine j_iconst (-1) dX4_allSettle_74 rfl ?_
            refine j_ixor dX4_allSettle_75 ?_
            refine j_iand dX4_allSettle_76 ?_
            refine j_putf dX4_allSettle_77 4 9 rfl (Nat.le_of_ble_eq_true rfl) fl_X4_46 in_4 tyX4 tyX4_ok nmX4 rfl rfl (by first | exact tw_o | exact tw_c | exact tw_i | exact tw_p | exact tw_d) (Nat.le_of_ble_eq_true rfl) _ (by first | exact tws_o | exact tws_c | exact tws_i | exact tws_p | exact tws_d) ?_
            first | refine j_iincN dX4_allSettle_80 rfl (Nat.le_of_ble_eq_true rfl) rfl ?_ | refine j_iinc _ dX4_allSettle_80 rfl rfl (Nat.le_of_ble_eq_true rfl) rfl ?_
            refine j_goto 2 dX4_allSettle_83 (by decide) ?_
            first | (rw [if_pos (show dsum _ N i = 0 from b63)] at ih2) | skip
            first
              | (simp only [if_neg (show ¬ dsum _ N i = 0 from b63), if_pos (show 0 < dsum _ N i ∧ ¬ 0 < (stl i _ _ N).2.2 from ⟨Int32.not_le.mp b15, Int32.not_lt.mpr b29⟩)] at ih2; exact ih2 _ _ rfl (by omega) (by omega))
              | (simp only [if_neg (show ¬ dsum _ N i = 0 from b63), if_neg (show ¬ (0 < dsum _ N i ∧ ¬ 0 < (stl i _ _ N).2.2) from fun q => q.2 (Int32.not_le.mp b29))] at ih2; exact ih2 _ _ rfl (by omega) (by omega))
              | (simp only [if_neg (show ¬ dsum _ N i = 0 from b63), if_neg (show ¬ (0 < dsum _ N i ∧ ¬ 0 < (stl i _ _ N).2.2) from fun q => absurd q.1 (Int32.not_lt.mpr b15))] at ih2; exact ih2 _ _ rfl (by omega) (by omega))
              | (simp only [if_pos (show dsum _ N i = 0 from b63), if_pos (show 0 < dsum _ N i ∧ ¬ 0 < (stl i _ _ N).2.2 from ⟨Int32.not_le.mp b15, Int32.not_lt.mpr b29⟩)] at ih2; exact ih2 _ _ rfl (by omega) (by omega))
              | (simp only [if_pos (show dsum _ N i = 0 from b63), if_neg (show ¬ (0 < dsum _ N i ∧ ¬ 0 < (stl i _ _ N).2.2) from fun q => q.2 (Int32.not_le.mp b29))] at ih2; exact ih2 _ _ rfl (by omega) (by omega))
              | (simp only [if_pos (show dsum _ N i = 0 from b63), if_neg (show ¬ (0 < dsum _ N i ∧ ¬ 0 < (stl i _ _ N).2.2) from fun q => absurd q.1 (Int32.not_lt.mpr b15))] at ih2; exact ih2 _ _ rfl (by omega) (by omega))
      · refine j_iconst (nI 1) dX4_allSettle_18 rfl ?_
        refine j_goto 23 dX4_allSettle_19 (by decide) ?_
        refine j_istore_n dX4_allSettle_23 rfl (Nat.le_of_ble_eq_true rfl) rfl ?_
        refine j_aload_n dX4_allSettle_24 rfl rfl ?_
        refine j_iload_n dX4_allSettle_25 rfl rfl ?_
        refine j_callV (c_settle G z σ t _ inc pa _ un ra qu hi _ hN (by omega)) dX4_allSettle_26 rfl mv_X4_78 (by first | exact tw_o | exact tw_c | exact tw_i | exact tw_p | exact tw_d) rfl ⟨(Nat.le_of_ble_eq_true rfl), (Nat.le_of_ble_eq_true rfl)⟩ ⟨(Nat.le_of_ble_eq_true rfl), (Nat.le_of_ble_eq_true rfl)⟩ (Nat.le_of_ble_eq_true rfl) ?_
        refine j_if_le 36 dX4_allSettle_29 (by decide) (fun b29 => ?_) (fun b29 => ?_)
        · refine j_iconst (nI 0) dX4_allSettle_36 rfl ?_
          refine j_istore_n dX4_allSettle_37 rfl (Nat.le_of_ble_eq_true rfl) rfl ?_
          refine j_iload_n dX4_allSettle_38 rfl rfl ?_
          refine j_if_eq 58 dX4_allSettle_39 (by decide) (fun h => absurd h (by decide)) (fun _ => ?_)
          refine j_iload_n dX4_allSettle_42 rfl rfl ?_
          refine j_if_ne 58 dX4_allSettle_43 (by decide) (fun h => absurd rfl h) (fun _ => ?_)
          refine j_aload_n dX4_allSettle_46 rfl rfl ?_
          refine j_dup dX4_allSettle_47 rfl ?_
          refine j_getf dX4_allSettle_48 4 9 rfl (Nat.le_of_ble_eq_true rfl) fl_X4_46 in_4 (by first | exact tw_o | exact tw_c | exact tw_i | exact tw_p | exact tw_d) rfl ?_
          refine j_iconst (nI 1) dX4_allSettle_51 rfl ?_
          refine j_iload_n dX4_allSettle_52 rfl rfl ?_
          refine j_ishl dX4_allSettle_53 ?_
          refine j_ior dX4_allSettle_54 ?_
          refine j_putf dX4_allSettle_55 4 9 rfl (Nat.le_of_ble_eq_true rfl) fl_X4_46 in_4 tyX4 tyX4_ok nmX4 rfl rfl (by first | exact tw_o | exact tw_c | exact tw_i | exact tw_p | exact tw_d) (Nat.le_of_ble_eq_true rfl) _ (by first | exact tws_o | exact tws_c | exact tws_i | exact tws_p | exact tws_d) ?_
          refine j_aload_n dX4_allSettle_58 rfl rfl ?_
          refine j_iload_n dX4_allSettle_59 rfl rfl ?_
          refine j_callV (c_owedBy G z σ t _ inc pa _ un ra qu hi _ hN (by omega)) dX4_allSettle_60 rfl mv_X4_53 (by first | exact tw_o | exact tw_c | exact tw_i | exact tw_p | exact tw_d) rfl ⟨(Nat.le_of_ble_eq_true rfl), (Nat.le_of_ble_eq_true rfl)⟩ ⟨(Nat.le_of_ble_eq_true rfl), (Nat.le_of_ble_eq_true rfl)⟩ (Nat.le_of_ble_eq_true rfl) ?_
          refine j_if_ne 80 dX4_allSettle_63 (by decide) (fun b63 => ?_) (fun b63 => ?_)
          · first | refine j_iincN dX4_allSettle_80 rfl (Nat.le_of_ble_eq_true rfl) rfl ?_ | refine j_iinc _ dX4_allSettle_80 rfl rfl (Nat.le_of_ble_eq_true rfl) rfl ?_
            refine j_goto 2 dX4_allSettle_83 (by decide) ?_
            first | (rw [if_pos (show dsum _ N i = 0 from b63)] at ih2) | skip
            first
              | (simp only [if_neg (show ¬ dsum _ N i = 0 from b63), if_pos (show 0 < dsum _ N i ∧ ¬ 0 < (stl i _ _ N).2.2 from ⟨Int32.not_le.mp b15, Int32.not_lt.mpr b29⟩)] at ih2; exact ih2 _ _ rfl (by omega) (by omega))
              | (simp only [if_neg (show ¬ dsum _ N i = 0 from b63), if_neg (show ¬ (0 < dsum _ N i ∧ ¬ 0 < (stl i _ _ N).2.2) from fun q => q.2 (Int32.not_le.mp b29))] at ih2; exact ih2 _ _ rfl (by omega) (by omega))
              | (simp only [if_neg (show ¬ dsum _ N i = 0 from b63), if_neg (show ¬ (0 < dsum _ N i ∧ ¬ 0 < (stl i _ _ N).2.2) from fun q => absurd q.1 (Int32.not_lt.mpr b15))] at ih2; exact ih2 _ _ rfl (by omega) (by omega))
              | (simp only [if_pos (show dsum _ N i = 0 from b63), if_pos (show 0 < dsum _ N i ∧ ¬ 0 < (stl i _ _ N).2.2 from ⟨Int32.not_le.mp b15, Int32.not_lt.mpr b29⟩)] at ih2; exact ih2 _ _ rfl (by omega) (by omega))
              | (simp only [if_pos (show dsum _ N i = 0 from b63), if_neg (show ¬ (0 < dsum _ N i ∧ ¬ 0 < (stl i _ _ N).2.2) from fun q => q.2 (Int32.not_le.mp b29))] at ih2; exact ih2 _ _ rfl (by omega) (by omega))
              | (simp only [if_pos (show dsum _ N i = 0 from b63), if_neg (show ¬ (0 < dsum _ N i ∧ ¬ 0 < (stl i _ _ N).2.2) from fun q => absurd q.1 (Int32.not_lt.mpr b15))] at ih2; exact ih2 _ _ rfl (by omega) (by omega))
          · refine j_aload_n dX4_allSettle_66 rfl rfl ?_
            refine j_dup dX4_allSettle_67 rfl ?_
            refine j_getf dX4_allSettle_68 4 9 rfl (Nat.le_of_ble_eq_true rfl) fl_X4_46 in_4 (by first | exact tw_o | exact tw_c | exact tw_i | exact tw_p | exact tw_d) rfl ?_
            refine j_iconst (nI 1) dX4_allSettle_71 rfl ?_
            refine j_iload_n dX4_allSettle_72 rfl rfl ?_
            refine j_ishl dX4_allSettle_73 ?_
            refine j_iconst (-1) dX4_allSettle_74 rfl ?_
            refine j_ixor dX4_allSettle_75 ?_
            refine j_iand dX4_allSettle_76 ?_
            refine j_putf dX4_allSettle_77 4 9 rfl (Nat.le_of_ble_eq_true rfl) fl_X4_46 in_4 tyX4 tyX4_ok nmX4 rfl rfl (by first | exact tw_o | exact tw_c | exact tw_i | exact tw_p | exact tw_d) (Nat.le_of_ble_eq_true rfl) _ (by first | exact tws_o | exact tws_c | exact tws_i | exact tws_p | exact tws_d) ?_
            first | refine j_iincN dX4_allSettle_80 rfl (Nat.le_of_ble_eq_true rfl) rfl ?_ | refine j_iinc _ dX4_allSettle_80 rfl rfl (Nat.le_of_ble_eq_true rfl) rfl ?_
            refine j_goto 2 dX4_allSettle_83 (by decide) ?_
            first | (rw [if_pos (show dsum _ N i = 0 from b63)] at ih2) | skip
            first
              | (simp only [if_neg (show ¬ dsum _ N i = 0 from b63), if_pos (show 0 < dsum _ N i ∧ ¬ 0 < (stl i _ _ N).2.2 from ⟨Int32.not_le.mp b15, Int32.not_lt.mpr b29⟩)] at ih2; exact ih2 _ _ rfl (by omega) (by omega))
              | (simp only [if_neg (show ¬ dsum _ N i = 0 from b63), if_neg (show ¬ (0 < dsum _ N i ∧ ¬ 0 < (stl i _ _ N).2.2) from fun q => q.2 (Int32.not_le.mp b29))] at ih2; exact ih2 _ _ rfl (by omega) (by omega))
              | (simp only [if_neg (show ¬ dsum _ N i = 0 from b63), if_neg (show ¬ (0 < dsum _ N i ∧ ¬ 0 < (stl i _ _ N).2.2) from fun q => absurd q.1 (Int32.not_lt.mpr b15))] at ih2; exact ih2 _ _ rfl (by omega) (by omega))
              | (simp only [if_pos (show dsum _ N i = 0 from b63), if_pos (show 0 < dsum _ N i ∧ ¬ 0 < (stl i _ _ N).2.2 from ⟨Int32.not_le.mp b15, Int32.not_lt.mpr b29⟩)] at ih2; exact ih2 _ _ rfl (by omega) (by omega))
              | (simp only [if_pos (show dsum _ N i = 0 from b63), if_neg (show ¬ (0 < dsum _ N i ∧ ¬ 0 < (stl i _ _ N).2.2) from fun q => q.2 (Int32.not_le.mp b29))] at ih2; exact ih2 _ _ rfl (by omega) (by omega))
              | (simp only [if_pos (show dsum _ N i = 0 from b63), if_neg (show ¬ (0 < dsum _ N i ∧ ¬ 0 < (stl i _ _ N).2.2) from fun q => absurd q.1 (Int32.not_lt.mpr b15))] at ih2; exact ih2 _ _ rfl (by omega) (by omega))
        · refine j_iconst (nI 1) dX4_allSettle_32 rfl ?_
          refine j_goto 37 dX4_allSettle_33 (by decide) ?_
          refine j_istore_n dX4_allSettle_37 rfl (Nat.le_of_ble_eq_true rfl) rfl ?_
          refine j_iload_n dX4_allSettle_38 rfl rfl ?_
          refine j_if_eq 58 dX4_allSettle_39 (by decide) (fun h => absurd h (by decide)) (fun _ => ?_)
          refine j_iload_n dX4_allSettle_42 rfl rfl ?_
          refine j_if_ne 58 dX4_allSettle_43 (by decide) (fun _ => ?_) (fun h => absurd h (by decide))
          refine j_aload_n dX4_allSettle_58 rfl rfl ?_
          refine j_iload_n dX4_allSettle_59 rfl rfl ?_
          refine j_callV (c_owedBy G z σ t _ inc pa _ un ra qu hi _ hN (by omega)) dX4_allSettle_60 rfl mv_X4_53 (by first | exact tw_o | exact tw_c | exact tw_i | exact tw_p | exact tw_d) rfl ⟨(Nat.le_of_ble_eq_true rfl), (Nat.le_of_ble_eq_true rfl)⟩ ⟨(Nat.le_of_ble_eq_true rfl), (Nat.le_of_ble_eq_true rfl)⟩ (Nat.le_of_ble_eq_true rfl) ?_
          refine j_if_ne 80 dX4_allSettle_63 (by decide) (fun b63 => ?_) (fun b63 => ?_)
          · first | refine j_iincN dX4_allSettle_80 rfl (Nat.le_of_ble_eq_true rfl) rfl ?_ | refine j_iinc _ dX4_allSettle_80 rfl rfl (Nat.le_of_ble_eq_true rfl) rfl ?_
            refine j_goto 2 dX4_allSettle_83 (by decide) ?_
            first | (rw [if_pos (show dsum _ N i = 0 from b63)] at ih2) | skip
            first
              | (simp only [if_neg (show ¬ dsum _ N i = 0 from b63), if_pos (show 0 < dsum _ N i ∧ ¬ 0 < (stl i _ _ N).2.2 from ⟨Int32.not_le.mp b15, Int32.not_lt.mpr b29⟩)] at ih2; exact ih2 _ _ rfl (by omega) (by omega))
              | (simp only [if_neg (show ¬ dsum _ N i = 0 from b63), if_neg (show ¬ (0 < dsum _ N i ∧ ¬ 0 < (stl i _ _ N).2.2) from fun q => q.2 (Int32.not_le.mp b29))] at ih2; exact ih2 _ _ rfl (by omega) (by omega))
              | (simp only [if_neg (show ¬ dsum _ N i = 0 from b63), if_neg (show ¬ (0 < dsum _ N i ∧ ¬ 0 < (stl i _ _ N).2.2) from fun q => absurd q.1 (Int32.not_lt.mpr b15))] at ih2; exact ih2 _ _ rfl (by omega) (by omega))
              | (simp only [if_pos (show dsum _ N i = 0 from b63), if_pos (show 0 < dsum _ N i ∧ ¬ 0 < (stl i _ _ N).2.2 from ⟨Int32.not_le.mp b15, Int32.not_lt.mpr b29⟩)] at ih2; exact ih2 _ _ rfl (by omega) (by omega))
              | (simp only [if_pos (show dsum _ N i = 0 from b63), if_neg (show ¬ (0 < dsum _ N i ∧ ¬ 0 < (stl i _ _ N).2.2) from fun q => q.2 (Int32.not_le.mp b29))] at ih2; exact ih2 _ _ rfl (by omega) (by omega))
              | (simp only [if_pos (show dsum _ N i = 0 from b63), if_neg (show ¬ (0 < dsum _ N i ∧ ¬ 0 < (stl i _ _ N).2.2) from fun q => absurd q.1 (Int32.not_lt.mpr b15))] at ih2; exact ih2 _ _ rfl (by omega) (by omega))
          · refine j_aload_n dX4_allSettle_66 rfl rfl ?_
            refine j_dup dX4_allSettle_67 rfl ?_
            refine j_getf dX4_allSettle_68 4 9 rfl (Nat.le_of_ble_eq_true rfl) fl_X4_46 in_4 (by first | exact tw_o | exact tw_c | exact tw_i | exact tw_p | exact tw_d) rfl ?_
            refine j_iconst (nI 1) dX4_allSettle_71 rfl ?_
            refine j_iload_n dX4_allSettle_72 rfl rfl ?_
            refine j_ishl dX4_allSettle_73 ?_
            refine j_iconst (-1) dX4_allSettle_74 rfl ?_
            refine j_ixor dX4_allSettle_75 ?_
            refine j_iand dX4_allSettle_76 ?_
            refine j_putf dX4_allSettle_77 4 9 rfl (Nat.le_of_ble_eq_true rfl) fl_X4_46 in_4 tyX4 tyX4_ok nmX4 rfl rfl (by first | exact tw_o | exact tw_c | exact tw_i | exact tw_p | exact tw_d) (Nat.le_of_ble_eq_true rfl) _ (by first | exact tws_o | exact tws_c | exact tws_i | exact tws_p | exact tws_d) ?_
            first | refine j_iincN dX4_allSettle_80 rfl (Nat.le_of_ble_eq_true rfl) rfl ?_ | refine j_iinc _ dX4_allSettle_80 rfl rfl (Nat.le_of_ble_eq_true rfl) rfl ?_
            refine j_goto 2 dX4_allSettle_83 (by decide) ?_
            first | (rw [if_pos (show dsum _ N i = 0 from b63)] at ih2) | skip
            first
              | (simp only [if_neg (show ¬ dsum _ N i = 0 from b63), if_pos (show 0 < dsum _ N i ∧ ¬ 0 < (stl i _ _ N).2.2 from ⟨Int32.not_le.mp b15, Int32.not_lt.mpr b29⟩)] at ih2; exact ih2 _ _ rfl (by omega) (by omega))
              | (simp only [if_neg (show ¬ dsum _ N i = 0 from b63), if_neg (show ¬ (0 < dsum _ N i ∧ ¬ 0 < (stl i _ _ N).2.2) from fun q => q.2 (Int32.not_le.mp b29))] at ih2; exact ih2 _ _ rfl (by omega) (by omega))
              | (simp only [if_neg (show ¬ dsum _ N i = 0 from b63), if_neg (show ¬ (0 < dsum _ N i ∧ ¬ 0 < (stl i _ _ N).2.2) from fun q => absurd q.1 (Int32.not_lt.mpr b15))] at ih2; exact ih2 _ _ rfl (by omega) (by omega))
              | (simp only [if_pos (show dsum _ N i = 0 from b63), if_pos (show 0 < dsum _ N i ∧ ¬ 0 < (stl i _ _ N).2.2 from ⟨Int32.not_le.mp b15, Int32.not_lt.mpr b29⟩)] at ih2; exact ih2 _ _ rfl (by omega) (by omega))
              | (simp only [if_pos (show dsum _ N i = 0 from b63), if_neg (show ¬ (0 < dsum _ N i ∧ ¬ 0 < (stl i _ _ N).2.2) from fun q => q.2 (Int32.not_le.mp b29))] at ih2; exact ih2 _ _ rfl (by omega) (by omega))
              | (simp only [if_pos (show dsum _ N i = 0 from b63), if_neg (show ¬ (0 < dsum _ N i ∧ ¬ 0 < (stl i _ _ N).2.2) from fun q => absurd q.1 (Int32.not_lt.mpr b15))] at ih2; exact ih2 _ _ rfl (by omega) (by omega))
/-- a quarter: cash, debts, who has FAILED -/
def qua (N : Nat) (seed : Int32) (inc ca de : Nat → Int32) (un ra : Int32) (q : Nat) (fa : Int32) : (Nat → Int32) × (Nat → Int32) × Int32 :=
  ((alS N (incC seed inc ca N) de fa N).1, (if nI (q + 1) - nI (q + 1) / nI 9 * nI 9 = 0 then fgv un (alS N (incC seed inc ca N) de fa N).2.1 49 else grw ra (alS N (incC seed inc ca N) de fa N).2.1 49), (alS N (incC seed inc ca N) de fa N).2.2)
theorem c_passQuarter {N q : Nat} (seed : Int32) (hN : N ≤ 7) (hinc : ∀ p, p < 7 → 0 ≤ inc p ∧ ¬ (inc p + nI 1).toInt64 = 0) : Ct G yX4_passQuarter cX4_passQuarter 3 none 5 0 0 z (tw σ t ca inc pa de (nI N) un ra (nI q) hi fa) [.ref t, .int seed] none z (tw σ t (qua N seed inc ca de un ra q fa).1 inc (fil (-1) pa N) (qua N seed inc ca de un ra q fa).2.1 (nI N) un ra (nI (q + 1)) hi (qua N seed inc ca de un ra q fa).2.2) := by
  refine Ct.ofJ RX4 rfl [some (.ref t), some (.int seed), none] rfl (by decide) (by simp [Value.category]) ?_
  have H : ∀ (de2 : Nat → Int32) (k i : Nat), de2 = (qua N seed inc ca de un ra q fa).2.1 → i ≤ N → N < i + k → J G RX4 cX4_passQuarter 3 none (TQ G 5 0 0 none z (tw σ t (qua N seed inc ca de un ra q fa).1 inc (fil (-1) pa N) (qua N seed inc ca de un ra q fa).2.1 (nI N) un ra (nI (q + 1)) hi (qua N seed inc ca de un ra q fa).2.2)) z (tw σ t (qua N seed inc ca de un ra q fa).1 inc (fil (-1) pa i) de2 (nI N) un ra (nI (q + 1)) hi (qua N seed inc ca de un ra q fa).2.2) 0 0 42 [some (.ref t), some (.int seed), some (.int (nI i))] [] := by
    intro de2 k
    induction k with
    | zero => intro i he h1 h2; exact absurd h2 (by omega)
    | succ k ih =>
      intro i he h1 h2
      refine j_iload_n dX4_passQuarter_42 rfl rfl ?_
      refine j_aload_n dX4_passQuarter_43 rfl rfl ?_
      refine j_getf dX4_passQuarter_44 4 4 rfl (Nat.le_of_ble_eq_true rfl) fl_X4_34 in_4 (by first | exact tw_o | exact tw_c | exact tw_i | exact tw_p | exact tw_d) rfl ?_
      refine j_icmp_geN 63 dX4_passQuarter_47 (by decide) (by omega) (by omega) (fun b47 => ?_) (fun b47 => ?_)
      · obtain rfl : i = N := by omega
        subst he
        exact j_vret rfl dX4_passQuarter_63 rfl (Nat.le_of_ble_eq_true rfl) (Nat.le_of_ble_eq_true rfl)
      · refine j_aload_n dX4_passQuarter_50 rfl rfl ?_
        refine j_getf dX4_passQuarter_51 4 2 rfl (Nat.le_of_ble_eq_true rfl) fl_X4_18 in_4 (by first | exact tw_o | exact tw_c | exact tw_i | exact tw_p | exact tw_d) rfl ?_
        refine j_iload_n dX4_passQuarter_54 rfl rfl ?_
        refine j_iconst (-1) dX4_passQuarter_55 rfl ?_
        refine j_iast dX4_passQuarter_56 (by first | exact tw_o | exact tw_c | exact tw_i | exact tw_p | exact tw_d) rfl (by omega) (by decide) _ (by first | exact tws_o | exact tws_c | exact tws_i | exact tws_p | exact tws_d) ?_
        first | refine j_iincN dX4_passQuarter_57 rfl (Nat.le_of_ble_eq_true rfl) rfl ?_ | refine j_iinc _ dX4_passQuarter_57 rfl rfl (Nat.le_of_ble_eq_true rfl) rfl ?_
        refine j_goto 42 dX4_passQuarter_60 (by decide) ?_
        exact ih (i + 1) he (by omega) (by omega)
  refine j_aload_n dX4_passQuarter_0 rfl rfl ?_
  refine j_dup dX4_passQuarter_1 rfl ?_
  refine j_getf dX4_passQuarter_2 4 7 rfl (Nat.le_of_ble_eq_true rfl) fl_X4_40 in_4 (by first | exact tw_o | exact tw_c | exact tw_i | exact tw_p | exact tw_d) rfl ?_
  refine j_iconst (nI 1) dX4_passQuarter_5 rfl ?_
  first | refine j_iaddN dX4_passQuarter_6 ?_ | refine j_iadd dX4_passQuarter_6 ?_
  refine j_putf dX4_passQuarter_7 4 7 rfl (Nat.le_of_ble_eq_true rfl) fl_X4_40 in_4 tyX4 tyX4_ok nmX4 rfl rfl (by first | exact tw_o | exact tw_c | exact tw_i | exact tw_p | exact tw_d) (Nat.le_of_ble_eq_true rfl) _ (by first | exact tws_o | exact tws_c | exact tws_i | exact tws_p | exact tws_d) ?_
  refine j_aload_n dX4_passQuarter_10 rfl rfl ?_
  refine j_iload_n dX4_passQuarter_11 rfl rfl ?_
  refine j_callV (c_incomesCome G z σ t ca inc pa de un ra _ hi fa seed hN hinc) dX4_passQuarter_12 rfl mv_X4_84 (by first | exact tw_o | exact tw_c | exact tw_i | exact tw_p | exact tw_d) rfl ⟨(Nat.le_of_ble_eq_true rfl), (Nat.le_of_ble_eq_true rfl)⟩ ⟨(Nat.le_of_ble_eq_true rfl), (Nat.le_of_ble_eq_true rfl)⟩ (Nat.le_of_ble_eq_true rfl) ?_
  refine j_aload_n dX4_passQuarter_15 rfl rfl ?_
  refine j_callV (c_allSettle G z σ t _ inc pa de un ra _ hi fa hN) dX4_passQuarter_16 rfl mv_X4_88 (by first | exact tw_o | exact tw_c | exact tw_i | exact tw_p | exact tw_d) rfl ⟨(Nat.le_of_ble_eq_true rfl), (Nat.le_of_ble_eq_true rfl)⟩ ⟨(Nat.le_of_ble_eq_true rfl), (Nat.le_of_ble_eq_true rfl)⟩ (Nat.le_of_ble_eq_true rfl) ?_
  refine j_aload_n dX4_passQuarter_19 rfl rfl ?_
  refine j_getf dX4_passQuarter_20 4 7 rfl (Nat.le_of_ble_eq_true rfl) fl_X4_40 in_4 (by first | exact tw_o | exact tw_c | exact tw_i | exact tw_p | exact tw_d) rfl ?_
  refine j_bipush (nI 9) dX4_passQuarter_23 rfl ?_
  refine j_irem dX4_passQuarter_25 (by decide) ?_
  refine j_if_ne 36 dX4_passQuarter_26 (by decide) (fun b26 => ?_) (fun b26 => ?_)
  · refine j_aload_n dX4_passQuarter_36 rfl rfl ?_
    refine j_callV (c_debtsGrow G z σ t _ inc pa _ _ un ra _ hi _) dX4_passQuarter_37 rfl mv_X4_94 (by first | exact tw_o | exact tw_c | exact tw_i | exact tw_p | exact tw_d) rfl ⟨(Nat.le_of_ble_eq_true rfl), (Nat.le_of_ble_eq_true rfl)⟩ ⟨(Nat.le_of_ble_eq_true rfl), (Nat.le_of_ble_eq_true rfl)⟩ (Nat.le_of_ble_eq_true rfl) ?_
    refine j_iconst (nI 0) dX4_passQuarter_40 rfl ?_
    refine j_istore_n dX4_passQuarter_41 rfl (Nat.le_of_ble_eq_true rfl) rfl ?_
    refine H _ (N + 1) 0 ?_ (by omega) (by omega)
    simp only [qua]
    first | rw [if_pos b26] | rw [if_neg b26]
  · refine j_aload_n dX4_passQuarter_29 rfl rfl ?_
    refine j_callV (c_smallDebtsAreForgiven G z σ t _ inc pa _ _ un ra _ hi _) dX4_passQuarter_30 rfl mv_X4_91 (by first | exact tw_o | exact tw_c | exact tw_i | exact tw_p | exact tw_d) rfl ⟨(Nat.le_of_ble_eq_true rfl), (Nat.le_of_ble_eq_true rfl)⟩ ⟨(Nat.le_of_ble_eq_true rfl), (Nat.le_of_ble_eq_true rfl)⟩ (Nat.le_of_ble_eq_true rfl) ?_
    refine j_goto 40 dX4_passQuarter_33 (by decide) ?_
    refine j_iconst (nI 0) dX4_passQuarter_40 rfl ?_
    refine j_istore_n dX4_passQuarter_41 rfl (Nat.le_of_ble_eq_true rfl) rfl ?_
    refine H _ (N + 1) 0 ?_ (by omega) (by omega)
    simp only [qua]
    first | rw [if_pos b26] | rw [if_neg b26]
theorem c_becomes (t2 : Nat) (ca2 inc2 pa2 de2 : Nat → Int32) (pe2 un2 ra2 qu2 hi2 fa2 : Int32) (hs : t2 + 4 < t ∨ t + 4 < t2) : Ct G yX4_becomes cX4_becomes 2 none 1 0 0 z (tw (tw σ t2 ca2 inc2 pa2 de2 pe2 un2 ra2 qu2 hi2 fa2) t ca inc pa de pe un ra qu hi fa) [.ref t, .ref t2] none z (tw (tw σ t2 ca2 inc2 pa2 de2 pe2 un2 ra2 qu2 hi2 fa2) t ca2 inc2 pa2 de2 pe2 un2 ra2 qu2 hi2 fa2) := by
  refine Ct.ofJ RX4 rfl [some (.ref t), some (.ref t2)] rfl (by decide) Nat.le.refl ?_
  refine j_aload_n dX4_becomes_0 rfl rfl ?_
  refine j_getf dX4_becomes_1 4 0 rfl (Nat.le_of_ble_eq_true rfl) fl_X4_9 in_4 (by first | exact tw_o | exact tw_c | exact tw_i | exact tw_p | exact tw_d | exact (tw_x (by omega)).trans tw_o | exact (tw_x (by omega)).trans tw_c | exact (tw_x (by omega)).trans tw_i | exact (tw_x (by omega)).trans tw_p | exact (tw_x (by omega)).trans tw_d) rfl ?_
  refine j_iconst (nI 0) dX4_becomes_4 rfl ?_
  refine j_aload_n dX4_becomes_5 rfl rfl ?_
  refine j_getf dX4_becomes_6 4 0 rfl (Nat.le_of_ble_eq_true rfl) fl_X4_9 in_4 (by first | exact tw_o | exact tw_c | exact tw_i | exact tw_p | exact tw_d | exact (tw_x (by omega)).trans tw_o | exact (tw_x (by omega)).trans tw_c | exact (tw_x (by omega)).trans tw_i | exact (tw_x (by omega)).trans tw_p | exact (tw_x (by omega)).trans tw_d) rfl ?_
  refine j_iconst (nI 0) dX4_becomes_9 rfl ?_
  refine j_bipush (nI 7) dX4_becomes_10 rfl ?_
  refine j_copy dX4_becomes_12 ac_X4_28 (by first | exact tw_o | exact tw_c | exact tw_i | exact tw_p | exact tw_d | exact (tw_x (by omega)).trans tw_o | exact (tw_x (by omega)).trans tw_c | exact (tw_x (by omega)).trans tw_i | exact (tw_x (by omega)).trans tw_p | exact (tw_x (by omega)).trans tw_d) (by first | exact tw_o | exact tw_c | exact tw_i | exact tw_p | exact tw_d | exact (tw_x (by omega)).trans tw_o | exact (tw_x (by omega)).trans tw_c | exact (tw_x (by omega)).trans tw_i | exact (tw_x (by omega)).trans tw_p | exact (tw_x (by omega)).trans tw_d) (by decide) (by decide) (by decide) (by decide) (Nat.le_of_ble_eq_true rfl) (Nat.le_of_ble_eq_true rfl) _ (by first | exact tws_o | exact tws_c | exact tws_i | exact tws_p | exact tws_d) ?_
  refine j_arr ca2 tw_c (fun j h => by rw [pk_cpy_in (by omega) (by omega)]; congr 1; omega) _ tws_c ?_
  refine j_aload_n dX4_becomes_15 rfl rfl ?_
  refine j_getf dX4_becomes_16 4 1 rfl (Nat.le_of_ble_eq_true rfl) fl_X4_15 in_4 (by first | exact tw_o | exact tw_c | exact tw_i | exact tw_p | exact tw_d | exact (tw_x (by omega)).trans tw_o | exact (tw_x (by omega)).trans tw_c | exact (tw_x (by omega)).trans tw_i | exact (tw_x (by omega)).trans tw_p | exact (tw_x (by omega)).trans tw_d) rfl ?_
  refine j_iconst (nI 0) dX4_becomes_19 rfl ?_
  refine j_aload_n dX4_becomes_20 rfl rfl ?_
  refine j_getf dX4_becomes_21 4 1 rfl (Nat.le_of_ble_eq_true rfl) fl_X4_15 in_4 (by first | exact tw_o | exact tw_c | exact tw_i | exact tw_p | exact tw_d | exact (tw_x (by omega)).trans tw_o | exact (tw_x (by omega)).trans tw_c | exact (tw_x (by omega)).trans tw_i | exact (tw_x (by omega)).trans tw_p | exact (tw_x (by omega)).trans tw_d) rfl ?_
  refine j_iconst (nI 0) dX4_becomes_24 rfl ?_
  refine j_bipush (nI 7) dX4_becomes_25 rfl ?_
  refine j_copy dX4_becomes_27 ac_X4_28 (by first | exact tw_o | exact tw_c | exact tw_i | exact tw_p | exact tw_d | exact (tw_x (by omega)).trans tw_o | exact (tw_x (by omega)).trans tw_c | exact (tw_x (by omega)).trans tw_i | exact (tw_x (by omega)).trans tw_p | exact (tw_x (by omega)).trans tw_d) (by first | exact tw_o | exact tw_c | exact tw_i | exact tw_p | exact tw_d | exact (tw_x (by omega)).trans tw_o | exact (tw_x (by omega)).trans tw_c | exact (tw_x (by omega)).trans tw_i | exact (tw_x (by omega)).trans tw_p | exact (tw_x (by omega)).trans tw_d) (by decide) (by decide) (by decide) (by decide) (Nat.le_of_ble_eq_true rfl) (Nat.le_of_ble_eq_true rfl) _ (by first | exact tws_o | exact tws_c | exact tws_i | exact tws_p | exact tws_d) ?_
  refine j_arr inc2 tw_i (fun j h => by rw [pk_cpy_in (by omega) (by omega)]; congr 1; omega) _ tws_i ?_
  refine j_aload_n dX4_becomes_30 rfl rfl ?_
  refine j_getf dX4_becomes_31 4 2 rfl (Nat.le_of_ble_eq_true rfl) fl_X4_18 in_4 (by first | exact tw_o | exact tw_c | exact tw_i | exact tw_p | exact tw_d | exact (tw_x (by omega)).trans tw_o | exact (tw_x (by omega)).trans tw_c | exact (tw_x (by omega)).trans tw_i | exact (tw_x (by omega)).trans tw_p | exact (tw_x (by omega)).trans tw_d) rfl ?_
  refine j_iconst (nI 0) dX4_becomes_34 rfl ?_
  refine j_aload_n dX4_becomes_35 rfl rfl ?_
  refine j_getf dX4_becomes_36 4 2 rfl (Nat.le_of_ble_eq_true rfl) fl_X4_18 in_4 (by first | exact tw_o | exact tw_c | exact tw_i | exact tw_p | exact tw_d | exact (tw_x (by omega)).trans tw_o | exact (tw_x (by omega)).trans tw_c | exact (tw_x (by omega)).trans tw_i | exact (tw_x (by omega)).trans tw_p | exact (tw_x (by omega)).trans tw_d) rfl ?_
  refine j_iconst (nI 0) dX4_becomes_39 rfl ?_
  refine j_bipush (nI 7) dX4_becomes_40 rfl ?_
  refine j_copy dX4_becomes_42 ac_X4_28 (by first | exact tw_o | exact tw_c | exact tw_i | exact tw_p | exact tw_d | exact (tw_x (by omega)).trans tw_o | exact (tw_x (by omega)).trans tw_c | exact (tw_x (by omega)).trans tw_i | exact (tw_x (by omega)).trans tw_p | exact (tw_x (by omega)).trans tw_d) (by first | exact tw_o | exact tw_c | exact tw_i | exact tw_p | exact tw_d | exact (tw_x (by omega)).trans tw_o | exact (tw_x (by omega)).trans tw_c | exact (tw_x (by omega)).trans tw_i | exact (tw_x (by omega)).trans tw_p | exact (tw_x (by omega)).trans tw_d) (by decide) (by decide) (by decide) (by decide) (Nat.le_of_ble_eq_true rfl) (Nat.le_of_ble_eq_true rfl) _ (by first | exact tws_o | exact tws_c | exact tws_i | exact tws_p | exact tws_d) ?_
  refine j_arr pa2 tw_p (fun j h => by rw [pk_cpy_in (by omega) (by omega)]; congr 1; omega) _ tws_p ?_
  refine j_aload_n dX4_becomes_45 rfl rfl ?_
  refine j_getf dX4_becomes_46 4 3 rfl (Nat.le_of_ble_eq_true rfl) fl_X4_21 in_4 (by first | exact tw_o | exact tw_c | exact tw_i | exact tw_p | exact tw_d | exact (tw_x (by omega)).trans tw_o | exact (tw_x (by omega)).trans tw_c | exact (tw_x (by omega)).trans tw_i | exact (tw_x (by omega)).trans tw_p | exact (tw_x (by omega)).trans tw_d) rfl ?_
  refine j_iconst (nI 0) dX4_becomes_49 rfl ?_
  refine j_aload_n dX4_becomes_50 rfl rfl ?_
  refine j_getf dX4_becomes_51 4 3 rfl (Nat.le_of_ble_eq_true rfl) fl_X4_21 in_4 (by first | exact tw_o | exact tw_c | exact tw_i | exact tw_p | exact tw_d | exact (tw_x (by omega)).trans tw_o | exact (tw_x (by omega)).trans tw_c | exact (tw_x (by omega)).trans tw_i | exact (tw_x (by omega)).trans tw_p | exact (tw_x (by omega)).trans tw_d) rfl ?_
  refine j_iconst (nI 0) dX4_becomes_54 rfl ?_
  refine j_bipush (nI 49) dX4_becomes_55 rfl ?_
  refine j_copy dX4_becomes_57 ac_X4_28 (by first | exact tw_o | exact tw_c | exact tw_i | exact tw_p | exact tw_d | exact (tw_x (by omega)).trans tw_o | exact (tw_x (by omega)).trans tw_c | exact (tw_x (by omega)).trans tw_i | exact (tw_x (by omega)).trans tw_p | exact (tw_x (by omega)).trans tw_d) (by first | exact tw_o | exact tw_c | exact tw_i | exact tw_p | exact tw_d | exact (tw_x (by omega)).trans tw_o | exact (tw_x (by omega)).trans tw_c | exact (tw_x (by omega)).trans tw_i | exact (tw_x (by omega)).trans tw_p | exact (tw_x (by omega)).trans tw_d) (by decide) (by decide) (by decide) (by decide) (Nat.le_of_ble_eq_true rfl) (Nat.le_of_ble_eq_true rfl) _ (by first | exact tws_o | exact tws_c | exact tws_i | exact tws_p | exact tws_d) ?_
  refine j_arr de2 tw_d (fun j h => by rw [pk_cpy_in (by omega) (by omega)]; congr 1; omega) _ tws_d ?_
  refine j_aload_n dX4_becomes_60 rfl rfl ?_
  refine j_aload_n dX4_becomes_61 rfl rfl ?_
  refine j_getf dX4_becomes_62 4 4 rfl (Nat.le_of_ble_eq_true rfl) fl_X4_34 in_4 (by first | exact tw_o | exact tw_c | exact tw_i | exact tw_p | exact tw_d | exact (tw_x (by omega)).trans tw_o | exact (tw_x (by omega)).trans tw_c | exact (tw_x (by omega)).trans tw_i | exact (tw_x (by omega)).trans tw_p | exact (tw_x (by omega)).trans tw_d) rfl ?_
  refine j_putf dX4_becomes_65 4 4 rfl (Nat.le_of_ble_eq_true rfl) fl_X4_34 in_4 tyX4 tyX4_ok nmX4 rfl rfl (by first | exact tw_o | exact tw_c | exact tw_i | exact tw_p | exact tw_d | exact (tw_x (by omega)).trans tw_o | exact (tw_x (by omega)).trans tw_c | exact (tw_x (by omega)).trans tw_i | exact (tw_x (by omega)).trans tw_p | exact (tw_x (by omega)).trans tw_d) (Nat.le_of_ble_eq_true rfl) _ (by first | exact tws_o | exact tws_c | exact tws_i | exact tws_p | exact tws_d) ?_
  refine j_aload_n dX4_becomes_68 rfl rfl ?_
  refine j_aload_n dX4_becomes_69 rfl rfl ?_
  refine j_getf dX4_becomes_70 4 5 rfl (Nat.le_of_ble_eq_true rfl) fl_X4_24 in_4 (by first | exact tw_o | exact tw_c | exact tw_i | exact tw_p | exact tw_d | exact (tw_x (by omega)).trans tw_o | exact (tw_x (by omega)).trans tw_c | exact (tw_x (by omega)).trans tw_i | exact (tw_x (by omega)).trans tw_p | exact (tw_x (by omega)).trans tw_d) rfl ?_
  refine j_putf dX4_becomes_73 4 5 rfl (Nat.le_of_ble_eq_true rfl) fl_X4_24 in_4 tyX4 tyX4_ok nmX4 rfl rfl (by first | exact tw_o | exact tw_c | exact tw_i | exact tw_p | exact tw_d | exact (tw_x (by omega)).trans tw_o | exact (tw_x (by omega)).trans tw_c | exact (tw_x (by omega)).trans tw_i | exact (tw_x (by omega)).trans tw_p | exact (tw_x (by omega)).trans tw_d) (Nat.le_of_ble_eq_true rfl) _ (by first | exact tws_o | exact tws_c | exact tws_i | exact tws_p | exact tws_d) ?_
  refine j_aload_n dX4_becomes_76 rfl rfl ?_
  refine j_aload_n dX4_becomes_77 rfl rfl ?_
  refine j_getf dX4_becomes_78 4 6 rfl (Nat.le_of_ble_eq_true rfl) fl_X4_37 in_4 (by first | exact tw_o | exact tw_c | exact tw_i | exact tw_p | exact tw_d | exact (tw_x (by omega)).trans tw_o | exact (tw_x (by omega)).trans tw_c | exact (tw_x (by omega)).trans tw_i | exact (tw_x (by omega)).trans tw_p | exact (tw_x (by omega)).trans tw_d) rfl ?_
  refine j_putf dX4_becomes_81 4 6 rfl (Nat.le_of_ble_eq_true rfl) fl_X4_37 in_4 tyX4 tyX4_ok nmX4 rfl rfl (by first | exact tw_o | exact tw_c | exact tw_i | exact tw_p | exact tw_d | exact (tw_x (by omega)).trans tw_o | exact (tw_x (by omega)).trans tw_c | exact (tw_x (by omega)).trans tw_i | exact (tw_x (by omega)).trans tw_p | exact (tw_x (by omega)).trans tw_d) (Nat.le_of_ble_eq_true rfl) _ (by first | exact tws_o | exact tws_c | exact tws_i | exact tws_p | exact tws_d) ?_
  refine j_aload_n dX4_becomes_84 rfl rfl ?_
  refine j_aload_n dX4_becomes_85 rfl rfl ?_
  refine j_getf dX4_becomes_86 4 7 rfl (Nat.le_of_ble_eq_true rfl) fl_X4_40 in_4 (by first | exact tw_o | exact tw_c | exact tw_i | exact tw_p | exact tw_d | exact (tw_x (by omega)).trans tw_o | exact (tw_x (by omega)).trans tw_c | exact (tw_x (by omega)).trans tw_i | exact (tw_x (by omega)).trans tw_p | exact (tw_x (by omega)).trans tw_d) rfl ?_
  refine j_putf dX4_becomes_89 4 7 rfl (Nat.le_of_ble_eq_true rfl) fl_X4_40 in_4 tyX4 tyX4_ok nmX4 rfl rfl (by first | exact tw_o | exact tw_c | exact tw_i | exact tw_p | exact tw_d | exact (tw_x (by omega)).trans tw_o | exact (tw_x (by omega)).trans tw_c | exact (tw_x (by omega)).trans tw_i | exact (tw_x (by omega)).trans tw_p | exact (tw_x (by omega)).trans tw_d) (Nat.le_of_ble_eq_true rfl) _ (by first | exact tws_o | exact tws_c | exact tws_i | exact tws_p | exact tws_d) ?_
  refine j_aload_n dX4_becomes_92 rfl rfl ?_
  refine j_aload_n dX4_becomes_93 rfl rfl ?_
  refine j_getf dX4_becomes_94 4 8 rfl (Nat.le_of_ble_eq_true rfl) fl_X4_43 in_4 (by first | exact tw_o | exact tw_c | exact tw_i | exact tw_p | exact tw_d | exact (tw_x (by omega)).trans tw_o | exact (tw_x (by omega)).trans tw_c | exact (tw_x (by omega)).trans tw_i | exact (tw_x (by omega)).trans tw_p | exact (tw_x (by omega)).trans tw_d) rfl ?_
  refine j_putf dX4_becomes_97 4 8 rfl (Nat.le_of_ble_eq_true rfl) fl_X4_43 in_4 tyX4 tyX4_ok nmX4 rfl rfl (by first | exact tw_o | exact tw_c | exact tw_i | exact tw_p | exact tw_d | exact (tw_x (by omega)).trans tw_o | exact (tw_x (by omega)).trans tw_c | exact (tw_x (by omega)).trans tw_i | exact (tw_x (by omega)).trans tw_p | exact (tw_x (by omega)).trans tw_d) (Nat.le_of_ble_eq_true rfl) _ (by first | exact tws_o | exact tws_c | exact tws_i | exact tws_p | exact tws_d) ?_
  refine j_aload_n dX4_becomes_100 rfl rfl ?_
  refine j_aload_n dX4_becomes_101 rfl rfl ?_
  refine j_getf dX4_becomes_102 4 9 rfl (Nat.le_of_ble_eq_true rfl) fl_X4_46 in_4 (by first | exact tw_o | exact tw_c | exact tw_i | exact tw_p | exact tw_d | exact (tw_x (by omega)).trans tw_o | exact (tw_x (by omega)).trans tw_c | exact (tw_x (by omega)).trans tw_i | exact (tw_x (by omega)).trans tw_p | exact (tw_x (by omega)).trans tw_d) rfl ?_
  refine j_putf dX4_becomes_105 4 9 rfl (Nat.le_of_ble_eq_true rfl) fl_X4_46 in_4 tyX4 tyX4_ok nmX4 rfl rfl (by first | exact tw_o | exact tw_c | exact tw_i | exact tw_p | exact tw_d | exact (tw_x (by omega)).trans tw_o | exact (tw_x (by omega)).trans tw_c | exact (tw_x (by omega)).trans tw_i | exact (tw_x (by omega)).trans tw_p | exact (tw_x (by omega)).trans tw_d) (Nat.le_of_ble_eq_true rfl) _ (by first | exact tws_o | exact tws_c | exact tws_i | exact tws_p | exact tws_d) ?_
  exact j_vret rfl dX4_becomes_108 rfl (Nat.le_of_ble_eq_true rfl) (Nat.le_of_ble_eq_true rfl)
theorem c_settlesIn {N : Nat} (c i h : Int32) (hN : N < 7) : Ct G yX4_settlesIn cX4_settlesIn 4 none 1 0 0 z (tw σ t ca inc pa de (nI N) un ra qu hi fa) [.ref t, .int c, .int i, .int h] none z (tw σ t (upd ca N c) (upd inc N i) (upd pa N (-1)) de (nI (N + 1)) un ra qu (if h = 0 then hi else orI hi N) fa) := by
  refine Ct.ofJ RX4 rfl [some (.ref t), some (.int c), some (.int i), some (.int h)] rfl (by decide) Nat.le.refl ?_
  refine j_aload_n dX4_settlesIn_0 rfl rfl ?_
  refine j_getf dX4_settlesIn_1 4 4 rfl (Nat.le_of_ble_eq_true rfl) fl_X4_34 in_4 (by first | exact tw_o | exact tw_c | exact tw_i | exact tw_p | exact tw_d) rfl ?_
  refine j_bipush (nI 7) dX4_settlesIn_4 rfl ?_
  refine j_icmp_ltN 10 dX4_settlesIn_6 (by decide) (by omega) (by omega) (fun b6 => ?_) (fun b6 => ?_)
  · refine j_aload_n dX4_settlesIn_10 rfl rfl ?_
    refine j_getf dX4_settlesIn_11 4 0 rfl (Nat.le_of_ble_eq_true rfl) fl_X4_9 in_4 (by first | exact tw_o | exact tw_c | exact tw_i | exact tw_p | exact tw_d) rfl ?_
    refine j_aload_n dX4_settlesIn_14 rfl rfl ?_
    refine j_getf dX4_settlesIn_15 4 4 rfl (Nat.le_of_ble_eq_true rfl) fl_X4_34 in_4 (by first | exact tw_o | exact tw_c | exact tw_i | exact tw_p | exact tw_d) rfl ?_
    refine j_iload_n dX4_settlesIn_18 rfl rfl ?_
    refine j_iast dX4_settlesIn_19 (by first | exact tw_o | exact tw_c | exact tw_i | exact tw_p | exact tw_d) rfl (by omega) (by decide) _ (by first | exact tws_o | exact tws_c | exact tws_i | exact tws_p | exact tws_d) ?_
    refine j_aload_n dX4_settlesIn_20 rfl rfl ?_
    refine j_getf dX4_settlesIn_21 4 1 rfl (Nat.le_of_ble_eq_true rfl) fl_X4_15 in_4 (by first | exact tw_o | exact tw_c | exact tw_i | exact tw_p | exact tw_d) rfl ?_
    refine j_aload_n dX4_settlesIn_24 rfl rfl ?_
    refine j_getf dX4_settlesIn_25 4 4 rfl (Nat.le_of_ble_eq_true rfl) fl_X4_34 in_4 (by first | exact tw_o | exact tw_c | exact tw_i | exact tw_p | exact tw_d) rfl ?_
    refine j_iload_n dX4_settlesIn_28 rfl rfl ?_
    refine j_iast dX4_settlesIn_29 (by first | exact tw_o | exact tw_c | exact tw_i | exact tw_p | exact tw_d) rfl (by omega) (by decide) _ (by first | exact tws_o | exact tws_c | exact tws_i | exact tws_p | exact tws_d) ?_
    refine j_aload_n dX4_settlesIn_30 rfl rfl ?_
    refine j_getf dX4_settlesIn_31 4 2 rfl (Nat.le_of_ble_eq_true rfl) fl_X4_18 in_4 (by first | exact tw_o | exact tw_c | exact tw_i | exact tw_p | exact tw_d) rfl ?_
    refine j_aload_n dX4_settlesIn_34 rfl rfl ?_
    refine j_getf dX4_settlesIn_35 4 4 rfl (Nat.le_of_ble_eq_true rfl) fl_X4_34 in_4 (by first | exact tw_o | exact tw_c | exact tw_i | exact tw_p | exact tw_d) rfl ?_
    refine j_iconst (-1) dX4_settlesIn_38 rfl ?_
    refine j_iast dX4_settlesIn_39 (by first | exact tw_o | exact tw_c | exact tw_i | exact tw_p | exact tw_d) rfl (by omega) (by decide) _ (by first | exact tws_o | exact tws_c | exact tws_i | exact tws_p | exact tws_d) ?_
    refine j_iload_n dX4_settlesIn_40 rfl rfl ?_
    refine j_if_eq 59 dX4_settlesIn_41 (by decide) (fun b41 => ?_) (fun b41 => ?_)
    · refine j_aload_n dX4_settlesIn_59 rfl rfl ?_
      refine j_dup dX4_settlesIn_60 rfl ?_
      refine j_getf dX4_settlesIn_61 4 4 rfl (Nat.le_of_ble_eq_true rfl) fl_X4_34 in_4 (by first | exact tw_o | exact tw_c | exact tw_i | exact tw_p | exact tw_d) rfl ?_
      refine j_iconst (nI 1) dX4_settlesIn_64 rfl ?_
      first | refine j_iaddN dX4_settlesIn_65 ?_ | refine j_iadd dX4_settlesIn_65 ?_
      refine j_putf dX4_settlesIn_66 4 4 rfl (Nat.le_of_ble_eq_true rfl) fl_X4_34 in_4 tyX4 tyX4_ok nmX4 rfl rfl (by first | exact tw_o | exact tw_c | exact tw_i | exact tw_p | exact tw_d) (Nat.le_of_ble_eq_true rfl) _ (by first | exact tws_o | exact tws_c | exact tws_i | exact tws_p | exact tws_d) ?_
      exact j_vret rfl dX4_settlesIn_69 (by first | rw [if_pos b41] | rw [if_neg b41]; rfl) (Nat.le_of_ble_eq_true rfl) (Nat.le_of_ble_eq_true rfl)
    · refine j_aload_n dX4_settlesIn_44 rfl rfl ?_
      refine j_dup dX4_settlesIn_45 rfl ?_
      refine j_getf dX4_settlesIn_46 4 8 rfl (Nat.le_of_ble_eq_true rfl) fl_X4_43 in_4 (by first | exact tw_o | exact tw_c | exact tw_i | exact tw_p | exact tw_d) rfl ?_
      refine j_iconst (nI 1) dX4_settlesIn_49 rfl ?_
      refine j_aload_n dX4_settlesIn_50 rfl rfl ?_
      refine j_getf dX4_settlesIn_51 4 4 rfl (Nat.le_of_ble_eq_true rfl) fl_X4_34 in_4 (by first | exact tw_o | exact tw_c | exact tw_i | exact tw_p | exact tw_d) rfl ?_
      refine j_ishl dX4_settlesIn_54 ?_
      refine j_ior dX4_settlesIn_55 ?_
      refine j_putf dX4_settlesIn_56 4 8 rfl (Nat.le_of_ble_eq_true rfl) fl_X4_43 in_4 tyX4 tyX4_ok nmX4 rfl rfl (by first | exact tw_o | exact tw_c | exact tw_i | exact tw_p | exact tw_d) (Nat.le_of_ble_eq_true rfl) _ (by first | exact tws_o | exact tws_c | exact tws_i | exact tws_p | exact tws_d) ?_
      refine j_aload_n dX4_settlesIn_59 rfl rfl ?_
      refine j_dup dX4_settlesIn_60 rfl ?_
      refine j_getf dX4_settlesIn_61 4 4 rfl (Nat.le_of_ble_eq_true rfl) fl_X4_34 in_4 (by first | exact tw_o | exact tw_c | exact tw_i | exact tw_p | exact tw_d) rfl ?_
      refine j_iconst (nI 1) dX4_settlesIn_64 rfl ?_
      first | refine j_iaddN dX4_settlesIn_65 ?_ | refine j_iadd dX4_settlesIn_65 ?_
      refine j_putf dX4_settlesIn_66 4 4 rfl (Nat.le_of_ble_eq_true rfl) fl_X4_34 in_4 tyX4 tyX4_ok nmX4 rfl rfl (by first | exact tw_o | exact tw_c | exact tw_i | exact tw_p | exact tw_d) (Nat.le_of_ble_eq_true rfl) _ (by first | exact tws_o | exact tws_c | exact tws_i | exact tws_p | exact tws_d) ?_
      exact j_vret rfl dX4_settlesIn_69 (by first | rw [if_pos b41] | rw [if_neg b41]; rfl) (Nat.le_of_ble_eq_true rfl) (Nat.le_of_ble_eq_true rfl)
  · exfalso; omega
end T5
end
section
/-! ROWS (two cells), ACTS, static tables -/
def rw' (σ : AH) (a : Nat) (it : Nat → Int32) (la le : Int32) : AH := fun k => if k = a then some (.inr (.inr (3, [.ref (a + 1), .int la, .int le]))) else if k = a + 1 then some (.inl (0, 40, it)) else σ k
section RW
variable {σ : AH} {a : Nat} {it it2 : Nat → Int32} {la le la2 le2 : Int32}
theorem rw_o : rw' σ a it la le a = some (.inr (.inr (3, [.ref (a + 1), .int la, .int le]))) := by simp [rw']
theorem rw_i : rw' σ a it la le (a + 1) = some (.inl (0, 40, it)) := by simp [rw']
theorem rw_x {k : Nat} (h : k < a ∨ a + 1 < k) : rw' σ a it la le k = σ k := by
  unfold rw'
  rw [if_neg (by omega), if_neg (by omega)]
theorem rws_o : ups (rw' σ a it la le) a (.inr (.inr (3, [.ref (a + 1), .int la2, .int le2]))) = rw' σ a it la2 le2 := by
  funext k; unfold ups rw'; split <;> simp_all
theorem rws_i : ups (rw' σ a it la le) (a + 1) (.inl (0, 40, it2)) = rw' σ a it2 la le := by
  funext k; unfold ups rw'; split <;> simp_all
theorem rw_self (h1 : σ a = some (.inr (.inr (3, [.ref (a + 1), .int la, .int le])))) (h2 : σ (a + 1) = some (.inl (0, 40, it))) : rw' σ a it la le = σ := by
  funext k
  unfold rw'
  by_cases e1 : k = a
  · subst e1; rw [if_pos rfl, h1]
  · rw [if_neg e1]
    by_cases e2 : k = a + 1
    · subst e2; rw [if_pos rfl, h2]
    · rw [if_neg e2]
end RW
theorem tw_self {σ : AH} {t : Nat} {ca inc pa de : Nat → Int32} {pe un ra qu hi fa : Int32} (h0 : σ t = some (.inr (.inr (4, [.ref (t + 1), .ref (t + 2), .ref (t + 3), .ref (t + 4), .int pe, .int un, .int ra, .int qu, .int hi, .int fa])))) (h1 : σ (t + 1) = some (.inl (0, 7, ca))) (h2 : σ (t + 2) = some (.inl (0, 7, inc))) (h3 : σ (t + 3) = some (.inl (0, 7, pa))) (h4 : σ (t + 4) = some (.inl (0, 49, de))) : tw σ t ca inc pa de pe un ra qu hi fa = σ := by
  funext k
  unfold tw
  by_cases e0 : k = t
  · subst e0; rw [if_pos rfl, h0]
  · rw [if_neg e0]
    by_cases e1 : k = t + 1
    · subst e1; rw [if_pos rfl, h1]
    · rw [if_neg e1]
      by_cases e2 : k = t + 2
      · subst e2; rw [if_pos rfl, h2]
      · rw [if_neg e2]
        by_cases e3 : k = t + 3
        · subst e3; rw [if_pos rfl, h3]
        · rw [if_neg e3]
          by_cases e4 : k = t + 4
          · subst e4; rw [if_pos rfl, h4]
          · rw [if_neg e4]
section JT
variable {G : GG} {oR : String} {oc : ByteArray} {on : Nat} {ort : Option FieldType} {T : TG} {z kc ks pc : Nat} {σ : AH} {L : List (Option Value)} {st : List Value}
theorem j_gets {ix : Nat} (C n : String) (k : Nat) (hd : decode oc pc = .ok (.getstatic ix, 3)) (hl : Cond.fieldLink oR ix C n "[I" ∈ gw) (hz : ∀ (U : State) (H : Heap), Gx G U H → va_Z C n "[I" (.ref (ad G (EXT + k))) (AG G) U H) (kk : J G oR oc on ort T z σ kc ks (pc + 3) L (.ref (EXT + k) :: st)) : J G oR oc on ort T z σ kc ks pc L st := by
  intro p l e s m args below meth c H locs ls C0 X hw hS hL
  exact va_gets C0.1 C0.2.1 (hz _ _ C0.2.2.2.2.2.2.2.2.1) hS C0.2.2.2.2.1 (C0.2.2.2.2.2.1 _ hl) (fun _ h => h) hd (kk p l e s m args below meth c H locs ls C0 X hw hS hL)
theorem j_tld {q : Nat} {i : Int32} (k : Nat) (tb : List Int32) (hd : decode oc pc = .ok (.iaload, 1)) (hz : ∀ (U : State) (H : Heap), Gx G U H → va_T .int (ad G (EXT + k)) 6 (fun j => .int (tb.getD j 0)) (AG G) U H) (hi : i = nI q) (hq : q < 6) (v : Int32) (hv : tb.getD q 0 = v) (kk : J G oR oc on ort T z σ kc ks (pc + 1) L (.int v :: st)) : J G oR oc on ort T z σ kc ks pc L (.int i :: .ref (EXT + k) :: st) := by
  intro p l e s m args below meth c H locs ls C0 X hw hS hL
  subst hi; subst hv
  refine va_ti (v := .int (tb.getD q 0)) C0.1 C0.2.1 (hz _ _ C0.2.2.2.2.2.2.2.2.1) hS (vp_in_nI hq (by decide)) ?_ hd (kk p l e s m args below meth c H locs ls C0 X hw hS hL)
  rw [nI_clamp (by omega)]
end JT
theorem dX3_isMissing_0 : decode cX3_isMissing 0 = .ok (.aload_n 0, 1) := by decide +kernel
theorem dX3_isMissing_1 : decode cX3_isMissing 1 = .ok (.getfield 15, 3) := by decide +kernel
theorem dX3_isMissing_4 : decode cX3_isMissing 4 = .ok (.iconst (-1), 1) := by decide +kernel
theorem dX3_isMissing_5 : decode cX3_isMissing 5 = .ok (.if_icmp .ne 7, 3) := by decide +kernel
theorem dX3_isMissing_8 : decode cX3_isMissing 8 = .ok (.iconst 1, 1) := by decide +kernel
theorem dX3_isMissing_9 : decode cX3_isMissing 9 = .ok (.goto 4, 3) := by decide +kernel
theorem dX3_isMissing_12 : decode cX3_isMissing 12 = .ok (.iconst 0, 1) := by decide +kernel
theorem dX3_isMissing_13 : decode cX3_isMissing 13 = .ok (.ireturn, 1) := by decide +kernel
theorem dX3_begin_0 : decode cX3_begin 0 = .ok (.aload_n 0, 1) := by decide +kernel
theorem dX3_begin_1 : decode cX3_begin 1 = .ok (.iload_n 1, 1) := by decide +kernel
theorem dX3_begin_2 : decode cX3_begin 2 = .ok (.putfield 15, 3) := by decide +kernel
theorem dX3_begin_5 : decode cX3_begin 5 = .ok (.aload_n 0, 1) := by decide +kernel
theorem dX3_begin_6 : decode cX3_begin 6 = .ok (.iload_n 2, 1) := by decide +kernel
theorem dX3_begin_7 : decode cX3_begin 7 = .ok (.putfield 19, 3) := by decide +kernel
theorem dX3_begin_10 : decode cX3_begin 10 = .ok (.iconst 0, 1) := by decide +kernel
theorem dX3_begin_11 : decode cX3_begin 11 = .ok (.istore_n 3, 1) := by decide +kernel
theorem dX3_begin_12 : decode cX3_begin 12 = .ok (.iload_n 3, 1) := by decide +kernel
theorem dX3_begin_13 : decode cX3_begin 13 = .ok (.iload_n 2, 1) := by decide +kernel
theorem dX3_begin_14 : decode cX3_begin 14 = .ok (.if_icmp .ge 16, 3) := by decide +kernel
theorem dX3_begin_17 : decode cX3_begin 17 = .ok (.aload_n 0, 1) := by decide +kernel
theorem dX3_begin_18 : decode cX3_begin 18 = .ok (.getfield 9, 3) := by decide +kernel
theorem dX3_begin_21 : decode cX3_begin 21 = .ok (.iload_n 3, 1) := by decide +kernel
theorem dX3_begin_22 : decode cX3_begin 22 = .ok (.iconst 0, 1) := by decide +kernel
theorem dX3_begin_23 : decode cX3_begin 23 = .ok (.iastore, 1) := by decide +kernel
theorem dX3_begin_24 : decode cX3_begin 24 = .ok (.iinc 3 1, 3) := by decide +kernel
theorem dX3_begin_27 : decode cX3_begin 27 = .ok (.goto (-15), 3) := by decide +kernel
theorem dX3_begin_30 : decode cX3_begin 30 = .ok (.return_, 1) := by decide +kernel
theorem dX3_vanish_0 : decode cX3_vanish 0 = .ok (.aload_n 0, 1) := by decide +kernel
theorem dX3_vanish_1 : decode cX3_vanish 1 = .ok (.iconst (-1), 1) := by decide +kernel
theorem dX3_vanish_2 : decode cX3_vanish 2 = .ok (.putfield 15, 3) := by decide +kernel
theorem dX3_vanish_5 : decode cX3_vanish 5 = .ok (.aload_n 0, 1) := by decide +kernel
theorem dX3_vanish_6 : decode cX3_vanish 6 = .ok (.iconst 0, 1) := by decide +kernel
theorem dX3_vanish_7 : decode cX3_vanish 7 = .ok (.putfield 19, 3) := by decide +kernel
theorem dX3_vanish_10 : decode cX3_vanish 10 = .ok (.return_, 1) := by decide +kernel
theorem dX3_hasRange_0 : decode cX3_hasRange 0 = .ok (.iload_n 1, 1) := by decide +kernel
theorem dX3_hasRange_1 : decode cX3_hasRange 1 = .ok (.ifCond .lt 21, 3) := by decide +kernel
theorem dX3_hasRange_4 : decode cX3_hasRange 4 = .ok (.iload_n 2, 1) := by decide +kernel
theorem dX3_hasRange_5 : decode cX3_hasRange 5 = .ok (.ifCond .lt 17, 3) := by decide +kernel
theorem dX3_hasRange_8 : decode cX3_hasRange 8 = .ok (.iload_n 1, 1) := by decide +kernel
theorem dX3_hasRange_9 : decode cX3_hasRange 9 = .ok (.aload_n 0, 1) := by decide +kernel
theorem dX3_hasRange_10 : decode cX3_hasRange 10 = .ok (.getfield 19, 3) := by decide +kernel
theorem dX3_hasRange_13 : decode cX3_hasRange 13 = .ok (.iload_n 2, 1) := by decide +kernel
theorem dX3_hasRange_14 : decode cX3_hasRange 14 = .ok (.isub, 1) := by decide +kernel
theorem dX3_hasRange_15 : decode cX3_hasRange 15 = .ok (.if_icmp .gt 7, 3) := by decide +kernel
theorem dX3_hasRange_18 : decode cX3_hasRange 18 = .ok (.iconst 1, 1) := by decide +kernel
theorem dX3_hasRange_19 : decode cX3_hasRange 19 = .ok (.goto 4, 3) := by decide +kernel
theorem dX3_hasRange_22 : decode cX3_hasRange 22 = .ok (.iconst 0, 1) := by decide +kernel
theorem dX3_hasRange_23 : decode cX3_hasRange 23 = .ok (.ireturn, 1) := by decide +kernel
theorem dX3_put_0 : decode cX3_put 0 = .ok (.aload_n 0, 1) := by decide +kernel
theorem dX3_put_1 : decode cX3_put 1 = .ok (.getfield 15, 3) := by decide +kernel
theorem dX3_put_4 : decode cX3_put 4 = .ok (.ifCond .ne 14, 3) := by decide +kernel
theorem dX3_put_7 : decode cX3_put 7 = .ok (.aload_n 0, 1) := by decide +kernel
theorem dX3_put_8 : decode cX3_put 8 = .ok (.getfield 9, 3) := by decide +kernel
theorem dX3_put_11 : decode cX3_put 11 = .ok (.iload_n 1, 1) := by decide +kernel
theorem dX3_put_12 : decode cX3_put 12 = .ok (.iload_n 2, 1) := by decide +kernel
theorem dX3_put_13 : decode cX3_put 13 = .ok (.i2b, 1) := by decide +kernel
theorem dX3_put_14 : decode cX3_put 14 = .ok (.iastore, 1) := by decide +kernel
theorem dX3_put_15 : decode cX3_put 15 = .ok (.goto 29, 3) := by decide +kernel
theorem dX3_put_18 : decode cX3_put 18 = .ok (.aload_n 0, 1) := by decide +kernel
theorem dX3_put_19 : decode cX3_put 19 = .ok (.getfield 15, 3) := by decide +kernel
theorem dX3_put_22 : decode cX3_put 22 = .ok (.iconst 1, 1) := by decide +kernel
theorem dX3_put_23 : decode cX3_put 23 = .ok (.if_icmp .ne 14, 3) := by decide +kernel
theorem dX3_put_26 : decode cX3_put 26 = .ok (.aload_n 0, 1) := by decide +kernel
theorem dX3_put_27 : decode cX3_put 27 = .ok (.getfield 9, 3) := by decide +kernel
theorem dX3_put_30 : decode cX3_put 30 = .ok (.iload_n 1, 1) := by decide +kernel
theorem dX3_put_31 : decode cX3_put 31 = .ok (.iload_n 2, 1) := by decide +kernel
theorem dX3_put_32 : decode cX3_put 32 = .ok (.i2s, 1) := by decide +kernel
theorem dX3_put_33 : decode cX3_put 33 = .ok (.iastore, 1) := by decide +kernel
theorem dX3_put_34 : decode cX3_put 34 = .ok (.goto 10, 3) := by decide +kernel
theorem dX3_put_37 : decode cX3_put 37 = .ok (.aload_n 0, 1) := by decide +kernel
theorem dX3_put_38 : decode cX3_put 38 = .ok (.getfield 9, 3) := by decide +kernel
theorem dX3_put_41 : decode cX3_put 41 = .ok (.iload_n 1, 1) := by decide +kernel
theorem dX3_put_42 : decode cX3_put 42 = .ok (.iload_n 2, 1) := by decide +kernel
theorem dX3_put_43 : decode cX3_put 43 = .ok (.iastore, 1) := by decide +kernel
theorem dX3_put_44 : decode cX3_put 44 = .ok (.aload_n 0, 1) := by decide +kernel
theorem dX3_put_45 : decode cX3_put 45 = .ok (.getfield 9, 3) := by decide +kernel
theorem dX3_put_48 : decode cX3_put 48 = .ok (.iload_n 1, 1) := by decide +kernel
theorem dX3_put_49 : decode cX3_put 49 = .ok (.iaload, 1) := by decide +kernel
theorem dX3_put_50 : decode cX3_put 50 = .ok (.ireturn, 1) := by decide +kernel
theorem dX0_forgetAll_0 : decode cX0_forgetAll 0 = .ok (.aload_n 0, 1) := by decide +kernel
theorem dX0_forgetAll_1 : decode cX0_forgetAll 1 = .ok (.iconst 0, 1) := by decide +kernel
theorem dX0_forgetAll_2 : decode cX0_forgetAll 2 = .ok (.putfield 18, 3) := by decide +kernel
theorem dX0_forgetAll_5 : decode cX0_forgetAll 5 = .ok (.aload_n 0, 1) := by decide +kernel
theorem dX0_forgetAll_6 : decode cX0_forgetAll 6 = .ok (.iconst 0, 1) := by decide +kernel
theorem dX0_forgetAll_7 : decode cX0_forgetAll 7 = .ok (.putfield 22, 3) := by decide +kernel
theorem dX0_forgetAll_10 : decode cX0_forgetAll 10 = .ok (.return_, 1) := by decide +kernel
theorem dX0_keep_0 : decode cX0_keep 0 = .ok (.aload_n 0, 1) := by decide +kernel
theorem dX0_keep_1 : decode cX0_keep 1 = .ok (.getfield 11, 3) := by decide +kernel
theorem dX0_keep_4 : decode cX0_keep 4 = .ok (.aload_n 0, 1) := by decide +kernel
theorem dX0_keep_5 : decode cX0_keep 5 = .ok (.getfield 18, 3) := by decide +kernel
theorem dX0_keep_8 : decode cX0_keep 8 = .ok (.aaload, 1) := by decide +kernel
theorem dX0_keep_9 : decode cX0_keep 9 = .ok (.aload_n 1, 1) := by decide +kernel
theorem dX0_keep_10 : decode cX0_keep 10 = .ok (.invokevirtual 25, 3) := by decide +kernel
theorem dX0_keep_13 : decode cX0_keep 13 = .ok (.aload_n 0, 1) := by decide +kernel
theorem dX0_keep_14 : decode cX0_keep 14 = .ok (.aload_n 0, 1) := by decide +kernel
theorem dX0_keep_15 : decode cX0_keep 15 = .ok (.getfield 18, 3) := by decide +kernel
theorem dX0_keep_18 : decode cX0_keep 18 = .ok (.iconst 1, 1) := by decide +kernel
theorem dX0_keep_19 : decode cX0_keep 19 = .ok (.iadd, 1) := by decide +kernel
theorem dX0_keep_20 : decode cX0_keep 20 = .ok (.bipush 24, 2) := by decide +kernel
theorem dX0_keep_22 : decode cX0_keep 22 = .ok (.if_icmp .ge 12, 3) := by decide +kernel
theorem dX0_keep_25 : decode cX0_keep 25 = .ok (.aload_n 0, 1) := by decide +kernel
theorem dX0_keep_26 : decode cX0_keep 26 = .ok (.getfield 18, 3) := by decide +kernel
theorem dX0_keep_29 : decode cX0_keep 29 = .ok (.iconst 1, 1) := by decide +kernel
theorem dX0_keep_30 : decode cX0_keep 30 = .ok (.iadd, 1) := by decide +kernel
theorem dX0_keep_31 : decode cX0_keep 31 = .ok (.goto 4, 3) := by decide +kernel
theorem dX0_keep_34 : decode cX0_keep 34 = .ok (.iconst 0, 1) := by decide +kernel
theorem dX0_keep_35 : decode cX0_keep 35 = .ok (.putfield 18, 3) := by decide +kernel
theorem dX0_keep_38 : decode cX0_keep 38 = .ok (.aload_n 0, 1) := by decide +kernel
theorem dX0_keep_39 : decode cX0_keep 39 = .ok (.aload_n 0, 1) := by decide +kernel
theorem dX0_keep_40 : decode cX0_keep 40 = .ok (.getfield 22, 3) := by decide +kernel
theorem dX0_keep_43 : decode cX0_keep 43 = .ok (.iconst 1, 1) := by decide +kernel
theorem dX0_keep_44 : decode cX0_keep 44 = .ok (.iadd, 1) := by decide +kernel
theorem dX0_keep_45 : decode cX0_keep 45 = .ok (.bipush 24, 2) := by decide +kernel
theorem dX0_keep_47 : decode cX0_keep 47 = .ok (.invokestatic 29, 3) := by decide +kernel
theorem dX0_keep_50 : decode cX0_keep 50 = .ok (.putfield 22, 3) := by decide +kernel
theorem dX0_keep_53 : decode cX0_keep 53 = .ok (.return_, 1) := by decide +kernel
theorem dX0_takeBack_0 : decode cX0_takeBack 0 = .ok (.aload_n 0, 1) := by decide +kernel
theorem dX0_takeBack_1 : decode cX0_takeBack 1 = .ok (.aload_n 0, 1) := by decide +kernel
theorem dX0_takeBack_2 : decode cX0_takeBack 2 = .ok (.getfield 18, 3) := by decide +kernel
theorem dX0_takeBack_5 : decode cX0_takeBack 5 = .ok (.ifCond .le 12, 3) := by decide +kernel
theorem dX0_takeBack_8 : decode cX0_takeBack 8 = .ok (.aload_n 0, 1) := by decide +kernel
theorem dX0_takeBack_9 : decode cX0_takeBack 9 = .ok (.getfield 18, 3) := by decide +kernel
theorem dX0_takeBack_12 : decode cX0_takeBack 12 = .ok (.iconst 1, 1) := by decide +kernel
theorem dX0_takeBack_13 : decode cX0_takeBack 13 = .ok (.isub, 1) := by decide +kernel
theorem dX0_takeBack_14 : decode cX0_takeBack 14 = .ok (.goto 5, 3) := by decide +kernel
theorem dX0_takeBack_17 : decode cX0_takeBack 17 = .ok (.bipush 23, 2) := by decide +kernel
theorem dX0_takeBack_19 : decode cX0_takeBack 19 = .ok (.putfield 18, 3) := by decide +kernel
theorem dX0_takeBack_22 : decode cX0_takeBack 22 = .ok (.aload_n 0, 1) := by decide +kernel
theorem dX0_takeBack_23 : decode cX0_takeBack 23 = .ok (.dup, 1) := by decide +kernel
theorem dX0_takeBack_24 : decode cX0_takeBack 24 = .ok (.getfield 22, 3) := by decide +kernel
theorem dX0_takeBack_27 : decode cX0_takeBack 27 = .ok (.iconst 1, 1) := by decide +kernel
theorem dX0_takeBack_28 : decode cX0_takeBack 28 = .ok (.isub, 1) := by decide +kernel
theorem dX0_takeBack_29 : decode cX0_takeBack 29 = .ok (.putfield 22, 3) := by decide +kernel
theorem dX0_takeBack_32 : decode cX0_takeBack 32 = .ok (.aload_n 1, 1) := by decide +kernel
theorem dX0_takeBack_33 : decode cX0_takeBack 33 = .ok (.aload_n 0, 1) := by decide +kernel
theorem dX0_takeBack_34 : decode cX0_takeBack 34 = .ok (.getfield 11, 3) := by decide +kernel
theorem dX0_takeBack_37 : decode cX0_takeBack 37 = .ok (.aload_n 0, 1) := by decide +kernel
theorem dX0_takeBack_38 : decode cX0_takeBack 38 = .ok (.getfield 18, 3) := by decide +kernel
theorem dX0_takeBack_41 : decode cX0_takeBack 41 = .ok (.aaload, 1) := by decide +kernel
theorem dX0_takeBack_42 : decode cX0_takeBack 42 = .ok (.invokevirtual 25, 3) := by decide +kernel
theorem dX0_takeBack_45 : decode cX0_takeBack 45 = .ok (.return_, 1) := by decide +kernel
def putI (la v : Int32) : Int32 := if la = 0 then v.toInt8.toInt32 else if la = nI 1 then v.toInt16.toInt32 else v
def rngI (i n : Int32) (le : Int32) : Int32 := if i < 0 then nI 0 else if n < 0 then nI 0 else if le - n < i then nI 0 else nI 1
section R1
variable (G : GG) (z : Nat) (σ : AH) (a : Nat) (it : Nat → Int32) (la le : Int32)
theorem c_isMissing : Ct G yX3_isMissing cX3_isMissing 1 (some .boolean) 1 0 0 z (rw' σ a it la le) [.ref a] (some (.int (if la = -1 then nI 1 else nI 0))) z (rw' σ a it la le) := by
  refine Ct.ofJ RX3 rfl [some (.ref a)] rfl (by decide) Nat.le.refl ?_
  refine j_aload_n dX3_isMissing_0 rfl rfl ?_
  refine j_getf dX3_isMissing_1 3 1 rfl (Nat.le_of_ble_eq_true rfl) fl_X3_15 in_3 (by first | exact rw_o | exact rw_i) rfl ?_
  refine j_iconst (-1) dX3_isMissing_4 rfl ?_
  refine j_icmp_ne 12 dX3_isMissing_5 (by decide) (fun b5 => ?_) (fun b5 => ?_)
  · refine j_iconst (nI 0) dX3_isMissing_12 rfl ?_
    exact j_zret .boolean rfl rfl dX3_isMissing_13 (by first | rw [if_pos b5] | rw [if_neg b5]) rfl (Nat.le_of_ble_eq_true rfl) (Nat.le_of_ble_eq_true rfl)
  · refine j_iconst (nI 1) dX3_isMissing_8 rfl ?_
    refine j_goto 13 dX3_isMissing_9 (by decide) ?_
    exact j_zret .boolean rfl rfl dX3_isMissing_13 (by first | rw [if_pos b5] | rw [if_neg b5]) rfl (Nat.le_of_ble_eq_true rfl) (Nat.le_of_ble_eq_true rfl)
theorem c_vanish : Ct G yX3_vanish cX3_vanish 1 none 1 0 0 z (rw' σ a it la le) [.ref a] none z (rw' σ a it (-1) (nI 0)) := by
  refine Ct.ofJ RX3 rfl [some (.ref a)] rfl (by decide) Nat.le.refl ?_
  refine j_aload_n dX3_vanish_0 rfl rfl ?_
  refine j_iconst (-1) dX3_vanish_1 rfl ?_
  refine j_putf dX3_vanish_2 3 1 rfl (Nat.le_of_ble_eq_true rfl) fl_X3_15 in_3 tyX3 tyX3_ok nmX3 rfl rfl (by first | exact rw_o | exact rw_i) (Nat.le_of_ble_eq_true rfl) _ (by first | exact rws_o | exact rws_i) ?_
  refine j_aload_n dX3_vanish_5 rfl rfl ?_
  refine j_iconst (nI 0) dX3_vanish_6 rfl ?_
  refine j_putf dX3_vanish_7 3 2 rfl (Nat.le_of_ble_eq_true rfl) fl_X3_19 in_3 tyX3 tyX3_ok nmX3 rfl rfl (by first | exact rw_o | exact rw_i) (Nat.le_of_ble_eq_true rfl) _ (by first | exact rws_o | exact rws_i) ?_
  exact j_vret rfl dX3_vanish_10 rfl (Nat.le_of_ble_eq_true rfl) (Nat.le_of_ble_eq_true rfl)
theorem c_begin {m : Nat} (x : Int32) (hm : m ≤ 40) : Ct G yX3_begin cX3_begin 4 none 1 0 0 z (rw' σ a it la le) [.ref a, .int x, .int (nI m)] none z (rw' σ a (fil (nI 0) it m) x (nI m)) := by
  refine Ct.ofJ RX3 rfl [some (.ref a), some (.int x), some (.int (nI m)), none] rfl (by decide) (by simp [Value.category]) ?_
  refine j_aload_n dX3_begin_0 rfl rfl ?_
  refine j_iload_n dX3_begin_1 rfl rfl ?_
  refine j_putf dX3_begin_2 3 1 rfl (Nat.le_of_ble_eq_true rfl) fl_X3_15 in_3 tyX3 tyX3_ok nmX3 rfl rfl (by first | exact rw_o | exact rw_i) (Nat.le_of_ble_eq_true rfl) _ (by first | exact rws_o | exact rws_i) ?_
  refine j_aload_n dX3_begin_5 rfl rfl ?_
  refine j_iload_n dX3_begin_6 rfl rfl ?_
  refine j_putf dX3_begin_7 3 2 rfl (Nat.le_of_ble_eq_true rfl) fl_X3_19 in_3 tyX3 tyX3_ok nmX3 rfl rfl (by first | exact rw_o | exact rw_i) (Nat.le_of_ble_eq_true rfl) _ (by first | exact rws_o | exact rws_i) ?_
  refine j_iconst (nI 0) dX3_begin_10 rfl ?_
  refine j_istore_n dX3_begin_11 rfl (Nat.le_of_ble_eq_true rfl) rfl ?_
  skip
  suffices H : ∀ (ki i : Nat), i ≤ m → m < i + ki → J G RX3 cX3_begin 4 none (TQ G 1 0 0 none z (rw' σ a (fil (nI 0) it m) x (nI m))) z (rw' σ a (fil (nI 0) it i) x (nI m)) 0 0 12 [some (.ref a), some (.int x), some (.int (nI m)), some (.int (nI i))] [] from H (m + 1) 0 (by omega) (by omega)
  intro ki
  induction ki with
  | zero => intro i h1i h2i; exact absurd h2i (by omega)
  | succ ki ih =>
    intro i h1i h2i
    refine j_iload_n dX3_begin_12 rfl rfl ?_
    refine j_iload_n dX3_begin_13 rfl rfl ?_
    refine j_icmp_geN 30 dX3_begin_14 (by decide) (by omega) (by omega) (fun b14 => ?_) (fun b14 => ?_)
    · obtain rfl : i = m := by omega
      exact j_vret rfl dX3_begin_30 rfl (Nat.le_of_ble_eq_true rfl) (Nat.le_of_ble_eq_true rfl)
    · refine j_aload_n dX3_begin_17 rfl rfl ?_
      refine j_getf dX3_begin_18 3 0 rfl (Nat.le_of_ble_eq_true rfl) fl_X3_9 in_3 (by first | exact rw_o | exact rw_i) rfl ?_
      refine j_iload_n dX3_begin_21 rfl rfl ?_
      refine j_iconst (nI 0) dX3_begin_22 rfl ?_
      refine j_iast dX3_begin_23 (by first | exact rw_o | exact rw_i) rfl (by omega) (by decide) _ (by first | exact rws_o | exact rws_i) ?_
      first | refine j_iincN dX3_begin_24 rfl (Nat.le_of_ble_eq_true rfl) rfl ?_ | refine j_iinc _ dX3_begin_24 rfl rfl (Nat.le_of_ble_eq_true rfl) rfl ?_
      refine j_goto 12 dX3_begin_27 (by decide) ?_
      exact ih (i + 1) (by omega) (by omega)
theorem c_hasRange (i n : Int32) : Ct G yX3_hasRange cX3_hasRange 3 (some .boolean) 1 0 0 z (rw' σ a it la le) [.ref a, .int i, .int n] (some (.int (rngI i n le))) z (rw' σ a it la le) := by
  refine Ct.ofJ RX3 rfl [some (.ref a), some (.int i), some (.int n)] rfl (by decide) Nat.le.refl ?_
  refine j_iload_n dX3_hasRange_0 rfl rfl ?_
  refine j_if_lt 22 dX3_hasRange_1 (by decide) (fun b1 => ?_) (fun b1 => ?_)
  · refine j_iconst (nI 0) dX3_hasRange_22 rfl ?_
    exact j_zret .boolean rfl rfl dX3_hasRange_23 (by unfold rngI; first | rw [if_pos b1] | rw [if_neg b1, if_pos b5] | rw [if_neg b1, if_neg b5, if_pos b15] | rw [if_neg b1, if_neg b5, if_neg b15]) rfl (Nat.le_of_ble_eq_true rfl) (Nat.le_of_ble_eq_true rfl)
  · refine j_iload_n dX3_hasRange_4 rfl rfl ?_
    refine j_if_lt 22 dX3_hasRange_5 (by decide) (fun b5 => ?_) (fun b5 => ?_)
    · refine j_iconst (nI 0) dX3_hasRange_22 rfl ?_
      exact j_zret .boolean rfl rfl dX3_hasRange_23 (by unfold rngI; first | rw [if_pos b1] | rw [if_neg b1, if_pos b5] | rw [if_neg b1, if_neg b5, if_pos b15] | rw [if_neg b1, if_neg b5, if_neg b15]) rfl (Nat.le_of_ble_eq_true rfl) (Nat.le_of_ble_eq_true rfl)
    · refine j_iload_n dX3_hasRange_8 rfl rfl ?_
      refine j_aload_n dX3_hasRange_9 rfl rfl ?_
      refine j_getf dX3_hasRange_10 3 2 rfl (Nat.le_of_ble_eq_true rfl) fl_X3_19 in_3 (by first | exact rw_o | exact rw_i) rfl ?_
      refine j_iload_n dX3_hasRange_13 rfl rfl ?_
      refine j_isub dX3_hasRange_14 ?_
      refine j_icmp_gt 22 dX3_hasRange_15 (by decide) (fun b15 => ?_) (fun b15 => ?_)
      · refine j_iconst (nI 0) dX3_hasRange_22 rfl ?_
        exact j_zret .boolean rfl rfl dX3_hasRange_23 (by unfold rngI; first | rw [if_pos b1] | rw [if_neg b1, if_pos b5] | rw [if_neg b1, if_neg b5, if_pos b15] | rw [if_neg b1, if_neg b5, if_neg b15]) rfl (Nat.le_of_ble_eq_true rfl) (Nat.le_of_ble_eq_true rfl)
      · refine j_iconst (nI 1) dX3_hasRange_18 rfl ?_
        refine j_goto 23 dX3_hasRange_19 (by decide) ?_
        exact j_zret .boolean rfl rfl dX3_hasRange_23 (by unfold rngI; first | rw [if_pos b1] | rw [if_neg b1, if_pos b5] | rw [if_neg b1, if_neg b5, if_pos b15] | rw [if_neg b1, if_neg b5, if_neg b15]) rfl (Nat.le_of_ble_eq_true rfl) (Nat.le_of_ble_eq_true rfl)
theorem c_put {k : Nat} (v : Int32) (hk : k < 40) : Ct G yX3_put cX3_put 3 (some .int) 1 0 0 z (rw' σ a it la le) [.ref a, .int (nI k), .int v] (some (.int (putI la v))) z (rw' σ a (upd it k (putI la v)) la le) := by
  refine Ct.ofJ RX3 rfl [some (.ref a), some (.int (nI k)), some (.int v)] rfl (by decide) Nat.le.refl ?_
  refine j_aload_n dX3_put_0 rfl rfl ?_
  refine j_getf dX3_put_1 3 1 rfl (Nat.le_of_ble_eq_true rfl) fl_X3_15 in_3 (by first | exact rw_o | exact rw_i) rfl ?_
  refine j_if_ne 18 dX3_put_4 (by decide) (fun b4 => ?_) (fun b4 => ?_)
  · refine j_aload_n dX3_put_18 rfl rfl ?_
    refine j_getf dX3_put_19 3 1 rfl (Nat.le_of_ble_eq_true rfl) fl_X3_15 in_3 (by first | exact rw_o | exact rw_i) rfl ?_
    refine j_iconst (nI 1) dX3_put_22 rfl ?_
    refine j_icmp_ne 37 dX3_put_23 (by decide) (fun b23 => ?_) (fun b23 => ?_)
    · refine j_aload_n dX3_put_37 rfl rfl ?_
      refine j_getf dX3_put_38 3 0 rfl (Nat.le_of_ble_eq_true rfl) fl_X3_9 in_3 (by first | exact rw_o | exact rw_i) rfl ?_
      refine j_iload_n dX3_put_41 rfl rfl ?_
      refine j_iload_n dX3_put_42 rfl rfl ?_
      refine j_iast dX3_put_43 (by first | exact rw_o | exact rw_i) rfl (by omega) (by decide) _ (by first | exact rws_o | exact rws_i) ?_
      refine j_aload_n dX3_put_44 rfl rfl ?_
      refine j_getf dX3_put_45 3 0 rfl (Nat.le_of_ble_eq_true rfl) fl_X3_9 in_3 (by first | exact rw_o | exact rw_i) rfl ?_
      refine j_iload_n dX3_put_48 rfl rfl ?_
      refine j_iald dX3_put_49 (by first | exact rw_o | exact rw_i) rfl (by omega) (by decide) ?_
      exact j_iret rfl dX3_put_50 (by rw [pk_us]; unfold putI; first | rw [if_pos b4] | rw [if_neg b4, if_pos b23] | rw [if_neg b4, if_neg b23]) (by unfold putI; first | rw [if_pos b4] | rw [if_neg b4, if_pos b23] | rw [if_neg b4, if_neg b23]) (Nat.le_of_ble_eq_true rfl) (Nat.le_of_ble_eq_true rfl)
    · refine j_aload_n dX3_put_26 rfl rfl ?_
      refine j_getf dX3_put_27 3 0 rfl (Nat.le_of_ble_eq_true rfl) fl_X3_9 in_3 (by first | exact rw_o | exact rw_i) rfl ?_
      refine j_iload_n dX3_put_30 rfl rfl ?_
      refine j_iload_n dX3_put_31 rfl rfl ?_
      refine j_i2s dX3_put_32 ?_
      refine j_iast dX3_put_33 (by first | exact rw_o | exact rw_i) rfl (by omega) (by decide) _ (by first | exact rws_o | exact rws_i) ?_
      refine j_goto 44 dX3_put_34 (by decide) ?_
      refine j_aload_n dX3_put_44 rfl rfl ?_
      refine j_getf dX3_put_45 3 0 rfl (Nat.le_of_ble_eq_true rfl) fl_X3_9 in_3 (by first | exact rw_o | exact rw_i) rfl ?_
      refine j_iload_n dX3_put_48 rfl rfl ?_
      refine j_iald dX3_put_49 (by first | exact rw_o | exact rw_i) rfl (by omega) (by decide) ?_
      exact j_iret rfl dX3_put_50 (by rw [pk_us]; unfold putI; first | rw [if_pos b4] | rw [if_neg b4, if_pos b23] | rw [if_neg b4, if_neg b23]) (by unfold putI; first | rw [if_pos b4] | rw [if_neg b4, if_pos b23] | rw [if_neg b4, if_neg b23]) (Nat.le_of_ble_eq_true rfl) (Nat.le_of_ble_eq_true rfl)
  · refine j_aload_n dX3_put_7 rfl rfl ?_
    refine j_getf dX3_put_8 3 0 rfl (Nat.le_of_ble_eq_true rfl) fl_X3_9 in_3 (by first | exact rw_o | exact rw_i) rfl ?_
    refine j_iload_n dX3_put_11 rfl rfl ?_
    refine j_iload_n dX3_put_12 rfl rfl ?_
    refine j_i2b dX3_put_13 ?_
    refine j_iast dX3_put_14 (by first | exact rw_o | exact rw_i) rfl (by omega) (by decide) _ (by first | exact rws_o | exact rws_i) ?_
    refine j_goto 44 dX3_put_15 (by decide) ?_
    refine j_aload_n dX3_put_44 rfl rfl ?_
    refine j_getf dX3_put_45 3 0 rfl (Nat.le_of_ble_eq_true rfl) fl_X3_9 in_3 (by first | exact rw_o | exact rw_i) rfl ?_
    refine j_iload_n dX3_put_48 rfl rfl ?_
    refine j_iald dX3_put_49 (by first | exact rw_o | exact rw_i) rfl (by omega) (by decide) ?_
    exact j_iret rfl dX3_put_50 (by rw [pk_us]; unfold putI; first | rw [if_pos b4] | rw [if_neg b4, if_pos b23] | rw [if_neg b4, if_neg b23]) (by unfold putI; first | rw [if_pos b4] | rw [if_neg b4, if_pos b23] | rw [if_neg b4, if_neg b23]) (Nat.le_of_ble_eq_true rfl) (Nat.le_of_ble_eq_true rfl)
end R1
section A1
variable (G : GG) (z : Nat) (σ : AH)
/-- the acts: the object at 35, the row of towns at 36, the towns from 37 on -/
theorem c_forgetAll {nx kp : Int32} (h : σ 35 = some (.inr (.inr (0, [.ref 36, .int nx, .int kp])))) : Ct G yX0_forgetAll cX0_forgetAll 1 none 1 0 0 z σ [.ref 35] none z (ups σ 35 (.inr (.inr (0, [.ref 36, .int (nI 0), .int (nI 0)])))) := by
  refine Ct.ofJ RX0 rfl [some (.ref 35)] rfl (by decide) Nat.le.refl ?_
  refine j_aload_n dX0_forgetAll_0 rfl rfl ?_
  refine j_iconst (nI 0) dX0_forgetAll_1 rfl ?_
  refine j_putf dX0_forgetAll_2 0 1 rfl (Nat.le_of_ble_eq_true rfl) fl_X0_18 in_0 tyX0 tyX0_ok nmX0 rfl rfl (by first | exact h | (unfold ups; rfl)) (Nat.le_of_ble_eq_true rfl) _ rfl ?_
  refine j_aload_n dX0_forgetAll_5 rfl rfl ?_
  refine j_iconst (nI 0) dX0_forgetAll_6 rfl ?_
  refine j_putf dX0_forgetAll_7 0 2 rfl (Nat.le_of_ble_eq_true rfl) fl_X0_22 in_0 tyX0 tyX0_ok nmX0 rfl rfl (by first | exact h | (unfold ups; rfl)) (Nat.le_of_ble_eq_true rfl) _ rfl ?_
  exact j_vret rfl dX0_forgetAll_10 (by funext k; unfold ups; split <;> rfl) (Nat.le_of_ble_eq_true rfl) (Nat.le_of_ble_eq_true rfl)
end A1
end
section
/-! THE CLASS'S STATE: towns as values, and the relation XR between the heap and the values -/
abbrev TS : Type := (Nat → Int32) × (Nat → Int32) × (Nat → Int32) × (Nat → Int32) × Nat × Nat × Nat × Nat × Int32 × Int32
abbrev sC (s : TS) : Nat → Int32 := s.1
abbrev sI (s : TS) : Nat → Int32 := s.2.1
abbrev sP (s : TS) : Nat → Int32 := s.2.2.1
abbrev sD (s : TS) : Nat → Int32 := s.2.2.2.1
abbrev sN (s : TS) : Nat := s.2.2.2.2.1
abbrev sU (s : TS) : Nat := s.2.2.2.2.2.1
abbrev sR (s : TS) : Nat := s.2.2.2.2.2.2.1
abbrev sQ (s : TS) : Nat := s.2.2.2.2.2.2.2.1
abbrev sH (s : TS) : Int32 := s.2.2.2.2.2.2.2.2.1
abbrev sF (s : TS) : Int32 := s.2.2.2.2.2.2.2.2.2
def twS (σ : AH) (t : Nat) (s : TS) : AH := tw σ t (sC s) (sI s) (sP s) (sD s) (nI (sN s)) (nI (sU s)) (nI (sR s)) (nI (sQ s)) (sH s) (sF s)
/-- the town s stands at t -/
def Tat (σ : AH) (t : Nat) (s : TS) : Prop := twS σ t s = σ
theorem Tat.o {σ : AH} {t : Nat} {s : TS} (h : Tat σ t s) : σ t = some (.inr (.inr (4, [.ref (t + 1), .ref (t + 2), .ref (t + 3), .ref (t + 4), .int (nI (sN s)), .int (nI (sU s)), .int (nI (sR s)), .int (nI (sQ s)), .int (sH s), .int (sF s)]))) := by
  have h2 : twS σ t s t = σ t := congrFun h t
  rw [← h2]; exact tw_o
theorem Tat.c {σ : AH} {t : Nat} {s : TS} (h : Tat σ t s) : σ (t + 1) = some (.inl (0, 7, sC s)) := by
  have h2 : twS σ t s (t + 1) = σ (t + 1) := congrFun h (t + 1)
  rw [← h2]; exact tw_c
theorem Tat.i {σ : AH} {t : Nat} {s : TS} (h : Tat σ t s) : σ (t + 2) = some (.inl (0, 7, sI s)) := by
  have h2 : twS σ t s (t + 2) = σ (t + 2) := congrFun h (t + 2)
  rw [← h2]; exact tw_i
theorem Tat.p {σ : AH} {t : Nat} {s : TS} (h : Tat σ t s) : σ (t + 3) = some (.inl (0, 7, sP s)) := by
  have h2 : twS σ t s (t + 3) = σ (t + 3) := congrFun h (t + 3)
  rw [← h2]; exact tw_p
theorem Tat.d {σ : AH} {t : Nat} {s : TS} (h : Tat σ t s) : σ (t + 4) = some (.inl (0, 49, sD s)) := by
  have h2 : twS σ t s (t + 4) = σ (t + 4) := congrFun h (t + 4)
  rw [← h2]; exact tw_d
theorem Tat.new {σ : AH} {t : Nat} {s : TS} : Tat (twS σ t s) t s := tw_tw
theorem Tat.keep {σ σ' : AH} {t : Nat} {s : TS} (h : Tat σ t s) (hk : ∀ k, t ≤ k → k ≤ t + 4 → σ' k = σ k) : Tat σ' t s :=
  tw_self ((hk t (by omega) (by omega)).trans h.o) ((hk (t + 1) (by omega) (by omega)).trans h.c) ((hk (t + 2) (by omega) (by omega)).trans h.i) ((hk (t + 3) (by omega) (by omega)).trans h.p) ((hk (t + 4) (by omega) (by omega)).trans h.d)
theorem twS_x {σ : AH} {t : Nat} {s : TS} {k : Nat} (h : k < t ∨ t + 4 < k) : twS σ t s k = σ k := tw_x h
def Rat (σ : AH) (a : Nat) (it : Nat → Int32) (la le : Int32) : Prop := rw' σ a it la le = σ
theorem Rat.o {σ : AH} {a : Nat} {it : Nat → Int32} {la le : Int32} (h : Rat σ a it la le) : σ a = some (.inr (.inr (3, [.ref (a + 1), .int la, .int le]))) := by
  have h2 : rw' σ a it la le a = σ a := congrFun h a
  rw [← h2]; exact rw_o
theorem Rat.i {σ : AH} {a : Nat} {it : Nat → Int32} {la le : Int32} (h : Rat σ a it la le) : σ (a + 1) = some (.inl (0, 40, it)) := by
  have h2 : rw' σ a it la le (a + 1) = σ (a + 1) := congrFun h (a + 1)
  rw [← h2]; exact rw_i
theorem Rat.new {σ : AH} {a : Nat} {it : Nat → Int32} {la le : Int32} : Rat (rw' σ a it la le) a it la le := by
  funext k; unfold rw'; repeat (split; rfl)
  rfl
theorem Rat.keep {σ σ' : AH} {a : Nat} {it : Nat → Int32} {la le : Int32} (h : Rat σ a it la le) (hk : ∀ k, a ≤ k → k ≤ a + 1 → σ' k = σ k) : Rat σ' a it la le := rw_self ((hk a (by omega) (by omega)).trans h.o) ((hk (a + 1) (by omega) (by omega)).trans h.i)
theorem ups_x {σ : AH} {a k : Nat} {e : AE} (h : k ≠ a) : ups σ a e k = σ k := by unfold ups; rw [if_neg h]
theorem ups_a {σ : AH} {a : Nat} {e : AE} : ups σ a e a = some e := by unfold ups; rw [if_pos rfl]
/-- the object itself -/
abbrev xO (lf fd : Int32) : AE := .inr (.inr (5, [.ref 1, .ref 18, .int lf, .int fd, .ref 25, .ref 30, .ref 35, .ref 157, .ref 168, .ref 170]))
abbrev xA (nx kp : Nat) : AE := .inr (.inr (0, [.ref 36, .int (nI nx), .int (nI kp)]))
abbrev xK (tr : Nat) : AE := .inr (.inr (1, [.ref 169, .int (nI tr)]))
/-- the reader: length, sort, start, end, value, taken, fault -/
abbrev xR (rd : Nat → Int32) : AE := .inr (.inr (2, [.ref 19, .ref 20, .int (rd 0), .int (rd 1), .int (rd 2), .int (rd 3), .int (rd 4), .int (rd 5), .int (rd 6)]))
def XR (σ : AH) (lf fd : Int32) (rl rn : Nat → Int32) (ri : Nat → Nat → Int32) (tp rd : Nat → Int32) (dd d df : TS) (nx kp : Nat) (da di : Nat → TS) (tr : Nat) (bo ne : Nat → Int32) : Prop :=
  σ 0 = some (xO lf fd) ∧
  σ 1 = some (.inr (.inl (3, 8, fun r => some (2 + 2 * r)))) ∧
  (∀ r, r < 8 → Rat σ (2 + 2 * r) (ri r) (rl r) (rn r)) ∧
  σ 18 = some (xR rd) ∧
  σ 19 = some (.inl (1, 400, tp)) ∧
  Tat σ 20 dd ∧
  Tat σ 25 d ∧
  Tat σ 30 df ∧
  σ 35 = some (xA nx kp) ∧
  σ 36 = some (.inr (.inl (4, 24, fun i => some (37 + 5 * i)))) ∧
  (∀ i, i < 24 → Tat σ (37 + 5 * i) (da i)) ∧
  σ 157 = some (.inr (.inl (4, 2, fun i => some (158 + 5 * i)))) ∧
  (∀ i, i < 2 → Tat σ (158 + 5 * i) (di i)) ∧
  σ 168 = some (xK tr) ∧
  σ 169 = some (.inl (0, 16, bo)) ∧
  σ 170 = some (.inl (0, 7, ne))
section XRL
variable {σ : AH} {lf fd : Int32} {rl rn : Nat → Int32} {ri : Nat → Nat → Int32} {tp rd : Nat → Int32} {dd d df : TS} {nx kp : Nat} {da di : Nat → TS} {tr : Nat} {bo ne : Nat → Int32}
theorem XR.obj (lf2 fd2 : Int32) (h : XR σ lf fd rl rn ri tp rd dd d df nx kp da di tr bo ne) : XR (ups σ 0 (xO lf2 fd2)) lf2 fd2 rl rn ri tp rd dd d df nx kp da di tr bo ne := by
  obtain ⟨h0, h1, h2, h3, h4, h5, h6, h7, h8, h9, h10, h11, h12, h13, h14, h15⟩ := h
  exact ⟨ups_a,
    (ups_x (by omega) : _ = σ 1).trans h1,
    fun i hi => (h2 i hi).keep (fun k h1 h2 => ups_x (by omega)),
    (ups_x (by omega) : _ = σ 18).trans h3,
    (ups_x (by omega) : _ = σ 19).trans h4,
    h5.keep (fun k h1 h2 => ups_x (by omega)),
    h6.keep (fun k h1 h2 => ups_x (by omega)),
    h7.keep (fun k h1 h2 => ups_x (by omega)),
    (ups_x (by omega) : _ = σ 35).trans h8,
    (ups_x (by omega) : _ = σ 36).trans h9,
    fun i hi => (h10 i hi).keep (fun k h1 h2 => ups_x (by omega)),
    (ups_x (by omega) : _ = σ 157).trans h11,
    fun i hi => (h12 i hi).keep (fun k h1 h2 => ups_x (by omega)),
    (ups_x (by omega) : _ = σ 168).trans h13,
    (ups_x (by omega) : _ = σ 169).trans h14,
    (ups_x (by omega) : _ = σ 170).trans h15⟩
theorem XR.rdr (rd2 : Nat → Int32) (h : XR σ lf fd rl rn ri tp rd dd d df nx kp da di tr bo ne) : XR (ups σ 18 (xR rd2)) lf fd rl rn ri tp rd2 dd d df nx kp da di tr bo ne := by
  obtain ⟨h0, h1, h2, h3, h4, h5, h6, h7, h8, h9, h10, h11, h12, h13, h14, h15⟩ := h
  exact ⟨(ups_x (by omega) : _ = σ 0).trans h0,
    (ups_x (by omega) : _ = σ 1).trans h1,
    fun i hi => (h2 i hi).keep (fun k h1 h2 => ups_x (by omega)),
    ups_a,
    (ups_x (by omega) : _ = σ 19).trans h4,
    h5.keep (fun k h1 h2 => ups_x (by omega)),
    h6.keep (fun k h1 h2 => ups_x (by omega)),
    h7.keep (fun k h1 h2 => ups_x (by omega)),
    (ups_x (by omega) : _ = σ 35).trans h8,
    (ups_x (by omega) : _ = σ 36).trans h9,
    fun i hi => (h10 i hi).keep (fun k h1 h2 => ups_x (by omega)),
    (ups_x (by omega) : _ = σ 157).trans h11,
    fun i hi => (h12 i hi).keep (fun k h1 h2 => ups_x (by omega)),
    (ups_x (by omega) : _ = σ 168).trans h13,
    (ups_x (by omega) : _ = σ 169).trans h14,
    (ups_x (by omega) : _ = σ 170).trans h15⟩
theorem XR.tape (tp2 : Nat → Int32) (h : XR σ lf fd rl rn ri tp rd dd d df nx kp da di tr bo ne) : XR (ups σ 19 (.inl (1, 400, tp2))) lf fd rl rn ri tp2 rd dd d df nx kp da di tr bo ne := by
  obtain ⟨h0, h1, h2, h3, h4, h5, h6, h7, h8, h9, h10, h11, h12, h13, h14, h15⟩ := h
  exact ⟨(ups_x (by omega) : _ = σ 0).trans h0,
    (ups_x (by omega) : _ = σ 1).trans h1,
    fun i hi => (h2 i hi).keep (fun k h1 h2 => ups_x (by omega)),
    (ups_x (by omega) : _ = σ 18).trans h3,
    ups_a,
    h5.keep (fun k h1 h2 => ups_x (by omega)),
    h6.keep (fun k h1 h2 => ups_x (by omega)),
    h7.keep (fun k h1 h2 => ups_x (by omega)),
    (ups_x (by omega) : _ = σ 35).trans h8,
    (ups_x (by omega) : _ = σ 36).trans h9,
    fun i hi => (h10 i hi).keep (fun k h1 h2 => ups_x (by omega)),
    (ups_x (by omega) : _ = σ 157).trans h11,
    fun i hi => (h12 i hi).keep (fun k h1 h2 => ups_x (by omega)),
    (ups_x (by omega) : _ = σ 168).trans h13,
    (ups_x (by omega) : _ = σ 169).trans h14,
    (ups_x (by omega) : _ = σ 170).trans h15⟩
theorem XR.draft (s : TS) (h : XR σ lf fd rl rn ri tp rd dd d df nx kp da di tr bo ne) : XR (twS σ 20 s) lf fd rl rn ri tp rd s d df nx kp da di tr bo ne := by
  obtain ⟨h0, h1, h2, h3, h4, h5, h6, h7, h8, h9, h10, h11, h12, h13, h14, h15⟩ := h
  exact ⟨(twS_x (by omega) : _ = σ 0).trans h0,
    (twS_x (by omega) : _ = σ 1).trans h1,
    fun i hi => (h2 i hi).keep (fun k h1 h2 => twS_x (by omega)),
    (twS_x (by omega) : _ = σ 18).trans h3,
    (twS_x (by omega) : _ = σ 19).trans h4,
    Tat.new,
    h6.keep (fun k h1 h2 => twS_x (by omega)),
    h7.keep (fun k h1 h2 => twS_x (by omega)),
    (twS_x (by omega) : _ = σ 35).trans h8,
    (twS_x (by omega) : _ = σ 36).trans h9,
    fun i hi => (h10 i hi).keep (fun k h1 h2 => twS_x (by omega)),
    (twS_x (by omega) : _ = σ 157).trans h11,
    fun i hi => (h12 i hi).keep (fun k h1 h2 => twS_x (by omega)),
    (twS_x (by omega) : _ = σ 168).trans h13,
    (twS_x (by omega) : _ = σ 169).trans h14,
    (twS_x (by omega) : _ = σ 170).trans h15⟩
theorem XR.town (s : TS) (h : XR σ lf fd rl rn ri tp rd dd d df nx kp da di tr bo ne) : XR (twS σ 25 s) lf fd rl rn ri tp rd dd s df nx kp da di tr bo ne := by
  obtain ⟨h0, h1, h2, h3, h4, h5, h6, h7, h8, h9, h10, h11, h12, h13, h14, h15⟩ := h
  exact ⟨(twS_x (by omega) : _ = σ 0).trans h0,
    (twS_x (by omega) : _ = σ 1).trans h1,
    fun i hi => (h2 i hi).keep (fun k h1 h2 => twS_x (by omega)),
    (twS_x (by omega) : _ = σ 18).trans h3,
    (twS_x (by omega) : _ = σ 19).trans h4,
    h5.keep (fun k h1 h2 => twS_x (by omega)),
    Tat.new,
    h7.keep (fun k h1 h2 => twS_x (by omega)),
    (twS_x (by omega) : _ = σ 35).trans h8,
    (twS_x (by omega) : _ = σ 36).trans h9,
    fun i hi => (h10 i hi).keep (fun k h1 h2 => twS_x (by omega)),
    (twS_x (by omega) : _ = σ 157).trans h11,
    fun i hi => (h12 i hi).keep (fun k h1 h2 => twS_x (by omega)),
    (twS_x (by omega) : _ = σ 168).trans h13,
    (twS_x (by omega) : _ = σ 169).trans h14,
    (twS_x (by omega) : _ = σ 170).trans h15⟩
theorem XR.fore (s : TS) (h : XR σ lf fd rl rn ri tp rd dd d df nx kp da di tr bo ne) : XR (twS σ 30 s) lf fd rl rn ri tp rd dd d s nx kp da di tr bo ne := by
  obtain ⟨h0, h1, h2, h3, h4, h5, h6, h7, h8, h9, h10, h11, h12, h13, h14, h15⟩ := h
  exact ⟨(twS_x (by omega) : _ = σ 0).trans h0,
    (twS_x (by omega) : _ = σ 1).trans h1,
    fun i hi => (h2 i hi).keep (fun k h1 h2 => twS_x (by omega)),
    (twS_x (by omega) : _ = σ 18).trans h3,
    (twS_x (by omega) : _ = σ 19).trans h4,
    h5.keep (fun k h1 h2 => twS_x (by omega)),
    h6.keep (fun k h1 h2 => twS_x (by omega)),
    Tat.new,
    (twS_x (by omega) : _ = σ 35).trans h8,
    (twS_x (by omega) : _ = σ 36).trans h9,
    fun i hi => (h10 i hi).keep (fun k h1 h2 => twS_x (by omega)),
    (twS_x (by omega) : _ = σ 157).trans h11,
    fun i hi => (h12 i hi).keep (fun k h1 h2 => twS_x (by omega)),
    (twS_x (by omega) : _ = σ 168).trans h13,
    (twS_x (by omega) : _ = σ 169).trans h14,
    (twS_x (by omega) : _ = σ 170).trans h15⟩
theorem XR.acts (nx2 kp2 : Nat) (h : XR σ lf fd rl rn ri tp rd dd d df nx kp da di tr bo ne) : XR (ups σ 35 (xA nx2 kp2)) lf fd rl rn ri tp rd dd d df nx2 kp2 da di tr bo ne := by
  obtain ⟨h0, h1, h2, h3, h4, h5, h6, h7, h8, h9, h10, h11, h12, h13, h14, h15⟩ := h
  exact ⟨(ups_x (by omega) : _ = σ 0).trans h0,
    (ups_x (by omega) : _ = σ 1).trans h1,
    fun i hi => (h2 i hi).keep (fun k h1 h2 => ups_x (by omega)),
    (ups_x (by omega) : _ = σ 18).trans h3,
    (ups_x (by omega) : _ = σ 19).trans h4,
    h5.keep (fun k h1 h2 => ups_x (by omega)),
    h6.keep (fun k h1 h2 => ups_x (by omega)),
    h7.keep (fun k h1 h2 => ups_x (by omega)),
    ups_a,
    (ups_x (by omega) : _ = σ 36).trans h9,
    fun i hi => (h10 i hi).keep (fun k h1 h2 => ups_x (by omega)),
    (ups_x (by omega) : _ = σ 157).trans h11,
    fun i hi => (h12 i hi).keep (fun k h1 h2 => ups_x (by omega)),
    (ups_x (by omega) : _ = σ 168).trans h13,
    (ups_x (by omega) : _ = σ 169).trans h14,
    (ups_x (by omega) : _ = σ 170).trans h15⟩
theorem XR.asks (tr2 : Nat) (h : XR σ lf fd rl rn ri tp rd dd d df nx kp da di tr bo ne) : XR (ups σ 168 (xK tr2)) lf fd rl rn ri tp rd dd d df nx kp da di tr2 bo ne := by
  obtain ⟨h0, h1, h2, h3, h4, h5, h6, h7, h8, h9, h10, h11, h12, h13, h14, h15⟩ := h
  exact ⟨(ups_x (by omega) : _ = σ 0).trans h0,
    (ups_x (by omega) : _ = σ 1).trans h1,
    fun i hi => (h2 i hi).keep (fun k h1 h2 => ups_x (by omega)),
    (ups_x (by omega) : _ = σ 18).trans h3,
    (ups_x (by omega) : _ = σ 19).trans h4,
    h5.keep (fun k h1 h2 => ups_x (by omega)),
    h6.keep (fun k h1 h2 => ups_x (by omega)),
    h7.keep (fun k h1 h2 => ups_x (by omega)),
    (ups_x (by omega) : _ = σ 35).trans h8,
    (ups_x (by omega) : _ = σ 36).trans h9,
    fun i hi => (h10 i hi).keep (fun k h1 h2 => ups_x (by omega)),
    (ups_x (by omega) : _ = σ 157).trans h11,
    fun i hi => (h12 i hi).keep (fun k h1 h2 => ups_x (by omega)),
    ups_a,
    (ups_x (by omega) : _ = σ 169).trans h14,
    (ups_x (by omega) : _ = σ 170).trans h15⟩
theorem XR.bods (bo2 : Nat → Int32) (h : XR σ lf fd rl rn ri tp rd dd d df nx kp da di tr bo ne) : XR (ups σ 169 (.inl (0, 16, bo2))) lf fd rl rn ri tp rd dd d df nx kp da di tr bo2 ne := by
  obtain ⟨h0, h1, h2, h3, h4, h5, h6, h7, h8, h9, h10, h11, h12, h13, h14, h15⟩ := h
  exact ⟨(ups_x (by omega) : _ = σ 0).trans h0,
    (ups_x (by omega) : _ = σ 1).trans h1,
    fun i hi => (h2 i hi).keep (fun k h1 h2 => ups_x (by omega)),
    (ups_x (by omega) : _ = σ 18).trans h3,
    (ups_x (by omega) : _ = σ 19).trans h4,
    h5.keep (fun k h1 h2 => ups_x (by omega)),
    h6.keep (fun k h1 h2 => ups_x (by omega)),
    h7.keep (fun k h1 h2 => ups_x (by omega)),
    (ups_x (by omega) : _ = σ 35).trans h8,
    (ups_x (by omega) : _ = σ 36).trans h9,
    fun i hi => (h10 i hi).keep (fun k h1 h2 => ups_x (by omega)),
    (ups_x (by omega) : _ = σ 157).trans h11,
    fun i hi => (h12 i hi).keep (fun k h1 h2 => ups_x (by omega)),
    (ups_x (by omega) : _ = σ 168).trans h13,
    ups_a,
    (ups_x (by omega) : _ = σ 170).trans h15⟩
theorem XR.need (ne2 : Nat → Int32) (h : XR σ lf fd rl rn ri tp rd dd d df nx kp da di tr bo ne) : XR (ups σ 170 (.inl (0, 7, ne2))) lf fd rl rn ri tp rd dd d df nx kp da di tr bo ne2 := by
  obtain ⟨h0, h1, h2, h3, h4, h5, h6, h7, h8, h9, h10, h11, h12, h13, h14, h15⟩ := h
  exact ⟨(ups_x (by omega) : _ = σ 0).trans h0,
    (ups_x (by omega) : _ = σ 1).trans h1,
    fun i hi => (h2 i hi).keep (fun k h1 h2 => ups_x (by omega)),
    (ups_x (by omega) : _ = σ 18).trans h3,
    (ups_x (by omega) : _ = σ 19).trans h4,
    h5.keep (fun k h1 h2 => ups_x (by omega)),
    h6.keep (fun k h1 h2 => ups_x (by omega)),
    h7.keep (fun k h1 h2 => ups_x (by omega)),
    (ups_x (by omega) : _ = σ 35).trans h8,
    (ups_x (by omega) : _ = σ 36).trans h9,
    fun i hi => (h10 i hi).keep (fun k h1 h2 => ups_x (by omega)),
    (ups_x (by omega) : _ = σ 157).trans h11,
    fun i hi => (h12 i hi).keep (fun k h1 h2 => ups_x (by omega)),
    (ups_x (by omega) : _ = σ 168).trans h13,
    (ups_x (by omega) : _ = σ 169).trans h14,
    ups_a⟩
theorem va_up_a {α : Type} {f : Nat → α} {k : Nat} {v : α} : va_up f k v k = v := by simp [va_up]
theorem va_up_x {α : Type} {f : Nat → α} {k j : Nat} {v : α} (h : j ≠ k) : va_up f k v j = f j := by simp [va_up, h]
theorem XR.act (j : Nat) (hj : j < 24) (s : TS) (h : XR σ lf fd rl rn ri tp rd dd d df nx kp da di tr bo ne) : XR (twS σ (37 + 5 * j) s) lf fd rl rn ri tp rd dd d df nx kp (va_up da j s) di tr bo ne := by
  obtain ⟨h0, h1, h2, h3, h4, h5, h6, h7, h8, h9, h10, h11, h12, h13, h14, h15⟩ := h
  exact ⟨(twS_x (by omega) : _ = σ 0).trans h0,
    (twS_x (by omega) : _ = σ 1).trans h1,
    fun i hi => (h2 i hi).keep (fun k h1 h2 => twS_x (by omega)),
    (twS_x (by omega) : _ = σ 18).trans h3,
    (twS_x (by omega) : _ = σ 19).trans h4,
    h5.keep (fun k h1 h2 => twS_x (by omega)),
    h6.keep (fun k h1 h2 => twS_x (by omega)),
    h7.keep (fun k h1 h2 => twS_x (by omega)),
    (twS_x (by omega) : _ = σ 35).trans h8,
    (twS_x (by omega) : _ = σ 36).trans h9,
    (fun i hi => by
      by_cases e : i = j
      · subst e; rw [va_up_a]; exact Tat.new
      · rw [va_up_x e]; exact (h10 i hi).keep (fun k h1 h2 => twS_x (by omega))),
    (twS_x (by omega) : _ = σ 157).trans h11,
    fun i hi => (h12 i hi).keep (fun k h1 h2 => twS_x (by omega)),
    (twS_x (by omega) : _ = σ 168).trans h13,
    (twS_x (by omega) : _ = σ 169).trans h14,
    (twS_x (by omega) : _ = σ 170).trans h15⟩
theorem XR.img (j : Nat) (hj : j < 2) (s : TS) (h : XR σ lf fd rl rn ri tp rd dd d df nx kp da di tr bo ne) : XR (twS σ (158 + 5 * j) s) lf fd rl rn ri tp rd dd d df nx kp da (va_up di j s) tr bo ne := by
  obtain ⟨h0, h1, h2, h3, h4, h5, h6, h7, h8, h9, h10, h11, h12, h13, h14, h15⟩ := h
  exact ⟨(twS_x (by omega) : _ = σ 0).trans h0,
    (twS_x (by omega) : _ = σ 1).trans h1,
    fun i hi => (h2 i hi).keep (fun k h1 h2 => twS_x (by omega)),
    (twS_x (by omega) : _ = σ 18).trans h3,
    (twS_x (by omega) : _ = σ 19).trans h4,
    h5.keep (fun k h1 h2 => twS_x (by omega)),
    h6.keep (fun k h1 h2 => twS_x (by omega)),
    h7.keep (fun k h1 h2 => twS_x (by omega)),
    (twS_x (by omega) : _ = σ 35).trans h8,
    (twS_x (by omega) : _ = σ 36).trans h9,
    fun i hi => (h10 i hi).keep (fun k h1 h2 => twS_x (by omega)),
    (twS_x (by omega) : _ = σ 157).trans h11,
    (fun i hi => by
      by_cases e : i = j
      · subst e; rw [va_up_a]; exact Tat.new
      · rw [va_up_x e]; exact (h12 i hi).keep (fun k h1 h2 => twS_x (by omega))),
    (twS_x (by omega) : _ = σ 168).trans h13,
    (twS_x (by omega) : _ = σ 169).trans h14,
    (twS_x (by omega) : _ = σ 170).trans h15⟩
theorem XR.row (j : Nat) (hj : j < 8) (it : Nat → Int32) (la le : Int32) (h : XR σ lf fd rl rn ri tp rd dd d df nx kp da di tr bo ne) : XR (rw' σ (2 + 2 * j) it la le) lf fd (va_up rl j la) (va_up rn j le) (va_up ri j it) tp rd dd d df nx kp da di tr bo ne := by
  obtain ⟨h0, h1, h2, h3, h4, h5, h6, h7, h8, h9, h10, h11, h12, h13, h14, h15⟩ := h
  exact ⟨(rw_x (by omega) : _ = σ 0).trans h0,
    (rw_x (by omega) : _ = σ 1).trans h1,
    (fun i hi => by
      by_cases e : i = j
      · subst e; rw [va_up_a, va_up_a, va_up_a]; exact Rat.new
      · rw [va_up_x e, va_up_x e, va_up_x e]; exact (h2 i hi).keep (fun k h1 h2 => rw_x (by omega))),
    (rw_x (by omega) : _ = σ 18).trans h3,
    (rw_x (by omega) : _ = σ 19).trans h4,
    h5.keep (fun k h1 h2 => rw_x (by omega)),
    h6.keep (fun k h1 h2 => rw_x (by omega)),
    h7.keep (fun k h1 h2 => rw_x (by omega)),
    (rw_x (by omega) : _ = σ 35).trans h8,
    (rw_x (by omega) : _ = σ 36).trans h9,
    fun i hi => (h10 i hi).keep (fun k h1 h2 => rw_x (by omega)),
    (rw_x (by omega) : _ = σ 157).trans h11,
    fun i hi => (h12 i hi).keep (fun k h1 h2 => rw_x (by omega)),
    (rw_x (by omega) : _ = σ 168).trans h13,
    (rw_x (by omega) : _ = σ 169).trans h14,
    (rw_x (by omega) : _ = σ 170).trans h15⟩
end XRL
section TSV
variable {G : GG} {z : Nat} {σ : AH} {t : Nat} {s : TS}
theorem c_debtOfS (h : Tat σ t s) {a b : Nat} (hab : a * 7 + b < 49) : Ct G yX4_debtOf cX4_debtOf 3 (some .int) 1 0 0 z σ [.ref t, .int (nI a), .int (nI b)] (some (.int (sD s (a * 7 + b)))) z σ := by
  have h2 := c_debtOf G z σ t (sC s) (sI s) (sP s) (sD s) (nI (sN s)) (nI (sU s)) (nI (sR s)) (nI (sQ s)) (sH s) (sF s) hab
  rw [show tw σ t (sC s) (sI s) (sP s) (sD s) (nI (sN s)) (nI (sU s)) (nI (sR s)) (nI (sQ s)) (sH s) (sF s) = σ from h] at h2
  exact h2
theorem c_owedByS (h : Tat σ t s) {p : Nat} (hN : sN s ≤ 7) (hp : p < 7) : Ct G yX4_owedBy cX4_owedBy 4 (some .int) 2 0 0 z σ [.ref t, .int (nI p)] (some (.int (dsum (sD s) (sN s) p))) z σ := by
  have h2 := c_owedBy G z σ t (sC s) (sI s) (sP s) (sD s) (nI (sU s)) (nI (sR s)) (nI (sQ s)) (sH s) (sF s) hN hp
  rw [show tw σ t (sC s) (sI s) (sP s) (sD s) (nI (sN s)) (nI (sU s)) (nI (sR s)) (nI (sQ s)) (sH s) (sF s) = σ from h] at h2
  exact h2
theorem c_owedToS (h : Tat σ t s) {p : Nat} (hN : sN s ≤ 7) (hp : p < 7) : Ct G yX4_owedTo cX4_owedTo 4 (some .int) 2 0 0 z σ [.ref t, .int (nI p)] (some (.int (tsum (sD s) (sN s) p))) z σ := by
  have h2 := c_owedTo G z σ t (sC s) (sI s) (sP s) (sD s) (nI (sU s)) (nI (sR s)) (nI (sQ s)) (sH s) (sF s) hN hp
  rw [show tw σ t (sC s) (sI s) (sP s) (sD s) (nI (sN s)) (nI (sU s)) (nI (sR s)) (nI (sQ s)) (sH s) (sF s) = σ from h] at h2
  exact h2
theorem c_shadeOfS (h : Tat σ t s) {p : Nat} (hN : sN s ≤ 7) (hp : p < 7) (hu : 1 ≤ sU s) (hu2 : sU s ≤ 20) : Ct G yX4_shadeOf cX4_shadeOf 2 (some .int) 3 0 0 z σ [.ref t, .int (nI p)] (some (.int (shd (sD s) (sN s) (sU s) p))) z σ := by
  have h2 := c_shadeOf G z σ t (sC s) (sI s) (sP s) (sD s) (nI (sR s)) (nI (sQ s)) (sH s) (sF s) hN hp hu hu2
  rw [show tw σ t (sC s) (sI s) (sP s) (sD s) (nI (sN s)) (nI (sU s)) (nI (sR s)) (nI (sQ s)) (sH s) (sF s) = σ from h] at h2
  exact h2
theorem c_looksOfS (h : Tat σ t s) {p : Nat} (hN : sN s ≤ 7) (hp : p < 7) (hu : 1 ≤ sU s) (hu2 : sU s ≤ 20) : Ct G yX4_looksOf cX4_looksOf 2 (some .int) 4 0 0 z σ [.ref t, .int (nI p)] (some (.int (lks (sP s) (sD s) (sN s) (sU s) p))) z σ := by
  have h2 := c_looksOf G z σ t (sC s) (sI s) (sP s) (sD s) (nI (sR s)) (nI (sQ s)) (sH s) (sF s) hN hp hu hu2
  rw [show tw σ t (sC s) (sI s) (sP s) (sD s) (nI (sN s)) (nI (sU s)) (nI (sR s)) (nI (sQ s)) (sH s) (sF s) = σ from h] at h2
  exact h2
theorem c_kindOfS (h : Tat σ t s) {p : Nat} (hN : sN s ≤ 7) (hp : p < 7) (hu : 1 ≤ sU s) (hu2 : sU s ≤ 20) : Ct G yX4_kindOf cX4_kindOf 2 (some .int) 4 0 0 z σ [.ref t, .int (nI p)] (some (.int (kindI (sD s) (sF s) (sN s) (sU s) p))) z σ := by
  have h2 := c_kindOf G z σ t (sC s) (sI s) (sP s) (sD s) (nI (sR s)) (nI (sQ s)) (sH s) (sF s) hN hp hu hu2
  rw [show tw σ t (sC s) (sI s) (sP s) (sD s) (nI (sN s)) (nI (sU s)) (nI (sR s)) (nI (sQ s)) (sH s) (sF s) = σ from h] at h2
  exact h2
theorem c_cashOfAllS (h : Tat σ t s) (hN : sN s ≤ 7) : Ct G yX4_cashOfAll cX4_cashOfAll 3 (some .int) 1 0 0 z σ [.ref t] (some (.int (sumR (sC s) (sN s)))) z σ := by
  have h2 := c_cashOfAll G z σ t (sC s) (sI s) (sP s) (sD s) (nI (sU s)) (nI (sR s)) (nI (sQ s)) (sH s) (sF s) hN
  rw [show tw σ t (sC s) (sI s) (sP s) (sD s) (nI (sN s)) (nI (sU s)) (nI (sR s)) (nI (sQ s)) (sH s) (sF s) = σ from h] at h2
  exact h2
theorem c_debtsAboveNoneS (h : Tat σ t s) (hN : sN s ≤ 7) : Ct G yX4_debtsAboveNone cX4_debtsAboveNone 4 (some .int) 2 0 0 z σ [.ref t] (some (.int (nI (cntDs (sD s) (sN s) (sN s))))) z σ := by
  have h2 := c_debtsAboveNone G z σ t (sC s) (sI s) (sP s) (sD s) (nI (sU s)) (nI (sR s)) (nI (sQ s)) (sH s) (sF s) hN
  rw [show tw σ t (sC s) (sI s) (sP s) (sD s) (nI (sN s)) (nI (sU s)) (nI (sR s)) (nI (sQ s)) (sH s) (sF s) = σ from h] at h2
  exact h2
theorem c_seenFromS (h : Tat σ t s) (x : Int32) (hN : sN s ≤ 7) (hu : 1 ≤ sU s) (hu2 : sU s ≤ 20) : Ct G yX4_seenFrom cX4_seenFrom 4 (some .int) 5 0 0 z σ [.ref t, .int x] (some (.int (seenI (sP s) (sD s) (sH s) x (sN s) (sU s) (sN s)))) z σ := by
  have h2 := c_seenFrom G z σ t (sC s) (sI s) (sP s) (sD s) (nI (sR s)) (nI (sQ s)) (sH s) (sF s) x hN hu hu2
  rw [show tw σ t (sC s) (sI s) (sP s) (sD s) (nI (sN s)) (nI (sU s)) (nI (sR s)) (nI (sQ s)) (sH s) (sF s) = σ from h] at h2
  exact h2
theorem c_lendersOfS (h : Tat σ t s) (so : Int32) (hN : sN s ≤ 7) : Ct G yX4_lendersOf cX4_lendersOf 5 (some .int) 2 0 0 z σ [.ref t, .int so] (some (.int (lendA (sD s) so (sN s) (sN s)))) z σ := by
  have h2 := c_lendersOf G z σ t (sC s) (sI s) (sP s) (sD s) (nI (sU s)) (nI (sR s)) (nI (sQ s)) (sH s) (sF s) so hN
  rw [show tw σ t (sC s) (sI s) (sP s) (sD s) (nI (sN s)) (nI (sU s)) (nI (sR s)) (nI (sQ s)) (sH s) (sF s) = σ from h] at h2
  exact h2
theorem c_lendsS (h : Tat σ t s) {a b : Nat} (x : Int32) (ha : a < 7) (hb : b < 7) : Ct G yX4_lends cX4_lends 4 none 2 0 0 z σ [.ref t, .int (nI a), .int (nI b), .int x] none z (twS σ t (pbC (sC s) a b x, sI s, sP s, upd (sD s) (b * 7 + a) (sD s (b * 7 + a) + x), sN s, sU s, sR s, sQ s, sH s, sF s)) := by
  have h2 := c_lends G z σ t (sC s) (sI s) (sP s) (sD s) (nI (sN s)) (nI (sU s)) (nI (sR s)) (nI (sQ s)) (sH s) (sF s) x ha hb
  rw [show tw σ t (sC s) (sI s) (sP s) (sD s) (nI (sN s)) (nI (sU s)) (nI (sR s)) (nI (sQ s)) (sH s) (sF s) = σ from h] at h2
  exact h2
theorem c_paysBackS (h : Tat σ t s) {a b : Nat} (x : Int32) (ha : a < 7) (hb : b < 7) : Ct G yX4_paysBack cX4_paysBack 4 none 2 0 0 z σ [.ref t, .int (nI a), .int (nI b), .int x] none z (twS σ t (pbC (sC s) a b x, sI s, sP s, upd (sD s) (a * 7 + b) (sD s (a * 7 + b) + -x), sN s, sU s, sR s, sQ s, sH s, sF s)) := by
  have h2 := c_paysBack G z σ t (sC s) (sI s) (sP s) (sD s) (nI (sN s)) (nI (sU s)) (nI (sR s)) (nI (sQ s)) (sH s) (sF s) x ha hb
  rw [show tw σ t (sC s) (sI s) (sP s) (sD s) (nI (sN s)) (nI (sU s)) (nI (sR s)) (nI (sQ s)) (sH s) (sF s) = σ from h] at h2
  exact h2
theorem c_settleAllS (h : Tat σ t s) (so : Int32) (hN : sN s ≤ 7) : Ct G yX4_settleAll cX4_settleAll 4 (some .int) 4 0 0 z σ [.ref t, .int so] (some (.int (stA (sN s) so (sC s) (sD s) (sN s)).2.2)) z (twS σ t ((stA (sN s) so (sC s) (sD s) (sN s)).1, sI s, sP s, (stA (sN s) so (sC s) (sD s) (sN s)).2.1, sN s, sU s, sR s, sQ s, sH s, sF s)) := by
  have h2 := c_settleAll G z σ t (sC s) (sI s) (sP s) (sD s) (nI (sU s)) (nI (sR s)) (nI (sQ s)) (sH s) (sF s) so hN
  rw [show tw σ t (sC s) (sI s) (sP s) (sD s) (nI (sN s)) (nI (sU s)) (nI (sR s)) (nI (sQ s)) (sH s) (sF s) = σ from h] at h2
  exact h2
theorem c_strikeOutMutualS (h : Tat σ t s) (hN : sN s ≤ 7) : Ct G yX4_strikeOutMutual cX4_strikeOutMutual 5 (some .int) 2 0 0 z σ [.ref t] (some (.int (strA (sN s) (sD s) (sN s)).2)) z (twS σ t (sC s, sI s, sP s, (strA (sN s) (sD s) (sN s)).1, sN s, sU s, sR s, sQ s, sH s, sF s)) := by
  have h2 := c_strikeOutMutual G z σ t (sC s) (sI s) (sP s) (sD s) (nI (sU s)) (nI (sR s)) (nI (sQ s)) (sH s) (sF s) hN
  rw [show tw σ t (sC s) (sI s) (sP s) (sD s) (nI (sN s)) (nI (sU s)) (nI (sR s)) (nI (sQ s)) (sH s) (sF s) = σ from h] at h2
  exact h2
theorem c_passQuarterS (h : Tat σ t s) (seed : Int32) (hN : sN s ≤ 7) (hinc : ∀ p, p < 7 → 0 ≤ sI s p ∧ ¬ (sI s p + nI 1).toInt64 = 0) : Ct G yX4_passQuarter cX4_passQuarter 3 none 5 0 0 z σ [.ref t, .int seed] none z (twS σ t ((qua (sN s) seed (sI s) (sC s) (sD s) (nI (sU s)) (nI (sR s)) (sQ s) (sF s)).1, sI s, fil (-1) (sP s) (sN s), (qua (sN s) seed (sI s) (sC s) (sD s) (nI (sU s)) (nI (sR s)) (sQ s) (sF s)).2.1, sN s, sU s, sR s, sQ s + 1, sH s, (qua (sN s) seed (sI s) (sC s) (sD s) (nI (sU s)) (nI (sR s)) (sQ s) (sF s)).2.2)) := by
  have h2 := c_passQuarter (q := sQ s) G z σ t (sC s) (sI s) (sP s) (sD s) (nI (sU s)) (nI (sR s)) (sH s) (sF s) seed hN hinc
  rw [show tw σ t (sC s) (sI s) (sP s) (sD s) (nI (sN s)) (nI (sU s)) (nI (sR s)) (nI (sQ s)) (sH s) (sF s) = σ from h] at h2
  exact h2
theorem c_becomesEmptyS (h : Tat σ t s)  : Ct G yX4_becomesEmpty cX4_becomesEmpty 2 none 1 0 0 z σ [.ref t] none z (twS σ t (sC s, sI s, sP s, fun _ => nI 0, 0, 1, 0, 0, nI 0, nI 0)) := by
  have h2 := c_becomesEmpty G z σ t (sC s) (sI s) (sP s) (sD s) (nI (sN s)) (nI (sU s)) (nI (sR s)) (nI (sQ s)) (sH s) (sF s)
  rw [show tw σ t (sC s) (sI s) (sP s) (sD s) (nI (sN s)) (nI (sU s)) (nI (sR s)) (nI (sQ s)) (sH s) (sF s) = σ from h] at h2
  exact h2
theorem c_settlesInS (h : Tat σ t s) (c i b : Int32) (hN : sN s < 7) : Ct G yX4_settlesIn cX4_settlesIn 4 none 1 0 0 z σ [.ref t, .int c, .int i, .int b] none z (twS σ t (upd (sC s) (sN s) c, upd (sI s) (sN s) i, upd (sP s) (sN s) (-1), sD s, sN s + 1, sU s, sR s, sQ s, (if b = 0 then sH s else orI (sH s) (sN s)), sF s)) := by
  have h2 := c_settlesIn G z σ t (sC s) (sI s) (sP s) (sD s) (nI (sU s)) (nI (sR s)) (nI (sQ s)) (sH s) (sF s) c i b hN
  rw [show tw σ t (sC s) (sI s) (sP s) (sD s) (nI (sN s)) (nI (sU s)) (nI (sR s)) (nI (sQ s)) (sH s) (sF s) = σ from h] at h2
  exact h2
theorem c_owesMoreS (h : Tat σ t s) {a b : Nat} (x : Int32) (hab : a * 7 + b < 49) : Ct G yX4_owesMore cX4_owesMore 4 none 1 0 0 z σ [.ref t, .int (nI a), .int (nI b), .int x] none z (twS σ t (sC s, sI s, sP s, upd (sD s) (a * 7 + b) (sD s (a * 7 + b) + x), sN s, sU s, sR s, sQ s, sH s, sF s)) := by
  have h2 := c_owesMore G z σ t (sC s) (sI s) (sP s) (sD s) (nI (sN s)) (nI (sU s)) (nI (sR s)) (nI (sQ s)) (sH s) (sF s) x hab
  rw [show tw σ t (sC s) (sI s) (sP s) (sD s) (nI (sN s)) (nI (sU s)) (nI (sR s)) (nI (sQ s)) (sH s) (sF s) = σ from h] at h2
  exact h2
theorem c_becomesS {t2 : Nat} {s2 : TS} (h : Tat σ t s) (h2 : Tat σ t2 s2) (hs : t2 + 4 < t ∨ t + 4 < t2) : Ct G yX4_becomes cX4_becomes 2 none 1 0 0 z σ [.ref t, .ref t2] none z (twS σ t s2) := by
  have h3 := c_becomes G z σ t (sC s) (sI s) (sP s) (sD s) (nI (sN s)) (nI (sU s)) (nI (sR s)) (nI (sQ s)) (sH s) (sF s) t2 (sC s2) (sI s2) (sP s2) (sD s2) (nI (sN s2)) (nI (sU s2)) (nI (sR s2)) (nI (sQ s2)) (sH s2) (sF s2) hs
  rw [show tw σ t2 (sC s2) (sI s2) (sP s2) (sD s2) (nI (sN s2)) (nI (sU s2)) (nI (sR s2)) (nI (sQ s2)) (sH s2) (sF s2) = σ from h2, show tw σ t (sC s) (sI s) (sP s) (sD s) (nI (sN s)) (nI (sU s)) (nI (sR s)) (nI (sQ s)) (sH s) (sF s) = σ from h] at h3
  exact h3
end TSV
end
section
/-! HELPERS of the class: acts, findings, who is there -/
theorem j_ldcw {G : GG} {oR : String} {oc : ByteArray} {on : Nat} {ort : Option FieldType} {T : TG} {z kc ks pc : Nat} {σ : AH} {L : List (Option Value)} {st : List Value} {ix : Nat} (v : Int32) (hd : decode oc pc = .ok (.ldc_w ix, 3)) (hw0 : Cond.constant oR ix v ∈ gw) (k : J G oR oc on ort T z σ kc ks (pc + 3) L (.int v :: st)) : J G oR oc on ort T z σ kc ks pc L st := by
  intro p l e s m args below meth c H locs ls C X hw hS hL
  exact lv_ldcw C.1 C.2.1 C.2.2.2.2.1 (C.2.2.2.2.2.1 _ hw0) hd (k p l e s m args below meth c H locs ls C X hw hS hL)
theorem j_aaldL {G : GG} {oR : String} {oc : ByteArray} {on : Nat} {ort : Option FieldType} {T : TG} {z kc ks pc : Nat} {σ : AH} {L : List (Option Value)} {st : List Value} (kd n c0 c1 : Nat) {a k : Nat} {i : Int32} (hd : decode oc pc = .ok (.aaload, 1)) (he : σ a = some (.inr (.inl (kd, n, fun i => some (c0 + c1 * i))))) (hkd : kd = 3 ∨ kd = 4) (hi : i = nI k) (hk : k < n) (hn : n < 2 ^ 31)
    (kk : J G oR oc on ort T z σ kc ks (pc + 1) L (.ref (c0 + c1 * k) :: st)) : J G oR oc on ort T z σ kc ks pc L (.int i :: .ref a :: st) := j_aald hd he hkd hi hk hn rfl kk
theorem dX5_found_0 : decode cX5_found 0 = .ok (.aload_n 0, 1) := by decide +kernel
theorem dX5_found_1 : decode cX5_found 1 = .ok (.iload_n 1, 1) := by decide +kernel
theorem dX5_found_2 : decode cX5_found 2 = .ok (.putfield 255, 3) := by decide +kernel
theorem dX5_found_5 : decode cX5_found 5 = .ok (.ldc_w 258, 3) := by decide +kernel
theorem dX5_found_8 : decode cX5_found 8 = .ok (.iload_n 1, 1) := by decide +kernel
theorem dX5_found_9 : decode cX5_found 9 = .ok (.isub, 1) := by decide +kernel
theorem dX5_found_10 : decode cX5_found 10 = .ok (.ireturn, 1) := by decide +kernel
theorem dX5_foundNothing_0 : decode cX5_foundNothing 0 = .ok (.aload_n 0, 1) := by decide +kernel
theorem dX5_foundNothing_1 : decode cX5_foundNothing 1 = .ok (.iconst 0, 1) := by decide +kernel
theorem dX5_foundNothing_2 : decode cX5_foundNothing 2 = .ok (.putfield 255, 3) := by decide +kernel
theorem dX5_foundNothing_5 : decode cX5_foundNothing 5 = .ok (.iload_n 1, 1) := by decide +kernel
theorem dX5_foundNothing_6 : decode cX5_foundNothing 6 = .ok (.ireturn, 1) := by decide +kernel
theorem dX5_isNoRow_0 : decode cX5_isNoRow 0 = .ok (.iload_n 0, 1) := by decide +kernel
theorem dX5_isNoRow_1 : decode cX5_isNoRow 1 = .ok (.ifCond .lt 9, 3) := by decide +kernel
theorem dX5_isNoRow_4 : decode cX5_isNoRow 4 = .ok (.iload_n 0, 1) := by decide +kernel
theorem dX5_isNoRow_5 : decode cX5_isNoRow 5 = .ok (.bipush 8, 2) := by decide +kernel
theorem dX5_isNoRow_7 : decode cX5_isNoRow 7 = .ok (.if_icmp .lt 7, 3) := by decide +kernel
theorem dX5_isNoRow_10 : decode cX5_isNoRow 10 = .ok (.iconst 1, 1) := by decide +kernel
theorem dX5_isNoRow_11 : decode cX5_isNoRow 11 = .ok (.goto 4, 3) := by decide +kernel
theorem dX5_isNoRow_14 : decode cX5_isNoRow 14 = .ok (.iconst 0, 1) := by decide +kernel
theorem dX5_isNoRow_15 : decode cX5_isNoRow 15 = .ok (.ireturn, 1) := by decide +kernel
theorem dX5_isNoTown_0 : decode cX5_isNoTown 0 = .ok (.aload_n 0, 1) := by decide +kernel
theorem dX5_isNoTown_1 : decode cX5_isNoTown 1 = .ok (.getfield 26, 3) := by decide +kernel
theorem dX5_isNoTown_4 : decode cX5_isNoTown 4 = .ok (.getfield 131, 3) := by decide +kernel
theorem dX5_isNoTown_7 : decode cX5_isNoTown 7 = .ok (.ifCond .ne 7, 3) := by decide +kernel
theorem dX5_isNoTown_10 : decode cX5_isNoTown 10 = .ok (.iconst 1, 1) := by decide +kernel
theorem dX5_isNoTown_11 : decode cX5_isNoTown 11 = .ok (.goto 4, 3) := by decide +kernel
theorem dX5_isNoTown_14 : decode cX5_isNoTown 14 = .ok (.iconst 0, 1) := by decide +kernel
theorem dX5_isNoTown_15 : decode cX5_isNoTown 15 = .ok (.ireturn, 1) := by decide +kernel
theorem dX5_isNoPerson_0 : decode cX5_isNoPerson 0 = .ok (.iload_n 1, 1) := by decide +kernel
theorem dX5_isNoPerson_1 : decode cX5_isNoPerson 1 = .ok (.ifCond .lt 14, 3) := by decide +kernel
theorem dX5_isNoPerson_4 : decode cX5_isNoPerson 4 = .ok (.iload_n 1, 1) := by decide +kernel
theorem dX5_isNoPerson_5 : decode cX5_isNoPerson 5 = .ok (.aload_n 0, 1) := by decide +kernel
theorem dX5_isNoPerson_6 : decode cX5_isNoPerson 6 = .ok (.getfield 26, 3) := by decide +kernel
theorem dX5_isNoPerson_9 : decode cX5_isNoPerson 9 = .ok (.getfield 131, 3) := by decide +kernel
theorem dX5_isNoPerson_12 : decode cX5_isNoPerson 12 = .ok (.if_icmp .lt 7, 3) := by decide +kernel
theorem dX5_isNoPerson_15 : decode cX5_isNoPerson 15 = .ok (.iconst 1, 1) := by decide +kernel
theorem dX5_isNoPerson_16 : decode cX5_isNoPerson 16 = .ok (.goto 4, 3) := by decide +kernel
theorem dX5_isNoPerson_19 : decode cX5_isNoPerson 19 = .ok (.iconst 0, 1) := by decide +kernel
theorem dX5_isNoPerson_20 : decode cX5_isNoPerson 20 = .ok (.ireturn, 1) := by decide +kernel
theorem dX5_isNoPair_0 : decode cX5_isNoPair 0 = .ok (.aload_n 0, 1) := by decide +kernel
theorem dX5_isNoPair_1 : decode cX5_isNoPair 1 = .ok (.iload_n 1, 1) := by decide +kernel
theorem dX5_isNoPair_2 : decode cX5_isNoPair 2 = .ok (.invokevirtual 155, 3) := by decide +kernel
theorem dX5_isNoPair_5 : decode cX5_isNoPair 5 = .ok (.ifCond .ne 16, 3) := by decide +kernel
theorem dX5_isNoPair_8 : decode cX5_isNoPair 8 = .ok (.aload_n 0, 1) := by decide +kernel
theorem dX5_isNoPair_9 : decode cX5_isNoPair 9 = .ok (.iload_n 2, 1) := by decide +kernel
theorem dX5_isNoPair_10 : decode cX5_isNoPair 10 = .ok (.invokevirtual 155, 3) := by decide +kernel
theorem dX5_isNoPair_13 : decode cX5_isNoPair 13 = .ok (.ifCond .ne 8, 3) := by decide +kernel
theorem dX5_isNoPair_16 : decode cX5_isNoPair 16 = .ok (.iload_n 1, 1) := by decide +kernel
theorem dX5_isNoPair_17 : decode cX5_isNoPair 17 = .ok (.iload_n 2, 1) := by decide +kernel
theorem dX5_isNoPair_18 : decode cX5_isNoPair 18 = .ok (.if_icmp .ne 7, 3) := by decide +kernel
theorem dX5_isNoPair_21 : decode cX5_isNoPair 21 = .ok (.iconst 1, 1) := by decide +kernel
theorem dX5_isNoPair_22 : decode cX5_isNoPair 22 = .ok (.goto 4, 3) := by decide +kernel
theorem dX5_isNoPair_25 : decode cX5_isNoPair 25 = .ok (.iconst 0, 1) := by decide +kernel
theorem dX5_isNoPair_26 : decode cX5_isNoPair 26 = .ok (.ireturn, 1) := by decide +kernel
theorem ups_ups {σ : AH} {a : Nat} {e e2 : AE} : ups (ups σ a e) a e2 = ups σ a e2 := by
  funext k; unfold ups; split <;> rfl
/-- the place of the next act, behind one, ahead of one -/
def nxt (n : Nat) : Nat := if n + 1 < 24 then n + 1 else 0
def prv (n : Nat) : Nat := if 0 < n then n - 1 else 23
section H1
variable {G : GG} {z : Nat} {σ : AH} {lf fd : Int32} {rl rn : Nat → Int32} {ri : Nat → Nat → Int32} {tp rd : Nat → Int32} {dd d df : TS} {nx kp : Nat} {da di : Nat → TS} {tr : Nat} {bo ne : Nat → Int32}
theorem c_keep (X : XR σ lf fd rl rn ri tp rd dd d df nx kp da di tr bo ne) (hn : nx < 24) (hk : kp ≤ 24) : Ct G yX0_keep cX0_keep 2 none 3 0 0 z σ [.ref 35, .ref 25] none z (ups (twS σ (37 + 5 * nx) d) 35 (xA (nxt nx) (min (kp + 1) 24))) := by
  refine Ct.ofJ RX0 rfl [some (.ref 35), some (.ref 25)] rfl (by decide) Nat.le.refl ?_
  have X1 := X.act nx hn d
  have hm : (if nI 24 < nI (kp + 1) then nI 24 else nI (kp + 1)) = nI (min (kp + 1) 24) := by
    by_cases h : 24 < kp + 1
    · rw [if_pos (nI_lt h (by omega)), Nat.min_eq_right (by omega)]
    · rw [if_neg (nI_nlt (by omega) (by omega)), Nat.min_eq_left (by omega)]
  refine j_aload_n dX0_keep_0 rfl rfl ?_
  refine j_getf dX0_keep_1 0 0 rfl (Nat.le_of_ble_eq_true rfl) fl_X0_11 in_0 (by first | exact X.1 | exact X.2.1 | exact X.2.2.2.1 | exact X.2.2.2.2.1 | exact X.2.2.2.2.2.2.1.o | exact X.2.2.2.2.2.2.1.c | exact X.2.2.2.2.2.2.1.i | exact X.2.2.2.2.2.2.1.p | exact X.2.2.2.2.2.2.1.d | exact X.2.2.2.2.2.2.2.1.o | exact X.2.2.2.2.2.2.2.2.1 | exact X.2.2.2.2.2.2.2.2.2.1 | exact X.2.2.2.2.2.2.2.2.2.2.2.1 | exact X.2.2.2.2.2.2.2.2.2.2.2.2.2.1 | exact X.2.2.2.2.2.2.2.2.2.2.2.2.2.2.1 | exact X.2.2.2.2.2.2.2.2.2.2.2.2.2.2.2) rfl ?_
  refine j_aload_n dX0_keep_4 rfl rfl ?_
  refine j_getf dX0_keep_5 0 1 rfl (Nat.le_of_ble_eq_true rfl) fl_X0_18 in_0 (by first | exact X.1 | exact X.2.1 | exact X.2.2.2.1 | exact X.2.2.2.2.1 | exact X.2.2.2.2.2.2.1.o | exact X.2.2.2.2.2.2.1.c | exact X.2.2.2.2.2.2.1.i | exact X.2.2.2.2.2.2.1.p | exact X.2.2.2.2.2.2.1.d | exact X.2.2.2.2.2.2.2.1.o | exact X.2.2.2.2.2.2.2.2.1 | exact X.2.2.2.2.2.2.2.2.2.1 | exact X.2.2.2.2.2.2.2.2.2.2.2.1 | exact X.2.2.2.2.2.2.2.2.2.2.2.2.2.1 | exact X.2.2.2.2.2.2.2.2.2.2.2.2.2.2.1 | exact X.2.2.2.2.2.2.2.2.2.2.2.2.2.2.2) rfl ?_
  refine j_aaldL 4 24 37 5 dX0_keep_8 (by first | exact X.1 | exact X.2.1 | exact X.2.2.2.1 | exact X.2.2.2.2.1 | exact X.2.2.2.2.2.2.1.o | exact X.2.2.2.2.2.2.1.c | exact X.2.2.2.2.2.2.1.i | exact X.2.2.2.2.2.2.1.p | exact X.2.2.2.2.2.2.1.d | exact X.2.2.2.2.2.2.2.1.o | exact X.2.2.2.2.2.2.2.2.1 | exact X.2.2.2.2.2.2.2.2.2.1 | exact X.2.2.2.2.2.2.2.2.2.2.2.1 | exact X.2.2.2.2.2.2.2.2.2.2.2.2.2.1 | exact X.2.2.2.2.2.2.2.2.2.2.2.2.2.2.1 | exact X.2.2.2.2.2.2.2.2.2.2.2.2.2.2.2) (by decide) rfl hn (by decide) ?_
  refine j_aload_n dX0_keep_9 rfl rfl ?_
  refine j_callV (c_becomesS (X.2.2.2.2.2.2.2.2.2.2.1 nx hn) X.2.2.2.2.2.2.1 (Or.inl (by omega))) dX0_keep_10 rfl mv_X0_25 (X.2.2.2.2.2.2.2.2.2.2.1 nx hn).o rfl ⟨(Nat.le_of_ble_eq_true rfl), (Nat.le_of_ble_eq_true rfl)⟩ ⟨(Nat.le_of_ble_eq_true rfl), (Nat.le_of_ble_eq_true rfl)⟩ (Nat.le_of_ble_eq_true rfl) ?_
  refine j_aload_n dX0_keep_13 rfl rfl ?_
  refine j_aload_n dX0_keep_14 rfl rfl ?_
  refine j_getf dX0_keep_15 0 1 rfl (Nat.le_of_ble_eq_true rfl) fl_X0_18 in_0 X1.2.2.2.2.2.2.2.2.1 rfl ?_
  refine j_iconst (nI 1) dX0_keep_18 rfl ?_
  first | refine j_iaddN dX0_keep_19 ?_ | refine j_iadd dX0_keep_19 ?_
  refine j_bipush (nI 24) dX0_keep_20 rfl ?_
  refine j_icmp_geN 34 dX0_keep_22 (by decide) (by omega) (by omega) (fun b22 => ?_) (fun b22 => ?_)
  · refine j_iconst (nI 0) dX0_keep_34 rfl ?_
    refine j_putf dX0_keep_35 0 1 rfl (Nat.le_of_ble_eq_true rfl) fl_X0_18 in_0 tyX0 tyX0_ok nmX0 rfl rfl X1.2.2.2.2.2.2.2.2.1 (Nat.le_of_ble_eq_true rfl) _ rfl ?_
    refine j_aload_n dX0_keep_38 rfl rfl ?_
    refine j_aload_n dX0_keep_39 rfl rfl ?_
    refine j_getf dX0_keep_40 0 2 rfl (Nat.le_of_ble_eq_true rfl) fl_X0_22 in_0 ups_a rfl ?_
    refine j_iconst (nI 1) dX0_keep_43 rfl ?_
    first | refine j_iaddN dX0_keep_44 ?_ | refine j_iadd dX0_keep_44 ?_
    refine j_bipush (nI 24) dX0_keep_45 rfl ?_
    refine j_min dX0_keep_47 mm_X0_29 (Nat.le_of_ble_eq_true rfl) (Nat.le_of_ble_eq_true rfl) (Nat.le_of_ble_eq_true rfl) (Nat.le_of_ble_eq_true rfl) ?_
    refine j_putf dX0_keep_50 0 2 rfl (Nat.le_of_ble_eq_true rfl) fl_X0_22 in_0 tyX0 tyX0_ok nmX0 rfl rfl ups_a (Nat.le_of_ble_eq_true rfl) _ rfl ?_
    exact j_vret rfl dX0_keep_53 (by rw [ups_ups, hm]; unfold nxt; (first | rw [if_pos (show nx + 1 < 24 from b22)] | rw [if_neg (show ¬ nx + 1 < 24 from Nat.not_lt.mpr b22)]); rfl) (Nat.le_of_ble_eq_true rfl) (Nat.le_of_ble_eq_true rfl)
  · refine j_aload_n dX0_keep_25 rfl rfl ?_
    refine j_getf dX0_keep_26 0 1 rfl (Nat.le_of_ble_eq_true rfl) fl_X0_18 in_0 X1.2.2.2.2.2.2.2.2.1 rfl ?_
    refine j_iconst (nI 1) dX0_keep_29 rfl ?_
    first | refine j_iaddN dX0_keep_30 ?_ | refine j_iadd dX0_keep_30 ?_
    refine j_goto 35 dX0_keep_31 (by decide) ?_
    refine j_putf dX0_keep_35 0 1 rfl (Nat.le_of_ble_eq_true rfl) fl_X0_18 in_0 tyX0 tyX0_ok nmX0 rfl rfl X1.2.2.2.2.2.2.2.2.1 (Nat.le_of_ble_eq_true rfl) _ rfl ?_
    refine j_aload_n dX0_keep_38 rfl rfl ?_
    refine j_aload_n dX0_keep_39 rfl rfl ?_
    refine j_getf dX0_keep_40 0 2 rfl (Nat.le_of_ble_eq_true rfl) fl_X0_22 in_0 ups_a rfl ?_
    refine j_iconst (nI 1) dX0_keep_43 rfl ?_
    first | refine j_iaddN dX0_keep_44 ?_ | refine j_iadd dX0_keep_44 ?_
    refine j_bipush (nI 24) dX0_keep_45 rfl ?_
    refine j_min dX0_keep_47 mm_X0_29 (Nat.le_of_ble_eq_true rfl) (Nat.le_of_ble_eq_true rfl) (Nat.le_of_ble_eq_true rfl) (Nat.le_of_ble_eq_true rfl) ?_
    refine j_putf dX0_keep_50 0 2 rfl (Nat.le_of_ble_eq_true rfl) fl_X0_22 in_0 tyX0 tyX0_ok nmX0 rfl rfl ups_a (Nat.le_of_ble_eq_true rfl) _ rfl ?_
    exact j_vret rfl dX0_keep_53 (by rw [ups_ups, hm]; unfold nxt; (first | rw [if_pos (show nx + 1 < 24 from b22)] | rw [if_neg (show ¬ nx + 1 < 24 from Nat.not_lt.mpr b22)]); rfl) (Nat.le_of_ble_eq_true rfl) (Nat.le_of_ble_eq_true rfl)
theorem c_takeBack (X : XR σ lf fd rl rn ri tp rd dd d df nx kp da di tr bo ne) (hn : nx < 24) (hk : kp ≤ 24) (hk0 : 1 ≤ kp) : Ct G yX0_takeBack cX0_takeBack 2 none 3 0 0 z σ [.ref 35, .ref 25] none z (twS (ups σ 35 (xA (prv nx) (kp - 1))) 25 (da (prv nx))) := by
  refine Ct.ofJ RX0 rfl [some (.ref 35), some (.ref 25)] rfl (by decide) Nat.le.refl ?_
  have hp : prv nx < 24 := by unfold prv; split <;> omega
  have X2 := X.acts (prv nx) (kp - 1)
  have H : J G RX0 cX0_takeBack 2 none (TQ G 3 0 0 none z (twS (ups σ 35 (xA (prv nx) (kp - 1))) 25 (da (prv nx)))) z (ups σ 35 (xA (prv nx) kp)) 0 0 22 [some (.ref 35), some (.ref 25)] [] := by
    refine j_aload_n dX0_takeBack_22 rfl rfl ?_
    refine j_dup dX0_takeBack_23 rfl ?_
    refine j_getf dX0_takeBack_24 0 2 rfl (Nat.le_of_ble_eq_true rfl) fl_X0_22 in_0 (by first | exact ups_a | exact X2.2.2.2.2.2.2.2.2.1 | exact X2.2.2.2.2.2.2.2.2.2.1 | exact X2.2.2.2.2.2.2.1.o) rfl ?_
    refine j_iconst (nI 1) dX0_takeBack_27 rfl ?_
    refine j_isubN dX0_takeBack_28 hk0 ?_
    refine j_putf dX0_takeBack_29 0 2 rfl (Nat.le_of_ble_eq_true rfl) fl_X0_22 in_0 tyX0 tyX0_ok nmX0 rfl rfl (by first | exact ups_a | exact X2.2.2.2.2.2.2.2.2.1 | exact X2.2.2.2.2.2.2.2.2.2.1 | exact X2.2.2.2.2.2.2.1.o) (Nat.le_of_ble_eq_true rfl) _ (show _ = ups σ 35 (xA (prv nx) (kp - 1)) from by funext k; unfold ups; split <;> rfl) ?_
    refine j_aload_n dX0_takeBack_32 rfl rfl ?_
    refine j_aload_n dX0_takeBack_33 rfl rfl ?_
    refine j_getf dX0_takeBack_34 0 0 rfl (Nat.le_of_ble_eq_true rfl) fl_X0_11 in_0 (by first | exact ups_a | exact X2.2.2.2.2.2.2.2.2.1 | exact X2.2.2.2.2.2.2.2.2.2.1 | exact X2.2.2.2.2.2.2.1.o) rfl ?_
    refine j_aload_n dX0_takeBack_37 rfl rfl ?_
    refine j_getf dX0_takeBack_38 0 1 rfl (Nat.le_of_ble_eq_true rfl) fl_X0_18 in_0 (by first | exact ups_a | exact X2.2.2.2.2.2.2.2.2.1 | exact X2.2.2.2.2.2.2.2.2.2.1 | exact X2.2.2.2.2.2.2.1.o) rfl ?_
    refine j_aaldL 4 24 37 5 dX0_takeBack_41 (by first | exact ups_a | exact X2.2.2.2.2.2.2.2.2.1 | exact X2.2.2.2.2.2.2.2.2.2.1 | exact X2.2.2.2.2.2.2.1.o) (by decide) rfl hp (by decide) ?_
    refine j_callV (c_becomesS X2.2.2.2.2.2.2.1 (X2.2.2.2.2.2.2.2.2.2.2.1 (prv nx) hp) (Or.inr (by omega))) dX0_takeBack_42 rfl mv_X0_25 (by first | exact ups_a | exact X2.2.2.2.2.2.2.2.2.1 | exact X2.2.2.2.2.2.2.2.2.2.1 | exact X2.2.2.2.2.2.2.1.o) rfl ⟨(Nat.le_of_ble_eq_true rfl), (Nat.le_of_ble_eq_true rfl)⟩ ⟨(Nat.le_of_ble_eq_true rfl), (Nat.le_of_ble_eq_true rfl)⟩ (Nat.le_of_ble_eq_true rfl) ?_
    exact j_vret rfl dX0_takeBack_45 rfl (Nat.le_of_ble_eq_true rfl) (Nat.le_of_ble_eq_true rfl)
  refine j_aload_n dX0_takeBack_0 rfl rfl ?_
  refine j_aload_n dX0_takeBack_1 rfl rfl ?_
  refine j_getf dX0_takeBack_2 0 1 rfl (Nat.le_of_ble_eq_true rfl) fl_X0_18 in_0 (by first | exact X.1 | exact X.2.1 | exact X.2.2.2.1 | exact X.2.2.2.2.1 | exact X.2.2.2.2.2.2.1.o | exact X.2.2.2.2.2.2.1.c | exact X.2.2.2.2.2.2.1.i | exact X.2.2.2.2.2.2.1.p | exact X.2.2.2.2.2.2.1.d | exact X.2.2.2.2.2.2.2.1.o | exact X.2.2.2.2.2.2.2.2.1 | exact X.2.2.2.2.2.2.2.2.2.1 | exact X.2.2.2.2.2.2.2.2.2.2.2.1 | exact X.2.2.2.2.2.2.2.2.2.2.2.2.2.1 | exact X.2.2.2.2.2.2.2.2.2.2.2.2.2.2.1 | exact X.2.2.2.2.2.2.2.2.2.2.2.2.2.2.2) rfl ?_
  refine j_if_le 17 dX0_takeBack_5 (by decide) (fun b5 => ?_) (fun b5 => ?_)
  · refine j_bipush (nI 23) dX0_takeBack_17 rfl ?_
    skip
    refine j_putf dX0_takeBack_19 0 1 rfl (Nat.le_of_ble_eq_true rfl) fl_X0_18 in_0 tyX0 tyX0_ok nmX0 rfl rfl (by first | exact X.1 | exact X.2.1 | exact X.2.2.2.1 | exact X.2.2.2.2.1 | exact X.2.2.2.2.2.2.1.o | exact X.2.2.2.2.2.2.1.c | exact X.2.2.2.2.2.2.1.i | exact X.2.2.2.2.2.2.1.p | exact X.2.2.2.2.2.2.1.d | exact X.2.2.2.2.2.2.2.1.o | exact X.2.2.2.2.2.2.2.2.1 | exact X.2.2.2.2.2.2.2.2.2.1 | exact X.2.2.2.2.2.2.2.2.2.2.2.1 | exact X.2.2.2.2.2.2.2.2.2.2.2.2.2.1 | exact X.2.2.2.2.2.2.2.2.2.2.2.2.2.2.1 | exact X.2.2.2.2.2.2.2.2.2.2.2.2.2.2.2) (Nat.le_of_ble_eq_true rfl) _ rfl ?_
    refine Eq.mp ?_ H
    unfold prv
    first | (rw [if_pos (show 0 < nx from Nat.pos_of_ne_zero (fun h => b5 (by subst h; decide)))]) | (rw [if_neg (show ¬ 0 < nx from fun q => absurd b5 (nI_nle q (by omega)))])
    rfl
  · refine j_aload_n dX0_takeBack_8 rfl rfl ?_
    refine j_getf dX0_takeBack_9 0 1 rfl (Nat.le_of_ble_eq_true rfl) fl_X0_18 in_0 (by first | exact X.1 | exact X.2.1 | exact X.2.2.2.1 | exact X.2.2.2.2.1 | exact X.2.2.2.2.2.2.1.o | exact X.2.2.2.2.2.2.1.c | exact X.2.2.2.2.2.2.1.i | exact X.2.2.2.2.2.2.1.p | exact X.2.2.2.2.2.2.1.d | exact X.2.2.2.2.2.2.2.1.o | exact X.2.2.2.2.2.2.2.2.1 | exact X.2.2.2.2.2.2.2.2.2.1 | exact X.2.2.2.2.2.2.2.2.2.2.2.1 | exact X.2.2.2.2.2.2.2.2.2.2.2.2.2.1 | exact X.2.2.2.2.2.2.2.2.2.2.2.2.2.2.1 | exact X.2.2.2.2.2.2.2.2.2.2.2.2.2.2.2) rfl ?_
    refine j_iconst (nI 1) dX0_takeBack_12 rfl ?_
    refine j_isubN dX0_takeBack_13 (Nat.pos_of_ne_zero (fun h => b5 (by subst h; decide))) ?_
    refine j_goto 19 dX0_takeBack_14 (by decide) ?_
    skip
    refine j_putf dX0_takeBack_19 0 1 rfl (Nat.le_of_ble_eq_true rfl) fl_X0_18 in_0 tyX0 tyX0_ok nmX0 rfl rfl (by first | exact X.1 | exact X.2.1 | exact X.2.2.2.1 | exact X.2.2.2.2.1 | exact X.2.2.2.2.2.2.1.o | exact X.2.2.2.2.2.2.1.c | exact X.2.2.2.2.2.2.1.i | exact X.2.2.2.2.2.2.1.p | exact X.2.2.2.2.2.2.1.d | exact X.2.2.2.2.2.2.2.1.o | exact X.2.2.2.2.2.2.2.2.1 | exact X.2.2.2.2.2.2.2.2.2.1 | exact X.2.2.2.2.2.2.2.2.2.2.2.1 | exact X.2.2.2.2.2.2.2.2.2.2.2.2.2.1 | exact X.2.2.2.2.2.2.2.2.2.2.2.2.2.2.1 | exact X.2.2.2.2.2.2.2.2.2.2.2.2.2.2.2) (Nat.le_of_ble_eq_true rfl) _ rfl ?_
    refine Eq.mp ?_ H
    unfold prv
    first | (rw [if_pos (show 0 < nx from Nat.pos_of_ne_zero (fun h => b5 (by subst h; decide)))]) | (rw [if_neg (show ¬ 0 < nx from fun q => absurd b5 (nI_nle q (by omega)))])
    rfl
theorem c_found (X : XR σ lf fd rl rn ri tp rd dd d df nx kp da di tr bo ne) (x : Int32) : Ct G yX5_found cX5_found 2 (some .int) 1 0 0 z σ [.ref 0, .int x] (some (.int (-1000010 - x))) z (ups σ 0 (xO lf x)) := by
  refine Ct.ofJ RX5 rfl [some (.ref 0), some (.int x)] rfl (by decide) Nat.le.refl ?_
  refine j_aload_n dX5_found_0 rfl rfl ?_
  refine j_iload_n dX5_found_1 rfl rfl ?_
  refine j_putf dX5_found_2 5 3 rfl (Nat.le_of_ble_eq_true rfl) fl_X5_255 in_5 tyX5 tyX5_ok nmX5 rfl rfl (by first | exact X.1 | exact X.2.1 | exact X.2.2.2.1 | exact X.2.2.2.2.1 | exact X.2.2.2.2.2.2.1.o | exact X.2.2.2.2.2.2.1.c | exact X.2.2.2.2.2.2.1.i | exact X.2.2.2.2.2.2.1.p | exact X.2.2.2.2.2.2.1.d | exact X.2.2.2.2.2.2.2.1.o | exact X.2.2.2.2.2.2.2.2.1 | exact X.2.2.2.2.2.2.2.2.2.1 | exact X.2.2.2.2.2.2.2.2.2.2.2.1 | exact X.2.2.2.2.2.2.2.2.2.2.2.2.2.1 | exact X.2.2.2.2.2.2.2.2.2.2.2.2.2.2.1 | exact X.2.2.2.2.2.2.2.2.2.2.2.2.2.2.2) (Nat.le_of_ble_eq_true rfl) _ rfl ?_
  refine j_ldcw (-1000010) dX5_found_5 kc_X5_258 ?_
  refine j_iload_n dX5_found_8 rfl rfl ?_
  refine j_isub dX5_found_9 ?_
  exact j_iret rfl dX5_found_10 rfl rfl (Nat.le_of_ble_eq_true rfl) (Nat.le_of_ble_eq_true rfl)
theorem c_foundNothing (X : XR σ lf fd rl rn ri tp rd dd d df nx kp da di tr bo ne) (x : Int32) : Ct G yX5_foundNothing cX5_foundNothing 2 (some .int) 1 0 0 z σ [.ref 0, .int x] (some (.int x)) z (ups σ 0 (xO lf (nI 0))) := by
  refine Ct.ofJ RX5 rfl [some (.ref 0), some (.int x)] rfl (by decide) Nat.le.refl ?_
  refine j_aload_n dX5_foundNothing_0 rfl rfl ?_
  refine j_iconst (nI 0) dX5_foundNothing_1 rfl ?_
  refine j_putf dX5_foundNothing_2 5 3 rfl (Nat.le_of_ble_eq_true rfl) fl_X5_255 in_5 tyX5 tyX5_ok nmX5 rfl rfl (by first | exact X.1 | exact X.2.1 | exact X.2.2.2.1 | exact X.2.2.2.2.1 | exact X.2.2.2.2.2.2.1.o | exact X.2.2.2.2.2.2.1.c | exact X.2.2.2.2.2.2.1.i | exact X.2.2.2.2.2.2.1.p | exact X.2.2.2.2.2.2.1.d | exact X.2.2.2.2.2.2.2.1.o | exact X.2.2.2.2.2.2.2.2.1 | exact X.2.2.2.2.2.2.2.2.2.1 | exact X.2.2.2.2.2.2.2.2.2.2.2.1 | exact X.2.2.2.2.2.2.2.2.2.2.2.2.2.1 | exact X.2.2.2.2.2.2.2.2.2.2.2.2.2.2.1 | exact X.2.2.2.2.2.2.2.2.2.2.2.2.2.2.2) (Nat.le_of_ble_eq_true rfl) _ rfl ?_
  refine j_iload_n dX5_foundNothing_5 rfl rfl ?_
  exact j_iret rfl dX5_foundNothing_6 rfl rfl (Nat.le_of_ble_eq_true rfl) (Nat.le_of_ble_eq_true rfl)
def nrI (r : Int32) : Int32 := if r < 0 then nI 1 else if r < nI 8 then nI 0 else nI 1
theorem c_isNoRow (r : Int32) : Ct G yX5_isNoRow cX5_isNoRow 1 (some .boolean) 1 0 0 z σ [.int r] (some (.int (nrI r))) z σ := by
  refine Ct.ofJ RX5 rfl [some (.int r)] rfl (by decide) Nat.le.refl ?_
  refine j_iload_n dX5_isNoRow_0 rfl rfl ?_
  refine j_if_lt 10 dX5_isNoRow_1 (by decide) (fun b1 => ?_) (fun b1 => ?_)
  · refine j_iconst (nI 1) dX5_isNoRow_10 rfl ?_
    refine j_goto 15 dX5_isNoRow_11 (by decide) ?_
    exact j_zret .boolean rfl rfl dX5_isNoRow_15 (by unfold nrI; (repeat' (first | contradiction | rfl | split))) rfl (Nat.le_of_ble_eq_true rfl) (Nat.le_of_ble_eq_true rfl)
  · refine j_iload_n dX5_isNoRow_4 rfl rfl ?_
    refine j_bipush (nI 8) dX5_isNoRow_5 rfl ?_
    refine j_icmp_lt 14 dX5_isNoRow_7 (by decide) (fun b7 => ?_) (fun b7 => ?_)
    · refine j_iconst (nI 0) dX5_isNoRow_14 rfl ?_
      exact j_zret .boolean rfl rfl dX5_isNoRow_15 (by unfold nrI; (repeat' (first | contradiction | rfl | split))) rfl (Nat.le_of_ble_eq_true rfl) (Nat.le_of_ble_eq_true rfl)
    · refine j_iconst (nI 1) dX5_isNoRow_10 rfl ?_
      refine j_goto 15 dX5_isNoRow_11 (by decide) ?_
      exact j_zret .boolean rfl rfl dX5_isNoRow_15 (by unfold nrI; (repeat' (first | contradiction | rfl | split))) rfl (Nat.le_of_ble_eq_true rfl) (Nat.le_of_ble_eq_true rfl)
def ntI (N : Nat) : Int32 := if nI N = 0 then nI 1 else nI 0
theorem c_isNoTown (X : XR σ lf fd rl rn ri tp rd dd d df nx kp da di tr bo ne) : Ct G yX5_isNoTown cX5_isNoTown 1 (some .boolean) 1 0 0 z σ [.ref 0] (some (.int (ntI (sN d)))) z σ := by
  refine Ct.ofJ RX5 rfl [some (.ref 0)] rfl (by decide) Nat.le.refl ?_
  refine j_aload_n dX5_isNoTown_0 rfl rfl ?_
  refine j_getf dX5_isNoTown_1 5 4 rfl (Nat.le_of_ble_eq_true rfl) fl_X5_26 in_5 (by first | exact X.1 | exact X.2.1 | exact X.2.2.2.1 | exact X.2.2.2.2.1 | exact X.2.2.2.2.2.2.1.o | exact X.2.2.2.2.2.2.1.c | exact X.2.2.2.2.2.2.1.i | exact X.2.2.2.2.2.2.1.p | exact X.2.2.2.2.2.2.1.d | exact X.2.2.2.2.2.2.2.1.o | exact X.2.2.2.2.2.2.2.2.1 | exact X.2.2.2.2.2.2.2.2.2.1 | exact X.2.2.2.2.2.2.2.2.2.2.2.1 | exact X.2.2.2.2.2.2.2.2.2.2.2.2.2.1 | exact X.2.2.2.2.2.2.2.2.2.2.2.2.2.2.1 | exact X.2.2.2.2.2.2.2.2.2.2.2.2.2.2.2) rfl ?_
  refine j_getf dX5_isNoTown_4 4 4 rfl (Nat.le_of_ble_eq_true rfl) fl_X5_131 in_4 (by first | exact X.1 | exact X.2.1 | exact X.2.2.2.1 | exact X.2.2.2.2.1 | exact X.2.2.2.2.2.2.1.o | exact X.2.2.2.2.2.2.1.c | exact X.2.2.2.2.2.2.1.i | exact X.2.2.2.2.2.2.1.p | exact X.2.2.2.2.2.2.1.d | exact X.2.2.2.2.2.2.2.1.o | exact X.2.2.2.2.2.2.2.2.1 | exact X.2.2.2.2.2.2.2.2.2.1 | exact X.2.2.2.2.2.2.2.2.2.2.2.1 | exact X.2.2.2.2.2.2.2.2.2.2.2.2.2.1 | exact X.2.2.2.2.2.2.2.2.2.2.2.2.2.2.1 | exact X.2.2.2.2.2.2.2.2.2.2.2.2.2.2.2) rfl ?_
  refine j_if_ne 14 dX5_isNoTown_7 (by decide) (fun b7 => ?_) (fun b7 => ?_)
  · refine j_iconst (nI 0) dX5_isNoTown_14 rfl ?_
    exact j_zret .boolean rfl rfl dX5_isNoTown_15 (by unfold ntI; (repeat' (first | contradiction | rfl | split))) rfl (Nat.le_of_ble_eq_true rfl) (Nat.le_of_ble_eq_true rfl)
  · refine j_iconst (nI 1) dX5_isNoTown_10 rfl ?_
    refine j_goto 15 dX5_isNoTown_11 (by decide) ?_
    exact j_zret .boolean rfl rfl dX5_isNoTown_15 (by unfold ntI; (repeat' (first | contradiction | rfl | split))) rfl (Nat.le_of_ble_eq_true rfl) (Nat.le_of_ble_eq_true rfl)
def npI (p : Int32) (N : Nat) : Int32 := if p < 0 then nI 1 else if p < nI N then nI 0 else nI 1
theorem c_isNoPerson (X : XR σ lf fd rl rn ri tp rd dd d df nx kp da di tr bo ne) (p : Int32) : Ct G yX5_isNoPerson cX5_isNoPerson 2 (some .boolean) 1 0 0 z σ [.ref 0, .int p] (some (.int (npI p (sN d)))) z σ := by
  refine Ct.ofJ RX5 rfl [some (.ref 0), some (.int p)] rfl (by decide) Nat.le.refl ?_
  refine j_iload_n dX5_isNoPerson_0 rfl rfl ?_
  refine j_if_lt 15 dX5_isNoPerson_1 (by decide) (fun b1 => ?_) (fun b1 => ?_)
  · refine j_iconst (nI 1) dX5_isNoPerson_15 rfl ?_
    refine j_goto 20 dX5_isNoPerson_16 (by decide) ?_
    exact j_zret .boolean rfl rfl dX5_isNoPerson_20 (by unfold npI; (repeat' (first | contradiction | rfl | split))) rfl (Nat.le_of_ble_eq_true rfl) (Nat.le_of_ble_eq_true rfl)
  · refine j_iload_n dX5_isNoPerson_4 rfl rfl ?_
    refine j_aload_n dX5_isNoPerson_5 rfl rfl ?_
    refine j_getf dX5_isNoPerson_6 5 4 rfl (Nat.le_of_ble_eq_true rfl) fl_X5_26 in_5 (by first | exact X.1 | exact X.2.1 | exact X.2.2.2.1 | exact X.2.2.2.2.1 | exact X.2.2.2.2.2.2.1.o | exact X.2.2.2.2.2.2.1.c | exact X.2.2.2.2.2.2.1.i | exact X.2.2.2.2.2.2.1.p | exact X.2.2.2.2.2.2.1.d | exact X.2.2.2.2.2.2.2.1.o | exact X.2.2.2.2.2.2.2.2.1 | exact X.2.2.2.2.2.2.2.2.2.1 | exact X.2.2.2.2.2.2.2.2.2.2.2.1 | exact X.2.2.2.2.2.2.2.2.2.2.2.2.2.1 | exact X.2.2.2.2.2.2.2.2.2.2.2.2.2.2.1 | exact X.2.2.2.2.2.2.2.2.2.2.2.2.2.2.2) rfl ?_
    refine j_getf dX5_isNoPerson_9 4 4 rfl (Nat.le_of_ble_eq_true rfl) fl_X5_131 in_4 (by first | exact X.1 | exact X.2.1 | exact X.2.2.2.1 | exact X.2.2.2.2.1 | exact X.2.2.2.2.2.2.1.o | exact X.2.2.2.2.2.2.1.c | exact X.2.2.2.2.2.2.1.i | exact X.2.2.2.2.2.2.1.p | exact X.2.2.2.2.2.2.1.d | exact X.2.2.2.2.2.2.2.1.o | exact X.2.2.2.2.2.2.2.2.1 | exact X.2.2.2.2.2.2.2.2.2.1 | exact X.2.2.2.2.2.2.2.2.2.2.2.1 | exact X.2.2.2.2.2.2.2.2.2.2.2.2.2.1 | exact X.2.2.2.2.2.2.2.2.2.2.2.2.2.2.1 | exact X.2.2.2.2.2.2.2.2.2.2.2.2.2.2.2) rfl ?_
    refine j_icmp_lt 19 dX5_isNoPerson_12 (by decide) (fun b12 => ?_) (fun b12 => ?_)
    · refine j_iconst (nI 0) dX5_isNoPerson_19 rfl ?_
      exact j_zret .boolean rfl rfl dX5_isNoPerson_20 (by unfold npI; (repeat' (first | contradiction | rfl | split))) rfl (Nat.le_of_ble_eq_true rfl) (Nat.le_of_ble_eq_true rfl)
    · refine j_iconst (nI 1) dX5_isNoPerson_15 rfl ?_
      refine j_goto 20 dX5_isNoPerson_16 (by decide) ?_
      exact j_zret .boolean rfl rfl dX5_isNoPerson_20 (by unfold npI; (repeat' (first | contradiction | rfl | split))) rfl (Nat.le_of_ble_eq_true rfl) (Nat.le_of_ble_eq_true rfl)
def nqI (a b : Int32) (N : Nat) : Int32 := if npI a N = 0 then (if npI b N = 0 then (if a = b then nI 1 else nI 0) else nI 1) else nI 1
theorem c_isNoPair (X : XR σ lf fd rl rn ri tp rd dd d df nx kp da di tr bo ne) (a b : Int32) : Ct G yX5_isNoPair cX5_isNoPair 3 (some .boolean) 2 0 0 z σ [.ref 0, .int a, .int b] (some (.int (nqI a b (sN d)))) z σ := by
  refine Ct.ofJ RX5 rfl [some (.ref 0), some (.int a), some (.int b)] rfl (by decide) Nat.le.refl ?_
  refine j_aload_n dX5_isNoPair_0 rfl rfl ?_
  refine j_iload_n dX5_isNoPair_1 rfl rfl ?_
  refine j_callV (c_isNoPerson X a) dX5_isNoPair_2 rfl mv_X5_155 (by first | exact X.1 | exact X.2.1 | exact X.2.2.2.1 | exact X.2.2.2.2.1 | exact X.2.2.2.2.2.2.1.o | exact X.2.2.2.2.2.2.1.c | exact X.2.2.2.2.2.2.1.i | exact X.2.2.2.2.2.2.1.p | exact X.2.2.2.2.2.2.1.d | exact X.2.2.2.2.2.2.2.1.o | exact X.2.2.2.2.2.2.2.2.1 | exact X.2.2.2.2.2.2.2.2.2.1 | exact X.2.2.2.2.2.2.2.2.2.2.2.1 | exact X.2.2.2.2.2.2.2.2.2.2.2.2.2.1 | exact X.2.2.2.2.2.2.2.2.2.2.2.2.2.2.1 | exact X.2.2.2.2.2.2.2.2.2.2.2.2.2.2.2) rfl ⟨(Nat.le_of_ble_eq_true rfl), (Nat.le_of_ble_eq_true rfl)⟩ ⟨(Nat.le_of_ble_eq_true rfl), (Nat.le_of_ble_eq_true rfl)⟩ (Nat.le_of_ble_eq_true rfl) ?_
  refine j_if_ne 21 dX5_isNoPair_5 (by decide) (fun b5 => ?_) (fun b5 => ?_)
  · refine j_iconst (nI 1) dX5_isNoPair_21 rfl ?_
    refine j_goto 26 dX5_isNoPair_22 (by decide) ?_
    exact j_zret .boolean rfl rfl dX5_isNoPair_26 (by unfold nqI; (repeat' (first | contradiction | rfl | split))) rfl (Nat.le_of_ble_eq_true rfl) (Nat.le_of_ble_eq_true rfl)
  · refine j_aload_n dX5_isNoPair_8 rfl rfl ?_
    refine j_iload_n dX5_isNoPair_9 rfl rfl ?_
    refine j_callV (c_isNoPerson X b) dX5_isNoPair_10 rfl mv_X5_155 (by first | exact X.1 | exact X.2.1 | exact X.2.2.2.1 | exact X.2.2.2.2.1 | exact X.2.2.2.2.2.2.1.o | exact X.2.2.2.2.2.2.1.c | exact X.2.2.2.2.2.2.1.i | exact X.2.2.2.2.2.2.1.p | exact X.2.2.2.2.2.2.1.d | exact X.2.2.2.2.2.2.2.1.o | exact X.2.2.2.2.2.2.2.2.1 | exact X.2.2.2.2.2.2.2.2.2.1 | exact X.2.2.2.2.2.2.2.2.2.2.2.1 | exact X.2.2.2.2.2.2.2.2.2.2.2.2.2.1 | exact X.2.2.2.2.2.2.2.2.2.2.2.2.2.2.1 | exact X.2.2.2.2.2.2.2.2.2.2.2.2.2.2.2) rfl ⟨(Nat.le_of_ble_eq_true rfl), (Nat.le_of_ble_eq_true rfl)⟩ ⟨(Nat.le_of_ble_eq_true rfl), (Nat.le_of_ble_eq_true rfl)⟩ (Nat.le_of_ble_eq_true rfl) ?_
    refine j_if_ne 21 dX5_isNoPair_13 (by decide) (fun b13 => ?_) (fun b13 => ?_)
    · refine j_iconst (nI 1) dX5_isNoPair_21 rfl ?_
      refine j_goto 26 dX5_isNoPair_22 (by decide) ?_
      exact j_zret .boolean rfl rfl dX5_isNoPair_26 (by unfold nqI; (repeat' (first | contradiction | rfl | split))) rfl (Nat.le_of_ble_eq_true rfl) (Nat.le_of_ble_eq_true rfl)
    · refine j_iload_n dX5_isNoPair_16 rfl rfl ?_
      refine j_iload_n dX5_isNoPair_17 rfl rfl ?_
      refine j_icmp_ne 25 dX5_isNoPair_18 (by decide) (fun b18 => ?_) (fun b18 => ?_)
      · refine j_iconst (nI 0) dX5_isNoPair_25 rfl ?_
        exact j_zret .boolean rfl rfl dX5_isNoPair_26 (by unfold nqI; (repeat' (first | contradiction | rfl | split))) rfl (Nat.le_of_ble_eq_true rfl) (Nat.le_of_ble_eq_true rfl)
      · refine j_iconst (nI 1) dX5_isNoPair_21 rfl ?_
        refine j_goto 26 dX5_isNoPair_22 (by decide) ?_
        exact j_zret .boolean rfl rfl dX5_isNoPair_26 (by unfold nqI; (repeat' (first | contradiction | rfl | split))) rfl (Nat.le_of_ble_eq_true rfl) (Nat.le_of_ble_eq_true rfl)
end H1
end
section
/-! THE CLASS's calls with rows -/
section RV
variable {G : GG} {z : Nat} {σ : AH} {a : Nat} {it : Nat → Int32} {la le : Int32}
theorem c_isMissingR (h : Rat σ a it la le) : Ct G yX3_isMissing cX3_isMissing 1 (some .boolean) 1 0 0 z σ [.ref a] (some (.int (if la = -1 then nI 1 else nI 0))) z σ := by
  have h2 := c_isMissing G z σ a it la le
  rw [show rw' σ a it la le = σ from h] at h2
  exact h2
theorem c_hasRangeR (h : Rat σ a it la le) (i n : Int32) : Ct G yX3_hasRange cX3_hasRange 3 (some .boolean) 1 0 0 z σ [.ref a, .int i, .int n] (some (.int (rngI i n le))) z σ := by
  have h2 := c_hasRange G z σ a it la le i n
  rw [show rw' σ a it la le = σ from h] at h2
  exact h2
theorem c_vanishR (h : Rat σ a it la le) : Ct G yX3_vanish cX3_vanish 1 none 1 0 0 z σ [.ref a] none z (rw' σ a it (-1) (nI 0)) := by
  have h2 := c_vanish G z σ a it la le
  rw [show rw' σ a it la le = σ from h] at h2
  exact h2
theorem c_beginR (h : Rat σ a it la le) {m : Nat} (x : Int32) (hm : m ≤ 40) : Ct G yX3_begin cX3_begin 4 none 1 0 0 z σ [.ref a, .int x, .int (nI m)] none z (rw' σ a (fil (nI 0) it m) x (nI m)) := by
  have h2 := c_begin G z σ a it la le x hm
  rw [show rw' σ a it la le = σ from h] at h2
  exact h2
theorem c_putR (h : Rat σ a it la le) {k : Nat} (v : Int32) (hk : k < 40) : Ct G yX3_put cX3_put 3 (some .int) 1 0 0 z σ [.ref a, .int (nI k), .int v] (some (.int (putI la v))) z (rw' σ a (upd it k (putI la v)) la le) := by
  have h2 := c_put G z σ a it la le v hk
  rw [show rw' σ a it la le = σ from h] at h2
  exact h2
end RV
theorem nrI_k {k : Nat} (h : k < 8) : nrI (nI k) = nI 0 := by
  unfold nrI
  rw [if_neg (nI_pos (by omega)), if_pos (nI_lt h (by decide))]
theorem dX5_row_0 : decode cX5_row 0 = .ok (.iload_n 1, 1) := by decide +kernel
theorem dX5_row_1 : decode cX5_row 1 = .ok (.invokestatic 55, 3) := by decide +kernel
theorem dX5_row_4 : decode cX5_row 4 = .ok (.ifCond .ne 18, 3) := by decide +kernel
theorem dX5_row_7 : decode cX5_row 7 = .ok (.iload_n 2, 1) := by decide +kernel
theorem dX5_row_8 : decode cX5_row 8 = .ok (.ifCond .lt 14, 3) := by decide +kernel
theorem dX5_row_11 : decode cX5_row 11 = .ok (.iload_n 2, 1) := by decide +kernel
theorem dX5_row_12 : decode cX5_row 12 = .ok (.iconst 2, 1) := by decide +kernel
theorem dX5_row_13 : decode cX5_row 13 = .ok (.if_icmp .gt 9, 3) := by decide +kernel
theorem dX5_row_16 : decode cX5_row 16 = .ok (.iload_n 3, 1) := by decide +kernel
theorem dX5_row_17 : decode cX5_row 17 = .ok (.bipush 40, 2) := by decide +kernel
theorem dX5_row_19 : decode cX5_row 19 = .ok (.if_icmp .le 6, 3) := by decide +kernel
theorem dX5_row_22 : decode cX5_row 22 = .ok (.ldc 59, 2) := by decide +kernel
theorem dX5_row_24 : decode cX5_row 24 = .ok (.ireturn, 1) := by decide +kernel
theorem dX5_row_25 : decode cX5_row 25 = .ok (.iload_n 3, 1) := by decide +kernel
theorem dX5_row_26 : decode cX5_row 26 = .ok (.ifCond .ge 9, 3) := by decide +kernel
theorem dX5_row_29 : decode cX5_row 29 = .ok (.aload_n 0, 1) := by decide +kernel
theorem dX5_row_30 : decode cX5_row 30 = .ok (.iconst 4, 1) := by decide +kernel
theorem dX5_row_31 : decode cX5_row 31 = .ok (.invokevirtual 60, 3) := by decide +kernel
theorem dX5_row_34 : decode cX5_row 34 = .ok (.ireturn, 1) := by decide +kernel
theorem dX5_row_35 : decode cX5_row 35 = .ok (.aload_n 0, 1) := by decide +kernel
theorem dX5_row_36 : decode cX5_row 36 = .ok (.getfield 11, 3) := by decide +kernel
theorem dX5_row_39 : decode cX5_row 39 = .ok (.iload_n 1, 1) := by decide +kernel
theorem dX5_row_40 : decode cX5_row 40 = .ok (.aaload, 1) := by decide +kernel
theorem dX5_row_41 : decode cX5_row 41 = .ok (.iload_n 2, 1) := by decide +kernel
theorem dX5_row_42 : decode cX5_row 42 = .ok (.iload_n 3, 1) := by decide +kernel
theorem dX5_row_43 : decode cX5_row 43 = .ok (.invokevirtual 64, 3) := by decide +kernel
theorem dX5_row_46 : decode cX5_row 46 = .ok (.aload_n 0, 1) := by decide +kernel
theorem dX5_row_47 : decode cX5_row 47 = .ok (.iload_n 3, 1) := by decide +kernel
theorem dX5_row_48 : decode cX5_row 48 = .ok (.invokevirtual 68, 3) := by decide +kernel
theorem dX5_row_51 : decode cX5_row 51 = .ok (.ireturn, 1) := by decide +kernel
theorem dX5_set_0 : decode cX5_set 0 = .ok (.iload_n 1, 1) := by decide +kernel
theorem dX5_set_1 : decode cX5_set 1 = .ok (.invokestatic 55, 3) := by decide +kernel
theorem dX5_set_4 : decode cX5_set 4 = .ok (.ifCond .eq 6, 3) := by decide +kernel
theorem dX5_set_7 : decode cX5_set 7 = .ok (.ldc 59, 2) := by decide +kernel
theorem dX5_set_9 : decode cX5_set 9 = .ok (.ireturn, 1) := by decide +kernel
theorem dX5_set_10 : decode cX5_set 10 = .ok (.aload_n 0, 1) := by decide +kernel
theorem dX5_set_11 : decode cX5_set 11 = .ok (.getfield 11, 3) := by decide +kernel
theorem dX5_set_14 : decode cX5_set 14 = .ok (.iload_n 1, 1) := by decide +kernel
theorem dX5_set_15 : decode cX5_set 15 = .ok (.aaload, 1) := by decide +kernel
theorem dX5_set_16 : decode cX5_set 16 = .ok (.astore 4, 2) := by decide +kernel
theorem dX5_set_18 : decode cX5_set 18 = .ok (.aload 4, 2) := by decide +kernel
theorem dX5_set_20 : decode cX5_set 20 = .ok (.invokevirtual 71, 3) := by decide +kernel
theorem dX5_set_23 : decode cX5_set 23 = .ok (.ifCond .eq 9, 3) := by decide +kernel
theorem dX5_set_26 : decode cX5_set 26 = .ok (.aload_n 0, 1) := by decide +kernel
theorem dX5_set_27 : decode cX5_set 27 = .ok (.iconst 1, 1) := by decide +kernel
theorem dX5_set_28 : decode cX5_set 28 = .ok (.invokevirtual 60, 3) := by decide +kernel
theorem dX5_set_31 : decode cX5_set 31 = .ok (.ireturn, 1) := by decide +kernel
theorem dX5_set_32 : decode cX5_set 32 = .ok (.aload 4, 2) := by decide +kernel
theorem dX5_set_34 : decode cX5_set 34 = .ok (.iload_n 2, 1) := by decide +kernel
theorem dX5_set_35 : decode cX5_set 35 = .ok (.iconst 1, 1) := by decide +kernel
theorem dX5_set_36 : decode cX5_set 36 = .ok (.invokevirtual 75, 3) := by decide +kernel
theorem dX5_set_39 : decode cX5_set 39 = .ok (.ifCond .ne 9, 3) := by decide +kernel
theorem dX5_set_42 : decode cX5_set 42 = .ok (.aload_n 0, 1) := by decide +kernel
theorem dX5_set_43 : decode cX5_set 43 = .ok (.iconst 2, 1) := by decide +kernel
theorem dX5_set_44 : decode cX5_set 44 = .ok (.invokevirtual 60, 3) := by decide +kernel
theorem dX5_set_47 : decode cX5_set 47 = .ok (.ireturn, 1) := by decide +kernel
theorem dX5_set_48 : decode cX5_set 48 = .ok (.aload_n 0, 1) := by decide +kernel
theorem dX5_set_49 : decode cX5_set 49 = .ok (.aload 4, 2) := by decide +kernel
theorem dX5_set_51 : decode cX5_set 51 = .ok (.iload_n 2, 1) := by decide +kernel
theorem dX5_set_52 : decode cX5_set 52 = .ok (.iload_n 3, 1) := by decide +kernel
theorem dX5_set_53 : decode cX5_set 53 = .ok (.invokevirtual 79, 3) := by decide +kernel
theorem dX5_set_56 : decode cX5_set 56 = .ok (.invokevirtual 68, 3) := by decide +kernel
theorem dX5_set_59 : decode cX5_set 59 = .ok (.ireturn, 1) := by decide +kernel
theorem dX5_copy_0 : decode cX5_copy 0 = .ok (.iload_n 1, 1) := by decide +kernel
theorem dX5_copy_1 : decode cX5_copy 1 = .ok (.invokestatic 55, 3) := by decide +kernel
theorem dX5_copy_4 : decode cX5_copy 4 = .ok (.ifCond .ne 10, 3) := by decide +kernel
theorem dX5_copy_7 : decode cX5_copy 7 = .ok (.iload_n 3, 1) := by decide +kernel
theorem dX5_copy_8 : decode cX5_copy 8 = .ok (.invokestatic 55, 3) := by decide +kernel
theorem dX5_copy_11 : decode cX5_copy 11 = .ok (.ifCond .eq 6, 3) := by decide +kernel
theorem dX5_copy_14 : decode cX5_copy 14 = .ok (.ldc 59, 2) := by decide +kernel
theorem dX5_copy_16 : decode cX5_copy 16 = .ok (.ireturn, 1) := by decide +kernel
theorem dX5_copy_17 : decode cX5_copy 17 = .ok (.aload_n 0, 1) := by decide +kernel
theorem dX5_copy_18 : decode cX5_copy 18 = .ok (.getfield 11, 3) := by decide +kernel
theorem dX5_copy_21 : decode cX5_copy 21 = .ok (.iload_n 1, 1) := by decide +kernel
theorem dX5_copy_22 : decode cX5_copy 22 = .ok (.aaload, 1) := by decide +kernel
theorem dX5_copy_23 : decode cX5_copy 23 = .ok (.astore 6, 2) := by decide +kernel
theorem dX5_copy_25 : decode cX5_copy 25 = .ok (.aload_n 0, 1) := by decide +kernel
theorem dX5_copy_26 : decode cX5_copy 26 = .ok (.getfield 11, 3) := by decide +kernel
theorem dX5_copy_29 : decode cX5_copy 29 = .ok (.iload_n 3, 1) := by decide +kernel
theorem dX5_copy_30 : decode cX5_copy 30 = .ok (.aaload, 1) := by decide +kernel
theorem dX5_copy_31 : decode cX5_copy 31 = .ok (.astore 7, 2) := by decide +kernel
theorem dX5_copy_33 : decode cX5_copy 33 = .ok (.aload 6, 2) := by decide +kernel
theorem dX5_copy_35 : decode cX5_copy 35 = .ok (.invokevirtual 71, 3) := by decide +kernel
theorem dX5_copy_38 : decode cX5_copy 38 = .ok (.ifCond .ne 11, 3) := by decide +kernel
theorem dX5_copy_41 : decode cX5_copy 41 = .ok (.aload 7, 2) := by decide +kernel
theorem dX5_copy_43 : decode cX5_copy 43 = .ok (.invokevirtual 71, 3) := by decide +kernel
theorem dX5_copy_46 : decode cX5_copy 46 = .ok (.ifCond .eq 9, 3) := by decide +kernel
theorem dX5_copy_49 : decode cX5_copy 49 = .ok (.aload_n 0, 1) := by decide +kernel
theorem dX5_copy_50 : decode cX5_copy 50 = .ok (.iconst 1, 1) := by decide +kernel
theorem dX5_copy_51 : decode cX5_copy 51 = .ok (.invokevirtual 60, 3) := by decide +kernel
theorem dX5_copy_54 : decode cX5_copy 54 = .ok (.ireturn, 1) := by decide +kernel
theorem dX5_copy_55 : decode cX5_copy 55 = .ok (.aload 6, 2) := by decide +kernel
theorem dX5_copy_57 : decode cX5_copy 57 = .ok (.getfield 83, 3) := by decide +kernel
theorem dX5_copy_60 : decode cX5_copy 60 = .ok (.aload 7, 2) := by decide +kernel
theorem dX5_copy_62 : decode cX5_copy 62 = .ok (.getfield 83, 3) := by decide +kernel
theorem dX5_copy_65 : decode cX5_copy 65 = .ok (.if_icmp .eq 9, 3) := by decide +kernel
theorem dX5_copy_68 : decode cX5_copy 68 = .ok (.aload_n 0, 1) := by decide +kernel
theorem dX5_copy_69 : decode cX5_copy 69 = .ok (.iconst 5, 1) := by decide +kernel
theorem dX5_copy_70 : decode cX5_copy 70 = .ok (.invokevirtual 60, 3) := by decide +kernel
theorem dX5_copy_73 : decode cX5_copy 73 = .ok (.ireturn, 1) := by decide +kernel
theorem dX5_copy_74 : decode cX5_copy 74 = .ok (.aload 6, 2) := by decide +kernel
theorem dX5_copy_76 : decode cX5_copy 76 = .ok (.iload_n 2, 1) := by decide +kernel
theorem dX5_copy_77 : decode cX5_copy 77 = .ok (.iload 5, 2) := by decide +kernel
theorem dX5_copy_79 : decode cX5_copy 79 = .ok (.invokevirtual 75, 3) := by decide +kernel
theorem dX5_copy_82 : decode cX5_copy 82 = .ok (.ifCond .eq 15, 3) := by decide +kernel
theorem dX5_copy_85 : decode cX5_copy 85 = .ok (.aload 7, 2) := by decide +kernel
theorem dX5_copy_87 : decode cX5_copy 87 = .ok (.iload 4, 2) := by decide +kernel
theorem dX5_copy_89 : decode cX5_copy 89 = .ok (.iload 5, 2) := by decide +kernel
theorem dX5_copy_91 : decode cX5_copy 91 = .ok (.invokevirtual 75, 3) := by decide +kernel
theorem dX5_copy_94 : decode cX5_copy 94 = .ok (.ifCond .ne 9, 3) := by decide +kernel
theorem dX5_copy_97 : decode cX5_copy 97 = .ok (.aload_n 0, 1) := by decide +kernel
theorem dX5_copy_98 : decode cX5_copy 98 = .ok (.iconst 2, 1) := by decide +kernel
theorem dX5_copy_99 : decode cX5_copy 99 = .ok (.invokevirtual 60, 3) := by decide +kernel
theorem dX5_copy_102 : decode cX5_copy 102 = .ok (.ireturn, 1) := by decide +kernel
theorem dX5_copy_103 : decode cX5_copy 103 = .ok (.aload 6, 2) := by decide +kernel
theorem dX5_copy_105 : decode cX5_copy 105 = .ok (.getfield 87, 3) := by decide +kernel
theorem dX5_copy_108 : decode cX5_copy 108 = .ok (.iload_n 2, 1) := by decide +kernel
theorem dX5_copy_109 : decode cX5_copy 109 = .ok (.aload 7, 2) := by decide +kernel
theorem dX5_copy_111 : decode cX5_copy 111 = .ok (.getfield 87, 3) := by decide +kernel
theorem dX5_copy_114 : decode cX5_copy 114 = .ok (.iload 4, 2) := by decide +kernel
theorem dX5_copy_116 : decode cX5_copy 116 = .ok (.iload 5, 2) := by decide +kernel
theorem dX5_copy_118 : decode cX5_copy 118 = .ok (.invokestatic 90, 3) := by decide +kernel
theorem dX5_copy_121 : decode cX5_copy 121 = .ok (.aload_n 0, 1) := by decide +kernel
theorem dX5_copy_122 : decode cX5_copy 122 = .ok (.iload 5, 2) := by decide +kernel
theorem dX5_copy_124 : decode cX5_copy 124 = .ok (.invokevirtual 68, 3) := by decide +kernel
theorem dX5_copy_127 : decode cX5_copy 127 = .ok (.ireturn, 1) := by decide +kernel
theorem dX5_drop_0 : decode cX5_drop 0 = .ok (.iload_n 1, 1) := by decide +kernel
theorem dX5_drop_1 : decode cX5_drop 1 = .ok (.invokestatic 55, 3) := by decide +kernel
theorem dX5_drop_4 : decode cX5_drop 4 = .ok (.ifCond .eq 6, 3) := by decide +kernel
theorem dX5_drop_7 : decode cX5_drop 7 = .ok (.ldc 59, 2) := by decide +kernel
theorem dX5_drop_9 : decode cX5_drop 9 = .ok (.ireturn, 1) := by decide +kernel
theorem dX5_drop_10 : decode cX5_drop 10 = .ok (.aload_n 0, 1) := by decide +kernel
theorem dX5_drop_11 : decode cX5_drop 11 = .ok (.getfield 11, 3) := by decide +kernel
theorem dX5_drop_14 : decode cX5_drop 14 = .ok (.iload_n 1, 1) := by decide +kernel
theorem dX5_drop_15 : decode cX5_drop 15 = .ok (.aaload, 1) := by decide +kernel
theorem dX5_drop_16 : decode cX5_drop 16 = .ok (.astore_n 2, 1) := by decide +kernel
theorem dX5_drop_17 : decode cX5_drop 17 = .ok (.aload_n 2, 1) := by decide +kernel
theorem dX5_drop_18 : decode cX5_drop 18 = .ok (.invokevirtual 71, 3) := by decide +kernel
theorem dX5_drop_21 : decode cX5_drop 21 = .ok (.ifCond .eq 9, 3) := by decide +kernel
theorem dX5_drop_24 : decode cX5_drop 24 = .ok (.aload_n 0, 1) := by decide +kernel
theorem dX5_drop_25 : decode cX5_drop 25 = .ok (.iconst 1, 1) := by decide +kernel
theorem dX5_drop_26 : decode cX5_drop 26 = .ok (.invokevirtual 60, 3) := by decide +kernel
theorem dX5_drop_29 : decode cX5_drop 29 = .ok (.ireturn, 1) := by decide +kernel
theorem dX5_drop_30 : decode cX5_drop 30 = .ok (.aload_n 2, 1) := by decide +kernel
theorem dX5_drop_31 : decode cX5_drop 31 = .ok (.getfield 96, 3) := by decide +kernel
theorem dX5_drop_34 : decode cX5_drop 34 = .ok (.istore_n 3, 1) := by decide +kernel
theorem dX5_drop_35 : decode cX5_drop 35 = .ok (.aload_n 2, 1) := by decide +kernel
theorem dX5_drop_36 : decode cX5_drop 36 = .ok (.invokevirtual 99, 3) := by decide +kernel
theorem dX5_drop_39 : decode cX5_drop 39 = .ok (.aload_n 0, 1) := by decide +kernel
theorem dX5_drop_40 : decode cX5_drop 40 = .ok (.iload_n 3, 1) := by decide +kernel
theorem dX5_drop_41 : decode cX5_drop 41 = .ok (.invokevirtual 68, 3) := by decide +kernel
theorem dX5_drop_44 : decode cX5_drop 44 = .ok (.ireturn, 1) := by decide +kernel
section O1
variable {G : GG} {z : Nat} {σ : AH} {lf fd : Int32} {rl rn : Nat → Int32} {ri : Nat → Nat → Int32} {tp rd : Nat → Int32} {dd d df : TS} {nx kp : Nat} {da di : Nat → TS} {tr : Nat} {bo ne : Nat → Int32}
theorem x_row_bad (r la n : Int32) (h : ¬ nrI r = 0 ∨ la < 0 ∨ nI 2 < la ∨ nI 40 < n) : Ct G yX5_row cX5_row 4 (some .int) 3 0 0 z σ [.ref 0, .int r, .int la, .int n] (some (.int (-1000001))) z σ := by
  refine Ct.ofJ RX5 rfl [some (.ref 0), some (.int r), some (.int la), some (.int n)] rfl (by decide) Nat.le.refl ?_
  refine j_iload_n dX5_row_0 rfl rfl ?_
  refine j_callS (c_isNoRow r) dX5_row_1 rfl ms_X5_55 ⟨(Nat.le_of_ble_eq_true rfl), (Nat.le_of_ble_eq_true rfl)⟩ ⟨(Nat.le_of_ble_eq_true rfl), (Nat.le_of_ble_eq_true rfl)⟩ (Nat.le_of_ble_eq_true rfl) ?_
  refine j_if_ne 22 dX5_row_4 (by decide) (fun b4 => ?_) (fun b4 => ?_)
  · refine j_ldc (-1000001) dX5_row_22 kc_X5_59 ?_
    exact j_iret rfl dX5_row_24 rfl rfl (Nat.le_of_ble_eq_true rfl) (Nat.le_of_ble_eq_true rfl)
  · refine j_iload_n dX5_row_7 rfl rfl ?_
    refine j_if_lt 22 dX5_row_8 (by decide) (fun b8 => ?_) (fun b8 => ?_)
    · refine j_ldc (-1000001) dX5_row_22 kc_X5_59 ?_
      exact j_iret rfl dX5_row_24 rfl rfl (Nat.le_of_ble_eq_true rfl) (Nat.le_of_ble_eq_true rfl)
    · refine j_iload_n dX5_row_11 rfl rfl ?_
      refine j_iconst (nI 2) dX5_row_12 rfl ?_
      refine j_icmp_gt 22 dX5_row_13 (by decide) (fun b13 => ?_) (fun b13 => ?_)
      · refine j_ldc (-1000001) dX5_row_22 kc_X5_59 ?_
        exact j_iret rfl dX5_row_24 rfl rfl (Nat.le_of_ble_eq_true rfl) (Nat.le_of_ble_eq_true rfl)
      · refine j_iload_n dX5_row_16 rfl rfl ?_
        refine j_bipush (nI 40) dX5_row_17 rfl ?_
        refine j_icmp_le 25 dX5_row_19 (by decide) (fun b19 => ?_) (fun b19 => ?_)
        · exfalso
          rcases h with h | h | h | h
          · exact h b4
          · exact b8 h
          · exact b13 h
          · exact absurd b19 (Int32.not_le.mpr h)
        · refine j_ldc (-1000001) dX5_row_22 kc_X5_59 ?_
          exact j_iret rfl dX5_row_24 rfl rfl (Nat.le_of_ble_eq_true rfl) (Nat.le_of_ble_eq_true rfl)
theorem x_row_size (X : XR σ lf fd rl rn ri tp rd dd d df nx kp da di tr bo ne) {k la : Nat} (n : Int32) (hk : k < 8) (hl : la < 3) (hn : n < 0) : Ct G yX5_row cX5_row 4 (some .int) 3 0 0 z σ [.ref 0, .int (nI k), .int (nI la), .int n] (some (.int (-1000010 - nI 4))) z (ups σ 0 (xO lf (nI 4))) := by
  refine Ct.ofJ RX5 rfl [some (.ref 0), some (.int (nI k)), some (.int (nI la)), some (.int n)] rfl (by decide) Nat.le.refl ?_
  refine j_iload_n dX5_row_0 rfl rfl ?_
  refine j_callS (c_isNoRow (nI k)) dX5_row_1 rfl ms_X5_55 ⟨(Nat.le_of_ble_eq_true rfl), (Nat.le_of_ble_eq_true rfl)⟩ ⟨(Nat.le_of_ble_eq_true rfl), (Nat.le_of_ble_eq_true rfl)⟩ (Nat.le_of_ble_eq_true rfl) ?_
  refine j_top (nI 0) (nrI_k hk) ?_
  refine j_if_ne 22 dX5_row_4 (by decide) (fun h => absurd rfl h) (fun _ => ?_)
  refine j_iload_n dX5_row_7 rfl rfl ?_
  refine j_if_lt 22 dX5_row_8 (by decide) (fun b8 => ?_) (fun b8 => ?_)
  · exact absurd b8 (nI_pos (by omega))
  · refine j_iload_n dX5_row_11 rfl rfl ?_
    refine j_iconst (nI 2) dX5_row_12 rfl ?_
    refine j_icmp_gtN 22 dX5_row_13 (by decide) (by omega) (by omega) (fun b13 => ?_) (fun b13 => ?_)
    · exfalso; omega
    · refine j_iload_n dX5_row_16 rfl rfl ?_
      refine j_bipush (nI 40) dX5_row_17 rfl ?_
      refine j_icmp_le 25 dX5_row_19 (by decide) (fun b19 => ?_) (fun b19 => ?_)
      · refine j_iload_n dX5_row_25 rfl rfl ?_
        refine j_if_ge 35 dX5_row_26 (by decide) (fun b26 => ?_) (fun b26 => ?_)
        · exact absurd hn (Int32.not_lt.mpr b26)
        · refine j_aload_n dX5_row_29 rfl rfl ?_
          refine j_iconst (nI 4) dX5_row_30 rfl ?_
          refine j_callV (c_found X (nI 4)) dX5_row_31 rfl mv_X5_60 (by first | exact X.1 | exact X.2.1 | exact X.2.2.2.1 | exact X.2.2.2.2.1 | exact X.2.2.2.2.2.2.1.o | exact X.2.2.2.2.2.2.1.c | exact X.2.2.2.2.2.2.1.i | exact X.2.2.2.2.2.2.1.p | exact X.2.2.2.2.2.2.1.d | exact X.2.2.2.2.2.2.2.1.o | exact X.2.2.2.2.2.2.2.2.1 | exact X.2.2.2.2.2.2.2.2.2.1 | exact X.2.2.2.2.2.2.2.2.2.2.2.1 | exact X.2.2.2.2.2.2.2.2.2.2.2.2.2.1 | exact X.2.2.2.2.2.2.2.2.2.2.2.2.2.2.1 | exact X.2.2.2.2.2.2.2.2.2.2.2.2.2.2.2) rfl ⟨(Nat.le_of_ble_eq_true rfl), (Nat.le_of_ble_eq_true rfl)⟩ ⟨(Nat.le_of_ble_eq_true rfl), (Nat.le_of_ble_eq_true rfl)⟩ (Nat.le_of_ble_eq_true rfl) ?_
          exact j_iret rfl dX5_row_34 rfl rfl (Nat.le_of_ble_eq_true rfl) (Nat.le_of_ble_eq_true rfl)
      · exact absurd (Int32.le_of_lt (Int32.lt_of_lt_of_le hn (by decide))) b19
theorem x_row_ok (X : XR σ lf fd rl rn ri tp rd dd d df nx kp da di tr bo ne) {k la m : Nat} (hk : k < 8) (hl : la < 3) (hm : m ≤ 40) : Ct G yX5_row cX5_row 4 (some .int) 3 0 0 z σ [.ref 0, .int (nI k), .int (nI la), .int (nI m)] (some (.int (nI m))) z (ups (rw' σ (2 + 2 * k) (fil (nI 0) (ri k) m) (nI la) (nI m)) 0 (xO lf (nI 0))) := by
  refine Ct.ofJ RX5 rfl [some (.ref 0), some (.int (nI k)), some (.int (nI la)), some (.int (nI m))] rfl (by decide) Nat.le.refl ?_
  refine j_iload_n dX5_row_0 rfl rfl ?_
  refine j_callS (c_isNoRow (nI k)) dX5_row_1 rfl ms_X5_55 ⟨(Nat.le_of_ble_eq_true rfl), (Nat.le_of_ble_eq_true rfl)⟩ ⟨(Nat.le_of_ble_eq_true rfl), (Nat.le_of_ble_eq_true rfl)⟩ (Nat.le_of_ble_eq_true rfl) ?_
  refine j_top (nI 0) (nrI_k hk) ?_
  refine j_if_ne 22 dX5_row_4 (by decide) (fun h => absurd rfl h) (fun _ => ?_)
  refine j_iload_n dX5_row_7 rfl rfl ?_
  refine j_if_lt 22 dX5_row_8 (by decide) (fun b8 => ?_) (fun b8 => ?_)
  · exact absurd b8 (nI_pos (by omega))
  · refine j_iload_n dX5_row_11 rfl rfl ?_
    refine j_iconst (nI 2) dX5_row_12 rfl ?_
    refine j_icmp_gtN 22 dX5_row_13 (by decide) (by omega) (by omega) (fun b13 => ?_) (fun b13 => ?_)
    · exfalso; omega
    · refine j_iload_n dX5_row_16 rfl rfl ?_
      refine j_bipush (nI 40) dX5_row_17 rfl ?_
      refine j_icmp_leN 25 dX5_row_19 (by decide) (by omega) (by omega) (fun b19 => ?_) (fun b19 => ?_)
      · refine j_iload_n dX5_row_25 rfl rfl ?_
        refine j_if_ge 35 dX5_row_26 (by decide) (fun b26 => ?_) (fun b26 => ?_)
        · refine j_aload_n dX5_row_35 rfl rfl ?_
          refine j_getf dX5_row_36 5 0 rfl (Nat.le_of_ble_eq_true rfl) fl_X5_11 in_5 (by first | exact X.1 | exact X.2.1 | exact X.2.2.2.1 | exact X.2.2.2.2.1 | exact X.2.2.2.2.2.2.1.o | exact X.2.2.2.2.2.2.1.c | exact X.2.2.2.2.2.2.1.i | exact X.2.2.2.2.2.2.1.p | exact X.2.2.2.2.2.2.1.d | exact X.2.2.2.2.2.2.2.1.o | exact X.2.2.2.2.2.2.2.2.1 | exact X.2.2.2.2.2.2.2.2.2.1 | exact X.2.2.2.2.2.2.2.2.2.2.2.1 | exact X.2.2.2.2.2.2.2.2.2.2.2.2.2.1 | exact X.2.2.2.2.2.2.2.2.2.2.2.2.2.2.1 | exact X.2.2.2.2.2.2.2.2.2.2.2.2.2.2.2) rfl ?_
          refine j_iload_n dX5_row_39 rfl rfl ?_
          refine j_aaldL 3 8 2 2 dX5_row_40 (by first | exact X.1 | exact X.2.1 | exact X.2.2.2.1 | exact X.2.2.2.2.1 | exact X.2.2.2.2.2.2.1.o | exact X.2.2.2.2.2.2.1.c | exact X.2.2.2.2.2.2.1.i | exact X.2.2.2.2.2.2.1.p | exact X.2.2.2.2.2.2.1.d | exact X.2.2.2.2.2.2.2.1.o | exact X.2.2.2.2.2.2.2.2.1 | exact X.2.2.2.2.2.2.2.2.2.1 | exact X.2.2.2.2.2.2.2.2.2.2.2.1 | exact X.2.2.2.2.2.2.2.2.2.2.2.2.2.1 | exact X.2.2.2.2.2.2.2.2.2.2.2.2.2.2.1 | exact X.2.2.2.2.2.2.2.2.2.2.2.2.2.2.2) (by decide) rfl hk (by decide) ?_
          refine j_iload_n dX5_row_41 rfl rfl ?_
          refine j_iload_n dX5_row_42 rfl rfl ?_
          refine j_callV (c_beginR (X.2.2.1 k hk) (nI la) hm) dX5_row_43 rfl mv_X5_64 (X.2.2.1 k hk).o rfl ⟨(Nat.le_of_ble_eq_true rfl), (Nat.le_of_ble_eq_true rfl)⟩ ⟨(Nat.le_of_ble_eq_true rfl), (Nat.le_of_ble_eq_true rfl)⟩ (Nat.le_of_ble_eq_true rfl) ?_
          have X := X.row k hk (fil (nI 0) (ri k) m) (nI la) (nI m)
          refine j_aload_n dX5_row_46 rfl rfl ?_
          refine j_iload_n dX5_row_47 rfl rfl ?_
          refine j_callV (c_foundNothing X (nI m)) dX5_row_48 rfl mv_X5_68 (by first | exact X.1 | exact X.2.1 | exact X.2.2.2.1 | exact X.2.2.2.2.1 | exact X.2.2.2.2.2.2.1.o | exact X.2.2.2.2.2.2.1.c | exact X.2.2.2.2.2.2.1.i | exact X.2.2.2.2.2.2.1.p | exact X.2.2.2.2.2.2.1.d | exact X.2.2.2.2.2.2.2.1.o | exact X.2.2.2.2.2.2.2.2.1 | exact X.2.2.2.2.2.2.2.2.2.1 | exact X.2.2.2.2.2.2.2.2.2.2.2.1 | exact X.2.2.2.2.2.2.2.2.2.2.2.2.2.1 | exact X.2.2.2.2.2.2.2.2.2.2.2.2.2.2.1 | exact X.2.2.2.2.2.2.2.2.2.2.2.2.2.2.2) rfl ⟨(Nat.le_of_ble_eq_true rfl), (Nat.le_of_ble_eq_true rfl)⟩ ⟨(Nat.le_of_ble_eq_true rfl), (Nat.le_of_ble_eq_true rfl)⟩ (Nat.le_of_ble_eq_true rfl) ?_
          exact j_iret rfl dX5_row_51 rfl rfl (Nat.le_of_ble_eq_true rfl) (Nat.le_of_ble_eq_true rfl)
        · exact absurd (nI_pos' (by omega)) b26
      · exfalso; omega
theorem x_set_bad (r i v : Int32) (h : ¬ nrI r = 0) : Ct G yX5_set cX5_set 5 (some .int) 3 0 0 z σ [.ref 0, .int r, .int i, .int v] (some (.int (-1000001))) z σ := by
  refine Ct.ofJ RX5 rfl [some (.ref 0), some (.int r), some (.int i), some (.int v), none] rfl (by decide) (by simp [Value.category]) ?_
  refine j_iload_n dX5_set_0 rfl rfl ?_
  refine j_callS (c_isNoRow r) dX5_set_1 rfl ms_X5_55 ⟨(Nat.le_of_ble_eq_true rfl), (Nat.le_of_ble_eq_true rfl)⟩ ⟨(Nat.le_of_ble_eq_true rfl), (Nat.le_of_ble_eq_true rfl)⟩ (Nat.le_of_ble_eq_true rfl) ?_
  refine j_if_eq 10 dX5_set_4 (by decide) (fun b4 => ?_) (fun b4 => ?_)
  · exact absurd b4 h
  · refine j_ldc (-1000001) dX5_set_7 kc_X5_59 ?_
    exact j_iret rfl dX5_set_9 rfl rfl (Nat.le_of_ble_eq_true rfl) (Nat.le_of_ble_eq_true rfl)
theorem x_set_null (X : XR σ lf fd rl rn ri tp rd dd d df nx kp da di tr bo ne) {k : Nat} (i v : Int32) (hk : k < 8) (hl : rl k = -1) : Ct G yX5_set cX5_set 5 (some .int) 3 0 0 z σ [.ref 0, .int (nI k), .int i, .int v] (some (.int (-1000010 - nI 1))) z (ups σ 0 (xO lf (nI 1))) := by
  refine Ct.ofJ RX5 rfl [some (.ref 0), some (.int (nI k)), some (.int i), some (.int v), none] rfl (by decide) (by simp [Value.category]) ?_
  refine j_iload_n dX5_set_0 rfl rfl ?_
  refine j_callS (c_isNoRow (nI k)) dX5_set_1 rfl ms_X5_55 ⟨(Nat.le_of_ble_eq_true rfl), (Nat.le_of_ble_eq_true rfl)⟩ ⟨(Nat.le_of_ble_eq_true rfl), (Nat.le_of_ble_eq_true rfl)⟩ (Nat.le_of_ble_eq_true rfl) ?_
  refine j_top (nI 0) (nrI_k hk) ?_
  refine j_if_eq 10 dX5_set_4 (by decide) (fun _ => ?_) (fun h => absurd rfl h)
  refine j_aload_n dX5_set_10 rfl rfl ?_
  refine j_getf dX5_set_11 5 0 rfl (Nat.le_of_ble_eq_true rfl) fl_X5_11 in_5 (by first | exact X.1 | exact X.2.1 | exact X.2.2.2.1 | exact X.2.2.2.2.1 | exact X.2.2.2.2.2.2.1.o | exact X.2.2.2.2.2.2.1.c | exact X.2.2.2.2.2.2.1.i | exact X.2.2.2.2.2.2.1.p | exact X.2.2.2.2.2.2.1.d | exact X.2.2.2.2.2.2.2.1.o | exact X.2.2.2.2.2.2.2.2.1 | exact X.2.2.2.2.2.2.2.2.2.1 | exact X.2.2.2.2.2.2.2.2.2.2.2.1 | exact X.2.2.2.2.2.2.2.2.2.2.2.2.2.1 | exact X.2.2.2.2.2.2.2.2.2.2.2.2.2.2.1 | exact X.2.2.2.2.2.2.2.2.2.2.2.2.2.2.2) rfl ?_
  refine j_iload_n dX5_set_14 rfl rfl ?_
  refine j_aaldL 3 8 2 2 dX5_set_15 (by first | exact X.1 | exact X.2.1 | exact X.2.2.2.1 | exact X.2.2.2.2.1 | exact X.2.2.2.2.2.2.1.o | exact X.2.2.2.2.2.2.1.c | exact X.2.2.2.2.2.2.1.i | exact X.2.2.2.2.2.2.1.p | exact X.2.2.2.2.2.2.1.d | exact X.2.2.2.2.2.2.2.1.o | exact X.2.2.2.2.2.2.2.2.1 | exact X.2.2.2.2.2.2.2.2.2.1 | exact X.2.2.2.2.2.2.2.2.2.2.2.1 | exact X.2.2.2.2.2.2.2.2.2.2.2.2.2.1 | exact X.2.2.2.2.2.2.2.2.2.2.2.2.2.2.1 | exact X.2.2.2.2.2.2.2.2.2.2.2.2.2.2.2) (by decide) rfl hk (by decide) ?_
  refine j_astore dX5_set_16 (Nat.le_of_ble_eq_true rfl) rfl ?_
  refine j_aload dX5_set_18 rfl ?_
  refine j_callV (c_isMissingR (X.2.2.1 k hk)) dX5_set_20 rfl mv_X5_71 (X.2.2.1 k hk).o rfl ⟨(Nat.le_of_ble_eq_true rfl), (Nat.le_of_ble_eq_true rfl)⟩ ⟨(Nat.le_of_ble_eq_true rfl), (Nat.le_of_ble_eq_true rfl)⟩ (Nat.le_of_ble_eq_true rfl) ?_
  refine j_top (nI 1) (if_pos hl) ?_
  refine j_if_eq 32 dX5_set_23 (by decide) (fun h => absurd h (by decide)) (fun _ => ?_)
  refine j_aload_n dX5_set_26 rfl rfl ?_
  refine j_iconst (nI 1) dX5_set_27 rfl ?_
  refine j_callV (c_found X (nI 1)) dX5_set_28 rfl mv_X5_60 (by first | exact X.1 | exact X.2.1 | exact X.2.2.2.1 | exact X.2.2.2.2.1 | exact X.2.2.2.2.2.2.1.o | exact X.2.2.2.2.2.2.1.c | exact X.2.2.2.2.2.2.1.i | exact X.2.2.2.2.2.2.1.p | exact X.2.2.2.2.2.2.1.d | exact X.2.2.2.2.2.2.2.1.o | exact X.2.2.2.2.2.2.2.2.1 | exact X.2.2.2.2.2.2.2.2.2.1 | exact X.2.2.2.2.2.2.2.2.2.2.2.1 | exact X.2.2.2.2.2.2.2.2.2.2.2.2.2.1 | exact X.2.2.2.2.2.2.2.2.2.2.2.2.2.2.1 | exact X.2.2.2.2.2.2.2.2.2.2.2.2.2.2.2) rfl ⟨(Nat.le_of_ble_eq_true rfl), (Nat.le_of_ble_eq_true rfl)⟩ ⟨(Nat.le_of_ble_eq_true rfl), (Nat.le_of_ble_eq_true rfl)⟩ (Nat.le_of_ble_eq_true rfl) ?_
  exact j_iret rfl dX5_set_31 rfl rfl (Nat.le_of_ble_eq_true rfl) (Nat.le_of_ble_eq_true rfl)
theorem x_set_place (X : XR σ lf fd rl rn ri tp rd dd d df nx kp da di tr bo ne) {k : Nat} (i v : Int32) (hk : k < 8) (hl : ¬ rl k = -1) (hr : rngI i (nI 1) (rn k) = nI 0) : Ct G yX5_set cX5_set 5 (some .int) 3 0 0 z σ [.ref 0, .int (nI k), .int i, .int v] (some (.int (-1000010 - nI 2))) z (ups σ 0 (xO lf (nI 2))) := by
  refine Ct.ofJ RX5 rfl [some (.ref 0), some (.int (nI k)), some (.int i), some (.int v), none] rfl (by decide) (by simp [Value.category]) ?_
  refine j_iload_n dX5_set_0 rfl rfl ?_
  refine j_callS (c_isNoRow (nI k)) dX5_set_1 rfl ms_X5_55 ⟨(Nat.le_of_ble_eq_true rfl), (Nat.le_of_ble_eq_true rfl)⟩ ⟨(Nat.le_of_ble_eq_true rfl), (Nat.le_of_ble_eq_true rfl)⟩ (Nat.le_of_ble_eq_true rfl) ?_
  refine j_top (nI 0) (nrI_k hk) ?_
  refine j_if_eq 10 dX5_set_4 (by decide) (fun _ => ?_) (fun h => absurd rfl h)
  refine j_aload_n dX5_set_10 rfl rfl ?_
  refine j_getf dX5_set_11 5 0 rfl (Nat.le_of_ble_eq_true rfl) fl_X5_11 in_5 (by first | exact X.1 | exact X.2.1 | exact X.2.2.2.1 | exact X.2.2.2.2.1 | exact X.2.2.2.2.2.2.1.o | exact X.2.2.2.2.2.2.1.c | exact X.2.2.2.2.2.2.1.i | exact X.2.2.2.2.2.2.1.p | exact X.2.2.2.2.2.2.1.d | exact X.2.2.2.2.2.2.2.1.o | exact X.2.2.2.2.2.2.2.2.1 | exact X.2.2.2.2.2.2.2.2.2.1 | exact X.2.2.2.2.2.2.2.2.2.2.2.1 | exact X.2.2.2.2.2.2.2.2.2.2.2.2.2.1 | exact X.2.2.2.2.2.2.2.2.2.2.2.2.2.2.1 | exact X.2.2.2.2.2.2.2.2.2.2.2.2.2.2.2) rfl ?_
  refine j_iload_n dX5_set_14 rfl rfl ?_
  refine j_aaldL 3 8 2 2 dX5_set_15 (by first | exact X.1 | exact X.2.1 | exact X.2.2.2.1 | exact X.2.2.2.2.1 | exact X.2.2.2.2.2.2.1.o | exact X.2.2.2.2.2.2.1.c | exact X.2.2.2.2.2.2.1.i | exact X.2.2.2.2.2.2.1.p | exact X.2.2.2.2.2.2.1.d | exact X.2.2.2.2.2.2.2.1.o | exact X.2.2.2.2.2.2.2.2.1 | exact X.2.2.2.2.2.2.2.2.2.1 | exact X.2.2.2.2.2.2.2.2.2.2.2.1 | exact X.2.2.2.2.2.2.2.2.2.2.2.2.2.1 | exact X.2.2.2.2.2.2.2.2.2.2.2.2.2.2.1 | exact X.2.2.2.2.2.2.2.2.2.2.2.2.2.2.2) (by decide) rfl hk (by decide) ?_
  refine j_astore dX5_set_16 (Nat.le_of_ble_eq_true rfl) rfl ?_
  refine j_aload dX5_set_18 rfl ?_
  refine j_callV (c_isMissingR (X.2.2.1 k hk)) dX5_set_20 rfl mv_X5_71 (X.2.2.1 k hk).o rfl ⟨(Nat.le_of_ble_eq_true rfl), (Nat.le_of_ble_eq_true rfl)⟩ ⟨(Nat.le_of_ble_eq_true rfl), (Nat.le_of_ble_eq_true rfl)⟩ (Nat.le_of_ble_eq_true rfl) ?_
  refine j_top (nI 0) (if_neg hl) ?_
  refine j_if_eq 32 dX5_set_23 (by decide) (fun _ => ?_) (fun h => absurd rfl h)
  refine j_aload dX5_set_32 rfl ?_
  refine j_iload_n dX5_set_34 rfl rfl ?_
  refine j_iconst (nI 1) dX5_set_35 rfl ?_
  refine j_callV (c_hasRangeR (X.2.2.1 k hk) i (nI 1)) dX5_set_36 rfl mv_X5_75 (X.2.2.1 k hk).o rfl ⟨(Nat.le_of_ble_eq_true rfl), (Nat.le_of_ble_eq_true rfl)⟩ ⟨(Nat.le_of_ble_eq_true rfl), (Nat.le_of_ble_eq_true rfl)⟩ (Nat.le_of_ble_eq_true rfl) ?_
  refine j_top (nI 0) hr ?_
  refine j_if_ne 48 dX5_set_39 (by decide) (fun h => absurd rfl h) (fun _ => ?_)
  refine j_aload_n dX5_set_42 rfl rfl ?_
  refine j_iconst (nI 2) dX5_set_43 rfl ?_
  refine j_callV (c_found X (nI 2)) dX5_set_44 rfl mv_X5_60 (by first | exact X.1 | exact X.2.1 | exact X.2.2.2.1 | exact X.2.2.2.2.1 | exact X.2.2.2.2.2.2.1.o | exact X.2.2.2.2.2.2.1.c | exact X.2.2.2.2.2.2.1.i | exact X.2.2.2.2.2.2.1.p | exact X.2.2.2.2.2.2.1.d | exact X.2.2.2.2.2.2.2.1.o | exact X.2.2.2.2.2.2.2.2.1 | exact X.2.2.2.2.2.2.2.2.2.1 | exact X.2.2.2.2.2.2.2.2.2.2.2.1 | exact X.2.2.2.2.2.2.2.2.2.2.2.2.2.1 | exact X.2.2.2.2.2.2.2.2.2.2.2.2.2.2.1 | exact X.2.2.2.2.2.2.2.2.2.2.2.2.2.2.2) rfl ⟨(Nat.le_of_ble_eq_true rfl), (Nat.le_of_ble_eq_true rfl)⟩ ⟨(Nat.le_of_ble_eq_true rfl), (Nat.le_of_ble_eq_true rfl)⟩ (Nat.le_of_ble_eq_true rfl) ?_
  exact j_iret rfl dX5_set_47 rfl rfl (Nat.le_of_ble_eq_true rfl) (Nat.le_of_ble_eq_true rfl)
theorem x_set_ok (X : XR σ lf fd rl rn ri tp rd dd d df nx kp da di tr bo ne) {k j : Nat} (v : Int32) (hk : k < 8) (hl : ¬ rl k = -1) (hr : rngI (nI j) (nI 1) (rn k) = nI 1) (hj : j < 40) : Ct G yX5_set cX5_set 5 (some .int) 3 0 0 z σ [.ref 0, .int (nI k), .int (nI j), .int v] (some (.int (putI (rl k) v))) z (ups (rw' σ (2 + 2 * k) (upd (ri k) j (putI (rl k) v)) (rl k) (rn k)) 0 (xO lf (nI 0))) := by
  refine Ct.ofJ RX5 rfl [some (.ref 0), some (.int (nI k)), some (.int (nI j)), some (.int v), none] rfl (by decide) (by simp [Value.category]) ?_
  refine j_iload_n dX5_set_0 rfl rfl ?_
  refine j_callS (c_isNoRow (nI k)) dX5_set_1 rfl ms_X5_55 ⟨(Nat.le_of_ble_eq_true rfl), (Nat.le_of_ble_eq_true rfl)⟩ ⟨(Nat.le_of_ble_eq_true rfl), (Nat.le_of_ble_eq_true rfl)⟩ (Nat.le_of_ble_eq_true rfl) ?_
  refine j_top (nI 0) (nrI_k hk) ?_
  refine j_if_eq 10 dX5_set_4 (by decide) (fun _ => ?_) (fun h => absurd rfl h)
  refine j_aload_n dX5_set_10 rfl rfl ?_
  refine j_getf dX5_set_11 5 0 rfl (Nat.le_of_ble_eq_true rfl) fl_X5_11 in_5 (by first | exact X.1 | exact X.2.1 | exact X.2.2.2.1 | exact X.2.2.2.2.1 | exact X.2.2.2.2.2.2.1.o | exact X.2.2.2.2.2.2.1.c | exact X.2.2.2.2.2.2.1.i | exact X.2.2.2.2.2.2.1.p | exact X.2.2.2.2.2.2.1.d | exact X.2.2.2.2.2.2.2.1.o | exact X.2.2.2.2.2.2.2.2.1 | exact X.2.2.2.2.2.2.2.2.2.1 | exact X.2.2.2.2.2.2.2.2.2.2.2.1 | exact X.2.2.2.2.2.2.2.2.2.2.2.2.2.1 | exact X.2.2.2.2.2.2.2.2.2.2.2.2.2.2.1 | exact X.2.2.2.2.2.2.2.2.2.2.2.2.2.2.2) rfl ?_
  refine j_iload_n dX5_set_14 rfl rfl ?_
  refine j_aaldL 3 8 2 2 dX5_set_15 (by first | exact X.1 | exact X.2.1 | exact X.2.2.2.1 | exact X.2.2.2.2.1 | exact X.2.2.2.2.2.2.1.o | exact X.2.2.2.2.2.2.1.c | exact X.2.2.2.2.2.2.1.i | exact X.2.2.2.2.2.2.1.p | exact X.2.2.2.2.2.2.1.d | exact X.2.2.2.2.2.2.2.1.o | exact X.2.2.2.2.2.2.2.2.1 | exact X.2.2.2.2.2.2.2.2.2.1 | exact X.2.2.2.2.2.2.2.2.2.2.2.1 | exact X.2.2.2.2.2.2.2.2.2.2.2.2.2.1 | exact X.2.2.2.2.2.2.2.2.2.2.2.2.2.2.1 | exact X.2.2.2.2.2.2.2.2.2.2.2.2.2.2.2) (by decide) rfl hk (by decide) ?_
  refine j_astore dX5_set_16 (Nat.le_of_ble_eq_true rfl) rfl ?_
  refine j_aload dX5_set_18 rfl ?_
  refine j_callV (c_isMissingR (X.2.2.1 k hk)) dX5_set_20 rfl mv_X5_71 (X.2.2.1 k hk).o rfl ⟨(Nat.le_of_ble_eq_true rfl), (Nat.le_of_ble_eq_true rfl)⟩ ⟨(Nat.le_of_ble_eq_true rfl), (Nat.le_of_ble_eq_true rfl)⟩ (Nat.le_of_ble_eq_true rfl) ?_
  refine j_top (nI 0) (if_neg hl) ?_
  refine j_if_eq 32 dX5_set_23 (by decide) (fun _ => ?_) (fun h => absurd rfl h)
  refine j_aload dX5_set_32 rfl ?_
  refine j_iload_n dX5_set_34 rfl rfl ?_
  refine j_iconst (nI 1) dX5_set_35 rfl ?_
  refine j_callV (c_hasRangeR (X.2.2.1 k hk) (nI j) (nI 1)) dX5_set_36 rfl mv_X5_75 (X.2.2.1 k hk).o rfl ⟨(Nat.le_of_ble_eq_true rfl), (Nat.le_of_ble_eq_true rfl)⟩ ⟨(Nat.le_of_ble_eq_true rfl), (Nat.le_of_ble_eq_true rfl)⟩ (Nat.le_of_ble_eq_true rfl) ?_
  refine j_top (nI 1) hr ?_
  refine j_if_ne 48 dX5_set_39 (by decide) (fun _ => ?_) (fun h => absurd h (by decide))
  refine j_aload_n dX5_set_48 rfl rfl ?_
  refine j_aload dX5_set_49 rfl ?_
  refine j_iload_n dX5_set_51 rfl rfl ?_
  refine j_iload_n dX5_set_52 rfl rfl ?_
  refine j_callV (c_putR (X.2.2.1 k hk) v hj) dX5_set_53 rfl mv_X5_79 (X.2.2.1 k hk).o rfl ⟨(Nat.le_of_ble_eq_true rfl), (Nat.le_of_ble_eq_true rfl)⟩ ⟨(Nat.le_of_ble_eq_true rfl), (Nat.le_of_ble_eq_true rfl)⟩ (Nat.le_of_ble_eq_true rfl) ?_
  have X := X.row k hk (upd (ri k) j (putI (rl k) v)) (rl k) (rn k)
  refine j_callV (c_foundNothing X _) dX5_set_56 rfl mv_X5_68 (by first | exact X.1 | exact X.2.1 | exact X.2.2.2.1 | exact X.2.2.2.2.1 | exact X.2.2.2.2.2.2.1.o | exact X.2.2.2.2.2.2.1.c | exact X.2.2.2.2.2.2.1.i | exact X.2.2.2.2.2.2.1.p | exact X.2.2.2.2.2.2.1.d | exact X.2.2.2.2.2.2.2.1.o | exact X.2.2.2.2.2.2.2.2.1 | exact X.2.2.2.2.2.2.2.2.2.1 | exact X.2.2.2.2.2.2.2.2.2.2.2.1 | exact X.2.2.2.2.2.2.2.2.2.2.2.2.2.1 | exact X.2.2.2.2.2.2.2.2.2.2.2.2.2.2.1 | exact X.2.2.2.2.2.2.2.2.2.2.2.2.2.2.2) rfl ⟨(Nat.le_of_ble_eq_true rfl), (Nat.le_of_ble_eq_true rfl)⟩ ⟨(Nat.le_of_ble_eq_true rfl), (Nat.le_of_ble_eq_true rfl)⟩ (Nat.le_of_ble_eq_true rfl) ?_
  exact j_iret rfl dX5_set_59 rfl rfl (Nat.le_of_ble_eq_true rfl) (Nat.le_of_ble_eq_true rfl)
theorem x_drop_bad (r : Int32) (h : ¬ nrI r = 0) : Ct G yX5_drop cX5_drop 4 (some .int) 3 0 0 z σ [.ref 0, .int r] (some (.int (-1000001))) z σ := by
  refine Ct.ofJ RX5 rfl [some (.ref 0), some (.int r), none, none] rfl (by decide) (by simp [Value.category]) ?_
  refine j_iload_n dX5_drop_0 rfl rfl ?_
  refine j_callS (c_isNoRow r) dX5_drop_1 rfl ms_X5_55 ⟨(Nat.le_of_ble_eq_true rfl), (Nat.le_of_ble_eq_true rfl)⟩ ⟨(Nat.le_of_ble_eq_true rfl), (Nat.le_of_ble_eq_true rfl)⟩ (Nat.le_of_ble_eq_true rfl) ?_
  refine j_if_eq 10 dX5_drop_4 (by decide) (fun b4 => ?_) (fun b4 => ?_)
  · exact absurd b4 h
  · refine j_ldc (-1000001) dX5_drop_7 kc_X5_59 ?_
    exact j_iret rfl dX5_drop_9 rfl rfl (Nat.le_of_ble_eq_true rfl) (Nat.le_of_ble_eq_true rfl)
theorem x_drop_null (X : XR σ lf fd rl rn ri tp rd dd d df nx kp da di tr bo ne) {k : Nat} (hk : k < 8) (hl : rl k = -1) : Ct G yX5_drop cX5_drop 4 (some .int) 3 0 0 z σ [.ref 0, .int (nI k)] (some (.int (-1000010 - nI 1))) z (ups σ 0 (xO lf (nI 1))) := by
  refine Ct.ofJ RX5 rfl [some (.ref 0), some (.int (nI k)), none, none] rfl (by decide) (by simp [Value.category]) ?_
  refine j_iload_n dX5_drop_0 rfl rfl ?_
  refine j_callS (c_isNoRow (nI k)) dX5_drop_1 rfl ms_X5_55 ⟨(Nat.le_of_ble_eq_true rfl), (Nat.le_of_ble_eq_true rfl)⟩ ⟨(Nat.le_of_ble_eq_true rfl), (Nat.le_of_ble_eq_true rfl)⟩ (Nat.le_of_ble_eq_true rfl) ?_
  refine j_top (nI 0) (nrI_k hk) ?_
  refine j_if_eq 10 dX5_drop_4 (by decide) (fun _ => ?_) (fun h => absurd rfl h)
  refine j_aload_n dX5_drop_10 rfl rfl ?_
  refine j_getf dX5_drop_11 5 0 rfl (Nat.le_of_ble_eq_true rfl) fl_X5_11 in_5 (by first | exact X.1 | exact X.2.1 | exact X.2.2.2.1 | exact X.2.2.2.2.1 | exact X.2.2.2.2.2.2.1.o | exact X.2.2.2.2.2.2.1.c | exact X.2.2.2.2.2.2.1.i | exact X.2.2.2.2.2.2.1.p | exact X.2.2.2.2.2.2.1.d | exact X.2.2.2.2.2.2.2.1.o | exact X.2.2.2.2.2.2.2.2.1 | exact X.2.2.2.2.2.2.2.2.2.1 | exact X.2.2.2.2.2.2.2.2.2.2.2.1 | exact X.2.2.2.2.2.2.2.2.2.2.2.2.2.1 | exact X.2.2.2.2.2.2.2.2.2.2.2.2.2.2.1 | exact X.2.2.2.2.2.2.2.2.2.2.2.2.2.2.2) rfl ?_
  refine j_iload_n dX5_drop_14 rfl rfl ?_
  refine j_aaldL 3 8 2 2 dX5_drop_15 (by first | exact X.1 | exact X.2.1 | exact X.2.2.2.1 | exact X.2.2.2.2.1 | exact X.2.2.2.2.2.2.1.o | exact X.2.2.2.2.2.2.1.c | exact X.2.2.2.2.2.2.1.i | exact X.2.2.2.2.2.2.1.p | exact X.2.2.2.2.2.2.1.d | exact X.2.2.2.2.2.2.2.1.o | exact X.2.2.2.2.2.2.2.2.1 | exact X.2.2.2.2.2.2.2.2.2.1 | exact X.2.2.2.2.2.2.2.2.2.2.2.1 | exact X.2.2.2.2.2.2.2.2.2.2.2.2.2.1 | exact X.2.2.2.2.2.2.2.2.2.2.2.2.2.2.1 | exact X.2.2.2.2.2.2.2.2.2.2.2.2.2.2.2) (by decide) rfl hk (by decide) ?_
  refine j_astore_n dX5_drop_16 rfl (Nat.le_of_ble_eq_true rfl) rfl ?_
  refine j_aload_n dX5_drop_17 rfl rfl ?_
  refine j_callV (c_isMissingR (X.2.2.1 k hk)) dX5_drop_18 rfl mv_X5_71 (X.2.2.1 k hk).o rfl ⟨(Nat.le_of_ble_eq_true rfl), (Nat.le_of_ble_eq_true rfl)⟩ ⟨(Nat.le_of_ble_eq_true rfl), (Nat.le_of_ble_eq_true rfl)⟩ (Nat.le_of_ble_eq_true rfl) ?_
  refine j_top (nI 1) (if_pos hl) ?_
  refine j_if_eq 30 dX5_drop_21 (by decide) (fun h => absurd h (by decide)) (fun _ => ?_)
  refine j_aload_n dX5_drop_24 rfl rfl ?_
  refine j_iconst (nI 1) dX5_drop_25 rfl ?_
  refine j_callV (c_found X (nI 1)) dX5_drop_26 rfl mv_X5_60 (by first | exact X.1 | exact X.2.1 | exact X.2.2.2.1 | exact X.2.2.2.2.1 | exact X.2.2.2.2.2.2.1.o | exact X.2.2.2.2.2.2.1.c | exact X.2.2.2.2.2.2.1.i | exact X.2.2.2.2.2.2.1.p | exact X.2.2.2.2.2.2.1.d | exact X.2.2.2.2.2.2.2.1.o | exact X.2.2.2.2.2.2.2.2.1 | exact X.2.2.2.2.2.2.2.2.2.1 | exact X.2.2.2.2.2.2.2.2.2.2.2.1 | exact X.2.2.2.2.2.2.2.2.2.2.2.2.2.1 | exact X.2.2.2.2.2.2.2.2.2.2.2.2.2.2.1 | exact X.2.2.2.2.2.2.2.2.2.2.2.2.2.2.2) rfl ⟨(Nat.le_of_ble_eq_true rfl), (Nat.le_of_ble_eq_true rfl)⟩ ⟨(Nat.le_of_ble_eq_true rfl), (Nat.le_of_ble_eq_true rfl)⟩ (Nat.le_of_ble_eq_true rfl) ?_
  exact j_iret rfl dX5_drop_29 rfl rfl (Nat.le_of_ble_eq_true rfl) (Nat.le_of_ble_eq_true rfl)
theorem x_drop_ok (X : XR σ lf fd rl rn ri tp rd dd d df nx kp da di tr bo ne) {k : Nat} (hk : k < 8) (hl : ¬ rl k = -1) : Ct G yX5_drop cX5_drop 4 (some .int) 3 0 0 z σ [.ref 0, .int (nI k)] (some (.int (rn k))) z (ups (rw' σ (2 + 2 * k) (ri k) (-1) (nI 0)) 0 (xO lf (nI 0))) := by
  refine Ct.ofJ RX5 rfl [some (.ref 0), some (.int (nI k)), none, none] rfl (by decide) (by simp [Value.category]) ?_
  refine j_iload_n dX5_drop_0 rfl rfl ?_
  refine j_callS (c_isNoRow (nI k)) dX5_drop_1 rfl ms_X5_55 ⟨(Nat.le_of_ble_eq_true rfl), (Nat.le_of_ble_eq_true rfl)⟩ ⟨(Nat.le_of_ble_eq_true rfl), (Nat.le_of_ble_eq_true rfl)⟩ (Nat.le_of_ble_eq_true rfl) ?_
  refine j_top (nI 0) (nrI_k hk) ?_
  refine j_if_eq 10 dX5_drop_4 (by decide) (fun _ => ?_) (fun h => absurd rfl h)
  refine j_aload_n dX5_drop_10 rfl rfl ?_
  refine j_getf dX5_drop_11 5 0 rfl (Nat.le_of_ble_eq_true rfl) fl_X5_11 in_5 (by first | exact X.1 | exact X.2.1 | exact X.2.2.2.1 | exact X.2.2.2.2.1 | exact X.2.2.2.2.2.2.1.o | exact X.2.2.2.2.2.2.1.c | exact X.2.2.2.2.2.2.1.i | exact X.2.2.2.2.2.2.1.p | exact X.2.2.2.2.2.2.1.d | exact X.2.2.2.2.2.2.2.1.o | exact X.2.2.2.2.2.2.2.2.1 | exact X.2.2.2.2.2.2.2.2.2.1 | exact X.2.2.2.2.2.2.2.2.2.2.2.1 | exact X.2.2.2.2.2.2.2.2.2.2.2.2.2.1 | exact X.2.2.2.2.2.2.2.2.2.2.2.2.2.2.1 | exact X.2.2.2.2.2.2.2.2.2.2.2.2.2.2.2) rfl ?_
  refine j_iload_n dX5_drop_14 rfl rfl ?_
  refine j_aaldL 3 8 2 2 dX5_drop_15 (by first | exact X.1 | exact X.2.1 | exact X.2.2.2.1 | exact X.2.2.2.2.1 | exact X.2.2.2.2.2.2.1.o | exact X.2.2.2.2.2.2.1.c | exact X.2.2.2.2.2.2.1.i | exact X.2.2.2.2.2.2.1.p | exact X.2.2.2.2.2.2.1.d | exact X.2.2.2.2.2.2.2.1.o | exact X.2.2.2.2.2.2.2.2.1 | exact X.2.2.2.2.2.2.2.2.2.1 | exact X.2.2.2.2.2.2.2.2.2.2.2.1 | exact X.2.2.2.2.2.2.2.2.2.2.2.2.2.1 | exact X.2.2.2.2.2.2.2.2.2.2.2.2.2.2.1 | exact X.2.2.2.2.2.2.2.2.2.2.2.2.2.2.2) (by decide) rfl hk (by decide) ?_
  refine j_astore_n dX5_drop_16 rfl (Nat.le_of_ble_eq_true rfl) rfl ?_
  refine j_aload_n dX5_drop_17 rfl rfl ?_
  refine j_callV (c_isMissingR (X.2.2.1 k hk)) dX5_drop_18 rfl mv_X5_71 (X.2.2.1 k hk).o rfl ⟨(Nat.le_of_ble_eq_true rfl), (Nat.le_of_ble_eq_true rfl)⟩ ⟨(Nat.le_of_ble_eq_true rfl), (Nat.le_of_ble_eq_true rfl)⟩ (Nat.le_of_ble_eq_true rfl) ?_
  refine j_top (nI 0) (if_neg hl) ?_
  refine j_if_eq 30 dX5_drop_21 (by decide) (fun _ => ?_) (fun h => absurd rfl h)
  refine j_aload_n dX5_drop_30 rfl rfl ?_
  refine j_getf dX5_drop_31 3 2 rfl (Nat.le_of_ble_eq_true rfl) fl_X5_96 in_3 (X.2.2.1 k hk).o rfl ?_
  refine j_istore_n dX5_drop_34 rfl (Nat.le_of_ble_eq_true rfl) rfl ?_
  refine j_aload_n dX5_drop_35 rfl rfl ?_
  refine j_callV (c_vanishR (X.2.2.1 k hk)) dX5_drop_36 rfl mv_X5_99 (X.2.2.1 k hk).o rfl ⟨(Nat.le_of_ble_eq_true rfl), (Nat.le_of_ble_eq_true rfl)⟩ ⟨(Nat.le_of_ble_eq_true rfl), (Nat.le_of_ble_eq_true rfl)⟩ (Nat.le_of_ble_eq_true rfl) ?_
  have X := X.row k hk (ri k) (-1) (nI 0)
  refine j_aload_n dX5_drop_39 rfl rfl ?_
  refine j_iload_n dX5_drop_40 rfl rfl ?_
  refine j_callV (c_foundNothing X _) dX5_drop_41 rfl mv_X5_68 (by first | exact X.1 | exact X.2.1 | exact X.2.2.2.1 | exact X.2.2.2.2.1 | exact X.2.2.2.2.2.2.1.o | exact X.2.2.2.2.2.2.1.c | exact X.2.2.2.2.2.2.1.i | exact X.2.2.2.2.2.2.1.p | exact X.2.2.2.2.2.2.1.d | exact X.2.2.2.2.2.2.2.1.o | exact X.2.2.2.2.2.2.2.2.1 | exact X.2.2.2.2.2.2.2.2.2.1 | exact X.2.2.2.2.2.2.2.2.2.2.2.1 | exact X.2.2.2.2.2.2.2.2.2.2.2.2.2.1 | exact X.2.2.2.2.2.2.2.2.2.2.2.2.2.2.1 | exact X.2.2.2.2.2.2.2.2.2.2.2.2.2.2.2) rfl ⟨(Nat.le_of_ble_eq_true rfl), (Nat.le_of_ble_eq_true rfl)⟩ ⟨(Nat.le_of_ble_eq_true rfl), (Nat.le_of_ble_eq_true rfl)⟩ (Nat.le_of_ble_eq_true rfl) ?_
  exact j_iret rfl dX5_drop_44 rfl rfl (Nat.le_of_ble_eq_true rfl) (Nat.le_of_ble_eq_true rfl)
end O1
end
section
/-! THE CLASS's calls that are acts -/
theorem j_tabK {G : GG} {oR : String} {oc : ByteArray} {on : Nat} {ort : Option FieldType} {T : TG} {z kc ks pc : Nat} {σ : AH} {L : List (Option Value)} {st : List Value} {dflt lo hi : Int} {offs : Array Int} {len : Nat} {x : Int32} {off : Int} (k tgt : Nat) (hd : decode oc pc = .ok (.tableswitch dflt lo hi offs, len)) (hx : x = nI k) (hk : k < 2 ^ 31) (h1 : ¬ (k : Int) < lo) (h2 : ¬ hi < (k : Int)) (ho : offs[((k : Int) - lo).toNat]? = some off) (ht : (pc : Int) + off = (tgt : Int)) (kk : J G oR oc on ort T z σ kc ks tgt L st) : J G oR oc on ort T z σ kc ks pc L (.int x :: st) := by
  subst hx
  have e := nI_toInt hk
  exact j_tabIn tgt hd (by rw [e]; exact h1) (by rw [e]; exact h2) (by rw [e]; exact ho) ht kk
theorem npI_k {k N : Nat} (h : k < N) (hN : N ≤ 7) : npI (nI k) N = nI 0 := by
  unfold npI
  rw [if_neg (nI_pos (by omega)), if_pos (nI_lt h (by omega))]
theorem nqI_k {p q N : Nat} (hp : p < N) (hq : q < N) (hpq : p ≠ q) (hN : N ≤ 7) : nqI (nI p) (nI q) N = nI 0 := by
  unfold nqI
  rw [if_pos (show npI (nI p) N = 0 from npI_k hp hN), if_pos (show npI (nI q) N = 0 from npI_k hq hN), if_neg (fun e => hpq ((nI_eq (by omega) (by omega)).mp e))]
theorem ntI_k {N : Nat} (h : 1 ≤ N) (hN : N ≤ 7) : ntI N = nI 0 := by
  unfold ntI
  rw [if_neg (nI_ne0 h (by omega))]
theorem Tat.setP {σ : AH} {t : Nat} {s : TS} (h : Tat σ t s) {pa2 : Nat → Int32} : ups σ (t + 3) (.inl (0, 7, pa2)) = twS σ t (sC s, sI s, pa2, sD s, sN s, sU s, sR s, sQ s, sH s, sF s) := by
  have h2 := tws_p (σ := σ) (t := t) (ca := sC s) (inc := sI s) (pa := sP s) (de := sD s) (pe := nI (sN s)) (un := nI (sU s)) (ra := nI (sR s)) (qu := nI (sQ s)) (hi := sH s) (fa := sF s) (pa2 := pa2)
  rw [show tw σ t (sC s) (sI s) (sP s) (sD s) (nI (sN s)) (nI (sU s)) (nI (sR s)) (nI (sQ s)) (sH s) (sF s) = σ from h] at h2
  exact h2
theorem Tat.setH {σ : AH} {t : Nat} {s : TS} (h : Tat σ t s) {hi2 : Int32} : ups σ t (.inr (.inr (4, [.ref (t + 1), .ref (t + 2), .ref (t + 3), .ref (t + 4), .int (nI (sN s)), .int (nI (sU s)), .int (nI (sR s)), .int (nI (sQ s)), .int hi2, .int (sF s)]))) = twS σ t (sC s, sI s, sP s, sD s, sN s, sU s, sR s, sQ s, hi2, sF s) := by
  have h2 := tws_o (σ := σ) (t := t) (ca := sC s) (inc := sI s) (pa := sP s) (de := sD s) (pe := nI (sN s)) (un := nI (sU s)) (ra := nI (sR s)) (qu := nI (sQ s)) (hi := sH s) (fa := sF s) (pe2 := nI (sN s)) (un2 := nI (sU s)) (ra2 := nI (sR s)) (qu2 := nI (sQ s)) (hi2 := hi2) (fa2 := sF s)
  rw [show tw σ t (sC s) (sI s) (sP s) (sD s) (nI (sN s)) (nI (sU s)) (nI (sR s)) (nI (sQ s)) (sH s) (sF s) = σ from h] at h2
  exact h2
/-- the heap behind 'keep' -/
abbrev kpH (σ : AH) (nx kp : Nat) (d : TS) : AH := ups (twS σ (37 + 5 * nx) d) 35 (xA (nxt nx) (min (kp + 1) 24))
theorem dX5_loan_0 : decode cX5_loan 0 = .ok (.aload_n 0, 1) := by decide +kernel
theorem dX5_loan_1 : decode cX5_loan 1 = .ok (.iload_n 1, 1) := by decide +kernel
theorem dX5_loan_2 : decode cX5_loan 2 = .ok (.iload_n 2, 1) := by decide +kernel
theorem dX5_loan_3 : decode cX5_loan 3 = .ok (.invokevirtual 134, 3) := by decide +kernel
theorem dX5_loan_6 : decode cX5_loan 6 = .ok (.ifCond .ne 15, 3) := by decide +kernel
theorem dX5_loan_9 : decode cX5_loan 9 = .ok (.iload_n 3, 1) := by decide +kernel
theorem dX5_loan_10 : decode cX5_loan 10 = .ok (.iconst 1, 1) := by decide +kernel
theorem dX5_loan_11 : decode cX5_loan 11 = .ok (.if_icmp .lt 10, 3) := by decide +kernel
theorem dX5_loan_14 : decode cX5_loan 14 = .ok (.iload_n 3, 1) := by decide +kernel
theorem dX5_loan_15 : decode cX5_loan 15 = .ok (.sipush 999, 3) := by decide +kernel
theorem dX5_loan_18 : decode cX5_loan 18 = .ok (.if_icmp .le 6, 3) := by decide +kernel
theorem dX5_loan_21 : decode cX5_loan 21 = .ok (.ldc 59, 2) := by decide +kernel
theorem dX5_loan_23 : decode cX5_loan 23 = .ok (.ireturn, 1) := by decide +kernel
theorem dX5_loan_24 : decode cX5_loan 24 = .ok (.aload_n 0, 1) := by decide +kernel
theorem dX5_loan_25 : decode cX5_loan 25 = .ok (.getfield 26, 3) := by decide +kernel
theorem dX5_loan_28 : decode cX5_loan 28 = .ok (.getfield 137, 3) := by decide +kernel
theorem dX5_loan_31 : decode cX5_loan 31 = .ok (.iload_n 2, 1) := by decide +kernel
theorem dX5_loan_32 : decode cX5_loan 32 = .ok (.iaload, 1) := by decide +kernel
theorem dX5_loan_33 : decode cX5_loan 33 = .ok (.iload_n 3, 1) := by decide +kernel
theorem dX5_loan_34 : decode cX5_loan 34 = .ok (.if_icmp .ge 6, 3) := by decide +kernel
theorem dX5_loan_37 : decode cX5_loan 37 = .ok (.ldc 140, 2) := by decide +kernel
theorem dX5_loan_39 : decode cX5_loan 39 = .ok (.ireturn, 1) := by decide +kernel
theorem dX5_loan_40 : decode cX5_loan 40 = .ok (.aload_n 0, 1) := by decide +kernel
theorem dX5_loan_41 : decode cX5_loan 41 = .ok (.getfield 26, 3) := by decide +kernel
theorem dX5_loan_44 : decode cX5_loan 44 = .ok (.iload_n 1, 1) := by decide +kernel
theorem dX5_loan_45 : decode cX5_loan 45 = .ok (.iload_n 2, 1) := by decide +kernel
theorem dX5_loan_46 : decode cX5_loan 46 = .ok (.invokevirtual 141, 3) := by decide +kernel
theorem dX5_loan_49 : decode cX5_loan 49 = .ok (.iload_n 3, 1) := by decide +kernel
theorem dX5_loan_50 : decode cX5_loan 50 = .ok (.iadd, 1) := by decide +kernel
theorem dX5_loan_51 : decode cX5_loan 51 = .ok (.istore 4, 2) := by decide +kernel
theorem dX5_loan_53 : decode cX5_loan 53 = .ok (.iload 4, 2) := by decide +kernel
theorem dX5_loan_55 : decode cX5_loan 55 = .ok (.ldc 144, 2) := by decide +kernel
theorem dX5_loan_57 : decode cX5_loan 57 = .ok (.if_icmp .le 6, 3) := by decide +kernel
theorem dX5_loan_60 : decode cX5_loan 60 = .ok (.ldc 103, 2) := by decide +kernel
theorem dX5_loan_62 : decode cX5_loan 62 = .ok (.ireturn, 1) := by decide +kernel
theorem dX5_loan_63 : decode cX5_loan 63 = .ok (.aload_n 0, 1) := by decide +kernel
theorem dX5_loan_64 : decode cX5_loan 64 = .ok (.getfield 36, 3) := by decide +kernel
theorem dX5_loan_67 : decode cX5_loan 67 = .ok (.aload_n 0, 1) := by decide +kernel
theorem dX5_loan_68 : decode cX5_loan 68 = .ok (.getfield 26, 3) := by decide +kernel
theorem dX5_loan_71 : decode cX5_loan 71 = .ok (.invokevirtual 145, 3) := by decide +kernel
theorem dX5_loan_74 : decode cX5_loan 74 = .ok (.aload_n 0, 1) := by decide +kernel
theorem dX5_loan_75 : decode cX5_loan 75 = .ok (.getfield 26, 3) := by decide +kernel
theorem dX5_loan_78 : decode cX5_loan 78 = .ok (.iload_n 2, 1) := by decide +kernel
theorem dX5_loan_79 : decode cX5_loan 79 = .ok (.iload_n 1, 1) := by decide +kernel
theorem dX5_loan_80 : decode cX5_loan 80 = .ok (.iload_n 3, 1) := by decide +kernel
theorem dX5_loan_81 : decode cX5_loan 81 = .ok (.invokevirtual 148, 3) := by decide +kernel
theorem dX5_loan_84 : decode cX5_loan 84 = .ok (.iload 4, 2) := by decide +kernel
theorem dX5_loan_86 : decode cX5_loan 86 = .ok (.ireturn, 1) := by decide +kernel
theorem dX5_pay_0 : decode cX5_pay 0 = .ok (.aload_n 0, 1) := by decide +kernel
theorem dX5_pay_1 : decode cX5_pay 1 = .ok (.iload_n 1, 1) := by decide +kernel
theorem dX5_pay_2 : decode cX5_pay 2 = .ok (.iload_n 2, 1) := by decide +kernel
theorem dX5_pay_3 : decode cX5_pay 3 = .ok (.invokevirtual 134, 3) := by decide +kernel
theorem dX5_pay_6 : decode cX5_pay 6 = .ok (.ifCond .ne 14, 3) := by decide +kernel
theorem dX5_pay_9 : decode cX5_pay 9 = .ok (.iload_n 3, 1) := by decide +kernel
theorem dX5_pay_10 : decode cX5_pay 10 = .ok (.iconst 1, 1) := by decide +kernel
theorem dX5_pay_11 : decode cX5_pay 11 = .ok (.if_icmp .lt 9, 3) := by decide +kernel
theorem dX5_pay_14 : decode cX5_pay 14 = .ok (.iload_n 3, 1) := by decide +kernel
theorem dX5_pay_15 : decode cX5_pay 15 = .ok (.ldc 144, 2) := by decide +kernel
theorem dX5_pay_17 : decode cX5_pay 17 = .ok (.if_icmp .le 6, 3) := by decide +kernel
theorem dX5_pay_20 : decode cX5_pay 20 = .ok (.ldc 59, 2) := by decide +kernel
theorem dX5_pay_22 : decode cX5_pay 22 = .ok (.ireturn, 1) := by decide +kernel
theorem dX5_pay_23 : decode cX5_pay 23 = .ok (.aload_n 0, 1) := by decide +kernel
theorem dX5_pay_24 : decode cX5_pay 24 = .ok (.getfield 26, 3) := by decide +kernel
theorem dX5_pay_27 : decode cX5_pay 27 = .ok (.iload_n 1, 1) := by decide +kernel
theorem dX5_pay_28 : decode cX5_pay 28 = .ok (.iload_n 2, 1) := by decide +kernel
theorem dX5_pay_29 : decode cX5_pay 29 = .ok (.invokevirtual 141, 3) := by decide +kernel
theorem dX5_pay_32 : decode cX5_pay 32 = .ok (.iload_n 3, 1) := by decide +kernel
theorem dX5_pay_33 : decode cX5_pay 33 = .ok (.if_icmp .lt 16, 3) := by decide +kernel
theorem dX5_pay_36 : decode cX5_pay 36 = .ok (.aload_n 0, 1) := by decide +kernel
theorem dX5_pay_37 : decode cX5_pay 37 = .ok (.getfield 26, 3) := by decide +kernel
theorem dX5_pay_40 : decode cX5_pay 40 = .ok (.getfield 137, 3) := by decide +kernel
theorem dX5_pay_43 : decode cX5_pay 43 = .ok (.iload_n 1, 1) := by decide +kernel
theorem dX5_pay_44 : decode cX5_pay 44 = .ok (.iaload, 1) := by decide +kernel
theorem dX5_pay_45 : decode cX5_pay 45 = .ok (.iload_n 3, 1) := by decide +kernel
theorem dX5_pay_46 : decode cX5_pay 46 = .ok (.if_icmp .ge 6, 3) := by decide +kernel
theorem dX5_pay_49 : decode cX5_pay 49 = .ok (.ldc 140, 2) := by decide +kernel
theorem dX5_pay_51 : decode cX5_pay 51 = .ok (.ireturn, 1) := by decide +kernel
theorem dX5_pay_52 : decode cX5_pay 52 = .ok (.aload_n 0, 1) := by decide +kernel
theorem dX5_pay_53 : decode cX5_pay 53 = .ok (.getfield 36, 3) := by decide +kernel
theorem dX5_pay_56 : decode cX5_pay 56 = .ok (.aload_n 0, 1) := by decide +kernel
theorem dX5_pay_57 : decode cX5_pay 57 = .ok (.getfield 26, 3) := by decide +kernel
theorem dX5_pay_60 : decode cX5_pay 60 = .ok (.invokevirtual 145, 3) := by decide +kernel
theorem dX5_pay_63 : decode cX5_pay 63 = .ok (.aload_n 0, 1) := by decide +kernel
theorem dX5_pay_64 : decode cX5_pay 64 = .ok (.getfield 26, 3) := by decide +kernel
theorem dX5_pay_67 : decode cX5_pay 67 = .ok (.iload_n 1, 1) := by decide +kernel
theorem dX5_pay_68 : decode cX5_pay 68 = .ok (.iload_n 2, 1) := by decide +kernel
theorem dX5_pay_69 : decode cX5_pay 69 = .ok (.iload_n 3, 1) := by decide +kernel
theorem dX5_pay_70 : decode cX5_pay 70 = .ok (.invokevirtual 152, 3) := by decide +kernel
theorem dX5_pay_73 : decode cX5_pay 73 = .ok (.aload_n 0, 1) := by decide +kernel
theorem dX5_pay_74 : decode cX5_pay 74 = .ok (.getfield 26, 3) := by decide +kernel
theorem dX5_pay_77 : decode cX5_pay 77 = .ok (.iload_n 1, 1) := by decide +kernel
theorem dX5_pay_78 : decode cX5_pay 78 = .ok (.iload_n 2, 1) := by decide +kernel
theorem dX5_pay_79 : decode cX5_pay 79 = .ok (.invokevirtual 141, 3) := by decide +kernel
theorem dX5_pay_82 : decode cX5_pay 82 = .ok (.ireturn, 1) := by decide +kernel
theorem dX5_paint_0 : decode cX5_paint 0 = .ok (.aload_n 0, 1) := by decide +kernel
theorem dX5_paint_1 : decode cX5_paint 1 = .ok (.iload_n 1, 1) := by decide +kernel
theorem dX5_paint_2 : decode cX5_paint 2 = .ok (.invokevirtual 155, 3) := by decide +kernel
theorem dX5_paint_5 : decode cX5_paint 5 = .ok (.ifCond .ne 13, 3) := by decide +kernel
theorem dX5_paint_8 : decode cX5_paint 8 = .ok (.iload_n 2, 1) := by decide +kernel
theorem dX5_paint_9 : decode cX5_paint 9 = .ok (.ifCond .lt 9, 3) := by decide +kernel
theorem dX5_paint_12 : decode cX5_paint 12 = .ok (.iload_n 2, 1) := by decide +kernel
theorem dX5_paint_13 : decode cX5_paint 13 = .ok (.bipush 9, 2) := by decide +kernel
theorem dX5_paint_15 : decode cX5_paint 15 = .ok (.if_icmp .le 6, 3) := by decide +kernel
theorem dX5_paint_18 : decode cX5_paint 18 = .ok (.ldc 59, 2) := by decide +kernel
theorem dX5_paint_20 : decode cX5_paint 20 = .ok (.ireturn, 1) := by decide +kernel
theorem dX5_paint_21 : decode cX5_paint 21 = .ok (.aload_n 0, 1) := by decide +kernel
theorem dX5_paint_22 : decode cX5_paint 22 = .ok (.getfield 26, 3) := by decide +kernel
theorem dX5_paint_25 : decode cX5_paint 25 = .ok (.iload_n 1, 1) := by decide +kernel
theorem dX5_paint_26 : decode cX5_paint 26 = .ok (.invokevirtual 158, 3) := by decide +kernel
theorem dX5_paint_29 : decode cX5_paint 29 = .ok (.istore_n 3, 1) := by decide +kernel
theorem dX5_paint_30 : decode cX5_paint 30 = .ok (.aload_n 0, 1) := by decide +kernel
theorem dX5_paint_31 : decode cX5_paint 31 = .ok (.getfield 36, 3) := by decide +kernel
theorem dX5_paint_34 : decode cX5_paint 34 = .ok (.aload_n 0, 1) := by decide +kernel
theorem dX5_paint_35 : decode cX5_paint 35 = .ok (.getfield 26, 3) := by decide +kernel
theorem dX5_paint_38 : decode cX5_paint 38 = .ok (.invokevirtual 145, 3) := by decide +kernel
theorem dX5_paint_41 : decode cX5_paint 41 = .ok (.aload_n 0, 1) := by decide +kernel
theorem dX5_paint_42 : decode cX5_paint 42 = .ok (.getfield 26, 3) := by decide +kernel
theorem dX5_paint_45 : decode cX5_paint 45 = .ok (.getfield 161, 3) := by decide +kernel
theorem dX5_paint_48 : decode cX5_paint 48 = .ok (.iload_n 1, 1) := by decide +kernel
theorem dX5_paint_49 : decode cX5_paint 49 = .ok (.iload_n 2, 1) := by decide +kernel
theorem dX5_paint_50 : decode cX5_paint 50 = .ok (.iastore, 1) := by decide +kernel
theorem dX5_paint_51 : decode cX5_paint 51 = .ok (.iload_n 3, 1) := by decide +kernel
theorem dX5_paint_52 : decode cX5_paint 52 = .ok (.ireturn, 1) := by decide +kernel
theorem dX5_hedge_0 : decode cX5_hedge 0 = .ok (.aload_n 0, 1) := by decide +kernel
theorem dX5_hedge_1 : decode cX5_hedge 1 = .ok (.iload_n 1, 1) := by decide +kernel
theorem dX5_hedge_2 : decode cX5_hedge 2 = .ok (.invokevirtual 155, 3) := by decide +kernel
theorem dX5_hedge_5 : decode cX5_hedge 5 = .ok (.ifCond .ne 12, 3) := by decide +kernel
theorem dX5_hedge_8 : decode cX5_hedge 8 = .ok (.iload_n 2, 1) := by decide +kernel
theorem dX5_hedge_9 : decode cX5_hedge 9 = .ok (.ifCond .lt 8, 3) := by decide +kernel
theorem dX5_hedge_12 : decode cX5_hedge 12 = .ok (.iload_n 2, 1) := by decide +kernel
theorem dX5_hedge_13 : decode cX5_hedge 13 = .ok (.iconst 1, 1) := by decide +kernel
theorem dX5_hedge_14 : decode cX5_hedge 14 = .ok (.if_icmp .le 6, 3) := by decide +kernel
theorem dX5_hedge_17 : decode cX5_hedge 17 = .ok (.ldc 59, 2) := by decide +kernel
theorem dX5_hedge_19 : decode cX5_hedge 19 = .ok (.ireturn, 1) := by decide +kernel
theorem dX5_hedge_20 : decode cX5_hedge 20 = .ok (.aload_n 0, 1) := by decide +kernel
theorem dX5_hedge_21 : decode cX5_hedge 21 = .ok (.getfield 26, 3) := by decide +kernel
theorem dX5_hedge_24 : decode cX5_hedge 24 = .ok (.getfield 164, 3) := by decide +kernel
theorem dX5_hedge_27 : decode cX5_hedge 27 = .ok (.iload_n 1, 1) := by decide +kernel
theorem dX5_hedge_28 : decode cX5_hedge 28 = .ok (.invokestatic 167, 3) := by decide +kernel
theorem dX5_hedge_31 : decode cX5_hedge 31 = .ok (.istore_n 3, 1) := by decide +kernel
theorem dX5_hedge_32 : decode cX5_hedge 32 = .ok (.aload_n 0, 1) := by decide +kernel
theorem dX5_hedge_33 : decode cX5_hedge 33 = .ok (.getfield 36, 3) := by decide +kernel
theorem dX5_hedge_36 : decode cX5_hedge 36 = .ok (.aload_n 0, 1) := by decide +kernel
theorem dX5_hedge_37 : decode cX5_hedge 37 = .ok (.getfield 26, 3) := by decide +kernel
theorem dX5_hedge_40 : decode cX5_hedge 40 = .ok (.invokevirtual 145, 3) := by decide +kernel
theorem dX5_hedge_43 : decode cX5_hedge 43 = .ok (.aload_n 0, 1) := by decide +kernel
theorem dX5_hedge_44 : decode cX5_hedge 44 = .ok (.getfield 26, 3) := by decide +kernel
theorem dX5_hedge_47 : decode cX5_hedge 47 = .ok (.aload_n 0, 1) := by decide +kernel
theorem dX5_hedge_48 : decode cX5_hedge 48 = .ok (.getfield 26, 3) := by decide +kernel
theorem dX5_hedge_51 : decode cX5_hedge 51 = .ok (.getfield 164, 3) := by decide +kernel
theorem dX5_hedge_54 : decode cX5_hedge 54 = .ok (.iconst 1, 1) := by decide +kernel
theorem dX5_hedge_55 : decode cX5_hedge 55 = .ok (.iload_n 1, 1) := by decide +kernel
theorem dX5_hedge_56 : decode cX5_hedge 56 = .ok (.ishl, 1) := by decide +kernel
theorem dX5_hedge_57 : decode cX5_hedge 57 = .ok (.iconst (-1), 1) := by decide +kernel
theorem dX5_hedge_58 : decode cX5_hedge 58 = .ok (.ixor, 1) := by decide +kernel
theorem dX5_hedge_59 : decode cX5_hedge 59 = .ok (.iand, 1) := by decide +kernel
theorem dX5_hedge_60 : decode cX5_hedge 60 = .ok (.iload_n 2, 1) := by decide +kernel
theorem dX5_hedge_61 : decode cX5_hedge 61 = .ok (.iload_n 1, 1) := by decide +kernel
theorem dX5_hedge_62 : decode cX5_hedge 62 = .ok (.ishl, 1) := by decide +kernel
theorem dX5_hedge_63 : decode cX5_hedge 63 = .ok (.ior, 1) := by decide +kernel
theorem dX5_hedge_64 : decode cX5_hedge 64 = .ok (.putfield 164, 3) := by decide +kernel
theorem dX5_hedge_67 : decode cX5_hedge 67 = .ok (.iload_n 3, 1) := by decide +kernel
theorem dX5_hedge_68 : decode cX5_hedge 68 = .ok (.ireturn, 1) := by decide +kernel
theorem dX5_quarter_0 : decode cX5_quarter 0 = .ok (.aload_n 0, 1) := by decide +kernel
theorem dX5_quarter_1 : decode cX5_quarter 1 = .ok (.invokevirtual 170, 3) := by decide +kernel
theorem dX5_quarter_4 : decode cX5_quarter 4 = .ok (.ifCond .eq 6, 3) := by decide +kernel
theorem dX5_quarter_7 : decode cX5_quarter 7 = .ok (.ldc 140, 2) := by decide +kernel
theorem dX5_quarter_9 : decode cX5_quarter 9 = .ok (.ireturn, 1) := by decide +kernel
theorem dX5_quarter_10 : decode cX5_quarter 10 = .ok (.iload_n 1, 1) := by decide +kernel
theorem dX5_quarter_11 : decode cX5_quarter 11 = .ok (.ifCond .lt 9, 3) := by decide +kernel
theorem dX5_quarter_14 : decode cX5_quarter 14 = .ok (.iload_n 1, 1) := by decide +kernel
theorem dX5_quarter_15 : decode cX5_quarter 15 = .ok (.ldc 173, 2) := by decide +kernel
theorem dX5_quarter_17 : decode cX5_quarter 17 = .ok (.if_icmp .le 6, 3) := by decide +kernel
theorem dX5_quarter_20 : decode cX5_quarter 20 = .ok (.ldc 59, 2) := by decide +kernel
theorem dX5_quarter_22 : decode cX5_quarter 22 = .ok (.ireturn, 1) := by decide +kernel
theorem dX5_quarter_23 : decode cX5_quarter 23 = .ok (.aload_n 0, 1) := by decide +kernel
theorem dX5_quarter_24 : decode cX5_quarter 24 = .ok (.getfield 26, 3) := by decide +kernel
theorem dX5_quarter_27 : decode cX5_quarter 27 = .ok (.getfield 174, 3) := by decide +kernel
theorem dX5_quarter_30 : decode cX5_quarter 30 = .ok (.sipush 999, 3) := by decide +kernel
theorem dX5_quarter_33 : decode cX5_quarter 33 = .ok (.if_icmp .lt 6, 3) := by decide +kernel
theorem dX5_quarter_36 : decode cX5_quarter 36 = .ok (.ldc 103, 2) := by decide +kernel
theorem dX5_quarter_38 : decode cX5_quarter 38 = .ok (.ireturn, 1) := by decide +kernel
theorem dX5_quarter_39 : decode cX5_quarter 39 = .ok (.aload_n 0, 1) := by decide +kernel
theorem dX5_quarter_40 : decode cX5_quarter 40 = .ok (.getfield 36, 3) := by decide +kernel
theorem dX5_quarter_43 : decode cX5_quarter 43 = .ok (.aload_n 0, 1) := by decide +kernel
theorem dX5_quarter_44 : decode cX5_quarter 44 = .ok (.getfield 26, 3) := by decide +kernel
theorem dX5_quarter_47 : decode cX5_quarter 47 = .ok (.invokevirtual 145, 3) := by decide +kernel
theorem dX5_quarter_50 : decode cX5_quarter 50 = .ok (.aload_n 0, 1) := by decide +kernel
theorem dX5_quarter_51 : decode cX5_quarter 51 = .ok (.getfield 26, 3) := by decide +kernel
theorem dX5_quarter_54 : decode cX5_quarter 54 = .ok (.iload_n 1, 1) := by decide +kernel
theorem dX5_quarter_55 : decode cX5_quarter 55 = .ok (.invokevirtual 177, 3) := by decide +kernel
theorem dX5_quarter_58 : decode cX5_quarter 58 = .ok (.aload_n 0, 1) := by decide +kernel
theorem dX5_quarter_59 : decode cX5_quarter 59 = .ok (.getfield 26, 3) := by decide +kernel
theorem dX5_quarter_62 : decode cX5_quarter 62 = .ok (.getfield 174, 3) := by decide +kernel
theorem dX5_quarter_65 : decode cX5_quarter 65 = .ok (.ireturn, 1) := by decide +kernel
theorem dX5_undo_0 : decode cX5_undo 0 = .ok (.aload_n 0, 1) := by decide +kernel
theorem dX5_undo_1 : decode cX5_undo 1 = .ok (.getfield 36, 3) := by decide +kernel
theorem dX5_undo_4 : decode cX5_undo 4 = .ok (.getfield 181, 3) := by decide +kernel
theorem dX5_undo_7 : decode cX5_undo 7 = .ok (.ifCond .ne 6, 3) := by decide +kernel
theorem dX5_undo_10 : decode cX5_undo 10 = .ok (.ldc 140, 2) := by decide +kernel
theorem dX5_undo_12 : decode cX5_undo 12 = .ok (.ireturn, 1) := by decide +kernel
theorem dX5_undo_13 : decode cX5_undo 13 = .ok (.aload_n 0, 1) := by decide +kernel
theorem dX5_undo_14 : decode cX5_undo 14 = .ok (.getfield 36, 3) := by decide +kernel
theorem dX5_undo_17 : decode cX5_undo 17 = .ok (.aload_n 0, 1) := by decide +kernel
theorem dX5_undo_18 : decode cX5_undo 18 = .ok (.getfield 26, 3) := by decide +kernel
theorem dX5_undo_21 : decode cX5_undo 21 = .ok (.invokevirtual 184, 3) := by decide +kernel
theorem dX5_undo_24 : decode cX5_undo 24 = .ok (.aload_n 0, 1) := by decide +kernel
theorem dX5_undo_25 : decode cX5_undo 25 = .ok (.getfield 36, 3) := by decide +kernel
theorem dX5_undo_28 : decode cX5_undo 28 = .ok (.getfield 181, 3) := by decide +kernel
theorem dX5_undo_31 : decode cX5_undo 31 = .ok (.ireturn, 1) := by decide +kernel
theorem dX5_person_0 : decode cX5_person 0 = .ok (.aload_n 0, 1) := by decide +kernel
theorem dX5_person_1 : decode cX5_person 1 = .ok (.iload_n 1, 1) := by decide +kernel
theorem dX5_person_2 : decode cX5_person 2 = .ok (.invokevirtual 155, 3) := by decide +kernel
theorem dX5_person_5 : decode cX5_person 5 = .ok (.ifCond .eq 6, 3) := by decide +kernel
theorem dX5_person_8 : decode cX5_person 8 = .ok (.ldc 59, 2) := by decide +kernel
theorem dX5_person_10 : decode cX5_person 10 = .ok (.ireturn, 1) := by decide +kernel
theorem dX5_person_11 : decode cX5_person 11 = .ok (.iload_n 2, 1) := by decide +kernel
theorem dX5_person_12 : decode cX5_person 12 = .ok (.bipush 10, 2) := by decide +kernel
theorem dX5_person_14 : decode cX5_person 14 = .ok (.if_icmp .lt 30, 3) := by decide +kernel
theorem dX5_person_17 : decode cX5_person 17 = .ok (.iload_n 2, 1) := by decide +kernel
theorem dX5_person_18 : decode cX5_person 18 = .ok (.bipush 10, 2) := by decide +kernel
theorem dX5_person_20 : decode cX5_person 20 = .ok (.aload_n 0, 1) := by decide +kernel
theorem dX5_person_21 : decode cX5_person 21 = .ok (.getfield 26, 3) := by decide +kernel
theorem dX5_person_24 : decode cX5_person 24 = .ok (.getfield 131, 3) := by decide +kernel
theorem dX5_person_27 : decode cX5_person 27 = .ok (.iadd, 1) := by decide +kernel
theorem dX5_person_28 : decode cX5_person 28 = .ok (.if_icmp .ge 16, 3) := by decide +kernel
theorem dX5_person_31 : decode cX5_person 31 = .ok (.aload_n 0, 1) := by decide +kernel
theorem dX5_person_32 : decode cX5_person 32 = .ok (.getfield 26, 3) := by decide +kernel
theorem dX5_person_35 : decode cX5_person 35 = .ok (.iload_n 1, 1) := by decide +kernel
theorem dX5_person_36 : decode cX5_person 36 = .ok (.iload_n 2, 1) := by decide +kernel
theorem dX5_person_37 : decode cX5_person 37 = .ok (.bipush 10, 2) := by decide +kernel
theorem dX5_person_39 : decode cX5_person 39 = .ok (.isub, 1) := by decide +kernel
theorem dX5_person_40 : decode cX5_person 40 = .ok (.invokevirtual 141, 3) := by decide +kernel
theorem dX5_person_43 : decode cX5_person 43 = .ok (.ireturn, 1) := by decide +kernel
theorem dX5_person_44 : decode cX5_person 44 = .ok (.iload_n 2, 1) := by decide +kernel
theorem dX5_person_45 : decode cX5_person 45 = .ok (.tableswitch 136 0 7 #[47, 57, 67, 76, 85, 94, 106, 118], 47) := by decide +kernel
theorem dX5_person_92 : decode cX5_person 92 = .ok (.aload_n 0, 1) := by decide +kernel
theorem dX5_person_93 : decode cX5_person 93 = .ok (.getfield 26, 3) := by decide +kernel
theorem dX5_person_96 : decode cX5_person 96 = .ok (.getfield 137, 3) := by decide +kernel
theorem dX5_person_99 : decode cX5_person 99 = .ok (.iload_n 1, 1) := by decide +kernel
theorem dX5_person_100 : decode cX5_person 100 = .ok (.iaload, 1) := by decide +kernel
theorem dX5_person_101 : decode cX5_person 101 = .ok (.ireturn, 1) := by decide +kernel
theorem dX5_person_102 : decode cX5_person 102 = .ok (.aload_n 0, 1) := by decide +kernel
theorem dX5_person_103 : decode cX5_person 103 = .ok (.getfield 26, 3) := by decide +kernel
theorem dX5_person_106 : decode cX5_person 106 = .ok (.getfield 187, 3) := by decide +kernel
theorem dX5_person_109 : decode cX5_person 109 = .ok (.iload_n 1, 1) := by decide +kernel
theorem dX5_person_110 : decode cX5_person 110 = .ok (.iaload, 1) := by decide +kernel
theorem dX5_person_111 : decode cX5_person 111 = .ok (.ireturn, 1) := by decide +kernel
theorem dX5_person_112 : decode cX5_person 112 = .ok (.aload_n 0, 1) := by decide +kernel
theorem dX5_person_113 : decode cX5_person 113 = .ok (.getfield 26, 3) := by decide +kernel
theorem dX5_person_116 : decode cX5_person 116 = .ok (.iload_n 1, 1) := by decide +kernel
theorem dX5_person_117 : decode cX5_person 117 = .ok (.invokevirtual 190, 3) := by decide +kernel
theorem dX5_person_120 : decode cX5_person 120 = .ok (.ireturn, 1) := by decide +kernel
theorem dX5_person_121 : decode cX5_person 121 = .ok (.aload_n 0, 1) := by decide +kernel
theorem dX5_person_122 : decode cX5_person 122 = .ok (.getfield 26, 3) := by decide +kernel
theorem dX5_person_125 : decode cX5_person 125 = .ok (.iload_n 1, 1) := by decide +kernel
theorem dX5_person_126 : decode cX5_person 126 = .ok (.invokevirtual 193, 3) := by decide +kernel
theorem dX5_person_129 : decode cX5_person 129 = .ok (.ireturn, 1) := by decide +kernel
theorem dX5_person_130 : decode cX5_person 130 = .ok (.aload_n 0, 1) := by decide +kernel
theorem dX5_person_131 : decode cX5_person 131 = .ok (.getfield 26, 3) := by decide +kernel
theorem dX5_person_134 : decode cX5_person 134 = .ok (.iload_n 1, 1) := by decide +kernel
theorem dX5_person_135 : decode cX5_person 135 = .ok (.invokevirtual 158, 3) := by decide +kernel
theorem dX5_person_138 : decode cX5_person 138 = .ok (.ireturn, 1) := by decide +kernel
theorem dX5_person_139 : decode cX5_person 139 = .ok (.aload_n 0, 1) := by decide +kernel
theorem dX5_person_140 : decode cX5_person 140 = .ok (.getfield 26, 3) := by decide +kernel
theorem dX5_person_143 : decode cX5_person 143 = .ok (.getfield 164, 3) := by decide +kernel
theorem dX5_person_146 : decode cX5_person 146 = .ok (.iload_n 1, 1) := by decide +kernel
theorem dX5_person_147 : decode cX5_person 147 = .ok (.invokestatic 167, 3) := by decide +kernel
theorem dX5_person_150 : decode cX5_person 150 = .ok (.ireturn, 1) := by decide +kernel
theorem dX5_person_151 : decode cX5_person 151 = .ok (.aload_n 0, 1) := by decide +kernel
theorem dX5_person_152 : decode cX5_person 152 = .ok (.getfield 26, 3) := by decide +kernel
theorem dX5_person_155 : decode cX5_person 155 = .ok (.getfield 196, 3) := by decide +kernel
theorem dX5_person_158 : decode cX5_person 158 = .ok (.iload_n 1, 1) := by decide +kernel
theorem dX5_person_159 : decode cX5_person 159 = .ok (.invokestatic 167, 3) := by decide +kernel
theorem dX5_person_162 : decode cX5_person 162 = .ok (.ireturn, 1) := by decide +kernel
theorem dX5_person_163 : decode cX5_person 163 = .ok (.aload_n 0, 1) := by decide +kernel
theorem dX5_person_164 : decode cX5_person 164 = .ok (.getfield 26, 3) := by decide +kernel
theorem dX5_person_167 : decode cX5_person 167 = .ok (.iload_n 1, 1) := by decide +kernel
theorem dX5_person_168 : decode cX5_person 168 = .ok (.invokevirtual 199, 3) := by decide +kernel
theorem dX5_person_171 : decode cX5_person 171 = .ok (.aload_n 0, 1) := by decide +kernel
theorem dX5_person_172 : decode cX5_person 172 = .ok (.getfield 26, 3) := by decide +kernel
theorem dX5_person_175 : decode cX5_person 175 = .ok (.iload_n 1, 1) := by decide +kernel
theorem dX5_person_176 : decode cX5_person 176 = .ok (.invokevirtual 190, 3) := by decide +kernel
theorem dX5_person_179 : decode cX5_person 179 = .ok (.isub, 1) := by decide +kernel
theorem dX5_person_180 : decode cX5_person 180 = .ok (.ireturn, 1) := by decide +kernel
theorem dX5_person_181 : decode cX5_person 181 = .ok (.ldc 59, 2) := by decide +kernel
theorem dX5_person_183 : decode cX5_person 183 = .ok (.ireturn, 1) := by decide +kernel
theorem dX5_fault_0 : decode cX5_fault 0 = .ok (.aload_n 0, 1) := by decide +kernel
theorem dX5_fault_1 : decode cX5_fault 1 = .ok (.getfield 114, 3) := by decide +kernel
theorem dX5_fault_4 : decode cX5_fault 4 = .ok (.ireturn, 1) := by decide +kernel
theorem dX5_status_0 : decode cX5_status 0 = .ok (.aload_n 0, 1) := by decide +kernel
theorem dX5_status_1 : decode cX5_status 1 = .ok (.getfield 255, 3) := by decide +kernel
theorem dX5_status_4 : decode cX5_status 4 = .ok (.ireturn, 1) := by decide +kernel
section O2
variable {G : GG} {z : Nat} {σ : AH} {lf fd : Int32} {rl rn : Nat → Int32} {ri : Nat → Nat → Int32} {tp rd : Nat → Int32} {dd d df : TS} {nx kp : Nat} {da di : Nat → TS} {tr : Nat} {bo ne : Nat → Int32}
theorem x_copy_bad (a i b j n : Int32) (h : ¬ nrI a = 0 ∨ ¬ nrI b = 0) : Ct G yX5_copy cX5_copy 8 (some .int) 3 0 0 z σ [.ref 0, .int a, .int i, .int b, .int j, .int n] (some (.int (-1000001))) z σ := by
  refine Ct.ofJ RX5 rfl [some (.ref 0), some (.int a), some (.int i), some (.int b), some (.int j), some (.int n), none, none] rfl (by decide) (by simp [Value.category]) ?_
  refine j_iload_n dX5_copy_0 rfl rfl ?_
  refine j_callS (c_isNoRow a) dX5_copy_1 rfl ms_X5_55 ⟨(Nat.le_of_ble_eq_true rfl), (Nat.le_of_ble_eq_true rfl)⟩ ⟨(Nat.le_of_ble_eq_true rfl), (Nat.le_of_ble_eq_true rfl)⟩ (Nat.le_of_ble_eq_true rfl) ?_
  refine j_if_ne 14 dX5_copy_4 (by decide) (fun b4 => ?_) (fun b4 => ?_)
  · refine j_ldc (-1000001) dX5_copy_14 kc_X5_59 ?_
    exact j_iret rfl dX5_copy_16 rfl rfl (Nat.le_of_ble_eq_true rfl) (Nat.le_of_ble_eq_true rfl)
  · refine j_iload_n dX5_copy_7 rfl rfl ?_
    refine j_callS (c_isNoRow b) dX5_copy_8 rfl ms_X5_55 ⟨(Nat.le_of_ble_eq_true rfl), (Nat.le_of_ble_eq_true rfl)⟩ ⟨(Nat.le_of_ble_eq_true rfl), (Nat.le_of_ble_eq_true rfl)⟩ (Nat.le_of_ble_eq_true rfl) ?_
    refine j_if_eq 17 dX5_copy_11 (by decide) (fun b11 => ?_) (fun b11 => ?_)
    · exfalso
      rcases h with h | h
      · exact h b4
      · exact h b11
    · refine j_ldc (-1000001) dX5_copy_14 kc_X5_59 ?_
      exact j_iret rfl dX5_copy_16 rfl rfl (Nat.le_of_ble_eq_true rfl) (Nat.le_of_ble_eq_true rfl)
theorem x_copy_null (X : XR σ lf fd rl rn ri tp rd dd d df nx kp da di tr bo ne) {a b : Nat} (i j n : Int32) (ha : a < 8) (hb : b < 8) (h : rl a = -1 ∨ rl b = -1) : Ct G yX5_copy cX5_copy 8 (some .int) 3 0 0 z σ [.ref 0, .int (nI a), .int i, .int (nI b), .int j, .int n] (some (.int (-1000010 - nI 1))) z (ups σ 0 (xO lf (nI 1))) := by
  refine Ct.ofJ RX5 rfl [some (.ref 0), some (.int (nI a)), some (.int i), some (.int (nI b)), some (.int j), some (.int n), none, none] rfl (by decide) (by simp [Value.category]) ?_
  refine j_iload_n dX5_copy_0 rfl rfl ?_
  refine j_callS (c_isNoRow (nI a)) dX5_copy_1 rfl ms_X5_55 ⟨(Nat.le_of_ble_eq_true rfl), (Nat.le_of_ble_eq_true rfl)⟩ ⟨(Nat.le_of_ble_eq_true rfl), (Nat.le_of_ble_eq_true rfl)⟩ (Nat.le_of_ble_eq_true rfl) ?_
  refine j_top (nI 0) (nrI_k ha) ?_
  refine j_if_ne 14 dX5_copy_4 (by decide) (fun h => absurd rfl h) (fun _ => ?_)
  refine j_iload_n dX5_copy_7 rfl rfl ?_
  refine j_callS (c_isNoRow (nI b)) dX5_copy_8 rfl ms_X5_55 ⟨(Nat.le_of_ble_eq_true rfl), (Nat.le_of_ble_eq_true rfl)⟩ ⟨(Nat.le_of_ble_eq_true rfl), (Nat.le_of_ble_eq_true rfl)⟩ (Nat.le_of_ble_eq_true rfl) ?_
  refine j_top (nI 0) (nrI_k hb) ?_
  refine j_if_eq 17 dX5_copy_11 (by decide) (fun _ => ?_) (fun h => absurd rfl h)
  refine j_aload_n dX5_copy_17 rfl rfl ?_
  refine j_getf dX5_copy_18 5 0 rfl (Nat.le_of_ble_eq_true rfl) fl_X5_11 in_5 (by first | exact X.1 | exact X.2.1 | exact X.2.2.2.1 | exact X.2.2.2.2.1 | exact X.2.2.2.2.2.2.1.o | exact X.2.2.2.2.2.2.1.c | exact X.2.2.2.2.2.2.1.i | exact X.2.2.2.2.2.2.1.p | exact X.2.2.2.2.2.2.1.d | exact X.2.2.2.2.2.2.2.1.o | exact X.2.2.2.2.2.2.2.2.1 | exact X.2.2.2.2.2.2.2.2.2.1 | exact X.2.2.2.2.2.2.2.2.2.2.2.1 | exact X.2.2.2.2.2.2.2.2.2.2.2.2.2.1 | exact X.2.2.2.2.2.2.2.2.2.2.2.2.2.2.1 | exact X.2.2.2.2.2.2.2.2.2.2.2.2.2.2.2) rfl ?_
  refine j_iload_n dX5_copy_21 rfl rfl ?_
  refine j_aaldL 3 8 2 2 dX5_copy_22 (by first | exact X.1 | exact X.2.1 | exact X.2.2.2.1 | exact X.2.2.2.2.1 | exact X.2.2.2.2.2.2.1.o | exact X.2.2.2.2.2.2.1.c | exact X.2.2.2.2.2.2.1.i | exact X.2.2.2.2.2.2.1.p | exact X.2.2.2.2.2.2.1.d | exact X.2.2.2.2.2.2.2.1.o | exact X.2.2.2.2.2.2.2.2.1 | exact X.2.2.2.2.2.2.2.2.2.1 | exact X.2.2.2.2.2.2.2.2.2.2.2.1 | exact X.2.2.2.2.2.2.2.2.2.2.2.2.2.1 | exact X.2.2.2.2.2.2.2.2.2.2.2.2.2.2.1 | exact X.2.2.2.2.2.2.2.2.2.2.2.2.2.2.2) (by decide) rfl ha (by decide) ?_
  refine j_astore dX5_copy_23 (Nat.le_of_ble_eq_true rfl) rfl ?_
  refine j_aload_n dX5_copy_25 rfl rfl ?_
  refine j_getf dX5_copy_26 5 0 rfl (Nat.le_of_ble_eq_true rfl) fl_X5_11 in_5 (by first | exact X.1 | exact X.2.1 | exact X.2.2.2.1 | exact X.2.2.2.2.1 | exact X.2.2.2.2.2.2.1.o | exact X.2.2.2.2.2.2.1.c | exact X.2.2.2.2.2.2.1.i | exact X.2.2.2.2.2.2.1.p | exact X.2.2.2.2.2.2.1.d | exact X.2.2.2.2.2.2.2.1.o | exact X.2.2.2.2.2.2.2.2.1 | exact X.2.2.2.2.2.2.2.2.2.1 | exact X.2.2.2.2.2.2.2.2.2.2.2.1 | exact X.2.2.2.2.2.2.2.2.2.2.2.2.2.1 | exact X.2.2.2.2.2.2.2.2.2.2.2.2.2.2.1 | exact X.2.2.2.2.2.2.2.2.2.2.2.2.2.2.2) rfl ?_
  refine j_iload_n dX5_copy_29 rfl rfl ?_
  refine j_aaldL 3 8 2 2 dX5_copy_30 (by first | exact X.1 | exact X.2.1 | exact X.2.2.2.1 | exact X.2.2.2.2.1 | exact X.2.2.2.2.2.2.1.o | exact X.2.2.2.2.2.2.1.c | exact X.2.2.2.2.2.2.1.i | exact X.2.2.2.2.2.2.1.p | exact X.2.2.2.2.2.2.1.d | exact X.2.2.2.2.2.2.2.1.o | exact X.2.2.2.2.2.2.2.2.1 | exact X.2.2.2.2.2.2.2.2.2.1 | exact X.2.2.2.2.2.2.2.2.2.2.2.1 | exact X.2.2.2.2.2.2.2.2.2.2.2.2.2.1 | exact X.2.2.2.2.2.2.2.2.2.2.2.2.2.2.1 | exact X.2.2.2.2.2.2.2.2.2.2.2.2.2.2.2) (by decide) rfl hb (by decide) ?_
  refine j_astore dX5_copy_31 (Nat.le_of_ble_eq_true rfl) rfl ?_
  refine j_aload dX5_copy_33 rfl ?_
  refine j_callV (c_isMissingR (X.2.2.1 a ha)) dX5_copy_35 rfl mv_X5_71 (X.2.2.1 a ha).o rfl ⟨(Nat.le_of_ble_eq_true rfl), (Nat.le_of_ble_eq_true rfl)⟩ ⟨(Nat.le_of_ble_eq_true rfl), (Nat.le_of_ble_eq_true rfl)⟩ (Nat.le_of_ble_eq_true rfl) ?_
  refine j_if_ne 49 dX5_copy_38 (by decide) (fun b38 => ?_) (fun b38 => ?_)
  · refine j_aload_n dX5_copy_49 rfl rfl ?_
    refine j_iconst (nI 1) dX5_copy_50 rfl ?_
    refine j_callV (c_found X (nI 1)) dX5_copy_51 rfl mv_X5_60 (by first | exact X.1 | exact X.2.1 | exact X.2.2.2.1 | exact X.2.2.2.2.1 | exact X.2.2.2.2.2.2.1.o | exact X.2.2.2.2.2.2.1.c | exact X.2.2.2.2.2.2.1.i | exact X.2.2.2.2.2.2.1.p | exact X.2.2.2.2.2.2.1.d | exact X.2.2.2.2.2.2.2.1.o | exact X.2.2.2.2.2.2.2.2.1 | exact X.2.2.2.2.2.2.2.2.2.1 | exact X.2.2.2.2.2.2.2.2.2.2.2.1 | exact X.2.2.2.2.2.2.2.2.2.2.2.2.2.1 | exact X.2.2.2.2.2.2.2.2.2.2.2.2.2.2.1 | exact X.2.2.2.2.2.2.2.2.2.2.2.2.2.2.2) rfl ⟨(Nat.le_of_ble_eq_true rfl), (Nat.le_of_ble_eq_true rfl)⟩ ⟨(Nat.le_of_ble_eq_true rfl), (Nat.le_of_ble_eq_true rfl)⟩ (Nat.le_of_ble_eq_true rfl) ?_
    exact j_iret rfl dX5_copy_54 rfl rfl (Nat.le_of_ble_eq_true rfl) (Nat.le_of_ble_eq_true rfl)
  · refine j_aload dX5_copy_41 rfl ?_
    refine j_callV (c_isMissingR (X.2.2.1 b hb)) dX5_copy_43 rfl mv_X5_71 (X.2.2.1 b hb).o rfl ⟨(Nat.le_of_ble_eq_true rfl), (Nat.le_of_ble_eq_true rfl)⟩ ⟨(Nat.le_of_ble_eq_true rfl), (Nat.le_of_ble_eq_true rfl)⟩ (Nat.le_of_ble_eq_true rfl) ?_
    refine j_if_eq 55 dX5_copy_46 (by decide) (fun b46 => ?_) (fun b46 => ?_)
    · exfalso
      rcases h with h | h
      · rw [if_pos h] at b38; exact absurd b38 (by decide)
      · rw [if_pos h] at b46; exact absurd b46 (by decide)
    · refine j_aload_n dX5_copy_49 rfl rfl ?_
      refine j_iconst (nI 1) dX5_copy_50 rfl ?_
      refine j_callV (c_found X (nI 1)) dX5_copy_51 rfl mv_X5_60 (by first | exact X.1 | exact X.2.1 | exact X.2.2.2.1 | exact X.2.2.2.2.1 | exact X.2.2.2.2.2.2.1.o | exact X.2.2.2.2.2.2.1.c | exact X.2.2.2.2.2.2.1.i | exact X.2.2.2.2.2.2.1.p | exact X.2.2.2.2.2.2.1.d | exact X.2.2.2.2.2.2.2.1.o | exact X.2.2.2.2.2.2.2.2.1 | exact X.2.2.2.2.2.2.2.2.2.1 | exact X.2.2.2.2.2.2.2.2.2.2.2.1 | exact X.2.2.2.2.2.2.2.2.2.2.2.2.2.1 | exact X.2.2.2.2.2.2.2.2.2.2.2.2.2.2.1 | exact X.2.2.2.2.2.2.2.2.2.2.2.2.2.2.2) rfl ⟨(Nat.le_of_ble_eq_true rfl), (Nat.le_of_ble_eq_true rfl)⟩ ⟨(Nat.le_of_ble_eq_true rfl), (Nat.le_of_ble_eq_true rfl)⟩ (Nat.le_of_ble_eq_true rfl) ?_
      exact j_iret rfl dX5_copy_54 rfl rfl (Nat.le_of_ble_eq_true rfl) (Nat.le_of_ble_eq_true rfl)
theorem x_copy_store (X : XR σ lf fd rl rn ri tp rd dd d df nx kp da di tr bo ne) {a b : Nat} (i j n : Int32) (ha : a < 8) (hb : b < 8) (h1 : ¬ rl a = -1) (h2 : ¬ rl b = -1) (h : ¬ rl a = rl b) : Ct G yX5_copy cX5_copy 8 (some .int) 3 0 0 z σ [.ref 0, .int (nI a), .int i, .int (nI b), .int j, .int n] (some (.int (-1000010 - nI 5))) z (ups σ 0 (xO lf (nI 5))) := by
  refine Ct.ofJ RX5 rfl [some (.ref 0), some (.int (nI a)), some (.int i), some (.int (nI b)), some (.int j), some (.int n), none, none] rfl (by decide) (by simp [Value.category]) ?_
  refine j_iload_n dX5_copy_0 rfl rfl ?_
  refine j_callS (c_isNoRow (nI a)) dX5_copy_1 rfl ms_X5_55 ⟨(Nat.le_of_ble_eq_true rfl), (Nat.le_of_ble_eq_true rfl)⟩ ⟨(Nat.le_of_ble_eq_true rfl), (Nat.le_of_ble_eq_true rfl)⟩ (Nat.le_of_ble_eq_true rfl) ?_
  refine j_top (nI 0) (nrI_k ha) ?_
  refine j_if_ne 14 dX5_copy_4 (by decide) (fun h => absurd rfl h) (fun _ => ?_)
  refine j_iload_n dX5_copy_7 rfl rfl ?_
  refine j_callS (c_isNoRow (nI b)) dX5_copy_8 rfl ms_X5_55 ⟨(Nat.le_of_ble_eq_true rfl), (Nat.le_of_ble_eq_true rfl)⟩ ⟨(Nat.le_of_ble_eq_true rfl), (Nat.le_of_ble_eq_true rfl)⟩ (Nat.le_of_ble_eq_true rfl) ?_
  refine j_top (nI 0) (nrI_k hb) ?_
  refine j_if_eq 17 dX5_copy_11 (by decide) (fun _ => ?_) (fun h => absurd rfl h)
  refine j_aload_n dX5_copy_17 rfl rfl ?_
  refine j_getf dX5_copy_18 5 0 rfl (Nat.le_of_ble_eq_true rfl) fl_X5_11 in_5 (by first | exact X.1 | exact X.2.1 | exact X.2.2.2.1 | exact X.2.2.2.2.1 | exact X.2.2.2.2.2.2.1.o | exact X.2.2.2.2.2.2.1.c | exact X.2.2.2.2.2.2.1.i | exact X.2.2.2.2.2.2.1.p | exact X.2.2.2.2.2.2.1.d | exact X.2.2.2.2.2.2.2.1.o | exact X.2.2.2.2.2.2.2.2.1 | exact X.2.2.2.2.2.2.2.2.2.1 | exact X.2.2.2.2.2.2.2.2.2.2.2.1 | exact X.2.2.2.2.2.2.2.2.2.2.2.2.2.1 | exact X.2.2.2.2.2.2.2.2.2.2.2.2.2.2.1 | exact X.2.2.2.2.2.2.2.2.2.2.2.2.2.2.2) rfl ?_
  refine j_iload_n dX5_copy_21 rfl rfl ?_
  refine j_aaldL 3 8 2 2 dX5_copy_22 (by first | exact X.1 | exact X.2.1 | exact X.2.2.2.1 | exact X.2.2.2.2.1 | exact X.2.2.2.2.2.2.1.o | exact X.2.2.2.2.2.2.1.c | exact X.2.2.2.2.2.2.1.i | exact X.2.2.2.2.2.2.1.p | exact X.2.2.2.2.2.2.1.d | exact X.2.2.2.2.2.2.2.1.o | exact X.2.2.2.2.2.2.2.2.1 | exact X.2.2.2.2.2.2.2.2.2.1 | exact X.2.2.2.2.2.2.2.2.2.2.2.1 | exact X.2.2.2.2.2.2.2.2.2.2.2.2.2.1 | exact X.2.2.2.2.2.2.2.2.2.2.2.2.2.2.1 | exact X.2.2.2.2.2.2.2.2.2.2.2.2.2.2.2) (by decide) rfl ha (by decide) ?_
  refine j_astore dX5_copy_23 (Nat.le_of_ble_eq_true rfl) rfl ?_
  refine j_aload_n dX5_copy_25 rfl rfl ?_
  refine j_getf dX5_copy_26 5 0 rfl (Nat.le_of_ble_eq_true rfl) fl_X5_11 in_5 (by first | exact X.1 | exact X.2.1 | exact X.2.2.2.1 | exact X.2.2.2.2.1 | exact X.2.2.2.2.2.2.1.o | exact X.2.2.2.2.2.2.1.c | exact X.2.2.2.2.2.2.1.i | exact X.2.2.2.2.2.2.1.p | exact X.2.2.2.2.2.2.1.d | exact X.2.2.2.2.2.2.2.1.o | exact X.2.2.2.2.2.2.2.2.1 | exact X.2.2.2.2.2.2.2.2.2.1 | exact X.2.2.2.2.2.2.2.2.2.2.2.1 | exact X.2.2.2.2.2.2.2.2.2.2.2.2.2.1 | exact X.2.2.2.2.2.2.2.2.2.2.2.2.2.2.1 | exact X.2.2.2.2.2.2.2.2.2.2.2.2.2.2.2) rfl ?_
  refine j_iload_n dX5_copy_29 rfl rfl ?_
  refine j_aaldL 3 8 2 2 dX5_copy_30 (by first | exact X.1 | exact X.2.1 | exact X.2.2.2.1 | exact X.2.2.2.2.1 | exact X.2.2.2.2.2.2.1.o | exact X.2.2.2.2.2.2.1.c | exact X.2.2.2.2.2.2.1.i | exact X.2.2.2.2.2.2.1.p | exact X.2.2.2.2.2.2.1.d | exact X.2.2.2.2.2.2.2.1.o | exact X.2.2.2.2.2.2.2.2.1 | exact X.2.2.2.2.2.2.2.2.2.1 | exact X.2.2.2.2.2.2.2.2.2.2.2.1 | exact X.2.2.2.2.2.2.2.2.2.2.2.2.2.1 | exact X.2.2.2.2.2.2.2.2.2.2.2.2.2.2.1 | exact X.2.2.2.2.2.2.2.2.2.2.2.2.2.2.2) (by decide) rfl hb (by decide) ?_
  refine j_astore dX5_copy_31 (Nat.le_of_ble_eq_true rfl) rfl ?_
  refine j_aload dX5_copy_33 rfl ?_
  refine j_callV (c_isMissingR (X.2.2.1 a ha)) dX5_copy_35 rfl mv_X5_71 (X.2.2.1 a ha).o rfl ⟨(Nat.le_of_ble_eq_true rfl), (Nat.le_of_ble_eq_true rfl)⟩ ⟨(Nat.le_of_ble_eq_true rfl), (Nat.le_of_ble_eq_true rfl)⟩ (Nat.le_of_ble_eq_true rfl) ?_
  refine j_top (nI 0) (if_neg h1) ?_
  refine j_if_ne 49 dX5_copy_38 (by decide) (fun h => absurd rfl h) (fun _ => ?_)
  refine j_aload dX5_copy_41 rfl ?_
  refine j_callV (c_isMissingR (X.2.2.1 b hb)) dX5_copy_43 rfl mv_X5_71 (X.2.2.1 b hb).o rfl ⟨(Nat.le_of_ble_eq_true rfl), (Nat.le_of_ble_eq_true rfl)⟩ ⟨(Nat.le_of_ble_eq_true rfl), (Nat.le_of_ble_eq_true rfl)⟩ (Nat.le_of_ble_eq_true rfl) ?_
  refine j_top (nI 0) (if_neg h2) ?_
  refine j_if_eq 55 dX5_copy_46 (by decide) (fun _ => ?_) (fun h => absurd rfl h)
  refine j_aload dX5_copy_55 rfl ?_
  refine j_getf dX5_copy_57 3 1 rfl (Nat.le_of_ble_eq_true rfl) fl_X5_83 in_3 (X.2.2.1 a ha).o rfl ?_
  refine j_aload dX5_copy_60 rfl ?_
  refine j_getf dX5_copy_62 3 1 rfl (Nat.le_of_ble_eq_true rfl) fl_X5_83 in_3 (X.2.2.1 b hb).o rfl ?_
  refine j_icmp_eq 74 dX5_copy_65 (by decide) (fun b65 => ?_) (fun b65 => ?_)
  · exact absurd b65 h
  · refine j_aload_n dX5_copy_68 rfl rfl ?_
    refine j_iconst (nI 5) dX5_copy_69 rfl ?_
    refine j_callV (c_found X (nI 5)) dX5_copy_70 rfl mv_X5_60 (by first | exact X.1 | exact X.2.1 | exact X.2.2.2.1 | exact X.2.2.2.2.1 | exact X.2.2.2.2.2.2.1.o | exact X.2.2.2.2.2.2.1.c | exact X.2.2.2.2.2.2.1.i | exact X.2.2.2.2.2.2.1.p | exact X.2.2.2.2.2.2.1.d | exact X.2.2.2.2.2.2.2.1.o | exact X.2.2.2.2.2.2.2.2.1 | exact X.2.2.2.2.2.2.2.2.2.1 | exact X.2.2.2.2.2.2.2.2.2.2.2.1 | exact X.2.2.2.2.2.2.2.2.2.2.2.2.2.1 | exact X.2.2.2.2.2.2.2.2.2.2.2.2.2.2.1 | exact X.2.2.2.2.2.2.2.2.2.2.2.2.2.2.2) rfl ⟨(Nat.le_of_ble_eq_true rfl), (Nat.le_of_ble_eq_true rfl)⟩ ⟨(Nat.le_of_ble_eq_true rfl), (Nat.le_of_ble_eq_true rfl)⟩ (Nat.le_of_ble_eq_true rfl) ?_
    exact j_iret rfl dX5_copy_73 rfl rfl (Nat.le_of_ble_eq_true rfl) (Nat.le_of_ble_eq_true rfl)
theorem x_copy_place (X : XR σ lf fd rl rn ri tp rd dd d df nx kp da di tr bo ne) {a b : Nat} (i j n : Int32) (ha : a < 8) (hb : b < 8) (h1 : ¬ rl a = -1) (h2 : ¬ rl b = -1) (h : rl a = rl b) (hr : rngI i n (rn a) = nI 0 ∨ rngI j n (rn b) = nI 0) : Ct G yX5_copy cX5_copy 8 (some .int) 3 0 0 z σ [.ref 0, .int (nI a), .int i, .int (nI b), .int j, .int n] (some (.int (-1000010 - nI 2))) z (ups σ 0 (xO lf (nI 2))) := by
  refine Ct.ofJ RX5 rfl [some (.ref 0), some (.int (nI a)), some (.int i), some (.int (nI b)), some (.int j), some (.int n), none, none] rfl (by decide) (by simp [Value.category]) ?_
  refine j_iload_n dX5_copy_0 rfl rfl ?_
  refine j_callS (c_isNoRow (nI a)) dX5_copy_1 rfl ms_X5_55 ⟨(Nat.le_of_ble_eq_true rfl), (Nat.le_of_ble_eq_true rfl)⟩ ⟨(Nat.le_of_ble_eq_true rfl), (Nat.le_of_ble_eq_true rfl)⟩ (Nat.le_of_ble_eq_true rfl) ?_
  refine j_top (nI 0) (nrI_k ha) ?_
  refine j_if_ne 14 dX5_copy_4 (by decide) (fun h => absurd rfl h) (fun _ => ?_)
  refine j_iload_n dX5_copy_7 rfl rfl ?_
  refine j_callS (c_isNoRow (nI b)) dX5_copy_8 rfl ms_X5_55 ⟨(Nat.le_of_ble_eq_true rfl), (Nat.le_of_ble_eq_true rfl)⟩ ⟨(Nat.le_of_ble_eq_true rfl), (Nat.le_of_ble_eq_true rfl)⟩ (Nat.le_of_ble_eq_true rfl) ?_
  refine j_top (nI 0) (nrI_k hb) ?_
  refine j_if_eq 17 dX5_copy_11 (by decide) (fun _ => ?_) (fun h => absurd rfl h)
  refine j_aload_n dX5_copy_17 rfl rfl ?_
  refine j_getf dX5_copy_18 5 0 rfl (Nat.le_of_ble_eq_true rfl) fl_X5_11 in_5 (by first | exact X.1 | exact X.2.1 | exact X.2.2.2.1 | exact X.2.2.2.2.1 | exact X.2.2.2.2.2.2.1.o | exact X.2.2.2.2.2.2.1.c | exact X.2.2.2.2.2.2.1.i | exact X.2.2.2.2.2.2.1.p | exact X.2.2.2.2.2.2.1.d | exact X.2.2.2.2.2.2.2.1.o | exact X.2.2.2.2.2.2.2.2.1 | exact X.2.2.2.2.2.2.2.2.2.1 | exact X.2.2.2.2.2.2.2.2.2.2.2.1 | exact X.2.2.2.2.2.2.2.2.2.2.2.2.2.1 | exact X.2.2.2.2.2.2.2.2.2.2.2.2.2.2.1 | exact X.2.2.2.2.2.2.2.2.2.2.2.2.2.2.2) rfl ?_
  refine j_iload_n dX5_copy_21 rfl rfl ?_
  refine j_aaldL 3 8 2 2 dX5_copy_22 (by first | exact X.1 | exact X.2.1 | exact X.2.2.2.1 | exact X.2.2.2.2.1 | exact X.2.2.2.2.2.2.1.o | exact X.2.2.2.2.2.2.1.c | exact X.2.2.2.2.2.2.1.i | exact X.2.2.2.2.2.2.1.p | exact X.2.2.2.2.2.2.1.d | exact X.2.2.2.2.2.2.2.1.o | exact X.2.2.2.2.2.2.2.2.1 | exact X.2.2.2.2.2.2.2.2.2.1 | exact X.2.2.2.2.2.2.2.2.2.2.2.1 | exact X.2.2.2.2.2.2.2.2.2.2.2.2.2.1 | exact X.2.2.2.2.2.2.2.2.2.2.2.2.2.2.1 | exact X.2.2.2.2.2.2.2.2.2.2.2.2.2.2.2) (by decide) rfl ha (by decide) ?_
  refine j_astore dX5_copy_23 (Nat.le_of_ble_eq_true rfl) rfl ?_
  refine j_aload_n dX5_copy_25 rfl rfl ?_
  refine j_getf dX5_copy_26 5 0 rfl (Nat.le_of_ble_eq_true rfl) fl_X5_11 in_5 (by first | exact X.1 | exact X.2.1 | exact X.2.2.2.1 | exact X.2.2.2.2.1 | exact X.2.2.2.2.2.2.1.o | exact X.2.2.2.2.2.2.1.c | exact X.2.2.2.2.2.2.1.i | exact X.2.2.2.2.2.2.1.p | exact X.2.2.2.2.2.2.1.d | exact X.2.2.2.2.2.2.2.1.o | exact X.2.2.2.2.2.2.2.2.1 | exact X.2.2.2.2.2.2.2.2.2.1 | exact X.2.2.2.2.2.2.2.2.2.2.2.1 | exact X.2.2.2.2.2.2.2.2.2.2.2.2.2.1 | exact X.2.2.2.2.2.2.2.2.2.2.2.2.2.2.1 | exact X.2.2.2.2.2.2.2.2.2.2.2.2.2.2.2) rfl ?_
  refine j_iload_n dX5_copy_29 rfl rfl ?_
  refine j_aaldL 3 8 2 2 dX5_copy_30 (by first | exact X.1 | exact X.2.1 | exact X.2.2.2.1 | exact X.2.2.2.2.1 | exact X.2.2.2.2.2.2.1.o | exact X.2.2.2.2.2.2.1.c | exact X.2.2.2.2.2.2.1.i | exact X.2.2.2.2.2.2.1.p | exact X.2.2.2.2.2.2.1.d | exact X.2.2.2.2.2.2.2.1.o | exact X.2.2.2.2.2.2.2.2.1 | exact X.2.2.2.2.2.2.2.2.2.1 | exact X.2.2.2.2.2.2.2.2.2.2.2.1 | exact X.2.2.2.2.2.2.2.2.2.2.2.2.2.1 | exact X.2.2.2.2.2.2.2.2.2.2.2.2.2.2.1 | exact X.2.2.2.2.2.2.2.2.2.2.2.2.2.2.2) (by decide) rfl hb (by decide) ?_
  refine j_astore dX5_copy_31 (Nat.le_of_ble_eq_true rfl) rfl ?_
  refine j_aload dX5_copy_33 rfl ?_
  refine j_callV (c_isMissingR (X.2.2.1 a ha)) dX5_copy_35 rfl mv_X5_71 (X.2.2.1 a ha).o rfl ⟨(Nat.le_of_ble_eq_true rfl), (Nat.le_of_ble_eq_true rfl)⟩ ⟨(Nat.le_of_ble_eq_true rfl), (Nat.le_of_ble_eq_true rfl)⟩ (Nat.le_of_ble_eq_true rfl) ?_
  refine j_top (nI 0) (if_neg h1) ?_
  refine j_if_ne 49 dX5_copy_38 (by decide) (fun h => absurd rfl h) (fun _ => ?_)
  refine j_aload dX5_copy_41 rfl ?_
  refine j_callV (c_isMissingR (X.2.2.1 b hb)) dX5_copy_43 rfl mv_X5_71 (X.2.2.1 b hb).o rfl ⟨(Nat.le_of_ble_eq_true rfl), (Nat.le_of_ble_eq_true rfl)⟩ ⟨(Nat.le_of_ble_eq_true rfl), (Nat.le_of_ble_eq_true rfl)⟩ (Nat.le_of_ble_eq_true rfl) ?_
  refine j_top (nI 0) (if_neg h2) ?_
  refine j_if_eq 55 dX5_copy_46 (by decide) (fun _ => ?_) (fun h => absurd rfl h)
  refine j_aload dX5_copy_55 rfl ?_
  refine j_getf dX5_copy_57 3 1 rfl (Nat.le_of_ble_eq_true rfl) fl_X5_83 in_3 (X.2.2.1 a ha).o rfl ?_
  refine j_aload dX5_copy_60 rfl ?_
  refine j_getf dX5_copy_62 3 1 rfl (Nat.le_of_ble_eq_true rfl) fl_X5_83 in_3 (X.2.2.1 b hb).o rfl ?_
  refine j_icmp_eq 74 dX5_copy_65 (by decide) (fun b65 => ?_) (fun b65 => ?_)
  · refine j_aload dX5_copy_74 rfl ?_
    refine j_iload_n dX5_copy_76 rfl rfl ?_
    refine j_iload dX5_copy_77 rfl ?_
    refine j_callV (c_hasRangeR (X.2.2.1 a ha) i n) dX5_copy_79 rfl mv_X5_75 (X.2.2.1 a ha).o rfl ⟨(Nat.le_of_ble_eq_true rfl), (Nat.le_of_ble_eq_true rfl)⟩ ⟨(Nat.le_of_ble_eq_true rfl), (Nat.le_of_ble_eq_true rfl)⟩ (Nat.le_of_ble_eq_true rfl) ?_
    refine j_if_eq 97 dX5_copy_82 (by decide) (fun b82 => ?_) (fun b82 => ?_)
    · refine j_aload_n dX5_copy_97 rfl rfl ?_
      refine j_iconst (nI 2) dX5_copy_98 rfl ?_
      refine j_callV (c_found X (nI 2)) dX5_copy_99 rfl mv_X5_60 (by first | exact X.1 | exact X.2.1 | exact X.2.2.2.1 | exact X.2.2.2.2.1 | exact X.2.2.2.2.2.2.1.o | exact X.2.2.2.2.2.2.1.c | exact X.2.2.2.2.2.2.1.i | exact X.2.2.2.2.2.2.1.p | exact X.2.2.2.2.2.2.1.d | exact X.2.2.2.2.2.2.2.1.o | exact X.2.2.2.2.2.2.2.2.1 | exact X.2.2.2.2.2.2.2.2.2.1 | exact X.2.2.2.2.2.2.2.2.2.2.2.1 | exact X.2.2.2.2.2.2.2.2.2.2.2.2.2.1 | exact X.2.2.2.2.2.2.2.2.2.2.2.2.2.2.1 | exact X.2.2.2.2.2.2.2.2.2.2.2.2.2.2.2) rfl ⟨(Nat.le_of_ble_eq_true rfl), (Nat.le_of_ble_eq_true rfl)⟩ ⟨(Nat.le_of_ble_eq_true rfl), (Nat.le_of_ble_eq_true rfl)⟩ (Nat.le_of_ble_eq_true rfl) ?_
      exact j_iret rfl dX5_copy_102 rfl rfl (Nat.le_of_ble_eq_true rfl) (Nat.le_of_ble_eq_true rfl)
    · refine j_aload dX5_copy_85 rfl ?_
      refine j_iload dX5_copy_87 rfl ?_
      refine j_iload dX5_copy_89 rfl ?_
      refine j_callV (c_hasRangeR (X.2.2.1 b hb) j n) dX5_copy_91 rfl mv_X5_75 (X.2.2.1 b hb).o rfl ⟨(Nat.le_of_ble_eq_true rfl), (Nat.le_of_ble_eq_true rfl)⟩ ⟨(Nat.le_of_ble_eq_true rfl), (Nat.le_of_ble_eq_true rfl)⟩ (Nat.le_of_ble_eq_true rfl) ?_
      refine j_if_ne 103 dX5_copy_94 (by decide) (fun b94 => ?_) (fun b94 => ?_)
      · exfalso
        rcases hr with hr | hr
        · exact b82 hr
        · exact b94 hr
      · refine j_aload_n dX5_copy_97 rfl rfl ?_
        refine j_iconst (nI 2) dX5_copy_98 rfl ?_
        refine j_callV (c_found X (nI 2)) dX5_copy_99 rfl mv_X5_60 (by first | exact X.1 | exact X.2.1 | exact X.2.2.2.1 | exact X.2.2.2.2.1 | exact X.2.2.2.2.2.2.1.o | exact X.2.2.2.2.2.2.1.c | exact X.2.2.2.2.2.2.1.i | exact X.2.2.2.2.2.2.1.p | exact X.2.2.2.2.2.2.1.d | exact X.2.2.2.2.2.2.2.1.o | exact X.2.2.2.2.2.2.2.2.1 | exact X.2.2.2.2.2.2.2.2.2.1 | exact X.2.2.2.2.2.2.2.2.2.2.2.1 | exact X.2.2.2.2.2.2.2.2.2.2.2.2.2.1 | exact X.2.2.2.2.2.2.2.2.2.2.2.2.2.2.1 | exact X.2.2.2.2.2.2.2.2.2.2.2.2.2.2.2) rfl ⟨(Nat.le_of_ble_eq_true rfl), (Nat.le_of_ble_eq_true rfl)⟩ ⟨(Nat.le_of_ble_eq_true rfl), (Nat.le_of_ble_eq_true rfl)⟩ (Nat.le_of_ble_eq_true rfl) ?_
        exact j_iret rfl dX5_copy_102 rfl rfl (Nat.le_of_ble_eq_true rfl) (Nat.le_of_ble_eq_true rfl)
  · exact absurd h b65
theorem x_copy_ok (X : XR σ lf fd rl rn ri tp rd dd d df nx kp da di tr bo ne) {a b i j n : Nat} (ha : a < 8) (hb : b < 8) (h1 : ¬ rl a = -1) (h2 : ¬ rl b = -1) (h : rl a = rl b) (hr1 : rngI (nI i) (nI n) (rn a) = nI 1) (hr2 : rngI (nI j) (nI n) (rn b) = nI 1) (hi : i + n ≤ 40) (hj : j + n ≤ 40) : Ct G yX5_copy cX5_copy 8 (some .int) 3 0 0 z σ [.ref 0, .int (nI a), .int (nI i), .int (nI b), .int (nI j), .int (nI n)] (some (.int (nI n))) z (ups (rw' σ (2 + 2 * b) (va_cpy (ri a) (ri b) i j n) (rl b) (rn b)) 0 (xO lf (nI 0))) := by
  refine Ct.ofJ RX5 rfl [some (.ref 0), some (.int (nI a)), some (.int (nI i)), some (.int (nI b)), some (.int (nI j)), some (.int (nI n)), none, none] rfl (by decide) (by simp [Value.category]) ?_
  refine j_iload_n dX5_copy_0 rfl rfl ?_
  refine j_callS (c_isNoRow (nI a)) dX5_copy_1 rfl ms_X5_55 ⟨(Nat.le_of_ble_eq_true rfl), (Nat.le_of_ble_eq_true rfl)⟩ ⟨(Nat.le_of_ble_eq_true rfl), (Nat.le_of_ble_eq_true rfl)⟩ (Nat.le_of_ble_eq_true rfl) ?_
  refine j_top (nI 0) (nrI_k ha) ?_
  refine j_if_ne 14 dX5_copy_4 (by decide) (fun h => absurd rfl h) (fun _ => ?_)
  refine j_iload_n dX5_copy_7 rfl rfl ?_
  refine j_callS (c_isNoRow (nI b)) dX5_copy_8 rfl ms_X5_55 ⟨(Nat.le_of_ble_eq_true rfl), (Nat.le_of_ble_eq_true rfl)⟩ ⟨(Nat.le_of_ble_eq_true rfl), (Nat.le_of_ble_eq_true rfl)⟩ (Nat.le_of_ble_eq_true rfl) ?_
  refine j_top (nI 0) (nrI_k hb) ?_
  refine j_if_eq 17 dX5_copy_11 (by decide) (fun _ => ?_) (fun h => absurd rfl h)
  refine j_aload_n dX5_copy_17 rfl rfl ?_
  refine j_getf dX5_copy_18 5 0 rfl (Nat.le_of_ble_eq_true rfl) fl_X5_11 in_5 (by first | exact X.1 | exact X.2.1 | exact X.2.2.2.1 | exact X.2.2.2.2.1 | exact X.2.2.2.2.2.2.1.o | exact X.2.2.2.2.2.2.1.c | exact X.2.2.2.2.2.2.1.i | exact X.2.2.2.2.2.2.1.p | exact X.2.2.2.2.2.2.1.d | exact X.2.2.2.2.2.2.2.1.o | exact X.2.2.2.2.2.2.2.2.1 | exact X.2.2.2.2.2.2.2.2.2.1 | exact X.2.2.2.2.2.2.2.2.2.2.2.1 | exact X.2.2.2.2.2.2.2.2.2.2.2.2.2.1 | exact X.2.2.2.2.2.2.2.2.2.2.2.2.2.2.1 | exact X.2.2.2.2.2.2.2.2.2.2.2.2.2.2.2) rfl ?_
  refine j_iload_n dX5_copy_21 rfl rfl ?_
  refine j_aaldL 3 8 2 2 dX5_copy_22 (by first | exact X.1 | exact X.2.1 | exact X.2.2.2.1 | exact X.2.2.2.2.1 | exact X.2.2.2.2.2.2.1.o | exact X.2.2.2.2.2.2.1.c | exact X.2.2.2.2.2.2.1.i | exact X.2.2.2.2.2.2.1.p | exact X.2.2.2.2.2.2.1.d | exact X.2.2.2.2.2.2.2.1.o | exact X.2.2.2.2.2.2.2.2.1 | exact X.2.2.2.2.2.2.2.2.2.1 | exact X.2.2.2.2.2.2.2.2.2.2.2.1 | exact X.2.2.2.2.2.2.2.2.2.2.2.2.2.1 | exact X.2.2.2.2.2.2.2.2.2.2.2.2.2.2.1 | exact X.2.2.2.2.2.2.2.2.2.2.2.2.2.2.2) (by decide) rfl ha (by decide) ?_
  refine j_astore dX5_copy_23 (Nat.le_of_ble_eq_true rfl) rfl ?_
  refine j_aload_n dX5_copy_25 rfl rfl ?_
  refine j_getf dX5_copy_26 5 0 rfl (Nat.le_of_ble_eq_true rfl) fl_X5_11 in_5 (by first | exact X.1 | exact X.2.1 | exact X.2.2.2.1 | exact X.2.2.2.2.1 | exact X.2.2.2.2.2.2.1.o | exact X.2.2.2.2.2.2.1.c | exact X.2.2.2.2.2.2.1.i | exact X.2.2.2.2.2.2.1.p | exact X.2.2.2.2.2.2.1.d | exact X.2.2.2.2.2.2.2.1.o | exact X.2.2.2.2.2.2.2.2.1 | exact X.2.2.2.2.2.2.2.2.2.1 | exact X.2.2.2.2.2.2.2.2.2.2.2.1 | exact X.2.2.2.2.2.2.2.2.2.2.2.2.2.1 | exact X.2.2.2.2.2.2.2.2.2.2.2.2.2.2.1 | exact X.2.2.2.2.2.2.2.2.2.2.2.2.2.2.2) rfl ?_
  refine j_iload_n dX5_copy_29 rfl rfl ?_
  refine j_aaldL 3 8 2 2 dX5_copy_30 (by first | exact X.1 | exact X.2.1 | exact X.2.2.2.1 | exact X.2.2.2.2.1 | exact X.2.2.2.2.2.2.1.o | exact X.2.2.2.2.2.2.1.c | exact X.2.2.2.2.2.2.1.i | exact X.2.2.2.2.2.2.1.p | exact X.2.2.2.2.2.2.1.d | exact X.2.2.2.2.2.2.2.1.o | exact X.2.2.2.2.2.2.2.2.1 | exact X.2.2.2.2.2.2.2.2.2.1 | exact X.2.2.2.2.2.2.2.2.2.2.2.1 | exact X.2.2.2.2.2.2.2.2.2.2.2.2.2.1 | exact X.2.2.2.2.2.2.2.2.2.2.2.2.2.2.1 | exact X.2.2.2.2.2.2.2.2.2.2.2.2.2.2.2) (by decide) rfl hb (by decide) ?_
  refine j_astore dX5_copy_31 (Nat.le_of_ble_eq_true rfl) rfl ?_
  refine j_aload dX5_copy_33 rfl ?_
  refine j_callV (c_isMissingR (X.2.2.1 a ha)) dX5_copy_35 rfl mv_X5_71 (X.2.2.1 a ha).o rfl ⟨(Nat.le_of_ble_eq_true rfl), (Nat.le_of_ble_eq_true rfl)⟩ ⟨(Nat.le_of_ble_eq_true rfl), (Nat.le_of_ble_eq_true rfl)⟩ (Nat.le_of_ble_eq_true rfl) ?_
  refine j_top (nI 0) (if_neg h1) ?_
  refine j_if_ne 49 dX5_copy_38 (by decide) (fun h => absurd rfl h) (fun _ => ?_)
  refine j_aload dX5_copy_41 rfl ?_
  refine j_callV (c_isMissingR (X.2.2.1 b hb)) dX5_copy_43 rfl mv_X5_71 (X.2.2.1 b hb).o rfl ⟨(Nat.le_of_ble_eq_true rfl), (Nat.le_of_ble_eq_true rfl)⟩ ⟨(Nat.le_of_ble_eq_true rfl), (Nat.le_of_ble_eq_true rfl)⟩ (Nat.le_of_ble_eq_true rfl) ?_
  refine j_top (nI 0) (if_neg h2) ?_
  refine j_if_eq 55 dX5_copy_46 (by decide) (fun _ => ?_) (fun h => absurd rfl h)
  refine j_aload dX5_copy_55 rfl ?_
  refine j_getf dX5_copy_57 3 1 rfl (Nat.le_of_ble_eq_true rfl) fl_X5_83 in_3 (X.2.2.1 a ha).o rfl ?_
  refine j_aload dX5_copy_60 rfl ?_
  refine j_getf dX5_copy_62 3 1 rfl (Nat.le_of_ble_eq_true rfl) fl_X5_83 in_3 (X.2.2.1 b hb).o rfl ?_
  refine j_icmp_eq 74 dX5_copy_65 (by decide) (fun b65 => ?_) (fun b65 => ?_)
  · refine j_aload dX5_copy_74 rfl ?_
    refine j_iload_n dX5_copy_76 rfl rfl ?_
    refine j_iload dX5_copy_77 rfl ?_
    refine j_callV (c_hasRangeR (X.2.2.1 a ha) (nI i) (nI n)) dX5_copy_79 rfl mv_X5_75 (X.2.2.1 a ha).o rfl ⟨(Nat.le_of_ble_eq_true rfl), (Nat.le_of_ble_eq_true rfl)⟩ ⟨(Nat.le_of_ble_eq_true rfl), (Nat.le_of_ble_eq_true rfl)⟩ (Nat.le_of_ble_eq_true rfl) ?_
    refine j_top (nI 1) hr1 ?_
    refine j_if_eq 97 dX5_copy_82 (by decide) (fun h => absurd h (by decide)) (fun _ => ?_)
    refine j_aload dX5_copy_85 rfl ?_
    refine j_iload dX5_copy_87 rfl ?_
    refine j_iload dX5_copy_89 rfl ?_
    refine j_callV (c_hasRangeR (X.2.2.1 b hb) (nI j) (nI n)) dX5_copy_91 rfl mv_X5_75 (X.2.2.1 b hb).o rfl ⟨(Nat.le_of_ble_eq_true rfl), (Nat.le_of_ble_eq_true rfl)⟩ ⟨(Nat.le_of_ble_eq_true rfl), (Nat.le_of_ble_eq_true rfl)⟩ (Nat.le_of_ble_eq_true rfl) ?_
    refine j_top (nI 1) hr2 ?_
    refine j_if_ne 103 dX5_copy_94 (by decide) (fun _ => ?_) (fun h => absurd h (by decide))
    refine j_aload dX5_copy_103 rfl ?_
    refine j_getf dX5_copy_105 3 0 rfl (Nat.le_of_ble_eq_true rfl) fl_X5_87 in_3 (X.2.2.1 a ha).o rfl ?_
    refine j_iload_n dX5_copy_108 rfl rfl ?_
    refine j_aload dX5_copy_109 rfl ?_
    refine j_getf dX5_copy_111 3 0 rfl (Nat.le_of_ble_eq_true rfl) fl_X5_87 in_3 (X.2.2.1 b hb).o rfl ?_
    refine j_iload dX5_copy_114 rfl ?_
    refine j_iload dX5_copy_116 rfl ?_
    refine j_copy dX5_copy_118 ac_X5_90 (X.2.2.1 a ha).i (X.2.2.1 b hb).i hi hj (by decide) (by decide) (Nat.le_of_ble_eq_true rfl) (Nat.le_of_ble_eq_true rfl) (rw' σ (2 + 2 * b) (va_cpy (ri a) (ri b) i j n) (rl b) (rn b)) (by have h9 := rws_i (σ := σ) (a := 2 + 2 * b) (it := ri b) (la := rl b) (le := rn b) (it2 := va_cpy (ri a) (ri b) i j n); rw [show rw' σ (2 + 2 * b) (ri b) (rl b) (rn b) = σ from X.2.2.1 b hb] at h9; exact h9) ?_
    have X := X.row b hb (va_cpy (ri a) (ri b) i j n) (rl b) (rn b)
    refine j_aload_n dX5_copy_121 rfl rfl ?_
    refine j_iload dX5_copy_122 rfl ?_
    refine j_callV (c_foundNothing X _) dX5_copy_124 rfl mv_X5_68 (by first | exact X.1 | exact X.2.1 | exact X.2.2.2.1 | exact X.2.2.2.2.1 | exact X.2.2.2.2.2.2.1.o | exact X.2.2.2.2.2.2.1.c | exact X.2.2.2.2.2.2.1.i | exact X.2.2.2.2.2.2.1.p | exact X.2.2.2.2.2.2.1.d | exact X.2.2.2.2.2.2.2.1.o | exact X.2.2.2.2.2.2.2.2.1 | exact X.2.2.2.2.2.2.2.2.2.1 | exact X.2.2.2.2.2.2.2.2.2.2.2.1 | exact X.2.2.2.2.2.2.2.2.2.2.2.2.2.1 | exact X.2.2.2.2.2.2.2.2.2.2.2.2.2.2.1 | exact X.2.2.2.2.2.2.2.2.2.2.2.2.2.2.2) rfl ⟨(Nat.le_of_ble_eq_true rfl), (Nat.le_of_ble_eq_true rfl)⟩ ⟨(Nat.le_of_ble_eq_true rfl), (Nat.le_of_ble_eq_true rfl)⟩ (Nat.le_of_ble_eq_true rfl) ?_
    exact j_iret rfl dX5_copy_127 rfl rfl (Nat.le_of_ble_eq_true rfl) (Nat.le_of_ble_eq_true rfl)
  · exact absurd h b65
theorem x_fault (X : XR σ lf fd rl rn ri tp rd dd d df nx kp da di tr bo ne) : Ct G yX5_fault cX5_fault 1 (some .int) 1 0 0 z σ [.ref 0] (some (.int lf)) z σ := by
  refine Ct.ofJ RX5 rfl [some (.ref 0)] rfl (by decide) Nat.le.refl ?_
  refine j_aload_n dX5_fault_0 rfl rfl ?_
  refine j_getf dX5_fault_1 5 2 rfl (Nat.le_of_ble_eq_true rfl) fl_X5_114 in_5 (by first | exact X.1 | exact X.2.1 | exact X.2.2.2.1 | exact X.2.2.2.2.1 | exact X.2.2.2.2.2.2.1.o | exact X.2.2.2.2.2.2.1.c | exact X.2.2.2.2.2.2.1.i | exact X.2.2.2.2.2.2.1.p | exact X.2.2.2.2.2.2.1.d | exact X.2.2.2.2.2.2.2.1.o | exact X.2.2.2.2.2.2.2.2.1 | exact X.2.2.2.2.2.2.2.2.2.1 | exact X.2.2.2.2.2.2.2.2.2.2.2.1 | exact X.2.2.2.2.2.2.2.2.2.2.2.2.2.1 | exact X.2.2.2.2.2.2.2.2.2.2.2.2.2.2.1 | exact X.2.2.2.2.2.2.2.2.2.2.2.2.2.2.2) rfl ?_
  exact j_iret rfl dX5_fault_4 rfl rfl (Nat.le_of_ble_eq_true rfl) (Nat.le_of_ble_eq_true rfl)
theorem x_status (X : XR σ lf fd rl rn ri tp rd dd d df nx kp da di tr bo ne) : Ct G yX5_status cX5_status 1 (some .int) 1 0 0 z σ [.ref 0] (some (.int fd)) z σ := by
  refine Ct.ofJ RX5 rfl [some (.ref 0)] rfl (by decide) Nat.le.refl ?_
  refine j_aload_n dX5_status_0 rfl rfl ?_
  refine j_getf dX5_status_1 5 3 rfl (Nat.le_of_ble_eq_true rfl) fl_X5_255 in_5 (by first | exact X.1 | exact X.2.1 | exact X.2.2.2.1 | exact X.2.2.2.2.1 | exact X.2.2.2.2.2.2.1.o | exact X.2.2.2.2.2.2.1.c | exact X.2.2.2.2.2.2.1.i | exact X.2.2.2.2.2.2.1.p | exact X.2.2.2.2.2.2.1.d | exact X.2.2.2.2.2.2.2.1.o | exact X.2.2.2.2.2.2.2.2.1 | exact X.2.2.2.2.2.2.2.2.2.1 | exact X.2.2.2.2.2.2.2.2.2.2.2.1 | exact X.2.2.2.2.2.2.2.2.2.2.2.2.2.1 | exact X.2.2.2.2.2.2.2.2.2.2.2.2.2.2.1 | exact X.2.2.2.2.2.2.2.2.2.2.2.2.2.2.2) rfl ?_
  exact j_iret rfl dX5_status_4 rfl rfl (Nat.le_of_ble_eq_true rfl) (Nat.le_of_ble_eq_true rfl)
theorem x_loan_bad (X : XR σ lf fd rl rn ri tp rd dd d df nx kp da di tr bo ne) (a b n : Int32) (h : ¬ nqI a b (sN d) = 0 ∨ n < nI 1 ∨ nI 999 < n) : Ct G yX5_loan cX5_loan 5 (some .int) 4 0 0 z σ [.ref 0, .int a, .int b, .int n] (some (.int (-1000001))) z σ := by
  refine Ct.ofJ RX5 rfl [some (.ref 0), some (.int a), some (.int b), some (.int n), none] rfl (by decide) (by simp [Value.category]) ?_
  refine j_aload_n dX5_loan_0 rfl rfl ?_
  refine j_iload_n dX5_loan_1 rfl rfl ?_
  refine j_iload_n dX5_loan_2 rfl rfl ?_
  refine j_callV (c_isNoPair X a b) dX5_loan_3 rfl mv_X5_134 (by first | exact X.1 | exact X.2.1 | exact X.2.2.2.1 | exact X.2.2.2.2.1 | exact X.2.2.2.2.2.2.1.o | exact X.2.2.2.2.2.2.1.c | exact X.2.2.2.2.2.2.1.i | exact X.2.2.2.2.2.2.1.p | exact X.2.2.2.2.2.2.1.d | exact X.2.2.2.2.2.2.2.1.o | exact X.2.2.2.2.2.2.2.2.1 | exact X.2.2.2.2.2.2.2.2.2.1 | exact X.2.2.2.2.2.2.2.2.2.2.2.1 | exact X.2.2.2.2.2.2.2.2.2.2.2.2.2.1 | exact X.2.2.2.2.2.2.2.2.2.2.2.2.2.2.1 | exact X.2.2.2.2.2.2.2.2.2.2.2.2.2.2.2) rfl ⟨(Nat.le_of_ble_eq_true rfl), (Nat.le_of_ble_eq_true rfl)⟩ ⟨(Nat.le_of_ble_eq_true rfl), (Nat.le_of_ble_eq_true rfl)⟩ (Nat.le_of_ble_eq_true rfl) ?_
  refine j_if_ne 21 dX5_loan_6 (by decide) (fun b6 => ?_) (fun b6 => ?_)
  · refine j_ldc (-1000001) dX5_loan_21 kc_X5_59 ?_
    exact j_iret rfl dX5_loan_23 rfl rfl (Nat.le_of_ble_eq_true rfl) (Nat.le_of_ble_eq_true rfl)
  · refine j_iload_n dX5_loan_9 rfl rfl ?_
    refine j_iconst (nI 1) dX5_loan_10 rfl ?_
    refine j_icmp_lt 21 dX5_loan_11 (by decide) (fun b11 => ?_) (fun b11 => ?_)
    · refine j_ldc (-1000001) dX5_loan_21 kc_X5_59 ?_
      exact j_iret rfl dX5_loan_23 rfl rfl (Nat.le_of_ble_eq_true rfl) (Nat.le_of_ble_eq_true rfl)
    · refine j_iload_n dX5_loan_14 rfl rfl ?_
      refine j_sipush (nI 999) dX5_loan_15 rfl ?_
      refine j_icmp_le 24 dX5_loan_18 (by decide) (fun b18 => ?_) (fun b18 => ?_)
      · exfalso
        rcases h with h | h | h
        · exact h b6
        · exact b11 h
        · exact absurd b18 (Int32.not_le.mpr h)
      · refine j_ldc (-1000001) dX5_loan_21 kc_X5_59 ?_
        exact j_iret rfl dX5_loan_23 rfl rfl (Nat.le_of_ble_eq_true rfl) (Nat.le_of_ble_eq_true rfl)
theorem x_loan_state (X : XR σ lf fd rl rn ri tp rd dd d df nx kp da di tr bo ne) {p q : Nat} (hN : sN d ≤ 7) (hp : p < sN d) (hq : q < sN d) (hpq : p ≠ q) (n : Int32) (h1 : ¬ n < nI 1) (h2 : n ≤ nI 999) (h : sC d q < n) : Ct G yX5_loan cX5_loan 5 (some .int) 4 0 0 z σ [.ref 0, .int (nI p), .int (nI q), .int n] (some (.int (-1000002))) z σ := by
  refine Ct.ofJ RX5 rfl [some (.ref 0), some (.int (nI p)), some (.int (nI q)), some (.int n), none] rfl (by decide) (by simp [Value.category]) ?_
  refine j_aload_n dX5_loan_0 rfl rfl ?_
  refine j_iload_n dX5_loan_1 rfl rfl ?_
  refine j_iload_n dX5_loan_2 rfl rfl ?_
  refine j_callV (c_isNoPair X (nI p) (nI q)) dX5_loan_3 rfl mv_X5_134 (by first | exact X.1 | exact X.2.1 | exact X.2.2.2.1 | exact X.2.2.2.2.1 | exact X.2.2.2.2.2.2.1.o | exact X.2.2.2.2.2.2.1.c | exact X.2.2.2.2.2.2.1.i | exact X.2.2.2.2.2.2.1.p | exact X.2.2.2.2.2.2.1.d | exact X.2.2.2.2.2.2.2.1.o | exact X.2.2.2.2.2.2.2.2.1 | exact X.2.2.2.2.2.2.2.2.2.1 | exact X.2.2.2.2.2.2.2.2.2.2.2.1 | exact X.2.2.2.2.2.2.2.2.2.2.2.2.2.1 | exact X.2.2.2.2.2.2.2.2.2.2.2.2.2.2.1 | exact X.2.2.2.2.2.2.2.2.2.2.2.2.2.2.2) rfl ⟨(Nat.le_of_ble_eq_true rfl), (Nat.le_of_ble_eq_true rfl)⟩ ⟨(Nat.le_of_ble_eq_true rfl), (Nat.le_of_ble_eq_true rfl)⟩ (Nat.le_of_ble_eq_true rfl) ?_
  refine j_top (nI 0) (nqI_k hp hq hpq hN) ?_
  refine j_if_ne 21 dX5_loan_6 (by decide) (fun h => absurd rfl h) (fun _ => ?_)
  refine j_iload_n dX5_loan_9 rfl rfl ?_
  refine j_iconst (nI 1) dX5_loan_10 rfl ?_
  refine j_icmp_lt 21 dX5_loan_11 (by decide) (fun b11 => ?_) (fun b11 => ?_)
  · exact absurd b11 h1
  · refine j_iload_n dX5_loan_14 rfl rfl ?_
    refine j_sipush (nI 999) dX5_loan_15 rfl ?_
    refine j_icmp_le 24 dX5_loan_18 (by decide) (fun b18 => ?_) (fun b18 => ?_)
    · refine j_aload_n dX5_loan_24 rfl rfl ?_
      refine j_getf dX5_loan_25 5 4 rfl (Nat.le_of_ble_eq_true rfl) fl_X5_26 in_5 (by first | exact X.1 | exact X.2.1 | exact X.2.2.2.1 | exact X.2.2.2.2.1 | exact X.2.2.2.2.2.2.1.o | exact X.2.2.2.2.2.2.1.c | exact X.2.2.2.2.2.2.1.i | exact X.2.2.2.2.2.2.1.p | exact X.2.2.2.2.2.2.1.d | exact X.2.2.2.2.2.2.2.1.o | exact X.2.2.2.2.2.2.2.2.1 | exact X.2.2.2.2.2.2.2.2.2.1 | exact X.2.2.2.2.2.2.2.2.2.2.2.1 | exact X.2.2.2.2.2.2.2.2.2.2.2.2.2.1 | exact X.2.2.2.2.2.2.2.2.2.2.2.2.2.2.1 | exact X.2.2.2.2.2.2.2.2.2.2.2.2.2.2.2) rfl ?_
      refine j_getf dX5_loan_28 4 0 rfl (Nat.le_of_ble_eq_true rfl) fl_X5_137 in_4 (by first | exact X.1 | exact X.2.1 | exact X.2.2.2.1 | exact X.2.2.2.2.1 | exact X.2.2.2.2.2.2.1.o | exact X.2.2.2.2.2.2.1.c | exact X.2.2.2.2.2.2.1.i | exact X.2.2.2.2.2.2.1.p | exact X.2.2.2.2.2.2.1.d | exact X.2.2.2.2.2.2.2.1.o | exact X.2.2.2.2.2.2.2.2.1 | exact X.2.2.2.2.2.2.2.2.2.1 | exact X.2.2.2.2.2.2.2.2.2.2.2.1 | exact X.2.2.2.2.2.2.2.2.2.2.2.2.2.1 | exact X.2.2.2.2.2.2.2.2.2.2.2.2.2.2.1 | exact X.2.2.2.2.2.2.2.2.2.2.2.2.2.2.2) rfl ?_
      refine j_iload_n dX5_loan_31 rfl rfl ?_
      refine j_iald dX5_loan_32 (by first | exact X.1 | exact X.2.1 | exact X.2.2.2.1 | exact X.2.2.2.2.1 | exact X.2.2.2.2.2.2.1.o | exact X.2.2.2.2.2.2.1.c | exact X.2.2.2.2.2.2.1.i | exact X.2.2.2.2.2.2.1.p | exact X.2.2.2.2.2.2.1.d | exact X.2.2.2.2.2.2.2.1.o | exact X.2.2.2.2.2.2.2.2.1 | exact X.2.2.2.2.2.2.2.2.2.1 | exact X.2.2.2.2.2.2.2.2.2.2.2.1 | exact X.2.2.2.2.2.2.2.2.2.2.2.2.2.1 | exact X.2.2.2.2.2.2.2.2.2.2.2.2.2.2.1 | exact X.2.2.2.2.2.2.2.2.2.2.2.2.2.2.2) rfl (by omega) (by decide) ?_
      refine j_iload_n dX5_loan_33 rfl rfl ?_
      refine j_icmp_ge 40 dX5_loan_34 (by decide) (fun b34 => ?_) (fun b34 => ?_)
      · exact absurd h (Int32.not_lt.mpr b34)
      · refine j_ldc (-1000002) dX5_loan_37 kc_X5_140 ?_
        exact j_iret rfl dX5_loan_39 rfl rfl (Nat.le_of_ble_eq_true rfl) (Nat.le_of_ble_eq_true rfl)
    · exact absurd h2 b18
theorem x_loan_full (X : XR σ lf fd rl rn ri tp rd dd d df nx kp da di tr bo ne) {p q : Nat} (hN : sN d ≤ 7) (hp : p < sN d) (hq : q < sN d) (hpq : p ≠ q) (n : Int32) (h1 : ¬ n < nI 1) (h2 : n ≤ nI 999) (h3 : ¬ sC d q < n) (h : ¬ sD d (p * 7 + q) + n ≤ 99999) : Ct G yX5_loan cX5_loan 5 (some .int) 4 0 0 z σ [.ref 0, .int (nI p), .int (nI q), .int n] (some (.int (-1000003))) z σ := by
  refine Ct.ofJ RX5 rfl [some (.ref 0), some (.int (nI p)), some (.int (nI q)), some (.int n), none] rfl (by decide) (by simp [Value.category]) ?_
  refine j_aload_n dX5_loan_0 rfl rfl ?_
  refine j_iload_n dX5_loan_1 rfl rfl ?_
  refine j_iload_n dX5_loan_2 rfl rfl ?_
  refine j_callV (c_isNoPair X (nI p) (nI q)) dX5_loan_3 rfl mv_X5_134 (by first | exact X.1 | exact X.2.1 | exact X.2.2.2.1 | exact X.2.2.2.2.1 | exact X.2.2.2.2.2.2.1.o | exact X.2.2.2.2.2.2.1.c | exact X.2.2.2.2.2.2.1.i | exact X.2.2.2.2.2.2.1.p | exact X.2.2.2.2.2.2.1.d | exact X.2.2.2.2.2.2.2.1.o | exact X.2.2.2.2.2.2.2.2.1 | exact X.2.2.2.2.2.2.2.2.2.1 | exact X.2.2.2.2.2.2.2.2.2.2.2.1 | exact X.2.2.2.2.2.2.2.2.2.2.2.2.2.1 | exact X.2.2.2.2.2.2.2.2.2.2.2.2.2.2.1 | exact X.2.2.2.2.2.2.2.2.2.2.2.2.2.2.2) rfl ⟨(Nat.le_of_ble_eq_true rfl), (Nat.le_of_ble_eq_true rfl)⟩ ⟨(Nat.le_of_ble_eq_true rfl), (Nat.le_of_ble_eq_true rfl)⟩ (Nat.le_of_ble_eq_true rfl) ?_
  refine j_top (nI 0) (nqI_k hp hq hpq hN) ?_
  refine j_if_ne 21 dX5_loan_6 (by decide) (fun h => absurd rfl h) (fun _ => ?_)
  refine j_iload_n dX5_loan_9 rfl rfl ?_
  refine j_iconst (nI 1) dX5_loan_10 rfl ?_
  refine j_icmp_lt 21 dX5_loan_11 (by decide) (fun b11 => ?_) (fun b11 => ?_)
  · exact absurd b11 h1
  · refine j_iload_n dX5_loan_14 rfl rfl ?_
    refine j_sipush (nI 999) dX5_loan_15 rfl ?_
    refine j_icmp_le 24 dX5_loan_18 (by decide) (fun b18 => ?_) (fun b18 => ?_)
    · refine j_aload_n dX5_loan_24 rfl rfl ?_
      refine j_getf dX5_loan_25 5 4 rfl (Nat.le_of_ble_eq_true rfl) fl_X5_26 in_5 (by first | exact X.1 | exact X.2.1 | exact X.2.2.2.1 | exact X.2.2.2.2.1 | exact X.2.2.2.2.2.2.1.o | exact X.2.2.2.2.2.2.1.c | exact X.2.2.2.2.2.2.1.i | exact X.2.2.2.2.2.2.1.p | exact X.2.2.2.2.2.2.1.d | exact X.2.2.2.2.2.2.2.1.o | exact X.2.2.2.2.2.2.2.2.1 | exact X.2.2.2.2.2.2.2.2.2.1 | exact X.2.2.2.2.2.2.2.2.2.2.2.1 | exact X.2.2.2.2.2.2.2.2.2.2.2.2.2.1 | exact X.2.2.2.2.2.2.2.2.2.2.2.2.2.2.1 | exact X.2.2.2.2.2.2.2.2.2.2.2.2.2.2.2) rfl ?_
      refine j_getf dX5_loan_28 4 0 rfl (Nat.le_of_ble_eq_true rfl) fl_X5_137 in_4 (by first | exact X.1 | exact X.2.1 | exact X.2.2.2.1 | exact X.2.2.2.2.1 | exact X.2.2.2.2.2.2.1.o | exact X.2.2.2.2.2.2.1.c | exact X.2.2.2.2.2.2.1.i | exact X.2.2.2.2.2.2.1.p | exact X.2.2.2.2.2.2.1.d | exact X.2.2.2.2.2.2.2.1.o | exact X.2.2.2.2.2.2.2.2.1 | exact X.2.2.2.2.2.2.2.2.2.1 | exact X.2.2.2.2.2.2.2.2.2.2.2.1 | exact X.2.2.2.2.2.2.2.2.2.2.2.2.2.1 | exact X.2.2.2.2.2.2.2.2.2.2.2.2.2.2.1 | exact X.2.2.2.2.2.2.2.2.2.2.2.2.2.2.2) rfl ?_
      refine j_iload_n dX5_loan_31 rfl rfl ?_
      refine j_iald dX5_loan_32 (by first | exact X.1 | exact X.2.1 | exact X.2.2.2.1 | exact X.2.2.2.2.1 | exact X.2.2.2.2.2.2.1.o | exact X.2.2.2.2.2.2.1.c | exact X.2.2.2.2.2.2.1.i | exact X.2.2.2.2.2.2.1.p | exact X.2.2.2.2.2.2.1.d | exact X.2.2.2.2.2.2.2.1.o | exact X.2.2.2.2.2.2.2.2.1 | exact X.2.2.2.2.2.2.2.2.2.1 | exact X.2.2.2.2.2.2.2.2.2.2.2.1 | exact X.2.2.2.2.2.2.2.2.2.2.2.2.2.1 | exact X.2.2.2.2.2.2.2.2.2.2.2.2.2.2.1 | exact X.2.2.2.2.2.2.2.2.2.2.2.2.2.2.2) rfl (by omega) (by decide) ?_
      refine j_iload_n dX5_loan_33 rfl rfl ?_
      refine j_icmp_ge 40 dX5_loan_34 (by decide) (fun b34 => ?_) (fun b34 => ?_)
      · refine j_aload_n dX5_loan_40 rfl rfl ?_
        refine j_getf dX5_loan_41 5 4 rfl (Nat.le_of_ble_eq_true rfl) fl_X5_26 in_5 (by first | exact X.1 | exact X.2.1 | exact X.2.2.2.1 | exact X.2.2.2.2.1 | exact X.2.2.2.2.2.2.1.o | exact X.2.2.2.2.2.2.1.c | exact X.2.2.2.2.2.2.1.i | exact X.2.2.2.2.2.2.1.p | exact X.2.2.2.2.2.2.1.d | exact X.2.2.2.2.2.2.2.1.o | exact X.2.2.2.2.2.2.2.2.1 | exact X.2.2.2.2.2.2.2.2.2.1 | exact X.2.2.2.2.2.2.2.2.2.2.2.1 | exact X.2.2.2.2.2.2.2.2.2.2.2.2.2.1 | exact X.2.2.2.2.2.2.2.2.2.2.2.2.2.2.1 | exact X.2.2.2.2.2.2.2.2.2.2.2.2.2.2.2) rfl ?_
        refine j_iload_n dX5_loan_44 rfl rfl ?_
        refine j_iload_n dX5_loan_45 rfl rfl ?_
        refine j_callV (c_debtOfS X.2.2.2.2.2.2.1 (by omega)) dX5_loan_46 rfl mv_X5_141 (by first | exact X.1 | exact X.2.1 | exact X.2.2.2.1 | exact X.2.2.2.2.1 | exact X.2.2.2.2.2.2.1.o | exact X.2.2.2.2.2.2.1.c | exact X.2.2.2.2.2.2.1.i | exact X.2.2.2.2.2.2.1.p | exact X.2.2.2.2.2.2.1.d | exact X.2.2.2.2.2.2.2.1.o | exact X.2.2.2.2.2.2.2.2.1 | exact X.2.2.2.2.2.2.2.2.2.1 | exact X.2.2.2.2.2.2.2.2.2.2.2.1 | exact X.2.2.2.2.2.2.2.2.2.2.2.2.2.1 | exact X.2.2.2.2.2.2.2.2.2.2.2.2.2.2.1 | exact X.2.2.2.2.2.2.2.2.2.2.2.2.2.2.2) rfl ⟨(Nat.le_of_ble_eq_true rfl), (Nat.le_of_ble_eq_true rfl)⟩ ⟨(Nat.le_of_ble_eq_true rfl), (Nat.le_of_ble_eq_true rfl)⟩ (Nat.le_of_ble_eq_true rfl) ?_
        refine j_iload_n dX5_loan_49 rfl rfl ?_
        refine j_iadd dX5_loan_50 ?_
        refine j_istore dX5_loan_51 (Nat.le_of_ble_eq_true rfl) rfl ?_
        refine j_iload dX5_loan_53 rfl ?_
        refine j_ldc (99999) dX5_loan_55 kc_X5_144 ?_
        refine j_icmp_le 63 dX5_loan_57 (by decide) (fun b57 => ?_) (fun b57 => ?_)
        · exact absurd b57 h
        · refine j_ldc (-1000003) dX5_loan_60 kc_X5_103 ?_
          exact j_iret rfl dX5_loan_62 rfl rfl (Nat.le_of_ble_eq_true rfl) (Nat.le_of_ble_eq_true rfl)
      · exact absurd (Int32.not_lt.mp h3) b34
    · exact absurd h2 b18
theorem x_loan_ok (X : XR σ lf fd rl rn ri tp rd dd d df nx kp da di tr bo ne) {p q : Nat} (hN : sN d ≤ 7) (hp : p < sN d) (hq : q < sN d) (hpq : p ≠ q) (hn : nx < 24) (hkp : kp ≤ 24) (n : Int32) (h1 : ¬ n < nI 1) (h2 : n ≤ nI 999) (h3 : ¬ sC d q < n) (h : sD d (p * 7 + q) + n ≤ 99999) : Ct G yX5_loan cX5_loan 5 (some .int) 4 0 0 z σ [.ref 0, .int (nI p), .int (nI q), .int n] (some (.int (sD d (p * 7 + q) + n))) z (twS (kpH σ nx kp d) 25 (pbC (sC d) q p n, sI d, sP d, upd (sD d) (p * 7 + q) (sD d (p * 7 + q) + n), sN d, sU d, sR d, sQ d, sH d, sF d)) := by
  refine Ct.ofJ RX5 rfl [some (.ref 0), some (.int (nI p)), some (.int (nI q)), some (.int n), none] rfl (by decide) (by simp [Value.category]) ?_
  refine j_aload_n dX5_loan_0 rfl rfl ?_
  refine j_iload_n dX5_loan_1 rfl rfl ?_
  refine j_iload_n dX5_loan_2 rfl rfl ?_
  refine j_callV (c_isNoPair X (nI p) (nI q)) dX5_loan_3 rfl mv_X5_134 (by first | exact X.1 | exact X.2.1 | exact X.2.2.2.1 | exact X.2.2.2.2.1 | exact X.2.2.2.2.2.2.1.o | exact X.2.2.2.2.2.2.1.c | exact X.2.2.2.2.2.2.1.i | exact X.2.2.2.2.2.2.1.p | exact X.2.2.2.2.2.2.1.d | exact X.2.2.2.2.2.2.2.1.o | exact X.2.2.2.2.2.2.2.2.1 | exact X.2.2.2.2.2.2.2.2.2.1 | exact X.2.2.2.2.2.2.2.2.2.2.2.1 | exact X.2.2.2.2.2.2.2.2.2.2.2.2.2.1 | exact X.2.2.2.2.2.2.2.2.2.2.2.2.2.2.1 | exact X.2.2.2.2.2.2.2.2.2.2.2.2.2.2.2) rfl ⟨(Nat.le_of_ble_eq_true rfl), (Nat.le_of_ble_eq_true rfl)⟩ ⟨(Nat.le_of_ble_eq_true rfl), (Nat.le_of_ble_eq_true rfl)⟩ (Nat.le_of_ble_eq_true rfl) ?_
  refine j_top (nI 0) (nqI_k hp hq hpq hN) ?_
  refine j_if_ne 21 dX5_loan_6 (by decide) (fun h => absurd rfl h) (fun _ => ?_)
  refine j_iload_n dX5_loan_9 rfl rfl ?_
  refine j_iconst (nI 1) dX5_loan_10 rfl ?_
  refine j_icmp_lt 21 dX5_loan_11 (by decide) (fun b11 => ?_) (fun b11 => ?_)
  · exact absurd b11 h1
  · refine j_iload_n dX5_loan_14 rfl rfl ?_
    refine j_sipush (nI 999) dX5_loan_15 rfl ?_
    refine j_icmp_le 24 dX5_loan_18 (by decide) (fun b18 => ?_) (fun b18 => ?_)
    · refine j_aload_n dX5_loan_24 rfl rfl ?_
      refine j_getf dX5_loan_25 5 4 rfl (Nat.le_of_ble_eq_true rfl) fl_X5_26 in_5 (by first | exact X.1 | exact X.2.1 | exact X.2.2.2.1 | exact X.2.2.2.2.1 | exact X.2.2.2.2.2.2.1.o | exact X.2.2.2.2.2.2.1.c | exact X.2.2.2.2.2.2.1.i | exact X.2.2.2.2.2.2.1.p | exact X.2.2.2.2.2.2.1.d | exact X.2.2.2.2.2.2.2.1.o | exact X.2.2.2.2.2.2.2.2.1 | exact X.2.2.2.2.2.2.2.2.2.1 | exact X.2.2.2.2.2.2.2.2.2.2.2.1 | exact X.2.2.2.2.2.2.2.2.2.2.2.2.2.1 | exact X.2.2.2.2.2.2.2.2.2.2.2.2.2.2.1 | exact X.2.2.2.2.2.2.2.2.2.2.2.2.2.2.2) rfl ?_
      refine j_getf dX5_loan_28 4 0 rfl (Nat.le_of_ble_eq_true rfl) fl_X5_137 in_4 (by first | exact X.1 | exact X.2.1 | exact X.2.2.2.1 | exact X.2.2.2.2.1 | exact X.2.2.2.2.2.2.1.o | exact X.2.2.2.2.2.2.1.c | exact X.2.2.2.2.2.2.1.i | exact X.2.2.2.2.2.2.1.p | exact X.2.2.2.2.2.2.1.d | exact X.2.2.2.2.2.2.2.1.o | exact X.2.2.2.2.2.2.2.2.1 | exact X.2.2.2.2.2.2.2.2.2.1 | exact X.2.2.2.2.2.2.2.2.2.2.2.1 | exact X.2.2.2.2.2.2.2.2.2.2.2.2.2.1 | exact X.2.2.2.2.2.2.2.2.2.2.2.2.2.2.1 | exact X.2.2.2.2.2.2.2.2.2.2.2.2.2.2.2) rfl ?_
      refine j_iload_n dX5_loan_31 rfl rfl ?_
      refine j_iald dX5_loan_32 (by first | exact X.1 | exact X.2.1 | exact X.2.2.2.1 | exact X.2.2.2.2.1 | exact X.2.2.2.2.2.2.1.o | exact X.2.2.2.2.2.2.1.c | exact X.2.2.2.2.2.2.1.i | exact X.2.2.2.2.2.2.1.p | exact X.2.2.2.2.2.2.1.d | exact X.2.2.2.2.2.2.2.1.o | exact X.2.2.2.2.2.2.2.2.1 | exact X.2.2.2.2.2.2.2.2.2.1 | exact X.2.2.2.2.2.2.2.2.2.2.2.1 | exact X.2.2.2.2.2.2.2.2.2.2.2.2.2.1 | exact X.2.2.2.2.2.2.2.2.2.2.2.2.2.2.1 | exact X.2.2.2.2.2.2.2.2.2.2.2.2.2.2.2) rfl (by omega) (by decide) ?_
      refine j_iload_n dX5_loan_33 rfl rfl ?_
      refine j_icmp_ge 40 dX5_loan_34 (by decide) (fun b34 => ?_) (fun b34 => ?_)
      · refine j_aload_n dX5_loan_40 rfl rfl ?_
        refine j_getf dX5_loan_41 5 4 rfl (Nat.le_of_ble_eq_true rfl) fl_X5_26 in_5 (by first | exact X.1 | exact X.2.1 | exact X.2.2.2.1 | exact X.2.2.2.2.1 | exact X.2.2.2.2.2.2.1.o | exact X.2.2.2.2.2.2.1.c | exact X.2.2.2.2.2.2.1.i | exact X.2.2.2.2.2.2.1.p | exact X.2.2.2.2.2.2.1.d | exact X.2.2.2.2.2.2.2.1.o | exact X.2.2.2.2.2.2.2.2.1 | exact X.2.2.2.2.2.2.2.2.2.1 | exact X.2.2.2.2.2.2.2.2.2.2.2.1 | exact X.2.2.2.2.2.2.2.2.2.2.2.2.2.1 | exact X.2.2.2.2.2.2.2.2.2.2.2.2.2.2.1 | exact X.2.2.2.2.2.2.2.2.2.2.2.2.2.2.2) rfl ?_
        refine j_iload_n dX5_loan_44 rfl rfl ?_
        refine j_iload_n dX5_loan_45 rfl rfl ?_
        refine j_callV (c_debtOfS X.2.2.2.2.2.2.1 (by omega)) dX5_loan_46 rfl mv_X5_141 (by first | exact X.1 | exact X.2.1 | exact X.2.2.2.1 | exact X.2.2.2.2.1 | exact X.2.2.2.2.2.2.1.o | exact X.2.2.2.2.2.2.1.c | exact X.2.2.2.2.2.2.1.i | exact X.2.2.2.2.2.2.1.p | exact X.2.2.2.2.2.2.1.d | exact X.2.2.2.2.2.2.2.1.o | exact X.2.2.2.2.2.2.2.2.1 | exact X.2.2.2.2.2.2.2.2.2.1 | exact X.2.2.2.2.2.2.2.2.2.2.2.1 | exact X.2.2.2.2.2.2.2.2.2.2.2.2.2.1 | exact X.2.2.2.2.2.2.2.2.2.2.2.2.2.2.1 | exact X.2.2.2.2.2.2.2.2.2.2.2.2.2.2.2) rfl ⟨(Nat.le_of_ble_eq_true rfl), (Nat.le_of_ble_eq_true rfl)⟩ ⟨(Nat.le_of_ble_eq_true rfl), (Nat.le_of_ble_eq_true rfl)⟩ (Nat.le_of_ble_eq_true rfl) ?_
        refine j_iload_n dX5_loan_49 rfl rfl ?_
        refine j_iadd dX5_loan_50 ?_
        refine j_istore dX5_loan_51 (Nat.le_of_ble_eq_true rfl) rfl ?_
        refine j_iload dX5_loan_53 rfl ?_
        refine j_ldc (99999) dX5_loan_55 kc_X5_144 ?_
        refine j_icmp_le 63 dX5_loan_57 (by decide) (fun b57 => ?_) (fun b57 => ?_)
        · refine j_aload_n dX5_loan_63 rfl rfl ?_
          refine j_getf dX5_loan_64 5 6 rfl (Nat.le_of_ble_eq_true rfl) fl_X5_36 in_5 (by first | exact X.1 | exact X.2.1 | exact X.2.2.2.1 | exact X.2.2.2.2.1 | exact X.2.2.2.2.2.2.1.o | exact X.2.2.2.2.2.2.1.c | exact X.2.2.2.2.2.2.1.i | exact X.2.2.2.2.2.2.1.p | exact X.2.2.2.2.2.2.1.d | exact X.2.2.2.2.2.2.2.1.o | exact X.2.2.2.2.2.2.2.2.1 | exact X.2.2.2.2.2.2.2.2.2.1 | exact X.2.2.2.2.2.2.2.2.2.2.2.1 | exact X.2.2.2.2.2.2.2.2.2.2.2.2.2.1 | exact X.2.2.2.2.2.2.2.2.2.2.2.2.2.2.1 | exact X.2.2.2.2.2.2.2.2.2.2.2.2.2.2.2) rfl ?_
          refine j_aload_n dX5_loan_67 rfl rfl ?_
          refine j_getf dX5_loan_68 5 4 rfl (Nat.le_of_ble_eq_true rfl) fl_X5_26 in_5 (by first | exact X.1 | exact X.2.1 | exact X.2.2.2.1 | exact X.2.2.2.2.1 | exact X.2.2.2.2.2.2.1.o | exact X.2.2.2.2.2.2.1.c | exact X.2.2.2.2.2.2.1.i | exact X.2.2.2.2.2.2.1.p | exact X.2.2.2.2.2.2.1.d | exact X.2.2.2.2.2.2.2.1.o | exact X.2.2.2.2.2.2.2.2.1 | exact X.2.2.2.2.2.2.2.2.2.1 | exact X.2.2.2.2.2.2.2.2.2.2.2.1 | exact X.2.2.2.2.2.2.2.2.2.2.2.2.2.1 | exact X.2.2.2.2.2.2.2.2.2.2.2.2.2.2.1 | exact X.2.2.2.2.2.2.2.2.2.2.2.2.2.2.2) rfl ?_
          refine j_callV (c_keep X hn hkp) dX5_loan_71 rfl mv_X5_145 (by first | exact X.1 | exact X.2.1 | exact X.2.2.2.1 | exact X.2.2.2.2.1 | exact X.2.2.2.2.2.2.1.o | exact X.2.2.2.2.2.2.1.c | exact X.2.2.2.2.2.2.1.i | exact X.2.2.2.2.2.2.1.p | exact X.2.2.2.2.2.2.1.d | exact X.2.2.2.2.2.2.2.1.o | exact X.2.2.2.2.2.2.2.2.1 | exact X.2.2.2.2.2.2.2.2.2.1 | exact X.2.2.2.2.2.2.2.2.2.2.2.1 | exact X.2.2.2.2.2.2.2.2.2.2.2.2.2.1 | exact X.2.2.2.2.2.2.2.2.2.2.2.2.2.2.1 | exact X.2.2.2.2.2.2.2.2.2.2.2.2.2.2.2) rfl ⟨(Nat.le_of_ble_eq_true rfl), (Nat.le_of_ble_eq_true rfl)⟩ ⟨(Nat.le_of_ble_eq_true rfl), (Nat.le_of_ble_eq_true rfl)⟩ (Nat.le_of_ble_eq_true rfl) ?_
          have X := (X.act nx hn d).acts (nxt nx) (min (kp + 1) 24)
          refine j_aload_n dX5_loan_74 rfl rfl ?_
          refine j_getf dX5_loan_75 5 4 rfl (Nat.le_of_ble_eq_true rfl) fl_X5_26 in_5 (by first | exact X.1 | exact X.2.1 | exact X.2.2.2.1 | exact X.2.2.2.2.1 | exact X.2.2.2.2.2.2.1.o | exact X.2.2.2.2.2.2.1.c | exact X.2.2.2.2.2.2.1.i | exact X.2.2.2.2.2.2.1.p | exact X.2.2.2.2.2.2.1.d | exact X.2.2.2.2.2.2.2.1.o | exact X.2.2.2.2.2.2.2.2.1 | exact X.2.2.2.2.2.2.2.2.2.1 | exact X.2.2.2.2.2.2.2.2.2.2.2.1 | exact X.2.2.2.2.2.2.2.2.2.2.2.2.2.1 | exact X.2.2.2.2.2.2.2.2.2.2.2.2.2.2.1 | exact X.2.2.2.2.2.2.2.2.2.2.2.2.2.2.2) rfl ?_
          refine j_iload_n dX5_loan_78 rfl rfl ?_
          refine j_iload_n dX5_loan_79 rfl rfl ?_
          refine j_iload_n dX5_loan_80 rfl rfl ?_
          refine j_callV (c_lendsS X.2.2.2.2.2.2.1 n (by omega) (by omega)) dX5_loan_81 rfl mv_X5_148 (by first | exact X.1 | exact X.2.1 | exact X.2.2.2.1 | exact X.2.2.2.2.1 | exact X.2.2.2.2.2.2.1.o | exact X.2.2.2.2.2.2.1.c | exact X.2.2.2.2.2.2.1.i | exact X.2.2.2.2.2.2.1.p | exact X.2.2.2.2.2.2.1.d | exact X.2.2.2.2.2.2.2.1.o | exact X.2.2.2.2.2.2.2.2.1 | exact X.2.2.2.2.2.2.2.2.2.1 | exact X.2.2.2.2.2.2.2.2.2.2.2.1 | exact X.2.2.2.2.2.2.2.2.2.2.2.2.2.1 | exact X.2.2.2.2.2.2.2.2.2.2.2.2.2.2.1 | exact X.2.2.2.2.2.2.2.2.2.2.2.2.2.2.2) rfl ⟨(Nat.le_of_ble_eq_true rfl), (Nat.le_of_ble_eq_true rfl)⟩ ⟨(Nat.le_of_ble_eq_true rfl), (Nat.le_of_ble_eq_true rfl)⟩ (Nat.le_of_ble_eq_true rfl) ?_
          refine j_iload dX5_loan_84 rfl ?_
          exact j_iret rfl dX5_loan_86 rfl rfl (Nat.le_of_ble_eq_true rfl) (Nat.le_of_ble_eq_true rfl)
        · exact absurd h b57
      · exact absurd (Int32.not_lt.mp h3) b34
    · exact absurd h2 b18
theorem x_pay_bad (X : XR σ lf fd rl rn ri tp rd dd d df nx kp da di tr bo ne) (a b n : Int32) (h : ¬ nqI a b (sN d) = 0 ∨ n < nI 1 ∨ 99999 < n) : Ct G yX5_pay cX5_pay 4 (some .int) 4 0 0 z σ [.ref 0, .int a, .int b, .int n] (some (.int (-1000001))) z σ := by
  refine Ct.ofJ RX5 rfl [some (.ref 0), some (.int a), some (.int b), some (.int n)] rfl (by decide) Nat.le.refl ?_
  refine j_aload_n dX5_pay_0 rfl rfl ?_
  refine j_iload_n dX5_pay_1 rfl rfl ?_
  refine j_iload_n dX5_pay_2 rfl rfl ?_
  refine j_callV (c_isNoPair X a b) dX5_pay_3 rfl mv_X5_134 (by first | exact X.1 | exact X.2.1 | exact X.2.2.2.1 | exact X.2.2.2.2.1 | exact X.2.2.2.2.2.2.1.o | exact X.2.2.2.2.2.2.1.c | exact X.2.2.2.2.2.2.1.i | exact X.2.2.2.2.2.2.1.p | exact X.2.2.2.2.2.2.1.d | exact X.2.2.2.2.2.2.2.1.o | exact X.2.2.2.2.2.2.2.2.1 | exact X.2.2.2.2.2.2.2.2.2.1 | exact X.2.2.2.2.2.2.2.2.2.2.2.1 | exact X.2.2.2.2.2.2.2.2.2.2.2.2.2.1 | exact X.2.2.2.2.2.2.2.2.2.2.2.2.2.2.1 | exact X.2.2.2.2.2.2.2.2.2.2.2.2.2.2.2) rfl ⟨(Nat.le_of_ble_eq_true rfl), (Nat.le_of_ble_eq_true rfl)⟩ ⟨(Nat.le_of_ble_eq_true rfl), (Nat.le_of_ble_eq_true rfl)⟩ (Nat.le_of_ble_eq_true rfl) ?_
  refine j_if_ne 20 dX5_pay_6 (by decide) (fun b6 => ?_) (fun b6 => ?_)
  · refine j_ldc (-1000001) dX5_pay_20 kc_X5_59 ?_
    exact j_iret rfl dX5_pay_22 rfl rfl (Nat.le_of_ble_eq_true rfl) (Nat.le_of_ble_eq_true rfl)
  · refine j_iload_n dX5_pay_9 rfl rfl ?_
    refine j_iconst (nI 1) dX5_pay_10 rfl ?_
    refine j_icmp_lt 20 dX5_pay_11 (by decide) (fun b11 => ?_) (fun b11 => ?_)
    · refine j_ldc (-1000001) dX5_pay_20 kc_X5_59 ?_
      exact j_iret rfl dX5_pay_22 rfl rfl (Nat.le_of_ble_eq_true rfl) (Nat.le_of_ble_eq_true rfl)
    · refine j_iload_n dX5_pay_14 rfl rfl ?_
      refine j_ldc (99999) dX5_pay_15 kc_X5_144 ?_
      refine j_icmp_le 23 dX5_pay_17 (by decide) (fun b17 => ?_) (fun b17 => ?_)
      · exfalso
        rcases h with h | h | h
        · exact h b6
        · exact b11 h
        · exact absurd b17 (Int32.not_le.mpr h)
      · refine j_ldc (-1000001) dX5_pay_20 kc_X5_59 ?_
        exact j_iret rfl dX5_pay_22 rfl rfl (Nat.le_of_ble_eq_true rfl) (Nat.le_of_ble_eq_true rfl)
theorem x_pay_state (X : XR σ lf fd rl rn ri tp rd dd d df nx kp da di tr bo ne) {p q : Nat} (hN : sN d ≤ 7) (hp : p < sN d) (hq : q < sN d) (hpq : p ≠ q) (n : Int32) (h1 : ¬ n < nI 1) (h2 : n ≤ 99999) (h : sD d (p * 7 + q) < n ∨ sC d p < n) : Ct G yX5_pay cX5_pay 4 (some .int) 4 0 0 z σ [.ref 0, .int (nI p), .int (nI q), .int n] (some (.int (-1000002))) z σ := by
  refine Ct.ofJ RX5 rfl [some (.ref 0), some (.int (nI p)), some (.int (nI q)), some (.int n)] rfl (by decide) Nat.le.refl ?_
  refine j_aload_n dX5_pay_0 rfl rfl ?_
  refine j_iload_n dX5_pay_1 rfl rfl ?_
  refine j_iload_n dX5_pay_2 rfl rfl ?_
  refine j_callV (c_isNoPair X (nI p) (nI q)) dX5_pay_3 rfl mv_X5_134 (by first | exact X.1 | exact X.2.1 | exact X.2.2.2.1 | exact X.2.2.2.2.1 | exact X.2.2.2.2.2.2.1.o | exact X.2.2.2.2.2.2.1.c | exact X.2.2.2.2.2.2.1.i | exact X.2.2.2.2.2.2.1.p | exact X.2.2.2.2.2.2.1.d | exact X.2.2.2.2.2.2.2.1.o | exact X.2.2.2.2.2.2.2.2.1 | exact X.2.2.2.2.2.2.2.2.2.1 | exact X.2.2.2.2.2.2.2.2.2.2.2.1 | exact X.2.2.2.2.2.2.2.2.2.2.2.2.2.1 | exact X.2.2.2.2.2.2.2.2.2.2.2.2.2.2.1 | exact X.2.2.2.2.2.2.2.2.2.2.2.2.2.2.2) rfl ⟨(Nat.le_of_ble_eq_true rfl), (Nat.le_of_ble_eq_true rfl)⟩ ⟨(Nat.le_of_ble_eq_true rfl), (Nat.le_of_ble_eq_true rfl)⟩ (Nat.le_of_ble_eq_true rfl) ?_
  refine j_top (nI 0) (nqI_k hp hq hpq hN) ?_
  refine j_if_ne 20 dX5_pay_6 (by decide) (fun h => absurd rfl h) (fun _ => ?_)
  refine j_iload_n dX5_pay_9 rfl rfl ?_
  refine j_iconst (nI 1) dX5_pay_10 rfl ?_
  refine j_icmp_lt 20 dX5_pay_11 (by decide) (fun b11 => ?_) (fun b11 => ?_)
  · exact absurd b11 h1
  · refine j_iload_n dX5_pay_14 rfl rfl ?_
    refine j_ldc (99999) dX5_pay_15 kc_X5_144 ?_
    refine j_icmp_le 23 dX5_pay_17 (by decide) (fun b17 => ?_) (fun b17 => ?_)
    · refine j_aload_n dX5_pay_23 rfl rfl ?_
      refine j_getf dX5_pay_24 5 4 rfl (Nat.le_of_ble_eq_true rfl) fl_X5_26 in_5 (by first | exact X.1 | exact X.2.1 | exact X.2.2.2.1 | exact X.2.2.2.2.1 | exact X.2.2.2.2.2.2.1.o | exact X.2.2.2.2.2.2.1.c | exact X.2.2.2.2.2.2.1.i | exact X.2.2.2.2.2.2.1.p | exact X.2.2.2.2.2.2.1.d | exact X.2.2.2.2.2.2.2.1.o | exact X.2.2.2.2.2.2.2.2.1 | exact X.2.2.2.2.2.2.2.2.2.1 | exact X.2.2.2.2.2.2.2.2.2.2.2.1 | exact X.2.2.2.2.2.2.2.2.2.2.2.2.2.1 | exact X.2.2.2.2.2.2.2.2.2.2.2.2.2.2.1 | exact X.2.2.2.2.2.2.2.2.2.2.2.2.2.2.2) rfl ?_
      refine j_iload_n dX5_pay_27 rfl rfl ?_
      refine j_iload_n dX5_pay_28 rfl rfl ?_
      refine j_callV (c_debtOfS X.2.2.2.2.2.2.1 (by omega)) dX5_pay_29 rfl mv_X5_141 (by first | exact X.1 | exact X.2.1 | exact X.2.2.2.1 | exact X.2.2.2.2.1 | exact X.2.2.2.2.2.2.1.o | exact X.2.2.2.2.2.2.1.c | exact X.2.2.2.2.2.2.1.i | exact X.2.2.2.2.2.2.1.p | exact X.2.2.2.2.2.2.1.d | exact X.2.2.2.2.2.2.2.1.o | exact X.2.2.2.2.2.2.2.2.1 | exact X.2.2.2.2.2.2.2.2.2.1 | exact X.2.2.2.2.2.2.2.2.2.2.2.1 | exact X.2.2.2.2.2.2.2.2.2.2.2.2.2.1 | exact X.2.2.2.2.2.2.2.2.2.2.2.2.2.2.1 | exact X.2.2.2.2.2.2.2.2.2.2.2.2.2.2.2) rfl ⟨(Nat.le_of_ble_eq_true rfl), (Nat.le_of_ble_eq_true rfl)⟩ ⟨(Nat.le_of_ble_eq_true rfl), (Nat.le_of_ble_eq_true rfl)⟩ (Nat.le_of_ble_eq_true rfl) ?_
      refine j_iload_n dX5_pay_32 rfl rfl ?_
      refine j_icmp_lt 49 dX5_pay_33 (by decide) (fun b33 => ?_) (fun b33 => ?_)
      · refine j_ldc (-1000002) dX5_pay_49 kc_X5_140 ?_
        exact j_iret rfl dX5_pay_51 rfl rfl (Nat.le_of_ble_eq_true rfl) (Nat.le_of_ble_eq_true rfl)
      · refine j_aload_n dX5_pay_36 rfl rfl ?_
        refine j_getf dX5_pay_37 5 4 rfl (Nat.le_of_ble_eq_true rfl) fl_X5_26 in_5 (by first | exact X.1 | exact X.2.1 | exact X.2.2.2.1 | exact X.2.2.2.2.1 | exact X.2.2.2.2.2.2.1.o | exact X.2.2.2.2.2.2.1.c | exact X.2.2.2.2.2.2.1.i | exact X.2.2.2.2.2.2.1.p | exact X.2.2.2.2.2.2.1.d | exact X.2.2.2.2.2.2.2.1.o | exact X.2.2.2.2.2.2.2.2.1 | exact X.2.2.2.2.2.2.2.2.2.1 | exact X.2.2.2.2.2.2.2.2.2.2.2.1 | exact X.2.2.2.2.2.2.2.2.2.2.2.2.2.1 | exact X.2.2.2.2.2.2.2.2.2.2.2.2.2.2.1 | exact X.2.2.2.2.2.2.2.2.2.2.2.2.2.2.2) rfl ?_
        refine j_getf dX5_pay_40 4 0 rfl (Nat.le_of_ble_eq_true rfl) fl_X5_137 in_4 (by first | exact X.1 | exact X.2.1 | exact X.2.2.2.1 | exact X.2.2.2.2.1 | exact X.2.2.2.2.2.2.1.o | exact X.2.2.2.2.2.2.1.c | exact X.2.2.2.2.2.2.1.i | exact X.2.2.2.2.2.2.1.p | exact X.2.2.2.2.2.2.1.d | exact X.2.2.2.2.2.2.2.1.o | exact X.2.2.2.2.2.2.2.2.1 | exact X.2.2.2.2.2.2.2.2.2.1 | exact X.2.2.2.2.2.2.2.2.2.2.2.1 | exact X.2.2.2.2.2.2.2.2.2.2.2.2.2.1 | exact X.2.2.2.2.2.2.2.2.2.2.2.2.2.2.1 | exact X.2.2.2.2.2.2.2.2.2.2.2.2.2.2.2) rfl ?_
        refine j_iload_n dX5_pay_43 rfl rfl ?_
        refine j_iald dX5_pay_44 (by first | exact X.1 | exact X.2.1 | exact X.2.2.2.1 | exact X.2.2.2.2.1 | exact X.2.2.2.2.2.2.1.o | exact X.2.2.2.2.2.2.1.c | exact X.2.2.2.2.2.2.1.i | exact X.2.2.2.2.2.2.1.p | exact X.2.2.2.2.2.2.1.d | exact X.2.2.2.2.2.2.2.1.o | exact X.2.2.2.2.2.2.2.2.1 | exact X.2.2.2.2.2.2.2.2.2.1 | exact X.2.2.2.2.2.2.2.2.2.2.2.1 | exact X.2.2.2.2.2.2.2.2.2.2.2.2.2.1 | exact X.2.2.2.2.2.2.2.2.2.2.2.2.2.2.1 | exact X.2.2.2.2.2.2.2.2.2.2.2.2.2.2.2) rfl (by omega) (by decide) ?_
        refine j_iload_n dX5_pay_45 rfl rfl ?_
        refine j_icmp_ge 52 dX5_pay_46 (by decide) (fun b46 => ?_) (fun b46 => ?_)
        · exfalso
          rcases h with h | h
          · exact b33 h
          · exact absurd h (Int32.not_lt.mpr b46)
        · refine j_ldc (-1000002) dX5_pay_49 kc_X5_140 ?_
          exact j_iret rfl dX5_pay_51 rfl rfl (Nat.le_of_ble_eq_true rfl) (Nat.le_of_ble_eq_true rfl)
    · exact absurd h2 b17
theorem x_pay_ok (X : XR σ lf fd rl rn ri tp rd dd d df nx kp da di tr bo ne) {p q : Nat} (hN : sN d ≤ 7) (hp : p < sN d) (hq : q < sN d) (hpq : p ≠ q) (hn : nx < 24) (hkp : kp ≤ 24) (n : Int32) (h1 : ¬ n < nI 1) (h2 : n ≤ 99999) (h3 : ¬ sD d (p * 7 + q) < n) (h4 : ¬ sC d p < n) : Ct G yX5_pay cX5_pay 4 (some .int) 4 0 0 z σ [.ref 0, .int (nI p), .int (nI q), .int n] (some (.int (sD d (p * 7 + q) + -n))) z (twS (kpH σ nx kp d) 25 (pbC (sC d) p q n, sI d, sP d, upd (sD d) (p * 7 + q) (sD d (p * 7 + q) + -n), sN d, sU d, sR d, sQ d, sH d, sF d)) := by
  refine Ct.ofJ RX5 rfl [some (.ref 0), some (.int (nI p)), some (.int (nI q)), some (.int n)] rfl (by decide) Nat.le.refl ?_
  refine j_aload_n dX5_pay_0 rfl rfl ?_
  refine j_iload_n dX5_pay_1 rfl rfl ?_
  refine j_iload_n dX5_pay_2 rfl rfl ?_
  refine j_callV (c_isNoPair X (nI p) (nI q)) dX5_pay_3 rfl mv_X5_134 (by first | exact X.1 | exact X.2.1 | exact X.2.2.2.1 | exact X.2.2.2.2.1 | exact X.2.2.2.2.2.2.1.o | exact X.2.2.2.2.2.2.1.c | exact X.2.2.2.2.2.2.1.i | exact X.2.2.2.2.2.2.1.p | exact X.2.2.2.2.2.2.1.d | exact X.2.2.2.2.2.2.2.1.o | exact X.2.2.2.2.2.2.2.2.1 | exact X.2.2.2.2.2.2.2.2.2.1 | exact X.2.2.2.2.2.2.2.2.2.2.2.1 | exact X.2.2.2.2.2.2.2.2.2.2.2.2.2.1 | exact X.2.2.2.2.2.2.2.2.2.2.2.2.2.2.1 | exact X.2.2.2.2.2.2.2.2.2.2.2.2.2.2.2) rfl ⟨(Nat.le_of_ble_eq_true rfl), (Nat.le_of_ble_eq_true rfl)⟩ ⟨(Nat.le_of_ble_eq_true rfl), (Nat.le_of_ble_eq_true rfl)⟩ (Nat.le_of_ble_eq_true rfl) ?_
  refine j_top (nI 0) (nqI_k hp hq hpq hN) ?_
  refine j_if_ne 20 dX5_pay_6 (by decide) (fun h => absurd rfl h) (fun _ => ?_)
  refine j_iload_n dX5_pay_9 rfl rfl ?_
  refine j_iconst (nI 1) dX5_pay_10 rfl ?_
  refine j_icmp_lt 20 dX5_pay_11 (by decide) (fun b11 => ?_) (fun b11 => ?_)
  · exact absurd b11 h1
  · refine j_iload_n dX5_pay_14 rfl rfl ?_
    refine j_ldc (99999) dX5_pay_15 kc_X5_144 ?_
    refine j_icmp_le 23 dX5_pay_17 (by decide) (fun b17 => ?_) (fun b17 => ?_)
    · refine j_aload_n dX5_pay_23 rfl rfl ?_
      refine j_getf dX5_pay_24 5 4 rfl (Nat.le_of_ble_eq_true rfl) fl_X5_26 in_5 (by first | exact X.1 | exact X.2.1 | exact X.2.2.2.1 | exact X.2.2.2.2.1 | exact X.2.2.2.2.2.2.1.o | exact X.2.2.2.2.2.2.1.c | exact X.2.2.2.2.2.2.1.i | exact X.2.2.2.2.2.2.1.p | exact X.2.2.2.2.2.2.1.d | exact X.2.2.2.2.2.2.2.1.o | exact X.2.2.2.2.2.2.2.2.1 | exact X.2.2.2.2.2.2.2.2.2.1 | exact X.2.2.2.2.2.2.2.2.2.2.2.1 | exact X.2.2.2.2.2.2.2.2.2.2.2.2.2.1 | exact X.2.2.2.2.2.2.2.2.2.2.2.2.2.2.1 | exact X.2.2.2.2.2.2.2.2.2.2.2.2.2.2.2) rfl ?_
      refine j_iload_n dX5_pay_27 rfl rfl ?_
      refine j_iload_n dX5_pay_28 rfl rfl ?_
      refine j_callV (c_debtOfS X.2.2.2.2.2.2.1 (by omega)) dX5_pay_29 rfl mv_X5_141 (by first | exact X.1 | exact X.2.1 | exact X.2.2.2.1 | exact X.2.2.2.2.1 | exact X.2.2.2.2.2.2.1.o | exact X.2.2.2.2.2.2.1.c | exact X.2.2.2.2.2.2.1.i | exact X.2.2.2.2.2.2.1.p | exact X.2.2.2.2.2.2.1.d | exact X.2.2.2.2.2.2.2.1.o | exact X.2.2.2.2.2.2.2.2.1 | exact X.2.2.2.2.2.2.2.2.2.1 | exact X.2.2.2.2.2.2.2.2.2.2.2.1 | exact X.2.2.2.2.2.2.2.2.2.2.2.2.2.1 | exact X.2.2.2.2.2.2.2.2.2.2.2.2.2.2.1 | exact X.2.2.2.2.2.2.2.2.2.2.2.2.2.2.2) rfl ⟨(Nat.le_of_ble_eq_true rfl), (Nat.le_of_ble_eq_true rfl)⟩ ⟨(Nat.le_of_ble_eq_true rfl), (Nat.le_of_ble_eq_true rfl)⟩ (Nat.le_of_ble_eq_true rfl) ?_
      refine j_iload_n dX5_pay_32 rfl rfl ?_
      refine j_icmp_lt 49 dX5_pay_33 (by decide) (fun b33 => ?_) (fun b33 => ?_)
      · exact absurd b33 h3
      · refine j_aload_n dX5_pay_36 rfl rfl ?_
        refine j_getf dX5_pay_37 5 4 rfl (Nat.le_of_ble_eq_true rfl) fl_X5_26 in_5 (by first | exact X.1 | exact X.2.1 | exact X.2.2.2.1 | exact X.2.2.2.2.1 | exact X.2.2.2.2.2.2.1.o | exact X.2.2.2.2.2.2.1.c | exact X.2.2.2.2.2.2.1.i | exact X.2.2.2.2.2.2.1.p | exact X.2.2.2.2.2.2.1.d | exact X.2.2.2.2.2.2.2.1.o | exact X.2.2.2.2.2.2.2.2.1 | exact X.2.2.2.2.2.2.2.2.2.1 | exact X.2.2.2.2.2.2.2.2.2.2.2.1 | exact X.2.2.2.2.2.2.2.2.2.2.2.2.2.1 | exact X.2.2.2.2.2.2.2.2.2.2.2.2.2.2.1 | exact X.2.2.2.2.2.2.2.2.2.2.2.2.2.2.2) rfl ?_
        refine j_getf dX5_pay_40 4 0 rfl (Nat.le_of_ble_eq_true rfl) fl_X5_137 in_4 (by first | exact X.1 | exact X.2.1 | exact X.2.2.2.1 | exact X.2.2.2.2.1 | exact X.2.2.2.2.2.2.1.o | exact X.2.2.2.2.2.2.1.c | exact X.2.2.2.2.2.2.1.i | exact X.2.2.2.2.2.2.1.p | exact X.2.2.2.2.2.2.1.d | exact X.2.2.2.2.2.2.2.1.o | exact X.2.2.2.2.2.2.2.2.1 | exact X.2.2.2.2.2.2.2.2.2.1 | exact X.2.2.2.2.2.2.2.2.2.2.2.1 | exact X.2.2.2.2.2.2.2.2.2.2.2.2.2.1 | exact X.2.2.2.2.2.2.2.2.2.2.2.2.2.2.1 | exact X.2.2.2.2.2.2.2.2.2.2.2.2.2.2.2) rfl ?_
        refine j_iload_n dX5_pay_43 rfl rfl ?_
        refine j_iald dX5_pay_44 (by first | exact X.1 | exact X.2.1 | exact X.2.2.2.1 | exact X.2.2.2.2.1 | exact X.2.2.2.2.2.2.1.o | exact X.2.2.2.2.2.2.1.c | exact X.2.2.2.2.2.2.1.i | exact X.2.2.2.2.2.2.1.p | exact X.2.2.2.2.2.2.1.d | exact X.2.2.2.2.2.2.2.1.o | exact X.2.2.2.2.2.2.2.2.1 | exact X.2.2.2.2.2.2.2.2.2.1 | exact X.2.2.2.2.2.2.2.2.2.2.2.1 | exact X.2.2.2.2.2.2.2.2.2.2.2.2.2.1 | exact X.2.2.2.2.2.2.2.2.2.2.2.2.2.2.1 | exact X.2.2.2.2.2.2.2.2.2.2.2.2.2.2.2) rfl (by omega) (by decide) ?_
        refine j_iload_n dX5_pay_45 rfl rfl ?_
        refine j_icmp_ge 52 dX5_pay_46 (by decide) (fun b46 => ?_) (fun b46 => ?_)
        · refine j_aload_n dX5_pay_52 rfl rfl ?_
          refine j_getf dX5_pay_53 5 6 rfl (Nat.le_of_ble_eq_true rfl) fl_X5_36 in_5 (by first | exact X.1 | exact X.2.1 | exact X.2.2.2.1 | exact X.2.2.2.2.1 | exact X.2.2.2.2.2.2.1.o | exact X.2.2.2.2.2.2.1.c | exact X.2.2.2.2.2.2.1.i | exact X.2.2.2.2.2.2.1.p | exact X.2.2.2.2.2.2.1.d | exact X.2.2.2.2.2.2.2.1.o | exact X.2.2.2.2.2.2.2.2.1 | exact X.2.2.2.2.2.2.2.2.2.1 | exact X.2.2.2.2.2.2.2.2.2.2.2.1 | exact X.2.2.2.2.2.2.2.2.2.2.2.2.2.1 | exact X.2.2.2.2.2.2.2.2.2.2.2.2.2.2.1 | exact X.2.2.2.2.2.2.2.2.2.2.2.2.2.2.2) rfl ?_
          refine j_aload_n dX5_pay_56 rfl rfl ?_
          refine j_getf dX5_pay_57 5 4 rfl (Nat.le_of_ble_eq_true rfl) fl_X5_26 in_5 (by first | exact X.1 | exact X.2.1 | exact X.2.2.2.1 | exact X.2.2.2.2.1 | exact X.2.2.2.2.2.2.1.o | exact X.2.2.2.2.2.2.1.c | exact X.2.2.2.2.2.2.1.i | exact X.2.2.2.2.2.2.1.p | exact X.2.2.2.2.2.2.1.d | exact X.2.2.2.2.2.2.2.1.o | exact X.2.2.2.2.2.2.2.2.1 | exact X.2.2.2.2.2.2.2.2.2.1 | exact X.2.2.2.2.2.2.2.2.2.2.2.1 | exact X.2.2.2.2.2.2.2.2.2.2.2.2.2.1 | exact X.2.2.2.2.2.2.2.2.2.2.2.2.2.2.1 | exact X.2.2.2.2.2.2.2.2.2.2.2.2.2.2.2) rfl ?_
          refine j_callV (c_keep X hn hkp) dX5_pay_60 rfl mv_X5_145 (by first | exact X.1 | exact X.2.1 | exact X.2.2.2.1 | exact X.2.2.2.2.1 | exact X.2.2.2.2.2.2.1.o | exact X.2.2.2.2.2.2.1.c | exact X.2.2.2.2.2.2.1.i | exact X.2.2.2.2.2.2.1.p | exact X.2.2.2.2.2.2.1.d | exact X.2.2.2.2.2.2.2.1.o | exact X.2.2.2.2.2.2.2.2.1 | exact X.2.2.2.2.2.2.2.2.2.1 | exact X.2.2.2.2.2.2.2.2.2.2.2.1 | exact X.2.2.2.2.2.2.2.2.2.2.2.2.2.1 | exact X.2.2.2.2.2.2.2.2.2.2.2.2.2.2.1 | exact X.2.2.2.2.2.2.2.2.2.2.2.2.2.2.2) rfl ⟨(Nat.le_of_ble_eq_true rfl), (Nat.le_of_ble_eq_true rfl)⟩ ⟨(Nat.le_of_ble_eq_true rfl), (Nat.le_of_ble_eq_true rfl)⟩ (Nat.le_of_ble_eq_true rfl) ?_
          have X := (X.act nx hn d).acts (nxt nx) (min (kp + 1) 24)
          refine j_aload_n dX5_pay_63 rfl rfl ?_
          refine j_getf dX5_pay_64 5 4 rfl (Nat.le_of_ble_eq_true rfl) fl_X5_26 in_5 (by first | exact X.1 | exact X.2.1 | exact X.2.2.2.1 | exact X.2.2.2.2.1 | exact X.2.2.2.2.2.2.1.o | exact X.2.2.2.2.2.2.1.c | exact X.2.2.2.2.2.2.1.i | exact X.2.2.2.2.2.2.1.p | exact X.2.2.2.2.2.2.1.d | exact X.2.2.2.2.2.2.2.1.o | exact X.2.2.2.2.2.2.2.2.1 | exact X.2.2.2.2.2.2.2.2.2.1 | exact X.2.2.2.2.2.2.2.2.2.2.2.1 | exact X.2.2.2.2.2.2.2.2.2.2.2.2.2.1 | exact X.2.2.2.2.2.2.2.2.2.2.2.2.2.2.1 | exact X.2.2.2.2.2.2.2.2.2.2.2.2.2.2.2) rfl ?_
          refine j_iload_n dX5_pay_67 rfl rfl ?_
          refine j_iload_n dX5_pay_68 rfl rfl ?_
          refine j_iload_n dX5_pay_69 rfl rfl ?_
          refine j_callV (c_paysBackS X.2.2.2.2.2.2.1 n (by omega) (by omega)) dX5_pay_70 rfl mv_X5_152 (by first | exact X.1 | exact X.2.1 | exact X.2.2.2.1 | exact X.2.2.2.2.1 | exact X.2.2.2.2.2.2.1.o | exact X.2.2.2.2.2.2.1.c | exact X.2.2.2.2.2.2.1.i | exact X.2.2.2.2.2.2.1.p | exact X.2.2.2.2.2.2.1.d | exact X.2.2.2.2.2.2.2.1.o | exact X.2.2.2.2.2.2.2.2.1 | exact X.2.2.2.2.2.2.2.2.2.1 | exact X.2.2.2.2.2.2.2.2.2.2.2.1 | exact X.2.2.2.2.2.2.2.2.2.2.2.2.2.1 | exact X.2.2.2.2.2.2.2.2.2.2.2.2.2.2.1 | exact X.2.2.2.2.2.2.2.2.2.2.2.2.2.2.2) rfl ⟨(Nat.le_of_ble_eq_true rfl), (Nat.le_of_ble_eq_true rfl)⟩ ⟨(Nat.le_of_ble_eq_true rfl), (Nat.le_of_ble_eq_true rfl)⟩ (Nat.le_of_ble_eq_true rfl) ?_
          have X := X.town (pbC (sC d) p q n, sI d, sP d, upd (sD d) (p * 7 + q) (sD d (p * 7 + q) + -n), sN d, sU d, sR d, sQ d, sH d, sF d)
          refine j_aload_n dX5_pay_73 rfl rfl ?_
          refine j_getf dX5_pay_74 5 4 rfl (Nat.le_of_ble_eq_true rfl) fl_X5_26 in_5 (by first | exact X.1 | exact X.2.1 | exact X.2.2.2.1 | exact X.2.2.2.2.1 | exact X.2.2.2.2.2.2.1.o | exact X.2.2.2.2.2.2.1.c | exact X.2.2.2.2.2.2.1.i | exact X.2.2.2.2.2.2.1.p | exact X.2.2.2.2.2.2.1.d | exact X.2.2.2.2.2.2.2.1.o | exact X.2.2.2.2.2.2.2.2.1 | exact X.2.2.2.2.2.2.2.2.2.1 | exact X.2.2.2.2.2.2.2.2.2.2.2.1 | exact X.2.2.2.2.2.2.2.2.2.2.2.2.2.1 | exact X.2.2.2.2.2.2.2.2.2.2.2.2.2.2.1 | exact X.2.2.2.2.2.2.2.2.2.2.2.2.2.2.2) rfl ?_
          refine j_iload_n dX5_pay_77 rfl rfl ?_
          refine j_iload_n dX5_pay_78 rfl rfl ?_
          refine j_callV (c_debtOfS X.2.2.2.2.2.2.1 (by omega)) dX5_pay_79 rfl mv_X5_141 (by first | exact X.1 | exact X.2.1 | exact X.2.2.2.1 | exact X.2.2.2.2.1 | exact X.2.2.2.2.2.2.1.o | exact X.2.2.2.2.2.2.1.c | exact X.2.2.2.2.2.2.1.i | exact X.2.2.2.2.2.2.1.p | exact X.2.2.2.2.2.2.1.d | exact X.2.2.2.2.2.2.2.1.o | exact X.2.2.2.2.2.2.2.2.1 | exact X.2.2.2.2.2.2.2.2.2.1 | exact X.2.2.2.2.2.2.2.2.2.2.2.1 | exact X.2.2.2.2.2.2.2.2.2.2.2.2.2.1 | exact X.2.2.2.2.2.2.2.2.2.2.2.2.2.2.1 | exact X.2.2.2.2.2.2.2.2.2.2.2.2.2.2.2) rfl ⟨(Nat.le_of_ble_eq_true rfl), (Nat.le_of_ble_eq_true rfl)⟩ ⟨(Nat.le_of_ble_eq_true rfl), (Nat.le_of_ble_eq_true rfl)⟩ (Nat.le_of_ble_eq_true rfl) ?_
          exact j_iret rfl dX5_pay_82 (by rw [show sD (pbC (sC d) p q n, sI d, sP d, upd (sD d) (p * 7 + q) (sD d (p * 7 + q) + -n), sN d, sU d, sR d, sQ d, sH d, sF d) (p * 7 + q) = sD d (p * 7 + q) + -n from pk_us]) rfl (Nat.le_of_ble_eq_true rfl) (Nat.le_of_ble_eq_true rfl)
        · exact absurd (Int32.not_lt.mp h4) b46
    · exact absurd h2 b17
end O2
end
section
/-! THE CLASS's calls: paint, hedge, quarter, undo, person, images, kinds, counts, cheats, walk -/
theorem dX5_image_0 : decode cX5_image 0 = .ok (.iload_n 1, 1) := by decide +kernel
theorem dX5_image_1 : decode cX5_image 1 = .ok (.ifCond .lt 8, 3) := by decide +kernel
theorem dX5_image_4 : decode cX5_image 4 = .ok (.iload_n 1, 1) := by decide +kernel
theorem dX5_image_5 : decode cX5_image 5 = .ok (.iconst 2, 1) := by decide +kernel
theorem dX5_image_6 : decode cX5_image 6 = .ok (.if_icmp .lt 6, 3) := by decide +kernel
theorem dX5_image_9 : decode cX5_image 9 = .ok (.ldc 59, 2) := by decide +kernel
theorem dX5_image_11 : decode cX5_image 11 = .ok (.ireturn, 1) := by decide +kernel
theorem dX5_image_12 : decode cX5_image 12 = .ok (.aload_n 0, 1) := by decide +kernel
theorem dX5_image_13 : decode cX5_image 13 = .ok (.invokevirtual 170, 3) := by decide +kernel
theorem dX5_image_16 : decode cX5_image 16 = .ok (.ifCond .eq 6, 3) := by decide +kernel
theorem dX5_image_19 : decode cX5_image 19 = .ok (.ldc 140, 2) := by decide +kernel
theorem dX5_image_21 : decode cX5_image 21 = .ok (.ireturn, 1) := by decide +kernel
theorem dX5_image_22 : decode cX5_image 22 = .ok (.aload_n 0, 1) := by decide +kernel
theorem dX5_image_23 : decode cX5_image 23 = .ok (.getfield 40, 3) := by decide +kernel
theorem dX5_image_26 : decode cX5_image 26 = .ok (.iload_n 1, 1) := by decide +kernel
theorem dX5_image_27 : decode cX5_image 27 = .ok (.aaload, 1) := by decide +kernel
theorem dX5_image_28 : decode cX5_image 28 = .ok (.aload_n 0, 1) := by decide +kernel
theorem dX5_image_29 : decode cX5_image 29 = .ok (.getfield 26, 3) := by decide +kernel
theorem dX5_image_32 : decode cX5_image 32 = .ok (.invokevirtual 124, 3) := by decide +kernel
theorem dX5_image_35 : decode cX5_image 35 = .ok (.iconst 1, 1) := by decide +kernel
theorem dX5_image_36 : decode cX5_image 36 = .ok (.ireturn, 1) := by decide +kernel
theorem dX5_restore_0 : decode cX5_restore 0 = .ok (.iload_n 1, 1) := by decide +kernel
theorem dX5_restore_1 : decode cX5_restore 1 = .ok (.ifCond .lt 8, 3) := by decide +kernel
theorem dX5_restore_4 : decode cX5_restore 4 = .ok (.iload_n 1, 1) := by decide +kernel
theorem dX5_restore_5 : decode cX5_restore 5 = .ok (.iconst 2, 1) := by decide +kernel
theorem dX5_restore_6 : decode cX5_restore 6 = .ok (.if_icmp .lt 6, 3) := by decide +kernel
theorem dX5_restore_9 : decode cX5_restore 9 = .ok (.ldc 59, 2) := by decide +kernel
theorem dX5_restore_11 : decode cX5_restore 11 = .ok (.ireturn, 1) := by decide +kernel
theorem dX5_restore_12 : decode cX5_restore 12 = .ok (.aload_n 0, 1) := by decide +kernel
theorem dX5_restore_13 : decode cX5_restore 13 = .ok (.getfield 40, 3) := by decide +kernel
theorem dX5_restore_16 : decode cX5_restore 16 = .ok (.iload_n 1, 1) := by decide +kernel
theorem dX5_restore_17 : decode cX5_restore 17 = .ok (.aaload, 1) := by decide +kernel
theorem dX5_restore_18 : decode cX5_restore 18 = .ok (.getfield 131, 3) := by decide +kernel
theorem dX5_restore_21 : decode cX5_restore 21 = .ok (.ifCond .ne 6, 3) := by decide +kernel
theorem dX5_restore_24 : decode cX5_restore 24 = .ok (.ldc 140, 2) := by decide +kernel
theorem dX5_restore_26 : decode cX5_restore 26 = .ok (.ireturn, 1) := by decide +kernel
theorem dX5_restore_27 : decode cX5_restore 27 = .ok (.aload_n 0, 1) := by decide +kernel
theorem dX5_restore_28 : decode cX5_restore 28 = .ok (.getfield 26, 3) := by decide +kernel
theorem dX5_restore_31 : decode cX5_restore 31 = .ok (.aload_n 0, 1) := by decide +kernel
theorem dX5_restore_32 : decode cX5_restore 32 = .ok (.getfield 40, 3) := by decide +kernel
theorem dX5_restore_35 : decode cX5_restore 35 = .ok (.iload_n 1, 1) := by decide +kernel
theorem dX5_restore_36 : decode cX5_restore 36 = .ok (.aaload, 1) := by decide +kernel
theorem dX5_restore_37 : decode cX5_restore 37 = .ok (.invokevirtual 124, 3) := by decide +kernel
theorem dX5_restore_40 : decode cX5_restore 40 = .ok (.aload_n 0, 1) := by decide +kernel
theorem dX5_restore_41 : decode cX5_restore 41 = .ok (.getfield 36, 3) := by decide +kernel
theorem dX5_restore_44 : decode cX5_restore 44 = .ok (.invokevirtual 128, 3) := by decide +kernel
theorem dX5_restore_47 : decode cX5_restore 47 = .ok (.iconst 1, 1) := by decide +kernel
theorem dX5_restore_48 : decode cX5_restore 48 = .ok (.ireturn, 1) := by decide +kernel
theorem dX5_kind_0 : decode cX5_kind 0 = .ok (.aload_n 0, 1) := by decide +kernel
theorem dX5_kind_1 : decode cX5_kind 1 = .ok (.iload_n 1, 1) := by decide +kernel
theorem dX5_kind_2 : decode cX5_kind 2 = .ok (.invokevirtual 155, 3) := by decide +kernel
theorem dX5_kind_5 : decode cX5_kind 5 = .ok (.ifCond .eq 6, 3) := by decide +kernel
theorem dX5_kind_8 : decode cX5_kind 8 = .ok (.ldc 59, 2) := by decide +kernel
theorem dX5_kind_10 : decode cX5_kind 10 = .ok (.ireturn, 1) := by decide +kernel
theorem dX5_kind_11 : decode cX5_kind 11 = .ok (.aload_n 0, 1) := by decide +kernel
theorem dX5_kind_12 : decode cX5_kind 12 = .ok (.getfield 26, 3) := by decide +kernel
theorem dX5_kind_15 : decode cX5_kind 15 = .ok (.iload_n 1, 1) := by decide +kernel
theorem dX5_kind_16 : decode cX5_kind 16 = .ok (.invokevirtual 230, 3) := by decide +kernel
theorem dX5_kind_19 : decode cX5_kind 19 = .ok (.ireturn, 1) := by decide +kernel
theorem dX5_as_0 : decode cX5_as 0 = .ok (.aload_n 0, 1) := by decide +kernel
theorem dX5_as_1 : decode cX5_as 1 = .ok (.iload_n 1, 1) := by decide +kernel
theorem dX5_as_2 : decode cX5_as 2 = .ok (.invokevirtual 155, 3) := by decide +kernel
theorem dX5_as_5 : decode cX5_as 5 = .ok (.ifCond .ne 13, 3) := by decide +kernel
theorem dX5_as_8 : decode cX5_as 8 = .ok (.iload_n 2, 1) := by decide +kernel
theorem dX5_as_9 : decode cX5_as 9 = .ok (.ifCond .lt 9, 3) := by decide +kernel
theorem dX5_as_12 : decode cX5_as 12 = .ok (.iload_n 2, 1) := by decide +kernel
theorem dX5_as_13 : decode cX5_as 13 = .ok (.bipush 6, 2) := by decide +kernel
theorem dX5_as_15 : decode cX5_as 15 = .ok (.if_icmp .lt 6, 3) := by decide +kernel
theorem dX5_as_18 : decode cX5_as 18 = .ok (.ldc 59, 2) := by decide +kernel
theorem dX5_as_20 : decode cX5_as 20 = .ok (.ireturn, 1) := by decide +kernel
theorem dX5_as_21 : decode cX5_as 21 = .ok (.getstatic 233, 3) := by decide +kernel
theorem dX5_as_24 : decode cX5_as 24 = .ok (.aload_n 0, 1) := by decide +kernel
theorem dX5_as_25 : decode cX5_as 25 = .ok (.getfield 26, 3) := by decide +kernel
theorem dX5_as_28 : decode cX5_as 28 = .ok (.iload_n 1, 1) := by decide +kernel
theorem dX5_as_29 : decode cX5_as 29 = .ok (.invokevirtual 230, 3) := by decide +kernel
theorem dX5_as_32 : decode cX5_as 32 = .ok (.iaload, 1) := by decide +kernel
theorem dX5_as_33 : decode cX5_as 33 = .ok (.iload_n 2, 1) := by decide +kernel
theorem dX5_as_34 : decode cX5_as 34 = .ok (.invokestatic 167, 3) := by decide +kernel
theorem dX5_as_37 : decode cX5_as 37 = .ok (.ifCond .ne 9, 3) := by decide +kernel
theorem dX5_as_40 : decode cX5_as 40 = .ok (.aload_n 0, 1) := by decide +kernel
theorem dX5_as_41 : decode cX5_as 41 = .ok (.iconst 3, 1) := by decide +kernel
theorem dX5_as_42 : decode cX5_as 42 = .ok (.invokevirtual 60, 3) := by decide +kernel
theorem dX5_as_45 : decode cX5_as 45 = .ok (.ireturn, 1) := by decide +kernel
theorem dX5_as_46 : decode cX5_as 46 = .ok (.aload_n 0, 1) := by decide +kernel
theorem dX5_as_47 : decode cX5_as 47 = .ok (.iload_n 1, 1) := by decide +kernel
theorem dX5_as_48 : decode cX5_as 48 = .ok (.invokevirtual 68, 3) := by decide +kernel
theorem dX5_as_51 : decode cX5_as 51 = .ok (.ireturn, 1) := by decide +kernel
theorem dX5_trace_0 : decode cX5_trace 0 = .ok (.iload_n 1, 1) := by decide +kernel
theorem dX5_trace_1 : decode cX5_trace 1 = .ok (.ifCond .lt 14, 3) := by decide +kernel
theorem dX5_trace_4 : decode cX5_trace 4 = .ok (.iload_n 1, 1) := by decide +kernel
theorem dX5_trace_5 : decode cX5_trace 5 = .ok (.aload_n 0, 1) := by decide +kernel
theorem dX5_trace_6 : decode cX5_trace 6 = .ok (.getfield 47, 3) := by decide +kernel
theorem dX5_trace_9 : decode cX5_trace 9 = .ok (.getfield 240, 3) := by decide +kernel
theorem dX5_trace_12 : decode cX5_trace 12 = .ok (.if_icmp .lt 6, 3) := by decide +kernel
theorem dX5_trace_15 : decode cX5_trace 15 = .ok (.ldc 220, 2) := by decide +kernel
theorem dX5_trace_17 : decode cX5_trace 17 = .ok (.ireturn, 1) := by decide +kernel
theorem dX5_trace_18 : decode cX5_trace 18 = .ok (.aload_n 0, 1) := by decide +kernel
theorem dX5_trace_19 : decode cX5_trace 19 = .ok (.getfield 47, 3) := by decide +kernel
theorem dX5_trace_22 : decode cX5_trace 22 = .ok (.getfield 243, 3) := by decide +kernel
theorem dX5_trace_25 : decode cX5_trace 25 = .ok (.iload_n 1, 1) := by decide +kernel
theorem dX5_trace_26 : decode cX5_trace 26 = .ok (.iaload, 1) := by decide +kernel
theorem dX5_trace_27 : decode cX5_trace 27 = .ok (.ireturn, 1) := by decide +kernel
theorem dX5_count_0 : decode cX5_count 0 = .ok (.iload_n 1, 1) := by decide +kernel
theorem dX5_count_1 : decode cX5_count 1 = .ok (.tableswitch 96 0 6 #[43, 48, 56, 64, 72, 80, 88], 43) := by decide +kernel
theorem dX5_count_44 : decode cX5_count 44 = .ok (.aload_n 0, 1) := by decide +kernel
theorem dX5_count_45 : decode cX5_count 45 = .ok (.invokevirtual 246, 3) := by decide +kernel
theorem dX5_count_48 : decode cX5_count 48 = .ok (.ireturn, 1) := by decide +kernel
theorem dX5_count_49 : decode cX5_count 49 = .ok (.aload_n 0, 1) := by decide +kernel
theorem dX5_count_50 : decode cX5_count 50 = .ok (.getfield 26, 3) := by decide +kernel
theorem dX5_count_53 : decode cX5_count 53 = .ok (.getfield 131, 3) := by decide +kernel
theorem dX5_count_56 : decode cX5_count 56 = .ok (.ireturn, 1) := by decide +kernel
theorem dX5_count_57 : decode cX5_count 57 = .ok (.aload_n 0, 1) := by decide +kernel
theorem dX5_count_58 : decode cX5_count 58 = .ok (.getfield 26, 3) := by decide +kernel
theorem dX5_count_61 : decode cX5_count 61 = .ok (.invokevirtual 249, 3) := by decide +kernel
theorem dX5_count_64 : decode cX5_count 64 = .ok (.ireturn, 1) := by decide +kernel
theorem dX5_count_65 : decode cX5_count 65 = .ok (.aload_n 0, 1) := by decide +kernel
theorem dX5_count_66 : decode cX5_count 66 = .ok (.getfield 26, 3) := by decide +kernel
theorem dX5_count_69 : decode cX5_count 69 = .ok (.getfield 174, 3) := by decide +kernel
theorem dX5_count_72 : decode cX5_count 72 = .ok (.ireturn, 1) := by decide +kernel
theorem dX5_count_73 : decode cX5_count 73 = .ok (.aload_n 0, 1) := by decide +kernel
theorem dX5_count_74 : decode cX5_count 74 = .ok (.getfield 36, 3) := by decide +kernel
theorem dX5_count_77 : decode cX5_count 77 = .ok (.getfield 181, 3) := by decide +kernel
theorem dX5_count_80 : decode cX5_count 80 = .ok (.ireturn, 1) := by decide +kernel
theorem dX5_count_81 : decode cX5_count 81 = .ok (.aload_n 0, 1) := by decide +kernel
theorem dX5_count_82 : decode cX5_count 82 = .ok (.getfield 26, 3) := by decide +kernel
theorem dX5_count_85 : decode cX5_count 85 = .ok (.invokevirtual 252, 3) := by decide +kernel
theorem dX5_count_88 : decode cX5_count 88 = .ok (.ireturn, 1) := by decide +kernel
theorem dX5_count_89 : decode cX5_count 89 = .ok (.aload_n 0, 1) := by decide +kernel
theorem dX5_count_90 : decode cX5_count 90 = .ok (.getfield 19, 3) := by decide +kernel
theorem dX5_count_93 : decode cX5_count 93 = .ok (.getfield 102, 3) := by decide +kernel
theorem dX5_count_96 : decode cX5_count 96 = .ok (.ireturn, 1) := by decide +kernel
theorem dX5_count_97 : decode cX5_count 97 = .ok (.ldc 59, 2) := by decide +kernel
theorem dX5_count_99 : decode cX5_count 99 = .ok (.ireturn, 1) := by decide +kernel
theorem dX5_rowsThere_0 : decode cX5_rowsThere 0 = .ok (.iconst 0, 1) := by decide +kernel
theorem dX5_rowsThere_1 : decode cX5_rowsThere 1 = .ok (.istore_n 1, 1) := by decide +kernel
theorem dX5_rowsThere_2 : decode cX5_rowsThere 2 = .ok (.iconst 0, 1) := by decide +kernel
theorem dX5_rowsThere_3 : decode cX5_rowsThere 3 = .ok (.istore_n 2, 1) := by decide +kernel
theorem dX5_rowsThere_4 : decode cX5_rowsThere 4 = .ok (.iload_n 2, 1) := by decide +kernel
theorem dX5_rowsThere_5 : decode cX5_rowsThere 5 = .ok (.bipush 8, 2) := by decide +kernel
theorem dX5_rowsThere_7 : decode cX5_rowsThere 7 = .ok (.if_icmp .ge 24, 3) := by decide +kernel
theorem dX5_rowsThere_10 : decode cX5_rowsThere 10 = .ok (.aload_n 0, 1) := by decide +kernel
theorem dX5_rowsThere_11 : decode cX5_rowsThere 11 = .ok (.getfield 11, 3) := by decide +kernel
theorem dX5_rowsThere_14 : decode cX5_rowsThere 14 = .ok (.iload_n 2, 1) := by decide +kernel
theorem dX5_rowsThere_15 : decode cX5_rowsThere 15 = .ok (.aaload, 1) := by decide +kernel
theorem dX5_rowsThere_16 : decode cX5_rowsThere 16 = .ok (.invokevirtual 71, 3) := by decide +kernel
theorem dX5_rowsThere_19 : decode cX5_rowsThere 19 = .ok (.ifCond .ne 6, 3) := by decide +kernel
theorem dX5_rowsThere_22 : decode cX5_rowsThere 22 = .ok (.iinc 1 1, 3) := by decide +kernel
theorem dX5_rowsThere_25 : decode cX5_rowsThere 25 = .ok (.iinc 2 1, 3) := by decide +kernel
theorem dX5_rowsThere_28 : decode cX5_rowsThere 28 = .ok (.goto (-24), 3) := by decide +kernel
theorem dX5_rowsThere_31 : decode cX5_rowsThere 31 = .ok (.iload_n 1, 1) := by decide +kernel
theorem dX5_rowsThere_32 : decode cX5_rowsThere 32 = .ok (.ireturn, 1) := by decide +kernel
theorem dX5_cheats_0 : decode cX5_cheats 0 = .ok (.aload_n 0, 1) := by decide +kernel
theorem dX5_cheats_1 : decode cX5_cheats 1 = .ok (.invokevirtual 170, 3) := by decide +kernel
theorem dX5_cheats_4 : decode cX5_cheats 4 = .ok (.ifCond .eq 6, 3) := by decide +kernel
theorem dX5_cheats_7 : decode cX5_cheats 7 = .ok (.ldc 140, 2) := by decide +kernel
theorem dX5_cheats_9 : decode cX5_cheats 9 = .ok (.ireturn, 1) := by decide +kernel
theorem dX5_cheats_10 : decode cX5_cheats 10 = .ok (.iconst 0, 1) := by decide +kernel
theorem dX5_cheats_11 : decode cX5_cheats 11 = .ok (.istore_n 1, 1) := by decide +kernel
theorem dX5_cheats_12 : decode cX5_cheats 12 = .ok (.iconst 0, 1) := by decide +kernel
theorem dX5_cheats_13 : decode cX5_cheats 13 = .ok (.istore_n 2, 1) := by decide +kernel
theorem dX5_cheats_14 : decode cX5_cheats 14 = .ok (.iload_n 2, 1) := by decide +kernel
theorem dX5_cheats_15 : decode cX5_cheats 15 = .ok (.aload_n 0, 1) := by decide +kernel
theorem dX5_cheats_16 : decode cX5_cheats 16 = .ok (.getfield 26, 3) := by decide +kernel
theorem dX5_cheats_19 : decode cX5_cheats 19 = .ok (.getfield 131, 3) := by decide +kernel
theorem dX5_cheats_22 : decode cX5_cheats 22 = .ok (.if_icmp .ge 34, 3) := by decide +kernel
theorem dX5_cheats_25 : decode cX5_cheats 25 = .ok (.aload_n 0, 1) := by decide +kernel
theorem dX5_cheats_26 : decode cX5_cheats 26 = .ok (.getfield 26, 3) := by decide +kernel
theorem dX5_cheats_29 : decode cX5_cheats 29 = .ok (.iload_n 2, 1) := by decide +kernel
theorem dX5_cheats_30 : decode cX5_cheats 30 = .ok (.invokevirtual 158, 3) := by decide +kernel
theorem dX5_cheats_33 : decode cX5_cheats 33 = .ok (.aload_n 0, 1) := by decide +kernel
theorem dX5_cheats_34 : decode cX5_cheats 34 = .ok (.getfield 26, 3) := by decide +kernel
theorem dX5_cheats_37 : decode cX5_cheats 37 = .ok (.iload_n 2, 1) := by decide +kernel
theorem dX5_cheats_38 : decode cX5_cheats 38 = .ok (.invokevirtual 193, 3) := by decide +kernel
theorem dX5_cheats_41 : decode cX5_cheats 41 = .ok (.if_icmp .ge 9, 3) := by decide +kernel
theorem dX5_cheats_44 : decode cX5_cheats 44 = .ok (.iload_n 1, 1) := by decide +kernel
theorem dX5_cheats_45 : decode cX5_cheats 45 = .ok (.iconst 1, 1) := by decide +kernel
theorem dX5_cheats_46 : decode cX5_cheats 46 = .ok (.iload_n 2, 1) := by decide +kernel
theorem dX5_cheats_47 : decode cX5_cheats 47 = .ok (.ishl, 1) := by decide +kernel
theorem dX5_cheats_48 : decode cX5_cheats 48 = .ok (.ior, 1) := by decide +kernel
theorem dX5_cheats_49 : decode cX5_cheats 49 = .ok (.istore_n 1, 1) := by decide +kernel
theorem dX5_cheats_50 : decode cX5_cheats 50 = .ok (.iinc 2 1, 3) := by decide +kernel
theorem dX5_cheats_53 : decode cX5_cheats 53 = .ok (.goto (-39), 3) := by decide +kernel
theorem dX5_cheats_56 : decode cX5_cheats 56 = .ok (.iload_n 1, 1) := by decide +kernel
theorem dX5_cheats_57 : decode cX5_cheats 57 = .ok (.ireturn, 1) := by decide +kernel
theorem dX5_walk_0 : decode cX5_walk 0 = .ok (.aload_n 0, 1) := by decide +kernel
theorem dX5_walk_1 : decode cX5_walk 1 = .ok (.iload_n 1, 1) := by decide +kernel
theorem dX5_walk_2 : decode cX5_walk 2 = .ok (.invokevirtual 155, 3) := by decide +kernel
theorem dX5_walk_5 : decode cX5_walk 5 = .ok (.ifCond .ne 16, 3) := by decide +kernel
theorem dX5_walk_8 : decode cX5_walk 8 = .ok (.aload_n 0, 1) := by decide +kernel
theorem dX5_walk_9 : decode cX5_walk 9 = .ok (.iload_n 2, 1) := by decide +kernel
theorem dX5_walk_10 : decode cX5_walk 10 = .ok (.invokevirtual 155, 3) := by decide +kernel
theorem dX5_walk_13 : decode cX5_walk 13 = .ok (.ifCond .ne 8, 3) := by decide +kernel
theorem dX5_walk_16 : decode cX5_walk 16 = .ok (.iload_n 1, 1) := by decide +kernel
theorem dX5_walk_17 : decode cX5_walk 17 = .ok (.iload_n 2, 1) := by decide +kernel
theorem dX5_walk_18 : decode cX5_walk 18 = .ok (.if_icmp .le 6, 3) := by decide +kernel
theorem dX5_walk_21 : decode cX5_walk 21 = .ok (.ldc 59, 2) := by decide +kernel
theorem dX5_walk_23 : decode cX5_walk 23 = .ok (.ireturn, 1) := by decide +kernel
theorem dX5_walk_24 : decode cX5_walk 24 = .ok (.ldc 220, 2) := by decide +kernel
theorem dX5_walk_26 : decode cX5_walk 26 = .ok (.istore_n 3, 1) := by decide +kernel
theorem dX5_walk_27 : decode cX5_walk 27 = .ok (.bipush 10, 2) := by decide +kernel
theorem dX5_walk_29 : decode cX5_walk 29 = .ok (.istore 4, 2) := by decide +kernel
theorem dX5_walk_31 : decode cX5_walk 31 = .ok (.iload_n 1, 1) := by decide +kernel
theorem dX5_walk_32 : decode cX5_walk 32 = .ok (.istore 5, 2) := by decide +kernel
theorem dX5_walk_34 : decode cX5_walk 34 = .ok (.iload 5, 2) := by decide +kernel
theorem dX5_walk_36 : decode cX5_walk 36 = .ok (.iload_n 2, 1) := by decide +kernel
theorem dX5_walk_37 : decode cX5_walk 37 = .ok (.if_icmp .gt 52, 3) := by decide +kernel
theorem dX5_walk_40 : decode cX5_walk 40 = .ok (.aload_n 0, 1) := by decide +kernel
theorem dX5_walk_41 : decode cX5_walk 41 = .ok (.getfield 26, 3) := by decide +kernel
theorem dX5_walk_44 : decode cX5_walk 44 = .ok (.getfield 164, 3) := by decide +kernel
theorem dX5_walk_47 : decode cX5_walk 47 = .ok (.iload 5, 2) := by decide +kernel
theorem dX5_walk_49 : decode cX5_walk 49 = .ok (.invokestatic 167, 3) := by decide +kernel
theorem dX5_walk_52 : decode cX5_walk 52 = .ok (.ifCond .ne 31, 3) := by decide +kernel
theorem dX5_walk_55 : decode cX5_walk 55 = .ok (.aload_n 0, 1) := by decide +kernel
theorem dX5_walk_56 : decode cX5_walk 56 = .ok (.getfield 26, 3) := by decide +kernel
theorem dX5_walk_59 : decode cX5_walk 59 = .ok (.iload 5, 2) := by decide +kernel
theorem dX5_walk_61 : decode cX5_walk 61 = .ok (.invokevirtual 158, 3) := by decide +kernel
theorem dX5_walk_64 : decode cX5_walk 64 = .ok (.iload 4, 2) := by decide +kernel
theorem dX5_walk_66 : decode cX5_walk 66 = .ok (.if_icmp .ge 17, 3) := by decide +kernel
theorem dX5_walk_69 : decode cX5_walk 69 = .ok (.aload_n 0, 1) := by decide +kernel
theorem dX5_walk_70 : decode cX5_walk 70 = .ok (.getfield 26, 3) := by decide +kernel
theorem dX5_walk_73 : decode cX5_walk 73 = .ok (.iload 5, 2) := by decide +kernel
theorem dX5_walk_75 : decode cX5_walk 75 = .ok (.invokevirtual 158, 3) := by decide +kernel
theorem dX5_walk_78 : decode cX5_walk 78 = .ok (.istore 4, 2) := by decide +kernel
theorem dX5_walk_80 : decode cX5_walk 80 = .ok (.iload 5, 2) := by decide +kernel
theorem dX5_walk_82 : decode cX5_walk 82 = .ok (.istore_n 3, 1) := by decide +kernel
theorem dX5_walk_83 : decode cX5_walk 83 = .ok (.iinc 5 1, 3) := by decide +kernel
theorem dX5_walk_86 : decode cX5_walk 86 = .ok (.goto (-52), 3) := by decide +kernel
theorem dX5_walk_89 : decode cX5_walk 89 = .ok (.iload_n 3, 1) := by decide +kernel
theorem dX5_walk_90 : decode cX5_walk 90 = .ok (.ireturn, 1) := by decide +kernel
def chI (pa de : Nat → Int32) (N u : Nat) : Nat → Int32
  | 0 => nI 0
  | p + 1 => if shd de N u p ≤ lks pa de N u p then chI pa de N u p else orI (chI pa de N u p) p
def wlk (pa de : Nat → Int32) (hi : Int32) (N u a : Nat) : Nat → Int32 × Int32
  | 0 => (-1000000, nI 10)
  | k + 1 => if bitI hi (nI (a + k)) = 0 ∧ lks pa de N u (a + k) < (wlk pa de hi N u a k).2 then (nI (a + k), lks pa de N u (a + k)) else wlk pa de hi N u a k
def cntR (rl : Nat → Int32) : Nat → Nat
  | 0 => 0
  | k + 1 => if rl k = -1 then cntR rl k else cntR rl k + 1
theorem tb0_at (q : Nat) (h : q < 6) : tb0.getD q 0 = tb0.getD q 0 := rfl
section O3
variable {G : GG} {z : Nat} {σ : AH} {lf fd : Int32} {rl rn : Nat → Int32} {ri : Nat → Nat → Int32} {tp rd : Nat → Int32} {dd d df : TS} {nx kp : Nat} {da di : Nat → TS} {tr : Nat} {bo ne : Nat → Int32}
theorem x_paint_bad (X : XR σ lf fd rl rn ri tp rd dd d df nx kp da di tr bo ne) (p v : Int32) (h : ¬ npI p (sN d) = 0 ∨ v < 0 ∨ nI 9 < v) : Ct G yX5_paint cX5_paint 4 (some .int) 5 0 0 z σ [.ref 0, .int p, .int v] (some (.int (-1000001))) z σ := by
  refine Ct.ofJ RX5 rfl [some (.ref 0), some (.int p), some (.int v), none] rfl (by decide) (by simp [Value.category]) ?_
  refine j_aload_n dX5_paint_0 rfl rfl ?_
  refine j_iload_n dX5_paint_1 rfl rfl ?_
  refine j_callV (c_isNoPerson X p) dX5_paint_2 rfl mv_X5_155 (by first | exact X.1 | exact X.2.1 | exact X.2.2.2.1 | exact X.2.2.2.2.1 | exact X.2.2.2.2.2.2.1.o | exact X.2.2.2.2.2.2.1.c | exact X.2.2.2.2.2.2.1.i | exact X.2.2.2.2.2.2.1.p | exact X.2.2.2.2.2.2.1.d | exact X.2.2.2.2.2.2.2.1.o | exact X.2.2.2.2.2.2.2.2.1 | exact X.2.2.2.2.2.2.2.2.2.1 | exact X.2.2.2.2.2.2.2.2.2.2.2.1 | exact X.2.2.2.2.2.2.2.2.2.2.2.2.2.1 | exact X.2.2.2.2.2.2.2.2.2.2.2.2.2.2.1 | exact X.2.2.2.2.2.2.2.2.2.2.2.2.2.2.2) rfl ⟨(Nat.le_of_ble_eq_true rfl), (Nat.le_of_ble_eq_true rfl)⟩ ⟨(Nat.le_of_ble_eq_true rfl), (Nat.le_of_ble_eq_true rfl)⟩ (Nat.le_of_ble_eq_true rfl) ?_
  refine j_if_ne 18 dX5_paint_5 (by decide) (fun b5 => ?_) (fun b5 => ?_)
  · refine j_ldc (-1000001) dX5_paint_18 kc_X5_59 ?_
    exact j_iret rfl dX5_paint_20 rfl rfl (Nat.le_of_ble_eq_true rfl) (Nat.le_of_ble_eq_true rfl)
  · refine j_iload_n dX5_paint_8 rfl rfl ?_
    refine j_if_lt 18 dX5_paint_9 (by decide) (fun b9 => ?_) (fun b9 => ?_)
    · refine j_ldc (-1000001) dX5_paint_18 kc_X5_59 ?_
      exact j_iret rfl dX5_paint_20 rfl rfl (Nat.le_of_ble_eq_true rfl) (Nat.le_of_ble_eq_true rfl)
    · refine j_iload_n dX5_paint_12 rfl rfl ?_
      refine j_bipush (nI 9) dX5_paint_13 rfl ?_
      refine j_icmp_le 21 dX5_paint_15 (by decide) (fun b15 => ?_) (fun b15 => ?_)
      · exfalso
        rcases h with h | h | h
        · exact h b5
        · exact b9 h
        · exact absurd b15 (Int32.not_le.mpr h)
      · refine j_ldc (-1000001) dX5_paint_18 kc_X5_59 ?_
        exact j_iret rfl dX5_paint_20 rfl rfl (Nat.le_of_ble_eq_true rfl) (Nat.le_of_ble_eq_true rfl)
theorem x_paint_ok (X : XR σ lf fd rl rn ri tp rd dd d df nx kp da di tr bo ne) {p : Nat} (hN : sN d ≤ 7) (hp : p < sN d) (hu : 1 ≤ sU d) (hu2 : sU d ≤ 20) (hn : nx < 24) (hkp : kp ≤ 24) (v : Int32) (h1 : ¬ v < 0) (h2 : v ≤ nI 9) : Ct G yX5_paint cX5_paint 4 (some .int) 5 0 0 z σ [.ref 0, .int (nI p), .int v] (some (.int (lks (sP d) (sD d) (sN d) (sU d) p))) z (twS (kpH σ nx kp d) 25 (sC d, sI d, upd (sP d) p v, sD d, sN d, sU d, sR d, sQ d, sH d, sF d)) := by
  refine Ct.ofJ RX5 rfl [some (.ref 0), some (.int (nI p)), some (.int v), none] rfl (by decide) (by simp [Value.category]) ?_
  refine j_aload_n dX5_paint_0 rfl rfl ?_
  refine j_iload_n dX5_paint_1 rfl rfl ?_
  refine j_callV (c_isNoPerson X (nI p)) dX5_paint_2 rfl mv_X5_155 (by first | exact X.1 | exact X.2.1 | exact X.2.2.2.1 | exact X.2.2.2.2.1 | exact X.2.2.2.2.2.2.1.o | exact X.2.2.2.2.2.2.1.c | exact X.2.2.2.2.2.2.1.i | exact X.2.2.2.2.2.2.1.p | exact X.2.2.2.2.2.2.1.d | exact X.2.2.2.2.2.2.2.1.o | exact X.2.2.2.2.2.2.2.2.1 | exact X.2.2.2.2.2.2.2.2.2.1 | exact X.2.2.2.2.2.2.2.2.2.2.2.1 | exact X.2.2.2.2.2.2.2.2.2.2.2.2.2.1 | exact X.2.2.2.2.2.2.2.2.2.2.2.2.2.2.1 | exact X.2.2.2.2.2.2.2.2.2.2.2.2.2.2.2) rfl ⟨(Nat.le_of_ble_eq_true rfl), (Nat.le_of_ble_eq_true rfl)⟩ ⟨(Nat.le_of_ble_eq_true rfl), (Nat.le_of_ble_eq_true rfl)⟩ (Nat.le_of_ble_eq_true rfl) ?_
  refine j_top (nI 0) (npI_k hp hN) ?_
  refine j_if_ne 18 dX5_paint_5 (by decide) (fun h => absurd rfl h) (fun _ => ?_)
  refine j_iload_n dX5_paint_8 rfl rfl ?_
  refine j_if_lt 18 dX5_paint_9 (by decide) (fun b9 => ?_) (fun b9 => ?_)
  · exact absurd b9 h1
  · refine j_iload_n dX5_paint_12 rfl rfl ?_
    refine j_bipush (nI 9) dX5_paint_13 rfl ?_
    refine j_icmp_le 21 dX5_paint_15 (by decide) (fun b15 => ?_) (fun b15 => ?_)
    · refine j_aload_n dX5_paint_21 rfl rfl ?_
      refine j_getf dX5_paint_22 5 4 rfl (Nat.le_of_ble_eq_true rfl) fl_X5_26 in_5 (by first | exact X.1 | exact X.2.1 | exact X.2.2.2.1 | exact X.2.2.2.2.1 | exact X.2.2.2.2.2.2.1.o | exact X.2.2.2.2.2.2.1.c | exact X.2.2.2.2.2.2.1.i | exact X.2.2.2.2.2.2.1.p | exact X.2.2.2.2.2.2.1.d | exact X.2.2.2.2.2.2.2.1.o | exact X.2.2.2.2.2.2.2.2.1 | exact X.2.2.2.2.2.2.2.2.2.1 | exact X.2.2.2.2.2.2.2.2.2.2.2.1 | exact X.2.2.2.2.2.2.2.2.2.2.2.2.2.1 | exact X.2.2.2.2.2.2.2.2.2.2.2.2.2.2.1 | exact X.2.2.2.2.2.2.2.2.2.2.2.2.2.2.2) rfl ?_
      refine j_iload_n dX5_paint_25 rfl rfl ?_
      refine j_callV (c_looksOfS X.2.2.2.2.2.2.1 hN (by omega) hu hu2) dX5_paint_26 rfl mv_X5_158 (by first | exact X.1 | exact X.2.1 | exact X.2.2.2.1 | exact X.2.2.2.2.1 | exact X.2.2.2.2.2.2.1.o | exact X.2.2.2.2.2.2.1.c | exact X.2.2.2.2.2.2.1.i | exact X.2.2.2.2.2.2.1.p | exact X.2.2.2.2.2.2.1.d | exact X.2.2.2.2.2.2.2.1.o | exact X.2.2.2.2.2.2.2.2.1 | exact X.2.2.2.2.2.2.2.2.2.1 | exact X.2.2.2.2.2.2.2.2.2.2.2.1 | exact X.2.2.2.2.2.2.2.2.2.2.2.2.2.1 | exact X.2.2.2.2.2.2.2.2.2.2.2.2.2.2.1 | exact X.2.2.2.2.2.2.2.2.2.2.2.2.2.2.2) rfl ⟨(Nat.le_of_ble_eq_true rfl), (Nat.le_of_ble_eq_true rfl)⟩ ⟨(Nat.le_of_ble_eq_true rfl), (Nat.le_of_ble_eq_true rfl)⟩ (Nat.le_of_ble_eq_true rfl) ?_
      refine j_istore_n dX5_paint_29 rfl (Nat.le_of_ble_eq_true rfl) rfl ?_
      refine j_aload_n dX5_paint_30 rfl rfl ?_
      refine j_getf dX5_paint_31 5 6 rfl (Nat.le_of_ble_eq_true rfl) fl_X5_36 in_5 (by first | exact X.1 | exact X.2.1 | exact X.2.2.2.1 | exact X.2.2.2.2.1 | exact X.2.2.2.2.2.2.1.o | exact X.2.2.2.2.2.2.1.c | exact X.2.2.2.2.2.2.1.i | exact X.2.2.2.2.2.2.1.p | exact X.2.2.2.2.2.2.1.d | exact X.2.2.2.2.2.2.2.1.o | exact X.2.2.2.2.2.2.2.2.1 | exact X.2.2.2.2.2.2.2.2.2.1 | exact X.2.2.2.2.2.2.2.2.2.2.2.1 | exact X.2.2.2.2.2.2.2.2.2.2.2.2.2.1 | exact X.2.2.2.2.2.2.2.2.2.2.2.2.2.2.1 | exact X.2.2.2.2.2.2.2.2.2.2.2.2.2.2.2) rfl ?_
      refine j_aload_n dX5_paint_34 rfl rfl ?_
      refine j_getf dX5_paint_35 5 4 rfl (Nat.le_of_ble_eq_true rfl) fl_X5_26 in_5 (by first | exact X.1 | exact X.2.1 | exact X.2.2.2.1 | exact X.2.2.2.2.1 | exact X.2.2.2.2.2.2.1.o | exact X.2.2.2.2.2.2.1.c | exact X.2.2.2.2.2.2.1.i | exact X.2.2.2.2.2.2.1.p | exact X.2.2.2.2.2.2.1.d | exact X.2.2.2.2.2.2.2.1.o | exact X.2.2.2.2.2.2.2.2.1 | exact X.2.2.2.2.2.2.2.2.2.1 | exact X.2.2.2.2.2.2.2.2.2.2.2.1 | exact X.2.2.2.2.2.2.2.2.2.2.2.2.2.1 | exact X.2.2.2.2.2.2.2.2.2.2.2.2.2.2.1 | exact X.2.2.2.2.2.2.2.2.2.2.2.2.2.2.2) rfl ?_
      refine j_callV (c_keep X hn hkp) dX5_paint_38 rfl mv_X5_145 (by first | exact X.1 | exact X.2.1 | exact X.2.2.2.1 | exact X.2.2.2.2.1 | exact X.2.2.2.2.2.2.1.o | exact X.2.2.2.2.2.2.1.c | exact X.2.2.2.2.2.2.1.i | exact X.2.2.2.2.2.2.1.p | exact X.2.2.2.2.2.2.1.d | exact X.2.2.2.2.2.2.2.1.o | exact X.2.2.2.2.2.2.2.2.1 | exact X.2.2.2.2.2.2.2.2.2.1 | exact X.2.2.2.2.2.2.2.2.2.2.2.1 | exact X.2.2.2.2.2.2.2.2.2.2.2.2.2.1 | exact X.2.2.2.2.2.2.2.2.2.2.2.2.2.2.1 | exact X.2.2.2.2.2.2.2.2.2.2.2.2.2.2.2) rfl ⟨(Nat.le_of_ble_eq_true rfl), (Nat.le_of_ble_eq_true rfl)⟩ ⟨(Nat.le_of_ble_eq_true rfl), (Nat.le_of_ble_eq_true rfl)⟩ (Nat.le_of_ble_eq_true rfl) ?_
      have X := (X.act nx hn d).acts (nxt nx) (min (kp + 1) 24)
      refine j_aload_n dX5_paint_41 rfl rfl ?_
      refine j_getf dX5_paint_42 5 4 rfl (Nat.le_of_ble_eq_true rfl) fl_X5_26 in_5 (by first | exact X.1 | exact X.2.1 | exact X.2.2.2.1 | exact X.2.2.2.2.1 | exact X.2.2.2.2.2.2.1.o | exact X.2.2.2.2.2.2.1.c | exact X.2.2.2.2.2.2.1.i | exact X.2.2.2.2.2.2.1.p | exact X.2.2.2.2.2.2.1.d | exact X.2.2.2.2.2.2.2.1.o | exact X.2.2.2.2.2.2.2.2.1 | exact X.2.2.2.2.2.2.2.2.2.1 | exact X.2.2.2.2.2.2.2.2.2.2.2.1 | exact X.2.2.2.2.2.2.2.2.2.2.2.2.2.1 | exact X.2.2.2.2.2.2.2.2.2.2.2.2.2.2.1 | exact X.2.2.2.2.2.2.2.2.2.2.2.2.2.2.2) rfl ?_
      refine j_getf dX5_paint_45 4 2 rfl (Nat.le_of_ble_eq_true rfl) fl_X5_161 in_4 (by first | exact X.1 | exact X.2.1 | exact X.2.2.2.1 | exact X.2.2.2.2.1 | exact X.2.2.2.2.2.2.1.o | exact X.2.2.2.2.2.2.1.c | exact X.2.2.2.2.2.2.1.i | exact X.2.2.2.2.2.2.1.p | exact X.2.2.2.2.2.2.1.d | exact X.2.2.2.2.2.2.2.1.o | exact X.2.2.2.2.2.2.2.2.1 | exact X.2.2.2.2.2.2.2.2.2.1 | exact X.2.2.2.2.2.2.2.2.2.2.2.1 | exact X.2.2.2.2.2.2.2.2.2.2.2.2.2.1 | exact X.2.2.2.2.2.2.2.2.2.2.2.2.2.2.1 | exact X.2.2.2.2.2.2.2.2.2.2.2.2.2.2.2) rfl ?_
      refine j_iload_n dX5_paint_48 rfl rfl ?_
      refine j_iload_n dX5_paint_49 rfl rfl ?_
      refine j_iast dX5_paint_50 (by first | exact X.1 | exact X.2.1 | exact X.2.2.2.1 | exact X.2.2.2.2.1 | exact X.2.2.2.2.2.2.1.o | exact X.2.2.2.2.2.2.1.c | exact X.2.2.2.2.2.2.1.i | exact X.2.2.2.2.2.2.1.p | exact X.2.2.2.2.2.2.1.d | exact X.2.2.2.2.2.2.2.1.o | exact X.2.2.2.2.2.2.2.2.1 | exact X.2.2.2.2.2.2.2.2.2.1 | exact X.2.2.2.2.2.2.2.2.2.2.2.1 | exact X.2.2.2.2.2.2.2.2.2.2.2.2.2.1 | exact X.2.2.2.2.2.2.2.2.2.2.2.2.2.2.1 | exact X.2.2.2.2.2.2.2.2.2.2.2.2.2.2.2) rfl (by omega) (by decide) _ (by exact X.2.2.2.2.2.2.1.setP) ?_
      refine j_iload_n dX5_paint_51 rfl rfl ?_
      exact j_iret rfl dX5_paint_52 rfl rfl (Nat.le_of_ble_eq_true rfl) (Nat.le_of_ble_eq_true rfl)
    · exact absurd h2 b15
theorem x_hedge_bad (X : XR σ lf fd rl rn ri tp rd dd d df nx kp da di tr bo ne) (p v : Int32) (h : ¬ npI p (sN d) = 0 ∨ v < 0 ∨ nI 1 < v) : Ct G yX5_hedge cX5_hedge 4 (some .int) 4 0 0 z σ [.ref 0, .int p, .int v] (some (.int (-1000001))) z σ := by
  refine Ct.ofJ RX5 rfl [some (.ref 0), some (.int p), some (.int v), none] rfl (by decide) (by simp [Value.category]) ?_
  refine j_aload_n dX5_hedge_0 rfl rfl ?_
  refine j_iload_n dX5_hedge_1 rfl rfl ?_
  refine j_callV (c_isNoPerson X p) dX5_hedge_2 rfl mv_X5_155 (by first | exact X.1 | exact X.2.1 | exact X.2.2.2.1 | exact X.2.2.2.2.1 | exact X.2.2.2.2.2.2.1.o | exact X.2.2.2.2.2.2.1.c | exact X.2.2.2.2.2.2.1.i | exact X.2.2.2.2.2.2.1.p | exact X.2.2.2.2.2.2.1.d | exact X.2.2.2.2.2.2.2.1.o | exact X.2.2.2.2.2.2.2.2.1 | exact X.2.2.2.2.2.2.2.2.2.1 | exact X.2.2.2.2.2.2.2.2.2.2.2.1 | exact X.2.2.2.2.2.2.2.2.2.2.2.2.2.1 | exact X.2.2.2.2.2.2.2.2.2.2.2.2.2.2.1 | exact X.2.2.2.2.2.2.2.2.2.2.2.2.2.2.2) rfl ⟨(Nat.le_of_ble_eq_true rfl), (Nat.le_of_ble_eq_true rfl)⟩ ⟨(Nat.le_of_ble_eq_true rfl), (Nat.le_of_ble_eq_true rfl)⟩ (Nat.le_of_ble_eq_true rfl) ?_
  refine j_if_ne 17 dX5_hedge_5 (by decide) (fun b5 => ?_) (fun b5 => ?_)
  · refine j_ldc (-1000001) dX5_hedge_17 kc_X5_59 ?_
    exact j_iret rfl dX5_hedge_19 rfl rfl (Nat.le_of_ble_eq_true rfl) (Nat.le_of_ble_eq_true rfl)
  · refine j_iload_n dX5_hedge_8 rfl rfl ?_
    refine j_if_lt 17 dX5_hedge_9 (by decide) (fun b9 => ?_) (fun b9 => ?_)
    · refine j_ldc (-1000001) dX5_hedge_17 kc_X5_59 ?_
      exact j_iret rfl dX5_hedge_19 rfl rfl (Nat.le_of_ble_eq_true rfl) (Nat.le_of_ble_eq_true rfl)
    · refine j_iload_n dX5_hedge_12 rfl rfl ?_
      refine j_iconst (nI 1) dX5_hedge_13 rfl ?_
      refine j_icmp_le 20 dX5_hedge_14 (by decide) (fun b14 => ?_) (fun b14 => ?_)
      · exfalso
        rcases h with h | h | h
        · exact h b5
        · exact b9 h
        · exact absurd b14 (Int32.not_le.mpr h)
      · refine j_ldc (-1000001) dX5_hedge_17 kc_X5_59 ?_
        exact j_iret rfl dX5_hedge_19 rfl rfl (Nat.le_of_ble_eq_true rfl) (Nat.le_of_ble_eq_true rfl)
theorem x_hedge_ok (X : XR σ lf fd rl rn ri tp rd dd d df nx kp da di tr bo ne) {p : Nat} (hN : sN d ≤ 7) (hp : p < sN d) (hn : nx < 24) (hkp : kp ≤ 24) (v : Int32) (h1 : ¬ v < 0) (h2 : v ≤ nI 1) : Ct G yX5_hedge cX5_hedge 4 (some .int) 4 0 0 z σ [.ref 0, .int (nI p), .int v] (some (.int (bitI (sH d) (nI p)))) z (twS (kpH σ nx kp d) 25 (sC d, sI d, sP d, sD d, sN d, sU d, sR d, sQ d, clrI (sH d) p ||| (v <<< (nI p &&& 31)), sF d)) := by
  refine Ct.ofJ RX5 rfl [some (.ref 0), some (.int (nI p)), some (.int v), none] rfl (by decide) (by simp [Value.category]) ?_
  refine j_aload_n dX5_hedge_0 rfl rfl ?_
  refine j_iload_n dX5_hedge_1 rfl rfl ?_
  refine j_callV (c_isNoPerson X (nI p)) dX5_hedge_2 rfl mv_X5_155 (by first | exact X.1 | exact X.2.1 | exact X.2.2.2.1 | exact X.2.2.2.2.1 | exact X.2.2.2.2.2.2.1.o | exact X.2.2.2.2.2.2.1.c | exact X.2.2.2.2.2.2.1.i | exact X.2.2.2.2.2.2.1.p | exact X.2.2.2.2.2.2.1.d | exact X.2.2.2.2.2.2.2.1.o | exact X.2.2.2.2.2.2.2.2.1 | exact X.2.2.2.2.2.2.2.2.2.1 | exact X.2.2.2.2.2.2.2.2.2.2.2.1 | exact X.2.2.2.2.2.2.2.2.2.2.2.2.2.1 | exact X.2.2.2.2.2.2.2.2.2.2.2.2.2.2.1 | exact X.2.2.2.2.2.2.2.2.2.2.2.2.2.2.2) rfl ⟨(Nat.le_of_ble_eq_true rfl), (Nat.le_of_ble_eq_true rfl)⟩ ⟨(Nat.le_of_ble_eq_true rfl), (Nat.le_of_ble_eq_true rfl)⟩ (Nat.le_of_ble_eq_true rfl) ?_
  refine j_top (nI 0) (npI_k hp hN) ?_
  refine j_if_ne 17 dX5_hedge_5 (by decide) (fun h => absurd rfl h) (fun _ => ?_)
  refine j_iload_n dX5_hedge_8 rfl rfl ?_
  refine j_if_lt 17 dX5_hedge_9 (by decide) (fun b9 => ?_) (fun b9 => ?_)
  · exact absurd b9 h1
  · refine j_iload_n dX5_hedge_12 rfl rfl ?_
    refine j_iconst (nI 1) dX5_hedge_13 rfl ?_
    refine j_icmp_le 20 dX5_hedge_14 (by decide) (fun b14 => ?_) (fun b14 => ?_)
    · refine j_aload_n dX5_hedge_20 rfl rfl ?_
      refine j_getf dX5_hedge_21 5 4 rfl (Nat.le_of_ble_eq_true rfl) fl_X5_26 in_5 (by first | exact X.1 | exact X.2.1 | exact X.2.2.2.1 | exact X.2.2.2.2.1 | exact X.2.2.2.2.2.2.1.o | exact X.2.2.2.2.2.2.1.c | exact X.2.2.2.2.2.2.1.i | exact X.2.2.2.2.2.2.1.p | exact X.2.2.2.2.2.2.1.d | exact X.2.2.2.2.2.2.2.1.o | exact X.2.2.2.2.2.2.2.2.1 | exact X.2.2.2.2.2.2.2.2.2.1 | exact X.2.2.2.2.2.2.2.2.2.2.2.1 | exact X.2.2.2.2.2.2.2.2.2.2.2.2.2.1 | exact X.2.2.2.2.2.2.2.2.2.2.2.2.2.2.1 | exact X.2.2.2.2.2.2.2.2.2.2.2.2.2.2.2) rfl ?_
      refine j_getf dX5_hedge_24 4 8 rfl (Nat.le_of_ble_eq_true rfl) fl_X5_164 in_4 (by first | exact X.1 | exact X.2.1 | exact X.2.2.2.1 | exact X.2.2.2.2.1 | exact X.2.2.2.2.2.2.1.o | exact X.2.2.2.2.2.2.1.c | exact X.2.2.2.2.2.2.1.i | exact X.2.2.2.2.2.2.1.p | exact X.2.2.2.2.2.2.1.d | exact X.2.2.2.2.2.2.2.1.o | exact X.2.2.2.2.2.2.2.2.1 | exact X.2.2.2.2.2.2.2.2.2.1 | exact X.2.2.2.2.2.2.2.2.2.2.2.1 | exact X.2.2.2.2.2.2.2.2.2.2.2.2.2.1 | exact X.2.2.2.2.2.2.2.2.2.2.2.2.2.2.1 | exact X.2.2.2.2.2.2.2.2.2.2.2.2.2.2.2) rfl ?_
      refine j_iload_n dX5_hedge_27 rfl rfl ?_
      refine j_callS (c_bitOf G z _ (sH d) (nI p)) dX5_hedge_28 rfl ms_X5_167 ⟨(Nat.le_of_ble_eq_true rfl), (Nat.le_of_ble_eq_true rfl)⟩ ⟨(Nat.le_of_ble_eq_true rfl), (Nat.le_of_ble_eq_true rfl)⟩ (Nat.le_of_ble_eq_true rfl) ?_
      refine j_istore_n dX5_hedge_31 rfl (Nat.le_of_ble_eq_true rfl) rfl ?_
      refine j_aload_n dX5_hedge_32 rfl rfl ?_
      refine j_getf dX5_hedge_33 5 6 rfl (Nat.le_of_ble_eq_true rfl) fl_X5_36 in_5 (by first | exact X.1 | exact X.2.1 | exact X.2.2.2.1 | exact X.2.2.2.2.1 | exact X.2.2.2.2.2.2.1.o | exact X.2.2.2.2.2.2.1.c | exact X.2.2.2.2.2.2.1.i | exact X.2.2.2.2.2.2.1.p | exact X.2.2.2.2.2.2.1.d | exact X.2.2.2.2.2.2.2.1.o | exact X.2.2.2.2.2.2.2.2.1 | exact X.2.2.2.2.2.2.2.2.2.1 | exact X.2.2.2.2.2.2.2.2.2.2.2.1 | exact X.2.2.2.2.2.2.2.2.2.2.2.2.2.1 | exact X.2.2.2.2.2.2.2.2.2.2.2.2.2.2.1 | exact X.2.2.2.2.2.2.2.2.2.2.2.2.2.2.2) rfl ?_
      refine j_aload_n dX5_hedge_36 rfl rfl ?_
      refine j_getf dX5_hedge_37 5 4 rfl (Nat.le_of_ble_eq_true rfl) fl_X5_26 in_5 (by first | exact X.1 | exact X.2.1 | exact X.2.2.2.1 | exact X.2.2.2.2.1 | exact X.2.2.2.2.2.2.1.o | exact X.2.2.2.2.2.2.1.c | exact X.2.2.2.2.2.2.1.i | exact X.2.2.2.2.2.2.1.p | exact X.2.2.2.2.2.2.1.d | exact X.2.2.2.2.2.2.2.1.o | exact X.2.2.2.2.2.2.2.2.1 | exact X.2.2.2.2.2.2.2.2.2.1 | exact X.2.2.2.2.2.2.2.2.2.2.2.1 | exact X.2.2.2.2.2.2.2.2.2.2.2.2.2.1 | exact X.2.2.2.2.2.2.2.2.2.2.2.2.2.2.1 | exact X.2.2.2.2.2.2.2.2.2.2.2.2.2.2.2) rfl ?_
      refine j_callV (c_keep X hn hkp) dX5_hedge_40 rfl mv_X5_145 (by first | exact X.1 | exact X.2.1 | exact X.2.2.2.1 | exact X.2.2.2.2.1 | exact X.2.2.2.2.2.2.1.o | exact X.2.2.2.2.2.2.1.c | exact X.2.2.2.2.2.2.1.i | exact X.2.2.2.2.2.2.1.p | exact X.2.2.2.2.2.2.1.d | exact X.2.2.2.2.2.2.2.1.o | exact X.2.2.2.2.2.2.2.2.1 | exact X.2.2.2.2.2.2.2.2.2.1 | exact X.2.2.2.2.2.2.2.2.2.2.2.1 | exact X.2.2.2.2.2.2.2.2.2.2.2.2.2.1 | exact X.2.2.2.2.2.2.2.2.2.2.2.2.2.2.1 | exact X.2.2.2.2.2.2.2.2.2.2.2.2.2.2.2) rfl ⟨(Nat.le_of_ble_eq_true rfl), (Nat.le_of_ble_eq_true rfl)⟩ ⟨(Nat.le_of_ble_eq_true rfl), (Nat.le_of_ble_eq_true rfl)⟩ (Nat.le_of_ble_eq_true rfl) ?_
      have X := (X.act nx hn d).acts (nxt nx) (min (kp + 1) 24)
      refine j_aload_n dX5_hedge_43 rfl rfl ?_
      refine j_getf dX5_hedge_44 5 4 rfl (Nat.le_of_ble_eq_true rfl) fl_X5_26 in_5 (by first | exact X.1 | exact X.2.1 | exact X.2.2.2.1 | exact X.2.2.2.2.1 | exact X.2.2.2.2.2.2.1.o | exact X.2.2.2.2.2.2.1.c | exact X.2.2.2.2.2.2.1.i | exact X.2.2.2.2.2.2.1.p | exact X.2.2.2.2.2.2.1.d | exact X.2.2.2.2.2.2.2.1.o | exact X.2.2.2.2.2.2.2.2.1 | exact X.2.2.2.2.2.2.2.2.2.1 | exact X.2.2.2.2.2.2.2.2.2.2.2.1 | exact X.2.2.2.2.2.2.2.2.2.2.2.2.2.1 | exact X.2.2.2.2.2.2.2.2.2.2.2.2.2.2.1 | exact X.2.2.2.2.2.2.2.2.2.2.2.2.2.2.2) rfl ?_
      refine j_aload_n dX5_hedge_47 rfl rfl ?_
      refine j_getf dX5_hedge_48 5 4 rfl (Nat.le_of_ble_eq_true rfl) fl_X5_26 in_5 (by first | exact X.1 | exact X.2.1 | exact X.2.2.2.1 | exact X.2.2.2.2.1 | exact X.2.2.2.2.2.2.1.o | exact X.2.2.2.2.2.2.1.c | exact X.2.2.2.2.2.2.1.i | exact X.2.2.2.2.2.2.1.p | exact X.2.2.2.2.2.2.1.d | exact X.2.2.2.2.2.2.2.1.o | exact X.2.2.2.2.2.2.2.2.1 | exact X.2.2.2.2.2.2.2.2.2.1 | exact X.2.2.2.2.2.2.2.2.2.2.2.1 | exact X.2.2.2.2.2.2.2.2.2.2.2.2.2.1 | exact X.2.2.2.2.2.2.2.2.2.2.2.2.2.2.1 | exact X.2.2.2.2.2.2.2.2.2.2.2.2.2.2.2) rfl ?_
      refine j_getf dX5_hedge_51 4 8 rfl (Nat.le_of_ble_eq_true rfl) fl_X5_164 in_4 (by first | exact X.1 | exact X.2.1 | exact X.2.2.2.1 | exact X.2.2.2.2.1 | exact X.2.2.2.2.2.2.1.o | exact X.2.2.2.2.2.2.1.c | exact X.2.2.2.2.2.2.1.i | exact X.2.2.2.2.2.2.1.p | exact X.2.2.2.2.2.2.1.d | exact X.2.2.2.2.2.2.2.1.o | exact X.2.2.2.2.2.2.2.2.1 | exact X.2.2.2.2.2.2.2.2.2.1 | exact X.2.2.2.2.2.2.2.2.2.2.2.1 | exact X.2.2.2.2.2.2.2.2.2.2.2.2.2.1 | exact X.2.2.2.2.2.2.2.2.2.2.2.2.2.2.1 | exact X.2.2.2.2.2.2.2.2.2.2.2.2.2.2.2) rfl ?_
      refine j_iconst (nI 1) dX5_hedge_54 rfl ?_
      refine j_iload_n dX5_hedge_55 rfl rfl ?_
      refine j_ishl dX5_hedge_56 ?_
      refine j_iconst (-1) dX5_hedge_57 rfl ?_
      refine j_ixor dX5_hedge_58 ?_
      refine j_iand dX5_hedge_59 ?_
      refine j_iload_n dX5_hedge_60 rfl rfl ?_
      refine j_iload_n dX5_hedge_61 rfl rfl ?_
      refine j_ishl dX5_hedge_62 ?_
      refine j_ior dX5_hedge_63 ?_
      refine j_putf dX5_hedge_64 4 8 rfl (Nat.le_of_ble_eq_true rfl) fl_X5_164 in_4 tyX4 tyX4_ok nmX4 rfl rfl (by first | exact X.1 | exact X.2.1 | exact X.2.2.2.1 | exact X.2.2.2.2.1 | exact X.2.2.2.2.2.2.1.o | exact X.2.2.2.2.2.2.1.c | exact X.2.2.2.2.2.2.1.i | exact X.2.2.2.2.2.2.1.p | exact X.2.2.2.2.2.2.1.d | exact X.2.2.2.2.2.2.2.1.o | exact X.2.2.2.2.2.2.2.2.1 | exact X.2.2.2.2.2.2.2.2.2.1 | exact X.2.2.2.2.2.2.2.2.2.2.2.1 | exact X.2.2.2.2.2.2.2.2.2.2.2.2.2.1 | exact X.2.2.2.2.2.2.2.2.2.2.2.2.2.2.1 | exact X.2.2.2.2.2.2.2.2.2.2.2.2.2.2.2) (Nat.le_of_ble_eq_true rfl) _ (by exact X.2.2.2.2.2.2.1.setH) ?_
      refine j_iload_n dX5_hedge_67 rfl rfl ?_
      exact j_iret rfl dX5_hedge_68 rfl rfl (Nat.le_of_ble_eq_true rfl) (Nat.le_of_ble_eq_true rfl)
    · exact absurd h2 b14
theorem x_quarter_state (X : XR σ lf fd rl rn ri tp rd dd d df nx kp da di tr bo ne) (s : Int32) (h : sN d = 0) : Ct G yX5_quarter cX5_quarter 2 (some .int) 6 0 0 z σ [.ref 0, .int s] (some (.int (-1000002))) z σ := by
  refine Ct.ofJ RX5 rfl [some (.ref 0), some (.int s)] rfl (by decide) Nat.le.refl ?_
  refine j_aload_n dX5_quarter_0 rfl rfl ?_
  refine j_callV (c_isNoTown X) dX5_quarter_1 rfl mv_X5_170 (by first | exact X.1 | exact X.2.1 | exact X.2.2.2.1 | exact X.2.2.2.2.1 | exact X.2.2.2.2.2.2.1.o | exact X.2.2.2.2.2.2.1.c | exact X.2.2.2.2.2.2.1.i | exact X.2.2.2.2.2.2.1.p | exact X.2.2.2.2.2.2.1.d | exact X.2.2.2.2.2.2.2.1.o | exact X.2.2.2.2.2.2.2.2.1 | exact X.2.2.2.2.2.2.2.2.2.1 | exact X.2.2.2.2.2.2.2.2.2.2.2.1 | exact X.2.2.2.2.2.2.2.2.2.2.2.2.2.1 | exact X.2.2.2.2.2.2.2.2.2.2.2.2.2.2.1 | exact X.2.2.2.2.2.2.2.2.2.2.2.2.2.2.2) rfl ⟨(Nat.le_of_ble_eq_true rfl), (Nat.le_of_ble_eq_true rfl)⟩ ⟨(Nat.le_of_ble_eq_true rfl), (Nat.le_of_ble_eq_true rfl)⟩ (Nat.le_of_ble_eq_true rfl) ?_
  refine j_top (nI 1) (by rw [h]; rfl) ?_
  refine j_if_eq 10 dX5_quarter_4 (by decide) (fun h => absurd h (by decide)) (fun _ => ?_)
  refine j_ldc (-1000002) dX5_quarter_7 kc_X5_140 ?_
  exact j_iret rfl dX5_quarter_9 rfl rfl (Nat.le_of_ble_eq_true rfl) (Nat.le_of_ble_eq_true rfl)
theorem x_quarter_bad (X : XR σ lf fd rl rn ri tp rd dd d df nx kp da di tr bo ne) (s : Int32) (hN : sN d ≤ 7) (h0 : 1 ≤ sN d) (h : s < 0 ∨ 999999 < s) : Ct G yX5_quarter cX5_quarter 2 (some .int) 6 0 0 z σ [.ref 0, .int s] (some (.int (-1000001))) z σ := by
  refine Ct.ofJ RX5 rfl [some (.ref 0), some (.int s)] rfl (by decide) Nat.le.refl ?_
  refine j_aload_n dX5_quarter_0 rfl rfl ?_
  refine j_callV (c_isNoTown X) dX5_quarter_1 rfl mv_X5_170 (by first | exact X.1 | exact X.2.1 | exact X.2.2.2.1 | exact X.2.2.2.2.1 | exact X.2.2.2.2.2.2.1.o | exact X.2.2.2.2.2.2.1.c | exact X.2.2.2.2.2.2.1.i | exact X.2.2.2.2.2.2.1.p | exact X.2.2.2.2.2.2.1.d | exact X.2.2.2.2.2.2.2.1.o | exact X.2.2.2.2.2.2.2.2.1 | exact X.2.2.2.2.2.2.2.2.2.1 | exact X.2.2.2.2.2.2.2.2.2.2.2.1 | exact X.2.2.2.2.2.2.2.2.2.2.2.2.2.1 | exact X.2.2.2.2.2.2.2.2.2.2.2.2.2.2.1 | exact X.2.2.2.2.2.2.2.2.2.2.2.2.2.2.2) rfl ⟨(Nat.le_of_ble_eq_true rfl), (Nat.le_of_ble_eq_true rfl)⟩ ⟨(Nat.le_of_ble_eq_true rfl), (Nat.le_of_ble_eq_true rfl)⟩ (Nat.le_of_ble_eq_true rfl) ?_
  refine j_top (nI 0) (ntI_k h0 hN) ?_
  refine j_if_eq 10 dX5_quarter_4 (by decide) (fun _ => ?_) (fun h => absurd rfl h)
  refine j_iload_n dX5_quarter_10 rfl rfl ?_
  refine j_if_lt 20 dX5_quarter_11 (by decide) (fun b11 => ?_) (fun b11 => ?_)
  · refine j_ldc (-1000001) dX5_quarter_20 kc_X5_59 ?_
    exact j_iret rfl dX5_quarter_22 rfl rfl (Nat.le_of_ble_eq_true rfl) (Nat.le_of_ble_eq_true rfl)
  · refine j_iload_n dX5_quarter_14 rfl rfl ?_
    refine j_ldc (999999) dX5_quarter_15 kc_X5_173 ?_
    refine j_icmp_le 23 dX5_quarter_17 (by decide) (fun b17 => ?_) (fun b17 => ?_)
    · exfalso
      rcases h with h | h
      · exact b11 h
      · exact absurd b17 (Int32.not_le.mpr h)
    · refine j_ldc (-1000001) dX5_quarter_20 kc_X5_59 ?_
      exact j_iret rfl dX5_quarter_22 rfl rfl (Nat.le_of_ble_eq_true rfl) (Nat.le_of_ble_eq_true rfl)
theorem x_quarter_full (X : XR σ lf fd rl rn ri tp rd dd d df nx kp da di tr bo ne) (s : Int32) (hN : sN d ≤ 7) (h0 : 1 ≤ sN d) (h1 : ¬ s < 0) (h2 : s ≤ 999999) (hq : sQ d < 100000) (h : 999 ≤ sQ d) : Ct G yX5_quarter cX5_quarter 2 (some .int) 6 0 0 z σ [.ref 0, .int s] (some (.int (-1000003))) z σ := by
  refine Ct.ofJ RX5 rfl [some (.ref 0), some (.int s)] rfl (by decide) Nat.le.refl ?_
  refine j_aload_n dX5_quarter_0 rfl rfl ?_
  refine j_callV (c_isNoTown X) dX5_quarter_1 rfl mv_X5_170 (by first | exact X.1 | exact X.2.1 | exact X.2.2.2.1 | exact X.2.2.2.2.1 | exact X.2.2.2.2.2.2.1.o | exact X.2.2.2.2.2.2.1.c | exact X.2.2.2.2.2.2.1.i | exact X.2.2.2.2.2.2.1.p | exact X.2.2.2.2.2.2.1.d | exact X.2.2.2.2.2.2.2.1.o | exact X.2.2.2.2.2.2.2.2.1 | exact X.2.2.2.2.2.2.2.2.2.1 | exact X.2.2.2.2.2.2.2.2.2.2.2.1 | exact X.2.2.2.2.2.2.2.2.2.2.2.2.2.1 | exact X.2.2.2.2.2.2.2.2.2.2.2.2.2.2.1 | exact X.2.2.2.2.2.2.2.2.2.2.2.2.2.2.2) rfl ⟨(Nat.le_of_ble_eq_true rfl), (Nat.le_of_ble_eq_true rfl)⟩ ⟨(Nat.le_of_ble_eq_true rfl), (Nat.le_of_ble_eq_true rfl)⟩ (Nat.le_of_ble_eq_true rfl) ?_
  refine j_top (nI 0) (ntI_k h0 hN) ?_
  refine j_if_eq 10 dX5_quarter_4 (by decide) (fun _ => ?_) (fun h => absurd rfl h)
  refine j_iload_n dX5_quarter_10 rfl rfl ?_
  refine j_if_lt 20 dX5_quarter_11 (by decide) (fun b11 => ?_) (fun b11 => ?_)
  · exact absurd b11 h1
  · refine j_iload_n dX5_quarter_14 rfl rfl ?_
    refine j_ldc (999999) dX5_quarter_15 kc_X5_173 ?_
    refine j_icmp_le 23 dX5_quarter_17 (by decide) (fun b17 => ?_) (fun b17 => ?_)
    · refine j_aload_n dX5_quarter_23 rfl rfl ?_
      refine j_getf dX5_quarter_24 5 4 rfl (Nat.le_of_ble_eq_true rfl) fl_X5_26 in_5 (by first | exact X.1 | exact X.2.1 | exact X.2.2.2.1 | exact X.2.2.2.2.1 | exact X.2.2.2.2.2.2.1.o | exact X.2.2.2.2.2.2.1.c | exact X.2.2.2.2.2.2.1.i | exact X.2.2.2.2.2.2.1.p | exact X.2.2.2.2.2.2.1.d | exact X.2.2.2.2.2.2.2.1.o | exact X.2.2.2.2.2.2.2.2.1 | exact X.2.2.2.2.2.2.2.2.2.1 | exact X.2.2.2.2.2.2.2.2.2.2.2.1 | exact X.2.2.2.2.2.2.2.2.2.2.2.2.2.1 | exact X.2.2.2.2.2.2.2.2.2.2.2.2.2.2.1 | exact X.2.2.2.2.2.2.2.2.2.2.2.2.2.2.2) rfl ?_
      refine j_getf dX5_quarter_27 4 7 rfl (Nat.le_of_ble_eq_true rfl) fl_X5_174 in_4 (by first | exact X.1 | exact X.2.1 | exact X.2.2.2.1 | exact X.2.2.2.2.1 | exact X.2.2.2.2.2.2.1.o | exact X.2.2.2.2.2.2.1.c | exact X.2.2.2.2.2.2.1.i | exact X.2.2.2.2.2.2.1.p | exact X.2.2.2.2.2.2.1.d | exact X.2.2.2.2.2.2.2.1.o | exact X.2.2.2.2.2.2.2.2.1 | exact X.2.2.2.2.2.2.2.2.2.1 | exact X.2.2.2.2.2.2.2.2.2.2.2.1 | exact X.2.2.2.2.2.2.2.2.2.2.2.2.2.1 | exact X.2.2.2.2.2.2.2.2.2.2.2.2.2.2.1 | exact X.2.2.2.2.2.2.2.2.2.2.2.2.2.2.2) rfl ?_
      refine j_sipush (nI 999) dX5_quarter_30 rfl ?_
      refine j_icmp_ltN 39 dX5_quarter_33 (by decide) (by omega) (by omega) (fun b33 => ?_) (fun b33 => ?_)
      · exfalso; omega
      · refine j_ldc (-1000003) dX5_quarter_36 kc_X5_103 ?_
        exact j_iret rfl dX5_quarter_38 rfl rfl (Nat.le_of_ble_eq_true rfl) (Nat.le_of_ble_eq_true rfl)
    · exact absurd h2 b17
theorem x_quarter_ok (X : XR σ lf fd rl rn ri tp rd dd d df nx kp da di tr bo ne) (s : Int32) (hN : sN d ≤ 7) (h0 : 1 ≤ sN d) (h1 : ¬ s < 0) (h2 : s ≤ 999999) (h : sQ d < 999) (hn : nx < 24) (hkp : kp ≤ 24) (hinc : ∀ p, p < 7 → 0 ≤ sI d p ∧ ¬ (sI d p + nI 1).toInt64 = 0) : Ct G yX5_quarter cX5_quarter 2 (some .int) 6 0 0 z σ [.ref 0, .int s] (some (.int (nI (sQ d + 1)))) z (twS (kpH σ nx kp d) 25 ((qua (sN d) s (sI d) (sC d) (sD d) (nI (sU d)) (nI (sR d)) (sQ d) (sF d)).1, sI d, fil (-1) (sP d) (sN d), (qua (sN d) s (sI d) (sC d) (sD d) (nI (sU d)) (nI (sR d)) (sQ d) (sF d)).2.1, sN d, sU d, sR d, sQ d + 1, sH d, (qua (sN d) s (sI d) (sC d) (sD d) (nI (sU d)) (nI (sR d)) (sQ d) (sF d)).2.2)) := by
  refine Ct.ofJ RX5 rfl [some (.ref 0), some (.int s)] rfl (by decide) Nat.le.refl ?_
  refine j_aload_n dX5_quarter_0 rfl rfl ?_
  refine j_callV (c_isNoTown X) dX5_quarter_1 rfl mv_X5_170 (by first | exact X.1 | exact X.2.1 | exact X.2.2.2.1 | exact X.2.2.2.2.1 | exact X.2.2.2.2.2.2.1.o | exact X.2.2.2.2.2.2.1.c | exact X.2.2.2.2.2.2.1.i | exact X.2.2.2.2.2.2.1.p | exact X.2.2.2.2.2.2.1.d | exact X.2.2.2.2.2.2.2.1.o | exact X.2.2.2.2.2.2.2.2.1 | exact X.2.2.2.2.2.2.2.2.2.1 | exact X.2.2.2.2.2.2.2.2.2.2.2.1 | exact X.2.2.2.2.2.2.2.2.2.2.2.2.2.1 | exact X.2.2.2.2.2.2.2.2.2.2.2.2.2.2.1 | exact X.2.2.2.2.2.2.2.2.2.2.2.2.2.2.2) rfl ⟨(Nat.le_of_ble_eq_true rfl), (Nat.le_of_ble_eq_true rfl)⟩ ⟨(Nat.le_of_ble_eq_true rfl), (Nat.le_of_ble_eq_true rfl)⟩ (Nat.le_of_ble_eq_true rfl) ?_
  refine j_top (nI 0) (ntI_k h0 hN) ?_
  refine j_if_eq 10 dX5_quarter_4 (by decide) (fun _ => ?_) (fun h => absurd rfl h)
  refine j_iload_n dX5_quarter_10 rfl rfl ?_
  refine j_if_lt 20 dX5_quarter_11 (by decide) (fun b11 => ?_) (fun b11 => ?_)
  · exact absurd b11 h1
  · refine j_iload_n dX5_quarter_14 rfl rfl ?_
    refine j_ldc (999999) dX5_quarter_15 kc_X5_173 ?_
    refine j_icmp_le 23 dX5_quarter_17 (by decide) (fun b17 => ?_) (fun b17 => ?_)
    · refine j_aload_n dX5_quarter_23 rfl rfl ?_
      refine j_getf dX5_quarter_24 5 4 rfl (Nat.le_of_ble_eq_true rfl) fl_X5_26 in_5 (by first | exact X.1 | exact X.2.1 | exact X.2.2.2.1 | exact X.2.2.2.2.1 | exact X.2.2.2.2.2.2.1.o | exact X.2.2.2.2.2.2.1.c | exact X.2.2.2.2.2.2.1.i | exact X.2.2.2.2.2.2.1.p | exact X.2.2.2.2.2.2.1.d | exact X.2.2.2.2.2.2.2.1.o | exact X.2.2.2.2.2.2.2.2.1 | exact X.2.2.2.2.2.2.2.2.2.1 | exact X.2.2.2.2.2.2.2.2.2.2.2.1 | exact X.2.2.2.2.2.2.2.2.2.2.2.2.2.1 | exact X.2.2.2.2.2.2.2.2.2.2.2.2.2.2.1 | exact X.2.2.2.2.2.2.2.2.2.2.2.2.2.2.2) rfl ?_
      refine j_getf dX5_quarter_27 4 7 rfl (Nat.le_of_ble_eq_true rfl) fl_X5_174 in_4 (by first | exact X.1 | exact X.2.1 | exact X.2.2.2.1 | exact X.2.2.2.2.1 | exact X.2.2.2.2.2.2.1.o | exact X.2.2.2.2.2.2.1.c | exact X.2.2.2.2.2.2.1.i | exact X.2.2.2.2.2.2.1.p | exact X.2.2.2.2.2.2.1.d | exact X.2.2.2.2.2.2.2.1.o | exact X.2.2.2.2.2.2.2.2.1 | exact X.2.2.2.2.2.2.2.2.2.1 | exact X.2.2.2.2.2.2.2.2.2.2.2.1 | exact X.2.2.2.2.2.2.2.2.2.2.2.2.2.1 | exact X.2.2.2.2.2.2.2.2.2.2.2.2.2.2.1 | exact X.2.2.2.2.2.2.2.2.2.2.2.2.2.2.2) rfl ?_
      refine j_sipush (nI 999) dX5_quarter_30 rfl ?_
      refine j_icmp_ltN 39 dX5_quarter_33 (by decide) (by omega) (by omega) (fun b33 => ?_) (fun b33 => ?_)
      · refine j_aload_n dX5_quarter_39 rfl rfl ?_
        refine j_getf dX5_quarter_40 5 6 rfl (Nat.le_of_ble_eq_true rfl) fl_X5_36 in_5 (by first | exact X.1 | exact X.2.1 | exact X.2.2.2.1 | exact X.2.2.2.2.1 | exact X.2.2.2.2.2.2.1.o | exact X.2.2.2.2.2.2.1.c | exact X.2.2.2.2.2.2.1.i | exact X.2.2.2.2.2.2.1.p | exact X.2.2.2.2.2.2.1.d | exact X.2.2.2.2.2.2.2.1.o | exact X.2.2.2.2.2.2.2.2.1 | exact X.2.2.2.2.2.2.2.2.2.1 | exact X.2.2.2.2.2.2.2.2.2.2.2.1 | exact X.2.2.2.2.2.2.2.2.2.2.2.2.2.1 | exact X.2.2.2.2.2.2.2.2.2.2.2.2.2.2.1 | exact X.2.2.2.2.2.2.2.2.2.2.2.2.2.2.2) rfl ?_
        refine j_aload_n dX5_quarter_43 rfl rfl ?_
        refine j_getf dX5_quarter_44 5 4 rfl (Nat.le_of_ble_eq_true rfl) fl_X5_26 in_5 (by first | exact X.1 | exact X.2.1 | exact X.2.2.2.1 | exact X.2.2.2.2.1 | exact X.2.2.2.2.2.2.1.o | exact X.2.2.2.2.2.2.1.c | exact X.2.2.2.2.2.2.1.i | exact X.2.2.2.2.2.2.1.p | exact X.2.2.2.2.2.2.1.d | exact X.2.2.2.2.2.2.2.1.o | exact X.2.2.2.2.2.2.2.2.1 | exact X.2.2.2.2.2.2.2.2.2.1 | exact X.2.2.2.2.2.2.2.2.2.2.2.1 | exact X.2.2.2.2.2.2.2.2.2.2.2.2.2.1 | exact X.2.2.2.2.2.2.2.2.2.2.2.2.2.2.1 | exact X.2.2.2.2.2.2.2.2.2.2.2.2.2.2.2) rfl ?_
        refine j_callV (c_keep X hn hkp) dX5_quarter_47 rfl mv_X5_145 (by first | exact X.1 | exact X.2.1 | exact X.2.2.2.1 | exact X.2.2.2.2.1 | exact X.2.2.2.2.2.2.1.o | exact X.2.2.2.2.2.2.1.c | exact X.2.2.2.2.2.2.1.i | exact X.2.2.2.2.2.2.1.p | exact X.2.2.2.2.2.2.1.d | exact X.2.2.2.2.2.2.2.1.o | exact X.2.2.2.2.2.2.2.2.1 | exact X.2.2.2.2.2.2.2.2.2.1 | exact X.2.2.2.2.2.2.2.2.2.2.2.1 | exact X.2.2.2.2.2.2.2.2.2.2.2.2.2.1 | exact X.2.2.2.2.2.2.2.2.2.2.2.2.2.2.1 | exact X.2.2.2.2.2.2.2.2.2.2.2.2.2.2.2) rfl ⟨(Nat.le_of_ble_eq_true rfl), (Nat.le_of_ble_eq_true rfl)⟩ ⟨(Nat.le_of_ble_eq_true rfl), (Nat.le_of_ble_eq_true rfl)⟩ (Nat.le_of_ble_eq_true rfl) ?_
        have X := (X.act nx hn d).acts (nxt nx) (min (kp + 1) 24)
        refine j_aload_n dX5_quarter_50 rfl rfl ?_
        refine j_getf dX5_quarter_51 5 4 rfl (Nat.le_of_ble_eq_true rfl) fl_X5_26 in_5 (by first | exact X.1 | exact X.2.1 | exact X.2.2.2.1 | exact X.2.2.2.2.1 | exact X.2.2.2.2.2.2.1.o | exact X.2.2.2.2.2.2.1.c | exact X.2.2.2.2.2.2.1.i | exact X.2.2.2.2.2.2.1.p | exact X.2.2.2.2.2.2.1.d | exact X.2.2.2.2.2.2.2.1.o | exact X.2.2.2.2.2.2.2.2.1 | exact X.2.2.2.2.2.2.2.2.2.1 | exact X.2.2.2.2.2.2.2.2.2.2.2.1 | exact X.2.2.2.2.2.2.2.2.2.2.2.2.2.1 | exact X.2.2.2.2.2.2.2.2.2.2.2.2.2.2.1 | exact X.2.2.2.2.2.2.2.2.2.2.2.2.2.2.2) rfl ?_
        refine j_iload_n dX5_quarter_54 rfl rfl ?_
        refine j_callV (c_passQuarterS X.2.2.2.2.2.2.1 s hN hinc) dX5_quarter_55 rfl mv_X5_177 (by first | exact X.1 | exact X.2.1 | exact X.2.2.2.1 | exact X.2.2.2.2.1 | exact X.2.2.2.2.2.2.1.o | exact X.2.2.2.2.2.2.1.c | exact X.2.2.2.2.2.2.1.i | exact X.2.2.2.2.2.2.1.p | exact X.2.2.2.2.2.2.1.d | exact X.2.2.2.2.2.2.2.1.o | exact X.2.2.2.2.2.2.2.2.1 | exact X.2.2.2.2.2.2.2.2.2.1 | exact X.2.2.2.2.2.2.2.2.2.2.2.1 | exact X.2.2.2.2.2.2.2.2.2.2.2.2.2.1 | exact X.2.2.2.2.2.2.2.2.2.2.2.2.2.2.1 | exact X.2.2.2.2.2.2.2.2.2.2.2.2.2.2.2) rfl ⟨(Nat.le_of_ble_eq_true rfl), (Nat.le_of_ble_eq_true rfl)⟩ ⟨(Nat.le_of_ble_eq_true rfl), (Nat.le_of_ble_eq_true rfl)⟩ (Nat.le_of_ble_eq_true rfl) ?_
        have X := X.town ((qua (sN d) s (sI d) (sC d) (sD d) (nI (sU d)) (nI (sR d)) (sQ d) (sF d)).1, sI d, fil (-1) (sP d) (sN d), (qua (sN d) s (sI d) (sC d) (sD d) (nI (sU d)) (nI (sR d)) (sQ d) (sF d)).2.1, sN d, sU d, sR d, sQ d + 1, sH d, (qua (sN d) s (sI d) (sC d) (sD d) (nI (sU d)) (nI (sR d)) (sQ d) (sF d)).2.2)
        refine j_aload_n dX5_quarter_58 rfl rfl ?_
        refine j_getf dX5_quarter_59 5 4 rfl (Nat.le_of_ble_eq_true rfl) fl_X5_26 in_5 (by first | exact X.1 | exact X.2.1 | exact X.2.2.2.1 | exact X.2.2.2.2.1 | exact X.2.2.2.2.2.2.1.o | exact X.2.2.2.2.2.2.1.c | exact X.2.2.2.2.2.2.1.i | exact X.2.2.2.2.2.2.1.p | exact X.2.2.2.2.2.2.1.d | exact X.2.2.2.2.2.2.2.1.o | exact X.2.2.2.2.2.2.2.2.1 | exact X.2.2.2.2.2.2.2.2.2.1 | exact X.2.2.2.2.2.2.2.2.2.2.2.1 | exact X.2.2.2.2.2.2.2.2.2.2.2.2.2.1 | exact X.2.2.2.2.2.2.2.2.2.2.2.2.2.2.1 | exact X.2.2.2.2.2.2.2.2.2.2.2.2.2.2.2) rfl ?_
        refine j_getf dX5_quarter_62 4 7 rfl (Nat.le_of_ble_eq_true rfl) fl_X5_174 in_4 (by first | exact X.1 | exact X.2.1 | exact X.2.2.2.1 | exact X.2.2.2.2.1 | exact X.2.2.2.2.2.2.1.o | exact X.2.2.2.2.2.2.1.c | exact X.2.2.2.2.2.2.1.i | exact X.2.2.2.2.2.2.1.p | exact X.2.2.2.2.2.2.1.d | exact X.2.2.2.2.2.2.2.1.o | exact X.2.2.2.2.2.2.2.2.1 | exact X.2.2.2.2.2.2.2.2.2.1 | exact X.2.2.2.2.2.2.2.2.2.2.2.1 | exact X.2.2.2.2.2.2.2.2.2.2.2.2.2.1 | exact X.2.2.2.2.2.2.2.2.2.2.2.2.2.2.1 | exact X.2.2.2.2.2.2.2.2.2.2.2.2.2.2.2) rfl ?_
        exact j_iret rfl dX5_quarter_65 rfl rfl (Nat.le_of_ble_eq_true rfl) (Nat.le_of_ble_eq_true rfl)
      · exfalso; omega
    · exact absurd h2 b17
theorem x_undo_state (X : XR σ lf fd rl rn ri tp rd dd d df nx kp da di tr bo ne) (h : kp = 0) : Ct G yX5_undo cX5_undo 1 (some .int) 4 0 0 z σ [.ref 0] (some (.int (-1000002))) z σ := by
  refine Ct.ofJ RX5 rfl [some (.ref 0)] rfl (by decide) Nat.le.refl ?_
  subst h
  refine j_aload_n dX5_undo_0 rfl rfl ?_
  refine j_getf dX5_undo_1 5 6 rfl (Nat.le_of_ble_eq_true rfl) fl_X5_36 in_5 (by first | exact X.1 | exact X.2.1 | exact X.2.2.2.1 | exact X.2.2.2.2.1 | exact X.2.2.2.2.2.2.1.o | exact X.2.2.2.2.2.2.1.c | exact X.2.2.2.2.2.2.1.i | exact X.2.2.2.2.2.2.1.p | exact X.2.2.2.2.2.2.1.d | exact X.2.2.2.2.2.2.2.1.o | exact X.2.2.2.2.2.2.2.2.1 | exact X.2.2.2.2.2.2.2.2.2.1 | exact X.2.2.2.2.2.2.2.2.2.2.2.1 | exact X.2.2.2.2.2.2.2.2.2.2.2.2.2.1 | exact X.2.2.2.2.2.2.2.2.2.2.2.2.2.2.1 | exact X.2.2.2.2.2.2.2.2.2.2.2.2.2.2.2) rfl ?_
  refine j_getf dX5_undo_4 0 2 rfl (Nat.le_of_ble_eq_true rfl) fl_X5_181 in_0 (by first | exact X.1 | exact X.2.1 | exact X.2.2.2.1 | exact X.2.2.2.2.1 | exact X.2.2.2.2.2.2.1.o | exact X.2.2.2.2.2.2.1.c | exact X.2.2.2.2.2.2.1.i | exact X.2.2.2.2.2.2.1.p | exact X.2.2.2.2.2.2.1.d | exact X.2.2.2.2.2.2.2.1.o | exact X.2.2.2.2.2.2.2.2.1 | exact X.2.2.2.2.2.2.2.2.2.1 | exact X.2.2.2.2.2.2.2.2.2.2.2.1 | exact X.2.2.2.2.2.2.2.2.2.2.2.2.2.1 | exact X.2.2.2.2.2.2.2.2.2.2.2.2.2.2.1 | exact X.2.2.2.2.2.2.2.2.2.2.2.2.2.2.2) rfl ?_
  refine j_if_ne 13 dX5_undo_7 (by decide) (fun b7 => ?_) (fun b7 => ?_)
  · exact absurd rfl b7
  · refine j_ldc (-1000002) dX5_undo_10 kc_X5_140 ?_
    exact j_iret rfl dX5_undo_12 rfl rfl (Nat.le_of_ble_eq_true rfl) (Nat.le_of_ble_eq_true rfl)
theorem x_undo_ok (X : XR σ lf fd rl rn ri tp rd dd d df nx kp da di tr bo ne) (h : 1 ≤ kp) (hn : nx < 24) (hkp : kp ≤ 24) : Ct G yX5_undo cX5_undo 1 (some .int) 4 0 0 z σ [.ref 0] (some (.int (nI (kp - 1)))) z (twS (ups σ 35 (xA (prv nx) (kp - 1))) 25 (da (prv nx))) := by
  refine Ct.ofJ RX5 rfl [some (.ref 0)] rfl (by decide) Nat.le.refl ?_
  refine j_aload_n dX5_undo_0 rfl rfl ?_
  refine j_getf dX5_undo_1 5 6 rfl (Nat.le_of_ble_eq_true rfl) fl_X5_36 in_5 (by first | exact X.1 | exact X.2.1 | exact X.2.2.2.1 | exact X.2.2.2.2.1 | exact X.2.2.2.2.2.2.1.o | exact X.2.2.2.2.2.2.1.c | exact X.2.2.2.2.2.2.1.i | exact X.2.2.2.2.2.2.1.p | exact X.2.2.2.2.2.2.1.d | exact X.2.2.2.2.2.2.2.1.o | exact X.2.2.2.2.2.2.2.2.1 | exact X.2.2.2.2.2.2.2.2.2.1 | exact X.2.2.2.2.2.2.2.2.2.2.2.1 | exact X.2.2.2.2.2.2.2.2.2.2.2.2.2.1 | exact X.2.2.2.2.2.2.2.2.2.2.2.2.2.2.1 | exact X.2.2.2.2.2.2.2.2.2.2.2.2.2.2.2) rfl ?_
  refine j_getf dX5_undo_4 0 2 rfl (Nat.le_of_ble_eq_true rfl) fl_X5_181 in_0 (by first | exact X.1 | exact X.2.1 | exact X.2.2.2.1 | exact X.2.2.2.2.1 | exact X.2.2.2.2.2.2.1.o | exact X.2.2.2.2.2.2.1.c | exact X.2.2.2.2.2.2.1.i | exact X.2.2.2.2.2.2.1.p | exact X.2.2.2.2.2.2.1.d | exact X.2.2.2.2.2.2.2.1.o | exact X.2.2.2.2.2.2.2.2.1 | exact X.2.2.2.2.2.2.2.2.2.1 | exact X.2.2.2.2.2.2.2.2.2.2.2.1 | exact X.2.2.2.2.2.2.2.2.2.2.2.2.2.1 | exact X.2.2.2.2.2.2.2.2.2.2.2.2.2.2.1 | exact X.2.2.2.2.2.2.2.2.2.2.2.2.2.2.2) rfl ?_
  refine j_if_ne 13 dX5_undo_7 (by decide) (fun b7 => ?_) (fun b7 => ?_)
  · refine j_aload_n dX5_undo_13 rfl rfl ?_
    refine j_getf dX5_undo_14 5 6 rfl (Nat.le_of_ble_eq_true rfl) fl_X5_36 in_5 (by first | exact X.1 | exact X.2.1 | exact X.2.2.2.1 | exact X.2.2.2.2.1 | exact X.2.2.2.2.2.2.1.o | exact X.2.2.2.2.2.2.1.c | exact X.2.2.2.2.2.2.1.i | exact X.2.2.2.2.2.2.1.p | exact X.2.2.2.2.2.2.1.d | exact X.2.2.2.2.2.2.2.1.o | exact X.2.2.2.2.2.2.2.2.1 | exact X.2.2.2.2.2.2.2.2.2.1 | exact X.2.2.2.2.2.2.2.2.2.2.2.1 | exact X.2.2.2.2.2.2.2.2.2.2.2.2.2.1 | exact X.2.2.2.2.2.2.2.2.2.2.2.2.2.2.1 | exact X.2.2.2.2.2.2.2.2.2.2.2.2.2.2.2) rfl ?_
    refine j_aload_n dX5_undo_17 rfl rfl ?_
    refine j_getf dX5_undo_18 5 4 rfl (Nat.le_of_ble_eq_true rfl) fl_X5_26 in_5 (by first | exact X.1 | exact X.2.1 | exact X.2.2.2.1 | exact X.2.2.2.2.1 | exact X.2.2.2.2.2.2.1.o | exact X.2.2.2.2.2.2.1.c | exact X.2.2.2.2.2.2.1.i | exact X.2.2.2.2.2.2.1.p | exact X.2.2.2.2.2.2.1.d | exact X.2.2.2.2.2.2.2.1.o | exact X.2.2.2.2.2.2.2.2.1 | exact X.2.2.2.2.2.2.2.2.2.1 | exact X.2.2.2.2.2.2.2.2.2.2.2.1 | exact X.2.2.2.2.2.2.2.2.2.2.2.2.2.1 | exact X.2.2.2.2.2.2.2.2.2.2.2.2.2.2.1 | exact X.2.2.2.2.2.2.2.2.2.2.2.2.2.2.2) rfl ?_
    refine j_callV (c_takeBack X hn hkp h) dX5_undo_21 rfl mv_X5_184 (by first | exact X.1 | exact X.2.1 | exact X.2.2.2.1 | exact X.2.2.2.2.1 | exact X.2.2.2.2.2.2.1.o | exact X.2.2.2.2.2.2.1.c | exact X.2.2.2.2.2.2.1.i | exact X.2.2.2.2.2.2.1.p | exact X.2.2.2.2.2.2.1.d | exact X.2.2.2.2.2.2.2.1.o | exact X.2.2.2.2.2.2.2.2.1 | exact X.2.2.2.2.2.2.2.2.2.1 | exact X.2.2.2.2.2.2.2.2.2.2.2.1 | exact X.2.2.2.2.2.2.2.2.2.2.2.2.2.1 | exact X.2.2.2.2.2.2.2.2.2.2.2.2.2.2.1 | exact X.2.2.2.2.2.2.2.2.2.2.2.2.2.2.2) rfl ⟨(Nat.le_of_ble_eq_true rfl), (Nat.le_of_ble_eq_true rfl)⟩ ⟨(Nat.le_of_ble_eq_true rfl), (Nat.le_of_ble_eq_true rfl)⟩ (Nat.le_of_ble_eq_true rfl) ?_
    have X := (X.acts (prv nx) (kp - 1)).town (da (prv nx))
    refine j_aload_n dX5_undo_24 rfl rfl ?_
    refine j_getf dX5_undo_25 5 6 rfl (Nat.le_of_ble_eq_true rfl) fl_X5_36 in_5 (by first | exact X.1 | exact X.2.1 | exact X.2.2.2.1 | exact X.2.2.2.2.1 | exact X.2.2.2.2.2.2.1.o | exact X.2.2.2.2.2.2.1.c | exact X.2.2.2.2.2.2.1.i | exact X.2.2.2.2.2.2.1.p | exact X.2.2.2.2.2.2.1.d | exact X.2.2.2.2.2.2.2.1.o | exact X.2.2.2.2.2.2.2.2.1 | exact X.2.2.2.2.2.2.2.2.2.1 | exact X.2.2.2.2.2.2.2.2.2.2.2.1 | exact X.2.2.2.2.2.2.2.2.2.2.2.2.2.1 | exact X.2.2.2.2.2.2.2.2.2.2.2.2.2.2.1 | exact X.2.2.2.2.2.2.2.2.2.2.2.2.2.2.2) rfl ?_
    refine j_getf dX5_undo_28 0 2 rfl (Nat.le_of_ble_eq_true rfl) fl_X5_181 in_0 (by first | exact X.1 | exact X.2.1 | exact X.2.2.2.1 | exact X.2.2.2.2.1 | exact X.2.2.2.2.2.2.1.o | exact X.2.2.2.2.2.2.1.c | exact X.2.2.2.2.2.2.1.i | exact X.2.2.2.2.2.2.1.p | exact X.2.2.2.2.2.2.1.d | exact X.2.2.2.2.2.2.2.1.o | exact X.2.2.2.2.2.2.2.2.1 | exact X.2.2.2.2.2.2.2.2.2.1 | exact X.2.2.2.2.2.2.2.2.2.2.2.1 | exact X.2.2.2.2.2.2.2.2.2.2.2.2.2.1 | exact X.2.2.2.2.2.2.2.2.2.2.2.2.2.2.1 | exact X.2.2.2.2.2.2.2.2.2.2.2.2.2.2.2) rfl ?_
    exact j_iret rfl dX5_undo_31 rfl rfl (Nat.le_of_ble_eq_true rfl) (Nat.le_of_ble_eq_true rfl)
  · exact absurd b7 (nI_ne0 h (by omega))
theorem x_person_bad (X : XR σ lf fd rl rn ri tp rd dd d df nx kp da di tr bo ne) (p w : Int32) (h : ¬ npI p (sN d) = 0) : Ct G yX5_person cX5_person 3 (some .int) 5 0 0 z σ [.ref 0, .int p, .int w] (some (.int (-1000001))) z σ := by
  refine Ct.ofJ RX5 rfl [some (.ref 0), some (.int p), some (.int w)] rfl (by decide) Nat.le.refl ?_
  refine j_aload_n dX5_person_0 rfl rfl ?_
  refine j_iload_n dX5_person_1 rfl rfl ?_
  refine j_callV (c_isNoPerson X p) dX5_person_2 rfl mv_X5_155 (by first | exact X.1 | exact X.2.1 | exact X.2.2.2.1 | exact X.2.2.2.2.1 | exact X.2.2.2.2.2.2.1.o | exact X.2.2.2.2.2.2.1.c | exact X.2.2.2.2.2.2.1.i | exact X.2.2.2.2.2.2.1.p | exact X.2.2.2.2.2.2.1.d | exact X.2.2.2.2.2.2.2.1.o | exact X.2.2.2.2.2.2.2.2.1 | exact X.2.2.2.2.2.2.2.2.2.1 | exact X.2.2.2.2.2.2.2.2.2.2.2.1 | exact X.2.2.2.2.2.2.2.2.2.2.2.2.2.1 | exact X.2.2.2.2.2.2.2.2.2.2.2.2.2.2.1 | exact X.2.2.2.2.2.2.2.2.2.2.2.2.2.2.2) rfl ⟨(Nat.le_of_ble_eq_true rfl), (Nat.le_of_ble_eq_true rfl)⟩ ⟨(Nat.le_of_ble_eq_true rfl), (Nat.le_of_ble_eq_true rfl)⟩ (Nat.le_of_ble_eq_true rfl) ?_
  refine j_if_eq 11 dX5_person_5 (by decide) (fun b5 => ?_) (fun b5 => ?_)
  · exact absurd b5 h
  · refine j_ldc (-1000001) dX5_person_8 kc_X5_59 ?_
    exact j_iret rfl dX5_person_10 rfl rfl (Nat.le_of_ble_eq_true rfl) (Nat.le_of_ble_eq_true rfl)
theorem x_person_debt (X : XR σ lf fd rl rn ri tp rd dd d df nx kp da di tr bo ne) {p : Nat} (hN : sN d ≤ 7) (hp : p < sN d) {q : Nat} (hq : q < sN d) : Ct G yX5_person cX5_person 3 (some .int) 5 0 0 z σ [.ref 0, .int (nI p), .int (nI (10 + q))] (some (.int (sD d (p * 7 + q)))) z σ := by
  refine Ct.ofJ RX5 rfl [some (.ref 0), some (.int (nI p)), some (.int (nI (10 + q)))] rfl (by decide) Nat.le.refl ?_
  refine j_aload_n dX5_person_0 rfl rfl ?_
  refine j_iload_n dX5_person_1 rfl rfl ?_
  refine j_callV (c_isNoPerson X (nI p)) dX5_person_2 rfl mv_X5_155 (by first | exact X.1 | exact X.2.1 | exact X.2.2.2.1 | exact X.2.2.2.2.1 | exact X.2.2.2.2.2.2.1.o | exact X.2.2.2.2.2.2.1.c | exact X.2.2.2.2.2.2.1.i | exact X.2.2.2.2.2.2.1.p | exact X.2.2.2.2.2.2.1.d | exact X.2.2.2.2.2.2.2.1.o | exact X.2.2.2.2.2.2.2.2.1 | exact X.2.2.2.2.2.2.2.2.2.1 | exact X.2.2.2.2.2.2.2.2.2.2.2.1 | exact X.2.2.2.2.2.2.2.2.2.2.2.2.2.1 | exact X.2.2.2.2.2.2.2.2.2.2.2.2.2.2.1 | exact X.2.2.2.2.2.2.2.2.2.2.2.2.2.2.2) rfl ⟨(Nat.le_of_ble_eq_true rfl), (Nat.le_of_ble_eq_true rfl)⟩ ⟨(Nat.le_of_ble_eq_true rfl), (Nat.le_of_ble_eq_true rfl)⟩ (Nat.le_of_ble_eq_true rfl) ?_
  refine j_top (nI 0) (npI_k hp hN) ?_
  refine j_if_eq 11 dX5_person_5 (by decide) (fun _ => ?_) (fun h => absurd rfl h)
  refine j_iload_n dX5_person_11 rfl rfl ?_
  refine j_bipush (nI 10) dX5_person_12 rfl ?_
  refine j_icmp_ltN 44 dX5_person_14 (by decide) (by omega) (by omega) (fun b14 => ?_) (fun b14 => ?_)
  · exfalso; omega
  · refine j_iload_n dX5_person_17 rfl rfl ?_
    refine j_bipush (nI 10) dX5_person_18 rfl ?_
    refine j_aload_n dX5_person_20 rfl rfl ?_
    refine j_getf dX5_person_21 5 4 rfl (Nat.le_of_ble_eq_true rfl) fl_X5_26 in_5 (by first | exact X.1 | exact X.2.1 | exact X.2.2.2.1 | exact X.2.2.2.2.1 | exact X.2.2.2.2.2.2.1.o | exact X.2.2.2.2.2.2.1.c | exact X.2.2.2.2.2.2.1.i | exact X.2.2.2.2.2.2.1.p | exact X.2.2.2.2.2.2.1.d | exact X.2.2.2.2.2.2.2.1.o | exact X.2.2.2.2.2.2.2.2.1 | exact X.2.2.2.2.2.2.2.2.2.1 | exact X.2.2.2.2.2.2.2.2.2.2.2.1 | exact X.2.2.2.2.2.2.2.2.2.2.2.2.2.1 | exact X.2.2.2.2.2.2.2.2.2.2.2.2.2.2.1 | exact X.2.2.2.2.2.2.2.2.2.2.2.2.2.2.2) rfl ?_
    refine j_getf dX5_person_24 4 4 rfl (Nat.le_of_ble_eq_true rfl) fl_X5_131 in_4 (by first | exact X.1 | exact X.2.1 | exact X.2.2.2.1 | exact X.2.2.2.2.1 | exact X.2.2.2.2.2.2.1.o | exact X.2.2.2.2.2.2.1.c | exact X.2.2.2.2.2.2.1.i | exact X.2.2.2.2.2.2.1.p | exact X.2.2.2.2.2.2.1.d | exact X.2.2.2.2.2.2.2.1.o | exact X.2.2.2.2.2.2.2.2.1 | exact X.2.2.2.2.2.2.2.2.2.1 | exact X.2.2.2.2.2.2.2.2.2.2.2.1 | exact X.2.2.2.2.2.2.2.2.2.2.2.2.2.1 | exact X.2.2.2.2.2.2.2.2.2.2.2.2.2.2.1 | exact X.2.2.2.2.2.2.2.2.2.2.2.2.2.2.2) rfl ?_
    first | refine j_iaddN dX5_person_27 ?_ | refine j_iadd dX5_person_27 ?_
    refine j_icmp_geN 44 dX5_person_28 (by decide) (by omega) (by omega) (fun b28 => ?_) (fun b28 => ?_)
    · exfalso; omega
    · refine j_aload_n dX5_person_31 rfl rfl ?_
      refine j_getf dX5_person_32 5 4 rfl (Nat.le_of_ble_eq_true rfl) fl_X5_26 in_5 (by first | exact X.1 | exact X.2.1 | exact X.2.2.2.1 | exact X.2.2.2.2.1 | exact X.2.2.2.2.2.2.1.o | exact X.2.2.2.2.2.2.1.c | exact X.2.2.2.2.2.2.1.i | exact X.2.2.2.2.2.2.1.p | exact X.2.2.2.2.2.2.1.d | exact X.2.2.2.2.2.2.2.1.o | exact X.2.2.2.2.2.2.2.2.1 | exact X.2.2.2.2.2.2.2.2.2.1 | exact X.2.2.2.2.2.2.2.2.2.2.2.1 | exact X.2.2.2.2.2.2.2.2.2.2.2.2.2.1 | exact X.2.2.2.2.2.2.2.2.2.2.2.2.2.2.1 | exact X.2.2.2.2.2.2.2.2.2.2.2.2.2.2.2) rfl ?_
      refine j_iload_n dX5_person_35 rfl rfl ?_
      refine j_iload_n dX5_person_36 rfl rfl ?_
      refine j_bipush (nI 10) dX5_person_37 rfl ?_
      refine j_isubN dX5_person_39 (by omega) ?_
      refine j_top (nI q) (by rw [Nat.add_sub_cancel_left]) ?_
      refine j_callV (c_debtOfS X.2.2.2.2.2.2.1 (by omega)) dX5_person_40 rfl mv_X5_141 (by first | exact X.1 | exact X.2.1 | exact X.2.2.2.1 | exact X.2.2.2.2.1 | exact X.2.2.2.2.2.2.1.o | exact X.2.2.2.2.2.2.1.c | exact X.2.2.2.2.2.2.1.i | exact X.2.2.2.2.2.2.1.p | exact X.2.2.2.2.2.2.1.d | exact X.2.2.2.2.2.2.2.1.o | exact X.2.2.2.2.2.2.2.2.1 | exact X.2.2.2.2.2.2.2.2.2.1 | exact X.2.2.2.2.2.2.2.2.2.2.2.1 | exact X.2.2.2.2.2.2.2.2.2.2.2.2.2.1 | exact X.2.2.2.2.2.2.2.2.2.2.2.2.2.2.1 | exact X.2.2.2.2.2.2.2.2.2.2.2.2.2.2.2) rfl ⟨(Nat.le_of_ble_eq_true rfl), (Nat.le_of_ble_eq_true rfl)⟩ ⟨(Nat.le_of_ble_eq_true rfl), (Nat.le_of_ble_eq_true rfl)⟩ (Nat.le_of_ble_eq_true rfl) ?_
      exact j_iret rfl dX5_person_43 rfl rfl (Nat.le_of_ble_eq_true rfl) (Nat.le_of_ble_eq_true rfl)
theorem x_person_else (X : XR σ lf fd rl rn ri tp rd dd d df nx kp da di tr bo ne) {p : Nat} (hN : sN d ≤ 7) (hp : p < sN d) (w : Int32) (h1 : w < nI 10 ∨ nI (10 + sN d) ≤ w) (h2 : w.toInt < 0 ∨ 7 < w.toInt) : Ct G yX5_person cX5_person 3 (some .int) 5 0 0 z σ [.ref 0, .int (nI p), .int w] (some (.int (-1000001))) z σ := by
  refine Ct.ofJ RX5 rfl [some (.ref 0), some (.int (nI p)), some (.int w)] rfl (by decide) Nat.le.refl ?_
  refine j_aload_n dX5_person_0 rfl rfl ?_
  refine j_iload_n dX5_person_1 rfl rfl ?_
  refine j_callV (c_isNoPerson X (nI p)) dX5_person_2 rfl mv_X5_155 (by first | exact X.1 | exact X.2.1 | exact X.2.2.2.1 | exact X.2.2.2.2.1 | exact X.2.2.2.2.2.2.1.o | exact X.2.2.2.2.2.2.1.c | exact X.2.2.2.2.2.2.1.i | exact X.2.2.2.2.2.2.1.p | exact X.2.2.2.2.2.2.1.d | exact X.2.2.2.2.2.2.2.1.o | exact X.2.2.2.2.2.2.2.2.1 | exact X.2.2.2.2.2.2.2.2.2.1 | exact X.2.2.2.2.2.2.2.2.2.2.2.1 | exact X.2.2.2.2.2.2.2.2.2.2.2.2.2.1 | exact X.2.2.2.2.2.2.2.2.2.2.2.2.2.2.1 | exact X.2.2.2.2.2.2.2.2.2.2.2.2.2.2.2) rfl ⟨(Nat.le_of_ble_eq_true rfl), (Nat.le_of_ble_eq_true rfl)⟩ ⟨(Nat.le_of_ble_eq_true rfl), (Nat.le_of_ble_eq_true rfl)⟩ (Nat.le_of_ble_eq_true rfl) ?_
  refine j_top (nI 0) (npI_k hp hN) ?_
  refine j_if_eq 11 dX5_person_5 (by decide) (fun _ => ?_) (fun h => absurd rfl h)
  refine j_iload_n dX5_person_11 rfl rfl ?_
  refine j_bipush (nI 10) dX5_person_12 rfl ?_
  refine j_icmp_lt 44 dX5_person_14 (by decide) (fun b14 => ?_) (fun b14 => ?_)
  · refine j_iload_n dX5_person_44 rfl rfl ?_
    refine j_tabOut 181 dX5_person_45 h2 (by decide) ?_
    refine j_ldc (-1000001) dX5_person_181 kc_X5_59 ?_
    exact j_iret rfl dX5_person_183 rfl rfl (Nat.le_of_ble_eq_true rfl) (Nat.le_of_ble_eq_true rfl)
  · refine j_iload_n dX5_person_17 rfl rfl ?_
    refine j_bipush (nI 10) dX5_person_18 rfl ?_
    refine j_aload_n dX5_person_20 rfl rfl ?_
    refine j_getf dX5_person_21 5 4 rfl (Nat.le_of_ble_eq_true rfl) fl_X5_26 in_5 (by first | exact X.1 | exact X.2.1 | exact X.2.2.2.1 | exact X.2.2.2.2.1 | exact X.2.2.2.2.2.2.1.o | exact X.2.2.2.2.2.2.1.c | exact X.2.2.2.2.2.2.1.i | exact X.2.2.2.2.2.2.1.p | exact X.2.2.2.2.2.2.1.d | exact X.2.2.2.2.2.2.2.1.o | exact X.2.2.2.2.2.2.2.2.1 | exact X.2.2.2.2.2.2.2.2.2.1 | exact X.2.2.2.2.2.2.2.2.2.2.2.1 | exact X.2.2.2.2.2.2.2.2.2.2.2.2.2.1 | exact X.2.2.2.2.2.2.2.2.2.2.2.2.2.2.1 | exact X.2.2.2.2.2.2.2.2.2.2.2.2.2.2.2) rfl ?_
    refine j_getf dX5_person_24 4 4 rfl (Nat.le_of_ble_eq_true rfl) fl_X5_131 in_4 (by first | exact X.1 | exact X.2.1 | exact X.2.2.2.1 | exact X.2.2.2.2.1 | exact X.2.2.2.2.2.2.1.o | exact X.2.2.2.2.2.2.1.c | exact X.2.2.2.2.2.2.1.i | exact X.2.2.2.2.2.2.1.p | exact X.2.2.2.2.2.2.1.d | exact X.2.2.2.2.2.2.2.1.o | exact X.2.2.2.2.2.2.2.2.1 | exact X.2.2.2.2.2.2.2.2.2.1 | exact X.2.2.2.2.2.2.2.2.2.2.2.1 | exact X.2.2.2.2.2.2.2.2.2.2.2.2.2.1 | exact X.2.2.2.2.2.2.2.2.2.2.2.2.2.2.1 | exact X.2.2.2.2.2.2.2.2.2.2.2.2.2.2.2) rfl ?_
    first | refine j_iaddN dX5_person_27 ?_ | refine j_iadd dX5_person_27 ?_
    refine j_icmp_ge 44 dX5_person_28 (by decide) (fun b28 => ?_) (fun b28 => ?_)
    · refine j_iload_n dX5_person_44 rfl rfl ?_
      refine j_tabOut 181 dX5_person_45 h2 (by decide) ?_
      refine j_ldc (-1000001) dX5_person_181 kc_X5_59 ?_
      exact j_iret rfl dX5_person_183 rfl rfl (Nat.le_of_ble_eq_true rfl) (Nat.le_of_ble_eq_true rfl)
    · exact absurd h1 (fun q => q.elim b14 b28)
theorem x_person_0 (X : XR σ lf fd rl rn ri tp rd dd d df nx kp da di tr bo ne) {p : Nat} (hN : sN d ≤ 7) (hp : p < sN d) : Ct G yX5_person cX5_person 3 (some .int) 5 0 0 z σ [.ref 0, .int (nI p), .int (nI 0)] (some (.int (sC d p))) z σ := by
  refine Ct.ofJ RX5 rfl [some (.ref 0), some (.int (nI p)), some (.int (nI 0))] rfl (by decide) Nat.le.refl ?_
  refine j_aload_n dX5_person_0 rfl rfl ?_
  refine j_iload_n dX5_person_1 rfl rfl ?_
  refine j_callV (c_isNoPerson X (nI p)) dX5_person_2 rfl mv_X5_155 (by first | exact X.1 | exact X.2.1 | exact X.2.2.2.1 | exact X.2.2.2.2.1 | exact X.2.2.2.2.2.2.1.o | exact X.2.2.2.2.2.2.1.c | exact X.2.2.2.2.2.2.1.i | exact X.2.2.2.2.2.2.1.p | exact X.2.2.2.2.2.2.1.d | exact X.2.2.2.2.2.2.2.1.o | exact X.2.2.2.2.2.2.2.2.1 | exact X.2.2.2.2.2.2.2.2.2.1 | exact X.2.2.2.2.2.2.2.2.2.2.2.1 | exact X.2.2.2.2.2.2.2.2.2.2.2.2.2.1 | exact X.2.2.2.2.2.2.2.2.2.2.2.2.2.2.1 | exact X.2.2.2.2.2.2.2.2.2.2.2.2.2.2.2) rfl ⟨(Nat.le_of_ble_eq_true rfl), (Nat.le_of_ble_eq_true rfl)⟩ ⟨(Nat.le_of_ble_eq_true rfl), (Nat.le_of_ble_eq_true rfl)⟩ (Nat.le_of_ble_eq_true rfl) ?_
  refine j_top (nI 0) (npI_k hp hN) ?_
  refine j_if_eq 11 dX5_person_5 (by decide) (fun _ => ?_) (fun h => absurd rfl h)
  refine j_iload_n dX5_person_11 rfl rfl ?_
  refine j_bipush (nI 10) dX5_person_12 rfl ?_
  refine j_icmp_ltN 44 dX5_person_14 (by decide) (by omega) (by omega) (fun b14 => ?_) (fun b14 => ?_)
  · refine j_iload_n dX5_person_44 rfl rfl ?_
    refine j_tabK 0 92 dX5_person_45 rfl (by decide) (by decide) (by decide) rfl (by decide) ?_
    refine j_aload_n dX5_person_92 rfl rfl ?_
    refine j_getf dX5_person_93 5 4 rfl (Nat.le_of_ble_eq_true rfl) fl_X5_26 in_5 (by first | exact X.1 | exact X.2.1 | exact X.2.2.2.1 | exact X.2.2.2.2.1 | exact X.2.2.2.2.2.2.1.o | exact X.2.2.2.2.2.2.1.c | exact X.2.2.2.2.2.2.1.i | exact X.2.2.2.2.2.2.1.p | exact X.2.2.2.2.2.2.1.d | exact X.2.2.2.2.2.2.2.1.o | exact X.2.2.2.2.2.2.2.2.1 | exact X.2.2.2.2.2.2.2.2.2.1 | exact X.2.2.2.2.2.2.2.2.2.2.2.1 | exact X.2.2.2.2.2.2.2.2.2.2.2.2.2.1 | exact X.2.2.2.2.2.2.2.2.2.2.2.2.2.2.1 | exact X.2.2.2.2.2.2.2.2.2.2.2.2.2.2.2) rfl ?_
    refine j_getf dX5_person_96 4 0 rfl (Nat.le_of_ble_eq_true rfl) fl_X5_137 in_4 (by first | exact X.1 | exact X.2.1 | exact X.2.2.2.1 | exact X.2.2.2.2.1 | exact X.2.2.2.2.2.2.1.o | exact X.2.2.2.2.2.2.1.c | exact X.2.2.2.2.2.2.1.i | exact X.2.2.2.2.2.2.1.p | exact X.2.2.2.2.2.2.1.d | exact X.2.2.2.2.2.2.2.1.o | exact X.2.2.2.2.2.2.2.2.1 | exact X.2.2.2.2.2.2.2.2.2.1 | exact X.2.2.2.2.2.2.2.2.2.2.2.1 | exact X.2.2.2.2.2.2.2.2.2.2.2.2.2.1 | exact X.2.2.2.2.2.2.2.2.2.2.2.2.2.2.1 | exact X.2.2.2.2.2.2.2.2.2.2.2.2.2.2.2) rfl ?_
    refine j_iload_n dX5_person_99 rfl rfl ?_
    refine j_iald dX5_person_100 (by first | exact X.1 | exact X.2.1 | exact X.2.2.2.1 | exact X.2.2.2.2.1 | exact X.2.2.2.2.2.2.1.o | exact X.2.2.2.2.2.2.1.c | exact X.2.2.2.2.2.2.1.i | exact X.2.2.2.2.2.2.1.p | exact X.2.2.2.2.2.2.1.d | exact X.2.2.2.2.2.2.2.1.o | exact X.2.2.2.2.2.2.2.2.1 | exact X.2.2.2.2.2.2.2.2.2.1 | exact X.2.2.2.2.2.2.2.2.2.2.2.1 | exact X.2.2.2.2.2.2.2.2.2.2.2.2.2.1 | exact X.2.2.2.2.2.2.2.2.2.2.2.2.2.2.1 | exact X.2.2.2.2.2.2.2.2.2.2.2.2.2.2.2) rfl (by omega) (by decide) ?_
    exact j_iret rfl dX5_person_101 rfl rfl (Nat.le_of_ble_eq_true rfl) (Nat.le_of_ble_eq_true rfl)
  · exfalso; omega
theorem x_person_1 (X : XR σ lf fd rl rn ri tp rd dd d df nx kp da di tr bo ne) {p : Nat} (hN : sN d ≤ 7) (hp : p < sN d) : Ct G yX5_person cX5_person 3 (some .int) 5 0 0 z σ [.ref 0, .int (nI p), .int (nI 1)] (some (.int (sI d p))) z σ := by
  refine Ct.ofJ RX5 rfl [some (.ref 0), some (.int (nI p)), some (.int (nI 1))] rfl (by decide) Nat.le.refl ?_
  refine j_aload_n dX5_person_0 rfl rfl ?_
  refine j_iload_n dX5_person_1 rfl rfl ?_
  refine j_callV (c_isNoPerson X (nI p)) dX5_person_2 rfl mv_X5_155 (by first | exact X.1 | exact X.2.1 | exact X.2.2.2.1 | exact X.2.2.2.2.1 | exact X.2.2.2.2.2.2.1.o | exact X.2.2.2.2.2.2.1.c | exact X.2.2.2.2.2.2.1.i | exact X.2.2.2.2.2.2.1.p | exact X.2.2.2.2.2.2.1.d | exact X.2.2.2.2.2.2.2.1.o | exact X.2.2.2.2.2.2.2.2.1 | exact X.2.2.2.2.2.2.2.2.2.1 | exact X.2.2.2.2.2.2.2.2.2.2.2.1 | exact X.2.2.2.2.2.2.2.2.2.2.2.2.2.1 | exact X.2.2.2.2.2.2.2.2.2.2.2.2.2.2.1 | exact X.2.2.2.2.2.2.2.2.2.2.2.2.2.2.2) rfl ⟨(Nat.le_of_ble_eq_true rfl), (Nat.le_of_ble_eq_true rfl)⟩ ⟨(Nat.le_of_ble_eq_true rfl), (Nat.le_of_ble_eq_true rfl)⟩ (Nat.le_of_ble_eq_true rfl) ?_
  refine j_top (nI 0) (npI_k hp hN) ?_
  refine j_if_eq 11 dX5_person_5 (by decide) (fun _ => ?_) (fun h => absurd rfl h)
  refine j_iload_n dX5_person_11 rfl rfl ?_
  refine j_bipush (nI 10) dX5_person_12 rfl ?_
  refine j_icmp_ltN 44 dX5_person_14 (by decide) (by omega) (by omega) (fun b14 => ?_) (fun b14 => ?_)
  · refine j_iload_n dX5_person_44 rfl rfl ?_
    refine j_tabK 1 102 dX5_person_45 rfl (by decide) (by decide) (by decide) rfl (by decide) ?_
    refine j_aload_n dX5_person_102 rfl rfl ?_
    refine j_getf dX5_person_103 5 4 rfl (Nat.le_of_ble_eq_true rfl) fl_X5_26 in_5 (by first | exact X.1 | exact X.2.1 | exact X.2.2.2.1 | exact X.2.2.2.2.1 | exact X.2.2.2.2.2.2.1.o | exact X.2.2.2.2.2.2.1.c | exact X.2.2.2.2.2.2.1.i | exact X.2.2.2.2.2.2.1.p | exact X.2.2.2.2.2.2.1.d | exact X.2.2.2.2.2.2.2.1.o | exact X.2.2.2.2.2.2.2.2.1 | exact X.2.2.2.2.2.2.2.2.2.1 | exact X.2.2.2.2.2.2.2.2.2.2.2.1 | exact X.2.2.2.2.2.2.2.2.2.2.2.2.2.1 | exact X.2.2.2.2.2.2.2.2.2.2.2.2.2.2.1 | exact X.2.2.2.2.2.2.2.2.2.2.2.2.2.2.2) rfl ?_
    refine j_getf dX5_person_106 4 1 rfl (Nat.le_of_ble_eq_true rfl) fl_X5_187 in_4 (by first | exact X.1 | exact X.2.1 | exact X.2.2.2.1 | exact X.2.2.2.2.1 | exact X.2.2.2.2.2.2.1.o | exact X.2.2.2.2.2.2.1.c | exact X.2.2.2.2.2.2.1.i | exact X.2.2.2.2.2.2.1.p | exact X.2.2.2.2.2.2.1.d | exact X.2.2.2.2.2.2.2.1.o | exact X.2.2.2.2.2.2.2.2.1 | exact X.2.2.2.2.2.2.2.2.2.1 | exact X.2.2.2.2.2.2.2.2.2.2.2.1 | exact X.2.2.2.2.2.2.2.2.2.2.2.2.2.1 | exact X.2.2.2.2.2.2.2.2.2.2.2.2.2.2.1 | exact X.2.2.2.2.2.2.2.2.2.2.2.2.2.2.2) rfl ?_
    refine j_iload_n dX5_person_109 rfl rfl ?_
    refine j_iald dX5_person_110 (by first | exact X.1 | exact X.2.1 | exact X.2.2.2.1 | exact X.2.2.2.2.1 | exact X.2.2.2.2.2.2.1.o | exact X.2.2.2.2.2.2.1.c | exact X.2.2.2.2.2.2.1.i | exact X.2.2.2.2.2.2.1.p | exact X.2.2.2.2.2.2.1.d | exact X.2.2.2.2.2.2.2.1.o | exact X.2.2.2.2.2.2.2.2.1 | exact X.2.2.2.2.2.2.2.2.2.1 | exact X.2.2.2.2.2.2.2.2.2.2.2.1 | exact X.2.2.2.2.2.2.2.2.2.2.2.2.2.1 | exact X.2.2.2.2.2.2.2.2.2.2.2.2.2.2.1 | exact X.2.2.2.2.2.2.2.2.2.2.2.2.2.2.2) rfl (by omega) (by decide) ?_
    exact j_iret rfl dX5_person_111 rfl rfl (Nat.le_of_ble_eq_true rfl) (Nat.le_of_ble_eq_true rfl)
  · exfalso; omega
theorem x_person_2 (X : XR σ lf fd rl rn ri tp rd dd d df nx kp da di tr bo ne) {p : Nat} (hN : sN d ≤ 7) (hp : p < sN d) : Ct G yX5_person cX5_person 3 (some .int) 5 0 0 z σ [.ref 0, .int (nI p), .int (nI 2)] (some (.int (dsum (sD d) (sN d) p))) z σ := by
  refine Ct.ofJ RX5 rfl [some (.ref 0), some (.int (nI p)), some (.int (nI 2))] rfl (by decide) Nat.le.refl ?_
  refine j_aload_n dX5_person_0 rfl rfl ?_
  refine j_iload_n dX5_person_1 rfl rfl ?_
  refine j_callV (c_isNoPerson X (nI p)) dX5_person_2 rfl mv_X5_155 (by first | exact X.1 | exact X.2.1 | exact X.2.2.2.1 | exact X.2.2.2.2.1 | exact X.2.2.2.2.2.2.1.o | exact X.2.2.2.2.2.2.1.c | exact X.2.2.2.2.2.2.1.i | exact X.2.2.2.2.2.2.1.p | exact X.2.2.2.2.2.2.1.d | exact X.2.2.2.2.2.2.2.1.o | exact X.2.2.2.2.2.2.2.2.1 | exact X.2.2.2.2.2.2.2.2.2.1 | exact X.2.2.2.2.2.2.2.2.2.2.2.1 | exact X.2.2.2.2.2.2.2.2.2.2.2.2.2.1 | exact X.2.2.2.2.2.2.2.2.2.2.2.2.2.2.1 | exact X.2.2.2.2.2.2.2.2.2.2.2.2.2.2.2) rfl ⟨(Nat.le_of_ble_eq_true rfl), (Nat.le_of_ble_eq_true rfl)⟩ ⟨(Nat.le_of_ble_eq_true rfl), (Nat.le_of_ble_eq_true rfl)⟩ (Nat.le_of_ble_eq_true rfl) ?_
  refine j_top (nI 0) (npI_k hp hN) ?_
  refine j_if_eq 11 dX5_person_5 (by decide) (fun _ => ?_) (fun h => absurd rfl h)
  refine j_iload_n dX5_person_11 rfl rfl ?_
  refine j_bipush (nI 10) dX5_person_12 rfl ?_
  refine j_icmp_ltN 44 dX5_person_14 (by decide) (by omega) (by omega) (fun b14 => ?_) (fun b14 => ?_)
  · refine j_iload_n dX5_person_44 rfl rfl ?_
    refine j_tabK 2 112 dX5_person_45 rfl (by decide) (by decide) (by decide) rfl (by decide) ?_
    refine j_aload_n dX5_person_112 rfl rfl ?_
    refine j_getf dX5_person_113 5 4 rfl (Nat.le_of_ble_eq_true rfl) fl_X5_26 in_5 (by first | exact X.1 | exact X.2.1 | exact X.2.2.2.1 | exact X.2.2.2.2.1 | exact X.2.2.2.2.2.2.1.o | exact X.2.2.2.2.2.2.1.c | exact X.2.2.2.2.2.2.1.i | exact X.2.2.2.2.2.2.1.p | exact X.2.2.2.2.2.2.1.d | exact X.2.2.2.2.2.2.2.1.o | exact X.2.2.2.2.2.2.2.2.1 | exact X.2.2.2.2.2.2.2.2.2.1 | exact X.2.2.2.2.2.2.2.2.2.2.2.1 | exact X.2.2.2.2.2.2.2.2.2.2.2.2.2.1 | exact X.2.2.2.2.2.2.2.2.2.2.2.2.2.2.1 | exact X.2.2.2.2.2.2.2.2.2.2.2.2.2.2.2) rfl ?_
    refine j_iload_n dX5_person_116 rfl rfl ?_
    refine j_callV (c_owedByS X.2.2.2.2.2.2.1 hN (by omega)) dX5_person_117 rfl mv_X5_190 (by first | exact X.1 | exact X.2.1 | exact X.2.2.2.1 | exact X.2.2.2.2.1 | exact X.2.2.2.2.2.2.1.o | exact X.2.2.2.2.2.2.1.c | exact X.2.2.2.2.2.2.1.i | exact X.2.2.2.2.2.2.1.p | exact X.2.2.2.2.2.2.1.d | exact X.2.2.2.2.2.2.2.1.o | exact X.2.2.2.2.2.2.2.2.1 | exact X.2.2.2.2.2.2.2.2.2.1 | exact X.2.2.2.2.2.2.2.2.2.2.2.1 | exact X.2.2.2.2.2.2.2.2.2.2.2.2.2.1 | exact X.2.2.2.2.2.2.2.2.2.2.2.2.2.2.1 | exact X.2.2.2.2.2.2.2.2.2.2.2.2.2.2.2) rfl ⟨(Nat.le_of_ble_eq_true rfl), (Nat.le_of_ble_eq_true rfl)⟩ ⟨(Nat.le_of_ble_eq_true rfl), (Nat.le_of_ble_eq_true rfl)⟩ (Nat.le_of_ble_eq_true rfl) ?_
    exact j_iret rfl dX5_person_120 rfl rfl (Nat.le_of_ble_eq_true rfl) (Nat.le_of_ble_eq_true rfl)
  · exfalso; omega
theorem x_person_3 (X : XR σ lf fd rl rn ri tp rd dd d df nx kp da di tr bo ne) {p : Nat} (hN : sN d ≤ 7) (hp : p < sN d) (hu : 1 ≤ sU d) (hu2 : sU d ≤ 20) : Ct G yX5_person cX5_person 3 (some .int) 5 0 0 z σ [.ref 0, .int (nI p), .int (nI 3)] (some (.int (shd (sD d) (sN d) (sU d) p))) z σ := by
  refine Ct.ofJ RX5 rfl [some (.ref 0), some (.int (nI p)), some (.int (nI 3))] rfl (by decide) Nat.le.refl ?_
  refine j_aload_n dX5_person_0 rfl rfl ?_
  refine j_iload_n dX5_person_1 rfl rfl ?_
  refine j_callV (c_isNoPerson X (nI p)) dX5_person_2 rfl mv_X5_155 (by first | exact X.1 | exact X.2.1 | exact X.2.2.2.1 | exact X.2.2.2.2.1 | exact X.2.2.2.2.2.2.1.o | exact X.2.2.2.2.2.2.1.c | exact X.2.2.2.2.2.2.1.i | exact X.2.2.2.2.2.2.1.p | exact X.2.2.2.2.2.2.1.d | exact X.2.2.2.2.2.2.2.1.o | exact X.2.2.2.2.2.2.2.2.1 | exact X.2.2.2.2.2.2.2.2.2.1 | exact X.2.2.2.2.2.2.2.2.2.2.2.1 | exact X.2.2.2.2.2.2.2.2.2.2.2.2.2.1 | exact X.2.2.2.2.2.2.2.2.2.2.2.2.2.2.1 | exact X.2.2.2.2.2.2.2.2.2.2.2.2.2.2.2) rfl ⟨(Nat.le_of_ble_eq_true rfl), (Nat.le_of_ble_eq_true rfl)⟩ ⟨(Nat.le_of_ble_eq_true rfl), (Nat.le_of_ble_eq_true rfl)⟩ (Nat.le_of_ble_eq_true rfl) ?_
  refine j_top (nI 0) (npI_k hp hN) ?_
  refine j_if_eq 11 dX5_person_5 (by decide) (fun _ => ?_) (fun h => absurd rfl h)
  refine j_iload_n dX5_person_11 rfl rfl ?_
  refine j_bipush (nI 10) dX5_person_12 rfl ?_
  refine j_icmp_ltN 44 dX5_person_14 (by decide) (by omega) (by omega) (fun b14 => ?_) (fun b14 => ?_)
  · refine j_iload_n dX5_person_44 rfl rfl ?_
    refine j_tabK 3 121 dX5_person_45 rfl (by decide) (by decide) (by decide) rfl (by decide) ?_
    refine j_aload_n dX5_person_121 rfl rfl ?_
    refine j_getf dX5_person_122 5 4 rfl (Nat.le_of_ble_eq_true rfl) fl_X5_26 in_5 (by first | exact X.1 | exact X.2.1 | exact X.2.2.2.1 | exact X.2.2.2.2.1 | exact X.2.2.2.2.2.2.1.o | exact X.2.2.2.2.2.2.1.c | exact X.2.2.2.2.2.2.1.i | exact X.2.2.2.2.2.2.1.p | exact X.2.2.2.2.2.2.1.d | exact X.2.2.2.2.2.2.2.1.o | exact X.2.2.2.2.2.2.2.2.1 | exact X.2.2.2.2.2.2.2.2.2.1 | exact X.2.2.2.2.2.2.2.2.2.2.2.1 | exact X.2.2.2.2.2.2.2.2.2.2.2.2.2.1 | exact X.2.2.2.2.2.2.2.2.2.2.2.2.2.2.1 | exact X.2.2.2.2.2.2.2.2.2.2.2.2.2.2.2) rfl ?_
    refine j_iload_n dX5_person_125 rfl rfl ?_
    refine j_callV (c_shadeOfS X.2.2.2.2.2.2.1 hN (by omega) hu hu2) dX5_person_126 rfl mv_X5_193 (by first | exact X.1 | exact X.2.1 | exact X.2.2.2.1 | exact X.2.2.2.2.1 | exact X.2.2.2.2.2.2.1.o | exact X.2.2.2.2.2.2.1.c | exact X.2.2.2.2.2.2.1.i | exact X.2.2.2.2.2.2.1.p | exact X.2.2.2.2.2.2.1.d | exact X.2.2.2.2.2.2.2.1.o | exact X.2.2.2.2.2.2.2.2.1 | exact X.2.2.2.2.2.2.2.2.2.1 | exact X.2.2.2.2.2.2.2.2.2.2.2.1 | exact X.2.2.2.2.2.2.2.2.2.2.2.2.2.1 | exact X.2.2.2.2.2.2.2.2.2.2.2.2.2.2.1 | exact X.2.2.2.2.2.2.2.2.2.2.2.2.2.2.2) rfl ⟨(Nat.le_of_ble_eq_true rfl), (Nat.le_of_ble_eq_true rfl)⟩ ⟨(Nat.le_of_ble_eq_true rfl), (Nat.le_of_ble_eq_true rfl)⟩ (Nat.le_of_ble_eq_true rfl) ?_
    exact j_iret rfl dX5_person_129 rfl rfl (Nat.le_of_ble_eq_true rfl) (Nat.le_of_ble_eq_true rfl)
  · exfalso; omega
theorem x_person_4 (X : XR σ lf fd rl rn ri tp rd dd d df nx kp da di tr bo ne) {p : Nat} (hN : sN d ≤ 7) (hp : p < sN d) (hu : 1 ≤ sU d) (hu2 : sU d ≤ 20) : Ct G yX5_person cX5_person 3 (some .int) 5 0 0 z σ [.ref 0, .int (nI p), .int (nI 4)] (some (.int (lks (sP d) (sD d) (sN d) (sU d) p))) z σ := by
  refine Ct.ofJ RX5 rfl [some (.ref 0), some (.int (nI p)), some (.int (nI 4))] rfl (by decide) Nat.le.refl ?_
  refine j_aload_n dX5_person_0 rfl rfl ?_
  refine j_iload_n dX5_person_1 rfl rfl ?_
  refine j_callV (c_isNoPerson X (nI p)) dX5_person_2 rfl mv_X5_155 (by first | exact X.1 | exact X.2.1 | exact X.2.2.2.1 | exact X.2.2.2.2.1 | exact X.2.2.2.2.2.2.1.o | exact X.2.2.2.2.2.2.1.c | exact X.2.2.2.2.2.2.1.i | exact X.2.2.2.2.2.2.1.p | exact X.2.2.2.2.2.2.1.d | exact X.2.2.2.2.2.2.2.1.o | exact X.2.2.2.2.2.2.2.2.1 | exact X.2.2.2.2.2.2.2.2.2.1 | exact X.2.2.2.2.2.2.2.2.2.2.2.1 | exact X.2.2.2.2.2.2.2.2.2.2.2.2.2.1 | exact X.2.2.2.2.2.2.2.2.2.2.2.2.2.2.1 | exact X.2.2.2.2.2.2.2.2.2.2.2.2.2.2.2) rfl ⟨(Nat.le_of_ble_eq_true rfl), (Nat.le_of_ble_eq_true rfl)⟩ ⟨(Nat.le_of_ble_eq_true rfl), (Nat.le_of_ble_eq_true rfl)⟩ (Nat.le_of_ble_eq_true rfl) ?_
  refine j_top (nI 0) (npI_k hp hN) ?_
  refine j_if_eq 11 dX5_person_5 (by decide) (fun _ => ?_) (fun h => absurd rfl h)
  refine j_iload_n dX5_person_11 rfl rfl ?_
  refine j_bipush (nI 10) dX5_person_12 rfl ?_
  refine j_icmp_ltN 44 dX5_person_14 (by decide) (by omega) (by omega) (fun b14 => ?_) (fun b14 => ?_)
  · refine j_iload_n dX5_person_44 rfl rfl ?_
    refine j_tabK 4 130 dX5_person_45 rfl (by decide) (by decide) (by decide) rfl (by decide) ?_
    refine j_aload_n dX5_person_130 rfl rfl ?_
    refine j_getf dX5_person_131 5 4 rfl (Nat.le_of_ble_eq_true rfl) fl_X5_26 in_5 (by first | exact X.1 | exact X.2.1 | exact X.2.2.2.1 | exact X.2.2.2.2.1 | exact X.2.2.2.2.2.2.1.o | exact X.2.2.2.2.2.2.1.c | exact X.2.2.2.2.2.2.1.i | exact X.2.2.2.2.2.2.1.p | exact X.2.2.2.2.2.2.1.d | exact X.2.2.2.2.2.2.2.1.o | exact X.2.2.2.2.2.2.2.2.1 | exact X.2.2.2.2.2.2.2.2.2.1 | exact X.2.2.2.2.2.2.2.2.2.2.2.1 | exact X.2.2.2.2.2.2.2.2.2.2.2.2.2.1 | exact X.2.2.2.2.2.2.2.2.2.2.2.2.2.2.1 | exact X.2.2.2.2.2.2.2.2.2.2.2.2.2.2.2) rfl ?_
    refine j_iload_n dX5_person_134 rfl rfl ?_
    refine j_callV (c_looksOfS X.2.2.2.2.2.2.1 hN (by omega) hu hu2) dX5_person_135 rfl mv_X5_158 (by first | exact X.1 | exact X.2.1 | exact X.2.2.2.1 | exact X.2.2.2.2.1 | exact X.2.2.2.2.2.2.1.o | exact X.2.2.2.2.2.2.1.c | exact X.2.2.2.2.2.2.1.i | exact X.2.2.2.2.2.2.1.p | exact X.2.2.2.2.2.2.1.d | exact X.2.2.2.2.2.2.2.1.o | exact X.2.2.2.2.2.2.2.2.1 | exact X.2.2.2.2.2.2.2.2.2.1 | exact X.2.2.2.2.2.2.2.2.2.2.2.1 | exact X.2.2.2.2.2.2.2.2.2.2.2.2.2.1 | exact X.2.2.2.2.2.2.2.2.2.2.2.2.2.2.1 | exact X.2.2.2.2.2.2.2.2.2.2.2.2.2.2.2) rfl ⟨(Nat.le_of_ble_eq_true rfl), (Nat.le_of_ble_eq_true rfl)⟩ ⟨(Nat.le_of_ble_eq_true rfl), (Nat.le_of_ble_eq_true rfl)⟩ (Nat.le_of_ble_eq_true rfl) ?_
    exact j_iret rfl dX5_person_138 rfl rfl (Nat.le_of_ble_eq_true rfl) (Nat.le_of_ble_eq_true rfl)
  · exfalso; omega
theorem x_person_5 (X : XR σ lf fd rl rn ri tp rd dd d df nx kp da di tr bo ne) {p : Nat} (hN : sN d ≤ 7) (hp : p < sN d) : Ct G yX5_person cX5_person 3 (some .int) 5 0 0 z σ [.ref 0, .int (nI p), .int (nI 5)] (some (.int (bitI (sH d) (nI p)))) z σ := by
  refine Ct.ofJ RX5 rfl [some (.ref 0), some (.int (nI p)), some (.int (nI 5))] rfl (by decide) Nat.le.refl ?_
  refine j_aload_n dX5_person_0 rfl rfl ?_
  refine j_iload_n dX5_person_1 rfl rfl ?_
  refine j_callV (c_isNoPerson X (nI p)) dX5_person_2 rfl mv_X5_155 (by first | exact X.1 | exact X.2.1 | exact X.2.2.2.1 | exact X.2.2.2.2.1 | exact X.2.2.2.2.2.2.1.o | exact X.2.2.2.2.2.2.1.c | exact X.2.2.2.2.2.2.1.i | exact X.2.2.2.2.2.2.1.p | exact X.2.2.2.2.2.2.1.d | exact X.2.2.2.2.2.2.2.1.o | exact X.2.2.2.2.2.2.2.2.1 | exact X.2.2.2.2.2.2.2.2.2.1 | exact X.2.2.2.2.2.2.2.2.2.2.2.1 | exact X.2.2.2.2.2.2.2.2.2.2.2.2.2.1 | exact X.2.2.2.2.2.2.2.2.2.2.2.2.2.2.1 | exact X.2.2.2.2.2.2.2.2.2.2.2.2.2.2.2) rfl ⟨(Nat.le_of_ble_eq_true rfl), (Nat.le_of_ble_eq_true rfl)⟩ ⟨(Nat.le_of_ble_eq_true rfl), (Nat.le_of_ble_eq_true rfl)⟩ (Nat.le_of_ble_eq_true rfl) ?_
  refine j_top (nI 0) (npI_k hp hN) ?_
  refine j_if_eq 11 dX5_person_5 (by decide) (fun _ => ?_) (fun h => absurd rfl h)
  refine j_iload_n dX5_person_11 rfl rfl ?_
  refine j_bipush (nI 10) dX5_person_12 rfl ?_
  refine j_icmp_ltN 44 dX5_person_14 (by decide) (by omega) (by omega) (fun b14 => ?_) (fun b14 => ?_)
  · refine j_iload_n dX5_person_44 rfl rfl ?_
    refine j_tabK 5 139 dX5_person_45 rfl (by decide) (by decide) (by decide) rfl (by decide) ?_
    refine j_aload_n dX5_person_139 rfl rfl ?_
    refine j_getf dX5_person_140 5 4 rfl (Nat.le_of_ble_eq_true rfl) fl_X5_26 in_5 (by first | exact X.1 | exact X.2.1 | exact X.2.2.2.1 | exact X.2.2.2.2.1 | exact X.2.2.2.2.2.2.1.o | exact X.2.2.2.2.2.2.1.c | exact X.2.2.2.2.2.2.1.i | exact X.2.2.2.2.2.2.1.p | exact X.2.2.2.2.2.2.1.d | exact X.2.2.2.2.2.2.2.1.o | exact X.2.2.2.2.2.2.2.2.1 | exact X.2.2.2.2.2.2.2.2.2.1 | exact X.2.2.2.2.2.2.2.2.2.2.2.1 | exact X.2.2.2.2.2.2.2.2.2.2.2.2.2.1 | exact X.2.2.2.2.2.2.2.2.2.2.2.2.2.2.1 | exact X.2.2.2.2.2.2.2.2.2.2.2.2.2.2.2) rfl ?_
    refine j_getf dX5_person_143 4 8 rfl (Nat.le_of_ble_eq_true rfl) fl_X5_164 in_4 (by first | exact X.1 | exact X.2.1 | exact X.2.2.2.1 | exact X.2.2.2.2.1 | exact X.2.2.2.2.2.2.1.o | exact X.2.2.2.2.2.2.1.c | exact X.2.2.2.2.2.2.1.i | exact X.2.2.2.2.2.2.1.p | exact X.2.2.2.2.2.2.1.d | exact X.2.2.2.2.2.2.2.1.o | exact X.2.2.2.2.2.2.2.2.1 | exact X.2.2.2.2.2.2.2.2.2.1 | exact X.2.2.2.2.2.2.2.2.2.2.2.1 | exact X.2.2.2.2.2.2.2.2.2.2.2.2.2.1 | exact X.2.2.2.2.2.2.2.2.2.2.2.2.2.2.1 | exact X.2.2.2.2.2.2.2.2.2.2.2.2.2.2.2) rfl ?_
    refine j_iload_n dX5_person_146 rfl rfl ?_
    refine j_callS (c_bitOf G z _ (sH d) (nI p)) dX5_person_147 rfl ms_X5_167 ⟨(Nat.le_of_ble_eq_true rfl), (Nat.le_of_ble_eq_true rfl)⟩ ⟨(Nat.le_of_ble_eq_true rfl), (Nat.le_of_ble_eq_true rfl)⟩ (Nat.le_of_ble_eq_true rfl) ?_
    exact j_iret rfl dX5_person_150 rfl rfl (Nat.le_of_ble_eq_true rfl) (Nat.le_of_ble_eq_true rfl)
  · exfalso; omega
theorem x_person_6 (X : XR σ lf fd rl rn ri tp rd dd d df nx kp da di tr bo ne) {p : Nat} (hN : sN d ≤ 7) (hp : p < sN d) : Ct G yX5_person cX5_person 3 (some .int) 5 0 0 z σ [.ref 0, .int (nI p), .int (nI 6)] (some (.int (bitI (sF d) (nI p)))) z σ := by
  refine Ct.ofJ RX5 rfl [some (.ref 0), some (.int (nI p)), some (.int (nI 6))] rfl (by decide) Nat.le.refl ?_
  refine j_aload_n dX5_person_0 rfl rfl ?_
  refine j_iload_n dX5_person_1 rfl rfl ?_
  refine j_callV (c_isNoPerson X (nI p)) dX5_person_2 rfl mv_X5_155 (by first | exact X.1 | exact X.2.1 | exact X.2.2.2.1 | exact X.2.2.2.2.1 | exact X.2.2.2.2.2.2.1.o | exact X.2.2.2.2.2.2.1.c | exact X.2.2.2.2.2.2.1.i | exact X.2.2.2.2.2.2.1.p | exact X.2.2.2.2.2.2.1.d | exact X.2.2.2.2.2.2.2.1.o | exact X.2.2.2.2.2.2.2.2.1 | exact X.2.2.2.2.2.2.2.2.2.1 | exact X.2.2.2.2.2.2.2.2.2.2.2.1 | exact X.2.2.2.2.2.2.2.2.2.2.2.2.2.1 | exact X.2.2.2.2.2.2.2.2.2.2.2.2.2.2.1 | exact X.2.2.2.2.2.2.2.2.2.2.2.2.2.2.2) rfl ⟨(Nat.le_of_ble_eq_true rfl), (Nat.le_of_ble_eq_true rfl)⟩ ⟨(Nat.le_of_ble_eq_true rfl), (Nat.le_of_ble_eq_true rfl)⟩ (Nat.le_of_ble_eq_true rfl) ?_
  refine j_top (nI 0) (npI_k hp hN) ?_
  refine j_if_eq 11 dX5_person_5 (by decide) (fun _ => ?_) (fun h => absurd rfl h)
  refine j_iload_n dX5_person_11 rfl rfl ?_
  refine j_bipush (nI 10) dX5_person_12 rfl ?_
  refine j_icmp_ltN 44 dX5_person_14 (by decide) (by omega) (by omega) (fun b14 => ?_) (fun b14 => ?_)
  · refine j_iload_n dX5_person_44 rfl rfl ?_
    refine j_tabK 6 151 dX5_person_45 rfl (by decide) (by decide) (by decide) rfl (by decide) ?_
    refine j_aload_n dX5_person_151 rfl rfl ?_
    refine j_getf dX5_person_152 5 4 rfl (Nat.le_of_ble_eq_true rfl) fl_X5_26 in_5 (by first | exact X.1 | exact X.2.1 | exact X.2.2.2.1 | exact X.2.2.2.2.1 | exact X.2.2.2.2.2.2.1.o | exact X.2.2.2.2.2.2.1.c | exact X.2.2.2.2.2.2.1.i | exact X.2.2.2.2.2.2.1.p | exact X.2.2.2.2.2.2.1.d | exact X.2.2.2.2.2.2.2.1.o | exact X.2.2.2.2.2.2.2.2.1 | exact X.2.2.2.2.2.2.2.2.2.1 | exact X.2.2.2.2.2.2.2.2.2.2.2.1 | exact X.2.2.2.2.2.2.2.2.2.2.2.2.2.1 | exact X.2.2.2.2.2.2.2.2.2.2.2.2.2.2.1 | exact X.2.2.2.2.2.2.2.2.2.2.2.2.2.2.2) rfl ?_
    refine j_getf dX5_person_155 4 9 rfl (Nat.le_of_ble_eq_true rfl) fl_X5_196 in_4 (by first | exact X.1 | exact X.2.1 | exact X.2.2.2.1 | exact X.2.2.2.2.1 | exact X.2.2.2.2.2.2.1.o | exact X.2.2.2.2.2.2.1.c | exact X.2.2.2.2.2.2.1.i | exact X.2.2.2.2.2.2.1.p | exact X.2.2.2.2.2.2.1.d | exact X.2.2.2.2.2.2.2.1.o | exact X.2.2.2.2.2.2.2.2.1 | exact X.2.2.2.2.2.2.2.2.2.1 | exact X.2.2.2.2.2.2.2.2.2.2.2.1 | exact X.2.2.2.2.2.2.2.2.2.2.2.2.2.1 | exact X.2.2.2.2.2.2.2.2.2.2.2.2.2.2.1 | exact X.2.2.2.2.2.2.2.2.2.2.2.2.2.2.2) rfl ?_
    refine j_iload_n dX5_person_158 rfl rfl ?_
    refine j_callS (c_bitOf G z _ (sF d) (nI p)) dX5_person_159 rfl ms_X5_167 ⟨(Nat.le_of_ble_eq_true rfl), (Nat.le_of_ble_eq_true rfl)⟩ ⟨(Nat.le_of_ble_eq_true rfl), (Nat.le_of_ble_eq_true rfl)⟩ (Nat.le_of_ble_eq_true rfl) ?_
    exact j_iret rfl dX5_person_162 rfl rfl (Nat.le_of_ble_eq_true rfl) (Nat.le_of_ble_eq_true rfl)
  · exfalso; omega
theorem x_person_7 (X : XR σ lf fd rl rn ri tp rd dd d df nx kp da di tr bo ne) {p : Nat} (hN : sN d ≤ 7) (hp : p < sN d) : Ct G yX5_person cX5_person 3 (some .int) 5 0 0 z σ [.ref 0, .int (nI p), .int (nI 7)] (some (.int (tsum (sD d) (sN d) p - dsum (sD d) (sN d) p))) z σ := by
  refine Ct.ofJ RX5 rfl [some (.ref 0), some (.int (nI p)), some (.int (nI 7))] rfl (by decide) Nat.le.refl ?_
  refine j_aload_n dX5_person_0 rfl rfl ?_
  refine j_iload_n dX5_person_1 rfl rfl ?_
  refine j_callV (c_isNoPerson X (nI p)) dX5_person_2 rfl mv_X5_155 (by first | exact X.1 | exact X.2.1 | exact X.2.2.2.1 | exact X.2.2.2.2.1 | exact X.2.2.2.2.2.2.1.o | exact X.2.2.2.2.2.2.1.c | exact X.2.2.2.2.2.2.1.i | exact X.2.2.2.2.2.2.1.p | exact X.2.2.2.2.2.2.1.d | exact X.2.2.2.2.2.2.2.1.o | exact X.2.2.2.2.2.2.2.2.1 | exact X.2.2.2.2.2.2.2.2.2.1 | exact X.2.2.2.2.2.2.2.2.2.2.2.1 | exact X.2.2.2.2.2.2.2.2.2.2.2.2.2.1 | exact X.2.2.2.2.2.2.2.2.2.2.2.2.2.2.1 | exact X.2.2.2.2.2.2.2.2.2.2.2.2.2.2.2) rfl ⟨(Nat.le_of_ble_eq_true rfl), (Nat.le_of_ble_eq_true rfl)⟩ ⟨(Nat.le_of_ble_eq_true rfl), (Nat.le_of_ble_eq_true rfl)⟩ (Nat.le_of_ble_eq_true rfl) ?_
  refine j_top (nI 0) (npI_k hp hN) ?_
  refine j_if_eq 11 dX5_person_5 (by decide) (fun _ => ?_) (fun h => absurd rfl h)
  refine j_iload_n dX5_person_11 rfl rfl ?_
  refine j_bipush (nI 10) dX5_person_12 rfl ?_
  refine j_icmp_ltN 44 dX5_person_14 (by decide) (by omega) (by omega) (fun b14 => ?_) (fun b14 => ?_)
  · refine j_iload_n dX5_person_44 rfl rfl ?_
    refine j_tabK 7 163 dX5_person_45 rfl (by decide) (by decide) (by decide) rfl (by decide) ?_
    refine j_aload_n dX5_person_163 rfl rfl ?_
    refine j_getf dX5_person_164 5 4 rfl (Nat.le_of_ble_eq_true rfl) fl_X5_26 in_5 (by first | exact X.1 | exact X.2.1 | exact X.2.2.2.1 | exact X.2.2.2.2.1 | exact X.2.2.2.2.2.2.1.o | exact X.2.2.2.2.2.2.1.c | exact X.2.2.2.2.2.2.1.i | exact X.2.2.2.2.2.2.1.p | exact X.2.2.2.2.2.2.1.d | exact X.2.2.2.2.2.2.2.1.o | exact X.2.2.2.2.2.2.2.2.1 | exact X.2.2.2.2.2.2.2.2.2.1 | exact X.2.2.2.2.2.2.2.2.2.2.2.1 | exact X.2.2.2.2.2.2.2.2.2.2.2.2.2.1 | exact X.2.2.2.2.2.2.2.2.2.2.2.2.2.2.1 | exact X.2.2.2.2.2.2.2.2.2.2.2.2.2.2.2) rfl ?_
    refine j_iload_n dX5_person_167 rfl rfl ?_
    refine j_callV (c_owedToS X.2.2.2.2.2.2.1 hN (by omega)) dX5_person_168 rfl mv_X5_199 (by first | exact X.1 | exact X.2.1 | exact X.2.2.2.1 | exact X.2.2.2.2.1 | exact X.2.2.2.2.2.2.1.o | exact X.2.2.2.2.2.2.1.c | exact X.2.2.2.2.2.2.1.i | exact X.2.2.2.2.2.2.1.p | exact X.2.2.2.2.2.2.1.d | exact X.2.2.2.2.2.2.2.1.o | exact X.2.2.2.2.2.2.2.2.1 | exact X.2.2.2.2.2.2.2.2.2.1 | exact X.2.2.2.2.2.2.2.2.2.2.2.1 | exact X.2.2.2.2.2.2.2.2.2.2.2.2.2.1 | exact X.2.2.2.2.2.2.2.2.2.2.2.2.2.2.1 | exact X.2.2.2.2.2.2.2.2.2.2.2.2.2.2.2) rfl ⟨(Nat.le_of_ble_eq_true rfl), (Nat.le_of_ble_eq_true rfl)⟩ ⟨(Nat.le_of_ble_eq_true rfl), (Nat.le_of_ble_eq_true rfl)⟩ (Nat.le_of_ble_eq_true rfl) ?_
    refine j_aload_n dX5_person_171 rfl rfl ?_
    refine j_getf dX5_person_172 5 4 rfl (Nat.le_of_ble_eq_true rfl) fl_X5_26 in_5 (by first | exact X.1 | exact X.2.1 | exact X.2.2.2.1 | exact X.2.2.2.2.1 | exact X.2.2.2.2.2.2.1.o | exact X.2.2.2.2.2.2.1.c | exact X.2.2.2.2.2.2.1.i | exact X.2.2.2.2.2.2.1.p | exact X.2.2.2.2.2.2.1.d | exact X.2.2.2.2.2.2.2.1.o | exact X.2.2.2.2.2.2.2.2.1 | exact X.2.2.2.2.2.2.2.2.2.1 | exact X.2.2.2.2.2.2.2.2.2.2.2.1 | exact X.2.2.2.2.2.2.2.2.2.2.2.2.2.1 | exact X.2.2.2.2.2.2.2.2.2.2.2.2.2.2.1 | exact X.2.2.2.2.2.2.2.2.2.2.2.2.2.2.2) rfl ?_
    refine j_iload_n dX5_person_175 rfl rfl ?_
    refine j_callV (c_owedByS X.2.2.2.2.2.2.1 hN (by omega)) dX5_person_176 rfl mv_X5_190 (by first | exact X.1 | exact X.2.1 | exact X.2.2.2.1 | exact X.2.2.2.2.1 | exact X.2.2.2.2.2.2.1.o | exact X.2.2.2.2.2.2.1.c | exact X.2.2.2.2.2.2.1.i | exact X.2.2.2.2.2.2.1.p | exact X.2.2.2.2.2.2.1.d | exact X.2.2.2.2.2.2.2.1.o | exact X.2.2.2.2.2.2.2.2.1 | exact X.2.2.2.2.2.2.2.2.2.1 | exact X.2.2.2.2.2.2.2.2.2.2.2.1 | exact X.2.2.2.2.2.2.2.2.2.2.2.2.2.1 | exact X.2.2.2.2.2.2.2.2.2.2.2.2.2.2.1 | exact X.2.2.2.2.2.2.2.2.2.2.2.2.2.2.2) rfl ⟨(Nat.le_of_ble_eq_true rfl), (Nat.le_of_ble_eq_true rfl)⟩ ⟨(Nat.le_of_ble_eq_true rfl), (Nat.le_of_ble_eq_true rfl)⟩ (Nat.le_of_ble_eq_true rfl) ?_
    refine j_isub dX5_person_179 ?_
    exact j_iret rfl dX5_person_180 rfl rfl (Nat.le_of_ble_eq_true rfl) (Nat.le_of_ble_eq_true rfl)
  · exfalso; omega
end O3
end
section
section O4
variable {G : GG} {z : Nat} {σ : AH} {lf fd : Int32} {rl rn : Nat → Int32} {ri : Nat → Nat → Int32} {tp rd : Nat → Int32} {dd d df : TS} {nx kp : Nat} {da di : Nat → TS} {tr : Nat} {bo ne : Nat → Int32}
theorem x_image_bad (X : XR σ lf fd rl rn ri tp rd dd d df nx kp da di tr bo ne) (k : Int32) (h : k < 0 ∨ ¬ k < nI 2) : Ct G yX5_image cX5_image 2 (some .int) 2 0 0 z σ [.ref 0, .int k] (some (.int (-1000001))) z σ := by
  refine Ct.ofJ RX5 rfl [some (.ref 0), some (.int k)] rfl (by decide) Nat.le.refl ?_
  refine j_iload_n dX5_image_0 rfl rfl ?_
  refine j_if_lt 9 dX5_image_1 (by decide) (fun b1 => ?_) (fun b1 => ?_)
  · refine j_ldc (-1000001) dX5_image_9 kc_X5_59 ?_
    exact j_iret rfl dX5_image_11 rfl rfl (Nat.le_of_ble_eq_true rfl) (Nat.le_of_ble_eq_true rfl)
  · refine j_iload_n dX5_image_4 rfl rfl ?_
    refine j_iconst (nI 2) dX5_image_5 rfl ?_
    refine j_icmp_lt 12 dX5_image_6 (by decide) (fun b6 => ?_) (fun b6 => ?_)
    · exact absurd h (fun q => q.elim b1 (fun w => w b6))
    · refine j_ldc (-1000001) dX5_image_9 kc_X5_59 ?_
      exact j_iret rfl dX5_image_11 rfl rfl (Nat.le_of_ble_eq_true rfl) (Nat.le_of_ble_eq_true rfl)
theorem x_image_state (X : XR σ lf fd rl rn ri tp rd dd d df nx kp da di tr bo ne) {k : Nat} (hk : k < 2) (h : sN d = 0) : Ct G yX5_image cX5_image 2 (some .int) 2 0 0 z σ [.ref 0, .int (nI k)] (some (.int (-1000002))) z σ := by
  refine Ct.ofJ RX5 rfl [some (.ref 0), some (.int (nI k))] rfl (by decide) Nat.le.refl ?_
  refine j_iload_n dX5_image_0 rfl rfl ?_
  refine j_if_lt 9 dX5_image_1 (by decide) (fun b1 => by exact absurd b1 (nI_pos (by omega))) (fun b1 => ?_)
  refine j_iload_n dX5_image_4 rfl rfl ?_
  refine j_iconst (nI 2) dX5_image_5 rfl ?_
  refine j_icmp_ltN 12 dX5_image_6 (by decide) (by omega) (by omega) (fun b6 => ?_) (fun b6 => by exfalso; omega)
  refine j_aload_n dX5_image_12 rfl rfl ?_
  refine j_callV (c_isNoTown X) dX5_image_13 rfl mv_X5_170 (by first | exact X.1 | exact X.2.1 | exact X.2.2.2.1 | exact X.2.2.2.2.1 | exact X.2.2.2.2.2.2.1.o | exact X.2.2.2.2.2.2.1.c | exact X.2.2.2.2.2.2.1.i | exact X.2.2.2.2.2.2.1.p | exact X.2.2.2.2.2.2.1.d | exact X.2.2.2.2.2.2.2.1.o | exact X.2.2.2.2.2.2.2.2.1 | exact X.2.2.2.2.2.2.2.2.2.1 | exact X.2.2.2.2.2.2.2.2.2.2.2.1 | exact X.2.2.2.2.2.2.2.2.2.2.2.2.2.1 | exact X.2.2.2.2.2.2.2.2.2.2.2.2.2.2.1 | exact X.2.2.2.2.2.2.2.2.2.2.2.2.2.2.2) rfl ⟨(Nat.le_of_ble_eq_true rfl), (Nat.le_of_ble_eq_true rfl)⟩ ⟨(Nat.le_of_ble_eq_true rfl), (Nat.le_of_ble_eq_true rfl)⟩ (Nat.le_of_ble_eq_true rfl) ?_
  refine j_top (nI 1) (by rw [h]; rfl) ?_
  refine j_if_eq 22 dX5_image_16 (by decide) (fun h => absurd h (by decide)) (fun _ => ?_)
  refine j_ldc (-1000002) dX5_image_19 kc_X5_140 ?_
  exact j_iret rfl dX5_image_21 rfl rfl (Nat.le_of_ble_eq_true rfl) (Nat.le_of_ble_eq_true rfl)
theorem x_image_ok (X : XR σ lf fd rl rn ri tp rd dd d df nx kp da di tr bo ne) {k : Nat} (hk : k < 2) (hN : sN d ≤ 7) (h0 : 1 ≤ sN d) : Ct G yX5_image cX5_image 2 (some .int) 2 0 0 z σ [.ref 0, .int (nI k)] (some (.int (nI 1))) z (twS σ (158 + 5 * k) d) := by
  refine Ct.ofJ RX5 rfl [some (.ref 0), some (.int (nI k))] rfl (by decide) Nat.le.refl ?_
  refine j_iload_n dX5_image_0 rfl rfl ?_
  refine j_if_lt 9 dX5_image_1 (by decide) (fun b1 => by exact absurd b1 (nI_pos (by omega))) (fun b1 => ?_)
  refine j_iload_n dX5_image_4 rfl rfl ?_
  refine j_iconst (nI 2) dX5_image_5 rfl ?_
  refine j_icmp_ltN 12 dX5_image_6 (by decide) (by omega) (by omega) (fun b6 => ?_) (fun b6 => by exfalso; omega)
  refine j_aload_n dX5_image_12 rfl rfl ?_
  refine j_callV (c_isNoTown X) dX5_image_13 rfl mv_X5_170 (by first | exact X.1 | exact X.2.1 | exact X.2.2.2.1 | exact X.2.2.2.2.1 | exact X.2.2.2.2.2.2.1.o | exact X.2.2.2.2.2.2.1.c | exact X.2.2.2.2.2.2.1.i | exact X.2.2.2.2.2.2.1.p | exact X.2.2.2.2.2.2.1.d | exact X.2.2.2.2.2.2.2.1.o | exact X.2.2.2.2.2.2.2.2.1 | exact X.2.2.2.2.2.2.2.2.2.1 | exact X.2.2.2.2.2.2.2.2.2.2.2.1 | exact X.2.2.2.2.2.2.2.2.2.2.2.2.2.1 | exact X.2.2.2.2.2.2.2.2.2.2.2.2.2.2.1 | exact X.2.2.2.2.2.2.2.2.2.2.2.2.2.2.2) rfl ⟨(Nat.le_of_ble_eq_true rfl), (Nat.le_of_ble_eq_true rfl)⟩ ⟨(Nat.le_of_ble_eq_true rfl), (Nat.le_of_ble_eq_true rfl)⟩ (Nat.le_of_ble_eq_true rfl) ?_
  refine j_top (nI 0) (ntI_k h0 hN) ?_
  refine j_if_eq 22 dX5_image_16 (by decide) (fun _ => ?_) (fun h => absurd rfl h)
  refine j_aload_n dX5_image_22 rfl rfl ?_
  refine j_getf dX5_image_23 5 7 rfl (Nat.le_of_ble_eq_true rfl) fl_X5_40 in_5 (by first | exact X.1 | exact X.2.1 | exact X.2.2.2.1 | exact X.2.2.2.2.1 | exact X.2.2.2.2.2.2.1.o | exact X.2.2.2.2.2.2.1.c | exact X.2.2.2.2.2.2.1.i | exact X.2.2.2.2.2.2.1.p | exact X.2.2.2.2.2.2.1.d | exact X.2.2.2.2.2.2.2.1.o | exact X.2.2.2.2.2.2.2.2.1 | exact X.2.2.2.2.2.2.2.2.2.1 | exact X.2.2.2.2.2.2.2.2.2.2.2.1 | exact X.2.2.2.2.2.2.2.2.2.2.2.2.2.1 | exact X.2.2.2.2.2.2.2.2.2.2.2.2.2.2.1 | exact X.2.2.2.2.2.2.2.2.2.2.2.2.2.2.2) rfl ?_
  refine j_iload_n dX5_image_26 rfl rfl ?_
  refine j_aaldL 4 2 158 5 dX5_image_27 (by first | exact X.1 | exact X.2.1 | exact X.2.2.2.1 | exact X.2.2.2.2.1 | exact X.2.2.2.2.2.2.1.o | exact X.2.2.2.2.2.2.1.c | exact X.2.2.2.2.2.2.1.i | exact X.2.2.2.2.2.2.1.p | exact X.2.2.2.2.2.2.1.d | exact X.2.2.2.2.2.2.2.1.o | exact X.2.2.2.2.2.2.2.2.1 | exact X.2.2.2.2.2.2.2.2.2.1 | exact X.2.2.2.2.2.2.2.2.2.2.2.1 | exact X.2.2.2.2.2.2.2.2.2.2.2.2.2.1 | exact X.2.2.2.2.2.2.2.2.2.2.2.2.2.2.1 | exact X.2.2.2.2.2.2.2.2.2.2.2.2.2.2.2) (by decide) rfl hk (by decide) ?_
  refine j_aload_n dX5_image_28 rfl rfl ?_
  refine j_getf dX5_image_29 5 4 rfl (Nat.le_of_ble_eq_true rfl) fl_X5_26 in_5 (by first | exact X.1 | exact X.2.1 | exact X.2.2.2.1 | exact X.2.2.2.2.1 | exact X.2.2.2.2.2.2.1.o | exact X.2.2.2.2.2.2.1.c | exact X.2.2.2.2.2.2.1.i | exact X.2.2.2.2.2.2.1.p | exact X.2.2.2.2.2.2.1.d | exact X.2.2.2.2.2.2.2.1.o | exact X.2.2.2.2.2.2.2.2.1 | exact X.2.2.2.2.2.2.2.2.2.1 | exact X.2.2.2.2.2.2.2.2.2.2.2.1 | exact X.2.2.2.2.2.2.2.2.2.2.2.2.2.1 | exact X.2.2.2.2.2.2.2.2.2.2.2.2.2.2.1 | exact X.2.2.2.2.2.2.2.2.2.2.2.2.2.2.2) rfl ?_
  refine j_callV (c_becomesS (X.2.2.2.2.2.2.2.2.2.2.2.2.1 k hk) X.2.2.2.2.2.2.1 (Or.inl (by omega))) dX5_image_32 rfl mv_X5_124 (X.2.2.2.2.2.2.2.2.2.2.2.2.1 k hk).o rfl ⟨(Nat.le_of_ble_eq_true rfl), (Nat.le_of_ble_eq_true rfl)⟩ ⟨(Nat.le_of_ble_eq_true rfl), (Nat.le_of_ble_eq_true rfl)⟩ (Nat.le_of_ble_eq_true rfl) ?_
  refine j_iconst (nI 1) dX5_image_35 rfl ?_
  exact j_iret rfl dX5_image_36 rfl rfl (Nat.le_of_ble_eq_true rfl) (Nat.le_of_ble_eq_true rfl)
theorem x_restore_bad (X : XR σ lf fd rl rn ri tp rd dd d df nx kp da di tr bo ne) (k : Int32) (h : k < 0 ∨ ¬ k < nI 2) : Ct G yX5_restore cX5_restore 2 (some .int) 2 0 0 z σ [.ref 0, .int k] (some (.int (-1000001))) z σ := by
  refine Ct.ofJ RX5 rfl [some (.ref 0), some (.int k)] rfl (by decide) Nat.le.refl ?_
  refine j_iload_n dX5_restore_0 rfl rfl ?_
  refine j_if_lt 9 dX5_restore_1 (by decide) (fun b1 => ?_) (fun b1 => ?_)
  · refine j_ldc (-1000001) dX5_restore_9 kc_X5_59 ?_
    exact j_iret rfl dX5_restore_11 rfl rfl (Nat.le_of_ble_eq_true rfl) (Nat.le_of_ble_eq_true rfl)
  · refine j_iload_n dX5_restore_4 rfl rfl ?_
    refine j_iconst (nI 2) dX5_restore_5 rfl ?_
    refine j_icmp_lt 12 dX5_restore_6 (by decide) (fun b6 => ?_) (fun b6 => ?_)
    · exact absurd h (fun q => q.elim b1 (fun w => w b6))
    · refine j_ldc (-1000001) dX5_restore_9 kc_X5_59 ?_
      exact j_iret rfl dX5_restore_11 rfl rfl (Nat.le_of_ble_eq_true rfl) (Nat.le_of_ble_eq_true rfl)
theorem x_restore_state (X : XR σ lf fd rl rn ri tp rd dd d df nx kp da di tr bo ne) {k : Nat} (hk : k < 2) (h : sN (di k) = 0) : Ct G yX5_restore cX5_restore 2 (some .int) 2 0 0 z σ [.ref 0, .int (nI k)] (some (.int (-1000002))) z σ := by
  refine Ct.ofJ RX5 rfl [some (.ref 0), some (.int (nI k))] rfl (by decide) Nat.le.refl ?_
  refine j_iload_n dX5_restore_0 rfl rfl ?_
  refine j_if_lt 9 dX5_restore_1 (by decide) (fun b1 => by exact absurd b1 (nI_pos (by omega))) (fun b1 => ?_)
  refine j_iload_n dX5_restore_4 rfl rfl ?_
  refine j_iconst (nI 2) dX5_restore_5 rfl ?_
  refine j_icmp_ltN 12 dX5_restore_6 (by decide) (by omega) (by omega) (fun b6 => ?_) (fun b6 => by exfalso; omega)
  refine j_aload_n dX5_restore_12 rfl rfl ?_
  refine j_getf dX5_restore_13 5 7 rfl (Nat.le_of_ble_eq_true rfl) fl_X5_40 in_5 (by first | exact X.1 | exact X.2.1 | exact X.2.2.2.1 | exact X.2.2.2.2.1 | exact X.2.2.2.2.2.2.1.o | exact X.2.2.2.2.2.2.1.c | exact X.2.2.2.2.2.2.1.i | exact X.2.2.2.2.2.2.1.p | exact X.2.2.2.2.2.2.1.d | exact X.2.2.2.2.2.2.2.1.o | exact X.2.2.2.2.2.2.2.2.1 | exact X.2.2.2.2.2.2.2.2.2.1 | exact X.2.2.2.2.2.2.2.2.2.2.2.1 | exact X.2.2.2.2.2.2.2.2.2.2.2.2.2.1 | exact X.2.2.2.2.2.2.2.2.2.2.2.2.2.2.1 | exact X.2.2.2.2.2.2.2.2.2.2.2.2.2.2.2) rfl ?_
  refine j_iload_n dX5_restore_16 rfl rfl ?_
  refine j_aaldL 4 2 158 5 dX5_restore_17 (by first | exact X.1 | exact X.2.1 | exact X.2.2.2.1 | exact X.2.2.2.2.1 | exact X.2.2.2.2.2.2.1.o | exact X.2.2.2.2.2.2.1.c | exact X.2.2.2.2.2.2.1.i | exact X.2.2.2.2.2.2.1.p | exact X.2.2.2.2.2.2.1.d | exact X.2.2.2.2.2.2.2.1.o | exact X.2.2.2.2.2.2.2.2.1 | exact X.2.2.2.2.2.2.2.2.2.1 | exact X.2.2.2.2.2.2.2.2.2.2.2.1 | exact X.2.2.2.2.2.2.2.2.2.2.2.2.2.1 | exact X.2.2.2.2.2.2.2.2.2.2.2.2.2.2.1 | exact X.2.2.2.2.2.2.2.2.2.2.2.2.2.2.2) (by decide) rfl hk (by decide) ?_
  refine j_getf dX5_restore_18 4 4 rfl (Nat.le_of_ble_eq_true rfl) fl_X5_131 in_4 (X.2.2.2.2.2.2.2.2.2.2.2.2.1 k hk).o rfl ?_
  refine j_top (nI 0) (by rw [h]) ?_
  refine j_if_ne 27 dX5_restore_21 (by decide) (fun h => absurd rfl h) (fun _ => ?_)
  refine j_ldc (-1000002) dX5_restore_24 kc_X5_140 ?_
  exact j_iret rfl dX5_restore_26 rfl rfl (Nat.le_of_ble_eq_true rfl) (Nat.le_of_ble_eq_true rfl)
theorem x_restore_ok (X : XR σ lf fd rl rn ri tp rd dd d df nx kp da di tr bo ne) {k : Nat} (hk : k < 2) (hN : sN (di k) ≤ 7) (h0 : 1 ≤ sN (di k)) : Ct G yX5_restore cX5_restore 2 (some .int) 2 0 0 z σ [.ref 0, .int (nI k)] (some (.int (nI 1))) z (ups (twS σ 25 (di k)) 35 (xA 0 0)) := by
  refine Ct.ofJ RX5 rfl [some (.ref 0), some (.int (nI k))] rfl (by decide) Nat.le.refl ?_
  refine j_iload_n dX5_restore_0 rfl rfl ?_
  refine j_if_lt 9 dX5_restore_1 (by decide) (fun b1 => by exact absurd b1 (nI_pos (by omega))) (fun b1 => ?_)
  refine j_iload_n dX5_restore_4 rfl rfl ?_
  refine j_iconst (nI 2) dX5_restore_5 rfl ?_
  refine j_icmp_ltN 12 dX5_restore_6 (by decide) (by omega) (by omega) (fun b6 => ?_) (fun b6 => by exfalso; omega)
  refine j_aload_n dX5_restore_12 rfl rfl ?_
  refine j_getf dX5_restore_13 5 7 rfl (Nat.le_of_ble_eq_true rfl) fl_X5_40 in_5 (by first | exact X.1 | exact X.2.1 | exact X.2.2.2.1 | exact X.2.2.2.2.1 | exact X.2.2.2.2.2.2.1.o | exact X.2.2.2.2.2.2.1.c | exact X.2.2.2.2.2.2.1.i | exact X.2.2.2.2.2.2.1.p | exact X.2.2.2.2.2.2.1.d | exact X.2.2.2.2.2.2.2.1.o | exact X.2.2.2.2.2.2.2.2.1 | exact X.2.2.2.2.2.2.2.2.2.1 | exact X.2.2.2.2.2.2.2.2.2.2.2.1 | exact X.2.2.2.2.2.2.2.2.2.2.2.2.2.1 | exact X.2.2.2.2.2.2.2.2.2.2.2.2.2.2.1 | exact X.2.2.2.2.2.2.2.2.2.2.2.2.2.2.2) rfl ?_
  refine j_iload_n dX5_restore_16 rfl rfl ?_
  refine j_aaldL 4 2 158 5 dX5_restore_17 (by first | exact X.1 | exact X.2.1 | exact X.2.2.2.1 | exact X.2.2.2.2.1 | exact X.2.2.2.2.2.2.1.o | exact X.2.2.2.2.2.2.1.c | exact X.2.2.2.2.2.2.1.i | exact X.2.2.2.2.2.2.1.p | exact X.2.2.2.2.2.2.1.d | exact X.2.2.2.2.2.2.2.1.o | exact X.2.2.2.2.2.2.2.2.1 | exact X.2.2.2.2.2.2.2.2.2.1 | exact X.2.2.2.2.2.2.2.2.2.2.2.1 | exact X.2.2.2.2.2.2.2.2.2.2.2.2.2.1 | exact X.2.2.2.2.2.2.2.2.2.2.2.2.2.2.1 | exact X.2.2.2.2.2.2.2.2.2.2.2.2.2.2.2) (by decide) rfl hk (by decide) ?_
  refine j_getf dX5_restore_18 4 4 rfl (Nat.le_of_ble_eq_true rfl) fl_X5_131 in_4 (X.2.2.2.2.2.2.2.2.2.2.2.2.1 k hk).o rfl ?_
  refine j_if_ne 27 dX5_restore_21 (by decide) (fun b21 => ?_) (fun b21 => by exact absurd b21 (nI_ne0 h0 (by omega)))
  refine j_aload_n dX5_restore_27 rfl rfl ?_
  refine j_getf dX5_restore_28 5 4 rfl (Nat.le_of_ble_eq_true rfl) fl_X5_26 in_5 (by first | exact X.1 | exact X.2.1 | exact X.2.2.2.1 | exact X.2.2.2.2.1 | exact X.2.2.2.2.2.2.1.o | exact X.2.2.2.2.2.2.1.c | exact X.2.2.2.2.2.2.1.i | exact X.2.2.2.2.2.2.1.p | exact X.2.2.2.2.2.2.1.d | exact X.2.2.2.2.2.2.2.1.o | exact X.2.2.2.2.2.2.2.2.1 | exact X.2.2.2.2.2.2.2.2.2.1 | exact X.2.2.2.2.2.2.2.2.2.2.2.1 | exact X.2.2.2.2.2.2.2.2.2.2.2.2.2.1 | exact X.2.2.2.2.2.2.2.2.2.2.2.2.2.2.1 | exact X.2.2.2.2.2.2.2.2.2.2.2.2.2.2.2) rfl ?_
  refine j_aload_n dX5_restore_31 rfl rfl ?_
  refine j_getf dX5_restore_32 5 7 rfl (Nat.le_of_ble_eq_true rfl) fl_X5_40 in_5 (by first | exact X.1 | exact X.2.1 | exact X.2.2.2.1 | exact X.2.2.2.2.1 | exact X.2.2.2.2.2.2.1.o | exact X.2.2.2.2.2.2.1.c | exact X.2.2.2.2.2.2.1.i | exact X.2.2.2.2.2.2.1.p | exact X.2.2.2.2.2.2.1.d | exact X.2.2.2.2.2.2.2.1.o | exact X.2.2.2.2.2.2.2.2.1 | exact X.2.2.2.2.2.2.2.2.2.1 | exact X.2.2.2.2.2.2.2.2.2.2.2.1 | exact X.2.2.2.2.2.2.2.2.2.2.2.2.2.1 | exact X.2.2.2.2.2.2.2.2.2.2.2.2.2.2.1 | exact X.2.2.2.2.2.2.2.2.2.2.2.2.2.2.2) rfl ?_
  refine j_iload_n dX5_restore_35 rfl rfl ?_
  refine j_aaldL 4 2 158 5 dX5_restore_36 (by first | exact X.1 | exact X.2.1 | exact X.2.2.2.1 | exact X.2.2.2.2.1 | exact X.2.2.2.2.2.2.1.o | exact X.2.2.2.2.2.2.1.c | exact X.2.2.2.2.2.2.1.i | exact X.2.2.2.2.2.2.1.p | exact X.2.2.2.2.2.2.1.d | exact X.2.2.2.2.2.2.2.1.o | exact X.2.2.2.2.2.2.2.2.1 | exact X.2.2.2.2.2.2.2.2.2.1 | exact X.2.2.2.2.2.2.2.2.2.2.2.1 | exact X.2.2.2.2.2.2.2.2.2.2.2.2.2.1 | exact X.2.2.2.2.2.2.2.2.2.2.2.2.2.2.1 | exact X.2.2.2.2.2.2.2.2.2.2.2.2.2.2.2) (by decide) rfl hk (by decide) ?_
  refine j_callV (c_becomesS X.2.2.2.2.2.2.1 (X.2.2.2.2.2.2.2.2.2.2.2.2.1 k hk) (Or.inr (by omega))) dX5_restore_37 rfl mv_X5_124 (by first | exact X.1 | exact X.2.1 | exact X.2.2.2.1 | exact X.2.2.2.2.1 | exact X.2.2.2.2.2.2.1.o | exact X.2.2.2.2.2.2.1.c | exact X.2.2.2.2.2.2.1.i | exact X.2.2.2.2.2.2.1.p | exact X.2.2.2.2.2.2.1.d | exact X.2.2.2.2.2.2.2.1.o | exact X.2.2.2.2.2.2.2.2.1 | exact X.2.2.2.2.2.2.2.2.2.1 | exact X.2.2.2.2.2.2.2.2.2.2.2.1 | exact X.2.2.2.2.2.2.2.2.2.2.2.2.2.1 | exact X.2.2.2.2.2.2.2.2.2.2.2.2.2.2.1 | exact X.2.2.2.2.2.2.2.2.2.2.2.2.2.2.2) rfl ⟨(Nat.le_of_ble_eq_true rfl), (Nat.le_of_ble_eq_true rfl)⟩ ⟨(Nat.le_of_ble_eq_true rfl), (Nat.le_of_ble_eq_true rfl)⟩ (Nat.le_of_ble_eq_true rfl) ?_
  have X := X.town (di k)
  refine j_aload_n dX5_restore_40 rfl rfl ?_
  refine j_getf dX5_restore_41 5 6 rfl (Nat.le_of_ble_eq_true rfl) fl_X5_36 in_5 (by first | exact X.1 | exact X.2.1 | exact X.2.2.2.1 | exact X.2.2.2.2.1 | exact X.2.2.2.2.2.2.1.o | exact X.2.2.2.2.2.2.1.c | exact X.2.2.2.2.2.2.1.i | exact X.2.2.2.2.2.2.1.p | exact X.2.2.2.2.2.2.1.d | exact X.2.2.2.2.2.2.2.1.o | exact X.2.2.2.2.2.2.2.2.1 | exact X.2.2.2.2.2.2.2.2.2.1 | exact X.2.2.2.2.2.2.2.2.2.2.2.1 | exact X.2.2.2.2.2.2.2.2.2.2.2.2.2.1 | exact X.2.2.2.2.2.2.2.2.2.2.2.2.2.2.1 | exact X.2.2.2.2.2.2.2.2.2.2.2.2.2.2.2) rfl ?_
  refine j_callV (c_forgetAll G z _ X.2.2.2.2.2.2.2.2.1) dX5_restore_44 rfl mv_X5_128 (by first | exact X.1 | exact X.2.1 | exact X.2.2.2.1 | exact X.2.2.2.2.1 | exact X.2.2.2.2.2.2.1.o | exact X.2.2.2.2.2.2.1.c | exact X.2.2.2.2.2.2.1.i | exact X.2.2.2.2.2.2.1.p | exact X.2.2.2.2.2.2.1.d | exact X.2.2.2.2.2.2.2.1.o | exact X.2.2.2.2.2.2.2.2.1 | exact X.2.2.2.2.2.2.2.2.2.1 | exact X.2.2.2.2.2.2.2.2.2.2.2.1 | exact X.2.2.2.2.2.2.2.2.2.2.2.2.2.1 | exact X.2.2.2.2.2.2.2.2.2.2.2.2.2.2.1 | exact X.2.2.2.2.2.2.2.2.2.2.2.2.2.2.2) rfl ⟨(Nat.le_of_ble_eq_true rfl), (Nat.le_of_ble_eq_true rfl)⟩ ⟨(Nat.le_of_ble_eq_true rfl), (Nat.le_of_ble_eq_true rfl)⟩ (Nat.le_of_ble_eq_true rfl) ?_
  refine j_iconst (nI 1) dX5_restore_47 rfl ?_
  exact j_iret rfl dX5_restore_48 rfl rfl (Nat.le_of_ble_eq_true rfl) (Nat.le_of_ble_eq_true rfl)
theorem x_kind_bad (X : XR σ lf fd rl rn ri tp rd dd d df nx kp da di tr bo ne) (p : Int32) (h : ¬ npI p (sN d) = 0) : Ct G yX5_kind cX5_kind 2 (some .int) 5 0 0 z σ [.ref 0, .int p] (some (.int (-1000001))) z σ := by
  refine Ct.ofJ RX5 rfl [some (.ref 0), some (.int p)] rfl (by decide) Nat.le.refl ?_
  refine j_aload_n dX5_kind_0 rfl rfl ?_
  refine j_iload_n dX5_kind_1 rfl rfl ?_
  refine j_callV (c_isNoPerson X p) dX5_kind_2 rfl mv_X5_155 (by first | exact X.1 | exact X.2.1 | exact X.2.2.2.1 | exact X.2.2.2.2.1 | exact X.2.2.2.2.2.2.1.o | exact X.2.2.2.2.2.2.1.c | exact X.2.2.2.2.2.2.1.i | exact X.2.2.2.2.2.2.1.p | exact X.2.2.2.2.2.2.1.d | exact X.2.2.2.2.2.2.2.1.o | exact X.2.2.2.2.2.2.2.2.1 | exact X.2.2.2.2.2.2.2.2.2.1 | exact X.2.2.2.2.2.2.2.2.2.2.2.1 | exact X.2.2.2.2.2.2.2.2.2.2.2.2.2.1 | exact X.2.2.2.2.2.2.2.2.2.2.2.2.2.2.1 | exact X.2.2.2.2.2.2.2.2.2.2.2.2.2.2.2) rfl ⟨(Nat.le_of_ble_eq_true rfl), (Nat.le_of_ble_eq_true rfl)⟩ ⟨(Nat.le_of_ble_eq_true rfl), (Nat.le_of_ble_eq_true rfl)⟩ (Nat.le_of_ble_eq_true rfl) ?_
  refine j_if_eq 11 dX5_kind_5 (by decide) (fun b5 => by exact absurd b5 h) (fun b5 => ?_)
  refine j_ldc (-1000001) dX5_kind_8 kc_X5_59 ?_
  exact j_iret rfl dX5_kind_10 rfl rfl (Nat.le_of_ble_eq_true rfl) (Nat.le_of_ble_eq_true rfl)
theorem x_kind_ok (X : XR σ lf fd rl rn ri tp rd dd d df nx kp da di tr bo ne) {p : Nat} (hN : sN d ≤ 7) (hp : p < sN d) (hu : 1 ≤ sU d) (hu2 : sU d ≤ 20) : Ct G yX5_kind cX5_kind 2 (some .int) 5 0 0 z σ [.ref 0, .int (nI p)] (some (.int (kindI (sD d) (sF d) (sN d) (sU d) p))) z σ := by
  refine Ct.ofJ RX5 rfl [some (.ref 0), some (.int (nI p))] rfl (by decide) Nat.le.refl ?_
  refine j_aload_n dX5_kind_0 rfl rfl ?_
  refine j_iload_n dX5_kind_1 rfl rfl ?_
  refine j_callV (c_isNoPerson X (nI p)) dX5_kind_2 rfl mv_X5_155 (by first | exact X.1 | exact X.2.1 | exact X.2.2.2.1 | exact X.2.2.2.2.1 | exact X.2.2.2.2.2.2.1.o | exact X.2.2.2.2.2.2.1.c | exact X.2.2.2.2.2.2.1.i | exact X.2.2.2.2.2.2.1.p | exact X.2.2.2.2.2.2.1.d | exact X.2.2.2.2.2.2.2.1.o | exact X.2.2.2.2.2.2.2.2.1 | exact X.2.2.2.2.2.2.2.2.2.1 | exact X.2.2.2.2.2.2.2.2.2.2.2.1 | exact X.2.2.2.2.2.2.2.2.2.2.2.2.2.1 | exact X.2.2.2.2.2.2.2.2.2.2.2.2.2.2.1 | exact X.2.2.2.2.2.2.2.2.2.2.2.2.2.2.2) rfl ⟨(Nat.le_of_ble_eq_true rfl), (Nat.le_of_ble_eq_true rfl)⟩ ⟨(Nat.le_of_ble_eq_true rfl), (Nat.le_of_ble_eq_true rfl)⟩ (Nat.le_of_ble_eq_true rfl) ?_
  refine j_top (nI 0) (npI_k hp hN) ?_
  refine j_if_eq 11 dX5_kind_5 (by decide) (fun _ => ?_) (fun h => absurd rfl h)
  refine j_aload_n dX5_kind_11 rfl rfl ?_
  refine j_getf dX5_kind_12 5 4 rfl (Nat.le_of_ble_eq_true rfl) fl_X5_26 in_5 (by first | exact X.1 | exact X.2.1 | exact X.2.2.2.1 | exact X.2.2.2.2.1 | exact X.2.2.2.2.2.2.1.o | exact X.2.2.2.2.2.2.1.c | exact X.2.2.2.2.2.2.1.i | exact X.2.2.2.2.2.2.1.p | exact X.2.2.2.2.2.2.1.d | exact X.2.2.2.2.2.2.2.1.o | exact X.2.2.2.2.2.2.2.2.1 | exact X.2.2.2.2.2.2.2.2.2.1 | exact X.2.2.2.2.2.2.2.2.2.2.2.1 | exact X.2.2.2.2.2.2.2.2.2.2.2.2.2.1 | exact X.2.2.2.2.2.2.2.2.2.2.2.2.2.2.1 | exact X.2.2.2.2.2.2.2.2.2.2.2.2.2.2.2) rfl ?_
  refine j_iload_n dX5_kind_15 rfl rfl ?_
  refine j_callV (c_kindOfS X.2.2.2.2.2.2.1 hN (by omega) hu hu2) dX5_kind_16 rfl mv_X5_230 (by first | exact X.1 | exact X.2.1 | exact X.2.2.2.1 | exact X.2.2.2.2.1 | exact X.2.2.2.2.2.2.1.o | exact X.2.2.2.2.2.2.1.c | exact X.2.2.2.2.2.2.1.i | exact X.2.2.2.2.2.2.1.p | exact X.2.2.2.2.2.2.1.d | exact X.2.2.2.2.2.2.2.1.o | exact X.2.2.2.2.2.2.2.2.1 | exact X.2.2.2.2.2.2.2.2.2.1 | exact X.2.2.2.2.2.2.2.2.2.2.2.1 | exact X.2.2.2.2.2.2.2.2.2.2.2.2.2.1 | exact X.2.2.2.2.2.2.2.2.2.2.2.2.2.2.1 | exact X.2.2.2.2.2.2.2.2.2.2.2.2.2.2.2) rfl ⟨(Nat.le_of_ble_eq_true rfl), (Nat.le_of_ble_eq_true rfl)⟩ ⟨(Nat.le_of_ble_eq_true rfl), (Nat.le_of_ble_eq_true rfl)⟩ (Nat.le_of_ble_eq_true rfl) ?_
  exact j_iret rfl dX5_kind_19 rfl rfl (Nat.le_of_ble_eq_true rfl) (Nat.le_of_ble_eq_true rfl)
theorem x_as_bad (X : XR σ lf fd rl rn ri tp rd dd d df nx kp da di tr bo ne) (p k : Int32) (h : ¬ npI p (sN d) = 0 ∨ k < 0 ∨ ¬ k < nI 6) : Ct G yX5_as cX5_as 3 (some .int) 5 0 0 z σ [.ref 0, .int p, .int k] (some (.int (-1000001))) z σ := by
  refine Ct.ofJ RX5 rfl [some (.ref 0), some (.int p), some (.int k)] rfl (by decide) Nat.le.refl ?_
  refine j_aload_n dX5_as_0 rfl rfl ?_
  refine j_iload_n dX5_as_1 rfl rfl ?_
  refine j_callV (c_isNoPerson X p) dX5_as_2 rfl mv_X5_155 (by first | exact X.1 | exact X.2.1 | exact X.2.2.2.1 | exact X.2.2.2.2.1 | exact X.2.2.2.2.2.2.1.o | exact X.2.2.2.2.2.2.1.c | exact X.2.2.2.2.2.2.1.i | exact X.2.2.2.2.2.2.1.p | exact X.2.2.2.2.2.2.1.d | exact X.2.2.2.2.2.2.2.1.o | exact X.2.2.2.2.2.2.2.2.1 | exact X.2.2.2.2.2.2.2.2.2.1 | exact X.2.2.2.2.2.2.2.2.2.2.2.1 | exact X.2.2.2.2.2.2.2.2.2.2.2.2.2.1 | exact X.2.2.2.2.2.2.2.2.2.2.2.2.2.2.1 | exact X.2.2.2.2.2.2.2.2.2.2.2.2.2.2.2) rfl ⟨(Nat.le_of_ble_eq_true rfl), (Nat.le_of_ble_eq_true rfl)⟩ ⟨(Nat.le_of_ble_eq_true rfl), (Nat.le_of_ble_eq_true rfl)⟩ (Nat.le_of_ble_eq_true rfl) ?_
  refine j_if_ne 18 dX5_as_5 (by decide) (fun b5 => ?_) (fun b5 => ?_)
  · refine j_ldc (-1000001) dX5_as_18 kc_X5_59 ?_
    exact j_iret rfl dX5_as_20 rfl rfl (Nat.le_of_ble_eq_true rfl) (Nat.le_of_ble_eq_true rfl)
  · refine j_iload_n dX5_as_8 rfl rfl ?_
    refine j_if_lt 18 dX5_as_9 (by decide) (fun b9 => ?_) (fun b9 => ?_)
    · refine j_ldc (-1000001) dX5_as_18 kc_X5_59 ?_
      exact j_iret rfl dX5_as_20 rfl rfl (Nat.le_of_ble_eq_true rfl) (Nat.le_of_ble_eq_true rfl)
    · refine j_iload_n dX5_as_12 rfl rfl ?_
      refine j_bipush (nI 6) dX5_as_13 rfl ?_
      refine j_icmp_lt 21 dX5_as_15 (by decide) (fun b15 => ?_) (fun b15 => ?_)
      · exfalso
        rcases h with h | h | h
        · exact h b5
        · exact b9 h
        · exact h b15
      · refine j_ldc (-1000001) dX5_as_18 kc_X5_59 ?_
        exact j_iret rfl dX5_as_20 rfl rfl (Nat.le_of_ble_eq_true rfl) (Nat.le_of_ble_eq_true rfl)
theorem x_as_kind (X : XR σ lf fd rl rn ri tp rd dd d df nx kp da di tr bo ne) {p : Nat} (hN : sN d ≤ 7) (hp : p < sN d) (hu : 1 ≤ sU d) (hu2 : sU d ≤ 20) {k kd : Nat} (hk : k < 6) (hkd : kindI (sD d) (sF d) (sN d) (sU d) p = nI kd) (hk6 : kd < 6) (h : bitI (tb0.getD kd 0) (nI k) = 0) : Ct G yX5_as cX5_as 3 (some .int) 5 0 0 z σ [.ref 0, .int (nI p), .int (nI k)] (some (.int (-1000010 - nI 3))) z (ups σ 0 (xO lf (nI 3))) := by
  refine Ct.ofJ RX5 rfl [some (.ref 0), some (.int (nI p)), some (.int (nI k))] rfl (by decide) Nat.le.refl ?_
  refine j_aload_n dX5_as_0 rfl rfl ?_
  refine j_iload_n dX5_as_1 rfl rfl ?_
  refine j_callV (c_isNoPerson X (nI p)) dX5_as_2 rfl mv_X5_155 (by first | exact X.1 | exact X.2.1 | exact X.2.2.2.1 | exact X.2.2.2.2.1 | exact X.2.2.2.2.2.2.1.o | exact X.2.2.2.2.2.2.1.c | exact X.2.2.2.2.2.2.1.i | exact X.2.2.2.2.2.2.1.p | exact X.2.2.2.2.2.2.1.d | exact X.2.2.2.2.2.2.2.1.o | exact X.2.2.2.2.2.2.2.2.1 | exact X.2.2.2.2.2.2.2.2.2.1 | exact X.2.2.2.2.2.2.2.2.2.2.2.1 | exact X.2.2.2.2.2.2.2.2.2.2.2.2.2.1 | exact X.2.2.2.2.2.2.2.2.2.2.2.2.2.2.1 | exact X.2.2.2.2.2.2.2.2.2.2.2.2.2.2.2) rfl ⟨(Nat.le_of_ble_eq_true rfl), (Nat.le_of_ble_eq_true rfl)⟩ ⟨(Nat.le_of_ble_eq_true rfl), (Nat.le_of_ble_eq_true rfl)⟩ (Nat.le_of_ble_eq_true rfl) ?_
  refine j_top (nI 0) (npI_k hp hN) ?_
  refine j_if_ne 18 dX5_as_5 (by decide) (fun h => absurd rfl h) (fun _ => ?_)
  refine j_iload_n dX5_as_8 rfl rfl ?_
  refine j_if_lt 18 dX5_as_9 (by decide) (fun b9 => by exact absurd b9 (nI_pos (by omega))) (fun b9 => ?_)
  refine j_iload_n dX5_as_12 rfl rfl ?_
  refine j_bipush (nI 6) dX5_as_13 rfl ?_
  refine j_icmp_ltN 21 dX5_as_15 (by decide) (by omega) (by omega) (fun b15 => ?_) (fun b15 => by exfalso; omega)
  refine j_gets RX5 "KINDS_THAT_ONE_IS" 200 dX5_as_21 fl_X5_233 (fun _ _ h => h.1.1) ?_
  refine j_aload_n dX5_as_24 rfl rfl ?_
  refine j_getf dX5_as_25 5 4 rfl (Nat.le_of_ble_eq_true rfl) fl_X5_26 in_5 (by first | exact X.1 | exact X.2.1 | exact X.2.2.2.1 | exact X.2.2.2.2.1 | exact X.2.2.2.2.2.2.1.o | exact X.2.2.2.2.2.2.1.c | exact X.2.2.2.2.2.2.1.i | exact X.2.2.2.2.2.2.1.p | exact X.2.2.2.2.2.2.1.d | exact X.2.2.2.2.2.2.2.1.o | exact X.2.2.2.2.2.2.2.2.1 | exact X.2.2.2.2.2.2.2.2.2.1 | exact X.2.2.2.2.2.2.2.2.2.2.2.1 | exact X.2.2.2.2.2.2.2.2.2.2.2.2.2.1 | exact X.2.2.2.2.2.2.2.2.2.2.2.2.2.2.1 | exact X.2.2.2.2.2.2.2.2.2.2.2.2.2.2.2) rfl ?_
  refine j_iload_n dX5_as_28 rfl rfl ?_
  refine j_callV (c_kindOfS X.2.2.2.2.2.2.1 hN (by omega) hu hu2) dX5_as_29 rfl mv_X5_230 (by first | exact X.1 | exact X.2.1 | exact X.2.2.2.1 | exact X.2.2.2.2.1 | exact X.2.2.2.2.2.2.1.o | exact X.2.2.2.2.2.2.1.c | exact X.2.2.2.2.2.2.1.i | exact X.2.2.2.2.2.2.1.p | exact X.2.2.2.2.2.2.1.d | exact X.2.2.2.2.2.2.2.1.o | exact X.2.2.2.2.2.2.2.2.1 | exact X.2.2.2.2.2.2.2.2.2.1 | exact X.2.2.2.2.2.2.2.2.2.2.2.1 | exact X.2.2.2.2.2.2.2.2.2.2.2.2.2.1 | exact X.2.2.2.2.2.2.2.2.2.2.2.2.2.2.1 | exact X.2.2.2.2.2.2.2.2.2.2.2.2.2.2.2) rfl ⟨(Nat.le_of_ble_eq_true rfl), (Nat.le_of_ble_eq_true rfl)⟩ ⟨(Nat.le_of_ble_eq_true rfl), (Nat.le_of_ble_eq_true rfl)⟩ (Nat.le_of_ble_eq_true rfl) ?_
  refine j_tld 200 tb0 dX5_as_32 (fun _ _ h => h.1.2) hkd hk6 _ rfl ?_
  refine j_iload_n dX5_as_33 rfl rfl ?_
  refine j_callS (c_bitOf G z _ _ (nI k)) dX5_as_34 rfl ms_X5_167 ⟨(Nat.le_of_ble_eq_true rfl), (Nat.le_of_ble_eq_true rfl)⟩ ⟨(Nat.le_of_ble_eq_true rfl), (Nat.le_of_ble_eq_true rfl)⟩ (Nat.le_of_ble_eq_true rfl) ?_
  refine j_if_ne 46 dX5_as_37 (by decide) (fun b37 => by exact absurd h b37) (fun b37 => ?_)
  refine j_aload_n dX5_as_40 rfl rfl ?_
  refine j_iconst (nI 3) dX5_as_41 rfl ?_
  refine j_callV (c_found X (nI 3)) dX5_as_42 rfl mv_X5_60 (by first | exact X.1 | exact X.2.1 | exact X.2.2.2.1 | exact X.2.2.2.2.1 | exact X.2.2.2.2.2.2.1.o | exact X.2.2.2.2.2.2.1.c | exact X.2.2.2.2.2.2.1.i | exact X.2.2.2.2.2.2.1.p | exact X.2.2.2.2.2.2.1.d | exact X.2.2.2.2.2.2.2.1.o | exact X.2.2.2.2.2.2.2.2.1 | exact X.2.2.2.2.2.2.2.2.2.1 | exact X.2.2.2.2.2.2.2.2.2.2.2.1 | exact X.2.2.2.2.2.2.2.2.2.2.2.2.2.1 | exact X.2.2.2.2.2.2.2.2.2.2.2.2.2.2.1 | exact X.2.2.2.2.2.2.2.2.2.2.2.2.2.2.2) rfl ⟨(Nat.le_of_ble_eq_true rfl), (Nat.le_of_ble_eq_true rfl)⟩ ⟨(Nat.le_of_ble_eq_true rfl), (Nat.le_of_ble_eq_true rfl)⟩ (Nat.le_of_ble_eq_true rfl) ?_
  exact j_iret rfl dX5_as_45 rfl rfl (Nat.le_of_ble_eq_true rfl) (Nat.le_of_ble_eq_true rfl)
theorem x_as_ok (X : XR σ lf fd rl rn ri tp rd dd d df nx kp da di tr bo ne) {p : Nat} (hN : sN d ≤ 7) (hp : p < sN d) (hu : 1 ≤ sU d) (hu2 : sU d ≤ 20) {k kd : Nat} (hk : k < 6) (hkd : kindI (sD d) (sF d) (sN d) (sU d) p = nI kd) (hk6 : kd < 6) (h : ¬ bitI (tb0.getD kd 0) (nI k) = 0) : Ct G yX5_as cX5_as 3 (some .int) 5 0 0 z σ [.ref 0, .int (nI p), .int (nI k)] (some (.int (nI p))) z (ups σ 0 (xO lf (nI 0))) := by
  refine Ct.ofJ RX5 rfl [some (.ref 0), some (.int (nI p)), some (.int (nI k))] rfl (by decide) Nat.le.refl ?_
  refine j_aload_n dX5_as_0 rfl rfl ?_
  refine j_iload_n dX5_as_1 rfl rfl ?_
  refine j_callV (c_isNoPerson X (nI p)) dX5_as_2 rfl mv_X5_155 (by first | exact X.1 | exact X.2.1 | exact X.2.2.2.1 | exact X.2.2.2.2.1 | exact X.2.2.2.2.2.2.1.o | exact X.2.2.2.2.2.2.1.c | exact X.2.2.2.2.2.2.1.i | exact X.2.2.2.2.2.2.1.p | exact X.2.2.2.2.2.2.1.d | exact X.2.2.2.2.2.2.2.1.o | exact X.2.2.2.2.2.2.2.2.1 | exact X.2.2.2.2.2.2.2.2.2.1 | exact X.2.2.2.2.2.2.2.2.2.2.2.1 | exact X.2.2.2.2.2.2.2.2.2.2.2.2.2.1 | exact X.2.2.2.2.2.2.2.2.2.2.2.2.2.2.1 | exact X.2.2.2.2.2.2.2.2.2.2.2.2.2.2.2) rfl ⟨(Nat.le_of_ble_eq_true rfl), (Nat.le_of_ble_eq_true rfl)⟩ ⟨(Nat.le_of_ble_eq_true rfl), (Nat.le_of_ble_eq_true rfl)⟩ (Nat.le_of_ble_eq_true rfl) ?_
  refine j_top (nI 0) (npI_k hp hN) ?_
  refine j_if_ne 18 dX5_as_5 (by decide) (fun h => absurd rfl h) (fun _ => ?_)
  refine j_iload_n dX5_as_8 rfl rfl ?_
  refine j_if_lt 18 dX5_as_9 (by decide) (fun b9 => by exact absurd b9 (nI_pos (by omega))) (fun b9 => ?_)
  refine j_iload_n dX5_as_12 rfl rfl ?_
  refine j_bipush (nI 6) dX5_as_13 rfl ?_
  refine j_icmp_ltN 21 dX5_as_15 (by decide) (by omega) (by omega) (fun b15 => ?_) (fun b15 => by exfalso; omega)
  refine j_gets RX5 "KINDS_THAT_ONE_IS" 200 dX5_as_21 fl_X5_233 (fun _ _ h => h.1.1) ?_
  refine j_aload_n dX5_as_24 rfl rfl ?_
  refine j_getf dX5_as_25 5 4 rfl (Nat.le_of_ble_eq_true rfl) fl_X5_26 in_5 (by first | exact X.1 | exact X.2.1 | exact X.2.2.2.1 | exact X.2.2.2.2.1 | exact X.2.2.2.2.2.2.1.o | exact X.2.2.2.2.2.2.1.c | exact X.2.2.2.2.2.2.1.i | exact X.2.2.2.2.2.2.1.p | exact X.2.2.2.2.2.2.1.d | exact X.2.2.2.2.2.2.2.1.o | exact X.2.2.2.2.2.2.2.2.1 | exact X.2.2.2.2.2.2.2.2.2.1 | exact X.2.2.2.2.2.2.2.2.2.2.2.1 | exact X.2.2.2.2.2.2.2.2.2.2.2.2.2.1 | exact X.2.2.2.2.2.2.2.2.2.2.2.2.2.2.1 | exact X.2.2.2.2.2.2.2.2.2.2.2.2.2.2.2) rfl ?_
  refine j_iload_n dX5_as_28 rfl rfl ?_
  refine j_callV (c_kindOfS X.2.2.2.2.2.2.1 hN (by omega) hu hu2) dX5_as_29 rfl mv_X5_230 (by first | exact X.1 | exact X.2.1 | exact X.2.2.2.1 | exact X.2.2.2.2.1 | exact X.2.2.2.2.2.2.1.o | exact X.2.2.2.2.2.2.1.c | exact X.2.2.2.2.2.2.1.i | exact X.2.2.2.2.2.2.1.p | exact X.2.2.2.2.2.2.1.d | exact X.2.2.2.2.2.2.2.1.o | exact X.2.2.2.2.2.2.2.2.1 | exact X.2.2.2.2.2.2.2.2.2.1 | exact X.2.2.2.2.2.2.2.2.2.2.2.1 | exact X.2.2.2.2.2.2.2.2.2.2.2.2.2.1 | exact X.2.2.2.2.2.2.2.2.2.2.2.2.2.2.1 | exact X.2.2.2.2.2.2.2.2.2.2.2.2.2.2.2) rfl ⟨(Nat.le_of_ble_eq_true rfl), (Nat.le_of_ble_eq_true rfl)⟩ ⟨(Nat.le_of_ble_eq_true rfl), (Nat.le_of_ble_eq_true rfl)⟩ (Nat.le_of_ble_eq_true rfl) ?_
  refine j_tld 200 tb0 dX5_as_32 (fun _ _ h => h.1.2) hkd hk6 _ rfl ?_
  refine j_iload_n dX5_as_33 rfl rfl ?_
  refine j_callS (c_bitOf G z _ _ (nI k)) dX5_as_34 rfl ms_X5_167 ⟨(Nat.le_of_ble_eq_true rfl), (Nat.le_of_ble_eq_true rfl)⟩ ⟨(Nat.le_of_ble_eq_true rfl), (Nat.le_of_ble_eq_true rfl)⟩ (Nat.le_of_ble_eq_true rfl) ?_
  refine j_if_ne 46 dX5_as_37 (by decide) (fun b37 => ?_) (fun b37 => by exact absurd b37 h)
  refine j_aload_n dX5_as_46 rfl rfl ?_
  refine j_iload_n dX5_as_47 rfl rfl ?_
  refine j_callV (c_foundNothing X (nI p)) dX5_as_48 rfl mv_X5_68 (by first | exact X.1 | exact X.2.1 | exact X.2.2.2.1 | exact X.2.2.2.2.1 | exact X.2.2.2.2.2.2.1.o | exact X.2.2.2.2.2.2.1.c | exact X.2.2.2.2.2.2.1.i | exact X.2.2.2.2.2.2.1.p | exact X.2.2.2.2.2.2.1.d | exact X.2.2.2.2.2.2.2.1.o | exact X.2.2.2.2.2.2.2.2.1 | exact X.2.2.2.2.2.2.2.2.2.1 | exact X.2.2.2.2.2.2.2.2.2.2.2.1 | exact X.2.2.2.2.2.2.2.2.2.2.2.2.2.1 | exact X.2.2.2.2.2.2.2.2.2.2.2.2.2.2.1 | exact X.2.2.2.2.2.2.2.2.2.2.2.2.2.2.2) rfl ⟨(Nat.le_of_ble_eq_true rfl), (Nat.le_of_ble_eq_true rfl)⟩ ⟨(Nat.le_of_ble_eq_true rfl), (Nat.le_of_ble_eq_true rfl)⟩ (Nat.le_of_ble_eq_true rfl) ?_
  exact j_iret rfl dX5_as_51 rfl rfl (Nat.le_of_ble_eq_true rfl) (Nat.le_of_ble_eq_true rfl)
theorem x_trace_none (X : XR σ lf fd rl rn ri tp rd dd d df nx kp da di tr bo ne) (i : Int32) (h : i < 0 ∨ ¬ i < nI tr) : Ct G yX5_trace cX5_trace 2 (some .int) 1 0 0 z σ [.ref 0, .int i] (some (.int (-1000000))) z σ := by
  refine Ct.ofJ RX5 rfl [some (.ref 0), some (.int i)] rfl (by decide) Nat.le.refl ?_
  refine j_iload_n dX5_trace_0 rfl rfl ?_
  refine j_if_lt 15 dX5_trace_1 (by decide) (fun b1 => ?_) (fun b1 => ?_)
  · refine j_ldc (-1000000) dX5_trace_15 kc_X5_220 ?_
    exact j_iret rfl dX5_trace_17 rfl rfl (Nat.le_of_ble_eq_true rfl) (Nat.le_of_ble_eq_true rfl)
  · refine j_iload_n dX5_trace_4 rfl rfl ?_
    refine j_aload_n dX5_trace_5 rfl rfl ?_
    refine j_getf dX5_trace_6 5 8 rfl (Nat.le_of_ble_eq_true rfl) fl_X5_47 in_5 (by first | exact X.1 | exact X.2.1 | exact X.2.2.2.1 | exact X.2.2.2.2.1 | exact X.2.2.2.2.2.2.1.o | exact X.2.2.2.2.2.2.1.c | exact X.2.2.2.2.2.2.1.i | exact X.2.2.2.2.2.2.1.p | exact X.2.2.2.2.2.2.1.d | exact X.2.2.2.2.2.2.2.1.o | exact X.2.2.2.2.2.2.2.2.1 | exact X.2.2.2.2.2.2.2.2.2.1 | exact X.2.2.2.2.2.2.2.2.2.2.2.1 | exact X.2.2.2.2.2.2.2.2.2.2.2.2.2.1 | exact X.2.2.2.2.2.2.2.2.2.2.2.2.2.2.1 | exact X.2.2.2.2.2.2.2.2.2.2.2.2.2.2.2) rfl ?_
    refine j_getf dX5_trace_9 1 1 rfl (Nat.le_of_ble_eq_true rfl) fl_X5_240 in_1 (by first | exact X.1 | exact X.2.1 | exact X.2.2.2.1 | exact X.2.2.2.2.1 | exact X.2.2.2.2.2.2.1.o | exact X.2.2.2.2.2.2.1.c | exact X.2.2.2.2.2.2.1.i | exact X.2.2.2.2.2.2.1.p | exact X.2.2.2.2.2.2.1.d | exact X.2.2.2.2.2.2.2.1.o | exact X.2.2.2.2.2.2.2.2.1 | exact X.2.2.2.2.2.2.2.2.2.1 | exact X.2.2.2.2.2.2.2.2.2.2.2.1 | exact X.2.2.2.2.2.2.2.2.2.2.2.2.2.1 | exact X.2.2.2.2.2.2.2.2.2.2.2.2.2.2.1 | exact X.2.2.2.2.2.2.2.2.2.2.2.2.2.2.2) rfl ?_
    refine j_icmp_lt 18 dX5_trace_12 (by decide) (fun b12 => ?_) (fun b12 => ?_)
    · exact absurd h (fun q => q.elim b1 (fun w => w b12))
    · refine j_ldc (-1000000) dX5_trace_15 kc_X5_220 ?_
      exact j_iret rfl dX5_trace_17 rfl rfl (Nat.le_of_ble_eq_true rfl) (Nat.le_of_ble_eq_true rfl)
theorem x_trace_ok (X : XR σ lf fd rl rn ri tp rd dd d df nx kp da di tr bo ne) {i : Nat} (h : i < tr) (ht : tr ≤ 16) : Ct G yX5_trace cX5_trace 2 (some .int) 1 0 0 z σ [.ref 0, .int (nI i)] (some (.int (bo i))) z σ := by
  refine Ct.ofJ RX5 rfl [some (.ref 0), some (.int (nI i))] rfl (by decide) Nat.le.refl ?_
  refine j_iload_n dX5_trace_0 rfl rfl ?_
  refine j_if_lt 15 dX5_trace_1 (by decide) (fun b1 => by exact absurd b1 (nI_pos (by omega))) (fun b1 => ?_)
  refine j_iload_n dX5_trace_4 rfl rfl ?_
  refine j_aload_n dX5_trace_5 rfl rfl ?_
  refine j_getf dX5_trace_6 5 8 rfl (Nat.le_of_ble_eq_true rfl) fl_X5_47 in_5 (by first | exact X.1 | exact X.2.1 | exact X.2.2.2.1 | exact X.2.2.2.2.1 | exact X.2.2.2.2.2.2.1.o | exact X.2.2.2.2.2.2.1.c | exact X.2.2.2.2.2.2.1.i | exact X.2.2.2.2.2.2.1.p | exact X.2.2.2.2.2.2.1.d | exact X.2.2.2.2.2.2.2.1.o | exact X.2.2.2.2.2.2.2.2.1 | exact X.2.2.2.2.2.2.2.2.2.1 | exact X.2.2.2.2.2.2.2.2.2.2.2.1 | exact X.2.2.2.2.2.2.2.2.2.2.2.2.2.1 | exact X.2.2.2.2.2.2.2.2.2.2.2.2.2.2.1 | exact X.2.2.2.2.2.2.2.2.2.2.2.2.2.2.2) rfl ?_
  refine j_getf dX5_trace_9 1 1 rfl (Nat.le_of_ble_eq_true rfl) fl_X5_240 in_1 (by first | exact X.1 | exact X.2.1 | exact X.2.2.2.1 | exact X.2.2.2.2.1 | exact X.2.2.2.2.2.2.1.o | exact X.2.2.2.2.2.2.1.c | exact X.2.2.2.2.2.2.1.i | exact X.2.2.2.2.2.2.1.p | exact X.2.2.2.2.2.2.1.d | exact X.2.2.2.2.2.2.2.1.o | exact X.2.2.2.2.2.2.2.2.1 | exact X.2.2.2.2.2.2.2.2.2.1 | exact X.2.2.2.2.2.2.2.2.2.2.2.1 | exact X.2.2.2.2.2.2.2.2.2.2.2.2.2.1 | exact X.2.2.2.2.2.2.2.2.2.2.2.2.2.2.1 | exact X.2.2.2.2.2.2.2.2.2.2.2.2.2.2.2) rfl ?_
  refine j_icmp_ltN 18 dX5_trace_12 (by decide) (by omega) (by omega) (fun b12 => ?_) (fun b12 => by exfalso; omega)
  refine j_aload_n dX5_trace_18 rfl rfl ?_
  refine j_getf dX5_trace_19 5 8 rfl (Nat.le_of_ble_eq_true rfl) fl_X5_47 in_5 (by first | exact X.1 | exact X.2.1 | exact X.2.2.2.1 | exact X.2.2.2.2.1 | exact X.2.2.2.2.2.2.1.o | exact X.2.2.2.2.2.2.1.c | exact X.2.2.2.2.2.2.1.i | exact X.2.2.2.2.2.2.1.p | exact X.2.2.2.2.2.2.1.d | exact X.2.2.2.2.2.2.2.1.o | exact X.2.2.2.2.2.2.2.2.1 | exact X.2.2.2.2.2.2.2.2.2.1 | exact X.2.2.2.2.2.2.2.2.2.2.2.1 | exact X.2.2.2.2.2.2.2.2.2.2.2.2.2.1 | exact X.2.2.2.2.2.2.2.2.2.2.2.2.2.2.1 | exact X.2.2.2.2.2.2.2.2.2.2.2.2.2.2.2) rfl ?_
  refine j_getf dX5_trace_22 1 0 rfl (Nat.le_of_ble_eq_true rfl) fl_X5_243 in_1 (by first | exact X.1 | exact X.2.1 | exact X.2.2.2.1 | exact X.2.2.2.2.1 | exact X.2.2.2.2.2.2.1.o | exact X.2.2.2.2.2.2.1.c | exact X.2.2.2.2.2.2.1.i | exact X.2.2.2.2.2.2.1.p | exact X.2.2.2.2.2.2.1.d | exact X.2.2.2.2.2.2.2.1.o | exact X.2.2.2.2.2.2.2.2.1 | exact X.2.2.2.2.2.2.2.2.2.1 | exact X.2.2.2.2.2.2.2.2.2.2.2.1 | exact X.2.2.2.2.2.2.2.2.2.2.2.2.2.1 | exact X.2.2.2.2.2.2.2.2.2.2.2.2.2.2.1 | exact X.2.2.2.2.2.2.2.2.2.2.2.2.2.2.2) rfl ?_
  refine j_iload_n dX5_trace_25 rfl rfl ?_
  refine j_iald dX5_trace_26 (by first | exact X.1 | exact X.2.1 | exact X.2.2.2.1 | exact X.2.2.2.2.1 | exact X.2.2.2.2.2.2.1.o | exact X.2.2.2.2.2.2.1.c | exact X.2.2.2.2.2.2.1.i | exact X.2.2.2.2.2.2.1.p | exact X.2.2.2.2.2.2.1.d | exact X.2.2.2.2.2.2.2.1.o | exact X.2.2.2.2.2.2.2.2.1 | exact X.2.2.2.2.2.2.2.2.2.1 | exact X.2.2.2.2.2.2.2.2.2.2.2.1 | exact X.2.2.2.2.2.2.2.2.2.2.2.2.2.1 | exact X.2.2.2.2.2.2.2.2.2.2.2.2.2.2.1 | exact X.2.2.2.2.2.2.2.2.2.2.2.2.2.2.2) rfl (by omega) (by decide) ?_
  exact j_iret rfl dX5_trace_27 rfl rfl (Nat.le_of_ble_eq_true rfl) (Nat.le_of_ble_eq_true rfl)
theorem c_rowsThere (X : XR σ lf fd rl rn ri tp rd dd d df nx kp da di tr bo ne) : Ct G yX5_rowsThere cX5_rowsThere 3 (some .int) 2 0 0 z σ [.ref 0] (some (.int (nI (cntR rl 8)))) z σ := by
  refine Ct.ofJ RX5 rfl [some (.ref 0), none, none] rfl (by decide) (by simp [Value.category]) ?_
  refine j_iconst (nI 0) dX5_rowsThere_0 rfl ?_
  refine j_istore_n dX5_rowsThere_1 rfl (Nat.le_of_ble_eq_true rfl) rfl ?_
  refine j_iconst (nI 0) dX5_rowsThere_2 rfl ?_
  refine j_istore_n dX5_rowsThere_3 rfl (Nat.le_of_ble_eq_true rfl) rfl ?_
  skip
  suffices H : ∀ (ki i : Nat), i ≤ 8 → 8 < i + ki → J G RX5 cX5_rowsThere 3 (some .int) (TQ G 2 0 0 (some (.int (nI (cntR rl 8)))) z σ) z σ 0 0 4 [some (.ref 0), some (.int (nI (cntR rl i))), some (.int (nI i))] [] from H (8 + 1) 0 (by omega) (by omega)
  intro ki
  induction ki with
  | zero => intro i h1i h2i; exact absurd h2i (by omega)
  | succ ki ih =>
    intro i h1i h2i
    have e1 : cntR rl (i + 1) = if rl i = -1 then cntR rl i else cntR rl i + 1 := rfl
    refine j_iload_n dX5_rowsThere_4 rfl rfl ?_
    refine j_bipush (nI 8) dX5_rowsThere_5 rfl ?_
    refine j_icmp_geN 31 dX5_rowsThere_7 (by decide) (by omega) (by omega) (fun b7 => ?_) (fun b7 => ?_)
    · obtain rfl : i = 8 := by omega
      refine j_iload_n dX5_rowsThere_31 rfl rfl ?_
      exact j_iret rfl dX5_rowsThere_32 rfl rfl (Nat.le_of_ble_eq_true rfl) (Nat.le_of_ble_eq_true rfl)
    · refine j_aload_n dX5_rowsThere_10 rfl rfl ?_
      refine j_getf dX5_rowsThere_11 5 0 rfl (Nat.le_of_ble_eq_true rfl) fl_X5_11 in_5 (by first | exact X.1 | exact X.2.1 | exact X.2.2.2.1 | exact X.2.2.2.2.1 | exact X.2.2.2.2.2.2.1.o | exact X.2.2.2.2.2.2.1.c | exact X.2.2.2.2.2.2.1.i | exact X.2.2.2.2.2.2.1.p | exact X.2.2.2.2.2.2.1.d | exact X.2.2.2.2.2.2.2.1.o | exact X.2.2.2.2.2.2.2.2.1 | exact X.2.2.2.2.2.2.2.2.2.1 | exact X.2.2.2.2.2.2.2.2.2.2.2.1 | exact X.2.2.2.2.2.2.2.2.2.2.2.2.2.1 | exact X.2.2.2.2.2.2.2.2.2.2.2.2.2.2.1 | exact X.2.2.2.2.2.2.2.2.2.2.2.2.2.2.2) rfl ?_
      refine j_iload_n dX5_rowsThere_14 rfl rfl ?_
      refine j_aaldL 3 8 2 2 dX5_rowsThere_15 (by first | exact X.1 | exact X.2.1 | exact X.2.2.2.1 | exact X.2.2.2.2.1 | exact X.2.2.2.2.2.2.1.o | exact X.2.2.2.2.2.2.1.c | exact X.2.2.2.2.2.2.1.i | exact X.2.2.2.2.2.2.1.p | exact X.2.2.2.2.2.2.1.d | exact X.2.2.2.2.2.2.2.1.o | exact X.2.2.2.2.2.2.2.2.1 | exact X.2.2.2.2.2.2.2.2.2.1 | exact X.2.2.2.2.2.2.2.2.2.2.2.1 | exact X.2.2.2.2.2.2.2.2.2.2.2.2.2.1 | exact X.2.2.2.2.2.2.2.2.2.2.2.2.2.2.1 | exact X.2.2.2.2.2.2.2.2.2.2.2.2.2.2.2) (by decide) rfl (by omega) (by decide) ?_
      refine j_callV (c_isMissingR (X.2.2.1 i (by omega))) dX5_rowsThere_16 rfl mv_X5_71 (X.2.2.1 i (by omega)).o rfl ⟨(Nat.le_of_ble_eq_true rfl), (Nat.le_of_ble_eq_true rfl)⟩ ⟨(Nat.le_of_ble_eq_true rfl), (Nat.le_of_ble_eq_true rfl)⟩ (Nat.le_of_ble_eq_true rfl) ?_
      refine j_if_ne 25 dX5_rowsThere_19 (by decide) (fun b19 => ?_) (fun b19 => ?_)
      · first | refine j_iincN dX5_rowsThere_25 rfl (Nat.le_of_ble_eq_true rfl) rfl ?_ | refine j_iinc _ dX5_rowsThere_25 rfl rfl (Nat.le_of_ble_eq_true rfl) rfl ?_
        refine j_goto 4 dX5_rowsThere_28 (by decide) ?_
        have ih2 := ih (i + 1) (by omega) (by omega)
        rw [e1] at ih2
        by_cases hm : rl i = -1
        · first | (rw [if_pos hm] at b19; exact absurd b19 (by decide)) | (rw [if_pos hm] at ih2; exact ih2)
        · first | (rw [if_neg hm] at b19; exact absurd rfl b19) | (rw [if_neg hm] at ih2; exact ih2)
      · first | refine j_iincN dX5_rowsThere_22 rfl (Nat.le_of_ble_eq_true rfl) rfl ?_ | refine j_iinc _ dX5_rowsThere_22 rfl rfl (Nat.le_of_ble_eq_true rfl) rfl ?_
        first | refine j_iincN dX5_rowsThere_25 rfl (Nat.le_of_ble_eq_true rfl) rfl ?_ | refine j_iinc _ dX5_rowsThere_25 rfl rfl (Nat.le_of_ble_eq_true rfl) rfl ?_
        refine j_goto 4 dX5_rowsThere_28 (by decide) ?_
        have ih2 := ih (i + 1) (by omega) (by omega)
        rw [e1] at ih2
        by_cases hm : rl i = -1
        · first | (rw [if_pos hm] at b19; exact absurd b19 (by decide)) | (rw [if_pos hm] at ih2; exact ih2)
        · first | (rw [if_neg hm] at b19; exact absurd rfl b19) | (rw [if_neg hm] at ih2; exact ih2)
theorem x_count_0 (X : XR σ lf fd rl rn ri tp rd dd d df nx kp da di tr bo ne) : Ct G yX5_count cX5_count 2 (some .int) 3 0 0 z σ [.ref 0, .int (nI 0)] (some (.int (nI (cntR rl 8)))) z σ := by
  refine Ct.ofJ RX5 rfl [some (.ref 0), some (.int (nI 0))] rfl (by decide) Nat.le.refl ?_
  refine j_iload_n dX5_count_0 rfl rfl ?_
  refine j_tabK 0 44 dX5_count_1 rfl (by decide) (by decide) (by decide) rfl (by decide) ?_
  refine j_aload_n dX5_count_44 rfl rfl ?_
  refine j_callV (c_rowsThere X) dX5_count_45 rfl mv_X5_246 (by first | exact X.1 | exact X.2.1 | exact X.2.2.2.1 | exact X.2.2.2.2.1 | exact X.2.2.2.2.2.2.1.o | exact X.2.2.2.2.2.2.1.c | exact X.2.2.2.2.2.2.1.i | exact X.2.2.2.2.2.2.1.p | exact X.2.2.2.2.2.2.1.d | exact X.2.2.2.2.2.2.2.1.o | exact X.2.2.2.2.2.2.2.2.1 | exact X.2.2.2.2.2.2.2.2.2.1 | exact X.2.2.2.2.2.2.2.2.2.2.2.1 | exact X.2.2.2.2.2.2.2.2.2.2.2.2.2.1 | exact X.2.2.2.2.2.2.2.2.2.2.2.2.2.2.1 | exact X.2.2.2.2.2.2.2.2.2.2.2.2.2.2.2) rfl ⟨(Nat.le_of_ble_eq_true rfl), (Nat.le_of_ble_eq_true rfl)⟩ ⟨(Nat.le_of_ble_eq_true rfl), (Nat.le_of_ble_eq_true rfl)⟩ (Nat.le_of_ble_eq_true rfl) ?_
  exact j_iret rfl dX5_count_48 rfl rfl (Nat.le_of_ble_eq_true rfl) (Nat.le_of_ble_eq_true rfl)
theorem x_count_1 (X : XR σ lf fd rl rn ri tp rd dd d df nx kp da di tr bo ne) : Ct G yX5_count cX5_count 2 (some .int) 3 0 0 z σ [.ref 0, .int (nI 1)] (some (.int (nI (sN d)))) z σ := by
  refine Ct.ofJ RX5 rfl [some (.ref 0), some (.int (nI 1))] rfl (by decide) Nat.le.refl ?_
  refine j_iload_n dX5_count_0 rfl rfl ?_
  refine j_tabK 1 49 dX5_count_1 rfl (by decide) (by decide) (by decide) rfl (by decide) ?_
  refine j_aload_n dX5_count_49 rfl rfl ?_
  refine j_getf dX5_count_50 5 4 rfl (Nat.le_of_ble_eq_true rfl) fl_X5_26 in_5 (by first | exact X.1 | exact X.2.1 | exact X.2.2.2.1 | exact X.2.2.2.2.1 | exact X.2.2.2.2.2.2.1.o | exact X.2.2.2.2.2.2.1.c | exact X.2.2.2.2.2.2.1.i | exact X.2.2.2.2.2.2.1.p | exact X.2.2.2.2.2.2.1.d | exact X.2.2.2.2.2.2.2.1.o | exact X.2.2.2.2.2.2.2.2.1 | exact X.2.2.2.2.2.2.2.2.2.1 | exact X.2.2.2.2.2.2.2.2.2.2.2.1 | exact X.2.2.2.2.2.2.2.2.2.2.2.2.2.1 | exact X.2.2.2.2.2.2.2.2.2.2.2.2.2.2.1 | exact X.2.2.2.2.2.2.2.2.2.2.2.2.2.2.2) rfl ?_
  refine j_getf dX5_count_53 4 4 rfl (Nat.le_of_ble_eq_true rfl) fl_X5_131 in_4 (by first | exact X.1 | exact X.2.1 | exact X.2.2.2.1 | exact X.2.2.2.2.1 | exact X.2.2.2.2.2.2.1.o | exact X.2.2.2.2.2.2.1.c | exact X.2.2.2.2.2.2.1.i | exact X.2.2.2.2.2.2.1.p | exact X.2.2.2.2.2.2.1.d | exact X.2.2.2.2.2.2.2.1.o | exact X.2.2.2.2.2.2.2.2.1 | exact X.2.2.2.2.2.2.2.2.2.1 | exact X.2.2.2.2.2.2.2.2.2.2.2.1 | exact X.2.2.2.2.2.2.2.2.2.2.2.2.2.1 | exact X.2.2.2.2.2.2.2.2.2.2.2.2.2.2.1 | exact X.2.2.2.2.2.2.2.2.2.2.2.2.2.2.2) rfl ?_
  exact j_iret rfl dX5_count_56 rfl rfl (Nat.le_of_ble_eq_true rfl) (Nat.le_of_ble_eq_true rfl)
theorem x_count_2 (X : XR σ lf fd rl rn ri tp rd dd d df nx kp da di tr bo ne) (hN : sN d ≤ 7) : Ct G yX5_count cX5_count 2 (some .int) 3 0 0 z σ [.ref 0, .int (nI 2)] (some (.int (nI (cntDs (sD d) (sN d) (sN d))))) z σ := by
  refine Ct.ofJ RX5 rfl [some (.ref 0), some (.int (nI 2))] rfl (by decide) Nat.le.refl ?_
  refine j_iload_n dX5_count_0 rfl rfl ?_
  refine j_tabK 2 57 dX5_count_1 rfl (by decide) (by decide) (by decide) rfl (by decide) ?_
  refine j_aload_n dX5_count_57 rfl rfl ?_
  refine j_getf dX5_count_58 5 4 rfl (Nat.le_of_ble_eq_true rfl) fl_X5_26 in_5 (by first | exact X.1 | exact X.2.1 | exact X.2.2.2.1 | exact X.2.2.2.2.1 | exact X.2.2.2.2.2.2.1.o | exact X.2.2.2.2.2.2.1.c | exact X.2.2.2.2.2.2.1.i | exact X.2.2.2.2.2.2.1.p | exact X.2.2.2.2.2.2.1.d | exact X.2.2.2.2.2.2.2.1.o | exact X.2.2.2.2.2.2.2.2.1 | exact X.2.2.2.2.2.2.2.2.2.1 | exact X.2.2.2.2.2.2.2.2.2.2.2.1 | exact X.2.2.2.2.2.2.2.2.2.2.2.2.2.1 | exact X.2.2.2.2.2.2.2.2.2.2.2.2.2.2.1 | exact X.2.2.2.2.2.2.2.2.2.2.2.2.2.2.2) rfl ?_
  refine j_callV (c_debtsAboveNoneS X.2.2.2.2.2.2.1 hN) dX5_count_61 rfl mv_X5_249 (by first | exact X.1 | exact X.2.1 | exact X.2.2.2.1 | exact X.2.2.2.2.1 | exact X.2.2.2.2.2.2.1.o | exact X.2.2.2.2.2.2.1.c | exact X.2.2.2.2.2.2.1.i | exact X.2.2.2.2.2.2.1.p | exact X.2.2.2.2.2.2.1.d | exact X.2.2.2.2.2.2.2.1.o | exact X.2.2.2.2.2.2.2.2.1 | exact X.2.2.2.2.2.2.2.2.2.1 | exact X.2.2.2.2.2.2.2.2.2.2.2.1 | exact X.2.2.2.2.2.2.2.2.2.2.2.2.2.1 | exact X.2.2.2.2.2.2.2.2.2.2.2.2.2.2.1 | exact X.2.2.2.2.2.2.2.2.2.2.2.2.2.2.2) rfl ⟨(Nat.le_of_ble_eq_true rfl), (Nat.le_of_ble_eq_true rfl)⟩ ⟨(Nat.le_of_ble_eq_true rfl), (Nat.le_of_ble_eq_true rfl)⟩ (Nat.le_of_ble_eq_true rfl) ?_
  exact j_iret rfl dX5_count_64 rfl rfl (Nat.le_of_ble_eq_true rfl) (Nat.le_of_ble_eq_true rfl)
theorem x_count_3 (X : XR σ lf fd rl rn ri tp rd dd d df nx kp da di tr bo ne) : Ct G yX5_count cX5_count 2 (some .int) 3 0 0 z σ [.ref 0, .int (nI 3)] (some (.int (nI (sQ d)))) z σ := by
  refine Ct.ofJ RX5 rfl [some (.ref 0), some (.int (nI 3))] rfl (by decide) Nat.le.refl ?_
  refine j_iload_n dX5_count_0 rfl rfl ?_
  refine j_tabK 3 65 dX5_count_1 rfl (by decide) (by decide) (by decide) rfl (by decide) ?_
  refine j_aload_n dX5_count_65 rfl rfl ?_
  refine j_getf dX5_count_66 5 4 rfl (Nat.le_of_ble_eq_true rfl) fl_X5_26 in_5 (by first | exact X.1 | exact X.2.1 | exact X.2.2.2.1 | exact X.2.2.2.2.1 | exact X.2.2.2.2.2.2.1.o | exact X.2.2.2.2.2.2.1.c | exact X.2.2.2.2.2.2.1.i | exact X.2.2.2.2.2.2.1.p | exact X.2.2.2.2.2.2.1.d | exact X.2.2.2.2.2.2.2.1.o | exact X.2.2.2.2.2.2.2.2.1 | exact X.2.2.2.2.2.2.2.2.2.1 | exact X.2.2.2.2.2.2.2.2.2.2.2.1 | exact X.2.2.2.2.2.2.2.2.2.2.2.2.2.1 | exact X.2.2.2.2.2.2.2.2.2.2.2.2.2.2.1 | exact X.2.2.2.2.2.2.2.2.2.2.2.2.2.2.2) rfl ?_
  refine j_getf dX5_count_69 4 7 rfl (Nat.le_of_ble_eq_true rfl) fl_X5_174 in_4 (by first | exact X.1 | exact X.2.1 | exact X.2.2.2.1 | exact X.2.2.2.2.1 | exact X.2.2.2.2.2.2.1.o | exact X.2.2.2.2.2.2.1.c | exact X.2.2.2.2.2.2.1.i | exact X.2.2.2.2.2.2.1.p | exact X.2.2.2.2.2.2.1.d | exact X.2.2.2.2.2.2.2.1.o | exact X.2.2.2.2.2.2.2.2.1 | exact X.2.2.2.2.2.2.2.2.2.1 | exact X.2.2.2.2.2.2.2.2.2.2.2.1 | exact X.2.2.2.2.2.2.2.2.2.2.2.2.2.1 | exact X.2.2.2.2.2.2.2.2.2.2.2.2.2.2.1 | exact X.2.2.2.2.2.2.2.2.2.2.2.2.2.2.2) rfl ?_
  exact j_iret rfl dX5_count_72 rfl rfl (Nat.le_of_ble_eq_true rfl) (Nat.le_of_ble_eq_true rfl)
theorem x_count_4 (X : XR σ lf fd rl rn ri tp rd dd d df nx kp da di tr bo ne) : Ct G yX5_count cX5_count 2 (some .int) 3 0 0 z σ [.ref 0, .int (nI 4)] (some (.int (nI kp))) z σ := by
  refine Ct.ofJ RX5 rfl [some (.ref 0), some (.int (nI 4))] rfl (by decide) Nat.le.refl ?_
  refine j_iload_n dX5_count_0 rfl rfl ?_
  refine j_tabK 4 73 dX5_count_1 rfl (by decide) (by decide) (by decide) rfl (by decide) ?_
  refine j_aload_n dX5_count_73 rfl rfl ?_
  refine j_getf dX5_count_74 5 6 rfl (Nat.le_of_ble_eq_true rfl) fl_X5_36 in_5 (by first | exact X.1 | exact X.2.1 | exact X.2.2.2.1 | exact X.2.2.2.2.1 | exact X.2.2.2.2.2.2.1.o | exact X.2.2.2.2.2.2.1.c | exact X.2.2.2.2.2.2.1.i | exact X.2.2.2.2.2.2.1.p | exact X.2.2.2.2.2.2.1.d | exact X.2.2.2.2.2.2.2.1.o | exact X.2.2.2.2.2.2.2.2.1 | exact X.2.2.2.2.2.2.2.2.2.1 | exact X.2.2.2.2.2.2.2.2.2.2.2.1 | exact X.2.2.2.2.2.2.2.2.2.2.2.2.2.1 | exact X.2.2.2.2.2.2.2.2.2.2.2.2.2.2.1 | exact X.2.2.2.2.2.2.2.2.2.2.2.2.2.2.2) rfl ?_
  refine j_getf dX5_count_77 0 2 rfl (Nat.le_of_ble_eq_true rfl) fl_X5_181 in_0 (by first | exact X.1 | exact X.2.1 | exact X.2.2.2.1 | exact X.2.2.2.2.1 | exact X.2.2.2.2.2.2.1.o | exact X.2.2.2.2.2.2.1.c | exact X.2.2.2.2.2.2.1.i | exact X.2.2.2.2.2.2.1.p | exact X.2.2.2.2.2.2.1.d | exact X.2.2.2.2.2.2.2.1.o | exact X.2.2.2.2.2.2.2.2.1 | exact X.2.2.2.2.2.2.2.2.2.1 | exact X.2.2.2.2.2.2.2.2.2.2.2.1 | exact X.2.2.2.2.2.2.2.2.2.2.2.2.2.1 | exact X.2.2.2.2.2.2.2.2.2.2.2.2.2.2.1 | exact X.2.2.2.2.2.2.2.2.2.2.2.2.2.2.2) rfl ?_
  exact j_iret rfl dX5_count_80 rfl rfl (Nat.le_of_ble_eq_true rfl) (Nat.le_of_ble_eq_true rfl)
theorem x_count_5 (X : XR σ lf fd rl rn ri tp rd dd d df nx kp da di tr bo ne) (hN : sN d ≤ 7) : Ct G yX5_count cX5_count 2 (some .int) 3 0 0 z σ [.ref 0, .int (nI 5)] (some (.int (sumR (sC d) (sN d)))) z σ := by
  refine Ct.ofJ RX5 rfl [some (.ref 0), some (.int (nI 5))] rfl (by decide) Nat.le.refl ?_
  refine j_iload_n dX5_count_0 rfl rfl ?_
  refine j_tabK 5 81 dX5_count_1 rfl (by decide) (by decide) (by decide) rfl (by decide) ?_
  refine j_aload_n dX5_count_81 rfl rfl ?_
  refine j_getf dX5_count_82 5 4 rfl (Nat.le_of_ble_eq_true rfl) fl_X5_26 in_5 (by first | exact X.1 | exact X.2.1 | exact X.2.2.2.1 | exact X.2.2.2.2.1 | exact X.2.2.2.2.2.2.1.o | exact X.2.2.2.2.2.2.1.c | exact X.2.2.2.2.2.2.1.i | exact X.2.2.2.2.2.2.1.p | exact X.2.2.2.2.2.2.1.d | exact X.2.2.2.2.2.2.2.1.o | exact X.2.2.2.2.2.2.2.2.1 | exact X.2.2.2.2.2.2.2.2.2.1 | exact X.2.2.2.2.2.2.2.2.2.2.2.1 | exact X.2.2.2.2.2.2.2.2.2.2.2.2.2.1 | exact X.2.2.2.2.2.2.2.2.2.2.2.2.2.2.1 | exact X.2.2.2.2.2.2.2.2.2.2.2.2.2.2.2) rfl ?_
  refine j_callV (c_cashOfAllS X.2.2.2.2.2.2.1 hN) dX5_count_85 rfl mv_X5_252 (by first | exact X.1 | exact X.2.1 | exact X.2.2.2.1 | exact X.2.2.2.2.1 | exact X.2.2.2.2.2.2.1.o | exact X.2.2.2.2.2.2.1.c | exact X.2.2.2.2.2.2.1.i | exact X.2.2.2.2.2.2.1.p | exact X.2.2.2.2.2.2.1.d | exact X.2.2.2.2.2.2.2.1.o | exact X.2.2.2.2.2.2.2.2.1 | exact X.2.2.2.2.2.2.2.2.2.1 | exact X.2.2.2.2.2.2.2.2.2.2.2.1 | exact X.2.2.2.2.2.2.2.2.2.2.2.2.2.1 | exact X.2.2.2.2.2.2.2.2.2.2.2.2.2.2.1 | exact X.2.2.2.2.2.2.2.2.2.2.2.2.2.2.2) rfl ⟨(Nat.le_of_ble_eq_true rfl), (Nat.le_of_ble_eq_true rfl)⟩ ⟨(Nat.le_of_ble_eq_true rfl), (Nat.le_of_ble_eq_true rfl)⟩ (Nat.le_of_ble_eq_true rfl) ?_
  exact j_iret rfl dX5_count_88 rfl rfl (Nat.le_of_ble_eq_true rfl) (Nat.le_of_ble_eq_true rfl)
theorem x_count_6 (X : XR σ lf fd rl rn ri tp rd dd d df nx kp da di tr bo ne) : Ct G yX5_count cX5_count 2 (some .int) 3 0 0 z σ [.ref 0, .int (nI 6)] (some (.int (rd 0))) z σ := by
  refine Ct.ofJ RX5 rfl [some (.ref 0), some (.int (nI 6))] rfl (by decide) Nat.le.refl ?_
  refine j_iload_n dX5_count_0 rfl rfl ?_
  refine j_tabK 6 89 dX5_count_1 rfl (by decide) (by decide) (by decide) rfl (by decide) ?_
  refine j_aload_n dX5_count_89 rfl rfl ?_
  refine j_getf dX5_count_90 5 1 rfl (Nat.le_of_ble_eq_true rfl) fl_X5_19 in_5 (by first | exact X.1 | exact X.2.1 | exact X.2.2.2.1 | exact X.2.2.2.2.1 | exact X.2.2.2.2.2.2.1.o | exact X.2.2.2.2.2.2.1.c | exact X.2.2.2.2.2.2.1.i | exact X.2.2.2.2.2.2.1.p | exact X.2.2.2.2.2.2.1.d | exact X.2.2.2.2.2.2.2.1.o | exact X.2.2.2.2.2.2.2.2.1 | exact X.2.2.2.2.2.2.2.2.2.1 | exact X.2.2.2.2.2.2.2.2.2.2.2.1 | exact X.2.2.2.2.2.2.2.2.2.2.2.2.2.1 | exact X.2.2.2.2.2.2.2.2.2.2.2.2.2.2.1 | exact X.2.2.2.2.2.2.2.2.2.2.2.2.2.2.2) rfl ?_
  refine j_getf dX5_count_93 2 2 rfl (Nat.le_of_ble_eq_true rfl) fl_X5_102 in_2 (by first | exact X.1 | exact X.2.1 | exact X.2.2.2.1 | exact X.2.2.2.2.1 | exact X.2.2.2.2.2.2.1.o | exact X.2.2.2.2.2.2.1.c | exact X.2.2.2.2.2.2.1.i | exact X.2.2.2.2.2.2.1.p | exact X.2.2.2.2.2.2.1.d | exact X.2.2.2.2.2.2.2.1.o | exact X.2.2.2.2.2.2.2.2.1 | exact X.2.2.2.2.2.2.2.2.2.1 | exact X.2.2.2.2.2.2.2.2.2.2.2.1 | exact X.2.2.2.2.2.2.2.2.2.2.2.2.2.1 | exact X.2.2.2.2.2.2.2.2.2.2.2.2.2.2.1 | exact X.2.2.2.2.2.2.2.2.2.2.2.2.2.2.2) rfl ?_
  exact j_iret rfl dX5_count_96 rfl rfl (Nat.le_of_ble_eq_true rfl) (Nat.le_of_ble_eq_true rfl)
theorem x_count_bad (X : XR σ lf fd rl rn ri tp rd dd d df nx kp da di tr bo ne) (w : Int32) (h : w.toInt < 0 ∨ 6 < w.toInt) : Ct G yX5_count cX5_count 2 (some .int) 3 0 0 z σ [.ref 0, .int w] (some (.int (-1000001))) z σ := by
  refine Ct.ofJ RX5 rfl [some (.ref 0), some (.int w)] rfl (by decide) Nat.le.refl ?_
  refine j_iload_n dX5_count_0 rfl rfl ?_
  refine j_tabOut 97 dX5_count_1 h (by decide) ?_
  refine j_ldc (-1000001) dX5_count_97 kc_X5_59 ?_
  exact j_iret rfl dX5_count_99 rfl rfl (Nat.le_of_ble_eq_true rfl) (Nat.le_of_ble_eq_true rfl)
theorem x_cheats_state (X : XR σ lf fd rl rn ri tp rd dd d df nx kp da di tr bo ne) (h : sN d = 0) : Ct G yX5_cheats cX5_cheats 3 (some .int) 5 0 0 z σ [.ref 0] (some (.int (-1000002))) z σ := by
  refine Ct.ofJ RX5 rfl [some (.ref 0), none, none] rfl (by decide) (by simp [Value.category]) ?_
  refine j_aload_n dX5_cheats_0 rfl rfl ?_
  refine j_callV (c_isNoTown X) dX5_cheats_1 rfl mv_X5_170 (by first | exact X.1 | exact X.2.1 | exact X.2.2.2.1 | exact X.2.2.2.2.1 | exact X.2.2.2.2.2.2.1.o | exact X.2.2.2.2.2.2.1.c | exact X.2.2.2.2.2.2.1.i | exact X.2.2.2.2.2.2.1.p | exact X.2.2.2.2.2.2.1.d | exact X.2.2.2.2.2.2.2.1.o | exact X.2.2.2.2.2.2.2.2.1 | exact X.2.2.2.2.2.2.2.2.2.1 | exact X.2.2.2.2.2.2.2.2.2.2.2.1 | exact X.2.2.2.2.2.2.2.2.2.2.2.2.2.1 | exact X.2.2.2.2.2.2.2.2.2.2.2.2.2.2.1 | exact X.2.2.2.2.2.2.2.2.2.2.2.2.2.2.2) rfl ⟨(Nat.le_of_ble_eq_true rfl), (Nat.le_of_ble_eq_true rfl)⟩ ⟨(Nat.le_of_ble_eq_true rfl), (Nat.le_of_ble_eq_true rfl)⟩ (Nat.le_of_ble_eq_true rfl) ?_
  refine j_top (nI 1) (by rw [h]; rfl) ?_
  refine j_if_eq 10 dX5_cheats_4 (by decide) (fun h => absurd h (by decide)) (fun _ => ?_)
  refine j_ldc (-1000002) dX5_cheats_7 kc_X5_140 ?_
  exact j_iret rfl dX5_cheats_9 rfl rfl (Nat.le_of_ble_eq_true rfl) (Nat.le_of_ble_eq_true rfl)
theorem x_cheats_ok (X : XR σ lf fd rl rn ri tp rd dd d df nx kp da di tr bo ne) (hN : sN d ≤ 7) (h0 : 1 ≤ sN d) (hu : 1 ≤ sU d) (hu2 : sU d ≤ 20) : Ct G yX5_cheats cX5_cheats 3 (some .int) 5 0 0 z σ [.ref 0] (some (.int (chI (sP d) (sD d) (sN d) (sU d) (sN d)))) z σ := by
  refine Ct.ofJ RX5 rfl [some (.ref 0), none, none] rfl (by decide) (by simp [Value.category]) ?_
  refine j_aload_n dX5_cheats_0 rfl rfl ?_
  refine j_callV (c_isNoTown X) dX5_cheats_1 rfl mv_X5_170 (by first | exact X.1 | exact X.2.1 | exact X.2.2.2.1 | exact X.2.2.2.2.1 | exact X.2.2.2.2.2.2.1.o | exact X.2.2.2.2.2.2.1.c | exact X.2.2.2.2.2.2.1.i | exact X.2.2.2.2.2.2.1.p | exact X.2.2.2.2.2.2.1.d | exact X.2.2.2.2.2.2.2.1.o | exact X.2.2.2.2.2.2.2.2.1 | exact X.2.2.2.2.2.2.2.2.2.1 | exact X.2.2.2.2.2.2.2.2.2.2.2.1 | exact X.2.2.2.2.2.2.2.2.2.2.2.2.2.1 | exact X.2.2.2.2.2.2.2.2.2.2.2.2.2.2.1 | exact X.2.2.2.2.2.2.2.2.2.2.2.2.2.2.2) rfl ⟨(Nat.le_of_ble_eq_true rfl), (Nat.le_of_ble_eq_true rfl)⟩ ⟨(Nat.le_of_ble_eq_true rfl), (Nat.le_of_ble_eq_true rfl)⟩ (Nat.le_of_ble_eq_true rfl) ?_
  refine j_top (nI 0) (ntI_k h0 hN) ?_
  refine j_if_eq 10 dX5_cheats_4 (by decide) (fun _ => ?_) (fun h => absurd rfl h)
  refine j_iconst (nI 0) dX5_cheats_10 rfl ?_
  refine j_istore_n dX5_cheats_11 rfl (Nat.le_of_ble_eq_true rfl) rfl ?_
  refine j_iconst (nI 0) dX5_cheats_12 rfl ?_
  refine j_istore_n dX5_cheats_13 rfl (Nat.le_of_ble_eq_true rfl) rfl ?_
  skip
  suffices H : ∀ (ki i : Nat), i ≤ (sN d) → (sN d) < i + ki → J G RX5 cX5_cheats 3 (some .int) (TQ G 5 0 0 (some (.int (chI (sP d) (sD d) (sN d) (sU d) (sN d)))) z σ) z σ 0 0 14 [some (.ref 0), some (.int (chI (sP d) (sD d) (sN d) (sU d) i)), some (.int (nI i))] [] from H ((sN d) + 1) 0 (by omega) (by omega)
  intro ki
  induction ki with
  | zero => intro i h1i h2i; exact absurd h2i (by omega)
  | succ ki ih =>
    intro i h1i h2i
    have e1 : chI (sP d) (sD d) (sN d) (sU d) (i + 1) = if shd (sD d) (sN d) (sU d) i ≤ lks (sP d) (sD d) (sN d) (sU d) i then chI (sP d) (sD d) (sN d) (sU d) i else orI (chI (sP d) (sD d) (sN d) (sU d) i) i := rfl
    refine j_iload_n dX5_cheats_14 rfl rfl ?_
    refine j_aload_n dX5_cheats_15 rfl rfl ?_
    refine j_getf dX5_cheats_16 5 4 rfl (Nat.le_of_ble_eq_true rfl) fl_X5_26 in_5 (by first | exact X.1 | exact X.2.1 | exact X.2.2.2.1 | exact X.2.2.2.2.1 | exact X.2.2.2.2.2.2.1.o | exact X.2.2.2.2.2.2.1.c | exact X.2.2.2.2.2.2.1.i | exact X.2.2.2.2.2.2.1.p | exact X.2.2.2.2.2.2.1.d | exact X.2.2.2.2.2.2.2.1.o | exact X.2.2.2.2.2.2.2.2.1 | exact X.2.2.2.2.2.2.2.2.2.1 | exact X.2.2.2.2.2.2.2.2.2.2.2.1 | exact X.2.2.2.2.2.2.2.2.2.2.2.2.2.1 | exact X.2.2.2.2.2.2.2.2.2.2.2.2.2.2.1 | exact X.2.2.2.2.2.2.2.2.2.2.2.2.2.2.2) rfl ?_
    refine j_getf dX5_cheats_19 4 4 rfl (Nat.le_of_ble_eq_true rfl) fl_X5_131 in_4 (by first | exact X.1 | exact X.2.1 | exact X.2.2.2.1 | exact X.2.2.2.2.1 | exact X.2.2.2.2.2.2.1.o | exact X.2.2.2.2.2.2.1.c | exact X.2.2.2.2.2.2.1.i | exact X.2.2.2.2.2.2.1.p | exact X.2.2.2.2.2.2.1.d | exact X.2.2.2.2.2.2.2.1.o | exact X.2.2.2.2.2.2.2.2.1 | exact X.2.2.2.2.2.2.2.2.2.1 | exact X.2.2.2.2.2.2.2.2.2.2.2.1 | exact X.2.2.2.2.2.2.2.2.2.2.2.2.2.1 | exact X.2.2.2.2.2.2.2.2.2.2.2.2.2.2.1 | exact X.2.2.2.2.2.2.2.2.2.2.2.2.2.2.2) rfl ?_
    refine j_icmp_geN 56 dX5_cheats_22 (by decide) (by omega) (by omega) (fun b22 => ?_) (fun b22 => ?_)
    · obtain rfl : i = sN d := by omega
      refine j_iload_n dX5_cheats_56 rfl rfl ?_
      exact j_iret rfl dX5_cheats_57 rfl rfl (Nat.le_of_ble_eq_true rfl) (Nat.le_of_ble_eq_true rfl)
    · refine j_aload_n dX5_cheats_25 rfl rfl ?_
      refine j_getf dX5_cheats_26 5 4 rfl (Nat.le_of_ble_eq_true rfl) fl_X5_26 in_5 (by first | exact X.1 | exact X.2.1 | exact X.2.2.2.1 | exact X.2.2.2.2.1 | exact X.2.2.2.2.2.2.1.o | exact X.2.2.2.2.2.2.1.c | exact X.2.2.2.2.2.2.1.i | exact X.2.2.2.2.2.2.1.p | exact X.2.2.2.2.2.2.1.d | exact X.2.2.2.2.2.2.2.1.o | exact X.2.2.2.2.2.2.2.2.1 | exact X.2.2.2.2.2.2.2.2.2.1 | exact X.2.2.2.2.2.2.2.2.2.2.2.1 | exact X.2.2.2.2.2.2.2.2.2.2.2.2.2.1 | exact X.2.2.2.2.2.2.2.2.2.2.2.2.2.2.1 | exact X.2.2.2.2.2.2.2.2.2.2.2.2.2.2.2) rfl ?_
      refine j_iload_n dX5_cheats_29 rfl rfl ?_
      refine j_callV (c_looksOfS X.2.2.2.2.2.2.1 hN (by omega) hu hu2) dX5_cheats_30 rfl mv_X5_158 (by first | exact X.1 | exact X.2.1 | exact X.2.2.2.1 | exact X.2.2.2.2.1 | exact X.2.2.2.2.2.2.1.o | exact X.2.2.2.2.2.2.1.c | exact X.2.2.2.2.2.2.1.i | exact X.2.2.2.2.2.2.1.p | exact X.2.2.2.2.2.2.1.d | exact X.2.2.2.2.2.2.2.1.o | exact X.2.2.2.2.2.2.2.2.1 | exact X.2.2.2.2.2.2.2.2.2.1 | exact X.2.2.2.2.2.2.2.2.2.2.2.1 | exact X.2.2.2.2.2.2.2.2.2.2.2.2.2.1 | exact X.2.2.2.2.2.2.2.2.2.2.2.2.2.2.1 | exact X.2.2.2.2.2.2.2.2.2.2.2.2.2.2.2) rfl ⟨(Nat.le_of_ble_eq_true rfl), (Nat.le_of_ble_eq_true rfl)⟩ ⟨(Nat.le_of_ble_eq_true rfl), (Nat.le_of_ble_eq_true rfl)⟩ (Nat.le_of_ble_eq_true rfl) ?_
      refine j_aload_n dX5_cheats_33 rfl rfl ?_
      refine j_getf dX5_cheats_34 5 4 rfl (Nat.le_of_ble_eq_true rfl) fl_X5_26 in_5 (by first | exact X.1 | exact X.2.1 | exact X.2.2.2.1 | exact X.2.2.2.2.1 | exact X.2.2.2.2.2.2.1.o | exact X.2.2.2.2.2.2.1.c | exact X.2.2.2.2.2.2.1.i | exact X.2.2.2.2.2.2.1.p | exact X.2.2.2.2.2.2.1.d | exact X.2.2.2.2.2.2.2.1.o | exact X.2.2.2.2.2.2.2.2.1 | exact X.2.2.2.2.2.2.2.2.2.1 | exact X.2.2.2.2.2.2.2.2.2.2.2.1 | exact X.2.2.2.2.2.2.2.2.2.2.2.2.2.1 | exact X.2.2.2.2.2.2.2.2.2.2.2.2.2.2.1 | exact X.2.2.2.2.2.2.2.2.2.2.2.2.2.2.2) rfl ?_
      refine j_iload_n dX5_cheats_37 rfl rfl ?_
      refine j_callV (c_shadeOfS X.2.2.2.2.2.2.1 hN (by omega) hu hu2) dX5_cheats_38 rfl mv_X5_193 (by first | exact X.1 | exact X.2.1 | exact X.2.2.2.1 | exact X.2.2.2.2.1 | exact X.2.2.2.2.2.2.1.o | exact X.2.2.2.2.2.2.1.c | exact X.2.2.2.2.2.2.1.i | exact X.2.2.2.2.2.2.1.p | exact X.2.2.2.2.2.2.1.d | exact X.2.2.2.2.2.2.2.1.o | exact X.2.2.2.2.2.2.2.2.1 | exact X.2.2.2.2.2.2.2.2.2.1 | exact X.2.2.2.2.2.2.2.2.2.2.2.1 | exact X.2.2.2.2.2.2.2.2.2.2.2.2.2.1 | exact X.2.2.2.2.2.2.2.2.2.2.2.2.2.2.1 | exact X.2.2.2.2.2.2.2.2.2.2.2.2.2.2.2) rfl ⟨(Nat.le_of_ble_eq_true rfl), (Nat.le_of_ble_eq_true rfl)⟩ ⟨(Nat.le_of_ble_eq_true rfl), (Nat.le_of_ble_eq_true rfl)⟩ (Nat.le_of_ble_eq_true rfl) ?_
      refine j_icmp_ge 50 dX5_cheats_41 (by decide) (fun b41 => ?_) (fun b41 => ?_)
      · first | refine j_iincN dX5_cheats_50 rfl (Nat.le_of_ble_eq_true rfl) rfl ?_ | refine j_iinc _ dX5_cheats_50 rfl rfl (Nat.le_of_ble_eq_true rfl) rfl ?_
        refine j_goto 14 dX5_cheats_53 (by decide) ?_
        have ih2 := ih (i + 1) (by omega) (by omega)
        first | (rw [e1, if_pos b41] at ih2; exact ih2) | (rw [e1, if_neg b41] at ih2; exact ih2)
      · refine j_iload_n dX5_cheats_44 rfl rfl ?_
        refine j_iconst (nI 1) dX5_cheats_45 rfl ?_
        refine j_iload_n dX5_cheats_46 rfl rfl ?_
        refine j_ishl dX5_cheats_47 ?_
        refine j_ior dX5_cheats_48 ?_
        refine j_istore_n dX5_cheats_49 rfl (Nat.le_of_ble_eq_true rfl) rfl ?_
        first | refine j_iincN dX5_cheats_50 rfl (Nat.le_of_ble_eq_true rfl) rfl ?_ | refine j_iinc _ dX5_cheats_50 rfl rfl (Nat.le_of_ble_eq_true rfl) rfl ?_
        refine j_goto 14 dX5_cheats_53 (by decide) ?_
        have ih2 := ih (i + 1) (by omega) (by omega)
        first | (rw [e1, if_pos b41] at ih2; exact ih2) | (rw [e1, if_neg b41] at ih2; exact ih2)
theorem x_walk_bad (X : XR σ lf fd rl rn ri tp rd dd d df nx kp da di tr bo ne) (a b : Int32) (h : ¬ npI a (sN d) = 0 ∨ ¬ npI b (sN d) = 0 ∨ b < a) : Ct G yX5_walk cX5_walk 6 (some .int) 5 0 0 z σ [.ref 0, .int a, .int b] (some (.int (-1000001))) z σ := by
  refine Ct.ofJ RX5 rfl [some (.ref 0), some (.int a), some (.int b), none, none, none] rfl (by decide) (by simp [Value.category]) ?_
  refine j_aload_n dX5_walk_0 rfl rfl ?_
  refine j_iload_n dX5_walk_1 rfl rfl ?_
  refine j_callV (c_isNoPerson X a) dX5_walk_2 rfl mv_X5_155 (by first | exact X.1 | exact X.2.1 | exact X.2.2.2.1 | exact X.2.2.2.2.1 | exact X.2.2.2.2.2.2.1.o | exact X.2.2.2.2.2.2.1.c | exact X.2.2.2.2.2.2.1.i | exact X.2.2.2.2.2.2.1.p | exact X.2.2.2.2.2.2.1.d | exact X.2.2.2.2.2.2.2.1.o | exact X.2.2.2.2.2.2.2.2.1 | exact X.2.2.2.2.2.2.2.2.2.1 | exact X.2.2.2.2.2.2.2.2.2.2.2.1 | exact X.2.2.2.2.2.2.2.2.2.2.2.2.2.1 | exact X.2.2.2.2.2.2.2.2.2.2.2.2.2.2.1 | exact X.2.2.2.2.2.2.2.2.2.2.2.2.2.2.2) rfl ⟨(Nat.le_of_ble_eq_true rfl), (Nat.le_of_ble_eq_true rfl)⟩ ⟨(Nat.le_of_ble_eq_true rfl), (Nat.le_of_ble_eq_true rfl)⟩ (Nat.le_of_ble_eq_true rfl) ?_
  refine j_if_ne 21 dX5_walk_5 (by decide) (fun b5 => ?_) (fun b5 => ?_)
  · refine j_ldc (-1000001) dX5_walk_21 kc_X5_59 ?_
    exact j_iret rfl dX5_walk_23 rfl rfl (Nat.le_of_ble_eq_true rfl) (Nat.le_of_ble_eq_true rfl)
  · refine j_aload_n dX5_walk_8 rfl rfl ?_
    refine j_iload_n dX5_walk_9 rfl rfl ?_
    refine j_callV (c_isNoPerson X b) dX5_walk_10 rfl mv_X5_155 (by first | exact X.1 | exact X.2.1 | exact X.2.2.2.1 | exact X.2.2.2.2.1 | exact X.2.2.2.2.2.2.1.o | exact X.2.2.2.2.2.2.1.c | exact X.2.2.2.2.2.2.1.i | exact X.2.2.2.2.2.2.1.p | exact X.2.2.2.2.2.2.1.d | exact X.2.2.2.2.2.2.2.1.o | exact X.2.2.2.2.2.2.2.2.1 | exact X.2.2.2.2.2.2.2.2.2.1 | exact X.2.2.2.2.2.2.2.2.2.2.2.1 | exact X.2.2.2.2.2.2.2.2.2.2.2.2.2.1 | exact X.2.2.2.2.2.2.2.2.2.2.2.2.2.2.1 | exact X.2.2.2.2.2.2.2.2.2.2.2.2.2.2.2) rfl ⟨(Nat.le_of_ble_eq_true rfl), (Nat.le_of_ble_eq_true rfl)⟩ ⟨(Nat.le_of_ble_eq_true rfl), (Nat.le_of_ble_eq_true rfl)⟩ (Nat.le_of_ble_eq_true rfl) ?_
    refine j_if_ne 21 dX5_walk_13 (by decide) (fun b13 => ?_) (fun b13 => ?_)
    · refine j_ldc (-1000001) dX5_walk_21 kc_X5_59 ?_
      exact j_iret rfl dX5_walk_23 rfl rfl (Nat.le_of_ble_eq_true rfl) (Nat.le_of_ble_eq_true rfl)
    · refine j_iload_n dX5_walk_16 rfl rfl ?_
      refine j_iload_n dX5_walk_17 rfl rfl ?_
      refine j_icmp_le 24 dX5_walk_18 (by decide) (fun b18 => ?_) (fun b18 => ?_)
      · exfalso
        rcases h with h | h | h
        · exact h b5
        · exact h b13
        · exact absurd b18 (Int32.not_le.mpr h)
      · refine j_ldc (-1000001) dX5_walk_21 kc_X5_59 ?_
        exact j_iret rfl dX5_walk_23 rfl rfl (Nat.le_of_ble_eq_true rfl) (Nat.le_of_ble_eq_true rfl)
theorem x_walk_ok (X : XR σ lf fd rl rn ri tp rd dd d df nx kp da di tr bo ne) {p q : Nat} (hN : sN d ≤ 7) (hpq : p ≤ q) (hq : q < sN d) (hu : 1 ≤ sU d) (hu2 : sU d ≤ 20) : Ct G yX5_walk cX5_walk 6 (some .int) 5 0 0 z σ [.ref 0, .int (nI p), .int (nI q)] (some (.int (wlk (sP d) (sD d) (sH d) (sN d) (sU d) p (q + 1 - p)).1)) z σ := by
  refine Ct.ofJ RX5 rfl [some (.ref 0), some (.int (nI p)), some (.int (nI q)), none, none, none] rfl (by decide) (by simp [Value.category]) ?_
  refine j_aload_n dX5_walk_0 rfl rfl ?_
  refine j_iload_n dX5_walk_1 rfl rfl ?_
  refine j_callV (c_isNoPerson X (nI p)) dX5_walk_2 rfl mv_X5_155 (by first | exact X.1 | exact X.2.1 | exact X.2.2.2.1 | exact X.2.2.2.2.1 | exact X.2.2.2.2.2.2.1.o | exact X.2.2.2.2.2.2.1.c | exact X.2.2.2.2.2.2.1.i | exact X.2.2.2.2.2.2.1.p | exact X.2.2.2.2.2.2.1.d | exact X.2.2.2.2.2.2.2.1.o | exact X.2.2.2.2.2.2.2.2.1 | exact X.2.2.2.2.2.2.2.2.2.1 | exact X.2.2.2.2.2.2.2.2.2.2.2.1 | exact X.2.2.2.2.2.2.2.2.2.2.2.2.2.1 | exact X.2.2.2.2.2.2.2.2.2.2.2.2.2.2.1 | exact X.2.2.2.2.2.2.2.2.2.2.2.2.2.2.2) rfl ⟨(Nat.le_of_ble_eq_true rfl), (Nat.le_of_ble_eq_true rfl)⟩ ⟨(Nat.le_of_ble_eq_true rfl), (Nat.le_of_ble_eq_true rfl)⟩ (Nat.le_of_ble_eq_true rfl) ?_
  refine j_top (nI 0) (npI_k (by omega) hN) ?_
  refine j_if_ne 21 dX5_walk_5 (by decide) (fun h => absurd rfl h) (fun _ => ?_)
  refine j_aload_n dX5_walk_8 rfl rfl ?_
  refine j_iload_n dX5_walk_9 rfl rfl ?_
  refine j_callV (c_isNoPerson X (nI q)) dX5_walk_10 rfl mv_X5_155 (by first | exact X.1 | exact X.2.1 | exact X.2.2.2.1 | exact X.2.2.2.2.1 | exact X.2.2.2.2.2.2.1.o | exact X.2.2.2.2.2.2.1.c | exact X.2.2.2.2.2.2.1.i | exact X.2.2.2.2.2.2.1.p | exact X.2.2.2.2.2.2.1.d | exact X.2.2.2.2.2.2.2.1.o | exact X.2.2.2.2.2.2.2.2.1 | exact X.2.2.2.2.2.2.2.2.2.1 | exact X.2.2.2.2.2.2.2.2.2.2.2.1 | exact X.2.2.2.2.2.2.2.2.2.2.2.2.2.1 | exact X.2.2.2.2.2.2.2.2.2.2.2.2.2.2.1 | exact X.2.2.2.2.2.2.2.2.2.2.2.2.2.2.2) rfl ⟨(Nat.le_of_ble_eq_true rfl), (Nat.le_of_ble_eq_true rfl)⟩ ⟨(Nat.le_of_ble_eq_true rfl), (Nat.le_of_ble_eq_true rfl)⟩ (Nat.le_of_ble_eq_true rfl) ?_
  refine j_top (nI 0) (npI_k hq hN) ?_
  refine j_if_ne 21 dX5_walk_13 (by decide) (fun h => absurd rfl h) (fun _ => ?_)
  refine j_iload_n dX5_walk_16 rfl rfl ?_
  refine j_iload_n dX5_walk_17 rfl rfl ?_
  refine j_icmp_leN 24 dX5_walk_18 (by decide) (by omega) (by omega) (fun b18 => ?_) (fun b18 => by exfalso; omega)
  refine j_ldc (-1000000) dX5_walk_24 kc_X5_220 ?_
  refine j_istore_n dX5_walk_26 rfl (Nat.le_of_ble_eq_true rfl) rfl ?_
  refine j_bipush (nI 10) dX5_walk_27 rfl ?_
  refine j_istore dX5_walk_29 (Nat.le_of_ble_eq_true rfl) rfl ?_
  refine j_iload_n dX5_walk_31 rfl rfl ?_
  refine j_istore dX5_walk_32 (Nat.le_of_ble_eq_true rfl) rfl ?_
  skip
  suffices H : ∀ (ki i : Nat), i ≤ (q+1-p) → (q+1-p) < i + ki → J G RX5 cX5_walk 6 (some .int) (TQ G 5 0 0 (some (.int (wlk (sP d) (sD d) (sH d) (sN d) (sU d) p (q + 1 - p)).1)) z σ) z σ 0 0 34 [some (.ref 0), some (.int (nI p)), some (.int (nI q)), some (.int (wlk (sP d) (sD d) (sH d) (sN d) (sU d) p i).1), some (.int (wlk (sP d) (sD d) (sH d) (sN d) (sU d) p i).2), some (.int (nI (p + i)))] [] from H ((q+1-p) + 1) 0 (by omega) (by omega)
  intro ki
  induction ki with
  | zero => intro i h1i h2i; exact absurd h2i (by omega)
  | succ ki ih =>
    intro i h1i h2i
    have e1 : wlk (sP d) (sD d) (sH d) (sN d) (sU d) p (i + 1) = if bitI (sH d) (nI (p + i)) = 0 ∧ lks (sP d) (sD d) (sN d) (sU d) (p + i) < (wlk (sP d) (sD d) (sH d) (sN d) (sU d) p i).2 then (nI (p + i), lks (sP d) (sD d) (sN d) (sU d) (p + i)) else wlk (sP d) (sD d) (sH d) (sN d) (sU d) p i := rfl
    refine j_iload dX5_walk_34 rfl ?_
    refine j_iload_n dX5_walk_36 rfl rfl ?_
    refine j_icmp_gtN 89 dX5_walk_37 (by decide) (by omega) (by omega) (fun b37 => ?_) (fun b37 => ?_)
    · obtain rfl : i = q + 1 - p := by omega
      refine j_iload_n dX5_walk_89 rfl rfl ?_
      exact j_iret rfl dX5_walk_90 rfl rfl (Nat.le_of_ble_eq_true rfl) (Nat.le_of_ble_eq_true rfl)
    · refine j_aload_n dX5_walk_40 rfl rfl ?_
      refine j_getf dX5_walk_41 5 4 rfl (Nat.le_of_ble_eq_true rfl) fl_X5_26 in_5 (by first | exact X.1 | exact X.2.1 | exact X.2.2.2.1 | exact X.2.2.2.2.1 | exact X.2.2.2.2.2.2.1.o | exact X.2.2.2.2.2.2.1.c | exact X.2.2.2.2.2.2.1.i | exact X.2.2.2.2.2.2.1.p | exact X.2.2.2.2.2.2.1.d | exact X.2.2.2.2.2.2.2.1.o | exact X.2.2.2.2.2.2.2.2.1 | exact X.2.2.2.2.2.2.2.2.2.1 | exact X.2.2.2.2.2.2.2.2.2.2.2.1 | exact X.2.2.2.2.2.2.2.2.2.2.2.2.2.1 | exact X.2.2.2.2.2.2.2.2.2.2.2.2.2.2.1 | exact X.2.2.2.2.2.2.2.2.2.2.2.2.2.2.2) rfl ?_
      refine j_getf dX5_walk_44 4 8 rfl (Nat.le_of_ble_eq_true rfl) fl_X5_164 in_4 (by first | exact X.1 | exact X.2.1 | exact X.2.2.2.1 | exact X.2.2.2.2.1 | exact X.2.2.2.2.2.2.1.o | exact X.2.2.2.2.2.2.1.c | exact X.2.2.2.2.2.2.1.i | exact X.2.2.2.2.2.2.1.p | exact X.2.2.2.2.2.2.1.d | exact X.2.2.2.2.2.2.2.1.o | exact X.2.2.2.2.2.2.2.2.1 | exact X.2.2.2.2.2.2.2.2.2.1 | exact X.2.2.2.2.2.2.2.2.2.2.2.1 | exact X.2.2.2.2.2.2.2.2.2.2.2.2.2.1 | exact X.2.2.2.2.2.2.2.2.2.2.2.2.2.2.1 | exact X.2.2.2.2.2.2.2.2.2.2.2.2.2.2.2) rfl ?_
      refine j_iload dX5_walk_47 rfl ?_
      refine j_callS (c_bitOf G z _ (sH d) (nI (p + i))) dX5_walk_49 rfl ms_X5_167 ⟨(Nat.le_of_ble_eq_true rfl), (Nat.le_of_ble_eq_true rfl)⟩ ⟨(Nat.le_of_ble_eq_true rfl), (Nat.le_of_ble_eq_true rfl)⟩ (Nat.le_of_ble_eq_true rfl) ?_
      refine j_if_ne 83 dX5_walk_52 (by decide) (fun b52 => ?_) (fun b52 => ?_)
      · first | refine j_iincN dX5_walk_83 rfl (Nat.le_of_ble_eq_true rfl) rfl ?_ | refine j_iinc _ dX5_walk_83 rfl rfl (Nat.le_of_ble_eq_true rfl) rfl ?_
        refine j_goto 34 dX5_walk_86 (by decide) ?_
        have ih2 := ih (i + 1) (by omega) (by omega)
        first | (rw [e1, if_neg (fun w => b52 w.1)] at ih2; exact ih2) | (rw [e1, if_neg (fun w => absurd w.2 (Int32.not_lt.mpr b66))] at ih2; exact ih2) | (rw [e1, if_pos ⟨b52, Int32.not_le.mp b66⟩] at ih2; exact ih2)
      · refine j_aload_n dX5_walk_55 rfl rfl ?_
        refine j_getf dX5_walk_56 5 4 rfl (Nat.le_of_ble_eq_true rfl) fl_X5_26 in_5 (by first | exact X.1 | exact X.2.1 | exact X.2.2.2.1 | exact X.2.2.2.2.1 | exact X.2.2.2.2.2.2.1.o | exact X.2.2.2.2.2.2.1.c | exact X.2.2.2.2.2.2.1.i | exact X.2.2.2.2.2.2.1.p | exact X.2.2.2.2.2.2.1.d | exact X.2.2.2.2.2.2.2.1.o | exact X.2.2.2.2.2.2.2.2.1 | exact X.2.2.2.2.2.2.2.2.2.1 | exact X.2.2.2.2.2.2.2.2.2.2.2.1 | exact X.2.2.2.2.2.2.2.2.2.2.2.2.2.1 | exact X.2.2.2.2.2.2.2.2.2.2.2.2.2.2.1 | exact X.2.2.2.2.2.2.2.2.2.2.2.2.2.2.2) rfl ?_
        refine j_iload dX5_walk_59 rfl ?_
        refine j_callV (c_looksOfS X.2.2.2.2.2.2.1 hN (by omega) hu hu2) dX5_walk_61 rfl mv_X5_158 (by first | exact X.1 | exact X.2.1 | exact X.2.2.2.1 | exact X.2.2.2.2.1 | exact X.2.2.2.2.2.2.1.o | exact X.2.2.2.2.2.2.1.c | exact X.2.2.2.2.2.2.1.i | exact X.2.2.2.2.2.2.1.p | exact X.2.2.2.2.2.2.1.d | exact X.2.2.2.2.2.2.2.1.o | exact X.2.2.2.2.2.2.2.2.1 | exact X.2.2.2.2.2.2.2.2.2.1 | exact X.2.2.2.2.2.2.2.2.2.2.2.1 | exact X.2.2.2.2.2.2.2.2.2.2.2.2.2.1 | exact X.2.2.2.2.2.2.2.2.2.2.2.2.2.2.1 | exact X.2.2.2.2.2.2.2.2.2.2.2.2.2.2.2) rfl ⟨(Nat.le_of_ble_eq_true rfl), (Nat.le_of_ble_eq_true rfl)⟩ ⟨(Nat.le_of_ble_eq_true rfl), (Nat.le_of_ble_eq_true rfl)⟩ (Nat.le_of_ble_eq_true rfl) ?_
        refine j_iload dX5_walk_64 rfl ?_
        refine j_icmp_ge 83 dX5_walk_66 (by decide) (fun b66 => ?_) (fun b66 => ?_)
        · first | refine j_iincN dX5_walk_83 rfl (Nat.le_of_ble_eq_true rfl) rfl ?_ | refine j_iinc _ dX5_walk_83 rfl rfl (Nat.le_of_ble_eq_true rfl) rfl ?_
          refine j_goto 34 dX5_walk_86 (by decide) ?_
          have ih2 := ih (i + 1) (by omega) (by omega)
          first | (rw [e1, if_neg (fun w => b52 w.1)] at ih2; exact ih2) | (rw [e1, if_neg (fun w => absurd w.2 (Int32.not_lt.mpr b66))] at ih2; exact ih2) | (rw [e1, if_pos ⟨b52, Int32.not_le.mp b66⟩] at ih2; exact ih2)
        · refine j_aload_n dX5_walk_69 rfl rfl ?_
          refine j_getf dX5_walk_70 5 4 rfl (Nat.le_of_ble_eq_true rfl) fl_X5_26 in_5 (by first | exact X.1 | exact X.2.1 | exact X.2.2.2.1 | exact X.2.2.2.2.1 | exact X.2.2.2.2.2.2.1.o | exact X.2.2.2.2.2.2.1.c | exact X.2.2.2.2.2.2.1.i | exact X.2.2.2.2.2.2.1.p | exact X.2.2.2.2.2.2.1.d | exact X.2.2.2.2.2.2.2.1.o | exact X.2.2.2.2.2.2.2.2.1 | exact X.2.2.2.2.2.2.2.2.2.1 | exact X.2.2.2.2.2.2.2.2.2.2.2.1 | exact X.2.2.2.2.2.2.2.2.2.2.2.2.2.1 | exact X.2.2.2.2.2.2.2.2.2.2.2.2.2.2.1 | exact X.2.2.2.2.2.2.2.2.2.2.2.2.2.2.2) rfl ?_
          refine j_iload dX5_walk_73 rfl ?_
          refine j_callV (c_looksOfS X.2.2.2.2.2.2.1 hN (by omega) hu hu2) dX5_walk_75 rfl mv_X5_158 (by first | exact X.1 | exact X.2.1 | exact X.2.2.2.1 | exact X.2.2.2.2.1 | exact X.2.2.2.2.2.2.1.o | exact X.2.2.2.2.2.2.1.c | exact X.2.2.2.2.2.2.1.i | exact X.2.2.2.2.2.2.1.p | exact X.2.2.2.2.2.2.1.d | exact X.2.2.2.2.2.2.2.1.o | exact X.2.2.2.2.2.2.2.2.1 | exact X.2.2.2.2.2.2.2.2.2.1 | exact X.2.2.2.2.2.2.2.2.2.2.2.1 | exact X.2.2.2.2.2.2.2.2.2.2.2.2.2.1 | exact X.2.2.2.2.2.2.2.2.2.2.2.2.2.2.1 | exact X.2.2.2.2.2.2.2.2.2.2.2.2.2.2.2) rfl ⟨(Nat.le_of_ble_eq_true rfl), (Nat.le_of_ble_eq_true rfl)⟩ ⟨(Nat.le_of_ble_eq_true rfl), (Nat.le_of_ble_eq_true rfl)⟩ (Nat.le_of_ble_eq_true rfl) ?_
          refine j_istore dX5_walk_78 (Nat.le_of_ble_eq_true rfl) rfl ?_
          refine j_iload dX5_walk_80 rfl ?_
          refine j_istore_n dX5_walk_82 rfl (Nat.le_of_ble_eq_true rfl) rfl ?_
          first | refine j_iincN dX5_walk_83 rfl (Nat.le_of_ble_eq_true rfl) rfl ?_ | refine j_iinc _ dX5_walk_83 rfl rfl (Nat.le_of_ble_eq_true rfl) rfl ?_
          refine j_goto 34 dX5_walk_86 (by decide) ?_
          have ih2 := ih (i + 1) (by omega) (by omega)
          first | (rw [e1, if_neg (fun w => b52 w.1)] at ih2; exact ih2) | (rw [e1, if_neg (fun w => absurd w.2 (Int32.not_lt.mpr b66))] at ih2; exact ih2) | (rw [e1, if_pos ⟨b52, Int32.not_le.mp b66⟩] at ih2; exact ih2)
end O4
end
section
/-! THE CLASS's calls: needs, clear, coin, hiding, run, feed -/
theorem ups_self {σ : AH} {a : Nat} {e : AE} (h : σ a = some e) : ups σ a e = σ := by
  funext k
  unfold ups
  by_cases hk : k = a
  · subst hk; rw [if_pos rfl, h]
  · rw [if_neg hk]
def insL (v : Int32) : Nat → (Nat → Int32) → (Nat → Int32) × Nat
  | 0, ne => (ne, 0)
  | a + 1, ne => if ne a ≤ v then (ne, a + 1) else insL v a (upd ne (a + 1) (ne a))
def needI (de : Nat → Int32) (N u p : Nat) : Int32 := dsum de N p - (shd de N u p * nI u - nI 1)
def gat (de : Nat → Int32) (N u : Nat) (ne : Nat → Int32) : Nat → (Nat → Int32) × Nat
  | 0 => (ne, 0)
  | p + 1 => if shd de N u p < nI 1 then gat de N u ne p else (upd (insL (needI de N u p) (gat de N u ne p).2 (gat de N u ne p).1).1 (insL (needI de N u p) (gat de N u ne p).2 (gat de N u ne p).1).2 (needI de N u p), (gat de N u ne p).2 + 1)
theorem gat_le (de : Nat → Int32) (N u : Nat) (ne : Nat → Int32) : ∀ p, (gat de N u ne p).2 ≤ p
  | 0 => Nat.le_refl 0
  | p + 1 => by
    have h := gat_le de N u ne p
    unfold gat
    split
    · omega
    · show _ + 1 ≤ p + 1; omega
theorem insL_le (v : Int32) : ∀ (a : Nat) (ne : Nat → Int32), (insL v a ne).2 ≤ a
  | 0, ne => Nat.le_refl 0
  | a + 1, ne => by
    unfold insL
    split
    · exact Nat.le_refl _
    · exact Nat.le_succ_of_le (insL_le v a _)
def fstN (P : Nat → Bool) : Nat → Nat → Nat
  | 0, k => k
  | n + 1, k => if P k = true then k else fstN P n (k + 1)
def lft (c : Int32) (ne : Nat → Int32) : Nat → Int32
  | 0 => c
  | k + 1 => lft c ne k - ne k
def plI (de de2 : Nat → Int32) (N u : Nat) : Nat → Int32
  | 0 => nI 0
  | p + 1 => if shd de N u p ≤ shd de2 N u p then plI de de2 N u p else orI (plI de de2 N u p) p
/-- a run: cash, debts, CALLED, new, owing, rounds -/
def rnL (N : Nat) : Nat → (Nat → Int32) → (Nat → Int32) → Int32 → Int32 → Int32 → Nat → (Nat → Int32) × (Nat → Int32) × Int32 × Int32 × Nat
  | 0, ca, de, cl, _, ow, r => (ca, de, cl, ow, r)
  | f + 1, ca, de, cl, nw, ow, r => if nw = 0 then (ca, de, cl, ow, r) else if 7 < r then (ca, de, cl, ow, r) else
      rnL N f (stA N cl ca de N).1 (stA N cl ca de N).2.1 (cl ||| (lendA (stA N cl ca de N).2.1 (stA N cl ca de N).2.2 N N &&& (cl ^^^ (-1)))) (lendA (stA N cl ca de N).2.1 (stA N cl ca de N).2.2 N N &&& (cl ^^^ (-1))) (stA N cl ca de N).2.2 (r + 1)
theorem dX5_gatherNeeds_0 : decode cX5_gatherNeeds 0 = .ok (.iconst 0, 1) := by decide +kernel
theorem dX5_gatherNeeds_1 : decode cX5_gatherNeeds 1 = .ok (.istore_n 1, 1) := by decide +kernel
theorem dX5_gatherNeeds_2 : decode cX5_gatherNeeds 2 = .ok (.iconst 0, 1) := by decide +kernel
theorem dX5_gatherNeeds_3 : decode cX5_gatherNeeds 3 = .ok (.istore_n 2, 1) := by decide +kernel
theorem dX5_gatherNeeds_4 : decode cX5_gatherNeeds 4 = .ok (.iload_n 2, 1) := by decide +kernel
theorem dX5_gatherNeeds_5 : decode cX5_gatherNeeds 5 = .ok (.aload_n 0, 1) := by decide +kernel
theorem dX5_gatherNeeds_6 : decode cX5_gatherNeeds 6 = .ok (.getfield 26, 3) := by decide +kernel
theorem dX5_gatherNeeds_9 : decode cX5_gatherNeeds 9 = .ok (.getfield 131, 3) := by decide +kernel
theorem dX5_gatherNeeds_12 : decode cX5_gatherNeeds 12 = .ok (.if_icmp .ge 101, 3) := by decide +kernel
theorem dX5_gatherNeeds_15 : decode cX5_gatherNeeds 15 = .ok (.aload_n 0, 1) := by decide +kernel
theorem dX5_gatherNeeds_16 : decode cX5_gatherNeeds 16 = .ok (.getfield 26, 3) := by decide +kernel
theorem dX5_gatherNeeds_19 : decode cX5_gatherNeeds 19 = .ok (.iload_n 2, 1) := by decide +kernel
theorem dX5_gatherNeeds_20 : decode cX5_gatherNeeds 20 = .ok (.invokevirtual 193, 3) := by decide +kernel
theorem dX5_gatherNeeds_23 : decode cX5_gatherNeeds 23 = .ok (.istore_n 3, 1) := by decide +kernel
theorem dX5_gatherNeeds_24 : decode cX5_gatherNeeds 24 = .ok (.iload_n 3, 1) := by decide +kernel
theorem dX5_gatherNeeds_25 : decode cX5_gatherNeeds 25 = .ok (.iconst 1, 1) := by decide +kernel
theorem dX5_gatherNeeds_26 : decode cX5_gatherNeeds 26 = .ok (.if_icmp .lt 81, 3) := by decide +kernel
theorem dX5_gatherNeeds_29 : decode cX5_gatherNeeds 29 = .ok (.aload_n 0, 1) := by decide +kernel
theorem dX5_gatherNeeds_30 : decode cX5_gatherNeeds 30 = .ok (.getfield 26, 3) := by decide +kernel
theorem dX5_gatherNeeds_33 : decode cX5_gatherNeeds 33 = .ok (.iload_n 2, 1) := by decide +kernel
theorem dX5_gatherNeeds_34 : decode cX5_gatherNeeds 34 = .ok (.invokevirtual 190, 3) := by decide +kernel
theorem dX5_gatherNeeds_37 : decode cX5_gatherNeeds 37 = .ok (.iload_n 3, 1) := by decide +kernel
theorem dX5_gatherNeeds_38 : decode cX5_gatherNeeds 38 = .ok (.aload_n 0, 1) := by decide +kernel
theorem dX5_gatherNeeds_39 : decode cX5_gatherNeeds 39 = .ok (.getfield 26, 3) := by decide +kernel
theorem dX5_gatherNeeds_42 : decode cX5_gatherNeeds 42 = .ok (.getfield 262, 3) := by decide +kernel
theorem dX5_gatherNeeds_45 : decode cX5_gatherNeeds 45 = .ok (.imul, 1) := by decide +kernel
theorem dX5_gatherNeeds_46 : decode cX5_gatherNeeds 46 = .ok (.iconst 1, 1) := by decide +kernel
theorem dX5_gatherNeeds_47 : decode cX5_gatherNeeds 47 = .ok (.isub, 1) := by decide +kernel
theorem dX5_gatherNeeds_48 : decode cX5_gatherNeeds 48 = .ok (.isub, 1) := by decide +kernel
theorem dX5_gatherNeeds_49 : decode cX5_gatherNeeds 49 = .ok (.istore 4, 2) := by decide +kernel
theorem dX5_gatherNeeds_51 : decode cX5_gatherNeeds 51 = .ok (.iload_n 1, 1) := by decide +kernel
theorem dX5_gatherNeeds_52 : decode cX5_gatherNeeds 52 = .ok (.istore 5, 2) := by decide +kernel
theorem dX5_gatherNeeds_54 : decode cX5_gatherNeeds 54 = .ok (.iload 5, 2) := by decide +kernel
theorem dX5_gatherNeeds_56 : decode cX5_gatherNeeds 56 = .ok (.ifCond .le 39, 3) := by decide +kernel
theorem dX5_gatherNeeds_59 : decode cX5_gatherNeeds 59 = .ok (.aload_n 0, 1) := by decide +kernel
theorem dX5_gatherNeeds_60 : decode cX5_gatherNeeds 60 = .ok (.getfield 51, 3) := by decide +kernel
theorem dX5_gatherNeeds_63 : decode cX5_gatherNeeds 63 = .ok (.iload 5, 2) := by decide +kernel
theorem dX5_gatherNeeds_65 : decode cX5_gatherNeeds 65 = .ok (.iconst 1, 1) := by decide +kernel
theorem dX5_gatherNeeds_66 : decode cX5_gatherNeeds 66 = .ok (.isub, 1) := by decide +kernel
theorem dX5_gatherNeeds_67 : decode cX5_gatherNeeds 67 = .ok (.iaload, 1) := by decide +kernel
theorem dX5_gatherNeeds_68 : decode cX5_gatherNeeds 68 = .ok (.iload 4, 2) := by decide +kernel
theorem dX5_gatherNeeds_70 : decode cX5_gatherNeeds 70 = .ok (.if_icmp .le 25, 3) := by decide +kernel
theorem dX5_gatherNeeds_73 : decode cX5_gatherNeeds 73 = .ok (.aload_n 0, 1) := by decide +kernel
theorem dX5_gatherNeeds_74 : decode cX5_gatherNeeds 74 = .ok (.getfield 51, 3) := by decide +kernel
theorem dX5_gatherNeeds_77 : decode cX5_gatherNeeds 77 = .ok (.iload 5, 2) := by decide +kernel
theorem dX5_gatherNeeds_79 : decode cX5_gatherNeeds 79 = .ok (.aload_n 0, 1) := by decide +kernel
theorem dX5_gatherNeeds_80 : decode cX5_gatherNeeds 80 = .ok (.getfield 51, 3) := by decide +kernel
theorem dX5_gatherNeeds_83 : decode cX5_gatherNeeds 83 = .ok (.iload 5, 2) := by decide +kernel
theorem dX5_gatherNeeds_85 : decode cX5_gatherNeeds 85 = .ok (.iconst 1, 1) := by decide +kernel
theorem dX5_gatherNeeds_86 : decode cX5_gatherNeeds 86 = .ok (.isub, 1) := by decide +kernel
theorem dX5_gatherNeeds_87 : decode cX5_gatherNeeds 87 = .ok (.iaload, 1) := by decide +kernel
theorem dX5_gatherNeeds_88 : decode cX5_gatherNeeds 88 = .ok (.iastore, 1) := by decide +kernel
theorem dX5_gatherNeeds_89 : decode cX5_gatherNeeds 89 = .ok (.iinc 5 (-1), 3) := by decide +kernel
theorem dX5_gatherNeeds_92 : decode cX5_gatherNeeds 92 = .ok (.goto (-38), 3) := by decide +kernel
theorem dX5_gatherNeeds_95 : decode cX5_gatherNeeds 95 = .ok (.aload_n 0, 1) := by decide +kernel
theorem dX5_gatherNeeds_96 : decode cX5_gatherNeeds 96 = .ok (.getfield 51, 3) := by decide +kernel
theorem dX5_gatherNeeds_99 : decode cX5_gatherNeeds 99 = .ok (.iload 5, 2) := by decide +kernel
theorem dX5_gatherNeeds_101 : decode cX5_gatherNeeds 101 = .ok (.iload 4, 2) := by decide +kernel
theorem dX5_gatherNeeds_103 : decode cX5_gatherNeeds 103 = .ok (.iastore, 1) := by decide +kernel
theorem dX5_gatherNeeds_104 : decode cX5_gatherNeeds 104 = .ok (.iinc 1 1, 3) := by decide +kernel
theorem dX5_gatherNeeds_107 : decode cX5_gatherNeeds 107 = .ok (.iinc 2 1, 3) := by decide +kernel
theorem dX5_gatherNeeds_110 : decode cX5_gatherNeeds 110 = .ok (.goto (-106), 3) := by decide +kernel
theorem dX5_gatherNeeds_113 : decode cX5_gatherNeeds 113 = .ok (.iload_n 1, 1) := by decide +kernel
theorem dX5_gatherNeeds_114 : decode cX5_gatherNeeds 114 = .ok (.ireturn, 1) := by decide +kernel
theorem dX5_clear_0 : decode cX5_clear 0 = .ok (.aload_n 0, 1) := by decide +kernel
theorem dX5_clear_1 : decode cX5_clear 1 = .ok (.invokevirtual 170, 3) := by decide +kernel
theorem dX5_clear_4 : decode cX5_clear 4 = .ok (.ifCond .eq 6, 3) := by decide +kernel
theorem dX5_clear_7 : decode cX5_clear 7 = .ok (.ldc 140, 2) := by decide +kernel
theorem dX5_clear_9 : decode cX5_clear 9 = .ok (.ireturn, 1) := by decide +kernel
theorem dX5_clear_10 : decode cX5_clear 10 = .ok (.iload_n 1, 1) := by decide +kernel
theorem dX5_clear_11 : decode cX5_clear 11 = .ok (.ifCond .lt 9, 3) := by decide +kernel
theorem dX5_clear_14 : decode cX5_clear 14 = .ok (.iload_n 1, 1) := by decide +kernel
theorem dX5_clear_15 : decode cX5_clear 15 = .ok (.ldc 173, 2) := by decide +kernel
theorem dX5_clear_17 : decode cX5_clear 17 = .ok (.if_icmp .le 6, 3) := by decide +kernel
theorem dX5_clear_20 : decode cX5_clear 20 = .ok (.ldc 59, 2) := by decide +kernel
theorem dX5_clear_22 : decode cX5_clear 22 = .ok (.ireturn, 1) := by decide +kernel
theorem dX5_clear_23 : decode cX5_clear 23 = .ok (.aload_n 0, 1) := by decide +kernel
theorem dX5_clear_24 : decode cX5_clear 24 = .ok (.invokevirtual 217, 3) := by decide +kernel
theorem dX5_clear_27 : decode cX5_clear 27 = .ok (.istore_n 2, 1) := by decide +kernel
theorem dX5_clear_28 : decode cX5_clear 28 = .ok (.iload_n 1, 1) := by decide +kernel
theorem dX5_clear_29 : decode cX5_clear 29 = .ok (.istore_n 3, 1) := by decide +kernel
theorem dX5_clear_30 : decode cX5_clear 30 = .ok (.iconst 0, 1) := by decide +kernel
theorem dX5_clear_31 : decode cX5_clear 31 = .ok (.istore 4, 2) := by decide +kernel
theorem dX5_clear_33 : decode cX5_clear 33 = .ok (.iload 4, 2) := by decide +kernel
theorem dX5_clear_35 : decode cX5_clear 35 = .ok (.iload_n 2, 1) := by decide +kernel
theorem dX5_clear_36 : decode cX5_clear 36 = .ok (.if_icmp .ge 33, 3) := by decide +kernel
theorem dX5_clear_39 : decode cX5_clear 39 = .ok (.aload_n 0, 1) := by decide +kernel
theorem dX5_clear_40 : decode cX5_clear 40 = .ok (.getfield 51, 3) := by decide +kernel
theorem dX5_clear_43 : decode cX5_clear 43 = .ok (.iload 4, 2) := by decide +kernel
theorem dX5_clear_45 : decode cX5_clear 45 = .ok (.iaload, 1) := by decide +kernel
theorem dX5_clear_46 : decode cX5_clear 46 = .ok (.iload_n 3, 1) := by decide +kernel
theorem dX5_clear_47 : decode cX5_clear 47 = .ok (.if_icmp .le 6, 3) := by decide +kernel
theorem dX5_clear_50 : decode cX5_clear 50 = .ok (.iload 4, 2) := by decide +kernel
theorem dX5_clear_52 : decode cX5_clear 52 = .ok (.ireturn, 1) := by decide +kernel
theorem dX5_clear_53 : decode cX5_clear 53 = .ok (.iload_n 3, 1) := by decide +kernel
theorem dX5_clear_54 : decode cX5_clear 54 = .ok (.aload_n 0, 1) := by decide +kernel
theorem dX5_clear_55 : decode cX5_clear 55 = .ok (.getfield 51, 3) := by decide +kernel
theorem dX5_clear_58 : decode cX5_clear 58 = .ok (.iload 4, 2) := by decide +kernel
theorem dX5_clear_60 : decode cX5_clear 60 = .ok (.iaload, 1) := by decide +kernel
theorem dX5_clear_61 : decode cX5_clear 61 = .ok (.isub, 1) := by decide +kernel
theorem dX5_clear_62 : decode cX5_clear 62 = .ok (.istore_n 3, 1) := by decide +kernel
theorem dX5_clear_63 : decode cX5_clear 63 = .ok (.iinc 4 1, 3) := by decide +kernel
theorem dX5_clear_66 : decode cX5_clear 66 = .ok (.goto (-33), 3) := by decide +kernel
theorem dX5_clear_69 : decode cX5_clear 69 = .ok (.iload_n 2, 1) := by decide +kernel
theorem dX5_clear_70 : decode cX5_clear 70 = .ok (.ireturn, 1) := by decide +kernel
theorem dX5_coin_0 : decode cX5_coin 0 = .ok (.aload_n 0, 1) := by decide +kernel
theorem dX5_coin_1 : decode cX5_coin 1 = .ok (.invokevirtual 170, 3) := by decide +kernel
theorem dX5_coin_4 : decode cX5_coin 4 = .ok (.ifCond .eq 6, 3) := by decide +kernel
theorem dX5_coin_7 : decode cX5_coin 7 = .ok (.ldc 140, 2) := by decide +kernel
theorem dX5_coin_9 : decode cX5_coin 9 = .ok (.ireturn, 1) := by decide +kernel
theorem dX5_coin_10 : decode cX5_coin 10 = .ok (.iload_n 1, 1) := by decide +kernel
theorem dX5_coin_11 : decode cX5_coin 11 = .ok (.ifCond .lt 9, 3) := by decide +kernel
theorem dX5_coin_14 : decode cX5_coin 14 = .ok (.iload_n 1, 1) := by decide +kernel
theorem dX5_coin_15 : decode cX5_coin 15 = .ok (.bipush 7, 2) := by decide +kernel
theorem dX5_coin_17 : decode cX5_coin 17 = .ok (.if_icmp .le 6, 3) := by decide +kernel
theorem dX5_coin_20 : decode cX5_coin 20 = .ok (.ldc 59, 2) := by decide +kernel
theorem dX5_coin_22 : decode cX5_coin 22 = .ok (.ireturn, 1) := by decide +kernel
theorem dX5_coin_23 : decode cX5_coin 23 = .ok (.iload_n 1, 1) := by decide +kernel
theorem dX5_coin_24 : decode cX5_coin 24 = .ok (.aload_n 0, 1) := by decide +kernel
theorem dX5_coin_25 : decode cX5_coin 25 = .ok (.invokevirtual 217, 3) := by decide +kernel
theorem dX5_coin_28 : decode cX5_coin 28 = .ok (.if_icmp .le 6, 3) := by decide +kernel
theorem dX5_coin_31 : decode cX5_coin 31 = .ok (.ldc 220, 2) := by decide +kernel
theorem dX5_coin_33 : decode cX5_coin 33 = .ok (.ireturn, 1) := by decide +kernel
theorem dX5_coin_34 : decode cX5_coin 34 = .ok (.iconst 0, 1) := by decide +kernel
theorem dX5_coin_35 : decode cX5_coin 35 = .ok (.istore_n 2, 1) := by decide +kernel
theorem dX5_coin_36 : decode cX5_coin 36 = .ok (.iconst 0, 1) := by decide +kernel
theorem dX5_coin_37 : decode cX5_coin 37 = .ok (.istore_n 3, 1) := by decide +kernel
theorem dX5_coin_38 : decode cX5_coin 38 = .ok (.iload_n 3, 1) := by decide +kernel
theorem dX5_coin_39 : decode cX5_coin 39 = .ok (.iload_n 1, 1) := by decide +kernel
theorem dX5_coin_40 : decode cX5_coin 40 = .ok (.if_icmp .ge 18, 3) := by decide +kernel
theorem dX5_coin_43 : decode cX5_coin 43 = .ok (.iload_n 2, 1) := by decide +kernel
theorem dX5_coin_44 : decode cX5_coin 44 = .ok (.aload_n 0, 1) := by decide +kernel
theorem dX5_coin_45 : decode cX5_coin 45 = .ok (.getfield 51, 3) := by decide +kernel
theorem dX5_coin_48 : decode cX5_coin 48 = .ok (.iload_n 3, 1) := by decide +kernel
theorem dX5_coin_49 : decode cX5_coin 49 = .ok (.iaload, 1) := by decide +kernel
theorem dX5_coin_50 : decode cX5_coin 50 = .ok (.iadd, 1) := by decide +kernel
theorem dX5_coin_51 : decode cX5_coin 51 = .ok (.istore_n 2, 1) := by decide +kernel
theorem dX5_coin_52 : decode cX5_coin 52 = .ok (.iinc 3 1, 3) := by decide +kernel
theorem dX5_coin_55 : decode cX5_coin 55 = .ok (.goto (-17), 3) := by decide +kernel
theorem dX5_coin_58 : decode cX5_coin 58 = .ok (.iload_n 2, 1) := by decide +kernel
theorem dX5_coin_59 : decode cX5_coin 59 = .ok (.ireturn, 1) := by decide +kernel
theorem dX5_hiding_0 : decode cX5_hiding 0 = .ok (.aload_n 0, 1) := by decide +kernel
theorem dX5_hiding_1 : decode cX5_hiding 1 = .ok (.invokevirtual 170, 3) := by decide +kernel
theorem dX5_hiding_4 : decode cX5_hiding 4 = .ok (.ifCond .eq 6, 3) := by decide +kernel
theorem dX5_hiding_7 : decode cX5_hiding 7 = .ok (.ldc 140, 2) := by decide +kernel
theorem dX5_hiding_9 : decode cX5_hiding 9 = .ok (.ireturn, 1) := by decide +kernel
theorem dX5_hiding_10 : decode cX5_hiding 10 = .ok (.iload_n 1, 1) := by decide +kernel
theorem dX5_hiding_11 : decode cX5_hiding 11 = .ok (.ifCond .lt 8, 3) := by decide +kernel
theorem dX5_hiding_14 : decode cX5_hiding 14 = .ok (.iload_n 1, 1) := by decide +kernel
theorem dX5_hiding_15 : decode cX5_hiding 15 = .ok (.iconst 1, 1) := by decide +kernel
theorem dX5_hiding_16 : decode cX5_hiding 16 = .ok (.if_icmp .le 6, 3) := by decide +kernel
theorem dX5_hiding_19 : decode cX5_hiding 19 = .ok (.ldc 59, 2) := by decide +kernel
theorem dX5_hiding_21 : decode cX5_hiding 21 = .ok (.ireturn, 1) := by decide +kernel
theorem dX5_hiding_22 : decode cX5_hiding 22 = .ok (.aload_n 0, 1) := by decide +kernel
theorem dX5_hiding_23 : decode cX5_hiding 23 = .ok (.getfield 30, 3) := by decide +kernel
theorem dX5_hiding_26 : decode cX5_hiding 26 = .ok (.aload_n 0, 1) := by decide +kernel
theorem dX5_hiding_27 : decode cX5_hiding 27 = .ok (.getfield 26, 3) := by decide +kernel
theorem dX5_hiding_30 : decode cX5_hiding 30 = .ok (.invokevirtual 124, 3) := by decide +kernel
theorem dX5_hiding_33 : decode cX5_hiding 33 = .ok (.aload_n 0, 1) := by decide +kernel
theorem dX5_hiding_34 : decode cX5_hiding 34 = .ok (.getfield 30, 3) := by decide +kernel
theorem dX5_hiding_37 : decode cX5_hiding 37 = .ok (.invokevirtual 210, 3) := by decide +kernel
theorem dX5_hiding_40 : decode cX5_hiding 40 = .ok (.istore_n 2, 1) := by decide +kernel
theorem dX5_hiding_41 : decode cX5_hiding 41 = .ok (.iload_n 1, 1) := by decide +kernel
theorem dX5_hiding_42 : decode cX5_hiding 42 = .ok (.iconst 1, 1) := by decide +kernel
theorem dX5_hiding_43 : decode cX5_hiding 43 = .ok (.if_icmp .ne 7, 3) := by decide +kernel
theorem dX5_hiding_46 : decode cX5_hiding 46 = .ok (.iload_n 2, 1) := by decide +kernel
theorem dX5_hiding_47 : decode cX5_hiding 47 = .ok (.goto 7, 3) := by decide +kernel
theorem dX5_hiding_50 : decode cX5_hiding 50 = .ok (.aload_n 0, 1) := by decide +kernel
theorem dX5_hiding_51 : decode cX5_hiding 51 = .ok (.invokevirtual 214, 3) := by decide +kernel
theorem dX5_hiding_54 : decode cX5_hiding 54 = .ok (.ireturn, 1) := by decide +kernel
theorem dX5_peopleForetoldPaler_0 : decode cX5_peopleForetoldPaler 0 = .ok (.iconst 0, 1) := by decide +kernel
theorem dX5_peopleForetoldPaler_1 : decode cX5_peopleForetoldPaler 1 = .ok (.istore_n 1, 1) := by decide +kernel
theorem dX5_peopleForetoldPaler_2 : decode cX5_peopleForetoldPaler 2 = .ok (.iconst 0, 1) := by decide +kernel
theorem dX5_peopleForetoldPaler_3 : decode cX5_peopleForetoldPaler 3 = .ok (.istore_n 2, 1) := by decide +kernel
theorem dX5_peopleForetoldPaler_4 : decode cX5_peopleForetoldPaler 4 = .ok (.iload_n 2, 1) := by decide +kernel
theorem dX5_peopleForetoldPaler_5 : decode cX5_peopleForetoldPaler 5 = .ok (.aload_n 0, 1) := by decide +kernel
theorem dX5_peopleForetoldPaler_6 : decode cX5_peopleForetoldPaler 6 = .ok (.getfield 26, 3) := by decide +kernel
theorem dX5_peopleForetoldPaler_9 : decode cX5_peopleForetoldPaler 9 = .ok (.getfield 131, 3) := by decide +kernel
theorem dX5_peopleForetoldPaler_12 : decode cX5_peopleForetoldPaler 12 = .ok (.if_icmp .ge 34, 3) := by decide +kernel
theorem dX5_peopleForetoldPaler_15 : decode cX5_peopleForetoldPaler 15 = .ok (.aload_n 0, 1) := by decide +kernel
theorem dX5_peopleForetoldPaler_16 : decode cX5_peopleForetoldPaler 16 = .ok (.getfield 30, 3) := by decide +kernel
theorem dX5_peopleForetoldPaler_19 : decode cX5_peopleForetoldPaler 19 = .ok (.iload_n 2, 1) := by decide +kernel
theorem dX5_peopleForetoldPaler_20 : decode cX5_peopleForetoldPaler 20 = .ok (.invokevirtual 193, 3) := by decide +kernel
theorem dX5_peopleForetoldPaler_23 : decode cX5_peopleForetoldPaler 23 = .ok (.aload_n 0, 1) := by decide +kernel
theorem dX5_peopleForetoldPaler_24 : decode cX5_peopleForetoldPaler 24 = .ok (.getfield 26, 3) := by decide +kernel
theorem dX5_peopleForetoldPaler_27 : decode cX5_peopleForetoldPaler 27 = .ok (.iload_n 2, 1) := by decide +kernel
theorem dX5_peopleForetoldPaler_28 : decode cX5_peopleForetoldPaler 28 = .ok (.invokevirtual 193, 3) := by decide +kernel
theorem dX5_peopleForetoldPaler_31 : decode cX5_peopleForetoldPaler 31 = .ok (.if_icmp .ge 9, 3) := by decide +kernel
theorem dX5_peopleForetoldPaler_34 : decode cX5_peopleForetoldPaler 34 = .ok (.iload_n 1, 1) := by decide +kernel
theorem dX5_peopleForetoldPaler_35 : decode cX5_peopleForetoldPaler 35 = .ok (.iconst 1, 1) := by decide +kernel
theorem dX5_peopleForetoldPaler_36 : decode cX5_peopleForetoldPaler 36 = .ok (.iload_n 2, 1) := by decide +kernel
theorem dX5_peopleForetoldPaler_37 : decode cX5_peopleForetoldPaler 37 = .ok (.ishl, 1) := by decide +kernel
theorem dX5_peopleForetoldPaler_38 : decode cX5_peopleForetoldPaler 38 = .ok (.ior, 1) := by decide +kernel
theorem dX5_peopleForetoldPaler_39 : decode cX5_peopleForetoldPaler 39 = .ok (.istore_n 1, 1) := by decide +kernel
theorem dX5_peopleForetoldPaler_40 : decode cX5_peopleForetoldPaler 40 = .ok (.iinc 2 1, 3) := by decide +kernel
theorem dX5_peopleForetoldPaler_43 : decode cX5_peopleForetoldPaler 43 = .ok (.goto (-39), 3) := by decide +kernel
theorem dX5_peopleForetoldPaler_46 : decode cX5_peopleForetoldPaler 46 = .ok (.iload_n 1, 1) := by decide +kernel
theorem dX5_peopleForetoldPaler_47 : decode cX5_peopleForetoldPaler 47 = .ok (.ireturn, 1) := by decide +kernel
theorem dX5_run_0 : decode cX5_run 0 = .ok (.aload_n 0, 1) := by decide +kernel
theorem dX5_run_1 : decode cX5_run 1 = .ok (.invokevirtual 170, 3) := by decide +kernel
theorem dX5_run_4 : decode cX5_run 4 = .ok (.ifCond .eq 6, 3) := by decide +kernel
theorem dX5_run_7 : decode cX5_run 7 = .ok (.ldc 140, 2) := by decide +kernel
theorem dX5_run_9 : decode cX5_run 9 = .ok (.ireturn, 1) := by decide +kernel
theorem dX5_run_10 : decode cX5_run 10 = .ok (.iload_n 1, 1) := by decide +kernel
theorem dX5_run_11 : decode cX5_run 11 = .ok (.iconst 1, 1) := by decide +kernel
theorem dX5_run_12 : decode cX5_run 12 = .ok (.if_icmp .lt 18, 3) := by decide +kernel
theorem dX5_run_15 : decode cX5_run 15 = .ok (.iload_n 1, 1) := by decide +kernel
theorem dX5_run_16 : decode cX5_run 16 = .ok (.bipush 9, 2) := by decide +kernel
theorem dX5_run_18 : decode cX5_run 18 = .ok (.if_icmp .gt 12, 3) := by decide +kernel
theorem dX5_run_21 : decode cX5_run 21 = .ok (.iload_n 2, 1) := by decide +kernel
theorem dX5_run_22 : decode cX5_run 22 = .ok (.ifCond .lt 8, 3) := by decide +kernel
theorem dX5_run_25 : decode cX5_run 25 = .ok (.iload_n 2, 1) := by decide +kernel
theorem dX5_run_26 : decode cX5_run 26 = .ok (.iconst 2, 1) := by decide +kernel
theorem dX5_run_27 : decode cX5_run 27 = .ok (.if_icmp .le 6, 3) := by decide +kernel
theorem dX5_run_30 : decode cX5_run 30 = .ok (.ldc 59, 2) := by decide +kernel
theorem dX5_run_32 : decode cX5_run 32 = .ok (.ireturn, 1) := by decide +kernel
theorem dX5_run_33 : decode cX5_run 33 = .ok (.aload_n 0, 1) := by decide +kernel
theorem dX5_run_34 : decode cX5_run 34 = .ok (.getfield 30, 3) := by decide +kernel
theorem dX5_run_37 : decode cX5_run 37 = .ok (.aload_n 0, 1) := by decide +kernel
theorem dX5_run_38 : decode cX5_run 38 = .ok (.getfield 26, 3) := by decide +kernel
theorem dX5_run_41 : decode cX5_run 41 = .ok (.invokevirtual 124, 3) := by decide +kernel
theorem dX5_run_44 : decode cX5_run 44 = .ok (.aload_n 0, 1) := by decide +kernel
theorem dX5_run_45 : decode cX5_run 45 = .ok (.getfield 26, 3) := by decide +kernel
theorem dX5_run_48 : decode cX5_run 48 = .ok (.iload_n 1, 1) := by decide +kernel
theorem dX5_run_49 : decode cX5_run 49 = .ok (.invokevirtual 221, 3) := by decide +kernel
theorem dX5_run_52 : decode cX5_run 52 = .ok (.istore_n 3, 1) := by decide +kernel
theorem dX5_run_53 : decode cX5_run 53 = .ok (.iload_n 3, 1) := by decide +kernel
theorem dX5_run_54 : decode cX5_run 54 = .ok (.istore 4, 2) := by decide +kernel
theorem dX5_run_56 : decode cX5_run 56 = .ok (.iconst 0, 1) := by decide +kernel
theorem dX5_run_57 : decode cX5_run 57 = .ok (.istore 5, 2) := by decide +kernel
theorem dX5_run_59 : decode cX5_run 59 = .ok (.iconst 0, 1) := by decide +kernel
theorem dX5_run_60 : decode cX5_run 60 = .ok (.istore 6, 2) := by decide +kernel
theorem dX5_run_62 : decode cX5_run 62 = .ok (.iload 4, 2) := by decide +kernel
theorem dX5_run_64 : decode cX5_run 64 = .ok (.ifCond .eq 46, 3) := by decide +kernel
theorem dX5_run_67 : decode cX5_run 67 = .ok (.iload 6, 2) := by decide +kernel
theorem dX5_run_69 : decode cX5_run 69 = .ok (.bipush 7, 2) := by decide +kernel
theorem dX5_run_71 : decode cX5_run 71 = .ok (.if_icmp .gt 39, 3) := by decide +kernel
theorem dX5_run_74 : decode cX5_run 74 = .ok (.iinc 6 1, 3) := by decide +kernel
theorem dX5_run_77 : decode cX5_run 77 = .ok (.aload_n 0, 1) := by decide +kernel
theorem dX5_run_78 : decode cX5_run 78 = .ok (.getfield 30, 3) := by decide +kernel
theorem dX5_run_81 : decode cX5_run 81 = .ok (.iload_n 3, 1) := by decide +kernel
theorem dX5_run_82 : decode cX5_run 82 = .ok (.invokevirtual 224, 3) := by decide +kernel
theorem dX5_run_85 : decode cX5_run 85 = .ok (.istore 5, 2) := by decide +kernel
theorem dX5_run_87 : decode cX5_run 87 = .ok (.aload_n 0, 1) := by decide +kernel
theorem dX5_run_88 : decode cX5_run 88 = .ok (.getfield 30, 3) := by decide +kernel
theorem dX5_run_91 : decode cX5_run 91 = .ok (.iload 5, 2) := by decide +kernel
theorem dX5_run_93 : decode cX5_run 93 = .ok (.invokevirtual 227, 3) := by decide +kernel
theorem dX5_run_96 : decode cX5_run 96 = .ok (.iload_n 3, 1) := by decide +kernel
theorem dX5_run_97 : decode cX5_run 97 = .ok (.iconst (-1), 1) := by decide +kernel
theorem dX5_run_98 : decode cX5_run 98 = .ok (.ixor, 1) := by decide +kernel
theorem dX5_run_99 : decode cX5_run 99 = .ok (.iand, 1) := by decide +kernel
theorem dX5_run_100 : decode cX5_run 100 = .ok (.istore 4, 2) := by decide +kernel
theorem dX5_run_102 : decode cX5_run 102 = .ok (.iload_n 3, 1) := by decide +kernel
theorem dX5_run_103 : decode cX5_run 103 = .ok (.iload 4, 2) := by decide +kernel
theorem dX5_run_105 : decode cX5_run 105 = .ok (.ior, 1) := by decide +kernel
theorem dX5_run_106 : decode cX5_run 106 = .ok (.istore_n 3, 1) := by decide +kernel
theorem dX5_run_107 : decode cX5_run 107 = .ok (.goto (-45), 3) := by decide +kernel
theorem dX5_run_110 : decode cX5_run 110 = .ok (.iload_n 2, 1) := by decide +kernel
theorem dX5_run_111 : decode cX5_run 111 = .ok (.ifCond .ne 6, 3) := by decide +kernel
theorem dX5_run_114 : decode cX5_run 114 = .ok (.iload 6, 2) := by decide +kernel
theorem dX5_run_116 : decode cX5_run 116 = .ok (.ireturn, 1) := by decide +kernel
theorem dX5_run_117 : decode cX5_run 117 = .ok (.iload_n 2, 1) := by decide +kernel
theorem dX5_run_118 : decode cX5_run 118 = .ok (.iconst 1, 1) := by decide +kernel
theorem dX5_run_119 : decode cX5_run 119 = .ok (.if_icmp .ne 8, 3) := by decide +kernel
theorem dX5_run_122 : decode cX5_run 122 = .ok (.iload 5, 2) := by decide +kernel
theorem dX5_run_124 : decode cX5_run 124 = .ok (.goto 4, 3) := by decide +kernel
theorem dX5_run_127 : decode cX5_run 127 = .ok (.iload_n 3, 1) := by decide +kernel
theorem dX5_run_128 : decode cX5_run 128 = .ok (.ireturn, 1) := by decide +kernel
theorem dX5_feed_0 : decode cX5_feed 0 = .ok (.iload_n 3, 1) := by decide +kernel
theorem dX5_feed_1 : decode cX5_feed 1 = .ok (.iconst 1, 1) := by decide +kernel
theorem dX5_feed_2 : decode cX5_feed 2 = .ok (.if_icmp .lt 9, 3) := by decide +kernel
theorem dX5_feed_5 : decode cX5_feed 5 = .ok (.iload_n 3, 1) := by decide +kernel
theorem dX5_feed_6 : decode cX5_feed 6 = .ok (.bipush 8, 2) := by decide +kernel
theorem dX5_feed_8 : decode cX5_feed 8 = .ok (.if_icmp .le 6, 3) := by decide +kernel
theorem dX5_feed_11 : decode cX5_feed 11 = .ok (.ldc 59, 2) := by decide +kernel
theorem dX5_feed_13 : decode cX5_feed 13 = .ok (.ireturn, 1) := by decide +kernel
theorem dX5_feed_14 : decode cX5_feed 14 = .ok (.aload_n 0, 1) := by decide +kernel
theorem dX5_feed_15 : decode cX5_feed 15 = .ok (.getfield 19, 3) := by decide +kernel
theorem dX5_feed_18 : decode cX5_feed 18 = .ok (.getfield 102, 3) := by decide +kernel
theorem dX5_feed_21 : decode cX5_feed 21 = .ok (.iload_n 3, 1) := by decide +kernel
theorem dX5_feed_22 : decode cX5_feed 22 = .ok (.iadd, 1) := by decide +kernel
theorem dX5_feed_23 : decode cX5_feed 23 = .ok (.sipush 400, 3) := by decide +kernel
theorem dX5_feed_26 : decode cX5_feed 26 = .ok (.if_icmp .le 6, 3) := by decide +kernel
theorem dX5_feed_29 : decode cX5_feed 29 = .ok (.ldc 103, 2) := by decide +kernel
theorem dX5_feed_31 : decode cX5_feed 31 = .ok (.ireturn, 1) := by decide +kernel
theorem dX5_feed_32 : decode cX5_feed 32 = .ok (.iload_n 3, 1) := by decide +kernel
theorem dX5_feed_33 : decode cX5_feed 33 = .ok (.iconst 1, 1) := by decide +kernel
theorem dX5_feed_34 : decode cX5_feed 34 = .ok (.isub, 1) := by decide +kernel
theorem dX5_feed_35 : decode cX5_feed 35 = .ok (.istore 4, 2) := by decide +kernel
theorem dX5_feed_37 : decode cX5_feed 37 = .ok (.iload 4, 2) := by decide +kernel
theorem dX5_feed_39 : decode cX5_feed 39 = .ok (.ifCond .lt 46, 3) := by decide +kernel
theorem dX5_feed_42 : decode cX5_feed 42 = .ok (.aload_n 0, 1) := by decide +kernel
theorem dX5_feed_43 : decode cX5_feed 43 = .ok (.getfield 19, 3) := by decide +kernel
theorem dX5_feed_46 : decode cX5_feed 46 = .ok (.getfield 104, 3) := by decide +kernel
theorem dX5_feed_49 : decode cX5_feed 49 = .ok (.aload_n 0, 1) := by decide +kernel
theorem dX5_feed_50 : decode cX5_feed 50 = .ok (.getfield 19, 3) := by decide +kernel
theorem dX5_feed_53 : decode cX5_feed 53 = .ok (.getfield 102, 3) := by decide +kernel
theorem dX5_feed_56 : decode cX5_feed 56 = .ok (.lload_n 1, 1) := by decide +kernel
theorem dX5_feed_57 : decode cX5_feed 57 = .ok (.bipush 8, 2) := by decide +kernel
theorem dX5_feed_59 : decode cX5_feed 59 = .ok (.iload 4, 2) := by decide +kernel
theorem dX5_feed_61 : decode cX5_feed 61 = .ok (.imul, 1) := by decide +kernel
theorem dX5_feed_62 : decode cX5_feed 62 = .ok (.lshr, 1) := by decide +kernel
theorem dX5_feed_63 : decode cX5_feed 63 = .ok (.l2i, 1) := by decide +kernel
theorem dX5_feed_64 : decode cX5_feed 64 = .ok (.i2b, 1) := by decide +kernel
theorem dX5_feed_65 : decode cX5_feed 65 = .ok (.bastore, 1) := by decide +kernel
theorem dX5_feed_66 : decode cX5_feed 66 = .ok (.aload_n 0, 1) := by decide +kernel
theorem dX5_feed_67 : decode cX5_feed 67 = .ok (.getfield 19, 3) := by decide +kernel
theorem dX5_feed_70 : decode cX5_feed 70 = .ok (.dup, 1) := by decide +kernel
theorem dX5_feed_71 : decode cX5_feed 71 = .ok (.getfield 102, 3) := by decide +kernel
theorem dX5_feed_74 : decode cX5_feed 74 = .ok (.iconst 1, 1) := by decide +kernel
theorem dX5_feed_75 : decode cX5_feed 75 = .ok (.iadd, 1) := by decide +kernel
theorem dX5_feed_76 : decode cX5_feed 76 = .ok (.putfield 102, 3) := by decide +kernel
theorem dX5_feed_79 : decode cX5_feed 79 = .ok (.iinc 4 (-1), 3) := by decide +kernel
theorem dX5_feed_82 : decode cX5_feed 82 = .ok (.goto (-45), 3) := by decide +kernel
theorem dX5_feed_85 : decode cX5_feed 85 = .ok (.aload_n 0, 1) := by decide +kernel
theorem dX5_feed_86 : decode cX5_feed 86 = .ok (.getfield 19, 3) := by decide +kernel
theorem dX5_feed_89 : decode cX5_feed 89 = .ok (.getfield 102, 3) := by decide +kernel
theorem dX5_feed_92 : decode cX5_feed 92 = .ok (.ireturn, 1) := by decide +kernel
section O5
variable {G : GG} {z : Nat} {σ : AH} {lf fd : Int32} {rl rn : Nat → Int32} {ri : Nat → Nat → Int32} {tp rd : Nat → Int32} {dd d df : TS} {nx kp : Nat} {da di : Nat → TS} {tr : Nat} {bo ne : Nat → Int32}
theorem c_gatherNeeds (X : XR σ lf fd rl rn ri tp rd dd d df nx kp da di tr bo ne) (hN : sN d ≤ 7) (hu : 1 ≤ sU d) (hu2 : sU d ≤ 20) : Ct G yX5_gatherNeeds cX5_gatherNeeds 6 (some .int) 4 0 0 z σ [.ref 0] (some (.int (nI (gat (sD d) (sN d) (sU d) ne (sN d)).2))) z (ups σ 170 (.inl (0, 7, (gat (sD d) (sN d) (sU d) ne (sN d)).1))) := by
  refine Ct.ofJ RX5 rfl [some (.ref 0), none, none, none, none, none] rfl (by decide) (by simp [Value.category]) ?_
  refine j_iconst (nI 0) dX5_gatherNeeds_0 rfl ?_
  refine j_istore_n dX5_gatherNeeds_1 rfl (Nat.le_of_ble_eq_true rfl) rfl ?_
  refine j_iconst (nI 0) dX5_gatherNeeds_2 rfl ?_
  refine j_istore_n dX5_gatherNeeds_3 rfl (Nat.le_of_ble_eq_true rfl) rfl ?_
  suffices H : ∀ (k p : Nat) (o3 o4 o5 : Option Value), p ≤ sN d → sN d < p + k → J G RX5 cX5_gatherNeeds 6 (some .int) (TQ G 4 0 0 (some (.int (nI (gat (sD d) (sN d) (sU d) ne (sN d)).2))) z (ups σ 170 (.inl (0, 7, (gat (sD d) (sN d) (sU d) ne (sN d)).1)))) z (ups σ 170 (.inl (0, 7, (gat (sD d) (sN d) (sU d) ne p).1))) 0 0 4 [some (.ref 0), some (.int (nI (gat (sD d) (sN d) (sU d) ne p).2)), some (.int (nI p)), o3, o4, o5] [] from (by have H0 := H (sN d + 1) 0 none none none (by omega) (by omega); rw [show ups σ 170 (.inl (0, 7, (gat (sD d) (sN d) (sU d) ne 0).1)) = σ from ups_self X.2.2.2.2.2.2.2.2.2.2.2.2.2.2.2] at H0; exact H0)
  intro k
  induction k with
  | zero => intro p o3 o4 o5 h1 h2; exact absurd h2 (by omega)
  | succ k ih =>
    intro p o3 o4 o5 h1 h2
    have hle := gat_le (sD d) (sN d) (sU d) ne p
    have X0 := X
    have X := X.need (gat (sD d) (sN d) (sU d) ne p).1
    have ih2 := fun o3 o4 o5 h h9 => ih (p + 1) o3 o4 o5 h h9
    simp only [gat] at ih2
    refine j_iload_n dX5_gatherNeeds_4 rfl rfl ?_
    refine j_aload_n dX5_gatherNeeds_5 rfl rfl ?_
    refine j_getf dX5_gatherNeeds_6 5 4 rfl (Nat.le_of_ble_eq_true rfl) fl_X5_26 in_5 (by first | exact X.1 | exact X.2.1 | exact X.2.2.2.1 | exact X.2.2.2.2.1 | exact X.2.2.2.2.2.2.1.o | exact X.2.2.2.2.2.2.1.c | exact X.2.2.2.2.2.2.1.i | exact X.2.2.2.2.2.2.1.p | exact X.2.2.2.2.2.2.1.d | exact X.2.2.2.2.2.2.2.1.o | exact X.2.2.2.2.2.2.2.2.1 | exact X.2.2.2.2.2.2.2.2.2.1 | exact X.2.2.2.2.2.2.2.2.2.2.2.1 | exact X.2.2.2.2.2.2.2.2.2.2.2.2.2.1 | exact X.2.2.2.2.2.2.2.2.2.2.2.2.2.2.1 | exact X.2.2.2.2.2.2.2.2.2.2.2.2.2.2.2) rfl ?_
    refine j_getf dX5_gatherNeeds_9 4 4 rfl (Nat.le_of_ble_eq_true rfl) fl_X5_131 in_4 (by first | exact X.1 | exact X.2.1 | exact X.2.2.2.1 | exact X.2.2.2.2.1 | exact X.2.2.2.2.2.2.1.o | exact X.2.2.2.2.2.2.1.c | exact X.2.2.2.2.2.2.1.i | exact X.2.2.2.2.2.2.1.p | exact X.2.2.2.2.2.2.1.d | exact X.2.2.2.2.2.2.2.1.o | exact X.2.2.2.2.2.2.2.2.1 | exact X.2.2.2.2.2.2.2.2.2.1 | exact X.2.2.2.2.2.2.2.2.2.2.2.1 | exact X.2.2.2.2.2.2.2.2.2.2.2.2.2.1 | exact X.2.2.2.2.2.2.2.2.2.2.2.2.2.2.1 | exact X.2.2.2.2.2.2.2.2.2.2.2.2.2.2.2) rfl ?_
    refine j_icmp_geN 113 dX5_gatherNeeds_12 (by decide) (by omega) (by omega) (fun b12 => ?_) (fun b12 => ?_)
    · obtain rfl : p = sN d := by omega
      refine j_iload_n dX5_gatherNeeds_113 rfl rfl ?_
      exact j_iret rfl dX5_gatherNeeds_114 rfl rfl (Nat.le_of_ble_eq_true rfl) (Nat.le_of_ble_eq_true rfl)
    · refine j_aload_n dX5_gatherNeeds_15 rfl rfl ?_
      refine j_getf dX5_gatherNeeds_16 5 4 rfl (Nat.le_of_ble_eq_true rfl) fl_X5_26 in_5 (by first | exact X.1 | exact X.2.1 | exact X.2.2.2.1 | exact X.2.2.2.2.1 | exact X.2.2.2.2.2.2.1.o | exact X.2.2.2.2.2.2.1.c | exact X.2.2.2.2.2.2.1.i | exact X.2.2.2.2.2.2.1.p | exact X.2.2.2.2.2.2.1.d | exact X.2.2.2.2.2.2.2.1.o | exact X.2.2.2.2.2.2.2.2.1 | exact X.2.2.2.2.2.2.2.2.2.1 | exact X.2.2.2.2.2.2.2.2.2.2.2.1 | exact X.2.2.2.2.2.2.2.2.2.2.2.2.2.1 | exact X.2.2.2.2.2.2.2.2.2.2.2.2.2.2.1 | exact X.2.2.2.2.2.2.2.2.2.2.2.2.2.2.2) rfl ?_
      refine j_iload_n dX5_gatherNeeds_19 rfl rfl ?_
      refine j_callV (c_shadeOfS X.2.2.2.2.2.2.1 hN (by omega) hu hu2) dX5_gatherNeeds_20 rfl mv_X5_193 (by first | exact X.1 | exact X.2.1 | exact X.2.2.2.1 | exact X.2.2.2.2.1 | exact X.2.2.2.2.2.2.1.o | exact X.2.2.2.2.2.2.1.c | exact X.2.2.2.2.2.2.1.i | exact X.2.2.2.2.2.2.1.p | exact X.2.2.2.2.2.2.1.d | exact X.2.2.2.2.2.2.2.1.o | exact X.2.2.2.2.2.2.2.2.1 | exact X.2.2.2.2.2.2.2.2.2.1 | exact X.2.2.2.2.2.2.2.2.2.2.2.1 | exact X.2.2.2.2.2.2.2.2.2.2.2.2.2.1 | exact X.2.2.2.2.2.2.2.2.2.2.2.2.2.2.1 | exact X.2.2.2.2.2.2.2.2.2.2.2.2.2.2.2) rfl ⟨(Nat.le_of_ble_eq_true rfl), (Nat.le_of_ble_eq_true rfl)⟩ ⟨(Nat.le_of_ble_eq_true rfl), (Nat.le_of_ble_eq_true rfl)⟩ (Nat.le_of_ble_eq_true rfl) ?_
      refine j_istore_n dX5_gatherNeeds_23 rfl (Nat.le_of_ble_eq_true rfl) rfl ?_
      refine j_iload_n dX5_gatherNeeds_24 rfl rfl ?_
      refine j_iconst (nI 1) dX5_gatherNeeds_25 rfl ?_
      refine j_icmp_lt 107 dX5_gatherNeeds_26 (by decide) (fun b26 => ?_) (fun b26 => ?_)
      · first | refine j_iincN dX5_gatherNeeds_107 rfl (Nat.le_of_ble_eq_true rfl) rfl ?_ | refine j_iinc _ dX5_gatherNeeds_107 rfl rfl (Nat.le_of_ble_eq_true rfl) rfl ?_
        refine j_goto 4 dX5_gatherNeeds_110 (by decide) ?_
        rw [if_pos b26] at ih2; exact ih2 _ _ _ (by omega) (by omega)
      · refine j_aload_n dX5_gatherNeeds_29 rfl rfl ?_
        refine j_getf dX5_gatherNeeds_30 5 4 rfl (Nat.le_of_ble_eq_true rfl) fl_X5_26 in_5 (by first | exact X.1 | exact X.2.1 | exact X.2.2.2.1 | exact X.2.2.2.2.1 | exact X.2.2.2.2.2.2.1.o | exact X.2.2.2.2.2.2.1.c | exact X.2.2.2.2.2.2.1.i | exact X.2.2.2.2.2.2.1.p | exact X.2.2.2.2.2.2.1.d | exact X.2.2.2.2.2.2.2.1.o | exact X.2.2.2.2.2.2.2.2.1 | exact X.2.2.2.2.2.2.2.2.2.1 | exact X.2.2.2.2.2.2.2.2.2.2.2.1 | exact X.2.2.2.2.2.2.2.2.2.2.2.2.2.1 | exact X.2.2.2.2.2.2.2.2.2.2.2.2.2.2.1 | exact X.2.2.2.2.2.2.2.2.2.2.2.2.2.2.2) rfl ?_
        refine j_iload_n dX5_gatherNeeds_33 rfl rfl ?_
        refine j_callV (c_owedByS X.2.2.2.2.2.2.1 hN (by omega)) dX5_gatherNeeds_34 rfl mv_X5_190 (by first | exact X.1 | exact X.2.1 | exact X.2.2.2.1 | exact X.2.2.2.2.1 | exact X.2.2.2.2.2.2.1.o | exact X.2.2.2.2.2.2.1.c | exact X.2.2.2.2.2.2.1.i | exact X.2.2.2.2.2.2.1.p | exact X.2.2.2.2.2.2.1.d | exact X.2.2.2.2.2.2.2.1.o | exact X.2.2.2.2.2.2.2.2.1 | exact X.2.2.2.2.2.2.2.2.2.1 | exact X.2.2.2.2.2.2.2.2.2.2.2.1 | exact X.2.2.2.2.2.2.2.2.2.2.2.2.2.1 | exact X.2.2.2.2.2.2.2.2.2.2.2.2.2.2.1 | exact X.2.2.2.2.2.2.2.2.2.2.2.2.2.2.2) rfl ⟨(Nat.le_of_ble_eq_true rfl), (Nat.le_of_ble_eq_true rfl)⟩ ⟨(Nat.le_of_ble_eq_true rfl), (Nat.le_of_ble_eq_true rfl)⟩ (Nat.le_of_ble_eq_true rfl) ?_
        refine j_iload_n dX5_gatherNeeds_37 rfl rfl ?_
        refine j_aload_n dX5_gatherNeeds_38 rfl rfl ?_
        refine j_getf dX5_gatherNeeds_39 5 4 rfl (Nat.le_of_ble_eq_true rfl) fl_X5_26 in_5 (by first | exact X.1 | exact X.2.1 | exact X.2.2.2.1 | exact X.2.2.2.2.1 | exact X.2.2.2.2.2.2.1.o | exact X.2.2.2.2.2.2.1.c | exact X.2.2.2.2.2.2.1.i | exact X.2.2.2.2.2.2.1.p | exact X.2.2.2.2.2.2.1.d | exact X.2.2.2.2.2.2.2.1.o | exact X.2.2.2.2.2.2.2.2.1 | exact X.2.2.2.2.2.2.2.2.2.1 | exact X.2.2.2.2.2.2.2.2.2.2.2.1 | exact X.2.2.2.2.2.2.2.2.2.2.2.2.2.1 | exact X.2.2.2.2.2.2.2.2.2.2.2.2.2.2.1 | exact X.2.2.2.2.2.2.2.2.2.2.2.2.2.2.2) rfl ?_
        refine j_getf dX5_gatherNeeds_42 4 5 rfl (Nat.le_of_ble_eq_true rfl) fl_X5_262 in_4 (by first | exact X.1 | exact X.2.1 | exact X.2.2.2.1 | exact X.2.2.2.2.1 | exact X.2.2.2.2.2.2.1.o | exact X.2.2.2.2.2.2.1.c | exact X.2.2.2.2.2.2.1.i | exact X.2.2.2.2.2.2.1.p | exact X.2.2.2.2.2.2.1.d | exact X.2.2.2.2.2.2.2.1.o | exact X.2.2.2.2.2.2.2.2.1 | exact X.2.2.2.2.2.2.2.2.2.1 | exact X.2.2.2.2.2.2.2.2.2.2.2.1 | exact X.2.2.2.2.2.2.2.2.2.2.2.2.2.1 | exact X.2.2.2.2.2.2.2.2.2.2.2.2.2.2.1 | exact X.2.2.2.2.2.2.2.2.2.2.2.2.2.2.2) rfl ?_
        refine j_imul dX5_gatherNeeds_45 ?_
        refine j_iconst (nI 1) dX5_gatherNeeds_46 rfl ?_
        refine j_isub dX5_gatherNeeds_47 ?_
        refine j_isub dX5_gatherNeeds_48 ?_
        refine j_istore dX5_gatherNeeds_49 (Nat.le_of_ble_eq_true rfl) rfl ?_
        refine j_iload_n dX5_gatherNeeds_51 rfl rfl ?_
        refine j_istore dX5_gatherNeeds_52 (Nat.le_of_ble_eq_true rfl) rfl ?_
        have hsh : ¬ shd (sD d) (sN d) (sU d) p < nI 1 := b26
        simp only [if_neg hsh] at ih2
        suffices H2 : ∀ (a : Nat) (nn : Nat → Int32), a ≤ (gat (sD d) (sN d) (sU d) ne p).2 → insL (needI (sD d) (sN d) (sU d) p) a nn = insL (needI (sD d) (sN d) (sU d) p) (gat (sD d) (sN d) (sU d) ne p).2 (gat (sD d) (sN d) (sU d) ne p).1 → J G RX5 cX5_gatherNeeds 6 (some .int) (TQ G 4 0 0 (some (.int (nI (gat (sD d) (sN d) (sU d) ne (sN d)).2))) z (ups σ 170 (.inl (0, 7, (gat (sD d) (sN d) (sU d) ne (sN d)).1)))) z (ups σ 170 (.inl (0, 7, nn))) 0 0 54 [some (.ref 0), some (.int (nI (gat (sD d) (sN d) (sU d) ne p).2)), some (.int (nI p)), some (.int (shd (sD d) (sN d) (sU d) p)), some (.int (needI (sD d) (sN d) (sU d) p)), some (.int (nI a))] [] from H2 _ _ (Nat.le_refl _) rfl
        intro a
        induction a with
        | zero =>
          intro nn ha he
          have X := X0.need nn
          have he : (nn, 0) = _ := he
          refine j_iload dX5_gatherNeeds_54 rfl ?_
          refine j_if_le 95 dX5_gatherNeeds_56 (by decide) (fun b56 => ?_) (fun b56 => by exact absurd (by decide) b56)
          refine j_aload_n dX5_gatherNeeds_95 rfl rfl ?_
          refine j_getf dX5_gatherNeeds_96 5 9 rfl (Nat.le_of_ble_eq_true rfl) fl_X5_51 in_5 (by first | exact X.1 | exact X.2.1 | exact X.2.2.2.1 | exact X.2.2.2.2.1 | exact X.2.2.2.2.2.2.1.o | exact X.2.2.2.2.2.2.1.c | exact X.2.2.2.2.2.2.1.i | exact X.2.2.2.2.2.2.1.p | exact X.2.2.2.2.2.2.1.d | exact X.2.2.2.2.2.2.2.1.o | exact X.2.2.2.2.2.2.2.2.1 | exact X.2.2.2.2.2.2.2.2.2.1 | exact X.2.2.2.2.2.2.2.2.2.2.2.1 | exact X.2.2.2.2.2.2.2.2.2.2.2.2.2.1 | exact X.2.2.2.2.2.2.2.2.2.2.2.2.2.2.1 | exact X.2.2.2.2.2.2.2.2.2.2.2.2.2.2.2) rfl ?_
          refine j_iload dX5_gatherNeeds_99 rfl ?_
          refine j_iload dX5_gatherNeeds_101 rfl ?_
          refine j_iast dX5_gatherNeeds_103 (by first | exact X.1 | exact X.2.1 | exact X.2.2.2.1 | exact X.2.2.2.2.1 | exact X.2.2.2.2.2.2.1.o | exact X.2.2.2.2.2.2.1.c | exact X.2.2.2.2.2.2.1.i | exact X.2.2.2.2.2.2.1.p | exact X.2.2.2.2.2.2.1.d | exact X.2.2.2.2.2.2.2.1.o | exact X.2.2.2.2.2.2.2.2.1 | exact X.2.2.2.2.2.2.2.2.2.1 | exact X.2.2.2.2.2.2.2.2.2.2.2.1 | exact X.2.2.2.2.2.2.2.2.2.2.2.2.2.1 | exact X.2.2.2.2.2.2.2.2.2.2.2.2.2.2.1 | exact X.2.2.2.2.2.2.2.2.2.2.2.2.2.2.2) rfl (by omega) (by decide) _ ups_ups ?_
          first | refine j_iincN dX5_gatherNeeds_104 rfl (Nat.le_of_ble_eq_true rfl) rfl ?_ | refine j_iinc _ dX5_gatherNeeds_104 rfl rfl (Nat.le_of_ble_eq_true rfl) rfl ?_
          first | refine j_iincN dX5_gatherNeeds_107 rfl (Nat.le_of_ble_eq_true rfl) rfl ?_ | refine j_iinc _ dX5_gatherNeeds_107 rfl rfl (Nat.le_of_ble_eq_true rfl) rfl ?_
          refine j_goto 4 dX5_gatherNeeds_110 (by decide) ?_
          rw [← he] at ih2; exact ih2 _ _ _ (by omega) (by omega)
        | succ a iha =>
          intro nn ha he
          have X := X0.need nn
          have e1 : insL (needI (sD d) (sN d) (sU d) p) (a + 1) nn = if nn a ≤ needI (sD d) (sN d) (sU d) p then (nn, a + 1) else insL (needI (sD d) (sN d) (sU d) p) a (upd nn (a + 1) (nn a)) := rfl
          refine j_iload dX5_gatherNeeds_54 rfl ?_
          refine j_if_le 95 dX5_gatherNeeds_56 (by decide) (fun b56 => by exact absurd b56 (nI_nle (by omega) (by omega))) (fun b56 => ?_)
          refine j_aload_n dX5_gatherNeeds_59 rfl rfl ?_
          refine j_getf dX5_gatherNeeds_60 5 9 rfl (Nat.le_of_ble_eq_true rfl) fl_X5_51 in_5 (by first | exact X.1 | exact X.2.1 | exact X.2.2.2.1 | exact X.2.2.2.2.1 | exact X.2.2.2.2.2.2.1.o | exact X.2.2.2.2.2.2.1.c | exact X.2.2.2.2.2.2.1.i | exact X.2.2.2.2.2.2.1.p | exact X.2.2.2.2.2.2.1.d | exact X.2.2.2.2.2.2.2.1.o | exact X.2.2.2.2.2.2.2.2.1 | exact X.2.2.2.2.2.2.2.2.2.1 | exact X.2.2.2.2.2.2.2.2.2.2.2.1 | exact X.2.2.2.2.2.2.2.2.2.2.2.2.2.1 | exact X.2.2.2.2.2.2.2.2.2.2.2.2.2.2.1 | exact X.2.2.2.2.2.2.2.2.2.2.2.2.2.2.2) rfl ?_
          refine j_iload dX5_gatherNeeds_63 rfl ?_
          refine j_iconst (nI 1) dX5_gatherNeeds_65 rfl ?_
          refine j_isubN dX5_gatherNeeds_66 (by omega) ?_
          refine j_iald dX5_gatherNeeds_67 (by first | exact X.1 | exact X.2.1 | exact X.2.2.2.1 | exact X.2.2.2.2.1 | exact X.2.2.2.2.2.2.1.o | exact X.2.2.2.2.2.2.1.c | exact X.2.2.2.2.2.2.1.i | exact X.2.2.2.2.2.2.1.p | exact X.2.2.2.2.2.2.1.d | exact X.2.2.2.2.2.2.2.1.o | exact X.2.2.2.2.2.2.2.2.1 | exact X.2.2.2.2.2.2.2.2.2.1 | exact X.2.2.2.2.2.2.2.2.2.2.2.1 | exact X.2.2.2.2.2.2.2.2.2.2.2.2.2.1 | exact X.2.2.2.2.2.2.2.2.2.2.2.2.2.2.1 | exact X.2.2.2.2.2.2.2.2.2.2.2.2.2.2.2) rfl (by omega) (by decide) ?_
          refine j_iload dX5_gatherNeeds_68 rfl ?_
          refine j_icmp_le 95 dX5_gatherNeeds_70 (by decide) (fun b70 => ?_) (fun b70 => ?_)
          · refine j_aload_n dX5_gatherNeeds_95 rfl rfl ?_
            refine j_getf dX5_gatherNeeds_96 5 9 rfl (Nat.le_of_ble_eq_true rfl) fl_X5_51 in_5 (by first | exact X.1 | exact X.2.1 | exact X.2.2.2.1 | exact X.2.2.2.2.1 | exact X.2.2.2.2.2.2.1.o | exact X.2.2.2.2.2.2.1.c | exact X.2.2.2.2.2.2.1.i | exact X.2.2.2.2.2.2.1.p | exact X.2.2.2.2.2.2.1.d | exact X.2.2.2.2.2.2.2.1.o | exact X.2.2.2.2.2.2.2.2.1 | exact X.2.2.2.2.2.2.2.2.2.1 | exact X.2.2.2.2.2.2.2.2.2.2.2.1 | exact X.2.2.2.2.2.2.2.2.2.2.2.2.2.1 | exact X.2.2.2.2.2.2.2.2.2.2.2.2.2.2.1 | exact X.2.2.2.2.2.2.2.2.2.2.2.2.2.2.2) rfl ?_
            refine j_iload dX5_gatherNeeds_99 rfl ?_
            refine j_iload dX5_gatherNeeds_101 rfl ?_
            refine j_iast dX5_gatherNeeds_103 (by first | exact X.1 | exact X.2.1 | exact X.2.2.2.1 | exact X.2.2.2.2.1 | exact X.2.2.2.2.2.2.1.o | exact X.2.2.2.2.2.2.1.c | exact X.2.2.2.2.2.2.1.i | exact X.2.2.2.2.2.2.1.p | exact X.2.2.2.2.2.2.1.d | exact X.2.2.2.2.2.2.2.1.o | exact X.2.2.2.2.2.2.2.2.1 | exact X.2.2.2.2.2.2.2.2.2.1 | exact X.2.2.2.2.2.2.2.2.2.2.2.1 | exact X.2.2.2.2.2.2.2.2.2.2.2.2.2.1 | exact X.2.2.2.2.2.2.2.2.2.2.2.2.2.2.1 | exact X.2.2.2.2.2.2.2.2.2.2.2.2.2.2.2) rfl (by omega) (by decide) _ ups_ups ?_
            first | refine j_iincN dX5_gatherNeeds_104 rfl (Nat.le_of_ble_eq_true rfl) rfl ?_ | refine j_iinc _ dX5_gatherNeeds_104 rfl rfl (Nat.le_of_ble_eq_true rfl) rfl ?_
            first | refine j_iincN dX5_gatherNeeds_107 rfl (Nat.le_of_ble_eq_true rfl) rfl ?_ | refine j_iinc _ dX5_gatherNeeds_107 rfl rfl (Nat.le_of_ble_eq_true rfl) rfl ?_
            refine j_goto 4 dX5_gatherNeeds_110 (by decide) ?_
            rw [e1, if_pos (show nn a ≤ _ from b70)] at he
            rw [← he] at ih2; exact ih2 _ _ _ (by omega) (by omega)
          · refine j_aload_n dX5_gatherNeeds_73 rfl rfl ?_
            refine j_getf dX5_gatherNeeds_74 5 9 rfl (Nat.le_of_ble_eq_true rfl) fl_X5_51 in_5 (by first | exact X.1 | exact X.2.1 | exact X.2.2.2.1 | exact X.2.2.2.2.1 | exact X.2.2.2.2.2.2.1.o | exact X.2.2.2.2.2.2.1.c | exact X.2.2.2.2.2.2.1.i | exact X.2.2.2.2.2.2.1.p | exact X.2.2.2.2.2.2.1.d | exact X.2.2.2.2.2.2.2.1.o | exact X.2.2.2.2.2.2.2.2.1 | exact X.2.2.2.2.2.2.2.2.2.1 | exact X.2.2.2.2.2.2.2.2.2.2.2.1 | exact X.2.2.2.2.2.2.2.2.2.2.2.2.2.1 | exact X.2.2.2.2.2.2.2.2.2.2.2.2.2.2.1 | exact X.2.2.2.2.2.2.2.2.2.2.2.2.2.2.2) rfl ?_
            refine j_iload dX5_gatherNeeds_77 rfl ?_
            refine j_aload_n dX5_gatherNeeds_79 rfl rfl ?_
            refine j_getf dX5_gatherNeeds_80 5 9 rfl (Nat.le_of_ble_eq_true rfl) fl_X5_51 in_5 (by first | exact X.1 | exact X.2.1 | exact X.2.2.2.1 | exact X.2.2.2.2.1 | exact X.2.2.2.2.2.2.1.o | exact X.2.2.2.2.2.2.1.c | exact X.2.2.2.2.2.2.1.i | exact X.2.2.2.2.2.2.1.p | exact X.2.2.2.2.2.2.1.d | exact X.2.2.2.2.2.2.2.1.o | exact X.2.2.2.2.2.2.2.2.1 | exact X.2.2.2.2.2.2.2.2.2.1 | exact X.2.2.2.2.2.2.2.2.2.2.2.1 | exact X.2.2.2.2.2.2.2.2.2.2.2.2.2.1 | exact X.2.2.2.2.2.2.2.2.2.2.2.2.2.2.1 | exact X.2.2.2.2.2.2.2.2.2.2.2.2.2.2.2) rfl ?_
            refine j_iload dX5_gatherNeeds_83 rfl ?_
            refine j_iconst (nI 1) dX5_gatherNeeds_85 rfl ?_
            refine j_isubN dX5_gatherNeeds_86 (by omega) ?_
            refine j_iald dX5_gatherNeeds_87 (by first | exact X.1 | exact X.2.1 | exact X.2.2.2.1 | exact X.2.2.2.2.1 | exact X.2.2.2.2.2.2.1.o | exact X.2.2.2.2.2.2.1.c | exact X.2.2.2.2.2.2.1.i | exact X.2.2.2.2.2.2.1.p | exact X.2.2.2.2.2.2.1.d | exact X.2.2.2.2.2.2.2.1.o | exact X.2.2.2.2.2.2.2.2.1 | exact X.2.2.2.2.2.2.2.2.2.1 | exact X.2.2.2.2.2.2.2.2.2.2.2.1 | exact X.2.2.2.2.2.2.2.2.2.2.2.2.2.1 | exact X.2.2.2.2.2.2.2.2.2.2.2.2.2.2.1 | exact X.2.2.2.2.2.2.2.2.2.2.2.2.2.2.2) rfl (by omega) (by decide) ?_
            refine j_iast dX5_gatherNeeds_88 (by first | exact X.1 | exact X.2.1 | exact X.2.2.2.1 | exact X.2.2.2.2.1 | exact X.2.2.2.2.2.2.1.o | exact X.2.2.2.2.2.2.1.c | exact X.2.2.2.2.2.2.1.i | exact X.2.2.2.2.2.2.1.p | exact X.2.2.2.2.2.2.1.d | exact X.2.2.2.2.2.2.2.1.o | exact X.2.2.2.2.2.2.2.2.1 | exact X.2.2.2.2.2.2.2.2.2.1 | exact X.2.2.2.2.2.2.2.2.2.2.2.1 | exact X.2.2.2.2.2.2.2.2.2.2.2.2.2.1 | exact X.2.2.2.2.2.2.2.2.2.2.2.2.2.2.1 | exact X.2.2.2.2.2.2.2.2.2.2.2.2.2.2.2) rfl (by omega) (by decide) _ ups_ups ?_
            refine j_iinc (nI a) dX5_gatherNeeds_89 rfl (by rw [show Int32.ofInt (-1) = (-1 : Int32) from by decide]; exact pk_m1 _) (Nat.le_of_ble_eq_true rfl) rfl ?_
            refine j_goto 54 dX5_gatherNeeds_92 (by decide) ?_
            rw [e1, if_neg (show ¬ nn a ≤ _ from b70)] at he
            exact iha _ (by omega) he
end O5
end
section
section O6
variable {G : GG} {z : Nat} {σ : AH} {lf fd : Int32} {rl rn : Nat → Int32} {ri : Nat → Nat → Int32} {tp rd : Nat → Int32} {dd d df : TS} {nx kp : Nat} {da di : Nat → TS} {tr : Nat} {bo ne : Nat → Int32}
theorem x_clear_state (X : XR σ lf fd rl rn ri tp rd dd d df nx kp da di tr bo ne) (c : Int32) (h : sN d = 0) : Ct G yX5_clear cX5_clear 5 (some .int) 5 0 0 z σ [.ref 0, .int c] (some (.int (-1000002))) z σ := by
  refine Ct.ofJ RX5 rfl [some (.ref 0), some (.int c), none, none, none] rfl (by decide) (by simp [Value.category]) ?_
  refine j_aload_n dX5_clear_0 rfl rfl ?_
  refine j_callV (c_isNoTown X) dX5_clear_1 rfl mv_X5_170 (by first | exact X.1 | exact X.2.1 | exact X.2.2.2.1 | exact X.2.2.2.2.1 | exact X.2.2.2.2.2.2.1.o | exact X.2.2.2.2.2.2.1.c | exact X.2.2.2.2.2.2.1.i | exact X.2.2.2.2.2.2.1.p | exact X.2.2.2.2.2.2.1.d | exact X.2.2.2.2.2.2.2.1.o | exact X.2.2.2.2.2.2.2.2.1 | exact X.2.2.2.2.2.2.2.2.2.1 | exact X.2.2.2.2.2.2.2.2.2.2.2.1 | exact X.2.2.2.2.2.2.2.2.2.2.2.2.2.1 | exact X.2.2.2.2.2.2.2.2.2.2.2.2.2.2.1 | exact X.2.2.2.2.2.2.2.2.2.2.2.2.2.2.2) rfl ⟨(Nat.le_of_ble_eq_true rfl), (Nat.le_of_ble_eq_true rfl)⟩ ⟨(Nat.le_of_ble_eq_true rfl), (Nat.le_of_ble_eq_true rfl)⟩ (Nat.le_of_ble_eq_true rfl) ?_
  refine j_top (nI 1) (by rw [h]; rfl) ?_
  refine j_if_eq 10 dX5_clear_4 (by decide) (fun h => absurd h (by decide)) (fun _ => ?_)
  refine j_ldc (-1000002) dX5_clear_7 kc_X5_140 ?_
  exact j_iret rfl dX5_clear_9 rfl rfl (Nat.le_of_ble_eq_true rfl) (Nat.le_of_ble_eq_true rfl)
theorem x_clear_bad (X : XR σ lf fd rl rn ri tp rd dd d df nx kp da di tr bo ne) (c : Int32) (hN : sN d ≤ 7) (h0 : 1 ≤ sN d) (h : c < 0 ∨ 999999 < c) : Ct G yX5_clear cX5_clear 5 (some .int) 5 0 0 z σ [.ref 0, .int c] (some (.int (-1000001))) z σ := by
  refine Ct.ofJ RX5 rfl [some (.ref 0), some (.int c), none, none, none] rfl (by decide) (by simp [Value.category]) ?_
  refine j_aload_n dX5_clear_0 rfl rfl ?_
  refine j_callV (c_isNoTown X) dX5_clear_1 rfl mv_X5_170 (by first | exact X.1 | exact X.2.1 | exact X.2.2.2.1 | exact X.2.2.2.2.1 | exact X.2.2.2.2.2.2.1.o | exact X.2.2.2.2.2.2.1.c | exact X.2.2.2.2.2.2.1.i | exact X.2.2.2.2.2.2.1.p | exact X.2.2.2.2.2.2.1.d | exact X.2.2.2.2.2.2.2.1.o | exact X.2.2.2.2.2.2.2.2.1 | exact X.2.2.2.2.2.2.2.2.2.1 | exact X.2.2.2.2.2.2.2.2.2.2.2.1 | exact X.2.2.2.2.2.2.2.2.2.2.2.2.2.1 | exact X.2.2.2.2.2.2.2.2.2.2.2.2.2.2.1 | exact X.2.2.2.2.2.2.2.2.2.2.2.2.2.2.2) rfl ⟨(Nat.le_of_ble_eq_true rfl), (Nat.le_of_ble_eq_true rfl)⟩ ⟨(Nat.le_of_ble_eq_true rfl), (Nat.le_of_ble_eq_true rfl)⟩ (Nat.le_of_ble_eq_true rfl) ?_
  refine j_top (nI 0) (ntI_k h0 hN) ?_
  refine j_if_eq 10 dX5_clear_4 (by decide) (fun _ => ?_) (fun h => absurd rfl h)
  refine j_iload_n dX5_clear_10 rfl rfl ?_
  refine j_if_lt 20 dX5_clear_11 (by decide) (fun b11 => ?_) (fun b11 => ?_)
  · refine j_ldc (-1000001) dX5_clear_20 kc_X5_59 ?_
    exact j_iret rfl dX5_clear_22 rfl rfl (Nat.le_of_ble_eq_true rfl) (Nat.le_of_ble_eq_true rfl)
  · refine j_iload_n dX5_clear_14 rfl rfl ?_
    refine j_ldc (999999) dX5_clear_15 kc_X5_173 ?_
    refine j_icmp_le 23 dX5_clear_17 (by decide) (fun b17 => ?_) (fun b17 => ?_)
    · exact absurd h (fun q => q.elim b11 (fun w => absurd b17 (Int32.not_le.mpr w)))
    · refine j_ldc (-1000001) dX5_clear_20 kc_X5_59 ?_
      exact j_iret rfl dX5_clear_22 rfl rfl (Nat.le_of_ble_eq_true rfl) (Nat.le_of_ble_eq_true rfl)
theorem x_clear_ok (X : XR σ lf fd rl rn ri tp rd dd d df nx kp da di tr bo ne) (c : Int32) (hN : sN d ≤ 7) (h0 : 1 ≤ sN d) (hu : 1 ≤ sU d) (hu2 : sU d ≤ 20) (h1 : ¬ c < 0) (h2 : c ≤ 999999) : Ct G yX5_clear cX5_clear 5 (some .int) 5 0 0 z σ [.ref 0, .int c] (some (.int (nI (fstN (fun k => decide (lft c (gat (sD d) (sN d) (sU d) ne (sN d)).1 k < (gat (sD d) (sN d) (sU d) ne (sN d)).1 k)) (gat (sD d) (sN d) (sU d) ne (sN d)).2 0)))) z (ups σ 170 (.inl (0, 7, (gat (sD d) (sN d) (sU d) ne (sN d)).1))) := by
  refine Ct.ofJ RX5 rfl [some (.ref 0), some (.int c), none, none, none] rfl (by decide) (by simp [Value.category]) ?_
  have hle := gat_le (sD d) (sN d) (sU d) ne (sN d)
  refine j_aload_n dX5_clear_0 rfl rfl ?_
  refine j_callV (c_isNoTown X) dX5_clear_1 rfl mv_X5_170 (by first | exact X.1 | exact X.2.1 | exact X.2.2.2.1 | exact X.2.2.2.2.1 | exact X.2.2.2.2.2.2.1.o | exact X.2.2.2.2.2.2.1.c | exact X.2.2.2.2.2.2.1.i | exact X.2.2.2.2.2.2.1.p | exact X.2.2.2.2.2.2.1.d | exact X.2.2.2.2.2.2.2.1.o | exact X.2.2.2.2.2.2.2.2.1 | exact X.2.2.2.2.2.2.2.2.2.1 | exact X.2.2.2.2.2.2.2.2.2.2.2.1 | exact X.2.2.2.2.2.2.2.2.2.2.2.2.2.1 | exact X.2.2.2.2.2.2.2.2.2.2.2.2.2.2.1 | exact X.2.2.2.2.2.2.2.2.2.2.2.2.2.2.2) rfl ⟨(Nat.le_of_ble_eq_true rfl), (Nat.le_of_ble_eq_true rfl)⟩ ⟨(Nat.le_of_ble_eq_true rfl), (Nat.le_of_ble_eq_true rfl)⟩ (Nat.le_of_ble_eq_true rfl) ?_
  refine j_top (nI 0) (ntI_k h0 hN) ?_
  refine j_if_eq 10 dX5_clear_4 (by decide) (fun _ => ?_) (fun h => absurd rfl h)
  refine j_iload_n dX5_clear_10 rfl rfl ?_
  refine j_if_lt 20 dX5_clear_11 (by decide) (fun b11 => by exact absurd b11 h1) (fun b11 => ?_)
  refine j_iload_n dX5_clear_14 rfl rfl ?_
  refine j_ldc (999999) dX5_clear_15 kc_X5_173 ?_
  refine j_icmp_le 23 dX5_clear_17 (by decide) (fun b17 => ?_) (fun b17 => by exact absurd h2 b17)
  refine j_aload_n dX5_clear_23 rfl rfl ?_
  refine j_callV (c_gatherNeeds X hN hu hu2) dX5_clear_24 rfl mv_X5_217 (by first | exact X.1 | exact X.2.1 | exact X.2.2.2.1 | exact X.2.2.2.2.1 | exact X.2.2.2.2.2.2.1.o | exact X.2.2.2.2.2.2.1.c | exact X.2.2.2.2.2.2.1.i | exact X.2.2.2.2.2.2.1.p | exact X.2.2.2.2.2.2.1.d | exact X.2.2.2.2.2.2.2.1.o | exact X.2.2.2.2.2.2.2.2.1 | exact X.2.2.2.2.2.2.2.2.2.1 | exact X.2.2.2.2.2.2.2.2.2.2.2.1 | exact X.2.2.2.2.2.2.2.2.2.2.2.2.2.1 | exact X.2.2.2.2.2.2.2.2.2.2.2.2.2.2.1 | exact X.2.2.2.2.2.2.2.2.2.2.2.2.2.2.2) rfl ⟨(Nat.le_of_ble_eq_true rfl), (Nat.le_of_ble_eq_true rfl)⟩ ⟨(Nat.le_of_ble_eq_true rfl), (Nat.le_of_ble_eq_true rfl)⟩ (Nat.le_of_ble_eq_true rfl) ?_
  have X := X.need (gat (sD d) (sN d) (sU d) ne (sN d)).1
  refine j_istore_n dX5_clear_27 rfl (Nat.le_of_ble_eq_true rfl) rfl ?_
  refine j_iload_n dX5_clear_28 rfl rfl ?_
  refine j_istore_n dX5_clear_29 rfl (Nat.le_of_ble_eq_true rfl) rfl ?_
  refine j_iconst (nI 0) dX5_clear_30 rfl ?_
  refine j_istore dX5_clear_31 (Nat.le_of_ble_eq_true rfl) rfl ?_
  suffices H : ∀ (ki i : Nat), i ≤ (gat (sD d) (sN d) (sU d) ne (sN d)).2 → (gat (sD d) (sN d) (sU d) ne (sN d)).2 < i + ki → fstN (fun k => decide (lft c (gat (sD d) (sN d) (sU d) ne (sN d)).1 k < (gat (sD d) (sN d) (sU d) ne (sN d)).1 k)) (gat (sD d) (sN d) (sU d) ne (sN d)).2 0 = fstN (fun k => decide (lft c (gat (sD d) (sN d) (sU d) ne (sN d)).1 k < (gat (sD d) (sN d) (sU d) ne (sN d)).1 k)) ((gat (sD d) (sN d) (sU d) ne (sN d)).2 - i) i → J G RX5 cX5_clear 5 (some .int) (TQ G 5 0 0 (some (.int (nI (fstN (fun k => decide (lft c (gat (sD d) (sN d) (sU d) ne (sN d)).1 k < (gat (sD d) (sN d) (sU d) ne (sN d)).1 k)) (gat (sD d) (sN d) (sU d) ne (sN d)).2 0)))) z (ups σ 170 (.inl (0, 7, (gat (sD d) (sN d) (sU d) ne (sN d)).1)))) z (ups σ 170 (.inl (0, 7, (gat (sD d) (sN d) (sU d) ne (sN d)).1))) 0 0 33 [some (.ref 0), some (.int c), some (.int (nI (gat (sD d) (sN d) (sU d) ne (sN d)).2)), some (.int (lft c (gat (sD d) (sN d) (sU d) ne (sN d)).1 i)), some (.int (nI i))] [] from H ((gat (sD d) (sN d) (sU d) ne (sN d)).2 + 1) 0 (by omega) (by omega) rfl
  intro ki
  induction ki with
  | zero => intro i h1i h2i; exact absurd h2i (by omega)
  | succ ki ih =>
    intro i h1i h2i hf
    refine j_iload dX5_clear_33 rfl ?_
    refine j_iload_n dX5_clear_35 rfl rfl ?_
    refine j_icmp_geN 69 dX5_clear_36 (by decide) (by omega) (by omega) (fun b36 => ?_) (fun b36 => ?_)
    · rw [show (gat (sD d) (sN d) (sU d) ne (sN d)).2 - i = 0 by omega] at hf
      have hf2 : fstN _ (gat (sD d) (sN d) (sU d) ne (sN d)).2 0 = i := hf
      refine j_iload_n dX5_clear_69 rfl rfl ?_
      exact j_iret rfl dX5_clear_70 (by rw [hf2, show i = (gat (sD d) (sN d) (sU d) ne (sN d)).2 by omega]) rfl (Nat.le_of_ble_eq_true rfl) (Nat.le_of_ble_eq_true rfl)
    · refine j_aload_n dX5_clear_39 rfl rfl ?_
      refine j_getf dX5_clear_40 5 9 rfl (Nat.le_of_ble_eq_true rfl) fl_X5_51 in_5 (by first | exact X.1 | exact X.2.1 | exact X.2.2.2.1 | exact X.2.2.2.2.1 | exact X.2.2.2.2.2.2.1.o | exact X.2.2.2.2.2.2.1.c | exact X.2.2.2.2.2.2.1.i | exact X.2.2.2.2.2.2.1.p | exact X.2.2.2.2.2.2.1.d | exact X.2.2.2.2.2.2.2.1.o | exact X.2.2.2.2.2.2.2.2.1 | exact X.2.2.2.2.2.2.2.2.2.1 | exact X.2.2.2.2.2.2.2.2.2.2.2.1 | exact X.2.2.2.2.2.2.2.2.2.2.2.2.2.1 | exact X.2.2.2.2.2.2.2.2.2.2.2.2.2.2.1 | exact X.2.2.2.2.2.2.2.2.2.2.2.2.2.2.2) rfl ?_
      refine j_iload dX5_clear_43 rfl ?_
      refine j_iald dX5_clear_45 (by first | exact X.1 | exact X.2.1 | exact X.2.2.2.1 | exact X.2.2.2.2.1 | exact X.2.2.2.2.2.2.1.o | exact X.2.2.2.2.2.2.1.c | exact X.2.2.2.2.2.2.1.i | exact X.2.2.2.2.2.2.1.p | exact X.2.2.2.2.2.2.1.d | exact X.2.2.2.2.2.2.2.1.o | exact X.2.2.2.2.2.2.2.2.1 | exact X.2.2.2.2.2.2.2.2.2.1 | exact X.2.2.2.2.2.2.2.2.2.2.2.1 | exact X.2.2.2.2.2.2.2.2.2.2.2.2.2.1 | exact X.2.2.2.2.2.2.2.2.2.2.2.2.2.2.1 | exact X.2.2.2.2.2.2.2.2.2.2.2.2.2.2.2) rfl (by omega) (by decide) ?_
      refine j_iload_n dX5_clear_46 rfl rfl ?_
      refine j_icmp_le 53 dX5_clear_47 (by decide) (fun b47 => ?_) (fun b47 => ?_)
      · refine j_iload_n dX5_clear_53 rfl rfl ?_
        refine j_aload_n dX5_clear_54 rfl rfl ?_
        refine j_getf dX5_clear_55 5 9 rfl (Nat.le_of_ble_eq_true rfl) fl_X5_51 in_5 (by first | exact X.1 | exact X.2.1 | exact X.2.2.2.1 | exact X.2.2.2.2.1 | exact X.2.2.2.2.2.2.1.o | exact X.2.2.2.2.2.2.1.c | exact X.2.2.2.2.2.2.1.i | exact X.2.2.2.2.2.2.1.p | exact X.2.2.2.2.2.2.1.d | exact X.2.2.2.2.2.2.2.1.o | exact X.2.2.2.2.2.2.2.2.1 | exact X.2.2.2.2.2.2.2.2.2.1 | exact X.2.2.2.2.2.2.2.2.2.2.2.1 | exact X.2.2.2.2.2.2.2.2.2.2.2.2.2.1 | exact X.2.2.2.2.2.2.2.2.2.2.2.2.2.2.1 | exact X.2.2.2.2.2.2.2.2.2.2.2.2.2.2.2) rfl ?_
        refine j_iload dX5_clear_58 rfl ?_
        refine j_iald dX5_clear_60 (by first | exact X.1 | exact X.2.1 | exact X.2.2.2.1 | exact X.2.2.2.2.1 | exact X.2.2.2.2.2.2.1.o | exact X.2.2.2.2.2.2.1.c | exact X.2.2.2.2.2.2.1.i | exact X.2.2.2.2.2.2.1.p | exact X.2.2.2.2.2.2.1.d | exact X.2.2.2.2.2.2.2.1.o | exact X.2.2.2.2.2.2.2.2.1 | exact X.2.2.2.2.2.2.2.2.2.1 | exact X.2.2.2.2.2.2.2.2.2.2.2.1 | exact X.2.2.2.2.2.2.2.2.2.2.2.2.2.1 | exact X.2.2.2.2.2.2.2.2.2.2.2.2.2.2.1 | exact X.2.2.2.2.2.2.2.2.2.2.2.2.2.2.2) rfl (by omega) (by decide) ?_
        refine j_isub dX5_clear_61 ?_
        refine j_istore_n dX5_clear_62 rfl (Nat.le_of_ble_eq_true rfl) rfl ?_
        first | refine j_iincN dX5_clear_63 rfl (Nat.le_of_ble_eq_true rfl) rfl ?_ | refine j_iinc _ dX5_clear_63 rfl rfl (Nat.le_of_ble_eq_true rfl) rfl ?_
        refine j_goto 33 dX5_clear_66 (by decide) ?_
        refine ih (i + 1) (by omega) (by omega) ?_
        rw [hf, show (gat (sD d) (sN d) (sU d) ne (sN d)).2 - i = ((gat (sD d) (sN d) (sU d) ne (sN d)).2 - (i + 1)) + 1 by omega]
        rw [show fstN (fun k => decide (lft c (gat (sD d) (sN d) (sU d) ne (sN d)).1 k < (gat (sD d) (sN d) (sU d) ne (sN d)).1 k)) ((gat (sD d) (sN d) (sU d) ne (sN d)).2 - (i + 1) + 1) i = if (decide (lft c (gat (sD d) (sN d) (sU d) ne (sN d)).1 i < (gat (sD d) (sN d) (sU d) ne (sN d)).1 i)) = true then i else fstN (fun k => decide (lft c (gat (sD d) (sN d) (sU d) ne (sN d)).1 k < (gat (sD d) (sN d) (sU d) ne (sN d)).1 k)) ((gat (sD d) (sN d) (sU d) ne (sN d)).2 - (i + 1)) (i + 1) from rfl]
        rw [if_neg (by simpa using b47)]
      · refine j_iload dX5_clear_50 rfl ?_
        exact j_iret rfl dX5_clear_52 (by rw [hf]; obtain ⟨m, hm⟩ : ∃ m, (gat (sD d) (sN d) (sU d) ne (sN d)).2 - i = m + 1 := ⟨(gat (sD d) (sN d) (sU d) ne (sN d)).2 - i - 1, by omega⟩; rw [hm]; unfold fstN; rw [if_pos (decide_eq_true (Int32.not_le.mp b47))]) rfl (Nat.le_of_ble_eq_true rfl) (Nat.le_of_ble_eq_true rfl)
theorem x_coin_state (X : XR σ lf fd rl rn ri tp rd dd d df nx kp da di tr bo ne) (c : Int32) (h : sN d = 0) : Ct G yX5_coin cX5_coin 4 (some .int) 5 0 0 z σ [.ref 0, .int c] (some (.int (-1000002))) z σ := by
  refine Ct.ofJ RX5 rfl [some (.ref 0), some (.int c), none, none] rfl (by decide) (by simp [Value.category]) ?_
  refine j_aload_n dX5_coin_0 rfl rfl ?_
  refine j_callV (c_isNoTown X) dX5_coin_1 rfl mv_X5_170 (by first | exact X.1 | exact X.2.1 | exact X.2.2.2.1 | exact X.2.2.2.2.1 | exact X.2.2.2.2.2.2.1.o | exact X.2.2.2.2.2.2.1.c | exact X.2.2.2.2.2.2.1.i | exact X.2.2.2.2.2.2.1.p | exact X.2.2.2.2.2.2.1.d | exact X.2.2.2.2.2.2.2.1.o | exact X.2.2.2.2.2.2.2.2.1 | exact X.2.2.2.2.2.2.2.2.2.1 | exact X.2.2.2.2.2.2.2.2.2.2.2.1 | exact X.2.2.2.2.2.2.2.2.2.2.2.2.2.1 | exact X.2.2.2.2.2.2.2.2.2.2.2.2.2.2.1 | exact X.2.2.2.2.2.2.2.2.2.2.2.2.2.2.2) rfl ⟨(Nat.le_of_ble_eq_true rfl), (Nat.le_of_ble_eq_true rfl)⟩ ⟨(Nat.le_of_ble_eq_true rfl), (Nat.le_of_ble_eq_true rfl)⟩ (Nat.le_of_ble_eq_true rfl) ?_
  refine j_top (nI 1) (by rw [h]; rfl) ?_
  refine j_if_eq 10 dX5_coin_4 (by decide) (fun h => absurd h (by decide)) (fun _ => ?_)
  refine j_ldc (-1000002) dX5_coin_7 kc_X5_140 ?_
  exact j_iret rfl dX5_coin_9 rfl rfl (Nat.le_of_ble_eq_true rfl) (Nat.le_of_ble_eq_true rfl)
theorem x_coin_bad (X : XR σ lf fd rl rn ri tp rd dd d df nx kp da di tr bo ne) (c : Int32) (hN : sN d ≤ 7) (h0 : 1 ≤ sN d) (h : c < 0 ∨ nI 7 < c) : Ct G yX5_coin cX5_coin 4 (some .int) 5 0 0 z σ [.ref 0, .int c] (some (.int (-1000001))) z σ := by
  refine Ct.ofJ RX5 rfl [some (.ref 0), some (.int c), none, none] rfl (by decide) (by simp [Value.category]) ?_
  refine j_aload_n dX5_coin_0 rfl rfl ?_
  refine j_callV (c_isNoTown X) dX5_coin_1 rfl mv_X5_170 (by first | exact X.1 | exact X.2.1 | exact X.2.2.2.1 | exact X.2.2.2.2.1 | exact X.2.2.2.2.2.2.1.o | exact X.2.2.2.2.2.2.1.c | exact X.2.2.2.2.2.2.1.i | exact X.2.2.2.2.2.2.1.p | exact X.2.2.2.2.2.2.1.d | exact X.2.2.2.2.2.2.2.1.o | exact X.2.2.2.2.2.2.2.2.1 | exact X.2.2.2.2.2.2.2.2.2.1 | exact X.2.2.2.2.2.2.2.2.2.2.2.1 | exact X.2.2.2.2.2.2.2.2.2.2.2.2.2.1 | exact X.2.2.2.2.2.2.2.2.2.2.2.2.2.2.1 | exact X.2.2.2.2.2.2.2.2.2.2.2.2.2.2.2) rfl ⟨(Nat.le_of_ble_eq_true rfl), (Nat.le_of_ble_eq_true rfl)⟩ ⟨(Nat.le_of_ble_eq_true rfl), (Nat.le_of_ble_eq_true rfl)⟩ (Nat.le_of_ble_eq_true rfl) ?_
  refine j_top (nI 0) (ntI_k h0 hN) ?_
  refine j_if_eq 10 dX5_coin_4 (by decide) (fun _ => ?_) (fun h => absurd rfl h)
  refine j_iload_n dX5_coin_10 rfl rfl ?_
  refine j_if_lt 20 dX5_coin_11 (by decide) (fun b11 => ?_) (fun b11 => ?_)
  · refine j_ldc (-1000001) dX5_coin_20 kc_X5_59 ?_
    exact j_iret rfl dX5_coin_22 rfl rfl (Nat.le_of_ble_eq_true rfl) (Nat.le_of_ble_eq_true rfl)
  · refine j_iload_n dX5_coin_14 rfl rfl ?_
    refine j_bipush (nI 7) dX5_coin_15 rfl ?_
    refine j_icmp_le 23 dX5_coin_17 (by decide) (fun b17 => ?_) (fun b17 => ?_)
    · exact absurd h (fun q => q.elim b11 (fun w => absurd b17 (Int32.not_le.mpr w)))
    · refine j_ldc (-1000001) dX5_coin_20 kc_X5_59 ?_
      exact j_iret rfl dX5_coin_22 rfl rfl (Nat.le_of_ble_eq_true rfl) (Nat.le_of_ble_eq_true rfl)
theorem x_coin_none (X : XR σ lf fd rl rn ri tp rd dd d df nx kp da di tr bo ne) {k : Nat} (hN : sN d ≤ 7) (h0 : 1 ≤ sN d) (hu : 1 ≤ sU d) (hu2 : sU d ≤ 20) (hk : k ≤ 7) (h : (gat (sD d) (sN d) (sU d) ne (sN d)).2 < k) : Ct G yX5_coin cX5_coin 4 (some .int) 5 0 0 z σ [.ref 0, .int (nI k)] (some (.int (-1000000))) z (ups σ 170 (.inl (0, 7, (gat (sD d) (sN d) (sU d) ne (sN d)).1))) := by
  refine Ct.ofJ RX5 rfl [some (.ref 0), some (.int (nI k)), none, none] rfl (by decide) (by simp [Value.category]) ?_
  refine j_aload_n dX5_coin_0 rfl rfl ?_
  refine j_callV (c_isNoTown X) dX5_coin_1 rfl mv_X5_170 (by first | exact X.1 | exact X.2.1 | exact X.2.2.2.1 | exact X.2.2.2.2.1 | exact X.2.2.2.2.2.2.1.o | exact X.2.2.2.2.2.2.1.c | exact X.2.2.2.2.2.2.1.i | exact X.2.2.2.2.2.2.1.p | exact X.2.2.2.2.2.2.1.d | exact X.2.2.2.2.2.2.2.1.o | exact X.2.2.2.2.2.2.2.2.1 | exact X.2.2.2.2.2.2.2.2.2.1 | exact X.2.2.2.2.2.2.2.2.2.2.2.1 | exact X.2.2.2.2.2.2.2.2.2.2.2.2.2.1 | exact X.2.2.2.2.2.2.2.2.2.2.2.2.2.2.1 | exact X.2.2.2.2.2.2.2.2.2.2.2.2.2.2.2) rfl ⟨(Nat.le_of_ble_eq_true rfl), (Nat.le_of_ble_eq_true rfl)⟩ ⟨(Nat.le_of_ble_eq_true rfl), (Nat.le_of_ble_eq_true rfl)⟩ (Nat.le_of_ble_eq_true rfl) ?_
  refine j_top (nI 0) (ntI_k h0 hN) ?_
  refine j_if_eq 10 dX5_coin_4 (by decide) (fun _ => ?_) (fun h => absurd rfl h)
  refine j_iload_n dX5_coin_10 rfl rfl ?_
  refine j_if_lt 20 dX5_coin_11 (by decide) (fun b11 => by exact absurd b11 (nI_pos (by omega))) (fun b11 => ?_)
  refine j_iload_n dX5_coin_14 rfl rfl ?_
  refine j_bipush (nI 7) dX5_coin_15 rfl ?_
  refine j_icmp_leN 23 dX5_coin_17 (by decide) (by omega) (by omega) (fun b17 => ?_) (fun b17 => by exfalso; omega)
  refine j_iload_n dX5_coin_23 rfl rfl ?_
  refine j_aload_n dX5_coin_24 rfl rfl ?_
  refine j_callV (c_gatherNeeds X hN hu hu2) dX5_coin_25 rfl mv_X5_217 (by first | exact X.1 | exact X.2.1 | exact X.2.2.2.1 | exact X.2.2.2.2.1 | exact X.2.2.2.2.2.2.1.o | exact X.2.2.2.2.2.2.1.c | exact X.2.2.2.2.2.2.1.i | exact X.2.2.2.2.2.2.1.p | exact X.2.2.2.2.2.2.1.d | exact X.2.2.2.2.2.2.2.1.o | exact X.2.2.2.2.2.2.2.2.1 | exact X.2.2.2.2.2.2.2.2.2.1 | exact X.2.2.2.2.2.2.2.2.2.2.2.1 | exact X.2.2.2.2.2.2.2.2.2.2.2.2.2.1 | exact X.2.2.2.2.2.2.2.2.2.2.2.2.2.2.1 | exact X.2.2.2.2.2.2.2.2.2.2.2.2.2.2.2) rfl ⟨(Nat.le_of_ble_eq_true rfl), (Nat.le_of_ble_eq_true rfl)⟩ ⟨(Nat.le_of_ble_eq_true rfl), (Nat.le_of_ble_eq_true rfl)⟩ (Nat.le_of_ble_eq_true rfl) ?_
  refine j_icmp_leN 34 dX5_coin_28 (by decide) (by omega) (by omega) (fun b28 => by exfalso; omega) (fun b28 => ?_)
  refine j_ldc (-1000000) dX5_coin_31 kc_X5_220 ?_
  exact j_iret rfl dX5_coin_33 rfl rfl (Nat.le_of_ble_eq_true rfl) (Nat.le_of_ble_eq_true rfl)
theorem x_coin_ok (X : XR σ lf fd rl rn ri tp rd dd d df nx kp da di tr bo ne) {k : Nat} (hN : sN d ≤ 7) (h0 : 1 ≤ sN d) (hu : 1 ≤ sU d) (hu2 : sU d ≤ 20) (h : k ≤ (gat (sD d) (sN d) (sU d) ne (sN d)).2) : Ct G yX5_coin cX5_coin 4 (some .int) 5 0 0 z σ [.ref 0, .int (nI k)] (some (.int (sumR (gat (sD d) (sN d) (sU d) ne (sN d)).1 k))) z (ups σ 170 (.inl (0, 7, (gat (sD d) (sN d) (sU d) ne (sN d)).1))) := by
  refine Ct.ofJ RX5 rfl [some (.ref 0), some (.int (nI k)), none, none] rfl (by decide) (by simp [Value.category]) ?_
  have hle := gat_le (sD d) (sN d) (sU d) ne (sN d)
  refine j_aload_n dX5_coin_0 rfl rfl ?_
  refine j_callV (c_isNoTown X) dX5_coin_1 rfl mv_X5_170 (by first | exact X.1 | exact X.2.1 | exact X.2.2.2.1 | exact X.2.2.2.2.1 | exact X.2.2.2.2.2.2.1.o | exact X.2.2.2.2.2.2.1.c | exact X.2.2.2.2.2.2.1.i | exact X.2.2.2.2.2.2.1.p | exact X.2.2.2.2.2.2.1.d | exact X.2.2.2.2.2.2.2.1.o | exact X.2.2.2.2.2.2.2.2.1 | exact X.2.2.2.2.2.2.2.2.2.1 | exact X.2.2.2.2.2.2.2.2.2.2.2.1 | exact X.2.2.2.2.2.2.2.2.2.2.2.2.2.1 | exact X.2.2.2.2.2.2.2.2.2.2.2.2.2.2.1 | exact X.2.2.2.2.2.2.2.2.2.2.2.2.2.2.2) rfl ⟨(Nat.le_of_ble_eq_true rfl), (Nat.le_of_ble_eq_true rfl)⟩ ⟨(Nat.le_of_ble_eq_true rfl), (Nat.le_of_ble_eq_true rfl)⟩ (Nat.le_of_ble_eq_true rfl) ?_
  refine j_top (nI 0) (ntI_k h0 hN) ?_
  refine j_if_eq 10 dX5_coin_4 (by decide) (fun _ => ?_) (fun h => absurd rfl h)
  refine j_iload_n dX5_coin_10 rfl rfl ?_
  refine j_if_lt 20 dX5_coin_11 (by decide) (fun b11 => by exact absurd b11 (nI_pos (by omega))) (fun b11 => ?_)
  refine j_iload_n dX5_coin_14 rfl rfl ?_
  refine j_bipush (nI 7) dX5_coin_15 rfl ?_
  refine j_icmp_leN 23 dX5_coin_17 (by decide) (by omega) (by omega) (fun b17 => ?_) (fun b17 => by exfalso; omega)
  refine j_iload_n dX5_coin_23 rfl rfl ?_
  refine j_aload_n dX5_coin_24 rfl rfl ?_
  refine j_callV (c_gatherNeeds X hN hu hu2) dX5_coin_25 rfl mv_X5_217 (by first | exact X.1 | exact X.2.1 | exact X.2.2.2.1 | exact X.2.2.2.2.1 | exact X.2.2.2.2.2.2.1.o | exact X.2.2.2.2.2.2.1.c | exact X.2.2.2.2.2.2.1.i | exact X.2.2.2.2.2.2.1.p | exact X.2.2.2.2.2.2.1.d | exact X.2.2.2.2.2.2.2.1.o | exact X.2.2.2.2.2.2.2.2.1 | exact X.2.2.2.2.2.2.2.2.2.1 | exact X.2.2.2.2.2.2.2.2.2.2.2.1 | exact X.2.2.2.2.2.2.2.2.2.2.2.2.2.1 | exact X.2.2.2.2.2.2.2.2.2.2.2.2.2.2.1 | exact X.2.2.2.2.2.2.2.2.2.2.2.2.2.2.2) rfl ⟨(Nat.le_of_ble_eq_true rfl), (Nat.le_of_ble_eq_true rfl)⟩ ⟨(Nat.le_of_ble_eq_true rfl), (Nat.le_of_ble_eq_true rfl)⟩ (Nat.le_of_ble_eq_true rfl) ?_
  have X := X.need (gat (sD d) (sN d) (sU d) ne (sN d)).1
  refine j_icmp_leN 34 dX5_coin_28 (by decide) (by omega) (by omega) (fun b28 => ?_) (fun b28 => by exfalso; omega)
  refine j_iconst (nI 0) dX5_coin_34 rfl ?_
  refine j_istore_n dX5_coin_35 rfl (Nat.le_of_ble_eq_true rfl) rfl ?_
  refine j_iconst (nI 0) dX5_coin_36 rfl ?_
  refine j_istore_n dX5_coin_37 rfl (Nat.le_of_ble_eq_true rfl) rfl ?_
  skip
  suffices H : ∀ (ki i : Nat), i ≤ k → k < i + ki → J G RX5 cX5_coin 4 (some .int) (TQ G 5 0 0 (some (.int (sumR (gat (sD d) (sN d) (sU d) ne (sN d)).1 k))) z (ups σ 170 (.inl (0, 7, (gat (sD d) (sN d) (sU d) ne (sN d)).1)))) z (ups σ 170 (.inl (0, 7, (gat (sD d) (sN d) (sU d) ne (sN d)).1))) 0 0 38 [some (.ref 0), some (.int (nI k)), some (.int (sumR (gat (sD d) (sN d) (sU d) ne (sN d)).1 i)), some (.int (nI i))] [] from H (k + 1) 0 (by omega) (by omega)
  intro ki
  induction ki with
  | zero => intro i h1i h2i; exact absurd h2i (by omega)
  | succ ki ih =>
    intro i h1i h2i
    refine j_iload_n dX5_coin_38 rfl rfl ?_
    refine j_iload_n dX5_coin_39 rfl rfl ?_
    refine j_icmp_geN 58 dX5_coin_40 (by decide) (by omega) (by omega) (fun b40 => ?_) (fun b40 => ?_)
    · obtain rfl : i = k := by omega
      refine j_iload_n dX5_coin_58 rfl rfl ?_
      exact j_iret rfl dX5_coin_59 rfl rfl (Nat.le_of_ble_eq_true rfl) (Nat.le_of_ble_eq_true rfl)
    · refine j_iload_n dX5_coin_43 rfl rfl ?_
      refine j_aload_n dX5_coin_44 rfl rfl ?_
      refine j_getf dX5_coin_45 5 9 rfl (Nat.le_of_ble_eq_true rfl) fl_X5_51 in_5 (by first | exact X.1 | exact X.2.1 | exact X.2.2.2.1 | exact X.2.2.2.2.1 | exact X.2.2.2.2.2.2.1.o | exact X.2.2.2.2.2.2.1.c | exact X.2.2.2.2.2.2.1.i | exact X.2.2.2.2.2.2.1.p | exact X.2.2.2.2.2.2.1.d | exact X.2.2.2.2.2.2.2.1.o | exact X.2.2.2.2.2.2.2.2.1 | exact X.2.2.2.2.2.2.2.2.2.1 | exact X.2.2.2.2.2.2.2.2.2.2.2.1 | exact X.2.2.2.2.2.2.2.2.2.2.2.2.2.1 | exact X.2.2.2.2.2.2.2.2.2.2.2.2.2.2.1 | exact X.2.2.2.2.2.2.2.2.2.2.2.2.2.2.2) rfl ?_
      refine j_iload_n dX5_coin_48 rfl rfl ?_
      refine j_iald dX5_coin_49 (by first | exact X.1 | exact X.2.1 | exact X.2.2.2.1 | exact X.2.2.2.2.1 | exact X.2.2.2.2.2.2.1.o | exact X.2.2.2.2.2.2.1.c | exact X.2.2.2.2.2.2.1.i | exact X.2.2.2.2.2.2.1.p | exact X.2.2.2.2.2.2.1.d | exact X.2.2.2.2.2.2.2.1.o | exact X.2.2.2.2.2.2.2.2.1 | exact X.2.2.2.2.2.2.2.2.2.1 | exact X.2.2.2.2.2.2.2.2.2.2.2.1 | exact X.2.2.2.2.2.2.2.2.2.2.2.2.2.1 | exact X.2.2.2.2.2.2.2.2.2.2.2.2.2.2.1 | exact X.2.2.2.2.2.2.2.2.2.2.2.2.2.2.2) rfl (by omega) (by decide) ?_
      first | refine j_iaddN dX5_coin_50 ?_ | refine j_iadd dX5_coin_50 ?_
      refine j_istore_n dX5_coin_51 rfl (Nat.le_of_ble_eq_true rfl) rfl ?_
      first | refine j_iincN dX5_coin_52 rfl (Nat.le_of_ble_eq_true rfl) rfl ?_ | refine j_iinc _ dX5_coin_52 rfl rfl (Nat.le_of_ble_eq_true rfl) rfl ?_
      refine j_goto 38 dX5_coin_55 (by decide) ?_
      exact ih (i + 1) (by omega) (by omega)
theorem c_paler (X : XR σ lf fd rl rn ri tp rd dd d df nx kp da di tr bo ne) (hN : sN d ≤ 7) (hu : 1 ≤ sU d) (hu2 : sU d ≤ 20) (hf : sN df = sN d) (hfu : sU df = sU d) : Ct G yX5_peopleForetoldPaler cX5_peopleForetoldPaler 3 (some .int) 4 0 0 z σ [.ref 0] (some (.int (plI (sD d) (sD df) (sN d) (sU d) (sN d)))) z σ := by
  refine Ct.ofJ RX5 rfl [some (.ref 0), none, none] rfl (by decide) (by simp [Value.category]) ?_
  refine j_iconst (nI 0) dX5_peopleForetoldPaler_0 rfl ?_
  refine j_istore_n dX5_peopleForetoldPaler_1 rfl (Nat.le_of_ble_eq_true rfl) rfl ?_
  refine j_iconst (nI 0) dX5_peopleForetoldPaler_2 rfl ?_
  refine j_istore_n dX5_peopleForetoldPaler_3 rfl (Nat.le_of_ble_eq_true rfl) rfl ?_
  skip
  suffices H : ∀ (ki i : Nat), i ≤ (sN d) → (sN d) < i + ki → J G RX5 cX5_peopleForetoldPaler 3 (some .int) (TQ G 4 0 0 (some (.int (plI (sD d) (sD df) (sN d) (sU d) (sN d)))) z σ) z σ 0 0 4 [some (.ref 0), some (.int (plI (sD d) (sD df) (sN d) (sU d) i)), some (.int (nI i))] [] from H ((sN d) + 1) 0 (by omega) (by omega)
  intro ki
  induction ki with
  | zero => intro i h1i h2i; exact absurd h2i (by omega)
  | succ ki ih =>
    intro i h1i h2i
    have e1 : plI (sD d) (sD df) (sN d) (sU d) (i + 1) = if shd (sD d) (sN d) (sU d) i ≤ shd (sD df) (sN d) (sU d) i then plI (sD d) (sD df) (sN d) (sU d) i else orI (plI (sD d) (sD df) (sN d) (sU d) i) i := rfl
    have c1 := c_shadeOfS (G := G) (z := z) (p := i) X.2.2.2.2.2.2.2.1 (by omega)
    rw [hf, hfu] at c1
    refine j_iload_n dX5_peopleForetoldPaler_4 rfl rfl ?_
    refine j_aload_n dX5_peopleForetoldPaler_5 rfl rfl ?_
    refine j_getf dX5_peopleForetoldPaler_6 5 4 rfl (Nat.le_of_ble_eq_true rfl) fl_X5_26 in_5 (by first | exact X.1 | exact X.2.1 | exact X.2.2.2.1 | exact X.2.2.2.2.1 | exact X.2.2.2.2.2.2.1.o | exact X.2.2.2.2.2.2.1.c | exact X.2.2.2.2.2.2.1.i | exact X.2.2.2.2.2.2.1.p | exact X.2.2.2.2.2.2.1.d | exact X.2.2.2.2.2.2.2.1.o | exact X.2.2.2.2.2.2.2.2.1 | exact X.2.2.2.2.2.2.2.2.2.1 | exact X.2.2.2.2.2.2.2.2.2.2.2.1 | exact X.2.2.2.2.2.2.2.2.2.2.2.2.2.1 | exact X.2.2.2.2.2.2.2.2.2.2.2.2.2.2.1 | exact X.2.2.2.2.2.2.2.2.2.2.2.2.2.2.2) rfl ?_
    refine j_getf dX5_peopleForetoldPaler_9 4 4 rfl (Nat.le_of_ble_eq_true rfl) fl_X5_131 in_4 (by first | exact X.1 | exact X.2.1 | exact X.2.2.2.1 | exact X.2.2.2.2.1 | exact X.2.2.2.2.2.2.1.o | exact X.2.2.2.2.2.2.1.c | exact X.2.2.2.2.2.2.1.i | exact X.2.2.2.2.2.2.1.p | exact X.2.2.2.2.2.2.1.d | exact X.2.2.2.2.2.2.2.1.o | exact X.2.2.2.2.2.2.2.2.1 | exact X.2.2.2.2.2.2.2.2.2.1 | exact X.2.2.2.2.2.2.2.2.2.2.2.1 | exact X.2.2.2.2.2.2.2.2.2.2.2.2.2.1 | exact X.2.2.2.2.2.2.2.2.2.2.2.2.2.2.1 | exact X.2.2.2.2.2.2.2.2.2.2.2.2.2.2.2) rfl ?_
    refine j_icmp_geN 46 dX5_peopleForetoldPaler_12 (by decide) (by omega) (by omega) (fun b12 => ?_) (fun b12 => ?_)
    · obtain rfl : i = sN d := by omega
      refine j_iload_n dX5_peopleForetoldPaler_46 rfl rfl ?_
      exact j_iret rfl dX5_peopleForetoldPaler_47 rfl rfl (Nat.le_of_ble_eq_true rfl) (Nat.le_of_ble_eq_true rfl)
    · refine j_aload_n dX5_peopleForetoldPaler_15 rfl rfl ?_
      refine j_getf dX5_peopleForetoldPaler_16 5 5 rfl (Nat.le_of_ble_eq_true rfl) fl_X5_30 in_5 (by first | exact X.1 | exact X.2.1 | exact X.2.2.2.1 | exact X.2.2.2.2.1 | exact X.2.2.2.2.2.2.1.o | exact X.2.2.2.2.2.2.1.c | exact X.2.2.2.2.2.2.1.i | exact X.2.2.2.2.2.2.1.p | exact X.2.2.2.2.2.2.1.d | exact X.2.2.2.2.2.2.2.1.o | exact X.2.2.2.2.2.2.2.2.1 | exact X.2.2.2.2.2.2.2.2.2.1 | exact X.2.2.2.2.2.2.2.2.2.2.2.1 | exact X.2.2.2.2.2.2.2.2.2.2.2.2.2.1 | exact X.2.2.2.2.2.2.2.2.2.2.2.2.2.2.1 | exact X.2.2.2.2.2.2.2.2.2.2.2.2.2.2.2) rfl ?_
      refine j_iload_n dX5_peopleForetoldPaler_19 rfl rfl ?_
      refine j_callV (c1 (by omega) hu hu2) dX5_peopleForetoldPaler_20 rfl mv_X5_193 (by first | exact X.1 | exact X.2.1 | exact X.2.2.2.1 | exact X.2.2.2.2.1 | exact X.2.2.2.2.2.2.1.o | exact X.2.2.2.2.2.2.1.c | exact X.2.2.2.2.2.2.1.i | exact X.2.2.2.2.2.2.1.p | exact X.2.2.2.2.2.2.1.d | exact X.2.2.2.2.2.2.2.1.o | exact X.2.2.2.2.2.2.2.2.1 | exact X.2.2.2.2.2.2.2.2.2.1 | exact X.2.2.2.2.2.2.2.2.2.2.2.1 | exact X.2.2.2.2.2.2.2.2.2.2.2.2.2.1 | exact X.2.2.2.2.2.2.2.2.2.2.2.2.2.2.1 | exact X.2.2.2.2.2.2.2.2.2.2.2.2.2.2.2) rfl ⟨(Nat.le_of_ble_eq_true rfl), (Nat.le_of_ble_eq_true rfl)⟩ ⟨(Nat.le_of_ble_eq_true rfl), (Nat.le_of_ble_eq_true rfl)⟩ (Nat.le_of_ble_eq_true rfl) ?_
      refine j_aload_n dX5_peopleForetoldPaler_23 rfl rfl ?_
      refine j_getf dX5_peopleForetoldPaler_24 5 4 rfl (Nat.le_of_ble_eq_true rfl) fl_X5_26 in_5 (by first | exact X.1 | exact X.2.1 | exact X.2.2.2.1 | exact X.2.2.2.2.1 | exact X.2.2.2.2.2.2.1.o | exact X.2.2.2.2.2.2.1.c | exact X.2.2.2.2.2.2.1.i | exact X.2.2.2.2.2.2.1.p | exact X.2.2.2.2.2.2.1.d | exact X.2.2.2.2.2.2.2.1.o | exact X.2.2.2.2.2.2.2.2.1 | exact X.2.2.2.2.2.2.2.2.2.1 | exact X.2.2.2.2.2.2.2.2.2.2.2.1 | exact X.2.2.2.2.2.2.2.2.2.2.2.2.2.1 | exact X.2.2.2.2.2.2.2.2.2.2.2.2.2.2.1 | exact X.2.2.2.2.2.2.2.2.2.2.2.2.2.2.2) rfl ?_
      refine j_iload_n dX5_peopleForetoldPaler_27 rfl rfl ?_
      refine j_callV (c_shadeOfS X.2.2.2.2.2.2.1 hN (by omega) hu hu2) dX5_peopleForetoldPaler_28 rfl mv_X5_193 (by first | exact X.1 | exact X.2.1 | exact X.2.2.2.1 | exact X.2.2.2.2.1 | exact X.2.2.2.2.2.2.1.o | exact X.2.2.2.2.2.2.1.c | exact X.2.2.2.2.2.2.1.i | exact X.2.2.2.2.2.2.1.p | exact X.2.2.2.2.2.2.1.d | exact X.2.2.2.2.2.2.2.1.o | exact X.2.2.2.2.2.2.2.2.1 | exact X.2.2.2.2.2.2.2.2.2.1 | exact X.2.2.2.2.2.2.2.2.2.2.2.1 | exact X.2.2.2.2.2.2.2.2.2.2.2.2.2.1 | exact X.2.2.2.2.2.2.2.2.2.2.2.2.2.2.1 | exact X.2.2.2.2.2.2.2.2.2.2.2.2.2.2.2) rfl ⟨(Nat.le_of_ble_eq_true rfl), (Nat.le_of_ble_eq_true rfl)⟩ ⟨(Nat.le_of_ble_eq_true rfl), (Nat.le_of_ble_eq_true rfl)⟩ (Nat.le_of_ble_eq_true rfl) ?_
      refine j_icmp_ge 40 dX5_peopleForetoldPaler_31 (by decide) (fun b31 => ?_) (fun b31 => ?_)
      · first | refine j_iincN dX5_peopleForetoldPaler_40 rfl (Nat.le_of_ble_eq_true rfl) rfl ?_ | refine j_iinc _ dX5_peopleForetoldPaler_40 rfl rfl (Nat.le_of_ble_eq_true rfl) rfl ?_
        refine j_goto 4 dX5_peopleForetoldPaler_43 (by decide) ?_
        have ih2 := ih (i + 1) (by omega) (by omega)
        first | (rw [e1, if_pos b31] at ih2; exact ih2) | (rw [e1, if_neg b31] at ih2; exact ih2)
      · refine j_iload_n dX5_peopleForetoldPaler_34 rfl rfl ?_
        refine j_iconst (nI 1) dX5_peopleForetoldPaler_35 rfl ?_
        refine j_iload_n dX5_peopleForetoldPaler_36 rfl rfl ?_
        refine j_ishl dX5_peopleForetoldPaler_37 ?_
        refine j_ior dX5_peopleForetoldPaler_38 ?_
        refine j_istore_n dX5_peopleForetoldPaler_39 rfl (Nat.le_of_ble_eq_true rfl) rfl ?_
        first | refine j_iincN dX5_peopleForetoldPaler_40 rfl (Nat.le_of_ble_eq_true rfl) rfl ?_ | refine j_iinc _ dX5_peopleForetoldPaler_40 rfl rfl (Nat.le_of_ble_eq_true rfl) rfl ?_
        refine j_goto 4 dX5_peopleForetoldPaler_43 (by decide) ?_
        have ih2 := ih (i + 1) (by omega) (by omega)
        first | (rw [e1, if_pos b31] at ih2; exact ih2) | (rw [e1, if_neg b31] at ih2; exact ih2)
theorem x_hiding_state (X : XR σ lf fd rl rn ri tp rd dd d df nx kp da di tr bo ne) (w : Int32) (h : sN d = 0) : Ct G yX5_hiding cX5_hiding 3 (some .int) 5 0 0 z σ [.ref 0, .int w] (some (.int (-1000002))) z σ := by
  refine Ct.ofJ RX5 rfl [some (.ref 0), some (.int w), none] rfl (by decide) (by simp [Value.category]) ?_
  refine j_aload_n dX5_hiding_0 rfl rfl ?_
  refine j_callV (c_isNoTown X) dX5_hiding_1 rfl mv_X5_170 (by first | exact X.1 | exact X.2.1 | exact X.2.2.2.1 | exact X.2.2.2.2.1 | exact X.2.2.2.2.2.2.1.o | exact X.2.2.2.2.2.2.1.c | exact X.2.2.2.2.2.2.1.i | exact X.2.2.2.2.2.2.1.p | exact X.2.2.2.2.2.2.1.d | exact X.2.2.2.2.2.2.2.1.o | exact X.2.2.2.2.2.2.2.2.1 | exact X.2.2.2.2.2.2.2.2.2.1 | exact X.2.2.2.2.2.2.2.2.2.2.2.1 | exact X.2.2.2.2.2.2.2.2.2.2.2.2.2.1 | exact X.2.2.2.2.2.2.2.2.2.2.2.2.2.2.1 | exact X.2.2.2.2.2.2.2.2.2.2.2.2.2.2.2) rfl ⟨(Nat.le_of_ble_eq_true rfl), (Nat.le_of_ble_eq_true rfl)⟩ ⟨(Nat.le_of_ble_eq_true rfl), (Nat.le_of_ble_eq_true rfl)⟩ (Nat.le_of_ble_eq_true rfl) ?_
  refine j_top (nI 1) (by rw [h]; rfl) ?_
  refine j_if_eq 10 dX5_hiding_4 (by decide) (fun h => absurd h (by decide)) (fun _ => ?_)
  refine j_ldc (-1000002) dX5_hiding_7 kc_X5_140 ?_
  exact j_iret rfl dX5_hiding_9 rfl rfl (Nat.le_of_ble_eq_true rfl) (Nat.le_of_ble_eq_true rfl)
theorem x_hiding_bad (X : XR σ lf fd rl rn ri tp rd dd d df nx kp da di tr bo ne) (w : Int32) (hN : sN d ≤ 7) (h0 : 1 ≤ sN d) (h : w < 0 ∨ nI 1 < w) : Ct G yX5_hiding cX5_hiding 3 (some .int) 5 0 0 z σ [.ref 0, .int w] (some (.int (-1000001))) z σ := by
  refine Ct.ofJ RX5 rfl [some (.ref 0), some (.int w), none] rfl (by decide) (by simp [Value.category]) ?_
  refine j_aload_n dX5_hiding_0 rfl rfl ?_
  refine j_callV (c_isNoTown X) dX5_hiding_1 rfl mv_X5_170 (by first | exact X.1 | exact X.2.1 | exact X.2.2.2.1 | exact X.2.2.2.2.1 | exact X.2.2.2.2.2.2.1.o | exact X.2.2.2.2.2.2.1.c | exact X.2.2.2.2.2.2.1.i | exact X.2.2.2.2.2.2.1.p | exact X.2.2.2.2.2.2.1.d | exact X.2.2.2.2.2.2.2.1.o | exact X.2.2.2.2.2.2.2.2.1 | exact X.2.2.2.2.2.2.2.2.2.1 | exact X.2.2.2.2.2.2.2.2.2.2.2.1 | exact X.2.2.2.2.2.2.2.2.2.2.2.2.2.1 | exact X.2.2.2.2.2.2.2.2.2.2.2.2.2.2.1 | exact X.2.2.2.2.2.2.2.2.2.2.2.2.2.2.2) rfl ⟨(Nat.le_of_ble_eq_true rfl), (Nat.le_of_ble_eq_true rfl)⟩ ⟨(Nat.le_of_ble_eq_true rfl), (Nat.le_of_ble_eq_true rfl)⟩ (Nat.le_of_ble_eq_true rfl) ?_
  refine j_top (nI 0) (ntI_k h0 hN) ?_
  refine j_if_eq 10 dX5_hiding_4 (by decide) (fun _ => ?_) (fun h => absurd rfl h)
  refine j_iload_n dX5_hiding_10 rfl rfl ?_
  refine j_if_lt 19 dX5_hiding_11 (by decide) (fun b11 => ?_) (fun b11 => ?_)
  · refine j_ldc (-1000001) dX5_hiding_19 kc_X5_59 ?_
    exact j_iret rfl dX5_hiding_21 rfl rfl (Nat.le_of_ble_eq_true rfl) (Nat.le_of_ble_eq_true rfl)
  · refine j_iload_n dX5_hiding_14 rfl rfl ?_
    refine j_iconst (nI 1) dX5_hiding_15 rfl ?_
    refine j_icmp_le 22 dX5_hiding_16 (by decide) (fun b16 => ?_) (fun b16 => ?_)
    · exact absurd h (fun q => q.elim b11 (fun w => absurd b16 (Int32.not_le.mpr w)))
    · refine j_ldc (-1000001) dX5_hiding_19 kc_X5_59 ?_
      exact j_iret rfl dX5_hiding_21 rfl rfl (Nat.le_of_ble_eq_true rfl) (Nat.le_of_ble_eq_true rfl)
theorem x_hiding_ok (X : XR σ lf fd rl rn ri tp rd dd d df nx kp da di tr bo ne) {w : Nat} (hN : sN d ≤ 7) (h0 : 1 ≤ sN d) (hu : 1 ≤ sU d) (hu2 : sU d ≤ 20) (hw : w ≤ 1) : Ct G yX5_hiding cX5_hiding 3 (some .int) 5 0 0 z σ [.ref 0, .int (nI w)] (some (.int (if w = 1 then (strA (sN d) (sD d) (sN d)).2 else plI (sD d) (strA (sN d) (sD d) (sN d)).1 (sN d) (sU d) (sN d)))) z (twS (twS σ 30 d) 30 (sC d, sI d, sP d, (strA (sN d) (sD d) (sN d)).1, sN d, sU d, sR d, sQ d, sH d, sF d)) := by
  refine Ct.ofJ RX5 rfl [some (.ref 0), some (.int (nI w)), none] rfl (by decide) (by simp [Value.category]) ?_
  refine j_aload_n dX5_hiding_0 rfl rfl ?_
  refine j_callV (c_isNoTown X) dX5_hiding_1 rfl mv_X5_170 (by first | exact X.1 | exact X.2.1 | exact X.2.2.2.1 | exact X.2.2.2.2.1 | exact X.2.2.2.2.2.2.1.o | exact X.2.2.2.2.2.2.1.c | exact X.2.2.2.2.2.2.1.i | exact X.2.2.2.2.2.2.1.p | exact X.2.2.2.2.2.2.1.d | exact X.2.2.2.2.2.2.2.1.o | exact X.2.2.2.2.2.2.2.2.1 | exact X.2.2.2.2.2.2.2.2.2.1 | exact X.2.2.2.2.2.2.2.2.2.2.2.1 | exact X.2.2.2.2.2.2.2.2.2.2.2.2.2.1 | exact X.2.2.2.2.2.2.2.2.2.2.2.2.2.2.1 | exact X.2.2.2.2.2.2.2.2.2.2.2.2.2.2.2) rfl ⟨(Nat.le_of_ble_eq_true rfl), (Nat.le_of_ble_eq_true rfl)⟩ ⟨(Nat.le_of_ble_eq_true rfl), (Nat.le_of_ble_eq_true rfl)⟩ (Nat.le_of_ble_eq_true rfl) ?_
  refine j_top (nI 0) (ntI_k h0 hN) ?_
  refine j_if_eq 10 dX5_hiding_4 (by decide) (fun _ => ?_) (fun h => absurd rfl h)
  refine j_iload_n dX5_hiding_10 rfl rfl ?_
  refine j_if_lt 19 dX5_hiding_11 (by decide) (fun b11 => by exact absurd b11 (nI_pos (by omega))) (fun b11 => ?_)
  refine j_iload_n dX5_hiding_14 rfl rfl ?_
  refine j_iconst (nI 1) dX5_hiding_15 rfl ?_
  refine j_icmp_leN 22 dX5_hiding_16 (by decide) (by omega) (by omega) (fun b16 => ?_) (fun b16 => by exfalso; omega)
  refine j_aload_n dX5_hiding_22 rfl rfl ?_
  refine j_getf dX5_hiding_23 5 5 rfl (Nat.le_of_ble_eq_true rfl) fl_X5_30 in_5 (by first | exact X.1 | exact X.2.1 | exact X.2.2.2.1 | exact X.2.2.2.2.1 | exact X.2.2.2.2.2.2.1.o | exact X.2.2.2.2.2.2.1.c | exact X.2.2.2.2.2.2.1.i | exact X.2.2.2.2.2.2.1.p | exact X.2.2.2.2.2.2.1.d | exact X.2.2.2.2.2.2.2.1.o | exact X.2.2.2.2.2.2.2.2.1 | exact X.2.2.2.2.2.2.2.2.2.1 | exact X.2.2.2.2.2.2.2.2.2.2.2.1 | exact X.2.2.2.2.2.2.2.2.2.2.2.2.2.1 | exact X.2.2.2.2.2.2.2.2.2.2.2.2.2.2.1 | exact X.2.2.2.2.2.2.2.2.2.2.2.2.2.2.2) rfl ?_
  refine j_aload_n dX5_hiding_26 rfl rfl ?_
  refine j_getf dX5_hiding_27 5 4 rfl (Nat.le_of_ble_eq_true rfl) fl_X5_26 in_5 (by first | exact X.1 | exact X.2.1 | exact X.2.2.2.1 | exact X.2.2.2.2.1 | exact X.2.2.2.2.2.2.1.o | exact X.2.2.2.2.2.2.1.c | exact X.2.2.2.2.2.2.1.i | exact X.2.2.2.2.2.2.1.p | exact X.2.2.2.2.2.2.1.d | exact X.2.2.2.2.2.2.2.1.o | exact X.2.2.2.2.2.2.2.2.1 | exact X.2.2.2.2.2.2.2.2.2.1 | exact X.2.2.2.2.2.2.2.2.2.2.2.1 | exact X.2.2.2.2.2.2.2.2.2.2.2.2.2.1 | exact X.2.2.2.2.2.2.2.2.2.2.2.2.2.2.1 | exact X.2.2.2.2.2.2.2.2.2.2.2.2.2.2.2) rfl ?_
  refine j_callV (c_becomesS X.2.2.2.2.2.2.2.1 X.2.2.2.2.2.2.1 (Or.inl (by omega))) dX5_hiding_30 rfl mv_X5_124 (by first | exact X.1 | exact X.2.1 | exact X.2.2.2.1 | exact X.2.2.2.2.1 | exact X.2.2.2.2.2.2.1.o | exact X.2.2.2.2.2.2.1.c | exact X.2.2.2.2.2.2.1.i | exact X.2.2.2.2.2.2.1.p | exact X.2.2.2.2.2.2.1.d | exact X.2.2.2.2.2.2.2.1.o | exact X.2.2.2.2.2.2.2.2.1 | exact X.2.2.2.2.2.2.2.2.2.1 | exact X.2.2.2.2.2.2.2.2.2.2.2.1 | exact X.2.2.2.2.2.2.2.2.2.2.2.2.2.1 | exact X.2.2.2.2.2.2.2.2.2.2.2.2.2.2.1 | exact X.2.2.2.2.2.2.2.2.2.2.2.2.2.2.2) rfl ⟨(Nat.le_of_ble_eq_true rfl), (Nat.le_of_ble_eq_true rfl)⟩ ⟨(Nat.le_of_ble_eq_true rfl), (Nat.le_of_ble_eq_true rfl)⟩ (Nat.le_of_ble_eq_true rfl) ?_
  have X := X.fore d
  refine j_aload_n dX5_hiding_33 rfl rfl ?_
  refine j_getf dX5_hiding_34 5 5 rfl (Nat.le_of_ble_eq_true rfl) fl_X5_30 in_5 (by first | exact X.1 | exact X.2.1 | exact X.2.2.2.1 | exact X.2.2.2.2.1 | exact X.2.2.2.2.2.2.1.o | exact X.2.2.2.2.2.2.1.c | exact X.2.2.2.2.2.2.1.i | exact X.2.2.2.2.2.2.1.p | exact X.2.2.2.2.2.2.1.d | exact X.2.2.2.2.2.2.2.1.o | exact X.2.2.2.2.2.2.2.2.1 | exact X.2.2.2.2.2.2.2.2.2.1 | exact X.2.2.2.2.2.2.2.2.2.2.2.1 | exact X.2.2.2.2.2.2.2.2.2.2.2.2.2.1 | exact X.2.2.2.2.2.2.2.2.2.2.2.2.2.2.1 | exact X.2.2.2.2.2.2.2.2.2.2.2.2.2.2.2) rfl ?_
  refine j_callV (c_strikeOutMutualS X.2.2.2.2.2.2.2.1 hN) dX5_hiding_37 rfl mv_X5_210 (by first | exact X.1 | exact X.2.1 | exact X.2.2.2.1 | exact X.2.2.2.2.1 | exact X.2.2.2.2.2.2.1.o | exact X.2.2.2.2.2.2.1.c | exact X.2.2.2.2.2.2.1.i | exact X.2.2.2.2.2.2.1.p | exact X.2.2.2.2.2.2.1.d | exact X.2.2.2.2.2.2.2.1.o | exact X.2.2.2.2.2.2.2.2.1 | exact X.2.2.2.2.2.2.2.2.2.1 | exact X.2.2.2.2.2.2.2.2.2.2.2.1 | exact X.2.2.2.2.2.2.2.2.2.2.2.2.2.1 | exact X.2.2.2.2.2.2.2.2.2.2.2.2.2.2.1 | exact X.2.2.2.2.2.2.2.2.2.2.2.2.2.2.2) rfl ⟨(Nat.le_of_ble_eq_true rfl), (Nat.le_of_ble_eq_true rfl)⟩ ⟨(Nat.le_of_ble_eq_true rfl), (Nat.le_of_ble_eq_true rfl)⟩ (Nat.le_of_ble_eq_true rfl) ?_
  have X := X.fore (sC d, sI d, sP d, (strA (sN d) (sD d) (sN d)).1, sN d, sU d, sR d, sQ d, sH d, sF d)
  refine j_istore_n dX5_hiding_40 rfl (Nat.le_of_ble_eq_true rfl) rfl ?_
  refine j_iload_n dX5_hiding_41 rfl rfl ?_
  refine j_iconst (nI 1) dX5_hiding_42 rfl ?_
  refine j_icmp_neN 50 dX5_hiding_43 (by decide) (by omega) (by omega) (fun b43 => ?_) (fun b43 => ?_)
  · refine j_aload_n dX5_hiding_50 rfl rfl ?_
    refine j_callV (c_paler X hN hu hu2 rfl rfl) dX5_hiding_51 rfl mv_X5_214 (by first | exact X.1 | exact X.2.1 | exact X.2.2.2.1 | exact X.2.2.2.2.1 | exact X.2.2.2.2.2.2.1.o | exact X.2.2.2.2.2.2.1.c | exact X.2.2.2.2.2.2.1.i | exact X.2.2.2.2.2.2.1.p | exact X.2.2.2.2.2.2.1.d | exact X.2.2.2.2.2.2.2.1.o | exact X.2.2.2.2.2.2.2.2.1 | exact X.2.2.2.2.2.2.2.2.2.1 | exact X.2.2.2.2.2.2.2.2.2.2.2.1 | exact X.2.2.2.2.2.2.2.2.2.2.2.2.2.1 | exact X.2.2.2.2.2.2.2.2.2.2.2.2.2.2.1 | exact X.2.2.2.2.2.2.2.2.2.2.2.2.2.2.2) rfl ⟨(Nat.le_of_ble_eq_true rfl), (Nat.le_of_ble_eq_true rfl)⟩ ⟨(Nat.le_of_ble_eq_true rfl), (Nat.le_of_ble_eq_true rfl)⟩ (Nat.le_of_ble_eq_true rfl) ?_
    exact j_iret rfl dX5_hiding_54 (by first | rw [if_pos b43] | rw [if_neg b43]) rfl (Nat.le_of_ble_eq_true rfl) (Nat.le_of_ble_eq_true rfl)
  · refine j_iload_n dX5_hiding_46 rfl rfl ?_
    refine j_goto 54 dX5_hiding_47 (by decide) ?_
    exact j_iret rfl dX5_hiding_54 (by first | rw [if_pos b43] | rw [if_neg b43]) rfl (Nat.le_of_ble_eq_true rfl) (Nat.le_of_ble_eq_true rfl)
theorem x_run_state (X : XR σ lf fd rl rn ri tp rd dd d df nx kp da di tr bo ne) (t w : Int32) (h : sN d = 0) : Ct G yX5_run cX5_run 7 (some .int) 6 0 0 z σ [.ref 0, .int t, .int w] (some (.int (-1000002))) z σ := by
  refine Ct.ofJ RX5 rfl [some (.ref 0), some (.int t), some (.int w), none, none, none, none] rfl (by decide) (by simp [Value.category]) ?_
  refine j_aload_n dX5_run_0 rfl rfl ?_
  refine j_callV (c_isNoTown X) dX5_run_1 rfl mv_X5_170 (by first | exact X.1 | exact X.2.1 | exact X.2.2.2.1 | exact X.2.2.2.2.1 | exact X.2.2.2.2.2.2.1.o | exact X.2.2.2.2.2.2.1.c | exact X.2.2.2.2.2.2.1.i | exact X.2.2.2.2.2.2.1.p | exact X.2.2.2.2.2.2.1.d | exact X.2.2.2.2.2.2.2.1.o | exact X.2.2.2.2.2.2.2.2.1 | exact X.2.2.2.2.2.2.2.2.2.1 | exact X.2.2.2.2.2.2.2.2.2.2.2.1 | exact X.2.2.2.2.2.2.2.2.2.2.2.2.2.1 | exact X.2.2.2.2.2.2.2.2.2.2.2.2.2.2.1 | exact X.2.2.2.2.2.2.2.2.2.2.2.2.2.2.2) rfl ⟨(Nat.le_of_ble_eq_true rfl), (Nat.le_of_ble_eq_true rfl)⟩ ⟨(Nat.le_of_ble_eq_true rfl), (Nat.le_of_ble_eq_true rfl)⟩ (Nat.le_of_ble_eq_true rfl) ?_
  refine j_top (nI 1) (by rw [h]; rfl) ?_
  refine j_if_eq 10 dX5_run_4 (by decide) (fun h => absurd h (by decide)) (fun _ => ?_)
  refine j_ldc (-1000002) dX5_run_7 kc_X5_140 ?_
  exact j_iret rfl dX5_run_9 rfl rfl (Nat.le_of_ble_eq_true rfl) (Nat.le_of_ble_eq_true rfl)
theorem x_run_bad (X : XR σ lf fd rl rn ri tp rd dd d df nx kp da di tr bo ne) (t w : Int32) (hN : sN d ≤ 7) (h0 : 1 ≤ sN d) (h : t < nI 1 ∨ nI 9 < t ∨ w < 0 ∨ nI 2 < w) : Ct G yX5_run cX5_run 7 (some .int) 6 0 0 z σ [.ref 0, .int t, .int w] (some (.int (-1000001))) z σ := by
  refine Ct.ofJ RX5 rfl [some (.ref 0), some (.int t), some (.int w), none, none, none, none] rfl (by decide) (by simp [Value.category]) ?_
  refine j_aload_n dX5_run_0 rfl rfl ?_
  refine j_callV (c_isNoTown X) dX5_run_1 rfl mv_X5_170 (by first | exact X.1 | exact X.2.1 | exact X.2.2.2.1 | exact X.2.2.2.2.1 | exact X.2.2.2.2.2.2.1.o | exact X.2.2.2.2.2.2.1.c | exact X.2.2.2.2.2.2.1.i | exact X.2.2.2.2.2.2.1.p | exact X.2.2.2.2.2.2.1.d | exact X.2.2.2.2.2.2.2.1.o | exact X.2.2.2.2.2.2.2.2.1 | exact X.2.2.2.2.2.2.2.2.2.1 | exact X.2.2.2.2.2.2.2.2.2.2.2.1 | exact X.2.2.2.2.2.2.2.2.2.2.2.2.2.1 | exact X.2.2.2.2.2.2.2.2.2.2.2.2.2.2.1 | exact X.2.2.2.2.2.2.2.2.2.2.2.2.2.2.2) rfl ⟨(Nat.le_of_ble_eq_true rfl), (Nat.le_of_ble_eq_true rfl)⟩ ⟨(Nat.le_of_ble_eq_true rfl), (Nat.le_of_ble_eq_true rfl)⟩ (Nat.le_of_ble_eq_true rfl) ?_
  refine j_top (nI 0) (ntI_k h0 hN) ?_
  refine j_if_eq 10 dX5_run_4 (by decide) (fun _ => ?_) (fun h => absurd rfl h)
  refine j_iload_n dX5_run_10 rfl rfl ?_
  refine j_iconst (nI 1) dX5_run_11 rfl ?_
  refine j_icmp_lt 30 dX5_run_12 (by decide) (fun b12 => ?_) (fun b12 => ?_)
  · refine j_ldc (-1000001) dX5_run_30 kc_X5_59 ?_
    exact j_iret rfl dX5_run_32 rfl rfl (Nat.le_of_ble_eq_true rfl) (Nat.le_of_ble_eq_true rfl)
  · refine j_iload_n dX5_run_15 rfl rfl ?_
    refine j_bipush (nI 9) dX5_run_16 rfl ?_
    refine j_icmp_gt 30 dX5_run_18 (by decide) (fun b18 => ?_) (fun b18 => ?_)
    · refine j_ldc (-1000001) dX5_run_30 kc_X5_59 ?_
      exact j_iret rfl dX5_run_32 rfl rfl (Nat.le_of_ble_eq_true rfl) (Nat.le_of_ble_eq_true rfl)
    · refine j_iload_n dX5_run_21 rfl rfl ?_
      refine j_if_lt 30 dX5_run_22 (by decide) (fun b22 => ?_) (fun b22 => ?_)
      · refine j_ldc (-1000001) dX5_run_30 kc_X5_59 ?_
        exact j_iret rfl dX5_run_32 rfl rfl (Nat.le_of_ble_eq_true rfl) (Nat.le_of_ble_eq_true rfl)
      · refine j_iload_n dX5_run_25 rfl rfl ?_
        refine j_iconst (nI 2) dX5_run_26 rfl ?_
        refine j_icmp_le 33 dX5_run_27 (by decide) (fun b27 => ?_) (fun b27 => ?_)
        · exfalso
          rcases h with h | h | h | h
          · exact b12 h
          · exact b18 h
          · exact b22 h
          · exact absurd b27 (Int32.not_le.mpr h)
        · refine j_ldc (-1000001) dX5_run_30 kc_X5_59 ?_
          exact j_iret rfl dX5_run_32 rfl rfl (Nat.le_of_ble_eq_true rfl) (Nat.le_of_ble_eq_true rfl)
theorem x_run_ok (X : XR σ lf fd rl rn ri tp rd dd d df nx kp da di tr bo ne) {w : Nat} (t : Int32) (hN : sN d ≤ 7) (h0 : 1 ≤ sN d) (hu : 1 ≤ sU d) (hu2 : sU d ≤ 20) (h1 : ¬ t < nI 1) (h2 : ¬ nI 9 < t) (hw : w ≤ 2) : Ct G yX5_run cX5_run 7 (some .int) 6 0 0 z σ [.ref 0, .int t, .int (nI w)] (some (.int (if w = 0 then nI (rnL (sN d) 9 (sC d) (sD d) (seenI (sP d) (sD d) (sH d) t (sN d) (sU d) (sN d)) (seenI (sP d) (sD d) (sH d) t (sN d) (sU d) (sN d)) (nI 0) 0).2.2.2.2 else if w = 1 then (rnL (sN d) 9 (sC d) (sD d) (seenI (sP d) (sD d) (sH d) t (sN d) (sU d) (sN d)) (seenI (sP d) (sD d) (sH d) t (sN d) (sU d) (sN d)) (nI 0) 0).2.2.2.1 else (rnL (sN d) 9 (sC d) (sD d) (seenI (sP d) (sD d) (sH d) t (sN d) (sU d) (sN d)) (seenI (sP d) (sD d) (sH d) t (sN d) (sU d) (sN d)) (nI 0) 0).2.2.1))) z (twS (twS σ 30 d) 30 ((rnL (sN d) 9 (sC d) (sD d) (seenI (sP d) (sD d) (sH d) t (sN d) (sU d) (sN d)) (seenI (sP d) (sD d) (sH d) t (sN d) (sU d) (sN d)) (nI 0) 0).1, sI d, sP d, (rnL (sN d) 9 (sC d) (sD d) (seenI (sP d) (sD d) (sH d) t (sN d) (sU d) (sN d)) (seenI (sP d) (sD d) (sH d) t (sN d) (sU d) (sN d)) (nI 0) 0).2.1, sN d, sU d, sR d, sQ d, sH d, sF d)) := by
  refine Ct.ofJ RX5 rfl [some (.ref 0), some (.int t), some (.int (nI w)), none, none, none, none] rfl (by decide) (by simp [Value.category]) ?_
  refine j_aload_n dX5_run_0 rfl rfl ?_
  refine j_callV (c_isNoTown X) dX5_run_1 rfl mv_X5_170 (by first | exact X.1 | exact X.2.1 | exact X.2.2.2.1 | exact X.2.2.2.2.1 | exact X.2.2.2.2.2.2.1.o | exact X.2.2.2.2.2.2.1.c | exact X.2.2.2.2.2.2.1.i | exact X.2.2.2.2.2.2.1.p | exact X.2.2.2.2.2.2.1.d | exact X.2.2.2.2.2.2.2.1.o | exact X.2.2.2.2.2.2.2.2.1 | exact X.2.2.2.2.2.2.2.2.2.1 | exact X.2.2.2.2.2.2.2.2.2.2.2.1 | exact X.2.2.2.2.2.2.2.2.2.2.2.2.2.1 | exact X.2.2.2.2.2.2.2.2.2.2.2.2.2.2.1 | exact X.2.2.2.2.2.2.2.2.2.2.2.2.2.2.2) rfl ⟨(Nat.le_of_ble_eq_true rfl), (Nat.le_of_ble_eq_true rfl)⟩ ⟨(Nat.le_of_ble_eq_true rfl), (Nat.le_of_ble_eq_true rfl)⟩ (Nat.le_of_ble_eq_true rfl) ?_
  refine j_top (nI 0) (ntI_k h0 hN) ?_
  refine j_if_eq 10 dX5_run_4 (by decide) (fun _ => ?_) (fun h => absurd rfl h)
  refine j_iload_n dX5_run_10 rfl rfl ?_
  refine j_iconst (nI 1) dX5_run_11 rfl ?_
  refine j_icmp_lt 30 dX5_run_12 (by decide) (fun b12 => by exact absurd b12 h1) (fun b12 => ?_)
  refine j_iload_n dX5_run_15 rfl rfl ?_
  refine j_bipush (nI 9) dX5_run_16 rfl ?_
  refine j_icmp_gt 30 dX5_run_18 (by decide) (fun b18 => by exact absurd b18 h2) (fun b18 => ?_)
  refine j_iload_n dX5_run_21 rfl rfl ?_
  refine j_if_lt 30 dX5_run_22 (by decide) (fun b22 => by exact absurd b22 (nI_pos (by omega))) (fun b22 => ?_)
  refine j_iload_n dX5_run_25 rfl rfl ?_
  refine j_iconst (nI 2) dX5_run_26 rfl ?_
  refine j_icmp_leN 33 dX5_run_27 (by decide) (by omega) (by omega) (fun b27 => ?_) (fun b27 => by exfalso; omega)
  refine j_aload_n dX5_run_33 rfl rfl ?_
  refine j_getf dX5_run_34 5 5 rfl (Nat.le_of_ble_eq_true rfl) fl_X5_30 in_5 (by first | exact X.1 | exact X.2.1 | exact X.2.2.2.1 | exact X.2.2.2.2.1 | exact X.2.2.2.2.2.2.1.o | exact X.2.2.2.2.2.2.1.c | exact X.2.2.2.2.2.2.1.i | exact X.2.2.2.2.2.2.1.p | exact X.2.2.2.2.2.2.1.d | exact X.2.2.2.2.2.2.2.1.o | exact X.2.2.2.2.2.2.2.2.1 | exact X.2.2.2.2.2.2.2.2.2.1 | exact X.2.2.2.2.2.2.2.2.2.2.2.1 | exact X.2.2.2.2.2.2.2.2.2.2.2.2.2.1 | exact X.2.2.2.2.2.2.2.2.2.2.2.2.2.2.1 | exact X.2.2.2.2.2.2.2.2.2.2.2.2.2.2.2) rfl ?_
  refine j_aload_n dX5_run_37 rfl rfl ?_
  refine j_getf dX5_run_38 5 4 rfl (Nat.le_of_ble_eq_true rfl) fl_X5_26 in_5 (by first | exact X.1 | exact X.2.1 | exact X.2.2.2.1 | exact X.2.2.2.2.1 | exact X.2.2.2.2.2.2.1.o | exact X.2.2.2.2.2.2.1.c | exact X.2.2.2.2.2.2.1.i | exact X.2.2.2.2.2.2.1.p | exact X.2.2.2.2.2.2.1.d | exact X.2.2.2.2.2.2.2.1.o | exact X.2.2.2.2.2.2.2.2.1 | exact X.2.2.2.2.2.2.2.2.2.1 | exact X.2.2.2.2.2.2.2.2.2.2.2.1 | exact X.2.2.2.2.2.2.2.2.2.2.2.2.2.1 | exact X.2.2.2.2.2.2.2.2.2.2.2.2.2.2.1 | exact X.2.2.2.2.2.2.2.2.2.2.2.2.2.2.2) rfl ?_
  refine j_callV (c_becomesS X.2.2.2.2.2.2.2.1 X.2.2.2.2.2.2.1 (Or.inl (by omega))) dX5_run_41 rfl mv_X5_124 (by first | exact X.1 | exact X.2.1 | exact X.2.2.2.1 | exact X.2.2.2.2.1 | exact X.2.2.2.2.2.2.1.o | exact X.2.2.2.2.2.2.1.c | exact X.2.2.2.2.2.2.1.i | exact X.2.2.2.2.2.2.1.p | exact X.2.2.2.2.2.2.1.d | exact X.2.2.2.2.2.2.2.1.o | exact X.2.2.2.2.2.2.2.2.1 | exact X.2.2.2.2.2.2.2.2.2.1 | exact X.2.2.2.2.2.2.2.2.2.2.2.1 | exact X.2.2.2.2.2.2.2.2.2.2.2.2.2.1 | exact X.2.2.2.2.2.2.2.2.2.2.2.2.2.2.1 | exact X.2.2.2.2.2.2.2.2.2.2.2.2.2.2.2) rfl ⟨(Nat.le_of_ble_eq_true rfl), (Nat.le_of_ble_eq_true rfl)⟩ ⟨(Nat.le_of_ble_eq_true rfl), (Nat.le_of_ble_eq_true rfl)⟩ (Nat.le_of_ble_eq_true rfl) ?_
  have X := X.fore d
  refine j_aload_n dX5_run_44 rfl rfl ?_
  refine j_getf dX5_run_45 5 4 rfl (Nat.le_of_ble_eq_true rfl) fl_X5_26 in_5 (by first | exact X.1 | exact X.2.1 | exact X.2.2.2.1 | exact X.2.2.2.2.1 | exact X.2.2.2.2.2.2.1.o | exact X.2.2.2.2.2.2.1.c | exact X.2.2.2.2.2.2.1.i | exact X.2.2.2.2.2.2.1.p | exact X.2.2.2.2.2.2.1.d | exact X.2.2.2.2.2.2.2.1.o | exact X.2.2.2.2.2.2.2.2.1 | exact X.2.2.2.2.2.2.2.2.2.1 | exact X.2.2.2.2.2.2.2.2.2.2.2.1 | exact X.2.2.2.2.2.2.2.2.2.2.2.2.2.1 | exact X.2.2.2.2.2.2.2.2.2.2.2.2.2.2.1 | exact X.2.2.2.2.2.2.2.2.2.2.2.2.2.2.2) rfl ?_
  refine j_iload_n dX5_run_48 rfl rfl ?_
  refine j_callV (c_seenFromS X.2.2.2.2.2.2.1 t hN hu hu2) dX5_run_49 rfl mv_X5_221 (by first | exact X.1 | exact X.2.1 | exact X.2.2.2.1 | exact X.2.2.2.2.1 | exact X.2.2.2.2.2.2.1.o | exact X.2.2.2.2.2.2.1.c | exact X.2.2.2.2.2.2.1.i | exact X.2.2.2.2.2.2.1.p | exact X.2.2.2.2.2.2.1.d | exact X.2.2.2.2.2.2.2.1.o | exact X.2.2.2.2.2.2.2.2.1 | exact X.2.2.2.2.2.2.2.2.2.1 | exact X.2.2.2.2.2.2.2.2.2.2.2.1 | exact X.2.2.2.2.2.2.2.2.2.2.2.2.2.1 | exact X.2.2.2.2.2.2.2.2.2.2.2.2.2.2.1 | exact X.2.2.2.2.2.2.2.2.2.2.2.2.2.2.2) rfl ⟨(Nat.le_of_ble_eq_true rfl), (Nat.le_of_ble_eq_true rfl)⟩ ⟨(Nat.le_of_ble_eq_true rfl), (Nat.le_of_ble_eq_true rfl)⟩ (Nat.le_of_ble_eq_true rfl) ?_
  refine j_istore_n dX5_run_52 rfl (Nat.le_of_ble_eq_true rfl) rfl ?_
  refine j_iload_n dX5_run_53 rfl rfl ?_
  refine j_istore dX5_run_54 (Nat.le_of_ble_eq_true rfl) rfl ?_
  refine j_iconst (nI 0) dX5_run_56 rfl ?_
  refine j_istore dX5_run_57 (Nat.le_of_ble_eq_true rfl) rfl ?_
  refine j_iconst (nI 0) dX5_run_59 rfl ?_
  refine j_istore dX5_run_60 (Nat.le_of_ble_eq_true rfl) rfl ?_
  suffices H : ∀ (f r : Nat) (ca de : Nat → Int32) (cl nw ow : Int32), r + f = 9 → rnL (sN d) f ca de cl nw ow r = (rnL (sN d) 9 (sC d) (sD d) (seenI (sP d) (sD d) (sH d) t (sN d) (sU d) (sN d)) (seenI (sP d) (sD d) (sH d) t (sN d) (sU d) (sN d)) (nI 0) 0) → J G RX5 cX5_run 7 (some .int) (TQ G 6 0 0 (some (.int (if w = 0 then nI (rnL (sN d) 9 (sC d) (sD d) (seenI (sP d) (sD d) (sH d) t (sN d) (sU d) (sN d)) (seenI (sP d) (sD d) (sH d) t (sN d) (sU d) (sN d)) (nI 0) 0).2.2.2.2 else if w = 1 then (rnL (sN d) 9 (sC d) (sD d) (seenI (sP d) (sD d) (sH d) t (sN d) (sU d) (sN d)) (seenI (sP d) (sD d) (sH d) t (sN d) (sU d) (sN d)) (nI 0) 0).2.2.2.1 else (rnL (sN d) 9 (sC d) (sD d) (seenI (sP d) (sD d) (sH d) t (sN d) (sU d) (sN d)) (seenI (sP d) (sD d) (sH d) t (sN d) (sU d) (sN d)) (nI 0) 0).2.2.1))) z (twS (twS σ 30 d) 30 ((rnL (sN d) 9 (sC d) (sD d) (seenI (sP d) (sD d) (sH d) t (sN d) (sU d) (sN d)) (seenI (sP d) (sD d) (sH d) t (sN d) (sU d) (sN d)) (nI 0) 0).1, sI d, sP d, (rnL (sN d) 9 (sC d) (sD d) (seenI (sP d) (sD d) (sH d) t (sN d) (sU d) (sN d)) (seenI (sP d) (sD d) (sH d) t (sN d) (sU d) (sN d)) (nI 0) 0).2.1, sN d, sU d, sR d, sQ d, sH d, sF d))) z (twS (twS σ 30 d) 30 (ca, sI d, sP d, de, sN d, sU d, sR d, sQ d, sH d, sF d)) 0 0 62 [some (.ref 0), some (.int t), some (.int (nI w)), some (.int cl), some (.int nw), some (.int ow), some (.int (nI r))] [] from (by have H0 := H 9 0 (sC d) (sD d) (seenI (sP d) (sD d) (sH d) t (sN d) (sU d) (sN d)) (seenI (sP d) (sD d) (sH d) t (sN d) (sU d) (sN d)) (nI 0) rfl rfl; rw [show twS (twS σ 30 d) 30 (sC d, sI d, sP d, sD d, sN d, sU d, sR d, sQ d, sH d, sF d) = twS σ 30 d from Tat.new] at H0; exact H0)
  have hend : ∀ (r : Nat) (ca de : Nat → Int32) (cl nw ow : Int32), r ≤ 9 → (ca, de, cl, ow, r) = (rnL (sN d) 9 (sC d) (sD d) (seenI (sP d) (sD d) (sH d) t (sN d) (sU d) (sN d)) (seenI (sP d) (sD d) (sH d) t (sN d) (sU d) (sN d)) (nI 0) 0) → J G RX5 cX5_run 7 (some .int) (TQ G 6 0 0 (some (.int (if w = 0 then nI (rnL (sN d) 9 (sC d) (sD d) (seenI (sP d) (sD d) (sH d) t (sN d) (sU d) (sN d)) (seenI (sP d) (sD d) (sH d) t (sN d) (sU d) (sN d)) (nI 0) 0).2.2.2.2 else if w = 1 then (rnL (sN d) 9 (sC d) (sD d) (seenI (sP d) (sD d) (sH d) t (sN d) (sU d) (sN d)) (seenI (sP d) (sD d) (sH d) t (sN d) (sU d) (sN d)) (nI 0) 0).2.2.2.1 else (rnL (sN d) 9 (sC d) (sD d) (seenI (sP d) (sD d) (sH d) t (sN d) (sU d) (sN d)) (seenI (sP d) (sD d) (sH d) t (sN d) (sU d) (sN d)) (nI 0) 0).2.2.1))) z (twS (twS σ 30 d) 30 ((rnL (sN d) 9 (sC d) (sD d) (seenI (sP d) (sD d) (sH d) t (sN d) (sU d) (sN d)) (seenI (sP d) (sD d) (sH d) t (sN d) (sU d) (sN d)) (nI 0) 0).1, sI d, sP d, (rnL (sN d) 9 (sC d) (sD d) (seenI (sP d) (sD d) (sH d) t (sN d) (sU d) (sN d)) (seenI (sP d) (sD d) (sH d) t (sN d) (sU d) (sN d)) (nI 0) 0).2.1, sN d, sU d, sR d, sQ d, sH d, sF d))) z (twS (twS σ 30 d) 30 (ca, sI d, sP d, de, sN d, sU d, sR d, sQ d, sH d, sF d)) 0 0 110 [some (.ref 0), some (.int t), some (.int (nI w)), some (.int cl), some (.int nw), some (.int ow), some (.int (nI r))] [] := by
    intro r ca de cl nw ow hr he
    rw [← he]
    refine j_iload_n dX5_run_110 rfl rfl ?_
    refine j_if_ne 117 dX5_run_111 (by decide) (fun b111 => ?_) (fun b111 => ?_)
    · refine j_iload_n dX5_run_117 rfl rfl ?_
      refine j_iconst (nI 1) dX5_run_118 rfl ?_
      refine j_icmp_neN 127 dX5_run_119 (by decide) (by omega) (by omega) (fun b119 => ?_) (fun b119 => ?_)
      · refine j_iload_n dX5_run_127 rfl rfl ?_
        exact j_iret rfl dX5_run_128 (by rw [if_neg (fun q => b111 (by rw [q]; rfl))]; first | rw [if_pos b119] | rw [if_neg b119]) rfl (Nat.le_of_ble_eq_true rfl) (Nat.le_of_ble_eq_true rfl)
      · refine j_iload dX5_run_122 rfl ?_
        refine j_goto 128 dX5_run_124 (by decide) ?_
        exact j_iret rfl dX5_run_128 (by rw [if_neg (fun q => b111 (by rw [q]; rfl))]; first | rw [if_pos b119] | rw [if_neg b119]) rfl (Nat.le_of_ble_eq_true rfl) (Nat.le_of_ble_eq_true rfl)
    · refine j_iload dX5_run_114 rfl ?_
      exact j_iret rfl dX5_run_116 (by rw [if_pos ((nI_eq (a := w) (b := 0) (by omega) (by omega)).mp b111)]) rfl (Nat.le_of_ble_eq_true rfl) (Nat.le_of_ble_eq_true rfl)
  intro f
  induction f with
  | zero =>
    intro r ca de cl nw ow hr he
    have X := X.fore (ca, sI d, sP d, de, sN d, sU d, sR d, sQ d, sH d, sF d)
    refine j_iload dX5_run_62 rfl ?_
    refine j_if_eq 110 dX5_run_64 (by decide) (fun b64 => ?_) (fun b64 => ?_)
    · exact hend r ca de cl nw ow (by omega) he
    · refine j_iload dX5_run_67 rfl ?_
      refine j_bipush (nI 7) dX5_run_69 rfl ?_
      refine j_icmp_gtN 110 dX5_run_71 (by decide) (by omega) (by omega) (fun b71 => ?_) (fun b71 => by exfalso; omega)
      exact hend r ca de cl nw ow (by omega) he
  | succ f ih =>
    intro r ca de cl nw ow hr he
    have X := X.fore (ca, sI d, sP d, de, sN d, sU d, sR d, sQ d, sH d, sF d)
    unfold rnL at he
    refine j_iload dX5_run_62 rfl ?_
    refine j_if_eq 110 dX5_run_64 (by decide) (fun b64 => ?_) (fun b64 => ?_)
    · refine hend r ca de cl nw ow (by omega) ?_
      first | (rw [if_pos b64] at he; exact he) | (rw [if_neg b64, if_pos b71] at he; exact he)
    · refine j_iload dX5_run_67 rfl ?_
      refine j_bipush (nI 7) dX5_run_69 rfl ?_
      refine j_icmp_gtN 110 dX5_run_71 (by decide) (by omega) (by omega) (fun b71 => ?_) (fun b71 => ?_)
      · refine hend r ca de cl nw ow (by omega) ?_
        first | (rw [if_pos b64] at he; exact he) | (rw [if_neg b64, if_pos b71] at he; exact he)
      · first | refine j_iincN dX5_run_74 rfl (Nat.le_of_ble_eq_true rfl) rfl ?_ | refine j_iinc _ dX5_run_74 rfl rfl (Nat.le_of_ble_eq_true rfl) rfl ?_
        refine j_aload_n dX5_run_77 rfl rfl ?_
        refine j_getf dX5_run_78 5 5 rfl (Nat.le_of_ble_eq_true rfl) fl_X5_30 in_5 (by first | exact X.1 | exact X.2.1 | exact X.2.2.2.1 | exact X.2.2.2.2.1 | exact X.2.2.2.2.2.2.1.o | exact X.2.2.2.2.2.2.1.c | exact X.2.2.2.2.2.2.1.i | exact X.2.2.2.2.2.2.1.p | exact X.2.2.2.2.2.2.1.d | exact X.2.2.2.2.2.2.2.1.o | exact X.2.2.2.2.2.2.2.2.1 | exact X.2.2.2.2.2.2.2.2.2.1 | exact X.2.2.2.2.2.2.2.2.2.2.2.1 | exact X.2.2.2.2.2.2.2.2.2.2.2.2.2.1 | exact X.2.2.2.2.2.2.2.2.2.2.2.2.2.2.1 | exact X.2.2.2.2.2.2.2.2.2.2.2.2.2.2.2) rfl ?_
        refine j_iload_n dX5_run_81 rfl rfl ?_
        refine j_callV (c_settleAllS X.2.2.2.2.2.2.2.1 cl hN) dX5_run_82 rfl mv_X5_224 (by first | exact X.1 | exact X.2.1 | exact X.2.2.2.1 | exact X.2.2.2.2.1 | exact X.2.2.2.2.2.2.1.o | exact X.2.2.2.2.2.2.1.c | exact X.2.2.2.2.2.2.1.i | exact X.2.2.2.2.2.2.1.p | exact X.2.2.2.2.2.2.1.d | exact X.2.2.2.2.2.2.2.1.o | exact X.2.2.2.2.2.2.2.2.1 | exact X.2.2.2.2.2.2.2.2.2.1 | exact X.2.2.2.2.2.2.2.2.2.2.2.1 | exact X.2.2.2.2.2.2.2.2.2.2.2.2.2.1 | exact X.2.2.2.2.2.2.2.2.2.2.2.2.2.2.1 | exact X.2.2.2.2.2.2.2.2.2.2.2.2.2.2.2) rfl ⟨(Nat.le_of_ble_eq_true rfl), (Nat.le_of_ble_eq_true rfl)⟩ ⟨(Nat.le_of_ble_eq_true rfl), (Nat.le_of_ble_eq_true rfl)⟩ (Nat.le_of_ble_eq_true rfl) ?_
        have X := X.fore ((stA (sN d) cl ca de (sN d)).1, sI d, sP d, (stA (sN d) cl ca de (sN d)).2.1, sN d, sU d, sR d, sQ d, sH d, sF d)
        refine j_istore dX5_run_85 (Nat.le_of_ble_eq_true rfl) rfl ?_
        refine j_aload_n dX5_run_87 rfl rfl ?_
        refine j_getf dX5_run_88 5 5 rfl (Nat.le_of_ble_eq_true rfl) fl_X5_30 in_5 (by first | exact X.1 | exact X.2.1 | exact X.2.2.2.1 | exact X.2.2.2.2.1 | exact X.2.2.2.2.2.2.1.o | exact X.2.2.2.2.2.2.1.c | exact X.2.2.2.2.2.2.1.i | exact X.2.2.2.2.2.2.1.p | exact X.2.2.2.2.2.2.1.d | exact X.2.2.2.2.2.2.2.1.o | exact X.2.2.2.2.2.2.2.2.1 | exact X.2.2.2.2.2.2.2.2.2.1 | exact X.2.2.2.2.2.2.2.2.2.2.2.1 | exact X.2.2.2.2.2.2.2.2.2.2.2.2.2.1 | exact X.2.2.2.2.2.2.2.2.2.2.2.2.2.2.1 | exact X.2.2.2.2.2.2.2.2.2.2.2.2.2.2.2) rfl ?_
        refine j_iload dX5_run_91 rfl ?_
        refine j_callV (c_lendersOfS X.2.2.2.2.2.2.2.1 _ hN) dX5_run_93 rfl mv_X5_227 (by first | exact X.1 | exact X.2.1 | exact X.2.2.2.1 | exact X.2.2.2.2.1 | exact X.2.2.2.2.2.2.1.o | exact X.2.2.2.2.2.2.1.c | exact X.2.2.2.2.2.2.1.i | exact X.2.2.2.2.2.2.1.p | exact X.2.2.2.2.2.2.1.d | exact X.2.2.2.2.2.2.2.1.o | exact X.2.2.2.2.2.2.2.2.1 | exact X.2.2.2.2.2.2.2.2.2.1 | exact X.2.2.2.2.2.2.2.2.2.2.2.1 | exact X.2.2.2.2.2.2.2.2.2.2.2.2.2.1 | exact X.2.2.2.2.2.2.2.2.2.2.2.2.2.2.1 | exact X.2.2.2.2.2.2.2.2.2.2.2.2.2.2.2) rfl ⟨(Nat.le_of_ble_eq_true rfl), (Nat.le_of_ble_eq_true rfl)⟩ ⟨(Nat.le_of_ble_eq_true rfl), (Nat.le_of_ble_eq_true rfl)⟩ (Nat.le_of_ble_eq_true rfl) ?_
        refine j_iload_n dX5_run_96 rfl rfl ?_
        refine j_iconst (-1) dX5_run_97 rfl ?_
        refine j_ixor dX5_run_98 ?_
        refine j_iand dX5_run_99 ?_
        refine j_istore dX5_run_100 (Nat.le_of_ble_eq_true rfl) rfl ?_
        refine j_iload_n dX5_run_102 rfl rfl ?_
        refine j_iload dX5_run_103 rfl ?_
        refine j_ior dX5_run_105 ?_
        refine j_istore_n dX5_run_106 rfl (Nat.le_of_ble_eq_true rfl) rfl ?_
        refine j_goto 62 dX5_run_107 (by decide) ?_
        rw [if_neg b64, if_neg (by omega)] at he
        have ih2 := ih (r + 1) _ _ _ _ _ (by omega) he
        rw [show twS (twS σ 30 d) 30 ((stA (sN d) cl ca de (sN d)).1, sI d, sP d, (stA (sN d) cl ca de (sN d)).2.1, sN d, sU d, sR d, sQ d, sH d, sF d) = twS (twS (twS σ 30 d) 30 (ca, sI d, sP d, de, sN d, sU d, sR d, sQ d, sH d, sF d)) 30 ((stA (sN d) cl ca de (sN d)).1, sI d, sP d, (stA (sN d) cl ca de (sN d)).2.1, sN d, sU d, sR d, sQ d, sH d, sF d) from tw_tw.symm] at ih2
        exact ih2
end O6
end
section
/-! THE CLASS's calls: fits, feed -/
def wiI (x : Int32) (m : Nat) : Int32 := if x < 0 then nI 0 else if nI m < x then nI 0 else nI 1
def okI (x y : Int32) : Prop := ¬ x < 0 ∧ ¬ nI 9 < x ∧ ¬ y < -9 ∧ y ≤ nI 9
def ftC (it : Nat → Int32) (i m ab ba ca : Nat) : Prop := (¬ wiI (it i - nI ab) m = 0 ∧ ¬ wiI (it (i + 1) - nI ba) m = 0 ∧ ¬ wiI (it (i + 2) - nI ca) m = 0) ∧ nI ba + nI ca - nI ab - (it i - nI ab) = it (i + 3) ∧ nI ab + (it (i + 2) - nI ca) - nI ba - (it (i + 1) - nI ba) = it (i + 4) ∧ (it i - nI ab) + (it (i + 1) - nI ba) - nI ca - (it (i + 2) - nI ca) = it (i + 5)
theorem ftC_dec (it : Nat → Int32) (i m ab ba ca : Nat) : Nonempty (Decidable (ftC it i m ab ba ca)) := ⟨by unfold ftC; exact inferInstance⟩
noncomputable def ftN (it : Nat → Int32) (i m ab ba : Nat) (c : Nat) : Nat → Nat
  | 0 => c
  | k + 1 => @ite Nat (ftC it i m ab ba k) (Classical.propDecidable _) (ftN it i m ab ba c k + 1) (ftN it i m ab ba c k)
noncomputable def ftB (it : Nat → Int32) (i m ab : Nat) (c : Nat) : Nat → Nat
  | 0 => c
  | k + 1 => ftN it i m ab k (ftB it i m ab c k) (m + 1)
noncomputable def ftA (it : Nat → Int32) (i m : Nat) : Nat → Nat
  | 0 => 0
  | k + 1 => ftB it i m k (ftA it i m k) (m + 1)
theorem dX5_areShadesAndNets_0 : decode cX5_areShadesAndNets 0 = .ok (.iconst 0, 1) := by decide +kernel
theorem dX5_areShadesAndNets_1 : decode cX5_areShadesAndNets 1 = .ok (.istore_n 2, 1) := by decide +kernel
theorem dX5_areShadesAndNets_2 : decode cX5_areShadesAndNets 2 = .ok (.iload_n 2, 1) := by decide +kernel
theorem dX5_areShadesAndNets_3 : decode cX5_areShadesAndNets 3 = .ok (.iconst 3, 1) := by decide +kernel
theorem dX5_areShadesAndNets_4 : decode cX5_areShadesAndNets 4 = .ok (.if_icmp .ge 50, 3) := by decide +kernel
theorem dX5_areShadesAndNets_7 : decode cX5_areShadesAndNets 7 = .ok (.aload_n 0, 1) := by decide +kernel
theorem dX5_areShadesAndNets_8 : decode cX5_areShadesAndNets 8 = .ok (.iload_n 1, 1) := by decide +kernel
theorem dX5_areShadesAndNets_9 : decode cX5_areShadesAndNets 9 = .ok (.iload_n 2, 1) := by decide +kernel
theorem dX5_areShadesAndNets_10 : decode cX5_areShadesAndNets 10 = .ok (.iadd, 1) := by decide +kernel
theorem dX5_areShadesAndNets_11 : decode cX5_areShadesAndNets 11 = .ok (.iaload, 1) := by decide +kernel
theorem dX5_areShadesAndNets_12 : decode cX5_areShadesAndNets 12 = .ok (.istore_n 3, 1) := by decide +kernel
theorem dX5_areShadesAndNets_13 : decode cX5_areShadesAndNets 13 = .ok (.aload_n 0, 1) := by decide +kernel
theorem dX5_areShadesAndNets_14 : decode cX5_areShadesAndNets 14 = .ok (.iload_n 1, 1) := by decide +kernel
theorem dX5_areShadesAndNets_15 : decode cX5_areShadesAndNets 15 = .ok (.iconst 3, 1) := by decide +kernel
theorem dX5_areShadesAndNets_16 : decode cX5_areShadesAndNets 16 = .ok (.iadd, 1) := by decide +kernel
theorem dX5_areShadesAndNets_17 : decode cX5_areShadesAndNets 17 = .ok (.iload_n 2, 1) := by decide +kernel
theorem dX5_areShadesAndNets_18 : decode cX5_areShadesAndNets 18 = .ok (.iadd, 1) := by decide +kernel
theorem dX5_areShadesAndNets_19 : decode cX5_areShadesAndNets 19 = .ok (.iaload, 1) := by decide +kernel
theorem dX5_areShadesAndNets_20 : decode cX5_areShadesAndNets 20 = .ok (.istore 4, 2) := by decide +kernel
theorem dX5_areShadesAndNets_22 : decode cX5_areShadesAndNets 22 = .ok (.iload_n 3, 1) := by decide +kernel
theorem dX5_areShadesAndNets_23 : decode cX5_areShadesAndNets 23 = .ok (.ifCond .lt 23, 3) := by decide +kernel
theorem dX5_areShadesAndNets_26 : decode cX5_areShadesAndNets 26 = .ok (.iload_n 3, 1) := by decide +kernel
theorem dX5_areShadesAndNets_27 : decode cX5_areShadesAndNets 27 = .ok (.bipush 9, 2) := by decide +kernel
theorem dX5_areShadesAndNets_29 : decode cX5_areShadesAndNets 29 = .ok (.if_icmp .gt 17, 3) := by decide +kernel
theorem dX5_areShadesAndNets_32 : decode cX5_areShadesAndNets 32 = .ok (.iload 4, 2) := by decide +kernel
theorem dX5_areShadesAndNets_34 : decode cX5_areShadesAndNets 34 = .ok (.bipush (-9), 2) := by decide +kernel
theorem dX5_areShadesAndNets_36 : decode cX5_areShadesAndNets 36 = .ok (.if_icmp .lt 10, 3) := by decide +kernel
theorem dX5_areShadesAndNets_39 : decode cX5_areShadesAndNets 39 = .ok (.iload 4, 2) := by decide +kernel
theorem dX5_areShadesAndNets_41 : decode cX5_areShadesAndNets 41 = .ok (.bipush 9, 2) := by decide +kernel
theorem dX5_areShadesAndNets_43 : decode cX5_areShadesAndNets 43 = .ok (.if_icmp .le 5, 3) := by decide +kernel
theorem dX5_areShadesAndNets_46 : decode cX5_areShadesAndNets 46 = .ok (.iconst 0, 1) := by decide +kernel
theorem dX5_areShadesAndNets_47 : decode cX5_areShadesAndNets 47 = .ok (.ireturn, 1) := by decide +kernel
theorem dX5_areShadesAndNets_48 : decode cX5_areShadesAndNets 48 = .ok (.iinc 2 1, 3) := by decide +kernel
theorem dX5_areShadesAndNets_51 : decode cX5_areShadesAndNets 51 = .ok (.goto (-49), 3) := by decide +kernel
theorem dX5_areShadesAndNets_54 : decode cX5_areShadesAndNets 54 = .ok (.iconst 1, 1) := by decide +kernel
theorem dX5_areShadesAndNets_55 : decode cX5_areShadesAndNets 55 = .ok (.ireturn, 1) := by decide +kernel
theorem dX5_waysToFit_0 : decode cX5_waysToFit 0 = .ok (.iconst 0, 1) := by decide +kernel
theorem dX5_waysToFit_1 : decode cX5_waysToFit 1 = .ok (.istore_n 3, 1) := by decide +kernel
theorem dX5_waysToFit_2 : decode cX5_waysToFit 2 = .ok (.iconst 0, 1) := by decide +kernel
theorem dX5_waysToFit_3 : decode cX5_waysToFit 3 = .ok (.istore 4, 2) := by decide +kernel
theorem dX5_waysToFit_5 : decode cX5_waysToFit 5 = .ok (.iload 4, 2) := by decide +kernel
theorem dX5_waysToFit_7 : decode cX5_waysToFit 7 = .ok (.iload_n 2, 1) := by decide +kernel
theorem dX5_waysToFit_8 : decode cX5_waysToFit 8 = .ok (.if_icmp .gt 166, 3) := by decide +kernel
theorem dX5_waysToFit_11 : decode cX5_waysToFit 11 = .ok (.aload_n 0, 1) := by decide +kernel
theorem dX5_waysToFit_12 : decode cX5_waysToFit 12 = .ok (.iload_n 1, 1) := by decide +kernel
theorem dX5_waysToFit_13 : decode cX5_waysToFit 13 = .ok (.iaload, 1) := by decide +kernel
theorem dX5_waysToFit_14 : decode cX5_waysToFit 14 = .ok (.iload 4, 2) := by decide +kernel
theorem dX5_waysToFit_16 : decode cX5_waysToFit 16 = .ok (.isub, 1) := by decide +kernel
theorem dX5_waysToFit_17 : decode cX5_waysToFit 17 = .ok (.istore 5, 2) := by decide +kernel
theorem dX5_waysToFit_19 : decode cX5_waysToFit 19 = .ok (.iconst 0, 1) := by decide +kernel
theorem dX5_waysToFit_20 : decode cX5_waysToFit 20 = .ok (.istore 6, 2) := by decide +kernel
theorem dX5_waysToFit_22 : decode cX5_waysToFit 22 = .ok (.iload 6, 2) := by decide +kernel
theorem dX5_waysToFit_24 : decode cX5_waysToFit 24 = .ok (.iload_n 2, 1) := by decide +kernel
theorem dX5_waysToFit_25 : decode cX5_waysToFit 25 = .ok (.if_icmp .gt 143, 3) := by decide +kernel
theorem dX5_waysToFit_28 : decode cX5_waysToFit 28 = .ok (.aload_n 0, 1) := by decide +kernel
theorem dX5_waysToFit_29 : decode cX5_waysToFit 29 = .ok (.iload_n 1, 1) := by decide +kernel
theorem dX5_waysToFit_30 : decode cX5_waysToFit 30 = .ok (.iconst 1, 1) := by decide +kernel
theorem dX5_waysToFit_31 : decode cX5_waysToFit 31 = .ok (.iadd, 1) := by decide +kernel
theorem dX5_waysToFit_32 : decode cX5_waysToFit 32 = .ok (.iaload, 1) := by decide +kernel
theorem dX5_waysToFit_33 : decode cX5_waysToFit 33 = .ok (.iload 6, 2) := by decide +kernel
theorem dX5_waysToFit_35 : decode cX5_waysToFit 35 = .ok (.isub, 1) := by decide +kernel
theorem dX5_waysToFit_36 : decode cX5_waysToFit 36 = .ok (.istore 7, 2) := by decide +kernel
theorem dX5_waysToFit_38 : decode cX5_waysToFit 38 = .ok (.iconst 0, 1) := by decide +kernel
theorem dX5_waysToFit_39 : decode cX5_waysToFit 39 = .ok (.istore 8, 2) := by decide +kernel
theorem dX5_waysToFit_41 : decode cX5_waysToFit 41 = .ok (.iload 8, 2) := by decide +kernel
theorem dX5_waysToFit_43 : decode cX5_waysToFit 43 = .ok (.iload_n 2, 1) := by decide +kernel
theorem dX5_waysToFit_44 : decode cX5_waysToFit 44 = .ok (.if_icmp .gt 118, 3) := by decide +kernel
theorem dX5_waysToFit_47 : decode cX5_waysToFit 47 = .ok (.aload_n 0, 1) := by decide +kernel
theorem dX5_waysToFit_48 : decode cX5_waysToFit 48 = .ok (.iload_n 1, 1) := by decide +kernel
theorem dX5_waysToFit_49 : decode cX5_waysToFit 49 = .ok (.iconst 2, 1) := by decide +kernel
theorem dX5_waysToFit_50 : decode cX5_waysToFit 50 = .ok (.iadd, 1) := by decide +kernel
theorem dX5_waysToFit_51 : decode cX5_waysToFit 51 = .ok (.iaload, 1) := by decide +kernel
theorem dX5_waysToFit_52 : decode cX5_waysToFit 52 = .ok (.iload 8, 2) := by decide +kernel
theorem dX5_waysToFit_54 : decode cX5_waysToFit 54 = .ok (.isub, 1) := by decide +kernel
theorem dX5_waysToFit_55 : decode cX5_waysToFit 55 = .ok (.istore 9, 2) := by decide +kernel
theorem dX5_waysToFit_57 : decode cX5_waysToFit 57 = .ok (.iload 5, 2) := by decide +kernel
theorem dX5_waysToFit_59 : decode cX5_waysToFit 59 = .ok (.iload_n 2, 1) := by decide +kernel
theorem dX5_waysToFit_60 : decode cX5_waysToFit 60 = .ok (.invokestatic 259, 3) := by decide +kernel
theorem dX5_waysToFit_63 : decode cX5_waysToFit 63 = .ok (.ifCond .eq 25, 3) := by decide +kernel
theorem dX5_waysToFit_66 : decode cX5_waysToFit 66 = .ok (.iload 7, 2) := by decide +kernel
theorem dX5_waysToFit_68 : decode cX5_waysToFit 68 = .ok (.iload_n 2, 1) := by decide +kernel
theorem dX5_waysToFit_69 : decode cX5_waysToFit 69 = .ok (.invokestatic 259, 3) := by decide +kernel
theorem dX5_waysToFit_72 : decode cX5_waysToFit 72 = .ok (.ifCond .eq 16, 3) := by decide +kernel
theorem dX5_waysToFit_75 : decode cX5_waysToFit 75 = .ok (.iload 9, 2) := by decide +kernel
theorem dX5_waysToFit_77 : decode cX5_waysToFit 77 = .ok (.iload_n 2, 1) := by decide +kernel
theorem dX5_waysToFit_78 : decode cX5_waysToFit 78 = .ok (.invokestatic 259, 3) := by decide +kernel
theorem dX5_waysToFit_81 : decode cX5_waysToFit 81 = .ok (.ifCond .eq 7, 3) := by decide +kernel
theorem dX5_waysToFit_84 : decode cX5_waysToFit 84 = .ok (.iconst 1, 1) := by decide +kernel
theorem dX5_waysToFit_85 : decode cX5_waysToFit 85 = .ok (.goto 4, 3) := by decide +kernel
theorem dX5_waysToFit_88 : decode cX5_waysToFit 88 = .ok (.iconst 0, 1) := by decide +kernel
theorem dX5_waysToFit_89 : decode cX5_waysToFit 89 = .ok (.istore 10, 2) := by decide +kernel
theorem dX5_waysToFit_91 : decode cX5_waysToFit 91 = .ok (.iload 10, 2) := by decide +kernel
theorem dX5_waysToFit_93 : decode cX5_waysToFit 93 = .ok (.ifCond .eq 63, 3) := by decide +kernel
theorem dX5_waysToFit_96 : decode cX5_waysToFit 96 = .ok (.iload 6, 2) := by decide +kernel
theorem dX5_waysToFit_98 : decode cX5_waysToFit 98 = .ok (.iload 8, 2) := by decide +kernel
theorem dX5_waysToFit_100 : decode cX5_waysToFit 100 = .ok (.iadd, 1) := by decide +kernel
theorem dX5_waysToFit_101 : decode cX5_waysToFit 101 = .ok (.iload 4, 2) := by decide +kernel
theorem dX5_waysToFit_103 : decode cX5_waysToFit 103 = .ok (.isub, 1) := by decide +kernel
theorem dX5_waysToFit_104 : decode cX5_waysToFit 104 = .ok (.iload 5, 2) := by decide +kernel
theorem dX5_waysToFit_106 : decode cX5_waysToFit 106 = .ok (.isub, 1) := by decide +kernel
theorem dX5_waysToFit_107 : decode cX5_waysToFit 107 = .ok (.aload_n 0, 1) := by decide +kernel
theorem dX5_waysToFit_108 : decode cX5_waysToFit 108 = .ok (.iload_n 1, 1) := by decide +kernel
theorem dX5_waysToFit_109 : decode cX5_waysToFit 109 = .ok (.iconst 3, 1) := by decide +kernel
theorem dX5_waysToFit_110 : decode cX5_waysToFit 110 = .ok (.iadd, 1) := by decide +kernel
theorem dX5_waysToFit_111 : decode cX5_waysToFit 111 = .ok (.iaload, 1) := by decide +kernel
theorem dX5_waysToFit_112 : decode cX5_waysToFit 112 = .ok (.if_icmp .ne 44, 3) := by decide +kernel
theorem dX5_waysToFit_115 : decode cX5_waysToFit 115 = .ok (.iload 4, 2) := by decide +kernel
theorem dX5_waysToFit_117 : decode cX5_waysToFit 117 = .ok (.iload 9, 2) := by decide +kernel
theorem dX5_waysToFit_119 : decode cX5_waysToFit 119 = .ok (.iadd, 1) := by decide +kernel
theorem dX5_waysToFit_120 : decode cX5_waysToFit 120 = .ok (.iload 6, 2) := by decide +kernel
theorem dX5_waysToFit_122 : decode cX5_waysToFit 122 = .ok (.isub, 1) := by decide +kernel
theorem dX5_waysToFit_123 : decode cX5_waysToFit 123 = .ok (.iload 7, 2) := by decide +kernel
theorem dX5_waysToFit_125 : decode cX5_waysToFit 125 = .ok (.isub, 1) := by decide +kernel
theorem dX5_waysToFit_126 : decode cX5_waysToFit 126 = .ok (.aload_n 0, 1) := by decide +kernel
theorem dX5_waysToFit_127 : decode cX5_waysToFit 127 = .ok (.iload_n 1, 1) := by decide +kernel
theorem dX5_waysToFit_128 : decode cX5_waysToFit 128 = .ok (.iconst 4, 1) := by decide +kernel
theorem dX5_waysToFit_129 : decode cX5_waysToFit 129 = .ok (.iadd, 1) := by decide +kernel
theorem dX5_waysToFit_130 : decode cX5_waysToFit 130 = .ok (.iaload, 1) := by decide +kernel
theorem dX5_waysToFit_131 : decode cX5_waysToFit 131 = .ok (.if_icmp .ne 25, 3) := by decide +kernel
theorem dX5_waysToFit_134 : decode cX5_waysToFit 134 = .ok (.iload 5, 2) := by decide +kernel
theorem dX5_waysToFit_136 : decode cX5_waysToFit 136 = .ok (.iload 7, 2) := by decide +kernel
theorem dX5_waysToFit_138 : decode cX5_waysToFit 138 = .ok (.iadd, 1) := by decide +kernel
theorem dX5_waysToFit_139 : decode cX5_waysToFit 139 = .ok (.iload 8, 2) := by decide +kernel
theorem dX5_waysToFit_141 : decode cX5_waysToFit 141 = .ok (.isub, 1) := by decide +kernel
theorem dX5_waysToFit_142 : decode cX5_waysToFit 142 = .ok (.iload 9, 2) := by decide +kernel
theorem dX5_waysToFit_144 : decode cX5_waysToFit 144 = .ok (.isub, 1) := by decide +kernel
theorem dX5_waysToFit_145 : decode cX5_waysToFit 145 = .ok (.aload_n 0, 1) := by decide +kernel
theorem dX5_waysToFit_146 : decode cX5_waysToFit 146 = .ok (.iload_n 1, 1) := by decide +kernel
theorem dX5_waysToFit_147 : decode cX5_waysToFit 147 = .ok (.iconst 5, 1) := by decide +kernel
theorem dX5_waysToFit_148 : decode cX5_waysToFit 148 = .ok (.iadd, 1) := by decide +kernel
theorem dX5_waysToFit_149 : decode cX5_waysToFit 149 = .ok (.iaload, 1) := by decide +kernel
theorem dX5_waysToFit_150 : decode cX5_waysToFit 150 = .ok (.if_icmp .ne 6, 3) := by decide +kernel
theorem dX5_waysToFit_153 : decode cX5_waysToFit 153 = .ok (.iinc 3 1, 3) := by decide +kernel
theorem dX5_waysToFit_156 : decode cX5_waysToFit 156 = .ok (.iinc 8 1, 3) := by decide +kernel
theorem dX5_waysToFit_159 : decode cX5_waysToFit 159 = .ok (.goto (-118), 3) := by decide +kernel
theorem dX5_waysToFit_162 : decode cX5_waysToFit 162 = .ok (.iinc 6 1, 3) := by decide +kernel
theorem dX5_waysToFit_165 : decode cX5_waysToFit 165 = .ok (.goto (-143), 3) := by decide +kernel
theorem dX5_waysToFit_168 : decode cX5_waysToFit 168 = .ok (.iinc 4 1, 3) := by decide +kernel
theorem dX5_waysToFit_171 : decode cX5_waysToFit 171 = .ok (.goto (-166), 3) := by decide +kernel
theorem dX5_waysToFit_174 : decode cX5_waysToFit 174 = .ok (.iload_n 3, 1) := by decide +kernel
theorem dX5_waysToFit_175 : decode cX5_waysToFit 175 = .ok (.ireturn, 1) := by decide +kernel
theorem dX5_fits_0 : decode cX5_fits 0 = .ok (.iload_n 1, 1) := by decide +kernel
theorem dX5_fits_1 : decode cX5_fits 1 = .ok (.invokestatic 55, 3) := by decide +kernel
theorem dX5_fits_4 : decode cX5_fits 4 = .ok (.ifCond .ne 12, 3) := by decide +kernel
theorem dX5_fits_7 : decode cX5_fits 7 = .ok (.iload_n 3, 1) := by decide +kernel
theorem dX5_fits_8 : decode cX5_fits 8 = .ok (.ifCond .lt 8, 3) := by decide +kernel
theorem dX5_fits_11 : decode cX5_fits 11 = .ok (.iload_n 3, 1) := by decide +kernel
theorem dX5_fits_12 : decode cX5_fits 12 = .ok (.iconst 3, 1) := by decide +kernel
theorem dX5_fits_13 : decode cX5_fits 13 = .ok (.if_icmp .le 6, 3) := by decide +kernel
theorem dX5_fits_16 : decode cX5_fits 16 = .ok (.ldc 59, 2) := by decide +kernel
theorem dX5_fits_18 : decode cX5_fits 18 = .ok (.ireturn, 1) := by decide +kernel
theorem dX5_fits_19 : decode cX5_fits 19 = .ok (.aload_n 0, 1) := by decide +kernel
theorem dX5_fits_20 : decode cX5_fits 20 = .ok (.getfield 11, 3) := by decide +kernel
theorem dX5_fits_23 : decode cX5_fits 23 = .ok (.iload_n 1, 1) := by decide +kernel
theorem dX5_fits_24 : decode cX5_fits 24 = .ok (.aaload, 1) := by decide +kernel
theorem dX5_fits_25 : decode cX5_fits 25 = .ok (.astore 4, 2) := by decide +kernel
theorem dX5_fits_27 : decode cX5_fits 27 = .ok (.aload 4, 2) := by decide +kernel
theorem dX5_fits_29 : decode cX5_fits 29 = .ok (.invokevirtual 71, 3) := by decide +kernel
theorem dX5_fits_32 : decode cX5_fits 32 = .ok (.ifCond .eq 9, 3) := by decide +kernel
theorem dX5_fits_35 : decode cX5_fits 35 = .ok (.aload_n 0, 1) := by decide +kernel
theorem dX5_fits_36 : decode cX5_fits 36 = .ok (.iconst 1, 1) := by decide +kernel
theorem dX5_fits_37 : decode cX5_fits 37 = .ok (.invokevirtual 60, 3) := by decide +kernel
theorem dX5_fits_40 : decode cX5_fits 40 = .ok (.ireturn, 1) := by decide +kernel
theorem dX5_fits_41 : decode cX5_fits 41 = .ok (.aload 4, 2) := by decide +kernel
theorem dX5_fits_43 : decode cX5_fits 43 = .ok (.iload_n 2, 1) := by decide +kernel
theorem dX5_fits_44 : decode cX5_fits 44 = .ok (.bipush 6, 2) := by decide +kernel
theorem dX5_fits_46 : decode cX5_fits 46 = .ok (.invokevirtual 75, 3) := by decide +kernel
theorem dX5_fits_49 : decode cX5_fits 49 = .ok (.ifCond .ne 9, 3) := by decide +kernel
theorem dX5_fits_52 : decode cX5_fits 52 = .ok (.aload_n 0, 1) := by decide +kernel
theorem dX5_fits_53 : decode cX5_fits 53 = .ok (.iconst 2, 1) := by decide +kernel
theorem dX5_fits_54 : decode cX5_fits 54 = .ok (.invokevirtual 60, 3) := by decide +kernel
theorem dX5_fits_57 : decode cX5_fits 57 = .ok (.ireturn, 1) := by decide +kernel
theorem dX5_fits_58 : decode cX5_fits 58 = .ok (.aload 4, 2) := by decide +kernel
theorem dX5_fits_60 : decode cX5_fits 60 = .ok (.getfield 87, 3) := by decide +kernel
theorem dX5_fits_63 : decode cX5_fits 63 = .ok (.iload_n 2, 1) := by decide +kernel
theorem dX5_fits_64 : decode cX5_fits 64 = .ok (.invokestatic 202, 3) := by decide +kernel
theorem dX5_fits_67 : decode cX5_fits 67 = .ok (.ifCond .ne 6, 3) := by decide +kernel
theorem dX5_fits_70 : decode cX5_fits 70 = .ok (.ldc 59, 2) := by decide +kernel
theorem dX5_fits_72 : decode cX5_fits 72 = .ok (.ireturn, 1) := by decide +kernel
theorem dX5_fits_73 : decode cX5_fits 73 = .ok (.aload_n 0, 1) := by decide +kernel
theorem dX5_fits_74 : decode cX5_fits 74 = .ok (.aload 4, 2) := by decide +kernel
theorem dX5_fits_76 : decode cX5_fits 76 = .ok (.getfield 87, 3) := by decide +kernel
theorem dX5_fits_79 : decode cX5_fits 79 = .ok (.iload_n 2, 1) := by decide +kernel
theorem dX5_fits_80 : decode cX5_fits 80 = .ok (.iload_n 3, 1) := by decide +kernel
theorem dX5_fits_81 : decode cX5_fits 81 = .ok (.invokestatic 206, 3) := by decide +kernel
theorem dX5_fits_84 : decode cX5_fits 84 = .ok (.invokevirtual 68, 3) := by decide +kernel
theorem dX5_fits_87 : decode cX5_fits 87 = .ok (.ireturn, 1) := by decide +kernel
theorem dX5_isWithin_0 : decode cX5_isWithin 0 = .ok (.iload_n 0, 1) := by decide +kernel
theorem dX5_isWithin_1 : decode cX5_isWithin 1 = .ok (.ifCond .lt 12, 3) := by decide +kernel
theorem dX5_isWithin_4 : decode cX5_isWithin 4 = .ok (.iload_n 0, 1) := by decide +kernel
theorem dX5_isWithin_5 : decode cX5_isWithin 5 = .ok (.iload_n 1, 1) := by decide +kernel
theorem dX5_isWithin_6 : decode cX5_isWithin 6 = .ok (.if_icmp .gt 7, 3) := by decide +kernel
theorem dX5_isWithin_9 : decode cX5_isWithin 9 = .ok (.iconst 1, 1) := by decide +kernel
theorem dX5_isWithin_10 : decode cX5_isWithin 10 = .ok (.goto 4, 3) := by decide +kernel
theorem dX5_isWithin_13 : decode cX5_isWithin 13 = .ok (.iconst 0, 1) := by decide +kernel
theorem dX5_isWithin_14 : decode cX5_isWithin 14 = .ok (.ireturn, 1) := by decide +kernel
section O7
variable {G : GG} {z : Nat} {σ : AH} {lf fd : Int32} {rl rn : Nat → Int32} {ri : Nat → Nat → Int32} {tp rd : Nat → Int32} {dd d df : TS} {nx kp : Nat} {da di : Nat → TS} {tr : Nat} {bo ne : Nat → Int32}
theorem c_isWithin (x : Int32) (m : Nat) : Ct G yX5_isWithin cX5_isWithin 2 (some .boolean) 1 0 0 z σ [.int x, .int (nI m)] (some (.int (wiI x m))) z σ := by
  refine Ct.ofJ RX5 rfl [some (.int x), some (.int (nI m))] rfl (by decide) Nat.le.refl ?_
  refine j_iload_n dX5_isWithin_0 rfl rfl ?_
  refine j_if_lt 13 dX5_isWithin_1 (by decide) (fun b1 => ?_) (fun b1 => ?_)
  · refine j_iconst (nI 0) dX5_isWithin_13 rfl ?_
    exact j_zret .boolean rfl rfl dX5_isWithin_14 (by unfold wiI; (repeat' (first | contradiction | rfl | split))) rfl (Nat.le_of_ble_eq_true rfl) (Nat.le_of_ble_eq_true rfl)
  · refine j_iload_n dX5_isWithin_4 rfl rfl ?_
    refine j_iload_n dX5_isWithin_5 rfl rfl ?_
    refine j_icmp_gt 13 dX5_isWithin_6 (by decide) (fun b6 => ?_) (fun b6 => ?_)
    · refine j_iconst (nI 0) dX5_isWithin_13 rfl ?_
      exact j_zret .boolean rfl rfl dX5_isWithin_14 (by unfold wiI; (repeat' (first | contradiction | rfl | split))) rfl (Nat.le_of_ble_eq_true rfl) (Nat.le_of_ble_eq_true rfl)
    · refine j_iconst (nI 1) dX5_isWithin_9 rfl ?_
      refine j_goto 14 dX5_isWithin_10 (by decide) ?_
      exact j_zret .boolean rfl rfl dX5_isWithin_14 (by unfold wiI; (repeat' (first | contradiction | rfl | split))) rfl (Nat.le_of_ble_eq_true rfl) (Nat.le_of_ble_eq_true rfl)
theorem c_san_yes {a i : Nat} {it : Nat → Int32} (hs : σ a = some (.inl (0, 40, it))) (hi : i + 6 ≤ 40) (h : ∀ k, k < 3 → okI (it (i + k)) (it (i + 3 + k))) : Ct G yX5_areShadesAndNets cX5_areShadesAndNets 5 (some .boolean) 1 0 0 z σ [.ref a, .int (nI i)] (some (.int (nI 1))) z σ := by
  refine Ct.ofJ RX5 rfl [some (.ref a), some (.int (nI i)), none, none, none] rfl (by decide) (by simp [Value.category]) ?_
  refine j_iconst (nI 0) dX5_areShadesAndNets_0 rfl ?_
  refine j_istore_n dX5_areShadesAndNets_1 rfl (Nat.le_of_ble_eq_true rfl) rfl ?_
  suffices H : ∀ (kk k : Nat) (o3 o4 : Option Value), k ≤ 3 → 3 < k + kk → J G RX5 cX5_areShadesAndNets 5 (some .boolean) (TQ G 1 0 0 (some (.int (nI 1))) z σ) z σ 0 0 2 [some (.ref a), some (.int (nI i)), some (.int (nI k)), o3, o4] [] from H 4 0 none none (by omega) (by omega)
  intro kk
  induction kk with
  | zero => intro k o3 o4 h1 h2; exact absurd h2 (by omega)
  | succ kk ih =>
    intro k o3 o4 h1 h2
    refine j_iload_n dX5_areShadesAndNets_2 rfl rfl ?_
    refine j_iconst (nI 3) dX5_areShadesAndNets_3 rfl ?_
    refine j_icmp_geN 54 dX5_areShadesAndNets_4 (by decide) (by omega) (by omega) (fun b4 => ?_) (fun b4 => ?_)
    · refine j_iconst (nI 1) dX5_areShadesAndNets_54 rfl ?_
      exact j_zret .boolean rfl rfl dX5_areShadesAndNets_55 rfl rfl (Nat.le_of_ble_eq_true rfl) (Nat.le_of_ble_eq_true rfl)
    · refine j_aload_n dX5_areShadesAndNets_7 rfl rfl ?_
      refine j_iload_n dX5_areShadesAndNets_8 rfl rfl ?_
      refine j_iload_n dX5_areShadesAndNets_9 rfl rfl ?_
      first | refine j_iaddN dX5_areShadesAndNets_10 ?_ | refine j_iadd dX5_areShadesAndNets_10 ?_
      refine j_iald dX5_areShadesAndNets_11 hs rfl (by omega) (by decide) ?_
      refine j_istore_n dX5_areShadesAndNets_12 rfl (Nat.le_of_ble_eq_true rfl) rfl ?_
      refine j_aload_n dX5_areShadesAndNets_13 rfl rfl ?_
      refine j_iload_n dX5_areShadesAndNets_14 rfl rfl ?_
      refine j_iconst (nI 3) dX5_areShadesAndNets_15 rfl ?_
      first | refine j_iaddN dX5_areShadesAndNets_16 ?_ | refine j_iadd dX5_areShadesAndNets_16 ?_
      refine j_iload_n dX5_areShadesAndNets_17 rfl rfl ?_
      first | refine j_iaddN dX5_areShadesAndNets_18 ?_ | refine j_iadd dX5_areShadesAndNets_18 ?_
      refine j_iald dX5_areShadesAndNets_19 hs rfl (by omega) (by decide) ?_
      refine j_istore dX5_areShadesAndNets_20 (Nat.le_of_ble_eq_true rfl) rfl ?_
      refine j_iload_n dX5_areShadesAndNets_22 rfl rfl ?_
      refine j_if_lt 46 dX5_areShadesAndNets_23 (by decide) (fun b23 => by exact absurd b23 (h k (by omega)).1) (fun b23 => ?_)
      refine j_iload_n dX5_areShadesAndNets_26 rfl rfl ?_
      refine j_bipush (nI 9) dX5_areShadesAndNets_27 rfl ?_
      refine j_icmp_gt 46 dX5_areShadesAndNets_29 (by decide) (fun b29 => by exact absurd b29 (h k (by omega)).2.1) (fun b29 => ?_)
      refine j_iload dX5_areShadesAndNets_32 rfl ?_
      refine j_bipush (-9) dX5_areShadesAndNets_34 rfl ?_
      refine j_icmp_lt 46 dX5_areShadesAndNets_36 (by decide) (fun b36 => by exact absurd b36 (h k (by omega)).2.2.1) (fun b36 => ?_)
      refine j_iload dX5_areShadesAndNets_39 rfl ?_
      refine j_bipush (nI 9) dX5_areShadesAndNets_41 rfl ?_
      refine j_icmp_le 48 dX5_areShadesAndNets_43 (by decide) (fun b43 => ?_) (fun b43 => by exact absurd (h k (by omega)).2.2.2 b43)
      first | refine j_iincN dX5_areShadesAndNets_48 rfl (Nat.le_of_ble_eq_true rfl) rfl ?_ | refine j_iinc _ dX5_areShadesAndNets_48 rfl rfl (Nat.le_of_ble_eq_true rfl) rfl ?_
      refine j_goto 2 dX5_areShadesAndNets_51 (by decide) ?_
      exact ih (k + 1) _ _ (by omega) (by omega)
theorem c_san_no {a i : Nat} {it : Nat → Int32} (hs : σ a = some (.inl (0, 40, it))) (hi : i + 6 ≤ 40) (h : ∃ k, k < 3 ∧ ¬ okI (it (i + k)) (it (i + 3 + k))) : Ct G yX5_areShadesAndNets cX5_areShadesAndNets 5 (some .boolean) 1 0 0 z σ [.ref a, .int (nI i)] (some (.int (nI 0))) z σ := by
  refine Ct.ofJ RX5 rfl [some (.ref a), some (.int (nI i)), none, none, none] rfl (by decide) (by simp [Value.category]) ?_
  refine j_iconst (nI 0) dX5_areShadesAndNets_0 rfl ?_
  refine j_istore_n dX5_areShadesAndNets_1 rfl (Nat.le_of_ble_eq_true rfl) rfl ?_
  suffices H : ∀ (kk k : Nat) (o3 o4 : Option Value), k ≤ 3 → 3 < k + kk → (∃ q, k ≤ q ∧ q < 3 ∧ ¬ okI (it (i + q)) (it (i + 3 + q))) → J G RX5 cX5_areShadesAndNets 5 (some .boolean) (TQ G 1 0 0 (some (.int (nI 0))) z σ) z σ 0 0 2 [some (.ref a), some (.int (nI i)), some (.int (nI k)), o3, o4] [] from H 4 0 none none (by omega) (by omega) (by obtain ⟨q, hq, hn⟩ := h; exact ⟨q, by omega, hq, hn⟩)
  intro kk
  induction kk with
  | zero => intro k o3 o4 h1 h2; exact absurd h2 (by omega)
  | succ kk ih =>
    intro k o3 o4 h1 h2 hq
    refine j_iload_n dX5_areShadesAndNets_2 rfl rfl ?_
    refine j_iconst (nI 3) dX5_areShadesAndNets_3 rfl ?_
    refine j_icmp_geN 54 dX5_areShadesAndNets_4 (by decide) (by omega) (by omega) (fun b4 => by obtain ⟨q, hq1, hq2, _⟩ := hq; exfalso; omega) (fun b4 => ?_)
    refine j_aload_n dX5_areShadesAndNets_7 rfl rfl ?_
    refine j_iload_n dX5_areShadesAndNets_8 rfl rfl ?_
    refine j_iload_n dX5_areShadesAndNets_9 rfl rfl ?_
    first | refine j_iaddN dX5_areShadesAndNets_10 ?_ | refine j_iadd dX5_areShadesAndNets_10 ?_
    refine j_iald dX5_areShadesAndNets_11 hs rfl (by omega) (by decide) ?_
    refine j_istore_n dX5_areShadesAndNets_12 rfl (Nat.le_of_ble_eq_true rfl) rfl ?_
    refine j_aload_n dX5_areShadesAndNets_13 rfl rfl ?_
    refine j_iload_n dX5_areShadesAndNets_14 rfl rfl ?_
    refine j_iconst (nI 3) dX5_areShadesAndNets_15 rfl ?_
    first | refine j_iaddN dX5_areShadesAndNets_16 ?_ | refine j_iadd dX5_areShadesAndNets_16 ?_
    refine j_iload_n dX5_areShadesAndNets_17 rfl rfl ?_
    first | refine j_iaddN dX5_areShadesAndNets_18 ?_ | refine j_iadd dX5_areShadesAndNets_18 ?_
    refine j_iald dX5_areShadesAndNets_19 hs rfl (by omega) (by decide) ?_
    refine j_istore dX5_areShadesAndNets_20 (Nat.le_of_ble_eq_true rfl) rfl ?_
    refine j_iload_n dX5_areShadesAndNets_22 rfl rfl ?_
    refine j_if_lt 46 dX5_areShadesAndNets_23 (by decide) (fun b23 => ?_) (fun b23 => ?_)
    · refine j_iconst (nI 0) dX5_areShadesAndNets_46 rfl ?_
      exact j_zret .boolean rfl rfl dX5_areShadesAndNets_47 rfl rfl (Nat.le_of_ble_eq_true rfl) (Nat.le_of_ble_eq_true rfl)
    · refine j_iload_n dX5_areShadesAndNets_26 rfl rfl ?_
      refine j_bipush (nI 9) dX5_areShadesAndNets_27 rfl ?_
      refine j_icmp_gt 46 dX5_areShadesAndNets_29 (by decide) (fun b29 => ?_) (fun b29 => ?_)
      · refine j_iconst (nI 0) dX5_areShadesAndNets_46 rfl ?_
        exact j_zret .boolean rfl rfl dX5_areShadesAndNets_47 rfl rfl (Nat.le_of_ble_eq_true rfl) (Nat.le_of_ble_eq_true rfl)
      · refine j_iload dX5_areShadesAndNets_32 rfl ?_
        refine j_bipush (-9) dX5_areShadesAndNets_34 rfl ?_
        refine j_icmp_lt 46 dX5_areShadesAndNets_36 (by decide) (fun b36 => ?_) (fun b36 => ?_)
        · refine j_iconst (nI 0) dX5_areShadesAndNets_46 rfl ?_
          exact j_zret .boolean rfl rfl dX5_areShadesAndNets_47 rfl rfl (Nat.le_of_ble_eq_true rfl) (Nat.le_of_ble_eq_true rfl)
        · refine j_iload dX5_areShadesAndNets_39 rfl ?_
          refine j_bipush (nI 9) dX5_areShadesAndNets_41 rfl ?_
          refine j_icmp_le 48 dX5_areShadesAndNets_43 (by decide) (fun b43 => ?_) (fun b43 => ?_)
          · first | refine j_iincN dX5_areShadesAndNets_48 rfl (Nat.le_of_ble_eq_true rfl) rfl ?_ | refine j_iinc _ dX5_areShadesAndNets_48 rfl rfl (Nat.le_of_ble_eq_true rfl) rfl ?_
            refine j_goto 2 dX5_areShadesAndNets_51 (by decide) ?_
            refine ih (k + 1) _ _ (by omega) (by omega) ?_
            obtain ⟨q, hq1, hq2, hq3⟩ := hq
            refine ⟨q, ?_, hq2, hq3⟩
            rcases Nat.lt_or_eq_of_le hq1 with w | w
            · omega
            · subst w; exact absurd ⟨b23, b29, b36, b43⟩ hq3
          · refine j_iconst (nI 0) dX5_areShadesAndNets_46 rfl ?_
            exact j_zret .boolean rfl rfl dX5_areShadesAndNets_47 rfl rfl (Nat.le_of_ble_eq_true rfl) (Nat.le_of_ble_eq_true rfl)
theorem c_waysToFit {a i m : Nat} {it : Nat → Int32} (hs : σ a = some (.inl (0, 40, it))) (hi : i + 6 ≤ 40) (hm : m ≤ 3) : Ct G yX5_waysToFit cX5_waysToFit 11 (some .int) 2 0 0 z σ [.ref a, .int (nI i), .int (nI m)] (some (.int (nI (ftA it i m (m + 1))))) z σ := by
  refine Ct.ofJ RX5 rfl [some (.ref a), some (.int (nI i)), some (.int (nI m)), none, none, none, none, none, none, none, none] rfl (by decide) (by simp [Value.category]) ?_
  refine j_iconst (nI 0) dX5_waysToFit_0 rfl ?_
  refine j_istore_n dX5_waysToFit_1 rfl (Nat.le_of_ble_eq_true rfl) rfl ?_
  refine j_iconst (nI 0) dX5_waysToFit_2 rfl ?_
  refine j_istore dX5_waysToFit_3 (Nat.le_of_ble_eq_true rfl) rfl ?_
  suffices H : ∀ (ka ab : Nat) (o5 o6 o7 o8 o9 o10 : Option Value), ab ≤ m + 1 → m + 1 < ab + ka → J G RX5 cX5_waysToFit 11 (some .int) (TQ G 2 0 0 (some (.int (nI (ftA it i m (m + 1))))) z σ) z σ 0 0 5 [some (.ref a), some (.int (nI i)), some (.int (nI m)), some (.int (nI (ftA it i m ab))), some (.int (nI ab)), o5, o6, o7, o8, o9, o10] [] from H (m + 2) 0 none none none none none none (by omega) (by omega)
  intro ka
  induction ka with
  | zero => intro ab o5 o6 o7 o8 o9 o10 h1 h2; exact absurd h2 (by omega)
  | succ ka ih =>
    intro ab o5 o6 o7 o8 o9 o10 h1 h2
    refine j_iload dX5_waysToFit_5 rfl ?_
    refine j_iload_n dX5_waysToFit_7 rfl rfl ?_
    refine j_icmp_gtN 174 dX5_waysToFit_8 (by decide) (by omega) (by omega) (fun b8 => ?_) (fun b8 => ?_)
    · obtain rfl : ab = m + 1 := by omega
      refine j_iload_n dX5_waysToFit_174 rfl rfl ?_
      exact j_iret rfl dX5_waysToFit_175 rfl rfl (Nat.le_of_ble_eq_true rfl) (Nat.le_of_ble_eq_true rfl)
    · refine j_aload_n dX5_waysToFit_11 rfl rfl ?_
      refine j_iload_n dX5_waysToFit_12 rfl rfl ?_
      refine j_iald dX5_waysToFit_13 hs rfl (by omega) (by decide) ?_
      refine j_iload dX5_waysToFit_14 rfl ?_
      refine j_isub dX5_waysToFit_16 ?_
      refine j_istore dX5_waysToFit_17 (Nat.le_of_ble_eq_true rfl) rfl ?_
      refine j_iconst (nI 0) dX5_waysToFit_19 rfl ?_
      refine j_istore dX5_waysToFit_20 (Nat.le_of_ble_eq_true rfl) rfl ?_
      suffices H2 : ∀ (kb ba : Nat) (o7 o8 o9 o10 : Option Value), ba ≤ m + 1 → m + 1 < ba + kb → J G RX5 cX5_waysToFit 11 (some .int) (TQ G 2 0 0 (some (.int (nI (ftA it i m (m + 1))))) z σ) z σ 0 0 22 [some (.ref a), some (.int (nI i)), some (.int (nI m)), some (.int (nI (ftB it i m ab (ftA it i m ab) ba))), some (.int (nI ab)), some (.int (it i - nI ab)), some (.int (nI ba)), o7, o8, o9, o10] [] from H2 (m + 2) 0 _ _ _ _ (by omega) (by omega)
      intro kb
      induction kb with
      | zero => intro ba o7 o8 o9 o10 h3 h4; exact absurd h4 (by omega)
      | succ kb ih2 =>
        intro ba o7 o8 o9 o10 h3 h4
        refine j_iload dX5_waysToFit_22 rfl ?_
        refine j_iload_n dX5_waysToFit_24 rfl rfl ?_
        refine j_icmp_gtN 168 dX5_waysToFit_25 (by decide) (by omega) (by omega) (fun b25 => ?_) (fun b25 => ?_)
        · obtain rfl : ba = m + 1 := by omega
          first | refine j_iincN dX5_waysToFit_168 rfl (Nat.le_of_ble_eq_true rfl) rfl ?_ | refine j_iinc _ dX5_waysToFit_168 rfl rfl (Nat.le_of_ble_eq_true rfl) rfl ?_
          refine j_goto 5 dX5_waysToFit_171 (by decide) ?_
          exact ih (ab + 1) _ _ _ _ _ _ (by omega) (by omega)
        · refine j_aload_n dX5_waysToFit_28 rfl rfl ?_
          refine j_iload_n dX5_waysToFit_29 rfl rfl ?_
          refine j_iconst (nI 1) dX5_waysToFit_30 rfl ?_
          refine j_iadd dX5_waysToFit_31 ?_
          refine j_iald dX5_waysToFit_32 hs (nI_add _ _) (by omega) (by decide) ?_
          refine j_iload dX5_waysToFit_33 rfl ?_
          refine j_isub dX5_waysToFit_35 ?_
          refine j_istore dX5_waysToFit_36 (Nat.le_of_ble_eq_true rfl) rfl ?_
          refine j_iconst (nI 0) dX5_waysToFit_38 rfl ?_
          refine j_istore dX5_waysToFit_39 (Nat.le_of_ble_eq_true rfl) rfl ?_
          suffices H3 : ∀ (kc ca : Nat) (o9 o10 : Option Value), ca ≤ m + 1 → m + 1 < ca + kc → J G RX5 cX5_waysToFit 11 (some .int) (TQ G 2 0 0 (some (.int (nI (ftA it i m (m + 1))))) z σ) z σ 0 0 41 [some (.ref a), some (.int (nI i)), some (.int (nI m)), some (.int (nI (ftN it i m ab ba (ftB it i m ab (ftA it i m ab) ba) ca))), some (.int (nI ab)), some (.int (it i - nI ab)), some (.int (nI ba)), some (.int (it (i + 1) - nI ba)), some (.int (nI ca)), o9, o10] [] from H3 (m + 2) 0 _ _ (by omega) (by omega)
          intro kc
          induction kc with
          | zero => intro ca o9 o10 h5 h6; exact absurd h6 (by omega)
          | succ kc ih3 =>
            intro ca o9 o10 h5 h6
            have e1 : ftN it i m ab ba (ftB it i m ab (ftA it i m ab) ba) (ca + 1) = @ite Nat (ftC it i m ab ba ca) (Classical.propDecidable _) (ftN it i m ab ba (ftB it i m ab (ftA it i m ab) ba) ca + 1) (ftN it i m ab ba (ftB it i m ab (ftA it i m ab) ba) ca) := rfl
            refine j_iload dX5_waysToFit_41 rfl ?_
            refine j_iload_n dX5_waysToFit_43 rfl rfl ?_
            refine j_icmp_gtN 162 dX5_waysToFit_44 (by decide) (by omega) (by omega) (fun b44 => ?_) (fun b44 => ?_)
            · obtain rfl : ca = m + 1 := by omega
              first | refine j_iincN dX5_waysToFit_162 rfl (Nat.le_of_ble_eq_true rfl) rfl ?_ | refine j_iinc _ dX5_waysToFit_162 rfl rfl (Nat.le_of_ble_eq_true rfl) rfl ?_
              refine j_goto 22 dX5_waysToFit_165 (by decide) ?_
              exact ih2 (ba + 1) _ _ _ _ (by omega) (by omega)
            · refine j_aload_n dX5_waysToFit_47 rfl rfl ?_
              refine j_iload_n dX5_waysToFit_48 rfl rfl ?_
              refine j_iconst (nI 2) dX5_waysToFit_49 rfl ?_
              refine j_iadd dX5_waysToFit_50 ?_
              refine j_iald dX5_waysToFit_51 hs (nI_add _ _) (by omega) (by decide) ?_
              refine j_iload dX5_waysToFit_52 rfl ?_
              refine j_isub dX5_waysToFit_54 ?_
              refine j_istore dX5_waysToFit_55 (Nat.le_of_ble_eq_true rfl) rfl ?_
              refine j_iload dX5_waysToFit_57 rfl ?_
              refine j_iload_n dX5_waysToFit_59 rfl rfl ?_
              refine j_callS (c_isWithin _ m) dX5_waysToFit_60 rfl ms_X5_259 ⟨(Nat.le_of_ble_eq_true rfl), (Nat.le_of_ble_eq_true rfl)⟩ ⟨(Nat.le_of_ble_eq_true rfl), (Nat.le_of_ble_eq_true rfl)⟩ (Nat.le_of_ble_eq_true rfl) ?_
              refine j_if_eq 88 dX5_waysToFit_63 (by decide) (fun b63 => ?_) (fun b63 => ?_)
              · refine j_iconst (nI 0) dX5_waysToFit_88 rfl ?_
                refine j_istore dX5_waysToFit_89 (Nat.le_of_ble_eq_true rfl) rfl ?_
                refine j_iload dX5_waysToFit_91 rfl ?_
                refine j_if_eq 156 dX5_waysToFit_93 (by decide) (fun _ => ?_) (fun h => absurd rfl h)
                first | refine j_iincN dX5_waysToFit_156 rfl (Nat.le_of_ble_eq_true rfl) rfl ?_ | refine j_iinc _ dX5_waysToFit_156 rfl rfl (Nat.le_of_ble_eq_true rfl) rfl ?_
                refine j_goto 41 dX5_waysToFit_159 (by decide) ?_
                have ih4 := fun o9 o10 => ih3 (ca + 1) o9 o10 (by omega) (by omega)
                rw [e1] at ih4
                by_cases hC : ftC it i m ab ba ca
                · rw [if_pos hC] at ih4
                  first | exact absurd b63 hC.1.1 | exact absurd b72 hC.1.2.1 | exact absurd b81 hC.1.2.2 | exact absurd hC.2.1 b112 | exact absurd hC.2.2.1 b131 | exact absurd hC.2.2.2 b150 | exact ih4 _ _
                · rw [if_neg hC] at ih4
                  first | exact ih4 _ _ | exact absurd ⟨⟨b63, b72, b81⟩, b112, b131, b150⟩ hC
              · refine j_iload dX5_waysToFit_66 rfl ?_
                refine j_iload_n dX5_waysToFit_68 rfl rfl ?_
                refine j_callS (c_isWithin _ m) dX5_waysToFit_69 rfl ms_X5_259 ⟨(Nat.le_of_ble_eq_true rfl), (Nat.le_of_ble_eq_true rfl)⟩ ⟨(Nat.le_of_ble_eq_true rfl), (Nat.le_of_ble_eq_true rfl)⟩ (Nat.le_of_ble_eq_true rfl) ?_
                refine j_if_eq 88 dX5_waysToFit_72 (by decide) (fun b72 => ?_) (fun b72 => ?_)
                · refine j_iconst (nI 0) dX5_waysToFit_88 rfl ?_
                  refine j_istore dX5_waysToFit_89 (Nat.le_of_ble_eq_true rfl) rfl ?_
                  refine j_iload dX5_waysToFit_91 rfl ?_
                  refine j_if_eq 156 dX5_waysToFit_93 (by decide) (fun _ => ?_) (fun h => absurd rfl h)
                  first | refine j_iincN dX5_waysToFit_156 rfl (Nat.le_of_ble_eq_true rfl) rfl ?_ | refine j_iinc _ dX5_waysToFit_156 rfl rfl (Nat.le_of_ble_eq_true rfl) rfl ?_
                  refine j_goto 41 dX5_waysToFit_159 (by decide) ?_
                  have ih4 := fun o9 o10 => ih3 (ca + 1) o9 o10 (by omega) (by omega)
                  rw [e1] at ih4
                  by_cases hC : ftC it i m ab ba ca
                  · rw [if_pos hC] at ih4
                    first | exact absurd b63 hC.1.1 | exact absurd b72 hC.1.2.1 | exact absurd b81 hC.1.2.2 | exact absurd hC.2.1 b112 | exact absurd hC.2.2.1 b131 | exact absurd hC.2.2.2 b150 | exact ih4 _ _
                  · rw [if_neg hC] at ih4
                    first | exact ih4 _ _ | exact absurd ⟨⟨b63, b72, b81⟩, b112, b131, b150⟩ hC
                · refine j_iload dX5_waysToFit_75 rfl ?_
                  refine j_iload_n dX5_waysToFit_77 rfl rfl ?_
                  refine j_callS (c_isWithin _ m) dX5_waysToFit_78 rfl ms_X5_259 ⟨(Nat.le_of_ble_eq_true rfl), (Nat.le_of_ble_eq_true rfl)⟩ ⟨(Nat.le_of_ble_eq_true rfl), (Nat.le_of_ble_eq_true rfl)⟩ (Nat.le_of_ble_eq_true rfl) ?_
                  refine j_if_eq 88 dX5_waysToFit_81 (by decide) (fun b81 => ?_) (fun b81 => ?_)
                  · refine j_iconst (nI 0) dX5_waysToFit_88 rfl ?_
                    refine j_istore dX5_waysToFit_89 (Nat.le_of_ble_eq_true rfl) rfl ?_
                    refine j_iload dX5_waysToFit_91 rfl ?_
                    refine j_if_eq 156 dX5_waysToFit_93 (by decide) (fun _ => ?_) (fun h => absurd rfl h)
                    first | refine j_iincN dX5_waysToFit_156 rfl (Nat.le_of_ble_eq_true rfl) rfl ?_ | refine j_iinc _ dX5_waysToFit_156 rfl rfl (Nat.le_of_ble_eq_true rfl) rfl ?_
                    refine j_goto 41 dX5_waysToFit_159 (by decide) ?_
                    have ih4 := fun o9 o10 => ih3 (ca + 1) o9 o10 (by omega) (by omega)
                    rw [e1] at ih4
                    by_cases hC : ftC it i m ab ba ca
                    · rw [if_pos hC] at ih4
                      first | exact absurd b63 hC.1.1 | exact absurd b72 hC.1.2.1 | exact absurd b81 hC.1.2.2 | exact absurd hC.2.1 b112 | exact absurd hC.2.2.1 b131 | exact absurd hC.2.2.2 b150 | exact ih4 _ _
                    · rw [if_neg hC] at ih4
                      first | exact ih4 _ _ | exact absurd ⟨⟨b63, b72, b81⟩, b112, b131, b150⟩ hC
                  · refine j_iconst (nI 1) dX5_waysToFit_84 rfl ?_
                    refine j_goto 89 dX5_waysToFit_85 (by decide) ?_
                    refine j_istore dX5_waysToFit_89 (Nat.le_of_ble_eq_true rfl) rfl ?_
                    refine j_iload dX5_waysToFit_91 rfl ?_
                    refine j_if_eq 156 dX5_waysToFit_93 (by decide) (fun h => absurd h (by decide)) (fun _ => ?_)
                    refine j_iload dX5_waysToFit_96 rfl ?_
                    refine j_iload dX5_waysToFit_98 rfl ?_
                    refine j_iadd dX5_waysToFit_100 ?_
                    refine j_iload dX5_waysToFit_101 rfl ?_
                    refine j_isub dX5_waysToFit_103 ?_
                    refine j_iload dX5_waysToFit_104 rfl ?_
                    refine j_isub dX5_waysToFit_106 ?_
                    refine j_aload_n dX5_waysToFit_107 rfl rfl ?_
                    refine j_iload_n dX5_waysToFit_108 rfl rfl ?_
                    refine j_iconst (nI 3) dX5_waysToFit_109 rfl ?_
                    refine j_iadd dX5_waysToFit_110 ?_
                    refine j_iald dX5_waysToFit_111 hs (nI_add _ _) (by omega) (by decide) ?_
                    refine j_icmp_ne 156 dX5_waysToFit_112 (by decide) (fun b112 => ?_) (fun b112 => ?_)
                    · first | refine j_iincN dX5_waysToFit_156 rfl (Nat.le_of_ble_eq_true rfl) rfl ?_ | refine j_iinc _ dX5_waysToFit_156 rfl rfl (Nat.le_of_ble_eq_true rfl) rfl ?_
                      refine j_goto 41 dX5_waysToFit_159 (by decide) ?_
                      have ih4 := fun o9 o10 => ih3 (ca + 1) o9 o10 (by omega) (by omega)
                      rw [e1] at ih4
                      by_cases hC : ftC it i m ab ba ca
                      · rw [if_pos hC] at ih4
                        first | exact absurd b63 hC.1.1 | exact absurd b72 hC.1.2.1 | exact absurd b81 hC.1.2.2 | exact absurd hC.2.1 b112 | exact absurd hC.2.2.1 b131 | exact absurd hC.2.2.2 b150 | exact ih4 _ _
                      · rw [if_neg hC] at ih4
                        first | exact ih4 _ _ | exact absurd ⟨⟨b63, b72, b81⟩, b112, b131, b150⟩ hC
                    · refine j_iload dX5_waysToFit_115 rfl ?_
                      refine j_iload dX5_waysToFit_117 rfl ?_
                      refine j_iadd dX5_waysToFit_119 ?_
                      refine j_iload dX5_waysToFit_120 rfl ?_
                      refine j_isub dX5_waysToFit_122 ?_
                      refine j_iload dX5_waysToFit_123 rfl ?_
                      refine j_isub dX5_waysToFit_125 ?_
                      refine j_aload_n dX5_waysToFit_126 rfl rfl ?_
                      refine j_iload_n dX5_waysToFit_127 rfl rfl ?_
                      refine j_iconst (nI 4) dX5_waysToFit_128 rfl ?_
                      refine j_iadd dX5_waysToFit_129 ?_
                      refine j_iald dX5_waysToFit_130 hs (nI_add _ _) (by omega) (by decide) ?_
                      refine j_icmp_ne 156 dX5_waysToFit_131 (by decide) (fun b131 => ?_) (fun b131 => ?_)
                      · first | refine j_iincN dX5_waysToFit_156 rfl (Nat.le_of_ble_eq_true rfl) rfl ?_ | refine j_iinc _ dX5_waysToFit_156 rfl rfl (Nat.le_of_ble_eq_true rfl) rfl ?_
                        refine j_goto 41 dX5_waysToFit_159 (by decide) ?_
                        have ih4 := fun o9 o10 => ih3 (ca + 1) o9 o10 (by omega) (by omega)
                        rw [e1] at ih4
                        by_cases hC : ftC it i m ab ba ca
                        · rw [if_pos hC] at ih4
                          first | exact absurd b63 hC.1.1 | exact absurd b72 hC.1.2.1 | exact absurd b81 hC.1.2.2 | exact absurd hC.2.1 b112 | exact absurd hC.2.2.1 b131 | exact absurd hC.2.2.2 b150 | exact ih4 _ _
                        · rw [if_neg hC] at ih4
                          first | exact ih4 _ _ | exact absurd ⟨⟨b63, b72, b81⟩, b112, b131, b150⟩ hC
                      · refine j_iload dX5_waysToFit_134 rfl ?_
                        refine j_iload dX5_waysToFit_136 rfl ?_
                        refine j_iadd dX5_waysToFit_138 ?_
                        refine j_iload dX5_waysToFit_139 rfl ?_
                        refine j_isub dX5_waysToFit_141 ?_
                        refine j_iload dX5_waysToFit_142 rfl ?_
                        refine j_isub dX5_waysToFit_144 ?_
                        refine j_aload_n dX5_waysToFit_145 rfl rfl ?_
                        refine j_iload_n dX5_waysToFit_146 rfl rfl ?_
                        refine j_iconst (nI 5) dX5_waysToFit_147 rfl ?_
                        refine j_iadd dX5_waysToFit_148 ?_
                        refine j_iald dX5_waysToFit_149 hs (nI_add _ _) (by omega) (by decide) ?_
                        refine j_icmp_ne 156 dX5_waysToFit_150 (by decide) (fun b150 => ?_) (fun b150 => ?_)
                        · first | refine j_iincN dX5_waysToFit_156 rfl (Nat.le_of_ble_eq_true rfl) rfl ?_ | refine j_iinc _ dX5_waysToFit_156 rfl rfl (Nat.le_of_ble_eq_true rfl) rfl ?_
                          refine j_goto 41 dX5_waysToFit_159 (by decide) ?_
                          have ih4 := fun o9 o10 => ih3 (ca + 1) o9 o10 (by omega) (by omega)
                          rw [e1] at ih4
                          by_cases hC : ftC it i m ab ba ca
                          · rw [if_pos hC] at ih4
                            first | exact absurd b63 hC.1.1 | exact absurd b72 hC.1.2.1 | exact absurd b81 hC.1.2.2 | exact absurd hC.2.1 b112 | exact absurd hC.2.2.1 b131 | exact absurd hC.2.2.2 b150 | exact ih4 _ _
                          · rw [if_neg hC] at ih4
                            first | exact ih4 _ _ | exact absurd ⟨⟨b63, b72, b81⟩, b112, b131, b150⟩ hC
                        · first | refine j_iincN dX5_waysToFit_153 rfl (Nat.le_of_ble_eq_true rfl) rfl ?_ | refine j_iinc _ dX5_waysToFit_153 rfl rfl (Nat.le_of_ble_eq_true rfl) rfl ?_
                          first | refine j_iincN dX5_waysToFit_156 rfl (Nat.le_of_ble_eq_true rfl) rfl ?_ | refine j_iinc _ dX5_waysToFit_156 rfl rfl (Nat.le_of_ble_eq_true rfl) rfl ?_
                          refine j_goto 41 dX5_waysToFit_159 (by decide) ?_
                          have ih4 := fun o9 o10 => ih3 (ca + 1) o9 o10 (by omega) (by omega)
                          rw [e1] at ih4
                          by_cases hC : ftC it i m ab ba ca
                          · rw [if_pos hC] at ih4
                            first | exact absurd b63 hC.1.1 | exact absurd b72 hC.1.2.1 | exact absurd b81 hC.1.2.2 | exact absurd hC.2.1 b112 | exact absurd hC.2.2.1 b131 | exact absurd hC.2.2.2 b150 | exact ih4 _ _
                          · rw [if_neg hC] at ih4
                            first | exact ih4 _ _ | exact absurd ⟨⟨b63, b72, b81⟩, b112, b131, b150⟩ hC
end O7
end
section
/-! THE CLASS's calls: fits itself, feed -/
def fdB (w : Int64) (l : Nat) : Int32 := (w >>> ((nI (8 * l)).toInt64 &&& 63)).toInt32.toInt8.toInt32
def fdT (w : Int64) (m len : Nat) (tp : Nat → Int32) : Nat → Nat → Int32
  | 0 => tp
  | k + 1 => upd (fdT w m len tp k) (len + k) ((fdB w (m - 1 - k)).toInt8.toInt32)
abbrev fdH (σ : AH) (tp rd : Nat → Int32) (x : Int32) : AH := ups (ups σ 19 (.inl (1, 400, tp))) 18 (xR (upd rd 0 x))
theorem ups4 {σ : AH} {a b a2 b2 : AE} : ups (ups (ups (ups σ 19 a) 18 b) 19 a2) 18 b2 = ups (ups σ 19 a2) 18 b2 := by
  funext k
  unfold ups
  by_cases h1 : k = 18
  · simp only [if_pos h1]
  · by_cases h2 : k = 19
    · simp only [if_neg h1, if_pos h2]
    · simp only [if_neg h1, if_neg h2]
section O8
variable {G : GG} {z : Nat} {σ : AH} {lf fd : Int32} {rl rn : Nat → Int32} {ri : Nat → Nat → Int32} {tp rd : Nat → Int32} {dd d df : TS} {nx kp : Nat} {da di : Nat → TS} {tr : Nat} {bo ne : Nat → Int32}
theorem x_fits_bad (r i m : Int32) (h : ¬ nrI r = 0 ∨ m < 0 ∨ nI 3 < m) : Ct G yX5_fits cX5_fits 5 (some .int) 3 0 0 z σ [.ref 0, .int r, .int i, .int m] (some (.int (-1000001))) z σ := by
  refine Ct.ofJ RX5 rfl [some (.ref 0), some (.int r), some (.int i), some (.int m), none] rfl (by decide) (by simp [Value.category]) ?_
  refine j_iload_n dX5_fits_0 rfl rfl ?_
  refine j_callS (c_isNoRow r) dX5_fits_1 rfl ms_X5_55 ⟨(Nat.le_of_ble_eq_true rfl), (Nat.le_of_ble_eq_true rfl)⟩ ⟨(Nat.le_of_ble_eq_true rfl), (Nat.le_of_ble_eq_true rfl)⟩ (Nat.le_of_ble_eq_true rfl) ?_
  refine j_if_ne 16 dX5_fits_4 (by decide) (fun b4 => ?_) (fun b4 => ?_)
  · refine j_ldc (-1000001) dX5_fits_16 kc_X5_59 ?_
    exact j_iret rfl dX5_fits_18 rfl rfl (Nat.le_of_ble_eq_true rfl) (Nat.le_of_ble_eq_true rfl)
  · refine j_iload_n dX5_fits_7 rfl rfl ?_
    refine j_if_lt 16 dX5_fits_8 (by decide) (fun b8 => ?_) (fun b8 => ?_)
    · refine j_ldc (-1000001) dX5_fits_16 kc_X5_59 ?_
      exact j_iret rfl dX5_fits_18 rfl rfl (Nat.le_of_ble_eq_true rfl) (Nat.le_of_ble_eq_true rfl)
    · refine j_iload_n dX5_fits_11 rfl rfl ?_
      refine j_iconst (nI 3) dX5_fits_12 rfl ?_
      refine j_icmp_le 19 dX5_fits_13 (by decide) (fun b13 => ?_) (fun b13 => ?_)
      · exfalso
        rcases h with h | h | h
        · exact h b4
        · exact b8 h
        · exact absurd b13 (Int32.not_le.mpr h)
      · refine j_ldc (-1000001) dX5_fits_16 kc_X5_59 ?_
        exact j_iret rfl dX5_fits_18 rfl rfl (Nat.le_of_ble_eq_true rfl) (Nat.le_of_ble_eq_true rfl)
theorem x_fits_null (X : XR σ lf fd rl rn ri tp rd dd d df nx kp da di tr bo ne) {k m : Nat} (i : Int32) (hk : k < 8) (hm : m ≤ 3) (hl : rl k = -1) : Ct G yX5_fits cX5_fits 5 (some .int) 3 0 0 z σ [.ref 0, .int (nI k), .int i, .int (nI m)] (some (.int (-1000010 - nI 1))) z (ups σ 0 (xO lf (nI 1))) := by
  refine Ct.ofJ RX5 rfl [some (.ref 0), some (.int (nI k)), some (.int i), some (.int (nI m)), none] rfl (by decide) (by simp [Value.category]) ?_
  refine j_iload_n dX5_fits_0 rfl rfl ?_
  refine j_callS (c_isNoRow (nI k)) dX5_fits_1 rfl ms_X5_55 ⟨(Nat.le_of_ble_eq_true rfl), (Nat.le_of_ble_eq_true rfl)⟩ ⟨(Nat.le_of_ble_eq_true rfl), (Nat.le_of_ble_eq_true rfl)⟩ (Nat.le_of_ble_eq_true rfl) ?_
  refine j_top (nI 0) (nrI_k hk) ?_
  refine j_if_ne 16 dX5_fits_4 (by decide) (fun h => absurd rfl h) (fun _ => ?_)
  refine j_iload_n dX5_fits_7 rfl rfl ?_
  refine j_if_lt 16 dX5_fits_8 (by decide) (fun b8 => by exact absurd b8 (nI_pos (by omega))) (fun b8 => ?_)
  refine j_iload_n dX5_fits_11 rfl rfl ?_
  refine j_iconst (nI 3) dX5_fits_12 rfl ?_
  refine j_icmp_leN 19 dX5_fits_13 (by decide) (by omega) (by omega) (fun b13 => ?_) (fun b13 => by exfalso; omega)
  refine j_aload_n dX5_fits_19 rfl rfl ?_
  refine j_getf dX5_fits_20 5 0 rfl (Nat.le_of_ble_eq_true rfl) fl_X5_11 in_5 (by first | exact X.1 | exact X.2.1 | exact X.2.2.2.1 | exact X.2.2.2.2.1 | exact X.2.2.2.2.2.2.1.o | exact X.2.2.2.2.2.2.1.c | exact X.2.2.2.2.2.2.1.i | exact X.2.2.2.2.2.2.1.p | exact X.2.2.2.2.2.2.1.d | exact X.2.2.2.2.2.2.2.1.o | exact X.2.2.2.2.2.2.2.2.1 | exact X.2.2.2.2.2.2.2.2.2.1 | exact X.2.2.2.2.2.2.2.2.2.2.2.1 | exact X.2.2.2.2.2.2.2.2.2.2.2.2.2.1 | exact X.2.2.2.2.2.2.2.2.2.2.2.2.2.2.1 | exact X.2.2.2.2.2.2.2.2.2.2.2.2.2.2.2) rfl ?_
  refine j_iload_n dX5_fits_23 rfl rfl ?_
  refine j_aaldL 3 8 2 2 dX5_fits_24 (by first | exact X.1 | exact X.2.1 | exact X.2.2.2.1 | exact X.2.2.2.2.1 | exact X.2.2.2.2.2.2.1.o | exact X.2.2.2.2.2.2.1.c | exact X.2.2.2.2.2.2.1.i | exact X.2.2.2.2.2.2.1.p | exact X.2.2.2.2.2.2.1.d | exact X.2.2.2.2.2.2.2.1.o | exact X.2.2.2.2.2.2.2.2.1 | exact X.2.2.2.2.2.2.2.2.2.1 | exact X.2.2.2.2.2.2.2.2.2.2.2.1 | exact X.2.2.2.2.2.2.2.2.2.2.2.2.2.1 | exact X.2.2.2.2.2.2.2.2.2.2.2.2.2.2.1 | exact X.2.2.2.2.2.2.2.2.2.2.2.2.2.2.2) (by decide) rfl hk (by decide) ?_
  refine j_astore dX5_fits_25 (Nat.le_of_ble_eq_true rfl) rfl ?_
  refine j_aload dX5_fits_27 rfl ?_
  refine j_callV (c_isMissingR (X.2.2.1 k hk)) dX5_fits_29 rfl mv_X5_71 (X.2.2.1 k hk).o rfl ⟨(Nat.le_of_ble_eq_true rfl), (Nat.le_of_ble_eq_true rfl)⟩ ⟨(Nat.le_of_ble_eq_true rfl), (Nat.le_of_ble_eq_true rfl)⟩ (Nat.le_of_ble_eq_true rfl) ?_
  refine j_top (nI 1) (if_pos hl) ?_
  refine j_if_eq 41 dX5_fits_32 (by decide) (fun h => absurd h (by decide)) (fun _ => ?_)
  refine j_aload_n dX5_fits_35 rfl rfl ?_
  refine j_iconst (nI 1) dX5_fits_36 rfl ?_
  refine j_callV (c_found X (nI 1)) dX5_fits_37 rfl mv_X5_60 (by first | exact X.1 | exact X.2.1 | exact X.2.2.2.1 | exact X.2.2.2.2.1 | exact X.2.2.2.2.2.2.1.o | exact X.2.2.2.2.2.2.1.c | exact X.2.2.2.2.2.2.1.i | exact X.2.2.2.2.2.2.1.p | exact X.2.2.2.2.2.2.1.d | exact X.2.2.2.2.2.2.2.1.o | exact X.2.2.2.2.2.2.2.2.1 | exact X.2.2.2.2.2.2.2.2.2.1 | exact X.2.2.2.2.2.2.2.2.2.2.2.1 | exact X.2.2.2.2.2.2.2.2.2.2.2.2.2.1 | exact X.2.2.2.2.2.2.2.2.2.2.2.2.2.2.1 | exact X.2.2.2.2.2.2.2.2.2.2.2.2.2.2.2) rfl ⟨(Nat.le_of_ble_eq_true rfl), (Nat.le_of_ble_eq_true rfl)⟩ ⟨(Nat.le_of_ble_eq_true rfl), (Nat.le_of_ble_eq_true rfl)⟩ (Nat.le_of_ble_eq_true rfl) ?_
  exact j_iret rfl dX5_fits_40 rfl rfl (Nat.le_of_ble_eq_true rfl) (Nat.le_of_ble_eq_true rfl)
theorem x_fits_place (X : XR σ lf fd rl rn ri tp rd dd d df nx kp da di tr bo ne) {k m : Nat} (i : Int32) (hk : k < 8) (hm : m ≤ 3) (hl : ¬ rl k = -1) (hr : rngI i (nI 6) (rn k) = nI 0) : Ct G yX5_fits cX5_fits 5 (some .int) 3 0 0 z σ [.ref 0, .int (nI k), .int i, .int (nI m)] (some (.int (-1000010 - nI 2))) z (ups σ 0 (xO lf (nI 2))) := by
  refine Ct.ofJ RX5 rfl [some (.ref 0), some (.int (nI k)), some (.int i), some (.int (nI m)), none] rfl (by decide) (by simp [Value.category]) ?_
  refine j_iload_n dX5_fits_0 rfl rfl ?_
  refine j_callS (c_isNoRow (nI k)) dX5_fits_1 rfl ms_X5_55 ⟨(Nat.le_of_ble_eq_true rfl), (Nat.le_of_ble_eq_true rfl)⟩ ⟨(Nat.le_of_ble_eq_true rfl), (Nat.le_of_ble_eq_true rfl)⟩ (Nat.le_of_ble_eq_true rfl) ?_
  refine j_top (nI 0) (nrI_k hk) ?_
  refine j_if_ne 16 dX5_fits_4 (by decide) (fun h => absurd rfl h) (fun _ => ?_)
  refine j_iload_n dX5_fits_7 rfl rfl ?_
  refine j_if_lt 16 dX5_fits_8 (by decide) (fun b8 => by exact absurd b8 (nI_pos (by omega))) (fun b8 => ?_)
  refine j_iload_n dX5_fits_11 rfl rfl ?_
  refine j_iconst (nI 3) dX5_fits_12 rfl ?_
  refine j_icmp_leN 19 dX5_fits_13 (by decide) (by omega) (by omega) (fun b13 => ?_) (fun b13 => by exfalso; omega)
  refine j_aload_n dX5_fits_19 rfl rfl ?_
  refine j_getf dX5_fits_20 5 0 rfl (Nat.le_of_ble_eq_true rfl) fl_X5_11 in_5 (by first | exact X.1 | exact X.2.1 | exact X.2.2.2.1 | exact X.2.2.2.2.1 | exact X.2.2.2.2.2.2.1.o | exact X.2.2.2.2.2.2.1.c | exact X.2.2.2.2.2.2.1.i | exact X.2.2.2.2.2.2.1.p | exact X.2.2.2.2.2.2.1.d | exact X.2.2.2.2.2.2.2.1.o | exact X.2.2.2.2.2.2.2.2.1 | exact X.2.2.2.2.2.2.2.2.2.1 | exact X.2.2.2.2.2.2.2.2.2.2.2.1 | exact X.2.2.2.2.2.2.2.2.2.2.2.2.2.1 | exact X.2.2.2.2.2.2.2.2.2.2.2.2.2.2.1 | exact X.2.2.2.2.2.2.2.2.2.2.2.2.2.2.2) rfl ?_
  refine j_iload_n dX5_fits_23 rfl rfl ?_
  refine j_aaldL 3 8 2 2 dX5_fits_24 (by first | exact X.1 | exact X.2.1 | exact X.2.2.2.1 | exact X.2.2.2.2.1 | exact X.2.2.2.2.2.2.1.o | exact X.2.2.2.2.2.2.1.c | exact X.2.2.2.2.2.2.1.i | exact X.2.2.2.2.2.2.1.p | exact X.2.2.2.2.2.2.1.d | exact X.2.2.2.2.2.2.2.1.o | exact X.2.2.2.2.2.2.2.2.1 | exact X.2.2.2.2.2.2.2.2.2.1 | exact X.2.2.2.2.2.2.2.2.2.2.2.1 | exact X.2.2.2.2.2.2.2.2.2.2.2.2.2.1 | exact X.2.2.2.2.2.2.2.2.2.2.2.2.2.2.1 | exact X.2.2.2.2.2.2.2.2.2.2.2.2.2.2.2) (by decide) rfl hk (by decide) ?_
  refine j_astore dX5_fits_25 (Nat.le_of_ble_eq_true rfl) rfl ?_
  refine j_aload dX5_fits_27 rfl ?_
  refine j_callV (c_isMissingR (X.2.2.1 k hk)) dX5_fits_29 rfl mv_X5_71 (X.2.2.1 k hk).o rfl ⟨(Nat.le_of_ble_eq_true rfl), (Nat.le_of_ble_eq_true rfl)⟩ ⟨(Nat.le_of_ble_eq_true rfl), (Nat.le_of_ble_eq_true rfl)⟩ (Nat.le_of_ble_eq_true rfl) ?_
  refine j_top (nI 0) (if_neg hl) ?_
  refine j_if_eq 41 dX5_fits_32 (by decide) (fun _ => ?_) (fun h => absurd rfl h)
  refine j_aload dX5_fits_41 rfl ?_
  refine j_iload_n dX5_fits_43 rfl rfl ?_
  refine j_bipush (nI 6) dX5_fits_44 rfl ?_
  refine j_callV (c_hasRangeR (X.2.2.1 k hk) i (nI 6)) dX5_fits_46 rfl mv_X5_75 (X.2.2.1 k hk).o rfl ⟨(Nat.le_of_ble_eq_true rfl), (Nat.le_of_ble_eq_true rfl)⟩ ⟨(Nat.le_of_ble_eq_true rfl), (Nat.le_of_ble_eq_true rfl)⟩ (Nat.le_of_ble_eq_true rfl) ?_
  refine j_top (nI 0) hr ?_
  refine j_if_ne 58 dX5_fits_49 (by decide) (fun h => absurd rfl h) (fun _ => ?_)
  refine j_aload_n dX5_fits_52 rfl rfl ?_
  refine j_iconst (nI 2) dX5_fits_53 rfl ?_
  refine j_callV (c_found X (nI 2)) dX5_fits_54 rfl mv_X5_60 (by first | exact X.1 | exact X.2.1 | exact X.2.2.2.1 | exact X.2.2.2.2.1 | exact X.2.2.2.2.2.2.1.o | exact X.2.2.2.2.2.2.1.c | exact X.2.2.2.2.2.2.1.i | exact X.2.2.2.2.2.2.1.p | exact X.2.2.2.2.2.2.1.d | exact X.2.2.2.2.2.2.2.1.o | exact X.2.2.2.2.2.2.2.2.1 | exact X.2.2.2.2.2.2.2.2.2.1 | exact X.2.2.2.2.2.2.2.2.2.2.2.1 | exact X.2.2.2.2.2.2.2.2.2.2.2.2.2.1 | exact X.2.2.2.2.2.2.2.2.2.2.2.2.2.2.1 | exact X.2.2.2.2.2.2.2.2.2.2.2.2.2.2.2) rfl ⟨(Nat.le_of_ble_eq_true rfl), (Nat.le_of_ble_eq_true rfl)⟩ ⟨(Nat.le_of_ble_eq_true rfl), (Nat.le_of_ble_eq_true rfl)⟩ (Nat.le_of_ble_eq_true rfl) ?_
  exact j_iret rfl dX5_fits_57 rfl rfl (Nat.le_of_ble_eq_true rfl) (Nat.le_of_ble_eq_true rfl)
theorem x_fits_item (X : XR σ lf fd rl rn ri tp rd dd d df nx kp da di tr bo ne) {k m j : Nat} (hk : k < 8) (hm : m ≤ 3) (hl : ¬ rl k = -1) (hr : rngI (nI j) (nI 6) (rn k) = nI 1) (hj : j + 6 ≤ 40) (h : ∃ q, q < 3 ∧ ¬ okI (ri k (j + q)) (ri k (j + 3 + q))) : Ct G yX5_fits cX5_fits 5 (some .int) 3 0 0 z σ [.ref 0, .int (nI k), .int (nI j), .int (nI m)] (some (.int (-1000001))) z σ := by
  refine Ct.ofJ RX5 rfl [some (.ref 0), some (.int (nI k)), some (.int (nI j)), some (.int (nI m)), none] rfl (by decide) (by simp [Value.category]) ?_
  refine j_iload_n dX5_fits_0 rfl rfl ?_
  refine j_callS (c_isNoRow (nI k)) dX5_fits_1 rfl ms_X5_55 ⟨(Nat.le_of_ble_eq_true rfl), (Nat.le_of_ble_eq_true rfl)⟩ ⟨(Nat.le_of_ble_eq_true rfl), (Nat.le_of_ble_eq_true rfl)⟩ (Nat.le_of_ble_eq_true rfl) ?_
  refine j_top (nI 0) (nrI_k hk) ?_
  refine j_if_ne 16 dX5_fits_4 (by decide) (fun h => absurd rfl h) (fun _ => ?_)
  refine j_iload_n dX5_fits_7 rfl rfl ?_
  refine j_if_lt 16 dX5_fits_8 (by decide) (fun b8 => by exact absurd b8 (nI_pos (by omega))) (fun b8 => ?_)
  refine j_iload_n dX5_fits_11 rfl rfl ?_
  refine j_iconst (nI 3) dX5_fits_12 rfl ?_
  refine j_icmp_leN 19 dX5_fits_13 (by decide) (by omega) (by omega) (fun b13 => ?_) (fun b13 => by exfalso; omega)
  refine j_aload_n dX5_fits_19 rfl rfl ?_
  refine j_getf dX5_fits_20 5 0 rfl (Nat.le_of_ble_eq_true rfl) fl_X5_11 in_5 (by first | exact X.1 | exact X.2.1 | exact X.2.2.2.1 | exact X.2.2.2.2.1 | exact X.2.2.2.2.2.2.1.o | exact X.2.2.2.2.2.2.1.c | exact X.2.2.2.2.2.2.1.i | exact X.2.2.2.2.2.2.1.p | exact X.2.2.2.2.2.2.1.d | exact X.2.2.2.2.2.2.2.1.o | exact X.2.2.2.2.2.2.2.2.1 | exact X.2.2.2.2.2.2.2.2.2.1 | exact X.2.2.2.2.2.2.2.2.2.2.2.1 | exact X.2.2.2.2.2.2.2.2.2.2.2.2.2.1 | exact X.2.2.2.2.2.2.2.2.2.2.2.2.2.2.1 | exact X.2.2.2.2.2.2.2.2.2.2.2.2.2.2.2) rfl ?_
  refine j_iload_n dX5_fits_23 rfl rfl ?_
  refine j_aaldL 3 8 2 2 dX5_fits_24 (by first | exact X.1 | exact X.2.1 | exact X.2.2.2.1 | exact X.2.2.2.2.1 | exact X.2.2.2.2.2.2.1.o | exact X.2.2.2.2.2.2.1.c | exact X.2.2.2.2.2.2.1.i | exact X.2.2.2.2.2.2.1.p | exact X.2.2.2.2.2.2.1.d | exact X.2.2.2.2.2.2.2.1.o | exact X.2.2.2.2.2.2.2.2.1 | exact X.2.2.2.2.2.2.2.2.2.1 | exact X.2.2.2.2.2.2.2.2.2.2.2.1 | exact X.2.2.2.2.2.2.2.2.2.2.2.2.2.1 | exact X.2.2.2.2.2.2.2.2.2.2.2.2.2.2.1 | exact X.2.2.2.2.2.2.2.2.2.2.2.2.2.2.2) (by decide) rfl hk (by decide) ?_
  refine j_astore dX5_fits_25 (Nat.le_of_ble_eq_true rfl) rfl ?_
  refine j_aload dX5_fits_27 rfl ?_
  refine j_callV (c_isMissingR (X.2.2.1 k hk)) dX5_fits_29 rfl mv_X5_71 (X.2.2.1 k hk).o rfl ⟨(Nat.le_of_ble_eq_true rfl), (Nat.le_of_ble_eq_true rfl)⟩ ⟨(Nat.le_of_ble_eq_true rfl), (Nat.le_of_ble_eq_true rfl)⟩ (Nat.le_of_ble_eq_true rfl) ?_
  refine j_top (nI 0) (if_neg hl) ?_
  refine j_if_eq 41 dX5_fits_32 (by decide) (fun _ => ?_) (fun h => absurd rfl h)
  refine j_aload dX5_fits_41 rfl ?_
  refine j_iload_n dX5_fits_43 rfl rfl ?_
  refine j_bipush (nI 6) dX5_fits_44 rfl ?_
  refine j_callV (c_hasRangeR (X.2.2.1 k hk) (nI j) (nI 6)) dX5_fits_46 rfl mv_X5_75 (X.2.2.1 k hk).o rfl ⟨(Nat.le_of_ble_eq_true rfl), (Nat.le_of_ble_eq_true rfl)⟩ ⟨(Nat.le_of_ble_eq_true rfl), (Nat.le_of_ble_eq_true rfl)⟩ (Nat.le_of_ble_eq_true rfl) ?_
  refine j_top (nI 1) hr ?_
  refine j_if_ne 58 dX5_fits_49 (by decide) (fun _ => ?_) (fun h => absurd h (by decide))
  refine j_aload dX5_fits_58 rfl ?_
  refine j_getf dX5_fits_60 3 0 rfl (Nat.le_of_ble_eq_true rfl) fl_X5_87 in_3 (X.2.2.1 k hk).o rfl ?_
  refine j_iload_n dX5_fits_63 rfl rfl ?_
  refine j_callS (c_san_no (X.2.2.1 k hk).i hj h) dX5_fits_64 rfl ms_X5_202 ⟨(Nat.le_of_ble_eq_true rfl), (Nat.le_of_ble_eq_true rfl)⟩ ⟨(Nat.le_of_ble_eq_true rfl), (Nat.le_of_ble_eq_true rfl)⟩ (Nat.le_of_ble_eq_true rfl) ?_
  refine j_top (nI 0) rfl ?_
  refine j_if_ne 73 dX5_fits_67 (by decide) (fun h => absurd rfl h) (fun _ => ?_)
  refine j_ldc (-1000001) dX5_fits_70 kc_X5_59 ?_
  exact j_iret rfl dX5_fits_72 rfl rfl (Nat.le_of_ble_eq_true rfl) (Nat.le_of_ble_eq_true rfl)
theorem x_fits_ok (X : XR σ lf fd rl rn ri tp rd dd d df nx kp da di tr bo ne) {k m j : Nat} (hk : k < 8) (hm : m ≤ 3) (hl : ¬ rl k = -1) (hr : rngI (nI j) (nI 6) (rn k) = nI 1) (hj : j + 6 ≤ 40) (h : ∀ q, q < 3 → okI (ri k (j + q)) (ri k (j + 3 + q))) : Ct G yX5_fits cX5_fits 5 (some .int) 3 0 0 z σ [.ref 0, .int (nI k), .int (nI j), .int (nI m)] (some (.int (nI (ftA (ri k) j m (m + 1))))) z (ups σ 0 (xO lf (nI 0))) := by
  refine Ct.ofJ RX5 rfl [some (.ref 0), some (.int (nI k)), some (.int (nI j)), some (.int (nI m)), none] rfl (by decide) (by simp [Value.category]) ?_
  refine j_iload_n dX5_fits_0 rfl rfl ?_
  refine j_callS (c_isNoRow (nI k)) dX5_fits_1 rfl ms_X5_55 ⟨(Nat.le_of_ble_eq_true rfl), (Nat.le_of_ble_eq_true rfl)⟩ ⟨(Nat.le_of_ble_eq_true rfl), (Nat.le_of_ble_eq_true rfl)⟩ (Nat.le_of_ble_eq_true rfl) ?_
  refine j_top (nI 0) (nrI_k hk) ?_
  refine j_if_ne 16 dX5_fits_4 (by decide) (fun h => absurd rfl h) (fun _ => ?_)
  refine j_iload_n dX5_fits_7 rfl rfl ?_
  refine j_if_lt 16 dX5_fits_8 (by decide) (fun b8 => by exact absurd b8 (nI_pos (by omega))) (fun b8 => ?_)
  refine j_iload_n dX5_fits_11 rfl rfl ?_
  refine j_iconst (nI 3) dX5_fits_12 rfl ?_
  refine j_icmp_leN 19 dX5_fits_13 (by decide) (by omega) (by omega) (fun b13 => ?_) (fun b13 => by exfalso; omega)
  refine j_aload_n dX5_fits_19 rfl rfl ?_
  refine j_getf dX5_fits_20 5 0 rfl (Nat.le_of_ble_eq_true rfl) fl_X5_11 in_5 (by first | exact X.1 | exact X.2.1 | exact X.2.2.2.1 | exact X.2.2.2.2.1 | exact X.2.2.2.2.2.2.1.o | exact X.2.2.2.2.2.2.1.c | exact X.2.2.2.2.2.2.1.i | exact X.2.2.2.2.2.2.1.p | exact X.2.2.2.2.2.2.1.d | exact X.2.2.2.2.2.2.2.1.o | exact X.2.2.2.2.2.2.2.2.1 | exact X.2.2.2.2.2.2.2.2.2.1 | exact X.2.2.2.2.2.2.2.2.2.2.2.1 | exact X.2.2.2.2.2.2.2.2.2.2.2.2.2.1 | exact X.2.2.2.2.2.2.2.2.2.2.2.2.2.2.1 | exact X.2.2.2.2.2.2.2.2.2.2.2.2.2.2.2) rfl ?_
  refine j_iload_n dX5_fits_23 rfl rfl ?_
  refine j_aaldL 3 8 2 2 dX5_fits_24 (by first | exact X.1 | exact X.2.1 | exact X.2.2.2.1 | exact X.2.2.2.2.1 | exact X.2.2.2.2.2.2.1.o | exact X.2.2.2.2.2.2.1.c | exact X.2.2.2.2.2.2.1.i | exact X.2.2.2.2.2.2.1.p | exact X.2.2.2.2.2.2.1.d | exact X.2.2.2.2.2.2.2.1.o | exact X.2.2.2.2.2.2.2.2.1 | exact X.2.2.2.2.2.2.2.2.2.1 | exact X.2.2.2.2.2.2.2.2.2.2.2.1 | exact X.2.2.2.2.2.2.2.2.2.2.2.2.2.1 | exact X.2.2.2.2.2.2.2.2.2.2.2.2.2.2.1 | exact X.2.2.2.2.2.2.2.2.2.2.2.2.2.2.2) (by decide) rfl hk (by decide) ?_
  refine j_astore dX5_fits_25 (Nat.le_of_ble_eq_true rfl) rfl ?_
  refine j_aload dX5_fits_27 rfl ?_
  refine j_callV (c_isMissingR (X.2.2.1 k hk)) dX5_fits_29 rfl mv_X5_71 (X.2.2.1 k hk).o rfl ⟨(Nat.le_of_ble_eq_true rfl), (Nat.le_of_ble_eq_true rfl)⟩ ⟨(Nat.le_of_ble_eq_true rfl), (Nat.le_of_ble_eq_true rfl)⟩ (Nat.le_of_ble_eq_true rfl) ?_
  refine j_top (nI 0) (if_neg hl) ?_
  refine j_if_eq 41 dX5_fits_32 (by decide) (fun _ => ?_) (fun h => absurd rfl h)
  refine j_aload dX5_fits_41 rfl ?_
  refine j_iload_n dX5_fits_43 rfl rfl ?_
  refine j_bipush (nI 6) dX5_fits_44 rfl ?_
  refine j_callV (c_hasRangeR (X.2.2.1 k hk) (nI j) (nI 6)) dX5_fits_46 rfl mv_X5_75 (X.2.2.1 k hk).o rfl ⟨(Nat.le_of_ble_eq_true rfl), (Nat.le_of_ble_eq_true rfl)⟩ ⟨(Nat.le_of_ble_eq_true rfl), (Nat.le_of_ble_eq_true rfl)⟩ (Nat.le_of_ble_eq_true rfl) ?_
  refine j_top (nI 1) hr ?_
  refine j_if_ne 58 dX5_fits_49 (by decide) (fun _ => ?_) (fun h => absurd h (by decide))
  refine j_aload dX5_fits_58 rfl ?_
  refine j_getf dX5_fits_60 3 0 rfl (Nat.le_of_ble_eq_true rfl) fl_X5_87 in_3 (X.2.2.1 k hk).o rfl ?_
  refine j_iload_n dX5_fits_63 rfl rfl ?_
  refine j_callS (c_san_yes (X.2.2.1 k hk).i hj h) dX5_fits_64 rfl ms_X5_202 ⟨(Nat.le_of_ble_eq_true rfl), (Nat.le_of_ble_eq_true rfl)⟩ ⟨(Nat.le_of_ble_eq_true rfl), (Nat.le_of_ble_eq_true rfl)⟩ (Nat.le_of_ble_eq_true rfl) ?_
  refine j_top (nI 1) rfl ?_
  refine j_if_ne 73 dX5_fits_67 (by decide) (fun _ => ?_) (fun h => absurd h (by decide))
  refine j_aload_n dX5_fits_73 rfl rfl ?_
  refine j_aload dX5_fits_74 rfl ?_
  refine j_getf dX5_fits_76 3 0 rfl (Nat.le_of_ble_eq_true rfl) fl_X5_87 in_3 (X.2.2.1 k hk).o rfl ?_
  refine j_iload_n dX5_fits_79 rfl rfl ?_
  refine j_iload_n dX5_fits_80 rfl rfl ?_
  refine j_callS (c_waysToFit (X.2.2.1 k hk).i hj hm) dX5_fits_81 rfl ms_X5_206 ⟨(Nat.le_of_ble_eq_true rfl), (Nat.le_of_ble_eq_true rfl)⟩ ⟨(Nat.le_of_ble_eq_true rfl), (Nat.le_of_ble_eq_true rfl)⟩ (Nat.le_of_ble_eq_true rfl) ?_
  refine j_callV (c_foundNothing X _) dX5_fits_84 rfl mv_X5_68 (by first | exact X.1 | exact X.2.1 | exact X.2.2.2.1 | exact X.2.2.2.2.1 | exact X.2.2.2.2.2.2.1.o | exact X.2.2.2.2.2.2.1.c | exact X.2.2.2.2.2.2.1.i | exact X.2.2.2.2.2.2.1.p | exact X.2.2.2.2.2.2.1.d | exact X.2.2.2.2.2.2.2.1.o | exact X.2.2.2.2.2.2.2.2.1 | exact X.2.2.2.2.2.2.2.2.2.1 | exact X.2.2.2.2.2.2.2.2.2.2.2.1 | exact X.2.2.2.2.2.2.2.2.2.2.2.2.2.1 | exact X.2.2.2.2.2.2.2.2.2.2.2.2.2.2.1 | exact X.2.2.2.2.2.2.2.2.2.2.2.2.2.2.2) rfl ⟨(Nat.le_of_ble_eq_true rfl), (Nat.le_of_ble_eq_true rfl)⟩ ⟨(Nat.le_of_ble_eq_true rfl), (Nat.le_of_ble_eq_true rfl)⟩ (Nat.le_of_ble_eq_true rfl) ?_
  exact j_iret rfl dX5_fits_87 rfl rfl (Nat.le_of_ble_eq_true rfl) (Nat.le_of_ble_eq_true rfl)
theorem x_feed_bad (w : Int64) (n : Int32) (h : n < nI 1 ∨ nI 8 < n) : Ct G yX5_feed cX5_feed 5 (some .int) 1 0 0 z σ [.ref 0, .long w, .int n] (some (.int (-1000001))) z σ := by
  refine Ct.ofJ RX5 rfl [some (.ref 0), some (.long w), none, some (.int n), none] rfl (by decide) (by simp [Value.category]) ?_
  refine j_iload_n dX5_feed_0 rfl rfl ?_
  refine j_iconst (nI 1) dX5_feed_1 rfl ?_
  refine j_icmp_lt 11 dX5_feed_2 (by decide) (fun b2 => ?_) (fun b2 => ?_)
  · refine j_ldc (-1000001) dX5_feed_11 kc_X5_59 ?_
    exact j_iret rfl dX5_feed_13 rfl rfl (Nat.le_of_ble_eq_true rfl) (Nat.le_of_ble_eq_true rfl)
  · refine j_iload_n dX5_feed_5 rfl rfl ?_
    refine j_bipush (nI 8) dX5_feed_6 rfl ?_
    refine j_icmp_le 14 dX5_feed_8 (by decide) (fun b8 => ?_) (fun b8 => ?_)
    · exact absurd h (fun q => q.elim b2 (fun w => absurd b8 (Int32.not_le.mpr w)))
    · refine j_ldc (-1000001) dX5_feed_11 kc_X5_59 ?_
      exact j_iret rfl dX5_feed_13 rfl rfl (Nat.le_of_ble_eq_true rfl) (Nat.le_of_ble_eq_true rfl)
theorem x_feed_full (X : XR σ lf fd rl rn ri tp rd dd d df nx kp da di tr bo ne) {m len : Nat} (w : Int64) (hl : rd 0 = nI len) (h1 : 1 ≤ m) (h2 : m ≤ 8) (hlen : len ≤ 400) (h : 400 < len + m) : Ct G yX5_feed cX5_feed 5 (some .int) 1 0 0 z σ [.ref 0, .long w, .int (nI m)] (some (.int (-1000003))) z σ := by
  refine Ct.ofJ RX5 rfl [some (.ref 0), some (.long w), none, some (.int (nI m)), none] rfl (by decide) (by simp [Value.category]) ?_
  refine j_iload_n dX5_feed_0 rfl rfl ?_
  refine j_iconst (nI 1) dX5_feed_1 rfl ?_
  refine j_icmp_ltN 11 dX5_feed_2 (by decide) (by omega) (by omega) (fun b2 => by exfalso; omega) (fun b2 => ?_)
  refine j_iload_n dX5_feed_5 rfl rfl ?_
  refine j_bipush (nI 8) dX5_feed_6 rfl ?_
  refine j_icmp_leN 14 dX5_feed_8 (by decide) (by omega) (by omega) (fun b8 => ?_) (fun b8 => by exfalso; omega)
  refine j_aload_n dX5_feed_14 rfl rfl ?_
  refine j_getf dX5_feed_15 5 1 rfl (Nat.le_of_ble_eq_true rfl) fl_X5_19 in_5 (by first | exact X.1 | exact X.2.1 | exact X.2.2.2.1 | exact X.2.2.2.2.1 | exact X.2.2.2.2.2.2.1.o | exact X.2.2.2.2.2.2.1.c | exact X.2.2.2.2.2.2.1.i | exact X.2.2.2.2.2.2.1.p | exact X.2.2.2.2.2.2.1.d | exact X.2.2.2.2.2.2.2.1.o | exact X.2.2.2.2.2.2.2.2.1 | exact X.2.2.2.2.2.2.2.2.2.1 | exact X.2.2.2.2.2.2.2.2.2.2.2.1 | exact X.2.2.2.2.2.2.2.2.2.2.2.2.2.1 | exact X.2.2.2.2.2.2.2.2.2.2.2.2.2.2.1 | exact X.2.2.2.2.2.2.2.2.2.2.2.2.2.2.2) rfl ?_
  refine j_getf dX5_feed_18 2 2 rfl (Nat.le_of_ble_eq_true rfl) fl_X5_102 in_2 (by first | exact X.1 | exact X.2.1 | exact X.2.2.2.1 | exact X.2.2.2.2.1 | exact X.2.2.2.2.2.2.1.o | exact X.2.2.2.2.2.2.1.c | exact X.2.2.2.2.2.2.1.i | exact X.2.2.2.2.2.2.1.p | exact X.2.2.2.2.2.2.1.d | exact X.2.2.2.2.2.2.2.1.o | exact X.2.2.2.2.2.2.2.2.1 | exact X.2.2.2.2.2.2.2.2.2.1 | exact X.2.2.2.2.2.2.2.2.2.2.2.1 | exact X.2.2.2.2.2.2.2.2.2.2.2.2.2.1 | exact X.2.2.2.2.2.2.2.2.2.2.2.2.2.2.1 | exact X.2.2.2.2.2.2.2.2.2.2.2.2.2.2.2) rfl ?_
  refine j_top (nI len) hl ?_
  refine j_iload_n dX5_feed_21 rfl rfl ?_
  first | refine j_iaddN dX5_feed_22 ?_ | refine j_iadd dX5_feed_22 ?_
  refine j_sipush (nI 400) dX5_feed_23 rfl ?_
  refine j_icmp_leN 32 dX5_feed_26 (by decide) (by omega) (by omega) (fun b26 => by exfalso; omega) (fun b26 => ?_)
  refine j_ldc (-1000003) dX5_feed_29 kc_X5_103 ?_
  exact j_iret rfl dX5_feed_31 rfl rfl (Nat.le_of_ble_eq_true rfl) (Nat.le_of_ble_eq_true rfl)
theorem x_feed_ok (X : XR σ lf fd rl rn ri tp rd dd d df nx kp da di tr bo ne) {m len : Nat} (w : Int64) (hl : rd 0 = nI len) (h1 : 1 ≤ m) (h2 : m ≤ 8) (h : len + m ≤ 400) : Ct G yX5_feed cX5_feed 5 (some .int) 1 0 0 z σ [.ref 0, .long w, .int (nI m)] (some (.int (nI (len + m)))) z (fdH σ (fdT w m len tp m) rd (nI (len + m))) := by
  refine Ct.ofJ RX5 rfl [some (.ref 0), some (.long w), none, some (.int (nI m)), none] rfl (by decide) (by simp [Value.category]) ?_
  refine j_iload_n dX5_feed_0 rfl rfl ?_
  refine j_iconst (nI 1) dX5_feed_1 rfl ?_
  refine j_icmp_ltN 11 dX5_feed_2 (by decide) (by omega) (by omega) (fun b2 => by exfalso; omega) (fun b2 => ?_)
  refine j_iload_n dX5_feed_5 rfl rfl ?_
  refine j_bipush (nI 8) dX5_feed_6 rfl ?_
  refine j_icmp_leN 14 dX5_feed_8 (by decide) (by omega) (by omega) (fun b8 => ?_) (fun b8 => by exfalso; omega)
  refine j_aload_n dX5_feed_14 rfl rfl ?_
  refine j_getf dX5_feed_15 5 1 rfl (Nat.le_of_ble_eq_true rfl) fl_X5_19 in_5 (by first | exact X.1 | exact X.2.1 | exact X.2.2.2.1 | exact X.2.2.2.2.1 | exact X.2.2.2.2.2.2.1.o | exact X.2.2.2.2.2.2.1.c | exact X.2.2.2.2.2.2.1.i | exact X.2.2.2.2.2.2.1.p | exact X.2.2.2.2.2.2.1.d | exact X.2.2.2.2.2.2.2.1.o | exact X.2.2.2.2.2.2.2.2.1 | exact X.2.2.2.2.2.2.2.2.2.1 | exact X.2.2.2.2.2.2.2.2.2.2.2.1 | exact X.2.2.2.2.2.2.2.2.2.2.2.2.2.1 | exact X.2.2.2.2.2.2.2.2.2.2.2.2.2.2.1 | exact X.2.2.2.2.2.2.2.2.2.2.2.2.2.2.2) rfl ?_
  refine j_getf dX5_feed_18 2 2 rfl (Nat.le_of_ble_eq_true rfl) fl_X5_102 in_2 (by first | exact X.1 | exact X.2.1 | exact X.2.2.2.1 | exact X.2.2.2.2.1 | exact X.2.2.2.2.2.2.1.o | exact X.2.2.2.2.2.2.1.c | exact X.2.2.2.2.2.2.1.i | exact X.2.2.2.2.2.2.1.p | exact X.2.2.2.2.2.2.1.d | exact X.2.2.2.2.2.2.2.1.o | exact X.2.2.2.2.2.2.2.2.1 | exact X.2.2.2.2.2.2.2.2.2.1 | exact X.2.2.2.2.2.2.2.2.2.2.2.1 | exact X.2.2.2.2.2.2.2.2.2.2.2.2.2.1 | exact X.2.2.2.2.2.2.2.2.2.2.2.2.2.2.1 | exact X.2.2.2.2.2.2.2.2.2.2.2.2.2.2.2) rfl ?_
  refine j_top (nI len) hl ?_
  refine j_iload_n dX5_feed_21 rfl rfl ?_
  first | refine j_iaddN dX5_feed_22 ?_ | refine j_iadd dX5_feed_22 ?_
  refine j_sipush (nI 400) dX5_feed_23 rfl ?_
  refine j_icmp_leN 32 dX5_feed_26 (by decide) (by omega) (by omega) (fun b26 => ?_) (fun b26 => by exfalso; omega)
  refine j_iload_n dX5_feed_32 rfl rfl ?_
  refine j_iconst (nI 1) dX5_feed_33 rfl ?_
  refine j_isubN dX5_feed_34 (by omega) ?_
  refine j_istore dX5_feed_35 (Nat.le_of_ble_eq_true rfl) rfl ?_
  suffices H : ∀ (kk k : Nat) (x : Int32), k ≤ m → m < k + kk → (k < m ∧ x = nI (m - 1 - k)) ∨ (k = m ∧ x = -1) → J G RX5 cX5_feed 5 (some .int) (TQ G 1 0 0 (some (.int (nI (len + m)))) z (fdH σ (fdT w m len tp m) rd (nI (len + m)))) z (fdH σ (fdT w m len tp k) rd (nI (len + k))) 0 0 37 [some (.ref 0), some (.long w), none, some (.int (nI m)), some (.int x)] [] from (by have H0 := H (m + 1) 0 (nI (m - 1)) (by omega) (by omega) (Or.inl ⟨by omega, by rw [Nat.sub_zero]⟩); rw [show fdH σ (fdT w m len tp 0) rd (nI (len + 0)) = σ from by (unfold fdH; rw [show ups σ 19 (.inl (1, 400, fdT w m len tp 0)) = σ from ups_self X.2.2.2.2.1]; exact ups_self (by rw [X.2.2.2.1]; show some (xR rd) = some (xR (upd rd 0 (nI len))); rw [← hl]; rfl))] at H0; exact H0)
  intro kk
  induction kk with
  | zero => intro k x h3 h4; exact absurd h4 (by omega)
  | succ kk ih =>
    intro k x h3 h4 hx
    have X := (X.tape (fdT w m len tp k)).rdr (upd rd 0 (nI (len + k)))
    by_cases hk : k < m
    · obtain rfl : x = nI (m - 1 - k) := hx.elim (fun q => q.2) (fun q => absurd q.1 (by omega))
      refine j_iload dX5_feed_37 rfl ?_
      refine j_if_lt 85 dX5_feed_39 (by decide) (fun b39 => by exact absurd b39 (nI_pos (by omega))) (fun b39 => ?_)
      refine j_aload_n dX5_feed_42 rfl rfl ?_
      refine j_getf dX5_feed_43 5 1 rfl (Nat.le_of_ble_eq_true rfl) fl_X5_19 in_5 (by first | exact X.1 | exact X.2.1 | exact X.2.2.2.1 | exact X.2.2.2.2.1 | exact X.2.2.2.2.2.2.1.o | exact X.2.2.2.2.2.2.1.c | exact X.2.2.2.2.2.2.1.i | exact X.2.2.2.2.2.2.1.p | exact X.2.2.2.2.2.2.1.d | exact X.2.2.2.2.2.2.2.1.o | exact X.2.2.2.2.2.2.2.2.1 | exact X.2.2.2.2.2.2.2.2.2.1 | exact X.2.2.2.2.2.2.2.2.2.2.2.1 | exact X.2.2.2.2.2.2.2.2.2.2.2.2.2.1 | exact X.2.2.2.2.2.2.2.2.2.2.2.2.2.2.1 | exact X.2.2.2.2.2.2.2.2.2.2.2.2.2.2.2) rfl ?_
      refine j_getf dX5_feed_46 2 0 rfl (Nat.le_of_ble_eq_true rfl) fl_X5_104 in_2 (by first | exact X.1 | exact X.2.1 | exact X.2.2.2.1 | exact X.2.2.2.2.1 | exact X.2.2.2.2.2.2.1.o | exact X.2.2.2.2.2.2.1.c | exact X.2.2.2.2.2.2.1.i | exact X.2.2.2.2.2.2.1.p | exact X.2.2.2.2.2.2.1.d | exact X.2.2.2.2.2.2.2.1.o | exact X.2.2.2.2.2.2.2.2.1 | exact X.2.2.2.2.2.2.2.2.2.1 | exact X.2.2.2.2.2.2.2.2.2.2.2.1 | exact X.2.2.2.2.2.2.2.2.2.2.2.2.2.1 | exact X.2.2.2.2.2.2.2.2.2.2.2.2.2.2.1 | exact X.2.2.2.2.2.2.2.2.2.2.2.2.2.2.2) rfl ?_
      refine j_aload_n dX5_feed_49 rfl rfl ?_
      refine j_getf dX5_feed_50 5 1 rfl (Nat.le_of_ble_eq_true rfl) fl_X5_19 in_5 (by first | exact X.1 | exact X.2.1 | exact X.2.2.2.1 | exact X.2.2.2.2.1 | exact X.2.2.2.2.2.2.1.o | exact X.2.2.2.2.2.2.1.c | exact X.2.2.2.2.2.2.1.i | exact X.2.2.2.2.2.2.1.p | exact X.2.2.2.2.2.2.1.d | exact X.2.2.2.2.2.2.2.1.o | exact X.2.2.2.2.2.2.2.2.1 | exact X.2.2.2.2.2.2.2.2.2.1 | exact X.2.2.2.2.2.2.2.2.2.2.2.1 | exact X.2.2.2.2.2.2.2.2.2.2.2.2.2.1 | exact X.2.2.2.2.2.2.2.2.2.2.2.2.2.2.1 | exact X.2.2.2.2.2.2.2.2.2.2.2.2.2.2.2) rfl ?_
      refine j_getf dX5_feed_53 2 2 rfl (Nat.le_of_ble_eq_true rfl) fl_X5_102 in_2 (by first | exact X.1 | exact X.2.1 | exact X.2.2.2.1 | exact X.2.2.2.2.1 | exact X.2.2.2.2.2.2.1.o | exact X.2.2.2.2.2.2.1.c | exact X.2.2.2.2.2.2.1.i | exact X.2.2.2.2.2.2.1.p | exact X.2.2.2.2.2.2.1.d | exact X.2.2.2.2.2.2.2.1.o | exact X.2.2.2.2.2.2.2.2.1 | exact X.2.2.2.2.2.2.2.2.2.1 | exact X.2.2.2.2.2.2.2.2.2.2.2.1 | exact X.2.2.2.2.2.2.2.2.2.2.2.2.2.1 | exact X.2.2.2.2.2.2.2.2.2.2.2.2.2.2.1 | exact X.2.2.2.2.2.2.2.2.2.2.2.2.2.2.2) rfl ?_
      refine j_top (nI (len + k)) rfl ?_
      refine j_lload_n dX5_feed_56 rfl rfl ?_
      refine j_bipush (nI 8) dX5_feed_57 rfl ?_
      refine j_iload dX5_feed_59 rfl ?_
      first | refine j_imulN dX5_feed_61 ?_ | refine j_imul dX5_feed_61 ?_
      refine j_lshr dX5_feed_62 ?_
      refine j_l2i dX5_feed_63 ?_
      refine j_i2b dX5_feed_64 ?_
      refine j_bast dX5_feed_65 (by first | exact X.1 | exact X.2.1 | exact X.2.2.2.1 | exact X.2.2.2.2.1 | exact X.2.2.2.2.2.2.1.o | exact X.2.2.2.2.2.2.1.c | exact X.2.2.2.2.2.2.1.i | exact X.2.2.2.2.2.2.1.p | exact X.2.2.2.2.2.2.1.d | exact X.2.2.2.2.2.2.2.1.o | exact X.2.2.2.2.2.2.2.2.1 | exact X.2.2.2.2.2.2.2.2.2.1 | exact X.2.2.2.2.2.2.2.2.2.2.2.1 | exact X.2.2.2.2.2.2.2.2.2.2.2.2.2.1 | exact X.2.2.2.2.2.2.2.2.2.2.2.2.2.2.1 | exact X.2.2.2.2.2.2.2.2.2.2.2.2.2.2.2) rfl (by omega) (by decide) _ rfl ?_
      have X := X.tape (fdT w m len tp (k + 1))
      refine j_aload_n dX5_feed_66 rfl rfl ?_
      refine j_getf dX5_feed_67 5 1 rfl (Nat.le_of_ble_eq_true rfl) fl_X5_19 in_5 (by first | exact X.1 | exact X.2.1 | exact X.2.2.2.1 | exact X.2.2.2.2.1 | exact X.2.2.2.2.2.2.1.o | exact X.2.2.2.2.2.2.1.c | exact X.2.2.2.2.2.2.1.i | exact X.2.2.2.2.2.2.1.p | exact X.2.2.2.2.2.2.1.d | exact X.2.2.2.2.2.2.2.1.o | exact X.2.2.2.2.2.2.2.2.1 | exact X.2.2.2.2.2.2.2.2.2.1 | exact X.2.2.2.2.2.2.2.2.2.2.2.1 | exact X.2.2.2.2.2.2.2.2.2.2.2.2.2.1 | exact X.2.2.2.2.2.2.2.2.2.2.2.2.2.2.1 | exact X.2.2.2.2.2.2.2.2.2.2.2.2.2.2.2) rfl ?_
      refine j_dup dX5_feed_70 rfl ?_
      refine j_getf dX5_feed_71 2 2 rfl (Nat.le_of_ble_eq_true rfl) fl_X5_102 in_2 (by first | exact X.1 | exact X.2.1 | exact X.2.2.2.1 | exact X.2.2.2.2.1 | exact X.2.2.2.2.2.2.1.o | exact X.2.2.2.2.2.2.1.c | exact X.2.2.2.2.2.2.1.i | exact X.2.2.2.2.2.2.1.p | exact X.2.2.2.2.2.2.1.d | exact X.2.2.2.2.2.2.2.1.o | exact X.2.2.2.2.2.2.2.2.1 | exact X.2.2.2.2.2.2.2.2.2.1 | exact X.2.2.2.2.2.2.2.2.2.2.2.1 | exact X.2.2.2.2.2.2.2.2.2.2.2.2.2.1 | exact X.2.2.2.2.2.2.2.2.2.2.2.2.2.2.1 | exact X.2.2.2.2.2.2.2.2.2.2.2.2.2.2.2) rfl ?_
      refine j_top (nI (len + k)) rfl ?_
      refine j_iconst (nI 1) dX5_feed_74 rfl ?_
      first | refine j_iaddN dX5_feed_75 ?_ | refine j_iadd dX5_feed_75 ?_
      refine j_putf dX5_feed_76 2 2 rfl (Nat.le_of_ble_eq_true rfl) fl_X5_102 in_2 tyX2 tyX2_ok nmX2 rfl rfl (by first | exact X.1 | exact X.2.1 | exact X.2.2.2.1 | exact X.2.2.2.2.1 | exact X.2.2.2.2.2.2.1.o | exact X.2.2.2.2.2.2.1.c | exact X.2.2.2.2.2.2.1.i | exact X.2.2.2.2.2.2.1.p | exact X.2.2.2.2.2.2.1.d | exact X.2.2.2.2.2.2.2.1.o | exact X.2.2.2.2.2.2.2.2.1 | exact X.2.2.2.2.2.2.2.2.2.1 | exact X.2.2.2.2.2.2.2.2.2.2.2.1 | exact X.2.2.2.2.2.2.2.2.2.2.2.2.2.1 | exact X.2.2.2.2.2.2.2.2.2.2.2.2.2.2.1 | exact X.2.2.2.2.2.2.2.2.2.2.2.2.2.2.2) (Nat.le_of_ble_eq_true rfl) _ (show _ = fdH σ (fdT w m len tp (k + 1)) rd (nI (len + (k + 1))) from ups4) ?_
      refine j_iinc _ dX5_feed_79 rfl rfl (Nat.le_of_ble_eq_true rfl) rfl ?_
      refine j_goto 37 dX5_feed_82 (by decide) ?_
      refine ih (k + 1) _ (by omega) (by omega) ?_
      by_cases hk2 : k + 1 < m
      · refine Or.inl ⟨hk2, ?_⟩
        rw [show m - 1 - k = (m - 1 - (k + 1)) + 1 by omega, show Int32.ofInt (-1) = (-1 : Int32) from by decide]
        exact pk_m1 _
      · refine Or.inr ⟨by omega, ?_⟩
        rw [show m - 1 - k = 0 by omega]
        decide
    · obtain rfl : k = m := by omega
      obtain rfl : x = -1 := hx.elim (fun q => absurd q.1 (by omega)) (fun q => q.2)
      refine j_iload dX5_feed_37 rfl ?_
      refine j_if_lt 85 dX5_feed_39 (by decide) (fun b39 => ?_) (fun b39 => by exact absurd (by decide) b39)
      refine j_aload_n dX5_feed_85 rfl rfl ?_
      refine j_getf dX5_feed_86 5 1 rfl (Nat.le_of_ble_eq_true rfl) fl_X5_19 in_5 (by first | exact X.1 | exact X.2.1 | exact X.2.2.2.1 | exact X.2.2.2.2.1 | exact X.2.2.2.2.2.2.1.o | exact X.2.2.2.2.2.2.1.c | exact X.2.2.2.2.2.2.1.i | exact X.2.2.2.2.2.2.1.p | exact X.2.2.2.2.2.2.1.d | exact X.2.2.2.2.2.2.2.1.o | exact X.2.2.2.2.2.2.2.2.1 | exact X.2.2.2.2.2.2.2.2.2.1 | exact X.2.2.2.2.2.2.2.2.2.2.2.1 | exact X.2.2.2.2.2.2.2.2.2.2.2.2.2.1 | exact X.2.2.2.2.2.2.2.2.2.2.2.2.2.2.1 | exact X.2.2.2.2.2.2.2.2.2.2.2.2.2.2.2) rfl ?_
      refine j_getf dX5_feed_89 2 2 rfl (Nat.le_of_ble_eq_true rfl) fl_X5_102 in_2 (by first | exact X.1 | exact X.2.1 | exact X.2.2.2.1 | exact X.2.2.2.2.1 | exact X.2.2.2.2.2.2.1.o | exact X.2.2.2.2.2.2.1.c | exact X.2.2.2.2.2.2.1.i | exact X.2.2.2.2.2.2.1.p | exact X.2.2.2.2.2.2.1.d | exact X.2.2.2.2.2.2.2.1.o | exact X.2.2.2.2.2.2.2.2.1 | exact X.2.2.2.2.2.2.2.2.2.1 | exact X.2.2.2.2.2.2.2.2.2.2.2.1 | exact X.2.2.2.2.2.2.2.2.2.2.2.2.2.1 | exact X.2.2.2.2.2.2.2.2.2.2.2.2.2.2.1 | exact X.2.2.2.2.2.2.2.2.2.2.2.2.2.2.2) rfl ?_
      exact j_iret rfl dX5_feed_92 rfl rfl (Nat.le_of_ble_eq_true rfl) (Nat.le_of_ble_eq_true rfl)
end O8
end

section
-- ===== PART A: goes FIRST, ahead of the names: the tables' words, and 'selects' of the private methods out of them =====
/-- a private method of a class that the tables say can be made, by its rows of tables_1 -/
def lw_okq (q : MethodName × Nat) : Prop := (q.1.cls ≠ "java/lang/invoke/MethodHandle" ∧ q.1.cls ≠ "java/lang/invoke/VarHandle") ∧ Cond.instantiable q.1.cls q.2 ∈ tables_1 ∧ Cond.privateMethod q.1 ∈ tables_1 ∧ Cond.instanceMethod q.1 ∈ tables_1
theorem lw_p0 : lw_okq (⟨"java/lang/Throwable", "fillInStackTrace", "(I)Ljava/lang/Throwable;"⟩, 6) := ⟨⟨by decide +kernel, by decide +kernel⟩, List.mem_of_getElem? (i := 173) (by decide +kernel), List.mem_of_getElem? (i := 171) (by decide +kernel), List.mem_of_getElem? (i := 172) (by decide +kernel)⟩
theorem lw_p1 : lw_okq (⟨"RelationDesk$Reader", "readTerm", "(LRelationDesk$Tables;I)LRelationDesk$Term;"⟩, 6) := ⟨⟨by decide +kernel, by decide +kernel⟩, List.mem_of_getElem? (i := 49) (by decide +kernel), List.mem_of_getElem? (i := 420) (by decide +kernel), List.mem_of_getElem? (i := 421) (by decide +kernel)⟩
theorem lw_p2 : lw_okq (⟨"RelationDesk$Reader", "fail", "(I)V"⟩, 6) := ⟨⟨by decide +kernel, by decide +kernel⟩, List.mem_of_getElem? (i := 49) (by decide +kernel), List.mem_of_getElem? (i := 424) (by decide +kernel), List.mem_of_getElem? (i := 425) (by decide +kernel)⟩
theorem lw_p3 : lw_okq (⟨"RelationDesk$Reader", "nextWithin", "(II)I"⟩, 6) := ⟨⟨by decide +kernel, by decide +kernel⟩, List.mem_of_getElem? (i := 49) (by decide +kernel), List.mem_of_getElem? (i := 428) (by decide +kernel), List.mem_of_getElem? (i := 429) (by decide +kernel)⟩
theorem lw_p4 : lw_okq (⟨"RelationDesk$Reader", "nextWord", "()I"⟩, 6) := ⟨⟨by decide +kernel, by decide +kernel⟩, List.mem_of_getElem? (i := 49) (by decide +kernel), List.mem_of_getElem? (i := 432) (by decide +kernel), List.mem_of_getElem? (i := 433) (by decide +kernel)⟩
theorem lw_p5 : lw_okq (⟨"RelationDesk$Reader", "failed", "()Z"⟩, 6) := ⟨⟨by decide +kernel, by decide +kernel⟩, List.mem_of_getElem? (i := 49) (by decide +kernel), List.mem_of_getElem? (i := 436) (by decide +kernel), List.mem_of_getElem? (i := 437) (by decide +kernel)⟩
theorem lw_p6 : lw_okq (⟨"RelationDesk$Reader", "nextTerm", "(I)LRelationDesk$Term;"⟩, 6) := ⟨⟨by decide +kernel, by decide +kernel⟩, List.mem_of_getElem? (i := 49) (by decide +kernel), List.mem_of_getElem? (i := 440) (by decide +kernel), List.mem_of_getElem? (i := 441) (by decide +kernel)⟩
theorem lw_p7 : lw_okq (⟨"RelationDesk$Reader", "readNumbers", "(LRelationDesk$Term;LRelationDesk$Tables;)V"⟩, 6) := ⟨⟨by decide +kernel, by decide +kernel⟩, List.mem_of_getElem? (i := 49) (by decide +kernel), List.mem_of_getElem? (i := 550) (by decide +kernel), List.mem_of_getElem? (i := 551) (by decide +kernel)⟩
theorem lw_p8 : lw_okq (⟨"RelationDesk$Runner", "beginAnew", "(LRelationDesk$Term;I)V"⟩, 2) := ⟨⟨by decide +kernel, by decide +kernel⟩, List.mem_of_getElem? (i := 79) (by decide +kernel), List.mem_of_getElem? (i := 578) (by decide +kernel), List.mem_of_getElem? (i := 579) (by decide +kernel)⟩
theorem lw_p9 : lw_okq (⟨"RelationDesk$Runner", "ask", "(LRelationDesk$Term;I)I"⟩, 2) := ⟨⟨by decide +kernel, by decide +kernel⟩, List.mem_of_getElem? (i := 79) (by decide +kernel), List.mem_of_getElem? (i := 604) (by decide +kernel), List.mem_of_getElem? (i := 605) (by decide +kernel)⟩
theorem lw_p10 : lw_okq (⟨"RelationDesk$Runner", "askScan", "(LRelationDesk$Term;)I"⟩, 2) := ⟨⟨by decide +kernel, by decide +kernel⟩, List.mem_of_getElem? (i := 79) (by decide +kernel), List.mem_of_getElem? (i := 608) (by decide +kernel), List.mem_of_getElem? (i := 609) (by decide +kernel)⟩
theorem lw_p11 : lw_okq (⟨"RelationDesk$Runner", "takeRow", "(LRelationDesk$Term;LRelationDesk$Table;I)I"⟩, 2) := ⟨⟨by decide +kernel, by decide +kernel⟩, List.mem_of_getElem? (i := 79) (by decide +kernel), List.mem_of_getElem? (i := 612) (by decide +kernel), List.mem_of_getElem? (i := 613) (by decide +kernel)⟩
theorem lw_p12 : lw_okq (⟨"RelationDesk$Runner", "askSelect", "(LRelationDesk$Term;I)I"⟩, 2) := ⟨⟨by decide +kernel, by decide +kernel⟩, List.mem_of_getElem? (i := 79) (by decide +kernel), List.mem_of_getElem? (i := 621) (by decide +kernel), List.mem_of_getElem? (i := 622) (by decide +kernel)⟩
theorem lw_p13 : lw_okq (⟨"RelationDesk$Runner", "askIndex", "(LRelationDesk$Term;)I"⟩, 2) := ⟨⟨by decide +kernel, by decide +kernel⟩, List.mem_of_getElem? (i := 79) (by decide +kernel), List.mem_of_getElem? (i := 636) (by decide +kernel), List.mem_of_getElem? (i := 637) (by decide +kernel)⟩
theorem lw_p14 : lw_okq (⟨"RelationDesk$Runner", "askProject", "(LRelationDesk$Term;I)I"⟩, 2) := ⟨⟨by decide +kernel, by decide +kernel⟩, List.mem_of_getElem? (i := 79) (by decide +kernel), List.mem_of_getElem? (i := 644) (by decide +kernel), List.mem_of_getElem? (i := 645) (by decide +kernel)⟩
theorem lw_p15 : lw_okq (⟨"RelationDesk$Runner", "askPair", "(LRelationDesk$Term;I)I"⟩, 2) := ⟨⟨by decide +kernel, by decide +kernel⟩, List.mem_of_getElem? (i := 79) (by decide +kernel), List.mem_of_getElem? (i := 648) (by decide +kernel), List.mem_of_getElem? (i := 649) (by decide +kernel)⟩
def lw_privs_1 : List (MethodName × Nat) := [(⟨"java/lang/Throwable", "fillInStackTrace", "(I)Ljava/lang/Throwable;"⟩, 6), (⟨"RelationDesk$Reader", "readTerm", "(LRelationDesk$Tables;I)LRelationDesk$Term;"⟩, 6), (⟨"RelationDesk$Reader", "fail", "(I)V"⟩, 6), (⟨"RelationDesk$Reader", "nextWithin", "(II)I"⟩, 6), (⟨"RelationDesk$Reader", "nextWord", "()I"⟩, 6), (⟨"RelationDesk$Reader", "failed", "()Z"⟩, 6), (⟨"RelationDesk$Reader", "nextTerm", "(I)LRelationDesk$Term;"⟩, 6), (⟨"RelationDesk$Reader", "readNumbers", "(LRelationDesk$Term;LRelationDesk$Tables;)V"⟩, 6), (⟨"RelationDesk$Runner", "beginAnew", "(LRelationDesk$Term;I)V"⟩, 2), (⟨"RelationDesk$Runner", "ask", "(LRelationDesk$Term;I)I"⟩, 2), (⟨"RelationDesk$Runner", "askScan", "(LRelationDesk$Term;)I"⟩, 2), (⟨"RelationDesk$Runner", "takeRow", "(LRelationDesk$Term;LRelationDesk$Table;I)I"⟩, 2), (⟨"RelationDesk$Runner", "askSelect", "(LRelationDesk$Term;I)I"⟩, 2), (⟨"RelationDesk$Runner", "askIndex", "(LRelationDesk$Term;)I"⟩, 2), (⟨"RelationDesk$Runner", "askProject", "(LRelationDesk$Term;I)I"⟩, 2), (⟨"RelationDesk$Runner", "askPair", "(LRelationDesk$Term;I)I"⟩, 2)]
theorem lw_r1 : ∀ q ∈ lw_privs_1, lw_okq q := List.forall_mem_cons.mpr ⟨lw_p0, List.forall_mem_cons.mpr ⟨lw_p1, List.forall_mem_cons.mpr ⟨lw_p2, List.forall_mem_cons.mpr ⟨lw_p3, List.forall_mem_cons.mpr ⟨lw_p4, List.forall_mem_cons.mpr ⟨lw_p5, List.forall_mem_cons.mpr ⟨lw_p6, List.forall_mem_cons.mpr ⟨lw_p7, List.forall_mem_cons.mpr ⟨lw_p8, List.forall_mem_cons.mpr ⟨lw_p9, List.forall_mem_cons.mpr ⟨lw_p10, List.forall_mem_cons.mpr ⟨lw_p11, List.forall_mem_cons.mpr ⟨lw_p12, List.forall_mem_cons.mpr ⟨lw_p13, List.forall_mem_cons.mpr ⟨lw_p14, List.forall_mem_cons.mpr ⟨lw_p15, fun _ h => absurd h List.not_mem_nil⟩⟩⟩⟩⟩⟩⟩⟩⟩⟩⟩⟩⟩⟩⟩⟩
theorem lw_p16 : lw_okq (⟨"RelationDesk$Runner", "askUnion", "(LRelationDesk$Term;I)I"⟩, 2) := ⟨⟨by decide +kernel, by decide +kernel⟩, List.mem_of_getElem? (i := 79) (by decide +kernel), List.mem_of_getElem? (i := 656) (by decide +kernel), List.mem_of_getElem? (i := 657) (by decide +kernel)⟩
theorem lw_p17 : lw_okq (⟨"RelationDesk$Runner", "askThrough", "(LRelationDesk$Term;LRelationDesk$Term;I)I"⟩, 2) := ⟨⟨by decide +kernel, by decide +kernel⟩, List.mem_of_getElem? (i := 79) (by decide +kernel), List.mem_of_getElem? (i := 660) (by decide +kernel), List.mem_of_getElem? (i := 661) (by decide +kernel)⟩
theorem lw_p18 : lw_okq (⟨"RelationDesk$Runner", "askDistinct", "(LRelationDesk$Term;I)I"⟩, 2) := ⟨⟨by decide +kernel, by decide +kernel⟩, List.mem_of_getElem? (i := 79) (by decide +kernel), List.mem_of_getElem? (i := 664) (by decide +kernel), List.mem_of_getElem? (i := 665) (by decide +kernel)⟩
theorem lw_p19 : lw_okq (⟨"RelationDesk$Kept", "isAt", "(I[I)Z"⟩, 4) := ⟨⟨by decide +kernel, by decide +kernel⟩, List.mem_of_getElem? (i := 449) (by decide +kernel), List.mem_of_getElem? (i := 672) (by decide +kernel), List.mem_of_getElem? (i := 673) (by decide +kernel)⟩
theorem lw_p20 : lw_okq (⟨"RelationDesk$Runner", "askLimit", "(LRelationDesk$Term;I)I"⟩, 2) := ⟨⟨by decide +kernel, by decide +kernel⟩, List.mem_of_getElem? (i := 79) (by decide +kernel), List.mem_of_getElem? (i := 681) (by decide +kernel), List.mem_of_getElem? (i := 682) (by decide +kernel)⟩
theorem lw_p21 : lw_okq (⟨"RelationDesk$Runner", "askCount", "(LRelationDesk$Term;I)I"⟩, 2) := ⟨⟨by decide +kernel, by decide +kernel⟩, List.mem_of_getElem? (i := 79) (by decide +kernel), List.mem_of_getElem? (i := 685) (by decide +kernel), List.mem_of_getElem? (i := 686) (by decide +kernel)⟩
theorem lw_p22 : lw_okq (⟨"RelationDesk$Runner", "gather", "(LRelationDesk$Term;I)I"⟩, 2) := ⟨⟨by decide +kernel, by decide +kernel⟩, List.mem_of_getElem? (i := 79) (by decide +kernel), List.mem_of_getElem? (i := 689) (by decide +kernel), List.mem_of_getElem? (i := 690) (by decide +kernel)⟩
theorem lw_p23 : lw_okq (⟨"RelationDesk$Runner", "askGathered", "(LRelationDesk$Term;I)I"⟩, 2) := ⟨⟨by decide +kernel, by decide +kernel⟩, List.mem_of_getElem? (i := 79) (by decide +kernel), List.mem_of_getElem? (i := 729) (by decide +kernel), List.mem_of_getElem? (i := 730) (by decide +kernel)⟩
theorem lw_p24 : lw_okq (⟨"RelationDesk", "keepLastRow", "(LRelationDesk$Term;)V"⟩, 7) := ⟨⟨by decide +kernel, by decide +kernel⟩, List.mem_of_getElem? (i := 17) (by decide +kernel), List.mem_of_getElem? (i := 737) (by decide +kernel), List.mem_of_getElem? (i := 738) (by decide +kernel)⟩
theorem lw_p25 : lw_okq (⟨"RelationDeskModel", "isColumn", "(II)Z"⟩, 40) := ⟨⟨by decide +kernel, by decide +kernel⟩, List.mem_of_getElem? (i := 742) (by decide +kernel), List.mem_of_getElem? (i := 885) (by decide +kernel), List.mem_of_getElem? (i := 886) (by decide +kernel)⟩
theorem lw_p26 : lw_okq (⟨"RelationDeskModel", "isTable", "(I)Z"⟩, 40) := ⟨⟨by decide +kernel, by decide +kernel⟩, List.mem_of_getElem? (i := 742) (by decide +kernel), List.mem_of_getElem? (i := 889) (by decide +kernel), List.mem_of_getElem? (i := 890) (by decide +kernel)⟩
theorem lw_p27 : lw_okq (⟨"RelationDeskModel", "says", "(Z)Z"⟩, 40) := ⟨⟨by decide +kernel, by decide +kernel⟩, List.mem_of_getElem? (i := 742) (by decide +kernel), List.mem_of_getElem? (i := 897) (by decide +kernel), List.mem_of_getElem? (i := 898) (by decide +kernel)⟩
theorem lw_p28 : lw_okq (⟨"RelationDeskModel", "matching", "(III)I"⟩, 40) := ⟨⟨by decide +kernel, by decide +kernel⟩, List.mem_of_getElem? (i := 742) (by decide +kernel), List.mem_of_getElem? (i := 912) (by decide +kernel), List.mem_of_getElem? (i := 913) (by decide +kernel)⟩
theorem lw_p29 : lw_okq (⟨"RelationDeskModel", "all", "()V"⟩, 40) := ⟨⟨by decide +kernel, by decide +kernel⟩, List.mem_of_getElem? (i := 742) (by decide +kernel), List.mem_of_getElem? (i := 945) (by decide +kernel), List.mem_of_getElem? (i := 946) (by decide +kernel)⟩
theorem lw_p30 : lw_okq (⟨"RelationDeskModel", "number", "(II)I"⟩, 40) := ⟨⟨by decide +kernel, by decide +kernel⟩, List.mem_of_getElem? (i := 742) (by decide +kernel), List.mem_of_getElem? (i := 949) (by decide +kernel), List.mem_of_getElem? (i := 950) (by decide +kernel)⟩
theorem lw_p31 : lw_okq (⟨"RelationDeskModel", "fails", "(I)V"⟩, 40) := ⟨⟨by decide +kernel, by decide +kernel⟩, List.mem_of_getElem? (i := 742) (by decide +kernel), List.mem_of_getElem? (i := 953) (by decide +kernel), List.mem_of_getElem? (i := 954) (by decide +kernel)⟩
def lw_privs_2 : List (MethodName × Nat) := [(⟨"RelationDesk$Runner", "askUnion", "(LRelationDesk$Term;I)I"⟩, 2), (⟨"RelationDesk$Runner", "askThrough", "(LRelationDesk$Term;LRelationDesk$Term;I)I"⟩, 2), (⟨"RelationDesk$Runner", "askDistinct", "(LRelationDesk$Term;I)I"⟩, 2), (⟨"RelationDesk$Kept", "isAt", "(I[I)Z"⟩, 4), (⟨"RelationDesk$Runner", "askLimit", "(LRelationDesk$Term;I)I"⟩, 2), (⟨"RelationDesk$Runner", "askCount", "(LRelationDesk$Term;I)I"⟩, 2), (⟨"RelationDesk$Runner", "gather", "(LRelationDesk$Term;I)I"⟩, 2), (⟨"RelationDesk$Runner", "askGathered", "(LRelationDesk$Term;I)I"⟩, 2), (⟨"RelationDesk", "keepLastRow", "(LRelationDesk$Term;)V"⟩, 7), (⟨"RelationDeskModel", "isColumn", "(II)Z"⟩, 40), (⟨"RelationDeskModel", "isTable", "(I)Z"⟩, 40), (⟨"RelationDeskModel", "says", "(Z)Z"⟩, 40), (⟨"RelationDeskModel", "matching", "(III)I"⟩, 40), (⟨"RelationDeskModel", "all", "()V"⟩, 40), (⟨"RelationDeskModel", "number", "(II)I"⟩, 40), (⟨"RelationDeskModel", "fails", "(I)V"⟩, 40)]
theorem lw_r2 : ∀ q ∈ lw_privs_2, lw_okq q := List.forall_mem_cons.mpr ⟨lw_p16, List.forall_mem_cons.mpr ⟨lw_p17, List.forall_mem_cons.mpr ⟨lw_p18, List.forall_mem_cons.mpr ⟨lw_p19, List.forall_mem_cons.mpr ⟨lw_p20, List.forall_mem_cons.mpr ⟨lw_p21, List.forall_mem_cons.mpr ⟨lw_p22, List.forall_mem_cons.mpr ⟨lw_p23, List.forall_mem_cons.mpr ⟨lw_p24, List.forall_mem_cons.mpr ⟨lw_p25, List.forall_mem_cons.mpr ⟨lw_p26, List.forall_mem_cons.mpr ⟨lw_p27, List.forall_mem_cons.mpr ⟨lw_p28, List.forall_mem_cons.mpr ⟨lw_p29, List.forall_mem_cons.mpr ⟨lw_p30, List.forall_mem_cons.mpr ⟨lw_p31, fun _ h => absurd h List.not_mem_nil⟩⟩⟩⟩⟩⟩⟩⟩⟩⟩⟩⟩⟩⟩⟩⟩
theorem lw_p32 : lw_okq (⟨"RelationDeskModel", "numbers", "(I)V"⟩, 40) := ⟨⟨by decide +kernel, by decide +kernel⟩, List.mem_of_getElem? (i := 742) (by decide +kernel), List.mem_of_getElem? (i := 957) (by decide +kernel), List.mem_of_getElem? (i := 958) (by decide +kernel)⟩
theorem lw_p33 : lw_okq (⟨"RelationDeskModel", "any", "()I"⟩, 40) := ⟨⟨by decide +kernel, by decide +kernel⟩, List.mem_of_getElem? (i := 742) (by decide +kernel), List.mem_of_getElem? (i := 961) (by decide +kernel), List.mem_of_getElem? (i := 962) (by decide +kernel)⟩
theorem lw_p34 : lw_okq (⟨"RelationDeskModel", "kind", "(I)I"⟩, 40) := ⟨⟨by decide +kernel, by decide +kernel⟩, List.mem_of_getElem? (i := 742) (by decide +kernel), List.mem_of_getElem? (i := 967) (by decide +kernel), List.mem_of_getElem? (i := 968) (by decide +kernel)⟩
theorem lw_p35 : lw_okq (⟨"RelationDeskModel", "told", "(II)I"⟩, 40) := ⟨⟨by decide +kernel, by decide +kernel⟩, List.mem_of_getElem? (i := 742) (by decide +kernel), List.mem_of_getElem? (i := 971) (by decide +kernel), List.mem_of_getElem? (i := 972) (by decide +kernel)⟩
theorem lw_p36 : lw_okq (⟨"RelationDeskModel", "looks", "(II)V"⟩, 40) := ⟨⟨by decide +kernel, by decide +kernel⟩, List.mem_of_getElem? (i := 742) (by decide +kernel), List.mem_of_getElem? (i := 975) (by decide +kernel), List.mem_of_getElem? (i := 976) (by decide +kernel)⟩
theorem lw_p37 : lw_okq (⟨"RelationDeskModel", "anew", "(I)V"⟩, 40) := ⟨⟨by decide +kernel, by decide +kernel⟩, List.mem_of_getElem? (i := 742) (by decide +kernel), List.mem_of_getElem? (i := 979) (by decide +kernel), List.mem_of_getElem? (i := 980) (by decide +kernel)⟩
theorem lw_p38 : lw_okq (⟨"RelationDeskModel", "ask", "(I)V"⟩, 40) := ⟨⟨by decide +kernel, by decide +kernel⟩, List.mem_of_getElem? (i := 742) (by decide +kernel), List.mem_of_getElem? (i := 991) (by decide +kernel), List.mem_of_getElem? (i := 992) (by decide +kernel)⟩
theorem lw_p39 : lw_okq (⟨"RelationDeskModel", "asked", "(I)Z"⟩, 40) := ⟨⟨by decide +kernel, by decide +kernel⟩, List.mem_of_getElem? (i := 742) (by decide +kernel), List.mem_of_getElem? (i := 995) (by decide +kernel), List.mem_of_getElem? (i := 996) (by decide +kernel)⟩
theorem lw_p40 : lw_okq (⟨"RelationDeskModel", "scan", "(III)Z"⟩, 40) := ⟨⟨by decide +kernel, by decide +kernel⟩, List.mem_of_getElem? (i := 742) (by decide +kernel), List.mem_of_getElem? (i := 999) (by decide +kernel), List.mem_of_getElem? (i := 1000) (by decide +kernel)⟩
theorem lw_p41 : lw_okq (⟨"RelationDeskModel", "tell", "(IZ)V"⟩, 40) := ⟨⟨by decide +kernel, by decide +kernel⟩, List.mem_of_getElem? (i := 742) (by decide +kernel), List.mem_of_getElem? (i := 1003) (by decide +kernel), List.mem_of_getElem? (i := 1004) (by decide +kernel)⟩
theorem lw_p42 : lw_okq (⟨"RelationDeskModel", "isByIndex", "(I)Z"⟩, 40) := ⟨⟨by decide +kernel, by decide +kernel⟩, List.mem_of_getElem? (i := 742) (by decide +kernel), List.mem_of_getElem? (i := 1007) (by decide +kernel), List.mem_of_getElem? (i := 1008) (by decide +kernel)⟩
theorem lw_p43 : lw_okq (⟨"RelationDeskModel", "next", "(I)V"⟩, 40) := ⟨⟨by decide +kernel, by decide +kernel⟩, List.mem_of_getElem? (i := 742) (by decide +kernel), List.mem_of_getElem? (i := 1011) (by decide +kernel), List.mem_of_getElem? (i := 1012) (by decide +kernel)⟩
theorem lw_p44 : lw_okq (⟨"RelationDeskModel", "ended", "(II)V"⟩, 40) := ⟨⟨by decide +kernel, by decide +kernel⟩, List.mem_of_getElem? (i := 742) (by decide +kernel), List.mem_of_getElem? (i := 1015) (by decide +kernel), List.mem_of_getElem? (i := 1016) (by decide +kernel)⟩
theorem lw_p45 : lw_okq (⟨"RelationDeskModel", "comes", "(II)Z"⟩, 40) := ⟨⟨by decide +kernel, by decide +kernel⟩, List.mem_of_getElem? (i := 742) (by decide +kernel), List.mem_of_getElem? (i := 1019) (by decide +kernel), List.mem_of_getElem? (i := 1020) (by decide +kernel)⟩
theorem lw_p46 : lw_okq (⟨"RelationDeskModel", "holds", "(II)Z"⟩, 40) := ⟨⟨by decide +kernel, by decide +kernel⟩, List.mem_of_getElem? (i := 742) (by decide +kernel), List.mem_of_getElem? (i := 1023) (by decide +kernel), List.mem_of_getElem? (i := 1024) (by decide +kernel)⟩
theorem lw_p47 : lw_okq (⟨"RelationDeskModel", "copy", "(II)V"⟩, 40) := ⟨⟨by decide +kernel, by decide +kernel⟩, List.mem_of_getElem? (i := 742) (by decide +kernel), List.mem_of_getElem? (i := 1027) (by decide +kernel), List.mem_of_getElem? (i := 1028) (by decide +kernel)⟩
def lw_privs_3 : List (MethodName × Nat) := [(⟨"RelationDeskModel", "numbers", "(I)V"⟩, 40), (⟨"RelationDeskModel", "any", "()I"⟩, 40), (⟨"RelationDeskModel", "kind", "(I)I"⟩, 40), (⟨"RelationDeskModel", "told", "(II)I"⟩, 40), (⟨"RelationDeskModel", "looks", "(II)V"⟩, 40), (⟨"RelationDeskModel", "anew", "(I)V"⟩, 40), (⟨"RelationDeskModel", "ask", "(I)V"⟩, 40), (⟨"RelationDeskModel", "asked", "(I)Z"⟩, 40), (⟨"RelationDeskModel", "scan", "(III)Z"⟩, 40), (⟨"RelationDeskModel", "tell", "(IZ)V"⟩, 40), (⟨"RelationDeskModel", "isByIndex", "(I)Z"⟩, 40), (⟨"RelationDeskModel", "next", "(I)V"⟩, 40), (⟨"RelationDeskModel", "ended", "(II)V"⟩, 40), (⟨"RelationDeskModel", "comes", "(II)Z"⟩, 40), (⟨"RelationDeskModel", "holds", "(II)Z"⟩, 40), (⟨"RelationDeskModel", "copy", "(II)V"⟩, 40)]
theorem lw_r3 : ∀ q ∈ lw_privs_3, lw_okq q := List.forall_mem_cons.mpr ⟨lw_p32, List.forall_mem_cons.mpr ⟨lw_p33, List.forall_mem_cons.mpr ⟨lw_p34, List.forall_mem_cons.mpr ⟨lw_p35, List.forall_mem_cons.mpr ⟨lw_p36, List.forall_mem_cons.mpr ⟨lw_p37, List.forall_mem_cons.mpr ⟨lw_p38, List.forall_mem_cons.mpr ⟨lw_p39, List.forall_mem_cons.mpr ⟨lw_p40, List.forall_mem_cons.mpr ⟨lw_p41, List.forall_mem_cons.mpr ⟨lw_p42, List.forall_mem_cons.mpr ⟨lw_p43, List.forall_mem_cons.mpr ⟨lw_p44, List.forall_mem_cons.mpr ⟨lw_p45, List.forall_mem_cons.mpr ⟨lw_p46, List.forall_mem_cons.mpr ⟨lw_p47, fun _ h => absurd h List.not_mem_nil⟩⟩⟩⟩⟩⟩⟩⟩⟩⟩⟩⟩⟩⟩⟩⟩
theorem lw_p48 : lw_okq (⟨"RelationDeskModel", "pairs", "(II)V"⟩, 40) := ⟨⟨by decide +kernel, by decide +kernel⟩, List.mem_of_getElem? (i := 742) (by decide +kernel), List.mem_of_getElem? (i := 1031) (by decide +kernel), List.mem_of_getElem? (i := 1032) (by decide +kernel)⟩
theorem lw_p49 : lw_okq (⟨"RelationDeskModel", "keeps", "(II)Z"⟩, 40) := ⟨⟨by decide +kernel, by decide +kernel⟩, List.mem_of_getElem? (i := 742) (by decide +kernel), List.mem_of_getElem? (i := 1035) (by decide +kernel), List.mem_of_getElem? (i := 1036) (by decide +kernel)⟩
theorem lw_p50 : lw_okq (⟨"RelationDeskModel", "isKept", "(III)Z"⟩, 40) := ⟨⟨by decide +kernel, by decide +kernel⟩, List.mem_of_getElem? (i := 742) (by decide +kernel), List.mem_of_getElem? (i := 1039) (by decide +kernel), List.mem_of_getElem? (i := 1040) (by decide +kernel)⟩
theorem lw_p51 : lw_okq (⟨"RelationDeskModel", "isFull", "(II)Z"⟩, 40) := ⟨⟨by decide +kernel, by decide +kernel⟩, List.mem_of_getElem? (i := 742) (by decide +kernel), List.mem_of_getElem? (i := 1043) (by decide +kernel), List.mem_of_getElem? (i := 1044) (by decide +kernel)⟩
theorem lw_p52 : lw_okq (⟨"RelationDeskModel", "lay", "(III)V"⟩, 40) := ⟨⟨by decide +kernel, by decide +kernel⟩, List.mem_of_getElem? (i := 742) (by decide +kernel), List.mem_of_getElem? (i := 1047) (by decide +kernel), List.mem_of_getElem? (i := 1048) (by decide +kernel)⟩
theorem lw_p53 : lw_okq (⟨"RelationDeskModel", "sorts", "(II)Z"⟩, 40) := ⟨⟨by decide +kernel, by decide +kernel⟩, List.mem_of_getElem? (i := 742) (by decide +kernel), List.mem_of_getElem? (i := 1051) (by decide +kernel), List.mem_of_getElem? (i := 1052) (by decide +kernel)⟩
theorem lw_p54 : lw_okq (⟨"RelationDeskModel", "groups", "(II)Z"⟩, 40) := ⟨⟨by decide +kernel, by decide +kernel⟩, List.mem_of_getElem? (i := 742) (by decide +kernel), List.mem_of_getElem? (i := 1055) (by decide +kernel), List.mem_of_getElem? (i := 1056) (by decide +kernel)⟩
def lw_privs_4 : List (MethodName × Nat) := [(⟨"RelationDeskModel", "pairs", "(II)V"⟩, 40), (⟨"RelationDeskModel", "keeps", "(II)Z"⟩, 40), (⟨"RelationDeskModel", "isKept", "(III)Z"⟩, 40), (⟨"RelationDeskModel", "isFull", "(II)Z"⟩, 40), (⟨"RelationDeskModel", "lay", "(III)V"⟩, 40), (⟨"RelationDeskModel", "sorts", "(II)Z"⟩, 40), (⟨"RelationDeskModel", "groups", "(II)Z"⟩, 40)]
theorem lw_r4 : ∀ q ∈ lw_privs_4, lw_okq q := List.forall_mem_cons.mpr ⟨lw_p48, List.forall_mem_cons.mpr ⟨lw_p49, List.forall_mem_cons.mpr ⟨lw_p50, List.forall_mem_cons.mpr ⟨lw_p51, List.forall_mem_cons.mpr ⟨lw_p52, List.forall_mem_cons.mpr ⟨lw_p53, List.forall_mem_cons.mpr ⟨lw_p54, fun _ h => absurd h List.not_mem_nil⟩⟩⟩⟩⟩⟩⟩
def lw_privs : List (MethodName × Nat) := lw_privs_1 ++ (lw_privs_2 ++ (lw_privs_3 ++ (lw_privs_4)))
def lw_tbl : List Cond := k2_sels lw_privs ++ tables_1
theorem lw_privs_ok : ∀ q ∈ lw_privs, lw_okq q := by
  show ∀ q ∈ lw_privs_1 ++ (lw_privs_2 ++ (lw_privs_3 ++ (lw_privs_4))), lw_okq q
  exact List.forall_mem_append.mpr ⟨lw_r1, List.forall_mem_append.mpr ⟨lw_r2, List.forall_mem_append.mpr ⟨lw_r3, lw_r4⟩⟩⟩
-- ===== end of PART A; then your names; then what follows =====
end
section
/-! ===== BEGIN words of one list among another's, by their places ===== -/
theorem goodIn_r {big : List Cond} (ws : List Cond) (ps : List Nat) (hp : ws = ps.filterMap (fun i => big[i]?)) (h : ws.all goodWord = true) : GoodIn big ws := by
  intro w hw
  have h1 := List.all_eq_true.mp h w hw
  rw [hp] at hw
  obtain ⟨i, -, hi⟩ := List.mem_filterMap.mp hw
  have hm : w ∈ big := by first | exact List.mem_of_getElem? hi | exact List.getElem?_mem hi
  exact ⟨hm, good_of_word h1⟩
theorem goodIn_app {big a b : List Cond} (ha : GoodIn big a) (hb : GoodIn big b) : GoodIn big (a ++ b) := fun w h => (List.mem_append.mp h).elim (ha w) (hb w)
theorem goodIn_ca {big a b : List Cond} {c : Cond} (ha : GoodIn big (c :: a)) (hb : GoodIn big b) : GoodIn big (c :: (a ++ b)) := fun w h => (List.mem_cons.mp h).elim (fun e => ha w (List.mem_cons.mpr (Or.inl e))) (fun h => (List.mem_append.mp h).elim (fun h => ha w (List.mem_cons.mpr (Or.inr h))) (hb w))
theorem goodIn_sub {big ws : List Cond} (hm : ∀ w ∈ ws, w ∈ big) (h : ws.all goodWord = true) : GoodIn big ws := fun w hw => ⟨hm w hw, good_of_word (List.all_eq_true.mp h w hw)⟩
/-! ===== END ===== -/

/-! ===== BEGIN exceptions that leave a method, and their catching by the caller (launches without stack traces) ===== -/
section VXA
/-! The laws vx_back, vx_callV, vx_callS, vx_callSW, vx_throw0, vx_throwS follow proofs of the library, with one case more: JvmDerived/Free/Laws.lean (Back.of_free), Shelf42/LK1.lean (callV, callS), Shelf/KitTraced.lean (throwNew0V, throwNewS). -/
/-- where a method has thrown q: the class by its name, the cell, what was written, the world -/
def vx_T (XC : String → State → State → Prop) (st : State) (q : Addr) (t : State) (mc ms : Nat) (free : Addr → Prop) : Prop :=
  ∃ (E : String) (ce : Cell) (L : List Loc), XC E st t ∧ t.heap[q]? = some ce ∧ ce.vm = .none ∧ st.vm.findClass E = some ce.cls ∧ st.WarmedH t.vm ∧ st.sameButNew ({ t with vm := st.vm } : State) L mc ms ∧ ∀ z ∈ L, free z.base
def vx_Q (Qc : Array Value → State → Outcome → State → Prop) (XC : String → State → State → Prop) (mc ms : Nat) (free : Addr → Prop) : Array Value → State → Outcome → State → Prop := fun a st o t =>
  (Qc a st o t ∧ ∃ L, FrameEnd st o t L mc ms ∧ ∀ q ∈ L, free q.base) ∨ ∃ q, o = .threw q ∧ vx_T XC st q t mc ms free
/-- a callee that returns or throws -/
def vx_Met (l : Launch) (y : MethodName) (ws : List Cond) (rm : Room) (Pc : Array Value → State → Prop) (Qc : Array Value → State → Outcome → State → Prop) (XC : String → State → State → Prop) (mc ms : Nat) (free : Addr → Prop) : Prop :=
  MetFree l y (headSpec ws rm) Pc (fun _ _ _ _ _ => True) (vx_Q Qc XC mc ms free)
def vx_Post (XC : String → State → State → Prop) (mc ms : Nat) (free : Addr → Prop) : Pt → Array Value → Addr → Pt → Prop := fun A a q B =>
  ∃ (g : JFrame) (mk : MethodId) (t : State) (L : List Loc) (E : String) (ce : Cell), B.U.heap = t.heap ∧ B.U.vm = t.vm ∧ XC E (A.U.calling g mk a) t ∧ t.heap[q]? = some ce ∧ ce.vm = .none ∧ A.U.vm.findClass E = some ce.cls ∧ B.locs = A.locs ++ L ∧ (∀ z ∈ L, free z.base) ∧ B.cells = A.cells + mc ∧ B.slots = A.slots + ms
def vx_Back (l : Launch) (R : Room) (p : Program) (e : Env) (below : List Frame) (s : State) (sargs : Array Value) (y : MethodName) (len W9 : Nat)
    (Pre : Pt → Array Value → Prop) (Post : Pt → Array Value → Option Value → Pt → Prop) (PostX : Pt → Array Value → Addr → Pt → Prop) : Prop :=
  ∀ (m : MethodId) (meth : Method) (c : Code) (A : Pt) (g : JFrame) (ig : Instr) (mk : MethodId) (a : Array Value),
    Stand p l e R s m sargs below meth c A.U A.locs A.cells A.slots → g.method = m → g.locals.size = c.maxLocals → decode c.code g.pc = .ok (ig, len) →
    2 * g.monitorRoom + (g.stack.map fun v => v.category).sum ≤ W9 → A.U.methodNamed? y = some mk → Pre A a →
    (∃ (v : Option Value) (B : Pt), Stand p l e R s m sargs below meth c B.U B.locs B.cells B.slots ∧ Post A a v B ∧
      Steps p.tables e below (doInvoke e (A.U.setTop g) [] mk a).1 (B.U.setTop { g with pc := g.pc + len, stack := v.toList ++ g.stack })) ∨
    (∃ (q : Addr) (B : Pt), Stand p l e R s m sargs below meth c B.U B.locs B.cells B.slots ∧ PostX A a q B ∧
      Steps p.tables e below (doInvoke e (A.U.setTop g) [] mk a).1 ((B.U.setTop g).pushFrame (.throwing q)))
section Payer
variable {l : Launch} {R : Room} {p : Program} {e : Env} {below : List Frame} {s : State} {sargs : Array Value} {y : MethodName} {len W9 : Nat}
theorem vx_back {ws : List Cond} {rm : Room} {Pc : Array Value → State → Prop} {Qc : Array Value → State → Outcome → State → Prop} {XC : String → State → State → Prop} {mc ms : Nat} {free : Addr → Prop} {bytes : ByteArray} {maxL : Nat} {ret : Option FieldType}
    (hM : vx_Met l y ws rm Pc Qc XC mc ms free) (hblind : FrameBlind Pc) (hrc : rm.cells = mc) (hrs : rm.slots = ms)
    (hframes : rm.frames + 1 ≤ R.frames) (hlocals : W9 + (maxL + 11) + rm.locals ≤ R.locals)
    (hws : ∀ w ∈ ws, ∀ a' U, s.WarmedH U.vm → w.before a' U = true) (hcode : Cond.code y bytes maxL ret ∈ ws) (hinit : ∀ a' U, s.WarmedH U.vm → (Cond.initialized y.cls).before a' U = true) :
    vx_Back l R p e below s sargs y len W9 (PreOf R mc ms Pc) (PostOf Qc mc ms free) (vx_Post XC mc ms free) := by
  intro m meth c A g ig mk a X hg hsize hdg hW hn hp
  have h1 : (headSpec ws rm).pre.before a A.U = true := atoms_intro fun w hw => hws w hw _ _ X.warmed
  have h2 : (Cond.code y bytes maxL ret).before a A.U = true := hws _ hcode _ _ X.warmed
  have h3 : (Cond.initialized y.cls).before a A.U = true := hinit _ _ X.warmed
  have h4 : A.cells + (headSpec ws rm).room.cells ≤ R.cells := by rw [show (headSpec ws rm).room.cells = mc from hrc]; exact hp.1
  have h5 : A.slots + (headSpec ws rm).room.slots ≤ R.slots := by rw [show (headSpec ws rm).room.slots = ms from hrs]; exact hp.2.1
  have hPc : Pc a (A.U.calling g mk a) := hblind _ _ _ _ hp.2.2
  obtain ⟨U, Ls, c0, s0⟩ := A
  dsimp only [Pt.U, Pt.locs, Pt.cells, Pt.slots] at h1 h2 h3 h4 h5 X hn hPc ⊢
  obtain ⟨methY, cY, hmY, hcY, -, hlY, -, -, -, -⟩ := Cond.code_spec hn h2
  obtain ⟨kY, hkY, -⟩ := className_of_methodNamed hn
  have hinitY : kY.init = .initialized := Cond.initialized_spec (findClass_of_methodNamed hn) hkY h3
  have h : At U g.method c below := by rw [hg]; exact X.here
  have hlocals9 : W9 + (maxL + 11) + (headSpec ws rm).room.locals ≤ R.locals := hlocals
  have happ : (headSpec ws rm).appliesLoose y e.platform (U.calling g mk a) = true :=
    Spec.appliesLoose_calling (g := g) h hdg hn hkY hinitY
      (X.room_calling (g := g) (R' := (headSpec ws rm).room) hsize hmY hcY hframes (by rw [hlY]; omega) h4 h5) h1
  obtain ⟨mid, hmid⟩ := h.above
  have hfr : (U.setTop g).frames = (.java g :: mid) ++ below := by rw [State.frames_setTop' g h.top, hmid]; rfl
  obtain ⟨o, s₂, hsteps, -, hend, hq⟩ := Steps.callFree hM p X.admits X.cas X.clock (acts := []) hfr happ hPc trivial
  have hq' : vx_Q Qc XC mc ms free a (U.calling g mk a) o s₂ := hq
  rw [State.frames_setTop' g h.top] at hend
  obtain ⟨g₀, hg0⟩ := Option.isSome_iff_exists.mp h.top
  obtain ⟨r, hr⟩ := State.topJava?_eq_some.mp hg0
  have hr' : (({ U with heap := s₂.heap, slotsUsed := s₂.slotsUsed } : State).setVm s₂.vm).frames = .java g₀ :: r := hr
  rcases hq' with ⟨hqc, L, hfe, hL⟩ | ⟨q, rfl, E, ce, L, hx, hce, hcv, hcl, hW₂, hsm, hL⟩
  · obtain ⟨⟨v, rfl⟩, hW₂, e2, q2, q3, q4, q5, q6⟩ := id hfe
    have e3 : s₂ = ({ (U.calling g mk a).setFrames s₂.frames with heap := s₂.heap, slotsUsed := s₂.slotsUsed } : State).setVm s₂.vm := by
      have : s₂ = ({ s₂ with vm := (U.calling g mk a).vm } : State).setVm s₂.vm := rfl
      rw [e2] at this
      exact this
    obtain ⟨c₂, i₂, len₂, hc₂, hd₂, hf₂⟩ := hend
    have hW' : U.WarmedH s₂.vm := hW₂
    have hcc : c₂ = c := by
      have h1 : s₂.code? g.method = U.code? g.method := by
        rw [State.code?_eq, State.code?_eq, hW'.alike.method?]
      exact Option.some.inj (hc₂.symm.trans (h1.trans h.code))
    subst hcc
    have hlen : len₂ = len := by rw [hdg] at hd₂; cases hd₂; rfl
    subst hlen
    have hs₂ : s₂ = (({ U with heap := s₂.heap, slotsUsed := s₂.slotsUsed } : State).setVm s₂.vm).setTop { g with pc := g.pc + len₂, stack := v.toList ++ g.stack } := by
      refine e3.trans ?_
      rw [hf₂, State.calling_eq h.top, State.setFrames_setFrames, State.setTop_of_frames _ hr', hr]
      rfl
    have hsame : U.sameButNew ({ U with heap := s₂.heap, slotsUsed := s₂.slotsUsed } : State) L mc ms := by
      refine ⟨?_, q2, q3, q4, q5, q6⟩
      obtain ⟨t, ht, -⟩ := State.frames_cons hr
      show ({ U with heap := s₂.heap, slotsUsed := s₂.slotsUsed } : State) = { U.setFrames U.frames with heap := s₂.heap, slotsUsed := s₂.slotsUsed }
      rw [State.setFrames_self ht]
    subst hg
    refine Or.inl ⟨v, ⟨(({ U with heap := s₂.heap, slotsUsed := s₂.slotsUsed } : State).setVm s₂.vm), Ls ++ L, c0 + mc, s0 + ms⟩,
      ⟨X.admits, X.cas, X.clock, X.frames, X.room, X.hears, X.method, X.code, (X.here.setHeapUsed s₂.heap s₂.slotsUsed).setVm hW'.alike, X.tail, State.WarmedH.trans X.warmed hW', X.limits, X.bytes, X.same.trans (hsame.setVm s.vm)⟩,
      ⟨g, mk, s₂, L, rfl, rfl, hqc, rfl, hL, rfl, rfl⟩, ?_⟩
    show Steps p.tables e below _ ((({ U with heap := s₂.heap, slotsUsed := s₂.slotsUsed } : State).setVm s₂.vm).setTop { g with pc := g.pc + len₂, stack := v.toList ++ g.stack })
    rw [← hs₂]
    exact hsteps
  · obtain ⟨e2, q2, q3, q4, q5, q6⟩ := id hsm
    have e3 : s₂ = ({ (U.calling g mk a).setFrames s₂.frames with heap := s₂.heap, slotsUsed := s₂.slotsUsed } : State).setVm s₂.vm := by
      have : s₂ = ({ s₂ with vm := (U.calling g mk a).vm } : State).setVm s₂.vm := rfl
      rw [e2] at this
      exact this
    have hf₂ : s₂.frames = .throwing q :: .java g :: U.frames.tail := hend
    have hW' : U.WarmedH s₂.vm := hW₂
    have hs₂ : s₂ = ((({ U with heap := s₂.heap, slotsUsed := s₂.slotsUsed } : State).setVm s₂.vm).setTop g).pushFrame (.throwing q) := by
      refine e3.trans ?_
      rw [hf₂, State.calling_eq h.top, State.setFrames_setFrames, State.pushFrame, State.frames_setTop _ hr', State.setTop_of_frames _ hr', State.setFrames_setFrames, hr]
      rfl
    have hsame : U.sameButNew ({ U with heap := s₂.heap, slotsUsed := s₂.slotsUsed } : State) L mc ms := by
      refine ⟨?_, q2, q3, q4, q5, q6⟩
      obtain ⟨t, ht, -⟩ := State.frames_cons hr
      show ({ U with heap := s₂.heap, slotsUsed := s₂.slotsUsed } : State) = { U.setFrames U.frames with heap := s₂.heap, slotsUsed := s₂.slotsUsed }
      rw [State.setFrames_self ht]
    subst hg
    refine Or.inr ⟨q, ⟨(({ U with heap := s₂.heap, slotsUsed := s₂.slotsUsed } : State).setVm s₂.vm), Ls ++ L, c0 + mc, s0 + ms⟩,
      ⟨X.admits, X.cas, X.clock, X.frames, X.room, X.hears, X.method, X.code, (X.here.setHeapUsed s₂.heap s₂.slotsUsed).setVm hW'.alike, X.tail, State.WarmedH.trans X.warmed hW', X.limits, X.bytes, X.same.trans (hsame.setVm s.vm)⟩,
      ⟨g, mk, s₂, L, E, ce, rfl, rfl, hx, hce, hcv, hcl, rfl, hL, rfl, rfl⟩, ?_⟩
    show Steps p.tables e below _ (((({ U with heap := s₂.heap, slotsUsed := s₂.slotsUsed } : State).setVm s₂.vm).setTop g).pushFrame (.throwing q))
    rw [← hs₂]
    exact hsteps
end Payer
section Calls
variable {p : Program} {l : Launch} {e : Env} {R : Room} {s : State} {m : MethodId} {args : Array Value} {below : List Frame} {meth : Method} {c : Code} {T : State} {locs : List Loc} {cells slots : Nat}
theorem vx_callV (X : Stand p l e R s m args below meth c T locs cells slots) (hexec : p.tables.exec = Jvm.exec) {own C : String} {index : Nat} {y : MethodName} {bytes : ByteArray} {maxL : Nat} {ret : Option FieldType}
    (hown : s.vm.findClass own = some m.cls) (hlink : (Cond.methodLink own index y).before args s = true) (hinst : (Cond.instanceMethod y).before args s = true) (hsel : (Cond.selects C y y).before args s = true)
    (hcode : (Cond.code y bytes maxL ret).before args s = true) (hy : y.cls ≠ "java/lang/invoke/MethodHandle" ∧ y.cls ≠ "java/lang/invoke/VarHandle")
    {W9 : Nat} {Pre : Pt → Array Value → Prop} {Post : Pt → Array Value → Option Value → Pt → Prop} {PostX : Pt → Array Value → Addr → Pt → Prop} (hK : vx_Back l R p e below s args y 3 W9 Pre Post PostX)
    {b : Addr} {cellB : Cell} (hcell : T.heap[b]? = some cellB) (hobj : cellB.vm.isStatics = false) (hcls : s.vm.findClass C = some cellB.cls)
    {g : JFrame} (hg : g.method = m) (hsize : g.locals.size = c.maxLocals) {argsL rest : List Value} (hlen : ∀ sig, parseMethodDescriptor y.desc = some sig → argsL.length = sig.parameters.length)
    (hstack : g.stack = argsL.reverse ++ .ref b :: rest) (hW : 2 * g.monitorRoom + (rest.map fun v => v.category).sum ≤ W9) (hdg : decode c.code g.pc = .ok (.invokevirtual index, 3))
    (hpre : ∀ vm₁, s.WarmedH vm₁ → Pre ⟨T.setVm vm₁, locs, cells, slots⟩ (Value.ref b :: argsL).toArray) :
    (∃ (v : Option Value) (vm₁ : Vm) (B : Pt), s.WarmedH vm₁ ∧ Stand p l e R s m args below meth c B.U B.locs B.cells B.slots ∧ Post ⟨T.setVm vm₁, locs, cells, slots⟩ (Value.ref b :: argsL).toArray v B ∧
      ∀ target, Steps p.tables e below (B.U.setTop { g with pc := g.pc + 3, stack := v.toList ++ rest }) target → Steps p.tables e below (T.setTop g) target) ∨
    (∃ (q : Addr) (vm₁ : Vm) (B : Pt), s.WarmedH vm₁ ∧ Stand p l e R s m args below meth c B.U B.locs B.cells B.slots ∧ PostX ⟨T.setVm vm₁, locs, cells, slots⟩ (Value.ref b :: argsL).toArray q B ∧
      Steps p.tables e below (T.setTop g) ((B.U.setTop { g with stack := rest }).pushFrame (.throwing q))) := by
  obtain ⟨mk, methM, hnamed, hmethM, hstM, habM⟩ := Cond.instanceMethod_spec hinst
  obtain ⟨methM', cM, hmethM', -, -, -, -, -, -, hsigM⟩ := Cond.code_spec hnamed hcode
  cases hmethM.symm.trans hmethM'
  obtain ⟨c2, r2, m2, q1, q2, q3, q4, kP, hkP, hkPi⟩ := Cond.selects_spec hsel
  cases hcls.symm.trans q1
  cases (State.methodFound?_of_named hnamed hy).symm.trans q2
  cases hnamed.symm.trans q3
  have hselP : selectMethod e.platform s.vm cellB.cls mk = .method mk := by rw [Launch.admits_selectMethod X.admits]; exact q4
  obtain ⟨vm₁, X₁, hstep₁⟩ := X.invokevirtual hexec hown hlink hnamed hmethM hstM hkP hkPi hy (a := b) (cell := cellB) hcell
    (fun z h => by rw [h] at hobj; cases hobj) hselP hmethM habM hkP hkPi (g := g) hg (argsL := argsL) (rest := rest) (hlen _ hsigM) hstack hdg
  rcases hK m meth c ⟨T.setVm vm₁, locs, cells, slots⟩ { g with stack := rest } (.invokevirtual index) mk (Value.ref b :: argsL).toArray X₁ hg hsize hdg hW (X₁.named hnamed) (hpre vm₁ X₁.warmed) with ⟨v, B, X', hpost, hsteps⟩ | ⟨q, B, X', hpost, hsteps⟩
  · exact Or.inl ⟨v, vm₁, B, X₁.warmed, X', hpost, fun target h => hstep₁ _ fun acts => by rw [doInvoke_state]; exact hsteps.trans h⟩
  · exact Or.inr ⟨q, vm₁, B, X₁.warmed, X', hpost, hstep₁ _ fun acts => by rw [doInvoke_state]; exact hsteps⟩
theorem vx_callS (X : Stand p l e R s m args below meth c T locs cells slots) (hexec : p.tables.exec = Jvm.exec) {own : String} {index : Nat} {y : MethodName} {bytes : ByteArray} {maxL : Nat} {ret : Option FieldType}
    (hown : s.vm.findClass own = some m.cls) (hlink : (Cond.methodLink own index y).before args s = true) (hstat : (Cond.static y).before args s = true) (hinit : (Cond.initialized y.cls).before args s = true)
    (hcode : (Cond.code y bytes maxL ret).before args s = true) (hy : y.cls ≠ "java/lang/invoke/MethodHandle" ∧ y.cls ≠ "java/lang/invoke/VarHandle")
    {W9 : Nat} {Pre : Pt → Array Value → Prop} {Post : Pt → Array Value → Option Value → Pt → Prop} {PostX : Pt → Array Value → Addr → Pt → Prop} (hK : vx_Back l R p e below s args y 3 W9 Pre Post PostX)
    {g : JFrame} (hg : g.method = m) (hsize : g.locals.size = c.maxLocals) {argsL rest : List Value} (hlen : ∀ sig, parseMethodDescriptor y.desc = some sig → argsL.length = sig.parameters.length)
    (hstack : g.stack = argsL.reverse ++ rest) (hW : 2 * g.monitorRoom + (rest.map fun v => v.category).sum ≤ W9) (hdg : decode c.code g.pc = .ok (.invokestatic index, 3))
    (hpre : ∀ vm₁, s.WarmedH vm₁ → Pre ⟨T.setVm vm₁, locs, cells, slots⟩ argsL.toArray) :
    (∃ (v : Option Value) (vm₁ : Vm) (B : Pt), s.WarmedH vm₁ ∧ Stand p l e R s m args below meth c B.U B.locs B.cells B.slots ∧ Post ⟨T.setVm vm₁, locs, cells, slots⟩ argsL.toArray v B ∧
      ∀ target, Steps p.tables e below (B.U.setTop { g with pc := g.pc + 3, stack := v.toList ++ rest }) target → Steps p.tables e below (T.setTop g) target) ∨
    (∃ (q : Addr) (vm₁ : Vm) (B : Pt), s.WarmedH vm₁ ∧ Stand p l e R s m args below meth c B.U B.locs B.cells B.slots ∧ PostX ⟨T.setVm vm₁, locs, cells, slots⟩ argsL.toArray q B ∧
      Steps p.tables e below (T.setTop g) ((B.U.setTop { g with stack := rest }).pushFrame (.throwing q))) := by
  obtain ⟨mk, hnamed⟩ := Cond.code_named hcode
  obtain ⟨methM, cM, hmethM, -, -, -, -, -, -, hsigM⟩ := Cond.code_spec hnamed hcode
  have hstatic : methM.isStatic = true := Cond.static_spec hnamed hmethM hstat
  obtain ⟨kP, hkP, -⟩ := className_of_methodNamed hnamed
  have hinitP : kP.init = .initialized := Cond.initialized_spec (findClass_of_methodNamed hnamed) hkP hinit
  obtain ⟨vm₁, X₁, hstep₁⟩ := X.invokestatic hexec hown hlink hnamed hmethM hstatic hkP hinitP hy (g := g) hg (argsL := argsL) (rest := rest) (hlen _ hsigM) hstack hdg
  rcases hK m meth c ⟨T.setVm vm₁, locs, cells, slots⟩ { g with stack := rest } (.invokestatic index) mk argsL.toArray X₁ hg hsize hdg hW (X₁.named hnamed) (hpre vm₁ X₁.warmed) with ⟨v, B, X', hpost, hsteps⟩ | ⟨q, B, X', hpost, hsteps⟩
  · exact Or.inl ⟨v, vm₁, B, X₁.warmed, X', hpost, fun target h => hstep₁ _ fun acts => by rw [doInvoke_state]; exact hsteps.trans h⟩
  · exact Or.inr ⟨q, vm₁, B, X₁.warmed, X', hpost, hstep₁ _ fun acts => by rw [doInvoke_state]; exact hsteps⟩
end Calls
theorem vx_cls {s : State} {T : State} {vm₁ : Vm} {E : String} {k : ClassId} (hW : s.WarmedH vm₁) (h : (T.setVm vm₁).vm.findClass E = some k) : s.vm.findClass E = some k := by
  have h1 : vm₁.findClass E = some k := h
  rw [hW.alike.findClass] at h1
  exact h1
/-- the method's frame g, with q thrown over it -/
def vx_W (p : Program) (l : Launch) (e : Env) (R : Room) (s : State) (m : MethodId) (args : Array Value) (below : List Frame) (meth : Method) (c : Code) (H : Heap) (locs : List Loc) (cells slots : Nat) (Q : State → Prop) (g : JFrame) (q : Addr) : Prop :=
  ∀ T : State, T.heap = H → Stand p l e R s m args below meth c T locs cells slots → ∃ t, Steps p.tables e below ((T.setTop g).pushFrame (.throwing q)) t ∧ Q t
def vx_Run (p : Program) (l : Launch) (e : Env) (R : Room) (s : State) (m : MethodId) (args : Array Value) (below : List Frame) (meth : Method) (c : Code) (H : Heap) (locs : List Loc) (cells slots mc ms : Nat) (g : JFrame) (rest : List Value) (Qa : State → Outcome → State → Prop) (XC : String → State → State → Prop) (free : Addr → Prop) : Prop :=
  ∀ T : State, T.heap = H → Stand p l e R s m args below meth c T locs cells slots →
    (∃ (v : Option Value) (st₀ t T' : State) (L : List Loc), st₀.heap = H ∧ Stand p l e R s m args below meth c T' (locs ++ L) (cells + mc) (slots + ms) ∧ (∀ q ∈ L, free q.base) ∧ T'.heap = t.heap ∧ T'.vm = t.vm ∧ Qa st₀ (.returned v) t ∧
      Goes p e below T g T' { g with pc := g.pc + 3, stack := v.toList ++ rest }) ∨
    (∃ (q : Addr) (st₀ t T' : State) (L : List Loc) (E : String) (ce : Cell), st₀.heap = H ∧ Stand p l e R s m args below meth c T' (locs ++ L) (cells + mc) (slots + ms) ∧ (∀ z ∈ L, free z.base) ∧ T'.heap = t.heap ∧ T'.vm = t.vm ∧ XC E st₀ t ∧ t.heap[q]? = some ce ∧ ce.vm = .none ∧ s.vm.findClass E = some ce.cls ∧
      Steps p.tables e below (T.setTop g) ((T'.setTop { g with stack := rest }).pushFrame (.throwing q)))
def vx_X {S : Type} (px : S → Prop) (B : String → S → State → Prop) (A : Nat → Prop) : String → State → State → Prop := fun E st t => ∃ u : S, px u ∧ B E u t ∧ va_F A st t
section Runs
variable {p : Program} {l : Launch} {e : Env} {R : Room} {s : State} {m : MethodId} {args : Array Value} {below : List Frame} {meth : Method} {c : Code} {H : Heap} {locs : List Loc} {cells slots : Nat}
variable {y : MethodName} {bytes cc : ByteArray} {maxL nL mc ms n index : Nat} {ret : Option FieldType} {ws : List Cond} {rm : Room} {Pc : Array Value → State → Prop} {Qc : Array Value → State → Outcome → State → Prop} {XC : String → State → State → Prop} {free : Addr → Prop} {Ts : List Cond} {own C : String} {b : Addr} {As rest : List Value} {g : JFrame}
theorem vx_callBack (cb : CallB R s args own index y bytes maxL ret ws rm mc ms n) (hM : vx_Met l y ws rm Pc Qc XC mc ms free) (hbl : FrameBlind Pc) : vx_Back l R p e below s args y 3 8 (PreOf R mc ms Pc) (PostOf Qc mc ms free) (vx_Post XC mc ms free) := by
  obtain ⟨hrc, hrs, hfr, hlo, hws, hcw, -, hini, -⟩ := cb
  exact vx_back (bytes := bytes) (maxL := maxL) (ret := ret) hM hbl hrc hrs hfr hlo hws hcw (fun a' U hW => word_at hW (Or.inl (by first | rfl | simp [Cond.onTables, Cond.keeps, Cond.steady])) hini)
theorem vx_runV (S : CallFix p m c cc nL s args Ts own) (hM : vx_Met l y ws rm Pc Qc XC mc ms free) (cw : CallW R s args own C index y bytes maxL ret ws rm mc ms n) (hp : PreV s H C b Pc As)
    (hg : g.method = m) (hn : As.length = n) (hsize : g.locals.size = nL) (hstack : g.stack = As.reverse ++ .ref b :: rest) (hW : 2 * g.monitorRoom + (rest.map fun v => v.category).sum ≤ 8) (hdg : decode cc g.pc = .ok (.invokevirtual index, 3)) (hf : cells + mc ≤ R.cells ∧ slots + ms ≤ R.slots) :
    vx_Run p l e R s m args below meth c H locs cells slots mc ms g rest (Qc (Value.ref b :: As).toArray) XC free := by
  have hK : vx_Back l R p e below s args y 3 8 (PreOf R mc ms Pc) (PostOf Qc mc ms free) (vx_Post XC mc ms free) := vx_callBack cw.1 hM hp.1
  obtain ⟨⟨-, -, -, -, -, -, hcode, -, hy, hlen, hl⟩, hin, hse⟩ := cw
  obtain ⟨hx, hb, hml, ho, -⟩ := S
  obtain ⟨-, ⟨cellB, hcB, hoB, hclB⟩, hPc⟩ := hp
  intro T hT X
  rcases vx_callV X hx (C := C) (bytes := bytes) (maxL := maxL) (ret := ret) ho hl hin hse hcode hy hK (by rw [hT]; exact hcB) hoB hclB hg (hsize.trans hml.symm) (argsL := As) (rest := rest) (fun sig h => hn.trans (hlen sig h)) hstack hW (by rw [hb]; exact hdg)
    (fun vm₁ hW₁ => ⟨hf.1, hf.2, hPc (T.setVm vm₁) hT hW₁⟩) with ⟨v, vm₁, ⟨U', l2, c2, s2⟩, hW₁, X', ⟨g', mk, t, L, e1, e2, hq, h1, hL, h2, h3⟩, st⟩ | ⟨q, vm₁, ⟨U', l2, c2, s2⟩, hW₁, X', ⟨g', mk, t, L, E, ce, e1, e2, hq, hce, hcv, hcl, h1, hL, h2, h3⟩, st⟩
  · dsimp only [Pt.U, Pt.locs, Pt.cells, Pt.slots] at X' e1 e2 h1 h2 h3 st
    subst h1; subst h2; subst h3
    exact Or.inl ⟨v, (T.setVm vm₁).calling g' mk (Value.ref b :: As).toArray, t, U', L, hT, X', hL, e1, e2, hq, st⟩
  · dsimp only [Pt.U, Pt.locs, Pt.cells, Pt.slots] at X' e1 e2 h1 h2 h3 st hcl
    subst h1; subst h2; subst h3
    exact Or.inr ⟨q, (T.setVm vm₁).calling g' mk (Value.ref b :: As).toArray, t, U', L, E, ce, hT, X', hL, e1, e2, hq, hce, hcv, vx_cls hW₁ hcl, st⟩
theorem vx_runS (S : CallFix p m c cc nL s args Ts own) (hM : vx_Met l y ws rm Pc Qc XC mc ms free) (cw : CallB R s args own index y bytes maxL ret ws rm mc ms n ∧ (Cond.static y).before args s = true) (hp : PreS s H Pc As)
    (hg : g.method = m) (hn : As.length = n) (hsize : g.locals.size = nL) (hstack : g.stack = As.reverse ++ rest) (hW : 2 * g.monitorRoom + (rest.map fun v => v.category).sum ≤ 8) (hdg : decode cc g.pc = .ok (.invokestatic index, 3)) (hf : cells + mc ≤ R.cells ∧ slots + ms ≤ R.slots) :
    vx_Run p l e R s m args below meth c H locs cells slots mc ms g rest (Qc As.toArray) XC free := by
  have hK : vx_Back l R p e below s args y 3 8 (PreOf R mc ms Pc) (PostOf Qc mc ms free) (vx_Post XC mc ms free) := vx_callBack cw.1 hM hp.1
  obtain ⟨⟨-, -, -, -, -, -, hcode, hini, hy, hlen, hl⟩, hstt⟩ := cw
  obtain ⟨hx, hb, hml, ho, -⟩ := S
  intro T hT X
  rcases vx_callS X hx (bytes := bytes) (maxL := maxL) (ret := ret) ho hl hstt hini hcode hy hK hg (hsize.trans hml.symm) (argsL := As) (rest := rest) (fun sig h => hn.trans (hlen sig h)) hstack hW (by rw [hb]; exact hdg)
    (fun vm₁ hW₁ => ⟨hf.1, hf.2, hp.2 (T.setVm vm₁) hT hW₁⟩) with ⟨v, vm₁, ⟨U', l2, c2, s2⟩, hW₁, X', ⟨g', mk, t, L, e1, e2, hq, h1, hL, h2, h3⟩, st⟩ | ⟨q, vm₁, ⟨U', l2, c2, s2⟩, hW₁, X', ⟨g', mk, t, L, E, ce, e1, e2, hq, hce, hcv, hcl, h1, hL, h2, h3⟩, st⟩
  · dsimp only [Pt.U, Pt.locs, Pt.cells, Pt.slots] at X' e1 e2 h1 h2 h3 st
    subst h1; subst h2; subst h3
    exact Or.inl ⟨v, (T.setVm vm₁).calling g' mk As.toArray, t, U', L, hT, X', hL, e1, e2, hq, st⟩
  · dsimp only [Pt.U, Pt.locs, Pt.cells, Pt.slots] at X' e1 e2 h1 h2 h3 st hcl
    subst h1; subst h2; subst h3
    exact Or.inr ⟨q, (T.setVm vm₁).calling g' mk As.toArray, t, U', L, E, ce, hT, X', hL, e1, e2, hq, hce, hcv, vx_cls hW₁ hcl, st⟩
end Runs
section Rows
variable {p : Program} {l : Launch} {e : Env} {R : Room} {s : State} {m : MethodId} {args : Array Value} {below : List Frame} {meth : Method} {c : Code} {H : Heap} {locs : List Loc} {cells slots : Nat} {Q : State → Prop}
variable {mc ms : Nat} {free : Addr → Prop} {A0 A1 : Nat → Prop} {H0 : Heap} {a : Array Value} {pc : Nat} {ls : Array Slot} {st0 rest : List Value}
theorem vx_keep {st₀ t T' : State} {L : List Loc} (h0 : st₀.heap = H) (e1 : T'.heap = t.heap) (hS : va_S A0 H0 H locs) (hA : ∀ q, q < H.size → A1 q → A0 q) (hf : ∀ q, free q → A0 q) (hL : ∀ q ∈ L, free q.base) (hF : va_F A1 st₀ t) :
    H.size ≤ T'.heap.size ∧ (∀ q : Nat, q < H.size → ¬ A1 q → T'.heap[q]? = H[q]?) ∧ va_S A0 H0 T'.heap (locs ++ L) := by
  obtain ⟨hz, hk⟩ := hF
  rw [h0] at hz hk
  exact ⟨by rw [e1]; exact hz, fun q h1 h2 => by rw [e1]; exact hk q h1 h2,
    ⟨Nat.le_trans hS.1 (by rw [e1]; exact hz), fun q h1 h2 => by rw [e1, hk q (Nat.lt_of_lt_of_le h1 hS.1) (fun z => h2 (hA q (Nat.lt_of_lt_of_le h1 hS.1) z))]; exact hS.2.1 q h1 h2, fun q hq => by
      rcases List.mem_append.mp hq with h | h
      · exact hS.2.2 q h
      · exact hf _ (hL q h)⟩⟩
theorem vx_calli {S SX : Type} {post : Int32 → S → Prop} {px : SX → Prop} {B : S → State → Prop} {BX : String → SX → State → Prop} {AX : Nat → Prop} (hr : vx_Run p l e R s m args below meth c H locs cells slots mc ms (F0 m pc ls st0) rest (va_Qi post B A1 a) (vx_X px BX AX) free) (hS : va_S A0 H0 H locs) (hA : ∀ q, q < H.size → A1 q → A0 q) (hf : ∀ q, free q → A0 q) (hAX : ∀ q, q < H.size → AX q → A0 q)
    (kx : ∀ (E : String) (ce : Cell) (q9 : Addr) (u : SX) (t : State) (H1 : Heap) (locs1 : List Loc), t.heap = H1 → s.vm.Alike t.vm → px u → BX E u t → H.size ≤ H1.size → (∀ q : Nat, q < H.size → ¬ AX q → H1[q]? = H[q]?) → va_S A0 H0 H1 locs1 → H1[q9]? = some ce → ce.vm = .none → s.vm.findClass E = some ce.cls → vx_W p l e R s m args below meth c H1 locs1 (cells + mc) (slots + ms) Q (F0 m pc ls rest) q9)
    (kk : ∀ (r : Int32) (u : S) (t : State) (H1 : Heap) (locs1 : List Loc), t.heap = H1 → s.vm.Alike t.vm → post r u → B u t → H.size ≤ H1.size → (∀ q : Nat, q < H.size → ¬ A1 q → H1[q]? = H[q]?) → va_S A0 H0 H1 locs1 → W p l e R s m args below meth c H1 locs1 (cells + mc) (slots + ms) Q (F0 m (pc + 3) ls (.int r :: rest))) : W p l e R s m args below meth c H locs cells slots Q (F0 m pc ls st0) := by
  intro T hT X
  rcases hr T hT X with ⟨v, st₀, t, T', L, h0, X', hL, e1, e2, ⟨⟨r, u, hv, hp, hb⟩, hF⟩, st⟩ | ⟨q, st₀, t, T', L, E, ce, h0, X', hL, e1, e2, ⟨u, hp, hb, hF⟩, hce, hcv, hcl, st⟩
  · cases hv
    obtain ⟨k1, k2, k3⟩ := vx_keep h0 e1 hS hA hf hL hF
    obtain ⟨t2, a1, b1⟩ := kk r u t T'.heap (locs ++ L) e1.symm (by rw [← e2]; exact X'.warmed.alike) hp hb k1 k2 k3 T' rfl X'
    exact ⟨t2, st t2 a1, b1⟩
  · obtain ⟨k1, k2, k3⟩ := vx_keep h0 e1 hS hAX hf hL hF
    obtain ⟨t2, a1, b1⟩ := kx E ce q u t T'.heap (locs ++ L) e1.symm (by rw [← e2]; exact X'.warmed.alike) hp hb k1 k2 k3 (by rw [e1]; exact hce) hcv hcl T' rfl X'
    exact ⟨t2, st.trans a1, b1⟩
theorem vx_calll {S SX : Type} {post : Int64 → S → Prop} {px : SX → Prop} {B : S → State → Prop} {BX : String → SX → State → Prop} {AX : Nat → Prop} (hr : vx_Run p l e R s m args below meth c H locs cells slots mc ms (F0 m pc ls st0) rest (va_Ql post B A1 a) (vx_X px BX AX) free) (hS : va_S A0 H0 H locs) (hA : ∀ q, q < H.size → A1 q → A0 q) (hf : ∀ q, free q → A0 q) (hAX : ∀ q, q < H.size → AX q → A0 q)
    (kx : ∀ (E : String) (ce : Cell) (q9 : Addr) (u : SX) (t : State) (H1 : Heap) (locs1 : List Loc), t.heap = H1 → s.vm.Alike t.vm → px u → BX E u t → H.size ≤ H1.size → (∀ q : Nat, q < H.size → ¬ AX q → H1[q]? = H[q]?) → va_S A0 H0 H1 locs1 → H1[q9]? = some ce → ce.vm = .none → s.vm.findClass E = some ce.cls → vx_W p l e R s m args below meth c H1 locs1 (cells + mc) (slots + ms) Q (F0 m pc ls rest) q9)
    (kk : ∀ (r : Int64) (u : S) (t : State) (H1 : Heap) (locs1 : List Loc), t.heap = H1 → s.vm.Alike t.vm → post r u → B u t → H.size ≤ H1.size → (∀ q : Nat, q < H.size → ¬ A1 q → H1[q]? = H[q]?) → va_S A0 H0 H1 locs1 → W p l e R s m args below meth c H1 locs1 (cells + mc) (slots + ms) Q (F0 m (pc + 3) ls (.long r :: rest))) : W p l e R s m args below meth c H locs cells slots Q (F0 m pc ls st0) := by
  intro T hT X
  rcases hr T hT X with ⟨v, st₀, t, T', L, h0, X', hL, e1, e2, ⟨⟨r, u, hv, hp, hb⟩, hF⟩, st⟩ | ⟨q, st₀, t, T', L, E, ce, h0, X', hL, e1, e2, ⟨u, hp, hb, hF⟩, hce, hcv, hcl, st⟩
  · cases hv
    obtain ⟨k1, k2, k3⟩ := vx_keep h0 e1 hS hA hf hL hF
    obtain ⟨t2, a1, b1⟩ := kk r u t T'.heap (locs ++ L) e1.symm (by rw [← e2]; exact X'.warmed.alike) hp hb k1 k2 k3 T' rfl X'
    exact ⟨t2, st t2 a1, b1⟩
  · obtain ⟨k1, k2, k3⟩ := vx_keep h0 e1 hS hAX hf hL hF
    obtain ⟨t2, a1, b1⟩ := kx E ce q u t T'.heap (locs ++ L) e1.symm (by rw [← e2]; exact X'.warmed.alike) hp hb k1 k2 k3 (by rw [e1]; exact hce) hcv hcl T' rfl X'
    exact ⟨t2, st.trans a1, b1⟩
theorem vx_callf {S SX : Type} {post : UInt32 → S → Prop} {px : SX → Prop} {B : S → State → Prop} {BX : String → SX → State → Prop} {AX : Nat → Prop} (hr : vx_Run p l e R s m args below meth c H locs cells slots mc ms (F0 m pc ls st0) rest (va_Qf post B A1 a) (vx_X px BX AX) free) (hS : va_S A0 H0 H locs) (hA : ∀ q, q < H.size → A1 q → A0 q) (hf : ∀ q, free q → A0 q) (hAX : ∀ q, q < H.size → AX q → A0 q)
    (kx : ∀ (E : String) (ce : Cell) (q9 : Addr) (u : SX) (t : State) (H1 : Heap) (locs1 : List Loc), t.heap = H1 → s.vm.Alike t.vm → px u → BX E u t → H.size ≤ H1.size → (∀ q : Nat, q < H.size → ¬ AX q → H1[q]? = H[q]?) → va_S A0 H0 H1 locs1 → H1[q9]? = some ce → ce.vm = .none → s.vm.findClass E = some ce.cls → vx_W p l e R s m args below meth c H1 locs1 (cells + mc) (slots + ms) Q (F0 m pc ls rest) q9)
    (kk : ∀ (r : UInt32) (u : S) (t : State) (H1 : Heap) (locs1 : List Loc), t.heap = H1 → s.vm.Alike t.vm → post r u → B u t → H.size ≤ H1.size → (∀ q : Nat, q < H.size → ¬ A1 q → H1[q]? = H[q]?) → va_S A0 H0 H1 locs1 → W p l e R s m args below meth c H1 locs1 (cells + mc) (slots + ms) Q (F0 m (pc + 3) ls (.float r :: rest))) : W p l e R s m args below meth c H locs cells slots Q (F0 m pc ls st0) := by
  intro T hT X
  rcases hr T hT X with ⟨v, st₀, t, T', L, h0, X', hL, e1, e2, ⟨⟨r, u, hv, hp, hb⟩, hF⟩, st⟩ | ⟨q, st₀, t, T', L, E, ce, h0, X', hL, e1, e2, ⟨u, hp, hb, hF⟩, hce, hcv, hcl, st⟩
  · cases hv
    obtain ⟨k1, k2, k3⟩ := vx_keep h0 e1 hS hA hf hL hF
    obtain ⟨t2, a1, b1⟩ := kk r u t T'.heap (locs ++ L) e1.symm (by rw [← e2]; exact X'.warmed.alike) hp hb k1 k2 k3 T' rfl X'
    exact ⟨t2, st t2 a1, b1⟩
  · obtain ⟨k1, k2, k3⟩ := vx_keep h0 e1 hS hAX hf hL hF
    obtain ⟨t2, a1, b1⟩ := kx E ce q u t T'.heap (locs ++ L) e1.symm (by rw [← e2]; exact X'.warmed.alike) hp hb k1 k2 k3 (by rw [e1]; exact hce) hcv hcl T' rfl X'
    exact ⟨t2, st.trans a1, b1⟩
theorem vx_calld {S SX : Type} {post : UInt64 → S → Prop} {px : SX → Prop} {B : S → State → Prop} {BX : String → SX → State → Prop} {AX : Nat → Prop} (hr : vx_Run p l e R s m args below meth c H locs cells slots mc ms (F0 m pc ls st0) rest (va_Qd post B A1 a) (vx_X px BX AX) free) (hS : va_S A0 H0 H locs) (hA : ∀ q, q < H.size → A1 q → A0 q) (hf : ∀ q, free q → A0 q) (hAX : ∀ q, q < H.size → AX q → A0 q)
    (kx : ∀ (E : String) (ce : Cell) (q9 : Addr) (u : SX) (t : State) (H1 : Heap) (locs1 : List Loc), t.heap = H1 → s.vm.Alike t.vm → px u → BX E u t → H.size ≤ H1.size → (∀ q : Nat, q < H.size → ¬ AX q → H1[q]? = H[q]?) → va_S A0 H0 H1 locs1 → H1[q9]? = some ce → ce.vm = .none → s.vm.findClass E = some ce.cls → vx_W p l e R s m args below meth c H1 locs1 (cells + mc) (slots + ms) Q (F0 m pc ls rest) q9)
    (kk : ∀ (r : UInt64) (u : S) (t : State) (H1 : Heap) (locs1 : List Loc), t.heap = H1 → s.vm.Alike t.vm → post r u → B u t → H.size ≤ H1.size → (∀ q : Nat, q < H.size → ¬ A1 q → H1[q]? = H[q]?) → va_S A0 H0 H1 locs1 → W p l e R s m args below meth c H1 locs1 (cells + mc) (slots + ms) Q (F0 m (pc + 3) ls (.double r :: rest))) : W p l e R s m args below meth c H locs cells slots Q (F0 m pc ls st0) := by
  intro T hT X
  rcases hr T hT X with ⟨v, st₀, t, T', L, h0, X', hL, e1, e2, ⟨⟨r, u, hv, hp, hb⟩, hF⟩, st⟩ | ⟨q, st₀, t, T', L, E, ce, h0, X', hL, e1, e2, ⟨u, hp, hb, hF⟩, hce, hcv, hcl, st⟩
  · cases hv
    obtain ⟨k1, k2, k3⟩ := vx_keep h0 e1 hS hA hf hL hF
    obtain ⟨t2, a1, b1⟩ := kk r u t T'.heap (locs ++ L) e1.symm (by rw [← e2]; exact X'.warmed.alike) hp hb k1 k2 k3 T' rfl X'
    exact ⟨t2, st t2 a1, b1⟩
  · obtain ⟨k1, k2, k3⟩ := vx_keep h0 e1 hS hAX hf hL hF
    obtain ⟨t2, a1, b1⟩ := kx E ce q u t T'.heap (locs ++ L) e1.symm (by rw [← e2]; exact X'.warmed.alike) hp hb k1 k2 k3 (by rw [e1]; exact hce) hcv hcl T' rfl X'
    exact ⟨t2, st.trans a1, b1⟩
theorem vx_callv {S SX : Type} {post : S → Prop} {px : SX → Prop} {B : S → State → Prop} {BX : String → SX → State → Prop} {AX : Nat → Prop} (hr : vx_Run p l e R s m args below meth c H locs cells slots mc ms (F0 m pc ls st0) rest (va_Qv post B A1 a) (vx_X px BX AX) free) (hS : va_S A0 H0 H locs) (hA : ∀ q, q < H.size → A1 q → A0 q) (hf : ∀ q, free q → A0 q) (hAX : ∀ q, q < H.size → AX q → A0 q)
    (kx : ∀ (E : String) (ce : Cell) (q9 : Addr) (u : SX) (t : State) (H1 : Heap) (locs1 : List Loc), t.heap = H1 → s.vm.Alike t.vm → px u → BX E u t → H.size ≤ H1.size → (∀ q : Nat, q < H.size → ¬ AX q → H1[q]? = H[q]?) → va_S A0 H0 H1 locs1 → H1[q9]? = some ce → ce.vm = .none → s.vm.findClass E = some ce.cls → vx_W p l e R s m args below meth c H1 locs1 (cells + mc) (slots + ms) Q (F0 m pc ls rest) q9)
    (kk : ∀ (u : S) (t : State) (H1 : Heap) (locs1 : List Loc), t.heap = H1 → s.vm.Alike t.vm → post u → B u t → H.size ≤ H1.size → (∀ q : Nat, q < H.size → ¬ A1 q → H1[q]? = H[q]?) → va_S A0 H0 H1 locs1 → W p l e R s m args below meth c H1 locs1 (cells + mc) (slots + ms) Q (F0 m (pc + 3) ls (rest))) : W p l e R s m args below meth c H locs cells slots Q (F0 m pc ls st0) := by
  intro T hT X
  rcases hr T hT X with ⟨v, st₀, t, T', L, h0, X', hL, e1, e2, ⟨⟨u, hv, hp, hb⟩, hF⟩, st⟩ | ⟨q, st₀, t, T', L, E, ce, h0, X', hL, e1, e2, ⟨u, hp, hb, hF⟩, hce, hcv, hcl, st⟩
  · cases hv
    obtain ⟨k1, k2, k3⟩ := vx_keep h0 e1 hS hA hf hL hF
    obtain ⟨t2, a1, b1⟩ := kk u t T'.heap (locs ++ L) e1.symm (by rw [← e2]; exact X'.warmed.alike) hp hb k1 k2 k3 T' rfl X'
    exact ⟨t2, st t2 a1, b1⟩
  · obtain ⟨k1, k2, k3⟩ := vx_keep h0 e1 hS hAX hf hL hF
    obtain ⟨t2, a1, b1⟩ := kx E ce q u t T'.heap (locs ++ L) e1.symm (by rw [← e2]; exact X'.warmed.alike) hp hb k1 k2 k3 (by rw [e1]; exact hce) hcv hcl T' rfl X'
    exact ⟨t2, st.trans a1, b1⟩
/-- caught by the row x of this method's table; the rows ahead don't take it -/
theorem vx_catch {own name : String} {E : String} {ce : Cell} {q : Addr} (hown : s.vm.findClass own = some m.cls) (pre : List ExceptionTableEntry) (x : ExceptionTableEntry) (suf : List ExceptionTableEntry) (hsplit : c.exceptionTable.toList = pre ++ x :: suf)
    (hpass : ∀ z ∈ pre, covers z pc = false ∨ (z.catchType ≠ 0 ∧ ∃ nm : String, (Cond.classLink own z.catchType nm).before args s = true ∧ va_Nc E nm s)) (hx : covers x pc = true) (h0 : x.catchType ≠ 0)
    (hlink : (Cond.classLink own x.catchType name).before args s = true) (hcast : (Cond.castable E name).before args s = true) (hcell : H[q]? = some ce) (hv : ce.vm = .none) (hcl : s.vm.findClass E = some ce.cls)
    (kk : W p l e R s m args below meth c H locs cells slots Q (F0 m x.handlerPc ls [.ref q])) : vx_W p l e R s m args below meth c H locs cells slots Q (F0 m pc ls rest) q := by
  intro T hT X
  have hpl : e.platform.magicAccessors = ({} : Platform).magicAccessors := by rw [X.admits.platform]
  obtain ⟨c3, c4, hc3, hc4, hasg⟩ := Cond.castable_spec hcast
  cases Option.some.inj (hc3.symm.trans hcl)
  obtain ⟨c5, hc5, hcl5⟩ := Cond.classLink_spec hown hlink e.platform hpl
  cases Option.some.inj (hc4.symm.trans hc5)
  obtain ⟨vm', X', st⟩ := X.thenCaughtThrough q (g := F0 m pc ls rest) rfl (Steps.refl _) (by rw [hT]; exact hcell) (by rw [hv]; rfl) (by obtain ⟨k9, h9, -⟩ := Vm.findClass_spec hcl; exact ⟨k9, h9⟩) pre x suf hsplit
    (fun z hz => by
      rcases hpass z hz with h | ⟨hz0, nm, hl1, hn1⟩
      · exact Or.inl h
      · obtain ⟨c6, hc6, hcl6⟩ := Cond.classLink_spec hown hl1 e.platform hpl
        obtain ⟨a8, b8, h1, h2, h3⟩ := hn1
        cases Option.some.inj (h1.symm.trans hcl)
        cases Option.some.inj (h2.symm.trans hc6)
        exact Or.inr ⟨hz0, _, hcl6, h3⟩) hx (Or.inr ⟨h0, c4, hcl5, hasg⟩)
  obtain ⟨t, a1, b1⟩ := kk (T.setVm vm') hT X'
  exact ⟨t, st.trans a1, b1⟩
end Rows
section Ends
variable {p : Program} {l : Launch} {e : Env} {R : Room} {s : State} {m : MethodId} {args : Array Value} {below : List Frame} {meth : Method} {c : Code} {H : Heap} {locs : List Loc} {cells slots : Nat} {Q : State → Prop}
variable {mc ms : Nat} {free : Addr → Prop} {A0 A1 : Nat → Prop} {H0 : Heap} {a : Array Value} {ls : Array Slot} {st0 rest : List Value}
variable {Qc : Array Value → State → Outcome → State → Prop} {XC : String → State → State → Prop}
/-- what a body that may throw owes at its end -/
def vx_MQ (below : List Frame) (Qc : Array Value → State → Outcome → State → Prop) (XC : String → State → State → Prop) (a : Array Value) (s : State) (mc ms : Nat) (free : Addr → Prop) : State → Prop := fun t =>
  ∃ o, t.status = .running ∧ Ended t below o ∧ vx_Q Qc XC mc ms free a s o t
theorem vx_ret {g : JFrame} {mc ms : Nat} (k : W p l e R s m args below meth c H locs cells slots (MQ below Qc args s mc ms free) g) : W p l e R s m args below meth c H locs cells slots (vx_MQ below Qc XC args s mc ms free) g := by
  intro T hT X
  obtain ⟨t, a1, o, b1, b2, b3, b4⟩ := k T hT X
  exact ⟨t, a1, o, b1, b2, Or.inl ⟨b3, b4⟩⟩
/-- not caught here: it goes on to the caller -/
theorem vx_widen {g : JFrame} {q : Addr} {k n : Nat} (h1 : cells ≤ k) (h2 : slots ≤ n) (kk : vx_W p l e R s m args below meth c H locs k n Q g q) : vx_W p l e R s m args below meth c H locs cells slots Q g q := fun T hT X => kk T hT (stand_widen X h1 h2)
theorem vx_out {pc : Nat} {E : String} {ce : Cell} {q : Addr} {mc ms : Nat} (hout : ∀ x ∈ c.exceptionTable.toList, covers x pc = false) (hlocks : meth.locks = false) (hcell : H[q]? = some ce) (hv : ce.vm = .none) (hcl : s.vm.findClass E = some ce.cls)
    (hx : ∀ t : State, t.heap = H → s.vm.Alike t.vm → XC E s t) (hf : ∀ z ∈ locs, free z.base) (hc : cells ≤ mc) (hs : slots ≤ ms) :
    vx_W p l e R s m args below meth c H locs cells slots (vx_MQ below Qc XC args s mc ms free) (F0 m pc ls rest) q := by
  intro T hT X
  obtain ⟨st1, hrun, hend, hW, hsm⟩ := X.leaveThrown q (g := F0 m pc ls rest) rfl rfl rfl hout hlocks
  have hcell9 : (T.setFrames (.throwing q :: below)).heap[q]? = some ce := by
    show T.heap[q]? = some ce
    rw [hT]; exact hcell
  exact ⟨_, st1, .threw q, hrun, hend, Or.inr ⟨q, rfl, E, ce, locs, hx _ hT hW.alike, hcell9, hv, hcl, hW, hsm.mono hc hs, hf⟩⟩
theorem vx_frame {U : State} {k n : Nat} (h : s.sameButNew ({ U with vm := s.vm } : State) locs k n) : s.heap.size ≤ U.heap.size ∧ ∀ q : Nat, q < s.heap.size → (∀ z ∈ locs, z.base ≠ q) → U.heap[q]? = s.heap[q]? := by
  obtain ⟨-, h2, -, -, -, h6⟩ := h
  refine ⟨h2, fun q hq hz => ?_⟩
  obtain ⟨c9, e1, e2, e3, e4⟩ := h6 q _ (Array.getElem?_eq_getElem hq)
  have hs : c9.slots = (s.heap[q]).slots := Array.ext_getElem? fun i => e4 i fun hm => hz _ hm rfl
  have h9 : c9 = s.heap[q] := by
    rw [hs] at e2
    exact e2
  have e5 : U.heap[q]? = some c9 := e1
  rw [e5, h9, Array.getElem?_eq_getElem hq]
/-- the words of a throw but the four that speak of the heap -/
def vx_no (w : Cond) : Bool := decide (w ≠ .isRef (.static Bundle.tN "UNASSIGNED_STACK" Bundle.steD)) && decide (w ≠ .isRef (.static Bundle.tN "SUPPRESSED_SENTINEL" Bundle.listD)) && decide (w ≠ .laysStatic Bundle.tN "UNASSIGNED_STACK" Bundle.steD) && decide (w ≠ .laysStatic Bundle.tN "SUPPRESSED_SENTINEL" Bundle.listD)
def vx_at0 (own : String) (ic : Nat) (X : String) (names : List String) : List Cond := (Bundle.ownAtoms0 own ic X names).filter vx_no
def vx_atS (own : String) (ic : Nat) (X : String) (names : List String) : List Cond := (Bundle.ownAtoms own ic X names).filter vx_no
/-- a word that the tables alone decide, or a good one -/
def vx_ot (w : Cond) : Bool := w.onTables || goodWord w
theorem vx_ot_at {args a' : Array Value} {s U : State} {w : Cond} (hW : s.WarmedH U.vm) (hvm : s.vm = U.vm) (hg : vx_ot w = true) (h : w.before args s = true) : w.before a' U = true := by
  simp only [vx_ot, Bool.or_eq_true] at hg
  rcases hg with hg | hg
  · exact va_tabs hg hvm h
  · exact word_at hW (good_of_word hg) h
/-- a list's words: the good ones out of the method's own list, the others by premises of their own -/
theorem vx_hat {args : Array Value} {s : State} {L B : List Cond} (h1 : ∀ w ∈ L.filter goodWord, w.before args s = true) (h2 : ∀ w ∈ L.filter (fun w => !goodWord w), w ∈ B) (h3 : ∀ w ∈ B, w.before args s = true) : ∀ w ∈ L, w.before args s = true := by
  intro w hw
  by_cases g : goodWord w = true
  · exact h1 w (List.mem_filter.mpr ⟨hw, g⟩)
  · refine h3 w (h2 w (List.mem_filter.mpr ⟨hw, ?_⟩))
    show (!goodWord w) = true
    cases hgw : goodWord w
    · rfl
    · exact absurd hgw g
theorem vx_c {args : Array Value} {s : State} {w : Cond} {B : List Cond} (h : w.before args s = true) (t : ∀ w ∈ B, w.before args s = true) : ∀ w' ∈ w :: B, w'.before args s = true := fun w' h' => (List.mem_cons.mp h').elim (fun e => by rw [e]; exact h) (t w')
theorem vx_n {args : Array Value} {s : State} : ∀ w ∈ ([] : List Cond), w.before args s = true := fun _ h => nomatch h
theorem vx_own {args : Array Value} {s : State} {L : List Cond} (h1 : ∀ w ∈ L.filter vx_no, w.before args s = true)
    (hU : (Cond.isRef (.static Bundle.tN "UNASSIGNED_STACK" Bundle.steD)).before args s = true) (hN : (Cond.isRef (.static Bundle.tN "SUPPRESSED_SENTINEL" Bundle.listD)).before args s = true)
    (lU : (Cond.laysStatic Bundle.tN "UNASSIGNED_STACK" Bundle.steD).before args s = true) (lN : (Cond.laysStatic Bundle.tN "SUPPRESSED_SENTINEL" Bundle.listD).before args s = true) : ∀ w ∈ L, w.before args s = true := by
  intro w hw
  by_cases e1 : w = .isRef (.static Bundle.tN "UNASSIGNED_STACK" Bundle.steD)
  · rw [e1]; exact hU
  · by_cases e2 : w = .isRef (.static Bundle.tN "SUPPRESSED_SENTINEL" Bundle.listD)
    · rw [e2]; exact hN
    · by_cases e3 : w = .laysStatic Bundle.tN "UNASSIGNED_STACK" Bundle.steD
      · rw [e3]; exact lU
      · by_cases e4 : w = .laysStatic Bundle.tN "SUPPRESSED_SENTINEL" Bundle.listD
        · rw [e4]; exact lN
        · exact h1 w (List.mem_filter.mpr ⟨hw, by unfold vx_no; rw [decide_eq_true e1, decide_eq_true e2, decide_eq_true e3, decide_eq_true e4]; rfl⟩)
/-- where a static field lies, its class's statics cell in H -/
def vx_L (C n d : String) (A : Nat → Prop) (U : State) (H : Heap) : Prop := ∃ (c : ClassId) (k : Class) (i : Nat) (f : Field) (a : Nat) (cell : Cell), U.vm.findClass C = some c ∧ U.fieldFound? C n d = some (c, k, i, f) ∧ f.isStatic = true ∧ k.statics = some a ∧ H[a]? = some cell ∧ cell.vm.isStatics = true ∧ cell.cls = c ∧ f.slot < cell.slots.size ∧ k.staticTypes[f.slot]? = some f.type ∧ ¬ A a
theorem vx_L.moved {C n d : String} {A : Nat → Prop} {u U : State} {H : Heap} (hvm : u.vm.Alike U.vm) (h : vx_L C n d A u H) : vx_L C n d A U H := by
  obtain ⟨c, k, i, f, a, cell, h1, h2, h3, h4, h5, h6, h7, h8, h9, h10⟩ := h
  obtain ⟨k', hi', he⟩ := State.fieldFound?_setVm hvm h2
  exact ⟨c, k', i, f, a, cell, by rw [hvm.findClass]; exact h1, hi', h3, by rw [he]; exact h4, h5, h6, h7, h8, by rw [he]; exact h9, h10⟩
theorem vx_L.kept {C n d : String} {A : Nat → Prop} {U : State} {H H1 : Heap} (h : vx_L C n d A U H) (hq : ∀ a : Nat, a < H.size → ¬ A a → H1[a]? = H[a]?) : vx_L C n d A U H1 := by
  obtain ⟨c, k, i, f, a, cell, h1, h2, h3, h4, h5, h6, h7, h8, h9, h10⟩ := h
  exact ⟨c, k, i, f, a, cell, h1, h2, h3, h4, by rw [hq a (Array.getElem?_eq_some_iff.mp h5).1 h10]; exact h5, h6, h7, h8, h9, h10⟩
theorem vx_L.narrow {C n d : String} {A B : Nat → Prop} {U : State} {H : Heap} (h : vx_L C n d A U H) (hAB : ∀ q, B q → A q) : vx_L C n d B U H := by
  obtain ⟨c, k, i, f, a, cell, h1, h2, h3, h4, h5, h6, h7, h8, h9, h10⟩ := h
  exact ⟨c, k, i, f, a, cell, h1, h2, h3, h4, h5, h6, h7, h8, h9, fun z => h10 (hAB _ z)⟩
theorem vx_L.word {C n d : String} {A : Nat → Prop} {s : State} {args : Array Value} (h : vx_L C n d A s s.heap) : (Cond.laysStatic C n d).before args s = true := by
  obtain ⟨c, k, i, f, a, cell, h1, h2, h3, h4, h5, h6, h7, h8, h9, -⟩ := h
  show (Cond.laysStatic C n d).holds args s none s [] = true
  exact Cond.laysStatic_of h1 h2 h3 h4 h5 h6 h7 h8 h9
/-- .. and what it holds: null or some reference -/
def vx_Zq (C n d : String) (A : Nat → Prop) (U : State) (H : Heap) : Prop := va_Zq C n d A U H ∧ vx_L C n d A U H
theorem vx_Zq.moved {C n d : String} {A : Nat → Prop} {u U : State} {H : Heap} (hvm : u.vm.Alike U.vm) (h : vx_Zq C n d A u H) : vx_Zq C n d A U H := ⟨va_Zq.moved hvm h.1, vx_L.moved hvm h.2⟩
theorem vx_Zq.kept {C n d : String} {A : Nat → Prop} {U : State} {H H1 : Heap} (h : vx_Zq C n d A U H) (hq : ∀ a : Nat, a < H.size → ¬ A a → H1[a]? = H[a]?) : vx_Zq C n d A U H1 := ⟨va_Zq.kept h.1 hq, vx_L.kept h.2 hq⟩
theorem vx_Zq.narrow {C n d : String} {A B : Nat → Prop} {U : State} {H : Heap} (h : vx_Zq C n d A U H) (hAB : ∀ q, B q → A q) : vx_Zq C n d B U H := ⟨va_Zq.narrow h.1 hAB, vx_L.narrow h.2 hAB⟩
theorem vx_Zqof {args : Array Value} {s : State} {C n d : String} {A : Nat → Prop} (hl : (Cond.laysStatic C n d).before args s = true) (hini : (Cond.initialized C).before args s = true) (h : (Cond.isRef (.static C n d)).before args s = true) (hA : ∀ a : Nat, a < s.heap.size → ¬ A a) : vx_Zq C n d A s s.heap := by
  refine ⟨va_Zqof hl hini h hA, ?_⟩
  obtain ⟨c, k, i, f, a, cell, h1, h2, h3, h4, h5, h6, h7, h8, h9⟩ := Cond.laysStatic_spec hl
  exact ⟨c, k, i, f, a, cell, h1, h2, h3, h4, h5, h6, h7, h8, h9, hA a (Array.getElem?_eq_some_iff.mp h5).1⟩
theorem vx_isRef {C n d : String} {v : Value} {A : Nat → Prop} {s : State} {args : Array Value} (h : va_Z C n d v A s s.heap) (hv : v.isRef = true) : (Cond.isRef (.static C n d)).before args s = true := by
  obtain ⟨cf, kf, fi, f, a, cell, h1, h2, h3, h4, h5, h6, h7, -⟩ := h
  have he : (Term.static C n d).eval args s none [] s = some v := by
    simp [Term.eval, State.fieldNamed?, h1, h2, h4, h5, h6, h7]
  simp only [Cond.before, Cond.holds, Cond.value, he]
  cases v <;> simp_all [Value.isRef]
theorem vx_isRefq {C n d : String} {A : Nat → Prop} {s : State} {args : Array Value} (h : va_Zq C n d A s s.heap) : (Cond.isRef (.static C n d)).before args s = true := by
  rcases h with h | ⟨t, h⟩
  · exact vx_isRef h rfl
  · exact vx_isRef h rfl
/-- the same frame, seen from here: as if the method were called anew in this heap -/
theorem vx_rebase {T : State} (X : Stand p l e R s m args below meth c T locs cells slots) {R' : Room} (hf : R'.frames ≤ R.frames) (hl : R'.locals ≤ R.locals) (hc : cells + R'.cells ≤ R.cells) (hs : slots + R'.slots ≤ R.slots) :
    Stand p l e R' ((T.setVm s.vm).setFrames (.invoking m args :: below)) m args below meth c T [] 0 0 := by
  have htop : (T.setVm s.vm).topJava?.isSome := X.here.top
  have hF : ((T.setVm s.vm).setFrames (.invoking m args :: below)).frames = .invoking m args :: below := State.frames_setFrames _ (State.cur_lt_of_top htop)
  obtain ⟨g₀, hg0⟩ := Option.isSome_iff_exists.mp htop
  obtain ⟨r, hr⟩ := State.topJava?_eq_some.mp hg0
  have hl9 : e.platform.stackLimits (T.setVm s.vm).me = e.platform.stackLimits s.me := X.limits
  have hb9 : (T.setVm s.vm).me.stackBytes = s.me.stackBytes := X.bytes
  refine ⟨X.admits, X.cas, X.clock, hF, ?_, X.hears, X.method, X.code, X.here, X.tail, X.warmed, ?_, ?_, ?_⟩
  · have h := X.room
    have hU : ((T.setVm s.vm).setFrames (.invoking m args :: below)).localsInUse = s.localsInUse := by
      rw [State.localsInUse_invoking hF (meth := meth) (c := c) X.method X.code, State.localsInUse_invoking X.frames X.method X.code]
    simp only [State.hasRoom, Bool.and_eq_true, decide_eq_true_eq] at h ⊢
    obtain ⟨⟨⟨⟨h1, h2, h3, h4, h5, h6⟩, h7⟩, h8⟩, h9⟩ := h
    rw [X.frames, List.length_cons] at h2 h3
    have q1 := X.heapSize
    have q2 := X.used
    simp only [hF, hU, List.length_cons, State.stackLimits_setFrames, State.stackBytes_setFrames, hl9, hb9]
    refine ⟨⟨⟨⟨by omega, by omega, by omega, by omega, by omega, h6⟩, ?_⟩, ?_⟩, X.book⟩
    · show T.heap.size + R'.cells ≤ e.platform.maxCells
      omega
    · show T.slotsUsed + R'.slots ≤ e.platform.maxSlots
      omega
  · rw [State.stackLimits_setFrames]; rfl
  · rw [State.stackBytes_setFrames]; rfl
  · refine ⟨?_, Nat.le_refl _, Nat.le_refl _, ?_, ?_, fun a c9 h9 => ⟨c9, h9, rfl, rfl, fun _ _ => rfl⟩⟩
    · obtain ⟨t, ht, -⟩ := State.frames_cons hr
      show T.setVm s.vm = { ((T.setVm s.vm).setFrames (.invoking m args :: below)).setFrames (T.setVm s.vm).frames with heap := T.heap, slotsUsed := T.slotsUsed }
      rw [State.setFrames_setFrames, State.setFrames_self ht]
      rfl
    · show T.slotsUsed = T.slotsUsed + ((T.heap.toList.drop T.heap.size).map (·.slots.size)).sum
      rw [List.drop_eq_nil_of_le (Nat.le_of_eq Array.length_toList)]
      rfl
    · show ((T.heap.toList.drop T.heap.size).map (·.slots.size)).sum ≤ 0
      rw [List.drop_eq_nil_of_le (Nat.le_of_eq Array.length_toList)]
      exact Nat.le_refl _
/-- 'throw new E()': new; dup; invokespecial; athrow -/
theorem vx_throw0 {cc : ByteArray} {pc : Nat} (hexec : p.tables.exec = Jvm.exec) (hb : c.code = cc) (hl : l.stackTraces = false) {own cls : String} {names : List String} {ik ic mc ms : Nat} {A : Nat → Prop}
    (hown : s.vm.findClass own = some m.cls) (hcls : Bundle.fit cls = true) (hnames : ∀ n ∈ names, Bundle.fit n = true)
    (hk : (Cond.classLink own ik cls).before args s = true) (hini : (Cond.initialized cls).before args s = true) (hat : ∀ w ∈ vx_at0 own ic cls names, w.before args s = true)
    (hgood : ∀ w ∈ Cond.classLink own ik cls :: Cond.initialized cls :: vx_at0 own ic cls names, vx_ot w = true)
    (hU : vx_Zq Bundle.tN "UNASSIGNED_STACK" Bundle.steD A s s.heap) (hN : vx_Zq Bundle.tN "SUPPRESSED_SENTINEL" Bundle.listD A s s.heap) (hS : va_S A s.heap H locs) (hsize : ls.size = c.maxLocals)
    (d0 : decode cc pc = .ok (.new ik, 3)) (d3 : decode cc (pc + 3) = .ok (.dup, 1)) (d4 : decode cc (pc + 4) = .ok (.invokespecial ic, 3)) (d7 : decode cc (pc + 7) = .ok (.athrow, 1))
    (hout : ∀ x ∈ c.exceptionTable.toList, covers x (pc + 7) = false)
    (hRframes : names.length + 3 < R.frames) (hRlocals : (rest.map fun v => v.category).sum + (13 * (names.length + 1) + 42) ≤ R.locals) (hRcells : cells + 1 ≤ R.cells) (hRslots : slots + 6 ≤ R.slots) (hlocks : meth.locks = false)
    (hx : ∀ t : State, s.vm.Alike t.vm → H.size ≤ t.heap.size → (∀ q : Nat, q < H.size → t.heap[q]? = H[q]?) → XC cls s t)
    (hf : ∀ z ∈ locs, free z.base) (hc : cells + 1 ≤ mc) (hs : slots + 6 ≤ ms) :
    W p l e R s m args below meth c H locs cells slots (vx_MQ below Qc XC args s mc ms free) (F0 m pc ls rest) := by
  intro T hT X
  have htr : e.platform.stackTraces = false := (show e.platform.stackTraces = l.stackTraces by rw [X.admits.platform]).trans hl
  have Y := vx_rebase X (R' := { frames := R.frames, locals := R.locals, cells := 1, slots := 6 }) (Nat.le_refl _) (Nat.le_refl _) hRcells hRslots
  obtain ⟨s', hA⟩ : ∃ z, z = (T.setVm s.vm).setFrames (.invoking m args :: below) := ⟨_, rfl⟩
  rw [← hA] at Y
  have hvm : s'.vm = s.vm := by rw [hA]; rfl
  have hhp : s'.heap = H := by rw [hA]; exact hT
  have hW0 : s.WarmedH s'.vm := by rw [hvm]; exact State.WarmedH.refl s
  have hat' : ∀ w ∈ vx_at0 own ic cls names, w.before args s' = true := fun w hw => vx_ot_at hW0 hvm.symm (hgood w (List.mem_cons_of_mem _ (List.mem_cons_of_mem _ hw))) (hat w hw)
  have hk' : (Cond.classLink own ik cls).before args s' = true := vx_ot_at hW0 hvm.symm (hgood _ List.mem_cons_self) hk
  have hini' : (Cond.initialized cls).before args s' = true := vx_ot_at hW0 hvm.symm (hgood _ (List.mem_cons_of_mem _ List.mem_cons_self)) hini
  have hU' : vx_Zq Bundle.tN "UNASSIGNED_STACK" Bundle.steD A s' s'.heap := by rw [hhp]; exact vx_Zq.moved hW0.alike (hU.kept hS.2.1)
  have hN' : vx_Zq Bundle.tN "SUPPRESSED_SENTINEL" Bundle.listD A s' s'.heap := by rw [hhp]; exact vx_Zq.moved hW0.alike (hN.kept hS.2.1)
  have h : ∀ w ∈ Bundle.ownAtoms0 own ic cls names, w.before args s' = true := vx_own hat' (vx_isRefq hU'.1) (vx_isRefq hN'.1) hU'.2.word hN'.2.word
  have hown' : s'.vm.findClass own = some m.cls := by rw [hvm]; exact hown
  have hins : (Cond.instantiable cls 6).before args s' = true := h _ (by simp [Bundle.ownAtoms0])
  obtain ⟨vm₁, cX, kX, hfX, hkX, -, -, X₁, st1⟩ := Y.newCold hexec (own := own) (C := cls) (index := ik) (n := 6) hown' hk' hins hini'
    (g := F0 m pc ls rest) rfl (by rw [hb]; exact d0) (Nat.le_refl _) (Nat.le_refl _)
  generalize hT1 : (T.setVm vm₁).pushCell { cls := cX, slots := kX.instanceTypes.map defaultValue, vm := .none } = T1 at X₁ st1
  have hcat : (Value.ref T.heap.size).category = 1 := rfl
  have hcellA : T1.heap[T.heap.size]? = some (freshCell cX kX) := by rw [← hT1]; exact State.heap_pushCell_size _ _
  have d3' : decode c.code (pc + 3) = .ok (.dup, 1) := by rw [hb]; exact d3
  obtain ⟨U, hsteps, hrun, hend, hW, hsame, ce, hce, hO⟩ := X₁.ctorThrow0 hexec htr (own := own) (cls := cls) (names := names) (ic := ic) hown' hcls hnames h (fun x hx => nomatch hx) hfX hkX hcellA (by rw [hhp, hT]; exact Nat.le_refl _)
    (g := { method := m, pc := pc + 4, locals := ls, stack := .ref T.heap.size :: .ref T.heap.size :: rest, locked := none }) rfl hsize rfl rfl (rest := rest) rfl
    (by rw [hb]; exact d4) (by rw [hb]; exact d7) hout hRframes (by simp only [List.map_cons, List.sum_cons, hcat]; omega) hlocks
  obtain ⟨f1, f2⟩ := vx_frame hsame
  rw [hhp] at f1 f2
  have hWs : s.WarmedH U.vm := State.WarmedH.trans hW0 hW
  have hcl : s.vm.findClass cls = some ce.cls := by
    have h9 := hO.cls
    rw [hvm] at h9
    exact h9
  have hall : s.sameButNew ({ U with vm := s.vm } : State) locs mc ms := by
    subst hA
    obtain ⟨e1, e2⟩ := hsame
    rw [State.setFrames_setFrames] at e1
    have h2 : (T.setVm s.vm).sameButNew ({ U with vm := s.vm } : State) [] (0 + 1) (0 + 6) := ⟨e1, e2⟩
    have h3 := X.same.trans h2
    rw [List.append_nil] at h3
    exact h3.mono hc hs
  refine ⟨U, ?_, .threw T.heap.size, hrun, hend, Or.inr ⟨T.heap.size, rfl, cls, ce, locs, hx U hWs.alike f1 (fun q hq => f2 q hq (fun z hz => nomatch hz)), hce, hO.vm, hcl, hWs, hall, hf⟩⟩
  refine st1 _ ?_
  show Steps p.tables e below (T1.setTop { method := m, pc := pc + 3, locals := ls, stack := .ref T.heap.size :: rest, locked := none }) _
  jvm_step X₁.here [X₁.here.top, hexec, d3', Value.category]
  exact hsteps
/-- 'throw new E("text")': new; dup; ldc; invokespecial; athrow -/
theorem vx_throwS {cc : ByteArray} {pc : Nat} (hexec : p.tables.exec = Jvm.exec) (hb : c.code = cc) (hl : l.stackTraces = false) {own cls text : String} {names : List String} {ik is ic mc ms sa : Nat} {A : Nat → Prop}
    (hown : s.vm.findClass own = some m.cls) (hcls : Bundle.fit cls = true) (hnames : ∀ n ∈ names, Bundle.fit n = true)
    (hk : (Cond.classLink own ik cls).before args s = true) (hini : (Cond.initialized cls).before args s = true) (hstr : vk_R own is text sa s) (hat : ∀ w ∈ vx_atS own ic cls names, w.before args s = true)
    (hgood : ∀ w ∈ Cond.classLink own ik cls :: Cond.initialized cls :: vx_atS own ic cls names, vx_ot w = true)
    (hU : vx_Zq Bundle.tN "UNASSIGNED_STACK" Bundle.steD A s s.heap) (hN : vx_Zq Bundle.tN "SUPPRESSED_SENTINEL" Bundle.listD A s s.heap) (hS : va_S A s.heap H locs) (hsize : ls.size = c.maxLocals)
    (d0 : decode cc pc = .ok (.new ik, 3)) (d3 : decode cc (pc + 3) = .ok (.dup, 1)) (d4 : decode cc (pc + 4) = .ok (.ldc is, 2)) (d6 : decode cc (pc + 6) = .ok (.invokespecial ic, 3)) (d9 : decode cc (pc + 9) = .ok (.athrow, 1))
    (hout : ∀ x ∈ c.exceptionTable.toList, covers x (pc + 9) = false)
    (hRframes : names.length + 3 < R.frames) (hRlocals : (rest.map fun v => v.category).sum + (13 * (names.length + 1) + 43) ≤ R.locals) (hRcells : cells + 1 ≤ R.cells) (hRslots : slots + 6 ≤ R.slots) (hlocks : meth.locks = false)
    (hx : ∀ t : State, s.vm.Alike t.vm → H.size ≤ t.heap.size → (∀ q : Nat, q < H.size → t.heap[q]? = H[q]?) → XC cls s t)
    (hf : ∀ z ∈ locs, free z.base) (hc : cells + 1 ≤ mc) (hs : slots + 6 ≤ ms) :
    W p l e R s m args below meth c H locs cells slots (vx_MQ below Qc XC args s mc ms free) (F0 m pc ls rest) := by
  intro T hT X
  have htr : e.platform.stackTraces = false := (show e.platform.stackTraces = l.stackTraces by rw [X.admits.platform]).trans hl
  have Y := vx_rebase X (R' := { frames := R.frames, locals := R.locals, cells := 1, slots := 6 }) (Nat.le_refl _) (Nat.le_refl _) hRcells hRslots
  obtain ⟨s', hA⟩ : ∃ z, z = (T.setVm s.vm).setFrames (.invoking m args :: below) := ⟨_, rfl⟩
  rw [← hA] at Y
  have hvm : s'.vm = s.vm := by rw [hA]; rfl
  have hhp : s'.heap = H := by rw [hA]; exact hT
  have hW0 : s.WarmedH s'.vm := by rw [hvm]; exact State.WarmedH.refl s
  have hat' : ∀ w ∈ vx_atS own ic cls names, w.before args s' = true := fun w hw => vx_ot_at hW0 hvm.symm (hgood w (List.mem_cons_of_mem _ (List.mem_cons_of_mem _ hw))) (hat w hw)
  have hk' : (Cond.classLink own ik cls).before args s' = true := vx_ot_at hW0 hvm.symm (hgood _ List.mem_cons_self) hk
  have hini' : (Cond.initialized cls).before args s' = true := vx_ot_at hW0 hvm.symm (hgood _ (List.mem_cons_of_mem _ List.mem_cons_self)) hini
  have hU' : vx_Zq Bundle.tN "UNASSIGNED_STACK" Bundle.steD A s' s'.heap := by rw [hhp]; exact vx_Zq.moved hW0.alike (hU.kept hS.2.1)
  have hN' : vx_Zq Bundle.tN "SUPPRESSED_SENTINEL" Bundle.listD A s' s'.heap := by rw [hhp]; exact vx_Zq.moved hW0.alike (hN.kept hS.2.1)
  have h : ∀ w ∈ Bundle.ownAtoms own ic cls names, w.before args s' = true := vx_own hat' (vx_isRefq hU'.1) (vx_isRefq hN'.1) hU'.2.word hN'.2.word
  have hown' : s'.vm.findClass own = some m.cls := by rw [hvm]; exact hown
  have hins : (Cond.instantiable cls 6).before args s' = true := h _ (by simp [Bundle.ownAtoms])
  obtain ⟨vm₁, cX, kX, hfX, hkX, -, -, X₁, st1⟩ := Y.newCold hexec (own := own) (C := cls) (index := ik) (n := 6) hown' hk' hins hini'
    (g := F0 m pc ls rest) rfl (by rw [hb]; exact d0) (Nat.le_refl _) (Nat.le_refl _)
  generalize hT1 : (T.setVm vm₁).pushCell { cls := cX, slots := kX.instanceTypes.map defaultValue, vm := .none } = T1 at X₁ st1
  have hcat : (Value.ref T.heap.size).category = 1 := rfl
  have hcellA : T1.heap[T.heap.size]? = some (freshCell cX kX) := by rw [← hT1]; exact State.heap_pushCell_size _ _
  have d3' : decode c.code (pc + 3) = .ok (.dup, 1) := by rw [hb]; exact d3
  have d4' : decode c.code (pc + 4) = .ok (.ldc is, 2) := by rw [hb]; exact d4
  have hstr' : vk_R own is text sa s' := vk_R.warm hW0 hstr
  obtain ⟨U, hsteps, hrun, hend, hW, hsame, ce, hce, hO⟩ := X₁.ctorThrowS hexec htr (own := own) (cls := cls) (names := names) (ic := ic) hown' hcls hnames h (fun x hx => nomatch hx) hfX hkX hcellA (by rw [hhp, hT]; exact Nat.le_refl _) (msg := .ref sa) rfl
    (g := { method := m, pc := pc + 6, locals := ls, stack := .ref sa :: .ref T.heap.size :: .ref T.heap.size :: rest, locked := none }) rfl hsize rfl rfl (rest := rest) rfl
    (by rw [hb]; exact d6) (by rw [hb]; exact d9) hout hRframes (by simp only [List.map_cons, List.sum_cons, hcat]; omega) hlocks
  obtain ⟨f1, f2⟩ := vx_frame hsame
  rw [hhp] at f1 f2
  have hWs : s.WarmedH U.vm := State.WarmedH.trans hW0 hW
  have hcl : s.vm.findClass cls = some ce.cls := by
    have h9 := hO.cls
    rw [hvm] at h9
    exact h9
  have hall : s.sameButNew ({ U with vm := s.vm } : State) locs mc ms := by
    subst hA
    obtain ⟨e1, e2⟩ := hsame
    rw [State.setFrames_setFrames] at e1
    have h2 : (T.setVm s.vm).sameButNew ({ U with vm := s.vm } : State) [] (0 + 1) (0 + 6) := ⟨e1, e2⟩
    have h3 := X.same.trans h2
    rw [List.append_nil] at h3
    exact h3.mono hc hs
  refine ⟨U, ?_, .threw T.heap.size, hrun, hend, Or.inr ⟨T.heap.size, rfl, cls, ce, locs, hx U hWs.alike f1 (fun q hq => f2 q hq (fun z hz => nomatch hz)), hce, hO.vm, hcl, hWs, hall, hf⟩⟩
  refine st1 _ ?_
  show Steps p.tables e below (T1.setTop { method := m, pc := pc + 3, locals := ls, stack := .ref T.heap.size :: rest, locked := none }) _
  jvm_step X₁.here [X₁.here.top, hexec, d3', Value.category]
  exact X₁.ldcString hexec (own := own) (text := text) (index := is) (a := sa) hown' hstr'.1 hstr'.2
    (g := { method := m, pc := pc + 4, locals := ls, stack := .ref T.heap.size :: .ref T.heap.size :: rest, locked := none }) rfl d4' _ hsteps
/-- 'throw new E("text")', the text by a wide index -/
theorem vx_throwSW {cc : ByteArray} {pc : Nat} (hexec : p.tables.exec = Jvm.exec) (hb : c.code = cc) (hl : l.stackTraces = false) {own cls text : String} {names : List String} {ik is ic mc ms sa : Nat} {A : Nat → Prop}
    (hown : s.vm.findClass own = some m.cls) (hcls : Bundle.fit cls = true) (hnames : ∀ n ∈ names, Bundle.fit n = true)
    (hk : (Cond.classLink own ik cls).before args s = true) (hini : (Cond.initialized cls).before args s = true) (hstr : vk_R own is text sa s) (hat : ∀ w ∈ vx_atS own ic cls names, w.before args s = true)
    (hgood : ∀ w ∈ Cond.classLink own ik cls :: Cond.initialized cls :: vx_atS own ic cls names, vx_ot w = true)
    (hU : vx_Zq Bundle.tN "UNASSIGNED_STACK" Bundle.steD A s s.heap) (hN : vx_Zq Bundle.tN "SUPPRESSED_SENTINEL" Bundle.listD A s s.heap) (hS : va_S A s.heap H locs) (hsize : ls.size = c.maxLocals)
    (d0 : decode cc pc = .ok (.new ik, 3)) (d3 : decode cc (pc + 3) = .ok (.dup, 1)) (d4 : decode cc (pc + 4) = .ok (.ldc_w is, 3)) (d7 : decode cc (pc + 7) = .ok (.invokespecial ic, 3)) (d10 : decode cc (pc + 10) = .ok (.athrow, 1))
    (hout : ∀ x ∈ c.exceptionTable.toList, covers x (pc + 10) = false)
    (hRframes : names.length + 3 < R.frames) (hRlocals : (rest.map fun v => v.category).sum + (13 * (names.length + 1) + 43) ≤ R.locals) (hRcells : cells + 1 ≤ R.cells) (hRslots : slots + 6 ≤ R.slots) (hlocks : meth.locks = false)
    (hx : ∀ t : State, s.vm.Alike t.vm → H.size ≤ t.heap.size → (∀ q : Nat, q < H.size → t.heap[q]? = H[q]?) → XC cls s t)
    (hf : ∀ z ∈ locs, free z.base) (hc : cells + 1 ≤ mc) (hs : slots + 6 ≤ ms) :
    W p l e R s m args below meth c H locs cells slots (vx_MQ below Qc XC args s mc ms free) (F0 m pc ls rest) := by
  intro T hT X
  have htr : e.platform.stackTraces = false := (show e.platform.stackTraces = l.stackTraces by rw [X.admits.platform]).trans hl
  have Y := vx_rebase X (R' := { frames := R.frames, locals := R.locals, cells := 1, slots := 6 }) (Nat.le_refl _) (Nat.le_refl _) hRcells hRslots
  obtain ⟨s', hA⟩ : ∃ z, z = (T.setVm s.vm).setFrames (.invoking m args :: below) := ⟨_, rfl⟩
  rw [← hA] at Y
  have hvm : s'.vm = s.vm := by rw [hA]; rfl
  have hhp : s'.heap = H := by rw [hA]; exact hT
  have hW0 : s.WarmedH s'.vm := by rw [hvm]; exact State.WarmedH.refl s
  have hat' : ∀ w ∈ vx_atS own ic cls names, w.before args s' = true := fun w hw => vx_ot_at hW0 hvm.symm (hgood w (List.mem_cons_of_mem _ (List.mem_cons_of_mem _ hw))) (hat w hw)
  have hk' : (Cond.classLink own ik cls).before args s' = true := vx_ot_at hW0 hvm.symm (hgood _ List.mem_cons_self) hk
  have hini' : (Cond.initialized cls).before args s' = true := vx_ot_at hW0 hvm.symm (hgood _ (List.mem_cons_of_mem _ List.mem_cons_self)) hini
  have hU' : vx_Zq Bundle.tN "UNASSIGNED_STACK" Bundle.steD A s' s'.heap := by rw [hhp]; exact vx_Zq.moved hW0.alike (hU.kept hS.2.1)
  have hN' : vx_Zq Bundle.tN "SUPPRESSED_SENTINEL" Bundle.listD A s' s'.heap := by rw [hhp]; exact vx_Zq.moved hW0.alike (hN.kept hS.2.1)
  have h : ∀ w ∈ Bundle.ownAtoms own ic cls names, w.before args s' = true := vx_own hat' (vx_isRefq hU'.1) (vx_isRefq hN'.1) hU'.2.word hN'.2.word
  have hown' : s'.vm.findClass own = some m.cls := by rw [hvm]; exact hown
  have hins : (Cond.instantiable cls 6).before args s' = true := h _ (by simp [Bundle.ownAtoms])
  obtain ⟨vm₁, cX, kX, hfX, hkX, -, -, X₁, st1⟩ := Y.newCold hexec (own := own) (C := cls) (index := ik) (n := 6) hown' hk' hins hini'
    (g := F0 m pc ls rest) rfl (by rw [hb]; exact d0) (Nat.le_refl _) (Nat.le_refl _)
  generalize hT1 : (T.setVm vm₁).pushCell { cls := cX, slots := kX.instanceTypes.map defaultValue, vm := .none } = T1 at X₁ st1
  have hcat : (Value.ref T.heap.size).category = 1 := rfl
  have hcellA : T1.heap[T.heap.size]? = some (freshCell cX kX) := by rw [← hT1]; exact State.heap_pushCell_size _ _
  have d3' : decode c.code (pc + 3) = .ok (.dup, 1) := by rw [hb]; exact d3
  have d4' : decode c.code (pc + 4) = .ok (.ldc_w is, 3) := by rw [hb]; exact d4
  have hstr' : vk_R own is text sa s' := vk_R.warm hW0 hstr
  obtain ⟨U, hsteps, hrun, hend, hW, hsame, ce, hce, hO⟩ := X₁.ctorThrowS hexec htr (own := own) (cls := cls) (names := names) (ic := ic) hown' hcls hnames h (fun x hx => nomatch hx) hfX hkX hcellA (by rw [hhp, hT]; exact Nat.le_refl _) (msg := .ref sa) rfl
    (g := { method := m, pc := pc + 7, locals := ls, stack := .ref sa :: .ref T.heap.size :: .ref T.heap.size :: rest, locked := none }) rfl hsize rfl rfl (rest := rest) rfl
    (by rw [hb]; exact d7) (by rw [hb]; exact d10) hout hRframes (by simp only [List.map_cons, List.sum_cons, hcat]; omega) hlocks
  obtain ⟨f1, f2⟩ := vx_frame hsame
  rw [hhp] at f1 f2
  have hWs : s.WarmedH U.vm := State.WarmedH.trans hW0 hW
  have hcl : s.vm.findClass cls = some ce.cls := by
    have h9 := hO.cls
    rw [hvm] at h9
    exact h9
  have hall : s.sameButNew ({ U with vm := s.vm } : State) locs mc ms := by
    subst hA
    obtain ⟨e1, e2⟩ := hsame
    rw [State.setFrames_setFrames] at e1
    have h2 : (T.setVm s.vm).sameButNew ({ U with vm := s.vm } : State) [] (0 + 1) (0 + 6) := ⟨e1, e2⟩
    have h3 := X.same.trans h2
    rw [List.append_nil] at h3
    exact h3.mono hc hs
  refine ⟨U, ?_, .threw T.heap.size, hrun, hend, Or.inr ⟨T.heap.size, rfl, cls, ce, locs, hx U hWs.alike f1 (fun q hq => f2 q hq (fun z hz => nomatch hz)), hce, hO.vm, hcl, hWs, hall, hf⟩⟩
  refine st1 _ ?_
  show Steps p.tables e below (T1.setTop { method := m, pc := pc + 3, locals := ls, stack := .ref T.heap.size :: rest, locked := none }) _
  jvm_step X₁.here [X₁.here.top, hexec, d3', Value.category]
  exact X₁.ldcStringW hexec (own := own) (text := text) (index := is) (a := sa) hown' hstr'.1 hstr'.2
    (g := { method := m, pc := pc + 4, locals := ls, stack := .ref T.heap.size :: .ref T.heap.size :: rest, locked := none }) rfl d4' _ hsteps
end Ends
section Bodies
variable {l : Launch}
theorem vx_ofW {y : MethodName} {ws ws' : List Cond} {rm : Room} {Pc : Array Value → State → Prop} {Qc : Array Value → State → Outcome → State → Prop} {XC : String → State → State → Prop} {mc ms : Nat} {free : Addr → Prop} {cc : ByteArray} {maxL : Nat} {ret : Option FieldType}
    (hy : plainName y.cls = true) (hw : ws = Cond.code y cc maxL ret :: ws')
    (body : ∀ p e s m args below meth c s₁, BodyLoose p l y (headSpec ws rm) cc maxL ret e s m args below meth c s₁ → c.maxLocals = maxL → (∀ x ∈ c.exceptionTable.toList, False) → Pc args s →
      W p l e (headSpec ws rm).room s m args below meth c s.heap [] 0 0 (vx_MQ below Qc XC args s mc ms free) (entryFrame m args maxL)) : vx_Met l y ws rm Pc Qc XC mc ms free := by
  refine MetFree.of_bodyS (code := cc) (maxLocals := maxL) (ret := ret) hy ?_ ?_
  · intro args s m h hn
    obtain ⟨meth, c, h1, h2, h3, h4, h5, h6, -, -⟩ := Cond.code_spec hn (atoms_spec (ws := ws) h _ (by rw [hw]; exact List.mem_cons_self))
    exact ⟨meth, c, h1, h2, h3, h4, h5, h6⟩
  · intro p e s m args below meth c s₁ B hml hP _
    have hh0 : s₁.heap = s.heap := by rw [B.state]; rfl
    have ht : ∀ x ∈ c.exceptionTable.toList, False := by
      obtain ⟨meth9, c9, h1, h2, -, -, -, -, h7, -⟩ := Cond.code_spec B.named (atoms_spec (ws := ws) B.pre _ (by rw [hw]; exact List.mem_cons_self))
      cases Option.some.inj (h1.symm.trans B.method)
      cases Option.some.inj (h2.symm.trans (Stand.of_body B).code)
      intro x hx
      rw [Array.isEmpty_iff.mp h7] at hx
      cases hx
    obtain ⟨t, a1, o, b1, b2, b3⟩ := body p e s m args below meth c s₁ B hml ht hP s₁ hh0 (Stand.of_body B)
    exact ⟨t, o, a1, b1, b2, b3⟩
/-- the table of a body with handlers -/
theorem vx_table {p : Program} {x y : MethodName} {S : Spec} {cc bytes : ByteArray} {maxL maxL' : Nat} {ret ret' : Option FieldType} {e : Env} {s s₁ : State} {m : MethodId} {args : Array Value} {below : List Frame} {meth : Method} {c : Code} {hh : List (Nat × Nat × Nat × Nat)}
    (B : BodyLoose p l y S cc maxL ret e s m args below meth c s₁) (h : (Cond.codeWith y bytes maxL' ret' hh).before args s = true) : c.exceptionTable.toList = tableOf hh := by
  obtain ⟨m9, meth9, c9, hn9, h1, h2, -, -, h6, -⟩ := Cond.codeWith_spec h
  cases Option.some.inj (hn9.symm.trans B.named)
  cases Option.some.inj (h1.symm.trans B.method)
  cases Option.some.inj (h2.symm.trans (Stand.of_body B).code)
  rw [← h6, table_eq]
end Bodies
end VXA
/-! ===== END ===== -/
/-! ===== BEGIN a static call of a method with an exception table ===== -/
section VXS
variable {p : Program} {l : Launch} {e : Env} {R : Room} {s : State} {m : MethodId} {args : Array Value} {below : List Frame} {meth : Method} {c : Code} {T : State} {H : Heap} {locs : List Loc} {cells slots : Nat}
abbrev vx_CSW (R : Room) (s : State) (args : Array Value) (own : String) (index : Nat) (y : MethodName) (bytes : ByteArray) (maxL : Nat) (ret : Option FieldType) (hh : List (Nat × Nat × Nat × Nat)) (ws : List Cond) (rm : Room) (mc ms n : Nat) : Prop :=
  (rm.cells = mc ∧ rm.slots = ms ∧ rm.frames + 1 ≤ R.frames ∧ 8 + (maxL + 11) + rm.locals ≤ R.locals ∧ (∀ w ∈ ws, ∀ (a' : Array Value) (U : State), s.WarmedH U.vm → w.before a' U = true) ∧ Cond.codeWith y bytes maxL ret hh ∈ ws) ∧
  (Cond.codeWith y bytes maxL ret hh).before args s = true ∧ (Cond.initialized y.cls).before args s = true ∧ (y.cls ≠ "java/lang/invoke/MethodHandle" ∧ y.cls ≠ "java/lang/invoke/VarHandle") ∧
  (∀ sig, parseMethodDescriptor y.desc = some sig → n = sig.parameters.length) ∧ (Cond.methodLink own index y).before args s = true ∧ (Cond.static y).before args s = true
theorem vx_cwSW {own : String} {index maxL mc ms : Nat} {y : MethodName} {bytes : ByteArray} {ret : Option FieldType} {hh : List (Nat × Nat × Nat × Nat)} {Ts ws ws' : List Cond} {rm : Room} (n : Nat) (ht : ∀ w ∈ Ts, w.before args s = true) (hT : GoodIn Ts (va_wsS own index y ws)) (hw : ws = Cond.codeWith y bytes maxL ret hh :: ws') (hrc : rm.cells = mc) (hrs : rm.slots = ms)
    (hd : y.cls ≠ "java/lang/invoke/MethodHandle" ∧ y.cls ≠ "java/lang/invoke/VarHandle" ∧ (parseMethodDescriptor y.desc).map (fun d => d.parameters.length) = some n) (hR : rm.frames + 1 ≤ R.frames ∧ 8 + (maxL + 11) + rm.locals ≤ R.locals) :
    vx_CSW R s args own index y bytes maxL ret hh ws rm mc ms n := by
  have ok : ∀ w ∈ va_wsS own index y ws, w.before args s = true := fun w h => ht w (hT w h).1
  have hG : GoodIn Ts ws := fun w h => hT w (by unfold va_wsS; exact List.mem_append_right _ h)
  have hc : Cond.codeWith y bytes maxL ret hh ∈ ws := by rw [hw]; exact List.mem_cons_self
  refine ⟨⟨hrc, hrs, hR.1, hR.2, pay_in ht hG, hc⟩, ht _ (hG _ hc).1, ok _ (by simp [va_wsS]), ⟨hd.1, hd.2.1⟩, fun sig h => ?_, ok _ (by simp [va_wsS]), ok _ (by simp [va_wsS])⟩
  have h2 := hd.2.2
  rw [h] at h2
  exact (Option.some.inj h2).symm
theorem vx_callSW (X : Stand p l e R s m args below meth c T locs cells slots) (hexec : p.tables.exec = Jvm.exec) {own : String} {index : Nat} {y : MethodName} {bytes : ByteArray} {maxL : Nat} {ret : Option FieldType} {hh : List (Nat × Nat × Nat × Nat)}
    (hown : s.vm.findClass own = some m.cls) (hlink : (Cond.methodLink own index y).before args s = true) (hstat : (Cond.static y).before args s = true) (hinit : (Cond.initialized y.cls).before args s = true)
    (hcode : (Cond.codeWith y bytes maxL ret hh).before args s = true) (hy : y.cls ≠ "java/lang/invoke/MethodHandle" ∧ y.cls ≠ "java/lang/invoke/VarHandle")
    {W9 : Nat} {Pre : Pt → Array Value → Prop} {Post : Pt → Array Value → Option Value → Pt → Prop} (hK : Back l R p e below s args y 3 W9 Pre Post)
    {g : JFrame} (hg : g.method = m) (hsize : g.locals.size = c.maxLocals) {argsL rest : List Value} (hlen : ∀ sig, parseMethodDescriptor y.desc = some sig → argsL.length = sig.parameters.length)
    (hstack : g.stack = argsL.reverse ++ rest) (hW : 2 * g.monitorRoom + (rest.map fun v => v.category).sum ≤ W9) (hdg : decode c.code g.pc = .ok (.invokestatic index, 3))
    (hpre : ∀ vm₁, s.WarmedH vm₁ → Pre ⟨T.setVm vm₁, locs, cells, slots⟩ argsL.toArray) :
    ∃ (v : Option Value) (vm₁ : Vm) (B : Pt), s.WarmedH vm₁ ∧ Stand p l e R s m args below meth c B.U B.locs B.cells B.slots ∧ Post ⟨T.setVm vm₁, locs, cells, slots⟩ argsL.toArray v B ∧
      ∀ target, Steps p.tables e below (B.U.setTop { g with pc := g.pc + 3, stack := v.toList ++ rest }) target → Steps p.tables e below (T.setTop g) target := by
  obtain ⟨mk, methM, cM, hnamed, hmethM, -, -, -, -, -, -, hsigM⟩ := Cond.codeWith_spec hcode
  have hstatic : methM.isStatic = true := Cond.static_spec hnamed hmethM hstat
  obtain ⟨kP, hkP, -⟩ := className_of_methodNamed hnamed
  have hinitP : kP.init = .initialized := Cond.initialized_spec (findClass_of_methodNamed hnamed) hkP hinit
  obtain ⟨vm₁, X₁, hstep₁⟩ := X.invokestatic hexec hown hlink hnamed hmethM hstatic hkP hinitP hy (g := g) hg (argsL := argsL) (rest := rest) (hlen _ hsigM) hstack hdg
  obtain ⟨v, B, X', hpost, hsteps⟩ := hK m meth c ⟨T.setVm vm₁, locs, cells, slots⟩ { g with stack := rest } (.invokestatic index) mk argsL.toArray X₁ hg hsize hdg hW (X₁.named hnamed) (hpre vm₁ X₁.warmed)
  exact ⟨v, vm₁, B, X₁.warmed, X', hpost, fun target h => hstep₁ _ fun acts => by rw [doInvoke_state]; exact hsteps.trans h⟩
theorem vx_runSW {y : MethodName} {bytes cc : ByteArray} {maxL nL mc ms n index : Nat} {ret : Option FieldType} {hh : List (Nat × Nat × Nat × Nat)} {ws : List Cond} {rm : Room} {Pc : Array Value → State → Prop} {Qc : Array Value → State → Outcome → State → Prop} {free : Addr → Prop} {Ts : List Cond} {own : String} {As rest : List Value} {g : JFrame}
    (S : CallFix p m c cc nL s args Ts own) (hM : Met l y ws rm Pc Qc mc ms free) (cw : vx_CSW R s args own index y bytes maxL ret hh ws rm mc ms n) (hp : PreS s H Pc As)
    (hg : g.method = m) (hn : As.length = n) (hsize : g.locals.size = nL) (hstack : g.stack = As.reverse ++ rest) (hW : 2 * g.monitorRoom + (rest.map fun v => v.category).sum ≤ 8) (hdg : decode cc g.pc = .ok (.invokestatic index, 3)) (hf : cells + mc ≤ R.cells ∧ slots + ms ≤ R.slots) :
    va_Run p l e R s m args below meth c H locs cells slots mc ms g rest (Qc As.toArray) (free) := by
  obtain ⟨⟨hrc, hrs, hfr, hlo, hws, hcw⟩, hcode, hini, hy, hlen, hl, hstt⟩ := cw
  have hK : Back l R p e below s args y 3 8 (PreOf R mc ms Pc) (PostOf Qc mc ms free) := va_backW (hh := hh) (bytes := bytes) (maxL := maxL) (ret := ret) hM hp.1 hrc hrs hfr hlo hws hcw (fun a' U hW => word_at hW (Or.inl (by first | rfl | simp [Cond.onTables, Cond.keeps, Cond.steady])) hini)
  obtain ⟨hx, hb, hml, ho, -⟩ := S
  intro T hT X
  obtain ⟨v, vm₁, ⟨U', l2, c2, s2⟩, hW₁, X', ⟨g', mk, t, L, e1, e2, hq, h1, hL, h2, h3⟩, st⟩ := vx_callSW X hx (hh := hh) (bytes := bytes) (maxL := maxL) (ret := ret) ho hl hstt hini hcode hy hK hg (hsize.trans hml.symm) (argsL := As) (rest := rest) (fun sig h => hn.trans (hlen sig h)) hstack hW (by rw [hb]; exact hdg)
    (fun vm₁ hW₁ => ⟨hf.1, hf.2, hp.2 (T.setVm vm₁) hT hW₁⟩)
  dsimp only [Pt.U, Pt.locs, Pt.cells, Pt.slots] at X' e1 e2 h1 h2 h3 st
  subst h1; subst h2; subst h3
  exact ⟨v, (T.setVm vm₁).calling g' mk As.toArray, t, U', L, hT, X', hL, e1, e2, hq, st⟩
/-- not caught here, past rows that name other classes: it goes on to the caller -/
theorem vx_outP {p : Program} {l : Launch} {e : Env} {R : Room} {s : State} {m : MethodId} {args : Array Value} {below : List Frame} {meth : Method} {c : Code} {H : Heap} {locs : List Loc} {cells slots : Nat} {free : Addr → Prop} {ls : Array Slot} {rest : List Value} {Qc : Array Value → State → Outcome → State → Prop} {XC : String → State → State → Prop}
    {pc : Nat} {own E : String} {ce : Cell} {q : Addr} {mc ms : Nat} (hown : s.vm.findClass own = some m.cls) (hlocks : meth.locks = false)
    (hpass : ∀ z ∈ c.exceptionTable.toList, covers z pc = false ∨ (z.catchType ≠ 0 ∧ ∃ nm : String, (Cond.classLink own z.catchType nm).before args s = true ∧ va_Nc E nm s)) (hcell : H[q]? = some ce) (hv : ce.vm = .none) (hcl : s.vm.findClass E = some ce.cls)
    (hx : ∀ t : State, t.heap = H → s.vm.Alike t.vm → XC E s t) (hf : ∀ z ∈ locs, free z.base) (hc : cells ≤ mc) (hs : slots ≤ ms) :
    vx_W p l e R s m args below meth c H locs cells slots (vx_MQ below Qc XC args s mc ms free) (F0 m pc ls rest) q := by
  intro T hT X
  have hpl : e.platform.magicAccessors = ({} : Platform).magicAccessors := by rw [X.admits.platform]
  obtain ⟨vm', hW', X', st⟩ := X.outThrough hlocks q (g := F0 m pc ls rest) rfl rfl rfl (cell := ce) (by rw [hT]; exact hcell) (by rw [hv]; rfl)
    (by obtain ⟨k9, h9, -⟩ := Vm.findClass_spec hcl; exact ⟨k9, h9⟩) (fun z hz => by
      rcases hpass z hz with h | ⟨hz0, nm, hl1, hn1⟩
      · exact Or.inl h
      · obtain ⟨c6, hc6, hcl6⟩ := Cond.classLink_spec hown hl1 e.platform hpl
        obtain ⟨a8, b8, h1, h2, h3⟩ := hn1
        cases Option.some.inj (h1.symm.trans hcl)
        cases Option.some.inj (h2.symm.trans hc6)
        exact Or.inr ⟨hz0, _, hcl6, h3⟩)
  obtain ⟨g₀, hfr⟩ := X'.frames_eq
  have hcell9 : ((T.setVm vm').setFrames (.throwing q :: below)).heap[q]? = some ce := by
    show T.heap[q]? = some ce
    rw [hT]; exact hcell
  have hend : Ended ((T.setVm vm').setFrames (.throwing q :: below)) below (.threw q) := State.frames_setFrames _ (State.cur_lt_of_frames hfr)
  refine ⟨(T.setVm vm').setFrames (.throwing q :: below), ?_, .threw q, X'.here.running, hend, Or.inr ⟨q, rfl, E, ce, locs, hx _ hT (X'.ends _).1.alike, hcell9, hv, hcl, (X'.ends _).1, (X'.ends _).2.mono hc hs, hf⟩⟩
  rw [X.pushThrowing_eq]
  exact st
/-- a thing of a world lies in the heap -/
theorem vx_lt {D : va_G} {cl : List vw_C} {ws : va_W} {H1 : Heap} (h : va_P D cl ws H1) {k : Nat} {q : Nat × va_E} (hk : ws[k]? = some q) : q.1 < H1.size := (h k q hk).lt
end VXS
/-! ===== END ===== -/
/-! ===== BEGIN methods with a table of their own: called by a name, returning or throwing ===== -/
section VXH
/-! vx_backW, vx_callVX, vx_callSX, vx_callVW, vx_runVW, vx_runVX, vx_runSX, vx_ofWH follow the same proofs as their sisters above (Free/Laws.lean, Shelf42/LK1.lean); vx_outP calls Shelf42/NT130.lean (outThrough). -/
section
variable {l : Launch} {R : Room} {p : Program} {e : Env} {below : List Frame} {s : State} {sargs : Array Value} {y : MethodName} {len W9 : Nat}
theorem vx_backW {ws : List Cond} {rm : Room} {Pc : Array Value → State → Prop} {Qc : Array Value → State → Outcome → State → Prop} {XC : String → State → State → Prop} {mc ms : Nat} {free : Addr → Prop} {bytes : ByteArray} {maxL : Nat} {ret : Option FieldType} {hh : List (Nat × Nat × Nat × Nat)}
    (hM : vx_Met l y ws rm Pc Qc XC mc ms free) (hblind : FrameBlind Pc) (hrc : rm.cells = mc) (hrs : rm.slots = ms)
    (hframes : rm.frames + 1 ≤ R.frames) (hlocals : W9 + (maxL + 11) + rm.locals ≤ R.locals)
    (hws : ∀ w ∈ ws, ∀ a' U, s.WarmedH U.vm → w.before a' U = true) (hcode : Cond.codeWith y bytes maxL ret hh ∈ ws) (hinit : ∀ a' U, s.WarmedH U.vm → (Cond.initialized y.cls).before a' U = true) :
    vx_Back l R p e below s sargs y len W9 (PreOf R mc ms Pc) (PostOf Qc mc ms free) (vx_Post XC mc ms free) := by
  intro m meth c A g ig mk a X hg hsize hdg hW hn hp
  have h1 : (headSpec ws rm).pre.before a A.U = true := atoms_intro fun w hw => hws w hw _ _ X.warmed
  have h2 : (Cond.codeWith y bytes maxL ret hh).before a A.U = true := hws _ hcode _ _ X.warmed
  have h3 : (Cond.initialized y.cls).before a A.U = true := hinit _ _ X.warmed
  have h4 : A.cells + (headSpec ws rm).room.cells ≤ R.cells := by rw [show (headSpec ws rm).room.cells = mc from hrc]; exact hp.1
  have h5 : A.slots + (headSpec ws rm).room.slots ≤ R.slots := by rw [show (headSpec ws rm).room.slots = ms from hrs]; exact hp.2.1
  have hPc : Pc a (A.U.calling g mk a) := hblind _ _ _ _ hp.2.2
  obtain ⟨U, Ls, c0, s0⟩ := A
  dsimp only [Pt.U, Pt.locs, Pt.cells, Pt.slots] at h1 h2 h3 h4 h5 X hn hPc ⊢
  obtain ⟨m9, methY, cY, hn9, hmY, hcY, -, hlY, -⟩ := Cond.codeWith_spec h2
  cases Option.some.inj (hn9.symm.trans hn)
  obtain ⟨kY, hkY, -⟩ := className_of_methodNamed hn
  have hinitY : kY.init = .initialized := Cond.initialized_spec (findClass_of_methodNamed hn) hkY h3
  have h : At U g.method c below := by rw [hg]; exact X.here
  have hlocals9 : W9 + (maxL + 11) + (headSpec ws rm).room.locals ≤ R.locals := hlocals
  have happ : (headSpec ws rm).appliesLoose y e.platform (U.calling g mk a) = true :=
    Spec.appliesLoose_calling (g := g) h hdg hn hkY hinitY
      (X.room_calling (g := g) (R' := (headSpec ws rm).room) hsize hmY hcY hframes (by rw [hlY]; omega) h4 h5) h1
  obtain ⟨mid, hmid⟩ := h.above
  have hfr : (U.setTop g).frames = (.java g :: mid) ++ below := by rw [State.frames_setTop' g h.top, hmid]; rfl
  obtain ⟨o, s₂, hsteps, -, hend, hq⟩ := Steps.callFree hM p X.admits X.cas X.clock (acts := []) hfr happ hPc trivial
  have hq' : vx_Q Qc XC mc ms free a (U.calling g mk a) o s₂ := hq
  rw [State.frames_setTop' g h.top] at hend
  obtain ⟨g₀, hg0⟩ := Option.isSome_iff_exists.mp h.top
  obtain ⟨r, hr⟩ := State.topJava?_eq_some.mp hg0
  have hr' : (({ U with heap := s₂.heap, slotsUsed := s₂.slotsUsed } : State).setVm s₂.vm).frames = .java g₀ :: r := hr
  rcases hq' with ⟨hqc, L, hfe, hL⟩ | ⟨q, rfl, E, ce, L, hx, hce, hcv, hcl, hW₂, hsm, hL⟩
  · obtain ⟨⟨v, rfl⟩, hW₂, e2, q2, q3, q4, q5, q6⟩ := id hfe
    have e3 : s₂ = ({ (U.calling g mk a).setFrames s₂.frames with heap := s₂.heap, slotsUsed := s₂.slotsUsed } : State).setVm s₂.vm := by
      have : s₂ = ({ s₂ with vm := (U.calling g mk a).vm } : State).setVm s₂.vm := rfl
      rw [e2] at this
      exact this
    obtain ⟨c₂, i₂, len₂, hc₂, hd₂, hf₂⟩ := hend
    have hW' : U.WarmedH s₂.vm := hW₂
    have hcc : c₂ = c := by
      have h1 : s₂.code? g.method = U.code? g.method := by
        rw [State.code?_eq, State.code?_eq, hW'.alike.method?]
      exact Option.some.inj (hc₂.symm.trans (h1.trans h.code))
    subst hcc
    have hlen : len₂ = len := by rw [hdg] at hd₂; cases hd₂; rfl
    subst hlen
    have hs₂ : s₂ = (({ U with heap := s₂.heap, slotsUsed := s₂.slotsUsed } : State).setVm s₂.vm).setTop { g with pc := g.pc + len₂, stack := v.toList ++ g.stack } := by
      refine e3.trans ?_
      rw [hf₂, State.calling_eq h.top, State.setFrames_setFrames, State.setTop_of_frames _ hr', hr]
      rfl
    have hsame : U.sameButNew ({ U with heap := s₂.heap, slotsUsed := s₂.slotsUsed } : State) L mc ms := by
      refine ⟨?_, q2, q3, q4, q5, q6⟩
      obtain ⟨t, ht, -⟩ := State.frames_cons hr
      show ({ U with heap := s₂.heap, slotsUsed := s₂.slotsUsed } : State) = { U.setFrames U.frames with heap := s₂.heap, slotsUsed := s₂.slotsUsed }
      rw [State.setFrames_self ht]
    subst hg
    refine Or.inl ⟨v, ⟨(({ U with heap := s₂.heap, slotsUsed := s₂.slotsUsed } : State).setVm s₂.vm), Ls ++ L, c0 + mc, s0 + ms⟩,
      ⟨X.admits, X.cas, X.clock, X.frames, X.room, X.hears, X.method, X.code, (X.here.setHeapUsed s₂.heap s₂.slotsUsed).setVm hW'.alike, X.tail, State.WarmedH.trans X.warmed hW', X.limits, X.bytes, X.same.trans (hsame.setVm s.vm)⟩,
      ⟨g, mk, s₂, L, rfl, rfl, hqc, rfl, hL, rfl, rfl⟩, ?_⟩
    show Steps p.tables e below _ ((({ U with heap := s₂.heap, slotsUsed := s₂.slotsUsed } : State).setVm s₂.vm).setTop { g with pc := g.pc + len₂, stack := v.toList ++ g.stack })
    rw [← hs₂]
    exact hsteps
  · obtain ⟨e2, q2, q3, q4, q5, q6⟩ := id hsm
    have e3 : s₂ = ({ (U.calling g mk a).setFrames s₂.frames with heap := s₂.heap, slotsUsed := s₂.slotsUsed } : State).setVm s₂.vm := by
      have : s₂ = ({ s₂ with vm := (U.calling g mk a).vm } : State).setVm s₂.vm := rfl
      rw [e2] at this
      exact this
    have hf₂ : s₂.frames = .throwing q :: .java g :: U.frames.tail := hend
    have hW' : U.WarmedH s₂.vm := hW₂
    have hs₂ : s₂ = ((({ U with heap := s₂.heap, slotsUsed := s₂.slotsUsed } : State).setVm s₂.vm).setTop g).pushFrame (.throwing q) := by
      refine e3.trans ?_
      rw [hf₂, State.calling_eq h.top, State.setFrames_setFrames, State.pushFrame, State.frames_setTop _ hr', State.setTop_of_frames _ hr', State.setFrames_setFrames, hr]
      rfl
    have hsame : U.sameButNew ({ U with heap := s₂.heap, slotsUsed := s₂.slotsUsed } : State) L mc ms := by
      refine ⟨?_, q2, q3, q4, q5, q6⟩
      obtain ⟨t, ht, -⟩ := State.frames_cons hr
      show ({ U with heap := s₂.heap, slotsUsed := s₂.slotsUsed } : State) = { U.setFrames U.frames with heap := s₂.heap, slotsUsed := s₂.slotsUsed }
      rw [State.setFrames_self ht]
    subst hg
    refine Or.inr ⟨q, ⟨(({ U with heap := s₂.heap, slotsUsed := s₂.slotsUsed } : State).setVm s₂.vm), Ls ++ L, c0 + mc, s0 + ms⟩,
      ⟨X.admits, X.cas, X.clock, X.frames, X.room, X.hears, X.method, X.code, (X.here.setHeapUsed s₂.heap s₂.slotsUsed).setVm hW'.alike, X.tail, State.WarmedH.trans X.warmed hW', X.limits, X.bytes, X.same.trans (hsame.setVm s.vm)⟩,
      ⟨g, mk, s₂, L, E, ce, rfl, rfl, hx, hce, hcv, hcl, rfl, hL, rfl, rfl⟩, ?_⟩
    show Steps p.tables e below _ (((({ U with heap := s₂.heap, slotsUsed := s₂.slotsUsed } : State).setVm s₂.vm).setTop g).pushFrame (.throwing q))
    rw [← hs₂]
    exact hsteps
end
variable {p : Program} {l : Launch} {e : Env} {R : Room} {s : State} {m : MethodId} {args : Array Value} {below : List Frame} {meth : Method} {c : Code} {T : State} {H : Heap} {locs : List Loc} {cells slots : Nat}
theorem vx_callVX (X : Stand p l e R s m args below meth c T locs cells slots) (hexec : p.tables.exec = Jvm.exec) {own C : String} {index : Nat} {y : MethodName} {bytes : ByteArray} {maxL : Nat} {ret : Option FieldType} {hh : List (Nat × Nat × Nat × Nat)}
    (hown : s.vm.findClass own = some m.cls) (hlink : (Cond.methodLink own index y).before args s = true) (hinst : (Cond.instanceMethod y).before args s = true) (hsel : (Cond.selects C y y).before args s = true)
    (hcode : (Cond.codeWith y bytes maxL ret hh).before args s = true) (hy : y.cls ≠ "java/lang/invoke/MethodHandle" ∧ y.cls ≠ "java/lang/invoke/VarHandle")
    {W9 : Nat} {Pre : Pt → Array Value → Prop} {Post : Pt → Array Value → Option Value → Pt → Prop} {PostX : Pt → Array Value → Addr → Pt → Prop} (hK : vx_Back l R p e below s args y 3 W9 Pre Post PostX)
    {b : Addr} {cellB : Cell} (hcell : T.heap[b]? = some cellB) (hobj : cellB.vm.isStatics = false) (hcls : s.vm.findClass C = some cellB.cls)
    {g : JFrame} (hg : g.method = m) (hsize : g.locals.size = c.maxLocals) {argsL rest : List Value} (hlen : ∀ sig, parseMethodDescriptor y.desc = some sig → argsL.length = sig.parameters.length)
    (hstack : g.stack = argsL.reverse ++ .ref b :: rest) (hW : 2 * g.monitorRoom + (rest.map fun v => v.category).sum ≤ W9) (hdg : decode c.code g.pc = .ok (.invokevirtual index, 3))
    (hpre : ∀ vm₁, s.WarmedH vm₁ → Pre ⟨T.setVm vm₁, locs, cells, slots⟩ (Value.ref b :: argsL).toArray) :
    (∃ (v : Option Value) (vm₁ : Vm) (B : Pt), s.WarmedH vm₁ ∧ Stand p l e R s m args below meth c B.U B.locs B.cells B.slots ∧ Post ⟨T.setVm vm₁, locs, cells, slots⟩ (Value.ref b :: argsL).toArray v B ∧
      ∀ target, Steps p.tables e below (B.U.setTop { g with pc := g.pc + 3, stack := v.toList ++ rest }) target → Steps p.tables e below (T.setTop g) target) ∨
    (∃ (q : Addr) (vm₁ : Vm) (B : Pt), s.WarmedH vm₁ ∧ Stand p l e R s m args below meth c B.U B.locs B.cells B.slots ∧ PostX ⟨T.setVm vm₁, locs, cells, slots⟩ (Value.ref b :: argsL).toArray q B ∧
      Steps p.tables e below (T.setTop g) ((B.U.setTop { g with stack := rest }).pushFrame (.throwing q))) := by
  obtain ⟨mk, methM, hnamed, hmethM, hstM, habM⟩ := Cond.instanceMethod_spec hinst
  obtain ⟨m8, methM', cM, hn8, hmethM', -, -, -, -, -, -, hsigM⟩ := Cond.codeWith_spec hcode
  cases Option.some.inj (hn8.symm.trans hnamed)
  cases hmethM.symm.trans hmethM'
  obtain ⟨c2, r2, m2, q1, q2, q3, q4, kP, hkP, hkPi⟩ := Cond.selects_spec hsel
  cases hcls.symm.trans q1
  cases (State.methodFound?_of_named hnamed hy).symm.trans q2
  cases hnamed.symm.trans q3
  have hselP : selectMethod e.platform s.vm cellB.cls mk = .method mk := by rw [Launch.admits_selectMethod X.admits]; exact q4
  obtain ⟨vm₁, X₁, hstep₁⟩ := X.invokevirtual hexec hown hlink hnamed hmethM hstM hkP hkPi hy (a := b) (cell := cellB) hcell
    (fun z h => by rw [h] at hobj; cases hobj) hselP hmethM habM hkP hkPi (g := g) hg (argsL := argsL) (rest := rest) (hlen _ hsigM) hstack hdg
  rcases hK m meth c ⟨T.setVm vm₁, locs, cells, slots⟩ { g with stack := rest } (.invokevirtual index) mk (Value.ref b :: argsL).toArray X₁ hg hsize hdg hW (X₁.named hnamed) (hpre vm₁ X₁.warmed) with ⟨v, B, X', hpost, hsteps⟩ | ⟨q, B, X', hpost, hsteps⟩
  · exact Or.inl ⟨v, vm₁, B, X₁.warmed, X', hpost, fun target h => hstep₁ _ fun acts => by rw [doInvoke_state]; exact hsteps.trans h⟩
  · exact Or.inr ⟨q, vm₁, B, X₁.warmed, X', hpost, hstep₁ _ fun acts => by rw [doInvoke_state]; exact hsteps⟩
theorem vx_callSX (X : Stand p l e R s m args below meth c T locs cells slots) (hexec : p.tables.exec = Jvm.exec) {own : String} {index : Nat} {y : MethodName} {bytes : ByteArray} {maxL : Nat} {ret : Option FieldType} {hh : List (Nat × Nat × Nat × Nat)}
    (hown : s.vm.findClass own = some m.cls) (hlink : (Cond.methodLink own index y).before args s = true) (hstat : (Cond.static y).before args s = true) (hinit : (Cond.initialized y.cls).before args s = true)
    (hcode : (Cond.codeWith y bytes maxL ret hh).before args s = true) (hy : y.cls ≠ "java/lang/invoke/MethodHandle" ∧ y.cls ≠ "java/lang/invoke/VarHandle")
    {W9 : Nat} {Pre : Pt → Array Value → Prop} {Post : Pt → Array Value → Option Value → Pt → Prop} {PostX : Pt → Array Value → Addr → Pt → Prop} (hK : vx_Back l R p e below s args y 3 W9 Pre Post PostX)
    {g : JFrame} (hg : g.method = m) (hsize : g.locals.size = c.maxLocals) {argsL rest : List Value} (hlen : ∀ sig, parseMethodDescriptor y.desc = some sig → argsL.length = sig.parameters.length)
    (hstack : g.stack = argsL.reverse ++ rest) (hW : 2 * g.monitorRoom + (rest.map fun v => v.category).sum ≤ W9) (hdg : decode c.code g.pc = .ok (.invokestatic index, 3))
    (hpre : ∀ vm₁, s.WarmedH vm₁ → Pre ⟨T.setVm vm₁, locs, cells, slots⟩ argsL.toArray) :
    (∃ (v : Option Value) (vm₁ : Vm) (B : Pt), s.WarmedH vm₁ ∧ Stand p l e R s m args below meth c B.U B.locs B.cells B.slots ∧ Post ⟨T.setVm vm₁, locs, cells, slots⟩ argsL.toArray v B ∧
      ∀ target, Steps p.tables e below (B.U.setTop { g with pc := g.pc + 3, stack := v.toList ++ rest }) target → Steps p.tables e below (T.setTop g) target) ∨
    (∃ (q : Addr) (vm₁ : Vm) (B : Pt), s.WarmedH vm₁ ∧ Stand p l e R s m args below meth c B.U B.locs B.cells B.slots ∧ PostX ⟨T.setVm vm₁, locs, cells, slots⟩ argsL.toArray q B ∧
      Steps p.tables e below (T.setTop g) ((B.U.setTop { g with stack := rest }).pushFrame (.throwing q))) := by
  obtain ⟨mk, methM, cM, hnamed, hmethM, -, -, -, -, -, -, hsigM⟩ := Cond.codeWith_spec hcode
  have hstatic : methM.isStatic = true := Cond.static_spec hnamed hmethM hstat
  obtain ⟨kP, hkP, -⟩ := className_of_methodNamed hnamed
  have hinitP : kP.init = .initialized := Cond.initialized_spec (findClass_of_methodNamed hnamed) hkP hinit
  obtain ⟨vm₁, X₁, hstep₁⟩ := X.invokestatic hexec hown hlink hnamed hmethM hstatic hkP hinitP hy (g := g) hg (argsL := argsL) (rest := rest) (hlen _ hsigM) hstack hdg
  rcases hK m meth c ⟨T.setVm vm₁, locs, cells, slots⟩ { g with stack := rest } (.invokestatic index) mk argsL.toArray X₁ hg hsize hdg hW (X₁.named hnamed) (hpre vm₁ X₁.warmed) with ⟨v, B, X', hpost, hsteps⟩ | ⟨q, B, X', hpost, hsteps⟩
  · exact Or.inl ⟨v, vm₁, B, X₁.warmed, X', hpost, fun target h => hstep₁ _ fun acts => by rw [doInvoke_state]; exact hsteps.trans h⟩
  · exact Or.inr ⟨q, vm₁, B, X₁.warmed, X', hpost, hstep₁ _ fun acts => by rw [doInvoke_state]; exact hsteps⟩
theorem vx_callVW (X : Stand p l e R s m args below meth c T locs cells slots) (hexec : p.tables.exec = Jvm.exec) {own C : String} {index : Nat} {y : MethodName} {bytes : ByteArray} {maxL : Nat} {ret : Option FieldType} {hh : List (Nat × Nat × Nat × Nat)}
    (hown : s.vm.findClass own = some m.cls) (hlink : (Cond.methodLink own index y).before args s = true) (hinst : (Cond.instanceMethod y).before args s = true) (hsel : (Cond.selects C y y).before args s = true)
    (hcode : (Cond.codeWith y bytes maxL ret hh).before args s = true) (hy : y.cls ≠ "java/lang/invoke/MethodHandle" ∧ y.cls ≠ "java/lang/invoke/VarHandle")
    {W9 : Nat} {Pre : Pt → Array Value → Prop} {Post : Pt → Array Value → Option Value → Pt → Prop} (hK : Back l R p e below s args y 3 W9 Pre Post)
    {b : Addr} {cellB : Cell} (hcell : T.heap[b]? = some cellB) (hobj : cellB.vm.isStatics = false) (hcls : s.vm.findClass C = some cellB.cls)
    {g : JFrame} (hg : g.method = m) (hsize : g.locals.size = c.maxLocals) {argsL rest : List Value} (hlen : ∀ sig, parseMethodDescriptor y.desc = some sig → argsL.length = sig.parameters.length)
    (hstack : g.stack = argsL.reverse ++ .ref b :: rest) (hW : 2 * g.monitorRoom + (rest.map fun v => v.category).sum ≤ W9) (hdg : decode c.code g.pc = .ok (.invokevirtual index, 3))
    (hpre : ∀ vm₁, s.WarmedH vm₁ → Pre ⟨T.setVm vm₁, locs, cells, slots⟩ (Value.ref b :: argsL).toArray) :
    ∃ (v : Option Value) (vm₁ : Vm) (B : Pt), s.WarmedH vm₁ ∧ Stand p l e R s m args below meth c B.U B.locs B.cells B.slots ∧ Post ⟨T.setVm vm₁, locs, cells, slots⟩ (Value.ref b :: argsL).toArray v B ∧
      ∀ target, Steps p.tables e below (B.U.setTop { g with pc := g.pc + 3, stack := v.toList ++ rest }) target → Steps p.tables e below (T.setTop g) target := by
  obtain ⟨mk, methM, hnamed, hmethM, hstM, habM⟩ := Cond.instanceMethod_spec hinst
  obtain ⟨m8, methM', cM, hn8, hmethM', -, -, -, -, -, -, hsigM⟩ := Cond.codeWith_spec hcode
  cases Option.some.inj (hn8.symm.trans hnamed)
  cases hmethM.symm.trans hmethM'
  obtain ⟨c2, r2, m2, q1, q2, q3, q4, kP, hkP, hkPi⟩ := Cond.selects_spec hsel
  cases hcls.symm.trans q1
  cases (State.methodFound?_of_named hnamed hy).symm.trans q2
  cases hnamed.symm.trans q3
  have hselP : selectMethod e.platform s.vm cellB.cls mk = .method mk := by rw [Launch.admits_selectMethod X.admits]; exact q4
  obtain ⟨vm₁, X₁, hstep₁⟩ := X.invokevirtual hexec hown hlink hnamed hmethM hstM hkP hkPi hy (a := b) (cell := cellB) hcell
    (fun z h => by rw [h] at hobj; cases hobj) hselP hmethM habM hkP hkPi (g := g) hg (argsL := argsL) (rest := rest) (hlen _ hsigM) hstack hdg
  obtain ⟨v, B, X', hpost, hsteps⟩ := hK m meth c ⟨T.setVm vm₁, locs, cells, slots⟩ { g with stack := rest } (.invokevirtual index) mk (Value.ref b :: argsL).toArray X₁ hg hsize hdg hW (X₁.named hnamed) (hpre vm₁ X₁.warmed)
  exact ⟨v, vm₁, B, X₁.warmed, X', hpost, fun target h => hstep₁ _ fun acts => by rw [doInvoke_state]; exact hsteps.trans h⟩
abbrev vx_CVW (R : Room) (s : State) (args : Array Value) (own C : String) (index : Nat) (y : MethodName) (bytes : ByteArray) (maxL : Nat) (ret : Option FieldType) (hh : List (Nat × Nat × Nat × Nat)) (ws : List Cond) (rm : Room) (mc ms n : Nat) : Prop :=
  (rm.cells = mc ∧ rm.slots = ms ∧ rm.frames + 1 ≤ R.frames ∧ 8 + (maxL + 11) + rm.locals ≤ R.locals ∧ (∀ w ∈ ws, ∀ (a' : Array Value) (U : State), s.WarmedH U.vm → w.before a' U = true) ∧ Cond.codeWith y bytes maxL ret hh ∈ ws) ∧
  (Cond.codeWith y bytes maxL ret hh).before args s = true ∧ (Cond.initialized y.cls).before args s = true ∧ (y.cls ≠ "java/lang/invoke/MethodHandle" ∧ y.cls ≠ "java/lang/invoke/VarHandle") ∧
  (∀ sig, parseMethodDescriptor y.desc = some sig → n = sig.parameters.length) ∧ (Cond.methodLink own index y).before args s = true ∧ (Cond.instanceMethod y).before args s = true ∧ (Cond.selects C y y).before args s = true
theorem vx_cwVW {own C : String} {index maxL mc ms : Nat} {y : MethodName} {bytes : ByteArray} {ret : Option FieldType} {hh : List (Nat × Nat × Nat × Nat)} {Ts ws ws' : List Cond} {rm : Room} (n : Nat) (ht : ∀ w ∈ Ts, w.before args s = true) (hT : GoodIn Ts (wsV own index C y ws)) (hw : ws = Cond.codeWith y bytes maxL ret hh :: ws') (hrc : rm.cells = mc) (hrs : rm.slots = ms)
    (hd : y.cls = C ∧ y.cls ≠ "java/lang/invoke/MethodHandle" ∧ y.cls ≠ "java/lang/invoke/VarHandle" ∧ (parseMethodDescriptor y.desc).map (fun d => d.parameters.length) = some n) (hR : rm.frames + 1 ≤ R.frames ∧ 8 + (maxL + 11) + rm.locals ≤ R.locals) :
    vx_CVW R s args own C index y bytes maxL ret hh ws rm mc ms n := by
  obtain ⟨hC, hd⟩ := hd
  subst hC
  have ok : ∀ w ∈ wsV own index y.cls y ws, w.before args s = true := fun w h => ht w (hT w h).1
  have hG : GoodIn Ts ws := fun w h => hT w (by unfold wsV; exact List.mem_append_right _ h)
  have hc : Cond.codeWith y bytes maxL ret hh ∈ ws := by rw [hw]; exact List.mem_cons_self
  refine ⟨⟨hrc, hrs, hR.1, hR.2, pay_in ht hG, hc⟩, ht _ (hG _ hc).1, ok _ (by simp [wsV]), ⟨hd.1, hd.2.1⟩, fun sig h => ?_, ok _ (by simp [wsV]), ok _ (by simp [wsV]), ok _ (by simp [wsV])⟩
  have h2 := hd.2.2
  rw [h] at h2
  exact (Option.some.inj h2).symm
theorem vx_runVW {y : MethodName} {bytes cc : ByteArray} {maxL nL mc ms n index : Nat} {ret : Option FieldType} {hh : List (Nat × Nat × Nat × Nat)} {ws : List Cond} {rm : Room} {Pc : Array Value → State → Prop} {Qc : Array Value → State → Outcome → State → Prop} {free : Addr → Prop} {Ts : List Cond} {own C : String} {b : Addr} {As rest : List Value} {g : JFrame}
    (S : CallFix p m c cc nL s args Ts own) (hM : Met l y ws rm Pc Qc mc ms free) (cw : vx_CVW R s args own C index y bytes maxL ret hh ws rm mc ms n) (hp : PreV s H C b Pc As)
    (hg : g.method = m) (hn : As.length = n) (hsize : g.locals.size = nL) (hstack : g.stack = As.reverse ++ .ref b :: rest) (hW : 2 * g.monitorRoom + (rest.map fun v => v.category).sum ≤ 8) (hdg : decode cc g.pc = .ok (.invokevirtual index, 3)) (hf : cells + mc ≤ R.cells ∧ slots + ms ≤ R.slots) :
    va_Run p l e R s m args below meth c H locs cells slots mc ms g rest (Qc (Value.ref b :: As).toArray) free := by
  obtain ⟨⟨hrc, hrs, hfr, hlo, hws, hcw⟩, hcode, hini, hy, hlen, hl, hin, hse⟩ := cw
  have hK : Back l R p e below s args y 3 8 (PreOf R mc ms Pc) (PostOf Qc mc ms free) := va_backW (hh := hh) (bytes := bytes) (maxL := maxL) (ret := ret) hM hp.1 hrc hrs hfr hlo hws hcw (fun a' U hW => word_at hW (Or.inl (by first | rfl | simp [Cond.onTables, Cond.keeps, Cond.steady])) hini)
  obtain ⟨hx, hb, hml, ho, -⟩ := S
  obtain ⟨-, ⟨cellB, hcB, hoB, hclB⟩, hPc⟩ := hp
  intro T hT X
  obtain ⟨v, vm₁, ⟨U', l2, c2, s2⟩, hW₁, X', ⟨g', mk, t, L, e1, e2, hq, h1, hL, h2, h3⟩, st⟩ := vx_callVW X hx (C := C) (hh := hh) (bytes := bytes) (maxL := maxL) (ret := ret) ho hl hin hse hcode hy hK (by rw [hT]; exact hcB) hoB hclB hg (hsize.trans hml.symm) (argsL := As) (rest := rest) (fun sig h => hn.trans (hlen sig h)) hstack hW (by rw [hb]; exact hdg)
    (fun vm₁ hW₁ => ⟨hf.1, hf.2, hPc (T.setVm vm₁) hT hW₁⟩)
  dsimp only [Pt.U, Pt.locs, Pt.cells, Pt.slots] at X' e1 e2 h1 h2 h3 st
  subst h1; subst h2; subst h3
  exact ⟨v, (T.setVm vm₁).calling g' mk (Value.ref b :: As).toArray, t, U', L, hT, X', hL, e1, e2, hq, st⟩
section
variable {y : MethodName} {bytes cc : ByteArray} {maxL nL mc ms n index : Nat} {ret : Option FieldType} {ws : List Cond} {rm : Room} {Pc : Array Value → State → Prop} {Qc : Array Value → State → Outcome → State → Prop} {XC : String → State → State → Prop} {free : Addr → Prop} {Ts : List Cond} {own C : String} {b : Addr} {As rest : List Value} {g : JFrame}
theorem vx_runVX {hh : List (Nat × Nat × Nat × Nat)} (S : CallFix p m c cc nL s args Ts own) (hM : vx_Met l y ws rm Pc Qc XC mc ms free) (cw : vx_CVW R s args own C index y bytes maxL ret hh ws rm mc ms n) (hp : PreV s H C b Pc As)
    (hg : g.method = m) (hn : As.length = n) (hsize : g.locals.size = nL) (hstack : g.stack = As.reverse ++ .ref b :: rest) (hW : 2 * g.monitorRoom + (rest.map fun v => v.category).sum ≤ 8) (hdg : decode cc g.pc = .ok (.invokevirtual index, 3)) (hf : cells + mc ≤ R.cells ∧ slots + ms ≤ R.slots) :
    vx_Run p l e R s m args below meth c H locs cells slots mc ms g rest (Qc (Value.ref b :: As).toArray) XC free := by
  obtain ⟨⟨hrc, hrs, hfr, hlo, hws, hcw⟩, hcode, hini, hy, hlen, hl, hin, hse⟩ := cw
  have hK : vx_Back l R p e below s args y 3 8 (PreOf R mc ms Pc) (PostOf Qc mc ms free) (vx_Post XC mc ms free) := vx_backW (hh := hh) (bytes := bytes) (maxL := maxL) (ret := ret) hM hp.1 hrc hrs hfr hlo hws hcw (fun a' U hW => word_at hW (Or.inl (by first | rfl | simp [Cond.onTables, Cond.keeps, Cond.steady])) hini)
  obtain ⟨hx, hb, hml, ho, -⟩ := S
  obtain ⟨-, ⟨cellB, hcB, hoB, hclB⟩, hPc⟩ := hp
  intro T hT X
  rcases vx_callVX X hx (C := C) (hh := hh) (bytes := bytes) (maxL := maxL) (ret := ret) ho hl hin hse hcode hy hK (by rw [hT]; exact hcB) hoB hclB hg (hsize.trans hml.symm) (argsL := As) (rest := rest) (fun sig h => hn.trans (hlen sig h)) hstack hW (by rw [hb]; exact hdg)
    (fun vm₁ hW₁ => ⟨hf.1, hf.2, hPc (T.setVm vm₁) hT hW₁⟩) with ⟨v, vm₁, ⟨U', l2, c2, s2⟩, hW₁, X', ⟨g', mk, t, L, e1, e2, hq, h1, hL, h2, h3⟩, st⟩ | ⟨q, vm₁, ⟨U', l2, c2, s2⟩, hW₁, X', ⟨g', mk, t, L, E, ce, e1, e2, hq, hce, hcv, hcl, h1, hL, h2, h3⟩, st⟩
  · dsimp only [Pt.U, Pt.locs, Pt.cells, Pt.slots] at X' e1 e2 h1 h2 h3 st
    subst h1; subst h2; subst h3
    exact Or.inl ⟨v, (T.setVm vm₁).calling g' mk (Value.ref b :: As).toArray, t, U', L, hT, X', hL, e1, e2, hq, st⟩
  · dsimp only [Pt.U, Pt.locs, Pt.cells, Pt.slots] at X' e1 e2 h1 h2 h3 st hcl
    subst h1; subst h2; subst h3
    exact Or.inr ⟨q, (T.setVm vm₁).calling g' mk (Value.ref b :: As).toArray, t, U', L, E, ce, hT, X', hL, e1, e2, hq, hce, hcv, vx_cls hW₁ hcl, st⟩
theorem vx_runSX {hh : List (Nat × Nat × Nat × Nat)} (S : CallFix p m c cc nL s args Ts own) (hM : vx_Met l y ws rm Pc Qc XC mc ms free) (cw : vx_CSW R s args own index y bytes maxL ret hh ws rm mc ms n) (hp : PreS s H Pc As)
    (hg : g.method = m) (hn : As.length = n) (hsize : g.locals.size = nL) (hstack : g.stack = As.reverse ++ rest) (hW : 2 * g.monitorRoom + (rest.map fun v => v.category).sum ≤ 8) (hdg : decode cc g.pc = .ok (.invokestatic index, 3)) (hf : cells + mc ≤ R.cells ∧ slots + ms ≤ R.slots) :
    vx_Run p l e R s m args below meth c H locs cells slots mc ms g rest (Qc As.toArray) XC free := by
  obtain ⟨⟨hrc, hrs, hfr, hlo, hws, hcw⟩, hcode, hini, hy, hlen, hl, hstt⟩ := cw
  have hK : vx_Back l R p e below s args y 3 8 (PreOf R mc ms Pc) (PostOf Qc mc ms free) (vx_Post XC mc ms free) := vx_backW (hh := hh) (bytes := bytes) (maxL := maxL) (ret := ret) hM hp.1 hrc hrs hfr hlo hws hcw (fun a' U hW => word_at hW (Or.inl (by first | rfl | simp [Cond.onTables, Cond.keeps, Cond.steady])) hini)
  obtain ⟨hx, hb, hml, ho, -⟩ := S
  intro T hT X
  rcases vx_callSX X hx (hh := hh) (bytes := bytes) (maxL := maxL) (ret := ret) ho hl hstt hini hcode hy hK hg (hsize.trans hml.symm) (argsL := As) (rest := rest) (fun sig h => hn.trans (hlen sig h)) hstack hW (by rw [hb]; exact hdg)
    (fun vm₁ hW₁ => ⟨hf.1, hf.2, hp.2 (T.setVm vm₁) hT hW₁⟩) with ⟨v, vm₁, ⟨U', l2, c2, s2⟩, hW₁, X', ⟨g', mk, t, L, e1, e2, hq, h1, hL, h2, h3⟩, st⟩ | ⟨q, vm₁, ⟨U', l2, c2, s2⟩, hW₁, X', ⟨g', mk, t, L, E, ce, e1, e2, hq, hce, hcv, hcl, h1, hL, h2, h3⟩, st⟩
  · dsimp only [Pt.U, Pt.locs, Pt.cells, Pt.slots] at X' e1 e2 h1 h2 h3 st
    subst h1; subst h2; subst h3
    exact Or.inl ⟨v, (T.setVm vm₁).calling g' mk As.toArray, t, U', L, hT, X', hL, e1, e2, hq, st⟩
  · dsimp only [Pt.U, Pt.locs, Pt.cells, Pt.slots] at X' e1 e2 h1 h2 h3 st hcl
    subst h1; subst h2; subst h3
    exact Or.inr ⟨q, (T.setVm vm₁).calling g' mk As.toArray, t, U', L, E, ce, hT, X', hL, e1, e2, hq, hce, hcv, vx_cls hW₁ hcl, st⟩
end
end VXH
theorem vx_ofWH {l : Launch} {y : MethodName} {ws ws' : List Cond} {rm : Room} {Pc : Array Value → State → Prop} {Qc : Array Value → State → Outcome → State → Prop} {XC : String → State → State → Prop} {mc ms : Nat} {free : Addr → Prop} {cc : ByteArray} {maxL : Nat} {ret : Option FieldType} {hh : List (Nat × Nat × Nat × Nat)}
    (hy : plainName y.cls = true) (hw : ws = Cond.codeWith y cc maxL ret hh :: ws')
    (body : ∀ p e s m args below meth c s₁, BodyLoose p l y (headSpec ws rm) cc maxL ret e s m args below meth c s₁ → c.maxLocals = maxL → Pc args s →
      W p l e (headSpec ws rm).room s m args below meth c s.heap [] 0 0 (vx_MQ below Qc XC args s mc ms free) (entryFrame m args maxL)) : vx_Met l y ws rm Pc Qc XC mc ms free := by
  refine MetFree.of_bodyS (code := cc) (maxLocals := maxL) (ret := ret) hy ?_ ?_
  · intro args s m h hn
    obtain ⟨m9, meth, c, hn9, h1, h2, h3, h4, -, h5, h6, -⟩ := Cond.codeWith_spec (atoms_spec (ws := ws) h _ (by rw [hw]; exact List.mem_cons_self))
    cases hn.symm.trans hn9
    exact ⟨meth, c, h1, h2, h3, h4, h5, h6⟩
  · intro p e s m args below meth c s₁ B hml hP _
    have hh0 : s₁.heap = s.heap := by rw [B.state]; rfl
    obtain ⟨t, a1, o, b1, b2, b3⟩ := body p e s m args below meth c s₁ B hml hP s₁ hh0 (Stand.of_body B)
    exact ⟨t, o, a1, b1, b2, b3⟩
/-! ===== END ===== -/

/-! ===== BEGIN printed: names, fields, word lists, decode rows ===== -/
end
section
def FC_0 : u_T := fun k => match k with
  | 0 => ("RelationDesk", "tables", "LRelationDesk$Tables;", true)
  | 1 => ("RelationDesk", "atHand", "[I", true)
  | 2 => ("RelationDesk", "reader", "LRelationDesk$Reader;", true)
  | 3 => ("RelationDesk", "runner", "LRelationDesk$Runner;", true)
  | 4 => ("RelationDesk", "lastRow", "[I", true)
  | 5 => ("RelationDesk", "lastWidth", "I", false)
  | _ => ("RelationDesk", "query", "LRelationDesk$Term;", false)
def FC_1 : u_T := fun k => match k with
  | 0 => ("RelationDesk$Kept", "cells", "[I", true)
  | 1 => ("RelationDesk$Kept", "order", "[I", true)
  | 2 => ("RelationDesk$Kept", "width", "I", false)
  | _ => ("RelationDesk$Kept", "rows", "I", false)
def FC_2 : u_T := fun k => match k with
  | 0 => ("RelationDesk$Reader", "words", "[I", true)
  | 1 => ("RelationDesk$Reader", "count", "I", false)
  | 2 => ("RelationDesk$Reader", "wrongAt", "I", false)
  | 3 => ("RelationDesk$Reader", "at", "I", false)
  | 4 => ("RelationDesk$Reader", "terms", "[LRelationDesk$Term;", true)
  | _ => ("RelationDesk$Reader", "used", "I", false)
def FC_3 : u_T := fun k => match k with
  | 0 => ("RelationDesk$Runner", "fuel", "I", false)
  | _ => ("RelationDesk$Runner", "taken", "I", false)
def FC_4 : u_T := fun k => match k with
  | 0 => ("RelationDesk$Table", "columns", "I", true)
  | 1 => ("RelationDesk$Table", "indexed", "[Z", true)
  | 2 => ("RelationDesk$Table", "cells", "[I", true)
  | 3 => ("RelationDesk$Table", "savedCells", "[I", true)
  | 4 => ("RelationDesk$Table", "rows", "I", false)
  | _ => ("RelationDesk$Table", "savedRows", "I", false)
def FC_5 : u_T := fun k => match k with
  | 0 => ("RelationDesk$Tables", "all", "[LRelationDesk$Table;", true)
  | 1 => ("RelationDesk$Tables", "count", "I", false)
  | 2 => ("RelationDesk$Tables", "inTransaction", "Z", false)
  | _ => ("RelationDesk$Tables", "changed", "I", false)
def FC_6 : u_T := fun k => match k with
  | 0 => ("RelationDesk$Term", "kind", "I", false)
  | 1 => ("RelationDesk$Term", "chosen", "I", false)
  | 2 => ("RelationDesk$Term", "other", "I", false)
  | 3 => ("RelationDesk$Term", "how", "I", false)
  | 4 => ("RelationDesk$Term", "value", "I", false)
  | 5 => ("RelationDesk$Term", "picks", "[I", true)
  | 6 => ("RelationDesk$Term", "source", "LRelationDesk$Table;", false)
  | 7 => ("RelationDesk$Term", "first", "LRelationDesk$Term;", false)
  | 8 => ("RelationDesk$Term", "second", "LRelationDesk$Term;", false)
  | 9 => ("RelationDesk$Term", "width", "I", false)
  | 10 => ("RelationDesk$Term", "row", "[I", true)
  | 11 => ("RelationDesk$Term", "kept", "LRelationDesk$Kept;", true)
  | 12 => ("RelationDesk$Term", "position", "I", false)
  | 13 => ("RelationDesk$Term", "holdsFirst", "Z", false)
  | 14 => ("RelationDesk$Term", "firstDone", "Z", false)
  | _ => ("RelationDesk$Term", "gathered", "Z", false)
def FC_7 : u_T := fun k => match k with
  | 0 => ("RelationDeskModel", "thrown", "I", false)
  | 1 => ("RelationDeskModel", "tables", "I", false)
  | 2 => ("RelationDeskModel", "wide", "[I", true)
  | 3 => ("RelationDeskModel", "indexed", "[Z", true)
  | 4 => ("RelationDeskModel", "rows", "[I", true)
  | 5 => ("RelationDeskModel", "cell", "[I", true)
  | 6 => ("RelationDeskModel", "hand", "[I", true)
  | 7 => ("RelationDeskModel", "going", "Z", false)
  | 8 => ("RelationDeskModel", "changed", "I", false)
  | 9 => ("RelationDeskModel", "oldRows", "[I", true)
  | 10 => ("RelationDeskModel", "oldCell", "[I", true)
  | 11 => ("RelationDeskModel", "words", "I", false)
  | 12 => ("RelationDeskModel", "word", "[I", true)
  | 13 => ("RelationDeskModel", "text", "[I", true)
  | 14 => ("RelationDeskModel", "place", "I", false)
  | 15 => ("RelationDeskModel", "prepared", "Z", false)
  | 16 => ("RelationDeskModel", "terms", "I", false)
  | 17 => ("RelationDeskModel", "at", "[I", true)
  | 18 => ("RelationDeskModel", "parent", "[I", true)
  | 19 => ("RelationDeskModel", "first", "[I", true)
  | 20 => ("RelationDeskModel", "second", "[I", true)
  | 21 => ("RelationDeskModel", "columns", "[I", true)
  | 22 => ("RelationDeskModel", "next", "I", false)
  | 23 => ("RelationDeskModel", "wrong", "I", false)
  | 24 => ("RelationDeskModel", "taken", "I", false)
  | 25 => ("RelationDeskModel", "left", "I", false)
  | 26 => ("RelationDeskModel", "kept", "[I", true)
  | 27 => ("RelationDeskModel", "keep", "[I", true)
  | 28 => ("RelationDeskModel", "row", "[I", true)
  | 29 => ("RelationDeskModel", "half", "[I", true)
  | 30 => ("RelationDeskModel", "latest", "[I", true)
  | 31 => ("RelationDeskModel", "latestWide", "I", false)
  | 32 => ("RelationDeskModel", "opened", "[I", true)
  | 33 => ("RelationDeskModel", "due0", "[I", true)
  | 34 => ("RelationDeskModel", "ends0", "[I", true)
  | 35 => ("RelationDeskModel", "now", "I", false)
  | 36 => ("RelationDeskModel", "asks", "Z", false)
  | 37 => ("RelationDeskModel", "tells", "Z", false)
  | 38 => ("RelationDeskModel", "pos", "[I", true)
  | _ => ("RelationDeskModel", "later", "[Z", true)
abbrev classes : List vw_C := [("RelationDesk", FC_0, 7), ("RelationDesk$Kept", FC_1, 4), ("RelationDesk$Reader", FC_2, 6), ("RelationDesk$Runner", FC_3, 2), ("RelationDesk$Table", FC_4, 6), ("RelationDesk$Tables", FC_5, 4), ("RelationDesk$Term", FC_6, 16), ("RelationDeskModel", FC_7, 40)]
def kClsL : List String := ["RelationDesk", "RelationDesk$Kept", "RelationDesk$Reader", "RelationDesk$Runner", "RelationDesk$Table", "RelationDesk$Tables", "RelationDesk$Term", "RelationDeskModel", "RelationDeskLaw", "java/lang/Math"]
def kCls (n : Nat) : String := kClsL.getD n ""
def kFtyL : List (List FieldType) := [[.object "RelationDesk$Tables", .array .int, .object "RelationDesk$Reader", .object "RelationDesk$Runner", .array .int, .int, .object "RelationDesk$Term"], [.array .int, .array .int, .int, .int], [.array .int, .int, .int, .int, .array (.object "RelationDesk$Term"), .int], [.int, .int], [.int, .array .boolean, .array .int, .array .int, .int, .int], [.array (.object "RelationDesk$Table"), .int, .boolean, .int], [.int, .int, .int, .int, .int, .array .int, .object "RelationDesk$Table", .object "RelationDesk$Term", .object "RelationDesk$Term", .int, .array .int, .object "RelationDesk$Kept", .int, .boolean, .boolean, .boolean], [.int, .int, .array .int, .array .boolean, .array .int, .array .int, .array .int, .boolean, .int, .array .int, .array .int, .int, .array .int, .array .int, .int, .boolean, .int, .array .int, .array .int, .array .int, .array .int, .array .int, .int, .int, .int, .int, .array .int, .array .int, .array .int, .array .int, .array .int, .int, .array .int, .array .int, .array .int, .int, .boolean, .boolean, .array .int, .array .boolean]]
def kFty (ci k : Nat) : FieldType := (kFtyL.getD ci []).getD k .int
def kDefL : List (List Value) := [[.null, .null, .null, .null, .null, .int 0, .null], [.null, .null, .int 0, .int 0], [.null, .int 0, .int 0, .int 0, .null, .int 0], [.int 0, .int 0], [.int 0, .null, .null, .null, .int 0, .int 0], [.null, .int 0, .int 0, .int 0], [.int 0, .int 0, .int 0, .int 0, .int 0, .null, .null, .null, .null, .int 0, .null, .null, .int 0, .int 0, .int 0, .int 0], [.int 0, .int 0, .null, .null, .null, .null, .null, .int 0, .int 0, .null, .null, .int 0, .null, .null, .int 0, .int 0, .int 0, .null, .null, .null, .null, .null, .int 0, .int 0, .int 0, .int 0, .null, .null, .null, .null, .null, .int 0, .null, .null, .null, .int 0, .int 0, .int 0, .null, .null]]
def kDef (ci : Nat) : List Value := kDefL.getD ci []
def kSz (ci : Nat) : Nat := (kDef ci).length
def kArt : List FieldType := [.int, .boolean, .long, .object "RelationDesk$Table", .object "RelationDesk$Term"]
def kAOs : List String := ["RelationDesk$Table", "RelationDesk$Term"]
def kNmL : List MethodName := [⟨"RelationDesk", "<init>", "()V"⟩,
  ⟨"RelationDesk", "table", "(I)I"⟩,
  ⟨"RelationDesk", "index", "(II)V"⟩,
  ⟨"RelationDesk", "stage", "(II)V"⟩,
  ⟨"RelationDesk", "insert", "(I)I"⟩,
  ⟨"RelationDesk", "delete", "(III)I"⟩,
  ⟨"RelationDesk", "change", "(IIII)I"⟩,
  ⟨"RelationDesk", "begin", "()V"⟩,
  ⟨"RelationDesk", "commit", "()I"⟩,
  ⟨"RelationDesk", "rollback", "()I"⟩,
  ⟨"RelationDesk", "cell", "(III)I"⟩,
  ⟨"RelationDesk", "feed", "(I)I"⟩,
  ⟨"RelationDesk", "prepare", "()I"⟩,
  ⟨"RelationDesk", "place", "()I"⟩,
  ⟨"RelationDesk", "step", "(I)I"⟩,
  ⟨"RelationDesk", "column", "(I)I"⟩,
  ⟨"RelationDesk", "cost", "()I"⟩,
  ⟨"RelationDesk", "keepLastRow", "(LRelationDesk$Term;)V"⟩,
  ⟨"RelationDesk", "widthOf", "(LRelationDesk$Term;)I"⟩,
  ⟨"RelationDesk$Kept", "<init>", "()V"⟩,
  ⟨"RelationDesk$Kept", "empty", "(I)V"⟩,
  ⟨"RelationDesk$Kept", "valueAt", "(II)I"⟩,
  ⟨"RelationDesk$Kept", "setAt", "(III)V"⟩,
  ⟨"RelationDesk$Kept", "copyRow", "(I[I)V"⟩,
  ⟨"RelationDesk$Kept", "add", "([I)Z"⟩,
  ⟨"RelationDesk$Kept", "addSorted", "([III)Z"⟩,
  ⟨"RelationDesk$Kept", "isLater", "(III)Z"⟩,
  ⟨"RelationDesk$Kept", "holds", "([I)Z"⟩,
  ⟨"RelationDesk$Kept", "isAt", "(I[I)Z"⟩,
  ⟨"RelationDesk$Kept", "find", "(I)I"⟩,
  ⟨"RelationDesk$Reader", "<init>", "()V"⟩,
  ⟨"RelationDesk$Reader", "addWord", "(I)V"⟩,
  ⟨"RelationDesk$Reader", "readQuery", "(LRelationDesk$Tables;)LRelationDesk$Term;"⟩,
  ⟨"RelationDesk$Reader", "failed", "()Z"⟩,
  ⟨"RelationDesk$Reader", "fail", "(I)V"⟩,
  ⟨"RelationDesk$Reader", "nextWord", "()I"⟩,
  ⟨"RelationDesk$Reader", "nextWithin", "(II)I"⟩,
  ⟨"RelationDesk$Reader", "nextTerm", "(I)LRelationDesk$Term;"⟩,
  ⟨"RelationDesk$Reader", "readTerm", "(LRelationDesk$Tables;I)LRelationDesk$Term;"⟩,
  ⟨"RelationDesk$Reader", "partsOf", "(I)I"⟩,
  ⟨"RelationDesk$Reader", "readNumbers", "(LRelationDesk$Term;LRelationDesk$Tables;)V"⟩,
  ⟨"RelationDesk$Reader", "widthAsked", "(LRelationDesk$Term;)I"⟩,
  ⟨"RelationDesk$Reader", "isWithin", "(II)Z"⟩,
  ⟨"RelationDesk$Reader", "picksWithin", "(LRelationDesk$Term;I)Z"⟩,
  ⟨"RelationDesk$Reader", "chooseIndex", "(LRelationDesk$Term;)V"⟩,
  ⟨"RelationDesk$Runner", "<init>", "()V"⟩,
  ⟨"RelationDesk$Runner", "startAnew", "(LRelationDesk$Term;)V"⟩,
  ⟨"RelationDesk$Runner", "goOn", "(LRelationDesk$Term;I)I"⟩,
  ⟨"RelationDesk$Runner", "beginAnew", "(LRelationDesk$Term;I)V"⟩,
  ⟨"RelationDesk$Runner", "ask", "(LRelationDesk$Term;I)I"⟩,
  ⟨"RelationDesk$Runner", "askScan", "(LRelationDesk$Term;)I"⟩,
  ⟨"RelationDesk$Runner", "askIndex", "(LRelationDesk$Term;)I"⟩,
  ⟨"RelationDesk$Runner", "takeRow", "(LRelationDesk$Term;LRelationDesk$Table;I)I"⟩,
  ⟨"RelationDesk$Runner", "askSelect", "(LRelationDesk$Term;I)I"⟩,
  ⟨"RelationDesk$Runner", "isSo", "(III)Z"⟩,
  ⟨"RelationDesk$Runner", "askProject", "(LRelationDesk$Term;I)I"⟩,
  ⟨"RelationDesk$Runner", "askPair", "(LRelationDesk$Term;I)I"⟩,
  ⟨"RelationDesk$Runner", "isMatch", "(LRelationDesk$Term;)Z"⟩,
  ⟨"RelationDesk$Runner", "askThrough", "(LRelationDesk$Term;LRelationDesk$Term;I)I"⟩,
  ⟨"RelationDesk$Runner", "askUnion", "(LRelationDesk$Term;I)I"⟩,
  ⟨"RelationDesk$Runner", "askDistinct", "(LRelationDesk$Term;I)I"⟩,
  ⟨"RelationDesk$Runner", "askLimit", "(LRelationDesk$Term;I)I"⟩,
  ⟨"RelationDesk$Runner", "askCount", "(LRelationDesk$Term;I)I"⟩,
  ⟨"RelationDesk$Runner", "askGathered", "(LRelationDesk$Term;I)I"⟩,
  ⟨"RelationDesk$Runner", "gather", "(LRelationDesk$Term;I)I"⟩,
  ⟨"RelationDesk$Runner", "keepRow", "(LRelationDesk$Term;)Z"⟩,
  ⟨"RelationDesk$Runner", "keepInGroup", "(LRelationDesk$Term;)Z"⟩,
  ⟨"RelationDesk$Runner", "combined", "(III)I"⟩,
  ⟨"RelationDesk$Runner", "valueIn", "(LRelationDesk$Term;I)I"⟩,
  ⟨"RelationDesk$Runner", "copyRow", "(LRelationDesk$Term;LRelationDesk$Term;I)V"⟩,
  ⟨"RelationDesk$Table", "<init>", "(I)V"⟩,
  ⟨"RelationDesk$Table", "hasColumn", "(I)Z"⟩,
  ⟨"RelationDesk$Table", "hasRow", "(I)Z"⟩,
  ⟨"RelationDesk$Table", "valueAt", "(II)I"⟩,
  ⟨"RelationDesk$Table", "copyRow", "(I[I)V"⟩,
  ⟨"RelationDesk$Table", "addRow", "([I)V"⟩,
  ⟨"RelationDesk$Table", "countEqual", "(II)I"⟩,
  ⟨"RelationDesk$Table", "nextEqual", "(III)I"⟩,
  ⟨"RelationDesk$Table", "removeEqual", "(II)V"⟩,
  ⟨"RelationDesk$Table", "setWhereEqual", "(IIII)V"⟩,
  ⟨"RelationDesk$Table", "save", "()V"⟩,
  ⟨"RelationDesk$Table", "restore", "()V"⟩,
  ⟨"RelationDesk$Tables", "<init>", "()V"⟩,
  ⟨"RelationDesk$Tables", "byNumber", "(I)LRelationDesk$Table;"⟩,
  ⟨"RelationDesk$Tables", "addTable", "(I)I"⟩,
  ⟨"RelationDesk$Tables", "mayChange", "(I)Z"⟩,
  ⟨"RelationDesk$Tables", "countChanged", "(I)V"⟩,
  ⟨"RelationDesk$Tables", "openTransaction", "()V"⟩,
  ⟨"RelationDesk$Tables", "closeTransaction", "()I"⟩,
  ⟨"RelationDesk$Tables", "restoreAll", "()V"⟩,
  ⟨"RelationDesk$Term", "<init>", "()V"⟩,
  ⟨"RelationDesk$Term", "become", "(I)V"⟩,
  ⟨"RelationDesk$Term", "forget", "()V"⟩,
  ⟨"RelationDeskModel", "<init>", "()V"⟩,
  ⟨"RelationDeskModel", "thrown", "()I"⟩,
  ⟨"RelationDeskModel", "in", "(III)Z"⟩,
  ⟨"RelationDeskModel", "says", "(Z)Z"⟩,
  ⟨"RelationDeskModel", "isTable", "(I)Z"⟩,
  ⟨"RelationDeskModel", "isColumn", "(II)Z"⟩,
  ⟨"RelationDeskModel", "at", "(III)I"⟩,
  ⟨"RelationDeskModel", "table", "(I)I"⟩,
  ⟨"RelationDeskModel", "index", "(II)V"⟩,
  ⟨"RelationDeskModel", "stage", "(II)V"⟩,
  ⟨"RelationDeskModel", "insert", "(I)I"⟩,
  ⟨"RelationDeskModel", "matching", "(III)I"⟩,
  ⟨"RelationDeskModel", "delete", "(III)I"⟩,
  ⟨"RelationDeskModel", "change", "(IIII)I"⟩,
  ⟨"RelationDeskModel", "begin", "()V"⟩,
  ⟨"RelationDeskModel", "commit", "()I"⟩,
  ⟨"RelationDeskModel", "rollback", "()I"⟩,
  ⟨"RelationDeskModel", "cell", "(III)I"⟩,
  ⟨"RelationDeskModel", "feed", "(I)I"⟩,
  ⟨"RelationDeskModel", "fails", "(I)V"⟩,
  ⟨"RelationDeskModel", "number", "(II)I"⟩,
  ⟨"RelationDeskModel", "any", "()I"⟩,
  ⟨"RelationDeskModel", "all", "()V"⟩,
  ⟨"RelationDeskModel", "numbers", "(I)V"⟩,
  ⟨"RelationDeskModel", "told", "(II)I"⟩,
  ⟨"RelationDeskModel", "kind", "(I)I"⟩,
  ⟨"RelationDeskModel", "looks", "(II)V"⟩,
  ⟨"RelationDeskModel", "prepare", "()I"⟩,
  ⟨"RelationDeskModel", "place", "()I"⟩,
  ⟨"RelationDeskModel", "anew", "(I)V"⟩,
  ⟨"RelationDeskModel", "ask", "(I)V"⟩,
  ⟨"RelationDeskModel", "tell", "(IZ)V"⟩,
  ⟨"RelationDeskModel", "isByIndex", "(I)Z"⟩,
  ⟨"RelationDeskModel", "scan", "(III)Z"⟩,
  ⟨"RelationDeskModel", "next", "(I)V"⟩,
  ⟨"RelationDeskModel", "asked", "(I)Z"⟩,
  ⟨"RelationDeskModel", "ended", "(II)V"⟩,
  ⟨"RelationDeskModel", "copy", "(II)V"⟩,
  ⟨"RelationDeskModel", "comes", "(II)Z"⟩,
  ⟨"RelationDeskModel", "pairs", "(II)V"⟩,
  ⟨"RelationDeskModel", "holds", "(II)Z"⟩,
  ⟨"RelationDeskModel", "isFull", "(II)Z"⟩,
  ⟨"RelationDeskModel", "isKept", "(III)Z"⟩,
  ⟨"RelationDeskModel", "lay", "(III)V"⟩,
  ⟨"RelationDeskModel", "keeps", "(II)Z"⟩,
  ⟨"RelationDeskModel", "sorts", "(II)Z"⟩,
  ⟨"RelationDeskModel", "groups", "(II)Z"⟩,
  ⟨"RelationDeskModel", "step", "(I)I"⟩,
  ⟨"RelationDeskModel", "column", "(I)I"⟩,
  ⟨"RelationDeskModel", "cost", "()I"⟩,
  ⟨"RelationDeskLaw", "table", "(LRelationDesk;I[J)I"⟩,
  ⟨"RelationDeskLaw", "index", "(LRelationDesk;II)I"⟩,
  ⟨"RelationDeskLaw", "stage", "(LRelationDesk;II)I"⟩,
  ⟨"RelationDeskLaw", "insert", "(LRelationDesk;I[J)I"⟩,
  ⟨"RelationDeskLaw", "delete", "(LRelationDesk;III[J)I"⟩,
  ⟨"RelationDeskLaw", "change", "(LRelationDesk;IIII[J)I"⟩,
  ⟨"RelationDeskLaw", "begin", "(LRelationDesk;)I"⟩,
  ⟨"RelationDeskLaw", "commit", "(LRelationDesk;[J)I"⟩,
  ⟨"RelationDeskLaw", "rollback", "(LRelationDesk;[J)I"⟩,
  ⟨"RelationDeskLaw", "cell", "(LRelationDesk;III[J)I"⟩,
  ⟨"RelationDeskLaw", "feed", "(LRelationDesk;I[J)I"⟩,
  ⟨"RelationDeskLaw", "prepare", "(LRelationDesk;[J)I"⟩,
  ⟨"RelationDeskLaw", "step", "(LRelationDesk;I[J)I"⟩,
  ⟨"RelationDeskLaw", "law", "([I)Z"⟩,
  ⟨"java/lang/Math", "floorDiv", "(II)I"⟩,
  ⟨"java/lang/Math", "floorMod", "(II)I"⟩]
def kNm (y : Nat) : MethodName := kNmL.getD y ⟨"", "", ""⟩
def kByL : List ByteArray := [prog_1_method_1_code, prog_1_method_2_code, prog_1_method_3_code, prog_1_method_4_code, prog_1_method_5_code, prog_1_method_6_code, prog_1_method_7_code, prog_1_method_8_code, prog_1_method_9_code, prog_1_method_10_code, prog_1_method_11_code, prog_1_method_12_code, prog_1_method_13_code, prog_1_method_14_code, prog_1_method_15_code, prog_1_method_16_code, prog_1_method_17_code, prog_1_method_18_code, prog_1_method_19_code, prog_2_method_1_code, prog_2_method_2_code, prog_2_method_3_code, prog_2_method_4_code, prog_2_method_5_code, prog_2_method_6_code, prog_2_method_7_code, prog_2_method_8_code, prog_2_method_9_code, prog_2_method_10_code, prog_2_method_11_code, prog_3_method_1_code, prog_3_method_2_code, prog_3_method_3_code, prog_3_method_4_code, prog_3_method_5_code, prog_3_method_6_code, prog_3_method_7_code, prog_3_method_8_code, prog_3_method_9_code, prog_3_method_10_code, prog_3_method_11_code, prog_3_method_12_code, prog_3_method_13_code, prog_3_method_14_code, prog_3_method_15_code, prog_4_method_1_code, prog_4_method_2_code, prog_4_method_3_code, prog_4_method_4_code, prog_4_method_5_code, prog_4_method_6_code, prog_4_method_7_code, prog_4_method_8_code, prog_4_method_9_code, prog_4_method_10_code, prog_4_method_11_code, prog_4_method_12_code, prog_4_method_13_code, prog_4_method_14_code, prog_4_method_15_code, prog_4_method_16_code, prog_4_method_17_code, prog_4_method_18_code, prog_4_method_19_code, prog_4_method_20_code, prog_4_method_21_code, prog_4_method_22_code, prog_4_method_23_code, prog_4_method_24_code, prog_4_method_25_code, prog_5_method_1_code, prog_5_method_2_code, prog_5_method_3_code, prog_5_method_4_code, prog_5_method_5_code, prog_5_method_6_code, prog_5_method_7_code, prog_5_method_8_code, prog_5_method_9_code, prog_5_method_10_code, prog_5_method_11_code, prog_5_method_12_code, prog_6_method_1_code, prog_6_method_2_code, prog_6_method_3_code, prog_6_method_4_code, prog_6_method_5_code, prog_6_method_6_code, prog_6_method_7_code, prog_6_method_8_code, prog_7_method_1_code, prog_7_method_2_code, prog_7_method_3_code, prog_9_method_1_code, prog_9_method_2_code, prog_9_method_3_code, prog_9_method_4_code, prog_9_method_5_code, prog_9_method_6_code, prog_9_method_7_code, prog_9_method_8_code, prog_9_method_9_code, prog_9_method_10_code, prog_9_method_11_code, prog_9_method_12_code, prog_9_method_13_code, prog_9_method_14_code, prog_9_method_15_code, prog_9_method_16_code, prog_9_method_17_code, prog_9_method_18_code, prog_9_method_19_code, prog_9_method_20_code, prog_9_method_21_code, prog_9_method_22_code, prog_9_method_23_code, prog_9_method_24_code, prog_9_method_25_code, prog_9_method_26_code, prog_9_method_27_code, prog_9_method_28_code, prog_9_method_29_code, prog_9_method_30_code, prog_9_method_31_code, prog_9_method_32_code, prog_9_method_33_code, prog_9_method_34_code, prog_9_method_35_code, prog_9_method_36_code, prog_9_method_37_code, prog_9_method_38_code, prog_9_method_39_code, prog_9_method_40_code, prog_9_method_41_code, prog_9_method_42_code, prog_9_method_43_code, prog_9_method_44_code, prog_9_method_45_code, prog_9_method_46_code, prog_9_method_47_code, prog_9_method_48_code, prog_9_method_49_code, prog_9_method_50_code, method_3_code, method_4_code, method_5_code, method_6_code, method_7_code, method_8_code, method_9_code, method_10_code, method_11_code, method_12_code, method_13_code, method_14_code, method_15_code, code, prog_13_method_47_code, prog_13_method_50_code]
def kBytes (y : Nat) : ByteArray := kByL.getD y ⟨#[]⟩
def kMlL : List Nat := [1, 2, 4, 3, 3, 6, 9, 1, 1, 1, 5, 2, 1, 1, 3, 2, 1, 2, 1, 1, 2, 3, 4, 3, 2, 6, 3, 3, 5, 3, 1, 2, 3, 1, 2, 2, 5, 3, 6, 1, 4, 3, 2, 3, 3, 1, 2, 3, 3, 3, 2, 3, 4, 5, 3, 5, 5, 1, 5, 4, 5, 4, 4, 4, 5, 1, 5, 3, 2, 3, 2, 2, 2, 3, 3, 2, 5, 5, 5, 6, 1, 1, 1, 2, 3, 2, 2, 3, 1, 3, 1, 2, 1, 1, 1, 3, 2, 2, 3, 3, 2, 3, 3, 3, 6, 8, 9, 2, 1, 3, 4, 2, 2, 3, 1, 6, 5, 3, 2, 8, 2, 1, 3, 2, 3, 2, 6, 4, 3, 4, 4, 4, 5, 6, 3, 5, 5, 5, 10, 8, 4, 2, 1, 4, 4, 4, 4, 6, 7, 2, 3, 3, 6, 4, 3, 4, maxLocals, 3, 3]
def kMaxL (y : Nat) : Nat := kMlL.getD y 0
def kRetL : List (Option FieldType) := [none, some (.int), none, none, some (.int), some (.int), some (.int), none, some (.int), some (.int), some (.int), some (.int), some (.int), some (.int), some (.int), some (.int), some (.int), none, some (.int), none, none, some (.int), none, none, some (.boolean), some (.boolean), some (.boolean), some (.boolean), some (.boolean), some (.int), none, none, some (.object "RelationDesk$Term"), some (.boolean), none, some (.int), some (.int), some (.object "RelationDesk$Term"), some (.object "RelationDesk$Term"), some (.int), none, some (.int), some (.boolean), some (.boolean), none, none, none, some (.int), none, some (.int), some (.int), some (.int), some (.int), some (.int), some (.boolean), some (.int), some (.int), some (.boolean), some (.int), some (.int), some (.int), some (.int), some (.int), some (.int), some (.int), some (.boolean), some (.boolean), some (.int), some (.int), none, none, some (.boolean), some (.boolean), some (.int), none, none, some (.int), some (.int), none, none, none, none, none, some (.object "RelationDesk$Table"), some (.int), some (.boolean), none, none, some (.int), none, none, none, none, none, some (.int), some (.boolean), some (.boolean), some (.boolean), some (.boolean), some (.int), some (.int), none, none, some (.int), some (.int), some (.int), some (.int), none, some (.int), some (.int), some (.int), some (.int), none, some (.int), some (.int), none, none, some (.int), some (.int), none, some (.int), some (.int), none, none, none, some (.boolean), some (.boolean), none, some (.boolean), none, none, some (.boolean), none, some (.boolean), some (.boolean), some (.boolean), none, some (.boolean), some (.boolean), some (.boolean), some (.int), some (.int), some (.int), some (.int), some (.int), some (.int), some (.int), some (.int), some (.int), some (.int), some (.int), some (.int), some (.int), some (.int), some (.int), some (.int), some (.boolean), some (.int), some (.int)]
def kRet (y : Nat) : Option FieldType := kRetL.getD y none
def kRrf (y : Nat) : Bool := match kRet y with | some (.object _) => true | some (.array _) => true | _ => false
def kHhL : List (List (Nat × Nat × Nat × Nat)) := [[], [], [], [], [], [], [], [], [], [], [], [], [], [], [], [], [], [], [], [], [], [], [], [], [], [], [], [], [], [], [], [], [], [], [], [], [], [], [], [], [], [], [], [], [], [], [], [], [], [], [], [], [], [], [], [], [], [], [], [], [], [], [], [], [], [], [], [], [], [], [], [], [], [], [], [], [], [], [], [], [], [], [], [], [], [], [], [], [], [], [], [], [], [], [], [], [], [], [], [], [], [], [], [], [], [], [], [], [], [], [], [], [], [], [], [], [], [], [], [], [], [], [], [], [], [], [], [], [], [], [], [], [], [], [], [], [], [], [], [], [], [], [], [(0, 9, 12, 13), (0, 9, 15, 15)], [(0, 6, 9, 13), (0, 6, 12, 15)], [(0, 6, 9, 13)], [(0, 9, 12, 13), (0, 9, 15, 15)], [(0, 12, 15, 13), (0, 12, 19, 15)], [(0, 14, 17, 13), (0, 14, 21, 15)], [(0, 4, 7, 15)], [(0, 8, 11, 15)], [(0, 8, 11, 15)], [(0, 12, 15, 13)], [(0, 9, 12, 15)], [(0, 8, 11, 13)], [(0, 9, 12, 13), (0, 9, 15, 15)], [], [], []]
def kHh (y : Nat) : List (Nat × Nat × Nat × Nat) := kHhL.getD y []
/-- kind (0 static, 1 by a receiver, 2 constructor), receiver, how many parameters, class file -/
def kMiL : List (Nat × Option Nat × Nat × Nat) := [(2, some 0, 0, 0), (1, some 0, 1, 0), (1, some 0, 2, 0), (1, some 0, 2, 0), (1, some 0, 1, 0), (1, some 0, 3, 0), (1, some 0, 4, 0), (1, some 0, 0, 0), (1, some 0, 0, 0), (1, some 0, 0, 0), (1, some 0, 3, 0), (1, some 0, 1, 0), (1, some 0, 0, 0), (1, some 0, 0, 0), (1, some 0, 1, 0), (1, some 0, 1, 0), (1, some 0, 0, 0), (1, some 0, 1, 0), (0, none, 1, 0), (2, some 1, 0, 1), (1, some 1, 1, 1), (1, some 1, 2, 1), (1, some 1, 3, 1), (1, some 1, 2, 1), (1, some 1, 1, 1), (1, some 1, 3, 1), (0, none, 3, 1), (1, some 1, 1, 1), (1, some 1, 2, 1), (1, some 1, 1, 1), (2, some 2, 0, 2), (1, some 2, 1, 2), (1, some 2, 1, 2), (1, some 2, 0, 2), (1, some 2, 1, 2), (1, some 2, 0, 2), (1, some 2, 2, 2), (1, some 2, 1, 2), (1, some 2, 2, 2), (0, none, 1, 2), (1, some 2, 2, 2), (0, none, 1, 2), (0, none, 2, 2), (0, none, 2, 2), (0, none, 1, 2), (2, some 3, 0, 3), (1, some 3, 1, 3), (1, some 3, 2, 3), (1, some 3, 2, 3), (1, some 3, 2, 3), (1, some 3, 1, 3), (1, some 3, 1, 3), (1, some 3, 3, 3), (1, some 3, 2, 3), (0, none, 3, 3), (1, some 3, 2, 3), (1, some 3, 2, 3), (0, none, 1, 3), (1, some 3, 3, 3), (1, some 3, 2, 3), (1, some 3, 2, 3), (1, some 3, 2, 3), (1, some 3, 2, 3), (1, some 3, 2, 3), (1, some 3, 2, 3), (0, none, 1, 3), (0, none, 1, 3), (0, none, 3, 3), (0, none, 2, 3), (0, none, 3, 3), (2, some 4, 1, 4), (1, some 4, 1, 4), (1, some 4, 1, 4), (1, some 4, 2, 4), (1, some 4, 2, 4), (1, some 4, 1, 4), (1, some 4, 2, 4), (1, some 4, 3, 4), (1, some 4, 2, 4), (1, some 4, 4, 4), (1, some 4, 0, 4), (1, some 4, 0, 4), (2, some 5, 0, 5), (1, some 5, 1, 5), (1, some 5, 1, 5), (1, some 5, 1, 5), (1, some 5, 1, 5), (1, some 5, 0, 5), (1, some 5, 0, 5), (1, some 5, 0, 5), (2, some 6, 0, 6), (1, some 6, 1, 6), (1, some 6, 0, 6), (2, some 7, 0, 7), (1, some 7, 0, 7), (0, none, 3, 7), (1, some 7, 1, 7), (1, some 7, 1, 7), (1, some 7, 2, 7), (0, none, 3, 7), (1, some 7, 1, 7), (1, some 7, 2, 7), (1, some 7, 2, 7), (1, some 7, 1, 7), (1, some 7, 3, 7), (1, some 7, 3, 7), (1, some 7, 4, 7), (1, some 7, 0, 7), (1, some 7, 0, 7), (1, some 7, 0, 7), (1, some 7, 3, 7), (1, some 7, 1, 7), (1, some 7, 1, 7), (1, some 7, 2, 7), (1, some 7, 0, 7), (1, some 7, 0, 7), (1, some 7, 1, 7), (1, some 7, 2, 7), (1, some 7, 1, 7), (1, some 7, 2, 7), (1, some 7, 0, 7), (1, some 7, 0, 7), (1, some 7, 1, 7), (1, some 7, 1, 7), (1, some 7, 2, 7), (1, some 7, 1, 7), (1, some 7, 3, 7), (1, some 7, 1, 7), (1, some 7, 1, 7), (1, some 7, 2, 7), (1, some 7, 2, 7), (1, some 7, 2, 7), (1, some 7, 2, 7), (1, some 7, 2, 7), (1, some 7, 2, 7), (1, some 7, 3, 7), (1, some 7, 3, 7), (1, some 7, 2, 7), (1, some 7, 2, 7), (1, some 7, 2, 7), (1, some 7, 1, 7), (1, some 7, 1, 7), (1, some 7, 0, 7), (0, none, 3, 8), (0, none, 3, 8), (0, none, 3, 8), (0, none, 3, 8), (0, none, 5, 8), (0, none, 6, 8), (0, none, 1, 8), (0, none, 2, 8), (0, none, 2, 8), (0, none, 5, 8), (0, none, 3, 8), (0, none, 2, 8), (0, none, 3, 8), (0, none, 1, 8), (0, none, 2, 9), (0, none, 2, 9)]
def kMi (y : Nat) : Nat × Option Nat × Nat × Nat := kMiL.getD y (9, none, 0, 99)
def kKin (y : Nat) : Nat := (kMi y).1
def kRcv (y : Nat) : Option Nat := (kMi y).2.1
def kArg (y : Nat) : Nat := (kMi y).2.2.1
def kCn (y : Nat) : Nat := (kMi y).2.2.2
def kIni (y : Nat) : Bool := kKin y == 2
def kEntry (y : Nat) (As : List Value) : List (Option Value) := As.map some ++ List.replicate (kMaxL y - As.length) none
def kFldL : List (Nat × Nat × Nat × Nat) := [(0, 10, 0, 0), (0, 16, 0, 1), (0, 23, 0, 2), (0, 30, 0, 3), (0, 34, 0, 4), (0, 37, 0, 5), (0, 41, 0, 6), (0, 52, 5, 1), (0, 55, 5, 2), (0, 80, 4, 1), (0, 90, 4, 4), (0, 150, 2, 1), (0, 166, 6, 9), (0, 171, 2, 2), (0, 185, 3, 1), (0, 188, 6, 10), (1, 9, 1, 0), (1, 15, 1, 1), (1, 18, 1, 2), (1, 22, 1, 3), (2, 9, 2, 0), (2, 17, 2, 4), (2, 21, 2, 2), (2, 25, 2, 1), (2, 28, 2, 3), (2, 31, 2, 5), (2, 66, 6, 0), (2, 73, 6, 7), (2, 77, 6, 8), (2, 84, 6, 9), (2, 91, 5, 1), (2, 98, 6, 6), (2, 102, 6, 1), (2, 105, 6, 3), (2, 108, 6, 4), (2, 111, 6, 5), (2, 114, 6, 2), (2, 120, 4, 0), (2, 137, 4, 1), (3, 9, 3, 1), (3, 19, 3, 0), (3, 31, 6, 7), (3, 35, 6, 8), (3, 38, 6, 0), (3, 45, 6, 6), (3, 76, 6, 12), (3, 83, 6, 1), (3, 86, 6, 4), (3, 99, 6, 10), (3, 111, 6, 3), (3, 121, 6, 9), (3, 124, 6, 5), (3, 127, 6, 13), (3, 138, 6, 2), (3, 141, 6, 14), (3, 148, 6, 11), (3, 161, 6, 15), (3, 167, 1, 3), (4, 9, 4, 0), (4, 15, 4, 1), (4, 19, 4, 2), (4, 23, 4, 3), (4, 26, 4, 4), (4, 46, 4, 5), (5, 11, 5, 0), (5, 17, 5, 1), (5, 24, 5, 2), (5, 28, 5, 3), (6, 9, 6, 5), (6, 15, 6, 10), (6, 21, 6, 11), (6, 25, 6, 0), (6, 29, 6, 1), (6, 32, 6, 2), (6, 35, 6, 3), (6, 38, 6, 4), (6, 41, 6, 6), (6, 45, 6, 7), (6, 49, 6, 8), (6, 52, 6, 9), (6, 55, 6, 12), (6, 58, 6, 13), (6, 62, 6, 14), (6, 65, 6, 15), (7, 7, 7, 2), (7, 13, 7, 3), (7, 17, 7, 4), (7, 20, 7, 5), (7, 23, 7, 6), (7, 26, 7, 9), (7, 29, 7, 10), (7, 32, 7, 12), (7, 35, 7, 13), (7, 38, 7, 14), (7, 42, 7, 17), (7, 45, 7, 18), (7, 48, 7, 19), (7, 51, 7, 20), (7, 54, 7, 21), (7, 57, 7, 26), (7, 61, 7, 27), (7, 64, 7, 28), (7, 67, 7, 29), (7, 70, 7, 30), (7, 73, 7, 32), (7, 76, 7, 33), (7, 79, 7, 34), (7, 82, 7, 38), (7, 85, 7, 39), (7, 88, 7, 0), (7, 91, 7, 1), (7, 102, 7, 7), (7, 106, 7, 15), (7, 117, 7, 8), (7, 130, 7, 11), (7, 133, 7, 23), (7, 136, 7, 22), (7, 149, 7, 16), (7, 169, 7, 24), (7, 172, 7, 31), (7, 178, 7, 35), (7, 181, 7, 36), (7, 187, 7, 37), (7, 194, 7, 25)]
def kFld (cn i : Nat) : Option (Nat × Nat) := (kFldL.find? (fun q => q.1 == cn && q.2.1 == i)).map (fun q => q.2.2)
def kMthL : List (Nat × Nat × Nat) := [(0, 9, 82), (0, 22, 30), (0, 29, 45), (0, 64, 84), (0, 68, 83), (0, 72, 71), (0, 93, 85), (0, 98, 86), (0, 102, 75), (0, 106, 76), (0, 112, 78), (0, 116, 157), (0, 121, 158), (0, 124, 79), (0, 130, 87), (0, 135, 88), (0, 139, 89), (0, 142, 72), (0, 147, 73), (0, 153, 31), (0, 156, 32), (0, 160, 46), (0, 178, 47), (0, 182, 17), (1, 31, 24), (1, 35, 21), (1, 39, 26), (1, 43, 28), (2, 34, 38), (2, 38, 34), (2, 42, 33), (2, 46, 35), (2, 50, 90), (2, 51, 91), (2, 54, 36), (2, 58, 37), (2, 62, 40), (2, 69, 39), (2, 80, 41), (2, 87, 44), (2, 94, 83), (2, 117, 18), (2, 125, 42), (2, 129, 43), (2, 133, 71), (3, 15, 48), (3, 22, 49), (3, 26, 92), (3, 41, 50), (3, 49, 53), (3, 52, 51), (3, 55, 55), (3, 58, 56), (3, 61, 59), (3, 64, 60), (3, 67, 61), (3, 70, 62), (3, 73, 63), (3, 79, 52), (3, 89, 77), (3, 95, 72), (3, 103, 74), (3, 108, 68), (3, 114, 54), (3, 118, 69), (3, 131, 57), (3, 135, 18), (3, 144, 58), (3, 152, 27), (3, 158, 24), (3, 164, 64), (3, 170, 23), (3, 171, 65), (3, 174, 66), (3, 177, 25), (3, 181, 29), (3, 185, 21), (3, 189, 67), (3, 192, 22), (4, 29, 72), (4, 33, 71), (4, 42, 73), (5, 21, 70), (5, 31, 83), (5, 35, 80), (5, 38, 81), (6, 20, 19), (6, 68, 20), (7, 94, 95), (7, 98, 97), (7, 109, 98), (7, 113, 96), (7, 120, 99), (7, 123, 104), (7, 126, 108), (7, 139, 112), (7, 145, 113), (7, 152, 116), (7, 155, 118), (7, 159, 119), (7, 163, 114), (7, 166, 117), (7, 175, 115), (7, 184, 122), (7, 190, 124), (7, 197, 126), (7, 200, 125), (7, 203, 123), (7, 206, 127), (7, 208, 133), (7, 211, 130), (7, 214, 132), (7, 217, 137), (7, 220, 138), (7, 223, 139), (7, 226, 135), (7, 229, 134), (7, 232, 136), (7, 236, 128), (7, 239, 129), (7, 242, 131), (8, 7, 1), (8, 17, 2), (8, 21, 3), (8, 24, 4), (8, 27, 5), (8, 31, 6), (8, 35, 7), (8, 38, 8), (8, 42, 9), (8, 45, 10), (8, 48, 11), (8, 51, 12), (8, 54, 14), (8, 57, 0), (8, 60, 93), (8, 61, 143), (8, 66, 100), (8, 67, 94), (8, 70, 144), (8, 73, 101), (8, 74, 145), (8, 76, 102), (8, 77, 146), (8, 79, 103), (8, 80, 147), (8, 83, 105), (8, 84, 148), (8, 87, 106), (8, 88, 149), (8, 91, 107), (8, 92, 150), (8, 95, 108), (8, 96, 151), (8, 98, 109), (8, 99, 152), (8, 101, 110), (8, 102, 153), (8, 104, 111), (8, 105, 154), (8, 107, 120), (8, 108, 13), (8, 111, 121), (8, 112, 155), (8, 114, 140), (8, 115, 15), (8, 118, 141), (8, 119, 16), (8, 122, 142)]
def kMth (cn i : Nat) : Option (Nat) := (kMthL.find? (fun q => q.1 == cn && q.2.1 == i)).map (fun q => q.2.2)
def kNewL : List (Nat × Nat × Nat) := [(0, 7, 5), (0, 20, 2), (0, 27, 3), (2, 15, 6), (5, 9, 4), (6, 18, 1), (8, 8, 0), (8, 58, 7)]
def kNew (cn i : Nat) : Option (Nat) := (kNewL.find? (fun q => q.1 == cn && q.2.1 == i)).map (fun q => q.2.2)
def kANewL : List (Nat × Nat × Nat) := [(2, 15, 4), (5, 9, 3)]
def kANew (cn i : Nat) : Option (Nat) := (kANewL.find? (fun q => q.1 == cn && q.2.1 == i)).map (fun q => q.2.2)
def kCstL : List (Nat × Nat × Int32) := [(3, 107, 1000000), (7, 60, 108000), (7, 143, (-2147483648)), (7, 144, 2147483647)]
def kCst (cn i : Nat) : Option (Int32) := (kCstL.find? (fun q => q.1 == cn && q.2.1 == i)).map (fun q => q.2.2)
def kNatL : List (Nat × Nat × Nat) := [(0, 191, 0), (1, 25, 0), (3, 196, 1), (3, 201, 2), (3, 204, 0), (4, 36, 0)]
def kNat (cn i : Nat) : Option (Nat) := (kNatL.find? (fun q => q.1 == cn && q.2.1 == i)).map (fun q => q.2.2)
def kOb9L : List (Nat × Nat × Nat) := [(0, 1, 0), (1, 3, 0), (2, 3, 0), (3, 3, 0), (4, 3, 0), (5, 3, 0), (6, 3, 0), (7, 1, 0)]
def kOb9 (cn i : Nat) : Option (Nat) := (kOb9L.find? (fun q => q.1 == cn && q.2.1 == i)).map (fun q => q.2.2)
def kObj (cn i : Nat) : Bool := (kOb9 cn i).isSome
/-- may the method y write the field k of class ci: not final, or its own constructor -/
def kPut (y ci k : Nat) : Bool := match classes[ci]? with | some r => decide (k < r.2.2) && (!(r.2.1 k).2.2.2 || (kIni y && (r.2.1 k).1 == kCls (kCn y))) | none => false
def kThrL : List (Nat × Nat × Nat × Nat × Nat × Nat × String) := [(1, 11, 0, 45, 47, 49, "a table has 1 .. 6 columns"), (1, 43, 1, 59, 61, 63, "there are 6 tables, or a transaction goes on"), (2, 21, 0, 45, 78, 49, "no such table or column"), (2, 50, 1, 59, 84, 63, "there is one, or a transaction goes on"), (3, 10, 0, 45, 86, 49, "the row at hand has cells 0 .. 5"), (4, 13, 0, 45, 88, 49, "no such table"), (4, 43, 1, 59, 96, 63, "there are 40 rows, or the transaction has changed 120"), (5, 24, 0, 45, 78, 49, "no such table or column"), (5, 55, 1, 59, 110, 63, "the transaction would have changed more than 120"), (6, 51, 0, 45, 78, 49, "no such table or column"), (6, 83, 1, 59, 110, 63, "the transaction would have changed more than 120"), (7, 10, 1, 59, 128, 63, "a transaction goes on"), (8, 10, 1, 59, 133, 63, "there is no transaction"), (9, 10, 1, 59, 133, 63, "there is no transaction"), (10, 15, 0, 45, 88, 49, "no such table"), (10, 54, 0, 45, 145, 49, "no such row or column"), (11, 12, 1, 59, 151, 63, "there are 60 words"), (12, 38, 0, 45, 164, 49, "the query is wrong"), (14, 12, 0, 45, 174, 49, "fuel is 1 .. 500"), (14, 29, 1, 59, 176, 63, "no query is prepared")]
def kThr (y pc : Nat) : Option Nat := (kThrL.find? (fun q => q.1 == y && q.2.1 == pc)).map (fun q => q.2.2.1)
def kExn (i : Nat) : String := ["java/lang/IllegalArgumentException", "java/lang/IllegalStateException"].getD i ""
def kHanL : List (Nat × Nat × Nat × Nat × Nat) := [(143, 4, 0, 12, 0), (143, 4, 1, 15, 1), (144, 3, 0, 9, 0), (144, 3, 1, 12, 1), (145, 3, 0, 9, 0), (146, 4, 0, 12, 0), (146, 4, 1, 15, 1), (147, 7, 0, 15, 0), (147, 7, 1, 19, 1), (148, 9, 0, 17, 0), (148, 9, 1, 21, 1), (149, 1, 1, 7, 0), (150, 3, 1, 11, 0), (151, 3, 1, 11, 0), (152, 7, 0, 15, 0), (153, 4, 1, 12, 0), (154, 3, 0, 11, 0), (155, 4, 0, 12, 0), (155, 4, 1, 15, 1)]
def kHan (y pc E : Nat) : Option Nat := (kHanL.find? (fun q => q.1 == y && q.2.1 == pc && q.2.2.1 == E)).map (fun q => q.2.2.2.1)
end
section
def kCode_0 : List (Nat × Instr × Nat) := [(0, .aload_n 0, 1), (1, .invokespecial 1, 3), (4, .aload_n 0, 1), (5, .new 7, 3), (8, .dup, 1), (9, .invokespecial 9, 3), (12, .putfield 10, 3), (15, .aload_n 0, 1), (16, .bipush 6, 2), (18, .newarray .int, 2), (20, .putfield 16, 3), (23, .aload_n 0, 1), (24, .new 20, 3), (27, .dup, 1), (28, .invokespecial 22, 3), (31, .putfield 23, 3), (34, .aload_n 0, 1), (35, .new 27, 3), (38, .dup, 1), (39, .invokespecial 29, 3), (42, .putfield 30, 3), (45, .aload_n 0, 1), (46, .bipush 12, 2), (48, .newarray .int, 2), (50, .putfield 34, 3), (53, .aload_n 0, 1), (54, .iconst 0, 1), (55, .putfield 37, 3), (58, .aload_n 0, 1), (59, .aconst_null, 1), (60, .putfield 41, 3), (63, .return_, 1)]
def kCode_1 : List (Nat × Instr × Nat) := [(0, .iload_n 1, 1), (1, .iconst 1, 1), (2, .if_icmp .lt 9, 3), (5, .iload_n 1, 1), (6, .bipush 6, 2), (8, .if_icmp .le 13, 3), (11, .new 45, 3), (14, .dup, 1), (15, .ldc 47, 2), (17, .invokespecial 49, 3), (20, .athrow, 1), (21, .aload_n 0, 1), (22, .getfield 10, 3), (25, .getfield 52, 3), (28, .bipush 6, 2), (30, .if_icmp .ge 13, 3), (33, .aload_n 0, 1), (34, .getfield 10, 3), (37, .getfield 55, 3), (40, .ifCond .eq 13, 3), (43, .new 59, 3), (46, .dup, 1), (47, .ldc 61, 2), (49, .invokespecial 63, 3), (52, .athrow, 1), (53, .aload_n 0, 1), (54, .aconst_null, 1), (55, .putfield 41, 3), (58, .aload_n 0, 1), (59, .getfield 10, 3), (62, .iload_n 1, 1), (63, .invokevirtual 64, 3), (66, .ireturn, 1)]
def kCode_2 : List (Nat × Instr × Nat) := [(0, .aload_n 0, 1), (1, .getfield 10, 3), (4, .iload_n 1, 1), (5, .invokevirtual 68, 3), (8, .astore_n 3, 1), (9, .aload_n 3, 1), (10, .ifnull 11, 3), (13, .aload_n 3, 1), (14, .iload_n 2, 1), (15, .invokevirtual 72, 3), (18, .ifCond .ne 13, 3), (21, .new 45, 3), (24, .dup, 1), (25, .ldc 78, 2), (27, .invokespecial 49, 3), (30, .athrow, 1), (31, .aload_n 3, 1), (32, .getfield 80, 3), (35, .iload_n 2, 1), (36, .baload, 1), (37, .ifCond .ne 13, 3), (40, .aload_n 0, 1), (41, .getfield 10, 3), (44, .getfield 55, 3), (47, .ifCond .eq 13, 3), (50, .new 59, 3), (53, .dup, 1), (54, .ldc 84, 2), (56, .invokespecial 63, 3), (59, .athrow, 1), (60, .aload_n 0, 1), (61, .aconst_null, 1), (62, .putfield 41, 3), (65, .aload_n 3, 1), (66, .getfield 80, 3), (69, .iload_n 2, 1), (70, .iconst 1, 1), (71, .bastore, 1), (72, .return_, 1)]
def kCode_3 : List (Nat × Instr × Nat) := [(0, .iload_n 1, 1), (1, .ifCond .lt 9, 3), (4, .iload_n 1, 1), (5, .bipush 6, 2), (7, .if_icmp .lt 13, 3), (10, .new 45, 3), (13, .dup, 1), (14, .ldc 86, 2), (16, .invokespecial 49, 3), (19, .athrow, 1), (20, .aload_n 0, 1), (21, .getfield 16, 3), (24, .iload_n 1, 1), (25, .iload_n 2, 1), (26, .iastore, 1), (27, .return_, 1)]
def kCode_4 : List (Nat × Instr × Nat) := [(0, .aload_n 0, 1), (1, .getfield 10, 3), (4, .iload_n 1, 1), (5, .invokevirtual 68, 3), (8, .astore_n 2, 1), (9, .aload_n 2, 1), (10, .ifnonnull 13, 3), (13, .new 45, 3), (16, .dup, 1), (17, .ldc 88, 2), (19, .invokespecial 49, 3), (22, .athrow, 1), (23, .aload_n 2, 1), (24, .getfield 90, 3), (27, .bipush 40, 2), (29, .if_icmp .ge 14, 3), (32, .aload_n 0, 1), (33, .getfield 10, 3), (36, .iconst 1, 1), (37, .invokevirtual 93, 3), (40, .ifCond .ne 13, 3), (43, .new 59, 3), (46, .dup, 1), (47, .ldc 96, 2), (49, .invokespecial 63, 3), (52, .athrow, 1), (53, .aload_n 0, 1), (54, .aconst_null, 1), (55, .putfield 41, 3), (58, .aload_n 0, 1), (59, .getfield 10, 3), (62, .iconst 1, 1), (63, .invokevirtual 98, 3), (66, .aload_n 2, 1), (67, .aload_n 0, 1), (68, .getfield 16, 3), (71, .invokevirtual 102, 3), (74, .aload_n 2, 1), (75, .getfield 90, 3), (78, .ireturn, 1)]
def kCode_5 : List (Nat × Instr × Nat) := [(0, .aload_n 0, 1), (1, .getfield 10, 3), (4, .iload_n 1, 1), (5, .invokevirtual 68, 3), (8, .astore 4, 2), (10, .aload 4, 2), (12, .ifnull 12, 3), (15, .aload 4, 2), (17, .iload_n 2, 1), (18, .invokevirtual 72, 3), (21, .ifCond .ne 13, 3), (24, .new 45, 3), (27, .dup, 1), (28, .ldc 78, 2), (30, .invokespecial 49, 3), (33, .athrow, 1), (34, .aload 4, 2), (36, .iload_n 2, 1), (37, .iload_n 3, 1), (38, .invokevirtual 106, 3), (41, .istore 5, 2), (43, .aload_n 0, 1), (44, .getfield 10, 3), (47, .iload 5, 2), (49, .invokevirtual 93, 3), (52, .ifCond .ne 13, 3), (55, .new 59, 3), (58, .dup, 1), (59, .ldc 110, 2), (61, .invokespecial 63, 3), (64, .athrow, 1), (65, .aload_n 0, 1), (66, .aconst_null, 1), (67, .putfield 41, 3), (70, .aload_n 0, 1), (71, .getfield 10, 3), (74, .iload 5, 2), (76, .invokevirtual 98, 3), (79, .aload 4, 2), (81, .iload_n 2, 1), (82, .iload_n 3, 1), (83, .invokevirtual 112, 3), (86, .iload 5, 2), (88, .ireturn, 1)]
def kCode_6 : List (Nat × Instr × Nat) := [(0, .aload_n 0, 1), (1, .getfield 10, 3), (4, .iload_n 1, 1), (5, .invokevirtual 68, 3), (8, .astore 5, 2), (10, .iload_n 2, 1), (11, .bipush 8, 2), (13, .invokestatic 116, 3), (16, .istore 6, 2), (18, .iload_n 2, 1), (19, .bipush 8, 2), (21, .invokestatic 121, 3), (24, .istore 7, 2), (26, .aload 5, 2), (28, .ifnull 23, 3), (31, .aload 5, 2), (33, .iload 6, 2), (35, .invokevirtual 72, 3), (38, .ifCond .eq 13, 3), (41, .aload 5, 2), (43, .iload 7, 2), (45, .invokevirtual 72, 3), (48, .ifCond .ne 13, 3), (51, .new 45, 3), (54, .dup, 1), (55, .ldc 78, 2), (57, .invokespecial 49, 3), (60, .athrow, 1), (61, .aload 5, 2), (63, .iload 6, 2), (65, .iload_n 3, 1), (66, .invokevirtual 106, 3), (69, .istore 8, 2), (71, .aload_n 0, 1), (72, .getfield 10, 3), (75, .iload 8, 2), (77, .invokevirtual 93, 3), (80, .ifCond .ne 13, 3), (83, .new 59, 3), (86, .dup, 1), (87, .ldc 110, 2), (89, .invokespecial 63, 3), (92, .athrow, 1), (93, .aload_n 0, 1), (94, .aconst_null, 1), (95, .putfield 41, 3), (98, .aload_n 0, 1), (99, .getfield 10, 3), (102, .iload 8, 2), (104, .invokevirtual 98, 3), (107, .aload 5, 2), (109, .iload 6, 2), (111, .iload_n 3, 1), (112, .iload 7, 2), (114, .iload 4, 2), (116, .invokevirtual 124, 3), (119, .iload 8, 2), (121, .ireturn, 1)]
def kCode_7 : List (Nat × Instr × Nat) := [(0, .aload_n 0, 1), (1, .getfield 10, 3), (4, .getfield 55, 3), (7, .ifCond .eq 13, 3), (10, .new 59, 3), (13, .dup, 1), (14, .ldc 128, 2), (16, .invokespecial 63, 3), (19, .athrow, 1), (20, .aload_n 0, 1), (21, .aconst_null, 1), (22, .putfield 41, 3), (25, .aload_n 0, 1), (26, .getfield 10, 3), (29, .invokevirtual 130, 3), (32, .return_, 1)]
def kCode_8 : List (Nat × Instr × Nat) := [(0, .aload_n 0, 1), (1, .getfield 10, 3), (4, .getfield 55, 3), (7, .ifCond .ne 13, 3), (10, .new 59, 3), (13, .dup, 1), (14, .ldc 133, 2), (16, .invokespecial 63, 3), (19, .athrow, 1), (20, .aload_n 0, 1), (21, .aconst_null, 1), (22, .putfield 41, 3), (25, .aload_n 0, 1), (26, .getfield 10, 3), (29, .invokevirtual 135, 3), (32, .ireturn, 1)]
def kCode_9 : List (Nat × Instr × Nat) := [(0, .aload_n 0, 1), (1, .getfield 10, 3), (4, .getfield 55, 3), (7, .ifCond .ne 13, 3), (10, .new 59, 3), (13, .dup, 1), (14, .ldc 133, 2), (16, .invokespecial 63, 3), (19, .athrow, 1), (20, .aload_n 0, 1), (21, .aconst_null, 1), (22, .putfield 41, 3), (25, .aload_n 0, 1), (26, .getfield 10, 3), (29, .invokevirtual 139, 3), (32, .aload_n 0, 1), (33, .getfield 10, 3), (36, .invokevirtual 135, 3), (39, .ireturn, 1)]
def kCode_10 : List (Nat × Instr × Nat) := [(0, .aload_n 0, 1), (1, .getfield 10, 3), (4, .iload_n 1, 1), (5, .invokevirtual 68, 3), (8, .astore 4, 2), (10, .aload 4, 2), (12, .ifnonnull 13, 3), (15, .new 45, 3), (18, .dup, 1), (19, .ldc 88, 2), (21, .invokespecial 49, 3), (24, .athrow, 1), (25, .iload_n 2, 1), (26, .iconst (-1), 1), (27, .if_icmp .ne 9, 3), (30, .aload 4, 2), (32, .getfield 90, 3), (35, .ireturn, 1), (36, .aload 4, 2), (38, .iload_n 2, 1), (39, .invokevirtual 142, 3), (42, .ifCond .eq 12, 3), (45, .aload 4, 2), (47, .iload_n 3, 1), (48, .invokevirtual 72, 3), (51, .ifCond .ne 13, 3), (54, .new 45, 3), (57, .dup, 1), (58, .ldc 145, 2), (60, .invokespecial 49, 3), (63, .athrow, 1), (64, .aload 4, 2), (66, .iload_n 2, 1), (67, .iload_n 3, 1), (68, .invokevirtual 147, 3), (71, .ireturn, 1)]
def kCode_11 : List (Nat × Instr × Nat) := [(0, .aload_n 0, 1), (1, .getfield 23, 3), (4, .getfield 150, 3), (7, .bipush 60, 2), (9, .if_icmp .lt 13, 3), (12, .new 59, 3), (15, .dup, 1), (16, .ldc 151, 2), (18, .invokespecial 63, 3), (21, .athrow, 1), (22, .aload_n 0, 1), (23, .getfield 23, 3), (26, .iload_n 1, 1), (27, .invokevirtual 153, 3), (30, .aload_n 0, 1), (31, .getfield 23, 3), (34, .getfield 150, 3), (37, .ireturn, 1)]
def kCode_12 : List (Nat × Instr × Nat) := [(0, .aload_n 0, 1), (1, .iconst 0, 1), (2, .putfield 37, 3), (5, .aload_n 0, 1), (6, .aload_n 0, 1), (7, .getfield 23, 3), (10, .aload_n 0, 1), (11, .getfield 10, 3), (14, .invokevirtual 156, 3), (17, .putfield 41, 3), (20, .aload_n 0, 1), (21, .getfield 30, 3), (24, .aload_n 0, 1), (25, .getfield 41, 3), (28, .invokevirtual 160, 3), (31, .aload_n 0, 1), (32, .getfield 41, 3), (35, .ifnonnull 13, 3), (38, .new 45, 3), (41, .dup, 1), (42, .ldc 164, 2), (44, .invokespecial 49, 3), (47, .athrow, 1), (48, .aload_n 0, 1), (49, .getfield 41, 3), (52, .getfield 166, 3), (55, .ireturn, 1)]
def kCode_13 : List (Nat × Instr × Nat) := [(0, .aload_n 0, 1), (1, .getfield 23, 3), (4, .getfield 171, 3), (7, .ireturn, 1)]
def kCode_14 : List (Nat × Instr × Nat) := [(0, .iload_n 1, 1), (1, .iconst 1, 1), (2, .if_icmp .lt 10, 3), (5, .iload_n 1, 1), (6, .sipush 500, 3), (9, .if_icmp .le 13, 3), (12, .new 45, 3), (15, .dup, 1), (16, .ldc 174, 2), (18, .invokespecial 49, 3), (21, .athrow, 1), (22, .aload_n 0, 1), (23, .getfield 41, 3), (26, .ifnonnull 13, 3), (29, .new 59, 3), (32, .dup, 1), (33, .ldc 176, 2), (35, .invokespecial 63, 3), (38, .athrow, 1), (39, .aload_n 0, 1), (40, .getfield 30, 3), (43, .aload_n 0, 1), (44, .getfield 41, 3), (47, .iload_n 1, 1), (48, .invokevirtual 178, 3), (51, .istore_n 2, 1), (52, .iload_n 2, 1), (53, .iconst 1, 1), (54, .if_icmp .ne 11, 3), (57, .aload_n 0, 1), (58, .aload_n 0, 1), (59, .getfield 41, 3), (62, .invokevirtual 182, 3), (65, .iload_n 2, 1), (66, .ifCond .eq 8, 3), (69, .iload_n 2, 1), (70, .iconst 3, 1), (71, .if_icmp .ne 8, 3), (74, .aload_n 0, 1), (75, .aconst_null, 1), (76, .putfield 41, 3), (79, .iload_n 2, 1), (80, .ireturn, 1)]
def kCode_15 : List (Nat × Instr × Nat) := [(0, .iload_n 1, 1), (1, .ifCond .lt 20, 3), (4, .iload_n 1, 1), (5, .aload_n 0, 1), (6, .getfield 37, 3), (9, .if_icmp .ge 12, 3), (12, .aload_n 0, 1), (13, .getfield 34, 3), (16, .iload_n 1, 1), (17, .iaload, 1), (18, .goto 4, 3), (21, .iconst 0, 1), (22, .ireturn, 1)]
def kCode_16 : List (Nat × Instr × Nat) := [(0, .aload_n 0, 1), (1, .getfield 30, 3), (4, .getfield 185, 3), (7, .ireturn, 1)]
def kCode_17 : List (Nat × Instr × Nat) := [(0, .aload_n 0, 1), (1, .aload_n 1, 1), (2, .getfield 166, 3), (5, .putfield 37, 3), (8, .aload_n 1, 1), (9, .getfield 188, 3), (12, .iconst 0, 1), (13, .aload_n 0, 1), (14, .getfield 34, 3), (17, .iconst 0, 1), (18, .aload_n 0, 1), (19, .getfield 37, 3), (22, .invokestatic 191, 3), (25, .return_, 1)]
def kCode_18 : List (Nat × Instr × Nat) := [(0, .aload_n 0, 1), (1, .ifnonnull 7, 3), (4, .iconst 0, 1), (5, .goto 7, 3), (8, .aload_n 0, 1), (9, .getfield 166, 3), (12, .ireturn, 1)]
def kCode_19 : List (Nat × Instr × Nat) := [(0, .aload_n 0, 1), (1, .invokespecial 3, 3), (4, .aload_n 0, 1), (5, .sipush 1800, 3), (8, .newarray .int, 2), (10, .putfield 9, 3), (13, .aload_n 0, 1), (14, .sipush 150, 3), (17, .newarray .int, 2), (19, .putfield 15, 3), (22, .return_, 1)]
def kCode_20 : List (Nat × Instr × Nat) := [(0, .aload_n 0, 1), (1, .iload_n 1, 1), (2, .putfield 18, 3), (5, .aload_n 0, 1), (6, .iconst 0, 1), (7, .putfield 22, 3), (10, .return_, 1)]
def kCode_21 : List (Nat × Instr × Nat) := [(0, .iload_n 1, 1), (1, .ifCond .lt 42, 3), (4, .iload_n 1, 1), (5, .aload_n 0, 1), (6, .getfield 22, 3), (9, .if_icmp .ge 34, 3), (12, .iload_n 2, 1), (13, .ifCond .lt 30, 3), (16, .iload_n 2, 1), (17, .aload_n 0, 1), (18, .getfield 18, 3), (21, .if_icmp .ge 22, 3), (24, .aload_n 0, 1), (25, .getfield 9, 3), (28, .aload_n 0, 1), (29, .getfield 15, 3), (32, .iload_n 1, 1), (33, .iaload, 1), (34, .bipush 12, 2), (36, .imul, 1), (37, .iload_n 2, 1), (38, .iadd, 1), (39, .iaload, 1), (40, .goto 4, 3), (43, .iconst 0, 1), (44, .ireturn, 1)]
def kCode_22 : List (Nat × Instr × Nat) := [(0, .iload_n 1, 1), (1, .ifCond .lt 40, 3), (4, .iload_n 1, 1), (5, .aload_n 0, 1), (6, .getfield 22, 3), (9, .if_icmp .ge 32, 3), (12, .iload_n 2, 1), (13, .ifCond .lt 28, 3), (16, .iload_n 2, 1), (17, .aload_n 0, 1), (18, .getfield 18, 3), (21, .if_icmp .ge 20, 3), (24, .aload_n 0, 1), (25, .getfield 9, 3), (28, .aload_n 0, 1), (29, .getfield 15, 3), (32, .iload_n 1, 1), (33, .iaload, 1), (34, .bipush 12, 2), (36, .imul, 1), (37, .iload_n 2, 1), (38, .iadd, 1), (39, .iload_n 3, 1), (40, .iastore, 1), (41, .return_, 1)]
def kCode_23 : List (Nat × Instr × Nat) := [(0, .iload_n 1, 1), (1, .ifCond .lt 42, 3), (4, .iload_n 1, 1), (5, .aload_n 0, 1), (6, .getfield 22, 3), (9, .if_icmp .ge 34, 3), (12, .aload_n 2, 1), (13, .arraylength, 1), (14, .aload_n 0, 1), (15, .getfield 18, 3), (18, .if_icmp .lt 25, 3), (21, .aload_n 0, 1), (22, .getfield 9, 3), (25, .aload_n 0, 1), (26, .getfield 15, 3), (29, .iload_n 1, 1), (30, .iaload, 1), (31, .bipush 12, 2), (33, .imul, 1), (34, .aload_n 2, 1), (35, .iconst 0, 1), (36, .aload_n 0, 1), (37, .getfield 18, 3), (40, .invokestatic 25, 3), (43, .return_, 1)]
def kCode_24 : List (Nat × Instr × Nat) := [(0, .aload_n 0, 1), (1, .getfield 22, 3), (4, .sipush 150, 3), (7, .if_icmp .ge 12, 3), (10, .aload_n 1, 1), (11, .arraylength, 1), (12, .aload_n 0, 1), (13, .getfield 18, 3), (16, .if_icmp .ge 5, 3), (19, .iconst 0, 1), (20, .ireturn, 1), (21, .aload_n 1, 1), (22, .iconst 0, 1), (23, .aload_n 0, 1), (24, .getfield 9, 3), (27, .aload_n 0, 1), (28, .getfield 22, 3), (31, .bipush 12, 2), (33, .imul, 1), (34, .aload_n 0, 1), (35, .getfield 18, 3), (38, .invokestatic 25, 3), (41, .aload_n 0, 1), (42, .getfield 15, 3), (45, .aload_n 0, 1), (46, .getfield 22, 3), (49, .aload_n 0, 1), (50, .getfield 22, 3), (53, .iastore, 1), (54, .aload_n 0, 1), (55, .dup, 1), (56, .getfield 22, 3), (59, .iconst 1, 1), (60, .iadd, 1), (61, .putfield 22, 3), (64, .iconst 1, 1), (65, .ireturn, 1)]
def kCode_25 : List (Nat × Instr × Nat) := [(0, .aload_n 0, 1), (1, .aload_n 1, 1), (2, .invokevirtual 31, 3), (5, .ifCond .ne 5, 3), (8, .iconst 0, 1), (9, .ireturn, 1), (10, .aload_n 0, 1), (11, .getfield 22, 3), (14, .iconst 1, 1), (15, .isub, 1), (16, .istore 4, 2), (18, .iload 4, 2), (20, .ifCond .le 68, 3), (23, .aload_n 0, 1), (24, .iload 4, 2), (26, .iconst 1, 1), (27, .isub, 1), (28, .iload_n 2, 1), (29, .invokevirtual 35, 3), (32, .aload_n 0, 1), (33, .iload 4, 2), (35, .iload_n 2, 1), (36, .invokevirtual 35, 3), (39, .iload_n 3, 1), (40, .invokestatic 39, 3), (43, .ifCond .eq 45, 3), (46, .aload_n 0, 1), (47, .getfield 15, 3), (50, .iload 4, 2), (52, .iaload, 1), (53, .istore 5, 2), (55, .aload_n 0, 1), (56, .getfield 15, 3), (59, .iload 4, 2), (61, .aload_n 0, 1), (62, .getfield 15, 3), (65, .iload 4, 2), (67, .iconst 1, 1), (68, .isub, 1), (69, .iaload, 1), (70, .iastore, 1), (71, .aload_n 0, 1), (72, .getfield 15, 3), (75, .iload 4, 2), (77, .iconst 1, 1), (78, .isub, 1), (79, .iload 5, 2), (81, .iastore, 1), (82, .iinc 4 (-1), 3), (85, .goto (-67), 3), (88, .iconst 1, 1), (89, .ireturn, 1)]
def kCode_26 : List (Nat × Instr × Nat) := [(0, .iload_n 2, 1), (1, .iconst 1, 1), (2, .if_icmp .ne 16, 3), (5, .iload_n 0, 1), (6, .iload_n 1, 1), (7, .if_icmp .ge 7, 3), (10, .iconst 1, 1), (11, .goto 17, 3), (14, .iconst 0, 1), (15, .goto 13, 3), (18, .iload_n 0, 1), (19, .iload_n 1, 1), (20, .if_icmp .le 7, 3), (23, .iconst 1, 1), (24, .goto 4, 3), (27, .iconst 0, 1), (28, .ireturn, 1)]
def kCode_27 : List (Nat × Instr × Nat) := [(0, .iconst 0, 1), (1, .istore_n 2, 1), (2, .iload_n 2, 1), (3, .aload_n 0, 1), (4, .getfield 22, 3), (7, .if_icmp .ge 20, 3), (10, .aload_n 0, 1), (11, .iload_n 2, 1), (12, .aload_n 1, 1), (13, .invokevirtual 43, 3), (16, .ifCond .eq 5, 3), (19, .iconst 1, 1), (20, .ireturn, 1), (21, .iinc 2 1, 3), (24, .goto (-22), 3), (27, .iconst 0, 1), (28, .ireturn, 1)]
def kCode_28 : List (Nat × Instr × Nat) := [(0, .iload_n 1, 1), (1, .ifCond .lt 20, 3), (4, .iload_n 1, 1), (5, .aload_n 0, 1), (6, .getfield 22, 3), (9, .if_icmp .ge 12, 3), (12, .aload_n 2, 1), (13, .arraylength, 1), (14, .aload_n 0, 1), (15, .getfield 18, 3), (18, .if_icmp .ge 5, 3), (21, .iconst 0, 1), (22, .ireturn, 1), (23, .aload_n 0, 1), (24, .getfield 15, 3), (27, .iload_n 1, 1), (28, .iaload, 1), (29, .bipush 12, 2), (31, .imul, 1), (32, .istore_n 3, 1), (33, .iconst 0, 1), (34, .istore 4, 2), (36, .iload 4, 2), (38, .aload_n 0, 1), (39, .getfield 18, 3), (42, .if_icmp .ge 27, 3), (45, .aload_n 0, 1), (46, .getfield 9, 3), (49, .iload_n 3, 1), (50, .iload 4, 2), (52, .iadd, 1), (53, .iaload, 1), (54, .aload_n 2, 1), (55, .iload 4, 2), (57, .iaload, 1), (58, .if_icmp .eq 5, 3), (61, .iconst 0, 1), (62, .ireturn, 1), (63, .iinc 4 1, 3), (66, .goto (-30), 3), (69, .iconst 1, 1), (70, .ireturn, 1)]
def kCode_29 : List (Nat × Instr × Nat) := [(0, .iconst 0, 1), (1, .istore_n 2, 1), (2, .iload_n 2, 1), (3, .aload_n 0, 1), (4, .getfield 22, 3), (7, .if_icmp .ge 29, 3), (10, .aload_n 0, 1), (11, .getfield 9, 3), (14, .aload_n 0, 1), (15, .getfield 15, 3), (18, .iload_n 2, 1), (19, .iaload, 1), (20, .bipush 12, 2), (22, .imul, 1), (23, .iaload, 1), (24, .iload_n 1, 1), (25, .if_icmp .ne 5, 3), (28, .iload_n 2, 1), (29, .ireturn, 1), (30, .iinc 2 1, 3), (33, .goto (-31), 3), (36, .aload_n 0, 1), (37, .getfield 22, 3), (40, .ireturn, 1)]
def kCode_30 : List (Nat × Instr × Nat) := [(0, .aload_n 0, 1), (1, .invokespecial 3, 3), (4, .aload_n 0, 1), (5, .bipush 60, 2), (7, .newarray .int, 2), (9, .putfield 9, 3), (12, .aload_n 0, 1), (13, .bipush 60, 2), (15, .anewarray 15, 3), (18, .putfield 17, 3), (21, .aload_n 0, 1), (22, .iconst (-1), 1), (23, .putfield 21, 3), (26, .return_, 1)]
def kCode_31 : List (Nat × Instr × Nat) := [(0, .aload_n 0, 1), (1, .getfield 25, 3), (4, .bipush 60, 2), (6, .if_icmp .ge 23, 3), (9, .aload_n 0, 1), (10, .getfield 9, 3), (13, .aload_n 0, 1), (14, .getfield 25, 3), (17, .iload_n 1, 1), (18, .iastore, 1), (19, .aload_n 0, 1), (20, .dup, 1), (21, .getfield 25, 3), (24, .iconst 1, 1), (25, .iadd, 1), (26, .putfield 25, 3), (29, .return_, 1)]
def kCode_32 : List (Nat × Instr × Nat) := [(0, .aload_n 0, 1), (1, .iconst 0, 1), (2, .putfield 28, 3), (5, .aload_n 0, 1), (6, .iconst 0, 1), (7, .putfield 31, 3), (10, .aload_n 0, 1), (11, .iconst (-1), 1), (12, .putfield 21, 3), (15, .aload_n 0, 1), (16, .aload_n 1, 1), (17, .iconst 0, 1), (18, .invokevirtual 34, 3), (21, .astore_n 2, 1), (22, .aload_n 0, 1), (23, .getfield 28, 3), (26, .aload_n 0, 1), (27, .getfield 25, 3), (30, .if_icmp .ge 11, 3), (33, .aload_n 0, 1), (34, .aload_n 0, 1), (35, .getfield 28, 3), (38, .invokevirtual 38, 3), (41, .aload_n 0, 1), (42, .iconst 0, 1), (43, .putfield 25, 3), (46, .aload_n 0, 1), (47, .invokevirtual 42, 3), (50, .ifCond .eq 7, 3), (53, .aconst_null, 1), (54, .goto 4, 3), (57, .aload_n 2, 1), (58, .areturn, 1)]
def kCode_33 : List (Nat × Instr × Nat) := [(0, .aload_n 0, 1), (1, .getfield 21, 3), (4, .iconst (-1), 1), (5, .if_icmp .eq 7, 3), (8, .iconst 1, 1), (9, .goto 4, 3), (12, .iconst 0, 1), (13, .ireturn, 1)]
def kCode_34 : List (Nat × Instr × Nat) := [(0, .aload_n 0, 1), (1, .getfield 21, 3), (4, .iconst (-1), 1), (5, .if_icmp .ne 8, 3), (8, .aload_n 0, 1), (9, .iload_n 1, 1), (10, .putfield 21, 3), (13, .return_, 1)]
def kCode_35 : List (Nat × Instr × Nat) := [(0, .aload_n 0, 1), (1, .invokevirtual 42, 3), (4, .ifCond .eq 5, 3), (7, .iconst 0, 1), (8, .ireturn, 1), (9, .aload_n 0, 1), (10, .getfield 28, 3), (13, .aload_n 0, 1), (14, .getfield 25, 3), (17, .if_icmp .ge 12, 3), (20, .aload_n 0, 1), (21, .getfield 28, 3), (24, .bipush 60, 2), (26, .if_icmp .lt 13, 3), (29, .aload_n 0, 1), (30, .aload_n 0, 1), (31, .getfield 25, 3), (34, .invokevirtual 38, 3), (37, .iconst 0, 1), (38, .ireturn, 1), (39, .aload_n 0, 1), (40, .getfield 9, 3), (43, .aload_n 0, 1), (44, .getfield 28, 3), (47, .iaload, 1), (48, .istore_n 1, 1), (49, .aload_n 0, 1), (50, .dup, 1), (51, .getfield 28, 3), (54, .iconst 1, 1), (55, .iadd, 1), (56, .putfield 28, 3), (59, .iload_n 1, 1), (60, .ireturn, 1)]
def kCode_36 : List (Nat × Instr × Nat) := [(0, .aload_n 0, 1), (1, .getfield 28, 3), (4, .istore_n 3, 1), (5, .aload_n 0, 1), (6, .invokevirtual 46, 3), (9, .istore 4, 2), (11, .iload 4, 2), (13, .iload_n 1, 1), (14, .if_icmp .lt 9, 3), (17, .iload 4, 2), (19, .iload_n 2, 1), (20, .if_icmp .le 10, 3), (23, .aload_n 0, 1), (24, .iload_n 3, 1), (25, .invokevirtual 38, 3), (28, .iload_n 1, 1), (29, .ireturn, 1), (30, .iload 4, 2), (32, .ireturn, 1)]
def kCode_37 : List (Nat × Instr × Nat) := [(0, .aload_n 0, 1), (1, .invokevirtual 42, 3), (4, .ifCond .ne 12, 3), (7, .aload_n 0, 1), (8, .getfield 31, 3), (11, .bipush 60, 2), (13, .if_icmp .lt 5, 3), (16, .aconst_null, 1), (17, .areturn, 1), (18, .aload_n 0, 1), (19, .getfield 17, 3), (22, .aload_n 0, 1), (23, .getfield 31, 3), (26, .aaload, 1), (27, .ifnonnull 19, 3), (30, .aload_n 0, 1), (31, .getfield 17, 3), (34, .aload_n 0, 1), (35, .getfield 31, 3), (38, .new 15, 3), (41, .dup, 1), (42, .invokespecial 50, 3), (45, .aastore, 1), (46, .aload_n 0, 1), (47, .getfield 17, 3), (50, .aload_n 0, 1), (51, .getfield 31, 3), (54, .aaload, 1), (55, .astore_n 2, 1), (56, .aload_n 0, 1), (57, .dup, 1), (58, .getfield 31, 3), (61, .iconst 1, 1), (62, .iadd, 1), (63, .putfield 31, 3), (66, .aload_n 2, 1), (67, .iload_n 1, 1), (68, .invokevirtual 51, 3), (71, .aload_n 2, 1), (72, .areturn, 1)]
def kCode_38 : List (Nat × Instr × Nat) := [(0, .aload_n 0, 1), (1, .getfield 28, 3), (4, .istore_n 3, 1), (5, .iload_n 2, 1), (6, .bipush 10, 2), (8, .if_icmp .lt 10, 3), (11, .aload_n 0, 1), (12, .iload_n 3, 1), (13, .invokevirtual 38, 3), (16, .aconst_null, 1), (17, .areturn, 1), (18, .aload_n 0, 1), (19, .aload_n 0, 1), (20, .iconst 0, 1), (21, .bipush 10, 2), (23, .invokevirtual 54, 3), (26, .invokevirtual 58, 3), (29, .astore 4, 2), (31, .aload 4, 2), (33, .ifnonnull 5, 3), (36, .aconst_null, 1), (37, .areturn, 1), (38, .aload_n 0, 1), (39, .aload 4, 2), (41, .aload_n 1, 1), (42, .invokevirtual 62, 3), (45, .aload 4, 2), (47, .getfield 66, 3), (50, .invokestatic 69, 3), (53, .istore 5, 2), (55, .iload 5, 2), (57, .iconst 1, 1), (58, .if_icmp .lt 23, 3), (61, .aload_n 0, 1), (62, .invokevirtual 42, 3), (65, .ifCond .ne 16, 3), (68, .aload 4, 2), (70, .aload_n 0, 1), (71, .aload_n 1, 1), (72, .iload_n 2, 1), (73, .iconst 1, 1), (74, .iadd, 1), (75, .invokevirtual 34, 3), (78, .putfield 73, 3), (81, .iload 5, 2), (83, .iconst 2, 1), (84, .if_icmp .lt 23, 3), (87, .aload_n 0, 1), (88, .invokevirtual 42, 3), (91, .ifCond .ne 16, 3), (94, .aload 4, 2), (96, .aload_n 0, 1), (97, .aload_n 1, 1), (98, .iload_n 2, 1), (99, .iconst 1, 1), (100, .iadd, 1), (101, .invokevirtual 34, 3), (104, .putfield 77, 3), (107, .aload_n 0, 1), (108, .invokevirtual 42, 3), (111, .ifCond .eq 5, 3), (114, .aconst_null, 1), (115, .areturn, 1), (116, .aload 4, 2), (118, .aload 4, 2), (120, .invokestatic 80, 3), (123, .putfield 84, 3), (126, .aload 4, 2), (128, .getfield 84, 3), (131, .iconst 1, 1), (132, .if_icmp .lt 13, 3), (135, .aload 4, 2), (137, .getfield 84, 3), (140, .bipush 12, 2), (142, .if_icmp .le 10, 3), (145, .aload_n 0, 1), (146, .iload_n 3, 1), (147, .invokevirtual 38, 3), (150, .aconst_null, 1), (151, .areturn, 1), (152, .aload 4, 2), (154, .invokestatic 87, 3), (157, .aload 4, 2), (159, .areturn, 1)]
def kCode_39 : List (Nat × Instr × Nat) := [(0, .iload_n 0, 1), (1, .ifCond .ne 5, 3), (4, .iconst 0, 1), (5, .ireturn, 1), (6, .iload_n 0, 1), (7, .iconst 3, 1), (8, .if_icmp .eq 13, 3), (11, .iload_n 0, 1), (12, .iconst 4, 1), (13, .if_icmp .eq 8, 3), (16, .iload_n 0, 1), (17, .iconst 5, 1), (18, .if_icmp .ne 7, 3), (21, .iconst 2, 1), (22, .goto 4, 3), (25, .iconst 1, 1), (26, .ireturn, 1)]
def kCode_40 : List (Nat × Instr × Nat) := [(0, .aload_n 1, 1), (1, .getfield 66, 3), (4, .tableswitch 240 0 10 #[60, 82, 111, 240, 157, 240, 240, 176, 197, 240, 211], 60), (64, .aload_n 1, 1), (65, .aload_n 2, 1), (66, .aload_n 0, 1), (67, .iconst 0, 1), (68, .aload_n 2, 1), (69, .getfield 91, 3), (72, .iconst 1, 1), (73, .isub, 1), (74, .invokevirtual 54, 3), (77, .invokevirtual 94, 3), (80, .putfield 98, 3), (83, .goto 161, 3), (86, .aload_n 1, 1), (87, .aload_n 0, 1), (88, .invokevirtual 46, 3), (91, .putfield 102, 3), (94, .aload_n 1, 1), (95, .aload_n 0, 1), (96, .iconst 0, 1), (97, .iconst 5, 1), (98, .invokevirtual 54, 3), (101, .putfield 105, 3), (104, .aload_n 1, 1), (105, .aload_n 0, 1), (106, .invokevirtual 46, 3), (109, .putfield 108, 3), (112, .goto 132, 3), (115, .aload_n 1, 1), (116, .aload_n 0, 1), (117, .iconst 1, 1), (118, .bipush 8, 2), (120, .invokevirtual 54, 3), (123, .putfield 108, 3), (126, .iconst 0, 1), (127, .istore_n 3, 1), (128, .iload_n 3, 1), (129, .aload_n 1, 1), (130, .getfield 108, 3), (133, .if_icmp .ge 25, 3), (136, .iload_n 3, 1), (137, .bipush 8, 2), (139, .if_icmp .ge 19, 3), (142, .aload_n 1, 1), (143, .getfield 111, 3), (146, .iload_n 3, 1), (147, .aload_n 0, 1), (148, .invokevirtual 46, 3), (151, .iastore, 1), (152, .iinc 3 1, 3), (155, .goto (-27), 3), (158, .goto 86, 3), (161, .aload_n 1, 1), (162, .aload_n 0, 1), (163, .invokevirtual 46, 3), (166, .putfield 102, 3), (169, .aload_n 1, 1), (170, .aload_n 0, 1), (171, .invokevirtual 46, 3), (174, .putfield 114, 3), (177, .goto 67, 3), (180, .aload_n 1, 1), (181, .aload_n 0, 1), (182, .invokevirtual 46, 3), (185, .putfield 102, 3), (188, .aload_n 1, 1), (189, .aload_n 0, 1), (190, .iconst 0, 1), (191, .iconst 1, 1), (192, .invokevirtual 54, 3), (195, .putfield 105, 3), (198, .goto 46, 3), (201, .aload_n 1, 1), (202, .aload_n 0, 1), (203, .iconst 0, 1), (204, .bipush 100, 2), (206, .invokevirtual 54, 3), (209, .putfield 108, 3), (212, .goto 32, 3), (215, .aload_n 1, 1), (216, .aload_n 0, 1), (217, .invokevirtual 46, 3), (220, .putfield 102, 3), (223, .aload_n 1, 1), (224, .aload_n 0, 1), (225, .iconst 0, 1), (226, .iconst 3, 1), (227, .invokevirtual 54, 3), (230, .putfield 105, 3), (233, .aload_n 1, 1), (234, .aload_n 0, 1), (235, .invokevirtual 46, 3), (238, .putfield 114, 3), (241, .goto 3, 3), (244, .return_, 1)]
def kCode_41 : List (Nat × Instr × Nat) := [(0, .aload_n 0, 1), (1, .getfield 73, 3), (4, .invokestatic 117, 3), (7, .istore_n 1, 1), (8, .aload_n 0, 1), (9, .getfield 77, 3), (12, .invokestatic 117, 3), (15, .istore_n 2, 1), (16, .aload_n 0, 1), (17, .getfield 66, 3), (20, .tableswitch 188 0 10 #[60, 79, 96, 113, 117, 147, 188, 79, 188, 158, 160], 60), (80, .aload_n 0, 1), (81, .getfield 98, 3), (84, .ifnonnull 7, 3), (87, .iconst 0, 1), (88, .goto 10, 3), (91, .aload_n 0, 1), (92, .getfield 98, 3), (95, .getfield 120, 3), (98, .ireturn, 1), (99, .aload_n 0, 1), (100, .getfield 102, 3), (103, .iload_n 1, 1), (104, .invokestatic 125, 3), (107, .ifCond .eq 7, 3), (110, .iload_n 1, 1), (111, .goto 4, 3), (114, .iconst 0, 1), (115, .ireturn, 1), (116, .aload_n 0, 1), (117, .iload_n 1, 1), (118, .invokestatic 129, 3), (121, .ifCond .eq 10, 3), (124, .aload_n 0, 1), (125, .getfield 108, 3), (128, .goto 4, 3), (131, .iconst 0, 1), (132, .ireturn, 1), (133, .iload_n 1, 1), (134, .iload_n 2, 1), (135, .iadd, 1), (136, .ireturn, 1), (137, .aload_n 0, 1), (138, .getfield 102, 3), (141, .iload_n 1, 1), (142, .invokestatic 125, 3), (145, .ifCond .eq 20, 3), (148, .aload_n 0, 1), (149, .getfield 114, 3), (152, .iload_n 2, 1), (153, .invokestatic 125, 3), (156, .ifCond .eq 9, 3), (159, .iload_n 1, 1), (160, .iload_n 2, 1), (161, .iadd, 1), (162, .goto 4, 3), (165, .iconst 0, 1), (166, .ireturn, 1), (167, .iload_n 1, 1), (168, .iload_n 2, 1), (169, .if_icmp .ne 7, 3), (172, .iload_n 1, 1), (173, .goto 4, 3), (176, .iconst 0, 1), (177, .ireturn, 1), (178, .iconst 1, 1), (179, .ireturn, 1), (180, .aload_n 0, 1), (181, .getfield 102, 3), (184, .iload_n 1, 1), (185, .invokestatic 125, 3), (188, .ifCond .eq 18, 3), (191, .aload_n 0, 1), (192, .getfield 114, 3), (195, .iload_n 1, 1), (196, .invokestatic 125, 3), (199, .ifCond .eq 7, 3), (202, .iconst 2, 1), (203, .goto 4, 3), (206, .iconst 0, 1), (207, .ireturn, 1), (208, .iload_n 1, 1), (209, .ireturn, 1)]
def kCode_42 : List (Nat × Instr × Nat) := [(0, .iload_n 0, 1), (1, .ifCond .lt 12, 3), (4, .iload_n 0, 1), (5, .iload_n 1, 1), (6, .if_icmp .ge 7, 3), (9, .iconst 1, 1), (10, .goto 4, 3), (13, .iconst 0, 1), (14, .ireturn, 1)]
def kCode_43 : List (Nat × Instr × Nat) := [(0, .iconst 0, 1), (1, .istore_n 2, 1), (2, .iload_n 2, 1), (3, .aload_n 0, 1), (4, .getfield 108, 3), (7, .if_icmp .ge 30, 3), (10, .iload_n 2, 1), (11, .bipush 8, 2), (13, .if_icmp .ge 24, 3), (16, .aload_n 0, 1), (17, .getfield 111, 3), (20, .iload_n 2, 1), (21, .iaload, 1), (22, .iload_n 1, 1), (23, .invokestatic 125, 3), (26, .ifCond .ne 5, 3), (29, .iconst 0, 1), (30, .ireturn, 1), (31, .iinc 2 1, 3), (34, .goto (-32), 3), (37, .iconst 1, 1), (38, .ireturn, 1)]
def kCode_44 : List (Nat × Instr × Nat) := [(0, .aload_n 0, 1), (1, .getfield 73, 3), (4, .astore_n 1, 1), (5, .aload_n 0, 1), (6, .getfield 66, 3), (9, .iconst 1, 1), (10, .if_icmp .ne 21, 3), (13, .aload_n 0, 1), (14, .getfield 105, 3), (17, .ifCond .ne 14, 3), (20, .aload_n 1, 1), (21, .ifnull 10, 3), (24, .aload_n 1, 1), (25, .getfield 66, 3), (28, .ifCond .eq 4, 3), (31, .return_, 1), (32, .aload_n 1, 1), (33, .getfield 98, 3), (36, .astore_n 2, 1), (37, .aload_n 2, 1), (38, .ifnull 31, 3), (41, .aload_n 2, 1), (42, .aload_n 0, 1), (43, .getfield 102, 3), (46, .invokevirtual 133, 3), (49, .ifCond .eq 20, 3), (52, .aload_n 2, 1), (53, .getfield 137, 3), (56, .aload_n 0, 1), (57, .getfield 102, 3), (60, .baload, 1), (61, .ifCond .eq 8, 3), (64, .aload_n 0, 1), (65, .aload_n 2, 1), (66, .putfield 98, 3), (69, .return_, 1)]
def kCode_45 : List (Nat × Instr × Nat) := [(0, .aload_n 0, 1), (1, .invokespecial 3, 3), (4, .return_, 1)]
def kCode_46 : List (Nat × Instr × Nat) := [(0, .aload_n 0, 1), (1, .iconst 0, 1), (2, .putfield 9, 3), (5, .aload_n 0, 1), (6, .aload_n 1, 1), (7, .iconst 0, 1), (8, .invokevirtual 15, 3), (11, .return_, 1)]
def kCode_47 : List (Nat × Instr × Nat) := [(0, .aload_n 0, 1), (1, .iload_n 2, 1), (2, .putfield 19, 3), (5, .aload_n 0, 1), (6, .aload_n 1, 1), (7, .iconst 0, 1), (8, .invokevirtual 22, 3), (11, .ireturn, 1)]
def kCode_48 : List (Nat × Instr × Nat) := [(0, .aload_n 1, 1), (1, .ifnull 9, 3), (4, .iload_n 2, 1), (5, .bipush 10, 2), (7, .if_icmp .lt 4, 3), (10, .return_, 1), (11, .aload_n 1, 1), (12, .invokevirtual 26, 3), (15, .aload_n 0, 1), (16, .aload_n 1, 1), (17, .getfield 31, 3), (20, .iload_n 2, 1), (21, .iconst 1, 1), (22, .iadd, 1), (23, .invokevirtual 15, 3), (26, .aload_n 0, 1), (27, .aload_n 1, 1), (28, .getfield 35, 3), (31, .iload_n 2, 1), (32, .iconst 1, 1), (33, .iadd, 1), (34, .invokevirtual 15, 3), (37, .return_, 1)]
def kCode_49 : List (Nat × Instr × Nat) := [(0, .aload_n 1, 1), (1, .ifnull 9, 3), (4, .iload_n 2, 1), (5, .bipush 10, 2), (7, .if_icmp .lt 5, 3), (10, .iconst 0, 1), (11, .ireturn, 1), (12, .aload_n 1, 1), (13, .getfield 38, 3), (16, .tableswitch 126 0 9 #[56, 62, 84, 91, 91, 98, 105, 126, 112, 119], 56), (72, .aload_n 0, 1), (73, .aload_n 1, 1), (74, .invokevirtual 41, 3), (77, .ireturn, 1), (78, .aload_n 1, 1), (79, .getfield 45, 3), (82, .ifnonnull 12, 3), (85, .aload_n 0, 1), (86, .aload_n 1, 1), (87, .iload_n 2, 1), (88, .invokevirtual 49, 3), (91, .goto 8, 3), (94, .aload_n 0, 1), (95, .aload_n 1, 1), (96, .invokevirtual 52, 3), (99, .ireturn, 1), (100, .aload_n 0, 1), (101, .aload_n 1, 1), (102, .iload_n 2, 1), (103, .invokevirtual 55, 3), (106, .ireturn, 1), (107, .aload_n 0, 1), (108, .aload_n 1, 1), (109, .iload_n 2, 1), (110, .invokevirtual 58, 3), (113, .ireturn, 1), (114, .aload_n 0, 1), (115, .aload_n 1, 1), (116, .iload_n 2, 1), (117, .invokevirtual 61, 3), (120, .ireturn, 1), (121, .aload_n 0, 1), (122, .aload_n 1, 1), (123, .iload_n 2, 1), (124, .invokevirtual 64, 3), (127, .ireturn, 1), (128, .aload_n 0, 1), (129, .aload_n 1, 1), (130, .iload_n 2, 1), (131, .invokevirtual 67, 3), (134, .ireturn, 1), (135, .aload_n 0, 1), (136, .aload_n 1, 1), (137, .iload_n 2, 1), (138, .invokevirtual 70, 3), (141, .ireturn, 1), (142, .aload_n 0, 1), (143, .aload_n 1, 1), (144, .iload_n 2, 1), (145, .invokevirtual 73, 3), (148, .ireturn, 1)]
def kCode_50 : List (Nat × Instr × Nat) := [(0, .aload_n 1, 1), (1, .getfield 45, 3), (4, .ifnonnull 7, 3), (7, .iconst 0, 1), (8, .goto 16, 3), (11, .aload_n 0, 1), (12, .aload_n 1, 1), (13, .aload_n 1, 1), (14, .getfield 45, 3), (17, .aload_n 1, 1), (18, .getfield 76, 3), (21, .invokevirtual 79, 3), (24, .ireturn, 1)]
def kCode_51 : List (Nat × Instr × Nat) := [(0, .aload_n 1, 1), (1, .getfield 45, 3), (4, .astore_n 2, 1), (5, .aload_n 2, 1), (6, .ifnonnull 5, 3), (9, .iconst 0, 1), (10, .ireturn, 1), (11, .aload_n 0, 1), (12, .aload_n 1, 1), (13, .aload_n 2, 1), (14, .aload_n 2, 1), (15, .aload_n 1, 1), (16, .getfield 76, 3), (19, .aload_n 1, 1), (20, .getfield 83, 3), (23, .aload_n 1, 1), (24, .getfield 86, 3), (27, .invokevirtual 89, 3), (30, .invokevirtual 79, 3), (33, .ireturn, 1)]
def kCode_52 : List (Nat × Instr × Nat) := [(0, .aload_n 2, 1), (1, .iload_n 3, 1), (2, .invokevirtual 95, 3), (5, .ifCond .ne 5, 3), (8, .iconst 0, 1), (9, .ireturn, 1), (10, .aload_n 0, 1), (11, .getfield 19, 3), (14, .iconst 1, 1), (15, .if_icmp .ge 5, 3), (18, .iconst 2, 1), (19, .ireturn, 1), (20, .aload_n 0, 1), (21, .dup, 1), (22, .getfield 19, 3), (25, .iconst 1, 1), (26, .isub, 1), (27, .putfield 19, 3), (30, .aload_n 0, 1), (31, .dup, 1), (32, .getfield 9, 3), (35, .iconst 1, 1), (36, .iadd, 1), (37, .putfield 9, 3), (40, .aload_n 2, 1), (41, .iload_n 3, 1), (42, .aload_n 1, 1), (43, .getfield 99, 3), (46, .invokevirtual 103, 3), (49, .aload_n 1, 1), (50, .iload_n 3, 1), (51, .iconst 1, 1), (52, .iadd, 1), (53, .putfield 76, 3), (56, .iconst 1, 1), (57, .ireturn, 1)]
def kCode_53 : List (Nat × Instr × Nat) := [(0, .iconst 0, 1), (1, .istore_n 3, 1), (2, .iload_n 3, 1), (3, .ldc 107, 2), (5, .if_icmp .ge 67, 3), (8, .aload_n 0, 1), (9, .aload_n 1, 1), (10, .getfield 31, 3), (13, .iload_n 2, 1), (14, .iconst 1, 1), (15, .iadd, 1), (16, .invokevirtual 22, 3), (19, .istore 4, 2), (21, .iload 4, 2), (23, .iconst 1, 1), (24, .if_icmp .eq 6, 3), (27, .iload 4, 2), (29, .ireturn, 1), (30, .aload_n 1, 1), (31, .getfield 31, 3), (34, .aload_n 1, 1), (35, .getfield 83, 3), (38, .invokestatic 108, 3), (41, .aload_n 1, 1), (42, .getfield 111, 3), (45, .aload_n 1, 1), (46, .getfield 86, 3), (49, .invokestatic 114, 3), (52, .ifCond .eq 14, 3), (55, .aload_n 1, 1), (56, .getfield 31, 3), (59, .aload_n 1, 1), (60, .iconst 0, 1), (61, .invokestatic 118, 3), (64, .iconst 1, 1), (65, .ireturn, 1), (66, .iinc 3 1, 3), (69, .goto (-67), 3), (72, .iconst 2, 1), (73, .ireturn, 1)]
def kCode_54 : List (Nat × Instr × Nat) := [(0, .iload_n 1, 1), (1, .tableswitch 90 0 4 #[35, 46, 57, 68, 79], 35), (36, .iload_n 0, 1), (37, .iload_n 2, 1), (38, .if_icmp .ne 7, 3), (41, .iconst 1, 1), (42, .goto 4, 3), (45, .iconst 0, 1), (46, .ireturn, 1), (47, .iload_n 0, 1), (48, .iload_n 2, 1), (49, .if_icmp .eq 7, 3), (52, .iconst 1, 1), (53, .goto 4, 3), (56, .iconst 0, 1), (57, .ireturn, 1), (58, .iload_n 0, 1), (59, .iload_n 2, 1), (60, .if_icmp .ge 7, 3), (63, .iconst 1, 1), (64, .goto 4, 3), (67, .iconst 0, 1), (68, .ireturn, 1), (69, .iload_n 0, 1), (70, .iload_n 2, 1), (71, .if_icmp .gt 7, 3), (74, .iconst 1, 1), (75, .goto 4, 3), (78, .iconst 0, 1), (79, .ireturn, 1), (80, .iload_n 0, 1), (81, .iload_n 2, 1), (82, .if_icmp .le 7, 3), (85, .iconst 1, 1), (86, .goto 4, 3), (89, .iconst 0, 1), (90, .ireturn, 1), (91, .iload_n 0, 1), (92, .iload_n 2, 1), (93, .if_icmp .lt 7, 3), (96, .iconst 1, 1), (97, .goto 4, 3), (100, .iconst 0, 1), (101, .ireturn, 1)]
def kCode_55 : List (Nat × Instr × Nat) := [(0, .aload_n 0, 1), (1, .aload_n 1, 1), (2, .getfield 31, 3), (5, .iload_n 2, 1), (6, .iconst 1, 1), (7, .iadd, 1), (8, .invokevirtual 22, 3), (11, .istore_n 3, 1), (12, .iload_n 3, 1), (13, .iconst 1, 1), (14, .if_icmp .ne 49, 3), (17, .iconst 0, 1), (18, .istore 4, 2), (20, .iload 4, 2), (22, .aload_n 1, 1), (23, .getfield 121, 3), (26, .if_icmp .ge 37, 3), (29, .iload 4, 2), (31, .bipush 8, 2), (33, .if_icmp .ge 30, 3), (36, .aload_n 1, 1), (37, .getfield 99, 3), (40, .iload 4, 2), (42, .aload_n 1, 1), (43, .getfield 31, 3), (46, .aload_n 1, 1), (47, .getfield 124, 3), (50, .iload 4, 2), (52, .iaload, 1), (53, .invokestatic 108, 3), (56, .iastore, 1), (57, .iinc 4 1, 3), (60, .goto (-40), 3), (63, .iload_n 3, 1), (64, .ireturn, 1)]
def kCode_56 : List (Nat × Instr × Nat) := [(0, .iconst 0, 1), (1, .istore_n 3, 1), (2, .iload_n 3, 1), (3, .ldc 107, 2), (5, .if_icmp .ge 122, 3), (8, .aload_n 1, 1), (9, .getfield 127, 3), (12, .ifCond .ne 41, 3), (15, .aload_n 0, 1), (16, .aload_n 1, 1), (17, .getfield 31, 3), (20, .iload_n 2, 1), (21, .iconst 1, 1), (22, .iadd, 1), (23, .invokevirtual 22, 3), (26, .istore 4, 2), (28, .iload 4, 2), (30, .iconst 1, 1), (31, .if_icmp .eq 6, 3), (34, .iload 4, 2), (36, .ireturn, 1), (37, .aload_n 1, 1), (38, .iconst 1, 1), (39, .putfield 127, 3), (42, .aload_n 0, 1), (43, .aload_n 1, 1), (44, .getfield 35, 3), (47, .iload_n 2, 1), (48, .iconst 1, 1), (49, .iadd, 1), (50, .invokevirtual 15, 3), (53, .aload_n 0, 1), (54, .aload_n 1, 1), (55, .getfield 35, 3), (58, .iload_n 2, 1), (59, .iconst 1, 1), (60, .iadd, 1), (61, .invokevirtual 22, 3), (64, .istore 4, 2), (66, .iload 4, 2), (68, .ifCond .ne 11, 3), (71, .aload_n 1, 1), (72, .iconst 0, 1), (73, .putfield 127, 3), (76, .goto 45, 3), (79, .iload 4, 2), (81, .iconst 1, 1), (82, .if_icmp .eq 6, 3), (85, .iload 4, 2), (87, .ireturn, 1), (88, .aload_n 1, 1), (89, .invokestatic 131, 3), (92, .ifCond .eq 29, 3), (95, .aload_n 1, 1), (96, .getfield 31, 3), (99, .aload_n 1, 1), (100, .iconst 0, 1), (101, .invokestatic 118, 3), (104, .aload_n 1, 1), (105, .getfield 35, 3), (108, .aload_n 1, 1), (109, .aload_n 1, 1), (110, .getfield 31, 3), (113, .invokestatic 135, 3), (116, .invokestatic 118, 3), (119, .iconst 1, 1), (120, .ireturn, 1), (121, .iinc 3 1, 3), (124, .goto (-122), 3), (127, .iconst 2, 1), (128, .ireturn, 1)]
def kCode_57 : List (Nat × Instr × Nat) := [(0, .aload_n 0, 1), (1, .getfield 38, 3), (4, .iconst 3, 1), (5, .if_icmp .eq 28, 3), (8, .aload_n 0, 1), (9, .getfield 31, 3), (12, .aload_n 0, 1), (13, .getfield 83, 3), (16, .invokestatic 108, 3), (19, .aload_n 0, 1), (20, .getfield 35, 3), (23, .aload_n 0, 1), (24, .getfield 138, 3), (27, .invokestatic 108, 3), (30, .if_icmp .ne 7, 3), (33, .iconst 1, 1), (34, .goto 4, 3), (37, .iconst 0, 1), (38, .ireturn, 1)]
def kCode_58 : List (Nat × Instr × Nat) := [(0, .aload_n 0, 1), (1, .aload_n 2, 1), (2, .iload_n 3, 1), (3, .iconst 1, 1), (4, .iadd, 1), (5, .invokevirtual 22, 3), (8, .istore 4, 2), (10, .iload 4, 2), (12, .iconst 1, 1), (13, .if_icmp .ne 9, 3), (16, .aload_n 2, 1), (17, .aload_n 1, 1), (18, .iconst 0, 1), (19, .invokestatic 118, 3), (22, .iload 4, 2), (24, .ireturn, 1)]
def kCode_59 : List (Nat × Instr × Nat) := [(0, .aload_n 1, 1), (1, .getfield 141, 3), (4, .ifCond .ne 25, 3), (7, .aload_n 0, 1), (8, .aload_n 1, 1), (9, .aload_n 1, 1), (10, .getfield 31, 3), (13, .iload_n 2, 1), (14, .invokevirtual 144, 3), (17, .istore_n 3, 1), (18, .iload_n 3, 1), (19, .ifCond .eq 5, 3), (22, .iload_n 3, 1), (23, .ireturn, 1), (24, .aload_n 1, 1), (25, .iconst 1, 1), (26, .putfield 141, 3), (29, .aload_n 0, 1), (30, .aload_n 1, 1), (31, .aload_n 1, 1), (32, .getfield 35, 3), (35, .iload_n 2, 1), (36, .invokevirtual 144, 3), (39, .ireturn, 1)]
def kCode_60 : List (Nat × Instr × Nat) := [(0, .iconst 0, 1), (1, .istore_n 3, 1), (2, .iload_n 3, 1), (3, .ldc 107, 2), (5, .if_icmp .ge 64, 3), (8, .aload_n 0, 1), (9, .aload_n 1, 1), (10, .aload_n 1, 1), (11, .getfield 31, 3), (14, .iload_n 2, 1), (15, .invokevirtual 144, 3), (18, .istore 4, 2), (20, .iload 4, 2), (22, .iconst 1, 1), (23, .if_icmp .eq 6, 3), (26, .iload 4, 2), (28, .ireturn, 1), (29, .aload_n 1, 1), (30, .getfield 148, 3), (33, .aload_n 1, 1), (34, .getfield 99, 3), (37, .invokevirtual 152, 3), (40, .ifCond .ne 23, 3), (43, .aload_n 1, 1), (44, .getfield 148, 3), (47, .aload_n 1, 1), (48, .getfield 99, 3), (51, .invokevirtual 158, 3), (54, .ifCond .eq 7, 3), (57, .iconst 1, 1), (58, .goto 4, 3), (61, .iconst 3, 1), (62, .ireturn, 1), (63, .iinc 3 1, 3), (66, .goto (-64), 3), (69, .iconst 2, 1), (70, .ireturn, 1)]
def kCode_61 : List (Nat × Instr × Nat) := [(0, .aload_n 1, 1), (1, .getfield 76, 3), (4, .aload_n 1, 1), (5, .getfield 86, 3), (8, .if_icmp .lt 5, 3), (11, .iconst 0, 1), (12, .ireturn, 1), (13, .aload_n 0, 1), (14, .aload_n 1, 1), (15, .aload_n 1, 1), (16, .getfield 31, 3), (19, .iload_n 2, 1), (20, .invokevirtual 144, 3), (23, .istore_n 3, 1), (24, .iload_n 3, 1), (25, .iconst 1, 1), (26, .if_icmp .ne 13, 3), (29, .aload_n 1, 1), (30, .dup, 1), (31, .getfield 76, 3), (34, .iconst 1, 1), (35, .iadd, 1), (36, .putfield 76, 3), (39, .iload_n 3, 1), (40, .ireturn, 1)]
def kCode_62 : List (Nat × Instr × Nat) := [(0, .aload_n 1, 1), (1, .getfield 161, 3), (4, .ifCond .eq 5, 3), (7, .iconst 0, 1), (8, .ireturn, 1), (9, .aload_n 0, 1), (10, .aload_n 1, 1), (11, .iload_n 2, 1), (12, .invokevirtual 164, 3), (15, .istore_n 3, 1), (16, .iload_n 3, 1), (17, .ifCond .eq 5, 3), (20, .iload_n 3, 1), (21, .ireturn, 1), (22, .aload_n 1, 1), (23, .iconst 1, 1), (24, .putfield 161, 3), (27, .aload_n 1, 1), (28, .getfield 99, 3), (31, .iconst 0, 1), (32, .aload_n 1, 1), (33, .getfield 76, 3), (36, .iastore, 1), (37, .iconst 1, 1), (38, .ireturn, 1)]
def kCode_63 : List (Nat × Instr × Nat) := [(0, .aload_n 1, 1), (1, .getfield 161, 3), (4, .ifCond .ne 21, 3), (7, .aload_n 0, 1), (8, .aload_n 1, 1), (9, .iload_n 2, 1), (10, .invokevirtual 164, 3), (13, .istore_n 3, 1), (14, .iload_n 3, 1), (15, .ifCond .eq 5, 3), (18, .iload_n 3, 1), (19, .ireturn, 1), (20, .aload_n 1, 1), (21, .iconst 1, 1), (22, .putfield 161, 3), (25, .aload_n 1, 1), (26, .getfield 76, 3), (29, .aload_n 1, 1), (30, .getfield 148, 3), (33, .getfield 167, 3), (36, .if_icmp .lt 5, 3), (39, .iconst 0, 1), (40, .ireturn, 1), (41, .aload_n 1, 1), (42, .getfield 148, 3), (45, .aload_n 1, 1), (46, .getfield 76, 3), (49, .aload_n 1, 1), (50, .getfield 99, 3), (53, .invokevirtual 170, 3), (56, .aload_n 1, 1), (57, .dup, 1), (58, .getfield 76, 3), (61, .iconst 1, 1), (62, .iadd, 1), (63, .putfield 76, 3), (66, .iconst 1, 1), (67, .ireturn, 1)]
def kCode_64 : List (Nat × Instr × Nat) := [(0, .iconst 0, 1), (1, .istore_n 3, 1), (2, .iload_n 3, 1), (3, .ldc 107, 2), (5, .if_icmp .ge 40, 3), (8, .aload_n 0, 1), (9, .aload_n 1, 1), (10, .getfield 31, 3), (13, .iload_n 2, 1), (14, .iconst 1, 1), (15, .iadd, 1), (16, .invokevirtual 22, 3), (19, .istore 4, 2), (21, .iload 4, 2), (23, .iconst 1, 1), (24, .if_icmp .eq 6, 3), (27, .iload 4, 2), (29, .ireturn, 1), (30, .aload_n 1, 1), (31, .invokestatic 171, 3), (34, .ifCond .ne 5, 3), (37, .iconst 3, 1), (38, .ireturn, 1), (39, .iinc 3 1, 3), (42, .goto (-40), 3), (45, .iconst 2, 1), (46, .ireturn, 1)]
def kCode_65 : List (Nat × Instr × Nat) := [(0, .aload_n 0, 1), (1, .getfield 38, 3), (4, .bipush 10, 2), (6, .if_icmp .ne 8, 3), (9, .aload_n 0, 1), (10, .invokestatic 174, 3), (13, .ireturn, 1), (14, .aload_n 0, 1), (15, .getfield 38, 3), (18, .bipush 7, 2), (20, .if_icmp .ne 32, 3), (23, .aload_n 0, 1), (24, .getfield 31, 3), (27, .aload_n 0, 1), (28, .iconst 0, 1), (29, .invokestatic 118, 3), (32, .aload_n 0, 1), (33, .getfield 148, 3), (36, .aload_n 0, 1), (37, .getfield 99, 3), (40, .aload_n 0, 1), (41, .getfield 83, 3), (44, .aload_n 0, 1), (45, .getfield 111, 3), (48, .invokevirtual 177, 3), (51, .ireturn, 1), (52, .aload_n 0, 1), (53, .dup, 1), (54, .getfield 76, 3), (57, .iconst 1, 1), (58, .iadd, 1), (59, .putfield 76, 3), (62, .iconst 1, 1), (63, .ireturn, 1)]
def kCode_66 : List (Nat × Instr × Nat) := [(0, .aload_n 0, 1), (1, .getfield 148, 3), (4, .astore_n 1, 1), (5, .aload_n 0, 1), (6, .getfield 31, 3), (9, .aload_n 0, 1), (10, .getfield 83, 3), (13, .invokestatic 108, 3), (16, .istore_n 2, 1), (17, .aload_n 0, 1), (18, .getfield 31, 3), (21, .aload_n 0, 1), (22, .getfield 138, 3), (25, .invokestatic 108, 3), (28, .istore_n 3, 1), (29, .aload_n 1, 1), (30, .iload_n 2, 1), (31, .invokevirtual 181, 3), (34, .istore 4, 2), (36, .iload 4, 2), (38, .aload_n 1, 1), (39, .getfield 167, 3), (42, .if_icmp .ge 27, 3), (45, .aload_n 1, 1), (46, .iload 4, 2), (48, .iconst 1, 1), (49, .aload_n 1, 1), (50, .iload 4, 2), (52, .iconst 1, 1), (53, .invokevirtual 185, 3), (56, .iload_n 3, 1), (57, .aload_n 0, 1), (58, .getfield 111, 3), (61, .invokestatic 189, 3), (64, .invokevirtual 192, 3), (67, .iconst 1, 1), (68, .ireturn, 1), (69, .aload_n 1, 1), (70, .getfield 167, 3), (73, .bipush 60, 2), (75, .if_icmp .lt 5, 3), (78, .iconst 0, 1), (79, .ireturn, 1), (80, .aload_n 0, 1), (81, .getfield 99, 3), (84, .iconst 0, 1), (85, .iload_n 2, 1), (86, .iastore, 1), (87, .aload_n 0, 1), (88, .getfield 99, 3), (91, .iconst 1, 1), (92, .aload_n 0, 1), (93, .getfield 111, 3), (96, .ifCond .ne 7, 3), (99, .iconst 1, 1), (100, .goto 4, 3), (103, .iload_n 3, 1), (104, .iastore, 1), (105, .aload_n 1, 1), (106, .aload_n 0, 1), (107, .getfield 99, 3), (110, .invokevirtual 158, 3), (113, .ireturn, 1)]
def kCode_67 : List (Nat × Instr × Nat) := [(0, .iload_n 2, 1), (1, .tableswitch 41 0 2 #[27, 31, 35], 27), (28, .iload_n 0, 1), (29, .iconst 1, 1), (30, .iadd, 1), (31, .ireturn, 1), (32, .iload_n 0, 1), (33, .iload_n 1, 1), (34, .iadd, 1), (35, .ireturn, 1), (36, .iload_n 0, 1), (37, .iload_n 1, 1), (38, .invokestatic 196, 3), (41, .ireturn, 1), (42, .iload_n 0, 1), (43, .iload_n 1, 1), (44, .invokestatic 201, 3), (47, .ireturn, 1)]
def kCode_68 : List (Nat × Instr × Nat) := [(0, .aload_n 0, 1), (1, .ifnull 30, 3), (4, .iload_n 1, 1), (5, .ifCond .lt 26, 3), (8, .iload_n 1, 1), (9, .aload_n 0, 1), (10, .getfield 121, 3), (13, .if_icmp .ge 18, 3), (16, .iload_n 1, 1), (17, .bipush 12, 2), (19, .if_icmp .ge 12, 3), (22, .aload_n 0, 1), (23, .getfield 99, 3), (26, .iload_n 1, 1), (27, .iaload, 1), (28, .goto 4, 3), (31, .iconst 0, 1), (32, .ireturn, 1)]
def kCode_69 : List (Nat × Instr × Nat) := [(0, .aload_n 0, 1), (1, .ifnull 35, 3), (4, .iload_n 2, 1), (5, .ifCond .lt 31, 3), (8, .iload_n 2, 1), (9, .aload_n 0, 1), (10, .getfield 121, 3), (13, .iadd, 1), (14, .bipush 12, 2), (16, .if_icmp .gt 20, 3), (19, .aload_n 0, 1), (20, .getfield 99, 3), (23, .iconst 0, 1), (24, .aload_n 1, 1), (25, .getfield 99, 3), (28, .iload_n 2, 1), (29, .aload_n 0, 1), (30, .getfield 121, 3), (33, .invokestatic 204, 3), (36, .return_, 1)]
def kCode_70 : List (Nat × Instr × Nat) := [(0, .aload_n 0, 1), (1, .invokespecial 3, 3), (4, .aload_n 0, 1), (5, .iload_n 1, 1), (6, .putfield 9, 3), (9, .aload_n 0, 1), (10, .bipush 6, 2), (12, .newarray .boolean, 2), (14, .putfield 15, 3), (17, .aload_n 0, 1), (18, .sipush 240, 3), (21, .newarray .int, 2), (23, .putfield 19, 3), (26, .aload_n 0, 1), (27, .sipush 240, 3), (30, .newarray .int, 2), (32, .putfield 23, 3), (35, .return_, 1)]
def kCode_71 : List (Nat × Instr × Nat) := [(0, .iload_n 1, 1), (1, .ifCond .lt 15, 3), (4, .iload_n 1, 1), (5, .aload_n 0, 1), (6, .getfield 9, 3), (9, .if_icmp .ge 7, 3), (12, .iconst 1, 1), (13, .goto 4, 3), (16, .iconst 0, 1), (17, .ireturn, 1)]
def kCode_72 : List (Nat × Instr × Nat) := [(0, .iload_n 1, 1), (1, .ifCond .lt 15, 3), (4, .iload_n 1, 1), (5, .aload_n 0, 1), (6, .getfield 26, 3), (9, .if_icmp .ge 7, 3), (12, .iconst 1, 1), (13, .goto 4, 3), (16, .iconst 0, 1), (17, .ireturn, 1)]
def kCode_73 : List (Nat × Instr × Nat) := [(0, .aload_n 0, 1), (1, .iload_n 1, 1), (2, .invokevirtual 29, 3), (5, .ifCond .eq 27, 3), (8, .aload_n 0, 1), (9, .iload_n 2, 1), (10, .invokevirtual 33, 3), (13, .ifCond .eq 19, 3), (16, .aload_n 0, 1), (17, .getfield 19, 3), (20, .iload_n 1, 1), (21, .aload_n 0, 1), (22, .getfield 9, 3), (25, .imul, 1), (26, .iload_n 2, 1), (27, .iadd, 1), (28, .iaload, 1), (29, .goto 4, 3), (32, .iconst 0, 1), (33, .ireturn, 1)]
def kCode_74 : List (Nat × Instr × Nat) := [(0, .aload_n 0, 1), (1, .iload_n 1, 1), (2, .invokevirtual 29, 3), (5, .ifCond .eq 31, 3), (8, .aload_n 2, 1), (9, .arraylength, 1), (10, .aload_n 0, 1), (11, .getfield 9, 3), (14, .if_icmp .lt 22, 3), (17, .aload_n 0, 1), (18, .getfield 19, 3), (21, .iload_n 1, 1), (22, .aload_n 0, 1), (23, .getfield 9, 3), (26, .imul, 1), (27, .aload_n 2, 1), (28, .iconst 0, 1), (29, .aload_n 0, 1), (30, .getfield 9, 3), (33, .invokestatic 36, 3), (36, .return_, 1)]
def kCode_75 : List (Nat × Instr × Nat) := [(0, .aload_n 0, 1), (1, .getfield 26, 3), (4, .bipush 40, 2), (6, .if_icmp .ge 44, 3), (9, .aload_n 1, 1), (10, .arraylength, 1), (11, .aload_n 0, 1), (12, .getfield 9, 3), (15, .if_icmp .lt 35, 3), (18, .aload_n 1, 1), (19, .iconst 0, 1), (20, .aload_n 0, 1), (21, .getfield 19, 3), (24, .aload_n 0, 1), (25, .getfield 26, 3), (28, .aload_n 0, 1), (29, .getfield 9, 3), (32, .imul, 1), (33, .aload_n 0, 1), (34, .getfield 9, 3), (37, .invokestatic 36, 3), (40, .aload_n 0, 1), (41, .dup, 1), (42, .getfield 26, 3), (45, .iconst 1, 1), (46, .iadd, 1), (47, .putfield 26, 3), (50, .return_, 1)]
def kCode_76 : List (Nat × Instr × Nat) := [(0, .iconst 0, 1), (1, .istore_n 3, 1), (2, .iconst 0, 1), (3, .istore 4, 2), (5, .iload 4, 2), (7, .aload_n 0, 1), (8, .getfield 26, 3), (11, .if_icmp .ge 23, 3), (14, .aload_n 0, 1), (15, .iload 4, 2), (17, .iload_n 1, 1), (18, .invokevirtual 42, 3), (21, .iload_n 2, 1), (22, .if_icmp .ne 6, 3), (25, .iinc 3 1, 3), (28, .iinc 4 1, 3), (31, .goto (-26), 3), (34, .iload_n 3, 1), (35, .ireturn, 1)]
def kCode_77 : List (Nat × Instr × Nat) := [(0, .iload_n 1, 1), (1, .istore 4, 2), (3, .iload 4, 2), (5, .aload_n 0, 1), (6, .getfield 26, 3), (9, .if_icmp .ge 23, 3), (12, .aload_n 0, 1), (13, .iload 4, 2), (15, .iload_n 2, 1), (16, .invokevirtual 42, 3), (19, .iload_n 3, 1), (20, .if_icmp .ne 6, 3), (23, .iload 4, 2), (25, .ireturn, 1), (26, .iinc 4 1, 3), (29, .goto (-26), 3), (32, .aload_n 0, 1), (33, .getfield 26, 3), (36, .ireturn, 1)]
def kCode_78 : List (Nat × Instr × Nat) := [(0, .iconst 0, 1), (1, .istore_n 3, 1), (2, .iconst 0, 1), (3, .istore 4, 2), (5, .iload 4, 2), (7, .aload_n 0, 1), (8, .getfield 26, 3), (11, .if_icmp .ge 51, 3), (14, .aload_n 0, 1), (15, .iload 4, 2), (17, .iload_n 1, 1), (18, .invokevirtual 42, 3), (21, .iload_n 2, 1), (22, .if_icmp .eq 34, 3), (25, .aload_n 0, 1), (26, .getfield 19, 3), (29, .iload 4, 2), (31, .aload_n 0, 1), (32, .getfield 9, 3), (35, .imul, 1), (36, .aload_n 0, 1), (37, .getfield 19, 3), (40, .iload_n 3, 1), (41, .aload_n 0, 1), (42, .getfield 9, 3), (45, .imul, 1), (46, .aload_n 0, 1), (47, .getfield 9, 3), (50, .invokestatic 36, 3), (53, .iinc 3 1, 3), (56, .iinc 4 1, 3), (59, .goto (-54), 3), (62, .aload_n 0, 1), (63, .iload_n 3, 1), (64, .putfield 26, 3), (67, .return_, 1)]
def kCode_79 : List (Nat × Instr × Nat) := [(0, .iconst 0, 1), (1, .istore 5, 2), (3, .iload 5, 2), (5, .aload_n 0, 1), (6, .getfield 26, 3), (9, .if_icmp .ge 44, 3), (12, .aload_n 0, 1), (13, .iload 5, 2), (15, .iload_n 1, 1), (16, .invokevirtual 42, 3), (19, .iload_n 2, 1), (20, .if_icmp .ne 27, 3), (23, .aload_n 0, 1), (24, .iload_n 3, 1), (25, .invokevirtual 33, 3), (28, .ifCond .eq 19, 3), (31, .aload_n 0, 1), (32, .getfield 19, 3), (35, .iload 5, 2), (37, .aload_n 0, 1), (38, .getfield 9, 3), (41, .imul, 1), (42, .iload_n 3, 1), (43, .iadd, 1), (44, .iload 4, 2), (46, .iastore, 1), (47, .iinc 5 1, 3), (50, .goto (-47), 3), (53, .return_, 1)]
def kCode_80 : List (Nat × Instr × Nat) := [(0, .aload_n 0, 1), (1, .getfield 19, 3), (4, .iconst 0, 1), (5, .aload_n 0, 1), (6, .getfield 23, 3), (9, .iconst 0, 1), (10, .aload_n 0, 1), (11, .getfield 26, 3), (14, .aload_n 0, 1), (15, .getfield 9, 3), (18, .imul, 1), (19, .invokestatic 36, 3), (22, .aload_n 0, 1), (23, .aload_n 0, 1), (24, .getfield 26, 3), (27, .putfield 46, 3), (30, .return_, 1)]
def kCode_81 : List (Nat × Instr × Nat) := [(0, .aload_n 0, 1), (1, .getfield 23, 3), (4, .iconst 0, 1), (5, .aload_n 0, 1), (6, .getfield 19, 3), (9, .iconst 0, 1), (10, .aload_n 0, 1), (11, .getfield 46, 3), (14, .aload_n 0, 1), (15, .getfield 9, 3), (18, .imul, 1), (19, .invokestatic 36, 3), (22, .aload_n 0, 1), (23, .aload_n 0, 1), (24, .getfield 46, 3), (27, .putfield 26, 3), (30, .return_, 1)]
def kCode_82 : List (Nat × Instr × Nat) := [(0, .aload_n 0, 1), (1, .invokespecial 3, 3), (4, .aload_n 0, 1), (5, .bipush 6, 2), (7, .anewarray 9, 3), (10, .putfield 11, 3), (13, .return_, 1)]
def kCode_83 : List (Nat × Instr × Nat) := [(0, .iload_n 1, 1), (1, .ifCond .lt 20, 3), (4, .iload_n 1, 1), (5, .aload_n 0, 1), (6, .getfield 17, 3), (9, .if_icmp .ge 12, 3), (12, .aload_n 0, 1), (13, .getfield 11, 3), (16, .iload_n 1, 1), (17, .aaload, 1), (18, .goto 4, 3), (21, .aconst_null, 1), (22, .areturn, 1)]
def kCode_84 : List (Nat × Instr × Nat) := [(0, .aload_n 0, 1), (1, .getfield 17, 3), (4, .istore_n 2, 1), (5, .iload_n 2, 1), (6, .bipush 6, 2), (8, .if_icmp .ge 27, 3), (11, .aload_n 0, 1), (12, .getfield 11, 3), (15, .iload_n 2, 1), (16, .new 9, 3), (19, .dup, 1), (20, .iload_n 1, 1), (21, .invokespecial 21, 3), (24, .aastore, 1), (25, .aload_n 0, 1), (26, .dup, 1), (27, .getfield 17, 3), (30, .iconst 1, 1), (31, .iadd, 1), (32, .putfield 17, 3), (35, .iload_n 2, 1), (36, .ireturn, 1)]
def kCode_85 : List (Nat × Instr × Nat) := [(0, .aload_n 0, 1), (1, .getfield 24, 3), (4, .ifCond .eq 14, 3), (7, .aload_n 0, 1), (8, .getfield 28, 3), (11, .iload_n 1, 1), (12, .iadd, 1), (13, .bipush 120, 2), (15, .if_icmp .gt 7, 3), (18, .iconst 1, 1), (19, .goto 4, 3), (22, .iconst 0, 1), (23, .ireturn, 1)]
def kCode_86 : List (Nat × Instr × Nat) := [(0, .aload_n 0, 1), (1, .getfield 24, 3), (4, .ifCond .eq 13, 3), (7, .aload_n 0, 1), (8, .dup, 1), (9, .getfield 28, 3), (12, .iload_n 1, 1), (13, .iadd, 1), (14, .putfield 28, 3), (17, .return_, 1)]
def kCode_87 : List (Nat × Instr × Nat) := [(0, .aload_n 0, 1), (1, .iconst 1, 1), (2, .putfield 24, 3), (5, .aload_n 0, 1), (6, .iconst 0, 1), (7, .putfield 28, 3), (10, .iconst 0, 1), (11, .istore_n 1, 1), (12, .iload_n 1, 1), (13, .bipush 6, 2), (15, .if_icmp .ge 23, 3), (18, .aload_n 0, 1), (19, .iload_n 1, 1), (20, .invokevirtual 31, 3), (23, .astore_n 2, 1), (24, .aload_n 2, 1), (25, .ifnull 7, 3), (28, .aload_n 2, 1), (29, .invokevirtual 35, 3), (32, .iinc 1 1, 3), (35, .goto (-23), 3), (38, .return_, 1)]
def kCode_88 : List (Nat × Instr × Nat) := [(0, .aload_n 0, 1), (1, .iconst 0, 1), (2, .putfield 24, 3), (5, .aload_n 0, 1), (6, .getfield 28, 3), (9, .ireturn, 1)]
def kCode_89 : List (Nat × Instr × Nat) := [(0, .iconst 0, 1), (1, .istore_n 1, 1), (2, .iload_n 1, 1), (3, .bipush 6, 2), (5, .if_icmp .ge 23, 3), (8, .aload_n 0, 1), (9, .iload_n 1, 1), (10, .invokevirtual 31, 3), (13, .astore_n 2, 1), (14, .aload_n 2, 1), (15, .ifnull 7, 3), (18, .aload_n 2, 1), (19, .invokevirtual 38, 3), (22, .iinc 1 1, 3), (25, .goto (-23), 3), (28, .return_, 1)]
def kCode_90 : List (Nat × Instr × Nat) := [(0, .aload_n 0, 1), (1, .invokespecial 3, 3), (4, .aload_n 0, 1), (5, .bipush 8, 2), (7, .newarray .int, 2), (9, .putfield 9, 3), (12, .aload_n 0, 1), (13, .bipush 12, 2), (15, .newarray .int, 2), (17, .putfield 15, 3), (20, .aload_n 0, 1), (21, .new 18, 3), (24, .dup, 1), (25, .invokespecial 20, 3), (28, .putfield 21, 3), (31, .return_, 1)]
def kCode_91 : List (Nat × Instr × Nat) := [(0, .aload_n 0, 1), (1, .iload_n 1, 1), (2, .putfield 25, 3), (5, .aload_n 0, 1), (6, .iconst 0, 1), (7, .putfield 29, 3), (10, .aload_n 0, 1), (11, .iconst 0, 1), (12, .putfield 32, 3), (15, .aload_n 0, 1), (16, .iconst 0, 1), (17, .putfield 35, 3), (20, .aload_n 0, 1), (21, .iconst 0, 1), (22, .putfield 38, 3), (25, .aload_n 0, 1), (26, .aconst_null, 1), (27, .putfield 41, 3), (30, .aload_n 0, 1), (31, .aconst_null, 1), (32, .putfield 45, 3), (35, .aload_n 0, 1), (36, .aconst_null, 1), (37, .putfield 49, 3), (40, .aload_n 0, 1), (41, .iconst 0, 1), (42, .putfield 52, 3), (45, .return_, 1)]
def kCode_92 : List (Nat × Instr × Nat) := [(0, .aload_n 0, 1), (1, .iconst 0, 1), (2, .putfield 55, 3), (5, .aload_n 0, 1), (6, .iconst 0, 1), (7, .putfield 58, 3), (10, .aload_n 0, 1), (11, .iconst 0, 1), (12, .putfield 62, 3), (15, .aload_n 0, 1), (16, .iconst 0, 1), (17, .putfield 65, 3), (20, .aload_n 0, 1), (21, .getfield 21, 3), (24, .aload_n 0, 1), (25, .getfield 52, 3), (28, .invokevirtual 68, 3), (31, .return_, 1)]
def kCode_93 : List (Nat × Instr × Nat) := [(0, .aload_n 0, 1), (1, .invokespecial 1, 3), (4, .aload_n 0, 1), (5, .bipush 6, 2), (7, .newarray .int, 2), (9, .putfield 7, 3), (12, .aload_n 0, 1), (13, .bipush 36, 2), (15, .newarray .boolean, 2), (17, .putfield 13, 3), (20, .aload_n 0, 1), (21, .bipush 6, 2), (23, .newarray .int, 2), (25, .putfield 17, 3), (28, .aload_n 0, 1), (29, .sipush 1440, 3), (32, .newarray .int, 2), (34, .putfield 20, 3), (37, .aload_n 0, 1), (38, .bipush 6, 2), (40, .newarray .int, 2), (42, .putfield 23, 3), (45, .aload_n 0, 1), (46, .bipush 6, 2), (48, .newarray .int, 2), (50, .putfield 26, 3), (53, .aload_n 0, 1), (54, .sipush 1440, 3), (57, .newarray .int, 2), (59, .putfield 29, 3), (62, .aload_n 0, 1), (63, .bipush 60, 2), (65, .newarray .int, 2), (67, .putfield 32, 3), (70, .aload_n 0, 1), (71, .bipush 60, 2), (73, .newarray .int, 2), (75, .putfield 35, 3), (78, .aload_n 0, 1), (79, .iconst (-1), 1), (80, .putfield 38, 3), (83, .aload_n 0, 1), (84, .bipush 60, 2), (86, .newarray .int, 2), (88, .putfield 42, 3), (91, .aload_n 0, 1), (92, .bipush 60, 2), (94, .newarray .int, 2), (96, .putfield 45, 3), (99, .aload_n 0, 1), (100, .bipush 60, 2), (102, .newarray .int, 2), (104, .putfield 48, 3), (107, .aload_n 0, 1), (108, .bipush 60, 2), (110, .newarray .int, 2), (112, .putfield 51, 3), (115, .aload_n 0, 1), (116, .bipush 60, 2), (118, .newarray .int, 2), (120, .putfield 54, 3), (123, .aload_n 0, 1), (124, .bipush 60, 2), (126, .newarray .int, 2), (128, .putfield 57, 3), (131, .aload_n 0, 1), (132, .ldc 60, 2), (134, .newarray .int, 2), (136, .putfield 61, 3), (139, .aload_n 0, 1), (140, .sipush 720, 3), (143, .newarray .int, 2), (145, .putfield 64, 3), (148, .aload_n 0, 1), (149, .sipush 720, 3), (152, .newarray .int, 2), (154, .putfield 67, 3), (157, .aload_n 0, 1), (158, .bipush 12, 2), (160, .newarray .int, 2), (162, .putfield 70, 3), (165, .aload_n 0, 1), (166, .bipush 60, 2), (168, .newarray .int, 2), (170, .putfield 73, 3), (173, .aload_n 0, 1), (174, .bipush 60, 2), (176, .newarray .int, 2), (178, .putfield 76, 3), (181, .aload_n 0, 1), (182, .bipush 60, 2), (184, .newarray .int, 2), (186, .putfield 79, 3), (189, .aload_n 0, 1), (190, .bipush 60, 2), (192, .newarray .int, 2), (194, .putfield 82, 3), (197, .aload_n 0, 1), (198, .bipush 60, 2), (200, .newarray .boolean, 2), (202, .putfield 85, 3), (205, .return_, 1)]
def kCode_94 : List (Nat × Instr × Nat) := [(0, .aload_n 0, 1), (1, .getfield 88, 3), (4, .ireturn, 1)]
def kCode_95 : List (Nat × Instr × Nat) := [(0, .iload_n 0, 1), (1, .iload_n 1, 1), (2, .if_icmp .lt 12, 3), (5, .iload_n 0, 1), (6, .iload_n 2, 1), (7, .if_icmp .gt 7, 3), (10, .iconst 1, 1), (11, .goto 4, 3), (14, .iconst 0, 1), (15, .ireturn, 1)]
def kCode_96 : List (Nat × Instr × Nat) := [(0, .aload_n 0, 1), (1, .iload_n 1, 1), (2, .ifCond .eq 7, 3), (5, .iconst 0, 1), (6, .goto 4, 3), (9, .iconst 1, 1), (10, .putfield 88, 3), (13, .iload_n 1, 1), (14, .ireturn, 1)]
def kCode_97 : List (Nat × Instr × Nat) := [(0, .iload_n 1, 1), (1, .iconst 0, 1), (2, .aload_n 0, 1), (3, .getfield 91, 3), (6, .iconst 1, 1), (7, .isub, 1), (8, .invokestatic 94, 3), (11, .ireturn, 1)]
def kCode_98 : List (Nat × Instr × Nat) := [(0, .aload_n 0, 1), (1, .iload_n 1, 1), (2, .invokevirtual 98, 3), (5, .ifCond .eq 23, 3), (8, .iload_n 2, 1), (9, .iconst 0, 1), (10, .aload_n 0, 1), (11, .getfield 7, 3), (14, .iload_n 1, 1), (15, .iaload, 1), (16, .iconst 1, 1), (17, .isub, 1), (18, .invokestatic 94, 3), (21, .ifCond .eq 7, 3), (24, .iconst 1, 1), (25, .goto 4, 3), (28, .iconst 0, 1), (29, .ireturn, 1)]
def kCode_99 : List (Nat × Instr × Nat) := [(0, .iload_n 0, 1), (1, .bipush 40, 2), (3, .imul, 1), (4, .iload_n 1, 1), (5, .iadd, 1), (6, .bipush 6, 2), (8, .imul, 1), (9, .iload_n 2, 1), (10, .iadd, 1), (11, .ireturn, 1)]
def kCode_100 : List (Nat × Instr × Nat) := [(0, .aload_n 0, 1), (1, .iload_n 1, 1), (2, .iconst 1, 1), (3, .bipush 6, 2), (5, .invokestatic 94, 3), (8, .ifCond .ne 7, 3), (11, .iconst 1, 1), (12, .goto 24, 3), (15, .aload_n 0, 1), (16, .getfield 91, 3), (19, .bipush 6, 2), (21, .if_icmp .eq 10, 3), (24, .aload_n 0, 1), (25, .getfield 102, 3), (28, .ifCond .eq 7, 3), (31, .iconst 2, 1), (32, .goto 4, 3), (35, .iconst 0, 1), (36, .putfield 88, 3), (39, .aload_n 0, 1), (40, .getfield 88, 3), (43, .ifCond .le 5, 3), (46, .iconst 0, 1), (47, .ireturn, 1), (48, .aload_n 0, 1), (49, .getfield 7, 3), (52, .aload_n 0, 1), (53, .getfield 91, 3), (56, .iload_n 1, 1), (57, .iastore, 1), (58, .aload_n 0, 1), (59, .dup, 1), (60, .getfield 91, 3), (63, .iconst 1, 1), (64, .iadd, 1), (65, .putfield 91, 3), (68, .aload_n 0, 1), (69, .iconst 0, 1), (70, .putfield 106, 3), (73, .aload_n 0, 1), (74, .getfield 91, 3), (77, .iconst 1, 1), (78, .isub, 1), (79, .ireturn, 1)]
def kCode_101 : List (Nat × Instr × Nat) := [(0, .aload_n 0, 1), (1, .aload_n 0, 1), (2, .iload_n 1, 1), (3, .iload_n 2, 1), (4, .invokevirtual 109, 3), (7, .ifCond .ne 7, 3), (10, .iconst 1, 1), (11, .goto 29, 3), (14, .aload_n 0, 1), (15, .getfield 102, 3), (18, .ifCond .ne 17, 3), (21, .aload_n 0, 1), (22, .getfield 13, 3), (25, .iload_n 1, 1), (26, .bipush 6, 2), (28, .imul, 1), (29, .iload_n 2, 1), (30, .iadd, 1), (31, .baload, 1), (32, .ifCond .eq 7, 3), (35, .iconst 2, 1), (36, .goto 4, 3), (39, .iconst 0, 1), (40, .putfield 88, 3), (43, .aload_n 0, 1), (44, .getfield 88, 3), (47, .ifCond .le 4, 3), (50, .return_, 1), (51, .aload_n 0, 1), (52, .getfield 13, 3), (55, .iload_n 1, 1), (56, .bipush 6, 2), (58, .imul, 1), (59, .iload_n 2, 1), (60, .iadd, 1), (61, .iconst 1, 1), (62, .bastore, 1), (63, .aload_n 0, 1), (64, .iconst 0, 1), (65, .putfield 106, 3), (68, .return_, 1)]
def kCode_102 : List (Nat × Instr × Nat) := [(0, .aload_n 0, 1), (1, .iload_n 1, 1), (2, .iconst 0, 1), (3, .iconst 5, 1), (4, .invokestatic 94, 3), (7, .invokevirtual 113, 3), (10, .ifCond .eq 10, 3), (13, .aload_n 0, 1), (14, .getfield 23, 3), (17, .iload_n 1, 1), (18, .iload_n 2, 1), (19, .iastore, 1), (20, .return_, 1)]
def kCode_103 : List (Nat × Instr × Nat) := [(0, .aload_n 0, 1), (1, .aload_n 0, 1), (2, .iload_n 1, 1), (3, .invokevirtual 98, 3), (6, .ifCond .ne 7, 3), (9, .iconst 1, 1), (10, .goto 35, 3), (13, .aload_n 0, 1), (14, .getfield 17, 3), (17, .iload_n 1, 1), (18, .iaload, 1), (19, .bipush 40, 2), (21, .if_icmp .eq 19, 3), (24, .aload_n 0, 1), (25, .getfield 102, 3), (28, .ifCond .eq 16, 3), (31, .aload_n 0, 1), (32, .getfield 117, 3), (35, .bipush 120, 2), (37, .if_icmp .ne 7, 3), (40, .iconst 2, 1), (41, .goto 4, 3), (44, .iconst 0, 1), (45, .putfield 88, 3), (48, .aload_n 0, 1), (49, .getfield 88, 3), (52, .ifCond .le 5, 3), (55, .iconst 0, 1), (56, .ireturn, 1), (57, .iconst 0, 1), (58, .istore_n 2, 1), (59, .iload_n 2, 1), (60, .bipush 6, 2), (62, .if_icmp .ge 31, 3), (65, .aload_n 0, 1), (66, .getfield 20, 3), (69, .iload_n 1, 1), (70, .aload_n 0, 1), (71, .getfield 17, 3), (74, .iload_n 1, 1), (75, .iaload, 1), (76, .iload_n 2, 1), (77, .invokestatic 120, 3), (80, .aload_n 0, 1), (81, .getfield 23, 3), (84, .iload_n 2, 1), (85, .iaload, 1), (86, .iastore, 1), (87, .iinc 2 1, 3), (90, .goto (-31), 3), (93, .aload_n 0, 1), (94, .getfield 17, 3), (97, .iload_n 1, 1), (98, .dup2, 1), (99, .iaload, 1), (100, .iconst 1, 1), (101, .iadd, 1), (102, .iastore, 1), (103, .aload_n 0, 1), (104, .dup, 1), (105, .getfield 117, 3), (108, .iconst 1, 1), (109, .iadd, 1), (110, .putfield 117, 3), (113, .aload_n 0, 1), (114, .iconst 0, 1), (115, .putfield 106, 3), (118, .aload_n 0, 1), (119, .getfield 17, 3), (122, .iload_n 1, 1), (123, .iaload, 1), (124, .ireturn, 1)]
def kCode_104 : List (Nat × Instr × Nat) := [(0, .iconst 0, 1), (1, .istore 4, 2), (3, .iconst 0, 1), (4, .istore 5, 2), (6, .iload 5, 2), (8, .aload_n 0, 1), (9, .getfield 17, 3), (12, .iload_n 1, 1), (13, .iaload, 1), (14, .if_icmp .ge 28, 3), (17, .aload_n 0, 1), (18, .getfield 20, 3), (21, .iload_n 1, 1), (22, .iload 5, 2), (24, .iload_n 2, 1), (25, .invokestatic 120, 3), (28, .iaload, 1), (29, .iload_n 3, 1), (30, .if_icmp .ne 6, 3), (33, .iinc 4 1, 3), (36, .iinc 5 1, 3), (39, .goto (-33), 3), (42, .iload 4, 2), (44, .ireturn, 1)]
def kCode_105 : List (Nat × Instr × Nat) := [(0, .aload_n 0, 1), (1, .aload_n 0, 1), (2, .iload_n 1, 1), (3, .iload_n 2, 1), (4, .invokevirtual 109, 3), (7, .ifCond .ne 7, 3), (10, .iconst 1, 1), (11, .goto 32, 3), (14, .aload_n 0, 1), (15, .getfield 102, 3), (18, .ifCond .eq 24, 3), (21, .aload_n 0, 1), (22, .getfield 117, 3), (25, .aload_n 0, 1), (26, .iload_n 1, 1), (27, .iload_n 2, 1), (28, .iload_n 3, 1), (29, .invokevirtual 123, 3), (32, .iadd, 1), (33, .bipush 120, 2), (35, .if_icmp .le 7, 3), (38, .iconst 2, 1), (39, .goto 4, 3), (42, .iconst 0, 1), (43, .putfield 88, 3), (46, .aload_n 0, 1), (47, .getfield 88, 3), (50, .ifCond .le 5, 3), (53, .iconst 0, 1), (54, .ireturn, 1), (55, .aload_n 0, 1), (56, .iload_n 1, 1), (57, .iload_n 2, 1), (58, .iload_n 3, 1), (59, .invokevirtual 123, 3), (62, .istore 4, 2), (64, .iconst 0, 1), (65, .istore 5, 2), (67, .iconst 0, 1), (68, .istore 6, 2), (70, .iload 6, 2), (72, .aload_n 0, 1), (73, .getfield 17, 3), (76, .iload_n 1, 1), (77, .iaload, 1), (78, .if_icmp .ge 73, 3), (81, .aload_n 0, 1), (82, .getfield 20, 3), (85, .iload_n 1, 1), (86, .iload 6, 2), (88, .iload_n 2, 1), (89, .invokestatic 120, 3), (92, .iaload, 1), (93, .iload_n 3, 1), (94, .if_icmp .ne 6, 3), (97, .goto 48, 3), (100, .iconst 0, 1), (101, .istore 7, 2), (103, .iload 7, 2), (105, .bipush 6, 2), (107, .if_icmp .ge 35, 3), (110, .aload_n 0, 1), (111, .getfield 20, 3), (114, .iload_n 1, 1), (115, .iload 5, 2), (117, .iload 7, 2), (119, .invokestatic 120, 3), (122, .aload_n 0, 1), (123, .getfield 20, 3), (126, .iload_n 1, 1), (127, .iload 6, 2), (129, .iload 7, 2), (131, .invokestatic 120, 3), (134, .iaload, 1), (135, .iastore, 1), (136, .iinc 7 1, 3), (139, .goto (-36), 3), (142, .iinc 5 1, 3), (145, .iinc 6 1, 3), (148, .goto (-78), 3), (151, .aload_n 0, 1), (152, .getfield 17, 3), (155, .iload_n 1, 1), (156, .iload 5, 2), (158, .iastore, 1), (159, .aload_n 0, 1), (160, .aload_n 0, 1), (161, .getfield 117, 3), (164, .iload 4, 2), (166, .iadd, 1), (167, .putfield 117, 3), (170, .aload_n 0, 1), (171, .iconst 0, 1), (172, .putfield 106, 3), (175, .iload 4, 2), (177, .ireturn, 1)]
def kCode_106 : List (Nat × Instr × Nat) := [(0, .iload_n 2, 1), (1, .bipush 8, 2), (3, .idiv, 1), (4, .istore 5, 2), (6, .iload_n 2, 1), (7, .bipush 8, 2), (9, .irem, 1), (10, .istore 6, 2), (12, .aload_n 0, 1), (13, .iload_n 2, 1), (14, .ifCond .lt 23, 3), (17, .aload_n 0, 1), (18, .iload_n 1, 1), (19, .iload 5, 2), (21, .invokevirtual 109, 3), (24, .ifCond .eq 13, 3), (27, .aload_n 0, 1), (28, .iload_n 1, 1), (29, .iload 6, 2), (31, .invokevirtual 109, 3), (34, .ifCond .ne 7, 3), (37, .iconst 1, 1), (38, .goto 33, 3), (41, .aload_n 0, 1), (42, .getfield 102, 3), (45, .ifCond .eq 25, 3), (48, .aload_n 0, 1), (49, .getfield 117, 3), (52, .aload_n 0, 1), (53, .iload_n 1, 1), (54, .iload 5, 2), (56, .iload_n 3, 1), (57, .invokevirtual 123, 3), (60, .iadd, 1), (61, .bipush 120, 2), (63, .if_icmp .le 7, 3), (66, .iconst 2, 1), (67, .goto 4, 3), (70, .iconst 0, 1), (71, .putfield 88, 3), (74, .aload_n 0, 1), (75, .getfield 88, 3), (78, .ifCond .le 5, 3), (81, .iconst 0, 1), (82, .ireturn, 1), (83, .iconst 0, 1), (84, .istore 7, 2), (86, .iconst 0, 1), (87, .istore 8, 2), (89, .iload 8, 2), (91, .aload_n 0, 1), (92, .getfield 17, 3), (95, .iload_n 1, 1), (96, .iaload, 1), (97, .if_icmp .ge 47, 3), (100, .aload_n 0, 1), (101, .getfield 20, 3), (104, .iload_n 1, 1), (105, .iload 8, 2), (107, .iload 5, 2), (109, .invokestatic 120, 3), (112, .iaload, 1), (113, .iload_n 3, 1), (114, .if_icmp .eq 6, 3), (117, .goto 21, 3), (120, .aload_n 0, 1), (121, .getfield 20, 3), (124, .iload_n 1, 1), (125, .iload 8, 2), (127, .iload 6, 2), (129, .invokestatic 120, 3), (132, .iload 4, 2), (134, .iastore, 1), (135, .iinc 7 1, 3), (138, .iinc 8 1, 3), (141, .goto (-52), 3), (144, .aload_n 0, 1), (145, .aload_n 0, 1), (146, .getfield 117, 3), (149, .iload 7, 2), (151, .iadd, 1), (152, .putfield 117, 3), (155, .aload_n 0, 1), (156, .iconst 0, 1), (157, .putfield 106, 3), (160, .iload 7, 2), (162, .ireturn, 1)]
def kCode_107 : List (Nat × Instr × Nat) := [(0, .aload_n 0, 1), (1, .aload_n 0, 1), (2, .getfield 102, 3), (5, .ifCond .eq 7, 3), (8, .iconst 1, 1), (9, .goto 4, 3), (12, .iconst 0, 1), (13, .putfield 88, 3), (16, .aload_n 0, 1), (17, .getfield 88, 3), (20, .ifCond .le 4, 3), (23, .return_, 1), (24, .iconst 0, 1), (25, .istore_n 1, 1), (26, .iload_n 1, 1), (27, .aload_n 0, 1), (28, .getfield 20, 3), (31, .arraylength, 1), (32, .if_icmp .ge 21, 3), (35, .aload_n 0, 1), (36, .getfield 29, 3), (39, .iload_n 1, 1), (40, .aload_n 0, 1), (41, .getfield 20, 3), (44, .iload_n 1, 1), (45, .iaload, 1), (46, .iastore, 1), (47, .iinc 1 1, 3), (50, .goto (-24), 3), (53, .iconst 0, 1), (54, .istore_n 1, 1), (55, .iload_n 1, 1), (56, .bipush 6, 2), (58, .if_icmp .ge 21, 3), (61, .aload_n 0, 1), (62, .getfield 26, 3), (65, .iload_n 1, 1), (66, .aload_n 0, 1), (67, .getfield 17, 3), (70, .iload_n 1, 1), (71, .iaload, 1), (72, .iastore, 1), (73, .iinc 1 1, 3), (76, .goto (-21), 3), (79, .aload_n 0, 1), (80, .iconst 1, 1), (81, .putfield 102, 3), (84, .aload_n 0, 1), (85, .iconst 0, 1), (86, .putfield 117, 3), (89, .aload_n 0, 1), (90, .iconst 0, 1), (91, .putfield 106, 3), (94, .return_, 1)]
def kCode_108 : List (Nat × Instr × Nat) := [(0, .aload_n 0, 1), (1, .aload_n 0, 1), (2, .getfield 102, 3), (5, .ifCond .eq 7, 3), (8, .iconst 0, 1), (9, .goto 4, 3), (12, .iconst 1, 1), (13, .putfield 88, 3), (16, .aload_n 0, 1), (17, .getfield 88, 3), (20, .ifCond .le 5, 3), (23, .iconst 0, 1), (24, .ireturn, 1), (25, .aload_n 0, 1), (26, .iconst 0, 1), (27, .putfield 102, 3), (30, .aload_n 0, 1), (31, .iconst 0, 1), (32, .putfield 106, 3), (35, .aload_n 0, 1), (36, .getfield 117, 3), (39, .ireturn, 1)]
def kCode_109 : List (Nat × Instr × Nat) := [(0, .aload_n 0, 1), (1, .invokevirtual 126, 3), (4, .istore_n 1, 1), (5, .aload_n 0, 1), (6, .getfield 88, 3), (9, .ifCond .le 5, 3), (12, .iconst 0, 1), (13, .ireturn, 1), (14, .iconst 0, 1), (15, .istore_n 2, 1), (16, .iload_n 2, 1), (17, .aload_n 0, 1), (18, .getfield 20, 3), (21, .arraylength, 1), (22, .if_icmp .ge 21, 3), (25, .aload_n 0, 1), (26, .getfield 20, 3), (29, .iload_n 2, 1), (30, .aload_n 0, 1), (31, .getfield 29, 3), (34, .iload_n 2, 1), (35, .iaload, 1), (36, .iastore, 1), (37, .iinc 2 1, 3), (40, .goto (-24), 3), (43, .iconst 0, 1), (44, .istore_n 2, 1), (45, .iload_n 2, 1), (46, .bipush 6, 2), (48, .if_icmp .ge 21, 3), (51, .aload_n 0, 1), (52, .getfield 17, 3), (55, .iload_n 2, 1), (56, .aload_n 0, 1), (57, .getfield 26, 3), (60, .iload_n 2, 1), (61, .iaload, 1), (62, .iastore, 1), (63, .iinc 2 1, 3), (66, .goto (-21), 3), (69, .iload_n 1, 1), (70, .ireturn, 1)]
def kCode_110 : List (Nat × Instr × Nat) := [(0, .aload_n 0, 1), (1, .aload_n 0, 1), (2, .iload_n 1, 1), (3, .invokevirtual 98, 3), (6, .ifCond .eq 37, 3), (9, .iload_n 2, 1), (10, .iconst (-1), 1), (11, .if_icmp .eq 28, 3), (14, .iload_n 2, 1), (15, .iconst 0, 1), (16, .aload_n 0, 1), (17, .getfield 17, 3), (20, .iload_n 1, 1), (21, .iaload, 1), (22, .iconst 1, 1), (23, .isub, 1), (24, .invokestatic 94, 3), (27, .ifCond .eq 16, 3), (30, .aload_n 0, 1), (31, .iload_n 1, 1), (32, .iload_n 3, 1), (33, .invokevirtual 109, 3), (36, .ifCond .eq 7, 3), (39, .iconst 1, 1), (40, .goto 4, 3), (43, .iconst 0, 1), (44, .invokevirtual 113, 3), (47, .ifCond .ne 5, 3), (50, .iconst 0, 1), (51, .ireturn, 1), (52, .iload_n 2, 1), (53, .iconst (-1), 1), (54, .if_icmp .ne 12, 3), (57, .aload_n 0, 1), (58, .getfield 17, 3), (61, .iload_n 1, 1), (62, .iaload, 1), (63, .goto 14, 3), (66, .aload_n 0, 1), (67, .getfield 20, 3), (70, .iload_n 1, 1), (71, .iload_n 2, 1), (72, .iload_n 3, 1), (73, .invokestatic 120, 3), (76, .iaload, 1), (77, .ireturn, 1)]
def kCode_111 : List (Nat × Instr × Nat) := [(0, .aload_n 0, 1), (1, .aload_n 0, 1), (2, .getfield 130, 3), (5, .bipush 60, 2), (7, .if_icmp .ne 7, 3), (10, .iconst 1, 1), (11, .goto 4, 3), (14, .iconst 0, 1), (15, .putfield 88, 3), (18, .aload_n 0, 1), (19, .getfield 88, 3), (22, .ifCond .le 5, 3), (25, .iconst 0, 1), (26, .ireturn, 1), (27, .aload_n 0, 1), (28, .getfield 32, 3), (31, .aload_n 0, 1), (32, .getfield 130, 3), (35, .iload_n 1, 1), (36, .iastore, 1), (37, .aload_n 0, 1), (38, .dup, 1), (39, .getfield 130, 3), (42, .iconst 1, 1), (43, .iadd, 1), (44, .putfield 130, 3), (47, .aload_n 0, 1), (48, .getfield 130, 3), (51, .ireturn, 1)]
def kCode_112 : List (Nat × Instr × Nat) := [(0, .aload_n 0, 1), (1, .getfield 133, 3), (4, .ifCond .ge 8, 3), (7, .aload_n 0, 1), (8, .iload_n 1, 1), (9, .putfield 133, 3), (12, .return_, 1)]
def kCode_113 : List (Nat × Instr × Nat) := [(0, .aload_n 0, 1), (1, .getfield 136, 3), (4, .aload_n 0, 1), (5, .getfield 130, 3), (8, .if_icmp .ge 20, 3), (11, .aload_n 0, 1), (12, .getfield 32, 3), (15, .aload_n 0, 1), (16, .getfield 136, 3), (19, .iaload, 1), (20, .iload_n 1, 1), (21, .iload_n 2, 1), (22, .invokestatic 94, 3), (25, .ifCond .ne 29, 3), (28, .aload_n 0, 1), (29, .aload_n 0, 1), (30, .getfield 136, 3), (33, .aload_n 0, 1), (34, .getfield 130, 3), (37, .if_icmp .ge 10, 3), (40, .aload_n 0, 1), (41, .getfield 136, 3), (44, .goto 7, 3), (47, .aload_n 0, 1), (48, .getfield 130, 3), (51, .invokevirtual 139, 3), (54, .aload_n 0, 1), (55, .getfield 133, 3), (58, .ifCond .lt 5, 3), (61, .iconst 0, 1), (62, .ireturn, 1), (63, .aload_n 0, 1), (64, .dup, 1), (65, .getfield 136, 3), (68, .iconst 1, 1), (69, .iadd, 1), (70, .putfield 136, 3), (73, .aload_n 0, 1), (74, .getfield 32, 3), (77, .aload_n 0, 1), (78, .getfield 136, 3), (81, .iconst 1, 1), (82, .isub, 1), (83, .iaload, 1), (84, .ireturn, 1)]
def kCode_114 : List (Nat × Instr × Nat) := [(0, .aload_n 0, 1), (1, .ldc 143, 2), (3, .ldc 144, 2), (5, .invokevirtual 145, 3), (8, .ireturn, 1)]
def kCode_115 : List (Nat × Instr × Nat) := [(0, .iconst 0, 1), (1, .istore_n 1, 1), (2, .iconst 1, 1), (3, .istore_n 2, 1), (4, .iload_n 2, 1), (5, .ifCond .eq 308, 3), (8, .aload_n 0, 1), (9, .getfield 133, 3), (12, .ifCond .ge 301, 3), (15, .aload_n 0, 1), (16, .getfield 136, 3), (19, .istore_n 3, 1), (20, .aload_n 0, 1), (21, .iconst 0, 1), (22, .bipush 10, 2), (24, .invokevirtual 145, 3), (27, .istore 4, 2), (29, .iload_n 1, 1), (30, .bipush 10, 2), (32, .if_icmp .lt 8, 3), (35, .aload_n 0, 1), (36, .iload_n 3, 1), (37, .invokevirtual 139, 3), (40, .aload_n 0, 1), (41, .getfield 133, 3), (44, .ifCond .lt 4, 3), (47, .return_, 1), (48, .aload_n 0, 1), (49, .getfield 149, 3), (52, .istore 5, 2), (54, .aload_n 0, 1), (55, .dup, 1), (56, .getfield 149, 3), (59, .iconst 1, 1), (60, .iadd, 1), (61, .putfield 149, 3), (64, .aload_n 0, 1), (65, .getfield 42, 3), (68, .iload 5, 2), (70, .iload_n 3, 1), (71, .iastore, 1), (72, .aload_n 0, 1), (73, .getfield 45, 3), (76, .iload 5, 2), (78, .iload_n 1, 1), (79, .ifCond .le 14, 3), (82, .aload_n 0, 1), (83, .getfield 73, 3), (86, .iload_n 1, 1), (87, .iconst 1, 1), (88, .isub, 1), (89, .iaload, 1), (90, .goto 4, 3), (93, .iconst (-1), 1), (94, .iastore, 1), (95, .aload_n 0, 1), (96, .getfield 48, 3), (99, .iload 5, 2), (101, .iconst (-1), 1), (102, .iastore, 1), (103, .aload_n 0, 1), (104, .getfield 51, 3), (107, .iload 5, 2), (109, .iconst (-1), 1), (110, .iastore, 1), (111, .aload_n 0, 1), (112, .getfield 79, 3), (115, .iload 5, 2), (117, .iload 5, 2), (119, .iastore, 1), (120, .iload_n 1, 1), (121, .ifCond .le 49, 3), (124, .aload_n 0, 1), (125, .getfield 48, 3), (128, .aload_n 0, 1), (129, .getfield 45, 3), (132, .iload 5, 2), (134, .iaload, 1), (135, .iaload, 1), (136, .ifCond .ge 20, 3), (139, .aload_n 0, 1), (140, .getfield 48, 3), (143, .aload_n 0, 1), (144, .getfield 45, 3), (147, .iload 5, 2), (149, .iaload, 1), (150, .iload 5, 2), (152, .iastore, 1), (153, .goto 17, 3), (156, .aload_n 0, 1), (157, .getfield 51, 3), (160, .aload_n 0, 1), (161, .getfield 45, 3), (164, .iload 5, 2), (166, .iaload, 1), (167, .iload 5, 2), (169, .iastore, 1), (170, .aload_n 0, 1), (171, .iload 4, 2), (173, .invokevirtual 152, 3), (176, .aload_n 0, 1), (177, .getfield 73, 3), (180, .iload_n 1, 1), (181, .iload 5, 2), (183, .iastore, 1), (184, .aload_n 0, 1), (185, .getfield 76, 3), (188, .iload_n 1, 1), (189, .iload 4, 2), (191, .ifCond .ne 7, 3), (194, .iconst 0, 1), (195, .goto 20, 3), (198, .iload 4, 2), (200, .iconst 3, 1), (201, .if_icmp .lt 13, 3), (204, .iload 4, 2), (206, .iconst 5, 1), (207, .if_icmp .gt 7, 3), (210, .iconst 2, 1), (211, .goto 4, 3), (214, .iconst 1, 1), (215, .iastore, 1), (216, .iinc 1 1, 3), (219, .aload_n 0, 1), (220, .getfield 133, 3), (223, .ifCond .ge 77, 3), (226, .iload_n 1, 1), (227, .ifCond .le 73, 3), (230, .aload_n 0, 1), (231, .getfield 76, 3), (234, .iload_n 1, 1), (235, .iconst 1, 1), (236, .isub, 1), (237, .iaload, 1), (238, .ifCond .ne 62, 3), (241, .iinc 1 (-1), 3), (244, .aload_n 0, 1), (245, .aload_n 0, 1), (246, .getfield 73, 3), (249, .iload_n 1, 1), (250, .iaload, 1), (251, .aload_n 0, 1), (252, .aload_n 0, 1), (253, .getfield 73, 3), (256, .iload_n 1, 1), (257, .iaload, 1), (258, .invokevirtual 155, 3), (261, .invokevirtual 159, 3), (264, .aload_n 0, 1), (265, .getfield 79, 3), (268, .aload_n 0, 1), (269, .getfield 73, 3), (272, .iload_n 1, 1), (273, .iaload, 1), (274, .aload_n 0, 1), (275, .getfield 149, 3), (278, .iconst 1, 1), (279, .isub, 1), (280, .iastore, 1), (281, .iload_n 1, 1), (282, .ifCond .le (-63), 3), (285, .aload_n 0, 1), (286, .getfield 76, 3), (289, .iload_n 1, 1), (290, .iconst 1, 1), (291, .isub, 1), (292, .dup2, 1), (293, .iaload, 1), (294, .iconst 1, 1), (295, .isub, 1), (296, .iastore, 1), (297, .goto (-78), 3), (300, .iload_n 1, 1), (301, .ifCond .le 7, 3), (304, .iconst 1, 1), (305, .goto 4, 3), (308, .iconst 0, 1), (309, .istore_n 2, 1), (310, .goto (-306), 3), (313, .return_, 1)]
def kCode_116 : List (Nat × Instr × Nat) := [(0, .iconst 0, 1), (1, .istore_n 2, 1), (2, .iload_n 1, 1), (3, .ifCond .ne 15, 3), (6, .aload_n 0, 1), (7, .iconst 0, 1), (8, .aload_n 0, 1), (9, .getfield 91, 3), (12, .iconst 1, 1), (13, .isub, 1), (14, .invokevirtual 145, 3), (17, .istore_n 2, 1), (18, .iload_n 1, 1), (19, .iconst 1, 1), (20, .if_icmp .eq 20, 3), (23, .iload_n 1, 1), (24, .iconst 4, 1), (25, .if_icmp .eq 15, 3), (28, .iload_n 1, 1), (29, .bipush 7, 2), (31, .if_icmp .eq 9, 3), (34, .iload_n 1, 1), (35, .bipush 10, 2), (37, .if_icmp .ne 8, 3), (40, .aload_n 0, 1), (41, .invokevirtual 163, 3), (44, .istore_n 2, 1), (45, .iload_n 1, 1), (46, .iconst 1, 1), (47, .if_icmp .ne 10, 3), (50, .aload_n 0, 1), (51, .iconst 0, 1), (52, .iconst 5, 1), (53, .invokevirtual 145, 3), (56, .istore_n 2, 1), (57, .iload_n 1, 1), (58, .iconst 1, 1), (59, .if_icmp .eq 8, 3), (62, .iload_n 1, 1), (63, .iconst 4, 1), (64, .if_icmp .ne 8, 3), (67, .aload_n 0, 1), (68, .invokevirtual 163, 3), (71, .istore_n 2, 1), (72, .iload_n 1, 1), (73, .bipush 7, 2), (75, .if_icmp .ne 10, 3), (78, .aload_n 0, 1), (79, .iconst 0, 1), (80, .iconst 1, 1), (81, .invokevirtual 145, 3), (84, .istore_n 2, 1), (85, .iload_n 1, 1), (86, .bipush 10, 2), (88, .if_icmp .ne 10, 3), (91, .aload_n 0, 1), (92, .iconst 0, 1), (93, .iconst 3, 1), (94, .invokevirtual 145, 3), (97, .istore_n 2, 1), (98, .iload_n 1, 1), (99, .bipush 10, 2), (101, .if_icmp .ne 8, 3), (104, .aload_n 0, 1), (105, .invokevirtual 163, 3), (108, .istore_n 2, 1), (109, .iload_n 1, 1), (110, .bipush 8, 2), (112, .if_icmp .ne 11, 3), (115, .aload_n 0, 1), (116, .iconst 0, 1), (117, .bipush 100, 2), (119, .invokevirtual 145, 3), (122, .istore_n 2, 1), (123, .iload_n 1, 1), (124, .iconst 2, 1), (125, .if_icmp .eq 4, 3), (128, .return_, 1), (129, .aload_n 0, 1), (130, .iconst 1, 1), (131, .bipush 8, 2), (133, .invokevirtual 145, 3), (136, .istore_n 2, 1), (137, .iconst 0, 1), (138, .istore_n 3, 1), (139, .iload_n 3, 1), (140, .iload_n 2, 1), (141, .if_icmp .ge 22, 3), (144, .aload_n 0, 1), (145, .getfield 133, 3), (148, .ifCond .ge 15, 3), (151, .aload_n 0, 1), (152, .invokevirtual 163, 3), (155, .istore 4, 2), (157, .iinc 3 1, 3), (160, .goto (-21), 3), (163, .return_, 1)]
def kCode_117 : List (Nat × Instr × Nat) := [(0, .aload_n 0, 1), (1, .getfield 35, 3), (4, .aload_n 0, 1), (5, .getfield 42, 3), (8, .iload_n 1, 1), (9, .iaload, 1), (10, .iload_n 2, 1), (11, .iadd, 1), (12, .iaload, 1), (13, .ireturn, 1)]
def kCode_118 : List (Nat × Instr × Nat) := [(0, .aload_n 0, 1), (1, .iload_n 1, 1), (2, .iconst 0, 1), (3, .invokevirtual 166, 3), (6, .ireturn, 1)]
def kCode_119 : List (Nat × Instr × Nat) := [(0, .aload_n 0, 1), (1, .getfield 48, 3), (4, .iload_n 1, 1), (5, .iaload, 1), (6, .ifCond .ge 7, 3), (9, .iconst 0, 1), (10, .goto 14, 3), (13, .aload_n 0, 1), (14, .getfield 54, 3), (17, .aload_n 0, 1), (18, .getfield 48, 3), (21, .iload_n 1, 1), (22, .iaload, 1), (23, .iaload, 1), (24, .istore_n 3, 1), (25, .aload_n 0, 1), (26, .getfield 51, 3), (29, .iload_n 1, 1), (30, .iaload, 1), (31, .ifCond .ge 7, 3), (34, .iconst 0, 1), (35, .goto 14, 3), (38, .aload_n 0, 1), (39, .getfield 54, 3), (42, .aload_n 0, 1), (43, .getfield 51, 3), (46, .iload_n 1, 1), (47, .iaload, 1), (48, .iaload, 1), (49, .istore 4, 2), (51, .iconst 1, 1), (52, .istore 5, 2), (54, .iload_n 3, 1), (55, .istore 6, 2), (57, .iload_n 2, 1), (58, .ifCond .ne 16, 3), (61, .aload_n 0, 1), (62, .getfield 7, 3), (65, .aload_n 0, 1), (66, .iload_n 1, 1), (67, .iconst 1, 1), (68, .invokevirtual 166, 3), (71, .iaload, 1), (72, .istore 6, 2), (74, .iload_n 2, 1), (75, .iconst 1, 1), (76, .if_icmp .eq 20, 3), (79, .iload_n 2, 1), (80, .bipush 7, 2), (82, .if_icmp .eq 14, 3), (85, .iload_n 2, 1), (86, .bipush 10, 2), (88, .if_icmp .eq 8, 3), (91, .iload_n 2, 1), (92, .iconst 4, 1), (93, .if_icmp .ne 18, 3), (96, .aload_n 0, 1), (97, .iload_n 1, 1), (98, .iconst 1, 1), (99, .invokevirtual 166, 3), (102, .iconst 0, 1), (103, .iload_n 3, 1), (104, .iconst 1, 1), (105, .isub, 1), (106, .invokestatic 94, 3), (109, .istore 5, 2), (111, .iload_n 2, 1), (112, .iconst 4, 1), (113, .if_icmp .ne 32, 3), (116, .iload 5, 2), (118, .ifCond .eq 24, 3), (121, .aload_n 0, 1), (122, .iload_n 1, 1), (123, .iconst 2, 1), (124, .invokevirtual 166, 3), (127, .iconst 0, 1), (128, .iload 4, 2), (130, .iconst 1, 1), (131, .isub, 1), (132, .invokestatic 94, 3), (135, .ifCond .eq 7, 3), (138, .iconst 1, 1), (139, .goto 4, 3), (142, .iconst 0, 1), (143, .istore 5, 2), (145, .iload_n 2, 1), (146, .bipush 10, 2), (148, .if_icmp .ne 31, 3), (151, .iload 5, 2), (153, .ifCond .eq 23, 3), (156, .aload_n 0, 1), (157, .iload_n 1, 1), (158, .iconst 3, 1), (159, .invokevirtual 166, 3), (162, .iconst 0, 1), (163, .iload_n 3, 1), (164, .iconst 1, 1), (165, .isub, 1), (166, .invokestatic 94, 3), (169, .ifCond .eq 7, 3), (172, .iconst 1, 1), (173, .goto 4, 3), (176, .iconst 0, 1), (177, .istore 5, 2), (179, .iload_n 2, 1), (180, .iconst 5, 1), (181, .if_icmp .ne 16, 3), (184, .iload_n 3, 1), (185, .iload 4, 2), (187, .if_icmp .ne 7, 3), (190, .iconst 1, 1), (191, .goto 4, 3), (194, .iconst 0, 1), (195, .istore 5, 2), (197, .iload_n 2, 1), (198, .iconst 3, 1), (199, .if_icmp .eq 8, 3), (202, .iload_n 2, 1), (203, .iconst 4, 1), (204, .if_icmp .ne 9, 3), (207, .iload_n 3, 1), (208, .iload 4, 2), (210, .iadd, 1), (211, .istore 6, 2), (213, .iload_n 2, 1), (214, .bipush 9, 2), (216, .if_icmp .ne 6, 3), (219, .iconst 1, 1), (220, .istore 6, 2), (222, .iload_n 2, 1), (223, .bipush 10, 2), (225, .if_icmp .ne 6, 3), (228, .iconst 2, 1), (229, .istore 6, 2), (231, .iload_n 2, 1), (232, .iconst 2, 1), (233, .if_icmp .ne 58, 3), (236, .aload_n 0, 1), (237, .iload_n 1, 1), (238, .iconst 1, 1), (239, .invokevirtual 166, 3), (242, .istore 6, 2), (244, .iconst 0, 1), (245, .istore 7, 2), (247, .iload 7, 2), (249, .iload 6, 2), (251, .if_icmp .ge 40, 3), (254, .iload 5, 2), (256, .ifCond .eq 26, 3), (259, .aload_n 0, 1), (260, .iload_n 1, 1), (261, .iconst 2, 1), (262, .iload 7, 2), (264, .iadd, 1), (265, .invokevirtual 166, 3), (268, .iconst 0, 1), (269, .iload_n 3, 1), (270, .iconst 1, 1), (271, .isub, 1), (272, .invokestatic 94, 3), (275, .ifCond .eq 7, 3), (278, .iconst 1, 1), (279, .goto 4, 3), (282, .iconst 0, 1), (283, .istore 5, 2), (285, .iinc 7 1, 3), (288, .goto (-41), 3), (291, .aload_n 0, 1), (292, .getfield 54, 3), (295, .iload_n 1, 1), (296, .iload 6, 2), (298, .iastore, 1), (299, .iload 5, 2), (301, .ifCond .eq 10, 3), (304, .iload 6, 2), (306, .bipush 12, 2), (308, .if_icmp .le 13, 3), (311, .aload_n 0, 1), (312, .aload_n 0, 1), (313, .getfield 42, 3), (316, .iload_n 1, 1), (317, .iaload, 1), (318, .invokevirtual 139, 3), (321, .return_, 1)]
def kCode_120 : List (Nat × Instr × Nat) := [(0, .iconst 0, 1), (1, .istore_n 1, 1), (2, .iload_n 1, 1), (3, .aload_n 0, 1), (4, .getfield 130, 3), (7, .if_icmp .ge 21, 3), (10, .aload_n 0, 1), (11, .getfield 35, 3), (14, .iload_n 1, 1), (15, .aload_n 0, 1), (16, .getfield 32, 3), (19, .iload_n 1, 1), (20, .iaload, 1), (21, .iastore, 1), (22, .iinc 1 1, 3), (25, .goto (-23), 3), (28, .aload_n 0, 1), (29, .iconst 0, 1), (30, .putfield 136, 3), (33, .aload_n 0, 1), (34, .iconst (-1), 1), (35, .putfield 133, 3), (38, .aload_n 0, 1), (39, .iconst 0, 1), (40, .putfield 149, 3), (43, .aload_n 0, 1), (44, .iconst 0, 1), (45, .putfield 106, 3), (48, .aload_n 0, 1), (49, .iconst 0, 1), (50, .putfield 169, 3), (53, .aload_n 0, 1), (54, .iconst 0, 1), (55, .putfield 172, 3), (58, .aload_n 0, 1), (59, .invokevirtual 175, 3), (62, .aload_n 0, 1), (63, .getfield 133, 3), (66, .ifCond .ge 22, 3), (69, .aload_n 0, 1), (70, .getfield 136, 3), (73, .aload_n 0, 1), (74, .getfield 130, 3), (77, .if_icmp .ge 11, 3), (80, .aload_n 0, 1), (81, .aload_n 0, 1), (82, .getfield 136, 3), (85, .invokevirtual 139, 3), (88, .aload_n 0, 1), (89, .iconst 0, 1), (90, .putfield 130, 3), (93, .aload_n 0, 1), (94, .aload_n 0, 1), (95, .getfield 133, 3), (98, .putfield 38, 3), (101, .aload_n 0, 1), (102, .aload_n 0, 1), (103, .getfield 133, 3), (106, .ifCond .ge 7, 3), (109, .iconst 1, 1), (110, .goto 4, 3), (113, .iconst 0, 1), (114, .invokevirtual 113, 3), (117, .ifCond .ne 5, 3), (120, .iconst 0, 1), (121, .ireturn, 1), (122, .aload_n 0, 1), (123, .iconst 1, 1), (124, .putfield 106, 3), (127, .aload_n 0, 1), (128, .iconst 0, 1), (129, .putfield 178, 3), (132, .aload_n 0, 1), (133, .iconst 1, 1), (134, .putfield 181, 3), (137, .aload_n 0, 1), (138, .iconst 0, 1), (139, .invokevirtual 184, 3), (142, .aload_n 0, 1), (143, .getfield 54, 3), (146, .iconst 0, 1), (147, .iaload, 1), (148, .ireturn, 1)]
def kCode_121 : List (Nat × Instr × Nat) := [(0, .aload_n 0, 1), (1, .iconst 0, 1), (2, .putfield 88, 3), (5, .aload_n 0, 1), (6, .getfield 38, 3), (9, .ireturn, 1)]
def kCode_122 : List (Nat × Instr × Nat) := [(0, .iload_n 1, 1), (1, .istore_n 2, 1), (2, .iload_n 2, 1), (3, .aload_n 0, 1), (4, .getfield 79, 3), (7, .iload_n 1, 1), (8, .iaload, 1), (9, .if_icmp .gt 30, 3), (12, .aload_n 0, 1), (13, .getfield 82, 3), (16, .iload_n 2, 1), (17, .iconst 0, 1), (18, .iastore, 1), (19, .aload_n 0, 1), (20, .getfield 57, 3), (23, .iload_n 2, 1), (24, .iconst 0, 1), (25, .iastore, 1), (26, .aload_n 0, 1), (27, .getfield 85, 3), (30, .iload_n 2, 1), (31, .iconst 0, 1), (32, .bastore, 1), (33, .iinc 2 1, 3), (36, .goto (-34), 3), (39, .return_, 1)]
def kCode_123 : List (Nat × Instr × Nat) := [(0, .aload_n 0, 1), (1, .iload_n 1, 1), (2, .putfield 178, 3), (5, .aload_n 0, 1), (6, .iconst 1, 1), (7, .putfield 181, 3), (10, .return_, 1)]
def kCode_124 : List (Nat × Instr × Nat) := [(0, .aload_n 0, 1), (1, .iload_n 1, 1), (2, .putfield 178, 3), (5, .aload_n 0, 1), (6, .iconst 0, 1), (7, .putfield 181, 3), (10, .aload_n 0, 1), (11, .iload_n 2, 1), (12, .putfield 187, 3), (15, .return_, 1)]
def kCode_125 : List (Nat × Instr × Nat) := [(0, .aload_n 0, 1), (1, .iload_n 1, 1), (2, .invokevirtual 155, 3), (5, .iconst 1, 1), (6, .if_icmp .ne 58, 3), (9, .aload_n 0, 1), (10, .iload_n 1, 1), (11, .iconst 2, 1), (12, .invokevirtual 166, 3), (15, .ifCond .ne 49, 3), (18, .aload_n 0, 1), (19, .aload_n 0, 1), (20, .getfield 48, 3), (23, .iload_n 1, 1), (24, .iaload, 1), (25, .invokevirtual 155, 3), (28, .ifCond .ne 36, 3), (31, .aload_n 0, 1), (32, .getfield 13, 3), (35, .aload_n 0, 1), (36, .aload_n 0, 1), (37, .getfield 48, 3), (40, .iload_n 1, 1), (41, .iaload, 1), (42, .iconst 1, 1), (43, .invokevirtual 166, 3), (46, .bipush 6, 2), (48, .imul, 1), (49, .aload_n 0, 1), (50, .iload_n 1, 1), (51, .iconst 1, 1), (52, .invokevirtual 166, 3), (55, .iadd, 1), (56, .baload, 1), (57, .ifCond .eq 7, 3), (60, .iconst 1, 1), (61, .goto 4, 3), (64, .iconst 0, 1), (65, .ireturn, 1)]
def kCode_126 : List (Nat × Instr × Nat) := [(0, .aload_n 0, 1), (1, .iload_n 2, 1), (2, .iconst 1, 1), (3, .invokevirtual 166, 3), (6, .istore 4, 2), (8, .aload_n 0, 1), (9, .getfield 82, 3), (12, .iload_n 1, 1), (13, .iaload, 1), (14, .aload_n 0, 1), (15, .getfield 17, 3), (18, .iload 4, 2), (20, .iaload, 1), (21, .if_icmp .ge 46, 3), (24, .iload_n 3, 1), (25, .ifCond .lt 42, 3), (28, .aload_n 0, 1), (29, .getfield 20, 3), (32, .iload 4, 2), (34, .aload_n 0, 1), (35, .getfield 82, 3), (38, .iload_n 1, 1), (39, .iaload, 1), (40, .iload_n 3, 1), (41, .invokestatic 120, 3), (44, .iaload, 1), (45, .aload_n 0, 1), (46, .iload_n 1, 1), (47, .iconst 3, 1), (48, .invokevirtual 166, 3), (51, .if_icmp .eq 16, 3), (54, .aload_n 0, 1), (55, .getfield 82, 3), (58, .iload_n 1, 1), (59, .dup2, 1), (60, .iaload, 1), (61, .iconst 1, 1), (62, .iadd, 1), (63, .iastore, 1), (64, .goto (-56), 3), (67, .aload_n 0, 1), (68, .getfield 82, 3), (71, .iload_n 1, 1), (72, .iaload, 1), (73, .aload_n 0, 1), (74, .getfield 17, 3), (77, .iload 4, 2), (79, .iaload, 1), (80, .if_icmp .ne 11, 3), (83, .aload_n 0, 1), (84, .iload_n 1, 1), (85, .iconst 0, 1), (86, .invokevirtual 190, 3), (89, .iconst 1, 1), (90, .ireturn, 1), (91, .aload_n 0, 1), (92, .getfield 194, 3), (95, .ifCond .ne 5, 3), (98, .iconst 0, 1), (99, .ireturn, 1), (100, .aload_n 0, 1), (101, .dup, 1), (102, .getfield 194, 3), (105, .iconst 1, 1), (106, .isub, 1), (107, .putfield 194, 3), (110, .iconst 0, 1), (111, .istore 5, 2), (113, .iload 5, 2), (115, .aload_n 0, 1), (116, .getfield 7, 3), (119, .iload 4, 2), (121, .iaload, 1), (122, .if_icmp .ge 39, 3), (125, .aload_n 0, 1), (126, .getfield 64, 3), (129, .iload_n 1, 1), (130, .bipush 12, 2), (132, .imul, 1), (133, .iload 5, 2), (135, .iadd, 1), (136, .aload_n 0, 1), (137, .getfield 20, 3), (140, .iload 4, 2), (142, .aload_n 0, 1), (143, .getfield 82, 3), (146, .iload_n 1, 1), (147, .iaload, 1), (148, .iload 5, 2), (150, .invokestatic 120, 3), (153, .iaload, 1), (154, .iastore, 1), (155, .iinc 5 1, 3), (158, .goto (-45), 3), (161, .aload_n 0, 1), (162, .getfield 82, 3), (165, .iload_n 1, 1), (166, .dup2, 1), (167, .iaload, 1), (168, .iconst 1, 1), (169, .iadd, 1), (170, .iastore, 1), (171, .aload_n 0, 1), (172, .iload_n 1, 1), (173, .iconst 1, 1), (174, .invokevirtual 190, 3), (177, .iconst 1, 1), (178, .ireturn, 1)]
def kCode_127 : List (Nat × Instr × Nat) := [(0, .aload_n 0, 1), (1, .getfield 82, 3), (4, .iload_n 1, 1), (5, .iaload, 1), (6, .aload_n 0, 1), (7, .getfield 57, 3), (10, .iload_n 1, 1), (11, .iaload, 1), (12, .if_icmp .ge 7, 3), (15, .iconst 1, 1), (16, .goto 4, 3), (19, .iconst 0, 1), (20, .istore_n 2, 1), (21, .iconst 0, 1), (22, .istore_n 3, 1), (23, .iload_n 3, 1), (24, .aload_n 0, 1), (25, .getfield 54, 3), (28, .iload_n 1, 1), (29, .iaload, 1), (30, .if_icmp .ge 46, 3), (33, .iload_n 2, 1), (34, .ifCond .eq 42, 3), (37, .aload_n 0, 1), (38, .getfield 64, 3), (41, .iload_n 1, 1), (42, .bipush 12, 2), (44, .imul, 1), (45, .iload_n 3, 1), (46, .iadd, 1), (47, .aload_n 0, 1), (48, .getfield 61, 3), (51, .iload_n 1, 1), (52, .sipush 150, 3), (55, .imul, 1), (56, .aload_n 0, 1), (57, .getfield 82, 3), (60, .iload_n 1, 1), (61, .iaload, 1), (62, .iadd, 1), (63, .bipush 12, 2), (65, .imul, 1), (66, .iload_n 3, 1), (67, .iadd, 1), (68, .iaload, 1), (69, .iastore, 1), (70, .iinc 3 1, 3), (73, .goto (-50), 3), (76, .aload_n 0, 1), (77, .getfield 82, 3), (80, .iload_n 1, 1), (81, .dup2, 1), (82, .iaload, 1), (83, .iconst 1, 1), (84, .iadd, 1), (85, .iastore, 1), (86, .aload_n 0, 1), (87, .iload_n 1, 1), (88, .iload_n 2, 1), (89, .invokevirtual 190, 3), (92, .return_, 1)]
def kCode_128 : List (Nat × Instr × Nat) := [(0, .aload_n 0, 1), (1, .iload_n 1, 1), (2, .invokevirtual 155, 3), (5, .istore_n 2, 1), (6, .iload_n 2, 1), (7, .ifCond .ne 11, 3), (10, .aload_n 0, 1), (11, .iload_n 1, 1), (12, .iload_n 1, 1), (13, .iconst (-1), 1), (14, .invokevirtual 197, 3), (17, .ireturn, 1), (18, .aload_n 0, 1), (19, .iload_n 1, 1), (20, .invokevirtual 200, 3), (23, .ifCond .eq 21, 3), (26, .aload_n 0, 1), (27, .iload_n 1, 1), (28, .aload_n 0, 1), (29, .getfield 48, 3), (32, .iload_n 1, 1), (33, .iaload, 1), (34, .aload_n 0, 1), (35, .iload_n 1, 1), (36, .iconst 1, 1), (37, .invokevirtual 166, 3), (40, .invokevirtual 197, 3), (43, .ireturn, 1), (44, .iload_n 2, 1), (45, .bipush 8, 2), (47, .if_icmp .ne 27, 3), (50, .aload_n 0, 1), (51, .getfield 57, 3), (54, .iload_n 1, 1), (55, .iaload, 1), (56, .aload_n 0, 1), (57, .iload_n 1, 1), (58, .iconst 1, 1), (59, .invokevirtual 166, 3), (62, .if_icmp .lt 12, 3), (65, .aload_n 0, 1), (66, .iload_n 1, 1), (67, .iconst 0, 1), (68, .invokevirtual 190, 3), (71, .goto 104, 3), (74, .iload_n 2, 1), (75, .bipush 7, 2), (77, .if_icmp .eq 15, 3), (80, .iload_n 2, 1), (81, .bipush 10, 2), (83, .if_icmp .eq 9, 3), (86, .iload_n 2, 1), (87, .bipush 9, 2), (89, .if_icmp .ne 48, 3), (92, .aload_n 0, 1), (93, .getfield 85, 3), (96, .iload_n 1, 1), (97, .baload, 1), (98, .ifCond .ne 16, 3), (101, .aload_n 0, 1), (102, .aload_n 0, 1), (103, .getfield 48, 3), (106, .iload_n 1, 1), (107, .iaload, 1), (108, .invokevirtual 203, 3), (111, .goto 64, 3), (114, .iload_n 2, 1), (115, .bipush 9, 2), (117, .if_icmp .eq 11, 3), (120, .aload_n 0, 1), (121, .iload_n 1, 1), (122, .invokevirtual 206, 3), (125, .goto 50, 3), (128, .aload_n 0, 1), (129, .iload_n 1, 1), (130, .iconst 0, 1), (131, .invokevirtual 190, 3), (134, .goto 41, 3), (137, .aload_n 0, 1), (138, .iload_n 2, 1), (139, .iconst 3, 1), (140, .if_icmp .lt 26, 3), (143, .iload_n 2, 1), (144, .iconst 5, 1), (145, .if_icmp .gt 21, 3), (148, .aload_n 0, 1), (149, .getfield 85, 3), (152, .iload_n 1, 1), (153, .baload, 1), (154, .ifCond .eq 12, 3), (157, .aload_n 0, 1), (158, .getfield 51, 3), (161, .iload_n 1, 1), (162, .iaload, 1), (163, .goto 9, 3), (166, .aload_n 0, 1), (167, .getfield 48, 3), (170, .iload_n 1, 1), (171, .iaload, 1), (172, .invokevirtual 203, 3), (175, .iconst 1, 1), (176, .ireturn, 1)]
def kCode_129 : List (Nat × Instr × Nat) := [(0, .aload_n 0, 1), (1, .iload_n 1, 1), (2, .invokevirtual 155, 3), (5, .istore_n 3, 1), (6, .iload_n 3, 1), (7, .iconst 5, 1), (8, .if_icmp .ne 33, 3), (11, .iload_n 2, 1), (12, .aload_n 0, 1), (13, .getfield 48, 3), (16, .iload_n 1, 1), (17, .iaload, 1), (18, .if_icmp .ne 23, 3), (21, .aload_n 0, 1), (22, .getfield 85, 3), (25, .iload_n 1, 1), (26, .iconst 1, 1), (27, .bastore, 1), (28, .aload_n 0, 1), (29, .aload_n 0, 1), (30, .getfield 51, 3), (33, .iload_n 1, 1), (34, .iaload, 1), (35, .invokevirtual 203, 3), (38, .goto 113, 3), (41, .iload_n 3, 1), (42, .iconst 3, 1), (43, .if_icmp .eq 8, 3), (46, .iload_n 3, 1), (47, .iconst 4, 1), (48, .if_icmp .ne 33, 3), (51, .iload_n 2, 1), (52, .aload_n 0, 1), (53, .getfield 51, 3), (56, .iload_n 1, 1), (57, .iaload, 1), (58, .if_icmp .ne 23, 3), (61, .aload_n 0, 1), (62, .getfield 85, 3), (65, .iload_n 1, 1), (66, .iconst 0, 1), (67, .bastore, 1), (68, .aload_n 0, 1), (69, .aload_n 0, 1), (70, .getfield 48, 3), (73, .iload_n 1, 1), (74, .iaload, 1), (75, .invokevirtual 203, 3), (78, .goto 73, 3), (81, .iload_n 3, 1), (82, .bipush 7, 2), (84, .if_icmp .eq 9, 3), (87, .iload_n 3, 1), (88, .bipush 10, 2), (90, .if_icmp .ne 18, 3), (93, .aload_n 0, 1), (94, .getfield 85, 3), (97, .iload_n 1, 1), (98, .iconst 1, 1), (99, .bastore, 1), (100, .aload_n 0, 1), (101, .iload_n 1, 1), (102, .invokevirtual 206, 3), (105, .goto 46, 3), (108, .iload_n 3, 1), (109, .bipush 9, 2), (111, .if_icmp .ne 34, 3), (114, .aload_n 0, 1), (115, .getfield 85, 3), (118, .iload_n 1, 1), (119, .iconst 1, 1), (120, .bastore, 1), (121, .aload_n 0, 1), (122, .getfield 64, 3), (125, .iload_n 1, 1), (126, .bipush 12, 2), (128, .imul, 1), (129, .aload_n 0, 1), (130, .getfield 57, 3), (133, .iload_n 1, 1), (134, .iaload, 1), (135, .iastore, 1), (136, .aload_n 0, 1), (137, .iload_n 1, 1), (138, .iconst 1, 1), (139, .invokevirtual 190, 3), (142, .goto 9, 3), (145, .aload_n 0, 1), (146, .iload_n 1, 1), (147, .iconst 0, 1), (148, .invokevirtual 190, 3), (151, .return_, 1)]
def kCode_130 : List (Nat × Instr × Nat) := [(0, .iconst 0, 1), (1, .istore_n 3, 1), (2, .iload_n 3, 1), (3, .aload_n 0, 1), (4, .getfield 54, 3), (7, .iload_n 1, 1), (8, .iaload, 1), (9, .if_icmp .ge 31, 3), (12, .aload_n 0, 1), (13, .getfield 64, 3), (16, .iload_n 1, 1), (17, .bipush 12, 2), (19, .imul, 1), (20, .iload_n 3, 1), (21, .iadd, 1), (22, .aload_n 0, 1), (23, .getfield 64, 3), (26, .iload_n 2, 1), (27, .bipush 12, 2), (29, .imul, 1), (30, .iload_n 3, 1), (31, .iadd, 1), (32, .iaload, 1), (33, .iastore, 1), (34, .iinc 3 1, 3), (37, .goto (-35), 3), (40, .aload_n 0, 1), (41, .iload_n 1, 1), (42, .iconst 1, 1), (43, .invokevirtual 190, 3), (46, .return_, 1)]
def kCode_131 : List (Nat × Instr × Nat) := [(0, .aload_n 0, 1), (1, .iload_n 1, 1), (2, .invokevirtual 155, 3), (5, .tableswitch 199 1 10 #[55, 80, 135, 135, 199, 161, 168, 143, 182, 175], 55), (60, .aload_n 0, 1), (61, .iload_n 1, 1), (62, .iload_n 2, 1), (63, .invokevirtual 208, 3), (66, .ifCond .eq 12, 3), (69, .aload_n 0, 1), (70, .iload_n 1, 1), (71, .iload_n 2, 1), (72, .invokevirtual 211, 3), (75, .goto 8, 3), (78, .aload_n 0, 1), (79, .iload_n 2, 1), (80, .invokevirtual 203, 3), (83, .iconst 1, 1), (84, .ireturn, 1), (85, .iconst 0, 1), (86, .istore_n 3, 1), (87, .iload_n 3, 1), (88, .aload_n 0, 1), (89, .getfield 54, 3), (92, .iload_n 1, 1), (93, .iaload, 1), (94, .if_icmp .ge 38, 3), (97, .aload_n 0, 1), (98, .getfield 64, 3), (101, .iload_n 1, 1), (102, .bipush 12, 2), (104, .imul, 1), (105, .iload_n 3, 1), (106, .iadd, 1), (107, .aload_n 0, 1), (108, .getfield 64, 3), (111, .iload_n 2, 1), (112, .bipush 12, 2), (114, .imul, 1), (115, .aload_n 0, 1), (116, .iload_n 1, 1), (117, .iconst 2, 1), (118, .iload_n 3, 1), (119, .iadd, 1), (120, .invokevirtual 166, 3), (123, .iadd, 1), (124, .iaload, 1), (125, .iastore, 1), (126, .iinc 3 1, 3), (129, .goto (-42), 3), (132, .aload_n 0, 1), (133, .iload_n 1, 1), (134, .iconst 1, 1), (135, .invokevirtual 190, 3), (138, .iconst 1, 1), (139, .ireturn, 1), (140, .aload_n 0, 1), (141, .iload_n 1, 1), (142, .iload_n 2, 1), (143, .invokevirtual 214, 3), (146, .iconst 1, 1), (147, .ireturn, 1), (148, .aload_n 0, 1), (149, .getfield 57, 3), (152, .iload_n 1, 1), (153, .dup2, 1), (154, .iaload, 1), (155, .iconst 1, 1), (156, .iadd, 1), (157, .iastore, 1), (158, .aload_n 0, 1), (159, .iload_n 1, 1), (160, .iload_n 2, 1), (161, .invokevirtual 211, 3), (164, .iconst 1, 1), (165, .ireturn, 1), (166, .aload_n 0, 1), (167, .iload_n 1, 1), (168, .iload_n 2, 1), (169, .invokevirtual 217, 3), (172, .ireturn, 1), (173, .aload_n 0, 1), (174, .iload_n 1, 1), (175, .iload_n 2, 1), (176, .invokevirtual 220, 3), (179, .ireturn, 1), (180, .aload_n 0, 1), (181, .iload_n 1, 1), (182, .iload_n 2, 1), (183, .invokevirtual 223, 3), (186, .ireturn, 1), (187, .aload_n 0, 1), (188, .getfield 57, 3), (191, .iload_n 1, 1), (192, .dup2, 1), (193, .iaload, 1), (194, .iconst 1, 1), (195, .iadd, 1), (196, .iastore, 1), (197, .aload_n 0, 1), (198, .iload_n 2, 1), (199, .invokevirtual 203, 3), (202, .iconst 1, 1), (203, .ireturn, 1), (204, .aload_n 0, 1), (205, .iload_n 1, 1), (206, .iload_n 2, 1), (207, .invokevirtual 211, 3), (210, .iconst 1, 1), (211, .ireturn, 1)]
def kCode_132 : List (Nat × Instr × Nat) := [(0, .aload_n 0, 1), (1, .getfield 54, 3), (4, .aload_n 0, 1), (5, .getfield 48, 3), (8, .iload_n 1, 1), (9, .iaload, 1), (10, .iaload, 1), (11, .istore_n 3, 1), (12, .iload_n 2, 1), (13, .aload_n 0, 1), (14, .getfield 48, 3), (17, .iload_n 1, 1), (18, .iaload, 1), (19, .if_icmp .ne 72, 3), (22, .iconst 0, 1), (23, .istore 4, 2), (25, .iload 4, 2), (27, .iload_n 3, 1), (28, .if_icmp .ge 33, 3), (31, .aload_n 0, 1), (32, .getfield 67, 3), (35, .iload_n 1, 1), (36, .bipush 12, 2), (38, .imul, 1), (39, .iload 4, 2), (41, .iadd, 1), (42, .aload_n 0, 1), (43, .getfield 64, 3), (46, .iload_n 2, 1), (47, .bipush 12, 2), (49, .imul, 1), (50, .iload 4, 2), (52, .iadd, 1), (53, .iaload, 1), (54, .iastore, 1), (55, .iinc 4 1, 3), (58, .goto (-33), 3), (61, .aload_n 0, 1), (62, .getfield 85, 3), (65, .iload_n 1, 1), (66, .iconst 1, 1), (67, .bastore, 1), (68, .aload_n 0, 1), (69, .aload_n 0, 1), (70, .getfield 51, 3), (73, .iload_n 1, 1), (74, .iaload, 1), (75, .invokevirtual 184, 3), (78, .aload_n 0, 1), (79, .aload_n 0, 1), (80, .getfield 51, 3), (83, .iload_n 1, 1), (84, .iaload, 1), (85, .invokevirtual 203, 3), (88, .goto 128, 3), (91, .aload_n 0, 1), (92, .iload_n 1, 1), (93, .invokevirtual 155, 3), (96, .iconst 4, 1), (97, .if_icmp .ne 46, 3), (100, .aload_n 0, 1), (101, .getfield 67, 3), (104, .iload_n 1, 1), (105, .bipush 12, 2), (107, .imul, 1), (108, .aload_n 0, 1), (109, .iload_n 1, 1), (110, .iconst 1, 1), (111, .invokevirtual 166, 3), (114, .iadd, 1), (115, .iaload, 1), (116, .aload_n 0, 1), (117, .getfield 64, 3), (120, .iload_n 2, 1), (121, .bipush 12, 2), (123, .imul, 1), (124, .aload_n 0, 1), (125, .iload_n 1, 1), (126, .iconst 2, 1), (127, .invokevirtual 166, 3), (130, .iadd, 1), (131, .iaload, 1), (132, .if_icmp .eq 11, 3), (135, .aload_n 0, 1), (136, .iload_n 2, 1), (137, .invokevirtual 203, 3), (140, .goto 76, 3), (143, .iconst 0, 1), (144, .istore 4, 2), (146, .iload 4, 2), (148, .aload_n 0, 1), (149, .getfield 54, 3), (152, .iload_n 1, 1), (153, .iaload, 1), (154, .if_icmp .ge 56, 3), (157, .aload_n 0, 1), (158, .getfield 64, 3), (161, .iload_n 1, 1), (162, .bipush 12, 2), (164, .imul, 1), (165, .iload 4, 2), (167, .iadd, 1), (168, .iload 4, 2), (170, .iload_n 3, 1), (171, .if_icmp .ge 18, 3), (174, .aload_n 0, 1), (175, .getfield 67, 3), (178, .iload_n 1, 1), (179, .bipush 12, 2), (181, .imul, 1), (182, .iload 4, 2), (184, .iadd, 1), (185, .iaload, 1), (186, .goto 17, 3), (189, .aload_n 0, 1), (190, .getfield 64, 3), (193, .iload_n 2, 1), (194, .bipush 12, 2), (196, .imul, 1), (197, .iload 4, 2), (199, .iadd, 1), (200, .iload_n 3, 1), (201, .isub, 1), (202, .iaload, 1), (203, .iastore, 1), (204, .iinc 4 1, 3), (207, .goto (-61), 3), (210, .aload_n 0, 1), (211, .iload_n 1, 1), (212, .iconst 1, 1), (213, .invokevirtual 190, 3), (216, .return_, 1)]
def kCode_133 : List (Nat × Instr × Nat) := [(0, .aload_n 0, 1), (1, .getfield 64, 3), (4, .iload_n 2, 1), (5, .bipush 12, 2), (7, .imul, 1), (8, .aload_n 0, 1), (9, .iload_n 1, 1), (10, .iconst 1, 1), (11, .invokevirtual 166, 3), (14, .iadd, 1), (15, .iaload, 1), (16, .istore_n 3, 1), (17, .aload_n 0, 1), (18, .iload_n 1, 1), (19, .iconst 3, 1), (20, .invokevirtual 166, 3), (23, .istore 4, 2), (25, .aload_n 0, 1), (26, .iload_n 1, 1), (27, .iconst 2, 1), (28, .invokevirtual 166, 3), (31, .istore 5, 2), (33, .iload 5, 2), (35, .ifCond .ne 17, 3), (38, .iload_n 3, 1), (39, .iload 4, 2), (41, .if_icmp .ne 7, 3), (44, .iconst 1, 1), (45, .goto 98, 3), (48, .iconst 0, 1), (49, .goto 94, 3), (52, .iload 5, 2), (54, .iconst 1, 1), (55, .if_icmp .ne 17, 3), (58, .iload_n 3, 1), (59, .iload 4, 2), (61, .if_icmp .eq 7, 3), (64, .iconst 1, 1), (65, .goto 78, 3), (68, .iconst 0, 1), (69, .goto 74, 3), (72, .iload 5, 2), (74, .iconst 2, 1), (75, .if_icmp .ne 17, 3), (78, .iload_n 3, 1), (79, .iload 4, 2), (81, .if_icmp .ge 7, 3), (84, .iconst 1, 1), (85, .goto 58, 3), (88, .iconst 0, 1), (89, .goto 54, 3), (92, .iload 5, 2), (94, .iconst 3, 1), (95, .if_icmp .ne 17, 3), (98, .iload_n 3, 1), (99, .iload 4, 2), (101, .if_icmp .gt 7, 3), (104, .iconst 1, 1), (105, .goto 38, 3), (108, .iconst 0, 1), (109, .goto 34, 3), (112, .iload 5, 2), (114, .iconst 4, 1), (115, .if_icmp .ne 17, 3), (118, .iload_n 3, 1), (119, .iload 4, 2), (121, .if_icmp .le 7, 3), (124, .iconst 1, 1), (125, .goto 18, 3), (128, .iconst 0, 1), (129, .goto 14, 3), (132, .iload_n 3, 1), (133, .iload 4, 2), (135, .if_icmp .lt 7, 3), (138, .iconst 1, 1), (139, .goto 4, 3), (142, .iconst 0, 1), (143, .ireturn, 1)]
def kCode_134 : List (Nat × Instr × Nat) := [(0, .aload_n 0, 1), (1, .getfield 57, 3), (4, .iload_n 1, 1), (5, .iaload, 1), (6, .iload_n 2, 1), (7, .if_icmp .lt 7, 3), (10, .iconst 1, 1), (11, .goto 4, 3), (14, .iconst 0, 1), (15, .ireturn, 1)]
def kCode_135 : List (Nat × Instr × Nat) := [(0, .iconst 0, 1), (1, .istore 4, 2), (3, .iload 4, 2), (5, .aload_n 0, 1), (6, .getfield 54, 3), (9, .iload_n 3, 1), (10, .iaload, 1), (11, .if_icmp .ge 44, 3), (14, .aload_n 0, 1), (15, .getfield 61, 3), (18, .iload_n 1, 1), (19, .sipush 150, 3), (22, .imul, 1), (23, .iload_n 2, 1), (24, .iadd, 1), (25, .bipush 12, 2), (27, .imul, 1), (28, .iload 4, 2), (30, .iadd, 1), (31, .iaload, 1), (32, .aload_n 0, 1), (33, .getfield 64, 3), (36, .iload_n 3, 1), (37, .bipush 12, 2), (39, .imul, 1), (40, .iload 4, 2), (42, .iadd, 1), (43, .iaload, 1), (44, .if_icmp .eq 5, 3), (47, .iconst 0, 1), (48, .ireturn, 1), (49, .iinc 4 1, 3), (52, .goto (-49), 3), (55, .iconst 1, 1), (56, .ireturn, 1)]
def kCode_136 : List (Nat × Instr × Nat) := [(0, .iconst 0, 1), (1, .istore 4, 2), (3, .iload 4, 2), (5, .aload_n 0, 1), (6, .getfield 54, 3), (9, .iload_n 3, 1), (10, .iaload, 1), (11, .if_icmp .ge 39, 3), (14, .aload_n 0, 1), (15, .getfield 61, 3), (18, .iload_n 1, 1), (19, .sipush 150, 3), (22, .imul, 1), (23, .iload_n 2, 1), (24, .iadd, 1), (25, .bipush 12, 2), (27, .imul, 1), (28, .iload 4, 2), (30, .iadd, 1), (31, .aload_n 0, 1), (32, .getfield 64, 3), (35, .iload_n 3, 1), (36, .bipush 12, 2), (38, .imul, 1), (39, .iload 4, 2), (41, .iadd, 1), (42, .iaload, 1), (43, .iastore, 1), (44, .iinc 4 1, 3), (47, .goto (-44), 3), (50, .return_, 1)]
def kCode_137 : List (Nat × Instr × Nat) := [(0, .iconst 0, 1), (1, .istore_n 3, 1), (2, .iconst 0, 1), (3, .istore 4, 2), (5, .iload 4, 2), (7, .aload_n 0, 1), (8, .getfield 57, 3), (11, .iload_n 1, 1), (12, .iaload, 1), (13, .if_icmp .ge 30, 3), (16, .iload_n 3, 1), (17, .ifCond .ne 14, 3), (20, .aload_n 0, 1), (21, .iload_n 1, 1), (22, .iload 4, 2), (24, .iload_n 2, 1), (25, .invokevirtual 226, 3), (28, .ifCond .eq 7, 3), (31, .iconst 1, 1), (32, .goto 4, 3), (35, .iconst 0, 1), (36, .istore_n 3, 1), (37, .iinc 4 1, 3), (40, .goto (-35), 3), (43, .iload_n 3, 1), (44, .ifCond .eq 10, 3), (47, .aload_n 0, 1), (48, .iload_n 2, 1), (49, .invokevirtual 203, 3), (52, .iconst 1, 1), (53, .ireturn, 1), (54, .aload_n 0, 1), (55, .iload_n 1, 1), (56, .sipush 150, 3), (59, .invokevirtual 229, 3), (62, .ifCond .eq 5, 3), (65, .iconst 0, 1), (66, .ireturn, 1), (67, .aload_n 0, 1), (68, .iload_n 1, 1), (69, .aload_n 0, 1), (70, .getfield 57, 3), (73, .iload_n 1, 1), (74, .iaload, 1), (75, .iload_n 2, 1), (76, .invokevirtual 232, 3), (79, .aload_n 0, 1), (80, .getfield 57, 3), (83, .iload_n 1, 1), (84, .dup2, 1), (85, .iaload, 1), (86, .iconst 1, 1), (87, .iadd, 1), (88, .iastore, 1), (89, .aload_n 0, 1), (90, .iload_n 1, 1), (91, .iload_n 2, 1), (92, .invokevirtual 211, 3), (95, .iconst 1, 1), (96, .ireturn, 1)]
def kCode_138 : List (Nat × Instr × Nat) := [(0, .aload_n 0, 1), (1, .iload_n 1, 1), (2, .sipush 150, 3), (5, .invokevirtual 229, 3), (8, .ifCond .eq 5, 3), (11, .iconst 0, 1), (12, .ireturn, 1), (13, .aload_n 0, 1), (14, .iload_n 1, 1), (15, .iconst 1, 1), (16, .invokevirtual 166, 3), (19, .istore_n 3, 1), (20, .aload_n 0, 1), (21, .iload_n 1, 1), (22, .iconst 2, 1), (23, .invokevirtual 166, 3), (26, .iconst 1, 1), (27, .if_icmp .ne 7, 3), (30, .iconst 1, 1), (31, .goto 4, 3), (34, .iconst 0, 1), (35, .istore 4, 2), (37, .aload_n 0, 1), (38, .getfield 64, 3), (41, .iload_n 2, 1), (42, .bipush 12, 2), (44, .imul, 1), (45, .iload_n 3, 1), (46, .iadd, 1), (47, .iaload, 1), (48, .istore 5, 2), (50, .aload_n 0, 1), (51, .getfield 57, 3), (54, .iload_n 1, 1), (55, .iaload, 1), (56, .istore 6, 2), (58, .iconst 1, 1), (59, .istore 7, 2), (61, .iload 6, 2), (63, .ifCond .le 138, 3), (66, .iload 7, 2), (68, .ifCond .eq 133, 3), (71, .aload_n 0, 1), (72, .getfield 61, 3), (75, .iload_n 1, 1), (76, .sipush 150, 3), (79, .imul, 1), (80, .iload 6, 2), (82, .iadd, 1), (83, .iconst 1, 1), (84, .isub, 1), (85, .bipush 12, 2), (87, .imul, 1), (88, .iload_n 3, 1), (89, .iadd, 1), (90, .iaload, 1), (91, .istore 8, 2), (93, .iload 4, 2), (95, .ifCond .eq 18, 3), (98, .iload 8, 2), (100, .iload 5, 2), (102, .if_icmp .ge 7, 3), (105, .iconst 1, 1), (106, .goto 19, 3), (109, .iconst 0, 1), (110, .goto 15, 3), (113, .iload 8, 2), (115, .iload 5, 2), (117, .if_icmp .le 7, 3), (120, .iconst 1, 1), (121, .goto 4, 3), (124, .iconst 0, 1), (125, .istore 7, 2), (127, .iload 7, 2), (129, .ifCond .ne 6, 3), (132, .goto (-71), 3), (135, .iconst 0, 1), (136, .istore 9, 2), (138, .iload 9, 2), (140, .aload_n 0, 1), (141, .getfield 54, 3), (144, .iload_n 2, 1), (145, .iaload, 1), (146, .if_icmp .ge 49, 3), (149, .aload_n 0, 1), (150, .getfield 61, 3), (153, .iload_n 1, 1), (154, .sipush 150, 3), (157, .imul, 1), (158, .iload 6, 2), (160, .iadd, 1), (161, .bipush 12, 2), (163, .imul, 1), (164, .iload 9, 2), (166, .iadd, 1), (167, .aload_n 0, 1), (168, .getfield 61, 3), (171, .iload_n 1, 1), (172, .sipush 150, 3), (175, .imul, 1), (176, .iload 6, 2), (178, .iadd, 1), (179, .iconst 1, 1), (180, .isub, 1), (181, .bipush 12, 2), (183, .imul, 1), (184, .iload 9, 2), (186, .iadd, 1), (187, .iaload, 1), (188, .iastore, 1), (189, .iinc 9 1, 3), (192, .goto (-54), 3), (195, .iinc 6 (-1), 3), (198, .goto (-137), 3), (201, .aload_n 0, 1), (202, .iload_n 1, 1), (203, .iload 6, 2), (205, .iload_n 2, 1), (206, .invokevirtual 232, 3), (209, .aload_n 0, 1), (210, .getfield 57, 3), (213, .iload_n 1, 1), (214, .dup2, 1), (215, .iaload, 1), (216, .iconst 1, 1), (217, .iadd, 1), (218, .iastore, 1), (219, .aload_n 0, 1), (220, .iload_n 2, 1), (221, .invokevirtual 203, 3), (224, .iconst 1, 1), (225, .ireturn, 1)]
def kCode_139 : List (Nat × Instr × Nat) := [(0, .aload_n 0, 1), (1, .getfield 64, 3), (4, .iload_n 2, 1), (5, .bipush 12, 2), (7, .imul, 1), (8, .aload_n 0, 1), (9, .iload_n 1, 1), (10, .iconst 1, 1), (11, .invokevirtual 166, 3), (14, .iadd, 1), (15, .iaload, 1), (16, .istore_n 3, 1), (17, .aload_n 0, 1), (18, .getfield 64, 3), (21, .iload_n 2, 1), (22, .bipush 12, 2), (24, .imul, 1), (25, .aload_n 0, 1), (26, .iload_n 1, 1), (27, .iconst 3, 1), (28, .invokevirtual 166, 3), (31, .iadd, 1), (32, .iaload, 1), (33, .istore 4, 2), (35, .aload_n 0, 1), (36, .iload_n 1, 1), (37, .iconst 2, 1), (38, .invokevirtual 166, 3), (41, .istore 5, 2), (43, .iconst 0, 1), (44, .istore 6, 2), (46, .iload 6, 2), (48, .aload_n 0, 1), (49, .getfield 57, 3), (52, .iload_n 1, 1), (53, .iaload, 1), (54, .if_icmp .ge 29, 3), (57, .aload_n 0, 1), (58, .getfield 61, 3), (61, .iload_n 1, 1), (62, .sipush 150, 3), (65, .imul, 1), (66, .iload 6, 2), (68, .iadd, 1), (69, .bipush 12, 2), (71, .imul, 1), (72, .iaload, 1), (73, .iload_n 3, 1), (74, .if_icmp .eq 9, 3), (77, .iinc 6 1, 3), (80, .goto (-34), 3), (83, .iload_n 1, 1), (84, .sipush 150, 3), (87, .imul, 1), (88, .iload 6, 2), (90, .iadd, 1), (91, .bipush 12, 2), (93, .imul, 1), (94, .istore 7, 2), (96, .iload 6, 2), (98, .aload_n 0, 1), (99, .getfield 57, 3), (102, .iload_n 1, 1), (103, .iaload, 1), (104, .if_icmp .ne 63, 3), (107, .aload_n 0, 1), (108, .iload_n 1, 1), (109, .bipush 60, 2), (111, .invokevirtual 229, 3), (114, .ifCond .eq 5, 3), (117, .iconst 0, 1), (118, .ireturn, 1), (119, .aload_n 0, 1), (120, .getfield 61, 3), (123, .iload 7, 2), (125, .iload_n 3, 1), (126, .iastore, 1), (127, .aload_n 0, 1), (128, .getfield 61, 3), (131, .iload 7, 2), (133, .iconst 1, 1), (134, .iadd, 1), (135, .iload 5, 2), (137, .ifCond .ne 7, 3), (140, .iconst 0, 1), (141, .goto 15, 3), (144, .iload 5, 2), (146, .iconst 1, 1), (147, .if_icmp .ne 7, 3), (150, .iconst 0, 1), (151, .goto 5, 3), (154, .iload 4, 2), (156, .iastore, 1), (157, .aload_n 0, 1), (158, .getfield 57, 3), (161, .iload_n 1, 1), (162, .dup2, 1), (163, .iaload, 1), (164, .iconst 1, 1), (165, .iadd, 1), (166, .iastore, 1), (167, .iload 5, 2), (169, .ifCond .ne 16, 3), (172, .aload_n 0, 1), (173, .getfield 61, 3), (176, .iload 7, 2), (178, .iconst 1, 1), (179, .iadd, 1), (180, .dup2, 1), (181, .iaload, 1), (182, .iconst 1, 1), (183, .iadd, 1), (184, .iastore, 1), (185, .iload 5, 2), (187, .iconst 1, 1), (188, .if_icmp .ne 24, 3), (191, .aload_n 0, 1), (192, .getfield 61, 3), (195, .iload 7, 2), (197, .iconst 1, 1), (198, .iadd, 1), (199, .aload_n 0, 1), (200, .getfield 61, 3), (203, .iload 7, 2), (205, .iconst 1, 1), (206, .iadd, 1), (207, .iaload, 1), (208, .iload 4, 2), (210, .iadd, 1), (211, .iastore, 1), (212, .iload 5, 2), (214, .iconst 2, 1), (215, .if_icmp .ne 17, 3), (218, .iload 4, 2), (220, .aload_n 0, 1), (221, .getfield 61, 3), (224, .iload 7, 2), (226, .iconst 1, 1), (227, .iadd, 1), (228, .iaload, 1), (229, .if_icmp .lt 23, 3), (232, .iload 5, 2), (234, .iconst 3, 1), (235, .if_icmp .ne 28, 3), (238, .iload 4, 2), (240, .aload_n 0, 1), (241, .getfield 61, 3), (244, .iload 7, 2), (246, .iconst 1, 1), (247, .iadd, 1), (248, .iaload, 1), (249, .if_icmp .le 14, 3), (252, .aload_n 0, 1), (253, .getfield 61, 3), (256, .iload 7, 2), (258, .iconst 1, 1), (259, .iadd, 1), (260, .iload 4, 2), (262, .iastore, 1), (263, .aload_n 0, 1), (264, .iload_n 2, 1), (265, .invokevirtual 203, 3), (268, .iconst 1, 1), (269, .ireturn, 1)]
def kCode_140 : List (Nat × Instr × Nat) := [(0, .aload_n 0, 1), (1, .iload_n 1, 1), (2, .iconst 1, 1), (3, .sipush 500, 3), (6, .invokestatic 94, 3), (9, .ifCond .ne 7, 3), (12, .iconst 1, 1), (13, .goto 15, 3), (16, .aload_n 0, 1), (17, .getfield 106, 3), (20, .ifCond .eq 7, 3), (23, .iconst 0, 1), (24, .goto 4, 3), (27, .iconst 2, 1), (28, .putfield 88, 3), (31, .aload_n 0, 1), (32, .getfield 88, 3), (35, .ifCond .le 5, 3), (38, .iconst 0, 1), (39, .ireturn, 1), (40, .aload_n 0, 1), (41, .iload_n 1, 1), (42, .putfield 194, 3), (45, .aload_n 0, 1), (46, .getfield 181, 3), (49, .ifCond .ne 8, 3), (52, .aload_n 0, 1), (53, .iconst 0, 1), (54, .invokevirtual 203, 3), (57, .iconst (-1), 1), (58, .istore_n 2, 1), (59, .iload_n 2, 1), (60, .ifCond .ge 101, 3), (63, .aload_n 0, 1), (64, .getfield 181, 3), (67, .ifCond .eq 19, 3), (70, .aload_n 0, 1), (71, .aload_n 0, 1), (72, .getfield 178, 3), (75, .invokevirtual 236, 3), (78, .ifCond .ne (-19), 3), (81, .iconst 2, 1), (82, .istore_n 2, 1), (83, .goto (-24), 3), (86, .aload_n 0, 1), (87, .getfield 178, 3), (90, .ifCond .ne 19, 3), (93, .aload_n 0, 1), (94, .getfield 187, 3), (97, .ifCond .eq 7, 3), (100, .iconst 1, 1), (101, .goto 4, 3), (104, .iconst 0, 1), (105, .istore_n 2, 1), (106, .goto (-47), 3), (109, .aload_n 0, 1), (110, .getfield 187, 3), (113, .ifCond .ne 23, 3), (116, .aload_n 0, 1), (117, .aload_n 0, 1), (118, .getfield 45, 3), (121, .aload_n 0, 1), (122, .getfield 178, 3), (125, .iaload, 1), (126, .aload_n 0, 1), (127, .getfield 178, 3), (130, .invokevirtual 239, 3), (133, .goto (-74), 3), (136, .aload_n 0, 1), (137, .aload_n 0, 1), (138, .getfield 45, 3), (141, .aload_n 0, 1), (142, .getfield 178, 3), (145, .iaload, 1), (146, .aload_n 0, 1), (147, .getfield 178, 3), (150, .invokevirtual 242, 3), (153, .ifCond .ne (-94), 3), (156, .iconst 3, 1), (157, .istore_n 2, 1), (158, .goto (-99), 3), (161, .aload_n 0, 1), (162, .aload_n 0, 1), (163, .getfield 169, 3), (166, .iload_n 1, 1), (167, .iadd, 1), (168, .aload_n 0, 1), (169, .getfield 194, 3), (172, .isub, 1), (173, .putfield 169, 3), (176, .iload_n 2, 1), (177, .ifCond .eq 8, 3), (180, .iload_n 2, 1), (181, .iconst 3, 1), (182, .if_icmp .ne 8, 3), (185, .aload_n 0, 1), (186, .iconst 0, 1), (187, .putfield 106, 3), (190, .iload_n 2, 1), (191, .iconst 1, 1), (192, .if_icmp .eq 5, 3), (195, .iload_n 2, 1), (196, .ireturn, 1), (197, .aload_n 0, 1), (198, .aload_n 0, 1), (199, .getfield 54, 3), (202, .iconst 0, 1), (203, .iaload, 1), (204, .putfield 172, 3), (207, .iconst 0, 1), (208, .istore_n 3, 1), (209, .iload_n 3, 1), (210, .aload_n 0, 1), (211, .getfield 172, 3), (214, .if_icmp .ge 21, 3), (217, .aload_n 0, 1), (218, .getfield 70, 3), (221, .iload_n 3, 1), (222, .aload_n 0, 1), (223, .getfield 64, 3), (226, .iload_n 3, 1), (227, .iaload, 1), (228, .iastore, 1), (229, .iinc 3 1, 3), (232, .goto (-23), 3), (235, .iload_n 2, 1), (236, .ireturn, 1)]
def kCode_141 : List (Nat × Instr × Nat) := [(0, .aload_n 0, 1), (1, .iconst 0, 1), (2, .putfield 88, 3), (5, .iload_n 1, 1), (6, .iconst 0, 1), (7, .aload_n 0, 1), (8, .getfield 172, 3), (11, .iconst 1, 1), (12, .isub, 1), (13, .invokestatic 94, 3), (16, .ifCond .eq 12, 3), (19, .aload_n 0, 1), (20, .getfield 70, 3), (23, .iload_n 1, 1), (24, .iaload, 1), (25, .goto 4, 3), (28, .iconst 0, 1), (29, .ireturn, 1)]
def kCode_142 : List (Nat × Instr × Nat) := [(0, .aload_n 0, 1), (1, .iconst 0, 1), (2, .putfield 88, 3), (5, .aload_n 0, 1), (6, .getfield 169, 3), (9, .ireturn, 1)]
def kCode_143 : List (Nat × Instr × Nat) := [(0, .aload_n 2, 1), (1, .iconst 0, 1), (2, .aload_n 0, 1), (3, .iload_n 1, 1), (4, .invokevirtual 7, 3), (7, .i2l, 1), (8, .lastore, 1), (9, .goto 9, 3), (12, .astore_n 3, 1), (13, .iconst 1, 1), (14, .ireturn, 1), (15, .astore_n 3, 1), (16, .iconst 2, 1), (17, .ireturn, 1), (18, .iconst 0, 1), (19, .ireturn, 1)]
def kCode_144 : List (Nat × Instr × Nat) := [(0, .aload_n 0, 1), (1, .iload_n 1, 1), (2, .iload_n 2, 1), (3, .invokevirtual 17, 3), (6, .goto 9, 3), (9, .astore_n 3, 1), (10, .iconst 1, 1), (11, .ireturn, 1), (12, .astore_n 3, 1), (13, .iconst 2, 1), (14, .ireturn, 1), (15, .iconst 0, 1), (16, .ireturn, 1)]
def kCode_145 : List (Nat × Instr × Nat) := [(0, .aload_n 0, 1), (1, .iload_n 1, 1), (2, .iload_n 2, 1), (3, .invokevirtual 21, 3), (6, .goto 6, 3), (9, .astore_n 3, 1), (10, .iconst 1, 1), (11, .ireturn, 1), (12, .iconst 0, 1), (13, .ireturn, 1)]
def kCode_146 : List (Nat × Instr × Nat) := [(0, .aload_n 2, 1), (1, .iconst 0, 1), (2, .aload_n 0, 1), (3, .iload_n 1, 1), (4, .invokevirtual 24, 3), (7, .i2l, 1), (8, .lastore, 1), (9, .goto 9, 3), (12, .astore_n 3, 1), (13, .iconst 1, 1), (14, .ireturn, 1), (15, .astore_n 3, 1), (16, .iconst 2, 1), (17, .ireturn, 1), (18, .iconst 0, 1), (19, .ireturn, 1)]
def kCode_147 : List (Nat × Instr × Nat) := [(0, .aload 4, 2), (2, .iconst 0, 1), (3, .aload_n 0, 1), (4, .iload_n 1, 1), (5, .iload_n 2, 1), (6, .iload_n 3, 1), (7, .invokevirtual 27, 3), (10, .i2l, 1), (11, .lastore, 1), (12, .goto 11, 3), (15, .astore 5, 2), (17, .iconst 1, 1), (18, .ireturn, 1), (19, .astore 5, 2), (21, .iconst 2, 1), (22, .ireturn, 1), (23, .iconst 0, 1), (24, .ireturn, 1)]
def kCode_148 : List (Nat × Instr × Nat) := [(0, .aload 5, 2), (2, .iconst 0, 1), (3, .aload_n 0, 1), (4, .iload_n 1, 1), (5, .iload_n 2, 1), (6, .iload_n 3, 1), (7, .iload 4, 2), (9, .invokevirtual 31, 3), (12, .i2l, 1), (13, .lastore, 1), (14, .goto 11, 3), (17, .astore 6, 2), (19, .iconst 1, 1), (20, .ireturn, 1), (21, .astore 6, 2), (23, .iconst 2, 1), (24, .ireturn, 1), (25, .iconst 0, 1), (26, .ireturn, 1)]
def kCode_149 : List (Nat × Instr × Nat) := [(0, .aload_n 0, 1), (1, .invokevirtual 35, 3), (4, .goto 6, 3), (7, .astore_n 1, 1), (8, .iconst 1, 1), (9, .ireturn, 1), (10, .iconst 0, 1), (11, .ireturn, 1)]
def kCode_150 : List (Nat × Instr × Nat) := [(0, .aload_n 1, 1), (1, .iconst 0, 1), (2, .aload_n 0, 1), (3, .invokevirtual 38, 3), (6, .i2l, 1), (7, .lastore, 1), (8, .goto 6, 3), (11, .astore_n 2, 1), (12, .iconst 1, 1), (13, .ireturn, 1), (14, .iconst 0, 1), (15, .ireturn, 1)]
def kCode_151 : List (Nat × Instr × Nat) := [(0, .aload_n 1, 1), (1, .iconst 0, 1), (2, .aload_n 0, 1), (3, .invokevirtual 42, 3), (6, .i2l, 1), (7, .lastore, 1), (8, .goto 6, 3), (11, .astore_n 2, 1), (12, .iconst 1, 1), (13, .ireturn, 1), (14, .iconst 0, 1), (15, .ireturn, 1)]
def kCode_152 : List (Nat × Instr × Nat) := [(0, .aload 4, 2), (2, .iconst 0, 1), (3, .aload_n 0, 1), (4, .iload_n 1, 1), (5, .iload_n 2, 1), (6, .iload_n 3, 1), (7, .invokevirtual 45, 3), (10, .i2l, 1), (11, .lastore, 1), (12, .goto 7, 3), (15, .astore 5, 2), (17, .iconst 1, 1), (18, .ireturn, 1), (19, .iconst 0, 1), (20, .ireturn, 1)]
def kCode_153 : List (Nat × Instr × Nat) := [(0, .aload_n 2, 1), (1, .iconst 0, 1), (2, .aload_n 0, 1), (3, .iload_n 1, 1), (4, .invokevirtual 48, 3), (7, .i2l, 1), (8, .lastore, 1), (9, .goto 6, 3), (12, .astore_n 3, 1), (13, .iconst 1, 1), (14, .ireturn, 1), (15, .iconst 0, 1), (16, .ireturn, 1)]
def kCode_154 : List (Nat × Instr × Nat) := [(0, .aload_n 1, 1), (1, .iconst 0, 1), (2, .aload_n 0, 1), (3, .invokevirtual 51, 3), (6, .i2l, 1), (7, .lastore, 1), (8, .goto 6, 3), (11, .astore_n 2, 1), (12, .iconst 1, 1), (13, .ireturn, 1), (14, .iconst 0, 1), (15, .ireturn, 1)]
def kCode_155 : List (Nat × Instr × Nat) := [(0, .aload_n 2, 1), (1, .iconst 0, 1), (2, .aload_n 0, 1), (3, .iload_n 1, 1), (4, .invokevirtual 54, 3), (7, .i2l, 1), (8, .lastore, 1), (9, .goto 9, 3), (12, .astore_n 3, 1), (13, .iconst 1, 1), (14, .ireturn, 1), (15, .astore_n 3, 1), (16, .iconst 2, 1), (17, .ireturn, 1), (18, .iconst 0, 1), (19, .ireturn, 1)]
def kCode_156_0 : List (Nat × Instr × Nat) := [(0, .new 8, 3), (3, .dup, 1), (4, .invokespecial 57, 3), (7, .astore_n 1, 1), (8, .new 58, 3), (11, .dup, 1), (12, .invokespecial 60, 3), (15, .astore_n 2, 1), (16, .iconst 1, 1), (17, .newarray .long, 2), (19, .astore_n 3, 1), (20, .iconst 0, 1), (21, .istore 4, 2), (23, .iload 4, 2), (25, .aload_n 0, 1), (26, .arraylength, 1), (27, .iconst 5, 1), (28, .isub, 1), (29, .if_icmp .gt 872, 3), (32, .aload_n 0, 1), (33, .iload 4, 2), (35, .iaload, 1), (36, .bipush 15, 2), (38, .iand, 1), (39, .tableswitch 856 0 15 #[77, 133, 181, 229, 285, 365, 457, 481, 525, 569, 649, 705, 749, 762, 818, 843], 77), (116, .aload_n 1, 1), (117, .aload_n 0, 1), (118, .iload 4, 2), (120, .iconst 1, 1), (121, .iadd, 1), (122, .iaload, 1), (123, .aload_n 3, 1), (124, .invokestatic 61, 3), (127, .istore 5, 2), (129, .aload_n 2, 1), (130, .aload_n 0, 1), (131, .iload 4, 2), (133, .iconst 1, 1), (134, .iadd, 1), (135, .iaload, 1), (136, .invokevirtual 66, 3), (139, .istore 6, 2), (141, .aload_n 2, 1), (142, .invokevirtual 67, 3), (145, .iload 5, 2), (147, .if_icmp .eq 5, 3), (150, .iconst 0, 1), (151, .ireturn, 1), (152, .iload 5, 2), (154, .ifCond .ne 15, 3), (157, .aload_n 3, 1), (158, .iconst 0, 1), (159, .laload, 1), (160, .iload 6, 2), (162, .i2l, 1), (163, .lcmp, 1), (164, .ifCond .eq 5, 3), (167, .iconst 0, 1), (168, .ireturn, 1), (169, .goto 726, 3), (172, .aload_n 1, 1), (173, .aload_n 0, 1), (174, .iload 4, 2), (176, .iconst 1, 1), (177, .iadd, 1), (178, .iaload, 1)]
def kCode_156_1 : List (Nat × Instr × Nat) := [(179, .aload_n 0, 1), (180, .iload 4, 2), (182, .iconst 2, 1), (183, .iadd, 1), (184, .iaload, 1), (185, .invokestatic 70, 3), (188, .istore 5, 2), (190, .aload_n 2, 1), (191, .aload_n 0, 1), (192, .iload 4, 2), (194, .iconst 1, 1), (195, .iadd, 1), (196, .iaload, 1), (197, .aload_n 0, 1), (198, .iload 4, 2), (200, .iconst 2, 1), (201, .iadd, 1), (202, .iaload, 1), (203, .invokevirtual 73, 3), (206, .aload_n 2, 1), (207, .invokevirtual 67, 3), (210, .iload 5, 2), (212, .if_icmp .eq 5, 3), (215, .iconst 0, 1), (216, .ireturn, 1), (217, .goto 678, 3), (220, .aload_n 1, 1), (221, .aload_n 0, 1), (222, .iload 4, 2), (224, .iconst 1, 1), (225, .iadd, 1), (226, .iaload, 1), (227, .aload_n 0, 1), (228, .iload 4, 2), (230, .iconst 2, 1), (231, .iadd, 1), (232, .iaload, 1), (233, .invokestatic 74, 3), (236, .istore 5, 2), (238, .aload_n 2, 1), (239, .aload_n 0, 1), (240, .iload 4, 2), (242, .iconst 1, 1), (243, .iadd, 1), (244, .iaload, 1), (245, .aload_n 0, 1), (246, .iload 4, 2), (248, .iconst 2, 1), (249, .iadd, 1), (250, .iaload, 1), (251, .invokevirtual 76, 3), (254, .aload_n 2, 1), (255, .invokevirtual 67, 3), (258, .iload 5, 2), (260, .if_icmp .eq 5, 3), (263, .iconst 0, 1), (264, .ireturn, 1), (265, .goto 630, 3), (268, .aload_n 1, 1), (269, .aload_n 0, 1), (270, .iload 4, 2), (272, .iconst 1, 1), (273, .iadd, 1), (274, .iaload, 1), (275, .aload_n 3, 1), (276, .invokestatic 77, 3)]
def kCode_156_2 : List (Nat × Instr × Nat) := [(279, .istore 5, 2), (281, .aload_n 2, 1), (282, .aload_n 0, 1), (283, .iload 4, 2), (285, .iconst 1, 1), (286, .iadd, 1), (287, .iaload, 1), (288, .invokevirtual 79, 3), (291, .istore 6, 2), (293, .aload_n 2, 1), (294, .invokevirtual 67, 3), (297, .iload 5, 2), (299, .if_icmp .eq 5, 3), (302, .iconst 0, 1), (303, .ireturn, 1), (304, .iload 5, 2), (306, .ifCond .ne 15, 3), (309, .aload_n 3, 1), (310, .iconst 0, 1), (311, .laload, 1), (312, .iload 6, 2), (314, .i2l, 1), (315, .lcmp, 1), (316, .ifCond .eq 5, 3), (319, .iconst 0, 1), (320, .ireturn, 1), (321, .goto 574, 3), (324, .aload_n 1, 1), (325, .aload_n 0, 1), (326, .iload 4, 2), (328, .iconst 1, 1), (329, .iadd, 1), (330, .iaload, 1), (331, .aload_n 0, 1), (332, .iload 4, 2), (334, .iconst 2, 1), (335, .iadd, 1), (336, .iaload, 1), (337, .aload_n 0, 1), (338, .iload 4, 2), (340, .iconst 3, 1), (341, .iadd, 1), (342, .iaload, 1), (343, .aload_n 3, 1), (344, .invokestatic 80, 3), (347, .istore 5, 2), (349, .aload_n 2, 1), (350, .aload_n 0, 1), (351, .iload 4, 2), (353, .iconst 1, 1), (354, .iadd, 1), (355, .iaload, 1), (356, .aload_n 0, 1), (357, .iload 4, 2), (359, .iconst 2, 1), (360, .iadd, 1), (361, .iaload, 1), (362, .aload_n 0, 1), (363, .iload 4, 2), (365, .iconst 3, 1), (366, .iadd, 1), (367, .iaload, 1), (368, .invokevirtual 83, 3), (371, .istore 6, 2), (373, .aload_n 2, 1), (374, .invokevirtual 67, 3)]
def kCode_156_3 : List (Nat × Instr × Nat) := [(377, .iload 5, 2), (379, .if_icmp .eq 5, 3), (382, .iconst 0, 1), (383, .ireturn, 1), (384, .iload 5, 2), (386, .ifCond .ne 15, 3), (389, .aload_n 3, 1), (390, .iconst 0, 1), (391, .laload, 1), (392, .iload 6, 2), (394, .i2l, 1), (395, .lcmp, 1), (396, .ifCond .eq 5, 3), (399, .iconst 0, 1), (400, .ireturn, 1), (401, .goto 494, 3), (404, .aload_n 1, 1), (405, .aload_n 0, 1), (406, .iload 4, 2), (408, .iconst 1, 1), (409, .iadd, 1), (410, .iaload, 1), (411, .aload_n 0, 1), (412, .iload 4, 2), (414, .iconst 2, 1), (415, .iadd, 1), (416, .iaload, 1), (417, .aload_n 0, 1), (418, .iload 4, 2), (420, .iconst 3, 1), (421, .iadd, 1), (422, .iaload, 1), (423, .aload_n 0, 1), (424, .iload 4, 2), (426, .iconst 4, 1), (427, .iadd, 1), (428, .iaload, 1), (429, .aload_n 3, 1), (430, .invokestatic 84, 3), (433, .istore 5, 2), (435, .aload_n 2, 1), (436, .aload_n 0, 1), (437, .iload 4, 2), (439, .iconst 1, 1), (440, .iadd, 1), (441, .iaload, 1), (442, .aload_n 0, 1), (443, .iload 4, 2), (445, .iconst 2, 1), (446, .iadd, 1), (447, .iaload, 1), (448, .aload_n 0, 1), (449, .iload 4, 2), (451, .iconst 3, 1), (452, .iadd, 1), (453, .iaload, 1), (454, .aload_n 0, 1), (455, .iload 4, 2), (457, .iconst 4, 1), (458, .iadd, 1), (459, .iaload, 1), (460, .invokevirtual 87, 3), (463, .istore 6, 2), (465, .aload_n 2, 1), (466, .invokevirtual 67, 3), (469, .iload 5, 2)]
def kCode_156_4 : List (Nat × Instr × Nat) := [(471, .if_icmp .eq 5, 3), (474, .iconst 0, 1), (475, .ireturn, 1), (476, .iload 5, 2), (478, .ifCond .ne 15, 3), (481, .aload_n 3, 1), (482, .iconst 0, 1), (483, .laload, 1), (484, .iload 6, 2), (486, .i2l, 1), (487, .lcmp, 1), (488, .ifCond .eq 5, 3), (491, .iconst 0, 1), (492, .ireturn, 1), (493, .goto 402, 3), (496, .aload_n 1, 1), (497, .invokestatic 88, 3), (500, .istore 5, 2), (502, .aload_n 2, 1), (503, .invokevirtual 91, 3), (506, .aload_n 2, 1), (507, .invokevirtual 67, 3), (510, .iload 5, 2), (512, .if_icmp .eq 5, 3), (515, .iconst 0, 1), (516, .ireturn, 1), (517, .goto 378, 3), (520, .aload_n 1, 1), (521, .aload_n 3, 1), (522, .invokestatic 92, 3), (525, .istore 5, 2), (527, .aload_n 2, 1), (528, .invokevirtual 95, 3), (531, .istore 6, 2), (533, .aload_n 2, 1), (534, .invokevirtual 67, 3), (537, .iload 5, 2), (539, .if_icmp .eq 5, 3), (542, .iconst 0, 1), (543, .ireturn, 1), (544, .iload 5, 2), (546, .ifCond .ne 15, 3), (549, .aload_n 3, 1), (550, .iconst 0, 1), (551, .laload, 1), (552, .iload 6, 2), (554, .i2l, 1), (555, .lcmp, 1), (556, .ifCond .eq 5, 3), (559, .iconst 0, 1), (560, .ireturn, 1), (561, .goto 334, 3), (564, .aload_n 1, 1), (565, .aload_n 3, 1), (566, .invokestatic 96, 3), (569, .istore 5, 2), (571, .aload_n 2, 1), (572, .invokevirtual 98, 3), (575, .istore 6, 2), (577, .aload_n 2, 1), (578, .invokevirtual 67, 3), (581, .iload 5, 2), (583, .if_icmp .eq 5, 3), (586, .iconst 0, 1), (587, .ireturn, 1), (588, .iload 5, 2)]
def kCode_156_5 : List (Nat × Instr × Nat) := [(590, .ifCond .ne 15, 3), (593, .aload_n 3, 1), (594, .iconst 0, 1), (595, .laload, 1), (596, .iload 6, 2), (598, .i2l, 1), (599, .lcmp, 1), (600, .ifCond .eq 5, 3), (603, .iconst 0, 1), (604, .ireturn, 1), (605, .goto 290, 3), (608, .aload_n 1, 1), (609, .aload_n 0, 1), (610, .iload 4, 2), (612, .iconst 1, 1), (613, .iadd, 1), (614, .iaload, 1), (615, .aload_n 0, 1), (616, .iload 4, 2), (618, .iconst 2, 1), (619, .iadd, 1), (620, .iaload, 1), (621, .aload_n 0, 1), (622, .iload 4, 2), (624, .iconst 3, 1), (625, .iadd, 1), (626, .iaload, 1), (627, .aload_n 3, 1), (628, .invokestatic 99, 3), (631, .istore 5, 2), (633, .aload_n 2, 1), (634, .aload_n 0, 1), (635, .iload 4, 2), (637, .iconst 1, 1), (638, .iadd, 1), (639, .iaload, 1), (640, .aload_n 0, 1), (641, .iload 4, 2), (643, .iconst 2, 1), (644, .iadd, 1), (645, .iaload, 1), (646, .aload_n 0, 1), (647, .iload 4, 2), (649, .iconst 3, 1), (650, .iadd, 1), (651, .iaload, 1), (652, .invokevirtual 101, 3), (655, .istore 6, 2), (657, .aload_n 2, 1), (658, .invokevirtual 67, 3), (661, .iload 5, 2), (663, .if_icmp .eq 5, 3), (666, .iconst 0, 1), (667, .ireturn, 1), (668, .iload 5, 2), (670, .ifCond .ne 15, 3), (673, .aload_n 3, 1), (674, .iconst 0, 1), (675, .laload, 1), (676, .iload 6, 2), (678, .i2l, 1), (679, .lcmp, 1), (680, .ifCond .eq 5, 3), (683, .iconst 0, 1), (684, .ireturn, 1), (685, .goto 210, 3)]
def kCode_156_6 : List (Nat × Instr × Nat) := [(688, .aload_n 1, 1), (689, .aload_n 0, 1), (690, .iload 4, 2), (692, .iconst 1, 1), (693, .iadd, 1), (694, .iaload, 1), (695, .aload_n 3, 1), (696, .invokestatic 102, 3), (699, .istore 5, 2), (701, .aload_n 2, 1), (702, .aload_n 0, 1), (703, .iload 4, 2), (705, .iconst 1, 1), (706, .iadd, 1), (707, .iaload, 1), (708, .invokevirtual 104, 3), (711, .istore 6, 2), (713, .aload_n 2, 1), (714, .invokevirtual 67, 3), (717, .iload 5, 2), (719, .if_icmp .eq 5, 3), (722, .iconst 0, 1), (723, .ireturn, 1), (724, .iload 5, 2), (726, .ifCond .ne 15, 3), (729, .aload_n 3, 1), (730, .iconst 0, 1), (731, .laload, 1), (732, .iload 6, 2), (734, .i2l, 1), (735, .lcmp, 1), (736, .ifCond .eq 5, 3), (739, .iconst 0, 1), (740, .ireturn, 1), (741, .goto 154, 3), (744, .aload_n 1, 1), (745, .aload_n 3, 1), (746, .invokestatic 105, 3), (749, .istore 5, 2), (751, .aload_n 2, 1), (752, .invokevirtual 107, 3), (755, .istore 6, 2), (757, .aload_n 2, 1), (758, .invokevirtual 67, 3), (761, .iload 5, 2), (763, .if_icmp .eq 5, 3), (766, .iconst 0, 1), (767, .ireturn, 1), (768, .iload 5, 2), (770, .ifCond .ne 15, 3), (773, .aload_n 3, 1), (774, .iconst 0, 1), (775, .laload, 1), (776, .iload 6, 2), (778, .i2l, 1), (779, .lcmp, 1), (780, .ifCond .eq 5, 3), (783, .iconst 0, 1), (784, .ireturn, 1), (785, .goto 110, 3), (788, .aload_n 1, 1), (789, .invokevirtual 108, 3), (792, .aload_n 2, 1), (793, .invokevirtual 111, 3), (796, .if_icmp .eq 99, 3), (799, .iconst 0, 1)]
def kCode_156_7 : List (Nat × Instr × Nat) := [(800, .ireturn, 1), (801, .aload_n 1, 1), (802, .aload_n 0, 1), (803, .iload 4, 2), (805, .iconst 1, 1), (806, .iadd, 1), (807, .iaload, 1), (808, .aload_n 3, 1), (809, .invokestatic 112, 3), (812, .istore 5, 2), (814, .aload_n 2, 1), (815, .aload_n 0, 1), (816, .iload 4, 2), (818, .iconst 1, 1), (819, .iadd, 1), (820, .iaload, 1), (821, .invokevirtual 114, 3), (824, .istore 6, 2), (826, .aload_n 2, 1), (827, .invokevirtual 67, 3), (830, .iload 5, 2), (832, .if_icmp .eq 5, 3), (835, .iconst 0, 1), (836, .ireturn, 1), (837, .iload 5, 2), (839, .ifCond .ne 15, 3), (842, .aload_n 3, 1), (843, .iconst 0, 1), (844, .laload, 1), (845, .iload 6, 2), (847, .i2l, 1), (848, .lcmp, 1), (849, .ifCond .eq 5, 3), (852, .iconst 0, 1), (853, .ireturn, 1), (854, .goto 41, 3), (857, .aload_n 1, 1), (858, .aload_n 0, 1), (859, .iload 4, 2), (861, .iconst 1, 1), (862, .iadd, 1), (863, .iaload, 1), (864, .invokevirtual 115, 3), (867, .aload_n 2, 1), (868, .aload_n 0, 1), (869, .iload 4, 2), (871, .iconst 1, 1), (872, .iadd, 1), (873, .iaload, 1), (874, .invokevirtual 118, 3), (877, .if_icmp .eq 18, 3), (880, .iconst 0, 1), (881, .ireturn, 1), (882, .aload_n 1, 1), (883, .invokevirtual 119, 3), (886, .aload_n 2, 1), (887, .invokevirtual 122, 3), (890, .if_icmp .eq 5, 3), (893, .iconst 0, 1), (894, .ireturn, 1), (895, .iinc 4 5, 3), (898, .goto (-875), 3), (901, .iconst 1, 1), (902, .ireturn, 1)]
def kCode_156 : List (Nat × Instr × Nat) := kCode_156_0 ++ (kCode_156_1 ++ (kCode_156_2 ++ (kCode_156_3 ++ (kCode_156_4 ++ (kCode_156_5 ++ (kCode_156_6 ++ (kCode_156_7)))))))
def kCode_157 : List (Nat × Instr × Nat) := [(0, .iload_n 0, 1), (1, .iload_n 1, 1), (2, .idiv, 1), (3, .istore_n 2, 1), (4, .iload_n 0, 1), (5, .iload_n 1, 1), (6, .ixor, 1), (7, .ifCond .ge 14, 3), (10, .iload_n 2, 1), (11, .iload_n 1, 1), (12, .imul, 1), (13, .iload_n 0, 1), (14, .if_icmp .eq 7, 3), (17, .iload_n 2, 1), (18, .iconst 1, 1), (19, .isub, 1), (20, .ireturn, 1), (21, .iload_n 2, 1), (22, .ireturn, 1)]
def kCode_158 : List (Nat × Instr × Nat) := [(0, .iload_n 0, 1), (1, .iload_n 1, 1), (2, .irem, 1), (3, .istore_n 2, 1), (4, .iload_n 0, 1), (5, .iload_n 1, 1), (6, .ixor, 1), (7, .ifCond .ge 11, 3), (10, .iload_n 2, 1), (11, .ifCond .eq 7, 3), (14, .iload_n 2, 1), (15, .iload_n 1, 1), (16, .iadd, 1), (17, .ireturn, 1), (18, .iload_n 2, 1), (19, .ireturn, 1)]
def kCodes : List (List (Nat × Instr × Nat)) := [kCode_0, kCode_1, kCode_2, kCode_3, kCode_4, kCode_5, kCode_6, kCode_7, kCode_8, kCode_9, kCode_10, kCode_11, kCode_12, kCode_13, kCode_14, kCode_15, kCode_16, kCode_17, kCode_18, kCode_19, kCode_20, kCode_21, kCode_22, kCode_23, kCode_24, kCode_25, kCode_26, kCode_27, kCode_28, kCode_29, kCode_30, kCode_31, kCode_32, kCode_33, kCode_34, kCode_35, kCode_36, kCode_37, kCode_38, kCode_39, kCode_40, kCode_41, kCode_42, kCode_43, kCode_44, kCode_45, kCode_46, kCode_47, kCode_48, kCode_49, kCode_50, kCode_51, kCode_52, kCode_53, kCode_54, kCode_55, kCode_56, kCode_57, kCode_58, kCode_59, kCode_60, kCode_61, kCode_62, kCode_63, kCode_64, kCode_65, kCode_66, kCode_67, kCode_68, kCode_69, kCode_70, kCode_71, kCode_72, kCode_73, kCode_74, kCode_75, kCode_76, kCode_77, kCode_78, kCode_79, kCode_80, kCode_81, kCode_82, kCode_83, kCode_84, kCode_85, kCode_86, kCode_87, kCode_88, kCode_89, kCode_90, kCode_91, kCode_92, kCode_93, kCode_94, kCode_95, kCode_96, kCode_97, kCode_98, kCode_99, kCode_100, kCode_101, kCode_102, kCode_103, kCode_104, kCode_105, kCode_106, kCode_107, kCode_108, kCode_109, kCode_110, kCode_111, kCode_112, kCode_113, kCode_114, kCode_115, kCode_116, kCode_117, kCode_118, kCode_119, kCode_120, kCode_121, kCode_122, kCode_123, kCode_124, kCode_125, kCode_126, kCode_127, kCode_128, kCode_129, kCode_130, kCode_131, kCode_132, kCode_133, kCode_134, kCode_135, kCode_136, kCode_137, kCode_138, kCode_139, kCode_140, kCode_141, kCode_142, kCode_143, kCode_144, kCode_145, kCode_146, kCode_147, kCode_148, kCode_149, kCode_150, kCode_151, kCode_152, kCode_153, kCode_154, kCode_155, kCode_156, kCode_157, kCode_158]
def kI (y pc : Nat) : Option (Instr × Nat) := ((kCodes.getD y []).find? (fun q => q.1 == pc)).map (fun q => q.2)
end
section
theorem kDc_156_0 : ∀ q ∈ kCode_156_0, decode code q.1 = .ok q.2 := by decide +kernel
end
section
theorem kDc_156_1 : ∀ q ∈ kCode_156_1, decode code q.1 = .ok q.2 := by decide +kernel
end
section
theorem kDc_156_2 : ∀ q ∈ kCode_156_2, decode code q.1 = .ok q.2 := by decide +kernel
end
section
theorem kDc_156_3 : ∀ q ∈ kCode_156_3, decode code q.1 = .ok q.2 := by decide +kernel
end
section
theorem kDc_156_4 : ∀ q ∈ kCode_156_4, decode code q.1 = .ok q.2 := by decide +kernel
end
section
theorem kDc_156_5 : ∀ q ∈ kCode_156_5, decode code q.1 = .ok q.2 := by decide +kernel
end
section
theorem kDc_156_6 : ∀ q ∈ kCode_156_6, decode code q.1 = .ok q.2 := by decide +kernel
end
section
theorem kDc_156_7 : ∀ q ∈ kCode_156_7, decode code q.1 = .ok q.2 := by decide +kernel
end
section
theorem kDc_0 : ∀ q ∈ kCode_0, decode prog_1_method_1_code q.1 = .ok q.2 := by decide +kernel
theorem kDc_1 : ∀ q ∈ kCode_1, decode prog_1_method_2_code q.1 = .ok q.2 := by decide +kernel
theorem kDc_2 : ∀ q ∈ kCode_2, decode prog_1_method_3_code q.1 = .ok q.2 := by decide +kernel
theorem kDc_3 : ∀ q ∈ kCode_3, decode prog_1_method_4_code q.1 = .ok q.2 := by decide +kernel
theorem kDc_4 : ∀ q ∈ kCode_4, decode prog_1_method_5_code q.1 = .ok q.2 := by decide +kernel
theorem kDc_5 : ∀ q ∈ kCode_5, decode prog_1_method_6_code q.1 = .ok q.2 := by decide +kernel
theorem kDc_6 : ∀ q ∈ kCode_6, decode prog_1_method_7_code q.1 = .ok q.2 := by decide +kernel
theorem kDc_7 : ∀ q ∈ kCode_7, decode prog_1_method_8_code q.1 = .ok q.2 := by decide +kernel
theorem kDc_8 : ∀ q ∈ kCode_8, decode prog_1_method_9_code q.1 = .ok q.2 := by decide +kernel
theorem kDc_9 : ∀ q ∈ kCode_9, decode prog_1_method_10_code q.1 = .ok q.2 := by decide +kernel
theorem kDc_10 : ∀ q ∈ kCode_10, decode prog_1_method_11_code q.1 = .ok q.2 := by decide +kernel
theorem kDc_11 : ∀ q ∈ kCode_11, decode prog_1_method_12_code q.1 = .ok q.2 := by decide +kernel
theorem kDc_12 : ∀ q ∈ kCode_12, decode prog_1_method_13_code q.1 = .ok q.2 := by decide +kernel
theorem kDc_13 : ∀ q ∈ kCode_13, decode prog_1_method_14_code q.1 = .ok q.2 := by decide +kernel
theorem kDc_14 : ∀ q ∈ kCode_14, decode prog_1_method_15_code q.1 = .ok q.2 := by decide +kernel
theorem kDc_15 : ∀ q ∈ kCode_15, decode prog_1_method_16_code q.1 = .ok q.2 := by decide +kernel
theorem kDc_16 : ∀ q ∈ kCode_16, decode prog_1_method_17_code q.1 = .ok q.2 := by decide +kernel
theorem kDc_17 : ∀ q ∈ kCode_17, decode prog_1_method_18_code q.1 = .ok q.2 := by decide +kernel
theorem kDc_18 : ∀ q ∈ kCode_18, decode prog_1_method_19_code q.1 = .ok q.2 := by decide +kernel
theorem kDc_19 : ∀ q ∈ kCode_19, decode prog_2_method_1_code q.1 = .ok q.2 := by decide +kernel
theorem kDc_20 : ∀ q ∈ kCode_20, decode prog_2_method_2_code q.1 = .ok q.2 := by decide +kernel
theorem kDc_21 : ∀ q ∈ kCode_21, decode prog_2_method_3_code q.1 = .ok q.2 := by decide +kernel
theorem kDc_22 : ∀ q ∈ kCode_22, decode prog_2_method_4_code q.1 = .ok q.2 := by decide +kernel
theorem kDc_23 : ∀ q ∈ kCode_23, decode prog_2_method_5_code q.1 = .ok q.2 := by decide +kernel
theorem kDc_24 : ∀ q ∈ kCode_24, decode prog_2_method_6_code q.1 = .ok q.2 := by decide +kernel
theorem kDc_25 : ∀ q ∈ kCode_25, decode prog_2_method_7_code q.1 = .ok q.2 := by decide +kernel
theorem kDc_26 : ∀ q ∈ kCode_26, decode prog_2_method_8_code q.1 = .ok q.2 := by decide +kernel
theorem kDc_27 : ∀ q ∈ kCode_27, decode prog_2_method_9_code q.1 = .ok q.2 := by decide +kernel
theorem kDc_28 : ∀ q ∈ kCode_28, decode prog_2_method_10_code q.1 = .ok q.2 := by decide +kernel
theorem kDc_29 : ∀ q ∈ kCode_29, decode prog_2_method_11_code q.1 = .ok q.2 := by decide +kernel
theorem kDc_30 : ∀ q ∈ kCode_30, decode prog_3_method_1_code q.1 = .ok q.2 := by decide +kernel
theorem kDc_31 : ∀ q ∈ kCode_31, decode prog_3_method_2_code q.1 = .ok q.2 := by decide +kernel
theorem kDc_32 : ∀ q ∈ kCode_32, decode prog_3_method_3_code q.1 = .ok q.2 := by decide +kernel
theorem kDc_33 : ∀ q ∈ kCode_33, decode prog_3_method_4_code q.1 = .ok q.2 := by decide +kernel
theorem kDc_34 : ∀ q ∈ kCode_34, decode prog_3_method_5_code q.1 = .ok q.2 := by decide +kernel
theorem kDc_35 : ∀ q ∈ kCode_35, decode prog_3_method_6_code q.1 = .ok q.2 := by decide +kernel
theorem kDc_36 : ∀ q ∈ kCode_36, decode prog_3_method_7_code q.1 = .ok q.2 := by decide +kernel
theorem kDc_37 : ∀ q ∈ kCode_37, decode prog_3_method_8_code q.1 = .ok q.2 := by decide +kernel
theorem kDc_38 : ∀ q ∈ kCode_38, decode prog_3_method_9_code q.1 = .ok q.2 := by decide +kernel
theorem kDc_39 : ∀ q ∈ kCode_39, decode prog_3_method_10_code q.1 = .ok q.2 := by decide +kernel
theorem kDc_40 : ∀ q ∈ kCode_40, decode prog_3_method_11_code q.1 = .ok q.2 := by decide +kernel
theorem kDc_41 : ∀ q ∈ kCode_41, decode prog_3_method_12_code q.1 = .ok q.2 := by decide +kernel
theorem kDc_42 : ∀ q ∈ kCode_42, decode prog_3_method_13_code q.1 = .ok q.2 := by decide +kernel
theorem kDc_43 : ∀ q ∈ kCode_43, decode prog_3_method_14_code q.1 = .ok q.2 := by decide +kernel
theorem kDc_44 : ∀ q ∈ kCode_44, decode prog_3_method_15_code q.1 = .ok q.2 := by decide +kernel
theorem kDc_45 : ∀ q ∈ kCode_45, decode prog_4_method_1_code q.1 = .ok q.2 := by decide +kernel
theorem kDc_46 : ∀ q ∈ kCode_46, decode prog_4_method_2_code q.1 = .ok q.2 := by decide +kernel
theorem kDc_47 : ∀ q ∈ kCode_47, decode prog_4_method_3_code q.1 = .ok q.2 := by decide +kernel
theorem kDc_48 : ∀ q ∈ kCode_48, decode prog_4_method_4_code q.1 = .ok q.2 := by decide +kernel
theorem kDc_49 : ∀ q ∈ kCode_49, decode prog_4_method_5_code q.1 = .ok q.2 := by decide +kernel
theorem kDc_50 : ∀ q ∈ kCode_50, decode prog_4_method_6_code q.1 = .ok q.2 := by decide +kernel
theorem kDc_51 : ∀ q ∈ kCode_51, decode prog_4_method_7_code q.1 = .ok q.2 := by decide +kernel
theorem kDc_52 : ∀ q ∈ kCode_52, decode prog_4_method_8_code q.1 = .ok q.2 := by decide +kernel
theorem kDc_53 : ∀ q ∈ kCode_53, decode prog_4_method_9_code q.1 = .ok q.2 := by decide +kernel
theorem kDc_54 : ∀ q ∈ kCode_54, decode prog_4_method_10_code q.1 = .ok q.2 := by decide +kernel
theorem kDc_55 : ∀ q ∈ kCode_55, decode prog_4_method_11_code q.1 = .ok q.2 := by decide +kernel
theorem kDc_56 : ∀ q ∈ kCode_56, decode prog_4_method_12_code q.1 = .ok q.2 := by decide +kernel
theorem kDc_57 : ∀ q ∈ kCode_57, decode prog_4_method_13_code q.1 = .ok q.2 := by decide +kernel
theorem kDc_58 : ∀ q ∈ kCode_58, decode prog_4_method_14_code q.1 = .ok q.2 := by decide +kernel
theorem kDc_59 : ∀ q ∈ kCode_59, decode prog_4_method_15_code q.1 = .ok q.2 := by decide +kernel
theorem kDc_60 : ∀ q ∈ kCode_60, decode prog_4_method_16_code q.1 = .ok q.2 := by decide +kernel
theorem kDc_61 : ∀ q ∈ kCode_61, decode prog_4_method_17_code q.1 = .ok q.2 := by decide +kernel
theorem kDc_62 : ∀ q ∈ kCode_62, decode prog_4_method_18_code q.1 = .ok q.2 := by decide +kernel
theorem kDc_63 : ∀ q ∈ kCode_63, decode prog_4_method_19_code q.1 = .ok q.2 := by decide +kernel
theorem kDc_64 : ∀ q ∈ kCode_64, decode prog_4_method_20_code q.1 = .ok q.2 := by decide +kernel
theorem kDc_65 : ∀ q ∈ kCode_65, decode prog_4_method_21_code q.1 = .ok q.2 := by decide +kernel
theorem kDc_66 : ∀ q ∈ kCode_66, decode prog_4_method_22_code q.1 = .ok q.2 := by decide +kernel
theorem kDc_67 : ∀ q ∈ kCode_67, decode prog_4_method_23_code q.1 = .ok q.2 := by decide +kernel
theorem kDc_68 : ∀ q ∈ kCode_68, decode prog_4_method_24_code q.1 = .ok q.2 := by decide +kernel
theorem kDc_69 : ∀ q ∈ kCode_69, decode prog_4_method_25_code q.1 = .ok q.2 := by decide +kernel
theorem kDc_70 : ∀ q ∈ kCode_70, decode prog_5_method_1_code q.1 = .ok q.2 := by decide +kernel
theorem kDc_71 : ∀ q ∈ kCode_71, decode prog_5_method_2_code q.1 = .ok q.2 := by decide +kernel
theorem kDc_72 : ∀ q ∈ kCode_72, decode prog_5_method_3_code q.1 = .ok q.2 := by decide +kernel
theorem kDc_73 : ∀ q ∈ kCode_73, decode prog_5_method_4_code q.1 = .ok q.2 := by decide +kernel
theorem kDc_74 : ∀ q ∈ kCode_74, decode prog_5_method_5_code q.1 = .ok q.2 := by decide +kernel
theorem kDc_75 : ∀ q ∈ kCode_75, decode prog_5_method_6_code q.1 = .ok q.2 := by decide +kernel
theorem kDc_76 : ∀ q ∈ kCode_76, decode prog_5_method_7_code q.1 = .ok q.2 := by decide +kernel
theorem kDc_77 : ∀ q ∈ kCode_77, decode prog_5_method_8_code q.1 = .ok q.2 := by decide +kernel
theorem kDc_78 : ∀ q ∈ kCode_78, decode prog_5_method_9_code q.1 = .ok q.2 := by decide +kernel
theorem kDc_79 : ∀ q ∈ kCode_79, decode prog_5_method_10_code q.1 = .ok q.2 := by decide +kernel
theorem kDc_80 : ∀ q ∈ kCode_80, decode prog_5_method_11_code q.1 = .ok q.2 := by decide +kernel
theorem kDc_81 : ∀ q ∈ kCode_81, decode prog_5_method_12_code q.1 = .ok q.2 := by decide +kernel
theorem kDc_82 : ∀ q ∈ kCode_82, decode prog_6_method_1_code q.1 = .ok q.2 := by decide +kernel
theorem kDc_83 : ∀ q ∈ kCode_83, decode prog_6_method_2_code q.1 = .ok q.2 := by decide +kernel
theorem kDc_84 : ∀ q ∈ kCode_84, decode prog_6_method_3_code q.1 = .ok q.2 := by decide +kernel
theorem kDc_85 : ∀ q ∈ kCode_85, decode prog_6_method_4_code q.1 = .ok q.2 := by decide +kernel
theorem kDc_86 : ∀ q ∈ kCode_86, decode prog_6_method_5_code q.1 = .ok q.2 := by decide +kernel
theorem kDc_87 : ∀ q ∈ kCode_87, decode prog_6_method_6_code q.1 = .ok q.2 := by decide +kernel
theorem kDc_88 : ∀ q ∈ kCode_88, decode prog_6_method_7_code q.1 = .ok q.2 := by decide +kernel
theorem kDc_89 : ∀ q ∈ kCode_89, decode prog_6_method_8_code q.1 = .ok q.2 := by decide +kernel
theorem kDc_90 : ∀ q ∈ kCode_90, decode prog_7_method_1_code q.1 = .ok q.2 := by decide +kernel
theorem kDc_91 : ∀ q ∈ kCode_91, decode prog_7_method_2_code q.1 = .ok q.2 := by decide +kernel
theorem kDc_92 : ∀ q ∈ kCode_92, decode prog_7_method_3_code q.1 = .ok q.2 := by decide +kernel
theorem kDc_93 : ∀ q ∈ kCode_93, decode prog_9_method_1_code q.1 = .ok q.2 := by decide +kernel
theorem kDc_94 : ∀ q ∈ kCode_94, decode prog_9_method_2_code q.1 = .ok q.2 := by decide +kernel
theorem kDc_95 : ∀ q ∈ kCode_95, decode prog_9_method_3_code q.1 = .ok q.2 := by decide +kernel
theorem kDc_96 : ∀ q ∈ kCode_96, decode prog_9_method_4_code q.1 = .ok q.2 := by decide +kernel
theorem kDc_97 : ∀ q ∈ kCode_97, decode prog_9_method_5_code q.1 = .ok q.2 := by decide +kernel
theorem kDc_98 : ∀ q ∈ kCode_98, decode prog_9_method_6_code q.1 = .ok q.2 := by decide +kernel
theorem kDc_99 : ∀ q ∈ kCode_99, decode prog_9_method_7_code q.1 = .ok q.2 := by decide +kernel
theorem kDc_100 : ∀ q ∈ kCode_100, decode prog_9_method_8_code q.1 = .ok q.2 := by decide +kernel
theorem kDc_101 : ∀ q ∈ kCode_101, decode prog_9_method_9_code q.1 = .ok q.2 := by decide +kernel
theorem kDc_102 : ∀ q ∈ kCode_102, decode prog_9_method_10_code q.1 = .ok q.2 := by decide +kernel
theorem kDc_103 : ∀ q ∈ kCode_103, decode prog_9_method_11_code q.1 = .ok q.2 := by decide +kernel
theorem kDc_104 : ∀ q ∈ kCode_104, decode prog_9_method_12_code q.1 = .ok q.2 := by decide +kernel
theorem kDc_105 : ∀ q ∈ kCode_105, decode prog_9_method_13_code q.1 = .ok q.2 := by decide +kernel
theorem kDc_106 : ∀ q ∈ kCode_106, decode prog_9_method_14_code q.1 = .ok q.2 := by decide +kernel
theorem kDc_107 : ∀ q ∈ kCode_107, decode prog_9_method_15_code q.1 = .ok q.2 := by decide +kernel
theorem kDc_108 : ∀ q ∈ kCode_108, decode prog_9_method_16_code q.1 = .ok q.2 := by decide +kernel
theorem kDc_109 : ∀ q ∈ kCode_109, decode prog_9_method_17_code q.1 = .ok q.2 := by decide +kernel
theorem kDc_110 : ∀ q ∈ kCode_110, decode prog_9_method_18_code q.1 = .ok q.2 := by decide +kernel
theorem kDc_111 : ∀ q ∈ kCode_111, decode prog_9_method_19_code q.1 = .ok q.2 := by decide +kernel
theorem kDc_112 : ∀ q ∈ kCode_112, decode prog_9_method_20_code q.1 = .ok q.2 := by decide +kernel
theorem kDc_113 : ∀ q ∈ kCode_113, decode prog_9_method_21_code q.1 = .ok q.2 := by decide +kernel
theorem kDc_114 : ∀ q ∈ kCode_114, decode prog_9_method_22_code q.1 = .ok q.2 := by decide +kernel
theorem kDc_115 : ∀ q ∈ kCode_115, decode prog_9_method_23_code q.1 = .ok q.2 := by decide +kernel
theorem kDc_116 : ∀ q ∈ kCode_116, decode prog_9_method_24_code q.1 = .ok q.2 := by decide +kernel
theorem kDc_117 : ∀ q ∈ kCode_117, decode prog_9_method_25_code q.1 = .ok q.2 := by decide +kernel
theorem kDc_118 : ∀ q ∈ kCode_118, decode prog_9_method_26_code q.1 = .ok q.2 := by decide +kernel
theorem kDc_119 : ∀ q ∈ kCode_119, decode prog_9_method_27_code q.1 = .ok q.2 := by decide +kernel
theorem kDc_120 : ∀ q ∈ kCode_120, decode prog_9_method_28_code q.1 = .ok q.2 := by decide +kernel
theorem kDc_121 : ∀ q ∈ kCode_121, decode prog_9_method_29_code q.1 = .ok q.2 := by decide +kernel
theorem kDc_122 : ∀ q ∈ kCode_122, decode prog_9_method_30_code q.1 = .ok q.2 := by decide +kernel
theorem kDc_123 : ∀ q ∈ kCode_123, decode prog_9_method_31_code q.1 = .ok q.2 := by decide +kernel
theorem kDc_124 : ∀ q ∈ kCode_124, decode prog_9_method_32_code q.1 = .ok q.2 := by decide +kernel
theorem kDc_125 : ∀ q ∈ kCode_125, decode prog_9_method_33_code q.1 = .ok q.2 := by decide +kernel
theorem kDc_126 : ∀ q ∈ kCode_126, decode prog_9_method_34_code q.1 = .ok q.2 := by decide +kernel
theorem kDc_127 : ∀ q ∈ kCode_127, decode prog_9_method_35_code q.1 = .ok q.2 := by decide +kernel
theorem kDc_128 : ∀ q ∈ kCode_128, decode prog_9_method_36_code q.1 = .ok q.2 := by decide +kernel
theorem kDc_129 : ∀ q ∈ kCode_129, decode prog_9_method_37_code q.1 = .ok q.2 := by decide +kernel
theorem kDc_130 : ∀ q ∈ kCode_130, decode prog_9_method_38_code q.1 = .ok q.2 := by decide +kernel
theorem kDc_131 : ∀ q ∈ kCode_131, decode prog_9_method_39_code q.1 = .ok q.2 := by decide +kernel
theorem kDc_132 : ∀ q ∈ kCode_132, decode prog_9_method_40_code q.1 = .ok q.2 := by decide +kernel
theorem kDc_133 : ∀ q ∈ kCode_133, decode prog_9_method_41_code q.1 = .ok q.2 := by decide +kernel
theorem kDc_134 : ∀ q ∈ kCode_134, decode prog_9_method_42_code q.1 = .ok q.2 := by decide +kernel
theorem kDc_135 : ∀ q ∈ kCode_135, decode prog_9_method_43_code q.1 = .ok q.2 := by decide +kernel
theorem kDc_136 : ∀ q ∈ kCode_136, decode prog_9_method_44_code q.1 = .ok q.2 := by decide +kernel
theorem kDc_137 : ∀ q ∈ kCode_137, decode prog_9_method_45_code q.1 = .ok q.2 := by decide +kernel
theorem kDc_138 : ∀ q ∈ kCode_138, decode prog_9_method_46_code q.1 = .ok q.2 := by decide +kernel
theorem kDc_139 : ∀ q ∈ kCode_139, decode prog_9_method_47_code q.1 = .ok q.2 := by decide +kernel
theorem kDc_140 : ∀ q ∈ kCode_140, decode prog_9_method_48_code q.1 = .ok q.2 := by decide +kernel
theorem kDc_141 : ∀ q ∈ kCode_141, decode prog_9_method_49_code q.1 = .ok q.2 := by decide +kernel
theorem kDc_142 : ∀ q ∈ kCode_142, decode prog_9_method_50_code q.1 = .ok q.2 := by decide +kernel
theorem kDc_143 : ∀ q ∈ kCode_143, decode method_3_code q.1 = .ok q.2 := by decide +kernel
theorem kDc_144 : ∀ q ∈ kCode_144, decode method_4_code q.1 = .ok q.2 := by decide +kernel
theorem kDc_145 : ∀ q ∈ kCode_145, decode method_5_code q.1 = .ok q.2 := by decide +kernel
theorem kDc_146 : ∀ q ∈ kCode_146, decode method_6_code q.1 = .ok q.2 := by decide +kernel
theorem kDc_147 : ∀ q ∈ kCode_147, decode method_7_code q.1 = .ok q.2 := by decide +kernel
theorem kDc_148 : ∀ q ∈ kCode_148, decode method_8_code q.1 = .ok q.2 := by decide +kernel
theorem kDc_149 : ∀ q ∈ kCode_149, decode method_9_code q.1 = .ok q.2 := by decide +kernel
theorem kDc_150 : ∀ q ∈ kCode_150, decode method_10_code q.1 = .ok q.2 := by decide +kernel
theorem kDc_151 : ∀ q ∈ kCode_151, decode method_11_code q.1 = .ok q.2 := by decide +kernel
theorem kDc_152 : ∀ q ∈ kCode_152, decode method_12_code q.1 = .ok q.2 := by decide +kernel
theorem kDc_153 : ∀ q ∈ kCode_153, decode method_13_code q.1 = .ok q.2 := by decide +kernel
theorem kDc_154 : ∀ q ∈ kCode_154, decode method_14_code q.1 = .ok q.2 := by decide +kernel
theorem kDc_155 : ∀ q ∈ kCode_155, decode method_15_code q.1 = .ok q.2 := by decide +kernel
theorem kDc_156 : ∀ q ∈ kCode_156, decode code q.1 = .ok q.2 := by
  intro q hq
  unfold kCode_156 at hq
  rcases List.mem_append.mp hq with hq | hq
  · exact kDc_156_0 q hq
  rcases List.mem_append.mp hq with hq | hq
  · exact kDc_156_1 q hq
  rcases List.mem_append.mp hq with hq | hq
  · exact kDc_156_2 q hq
  rcases List.mem_append.mp hq with hq | hq
  · exact kDc_156_3 q hq
  rcases List.mem_append.mp hq with hq | hq
  · exact kDc_156_4 q hq
  rcases List.mem_append.mp hq with hq | hq
  · exact kDc_156_5 q hq
  rcases List.mem_append.mp hq with hq | hq
  · exact kDc_156_6 q hq
  exact kDc_156_7 q hq
theorem kDc_157 : ∀ q ∈ kCode_157, decode prog_13_method_47_code q.1 = .ok q.2 := by decide +kernel
theorem kDc_158 : ∀ q ∈ kCode_158, decode prog_13_method_50_code q.1 = .ok q.2 := by decide +kernel
def kAll2 : List ByteArray → List (List (Nat × Instr × Nat)) → Prop
  | b :: bs, c :: cs => (∀ q ∈ c, decode b q.1 = .ok q.2) ∧ kAll2 bs cs
  | _, [] => True
  | [], _ :: _ => False
theorem kAll2_ok : kAll2 kByL kCodes := ⟨kDc_0, kDc_1, kDc_2, kDc_3, kDc_4, kDc_5, kDc_6, kDc_7, kDc_8, kDc_9, kDc_10, kDc_11, kDc_12, kDc_13, kDc_14, kDc_15, kDc_16, kDc_17, kDc_18, kDc_19, kDc_20, kDc_21, kDc_22, kDc_23, kDc_24, kDc_25, kDc_26, kDc_27, kDc_28, kDc_29, kDc_30, kDc_31, kDc_32, kDc_33, kDc_34, kDc_35, kDc_36, kDc_37, kDc_38, kDc_39, kDc_40, kDc_41, kDc_42, kDc_43, kDc_44, kDc_45, kDc_46, kDc_47, kDc_48, kDc_49, kDc_50, kDc_51, kDc_52, kDc_53, kDc_54, kDc_55, kDc_56, kDc_57, kDc_58, kDc_59, kDc_60, kDc_61, kDc_62, kDc_63, kDc_64, kDc_65, kDc_66, kDc_67, kDc_68, kDc_69, kDc_70, kDc_71, kDc_72, kDc_73, kDc_74, kDc_75, kDc_76, kDc_77, kDc_78, kDc_79, kDc_80, kDc_81, kDc_82, kDc_83, kDc_84, kDc_85, kDc_86, kDc_87, kDc_88, kDc_89, kDc_90, kDc_91, kDc_92, kDc_93, kDc_94, kDc_95, kDc_96, kDc_97, kDc_98, kDc_99, kDc_100, kDc_101, kDc_102, kDc_103, kDc_104, kDc_105, kDc_106, kDc_107, kDc_108, kDc_109, kDc_110, kDc_111, kDc_112, kDc_113, kDc_114, kDc_115, kDc_116, kDc_117, kDc_118, kDc_119, kDc_120, kDc_121, kDc_122, kDc_123, kDc_124, kDc_125, kDc_126, kDc_127, kDc_128, kDc_129, kDc_130, kDc_131, kDc_132, kDc_133, kDc_134, kDc_135, kDc_136, kDc_137, kDc_138, kDc_139, kDc_140, kDc_141, kDc_142, kDc_143, kDc_144, kDc_145, kDc_146, kDc_147, kDc_148, kDc_149, kDc_150, kDc_151, kDc_152, kDc_153, kDc_154, kDc_155, kDc_156, kDc_157, kDc_158, trivial⟩
theorem kAll2_at : ∀ (bs : List ByteArray) (cs : List (List (Nat × Instr × Nat))), kAll2 bs cs → ∀ (y : Nat) (q : Nat × Instr × Nat), q ∈ cs.getD y [] → decode (bs.getD y ⟨#[]⟩) q.1 = .ok q.2
  | b :: bs, c :: cs, h, 0, q, hq => h.1 q hq
  | b :: bs, c :: cs, h, y + 1, q, hq => kAll2_at bs cs h.2 y q hq
  | bs, [], _, y, q, hq => by simp at hq
  | [], c :: cs, h, _, _, _ => h.elim
theorem kDec {y pc : Nat} {i : Instr} {n : Nat} (h : kI y pc = some (i, n)) : decode (kBytes y) pc = .ok (i, n) := by
  unfold kI at h
  cases hf : (kCodes.getD y []).find? (fun q => q.1 == pc) with
  | none => rw [hf] at h; cases h
  | some q =>
    rw [hf] at h
    have hm := List.mem_of_find?_eq_some hf
    have hp := List.find?_some hf
    have hpc : q.1 = pc := by simpa using hp
    have h2 : q.2 = (i, n) := Option.some.inj h
    have := kAll2_at kByL kCodes kAll2_ok y q hm
    rw [hpc, h2] at this
    exact this
end
section
theorem f_0_10 : kFld 0 10 = some (0, 0) := by decide +kernel
theorem f_0_16 : kFld 0 16 = some (0, 1) := by decide +kernel
theorem f_0_23 : kFld 0 23 = some (0, 2) := by decide +kernel
theorem f_0_30 : kFld 0 30 = some (0, 3) := by decide +kernel
theorem f_0_34 : kFld 0 34 = some (0, 4) := by decide +kernel
theorem f_0_37 : kFld 0 37 = some (0, 5) := by decide +kernel
theorem f_0_41 : kFld 0 41 = some (0, 6) := by decide +kernel
theorem f_0_52 : kFld 0 52 = some (5, 1) := by decide +kernel
theorem f_0_55 : kFld 0 55 = some (5, 2) := by decide +kernel
theorem f_0_80 : kFld 0 80 = some (4, 1) := by decide +kernel
theorem f_0_90 : kFld 0 90 = some (4, 4) := by decide +kernel
theorem f_0_150 : kFld 0 150 = some (2, 1) := by decide +kernel
theorem f_0_166 : kFld 0 166 = some (6, 9) := by decide +kernel
theorem f_0_171 : kFld 0 171 = some (2, 2) := by decide +kernel
theorem f_0_185 : kFld 0 185 = some (3, 1) := by decide +kernel
theorem f_0_188 : kFld 0 188 = some (6, 10) := by decide +kernel
theorem f_1_9 : kFld 1 9 = some (1, 0) := by decide +kernel
theorem f_1_15 : kFld 1 15 = some (1, 1) := by decide +kernel
theorem f_1_18 : kFld 1 18 = some (1, 2) := by decide +kernel
theorem f_1_22 : kFld 1 22 = some (1, 3) := by decide +kernel
theorem f_2_9 : kFld 2 9 = some (2, 0) := by decide +kernel
theorem f_2_17 : kFld 2 17 = some (2, 4) := by decide +kernel
theorem f_2_21 : kFld 2 21 = some (2, 2) := by decide +kernel
theorem f_2_25 : kFld 2 25 = some (2, 1) := by decide +kernel
theorem f_2_28 : kFld 2 28 = some (2, 3) := by decide +kernel
theorem f_2_31 : kFld 2 31 = some (2, 5) := by decide +kernel
theorem f_2_66 : kFld 2 66 = some (6, 0) := by decide +kernel
theorem f_2_73 : kFld 2 73 = some (6, 7) := by decide +kernel
theorem f_2_77 : kFld 2 77 = some (6, 8) := by decide +kernel
theorem f_2_84 : kFld 2 84 = some (6, 9) := by decide +kernel
theorem f_2_91 : kFld 2 91 = some (5, 1) := by decide +kernel
theorem f_2_98 : kFld 2 98 = some (6, 6) := by decide +kernel
theorem f_2_102 : kFld 2 102 = some (6, 1) := by decide +kernel
theorem f_2_105 : kFld 2 105 = some (6, 3) := by decide +kernel
theorem f_2_108 : kFld 2 108 = some (6, 4) := by decide +kernel
theorem f_2_111 : kFld 2 111 = some (6, 5) := by decide +kernel
theorem f_2_114 : kFld 2 114 = some (6, 2) := by decide +kernel
theorem f_2_120 : kFld 2 120 = some (4, 0) := by decide +kernel
theorem f_2_137 : kFld 2 137 = some (4, 1) := by decide +kernel
theorem f_3_9 : kFld 3 9 = some (3, 1) := by decide +kernel
theorem f_3_19 : kFld 3 19 = some (3, 0) := by decide +kernel
theorem f_3_31 : kFld 3 31 = some (6, 7) := by decide +kernel
theorem f_3_35 : kFld 3 35 = some (6, 8) := by decide +kernel
theorem f_3_38 : kFld 3 38 = some (6, 0) := by decide +kernel
theorem f_3_45 : kFld 3 45 = some (6, 6) := by decide +kernel
theorem f_3_76 : kFld 3 76 = some (6, 12) := by decide +kernel
theorem f_3_83 : kFld 3 83 = some (6, 1) := by decide +kernel
theorem f_3_86 : kFld 3 86 = some (6, 4) := by decide +kernel
theorem f_3_99 : kFld 3 99 = some (6, 10) := by decide +kernel
theorem f_3_111 : kFld 3 111 = some (6, 3) := by decide +kernel
theorem f_3_121 : kFld 3 121 = some (6, 9) := by decide +kernel
theorem f_3_124 : kFld 3 124 = some (6, 5) := by decide +kernel
theorem f_3_127 : kFld 3 127 = some (6, 13) := by decide +kernel
theorem f_3_138 : kFld 3 138 = some (6, 2) := by decide +kernel
theorem f_3_141 : kFld 3 141 = some (6, 14) := by decide +kernel
theorem f_3_148 : kFld 3 148 = some (6, 11) := by decide +kernel
theorem f_3_161 : kFld 3 161 = some (6, 15) := by decide +kernel
theorem f_3_167 : kFld 3 167 = some (1, 3) := by decide +kernel
theorem f_4_9 : kFld 4 9 = some (4, 0) := by decide +kernel
theorem f_4_15 : kFld 4 15 = some (4, 1) := by decide +kernel
theorem f_4_19 : kFld 4 19 = some (4, 2) := by decide +kernel
theorem f_4_23 : kFld 4 23 = some (4, 3) := by decide +kernel
theorem f_4_26 : kFld 4 26 = some (4, 4) := by decide +kernel
theorem f_4_46 : kFld 4 46 = some (4, 5) := by decide +kernel
theorem f_5_11 : kFld 5 11 = some (5, 0) := by decide +kernel
theorem f_5_17 : kFld 5 17 = some (5, 1) := by decide +kernel
theorem f_5_24 : kFld 5 24 = some (5, 2) := by decide +kernel
theorem f_5_28 : kFld 5 28 = some (5, 3) := by decide +kernel
theorem f_6_9 : kFld 6 9 = some (6, 5) := by decide +kernel
theorem f_6_15 : kFld 6 15 = some (6, 10) := by decide +kernel
theorem f_6_21 : kFld 6 21 = some (6, 11) := by decide +kernel
theorem f_6_25 : kFld 6 25 = some (6, 0) := by decide +kernel
theorem f_6_29 : kFld 6 29 = some (6, 1) := by decide +kernel
theorem f_6_32 : kFld 6 32 = some (6, 2) := by decide +kernel
theorem f_6_35 : kFld 6 35 = some (6, 3) := by decide +kernel
theorem f_6_38 : kFld 6 38 = some (6, 4) := by decide +kernel
theorem f_6_41 : kFld 6 41 = some (6, 6) := by decide +kernel
theorem f_6_45 : kFld 6 45 = some (6, 7) := by decide +kernel
theorem f_6_49 : kFld 6 49 = some (6, 8) := by decide +kernel
theorem f_6_52 : kFld 6 52 = some (6, 9) := by decide +kernel
theorem f_6_55 : kFld 6 55 = some (6, 12) := by decide +kernel
theorem f_6_58 : kFld 6 58 = some (6, 13) := by decide +kernel
theorem f_6_62 : kFld 6 62 = some (6, 14) := by decide +kernel
theorem f_6_65 : kFld 6 65 = some (6, 15) := by decide +kernel
theorem f_7_7 : kFld 7 7 = some (7, 2) := by decide +kernel
theorem f_7_13 : kFld 7 13 = some (7, 3) := by decide +kernel
theorem f_7_17 : kFld 7 17 = some (7, 4) := by decide +kernel
theorem f_7_20 : kFld 7 20 = some (7, 5) := by decide +kernel
theorem f_7_23 : kFld 7 23 = some (7, 6) := by decide +kernel
theorem f_7_26 : kFld 7 26 = some (7, 9) := by decide +kernel
theorem f_7_29 : kFld 7 29 = some (7, 10) := by decide +kernel
theorem f_7_32 : kFld 7 32 = some (7, 12) := by decide +kernel
theorem f_7_35 : kFld 7 35 = some (7, 13) := by decide +kernel
theorem f_7_38 : kFld 7 38 = some (7, 14) := by decide +kernel
theorem f_7_42 : kFld 7 42 = some (7, 17) := by decide +kernel
theorem f_7_45 : kFld 7 45 = some (7, 18) := by decide +kernel
theorem f_7_48 : kFld 7 48 = some (7, 19) := by decide +kernel
theorem f_7_51 : kFld 7 51 = some (7, 20) := by decide +kernel
theorem f_7_54 : kFld 7 54 = some (7, 21) := by decide +kernel
theorem f_7_57 : kFld 7 57 = some (7, 26) := by decide +kernel
theorem f_7_61 : kFld 7 61 = some (7, 27) := by decide +kernel
theorem f_7_64 : kFld 7 64 = some (7, 28) := by decide +kernel
theorem f_7_67 : kFld 7 67 = some (7, 29) := by decide +kernel
theorem f_7_70 : kFld 7 70 = some (7, 30) := by decide +kernel
theorem f_7_73 : kFld 7 73 = some (7, 32) := by decide +kernel
theorem f_7_76 : kFld 7 76 = some (7, 33) := by decide +kernel
theorem f_7_79 : kFld 7 79 = some (7, 34) := by decide +kernel
theorem f_7_82 : kFld 7 82 = some (7, 38) := by decide +kernel
theorem f_7_85 : kFld 7 85 = some (7, 39) := by decide +kernel
theorem f_7_88 : kFld 7 88 = some (7, 0) := by decide +kernel
theorem f_7_91 : kFld 7 91 = some (7, 1) := by decide +kernel
theorem f_7_102 : kFld 7 102 = some (7, 7) := by decide +kernel
theorem f_7_106 : kFld 7 106 = some (7, 15) := by decide +kernel
theorem f_7_117 : kFld 7 117 = some (7, 8) := by decide +kernel
theorem f_7_130 : kFld 7 130 = some (7, 11) := by decide +kernel
theorem f_7_133 : kFld 7 133 = some (7, 23) := by decide +kernel
theorem f_7_136 : kFld 7 136 = some (7, 22) := by decide +kernel
theorem f_7_149 : kFld 7 149 = some (7, 16) := by decide +kernel
theorem f_7_169 : kFld 7 169 = some (7, 24) := by decide +kernel
theorem f_7_172 : kFld 7 172 = some (7, 31) := by decide +kernel
theorem f_7_178 : kFld 7 178 = some (7, 35) := by decide +kernel
theorem f_7_181 : kFld 7 181 = some (7, 36) := by decide +kernel
theorem f_7_187 : kFld 7 187 = some (7, 37) := by decide +kernel
theorem f_7_194 : kFld 7 194 = some (7, 25) := by decide +kernel
theorem m_0_9 : kMth 0 9 = some 82 := by decide +kernel
theorem m_0_22 : kMth 0 22 = some 30 := by decide +kernel
theorem m_0_29 : kMth 0 29 = some 45 := by decide +kernel
theorem m_0_64 : kMth 0 64 = some 84 := by decide +kernel
theorem m_0_68 : kMth 0 68 = some 83 := by decide +kernel
theorem m_0_72 : kMth 0 72 = some 71 := by decide +kernel
theorem m_0_93 : kMth 0 93 = some 85 := by decide +kernel
theorem m_0_98 : kMth 0 98 = some 86 := by decide +kernel
theorem m_0_102 : kMth 0 102 = some 75 := by decide +kernel
theorem m_0_106 : kMth 0 106 = some 76 := by decide +kernel
theorem m_0_112 : kMth 0 112 = some 78 := by decide +kernel
theorem m_0_116 : kMth 0 116 = some 157 := by decide +kernel
theorem m_0_121 : kMth 0 121 = some 158 := by decide +kernel
theorem m_0_124 : kMth 0 124 = some 79 := by decide +kernel
theorem m_0_130 : kMth 0 130 = some 87 := by decide +kernel
theorem m_0_135 : kMth 0 135 = some 88 := by decide +kernel
theorem m_0_139 : kMth 0 139 = some 89 := by decide +kernel
theorem m_0_142 : kMth 0 142 = some 72 := by decide +kernel
theorem m_0_147 : kMth 0 147 = some 73 := by decide +kernel
theorem m_0_153 : kMth 0 153 = some 31 := by decide +kernel
theorem m_0_156 : kMth 0 156 = some 32 := by decide +kernel
theorem m_0_160 : kMth 0 160 = some 46 := by decide +kernel
theorem m_0_178 : kMth 0 178 = some 47 := by decide +kernel
theorem m_0_182 : kMth 0 182 = some 17 := by decide +kernel
theorem m_1_31 : kMth 1 31 = some 24 := by decide +kernel
theorem m_1_35 : kMth 1 35 = some 21 := by decide +kernel
theorem m_1_39 : kMth 1 39 = some 26 := by decide +kernel
theorem m_1_43 : kMth 1 43 = some 28 := by decide +kernel
theorem m_2_34 : kMth 2 34 = some 38 := by decide +kernel
theorem m_2_38 : kMth 2 38 = some 34 := by decide +kernel
theorem m_2_42 : kMth 2 42 = some 33 := by decide +kernel
theorem m_2_46 : kMth 2 46 = some 35 := by decide +kernel
theorem m_2_50 : kMth 2 50 = some 90 := by decide +kernel
theorem m_2_51 : kMth 2 51 = some 91 := by decide +kernel
theorem m_2_54 : kMth 2 54 = some 36 := by decide +kernel
theorem m_2_58 : kMth 2 58 = some 37 := by decide +kernel
theorem m_2_62 : kMth 2 62 = some 40 := by decide +kernel
theorem m_2_69 : kMth 2 69 = some 39 := by decide +kernel
theorem m_2_80 : kMth 2 80 = some 41 := by decide +kernel
theorem m_2_87 : kMth 2 87 = some 44 := by decide +kernel
theorem m_2_94 : kMth 2 94 = some 83 := by decide +kernel
theorem m_2_117 : kMth 2 117 = some 18 := by decide +kernel
theorem m_2_125 : kMth 2 125 = some 42 := by decide +kernel
theorem m_2_129 : kMth 2 129 = some 43 := by decide +kernel
theorem m_2_133 : kMth 2 133 = some 71 := by decide +kernel
theorem m_3_15 : kMth 3 15 = some 48 := by decide +kernel
theorem m_3_22 : kMth 3 22 = some 49 := by decide +kernel
theorem m_3_26 : kMth 3 26 = some 92 := by decide +kernel
theorem m_3_41 : kMth 3 41 = some 50 := by decide +kernel
theorem m_3_49 : kMth 3 49 = some 53 := by decide +kernel
theorem m_3_52 : kMth 3 52 = some 51 := by decide +kernel
theorem m_3_55 : kMth 3 55 = some 55 := by decide +kernel
theorem m_3_58 : kMth 3 58 = some 56 := by decide +kernel
theorem m_3_61 : kMth 3 61 = some 59 := by decide +kernel
theorem m_3_64 : kMth 3 64 = some 60 := by decide +kernel
theorem m_3_67 : kMth 3 67 = some 61 := by decide +kernel
theorem m_3_70 : kMth 3 70 = some 62 := by decide +kernel
theorem m_3_73 : kMth 3 73 = some 63 := by decide +kernel
theorem m_3_79 : kMth 3 79 = some 52 := by decide +kernel
theorem m_3_89 : kMth 3 89 = some 77 := by decide +kernel
theorem m_3_95 : kMth 3 95 = some 72 := by decide +kernel
theorem m_3_103 : kMth 3 103 = some 74 := by decide +kernel
theorem m_3_108 : kMth 3 108 = some 68 := by decide +kernel
theorem m_3_114 : kMth 3 114 = some 54 := by decide +kernel
theorem m_3_118 : kMth 3 118 = some 69 := by decide +kernel
theorem m_3_131 : kMth 3 131 = some 57 := by decide +kernel
theorem m_3_135 : kMth 3 135 = some 18 := by decide +kernel
theorem m_3_144 : kMth 3 144 = some 58 := by decide +kernel
theorem m_3_152 : kMth 3 152 = some 27 := by decide +kernel
theorem m_3_158 : kMth 3 158 = some 24 := by decide +kernel
theorem m_3_164 : kMth 3 164 = some 64 := by decide +kernel
theorem m_3_170 : kMth 3 170 = some 23 := by decide +kernel
theorem m_3_171 : kMth 3 171 = some 65 := by decide +kernel
theorem m_3_174 : kMth 3 174 = some 66 := by decide +kernel
theorem m_3_177 : kMth 3 177 = some 25 := by decide +kernel
theorem m_3_181 : kMth 3 181 = some 29 := by decide +kernel
theorem m_3_185 : kMth 3 185 = some 21 := by decide +kernel
theorem m_3_189 : kMth 3 189 = some 67 := by decide +kernel
theorem m_3_192 : kMth 3 192 = some 22 := by decide +kernel
theorem m_4_29 : kMth 4 29 = some 72 := by decide +kernel
theorem m_4_33 : kMth 4 33 = some 71 := by decide +kernel
theorem m_4_42 : kMth 4 42 = some 73 := by decide +kernel
theorem m_5_21 : kMth 5 21 = some 70 := by decide +kernel
theorem m_5_31 : kMth 5 31 = some 83 := by decide +kernel
theorem m_5_35 : kMth 5 35 = some 80 := by decide +kernel
theorem m_5_38 : kMth 5 38 = some 81 := by decide +kernel
theorem m_6_20 : kMth 6 20 = some 19 := by decide +kernel
theorem m_6_68 : kMth 6 68 = some 20 := by decide +kernel
theorem m_7_94 : kMth 7 94 = some 95 := by decide +kernel
theorem m_7_98 : kMth 7 98 = some 97 := by decide +kernel
theorem m_7_109 : kMth 7 109 = some 98 := by decide +kernel
theorem m_7_113 : kMth 7 113 = some 96 := by decide +kernel
theorem m_7_120 : kMth 7 120 = some 99 := by decide +kernel
theorem m_7_123 : kMth 7 123 = some 104 := by decide +kernel
theorem m_7_126 : kMth 7 126 = some 108 := by decide +kernel
theorem m_7_139 : kMth 7 139 = some 112 := by decide +kernel
theorem m_7_145 : kMth 7 145 = some 113 := by decide +kernel
theorem m_7_152 : kMth 7 152 = some 116 := by decide +kernel
theorem m_7_155 : kMth 7 155 = some 118 := by decide +kernel
theorem m_7_159 : kMth 7 159 = some 119 := by decide +kernel
theorem m_7_163 : kMth 7 163 = some 114 := by decide +kernel
theorem m_7_166 : kMth 7 166 = some 117 := by decide +kernel
theorem m_7_175 : kMth 7 175 = some 115 := by decide +kernel
theorem m_7_184 : kMth 7 184 = some 122 := by decide +kernel
theorem m_7_190 : kMth 7 190 = some 124 := by decide +kernel
theorem m_7_197 : kMth 7 197 = some 126 := by decide +kernel
theorem m_7_200 : kMth 7 200 = some 125 := by decide +kernel
theorem m_7_203 : kMth 7 203 = some 123 := by decide +kernel
theorem m_7_206 : kMth 7 206 = some 127 := by decide +kernel
theorem m_7_208 : kMth 7 208 = some 133 := by decide +kernel
theorem m_7_211 : kMth 7 211 = some 130 := by decide +kernel
theorem m_7_214 : kMth 7 214 = some 132 := by decide +kernel
theorem m_7_217 : kMth 7 217 = some 137 := by decide +kernel
theorem m_7_220 : kMth 7 220 = some 138 := by decide +kernel
theorem m_7_223 : kMth 7 223 = some 139 := by decide +kernel
theorem m_7_226 : kMth 7 226 = some 135 := by decide +kernel
theorem m_7_229 : kMth 7 229 = some 134 := by decide +kernel
theorem m_7_232 : kMth 7 232 = some 136 := by decide +kernel
theorem m_7_236 : kMth 7 236 = some 128 := by decide +kernel
theorem m_7_239 : kMth 7 239 = some 129 := by decide +kernel
theorem m_7_242 : kMth 7 242 = some 131 := by decide +kernel
theorem m_8_7 : kMth 8 7 = some 1 := by decide +kernel
theorem m_8_17 : kMth 8 17 = some 2 := by decide +kernel
theorem m_8_21 : kMth 8 21 = some 3 := by decide +kernel
theorem m_8_24 : kMth 8 24 = some 4 := by decide +kernel
theorem m_8_27 : kMth 8 27 = some 5 := by decide +kernel
theorem m_8_31 : kMth 8 31 = some 6 := by decide +kernel
theorem m_8_35 : kMth 8 35 = some 7 := by decide +kernel
theorem m_8_38 : kMth 8 38 = some 8 := by decide +kernel
theorem m_8_42 : kMth 8 42 = some 9 := by decide +kernel
theorem m_8_45 : kMth 8 45 = some 10 := by decide +kernel
theorem m_8_48 : kMth 8 48 = some 11 := by decide +kernel
theorem m_8_51 : kMth 8 51 = some 12 := by decide +kernel
theorem m_8_54 : kMth 8 54 = some 14 := by decide +kernel
theorem m_8_57 : kMth 8 57 = some 0 := by decide +kernel
theorem m_8_60 : kMth 8 60 = some 93 := by decide +kernel
theorem m_8_61 : kMth 8 61 = some 143 := by decide +kernel
theorem m_8_66 : kMth 8 66 = some 100 := by decide +kernel
theorem m_8_67 : kMth 8 67 = some 94 := by decide +kernel
theorem m_8_70 : kMth 8 70 = some 144 := by decide +kernel
theorem m_8_73 : kMth 8 73 = some 101 := by decide +kernel
theorem m_8_74 : kMth 8 74 = some 145 := by decide +kernel
theorem m_8_76 : kMth 8 76 = some 102 := by decide +kernel
theorem m_8_77 : kMth 8 77 = some 146 := by decide +kernel
theorem m_8_79 : kMth 8 79 = some 103 := by decide +kernel
theorem m_8_80 : kMth 8 80 = some 147 := by decide +kernel
theorem m_8_83 : kMth 8 83 = some 105 := by decide +kernel
theorem m_8_84 : kMth 8 84 = some 148 := by decide +kernel
theorem m_8_87 : kMth 8 87 = some 106 := by decide +kernel
theorem m_8_88 : kMth 8 88 = some 149 := by decide +kernel
theorem m_8_91 : kMth 8 91 = some 107 := by decide +kernel
theorem m_8_92 : kMth 8 92 = some 150 := by decide +kernel
theorem m_8_95 : kMth 8 95 = some 108 := by decide +kernel
theorem m_8_96 : kMth 8 96 = some 151 := by decide +kernel
theorem m_8_98 : kMth 8 98 = some 109 := by decide +kernel
theorem m_8_99 : kMth 8 99 = some 152 := by decide +kernel
theorem m_8_101 : kMth 8 101 = some 110 := by decide +kernel
theorem m_8_102 : kMth 8 102 = some 153 := by decide +kernel
theorem m_8_104 : kMth 8 104 = some 111 := by decide +kernel
theorem m_8_105 : kMth 8 105 = some 154 := by decide +kernel
theorem m_8_107 : kMth 8 107 = some 120 := by decide +kernel
theorem m_8_108 : kMth 8 108 = some 13 := by decide +kernel
theorem m_8_111 : kMth 8 111 = some 121 := by decide +kernel
theorem m_8_112 : kMth 8 112 = some 155 := by decide +kernel
theorem m_8_114 : kMth 8 114 = some 140 := by decide +kernel
theorem m_8_115 : kMth 8 115 = some 15 := by decide +kernel
theorem m_8_118 : kMth 8 118 = some 141 := by decide +kernel
theorem m_8_119 : kMth 8 119 = some 16 := by decide +kernel
theorem m_8_122 : kMth 8 122 = some 142 := by decide +kernel
theorem n_0_7 : kNew 0 7 = some 5 := by decide +kernel
theorem n_0_20 : kNew 0 20 = some 2 := by decide +kernel
theorem n_0_27 : kNew 0 27 = some 3 := by decide +kernel
theorem n_2_15 : kNew 2 15 = some 6 := by decide +kernel
theorem n_5_9 : kNew 5 9 = some 4 := by decide +kernel
theorem n_6_18 : kNew 6 18 = some 1 := by decide +kernel
theorem n_8_8 : kNew 8 8 = some 0 := by decide +kernel
theorem n_8_58 : kNew 8 58 = some 7 := by decide +kernel
theorem a_2_15 : kANew 2 15 = some 4 := by decide +kernel
theorem a_5_9 : kANew 5 9 = some 3 := by decide +kernel
theorem c_3_107 : kCst 3 107 = some (1000000) := by decide +kernel
theorem c_7_60 : kCst 7 60 = some (108000) := by decide +kernel
theorem c_7_143 : kCst 7 143 = some (-2147483648) := by decide +kernel
theorem c_7_144 : kCst 7 144 = some (2147483647) := by decide +kernel
theorem x_0_191 : kNat 0 191 = some 0 := by decide +kernel
theorem x_1_25 : kNat 1 25 = some 0 := by decide +kernel
theorem x_3_196 : kNat 3 196 = some 1 := by decide +kernel
theorem x_3_201 : kNat 3 201 = some 2 := by decide +kernel
theorem x_3_204 : kNat 3 204 = some 0 := by decide +kernel
theorem x_4_36 : kNat 4 36 = some 0 := by decide +kernel
theorem o_0_1 : kObj 0 1 = true := by decide +kernel
theorem o_1_3 : kObj 1 3 = true := by decide +kernel
theorem o_2_3 : kObj 2 3 = true := by decide +kernel
theorem o_3_3 : kObj 3 3 = true := by decide +kernel
theorem o_4_3 : kObj 4 3 = true := by decide +kernel
theorem o_5_3 : kObj 5 3 = true := by decide +kernel
theorem o_6_3 : kObj 6 3 = true := by decide +kernel
theorem o_7_1 : kObj 7 1 = true := by decide +kernel
theorem t_1_11 : kThr 1 11 = some 0 := by decide +kernel
theorem t_1_43 : kThr 1 43 = some 1 := by decide +kernel
theorem t_2_21 : kThr 2 21 = some 0 := by decide +kernel
theorem t_2_50 : kThr 2 50 = some 1 := by decide +kernel
theorem t_3_10 : kThr 3 10 = some 0 := by decide +kernel
theorem t_4_13 : kThr 4 13 = some 0 := by decide +kernel
theorem t_4_43 : kThr 4 43 = some 1 := by decide +kernel
theorem t_5_24 : kThr 5 24 = some 0 := by decide +kernel
theorem t_5_55 : kThr 5 55 = some 1 := by decide +kernel
theorem t_6_51 : kThr 6 51 = some 0 := by decide +kernel
theorem t_6_83 : kThr 6 83 = some 1 := by decide +kernel
theorem t_7_10 : kThr 7 10 = some 1 := by decide +kernel
theorem t_8_10 : kThr 8 10 = some 1 := by decide +kernel
theorem t_9_10 : kThr 9 10 = some 1 := by decide +kernel
theorem t_10_15 : kThr 10 15 = some 0 := by decide +kernel
theorem t_10_54 : kThr 10 54 = some 0 := by decide +kernel
theorem t_11_12 : kThr 11 12 = some 1 := by decide +kernel
theorem t_12_38 : kThr 12 38 = some 0 := by decide +kernel
theorem t_14_12 : kThr 14 12 = some 0 := by decide +kernel
theorem t_14_29 : kThr 14 29 = some 1 := by decide +kernel
theorem h_143_4_0 : kHan 143 4 0 = some 12 := by decide +kernel
theorem h_143_4_1 : kHan 143 4 1 = some 15 := by decide +kernel
theorem h_144_3_0 : kHan 144 3 0 = some 9 := by decide +kernel
theorem h_144_3_1 : kHan 144 3 1 = some 12 := by decide +kernel
theorem h_145_3_0 : kHan 145 3 0 = some 9 := by decide +kernel
theorem h_146_4_0 : kHan 146 4 0 = some 12 := by decide +kernel
theorem h_146_4_1 : kHan 146 4 1 = some 15 := by decide +kernel
theorem h_147_7_0 : kHan 147 7 0 = some 15 := by decide +kernel
theorem h_147_7_1 : kHan 147 7 1 = some 19 := by decide +kernel
theorem h_148_9_0 : kHan 148 9 0 = some 17 := by decide +kernel
theorem h_148_9_1 : kHan 148 9 1 = some 21 := by decide +kernel
theorem h_149_1_1 : kHan 149 1 1 = some 7 := by decide +kernel
theorem h_150_3_1 : kHan 150 3 1 = some 11 := by decide +kernel
theorem h_151_3_1 : kHan 151 3 1 = some 11 := by decide +kernel
theorem h_152_7_0 : kHan 152 7 0 = some 15 := by decide +kernel
theorem h_153_4_1 : kHan 153 4 1 = some 12 := by decide +kernel
theorem h_154_3_0 : kHan 154 3 0 = some 11 := by decide +kernel
theorem h_155_4_0 : kHan 155 4 0 = some 12 := by decide +kernel
theorem h_155_4_1 : kHan 155 4 1 = some 15 := by decide +kernel
end
section
theorem i_70_0 : kI 70 0 = some (.aload_n 0, 1) := by decide +kernel
theorem i_70_1 : kI 70 1 = some (.invokespecial 3, 3) := by decide +kernel
theorem i_70_4 : kI 70 4 = some (.aload_n 0, 1) := by decide +kernel
theorem i_70_5 : kI 70 5 = some (.iload_n 1, 1) := by decide +kernel
theorem i_70_6 : kI 70 6 = some (.putfield 9, 3) := by decide +kernel
theorem i_70_9 : kI 70 9 = some (.aload_n 0, 1) := by decide +kernel
theorem i_70_10 : kI 70 10 = some (.bipush 6, 2) := by decide +kernel
theorem i_70_12 : kI 70 12 = some (.newarray .boolean, 2) := by decide +kernel
theorem i_70_14 : kI 70 14 = some (.putfield 15, 3) := by decide +kernel
theorem i_70_17 : kI 70 17 = some (.aload_n 0, 1) := by decide +kernel
theorem i_70_18 : kI 70 18 = some (.sipush 240, 3) := by decide +kernel
theorem i_70_21 : kI 70 21 = some (.newarray .int, 2) := by decide +kernel
theorem i_70_23 : kI 70 23 = some (.putfield 19, 3) := by decide +kernel
theorem i_70_26 : kI 70 26 = some (.aload_n 0, 1) := by decide +kernel
theorem i_70_27 : kI 70 27 = some (.sipush 240, 3) := by decide +kernel
theorem i_70_30 : kI 70 30 = some (.newarray .int, 2) := by decide +kernel
theorem i_70_32 : kI 70 32 = some (.putfield 23, 3) := by decide +kernel
theorem i_70_35 : kI 70 35 = some (.return_, 1) := by decide +kernel
theorem i_71_0 : kI 71 0 = some (.iload_n 1, 1) := by decide +kernel
theorem i_71_1 : kI 71 1 = some (.ifCond .lt 15, 3) := by decide +kernel
theorem i_71_4 : kI 71 4 = some (.iload_n 1, 1) := by decide +kernel
theorem i_71_5 : kI 71 5 = some (.aload_n 0, 1) := by decide +kernel
theorem i_71_6 : kI 71 6 = some (.getfield 9, 3) := by decide +kernel
theorem i_71_9 : kI 71 9 = some (.if_icmp .ge 7, 3) := by decide +kernel
theorem i_71_12 : kI 71 12 = some (.iconst 1, 1) := by decide +kernel
theorem i_71_13 : kI 71 13 = some (.goto 4, 3) := by decide +kernel
theorem i_71_16 : kI 71 16 = some (.iconst 0, 1) := by decide +kernel
theorem i_71_17 : kI 71 17 = some (.ireturn, 1) := by decide +kernel
theorem i_72_0 : kI 72 0 = some (.iload_n 1, 1) := by decide +kernel
theorem i_72_1 : kI 72 1 = some (.ifCond .lt 15, 3) := by decide +kernel
theorem i_72_4 : kI 72 4 = some (.iload_n 1, 1) := by decide +kernel
theorem i_72_5 : kI 72 5 = some (.aload_n 0, 1) := by decide +kernel
theorem i_72_6 : kI 72 6 = some (.getfield 26, 3) := by decide +kernel
theorem i_72_9 : kI 72 9 = some (.if_icmp .ge 7, 3) := by decide +kernel
theorem i_72_12 : kI 72 12 = some (.iconst 1, 1) := by decide +kernel
theorem i_72_13 : kI 72 13 = some (.goto 4, 3) := by decide +kernel
theorem i_72_16 : kI 72 16 = some (.iconst 0, 1) := by decide +kernel
theorem i_72_17 : kI 72 17 = some (.ireturn, 1) := by decide +kernel
theorem i_73_0 : kI 73 0 = some (.aload_n 0, 1) := by decide +kernel
theorem i_73_1 : kI 73 1 = some (.iload_n 1, 1) := by decide +kernel
theorem i_73_2 : kI 73 2 = some (.invokevirtual 29, 3) := by decide +kernel
theorem i_73_5 : kI 73 5 = some (.ifCond .eq 27, 3) := by decide +kernel
theorem i_73_8 : kI 73 8 = some (.aload_n 0, 1) := by decide +kernel
theorem i_73_9 : kI 73 9 = some (.iload_n 2, 1) := by decide +kernel
theorem i_73_10 : kI 73 10 = some (.invokevirtual 33, 3) := by decide +kernel
theorem i_73_13 : kI 73 13 = some (.ifCond .eq 19, 3) := by decide +kernel
theorem i_73_16 : kI 73 16 = some (.aload_n 0, 1) := by decide +kernel
theorem i_73_17 : kI 73 17 = some (.getfield 19, 3) := by decide +kernel
theorem i_73_20 : kI 73 20 = some (.iload_n 1, 1) := by decide +kernel
theorem i_73_21 : kI 73 21 = some (.aload_n 0, 1) := by decide +kernel
theorem i_73_22 : kI 73 22 = some (.getfield 9, 3) := by decide +kernel
theorem i_73_25 : kI 73 25 = some (.imul, 1) := by decide +kernel
theorem i_73_26 : kI 73 26 = some (.iload_n 2, 1) := by decide +kernel
theorem i_73_27 : kI 73 27 = some (.iadd, 1) := by decide +kernel
theorem i_73_28 : kI 73 28 = some (.iaload, 1) := by decide +kernel
theorem i_73_29 : kI 73 29 = some (.goto 4, 3) := by decide +kernel
theorem i_73_32 : kI 73 32 = some (.iconst 0, 1) := by decide +kernel
theorem i_73_33 : kI 73 33 = some (.ireturn, 1) := by decide +kernel
theorem i_74_0 : kI 74 0 = some (.aload_n 0, 1) := by decide +kernel
theorem i_74_1 : kI 74 1 = some (.iload_n 1, 1) := by decide +kernel
theorem i_74_2 : kI 74 2 = some (.invokevirtual 29, 3) := by decide +kernel
theorem i_74_5 : kI 74 5 = some (.ifCond .eq 31, 3) := by decide +kernel
theorem i_74_8 : kI 74 8 = some (.aload_n 2, 1) := by decide +kernel
theorem i_74_9 : kI 74 9 = some (.arraylength, 1) := by decide +kernel
theorem i_74_10 : kI 74 10 = some (.aload_n 0, 1) := by decide +kernel
theorem i_74_11 : kI 74 11 = some (.getfield 9, 3) := by decide +kernel
theorem i_74_14 : kI 74 14 = some (.if_icmp .lt 22, 3) := by decide +kernel
theorem i_74_17 : kI 74 17 = some (.aload_n 0, 1) := by decide +kernel
theorem i_74_18 : kI 74 18 = some (.getfield 19, 3) := by decide +kernel
theorem i_74_21 : kI 74 21 = some (.iload_n 1, 1) := by decide +kernel
theorem i_74_22 : kI 74 22 = some (.aload_n 0, 1) := by decide +kernel
theorem i_74_23 : kI 74 23 = some (.getfield 9, 3) := by decide +kernel
theorem i_74_26 : kI 74 26 = some (.imul, 1) := by decide +kernel
theorem i_74_27 : kI 74 27 = some (.aload_n 2, 1) := by decide +kernel
theorem i_74_28 : kI 74 28 = some (.iconst 0, 1) := by decide +kernel
theorem i_74_29 : kI 74 29 = some (.aload_n 0, 1) := by decide +kernel
theorem i_74_30 : kI 74 30 = some (.getfield 9, 3) := by decide +kernel
theorem i_74_33 : kI 74 33 = some (.invokestatic 36, 3) := by decide +kernel
theorem i_74_36 : kI 74 36 = some (.return_, 1) := by decide +kernel
theorem i_75_0 : kI 75 0 = some (.aload_n 0, 1) := by decide +kernel
theorem i_75_1 : kI 75 1 = some (.getfield 26, 3) := by decide +kernel
theorem i_75_4 : kI 75 4 = some (.bipush 40, 2) := by decide +kernel
theorem i_75_6 : kI 75 6 = some (.if_icmp .ge 44, 3) := by decide +kernel
theorem i_75_9 : kI 75 9 = some (.aload_n 1, 1) := by decide +kernel
theorem i_75_10 : kI 75 10 = some (.arraylength, 1) := by decide +kernel
theorem i_75_11 : kI 75 11 = some (.aload_n 0, 1) := by decide +kernel
theorem i_75_12 : kI 75 12 = some (.getfield 9, 3) := by decide +kernel
theorem i_75_15 : kI 75 15 = some (.if_icmp .lt 35, 3) := by decide +kernel
theorem i_75_18 : kI 75 18 = some (.aload_n 1, 1) := by decide +kernel
theorem i_75_19 : kI 75 19 = some (.iconst 0, 1) := by decide +kernel
theorem i_75_20 : kI 75 20 = some (.aload_n 0, 1) := by decide +kernel
theorem i_75_21 : kI 75 21 = some (.getfield 19, 3) := by decide +kernel
theorem i_75_24 : kI 75 24 = some (.aload_n 0, 1) := by decide +kernel
theorem i_75_25 : kI 75 25 = some (.getfield 26, 3) := by decide +kernel
theorem i_75_28 : kI 75 28 = some (.aload_n 0, 1) := by decide +kernel
theorem i_75_29 : kI 75 29 = some (.getfield 9, 3) := by decide +kernel
theorem i_75_32 : kI 75 32 = some (.imul, 1) := by decide +kernel
theorem i_75_33 : kI 75 33 = some (.aload_n 0, 1) := by decide +kernel
theorem i_75_34 : kI 75 34 = some (.getfield 9, 3) := by decide +kernel
theorem i_75_37 : kI 75 37 = some (.invokestatic 36, 3) := by decide +kernel
theorem i_75_40 : kI 75 40 = some (.aload_n 0, 1) := by decide +kernel
theorem i_75_41 : kI 75 41 = some (.dup, 1) := by decide +kernel
theorem i_75_42 : kI 75 42 = some (.getfield 26, 3) := by decide +kernel
theorem i_75_45 : kI 75 45 = some (.iconst 1, 1) := by decide +kernel
theorem i_75_46 : kI 75 46 = some (.iadd, 1) := by decide +kernel
theorem i_75_47 : kI 75 47 = some (.putfield 26, 3) := by decide +kernel
theorem i_75_50 : kI 75 50 = some (.return_, 1) := by decide +kernel
theorem i_76_0 : kI 76 0 = some (.iconst 0, 1) := by decide +kernel
theorem i_76_1 : kI 76 1 = some (.istore_n 3, 1) := by decide +kernel
theorem i_76_2 : kI 76 2 = some (.iconst 0, 1) := by decide +kernel
theorem i_76_3 : kI 76 3 = some (.istore 4, 2) := by decide +kernel
theorem i_76_5 : kI 76 5 = some (.iload 4, 2) := by decide +kernel
theorem i_76_7 : kI 76 7 = some (.aload_n 0, 1) := by decide +kernel
theorem i_76_8 : kI 76 8 = some (.getfield 26, 3) := by decide +kernel
theorem i_76_11 : kI 76 11 = some (.if_icmp .ge 23, 3) := by decide +kernel
theorem i_76_14 : kI 76 14 = some (.aload_n 0, 1) := by decide +kernel
theorem i_76_15 : kI 76 15 = some (.iload 4, 2) := by decide +kernel
theorem i_76_17 : kI 76 17 = some (.iload_n 1, 1) := by decide +kernel
theorem i_76_18 : kI 76 18 = some (.invokevirtual 42, 3) := by decide +kernel
theorem i_76_21 : kI 76 21 = some (.iload_n 2, 1) := by decide +kernel
theorem i_76_22 : kI 76 22 = some (.if_icmp .ne 6, 3) := by decide +kernel
theorem i_76_25 : kI 76 25 = some (.iinc 3 1, 3) := by decide +kernel
theorem i_76_28 : kI 76 28 = some (.iinc 4 1, 3) := by decide +kernel
theorem i_76_31 : kI 76 31 = some (.goto (-26), 3) := by decide +kernel
theorem i_76_34 : kI 76 34 = some (.iload_n 3, 1) := by decide +kernel
theorem i_76_35 : kI 76 35 = some (.ireturn, 1) := by decide +kernel
theorem i_77_0 : kI 77 0 = some (.iload_n 1, 1) := by decide +kernel
theorem i_77_1 : kI 77 1 = some (.istore 4, 2) := by decide +kernel
theorem i_77_3 : kI 77 3 = some (.iload 4, 2) := by decide +kernel
theorem i_77_5 : kI 77 5 = some (.aload_n 0, 1) := by decide +kernel
theorem i_77_6 : kI 77 6 = some (.getfield 26, 3) := by decide +kernel
theorem i_77_9 : kI 77 9 = some (.if_icmp .ge 23, 3) := by decide +kernel
theorem i_77_12 : kI 77 12 = some (.aload_n 0, 1) := by decide +kernel
theorem i_77_13 : kI 77 13 = some (.iload 4, 2) := by decide +kernel
theorem i_77_15 : kI 77 15 = some (.iload_n 2, 1) := by decide +kernel
theorem i_77_16 : kI 77 16 = some (.invokevirtual 42, 3) := by decide +kernel
theorem i_77_19 : kI 77 19 = some (.iload_n 3, 1) := by decide +kernel
theorem i_77_20 : kI 77 20 = some (.if_icmp .ne 6, 3) := by decide +kernel
theorem i_77_23 : kI 77 23 = some (.iload 4, 2) := by decide +kernel
theorem i_77_25 : kI 77 25 = some (.ireturn, 1) := by decide +kernel
theorem i_77_26 : kI 77 26 = some (.iinc 4 1, 3) := by decide +kernel
theorem i_77_29 : kI 77 29 = some (.goto (-26), 3) := by decide +kernel
theorem i_77_32 : kI 77 32 = some (.aload_n 0, 1) := by decide +kernel
theorem i_77_33 : kI 77 33 = some (.getfield 26, 3) := by decide +kernel
theorem i_77_36 : kI 77 36 = some (.ireturn, 1) := by decide +kernel
theorem i_78_0 : kI 78 0 = some (.iconst 0, 1) := by decide +kernel
theorem i_78_1 : kI 78 1 = some (.istore_n 3, 1) := by decide +kernel
theorem i_78_2 : kI 78 2 = some (.iconst 0, 1) := by decide +kernel
theorem i_78_3 : kI 78 3 = some (.istore 4, 2) := by decide +kernel
theorem i_78_5 : kI 78 5 = some (.iload 4, 2) := by decide +kernel
theorem i_78_7 : kI 78 7 = some (.aload_n 0, 1) := by decide +kernel
theorem i_78_8 : kI 78 8 = some (.getfield 26, 3) := by decide +kernel
theorem i_78_11 : kI 78 11 = some (.if_icmp .ge 51, 3) := by decide +kernel
theorem i_78_14 : kI 78 14 = some (.aload_n 0, 1) := by decide +kernel
theorem i_78_15 : kI 78 15 = some (.iload 4, 2) := by decide +kernel
theorem i_78_17 : kI 78 17 = some (.iload_n 1, 1) := by decide +kernel
theorem i_78_18 : kI 78 18 = some (.invokevirtual 42, 3) := by decide +kernel
theorem i_78_21 : kI 78 21 = some (.iload_n 2, 1) := by decide +kernel
theorem i_78_22 : kI 78 22 = some (.if_icmp .eq 34, 3) := by decide +kernel
theorem i_78_25 : kI 78 25 = some (.aload_n 0, 1) := by decide +kernel
theorem i_78_26 : kI 78 26 = some (.getfield 19, 3) := by decide +kernel
theorem i_78_29 : kI 78 29 = some (.iload 4, 2) := by decide +kernel
theorem i_78_31 : kI 78 31 = some (.aload_n 0, 1) := by decide +kernel
theorem i_78_32 : kI 78 32 = some (.getfield 9, 3) := by decide +kernel
theorem i_78_35 : kI 78 35 = some (.imul, 1) := by decide +kernel
theorem i_78_36 : kI 78 36 = some (.aload_n 0, 1) := by decide +kernel
theorem i_78_37 : kI 78 37 = some (.getfield 19, 3) := by decide +kernel
theorem i_78_40 : kI 78 40 = some (.iload_n 3, 1) := by decide +kernel
theorem i_78_41 : kI 78 41 = some (.aload_n 0, 1) := by decide +kernel
theorem i_78_42 : kI 78 42 = some (.getfield 9, 3) := by decide +kernel
theorem i_78_45 : kI 78 45 = some (.imul, 1) := by decide +kernel
theorem i_78_46 : kI 78 46 = some (.aload_n 0, 1) := by decide +kernel
theorem i_78_47 : kI 78 47 = some (.getfield 9, 3) := by decide +kernel
theorem i_78_50 : kI 78 50 = some (.invokestatic 36, 3) := by decide +kernel
theorem i_78_53 : kI 78 53 = some (.iinc 3 1, 3) := by decide +kernel
theorem i_78_56 : kI 78 56 = some (.iinc 4 1, 3) := by decide +kernel
theorem i_78_59 : kI 78 59 = some (.goto (-54), 3) := by decide +kernel
theorem i_78_62 : kI 78 62 = some (.aload_n 0, 1) := by decide +kernel
theorem i_78_63 : kI 78 63 = some (.iload_n 3, 1) := by decide +kernel
theorem i_78_64 : kI 78 64 = some (.putfield 26, 3) := by decide +kernel
theorem i_78_67 : kI 78 67 = some (.return_, 1) := by decide +kernel
theorem i_79_0 : kI 79 0 = some (.iconst 0, 1) := by decide +kernel
theorem i_79_1 : kI 79 1 = some (.istore 5, 2) := by decide +kernel
theorem i_79_3 : kI 79 3 = some (.iload 5, 2) := by decide +kernel
theorem i_79_5 : kI 79 5 = some (.aload_n 0, 1) := by decide +kernel
theorem i_79_6 : kI 79 6 = some (.getfield 26, 3) := by decide +kernel
theorem i_79_9 : kI 79 9 = some (.if_icmp .ge 44, 3) := by decide +kernel
theorem i_79_12 : kI 79 12 = some (.aload_n 0, 1) := by decide +kernel
theorem i_79_13 : kI 79 13 = some (.iload 5, 2) := by decide +kernel
theorem i_79_15 : kI 79 15 = some (.iload_n 1, 1) := by decide +kernel
theorem i_79_16 : kI 79 16 = some (.invokevirtual 42, 3) := by decide +kernel
theorem i_79_19 : kI 79 19 = some (.iload_n 2, 1) := by decide +kernel
theorem i_79_20 : kI 79 20 = some (.if_icmp .ne 27, 3) := by decide +kernel
theorem i_79_23 : kI 79 23 = some (.aload_n 0, 1) := by decide +kernel
theorem i_79_24 : kI 79 24 = some (.iload_n 3, 1) := by decide +kernel
theorem i_79_25 : kI 79 25 = some (.invokevirtual 33, 3) := by decide +kernel
theorem i_79_28 : kI 79 28 = some (.ifCond .eq 19, 3) := by decide +kernel
theorem i_79_31 : kI 79 31 = some (.aload_n 0, 1) := by decide +kernel
theorem i_79_32 : kI 79 32 = some (.getfield 19, 3) := by decide +kernel
theorem i_79_35 : kI 79 35 = some (.iload 5, 2) := by decide +kernel
theorem i_79_37 : kI 79 37 = some (.aload_n 0, 1) := by decide +kernel
theorem i_79_38 : kI 79 38 = some (.getfield 9, 3) := by decide +kernel
theorem i_79_41 : kI 79 41 = some (.imul, 1) := by decide +kernel
theorem i_79_42 : kI 79 42 = some (.iload_n 3, 1) := by decide +kernel
theorem i_79_43 : kI 79 43 = some (.iadd, 1) := by decide +kernel
theorem i_79_44 : kI 79 44 = some (.iload 4, 2) := by decide +kernel
theorem i_79_46 : kI 79 46 = some (.iastore, 1) := by decide +kernel
theorem i_79_47 : kI 79 47 = some (.iinc 5 1, 3) := by decide +kernel
theorem i_79_50 : kI 79 50 = some (.goto (-47), 3) := by decide +kernel
theorem i_79_53 : kI 79 53 = some (.return_, 1) := by decide +kernel
theorem i_80_0 : kI 80 0 = some (.aload_n 0, 1) := by decide +kernel
theorem i_80_1 : kI 80 1 = some (.getfield 19, 3) := by decide +kernel
theorem i_80_4 : kI 80 4 = some (.iconst 0, 1) := by decide +kernel
theorem i_80_5 : kI 80 5 = some (.aload_n 0, 1) := by decide +kernel
theorem i_80_6 : kI 80 6 = some (.getfield 23, 3) := by decide +kernel
theorem i_80_9 : kI 80 9 = some (.iconst 0, 1) := by decide +kernel
theorem i_80_10 : kI 80 10 = some (.aload_n 0, 1) := by decide +kernel
theorem i_80_11 : kI 80 11 = some (.getfield 26, 3) := by decide +kernel
theorem i_80_14 : kI 80 14 = some (.aload_n 0, 1) := by decide +kernel
theorem i_80_15 : kI 80 15 = some (.getfield 9, 3) := by decide +kernel
theorem i_80_18 : kI 80 18 = some (.imul, 1) := by decide +kernel
theorem i_80_19 : kI 80 19 = some (.invokestatic 36, 3) := by decide +kernel
theorem i_80_22 : kI 80 22 = some (.aload_n 0, 1) := by decide +kernel
theorem i_80_23 : kI 80 23 = some (.aload_n 0, 1) := by decide +kernel
theorem i_80_24 : kI 80 24 = some (.getfield 26, 3) := by decide +kernel
theorem i_80_27 : kI 80 27 = some (.putfield 46, 3) := by decide +kernel
theorem i_80_30 : kI 80 30 = some (.return_, 1) := by decide +kernel
theorem i_81_0 : kI 81 0 = some (.aload_n 0, 1) := by decide +kernel
theorem i_81_1 : kI 81 1 = some (.getfield 23, 3) := by decide +kernel
theorem i_81_4 : kI 81 4 = some (.iconst 0, 1) := by decide +kernel
theorem i_81_5 : kI 81 5 = some (.aload_n 0, 1) := by decide +kernel
theorem i_81_6 : kI 81 6 = some (.getfield 19, 3) := by decide +kernel
theorem i_81_9 : kI 81 9 = some (.iconst 0, 1) := by decide +kernel
theorem i_81_10 : kI 81 10 = some (.aload_n 0, 1) := by decide +kernel
theorem i_81_11 : kI 81 11 = some (.getfield 46, 3) := by decide +kernel
theorem i_81_14 : kI 81 14 = some (.aload_n 0, 1) := by decide +kernel
theorem i_81_15 : kI 81 15 = some (.getfield 9, 3) := by decide +kernel
theorem i_81_18 : kI 81 18 = some (.imul, 1) := by decide +kernel
theorem i_81_19 : kI 81 19 = some (.invokestatic 36, 3) := by decide +kernel
theorem i_81_22 : kI 81 22 = some (.aload_n 0, 1) := by decide +kernel
theorem i_81_23 : kI 81 23 = some (.aload_n 0, 1) := by decide +kernel
theorem i_81_24 : kI 81 24 = some (.getfield 46, 3) := by decide +kernel
theorem i_81_27 : kI 81 27 = some (.putfield 26, 3) := by decide +kernel
theorem i_81_30 : kI 81 30 = some (.return_, 1) := by decide +kernel
theorem i_82_0 : kI 82 0 = some (.aload_n 0, 1) := by decide +kernel
theorem i_82_1 : kI 82 1 = some (.invokespecial 3, 3) := by decide +kernel
theorem i_82_4 : kI 82 4 = some (.aload_n 0, 1) := by decide +kernel
theorem i_82_5 : kI 82 5 = some (.bipush 6, 2) := by decide +kernel
theorem i_82_7 : kI 82 7 = some (.anewarray 9, 3) := by decide +kernel
theorem i_82_10 : kI 82 10 = some (.putfield 11, 3) := by decide +kernel
theorem i_82_13 : kI 82 13 = some (.return_, 1) := by decide +kernel
theorem i_83_0 : kI 83 0 = some (.iload_n 1, 1) := by decide +kernel
theorem i_83_1 : kI 83 1 = some (.ifCond .lt 20, 3) := by decide +kernel
theorem i_83_4 : kI 83 4 = some (.iload_n 1, 1) := by decide +kernel
theorem i_83_5 : kI 83 5 = some (.aload_n 0, 1) := by decide +kernel
theorem i_83_6 : kI 83 6 = some (.getfield 17, 3) := by decide +kernel
theorem i_83_9 : kI 83 9 = some (.if_icmp .ge 12, 3) := by decide +kernel
theorem i_83_12 : kI 83 12 = some (.aload_n 0, 1) := by decide +kernel
theorem i_83_13 : kI 83 13 = some (.getfield 11, 3) := by decide +kernel
theorem i_83_16 : kI 83 16 = some (.iload_n 1, 1) := by decide +kernel
theorem i_83_17 : kI 83 17 = some (.aaload, 1) := by decide +kernel
theorem i_83_18 : kI 83 18 = some (.goto 4, 3) := by decide +kernel
theorem i_83_21 : kI 83 21 = some (.aconst_null, 1) := by decide +kernel
theorem i_83_22 : kI 83 22 = some (.areturn, 1) := by decide +kernel
theorem i_84_0 : kI 84 0 = some (.aload_n 0, 1) := by decide +kernel
theorem i_84_1 : kI 84 1 = some (.getfield 17, 3) := by decide +kernel
theorem i_84_4 : kI 84 4 = some (.istore_n 2, 1) := by decide +kernel
theorem i_84_5 : kI 84 5 = some (.iload_n 2, 1) := by decide +kernel
theorem i_84_6 : kI 84 6 = some (.bipush 6, 2) := by decide +kernel
theorem i_84_8 : kI 84 8 = some (.if_icmp .ge 27, 3) := by decide +kernel
theorem i_84_11 : kI 84 11 = some (.aload_n 0, 1) := by decide +kernel
theorem i_84_12 : kI 84 12 = some (.getfield 11, 3) := by decide +kernel
theorem i_84_15 : kI 84 15 = some (.iload_n 2, 1) := by decide +kernel
theorem i_84_16 : kI 84 16 = some (.new 9, 3) := by decide +kernel
theorem i_84_19 : kI 84 19 = some (.dup, 1) := by decide +kernel
theorem i_84_20 : kI 84 20 = some (.iload_n 1, 1) := by decide +kernel
theorem i_84_21 : kI 84 21 = some (.invokespecial 21, 3) := by decide +kernel
theorem i_84_24 : kI 84 24 = some (.aastore, 1) := by decide +kernel
theorem i_84_25 : kI 84 25 = some (.aload_n 0, 1) := by decide +kernel
theorem i_84_26 : kI 84 26 = some (.dup, 1) := by decide +kernel
theorem i_84_27 : kI 84 27 = some (.getfield 17, 3) := by decide +kernel
theorem i_84_30 : kI 84 30 = some (.iconst 1, 1) := by decide +kernel
theorem i_84_31 : kI 84 31 = some (.iadd, 1) := by decide +kernel
theorem i_84_32 : kI 84 32 = some (.putfield 17, 3) := by decide +kernel
theorem i_84_35 : kI 84 35 = some (.iload_n 2, 1) := by decide +kernel
theorem i_84_36 : kI 84 36 = some (.ireturn, 1) := by decide +kernel
theorem i_85_0 : kI 85 0 = some (.aload_n 0, 1) := by decide +kernel
theorem i_85_1 : kI 85 1 = some (.getfield 24, 3) := by decide +kernel
theorem i_85_4 : kI 85 4 = some (.ifCond .eq 14, 3) := by decide +kernel
theorem i_85_7 : kI 85 7 = some (.aload_n 0, 1) := by decide +kernel
theorem i_85_8 : kI 85 8 = some (.getfield 28, 3) := by decide +kernel
theorem i_85_11 : kI 85 11 = some (.iload_n 1, 1) := by decide +kernel
theorem i_85_12 : kI 85 12 = some (.iadd, 1) := by decide +kernel
theorem i_85_13 : kI 85 13 = some (.bipush 120, 2) := by decide +kernel
theorem i_85_15 : kI 85 15 = some (.if_icmp .gt 7, 3) := by decide +kernel
theorem i_85_18 : kI 85 18 = some (.iconst 1, 1) := by decide +kernel
theorem i_85_19 : kI 85 19 = some (.goto 4, 3) := by decide +kernel
theorem i_85_22 : kI 85 22 = some (.iconst 0, 1) := by decide +kernel
theorem i_85_23 : kI 85 23 = some (.ireturn, 1) := by decide +kernel
theorem i_86_0 : kI 86 0 = some (.aload_n 0, 1) := by decide +kernel
theorem i_86_1 : kI 86 1 = some (.getfield 24, 3) := by decide +kernel
theorem i_86_4 : kI 86 4 = some (.ifCond .eq 13, 3) := by decide +kernel
theorem i_86_7 : kI 86 7 = some (.aload_n 0, 1) := by decide +kernel
theorem i_86_8 : kI 86 8 = some (.dup, 1) := by decide +kernel
theorem i_86_9 : kI 86 9 = some (.getfield 28, 3) := by decide +kernel
theorem i_86_12 : kI 86 12 = some (.iload_n 1, 1) := by decide +kernel
theorem i_86_13 : kI 86 13 = some (.iadd, 1) := by decide +kernel
theorem i_86_14 : kI 86 14 = some (.putfield 28, 3) := by decide +kernel
theorem i_86_17 : kI 86 17 = some (.return_, 1) := by decide +kernel
theorem i_87_0 : kI 87 0 = some (.aload_n 0, 1) := by decide +kernel
theorem i_87_1 : kI 87 1 = some (.iconst 1, 1) := by decide +kernel
theorem i_87_2 : kI 87 2 = some (.putfield 24, 3) := by decide +kernel
theorem i_87_5 : kI 87 5 = some (.aload_n 0, 1) := by decide +kernel
theorem i_87_6 : kI 87 6 = some (.iconst 0, 1) := by decide +kernel
theorem i_87_7 : kI 87 7 = some (.putfield 28, 3) := by decide +kernel
theorem i_87_10 : kI 87 10 = some (.iconst 0, 1) := by decide +kernel
theorem i_87_11 : kI 87 11 = some (.istore_n 1, 1) := by decide +kernel
theorem i_87_12 : kI 87 12 = some (.iload_n 1, 1) := by decide +kernel
theorem i_87_13 : kI 87 13 = some (.bipush 6, 2) := by decide +kernel
theorem i_87_15 : kI 87 15 = some (.if_icmp .ge 23, 3) := by decide +kernel
theorem i_87_18 : kI 87 18 = some (.aload_n 0, 1) := by decide +kernel
theorem i_87_19 : kI 87 19 = some (.iload_n 1, 1) := by decide +kernel
theorem i_87_20 : kI 87 20 = some (.invokevirtual 31, 3) := by decide +kernel
theorem i_87_23 : kI 87 23 = some (.astore_n 2, 1) := by decide +kernel
theorem i_87_24 : kI 87 24 = some (.aload_n 2, 1) := by decide +kernel
theorem i_87_25 : kI 87 25 = some (.ifnull 7, 3) := by decide +kernel
theorem i_87_28 : kI 87 28 = some (.aload_n 2, 1) := by decide +kernel
theorem i_87_29 : kI 87 29 = some (.invokevirtual 35, 3) := by decide +kernel
theorem i_87_32 : kI 87 32 = some (.iinc 1 1, 3) := by decide +kernel
theorem i_87_35 : kI 87 35 = some (.goto (-23), 3) := by decide +kernel
theorem i_87_38 : kI 87 38 = some (.return_, 1) := by decide +kernel
theorem i_88_0 : kI 88 0 = some (.aload_n 0, 1) := by decide +kernel
theorem i_88_1 : kI 88 1 = some (.iconst 0, 1) := by decide +kernel
theorem i_88_2 : kI 88 2 = some (.putfield 24, 3) := by decide +kernel
theorem i_88_5 : kI 88 5 = some (.aload_n 0, 1) := by decide +kernel
theorem i_88_6 : kI 88 6 = some (.getfield 28, 3) := by decide +kernel
theorem i_88_9 : kI 88 9 = some (.ireturn, 1) := by decide +kernel
theorem i_89_0 : kI 89 0 = some (.iconst 0, 1) := by decide +kernel
theorem i_89_1 : kI 89 1 = some (.istore_n 1, 1) := by decide +kernel
theorem i_89_2 : kI 89 2 = some (.iload_n 1, 1) := by decide +kernel
theorem i_89_3 : kI 89 3 = some (.bipush 6, 2) := by decide +kernel
theorem i_89_5 : kI 89 5 = some (.if_icmp .ge 23, 3) := by decide +kernel
theorem i_89_8 : kI 89 8 = some (.aload_n 0, 1) := by decide +kernel
theorem i_89_9 : kI 89 9 = some (.iload_n 1, 1) := by decide +kernel
theorem i_89_10 : kI 89 10 = some (.invokevirtual 31, 3) := by decide +kernel
theorem i_89_13 : kI 89 13 = some (.astore_n 2, 1) := by decide +kernel
theorem i_89_14 : kI 89 14 = some (.aload_n 2, 1) := by decide +kernel
theorem i_89_15 : kI 89 15 = some (.ifnull 7, 3) := by decide +kernel
theorem i_89_18 : kI 89 18 = some (.aload_n 2, 1) := by decide +kernel
theorem i_89_19 : kI 89 19 = some (.invokevirtual 38, 3) := by decide +kernel
theorem i_89_22 : kI 89 22 = some (.iinc 1 1, 3) := by decide +kernel
theorem i_89_25 : kI 89 25 = some (.goto (-23), 3) := by decide +kernel
theorem i_89_28 : kI 89 28 = some (.return_, 1) := by decide +kernel
theorem i_90_0 : kI 90 0 = some (.aload_n 0, 1) := by decide +kernel
theorem i_90_1 : kI 90 1 = some (.invokespecial 3, 3) := by decide +kernel
theorem i_90_4 : kI 90 4 = some (.aload_n 0, 1) := by decide +kernel
theorem i_90_5 : kI 90 5 = some (.bipush 8, 2) := by decide +kernel
theorem i_90_7 : kI 90 7 = some (.newarray .int, 2) := by decide +kernel
theorem i_90_9 : kI 90 9 = some (.putfield 9, 3) := by decide +kernel
theorem i_90_12 : kI 90 12 = some (.aload_n 0, 1) := by decide +kernel
theorem i_90_13 : kI 90 13 = some (.bipush 12, 2) := by decide +kernel
theorem i_90_15 : kI 90 15 = some (.newarray .int, 2) := by decide +kernel
theorem i_90_17 : kI 90 17 = some (.putfield 15, 3) := by decide +kernel
theorem i_90_20 : kI 90 20 = some (.aload_n 0, 1) := by decide +kernel
theorem i_90_21 : kI 90 21 = some (.new 18, 3) := by decide +kernel
theorem i_90_24 : kI 90 24 = some (.dup, 1) := by decide +kernel
theorem i_90_25 : kI 90 25 = some (.invokespecial 20, 3) := by decide +kernel
theorem i_90_28 : kI 90 28 = some (.putfield 21, 3) := by decide +kernel
theorem i_90_31 : kI 90 31 = some (.return_, 1) := by decide +kernel
theorem i_91_0 : kI 91 0 = some (.aload_n 0, 1) := by decide +kernel
theorem i_91_1 : kI 91 1 = some (.iload_n 1, 1) := by decide +kernel
theorem i_91_2 : kI 91 2 = some (.putfield 25, 3) := by decide +kernel
theorem i_91_5 : kI 91 5 = some (.aload_n 0, 1) := by decide +kernel
theorem i_91_6 : kI 91 6 = some (.iconst 0, 1) := by decide +kernel
theorem i_91_7 : kI 91 7 = some (.putfield 29, 3) := by decide +kernel
theorem i_91_10 : kI 91 10 = some (.aload_n 0, 1) := by decide +kernel
theorem i_91_11 : kI 91 11 = some (.iconst 0, 1) := by decide +kernel
theorem i_91_12 : kI 91 12 = some (.putfield 32, 3) := by decide +kernel
theorem i_91_15 : kI 91 15 = some (.aload_n 0, 1) := by decide +kernel
theorem i_91_16 : kI 91 16 = some (.iconst 0, 1) := by decide +kernel
theorem i_91_17 : kI 91 17 = some (.putfield 35, 3) := by decide +kernel
theorem i_91_20 : kI 91 20 = some (.aload_n 0, 1) := by decide +kernel
theorem i_91_21 : kI 91 21 = some (.iconst 0, 1) := by decide +kernel
theorem i_91_22 : kI 91 22 = some (.putfield 38, 3) := by decide +kernel
theorem i_91_25 : kI 91 25 = some (.aload_n 0, 1) := by decide +kernel
theorem i_91_26 : kI 91 26 = some (.aconst_null, 1) := by decide +kernel
theorem i_91_27 : kI 91 27 = some (.putfield 41, 3) := by decide +kernel
theorem i_91_30 : kI 91 30 = some (.aload_n 0, 1) := by decide +kernel
theorem i_91_31 : kI 91 31 = some (.aconst_null, 1) := by decide +kernel
theorem i_91_32 : kI 91 32 = some (.putfield 45, 3) := by decide +kernel
theorem i_91_35 : kI 91 35 = some (.aload_n 0, 1) := by decide +kernel
theorem i_91_36 : kI 91 36 = some (.aconst_null, 1) := by decide +kernel
theorem i_91_37 : kI 91 37 = some (.putfield 49, 3) := by decide +kernel
theorem i_91_40 : kI 91 40 = some (.aload_n 0, 1) := by decide +kernel
theorem i_91_41 : kI 91 41 = some (.iconst 0, 1) := by decide +kernel
theorem i_91_42 : kI 91 42 = some (.putfield 52, 3) := by decide +kernel
theorem i_91_45 : kI 91 45 = some (.return_, 1) := by decide +kernel
theorem i_92_0 : kI 92 0 = some (.aload_n 0, 1) := by decide +kernel
theorem i_92_1 : kI 92 1 = some (.iconst 0, 1) := by decide +kernel
theorem i_92_2 : kI 92 2 = some (.putfield 55, 3) := by decide +kernel
theorem i_92_5 : kI 92 5 = some (.aload_n 0, 1) := by decide +kernel
theorem i_92_6 : kI 92 6 = some (.iconst 0, 1) := by decide +kernel
theorem i_92_7 : kI 92 7 = some (.putfield 58, 3) := by decide +kernel
theorem i_92_10 : kI 92 10 = some (.aload_n 0, 1) := by decide +kernel
theorem i_92_11 : kI 92 11 = some (.iconst 0, 1) := by decide +kernel
theorem i_92_12 : kI 92 12 = some (.putfield 62, 3) := by decide +kernel
theorem i_92_15 : kI 92 15 = some (.aload_n 0, 1) := by decide +kernel
theorem i_92_16 : kI 92 16 = some (.iconst 0, 1) := by decide +kernel
theorem i_92_17 : kI 92 17 = some (.putfield 65, 3) := by decide +kernel
theorem i_92_20 : kI 92 20 = some (.aload_n 0, 1) := by decide +kernel
theorem i_92_21 : kI 92 21 = some (.getfield 21, 3) := by decide +kernel
theorem i_92_24 : kI 92 24 = some (.aload_n 0, 1) := by decide +kernel
theorem i_92_25 : kI 92 25 = some (.getfield 52, 3) := by decide +kernel
theorem i_92_28 : kI 92 28 = some (.invokevirtual 68, 3) := by decide +kernel
theorem i_92_31 : kI 92 31 = some (.return_, 1) := by decide +kernel
end
section
def kTbl : List Cond := lw_tbl.filter goodWord
def kWat (p : Nat) (w : Cond) : Bool := decide (lw_tbl[p]? = some w) && goodWord w
theorem kWat_ok {p : Nat} {w : Cond} (h : kWat p w = true) : w ∈ kTbl := by
  unfold kWat at h
  rw [Bool.and_eq_true] at h
  exact List.mem_filter.mpr ⟨List.mem_of_getElem? (of_decide_eq_true h.1), h.2⟩
def kTw0 : List Cond := vx_atS "RelationDesk" 49 "java/lang/IllegalArgumentException" ["java/lang/RuntimeException", "java/lang/Exception"]
def kTw1 : List Cond := vx_atS "RelationDesk" 63 "java/lang/IllegalStateException" ["java/lang/RuntimeException", "java/lang/Exception"]
def kNst0 : List Cond := [.methodLinkNest "RelationDesk" 29 (kNm 45) "RelationDesk", .methodLinkNest "RelationDesk$Reader" 117 (kNm 18) "RelationDesk", .methodLinkNest "RelationDesk$Runner" 135 (kNm 18) "RelationDesk"]
def kNst : List Cond := kNst0 ++ (kTw0.filter (fun w => !goodWord w) ++ kTw1.filter (fun w => !goodWord w))
def kFpL : List (Nat × Nat × Nat × Nat × Nat) := [(0, 10, 0, 0, 147), (0, 16, 0, 1, 148), (0, 23, 0, 2, 149), (0, 30, 0, 3, 150), (0, 34, 0, 4, 151), (0, 37, 0, 5, 152), (0, 41, 0, 6, 153), (0, 52, 5, 1, 89), (0, 55, 5, 2, 91), (0, 80, 4, 1, 285), (0, 90, 4, 4, 290), (0, 150, 2, 1, 113), (0, 166, 6, 9, 553), (0, 171, 2, 2, 115), (0, 185, 3, 1, 141), (0, 188, 6, 10, 556), (1, 9, 1, 0, 509), (1, 15, 1, 1, 510), (1, 18, 1, 2, 511), (1, 22, 1, 3, 512), (2, 9, 2, 0, 111), (2, 17, 2, 4, 117), (2, 21, 2, 2, 114), (2, 25, 2, 1, 112), (2, 28, 2, 3, 116), (2, 31, 2, 5, 118), (2, 66, 6, 0, 525), (2, 73, 6, 7, 546), (2, 77, 6, 8, 549), (2, 84, 6, 9, 551), (2, 91, 5, 1, 90), (2, 98, 6, 6, 543), (2, 102, 6, 1, 528), (2, 105, 6, 3, 534), (2, 108, 6, 4, 537), (2, 111, 6, 5, 540), (2, 114, 6, 2, 530), (2, 120, 4, 0, 283), (2, 137, 4, 1, 286), (3, 9, 3, 1, 140), (3, 19, 3, 0, 139), (3, 31, 6, 7, 545), (3, 35, 6, 8, 548), (3, 38, 6, 0, 524), (3, 45, 6, 6, 542), (3, 76, 6, 12, 560), (3, 83, 6, 1, 527), (3, 86, 6, 4, 536), (3, 99, 6, 10, 555), (3, 111, 6, 3, 533), (3, 121, 6, 9, 552), (3, 124, 6, 5, 539), (3, 127, 6, 13, 562), (3, 138, 6, 2, 531), (3, 141, 6, 14, 564), (3, 148, 6, 11, 558), (3, 161, 6, 15, 566), (3, 167, 1, 3, 513), (4, 9, 4, 0, 282), (4, 15, 4, 1, 284), (4, 19, 4, 2, 287), (4, 23, 4, 3, 288), (4, 26, 4, 4, 289), (4, 46, 4, 5, 291), (5, 11, 5, 0, 87), (5, 17, 5, 1, 88), (5, 24, 5, 2, 92), (5, 28, 5, 3, 93), (6, 9, 6, 5, 538), (6, 15, 6, 10, 554), (6, 21, 6, 11, 557), (6, 25, 6, 0, 523), (6, 29, 6, 1, 526), (6, 32, 6, 2, 529), (6, 35, 6, 3, 532), (6, 38, 6, 4, 535), (6, 41, 6, 6, 541), (6, 45, 6, 7, 544), (6, 49, 6, 8, 547), (6, 52, 6, 9, 550), (6, 55, 6, 12, 559), (6, 58, 6, 13, 561), (6, 62, 6, 14, 563), (6, 65, 6, 15, 565), (7, 7, 7, 2, 805), (7, 13, 7, 3, 806), (7, 17, 7, 4, 807), (7, 20, 7, 5, 808), (7, 23, 7, 6, 809), (7, 26, 7, 9, 812), (7, 29, 7, 10, 813), (7, 32, 7, 12, 815), (7, 35, 7, 13, 816), (7, 38, 7, 14, 817), (7, 42, 7, 17, 820), (7, 45, 7, 18, 821), (7, 48, 7, 19, 822), (7, 51, 7, 20, 823), (7, 54, 7, 21, 824), (7, 57, 7, 26, 829), (7, 61, 7, 27, 830), (7, 64, 7, 28, 831), (7, 67, 7, 29, 832), (7, 70, 7, 30, 833), (7, 73, 7, 32, 835), (7, 76, 7, 33, 836), (7, 79, 7, 34, 837), (7, 82, 7, 38, 841), (7, 85, 7, 39, 842), (7, 88, 7, 0, 803), (7, 91, 7, 1, 804), (7, 102, 7, 7, 810), (7, 106, 7, 15, 818), (7, 117, 7, 8, 811), (7, 130, 7, 11, 814), (7, 133, 7, 23, 826), (7, 136, 7, 22, 825), (7, 149, 7, 16, 819), (7, 169, 7, 24, 827), (7, 172, 7, 31, 834), (7, 178, 7, 35, 838), (7, 181, 7, 36, 839), (7, 187, 7, 37, 840), (7, 194, 7, 25, 828)]
def kChF (q : Nat × Nat × Nat × Nat × Nat) : Bool := match classes[q.2.2.1]? with
  | some r => decide (q.2.2.2.1 < r.2.2) && kWat q.2.2.2.2 (.fieldLink (kCls q.1) q.2.1 (r.2.1 q.2.2.2.1).1 (r.2.1 q.2.2.2.1).2.1 (r.2.1 q.2.2.2.1).2.2.1)
  | none => false
theorem kChF_ok : kFpL.all kChF = true := by decide +kernel
theorem kFpL_eq : kFpL.map (fun q => (q.1, q.2.1, q.2.2.1, q.2.2.2.1)) = kFldL := by decide +kernel
def kLyL : List (List Nat) := [[154, 156, 158, 160, 162, 164, 166], [514, 516, 518, 520], [119, 121, 123, 125, 127, 129], [142, 144], [292, 294, 296, 298, 300, 302], [94, 96, 98, 100], [567, 569, 571, 573, 575, 577, 579, 581, 583, 585, 587, 589, 591, 593, 595, 597], [843, 845, 847, 849, 851, 853, 855, 857, 859, 861, 863, 865, 867, 869, 871, 873, 875, 877, 879, 881, 883, 885, 887, 889, 891, 893, 895, 897, 899, 901, 903, 905, 907, 909, 911, 913, 915, 917, 919, 921]]
def kChL (ci : Nat) : Bool := match classes[ci]? with
  | some r => (List.range r.2.2).all (fun k => kWat ((kLyL.getD ci []).getD k 0) (u_lay r.1 r.2.1 k) && decide (parseFieldDescriptor (r.2.1 k).2.2.1 = some (kFty ci k)) && decide (defaultValue (kFty ci k) = vp_V (kDef ci) k) && (List.range r.2.2).all (fun j => decide (j = k) || decide ((r.2.1 k).2.1 ≠ (r.2.1 j).2.1))) && decide (r.2.2 = kSz ci)
  | none => false
theorem kChL_ok : (List.range classes.length).all kChL = true := by decide +kernel
def kNpL : List (Nat × Nat × Nat × Nat × Nat × Nat) := [(0, 7, 5, 79, 80, 57), (0, 20, 2, 103, 104, 58), (0, 27, 3, 133, 134, 59), (2, 15, 6, 109, 498, 69), (5, 9, 4, 85, 277, 66), (6, 18, 1, 503, 504, 70), (8, 8, 0, 71, 72, 56), (8, 58, 7, 796, 797, 60)]
def kChN (q : Nat × Nat × Nat × Nat × Nat × Nat) : Bool := match classes[q.2.2.1]? with
  | some r => kWat q.2.2.2.1 (.classLink (kCls q.1) q.2.1 r.1) && kWat q.2.2.2.2.1 (.instantiable r.1 r.2.2) && kWat q.2.2.2.2.2 (.initialized r.1)
  | none => false
theorem kChN_ok : kNpL.all kChN = true := by decide +kernel
theorem kNpL_eq : kNpL.map (fun q => (q.1, q.2.1, q.2.2.1)) = kNewL := by decide +kernel
def kApL : List (Nat × Nat × Nat × Nat) := [(2, 15, 4, 109), (5, 9, 3, 85)]
def kChA (q : Nat × Nat × Nat × Nat) : Bool := match kArt[q.2.2.1]? with
  | some (.object C) => kWat q.2.2.2 (.classLink (kCls q.1) q.2.1 C) && decide (C ∈ kAOs)
  | _ => false
theorem kChA_ok : kApL.all kChA = true := by decide +kernel
theorem kApL_eq : kApL.map (fun q => (q.1, q.2.1, q.2.2.1)) = kANewL := by decide +kernel
theorem kArr_i : Cond.arrayClass .int ∈ kTbl := kWat_ok (p := 132) (by decide +kernel)
theorem kArr_z : Cond.arrayClass .boolean ∈ kTbl := kWat_ok (p := 305) (by decide +kernel)
theorem kArr_j : Cond.arrayClass .long ∈ kTbl := kWat_ok (p := 1121) (by decide +kernel)
def kCpL : List (Nat × Nat × Int32 × Nat) := [(3, 107, 1000000, 679), (7, 60, 108000, 802), (7, 143, (-2147483648), 1019), (7, 144, 2147483647, 1020)]
theorem kChC_ok : kCpL.all (fun q => kWat q.2.2.2 (.constant (kCls q.1) q.2.1 q.2.2.1)) = true := by decide +kernel
theorem kCpL_eq : kCpL.map (fun q => (q.1, q.2.1, q.2.2.1)) = kCstL := by decide +kernel
def kXpL : List (Nat × Nat × Nat × Nat) := [(0, 191, 0, 795), (1, 25, 0, 734), (3, 196, 1, 764), (3, 201, 2, 767), (3, 204, 0, 689), (4, 36, 0, 352)]
def kNatN (v : Nat) : MethodName := match v with
  | 0 => arraycopyName
  | 1 => Lib.Math.min.name
  | _ => Lib.Math.max.name
theorem kChX_ok : kXpL.all (fun q => kWat q.2.2.2 (.methodLink (kCls q.1) q.2.1 (kNatN q.2.2.1))) = true := by decide +kernel
theorem kXpL_eq : kXpL.map (fun q => (q.1, q.2.1, q.2.2.1)) = kNatL := by decide +kernel
theorem kX_nat : Cond.native arraycopyName ∈ kTbl := kWat_ok (p := 354) (by decide +kernel)
theorem kX_st0 : Cond.static arraycopyName ∈ kTbl := kWat_ok (p := 353) (by decide +kernel)
theorem kX_in0 : Cond.initialized "java/lang/System" ∈ kTbl := kWat_ok (p := 67) (by decide +kernel)
theorem kX_st1 : Cond.static Lib.Math.min.name ∈ kTbl := kWat_ok (p := 765) (by decide +kernel)
theorem kX_st2 : Cond.static Lib.Math.max.name ∈ kTbl := kWat_ok (p := 768) (by decide +kernel)
theorem kX_in1 : Cond.initialized "java/lang/Math" ∈ kTbl := kWat_ok (p := 68) (by decide +kernel)
theorem kX_cd1 : Cond.code Lib.Math.min.name Lib.Math.min.code 2 (some .int) ∈ kTbl := kWat_ok (p := 766) (by decide +kernel)
theorem kX_cd2 : Cond.code Lib.Math.max.name Lib.Math.max.code 2 (some .int) ∈ kTbl := kWat_ok (p := 769) (by decide +kernel)
def kOpL : List (Nat × Nat × Nat × Nat) := [(0, 1, 0, 76), (1, 3, 0, 508), (2, 3, 0, 108), (3, 3, 0, 138), (4, 3, 0, 281), (5, 3, 0, 84), (6, 3, 0, 502), (7, 1, 0, 801)]
theorem kChO_ok : kOpL.all (fun q => kWat q.2.2.2 (.methodLink (kCls q.1) q.2.1 Lib.objectInit)) = true := by decide +kernel
theorem kOpL_eq : kOpL.map (fun q => (q.1, q.2.1, q.2.2.1)) = kOb9L := by decide +kernel
theorem kO_in : Cond.instanceMethod Lib.objectInit ∈ kTbl := kWat_ok (p := 77) (by decide +kernel)
theorem kO_cd : Cond.code Lib.objectInit ⟨#[0xb1]⟩ 1 none ∈ kTbl := kWat_ok (p := 78) (by decide +kernel)
def kMwL : List (List Nat) := [[75, 56, 74], [189, 56, 187, 188], [312, 56, 310, 311], [329, 56, 327, 328], [337, 56, 335, 336], [361, 56, 359, 360], [386, 56, 384, 385], [403, 56, 401, 402], [420, 56, 418, 419], [432, 56, 430, 431], [447, 56, 445, 446], [457, 56, 455, 456], [469, 56, 467, 468], [172, 56, 170, 171], [651, 56, 649, 650], [176, 56, 174, 175], [180, 56, 178, 179], [794, 56, 793, 24], [617, 56, 616], [507, 70, 506], [643, 70, 641, 642], [760, 70, 758, 759], [773, 70, 771, 772], [790, 70, 788, 789], [733, 70, 731, 732], [777, 70, 775, 776], [782, 70, 781], [725, 70, 723, 724], [729, 70, 728, 19], [756, 70, 754, 755], [107, 58, 106], [462, 58, 460, 461], [473, 58, 471, 472], [493, 58, 492, 5], [481, 58, 480, 2], [489, 58, 488, 4], [485, 58, 484, 3], [497, 58, 496, 6], [477, 58, 476, 1], [611, 58, 610], [607, 58, 606, 7], [614, 58, 613], [620, 58, 619], [623, 58, 622], [626, 58, 625], [137, 59, 136], [631, 59, 629, 630], [657, 59, 655, 656], [635, 59, 634, 8], [661, 59, 660, 9], [665, 59, 664, 10], [693, 59, 692, 13], [669, 59, 668, 11], [678, 59, 677, 12], [685, 59, 684], [701, 59, 700, 14], [705, 59, 704, 15], [708, 59, 707], [717, 59, 716, 17], [713, 59, 712, 16], [721, 59, 720, 18], [738, 59, 737, 20], [742, 59, 741, 21], [786, 59, 785, 23], [746, 59, 745, 22], [749, 59, 748], [752, 59, 751], [763, 59, 762], [682, 59, 681], [688, 59, 687], [280, 66, 279], [320, 66, 318, 319], [373, 66, 371, 372], [369, 66, 367, 368], [674, 66, 672, 673], [351, 66, 349, 350], [365, 66, 363, 364], [697, 66, 695, 696], [379, 66, 377, 378], [396, 66, 394, 395], [413, 66, 411, 412], [440, 66, 438, 439], [83, 57, 82], [316, 57, 314, 315], [276, 57, 274, 275], [342, 57, 340, 341], [347, 57, 345, 346], [408, 57, 406, 407], [425, 57, 423, 424], [436, 57, 434, 435], [501, 69, 500], [603, 69, 601, 602], [639, 69, 637, 638], [800, 60, 799], [927, 60, 925, 926], [934, 60, 933], [954, 60, 953, 27], [946, 60, 945, 26], [942, 60, 941, 25], [961, 60, 960], [931, 60, 929, 930], [938, 60, 936, 937], [950, 60, 948, 949], [958, 60, 956, 957], [969, 60, 968, 28], [965, 60, 963, 964], [973, 60, 971, 972], [977, 60, 975, 976], [981, 60, 979, 980], [985, 60, 983, 984], [990, 60, 988, 989], [994, 60, 992, 993], [1010, 60, 1009, 31], [1006, 60, 1005, 30], [1018, 60, 1017, 33], [1002, 60, 1001, 29], [1014, 60, 1013, 32], [1028, 60, 1027, 35], [1024, 60, 1023, 34], [1032, 60, 1031, 36], [998, 60, 996, 997], [1040, 60, 1038, 1039], [1036, 60, 1035, 37], [1048, 60, 1047, 38], [1060, 60, 1059, 41], [1064, 60, 1063, 42], [1056, 60, 1055, 40], [1068, 60, 1067, 43], [1052, 60, 1051, 39], [1072, 60, 1071, 44], [1084, 60, 1083, 47], [1076, 60, 1075, 45], [1088, 60, 1087, 48], [1080, 60, 1079, 46], [1100, 60, 1099, 51], [1096, 60, 1095, 50], [1104, 60, 1103, 52], [1092, 60, 1091, 49], [1108, 60, 1107, 53], [1112, 60, 1111, 54], [1044, 60, 1042, 1043], [1116, 60, 1114, 1115], [1120, 60, 1118, 1119], [183, 55, 182], [308, 55, 307], [325, 55, 324], [333, 55, 332], [357, 55, 356], [382, 55, 381], [399, 55, 398], [416, 55, 415], [428, 55, 427], [443, 55, 442], [453, 55, 452], [465, 55, 464], [647, 55, 646], [], [389, 68, 388], [392, 68, 391]]
def kCdW (y : Nat) : Cond := if kHh y = [] then .code (kNm y) (kBytes y) (kMaxL y) (kRet y) else .codeWith (kNm y) (kBytes y) (kMaxL y) (kRet y) (kHh y)
def kWs (y : Nat) : List Cond := kCdW y :: kTbl
def kChM (y : Nat) : Bool := kWat ((kMwL.getD y []).getD 0 9999) (kCdW y) && kWat ((kMwL.getD y []).getD 1 9999) (.initialized (kNm y).cls) &&
  (match kKin y with
  | 0 => kWat ((kMwL.getD y []).getD 2 9999) (.static (kNm y)) && decide (kRcv y = none)
  | 1 => kWat ((kMwL.getD y []).getD 2 9999) (.instanceMethod (kNm y)) && kWat ((kMwL.getD y []).getD 3 9999) (.selects (kNm y).cls (kNm y) (kNm y)) && (match kRcv y with | some ci => decide ((classes[ci]?).map (fun r => r.1) = some (kNm y).cls) | none => false)
  | _ => kWat ((kMwL.getD y []).getD 2 9999) (.instanceMethod (kNm y)) && decide ((kNm y).name = "<init>")) &&
  decide ((kNm y).cls ≠ "java/lang/invoke/MethodHandle") && decide ((kNm y).cls ≠ "java/lang/invoke/VarHandle") && decide ((parseMethodDescriptor (kNm y).desc).map (fun d => d.parameters.length) = some (kArg y)) && (plainName (kNm y).cls || (plainFor (kNm y) && decide (kHh y = []))) && decide (kMaxL y ≤ 40) && decide (kCls (kCn y) = (kNm y).cls) && decide (kKin y = 0 ∨ kHh y = []) && decide (kKin y = 2 → kRet y = none)

theorem kChM_0 : kChM 0 = true := by decide +kernel
theorem kChM_1 : kChM 1 = true := by decide +kernel
theorem kChM_2 : kChM 2 = true := by decide +kernel
theorem kChM_3 : kChM 3 = true := by decide +kernel
theorem kChM_4 : kChM 4 = true := by decide +kernel
theorem kChM_5 : kChM 5 = true := by decide +kernel
theorem kChM_6 : kChM 6 = true := by decide +kernel
theorem kChM_7 : kChM 7 = true := by decide +kernel
theorem kChM_8 : kChM 8 = true := by decide +kernel
theorem kChM_9 : kChM 9 = true := by decide +kernel
theorem kChM_10 : kChM 10 = true := by decide +kernel
theorem kChM_11 : kChM 11 = true := by decide +kernel
theorem kChM_12 : kChM 12 = true := by decide +kernel
theorem kChM_13 : kChM 13 = true := by decide +kernel
theorem kChM_14 : kChM 14 = true := by decide +kernel
theorem kChM_15 : kChM 15 = true := by decide +kernel
theorem kChM_16 : kChM 16 = true := by decide +kernel
theorem kChM_17 : kChM 17 = true := by decide +kernel
theorem kChM_18 : kChM 18 = true := by decide +kernel
theorem kChM_19 : kChM 19 = true := by decide +kernel
theorem kChM_20 : kChM 20 = true := by decide +kernel
theorem kChM_21 : kChM 21 = true := by decide +kernel
theorem kChM_22 : kChM 22 = true := by decide +kernel
theorem kChM_23 : kChM 23 = true := by decide +kernel
theorem kChM_24 : kChM 24 = true := by decide +kernel
theorem kChM_25 : kChM 25 = true := by decide +kernel
theorem kChM_26 : kChM 26 = true := by decide +kernel
theorem kChM_27 : kChM 27 = true := by decide +kernel
theorem kChM_28 : kChM 28 = true := by decide +kernel
theorem kChM_29 : kChM 29 = true := by decide +kernel
theorem kChM_30 : kChM 30 = true := by decide +kernel
theorem kChM_31 : kChM 31 = true := by decide +kernel
theorem kChM_32 : kChM 32 = true := by decide +kernel
theorem kChM_33 : kChM 33 = true := by decide +kernel
theorem kChM_34 : kChM 34 = true := by decide +kernel
theorem kChM_35 : kChM 35 = true := by decide +kernel
theorem kChM_36 : kChM 36 = true := by decide +kernel
theorem kChM_37 : kChM 37 = true := by decide +kernel
theorem kChM_38 : kChM 38 = true := by decide +kernel
theorem kChM_39 : kChM 39 = true := by decide +kernel
theorem kChM_40 : kChM 40 = true := by decide +kernel
theorem kChM_41 : kChM 41 = true := by decide +kernel
theorem kChM_42 : kChM 42 = true := by decide +kernel
theorem kChM_43 : kChM 43 = true := by decide +kernel
theorem kChM_44 : kChM 44 = true := by decide +kernel
theorem kChM_45 : kChM 45 = true := by decide +kernel
theorem kChM_46 : kChM 46 = true := by decide +kernel
theorem kChM_47 : kChM 47 = true := by decide +kernel
theorem kChM_48 : kChM 48 = true := by decide +kernel
theorem kChM_49 : kChM 49 = true := by decide +kernel
theorem kChM_50 : kChM 50 = true := by decide +kernel
theorem kChM_51 : kChM 51 = true := by decide +kernel
theorem kChM_52 : kChM 52 = true := by decide +kernel
theorem kChM_53 : kChM 53 = true := by decide +kernel
theorem kChM_54 : kChM 54 = true := by decide +kernel
theorem kChM_55 : kChM 55 = true := by decide +kernel
theorem kChM_56 : kChM 56 = true := by decide +kernel
theorem kChM_57 : kChM 57 = true := by decide +kernel
theorem kChM_58 : kChM 58 = true := by decide +kernel
theorem kChM_59 : kChM 59 = true := by decide +kernel
theorem kChM_60 : kChM 60 = true := by decide +kernel
theorem kChM_61 : kChM 61 = true := by decide +kernel
theorem kChM_62 : kChM 62 = true := by decide +kernel
theorem kChM_63 : kChM 63 = true := by decide +kernel
theorem kChM_64 : kChM 64 = true := by decide +kernel
theorem kChM_65 : kChM 65 = true := by decide +kernel
theorem kChM_66 : kChM 66 = true := by decide +kernel
theorem kChM_67 : kChM 67 = true := by decide +kernel
theorem kChM_68 : kChM 68 = true := by decide +kernel
theorem kChM_69 : kChM 69 = true := by decide +kernel
theorem kChM_70 : kChM 70 = true := by decide +kernel
theorem kChM_71 : kChM 71 = true := by decide +kernel
theorem kChM_72 : kChM 72 = true := by decide +kernel
theorem kChM_73 : kChM 73 = true := by decide +kernel
theorem kChM_74 : kChM 74 = true := by decide +kernel
theorem kChM_75 : kChM 75 = true := by decide +kernel
theorem kChM_76 : kChM 76 = true := by decide +kernel
theorem kChM_77 : kChM 77 = true := by decide +kernel
theorem kChM_78 : kChM 78 = true := by decide +kernel
theorem kChM_79 : kChM 79 = true := by decide +kernel
theorem kChM_80 : kChM 80 = true := by decide +kernel
theorem kChM_81 : kChM 81 = true := by decide +kernel
theorem kChM_82 : kChM 82 = true := by decide +kernel
theorem kChM_83 : kChM 83 = true := by decide +kernel
theorem kChM_84 : kChM 84 = true := by decide +kernel
theorem kChM_85 : kChM 85 = true := by decide +kernel
theorem kChM_86 : kChM 86 = true := by decide +kernel
theorem kChM_87 : kChM 87 = true := by decide +kernel
theorem kChM_88 : kChM 88 = true := by decide +kernel
theorem kChM_89 : kChM 89 = true := by decide +kernel
theorem kChM_90 : kChM 90 = true := by decide +kernel
theorem kChM_91 : kChM 91 = true := by decide +kernel
theorem kChM_92 : kChM 92 = true := by decide +kernel
theorem kChM_93 : kChM 93 = true := by decide +kernel
theorem kChM_94 : kChM 94 = true := by decide +kernel
theorem kChM_95 : kChM 95 = true := by decide +kernel
theorem kChM_96 : kChM 96 = true := by decide +kernel
theorem kChM_97 : kChM 97 = true := by decide +kernel
theorem kChM_98 : kChM 98 = true := by decide +kernel
theorem kChM_99 : kChM 99 = true := by decide +kernel
theorem kChM_100 : kChM 100 = true := by decide +kernel
theorem kChM_101 : kChM 101 = true := by decide +kernel
theorem kChM_102 : kChM 102 = true := by decide +kernel
theorem kChM_103 : kChM 103 = true := by decide +kernel
theorem kChM_104 : kChM 104 = true := by decide +kernel
theorem kChM_105 : kChM 105 = true := by decide +kernel
theorem kChM_106 : kChM 106 = true := by decide +kernel
theorem kChM_107 : kChM 107 = true := by decide +kernel
theorem kChM_108 : kChM 108 = true := by decide +kernel
theorem kChM_109 : kChM 109 = true := by decide +kernel
theorem kChM_110 : kChM 110 = true := by decide +kernel
theorem kChM_111 : kChM 111 = true := by decide +kernel
theorem kChM_112 : kChM 112 = true := by decide +kernel
theorem kChM_113 : kChM 113 = true := by decide +kernel
theorem kChM_114 : kChM 114 = true := by decide +kernel
theorem kChM_115 : kChM 115 = true := by decide +kernel
theorem kChM_116 : kChM 116 = true := by decide +kernel
theorem kChM_117 : kChM 117 = true := by decide +kernel
theorem kChM_118 : kChM 118 = true := by decide +kernel
theorem kChM_119 : kChM 119 = true := by decide +kernel
theorem kChM_120 : kChM 120 = true := by decide +kernel
theorem kChM_121 : kChM 121 = true := by decide +kernel
theorem kChM_122 : kChM 122 = true := by decide +kernel
theorem kChM_123 : kChM 123 = true := by decide +kernel
theorem kChM_124 : kChM 124 = true := by decide +kernel
theorem kChM_125 : kChM 125 = true := by decide +kernel
theorem kChM_126 : kChM 126 = true := by decide +kernel
theorem kChM_127 : kChM 127 = true := by decide +kernel
theorem kChM_128 : kChM 128 = true := by decide +kernel
theorem kChM_129 : kChM 129 = true := by decide +kernel
theorem kChM_130 : kChM 130 = true := by decide +kernel
theorem kChM_131 : kChM 131 = true := by decide +kernel
theorem kChM_132 : kChM 132 = true := by decide +kernel
theorem kChM_133 : kChM 133 = true := by decide +kernel
theorem kChM_134 : kChM 134 = true := by decide +kernel
theorem kChM_135 : kChM 135 = true := by decide +kernel
theorem kChM_136 : kChM 136 = true := by decide +kernel
theorem kChM_137 : kChM 137 = true := by decide +kernel
theorem kChM_138 : kChM 138 = true := by decide +kernel
theorem kChM_139 : kChM 139 = true := by decide +kernel
theorem kChM_140 : kChM 140 = true := by decide +kernel
theorem kChM_141 : kChM 141 = true := by decide +kernel
theorem kChM_142 : kChM 142 = true := by decide +kernel
theorem kChM_143 : kChM 143 = true := by decide +kernel
theorem kChM_144 : kChM 144 = true := by decide +kernel
theorem kChM_145 : kChM 145 = true := by decide +kernel
theorem kChM_146 : kChM 146 = true := by decide +kernel
theorem kChM_147 : kChM 147 = true := by decide +kernel
theorem kChM_148 : kChM 148 = true := by decide +kernel
theorem kChM_149 : kChM 149 = true := by decide +kernel
theorem kChM_150 : kChM 150 = true := by decide +kernel
theorem kChM_151 : kChM 151 = true := by decide +kernel
theorem kChM_152 : kChM 152 = true := by decide +kernel
theorem kChM_153 : kChM 153 = true := by decide +kernel
theorem kChM_154 : kChM 154 = true := by decide +kernel
theorem kChM_155 : kChM 155 = true := by decide +kernel
theorem kChM_157 : kChM 157 = true := by decide +kernel
theorem kChM_158 : kChM 158 = true := by decide +kernel
def kYs : List Nat := [0, 1, 2, 3, 4, 5, 6, 7, 8, 9, 10, 11, 12, 13, 14, 15, 16, 17, 18, 19, 20, 21, 22, 23, 24, 25, 26, 27, 28, 29, 30, 31, 32, 33, 34, 35, 36, 37, 38, 39, 40, 41, 42, 43, 44, 45, 46, 47, 48, 49, 50, 51, 52, 53, 54, 55, 56, 57, 58, 59, 60, 61, 62, 63, 64, 65, 66, 67, 68, 69, 70, 71, 72, 73, 74, 75, 76, 77, 78, 79, 80, 81, 82, 83, 84, 85, 86, 87, 88, 89, 90, 91, 92, 93, 94, 95, 96, 97, 98, 99, 100, 101, 102, 103, 104, 105, 106, 107, 108, 109, 110, 111, 112, 113, 114, 115, 116, 117, 118, 119, 120, 121, 122, 123, 124, 125, 126, 127, 128, 129, 130, 131, 132, 133, 134, 135, 136, 137, 138, 139, 140, 141, 142, 143, 144, 145, 146, 147, 148, 149, 150, 151, 152, 153, 154, 155, 157, 158]
theorem kChM_ok : ∀ y ∈ kYs, kChM y = true := List.forall_mem_cons.mpr ⟨kChM_0, List.forall_mem_cons.mpr ⟨kChM_1, List.forall_mem_cons.mpr ⟨kChM_2, List.forall_mem_cons.mpr ⟨kChM_3, List.forall_mem_cons.mpr ⟨kChM_4, List.forall_mem_cons.mpr ⟨kChM_5, List.forall_mem_cons.mpr ⟨kChM_6, List.forall_mem_cons.mpr ⟨kChM_7, List.forall_mem_cons.mpr ⟨kChM_8, List.forall_mem_cons.mpr ⟨kChM_9, List.forall_mem_cons.mpr ⟨kChM_10, List.forall_mem_cons.mpr ⟨kChM_11, List.forall_mem_cons.mpr ⟨kChM_12, List.forall_mem_cons.mpr ⟨kChM_13, List.forall_mem_cons.mpr ⟨kChM_14, List.forall_mem_cons.mpr ⟨kChM_15, List.forall_mem_cons.mpr ⟨kChM_16, List.forall_mem_cons.mpr ⟨kChM_17, List.forall_mem_cons.mpr ⟨kChM_18, List.forall_mem_cons.mpr ⟨kChM_19, List.forall_mem_cons.mpr ⟨kChM_20, List.forall_mem_cons.mpr ⟨kChM_21, List.forall_mem_cons.mpr ⟨kChM_22, List.forall_mem_cons.mpr ⟨kChM_23, List.forall_mem_cons.mpr ⟨kChM_24, List.forall_mem_cons.mpr ⟨kChM_25, List.forall_mem_cons.mpr ⟨kChM_26, List.forall_mem_cons.mpr ⟨kChM_27, List.forall_mem_cons.mpr ⟨kChM_28, List.forall_mem_cons.mpr ⟨kChM_29, List.forall_mem_cons.mpr ⟨kChM_30, List.forall_mem_cons.mpr ⟨kChM_31, List.forall_mem_cons.mpr ⟨kChM_32, List.forall_mem_cons.mpr ⟨kChM_33, List.forall_mem_cons.mpr ⟨kChM_34, List.forall_mem_cons.mpr ⟨kChM_35, List.forall_mem_cons.mpr ⟨kChM_36, List.forall_mem_cons.mpr ⟨kChM_37, List.forall_mem_cons.mpr ⟨kChM_38, List.forall_mem_cons.mpr ⟨kChM_39, List.forall_mem_cons.mpr ⟨kChM_40, List.forall_mem_cons.mpr ⟨kChM_41, List.forall_mem_cons.mpr ⟨kChM_42, List.forall_mem_cons.mpr ⟨kChM_43, List.forall_mem_cons.mpr ⟨kChM_44, List.forall_mem_cons.mpr ⟨kChM_45, List.forall_mem_cons.mpr ⟨kChM_46, List.forall_mem_cons.mpr ⟨kChM_47, List.forall_mem_cons.mpr ⟨kChM_48, List.forall_mem_cons.mpr ⟨kChM_49, List.forall_mem_cons.mpr ⟨kChM_50, List.forall_mem_cons.mpr ⟨kChM_51, List.forall_mem_cons.mpr ⟨kChM_52, List.forall_mem_cons.mpr ⟨kChM_53, List.forall_mem_cons.mpr ⟨kChM_54, List.forall_mem_cons.mpr ⟨kChM_55, List.forall_mem_cons.mpr ⟨kChM_56, List.forall_mem_cons.mpr ⟨kChM_57, List.forall_mem_cons.mpr ⟨kChM_58, List.forall_mem_cons.mpr ⟨kChM_59, List.forall_mem_cons.mpr ⟨kChM_60, List.forall_mem_cons.mpr ⟨kChM_61, List.forall_mem_cons.mpr ⟨kChM_62, List.forall_mem_cons.mpr ⟨kChM_63, List.forall_mem_cons.mpr ⟨kChM_64, List.forall_mem_cons.mpr ⟨kChM_65, List.forall_mem_cons.mpr ⟨kChM_66, List.forall_mem_cons.mpr ⟨kChM_67, List.forall_mem_cons.mpr ⟨kChM_68, List.forall_mem_cons.mpr ⟨kChM_69, List.forall_mem_cons.mpr ⟨kChM_70, List.forall_mem_cons.mpr ⟨kChM_71, List.forall_mem_cons.mpr ⟨kChM_72, List.forall_mem_cons.mpr ⟨kChM_73, List.forall_mem_cons.mpr ⟨kChM_74, List.forall_mem_cons.mpr ⟨kChM_75, List.forall_mem_cons.mpr ⟨kChM_76, List.forall_mem_cons.mpr ⟨kChM_77, List.forall_mem_cons.mpr ⟨kChM_78, List.forall_mem_cons.mpr ⟨kChM_79, List.forall_mem_cons.mpr ⟨kChM_80, List.forall_mem_cons.mpr ⟨kChM_81, List.forall_mem_cons.mpr ⟨kChM_82, List.forall_mem_cons.mpr ⟨kChM_83, List.forall_mem_cons.mpr ⟨kChM_84, List.forall_mem_cons.mpr ⟨kChM_85, List.forall_mem_cons.mpr ⟨kChM_86, List.forall_mem_cons.mpr ⟨kChM_87, List.forall_mem_cons.mpr ⟨kChM_88, List.forall_mem_cons.mpr ⟨kChM_89, List.forall_mem_cons.mpr ⟨kChM_90, List.forall_mem_cons.mpr ⟨kChM_91, List.forall_mem_cons.mpr ⟨kChM_92, List.forall_mem_cons.mpr ⟨kChM_93, List.forall_mem_cons.mpr ⟨kChM_94, List.forall_mem_cons.mpr ⟨kChM_95, List.forall_mem_cons.mpr ⟨kChM_96, List.forall_mem_cons.mpr ⟨kChM_97, List.forall_mem_cons.mpr ⟨kChM_98, List.forall_mem_cons.mpr ⟨kChM_99, List.forall_mem_cons.mpr ⟨kChM_100, List.forall_mem_cons.mpr ⟨kChM_101, List.forall_mem_cons.mpr ⟨kChM_102, List.forall_mem_cons.mpr ⟨kChM_103, List.forall_mem_cons.mpr ⟨kChM_104, List.forall_mem_cons.mpr ⟨kChM_105, List.forall_mem_cons.mpr ⟨kChM_106, List.forall_mem_cons.mpr ⟨kChM_107, List.forall_mem_cons.mpr ⟨kChM_108, List.forall_mem_cons.mpr ⟨kChM_109, List.forall_mem_cons.mpr ⟨kChM_110, List.forall_mem_cons.mpr ⟨kChM_111, List.forall_mem_cons.mpr ⟨kChM_112, List.forall_mem_cons.mpr ⟨kChM_113, List.forall_mem_cons.mpr ⟨kChM_114, List.forall_mem_cons.mpr ⟨kChM_115, List.forall_mem_cons.mpr ⟨kChM_116, List.forall_mem_cons.mpr ⟨kChM_117, List.forall_mem_cons.mpr ⟨kChM_118, List.forall_mem_cons.mpr ⟨kChM_119, List.forall_mem_cons.mpr ⟨kChM_120, List.forall_mem_cons.mpr ⟨kChM_121, List.forall_mem_cons.mpr ⟨kChM_122, List.forall_mem_cons.mpr ⟨kChM_123, List.forall_mem_cons.mpr ⟨kChM_124, List.forall_mem_cons.mpr ⟨kChM_125, List.forall_mem_cons.mpr ⟨kChM_126, List.forall_mem_cons.mpr ⟨kChM_127, List.forall_mem_cons.mpr ⟨kChM_128, List.forall_mem_cons.mpr ⟨kChM_129, List.forall_mem_cons.mpr ⟨kChM_130, List.forall_mem_cons.mpr ⟨kChM_131, List.forall_mem_cons.mpr ⟨kChM_132, List.forall_mem_cons.mpr ⟨kChM_133, List.forall_mem_cons.mpr ⟨kChM_134, List.forall_mem_cons.mpr ⟨kChM_135, List.forall_mem_cons.mpr ⟨kChM_136, List.forall_mem_cons.mpr ⟨kChM_137, List.forall_mem_cons.mpr ⟨kChM_138, List.forall_mem_cons.mpr ⟨kChM_139, List.forall_mem_cons.mpr ⟨kChM_140, List.forall_mem_cons.mpr ⟨kChM_141, List.forall_mem_cons.mpr ⟨kChM_142, List.forall_mem_cons.mpr ⟨kChM_143, List.forall_mem_cons.mpr ⟨kChM_144, List.forall_mem_cons.mpr ⟨kChM_145, List.forall_mem_cons.mpr ⟨kChM_146, List.forall_mem_cons.mpr ⟨kChM_147, List.forall_mem_cons.mpr ⟨kChM_148, List.forall_mem_cons.mpr ⟨kChM_149, List.forall_mem_cons.mpr ⟨kChM_150, List.forall_mem_cons.mpr ⟨kChM_151, List.forall_mem_cons.mpr ⟨kChM_152, List.forall_mem_cons.mpr ⟨kChM_153, List.forall_mem_cons.mpr ⟨kChM_154, List.forall_mem_cons.mpr ⟨kChM_155, List.forall_mem_cons.mpr ⟨kChM_157, List.forall_mem_cons.mpr ⟨kChM_158, fun _ h => nomatch h⟩⟩⟩⟩⟩⟩⟩⟩⟩⟩⟩⟩⟩⟩⟩⟩⟩⟩⟩⟩⟩⟩⟩⟩⟩⟩⟩⟩⟩⟩⟩⟩⟩⟩⟩⟩⟩⟩⟩⟩⟩⟩⟩⟩⟩⟩⟩⟩⟩⟩⟩⟩⟩⟩⟩⟩⟩⟩⟩⟩⟩⟩⟩⟩⟩⟩⟩⟩⟩⟩⟩⟩⟩⟩⟩⟩⟩⟩⟩⟩⟩⟩⟩⟩⟩⟩⟩⟩⟩⟩⟩⟩⟩⟩⟩⟩⟩⟩⟩⟩⟩⟩⟩⟩⟩⟩⟩⟩⟩⟩⟩⟩⟩⟩⟩⟩⟩⟩⟩⟩⟩⟩⟩⟩⟩⟩⟩⟩⟩⟩⟩⟩⟩⟩⟩⟩⟩⟩⟩⟩⟩⟩⟩⟩⟩⟩⟩⟩⟩⟩⟩⟩⟩⟩⟩⟩⟩⟩
theorem kT_l0 : Cond.classLink "RelationDesk" (45) "java/lang/IllegalArgumentException" ∈ kTbl := kWat_ok (p := 190) (by decide +kernel)
theorem kT_l1 : Cond.classLink "RelationDesk" (59) "java/lang/IllegalStateException" ∈ kTbl := kWat_ok (p := 257) (by decide +kernel)
theorem kT_i0 : Cond.initialized "java/lang/IllegalArgumentException" ∈ kTbl := kWat_ok (p := 64) (by decide +kernel)
theorem kT_i1 : Cond.initialized "java/lang/IllegalStateException" ∈ kTbl := kWat_ok (p := 65) (by decide +kernel)
theorem kT_w0 : ∀ w ∈ kTw0.filter goodWord, w ∈ lw_tbl := by decide +kernel
theorem kT_w1 : ∀ w ∈ kTw1.filter goodWord, w ∈ lw_tbl := by decide +kernel
theorem kT_g0 : (Cond.classLink "RelationDesk" 45 "java/lang/IllegalArgumentException" :: Cond.initialized "java/lang/IllegalArgumentException" :: kTw0).all vx_ot = true := by decide +kernel
theorem kT_g1 : (Cond.classLink "RelationDesk" 59 "java/lang/IllegalStateException" :: Cond.initialized "java/lang/IllegalStateException" :: kTw1).all vx_ot = true := by decide +kernel
theorem kT_c0 : Cond.classLink "RelationDeskLaw" (13) "java/lang/IllegalArgumentException" ∈ kTbl := kWat_ok (p := 184) (by decide +kernel)
theorem kT_c1 : Cond.classLink "RelationDeskLaw" (15) "java/lang/IllegalStateException" ∈ kTbl := kWat_ok (p := 185) (by decide +kernel)
theorem kT_s0 : Cond.castable "java/lang/IllegalArgumentException" "java/lang/IllegalArgumentException" ∈ kNst := by decide +kernel
theorem kT_s1 : Cond.castable "java/lang/IllegalStateException" "java/lang/IllegalStateException" ∈ kNst := by decide +kernel
def kChH (q : Nat × Nat × Nat × Nat × Nat) : Bool := decide (kCls (kCn q.1) = "RelationDeskLaw") && (match q.2.2.2.2 with
  | 0 => (match kHh q.1 with | e0 :: _ => decide (e0.1 ≤ q.2.1 ∧ q.2.1 < e0.2.1 ∧ e0.2.2.1 = q.2.2.2.1) && decide ((q.2.2.1 = 0 ∧ e0.2.2.2 = 13) ∨ (q.2.2.1 = 1 ∧ e0.2.2.2 = 15)) | [] => false)
  | _ => (match kHh q.1 with | e0 :: e1 :: _ => decide (e0.2.2.2 = 13) && decide (e1.1 ≤ q.2.1 ∧ q.2.1 < e1.2.1 ∧ e1.2.2.1 = q.2.2.2.1) && decide (q.2.2.1 = 1 ∧ e1.2.2.2 = 15) | _ => false))
theorem kChH_ok : kHanL.all kChH = true := by decide +kernel
def kMpL : List (Nat × Nat × Nat × Nat) := [(0, 9, 82, 81), (0, 22, 30, 105), (0, 29, 45, 99999), (0, 64, 84, 273), (0, 68, 83, 313), (0, 72, 71, 317), (0, 93, 85, 339), (0, 98, 86, 344), (0, 102, 75, 348), (0, 106, 76, 362), (0, 112, 78, 376), (0, 116, 157, 387), (0, 121, 158, 390), (0, 124, 79, 393), (0, 130, 87, 405), (0, 135, 88, 422), (0, 139, 89, 433), (0, 142, 72, 448), (0, 147, 73, 450), (0, 153, 31, 459), (0, 156, 32, 470), (0, 160, 46, 628), (0, 178, 47, 654), (0, 182, 17, 791), (1, 31, 24, 778), (1, 35, 21, 779), (1, 39, 26, 780), (1, 43, 28, 726), (2, 34, 38, 474), (2, 38, 34, 478), (2, 42, 33, 490), (2, 46, 35, 486), (2, 50, 90, 499), (2, 51, 91, 600), (2, 54, 36, 482), (2, 58, 37, 494), (2, 62, 40, 604), (2, 69, 39, 609), (2, 80, 41, 612), (2, 87, 44, 624), (2, 94, 83, 608), (2, 117, 18, 99999), (2, 125, 42, 618), (2, 129, 43, 621), (2, 133, 71, 627), (3, 15, 48, 632), (3, 22, 49, 658), (3, 26, 92, 636), (3, 41, 50, 662), (3, 49, 53, 675), (3, 52, 51, 690), (3, 55, 55, 698), (3, 58, 56, 702), (3, 61, 59, 710), (3, 64, 60, 718), (3, 67, 61, 735), (3, 70, 62, 739), (3, 73, 63, 783), (3, 79, 52, 666), (3, 89, 77, 694), (3, 95, 72, 670), (3, 103, 74, 671), (3, 108, 68, 680), (3, 114, 54, 683), (3, 118, 69, 686), (3, 131, 57, 706), (3, 135, 18, 99999), (3, 144, 58, 714), (3, 152, 27, 722), (3, 158, 24, 730), (3, 164, 64, 743), (3, 170, 23, 787), (3, 171, 65, 747), (3, 174, 66, 750), (3, 177, 25, 774), (3, 181, 29, 753), (3, 185, 21, 757), (3, 189, 67, 761), (3, 192, 22, 770), (4, 29, 72, 370), (4, 33, 71, 374), (4, 42, 73, 366), (5, 21, 70, 278), (5, 31, 83, 409), (5, 35, 80, 410), (5, 38, 81, 437), (6, 20, 19, 505), (6, 68, 20, 640), (7, 94, 95, 932), (7, 98, 97, 943), (7, 109, 98, 939), (7, 113, 96, 951), (7, 120, 99, 959), (7, 123, 104, 966), (7, 126, 108, 986), (7, 139, 112, 1007), (7, 145, 113, 1003), (7, 152, 116, 1011), (7, 155, 118, 1021), (7, 159, 119, 1029), (7, 163, 114, 1015), (7, 166, 117, 1025), (7, 175, 115, 999), (7, 184, 122, 1033), (7, 190, 124, 1057), (7, 197, 126, 1053), (7, 200, 125, 1061), (7, 203, 123, 1045), (7, 206, 127, 1065), (7, 208, 133, 1077), (7, 211, 130, 1081), (7, 214, 132, 1085), (7, 217, 137, 1089), (7, 220, 138, 1105), (7, 223, 139, 1109), (7, 226, 135, 1093), (7, 229, 134, 1097), (7, 232, 136, 1101), (7, 236, 128, 1049), (7, 239, 129, 1069), (7, 242, 131, 1073), (8, 7, 1, 186), (8, 17, 2, 309), (8, 21, 3, 326), (8, 24, 4, 334), (8, 27, 5, 358), (8, 31, 6, 383), (8, 35, 7, 400), (8, 38, 8, 417), (8, 42, 9, 429), (8, 45, 10, 444), (8, 48, 11, 454), (8, 51, 12, 466), (8, 54, 14, 648), (8, 57, 0, 73), (8, 60, 93, 798), (8, 61, 143, 181), (8, 66, 100, 928), (8, 67, 94, 924), (8, 70, 144, 306), (8, 73, 101, 935), (8, 74, 145, 323), (8, 76, 102, 947), (8, 77, 146, 331), (8, 79, 103, 955), (8, 80, 147, 355), (8, 83, 105, 962), (8, 84, 148, 380), (8, 87, 106, 970), (8, 88, 149, 397), (8, 91, 107, 974), (8, 92, 150, 414), (8, 95, 108, 978), (8, 96, 151, 426), (8, 98, 109, 982), (8, 99, 152, 441), (8, 101, 110, 987), (8, 102, 153, 451), (8, 104, 111, 991), (8, 105, 154, 463), (8, 107, 120, 995), (8, 108, 13, 169), (8, 111, 121, 1037), (8, 112, 155, 645), (8, 114, 140, 1041), (8, 115, 15, 173), (8, 118, 141, 1113), (8, 119, 16, 177), (8, 122, 142, 1117)]
def kChK (q : Nat × Nat × Nat × Nat) : Bool := (if q.2.2.2 = 99999 then decide (Cond.methodLinkNest (kCls q.1) q.2.1 (kNm q.2.2.1) "RelationDesk" ∈ kNst0) && decide (kHh q.2.2.1 = []) else kWat q.2.2.2 (.methodLink (kCls q.1) q.2.1 (kNm q.2.2.1))) && decide (q.2.2.1 ∈ kYs)
theorem kChK_ok : kMpL.all kChK = true := by decide +kernel
theorem kMpL_eq : kMpL.map (fun q => (q.1, q.2.1, q.2.2.1)) = kMthL := by decide +kernel
def kChT (q : Nat × Nat × Nat × Nat × Nat × Nat × String) : Bool := decide (kI q.1 q.2.1 = some (.new q.2.2.2.1, 3)) && decide (kI q.1 (q.2.1 + 3) = some (.dup, 1)) && decide (kI q.1 (q.2.1 + 4) = some (.ldc q.2.2.2.2.1, 2)) && decide (kI q.1 (q.2.1 + 6) = some (.invokespecial q.2.2.2.2.2.1, 3)) && decide (kI q.1 (q.2.1 + 9) = some (.athrow, 1)) &&
  decide (kHh q.1 = []) && decide (kCls (kCn q.1) = "RelationDesk") && (decide (q.2.2.1 = 0 ∧ q.2.2.2.1 = 45 ∧ q.2.2.2.2.2.1 = 49) || decide (q.2.2.1 = 1 ∧ q.2.2.2.1 = 59 ∧ q.2.2.2.2.2.1 = 63))
theorem kChT_ok : kThrL.all kChT = true := by decide +kernel
end
section
theorem kFind {α : Type} {L : List (Nat × Nat × α)} {cn i : Nat} {v : α} (h : (L.find? (fun q => q.1 == cn && q.2.1 == i)).map (fun q => q.2.2) = some v) : (cn, i, v) ∈ L := by
  cases hf : L.find? (fun q => q.1 == cn && q.2.1 == i) with
  | none => rw [hf] at h; cases h
  | some q =>
    rw [hf] at h
    have hm := List.mem_of_find?_eq_some hf
    have hp := List.find?_some hf
    simp only [Bool.and_eq_true, beq_iff_eq] at hp
    obtain ⟨a, b, c⟩ := q
    obtain ⟨rfl, rfl⟩ := hp
    cases h
    exact hm
theorem kFld_ok {cn i ci k : Nat} (h : kFld cn i = some (ci, k)) : ∃ r : vw_C, classes[ci]? = some r ∧ k < r.2.2 ∧ (∀ w ∈ u_ws r.1 r.2.1 r.2.2, w ∈ kTbl) ∧ Cond.fieldLink (kCls cn) i (r.2.1 k).1 (r.2.1 k).2.1 (r.2.1 k).2.2.1 ∈ kTbl := by
  have hm := kFind h
  rw [← kFpL_eq, List.mem_map] at hm
  obtain ⟨⟨a, b, c, d, p⟩, hq, he⟩ := hm
  cases he
  have hc := List.all_eq_true.mp kChF_ok _ hq
  unfold kChF at hc
  dsimp only at hc
  split at hc
  · rename_i r hr
    rw [Bool.and_eq_true] at hc
    refine ⟨r, hr, of_decide_eq_true hc.1, ?_, kWat_ok hc.2⟩
    have hl : c < classes.length := (List.getElem?_eq_some_iff.mp hr).1
    have hL := List.all_eq_true.mp kChL_ok c (List.mem_range.mpr hl)
    unfold kChL at hL
    rw [hr] at hL
    simp only [Bool.and_eq_true, List.all_eq_true, List.mem_range] at hL
    intro w hw
    obtain ⟨j, hj, rfl⟩ := List.mem_map.mp hw
    exact kWat_ok (hL.1 j (List.mem_range.mp hj)).1.1.1
  · cases hc
theorem kCls_ok {ci : Nat} {r : vw_C} (hr : classes[ci]? = some r) : (∀ k, k < r.2.2 → parseFieldDescriptor (r.2.1 k).2.2.1 = some (kFty ci k)) ∧ (∀ a, a < r.2.2 → ∀ b, b < r.2.2 → a ≠ b → (r.2.1 a).2.1 ≠ (r.2.1 b).2.1) := by
  have hl : ci < classes.length := (List.getElem?_eq_some_iff.mp hr).1
  have hL := List.all_eq_true.mp kChL_ok ci (List.mem_range.mpr hl)
  unfold kChL at hL
  rw [hr] at hL
  simp only [Bool.and_eq_true, List.all_eq_true, List.mem_range] at hL
  refine ⟨fun k hk => of_decide_eq_true (hL.1 k hk).1.1.2, fun a ha b hb hab => ?_⟩
  have h2 := (hL.1 a ha).2 b hb
  rw [Bool.or_eq_true] at h2
  rcases h2 with h2 | h2
  · exact absurd (of_decide_eq_true h2).symm hab
  · exact of_decide_eq_true h2
theorem kNew_ok {cn i ci : Nat} (h : kNew cn i = some ci) : ∃ r : vw_C, classes[ci]? = some r ∧ (∀ w ∈ u_ws r.1 r.2.1 r.2.2, w ∈ kTbl) ∧ Cond.classLink (kCls cn) i r.1 ∈ kTbl ∧ Cond.instantiable r.1 r.2.2 ∈ kTbl ∧ Cond.initialized r.1 ∈ kTbl ∧ r.2.2 = kSz ci ∧ ∀ j, j < r.2.2 → defaultValue (kFty ci j) = vp_V (kDef ci) j := by
  have hm := kFind h
  rw [← kNpL_eq, List.mem_map] at hm
  obtain ⟨⟨a, b, c, d, p, z⟩, hq, he⟩ := hm
  cases he
  have hc := List.all_eq_true.mp kChN_ok _ hq
  unfold kChN at hc
  dsimp only at hc
  split at hc
  · rename_i r hr
    simp only [Bool.and_eq_true] at hc
    have hl : c < classes.length := (List.getElem?_eq_some_iff.mp hr).1
    have hL := List.all_eq_true.mp kChL_ok c (List.mem_range.mpr hl)
    unfold kChL at hL
    rw [hr] at hL
    simp only [Bool.and_eq_true, List.all_eq_true, List.mem_range] at hL
    refine ⟨r, hr, ?_, kWat_ok hc.1.1, kWat_ok hc.1.2, kWat_ok hc.2, of_decide_eq_true hL.2, fun j hj => of_decide_eq_true (hL.1 j hj).1.2⟩
    intro w hw
    obtain ⟨j, hj, rfl⟩ := List.mem_map.mp hw
    exact kWat_ok (hL.1 j (List.mem_range.mp hj)).1.1.1
  · cases hc
theorem kANew_ok {cn i k : Nat} (h : kANew cn i = some k) : ∃ C : String, kArt[k]? = some (.object C) ∧ Cond.classLink (kCls cn) i C ∈ kTbl ∧ C ∈ kAOs := by
  have hm := kFind h
  rw [← kApL_eq, List.mem_map] at hm
  obtain ⟨⟨a, b, c, p⟩, hq, he⟩ := hm
  cases he
  have hc := List.all_eq_true.mp kChA_ok _ hq
  unfold kChA at hc
  dsimp only at hc
  split at hc
  · rename_i C hC
    rw [Bool.and_eq_true] at hc
    exact ⟨C, hC, kWat_ok hc.1, of_decide_eq_true hc.2⟩
  · cases hc
theorem kCst_ok {cn i : Nat} {v : Int32} (h : kCst cn i = some v) : Cond.constant (kCls cn) i v ∈ kTbl := by
  have hm := kFind h
  rw [← kCpL_eq, List.mem_map] at hm
  obtain ⟨⟨a, b, c, p⟩, hq, he⟩ := hm
  cases he
  exact kWat_ok (List.all_eq_true.mp kChC_ok _ hq)
theorem kNat_lk {cn i v : Nat} (h : kNat cn i = some v) : Cond.methodLink (kCls cn) i (kNatN v) ∈ kTbl := by
  have hm := kFind h
  rw [← kXpL_eq, List.mem_map] at hm
  obtain ⟨⟨a, b, c, p⟩, hq, he⟩ := hm
  cases he
  exact kWat_ok (List.all_eq_true.mp kChX_ok _ hq)
theorem kNat_ok0 {cn i : Nat} (h : kNat cn i = some 0) : Cond.methodLink (kCls cn) i arraycopyName ∈ kTbl ∧ Cond.native arraycopyName ∈ kTbl ∧ Cond.static arraycopyName ∈ kTbl ∧ Cond.initialized "java/lang/System" ∈ kTbl := ⟨kNat_lk h, kX_nat, kX_st0, kX_in0⟩
theorem kNat_ok1 {cn i : Nat} (h : kNat cn i = some 1) : Cond.methodLink (kCls cn) i Lib.Math.min.name ∈ kTbl ∧ Cond.static Lib.Math.min.name ∈ kTbl ∧ Cond.initialized "java/lang/Math" ∈ kTbl ∧ Cond.code Lib.Math.min.name Lib.Math.min.code 2 (some .int) ∈ kTbl := ⟨kNat_lk h, kX_st1, kX_in1, kX_cd1⟩
theorem kNat_ok2 {cn i : Nat} (h : kNat cn i = some 2) : Cond.methodLink (kCls cn) i Lib.Math.max.name ∈ kTbl ∧ Cond.static Lib.Math.max.name ∈ kTbl ∧ Cond.initialized "java/lang/Math" ∈ kTbl ∧ Cond.code Lib.Math.max.name Lib.Math.max.code 2 (some .int) ∈ kTbl := ⟨kNat_lk h, kX_st2, kX_in1, kX_cd2⟩
theorem kObj_ok {cn i : Nat} (h : kObj cn i = true) : Cond.methodLink (kCls cn) i Lib.objectInit ∈ kTbl := by
  unfold kObj at h
  obtain ⟨v, hv⟩ := Option.isSome_iff_exists.mp h
  have hm := kFind hv
  rw [← kOpL_eq, List.mem_map] at hm
  obtain ⟨⟨a, b, c, p⟩, hq, he⟩ := hm
  cases he
  exact kWat_ok (List.all_eq_true.mp kChO_ok _ hq)
theorem kMth_ok {cn i y1 : Nat} (h : kMth cn i = some y1) : ((Cond.methodLinkNest (kCls cn) i (kNm y1) "RelationDesk" ∈ kNst ∧ kHh y1 = []) ∨ Cond.methodLink (kCls cn) i (kNm y1) ∈ kTbl) ∧ kChM y1 = true := by
  have hm := kFind h
  rw [← kMpL_eq, List.mem_map] at hm
  obtain ⟨⟨a, b, c, p⟩, hq, he⟩ := hm
  cases he
  have hc := List.all_eq_true.mp kChK_ok _ hq
  unfold kChK at hc
  dsimp only at hc
  simp only [Bool.and_eq_true] at hc
  obtain ⟨h1, h2⟩ := hc
  refine ⟨?_, kChM_ok _ (of_decide_eq_true h2)⟩
  by_cases hp : p = 99999
  · rw [if_pos hp] at h1
    rw [Bool.and_eq_true] at h1
    exact Or.inl ⟨List.mem_append_left _ (of_decide_eq_true h1.1), of_decide_eq_true h1.2⟩
  · rw [if_neg hp] at h1
    exact Or.inr (kWat_ok h1)
theorem kPut_ok {y ci k : Nat} {r : vw_C} (h : kPut y ci k = true) (hr : classes[ci]? = some r) (hf : (r.2.1 k).2.2.2 = true) : kIni y = true ∧ (r.2.1 k).1 = kCls (kCn y) := by
  unfold kPut at h
  rw [hr] at h
  dsimp only at h
  rw [Bool.and_eq_true, Bool.or_eq_true, Bool.and_eq_true] at h
  rcases h.2 with h2 | h2
  · rw [hf] at h2
    cases h2
  · exact ⟨h2.1, eq_of_beq h2.2⟩
theorem kGood (y : Nat) (hc : kCdW y ∈ kTbl) : GoodIn kTbl (kWs y) := by
  intro w hw
  unfold kWs at hw
  rcases List.mem_cons.mp hw with rfl | hw
  · exact ⟨hc, good_of_word (List.mem_filter.mp hc).2⟩
  · exact ⟨hw, good_of_word (List.mem_filter.mp hw).2⟩
theorem kM_ok {y : Nat} (h : kChM y = true) : kCdW y ∈ kTbl ∧ Cond.initialized (kNm y).cls ∈ kTbl ∧ ((kNm y).cls ≠ "java/lang/invoke/MethodHandle" ∧ (kNm y).cls ≠ "java/lang/invoke/VarHandle" ∧ (parseMethodDescriptor (kNm y).desc).map (fun d => d.parameters.length) = some (kArg y)) ∧ (plainName (kNm y).cls || (plainFor (kNm y) && decide (kHh y = []))) = true ∧ kMaxL y ≤ 40 ∧ kCls (kCn y) = (kNm y).cls ∧
    (kKin y = 0 → Cond.static (kNm y) ∈ kTbl) ∧ (kKin y = 1 → Cond.instanceMethod (kNm y) ∈ kTbl ∧ Cond.selects (kNm y).cls (kNm y) (kNm y) ∈ kTbl ∧ ∃ (ci : Nat) (r : vw_C), kRcv y = some ci ∧ classes[ci]? = some r ∧ r.1 = (kNm y).cls) ∧ (kKin y = 2 → Cond.instanceMethod (kNm y) ∈ kTbl ∧ (kNm y).name = "<init>") ∧ (kKin y = 0 ∨ kHh y = []) ∧ (kKin y = 2 → kRet y = none) := by
  unfold kChM at h
  simp only [Bool.and_eq_true] at h
  obtain ⟨⟨⟨⟨⟨⟨⟨⟨⟨⟨h1, h2⟩, h3⟩, h4⟩, h5⟩, h6⟩, h7⟩, h8⟩, h9⟩, h10⟩, h11⟩ := h
  refine ⟨kWat_ok h1, kWat_ok h2, ⟨of_decide_eq_true h4, of_decide_eq_true h5, of_decide_eq_true h6⟩, h7, of_decide_eq_true h8, of_decide_eq_true h9, fun hk => ?_, fun hk => ?_, fun hk => ?_, of_decide_eq_true h10, of_decide_eq_true h11⟩
  · rw [hk] at h3
    simp only [Bool.and_eq_true] at h3
    exact kWat_ok h3.1
  · rw [hk] at h3
    simp only [Bool.and_eq_true] at h3
    obtain ⟨⟨g1, g2⟩, g3⟩ := h3
    refine ⟨kWat_ok g1, kWat_ok g2, ?_⟩
    cases hr : kRcv y with
    | none => rw [hr] at g3; cases g3
    | some ci =>
      rw [hr] at g3
      have g4 := of_decide_eq_true g3
      cases hc : classes[ci]? with
      | none => rw [hc] at g4; cases g4
      | some r =>
        rw [hc] at g4
        exact ⟨ci, r, rfl, hc, Option.some.inj g4⟩
  · rw [hk] at h3
    simp only [Bool.and_eq_true] at h3
    exact ⟨kWat_ok h3.1, of_decide_eq_true h3.2⟩
theorem kWs_code {y : Nat} (hh : kHh y = []) : kWs y = Cond.code (kNm y) (kBytes y) (kMaxL y) (kRet y) :: kTbl := by
  unfold kWs kCdW
  rw [if_pos hh]
theorem kWs_with {y : Nat} (hh : ¬ kHh y = []) : kWs y = Cond.codeWith (kNm y) (kBytes y) (kMaxL y) (kRet y) (kHh y) :: kTbl := by
  unfold kWs kCdW
  rw [if_neg hh]
theorem kToMet {l : Launch} {y : MethodName} {ws : List Cond} {rm : Room} {Pc : Array Value → State → Prop} {Qc : Array Value → State → Outcome → State → Prop} {XC : String → State → State → Prop} {mc ms : Nat} {free : Addr → Prop} (h : vx_Met l y ws rm Pc Qc XC mc ms free) (hno : ∀ E st t, ¬ XC E st t) : Met l y ws rm Pc Qc mc ms free := by
  intro p e ha hc hk s m args below hf hs hP hKK
  obtain ⟨n, o, h1, h2, h3, h4⟩ := h p e ha hc hk s m args below hf hs hP hKK
  refine ⟨n, o, h1, h2, h3, ?_⟩
  rcases h4 with h4 | ⟨q, -, E, ce, L, hx, -⟩
  · exact h4
  · exact absurd hx (hno _ _ _)
theorem kNst_onT : ∀ w ∈ kNst, w.onTables = true := by decide +kernel
def kNk (w : Cond) : Bool := match w with
  | .methodLinkNest _ _ _ _ => true
  | .declares _ => true
  | .castable _ _ => true
  | _ => false
theorem kNst_kind : ∀ w ∈ kNst, kNk w = true := by decide +kernel
theorem kCast_warm {C T : String} {s U : State} (hW : s.WarmedH U.vm) (h : va_Nw (.castable C T) s) : va_Nw (.castable C T) U := by
  unfold va_Nw at h ⊢
  simp only [Cond.before, Cond.holds, Cond.value, hW.alike.findClass, hW.alike.assignable] at h ⊢
  exact h
theorem kNst_warm {w : Cond} {s U : State} (hW : s.WarmedH U.vm) (hw : w ∈ kNst) (h : va_Nw w s) : va_Nw w U := by
  have hk := kNst_kind w hw
  unfold kNk at hk
  split at hk
  · exact va_Nw.warmM hW h
  · exact va_Nw.warmD hW h
  · exact kCast_warm hW h
  · cases hk
theorem kNst_same {w : Cond} {u U : State} (hw : w ∈ kNst) (hv : u.vm = U.vm) (h : va_Nw w u) : va_Nw w U := va_Nw.same (kNst_onT w hw) hv h
def kThrK (lw : Nat) (U : State) : Prop := vx_Zq Bundle.tN "UNASSIGNED_STACK" Bundle.steD (fun q => lw ≤ q) U U.heap ∧ vx_Zq Bundle.tN "SUPPRESSED_SENTINEL" Bundle.listD (fun q => lw ≤ q) U U.heap ∧ (∀ q ∈ kThrL, ∃ sa : Nat, vk_R (kCls (kCn q.1)) q.2.2.2.2.1 q.2.2.2.2.2.2 sa U) ∧ va_Nc "java/lang/IllegalStateException" "java/lang/IllegalArgumentException" U
theorem kThrK.moved {lw : Nat} {s U : State} (hW : s.WarmedH U.vm) (hH : ∀ a : Nat, a < s.heap.size → ¬ lw ≤ a → U.heap[a]? = s.heap[a]?) (h : kThrK lw s) : kThrK lw U := by
  obtain ⟨h1, h2, h3, h4⟩ := h
  refine ⟨(vx_Zq.moved hW.alike h1).kept hH, (vx_Zq.moved hW.alike h2).kept hH, fun q hq => ?_, va_Nc.moved hW.alike h4⟩
  obtain ⟨sa, hs⟩ := h3 q hq
  exact ⟨sa, vk_R.warm hW hs⟩
theorem kThrK.same {lw : Nat} {s U : State} (hv : s.vm = U.vm) (hH : U.heap = s.heap) (h : kThrK lw s) : kThrK lw U := by
  refine kThrK.moved (by rw [← hv]; exact State.WarmedH.refl s) (fun a _ _ => by rw [hH]) h
theorem kHan_ok {y pc E hp : Nat} (h : kHan y pc E = some hp) : ∃ k : Nat, kChH (y, pc, E, hp, k) = true := by
  unfold kHan at h
  cases hf : kHanL.find? (fun q => q.1 == y && q.2.1 == pc && q.2.2.1 == E) with
  | none => rw [hf] at h; cases h
  | some q =>
    rw [hf] at h
    have hm := List.mem_of_find?_eq_some hf
    have hp9 := List.find?_some hf
    simp only [Bool.and_eq_true, beq_iff_eq] at hp9
    obtain ⟨a, b, c, d, k⟩ := q
    obtain ⟨⟨rfl, rfl⟩, rfl⟩ := hp9
    cases h
    exact ⟨k, List.all_eq_true.mp kChH_ok _ hm⟩
def kNkL (w : Cond) : Bool := match w with
  | .methodLinkNest a _ _ _ => a != "RelationDeskLaw"
  | _ => true
theorem kNst_nl : ∀ w ∈ kNst, kNkL w = true := by decide +kernel
theorem kNst_law (i : Nat) (x : MethodName) : Cond.methodLinkNest "RelationDeskLaw" i x "RelationDesk" ∉ kNst := fun h => by
  have := kNst_nl _ h
  simp [kNkL] at this
end
section
abbrev kE : Type := (Nat × vp_A) ⊕ (Nat × List Value)
abbrev kH : Type := Nat → Option kE
abbrev kL : Type := List (Option Value)
abbrev kO : Type := Option Value ⊕ Nat
abbrev kX : Type := Nat → kL → List Value → kH → Nat → Nat → Prop
abbrev kCl : Type := Nat → List Value → kH → Nat → Nat → (kO → kH → Prop) → Prop
/-- the script: its address, its length, its ints -/
abbrev kG : Type := Nat × Nat × (Nat → Int32)
abbrev kOb (ci : Nat) (fs : List Value) : kE := .inr (ci, fs)
abbrev kAI (k n : Nat) (f : Nat → Int32) : kE := .inl (k, n, .inl f)
abbrev kAJ (k n : Nat) (f : Nat → Int64) : kE := .inl (k, n, .inr (.inl f))
abbrev kAR (k n : Nat) (f : Nat → Option Nat) : kE := .inl (k, n, .inr (.inr (.inr (.inr f))))
def kset (h : kH) (a : Nat) (e : kE) : kH := fun q => if q = a then some e else h q
theorem kset_self (h : kH) (a : Nat) (e : kE) : kset h a e a = some e := if_pos rfl
theorem kset_ne {h : kH} {a q : Nat} {e : kE} (hq : q ≠ a) : kset h a e q = h q := if_neg hq
theorem kset_kset (h : kH) (a : Nat) (e e2 : kE) : kset (kset h a e) a e2 = kset h a e2 := by
  funext q
  by_cases hq : q = a
  · rw [hq, kset_self, kset_self]
  · rw [kset_ne hq, kset_ne hq, kset_ne hq]
theorem kset_comm {h : kH} {a b : Nat} {e e2 : kE} (hab : a ≠ b) : kset (kset h a e) b e2 = kset (kset h b e2) a e := by
  funext q
  by_cases hq : q = a
  · rw [hq, kset_self, kset_ne hab, kset_self]
  · by_cases hr : q = b
    · rw [hr, kset_self, kset_ne (Ne.symm hab), kset_self]
    · rw [kset_ne hr, kset_ne hq, kset_ne hq, kset_ne hr]
theorem kset_id {h : kH} {a : Nat} {e : kE} (ha : h a = some e) : kset h a e = h := by
  funext q
  by_cases hq : q = a
  · rw [hq, kset_self, ha]
  · rw [kset_ne hq]
def kc_iconst (G : kG) (y : Nat) (C : kCl) (P : kO → kH → Prop) (X : kX) : Prop := ∀ (pc : Nat) (lo : kL) (st : List Value) (h : kH) (mc ms : Nat) (n : Int) (v : Int32), (kI y pc = some (.iconst n, 1)) → (Int32.ofInt n = v) → (X (pc + 1) (lo) (.int v :: st) (h) (mc) (ms)) → X (pc) (lo) (st) (h) (mc) (ms)
def kc_bipush (G : kG) (y : Nat) (C : kCl) (P : kO → kH → Prop) (X : kX) : Prop := ∀ (pc : Nat) (lo : kL) (st : List Value) (h : kH) (mc ms : Nat) (n : Int) (v : Int32), (kI y pc = some (.bipush n, 2)) → ((Int8.ofInt n).toInt32 = v) → (X (pc + 2) (lo) (.int v :: st) (h) (mc) (ms)) → X (pc) (lo) (st) (h) (mc) (ms)
def kc_sipush (G : kG) (y : Nat) (C : kCl) (P : kO → kH → Prop) (X : kX) : Prop := ∀ (pc : Nat) (lo : kL) (st : List Value) (h : kH) (mc ms : Nat) (n : Int) (v : Int32), (kI y pc = some (.sipush n, 3)) → ((Int16.ofInt n).toInt32 = v) → (X (pc + 3) (lo) (.int v :: st) (h) (mc) (ms)) → X (pc) (lo) (st) (h) (mc) (ms)
def kc_null (G : kG) (y : Nat) (C : kCl) (P : kO → kH → Prop) (X : kX) : Prop := ∀ (pc : Nat) (lo : kL) (st : List Value) (h : kH) (mc ms : Nat), (kI y pc = some (.aconst_null, 1)) → (X (pc + 1) (lo) (.null :: st) (h) (mc) (ms)) → X (pc) (lo) (st) (h) (mc) (ms)
def kc_lconst (G : kG) (y : Nat) (C : kCl) (P : kO → kH → Prop) (X : kX) : Prop := ∀ (pc : Nat) (lo : kL) (st : List Value) (h : kH) (mc ms : Nat) (n : Fin 2) (v : Int64), (kI y pc = some (.lconst n, 1)) → (Int64.ofNat (n : Nat) = v) → (X (pc + 1) (lo) (.long v :: st) (h) (mc) (ms)) → X (pc) (lo) (st) (h) (mc) (ms)
def kc_ldc (G : kG) (y : Nat) (C : kCl) (P : kO → kH → Prop) (X : kX) : Prop := ∀ (pc : Nat) (lo : kL) (st : List Value) (h : kH) (mc ms : Nat) (i : Nat) (v : Int32), (kI y pc = some (.ldc i, 2)) → (kCst (kCn y) i = some v) → (X (pc + 2) (lo) (.int v :: st) (h) (mc) (ms)) → X (pc) (lo) (st) (h) (mc) (ms)
def kc_iload_n (G : kG) (y : Nat) (C : kCl) (P : kO → kH → Prop) (X : kX) : Prop := ∀ (pc : Nat) (lo : kL) (st : List Value) (h : kH) (mc ms : Nat) (k : Fin 4) (x : Int32), (kI y pc = some (.iload_n k, 1)) → (lo[(k : Nat)]? = some (some (.int x))) → (X (pc + 1) (lo) (.int x :: st) (h) (mc) (ms)) → X (pc) (lo) (st) (h) (mc) (ms)
def kc_iload (G : kG) (y : Nat) (C : kCl) (P : kO → kH → Prop) (X : kX) : Prop := ∀ (pc : Nat) (lo : kL) (st : List Value) (h : kH) (mc ms : Nat) (k : Nat) (x : Int32), (kI y pc = some (.iload k, 2)) → (lo[k]? = some (some (.int x))) → (X (pc + 2) (lo) (.int x :: st) (h) (mc) (ms)) → X (pc) (lo) (st) (h) (mc) (ms)
def kc_aload_n (G : kG) (y : Nat) (C : kCl) (P : kO → kH → Prop) (X : kX) : Prop := ∀ (pc : Nat) (lo : kL) (st : List Value) (h : kH) (mc ms : Nat) (k : Fin 4) (v : Value), (kI y pc = some (.aload_n k, 1)) → (lo[(k : Nat)]? = some (some v)) → (v.isRef = true) → (X (pc + 1) (lo) (v :: st) (h) (mc) (ms)) → X (pc) (lo) (st) (h) (mc) (ms)
def kc_aload (G : kG) (y : Nat) (C : kCl) (P : kO → kH → Prop) (X : kX) : Prop := ∀ (pc : Nat) (lo : kL) (st : List Value) (h : kH) (mc ms : Nat) (k : Nat) (v : Value), (kI y pc = some (.aload k, 2)) → (lo[k]? = some (some v)) → (v.isRef = true) → (X (pc + 2) (lo) (v :: st) (h) (mc) (ms)) → X (pc) (lo) (st) (h) (mc) (ms)
def kc_istore_n (G : kG) (y : Nat) (C : kCl) (P : kO → kH → Prop) (X : kX) : Prop := ∀ (pc : Nat) (lo : kL) (st : List Value) (h : kH) (mc ms : Nat) (k : Fin 4) (x : Int32) (lo2 : kL), (kI y pc = some (.istore_n k, 1)) → ((k : Nat) < lo.length) → (lo.set k (some (.int x)) = lo2) → (X (pc + 1) (lo2) (st) (h) (mc) (ms)) → X (pc) (lo) (.int x :: st) (h) (mc) (ms)
def kc_istore (G : kG) (y : Nat) (C : kCl) (P : kO → kH → Prop) (X : kX) : Prop := ∀ (pc : Nat) (lo : kL) (st : List Value) (h : kH) (mc ms : Nat) (k : Nat) (x : Int32) (lo2 : kL), (kI y pc = some (.istore k, 2)) → (k < lo.length) → (lo.set k (some (.int x)) = lo2) → (X (pc + 2) (lo2) (st) (h) (mc) (ms)) → X (pc) (lo) (.int x :: st) (h) (mc) (ms)
def kc_astore_n (G : kG) (y : Nat) (C : kCl) (P : kO → kH → Prop) (X : kX) : Prop := ∀ (pc : Nat) (lo : kL) (st : List Value) (h : kH) (mc ms : Nat) (k : Fin 4) (v : Value) (lo2 : kL), (kI y pc = some (.astore_n k, 1)) → ((k : Nat) < lo.length) → (v.isRef = true) → (lo.set k (some v) = lo2) → (X (pc + 1) (lo2) (st) (h) (mc) (ms)) → X (pc) (lo) (v :: st) (h) (mc) (ms)
def kc_astore (G : kG) (y : Nat) (C : kCl) (P : kO → kH → Prop) (X : kX) : Prop := ∀ (pc : Nat) (lo : kL) (st : List Value) (h : kH) (mc ms : Nat) (k : Nat) (v : Value) (lo2 : kL), (kI y pc = some (.astore k, 2)) → (k < lo.length) → (v.isRef = true) → (lo.set k (some v) = lo2) → (X (pc + 2) (lo2) (st) (h) (mc) (ms)) → X (pc) (lo) (v :: st) (h) (mc) (ms)
def kc_iinc (G : kG) (y : Nat) (C : kCl) (P : kO → kH → Prop) (X : kX) : Prop := ∀ (pc : Nat) (lo : kL) (st : List Value) (h : kH) (mc ms : Nat) (k : Nat) (n : Int) (x v : Int32) (lo2 : kL), (kI y pc = some (.iinc k n, 3)) → (lo[k]? = some (some (.int x))) → (x + Int32.ofInt n = v) → (lo.set k (some (.int v)) = lo2) → (X (pc + 3) (lo2) (st) (h) (mc) (ms)) → X (pc) (lo) (st) (h) (mc) (ms)
def kc_iadd (G : kG) (y : Nat) (C : kCl) (P : kO → kH → Prop) (X : kX) : Prop := ∀ (pc : Nat) (lo : kL) (st : List Value) (h : kH) (mc ms : Nat) (x z : Int32), (kI y pc = some (.iadd, 1)) → (X (pc + 1) (lo) (.int (x + z) :: st) (h) (mc) (ms)) → X (pc) (lo) (.int z :: .int x :: st) (h) (mc) (ms)
def kc_isub (G : kG) (y : Nat) (C : kCl) (P : kO → kH → Prop) (X : kX) : Prop := ∀ (pc : Nat) (lo : kL) (st : List Value) (h : kH) (mc ms : Nat) (x z : Int32), (kI y pc = some (.isub, 1)) → (X (pc + 1) (lo) (.int (x - z) :: st) (h) (mc) (ms)) → X (pc) (lo) (.int z :: .int x :: st) (h) (mc) (ms)
def kc_imul (G : kG) (y : Nat) (C : kCl) (P : kO → kH → Prop) (X : kX) : Prop := ∀ (pc : Nat) (lo : kL) (st : List Value) (h : kH) (mc ms : Nat) (x z : Int32), (kI y pc = some (.imul, 1)) → (X (pc + 1) (lo) (.int (x * z) :: st) (h) (mc) (ms)) → X (pc) (lo) (.int z :: .int x :: st) (h) (mc) (ms)
def kc_iand (G : kG) (y : Nat) (C : kCl) (P : kO → kH → Prop) (X : kX) : Prop := ∀ (pc : Nat) (lo : kL) (st : List Value) (h : kH) (mc ms : Nat) (x z : Int32), (kI y pc = some (.iand, 1)) → (X (pc + 1) (lo) (.int (x &&& z) :: st) (h) (mc) (ms)) → X (pc) (lo) (.int z :: .int x :: st) (h) (mc) (ms)
def kc_ior (G : kG) (y : Nat) (C : kCl) (P : kO → kH → Prop) (X : kX) : Prop := ∀ (pc : Nat) (lo : kL) (st : List Value) (h : kH) (mc ms : Nat) (x z : Int32), (kI y pc = some (.ior, 1)) → (X (pc + 1) (lo) (.int (x ||| z) :: st) (h) (mc) (ms)) → X (pc) (lo) (.int z :: .int x :: st) (h) (mc) (ms)
def kc_ixor (G : kG) (y : Nat) (C : kCl) (P : kO → kH → Prop) (X : kX) : Prop := ∀ (pc : Nat) (lo : kL) (st : List Value) (h : kH) (mc ms : Nat) (x z : Int32), (kI y pc = some (.ixor, 1)) → (X (pc + 1) (lo) (.int (x ^^^ z) :: st) (h) (mc) (ms)) → X (pc) (lo) (.int z :: .int x :: st) (h) (mc) (ms)
def kc_idiv (G : kG) (y : Nat) (C : kCl) (P : kO → kH → Prop) (X : kX) : Prop := ∀ (pc : Nat) (lo : kL) (st : List Value) (h : kH) (mc ms : Nat) (x z : Int32), (kI y pc = some (.idiv, 1)) → (¬ z = 0) → (X (pc + 1) (lo) (.int (x / z) :: st) (h) (mc) (ms)) → X (pc) (lo) (.int z :: .int x :: st) (h) (mc) (ms)
def kc_irem (G : kG) (y : Nat) (C : kCl) (P : kO → kH → Prop) (X : kX) : Prop := ∀ (pc : Nat) (lo : kL) (st : List Value) (h : kH) (mc ms : Nat) (x z : Int32), (kI y pc = some (.irem, 1)) → (¬ z = 0) → (X (pc + 1) (lo) (.int (x - x / z * z) :: st) (h) (mc) (ms)) → X (pc) (lo) (.int z :: .int x :: st) (h) (mc) (ms)
def kc_lcmp (G : kG) (y : Nat) (C : kCl) (P : kO → kH → Prop) (X : kX) : Prop := ∀ (pc : Nat) (lo : kL) (st : List Value) (h : kH) (mc ms : Nat) (x z : Int64) (v : Int32), (kI y pc = some (.lcmp, 1)) → (v = lg_cmp x z) → (X (pc + 1) (lo) (.int v :: st) (h) (mc) (ms)) → X (pc) (lo) (.long z :: .long x :: st) (h) (mc) (ms)
def kc_ineg (G : kG) (y : Nat) (C : kCl) (P : kO → kH → Prop) (X : kX) : Prop := ∀ (pc : Nat) (lo : kL) (st : List Value) (h : kH) (mc ms : Nat) (x : Int32), (kI y pc = some (.ineg, 1)) → (X (pc + 1) (lo) (.int (-x) :: st) (h) (mc) (ms)) → X (pc) (lo) (.int x :: st) (h) (mc) (ms)
def kc_i2l (G : kG) (y : Nat) (C : kCl) (P : kO → kH → Prop) (X : kX) : Prop := ∀ (pc : Nat) (lo : kL) (st : List Value) (h : kH) (mc ms : Nat) (x : Int32), (kI y pc = some (.i2l, 1)) → (X (pc + 1) (lo) (.long x.toInt64 :: st) (h) (mc) (ms)) → X (pc) (lo) (.int x :: st) (h) (mc) (ms)
def kc_dup (G : kG) (y : Nat) (C : kCl) (P : kO → kH → Prop) (X : kX) : Prop := ∀ (pc : Nat) (lo : kL) (st : List Value) (h : kH) (mc ms : Nat) (v : Value), (kI y pc = some (.dup, 1)) → (v.category = 1) → (X (pc + 1) (lo) (v :: v :: st) (h) (mc) (ms)) → X (pc) (lo) (v :: st) (h) (mc) (ms)
def kc_pop (G : kG) (y : Nat) (C : kCl) (P : kO → kH → Prop) (X : kX) : Prop := ∀ (pc : Nat) (lo : kL) (st : List Value) (h : kH) (mc ms : Nat) (v : Value), (kI y pc = some (.pop, 1)) → (v.category = 1) → (X (pc + 1) (lo) (st) (h) (mc) (ms)) → X (pc) (lo) (v :: st) (h) (mc) (ms)
def kc_dup_x1 (G : kG) (y : Nat) (C : kCl) (P : kO → kH → Prop) (X : kX) : Prop := ∀ (pc : Nat) (lo : kL) (st : List Value) (h : kH) (mc ms : Nat) (v w : Value), (kI y pc = some (.dup_x1, 1)) → (v.category = 1) → (w.category = 1) → (X (pc + 1) (lo) (v :: w :: v :: st) (h) (mc) (ms)) → X (pc) (lo) (v :: w :: st) (h) (mc) (ms)
def kc_dup2 (G : kG) (y : Nat) (C : kCl) (P : kO → kH → Prop) (X : kX) : Prop := ∀ (pc : Nat) (lo : kL) (st : List Value) (h : kH) (mc ms : Nat) (v w : Value), (kI y pc = some (.dup2, 1)) → (v.category = 1) → (w.category = 1) → (X (pc + 1) (lo) (v :: w :: v :: w :: st) (h) (mc) (ms)) → X (pc) (lo) (v :: w :: st) (h) (mc) (ms)
def kc_goto (G : kG) (y : Nat) (C : kCl) (P : kO → kH → Prop) (X : kX) : Prop := ∀ (pc : Nat) (lo : kL) (st : List Value) (h : kH) (mc ms : Nat) (off : Int) (tgt : Nat), (kI y pc = some (.goto off, 3)) → ((pc : Int) + off = (tgt : Int)) → (X (tgt) (lo) (st) (h) (mc) (ms)) → X (pc) (lo) (st) (h) (mc) (ms)
def kc_if_eq (G : kG) (y : Nat) (C : kCl) (P : kO → kH → Prop) (X : kX) : Prop := ∀ (pc : Nat) (lo : kL) (st : List Value) (h : kH) (mc ms : Nat) (x : Int32) (off : Int) (tgt : Nat), (kI y pc = some (.ifCond .eq off, 3)) → ((pc : Int) + off = (tgt : Int)) → ((x = 0) → X (tgt) (lo) (st) (h) (mc) (ms)) → ((¬ x = 0) → X (pc + 3) (lo) (st) (h) (mc) (ms)) → X (pc) (lo) (.int x :: st) (h) (mc) (ms)
def kc_if_ne (G : kG) (y : Nat) (C : kCl) (P : kO → kH → Prop) (X : kX) : Prop := ∀ (pc : Nat) (lo : kL) (st : List Value) (h : kH) (mc ms : Nat) (x : Int32) (off : Int) (tgt : Nat), (kI y pc = some (.ifCond .ne off, 3)) → ((pc : Int) + off = (tgt : Int)) → ((¬ x = 0) → X (tgt) (lo) (st) (h) (mc) (ms)) → ((x = 0) → X (pc + 3) (lo) (st) (h) (mc) (ms)) → X (pc) (lo) (.int x :: st) (h) (mc) (ms)
def kc_if_lt (G : kG) (y : Nat) (C : kCl) (P : kO → kH → Prop) (X : kX) : Prop := ∀ (pc : Nat) (lo : kL) (st : List Value) (h : kH) (mc ms : Nat) (x : Int32) (off : Int) (tgt : Nat), (kI y pc = some (.ifCond .lt off, 3)) → ((pc : Int) + off = (tgt : Int)) → ((x < 0) → X (tgt) (lo) (st) (h) (mc) (ms)) → ((¬ x < 0) → X (pc + 3) (lo) (st) (h) (mc) (ms)) → X (pc) (lo) (.int x :: st) (h) (mc) (ms)
def kc_if_ge (G : kG) (y : Nat) (C : kCl) (P : kO → kH → Prop) (X : kX) : Prop := ∀ (pc : Nat) (lo : kL) (st : List Value) (h : kH) (mc ms : Nat) (x : Int32) (off : Int) (tgt : Nat), (kI y pc = some (.ifCond .ge off, 3)) → ((pc : Int) + off = (tgt : Int)) → ((0 ≤ x) → X (tgt) (lo) (st) (h) (mc) (ms)) → ((¬ 0 ≤ x) → X (pc + 3) (lo) (st) (h) (mc) (ms)) → X (pc) (lo) (.int x :: st) (h) (mc) (ms)
def kc_if_gt (G : kG) (y : Nat) (C : kCl) (P : kO → kH → Prop) (X : kX) : Prop := ∀ (pc : Nat) (lo : kL) (st : List Value) (h : kH) (mc ms : Nat) (x : Int32) (off : Int) (tgt : Nat), (kI y pc = some (.ifCond .gt off, 3)) → ((pc : Int) + off = (tgt : Int)) → ((0 < x) → X (tgt) (lo) (st) (h) (mc) (ms)) → ((¬ 0 < x) → X (pc + 3) (lo) (st) (h) (mc) (ms)) → X (pc) (lo) (.int x :: st) (h) (mc) (ms)
def kc_if_le (G : kG) (y : Nat) (C : kCl) (P : kO → kH → Prop) (X : kX) : Prop := ∀ (pc : Nat) (lo : kL) (st : List Value) (h : kH) (mc ms : Nat) (x : Int32) (off : Int) (tgt : Nat), (kI y pc = some (.ifCond .le off, 3)) → ((pc : Int) + off = (tgt : Int)) → ((x ≤ 0) → X (tgt) (lo) (st) (h) (mc) (ms)) → ((¬ x ≤ 0) → X (pc + 3) (lo) (st) (h) (mc) (ms)) → X (pc) (lo) (.int x :: st) (h) (mc) (ms)
def kc_icmp_eq (G : kG) (y : Nat) (C : kCl) (P : kO → kH → Prop) (X : kX) : Prop := ∀ (pc : Nat) (lo : kL) (st : List Value) (h : kH) (mc ms : Nat) (x z : Int32) (off : Int) (tgt : Nat), (kI y pc = some (.if_icmp .eq off, 3)) → ((pc : Int) + off = (tgt : Int)) → ((x = z) → X (tgt) (lo) (st) (h) (mc) (ms)) → ((¬ x = z) → X (pc + 3) (lo) (st) (h) (mc) (ms)) → X (pc) (lo) (.int z :: .int x :: st) (h) (mc) (ms)
def kc_icmp_ne (G : kG) (y : Nat) (C : kCl) (P : kO → kH → Prop) (X : kX) : Prop := ∀ (pc : Nat) (lo : kL) (st : List Value) (h : kH) (mc ms : Nat) (x z : Int32) (off : Int) (tgt : Nat), (kI y pc = some (.if_icmp .ne off, 3)) → ((pc : Int) + off = (tgt : Int)) → ((¬ x = z) → X (tgt) (lo) (st) (h) (mc) (ms)) → ((x = z) → X (pc + 3) (lo) (st) (h) (mc) (ms)) → X (pc) (lo) (.int z :: .int x :: st) (h) (mc) (ms)
def kc_icmp_lt (G : kG) (y : Nat) (C : kCl) (P : kO → kH → Prop) (X : kX) : Prop := ∀ (pc : Nat) (lo : kL) (st : List Value) (h : kH) (mc ms : Nat) (x z : Int32) (off : Int) (tgt : Nat), (kI y pc = some (.if_icmp .lt off, 3)) → ((pc : Int) + off = (tgt : Int)) → ((x < z) → X (tgt) (lo) (st) (h) (mc) (ms)) → ((¬ x < z) → X (pc + 3) (lo) (st) (h) (mc) (ms)) → X (pc) (lo) (.int z :: .int x :: st) (h) (mc) (ms)
def kc_icmp_ge (G : kG) (y : Nat) (C : kCl) (P : kO → kH → Prop) (X : kX) : Prop := ∀ (pc : Nat) (lo : kL) (st : List Value) (h : kH) (mc ms : Nat) (x z : Int32) (off : Int) (tgt : Nat), (kI y pc = some (.if_icmp .ge off, 3)) → ((pc : Int) + off = (tgt : Int)) → ((z ≤ x) → X (tgt) (lo) (st) (h) (mc) (ms)) → ((¬ z ≤ x) → X (pc + 3) (lo) (st) (h) (mc) (ms)) → X (pc) (lo) (.int z :: .int x :: st) (h) (mc) (ms)
def kc_icmp_gt (G : kG) (y : Nat) (C : kCl) (P : kO → kH → Prop) (X : kX) : Prop := ∀ (pc : Nat) (lo : kL) (st : List Value) (h : kH) (mc ms : Nat) (x z : Int32) (off : Int) (tgt : Nat), (kI y pc = some (.if_icmp .gt off, 3)) → ((pc : Int) + off = (tgt : Int)) → ((z < x) → X (tgt) (lo) (st) (h) (mc) (ms)) → ((¬ z < x) → X (pc + 3) (lo) (st) (h) (mc) (ms)) → X (pc) (lo) (.int z :: .int x :: st) (h) (mc) (ms)
def kc_icmp_le (G : kG) (y : Nat) (C : kCl) (P : kO → kH → Prop) (X : kX) : Prop := ∀ (pc : Nat) (lo : kL) (st : List Value) (h : kH) (mc ms : Nat) (x z : Int32) (off : Int) (tgt : Nat), (kI y pc = some (.if_icmp .le off, 3)) → ((pc : Int) + off = (tgt : Int)) → ((x ≤ z) → X (tgt) (lo) (st) (h) (mc) (ms)) → ((¬ x ≤ z) → X (pc + 3) (lo) (st) (h) (mc) (ms)) → X (pc) (lo) (.int z :: .int x :: st) (h) (mc) (ms)
def kc_nonnull (G : kG) (y : Nat) (C : kCl) (P : kO → kH → Prop) (X : kX) : Prop := ∀ (pc : Nat) (lo : kL) (st : List Value) (h : kH) (mc ms : Nat) (a : Nat) (off : Int) (tgt : Nat), (kI y pc = some (.ifnonnull off, 3)) → ((pc : Int) + off = (tgt : Int)) → (X (tgt) (lo) (st) (h) (mc) (ms)) → X (pc) (lo) (.ref a :: st) (h) (mc) (ms)
def kc_nonnullN (G : kG) (y : Nat) (C : kCl) (P : kO → kH → Prop) (X : kX) : Prop := ∀ (pc : Nat) (lo : kL) (st : List Value) (h : kH) (mc ms : Nat) (off : Int), (kI y pc = some (.ifnonnull off, 3)) → (X (pc + 3) (lo) (st) (h) (mc) (ms)) → X (pc) (lo) (.null :: st) (h) (mc) (ms)
def kc_isnull (G : kG) (y : Nat) (C : kCl) (P : kO → kH → Prop) (X : kX) : Prop := ∀ (pc : Nat) (lo : kL) (st : List Value) (h : kH) (mc ms : Nat) (a : Nat) (off : Int), (kI y pc = some (.ifnull off, 3)) → (X (pc + 3) (lo) (st) (h) (mc) (ms)) → X (pc) (lo) (.ref a :: st) (h) (mc) (ms)
def kc_isnullN (G : kG) (y : Nat) (C : kCl) (P : kO → kH → Prop) (X : kX) : Prop := ∀ (pc : Nat) (lo : kL) (st : List Value) (h : kH) (mc ms : Nat) (off : Int) (tgt : Nat), (kI y pc = some (.ifnull off, 3)) → ((pc : Int) + off = (tgt : Int)) → (X (tgt) (lo) (st) (h) (mc) (ms)) → X (pc) (lo) (.null :: st) (h) (mc) (ms)
def kc_tswIn (G : kG) (y : Nat) (C : kCl) (P : kO → kH → Prop) (X : kX) : Prop := ∀ (pc : Nat) (lo : kL) (st : List Value) (h : kH) (mc ms : Nat) (dflt a b : Int) (offs : Array Int) (len : Nat) (x : Int32) (off : Int) (tgt : Nat), (kI y pc = some (.tableswitch dflt a b offs, len)) → (¬ x.toInt < a) → (¬ b < x.toInt) → (offs[(x.toInt - a).toNat]? = some off) → ((pc : Int) + off = (tgt : Int)) → (X (tgt) (lo) (st) (h) (mc) (ms)) → X (pc) (lo) (.int x :: st) (h) (mc) (ms)
def kc_tswOut (G : kG) (y : Nat) (C : kCl) (P : kO → kH → Prop) (X : kX) : Prop := ∀ (pc : Nat) (lo : kL) (st : List Value) (h : kH) (mc ms : Nat) (dflt a b : Int) (offs : Array Int) (len : Nat) (x : Int32) (tgt : Nat), (kI y pc = some (.tableswitch dflt a b offs, len)) → (x.toInt < a ∨ b < x.toInt) → ((pc : Int) + dflt = (tgt : Int)) → (X (tgt) (lo) (st) (h) (mc) (ms)) → X (pc) (lo) (.int x :: st) (h) (mc) (ms)
def kc_lsw (G : kG) (y : Nat) (C : kCl) (P : kO → kH → Prop) (X : kX) : Prop := ∀ (pc : Nat) (lo : kL) (st : List Value) (h : kH) (mc ms : Nat) (dflt : Int) (ps : Array (Int × Int)) (len : Nat) (x : Int32) (off : Int) (tgt : Nat), (kI y pc = some (.lookupswitch dflt ps, len)) → ((ps.toList.zip (ps.toList.drop 1)).all (fun (a, next) => a.1 < next.1) = true) → (Op.lookupswitch.offset ps.toList dflt x.toInt = off) → ((pc : Int) + off = (tgt : Int)) → (X (tgt) (lo) (st) (h) (mc) (ms)) → X (pc) (lo) (.int x :: st) (h) (mc) (ms)
def kc_getf (G : kG) (y : Nat) (C : kCl) (P : kO → kH → Prop) (X : kX) : Prop := ∀ (pc : Nat) (lo : kL) (st : List Value) (h : kH) (mc ms : Nat) (i a ci k : Nat) (fs : List Value) (v : Value), (kI y pc = some (.getfield i, 3)) → (kFld (kCn y) i = some (ci, k)) → (h a = some (kOb ci fs)) → (fs[k]? = some v) → (X (pc + 3) (lo) (v :: st) (h) (mc) (ms)) → X (pc) (lo) (.ref a :: st) (h) (mc) (ms)
def kc_iald (G : kG) (y : Nat) (C : kCl) (P : kO → kH → Prop) (X : kX) : Prop := ∀ (pc : Nat) (lo : kL) (st : List Value) (h : kH) (mc ms : Nat) (a n : Nat) (f : Nat → Int32) (i : Int32), (kI y pc = some (.iaload, 1)) → (h a = some (kAI 0 n f)) → (vp_in i n) → (X (pc + 1) (lo) (.int (f i.toNatClampNeg) :: st) (h) (mc) (ms)) → X (pc) (lo) (.int i :: .ref a :: st) (h) (mc) (ms)
def kc_zald (G : kG) (y : Nat) (C : kCl) (P : kO → kH → Prop) (X : kX) : Prop := ∀ (pc : Nat) (lo : kL) (st : List Value) (h : kH) (mc ms : Nat) (a n : Nat) (f : Nat → Int32) (i : Int32), (kI y pc = some (.baload, 1)) → (h a = some (kAI 1 n f)) → (vp_in i n) → (X (pc + 1) (lo) (.int (f i.toNatClampNeg) :: st) (h) (mc) (ms)) → X (pc) (lo) (.int i :: .ref a :: st) (h) (mc) (ms)
def kc_lald (G : kG) (y : Nat) (C : kCl) (P : kO → kH → Prop) (X : kX) : Prop := ∀ (pc : Nat) (lo : kL) (st : List Value) (h : kH) (mc ms : Nat) (a n : Nat) (f : Nat → Int64) (i : Int32), (kI y pc = some (.laload, 1)) → (h a = some (kAJ 2 n f)) → (vp_in i n) → (X (pc + 1) (lo) (.long (f i.toNatClampNeg) :: st) (h) (mc) (ms)) → X (pc) (lo) (.int i :: .ref a :: st) (h) (mc) (ms)
def kc_aald (G : kG) (y : Nat) (C : kCl) (P : kO → kH → Prop) (X : kX) : Prop := ∀ (pc : Nat) (lo : kL) (st : List Value) (h : kH) (mc ms : Nat) (a n k : Nat) (N : String) (f : Nat → Option Nat) (i : Int32), (kI y pc = some (.aaload, 1)) → (kArt[k]? = some (.object N)) → (h a = some (kAR k n f)) → (vp_in i n) → (X (pc + 1) (lo) (va_rf (f i.toNatClampNeg) :: st) (h) (mc) (ms)) → X (pc) (lo) (.int i :: .ref a :: st) (h) (mc) (ms)
def kc_alen (G : kG) (y : Nat) (C : kCl) (P : kO → kH → Prop) (X : kX) : Prop := ∀ (pc : Nat) (lo : kL) (st : List Value) (h : kH) (mc ms : Nat) (a k : Nat) (x : vp_A) (v : Int32), (kI y pc = some (.arraylength, 1)) → (h a = some (.inl (k, x))) → (k < kArt.length) → (Int32.ofNat x.1 = v) → (X (pc + 1) (lo) (.int v :: st) (h) (mc) (ms)) → X (pc) (lo) (.ref a :: st) (h) (mc) (ms)
def kc_sald (G : kG) (y : Nat) (C : kCl) (P : kO → kH → Prop) (X : kX) : Prop := ∀ (pc : Nat) (lo : kL) (st : List Value) (h : kH) (mc ms : Nat) (i : Int32), (kI y pc = some (.iaload, 1)) → (vp_in i G.2.1) → (X (pc + 1) (lo) (.int (G.2.2 i.toNatClampNeg) :: st) (h) (mc) (ms)) → X (pc) (lo) (.int i :: .ref G.1 :: st) (h) (mc) (ms)
def kc_slen (G : kG) (y : Nat) (C : kCl) (P : kO → kH → Prop) (X : kX) : Prop := ∀ (pc : Nat) (lo : kL) (st : List Value) (h : kH) (mc ms : Nat) (v : Int32), (kI y pc = some (.arraylength, 1)) → (Int32.ofNat G.2.1 = v) → (X (pc + 1) (lo) (.int v :: st) (h) (mc) (ms)) → X (pc) (lo) (.ref G.1 :: st) (h) (mc) (ms)
def kc_putf (G : kG) (y : Nat) (C : kCl) (P : kO → kH → Prop) (X : kX) : Prop := ∀ (pc : Nat) (lo : kL) (st : List Value) (h : kH) (mc ms : Nat) (i a ci k : Nat) (fs fs2 : List Value) (v : Value), (kI y pc = some (.putfield i, 3)) → (kFld (kCn y) i = some (ci, k)) → (h a = some (kOb ci fs)) → (kPut y ci k = true) → (k < fs.length) → (narrow (kFty ci k) v = v) → (fits (kFty ci k) v = true) → (fs.set k v = fs2) → (∀ (h2 : kH), (h2 = kset h a (kOb ci fs2)) → X (pc + 3) (lo) (st) (h2) (mc) (ms)) → X (pc) (lo) (v :: .ref a :: st) (h) (mc) (ms)
def kc_iast (G : kG) (y : Nat) (C : kCl) (P : kO → kH → Prop) (X : kX) : Prop := ∀ (pc : Nat) (lo : kL) (st : List Value) (h : kH) (mc ms : Nat) (a n : Nat) (f : Nat → Int32) (i x : Int32), (kI y pc = some (.iastore, 1)) → (h a = some (kAI 0 n f)) → (vp_in i n) → (∀ (h2 : kH), (h2 = kset h a (kAI 0 n (upd f i.toNatClampNeg x))) → X (pc + 1) (lo) (st) (h2) (mc) (ms)) → X (pc) (lo) (.int x :: .int i :: .ref a :: st) (h) (mc) (ms)
def kc_zast (G : kG) (y : Nat) (C : kCl) (P : kO → kH → Prop) (X : kX) : Prop := ∀ (pc : Nat) (lo : kL) (st : List Value) (h : kH) (mc ms : Nat) (a n : Nat) (f : Nat → Int32) (i x : Int32), (kI y pc = some (.bastore, 1)) → (h a = some (kAI 1 n f)) → (vp_in i n) → (∀ (h2 : kH), (h2 = kset h a (kAI 1 n (upd f i.toNatClampNeg (vp_nar .boolean x)))) → X (pc + 1) (lo) (st) (h2) (mc) (ms)) → X (pc) (lo) (.int x :: .int i :: .ref a :: st) (h) (mc) (ms)
def kc_last (G : kG) (y : Nat) (C : kCl) (P : kO → kH → Prop) (X : kX) : Prop := ∀ (pc : Nat) (lo : kL) (st : List Value) (h : kH) (mc ms : Nat) (a n : Nat) (f : Nat → Int64) (i : Int32) (x : Int64), (kI y pc = some (.lastore, 1)) → (h a = some (kAJ 2 n f)) → (vp_in i n) → (∀ (h2 : kH), (h2 = kset h a (kAJ 2 n (vp_updL f i.toNatClampNeg x))) → X (pc + 1) (lo) (st) (h2) (mc) (ms)) → X (pc) (lo) (.long x :: .int i :: .ref a :: st) (h) (mc) (ms)
def kc_aast (G : kG) (y : Nat) (C : kCl) (P : kO → kH → Prop) (X : kX) : Prop := ∀ (pc : Nat) (lo : kL) (st : List Value) (h : kH) (mc ms : Nat) (a n k v ci : Nat) (fs : List Value) (r : vw_C) (f : Nat → Option Nat) (i : Int32), (kI y pc = some (.aastore, 1)) → (kArt[k]? = some (.object r.1)) → (h a = some (kAR k n f)) → (h v = some (kOb ci fs)) → (classes[ci]? = some r) → (vp_in i n) → (∀ (h2 : kH), (h2 = kset h a (kAR k n (va_up f i.toNatClampNeg (some v)))) → X (pc + 1) (lo) (st) (h2) (mc) (ms)) → X (pc) (lo) (.ref v :: .int i :: .ref a :: st) (h) (mc) (ms)
def kc_copyi (G : kG) (y : Nat) (C : kCl) (P : kO → kH → Prop) (X : kX) : Prop := ∀ (pc : Nat) (lo : kL) (st : List Value) (h : kH) (mc ms : Nat) (i a0 a n0 n1 : Nat) (f g : Nat → Int32) (sp dp n : Int32), (kI y pc = some (.invokestatic i, 3)) → (kNat (kCn y) i = some 0) → (h a0 = some (kAI 0 n0 f)) → (h a = some (kAI 0 n1 g)) → (¬ sp < 0) → (¬ dp < 0) → (¬ n < 0) → (sp.toNatClampNeg + n.toNatClampNeg ≤ n0) → (dp.toNatClampNeg + n.toNatClampNeg ≤ n1) → ((st.map fun v => v.category).sum ≤ 8) → (∀ (h2 : kH), (h2 = kset h a (kAI 0 n1 (va_cpy f g sp.toNatClampNeg dp.toNatClampNeg n.toNatClampNeg))) → X (pc + 3) (lo) (st) (h2) (mc) (ms)) → X (pc) (lo) (.int n :: .int dp :: .ref a :: .int sp :: .ref a0 :: st) (h) (mc) (ms)
def kc_mmin (G : kG) (y : Nat) (C : kCl) (P : kO → kH → Prop) (X : kX) : Prop := ∀ (pc : Nat) (lo : kL) (st : List Value) (h : kH) (mc ms : Nat) (i : Nat) (x z : Int32), (kI y pc = some (.invokestatic i, 3)) → (kNat (kCn y) i = some 1) → ((st.map fun v => v.category).sum ≤ 8) → (X (pc + 3) (lo) (.int (if z < x then z else x) :: st) (h) (mc) (ms)) → X (pc) (lo) (.int z :: .int x :: st) (h) (mc) (ms)
def kc_mmax (G : kG) (y : Nat) (C : kCl) (P : kO → kH → Prop) (X : kX) : Prop := ∀ (pc : Nat) (lo : kL) (st : List Value) (h : kH) (mc ms : Nat) (i : Nat) (x z : Int32), (kI y pc = some (.invokestatic i, 3)) → (kNat (kCn y) i = some 2) → ((st.map fun v => v.category).sum ≤ 8) → (X (pc + 3) (lo) (.int (if x < z then z else x) :: st) (h) (mc) (ms)) → X (pc) (lo) (.int z :: .int x :: st) (h) (mc) (ms)
def kc_new (G : kG) (y : Nat) (C : kCl) (P : kO → kH → Prop) (X : kX) : Prop := ∀ (pc : Nat) (lo : kL) (st : List Value) (h : kH) (mc ms : Nat) (i ci N : Nat), (kI y pc = some (.new i, 3)) → (kNew (kCn y) i = some ci) → (kSz ci = N) → (1 ≤ mc) → (N ≤ ms) → (∀ (q : Nat) (h2 : kH), (h q = none) → (h2 = kset h q (kOb ci (kDef ci))) → X (pc + 3) (lo) (.ref q :: st) (h2) (mc - 1) (ms - N)) → X (pc) (lo) (st) (h) (mc) (ms)
def kc_newi (G : kG) (y : Nat) (C : kCl) (P : kO → kH → Prop) (X : kX) : Prop := ∀ (pc : Nat) (lo : kL) (st : List Value) (h : kH) (mc ms : Nat) (n : Int32) (N : Nat), (kI y pc = some (.newarray .int, 2)) → (¬ n < 0) → (n.toNatClampNeg = N) → (N ≤ 60000) → (1 ≤ mc) → (N ≤ ms) → (∀ (q : Nat) (h2 : kH), (h q = none) → (h2 = kset h q (kAI 0 N (fun _ => 0))) → X (pc + 2) (lo) (.ref q :: st) (h2) (mc - 1) (ms - N)) → X (pc) (lo) (.int n :: st) (h) (mc) (ms)
def kc_newz (G : kG) (y : Nat) (C : kCl) (P : kO → kH → Prop) (X : kX) : Prop := ∀ (pc : Nat) (lo : kL) (st : List Value) (h : kH) (mc ms : Nat) (n : Int32) (N : Nat), (kI y pc = some (.newarray .boolean, 2)) → (¬ n < 0) → (n.toNatClampNeg = N) → (N ≤ 60000) → (1 ≤ mc) → (N ≤ ms) → (∀ (q : Nat) (h2 : kH), (h q = none) → (h2 = kset h q (kAI 1 N (fun _ => 0))) → X (pc + 2) (lo) (.ref q :: st) (h2) (mc - 1) (ms - N)) → X (pc) (lo) (.int n :: st) (h) (mc) (ms)
def kc_newj (G : kG) (y : Nat) (C : kCl) (P : kO → kH → Prop) (X : kX) : Prop := ∀ (pc : Nat) (lo : kL) (st : List Value) (h : kH) (mc ms : Nat) (n : Int32) (N : Nat), (kI y pc = some (.newarray .long, 2)) → (¬ n < 0) → (n.toNatClampNeg = N) → (N ≤ 60000) → (1 ≤ mc) → (N ≤ ms) → (∀ (q : Nat) (h2 : kH), (h q = none) → (h2 = kset h q (kAJ 2 N (fun _ => 0))) → X (pc + 2) (lo) (.ref q :: st) (h2) (mc - 1) (ms - N)) → X (pc) (lo) (.int n :: st) (h) (mc) (ms)
def kc_newq (G : kG) (y : Nat) (C : kCl) (P : kO → kH → Prop) (X : kX) : Prop := ∀ (pc : Nat) (lo : kL) (st : List Value) (h : kH) (mc ms : Nat) (i k : Nat) (n : Int32) (N : Nat), (kI y pc = some (.anewarray i, 3)) → (kANew (kCn y) i = some k) → (¬ n < 0) → (n.toNatClampNeg = N) → (N ≤ 60000) → (1 ≤ mc) → (N ≤ ms) → (∀ (q : Nat) (h2 : kH), (h q = none) → (h2 = kset h q (kAR k N (fun _ => none))) → X (pc + 3) (lo) (.ref q :: st) (h2) (mc - 1) (ms - N)) → X (pc) (lo) (.int n :: st) (h) (mc) (ms)
def kc_objinit (G : kG) (y : Nat) (C : kCl) (P : kO → kH → Prop) (X : kX) : Prop := ∀ (pc : Nat) (lo : kL) (st : List Value) (h : kH) (mc ms : Nat) (i a : Nat), (kI y pc = some (.invokespecial i, 3)) → (kObj (kCn y) i = true) → ((st.map fun v => v.category).sum ≤ 8) → (X (pc + 3) (lo) (st) (h) (mc) (ms)) → X (pc) (lo) (.ref a :: st) (h) (mc) (ms)
def kc_calls (G : kG) (y : Nat) (C : kCl) (P : kO → kH → Prop) (X : kX) : Prop := ∀ (pc : Nat) (lo : kL) (st : List Value) (h : kH) (mc ms : Nat) (i y1 mc1 ms1 mc2 ms2 : Nat) (As : List Value) (st0 : List Value) (P1 : kO → kH → Prop), (kI y pc = some (.invokestatic i, 3)) → (kMth (kCn y) i = some y1) → (kKin y1 = 0) → (As.length = kArg y1) → (st0 = As.reverse ++ st) → ((st.map fun v => v.category).sum ≤ 8) → (C y1 As h mc1 ms1 P1) → (∀ E h1, ¬ P1 (.inr E) h1) → (mc1 + mc2 ≤ mc) → (ms1 + ms2 ≤ ms) → (∀ (v : Option Value) (h1 : kH), (P1 (.inl v) h1) → X (pc + 3) (lo) (v.toList ++ st) (h1) (mc2) (ms2)) → X (pc) (lo) (st0) (h) (mc) (ms)
def kc_callv (G : kG) (y : Nat) (C : kCl) (P : kO → kH → Prop) (X : kX) : Prop := ∀ (pc : Nat) (lo : kL) (st : List Value) (h : kH) (mc ms : Nat) (i y1 mc1 ms1 mc2 ms2 : Nat) (As : List Value) (st0 : List Value) (P1 : kO → kH → Prop) (a ci : Nat) (fs : List Value), (kI y pc = some (.invokevirtual i, 3)) → (kMth (kCn y) i = some y1) → (kKin y1 = 1) → (As.length = kArg y1 + 1) → (st0 = As.reverse ++ st) → (As[0]? = some (.ref a)) → (h a = some (kOb ci fs)) → (kRcv y1 = some ci) → ((st.map fun v => v.category).sum ≤ 8) → (C y1 As h mc1 ms1 P1) → (∀ E h1, ¬ P1 (.inr E) h1) → (mc1 + mc2 ≤ mc) → (ms1 + ms2 ≤ ms) → (∀ (v : Option Value) (h1 : kH), (P1 (.inl v) h1) → X (pc + 3) (lo) (v.toList ++ st) (h1) (mc2) (ms2)) → X (pc) (lo) (st0) (h) (mc) (ms)
def kc_calli (G : kG) (y : Nat) (C : kCl) (P : kO → kH → Prop) (X : kX) : Prop := ∀ (pc : Nat) (lo : kL) (st : List Value) (h : kH) (mc ms : Nat) (i y1 mc1 ms1 mc2 ms2 : Nat) (As : List Value) (st0 : List Value) (P1 : kO → kH → Prop) (a : Nat), (kI y pc = some (.invokespecial i, 3)) → (kMth (kCn y) i = some y1) → (kKin y1 = 2) → (As.length = kArg y1 + 1) → (st0 = As.reverse ++ st) → (As[0]? = some (.ref a)) → ((st.map fun v => v.category).sum ≤ 8) → (C y1 As h mc1 ms1 P1) → (∀ E h1, ¬ P1 (.inr E) h1) → (mc1 + mc2 ≤ mc) → (ms1 + ms2 ≤ ms) → (∀ (v : Option Value) (h1 : kH), (P1 (.inl v) h1) → X (pc + 3) (lo) (v.toList ++ st) (h1) (mc2) (ms2)) → X (pc) (lo) (st0) (h) (mc) (ms)
def kc_callx (G : kG) (y : Nat) (C : kCl) (P : kO → kH → Prop) (X : kX) : Prop := ∀ (pc : Nat) (lo : kL) (st : List Value) (h : kH) (mc ms : Nat) (i y1 mc1 ms1 mc2 ms2 : Nat) (As : List Value) (st0 : List Value) (P1 : kO → kH → Prop) (a ci : Nat) (fs : List Value), (kI y pc = some (.invokevirtual i, 3)) → (kMth (kCn y) i = some y1) → (kKin y1 = 1) → (As.length = kArg y1 + 1) → (st0 = As.reverse ++ st) → (As[0]? = some (.ref a)) → (h a = some (kOb ci fs)) → (kRcv y1 = some ci) → (kCls (kCn y1) = "RelationDesk") → (kCls (kCn y) = "RelationDeskLaw") → (∀ E h1, P1 (.inr E) h1 → ∃ hp, kHan y pc E = some hp) → ((st.map fun v => v.category).sum ≤ 8) → (C y1 As h mc1 ms1 P1) → (mc1 + mc2 ≤ mc) → (ms1 + ms2 ≤ ms) → (∀ (v : Option Value) (h1 : kH), (P1 (.inl v) h1) → X (pc + 3) (lo) (v.toList ++ st) (h1) (mc2) (ms2)) → (∀ (E q hp : Nat) (h1 : kH), (P1 (.inr E) h1) → (kHan y pc E = some hp) → X (hp) (lo) ([.ref q]) (h1) (mc2) (ms2)) → X (pc) (lo) (st0) (h) (mc) (ms)
def kc_ireturn (G : kG) (y : Nat) (C : kCl) (P : kO → kH → Prop) (X : kX) : Prop := ∀ (pc : Nat) (lo : kL) (h : kH) (mc ms : Nat) (x : Int32) (ty : FieldType), (kI y pc = some (.ireturn, 1)) → (kRet y = some ty) → (narrow ty (.int x) = .int x) → (P (.inl (some (.int x))) h) → X (pc) (lo) ([.int x]) (h) (mc) (ms)
def kc_areturn (G : kG) (y : Nat) (C : kCl) (P : kO → kH → Prop) (X : kX) : Prop := ∀ (pc : Nat) (lo : kL) (h : kH) (mc ms : Nat) (v : Value), (kI y pc = some (.areturn, 1)) → (kRrf y = true) → (v.isRef = true) → (P (.inl (some v)) h) → X (pc) (lo) ([v]) (h) (mc) (ms)
def kc_return (G : kG) (y : Nat) (C : kCl) (P : kO → kH → Prop) (X : kX) : Prop := ∀ (pc : Nat) (lo : kL) (h : kH) (mc ms : Nat), (kI y pc = some (.return_, 1)) → (kRet y = none) → (P (.inl none) h) → X (pc) (lo) ([]) (h) (mc) (ms)
def kc_throw (G : kG) (y : Nat) (C : kCl) (P : kO → kH → Prop) (X : kX) : Prop := ∀ (pc : Nat) (lo : kL) (st : List Value) (h : kH) (mc ms : Nat) (E : Nat), (kThr y pc = some E) → (1 ≤ mc) → (6 ≤ ms) → ((st.map fun v => v.category).sum ≤ 8) → (P (.inr E) h) → X (pc) (lo) (st) (h) (mc) (ms)
def kClosed (G : kG) (y : Nat) (C : kCl) (P : kO → kH → Prop) (X : kX) : Prop := kc_iconst G y C P X ∧ kc_bipush G y C P X ∧ kc_sipush G y C P X ∧ kc_null G y C P X ∧ kc_lconst G y C P X ∧ kc_ldc G y C P X ∧ kc_iload_n G y C P X ∧ kc_iload G y C P X ∧ kc_aload_n G y C P X ∧ kc_aload G y C P X ∧ kc_istore_n G y C P X ∧ kc_istore G y C P X ∧ kc_astore_n G y C P X ∧ kc_astore G y C P X ∧ kc_iinc G y C P X ∧ kc_iadd G y C P X ∧ kc_isub G y C P X ∧ kc_imul G y C P X ∧ kc_iand G y C P X ∧ kc_ior G y C P X ∧ kc_ixor G y C P X ∧ kc_idiv G y C P X ∧ kc_irem G y C P X ∧ kc_lcmp G y C P X ∧ kc_ineg G y C P X ∧ kc_i2l G y C P X ∧ kc_dup G y C P X ∧ kc_pop G y C P X ∧ kc_dup_x1 G y C P X ∧ kc_dup2 G y C P X ∧ kc_goto G y C P X ∧ kc_if_eq G y C P X ∧ kc_if_ne G y C P X ∧ kc_if_lt G y C P X ∧ kc_if_ge G y C P X ∧ kc_if_gt G y C P X ∧ kc_if_le G y C P X ∧ kc_icmp_eq G y C P X ∧ kc_icmp_ne G y C P X ∧ kc_icmp_lt G y C P X ∧ kc_icmp_ge G y C P X ∧ kc_icmp_gt G y C P X ∧ kc_icmp_le G y C P X ∧ kc_nonnull G y C P X ∧ kc_nonnullN G y C P X ∧ kc_isnull G y C P X ∧ kc_isnullN G y C P X ∧ kc_tswIn G y C P X ∧ kc_tswOut G y C P X ∧ kc_lsw G y C P X ∧ kc_getf G y C P X ∧ kc_iald G y C P X ∧ kc_zald G y C P X ∧ kc_lald G y C P X ∧ kc_aald G y C P X ∧ kc_alen G y C P X ∧ kc_sald G y C P X ∧ kc_slen G y C P X ∧ kc_putf G y C P X ∧ kc_iast G y C P X ∧ kc_zast G y C P X ∧ kc_last G y C P X ∧ kc_aast G y C P X ∧ kc_copyi G y C P X ∧ kc_mmin G y C P X ∧ kc_mmax G y C P X ∧ kc_new G y C P X ∧ kc_newi G y C P X ∧ kc_newz G y C P X ∧ kc_newj G y C P X ∧ kc_newq G y C P X ∧ kc_objinit G y C P X ∧ kc_calls G y C P X ∧ kc_callv G y C P X ∧ kc_calli G y C P X ∧ kc_callx G y C P X ∧ kc_ireturn G y C P X ∧ kc_areturn G y C P X ∧ kc_return G y C P X ∧ kc_throw G y C P X
/-- from here the method y comes to an end at which P holds -/
def kWP (G : kG) (y : Nat) (C : kCl) (P : kO → kH → Prop) (pc : Nat) (lo : kL) (st : List Value) (h : kH) (mc ms : Nat) : Prop := ∀ X : kX, kClosed G y C P X → X pc lo st h mc ms
theorem k_iconst {G : kG} {y : Nat} {C : kCl} {P : kO → kH → Prop} {pc : Nat} {lo : kL} {st : List Value} {h : kH} {mc ms : Nat} {n : Int} {v : Int32} (hd : kI y pc = some (.iconst n, 1)) (hv : Int32.ofInt n = v) (k1 : (kWP G y C P (pc + 1) (lo) (.int v :: st) (h) (mc) (ms))) : kWP G y C P (pc) (lo) (st) (h) (mc) (ms) := fun X hX => hX.1 pc lo st h mc ms n v hd hv (k1 X hX)
theorem k_bipush {G : kG} {y : Nat} {C : kCl} {P : kO → kH → Prop} {pc : Nat} {lo : kL} {st : List Value} {h : kH} {mc ms : Nat} {n : Int} {v : Int32} (hd : kI y pc = some (.bipush n, 2)) (hv : (Int8.ofInt n).toInt32 = v) (k1 : (kWP G y C P (pc + 2) (lo) (.int v :: st) (h) (mc) (ms))) : kWP G y C P (pc) (lo) (st) (h) (mc) (ms) := fun X hX => hX.2.1 pc lo st h mc ms n v hd hv (k1 X hX)
theorem k_sipush {G : kG} {y : Nat} {C : kCl} {P : kO → kH → Prop} {pc : Nat} {lo : kL} {st : List Value} {h : kH} {mc ms : Nat} {n : Int} {v : Int32} (hd : kI y pc = some (.sipush n, 3)) (hv : (Int16.ofInt n).toInt32 = v) (k1 : (kWP G y C P (pc + 3) (lo) (.int v :: st) (h) (mc) (ms))) : kWP G y C P (pc) (lo) (st) (h) (mc) (ms) := fun X hX => hX.2.2.1 pc lo st h mc ms n v hd hv (k1 X hX)
theorem k_null {G : kG} {y : Nat} {C : kCl} {P : kO → kH → Prop} {pc : Nat} {lo : kL} {st : List Value} {h : kH} {mc ms : Nat} (hd : kI y pc = some (.aconst_null, 1)) (k1 : (kWP G y C P (pc + 1) (lo) (.null :: st) (h) (mc) (ms))) : kWP G y C P (pc) (lo) (st) (h) (mc) (ms) := fun X hX => hX.2.2.2.1 pc lo st h mc ms hd (k1 X hX)
theorem k_lconst {G : kG} {y : Nat} {C : kCl} {P : kO → kH → Prop} {pc : Nat} {lo : kL} {st : List Value} {h : kH} {mc ms : Nat} {n : Fin 2} {v : Int64} (hd : kI y pc = some (.lconst n, 1)) (hv : Int64.ofNat (n : Nat) = v) (k1 : (kWP G y C P (pc + 1) (lo) (.long v :: st) (h) (mc) (ms))) : kWP G y C P (pc) (lo) (st) (h) (mc) (ms) := fun X hX => hX.2.2.2.2.1 pc lo st h mc ms n v hd hv (k1 X hX)
theorem k_ldc {G : kG} {y : Nat} {C : kCl} {P : kO → kH → Prop} {pc : Nat} {lo : kL} {st : List Value} {h : kH} {mc ms : Nat} {i : Nat} {v : Int32} (hd : kI y pc = some (.ldc i, 2)) (hv : kCst (kCn y) i = some v) (k1 : (kWP G y C P (pc + 2) (lo) (.int v :: st) (h) (mc) (ms))) : kWP G y C P (pc) (lo) (st) (h) (mc) (ms) := fun X hX => hX.2.2.2.2.2.1 pc lo st h mc ms i v hd hv (k1 X hX)
theorem k_iload_n {G : kG} {y : Nat} {C : kCl} {P : kO → kH → Prop} {pc : Nat} {lo : kL} {st : List Value} {h : kH} {mc ms : Nat} {k : Fin 4} {x : Int32} (hd : kI y pc = some (.iload_n k, 1)) (hl : lo[(k : Nat)]? = some (some (.int x))) (k1 : (kWP G y C P (pc + 1) (lo) (.int x :: st) (h) (mc) (ms))) : kWP G y C P (pc) (lo) (st) (h) (mc) (ms) := fun X hX => hX.2.2.2.2.2.2.1 pc lo st h mc ms k x hd hl (k1 X hX)
theorem k_iload {G : kG} {y : Nat} {C : kCl} {P : kO → kH → Prop} {pc : Nat} {lo : kL} {st : List Value} {h : kH} {mc ms : Nat} {k : Nat} {x : Int32} (hd : kI y pc = some (.iload k, 2)) (hl : lo[k]? = some (some (.int x))) (k1 : (kWP G y C P (pc + 2) (lo) (.int x :: st) (h) (mc) (ms))) : kWP G y C P (pc) (lo) (st) (h) (mc) (ms) := fun X hX => hX.2.2.2.2.2.2.2.1 pc lo st h mc ms k x hd hl (k1 X hX)
theorem k_aload_n {G : kG} {y : Nat} {C : kCl} {P : kO → kH → Prop} {pc : Nat} {lo : kL} {st : List Value} {h : kH} {mc ms : Nat} {k : Fin 4} {v : Value} (hd : kI y pc = some (.aload_n k, 1)) (hl : lo[(k : Nat)]? = some (some v)) (hv : v.isRef = true) (k1 : (kWP G y C P (pc + 1) (lo) (v :: st) (h) (mc) (ms))) : kWP G y C P (pc) (lo) (st) (h) (mc) (ms) := fun X hX => hX.2.2.2.2.2.2.2.2.1 pc lo st h mc ms k v hd hl hv (k1 X hX)
theorem k_aload {G : kG} {y : Nat} {C : kCl} {P : kO → kH → Prop} {pc : Nat} {lo : kL} {st : List Value} {h : kH} {mc ms : Nat} {k : Nat} {v : Value} (hd : kI y pc = some (.aload k, 2)) (hl : lo[k]? = some (some v)) (hv : v.isRef = true) (k1 : (kWP G y C P (pc + 2) (lo) (v :: st) (h) (mc) (ms))) : kWP G y C P (pc) (lo) (st) (h) (mc) (ms) := fun X hX => hX.2.2.2.2.2.2.2.2.2.1 pc lo st h mc ms k v hd hl hv (k1 X hX)
theorem k_istore_n {G : kG} {y : Nat} {C : kCl} {P : kO → kH → Prop} {pc : Nat} {lo : kL} {st : List Value} {h : kH} {mc ms : Nat} {k : Fin 4} {x : Int32} {lo2 : kL} (hd : kI y pc = some (.istore_n k, 1)) (hk : (k : Nat) < lo.length) (he : lo.set k (some (.int x)) = lo2) (k1 : (kWP G y C P (pc + 1) (lo2) (st) (h) (mc) (ms))) : kWP G y C P (pc) (lo) (.int x :: st) (h) (mc) (ms) := fun X hX => hX.2.2.2.2.2.2.2.2.2.2.1 pc lo st h mc ms k x lo2 hd hk he (k1 X hX)
theorem k_istore {G : kG} {y : Nat} {C : kCl} {P : kO → kH → Prop} {pc : Nat} {lo : kL} {st : List Value} {h : kH} {mc ms : Nat} {k : Nat} {x : Int32} {lo2 : kL} (hd : kI y pc = some (.istore k, 2)) (hk : k < lo.length) (he : lo.set k (some (.int x)) = lo2) (k1 : (kWP G y C P (pc + 2) (lo2) (st) (h) (mc) (ms))) : kWP G y C P (pc) (lo) (.int x :: st) (h) (mc) (ms) := fun X hX => hX.2.2.2.2.2.2.2.2.2.2.2.1 pc lo st h mc ms k x lo2 hd hk he (k1 X hX)
theorem k_astore_n {G : kG} {y : Nat} {C : kCl} {P : kO → kH → Prop} {pc : Nat} {lo : kL} {st : List Value} {h : kH} {mc ms : Nat} {k : Fin 4} {v : Value} {lo2 : kL} (hd : kI y pc = some (.astore_n k, 1)) (hk : (k : Nat) < lo.length) (hv : v.isRef = true) (he : lo.set k (some v) = lo2) (k1 : (kWP G y C P (pc + 1) (lo2) (st) (h) (mc) (ms))) : kWP G y C P (pc) (lo) (v :: st) (h) (mc) (ms) := fun X hX => hX.2.2.2.2.2.2.2.2.2.2.2.2.1 pc lo st h mc ms k v lo2 hd hk hv he (k1 X hX)
theorem k_astore {G : kG} {y : Nat} {C : kCl} {P : kO → kH → Prop} {pc : Nat} {lo : kL} {st : List Value} {h : kH} {mc ms : Nat} {k : Nat} {v : Value} {lo2 : kL} (hd : kI y pc = some (.astore k, 2)) (hk : k < lo.length) (hv : v.isRef = true) (he : lo.set k (some v) = lo2) (k1 : (kWP G y C P (pc + 2) (lo2) (st) (h) (mc) (ms))) : kWP G y C P (pc) (lo) (v :: st) (h) (mc) (ms) := fun X hX => hX.2.2.2.2.2.2.2.2.2.2.2.2.2.1 pc lo st h mc ms k v lo2 hd hk hv he (k1 X hX)
theorem k_iinc {G : kG} {y : Nat} {C : kCl} {P : kO → kH → Prop} {pc : Nat} {lo : kL} {st : List Value} {h : kH} {mc ms : Nat} {k : Nat} {n : Int} {x v : Int32} {lo2 : kL} (hd : kI y pc = some (.iinc k n, 3)) (hl : lo[k]? = some (some (.int x))) (hv : x + Int32.ofInt n = v) (he : lo.set k (some (.int v)) = lo2) (k1 : (kWP G y C P (pc + 3) (lo2) (st) (h) (mc) (ms))) : kWP G y C P (pc) (lo) (st) (h) (mc) (ms) := fun X hX => hX.2.2.2.2.2.2.2.2.2.2.2.2.2.2.1 pc lo st h mc ms k n x v lo2 hd hl hv he (k1 X hX)
theorem k_iadd {G : kG} {y : Nat} {C : kCl} {P : kO → kH → Prop} {pc : Nat} {lo : kL} {st : List Value} {h : kH} {mc ms : Nat} {x z : Int32} (hd : kI y pc = some (.iadd, 1)) (k1 : (kWP G y C P (pc + 1) (lo) (.int (x + z) :: st) (h) (mc) (ms))) : kWP G y C P (pc) (lo) (.int z :: .int x :: st) (h) (mc) (ms) := fun X hX => hX.2.2.2.2.2.2.2.2.2.2.2.2.2.2.2.1 pc lo st h mc ms x z hd (k1 X hX)
theorem k_isub {G : kG} {y : Nat} {C : kCl} {P : kO → kH → Prop} {pc : Nat} {lo : kL} {st : List Value} {h : kH} {mc ms : Nat} {x z : Int32} (hd : kI y pc = some (.isub, 1)) (k1 : (kWP G y C P (pc + 1) (lo) (.int (x - z) :: st) (h) (mc) (ms))) : kWP G y C P (pc) (lo) (.int z :: .int x :: st) (h) (mc) (ms) := fun X hX => hX.2.2.2.2.2.2.2.2.2.2.2.2.2.2.2.2.1 pc lo st h mc ms x z hd (k1 X hX)
theorem k_imul {G : kG} {y : Nat} {C : kCl} {P : kO → kH → Prop} {pc : Nat} {lo : kL} {st : List Value} {h : kH} {mc ms : Nat} {x z : Int32} (hd : kI y pc = some (.imul, 1)) (k1 : (kWP G y C P (pc + 1) (lo) (.int (x * z) :: st) (h) (mc) (ms))) : kWP G y C P (pc) (lo) (.int z :: .int x :: st) (h) (mc) (ms) := fun X hX => hX.2.2.2.2.2.2.2.2.2.2.2.2.2.2.2.2.2.1 pc lo st h mc ms x z hd (k1 X hX)
theorem k_iand {G : kG} {y : Nat} {C : kCl} {P : kO → kH → Prop} {pc : Nat} {lo : kL} {st : List Value} {h : kH} {mc ms : Nat} {x z : Int32} (hd : kI y pc = some (.iand, 1)) (k1 : (kWP G y C P (pc + 1) (lo) (.int (x &&& z) :: st) (h) (mc) (ms))) : kWP G y C P (pc) (lo) (.int z :: .int x :: st) (h) (mc) (ms) := fun X hX => hX.2.2.2.2.2.2.2.2.2.2.2.2.2.2.2.2.2.2.1 pc lo st h mc ms x z hd (k1 X hX)
theorem k_ior {G : kG} {y : Nat} {C : kCl} {P : kO → kH → Prop} {pc : Nat} {lo : kL} {st : List Value} {h : kH} {mc ms : Nat} {x z : Int32} (hd : kI y pc = some (.ior, 1)) (k1 : (kWP G y C P (pc + 1) (lo) (.int (x ||| z) :: st) (h) (mc) (ms))) : kWP G y C P (pc) (lo) (.int z :: .int x :: st) (h) (mc) (ms) := fun X hX => hX.2.2.2.2.2.2.2.2.2.2.2.2.2.2.2.2.2.2.2.1 pc lo st h mc ms x z hd (k1 X hX)
theorem k_ixor {G : kG} {y : Nat} {C : kCl} {P : kO → kH → Prop} {pc : Nat} {lo : kL} {st : List Value} {h : kH} {mc ms : Nat} {x z : Int32} (hd : kI y pc = some (.ixor, 1)) (k1 : (kWP G y C P (pc + 1) (lo) (.int (x ^^^ z) :: st) (h) (mc) (ms))) : kWP G y C P (pc) (lo) (.int z :: .int x :: st) (h) (mc) (ms) := fun X hX => hX.2.2.2.2.2.2.2.2.2.2.2.2.2.2.2.2.2.2.2.2.1 pc lo st h mc ms x z hd (k1 X hX)
theorem k_idiv {G : kG} {y : Nat} {C : kCl} {P : kO → kH → Prop} {pc : Nat} {lo : kL} {st : List Value} {h : kH} {mc ms : Nat} {x z : Int32} (hd : kI y pc = some (.idiv, 1)) (hz : ¬ z = 0) (k1 : (kWP G y C P (pc + 1) (lo) (.int (x / z) :: st) (h) (mc) (ms))) : kWP G y C P (pc) (lo) (.int z :: .int x :: st) (h) (mc) (ms) := fun X hX => hX.2.2.2.2.2.2.2.2.2.2.2.2.2.2.2.2.2.2.2.2.2.1 pc lo st h mc ms x z hd hz (k1 X hX)
theorem k_irem {G : kG} {y : Nat} {C : kCl} {P : kO → kH → Prop} {pc : Nat} {lo : kL} {st : List Value} {h : kH} {mc ms : Nat} {x z : Int32} (hd : kI y pc = some (.irem, 1)) (hz : ¬ z = 0) (k1 : (kWP G y C P (pc + 1) (lo) (.int (x - x / z * z) :: st) (h) (mc) (ms))) : kWP G y C P (pc) (lo) (.int z :: .int x :: st) (h) (mc) (ms) := fun X hX => hX.2.2.2.2.2.2.2.2.2.2.2.2.2.2.2.2.2.2.2.2.2.2.1 pc lo st h mc ms x z hd hz (k1 X hX)
theorem k_lcmp {G : kG} {y : Nat} {C : kCl} {P : kO → kH → Prop} {pc : Nat} {lo : kL} {st : List Value} {h : kH} {mc ms : Nat} {x z : Int64} {v : Int32} (hd : kI y pc = some (.lcmp, 1)) (hv : v = lg_cmp x z) (k1 : (kWP G y C P (pc + 1) (lo) (.int v :: st) (h) (mc) (ms))) : kWP G y C P (pc) (lo) (.long z :: .long x :: st) (h) (mc) (ms) := fun X hX => hX.2.2.2.2.2.2.2.2.2.2.2.2.2.2.2.2.2.2.2.2.2.2.2.1 pc lo st h mc ms x z v hd hv (k1 X hX)
theorem k_ineg {G : kG} {y : Nat} {C : kCl} {P : kO → kH → Prop} {pc : Nat} {lo : kL} {st : List Value} {h : kH} {mc ms : Nat} {x : Int32} (hd : kI y pc = some (.ineg, 1)) (k1 : (kWP G y C P (pc + 1) (lo) (.int (-x) :: st) (h) (mc) (ms))) : kWP G y C P (pc) (lo) (.int x :: st) (h) (mc) (ms) := fun X hX => hX.2.2.2.2.2.2.2.2.2.2.2.2.2.2.2.2.2.2.2.2.2.2.2.2.1 pc lo st h mc ms x hd (k1 X hX)
theorem k_i2l {G : kG} {y : Nat} {C : kCl} {P : kO → kH → Prop} {pc : Nat} {lo : kL} {st : List Value} {h : kH} {mc ms : Nat} {x : Int32} (hd : kI y pc = some (.i2l, 1)) (k1 : (kWP G y C P (pc + 1) (lo) (.long x.toInt64 :: st) (h) (mc) (ms))) : kWP G y C P (pc) (lo) (.int x :: st) (h) (mc) (ms) := fun X hX => hX.2.2.2.2.2.2.2.2.2.2.2.2.2.2.2.2.2.2.2.2.2.2.2.2.2.1 pc lo st h mc ms x hd (k1 X hX)
theorem k_dup {G : kG} {y : Nat} {C : kCl} {P : kO → kH → Prop} {pc : Nat} {lo : kL} {st : List Value} {h : kH} {mc ms : Nat} {v : Value} (hd : kI y pc = some (.dup, 1)) (hv : v.category = 1) (k1 : (kWP G y C P (pc + 1) (lo) (v :: v :: st) (h) (mc) (ms))) : kWP G y C P (pc) (lo) (v :: st) (h) (mc) (ms) := fun X hX => hX.2.2.2.2.2.2.2.2.2.2.2.2.2.2.2.2.2.2.2.2.2.2.2.2.2.2.1 pc lo st h mc ms v hd hv (k1 X hX)
theorem k_pop {G : kG} {y : Nat} {C : kCl} {P : kO → kH → Prop} {pc : Nat} {lo : kL} {st : List Value} {h : kH} {mc ms : Nat} {v : Value} (hd : kI y pc = some (.pop, 1)) (hv : v.category = 1) (k1 : (kWP G y C P (pc + 1) (lo) (st) (h) (mc) (ms))) : kWP G y C P (pc) (lo) (v :: st) (h) (mc) (ms) := fun X hX => hX.2.2.2.2.2.2.2.2.2.2.2.2.2.2.2.2.2.2.2.2.2.2.2.2.2.2.2.1 pc lo st h mc ms v hd hv (k1 X hX)
theorem k_dup_x1 {G : kG} {y : Nat} {C : kCl} {P : kO → kH → Prop} {pc : Nat} {lo : kL} {st : List Value} {h : kH} {mc ms : Nat} {v w : Value} (hd : kI y pc = some (.dup_x1, 1)) (hv : v.category = 1) (hw : w.category = 1) (k1 : (kWP G y C P (pc + 1) (lo) (v :: w :: v :: st) (h) (mc) (ms))) : kWP G y C P (pc) (lo) (v :: w :: st) (h) (mc) (ms) := fun X hX => hX.2.2.2.2.2.2.2.2.2.2.2.2.2.2.2.2.2.2.2.2.2.2.2.2.2.2.2.2.1 pc lo st h mc ms v w hd hv hw (k1 X hX)
theorem k_dup2 {G : kG} {y : Nat} {C : kCl} {P : kO → kH → Prop} {pc : Nat} {lo : kL} {st : List Value} {h : kH} {mc ms : Nat} {v w : Value} (hd : kI y pc = some (.dup2, 1)) (hv : v.category = 1) (hw : w.category = 1) (k1 : (kWP G y C P (pc + 1) (lo) (v :: w :: v :: w :: st) (h) (mc) (ms))) : kWP G y C P (pc) (lo) (v :: w :: st) (h) (mc) (ms) := fun X hX => hX.2.2.2.2.2.2.2.2.2.2.2.2.2.2.2.2.2.2.2.2.2.2.2.2.2.2.2.2.2.1 pc lo st h mc ms v w hd hv hw (k1 X hX)
theorem k_goto {G : kG} {y : Nat} {C : kCl} {P : kO → kH → Prop} {pc : Nat} {lo : kL} {st : List Value} {h : kH} {mc ms : Nat} {off : Int} {tgt : Nat} (hd : kI y pc = some (.goto off, 3)) (ht : (pc : Int) + off = (tgt : Int)) (k1 : (kWP G y C P (tgt) (lo) (st) (h) (mc) (ms))) : kWP G y C P (pc) (lo) (st) (h) (mc) (ms) := fun X hX => hX.2.2.2.2.2.2.2.2.2.2.2.2.2.2.2.2.2.2.2.2.2.2.2.2.2.2.2.2.2.2.1 pc lo st h mc ms off tgt hd ht (k1 X hX)
theorem k_if_eq {G : kG} {y : Nat} {C : kCl} {P : kO → kH → Prop} {pc : Nat} {lo : kL} {st : List Value} {h : kH} {mc ms : Nat} {x : Int32} {off : Int} {tgt : Nat} (hd : kI y pc = some (.ifCond .eq off, 3)) (ht : (pc : Int) + off = (tgt : Int)) (k1 : ((x = 0) → kWP G y C P (tgt) (lo) (st) (h) (mc) (ms))) (k2 : ((¬ x = 0) → kWP G y C P (pc + 3) (lo) (st) (h) (mc) (ms))) : kWP G y C P (pc) (lo) (.int x :: st) (h) (mc) (ms) := fun X hX => hX.2.2.2.2.2.2.2.2.2.2.2.2.2.2.2.2.2.2.2.2.2.2.2.2.2.2.2.2.2.2.2.1 pc lo st h mc ms x off tgt hd ht (fun c => k1 c X hX) (fun c => k2 c X hX)
theorem k_if_ne {G : kG} {y : Nat} {C : kCl} {P : kO → kH → Prop} {pc : Nat} {lo : kL} {st : List Value} {h : kH} {mc ms : Nat} {x : Int32} {off : Int} {tgt : Nat} (hd : kI y pc = some (.ifCond .ne off, 3)) (ht : (pc : Int) + off = (tgt : Int)) (k1 : ((¬ x = 0) → kWP G y C P (tgt) (lo) (st) (h) (mc) (ms))) (k2 : ((x = 0) → kWP G y C P (pc + 3) (lo) (st) (h) (mc) (ms))) : kWP G y C P (pc) (lo) (.int x :: st) (h) (mc) (ms) := fun X hX => hX.2.2.2.2.2.2.2.2.2.2.2.2.2.2.2.2.2.2.2.2.2.2.2.2.2.2.2.2.2.2.2.2.1 pc lo st h mc ms x off tgt hd ht (fun c => k1 c X hX) (fun c => k2 c X hX)
theorem k_if_lt {G : kG} {y : Nat} {C : kCl} {P : kO → kH → Prop} {pc : Nat} {lo : kL} {st : List Value} {h : kH} {mc ms : Nat} {x : Int32} {off : Int} {tgt : Nat} (hd : kI y pc = some (.ifCond .lt off, 3)) (ht : (pc : Int) + off = (tgt : Int)) (k1 : ((x < 0) → kWP G y C P (tgt) (lo) (st) (h) (mc) (ms))) (k2 : ((¬ x < 0) → kWP G y C P (pc + 3) (lo) (st) (h) (mc) (ms))) : kWP G y C P (pc) (lo) (.int x :: st) (h) (mc) (ms) := fun X hX => hX.2.2.2.2.2.2.2.2.2.2.2.2.2.2.2.2.2.2.2.2.2.2.2.2.2.2.2.2.2.2.2.2.2.1 pc lo st h mc ms x off tgt hd ht (fun c => k1 c X hX) (fun c => k2 c X hX)
theorem k_if_ge {G : kG} {y : Nat} {C : kCl} {P : kO → kH → Prop} {pc : Nat} {lo : kL} {st : List Value} {h : kH} {mc ms : Nat} {x : Int32} {off : Int} {tgt : Nat} (hd : kI y pc = some (.ifCond .ge off, 3)) (ht : (pc : Int) + off = (tgt : Int)) (k1 : ((0 ≤ x) → kWP G y C P (tgt) (lo) (st) (h) (mc) (ms))) (k2 : ((¬ 0 ≤ x) → kWP G y C P (pc + 3) (lo) (st) (h) (mc) (ms))) : kWP G y C P (pc) (lo) (.int x :: st) (h) (mc) (ms) := fun X hX => hX.2.2.2.2.2.2.2.2.2.2.2.2.2.2.2.2.2.2.2.2.2.2.2.2.2.2.2.2.2.2.2.2.2.2.1 pc lo st h mc ms x off tgt hd ht (fun c => k1 c X hX) (fun c => k2 c X hX)
theorem k_if_gt {G : kG} {y : Nat} {C : kCl} {P : kO → kH → Prop} {pc : Nat} {lo : kL} {st : List Value} {h : kH} {mc ms : Nat} {x : Int32} {off : Int} {tgt : Nat} (hd : kI y pc = some (.ifCond .gt off, 3)) (ht : (pc : Int) + off = (tgt : Int)) (k1 : ((0 < x) → kWP G y C P (tgt) (lo) (st) (h) (mc) (ms))) (k2 : ((¬ 0 < x) → kWP G y C P (pc + 3) (lo) (st) (h) (mc) (ms))) : kWP G y C P (pc) (lo) (.int x :: st) (h) (mc) (ms) := fun X hX => hX.2.2.2.2.2.2.2.2.2.2.2.2.2.2.2.2.2.2.2.2.2.2.2.2.2.2.2.2.2.2.2.2.2.2.2.1 pc lo st h mc ms x off tgt hd ht (fun c => k1 c X hX) (fun c => k2 c X hX)
theorem k_if_le {G : kG} {y : Nat} {C : kCl} {P : kO → kH → Prop} {pc : Nat} {lo : kL} {st : List Value} {h : kH} {mc ms : Nat} {x : Int32} {off : Int} {tgt : Nat} (hd : kI y pc = some (.ifCond .le off, 3)) (ht : (pc : Int) + off = (tgt : Int)) (k1 : ((x ≤ 0) → kWP G y C P (tgt) (lo) (st) (h) (mc) (ms))) (k2 : ((¬ x ≤ 0) → kWP G y C P (pc + 3) (lo) (st) (h) (mc) (ms))) : kWP G y C P (pc) (lo) (.int x :: st) (h) (mc) (ms) := fun X hX => hX.2.2.2.2.2.2.2.2.2.2.2.2.2.2.2.2.2.2.2.2.2.2.2.2.2.2.2.2.2.2.2.2.2.2.2.2.1 pc lo st h mc ms x off tgt hd ht (fun c => k1 c X hX) (fun c => k2 c X hX)
theorem k_icmp_eq {G : kG} {y : Nat} {C : kCl} {P : kO → kH → Prop} {pc : Nat} {lo : kL} {st : List Value} {h : kH} {mc ms : Nat} {x z : Int32} {off : Int} {tgt : Nat} (hd : kI y pc = some (.if_icmp .eq off, 3)) (ht : (pc : Int) + off = (tgt : Int)) (k1 : ((x = z) → kWP G y C P (tgt) (lo) (st) (h) (mc) (ms))) (k2 : ((¬ x = z) → kWP G y C P (pc + 3) (lo) (st) (h) (mc) (ms))) : kWP G y C P (pc) (lo) (.int z :: .int x :: st) (h) (mc) (ms) := fun X hX => hX.2.2.2.2.2.2.2.2.2.2.2.2.2.2.2.2.2.2.2.2.2.2.2.2.2.2.2.2.2.2.2.2.2.2.2.2.2.1 pc lo st h mc ms x z off tgt hd ht (fun c => k1 c X hX) (fun c => k2 c X hX)
theorem k_icmp_ne {G : kG} {y : Nat} {C : kCl} {P : kO → kH → Prop} {pc : Nat} {lo : kL} {st : List Value} {h : kH} {mc ms : Nat} {x z : Int32} {off : Int} {tgt : Nat} (hd : kI y pc = some (.if_icmp .ne off, 3)) (ht : (pc : Int) + off = (tgt : Int)) (k1 : ((¬ x = z) → kWP G y C P (tgt) (lo) (st) (h) (mc) (ms))) (k2 : ((x = z) → kWP G y C P (pc + 3) (lo) (st) (h) (mc) (ms))) : kWP G y C P (pc) (lo) (.int z :: .int x :: st) (h) (mc) (ms) := fun X hX => hX.2.2.2.2.2.2.2.2.2.2.2.2.2.2.2.2.2.2.2.2.2.2.2.2.2.2.2.2.2.2.2.2.2.2.2.2.2.2.1 pc lo st h mc ms x z off tgt hd ht (fun c => k1 c X hX) (fun c => k2 c X hX)
theorem k_icmp_lt {G : kG} {y : Nat} {C : kCl} {P : kO → kH → Prop} {pc : Nat} {lo : kL} {st : List Value} {h : kH} {mc ms : Nat} {x z : Int32} {off : Int} {tgt : Nat} (hd : kI y pc = some (.if_icmp .lt off, 3)) (ht : (pc : Int) + off = (tgt : Int)) (k1 : ((x < z) → kWP G y C P (tgt) (lo) (st) (h) (mc) (ms))) (k2 : ((¬ x < z) → kWP G y C P (pc + 3) (lo) (st) (h) (mc) (ms))) : kWP G y C P (pc) (lo) (.int z :: .int x :: st) (h) (mc) (ms) := fun X hX => hX.2.2.2.2.2.2.2.2.2.2.2.2.2.2.2.2.2.2.2.2.2.2.2.2.2.2.2.2.2.2.2.2.2.2.2.2.2.2.2.1 pc lo st h mc ms x z off tgt hd ht (fun c => k1 c X hX) (fun c => k2 c X hX)
theorem k_icmp_ge {G : kG} {y : Nat} {C : kCl} {P : kO → kH → Prop} {pc : Nat} {lo : kL} {st : List Value} {h : kH} {mc ms : Nat} {x z : Int32} {off : Int} {tgt : Nat} (hd : kI y pc = some (.if_icmp .ge off, 3)) (ht : (pc : Int) + off = (tgt : Int)) (k1 : ((z ≤ x) → kWP G y C P (tgt) (lo) (st) (h) (mc) (ms))) (k2 : ((¬ z ≤ x) → kWP G y C P (pc + 3) (lo) (st) (h) (mc) (ms))) : kWP G y C P (pc) (lo) (.int z :: .int x :: st) (h) (mc) (ms) := fun X hX => hX.2.2.2.2.2.2.2.2.2.2.2.2.2.2.2.2.2.2.2.2.2.2.2.2.2.2.2.2.2.2.2.2.2.2.2.2.2.2.2.2.1 pc lo st h mc ms x z off tgt hd ht (fun c => k1 c X hX) (fun c => k2 c X hX)
theorem k_icmp_gt {G : kG} {y : Nat} {C : kCl} {P : kO → kH → Prop} {pc : Nat} {lo : kL} {st : List Value} {h : kH} {mc ms : Nat} {x z : Int32} {off : Int} {tgt : Nat} (hd : kI y pc = some (.if_icmp .gt off, 3)) (ht : (pc : Int) + off = (tgt : Int)) (k1 : ((z < x) → kWP G y C P (tgt) (lo) (st) (h) (mc) (ms))) (k2 : ((¬ z < x) → kWP G y C P (pc + 3) (lo) (st) (h) (mc) (ms))) : kWP G y C P (pc) (lo) (.int z :: .int x :: st) (h) (mc) (ms) := fun X hX => hX.2.2.2.2.2.2.2.2.2.2.2.2.2.2.2.2.2.2.2.2.2.2.2.2.2.2.2.2.2.2.2.2.2.2.2.2.2.2.2.2.2.1 pc lo st h mc ms x z off tgt hd ht (fun c => k1 c X hX) (fun c => k2 c X hX)
theorem k_icmp_le {G : kG} {y : Nat} {C : kCl} {P : kO → kH → Prop} {pc : Nat} {lo : kL} {st : List Value} {h : kH} {mc ms : Nat} {x z : Int32} {off : Int} {tgt : Nat} (hd : kI y pc = some (.if_icmp .le off, 3)) (ht : (pc : Int) + off = (tgt : Int)) (k1 : ((x ≤ z) → kWP G y C P (tgt) (lo) (st) (h) (mc) (ms))) (k2 : ((¬ x ≤ z) → kWP G y C P (pc + 3) (lo) (st) (h) (mc) (ms))) : kWP G y C P (pc) (lo) (.int z :: .int x :: st) (h) (mc) (ms) := fun X hX => hX.2.2.2.2.2.2.2.2.2.2.2.2.2.2.2.2.2.2.2.2.2.2.2.2.2.2.2.2.2.2.2.2.2.2.2.2.2.2.2.2.2.2.1 pc lo st h mc ms x z off tgt hd ht (fun c => k1 c X hX) (fun c => k2 c X hX)
theorem k_nonnull {G : kG} {y : Nat} {C : kCl} {P : kO → kH → Prop} {pc : Nat} {lo : kL} {st : List Value} {h : kH} {mc ms : Nat} {a : Nat} {off : Int} {tgt : Nat} (hd : kI y pc = some (.ifnonnull off, 3)) (ht : (pc : Int) + off = (tgt : Int)) (k1 : (kWP G y C P (tgt) (lo) (st) (h) (mc) (ms))) : kWP G y C P (pc) (lo) (.ref a :: st) (h) (mc) (ms) := fun X hX => hX.2.2.2.2.2.2.2.2.2.2.2.2.2.2.2.2.2.2.2.2.2.2.2.2.2.2.2.2.2.2.2.2.2.2.2.2.2.2.2.2.2.2.2.1 pc lo st h mc ms a off tgt hd ht (k1 X hX)
theorem k_nonnullN {G : kG} {y : Nat} {C : kCl} {P : kO → kH → Prop} {pc : Nat} {lo : kL} {st : List Value} {h : kH} {mc ms : Nat} {off : Int} (hd : kI y pc = some (.ifnonnull off, 3)) (k1 : (kWP G y C P (pc + 3) (lo) (st) (h) (mc) (ms))) : kWP G y C P (pc) (lo) (.null :: st) (h) (mc) (ms) := fun X hX => hX.2.2.2.2.2.2.2.2.2.2.2.2.2.2.2.2.2.2.2.2.2.2.2.2.2.2.2.2.2.2.2.2.2.2.2.2.2.2.2.2.2.2.2.2.1 pc lo st h mc ms off hd (k1 X hX)
theorem k_isnull {G : kG} {y : Nat} {C : kCl} {P : kO → kH → Prop} {pc : Nat} {lo : kL} {st : List Value} {h : kH} {mc ms : Nat} {a : Nat} {off : Int} (hd : kI y pc = some (.ifnull off, 3)) (k1 : (kWP G y C P (pc + 3) (lo) (st) (h) (mc) (ms))) : kWP G y C P (pc) (lo) (.ref a :: st) (h) (mc) (ms) := fun X hX => hX.2.2.2.2.2.2.2.2.2.2.2.2.2.2.2.2.2.2.2.2.2.2.2.2.2.2.2.2.2.2.2.2.2.2.2.2.2.2.2.2.2.2.2.2.2.1 pc lo st h mc ms a off hd (k1 X hX)
theorem k_isnullN {G : kG} {y : Nat} {C : kCl} {P : kO → kH → Prop} {pc : Nat} {lo : kL} {st : List Value} {h : kH} {mc ms : Nat} {off : Int} {tgt : Nat} (hd : kI y pc = some (.ifnull off, 3)) (ht : (pc : Int) + off = (tgt : Int)) (k1 : (kWP G y C P (tgt) (lo) (st) (h) (mc) (ms))) : kWP G y C P (pc) (lo) (.null :: st) (h) (mc) (ms) := fun X hX => hX.2.2.2.2.2.2.2.2.2.2.2.2.2.2.2.2.2.2.2.2.2.2.2.2.2.2.2.2.2.2.2.2.2.2.2.2.2.2.2.2.2.2.2.2.2.2.1 pc lo st h mc ms off tgt hd ht (k1 X hX)
theorem k_tswIn {G : kG} {y : Nat} {C : kCl} {P : kO → kH → Prop} {pc : Nat} {lo : kL} {st : List Value} {h : kH} {mc ms : Nat} {dflt a b : Int} {offs : Array Int} {len : Nat} {x : Int32} {off : Int} {tgt : Nat} (hd : kI y pc = some (.tableswitch dflt a b offs, len)) (h1 : ¬ x.toInt < a) (h2 : ¬ b < x.toInt) (ho : offs[(x.toInt - a).toNat]? = some off) (ht : (pc : Int) + off = (tgt : Int)) (k1 : (kWP G y C P (tgt) (lo) (st) (h) (mc) (ms))) : kWP G y C P (pc) (lo) (.int x :: st) (h) (mc) (ms) := fun X hX => hX.2.2.2.2.2.2.2.2.2.2.2.2.2.2.2.2.2.2.2.2.2.2.2.2.2.2.2.2.2.2.2.2.2.2.2.2.2.2.2.2.2.2.2.2.2.2.2.1 pc lo st h mc ms dflt a b offs len x off tgt hd h1 h2 ho ht (k1 X hX)
theorem k_tswOut {G : kG} {y : Nat} {C : kCl} {P : kO → kH → Prop} {pc : Nat} {lo : kL} {st : List Value} {h : kH} {mc ms : Nat} {dflt a b : Int} {offs : Array Int} {len : Nat} {x : Int32} {tgt : Nat} (hd : kI y pc = some (.tableswitch dflt a b offs, len)) (h1 : x.toInt < a ∨ b < x.toInt) (ht : (pc : Int) + dflt = (tgt : Int)) (k1 : (kWP G y C P (tgt) (lo) (st) (h) (mc) (ms))) : kWP G y C P (pc) (lo) (.int x :: st) (h) (mc) (ms) := fun X hX => hX.2.2.2.2.2.2.2.2.2.2.2.2.2.2.2.2.2.2.2.2.2.2.2.2.2.2.2.2.2.2.2.2.2.2.2.2.2.2.2.2.2.2.2.2.2.2.2.2.1 pc lo st h mc ms dflt a b offs len x tgt hd h1 ht (k1 X hX)
theorem k_lsw {G : kG} {y : Nat} {C : kCl} {P : kO → kH → Prop} {pc : Nat} {lo : kL} {st : List Value} {h : kH} {mc ms : Nat} {dflt : Int} {ps : Array (Int × Int)} {len : Nat} {x : Int32} {off : Int} {tgt : Nat} (hd : kI y pc = some (.lookupswitch dflt ps, len)) (hp : (ps.toList.zip (ps.toList.drop 1)).all (fun (a, next) => a.1 < next.1) = true) (ho : Op.lookupswitch.offset ps.toList dflt x.toInt = off) (ht : (pc : Int) + off = (tgt : Int)) (k1 : (kWP G y C P (tgt) (lo) (st) (h) (mc) (ms))) : kWP G y C P (pc) (lo) (.int x :: st) (h) (mc) (ms) := fun X hX => hX.2.2.2.2.2.2.2.2.2.2.2.2.2.2.2.2.2.2.2.2.2.2.2.2.2.2.2.2.2.2.2.2.2.2.2.2.2.2.2.2.2.2.2.2.2.2.2.2.2.1 pc lo st h mc ms dflt ps len x off tgt hd hp ho ht (k1 X hX)
theorem k_getf {G : kG} {y : Nat} {C : kCl} {P : kO → kH → Prop} {pc : Nat} {lo : kL} {st : List Value} {h : kH} {mc ms : Nat} {i a ci k : Nat} {fs : List Value} {v : Value} (hd : kI y pc = some (.getfield i, 3)) (hf : kFld (kCn y) i = some (ci, k)) (ha : h a = some (kOb ci fs)) (hv : fs[k]? = some v) (k1 : (kWP G y C P (pc + 3) (lo) (v :: st) (h) (mc) (ms))) : kWP G y C P (pc) (lo) (.ref a :: st) (h) (mc) (ms) := fun X hX => hX.2.2.2.2.2.2.2.2.2.2.2.2.2.2.2.2.2.2.2.2.2.2.2.2.2.2.2.2.2.2.2.2.2.2.2.2.2.2.2.2.2.2.2.2.2.2.2.2.2.2.1 pc lo st h mc ms i a ci k fs v hd hf ha hv (k1 X hX)
theorem k_iald {G : kG} {y : Nat} {C : kCl} {P : kO → kH → Prop} {pc : Nat} {lo : kL} {st : List Value} {h : kH} {mc ms : Nat} {a n : Nat} {f : Nat → Int32} {i : Int32} (hd : kI y pc = some (.iaload, 1)) (ha : h a = some (kAI 0 n f)) (hi : vp_in i n) (k1 : (kWP G y C P (pc + 1) (lo) (.int (f i.toNatClampNeg) :: st) (h) (mc) (ms))) : kWP G y C P (pc) (lo) (.int i :: .ref a :: st) (h) (mc) (ms) := fun X hX => hX.2.2.2.2.2.2.2.2.2.2.2.2.2.2.2.2.2.2.2.2.2.2.2.2.2.2.2.2.2.2.2.2.2.2.2.2.2.2.2.2.2.2.2.2.2.2.2.2.2.2.2.1 pc lo st h mc ms a n f i hd ha hi (k1 X hX)
theorem k_zald {G : kG} {y : Nat} {C : kCl} {P : kO → kH → Prop} {pc : Nat} {lo : kL} {st : List Value} {h : kH} {mc ms : Nat} {a n : Nat} {f : Nat → Int32} {i : Int32} (hd : kI y pc = some (.baload, 1)) (ha : h a = some (kAI 1 n f)) (hi : vp_in i n) (k1 : (kWP G y C P (pc + 1) (lo) (.int (f i.toNatClampNeg) :: st) (h) (mc) (ms))) : kWP G y C P (pc) (lo) (.int i :: .ref a :: st) (h) (mc) (ms) := fun X hX => hX.2.2.2.2.2.2.2.2.2.2.2.2.2.2.2.2.2.2.2.2.2.2.2.2.2.2.2.2.2.2.2.2.2.2.2.2.2.2.2.2.2.2.2.2.2.2.2.2.2.2.2.2.1 pc lo st h mc ms a n f i hd ha hi (k1 X hX)
theorem k_lald {G : kG} {y : Nat} {C : kCl} {P : kO → kH → Prop} {pc : Nat} {lo : kL} {st : List Value} {h : kH} {mc ms : Nat} {a n : Nat} {f : Nat → Int64} {i : Int32} (hd : kI y pc = some (.laload, 1)) (ha : h a = some (kAJ 2 n f)) (hi : vp_in i n) (k1 : (kWP G y C P (pc + 1) (lo) (.long (f i.toNatClampNeg) :: st) (h) (mc) (ms))) : kWP G y C P (pc) (lo) (.int i :: .ref a :: st) (h) (mc) (ms) := fun X hX => hX.2.2.2.2.2.2.2.2.2.2.2.2.2.2.2.2.2.2.2.2.2.2.2.2.2.2.2.2.2.2.2.2.2.2.2.2.2.2.2.2.2.2.2.2.2.2.2.2.2.2.2.2.2.1 pc lo st h mc ms a n f i hd ha hi (k1 X hX)
theorem k_aald {G : kG} {y : Nat} {C : kCl} {P : kO → kH → Prop} {pc : Nat} {lo : kL} {st : List Value} {h : kH} {mc ms : Nat} {a n k : Nat} {N : String} {f : Nat → Option Nat} {i : Int32} (hd : kI y pc = some (.aaload, 1)) (hk : kArt[k]? = some (.object N)) (ha : h a = some (kAR k n f)) (hi : vp_in i n) (k1 : (kWP G y C P (pc + 1) (lo) (va_rf (f i.toNatClampNeg) :: st) (h) (mc) (ms))) : kWP G y C P (pc) (lo) (.int i :: .ref a :: st) (h) (mc) (ms) := fun X hX => hX.2.2.2.2.2.2.2.2.2.2.2.2.2.2.2.2.2.2.2.2.2.2.2.2.2.2.2.2.2.2.2.2.2.2.2.2.2.2.2.2.2.2.2.2.2.2.2.2.2.2.2.2.2.2.1 pc lo st h mc ms a n k N f i hd hk ha hi (k1 X hX)
theorem k_alen {G : kG} {y : Nat} {C : kCl} {P : kO → kH → Prop} {pc : Nat} {lo : kL} {st : List Value} {h : kH} {mc ms : Nat} {a k : Nat} {x : vp_A} {v : Int32} (hd : kI y pc = some (.arraylength, 1)) (ha : h a = some (.inl (k, x))) (hk : k < kArt.length) (hv : Int32.ofNat x.1 = v) (k1 : (kWP G y C P (pc + 1) (lo) (.int v :: st) (h) (mc) (ms))) : kWP G y C P (pc) (lo) (.ref a :: st) (h) (mc) (ms) := fun X hX => hX.2.2.2.2.2.2.2.2.2.2.2.2.2.2.2.2.2.2.2.2.2.2.2.2.2.2.2.2.2.2.2.2.2.2.2.2.2.2.2.2.2.2.2.2.2.2.2.2.2.2.2.2.2.2.2.1 pc lo st h mc ms a k x v hd ha hk hv (k1 X hX)
theorem k_sald {G : kG} {y : Nat} {C : kCl} {P : kO → kH → Prop} {pc : Nat} {lo : kL} {st : List Value} {h : kH} {mc ms : Nat} {i : Int32} (hd : kI y pc = some (.iaload, 1)) (hi : vp_in i G.2.1) (k1 : (kWP G y C P (pc + 1) (lo) (.int (G.2.2 i.toNatClampNeg) :: st) (h) (mc) (ms))) : kWP G y C P (pc) (lo) (.int i :: .ref G.1 :: st) (h) (mc) (ms) := fun X hX => hX.2.2.2.2.2.2.2.2.2.2.2.2.2.2.2.2.2.2.2.2.2.2.2.2.2.2.2.2.2.2.2.2.2.2.2.2.2.2.2.2.2.2.2.2.2.2.2.2.2.2.2.2.2.2.2.2.1 pc lo st h mc ms i hd hi (k1 X hX)
theorem k_slen {G : kG} {y : Nat} {C : kCl} {P : kO → kH → Prop} {pc : Nat} {lo : kL} {st : List Value} {h : kH} {mc ms : Nat} {v : Int32} (hd : kI y pc = some (.arraylength, 1)) (hv : Int32.ofNat G.2.1 = v) (k1 : (kWP G y C P (pc + 1) (lo) (.int v :: st) (h) (mc) (ms))) : kWP G y C P (pc) (lo) (.ref G.1 :: st) (h) (mc) (ms) := fun X hX => hX.2.2.2.2.2.2.2.2.2.2.2.2.2.2.2.2.2.2.2.2.2.2.2.2.2.2.2.2.2.2.2.2.2.2.2.2.2.2.2.2.2.2.2.2.2.2.2.2.2.2.2.2.2.2.2.2.2.1 pc lo st h mc ms v hd hv (k1 X hX)
theorem k_putf {G : kG} {y : Nat} {C : kCl} {P : kO → kH → Prop} {pc : Nat} {lo : kL} {st : List Value} {h : kH} {mc ms : Nat} {i a ci k : Nat} {fs fs2 : List Value} {v : Value} (hd : kI y pc = some (.putfield i, 3)) (hf : kFld (kCn y) i = some (ci, k)) (ha : h a = some (kOb ci fs)) (hp : kPut y ci k = true) (hl : k < fs.length) (hn : narrow (kFty ci k) v = v) (hfit : fits (kFty ci k) v = true) (he : fs.set k v = fs2) (k1 : (∀ (h2 : kH), (h2 = kset h a (kOb ci fs2)) → kWP G y C P (pc + 3) (lo) (st) (h2) (mc) (ms))) : kWP G y C P (pc) (lo) (v :: .ref a :: st) (h) (mc) (ms) := fun X hX => hX.2.2.2.2.2.2.2.2.2.2.2.2.2.2.2.2.2.2.2.2.2.2.2.2.2.2.2.2.2.2.2.2.2.2.2.2.2.2.2.2.2.2.2.2.2.2.2.2.2.2.2.2.2.2.2.2.2.2.1 pc lo st h mc ms i a ci k fs fs2 v hd hf ha hp hl hn hfit he (fun h2 eh => k1 h2 eh X hX)
theorem k_iast {G : kG} {y : Nat} {C : kCl} {P : kO → kH → Prop} {pc : Nat} {lo : kL} {st : List Value} {h : kH} {mc ms : Nat} {a n : Nat} {f : Nat → Int32} {i x : Int32} (hd : kI y pc = some (.iastore, 1)) (ha : h a = some (kAI 0 n f)) (hi : vp_in i n) (k1 : (∀ (h2 : kH), (h2 = kset h a (kAI 0 n (upd f i.toNatClampNeg x))) → kWP G y C P (pc + 1) (lo) (st) (h2) (mc) (ms))) : kWP G y C P (pc) (lo) (.int x :: .int i :: .ref a :: st) (h) (mc) (ms) := fun X hX => hX.2.2.2.2.2.2.2.2.2.2.2.2.2.2.2.2.2.2.2.2.2.2.2.2.2.2.2.2.2.2.2.2.2.2.2.2.2.2.2.2.2.2.2.2.2.2.2.2.2.2.2.2.2.2.2.2.2.2.2.1 pc lo st h mc ms a n f i x hd ha hi (fun h2 eh => k1 h2 eh X hX)
theorem k_zast {G : kG} {y : Nat} {C : kCl} {P : kO → kH → Prop} {pc : Nat} {lo : kL} {st : List Value} {h : kH} {mc ms : Nat} {a n : Nat} {f : Nat → Int32} {i x : Int32} (hd : kI y pc = some (.bastore, 1)) (ha : h a = some (kAI 1 n f)) (hi : vp_in i n) (k1 : (∀ (h2 : kH), (h2 = kset h a (kAI 1 n (upd f i.toNatClampNeg (vp_nar .boolean x)))) → kWP G y C P (pc + 1) (lo) (st) (h2) (mc) (ms))) : kWP G y C P (pc) (lo) (.int x :: .int i :: .ref a :: st) (h) (mc) (ms) := fun X hX => hX.2.2.2.2.2.2.2.2.2.2.2.2.2.2.2.2.2.2.2.2.2.2.2.2.2.2.2.2.2.2.2.2.2.2.2.2.2.2.2.2.2.2.2.2.2.2.2.2.2.2.2.2.2.2.2.2.2.2.2.2.1 pc lo st h mc ms a n f i x hd ha hi (fun h2 eh => k1 h2 eh X hX)
theorem k_last {G : kG} {y : Nat} {C : kCl} {P : kO → kH → Prop} {pc : Nat} {lo : kL} {st : List Value} {h : kH} {mc ms : Nat} {a n : Nat} {f : Nat → Int64} {i : Int32} {x : Int64} (hd : kI y pc = some (.lastore, 1)) (ha : h a = some (kAJ 2 n f)) (hi : vp_in i n) (k1 : (∀ (h2 : kH), (h2 = kset h a (kAJ 2 n (vp_updL f i.toNatClampNeg x))) → kWP G y C P (pc + 1) (lo) (st) (h2) (mc) (ms))) : kWP G y C P (pc) (lo) (.long x :: .int i :: .ref a :: st) (h) (mc) (ms) := fun X hX => hX.2.2.2.2.2.2.2.2.2.2.2.2.2.2.2.2.2.2.2.2.2.2.2.2.2.2.2.2.2.2.2.2.2.2.2.2.2.2.2.2.2.2.2.2.2.2.2.2.2.2.2.2.2.2.2.2.2.2.2.2.2.1 pc lo st h mc ms a n f i x hd ha hi (fun h2 eh => k1 h2 eh X hX)
theorem k_aast {G : kG} {y : Nat} {C : kCl} {P : kO → kH → Prop} {pc : Nat} {lo : kL} {st : List Value} {h : kH} {mc ms : Nat} {a n k v ci : Nat} {fs : List Value} {r : vw_C} {f : Nat → Option Nat} {i : Int32} (hd : kI y pc = some (.aastore, 1)) (hk : kArt[k]? = some (.object r.1)) (ha : h a = some (kAR k n f)) (hv : h v = some (kOb ci fs)) (hcl : classes[ci]? = some r) (hi : vp_in i n) (k1 : (∀ (h2 : kH), (h2 = kset h a (kAR k n (va_up f i.toNatClampNeg (some v)))) → kWP G y C P (pc + 1) (lo) (st) (h2) (mc) (ms))) : kWP G y C P (pc) (lo) (.ref v :: .int i :: .ref a :: st) (h) (mc) (ms) := fun X hX => hX.2.2.2.2.2.2.2.2.2.2.2.2.2.2.2.2.2.2.2.2.2.2.2.2.2.2.2.2.2.2.2.2.2.2.2.2.2.2.2.2.2.2.2.2.2.2.2.2.2.2.2.2.2.2.2.2.2.2.2.2.2.2.1 pc lo st h mc ms a n k v ci fs r f i hd hk ha hv hcl hi (fun h2 eh => k1 h2 eh X hX)
theorem k_copyi {G : kG} {y : Nat} {C : kCl} {P : kO → kH → Prop} {pc : Nat} {lo : kL} {st : List Value} {h : kH} {mc ms : Nat} {i a0 a n0 n1 : Nat} {f g : Nat → Int32} {sp dp n : Int32} (hd : kI y pc = some (.invokestatic i, 3)) (hm : kNat (kCn y) i = some 0) (ha0 : h a0 = some (kAI 0 n0 f)) (ha1 : h a = some (kAI 0 n1 g)) (h1 : ¬ sp < 0) (h2 : ¬ dp < 0) (h3 : ¬ n < 0) (h4 : sp.toNatClampNeg + n.toNatClampNeg ≤ n0) (h5 : dp.toNatClampNeg + n.toNatClampNeg ≤ n1) (hw : (st.map fun v => v.category).sum ≤ 8) (k1 : (∀ (h2 : kH), (h2 = kset h a (kAI 0 n1 (va_cpy f g sp.toNatClampNeg dp.toNatClampNeg n.toNatClampNeg))) → kWP G y C P (pc + 3) (lo) (st) (h2) (mc) (ms))) : kWP G y C P (pc) (lo) (.int n :: .int dp :: .ref a :: .int sp :: .ref a0 :: st) (h) (mc) (ms) := fun X hX => hX.2.2.2.2.2.2.2.2.2.2.2.2.2.2.2.2.2.2.2.2.2.2.2.2.2.2.2.2.2.2.2.2.2.2.2.2.2.2.2.2.2.2.2.2.2.2.2.2.2.2.2.2.2.2.2.2.2.2.2.2.2.2.2.1 pc lo st h mc ms i a0 a n0 n1 f g sp dp n hd hm ha0 ha1 h1 h2 h3 h4 h5 hw (fun h2 eh => k1 h2 eh X hX)
theorem k_mmin {G : kG} {y : Nat} {C : kCl} {P : kO → kH → Prop} {pc : Nat} {lo : kL} {st : List Value} {h : kH} {mc ms : Nat} {i : Nat} {x z : Int32} (hd : kI y pc = some (.invokestatic i, 3)) (hm : kNat (kCn y) i = some 1) (hw : (st.map fun v => v.category).sum ≤ 8) (k1 : (kWP G y C P (pc + 3) (lo) (.int (if z < x then z else x) :: st) (h) (mc) (ms))) : kWP G y C P (pc) (lo) (.int z :: .int x :: st) (h) (mc) (ms) := fun X hX => hX.2.2.2.2.2.2.2.2.2.2.2.2.2.2.2.2.2.2.2.2.2.2.2.2.2.2.2.2.2.2.2.2.2.2.2.2.2.2.2.2.2.2.2.2.2.2.2.2.2.2.2.2.2.2.2.2.2.2.2.2.2.2.2.2.1 pc lo st h mc ms i x z hd hm hw (k1 X hX)
theorem k_mmax {G : kG} {y : Nat} {C : kCl} {P : kO → kH → Prop} {pc : Nat} {lo : kL} {st : List Value} {h : kH} {mc ms : Nat} {i : Nat} {x z : Int32} (hd : kI y pc = some (.invokestatic i, 3)) (hm : kNat (kCn y) i = some 2) (hw : (st.map fun v => v.category).sum ≤ 8) (k1 : (kWP G y C P (pc + 3) (lo) (.int (if x < z then z else x) :: st) (h) (mc) (ms))) : kWP G y C P (pc) (lo) (.int z :: .int x :: st) (h) (mc) (ms) := fun X hX => hX.2.2.2.2.2.2.2.2.2.2.2.2.2.2.2.2.2.2.2.2.2.2.2.2.2.2.2.2.2.2.2.2.2.2.2.2.2.2.2.2.2.2.2.2.2.2.2.2.2.2.2.2.2.2.2.2.2.2.2.2.2.2.2.2.2.1 pc lo st h mc ms i x z hd hm hw (k1 X hX)
theorem k_new {G : kG} {y : Nat} {C : kCl} {P : kO → kH → Prop} {pc : Nat} {lo : kL} {st : List Value} {h : kH} {mc ms : Nat} {i ci N : Nat} (hd : kI y pc = some (.new i, 3)) (hf : kNew (kCn y) i = some ci) (hN : kSz ci = N) (hmc : 1 ≤ mc) (hms : N ≤ ms) (k1 : (∀ (q : Nat) (h2 : kH), (h q = none) → (h2 = kset h q (kOb ci (kDef ci))) → kWP G y C P (pc + 3) (lo) (.ref q :: st) (h2) (mc - 1) (ms - N))) : kWP G y C P (pc) (lo) (st) (h) (mc) (ms) := fun X hX => hX.2.2.2.2.2.2.2.2.2.2.2.2.2.2.2.2.2.2.2.2.2.2.2.2.2.2.2.2.2.2.2.2.2.2.2.2.2.2.2.2.2.2.2.2.2.2.2.2.2.2.2.2.2.2.2.2.2.2.2.2.2.2.2.2.2.2.1 pc lo st h mc ms i ci N hd hf hN hmc hms (fun q h2 hq eh => k1 q h2 hq eh X hX)
theorem k_newi {G : kG} {y : Nat} {C : kCl} {P : kO → kH → Prop} {pc : Nat} {lo : kL} {st : List Value} {h : kH} {mc ms : Nat} {n : Int32} {N : Nat} (hd : kI y pc = some (.newarray .int, 2)) (hn : ¬ n < 0) (hN : n.toNatClampNeg = N) (hb9 : N ≤ 60000) (hmc : 1 ≤ mc) (hms : N ≤ ms) (k1 : (∀ (q : Nat) (h2 : kH), (h q = none) → (h2 = kset h q (kAI 0 N (fun _ => 0))) → kWP G y C P (pc + 2) (lo) (.ref q :: st) (h2) (mc - 1) (ms - N))) : kWP G y C P (pc) (lo) (.int n :: st) (h) (mc) (ms) := fun X hX => hX.2.2.2.2.2.2.2.2.2.2.2.2.2.2.2.2.2.2.2.2.2.2.2.2.2.2.2.2.2.2.2.2.2.2.2.2.2.2.2.2.2.2.2.2.2.2.2.2.2.2.2.2.2.2.2.2.2.2.2.2.2.2.2.2.2.2.2.1 pc lo st h mc ms n N hd hn hN hb9 hmc hms (fun q h2 hq eh => k1 q h2 hq eh X hX)
theorem k_newz {G : kG} {y : Nat} {C : kCl} {P : kO → kH → Prop} {pc : Nat} {lo : kL} {st : List Value} {h : kH} {mc ms : Nat} {n : Int32} {N : Nat} (hd : kI y pc = some (.newarray .boolean, 2)) (hn : ¬ n < 0) (hN : n.toNatClampNeg = N) (hb9 : N ≤ 60000) (hmc : 1 ≤ mc) (hms : N ≤ ms) (k1 : (∀ (q : Nat) (h2 : kH), (h q = none) → (h2 = kset h q (kAI 1 N (fun _ => 0))) → kWP G y C P (pc + 2) (lo) (.ref q :: st) (h2) (mc - 1) (ms - N))) : kWP G y C P (pc) (lo) (.int n :: st) (h) (mc) (ms) := fun X hX => hX.2.2.2.2.2.2.2.2.2.2.2.2.2.2.2.2.2.2.2.2.2.2.2.2.2.2.2.2.2.2.2.2.2.2.2.2.2.2.2.2.2.2.2.2.2.2.2.2.2.2.2.2.2.2.2.2.2.2.2.2.2.2.2.2.2.2.2.2.1 pc lo st h mc ms n N hd hn hN hb9 hmc hms (fun q h2 hq eh => k1 q h2 hq eh X hX)
theorem k_newj {G : kG} {y : Nat} {C : kCl} {P : kO → kH → Prop} {pc : Nat} {lo : kL} {st : List Value} {h : kH} {mc ms : Nat} {n : Int32} {N : Nat} (hd : kI y pc = some (.newarray .long, 2)) (hn : ¬ n < 0) (hN : n.toNatClampNeg = N) (hb9 : N ≤ 60000) (hmc : 1 ≤ mc) (hms : N ≤ ms) (k1 : (∀ (q : Nat) (h2 : kH), (h q = none) → (h2 = kset h q (kAJ 2 N (fun _ => 0))) → kWP G y C P (pc + 2) (lo) (.ref q :: st) (h2) (mc - 1) (ms - N))) : kWP G y C P (pc) (lo) (.int n :: st) (h) (mc) (ms) := fun X hX => hX.2.2.2.2.2.2.2.2.2.2.2.2.2.2.2.2.2.2.2.2.2.2.2.2.2.2.2.2.2.2.2.2.2.2.2.2.2.2.2.2.2.2.2.2.2.2.2.2.2.2.2.2.2.2.2.2.2.2.2.2.2.2.2.2.2.2.2.2.2.1 pc lo st h mc ms n N hd hn hN hb9 hmc hms (fun q h2 hq eh => k1 q h2 hq eh X hX)
theorem k_newq {G : kG} {y : Nat} {C : kCl} {P : kO → kH → Prop} {pc : Nat} {lo : kL} {st : List Value} {h : kH} {mc ms : Nat} {i k : Nat} {n : Int32} {N : Nat} (hd : kI y pc = some (.anewarray i, 3)) (hf : kANew (kCn y) i = some k) (hn : ¬ n < 0) (hN : n.toNatClampNeg = N) (hb9 : N ≤ 60000) (hmc : 1 ≤ mc) (hms : N ≤ ms) (k1 : (∀ (q : Nat) (h2 : kH), (h q = none) → (h2 = kset h q (kAR k N (fun _ => none))) → kWP G y C P (pc + 3) (lo) (.ref q :: st) (h2) (mc - 1) (ms - N))) : kWP G y C P (pc) (lo) (.int n :: st) (h) (mc) (ms) := fun X hX => hX.2.2.2.2.2.2.2.2.2.2.2.2.2.2.2.2.2.2.2.2.2.2.2.2.2.2.2.2.2.2.2.2.2.2.2.2.2.2.2.2.2.2.2.2.2.2.2.2.2.2.2.2.2.2.2.2.2.2.2.2.2.2.2.2.2.2.2.2.2.2.1 pc lo st h mc ms i k n N hd hf hn hN hb9 hmc hms (fun q h2 hq eh => k1 q h2 hq eh X hX)
theorem k_objinit {G : kG} {y : Nat} {C : kCl} {P : kO → kH → Prop} {pc : Nat} {lo : kL} {st : List Value} {h : kH} {mc ms : Nat} {i a : Nat} (hd : kI y pc = some (.invokespecial i, 3)) (hm : kObj (kCn y) i = true) (hw : (st.map fun v => v.category).sum ≤ 8) (k1 : (kWP G y C P (pc + 3) (lo) (st) (h) (mc) (ms))) : kWP G y C P (pc) (lo) (.ref a :: st) (h) (mc) (ms) := fun X hX => hX.2.2.2.2.2.2.2.2.2.2.2.2.2.2.2.2.2.2.2.2.2.2.2.2.2.2.2.2.2.2.2.2.2.2.2.2.2.2.2.2.2.2.2.2.2.2.2.2.2.2.2.2.2.2.2.2.2.2.2.2.2.2.2.2.2.2.2.2.2.2.2.1 pc lo st h mc ms i a hd hm hw (k1 X hX)
theorem k_calls {G : kG} {y : Nat} {C : kCl} {P : kO → kH → Prop} {pc : Nat} {lo : kL} {st : List Value} {h : kH} {mc ms : Nat} {i y1 mc1 ms1 mc2 ms2 : Nat} {As : List Value} {st0 : List Value} {P1 : kO → kH → Prop} (hd : kI y pc = some (.invokestatic i, 3)) (hm : kMth (kCn y) i = some y1) (hk : kKin y1 = 0) (hn : As.length = kArg y1) (hst : st0 = As.reverse ++ st) (hw : (st.map fun v => v.category).sum ≤ 8) (hC : C y1 As h mc1 ms1 P1) (hno : ∀ E h1, ¬ P1 (.inr E) h1) (hm1 : mc1 + mc2 ≤ mc) (hm2 : ms1 + ms2 ≤ ms) (k1 : (∀ (v : Option Value) (h1 : kH), (P1 (.inl v) h1) → kWP G y C P (pc + 3) (lo) (v.toList ++ st) (h1) (mc2) (ms2))) : kWP G y C P (pc) (lo) (st0) (h) (mc) (ms) := fun X hX => hX.2.2.2.2.2.2.2.2.2.2.2.2.2.2.2.2.2.2.2.2.2.2.2.2.2.2.2.2.2.2.2.2.2.2.2.2.2.2.2.2.2.2.2.2.2.2.2.2.2.2.2.2.2.2.2.2.2.2.2.2.2.2.2.2.2.2.2.2.2.2.2.2.1 pc lo st h mc ms i y1 mc1 ms1 mc2 ms2 As st0 P1 hd hm hk hn hst hw hC hno hm1 hm2 (fun v h1 hP => k1 v h1 hP X hX)
theorem k_callv {G : kG} {y : Nat} {C : kCl} {P : kO → kH → Prop} {pc : Nat} {lo : kL} {st : List Value} {h : kH} {mc ms : Nat} {i y1 mc1 ms1 mc2 ms2 : Nat} {As : List Value} {st0 : List Value} {P1 : kO → kH → Prop} {a ci : Nat} {fs : List Value} (hd : kI y pc = some (.invokevirtual i, 3)) (hm : kMth (kCn y) i = some y1) (hk : kKin y1 = 1) (hn : As.length = kArg y1 + 1) (hst : st0 = As.reverse ++ st) (hAs : As[0]? = some (.ref a)) (ha : h a = some (kOb ci fs)) (hci : kRcv y1 = some ci) (hw : (st.map fun v => v.category).sum ≤ 8) (hC : C y1 As h mc1 ms1 P1) (hno : ∀ E h1, ¬ P1 (.inr E) h1) (hm1 : mc1 + mc2 ≤ mc) (hm2 : ms1 + ms2 ≤ ms) (k1 : (∀ (v : Option Value) (h1 : kH), (P1 (.inl v) h1) → kWP G y C P (pc + 3) (lo) (v.toList ++ st) (h1) (mc2) (ms2))) : kWP G y C P (pc) (lo) (st0) (h) (mc) (ms) := fun X hX => hX.2.2.2.2.2.2.2.2.2.2.2.2.2.2.2.2.2.2.2.2.2.2.2.2.2.2.2.2.2.2.2.2.2.2.2.2.2.2.2.2.2.2.2.2.2.2.2.2.2.2.2.2.2.2.2.2.2.2.2.2.2.2.2.2.2.2.2.2.2.2.2.2.2.1 pc lo st h mc ms i y1 mc1 ms1 mc2 ms2 As st0 P1 a ci fs hd hm hk hn hst hAs ha hci hw hC hno hm1 hm2 (fun v h1 hP => k1 v h1 hP X hX)
theorem k_calli {G : kG} {y : Nat} {C : kCl} {P : kO → kH → Prop} {pc : Nat} {lo : kL} {st : List Value} {h : kH} {mc ms : Nat} {i y1 mc1 ms1 mc2 ms2 : Nat} {As : List Value} {st0 : List Value} {P1 : kO → kH → Prop} {a : Nat} (hd : kI y pc = some (.invokespecial i, 3)) (hm : kMth (kCn y) i = some y1) (hk : kKin y1 = 2) (hn : As.length = kArg y1 + 1) (hst : st0 = As.reverse ++ st) (hAs : As[0]? = some (.ref a)) (hw : (st.map fun v => v.category).sum ≤ 8) (hC : C y1 As h mc1 ms1 P1) (hno : ∀ E h1, ¬ P1 (.inr E) h1) (hm1 : mc1 + mc2 ≤ mc) (hm2 : ms1 + ms2 ≤ ms) (k1 : (∀ (v : Option Value) (h1 : kH), (P1 (.inl v) h1) → kWP G y C P (pc + 3) (lo) (v.toList ++ st) (h1) (mc2) (ms2))) : kWP G y C P (pc) (lo) (st0) (h) (mc) (ms) := fun X hX => hX.2.2.2.2.2.2.2.2.2.2.2.2.2.2.2.2.2.2.2.2.2.2.2.2.2.2.2.2.2.2.2.2.2.2.2.2.2.2.2.2.2.2.2.2.2.2.2.2.2.2.2.2.2.2.2.2.2.2.2.2.2.2.2.2.2.2.2.2.2.2.2.2.2.2.1 pc lo st h mc ms i y1 mc1 ms1 mc2 ms2 As st0 P1 a hd hm hk hn hst hAs hw hC hno hm1 hm2 (fun v h1 hP => k1 v h1 hP X hX)
theorem k_callx {G : kG} {y : Nat} {C : kCl} {P : kO → kH → Prop} {pc : Nat} {lo : kL} {st : List Value} {h : kH} {mc ms : Nat} {i y1 mc1 ms1 mc2 ms2 : Nat} {As : List Value} {st0 : List Value} {P1 : kO → kH → Prop} {a ci : Nat} {fs : List Value} (hd : kI y pc = some (.invokevirtual i, 3)) (hm : kMth (kCn y) i = some y1) (hk : kKin y1 = 1) (hn : As.length = kArg y1 + 1) (hst : st0 = As.reverse ++ st) (hAs : As[0]? = some (.ref a)) (ha : h a = some (kOb ci fs)) (hci : kRcv y1 = some ci) (hpl : kCls (kCn y1) = "RelationDesk") (hlw : kCls (kCn y) = "RelationDeskLaw") (hdl : ∀ E h1, P1 (.inr E) h1 → ∃ hp, kHan y pc E = some hp) (hw : (st.map fun v => v.category).sum ≤ 8) (hC : C y1 As h mc1 ms1 P1) (hm1 : mc1 + mc2 ≤ mc) (hm2 : ms1 + ms2 ≤ ms) (k1 : (∀ (v : Option Value) (h1 : kH), (P1 (.inl v) h1) → kWP G y C P (pc + 3) (lo) (v.toList ++ st) (h1) (mc2) (ms2))) (k2 : (∀ (E q hp : Nat) (h1 : kH), (P1 (.inr E) h1) → (kHan y pc E = some hp) → kWP G y C P (hp) (lo) ([.ref q]) (h1) (mc2) (ms2))) : kWP G y C P (pc) (lo) (st0) (h) (mc) (ms) := fun X hX => hX.2.2.2.2.2.2.2.2.2.2.2.2.2.2.2.2.2.2.2.2.2.2.2.2.2.2.2.2.2.2.2.2.2.2.2.2.2.2.2.2.2.2.2.2.2.2.2.2.2.2.2.2.2.2.2.2.2.2.2.2.2.2.2.2.2.2.2.2.2.2.2.2.2.2.2.1 pc lo st h mc ms i y1 mc1 ms1 mc2 ms2 As st0 P1 a ci fs hd hm hk hn hst hAs ha hci hpl hlw hdl hw hC hm1 hm2 (fun v h1 hP => k1 v h1 hP X hX) (fun E q hp h1 hP hh => k2 E q hp h1 hP hh X hX)
theorem k_ireturn {G : kG} {y : Nat} {C : kCl} {P : kO → kH → Prop} {pc : Nat} {lo : kL} {h : kH} {mc ms : Nat} {x : Int32} {ty : FieldType} (hd : kI y pc = some (.ireturn, 1)) (hr : kRet y = some ty) (hn : narrow ty (.int x) = .int x) (hP : P (.inl (some (.int x))) h) : kWP G y C P (pc) (lo) ([.int x]) (h) (mc) (ms) := fun X hX => hX.2.2.2.2.2.2.2.2.2.2.2.2.2.2.2.2.2.2.2.2.2.2.2.2.2.2.2.2.2.2.2.2.2.2.2.2.2.2.2.2.2.2.2.2.2.2.2.2.2.2.2.2.2.2.2.2.2.2.2.2.2.2.2.2.2.2.2.2.2.2.2.2.2.2.2.2.1 pc lo h mc ms x ty hd hr hn hP 
theorem k_areturn {G : kG} {y : Nat} {C : kCl} {P : kO → kH → Prop} {pc : Nat} {lo : kL} {h : kH} {mc ms : Nat} {v : Value} (hd : kI y pc = some (.areturn, 1)) (hr : kRrf y = true) (hv : v.isRef = true) (hP : P (.inl (some v)) h) : kWP G y C P (pc) (lo) ([v]) (h) (mc) (ms) := fun X hX => hX.2.2.2.2.2.2.2.2.2.2.2.2.2.2.2.2.2.2.2.2.2.2.2.2.2.2.2.2.2.2.2.2.2.2.2.2.2.2.2.2.2.2.2.2.2.2.2.2.2.2.2.2.2.2.2.2.2.2.2.2.2.2.2.2.2.2.2.2.2.2.2.2.2.2.2.2.2.1 pc lo h mc ms v hd hr hv hP 
theorem k_return {G : kG} {y : Nat} {C : kCl} {P : kO → kH → Prop} {pc : Nat} {lo : kL} {h : kH} {mc ms : Nat} (hd : kI y pc = some (.return_, 1)) (hr : kRet y = none) (hP : P (.inl none) h) : kWP G y C P (pc) (lo) ([]) (h) (mc) (ms) := fun X hX => hX.2.2.2.2.2.2.2.2.2.2.2.2.2.2.2.2.2.2.2.2.2.2.2.2.2.2.2.2.2.2.2.2.2.2.2.2.2.2.2.2.2.2.2.2.2.2.2.2.2.2.2.2.2.2.2.2.2.2.2.2.2.2.2.2.2.2.2.2.2.2.2.2.2.2.2.2.2.2.1 pc lo h mc ms hd hr hP 
theorem k_throw {G : kG} {y : Nat} {C : kCl} {P : kO → kH → Prop} {pc : Nat} {lo : kL} {st : List Value} {h : kH} {mc ms : Nat} {E : Nat} (hd : kThr y pc = some E) (hmc : 1 ≤ mc) (hms : 6 ≤ ms) (hw : (st.map fun v => v.category).sum ≤ 8) (hP : P (.inr E) h) : kWP G y C P (pc) (lo) (st) (h) (mc) (ms) := fun X hX => hX.2.2.2.2.2.2.2.2.2.2.2.2.2.2.2.2.2.2.2.2.2.2.2.2.2.2.2.2.2.2.2.2.2.2.2.2.2.2.2.2.2.2.2.2.2.2.2.2.2.2.2.2.2.2.2.2.2.2.2.2.2.2.2.2.2.2.2.2.2.2.2.2.2.2.2.2.2.2.2 pc lo st h mc ms E hd hmc hms hw hP 
/-- a method by its number, at most d calls deep -/
def kRun (G : kG) : Nat → kCl
  | 0 => fun _ _ _ _ _ _ => False
  | d + 1 => fun y As h mc ms P => (As.all (fun v => v.category == 1) = true ∧ As.length ≤ kMaxL y) ∧ kWP G y (kRun G d) P 0 (kEntry y As) [] h mc ms
theorem kWP.mono {G : kG} {y : Nat} {C : kCl} {P P' : kO → kH → Prop} {pc : Nat} {lo : kL} {st : List Value} {h : kH} {mc ms : Nat} (hP : ∀ o h1, P o h1 → P' o h1) (w : kWP G y C P pc lo st h mc ms) : kWP G y C P' pc lo st h mc ms := by
  intro X hX
  refine w X ?_
  unfold kClosed at hX ⊢
  refine ⟨hX.1, hX.2.1, hX.2.2.1, hX.2.2.2.1, hX.2.2.2.2.1, hX.2.2.2.2.2.1, hX.2.2.2.2.2.2.1, hX.2.2.2.2.2.2.2.1, hX.2.2.2.2.2.2.2.2.1, hX.2.2.2.2.2.2.2.2.2.1, hX.2.2.2.2.2.2.2.2.2.2.1, hX.2.2.2.2.2.2.2.2.2.2.2.1, hX.2.2.2.2.2.2.2.2.2.2.2.2.1, hX.2.2.2.2.2.2.2.2.2.2.2.2.2.1, hX.2.2.2.2.2.2.2.2.2.2.2.2.2.2.1, hX.2.2.2.2.2.2.2.2.2.2.2.2.2.2.2.1, hX.2.2.2.2.2.2.2.2.2.2.2.2.2.2.2.2.1, hX.2.2.2.2.2.2.2.2.2.2.2.2.2.2.2.2.2.1, hX.2.2.2.2.2.2.2.2.2.2.2.2.2.2.2.2.2.2.1, hX.2.2.2.2.2.2.2.2.2.2.2.2.2.2.2.2.2.2.2.1, hX.2.2.2.2.2.2.2.2.2.2.2.2.2.2.2.2.2.2.2.2.1, hX.2.2.2.2.2.2.2.2.2.2.2.2.2.2.2.2.2.2.2.2.2.1, hX.2.2.2.2.2.2.2.2.2.2.2.2.2.2.2.2.2.2.2.2.2.2.1, hX.2.2.2.2.2.2.2.2.2.2.2.2.2.2.2.2.2.2.2.2.2.2.2.1, hX.2.2.2.2.2.2.2.2.2.2.2.2.2.2.2.2.2.2.2.2.2.2.2.2.1, hX.2.2.2.2.2.2.2.2.2.2.2.2.2.2.2.2.2.2.2.2.2.2.2.2.2.1, hX.2.2.2.2.2.2.2.2.2.2.2.2.2.2.2.2.2.2.2.2.2.2.2.2.2.2.1, hX.2.2.2.2.2.2.2.2.2.2.2.2.2.2.2.2.2.2.2.2.2.2.2.2.2.2.2.1, hX.2.2.2.2.2.2.2.2.2.2.2.2.2.2.2.2.2.2.2.2.2.2.2.2.2.2.2.2.1, hX.2.2.2.2.2.2.2.2.2.2.2.2.2.2.2.2.2.2.2.2.2.2.2.2.2.2.2.2.2.1, hX.2.2.2.2.2.2.2.2.2.2.2.2.2.2.2.2.2.2.2.2.2.2.2.2.2.2.2.2.2.2.1, hX.2.2.2.2.2.2.2.2.2.2.2.2.2.2.2.2.2.2.2.2.2.2.2.2.2.2.2.2.2.2.2.1, hX.2.2.2.2.2.2.2.2.2.2.2.2.2.2.2.2.2.2.2.2.2.2.2.2.2.2.2.2.2.2.2.2.1, hX.2.2.2.2.2.2.2.2.2.2.2.2.2.2.2.2.2.2.2.2.2.2.2.2.2.2.2.2.2.2.2.2.2.1, hX.2.2.2.2.2.2.2.2.2.2.2.2.2.2.2.2.2.2.2.2.2.2.2.2.2.2.2.2.2.2.2.2.2.2.1, hX.2.2.2.2.2.2.2.2.2.2.2.2.2.2.2.2.2.2.2.2.2.2.2.2.2.2.2.2.2.2.2.2.2.2.2.1, hX.2.2.2.2.2.2.2.2.2.2.2.2.2.2.2.2.2.2.2.2.2.2.2.2.2.2.2.2.2.2.2.2.2.2.2.2.1, hX.2.2.2.2.2.2.2.2.2.2.2.2.2.2.2.2.2.2.2.2.2.2.2.2.2.2.2.2.2.2.2.2.2.2.2.2.2.1, hX.2.2.2.2.2.2.2.2.2.2.2.2.2.2.2.2.2.2.2.2.2.2.2.2.2.2.2.2.2.2.2.2.2.2.2.2.2.2.1, hX.2.2.2.2.2.2.2.2.2.2.2.2.2.2.2.2.2.2.2.2.2.2.2.2.2.2.2.2.2.2.2.2.2.2.2.2.2.2.2.1, hX.2.2.2.2.2.2.2.2.2.2.2.2.2.2.2.2.2.2.2.2.2.2.2.2.2.2.2.2.2.2.2.2.2.2.2.2.2.2.2.2.1, hX.2.2.2.2.2.2.2.2.2.2.2.2.2.2.2.2.2.2.2.2.2.2.2.2.2.2.2.2.2.2.2.2.2.2.2.2.2.2.2.2.2.1, hX.2.2.2.2.2.2.2.2.2.2.2.2.2.2.2.2.2.2.2.2.2.2.2.2.2.2.2.2.2.2.2.2.2.2.2.2.2.2.2.2.2.2.1, hX.2.2.2.2.2.2.2.2.2.2.2.2.2.2.2.2.2.2.2.2.2.2.2.2.2.2.2.2.2.2.2.2.2.2.2.2.2.2.2.2.2.2.2.1, hX.2.2.2.2.2.2.2.2.2.2.2.2.2.2.2.2.2.2.2.2.2.2.2.2.2.2.2.2.2.2.2.2.2.2.2.2.2.2.2.2.2.2.2.2.1, hX.2.2.2.2.2.2.2.2.2.2.2.2.2.2.2.2.2.2.2.2.2.2.2.2.2.2.2.2.2.2.2.2.2.2.2.2.2.2.2.2.2.2.2.2.2.1, hX.2.2.2.2.2.2.2.2.2.2.2.2.2.2.2.2.2.2.2.2.2.2.2.2.2.2.2.2.2.2.2.2.2.2.2.2.2.2.2.2.2.2.2.2.2.2.1, hX.2.2.2.2.2.2.2.2.2.2.2.2.2.2.2.2.2.2.2.2.2.2.2.2.2.2.2.2.2.2.2.2.2.2.2.2.2.2.2.2.2.2.2.2.2.2.2.1, hX.2.2.2.2.2.2.2.2.2.2.2.2.2.2.2.2.2.2.2.2.2.2.2.2.2.2.2.2.2.2.2.2.2.2.2.2.2.2.2.2.2.2.2.2.2.2.2.2.1, hX.2.2.2.2.2.2.2.2.2.2.2.2.2.2.2.2.2.2.2.2.2.2.2.2.2.2.2.2.2.2.2.2.2.2.2.2.2.2.2.2.2.2.2.2.2.2.2.2.2.1, hX.2.2.2.2.2.2.2.2.2.2.2.2.2.2.2.2.2.2.2.2.2.2.2.2.2.2.2.2.2.2.2.2.2.2.2.2.2.2.2.2.2.2.2.2.2.2.2.2.2.2.1, hX.2.2.2.2.2.2.2.2.2.2.2.2.2.2.2.2.2.2.2.2.2.2.2.2.2.2.2.2.2.2.2.2.2.2.2.2.2.2.2.2.2.2.2.2.2.2.2.2.2.2.2.1, hX.2.2.2.2.2.2.2.2.2.2.2.2.2.2.2.2.2.2.2.2.2.2.2.2.2.2.2.2.2.2.2.2.2.2.2.2.2.2.2.2.2.2.2.2.2.2.2.2.2.2.2.2.1, hX.2.2.2.2.2.2.2.2.2.2.2.2.2.2.2.2.2.2.2.2.2.2.2.2.2.2.2.2.2.2.2.2.2.2.2.2.2.2.2.2.2.2.2.2.2.2.2.2.2.2.2.2.2.1, hX.2.2.2.2.2.2.2.2.2.2.2.2.2.2.2.2.2.2.2.2.2.2.2.2.2.2.2.2.2.2.2.2.2.2.2.2.2.2.2.2.2.2.2.2.2.2.2.2.2.2.2.2.2.2.1, hX.2.2.2.2.2.2.2.2.2.2.2.2.2.2.2.2.2.2.2.2.2.2.2.2.2.2.2.2.2.2.2.2.2.2.2.2.2.2.2.2.2.2.2.2.2.2.2.2.2.2.2.2.2.2.2.1, hX.2.2.2.2.2.2.2.2.2.2.2.2.2.2.2.2.2.2.2.2.2.2.2.2.2.2.2.2.2.2.2.2.2.2.2.2.2.2.2.2.2.2.2.2.2.2.2.2.2.2.2.2.2.2.2.2.1, hX.2.2.2.2.2.2.2.2.2.2.2.2.2.2.2.2.2.2.2.2.2.2.2.2.2.2.2.2.2.2.2.2.2.2.2.2.2.2.2.2.2.2.2.2.2.2.2.2.2.2.2.2.2.2.2.2.2.1, hX.2.2.2.2.2.2.2.2.2.2.2.2.2.2.2.2.2.2.2.2.2.2.2.2.2.2.2.2.2.2.2.2.2.2.2.2.2.2.2.2.2.2.2.2.2.2.2.2.2.2.2.2.2.2.2.2.2.2.1, hX.2.2.2.2.2.2.2.2.2.2.2.2.2.2.2.2.2.2.2.2.2.2.2.2.2.2.2.2.2.2.2.2.2.2.2.2.2.2.2.2.2.2.2.2.2.2.2.2.2.2.2.2.2.2.2.2.2.2.2.1, hX.2.2.2.2.2.2.2.2.2.2.2.2.2.2.2.2.2.2.2.2.2.2.2.2.2.2.2.2.2.2.2.2.2.2.2.2.2.2.2.2.2.2.2.2.2.2.2.2.2.2.2.2.2.2.2.2.2.2.2.2.1, hX.2.2.2.2.2.2.2.2.2.2.2.2.2.2.2.2.2.2.2.2.2.2.2.2.2.2.2.2.2.2.2.2.2.2.2.2.2.2.2.2.2.2.2.2.2.2.2.2.2.2.2.2.2.2.2.2.2.2.2.2.2.1, hX.2.2.2.2.2.2.2.2.2.2.2.2.2.2.2.2.2.2.2.2.2.2.2.2.2.2.2.2.2.2.2.2.2.2.2.2.2.2.2.2.2.2.2.2.2.2.2.2.2.2.2.2.2.2.2.2.2.2.2.2.2.2.1, hX.2.2.2.2.2.2.2.2.2.2.2.2.2.2.2.2.2.2.2.2.2.2.2.2.2.2.2.2.2.2.2.2.2.2.2.2.2.2.2.2.2.2.2.2.2.2.2.2.2.2.2.2.2.2.2.2.2.2.2.2.2.2.2.1, hX.2.2.2.2.2.2.2.2.2.2.2.2.2.2.2.2.2.2.2.2.2.2.2.2.2.2.2.2.2.2.2.2.2.2.2.2.2.2.2.2.2.2.2.2.2.2.2.2.2.2.2.2.2.2.2.2.2.2.2.2.2.2.2.2.1, hX.2.2.2.2.2.2.2.2.2.2.2.2.2.2.2.2.2.2.2.2.2.2.2.2.2.2.2.2.2.2.2.2.2.2.2.2.2.2.2.2.2.2.2.2.2.2.2.2.2.2.2.2.2.2.2.2.2.2.2.2.2.2.2.2.2.1, hX.2.2.2.2.2.2.2.2.2.2.2.2.2.2.2.2.2.2.2.2.2.2.2.2.2.2.2.2.2.2.2.2.2.2.2.2.2.2.2.2.2.2.2.2.2.2.2.2.2.2.2.2.2.2.2.2.2.2.2.2.2.2.2.2.2.2.1, hX.2.2.2.2.2.2.2.2.2.2.2.2.2.2.2.2.2.2.2.2.2.2.2.2.2.2.2.2.2.2.2.2.2.2.2.2.2.2.2.2.2.2.2.2.2.2.2.2.2.2.2.2.2.2.2.2.2.2.2.2.2.2.2.2.2.2.2.1, hX.2.2.2.2.2.2.2.2.2.2.2.2.2.2.2.2.2.2.2.2.2.2.2.2.2.2.2.2.2.2.2.2.2.2.2.2.2.2.2.2.2.2.2.2.2.2.2.2.2.2.2.2.2.2.2.2.2.2.2.2.2.2.2.2.2.2.2.2.1, hX.2.2.2.2.2.2.2.2.2.2.2.2.2.2.2.2.2.2.2.2.2.2.2.2.2.2.2.2.2.2.2.2.2.2.2.2.2.2.2.2.2.2.2.2.2.2.2.2.2.2.2.2.2.2.2.2.2.2.2.2.2.2.2.2.2.2.2.2.2.1, hX.2.2.2.2.2.2.2.2.2.2.2.2.2.2.2.2.2.2.2.2.2.2.2.2.2.2.2.2.2.2.2.2.2.2.2.2.2.2.2.2.2.2.2.2.2.2.2.2.2.2.2.2.2.2.2.2.2.2.2.2.2.2.2.2.2.2.2.2.2.2.1, hX.2.2.2.2.2.2.2.2.2.2.2.2.2.2.2.2.2.2.2.2.2.2.2.2.2.2.2.2.2.2.2.2.2.2.2.2.2.2.2.2.2.2.2.2.2.2.2.2.2.2.2.2.2.2.2.2.2.2.2.2.2.2.2.2.2.2.2.2.2.2.2.1, hX.2.2.2.2.2.2.2.2.2.2.2.2.2.2.2.2.2.2.2.2.2.2.2.2.2.2.2.2.2.2.2.2.2.2.2.2.2.2.2.2.2.2.2.2.2.2.2.2.2.2.2.2.2.2.2.2.2.2.2.2.2.2.2.2.2.2.2.2.2.2.2.2.1, hX.2.2.2.2.2.2.2.2.2.2.2.2.2.2.2.2.2.2.2.2.2.2.2.2.2.2.2.2.2.2.2.2.2.2.2.2.2.2.2.2.2.2.2.2.2.2.2.2.2.2.2.2.2.2.2.2.2.2.2.2.2.2.2.2.2.2.2.2.2.2.2.2.2.1, hX.2.2.2.2.2.2.2.2.2.2.2.2.2.2.2.2.2.2.2.2.2.2.2.2.2.2.2.2.2.2.2.2.2.2.2.2.2.2.2.2.2.2.2.2.2.2.2.2.2.2.2.2.2.2.2.2.2.2.2.2.2.2.2.2.2.2.2.2.2.2.2.2.2.2.1, hX.2.2.2.2.2.2.2.2.2.2.2.2.2.2.2.2.2.2.2.2.2.2.2.2.2.2.2.2.2.2.2.2.2.2.2.2.2.2.2.2.2.2.2.2.2.2.2.2.2.2.2.2.2.2.2.2.2.2.2.2.2.2.2.2.2.2.2.2.2.2.2.2.2.2.2.1, ?_, ?_, ?_, ?_⟩
  · intro pc lo h mc ms x ty hd hr hn hP0
    exact hX.2.2.2.2.2.2.2.2.2.2.2.2.2.2.2.2.2.2.2.2.2.2.2.2.2.2.2.2.2.2.2.2.2.2.2.2.2.2.2.2.2.2.2.2.2.2.2.2.2.2.2.2.2.2.2.2.2.2.2.2.2.2.2.2.2.2.2.2.2.2.2.2.2.2.2.2.1 pc lo h mc ms x ty hd hr hn (hP _ _ hP0)
  · intro pc lo h mc ms v hd hr hv hP0
    exact hX.2.2.2.2.2.2.2.2.2.2.2.2.2.2.2.2.2.2.2.2.2.2.2.2.2.2.2.2.2.2.2.2.2.2.2.2.2.2.2.2.2.2.2.2.2.2.2.2.2.2.2.2.2.2.2.2.2.2.2.2.2.2.2.2.2.2.2.2.2.2.2.2.2.2.2.2.2.1 pc lo h mc ms v hd hr hv (hP _ _ hP0)
  · intro pc lo h mc ms hd hr hP0
    exact hX.2.2.2.2.2.2.2.2.2.2.2.2.2.2.2.2.2.2.2.2.2.2.2.2.2.2.2.2.2.2.2.2.2.2.2.2.2.2.2.2.2.2.2.2.2.2.2.2.2.2.2.2.2.2.2.2.2.2.2.2.2.2.2.2.2.2.2.2.2.2.2.2.2.2.2.2.2.2.1 pc lo h mc ms hd hr (hP _ _ hP0)
  · intro pc lo st h mc ms E hd hmc hms hw hP0
    exact hX.2.2.2.2.2.2.2.2.2.2.2.2.2.2.2.2.2.2.2.2.2.2.2.2.2.2.2.2.2.2.2.2.2.2.2.2.2.2.2.2.2.2.2.2.2.2.2.2.2.2.2.2.2.2.2.2.2.2.2.2.2.2.2.2.2.2.2.2.2.2.2.2.2.2.2.2.2.2.2 pc lo st h mc ms E hd hmc hms hw (hP _ _ hP0)
theorem kRun.mono {G : kG} {d y : Nat} {As : List Value} {h : kH} {mc ms : Nat} {P P' : kO → kH → Prop} (hP : ∀ o h1, P o h1 → P' o h1) (w : kRun G d y As h mc ms P) : kRun G d y As h mc ms P' := by
  cases d with
  | zero => exact w
  | succ d => exact ⟨w.1, kWP.mono hP w.2⟩
end
section
/-! what the small machine's states are on the real one -/
def kcv (aC : Nat → ClassId) : kE → va_E
  | .inl q => .inl (aC q.1, q.2)
  | .inr o => .inr o
def kR (D : va_G) (aC : Nat → ClassId) (lw : Nat) (h : kH) (H : Heap) : Prop := ∀ (a : Nat) (e : kE), h a = some e → lw ≤ a ∧ va_at D classes (a, kcv aC e) H
def kTys (aC : Nat → ClassId) : List (ClassId × FieldType) := kArt.zipIdx.map (fun q => (aC q.2, q.1))
theorem kTys_at {aC : Nat → ClassId} {k : Nat} {ty : FieldType} (h : kArt[k]? = some ty) : (kTys aC)[k]? = some (aC k, ty) := by
  simp [kTys, List.getElem?_map, List.getElem?_zipIdx, h]
theorem kR.one {D : va_G} {aC : Nat → ClassId} {lw : Nat} {h : kH} {H : Heap} (hR : kR D aC lw h H) {a : Nat} {e : kE} (ha : h a = some e) : va_P D classes [(a, kcv aC e)] H := by
  intro k q hk
  have hz : k < 1 := (List.getElem?_eq_some_iff.mp hk).1
  rw [show k = 0 by omega] at hk
  cases hk
  exact (hR a e ha).2
theorem kR.set {D : va_G} {aC : Nat → ClassId} {lw : Nat} {h : kH} {H H1 : Heap} (hR : kR D aC lw h H) {a : Nat} {e0 e : kE} (ha : h a = some e0) (hq : va_at D classes (a, kcv aC e) H1) (oq : ∀ q : Nat, q ≠ a → H1[q]? = H[q]?) : kR D aC lw (kset h a e) H1 := by
  intro b f hb
  by_cases hab : b = a
  · subst hab
    rw [kset_self] at hb
    cases hb
    exact ⟨(hR _ _ ha).1, hq⟩
  · rw [kset_ne hab] at hb
    exact ⟨(hR b f hb).1, ((hR b f hb).2).kept (oq b hab)⟩
theorem kR.new {D : va_G} {aC : Nat → ClassId} {lw : Nat} {h : kH} {H H1 : Heap} (hR : kR D aC lw h H) {e : kE} (hl : lw ≤ H.size) (hq : va_at D classes (H.size, kcv aC e) H1) (oq : ∀ q : Nat, q < H.size → H1[q]? = H[q]?) : h H.size = none ∧ kR D aC lw (kset h H.size e) H1 := by
  refine ⟨?_, ?_⟩
  · cases hz : h H.size with
    | none => rfl
    | some f => exact absurd ((hR _ f hz).2.lt) (Nat.lt_irrefl _)
  · intro b f hb
    by_cases hab : b = H.size
    · subst hab
      rw [kset_self] at hb
      cases hb
      exact ⟨hl, hq⟩
    · rw [kset_ne hab] at hb
      exact ⟨(hR b f hb).1, ((hR b f hb).2).kept (oq b ((hR b f hb).2.lt))⟩
/-- the locals -/
def kLo (n : Nat) (LS : Array Slot) (lo : kL) : Prop := LS.size = n ∧ lo.length = n ∧ lv_wf LS ∧ ∀ (i : Nat) (v : Value), lo[i]? = some (some v) → LS[i]? = some (.val v) ∧ v.category = 1
def kl (lo : kL) : List (Nat × Value) := lo.zipIdx.filterMap (fun q => q.1.map (fun v => (q.2, v)))
theorem kl_mem {lo : kL} {i : Nat} {v : Value} : (i, v) ∈ kl lo ↔ lo[i]? = some (some v) := by
  unfold kl
  rw [List.mem_filterMap]
  constructor
  · rintro ⟨⟨o, j⟩, hm, ho⟩
    rw [List.mem_zipIdx_iff_getElem?] at hm
    cases o with
    | none => simp at ho
    | some w =>
      simp at ho
      obtain ⟨rfl, rfl⟩ := ho
      exact hm
  · intro h
    exact ⟨(some v, i), List.mem_zipIdx_iff_getElem?.mpr h, rfl⟩
theorem kl_at {lo : kL} {i : Nat} {v : Value} (h : lo[i]? = some (some v)) : ∃ j : Nat, (kl lo)[j]? = some (i, v) := List.getElem?_of_mem (kl_mem.mpr h)
theorem kLo.at {n : Nat} {LS : Array Slot} {lo : kL} (h : kLo n LS lo) {i : Nat} {v : Value} (hl : lo[i]? = some (some v)) : LS[i]? = some (.val v) := (h.2.2.2 i v hl).1
theorem kLo.lt {n : Nat} {LS : Array Slot} {lo : kL} (h : kLo n LS lo) {i : Nat} (hi : i < lo.length) : i < n := h.2.1 ▸ hi
theorem kLo.has {n : Nat} {LS : Array Slot} {lo : kL} (h : kLo n LS lo) : lv_has LS n (kl lo) := ⟨h.1, h.2.2.1, fun q hq => h.at (kl_mem.mp hq)⟩
theorem kLt {lo : kL} {i : Nat} {o : Option Value} (h : lo[i]? = some o) : i < lo.length := (List.getElem?_eq_some_iff.mp h).1
theorem kLo.of {n : Nat} {LS LS2 : Array Slot} {lo : kL} {i : Nat} {v : Value} (h : kLo n LS lo) (h2 : lv_has LS2 n ((i, v) :: (kl lo).filter (fun q => !(q.1 == i) && !(q.1 + 1 == i && q.2.category == 2)))) (hv : v.category = 1) : kLo n LS2 (lo.set i (some v)) := by
  refine ⟨h2.1, by rw [List.length_set]; exact h.2.1, h2.2.1, fun j w hj => ?_⟩
  by_cases hij : j = i
  · subst hij
    have hl : j < lo.length := by
      have := kLt hj
      rwa [List.length_set] at this
    rw [List.getElem?_set_self hl] at hj
    cases hj
    exact ⟨h2.2.2 _ List.mem_cons_self, hv⟩
  · rw [List.getElem?_set_ne (Ne.symm hij)] at hj
    obtain ⟨g1, g2⟩ := h.2.2.2 j w hj
    refine ⟨h2.2.2 (j, w) (List.mem_cons_of_mem _ (List.mem_filter.mpr ⟨kl_mem.mpr hj, ?_⟩)), g2⟩
    simp [hij, g2]
def kRm (d mc ms : Nat) : Room := { frames := d + 6, cells := mc, slots := ms, locals := 64 * d + 200 }
def kQ (D : va_G) (aC : Nat → ClassId) (lw : Nat) (P : kO → kH → Prop) : Array Value → State → Outcome → State → Prop := fun _ st oc t => (∃ (v : Option Value) (h1 : kH), oc = .returned v ∧ P (.inl v) h1 ∧ kR D aC lw h1 t.heap) ∧ va_F (fun q => lw ≤ q) st t
def kXC (D : va_G) (aC : Nat → ClassId) (lw : Nat) (P : kO → kH → Prop) : String → State → State → Prop := fun E st t => ∃ (i : Nat) (h1 : kH), E = kExn i ∧ P (.inr i) h1 ∧ kR D aC lw h1 t.heap ∧ va_F (fun q => lw ≤ q) st t
/-- what stays true of the tables and of the old cells while the law runs -/
def kK (D : va_G) (aC : Nat → ClassId) (lw : Nat) (G : kG) (U : State) : Prop := va_K D classes (kTys aC) U ∧ (∀ w ∈ kNst, va_Nw w U) ∧ va_X G.1 G.2.1 G.2.2 U U.heap ∧ G.1 < U.heap.size ∧ G.1 < lw ∧ lw ≤ U.heap.size ∧ (∀ C ∈ kAOs, va_AO C U) ∧ kThrK lw U
def kMet (D : va_G) (aC : Nat → ClassId) (lw : Nat) (G : kG) (l : Launch) (d y : Nat) (As : List Value) (h : kH) (mc ms : Nat) (P : kO → kH → Prop) : Prop :=
  vx_Met l (kNm y) (kWs y) (kRm d mc ms) (va_Pc As (fun U => kK D aC lw G U ∧ kR D aC lw h U.heap)) (kQ D aC lw P) (kXC D aC lw P) mc ms (fun q => lw ≤ q)
def kOK (aC : Nat → ClassId) (D : va_G) (lw : Nat) (y : Nat) (p : Program) (l : Launch) (e : Env) (R : Room) (s : State) (m : MethodId) (args : Array Value) (below : List Frame) (meth : Method) (c : Code) (Q : State → Prop) (MC MS : Nat) : kX := fun pc lo st h mc ms =>
  ∀ (H : Heap) (locs : List Loc) (cells slots : Nat) (LS : Array Slot), kR D aC lw h H → va_S (fun q => lw ≤ q) s.heap H locs → kLo (kMaxL y) LS lo → cells + mc ≤ MC → slots + ms ≤ MS → W p l e R s m args below meth c H locs cells slots Q (F0 m pc LS st)
section KS
variable {p : Program} {l : Launch} {e : Env} {R : Room} {s : State} {m : MethodId} {args : Array Value} {below : List Frame} {meth : Method} {c : Code} {H : Heap} {locs : List Loc} {cells slots : Nat} {Q : State → Prop}
variable {D : va_G} {aC : Nat → ClassId} {lw : Nat} {G : kG} {y pc : Nat} {LS : Array Slot} {st : List Value} {h : kH}
theorem kGet (hx : p.tables.exec = Jvm.exec) (hb : c.code = kBytes y) (hown : s.vm.findClass (kCls (kCn y)) = some m.cls) (hts : ∀ w ∈ kTbl, w.before args s = true) (hK : kK D aC lw G s) (hR : kR D aC lw h H) {i a ci k : Nat} {fs : List Value} {v : Value}
    (hf : kFld (kCn y) i = some (ci, k)) (ha : h a = some (kOb ci fs)) (hv : fs[k]? = some v) (hdg : decode (kBytes y) pc = .ok (.getfield i, 3))
    (kk : W p l e R s m args below meth c H locs cells slots Q (F0 m (pc + 3) LS (v :: st))) : W p l e R s m args below meth c H locs cells slots Q (F0 m pc LS (.ref a :: st)) := by
  obtain ⟨r, hc, hk, hin, hl⟩ := kFld_ok hf
  exact va_get (C := r.1) (T := r.2.1) (N := r.2.2) hx hb hts hin hown hK.1 (kR.one hR ha) 0 rfl hc k hk (hts _ hl) (fun _ h9 => h9) hv hdg kk
theorem kPutW (hx : p.tables.exec = Jvm.exec) (hb : c.code = kBytes y) (hown : s.vm.findClass (kCls (kCn y)) = some m.cls) (hts : ∀ w ∈ kTbl, w.before args s = true) (hK : kK D aC lw G s) (hR : kR D aC lw h H) (hini : kIni y = true → meth.name = "<init>") {i a ci k : Nat} {fs : List Value} {v : Value}
    (hf : kFld (kCn y) i = some (ci, k)) (ha : h a = some (kOb ci fs)) (hp : kPut y ci k = true) (hl : k < fs.length) (hn : narrow (kFty ci k) v = v) (hfit : fits (kFty ci k) v = true) (hdg : decode (kBytes y) pc = .ok (.putfield i, 3))
    (kk : ∀ (H1 : Heap) (sl : Nat), va_at D classes (a, kcv aC (kOb ci (fs.set k v))) H1 → H1.size = H.size → (∀ q : Nat, q ≠ a → H1[q]? = H[q]?) → W p l e R s m args below meth c H1 (locs ++ [⟨a, sl⟩]) cells slots Q (F0 m (pc + 3) LS st)) : W p l e R s m args below meth c H locs cells slots Q (F0 m pc LS (v :: .ref a :: st)) := by
  obtain ⟨r, hc, hk, hin, hlk⟩ := kFld_ok hf
  obtain ⟨hty, hnm⟩ := kCls_ok hc
  have hap := va_apart (own := kCls (kCn y)) hts hin (kFty ci) hty hnm hK.1 hc
  obtain ⟨r', h1, cell, q1, q2, q3, q4⟩ := (hR a _ ha).2
  have hr : r' = r := Option.some.inj (h1.symm.trans hc)
  subst hr
  obtain ⟨hS, hfc, kC, hkC, hkind⟩ := hK.1.1 ci _ hc
  obtain ⟨cf, kf, fi, f, hi, hsl⟩ := hS k hk
  have hlay := hts _ (hin _ (u_in_lay hk))
  have hst := (u_facts hfc hkC (u_lays hts hin hk) hi).1
  have fin : ∀ (H' : Heap), H'[a]? = some (cell.setSlot f.slot v) → H'.size = H.size → (∀ q : Nat, q ≠ a → H'[q]? = H[q]?) → W p l e R s m args below meth c H' (locs ++ [⟨a, f.slot⟩]) cells slots Q (F0 m (pc + 3) LS st) := by
    intro H' e1 e2 e3
    rw [hsl] at e1
    exact kk H' _ ⟨_, hc, t_OB.to (V := updV (vp_V fs) k v) ⟨_, e1, q2, q3, t_set q4 hap hk v⟩ (fun j _ => vp_updV_set hl v j)⟩ e2 e3
  by_cases hfin : (r'.2.1 k).2.2.2 = true
  · unfold u_lay at hlay
    rw [if_pos hfin] at hlay
    obtain ⟨hi9, hdecl⟩ := kPut_ok hp hc hfin
    have hcf : m.cls = cf := by
      obtain ⟨_, _, c', _, _, _, -, -, hf', -, -, -, hown2, -⟩ := Cond.laysFinal_spec hlay
      have e1 : c' = cf := by have := hi.symm.trans hf'; simp at this; exact this.1.symm
      rw [hdecl] at hown2
      rw [← e1]; exact Option.some.inj (hown.symm.trans hown2)
    have h6 := u_fits hfc hkC hkind (Or.inr hlay) hi (hty k hk) hn hfit
    exact W.putFinK hx hb hown (hts _ hlk) hi hst hcf (hini hi9) (by rw [q2]; exact h6) q1 q3 (by rw [hsl]; exact k2_hasslot (q4 k hk)) rfl rfl hdg fin
  · unfold u_lay at hlay
    rw [if_neg hfin] at hlay
    have h6 := u_store hfc hkC hkind hlay hi (hty k hk) hn hfit
    exact W.putK hx hb (f := f) ⟨hown, hts _ hlk, ⟨_, _, _, hi⟩, hst⟩ (by rw [q2]; exact h6) q1 q3 (by rw [hsl]; exact k2_hasslot (q4 k hk)) rfl rfl hdg fin
theorem kIast (hx : p.tables.exec = Jvm.exec) (hb : c.code = kBytes y) (hK : kK D aC lw G s) (hR : kR D aC lw h H) {a n : Nat} {f : Nat → Int32} {i x : Int32} (ha : h a = some (kAI 0 n f)) (hi : vp_in i n) (hdg : decode (kBytes y) pc = .ok (.iastore, 1))
    (kk : ∀ (H1 : Heap) (sl : Nat), va_at D classes (a, kcv aC (kAI 0 n (upd f i.toNatClampNeg x))) H1 → H1.size = H.size → (∀ q : Nat, q ≠ a → H1[q]? = H[q]?) → W p l e R s m args below meth c H1 (locs ++ [⟨a, sl⟩]) cells slots Q (F0 m (pc + 1) LS st)) : W p l e R s m args below meth c H locs cells slots Q (F0 m pc LS (.int x :: .int i :: .ref a :: st)) := by
  have hc : H[a]? = some (vp_cell (aC 0) (n, .inl f)) := (hR a _ ha).2
  refine W.iast hx hb hc ((hK.1.2 0 _ (kTys_at (k := 0) rfl)).1 n (fun j => .int (f j))) (fun q => by cases q) (by show ¬ (i < 0 ∨ (arrV _ _ _).slots.size ≤ _); rw [arrV_size]; exact hi) rfl rfl hdg fun H1 e z oq => ?_
  refine kk H1 _ ?_ z oq
  show H1[a]? = some (vp_cell _ _)
  rw [e]
  show some ((vp_cell (aC 0) (n, .inl f)).setSlot _ _) = _
  rw [vp_cell_i, vp_cell_i, arrV_store]
  congr 2
  funext q
  by_cases hq : q = i.toNatClampNeg
  · subst hq
    simp [updV, upd]
  · simp [updV, upd, hq]
theorem kZast (hx : p.tables.exec = Jvm.exec) (hb : c.code = kBytes y) (hK : kK D aC lw G s) (hR : kR D aC lw h H) {a n : Nat} {f : Nat → Int32} {i x : Int32} (ha : h a = some (kAI 1 n f)) (hi : vp_in i n) (hdg : decode (kBytes y) pc = .ok (.bastore, 1))
    (kk : ∀ (H1 : Heap) (sl : Nat), va_at D classes (a, kcv aC (kAI 1 n (upd f i.toNatClampNeg (vp_nar .boolean x)))) H1 → H1.size = H.size → (∀ q : Nat, q ≠ a → H1[q]? = H[q]?) → W p l e R s m args below meth c H1 (locs ++ [⟨a, sl⟩]) cells slots Q (F0 m (pc + 1) LS st)) : W p l e R s m args below meth c H locs cells slots Q (F0 m pc LS (.int x :: .int i :: .ref a :: st)) := by
  have hc : H[a]? = some (vp_cell (aC 1) (n, .inl f)) := (hR a _ ha).2
  refine W.zast hx hb hc ((hK.1.2 1 _ (kTys_at (k := 1) rfl)).1 n (fun j => .int (f j))) (fun q => by cases q) (by show ¬ (i < 0 ∨ (arrV _ _ _).slots.size ≤ _); rw [arrV_size]; exact hi) rfl rfl hdg fun H1 e z oq => ?_
  refine kk H1 _ ?_ z oq
  show H1[a]? = some (vp_cell _ _)
  rw [e]
  show some ((vp_cell (aC 1) (n, .inl f)).setSlot _ _) = _
  rw [vp_cell_i, vp_cell_i, arrV_store]
  congr 2
  funext q
  by_cases hq : q = i.toNatClampNeg
  · subst hq
    simp only [updV, upd, if_true]
    rfl
  · simp [updV, upd, hq]
theorem kLast (hx : p.tables.exec = Jvm.exec) (hb : c.code = kBytes y) (hK : kK D aC lw G s) (hR : kR D aC lw h H) {a n : Nat} {f : Nat → Int64} {i : Int32} {x : Int64} (ha : h a = some (kAJ 2 n f)) (hi : vp_in i n) (hdg : decode (kBytes y) pc = .ok (.lastore, 1))
    (kk : ∀ (H1 : Heap) (sl : Nat), va_at D classes (a, kcv aC (kAJ 2 n (vp_updL f i.toNatClampNeg x))) H1 → H1.size = H.size → (∀ q : Nat, q ≠ a → H1[q]? = H[q]?) → W p l e R s m args below meth c H1 (locs ++ [⟨a, sl⟩]) cells slots Q (F0 m (pc + 1) LS st)) : W p l e R s m args below meth c H locs cells slots Q (F0 m pc LS (.long x :: .int i :: .ref a :: st)) := by
  have hc : H[a]? = some (vp_cell (aC 2) (n, .inr (.inl f))) := (hR a _ ha).2
  refine W.last hx hb hc ((hK.1.2 2 _ (kTys_at (k := 2) rfl)).1 n (fun j => .long (f j))) (fun q => by cases q) (by show ¬ (i < 0 ∨ (arrV _ _ _).slots.size ≤ _); rw [arrV_size]; exact hi) rfl rfl hdg fun H1 e z oq => ?_
  refine kk H1 _ ?_ z oq
  show H1[a]? = some (vp_cell _ _)
  rw [e]
  show some ((vp_cell (aC 2) (n, .inr (.inl f))).setSlot _ _) = _
  rw [vp_cell_l, vp_cell_l, arrV_store]
  congr 2
  funext q
  by_cases hq : q = i.toNatClampNeg
  · subst hq
    simp [updV, vp_updL]
  · simp [updV, vp_updL, hq]
theorem kAast (hx : p.tables.exec = Jvm.exec) (hb : c.code = kBytes y) (hK : kK D aC lw G s) (hR : kR D aC lw h H) {a n k v ci : Nat} {fs : List Value} {r : vw_C} {f : Nat → Option Nat} {i : Int32} (hk : kArt[k]? = some (.object r.1)) (ha : h a = some (kAR k n f)) (hv : h v = some (kOb ci fs)) (hcl : classes[ci]? = some r) (hi : vp_in i n) (hdg : decode (kBytes y) pc = .ok (.aastore, 1))
    (kk : ∀ (H1 : Heap) (sl : Nat), va_at D classes (a, kcv aC (kAR k n (va_up f i.toNatClampNeg (some v)))) H1 → H1.size = H.size → (∀ q : Nat, q ≠ a → H1[q]? = H[q]?) → W p l e R s m args below meth c H1 (locs ++ [⟨a, sl⟩]) cells slots Q (F0 m (pc + 1) LS st)) : W p l e R s m args below meth c H locs cells slots Q (F0 m pc LS (.ref v :: .int i :: .ref a :: st)) := by
  have hc : H[a]? = some (vp_cell (aC k) (n, .inr (.inr (.inr (.inr f))))) := (hR a _ ha).2
  have hlt : i.toNatClampNeg < n := Nat.not_le.mp fun q => hi (Or.inr q)
  have h0 : ¬ i < 0 := fun q => hi (Or.inl q)
  obtain ⟨r', hr', cellV, g1, g2, g3, -⟩ := (hR v _ hv).2
  have hcls := (hK.1.1 ci r hcl).2
  obtain ⟨kA, comp, k1, k2, k3, -⟩ := (hK.1.2 k _ (kTys_at hk)).2
  have hcomp : comp = D.1 ci := Option.some.inj (k3.symm.trans hcls.1)
  subst hcomp
  obtain ⟨kC, hkC, -⟩ := hcls.2
  refine W.aast hx hb hc (fun q h => by cases h) (fun h => by cases h) k1 k2 rfl hkC ⟨h0, by show _ < (arrV _ _ _).slots.size; rw [arrV_size]; exact hlt⟩ g1 (fun q h => by rw [g3] at h; cases h) (by rw [g2]; exact hkC) (by rw [g2]; exact va_assign hcls) rfl rfl hdg fun H1 e z oq => ?_
  refine kk H1 _ ?_ z oq
  show H1[a]? = some (vp_cell _ _)
  rw [e]
  show some ((vp_cell (aC k) (n, .inr (.inr (.inr (.inr f))))).setSlot _ _) = _
  rw [vp_cell_q, vp_cell_q, arrV_store]
  congr 2
  funext q
  by_cases hq : q = i.toNatClampNeg
  · subst hq
    simp [updV, va_up, va_rf]
  · simp [updV, va_up, hq]
theorem kNn (z : Int32) (hz : ¬ z < 0) : z.toInt = (z.toNatClampNeg : Int) := by
  have hz0 : (0 : Int) ≤ z.toInt := by
    have := Int32.not_lt.mp hz
    simpa using Int32.le_iff_toInt_le.mp this
  show z.toInt = ((z.toInt.toNat : Nat) : Int)
  omega
theorem kCopy {MC MS d : Nat} {lo : kL} (hx : p.tables.exec = Jvm.exec) (hb : c.code = kBytes y) (hml : c.maxLocals = kMaxL y) (hown : s.vm.findClass (kCls (kCn y)) = some m.cls) (hts : ∀ w ∈ kTbl, w.before args s = true) (hK : kK D aC lw G s) (hR : kR D aC lw h H) (hS : va_S (fun q => lw ≤ q) s.heap H locs) (hL : kLo (kMaxL y) LS lo) (hroom : R.cells = MC ∧ R.slots = MS ∧ d + 6 ≤ R.frames ∧ 64 * d + 200 ≤ R.locals)
    {i a0 a n0 n1 : Nat} {f g : Nat → Int32} {sp dp n : Int32} (hm : kNat (kCn y) i = some 0) (ha0 : h a0 = some (kAI 0 n0 f)) (ha1 : h a = some (kAI 0 n1 g)) (h1 : ¬ sp < 0) (h2 : ¬ dp < 0) (h3 : ¬ n < 0) (h4 : sp.toNatClampNeg + n.toNatClampNeg ≤ n0) (h5 : dp.toNatClampNeg + n.toNatClampNeg ≤ n1) (hw : (st.map fun v => v.category).sum ≤ 8) (hdg : decode (kBytes y) pc = .ok (.invokestatic i, 3))
    (kk : ∀ (H1 : Heap) (locs1 : List Loc), va_at D classes (a, kcv aC (kAI 0 n1 (va_cpy f g sp.toNatClampNeg dp.toNatClampNeg n.toNatClampNeg))) H1 → (∀ q : Nat, q ≠ a → H1[q]? = H[q]?) → va_S (fun q => lw ≤ q) s.heap H1 locs1 → W p l e R s m args below meth c H1 locs1 cells slots Q (F0 m (pc + 3) LS st)) : W p l e R s m args below meth c H locs cells slots Q (F0 m pc LS (.int n :: .int dp :: .ref a :: .int sp :: .ref a0 :: st)) := by
  obtain ⟨hlink, hnat, hstat, hini⟩ := kNat_ok0 hm
  obtain ⟨r1, r2, r3, r4⟩ := hroom
  have hfw : nativeFrameWords "java/lang/System" "arraycopy" 5 ≤ 100 := by decide +kernel
  intro T hT X
  have hc0 : H[a0]? = some (vp_cell (aC 0) (n0, .inl f)) := (hR a0 _ ha0).2
  have hc1 : H[a]? = some (vp_cell (aC 0) (n1, .inl g)) := (hR a _ ha1).2
  obtain ⟨-, k0, hk0, cm0, hkk0⟩ := (hK.1.2 0 _ (kTys_at (k := 0) rfl)).1 n0 (fun j => .int (f j))
  obtain ⟨vm', X', step⟩ := X.arraycopy hx hown (hts _ hlink) (hts _ hnat) (hts _ hstat) (hts _ hini) (src := a0) (dst := a) (cs := vp_cell (aC 0) (n0, .inl f)) (cd := vp_cell (aC 0) (n1, .inl g)) (srcPos := sp) (destPos := dp) (n := n) (by rw [hT]; exact hc0) (by rw [hT]; exact hc1)
    (fun _ h => by cases h) (fun _ h => by cases h) (fun h => by cases h) (fun h => by cases h) hk0 hk0 hkk0 hkk0 (by simp [refKind]) h1 h2 h3
    (by rw [kNn sp h1, kNn n h3]; show ¬ _ > ((arrV (aC 0) n0 (fun j => .int (f j))).slots.size : Int); rw [arrV_size]; omega)
    (by rw [kNn dp h2, kNn n h3]; show ¬ _ > ((arrV (aC 0) n1 (fun j => .int (g j))).slots.size : Int); rw [arrV_size]; omega)
    (fun vm₁ _ i hi => by
      have e : (vp_cell (aC 0) (n0, .inl f)).slots.getD (sp.toNatClampNeg + i) .null = .int (f (sp.toNatClampNeg + i)) := by
        show (arrV (aC 0) n0 (fun j => .int (f j))).slots.getD _ _ = _
        rw [Array.getD_eq_getD_getElem?, arrV_read _ _ (by omega)]
        rfl
      refine ⟨?_, ?_⟩
      · rw [e]; rfl
      · rw [e]
        exact trivial)
    (g := F0 m pc LS (.int n :: .int dp :: .ref a :: .int sp :: .ref a0 :: st)) rfl (by rw [hml]; exact hL.1) (rest := st) rfl (by rw [hb]; exact hdg) (by omega) (by show 2 * 0 + _ + _ ≤ _; omega)
  have e1 : copied (vp_cell (aC 0) (n0, .inl f)) (vp_cell (aC 0) (n1, .inl g)) sp dp n = vp_cell (aC 0) (n1, .inl (va_cpy f g sp.toNatClampNeg dp.toNatClampNeg n.toNatClampNeg)) := va_copied (fun z => .int z) (aC 0) (aC 0) f g h4
  rw [e1] at X' step
  have hl : a < H.size := (Array.getElem?_eq_some_iff.mp hc1).1
  have hheap : ((T.setVm vm').setCell a (vp_cell (aC 0) (n1, .inl (va_cpy f g sp.toNatClampNeg dp.toNatClampNeg n.toNatClampNeg)))).heap = H.setIfInBounds a (vp_cell (aC 0) (n1, .inl (va_cpy f g sp.toNatClampNeg dp.toNatClampNeg n.toNatClampNeg))) := by rw [← hT]; rfl
  have oq : ∀ q : Nat, q ≠ a → (H.setIfInBounds a (vp_cell (aC 0) (n1, .inl (va_cpy f g sp.toNatClampNeg dp.toNatClampNeg n.toNatClampNeg))))[q]? = H[q]? := fun q hq => by simp [Array.getElem?_setIfInBounds, Ne.symm hq]
  have hlw := (hR a _ ha1).1
  obtain ⟨t, a1, b1⟩ := kk _ _ (show (H.setIfInBounds a _)[a]? = some _ by simp [Array.getElem?_setIfInBounds, hl]) oq ⟨by simp; exact hS.1, fun q g1 g2 => by
      rw [oq q (fun e => g2 (by rw [e]; exact hlw))]
      exact hS.2.1 q g1 g2, fun q hq => by
      rcases List.mem_append.mp hq with h | h
      · exact hS.2.2 q h
      · obtain ⟨z, -, hz⟩ := List.mem_map.mp h
        rw [← hz]
        exact hlw⟩ _ hheap X'
  exact ⟨t, step t a1, b1⟩
theorem kMmin {MC MS d : Nat} {lo : kL} (hx : p.tables.exec = Jvm.exec) (hb : c.code = kBytes y) (hml : c.maxLocals = kMaxL y) (hown : s.vm.findClass (kCls (kCn y)) = some m.cls) (hts : ∀ w ∈ kTbl, w.before args s = true) (hL : kLo (kMaxL y) LS lo) (hroom : R.cells = MC ∧ R.slots = MS ∧ d + 6 ≤ R.frames ∧ 64 * d + 200 ≤ R.locals) {i : Nat} {x z : Int32} (hm : kNat (kCn y) i = some 1) (hw : (st.map fun v => v.category).sum ≤ 8) (hc : cells ≤ MC) (hs : slots ≤ MS) (hdg : decode (kBytes y) pc = .ok (.invokestatic i, 3))
    (kk : W p l e R s m args below meth c H locs cells slots Q (F0 m (pc + 3) LS (.int (if z < x then z else x) :: st))) : W p l e R s m args below meth c H locs cells slots Q (F0 m pc LS (.int z :: .int x :: st)) := by
  obtain ⟨h1, h2, h3, h4⟩ := kNat_ok1 hm
  obtain ⟨r1, r2, r3, r4⟩ := hroom
  exact va_mmin hx hb (hml.trans hL.1.symm) hown (hts _ h1) (hts _ h2) (hts _ h3) (hts _ h4) (by omega) (by omega) (by omega) (by omega) hdg kk
theorem kMmax {MC MS d : Nat} {lo : kL} (hx : p.tables.exec = Jvm.exec) (hb : c.code = kBytes y) (hml : c.maxLocals = kMaxL y) (hown : s.vm.findClass (kCls (kCn y)) = some m.cls) (hts : ∀ w ∈ kTbl, w.before args s = true) (hL : kLo (kMaxL y) LS lo) (hroom : R.cells = MC ∧ R.slots = MS ∧ d + 6 ≤ R.frames ∧ 64 * d + 200 ≤ R.locals) {i : Nat} {x z : Int32} (hm : kNat (kCn y) i = some 2) (hw : (st.map fun v => v.category).sum ≤ 8) (hc : cells ≤ MC) (hs : slots ≤ MS) (hdg : decode (kBytes y) pc = .ok (.invokestatic i, 3))
    (kk : W p l e R s m args below meth c H locs cells slots Q (F0 m (pc + 3) LS (.int (if x < z then z else x) :: st))) : W p l e R s m args below meth c H locs cells slots Q (F0 m pc LS (.int z :: .int x :: st)) := by
  obtain ⟨h1, h2, h3, h4⟩ := kNat_ok2 hm
  obtain ⟨r1, r2, r3, r4⟩ := hroom
  exact va_mmax hx hb (hml.trans hL.1.symm) hown (hts _ h1) (hts _ h2) (hts _ h3) (hts _ h4) (by omega) (by omega) (by omega) (by omega) hdg kk
theorem kNewS (hS : va_S (fun q => lw ≤ q) s.heap H locs) {H1 : Heap} (z1 : H1.size = H.size + 1) (o1 : ∀ q : Nat, q < H.size → H1[q]? = H[q]?) : va_S (fun q => lw ≤ q) s.heap H1 locs :=
  ⟨Nat.le_trans hS.1 (by omega), fun x h1 h2 => (o1 x (Nat.lt_of_lt_of_le h1 hS.1)).trans (hS.2.1 x h1 h2), hS.2.2⟩
theorem kNewW {MC MS d mc ms : Nat} (hx : p.tables.exec = Jvm.exec) (hb : c.code = kBytes y) (hown : s.vm.findClass (kCls (kCn y)) = some m.cls) (hts : ∀ w ∈ kTbl, w.before args s = true) (hK : kK D aC lw G s) (hR : kR D aC lw h H) (hS : va_S (fun q => lw ≤ q) s.heap H locs) (hroom : R.cells = MC ∧ R.slots = MS ∧ d + 6 ≤ R.frames ∧ 64 * d + 200 ≤ R.locals)
    {i ci N : Nat} (hf : kNew (kCn y) i = some ci) (hN : kSz ci = N) (hmc : 1 ≤ mc) (hms : N ≤ ms) (hc : cells + mc ≤ MC) (hs : slots + ms ≤ MS) (hdg : decode (kBytes y) pc = .ok (.new i, 3))
    (kk : ∀ (q : Nat) (H1 : Heap), h q = none → kR D aC lw (kset h q (kOb ci (kDef ci))) H1 → va_S (fun q => lw ≤ q) s.heap H1 locs → W p l e R s m args below meth c H1 locs (cells + 1) (slots + N) Q (F0 m (pc + 3) LS (.ref q :: st))) : W p l e R s m args below meth c H locs cells slots Q (F0 m pc LS st) := by
  obtain ⟨r, hcl, hin, w1, w2, w3, hsz, hdf⟩ := kNew_ok hf
  obtain ⟨hty, hnm⟩ := kCls_ok hcl
  have hKn := hK.1.1 ci _ hcl
  obtain ⟨r1, r2, r3, r4⟩ := hroom
  have hN' : r.2.2 = N := hsz.trans hN
  refine W.newcK hx hb hown (hts _ w1) (hts _ w2) (hts _ w3) rfl hdg (by omega) (by omega) hKn.2.1 rfl fun H1 kC hkC e1 z1 o1 => ?_
  have hat : va_at D classes (H.size, kcv aC (kOb ci (kDef ci))) H1 := ⟨_, hcl, (u_born (kFty ci) hts hin hKn hkC e1 hty).to hdf⟩
  obtain ⟨g1, g2⟩ := kR.new hR (Nat.le_trans hK.2.2.2.2.2.1 hS.1) hat o1
  rw [hN']
  exact kk H.size H1 g1 g2 (kNewS hS z1 o1)
theorem kNewAi {MC MS d mc ms : Nat} (hx : p.tables.exec = Jvm.exec) (hb : c.code = kBytes y) (hts : ∀ w ∈ kTbl, w.before args s = true) (hK : kK D aC lw G s) (hR : kR D aC lw h H) (hS : va_S (fun q => lw ≤ q) s.heap H locs) (hroom : R.cells = MC ∧ R.slots = MS ∧ d + 6 ≤ R.frames ∧ 64 * d + 200 ≤ R.locals)
    {n : Int32} {N : Nat} (hn : ¬ n < 0) (hN : n.toNatClampNeg = N) (hb9 : N ≤ 60000) (hmc : 1 ≤ mc) (hms : N ≤ ms) (hc : cells + mc ≤ MC) (hs : slots + ms ≤ MS) (hdg : decode (kBytes y) pc = .ok (.newarray .int, 2))
    (kk : ∀ (q : Nat) (H1 : Heap), h q = none → kR D aC lw (kset h q (kAI 0 N (fun _ => 0))) H1 → va_S (fun q => lw ≤ q) s.heap H1 locs → W p l e R s m args below meth c H1 locs (cells + 1) (slots + N) Q (F0 m (pc + 2) LS (.ref q :: st))) : W p l e R s m args below meth c H locs cells slots Q (F0 m pc LS (.int n :: st)) := by
  obtain ⟨r1, r2, r3, r4⟩ := hroom
  refine va_newaK (atype := .int) (N := N) hx hb (hts _ kArr_i) rfl hdg rfl hn hN (by show N * 4 ≤ _; omega) (by omega) (by omega) rfl fun H1 cA e1 z1 o1 hAr hNm => ?_
  have hA : s.vm.findClass ("[" ++ FieldType.int.toString) = some (aC 0) := (hK.1.2 0 _ (kTys_at (k := 0) rfl)).2
  have hcA : cA = aC 0 := Option.some.inj (hNm.symm.trans hA)
  subst hcA
  obtain ⟨g1, g2⟩ := kR.new hR (e := kAI 0 N (fun _ => 0)) (Nat.le_trans hK.2.2.2.2.2.1 hS.1) e1 o1
  exact kk H.size H1 g1 g2 (kNewS hS z1 o1)
theorem kNewAz {MC MS d mc ms : Nat} (hx : p.tables.exec = Jvm.exec) (hb : c.code = kBytes y) (hts : ∀ w ∈ kTbl, w.before args s = true) (hK : kK D aC lw G s) (hR : kR D aC lw h H) (hS : va_S (fun q => lw ≤ q) s.heap H locs) (hroom : R.cells = MC ∧ R.slots = MS ∧ d + 6 ≤ R.frames ∧ 64 * d + 200 ≤ R.locals)
    {n : Int32} {N : Nat} (hn : ¬ n < 0) (hN : n.toNatClampNeg = N) (hb9 : N ≤ 60000) (hmc : 1 ≤ mc) (hms : N ≤ ms) (hc : cells + mc ≤ MC) (hs : slots + ms ≤ MS) (hdg : decode (kBytes y) pc = .ok (.newarray .boolean, 2))
    (kk : ∀ (q : Nat) (H1 : Heap), h q = none → kR D aC lw (kset h q (kAI 1 N (fun _ => 0))) H1 → va_S (fun q => lw ≤ q) s.heap H1 locs → W p l e R s m args below meth c H1 locs (cells + 1) (slots + N) Q (F0 m (pc + 2) LS (.ref q :: st))) : W p l e R s m args below meth c H locs cells slots Q (F0 m pc LS (.int n :: st)) := by
  obtain ⟨r1, r2, r3, r4⟩ := hroom
  refine va_newaK (atype := .boolean) (N := N) hx hb (hts _ kArr_z) rfl hdg rfl hn hN (by show N * 1 ≤ _; omega) (by omega) (by omega) rfl fun H1 cA e1 z1 o1 hAr hNm => ?_
  have hA : s.vm.findClass ("[" ++ FieldType.boolean.toString) = some (aC 1) := (hK.1.2 1 _ (kTys_at (k := 1) rfl)).2
  have hcA : cA = aC 1 := Option.some.inj (hNm.symm.trans hA)
  subst hcA
  obtain ⟨g1, g2⟩ := kR.new hR (e := kAI 1 N (fun _ => 0)) (Nat.le_trans hK.2.2.2.2.2.1 hS.1) e1 o1
  exact kk H.size H1 g1 g2 (kNewS hS z1 o1)
theorem kNewAj {MC MS d mc ms : Nat} (hx : p.tables.exec = Jvm.exec) (hb : c.code = kBytes y) (hts : ∀ w ∈ kTbl, w.before args s = true) (hK : kK D aC lw G s) (hR : kR D aC lw h H) (hS : va_S (fun q => lw ≤ q) s.heap H locs) (hroom : R.cells = MC ∧ R.slots = MS ∧ d + 6 ≤ R.frames ∧ 64 * d + 200 ≤ R.locals)
    {n : Int32} {N : Nat} (hn : ¬ n < 0) (hN : n.toNatClampNeg = N) (hb9 : N ≤ 60000) (hmc : 1 ≤ mc) (hms : N ≤ ms) (hc : cells + mc ≤ MC) (hs : slots + ms ≤ MS) (hdg : decode (kBytes y) pc = .ok (.newarray .long, 2))
    (kk : ∀ (q : Nat) (H1 : Heap), h q = none → kR D aC lw (kset h q (kAJ 2 N (fun _ => 0))) H1 → va_S (fun q => lw ≤ q) s.heap H1 locs → W p l e R s m args below meth c H1 locs (cells + 1) (slots + N) Q (F0 m (pc + 2) LS (.ref q :: st))) : W p l e R s m args below meth c H locs cells slots Q (F0 m pc LS (.int n :: st)) := by
  obtain ⟨r1, r2, r3, r4⟩ := hroom
  refine va_newaK (atype := .long) (N := N) hx hb (hts _ kArr_j) rfl hdg rfl hn hN (by show N * 8 ≤ _; omega) (by omega) (by omega) rfl fun H1 cA e1 z1 o1 hAr hNm => ?_
  have hA : s.vm.findClass ("[" ++ FieldType.long.toString) = some (aC 2) := (hK.1.2 2 _ (kTys_at (k := 2) rfl)).2
  have hcA : cA = aC 2 := Option.some.inj (hNm.symm.trans hA)
  subst hcA
  obtain ⟨g1, g2⟩ := kR.new hR (e := kAJ 2 N (fun _ => 0)) (Nat.le_trans hK.2.2.2.2.2.1 hS.1) e1 o1
  exact kk H.size H1 g1 g2 (kNewS hS z1 o1)
theorem kNewQ {MC MS d mc ms : Nat} (hx : p.tables.exec = Jvm.exec) (hb : c.code = kBytes y) (hown : s.vm.findClass (kCls (kCn y)) = some m.cls) (hts : ∀ w ∈ kTbl, w.before args s = true) (hK : kK D aC lw G s) (hR : kR D aC lw h H) (hS : va_S (fun q => lw ≤ q) s.heap H locs) (hroom : R.cells = MC ∧ R.slots = MS ∧ d + 6 ≤ R.frames ∧ 64 * d + 200 ≤ R.locals)
    {i k : Nat} {n : Int32} {N : Nat} (hf : kANew (kCn y) i = some k) (hn : ¬ n < 0) (hN : n.toNatClampNeg = N) (hb9 : N ≤ 60000) (hmc : 1 ≤ mc) (hms : N ≤ ms) (hc : cells + mc ≤ MC) (hs : slots + ms ≤ MS) (hdg : decode (kBytes y) pc = .ok (.anewarray i, 3))
    (kk : ∀ (q : Nat) (H1 : Heap), h q = none → kR D aC lw (kset h q (kAR k N (fun _ => none))) H1 → va_S (fun q => lw ≤ q) s.heap H1 locs → W p l e R s m args below meth c H1 locs (cells + 1) (slots + N) Q (F0 m (pc + 3) LS (.ref q :: st))) : W p l e R s m args below meth c H locs cells slots Q (F0 m pc LS (.int n :: st)) := by
  obtain ⟨C, hC, w1, w2⟩ := kANew_ok hf
  obtain ⟨r1, r2, r3, r4⟩ := hroom
  subst hN
  refine W.anew hx hb hown (hts _ w1) (va_AO.use (hK.2.2.2.2.2.2.1 C w2)) rfl hdg rfl hn (by omega) (by omega) (by omega) fun cA kA comp f1 f2 f3 f4 => ?_
  obtain ⟨kA', comp', g1, g2, g3, g4⟩ := (hK.1.2 k _ (kTys_at hC)).2
  have hcA : cA = aC k := Option.some.inj (f1.symm.trans g4)
  subst hcA
  generalize hH1 : H.push ({ cls := aC k, slots := Array.replicate n.toNatClampNeg .null, vm := .none } : Cell) = H1
  have z1 : H1.size = H.size + 1 := by rw [← hH1, Array.size_push]
  have e1 : H1[H.size]? = some (arrV (aC k) n.toNatClampNeg (fun _ => .null)) := by rw [← hH1, Array.getElem?_push_size, ← arrV_new]
  have o1 : ∀ q : Nat, q < H.size → H1[q]? = H[q]? := fun q hq => by rw [← hH1, Array.getElem?_push, if_neg (Nat.ne_of_lt hq)]
  obtain ⟨h1, h2⟩ := kR.new hR (e := kAR k n.toNatClampNeg (fun _ => none)) (Nat.le_trans hK.2.2.2.2.2.1 hS.1) e1 o1
  exact kk H.size H1 h1 h2 (kNewS hS z1 o1)
theorem kObjI {MC MS d : Nat} {lo : kL} (hx : p.tables.exec = Jvm.exec) (hb : c.code = kBytes y) (hml : c.maxLocals = kMaxL y) (hown : s.vm.findClass (kCls (kCn y)) = some m.cls) (hts : ∀ w ∈ kTbl, w.before args s = true) (hL : kLo (kMaxL y) LS lo) (hroom : R.cells = MC ∧ R.slots = MS ∧ d + 6 ≤ R.frames ∧ 64 * d + 200 ≤ R.locals) {i a : Nat} (hm : kObj (kCn y) i = true) (hw : (st.map fun v => v.category).sum ≤ 8) (hdg : decode (kBytes y) pc = .ok (.invokespecial i, 3))
    (kk : W p l e R s m args below meth c H locs cells slots Q (F0 m (pc + 3) LS st)) : W p l e R s m args below meth c H locs cells slots Q (F0 m pc LS (.ref a :: st)) := by
  obtain ⟨r1, r2, r3, r4⟩ := hroom
  have h8 := lv_room (m := m) (pc := pc) (ls := LS) (rest := .ref a :: st) hw
  exact W.objInit hx hb hown (hts _ (kObj_ok hm)) (hts _ kO_in) (hts _ kO_cd) rfl (by rw [hml]; exact hL.1) rfl hdg (by omega) (by omega) kk
theorem kKmoved {U : State} (hK : kK D aC lw G s) (hS : va_S (fun q => lw ≤ q) s.heap H locs) (hU : U.heap = H) (hW : s.WarmedH U.vm) : kK D aC lw G U := by
  obtain ⟨h1, h2, h3, h4, h5, h6, h7, h8⟩ := hK
  have hH : ∀ a : Nat, a < s.heap.size → ¬ lw ≤ a → U.heap[a]? = s.heap[a]? := fun a g1 g2 => by rw [hU]; exact hS.2.1 a g1 g2
  refine ⟨va_K.moved hW.alike h1, fun w hw => kNst_warm hW hw (h2 w hw), va_X.moved hW.alike (va_X.kept h3 (hH _ h4 (Nat.not_le.mpr h5))), ?_, h5, ?_, fun C hC => va_AO.moved hW.alike (h7 C hC), kThrK.moved hW hH h8⟩
  · rw [hU]; exact Nat.lt_of_lt_of_le h4 hS.1
  · rw [hU]; exact Nat.le_trans h6 hS.1
theorem kBlind (As : List Value) : FrameBlind (va_Pc As (fun U => kK D aC lw G U ∧ kR D aC lw h U.heap)) := by
  intro a U g mk q
  obtain ⟨q0, ⟨h1, h2, h3, h4, h5, h6, h7, h8⟩, q2⟩ := q
  exact ⟨q0, ⟨va_K.moved (u := U) (U := U.calling g mk a) (Vm.Alike.refl U.vm) h1, fun w hw => kNst_same (u := U) hw rfl (h2 w hw), va_X.moved (u := U) (U := U.calling g mk a) (Vm.Alike.refl U.vm) h3, h4, h5, h6, fun C hC => va_AO.moved (u := U) (U := U.calling g mk a) (Vm.Alike.refl U.vm) (h7 C hC), kThrK.same (U := U.calling g mk a) rfl rfl h8⟩, q2⟩
theorem kAfter {P1 : kO → kH → Prop} {mc1 ms1 : Nat} {a : Array Value} {st0 : List Value} (hr : vx_Run p l e R s m args below meth c H locs cells slots mc1 ms1 (F0 m pc LS st0) st (kQ D aC lw P1 a) (kXC D aC lw P1) (fun q => lw ≤ q)) (hno : ∀ E h1, ¬ P1 (.inr E) h1) (hS : va_S (fun q => lw ≤ q) s.heap H locs)
    (kk : ∀ (v : Option Value) (h1 : kH), P1 (.inl v) h1 → ∀ (H1 : Heap) (locs1 : List Loc), kR D aC lw h1 H1 → va_S (fun q => lw ≤ q) s.heap H1 locs1 → W p l e R s m args below meth c H1 locs1 (cells + mc1) (slots + ms1) Q (F0 m (pc + 3) LS (v.toList ++ st))) : W p l e R s m args below meth c H locs cells slots Q (F0 m pc LS st0) := by
  intro T hT X
  rcases hr T hT X with ⟨v, st₀, t, T', L, h0, X', hL, e1, e2, ⟨⟨v', h1, hv, hp, hR1⟩, hF⟩, stp⟩ | ⟨q, st₀, t, T', L, E, ce, h0, X', hL, e1, e2, ⟨i, h1, -, hp, -⟩, -⟩
  · cases hv
    obtain ⟨k1, k2, k3⟩ := vx_keep h0 e1 hS (fun q _ h => h) (fun q h => h) hL hF
    obtain ⟨t2, a1, b1⟩ := kk v h1 hp T'.heap (locs ++ L) (by rw [e1]; exact hR1) k3 T' rfl X'
    exact ⟨t2, stp t2 a1, b1⟩
  · exact absurd hp (hno i h1)
theorem kAfterV {P1 : kO → kH → Prop} {mc1 ms1 : Nat} {a : Array Value} {st0 : List Value} (hr : va_Run p l e R s m args below meth c H locs cells slots mc1 ms1 (F0 m pc LS st0) st (kQ D aC lw P1 a) (fun q => lw ≤ q)) (hS : va_S (fun q => lw ≤ q) s.heap H locs)
    (kk : ∀ (v : Option Value) (h1 : kH), P1 (.inl v) h1 → ∀ (H1 : Heap) (locs1 : List Loc), kR D aC lw h1 H1 → va_S (fun q => lw ≤ q) s.heap H1 locs1 → W p l e R s m args below meth c H1 locs1 (cells + mc1) (slots + ms1) Q (F0 m (pc + 3) LS (v.toList ++ st))) : W p l e R s m args below meth c H locs cells slots Q (F0 m pc LS st0) := by
  intro T hT X
  obtain ⟨v, st₀, t, T', L, h0, X', hL, e1, e2, ⟨⟨v', h1, hv, hp, hR1⟩, hF⟩, stp⟩ := hr T hT X
  cases hv
  obtain ⟨k1, k2, k3⟩ := vx_keep h0 e1 hS (fun q _ h => h) (fun q h => h) hL hF
  obtain ⟨t2, a1, b1⟩ := kk v h1 hp T'.heap (locs ++ L) (by rw [e1]; exact hR1) k3 T' rfl X'
  exact ⟨t2, stp t2 a1, b1⟩
section KCALL
variable {C : kCl} {d MC MS mc ms : Nat} {lo : kL} {i y1 mc1 ms1 mc2 ms2 : Nat} {As st0 : List Value} {P1 : kO → kH → Prop}
theorem kCallS (IH : ∀ (y1 : Nat) (As : List Value) (h : kH) (mc ms : Nat) (P : kO → kH → Prop), kChM y1 = true → (plainName (kNm y1).cls = true ∨ ∀ E h1, ¬ P (.inr E) h1) → C y1 As h mc ms P → kMet D aC lw G l d y1 As h mc ms P) (hx : p.tables.exec = Jvm.exec) (hb : c.code = kBytes y) (hml : c.maxLocals = kMaxL y) (hown : s.vm.findClass (kCls (kCn y)) = some m.cls) (hts : ∀ w ∈ kTbl, w.before args s = true) (hK : kK D aC lw G s) (hR : kR D aC lw h H) (hS : va_S (fun q => lw ≤ q) s.heap H locs) (hL : kLo (kMaxL y) LS lo) (hroom : R.cells = MC ∧ R.slots = MS ∧ (d + 1) + 6 ≤ R.frames ∧ 64 * (d + 1) + 200 ≤ R.locals)
    (hm : kMth (kCn y) i = some y1) (hk : kKin y1 = 0) (hn : As.length = kArg y1) (hst : st0 = As.reverse ++ st) (hw : (st.map fun v => v.category).sum ≤ 8) (hC : C y1 As h mc1 ms1 P1) (hno : ∀ E h1, ¬ P1 (.inr E) h1) (hm1 : mc1 + mc2 ≤ mc) (hm2 : ms1 + ms2 ≤ ms) (hc : cells + mc ≤ MC) (hs : slots + ms ≤ MS) (hdg : decode (kBytes y) pc = .ok (.invokestatic i, 3))
    (kk : ∀ (v : Option Value) (h1 : kH), P1 (.inl v) h1 → ∀ (H1 : Heap) (locs1 : List Loc), kR D aC lw h1 H1 → va_S (fun q => lw ≤ q) s.heap H1 locs1 → W p l e R s m args below meth c H1 locs1 (cells + mc1) (slots + ms1) Q (F0 m (pc + 3) LS (v.toList ++ st))) : W p l e R s m args below meth c H locs cells slots Q (F0 m pc LS st0) := by
  obtain ⟨hlk, hM⟩ := kMth_ok hm
  obtain ⟨w1, w2, hd, hpl, hml40, hcl, hK0, -, -, -, -⟩ := kM_ok hM
  obtain ⟨r1, r2, r3, r4⟩ := hroom
  have hMet := kToMet (IH y1 As h mc1 ms1 P1 hM (Or.inr hno) hC) (fun E st t hx => by obtain ⟨i9, h9, -, hp9, -⟩ := hx; exact hno _ _ hp9)
  have hp : PreS s H (va_Pc As (fun U => kK D aC lw G U ∧ kR D aC lw h U.heap)) As := ⟨kBlind As, fun U hU hW => ⟨rfl, kKmoved hK hS hU hW, by rw [hU]; exact hR⟩⟩
  have hRm : (kRm d mc1 ms1).frames + 1 ≤ R.frames ∧ 8 + (kMaxL y1 + 11) + (kRm d mc1 ms1).locals ≤ R.locals := ⟨by show d + 6 + 1 ≤ _; omega, by show 8 + (kMaxL y1 + 11) + (64 * d + 200) ≤ _; omega⟩
  have hf : cells + mc1 ≤ R.cells ∧ slots + ms1 ≤ R.slots := ⟨by omega, by omega⟩
  by_cases hh : kHh y1 = []
  · rcases hlk with ⟨hln, hnh⟩ | hll
    · exact kAfterV (va_runSN (maxL := kMaxL y1) (ret := kRet y1) ⟨hx, hb, hml, hown, hts⟩ hMet ⟨va_cnB (kArg y1) hts (kGood y1 w1) (kWs_code hh) rfl rfl (hK.2.1 _ hln) (hts _ w2) hd hRm, hts _ (hK0 hk), trivial⟩ hp rfl hn hL.1 hst (lv_room hw) hdg hf) hS kk
    · exact kAfterV (va_runS (maxL := kMaxL y1) (ret := kRet y1) ⟨hx, hb, hml, hown, hts⟩ hMet ⟨callB_of (kArg y1) hts (kGood y1 w1) (kWs_code hh) rfl rfl (hts _ w2) (hts _ hll) hd hRm, hts _ (hK0 hk)⟩ hp rfl hn hL.1 hst (lv_room hw) hdg hf) hS kk
  · rcases hlk with ⟨hln, hnh⟩ | hll
    · exact absurd hnh hh
    · have hcw : Cond.codeWith (kNm y1) (kBytes y1) (kMaxL y1) (kRet y1) (kHh y1) ∈ kWs y1 := by rw [kWs_with hh]; exact List.mem_cons_self
      have hcw2 : Cond.codeWith (kNm y1) (kBytes y1) (kMaxL y1) (kRet y1) (kHh y1) ∈ kTbl := by
        unfold kCdW at w1
        rw [if_neg hh] at w1
        exact w1
      exact kAfterV (vx_runSW ⟨hx, hb, hml, hown, hts⟩ hMet ⟨⟨rfl, rfl, hRm.1, hRm.2, pay_in hts (kGood y1 w1), hcw⟩, hts _ hcw2, hts _ w2, ⟨hd.1, hd.2.1⟩, fun sig hsig => by have h2 := hd.2.2; rw [hsig] at h2; exact (Option.some.inj h2).symm, hts _ hll, hts _ (hK0 hk)⟩ hp rfl hn hL.1 hst (lv_room hw) hdg hf) hS kk
theorem kCallV {a ci : Nat} {fs : List Value} (IH : ∀ (y1 : Nat) (As : List Value) (h : kH) (mc ms : Nat) (P : kO → kH → Prop), kChM y1 = true → (plainName (kNm y1).cls = true ∨ ∀ E h1, ¬ P (.inr E) h1) → C y1 As h mc ms P → kMet D aC lw G l d y1 As h mc ms P) (hx : p.tables.exec = Jvm.exec) (hb : c.code = kBytes y) (hml : c.maxLocals = kMaxL y) (hown : s.vm.findClass (kCls (kCn y)) = some m.cls) (hts : ∀ w ∈ kTbl, w.before args s = true) (hK : kK D aC lw G s) (hR : kR D aC lw h H) (hS : va_S (fun q => lw ≤ q) s.heap H locs) (hL : kLo (kMaxL y) LS lo) (hroom : R.cells = MC ∧ R.slots = MS ∧ (d + 1) + 6 ≤ R.frames ∧ 64 * (d + 1) + 200 ≤ R.locals)
    (hm : kMth (kCn y) i = some y1) (hk : kKin y1 = 1) (hn : As.length = kArg y1 + 1) (hst : st0 = As.reverse ++ st) (hAs : As[0]? = some (.ref a)) (ha : h a = some (kOb ci fs)) (hci : kRcv y1 = some ci) (hw : (st.map fun v => v.category).sum ≤ 8) (hC : C y1 As h mc1 ms1 P1) (hno : ∀ E h1, ¬ P1 (.inr E) h1) (hm1 : mc1 + mc2 ≤ mc) (hm2 : ms1 + ms2 ≤ ms) (hc : cells + mc ≤ MC) (hs : slots + ms ≤ MS) (hdg : decode (kBytes y) pc = .ok (.invokevirtual i, 3))
    (kk : ∀ (v : Option Value) (h1 : kH), P1 (.inl v) h1 → ∀ (H1 : Heap) (locs1 : List Loc), kR D aC lw h1 H1 → va_S (fun q => lw ≤ q) s.heap H1 locs1 → W p l e R s m args below meth c H1 locs1 (cells + mc1) (slots + ms1) Q (F0 m (pc + 3) LS (v.toList ++ st))) : W p l e R s m args below meth c H locs cells slots Q (F0 m pc LS st0) := by
  obtain ⟨hlk, hM⟩ := kMth_ok hm
  obtain ⟨w1, w2, hd, hpl, hml40, hcl, -, hK1, -, hH0, -⟩ := kM_ok hM
  obtain ⟨r1, r2, r3, r4⟩ := hroom
  obtain ⟨x1, x2, ci', r, hci', hcr, hr1⟩ := hK1 hk
  cases hci.symm.trans hci'
  cases As with
  | nil => cases hAs
  | cons v0 As =>
  cases hAs
  have hMet := kToMet (IH y1 _ h mc1 ms1 P1 hM (Or.inr hno) hC) (fun E st t hx => by obtain ⟨i9, h9, -, hp9, -⟩ := hx; exact hno _ _ hp9)
  have hrec : ∃ cell : Cell, H[a]? = some cell ∧ cell.vm.isStatics = false ∧ s.vm.findClass (kNm y1).cls = some cell.cls := by
    rw [← hr1]
    exact va_recv hK.1 (kR.one hR ha) (ci := ci) (q0 := 0) hcr rfl
  have hp : PreV s H (kNm y1).cls a (va_Pc (.ref a :: As) (fun U => kK D aC lw G U ∧ kR D aC lw h U.heap)) As := ⟨kBlind _, hrec, fun U hU hW => ⟨rfl, kKmoved hK hS hU hW, by rw [hU]; exact hR⟩⟩
  have hRm : (kRm d mc1 ms1).frames + 1 ≤ R.frames ∧ 8 + (kMaxL y1 + 11) + (kRm d mc1 ms1).locals ≤ R.locals := ⟨by show d + 6 + 1 ≤ _; omega, by show 8 + (kMaxL y1 + 11) + (64 * d + 200) ≤ _; omega⟩
  have hf : cells + mc1 ≤ R.cells ∧ slots + ms1 ≤ R.slots := ⟨by omega, by omega⟩
  have hst' : st0 = As.reverse ++ .ref a :: st := by rw [hst]; simp
  have hn' : As.length = kArg y1 := by simpa using hn
  have hh : kHh y1 = [] := hH0.resolve_left (by omega)
  rcases hlk with ⟨hln, hnh⟩ | hll
  · exact kAfterV (va_runVN (C := (kNm y1).cls) (maxL := kMaxL y1) (ret := kRet y1) ⟨hx, hb, hml, hown, hts⟩ hMet ⟨va_cnB (kArg y1) hts (kGood y1 w1) (kWs_code hh) rfl rfl (hK.2.1 _ hln) (hts _ w2) hd hRm, hts _ x1, hts _ x2⟩ hp rfl hn' hL.1 hst' (lv_room hw) hdg hf) hS kk
  · exact kAfterV (va_runV (C := (kNm y1).cls) (maxL := kMaxL y1) (ret := kRet y1) ⟨hx, hb, hml, hown, hts⟩ hMet ⟨callB_of (kArg y1) hts (kGood y1 w1) (kWs_code hh) rfl rfl (hts _ w2) (hts _ hll) hd hRm, hts _ x1, hts _ x2⟩ hp rfl hn' hL.1 hst' (lv_room hw) hdg hf) hS kk
theorem kCallI (IH : ∀ (y1 : Nat) (As : List Value) (h : kH) (mc ms : Nat) (P : kO → kH → Prop), kChM y1 = true → (plainName (kNm y1).cls = true ∨ ∀ E h1, ¬ P (.inr E) h1) → C y1 As h mc ms P → kMet D aC lw G l d y1 As h mc ms P) (hx : p.tables.exec = Jvm.exec) (hb : c.code = kBytes y) (hml : c.maxLocals = kMaxL y) (hown : s.vm.findClass (kCls (kCn y)) = some m.cls) (hts : ∀ w ∈ kTbl, w.before args s = true) (hK : kK D aC lw G s) (hR : kR D aC lw h H) (hS : va_S (fun q => lw ≤ q) s.heap H locs) (hL : kLo (kMaxL y) LS lo) (hroom : R.cells = MC ∧ R.slots = MS ∧ (d + 1) + 6 ≤ R.frames ∧ 64 * (d + 1) + 200 ≤ R.locals)
    {a : Nat} (hm : kMth (kCn y) i = some y1) (hk : kKin y1 = 2) (hn : As.length = kArg y1 + 1) (hst : st0 = As.reverse ++ st) (hAs : As[0]? = some (.ref a)) (hw : (st.map fun v => v.category).sum ≤ 8) (hC : C y1 As h mc1 ms1 P1) (hno : ∀ E h1, ¬ P1 (.inr E) h1) (hm1 : mc1 + mc2 ≤ mc) (hm2 : ms1 + ms2 ≤ ms) (hc : cells + mc ≤ MC) (hs : slots + ms ≤ MS) (hdg : decode (kBytes y) pc = .ok (.invokespecial i, 3))
    (kk : ∀ (v : Option Value) (h1 : kH), P1 (.inl v) h1 → ∀ (H1 : Heap) (locs1 : List Loc), kR D aC lw h1 H1 → va_S (fun q => lw ≤ q) s.heap H1 locs1 → W p l e R s m args below meth c H1 locs1 (cells + mc1) (slots + ms1) Q (F0 m (pc + 3) LS (v.toList ++ st))) : W p l e R s m args below meth c H locs cells slots Q (F0 m pc LS st0) := by
  obtain ⟨hlk, hM⟩ := kMth_ok hm
  obtain ⟨w1, w2, hd, hpl, hml40, hcl, -, -, hK2, hH0, hH2⟩ := kM_ok hM
  obtain ⟨r1, r2, r3, r4⟩ := hroom
  obtain ⟨x1, x2⟩ := hK2 hk
  cases As with
  | nil => cases hAs
  | cons v0 As =>
  cases hAs
  have hMet := kToMet (IH y1 _ h mc1 ms1 P1 hM (Or.inr hno) hC) (fun E st t hx => by obtain ⟨i9, h9, -, hp9, -⟩ := hx; exact hno _ _ hp9)
  have hp : PreS s H (va_Pc (.ref a :: As) (fun U => kK D aC lw G U ∧ kR D aC lw h U.heap)) (.ref a :: As) := ⟨kBlind _, fun U hU hW => ⟨rfl, kKmoved hK hS hU hW, by rw [hU]; exact hR⟩⟩
  have hRm : (kRm d mc1 ms1).frames + 1 ≤ R.frames ∧ 8 + (kMaxL y1 + 11) + (kRm d mc1 ms1).locals ≤ R.locals := ⟨by show d + 6 + 1 ≤ _; omega, by show 8 + (kMaxL y1 + 11) + (64 * d + 200) ≤ _; omega⟩
  have hf : cells + mc1 ≤ R.cells ∧ slots + ms1 ≤ R.slots := ⟨by omega, by omega⟩
  have hst' : st0 = As.reverse ++ .ref a :: st := by rw [hst]; simp
  have hn' : As.length = kArg y1 := by simpa using hn
  have hh : kHh y1 = [] := hH0.resolve_left (by omega)
  have hrt := hH2 hk
  have hww : kWs y1 = Cond.code (kNm y1) (kBytes y1) (kMaxL y1) none :: kTbl := by rw [kWs_code hh, hrt]
  rcases hlk with ⟨hln, hnh⟩ | hll
  · exact kAfterV (va_runIN (maxL := kMaxL y1) ⟨hx, hb, hml, hown, hts⟩ hMet ⟨va_cnB (kArg y1) hts (kGood y1 w1) hww rfl rfl (hK.2.1 _ hln) (hts _ w2) hd hRm, x2, hts _ x1⟩ hp rfl hn' hL.1 hst' (lv_room hw) hdg hf) hS kk
  · exact kAfterV (va_runI (maxL := kMaxL y1) ⟨hx, hb, hml, hown, hts⟩ hMet ⟨callB_of (kArg y1) hts (kGood y1 w1) hww rfl rfl (hts _ w2) (hts _ hll) hd hRm, x2, hts _ x1⟩ hp rfl hn' hL.1 hst' (lv_room hw) hdg hf) hS kk
theorem kAfterX {a : Array Value} (hr : vx_Run p l e R s m args below meth c H locs cells slots mc1 ms1 (F0 m pc LS st0) st (kQ D aC lw P1 a) (kXC D aC lw P1) (fun q => lw ≤ q)) (hS : va_S (fun q => lw ≤ q) s.heap H locs)
    (kk : ∀ (v : Option Value) (h1 : kH), P1 (.inl v) h1 → ∀ (H1 : Heap) (locs1 : List Loc), kR D aC lw h1 H1 → va_S (fun q => lw ≤ q) s.heap H1 locs1 → W p l e R s m args below meth c H1 locs1 (cells + mc1) (slots + ms1) Q (F0 m (pc + 3) LS (v.toList ++ st)))
    (kx : ∀ (E q : Nat) (ce : Cell) (h1 : kH), P1 (.inr E) h1 → ∀ (H1 : Heap) (locs1 : List Loc), kR D aC lw h1 H1 → va_S (fun q => lw ≤ q) s.heap H1 locs1 → H1[q]? = some ce → ce.vm = .none → s.vm.findClass (kExn E) = some ce.cls → vx_W p l e R s m args below meth c H1 locs1 (cells + mc1) (slots + ms1) Q (F0 m pc LS st) q) : W p l e R s m args below meth c H locs cells slots Q (F0 m pc LS st0) := by
  intro T hT X
  rcases hr T hT X with ⟨v, st₀, t, T', L, h0, X', hL, e1, e2, ⟨⟨v', h1, hv, hp, hR1⟩, hF⟩, stp⟩ | ⟨q, st₀, t, T', L, E, ce, h0, X', hL, e1, e2, ⟨i, h1, hE, hp, hR1, hF⟩, hce, hcv, hcl, stp⟩
  · cases hv
    obtain ⟨k1, k2, k3⟩ := vx_keep h0 e1 hS (fun q _ h => h) (fun q h => h) hL hF
    obtain ⟨t2, a1, b1⟩ := kk v h1 hp T'.heap (locs ++ L) (by rw [e1]; exact hR1) k3 T' rfl X'
    exact ⟨t2, stp t2 a1, b1⟩
  · subst hE
    obtain ⟨k1, k2, k3⟩ := vx_keep h0 e1 hS (fun q _ h => h) (fun q h => h) hL hF
    obtain ⟨t2, a1, b1⟩ := kx i q ce h1 hp T'.heap (locs ++ L) (by rw [e1]; exact hR1) k3 (by rw [e1]; exact hce) hcv hcl T' rfl X'
    exact ⟨t2, stp.trans a1, b1⟩
theorem kCatch {E q hp : Nat} {ce : Cell} (hown : s.vm.findClass (kCls (kCn y)) = some m.cls) (hts : ∀ w ∈ kTbl, w.before args s = true) (hK : kK D aC lw G s) (hexh : kHh y = [] ∨ c.exceptionTable.toList = tableOf (kHh y)) (hh : kHan y pc E = some hp) (hce : H[q]? = some ce) (hcv : ce.vm = .none) (hcl : s.vm.findClass (kExn E) = some ce.cls)
    (kk : W p l e R s m args below meth c H locs cells slots Q (F0 m hp LS [.ref q])) : vx_W p l e R s m args below meth c H locs cells slots Q (F0 m pc LS st) q := by
  obtain ⟨k, hch⟩ := kHan_ok hh
  unfold kChH at hch
  dsimp only at hch
  rw [Bool.and_eq_true] at hch
  obtain ⟨t1, t2⟩ := hch
  have t1 := of_decide_eq_true t1
  rw [t1] at hown
  have hnst : ∀ w ∈ kNst, w.before args s = true := fun w hw => va_Nw.use (kNst_onT w hw) (hK.2.1 w hw)
  split at t2
  · split at t2
    · rename_i e0 rest he
      rw [Bool.and_eq_true] at t2
      obtain ⟨u1, u2, u3⟩ := of_decide_eq_true t2.1
      have htab : c.exceptionTable.toList = tableOf (e0 :: rest) := by
        rcases hexh with h9 | h9
        · rw [h9] at he; cases he
        · rw [h9, he]
      obtain ⟨a0, b0, c0, d0⟩ := e0
      dsimp only at u1 u2 u3
      subst u3
      rcases of_decide_eq_true t2.2 with ⟨v1, v2⟩ | ⟨v1, v2⟩
      · dsimp only at v2
        subst v1; subst v2
        exact vx_catch hown [] _ (tableOf rest) htab (fun z hz => nomatch hz) (by simp [covers, u1, u2]) (by simp) (hts _ kT_c0) (hnst _ kT_s0) hce hcv hcl kk
      · dsimp only at v2
        subst v1; subst v2
        exact vx_catch hown [] _ (tableOf rest) htab (fun z hz => nomatch hz) (by simp [covers, u1, u2]) (by simp) (hts _ kT_c1) (hnst _ kT_s1) hce hcv hcl kk
    · cases t2
  · split at t2
    · rename_i e0 e1 rest he
      simp only [Bool.and_eq_true] at t2
      obtain ⟨⟨s1, s2⟩, s3⟩ := t2
      have s1 := of_decide_eq_true s1
      obtain ⟨u1, u2, u3⟩ := of_decide_eq_true s2
      obtain ⟨v1, v2⟩ := of_decide_eq_true s3
      have htab : c.exceptionTable.toList = tableOf (e0 :: e1 :: rest) := by
        rcases hexh with h9 | h9
        · rw [h9] at he; cases he
        · rw [h9, he]
      obtain ⟨a0, b0, c0, d0⟩ := e0
      obtain ⟨a1, b1, c1, d1⟩ := e1
      dsimp only at s1 u1 u2 u3 v2
      subst u3; subst v1; subst v2; subst s1
      exact vx_catch hown (tableOf [(a0, b0, c0, 13)]) _ (tableOf rest) htab (fun z hz => Or.inr (by
          have hz' : z ∈ tableOf [(a0, b0, c0, 13)] := hz
          simp [tableOf] at hz'
          subst hz'
          exact ⟨by simp, _, hts _ kT_c0, hK.2.2.2.2.2.2.2.2.2.2⟩)) (by simp [covers, u1, u2]) (by simp) (hts _ kT_c1) (hnst _ kT_s1) hce hcv hcl kk
    · cases t2
theorem kCallX {a ci : Nat} {fs : List Value} (IH : ∀ (y1 : Nat) (As : List Value) (h : kH) (mc ms : Nat) (P : kO → kH → Prop), kChM y1 = true → (plainName (kNm y1).cls = true ∨ ∀ E h1, ¬ P (.inr E) h1) → C y1 As h mc ms P → kMet D aC lw G l d y1 As h mc ms P) (hx : p.tables.exec = Jvm.exec) (hb : c.code = kBytes y) (hml : c.maxLocals = kMaxL y) (hown : s.vm.findClass (kCls (kCn y)) = some m.cls) (hts : ∀ w ∈ kTbl, w.before args s = true) (hK : kK D aC lw G s) (hexh : kHh y = [] ∨ c.exceptionTable.toList = tableOf (kHh y)) (hR : kR D aC lw h H) (hS : va_S (fun q => lw ≤ q) s.heap H locs) (hL : kLo (kMaxL y) LS lo) (hroom : R.cells = MC ∧ R.slots = MS ∧ (d + 1) + 6 ≤ R.frames ∧ 64 * (d + 1) + 200 ≤ R.locals)
    (hm : kMth (kCn y) i = some y1) (hk : kKin y1 = 1) (hn : As.length = kArg y1 + 1) (hst : st0 = As.reverse ++ st) (hAs : As[0]? = some (.ref a)) (ha : h a = some (kOb ci fs)) (hci : kRcv y1 = some ci) (hpl : kCls (kCn y1) = "RelationDesk") (hlw : kCls (kCn y) = "RelationDeskLaw") (hdl : ∀ E h1, P1 (.inr E) h1 → ∃ hp, kHan y pc E = some hp) (hw : (st.map fun v => v.category).sum ≤ 8) (hC : C y1 As h mc1 ms1 P1) (hm1 : mc1 + mc2 ≤ mc) (hm2 : ms1 + ms2 ≤ ms) (hc : cells + mc ≤ MC) (hs : slots + ms ≤ MS) (hdg : decode (kBytes y) pc = .ok (.invokevirtual i, 3))
    (kk : ∀ (v : Option Value) (h1 : kH), P1 (.inl v) h1 → ∀ (H1 : Heap) (locs1 : List Loc), kR D aC lw h1 H1 → va_S (fun q => lw ≤ q) s.heap H1 locs1 → W p l e R s m args below meth c H1 locs1 (cells + mc1) (slots + ms1) Q (F0 m (pc + 3) LS (v.toList ++ st)))
    (kx : ∀ (E q hp : Nat) (h1 : kH), P1 (.inr E) h1 → kHan y pc E = some hp → ∀ (H1 : Heap) (locs1 : List Loc), kR D aC lw h1 H1 → va_S (fun q => lw ≤ q) s.heap H1 locs1 → W p l e R s m args below meth c H1 locs1 (cells + mc1) (slots + ms1) Q (F0 m hp LS [.ref q])) : W p l e R s m args below meth c H locs cells slots Q (F0 m pc LS st0) := by
  obtain ⟨hlk, hM⟩ := kMth_ok hm
  obtain ⟨w1, w2, hd, -, hml40, hcl, -, hK1, -, hH0, -⟩ := kM_ok hM
  obtain ⟨r1, r2, r3, r4⟩ := hroom
  obtain ⟨x1, x2, ci', r, hci', hcr, hr1⟩ := hK1 hk
  cases hci.symm.trans hci'
  cases As with
  | nil => cases hAs
  | cons v0 As =>
  cases hAs
  have hpn : plainName (kNm y1).cls = true := by rw [← hcl, hpl]; decide +kernel
  have hMet := IH y1 _ h mc1 ms1 P1 hM (Or.inl hpn) hC
  have hrec : ∃ cell : Cell, H[a]? = some cell ∧ cell.vm.isStatics = false ∧ s.vm.findClass (kNm y1).cls = some cell.cls := by
    rw [← hr1]
    exact va_recv hK.1 (kR.one hR ha) (ci := ci) (q0 := 0) hcr rfl
  have hp : PreV s H (kNm y1).cls a (va_Pc (.ref a :: As) (fun U => kK D aC lw G U ∧ kR D aC lw h U.heap)) As := ⟨kBlind _, hrec, fun U hU hW => ⟨rfl, kKmoved hK hS hU hW, by rw [hU]; exact hR⟩⟩
  have hRm : (kRm d mc1 ms1).frames + 1 ≤ R.frames ∧ 8 + (kMaxL y1 + 11) + (kRm d mc1 ms1).locals ≤ R.locals := ⟨by show d + 6 + 1 ≤ _; omega, by show 8 + (kMaxL y1 + 11) + (64 * d + 200) ≤ _; omega⟩
  have hf : cells + mc1 ≤ R.cells ∧ slots + ms1 ≤ R.slots := ⟨by omega, by omega⟩
  have hst' : st0 = As.reverse ++ .ref a :: st := by rw [hst]; simp
  have hn' : As.length = kArg y1 := by simpa using hn
  have hh : kHh y1 = [] := hH0.resolve_left (by omega)
  rcases hlk with ⟨hln, hnh⟩ | hll
  · rw [hlw] at hln
    exact absurd hln (kNst_law _ _)
  · exact kAfterX (vx_runV (C := (kNm y1).cls) (maxL := kMaxL y1) (ret := kRet y1) ⟨hx, hb, hml, hown, hts⟩ hMet ⟨callB_of (kArg y1) hts (kGood y1 w1) (kWs_code hh) rfl rfl (hts _ w2) (hts _ hll) hd hRm, hts _ x1, hts _ x2⟩ hp rfl hn' hL.1 hst' (lv_room hw) hdg hf) hS kk
      (fun E q ce h1 hP1 H1 locs1 hR1 hS1 hce hcv hcl9 => by
        obtain ⟨hp9, hh9⟩ := hdl E h1 hP1
        exact kCatch hown hts hK hexh hh9 hce hcv hcl9 (kx E q hp9 h1 hP1 hh9 H1 locs1 hR1 hS1))
end KCALL
end KS
/-- what is owed at a method's ends -/
def kEnds (D : va_G) (aC : Nat → ClassId) (lw : Nat) (p : Program) (l : Launch) (e : Env) (R : Room) (s : State) (m : MethodId) (args : Array Value) (below : List Frame) (meth : Method) (c : Code) (Q : State → Prop) (y : Nat) (P : kO → kH → Prop) (MC MS : Nat) : Prop :=
  (∀ (pc : Nat) (x : Int32) (ty : FieldType) (h : kH) (H : Heap) (locs : List Loc) (cells slots : Nat) (LS : Array Slot), decode (kBytes y) pc = .ok (.ireturn, 1) → kRet y = some ty → narrow ty (.int x) = .int x → P (.inl (some (.int x))) h → kR D aC lw h H → va_S (fun q => lw ≤ q) s.heap H locs → cells ≤ MC → slots ≤ MS → W p l e R s m args below meth c H locs cells slots Q (F0 m pc LS [.int x])) ∧
  (∀ (pc : Nat) (v : Value) (h : kH) (H : Heap) (locs : List Loc) (cells slots : Nat) (LS : Array Slot), decode (kBytes y) pc = .ok (.areturn, 1) → kRrf y = true → v.isRef = true → P (.inl (some v)) h → kR D aC lw h H → va_S (fun q => lw ≤ q) s.heap H locs → cells ≤ MC → slots ≤ MS → W p l e R s m args below meth c H locs cells slots Q (F0 m pc LS [v])) ∧
  (∀ (pc : Nat) (h : kH) (H : Heap) (locs : List Loc) (cells slots : Nat) (LS : Array Slot), decode (kBytes y) pc = .ok (.return_, 1) → kRet y = none → P (.inl none) h → kR D aC lw h H → va_S (fun q => lw ≤ q) s.heap H locs → cells ≤ MC → slots ≤ MS → W p l e R s m args below meth c H locs cells slots Q (F0 m pc LS [])) ∧
  (∀ (pc E : Nat) (st : List Value) (h : kH) (lo : kL) (H : Heap) (locs : List Loc) (cells slots : Nat) (LS : Array Slot), kThr y pc = some E → (st.map fun v => v.category).sum ≤ 8 → P (.inr E) h → kR D aC lw h H → va_S (fun q => lw ≤ q) s.heap H locs → kLo (kMaxL y) LS lo → cells + 1 ≤ MC → slots + 6 ≤ MS → W p l e R s m args below meth c H locs cells slots Q (F0 m pc LS st))
def kZ (D : va_G) (aC : Nat → ClassId) (lw : Nat) (G : kG) (p : Program) (l : Launch) (e : Env) (R : Room) (s : State) (m : MethodId) (args : Array Value) (below : List Frame) (meth : Method) (c : Code) (Q : State → Prop) (y : Nat) (C : kCl) (P : kO → kH → Prop) (d MC MS : Nat) : Prop :=
  p.tables.exec = Jvm.exec ∧ c.code = kBytes y ∧ c.maxLocals = kMaxL y ∧ s.vm.findClass (kCls (kCn y)) = some m.cls ∧ (∀ w ∈ kTbl, w.before args s = true) ∧ kK D aC lw G s ∧ (kIni y = true → meth.name = "<init>") ∧ (R.cells = MC ∧ R.slots = MS ∧ (d + 1) + 6 ≤ R.frames ∧ 64 * (d + 1) + 200 ≤ R.locals) ∧ (kHh y = [] ∨ c.exceptionTable.toList = tableOf (kHh y)) ∧
  (∀ (y1 : Nat) (As : List Value) (h : kH) (mc ms : Nat) (P : kO → kH → Prop), kChM y1 = true → (plainName (kNm y1).cls = true ∨ ∀ E h1, ¬ P (.inr E) h1) → C y1 As h mc ms P → kMet D aC lw G l d y1 As h mc ms P) ∧ kEnds D aC lw p l e R s m args below meth c Q y P MC MS
set_option maxHeartbeats 1000000 in
theorem ks_iconst {D : va_G} {aC : Nat → ClassId} {lw : Nat} {G : kG} {p : Program} {l : Launch} {e : Env} {R : Room} {s : State} {m : MethodId} {args : Array Value} {below : List Frame} {meth : Method} {c : Code} {Q : State → Prop} {y : Nat} {C : kCl} {P : kO → kH → Prop} {d MC MS : Nat} (Z : kZ D aC lw G p l e R s m args below meth c Q y C P d MC MS) : kc_iconst G y C P (kOK aC D lw y p l e R s m args below meth c Q MC MS) := by
  obtain ⟨hx, hb, hml, hown, hts, hK, hini, hroom, hexh, IH, hend⟩ := Z
  intro pc lo st h mc ms n v hd hv k1 H locs cells slots LS hR hS hL hc hs
  exact lv_iconst hx hb (kDec hd) hv (k1 H locs cells slots LS hR hS hL hc hs)
set_option maxHeartbeats 1000000 in
theorem ks_bipush {D : va_G} {aC : Nat → ClassId} {lw : Nat} {G : kG} {p : Program} {l : Launch} {e : Env} {R : Room} {s : State} {m : MethodId} {args : Array Value} {below : List Frame} {meth : Method} {c : Code} {Q : State → Prop} {y : Nat} {C : kCl} {P : kO → kH → Prop} {d MC MS : Nat} (Z : kZ D aC lw G p l e R s m args below meth c Q y C P d MC MS) : kc_bipush G y C P (kOK aC D lw y p l e R s m args below meth c Q MC MS) := by
  obtain ⟨hx, hb, hml, hown, hts, hK, hini, hroom, hexh, IH, hend⟩ := Z
  intro pc lo st h mc ms n v hd hv k1 H locs cells slots LS hR hS hL hc hs
  exact lv_bipush hx hb (kDec hd) hv (k1 H locs cells slots LS hR hS hL hc hs)
set_option maxHeartbeats 1000000 in
theorem ks_sipush {D : va_G} {aC : Nat → ClassId} {lw : Nat} {G : kG} {p : Program} {l : Launch} {e : Env} {R : Room} {s : State} {m : MethodId} {args : Array Value} {below : List Frame} {meth : Method} {c : Code} {Q : State → Prop} {y : Nat} {C : kCl} {P : kO → kH → Prop} {d MC MS : Nat} (Z : kZ D aC lw G p l e R s m args below meth c Q y C P d MC MS) : kc_sipush G y C P (kOK aC D lw y p l e R s m args below meth c Q MC MS) := by
  obtain ⟨hx, hb, hml, hown, hts, hK, hini, hroom, hexh, IH, hend⟩ := Z
  intro pc lo st h mc ms n v hd hv k1 H locs cells slots LS hR hS hL hc hs
  exact lv_sipush hx hb (kDec hd) hv (k1 H locs cells slots LS hR hS hL hc hs)
set_option maxHeartbeats 1000000 in
theorem ks_null {D : va_G} {aC : Nat → ClassId} {lw : Nat} {G : kG} {p : Program} {l : Launch} {e : Env} {R : Room} {s : State} {m : MethodId} {args : Array Value} {below : List Frame} {meth : Method} {c : Code} {Q : State → Prop} {y : Nat} {C : kCl} {P : kO → kH → Prop} {d MC MS : Nat} (Z : kZ D aC lw G p l e R s m args below meth c Q y C P d MC MS) : kc_null G y C P (kOK aC D lw y p l e R s m args below meth c Q MC MS) := by
  obtain ⟨hx, hb, hml, hown, hts, hK, hini, hroom, hexh, IH, hend⟩ := Z
  intro pc lo st h mc ms hd k1 H locs cells slots LS hR hS hL hc hs
  exact lv_null hx hb (kDec hd) (k1 H locs cells slots LS hR hS hL hc hs)
set_option maxHeartbeats 1000000 in
theorem ks_lconst {D : va_G} {aC : Nat → ClassId} {lw : Nat} {G : kG} {p : Program} {l : Launch} {e : Env} {R : Room} {s : State} {m : MethodId} {args : Array Value} {below : List Frame} {meth : Method} {c : Code} {Q : State → Prop} {y : Nat} {C : kCl} {P : kO → kH → Prop} {d MC MS : Nat} (Z : kZ D aC lw G p l e R s m args below meth c Q y C P d MC MS) : kc_lconst G y C P (kOK aC D lw y p l e R s m args below meth c Q MC MS) := by
  obtain ⟨hx, hb, hml, hown, hts, hK, hini, hroom, hexh, IH, hend⟩ := Z
  intro pc lo st h mc ms n v hd hv k1 H locs cells slots LS hR hS hL hc hs
  exact lv_lconst hx hb (kDec hd) hv (k1 H locs cells slots LS hR hS hL hc hs)
set_option maxHeartbeats 1000000 in
theorem ks_ldc {D : va_G} {aC : Nat → ClassId} {lw : Nat} {G : kG} {p : Program} {l : Launch} {e : Env} {R : Room} {s : State} {m : MethodId} {args : Array Value} {below : List Frame} {meth : Method} {c : Code} {Q : State → Prop} {y : Nat} {C : kCl} {P : kO → kH → Prop} {d MC MS : Nat} (Z : kZ D aC lw G p l e R s m args below meth c Q y C P d MC MS) : kc_ldc G y C P (kOK aC D lw y p l e R s m args below meth c Q MC MS) := by
  obtain ⟨hx, hb, hml, hown, hts, hK, hini, hroom, hexh, IH, hend⟩ := Z
  intro pc lo st h mc ms i v hd hv k1 H locs cells slots LS hR hS hL hc hs
  exact lv_ldc hx hb hown (hts _ (kCst_ok hv)) (kDec hd) (k1 H locs cells slots LS hR hS hL hc hs)
set_option maxHeartbeats 1000000 in
theorem ks_iload_n {D : va_G} {aC : Nat → ClassId} {lw : Nat} {G : kG} {p : Program} {l : Launch} {e : Env} {R : Room} {s : State} {m : MethodId} {args : Array Value} {below : List Frame} {meth : Method} {c : Code} {Q : State → Prop} {y : Nat} {C : kCl} {P : kO → kH → Prop} {d MC MS : Nat} (Z : kZ D aC lw G p l e R s m args below meth c Q y C P d MC MS) : kc_iload_n G y C P (kOK aC D lw y p l e R s m args below meth c Q MC MS) := by
  obtain ⟨hx, hb, hml, hown, hts, hK, hini, hroom, hexh, IH, hend⟩ := Z
  intro pc lo st h mc ms k x hd hl k1 H locs cells slots LS hR hS hL hc hs
  exact lv_iload_n hx hb (kDec hd) rfl (hL.at hl) (k1 H locs cells slots LS hR hS hL hc hs)
set_option maxHeartbeats 1000000 in
theorem ks_iload {D : va_G} {aC : Nat → ClassId} {lw : Nat} {G : kG} {p : Program} {l : Launch} {e : Env} {R : Room} {s : State} {m : MethodId} {args : Array Value} {below : List Frame} {meth : Method} {c : Code} {Q : State → Prop} {y : Nat} {C : kCl} {P : kO → kH → Prop} {d MC MS : Nat} (Z : kZ D aC lw G p l e R s m args below meth c Q y C P d MC MS) : kc_iload G y C P (kOK aC D lw y p l e R s m args below meth c Q MC MS) := by
  obtain ⟨hx, hb, hml, hown, hts, hK, hini, hroom, hexh, IH, hend⟩ := Z
  intro pc lo st h mc ms k x hd hl k1 H locs cells slots LS hR hS hL hc hs
  exact lv_iload hx hb (kDec hd) (hL.at hl) (k1 H locs cells slots LS hR hS hL hc hs)
set_option maxHeartbeats 1000000 in
theorem ks_aload_n {D : va_G} {aC : Nat → ClassId} {lw : Nat} {G : kG} {p : Program} {l : Launch} {e : Env} {R : Room} {s : State} {m : MethodId} {args : Array Value} {below : List Frame} {meth : Method} {c : Code} {Q : State → Prop} {y : Nat} {C : kCl} {P : kO → kH → Prop} {d MC MS : Nat} (Z : kZ D aC lw G p l e R s m args below meth c Q y C P d MC MS) : kc_aload_n G y C P (kOK aC D lw y p l e R s m args below meth c Q MC MS) := by
  obtain ⟨hx, hb, hml, hown, hts, hK, hini, hroom, hexh, IH, hend⟩ := Z
  intro pc lo st h mc ms k v hd hl hv k1 H locs cells slots LS hR hS hL hc hs
  have hq := (hL.at hl)
  cases v with
  | ref x => exact lv_aload_n hx hb (kDec hd) rfl hq (k1 H locs cells slots LS hR hS hL hc hs)
  | null => exact lv_aload_nN hx hb (kDec hd) rfl hq (k1 H locs cells slots LS hR hS hL hc hs)
  | _ => simp [Value.isRef] at hv
set_option maxHeartbeats 1000000 in
theorem ks_aload {D : va_G} {aC : Nat → ClassId} {lw : Nat} {G : kG} {p : Program} {l : Launch} {e : Env} {R : Room} {s : State} {m : MethodId} {args : Array Value} {below : List Frame} {meth : Method} {c : Code} {Q : State → Prop} {y : Nat} {C : kCl} {P : kO → kH → Prop} {d MC MS : Nat} (Z : kZ D aC lw G p l e R s m args below meth c Q y C P d MC MS) : kc_aload G y C P (kOK aC D lw y p l e R s m args below meth c Q MC MS) := by
  obtain ⟨hx, hb, hml, hown, hts, hK, hini, hroom, hexh, IH, hend⟩ := Z
  intro pc lo st h mc ms k v hd hl hv k1 H locs cells slots LS hR hS hL hc hs
  have hq := (hL.at hl)
  cases v with
  | ref x => exact lv_aload hx hb (kDec hd) hq (k1 H locs cells slots LS hR hS hL hc hs)
  | null => exact lv_aloadN hx hb (kDec hd) hq (k1 H locs cells slots LS hR hS hL hc hs)
  | _ => simp [Value.isRef] at hv
set_option maxHeartbeats 1000000 in
theorem ks_istore_n {D : va_G} {aC : Nat → ClassId} {lw : Nat} {G : kG} {p : Program} {l : Launch} {e : Env} {R : Room} {s : State} {m : MethodId} {args : Array Value} {below : List Frame} {meth : Method} {c : Code} {Q : State → Prop} {y : Nat} {C : kCl} {P : kO → kH → Prop} {d MC MS : Nat} (Z : kZ D aC lw G p l e R s m args below meth c Q y C P d MC MS) : kc_istore_n G y C P (kOK aC D lw y p l e R s m args below meth c Q MC MS) := by
  obtain ⟨hx, hb, hml, hown, hts, hK, hini, hroom, hexh, IH, hend⟩ := Z
  intro pc lo st h mc ms k x lo2 hd hk he k1 H locs cells slots LS hR hS hL hc hs
  exact lv_istore_n hx hb (kDec hd) rfl hL.has (hL.lt hk) rfl (fun LS2 hL2 => k1 H locs cells slots LS2 hR hS (he ▸ kLo.of hL hL2 rfl) hc hs)
set_option maxHeartbeats 1000000 in
theorem ks_istore {D : va_G} {aC : Nat → ClassId} {lw : Nat} {G : kG} {p : Program} {l : Launch} {e : Env} {R : Room} {s : State} {m : MethodId} {args : Array Value} {below : List Frame} {meth : Method} {c : Code} {Q : State → Prop} {y : Nat} {C : kCl} {P : kO → kH → Prop} {d MC MS : Nat} (Z : kZ D aC lw G p l e R s m args below meth c Q y C P d MC MS) : kc_istore G y C P (kOK aC D lw y p l e R s m args below meth c Q MC MS) := by
  obtain ⟨hx, hb, hml, hown, hts, hK, hini, hroom, hexh, IH, hend⟩ := Z
  intro pc lo st h mc ms k x lo2 hd hk he k1 H locs cells slots LS hR hS hL hc hs
  exact lv_istore hx hb (kDec hd) hL.has (hL.lt hk) rfl (fun LS2 hL2 => k1 H locs cells slots LS2 hR hS (he ▸ kLo.of hL hL2 rfl) hc hs)
set_option maxHeartbeats 1000000 in
theorem ks_astore_n {D : va_G} {aC : Nat → ClassId} {lw : Nat} {G : kG} {p : Program} {l : Launch} {e : Env} {R : Room} {s : State} {m : MethodId} {args : Array Value} {below : List Frame} {meth : Method} {c : Code} {Q : State → Prop} {y : Nat} {C : kCl} {P : kO → kH → Prop} {d MC MS : Nat} (Z : kZ D aC lw G p l e R s m args below meth c Q y C P d MC MS) : kc_astore_n G y C P (kOK aC D lw y p l e R s m args below meth c Q MC MS) := by
  obtain ⟨hx, hb, hml, hown, hts, hK, hini, hroom, hexh, IH, hend⟩ := Z
  intro pc lo st h mc ms k v lo2 hd hk hv he k1 H locs cells slots LS hR hS hL hc hs
  cases v with
  | ref x => exact lv_astore_n hx hb (kDec hd) rfl hL.has (hL.lt hk) rfl (fun LS2 hL2 => k1 H locs cells slots LS2 hR hS (he ▸ kLo.of hL hL2 rfl) hc hs)
  | null => exact lv_astore_nN hx hb (kDec hd) rfl hL.has (hL.lt hk) rfl (fun LS2 hL2 => k1 H locs cells slots LS2 hR hS (he ▸ kLo.of hL hL2 rfl) hc hs)
  | _ => simp [Value.isRef] at hv
set_option maxHeartbeats 1000000 in
theorem ks_astore {D : va_G} {aC : Nat → ClassId} {lw : Nat} {G : kG} {p : Program} {l : Launch} {e : Env} {R : Room} {s : State} {m : MethodId} {args : Array Value} {below : List Frame} {meth : Method} {c : Code} {Q : State → Prop} {y : Nat} {C : kCl} {P : kO → kH → Prop} {d MC MS : Nat} (Z : kZ D aC lw G p l e R s m args below meth c Q y C P d MC MS) : kc_astore G y C P (kOK aC D lw y p l e R s m args below meth c Q MC MS) := by
  obtain ⟨hx, hb, hml, hown, hts, hK, hini, hroom, hexh, IH, hend⟩ := Z
  intro pc lo st h mc ms k v lo2 hd hk hv he k1 H locs cells slots LS hR hS hL hc hs
  cases v with
  | ref x => exact lv_astore hx hb (kDec hd) hL.has (hL.lt hk) rfl (fun LS2 hL2 => k1 H locs cells slots LS2 hR hS (he ▸ kLo.of hL hL2 rfl) hc hs)
  | null => exact lv_astoreN hx hb (kDec hd) hL.has (hL.lt hk) rfl (fun LS2 hL2 => k1 H locs cells slots LS2 hR hS (he ▸ kLo.of hL hL2 rfl) hc hs)
  | _ => simp [Value.isRef] at hv
set_option maxHeartbeats 1000000 in
theorem ks_iinc {D : va_G} {aC : Nat → ClassId} {lw : Nat} {G : kG} {p : Program} {l : Launch} {e : Env} {R : Room} {s : State} {m : MethodId} {args : Array Value} {below : List Frame} {meth : Method} {c : Code} {Q : State → Prop} {y : Nat} {C : kCl} {P : kO → kH → Prop} {d MC MS : Nat} (Z : kZ D aC lw G p l e R s m args below meth c Q y C P d MC MS) : kc_iinc G y C P (kOK aC D lw y p l e R s m args below meth c Q MC MS) := by
  obtain ⟨hx, hb, hml, hown, hts, hK, hini, hroom, hexh, IH, hend⟩ := Z
  intro pc lo st h mc ms k n x v lo2 hd hl hv he k1 H locs cells slots LS hR hS hL hc hs
  obtain ⟨j, hj⟩ := kl_at hl
  exact lv_iinc hx hb (kDec hd) hL.has hj hv (hL.lt (kLt hl)) rfl (fun LS2 hL2 => k1 H locs cells slots LS2 hR hS (he ▸ kLo.of hL hL2 rfl) hc hs)
set_option maxHeartbeats 1000000 in
theorem ks_iadd {D : va_G} {aC : Nat → ClassId} {lw : Nat} {G : kG} {p : Program} {l : Launch} {e : Env} {R : Room} {s : State} {m : MethodId} {args : Array Value} {below : List Frame} {meth : Method} {c : Code} {Q : State → Prop} {y : Nat} {C : kCl} {P : kO → kH → Prop} {d MC MS : Nat} (Z : kZ D aC lw G p l e R s m args below meth c Q y C P d MC MS) : kc_iadd G y C P (kOK aC D lw y p l e R s m args below meth c Q MC MS) := by
  obtain ⟨hx, hb, hml, hown, hts, hK, hini, hroom, hexh, IH, hend⟩ := Z
  intro pc lo st h mc ms x z hd k1 H locs cells slots LS hR hS hL hc hs
  exact lv_iadd hx hb (kDec hd) (k1 H locs cells slots LS hR hS hL hc hs)
set_option maxHeartbeats 1000000 in
theorem ks_isub {D : va_G} {aC : Nat → ClassId} {lw : Nat} {G : kG} {p : Program} {l : Launch} {e : Env} {R : Room} {s : State} {m : MethodId} {args : Array Value} {below : List Frame} {meth : Method} {c : Code} {Q : State → Prop} {y : Nat} {C : kCl} {P : kO → kH → Prop} {d MC MS : Nat} (Z : kZ D aC lw G p l e R s m args below meth c Q y C P d MC MS) : kc_isub G y C P (kOK aC D lw y p l e R s m args below meth c Q MC MS) := by
  obtain ⟨hx, hb, hml, hown, hts, hK, hini, hroom, hexh, IH, hend⟩ := Z
  intro pc lo st h mc ms x z hd k1 H locs cells slots LS hR hS hL hc hs
  exact lv_isub hx hb (kDec hd) (k1 H locs cells slots LS hR hS hL hc hs)
set_option maxHeartbeats 1000000 in
theorem ks_imul {D : va_G} {aC : Nat → ClassId} {lw : Nat} {G : kG} {p : Program} {l : Launch} {e : Env} {R : Room} {s : State} {m : MethodId} {args : Array Value} {below : List Frame} {meth : Method} {c : Code} {Q : State → Prop} {y : Nat} {C : kCl} {P : kO → kH → Prop} {d MC MS : Nat} (Z : kZ D aC lw G p l e R s m args below meth c Q y C P d MC MS) : kc_imul G y C P (kOK aC D lw y p l e R s m args below meth c Q MC MS) := by
  obtain ⟨hx, hb, hml, hown, hts, hK, hini, hroom, hexh, IH, hend⟩ := Z
  intro pc lo st h mc ms x z hd k1 H locs cells slots LS hR hS hL hc hs
  exact lv_imul hx hb (kDec hd) (k1 H locs cells slots LS hR hS hL hc hs)
set_option maxHeartbeats 1000000 in
theorem ks_iand {D : va_G} {aC : Nat → ClassId} {lw : Nat} {G : kG} {p : Program} {l : Launch} {e : Env} {R : Room} {s : State} {m : MethodId} {args : Array Value} {below : List Frame} {meth : Method} {c : Code} {Q : State → Prop} {y : Nat} {C : kCl} {P : kO → kH → Prop} {d MC MS : Nat} (Z : kZ D aC lw G p l e R s m args below meth c Q y C P d MC MS) : kc_iand G y C P (kOK aC D lw y p l e R s m args below meth c Q MC MS) := by
  obtain ⟨hx, hb, hml, hown, hts, hK, hini, hroom, hexh, IH, hend⟩ := Z
  intro pc lo st h mc ms x z hd k1 H locs cells slots LS hR hS hL hc hs
  exact lv_iand hx hb (kDec hd) (k1 H locs cells slots LS hR hS hL hc hs)
set_option maxHeartbeats 1000000 in
theorem ks_ior {D : va_G} {aC : Nat → ClassId} {lw : Nat} {G : kG} {p : Program} {l : Launch} {e : Env} {R : Room} {s : State} {m : MethodId} {args : Array Value} {below : List Frame} {meth : Method} {c : Code} {Q : State → Prop} {y : Nat} {C : kCl} {P : kO → kH → Prop} {d MC MS : Nat} (Z : kZ D aC lw G p l e R s m args below meth c Q y C P d MC MS) : kc_ior G y C P (kOK aC D lw y p l e R s m args below meth c Q MC MS) := by
  obtain ⟨hx, hb, hml, hown, hts, hK, hini, hroom, hexh, IH, hend⟩ := Z
  intro pc lo st h mc ms x z hd k1 H locs cells slots LS hR hS hL hc hs
  exact lv_ior hx hb (kDec hd) (k1 H locs cells slots LS hR hS hL hc hs)
set_option maxHeartbeats 1000000 in
theorem ks_ixor {D : va_G} {aC : Nat → ClassId} {lw : Nat} {G : kG} {p : Program} {l : Launch} {e : Env} {R : Room} {s : State} {m : MethodId} {args : Array Value} {below : List Frame} {meth : Method} {c : Code} {Q : State → Prop} {y : Nat} {C : kCl} {P : kO → kH → Prop} {d MC MS : Nat} (Z : kZ D aC lw G p l e R s m args below meth c Q y C P d MC MS) : kc_ixor G y C P (kOK aC D lw y p l e R s m args below meth c Q MC MS) := by
  obtain ⟨hx, hb, hml, hown, hts, hK, hini, hroom, hexh, IH, hend⟩ := Z
  intro pc lo st h mc ms x z hd k1 H locs cells slots LS hR hS hL hc hs
  exact lv_ixor hx hb (kDec hd) (k1 H locs cells slots LS hR hS hL hc hs)
set_option maxHeartbeats 1000000 in
theorem ks_idiv {D : va_G} {aC : Nat → ClassId} {lw : Nat} {G : kG} {p : Program} {l : Launch} {e : Env} {R : Room} {s : State} {m : MethodId} {args : Array Value} {below : List Frame} {meth : Method} {c : Code} {Q : State → Prop} {y : Nat} {C : kCl} {P : kO → kH → Prop} {d MC MS : Nat} (Z : kZ D aC lw G p l e R s m args below meth c Q y C P d MC MS) : kc_idiv G y C P (kOK aC D lw y p l e R s m args below meth c Q MC MS) := by
  obtain ⟨hx, hb, hml, hown, hts, hK, hini, hroom, hexh, IH, hend⟩ := Z
  intro pc lo st h mc ms x z hd hz k1 H locs cells slots LS hR hS hL hc hs
  exact lv_idiv hx hb (kDec hd) hz (k1 H locs cells slots LS hR hS hL hc hs)
set_option maxHeartbeats 1000000 in
theorem ks_irem {D : va_G} {aC : Nat → ClassId} {lw : Nat} {G : kG} {p : Program} {l : Launch} {e : Env} {R : Room} {s : State} {m : MethodId} {args : Array Value} {below : List Frame} {meth : Method} {c : Code} {Q : State → Prop} {y : Nat} {C : kCl} {P : kO → kH → Prop} {d MC MS : Nat} (Z : kZ D aC lw G p l e R s m args below meth c Q y C P d MC MS) : kc_irem G y C P (kOK aC D lw y p l e R s m args below meth c Q MC MS) := by
  obtain ⟨hx, hb, hml, hown, hts, hK, hini, hroom, hexh, IH, hend⟩ := Z
  intro pc lo st h mc ms x z hd hz k1 H locs cells slots LS hR hS hL hc hs
  exact lv_irem hx hb (kDec hd) hz (k1 H locs cells slots LS hR hS hL hc hs)
set_option maxHeartbeats 1000000 in
theorem ks_lcmp {D : va_G} {aC : Nat → ClassId} {lw : Nat} {G : kG} {p : Program} {l : Launch} {e : Env} {R : Room} {s : State} {m : MethodId} {args : Array Value} {below : List Frame} {meth : Method} {c : Code} {Q : State → Prop} {y : Nat} {C : kCl} {P : kO → kH → Prop} {d MC MS : Nat} (Z : kZ D aC lw G p l e R s m args below meth c Q y C P d MC MS) : kc_lcmp G y C P (kOK aC D lw y p l e R s m args below meth c Q MC MS) := by
  obtain ⟨hx, hb, hml, hown, hts, hK, hini, hroom, hexh, IH, hend⟩ := Z
  intro pc lo st h mc ms x z v hd hv k1 H locs cells slots LS hR hS hL hc hs
  subst hv
  exact W.lcmp hx hb (kDec hd) (k1 H locs cells slots LS hR hS hL hc hs)
set_option maxHeartbeats 1000000 in
theorem ks_ineg {D : va_G} {aC : Nat → ClassId} {lw : Nat} {G : kG} {p : Program} {l : Launch} {e : Env} {R : Room} {s : State} {m : MethodId} {args : Array Value} {below : List Frame} {meth : Method} {c : Code} {Q : State → Prop} {y : Nat} {C : kCl} {P : kO → kH → Prop} {d MC MS : Nat} (Z : kZ D aC lw G p l e R s m args below meth c Q y C P d MC MS) : kc_ineg G y C P (kOK aC D lw y p l e R s m args below meth c Q MC MS) := by
  obtain ⟨hx, hb, hml, hown, hts, hK, hini, hroom, hexh, IH, hend⟩ := Z
  intro pc lo st h mc ms x hd k1 H locs cells slots LS hR hS hL hc hs
  exact lv_ineg hx hb (kDec hd) (k1 H locs cells slots LS hR hS hL hc hs)
set_option maxHeartbeats 1000000 in
theorem ks_i2l {D : va_G} {aC : Nat → ClassId} {lw : Nat} {G : kG} {p : Program} {l : Launch} {e : Env} {R : Room} {s : State} {m : MethodId} {args : Array Value} {below : List Frame} {meth : Method} {c : Code} {Q : State → Prop} {y : Nat} {C : kCl} {P : kO → kH → Prop} {d MC MS : Nat} (Z : kZ D aC lw G p l e R s m args below meth c Q y C P d MC MS) : kc_i2l G y C P (kOK aC D lw y p l e R s m args below meth c Q MC MS) := by
  obtain ⟨hx, hb, hml, hown, hts, hK, hini, hroom, hexh, IH, hend⟩ := Z
  intro pc lo st h mc ms x hd k1 H locs cells slots LS hR hS hL hc hs
  exact lv_i2l hx hb (kDec hd) rfl (k1 H locs cells slots LS hR hS hL hc hs)
set_option maxHeartbeats 1000000 in
theorem ks_dup {D : va_G} {aC : Nat → ClassId} {lw : Nat} {G : kG} {p : Program} {l : Launch} {e : Env} {R : Room} {s : State} {m : MethodId} {args : Array Value} {below : List Frame} {meth : Method} {c : Code} {Q : State → Prop} {y : Nat} {C : kCl} {P : kO → kH → Prop} {d MC MS : Nat} (Z : kZ D aC lw G p l e R s m args below meth c Q y C P d MC MS) : kc_dup G y C P (kOK aC D lw y p l e R s m args below meth c Q MC MS) := by
  obtain ⟨hx, hb, hml, hown, hts, hK, hini, hroom, hexh, IH, hend⟩ := Z
  intro pc lo st h mc ms v hd hv k1 H locs cells slots LS hR hS hL hc hs
  exact lv_dup hx hb (kDec hd) hv (k1 H locs cells slots LS hR hS hL hc hs)
set_option maxHeartbeats 1000000 in
theorem ks_pop {D : va_G} {aC : Nat → ClassId} {lw : Nat} {G : kG} {p : Program} {l : Launch} {e : Env} {R : Room} {s : State} {m : MethodId} {args : Array Value} {below : List Frame} {meth : Method} {c : Code} {Q : State → Prop} {y : Nat} {C : kCl} {P : kO → kH → Prop} {d MC MS : Nat} (Z : kZ D aC lw G p l e R s m args below meth c Q y C P d MC MS) : kc_pop G y C P (kOK aC D lw y p l e R s m args below meth c Q MC MS) := by
  obtain ⟨hx, hb, hml, hown, hts, hK, hini, hroom, hexh, IH, hend⟩ := Z
  intro pc lo st h mc ms v hd hv k1 H locs cells slots LS hR hS hL hc hs
  exact lv_pop hx hb (kDec hd) hv (k1 H locs cells slots LS hR hS hL hc hs)
set_option maxHeartbeats 1000000 in
theorem ks_dup_x1 {D : va_G} {aC : Nat → ClassId} {lw : Nat} {G : kG} {p : Program} {l : Launch} {e : Env} {R : Room} {s : State} {m : MethodId} {args : Array Value} {below : List Frame} {meth : Method} {c : Code} {Q : State → Prop} {y : Nat} {C : kCl} {P : kO → kH → Prop} {d MC MS : Nat} (Z : kZ D aC lw G p l e R s m args below meth c Q y C P d MC MS) : kc_dup_x1 G y C P (kOK aC D lw y p l e R s m args below meth c Q MC MS) := by
  obtain ⟨hx, hb, hml, hown, hts, hK, hini, hroom, hexh, IH, hend⟩ := Z
  intro pc lo st h mc ms v w hd hv hw k1 H locs cells slots LS hR hS hL hc hs
  exact lv_dup_x1 hx hb (kDec hd) hv hw (k1 H locs cells slots LS hR hS hL hc hs)
set_option maxHeartbeats 1000000 in
theorem ks_dup2 {D : va_G} {aC : Nat → ClassId} {lw : Nat} {G : kG} {p : Program} {l : Launch} {e : Env} {R : Room} {s : State} {m : MethodId} {args : Array Value} {below : List Frame} {meth : Method} {c : Code} {Q : State → Prop} {y : Nat} {C : kCl} {P : kO → kH → Prop} {d MC MS : Nat} (Z : kZ D aC lw G p l e R s m args below meth c Q y C P d MC MS) : kc_dup2 G y C P (kOK aC D lw y p l e R s m args below meth c Q MC MS) := by
  obtain ⟨hx, hb, hml, hown, hts, hK, hini, hroom, hexh, IH, hend⟩ := Z
  intro pc lo st h mc ms v w hd hv hw k1 H locs cells slots LS hR hS hL hc hs
  exact lv_dup2_11 hx hb (kDec hd) hv hw (k1 H locs cells slots LS hR hS hL hc hs)
set_option maxHeartbeats 1000000 in
theorem ks_goto {D : va_G} {aC : Nat → ClassId} {lw : Nat} {G : kG} {p : Program} {l : Launch} {e : Env} {R : Room} {s : State} {m : MethodId} {args : Array Value} {below : List Frame} {meth : Method} {c : Code} {Q : State → Prop} {y : Nat} {C : kCl} {P : kO → kH → Prop} {d MC MS : Nat} (Z : kZ D aC lw G p l e R s m args below meth c Q y C P d MC MS) : kc_goto G y C P (kOK aC D lw y p l e R s m args below meth c Q MC MS) := by
  obtain ⟨hx, hb, hml, hown, hts, hK, hini, hroom, hexh, IH, hend⟩ := Z
  intro pc lo st h mc ms off tgt hd ht k1 H locs cells slots LS hR hS hL hc hs
  exact lv_goto hx hb (kDec hd) ht (k1 H locs cells slots LS hR hS hL hc hs)
set_option maxHeartbeats 1000000 in
theorem ks_if_eq {D : va_G} {aC : Nat → ClassId} {lw : Nat} {G : kG} {p : Program} {l : Launch} {e : Env} {R : Room} {s : State} {m : MethodId} {args : Array Value} {below : List Frame} {meth : Method} {c : Code} {Q : State → Prop} {y : Nat} {C : kCl} {P : kO → kH → Prop} {d MC MS : Nat} (Z : kZ D aC lw G p l e R s m args below meth c Q y C P d MC MS) : kc_if_eq G y C P (kOK aC D lw y p l e R s m args below meth c Q MC MS) := by
  obtain ⟨hx, hb, hml, hown, hts, hK, hini, hroom, hexh, IH, hend⟩ := Z
  intro pc lo st h mc ms x off tgt hd ht k1 k2 H locs cells slots LS hR hS hL hc hs
  exact lv_if_eq hx hb (kDec hd) ht (fun c => k1 c H locs cells slots LS hR hS hL hc hs) (fun c => k2 c H locs cells slots LS hR hS hL hc hs)
set_option maxHeartbeats 1000000 in
theorem ks_if_ne {D : va_G} {aC : Nat → ClassId} {lw : Nat} {G : kG} {p : Program} {l : Launch} {e : Env} {R : Room} {s : State} {m : MethodId} {args : Array Value} {below : List Frame} {meth : Method} {c : Code} {Q : State → Prop} {y : Nat} {C : kCl} {P : kO → kH → Prop} {d MC MS : Nat} (Z : kZ D aC lw G p l e R s m args below meth c Q y C P d MC MS) : kc_if_ne G y C P (kOK aC D lw y p l e R s m args below meth c Q MC MS) := by
  obtain ⟨hx, hb, hml, hown, hts, hK, hini, hroom, hexh, IH, hend⟩ := Z
  intro pc lo st h mc ms x off tgt hd ht k1 k2 H locs cells slots LS hR hS hL hc hs
  exact lv_if_ne hx hb (kDec hd) ht (fun c => k1 c H locs cells slots LS hR hS hL hc hs) (fun c => k2 c H locs cells slots LS hR hS hL hc hs)
set_option maxHeartbeats 1000000 in
theorem ks_if_lt {D : va_G} {aC : Nat → ClassId} {lw : Nat} {G : kG} {p : Program} {l : Launch} {e : Env} {R : Room} {s : State} {m : MethodId} {args : Array Value} {below : List Frame} {meth : Method} {c : Code} {Q : State → Prop} {y : Nat} {C : kCl} {P : kO → kH → Prop} {d MC MS : Nat} (Z : kZ D aC lw G p l e R s m args below meth c Q y C P d MC MS) : kc_if_lt G y C P (kOK aC D lw y p l e R s m args below meth c Q MC MS) := by
  obtain ⟨hx, hb, hml, hown, hts, hK, hini, hroom, hexh, IH, hend⟩ := Z
  intro pc lo st h mc ms x off tgt hd ht k1 k2 H locs cells slots LS hR hS hL hc hs
  exact lv_if_lt hx hb (kDec hd) ht (fun c => k1 c H locs cells slots LS hR hS hL hc hs) (fun c => k2 c H locs cells slots LS hR hS hL hc hs)
set_option maxHeartbeats 1000000 in
theorem ks_if_ge {D : va_G} {aC : Nat → ClassId} {lw : Nat} {G : kG} {p : Program} {l : Launch} {e : Env} {R : Room} {s : State} {m : MethodId} {args : Array Value} {below : List Frame} {meth : Method} {c : Code} {Q : State → Prop} {y : Nat} {C : kCl} {P : kO → kH → Prop} {d MC MS : Nat} (Z : kZ D aC lw G p l e R s m args below meth c Q y C P d MC MS) : kc_if_ge G y C P (kOK aC D lw y p l e R s m args below meth c Q MC MS) := by
  obtain ⟨hx, hb, hml, hown, hts, hK, hini, hroom, hexh, IH, hend⟩ := Z
  intro pc lo st h mc ms x off tgt hd ht k1 k2 H locs cells slots LS hR hS hL hc hs
  exact lv_if_ge hx hb (kDec hd) ht (fun c => k1 c H locs cells slots LS hR hS hL hc hs) (fun c => k2 c H locs cells slots LS hR hS hL hc hs)
set_option maxHeartbeats 1000000 in
theorem ks_if_gt {D : va_G} {aC : Nat → ClassId} {lw : Nat} {G : kG} {p : Program} {l : Launch} {e : Env} {R : Room} {s : State} {m : MethodId} {args : Array Value} {below : List Frame} {meth : Method} {c : Code} {Q : State → Prop} {y : Nat} {C : kCl} {P : kO → kH → Prop} {d MC MS : Nat} (Z : kZ D aC lw G p l e R s m args below meth c Q y C P d MC MS) : kc_if_gt G y C P (kOK aC D lw y p l e R s m args below meth c Q MC MS) := by
  obtain ⟨hx, hb, hml, hown, hts, hK, hini, hroom, hexh, IH, hend⟩ := Z
  intro pc lo st h mc ms x off tgt hd ht k1 k2 H locs cells slots LS hR hS hL hc hs
  exact lv_if_gt hx hb (kDec hd) ht (fun c => k1 c H locs cells slots LS hR hS hL hc hs) (fun c => k2 c H locs cells slots LS hR hS hL hc hs)
set_option maxHeartbeats 1000000 in
theorem ks_if_le {D : va_G} {aC : Nat → ClassId} {lw : Nat} {G : kG} {p : Program} {l : Launch} {e : Env} {R : Room} {s : State} {m : MethodId} {args : Array Value} {below : List Frame} {meth : Method} {c : Code} {Q : State → Prop} {y : Nat} {C : kCl} {P : kO → kH → Prop} {d MC MS : Nat} (Z : kZ D aC lw G p l e R s m args below meth c Q y C P d MC MS) : kc_if_le G y C P (kOK aC D lw y p l e R s m args below meth c Q MC MS) := by
  obtain ⟨hx, hb, hml, hown, hts, hK, hini, hroom, hexh, IH, hend⟩ := Z
  intro pc lo st h mc ms x off tgt hd ht k1 k2 H locs cells slots LS hR hS hL hc hs
  exact lv_if_le hx hb (kDec hd) ht (fun c => k1 c H locs cells slots LS hR hS hL hc hs) (fun c => k2 c H locs cells slots LS hR hS hL hc hs)
set_option maxHeartbeats 1000000 in
theorem ks_icmp_eq {D : va_G} {aC : Nat → ClassId} {lw : Nat} {G : kG} {p : Program} {l : Launch} {e : Env} {R : Room} {s : State} {m : MethodId} {args : Array Value} {below : List Frame} {meth : Method} {c : Code} {Q : State → Prop} {y : Nat} {C : kCl} {P : kO → kH → Prop} {d MC MS : Nat} (Z : kZ D aC lw G p l e R s m args below meth c Q y C P d MC MS) : kc_icmp_eq G y C P (kOK aC D lw y p l e R s m args below meth c Q MC MS) := by
  obtain ⟨hx, hb, hml, hown, hts, hK, hini, hroom, hexh, IH, hend⟩ := Z
  intro pc lo st h mc ms x z off tgt hd ht k1 k2 H locs cells slots LS hR hS hL hc hs
  exact lv_icmp_eq hx hb (kDec hd) ht (fun c => k1 c H locs cells slots LS hR hS hL hc hs) (fun c => k2 c H locs cells slots LS hR hS hL hc hs)
set_option maxHeartbeats 1000000 in
theorem ks_icmp_ne {D : va_G} {aC : Nat → ClassId} {lw : Nat} {G : kG} {p : Program} {l : Launch} {e : Env} {R : Room} {s : State} {m : MethodId} {args : Array Value} {below : List Frame} {meth : Method} {c : Code} {Q : State → Prop} {y : Nat} {C : kCl} {P : kO → kH → Prop} {d MC MS : Nat} (Z : kZ D aC lw G p l e R s m args below meth c Q y C P d MC MS) : kc_icmp_ne G y C P (kOK aC D lw y p l e R s m args below meth c Q MC MS) := by
  obtain ⟨hx, hb, hml, hown, hts, hK, hini, hroom, hexh, IH, hend⟩ := Z
  intro pc lo st h mc ms x z off tgt hd ht k1 k2 H locs cells slots LS hR hS hL hc hs
  exact lv_icmp_ne hx hb (kDec hd) ht (fun c => k1 c H locs cells slots LS hR hS hL hc hs) (fun c => k2 c H locs cells slots LS hR hS hL hc hs)
set_option maxHeartbeats 1000000 in
theorem ks_icmp_lt {D : va_G} {aC : Nat → ClassId} {lw : Nat} {G : kG} {p : Program} {l : Launch} {e : Env} {R : Room} {s : State} {m : MethodId} {args : Array Value} {below : List Frame} {meth : Method} {c : Code} {Q : State → Prop} {y : Nat} {C : kCl} {P : kO → kH → Prop} {d MC MS : Nat} (Z : kZ D aC lw G p l e R s m args below meth c Q y C P d MC MS) : kc_icmp_lt G y C P (kOK aC D lw y p l e R s m args below meth c Q MC MS) := by
  obtain ⟨hx, hb, hml, hown, hts, hK, hini, hroom, hexh, IH, hend⟩ := Z
  intro pc lo st h mc ms x z off tgt hd ht k1 k2 H locs cells slots LS hR hS hL hc hs
  exact lv_icmp_lt hx hb (kDec hd) ht (fun c => k1 c H locs cells slots LS hR hS hL hc hs) (fun c => k2 c H locs cells slots LS hR hS hL hc hs)
set_option maxHeartbeats 1000000 in
theorem ks_icmp_ge {D : va_G} {aC : Nat → ClassId} {lw : Nat} {G : kG} {p : Program} {l : Launch} {e : Env} {R : Room} {s : State} {m : MethodId} {args : Array Value} {below : List Frame} {meth : Method} {c : Code} {Q : State → Prop} {y : Nat} {C : kCl} {P : kO → kH → Prop} {d MC MS : Nat} (Z : kZ D aC lw G p l e R s m args below meth c Q y C P d MC MS) : kc_icmp_ge G y C P (kOK aC D lw y p l e R s m args below meth c Q MC MS) := by
  obtain ⟨hx, hb, hml, hown, hts, hK, hini, hroom, hexh, IH, hend⟩ := Z
  intro pc lo st h mc ms x z off tgt hd ht k1 k2 H locs cells slots LS hR hS hL hc hs
  exact lv_icmp_ge hx hb (kDec hd) ht (fun c => k1 c H locs cells slots LS hR hS hL hc hs) (fun c => k2 c H locs cells slots LS hR hS hL hc hs)
set_option maxHeartbeats 1000000 in
theorem ks_icmp_gt {D : va_G} {aC : Nat → ClassId} {lw : Nat} {G : kG} {p : Program} {l : Launch} {e : Env} {R : Room} {s : State} {m : MethodId} {args : Array Value} {below : List Frame} {meth : Method} {c : Code} {Q : State → Prop} {y : Nat} {C : kCl} {P : kO → kH → Prop} {d MC MS : Nat} (Z : kZ D aC lw G p l e R s m args below meth c Q y C P d MC MS) : kc_icmp_gt G y C P (kOK aC D lw y p l e R s m args below meth c Q MC MS) := by
  obtain ⟨hx, hb, hml, hown, hts, hK, hini, hroom, hexh, IH, hend⟩ := Z
  intro pc lo st h mc ms x z off tgt hd ht k1 k2 H locs cells slots LS hR hS hL hc hs
  exact lv_icmp_gt hx hb (kDec hd) ht (fun c => k1 c H locs cells slots LS hR hS hL hc hs) (fun c => k2 c H locs cells slots LS hR hS hL hc hs)
set_option maxHeartbeats 1000000 in
theorem ks_icmp_le {D : va_G} {aC : Nat → ClassId} {lw : Nat} {G : kG} {p : Program} {l : Launch} {e : Env} {R : Room} {s : State} {m : MethodId} {args : Array Value} {below : List Frame} {meth : Method} {c : Code} {Q : State → Prop} {y : Nat} {C : kCl} {P : kO → kH → Prop} {d MC MS : Nat} (Z : kZ D aC lw G p l e R s m args below meth c Q y C P d MC MS) : kc_icmp_le G y C P (kOK aC D lw y p l e R s m args below meth c Q MC MS) := by
  obtain ⟨hx, hb, hml, hown, hts, hK, hini, hroom, hexh, IH, hend⟩ := Z
  intro pc lo st h mc ms x z off tgt hd ht k1 k2 H locs cells slots LS hR hS hL hc hs
  exact lv_icmp_le hx hb (kDec hd) ht (fun c => k1 c H locs cells slots LS hR hS hL hc hs) (fun c => k2 c H locs cells slots LS hR hS hL hc hs)
set_option maxHeartbeats 1000000 in
theorem ks_nonnull {D : va_G} {aC : Nat → ClassId} {lw : Nat} {G : kG} {p : Program} {l : Launch} {e : Env} {R : Room} {s : State} {m : MethodId} {args : Array Value} {below : List Frame} {meth : Method} {c : Code} {Q : State → Prop} {y : Nat} {C : kCl} {P : kO → kH → Prop} {d MC MS : Nat} (Z : kZ D aC lw G p l e R s m args below meth c Q y C P d MC MS) : kc_nonnull G y C P (kOK aC D lw y p l e R s m args below meth c Q MC MS) := by
  obtain ⟨hx, hb, hml, hown, hts, hK, hini, hroom, hexh, IH, hend⟩ := Z
  intro pc lo st h mc ms a off tgt hd ht k1 H locs cells slots LS hR hS hL hc hs
  exact lv_ifnonnull hx hb (kDec hd) ht (k1 H locs cells slots LS hR hS hL hc hs)
set_option maxHeartbeats 1000000 in
theorem ks_nonnullN {D : va_G} {aC : Nat → ClassId} {lw : Nat} {G : kG} {p : Program} {l : Launch} {e : Env} {R : Room} {s : State} {m : MethodId} {args : Array Value} {below : List Frame} {meth : Method} {c : Code} {Q : State → Prop} {y : Nat} {C : kCl} {P : kO → kH → Prop} {d MC MS : Nat} (Z : kZ D aC lw G p l e R s m args below meth c Q y C P d MC MS) : kc_nonnullN G y C P (kOK aC D lw y p l e R s m args below meth c Q MC MS) := by
  obtain ⟨hx, hb, hml, hown, hts, hK, hini, hroom, hexh, IH, hend⟩ := Z
  intro pc lo st h mc ms off hd k1 H locs cells slots LS hR hS hL hc hs
  exact lv_ifnonnullN hx hb (kDec hd) (k1 H locs cells slots LS hR hS hL hc hs)
set_option maxHeartbeats 1000000 in
theorem ks_isnull {D : va_G} {aC : Nat → ClassId} {lw : Nat} {G : kG} {p : Program} {l : Launch} {e : Env} {R : Room} {s : State} {m : MethodId} {args : Array Value} {below : List Frame} {meth : Method} {c : Code} {Q : State → Prop} {y : Nat} {C : kCl} {P : kO → kH → Prop} {d MC MS : Nat} (Z : kZ D aC lw G p l e R s m args below meth c Q y C P d MC MS) : kc_isnull G y C P (kOK aC D lw y p l e R s m args below meth c Q MC MS) := by
  obtain ⟨hx, hb, hml, hown, hts, hK, hini, hroom, hexh, IH, hend⟩ := Z
  intro pc lo st h mc ms a off hd k1 H locs cells slots LS hR hS hL hc hs
  exact lv_ifnull hx hb (kDec hd) (k1 H locs cells slots LS hR hS hL hc hs)
set_option maxHeartbeats 1000000 in
theorem ks_isnullN {D : va_G} {aC : Nat → ClassId} {lw : Nat} {G : kG} {p : Program} {l : Launch} {e : Env} {R : Room} {s : State} {m : MethodId} {args : Array Value} {below : List Frame} {meth : Method} {c : Code} {Q : State → Prop} {y : Nat} {C : kCl} {P : kO → kH → Prop} {d MC MS : Nat} (Z : kZ D aC lw G p l e R s m args below meth c Q y C P d MC MS) : kc_isnullN G y C P (kOK aC D lw y p l e R s m args below meth c Q MC MS) := by
  obtain ⟨hx, hb, hml, hown, hts, hK, hini, hroom, hexh, IH, hend⟩ := Z
  intro pc lo st h mc ms off tgt hd ht k1 H locs cells slots LS hR hS hL hc hs
  exact lv_ifnullN hx hb (kDec hd) ht (k1 H locs cells slots LS hR hS hL hc hs)
set_option maxHeartbeats 1000000 in
theorem ks_tswIn {D : va_G} {aC : Nat → ClassId} {lw : Nat} {G : kG} {p : Program} {l : Launch} {e : Env} {R : Room} {s : State} {m : MethodId} {args : Array Value} {below : List Frame} {meth : Method} {c : Code} {Q : State → Prop} {y : Nat} {C : kCl} {P : kO → kH → Prop} {d MC MS : Nat} (Z : kZ D aC lw G p l e R s m args below meth c Q y C P d MC MS) : kc_tswIn G y C P (kOK aC D lw y p l e R s m args below meth c Q MC MS) := by
  obtain ⟨hx, hb, hml, hown, hts, hK, hini, hroom, hexh, IH, hend⟩ := Z
  intro pc lo st h mc ms dflt a b offs len x off tgt hd h1 h2 ho ht k1 H locs cells slots LS hR hS hL hc hs
  exact lv_tableIn hx hb (kDec hd) h1 h2 ho ht (k1 H locs cells slots LS hR hS hL hc hs)
set_option maxHeartbeats 1000000 in
theorem ks_tswOut {D : va_G} {aC : Nat → ClassId} {lw : Nat} {G : kG} {p : Program} {l : Launch} {e : Env} {R : Room} {s : State} {m : MethodId} {args : Array Value} {below : List Frame} {meth : Method} {c : Code} {Q : State → Prop} {y : Nat} {C : kCl} {P : kO → kH → Prop} {d MC MS : Nat} (Z : kZ D aC lw G p l e R s m args below meth c Q y C P d MC MS) : kc_tswOut G y C P (kOK aC D lw y p l e R s m args below meth c Q MC MS) := by
  obtain ⟨hx, hb, hml, hown, hts, hK, hini, hroom, hexh, IH, hend⟩ := Z
  intro pc lo st h mc ms dflt a b offs len x tgt hd h1 ht k1 H locs cells slots LS hR hS hL hc hs
  exact lv_tableOut hx hb (kDec hd) h1 ht (k1 H locs cells slots LS hR hS hL hc hs)
set_option maxHeartbeats 1000000 in
theorem ks_lsw {D : va_G} {aC : Nat → ClassId} {lw : Nat} {G : kG} {p : Program} {l : Launch} {e : Env} {R : Room} {s : State} {m : MethodId} {args : Array Value} {below : List Frame} {meth : Method} {c : Code} {Q : State → Prop} {y : Nat} {C : kCl} {P : kO → kH → Prop} {d MC MS : Nat} (Z : kZ D aC lw G p l e R s m args below meth c Q y C P d MC MS) : kc_lsw G y C P (kOK aC D lw y p l e R s m args below meth c Q MC MS) := by
  obtain ⟨hx, hb, hml, hown, hts, hK, hini, hroom, hexh, IH, hend⟩ := Z
  intro pc lo st h mc ms dflt ps len x off tgt hd hp ho ht k1 H locs cells slots LS hR hS hL hc hs
  exact lv_lookup hx hb (kDec hd) hp ho ht (k1 H locs cells slots LS hR hS hL hc hs)
set_option maxHeartbeats 1000000 in
theorem ks_getf {D : va_G} {aC : Nat → ClassId} {lw : Nat} {G : kG} {p : Program} {l : Launch} {e : Env} {R : Room} {s : State} {m : MethodId} {args : Array Value} {below : List Frame} {meth : Method} {c : Code} {Q : State → Prop} {y : Nat} {C : kCl} {P : kO → kH → Prop} {d MC MS : Nat} (Z : kZ D aC lw G p l e R s m args below meth c Q y C P d MC MS) : kc_getf G y C P (kOK aC D lw y p l e R s m args below meth c Q MC MS) := by
  obtain ⟨hx, hb, hml, hown, hts, hK, hini, hroom, hexh, IH, hend⟩ := Z
  intro pc lo st h mc ms i a ci k fs v hd hf ha hv k1 H locs cells slots LS hR hS hL hc hs
  exact kGet hx hb hown hts hK hR hf ha hv (kDec hd) (k1 H locs cells slots LS hR hS hL hc hs)
set_option maxHeartbeats 1000000 in
theorem ks_iald {D : va_G} {aC : Nat → ClassId} {lw : Nat} {G : kG} {p : Program} {l : Launch} {e : Env} {R : Room} {s : State} {m : MethodId} {args : Array Value} {below : List Frame} {meth : Method} {c : Code} {Q : State → Prop} {y : Nat} {C : kCl} {P : kO → kH → Prop} {d MC MS : Nat} (Z : kZ D aC lw G p l e R s m args below meth c Q y C P d MC MS) : kc_iald G y C P (kOK aC D lw y p l e R s m args below meth c Q MC MS) := by
  obtain ⟨hx, hb, hml, hown, hts, hK, hini, hroom, hexh, IH, hend⟩ := Z
  intro pc lo st h mc ms a n f i hd ha hi k1 H locs cells slots LS hR hS hL hc hs
  exact va_iald hx hb hK.1 (kR.one hR ha) 0 0 rfl rfl hi (kDec hd) (k1 H locs cells slots LS hR hS hL hc hs)
set_option maxHeartbeats 1000000 in
theorem ks_zald {D : va_G} {aC : Nat → ClassId} {lw : Nat} {G : kG} {p : Program} {l : Launch} {e : Env} {R : Room} {s : State} {m : MethodId} {args : Array Value} {below : List Frame} {meth : Method} {c : Code} {Q : State → Prop} {y : Nat} {C : kCl} {P : kO → kH → Prop} {d MC MS : Nat} (Z : kZ D aC lw G p l e R s m args below meth c Q y C P d MC MS) : kc_zald G y C P (kOK aC D lw y p l e R s m args below meth c Q MC MS) := by
  obtain ⟨hx, hb, hml, hown, hts, hK, hini, hroom, hexh, IH, hend⟩ := Z
  intro pc lo st h mc ms a n f i hd ha hi k1 H locs cells slots LS hR hS hL hc hs
  exact va_zald hx hb hK.1 (kR.one hR ha) 0 1 rfl rfl hi (kDec hd) (k1 H locs cells slots LS hR hS hL hc hs)
set_option maxHeartbeats 1000000 in
theorem ks_lald {D : va_G} {aC : Nat → ClassId} {lw : Nat} {G : kG} {p : Program} {l : Launch} {e : Env} {R : Room} {s : State} {m : MethodId} {args : Array Value} {below : List Frame} {meth : Method} {c : Code} {Q : State → Prop} {y : Nat} {C : kCl} {P : kO → kH → Prop} {d MC MS : Nat} (Z : kZ D aC lw G p l e R s m args below meth c Q y C P d MC MS) : kc_lald G y C P (kOK aC D lw y p l e R s m args below meth c Q MC MS) := by
  obtain ⟨hx, hb, hml, hown, hts, hK, hini, hroom, hexh, IH, hend⟩ := Z
  intro pc lo st h mc ms a n f i hd ha hi k1 H locs cells slots LS hR hS hL hc hs
  exact va_lald hx hb hK.1 (kR.one hR ha) 0 2 rfl rfl hi (kDec hd) (k1 H locs cells slots LS hR hS hL hc hs)
set_option maxHeartbeats 1000000 in
theorem ks_aald {D : va_G} {aC : Nat → ClassId} {lw : Nat} {G : kG} {p : Program} {l : Launch} {e : Env} {R : Room} {s : State} {m : MethodId} {args : Array Value} {below : List Frame} {meth : Method} {c : Code} {Q : State → Prop} {y : Nat} {C : kCl} {P : kO → kH → Prop} {d MC MS : Nat} (Z : kZ D aC lw G p l e R s m args below meth c Q y C P d MC MS) : kc_aald G y C P (kOK aC D lw y p l e R s m args below meth c Q MC MS) := by
  obtain ⟨hx, hb, hml, hown, hts, hK, hini, hroom, hexh, IH, hend⟩ := Z
  intro pc lo st h mc ms a n k N f i hd hk ha hi k1 H locs cells slots LS hR hS hL hc hs
  exact va_aldq (C := N) hx hb hK.1 (kR.one hR ha) 0 k rfl (kTys_at hk) hi (kDec hd) (k1 H locs cells slots LS hR hS hL hc hs)
set_option maxHeartbeats 1000000 in
theorem ks_alen {D : va_G} {aC : Nat → ClassId} {lw : Nat} {G : kG} {p : Program} {l : Launch} {e : Env} {R : Room} {s : State} {m : MethodId} {args : Array Value} {below : List Frame} {meth : Method} {c : Code} {Q : State → Prop} {y : Nat} {C : kCl} {P : kO → kH → Prop} {d MC MS : Nat} (Z : kZ D aC lw G p l e R s m args below meth c Q y C P d MC MS) : kc_alen G y C P (kOK aC D lw y p l e R s m args below meth c Q MC MS) := by
  obtain ⟨hx, hb, hml, hown, hts, hK, hini, hroom, hexh, IH, hend⟩ := Z
  intro pc lo st h mc ms a k x v hd ha hk hv k1 H locs cells slots LS hR hS hL hc hs
  obtain ⟨ty, hty⟩ : ∃ ty, kArt[k]? = some ty := ⟨_, List.getElem?_eq_getElem hk⟩
  exact va_alen hx hb hK.1 (kR.one hR ha) 0 k rfl (kTys_at hty) hv (kDec hd) (k1 H locs cells slots LS hR hS hL hc hs)
set_option maxHeartbeats 1000000 in
theorem ks_sald {D : va_G} {aC : Nat → ClassId} {lw : Nat} {G : kG} {p : Program} {l : Launch} {e : Env} {R : Room} {s : State} {m : MethodId} {args : Array Value} {below : List Frame} {meth : Method} {c : Code} {Q : State → Prop} {y : Nat} {C : kCl} {P : kO → kH → Prop} {d MC MS : Nat} (Z : kZ D aC lw G p l e R s m args below meth c Q y C P d MC MS) : kc_sald G y C P (kOK aC D lw y p l e R s m args below meth c Q MC MS) := by
  obtain ⟨hx, hb, hml, hown, hts, hK, hini, hroom, hexh, IH, hend⟩ := Z
  intro pc lo st h mc ms i hd hi k1 H locs cells slots LS hR hS hL hc hs
  exact va_sld hx hb hK.2.2.1 hK.2.2.2.1 (Nat.not_le.mpr hK.2.2.2.2.1) hS hi (kDec hd) (k1 H locs cells slots LS hR hS hL hc hs)
set_option maxHeartbeats 1000000 in
theorem ks_slen {D : va_G} {aC : Nat → ClassId} {lw : Nat} {G : kG} {p : Program} {l : Launch} {e : Env} {R : Room} {s : State} {m : MethodId} {args : Array Value} {below : List Frame} {meth : Method} {c : Code} {Q : State → Prop} {y : Nat} {C : kCl} {P : kO → kH → Prop} {d MC MS : Nat} (Z : kZ D aC lw G p l e R s m args below meth c Q y C P d MC MS) : kc_slen G y C P (kOK aC D lw y p l e R s m args below meth c Q MC MS) := by
  obtain ⟨hx, hb, hml, hown, hts, hK, hini, hroom, hexh, IH, hend⟩ := Z
  intro pc lo st h mc ms v hd hv k1 H locs cells slots LS hR hS hL hc hs
  subst hv
  exact va_slen hx hb hK.2.2.1 hK.2.2.2.1 (Nat.not_le.mpr hK.2.2.2.2.1) hS (kDec hd) (k1 H locs cells slots LS hR hS hL hc hs)
set_option maxHeartbeats 1000000 in
theorem ks_putf {D : va_G} {aC : Nat → ClassId} {lw : Nat} {G : kG} {p : Program} {l : Launch} {e : Env} {R : Room} {s : State} {m : MethodId} {args : Array Value} {below : List Frame} {meth : Method} {c : Code} {Q : State → Prop} {y : Nat} {C : kCl} {P : kO → kH → Prop} {d MC MS : Nat} (Z : kZ D aC lw G p l e R s m args below meth c Q y C P d MC MS) : kc_putf G y C P (kOK aC D lw y p l e R s m args below meth c Q MC MS) := by
  obtain ⟨hx, hb, hml, hown, hts, hK, hini, hroom, hexh, IH, hend⟩ := Z
  intro pc lo st h mc ms i a ci k fs fs2 v hd hf ha hp hl hn hfit he k1 H locs cells slots LS hR hS hL hc hs
  subst he
  exact kPutW hx hb hown hts hK hR hini hf ha hp hl hn hfit (kDec hd) (fun H1 sl hq z oq => k1 _ rfl H1 _ cells slots LS (kR.set hR ha hq oq) (hS.put z oq (hR _ _ ha).1) hL hc hs)
set_option maxHeartbeats 1000000 in
theorem ks_iast {D : va_G} {aC : Nat → ClassId} {lw : Nat} {G : kG} {p : Program} {l : Launch} {e : Env} {R : Room} {s : State} {m : MethodId} {args : Array Value} {below : List Frame} {meth : Method} {c : Code} {Q : State → Prop} {y : Nat} {C : kCl} {P : kO → kH → Prop} {d MC MS : Nat} (Z : kZ D aC lw G p l e R s m args below meth c Q y C P d MC MS) : kc_iast G y C P (kOK aC D lw y p l e R s m args below meth c Q MC MS) := by
  obtain ⟨hx, hb, hml, hown, hts, hK, hini, hroom, hexh, IH, hend⟩ := Z
  intro pc lo st h mc ms a n f i x hd ha hi k1 H locs cells slots LS hR hS hL hc hs
  exact kIast hx hb hK hR ha hi (kDec hd) (fun H1 sl hq z oq => k1 _ rfl H1 _ cells slots LS (kR.set hR ha hq oq) (hS.put z oq (hR _ _ ha).1) hL hc hs)
set_option maxHeartbeats 1000000 in
theorem ks_zast {D : va_G} {aC : Nat → ClassId} {lw : Nat} {G : kG} {p : Program} {l : Launch} {e : Env} {R : Room} {s : State} {m : MethodId} {args : Array Value} {below : List Frame} {meth : Method} {c : Code} {Q : State → Prop} {y : Nat} {C : kCl} {P : kO → kH → Prop} {d MC MS : Nat} (Z : kZ D aC lw G p l e R s m args below meth c Q y C P d MC MS) : kc_zast G y C P (kOK aC D lw y p l e R s m args below meth c Q MC MS) := by
  obtain ⟨hx, hb, hml, hown, hts, hK, hini, hroom, hexh, IH, hend⟩ := Z
  intro pc lo st h mc ms a n f i x hd ha hi k1 H locs cells slots LS hR hS hL hc hs
  exact kZast hx hb hK hR ha hi (kDec hd) (fun H1 sl hq z oq => k1 _ rfl H1 _ cells slots LS (kR.set hR ha hq oq) (hS.put z oq (hR _ _ ha).1) hL hc hs)
set_option maxHeartbeats 1000000 in
theorem ks_last {D : va_G} {aC : Nat → ClassId} {lw : Nat} {G : kG} {p : Program} {l : Launch} {e : Env} {R : Room} {s : State} {m : MethodId} {args : Array Value} {below : List Frame} {meth : Method} {c : Code} {Q : State → Prop} {y : Nat} {C : kCl} {P : kO → kH → Prop} {d MC MS : Nat} (Z : kZ D aC lw G p l e R s m args below meth c Q y C P d MC MS) : kc_last G y C P (kOK aC D lw y p l e R s m args below meth c Q MC MS) := by
  obtain ⟨hx, hb, hml, hown, hts, hK, hini, hroom, hexh, IH, hend⟩ := Z
  intro pc lo st h mc ms a n f i x hd ha hi k1 H locs cells slots LS hR hS hL hc hs
  exact kLast hx hb hK hR ha hi (kDec hd) (fun H1 sl hq z oq => k1 _ rfl H1 _ cells slots LS (kR.set hR ha hq oq) (hS.put z oq (hR _ _ ha).1) hL hc hs)
set_option maxHeartbeats 1000000 in
theorem ks_aast {D : va_G} {aC : Nat → ClassId} {lw : Nat} {G : kG} {p : Program} {l : Launch} {e : Env} {R : Room} {s : State} {m : MethodId} {args : Array Value} {below : List Frame} {meth : Method} {c : Code} {Q : State → Prop} {y : Nat} {C : kCl} {P : kO → kH → Prop} {d MC MS : Nat} (Z : kZ D aC lw G p l e R s m args below meth c Q y C P d MC MS) : kc_aast G y C P (kOK aC D lw y p l e R s m args below meth c Q MC MS) := by
  obtain ⟨hx, hb, hml, hown, hts, hK, hini, hroom, hexh, IH, hend⟩ := Z
  intro pc lo st h mc ms a n k v ci fs r f i hd hk ha hv hcl hi k1 H locs cells slots LS hR hS hL hc hs
  exact kAast hx hb hK hR hk ha hv hcl hi (kDec hd) (fun H1 sl hq z oq => k1 _ rfl H1 _ cells slots LS (kR.set hR ha hq oq) (hS.put z oq (hR _ _ ha).1) hL hc hs)
set_option maxHeartbeats 1000000 in
theorem ks_copyi {D : va_G} {aC : Nat → ClassId} {lw : Nat} {G : kG} {p : Program} {l : Launch} {e : Env} {R : Room} {s : State} {m : MethodId} {args : Array Value} {below : List Frame} {meth : Method} {c : Code} {Q : State → Prop} {y : Nat} {C : kCl} {P : kO → kH → Prop} {d MC MS : Nat} (Z : kZ D aC lw G p l e R s m args below meth c Q y C P d MC MS) : kc_copyi G y C P (kOK aC D lw y p l e R s m args below meth c Q MC MS) := by
  obtain ⟨hx, hb, hml, hown, hts, hK, hini, hroom, hexh, IH, hend⟩ := Z
  intro pc lo st h mc ms i a0 a n0 n1 f g sp dp n hd hm ha0 ha1 h1 h2 h3 h4 h5 hw k1 H locs cells slots LS hR hS hL hc hs
  exact kCopy hx hb hml hown hts hK hR hS hL hroom hm ha0 ha1 h1 h2 h3 h4 h5 hw (kDec hd) (fun H1 locs1 hq oq hS1 => k1 _ rfl H1 _ cells slots LS (kR.set hR ha1 hq oq) hS1 hL hc hs)
set_option maxHeartbeats 1000000 in
theorem ks_mmin {D : va_G} {aC : Nat → ClassId} {lw : Nat} {G : kG} {p : Program} {l : Launch} {e : Env} {R : Room} {s : State} {m : MethodId} {args : Array Value} {below : List Frame} {meth : Method} {c : Code} {Q : State → Prop} {y : Nat} {C : kCl} {P : kO → kH → Prop} {d MC MS : Nat} (Z : kZ D aC lw G p l e R s m args below meth c Q y C P d MC MS) : kc_mmin G y C P (kOK aC D lw y p l e R s m args below meth c Q MC MS) := by
  obtain ⟨hx, hb, hml, hown, hts, hK, hini, hroom, hexh, IH, hend⟩ := Z
  intro pc lo st h mc ms i x z hd hm hw k1 H locs cells slots LS hR hS hL hc hs
  exact kMmin hx hb hml hown hts hL hroom hm hw (Nat.le_of_add_right_le hc) (Nat.le_of_add_right_le hs) (kDec hd) (k1 H locs cells slots LS hR hS hL hc hs)
set_option maxHeartbeats 1000000 in
theorem ks_mmax {D : va_G} {aC : Nat → ClassId} {lw : Nat} {G : kG} {p : Program} {l : Launch} {e : Env} {R : Room} {s : State} {m : MethodId} {args : Array Value} {below : List Frame} {meth : Method} {c : Code} {Q : State → Prop} {y : Nat} {C : kCl} {P : kO → kH → Prop} {d MC MS : Nat} (Z : kZ D aC lw G p l e R s m args below meth c Q y C P d MC MS) : kc_mmax G y C P (kOK aC D lw y p l e R s m args below meth c Q MC MS) := by
  obtain ⟨hx, hb, hml, hown, hts, hK, hini, hroom, hexh, IH, hend⟩ := Z
  intro pc lo st h mc ms i x z hd hm hw k1 H locs cells slots LS hR hS hL hc hs
  exact kMmax hx hb hml hown hts hL hroom hm hw (Nat.le_of_add_right_le hc) (Nat.le_of_add_right_le hs) (kDec hd) (k1 H locs cells slots LS hR hS hL hc hs)
set_option maxHeartbeats 1000000 in
theorem ks_new {D : va_G} {aC : Nat → ClassId} {lw : Nat} {G : kG} {p : Program} {l : Launch} {e : Env} {R : Room} {s : State} {m : MethodId} {args : Array Value} {below : List Frame} {meth : Method} {c : Code} {Q : State → Prop} {y : Nat} {C : kCl} {P : kO → kH → Prop} {d MC MS : Nat} (Z : kZ D aC lw G p l e R s m args below meth c Q y C P d MC MS) : kc_new G y C P (kOK aC D lw y p l e R s m args below meth c Q MC MS) := by
  obtain ⟨hx, hb, hml, hown, hts, hK, hini, hroom, hexh, IH, hend⟩ := Z
  intro pc lo st h mc ms i ci N hd hf hN hmc hms k1 H locs cells slots LS hR hS hL hc hs
  exact kNewW hx hb hown hts hK hR hS hroom hf hN hmc hms hc hs (kDec hd) (fun q H1 h0 hR1 hS1 => k1 q _ h0 rfl H1 locs (cells + 1) (slots + N) LS hR1 hS1 hL (by omega) (by omega))
set_option maxHeartbeats 1000000 in
theorem ks_newi {D : va_G} {aC : Nat → ClassId} {lw : Nat} {G : kG} {p : Program} {l : Launch} {e : Env} {R : Room} {s : State} {m : MethodId} {args : Array Value} {below : List Frame} {meth : Method} {c : Code} {Q : State → Prop} {y : Nat} {C : kCl} {P : kO → kH → Prop} {d MC MS : Nat} (Z : kZ D aC lw G p l e R s m args below meth c Q y C P d MC MS) : kc_newi G y C P (kOK aC D lw y p l e R s m args below meth c Q MC MS) := by
  obtain ⟨hx, hb, hml, hown, hts, hK, hini, hroom, hexh, IH, hend⟩ := Z
  intro pc lo st h mc ms n N hd hn hN hb9 hmc hms k1 H locs cells slots LS hR hS hL hc hs
  exact kNewAi hx hb hts hK hR hS hroom hn hN hb9 hmc hms hc hs (kDec hd) (fun q H1 h0 hR1 hS1 => k1 q _ h0 rfl H1 locs (cells + 1) (slots + N) LS hR1 hS1 hL (by omega) (by omega))
set_option maxHeartbeats 1000000 in
theorem ks_newz {D : va_G} {aC : Nat → ClassId} {lw : Nat} {G : kG} {p : Program} {l : Launch} {e : Env} {R : Room} {s : State} {m : MethodId} {args : Array Value} {below : List Frame} {meth : Method} {c : Code} {Q : State → Prop} {y : Nat} {C : kCl} {P : kO → kH → Prop} {d MC MS : Nat} (Z : kZ D aC lw G p l e R s m args below meth c Q y C P d MC MS) : kc_newz G y C P (kOK aC D lw y p l e R s m args below meth c Q MC MS) := by
  obtain ⟨hx, hb, hml, hown, hts, hK, hini, hroom, hexh, IH, hend⟩ := Z
  intro pc lo st h mc ms n N hd hn hN hb9 hmc hms k1 H locs cells slots LS hR hS hL hc hs
  exact kNewAz hx hb hts hK hR hS hroom hn hN hb9 hmc hms hc hs (kDec hd) (fun q H1 h0 hR1 hS1 => k1 q _ h0 rfl H1 locs (cells + 1) (slots + N) LS hR1 hS1 hL (by omega) (by omega))
set_option maxHeartbeats 1000000 in
theorem ks_newj {D : va_G} {aC : Nat → ClassId} {lw : Nat} {G : kG} {p : Program} {l : Launch} {e : Env} {R : Room} {s : State} {m : MethodId} {args : Array Value} {below : List Frame} {meth : Method} {c : Code} {Q : State → Prop} {y : Nat} {C : kCl} {P : kO → kH → Prop} {d MC MS : Nat} (Z : kZ D aC lw G p l e R s m args below meth c Q y C P d MC MS) : kc_newj G y C P (kOK aC D lw y p l e R s m args below meth c Q MC MS) := by
  obtain ⟨hx, hb, hml, hown, hts, hK, hini, hroom, hexh, IH, hend⟩ := Z
  intro pc lo st h mc ms n N hd hn hN hb9 hmc hms k1 H locs cells slots LS hR hS hL hc hs
  exact kNewAj hx hb hts hK hR hS hroom hn hN hb9 hmc hms hc hs (kDec hd) (fun q H1 h0 hR1 hS1 => k1 q _ h0 rfl H1 locs (cells + 1) (slots + N) LS hR1 hS1 hL (by omega) (by omega))
set_option maxHeartbeats 1000000 in
theorem ks_newq {D : va_G} {aC : Nat → ClassId} {lw : Nat} {G : kG} {p : Program} {l : Launch} {e : Env} {R : Room} {s : State} {m : MethodId} {args : Array Value} {below : List Frame} {meth : Method} {c : Code} {Q : State → Prop} {y : Nat} {C : kCl} {P : kO → kH → Prop} {d MC MS : Nat} (Z : kZ D aC lw G p l e R s m args below meth c Q y C P d MC MS) : kc_newq G y C P (kOK aC D lw y p l e R s m args below meth c Q MC MS) := by
  obtain ⟨hx, hb, hml, hown, hts, hK, hini, hroom, hexh, IH, hend⟩ := Z
  intro pc lo st h mc ms i k n N hd hf hn hN hb9 hmc hms k1 H locs cells slots LS hR hS hL hc hs
  exact kNewQ hx hb hown hts hK hR hS hroom hf hn hN hb9 hmc hms hc hs (kDec hd) (fun q H1 h0 hR1 hS1 => k1 q _ h0 rfl H1 locs (cells + 1) (slots + N) LS hR1 hS1 hL (by omega) (by omega))
set_option maxHeartbeats 1000000 in
theorem ks_objinit {D : va_G} {aC : Nat → ClassId} {lw : Nat} {G : kG} {p : Program} {l : Launch} {e : Env} {R : Room} {s : State} {m : MethodId} {args : Array Value} {below : List Frame} {meth : Method} {c : Code} {Q : State → Prop} {y : Nat} {C : kCl} {P : kO → kH → Prop} {d MC MS : Nat} (Z : kZ D aC lw G p l e R s m args below meth c Q y C P d MC MS) : kc_objinit G y C P (kOK aC D lw y p l e R s m args below meth c Q MC MS) := by
  obtain ⟨hx, hb, hml, hown, hts, hK, hini, hroom, hexh, IH, hend⟩ := Z
  intro pc lo st h mc ms i a hd hm hw k1 H locs cells slots LS hR hS hL hc hs
  exact kObjI hx hb hml hown hts hL hroom hm hw (kDec hd) (k1 H locs cells slots LS hR hS hL hc hs)
set_option maxHeartbeats 1000000 in
theorem ks_calls {D : va_G} {aC : Nat → ClassId} {lw : Nat} {G : kG} {p : Program} {l : Launch} {e : Env} {R : Room} {s : State} {m : MethodId} {args : Array Value} {below : List Frame} {meth : Method} {c : Code} {Q : State → Prop} {y : Nat} {C : kCl} {P : kO → kH → Prop} {d MC MS : Nat} (Z : kZ D aC lw G p l e R s m args below meth c Q y C P d MC MS) : kc_calls G y C P (kOK aC D lw y p l e R s m args below meth c Q MC MS) := by
  obtain ⟨hx, hb, hml, hown, hts, hK, hini, hroom, hexh, IH, hend⟩ := Z
  intro pc lo st h mc ms i y1 mc1 ms1 mc2 ms2 As st0 P1 hd hm hk hn hst hw hC hno hm1 hm2 k1 H locs cells slots LS hR hS hL hc hs
  exact kCallS IH hx hb hml hown hts hK hR hS hL hroom hm hk hn hst hw hC hno hm1 hm2 hc hs (kDec hd) (fun v h1 hP H1 locs1 hR1 hS1 => k1 v h1 hP H1 locs1 (cells + mc1) (slots + ms1) LS hR1 hS1 hL (by omega) (by omega))
set_option maxHeartbeats 1000000 in
theorem ks_callv {D : va_G} {aC : Nat → ClassId} {lw : Nat} {G : kG} {p : Program} {l : Launch} {e : Env} {R : Room} {s : State} {m : MethodId} {args : Array Value} {below : List Frame} {meth : Method} {c : Code} {Q : State → Prop} {y : Nat} {C : kCl} {P : kO → kH → Prop} {d MC MS : Nat} (Z : kZ D aC lw G p l e R s m args below meth c Q y C P d MC MS) : kc_callv G y C P (kOK aC D lw y p l e R s m args below meth c Q MC MS) := by
  obtain ⟨hx, hb, hml, hown, hts, hK, hini, hroom, hexh, IH, hend⟩ := Z
  intro pc lo st h mc ms i y1 mc1 ms1 mc2 ms2 As st0 P1 a ci fs hd hm hk hn hst hAs ha hci hw hC hno hm1 hm2 k1 H locs cells slots LS hR hS hL hc hs
  exact kCallV IH hx hb hml hown hts hK hR hS hL hroom hm hk hn hst hAs ha hci hw hC hno hm1 hm2 hc hs (kDec hd) (fun v h1 hP H1 locs1 hR1 hS1 => k1 v h1 hP H1 locs1 (cells + mc1) (slots + ms1) LS hR1 hS1 hL (by omega) (by omega))
set_option maxHeartbeats 1000000 in
theorem ks_calli {D : va_G} {aC : Nat → ClassId} {lw : Nat} {G : kG} {p : Program} {l : Launch} {e : Env} {R : Room} {s : State} {m : MethodId} {args : Array Value} {below : List Frame} {meth : Method} {c : Code} {Q : State → Prop} {y : Nat} {C : kCl} {P : kO → kH → Prop} {d MC MS : Nat} (Z : kZ D aC lw G p l e R s m args below meth c Q y C P d MC MS) : kc_calli G y C P (kOK aC D lw y p l e R s m args below meth c Q MC MS) := by
  obtain ⟨hx, hb, hml, hown, hts, hK, hini, hroom, hexh, IH, hend⟩ := Z
  intro pc lo st h mc ms i y1 mc1 ms1 mc2 ms2 As st0 P1 a hd hm hk hn hst hAs hw hC hno hm1 hm2 k1 H locs cells slots LS hR hS hL hc hs
  exact kCallI IH hx hb hml hown hts hK hR hS hL hroom hm hk hn hst hAs hw hC hno hm1 hm2 hc hs (kDec hd) (fun v h1 hP H1 locs1 hR1 hS1 => k1 v h1 hP H1 locs1 (cells + mc1) (slots + ms1) LS hR1 hS1 hL (by omega) (by omega))
set_option maxHeartbeats 1000000 in
theorem ks_callx {D : va_G} {aC : Nat → ClassId} {lw : Nat} {G : kG} {p : Program} {l : Launch} {e : Env} {R : Room} {s : State} {m : MethodId} {args : Array Value} {below : List Frame} {meth : Method} {c : Code} {Q : State → Prop} {y : Nat} {C : kCl} {P : kO → kH → Prop} {d MC MS : Nat} (Z : kZ D aC lw G p l e R s m args below meth c Q y C P d MC MS) : kc_callx G y C P (kOK aC D lw y p l e R s m args below meth c Q MC MS) := by
  obtain ⟨hx, hb, hml, hown, hts, hK, hini, hroom, hexh, IH, hend⟩ := Z
  intro pc lo st h mc ms i y1 mc1 ms1 mc2 ms2 As st0 P1 a ci fs hd hm hk hn hst hAs ha hci hpl hlw hdl hw hC hm1 hm2 k1 k2 H locs cells slots LS hR hS hL hc hs
  exact kCallX IH hx hb hml hown hts hK hexh hR hS hL hroom hm hk hn hst hAs ha hci hpl hlw hdl hw hC hm1 hm2 hc hs (kDec hd) (fun v h1 hP H1 locs1 hR1 hS1 => k1 v h1 hP H1 locs1 (cells + mc1) (slots + ms1) LS hR1 hS1 hL (by omega) (by omega)) (fun E q hp h1 hP hh H1 locs1 hR1 hS1 => k2 E q hp h1 hP hh H1 locs1 (cells + mc1) (slots + ms1) LS hR1 hS1 hL (by omega) (by omega))
set_option maxHeartbeats 1000000 in
theorem ks_ireturn {D : va_G} {aC : Nat → ClassId} {lw : Nat} {G : kG} {p : Program} {l : Launch} {e : Env} {R : Room} {s : State} {m : MethodId} {args : Array Value} {below : List Frame} {meth : Method} {c : Code} {Q : State → Prop} {y : Nat} {C : kCl} {P : kO → kH → Prop} {d MC MS : Nat} (Z : kZ D aC lw G p l e R s m args below meth c Q y C P d MC MS) : kc_ireturn G y C P (kOK aC D lw y p l e R s m args below meth c Q MC MS) := by
  obtain ⟨hx, hb, hml, hown, hts, hK, hini, hroom, hexh, IH, hend⟩ := Z
  intro pc lo h mc ms x ty hd hr hn hP H locs cells slots LS hR hS hL hc hs
  exact hend.1 pc x ty h H locs cells slots LS (kDec hd) hr hn hP hR hS (Nat.le_of_add_right_le hc) (Nat.le_of_add_right_le hs)
set_option maxHeartbeats 1000000 in
theorem ks_areturn {D : va_G} {aC : Nat → ClassId} {lw : Nat} {G : kG} {p : Program} {l : Launch} {e : Env} {R : Room} {s : State} {m : MethodId} {args : Array Value} {below : List Frame} {meth : Method} {c : Code} {Q : State → Prop} {y : Nat} {C : kCl} {P : kO → kH → Prop} {d MC MS : Nat} (Z : kZ D aC lw G p l e R s m args below meth c Q y C P d MC MS) : kc_areturn G y C P (kOK aC D lw y p l e R s m args below meth c Q MC MS) := by
  obtain ⟨hx, hb, hml, hown, hts, hK, hini, hroom, hexh, IH, hend⟩ := Z
  intro pc lo h mc ms v hd hr hv hP H locs cells slots LS hR hS hL hc hs
  exact hend.2.1 pc v h H locs cells slots LS (kDec hd) hr hv hP hR hS (Nat.le_of_add_right_le hc) (Nat.le_of_add_right_le hs)
set_option maxHeartbeats 1000000 in
theorem ks_return {D : va_G} {aC : Nat → ClassId} {lw : Nat} {G : kG} {p : Program} {l : Launch} {e : Env} {R : Room} {s : State} {m : MethodId} {args : Array Value} {below : List Frame} {meth : Method} {c : Code} {Q : State → Prop} {y : Nat} {C : kCl} {P : kO → kH → Prop} {d MC MS : Nat} (Z : kZ D aC lw G p l e R s m args below meth c Q y C P d MC MS) : kc_return G y C P (kOK aC D lw y p l e R s m args below meth c Q MC MS) := by
  obtain ⟨hx, hb, hml, hown, hts, hK, hini, hroom, hexh, IH, hend⟩ := Z
  intro pc lo h mc ms hd hr hP H locs cells slots LS hR hS hL hc hs
  exact hend.2.2.1 pc h H locs cells slots LS (kDec hd) hr hP hR hS (Nat.le_of_add_right_le hc) (Nat.le_of_add_right_le hs)
set_option maxHeartbeats 1000000 in
theorem ks_throw {D : va_G} {aC : Nat → ClassId} {lw : Nat} {G : kG} {p : Program} {l : Launch} {e : Env} {R : Room} {s : State} {m : MethodId} {args : Array Value} {below : List Frame} {meth : Method} {c : Code} {Q : State → Prop} {y : Nat} {C : kCl} {P : kO → kH → Prop} {d MC MS : Nat} (Z : kZ D aC lw G p l e R s m args below meth c Q y C P d MC MS) : kc_throw G y C P (kOK aC D lw y p l e R s m args below meth c Q MC MS) := by
  obtain ⟨hx, hb, hml, hown, hts, hK, hini, hroom, hexh, IH, hend⟩ := Z
  intro pc lo st h mc ms E hd hmc hms hw hP H locs cells slots LS hR hS hL hc hs
  exact hend.2.2.2 pc E st h lo H locs cells slots LS hd hw hP hR hS hL (by omega) (by omega)
theorem ks_all {D : va_G} {aC : Nat → ClassId} {lw : Nat} {G : kG} {p : Program} {l : Launch} {e : Env} {R : Room} {s : State} {m : MethodId} {args : Array Value} {below : List Frame} {meth : Method} {c : Code} {Q : State → Prop} {y : Nat} {C : kCl} {P : kO → kH → Prop} {d MC MS : Nat} (Z : kZ D aC lw G p l e R s m args below meth c Q y C P d MC MS) : kClosed G y C P (kOK aC D lw y p l e R s m args below meth c Q MC MS) := ⟨ks_iconst Z, ks_bipush Z, ks_sipush Z, ks_null Z, ks_lconst Z, ks_ldc Z, ks_iload_n Z, ks_iload Z, ks_aload_n Z, ks_aload Z, ks_istore_n Z, ks_istore Z, ks_astore_n Z, ks_astore Z, ks_iinc Z, ks_iadd Z, ks_isub Z, ks_imul Z, ks_iand Z, ks_ior Z, ks_ixor Z, ks_idiv Z, ks_irem Z, ks_lcmp Z, ks_ineg Z, ks_i2l Z, ks_dup Z, ks_pop Z, ks_dup_x1 Z, ks_dup2 Z, ks_goto Z, ks_if_eq Z, ks_if_ne Z, ks_if_lt Z, ks_if_ge Z, ks_if_gt Z, ks_if_le Z, ks_icmp_eq Z, ks_icmp_ne Z, ks_icmp_lt Z, ks_icmp_ge Z, ks_icmp_gt Z, ks_icmp_le Z, ks_nonnull Z, ks_nonnullN Z, ks_isnull Z, ks_isnullN Z, ks_tswIn Z, ks_tswOut Z, ks_lsw Z, ks_getf Z, ks_iald Z, ks_zald Z, ks_lald Z, ks_aald Z, ks_alen Z, ks_sald Z, ks_slen Z, ks_putf Z, ks_iast Z, ks_zast Z, ks_last Z, ks_aast Z, ks_copyi Z, ks_mmin Z, ks_mmax Z, ks_new Z, ks_newi Z, ks_newz Z, ks_newj Z, ks_newq Z, ks_objinit Z, ks_calls Z, ks_callv Z, ks_calli Z, ks_callx Z, ks_ireturn Z, ks_areturn Z, ks_return Z, ks_throw Z⟩
end
section
theorem kThr_ok {y pc E : Nat} (h : kThr y pc = some E) : ∃ (ik i2 ic : Nat) (tx : String), (y, pc, E, ik, i2, ic, tx) ∈ kThrL ∧ kChT (y, pc, E, ik, i2, ic, tx) = true := by
  have hm := kFind (L := kThrL.map (fun q => (q.1, q.2.1, q.2.2.1))) (v := E) (cn := y) (i := pc) (by
    unfold kThr at h
    rw [List.find?_map]
    cases hf : kThrL.find? (fun q => q.1 == y && q.2.1 == pc) with
    | none => rw [hf] at h; cases h
    | some q =>
      rw [hf] at h
      have hf2 : List.find? ((fun q : Nat × Nat × Nat => q.1 == y && q.2.1 == pc) ∘ fun q : Nat × Nat × Nat × Nat × Nat × Nat × String => (q.1, q.2.1, q.2.2.1)) kThrL = some q := hf
      rw [hf2]
      exact h)
  obtain ⟨⟨a, b, c, ik, i2, ic, tx⟩, hq, he⟩ := List.mem_map.mp hm
  cases he
  exact ⟨ik, i2, ic, tx, hq, List.all_eq_true.mp kChT_ok _ hq⟩
section KT
variable {p : Program} {l : Launch} {e : Env} {R : Room} {s : State} {m : MethodId} {args : Array Value} {below : List Frame} {meth : Method} {c : Code} {D : va_G} {aC : Nat → ClassId} {lw : Nat} {G : kG} {y : Nat} {P : kO → kH → Prop} {MC MS : Nat}
set_option maxHeartbeats 2000000 in
theorem kThrow (hl : l.stackTraces = false) (hx : p.tables.exec = Jvm.exec) (hb : c.code = kBytes y) (hml : c.maxLocals = kMaxL y) (hown : s.vm.findClass (kCls (kCn y)) = some m.cls) (hts : ∀ w ∈ kTbl, w.before args s = true) (hK : kK D aC lw G s) (hlocks : meth.locks = false) (hexc : kHh y = [] → ∀ x ∈ c.exceptionTable.toList, False) (hr : R.cells = MC ∧ R.slots = MS ∧ 6 ≤ R.frames ∧ 200 ≤ R.locals)
    {pc E : Nat} {st : List Value} {h : kH} {lo : kL} {H : Heap} {locs : List Loc} {cells slots : Nat} {LS : Array Slot} (hth : kThr y pc = some E) (hw : (st.map fun v => v.category).sum ≤ 8) (hP : P (.inr E) h) (hR : kR D aC lw h H) (hS : va_S (fun q => lw ≤ q) s.heap H locs) (hL : kLo (kMaxL y) LS lo) (hc : cells + 1 ≤ MC) (hs : slots + 6 ≤ MS) :
    W p l e R s m args below meth c H locs cells slots (vx_MQ below (kQ D aC lw P) (kXC D aC lw P) args s MC MS (fun q => lw ≤ q)) (F0 m pc LS st) := by
  obtain ⟨ik, i2, ic, tx, hq, hch⟩ := kThr_ok hth
  unfold kChT at hch
  dsimp only at hch
  simp only [Bool.and_eq_true] at hch
  obtain ⟨⟨⟨⟨⟨⟨⟨t0, t3⟩, t4⟩, t6⟩, t9⟩, th⟩, tc⟩, te⟩ := hch
  obtain ⟨r1, r2, r3, r4⟩ := hr
  have tc := of_decide_eq_true tc
  have hout : ∀ x ∈ c.exceptionTable.toList, covers x (pc + 9) = false := fun x hx => (hexc (of_decide_eq_true th) x hx).elim
  obtain ⟨hU, hN, hstr, -⟩ := hK.2.2.2.2.2.2.2
  obtain ⟨sa, hsa⟩ := hstr _ hq
  have hnst : ∀ w ∈ kNst, w.before args s = true := fun w hw => va_Nw.use (kNst_onT w hw) (hK.2.1 w hw)
  have hxx : ∀ cls, cls = kExn E → ∀ t : State, s.vm.Alike t.vm → H.size ≤ t.heap.size → (∀ q : Nat, q < H.size → t.heap[q]? = H[q]?) → kXC D aC lw P cls s t := by
    intro cls hcls t ht hz hk
    refine ⟨E, h, hcls, hP, fun a e9 ha => ⟨(hR a e9 ha).1, ((hR a e9 ha).2).kept (hk a ((hR a e9 ha).2.lt))⟩, Nat.le_trans hS.1 hz, fun q g1 g2 => ?_⟩
    rw [hk q (Nat.lt_of_lt_of_le g1 hS.1)]
    exact hS.2.1 q g1 g2
  rw [tc] at hown hsa
  rw [Bool.or_eq_true] at te
  rcases te with te | te
  · obtain ⟨rfl, rfl, rfl⟩ := of_decide_eq_true te
    have hat : ∀ w ∈ kTw0, w.before args s = true := vx_hat (B := kNst) (fun w hw => hts w (List.mem_filter.mpr ⟨kT_w0 w hw, (List.mem_filter.mp hw).2⟩)) (fun w hw => List.mem_append_right _ (List.mem_append_left _ hw)) hnst
    exact vx_throwS hx hb hl (cls := "java/lang/IllegalArgumentException") (names := ["java/lang/RuntimeException", "java/lang/Exception"]) hown (by decide +kernel) (by decide +kernel) (hts _ kT_l0) (hts _ kT_i0) hsa hat (fun w hw => List.all_eq_true.mp kT_g0 w hw) hU hN hS (by rw [hml]; exact hL.1) (kDec (of_decide_eq_true t0)) (kDec (of_decide_eq_true t3)) (kDec (of_decide_eq_true t4)) (kDec (of_decide_eq_true t6)) (kDec (of_decide_eq_true t9)) hout (by show 2 + 3 < _; omega) (by show _ + (13 * (2 + 1) + 43) ≤ _; omega) (by omega) (by omega) hlocks (hxx _ rfl) hS.2.2 hc hs
  · obtain ⟨rfl, rfl, rfl⟩ := of_decide_eq_true te
    have hat : ∀ w ∈ kTw1, w.before args s = true := vx_hat (B := kNst) (fun w hw => hts w (List.mem_filter.mpr ⟨kT_w1 w hw, (List.mem_filter.mp hw).2⟩)) (fun w hw => List.mem_append_right _ (List.mem_append_right _ hw)) hnst
    exact vx_throwS hx hb hl (cls := "java/lang/IllegalStateException") (names := ["java/lang/RuntimeException", "java/lang/Exception"]) hown (by decide +kernel) (by decide +kernel) (hts _ kT_l1) (hts _ kT_i1) hsa hat (fun w hw => List.all_eq_true.mp kT_g1 w hw) hU hN hS (by rw [hml]; exact hL.1) (kDec (of_decide_eq_true t0)) (kDec (of_decide_eq_true t3)) (kDec (of_decide_eq_true t4)) (kDec (of_decide_eq_true t6)) (kDec (of_decide_eq_true t9)) hout (by show 2 + 3 < _; omega) (by show _ + (13 * (2 + 1) + 43) ≤ _; omega) (by omega) (by omega) hlocks (hxx _ rfl) hS.2.2 hc hs
end KT
end
section
theorem kLo_entry {y : Nat} {As : List Value} (h1 : As.all (fun v => v.category == 1) = true) (h2 : As.length ≤ kMaxL y) : (lg_sl As).length ≤ kMaxL y ∧ kLo (kMaxL y) ((lg_sl As ++ List.replicate (kMaxL y - (lg_sl As).length) Slot.unset).toArray) (kEntry y As) := by
  have hsl : ∀ (L : List Value), L.all (fun v => v.category == 1) = true → (lg_sl L).length = L.length := by
    intro L
    induction L with
    | nil => intro _; rfl
    | cons v L ih =>
      intro hL
      rw [List.all_cons, Bool.and_eq_true] at hL
      have hv : v.category = 1 := by simpa using hL.1
      have e : lg_sl (v :: L) = .val v :: lg_sl L := by simp [lg_sl, hv]
      rw [e, List.length_cons, List.length_cons, ih hL.2]
  have hargs : ∀ (L : List Value) (i : Nat), L.all (fun v => v.category == 1) = true → ∀ (j : Nat) (v : Value), L[j]? = some v → (i + j, v) ∈ lv_args i L := by
    intro L
    induction L with
    | nil => intro i _ j v hj; simp at hj
    | cons w L ih =>
      intro i hL j v hj
      rw [List.all_cons, Bool.and_eq_true] at hL
      have hw : ¬ w.category = 2 := by have : w.category = 1 := by simpa using hL.1
                                       omega
      unfold lv_args
      rw [if_neg hw]
      cases j with
      | zero =>
        cases hj
        exact List.mem_cons_self
      | succ j =>
        have := ih (i + 1) hL.2 j v hj
        rw [show i + 1 + j = i + (j + 1) by omega] at this
        exact List.mem_cons_of_mem _ this
  have hle : (lg_sl As).length ≤ kMaxL y := by rw [hsl As h1]; exact h2
  have hl := lv_entry As (n := kMaxL y) hle
  refine ⟨hle, hl.1, ?_, hl.2.1, fun i v hi => ?_⟩
  · unfold kEntry
    rw [List.length_append, List.length_map, List.length_replicate]
    omega
  · unfold kEntry at hi
    by_cases hlt : i < As.length
    · rw [List.getElem?_append_left (by rw [List.length_map]; exact hlt), List.getElem?_map] at hi
      cases ha : As[i]? with
      | none => rw [ha] at hi; cases hi
      | some w =>
        rw [ha] at hi
        cases hi
        have := hl.2.2 _ (hargs As 0 h1 i _ ha)
        rw [Nat.zero_add] at this
        refine ⟨this, ?_⟩
        have := List.all_eq_true.mp h1 _ (List.mem_of_getElem? ha)
        simpa using this
    · rw [List.getElem?_append_right (by rw [List.length_map]; omega)] at hi
      have := List.eq_of_mem_replicate (List.mem_of_getElem? hi)
      cases this
section KE
variable {p : Program} {l : Launch} {e : Env} {R : Room} {s : State} {m : MethodId} {args : Array Value} {below : List Frame} {meth : Method} {c : Code} {D : va_G} {aC : Nat → ClassId} {lw : Nat} {G : kG} {y : Nat} {P : kO → kH → Prop} {MC MS : Nat}
theorem kEnds_met (hx : p.tables.exec = Jvm.exec) (hb : c.code = kBytes y) (hret : meth.sig.returnType = kRet y) (hlocks : meth.locks = false)
    (hthr : ∀ (pc E : Nat) (st : List Value) (h : kH) (lo : kL) (H : Heap) (locs : List Loc) (cells slots : Nat) (LS : Array Slot), kThr y pc = some E → (st.map fun v => v.category).sum ≤ 8 → P (.inr E) h → kR D aC lw h H → va_S (fun q => lw ≤ q) s.heap H locs → kLo (kMaxL y) LS lo → cells + 1 ≤ MC → slots + 6 ≤ MS → W p l e R s m args below meth c H locs cells slots (vx_MQ below (kQ D aC lw P) (kXC D aC lw P) args s MC MS (fun q => lw ≤ q)) (F0 m pc LS st)) :
    kEnds D aC lw p l e R s m args below meth c (vx_MQ below (kQ D aC lw P) (kXC D aC lw P) args s MC MS (fun q => lw ≤ q)) y P MC MS := by
  refine ⟨?_, ?_, ?_, hthr⟩
  · intro pc x ty h H locs cells slots LS hd hr hn hP hR hS hc hs
    refine vx_ret (W.widen hc hs ?_)
    exact W.zret hx hb (hret.trans hr) hn (fun t ht hW => ⟨⟨_, h, rfl, hP, by rw [ht]; exact hR⟩, hS.F ht⟩) hS.2.2 hd hlocks
  · intro pc v h H locs cells slots LS hd hr hv hP hR hS hc hs
    refine vx_ret (W.widen hc hs ?_)
    obtain ⟨rt, hrt, hk⟩ : ∃ rt, kRet y = some rt ∧ ((∃ n, rt = .object n) ∨ ∃ t, rt = .array t) := by
      unfold kRrf at hr
      split at hr
      · rename_i n hn; exact ⟨_, hn, Or.inl ⟨_, rfl⟩⟩
      · rename_i n hn; exact ⟨_, hn, Or.inr ⟨_, rfl⟩⟩
      · cases hr
    have hv2 : v = .null ∨ ∃ a, v = .ref a := by
      cases v with
      | ref a => exact Or.inr ⟨a, rfl⟩
      | null => exact Or.inl rfl
      | _ => simp [Value.isRef] at hv
    exact W.aret hx hb (hret.trans hrt) hk hv2 (fun t ht hW => ⟨⟨_, h, rfl, hP, by rw [ht]; exact hR⟩, hS.F ht⟩) hS.2.2 hd hlocks
  · intro pc h H locs cells slots LS hd hr hP hR hS hc hs
    refine vx_ret (W.widen hc hs ?_)
    exact W.vret hx hb (hret.trans hr) (fun t ht hW => ⟨⟨_, h, rfl, hP, by rw [ht]; exact hR⟩, hS.F ht⟩) hS.2.2 hd hlocks
end KE
theorem kW_MQ {p : Program} {l : Launch} {e : Env} {R : Room} {s : State} {m : MethodId} {args : Array Value} {below : List Frame} {meth : Method} {c : Code} {H : Heap} {locs : List Loc} {cells slots mc ms : Nat} {Qc : Array Value → State → Outcome → State → Prop} {XC : String → State → State → Prop} {free : Addr → Prop} {g : JFrame} (hno : ∀ E st t, ¬ XC E st t) (w : W p l e R s m args below meth c H locs cells slots (vx_MQ below Qc XC args s mc ms free) g) : W p l e R s m args below meth c H locs cells slots (MQ below Qc args s mc ms free) g := by
  intro T hT X
  obtain ⟨t, a, o, b1, b2, b3⟩ := w T hT X
  refine ⟨t, a, o, b1, b2, ?_⟩
  rcases b3 with b3 | ⟨q, -, E, ce, L, hx, -⟩
  · exact b3
  · exact absurd hx (hno _ _ _)
theorem kMet_of {l : Launch} {y : MethodName} {ws : List Cond} {rm : Room} {Pc : Array Value → State → Prop} {Qc : Array Value → State → Outcome → State → Prop} {XC : String → State → State → Prop} {mc ms : Nat} {free : Addr → Prop} (h : Met l y ws rm Pc Qc mc ms free) : vx_Met l y ws rm Pc Qc XC mc ms free := by
  intro p e ha hc hk s m args below hf hs hP hKK
  obtain ⟨n, o, h1, h2, h3, h4⟩ := h p e ha hc hk s m args below hf hs hP hKK
  exact ⟨n, o, h1, h2, h3, Or.inl h4⟩
theorem kNoexc {l : Launch} {p : Program} {x : MethodName} {S : Spec} {cc bytes : ByteArray} {maxL maxL' : Nat} {ret ret' : Option FieldType} {e : Env} {s s₁ : State} {m : MethodId} {args : Array Value} {below : List Frame} {meth : Method} {c : Code} (B : BodyLoose p l x S cc maxL ret e s m args below meth c s₁) (h : (Cond.code x bytes maxL' ret').before args s = true) : ∀ z ∈ c.exceptionTable.toList, False := by
  obtain ⟨meth9, c9, h1, h2, -, -, -, -, h7, -⟩ := Cond.code_spec B.named h
  cases Option.some.inj (h1.symm.trans B.method)
  cases Option.some.inj (h2.symm.trans (Stand.of_body B).code)
  intro z hz
  rw [Array.isEmpty_iff.mp h7] at hz
  cases hz
set_option maxHeartbeats 2000000 in
/-- the body of a method, from its entry -/
theorem kBody {l : Launch} {D : va_G} {aC : Nat → ClassId} {lw : Nat} {G : kG} {d y : Nat} {As : List Value} {h : kH} {mc ms : Nat} {P : kO → kH → Prop} (hl : l.stackTraces = false) (hM : kChM y = true)
    (IH : ∀ (y1 : Nat) (As : List Value) (h : kH) (mc ms : Nat) (P : kO → kH → Prop), kChM y1 = true → (plainName (kNm y1).cls = true ∨ ∀ E h1, ¬ P (.inr E) h1) → kRun G d y1 As h mc ms P → kMet D aC lw G l d y1 As h mc ms P)
    (w : kRun G (d + 1) y As h mc ms P) {p : Program} {e : Env} {s : State} {m : MethodId} {args : Array Value} {below : List Frame} {meth : Method} {c : Code} {s₁ : State} (B : BodyLoose p l (kNm y) (headSpec (kWs y) (kRm (d + 1) mc ms)) (kBytes y) (kMaxL y) (kRet y) e s m args below meth c s₁) (hml : c.maxLocals = kMaxL y) (hexc : kHh y = [] → ∀ x ∈ c.exceptionTable.toList, False) (hexh : kHh y = [] ∨ c.exceptionTable.toList = tableOf (kHh y))
    (hv : va_Pc As (fun U => kK D aC lw G U ∧ kR D aC lw h U.heap) args s) :
    W p l e (headSpec (kWs y) (kRm (d + 1) mc ms)).room s m args below meth c s.heap [] 0 0 (vx_MQ below (kQ D aC lw P) (kXC D aC lw P) args s mc ms (fun q => lw ≤ q)) (entryFrame m args (kMaxL y)) := by
  obtain ⟨rfl, hK, hR⟩ := hv
  obtain ⟨⟨ha1, ha2⟩, w⟩ := w
  obtain ⟨w1, w2, hd, hpl, hml40, hcl, hK0, hK1, hK2, hH0, hH2⟩ := kM_ok hM
  obtain ⟨hle, hL⟩ := kLo_entry (y := y) ha1 ha2
  have hts0 := atoms_spec (ws := kWs y) B.pre
  have hts : ∀ w ∈ kTbl, w.before As.toArray s = true := fun w hw => hts0 w (by unfold kWs; exact List.mem_cons_of_mem _ hw)
  have hown : s.vm.findClass (kCls (kCn y)) = some m.cls := by rw [hcl]; exact findClass_of_methodNamed B.named
  have hini : kIni y = true → meth.name = "<init>" := by
    intro hi
    have hk2 : kKin y = 2 := by simpa [kIni] using hi
    rw [(name_of_methodNamed B.named B.method).1]
    exact (hK2 hk2).2
  have hend := kEnds_met (P := P) (D := D) (aC := aC) (lw := lw) (MC := mc) (MS := ms) (l := l) (e := e) (R := (headSpec (kWs y) (kRm (d + 1) mc ms)).room) (s := s) (m := m) (args := As.toArray) (below := below) B.exec B.bytes B.returns B.notSynchronized
    (fun pc E st h lo H locs cells slots LS hth hw hP hR hS hL hc hs => kThrow hl B.exec B.bytes hml hown hts hK B.notSynchronized hexc ⟨rfl, rfl, Nat.le_add_left 6 (d + 1), Nat.le_add_left 200 (64 * (d + 1))⟩ hth hw hP hR hS hL hc hs)
  have Z : kZ D aC lw G p l e (headSpec (kWs y) (kRm (d + 1) mc ms)).room s m As.toArray below meth c (vx_MQ below (kQ D aC lw P) (kXC D aC lw P) As.toArray s mc ms (fun q => lw ≤ q)) y (kRun G d) P d mc ms :=
    ⟨B.exec, B.bytes, hml, hown, hts, hK, hini, ⟨rfl, rfl, Nat.le_refl _, Nat.le_refl _⟩, hexh, IH, hend⟩
  have K := w _ (ks_all Z) s.heap [] 0 0 _ hR va_S.rf hL (Nat.le_of_eq (Nat.zero_add _)) (Nat.le_of_eq (Nat.zero_add _))
  rw [lg_entry_eq]
  exact K
set_option maxHeartbeats 2000000 in
theorem kSound {l : Launch} {D : va_G} {aC : Nat → ClassId} {lw : Nat} {G : kG} (hl : l.stackTraces = false) : ∀ (d y : Nat) (As : List Value) (h : kH) (mc ms : Nat) (P : kO → kH → Prop), kChM y = true → (plainName (kNm y).cls = true ∨ ∀ E h1, ¬ P (.inr E) h1) → kRun G d y As h mc ms P → kMet D aC lw G l d y As h mc ms P := by
  intro d
  induction d with
  | zero => intro y As h mc ms P _ _ w; exact w.elim
  | succ d ih =>
    intro y As h mc ms P hM hpn w
    obtain ⟨w1, w2, hd, hpl, hml40, hcl, hK0, hK1, hK2, hH0, hH2⟩ := kM_ok hM
    by_cases hp : plainName (kNm y).cls = true
    · by_cases hh : kHh y = []
      · exact vx_ofW hp (kWs_code hh) (fun p e s m args below meth c s₁ B hml hexc hv => kBody hl hM ih w B hml (fun _ => hexc) (Or.inl hh) hv)
      · exact vx_ofWH hp (kWs_with hh) (fun p e s m args below meth c s₁ B hml hv => kBody hl hM ih w B hml (fun h9 => absurd h9 hh) (Or.inr (vx_table (x := kNm y) B (atoms_spec (ws := kWs y) B.pre _ (by rw [kWs_with hh]; exact List.mem_cons_self)))) hv)
    · have hno := hpn.resolve_left hp
      have hpf : plainFor (kNm y) = true ∧ kHh y = [] := by
        rw [Bool.or_eq_true, Bool.and_eq_true] at hpl
        have := hpl.resolve_left hp
        exact ⟨this.1, of_decide_eq_true this.2⟩
      have hnx : ∀ E st t, ¬ kXC D aC lw P E st t := fun E st t hx => by obtain ⟨i9, h9, -, hp9, -⟩ := hx; exact hno _ _ hp9
      have hh := hpf.2
      exact kMet_of (va_MetF hpf.1 (kWs_code hh) (fun p e s m args below meth c s₁ B hml hv => kW_MQ hnx (kBody hl hM ih w B hml (fun _ => kNoexc B (atoms_spec (ws := kWs y) B.pre _ (by rw [kWs_code hh]; exact List.mem_cons_self))) (Or.inl hh) hv)))
end
section
/-! short words for contracts over the small machine -/
/-- an int comes, the heap stays -/
def kRI (h : kH) (x : Int32) : kO → kH → Prop := fun o h1 => o = .inl (some (.int x)) ∧ h1 = h
/-- a reference or null comes, the heap stays -/
def kRQ (h : kH) (r : Option Nat) : kO → kH → Prop := fun o h1 => o = .inl (some (va_rf r)) ∧ h1 = h
/-- nothing comes, the heap is this -/
def kRV (h : kH) : kO → kH → Prop := fun o h1 => o = .inl none ∧ h1 = h
/-- an int comes, the heap is so -/
def kRIx (x : Int32) (Q : kH → Prop) : kO → kH → Prop := fun o h1 => o = .inl (some (.int x)) ∧ Q h1
def kRVx (Q : kH → Prop) : kO → kH → Prop := fun o h1 => o = .inl none ∧ Q h1
theorem kRI_no {h : kH} {x : Int32} : ∀ E h1, ¬ kRI h x (.inr E) h1 := fun _ _ z => by cases z.1
theorem kRQ_no {h : kH} {r : Option Nat} : ∀ E h1, ¬ kRQ h r (.inr E) h1 := fun _ _ z => by cases z.1
theorem kRV_no {h : kH} : ∀ E h1, ¬ kRV h (.inr E) h1 := fun _ _ z => by cases z.1
theorem kRIx_no {x : Int32} {Q : kH → Prop} : ∀ E h1, ¬ kRIx x Q (.inr E) h1 := fun _ _ z => by cases z.1
theorem kRVx_no {Q : kH → Prop} : ∀ E h1, ¬ kRVx Q (.inr E) h1 := fun _ _ z => by cases z.1
theorem kRI_of {h : kH} {x y : Int32} (e : x = y) : kRI h y (.inl (some (.int x))) h := ⟨by rw [e], rfl⟩
/-- an int that says whether -/
noncomputable def kb (p : Prop) : Int32 := @ite _ p (Classical.propDecidable p) 1 0
theorem kb_t {p : Prop} (h : p) : kb p = 1 := by unfold kb; rw [if_pos h]
theorem kb_f {p : Prop} (h : ¬ p) : kb p = 0 := by unfold kb; rw [if_neg h]
theorem kb_0 {p : Prop} : kb p = 0 ↔ ¬ p := by
  by_cases h : p
  · rw [kb_t h]
    exact ⟨fun e => absurd e (by decide), fun n => absurd h n⟩
  · rw [kb_f h]
    exact ⟨fun _ => h, fun _ => rfl⟩
theorem kb_n0 {p : Prop} : ¬ kb p = 0 ↔ p := by
  rw [kb_0]
  exact Classical.not_not
theorem kb_bool (p : Prop) : narrow .boolean (.int (kb p)) = .int (kb p) := by
  by_cases h : p
  · rw [kb_t h]; rfl
  · rw [kb_f h]; rfl
theorem kb_congr {p q : Prop} (e : p ↔ q) : kb p = kb q := by rw [propext e]
noncomputable def kif {α : Type} (p : Prop) (x y : α) : α := @ite _ p (Classical.propDecidable p) x y
theorem kif_t {α : Type} {p : Prop} {x y : α} (h : p) : kif p x y = x := if_pos h
theorem kif_f {α : Type} {p : Prop} {x y : α} (h : ¬ p) : kif p x y = y := if_neg h
theorem k_ne {h : kH} {a b : Nat} {e1 e2 : kE} (h1 : h b = some e1) (h2 : h a = some e2) (hne : e1 ≠ e2) : b ≠ a := fun z => by
  rw [z, h2] at h1
  exact hne (Option.some.inj h1).symm
theorem k_fresh {h : kH} {b q : Nat} {e : kE} (h1 : h b = some e) (h2 : h q = none) : b ≠ q := fun z => by rw [z, h2] at h1; cases h1
theorem vp_nlt {x : Int32} {n : Nat} (h : ¬ vp_in x n) (hn : n < 2 ^ 31) : x < 0 ∨ nI n ≤ x := by
  by_cases h0 : x < 0
  · exact Or.inl h0
  · obtain ⟨j, hj, rfl⟩ := nI_of h0
    refine Or.inr ((nI_leI hn hj).mpr ?_)
    exact Nat.le_of_not_lt fun hlt => h (vp_in_nI hlt hn)
theorem vp_lt0 {x : Int32} {n : Nat} (h : x < 0) : ¬ vp_in x n := fun z => z (Or.inl h)
theorem vp_ge {x : Int32} {n : Nat} (hn : n < 2 ^ 31) (h : nI n ≤ x) : ¬ vp_in x n := by
  intro z
  obtain ⟨j, hj, rfl⟩ := vp_in_of z hn
  exact nI_ge hj hn h
theorem vp_mk {x : Int32} {n : Nat} (hn : n < 2 ^ 31) (h0 : ¬ x < 0) (h : ¬ nI n ≤ x) : vp_in x n := by
  obtain ⟨j, hj, rfl⟩ := nI_of h0
  refine vp_in_nI (Nat.lt_of_not_le fun hle => h (nI_le hle hj)) hn
section KB
variable {G : kG} {y : Nat} {C : kCl} {P : kO → kH → Prop} {pc : Nat} {lo : kL} {st : List Value} {h : kH} {mc ms : Nat} {i y1 : Nat} {As st0 : List Value} {a ci : Nat} {fs : List Value}
theorem k_callv_i {x : Int32} (hd : kI y pc = some (.invokevirtual i, 3)) (hm : kMth (kCn y) i = some y1) (hk : kKin y1 = 1) (hn : As.length = kArg y1 + 1) (hst : st0 = As.reverse ++ st) (hAs : As[0]? = some (.ref a)) (ha : h a = some (kOb ci fs)) (hci : kRcv y1 = some ci) (hw : (st.map fun v => v.category).sum ≤ 8) (hC : C y1 As h 0 0 (kRI h x))
    (k1 : kWP G y C P (pc + 3) lo (.int x :: st) h mc ms) : kWP G y C P pc lo st0 h mc ms :=
  k_callv (mc1 := 0) (ms1 := 0) (mc2 := mc) (ms2 := ms) hd hm hk hn hst hAs ha hci hw hC kRI_no (by omega) (by omega) (fun v h1 hP => by obtain ⟨e1, rfl⟩ := hP; cases e1; exact k1)
theorem k_calls_i {x : Int32} (hd : kI y pc = some (.invokestatic i, 3)) (hm : kMth (kCn y) i = some y1) (hk : kKin y1 = 0) (hn : As.length = kArg y1) (hst : st0 = As.reverse ++ st) (hw : (st.map fun v => v.category).sum ≤ 8) (hC : C y1 As h 0 0 (kRI h x))
    (k1 : kWP G y C P (pc + 3) lo (.int x :: st) h mc ms) : kWP G y C P pc lo st0 h mc ms :=
  k_calls (mc1 := 0) (ms1 := 0) (mc2 := mc) (ms2 := ms) hd hm hk hn hst hw hC kRI_no (by omega) (by omega) (fun v h1 hP => by obtain ⟨e1, rfl⟩ := hP; cases e1; exact k1)
theorem k_callv_q {r : Option Nat} (hd : kI y pc = some (.invokevirtual i, 3)) (hm : kMth (kCn y) i = some y1) (hk : kKin y1 = 1) (hn : As.length = kArg y1 + 1) (hst : st0 = As.reverse ++ st) (hAs : As[0]? = some (.ref a)) (ha : h a = some (kOb ci fs)) (hci : kRcv y1 = some ci) (hw : (st.map fun v => v.category).sum ≤ 8) (hC : C y1 As h 0 0 (kRQ h r))
    (k1 : kWP G y C P (pc + 3) lo (va_rf r :: st) h mc ms) : kWP G y C P pc lo st0 h mc ms :=
  k_callv (mc1 := 0) (ms1 := 0) (mc2 := mc) (ms2 := ms) hd hm hk hn hst hAs ha hci hw hC kRQ_no (by omega) (by omega) (fun v h1 hP => by obtain ⟨e1, rfl⟩ := hP; cases e1; exact k1)
theorem k_callv_v {h2 : kH} (hd : kI y pc = some (.invokevirtual i, 3)) (hm : kMth (kCn y) i = some y1) (hk : kKin y1 = 1) (hn : As.length = kArg y1 + 1) (hst : st0 = As.reverse ++ st) (hAs : As[0]? = some (.ref a)) (ha : h a = some (kOb ci fs)) (hci : kRcv y1 = some ci) (hw : (st.map fun v => v.category).sum ≤ 8) (hC : C y1 As h 0 0 (kRV h2))
    (k1 : kWP G y C P (pc + 3) lo st h2 mc ms) : kWP G y C P pc lo st0 h mc ms :=
  k_callv (mc1 := 0) (ms1 := 0) (mc2 := mc) (ms2 := ms) hd hm hk hn hst hAs ha hci hw hC kRV_no (by omega) (by omega) (fun v h1 hP => by obtain ⟨e1, rfl⟩ := hP; cases e1; exact k1)
end KB
end
section
theorem kinc (n : Nat) : nI n + Int32.ofInt 1 = nI (n + 1) := nI_1 n
/-- what Table.valueAt answers -/
noncomputable def tbV (cols rows : Nat) (f : Nat → Int32) (k c : Int32) : Int32 := kif (vp_in k rows ∧ vp_in c cols) (f (k.toNatClampNeg * cols + c.toNatClampNeg)) 0
theorem tbIx {k c : Int32} {rows cols : Nat} (hk : vp_in k rows) (hc : vp_in c cols) (hr : rows ≤ 40) (hcs : cols ≤ 6) : vp_in (k * nI cols + c) 240 ∧ (k * nI cols + c).toNatClampNeg = k.toNatClampNeg * cols + c.toNatClampNeg := by
  obtain ⟨i, hi, rfl⟩ := vp_in_of hk (by omega)
  obtain ⟨j, hj, rfl⟩ := vp_in_of hc (by omega)
  rw [pk_mul, nI_add]
  have h1 : i * cols ≤ 39 * cols := Nat.mul_le_mul_right _ (by omega)
  have h2 : 39 * cols ≤ 39 * 6 := Nat.mul_le_mul_left _ hcs
  have hlt : i * cols + j < 240 := by omega
  refine ⟨vp_in_nI hlt (by omega), ?_⟩
  rw [nI_clamp (by omega), nI_clamp (by omega), nI_clamp (by omega)]
theorem tbV_nI {cols rows i j : Nat} {f : Nat → Int32} (hi : i < rows) (hj : j < cols) (hr : rows ≤ 40) (hcs : cols ≤ 6) : tbV cols rows f (nI i) (nI j) = f (i * cols + j) := by
  unfold tbV
  rw [kif_t ⟨vp_in_nI hi (by omega), vp_in_nI hj (by omega)⟩, nI_clamp (by omega), nI_clamp (by omega)]
/-- is column j of row k of the cells f the value v -/
def tbEq (cols : Nat) (f : Nat → Int32) (j : Nat) (v : Int32) (k : Nat) : Bool := f (k * cols + j) == v
def tbCnt (cols : Nat) (f : Nat → Int32) (j : Nat) (v : Int32) (n : Nat) : Nat := (List.range n).countP (tbEq cols f j v)
theorem tbCnt_t {cols : Nat} {f : Nat → Int32} {j : Nat} {v : Int32} {n : Nat} (h : f (n * cols + j) = v) : tbCnt cols f j v (n + 1) = tbCnt cols f j v n + 1 := by
  unfold tbCnt
  rw [List.range_succ, List.countP_append]
  simp [tbEq, h]
theorem tbCnt_f {cols : Nat} {f : Nat → Int32} {j : Nat} {v : Int32} {n : Nat} (h : ¬ f (n * cols + j) = v) : tbCnt cols f j v (n + 1) = tbCnt cols f j v n := by
  unfold tbCnt
  rw [List.range_succ, List.countP_append]
  simp [tbEq, h]
theorem tbCnt_le {cols : Nat} {f : Nat → Int32} {j : Nat} {v : Int32} {n : Nat} : tbCnt cols f j v n ≤ n := by
  unfold tbCnt
  exact Nat.le_trans List.countP_le_length (by rw [List.length_range]; exact Nat.le_refl _)
/-- the first place from k on, n places at most, where pr holds -/
def tbNx (pr : Nat → Bool) : Nat → Nat → Nat
  | 0, k => k
  | n + 1, k => if pr k then k else tbNx pr n (k + 1)
theorem tbI41 {i rows cols : Nat} (hi : i < rows) (hr : rows ≤ 40) (hcs : cols ≤ 6) : i * cols + cols ≤ 240 := by
  have h1 : i * cols ≤ 39 * cols := Nat.mul_le_mul_right _ (by omega)
  omega
theorem tbI40 {i rows cols : Nat} (hi : i < rows) (hr : rows ≤ 40) (hcs : cols ≤ 6) : i * cols < 2 ^ 31 := by
  have := tbI41 hi hr hcs
  omega
/-- the rows of a table, as lists -/
def tbRow (cols : Nat) (f : Nat → Int32) (k : Nat) : List Int32 := (List.range cols).map (fun c => f (k * cols + c))
def tbRows (cols n : Nat) (f : Nat → Int32) : List (List Int32) := (List.range n).map (tbRow cols f)
theorem tbRows_succ (cols n : Nat) (f : Nat → Int32) : tbRows cols (n + 1) f = tbRows cols n f ++ [tbRow cols f n] := by
  unfold tbRows
  rw [List.range_succ, List.map_append]
  rfl
theorem tbRow_congr {cols k k2 : Nat} {f g : Nat → Int32} (h : ∀ c, c < cols → f (k * cols + c) = g (k2 * cols + c)) : tbRow cols f k = tbRow cols g k2 := by
  unfold tbRow
  exact List.map_congr_left (fun c hc => h c (List.mem_range.mp hc))
theorem tbRows_congr {cols n : Nat} {f g : Nat → Int32} (h : ∀ k c, k < n → c < cols → f (k * cols + c) = g (k * cols + c)) : tbRows cols n f = tbRows cols n g := by
  unfold tbRows
  exact List.map_congr_left (fun k hk => tbRow_congr (fun c hc => h k c (List.mem_range.mp hk) hc))
theorem tbRow_at {cols k j : Nat} {f : Nat → Int32} (hj : j < cols) : (tbRow cols f k)[j]? = some (f (k * cols + j)) := by
  unfold tbRow
  rw [List.getElem?_map, List.getElem?_range hj]
  rfl
theorem tbIdx_lt {k n c cols : Nat} (hk : k < n) (hc : c < cols) : k * cols + c < n * cols := by
  have h1 : (k + 1) * cols ≤ n * cols := Nat.mul_le_mul_right _ hk
  rw [Nat.add_mul, Nat.one_mul] at h1
  omega
/-- the rows whose column j isn't v -/
def tbKeep (j : Nat) (v : Int32) (r : List Int32) : Bool := !(r[j]? == some v)
theorem tbKeep_row {cols k j : Nat} {f : Nat → Int32} {v : Int32} (hj : j < cols) : tbKeep j v (tbRow cols f k) = !tbEq cols f j v k := by
  unfold tbKeep tbEq
  rw [tbRow_at hj]
  simp
theorem tbCnt_keep {cols j n : Nat} {f : Nat → Int32} {v : Int32} (hj : j < cols) : ((tbRows cols n f).filter (tbKeep j v)).length + tbCnt cols f j v n = n := by
  induction n with
  | zero => rfl
  | succ n ih =>
    rw [tbRows_succ, List.filter_append, List.length_append]
    by_cases h : f (n * cols + j) = v
    · rw [tbCnt_t h]
      have : tbKeep j v (tbRow cols f n) = false := by rw [tbKeep_row hj]; simp [tbEq, h]
      simp [this]
      omega
    · rw [tbCnt_f h]
      have : tbKeep j v (tbRow cols f n) = true := by rw [tbKeep_row hj]; simp [tbEq, h]
      simp [this]
      omega
set_option maxHeartbeats 1000000 in
theorem c_hasColumn {G : kG} {d : Nat} {h : kH} {mc ms a cols xi xc xs rows srows : Nat} (ha : h a = some (kOb 4 [.int (nI cols), .ref xi, .ref xc, .ref xs, .int (nI rows), .int (nI srows)])) (hcols : cols < 2 ^ 31) (c : Int32) : kRun G (d + 1) 71 [.ref a, .int c] h mc ms (kRI h (kb (vp_in c cols))) := by
  refine ⟨⟨rfl, Nat.le_of_ble_eq_true rfl⟩, ?_⟩
  show kWP _ _ _ _ 0 [some (.ref a), some (.int c)] [] _ _ _
  refine k_iload_n (pc := 0) i_71_0 rfl ?_
  refine k_if_lt (pc := 1) (tgt := 16) i_71_1 (by decide) (fun c1 => ?_) (fun c1 => ?_)
  · refine k_iconst (pc := 16) (v := 0) i_71_16 (by decide) ?_
    exact k_ireturn (pc := 17) i_71_17 rfl rfl (kRI_of (kb_f (vp_lt0 c1)).symm)
  · refine k_iload_n (pc := 4) i_71_4 rfl ?_
    refine k_aload_n (pc := 5) i_71_5 rfl rfl ?_
    refine k_getf (pc := 6) i_71_6 f_4_9 ha rfl ?_
    refine k_icmp_ge (pc := 9) (tgt := 16) i_71_9 (by decide) (fun c2 => ?_) (fun c2 => ?_)
    · refine k_iconst (pc := 16) (v := 0) i_71_16 (by decide) ?_
      exact k_ireturn (pc := 17) i_71_17 rfl rfl (kRI_of (kb_f (vp_ge hcols c2)).symm)
    · refine k_iconst (pc := 12) (v := 1) i_71_12 (by decide) ?_
      refine k_goto (pc := 13) (tgt := 17) i_71_13 (by decide) ?_
      exact k_ireturn (pc := 17) i_71_17 rfl rfl (kRI_of (kb_t (vp_mk hcols c1 c2)).symm)
set_option maxHeartbeats 1000000 in
theorem c_hasRow {G : kG} {d : Nat} {h : kH} {mc ms a cols xi xc xs rows srows : Nat} (ha : h a = some (kOb 4 [.int (nI cols), .ref xi, .ref xc, .ref xs, .int (nI rows), .int (nI srows)])) (hrows : rows < 2 ^ 31) (c : Int32) : kRun G (d + 1) 72 [.ref a, .int c] h mc ms (kRI h (kb (vp_in c rows))) := by
  refine ⟨⟨rfl, Nat.le_of_ble_eq_true rfl⟩, ?_⟩
  show kWP _ _ _ _ 0 [some (.ref a), some (.int c)] [] _ _ _
  refine k_iload_n (pc := 0) i_72_0 rfl ?_
  refine k_if_lt (pc := 1) (tgt := 16) i_72_1 (by decide) (fun c1 => ?_) (fun c1 => ?_)
  · refine k_iconst (pc := 16) (v := 0) i_72_16 (by decide) ?_
    exact k_ireturn (pc := 17) i_72_17 rfl rfl (kRI_of (kb_f (vp_lt0 c1)).symm)
  · refine k_iload_n (pc := 4) i_72_4 rfl ?_
    refine k_aload_n (pc := 5) i_72_5 rfl rfl ?_
    refine k_getf (pc := 6) i_72_6 f_4_26 ha rfl ?_
    refine k_icmp_ge (pc := 9) (tgt := 16) i_72_9 (by decide) (fun c2 => ?_) (fun c2 => ?_)
    · refine k_iconst (pc := 16) (v := 0) i_72_16 (by decide) ?_
      exact k_ireturn (pc := 17) i_72_17 rfl rfl (kRI_of (kb_f (vp_ge hrows c2)).symm)
    · refine k_iconst (pc := 12) (v := 1) i_72_12 (by decide) ?_
      refine k_goto (pc := 13) (tgt := 17) i_72_13 (by decide) ?_
      exact k_ireturn (pc := 17) i_72_17 rfl rfl (kRI_of (kb_t (vp_mk hrows c1 c2)).symm)
set_option maxHeartbeats 1000000 in
theorem c_valueAt {G : kG} {d : Nat} {h : kH} {mc ms a cols xi xc xs rows srows : Nat} (ha : h a = some (kOb 4 [.int (nI cols), .ref xi, .ref xc, .ref xs, .int (nI rows), .int (nI srows)])) {f : Nat → Int32} (hxc : h xc = some (kAI 0 240 f)) (hr : rows ≤ 40) (hcs : cols ≤ 6) (k c : Int32) : kRun G (d + 2) 73 [.ref a, .int k, .int c] h mc ms (kRI h (tbV cols rows f k c)) := by
  refine ⟨⟨rfl, Nat.le_of_ble_eq_true rfl⟩, ?_⟩
  show kWP _ _ _ _ 0 [some (.ref a), some (.int k), some (.int c)] [] _ _ _
  refine k_aload_n (pc := 0) i_73_0 rfl rfl ?_
  refine k_iload_n (pc := 1) i_73_1 rfl ?_
  refine k_callv_i (pc := 2) (As := [.ref a, .int k]) (st := []) i_73_2 m_4_29 rfl rfl rfl rfl ha rfl (Nat.le_of_ble_eq_true rfl) (c_hasRow ha (by omega) k) ?_
  refine k_if_eq (pc := 5) (tgt := 32) i_73_5 (by decide) (fun c1 => ?_) (fun c1 => ?_)
  · refine k_iconst (pc := 32) (v := 0) i_73_32 (by decide) ?_
    exact k_ireturn (pc := 33) i_73_33 rfl rfl (kRI_of (kif_f (fun z => kb_0.mp c1 z.1)).symm)
  · refine k_aload_n (pc := 8) i_73_8 rfl rfl ?_
    refine k_iload_n (pc := 9) i_73_9 rfl ?_
    refine k_callv_i (pc := 10) (As := [.ref a, .int c]) (st := []) i_73_10 m_4_33 rfl rfl rfl rfl ha rfl (Nat.le_of_ble_eq_true rfl) (c_hasColumn ha (by omega) c) ?_
    refine k_if_eq (pc := 13) (tgt := 32) i_73_13 (by decide) (fun c2 => ?_) (fun c2 => ?_)
    · refine k_iconst (pc := 32) (v := 0) i_73_32 (by decide) ?_
      exact k_ireturn (pc := 33) i_73_33 rfl rfl (kRI_of (kif_f (fun z => kb_0.mp c2 z.2)).symm)
    · refine k_aload_n (pc := 16) i_73_16 rfl rfl ?_
      refine k_getf (pc := 17) i_73_17 f_4_19 ha rfl ?_
      refine k_iload_n (pc := 20) i_73_20 rfl ?_
      refine k_aload_n (pc := 21) i_73_21 rfl rfl ?_
      refine k_getf (pc := 22) i_73_22 f_4_9 ha rfl ?_
      refine k_imul (pc := 25) i_73_25 ?_
      refine k_iload_n (pc := 26) i_73_26 rfl ?_
      refine k_iadd (pc := 27) i_73_27 ?_
      refine k_iald (pc := 28) i_73_28 hxc (tbIx (kb_n0.mp c1) (kb_n0.mp c2) hr hcs).1 ?_
      refine k_goto (pc := 29) (tgt := 33) i_73_29 (by decide) ?_
      exact k_ireturn (pc := 33) i_73_33 rfl rfl (kRI_of (by unfold tbV; rw [kif_t ⟨kb_n0.mp c1, kb_n0.mp c2⟩, (tbIx (kb_n0.mp c1) (kb_n0.mp c2) hr hcs).2]))
theorem c_valueAtN {G : kG} {d : Nat} {h : kH} {mc ms a cols xi xc xs rows srows : Nat} (ha : h a = some (kOb 4 [.int (nI cols), .ref xi, .ref xc, .ref xs, .int (nI rows), .int (nI srows)])) {f : Nat → Int32} (hxc : h xc = some (kAI 0 240 f)) (hr : rows ≤ 40) (hcs : cols ≤ 6) {i j : Nat} (hi : i < rows) (hj : j < cols) : kRun G (d + 2) 73 [.ref a, .int (nI i), .int (nI j)] h mc ms (kRI h (f (i * cols + j))) := by
  have := c_valueAt (G := G) (d := d) (mc := mc) (ms := ms) ha hxc hr hcs (nI i) (nI j)
  rw [tbV_nI hi hj hr hcs] at this
  exact this
set_option maxHeartbeats 1000000 in
theorem c_countEqual_loop {G : kG} {d : Nat} {h : kH} {mc ms a cols xi xc xs rows srows : Nat} (ha : h a = some (kOb 4 [.int (nI cols), .ref xi, .ref xc, .ref xs, .int (nI rows), .int (nI srows)])) {f : Nat → Int32} (hxc : h xc = some (kAI 0 240 f)) (hr : rows ≤ 40) (hcs : cols ≤ 6) {j : Nat} (hj : j < cols) (v : Int32) : ∀ (n i m : Nat), i + n = rows → m = tbCnt cols f j v i → kWP G 76 (kRun G (d + 2)) (kRI h (nI (tbCnt cols f j v rows))) 5 [some (.ref a), some (.int (nI j)), some (.int v), some (.int (nI m)), some (.int (nI i))] [] h mc ms := by
  intro n
  induction n with
  | zero =>
    intro i m hi hm
    refine k_iload (pc := 5) i_76_5 rfl ?_
    refine k_aload_n (pc := 7) i_76_7 rfl rfl ?_
    refine k_getf (pc := 8) i_76_8 f_4_26 ha rfl ?_
    refine k_icmp_ge (pc := 11) (tgt := 34) i_76_11 (by decide) (fun c1 => ?_) (fun c1 => absurd (nI_le (by omega) (by omega)) c1)
    refine k_iload_n (pc := 34) i_76_34 rfl ?_
    exact k_ireturn (pc := 35) i_76_35 rfl rfl (kRI_of (by rw [hm, show i = rows by omega]))
  | succ n ih =>
    intro i m hi hm
    refine k_iload (pc := 5) i_76_5 rfl ?_
    refine k_aload_n (pc := 7) i_76_7 rfl rfl ?_
    refine k_getf (pc := 8) i_76_8 f_4_26 ha rfl ?_
    refine k_icmp_ge (pc := 11) (tgt := 34) i_76_11 (by decide) (fun c1 => absurd c1 (nI_ge (by omega) (by omega))) (fun c1 => ?_)
    refine k_aload_n (pc := 14) i_76_14 rfl rfl ?_
    refine k_iload (pc := 15) i_76_15 rfl ?_
    refine k_iload_n (pc := 17) i_76_17 rfl ?_
    refine k_callv_i (pc := 18) (As := [.ref a, .int (nI i), .int (nI j)]) (st := []) i_76_18 m_4_42 rfl rfl rfl rfl ha rfl (Nat.le_of_ble_eq_true rfl) (c_valueAtN ha hxc hr hcs (i := i) (j := j) (by omega) hj) ?_
    refine k_iload_n (pc := 21) i_76_21 rfl ?_
    refine k_icmp_ne (pc := 22) (tgt := 28) i_76_22 (by decide) (fun c2 => ?_) (fun c2 => ?_)
    · refine k_iinc (pc := 28) (v := nI (i + 1)) (lo2 := [some (.ref a), some (.int (nI j)), some (.int v), some (.int (nI m)), some (.int (nI (i + 1)))]) i_76_28 rfl (kinc i) rfl ?_
      refine k_goto (pc := 31) (tgt := 5) i_76_31 (by decide) ?_
      exact ih (i + 1) m (by omega) (by rw [hm, tbCnt_f c2])
    · refine k_iinc (pc := 25) (v := nI (m + 1)) (lo2 := [some (.ref a), some (.int (nI j)), some (.int v), some (.int (nI (m + 1))), some (.int (nI i))]) i_76_25 rfl (kinc m) rfl ?_
      refine k_iinc (pc := 28) (v := nI (i + 1)) (lo2 := [some (.ref a), some (.int (nI j)), some (.int v), some (.int (nI (m + 1))), some (.int (nI (i + 1)))]) i_76_28 rfl (kinc i) rfl ?_
      refine k_goto (pc := 31) (tgt := 5) i_76_31 (by decide) ?_
      exact ih (i + 1) (m + 1) (by omega) (by rw [hm, tbCnt_t c2])
set_option maxHeartbeats 1000000 in
theorem c_countEqual {G : kG} {d : Nat} {h : kH} {mc ms a cols xi xc xs rows srows : Nat} (ha : h a = some (kOb 4 [.int (nI cols), .ref xi, .ref xc, .ref xs, .int (nI rows), .int (nI srows)])) {f : Nat → Int32} (hxc : h xc = some (kAI 0 240 f)) (hr : rows ≤ 40) (hcs : cols ≤ 6) {j : Nat} (hj : j < cols) (v : Int32) : kRun G (d + 3) 76 [.ref a, .int (nI j), .int v] h mc ms (kRI h (nI (tbCnt cols f j v rows))) := by
  refine ⟨⟨rfl, Nat.le_of_ble_eq_true rfl⟩, ?_⟩
  show kWP _ _ _ _ 0 [some (.ref a), some (.int (nI j)), some (.int v), none, none] [] _ _ _
  refine k_iconst (pc := 0) (v := 0) i_76_0 (by decide) ?_
  refine k_istore_n (pc := 1) (lo2 := [some (.ref a), some (.int (nI j)), some (.int v), some (.int 0), none]) i_76_1 (Nat.le_of_ble_eq_true rfl) rfl ?_
  refine k_iconst (pc := 2) (v := 0) i_76_2 (by decide) ?_
  refine k_istore (pc := 3) (lo2 := [some (.ref a), some (.int (nI j)), some (.int v), some (.int 0), some (.int 0)]) i_76_3 (Nat.le_of_ble_eq_true rfl) rfl ?_
  exact c_countEqual_loop ha hxc hr hcs hj v rows 0 0 (by omega) rfl
set_option maxHeartbeats 1000000 in
theorem c_nextEqual_loop {G : kG} {d : Nat} {h : kH} {mc ms a cols xi xc xs rows srows : Nat} (ha : h a = some (kOb 4 [.int (nI cols), .ref xi, .ref xc, .ref xs, .int (nI rows), .int (nI srows)])) {f : Nat → Int32} (hxc : h xc = some (kAI 0 240 f)) (hr : rows ≤ 40) (hcs : cols ≤ 6) {j p : Nat} (hj : j < cols) (v : Int32) : ∀ (n i : Nat), i + n = rows → kWP G 77 (kRun G (d + 2)) (kRI h (nI (tbNx (tbEq cols f j v) n i))) 3 [some (.ref a), some (.int (nI p)), some (.int (nI j)), some (.int v), some (.int (nI i))] [] h mc ms := by
  intro n
  induction n with
  | zero =>
    intro i hi
    refine k_iload (pc := 3) i_77_3 rfl ?_
    refine k_aload_n (pc := 5) i_77_5 rfl rfl ?_
    refine k_getf (pc := 6) i_77_6 f_4_26 ha rfl ?_
    refine k_icmp_ge (pc := 9) (tgt := 32) i_77_9 (by decide) (fun c1 => ?_) (fun c1 => absurd (nI_le (by omega) (by omega)) c1)
    refine k_aload_n (pc := 32) i_77_32 rfl rfl ?_
    refine k_getf (pc := 33) i_77_33 f_4_26 ha rfl ?_
    exact k_ireturn (pc := 36) i_77_36 rfl rfl (kRI_of (by unfold tbNx; rw [show i = rows by omega]))
  | succ n ih =>
    intro i hi
    refine k_iload (pc := 3) i_77_3 rfl ?_
    refine k_aload_n (pc := 5) i_77_5 rfl rfl ?_
    refine k_getf (pc := 6) i_77_6 f_4_26 ha rfl ?_
    refine k_icmp_ge (pc := 9) (tgt := 32) i_77_9 (by decide) (fun c1 => absurd c1 (nI_ge (by omega) (by omega))) (fun c1 => ?_)
    refine k_aload_n (pc := 12) i_77_12 rfl rfl ?_
    refine k_iload (pc := 13) i_77_13 rfl ?_
    refine k_iload_n (pc := 15) i_77_15 rfl ?_
    refine k_callv_i (pc := 16) (As := [.ref a, .int (nI i), .int (nI j)]) (st := []) i_77_16 m_4_42 rfl rfl rfl rfl ha rfl (Nat.le_of_ble_eq_true rfl) (c_valueAtN ha hxc hr hcs (i := i) (j := j) (by omega) hj) ?_
    refine k_iload_n (pc := 19) i_77_19 rfl ?_
    refine k_icmp_ne (pc := 20) (tgt := 26) i_77_20 (by decide) (fun c2 => ?_) (fun c2 => ?_)
    · refine k_iinc (pc := 26) (v := nI (i + 1)) (lo2 := [some (.ref a), some (.int (nI p)), some (.int (nI j)), some (.int v), some (.int (nI (i + 1)))]) i_77_26 rfl (kinc i) rfl ?_
      refine k_goto (pc := 29) (tgt := 3) i_77_29 (by decide) ?_
      rw [show tbNx (tbEq cols f j v) (n + 1) i = tbNx (tbEq cols f j v) n (i + 1) by rw [tbNx, if_neg (by simp [tbEq, c2])]]
      exact ih (i + 1) (by omega)
    · refine k_iload (pc := 23) i_77_23 rfl ?_
      exact k_ireturn (pc := 25) i_77_25 rfl rfl (kRI_of (by unfold tbNx; rw [if_pos (show tbEq cols f j v i = true by simp [tbEq, c2])]))
set_option maxHeartbeats 1000000 in
theorem c_nextEqual {G : kG} {d : Nat} {h : kH} {mc ms a cols xi xc xs rows srows : Nat} (ha : h a = some (kOb 4 [.int (nI cols), .ref xi, .ref xc, .ref xs, .int (nI rows), .int (nI srows)])) {f : Nat → Int32} (hxc : h xc = some (kAI 0 240 f)) (hr : rows ≤ 40) (hcs : cols ≤ 6) {j p : Nat} (hj : j < cols) (hp : p ≤ rows) (v : Int32) : kRun G (d + 3) 77 [.ref a, .int (nI p), .int (nI j), .int v] h mc ms (kRI h (nI (tbNx (tbEq cols f j v) (rows - p) p))) := by
  refine ⟨⟨rfl, Nat.le_of_ble_eq_true rfl⟩, ?_⟩
  show kWP _ _ _ _ 0 [some (.ref a), some (.int (nI p)), some (.int (nI j)), some (.int v), none] [] _ _ _
  refine k_iload_n (pc := 0) i_77_0 rfl ?_
  refine k_istore (pc := 1) (lo2 := [some (.ref a), some (.int (nI p)), some (.int (nI j)), some (.int v), some (.int (nI p))]) i_77_1 (Nat.le_of_ble_eq_true rfl) rfl ?_
  exact c_nextEqual_loop ha hxc hr hcs hj v (rows - p) p (by omega)
set_option maxHeartbeats 1000000 in
theorem c_tbCopyRow {G : kG} {d : Nat} {h : kH} {mc ms a cols xi xc xs rows srows : Nat} (ha : h a = some (kOb 4 [.int (nI cols), .ref xi, .ref xc, .ref xs, .int (nI rows), .int (nI srows)])) {f : Nat → Int32} (hxc : h xc = some (kAI 0 240 f)) (hr : rows ≤ 40) (hcs : cols ≤ 6) {b nb i : Nat} {g : Nat → Int32} (hb : h b = some (kAI 0 nb g)) (hi : i < rows) (hnb : cols ≤ nb) (hnb2 : nb ≤ 1000) : kRun G (d + 2) 74 [.ref a, .int (nI i), .ref b] h mc ms (kRV (kset h b (kAI 0 nb (va_cpy f g (i * cols) 0 cols)))) := by
  refine ⟨⟨rfl, Nat.le_of_ble_eq_true rfl⟩, ?_⟩
  show kWP _ _ _ _ 0 [some (.ref a), some (.int (nI i)), some (.ref b)] [] _ _ _
  refine k_aload_n (pc := 0) i_74_0 rfl rfl ?_
  refine k_iload_n (pc := 1) i_74_1 rfl ?_
  refine k_callv_i (pc := 2) (As := [.ref a, .int (nI i)]) (st := []) i_74_2 m_4_29 rfl rfl rfl rfl ha rfl (Nat.le_of_ble_eq_true rfl) (c_hasRow ha (by omega) (nI i)) ?_
  refine k_if_eq (pc := 5) (tgt := 36) i_74_5 (by decide) (fun c1 => absurd (vp_in_nI hi (by omega)) (kb_0.mp c1)) (fun c1 => ?_)
  refine k_aload_n (pc := 8) i_74_8 rfl rfl ?_
  refine k_alen (pc := 9) (v := nI nb) i_74_9 hb (by decide) rfl ?_
  refine k_aload_n (pc := 10) i_74_10 rfl rfl ?_
  refine k_getf (pc := 11) i_74_11 f_4_9 ha rfl ?_
  refine k_icmp_lt (pc := 14) (tgt := 36) i_74_14 (by decide) (fun c2 => absurd c2 (nI_nlt hnb (by omega))) (fun c2 => ?_)
  refine k_aload_n (pc := 17) i_74_17 rfl rfl ?_
  refine k_getf (pc := 18) i_74_18 f_4_19 ha rfl ?_
  refine k_iload_n (pc := 21) i_74_21 rfl ?_
  refine k_aload_n (pc := 22) i_74_22 rfl rfl ?_
  refine k_getf (pc := 23) i_74_23 f_4_9 ha rfl ?_
  refine k_imul (pc := 26) i_74_26 ?_
  rw [show (nI i) * (nI cols) = nI (i * cols) from (pk_mul i cols)]
  refine k_aload_n (pc := 27) i_74_27 rfl rfl ?_
  refine k_iconst (pc := 28) (v := 0) i_74_28 (by decide) ?_
  refine k_aload_n (pc := 29) i_74_29 rfl rfl ?_
  refine k_getf (pc := 30) i_74_30 f_4_9 ha rfl ?_
  refine k_copyi (pc := 33) i_74_33 x_4_36 hxc hb (nI_pos (tbI40 hi hr hcs)) (by decide) (nI_pos (by omega)) (by rw [nI_clamp (tbI40 hi hr hcs), nI_clamp (by omega)]; exact tbI41 hi hr hcs) (by rw [nI_clamp (show cols < 2 ^ 31 by omega)]; show 0 + cols ≤ nb; omega) (Nat.le_of_ble_eq_true rfl) (fun h1 eh1 => ?_)
  exact k_return (pc := 36) i_74_36 rfl ⟨rfl, by rw [eh1, nI_clamp (tbI40 hi hr hcs), nI_clamp (show cols < 2 ^ 31 by omega)]; rfl⟩
end

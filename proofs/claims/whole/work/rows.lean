section
-- ===== PART A: goes FIRST, ahead of the names: the tables' words, and 'selects' of the private methods out of them =====
/-- a private method of a class that the tables say can be made, by its rows of tables_1 -/
def lw_okq (q : MethodName × Nat) : Prop := (q.1.cls ≠ "java/lang/invoke/MethodHandle" ∧ q.1.cls ≠ "java/lang/invoke/VarHandle") ∧ Cond.instantiable q.1.cls q.2 ∈ tables_1 ∧ Cond.privateMethod q.1 ∈ tables_1 ∧ Cond.instanceMethod q.1 ∈ tables_1
theorem lw_p0 : lw_okq (⟨"ChangerFair", "finding", "(I)J"⟩, 18) := ⟨⟨by decide +kernel, by decide +kernel⟩, List.mem_of_getElem? (i := 17) (by decide +kernel), List.mem_of_getElem? (i := 255) (by decide +kernel), List.mem_of_getElem? (i := 256) (by decide +kernel)⟩
theorem lw_p1 : lw_okq (⟨"ChangerFair", "billAt", "(I)LChangerFair$Bill;"⟩, 18) := ⟨⟨by decide +kernel, by decide +kernel⟩, List.mem_of_getElem? (i := 17) (by decide +kernel), List.mem_of_getElem? (i := 351) (by decide +kernel), List.mem_of_getElem? (i := 352) (by decide +kernel)⟩
theorem lw_p2 : lw_okq (⟨"ChangerFair", "isTakingDay", "()Z"⟩, 18) := ⟨⟨by decide +kernel, by decide +kernel⟩, List.mem_of_getElem? (i := 17) (by decide +kernel), List.mem_of_getElem? (i := 367) (by decide +kernel), List.mem_of_getElem? (i := 368) (by decide +kernel)⟩
theorem lw_p3 : lw_okq (⟨"ChangerFair", "overfills", "(LChangerFair$Bill;I)Z"⟩, 18) := ⟨⟨by decide +kernel, by decide +kernel⟩, List.mem_of_getElem? (i := 17) (by decide +kernel), List.mem_of_getElem? (i := 375) (by decide +kernel), List.mem_of_getElem? (i := 376) (by decide +kernel)⟩
theorem lw_p4 : lw_okq (⟨"ChangerFair", "charge", "(LChangerFair$Bill;I)V"⟩, 18) := ⟨⟨by decide +kernel, by decide +kernel⟩, List.mem_of_getElem? (i := 17) (by decide +kernel), List.mem_of_getElem? (i := 383) (by decide +kernel), List.mem_of_getElem? (i := 384) (by decide +kernel)⟩
theorem lw_p5 : lw_okq (⟨"ChangerFair", "bindsEndorser", "(LChangerFair$Bill;I)Z"⟩, 18) := ⟨⟨by decide +kernel, by decide +kernel⟩, List.mem_of_getElem? (i := 17) (by decide +kernel), List.mem_of_getElem? (i := 410) (by decide +kernel), List.mem_of_getElem? (i := 411) (by decide +kernel)⟩
theorem lw_p6 : lw_okq (⟨"ChangerFair", "roadOf", "(I)I"⟩, 18) := ⟨⟨by decide +kernel, by decide +kernel⟩, List.mem_of_getElem? (i := 17) (by decide +kernel), List.mem_of_getElem? (i := 418) (by decide +kernel), List.mem_of_getElem? (i := 419) (by decide +kernel)⟩
theorem lw_p7 : lw_okq (⟨"ChangerFair", "customBinds", "(IIIII)Z"⟩, 18) := ⟨⟨by decide +kernel, by decide +kernel⟩, List.mem_of_getElem? (i := 17) (by decide +kernel), List.mem_of_getElem? (i := 422) (by decide +kernel), List.mem_of_getElem? (i := 423) (by decide +kernel)⟩
theorem lw_p8 : lw_okq (⟨"ChangerFair$Custom", "allTestsHold", "(I[I)Z"⟩, 6) := ⟨⟨by decide +kernel, by decide +kernel⟩, List.mem_of_getElem? (i := 169) (by decide +kernel), List.mem_of_getElem? (i := 430) (by decide +kernel), List.mem_of_getElem? (i := 431) (by decide +kernel)⟩
theorem lw_p9 : lw_okq (⟨"ChangerFair$CustomReader", "readText", "(LChangerFair$Custom;)Z"⟩, 7) := ⟨⟨by decide +kernel, by decide +kernel⟩, List.mem_of_getElem? (i := 27) (by decide +kernel), List.mem_of_getElem? (i := 486) (by decide +kernel), List.mem_of_getElem? (i := 487) (by decide +kernel)⟩
theorem lw_p10 : lw_okq (⟨"ChangerFair$CustomReader", "nextWord", "()V"⟩, 7) := ⟨⟨by decide +kernel, by decide +kernel⟩, List.mem_of_getElem? (i := 27) (by decide +kernel), List.mem_of_getElem? (i := 490) (by decide +kernel), List.mem_of_getElem? (i := 491) (by decide +kernel)⟩
theorem lw_p11 : lw_okq (⟨"ChangerFair$CustomReader", "readLetters", "()V"⟩, 7) := ⟨⟨by decide +kernel, by decide +kernel⟩, List.mem_of_getElem? (i := 27) (by decide +kernel), List.mem_of_getElem? (i := 497) (by decide +kernel), List.mem_of_getElem? (i := 498) (by decide +kernel)⟩
theorem lw_p12 : lw_okq (⟨"ChangerFair$CustomReader", "letterWord", "()I"⟩, 7) := ⟨⟨by decide +kernel, by decide +kernel⟩, List.mem_of_getElem? (i := 27) (by decide +kernel), List.mem_of_getElem? (i := 501) (by decide +kernel), List.mem_of_getElem? (i := 502) (by decide +kernel)⟩
theorem lw_p13 : lw_okq (⟨"ChangerFair$CustomReader", "spells", "(Ljava/lang/String;)Z"⟩, 7) := ⟨⟨by decide +kernel, by decide +kernel⟩, List.mem_of_getElem? (i := 27) (by decide +kernel), List.mem_of_getElem? (i := 506) (by decide +kernel), List.mem_of_getElem? (i := 507) (by decide +kernel)⟩
theorem lw_p14 : lw_okq (⟨"ChangerFair$CustomReader", "readFigures", "()V"⟩, 7) := ⟨⟨by decide +kernel, by decide +kernel⟩, List.mem_of_getElem? (i := 27) (by decide +kernel), List.mem_of_getElem? (i := 569) (by decide +kernel), List.mem_of_getElem? (i := 570) (by decide +kernel)⟩
theorem lw_p15 : lw_okq (⟨"ChangerFair$CustomReader", "readClause", "(LChangerFair$Custom;)Z"⟩, 7) := ⟨⟨by decide +kernel, by decide +kernel⟩, List.mem_of_getElem? (i := 27) (by decide +kernel), List.mem_of_getElem? (i := 580) (by decide +kernel), List.mem_of_getElem? (i := 581) (by decide +kernel)⟩
def lw_privs_1 : List (MethodName × Nat) := [(⟨"ChangerFair", "finding", "(I)J"⟩, 18), (⟨"ChangerFair", "billAt", "(I)LChangerFair$Bill;"⟩, 18), (⟨"ChangerFair", "isTakingDay", "()Z"⟩, 18), (⟨"ChangerFair", "overfills", "(LChangerFair$Bill;I)Z"⟩, 18), (⟨"ChangerFair", "charge", "(LChangerFair$Bill;I)V"⟩, 18), (⟨"ChangerFair", "bindsEndorser", "(LChangerFair$Bill;I)Z"⟩, 18), (⟨"ChangerFair", "roadOf", "(I)I"⟩, 18), (⟨"ChangerFair", "customBinds", "(IIIII)Z"⟩, 18), (⟨"ChangerFair$Custom", "allTestsHold", "(I[I)Z"⟩, 6), (⟨"ChangerFair$CustomReader", "readText", "(LChangerFair$Custom;)Z"⟩, 7), (⟨"ChangerFair$CustomReader", "nextWord", "()V"⟩, 7), (⟨"ChangerFair$CustomReader", "readLetters", "()V"⟩, 7), (⟨"ChangerFair$CustomReader", "letterWord", "()I"⟩, 7), (⟨"ChangerFair$CustomReader", "spells", "(Ljava/lang/String;)Z"⟩, 7), (⟨"ChangerFair$CustomReader", "readFigures", "()V"⟩, 7), (⟨"ChangerFair$CustomReader", "readClause", "(LChangerFair$Custom;)Z"⟩, 7)]
theorem lw_r1 : ∀ q ∈ lw_privs_1, lw_okq q := List.forall_mem_cons.mpr ⟨lw_p0, List.forall_mem_cons.mpr ⟨lw_p1, List.forall_mem_cons.mpr ⟨lw_p2, List.forall_mem_cons.mpr ⟨lw_p3, List.forall_mem_cons.mpr ⟨lw_p4, List.forall_mem_cons.mpr ⟨lw_p5, List.forall_mem_cons.mpr ⟨lw_p6, List.forall_mem_cons.mpr ⟨lw_p7, List.forall_mem_cons.mpr ⟨lw_p8, List.forall_mem_cons.mpr ⟨lw_p9, List.forall_mem_cons.mpr ⟨lw_p10, List.forall_mem_cons.mpr ⟨lw_p11, List.forall_mem_cons.mpr ⟨lw_p12, List.forall_mem_cons.mpr ⟨lw_p13, List.forall_mem_cons.mpr ⟨lw_p14, List.forall_mem_cons.mpr ⟨lw_p15, fun _ h => absurd h List.not_mem_nil⟩⟩⟩⟩⟩⟩⟩⟩⟩⟩⟩⟩⟩⟩⟩⟩
theorem lw_p16 : lw_okq (⟨"ChangerFair$CustomReader", "readTest", "(LChangerFair$Custom;)Z"⟩, 7) := ⟨⟨by decide +kernel, by decide +kernel⟩, List.mem_of_getElem? (i := 27) (by decide +kernel), List.mem_of_getElem? (i := 588) (by decide +kernel), List.mem_of_getElem? (i := 589) (by decide +kernel)⟩
theorem lw_p17 : lw_okq (⟨"ChangerFair$Plan", "readNets", "(LChangerFair$Book;)I"⟩, 11) := ⟨⟨by decide +kernel, by decide +kernel⟩, List.mem_of_getElem? (i := 75) (by decide +kernel), List.mem_of_getElem? (i := 638) (by decide +kernel), List.mem_of_getElem? (i := 639) (by decide +kernel)⟩
theorem lw_p18 : lw_okq (⟨"ChangerFair$Plan", "addUp", "()V"⟩, 11) := ⟨⟨by decide +kernel, by decide +kernel⟩, List.mem_of_getElem? (i := 75) (by decide +kernel), List.mem_of_getElem? (i := 643) (by decide +kernel), List.mem_of_getElem? (i := 644) (by decide +kernel)⟩
theorem lw_p19 : lw_okq (⟨"ChangerFair$Plan", "listZeroSets", "(I)V"⟩, 11) := ⟨⟨by decide +kernel, by decide +kernel⟩, List.mem_of_getElem? (i := 75) (by decide +kernel), List.mem_of_getElem? (i := 647) (by decide +kernel), List.mem_of_getElem? (i := 648) (by decide +kernel)⟩
theorem lw_p20 : lw_okq (⟨"ChangerFair$Plan", "countGroups", "()V"⟩, 11) := ⟨⟨by decide +kernel, by decide +kernel⟩, List.mem_of_getElem? (i := 75) (by decide +kernel), List.mem_of_getElem? (i := 651) (by decide +kernel), List.mem_of_getElem? (i := 652) (by decide +kernel)⟩
theorem lw_p21 : lw_okq (⟨"ChangerFair$Plan", "firstGroup", "(I)I"⟩, 11) := ⟨⟨by decide +kernel, by decide +kernel⟩, List.mem_of_getElem? (i := 75) (by decide +kernel), List.mem_of_getElem? (i := 661) (by decide +kernel), List.mem_of_getElem? (i := 662) (by decide +kernel)⟩
theorem lw_p22 : lw_okq (⟨"ChangerFair$Plan", "payWithin", "(I)V"⟩, 11) := ⟨⟨by decide +kernel, by decide +kernel⟩, List.mem_of_getElem? (i := 75) (by decide +kernel), List.mem_of_getElem? (i := 665) (by decide +kernel), List.mem_of_getElem? (i := 666) (by decide +kernel)⟩
theorem lw_p23 : lw_okq (⟨"ChangerFair$Plan", "leastOf", "(II)I"⟩, 11) := ⟨⟨by decide +kernel, by decide +kernel⟩, List.mem_of_getElem? (i := 75) (by decide +kernel), List.mem_of_getElem? (i := 669) (by decide +kernel), List.mem_of_getElem? (i := 670) (by decide +kernel)⟩
theorem lw_p24 : lw_okq (⟨"ChangerFair$Purses", "dearestBut", "(I)I"⟩, 2) := ⟨⟨by decide +kernel, by decide +kernel⟩, List.mem_of_getElem? (i := 118) (by decide +kernel), List.mem_of_getElem? (i := 747) (by decide +kernel), List.mem_of_getElem? (i := 748) (by decide +kernel)⟩
theorem lw_p25 : lw_okq (⟨"ChangerFair$Rates", "insertSorted", "(II)V"⟩, 5) := ⟨⟨by decide +kernel, by decide +kernel⟩, List.mem_of_getElem? (i := 133) (by decide +kernel), List.mem_of_getElem? (i := 776) (by decide +kernel), List.mem_of_getElem? (i := 777) (by decide +kernel)⟩
theorem lw_p26 : lw_okq (⟨"ChangerFair$Rates", "extendTurn", "(IIIIJI)V"⟩, 5) := ⟨⟨by decide +kernel, by decide +kernel⟩, List.mem_of_getElem? (i := 133) (by decide +kernel), List.mem_of_getElem? (i := 801) (by decide +kernel), List.mem_of_getElem? (i := 802) (by decide +kernel)⟩
theorem lw_p27 : lw_okq (⟨"ChangerFair$Rates", "closeTurn", "(JI)V"⟩, 5) := ⟨⟨by decide +kernel, by decide +kernel⟩, List.mem_of_getElem? (i := 133) (by decide +kernel), List.mem_of_getElem? (i := 805) (by decide +kernel), List.mem_of_getElem? (i := 806) (by decide +kernel)⟩
theorem lw_p28 : lw_okq (⟨"ChangerFair", "toldPayment", "(II)Z"⟩, 18) := ⟨⟨by decide +kernel, by decide +kernel⟩, List.mem_of_getElem? (i := 17) (by decide +kernel), List.mem_of_getElem? (i := 855) (by decide +kernel), List.mem_of_getElem? (i := 856) (by decide +kernel)⟩
theorem lw_p29 : lw_okq (⟨"ChangerFairModel", "finding", "(J)J"⟩, 55) := ⟨⟨by decide +kernel, by decide +kernel⟩, List.mem_of_getElem? (i := 868) (by decide +kernel), List.mem_of_getElem? (i := 1049) (by decide +kernel), List.mem_of_getElem? (i := 1050) (by decide +kernel)⟩
theorem lw_p30 : lw_okq (⟨"ChangerFairModel", "carry", "()Z"⟩, 55) := ⟨⟨by decide +kernel, by decide +kernel⟩, List.mem_of_getElem? (i := 868) (by decide +kernel), List.mem_of_getElem? (i := 1056) (by decide +kernel), List.mem_of_getElem? (i := 1057) (by decide +kernel)⟩
theorem lw_p31 : lw_okq (⟨"ChangerFairModel", "becomes", "(II)V"⟩, 55) := ⟨⟨by decide +kernel, by decide +kernel⟩, List.mem_of_getElem? (i := 868) (by decide +kernel), List.mem_of_getElem? (i := 1087) (by decide +kernel), List.mem_of_getElem? (i := 1088) (by decide +kernel)⟩
def lw_privs_2 : List (MethodName × Nat) := [(⟨"ChangerFair$CustomReader", "readTest", "(LChangerFair$Custom;)Z"⟩, 7), (⟨"ChangerFair$Plan", "readNets", "(LChangerFair$Book;)I"⟩, 11), (⟨"ChangerFair$Plan", "addUp", "()V"⟩, 11), (⟨"ChangerFair$Plan", "listZeroSets", "(I)V"⟩, 11), (⟨"ChangerFair$Plan", "countGroups", "()V"⟩, 11), (⟨"ChangerFair$Plan", "firstGroup", "(I)I"⟩, 11), (⟨"ChangerFair$Plan", "payWithin", "(I)V"⟩, 11), (⟨"ChangerFair$Plan", "leastOf", "(II)I"⟩, 11), (⟨"ChangerFair$Purses", "dearestBut", "(I)I"⟩, 2), (⟨"ChangerFair$Rates", "insertSorted", "(II)V"⟩, 5), (⟨"ChangerFair$Rates", "extendTurn", "(IIIIJI)V"⟩, 5), (⟨"ChangerFair$Rates", "closeTurn", "(JI)V"⟩, 5), (⟨"ChangerFair", "toldPayment", "(II)Z"⟩, 18), (⟨"ChangerFairModel", "finding", "(J)J"⟩, 55), (⟨"ChangerFairModel", "carry", "()Z"⟩, 55), (⟨"ChangerFairModel", "becomes", "(II)V"⟩, 55)]
theorem lw_r2 : ∀ q ∈ lw_privs_2, lw_okq q := List.forall_mem_cons.mpr ⟨lw_p16, List.forall_mem_cons.mpr ⟨lw_p17, List.forall_mem_cons.mpr ⟨lw_p18, List.forall_mem_cons.mpr ⟨lw_p19, List.forall_mem_cons.mpr ⟨lw_p20, List.forall_mem_cons.mpr ⟨lw_p21, List.forall_mem_cons.mpr ⟨lw_p22, List.forall_mem_cons.mpr ⟨lw_p23, List.forall_mem_cons.mpr ⟨lw_p24, List.forall_mem_cons.mpr ⟨lw_p25, List.forall_mem_cons.mpr ⟨lw_p26, List.forall_mem_cons.mpr ⟨lw_p27, List.forall_mem_cons.mpr ⟨lw_p28, List.forall_mem_cons.mpr ⟨lw_p29, List.forall_mem_cons.mpr ⟨lw_p30, List.forall_mem_cons.mpr ⟨lw_p31, fun _ h => absurd h List.not_mem_nil⟩⟩⟩⟩⟩⟩⟩⟩⟩⟩⟩⟩⟩⟩⟩⟩
theorem lw_p32 : lw_okq (⟨"ChangerFairModel", "isBill", "(I)Z"⟩, 55) := ⟨⟨by decide +kernel, by decide +kernel⟩, List.mem_of_getElem? (i := 868) (by decide +kernel), List.mem_of_getElem? (i := 1095) (by decide +kernel), List.mem_of_getElem? (i := 1096) (by decide +kernel)⟩
theorem lw_p33 : lw_okq (⟨"ChangerFairModel", "isEarly", "()Z"⟩, 55) := ⟨⟨by decide +kernel, by decide +kernel⟩, List.mem_of_getElem? (i := 868) (by decide +kernel), List.mem_of_getElem? (i := 1104) (by decide +kernel), List.mem_of_getElem? (i := 1105) (by decide +kernel)⟩
theorem lw_p34 : lw_okq (⟨"ChangerFairModel", "isTooMuch", "(IIJ)Z"⟩, 55) := ⟨⟨by decide +kernel, by decide +kernel⟩, List.mem_of_getElem? (i := 868) (by decide +kernel), List.mem_of_getElem? (i := 1114) (by decide +kernel), List.mem_of_getElem? (i := 1115) (by decide +kernel)⟩
theorem lw_p35 : lw_okq (⟨"ChangerFairModel", "would", "(IIJ)J"⟩, 55) := ⟨⟨by decide +kernel, by decide +kernel⟩, List.mem_of_getElem? (i := 868) (by decide +kernel), List.mem_of_getElem? (i := 1118) (by decide +kernel), List.mem_of_getElem? (i := 1119) (by decide +kernel)⟩
theorem lw_p36 : lw_okq (⟨"ChangerFairModel", "comesToOwe", "(IIJ)V"⟩, 55) := ⟨⟨by decide +kernel, by decide +kernel⟩, List.mem_of_getElem? (i := 868) (by decide +kernel), List.mem_of_getElem? (i := 1123) (by decide +kernel), List.mem_of_getElem? (i := 1124) (by decide +kernel)⟩
theorem lw_p37 : lw_okq (⟨"ChangerFairModel", "isBound", "(JIIII)Z"⟩, 55) := ⟨⟨by decide +kernel, by decide +kernel⟩, List.mem_of_getElem? (i := 868) (by decide +kernel), List.mem_of_getElem? (i := 1136) (by decide +kernel), List.mem_of_getElem? (i := 1137) (by decide +kernel)⟩
theorem lw_p38 : lw_okq (⟨"ChangerFairModel", "go", "()V"⟩, 55) := ⟨⟨by decide +kernel, by decide +kernel⟩, List.mem_of_getElem? (i := 868) (by decide +kernel), List.mem_of_getElem? (i := 1161) (by decide +kernel), List.mem_of_getElem? (i := 1162) (by decide +kernel)⟩
theorem lw_p39 : lw_okq (⟨"ChangerFairModel", "at", "(I)I"⟩, 55) := ⟨⟨by decide +kernel, by decide +kernel⟩, List.mem_of_getElem? (i := 868) (by decide +kernel), List.mem_of_getElem? (i := 1165) (by decide +kernel), List.mem_of_getElem? (i := 1166) (by decide +kernel)⟩
theorem lw_p40 : lw_okq (⟨"ChangerFairModel", "letters", "()V"⟩, 55) := ⟨⟨by decide +kernel, by decide +kernel⟩, List.mem_of_getElem? (i := 868) (by decide +kernel), List.mem_of_getElem? (i := 1172) (by decide +kernel), List.mem_of_getElem? (i := 1173) (by decide +kernel)⟩
theorem lw_p41 : lw_okq (⟨"ChangerFairModel", "wordOf", "(J)I"⟩, 55) := ⟨⟨by decide +kernel, by decide +kernel⟩, List.mem_of_getElem? (i := 868) (by decide +kernel), List.mem_of_getElem? (i := 1177) (by decide +kernel), List.mem_of_getElem? (i := 1178) (by decide +kernel)⟩
theorem lw_p42 : lw_okq (⟨"ChangerFairModel", "text", "()Z"⟩, 55) := ⟨⟨by decide +kernel, by decide +kernel⟩, List.mem_of_getElem? (i := 868) (by decide +kernel), List.mem_of_getElem? (i := 1194) (by decide +kernel), List.mem_of_getElem? (i := 1195) (by decide +kernel)⟩
theorem lw_p43 : lw_okq (⟨"ChangerFairModel", "clause", "()Z"⟩, 55) := ⟨⟨by decide +kernel, by decide +kernel⟩, List.mem_of_getElem? (i := 868) (by decide +kernel), List.mem_of_getElem? (i := 1198) (by decide +kernel), List.mem_of_getElem? (i := 1199) (by decide +kernel)⟩
theorem lw_p44 : lw_okq (⟨"ChangerFairModel", "wrong", "()Z"⟩, 55) := ⟨⟨by decide +kernel, by decide +kernel⟩, List.mem_of_getElem? (i := 868) (by decide +kernel), List.mem_of_getElem? (i := 1202) (by decide +kernel), List.mem_of_getElem? (i := 1203) (by decide +kernel)⟩
theorem lw_p45 : lw_okq (⟨"ChangerFairModel", "test", "()Z"⟩, 55) := ⟨⟨by decide +kernel, by decide +kernel⟩, List.mem_of_getElem? (i := 868) (by decide +kernel), List.mem_of_getElem? (i := 1206) (by decide +kernel), List.mem_of_getElem? (i := 1207) (by decide +kernel)⟩
theorem lw_p46 : lw_okq (⟨"ChangerFairModel", "netOf", "(I)J"⟩, 55) := ⟨⟨by decide +kernel, by decide +kernel⟩, List.mem_of_getElem? (i := 868) (by decide +kernel), List.mem_of_getElem? (i := 1232) (by decide +kernel), List.mem_of_getElem? (i := 1233) (by decide +kernel)⟩
theorem lw_p47 : lw_okq (⟨"ChangerFairModel", "findPlan", "()V"⟩, 55) := ⟨⟨by decide +kernel, by decide +kernel⟩, List.mem_of_getElem? (i := 868) (by decide +kernel), List.mem_of_getElem? (i := 1240) (by decide +kernel), List.mem_of_getElem? (i := 1241) (by decide +kernel)⟩
def lw_privs_3 : List (MethodName × Nat) := [(⟨"ChangerFairModel", "isBill", "(I)Z"⟩, 55), (⟨"ChangerFairModel", "isEarly", "()Z"⟩, 55), (⟨"ChangerFairModel", "isTooMuch", "(IIJ)Z"⟩, 55), (⟨"ChangerFairModel", "would", "(IIJ)J"⟩, 55), (⟨"ChangerFairModel", "comesToOwe", "(IIJ)V"⟩, 55), (⟨"ChangerFairModel", "isBound", "(JIIII)Z"⟩, 55), (⟨"ChangerFairModel", "go", "()V"⟩, 55), (⟨"ChangerFairModel", "at", "(I)I"⟩, 55), (⟨"ChangerFairModel", "letters", "()V"⟩, 55), (⟨"ChangerFairModel", "wordOf", "(J)I"⟩, 55), (⟨"ChangerFairModel", "text", "()Z"⟩, 55), (⟨"ChangerFairModel", "clause", "()Z"⟩, 55), (⟨"ChangerFairModel", "wrong", "()Z"⟩, 55), (⟨"ChangerFairModel", "test", "()Z"⟩, 55), (⟨"ChangerFairModel", "netOf", "(I)J"⟩, 55), (⟨"ChangerFairModel", "findPlan", "()V"⟩, 55)]
theorem lw_r3 : ∀ q ∈ lw_privs_3, lw_okq q := List.forall_mem_cons.mpr ⟨lw_p32, List.forall_mem_cons.mpr ⟨lw_p33, List.forall_mem_cons.mpr ⟨lw_p34, List.forall_mem_cons.mpr ⟨lw_p35, List.forall_mem_cons.mpr ⟨lw_p36, List.forall_mem_cons.mpr ⟨lw_p37, List.forall_mem_cons.mpr ⟨lw_p38, List.forall_mem_cons.mpr ⟨lw_p39, List.forall_mem_cons.mpr ⟨lw_p40, List.forall_mem_cons.mpr ⟨lw_p41, List.forall_mem_cons.mpr ⟨lw_p42, List.forall_mem_cons.mpr ⟨lw_p43, List.forall_mem_cons.mpr ⟨lw_p44, List.forall_mem_cons.mpr ⟨lw_p45, List.forall_mem_cons.mpr ⟨lw_p46, List.forall_mem_cons.mpr ⟨lw_p47, fun _ h => absurd h List.not_mem_nil⟩⟩⟩⟩⟩⟩⟩⟩⟩⟩⟩⟩⟩⟩⟩⟩
theorem lw_p48 : lw_okq (⟨"ChangerFairModel", "findMost", "()V"⟩, 55) := ⟨⟨by decide +kernel, by decide +kernel⟩, List.mem_of_getElem? (i := 868) (by decide +kernel), List.mem_of_getElem? (i := 1244) (by decide +kernel), List.mem_of_getElem? (i := 1245) (by decide +kernel)⟩
theorem lw_p49 : lw_okq (⟨"ChangerFairModel", "payOut", "(I)V"⟩, 55) := ⟨⟨by decide +kernel, by decide +kernel⟩, List.mem_of_getElem? (i := 868) (by decide +kernel), List.mem_of_getElem? (i := 1248) (by decide +kernel), List.mem_of_getElem? (i := 1249) (by decide +kernel)⟩
theorem lw_p50 : lw_okq (⟨"ChangerFairModel", "leastOf", "(II)I"⟩, 55) := ⟨⟨by decide +kernel, by decide +kernel⟩, List.mem_of_getElem? (i := 868) (by decide +kernel), List.mem_of_getElem? (i := 1252) (by decide +kernel), List.mem_of_getElem? (i := 1253) (by decide +kernel)⟩
theorem lw_p51 : lw_okq (⟨"ChangerFairModel", "paymentOf", "(II)J"⟩, 55) := ⟨⟨by decide +kernel, by decide +kernel⟩, List.mem_of_getElem? (i := 868) (by decide +kernel), List.mem_of_getElem? (i := 1261) (by decide +kernel), List.mem_of_getElem? (i := 1262) (by decide +kernel)⟩
theorem lw_p52 : lw_okq (⟨"ChangerFairModel", "owedInAll", "()J"⟩, 55) := ⟨⟨by decide +kernel, by decide +kernel⟩, List.mem_of_getElem? (i := 868) (by decide +kernel), List.mem_of_getElem? (i := 1269) (by decide +kernel), List.mem_of_getElem? (i := 1270) (by decide +kernel)⟩
theorem lw_p53 : lw_okq (⟨"ChangerFairModel", "look", "(IIII)V"⟩, 55) := ⟨⟨by decide +kernel, by decide +kernel⟩, List.mem_of_getElem? (i := 868) (by decide +kernel), List.mem_of_getElem? (i := 1307) (by decide +kernel), List.mem_of_getElem? (i := 1308) (by decide +kernel)⟩
theorem lw_p54 : lw_okq (⟨"ChangerFairModel", "pledged", "(II)J"⟩, 55) := ⟨⟨by decide +kernel, by decide +kernel⟩, List.mem_of_getElem? (i := 868) (by decide +kernel), List.mem_of_getElem? (i := 1319) (by decide +kernel), List.mem_of_getElem? (i := 1320) (by decide +kernel)⟩
theorem lw_p55 : lw_okq (⟨"ChangerFairModel", "share", "(J)J"⟩, 55) := ⟨⟨by decide +kernel, by decide +kernel⟩, List.mem_of_getElem? (i := 868) (by decide +kernel), List.mem_of_getElem? (i := 1323) (by decide +kernel), List.mem_of_getElem? (i := 1324) (by decide +kernel)⟩
def lw_privs_4 : List (MethodName × Nat) := [(⟨"ChangerFairModel", "findMost", "()V"⟩, 55), (⟨"ChangerFairModel", "payOut", "(I)V"⟩, 55), (⟨"ChangerFairModel", "leastOf", "(II)I"⟩, 55), (⟨"ChangerFairModel", "paymentOf", "(II)J"⟩, 55), (⟨"ChangerFairModel", "owedInAll", "()J"⟩, 55), (⟨"ChangerFairModel", "look", "(IIII)V"⟩, 55), (⟨"ChangerFairModel", "pledged", "(II)J"⟩, 55), (⟨"ChangerFairModel", "share", "(J)J"⟩, 55)]
theorem lw_r4 : ∀ q ∈ lw_privs_4, lw_okq q := List.forall_mem_cons.mpr ⟨lw_p48, List.forall_mem_cons.mpr ⟨lw_p49, List.forall_mem_cons.mpr ⟨lw_p50, List.forall_mem_cons.mpr ⟨lw_p51, List.forall_mem_cons.mpr ⟨lw_p52, List.forall_mem_cons.mpr ⟨lw_p53, List.forall_mem_cons.mpr ⟨lw_p54, List.forall_mem_cons.mpr ⟨lw_p55, fun _ h => absurd h List.not_mem_nil⟩⟩⟩⟩⟩⟩⟩⟩
def lw_privs : List (MethodName × Nat) := lw_privs_1 ++ (lw_privs_2 ++ (lw_privs_3 ++ (lw_privs_4)))
def lw_tbl : List Cond := k2_sels lw_privs ++ tables_1
theorem lw_privs_ok : ∀ q ∈ lw_privs, lw_okq q := by
  show ∀ q ∈ lw_privs_1 ++ (lw_privs_2 ++ (lw_privs_3 ++ (lw_privs_4))), lw_okq q
  exact List.forall_mem_append.mpr ⟨lw_r1, List.forall_mem_append.mpr ⟨lw_r2, List.forall_mem_append.mpr ⟨lw_r3, lw_r4⟩⟩⟩
end
section
/-! ===== BEGIN words of one list among another's, by their places ===== -/
theorem goodIn_r {big : List Cond} (ws : List Cond) (ps : List Nat) (hp : ws = ps.filterMap (fun i => big[i]?)) (h : ws.all goodWord = true) : GoodIn big ws := by
  intro w hw
  have h1 := List.all_eq_true.mp h w hw
  rw [hp] at hw
  obtain ⟨i, -, hi⟩ := List.mem_filterMap.mp hw
  have hm : w ∈ big := by first | exact List.mem_of_getElem? hi | exact List.getElem?_mem hi
  exact ⟨hm, good_of_word h1⟩
theorem goodIn_app {big a b : List Cond} (ha : GoodIn big a) (hb : GoodIn big b) : GoodIn big (a ++ b) := fun w h => (List.mem_append.mp h).elim (ha w) (hb w)
theorem goodIn_ca {big a b : List Cond} {c : Cond} (ha : GoodIn big (c :: a)) (hb : GoodIn big b) : GoodIn big (c :: (a ++ b)) := fun w h => (List.mem_cons.mp h).elim (fun e => ha w (List.mem_cons.mpr (Or.inl e))) (fun h => (List.mem_append.mp h).elim (fun h => ha w (List.mem_cons.mpr (Or.inr h))) (hb w))
theorem goodIn_sub {big ws : List Cond} (hm : ∀ w ∈ ws, w ∈ big) (h : ws.all goodWord = true) : GoodIn big ws := fun w hw => ⟨hm w hw, good_of_word (List.all_eq_true.mp h w hw)⟩
/-! ===== END ===== -/


/-! ===== BEGIN printed: names, fields, word lists, decode rows ===== -/
def RX0 : String := "ChangerFair$Bill"
def TX0 : u_T := fun k => match k with
  | 0 => ("ChangerFair$Bill", "kind", "I", true)
  | 1 => ("ChangerFair$Bill", "drawer", "I", true)
  | 2 => ("ChangerFair$Bill", "drawee", "I", true)
  | 3 => ("ChangerFair$Bill", "amount", "I", true)
  | 4 => ("ChangerFair$Bill", "holder", "I", false)
  | 5 => ("ChangerFair$Bill", "state", "I", false)
  | 6 => ("ChangerFair$Bill", "endorserCount", "I", false)
  | 7 => ("ChangerFair$Bill", "paidByDrawee", "Z", false)
  | 8 => ("ChangerFair$Bill", "endorsers", "[I", true)
  | _ => ("ChangerFair$Bill", "began", "[I", true)
def tyX0 : Nat → FieldType := fun k => match k with
  | 0 => .int
  | 1 => .int
  | 2 => .int
  | 3 => .int
  | 4 => .int
  | 5 => .int
  | 6 => .int
  | 7 => .boolean
  | 8 => .array .int
  | _ => .array .int
abbrev wsX00 : List Cond := u_ws RX0 TX0 10
theorem nmX0 : ∀ a, a < 10 → ∀ b, b < 10 → a ≠ b → (TX0 a).2.1 ≠ (TX0 b).2.1 := by decide +kernel
theorem tyX0_ok : ∀ k, k < 10 → parseFieldDescriptor (TX0 k).2.2.1 = some (tyX0 k) := by decide +kernel
abbrev cX0_init : ByteArray := prog_2_method_1_code
def yX0_init : MethodName := ⟨RX0, "<init>", "(IIIII)V"⟩
abbrev cX0_become : ByteArray := prog_2_method_2_code
def yX0_become : MethodName := ⟨RX0, "become", "(II)V"⟩
abbrev cX0_stateDay : ByteArray := prog_2_method_3_code
def yX0_stateDay : MethodName := ⟨RX0, "stateDay", "()I"⟩
abbrev cX0_daysLate : ByteArray := prog_2_method_4_code
def yX0_daysLate : MethodName := ⟨RX0, "daysLate", "()I"⟩
abbrev cX0_latestStateBy : ByteArray := prog_2_method_5_code
def yX0_latestStateBy : MethodName := ⟨RX0, "latestStateBy", "(I)I"⟩
abbrev cX0_hasEndorser : ByteArray := prog_2_method_6_code
def yX0_hasEndorser : MethodName := ⟨RX0, "hasEndorser", "(I)Z"⟩
abbrev cX0_endorserAt : ByteArray := prog_2_method_7_code
def yX0_endorserAt : MethodName := ⟨RX0, "endorserAt", "(I)I"⟩
abbrev cX0_hasRoomToPass : ByteArray := prog_2_method_8_code
def yX0_hasRoomToPass : MethodName := ⟨RX0, "hasRoomToPass", "()Z"⟩
abbrev cX0_moveTo : ByteArray := prog_2_method_9_code
def yX0_moveTo : MethodName := ⟨RX0, "moveTo", "(I)V"⟩
abbrev cX0_returnTo : ByteArray := prog_2_method_10_code
def yX0_returnTo : MethodName := ⟨RX0, "returnTo", "(I)V"⟩
abbrev cX0_pledgedBy : ByteArray := prog_2_method_11_code
def yX0_pledgedBy : MethodName := ⟨RX0, "pledgedBy", "(I)Z"⟩
def RX1 : String := "ChangerFair$Book"
def TX1 : u_T := fun k => match k with
  | 0 => ("ChangerFair$Book", "changes", "J", false)
  | _ => ("ChangerFair$Book", "debts", "[[J", true)
def tyX1 : Nat → FieldType := fun k => match k with
  | 0 => .long
  | _ => .array (.array .long)
abbrev wsX10 : List Cond := u_ws RX1 TX1 2
theorem nmX1 : ∀ a, a < 2 → ∀ b, b < 2 → a ≠ b → (TX1 a).2.1 ≠ (TX1 b).2.1 := by decide +kernel
theorem tyX1_ok : ∀ k, k < 2 → parseFieldDescriptor (TX1 k).2.2.1 = some (tyX1 k) := by decide +kernel
abbrev cX1_init : ByteArray := prog_3_method_1_code
def yX1_init : MethodName := ⟨RX1, "<init>", "()V"⟩
abbrev cX1_debt : ByteArray := prog_3_method_2_code
def yX1_debt : MethodName := ⟨RX1, "debt", "(II)J"⟩
abbrev cX1_overfills : ByteArray := prog_3_method_3_code
def yX1_overfills : MethodName := ⟨RX1, "overfills", "(IIJ)Z"⟩
abbrev cX1_charge : ByteArray := prog_3_method_4_code
def yX1_charge : MethodName := ⟨RX1, "charge", "(IIJ)V"⟩
abbrev cX1_lessen : ByteArray := prog_3_method_5_code
def yX1_lessen : MethodName := ⟨RX1, "lessen", "(IIJ)V"⟩
abbrev cX1_wipe : ByteArray := prog_3_method_6_code
def yX1_wipe : MethodName := ⟨RX1, "wipe", "()V"⟩
abbrev cX1_balance : ByteArray := prog_3_method_7_code
def yX1_balance : MethodName := ⟨RX1, "balance", "(I)J"⟩
abbrev cX1_total : ByteArray := prog_3_method_8_code
def yX1_total : MethodName := ⟨RX1, "total", "()J"⟩
abbrev cX1_carryOverfills : ByteArray := prog_3_method_9_code
def yX1_carryOverfills : MethodName := ⟨RX1, "carryOverfills", "(I)Z"⟩
abbrev cX1_carry : ByteArray := prog_3_method_10_code
def yX1_carry : MethodName := ⟨RX1, "carry", "(I)V"⟩
abbrev cX1_carried : ByteArray := prog_3_method_11_code
def yX1_carried : MethodName := ⟨RX1, "carried", "(JI)J"⟩
def RX2 : String := "ChangerFair$Custom"
def TX2 : u_T := fun k => match k with
  | 0 => ("ChangerFair$Custom", "clauseCount", "I", false)
  | 1 => ("ChangerFair$Custom", "verdicts", "[Z", true)
  | 2 => ("ChangerFair$Custom", "testCounts", "[I", true)
  | 3 => ("ChangerFair$Custom", "values", "[I", true)
  | 4 => ("ChangerFair$Custom", "signs", "[I", true)
  | _ => ("ChangerFair$Custom", "numbers", "[I", true)
def tyX2 : Nat → FieldType := fun k => match k with
  | 0 => .int
  | 1 => .array .boolean
  | 2 => .array .int
  | 3 => .array .int
  | 4 => .array .int
  | _ => .array .int
abbrev wsX20 : List Cond := u_ws RX2 TX2 6
theorem nmX2 : ∀ a, a < 6 → ∀ b, b < 6 → a ≠ b → (TX2 a).2.1 ≠ (TX2 b).2.1 := by decide +kernel
theorem tyX2_ok : ∀ k, k < 6 → parseFieldDescriptor (TX2 k).2.2.1 = some (tyX2 k) := by decide +kernel
abbrev cX2_init : ByteArray := prog_4_method_1_code
def yX2_init : MethodName := ⟨RX2, "<init>", "()V"⟩
abbrev cX2_forget : ByteArray := prog_4_method_2_code
def yX2_forget : MethodName := ⟨RX2, "forget", "()V"⟩
abbrev cX2_addClause : ByteArray := prog_4_method_3_code
def yX2_addClause : MethodName := ⟨RX2, "addClause", "(Z)V"⟩
abbrev cX2_addTest : ByteArray := prog_4_method_4_code
def yX2_addTest : MethodName := ⟨RX2, "addTest", "(III)V"⟩
abbrev cX2_bindsFor : ByteArray := prog_4_method_5_code
def yX2_bindsFor : MethodName := ⟨RX2, "bindsFor", "([I)Z"⟩
abbrev cX2_allTestsHold : ByteArray := prog_4_method_6_code
def yX2_allTestsHold : MethodName := ⟨RX2, "allTestsHold", "(I[I)Z"⟩
abbrev cX2_holds : ByteArray := prog_4_method_7_code
def yX2_holds : MethodName := ⟨RX2, "holds", "(III)Z"⟩
def RX3 : String := "ChangerFair$CustomReader"
def TX3 : u_T := fun k => match k with
  | 0 => ("ChangerFair$CustomReader", "length", "I", false)
  | 1 => ("ChangerFair$CustomReader", "faultPlace", "I", false)
  | 2 => ("ChangerFair$CustomReader", "tape", "[I", true)
  | 3 => ("ChangerFair$CustomReader", "place", "I", false)
  | 4 => ("ChangerFair$CustomReader", "word", "I", false)
  | 5 => ("ChangerFair$CustomReader", "wordPlace", "I", false)
  | _ => ("ChangerFair$CustomReader", "number", "I", false)
def tyX3 : Nat → FieldType := fun k => match k with
  | 0 => .int
  | 1 => .int
  | 2 => .array .int
  | 3 => .int
  | 4 => .int
  | 5 => .int
  | _ => .int
abbrev wsX30 : List Cond := u_ws RX3 TX3 7
theorem nmX3 : ∀ a, a < 7 → ∀ b, b < 7 → a ≠ b → (TX3 a).2.1 ≠ (TX3 b).2.1 := by decide +kernel
theorem tyX3_ok : ∀ k, k < 7 → parseFieldDescriptor (TX3 k).2.2.1 = some (tyX3 k) := by decide +kernel
abbrev cX3_init : ByteArray := prog_5_method_1_code
def yX3_init : MethodName := ⟨RX3, "<init>", "()V"⟩
abbrev cX3_hasRoomFor : ByteArray := prog_5_method_2_code
def yX3_hasRoomFor : MethodName := ⟨RX3, "hasRoomFor", "(I)Z"⟩
abbrev cX3_append : ByteArray := prog_5_method_3_code
def yX3_append : MethodName := ⟨RX3, "append", "(JI)V"⟩
abbrev cX3_readInto : ByteArray := prog_5_method_4_code
def yX3_readInto : MethodName := ⟨RX3, "readInto", "(LChangerFair$Custom;)Z"⟩
abbrev cX3_readText : ByteArray := prog_5_method_5_code
def yX3_readText : MethodName := ⟨RX3, "readText", "(LChangerFair$Custom;)Z"⟩
abbrev cX3_readClause : ByteArray := prog_5_method_6_code
def yX3_readClause : MethodName := ⟨RX3, "readClause", "(LChangerFair$Custom;)Z"⟩
abbrev cX3_readTest : ByteArray := prog_5_method_7_code
def yX3_readTest : MethodName := ⟨RX3, "readTest", "(LChangerFair$Custom;)Z"⟩
abbrev cX3_nextWord : ByteArray := prog_5_method_8_code
def yX3_nextWord : MethodName := ⟨RX3, "nextWord", "()V"⟩
abbrev cX3_isLetter : ByteArray := prog_5_method_9_code
def yX3_isLetter : MethodName := ⟨RX3, "isLetter", "(I)Z"⟩
abbrev cX3_isFigure : ByteArray := prog_5_method_10_code
def yX3_isFigure : MethodName := ⟨RX3, "isFigure", "(I)Z"⟩
abbrev cX3_signWord : ByteArray := prog_5_method_11_code
def yX3_signWord : MethodName := ⟨RX3, "signWord", "(I)I"⟩
abbrev cX3_readFigures : ByteArray := prog_5_method_12_code
def yX3_readFigures : MethodName := ⟨RX3, "readFigures", "()V"⟩
abbrev cX3_readLetters : ByteArray := prog_5_method_13_code
def yX3_readLetters : MethodName := ⟨RX3, "readLetters", "()V"⟩
abbrev cX3_letterWord : ByteArray := prog_5_method_14_code
def yX3_letterWord : MethodName := ⟨RX3, "letterWord", "()I"⟩
abbrev cX3_spells : ByteArray := prog_5_method_15_code
def yX3_spells : MethodName := ⟨RX3, "spells", "(Ljava/lang/String;)Z"⟩
def RX4 : String := "ChangerFair$Parting"
def TX4 : u_T := fun k => match k with
  | 0 => ("ChangerFair$Parting", "pledged", "[J", true)
  | _ => ("ChangerFair$Parting", "rest", "[J", true)
def tyX4 : Nat → FieldType := fun k => match k with
  | 0 => .array .long
  | _ => .array .long
abbrev wsX40 : List Cond := u_ws RX4 TX4 2
theorem nmX4 : ∀ a, a < 2 → ∀ b, b < 2 → a ≠ b → (TX4 a).2.1 ≠ (TX4 b).2.1 := by decide +kernel
theorem tyX4_ok : ∀ k, k < 2 → parseFieldDescriptor (TX4 k).2.2.1 = some (tyX4 k) := by decide +kernel
abbrev cX4_init : ByteArray := prog_6_method_1_code
def yX4_init : MethodName := ⟨RX4, "<init>", "()V"⟩
abbrev cX4_begin : ByteArray := prog_6_method_2_code
def yX4_begin : MethodName := ⟨RX4, "begin", "()V"⟩
abbrev cX4_pledge : ByteArray := prog_6_method_3_code
def yX4_pledge : MethodName := ⟨RX4, "pledge", "(II)V"⟩
abbrev cX4_claim : ByteArray := prog_6_method_4_code
def yX4_claim : MethodName := ⟨RX4, "claim", "(IJ)V"⟩
abbrev cX4_shareOf : ByteArray := prog_6_method_5_code
def yX4_shareOf : MethodName := ⟨RX4, "shareOf", "(IJ)J"⟩
abbrev cX4_total : ByteArray := prog_6_method_6_code
def yX4_total : MethodName := ⟨RX4, "total", "([J)J"⟩
abbrev cX4_shareIn : ByteArray := prog_6_method_7_code
def yX4_shareIn : MethodName := ⟨RX4, "shareIn", "([JIJ)J"⟩
abbrev cX4_portion : ByteArray := prog_6_method_8_code
def yX4_portion : MethodName := ⟨RX4, "portion", "(JJJ)J"⟩
def RX5 : String := "ChangerFair$Plan"
def TX5 : u_T := fun k => match k with
  | 0 => ("ChangerFair$Plan", "groupCount", "I", false)
  | 1 => ("ChangerFair$Plan", "paymentCount", "I", false)
  | 2 => ("ChangerFair$Plan", "left", "[J", true)
  | 3 => ("ChangerFair$Plan", "sums", "[J", true)
  | 4 => ("ChangerFair$Plan", "zeroSets", "[I", true)
  | 5 => ("ChangerFair$Plan", "mostGroups", "[I", true)
  | 6 => ("ChangerFair$Plan", "payers", "[I", true)
  | 7 => ("ChangerFair$Plan", "payees", "[I", true)
  | 8 => ("ChangerFair$Plan", "amounts", "[J", true)
  | 9 => ("ChangerFair$Plan", "zeroSetCount", "I", false)
  | _ => ("ChangerFair$Plan", "changesSeen", "J", false)
def tyX5 : Nat → FieldType := fun k => match k with
  | 0 => .int
  | 1 => .int
  | 2 => .array .long
  | 3 => .array .long
  | 4 => .array .int
  | 5 => .array .int
  | 6 => .array .int
  | 7 => .array .int
  | 8 => .array .long
  | 9 => .int
  | _ => .long
abbrev wsX50 : List Cond := u_ws RX5 TX5 11
theorem nmX5 : ∀ a, a < 11 → ∀ b, b < 11 → a ≠ b → (TX5 a).2.1 ≠ (TX5 b).2.1 := by decide +kernel
theorem tyX5_ok : ∀ k, k < 11 → parseFieldDescriptor (TX5 k).2.2.1 = some (tyX5 k) := by decide +kernel
abbrev cX5_init : ByteArray := prog_7_method_1_code
def yX5_init : MethodName := ⟨RX5, "<init>", "()V"⟩
abbrev cX5_refresh : ByteArray := prog_7_method_2_code
def yX5_refresh : MethodName := ⟨RX5, "refresh", "(LChangerFair$Book;)V"⟩
abbrev cX5_hasPayment : ByteArray := prog_7_method_3_code
def yX5_hasPayment : MethodName := ⟨RX5, "hasPayment", "(I)Z"⟩
abbrev cX5_figure : ByteArray := prog_7_method_4_code
def yX5_figure : MethodName := ⟨RX5, "figure", "(II)J"⟩
abbrev cX5_readNets : ByteArray := prog_7_method_5_code
def yX5_readNets : MethodName := ⟨RX5, "readNets", "(LChangerFair$Book;)I"⟩
abbrev cX5_addUp : ByteArray := prog_7_method_6_code
def yX5_addUp : MethodName := ⟨RX5, "addUp", "()V"⟩
abbrev cX5_listZeroSets : ByteArray := prog_7_method_7_code
def yX5_listZeroSets : MethodName := ⟨RX5, "listZeroSets", "(I)V"⟩
abbrev cX5_countGroups : ByteArray := prog_7_method_8_code
def yX5_countGroups : MethodName := ⟨RX5, "countGroups", "()V"⟩
abbrev cX5_mayBeFirst : ByteArray := prog_7_method_9_code
def yX5_mayBeFirst : MethodName := ⟨RX5, "mayBeFirst", "(II)Z"⟩
abbrev cX5_firstGroup : ByteArray := prog_7_method_10_code
def yX5_firstGroup : MethodName := ⟨RX5, "firstGroup", "(I)I"⟩
abbrev cX5_payWithin : ByteArray := prog_7_method_11_code
def yX5_payWithin : MethodName := ⟨RX5, "payWithin", "(I)V"⟩
abbrev cX5_leastOf : ByteArray := prog_7_method_12_code
def yX5_leastOf : MethodName := ⟨RX5, "leastOf", "(II)I"⟩
def RX6 : String := "ChangerFair$Purses"
def TX6 : u_T := fun k => match k with
  | 0 => ("ChangerFair$Purses", "worths", "[I", true)
  | _ => ("ChangerFair$Purses", "coins", "[[I", true)
def tyX6 : Nat → FieldType := fun k => match k with
  | 0 => .array .int
  | _ => .array (.array .int)
abbrev wsX60 : List Cond := u_ws RX6 TX6 2
theorem nmX6 : ∀ a, a < 2 → ∀ b, b < 2 → a ≠ b → (TX6 a).2.1 ≠ (TX6 b).2.1 := by decide +kernel
theorem tyX6_ok : ∀ k, k < 2 → parseFieldDescriptor (TX6 k).2.2.1 = some (tyX6 k) := by decide +kernel
abbrev cX6_init : ByteArray := prog_8_method_1_code
def yX6_init : MethodName := ⟨RX6, "<init>", "()V"⟩
abbrev cX6_isKind : ByteArray := prog_8_method_2_code
def yX6_isKind : MethodName := ⟨RX6, "isKind", "(I)Z"⟩
abbrev cX6_isMeasure : ByteArray := prog_8_method_3_code
def yX6_isMeasure : MethodName := ⟨RX6, "isMeasure", "(I)Z"⟩
abbrev cX6_mint : ByteArray := prog_8_method_4_code
def yX6_mint : MethodName := ⟨RX6, "mint", "(III)V"⟩
abbrev cX6_worth : ByteArray := prog_8_method_5_code
def yX6_worth : MethodName := ⟨RX6, "worth", "(I)I"⟩
abbrev cX6_held : ByteArray := prog_8_method_6_code
def yX6_held : MethodName := ⟨RX6, "held", "(II)I"⟩
abbrev cX6_put : ByteArray := prog_8_method_7_code
def yX6_put : MethodName := ⟨RX6, "put", "(III)V"⟩
abbrev cX6_wealth : ByteArray := prog_8_method_8_code
def yX6_wealth : MethodName := ⟨RX6, "wealth", "(I)J"⟩
abbrev cX6_handOver : ByteArray := prog_8_method_9_code
def yX6_handOver : MethodName := ⟨RX6, "handOver", "(IIJ)J"⟩
abbrev cX6_dearestBut : ByteArray := prog_8_method_10_code
def yX6_dearestBut : MethodName := ⟨RX6, "dearestBut", "(I)I"⟩
def RX7 : String := "ChangerFair$Rates"
def TX7 : u_T := fun k => match k with
  | 0 => ("ChangerFair$Rates", "votes", "[[I", true)
  | 1 => ("ChangerFair$Rates", "offers", "[[I", true)
  | 2 => ("ChangerFair$Rates", "sorted", "[I", true)
  | 3 => ("ChangerFair$Rates", "bestProduct", "J", false)
  | _ => ("ChangerFair$Rates", "bestFigures", "I", false)
def tyX7 : Nat → FieldType := fun k => match k with
  | 0 => .array (.array .int)
  | 1 => .array (.array .int)
  | 2 => .array .int
  | 3 => .long
  | _ => .int
abbrev wsX70 : List Cond := u_ws RX7 TX7 5
theorem nmX7 : ∀ a, a < 5 → ∀ b, b < 5 → a ≠ b → (TX7 a).2.1 ≠ (TX7 b).2.1 := by decide +kernel
theorem tyX7_ok : ∀ k, k < 5 → parseFieldDescriptor (TX7 k).2.2.1 = some (tyX7 k) := by decide +kernel
abbrev cX7_init : ByteArray := prog_9_method_1_code
def yX7_init : MethodName := ⟨RX7, "<init>", "()V"⟩
abbrev cX7_isVote : ByteArray := prog_9_method_2_code
def yX7_isVote : MethodName := ⟨RX7, "isVote", "(I)Z"⟩
abbrev cX7_isOffer : ByteArray := prog_9_method_3_code
def yX7_isOffer : MethodName := ⟨RX7, "isOffer", "(I)Z"⟩
abbrev cX7_changeVote : ByteArray := prog_9_method_4_code
def yX7_changeVote : MethodName := ⟨RX7, "changeVote", "(III)I"⟩
abbrev cX7_changeOffer : ByteArray := prog_9_method_5_code
def yX7_changeOffer : MethodName := ⟨RX7, "changeOffer", "(III)I"⟩
abbrev cX7_middleVote : ByteArray := prog_9_method_6_code
def yX7_middleVote : MethodName := ⟨RX7, "middleVote", "(I)I"⟩
abbrev cX7_insertSorted : ByteArray := prog_9_method_7_code
def yX7_insertSorted : MethodName := ⟨RX7, "insertSorted", "(II)V"⟩
abbrev cX7_bestTurn : ByteArray := prog_9_method_8_code
def yX7_bestTurn : MethodName := ⟨RX7, "bestTurn", "()I"⟩
abbrev cX7_extendTurn : ByteArray := prog_9_method_9_code
def yX7_extendTurn : MethodName := ⟨RX7, "extendTurn", "(IIIIJI)V"⟩
abbrev cX7_closeTurn : ByteArray := prog_9_method_10_code
def yX7_closeTurn : MethodName := ⟨RX7, "closeTurn", "(JI)V"⟩
def RX8 : String := "ChangerFair"
def TX8 : u_T := fun k => match k with
  | 0 => ("ChangerFair", "findings", "[J", true)
  | 1 => ("ChangerFair", "roads", "[I", true)
  | 2 => ("ChangerFair", "seats", "[I", true)
  | 3 => ("ChangerFair", "bills", "[LChangerFair$Bill;", true)
  | 4 => ("ChangerFair", "facts", "[I", true)
  | 5 => ("ChangerFair", "told", "[I", true)
  | 6 => ("ChangerFair", "reader", "LChangerFair$CustomReader;", true)
  | 7 => ("ChangerFair", "book", "LChangerFair$Book;", true)
  | 8 => ("ChangerFair", "plan", "LChangerFair$Plan;", true)
  | 9 => ("ChangerFair", "purses", "LChangerFair$Purses;", true)
  | 10 => ("ChangerFair", "rates", "LChangerFair$Rates;", true)
  | 11 => ("ChangerFair", "parting", "LChangerFair$Parting;", true)
  | 12 => ("ChangerFair", "custom", "LChangerFair$Custom;", false)
  | 13 => ("ChangerFair", "draft", "LChangerFair$Custom;", false)
  | 14 => ("ChangerFair", "day", "I", false)
  | 15 => ("ChangerFair", "gain", "I", false)
  | 16 => ("ChangerFair", "billCount", "I", false)
  | _ => ("ChangerFair", "toldCount", "I", false)
def tyX8 : Nat → FieldType := fun k => match k with
  | 0 => .array .long
  | 1 => .array .int
  | 2 => .array .int
  | 3 => .array (.object "ChangerFair$Bill")
  | 4 => .array .int
  | 5 => .array .int
  | 6 => .object "ChangerFair$CustomReader"
  | 7 => .object "ChangerFair$Book"
  | 8 => .object "ChangerFair$Plan"
  | 9 => .object "ChangerFair$Purses"
  | 10 => .object "ChangerFair$Rates"
  | 11 => .object "ChangerFair$Parting"
  | 12 => .object "ChangerFair$Custom"
  | 13 => .object "ChangerFair$Custom"
  | 14 => .int
  | 15 => .int
  | 16 => .int
  | _ => .int
abbrev wsX80 : List Cond := u_ws RX8 TX8 18
theorem nmX8 : ∀ a, a < 18 → ∀ b, b < 18 → a ≠ b → (TX8 a).2.1 ≠ (TX8 b).2.1 := by decide +kernel
theorem tyX8_ok : ∀ k, k < 18 → parseFieldDescriptor (TX8 k).2.2.1 = some (tyX8 k) := by decide +kernel
abbrev cX8_init : ByteArray := prog_1_method_1_code
def yX8_init : MethodName := ⟨RX8, "<init>", "()V"⟩
abbrev cX8_days : ByteArray := prog_1_method_2_code
def yX8_days : MethodName := ⟨RX8, "days", "(I)J"⟩
abbrev cX8_gain : ByteArray := prog_1_method_3_code
def yX8_gain : MethodName := ⟨RX8, "gain", "(I)J"⟩
abbrev cX8_road : ByteArray := prog_1_method_4_code
def yX8_road : MethodName := ⟨RX8, "road", "(II)J"⟩
abbrev cX8_seat : ByteArray := prog_1_method_5_code
def yX8_seat : MethodName := ⟨RX8, "seat", "(II)J"⟩
abbrev cX8_draw : ByteArray := prog_1_method_6_code
def yX8_draw : MethodName := ⟨RX8, "draw", "(IIIII)J"⟩
abbrev cX8_pass : ByteArray := prog_1_method_7_code
def yX8_pass : MethodName := ⟨RX8, "pass", "(II)J"⟩
abbrev cX8_take : ByteArray := prog_1_method_8_code
def yX8_take : MethodName := ⟨RX8, "take", "(IZ)J"⟩
abbrev cX8_pay : ByteArray := prog_1_method_9_code
def yX8_pay : MethodName := ⟨RX8, "pay", "(I)J"⟩
abbrev cX8_protest : ByteArray := prog_1_method_10_code
def yX8_protest : MethodName := ⟨RX8, "protest", "(I)J"⟩
abbrev cX8_recourse : ByteArray := prog_1_method_11_code
def yX8_recourse : MethodName := ⟨RX8, "recourse", "(II)J"⟩
abbrev cX8_about : ByteArray := prog_1_method_12_code
def yX8_about : MethodName := ⟨RX8, "about", "(II)J"⟩
abbrev cX8_as : ByteArray := prog_1_method_13_code
def yX8_as : MethodName := ⟨RX8, "as", "(II)J"⟩
abbrev cX8_knows : ByteArray := prog_1_method_14_code
def yX8_knows : MethodName := ⟨RX8, "knows", "(III)J"⟩
abbrev cX8_feed : ByteArray := prog_1_method_15_code
def yX8_feed : MethodName := ⟨RX8, "feed", "(JI)J"⟩
abbrev cX8_read : ByteArray := prog_1_method_16_code
def yX8_read : MethodName := ⟨RX8, "read", "()J"⟩
abbrev cX8_fault : ByteArray := prog_1_method_17_code
def yX8_fault : MethodName := ⟨RX8, "fault", "()J"⟩
abbrev cX8_binds : ByteArray := prog_1_method_18_code
def yX8_binds : MethodName := ⟨RX8, "binds", "(IIIII)J"⟩
abbrev cX8_owe : ByteArray := prog_1_method_19_code
def yX8_owe : MethodName := ⟨RX8, "owe", "(III)J"⟩
abbrev cX8_owes : ByteArray := prog_1_method_20_code
def yX8_owes : MethodName := ⟨RX8, "owes", "(II)J"⟩
abbrev cX8_net : ByteArray := prog_1_method_21_code
def yX8_net : MethodName := ⟨RX8, "net", "(I)J"⟩
abbrev cX8_plan : ByteArray := prog_1_method_22_code
def yX8_plan : MethodName := ⟨RX8, "plan", "(Z)J"⟩
abbrev cX8_payment : ByteArray := prog_1_method_23_code
def yX8_payment : MethodName := ⟨RX8, "payment", "(II)J"⟩
abbrev cX8_clear : ByteArray := prog_1_method_24_code
def yX8_clear : MethodName := ⟨RX8, "clear", "()J"⟩
abbrev cX8_coin : ByteArray := prog_1_method_25_code
def yX8_coin : MethodName := ⟨RX8, "coin", "(III)J"⟩
abbrev cX8_purse : ByteArray := prog_1_method_26_code
def yX8_purse : MethodName := ⟨RX8, "purse", "(III)J"⟩
abbrev cX8_has : ByteArray := prog_1_method_27_code
def yX8_has : MethodName := ⟨RX8, "has", "(II)J"⟩
abbrev cX8_settle : ByteArray := prog_1_method_28_code
def yX8_settle : MethodName := ⟨RX8, "settle", "(II)J"⟩
abbrev cX8_vote : ByteArray := prog_1_method_29_code
def yX8_vote : MethodName := ⟨RX8, "vote", "(III)J"⟩
abbrev cX8_rate : ByteArray := prog_1_method_30_code
def yX8_rate : MethodName := ⟨RX8, "rate", "(I)J"⟩
abbrev cX8_offer : ByteArray := prog_1_method_31_code
def yX8_offer : MethodName := ⟨RX8, "offer", "(III)J"⟩
abbrev cX8_turn : ByteArray := prog_1_method_32_code
def yX8_turn : MethodName := ⟨RX8, "turn", "()J"⟩
abbrev cX8_part : ByteArray := prog_1_method_33_code
def yX8_part : MethodName := ⟨RX8, "part", "(III)J"⟩
abbrev cX8_tell : ByteArray := prog_1_method_34_code
def yX8_tell : MethodName := ⟨RX8, "tell", "(I)J"⟩
abbrev cX8_check : ByteArray := prog_1_method_35_code
def yX8_check : MethodName := ⟨RX8, "check", "()J"⟩
abbrev cX8_count : ByteArray := prog_1_method_36_code
def yX8_count : MethodName := ⟨RX8, "count", "(I)J"⟩
abbrev cX8_found : ByteArray := prog_1_method_37_code
def yX8_found : MethodName := ⟨RX8, "found", "(I)J"⟩
abbrev cX8_finding : ByteArray := prog_1_method_38_code
def yX8_finding : MethodName := ⟨RX8, "finding", "(I)J"⟩
abbrev cX8_isHouse : ByteArray := prog_1_method_39_code
def yX8_isHouse : MethodName := ⟨RX8, "isHouse", "(I)Z"⟩
abbrev cX8_areTwoHouses : ByteArray := prog_1_method_40_code
def yX8_areTwoHouses : MethodName := ⟨RX8, "areTwoHouses", "(II)Z"⟩
abbrev cX8_isTown : ByteArray := prog_1_method_41_code
def yX8_isTown : MethodName := ⟨RX8, "isTown", "(I)Z"⟩
abbrev cX8_isBillKind : ByteArray := prog_1_method_42_code
def yX8_isBillKind : MethodName := ⟨RX8, "isBillKind", "(I)Z"⟩
abbrev cX8_isTakingDay : ByteArray := prog_1_method_43_code
def yX8_isTakingDay : MethodName := ⟨RX8, "isTakingDay", "()Z"⟩
abbrev cX8_billAt : ByteArray := prog_1_method_44_code
def yX8_billAt : MethodName := ⟨RX8, "billAt", "(I)LChangerFair$Bill;"⟩
abbrev cX8_roadOf : ByteArray := prog_1_method_45_code
def yX8_roadOf : MethodName := ⟨RX8, "roadOf", "(I)I"⟩
abbrev cX8_overfills : ByteArray := prog_1_method_46_code
def yX8_overfills : MethodName := ⟨RX8, "overfills", "(LChangerFair$Bill;I)Z"⟩
abbrev cX8_charge : ByteArray := prog_1_method_47_code
def yX8_charge : MethodName := ⟨RX8, "charge", "(LChangerFair$Bill;I)V"⟩
abbrev cX8_bindsEndorser : ByteArray := prog_1_method_48_code
def yX8_bindsEndorser : MethodName := ⟨RX8, "bindsEndorser", "(LChangerFair$Bill;I)Z"⟩
abbrev cX8_customBinds : ByteArray := prog_1_method_49_code
def yX8_customBinds : MethodName := ⟨RX8, "customBinds", "(IIIII)Z"⟩
abbrev cX8_toldPayment : ByteArray := prog_1_method_50_code
def yX8_toldPayment : MethodName := ⟨RX8, "toldPayment", "(II)Z"⟩
def RX9 : String := "ChangerFairModel"
def TX9 : u_T := fun k => match k with
  | 0 => ("ChangerFairModel", "day", "J", false)
  | 1 => ("ChangerFairModel", "gain", "I", false)
  | 2 => ("ChangerFairModel", "roads", "[I", true)
  | 3 => ("ChangerFairModel", "seats", "[I", true)
  | 4 => ("ChangerFairModel", "bills", "I", false)
  | 5 => ("ChangerFairModel", "kindOf", "[I", true)
  | 6 => ("ChangerFairModel", "drawerOf", "[I", true)
  | 7 => ("ChangerFairModel", "draweeOf", "[I", true)
  | 8 => ("ChangerFairModel", "holderOf", "[I", true)
  | 9 => ("ChangerFairModel", "amountOf", "[I", true)
  | 10 => ("ChangerFairModel", "stateOf", "[I", true)
  | 11 => ("ChangerFairModel", "endorsers", "[I", true)
  | 12 => ("ChangerFairModel", "endorserOf", "[I", true)
  | 13 => ("ChangerFairModel", "began", "[J", true)
  | 14 => ("ChangerFairModel", "byPay", "[Z", true)
  | 15 => ("ChangerFairModel", "debts", "[J", true)
  | 16 => ("ChangerFairModel", "worth", "[I", true)
  | 17 => ("ChangerFairModel", "purses", "[I", true)
  | 18 => ("ChangerFairModel", "votes", "[I", true)
  | 19 => ("ChangerFairModel", "offers", "[I", true)
  | 20 => ("ChangerFairModel", "tells", "I", false)
  | 21 => ("ChangerFairModel", "told", "[I", true)
  | 22 => ("ChangerFairModel", "findings", "[J", true)
  | 23 => ("ChangerFairModel", "clauses", "I", false)
  | 24 => ("ChangerFairModel", "binding", "[Z", true)
  | 25 => ("ChangerFairModel", "tests", "[I", true)
  | 26 => ("ChangerFairModel", "valueOf", "[I", true)
  | 27 => ("ChangerFairModel", "howOf", "[I", true)
  | 28 => ("ChangerFairModel", "numberOf", "[I", true)
  | 29 => ("ChangerFairModel", "newClauses", "I", false)
  | 30 => ("ChangerFairModel", "newBinding", "[Z", true)
  | 31 => ("ChangerFairModel", "newTests", "[I", true)
  | 32 => ("ChangerFairModel", "newValue", "[I", true)
  | 33 => ("ChangerFairModel", "newHow", "[I", true)
  | 34 => ("ChangerFairModel", "newNumber", "[I", true)
  | 35 => ("ChangerFairModel", "tape", "[I", true)
  | 36 => ("ChangerFairModel", "taped", "I", false)
  | 37 => ("ChangerFairModel", "faultAt", "J", false)
  | 38 => ("ChangerFairModel", "from", "I", false)
  | 39 => ("ChangerFairModel", "next", "I", false)
  | 40 => ("ChangerFairModel", "word", "I", false)
  | 41 => ("ChangerFairModel", "value", "I", false)
  | 42 => ("ChangerFairModel", "sums", "[J", true)
  | 43 => ("ChangerFairModel", "most", "[I", true)
  | 44 => ("ChangerFairModel", "groups", "I", false)
  | 45 => ("ChangerFairModel", "group", "[I", true)
  | 46 => ("ChangerFairModel", "payments", "I", false)
  | 47 => ("ChangerFairModel", "payer", "[I", true)
  | 48 => ("ChangerFairModel", "payee", "[I", true)
  | 49 => ("ChangerFairModel", "paid", "[J", true)
  | 50 => ("ChangerFairModel", "nets", "[J", true)
  | 51 => ("ChangerFairModel", "bestProduct", "J", false)
  | 52 => ("ChangerFairModel", "bestTurn", "J", false)
  | 53 => ("ChangerFairModel", "claims", "[J", true)
  | _ => ("ChangerFairModel", "gets", "[J", true)
def tyX9 : Nat → FieldType := fun k => match k with
  | 0 => .long
  | 1 => .int
  | 2 => .array .int
  | 3 => .array .int
  | 4 => .int
  | 5 => .array .int
  | 6 => .array .int
  | 7 => .array .int
  | 8 => .array .int
  | 9 => .array .int
  | 10 => .array .int
  | 11 => .array .int
  | 12 => .array .int
  | 13 => .array .long
  | 14 => .array .boolean
  | 15 => .array .long
  | 16 => .array .int
  | 17 => .array .int
  | 18 => .array .int
  | 19 => .array .int
  | 20 => .int
  | 21 => .array .int
  | 22 => .array .long
  | 23 => .int
  | 24 => .array .boolean
  | 25 => .array .int
  | 26 => .array .int
  | 27 => .array .int
  | 28 => .array .int
  | 29 => .int
  | 30 => .array .boolean
  | 31 => .array .int
  | 32 => .array .int
  | 33 => .array .int
  | 34 => .array .int
  | 35 => .array .int
  | 36 => .int
  | 37 => .long
  | 38 => .int
  | 39 => .int
  | 40 => .int
  | 41 => .int
  | 42 => .array .long
  | 43 => .array .int
  | 44 => .int
  | 45 => .array .int
  | 46 => .int
  | 47 => .array .int
  | 48 => .array .int
  | 49 => .array .long
  | 50 => .array .long
  | 51 => .long
  | 52 => .long
  | 53 => .array .long
  | _ => .array .long
abbrev wsX90 : List Cond := u_ws RX9 TX9 55
theorem nmX9 : ∀ a, a < 55 → ∀ b, b < 55 → a ≠ b → (TX9 a).2.1 ≠ (TX9 b).2.1 := by decide +kernel
theorem tyX9_ok : ∀ k, k < 55 → parseFieldDescriptor (TX9 k).2.2.1 = some (tyX9 k) := by decide +kernel
abbrev cX9_init : ByteArray := prog_11_method_1_code
def yX9_init : MethodName := ⟨RX9, "<init>", "()V"⟩
abbrev cX9_finding : ByteArray := prog_11_method_2_code
def yX9_finding : MethodName := ⟨RX9, "finding", "(J)J"⟩
abbrev cX9_in : ByteArray := prog_11_method_3_code
def yX9_in : MethodName := ⟨RX9, "in", "(III)Z"⟩
abbrev cX9_isHouse : ByteArray := prog_11_method_4_code
def yX9_isHouse : MethodName := ⟨RX9, "isHouse", "(I)Z"⟩
abbrev cX9_isTown : ByteArray := prog_11_method_5_code
def yX9_isTown : MethodName := ⟨RX9, "isTown", "(I)Z"⟩
abbrev cX9_isBill : ByteArray := prog_11_method_6_code
def yX9_isBill : MethodName := ⟨RX9, "isBill", "(I)Z"⟩
abbrev cX9_carry : ByteArray := prog_11_method_7_code
def yX9_carry : MethodName := ⟨RX9, "carry", "()Z"⟩
abbrev cX9_days : ByteArray := prog_11_method_8_code
def yX9_days : MethodName := ⟨RX9, "days", "(I)J"⟩
abbrev cX9_gain : ByteArray := prog_11_method_9_code
def yX9_gain : MethodName := ⟨RX9, "gain", "(I)J"⟩
abbrev cX9_road : ByteArray := prog_11_method_10_code
def yX9_road : MethodName := ⟨RX9, "road", "(II)J"⟩
abbrev cX9_seat : ByteArray := prog_11_method_11_code
def yX9_seat : MethodName := ⟨RX9, "seat", "(II)J"⟩
abbrev cX9_becomes : ByteArray := prog_11_method_12_code
def yX9_becomes : MethodName := ⟨RX9, "becomes", "(II)V"⟩
abbrev cX9_draw : ByteArray := prog_11_method_13_code
def yX9_draw : MethodName := ⟨RX9, "draw", "(IIIII)J"⟩
abbrev cX9_pass : ByteArray := prog_11_method_14_code
def yX9_pass : MethodName := ⟨RX9, "pass", "(II)J"⟩
abbrev cX9_isEarly : ByteArray := prog_11_method_15_code
def yX9_isEarly : MethodName := ⟨RX9, "isEarly", "()Z"⟩
abbrev cX9_take : ByteArray := prog_11_method_16_code
def yX9_take : MethodName := ⟨RX9, "take", "(IZ)J"⟩
abbrev cX9_would : ByteArray := prog_11_method_17_code
def yX9_would : MethodName := ⟨RX9, "would", "(IIJ)J"⟩
abbrev cX9_isTooMuch : ByteArray := prog_11_method_18_code
def yX9_isTooMuch : MethodName := ⟨RX9, "isTooMuch", "(IIJ)Z"⟩
abbrev cX9_comesToOwe : ByteArray := prog_11_method_19_code
def yX9_comesToOwe : MethodName := ⟨RX9, "comesToOwe", "(IIJ)V"⟩
abbrev cX9_pay : ByteArray := prog_11_method_20_code
def yX9_pay : MethodName := ⟨RX9, "pay", "(I)J"⟩
abbrev cX9_protest : ByteArray := prog_11_method_21_code
def yX9_protest : MethodName := ⟨RX9, "protest", "(I)J"⟩
abbrev cX9_recourse : ByteArray := prog_11_method_22_code
def yX9_recourse : MethodName := ⟨RX9, "recourse", "(II)J"⟩
abbrev cX9_about : ByteArray := prog_11_method_23_code
def yX9_about : MethodName := ⟨RX9, "about", "(II)J"⟩
abbrev cX9_as : ByteArray := prog_11_method_24_code
def yX9_as : MethodName := ⟨RX9, "as", "(II)J"⟩
abbrev cX9_knows : ByteArray := prog_11_method_25_code
def yX9_knows : MethodName := ⟨RX9, "knows", "(III)J"⟩
abbrev cX9_feed : ByteArray := prog_11_method_26_code
def yX9_feed : MethodName := ⟨RX9, "feed", "(JI)J"⟩
abbrev cX9_at : ByteArray := prog_11_method_27_code
def yX9_at : MethodName := ⟨RX9, "at", "(I)I"⟩
abbrev cX9_isLetter : ByteArray := prog_11_method_28_code
def yX9_isLetter : MethodName := ⟨RX9, "isLetter", "(I)Z"⟩
abbrev cX9_isFigure : ByteArray := prog_11_method_29_code
def yX9_isFigure : MethodName := ⟨RX9, "isFigure", "(I)Z"⟩
abbrev cX9_go : ByteArray := prog_11_method_30_code
def yX9_go : MethodName := ⟨RX9, "go", "()V"⟩
abbrev cX9_letters : ByteArray := prog_11_method_31_code
def yX9_letters : MethodName := ⟨RX9, "letters", "()V"⟩
abbrev cX9_wordOf : ByteArray := prog_11_method_32_code
def yX9_wordOf : MethodName := ⟨RX9, "wordOf", "(J)I"⟩
abbrev cX9_wrong : ByteArray := prog_11_method_33_code
def yX9_wrong : MethodName := ⟨RX9, "wrong", "()Z"⟩
abbrev cX9_test : ByteArray := prog_11_method_34_code
def yX9_test : MethodName := ⟨RX9, "test", "()Z"⟩
abbrev cX9_clause : ByteArray := prog_11_method_35_code
def yX9_clause : MethodName := ⟨RX9, "clause", "()Z"⟩
abbrev cX9_text : ByteArray := prog_11_method_36_code
def yX9_text : MethodName := ⟨RX9, "text", "()Z"⟩
abbrev cX9_read : ByteArray := prog_11_method_37_code
def yX9_read : MethodName := ⟨RX9, "read", "()J"⟩
abbrev cX9_fault : ByteArray := prog_11_method_38_code
def yX9_fault : MethodName := ⟨RX9, "fault", "()J"⟩
abbrev cX9_isBound : ByteArray := prog_11_method_39_code
def yX9_isBound : MethodName := ⟨RX9, "isBound", "(JIIII)Z"⟩
abbrev cX9_binds : ByteArray := prog_11_method_40_code
def yX9_binds : MethodName := ⟨RX9, "binds", "(IIIII)J"⟩
abbrev cX9_owe : ByteArray := prog_11_method_41_code
def yX9_owe : MethodName := ⟨RX9, "owe", "(III)J"⟩
abbrev cX9_owes : ByteArray := prog_11_method_42_code
def yX9_owes : MethodName := ⟨RX9, "owes", "(II)J"⟩
abbrev cX9_netOf : ByteArray := prog_11_method_43_code
def yX9_netOf : MethodName := ⟨RX9, "netOf", "(I)J"⟩
abbrev cX9_net : ByteArray := prog_11_method_44_code
def yX9_net : MethodName := ⟨RX9, "net", "(I)J"⟩
abbrev cX9_findMost : ByteArray := prog_11_method_45_code
def yX9_findMost : MethodName := ⟨RX9, "findMost", "()V"⟩
abbrev cX9_findPlan : ByteArray := prog_11_method_46_code
def yX9_findPlan : MethodName := ⟨RX9, "findPlan", "()V"⟩
abbrev cX9_leastOf : ByteArray := prog_11_method_47_code
def yX9_leastOf : MethodName := ⟨RX9, "leastOf", "(II)I"⟩
abbrev cX9_payOut : ByteArray := prog_11_method_48_code
def yX9_payOut : MethodName := ⟨RX9, "payOut", "(I)V"⟩
abbrev cX9_plan : ByteArray := prog_11_method_49_code
def yX9_plan : MethodName := ⟨RX9, "plan", "(Z)J"⟩
abbrev cX9_paymentOf : ByteArray := prog_11_method_50_code
def yX9_paymentOf : MethodName := ⟨RX9, "paymentOf", "(II)J"⟩
abbrev cX9_payment : ByteArray := prog_11_method_51_code
def yX9_payment : MethodName := ⟨RX9, "payment", "(II)J"⟩
abbrev cX9_owedInAll : ByteArray := prog_11_method_52_code
def yX9_owedInAll : MethodName := ⟨RX9, "owedInAll", "()J"⟩
abbrev cX9_clear : ByteArray := prog_11_method_53_code
def yX9_clear : MethodName := ⟨RX9, "clear", "()J"⟩
abbrev cX9_coin : ByteArray := prog_11_method_54_code
def yX9_coin : MethodName := ⟨RX9, "coin", "(III)J"⟩
abbrev cX9_purse : ByteArray := prog_11_method_55_code
def yX9_purse : MethodName := ⟨RX9, "purse", "(III)J"⟩
abbrev cX9_has : ByteArray := prog_11_method_56_code
def yX9_has : MethodName := ⟨RX9, "has", "(II)J"⟩
abbrev cX9_settle : ByteArray := prog_11_method_57_code
def yX9_settle : MethodName := ⟨RX9, "settle", "(II)J"⟩
abbrev cX9_vote : ByteArray := prog_11_method_58_code
def yX9_vote : MethodName := ⟨RX9, "vote", "(III)J"⟩
abbrev cX9_rate : ByteArray := prog_11_method_59_code
def yX9_rate : MethodName := ⟨RX9, "rate", "(I)J"⟩
abbrev cX9_offer : ByteArray := prog_11_method_60_code
def yX9_offer : MethodName := ⟨RX9, "offer", "(III)J"⟩
abbrev cX9_look : ByteArray := prog_11_method_61_code
def yX9_look : MethodName := ⟨RX9, "look", "(IIII)V"⟩
abbrev cX9_turn : ByteArray := prog_11_method_62_code
def yX9_turn : MethodName := ⟨RX9, "turn", "()J"⟩
abbrev cX9_pledged : ByteArray := prog_11_method_63_code
def yX9_pledged : MethodName := ⟨RX9, "pledged", "(II)J"⟩
abbrev cX9_share : ByteArray := prog_11_method_64_code
def yX9_share : MethodName := ⟨RX9, "share", "(J)J"⟩
abbrev cX9_part : ByteArray := prog_11_method_65_code
def yX9_part : MethodName := ⟨RX9, "part", "(III)J"⟩
abbrev cX9_tell : ByteArray := prog_11_method_66_code
def yX9_tell : MethodName := ⟨RX9, "tell", "(I)J"⟩
abbrev cX9_check : ByteArray := prog_11_method_67_code
def yX9_check : MethodName := ⟨RX9, "check", "()J"⟩
abbrev cX9_count : ByteArray := prog_11_method_68_code
def yX9_count : MethodName := ⟨RX9, "count", "(I)J"⟩
abbrev cX9_found : ByteArray := prog_11_method_69_code
def yX9_found : MethodName := ⟨RX9, "found", "(I)J"⟩
def RJ9 : String := "java/lang/Math"
def TJ9 : u_T := fun k => match k with
  | _ => ("", "", "", false)
def tyJ9 : Nat → FieldType := fun k => match k with
  | _ => .int
abbrev wsJ90 : List Cond := u_ws RJ9 TJ9 0
theorem nmJ9 : ∀ a, a < 0 → ∀ b, b < 0 → a ≠ b → (TJ9 a).2.1 ≠ (TJ9 b).2.1 := by decide +kernel
theorem tyJ9_ok : ∀ k, k < 0 → parseFieldDescriptor (TJ9 k).2.2.1 = some (tyJ9 k) := by decide +kernel
abbrev cJ9_max_7cf53 : ByteArray := prog_12_method_65_code
def yJ9_max_7cf53 : MethodName := ⟨RJ9, "max", "(II)I"⟩
abbrev cJ9_max_f86c9 : ByteArray := prog_12_method_66_code
def yJ9_max_f86c9 : MethodName := ⟨RJ9, "max", "(JJ)J"⟩
abbrev cJ9_min_7cf53 : ByteArray := prog_12_method_69_code
def yJ9_min_7cf53 : MethodName := ⟨RJ9, "min", "(II)I"⟩
abbrev cJ9_min_f86c9 : ByteArray := prog_12_method_70_code
def yJ9_min_f86c9 : MethodName := ⟨RJ9, "min", "(JJ)J"⟩
def RJ0 : String := "java/lang/String"
def TJ0 : u_T := fun k => match k with
  | _ => ("", "", "", false)
def tyJ0 : Nat → FieldType := fun k => match k with
  | _ => .int
abbrev wsJ00 : List Cond := u_ws RJ0 TJ0 0
theorem nmJ0 : ∀ a, a < 0 → ∀ b, b < 0 → a ≠ b → (TJ0 a).2.1 ≠ (TJ0 b).2.1 := by decide +kernel
theorem tyJ0_ok : ∀ k, k < 0 → parseFieldDescriptor (TJ0 k).2.2.1 = some (tyJ0 k) := by decide +kernel
abbrev cJ0_length_8abf5 : ByteArray := prog_13_method_54_code
def yJ0_length_8abf5 : MethodName := ⟨RJ0, "length", "()I"⟩
abbrev cJ0_charAt_5068e : ByteArray := prog_13_method_56_code
def yJ0_charAt_5068e : MethodName := ⟨RJ0, "charAt", "(I)C"⟩
abbrev cJ0_coder_7d493 : ByteArray := prog_13_method_152_code
def yJ0_coder_7d493 : MethodName := ⟨RJ0, "coder", "()B"⟩
abbrev cJ0_isLatin1_aae02 : ByteArray := prog_13_method_154_code
def yJ0_isLatin1_aae02 : MethodName := ⟨RJ0, "isLatin1", "()Z"⟩
abbrev cJ0_checkIndex_df160 : ByteArray := prog_13_method_155_code
def yJ0_checkIndex_df160 : MethodName := ⟨RJ0, "checkIndex", "(II)V"⟩
def RJ1 : String := "java/lang/StringLatin1"
def TJ1 : u_T := fun k => match k with
  | _ => ("", "", "", false)
def tyJ1 : Nat → FieldType := fun k => match k with
  | _ => .int
abbrev wsJ10 : List Cond := u_ws RJ1 TJ1 0
theorem nmJ1 : ∀ a, a < 0 → ∀ b, b < 0 → a ≠ b → (TJ1 a).2.1 ≠ (TJ1 b).2.1 := by decide +kernel
theorem tyJ1_ok : ∀ k, k < 0 → parseFieldDescriptor (TJ1 k).2.2.1 = some (tyJ1 k) := by decide +kernel
abbrev cJ1_charAt_3b067 : ByteArray := prog_14_method_2_code
def yJ1_charAt_3b067 : MethodName := ⟨RJ1, "charAt", "([BI)C"⟩
def RJ2 : String := "java/lang/StringUTF16"
def TJ2 : u_T := fun k => match k with
  | _ => ("", "", "", false)
def tyJ2 : Nat → FieldType := fun k => match k with
  | _ => .int
abbrev wsJ20 : List Cond := u_ws RJ2 TJ2 0
theorem nmJ2 : ∀ a, a < 0 → ∀ b, b < 0 → a ≠ b → (TJ2 a).2.1 ≠ (TJ2 b).2.1 := by decide +kernel
theorem tyJ2_ok : ∀ k, k < 0 → parseFieldDescriptor (TJ2 k).2.2.1 = some (tyJ2 k) := by decide +kernel
abbrev cJ2_getChar_3b067 : ByteArray := prog_15_method_5_code
def yJ2_getChar_3b067 : MethodName := ⟨RJ2, "getChar", "([BI)C"⟩
abbrev cJ2_length_9d52b : ByteArray := prog_15_method_6_code
def yJ2_length_9d52b : MethodName := ⟨RJ2, "length", "([B)I"⟩
abbrev cJ2_charAt_3b067 : ByteArray := prog_15_method_83_code
def yJ2_charAt_3b067 : MethodName := ⟨RJ2, "charAt", "([BI)C"⟩
abbrev cJ2_checkIndex_2214a : ByteArray := prog_15_method_91_code
def yJ2_checkIndex_2214a : MethodName := ⟨RJ2, "checkIndex", "(I[B)V"⟩
def RJ3 : String := "jdk/internal/util/Preconditions"
def TJ3 : u_T := fun k => match k with
  | _ => ("", "", "", false)
def tyJ3 : Nat → FieldType := fun k => match k with
  | _ => .int
abbrev wsJ30 : List Cond := u_ws RJ3 TJ3 0
theorem nmJ3 : ∀ a, a < 0 → ∀ b, b < 0 → a ≠ b → (TJ3 a).2.1 ≠ (TJ3 b).2.1 := by decide +kernel
theorem tyJ3_ok : ∀ k, k < 0 → parseFieldDescriptor (TJ3 k).2.2.1 = some (tyJ3 k) := by decide +kernel
abbrev cJ3_checkIndex_8e157 : ByteArray := prog_16_method_11_code
def yJ3_checkIndex_8e157 : MethodName := ⟨RJ3, "checkIndex", "(IILjava/util/function/BiFunction;)I"⟩
def RL : String := "ChangerFairLaw"
abbrev cL_law : ByteArray := code
def yL_law : MethodName := ⟨RL, "law", "([I)Z"⟩
def wsX0_init : List Cond := .code yX0_init cX0_init 7 none :: ([.methodLink RX0 1 objectInit, .instanceMethod objectInit, .code objectInit ⟨#[0xb1]⟩ 1 none, .arrayClass .int, .fieldLink RX0 9 "ChangerFair$Bill" "endorsers" "[I", .fieldLink RX0 13 "ChangerFair$Bill" "began" "[I", .fieldLink RX0 16 "ChangerFair$Bill" "kind" "I", .fieldLink RX0 20 "ChangerFair$Bill" "drawer" "I", .fieldLink RX0 23 "ChangerFair$Bill" "drawee" "I", .fieldLink RX0 26 "ChangerFair$Bill" "holder" "I", .fieldLink RX0 29 "ChangerFair$Bill" "amount" "I"] ++ wsX00)
def wsX0_become : List Cond := .code yX0_become cX0_become 3 none :: ([.fieldLink RX0 32 "ChangerFair$Bill" "state" "I", .fieldLink RX0 13 "ChangerFair$Bill" "began" "[I"] ++ wsX00)
def wsX0_stateDay : List Cond := .code yX0_stateDay cX0_stateDay 1 (some .int) :: ([.fieldLink RX0 13 "ChangerFair$Bill" "began" "[I", .fieldLink RX0 32 "ChangerFair$Bill" "state" "I"] ++ wsX00)
def wsX0_daysLate : List Cond := .code yX0_daysLate cX0_daysLate 1 (some .int) :: ([.fieldLink RX0 13 "ChangerFair$Bill" "began" "[I"] ++ wsX00)
def wsX0_latestStateBy : List Cond := .code yX0_latestStateBy cX0_latestStateBy 3 (some .int) :: ([.fieldLink RX0 13 "ChangerFair$Bill" "began" "[I"] ++ wsX00)
def wsX0_hasEndorser : List Cond := .code yX0_hasEndorser cX0_hasEndorser 2 (some .boolean) :: ([.fieldLink RX0 35 "ChangerFair$Bill" "endorserCount" "I"] ++ wsX00)
def wsX0_endorserAt : List Cond := .code yX0_endorserAt cX0_endorserAt 2 (some .int) :: ([.fieldLink RX0 9 "ChangerFair$Bill" "endorsers" "[I"] ++ wsX00)
def wsX0_hasRoomToPass : List Cond := .code yX0_hasRoomToPass cX0_hasRoomToPass 1 (some .boolean) :: ([.fieldLink RX0 16 "ChangerFair$Bill" "kind" "I", .fieldLink RX0 35 "ChangerFair$Bill" "endorserCount" "I"] ++ wsX00)
def wsX0_moveTo : List Cond := .code yX0_moveTo cX0_moveTo 2 none :: ([.fieldLink RX0 16 "ChangerFair$Bill" "kind" "I", .fieldLink RX0 35 "ChangerFair$Bill" "endorserCount" "I", .fieldLink RX0 9 "ChangerFair$Bill" "endorsers" "[I", .fieldLink RX0 26 "ChangerFair$Bill" "holder" "I"] ++ wsX00)
def wsX0_returnTo : List Cond := .code yX0_returnTo cX0_returnTo 2 none :: ([.fieldLink RX0 9 "ChangerFair$Bill" "endorsers" "[I", .fieldLink RX0 26 "ChangerFair$Bill" "holder" "I", .fieldLink RX0 35 "ChangerFair$Bill" "endorserCount" "I", .methodLink RX0 38 yX0_hasEndorser, .instanceMethod yX0_hasEndorser, .selects RX0 yX0_hasEndorser yX0_hasEndorser, .initialized RX0, .code yX0_hasEndorser cX0_hasEndorser 2 (some .boolean)] ++ wsX00)
def wsX0_pledgedBy : List Cond := .code yX0_pledgedBy cX0_pledgedBy 2 (some .boolean) :: ([.fieldLink RX0 16 "ChangerFair$Bill" "kind" "I", .fieldLink RX0 42 "ChangerFair$Bill" "paidByDrawee" "Z", .fieldLink RX0 23 "ChangerFair$Bill" "drawee" "I"] ++ wsX00)
def wsX1_init : List Cond := .code yX1_init cX1_init 1 none :: ([.methodLink RX1 3 objectInit, .instanceMethod objectInit, .code objectInit ⟨#[0xb1]⟩ 1 none, .classLink RX1 9 "[[J", .arrayClass .long, .fieldLink RX1 11 "ChangerFair$Book" "debts" "[[J"] ++ wsX10)
def wsX1_debt : List Cond := .code yX1_debt cX1_debt 3 (some .long) :: ([.fieldLink RX1 11 "ChangerFair$Book" "debts" "[[J"] ++ wsX10)
def wsX1_overfills : List Cond := .code yX1_overfills cX1_overfills 5 (some .boolean) :: ([.fieldLink RX1 11 "ChangerFair$Book" "debts" "[[J", .constantLong RX1 16 (1000000000)] ++ wsX10)
def wsX1_charge : List Cond := .code yX1_charge cX1_charge 7 none :: ([.fieldLink RX1 11 "ChangerFair$Book" "debts" "[[J", .methodLink RX1 18 Lib.MathLoose.max_long.x, .static Lib.MathLoose.max_long.x, .initialized "java/lang/Math", .code Lib.MathLoose.max_long.x Lib.MathLoose.max_long.code 4 (some .long), .fieldLink RX1 24 "ChangerFair$Book" "changes" "J"] ++ wsX10)
def wsX1_lessen : List Cond := .code yX1_lessen cX1_lessen 5 none :: ([.fieldLink RX1 11 "ChangerFair$Book" "debts" "[[J", .fieldLink RX1 24 "ChangerFair$Book" "changes" "J"] ++ wsX10)
def wsX1_wipe : List Cond := .code yX1_wipe cX1_wipe 3 none :: ([.fieldLink RX1 11 "ChangerFair$Book" "debts" "[[J", .fieldLink RX1 24 "ChangerFair$Book" "changes" "J"] ++ wsX10)
def wsX1_balance : List Cond := .code yX1_balance cX1_balance 5 (some .long) :: ([.fieldLink RX1 11 "ChangerFair$Book" "debts" "[[J"] ++ wsX10)
def wsX1_total : List Cond := .code yX1_total cX1_total 5 (some .long) :: ([.fieldLink RX1 11 "ChangerFair$Book" "debts" "[[J"] ++ wsX10)
def wsX1_carried : List Cond := .code yX1_carried cX1_carried 3 (some .long) :: ([.constantLong RX1 32 (1000)])
def wsX1_carryOverfills : List Cond := .code yX1_carryOverfills cX1_carryOverfills 4 (some .boolean) :: ([.fieldLink RX1 11 "ChangerFair$Book" "debts" "[[J", .constantLong RX1 16 (1000000000), .methodLink RX1 28 yX1_carried, .static yX1_carried, .initialized RX1, .code yX1_carried cX1_carried 3 (some .long), .constantLong RX1 32 (1000)] ++ wsX10)
def wsX1_carry : List Cond := .code yX1_carry cX1_carry 4 none :: ([.fieldLink RX1 11 "ChangerFair$Book" "debts" "[[J", .fieldLink RX1 24 "ChangerFair$Book" "changes" "J", .methodLink RX1 28 yX1_carried, .static yX1_carried, .initialized RX1, .code yX1_carried cX1_carried 3 (some .long), .constantLong RX1 32 (1000)] ++ wsX10)
def wsX2_init : List Cond := .code yX2_init cX2_init 1 none :: ([.methodLink RX2 1 objectInit, .instanceMethod objectInit, .code objectInit ⟨#[0xb1]⟩ 1 none, .arrayClass .boolean, .fieldLink RX2 9 "ChangerFair$Custom" "verdicts" "[Z", .arrayClass .int, .fieldLink RX2 13 "ChangerFair$Custom" "testCounts" "[I", .fieldLink RX2 17 "ChangerFair$Custom" "values" "[I", .fieldLink RX2 20 "ChangerFair$Custom" "signs" "[I", .fieldLink RX2 23 "ChangerFair$Custom" "numbers" "[I"] ++ wsX20)
def wsX2_forget : List Cond := .code yX2_forget cX2_forget 1 none :: ([.fieldLink RX2 26 "ChangerFair$Custom" "clauseCount" "I"] ++ wsX20)
def wsX2_addClause : List Cond := .code yX2_addClause cX2_addClause 2 none :: ([.fieldLink RX2 26 "ChangerFair$Custom" "clauseCount" "I", .fieldLink RX2 9 "ChangerFair$Custom" "verdicts" "[Z", .fieldLink RX2 13 "ChangerFair$Custom" "testCounts" "[I"] ++ wsX20)
def wsX2_addTest : List Cond := .code yX2_addTest cX2_addTest 6 none :: ([.fieldLink RX2 26 "ChangerFair$Custom" "clauseCount" "I", .fieldLink RX2 13 "ChangerFair$Custom" "testCounts" "[I", .fieldLink RX2 17 "ChangerFair$Custom" "values" "[I", .fieldLink RX2 20 "ChangerFair$Custom" "signs" "[I", .fieldLink RX2 23 "ChangerFair$Custom" "numbers" "[I"] ++ wsX20)
def wsX2_holds : List Cond := .code yX2_holds cX2_holds 3 (some .boolean) :: ([])
def wsX2_allTestsHold : List Cond := .code yX2_allTestsHold cX2_allTestsHold 5 (some .boolean) :: ([.fieldLink RX2 13 "ChangerFair$Custom" "testCounts" "[I", .fieldLink RX2 17 "ChangerFair$Custom" "values" "[I", .fieldLink RX2 20 "ChangerFair$Custom" "signs" "[I", .fieldLink RX2 23 "ChangerFair$Custom" "numbers" "[I", .methodLink RX2 34 yX2_holds, .static yX2_holds, .initialized RX2, .code yX2_holds cX2_holds 3 (some .boolean)] ++ wsX20)
def wsX2_bindsFor : List Cond := .code yX2_bindsFor cX2_bindsFor 3 (some .boolean) :: ([.fieldLink RX2 26 "ChangerFair$Custom" "clauseCount" "I", .fieldLink RX2 9 "ChangerFair$Custom" "verdicts" "[Z", .methodLink RX2 30 yX2_allTestsHold, .instanceMethod yX2_allTestsHold, .selects RX2 yX2_allTestsHold yX2_allTestsHold, .initialized RX2, .code yX2_allTestsHold cX2_allTestsHold 5 (some .boolean), .fieldLink RX2 13 "ChangerFair$Custom" "testCounts" "[I", .fieldLink RX2 17 "ChangerFair$Custom" "values" "[I", .fieldLink RX2 20 "ChangerFair$Custom" "signs" "[I", .fieldLink RX2 23 "ChangerFair$Custom" "numbers" "[I", .methodLink RX2 34 yX2_holds, .static yX2_holds, .code yX2_holds cX2_holds 3 (some .boolean)] ++ wsX20)
def wsX3_init : List Cond := .code yX3_init cX3_init 1 none :: ([.methodLink RX3 1 objectInit, .instanceMethod objectInit, .code objectInit ⟨#[0xb1]⟩ 1 none, .fieldLink RX3 9 "ChangerFair$CustomReader" "faultPlace" "I", .arrayClass .int, .fieldLink RX3 13 "ChangerFair$CustomReader" "tape" "[I"] ++ wsX30)
def wsX3_hasRoomFor : List Cond := .code yX3_hasRoomFor cX3_hasRoomFor 2 (some .boolean) :: ([.fieldLink RX3 17 "ChangerFair$CustomReader" "length" "I"] ++ wsX30)
def wsX3_append : List Cond := .code yX3_append cX3_append 5 none :: ([.fieldLink RX3 17 "ChangerFair$CustomReader" "length" "I", .fieldLink RX3 13 "ChangerFair$CustomReader" "tape" "[I"] ++ wsX30)
def wsX3_isLetter : List Cond := .code yX3_isLetter cX3_isLetter 1 (some .boolean) :: ([])
def wsJ0_coder_7d493 : List Cond := .code yJ0_coder_7d493 cJ0_coder_7d493 1 (some .byte) :: ([.fieldLink RJ0 38 "java/lang/String" "COMPACT_STRINGS" "Z", .fieldLink RJ0 15 "java/lang/String" "coder" "B"])
def wsJ0_length_8abf5 : List Cond := .code yJ0_length_8abf5 cJ0_length_8abf5 1 (some .int) :: ([.fieldLink RJ0 9 "java/lang/String" "value" "[B", .methodLink RJ0 335 yJ0_coder_7d493, .instanceMethod yJ0_coder_7d493, .selects RJ0 yJ0_coder_7d493 yJ0_coder_7d493, .initialized RJ0, .code yJ0_coder_7d493 cJ0_coder_7d493 1 (some .byte), .fieldLink RJ0 38 "java/lang/String" "COMPACT_STRINGS" "Z", .fieldLink RJ0 15 "java/lang/String" "coder" "B"])
def wsJ0_isLatin1_aae02 : List Cond := .code yJ0_isLatin1_aae02 cJ0_isLatin1_aae02 1 (some .boolean) :: ([.fieldLink RJ0 38 "java/lang/String" "COMPACT_STRINGS" "Z", .fieldLink RJ0 15 "java/lang/String" "coder" "B"])
def wsJ3_checkIndex_8e157 : List Cond := .code yJ3_checkIndex_8e157 cJ3_checkIndex_8e157 3 (some .int) :: ([])
def wsJ0_checkIndex_df160 : List Cond := .code yJ0_checkIndex_df160 cJ0_checkIndex_df160 2 none :: ([.fieldLink RJ0 1053 "jdk/internal/util/Preconditions" "SIOOBE_FORMATTER" "Ljava/util/function/BiFunction;", .methodLink RJ0 1059 yJ3_checkIndex_8e157, .static yJ3_checkIndex_8e157, .initialized RJ3, .code yJ3_checkIndex_8e157 cJ3_checkIndex_8e157 3 (some .int)])
def wsJ1_charAt_3b067 : List Cond := .code yJ1_charAt_3b067 cJ1_charAt_3b067 2 (some .char) :: ([.methodLink RJ1 9 yJ0_checkIndex_df160, .static yJ0_checkIndex_df160, .initialized RJ0, .code yJ0_checkIndex_df160 cJ0_checkIndex_df160 2 none, .fieldLink RJ0 1053 "jdk/internal/util/Preconditions" "SIOOBE_FORMATTER" "Ljava/util/function/BiFunction;", .methodLink RJ0 1059 yJ3_checkIndex_8e157, .static yJ3_checkIndex_8e157, .initialized RJ3, .code yJ3_checkIndex_8e157 cJ3_checkIndex_8e157 3 (some .int)])
def wsJ2_length_9d52b : List Cond := .code yJ2_length_9d52b cJ2_length_9d52b 1 (some .int) :: ([])
def wsJ2_checkIndex_2214a : List Cond := .code yJ2_checkIndex_2214a cJ2_checkIndex_2214a 2 none :: ([.methodLink RJ2 48 yJ2_length_9d52b, .static yJ2_length_9d52b, .initialized RJ2, .code yJ2_length_9d52b cJ2_length_9d52b 1 (some .int), .methodLink RJ2 414 yJ0_checkIndex_df160, .static yJ0_checkIndex_df160, .initialized RJ0, .code yJ0_checkIndex_df160 cJ0_checkIndex_df160 2 none, .fieldLink RJ0 1053 "jdk/internal/util/Preconditions" "SIOOBE_FORMATTER" "Ljava/util/function/BiFunction;", .methodLink RJ0 1059 yJ3_checkIndex_8e157, .static yJ3_checkIndex_8e157, .initialized RJ3, .code yJ3_checkIndex_8e157 cJ3_checkIndex_8e157 3 (some .int)])
def wsJ2_getChar_3b067 : List Cond := .code yJ2_getChar_3b067 cJ2_getChar_3b067 2 (some .char) :: ([.fieldLink RJ2 44 "java/lang/StringUTF16" "$assertionsDisabled" "Z", .fieldLink RJ2 59 "java/lang/StringUTF16" "HI_BYTE_SHIFT" "I", .fieldLink RJ2 63 "java/lang/StringUTF16" "LO_BYTE_SHIFT" "I", .methodLink RJ2 48 yJ2_length_9d52b, .static yJ2_length_9d52b, .initialized RJ2, .code yJ2_length_9d52b cJ2_length_9d52b 1 (some .int)])
def wsJ2_charAt_3b067 : List Cond := .code yJ2_charAt_3b067 cJ2_charAt_3b067 2 (some .char) :: ([.methodLink RJ2 67 yJ2_checkIndex_2214a, .static yJ2_checkIndex_2214a, .initialized RJ2, .code yJ2_checkIndex_2214a cJ2_checkIndex_2214a 2 none, .methodLink RJ2 48 yJ2_length_9d52b, .static yJ2_length_9d52b, .code yJ2_length_9d52b cJ2_length_9d52b 1 (some .int), .methodLink RJ2 414 yJ0_checkIndex_df160, .static yJ0_checkIndex_df160, .initialized RJ0, .code yJ0_checkIndex_df160 cJ0_checkIndex_df160 2 none, .fieldLink RJ0 1053 "jdk/internal/util/Preconditions" "SIOOBE_FORMATTER" "Ljava/util/function/BiFunction;", .methodLink RJ0 1059 yJ3_checkIndex_8e157, .static yJ3_checkIndex_8e157, .initialized RJ3, .code yJ3_checkIndex_8e157 cJ3_checkIndex_8e157 3 (some .int), .methodLink RJ2 71 yJ2_getChar_3b067, .static yJ2_getChar_3b067, .code yJ2_getChar_3b067 cJ2_getChar_3b067 2 (some .char), .fieldLink RJ2 44 "java/lang/StringUTF16" "$assertionsDisabled" "Z", .fieldLink RJ2 59 "java/lang/StringUTF16" "HI_BYTE_SHIFT" "I", .fieldLink RJ2 63 "java/lang/StringUTF16" "LO_BYTE_SHIFT" "I"])
def wsJ0_charAt_5068e_r1 : List Cond := [Cond.fieldLink RJ0 9 "java/lang/String" "value" "[B", Cond.methodLink RJ0 492 yJ0_isLatin1_aae02, Cond.instanceMethod yJ0_isLatin1_aae02, Cond.selects RJ0 yJ0_isLatin1_aae02 yJ0_isLatin1_aae02, Cond.initialized RJ0, Cond.code yJ0_isLatin1_aae02 cJ0_isLatin1_aae02 1 (some .boolean), Cond.fieldLink RJ0 38 "java/lang/String" "COMPACT_STRINGS" "Z", Cond.fieldLink RJ0 15 "java/lang/String" "coder" "B", Cond.methodLink RJ0 495 yJ1_charAt_3b067, Cond.static yJ1_charAt_3b067, Cond.initialized RJ1, Cond.code yJ1_charAt_3b067 cJ1_charAt_3b067 2 (some .char), Cond.methodLink RJ1 9 yJ0_checkIndex_df160, Cond.static yJ0_checkIndex_df160, Cond.code yJ0_checkIndex_df160 cJ0_checkIndex_df160 2 none, Cond.fieldLink RJ0 1053 "jdk/internal/util/Preconditions" "SIOOBE_FORMATTER" "Ljava/util/function/BiFunction;", Cond.methodLink RJ0 1059 yJ3_checkIndex_8e157, Cond.static yJ3_checkIndex_8e157, Cond.initialized RJ3, Cond.code yJ3_checkIndex_8e157 cJ3_checkIndex_8e157 3 (some .int), Cond.methodLink RJ0 498 yJ2_charAt_3b067, Cond.static yJ2_charAt_3b067, Cond.initialized RJ2, Cond.code yJ2_charAt_3b067 cJ2_charAt_3b067 2 (some .char)]
def wsJ0_charAt_5068e_r2 : List Cond := [Cond.methodLink RJ2 67 yJ2_checkIndex_2214a, Cond.static yJ2_checkIndex_2214a, Cond.code yJ2_checkIndex_2214a cJ2_checkIndex_2214a 2 none, Cond.methodLink RJ2 48 yJ2_length_9d52b, Cond.static yJ2_length_9d52b, Cond.code yJ2_length_9d52b cJ2_length_9d52b 1 (some .int), Cond.methodLink RJ2 414 yJ0_checkIndex_df160, Cond.methodLink RJ2 71 yJ2_getChar_3b067, Cond.static yJ2_getChar_3b067, Cond.code yJ2_getChar_3b067 cJ2_getChar_3b067 2 (some .char), Cond.fieldLink RJ2 44 "java/lang/StringUTF16" "$assertionsDisabled" "Z", Cond.fieldLink RJ2 59 "java/lang/StringUTF16" "HI_BYTE_SHIFT" "I", Cond.fieldLink RJ2 63 "java/lang/StringUTF16" "LO_BYTE_SHIFT" "I"]
def wsJ0_charAt_5068e : List Cond := .code yJ0_charAt_5068e cJ0_charAt_5068e 2 (some .char) :: ((wsJ0_charAt_5068e_r1 ++ wsJ0_charAt_5068e_r2))
def wsX3_spells_r1 : List Cond := [Cond.fieldLink RX3 25 "ChangerFair$CustomReader" "place" "I", Cond.fieldLink RX3 32 "ChangerFair$CustomReader" "wordPlace" "I", Cond.fieldLink RX3 13 "ChangerFair$CustomReader" "tape" "[I", Cond.methodLink RX3 109 yJ0_length_8abf5, Cond.instanceMethod yJ0_length_8abf5, Cond.selects RJ0 yJ0_length_8abf5 yJ0_length_8abf5, Cond.initialized RJ0, Cond.code yJ0_length_8abf5 cJ0_length_8abf5 1 (some .int), Cond.fieldLink RJ0 9 "java/lang/String" "value" "[B", Cond.methodLink RJ0 335 yJ0_coder_7d493, Cond.instanceMethod yJ0_coder_7d493, Cond.selects RJ0 yJ0_coder_7d493 yJ0_coder_7d493, Cond.code yJ0_coder_7d493 cJ0_coder_7d493 1 (some .byte), Cond.fieldLink RJ0 38 "java/lang/String" "COMPACT_STRINGS" "Z", Cond.fieldLink RJ0 15 "java/lang/String" "coder" "B", Cond.methodLink RX3 113 yJ0_charAt_5068e, Cond.instanceMethod yJ0_charAt_5068e, Cond.selects RJ0 yJ0_charAt_5068e yJ0_charAt_5068e, Cond.code yJ0_charAt_5068e cJ0_charAt_5068e 2 (some .char), Cond.methodLink RJ0 492 yJ0_isLatin1_aae02, Cond.instanceMethod yJ0_isLatin1_aae02, Cond.selects RJ0 yJ0_isLatin1_aae02 yJ0_isLatin1_aae02, Cond.code yJ0_isLatin1_aae02 cJ0_isLatin1_aae02 1 (some .boolean), Cond.methodLink RJ0 495 yJ1_charAt_3b067]
def wsX3_spells_r2 : List Cond := [Cond.static yJ1_charAt_3b067, Cond.initialized RJ1, Cond.code yJ1_charAt_3b067 cJ1_charAt_3b067 2 (some .char), Cond.methodLink RJ1 9 yJ0_checkIndex_df160, Cond.static yJ0_checkIndex_df160, Cond.code yJ0_checkIndex_df160 cJ0_checkIndex_df160 2 none, Cond.fieldLink RJ0 1053 "jdk/internal/util/Preconditions" "SIOOBE_FORMATTER" "Ljava/util/function/BiFunction;", Cond.methodLink RJ0 1059 yJ3_checkIndex_8e157, Cond.static yJ3_checkIndex_8e157, Cond.initialized RJ3, Cond.code yJ3_checkIndex_8e157 cJ3_checkIndex_8e157 3 (some .int), Cond.methodLink RJ0 498 yJ2_charAt_3b067, Cond.static yJ2_charAt_3b067, Cond.initialized RJ2, Cond.code yJ2_charAt_3b067 cJ2_charAt_3b067 2 (some .char), Cond.methodLink RJ2 67 yJ2_checkIndex_2214a, Cond.static yJ2_checkIndex_2214a, Cond.code yJ2_checkIndex_2214a cJ2_checkIndex_2214a 2 none, Cond.methodLink RJ2 48 yJ2_length_9d52b, Cond.static yJ2_length_9d52b, Cond.code yJ2_length_9d52b cJ2_length_9d52b 1 (some .int), Cond.methodLink RJ2 414 yJ0_checkIndex_df160, Cond.methodLink RJ2 71 yJ2_getChar_3b067, Cond.static yJ2_getChar_3b067]
def wsX3_spells_r3 : List Cond := [Cond.code yJ2_getChar_3b067 cJ2_getChar_3b067 2 (some .char), Cond.fieldLink RJ2 44 "java/lang/StringUTF16" "$assertionsDisabled" "Z", Cond.fieldLink RJ2 59 "java/lang/StringUTF16" "HI_BYTE_SHIFT" "I", Cond.fieldLink RJ2 63 "java/lang/StringUTF16" "LO_BYTE_SHIFT" "I"]
def wsX3_spells : List Cond := .code yX3_spells cX3_spells 3 (some .boolean) :: ((wsX3_spells_r1 ++ (wsX3_spells_r2 ++ wsX3_spells_r3)) ++ wsX30)
def wsX3_letterWord_r1 : List Cond := [Cond.methodLink RX3 89 yX3_spells, Cond.instanceMethod yX3_spells, Cond.selects RX3 yX3_spells yX3_spells, Cond.initialized RX3, Cond.code yX3_spells cX3_spells 3 (some .boolean), Cond.fieldLink RX3 25 "ChangerFair$CustomReader" "place" "I", Cond.fieldLink RX3 32 "ChangerFair$CustomReader" "wordPlace" "I", Cond.fieldLink RX3 13 "ChangerFair$CustomReader" "tape" "[I", Cond.methodLink RX3 109 yJ0_length_8abf5, Cond.instanceMethod yJ0_length_8abf5, Cond.selects RJ0 yJ0_length_8abf5 yJ0_length_8abf5, Cond.initialized RJ0, Cond.code yJ0_length_8abf5 cJ0_length_8abf5 1 (some .int), Cond.fieldLink RJ0 9 "java/lang/String" "value" "[B", Cond.methodLink RJ0 335 yJ0_coder_7d493, Cond.instanceMethod yJ0_coder_7d493, Cond.selects RJ0 yJ0_coder_7d493 yJ0_coder_7d493, Cond.code yJ0_coder_7d493 cJ0_coder_7d493 1 (some .byte), Cond.fieldLink RJ0 38 "java/lang/String" "COMPACT_STRINGS" "Z", Cond.fieldLink RJ0 15 "java/lang/String" "coder" "B", Cond.methodLink RX3 113 yJ0_charAt_5068e, Cond.instanceMethod yJ0_charAt_5068e, Cond.selects RJ0 yJ0_charAt_5068e yJ0_charAt_5068e, Cond.code yJ0_charAt_5068e cJ0_charAt_5068e 2 (some .char)]
def wsX3_letterWord_r2 : List Cond := [Cond.methodLink RJ0 492 yJ0_isLatin1_aae02, Cond.instanceMethod yJ0_isLatin1_aae02, Cond.selects RJ0 yJ0_isLatin1_aae02 yJ0_isLatin1_aae02, Cond.code yJ0_isLatin1_aae02 cJ0_isLatin1_aae02 1 (some .boolean), Cond.methodLink RJ0 495 yJ1_charAt_3b067, Cond.static yJ1_charAt_3b067, Cond.initialized RJ1, Cond.code yJ1_charAt_3b067 cJ1_charAt_3b067 2 (some .char), Cond.methodLink RJ1 9 yJ0_checkIndex_df160, Cond.static yJ0_checkIndex_df160, Cond.code yJ0_checkIndex_df160 cJ0_checkIndex_df160 2 none, Cond.fieldLink RJ0 1053 "jdk/internal/util/Preconditions" "SIOOBE_FORMATTER" "Ljava/util/function/BiFunction;", Cond.methodLink RJ0 1059 yJ3_checkIndex_8e157, Cond.static yJ3_checkIndex_8e157, Cond.initialized RJ3, Cond.code yJ3_checkIndex_8e157 cJ3_checkIndex_8e157 3 (some .int), Cond.methodLink RJ0 498 yJ2_charAt_3b067, Cond.static yJ2_charAt_3b067, Cond.initialized RJ2, Cond.code yJ2_charAt_3b067 cJ2_charAt_3b067 2 (some .char), Cond.methodLink RJ2 67 yJ2_checkIndex_2214a, Cond.static yJ2_checkIndex_2214a, Cond.code yJ2_checkIndex_2214a cJ2_checkIndex_2214a 2 none, Cond.methodLink RJ2 48 yJ2_length_9d52b]
def wsX3_letterWord_r3 : List Cond := [Cond.static yJ2_length_9d52b, Cond.code yJ2_length_9d52b cJ2_length_9d52b 1 (some .int), Cond.methodLink RJ2 414 yJ0_checkIndex_df160, Cond.methodLink RJ2 71 yJ2_getChar_3b067, Cond.static yJ2_getChar_3b067, Cond.code yJ2_getChar_3b067 cJ2_getChar_3b067 2 (some .char), Cond.fieldLink RJ2 44 "java/lang/StringUTF16" "$assertionsDisabled" "Z", Cond.fieldLink RJ2 59 "java/lang/StringUTF16" "HI_BYTE_SHIFT" "I", Cond.fieldLink RJ2 63 "java/lang/StringUTF16" "LO_BYTE_SHIFT" "I"]
def wsX3_letterWord : List Cond := .code yX3_letterWord cX3_letterWord 1 (some .int) :: ((wsX3_letterWord_r1 ++ (wsX3_letterWord_r2 ++ wsX3_letterWord_r3)) ++ wsX30)
def wsX3_readLetters_r1 : List Cond := [Cond.fieldLink RX3 25 "ChangerFair$CustomReader" "place" "I", Cond.fieldLink RX3 17 "ChangerFair$CustomReader" "length" "I", Cond.fieldLink RX3 13 "ChangerFair$CustomReader" "tape" "[I", Cond.fieldLink RX3 38 "ChangerFair$CustomReader" "word" "I", Cond.methodLink RX3 59 yX3_isLetter, Cond.static yX3_isLetter, Cond.initialized RX3, Cond.code yX3_isLetter cX3_isLetter 1 (some .boolean), Cond.methodLink RX3 83 yX3_letterWord, Cond.instanceMethod yX3_letterWord, Cond.selects RX3 yX3_letterWord yX3_letterWord, Cond.code yX3_letterWord cX3_letterWord 1 (some .int), Cond.methodLink RX3 89 yX3_spells, Cond.instanceMethod yX3_spells, Cond.selects RX3 yX3_spells yX3_spells, Cond.code yX3_spells cX3_spells 3 (some .boolean), Cond.fieldLink RX3 32 "ChangerFair$CustomReader" "wordPlace" "I", Cond.methodLink RX3 109 yJ0_length_8abf5, Cond.instanceMethod yJ0_length_8abf5, Cond.selects RJ0 yJ0_length_8abf5 yJ0_length_8abf5, Cond.initialized RJ0, Cond.code yJ0_length_8abf5 cJ0_length_8abf5 1 (some .int), Cond.fieldLink RJ0 9 "java/lang/String" "value" "[B", Cond.methodLink RJ0 335 yJ0_coder_7d493]
def wsX3_readLetters_r2 : List Cond := [Cond.instanceMethod yJ0_coder_7d493, Cond.selects RJ0 yJ0_coder_7d493 yJ0_coder_7d493, Cond.code yJ0_coder_7d493 cJ0_coder_7d493 1 (some .byte), Cond.fieldLink RJ0 38 "java/lang/String" "COMPACT_STRINGS" "Z", Cond.fieldLink RJ0 15 "java/lang/String" "coder" "B", Cond.methodLink RX3 113 yJ0_charAt_5068e, Cond.instanceMethod yJ0_charAt_5068e, Cond.selects RJ0 yJ0_charAt_5068e yJ0_charAt_5068e, Cond.code yJ0_charAt_5068e cJ0_charAt_5068e 2 (some .char), Cond.methodLink RJ0 492 yJ0_isLatin1_aae02, Cond.instanceMethod yJ0_isLatin1_aae02, Cond.selects RJ0 yJ0_isLatin1_aae02 yJ0_isLatin1_aae02, Cond.code yJ0_isLatin1_aae02 cJ0_isLatin1_aae02 1 (some .boolean), Cond.methodLink RJ0 495 yJ1_charAt_3b067, Cond.static yJ1_charAt_3b067, Cond.initialized RJ1, Cond.code yJ1_charAt_3b067 cJ1_charAt_3b067 2 (some .char), Cond.methodLink RJ1 9 yJ0_checkIndex_df160, Cond.static yJ0_checkIndex_df160, Cond.code yJ0_checkIndex_df160 cJ0_checkIndex_df160 2 none, Cond.fieldLink RJ0 1053 "jdk/internal/util/Preconditions" "SIOOBE_FORMATTER" "Ljava/util/function/BiFunction;", Cond.methodLink RJ0 1059 yJ3_checkIndex_8e157, Cond.static yJ3_checkIndex_8e157, Cond.initialized RJ3]
def wsX3_readLetters_r3 : List Cond := [Cond.code yJ3_checkIndex_8e157 cJ3_checkIndex_8e157 3 (some .int), Cond.methodLink RJ0 498 yJ2_charAt_3b067, Cond.static yJ2_charAt_3b067, Cond.initialized RJ2, Cond.code yJ2_charAt_3b067 cJ2_charAt_3b067 2 (some .char), Cond.methodLink RJ2 67 yJ2_checkIndex_2214a, Cond.static yJ2_checkIndex_2214a, Cond.code yJ2_checkIndex_2214a cJ2_checkIndex_2214a 2 none, Cond.methodLink RJ2 48 yJ2_length_9d52b, Cond.static yJ2_length_9d52b, Cond.code yJ2_length_9d52b cJ2_length_9d52b 1 (some .int), Cond.methodLink RJ2 414 yJ0_checkIndex_df160, Cond.methodLink RJ2 71 yJ2_getChar_3b067, Cond.static yJ2_getChar_3b067, Cond.code yJ2_getChar_3b067 cJ2_getChar_3b067 2 (some .char), Cond.fieldLink RJ2 44 "java/lang/StringUTF16" "$assertionsDisabled" "Z", Cond.fieldLink RJ2 59 "java/lang/StringUTF16" "HI_BYTE_SHIFT" "I", Cond.fieldLink RJ2 63 "java/lang/StringUTF16" "LO_BYTE_SHIFT" "I"]
def wsX3_readLetters : List Cond := .code yX3_readLetters cX3_readLetters 1 none :: ((wsX3_readLetters_r1 ++ (wsX3_readLetters_r2 ++ wsX3_readLetters_r3)) ++ wsX30)
def wsX3_isFigure : List Cond := .code yX3_isFigure cX3_isFigure 1 (some .boolean) :: ([])
def wsX3_readFigures : List Cond := .code yX3_readFigures cX3_readFigures 1 none :: ([.fieldLink RX3 38 "ChangerFair$CustomReader" "word" "I", .fieldLink RX3 51 "ChangerFair$CustomReader" "number" "I", .fieldLink RX3 25 "ChangerFair$CustomReader" "place" "I", .fieldLink RX3 17 "ChangerFair$CustomReader" "length" "I", .fieldLink RX3 13 "ChangerFair$CustomReader" "tape" "[I", .constant RX3 76 (1000000), .methodLink RX3 77 Lib.Math.min.name, .static Lib.Math.min.name, .initialized "java/lang/Math", .code Lib.Math.min.name Lib.Math.min.code 2 (some .int), .methodLink RX3 66 yX3_isFigure, .static yX3_isFigure, .initialized RX3, .code yX3_isFigure cX3_isFigure 1 (some .boolean)] ++ wsX30)
def wsX3_signWord : List Cond := .code yX3_signWord cX3_signWord 1 (some .int) :: ([])
def wsX3_nextWord_r1 : List Cond := [Cond.fieldLink RX3 25 "ChangerFair$CustomReader" "place" "I", Cond.fieldLink RX3 17 "ChangerFair$CustomReader" "length" "I", Cond.fieldLink RX3 13 "ChangerFair$CustomReader" "tape" "[I", Cond.fieldLink RX3 32 "ChangerFair$CustomReader" "wordPlace" "I", Cond.fieldLink RX3 38 "ChangerFair$CustomReader" "word" "I", Cond.methodLink RX3 59 yX3_isLetter, Cond.static yX3_isLetter, Cond.initialized RX3, Cond.code yX3_isLetter cX3_isLetter 1 (some .boolean), Cond.methodLink RX3 63 yX3_readLetters, Cond.instanceMethod yX3_readLetters, Cond.selects RX3 yX3_readLetters yX3_readLetters, Cond.code yX3_readLetters cX3_readLetters 1 none, Cond.methodLink RX3 83 yX3_letterWord, Cond.instanceMethod yX3_letterWord, Cond.selects RX3 yX3_letterWord yX3_letterWord, Cond.code yX3_letterWord cX3_letterWord 1 (some .int), Cond.methodLink RX3 89 yX3_spells, Cond.instanceMethod yX3_spells, Cond.selects RX3 yX3_spells yX3_spells, Cond.code yX3_spells cX3_spells 3 (some .boolean), Cond.methodLink RX3 109 yJ0_length_8abf5, Cond.instanceMethod yJ0_length_8abf5, Cond.selects RJ0 yJ0_length_8abf5 yJ0_length_8abf5]
def wsX3_nextWord_r2 : List Cond := [Cond.initialized RJ0, Cond.code yJ0_length_8abf5 cJ0_length_8abf5 1 (some .int), Cond.fieldLink RJ0 9 "java/lang/String" "value" "[B", Cond.methodLink RJ0 335 yJ0_coder_7d493, Cond.instanceMethod yJ0_coder_7d493, Cond.selects RJ0 yJ0_coder_7d493 yJ0_coder_7d493, Cond.code yJ0_coder_7d493 cJ0_coder_7d493 1 (some .byte), Cond.fieldLink RJ0 38 "java/lang/String" "COMPACT_STRINGS" "Z", Cond.fieldLink RJ0 15 "java/lang/String" "coder" "B", Cond.methodLink RX3 113 yJ0_charAt_5068e, Cond.instanceMethod yJ0_charAt_5068e, Cond.selects RJ0 yJ0_charAt_5068e yJ0_charAt_5068e, Cond.code yJ0_charAt_5068e cJ0_charAt_5068e 2 (some .char), Cond.methodLink RJ0 492 yJ0_isLatin1_aae02, Cond.instanceMethod yJ0_isLatin1_aae02, Cond.selects RJ0 yJ0_isLatin1_aae02 yJ0_isLatin1_aae02, Cond.code yJ0_isLatin1_aae02 cJ0_isLatin1_aae02 1 (some .boolean), Cond.methodLink RJ0 495 yJ1_charAt_3b067, Cond.static yJ1_charAt_3b067, Cond.initialized RJ1, Cond.code yJ1_charAt_3b067 cJ1_charAt_3b067 2 (some .char), Cond.methodLink RJ1 9 yJ0_checkIndex_df160, Cond.static yJ0_checkIndex_df160, Cond.code yJ0_checkIndex_df160 cJ0_checkIndex_df160 2 none]
def wsX3_nextWord_r3 : List Cond := [Cond.fieldLink RJ0 1053 "jdk/internal/util/Preconditions" "SIOOBE_FORMATTER" "Ljava/util/function/BiFunction;", Cond.methodLink RJ0 1059 yJ3_checkIndex_8e157, Cond.static yJ3_checkIndex_8e157, Cond.initialized RJ3, Cond.code yJ3_checkIndex_8e157 cJ3_checkIndex_8e157 3 (some .int), Cond.methodLink RJ0 498 yJ2_charAt_3b067, Cond.static yJ2_charAt_3b067, Cond.initialized RJ2, Cond.code yJ2_charAt_3b067 cJ2_charAt_3b067 2 (some .char), Cond.methodLink RJ2 67 yJ2_checkIndex_2214a, Cond.static yJ2_checkIndex_2214a, Cond.code yJ2_checkIndex_2214a cJ2_checkIndex_2214a 2 none, Cond.methodLink RJ2 48 yJ2_length_9d52b, Cond.static yJ2_length_9d52b, Cond.code yJ2_length_9d52b cJ2_length_9d52b 1 (some .int), Cond.methodLink RJ2 414 yJ0_checkIndex_df160, Cond.methodLink RJ2 71 yJ2_getChar_3b067, Cond.static yJ2_getChar_3b067, Cond.code yJ2_getChar_3b067 cJ2_getChar_3b067 2 (some .char), Cond.fieldLink RJ2 44 "java/lang/StringUTF16" "$assertionsDisabled" "Z", Cond.fieldLink RJ2 59 "java/lang/StringUTF16" "HI_BYTE_SHIFT" "I", Cond.fieldLink RJ2 63 "java/lang/StringUTF16" "LO_BYTE_SHIFT" "I", Cond.methodLink RX3 66 yX3_isFigure, Cond.static yX3_isFigure]
def wsX3_nextWord_r4 : List Cond := [Cond.code yX3_isFigure cX3_isFigure 1 (some .boolean), Cond.methodLink RX3 69 yX3_readFigures, Cond.instanceMethod yX3_readFigures, Cond.selects RX3 yX3_readFigures yX3_readFigures, Cond.code yX3_readFigures cX3_readFigures 1 none, Cond.fieldLink RX3 51 "ChangerFair$CustomReader" "number" "I", Cond.constant RX3 76 (1000000), Cond.methodLink RX3 77 Lib.Math.min.name, Cond.static Lib.Math.min.name, Cond.initialized "java/lang/Math", Cond.code Lib.Math.min.name Lib.Math.min.code 2 (some .int), Cond.methodLink RX3 72 yX3_signWord, Cond.static yX3_signWord, Cond.code yX3_signWord cX3_signWord 1 (some .int)]
def wsX3_nextWord : List Cond := .code yX3_nextWord cX3_nextWord 1 none :: ((wsX3_nextWord_r1 ++ (wsX3_nextWord_r2 ++ (wsX3_nextWord_r3 ++ wsX3_nextWord_r4))) ++ wsX30)
def wsX3_readTest_r1 : List Cond := [Cond.fieldLink RX3 38 "ChangerFair$CustomReader" "word" "I", Cond.fieldLink RX3 51 "ChangerFair$CustomReader" "number" "I", Cond.constant RX3 54 (999999), Cond.methodLink RX3 35 yX3_nextWord, Cond.instanceMethod yX3_nextWord, Cond.selects RX3 yX3_nextWord yX3_nextWord, Cond.initialized RX3, Cond.code yX3_nextWord cX3_nextWord 1 none, Cond.fieldLink RX3 25 "ChangerFair$CustomReader" "place" "I", Cond.fieldLink RX3 17 "ChangerFair$CustomReader" "length" "I", Cond.fieldLink RX3 13 "ChangerFair$CustomReader" "tape" "[I", Cond.fieldLink RX3 32 "ChangerFair$CustomReader" "wordPlace" "I", Cond.methodLink RX3 59 yX3_isLetter, Cond.static yX3_isLetter, Cond.code yX3_isLetter cX3_isLetter 1 (some .boolean), Cond.methodLink RX3 63 yX3_readLetters, Cond.instanceMethod yX3_readLetters, Cond.selects RX3 yX3_readLetters yX3_readLetters, Cond.code yX3_readLetters cX3_readLetters 1 none, Cond.methodLink RX3 83 yX3_letterWord, Cond.instanceMethod yX3_letterWord, Cond.selects RX3 yX3_letterWord yX3_letterWord, Cond.code yX3_letterWord cX3_letterWord 1 (some .int), Cond.methodLink RX3 89 yX3_spells]
def wsX3_readTest_r2 : List Cond := [Cond.instanceMethod yX3_spells, Cond.selects RX3 yX3_spells yX3_spells, Cond.code yX3_spells cX3_spells 3 (some .boolean), Cond.methodLink RX3 109 yJ0_length_8abf5, Cond.instanceMethod yJ0_length_8abf5, Cond.selects RJ0 yJ0_length_8abf5 yJ0_length_8abf5, Cond.initialized RJ0, Cond.code yJ0_length_8abf5 cJ0_length_8abf5 1 (some .int), Cond.fieldLink RJ0 9 "java/lang/String" "value" "[B", Cond.methodLink RJ0 335 yJ0_coder_7d493, Cond.instanceMethod yJ0_coder_7d493, Cond.selects RJ0 yJ0_coder_7d493 yJ0_coder_7d493, Cond.code yJ0_coder_7d493 cJ0_coder_7d493 1 (some .byte), Cond.fieldLink RJ0 38 "java/lang/String" "COMPACT_STRINGS" "Z", Cond.fieldLink RJ0 15 "java/lang/String" "coder" "B", Cond.methodLink RX3 113 yJ0_charAt_5068e, Cond.instanceMethod yJ0_charAt_5068e, Cond.selects RJ0 yJ0_charAt_5068e yJ0_charAt_5068e, Cond.code yJ0_charAt_5068e cJ0_charAt_5068e 2 (some .char), Cond.methodLink RJ0 492 yJ0_isLatin1_aae02, Cond.instanceMethod yJ0_isLatin1_aae02, Cond.selects RJ0 yJ0_isLatin1_aae02 yJ0_isLatin1_aae02, Cond.code yJ0_isLatin1_aae02 cJ0_isLatin1_aae02 1 (some .boolean), Cond.methodLink RJ0 495 yJ1_charAt_3b067]
def wsX3_readTest_r3 : List Cond := [Cond.static yJ1_charAt_3b067, Cond.initialized RJ1, Cond.code yJ1_charAt_3b067 cJ1_charAt_3b067 2 (some .char), Cond.methodLink RJ1 9 yJ0_checkIndex_df160, Cond.static yJ0_checkIndex_df160, Cond.code yJ0_checkIndex_df160 cJ0_checkIndex_df160 2 none, Cond.fieldLink RJ0 1053 "jdk/internal/util/Preconditions" "SIOOBE_FORMATTER" "Ljava/util/function/BiFunction;", Cond.methodLink RJ0 1059 yJ3_checkIndex_8e157, Cond.static yJ3_checkIndex_8e157, Cond.initialized RJ3, Cond.code yJ3_checkIndex_8e157 cJ3_checkIndex_8e157 3 (some .int), Cond.methodLink RJ0 498 yJ2_charAt_3b067, Cond.static yJ2_charAt_3b067, Cond.initialized RJ2, Cond.code yJ2_charAt_3b067 cJ2_charAt_3b067 2 (some .char), Cond.methodLink RJ2 67 yJ2_checkIndex_2214a, Cond.static yJ2_checkIndex_2214a, Cond.code yJ2_checkIndex_2214a cJ2_checkIndex_2214a 2 none, Cond.methodLink RJ2 48 yJ2_length_9d52b, Cond.static yJ2_length_9d52b, Cond.code yJ2_length_9d52b cJ2_length_9d52b 1 (some .int), Cond.methodLink RJ2 414 yJ0_checkIndex_df160, Cond.methodLink RJ2 71 yJ2_getChar_3b067, Cond.static yJ2_getChar_3b067]
def wsX3_readTest_r4 : List Cond := [Cond.code yJ2_getChar_3b067 cJ2_getChar_3b067 2 (some .char), Cond.fieldLink RJ2 44 "java/lang/StringUTF16" "$assertionsDisabled" "Z", Cond.fieldLink RJ2 59 "java/lang/StringUTF16" "HI_BYTE_SHIFT" "I", Cond.fieldLink RJ2 63 "java/lang/StringUTF16" "LO_BYTE_SHIFT" "I", Cond.methodLink RX3 66 yX3_isFigure, Cond.static yX3_isFigure, Cond.code yX3_isFigure cX3_isFigure 1 (some .boolean), Cond.methodLink RX3 69 yX3_readFigures, Cond.instanceMethod yX3_readFigures, Cond.selects RX3 yX3_readFigures yX3_readFigures, Cond.code yX3_readFigures cX3_readFigures 1 none, Cond.constant RX3 76 (1000000), Cond.methodLink RX3 77 Lib.Math.min.name, Cond.static Lib.Math.min.name, Cond.initialized "java/lang/Math", Cond.code Lib.Math.min.name Lib.Math.min.code 2 (some .int), Cond.methodLink RX3 72 yX3_signWord, Cond.static yX3_signWord, Cond.code yX3_signWord cX3_signWord 1 (some .int), Cond.methodLink RX3 55 yX2_addTest, Cond.instanceMethod yX2_addTest, Cond.selects RX2 yX2_addTest yX2_addTest, Cond.initialized RX2, Cond.code yX2_addTest cX2_addTest 6 none]
def wsX3_readTest_r5 : List Cond := [Cond.fieldLink RX2 26 "ChangerFair$Custom" "clauseCount" "I", Cond.fieldLink RX2 13 "ChangerFair$Custom" "testCounts" "[I", Cond.fieldLink RX2 17 "ChangerFair$Custom" "values" "[I", Cond.fieldLink RX2 20 "ChangerFair$Custom" "signs" "[I", Cond.fieldLink RX2 23 "ChangerFair$Custom" "numbers" "[I"]
def wsX3_readTest : List Cond := .code yX3_readTest cX3_readTest 4 (some .boolean) :: ((wsX3_readTest_r1 ++ (wsX3_readTest_r2 ++ (wsX3_readTest_r3 ++ (wsX3_readTest_r4 ++ wsX3_readTest_r5)))) ++ wsX30 ++ wsX20)
def wsX3_readClause_r1 : List Cond := [Cond.fieldLink RX3 38 "ChangerFair$CustomReader" "word" "I", Cond.methodLink RX3 44 yX2_addClause, Cond.instanceMethod yX2_addClause, Cond.selects RX2 yX2_addClause yX2_addClause, Cond.initialized RX2, Cond.code yX2_addClause cX2_addClause 2 none, Cond.fieldLink RX2 26 "ChangerFair$Custom" "clauseCount" "I", Cond.fieldLink RX2 9 "ChangerFair$Custom" "verdicts" "[Z", Cond.fieldLink RX2 13 "ChangerFair$Custom" "testCounts" "[I", Cond.methodLink RX3 35 yX3_nextWord, Cond.instanceMethod yX3_nextWord, Cond.selects RX3 yX3_nextWord yX3_nextWord, Cond.initialized RX3, Cond.code yX3_nextWord cX3_nextWord 1 none, Cond.fieldLink RX3 25 "ChangerFair$CustomReader" "place" "I", Cond.fieldLink RX3 17 "ChangerFair$CustomReader" "length" "I", Cond.fieldLink RX3 13 "ChangerFair$CustomReader" "tape" "[I", Cond.fieldLink RX3 32 "ChangerFair$CustomReader" "wordPlace" "I", Cond.methodLink RX3 59 yX3_isLetter, Cond.static yX3_isLetter, Cond.code yX3_isLetter cX3_isLetter 1 (some .boolean), Cond.methodLink RX3 63 yX3_readLetters, Cond.instanceMethod yX3_readLetters, Cond.selects RX3 yX3_readLetters yX3_readLetters]
def wsX3_readClause_r2 : List Cond := [Cond.code yX3_readLetters cX3_readLetters 1 none, Cond.methodLink RX3 83 yX3_letterWord, Cond.instanceMethod yX3_letterWord, Cond.selects RX3 yX3_letterWord yX3_letterWord, Cond.code yX3_letterWord cX3_letterWord 1 (some .int), Cond.methodLink RX3 89 yX3_spells, Cond.instanceMethod yX3_spells, Cond.selects RX3 yX3_spells yX3_spells, Cond.code yX3_spells cX3_spells 3 (some .boolean), Cond.methodLink RX3 109 yJ0_length_8abf5, Cond.instanceMethod yJ0_length_8abf5, Cond.selects RJ0 yJ0_length_8abf5 yJ0_length_8abf5, Cond.initialized RJ0, Cond.code yJ0_length_8abf5 cJ0_length_8abf5 1 (some .int), Cond.fieldLink RJ0 9 "java/lang/String" "value" "[B", Cond.methodLink RJ0 335 yJ0_coder_7d493, Cond.instanceMethod yJ0_coder_7d493, Cond.selects RJ0 yJ0_coder_7d493 yJ0_coder_7d493, Cond.code yJ0_coder_7d493 cJ0_coder_7d493 1 (some .byte), Cond.fieldLink RJ0 38 "java/lang/String" "COMPACT_STRINGS" "Z", Cond.fieldLink RJ0 15 "java/lang/String" "coder" "B", Cond.methodLink RX3 113 yJ0_charAt_5068e, Cond.instanceMethod yJ0_charAt_5068e, Cond.selects RJ0 yJ0_charAt_5068e yJ0_charAt_5068e]
def wsX3_readClause_r3 : List Cond := [Cond.code yJ0_charAt_5068e cJ0_charAt_5068e 2 (some .char), Cond.methodLink RJ0 492 yJ0_isLatin1_aae02, Cond.instanceMethod yJ0_isLatin1_aae02, Cond.selects RJ0 yJ0_isLatin1_aae02 yJ0_isLatin1_aae02, Cond.code yJ0_isLatin1_aae02 cJ0_isLatin1_aae02 1 (some .boolean), Cond.methodLink RJ0 495 yJ1_charAt_3b067, Cond.static yJ1_charAt_3b067, Cond.initialized RJ1, Cond.code yJ1_charAt_3b067 cJ1_charAt_3b067 2 (some .char), Cond.methodLink RJ1 9 yJ0_checkIndex_df160, Cond.static yJ0_checkIndex_df160, Cond.code yJ0_checkIndex_df160 cJ0_checkIndex_df160 2 none, Cond.fieldLink RJ0 1053 "jdk/internal/util/Preconditions" "SIOOBE_FORMATTER" "Ljava/util/function/BiFunction;", Cond.methodLink RJ0 1059 yJ3_checkIndex_8e157, Cond.static yJ3_checkIndex_8e157, Cond.initialized RJ3, Cond.code yJ3_checkIndex_8e157 cJ3_checkIndex_8e157 3 (some .int), Cond.methodLink RJ0 498 yJ2_charAt_3b067, Cond.static yJ2_charAt_3b067, Cond.initialized RJ2, Cond.code yJ2_charAt_3b067 cJ2_charAt_3b067 2 (some .char), Cond.methodLink RJ2 67 yJ2_checkIndex_2214a, Cond.static yJ2_checkIndex_2214a, Cond.code yJ2_checkIndex_2214a cJ2_checkIndex_2214a 2 none]
def wsX3_readClause_r4 : List Cond := [Cond.methodLink RJ2 48 yJ2_length_9d52b, Cond.static yJ2_length_9d52b, Cond.code yJ2_length_9d52b cJ2_length_9d52b 1 (some .int), Cond.methodLink RJ2 414 yJ0_checkIndex_df160, Cond.methodLink RJ2 71 yJ2_getChar_3b067, Cond.static yJ2_getChar_3b067, Cond.code yJ2_getChar_3b067 cJ2_getChar_3b067 2 (some .char), Cond.fieldLink RJ2 44 "java/lang/StringUTF16" "$assertionsDisabled" "Z", Cond.fieldLink RJ2 59 "java/lang/StringUTF16" "HI_BYTE_SHIFT" "I", Cond.fieldLink RJ2 63 "java/lang/StringUTF16" "LO_BYTE_SHIFT" "I", Cond.methodLink RX3 66 yX3_isFigure, Cond.static yX3_isFigure, Cond.code yX3_isFigure cX3_isFigure 1 (some .boolean), Cond.methodLink RX3 69 yX3_readFigures, Cond.instanceMethod yX3_readFigures, Cond.selects RX3 yX3_readFigures yX3_readFigures, Cond.code yX3_readFigures cX3_readFigures 1 none, Cond.fieldLink RX3 51 "ChangerFair$CustomReader" "number" "I", Cond.constant RX3 76 (1000000), Cond.methodLink RX3 77 Lib.Math.min.name, Cond.static Lib.Math.min.name, Cond.initialized "java/lang/Math", Cond.code Lib.Math.min.name Lib.Math.min.code 2 (some .int), Cond.methodLink RX3 72 yX3_signWord]
def wsX3_readClause_r5 : List Cond := [Cond.static yX3_signWord, Cond.code yX3_signWord cX3_signWord 1 (some .int), Cond.methodLink RX3 48 yX3_readTest, Cond.instanceMethod yX3_readTest, Cond.selects RX3 yX3_readTest yX3_readTest, Cond.code yX3_readTest cX3_readTest 4 (some .boolean), Cond.constant RX3 54 (999999), Cond.methodLink RX3 55 yX2_addTest, Cond.instanceMethod yX2_addTest, Cond.selects RX2 yX2_addTest yX2_addTest, Cond.code yX2_addTest cX2_addTest 6 none, Cond.fieldLink RX2 17 "ChangerFair$Custom" "values" "[I", Cond.fieldLink RX2 20 "ChangerFair$Custom" "signs" "[I", Cond.fieldLink RX2 23 "ChangerFair$Custom" "numbers" "[I"]
def wsX3_readClause : List Cond := .code yX3_readClause cX3_readClause 3 (some .boolean) :: ((wsX3_readClause_r1 ++ (wsX3_readClause_r2 ++ (wsX3_readClause_r3 ++ (wsX3_readClause_r4 ++ wsX3_readClause_r5)))) ++ wsX30 ++ wsX20)
def wsX3_readText_r1 : List Cond := [Cond.fieldLink RX3 38 "ChangerFair$CustomReader" "word" "I", Cond.methodLink RX3 35 yX3_nextWord, Cond.instanceMethod yX3_nextWord, Cond.selects RX3 yX3_nextWord yX3_nextWord, Cond.initialized RX3, Cond.code yX3_nextWord cX3_nextWord 1 none, Cond.fieldLink RX3 25 "ChangerFair$CustomReader" "place" "I", Cond.fieldLink RX3 17 "ChangerFair$CustomReader" "length" "I", Cond.fieldLink RX3 13 "ChangerFair$CustomReader" "tape" "[I", Cond.fieldLink RX3 32 "ChangerFair$CustomReader" "wordPlace" "I", Cond.methodLink RX3 59 yX3_isLetter, Cond.static yX3_isLetter, Cond.code yX3_isLetter cX3_isLetter 1 (some .boolean), Cond.methodLink RX3 63 yX3_readLetters, Cond.instanceMethod yX3_readLetters, Cond.selects RX3 yX3_readLetters yX3_readLetters, Cond.code yX3_readLetters cX3_readLetters 1 none, Cond.methodLink RX3 83 yX3_letterWord, Cond.instanceMethod yX3_letterWord, Cond.selects RX3 yX3_letterWord yX3_letterWord, Cond.code yX3_letterWord cX3_letterWord 1 (some .int), Cond.methodLink RX3 89 yX3_spells, Cond.instanceMethod yX3_spells, Cond.selects RX3 yX3_spells yX3_spells]
def wsX3_readText_r2 : List Cond := [Cond.code yX3_spells cX3_spells 3 (some .boolean), Cond.methodLink RX3 109 yJ0_length_8abf5, Cond.instanceMethod yJ0_length_8abf5, Cond.selects RJ0 yJ0_length_8abf5 yJ0_length_8abf5, Cond.initialized RJ0, Cond.code yJ0_length_8abf5 cJ0_length_8abf5 1 (some .int), Cond.fieldLink RJ0 9 "java/lang/String" "value" "[B", Cond.methodLink RJ0 335 yJ0_coder_7d493, Cond.instanceMethod yJ0_coder_7d493, Cond.selects RJ0 yJ0_coder_7d493 yJ0_coder_7d493, Cond.code yJ0_coder_7d493 cJ0_coder_7d493 1 (some .byte), Cond.fieldLink RJ0 38 "java/lang/String" "COMPACT_STRINGS" "Z", Cond.fieldLink RJ0 15 "java/lang/String" "coder" "B", Cond.methodLink RX3 113 yJ0_charAt_5068e, Cond.instanceMethod yJ0_charAt_5068e, Cond.selects RJ0 yJ0_charAt_5068e yJ0_charAt_5068e, Cond.code yJ0_charAt_5068e cJ0_charAt_5068e 2 (some .char), Cond.methodLink RJ0 492 yJ0_isLatin1_aae02, Cond.instanceMethod yJ0_isLatin1_aae02, Cond.selects RJ0 yJ0_isLatin1_aae02 yJ0_isLatin1_aae02, Cond.code yJ0_isLatin1_aae02 cJ0_isLatin1_aae02 1 (some .boolean), Cond.methodLink RJ0 495 yJ1_charAt_3b067, Cond.static yJ1_charAt_3b067, Cond.initialized RJ1]
def wsX3_readText_r3 : List Cond := [Cond.code yJ1_charAt_3b067 cJ1_charAt_3b067 2 (some .char), Cond.methodLink RJ1 9 yJ0_checkIndex_df160, Cond.static yJ0_checkIndex_df160, Cond.code yJ0_checkIndex_df160 cJ0_checkIndex_df160 2 none, Cond.fieldLink RJ0 1053 "jdk/internal/util/Preconditions" "SIOOBE_FORMATTER" "Ljava/util/function/BiFunction;", Cond.methodLink RJ0 1059 yJ3_checkIndex_8e157, Cond.static yJ3_checkIndex_8e157, Cond.initialized RJ3, Cond.code yJ3_checkIndex_8e157 cJ3_checkIndex_8e157 3 (some .int), Cond.methodLink RJ0 498 yJ2_charAt_3b067, Cond.static yJ2_charAt_3b067, Cond.initialized RJ2, Cond.code yJ2_charAt_3b067 cJ2_charAt_3b067 2 (some .char), Cond.methodLink RJ2 67 yJ2_checkIndex_2214a, Cond.static yJ2_checkIndex_2214a, Cond.code yJ2_checkIndex_2214a cJ2_checkIndex_2214a 2 none, Cond.methodLink RJ2 48 yJ2_length_9d52b, Cond.static yJ2_length_9d52b, Cond.code yJ2_length_9d52b cJ2_length_9d52b 1 (some .int), Cond.methodLink RJ2 414 yJ0_checkIndex_df160, Cond.methodLink RJ2 71 yJ2_getChar_3b067, Cond.static yJ2_getChar_3b067, Cond.code yJ2_getChar_3b067 cJ2_getChar_3b067 2 (some .char), Cond.fieldLink RJ2 44 "java/lang/StringUTF16" "$assertionsDisabled" "Z"]
def wsX3_readText_r4 : List Cond := [Cond.fieldLink RJ2 59 "java/lang/StringUTF16" "HI_BYTE_SHIFT" "I", Cond.fieldLink RJ2 63 "java/lang/StringUTF16" "LO_BYTE_SHIFT" "I", Cond.methodLink RX3 66 yX3_isFigure, Cond.static yX3_isFigure, Cond.code yX3_isFigure cX3_isFigure 1 (some .boolean), Cond.methodLink RX3 69 yX3_readFigures, Cond.instanceMethod yX3_readFigures, Cond.selects RX3 yX3_readFigures yX3_readFigures, Cond.code yX3_readFigures cX3_readFigures 1 none, Cond.fieldLink RX3 51 "ChangerFair$CustomReader" "number" "I", Cond.constant RX3 76 (1000000), Cond.methodLink RX3 77 Lib.Math.min.name, Cond.static Lib.Math.min.name, Cond.initialized "java/lang/Math", Cond.code Lib.Math.min.name Lib.Math.min.code 2 (some .int), Cond.methodLink RX3 72 yX3_signWord, Cond.static yX3_signWord, Cond.code yX3_signWord cX3_signWord 1 (some .int), Cond.methodLink RX3 41 yX3_readClause, Cond.instanceMethod yX3_readClause, Cond.selects RX3 yX3_readClause yX3_readClause, Cond.code yX3_readClause cX3_readClause 3 (some .boolean), Cond.methodLink RX3 44 yX2_addClause, Cond.instanceMethod yX2_addClause]
def wsX3_readText_r5 : List Cond := [Cond.selects RX2 yX2_addClause yX2_addClause, Cond.initialized RX2, Cond.code yX2_addClause cX2_addClause 2 none, Cond.fieldLink RX2 26 "ChangerFair$Custom" "clauseCount" "I", Cond.fieldLink RX2 9 "ChangerFair$Custom" "verdicts" "[Z", Cond.fieldLink RX2 13 "ChangerFair$Custom" "testCounts" "[I", Cond.methodLink RX3 48 yX3_readTest, Cond.instanceMethod yX3_readTest, Cond.selects RX3 yX3_readTest yX3_readTest, Cond.code yX3_readTest cX3_readTest 4 (some .boolean), Cond.constant RX3 54 (999999), Cond.methodLink RX3 55 yX2_addTest, Cond.instanceMethod yX2_addTest, Cond.selects RX2 yX2_addTest yX2_addTest, Cond.code yX2_addTest cX2_addTest 6 none, Cond.fieldLink RX2 17 "ChangerFair$Custom" "values" "[I", Cond.fieldLink RX2 20 "ChangerFair$Custom" "signs" "[I", Cond.fieldLink RX2 23 "ChangerFair$Custom" "numbers" "[I"]
def wsX3_readText : List Cond := .code yX3_readText cX3_readText 3 (some .boolean) :: ((wsX3_readText_r1 ++ (wsX3_readText_r2 ++ (wsX3_readText_r3 ++ (wsX3_readText_r4 ++ wsX3_readText_r5)))) ++ wsX30 ++ wsX20)
def wsX3_readInto_r1 : List Cond := [Cond.fieldLink RX3 25 "ChangerFair$CustomReader" "place" "I", Cond.fieldLink RX3 32 "ChangerFair$CustomReader" "wordPlace" "I", Cond.fieldLink RX3 9 "ChangerFair$CustomReader" "faultPlace" "I", Cond.fieldLink RX3 17 "ChangerFair$CustomReader" "length" "I", Cond.methodLink RX3 20 yX2_forget, Cond.instanceMethod yX2_forget, Cond.selects RX2 yX2_forget yX2_forget, Cond.initialized RX2, Cond.code yX2_forget cX2_forget 1 none, Cond.fieldLink RX2 26 "ChangerFair$Custom" "clauseCount" "I", Cond.methodLink RX3 28 yX3_readText, Cond.instanceMethod yX3_readText, Cond.selects RX3 yX3_readText yX3_readText, Cond.initialized RX3, Cond.code yX3_readText cX3_readText 3 (some .boolean), Cond.fieldLink RX3 38 "ChangerFair$CustomReader" "word" "I", Cond.methodLink RX3 35 yX3_nextWord, Cond.instanceMethod yX3_nextWord, Cond.selects RX3 yX3_nextWord yX3_nextWord, Cond.code yX3_nextWord cX3_nextWord 1 none, Cond.fieldLink RX3 13 "ChangerFair$CustomReader" "tape" "[I", Cond.methodLink RX3 59 yX3_isLetter, Cond.static yX3_isLetter, Cond.code yX3_isLetter cX3_isLetter 1 (some .boolean)]
def wsX3_readInto_r2 : List Cond := [Cond.methodLink RX3 63 yX3_readLetters, Cond.instanceMethod yX3_readLetters, Cond.selects RX3 yX3_readLetters yX3_readLetters, Cond.code yX3_readLetters cX3_readLetters 1 none, Cond.methodLink RX3 83 yX3_letterWord, Cond.instanceMethod yX3_letterWord, Cond.selects RX3 yX3_letterWord yX3_letterWord, Cond.code yX3_letterWord cX3_letterWord 1 (some .int), Cond.methodLink RX3 89 yX3_spells, Cond.instanceMethod yX3_spells, Cond.selects RX3 yX3_spells yX3_spells, Cond.code yX3_spells cX3_spells 3 (some .boolean), Cond.methodLink RX3 109 yJ0_length_8abf5, Cond.instanceMethod yJ0_length_8abf5, Cond.selects RJ0 yJ0_length_8abf5 yJ0_length_8abf5, Cond.initialized RJ0, Cond.code yJ0_length_8abf5 cJ0_length_8abf5 1 (some .int), Cond.fieldLink RJ0 9 "java/lang/String" "value" "[B", Cond.methodLink RJ0 335 yJ0_coder_7d493, Cond.instanceMethod yJ0_coder_7d493, Cond.selects RJ0 yJ0_coder_7d493 yJ0_coder_7d493, Cond.code yJ0_coder_7d493 cJ0_coder_7d493 1 (some .byte), Cond.fieldLink RJ0 38 "java/lang/String" "COMPACT_STRINGS" "Z", Cond.fieldLink RJ0 15 "java/lang/String" "coder" "B"]
def wsX3_readInto_r3 : List Cond := [Cond.methodLink RX3 113 yJ0_charAt_5068e, Cond.instanceMethod yJ0_charAt_5068e, Cond.selects RJ0 yJ0_charAt_5068e yJ0_charAt_5068e, Cond.code yJ0_charAt_5068e cJ0_charAt_5068e 2 (some .char), Cond.methodLink RJ0 492 yJ0_isLatin1_aae02, Cond.instanceMethod yJ0_isLatin1_aae02, Cond.selects RJ0 yJ0_isLatin1_aae02 yJ0_isLatin1_aae02, Cond.code yJ0_isLatin1_aae02 cJ0_isLatin1_aae02 1 (some .boolean), Cond.methodLink RJ0 495 yJ1_charAt_3b067, Cond.static yJ1_charAt_3b067, Cond.initialized RJ1, Cond.code yJ1_charAt_3b067 cJ1_charAt_3b067 2 (some .char), Cond.methodLink RJ1 9 yJ0_checkIndex_df160, Cond.static yJ0_checkIndex_df160, Cond.code yJ0_checkIndex_df160 cJ0_checkIndex_df160 2 none, Cond.fieldLink RJ0 1053 "jdk/internal/util/Preconditions" "SIOOBE_FORMATTER" "Ljava/util/function/BiFunction;", Cond.methodLink RJ0 1059 yJ3_checkIndex_8e157, Cond.static yJ3_checkIndex_8e157, Cond.initialized RJ3, Cond.code yJ3_checkIndex_8e157 cJ3_checkIndex_8e157 3 (some .int), Cond.methodLink RJ0 498 yJ2_charAt_3b067, Cond.static yJ2_charAt_3b067, Cond.initialized RJ2, Cond.code yJ2_charAt_3b067 cJ2_charAt_3b067 2 (some .char)]
def wsX3_readInto_r4 : List Cond := [Cond.methodLink RJ2 67 yJ2_checkIndex_2214a, Cond.static yJ2_checkIndex_2214a, Cond.code yJ2_checkIndex_2214a cJ2_checkIndex_2214a 2 none, Cond.methodLink RJ2 48 yJ2_length_9d52b, Cond.static yJ2_length_9d52b, Cond.code yJ2_length_9d52b cJ2_length_9d52b 1 (some .int), Cond.methodLink RJ2 414 yJ0_checkIndex_df160, Cond.methodLink RJ2 71 yJ2_getChar_3b067, Cond.static yJ2_getChar_3b067, Cond.code yJ2_getChar_3b067 cJ2_getChar_3b067 2 (some .char), Cond.fieldLink RJ2 44 "java/lang/StringUTF16" "$assertionsDisabled" "Z", Cond.fieldLink RJ2 59 "java/lang/StringUTF16" "HI_BYTE_SHIFT" "I", Cond.fieldLink RJ2 63 "java/lang/StringUTF16" "LO_BYTE_SHIFT" "I", Cond.methodLink RX3 66 yX3_isFigure, Cond.static yX3_isFigure, Cond.code yX3_isFigure cX3_isFigure 1 (some .boolean), Cond.methodLink RX3 69 yX3_readFigures, Cond.instanceMethod yX3_readFigures, Cond.selects RX3 yX3_readFigures yX3_readFigures, Cond.code yX3_readFigures cX3_readFigures 1 none, Cond.fieldLink RX3 51 "ChangerFair$CustomReader" "number" "I", Cond.constant RX3 76 (1000000), Cond.methodLink RX3 77 Lib.Math.min.name, Cond.static Lib.Math.min.name]
def wsX3_readInto_r5 : List Cond := [Cond.initialized "java/lang/Math", Cond.code Lib.Math.min.name Lib.Math.min.code 2 (some .int), Cond.methodLink RX3 72 yX3_signWord, Cond.static yX3_signWord, Cond.code yX3_signWord cX3_signWord 1 (some .int), Cond.methodLink RX3 41 yX3_readClause, Cond.instanceMethod yX3_readClause, Cond.selects RX3 yX3_readClause yX3_readClause, Cond.code yX3_readClause cX3_readClause 3 (some .boolean), Cond.methodLink RX3 44 yX2_addClause, Cond.instanceMethod yX2_addClause, Cond.selects RX2 yX2_addClause yX2_addClause, Cond.code yX2_addClause cX2_addClause 2 none, Cond.fieldLink RX2 9 "ChangerFair$Custom" "verdicts" "[Z", Cond.fieldLink RX2 13 "ChangerFair$Custom" "testCounts" "[I", Cond.methodLink RX3 48 yX3_readTest, Cond.instanceMethod yX3_readTest, Cond.selects RX3 yX3_readTest yX3_readTest, Cond.code yX3_readTest cX3_readTest 4 (some .boolean), Cond.constant RX3 54 (999999), Cond.methodLink RX3 55 yX2_addTest, Cond.instanceMethod yX2_addTest, Cond.selects RX2 yX2_addTest yX2_addTest, Cond.code yX2_addTest cX2_addTest 6 none]
def wsX3_readInto_r6 : List Cond := [Cond.fieldLink RX2 17 "ChangerFair$Custom" "values" "[I", Cond.fieldLink RX2 20 "ChangerFair$Custom" "signs" "[I", Cond.fieldLink RX2 23 "ChangerFair$Custom" "numbers" "[I"]
def wsX3_readInto : List Cond := .code yX3_readInto cX3_readInto 3 (some .boolean) :: ((wsX3_readInto_r1 ++ (wsX3_readInto_r2 ++ (wsX3_readInto_r3 ++ (wsX3_readInto_r4 ++ (wsX3_readInto_r5 ++ wsX3_readInto_r6))))) ++ wsX30 ++ wsX20)
def wsX4_init : List Cond := .code yX4_init cX4_init 1 none :: ([.methodLink RX4 3 objectInit, .instanceMethod objectInit, .code objectInit ⟨#[0xb1]⟩ 1 none, .arrayClass .long, .fieldLink RX4 9 "ChangerFair$Parting" "pledged" "[J", .fieldLink RX4 15 "ChangerFair$Parting" "rest" "[J"] ++ wsX40)
def wsX4_begin : List Cond := .code yX4_begin cX4_begin 2 none :: ([.fieldLink RX4 9 "ChangerFair$Parting" "pledged" "[J"] ++ wsX40)
def wsX4_pledge : List Cond := .code yX4_pledge cX4_pledge 3 none :: ([.fieldLink RX4 9 "ChangerFair$Parting" "pledged" "[J"] ++ wsX40)
def wsX4_claim : List Cond := .code yX4_claim cX4_claim 4 none :: ([.fieldLink RX4 9 "ChangerFair$Parting" "pledged" "[J", .methodLink RX4 18 Lib.MathLoose.min_long.x, .static Lib.MathLoose.min_long.x, .initialized "java/lang/Math", .code Lib.MathLoose.min_long.x Lib.MathLoose.min_long.code 4 (some .long), .fieldLink RX4 15 "ChangerFair$Parting" "rest" "[J"] ++ wsX40)
def wsX4_total : List Cond := .code yX4_total cX4_total 4 (some .long) :: ([])
def wsX4_portion : List Cond := .code yX4_portion cX4_portion 10 (some .long) :: ([.constantLong RX4 39 (32768)])
def wsX4_shareIn : List Cond := .code yX4_shareIn cX4_shareIn 11 (some .long) :: ([.methodLink RX4 24 yX4_total, .static yX4_total, .initialized RX4, .code yX4_total cX4_total 4 (some .long), .methodLink RX4 35 yX4_portion, .static yX4_portion, .code yX4_portion cX4_portion 10 (some .long), .constantLong RX4 39 (32768)])
def wsX4_shareOf : List Cond := .code yX4_shareOf cX4_shareOf 6 (some .long) :: ([.fieldLink RX4 9 "ChangerFair$Parting" "pledged" "[J", .methodLink RX4 28 Lib.MathLoose.max_long.x, .static Lib.MathLoose.max_long.x, .initialized "java/lang/Math", .code Lib.MathLoose.max_long.x Lib.MathLoose.max_long.code 4 (some .long), .fieldLink RX4 15 "ChangerFair$Parting" "rest" "[J", .methodLink RX4 24 yX4_total, .static yX4_total, .initialized RX4, .code yX4_total cX4_total 4 (some .long), .methodLink RX4 31 yX4_shareIn, .static yX4_shareIn, .code yX4_shareIn cX4_shareIn 11 (some .long), .methodLink RX4 35 yX4_portion, .static yX4_portion, .code yX4_portion cX4_portion 10 (some .long), .constantLong RX4 39 (32768)] ++ wsX40)
def wsX5_init : List Cond := .code yX5_init cX5_init 1 none :: ([.methodLink RX5 3 objectInit, .instanceMethod objectInit, .code objectInit ⟨#[0xb1]⟩ 1 none, .arrayClass .long, .fieldLink RX5 9 "ChangerFair$Plan" "left" "[J", .fieldLink RX5 15 "ChangerFair$Plan" "sums" "[J", .arrayClass .int, .fieldLink RX5 18 "ChangerFair$Plan" "zeroSets" "[I", .fieldLink RX5 22 "ChangerFair$Plan" "mostGroups" "[I", .fieldLink RX5 25 "ChangerFair$Plan" "payers" "[I", .fieldLink RX5 28 "ChangerFair$Plan" "payees" "[I", .fieldLink RX5 31 "ChangerFair$Plan" "amounts" "[J", .constantLong RX5 34 (-1), .fieldLink RX5 36 "ChangerFair$Plan" "changesSeen" "J"] ++ wsX50)
def wsX5_readNets : List Cond := .code yX5_readNets cX5_readNets 4 (some .int) :: ([.fieldLink RX5 9 "ChangerFair$Plan" "left" "[J", .methodLink RX5 77 yX1_balance, .instanceMethod yX1_balance, .selects RX1 yX1_balance yX1_balance, .initialized RX1, .code yX1_balance cX1_balance 5 (some .long), .fieldLink RX1 11 "ChangerFair$Book" "debts" "[[J"] ++ wsX50 ++ wsX10)
def wsX5_addUp : List Cond := .code yX5_addUp cX5_addUp 4 none :: ([.fieldLink RX5 15 "ChangerFair$Plan" "sums" "[J", .fieldLink RX5 9 "ChangerFair$Plan" "left" "[J"] ++ wsX50)
def wsX5_listZeroSets : List Cond := .code yX5_listZeroSets cX5_listZeroSets 3 none :: ([.fieldLink RX5 81 "ChangerFair$Plan" "zeroSetCount" "I", .fieldLink RX5 15 "ChangerFair$Plan" "sums" "[J", .fieldLink RX5 18 "ChangerFair$Plan" "zeroSets" "[I"] ++ wsX50)
def wsX5_mayBeFirst : List Cond := .code yX5_mayBeFirst cX5_mayBeFirst 3 (some .boolean) :: ([])
def wsX5_countGroups : List Cond := .code yX5_countGroups cX5_countGroups 5 none :: ([.fieldLink RX5 81 "ChangerFair$Plan" "zeroSetCount" "I", .fieldLink RX5 18 "ChangerFair$Plan" "zeroSets" "[I", .fieldLink RX5 22 "ChangerFair$Plan" "mostGroups" "[I", .methodLink RX5 88 Lib.Math.max.name, .static Lib.Math.max.name, .initialized "java/lang/Math", .code Lib.Math.max.name Lib.Math.max.code 2 (some .int), .methodLink RX5 84 yX5_mayBeFirst, .static yX5_mayBeFirst, .initialized RX5, .code yX5_mayBeFirst cX5_mayBeFirst 3 (some .boolean)] ++ wsX50)
def wsX5_firstGroup : List Cond := .code yX5_firstGroup cX5_firstGroup 4 (some .int) :: ([.fieldLink RX5 81 "ChangerFair$Plan" "zeroSetCount" "I", .fieldLink RX5 18 "ChangerFair$Plan" "zeroSets" "[I", .fieldLink RX5 22 "ChangerFair$Plan" "mostGroups" "[I", .methodLink RX5 84 yX5_mayBeFirst, .static yX5_mayBeFirst, .initialized RX5, .code yX5_mayBeFirst cX5_mayBeFirst 3 (some .boolean)] ++ wsX50)
def wsX5_leastOf : List Cond := .code yX5_leastOf cX5_leastOf 4 (some .int) :: ([.fieldLink RX5 9 "ChangerFair$Plan" "left" "[J"] ++ wsX50)
def wsX5_payWithin : List Cond := .code yX5_payWithin cX5_payWithin 7 none :: ([.fieldLink RX5 49 "ChangerFair$Plan" "paymentCount" "I", .fieldLink RX5 9 "ChangerFair$Plan" "left" "[J", .methodLink RX5 97 Lib.MathLoose.min_long.x, .static Lib.MathLoose.min_long.x, .initialized "java/lang/Math", .code Lib.MathLoose.min_long.x Lib.MathLoose.min_long.code 4 (some .long), .fieldLink RX5 25 "ChangerFair$Plan" "payers" "[I", .fieldLink RX5 28 "ChangerFair$Plan" "payees" "[I", .fieldLink RX5 31 "ChangerFair$Plan" "amounts" "[J", .methodLink RX5 94 yX5_leastOf, .instanceMethod yX5_leastOf, .selects RX5 yX5_leastOf yX5_leastOf, .initialized RX5, .code yX5_leastOf cX5_leastOf 4 (some .int)] ++ wsX50)
def wsX5_refresh_r1 : List Cond := [Cond.fieldLink RX5 36 "ChangerFair$Plan" "changesSeen" "J", Cond.fieldLink RX5 40 "ChangerFair$Book" "changes" "J", Cond.fieldLink RX5 45 "ChangerFair$Plan" "groupCount" "I", Cond.fieldLink RX5 49 "ChangerFair$Plan" "paymentCount" "I", Cond.methodLink RX5 52 yX5_readNets, Cond.instanceMethod yX5_readNets, Cond.selects RX5 yX5_readNets yX5_readNets, Cond.initialized RX5, Cond.code yX5_readNets cX5_readNets 4 (some .int), Cond.fieldLink RX5 9 "ChangerFair$Plan" "left" "[J", Cond.methodLink RX5 77 yX1_balance, Cond.instanceMethod yX1_balance, Cond.selects RX1 yX1_balance yX1_balance, Cond.initialized RX1, Cond.code yX1_balance cX1_balance 5 (some .long), Cond.fieldLink RX1 11 "ChangerFair$Book" "debts" "[[J", Cond.methodLink RX5 56 yX5_addUp, Cond.instanceMethod yX5_addUp, Cond.selects RX5 yX5_addUp yX5_addUp, Cond.code yX5_addUp cX5_addUp 4 none, Cond.fieldLink RX5 15 "ChangerFair$Plan" "sums" "[J", Cond.methodLink RX5 59 yX5_listZeroSets, Cond.instanceMethod yX5_listZeroSets, Cond.selects RX5 yX5_listZeroSets yX5_listZeroSets]
def wsX5_refresh_r2 : List Cond := [Cond.code yX5_listZeroSets cX5_listZeroSets 3 none, Cond.fieldLink RX5 81 "ChangerFair$Plan" "zeroSetCount" "I", Cond.fieldLink RX5 18 "ChangerFair$Plan" "zeroSets" "[I", Cond.methodLink RX5 63 yX5_countGroups, Cond.instanceMethod yX5_countGroups, Cond.selects RX5 yX5_countGroups yX5_countGroups, Cond.code yX5_countGroups cX5_countGroups 5 none, Cond.fieldLink RX5 22 "ChangerFair$Plan" "mostGroups" "[I", Cond.methodLink RX5 88 Lib.Math.max.name, Cond.static Lib.Math.max.name, Cond.initialized "java/lang/Math", Cond.code Lib.Math.max.name Lib.Math.max.code 2 (some .int), Cond.methodLink RX5 84 yX5_mayBeFirst, Cond.static yX5_mayBeFirst, Cond.code yX5_mayBeFirst cX5_mayBeFirst 3 (some .boolean), Cond.methodLink RX5 66 yX5_firstGroup, Cond.instanceMethod yX5_firstGroup, Cond.selects RX5 yX5_firstGroup yX5_firstGroup, Cond.code yX5_firstGroup cX5_firstGroup 4 (some .int), Cond.methodLink RX5 70 yX5_payWithin, Cond.instanceMethod yX5_payWithin, Cond.selects RX5 yX5_payWithin yX5_payWithin, Cond.code yX5_payWithin cX5_payWithin 7 none, Cond.methodLink RX5 97 Lib.MathLoose.min_long.x]
def wsX5_refresh_r3 : List Cond := [Cond.static Lib.MathLoose.min_long.x, Cond.code Lib.MathLoose.min_long.x Lib.MathLoose.min_long.code 4 (some .long), Cond.fieldLink RX5 25 "ChangerFair$Plan" "payers" "[I", Cond.fieldLink RX5 28 "ChangerFair$Plan" "payees" "[I", Cond.fieldLink RX5 31 "ChangerFair$Plan" "amounts" "[J", Cond.methodLink RX5 94 yX5_leastOf, Cond.instanceMethod yX5_leastOf, Cond.selects RX5 yX5_leastOf yX5_leastOf, Cond.code yX5_leastOf cX5_leastOf 4 (some .int)]
def wsX5_refresh : List Cond := .code yX5_refresh cX5_refresh 5 none :: ((wsX5_refresh_r1 ++ (wsX5_refresh_r2 ++ wsX5_refresh_r3)) ++ wsX50 ++ wsX10)
def wsX5_hasPayment : List Cond := .code yX5_hasPayment cX5_hasPayment 2 (some .boolean) :: ([.fieldLink RX5 49 "ChangerFair$Plan" "paymentCount" "I"] ++ wsX50)
def wsX5_figure : List Cond := .code yX5_figure cX5_figure 3 (some .long) :: ([.fieldLink RX5 25 "ChangerFair$Plan" "payers" "[I", .fieldLink RX5 28 "ChangerFair$Plan" "payees" "[I", .fieldLink RX5 31 "ChangerFair$Plan" "amounts" "[J", .methodLink RX5 73 yX5_hasPayment, .instanceMethod yX5_hasPayment, .selects RX5 yX5_hasPayment yX5_hasPayment, .initialized RX5, .code yX5_hasPayment cX5_hasPayment 2 (some .boolean), .fieldLink RX5 49 "ChangerFair$Plan" "paymentCount" "I"] ++ wsX50)
def wsX6_init : List Cond := .code yX6_init cX6_init 1 none :: ([.methodLink RX6 3 objectInit, .instanceMethod objectInit, .code objectInit ⟨#[0xb1]⟩ 1 none, .arrayClass .int, .fieldLink RX6 11 "ChangerFair$Purses" "worths" "[I", .classLink RX6 15 "[[I", .fieldLink RX6 17 "ChangerFair$Purses" "coins" "[[I"] ++ wsX60)
def wsX6_isKind : List Cond := .code yX6_isKind cX6_isKind 1 (some .boolean) :: ([])
def wsX6_isMeasure : List Cond := .code yX6_isMeasure cX6_isMeasure 1 (some .boolean) :: ([])
def wsX6_mint : List Cond := .code yX6_mint cX6_mint 4 none :: ([.fieldLink RX6 11 "ChangerFair$Purses" "worths" "[I"] ++ wsX60)
def wsX6_worth : List Cond := .code yX6_worth cX6_worth 2 (some .int) :: ([.fieldLink RX6 11 "ChangerFair$Purses" "worths" "[I"] ++ wsX60)
def wsX6_held : List Cond := .code yX6_held cX6_held 3 (some .int) :: ([.fieldLink RX6 17 "ChangerFair$Purses" "coins" "[[I"] ++ wsX60)
def wsX6_put : List Cond := .code yX6_put cX6_put 4 none :: ([.fieldLink RX6 17 "ChangerFair$Purses" "coins" "[[I"] ++ wsX60)
def wsX6_wealth : List Cond := .code yX6_wealth cX6_wealth 5 (some .long) :: ([.fieldLink RX6 17 "ChangerFair$Purses" "coins" "[[I", .fieldLink RX6 11 "ChangerFair$Purses" "worths" "[I"] ++ wsX60)
def wsX6_dearestBut : List Cond := .code yX6_dearestBut cX6_dearestBut 4 (some .int) :: ([.fieldLink RX6 11 "ChangerFair$Purses" "worths" "[I"] ++ wsX60)
def wsX6_handOver : List Cond := .code yX6_handOver cX6_handOver 12 (some .long) :: ([.fieldLink RX6 11 "ChangerFair$Purses" "worths" "[I", .fieldLink RX6 17 "ChangerFair$Purses" "coins" "[[I", .methodLink RX6 24 Lib.Math.min.name, .static Lib.Math.min.name, .initialized "java/lang/Math", .code Lib.Math.min.name Lib.Math.min.code 2 (some .int), .methodLink RX6 30 Lib.MathLoose.min_long.x, .static Lib.MathLoose.min_long.x, .code Lib.MathLoose.min_long.x Lib.MathLoose.min_long.code 4 (some .long), .methodLink RX6 20 yX6_dearestBut, .instanceMethod yX6_dearestBut, .selects RX6 yX6_dearestBut yX6_dearestBut, .initialized RX6, .code yX6_dearestBut cX6_dearestBut 4 (some .int)] ++ wsX60)
def wsX7_init : List Cond := .code yX7_init cX7_init 1 none :: ([.methodLink RX7 5 objectInit, .instanceMethod objectInit, .code objectInit ⟨#[0xb1]⟩ 1 none, .classLink RX7 11 "[[I", .arrayClass .int, .fieldLink RX7 13 "ChangerFair$Rates" "votes" "[[I", .fieldLink RX7 16 "ChangerFair$Rates" "offers" "[[I", .fieldLink RX7 19 "ChangerFair$Rates" "sorted" "[I"] ++ wsX70)
def wsX7_isVote : List Cond := .code yX7_isVote cX7_isVote 1 (some .boolean) :: ([])
def wsX7_isOffer : List Cond := .code yX7_isOffer cX7_isOffer 1 (some .boolean) :: ([])
def wsX7_changeVote : List Cond := .code yX7_changeVote cX7_changeVote 5 (some .int) :: ([.fieldLink RX7 13 "ChangerFair$Rates" "votes" "[[I"] ++ wsX70)
def wsX7_changeOffer : List Cond := .code yX7_changeOffer cX7_changeOffer 5 (some .int) :: ([.fieldLink RX7 16 "ChangerFair$Rates" "offers" "[[I"] ++ wsX70)
def wsX7_insertSorted : List Cond := .code yX7_insertSorted cX7_insertSorted 4 none :: ([.fieldLink RX7 19 "ChangerFair$Rates" "sorted" "[I"] ++ wsX70)
def wsX7_middleVote : List Cond := .code yX7_middleVote cX7_middleVote 4 (some .int) :: ([.fieldLink RX7 13 "ChangerFair$Rates" "votes" "[[I", .fieldLink RX7 19 "ChangerFair$Rates" "sorted" "[I", .methodLink RX7 23 yX7_insertSorted, .instanceMethod yX7_insertSorted, .selects RX7 yX7_insertSorted yX7_insertSorted, .initialized RX7, .code yX7_insertSorted cX7_insertSorted 4 none] ++ wsX70)
def wsX7_closeTurn : List Cond := .code yX7_closeTurn cX7_closeTurn 4 none :: ([.fieldLink RX7 29 "ChangerFair$Rates" "bestProduct" "J", .fieldLink RX7 33 "ChangerFair$Rates" "bestFigures" "I"] ++ wsX70)
def wsX7_extendTurn : List Cond := .code yX7_extendTurn cX7_extendTurn 9 none :: ([.fieldLink RX7 16 "ChangerFair$Rates" "offers" "[[I", .methodLink RX7 45 yX7_closeTurn, .instanceMethod yX7_closeTurn, .selects RX7 yX7_closeTurn yX7_closeTurn, .initialized RX7, .code yX7_closeTurn cX7_closeTurn 4 none, .fieldLink RX7 29 "ChangerFair$Rates" "bestProduct" "J", .fieldLink RX7 33 "ChangerFair$Rates" "bestFigures" "I", .methodLink RX7 39 yX7_extendTurn, .instanceMethod yX7_extendTurn, .selects RX7 yX7_extendTurn yX7_extendTurn] ++ wsX70)
def wsX7_bestTurn : List Cond := .code yX7_bestTurn cX7_bestTurn 5 (some .int) :: ([.constantLong RX7 27 (10000000000000000), .fieldLink RX7 29 "ChangerFair$Rates" "bestProduct" "J", .fieldLink RX7 33 "ChangerFair$Rates" "bestFigures" "I", .constantLong RX7 37 (100000000), .constantLong RX7 43 (10000), .methodLink RX7 39 yX7_extendTurn, .instanceMethod yX7_extendTurn, .selects RX7 yX7_extendTurn yX7_extendTurn, .initialized RX7, .code yX7_extendTurn cX7_extendTurn 9 none, .fieldLink RX7 16 "ChangerFair$Rates" "offers" "[[I", .methodLink RX7 45 yX7_closeTurn, .instanceMethod yX7_closeTurn, .selects RX7 yX7_closeTurn yX7_closeTurn, .code yX7_closeTurn cX7_closeTurn 4 none] ++ wsX70)
def wsX8_init_r1 : List Cond := [Cond.methodLink RX8 1 objectInit, Cond.instanceMethod objectInit, Cond.code objectInit ⟨#[0xb1]⟩ 1 none, Cond.arrayClass .long, Cond.fieldLink RX8 9 "ChangerFair" "findings" "[J", Cond.arrayClass .int, Cond.fieldLink RX8 13 "ChangerFair" "roads" "[I", Cond.fieldLink RX8 17 "ChangerFair" "seats" "[I", Cond.classLink RX8 20 RX0, Cond.fieldLink RX8 22 "ChangerFair" "bills" "[LChangerFair$Bill;", Cond.fieldLink RX8 28 "ChangerFair" "facts" "[I", Cond.fieldLink RX8 31 "ChangerFair" "told" "[I", Cond.classLink RX8 26 RX3, Cond.instantiable RX3 7, Cond.initialized RX3, Cond.fieldLink RX8 35 "ChangerFair" "reader" "LChangerFair$CustomReader;", Cond.classLink RX8 39 RX1, Cond.instantiable RX1 2, Cond.initialized RX1, Cond.fieldLink RX8 42 "ChangerFair" "book" "LChangerFair$Book;", Cond.classLink RX8 46 RX5, Cond.instantiable RX5 11, Cond.initialized RX5, Cond.fieldLink RX8 49 "ChangerFair" "plan" "LChangerFair$Plan;"]
def wsX8_init_r2 : List Cond := [Cond.classLink RX8 53 RX6, Cond.instantiable RX6 2, Cond.initialized RX6, Cond.fieldLink RX8 56 "ChangerFair" "purses" "LChangerFair$Purses;", Cond.classLink RX8 60 RX7, Cond.instantiable RX7 5, Cond.initialized RX7, Cond.fieldLink RX8 63 "ChangerFair" "rates" "LChangerFair$Rates;", Cond.classLink RX8 67 RX4, Cond.instantiable RX4 2, Cond.initialized RX4, Cond.fieldLink RX8 70 "ChangerFair" "parting" "LChangerFair$Parting;", Cond.classLink RX8 74 RX2, Cond.instantiable RX2 6, Cond.initialized RX2, Cond.fieldLink RX8 77 "ChangerFair" "custom" "LChangerFair$Custom;", Cond.fieldLink RX8 81 "ChangerFair" "draft" "LChangerFair$Custom;", Cond.fieldLink RX8 84 "ChangerFair" "gain" "I", Cond.instanceMethod yX3_init, Cond.code yX3_init cX3_init 1 none, Cond.methodLink RX3 1 objectInit, Cond.fieldLink RX3 9 "ChangerFair$CustomReader" "faultPlace" "I", Cond.fieldLink RX3 13 "ChangerFair$CustomReader" "tape" "[I", Cond.instanceMethod yX1_init]
def wsX8_init_r3 : List Cond := [Cond.code yX1_init cX1_init 1 none, Cond.methodLink RX1 3 objectInit, Cond.classLink RX1 9 "[[J", Cond.fieldLink RX1 11 "ChangerFair$Book" "debts" "[[J", Cond.instanceMethod yX5_init, Cond.code yX5_init cX5_init 1 none, Cond.methodLink RX5 3 objectInit, Cond.fieldLink RX5 9 "ChangerFair$Plan" "left" "[J", Cond.fieldLink RX5 15 "ChangerFair$Plan" "sums" "[J", Cond.fieldLink RX5 18 "ChangerFair$Plan" "zeroSets" "[I", Cond.fieldLink RX5 22 "ChangerFair$Plan" "mostGroups" "[I", Cond.fieldLink RX5 25 "ChangerFair$Plan" "payers" "[I", Cond.fieldLink RX5 28 "ChangerFair$Plan" "payees" "[I", Cond.fieldLink RX5 31 "ChangerFair$Plan" "amounts" "[J", Cond.constantLong RX5 34 (-1), Cond.fieldLink RX5 36 "ChangerFair$Plan" "changesSeen" "J", Cond.instanceMethod yX6_init, Cond.code yX6_init cX6_init 1 none, Cond.methodLink RX6 3 objectInit, Cond.fieldLink RX6 11 "ChangerFair$Purses" "worths" "[I", Cond.classLink RX6 15 "[[I", Cond.fieldLink RX6 17 "ChangerFair$Purses" "coins" "[[I", Cond.instanceMethod yX7_init, Cond.code yX7_init cX7_init 1 none]
def wsX8_init_r4 : List Cond := [Cond.methodLink RX7 5 objectInit, Cond.classLink RX7 11 "[[I", Cond.fieldLink RX7 13 "ChangerFair$Rates" "votes" "[[I", Cond.fieldLink RX7 16 "ChangerFair$Rates" "offers" "[[I", Cond.fieldLink RX7 19 "ChangerFair$Rates" "sorted" "[I", Cond.instanceMethod yX4_init, Cond.code yX4_init cX4_init 1 none, Cond.methodLink RX4 3 objectInit, Cond.fieldLink RX4 9 "ChangerFair$Parting" "pledged" "[J", Cond.fieldLink RX4 15 "ChangerFair$Parting" "rest" "[J", Cond.instanceMethod yX2_init, Cond.code yX2_init cX2_init 1 none, Cond.methodLink RX2 1 objectInit, Cond.arrayClass .boolean, Cond.fieldLink RX2 9 "ChangerFair$Custom" "verdicts" "[Z", Cond.fieldLink RX2 13 "ChangerFair$Custom" "testCounts" "[I", Cond.fieldLink RX2 17 "ChangerFair$Custom" "values" "[I", Cond.fieldLink RX2 20 "ChangerFair$Custom" "signs" "[I", Cond.fieldLink RX2 23 "ChangerFair$Custom" "numbers" "[I"]
def wsX8_init : List Cond := .code yX8_init cX8_init 1 none :: ((wsX8_init_r1 ++ (wsX8_init_r2 ++ (wsX8_init_r3 ++ wsX8_init_r4))) ++ wsX80 ++ wsX30 ++ wsX10 ++ wsX50 ++ wsX60 ++ wsX70 ++ wsX40 ++ wsX20)
def wsX8_finding : List Cond := .code yX8_finding cX8_finding 2 (some .long) :: ([.fieldLink RX8 9 "ChangerFair" "findings" "[J", .constantLong RX8 336 (-1000000000000)] ++ wsX80)
def wsX8_days_r1 : List Cond := [Cond.fieldLink RX8 92 "ChangerFair" "day" "I", Cond.fieldLink RX8 42 "ChangerFair" "book" "LChangerFair$Book;", Cond.fieldLink RX8 84 "ChangerFair" "gain" "I", Cond.methodLink RX8 88 yX8_finding, Cond.instanceMethod yX8_finding, Cond.selects RX8 yX8_finding yX8_finding, Cond.initialized RX8, Cond.code yX8_finding cX8_finding 2 (some .long), Cond.fieldLink RX8 9 "ChangerFair" "findings" "[J", Cond.constantLong RX8 336 (-1000000000000), Cond.methodLink RX8 95 yX1_carryOverfills, Cond.instanceMethod yX1_carryOverfills, Cond.selects RX1 yX1_carryOverfills yX1_carryOverfills, Cond.initialized RX1, Cond.code yX1_carryOverfills cX1_carryOverfills 4 (some .boolean), Cond.fieldLink RX1 11 "ChangerFair$Book" "debts" "[[J", Cond.constantLong RX1 16 (1000000000), Cond.methodLink RX1 28 yX1_carried, Cond.static yX1_carried, Cond.code yX1_carried cX1_carried 3 (some .long), Cond.constantLong RX1 32 (1000), Cond.methodLink RX8 99 yX1_carry, Cond.instanceMethod yX1_carry, Cond.selects RX1 yX1_carry yX1_carry]
def wsX8_days_r2 : List Cond := [Cond.code yX1_carry cX1_carry 4 none, Cond.fieldLink RX1 24 "ChangerFair$Book" "changes" "J"]
def wsX8_days : List Cond := .code yX8_days cX8_days 3 (some .long) :: ((wsX8_days_r1 ++ wsX8_days_r2) ++ wsX80 ++ wsX10)
def wsX8_gain : List Cond := .code yX8_gain cX8_gain 3 (some .long) :: ([.fieldLink RX8 84 "ChangerFair" "gain" "I", .methodLink RX8 88 yX8_finding, .instanceMethod yX8_finding, .selects RX8 yX8_finding yX8_finding, .initialized RX8, .code yX8_finding cX8_finding 2 (some .long), .fieldLink RX8 9 "ChangerFair" "findings" "[J", .constantLong RX8 336 (-1000000000000)] ++ wsX80)
def wsX8_isTown : List Cond := .code yX8_isTown cX8_isTown 1 (some .boolean) :: ([])
def wsX8_road : List Cond := .code yX8_road cX8_road 4 (some .long) :: ([.fieldLink RX8 13 "ChangerFair" "roads" "[I", .methodLink RX8 103 yX8_isTown, .static yX8_isTown, .initialized RX8, .code yX8_isTown cX8_isTown 1 (some .boolean), .methodLink RX8 88 yX8_finding, .instanceMethod yX8_finding, .selects RX8 yX8_finding yX8_finding, .code yX8_finding cX8_finding 2 (some .long), .fieldLink RX8 9 "ChangerFair" "findings" "[J", .constantLong RX8 336 (-1000000000000)] ++ wsX80)
def wsX8_isHouse : List Cond := .code yX8_isHouse cX8_isHouse 1 (some .boolean) :: ([])
def wsX8_seat : List Cond := .code yX8_seat cX8_seat 4 (some .long) :: ([.fieldLink RX8 17 "ChangerFair" "seats" "[I", .methodLink RX8 106 yX8_isHouse, .static yX8_isHouse, .initialized RX8, .code yX8_isHouse cX8_isHouse 1 (some .boolean), .methodLink RX8 103 yX8_isTown, .static yX8_isTown, .code yX8_isTown cX8_isTown 1 (some .boolean), .methodLink RX8 88 yX8_finding, .instanceMethod yX8_finding, .selects RX8 yX8_finding yX8_finding, .code yX8_finding cX8_finding 2 (some .long), .fieldLink RX8 9 "ChangerFair" "findings" "[J", .constantLong RX8 336 (-1000000000000)] ++ wsX80)
def wsX8_isBillKind : List Cond := .code yX8_isBillKind cX8_isBillKind 1 (some .boolean) :: ([])
def wsX8_draw_r1 : List Cond := [Cond.constant RX8 112 (100000), Cond.fieldLink RX8 113 "ChangerFair" "billCount" "I", Cond.classLink RX8 20 RX0, Cond.instantiable RX0 10, Cond.initialized RX0, Cond.fieldLink RX8 92 "ChangerFair" "day" "I", Cond.fieldLink RX8 22 "ChangerFair" "bills" "[LChangerFair$Bill;", Cond.methodLink RX8 109 yX8_isBillKind, Cond.static yX8_isBillKind, Cond.initialized RX8, Cond.code yX8_isBillKind cX8_isBillKind 1 (some .boolean), Cond.methodLink RX8 106 yX8_isHouse, Cond.static yX8_isHouse, Cond.code yX8_isHouse cX8_isHouse 1 (some .boolean), Cond.methodLink RX8 88 yX8_finding, Cond.instanceMethod yX8_finding, Cond.selects RX8 yX8_finding yX8_finding, Cond.code yX8_finding cX8_finding 2 (some .long), Cond.fieldLink RX8 9 "ChangerFair" "findings" "[J", Cond.constantLong RX8 336 (-1000000000000), Cond.methodLink RX8 116 yX0_init, Cond.instanceMethod yX0_init, Cond.code yX0_init cX0_init 7 none, Cond.methodLink RX0 1 objectInit]
def wsX8_draw_r2 : List Cond := [Cond.instanceMethod objectInit, Cond.code objectInit ⟨#[0xb1]⟩ 1 none, Cond.arrayClass .int, Cond.fieldLink RX0 9 "ChangerFair$Bill" "endorsers" "[I", Cond.fieldLink RX0 13 "ChangerFair$Bill" "began" "[I", Cond.fieldLink RX0 16 "ChangerFair$Bill" "kind" "I", Cond.fieldLink RX0 20 "ChangerFair$Bill" "drawer" "I", Cond.fieldLink RX0 23 "ChangerFair$Bill" "drawee" "I", Cond.fieldLink RX0 26 "ChangerFair$Bill" "holder" "I", Cond.fieldLink RX0 29 "ChangerFair$Bill" "amount" "I", Cond.methodLink RX8 119 yX0_become, Cond.instanceMethod yX0_become, Cond.selects RX0 yX0_become yX0_become, Cond.code yX0_become cX0_become 3 none, Cond.fieldLink RX0 32 "ChangerFair$Bill" "state" "I"]
def wsX8_draw : List Cond := .code yX8_draw cX8_draw 7 (some .long) :: ((wsX8_draw_r1 ++ wsX8_draw_r2) ++ wsX80 ++ wsX00)
def wsX8_billAt : List Cond := .code yX8_billAt cX8_billAt 2 (some (.object "ChangerFair$Bill")) :: ([.fieldLink RX8 113 "ChangerFair" "billCount" "I", .fieldLink RX8 22 "ChangerFair" "bills" "[LChangerFair$Bill;"] ++ wsX80)
def wsX8_pass_r1 : List Cond := [Cond.fieldLink RX8 127 "ChangerFair$Bill" "state" "I", Cond.fieldLink RX8 130 "ChangerFair$Bill" "holder" "I", Cond.fieldLink RX8 140 "ChangerFair$Bill" "endorserCount" "I", Cond.methodLink RX8 123 yX8_billAt, Cond.instanceMethod yX8_billAt, Cond.selects RX8 yX8_billAt yX8_billAt, Cond.initialized RX8, Cond.code yX8_billAt cX8_billAt 2 (some (.object "ChangerFair$Bill")), Cond.fieldLink RX8 113 "ChangerFair" "billCount" "I", Cond.fieldLink RX8 22 "ChangerFair" "bills" "[LChangerFair$Bill;", Cond.methodLink RX8 106 yX8_isHouse, Cond.static yX8_isHouse, Cond.code yX8_isHouse cX8_isHouse 1 (some .boolean), Cond.methodLink RX8 88 yX8_finding, Cond.instanceMethod yX8_finding, Cond.selects RX8 yX8_finding yX8_finding, Cond.code yX8_finding cX8_finding 2 (some .long), Cond.fieldLink RX8 9 "ChangerFair" "findings" "[J", Cond.constantLong RX8 336 (-1000000000000), Cond.methodLink RX8 133 yX0_hasRoomToPass, Cond.instanceMethod yX0_hasRoomToPass, Cond.selects RX0 yX0_hasRoomToPass yX0_hasRoomToPass, Cond.initialized RX0, Cond.code yX0_hasRoomToPass cX0_hasRoomToPass 1 (some .boolean)]
def wsX8_pass_r2 : List Cond := [Cond.fieldLink RX0 16 "ChangerFair$Bill" "kind" "I", Cond.fieldLink RX0 35 "ChangerFair$Bill" "endorserCount" "I", Cond.methodLink RX8 137 yX0_moveTo, Cond.instanceMethod yX0_moveTo, Cond.selects RX0 yX0_moveTo yX0_moveTo, Cond.code yX0_moveTo cX0_moveTo 2 none, Cond.fieldLink RX0 9 "ChangerFair$Bill" "endorsers" "[I", Cond.fieldLink RX0 26 "ChangerFair$Bill" "holder" "I"]
def wsX8_pass : List Cond := .code yX8_pass cX8_pass 4 (some .long) :: ((wsX8_pass_r1 ++ wsX8_pass_r2) ++ wsX00 ++ wsX80)
def wsX8_isTakingDay : List Cond := .code yX8_isTakingDay cX8_isTakingDay 1 (some .boolean) :: ([.fieldLink RX8 92 "ChangerFair" "day" "I"] ++ wsX80)
def wsX8_take_r1 : List Cond := [Cond.fieldLink RX8 127 "ChangerFair$Bill" "state" "I", Cond.fieldLink RX8 92 "ChangerFair" "day" "I", Cond.methodLink RX8 123 yX8_billAt, Cond.instanceMethod yX8_billAt, Cond.selects RX8 yX8_billAt yX8_billAt, Cond.initialized RX8, Cond.code yX8_billAt cX8_billAt 2 (some (.object "ChangerFair$Bill")), Cond.fieldLink RX8 113 "ChangerFair" "billCount" "I", Cond.fieldLink RX8 22 "ChangerFair" "bills" "[LChangerFair$Bill;", Cond.methodLink RX8 88 yX8_finding, Cond.instanceMethod yX8_finding, Cond.selects RX8 yX8_finding yX8_finding, Cond.code yX8_finding cX8_finding 2 (some .long), Cond.fieldLink RX8 9 "ChangerFair" "findings" "[J", Cond.constantLong RX8 336 (-1000000000000), Cond.methodLink RX8 143 yX8_isTakingDay, Cond.instanceMethod yX8_isTakingDay, Cond.selects RX8 yX8_isTakingDay yX8_isTakingDay, Cond.code yX8_isTakingDay cX8_isTakingDay 1 (some .boolean), Cond.methodLink RX8 119 yX0_become, Cond.instanceMethod yX0_become, Cond.selects RX0 yX0_become yX0_become, Cond.initialized RX0, Cond.code yX0_become cX0_become 3 none]
def wsX8_take_r2 : List Cond := [Cond.fieldLink RX0 32 "ChangerFair$Bill" "state" "I", Cond.fieldLink RX0 13 "ChangerFair$Bill" "began" "[I"]
def wsX8_take : List Cond := .code yX8_take cX8_take 4 (some .long) :: ((wsX8_take_r1 ++ wsX8_take_r2) ++ wsX00 ++ wsX80)
def wsX8_overfills : List Cond := .code yX8_overfills cX8_overfills 3 (some .boolean) :: ([.fieldLink RX8 130 "ChangerFair$Bill" "holder" "I", .fieldLink RX8 42 "ChangerFair" "book" "LChangerFair$Book;", .fieldLink RX8 161 "ChangerFair$Bill" "amount" "I", .methodLink RX8 225 yX1_overfills, .instanceMethod yX1_overfills, .selects RX1 yX1_overfills yX1_overfills, .initialized RX1, .code yX1_overfills cX1_overfills 5 (some .boolean), .fieldLink RX1 11 "ChangerFair$Book" "debts" "[[J", .constantLong RX1 16 (1000000000)] ++ wsX00 ++ wsX80 ++ wsX10)
def wsX8_charge : List Cond := .code yX8_charge cX8_charge 3 none :: ([.fieldLink RX8 130 "ChangerFair$Bill" "holder" "I", .fieldLink RX8 42 "ChangerFair" "book" "LChangerFair$Book;", .fieldLink RX8 161 "ChangerFair$Bill" "amount" "I", .methodLink RX8 228 yX1_charge, .instanceMethod yX1_charge, .selects RX1 yX1_charge yX1_charge, .initialized RX1, .code yX1_charge cX1_charge 7 none, .fieldLink RX1 11 "ChangerFair$Book" "debts" "[[J", .methodLink RX1 18 Lib.MathLoose.max_long.x, .static Lib.MathLoose.max_long.x, .initialized "java/lang/Math", .code Lib.MathLoose.max_long.x Lib.MathLoose.max_long.code 4 (some .long), .fieldLink RX1 24 "ChangerFair$Book" "changes" "J"] ++ wsX00 ++ wsX80 ++ wsX10)
def wsX8_pay_r1 : List Cond := [Cond.fieldLink RX8 127 "ChangerFair$Bill" "state" "I", Cond.fieldLink RX8 146 "ChangerFair$Bill" "drawee" "I", Cond.fieldLink RX8 92 "ChangerFair" "day" "I", Cond.fieldLink RX8 157 "ChangerFair$Bill" "paidByDrawee" "Z", Cond.fieldLink RX8 130 "ChangerFair$Bill" "holder" "I", Cond.fieldLink RX8 161 "ChangerFair$Bill" "amount" "I", Cond.methodLink RX8 123 yX8_billAt, Cond.instanceMethod yX8_billAt, Cond.selects RX8 yX8_billAt yX8_billAt, Cond.initialized RX8, Cond.code yX8_billAt cX8_billAt 2 (some (.object "ChangerFair$Bill")), Cond.fieldLink RX8 113 "ChangerFair" "billCount" "I", Cond.fieldLink RX8 22 "ChangerFair" "bills" "[LChangerFair$Bill;", Cond.methodLink RX8 88 yX8_finding, Cond.instanceMethod yX8_finding, Cond.selects RX8 yX8_finding yX8_finding, Cond.code yX8_finding cX8_finding 2 (some .long), Cond.fieldLink RX8 9 "ChangerFair" "findings" "[J", Cond.constantLong RX8 336 (-1000000000000), Cond.methodLink RX8 143 yX8_isTakingDay, Cond.instanceMethod yX8_isTakingDay, Cond.selects RX8 yX8_isTakingDay yX8_isTakingDay, Cond.code yX8_isTakingDay cX8_isTakingDay 1 (some .boolean), Cond.methodLink RX8 149 yX8_overfills]
def wsX8_pay_r2 : List Cond := [Cond.instanceMethod yX8_overfills, Cond.selects RX8 yX8_overfills yX8_overfills, Cond.code yX8_overfills cX8_overfills 3 (some .boolean), Cond.fieldLink RX8 42 "ChangerFair" "book" "LChangerFair$Book;", Cond.methodLink RX8 225 yX1_overfills, Cond.instanceMethod yX1_overfills, Cond.selects RX1 yX1_overfills yX1_overfills, Cond.initialized RX1, Cond.code yX1_overfills cX1_overfills 5 (some .boolean), Cond.fieldLink RX1 11 "ChangerFair$Book" "debts" "[[J", Cond.constantLong RX1 16 (1000000000), Cond.methodLink RX8 153 yX8_charge, Cond.instanceMethod yX8_charge, Cond.selects RX8 yX8_charge yX8_charge, Cond.code yX8_charge cX8_charge 3 none, Cond.methodLink RX8 228 yX1_charge, Cond.instanceMethod yX1_charge, Cond.selects RX1 yX1_charge yX1_charge, Cond.code yX1_charge cX1_charge 7 none, Cond.methodLink RX1 18 Lib.MathLoose.max_long.x, Cond.static Lib.MathLoose.max_long.x, Cond.initialized "java/lang/Math", Cond.code Lib.MathLoose.max_long.x Lib.MathLoose.max_long.code 4 (some .long), Cond.fieldLink RX1 24 "ChangerFair$Book" "changes" "J"]
def wsX8_pay_r3 : List Cond := [Cond.methodLink RX8 119 yX0_become, Cond.instanceMethod yX0_become, Cond.selects RX0 yX0_become yX0_become, Cond.initialized RX0, Cond.code yX0_become cX0_become 3 none, Cond.fieldLink RX0 32 "ChangerFair$Bill" "state" "I", Cond.fieldLink RX0 13 "ChangerFair$Bill" "began" "[I"]
def wsX8_pay : List Cond := .code yX8_pay cX8_pay 3 (some .long) :: ((wsX8_pay_r1 ++ (wsX8_pay_r2 ++ wsX8_pay_r3)) ++ wsX00 ++ wsX80 ++ wsX10)
def wsX8_protest_r1 : List Cond := [Cond.fieldLink RX8 127 "ChangerFair$Bill" "state" "I", Cond.fieldLink RX8 92 "ChangerFair" "day" "I", Cond.methodLink RX8 123 yX8_billAt, Cond.instanceMethod yX8_billAt, Cond.selects RX8 yX8_billAt yX8_billAt, Cond.initialized RX8, Cond.code yX8_billAt cX8_billAt 2 (some (.object "ChangerFair$Bill")), Cond.fieldLink RX8 113 "ChangerFair" "billCount" "I", Cond.fieldLink RX8 22 "ChangerFair" "bills" "[LChangerFair$Bill;", Cond.methodLink RX8 88 yX8_finding, Cond.instanceMethod yX8_finding, Cond.selects RX8 yX8_finding yX8_finding, Cond.code yX8_finding cX8_finding 2 (some .long), Cond.fieldLink RX8 9 "ChangerFair" "findings" "[J", Cond.constantLong RX8 336 (-1000000000000), Cond.methodLink RX8 119 yX0_become, Cond.instanceMethod yX0_become, Cond.selects RX0 yX0_become yX0_become, Cond.initialized RX0, Cond.code yX0_become cX0_become 3 none, Cond.fieldLink RX0 32 "ChangerFair$Bill" "state" "I", Cond.fieldLink RX0 13 "ChangerFair$Bill" "began" "[I", Cond.methodLink RX8 164 yX0_daysLate, Cond.instanceMethod yX0_daysLate]
def wsX8_protest_r2 : List Cond := [Cond.selects RX0 yX0_daysLate yX0_daysLate, Cond.code yX0_daysLate cX0_daysLate 1 (some .int)]
def wsX8_protest : List Cond := .code yX8_protest cX8_protest 3 (some .long) :: ((wsX8_protest_r1 ++ wsX8_protest_r2) ++ wsX00 ++ wsX80)
def wsX8_roadOf : List Cond := .code yX8_roadOf cX8_roadOf 2 (some .int) :: ([.fieldLink RX8 13 "ChangerFair" "roads" "[I", .fieldLink RX8 17 "ChangerFair" "seats" "[I"] ++ wsX80)
def wsX8_customBinds : List Cond := .code yX8_customBinds cX8_customBinds 6 (some .boolean) :: ([.fieldLink RX8 28 "ChangerFair" "facts" "[I", .fieldLink RX8 77 "ChangerFair" "custom" "LChangerFair$Custom;", .methodLink RX8 338 yX2_bindsFor, .instanceMethod yX2_bindsFor, .selects RX2 yX2_bindsFor yX2_bindsFor, .initialized RX2, .code yX2_bindsFor cX2_bindsFor 3 (some .boolean), .fieldLink RX2 26 "ChangerFair$Custom" "clauseCount" "I", .fieldLink RX2 9 "ChangerFair$Custom" "verdicts" "[Z", .methodLink RX2 30 yX2_allTestsHold, .instanceMethod yX2_allTestsHold, .selects RX2 yX2_allTestsHold yX2_allTestsHold, .code yX2_allTestsHold cX2_allTestsHold 5 (some .boolean), .fieldLink RX2 13 "ChangerFair$Custom" "testCounts" "[I", .fieldLink RX2 17 "ChangerFair$Custom" "values" "[I", .fieldLink RX2 20 "ChangerFair$Custom" "signs" "[I", .fieldLink RX2 23 "ChangerFair$Custom" "numbers" "[I", .methodLink RX2 34 yX2_holds, .static yX2_holds, .code yX2_holds cX2_holds 3 (some .boolean)] ++ wsX80 ++ wsX20)
def wsX8_bindsEndorser_r1 : List Cond := [Cond.fieldLink RX8 161 "ChangerFair$Bill" "amount" "I", Cond.fieldLink RX8 184 "ChangerFair$Bill" "kind" "I", Cond.methodLink RX8 164 yX0_daysLate, Cond.instanceMethod yX0_daysLate, Cond.selects RX0 yX0_daysLate yX0_daysLate, Cond.initialized RX0, Cond.code yX0_daysLate cX0_daysLate 1 (some .int), Cond.fieldLink RX0 13 "ChangerFair$Bill" "began" "[I", Cond.methodLink RX8 177 yX0_endorserAt, Cond.instanceMethod yX0_endorserAt, Cond.selects RX0 yX0_endorserAt yX0_endorserAt, Cond.code yX0_endorserAt cX0_endorserAt 2 (some .int), Cond.fieldLink RX0 9 "ChangerFair$Bill" "endorsers" "[I", Cond.methodLink RX8 190 yX8_roadOf, Cond.instanceMethod yX8_roadOf, Cond.selects RX8 yX8_roadOf yX8_roadOf, Cond.initialized RX8, Cond.code yX8_roadOf cX8_roadOf 2 (some .int), Cond.fieldLink RX8 13 "ChangerFair" "roads" "[I", Cond.fieldLink RX8 17 "ChangerFair" "seats" "[I", Cond.methodLink RX8 216 yX8_customBinds, Cond.instanceMethod yX8_customBinds, Cond.selects RX8 yX8_customBinds yX8_customBinds, Cond.code yX8_customBinds cX8_customBinds 6 (some .boolean)]
def wsX8_bindsEndorser_r2 : List Cond := [Cond.fieldLink RX8 28 "ChangerFair" "facts" "[I", Cond.fieldLink RX8 77 "ChangerFair" "custom" "LChangerFair$Custom;", Cond.methodLink RX8 338 yX2_bindsFor, Cond.instanceMethod yX2_bindsFor, Cond.selects RX2 yX2_bindsFor yX2_bindsFor, Cond.initialized RX2, Cond.code yX2_bindsFor cX2_bindsFor 3 (some .boolean), Cond.fieldLink RX2 26 "ChangerFair$Custom" "clauseCount" "I", Cond.fieldLink RX2 9 "ChangerFair$Custom" "verdicts" "[Z", Cond.methodLink RX2 30 yX2_allTestsHold, Cond.instanceMethod yX2_allTestsHold, Cond.selects RX2 yX2_allTestsHold yX2_allTestsHold, Cond.code yX2_allTestsHold cX2_allTestsHold 5 (some .boolean), Cond.fieldLink RX2 13 "ChangerFair$Custom" "testCounts" "[I", Cond.fieldLink RX2 17 "ChangerFair$Custom" "values" "[I", Cond.fieldLink RX2 20 "ChangerFair$Custom" "signs" "[I", Cond.fieldLink RX2 23 "ChangerFair$Custom" "numbers" "[I", Cond.methodLink RX2 34 yX2_holds, Cond.static yX2_holds, Cond.code yX2_holds cX2_holds 3 (some .boolean)]
def wsX8_bindsEndorser : List Cond := .code yX8_bindsEndorser cX8_bindsEndorser 3 (some .boolean) :: ((wsX8_bindsEndorser_r1 ++ wsX8_bindsEndorser_r2) ++ wsX00 ++ wsX80 ++ wsX20)
def wsX8_recourse_r1 : List Cond := [Cond.fieldLink RX8 127 "ChangerFair$Bill" "state" "I", Cond.fieldLink RX8 174 "ChangerFair$Bill" "drawer" "I", Cond.fieldLink RX8 92 "ChangerFair" "day" "I", Cond.methodLink RX8 123 yX8_billAt, Cond.instanceMethod yX8_billAt, Cond.selects RX8 yX8_billAt yX8_billAt, Cond.initialized RX8, Cond.code yX8_billAt cX8_billAt 2 (some (.object "ChangerFair$Bill")), Cond.fieldLink RX8 113 "ChangerFair" "billCount" "I", Cond.fieldLink RX8 22 "ChangerFair" "bills" "[LChangerFair$Bill;", Cond.methodLink RX8 88 yX8_finding, Cond.instanceMethod yX8_finding, Cond.selects RX8 yX8_finding yX8_finding, Cond.code yX8_finding cX8_finding 2 (some .long), Cond.fieldLink RX8 9 "ChangerFair" "findings" "[J", Cond.constantLong RX8 336 (-1000000000000), Cond.methodLink RX8 168 yX0_hasEndorser, Cond.instanceMethod yX0_hasEndorser, Cond.selects RX0 yX0_hasEndorser yX0_hasEndorser, Cond.initialized RX0, Cond.code yX0_hasEndorser cX0_hasEndorser 2 (some .boolean), Cond.fieldLink RX0 35 "ChangerFair$Bill" "endorserCount" "I", Cond.methodLink RX8 171 yX8_bindsEndorser, Cond.instanceMethod yX8_bindsEndorser]
def wsX8_recourse_r2 : List Cond := [Cond.selects RX8 yX8_bindsEndorser yX8_bindsEndorser, Cond.code yX8_bindsEndorser cX8_bindsEndorser 3 (some .boolean), Cond.fieldLink RX8 161 "ChangerFair$Bill" "amount" "I", Cond.fieldLink RX8 184 "ChangerFair$Bill" "kind" "I", Cond.methodLink RX8 164 yX0_daysLate, Cond.instanceMethod yX0_daysLate, Cond.selects RX0 yX0_daysLate yX0_daysLate, Cond.code yX0_daysLate cX0_daysLate 1 (some .int), Cond.fieldLink RX0 13 "ChangerFair$Bill" "began" "[I", Cond.methodLink RX8 177 yX0_endorserAt, Cond.instanceMethod yX0_endorserAt, Cond.selects RX0 yX0_endorserAt yX0_endorserAt, Cond.code yX0_endorserAt cX0_endorserAt 2 (some .int), Cond.fieldLink RX0 9 "ChangerFair$Bill" "endorsers" "[I", Cond.methodLink RX8 190 yX8_roadOf, Cond.instanceMethod yX8_roadOf, Cond.selects RX8 yX8_roadOf yX8_roadOf, Cond.code yX8_roadOf cX8_roadOf 2 (some .int), Cond.fieldLink RX8 13 "ChangerFair" "roads" "[I", Cond.fieldLink RX8 17 "ChangerFair" "seats" "[I", Cond.methodLink RX8 216 yX8_customBinds, Cond.instanceMethod yX8_customBinds, Cond.selects RX8 yX8_customBinds yX8_customBinds, Cond.code yX8_customBinds cX8_customBinds 6 (some .boolean)]
def wsX8_recourse_r3 : List Cond := [Cond.fieldLink RX8 28 "ChangerFair" "facts" "[I", Cond.fieldLink RX8 77 "ChangerFair" "custom" "LChangerFair$Custom;", Cond.methodLink RX8 338 yX2_bindsFor, Cond.instanceMethod yX2_bindsFor, Cond.selects RX2 yX2_bindsFor yX2_bindsFor, Cond.initialized RX2, Cond.code yX2_bindsFor cX2_bindsFor 3 (some .boolean), Cond.fieldLink RX2 26 "ChangerFair$Custom" "clauseCount" "I", Cond.fieldLink RX2 9 "ChangerFair$Custom" "verdicts" "[Z", Cond.methodLink RX2 30 yX2_allTestsHold, Cond.instanceMethod yX2_allTestsHold, Cond.selects RX2 yX2_allTestsHold yX2_allTestsHold, Cond.code yX2_allTestsHold cX2_allTestsHold 5 (some .boolean), Cond.fieldLink RX2 13 "ChangerFair$Custom" "testCounts" "[I", Cond.fieldLink RX2 17 "ChangerFair$Custom" "values" "[I", Cond.fieldLink RX2 20 "ChangerFair$Custom" "signs" "[I", Cond.fieldLink RX2 23 "ChangerFair$Custom" "numbers" "[I", Cond.methodLink RX2 34 yX2_holds, Cond.static yX2_holds, Cond.code yX2_holds cX2_holds 3 (some .boolean), Cond.methodLink RX8 149 yX8_overfills, Cond.instanceMethod yX8_overfills, Cond.selects RX8 yX8_overfills yX8_overfills, Cond.code yX8_overfills cX8_overfills 3 (some .boolean)]
def wsX8_recourse_r4 : List Cond := [Cond.fieldLink RX8 130 "ChangerFair$Bill" "holder" "I", Cond.fieldLink RX8 42 "ChangerFair" "book" "LChangerFair$Book;", Cond.methodLink RX8 225 yX1_overfills, Cond.instanceMethod yX1_overfills, Cond.selects RX1 yX1_overfills yX1_overfills, Cond.initialized RX1, Cond.code yX1_overfills cX1_overfills 5 (some .boolean), Cond.fieldLink RX1 11 "ChangerFair$Book" "debts" "[[J", Cond.constantLong RX1 16 (1000000000), Cond.methodLink RX8 153 yX8_charge, Cond.instanceMethod yX8_charge, Cond.selects RX8 yX8_charge yX8_charge, Cond.code yX8_charge cX8_charge 3 none, Cond.methodLink RX8 228 yX1_charge, Cond.instanceMethod yX1_charge, Cond.selects RX1 yX1_charge yX1_charge, Cond.code yX1_charge cX1_charge 7 none, Cond.methodLink RX1 18 Lib.MathLoose.max_long.x, Cond.static Lib.MathLoose.max_long.x, Cond.initialized "java/lang/Math", Cond.code Lib.MathLoose.max_long.x Lib.MathLoose.max_long.code 4 (some .long), Cond.fieldLink RX1 24 "ChangerFair$Book" "changes" "J", Cond.methodLink RX8 119 yX0_become, Cond.instanceMethod yX0_become]
def wsX8_recourse_r5 : List Cond := [Cond.selects RX0 yX0_become yX0_become, Cond.code yX0_become cX0_become 3 none, Cond.fieldLink RX0 32 "ChangerFair$Bill" "state" "I", Cond.methodLink RX8 181 yX0_returnTo, Cond.instanceMethod yX0_returnTo, Cond.selects RX0 yX0_returnTo yX0_returnTo, Cond.code yX0_returnTo cX0_returnTo 2 none, Cond.fieldLink RX0 26 "ChangerFair$Bill" "holder" "I", Cond.methodLink RX0 38 yX0_hasEndorser]
def wsX8_recourse : List Cond := .code yX8_recourse cX8_recourse 5 (some .long) :: ((wsX8_recourse_r1 ++ (wsX8_recourse_r2 ++ (wsX8_recourse_r3 ++ (wsX8_recourse_r4 ++ wsX8_recourse_r5)))) ++ wsX00 ++ wsX80 ++ wsX20 ++ wsX10)
def wsX8_about_r1 : List Cond := [Cond.fieldLink RX8 184 "ChangerFair$Bill" "kind" "I", Cond.fieldLink RX8 174 "ChangerFair$Bill" "drawer" "I", Cond.fieldLink RX8 146 "ChangerFair$Bill" "drawee" "I", Cond.fieldLink RX8 130 "ChangerFair$Bill" "holder" "I", Cond.fieldLink RX8 161 "ChangerFair$Bill" "amount" "I", Cond.fieldLink RX8 127 "ChangerFair$Bill" "state" "I", Cond.fieldLink RX8 140 "ChangerFair$Bill" "endorserCount" "I", Cond.methodLink RX8 123 yX8_billAt, Cond.instanceMethod yX8_billAt, Cond.selects RX8 yX8_billAt yX8_billAt, Cond.initialized RX8, Cond.code yX8_billAt cX8_billAt 2 (some (.object "ChangerFair$Bill")), Cond.fieldLink RX8 113 "ChangerFair" "billCount" "I", Cond.fieldLink RX8 22 "ChangerFair" "bills" "[LChangerFair$Bill;", Cond.methodLink RX8 88 yX8_finding, Cond.instanceMethod yX8_finding, Cond.selects RX8 yX8_finding yX8_finding, Cond.code yX8_finding cX8_finding 2 (some .long), Cond.fieldLink RX8 9 "ChangerFair" "findings" "[J", Cond.constantLong RX8 336 (-1000000000000), Cond.methodLink RX8 168 yX0_hasEndorser, Cond.instanceMethod yX0_hasEndorser, Cond.selects RX0 yX0_hasEndorser yX0_hasEndorser, Cond.initialized RX0]
def wsX8_about_r2 : List Cond := [Cond.code yX0_hasEndorser cX0_hasEndorser 2 (some .boolean), Cond.fieldLink RX0 35 "ChangerFair$Bill" "endorserCount" "I", Cond.methodLink RX8 177 yX0_endorserAt, Cond.instanceMethod yX0_endorserAt, Cond.selects RX0 yX0_endorserAt yX0_endorserAt, Cond.code yX0_endorserAt cX0_endorserAt 2 (some .int), Cond.fieldLink RX0 9 "ChangerFair$Bill" "endorsers" "[I", Cond.methodLink RX8 187 yX0_stateDay, Cond.instanceMethod yX0_stateDay, Cond.selects RX0 yX0_stateDay yX0_stateDay, Cond.code yX0_stateDay cX0_stateDay 1 (some .int), Cond.fieldLink RX0 13 "ChangerFair$Bill" "began" "[I", Cond.fieldLink RX0 32 "ChangerFair$Bill" "state" "I"]
def wsX8_about : List Cond := .code yX8_about cX8_about 4 (some .long) :: ((wsX8_about_r1 ++ wsX8_about_r2) ++ wsX00 ++ wsX80)
def wsX8_as : List Cond := .code yX8_as cX8_as 4 (some .long) :: ([.fieldLink RX8 184 "ChangerFair$Bill" "kind" "I", .fieldLink RX8 161 "ChangerFair$Bill" "amount" "I", .methodLink RX8 123 yX8_billAt, .instanceMethod yX8_billAt, .selects RX8 yX8_billAt yX8_billAt, .initialized RX8, .code yX8_billAt cX8_billAt 2 (some (.object "ChangerFair$Bill")), .fieldLink RX8 113 "ChangerFair" "billCount" "I", .fieldLink RX8 22 "ChangerFair" "bills" "[LChangerFair$Bill;", .methodLink RX8 109 yX8_isBillKind, .static yX8_isBillKind, .code yX8_isBillKind cX8_isBillKind 1 (some .boolean), .methodLink RX8 88 yX8_finding, .instanceMethod yX8_finding, .selects RX8 yX8_finding yX8_finding, .code yX8_finding cX8_finding 2 (some .long), .fieldLink RX8 9 "ChangerFair" "findings" "[J", .constantLong RX8 336 (-1000000000000)] ++ wsX00 ++ wsX80)
def wsX8_knows_r1 : List Cond := [Cond.methodLink RX8 123 yX8_billAt, Cond.instanceMethod yX8_billAt, Cond.selects RX8 yX8_billAt yX8_billAt, Cond.initialized RX8, Cond.code yX8_billAt cX8_billAt 2 (some (.object "ChangerFair$Bill")), Cond.fieldLink RX8 113 "ChangerFair" "billCount" "I", Cond.fieldLink RX8 22 "ChangerFair" "bills" "[LChangerFair$Bill;", Cond.methodLink RX8 106 yX8_isHouse, Cond.static yX8_isHouse, Cond.code yX8_isHouse cX8_isHouse 1 (some .boolean), Cond.methodLink RX8 88 yX8_finding, Cond.instanceMethod yX8_finding, Cond.selects RX8 yX8_finding yX8_finding, Cond.code yX8_finding cX8_finding 2 (some .long), Cond.fieldLink RX8 9 "ChangerFair" "findings" "[J", Cond.constantLong RX8 336 (-1000000000000), Cond.methodLink RX8 190 yX8_roadOf, Cond.instanceMethod yX8_roadOf, Cond.selects RX8 yX8_roadOf yX8_roadOf, Cond.code yX8_roadOf cX8_roadOf 2 (some .int), Cond.fieldLink RX8 13 "ChangerFair" "roads" "[I", Cond.fieldLink RX8 17 "ChangerFair" "seats" "[I", Cond.methodLink RX8 193 yX0_latestStateBy, Cond.instanceMethod yX0_latestStateBy]
def wsX8_knows_r2 : List Cond := [Cond.selects RX0 yX0_latestStateBy yX0_latestStateBy, Cond.initialized RX0, Cond.code yX0_latestStateBy cX0_latestStateBy 3 (some .int), Cond.fieldLink RX0 13 "ChangerFair$Bill" "began" "[I"]
def wsX8_knows : List Cond := .code yX8_knows cX8_knows 6 (some .long) :: ((wsX8_knows_r1 ++ wsX8_knows_r2) ++ wsX80 ++ wsX00)
def wsX8_feed : List Cond := .code yX8_feed cX8_feed 4 (some .long) :: ([.fieldLink RX8 35 "ChangerFair" "reader" "LChangerFair$CustomReader;", .fieldLink RX8 203 "ChangerFair$CustomReader" "length" "I", .methodLink RX8 88 yX8_finding, .instanceMethod yX8_finding, .selects RX8 yX8_finding yX8_finding, .initialized RX8, .code yX8_finding cX8_finding 2 (some .long), .fieldLink RX8 9 "ChangerFair" "findings" "[J", .constantLong RX8 336 (-1000000000000), .methodLink RX8 196 yX3_hasRoomFor, .instanceMethod yX3_hasRoomFor, .selects RX3 yX3_hasRoomFor yX3_hasRoomFor, .initialized RX3, .code yX3_hasRoomFor cX3_hasRoomFor 2 (some .boolean), .fieldLink RX3 17 "ChangerFair$CustomReader" "length" "I", .methodLink RX8 199 yX3_append, .instanceMethod yX3_append, .selects RX3 yX3_append yX3_append, .code yX3_append cX3_append 5 none, .fieldLink RX3 13 "ChangerFair$CustomReader" "tape" "[I"] ++ wsX80 ++ wsX30)
def wsX8_read_r1 : List Cond := [Cond.fieldLink RX8 35 "ChangerFair" "reader" "LChangerFair$CustomReader;", Cond.fieldLink RX8 81 "ChangerFair" "draft" "LChangerFair$Custom;", Cond.fieldLink RX8 77 "ChangerFair" "custom" "LChangerFair$Custom;", Cond.fieldLink RX8 210 "ChangerFair$Custom" "clauseCount" "I", Cond.methodLink RX8 206 yX3_readInto, Cond.instanceMethod yX3_readInto, Cond.selects RX3 yX3_readInto yX3_readInto, Cond.initialized RX3, Cond.code yX3_readInto cX3_readInto 3 (some .boolean), Cond.fieldLink RX3 25 "ChangerFair$CustomReader" "place" "I", Cond.fieldLink RX3 32 "ChangerFair$CustomReader" "wordPlace" "I", Cond.fieldLink RX3 9 "ChangerFair$CustomReader" "faultPlace" "I", Cond.fieldLink RX3 17 "ChangerFair$CustomReader" "length" "I", Cond.methodLink RX3 20 yX2_forget, Cond.instanceMethod yX2_forget, Cond.selects RX2 yX2_forget yX2_forget, Cond.initialized RX2, Cond.code yX2_forget cX2_forget 1 none, Cond.fieldLink RX2 26 "ChangerFair$Custom" "clauseCount" "I", Cond.methodLink RX3 28 yX3_readText, Cond.instanceMethod yX3_readText, Cond.selects RX3 yX3_readText yX3_readText, Cond.code yX3_readText cX3_readText 3 (some .boolean), Cond.fieldLink RX3 38 "ChangerFair$CustomReader" "word" "I"]
def wsX8_read_r2 : List Cond := [Cond.methodLink RX3 35 yX3_nextWord, Cond.instanceMethod yX3_nextWord, Cond.selects RX3 yX3_nextWord yX3_nextWord, Cond.code yX3_nextWord cX3_nextWord 1 none, Cond.fieldLink RX3 13 "ChangerFair$CustomReader" "tape" "[I", Cond.methodLink RX3 59 yX3_isLetter, Cond.static yX3_isLetter, Cond.code yX3_isLetter cX3_isLetter 1 (some .boolean), Cond.methodLink RX3 63 yX3_readLetters, Cond.instanceMethod yX3_readLetters, Cond.selects RX3 yX3_readLetters yX3_readLetters, Cond.code yX3_readLetters cX3_readLetters 1 none, Cond.methodLink RX3 83 yX3_letterWord, Cond.instanceMethod yX3_letterWord, Cond.selects RX3 yX3_letterWord yX3_letterWord, Cond.code yX3_letterWord cX3_letterWord 1 (some .int), Cond.methodLink RX3 89 yX3_spells, Cond.instanceMethod yX3_spells, Cond.selects RX3 yX3_spells yX3_spells, Cond.code yX3_spells cX3_spells 3 (some .boolean), Cond.methodLink RX3 109 yJ0_length_8abf5, Cond.instanceMethod yJ0_length_8abf5, Cond.selects RJ0 yJ0_length_8abf5 yJ0_length_8abf5, Cond.initialized RJ0]
def wsX8_read_r3 : List Cond := [Cond.code yJ0_length_8abf5 cJ0_length_8abf5 1 (some .int), Cond.fieldLink RJ0 9 "java/lang/String" "value" "[B", Cond.methodLink RJ0 335 yJ0_coder_7d493, Cond.instanceMethod yJ0_coder_7d493, Cond.selects RJ0 yJ0_coder_7d493 yJ0_coder_7d493, Cond.code yJ0_coder_7d493 cJ0_coder_7d493 1 (some .byte), Cond.fieldLink RJ0 38 "java/lang/String" "COMPACT_STRINGS" "Z", Cond.fieldLink RJ0 15 "java/lang/String" "coder" "B", Cond.methodLink RX3 113 yJ0_charAt_5068e, Cond.instanceMethod yJ0_charAt_5068e, Cond.selects RJ0 yJ0_charAt_5068e yJ0_charAt_5068e, Cond.code yJ0_charAt_5068e cJ0_charAt_5068e 2 (some .char), Cond.methodLink RJ0 492 yJ0_isLatin1_aae02, Cond.instanceMethod yJ0_isLatin1_aae02, Cond.selects RJ0 yJ0_isLatin1_aae02 yJ0_isLatin1_aae02, Cond.code yJ0_isLatin1_aae02 cJ0_isLatin1_aae02 1 (some .boolean), Cond.methodLink RJ0 495 yJ1_charAt_3b067, Cond.static yJ1_charAt_3b067, Cond.initialized RJ1, Cond.code yJ1_charAt_3b067 cJ1_charAt_3b067 2 (some .char), Cond.methodLink RJ1 9 yJ0_checkIndex_df160, Cond.static yJ0_checkIndex_df160, Cond.code yJ0_checkIndex_df160 cJ0_checkIndex_df160 2 none, Cond.fieldLink RJ0 1053 "jdk/internal/util/Preconditions" "SIOOBE_FORMATTER" "Ljava/util/function/BiFunction;"]
def wsX8_read_r4 : List Cond := [Cond.methodLink RJ0 1059 yJ3_checkIndex_8e157, Cond.static yJ3_checkIndex_8e157, Cond.initialized RJ3, Cond.code yJ3_checkIndex_8e157 cJ3_checkIndex_8e157 3 (some .int), Cond.methodLink RJ0 498 yJ2_charAt_3b067, Cond.static yJ2_charAt_3b067, Cond.initialized RJ2, Cond.code yJ2_charAt_3b067 cJ2_charAt_3b067 2 (some .char), Cond.methodLink RJ2 67 yJ2_checkIndex_2214a, Cond.static yJ2_checkIndex_2214a, Cond.code yJ2_checkIndex_2214a cJ2_checkIndex_2214a 2 none, Cond.methodLink RJ2 48 yJ2_length_9d52b, Cond.static yJ2_length_9d52b, Cond.code yJ2_length_9d52b cJ2_length_9d52b 1 (some .int), Cond.methodLink RJ2 414 yJ0_checkIndex_df160, Cond.methodLink RJ2 71 yJ2_getChar_3b067, Cond.static yJ2_getChar_3b067, Cond.code yJ2_getChar_3b067 cJ2_getChar_3b067 2 (some .char), Cond.fieldLink RJ2 44 "java/lang/StringUTF16" "$assertionsDisabled" "Z", Cond.fieldLink RJ2 59 "java/lang/StringUTF16" "HI_BYTE_SHIFT" "I", Cond.fieldLink RJ2 63 "java/lang/StringUTF16" "LO_BYTE_SHIFT" "I", Cond.methodLink RX3 66 yX3_isFigure, Cond.static yX3_isFigure, Cond.code yX3_isFigure cX3_isFigure 1 (some .boolean)]
def wsX8_read_r5 : List Cond := [Cond.methodLink RX3 69 yX3_readFigures, Cond.instanceMethod yX3_readFigures, Cond.selects RX3 yX3_readFigures yX3_readFigures, Cond.code yX3_readFigures cX3_readFigures 1 none, Cond.fieldLink RX3 51 "ChangerFair$CustomReader" "number" "I", Cond.constant RX3 76 (1000000), Cond.methodLink RX3 77 Lib.Math.min.name, Cond.static Lib.Math.min.name, Cond.initialized "java/lang/Math", Cond.code Lib.Math.min.name Lib.Math.min.code 2 (some .int), Cond.methodLink RX3 72 yX3_signWord, Cond.static yX3_signWord, Cond.code yX3_signWord cX3_signWord 1 (some .int), Cond.methodLink RX3 41 yX3_readClause, Cond.instanceMethod yX3_readClause, Cond.selects RX3 yX3_readClause yX3_readClause, Cond.code yX3_readClause cX3_readClause 3 (some .boolean), Cond.methodLink RX3 44 yX2_addClause, Cond.instanceMethod yX2_addClause, Cond.selects RX2 yX2_addClause yX2_addClause, Cond.code yX2_addClause cX2_addClause 2 none, Cond.fieldLink RX2 9 "ChangerFair$Custom" "verdicts" "[Z", Cond.fieldLink RX2 13 "ChangerFair$Custom" "testCounts" "[I", Cond.methodLink RX3 48 yX3_readTest]
def wsX8_read_r6 : List Cond := [Cond.instanceMethod yX3_readTest, Cond.selects RX3 yX3_readTest yX3_readTest, Cond.code yX3_readTest cX3_readTest 4 (some .boolean), Cond.constant RX3 54 (999999), Cond.methodLink RX3 55 yX2_addTest, Cond.instanceMethod yX2_addTest, Cond.selects RX2 yX2_addTest yX2_addTest, Cond.code yX2_addTest cX2_addTest 6 none, Cond.fieldLink RX2 17 "ChangerFair$Custom" "values" "[I", Cond.fieldLink RX2 20 "ChangerFair$Custom" "signs" "[I", Cond.fieldLink RX2 23 "ChangerFair$Custom" "numbers" "[I", Cond.methodLink RX8 88 yX8_finding, Cond.instanceMethod yX8_finding, Cond.selects RX8 yX8_finding yX8_finding, Cond.initialized RX8, Cond.code yX8_finding cX8_finding 2 (some .long), Cond.fieldLink RX8 9 "ChangerFair" "findings" "[J", Cond.constantLong RX8 336 (-1000000000000)]
def wsX8_read : List Cond := .code yX8_read cX8_read 2 (some .long) :: ((wsX8_read_r1 ++ (wsX8_read_r2 ++ (wsX8_read_r3 ++ (wsX8_read_r4 ++ (wsX8_read_r5 ++ wsX8_read_r6))))) ++ wsX80 ++ wsX20 ++ wsX30)
def wsX8_fault : List Cond := .code yX8_fault cX8_fault 1 (some .long) :: ([.fieldLink RX8 35 "ChangerFair" "reader" "LChangerFair$CustomReader;", .fieldLink RX8 213 "ChangerFair$CustomReader" "faultPlace" "I"] ++ wsX80 ++ wsX30)
def wsX8_binds_r1 : List Cond := [Cond.methodLink RX8 88 yX8_finding, Cond.instanceMethod yX8_finding, Cond.selects RX8 yX8_finding yX8_finding, Cond.initialized RX8, Cond.code yX8_finding cX8_finding 2 (some .long), Cond.fieldLink RX8 9 "ChangerFair" "findings" "[J", Cond.constantLong RX8 336 (-1000000000000), Cond.methodLink RX8 216 yX8_customBinds, Cond.instanceMethod yX8_customBinds, Cond.selects RX8 yX8_customBinds yX8_customBinds, Cond.code yX8_customBinds cX8_customBinds 6 (some .boolean), Cond.fieldLink RX8 28 "ChangerFair" "facts" "[I", Cond.fieldLink RX8 77 "ChangerFair" "custom" "LChangerFair$Custom;", Cond.methodLink RX8 338 yX2_bindsFor, Cond.instanceMethod yX2_bindsFor, Cond.selects RX2 yX2_bindsFor yX2_bindsFor, Cond.initialized RX2, Cond.code yX2_bindsFor cX2_bindsFor 3 (some .boolean), Cond.fieldLink RX2 26 "ChangerFair$Custom" "clauseCount" "I", Cond.fieldLink RX2 9 "ChangerFair$Custom" "verdicts" "[Z", Cond.methodLink RX2 30 yX2_allTestsHold, Cond.instanceMethod yX2_allTestsHold, Cond.selects RX2 yX2_allTestsHold yX2_allTestsHold, Cond.code yX2_allTestsHold cX2_allTestsHold 5 (some .boolean)]
def wsX8_binds_r2 : List Cond := [Cond.fieldLink RX2 13 "ChangerFair$Custom" "testCounts" "[I", Cond.fieldLink RX2 17 "ChangerFair$Custom" "values" "[I", Cond.fieldLink RX2 20 "ChangerFair$Custom" "signs" "[I", Cond.fieldLink RX2 23 "ChangerFair$Custom" "numbers" "[I", Cond.methodLink RX2 34 yX2_holds, Cond.static yX2_holds, Cond.code yX2_holds cX2_holds 3 (some .boolean)]
def wsX8_binds : List Cond := .code yX8_binds cX8_binds 6 (some .long) :: ((wsX8_binds_r1 ++ wsX8_binds_r2) ++ wsX80 ++ wsX20)
def wsX8_areTwoHouses : List Cond := .code yX8_areTwoHouses cX8_areTwoHouses 2 (some .boolean) :: ([.methodLink RX8 106 yX8_isHouse, .static yX8_isHouse, .initialized RX8, .code yX8_isHouse cX8_isHouse 1 (some .boolean)])
def wsX8_owe_r1 : List Cond := [Cond.constant RX8 224 (1000000), Cond.fieldLink RX8 42 "ChangerFair" "book" "LChangerFair$Book;", Cond.methodLink RX8 220 yX8_areTwoHouses, Cond.static yX8_areTwoHouses, Cond.initialized RX8, Cond.code yX8_areTwoHouses cX8_areTwoHouses 2 (some .boolean), Cond.methodLink RX8 106 yX8_isHouse, Cond.static yX8_isHouse, Cond.code yX8_isHouse cX8_isHouse 1 (some .boolean), Cond.methodLink RX8 88 yX8_finding, Cond.instanceMethod yX8_finding, Cond.selects RX8 yX8_finding yX8_finding, Cond.code yX8_finding cX8_finding 2 (some .long), Cond.fieldLink RX8 9 "ChangerFair" "findings" "[J", Cond.constantLong RX8 336 (-1000000000000), Cond.methodLink RX8 225 yX1_overfills, Cond.instanceMethod yX1_overfills, Cond.selects RX1 yX1_overfills yX1_overfills, Cond.initialized RX1, Cond.code yX1_overfills cX1_overfills 5 (some .boolean), Cond.fieldLink RX1 11 "ChangerFair$Book" "debts" "[[J", Cond.constantLong RX1 16 (1000000000), Cond.methodLink RX8 228 yX1_charge, Cond.instanceMethod yX1_charge]
def wsX8_owe_r2 : List Cond := [Cond.selects RX1 yX1_charge yX1_charge, Cond.code yX1_charge cX1_charge 7 none, Cond.methodLink RX1 18 Lib.MathLoose.max_long.x, Cond.static Lib.MathLoose.max_long.x, Cond.initialized "java/lang/Math", Cond.code Lib.MathLoose.max_long.x Lib.MathLoose.max_long.code 4 (some .long), Cond.fieldLink RX1 24 "ChangerFair$Book" "changes" "J", Cond.methodLink RX8 231 yX1_debt, Cond.instanceMethod yX1_debt, Cond.selects RX1 yX1_debt yX1_debt, Cond.code yX1_debt cX1_debt 3 (some .long)]
def wsX8_owe : List Cond := .code yX8_owe cX8_owe 4 (some .long) :: ((wsX8_owe_r1 ++ wsX8_owe_r2) ++ wsX80 ++ wsX10)
def wsX8_owes : List Cond := .code yX8_owes cX8_owes 3 (some .long) :: ([.fieldLink RX8 42 "ChangerFair" "book" "LChangerFair$Book;", .methodLink RX8 220 yX8_areTwoHouses, .static yX8_areTwoHouses, .initialized RX8, .code yX8_areTwoHouses cX8_areTwoHouses 2 (some .boolean), .methodLink RX8 106 yX8_isHouse, .static yX8_isHouse, .code yX8_isHouse cX8_isHouse 1 (some .boolean), .methodLink RX8 88 yX8_finding, .instanceMethod yX8_finding, .selects RX8 yX8_finding yX8_finding, .code yX8_finding cX8_finding 2 (some .long), .fieldLink RX8 9 "ChangerFair" "findings" "[J", .constantLong RX8 336 (-1000000000000), .methodLink RX8 231 yX1_debt, .instanceMethod yX1_debt, .selects RX1 yX1_debt yX1_debt, .initialized RX1, .code yX1_debt cX1_debt 3 (some .long), .fieldLink RX1 11 "ChangerFair$Book" "debts" "[[J"] ++ wsX80 ++ wsX10)
def wsX8_net : List Cond := .code yX8_net cX8_net 2 (some .long) :: ([.fieldLink RX8 42 "ChangerFair" "book" "LChangerFair$Book;", .methodLink RX8 106 yX8_isHouse, .static yX8_isHouse, .initialized RX8, .code yX8_isHouse cX8_isHouse 1 (some .boolean), .methodLink RX8 88 yX8_finding, .instanceMethod yX8_finding, .selects RX8 yX8_finding yX8_finding, .code yX8_finding cX8_finding 2 (some .long), .fieldLink RX8 9 "ChangerFair" "findings" "[J", .constantLong RX8 336 (-1000000000000), .methodLink RX8 235 yX1_balance, .instanceMethod yX1_balance, .selects RX1 yX1_balance yX1_balance, .initialized RX1, .code yX1_balance cX1_balance 5 (some .long), .fieldLink RX1 11 "ChangerFair$Book" "debts" "[[J"] ++ wsX80 ++ wsX10)
def wsX8_plan_r1 : List Cond := [Cond.fieldLink RX8 49 "ChangerFair" "plan" "LChangerFair$Plan;", Cond.fieldLink RX8 42 "ChangerFair" "book" "LChangerFair$Book;", Cond.fieldLink RX8 242 "ChangerFair$Plan" "groupCount" "I", Cond.fieldLink RX8 245 "ChangerFair$Plan" "paymentCount" "I", Cond.methodLink RX8 238 yX5_refresh, Cond.instanceMethod yX5_refresh, Cond.selects RX5 yX5_refresh yX5_refresh, Cond.initialized RX5, Cond.code yX5_refresh cX5_refresh 5 none, Cond.fieldLink RX5 36 "ChangerFair$Plan" "changesSeen" "J", Cond.fieldLink RX5 40 "ChangerFair$Book" "changes" "J", Cond.fieldLink RX5 45 "ChangerFair$Plan" "groupCount" "I", Cond.fieldLink RX5 49 "ChangerFair$Plan" "paymentCount" "I", Cond.methodLink RX5 52 yX5_readNets, Cond.instanceMethod yX5_readNets, Cond.selects RX5 yX5_readNets yX5_readNets, Cond.code yX5_readNets cX5_readNets 4 (some .int), Cond.fieldLink RX5 9 "ChangerFair$Plan" "left" "[J", Cond.methodLink RX5 77 yX1_balance, Cond.instanceMethod yX1_balance, Cond.selects RX1 yX1_balance yX1_balance, Cond.initialized RX1, Cond.code yX1_balance cX1_balance 5 (some .long), Cond.fieldLink RX1 11 "ChangerFair$Book" "debts" "[[J"]
def wsX8_plan_r2 : List Cond := [Cond.methodLink RX5 56 yX5_addUp, Cond.instanceMethod yX5_addUp, Cond.selects RX5 yX5_addUp yX5_addUp, Cond.code yX5_addUp cX5_addUp 4 none, Cond.fieldLink RX5 15 "ChangerFair$Plan" "sums" "[J", Cond.methodLink RX5 59 yX5_listZeroSets, Cond.instanceMethod yX5_listZeroSets, Cond.selects RX5 yX5_listZeroSets yX5_listZeroSets, Cond.code yX5_listZeroSets cX5_listZeroSets 3 none, Cond.fieldLink RX5 81 "ChangerFair$Plan" "zeroSetCount" "I", Cond.fieldLink RX5 18 "ChangerFair$Plan" "zeroSets" "[I", Cond.methodLink RX5 63 yX5_countGroups, Cond.instanceMethod yX5_countGroups, Cond.selects RX5 yX5_countGroups yX5_countGroups, Cond.code yX5_countGroups cX5_countGroups 5 none, Cond.fieldLink RX5 22 "ChangerFair$Plan" "mostGroups" "[I", Cond.methodLink RX5 88 Lib.Math.max.name, Cond.static Lib.Math.max.name, Cond.initialized "java/lang/Math", Cond.code Lib.Math.max.name Lib.Math.max.code 2 (some .int), Cond.methodLink RX5 84 yX5_mayBeFirst, Cond.static yX5_mayBeFirst, Cond.code yX5_mayBeFirst cX5_mayBeFirst 3 (some .boolean), Cond.methodLink RX5 66 yX5_firstGroup]
def wsX8_plan_r3 : List Cond := [Cond.instanceMethod yX5_firstGroup, Cond.selects RX5 yX5_firstGroup yX5_firstGroup, Cond.code yX5_firstGroup cX5_firstGroup 4 (some .int), Cond.methodLink RX5 70 yX5_payWithin, Cond.instanceMethod yX5_payWithin, Cond.selects RX5 yX5_payWithin yX5_payWithin, Cond.code yX5_payWithin cX5_payWithin 7 none, Cond.methodLink RX5 97 Lib.MathLoose.min_long.x, Cond.static Lib.MathLoose.min_long.x, Cond.code Lib.MathLoose.min_long.x Lib.MathLoose.min_long.code 4 (some .long), Cond.fieldLink RX5 25 "ChangerFair$Plan" "payers" "[I", Cond.fieldLink RX5 28 "ChangerFair$Plan" "payees" "[I", Cond.fieldLink RX5 31 "ChangerFair$Plan" "amounts" "[J", Cond.methodLink RX5 94 yX5_leastOf, Cond.instanceMethod yX5_leastOf, Cond.selects RX5 yX5_leastOf yX5_leastOf, Cond.code yX5_leastOf cX5_leastOf 4 (some .int)]
def wsX8_plan : List Cond := .code yX8_plan cX8_plan 2 (some .long) :: ((wsX8_plan_r1 ++ (wsX8_plan_r2 ++ wsX8_plan_r3)) ++ wsX80 ++ wsX50 ++ wsX10)
def wsX8_payment_r1 : List Cond := [Cond.fieldLink RX8 49 "ChangerFair" "plan" "LChangerFair$Plan;", Cond.fieldLink RX8 42 "ChangerFair" "book" "LChangerFair$Book;", Cond.methodLink RX8 88 yX8_finding, Cond.instanceMethod yX8_finding, Cond.selects RX8 yX8_finding yX8_finding, Cond.initialized RX8, Cond.code yX8_finding cX8_finding 2 (some .long), Cond.fieldLink RX8 9 "ChangerFair" "findings" "[J", Cond.constantLong RX8 336 (-1000000000000), Cond.methodLink RX8 238 yX5_refresh, Cond.instanceMethod yX5_refresh, Cond.selects RX5 yX5_refresh yX5_refresh, Cond.initialized RX5, Cond.code yX5_refresh cX5_refresh 5 none, Cond.fieldLink RX5 36 "ChangerFair$Plan" "changesSeen" "J", Cond.fieldLink RX5 40 "ChangerFair$Book" "changes" "J", Cond.fieldLink RX5 45 "ChangerFair$Plan" "groupCount" "I", Cond.fieldLink RX5 49 "ChangerFair$Plan" "paymentCount" "I", Cond.methodLink RX5 52 yX5_readNets, Cond.instanceMethod yX5_readNets, Cond.selects RX5 yX5_readNets yX5_readNets, Cond.code yX5_readNets cX5_readNets 4 (some .int), Cond.fieldLink RX5 9 "ChangerFair$Plan" "left" "[J", Cond.methodLink RX5 77 yX1_balance]
def wsX8_payment_r2 : List Cond := [Cond.instanceMethod yX1_balance, Cond.selects RX1 yX1_balance yX1_balance, Cond.initialized RX1, Cond.code yX1_balance cX1_balance 5 (some .long), Cond.fieldLink RX1 11 "ChangerFair$Book" "debts" "[[J", Cond.methodLink RX5 56 yX5_addUp, Cond.instanceMethod yX5_addUp, Cond.selects RX5 yX5_addUp yX5_addUp, Cond.code yX5_addUp cX5_addUp 4 none, Cond.fieldLink RX5 15 "ChangerFair$Plan" "sums" "[J", Cond.methodLink RX5 59 yX5_listZeroSets, Cond.instanceMethod yX5_listZeroSets, Cond.selects RX5 yX5_listZeroSets yX5_listZeroSets, Cond.code yX5_listZeroSets cX5_listZeroSets 3 none, Cond.fieldLink RX5 81 "ChangerFair$Plan" "zeroSetCount" "I", Cond.fieldLink RX5 18 "ChangerFair$Plan" "zeroSets" "[I", Cond.methodLink RX5 63 yX5_countGroups, Cond.instanceMethod yX5_countGroups, Cond.selects RX5 yX5_countGroups yX5_countGroups, Cond.code yX5_countGroups cX5_countGroups 5 none, Cond.fieldLink RX5 22 "ChangerFair$Plan" "mostGroups" "[I", Cond.methodLink RX5 88 Lib.Math.max.name, Cond.static Lib.Math.max.name, Cond.initialized "java/lang/Math"]
def wsX8_payment_r3 : List Cond := [Cond.code Lib.Math.max.name Lib.Math.max.code 2 (some .int), Cond.methodLink RX5 84 yX5_mayBeFirst, Cond.static yX5_mayBeFirst, Cond.code yX5_mayBeFirst cX5_mayBeFirst 3 (some .boolean), Cond.methodLink RX5 66 yX5_firstGroup, Cond.instanceMethod yX5_firstGroup, Cond.selects RX5 yX5_firstGroup yX5_firstGroup, Cond.code yX5_firstGroup cX5_firstGroup 4 (some .int), Cond.methodLink RX5 70 yX5_payWithin, Cond.instanceMethod yX5_payWithin, Cond.selects RX5 yX5_payWithin yX5_payWithin, Cond.code yX5_payWithin cX5_payWithin 7 none, Cond.methodLink RX5 97 Lib.MathLoose.min_long.x, Cond.static Lib.MathLoose.min_long.x, Cond.code Lib.MathLoose.min_long.x Lib.MathLoose.min_long.code 4 (some .long), Cond.fieldLink RX5 25 "ChangerFair$Plan" "payers" "[I", Cond.fieldLink RX5 28 "ChangerFair$Plan" "payees" "[I", Cond.fieldLink RX5 31 "ChangerFair$Plan" "amounts" "[J", Cond.methodLink RX5 94 yX5_leastOf, Cond.instanceMethod yX5_leastOf, Cond.selects RX5 yX5_leastOf yX5_leastOf, Cond.code yX5_leastOf cX5_leastOf 4 (some .int), Cond.methodLink RX8 248 yX5_hasPayment, Cond.instanceMethod yX5_hasPayment]
def wsX8_payment_r4 : List Cond := [Cond.selects RX5 yX5_hasPayment yX5_hasPayment, Cond.code yX5_hasPayment cX5_hasPayment 2 (some .boolean), Cond.methodLink RX8 251 yX5_figure, Cond.instanceMethod yX5_figure, Cond.selects RX5 yX5_figure yX5_figure, Cond.code yX5_figure cX5_figure 3 (some .long), Cond.methodLink RX5 73 yX5_hasPayment]
def wsX8_payment : List Cond := .code yX8_payment cX8_payment 3 (some .long) :: ((wsX8_payment_r1 ++ (wsX8_payment_r2 ++ (wsX8_payment_r3 ++ wsX8_payment_r4))) ++ wsX80 ++ wsX50 ++ wsX10)
def wsX8_clear_r1 : List Cond := [Cond.fieldLink RX8 49 "ChangerFair" "plan" "LChangerFair$Plan;", Cond.fieldLink RX8 42 "ChangerFair" "book" "LChangerFair$Book;", Cond.fieldLink RX8 245 "ChangerFair$Plan" "paymentCount" "I", Cond.methodLink RX8 238 yX5_refresh, Cond.instanceMethod yX5_refresh, Cond.selects RX5 yX5_refresh yX5_refresh, Cond.initialized RX5, Cond.code yX5_refresh cX5_refresh 5 none, Cond.fieldLink RX5 36 "ChangerFair$Plan" "changesSeen" "J", Cond.fieldLink RX5 40 "ChangerFair$Book" "changes" "J", Cond.fieldLink RX5 45 "ChangerFair$Plan" "groupCount" "I", Cond.fieldLink RX5 49 "ChangerFair$Plan" "paymentCount" "I", Cond.methodLink RX5 52 yX5_readNets, Cond.instanceMethod yX5_readNets, Cond.selects RX5 yX5_readNets yX5_readNets, Cond.code yX5_readNets cX5_readNets 4 (some .int), Cond.fieldLink RX5 9 "ChangerFair$Plan" "left" "[J", Cond.methodLink RX5 77 yX1_balance, Cond.instanceMethod yX1_balance, Cond.selects RX1 yX1_balance yX1_balance, Cond.initialized RX1, Cond.code yX1_balance cX1_balance 5 (some .long), Cond.fieldLink RX1 11 "ChangerFair$Book" "debts" "[[J", Cond.methodLink RX5 56 yX5_addUp]
def wsX8_clear_r2 : List Cond := [Cond.instanceMethod yX5_addUp, Cond.selects RX5 yX5_addUp yX5_addUp, Cond.code yX5_addUp cX5_addUp 4 none, Cond.fieldLink RX5 15 "ChangerFair$Plan" "sums" "[J", Cond.methodLink RX5 59 yX5_listZeroSets, Cond.instanceMethod yX5_listZeroSets, Cond.selects RX5 yX5_listZeroSets yX5_listZeroSets, Cond.code yX5_listZeroSets cX5_listZeroSets 3 none, Cond.fieldLink RX5 81 "ChangerFair$Plan" "zeroSetCount" "I", Cond.fieldLink RX5 18 "ChangerFair$Plan" "zeroSets" "[I", Cond.methodLink RX5 63 yX5_countGroups, Cond.instanceMethod yX5_countGroups, Cond.selects RX5 yX5_countGroups yX5_countGroups, Cond.code yX5_countGroups cX5_countGroups 5 none, Cond.fieldLink RX5 22 "ChangerFair$Plan" "mostGroups" "[I", Cond.methodLink RX5 88 Lib.Math.max.name, Cond.static Lib.Math.max.name, Cond.initialized "java/lang/Math", Cond.code Lib.Math.max.name Lib.Math.max.code 2 (some .int), Cond.methodLink RX5 84 yX5_mayBeFirst, Cond.static yX5_mayBeFirst, Cond.code yX5_mayBeFirst cX5_mayBeFirst 3 (some .boolean), Cond.methodLink RX5 66 yX5_firstGroup, Cond.instanceMethod yX5_firstGroup]
def wsX8_clear_r3 : List Cond := [Cond.selects RX5 yX5_firstGroup yX5_firstGroup, Cond.code yX5_firstGroup cX5_firstGroup 4 (some .int), Cond.methodLink RX5 70 yX5_payWithin, Cond.instanceMethod yX5_payWithin, Cond.selects RX5 yX5_payWithin yX5_payWithin, Cond.code yX5_payWithin cX5_payWithin 7 none, Cond.methodLink RX5 97 Lib.MathLoose.min_long.x, Cond.static Lib.MathLoose.min_long.x, Cond.code Lib.MathLoose.min_long.x Lib.MathLoose.min_long.code 4 (some .long), Cond.fieldLink RX5 25 "ChangerFair$Plan" "payers" "[I", Cond.fieldLink RX5 28 "ChangerFair$Plan" "payees" "[I", Cond.fieldLink RX5 31 "ChangerFair$Plan" "amounts" "[J", Cond.methodLink RX5 94 yX5_leastOf, Cond.instanceMethod yX5_leastOf, Cond.selects RX5 yX5_leastOf yX5_leastOf, Cond.code yX5_leastOf cX5_leastOf 4 (some .int), Cond.methodLink RX8 254 yX1_wipe, Cond.instanceMethod yX1_wipe, Cond.selects RX1 yX1_wipe yX1_wipe, Cond.code yX1_wipe cX1_wipe 3 none, Cond.fieldLink RX1 24 "ChangerFair$Book" "changes" "J", Cond.methodLink RX8 251 yX5_figure, Cond.instanceMethod yX5_figure, Cond.selects RX5 yX5_figure yX5_figure]
def wsX8_clear_r4 : List Cond := [Cond.code yX5_figure cX5_figure 3 (some .long), Cond.methodLink RX5 73 yX5_hasPayment, Cond.instanceMethod yX5_hasPayment, Cond.selects RX5 yX5_hasPayment yX5_hasPayment, Cond.code yX5_hasPayment cX5_hasPayment 2 (some .boolean), Cond.methodLink RX8 228 yX1_charge, Cond.instanceMethod yX1_charge, Cond.selects RX1 yX1_charge yX1_charge, Cond.code yX1_charge cX1_charge 7 none, Cond.methodLink RX1 18 Lib.MathLoose.max_long.x, Cond.static Lib.MathLoose.max_long.x, Cond.code Lib.MathLoose.max_long.x Lib.MathLoose.max_long.code 4 (some .long), Cond.methodLink RX8 257 yX1_total, Cond.instanceMethod yX1_total, Cond.selects RX1 yX1_total yX1_total, Cond.code yX1_total cX1_total 5 (some .long)]
def wsX8_clear : List Cond := .code yX8_clear cX8_clear 2 (some .long) :: ((wsX8_clear_r1 ++ (wsX8_clear_r2 ++ (wsX8_clear_r3 ++ wsX8_clear_r4))) ++ wsX80 ++ wsX50 ++ wsX10)
def wsX8_coin : List Cond := .code yX8_coin cX8_coin 4 (some .long) :: ([.fieldLink RX8 56 "ChangerFair" "purses" "LChangerFair$Purses;", .methodLink RX8 261 yX6_isKind, .static yX6_isKind, .initialized RX6, .code yX6_isKind cX6_isKind 1 (some .boolean), .methodLink RX8 264 yX6_isMeasure, .static yX6_isMeasure, .code yX6_isMeasure cX6_isMeasure 1 (some .boolean), .methodLink RX8 88 yX8_finding, .instanceMethod yX8_finding, .selects RX8 yX8_finding yX8_finding, .initialized RX8, .code yX8_finding cX8_finding 2 (some .long), .fieldLink RX8 9 "ChangerFair" "findings" "[J", .constantLong RX8 336 (-1000000000000), .methodLink RX8 267 yX6_mint, .instanceMethod yX6_mint, .selects RX6 yX6_mint yX6_mint, .code yX6_mint cX6_mint 4 none, .fieldLink RX6 11 "ChangerFair$Purses" "worths" "[I", .methodLink RX8 271 yX6_worth, .instanceMethod yX6_worth, .selects RX6 yX6_worth yX6_worth, .code yX6_worth cX6_worth 2 (some .int)] ++ wsX80 ++ wsX60)
def wsX8_purse_r1 : List Cond := [Cond.fieldLink RX8 56 "ChangerFair" "purses" "LChangerFair$Purses;", Cond.methodLink RX8 106 yX8_isHouse, Cond.static yX8_isHouse, Cond.initialized RX8, Cond.code yX8_isHouse cX8_isHouse 1 (some .boolean), Cond.methodLink RX8 261 yX6_isKind, Cond.static yX6_isKind, Cond.initialized RX6, Cond.code yX6_isKind cX6_isKind 1 (some .boolean), Cond.methodLink RX8 264 yX6_isMeasure, Cond.static yX6_isMeasure, Cond.code yX6_isMeasure cX6_isMeasure 1 (some .boolean), Cond.methodLink RX8 88 yX8_finding, Cond.instanceMethod yX8_finding, Cond.selects RX8 yX8_finding yX8_finding, Cond.code yX8_finding cX8_finding 2 (some .long), Cond.fieldLink RX8 9 "ChangerFair" "findings" "[J", Cond.constantLong RX8 336 (-1000000000000), Cond.methodLink RX8 274 yX6_held, Cond.instanceMethod yX6_held, Cond.selects RX6 yX6_held yX6_held, Cond.code yX6_held cX6_held 3 (some .int), Cond.fieldLink RX6 17 "ChangerFair$Purses" "coins" "[[I", Cond.methodLink RX8 278 yX6_put]
def wsX8_purse_r2 : List Cond := [Cond.instanceMethod yX6_put, Cond.selects RX6 yX6_put yX6_put, Cond.code yX6_put cX6_put 4 none]
def wsX8_purse : List Cond := .code yX8_purse cX8_purse 5 (some .long) :: ((wsX8_purse_r1 ++ wsX8_purse_r2) ++ wsX80 ++ wsX60)
def wsX8_has_r1 : List Cond := [Cond.fieldLink RX8 56 "ChangerFair" "purses" "LChangerFair$Purses;", Cond.methodLink RX8 106 yX8_isHouse, Cond.static yX8_isHouse, Cond.initialized RX8, Cond.code yX8_isHouse cX8_isHouse 1 (some .boolean), Cond.methodLink RX8 261 yX6_isKind, Cond.static yX6_isKind, Cond.initialized RX6, Cond.code yX6_isKind cX6_isKind 1 (some .boolean), Cond.methodLink RX8 88 yX8_finding, Cond.instanceMethod yX8_finding, Cond.selects RX8 yX8_finding yX8_finding, Cond.code yX8_finding cX8_finding 2 (some .long), Cond.fieldLink RX8 9 "ChangerFair" "findings" "[J", Cond.constantLong RX8 336 (-1000000000000), Cond.methodLink RX8 281 yX6_wealth, Cond.instanceMethod yX6_wealth, Cond.selects RX6 yX6_wealth yX6_wealth, Cond.code yX6_wealth cX6_wealth 5 (some .long), Cond.fieldLink RX6 17 "ChangerFair$Purses" "coins" "[[I", Cond.fieldLink RX6 11 "ChangerFair$Purses" "worths" "[I", Cond.methodLink RX8 274 yX6_held, Cond.instanceMethod yX6_held, Cond.selects RX6 yX6_held yX6_held]
def wsX8_has_r2 : List Cond := [Cond.code yX6_held cX6_held 3 (some .int)]
def wsX8_has : List Cond := .code yX8_has cX8_has 3 (some .long) :: ((wsX8_has_r1 ++ wsX8_has_r2) ++ wsX80 ++ wsX60)
def wsX8_settle_r1 : List Cond := [Cond.fieldLink RX8 42 "ChangerFair" "book" "LChangerFair$Book;", Cond.fieldLink RX8 56 "ChangerFair" "purses" "LChangerFair$Purses;", Cond.methodLink RX8 220 yX8_areTwoHouses, Cond.static yX8_areTwoHouses, Cond.initialized RX8, Cond.code yX8_areTwoHouses cX8_areTwoHouses 2 (some .boolean), Cond.methodLink RX8 106 yX8_isHouse, Cond.static yX8_isHouse, Cond.code yX8_isHouse cX8_isHouse 1 (some .boolean), Cond.methodLink RX8 88 yX8_finding, Cond.instanceMethod yX8_finding, Cond.selects RX8 yX8_finding yX8_finding, Cond.code yX8_finding cX8_finding 2 (some .long), Cond.fieldLink RX8 9 "ChangerFair" "findings" "[J", Cond.constantLong RX8 336 (-1000000000000), Cond.methodLink RX8 231 yX1_debt, Cond.instanceMethod yX1_debt, Cond.selects RX1 yX1_debt yX1_debt, Cond.initialized RX1, Cond.code yX1_debt cX1_debt 3 (some .long), Cond.fieldLink RX1 11 "ChangerFair$Book" "debts" "[[J", Cond.methodLink RX8 284 yX6_handOver, Cond.instanceMethod yX6_handOver, Cond.selects RX6 yX6_handOver yX6_handOver]
def wsX8_settle_r2 : List Cond := [Cond.initialized RX6, Cond.code yX6_handOver cX6_handOver 12 (some .long), Cond.fieldLink RX6 11 "ChangerFair$Purses" "worths" "[I", Cond.fieldLink RX6 17 "ChangerFair$Purses" "coins" "[[I", Cond.methodLink RX6 24 Lib.Math.min.name, Cond.static Lib.Math.min.name, Cond.initialized "java/lang/Math", Cond.code Lib.Math.min.name Lib.Math.min.code 2 (some .int), Cond.methodLink RX6 30 Lib.MathLoose.min_long.x, Cond.static Lib.MathLoose.min_long.x, Cond.code Lib.MathLoose.min_long.x Lib.MathLoose.min_long.code 4 (some .long), Cond.methodLink RX6 20 yX6_dearestBut, Cond.instanceMethod yX6_dearestBut, Cond.selects RX6 yX6_dearestBut yX6_dearestBut, Cond.code yX6_dearestBut cX6_dearestBut 4 (some .int), Cond.methodLink RX8 288 yX1_lessen, Cond.instanceMethod yX1_lessen, Cond.selects RX1 yX1_lessen yX1_lessen, Cond.code yX1_lessen cX1_lessen 5 none, Cond.fieldLink RX1 24 "ChangerFair$Book" "changes" "J"]
def wsX8_settle : List Cond := .code yX8_settle cX8_settle 7 (some .long) :: ((wsX8_settle_r1 ++ wsX8_settle_r2) ++ wsX80 ++ wsX10 ++ wsX60)
def wsX8_vote : List Cond := .code yX8_vote cX8_vote 4 (some .long) :: ([.fieldLink RX8 63 "ChangerFair" "rates" "LChangerFair$Rates;", .methodLink RX8 106 yX8_isHouse, .static yX8_isHouse, .initialized RX8, .code yX8_isHouse cX8_isHouse 1 (some .boolean), .methodLink RX8 103 yX8_isTown, .static yX8_isTown, .code yX8_isTown cX8_isTown 1 (some .boolean), .methodLink RX8 291 yX7_isVote, .static yX7_isVote, .initialized RX7, .code yX7_isVote cX7_isVote 1 (some .boolean), .methodLink RX8 88 yX8_finding, .instanceMethod yX8_finding, .selects RX8 yX8_finding yX8_finding, .code yX8_finding cX8_finding 2 (some .long), .fieldLink RX8 9 "ChangerFair" "findings" "[J", .constantLong RX8 336 (-1000000000000), .methodLink RX8 294 yX7_changeVote, .instanceMethod yX7_changeVote, .selects RX7 yX7_changeVote yX7_changeVote, .code yX7_changeVote cX7_changeVote 5 (some .int), .fieldLink RX7 13 "ChangerFair$Rates" "votes" "[[I"] ++ wsX80 ++ wsX70)
def wsX8_rate : List Cond := .code yX8_rate cX8_rate 3 (some .long) :: ([.fieldLink RX8 63 "ChangerFair" "rates" "LChangerFair$Rates;", .methodLink RX8 103 yX8_isTown, .static yX8_isTown, .initialized RX8, .code yX8_isTown cX8_isTown 1 (some .boolean), .methodLink RX8 88 yX8_finding, .instanceMethod yX8_finding, .selects RX8 yX8_finding yX8_finding, .code yX8_finding cX8_finding 2 (some .long), .fieldLink RX8 9 "ChangerFair" "findings" "[J", .constantLong RX8 336 (-1000000000000), .methodLink RX8 298 yX7_middleVote, .instanceMethod yX7_middleVote, .selects RX7 yX7_middleVote yX7_middleVote, .initialized RX7, .code yX7_middleVote cX7_middleVote 4 (some .int), .fieldLink RX7 13 "ChangerFair$Rates" "votes" "[[I", .fieldLink RX7 19 "ChangerFair$Rates" "sorted" "[I", .methodLink RX7 23 yX7_insertSorted, .instanceMethod yX7_insertSorted, .selects RX7 yX7_insertSorted yX7_insertSorted, .code yX7_insertSorted cX7_insertSorted 4 none] ++ wsX80 ++ wsX70)
def wsX8_offer : List Cond := .code yX8_offer cX8_offer 4 (some .long) :: ([.fieldLink RX8 63 "ChangerFair" "rates" "LChangerFair$Rates;", .methodLink RX8 103 yX8_isTown, .static yX8_isTown, .initialized RX8, .code yX8_isTown cX8_isTown 1 (some .boolean), .methodLink RX8 301 yX7_isOffer, .static yX7_isOffer, .initialized RX7, .code yX7_isOffer cX7_isOffer 1 (some .boolean), .methodLink RX8 88 yX8_finding, .instanceMethod yX8_finding, .selects RX8 yX8_finding yX8_finding, .code yX8_finding cX8_finding 2 (some .long), .fieldLink RX8 9 "ChangerFair" "findings" "[J", .constantLong RX8 336 (-1000000000000), .methodLink RX8 304 yX7_changeOffer, .instanceMethod yX7_changeOffer, .selects RX7 yX7_changeOffer yX7_changeOffer, .code yX7_changeOffer cX7_changeOffer 5 (some .int), .fieldLink RX7 16 "ChangerFair$Rates" "offers" "[[I"] ++ wsX80 ++ wsX70)
def wsX8_turn_r1 : List Cond := [Cond.fieldLink RX8 63 "ChangerFair" "rates" "LChangerFair$Rates;", Cond.methodLink RX8 307 yX7_bestTurn, Cond.instanceMethod yX7_bestTurn, Cond.selects RX7 yX7_bestTurn yX7_bestTurn, Cond.initialized RX7, Cond.code yX7_bestTurn cX7_bestTurn 5 (some .int), Cond.constantLong RX7 27 (10000000000000000), Cond.fieldLink RX7 29 "ChangerFair$Rates" "bestProduct" "J", Cond.fieldLink RX7 33 "ChangerFair$Rates" "bestFigures" "I", Cond.constantLong RX7 37 (100000000), Cond.constantLong RX7 43 (10000), Cond.methodLink RX7 39 yX7_extendTurn, Cond.instanceMethod yX7_extendTurn, Cond.selects RX7 yX7_extendTurn yX7_extendTurn, Cond.code yX7_extendTurn cX7_extendTurn 9 none, Cond.fieldLink RX7 16 "ChangerFair$Rates" "offers" "[[I", Cond.methodLink RX7 45 yX7_closeTurn, Cond.instanceMethod yX7_closeTurn, Cond.selects RX7 yX7_closeTurn yX7_closeTurn, Cond.code yX7_closeTurn cX7_closeTurn 4 none, Cond.methodLink RX8 88 yX8_finding, Cond.instanceMethod yX8_finding, Cond.selects RX8 yX8_finding yX8_finding, Cond.initialized RX8]
def wsX8_turn_r2 : List Cond := [Cond.code yX8_finding cX8_finding 2 (some .long), Cond.fieldLink RX8 9 "ChangerFair" "findings" "[J", Cond.constantLong RX8 336 (-1000000000000)]
def wsX8_turn : List Cond := .code yX8_turn cX8_turn 2 (some .long) :: ((wsX8_turn_r1 ++ wsX8_turn_r2) ++ wsX80 ++ wsX70)
def wsX8_part_r1 : List Cond := [Cond.constant RX8 310 (1000000000), Cond.fieldLink RX8 70 "ChangerFair" "parting" "LChangerFair$Parting;", Cond.fieldLink RX8 113 "ChangerFair" "billCount" "I", Cond.fieldLink RX8 22 "ChangerFair" "bills" "[LChangerFair$Bill;", Cond.fieldLink RX8 130 "ChangerFair$Bill" "holder" "I", Cond.fieldLink RX8 161 "ChangerFair$Bill" "amount" "I", Cond.fieldLink RX8 42 "ChangerFair" "book" "LChangerFair$Book;", Cond.methodLink RX8 220 yX8_areTwoHouses, Cond.static yX8_areTwoHouses, Cond.initialized RX8, Cond.code yX8_areTwoHouses cX8_areTwoHouses 2 (some .boolean), Cond.methodLink RX8 106 yX8_isHouse, Cond.static yX8_isHouse, Cond.code yX8_isHouse cX8_isHouse 1 (some .boolean), Cond.methodLink RX8 88 yX8_finding, Cond.instanceMethod yX8_finding, Cond.selects RX8 yX8_finding yX8_finding, Cond.code yX8_finding cX8_finding 2 (some .long), Cond.fieldLink RX8 9 "ChangerFair" "findings" "[J", Cond.constantLong RX8 336 (-1000000000000), Cond.methodLink RX8 311 yX4_begin, Cond.instanceMethod yX4_begin, Cond.selects RX4 yX4_begin yX4_begin, Cond.initialized RX4]
def wsX8_part_r2 : List Cond := [Cond.code yX4_begin cX4_begin 2 none, Cond.fieldLink RX4 9 "ChangerFair$Parting" "pledged" "[J", Cond.methodLink RX8 314 yX0_pledgedBy, Cond.instanceMethod yX0_pledgedBy, Cond.selects RX0 yX0_pledgedBy yX0_pledgedBy, Cond.initialized RX0, Cond.code yX0_pledgedBy cX0_pledgedBy 2 (some .boolean), Cond.fieldLink RX0 16 "ChangerFair$Bill" "kind" "I", Cond.fieldLink RX0 42 "ChangerFair$Bill" "paidByDrawee" "Z", Cond.fieldLink RX0 23 "ChangerFair$Bill" "drawee" "I", Cond.methodLink RX8 317 yX4_pledge, Cond.instanceMethod yX4_pledge, Cond.selects RX4 yX4_pledge yX4_pledge, Cond.code yX4_pledge cX4_pledge 3 none, Cond.methodLink RX8 231 yX1_debt, Cond.instanceMethod yX1_debt, Cond.selects RX1 yX1_debt yX1_debt, Cond.initialized RX1, Cond.code yX1_debt cX1_debt 3 (some .long), Cond.fieldLink RX1 11 "ChangerFair$Book" "debts" "[[J", Cond.methodLink RX8 320 yX4_claim, Cond.instanceMethod yX4_claim, Cond.selects RX4 yX4_claim yX4_claim, Cond.code yX4_claim cX4_claim 4 none]
def wsX8_part_r3 : List Cond := [Cond.methodLink RX4 18 Lib.MathLoose.min_long.x, Cond.static Lib.MathLoose.min_long.x, Cond.initialized "java/lang/Math", Cond.code Lib.MathLoose.min_long.x Lib.MathLoose.min_long.code 4 (some .long), Cond.fieldLink RX4 15 "ChangerFair$Parting" "rest" "[J", Cond.methodLink RX8 324 yX4_shareOf, Cond.instanceMethod yX4_shareOf, Cond.selects RX4 yX4_shareOf yX4_shareOf, Cond.code yX4_shareOf cX4_shareOf 6 (some .long), Cond.methodLink RX4 28 Lib.MathLoose.max_long.x, Cond.static Lib.MathLoose.max_long.x, Cond.code Lib.MathLoose.max_long.x Lib.MathLoose.max_long.code 4 (some .long), Cond.methodLink RX4 24 yX4_total, Cond.static yX4_total, Cond.code yX4_total cX4_total 4 (some .long), Cond.methodLink RX4 31 yX4_shareIn, Cond.static yX4_shareIn, Cond.code yX4_shareIn cX4_shareIn 11 (some .long), Cond.methodLink RX4 35 yX4_portion, Cond.static yX4_portion, Cond.code yX4_portion cX4_portion 10 (some .long), Cond.constantLong RX4 39 (32768)]
def wsX8_part : List Cond := .code yX8_part cX8_part 6 (some .long) :: ((wsX8_part_r1 ++ (wsX8_part_r2 ++ wsX8_part_r3)) ++ wsX80 ++ wsX00 ++ wsX40 ++ wsX10)
def wsX8_tell : List Cond := .code yX8_tell cX8_tell 2 (some .long) :: ([.fieldLink RX8 328 "ChangerFair" "toldCount" "I", .fieldLink RX8 31 "ChangerFair" "told" "[I", .methodLink RX8 88 yX8_finding, .instanceMethod yX8_finding, .selects RX8 yX8_finding yX8_finding, .initialized RX8, .code yX8_finding cX8_finding 2 (some .long), .fieldLink RX8 9 "ChangerFair" "findings" "[J", .constantLong RX8 336 (-1000000000000)] ++ wsX80)
def wsX8_toldPayment : List Cond := .code yX8_toldPayment cX8_toldPayment 4 (some .boolean) :: ([.fieldLink RX8 31 "ChangerFair" "told" "[I", .fieldLink RX8 49 "ChangerFair" "plan" "LChangerFair$Plan;", .methodLink RX8 251 yX5_figure, .instanceMethod yX5_figure, .selects RX5 yX5_figure yX5_figure, .initialized RX5, .code yX5_figure cX5_figure 3 (some .long), .fieldLink RX5 25 "ChangerFair$Plan" "payers" "[I", .fieldLink RX5 28 "ChangerFair$Plan" "payees" "[I", .fieldLink RX5 31 "ChangerFair$Plan" "amounts" "[J", .methodLink RX5 73 yX5_hasPayment, .instanceMethod yX5_hasPayment, .selects RX5 yX5_hasPayment yX5_hasPayment, .code yX5_hasPayment cX5_hasPayment 2 (some .boolean), .fieldLink RX5 49 "ChangerFair$Plan" "paymentCount" "I"] ++ wsX80 ++ wsX50)
def wsX8_check_r1 : List Cond := [Cond.fieldLink RX8 49 "ChangerFair" "plan" "LChangerFair$Plan;", Cond.fieldLink RX8 42 "ChangerFair" "book" "LChangerFair$Book;", Cond.fieldLink RX8 328 "ChangerFair" "toldCount" "I", Cond.fieldLink RX8 245 "ChangerFair$Plan" "paymentCount" "I", Cond.constantLong RX8 334 (99), Cond.methodLink RX8 238 yX5_refresh, Cond.instanceMethod yX5_refresh, Cond.selects RX5 yX5_refresh yX5_refresh, Cond.initialized RX5, Cond.code yX5_refresh cX5_refresh 5 none, Cond.fieldLink RX5 36 "ChangerFair$Plan" "changesSeen" "J", Cond.fieldLink RX5 40 "ChangerFair$Book" "changes" "J", Cond.fieldLink RX5 45 "ChangerFair$Plan" "groupCount" "I", Cond.fieldLink RX5 49 "ChangerFair$Plan" "paymentCount" "I", Cond.methodLink RX5 52 yX5_readNets, Cond.instanceMethod yX5_readNets, Cond.selects RX5 yX5_readNets yX5_readNets, Cond.code yX5_readNets cX5_readNets 4 (some .int), Cond.fieldLink RX5 9 "ChangerFair$Plan" "left" "[J", Cond.methodLink RX5 77 yX1_balance, Cond.instanceMethod yX1_balance, Cond.selects RX1 yX1_balance yX1_balance, Cond.initialized RX1, Cond.code yX1_balance cX1_balance 5 (some .long)]
def wsX8_check_r2 : List Cond := [Cond.fieldLink RX1 11 "ChangerFair$Book" "debts" "[[J", Cond.methodLink RX5 56 yX5_addUp, Cond.instanceMethod yX5_addUp, Cond.selects RX5 yX5_addUp yX5_addUp, Cond.code yX5_addUp cX5_addUp 4 none, Cond.fieldLink RX5 15 "ChangerFair$Plan" "sums" "[J", Cond.methodLink RX5 59 yX5_listZeroSets, Cond.instanceMethod yX5_listZeroSets, Cond.selects RX5 yX5_listZeroSets yX5_listZeroSets, Cond.code yX5_listZeroSets cX5_listZeroSets 3 none, Cond.fieldLink RX5 81 "ChangerFair$Plan" "zeroSetCount" "I", Cond.fieldLink RX5 18 "ChangerFair$Plan" "zeroSets" "[I", Cond.methodLink RX5 63 yX5_countGroups, Cond.instanceMethod yX5_countGroups, Cond.selects RX5 yX5_countGroups yX5_countGroups, Cond.code yX5_countGroups cX5_countGroups 5 none, Cond.fieldLink RX5 22 "ChangerFair$Plan" "mostGroups" "[I", Cond.methodLink RX5 88 Lib.Math.max.name, Cond.static Lib.Math.max.name, Cond.initialized "java/lang/Math", Cond.code Lib.Math.max.name Lib.Math.max.code 2 (some .int), Cond.methodLink RX5 84 yX5_mayBeFirst, Cond.static yX5_mayBeFirst, Cond.code yX5_mayBeFirst cX5_mayBeFirst 3 (some .boolean)]
def wsX8_check_r3 : List Cond := [Cond.methodLink RX5 66 yX5_firstGroup, Cond.instanceMethod yX5_firstGroup, Cond.selects RX5 yX5_firstGroup yX5_firstGroup, Cond.code yX5_firstGroup cX5_firstGroup 4 (some .int), Cond.methodLink RX5 70 yX5_payWithin, Cond.instanceMethod yX5_payWithin, Cond.selects RX5 yX5_payWithin yX5_payWithin, Cond.code yX5_payWithin cX5_payWithin 7 none, Cond.methodLink RX5 97 Lib.MathLoose.min_long.x, Cond.static Lib.MathLoose.min_long.x, Cond.code Lib.MathLoose.min_long.x Lib.MathLoose.min_long.code 4 (some .long), Cond.fieldLink RX5 25 "ChangerFair$Plan" "payers" "[I", Cond.fieldLink RX5 28 "ChangerFair$Plan" "payees" "[I", Cond.fieldLink RX5 31 "ChangerFair$Plan" "amounts" "[J", Cond.methodLink RX5 94 yX5_leastOf, Cond.instanceMethod yX5_leastOf, Cond.selects RX5 yX5_leastOf yX5_leastOf, Cond.code yX5_leastOf cX5_leastOf 4 (some .int), Cond.methodLink RX8 331 yX8_toldPayment, Cond.instanceMethod yX8_toldPayment, Cond.selects RX8 yX8_toldPayment yX8_toldPayment, Cond.initialized RX8, Cond.code yX8_toldPayment cX8_toldPayment 4 (some .boolean), Cond.fieldLink RX8 31 "ChangerFair" "told" "[I"]
def wsX8_check_r4 : List Cond := [Cond.methodLink RX8 251 yX5_figure, Cond.instanceMethod yX5_figure, Cond.selects RX5 yX5_figure yX5_figure, Cond.code yX5_figure cX5_figure 3 (some .long), Cond.methodLink RX5 73 yX5_hasPayment, Cond.instanceMethod yX5_hasPayment, Cond.selects RX5 yX5_hasPayment yX5_hasPayment, Cond.code yX5_hasPayment cX5_hasPayment 2 (some .boolean)]
def wsX8_check : List Cond := .code yX8_check cX8_check 3 (some .long) :: ((wsX8_check_r1 ++ (wsX8_check_r2 ++ (wsX8_check_r3 ++ wsX8_check_r4))) ++ wsX80 ++ wsX50 ++ wsX10)
def wsX8_count : List Cond := .code yX8_count cX8_count 2 (some .long) :: ([.fieldLink RX8 92 "ChangerFair" "day" "I", .fieldLink RX8 113 "ChangerFair" "billCount" "I", .fieldLink RX8 77 "ChangerFair" "custom" "LChangerFair$Custom;", .fieldLink RX8 210 "ChangerFair$Custom" "clauseCount" "I", .fieldLink RX8 42 "ChangerFair" "book" "LChangerFair$Book;", .fieldLink RX8 328 "ChangerFair" "toldCount" "I", .fieldLink RX8 35 "ChangerFair" "reader" "LChangerFair$CustomReader;", .fieldLink RX8 203 "ChangerFair$CustomReader" "length" "I", .methodLink RX8 257 yX1_total, .instanceMethod yX1_total, .selects RX1 yX1_total yX1_total, .initialized RX1, .code yX1_total cX1_total 5 (some .long), .fieldLink RX1 11 "ChangerFair$Book" "debts" "[[J", .methodLink RX8 88 yX8_finding, .instanceMethod yX8_finding, .selects RX8 yX8_finding yX8_finding, .initialized RX8, .code yX8_finding cX8_finding 2 (some .long), .fieldLink RX8 9 "ChangerFair" "findings" "[J", .constantLong RX8 336 (-1000000000000)] ++ wsX80 ++ wsX20 ++ wsX30 ++ wsX10)
def wsX8_found : List Cond := .code yX8_found cX8_found 2 (some .long) :: ([.fieldLink RX8 9 "ChangerFair" "findings" "[J", .methodLink RX8 88 yX8_finding, .instanceMethod yX8_finding, .selects RX8 yX8_finding yX8_finding, .initialized RX8, .code yX8_finding cX8_finding 2 (some .long), .constantLong RX8 336 (-1000000000000)] ++ wsX80)
def wsX9_init_r1 : List Cond := [Cond.methodLink RX9 3 objectInit, Cond.instanceMethod objectInit, Cond.code objectInit ⟨#[0xb1]⟩ 1 none, Cond.fieldLink RX9 9 "ChangerFairModel" "gain" "I", Cond.arrayClass .int, Cond.fieldLink RX9 13 "ChangerFairModel" "roads" "[I", Cond.fieldLink RX9 17 "ChangerFairModel" "seats" "[I", Cond.fieldLink RX9 20 "ChangerFairModel" "kindOf" "[I", Cond.fieldLink RX9 23 "ChangerFairModel" "drawerOf" "[I", Cond.fieldLink RX9 26 "ChangerFairModel" "draweeOf" "[I", Cond.fieldLink RX9 29 "ChangerFairModel" "holderOf" "[I", Cond.fieldLink RX9 32 "ChangerFairModel" "amountOf" "[I", Cond.fieldLink RX9 35 "ChangerFairModel" "stateOf" "[I", Cond.fieldLink RX9 38 "ChangerFairModel" "endorsers" "[I", Cond.fieldLink RX9 41 "ChangerFairModel" "endorserOf" "[I", Cond.arrayClass .long, Cond.fieldLink RX9 44 "ChangerFairModel" "began" "[J", Cond.arrayClass .boolean, Cond.fieldLink RX9 48 "ChangerFairModel" "byPay" "[Z", Cond.fieldLink RX9 52 "ChangerFairModel" "debts" "[J", Cond.fieldLink RX9 55 "ChangerFairModel" "worth" "[I", Cond.fieldLink RX9 58 "ChangerFairModel" "purses" "[I", Cond.fieldLink RX9 61 "ChangerFairModel" "votes" "[I", Cond.fieldLink RX9 64 "ChangerFairModel" "offers" "[I"]
def wsX9_init_r2 : List Cond := [Cond.fieldLink RX9 67 "ChangerFairModel" "told" "[I", Cond.fieldLink RX9 70 "ChangerFairModel" "findings" "[J", Cond.fieldLink RX9 73 "ChangerFairModel" "binding" "[Z", Cond.fieldLink RX9 76 "ChangerFairModel" "tests" "[I", Cond.fieldLink RX9 79 "ChangerFairModel" "valueOf" "[I", Cond.fieldLink RX9 82 "ChangerFairModel" "howOf" "[I", Cond.fieldLink RX9 85 "ChangerFairModel" "numberOf" "[I", Cond.fieldLink RX9 88 "ChangerFairModel" "newBinding" "[Z", Cond.fieldLink RX9 91 "ChangerFairModel" "newTests" "[I", Cond.fieldLink RX9 94 "ChangerFairModel" "newValue" "[I", Cond.fieldLink RX9 97 "ChangerFairModel" "newHow" "[I", Cond.fieldLink RX9 100 "ChangerFairModel" "newNumber" "[I", Cond.fieldLink RX9 103 "ChangerFairModel" "tape" "[I", Cond.constantLong RX9 106 (-1), Cond.fieldLink RX9 108 "ChangerFairModel" "faultAt" "J", Cond.fieldLink RX9 112 "ChangerFairModel" "sums" "[J", Cond.fieldLink RX9 115 "ChangerFairModel" "most" "[I", Cond.fieldLink RX9 118 "ChangerFairModel" "group" "[I", Cond.fieldLink RX9 121 "ChangerFairModel" "payer" "[I", Cond.fieldLink RX9 124 "ChangerFairModel" "payee" "[I", Cond.fieldLink RX9 127 "ChangerFairModel" "paid" "[J", Cond.fieldLink RX9 130 "ChangerFairModel" "nets" "[J", Cond.fieldLink RX9 133 "ChangerFairModel" "claims" "[J", Cond.fieldLink RX9 136 "ChangerFairModel" "gets" "[J"]
def wsX9_init : List Cond := .code yX9_init cX9_init 1 none :: ((wsX9_init_r1 ++ wsX9_init_r2) ++ wsX90)
def wsX9_finding : List Cond := .code yX9_finding cX9_finding 3 (some .long) :: ([.fieldLink RX9 70 "ChangerFairModel" "findings" "[J", .constantLong RX9 139 (-1000000000000)] ++ wsX90)
def wsX9_in : List Cond := .code yX9_in cX9_in 3 (some .boolean) :: ([])
def wsX9_isHouse : List Cond := .code yX9_isHouse cX9_isHouse 1 (some .boolean) :: ([.methodLink RX9 141 yX9_in, .static yX9_in, .initialized RX9, .code yX9_in cX9_in 3 (some .boolean)])
def wsX9_isTown : List Cond := .code yX9_isTown cX9_isTown 1 (some .boolean) :: ([.methodLink RX9 141 yX9_in, .static yX9_in, .initialized RX9, .code yX9_in cX9_in 3 (some .boolean)])
def wsX9_isBill : List Cond := .code yX9_isBill cX9_isBill 2 (some .boolean) :: ([.fieldLink RX9 145 "ChangerFairModel" "bills" "I", .methodLink RX9 141 yX9_in, .static yX9_in, .initialized RX9, .code yX9_in cX9_in 3 (some .boolean)] ++ wsX90)
def wsX9_carry : List Cond := .code yX9_carry cX9_carry 2 (some .boolean) :: ([.fieldLink RX9 52 "ChangerFairModel" "debts" "[J", .fieldLink RX9 9 "ChangerFairModel" "gain" "I", .constantLong RX9 148 (1000), .constantLong RX9 150 (1000000000)] ++ wsX90)
def wsX9_days : List Cond := .code yX9_days cX9_days 3 (some .long) :: ([.constantLong RX9 152 (-1000000000001), .fieldLink RX9 158 "ChangerFairModel" "day" "J", .constantLong RX9 161 (28), .constantLong RX9 163 (27), .constantLong RX9 169 (-1000000000004), .methodLink RX9 141 yX9_in, .static yX9_in, .initialized RX9, .code yX9_in cX9_in 3 (some .boolean), .methodLink RX9 154 yX9_finding, .instanceMethod yX9_finding, .selects RX9 yX9_finding yX9_finding, .code yX9_finding cX9_finding 3 (some .long), .fieldLink RX9 70 "ChangerFairModel" "findings" "[J", .constantLong RX9 139 (-1000000000000), .methodLink RX9 165 yX9_carry, .instanceMethod yX9_carry, .selects RX9 yX9_carry yX9_carry, .code yX9_carry cX9_carry 2 (some .boolean), .fieldLink RX9 52 "ChangerFairModel" "debts" "[J", .fieldLink RX9 9 "ChangerFairModel" "gain" "I", .constantLong RX9 148 (1000), .constantLong RX9 150 (1000000000)] ++ wsX90)
def wsX9_gain : List Cond := .code yX9_gain cX9_gain 3 (some .long) :: ([.constantLong RX9 152 (-1000000000001), .fieldLink RX9 9 "ChangerFairModel" "gain" "I", .methodLink RX9 141 yX9_in, .static yX9_in, .initialized RX9, .code yX9_in cX9_in 3 (some .boolean), .methodLink RX9 154 yX9_finding, .instanceMethod yX9_finding, .selects RX9 yX9_finding yX9_finding, .code yX9_finding cX9_finding 3 (some .long), .fieldLink RX9 70 "ChangerFairModel" "findings" "[J", .constantLong RX9 139 (-1000000000000)] ++ wsX90)
def wsX9_road : List Cond := .code yX9_road cX9_road 4 (some .long) :: ([.constantLong RX9 152 (-1000000000001), .fieldLink RX9 13 "ChangerFairModel" "roads" "[I", .methodLink RX9 141 yX9_in, .static yX9_in, .initialized RX9, .code yX9_in cX9_in 3 (some .boolean), .methodLink RX9 154 yX9_finding, .instanceMethod yX9_finding, .selects RX9 yX9_finding yX9_finding, .code yX9_finding cX9_finding 3 (some .long), .fieldLink RX9 70 "ChangerFairModel" "findings" "[J", .constantLong RX9 139 (-1000000000000)] ++ wsX90)
def wsX9_seat : List Cond := .code yX9_seat cX9_seat 4 (some .long) :: ([.constantLong RX9 152 (-1000000000001), .fieldLink RX9 17 "ChangerFairModel" "seats" "[I", .methodLink RX9 171 yX9_isHouse, .static yX9_isHouse, .initialized RX9, .code yX9_isHouse cX9_isHouse 1 (some .boolean), .methodLink RX9 141 yX9_in, .static yX9_in, .code yX9_in cX9_in 3 (some .boolean), .methodLink RX9 175 yX9_isTown, .static yX9_isTown, .code yX9_isTown cX9_isTown 1 (some .boolean), .methodLink RX9 154 yX9_finding, .instanceMethod yX9_finding, .selects RX9 yX9_finding yX9_finding, .code yX9_finding cX9_finding 3 (some .long), .fieldLink RX9 70 "ChangerFairModel" "findings" "[J", .constantLong RX9 139 (-1000000000000)] ++ wsX90)
def wsX9_becomes : List Cond := .code yX9_becomes cX9_becomes 3 none :: ([.fieldLink RX9 35 "ChangerFairModel" "stateOf" "[I", .fieldLink RX9 44 "ChangerFairModel" "began" "[J", .fieldLink RX9 158 "ChangerFairModel" "day" "J"] ++ wsX90)
def wsX9_draw_r1 : List Cond := [Cond.constant RX9 178 (100000), Cond.constantLong RX9 152 (-1000000000001), Cond.constantLong RX9 179 (-1000000000005), Cond.fieldLink RX9 145 "ChangerFairModel" "bills" "I", Cond.constantLong RX9 169 (-1000000000004), Cond.fieldLink RX9 20 "ChangerFairModel" "kindOf" "[I", Cond.fieldLink RX9 23 "ChangerFairModel" "drawerOf" "[I", Cond.fieldLink RX9 26 "ChangerFairModel" "draweeOf" "[I", Cond.fieldLink RX9 29 "ChangerFairModel" "holderOf" "[I", Cond.fieldLink RX9 32 "ChangerFairModel" "amountOf" "[I", Cond.fieldLink RX9 38 "ChangerFairModel" "endorsers" "[I", Cond.fieldLink RX9 48 "ChangerFairModel" "byPay" "[Z", Cond.fieldLink RX9 44 "ChangerFairModel" "began" "[J", Cond.constantLong RX9 106 (-1), Cond.methodLink RX9 141 yX9_in, Cond.static yX9_in, Cond.initialized RX9, Cond.code yX9_in cX9_in 3 (some .boolean), Cond.methodLink RX9 171 yX9_isHouse, Cond.static yX9_isHouse, Cond.code yX9_isHouse cX9_isHouse 1 (some .boolean), Cond.methodLink RX9 154 yX9_finding, Cond.instanceMethod yX9_finding, Cond.selects RX9 yX9_finding yX9_finding]
def wsX9_draw_r2 : List Cond := [Cond.code yX9_finding cX9_finding 3 (some .long), Cond.fieldLink RX9 70 "ChangerFairModel" "findings" "[J", Cond.constantLong RX9 139 (-1000000000000), Cond.methodLink RX9 181 yX9_becomes, Cond.instanceMethod yX9_becomes, Cond.selects RX9 yX9_becomes yX9_becomes, Cond.code yX9_becomes cX9_becomes 3 none, Cond.fieldLink RX9 35 "ChangerFairModel" "stateOf" "[I", Cond.fieldLink RX9 158 "ChangerFairModel" "day" "J"]
def wsX9_draw : List Cond := .code yX9_draw cX9_draw 8 (some .long) :: ((wsX9_draw_r1 ++ wsX9_draw_r2) ++ wsX90)
def wsX9_pass_r1 : List Cond := [Cond.constantLong RX9 152 (-1000000000001), Cond.fieldLink RX9 35 "ChangerFairModel" "stateOf" "[I", Cond.constantLong RX9 188 (-1000000000003), Cond.fieldLink RX9 29 "ChangerFairModel" "holderOf" "[I", Cond.constantLong RX9 179 (-1000000000005), Cond.fieldLink RX9 20 "ChangerFairModel" "kindOf" "[I", Cond.fieldLink RX9 38 "ChangerFairModel" "endorsers" "[I", Cond.constantLong RX9 169 (-1000000000004), Cond.fieldLink RX9 41 "ChangerFairModel" "endorserOf" "[I", Cond.methodLink RX9 185 yX9_isBill, Cond.instanceMethod yX9_isBill, Cond.selects RX9 yX9_isBill yX9_isBill, Cond.initialized RX9, Cond.code yX9_isBill cX9_isBill 2 (some .boolean), Cond.fieldLink RX9 145 "ChangerFairModel" "bills" "I", Cond.methodLink RX9 141 yX9_in, Cond.static yX9_in, Cond.code yX9_in cX9_in 3 (some .boolean), Cond.methodLink RX9 171 yX9_isHouse, Cond.static yX9_isHouse, Cond.code yX9_isHouse cX9_isHouse 1 (some .boolean), Cond.methodLink RX9 154 yX9_finding, Cond.instanceMethod yX9_finding, Cond.selects RX9 yX9_finding yX9_finding]
def wsX9_pass_r2 : List Cond := [Cond.code yX9_finding cX9_finding 3 (some .long), Cond.fieldLink RX9 70 "ChangerFairModel" "findings" "[J", Cond.constantLong RX9 139 (-1000000000000)]
def wsX9_pass : List Cond := .code yX9_pass cX9_pass 3 (some .long) :: ((wsX9_pass_r1 ++ wsX9_pass_r2) ++ wsX90)
def wsX9_isEarly : List Cond := .code yX9_isEarly cX9_isEarly 1 (some .boolean) :: ([.fieldLink RX9 158 "ChangerFairModel" "day" "J", .constantLong RX9 161 (28), .constantLong RX9 190 (6)] ++ wsX90)
def wsX9_take_r1 : List Cond := [Cond.constantLong RX9 152 (-1000000000001), Cond.fieldLink RX9 35 "ChangerFairModel" "stateOf" "[I", Cond.constantLong RX9 188 (-1000000000003), Cond.constantLong RX9 195 (-1000000000007), Cond.methodLink RX9 185 yX9_isBill, Cond.instanceMethod yX9_isBill, Cond.selects RX9 yX9_isBill yX9_isBill, Cond.initialized RX9, Cond.code yX9_isBill cX9_isBill 2 (some .boolean), Cond.fieldLink RX9 145 "ChangerFairModel" "bills" "I", Cond.methodLink RX9 141 yX9_in, Cond.static yX9_in, Cond.code yX9_in cX9_in 3 (some .boolean), Cond.methodLink RX9 154 yX9_finding, Cond.instanceMethod yX9_finding, Cond.selects RX9 yX9_finding yX9_finding, Cond.code yX9_finding cX9_finding 3 (some .long), Cond.fieldLink RX9 70 "ChangerFairModel" "findings" "[J", Cond.constantLong RX9 139 (-1000000000000), Cond.methodLink RX9 192 yX9_isEarly, Cond.instanceMethod yX9_isEarly, Cond.selects RX9 yX9_isEarly yX9_isEarly, Cond.code yX9_isEarly cX9_isEarly 1 (some .boolean), Cond.fieldLink RX9 158 "ChangerFairModel" "day" "J"]
def wsX9_take_r2 : List Cond := [Cond.constantLong RX9 161 (28), Cond.constantLong RX9 190 (6), Cond.methodLink RX9 181 yX9_becomes, Cond.instanceMethod yX9_becomes, Cond.selects RX9 yX9_becomes yX9_becomes, Cond.code yX9_becomes cX9_becomes 3 none, Cond.fieldLink RX9 44 "ChangerFairModel" "began" "[J"]
def wsX9_take : List Cond := .code yX9_take cX9_take 3 (some .long) :: ((wsX9_take_r1 ++ wsX9_take_r2) ++ wsX90)
def wsX9_would : List Cond := .code yX9_would cX9_would 5 (some .long) :: ([.fieldLink RX9 52 "ChangerFairModel" "debts" "[J"] ++ wsX90)
def wsX9_isTooMuch : List Cond := .code yX9_isTooMuch cX9_isTooMuch 7 (some .boolean) :: ([.constantLong RX9 150 (1000000000), .constantLong RX9 201 (-1000000000), .methodLink RX9 197 yX9_would, .instanceMethod yX9_would, .selects RX9 yX9_would yX9_would, .initialized RX9, .code yX9_would cX9_would 5 (some .long), .fieldLink RX9 52 "ChangerFairModel" "debts" "[J"] ++ wsX90)
def wsX9_comesToOwe : List Cond := .code yX9_comesToOwe cX9_comesToOwe 7 none :: ([.fieldLink RX9 52 "ChangerFairModel" "debts" "[J", .methodLink RX9 197 yX9_would, .instanceMethod yX9_would, .selects RX9 yX9_would yX9_would, .initialized RX9, .code yX9_would cX9_would 5 (some .long)] ++ wsX90)
def wsX9_pay_r1 : List Cond := [Cond.constantLong RX9 152 (-1000000000001), Cond.fieldLink RX9 35 "ChangerFairModel" "stateOf" "[I", Cond.constantLong RX9 188 (-1000000000003), Cond.constantLong RX9 195 (-1000000000007), Cond.fieldLink RX9 26 "ChangerFairModel" "draweeOf" "[I", Cond.fieldLink RX9 29 "ChangerFairModel" "holderOf" "[I", Cond.fieldLink RX9 32 "ChangerFairModel" "amountOf" "[I", Cond.constantLong RX9 169 (-1000000000004), Cond.fieldLink RX9 48 "ChangerFairModel" "byPay" "[Z", Cond.methodLink RX9 185 yX9_isBill, Cond.instanceMethod yX9_isBill, Cond.selects RX9 yX9_isBill yX9_isBill, Cond.initialized RX9, Cond.code yX9_isBill cX9_isBill 2 (some .boolean), Cond.fieldLink RX9 145 "ChangerFairModel" "bills" "I", Cond.methodLink RX9 141 yX9_in, Cond.static yX9_in, Cond.code yX9_in cX9_in 3 (some .boolean), Cond.methodLink RX9 154 yX9_finding, Cond.instanceMethod yX9_finding, Cond.selects RX9 yX9_finding yX9_finding, Cond.code yX9_finding cX9_finding 3 (some .long), Cond.fieldLink RX9 70 "ChangerFairModel" "findings" "[J", Cond.constantLong RX9 139 (-1000000000000)]
def wsX9_pay_r2 : List Cond := [Cond.methodLink RX9 192 yX9_isEarly, Cond.instanceMethod yX9_isEarly, Cond.selects RX9 yX9_isEarly yX9_isEarly, Cond.code yX9_isEarly cX9_isEarly 1 (some .boolean), Cond.fieldLink RX9 158 "ChangerFairModel" "day" "J", Cond.constantLong RX9 161 (28), Cond.constantLong RX9 190 (6), Cond.methodLink RX9 203 yX9_isTooMuch, Cond.instanceMethod yX9_isTooMuch, Cond.selects RX9 yX9_isTooMuch yX9_isTooMuch, Cond.code yX9_isTooMuch cX9_isTooMuch 7 (some .boolean), Cond.constantLong RX9 150 (1000000000), Cond.constantLong RX9 201 (-1000000000), Cond.methodLink RX9 197 yX9_would, Cond.instanceMethod yX9_would, Cond.selects RX9 yX9_would yX9_would, Cond.code yX9_would cX9_would 5 (some .long), Cond.fieldLink RX9 52 "ChangerFairModel" "debts" "[J", Cond.methodLink RX9 207 yX9_comesToOwe, Cond.instanceMethod yX9_comesToOwe, Cond.selects RX9 yX9_comesToOwe yX9_comesToOwe, Cond.code yX9_comesToOwe cX9_comesToOwe 7 none, Cond.methodLink RX9 181 yX9_becomes, Cond.instanceMethod yX9_becomes]
def wsX9_pay_r3 : List Cond := [Cond.selects RX9 yX9_becomes yX9_becomes, Cond.code yX9_becomes cX9_becomes 3 none, Cond.fieldLink RX9 44 "ChangerFairModel" "began" "[J"]
def wsX9_pay : List Cond := .code yX9_pay cX9_pay 4 (some .long) :: ((wsX9_pay_r1 ++ (wsX9_pay_r2 ++ wsX9_pay_r3)) ++ wsX90)
def wsX9_protest : List Cond := .code yX9_protest cX9_protest 2 (some .long) :: ([.constantLong RX9 152 (-1000000000001), .fieldLink RX9 35 "ChangerFairModel" "stateOf" "[I", .constantLong RX9 188 (-1000000000003), .fieldLink RX9 158 "ChangerFairModel" "day" "J", .fieldLink RX9 44 "ChangerFairModel" "began" "[J", .methodLink RX9 185 yX9_isBill, .instanceMethod yX9_isBill, .selects RX9 yX9_isBill yX9_isBill, .initialized RX9, .code yX9_isBill cX9_isBill 2 (some .boolean), .fieldLink RX9 145 "ChangerFairModel" "bills" "I", .methodLink RX9 141 yX9_in, .static yX9_in, .code yX9_in cX9_in 3 (some .boolean), .methodLink RX9 154 yX9_finding, .instanceMethod yX9_finding, .selects RX9 yX9_finding yX9_finding, .code yX9_finding cX9_finding 3 (some .long), .fieldLink RX9 70 "ChangerFairModel" "findings" "[J", .constantLong RX9 139 (-1000000000000), .methodLink RX9 181 yX9_becomes, .instanceMethod yX9_becomes, .selects RX9 yX9_becomes yX9_becomes, .code yX9_becomes cX9_becomes 3 none] ++ wsX90)
def wsX9_isBound : List Cond := .code yX9_isBound cX9_isBound 12 (some .boolean) :: ([.fieldLink RX9 292 "ChangerFairModel" "clauses" "I", .fieldLink RX9 76 "ChangerFairModel" "tests" "[I", .fieldLink RX9 79 "ChangerFairModel" "valueOf" "[I", .fieldLink RX9 82 "ChangerFairModel" "howOf" "[I", .fieldLink RX9 85 "ChangerFairModel" "numberOf" "[I", .fieldLink RX9 73 "ChangerFairModel" "binding" "[Z"] ++ wsX90)
def wsX9_recourse_r1 : List Cond := [Cond.constantLong RX9 152 (-1000000000001), Cond.fieldLink RX9 35 "ChangerFairModel" "stateOf" "[I", Cond.constantLong RX9 188 (-1000000000003), Cond.fieldLink RX9 38 "ChangerFairModel" "endorsers" "[I", Cond.constantLong RX9 211 (-1000000000002), Cond.fieldLink RX9 23 "ChangerFairModel" "drawerOf" "[I", Cond.fieldLink RX9 41 "ChangerFairModel" "endorserOf" "[I", Cond.fieldLink RX9 44 "ChangerFairModel" "began" "[J", Cond.fieldLink RX9 32 "ChangerFairModel" "amountOf" "[I", Cond.fieldLink RX9 20 "ChangerFairModel" "kindOf" "[I", Cond.fieldLink RX9 13 "ChangerFairModel" "roads" "[I", Cond.fieldLink RX9 17 "ChangerFairModel" "seats" "[I", Cond.constantLong RX9 179 (-1000000000005), Cond.fieldLink RX9 29 "ChangerFairModel" "holderOf" "[I", Cond.constantLong RX9 169 (-1000000000004), Cond.methodLink RX9 185 yX9_isBill, Cond.instanceMethod yX9_isBill, Cond.selects RX9 yX9_isBill yX9_isBill, Cond.initialized RX9, Cond.code yX9_isBill cX9_isBill 2 (some .boolean), Cond.fieldLink RX9 145 "ChangerFairModel" "bills" "I", Cond.methodLink RX9 141 yX9_in, Cond.static yX9_in, Cond.code yX9_in cX9_in 3 (some .boolean)]
def wsX9_recourse_r2 : List Cond := [Cond.methodLink RX9 154 yX9_finding, Cond.instanceMethod yX9_finding, Cond.selects RX9 yX9_finding yX9_finding, Cond.code yX9_finding cX9_finding 3 (some .long), Cond.fieldLink RX9 70 "ChangerFairModel" "findings" "[J", Cond.constantLong RX9 139 (-1000000000000), Cond.methodLink RX9 213 yX9_isBound, Cond.instanceMethod yX9_isBound, Cond.selects RX9 yX9_isBound yX9_isBound, Cond.code yX9_isBound cX9_isBound 12 (some .boolean), Cond.fieldLink RX9 292 "ChangerFairModel" "clauses" "I", Cond.fieldLink RX9 76 "ChangerFairModel" "tests" "[I", Cond.fieldLink RX9 79 "ChangerFairModel" "valueOf" "[I", Cond.fieldLink RX9 82 "ChangerFairModel" "howOf" "[I", Cond.fieldLink RX9 85 "ChangerFairModel" "numberOf" "[I", Cond.fieldLink RX9 73 "ChangerFairModel" "binding" "[Z", Cond.methodLink RX9 203 yX9_isTooMuch, Cond.instanceMethod yX9_isTooMuch, Cond.selects RX9 yX9_isTooMuch yX9_isTooMuch, Cond.code yX9_isTooMuch cX9_isTooMuch 7 (some .boolean), Cond.constantLong RX9 150 (1000000000), Cond.constantLong RX9 201 (-1000000000), Cond.methodLink RX9 197 yX9_would, Cond.instanceMethod yX9_would]
def wsX9_recourse_r3 : List Cond := [Cond.selects RX9 yX9_would yX9_would, Cond.code yX9_would cX9_would 5 (some .long), Cond.fieldLink RX9 52 "ChangerFairModel" "debts" "[J", Cond.methodLink RX9 207 yX9_comesToOwe, Cond.instanceMethod yX9_comesToOwe, Cond.selects RX9 yX9_comesToOwe yX9_comesToOwe, Cond.code yX9_comesToOwe cX9_comesToOwe 7 none, Cond.methodLink RX9 181 yX9_becomes, Cond.instanceMethod yX9_becomes, Cond.selects RX9 yX9_becomes yX9_becomes, Cond.code yX9_becomes cX9_becomes 3 none, Cond.fieldLink RX9 158 "ChangerFairModel" "day" "J"]
def wsX9_recourse : List Cond := .code yX9_recourse cX9_recourse 6 (some .long) :: ((wsX9_recourse_r1 ++ (wsX9_recourse_r2 ++ wsX9_recourse_r3)) ++ wsX90)
def wsX9_about_r1 : List Cond := [Cond.constantLong RX9 152 (-1000000000001), Cond.fieldLink RX9 20 "ChangerFairModel" "kindOf" "[I", Cond.fieldLink RX9 23 "ChangerFairModel" "drawerOf" "[I", Cond.fieldLink RX9 26 "ChangerFairModel" "draweeOf" "[I", Cond.fieldLink RX9 29 "ChangerFairModel" "holderOf" "[I", Cond.fieldLink RX9 32 "ChangerFairModel" "amountOf" "[I", Cond.fieldLink RX9 35 "ChangerFairModel" "stateOf" "[I", Cond.fieldLink RX9 38 "ChangerFairModel" "endorsers" "[I", Cond.fieldLink RX9 44 "ChangerFairModel" "began" "[J", Cond.fieldLink RX9 41 "ChangerFairModel" "endorserOf" "[I", Cond.constantLong RX9 211 (-1000000000002), Cond.methodLink RX9 185 yX9_isBill, Cond.instanceMethod yX9_isBill, Cond.selects RX9 yX9_isBill yX9_isBill, Cond.initialized RX9, Cond.code yX9_isBill cX9_isBill 2 (some .boolean), Cond.fieldLink RX9 145 "ChangerFairModel" "bills" "I", Cond.methodLink RX9 141 yX9_in, Cond.static yX9_in, Cond.code yX9_in cX9_in 3 (some .boolean), Cond.methodLink RX9 154 yX9_finding, Cond.instanceMethod yX9_finding, Cond.selects RX9 yX9_finding yX9_finding, Cond.code yX9_finding cX9_finding 3 (some .long)]
def wsX9_about_r2 : List Cond := [Cond.fieldLink RX9 70 "ChangerFairModel" "findings" "[J", Cond.constantLong RX9 139 (-1000000000000)]
def wsX9_about : List Cond := .code yX9_about cX9_about 3 (some .long) :: ((wsX9_about_r1 ++ wsX9_about_r2) ++ wsX90)
def wsX9_as : List Cond := .code yX9_as cX9_as 3 (some .long) :: ([.constantLong RX9 152 (-1000000000001), .fieldLink RX9 20 "ChangerFairModel" "kindOf" "[I", .fieldLink RX9 32 "ChangerFairModel" "amountOf" "[I", .constantLong RX9 179 (-1000000000005), .methodLink RX9 185 yX9_isBill, .instanceMethod yX9_isBill, .selects RX9 yX9_isBill yX9_isBill, .initialized RX9, .code yX9_isBill cX9_isBill 2 (some .boolean), .fieldLink RX9 145 "ChangerFairModel" "bills" "I", .methodLink RX9 141 yX9_in, .static yX9_in, .code yX9_in cX9_in 3 (some .boolean), .methodLink RX9 154 yX9_finding, .instanceMethod yX9_finding, .selects RX9 yX9_finding yX9_finding, .code yX9_finding cX9_finding 3 (some .long), .fieldLink RX9 70 "ChangerFairModel" "findings" "[J", .constantLong RX9 139 (-1000000000000)] ++ wsX90)
def wsX9_knows : List Cond := .code yX9_knows cX9_knows 9 (some .long) :: ([.constantLong RX9 152 (-1000000000001), .constantLong RX9 211 (-1000000000002), .fieldLink RX9 44 "ChangerFairModel" "began" "[J", .fieldLink RX9 13 "ChangerFairModel" "roads" "[I", .fieldLink RX9 17 "ChangerFairModel" "seats" "[I", .methodLink RX9 171 yX9_isHouse, .static yX9_isHouse, .initialized RX9, .code yX9_isHouse cX9_isHouse 1 (some .boolean), .methodLink RX9 141 yX9_in, .static yX9_in, .code yX9_in cX9_in 3 (some .boolean), .methodLink RX9 185 yX9_isBill, .instanceMethod yX9_isBill, .selects RX9 yX9_isBill yX9_isBill, .code yX9_isBill cX9_isBill 2 (some .boolean), .fieldLink RX9 145 "ChangerFairModel" "bills" "I", .methodLink RX9 154 yX9_finding, .instanceMethod yX9_finding, .selects RX9 yX9_finding yX9_finding, .code yX9_finding cX9_finding 3 (some .long), .fieldLink RX9 70 "ChangerFairModel" "findings" "[J", .constantLong RX9 139 (-1000000000000)] ++ wsX90)
def wsX9_feed : List Cond := .code yX9_feed cX9_feed 5 (some .long) :: ([.constantLong RX9 152 (-1000000000001), .fieldLink RX9 217 "ChangerFairModel" "taped" "I", .constantLong RX9 169 (-1000000000004), .fieldLink RX9 103 "ChangerFairModel" "tape" "[I", .constantLong RX9 220 (255), .methodLink RX9 141 yX9_in, .static yX9_in, .initialized RX9, .code yX9_in cX9_in 3 (some .boolean), .methodLink RX9 154 yX9_finding, .instanceMethod yX9_finding, .selects RX9 yX9_finding yX9_finding, .code yX9_finding cX9_finding 3 (some .long), .fieldLink RX9 70 "ChangerFairModel" "findings" "[J", .constantLong RX9 139 (-1000000000000)] ++ wsX90)
def wsX9_at : List Cond := .code yX9_at cX9_at 2 (some .int) :: ([.fieldLink RX9 217 "ChangerFairModel" "taped" "I", .fieldLink RX9 103 "ChangerFairModel" "tape" "[I"] ++ wsX90)
def wsX9_isLetter : List Cond := .code yX9_isLetter cX9_isLetter 1 (some .boolean) :: ([])
def wsX9_isFigure : List Cond := .code yX9_isFigure cX9_isFigure 1 (some .boolean) :: ([])
def wsX9_wordOf : List Cond := .code yX9_wordOf cX9_wordOf 3 (some .int) :: ([.constantLong RX9 254 (46309), .constantLong RX9 256 (131360), .constantLong RX9 258 (249), .constantLong RX9 260 (1111), .constantLong RX9 262 (237470), .fieldLink RX9 232 "ChangerFairModel" "value" "I", .constantLong RX9 264 (21568592), .constantLong RX9 266 (168850), .constantLong RX9 268 (223456), .constantLong RX9 270 (365260)] ++ wsX90)
def wsX9_letters_r1 : List Cond := [Cond.fieldLink RX9 222 "ChangerFairModel" "next" "I", Cond.fieldLink RX9 229 "ChangerFairModel" "from" "I", Cond.constantLong RX9 163 (27), Cond.constantLong RX9 248 (96), Cond.constantLong RX9 106 (-1), Cond.fieldLink RX9 235 "ChangerFairModel" "word" "I", Cond.methodLink RX9 225 yX9_at, Cond.instanceMethod yX9_at, Cond.selects RX9 yX9_at yX9_at, Cond.initialized RX9, Cond.code yX9_at cX9_at 2 (some .int), Cond.fieldLink RX9 217 "ChangerFairModel" "taped" "I", Cond.fieldLink RX9 103 "ChangerFairModel" "tape" "[I", Cond.methodLink RX9 238 yX9_isLetter, Cond.static yX9_isLetter, Cond.code yX9_isLetter cX9_isLetter 1 (some .boolean), Cond.methodLink RX9 250 yX9_wordOf, Cond.instanceMethod yX9_wordOf, Cond.selects RX9 yX9_wordOf yX9_wordOf, Cond.code yX9_wordOf cX9_wordOf 3 (some .int), Cond.constantLong RX9 254 (46309), Cond.constantLong RX9 256 (131360), Cond.constantLong RX9 258 (249), Cond.constantLong RX9 260 (1111)]
def wsX9_letters_r2 : List Cond := [Cond.constantLong RX9 262 (237470), Cond.fieldLink RX9 232 "ChangerFairModel" "value" "I", Cond.constantLong RX9 264 (21568592), Cond.constantLong RX9 266 (168850), Cond.constantLong RX9 268 (223456), Cond.constantLong RX9 270 (365260)]
def wsX9_letters : List Cond := .code yX9_letters cX9_letters 3 none :: ((wsX9_letters_r1 ++ wsX9_letters_r2) ++ wsX90)
def wsX9_go_r1 : List Cond := [Cond.fieldLink RX9 222 "ChangerFairModel" "next" "I", Cond.fieldLink RX9 229 "ChangerFairModel" "from" "I", Cond.fieldLink RX9 232 "ChangerFairModel" "value" "I", Cond.fieldLink RX9 235 "ChangerFairModel" "word" "I", Cond.constant RX9 247 (999999), Cond.methodLink RX9 225 yX9_at, Cond.instanceMethod yX9_at, Cond.selects RX9 yX9_at yX9_at, Cond.initialized RX9, Cond.code yX9_at cX9_at 2 (some .int), Cond.fieldLink RX9 217 "ChangerFairModel" "taped" "I", Cond.fieldLink RX9 103 "ChangerFairModel" "tape" "[I", Cond.methodLink RX9 238 yX9_isLetter, Cond.static yX9_isLetter, Cond.code yX9_isLetter cX9_isLetter 1 (some .boolean), Cond.methodLink RX9 241 yX9_letters, Cond.instanceMethod yX9_letters, Cond.selects RX9 yX9_letters yX9_letters, Cond.code yX9_letters cX9_letters 3 none, Cond.constantLong RX9 163 (27), Cond.constantLong RX9 248 (96), Cond.constantLong RX9 106 (-1), Cond.methodLink RX9 250 yX9_wordOf, Cond.instanceMethod yX9_wordOf]
def wsX9_go_r2 : List Cond := [Cond.selects RX9 yX9_wordOf yX9_wordOf, Cond.code yX9_wordOf cX9_wordOf 3 (some .int), Cond.constantLong RX9 254 (46309), Cond.constantLong RX9 256 (131360), Cond.constantLong RX9 258 (249), Cond.constantLong RX9 260 (1111), Cond.constantLong RX9 262 (237470), Cond.constantLong RX9 264 (21568592), Cond.constantLong RX9 266 (168850), Cond.constantLong RX9 268 (223456), Cond.constantLong RX9 270 (365260), Cond.methodLink RX9 244 yX9_isFigure, Cond.static yX9_isFigure, Cond.code yX9_isFigure cX9_isFigure 1 (some .boolean)]
def wsX9_go : List Cond := .code yX9_go cX9_go 2 none :: ((wsX9_go_r1 ++ wsX9_go_r2) ++ wsX90)
def wsX9_wrong : List Cond := .code yX9_wrong cX9_wrong 1 (some .boolean) :: ([.fieldLink RX9 229 "ChangerFairModel" "from" "I", .fieldLink RX9 108 "ChangerFairModel" "faultAt" "J"] ++ wsX90)
def wsX9_test_r1 : List Cond := [Cond.fieldLink RX9 272 "ChangerFairModel" "newClauses" "I", Cond.fieldLink RX9 91 "ChangerFairModel" "newTests" "[I", Cond.fieldLink RX9 235 "ChangerFairModel" "word" "I", Cond.fieldLink RX9 94 "ChangerFairModel" "newValue" "[I", Cond.fieldLink RX9 232 "ChangerFairModel" "value" "I", Cond.fieldLink RX9 97 "ChangerFairModel" "newHow" "[I", Cond.fieldLink RX9 100 "ChangerFairModel" "newNumber" "[I", Cond.methodLink RX9 275 yX9_wrong, Cond.instanceMethod yX9_wrong, Cond.selects RX9 yX9_wrong yX9_wrong, Cond.initialized RX9, Cond.code yX9_wrong cX9_wrong 1 (some .boolean), Cond.fieldLink RX9 229 "ChangerFairModel" "from" "I", Cond.fieldLink RX9 108 "ChangerFairModel" "faultAt" "J", Cond.methodLink RX9 278 yX9_go, Cond.instanceMethod yX9_go, Cond.selects RX9 yX9_go yX9_go, Cond.code yX9_go cX9_go 2 none, Cond.fieldLink RX9 222 "ChangerFairModel" "next" "I", Cond.constant RX9 247 (999999), Cond.methodLink RX9 225 yX9_at, Cond.instanceMethod yX9_at, Cond.selects RX9 yX9_at yX9_at, Cond.code yX9_at cX9_at 2 (some .int)]
def wsX9_test_r2 : List Cond := [Cond.fieldLink RX9 217 "ChangerFairModel" "taped" "I", Cond.fieldLink RX9 103 "ChangerFairModel" "tape" "[I", Cond.methodLink RX9 238 yX9_isLetter, Cond.static yX9_isLetter, Cond.code yX9_isLetter cX9_isLetter 1 (some .boolean), Cond.methodLink RX9 241 yX9_letters, Cond.instanceMethod yX9_letters, Cond.selects RX9 yX9_letters yX9_letters, Cond.code yX9_letters cX9_letters 3 none, Cond.constantLong RX9 163 (27), Cond.constantLong RX9 248 (96), Cond.constantLong RX9 106 (-1), Cond.methodLink RX9 250 yX9_wordOf, Cond.instanceMethod yX9_wordOf, Cond.selects RX9 yX9_wordOf yX9_wordOf, Cond.code yX9_wordOf cX9_wordOf 3 (some .int), Cond.constantLong RX9 254 (46309), Cond.constantLong RX9 256 (131360), Cond.constantLong RX9 258 (249), Cond.constantLong RX9 260 (1111), Cond.constantLong RX9 262 (237470), Cond.constantLong RX9 264 (21568592), Cond.constantLong RX9 266 (168850), Cond.constantLong RX9 268 (223456)]
def wsX9_test_r3 : List Cond := [Cond.constantLong RX9 270 (365260), Cond.methodLink RX9 244 yX9_isFigure, Cond.static yX9_isFigure, Cond.code yX9_isFigure cX9_isFigure 1 (some .boolean)]
def wsX9_test : List Cond := .code yX9_test cX9_test 2 (some .boolean) :: ((wsX9_test_r1 ++ (wsX9_test_r2 ++ wsX9_test_r3)) ++ wsX90)
def wsX9_clause_r1 : List Cond := [Cond.fieldLink RX9 235 "ChangerFairModel" "word" "I", Cond.fieldLink RX9 88 "ChangerFairModel" "newBinding" "[Z", Cond.fieldLink RX9 272 "ChangerFairModel" "newClauses" "I", Cond.fieldLink RX9 91 "ChangerFairModel" "newTests" "[I", Cond.methodLink RX9 275 yX9_wrong, Cond.instanceMethod yX9_wrong, Cond.selects RX9 yX9_wrong yX9_wrong, Cond.initialized RX9, Cond.code yX9_wrong cX9_wrong 1 (some .boolean), Cond.fieldLink RX9 229 "ChangerFairModel" "from" "I", Cond.fieldLink RX9 108 "ChangerFairModel" "faultAt" "J", Cond.methodLink RX9 278 yX9_go, Cond.instanceMethod yX9_go, Cond.selects RX9 yX9_go yX9_go, Cond.code yX9_go cX9_go 2 none, Cond.fieldLink RX9 222 "ChangerFairModel" "next" "I", Cond.fieldLink RX9 232 "ChangerFairModel" "value" "I", Cond.constant RX9 247 (999999), Cond.methodLink RX9 225 yX9_at, Cond.instanceMethod yX9_at, Cond.selects RX9 yX9_at yX9_at, Cond.code yX9_at cX9_at 2 (some .int), Cond.fieldLink RX9 217 "ChangerFairModel" "taped" "I", Cond.fieldLink RX9 103 "ChangerFairModel" "tape" "[I"]
def wsX9_clause_r2 : List Cond := [Cond.methodLink RX9 238 yX9_isLetter, Cond.static yX9_isLetter, Cond.code yX9_isLetter cX9_isLetter 1 (some .boolean), Cond.methodLink RX9 241 yX9_letters, Cond.instanceMethod yX9_letters, Cond.selects RX9 yX9_letters yX9_letters, Cond.code yX9_letters cX9_letters 3 none, Cond.constantLong RX9 163 (27), Cond.constantLong RX9 248 (96), Cond.constantLong RX9 106 (-1), Cond.methodLink RX9 250 yX9_wordOf, Cond.instanceMethod yX9_wordOf, Cond.selects RX9 yX9_wordOf yX9_wordOf, Cond.code yX9_wordOf cX9_wordOf 3 (some .int), Cond.constantLong RX9 254 (46309), Cond.constantLong RX9 256 (131360), Cond.constantLong RX9 258 (249), Cond.constantLong RX9 260 (1111), Cond.constantLong RX9 262 (237470), Cond.constantLong RX9 264 (21568592), Cond.constantLong RX9 266 (168850), Cond.constantLong RX9 268 (223456), Cond.constantLong RX9 270 (365260), Cond.methodLink RX9 244 yX9_isFigure]
def wsX9_clause_r3 : List Cond := [Cond.static yX9_isFigure, Cond.code yX9_isFigure cX9_isFigure 1 (some .boolean), Cond.methodLink RX9 281 yX9_test, Cond.instanceMethod yX9_test, Cond.selects RX9 yX9_test yX9_test, Cond.code yX9_test cX9_test 2 (some .boolean), Cond.fieldLink RX9 94 "ChangerFairModel" "newValue" "[I", Cond.fieldLink RX9 97 "ChangerFairModel" "newHow" "[I", Cond.fieldLink RX9 100 "ChangerFairModel" "newNumber" "[I"]
def wsX9_clause : List Cond := .code yX9_clause cX9_clause 2 (some .boolean) :: ((wsX9_clause_r1 ++ (wsX9_clause_r2 ++ wsX9_clause_r3)) ++ wsX90)
def wsX9_text_r1 : List Cond := [Cond.fieldLink RX9 235 "ChangerFairModel" "word" "I", Cond.fieldLink RX9 272 "ChangerFairModel" "newClauses" "I", Cond.methodLink RX9 284 yX9_clause, Cond.instanceMethod yX9_clause, Cond.selects RX9 yX9_clause yX9_clause, Cond.initialized RX9, Cond.code yX9_clause cX9_clause 2 (some .boolean), Cond.fieldLink RX9 88 "ChangerFairModel" "newBinding" "[Z", Cond.fieldLink RX9 91 "ChangerFairModel" "newTests" "[I", Cond.methodLink RX9 275 yX9_wrong, Cond.instanceMethod yX9_wrong, Cond.selects RX9 yX9_wrong yX9_wrong, Cond.code yX9_wrong cX9_wrong 1 (some .boolean), Cond.fieldLink RX9 229 "ChangerFairModel" "from" "I", Cond.fieldLink RX9 108 "ChangerFairModel" "faultAt" "J", Cond.methodLink RX9 278 yX9_go, Cond.instanceMethod yX9_go, Cond.selects RX9 yX9_go yX9_go, Cond.code yX9_go cX9_go 2 none, Cond.fieldLink RX9 222 "ChangerFairModel" "next" "I", Cond.fieldLink RX9 232 "ChangerFairModel" "value" "I", Cond.constant RX9 247 (999999), Cond.methodLink RX9 225 yX9_at, Cond.instanceMethod yX9_at]
def wsX9_text_r2 : List Cond := [Cond.selects RX9 yX9_at yX9_at, Cond.code yX9_at cX9_at 2 (some .int), Cond.fieldLink RX9 217 "ChangerFairModel" "taped" "I", Cond.fieldLink RX9 103 "ChangerFairModel" "tape" "[I", Cond.methodLink RX9 238 yX9_isLetter, Cond.static yX9_isLetter, Cond.code yX9_isLetter cX9_isLetter 1 (some .boolean), Cond.methodLink RX9 241 yX9_letters, Cond.instanceMethod yX9_letters, Cond.selects RX9 yX9_letters yX9_letters, Cond.code yX9_letters cX9_letters 3 none, Cond.constantLong RX9 163 (27), Cond.constantLong RX9 248 (96), Cond.constantLong RX9 106 (-1), Cond.methodLink RX9 250 yX9_wordOf, Cond.instanceMethod yX9_wordOf, Cond.selects RX9 yX9_wordOf yX9_wordOf, Cond.code yX9_wordOf cX9_wordOf 3 (some .int), Cond.constantLong RX9 254 (46309), Cond.constantLong RX9 256 (131360), Cond.constantLong RX9 258 (249), Cond.constantLong RX9 260 (1111), Cond.constantLong RX9 262 (237470), Cond.constantLong RX9 264 (21568592)]
def wsX9_text_r3 : List Cond := [Cond.constantLong RX9 266 (168850), Cond.constantLong RX9 268 (223456), Cond.constantLong RX9 270 (365260), Cond.methodLink RX9 244 yX9_isFigure, Cond.static yX9_isFigure, Cond.code yX9_isFigure cX9_isFigure 1 (some .boolean), Cond.methodLink RX9 281 yX9_test, Cond.instanceMethod yX9_test, Cond.selects RX9 yX9_test yX9_test, Cond.code yX9_test cX9_test 2 (some .boolean), Cond.fieldLink RX9 94 "ChangerFairModel" "newValue" "[I", Cond.fieldLink RX9 97 "ChangerFairModel" "newHow" "[I", Cond.fieldLink RX9 100 "ChangerFairModel" "newNumber" "[I"]
def wsX9_text : List Cond := .code yX9_text cX9_text 2 (some .boolean) :: ((wsX9_text_r1 ++ (wsX9_text_r2 ++ wsX9_text_r3)) ++ wsX90)
def wsX9_read_r1 : List Cond := [Cond.constantLong RX9 106 (-1), Cond.fieldLink RX9 108 "ChangerFairModel" "faultAt" "J", Cond.fieldLink RX9 272 "ChangerFairModel" "newClauses" "I", Cond.fieldLink RX9 222 "ChangerFairModel" "next" "I", Cond.fieldLink RX9 217 "ChangerFairModel" "taped" "I", Cond.constantLong RX9 290 (-1000000000006), Cond.fieldLink RX9 292 "ChangerFairModel" "clauses" "I", Cond.fieldLink RX9 73 "ChangerFairModel" "binding" "[Z", Cond.fieldLink RX9 88 "ChangerFairModel" "newBinding" "[Z", Cond.fieldLink RX9 76 "ChangerFairModel" "tests" "[I", Cond.fieldLink RX9 91 "ChangerFairModel" "newTests" "[I", Cond.fieldLink RX9 79 "ChangerFairModel" "valueOf" "[I", Cond.fieldLink RX9 94 "ChangerFairModel" "newValue" "[I", Cond.fieldLink RX9 82 "ChangerFairModel" "howOf" "[I", Cond.fieldLink RX9 97 "ChangerFairModel" "newHow" "[I", Cond.fieldLink RX9 85 "ChangerFairModel" "numberOf" "[I", Cond.fieldLink RX9 100 "ChangerFairModel" "newNumber" "[I", Cond.methodLink RX9 278 yX9_go, Cond.instanceMethod yX9_go, Cond.selects RX9 yX9_go yX9_go, Cond.initialized RX9, Cond.code yX9_go cX9_go 2 none, Cond.fieldLink RX9 229 "ChangerFairModel" "from" "I", Cond.fieldLink RX9 232 "ChangerFairModel" "value" "I"]
def wsX9_read_r2 : List Cond := [Cond.fieldLink RX9 235 "ChangerFairModel" "word" "I", Cond.constant RX9 247 (999999), Cond.methodLink RX9 225 yX9_at, Cond.instanceMethod yX9_at, Cond.selects RX9 yX9_at yX9_at, Cond.code yX9_at cX9_at 2 (some .int), Cond.fieldLink RX9 103 "ChangerFairModel" "tape" "[I", Cond.methodLink RX9 238 yX9_isLetter, Cond.static yX9_isLetter, Cond.code yX9_isLetter cX9_isLetter 1 (some .boolean), Cond.methodLink RX9 241 yX9_letters, Cond.instanceMethod yX9_letters, Cond.selects RX9 yX9_letters yX9_letters, Cond.code yX9_letters cX9_letters 3 none, Cond.constantLong RX9 163 (27), Cond.constantLong RX9 248 (96), Cond.methodLink RX9 250 yX9_wordOf, Cond.instanceMethod yX9_wordOf, Cond.selects RX9 yX9_wordOf yX9_wordOf, Cond.code yX9_wordOf cX9_wordOf 3 (some .int), Cond.constantLong RX9 254 (46309), Cond.constantLong RX9 256 (131360), Cond.constantLong RX9 258 (249), Cond.constantLong RX9 260 (1111)]
def wsX9_read_r3 : List Cond := [Cond.constantLong RX9 262 (237470), Cond.constantLong RX9 264 (21568592), Cond.constantLong RX9 266 (168850), Cond.constantLong RX9 268 (223456), Cond.constantLong RX9 270 (365260), Cond.methodLink RX9 244 yX9_isFigure, Cond.static yX9_isFigure, Cond.code yX9_isFigure cX9_isFigure 1 (some .boolean), Cond.methodLink RX9 287 yX9_text, Cond.instanceMethod yX9_text, Cond.selects RX9 yX9_text yX9_text, Cond.code yX9_text cX9_text 2 (some .boolean), Cond.methodLink RX9 284 yX9_clause, Cond.instanceMethod yX9_clause, Cond.selects RX9 yX9_clause yX9_clause, Cond.code yX9_clause cX9_clause 2 (some .boolean), Cond.methodLink RX9 275 yX9_wrong, Cond.instanceMethod yX9_wrong, Cond.selects RX9 yX9_wrong yX9_wrong, Cond.code yX9_wrong cX9_wrong 1 (some .boolean), Cond.methodLink RX9 281 yX9_test, Cond.instanceMethod yX9_test, Cond.selects RX9 yX9_test yX9_test, Cond.code yX9_test cX9_test 2 (some .boolean)]
def wsX9_read_r4 : List Cond := [Cond.methodLink RX9 154 yX9_finding, Cond.instanceMethod yX9_finding, Cond.selects RX9 yX9_finding yX9_finding, Cond.code yX9_finding cX9_finding 3 (some .long), Cond.fieldLink RX9 70 "ChangerFairModel" "findings" "[J", Cond.constantLong RX9 139 (-1000000000000)]
def wsX9_read : List Cond := .code yX9_read cX9_read 3 (some .long) :: ((wsX9_read_r1 ++ (wsX9_read_r2 ++ (wsX9_read_r3 ++ wsX9_read_r4))) ++ wsX90)
def wsX9_fault : List Cond := .code yX9_fault cX9_fault 1 (some .long) :: ([.fieldLink RX9 108 "ChangerFairModel" "faultAt" "J"] ++ wsX90)
def wsX9_binds : List Cond := .code yX9_binds cX9_binds 6 (some .long) :: ([.constantLong RX9 152 (-1000000000001), .methodLink RX9 154 yX9_finding, .instanceMethod yX9_finding, .selects RX9 yX9_finding yX9_finding, .initialized RX9, .code yX9_finding cX9_finding 3 (some .long), .fieldLink RX9 70 "ChangerFairModel" "findings" "[J", .constantLong RX9 139 (-1000000000000), .methodLink RX9 213 yX9_isBound, .instanceMethod yX9_isBound, .selects RX9 yX9_isBound yX9_isBound, .code yX9_isBound cX9_isBound 12 (some .boolean), .fieldLink RX9 292 "ChangerFairModel" "clauses" "I", .fieldLink RX9 76 "ChangerFairModel" "tests" "[I", .fieldLink RX9 79 "ChangerFairModel" "valueOf" "[I", .fieldLink RX9 82 "ChangerFairModel" "howOf" "[I", .fieldLink RX9 85 "ChangerFairModel" "numberOf" "[I", .fieldLink RX9 73 "ChangerFairModel" "binding" "[Z"] ++ wsX90)
def wsX9_owe_r1 : List Cond := [Cond.constant RX9 295 (1000000), Cond.constantLong RX9 152 (-1000000000001), Cond.constantLong RX9 169 (-1000000000004), Cond.fieldLink RX9 52 "ChangerFairModel" "debts" "[J", Cond.methodLink RX9 171 yX9_isHouse, Cond.static yX9_isHouse, Cond.initialized RX9, Cond.code yX9_isHouse cX9_isHouse 1 (some .boolean), Cond.methodLink RX9 141 yX9_in, Cond.static yX9_in, Cond.code yX9_in cX9_in 3 (some .boolean), Cond.methodLink RX9 154 yX9_finding, Cond.instanceMethod yX9_finding, Cond.selects RX9 yX9_finding yX9_finding, Cond.code yX9_finding cX9_finding 3 (some .long), Cond.fieldLink RX9 70 "ChangerFairModel" "findings" "[J", Cond.constantLong RX9 139 (-1000000000000), Cond.methodLink RX9 203 yX9_isTooMuch, Cond.instanceMethod yX9_isTooMuch, Cond.selects RX9 yX9_isTooMuch yX9_isTooMuch, Cond.code yX9_isTooMuch cX9_isTooMuch 7 (some .boolean), Cond.constantLong RX9 150 (1000000000), Cond.constantLong RX9 201 (-1000000000), Cond.methodLink RX9 197 yX9_would]
def wsX9_owe_r2 : List Cond := [Cond.instanceMethod yX9_would, Cond.selects RX9 yX9_would yX9_would, Cond.code yX9_would cX9_would 5 (some .long), Cond.methodLink RX9 207 yX9_comesToOwe, Cond.instanceMethod yX9_comesToOwe, Cond.selects RX9 yX9_comesToOwe yX9_comesToOwe, Cond.code yX9_comesToOwe cX9_comesToOwe 7 none]
def wsX9_owe : List Cond := .code yX9_owe cX9_owe 4 (some .long) :: ((wsX9_owe_r1 ++ wsX9_owe_r2) ++ wsX90)
def wsX9_owes : List Cond := .code yX9_owes cX9_owes 3 (some .long) :: ([.fieldLink RX9 52 "ChangerFairModel" "debts" "[J", .constantLong RX9 152 (-1000000000001), .methodLink RX9 171 yX9_isHouse, .static yX9_isHouse, .initialized RX9, .code yX9_isHouse cX9_isHouse 1 (some .boolean), .methodLink RX9 141 yX9_in, .static yX9_in, .code yX9_in cX9_in 3 (some .boolean), .methodLink RX9 154 yX9_finding, .instanceMethod yX9_finding, .selects RX9 yX9_finding yX9_finding, .code yX9_finding cX9_finding 3 (some .long), .fieldLink RX9 70 "ChangerFairModel" "findings" "[J", .constantLong RX9 139 (-1000000000000)] ++ wsX90)
def wsX9_netOf : List Cond := .code yX9_netOf cX9_netOf 5 (some .long) :: ([.fieldLink RX9 52 "ChangerFairModel" "debts" "[J"] ++ wsX90)
def wsX9_net : List Cond := .code yX9_net cX9_net 2 (some .long) :: ([.constantLong RX9 152 (-1000000000001), .methodLink RX9 171 yX9_isHouse, .static yX9_isHouse, .initialized RX9, .code yX9_isHouse cX9_isHouse 1 (some .boolean), .methodLink RX9 141 yX9_in, .static yX9_in, .code yX9_in cX9_in 3 (some .boolean), .methodLink RX9 296 yX9_netOf, .instanceMethod yX9_netOf, .selects RX9 yX9_netOf yX9_netOf, .code yX9_netOf cX9_netOf 5 (some .long), .fieldLink RX9 52 "ChangerFairModel" "debts" "[J", .methodLink RX9 154 yX9_finding, .instanceMethod yX9_finding, .selects RX9 yX9_finding yX9_finding, .code yX9_finding cX9_finding 3 (some .long), .fieldLink RX9 70 "ChangerFairModel" "findings" "[J", .constantLong RX9 139 (-1000000000000)] ++ wsX90)
def wsX9_findMost : List Cond := .code yX9_findMost cX9_findMost 4 none :: ([.fieldLink RX9 112 "ChangerFairModel" "sums" "[J", .fieldLink RX9 130 "ChangerFairModel" "nets" "[J", .fieldLink RX9 115 "ChangerFairModel" "most" "[I"] ++ wsX90)
def wsX9_leastOf : List Cond := .code yX9_leastOf cX9_leastOf 4 (some .int) :: ([.fieldLink RX9 130 "ChangerFairModel" "nets" "[J"] ++ wsX90)
def wsX9_payOut : List Cond := .code yX9_payOut cX9_payOut 6 none :: ([.fieldLink RX9 130 "ChangerFairModel" "nets" "[J", .methodLink RX9 317 Lib.MathLoose.min_long.x, .static Lib.MathLoose.min_long.x, .initialized "java/lang/Math", .code Lib.MathLoose.min_long.x Lib.MathLoose.min_long.code 4 (some .long), .fieldLink RX9 121 "ChangerFairModel" "payer" "[I", .fieldLink RX9 306 "ChangerFairModel" "payments" "I", .fieldLink RX9 124 "ChangerFairModel" "payee" "[I", .fieldLink RX9 127 "ChangerFairModel" "paid" "[J", .methodLink RX9 313 yX9_leastOf, .instanceMethod yX9_leastOf, .selects RX9 yX9_leastOf yX9_leastOf, .initialized RX9, .code yX9_leastOf cX9_leastOf 4 (some .int)] ++ wsX90)
def wsX9_findPlan_r1 : List Cond := [Cond.fieldLink RX9 130 "ChangerFairModel" "nets" "[J", Cond.fieldLink RX9 303 "ChangerFairModel" "groups" "I", Cond.fieldLink RX9 306 "ChangerFairModel" "payments" "I", Cond.fieldLink RX9 112 "ChangerFairModel" "sums" "[J", Cond.fieldLink RX9 115 "ChangerFairModel" "most" "[I", Cond.fieldLink RX9 118 "ChangerFairModel" "group" "[I", Cond.methodLink RX9 296 yX9_netOf, Cond.instanceMethod yX9_netOf, Cond.selects RX9 yX9_netOf yX9_netOf, Cond.initialized RX9, Cond.code yX9_netOf cX9_netOf 5 (some .long), Cond.fieldLink RX9 52 "ChangerFairModel" "debts" "[J", Cond.methodLink RX9 300 yX9_findMost, Cond.instanceMethod yX9_findMost, Cond.selects RX9 yX9_findMost yX9_findMost, Cond.code yX9_findMost cX9_findMost 4 none, Cond.methodLink RX9 309 yX9_payOut, Cond.instanceMethod yX9_payOut, Cond.selects RX9 yX9_payOut yX9_payOut, Cond.code yX9_payOut cX9_payOut 6 none, Cond.methodLink RX9 317 Lib.MathLoose.min_long.x, Cond.static Lib.MathLoose.min_long.x, Cond.initialized "java/lang/Math", Cond.code Lib.MathLoose.min_long.x Lib.MathLoose.min_long.code 4 (some .long)]
def wsX9_findPlan_r2 : List Cond := [Cond.fieldLink RX9 121 "ChangerFairModel" "payer" "[I", Cond.fieldLink RX9 124 "ChangerFairModel" "payee" "[I", Cond.fieldLink RX9 127 "ChangerFairModel" "paid" "[J", Cond.methodLink RX9 313 yX9_leastOf, Cond.instanceMethod yX9_leastOf, Cond.selects RX9 yX9_leastOf yX9_leastOf, Cond.code yX9_leastOf cX9_leastOf 4 (some .int)]
def wsX9_findPlan : List Cond := .code yX9_findPlan cX9_findPlan 3 none :: ((wsX9_findPlan_r1 ++ wsX9_findPlan_r2) ++ wsX90)
def wsX9_plan_r1 : List Cond := [Cond.fieldLink RX9 303 "ChangerFairModel" "groups" "I", Cond.fieldLink RX9 306 "ChangerFairModel" "payments" "I", Cond.methodLink RX9 323 yX9_findPlan, Cond.instanceMethod yX9_findPlan, Cond.selects RX9 yX9_findPlan yX9_findPlan, Cond.initialized RX9, Cond.code yX9_findPlan cX9_findPlan 3 none, Cond.fieldLink RX9 130 "ChangerFairModel" "nets" "[J", Cond.fieldLink RX9 112 "ChangerFairModel" "sums" "[J", Cond.fieldLink RX9 115 "ChangerFairModel" "most" "[I", Cond.fieldLink RX9 118 "ChangerFairModel" "group" "[I", Cond.methodLink RX9 296 yX9_netOf, Cond.instanceMethod yX9_netOf, Cond.selects RX9 yX9_netOf yX9_netOf, Cond.code yX9_netOf cX9_netOf 5 (some .long), Cond.fieldLink RX9 52 "ChangerFairModel" "debts" "[J", Cond.methodLink RX9 300 yX9_findMost, Cond.instanceMethod yX9_findMost, Cond.selects RX9 yX9_findMost yX9_findMost, Cond.code yX9_findMost cX9_findMost 4 none, Cond.methodLink RX9 309 yX9_payOut, Cond.instanceMethod yX9_payOut, Cond.selects RX9 yX9_payOut yX9_payOut, Cond.code yX9_payOut cX9_payOut 6 none]
def wsX9_plan_r2 : List Cond := [Cond.methodLink RX9 317 Lib.MathLoose.min_long.x, Cond.static Lib.MathLoose.min_long.x, Cond.initialized "java/lang/Math", Cond.code Lib.MathLoose.min_long.x Lib.MathLoose.min_long.code 4 (some .long), Cond.fieldLink RX9 121 "ChangerFairModel" "payer" "[I", Cond.fieldLink RX9 124 "ChangerFairModel" "payee" "[I", Cond.fieldLink RX9 127 "ChangerFairModel" "paid" "[J", Cond.methodLink RX9 313 yX9_leastOf, Cond.instanceMethod yX9_leastOf, Cond.selects RX9 yX9_leastOf yX9_leastOf, Cond.code yX9_leastOf cX9_leastOf 4 (some .int)]
def wsX9_plan : List Cond := .code yX9_plan cX9_plan 2 (some .long) :: ((wsX9_plan_r1 ++ wsX9_plan_r2) ++ wsX90)
def wsX9_paymentOf : List Cond := .code yX9_paymentOf cX9_paymentOf 3 (some .long) :: ([.fieldLink RX9 121 "ChangerFairModel" "payer" "[I", .fieldLink RX9 124 "ChangerFairModel" "payee" "[I", .fieldLink RX9 127 "ChangerFairModel" "paid" "[J"] ++ wsX90)
def wsX9_payment_r1 : List Cond := [Cond.constantLong RX9 152 (-1000000000001), Cond.fieldLink RX9 306 "ChangerFairModel" "payments" "I", Cond.constantLong RX9 211 (-1000000000002), Cond.methodLink RX9 141 yX9_in, Cond.static yX9_in, Cond.initialized RX9, Cond.code yX9_in cX9_in 3 (some .boolean), Cond.methodLink RX9 154 yX9_finding, Cond.instanceMethod yX9_finding, Cond.selects RX9 yX9_finding yX9_finding, Cond.code yX9_finding cX9_finding 3 (some .long), Cond.fieldLink RX9 70 "ChangerFairModel" "findings" "[J", Cond.constantLong RX9 139 (-1000000000000), Cond.methodLink RX9 323 yX9_findPlan, Cond.instanceMethod yX9_findPlan, Cond.selects RX9 yX9_findPlan yX9_findPlan, Cond.code yX9_findPlan cX9_findPlan 3 none, Cond.fieldLink RX9 130 "ChangerFairModel" "nets" "[J", Cond.fieldLink RX9 303 "ChangerFairModel" "groups" "I", Cond.fieldLink RX9 112 "ChangerFairModel" "sums" "[J", Cond.fieldLink RX9 115 "ChangerFairModel" "most" "[I", Cond.fieldLink RX9 118 "ChangerFairModel" "group" "[I", Cond.methodLink RX9 296 yX9_netOf, Cond.instanceMethod yX9_netOf]
def wsX9_payment_r2 : List Cond := [Cond.selects RX9 yX9_netOf yX9_netOf, Cond.code yX9_netOf cX9_netOf 5 (some .long), Cond.fieldLink RX9 52 "ChangerFairModel" "debts" "[J", Cond.methodLink RX9 300 yX9_findMost, Cond.instanceMethod yX9_findMost, Cond.selects RX9 yX9_findMost yX9_findMost, Cond.code yX9_findMost cX9_findMost 4 none, Cond.methodLink RX9 309 yX9_payOut, Cond.instanceMethod yX9_payOut, Cond.selects RX9 yX9_payOut yX9_payOut, Cond.code yX9_payOut cX9_payOut 6 none, Cond.methodLink RX9 317 Lib.MathLoose.min_long.x, Cond.static Lib.MathLoose.min_long.x, Cond.initialized "java/lang/Math", Cond.code Lib.MathLoose.min_long.x Lib.MathLoose.min_long.code 4 (some .long), Cond.fieldLink RX9 121 "ChangerFairModel" "payer" "[I", Cond.fieldLink RX9 124 "ChangerFairModel" "payee" "[I", Cond.fieldLink RX9 127 "ChangerFairModel" "paid" "[J", Cond.methodLink RX9 313 yX9_leastOf, Cond.instanceMethod yX9_leastOf, Cond.selects RX9 yX9_leastOf yX9_leastOf, Cond.code yX9_leastOf cX9_leastOf 4 (some .int), Cond.methodLink RX9 326 yX9_paymentOf, Cond.instanceMethod yX9_paymentOf]
def wsX9_payment_r3 : List Cond := [Cond.selects RX9 yX9_paymentOf yX9_paymentOf, Cond.code yX9_paymentOf cX9_paymentOf 3 (some .long)]
def wsX9_payment : List Cond := .code yX9_payment cX9_payment 3 (some .long) :: ((wsX9_payment_r1 ++ (wsX9_payment_r2 ++ wsX9_payment_r3)) ++ wsX90)
def wsX9_owedInAll : List Cond := .code yX9_owedInAll cX9_owedInAll 4 (some .long) :: ([.fieldLink RX9 52 "ChangerFairModel" "debts" "[J"] ++ wsX90)
def wsX9_clear_r1 : List Cond := [Cond.fieldLink RX9 52 "ChangerFairModel" "debts" "[J", Cond.fieldLink RX9 306 "ChangerFairModel" "payments" "I", Cond.fieldLink RX9 121 "ChangerFairModel" "payer" "[I", Cond.fieldLink RX9 124 "ChangerFairModel" "payee" "[I", Cond.fieldLink RX9 127 "ChangerFairModel" "paid" "[J", Cond.methodLink RX9 323 yX9_findPlan, Cond.instanceMethod yX9_findPlan, Cond.selects RX9 yX9_findPlan yX9_findPlan, Cond.initialized RX9, Cond.code yX9_findPlan cX9_findPlan 3 none, Cond.fieldLink RX9 130 "ChangerFairModel" "nets" "[J", Cond.fieldLink RX9 303 "ChangerFairModel" "groups" "I", Cond.fieldLink RX9 112 "ChangerFairModel" "sums" "[J", Cond.fieldLink RX9 115 "ChangerFairModel" "most" "[I", Cond.fieldLink RX9 118 "ChangerFairModel" "group" "[I", Cond.methodLink RX9 296 yX9_netOf, Cond.instanceMethod yX9_netOf, Cond.selects RX9 yX9_netOf yX9_netOf, Cond.code yX9_netOf cX9_netOf 5 (some .long), Cond.methodLink RX9 300 yX9_findMost, Cond.instanceMethod yX9_findMost, Cond.selects RX9 yX9_findMost yX9_findMost, Cond.code yX9_findMost cX9_findMost 4 none, Cond.methodLink RX9 309 yX9_payOut]
def wsX9_clear_r2 : List Cond := [Cond.instanceMethod yX9_payOut, Cond.selects RX9 yX9_payOut yX9_payOut, Cond.code yX9_payOut cX9_payOut 6 none, Cond.methodLink RX9 317 Lib.MathLoose.min_long.x, Cond.static Lib.MathLoose.min_long.x, Cond.initialized "java/lang/Math", Cond.code Lib.MathLoose.min_long.x Lib.MathLoose.min_long.code 4 (some .long), Cond.methodLink RX9 313 yX9_leastOf, Cond.instanceMethod yX9_leastOf, Cond.selects RX9 yX9_leastOf yX9_leastOf, Cond.code yX9_leastOf cX9_leastOf 4 (some .int), Cond.methodLink RX9 330 yX9_owedInAll, Cond.instanceMethod yX9_owedInAll, Cond.selects RX9 yX9_owedInAll yX9_owedInAll, Cond.code yX9_owedInAll cX9_owedInAll 4 (some .long)]
def wsX9_clear : List Cond := .code yX9_clear cX9_clear 2 (some .long) :: ((wsX9_clear_r1 ++ wsX9_clear_r2) ++ wsX90)
def wsX9_coin : List Cond := .code yX9_coin cX9_coin 4 (some .long) :: ([.constantLong RX9 152 (-1000000000001), .fieldLink RX9 55 "ChangerFairModel" "worth" "[I", .methodLink RX9 141 yX9_in, .static yX9_in, .initialized RX9, .code yX9_in cX9_in 3 (some .boolean), .methodLink RX9 154 yX9_finding, .instanceMethod yX9_finding, .selects RX9 yX9_finding yX9_finding, .code yX9_finding cX9_finding 3 (some .long), .fieldLink RX9 70 "ChangerFairModel" "findings" "[J", .constantLong RX9 139 (-1000000000000)] ++ wsX90)
def wsX9_purse : List Cond := .code yX9_purse cX9_purse 5 (some .long) :: ([.constantLong RX9 152 (-1000000000001), .fieldLink RX9 58 "ChangerFairModel" "purses" "[I", .methodLink RX9 171 yX9_isHouse, .static yX9_isHouse, .initialized RX9, .code yX9_isHouse cX9_isHouse 1 (some .boolean), .methodLink RX9 141 yX9_in, .static yX9_in, .code yX9_in cX9_in 3 (some .boolean), .methodLink RX9 154 yX9_finding, .instanceMethod yX9_finding, .selects RX9 yX9_finding yX9_finding, .code yX9_finding cX9_finding 3 (some .long), .fieldLink RX9 70 "ChangerFairModel" "findings" "[J", .constantLong RX9 139 (-1000000000000)] ++ wsX90)
def wsX9_has : List Cond := .code yX9_has cX9_has 6 (some .long) :: ([.constantLong RX9 152 (-1000000000001), .fieldLink RX9 58 "ChangerFairModel" "purses" "[I", .fieldLink RX9 55 "ChangerFairModel" "worth" "[I", .methodLink RX9 171 yX9_isHouse, .static yX9_isHouse, .initialized RX9, .code yX9_isHouse cX9_isHouse 1 (some .boolean), .methodLink RX9 141 yX9_in, .static yX9_in, .code yX9_in cX9_in 3 (some .boolean), .methodLink RX9 154 yX9_finding, .instanceMethod yX9_finding, .selects RX9 yX9_finding yX9_finding, .code yX9_finding cX9_finding 3 (some .long), .fieldLink RX9 70 "ChangerFairModel" "findings" "[J", .constantLong RX9 139 (-1000000000000)] ++ wsX90)
def wsX9_settle : List Cond := .code yX9_settle cX9_settle 8 (some .long) :: ([.constantLong RX9 152 (-1000000000001), .fieldLink RX9 52 "ChangerFairModel" "debts" "[J", .constantLong RX9 211 (-1000000000002), .fieldLink RX9 55 "ChangerFairModel" "worth" "[I", .fieldLink RX9 58 "ChangerFairModel" "purses" "[I", .methodLink RX9 334 Lib.Math.min.name, .static Lib.Math.min.name, .initialized "java/lang/Math", .code Lib.Math.min.name Lib.Math.min.code 2 (some .int), .methodLink RX9 171 yX9_isHouse, .static yX9_isHouse, .initialized RX9, .code yX9_isHouse cX9_isHouse 1 (some .boolean), .methodLink RX9 141 yX9_in, .static yX9_in, .code yX9_in cX9_in 3 (some .boolean), .methodLink RX9 154 yX9_finding, .instanceMethod yX9_finding, .selects RX9 yX9_finding yX9_finding, .code yX9_finding cX9_finding 3 (some .long), .fieldLink RX9 70 "ChangerFairModel" "findings" "[J", .constantLong RX9 139 (-1000000000000)] ++ wsX90)
def wsX9_vote : List Cond := .code yX9_vote cX9_vote 5 (some .long) :: ([.constantLong RX9 152 (-1000000000001), .fieldLink RX9 61 "ChangerFairModel" "votes" "[I", .methodLink RX9 171 yX9_isHouse, .static yX9_isHouse, .initialized RX9, .code yX9_isHouse cX9_isHouse 1 (some .boolean), .methodLink RX9 141 yX9_in, .static yX9_in, .code yX9_in cX9_in 3 (some .boolean), .methodLink RX9 175 yX9_isTown, .static yX9_isTown, .code yX9_isTown cX9_isTown 1 (some .boolean), .methodLink RX9 154 yX9_finding, .instanceMethod yX9_finding, .selects RX9 yX9_finding yX9_finding, .code yX9_finding cX9_finding 3 (some .long), .fieldLink RX9 70 "ChangerFairModel" "findings" "[J", .constantLong RX9 139 (-1000000000000)] ++ wsX90)
def wsX9_rate : List Cond := .code yX9_rate cX9_rate 8 (some .long) :: ([.constantLong RX9 152 (-1000000000001), .fieldLink RX9 61 "ChangerFairModel" "votes" "[I", .constantLong RX9 211 (-1000000000002), .methodLink RX9 175 yX9_isTown, .static yX9_isTown, .initialized RX9, .code yX9_isTown cX9_isTown 1 (some .boolean), .methodLink RX9 141 yX9_in, .static yX9_in, .code yX9_in cX9_in 3 (some .boolean), .methodLink RX9 154 yX9_finding, .instanceMethod yX9_finding, .selects RX9 yX9_finding yX9_finding, .code yX9_finding cX9_finding 3 (some .long), .fieldLink RX9 70 "ChangerFairModel" "findings" "[J", .constantLong RX9 139 (-1000000000000)] ++ wsX90)
def wsX9_offer : List Cond := .code yX9_offer cX9_offer 5 (some .long) :: ([.constantLong RX9 152 (-1000000000001), .fieldLink RX9 64 "ChangerFairModel" "offers" "[I", .methodLink RX9 175 yX9_isTown, .static yX9_isTown, .initialized RX9, .code yX9_isTown cX9_isTown 1 (some .boolean), .methodLink RX9 141 yX9_in, .static yX9_in, .code yX9_in cX9_in 3 (some .boolean), .methodLink RX9 154 yX9_finding, .instanceMethod yX9_finding, .selects RX9 yX9_finding yX9_finding, .code yX9_finding cX9_finding 3 (some .long), .fieldLink RX9 70 "ChangerFairModel" "findings" "[J", .constantLong RX9 139 (-1000000000000)] ++ wsX90)
def wsX9_look : List Cond := .code yX9_look cX9_look 12 none :: ([.fieldLink RX9 64 "ChangerFairModel" "offers" "[I", .constantLong RX9 336 (100), .constantLong RX9 338 (10), .constantLong RX9 340 (10000), .fieldLink RX9 342 "ChangerFairModel" "bestProduct" "J", .fieldLink RX9 345 "ChangerFairModel" "bestTurn" "J"] ++ wsX90)
def wsX9_turn : List Cond := .code yX9_turn cX9_turn 8 (some .long) :: ([.constantLong RX9 348 (10000000000000000), .fieldLink RX9 342 "ChangerFairModel" "bestProduct" "J", .constantLong RX9 211 (-1000000000002), .fieldLink RX9 345 "ChangerFairModel" "bestTurn" "J", .methodLink RX9 350 yX9_look, .instanceMethod yX9_look, .selects RX9 yX9_look yX9_look, .initialized RX9, .code yX9_look cX9_look 12 none, .fieldLink RX9 64 "ChangerFairModel" "offers" "[I", .constantLong RX9 336 (100), .constantLong RX9 338 (10), .constantLong RX9 340 (10000), .methodLink RX9 154 yX9_finding, .instanceMethod yX9_finding, .selects RX9 yX9_finding yX9_finding, .code yX9_finding cX9_finding 3 (some .long), .fieldLink RX9 70 "ChangerFairModel" "findings" "[J", .constantLong RX9 139 (-1000000000000)] ++ wsX90)
def wsX9_pledged : List Cond := .code yX9_pledged cX9_pledged 7 (some .long) :: ([.fieldLink RX9 145 "ChangerFairModel" "bills" "I", .fieldLink RX9 20 "ChangerFairModel" "kindOf" "[I", .fieldLink RX9 35 "ChangerFairModel" "stateOf" "[I", .fieldLink RX9 48 "ChangerFairModel" "byPay" "[Z", .fieldLink RX9 26 "ChangerFairModel" "draweeOf" "[I", .fieldLink RX9 29 "ChangerFairModel" "holderOf" "[I", .fieldLink RX9 32 "ChangerFairModel" "amountOf" "[I", .fieldLink RX9 52 "ChangerFairModel" "debts" "[J", .methodLink RX9 317 Lib.MathLoose.min_long.x, .static Lib.MathLoose.min_long.x, .initialized "java/lang/Math", .code Lib.MathLoose.min_long.x Lib.MathLoose.min_long.code 4 (some .long)] ++ wsX90)
def wsX9_share : List Cond := .code yX9_share cX9_share 10 (some .long) :: ([.fieldLink RX9 133 "ChangerFairModel" "claims" "[J", .fieldLink RX9 136 "ChangerFairModel" "gets" "[J"] ++ wsX90)
def wsX9_part_r1 : List Cond := [Cond.constant RX9 354 (1000000000), Cond.constantLong RX9 152 (-1000000000001), Cond.fieldLink RX9 136 "ChangerFairModel" "gets" "[J", Cond.fieldLink RX9 133 "ChangerFairModel" "claims" "[J", Cond.fieldLink RX9 52 "ChangerFairModel" "debts" "[J", Cond.methodLink RX9 171 yX9_isHouse, Cond.static yX9_isHouse, Cond.initialized RX9, Cond.code yX9_isHouse cX9_isHouse 1 (some .boolean), Cond.methodLink RX9 141 yX9_in, Cond.static yX9_in, Cond.code yX9_in cX9_in 3 (some .boolean), Cond.methodLink RX9 154 yX9_finding, Cond.instanceMethod yX9_finding, Cond.selects RX9 yX9_finding yX9_finding, Cond.code yX9_finding cX9_finding 3 (some .long), Cond.fieldLink RX9 70 "ChangerFairModel" "findings" "[J", Cond.constantLong RX9 139 (-1000000000000), Cond.methodLink RX9 355 yX9_pledged, Cond.instanceMethod yX9_pledged, Cond.selects RX9 yX9_pledged yX9_pledged, Cond.code yX9_pledged cX9_pledged 7 (some .long), Cond.fieldLink RX9 145 "ChangerFairModel" "bills" "I", Cond.fieldLink RX9 20 "ChangerFairModel" "kindOf" "[I"]
def wsX9_part_r2 : List Cond := [Cond.fieldLink RX9 35 "ChangerFairModel" "stateOf" "[I", Cond.fieldLink RX9 48 "ChangerFairModel" "byPay" "[Z", Cond.fieldLink RX9 26 "ChangerFairModel" "draweeOf" "[I", Cond.fieldLink RX9 29 "ChangerFairModel" "holderOf" "[I", Cond.fieldLink RX9 32 "ChangerFairModel" "amountOf" "[I", Cond.methodLink RX9 317 Lib.MathLoose.min_long.x, Cond.static Lib.MathLoose.min_long.x, Cond.initialized "java/lang/Math", Cond.code Lib.MathLoose.min_long.x Lib.MathLoose.min_long.code 4 (some .long), Cond.methodLink RX9 358 yX9_share, Cond.instanceMethod yX9_share, Cond.selects RX9 yX9_share yX9_share, Cond.code yX9_share cX9_share 10 (some .long)]
def wsX9_part : List Cond := .code yX9_part cX9_part 7 (some .long) :: ((wsX9_part_r1 ++ wsX9_part_r2) ++ wsX90)
def wsX9_tell : List Cond := .code yX9_tell cX9_tell 2 (some .long) :: ([.fieldLink RX9 361 "ChangerFairModel" "tells" "I", .constantLong RX9 169 (-1000000000004), .fieldLink RX9 67 "ChangerFairModel" "told" "[I", .methodLink RX9 154 yX9_finding, .instanceMethod yX9_finding, .selects RX9 yX9_finding yX9_finding, .initialized RX9, .code yX9_finding cX9_finding 3 (some .long), .fieldLink RX9 70 "ChangerFairModel" "findings" "[J", .constantLong RX9 139 (-1000000000000)] ++ wsX90)
def wsX9_check_r1 : List Cond := [Cond.fieldLink RX9 361 "ChangerFairModel" "tells" "I", Cond.fieldLink RX9 306 "ChangerFairModel" "payments" "I", Cond.fieldLink RX9 67 "ChangerFairModel" "told" "[I", Cond.constantLong RX9 364 (99), Cond.methodLink RX9 323 yX9_findPlan, Cond.instanceMethod yX9_findPlan, Cond.selects RX9 yX9_findPlan yX9_findPlan, Cond.initialized RX9, Cond.code yX9_findPlan cX9_findPlan 3 none, Cond.fieldLink RX9 130 "ChangerFairModel" "nets" "[J", Cond.fieldLink RX9 303 "ChangerFairModel" "groups" "I", Cond.fieldLink RX9 112 "ChangerFairModel" "sums" "[J", Cond.fieldLink RX9 115 "ChangerFairModel" "most" "[I", Cond.fieldLink RX9 118 "ChangerFairModel" "group" "[I", Cond.methodLink RX9 296 yX9_netOf, Cond.instanceMethod yX9_netOf, Cond.selects RX9 yX9_netOf yX9_netOf, Cond.code yX9_netOf cX9_netOf 5 (some .long), Cond.fieldLink RX9 52 "ChangerFairModel" "debts" "[J", Cond.methodLink RX9 300 yX9_findMost, Cond.instanceMethod yX9_findMost, Cond.selects RX9 yX9_findMost yX9_findMost, Cond.code yX9_findMost cX9_findMost 4 none, Cond.methodLink RX9 309 yX9_payOut]
def wsX9_check_r2 : List Cond := [Cond.instanceMethod yX9_payOut, Cond.selects RX9 yX9_payOut yX9_payOut, Cond.code yX9_payOut cX9_payOut 6 none, Cond.methodLink RX9 317 Lib.MathLoose.min_long.x, Cond.static Lib.MathLoose.min_long.x, Cond.initialized "java/lang/Math", Cond.code Lib.MathLoose.min_long.x Lib.MathLoose.min_long.code 4 (some .long), Cond.fieldLink RX9 121 "ChangerFairModel" "payer" "[I", Cond.fieldLink RX9 124 "ChangerFairModel" "payee" "[I", Cond.fieldLink RX9 127 "ChangerFairModel" "paid" "[J", Cond.methodLink RX9 313 yX9_leastOf, Cond.instanceMethod yX9_leastOf, Cond.selects RX9 yX9_leastOf yX9_leastOf, Cond.code yX9_leastOf cX9_leastOf 4 (some .int), Cond.methodLink RX9 326 yX9_paymentOf, Cond.instanceMethod yX9_paymentOf, Cond.selects RX9 yX9_paymentOf yX9_paymentOf, Cond.code yX9_paymentOf cX9_paymentOf 3 (some .long)]
def wsX9_check : List Cond := .code yX9_check cX9_check 4 (some .long) :: ((wsX9_check_r1 ++ wsX9_check_r2) ++ wsX90)
def wsX9_count : List Cond := .code yX9_count cX9_count 2 (some .long) :: ([.fieldLink RX9 158 "ChangerFairModel" "day" "J", .fieldLink RX9 145 "ChangerFairModel" "bills" "I", .fieldLink RX9 292 "ChangerFairModel" "clauses" "I", .fieldLink RX9 361 "ChangerFairModel" "tells" "I", .fieldLink RX9 217 "ChangerFairModel" "taped" "I", .constantLong RX9 152 (-1000000000001), .methodLink RX9 330 yX9_owedInAll, .instanceMethod yX9_owedInAll, .selects RX9 yX9_owedInAll yX9_owedInAll, .initialized RX9, .code yX9_owedInAll cX9_owedInAll 4 (some .long), .fieldLink RX9 52 "ChangerFairModel" "debts" "[J", .methodLink RX9 154 yX9_finding, .instanceMethod yX9_finding, .selects RX9 yX9_finding yX9_finding, .code yX9_finding cX9_finding 3 (some .long), .fieldLink RX9 70 "ChangerFairModel" "findings" "[J", .constantLong RX9 139 (-1000000000000)] ++ wsX90)
def wsX9_found : List Cond := .code yX9_found cX9_found 2 (some .long) :: ([.fieldLink RX9 70 "ChangerFairModel" "findings" "[J", .constantLong RX9 152 (-1000000000001), .methodLink RX9 141 yX9_in, .static yX9_in, .initialized RX9, .code yX9_in cX9_in 3 (some .boolean), .methodLink RX9 154 yX9_finding, .instanceMethod yX9_finding, .selects RX9 yX9_finding yX9_finding, .code yX9_finding cX9_finding 3 (some .long), .constantLong RX9 139 (-1000000000000)] ++ wsX90)
def wsJ9_max_7cf53 : List Cond := .code yJ9_max_7cf53 cJ9_max_7cf53 2 (some .int) :: ([])
def wsJ9_max_f86c9 : List Cond := .code yJ9_max_f86c9 cJ9_max_f86c9 4 (some .long) :: ([])
def wsJ9_min_7cf53 : List Cond := .code yJ9_min_7cf53 cJ9_min_7cf53 2 (some .int) :: ([])
def wsJ9_min_f86c9 : List Cond := .code yJ9_min_f86c9 cJ9_min_f86c9 4 (some .long) :: ([])
end
section
section GLAYER
abbrev gT : Type := Program × Launch × Env × State × MethodId × Array Value × List Frame × Method × Code × (State → Prop) × (Nat → Prop) × Heap
/-- the return instruction at pc is the one of that answer -/
def gRv (cc : ByteArray) (pc : Nat) (v : Option Value) : Prop := match v with
  | none => decode cc pc = .ok (.return_, 1)
  | some (.int _) => decode cc pc = .ok (.ireturn, 1)
  | some (.long _) => decode cc pc = .ok (.lreturn, 1)
  | some (.ref _) => decode cc pc = .ok (.areturn, 1)
  | some .null => decode cc pc = .ok (.areturn, 1)
  | _ => False
def gW (Γ : gT) (R : Room) (H : Heap) (locs : List Loc) (k n pc : Nat) (ls : Array Slot) (st : List Value) : Prop := match Γ with
  | (p, l, e, s, m, args, below, meth, c, Q, _, _) => W p l e R s m args below meth c H locs k n Q (F0 m pc ls st)
def gS (Γ : gT) (D : va_G) (cl : List vw_C) (ws : va_W) (H : Heap) (locs : List Loc) : Prop := match Γ with
  | (_, _, _, _, _, _, _, _, _, _, A, H0) => va_P D cl ws H ∧ va_D A ws ∧ va_S A H0 H locs
def gOk (Γ : gT) (R : Room) (cc : ByteArray) (own : String) (Ts : List Cond) (nL : Nat) (D : va_G) (cl : List vw_C) (tys : List (ClassId × FieldType)) (mc ms : Nat) (post : Option Value → va_W → Prop) : Prop := match Γ with
  | (p, l, e, s, m, args, below, meth, c, Q, A, H0) => p.tables.exec = Jvm.exec ∧ c.code = cc ∧ c.maxLocals = nL ∧ s.vm.findClass own = some m.cls ∧ (∀ w ∈ Ts, w.before args s = true) ∧ va_K D cl tys s ∧ (∀ q : Nat, H0.size ≤ q → A q) ∧ (meth.name = "<init>" ∨ True) ∧
    (∀ (v : Option Value) (ws : va_W) (H : Heap) (locs : List Loc) (ls : Array Slot) (pc : Nat), post v ws → va_P D cl ws H → va_D A ws → va_S A H0 H locs → gRv cc pc v → W p l e R s m args below meth c H locs mc ms Q (F0 m pc ls v.toList))
/-- from any heap that holds the cells ws, any locals that hold lv, with the stack st at pc, the method comes to its end with post -/
def G (Γ : gT) (R : Room) (cc : ByteArray) (own : String) (Ts : List Cond) (nL : Nat) (D : va_G) (cl : List vw_C) (tys : List (ClassId × FieldType)) (mc ms : Nat) (post : Option Value → va_W → Prop) (k n : Nat) (ws : va_W) (pc : Nat) (lv : List (Nat × Value)) (st : List Value) : Prop :=
  gOk Γ R cc own Ts nL D cl tys mc ms post → ∀ (H : Heap) (locs : List Loc) (ls : Array Slot), gS Γ D cl ws H locs → lv_has ls nL lv → gW Γ R H locs k n pc ls st
theorem g_lk {ls : Array Slot} {nL : Nat} {lv : List (Nat × Value)} (h : lv_has ls nL lv) {i : Nat} {v : Value} (hi : lv.lookup i = some v) : ls[i]? = some (.val v) := by
  refine h.2.2 (i, v) ?_
  have : ∀ l : List (Nat × Value), l.lookup i = some v → (i, v) ∈ l := by
    intro l
    induction l with
    | nil => intro h; cases h
    | cons q t ih =>
      intro h
      obtain ⟨a, b⟩ := q
      by_cases e : i = a
      · subst e
        simp only [List.lookup, beq_self_eq_true] at h
        cases h
        exact List.mem_cons_self
      · have e2 : (i == a) = false := by simpa using e
        simp only [List.lookup, e2] at h
        exact List.mem_cons_of_mem _ (ih h)
  exact this lv hi
/-- the listed locals of lv' are locals of lv -/
def gSub (lv : List (Nat × Value)) : List (Nat × Value) → Prop
  | [] => True
  | q :: t => lv.lookup q.1 = some q.2 ∧ gSub lv t
theorem gSub_mem {lv lv' : List (Nat × Value)} (h : gSub lv lv') : ∀ q ∈ lv', lv.lookup q.1 = some q.2 := by
  induction lv' with
  | nil => intro q hq; cases hq
  | cons a t ih =>
    intro q hq
    rcases List.mem_cons.mp hq with rfl | hq
    · exact h.1
    · exact ih h.2 q hq
theorem g_has {ls : Array Slot} {nL : Nat} {lv lv' : List (Nat × Value)} (h : lv_has ls nL lv) (hs : gSub lv lv') : lv_has ls nL lv' :=
  ⟨h.1, h.2.1, fun q hq => g_lk h (gSub_mem hs q hq)⟩
/-- a local is set: what it lay over is forgotten -/
def gset1 (lv : List (Nat × Value)) (i : Nat) (v : Value) : List (Nat × Value) := (i, v) :: lv.filter (fun q => !(q.1 == i) && !(q.1 + 1 == i && q.2.category == 2))
def gset2 (lv : List (Nat × Value)) (i : Nat) (v : Value) : List (Nat × Value) := (i, v) :: lv.filter (fun q => !(q.1 == i) && (!(q.1 == i + 1) && !(q.1 + 1 == i && q.2.category == 2)))

variable {Γ : gT} {R : Room} {cc : ByteArray} {own : String} {Ts : List Cond} {nL : Nat} {D : va_G} {cl : List vw_C} {tys : List (ClassId × FieldType)} {mc ms : Nat} {post : Option Value → va_W → Prop} {k n : Nat} {ws : va_W} {pc : Nat} {lv : List (Nat × Value)} {st : List Value}
theorem g_iconst {i : Int} (v : Int32) (hv : Int32.ofInt i = v) (hd : decode cc pc = .ok (.iconst i, 1)) (kk : G Γ R cc own Ts nL D cl tys mc ms post k n ws (pc + 1) lv (.int v :: st)) : G Γ R cc own Ts nL D cl tys mc ms post k n ws pc lv st := by
  intro hok H locs ls hS hl
  have h9 := kk hok H locs ls hS hl
  obtain ⟨p, l, e, s, m, args, below, meth, c, Q, A, H0⟩ := Γ
  obtain ⟨hx, hb, hml, hown, hts, hK, hA, hin, hret⟩ := hok
  exact lv_iconst hx hb hd hv h9
theorem g_bipush {i : Int} (v : Int32) (hv : (Int8.ofInt i).toInt32 = v) (hd : decode cc pc = .ok (.bipush i, 2)) (kk : G Γ R cc own Ts nL D cl tys mc ms post k n ws (pc + 2) lv (.int v :: st)) : G Γ R cc own Ts nL D cl tys mc ms post k n ws pc lv st := by
  intro hok H locs ls hS hl
  have h9 := kk hok H locs ls hS hl
  obtain ⟨p, l, e, s, m, args, below, meth, c, Q, A, H0⟩ := Γ
  obtain ⟨hx, hb, hml, hown, hts, hK, hA, hin, hret⟩ := hok
  exact lv_bipush hx hb hd hv h9
theorem g_sipush {i : Int} (v : Int32) (hv : (Int16.ofInt i).toInt32 = v) (hd : decode cc pc = .ok (.sipush i, 3)) (kk : G Γ R cc own Ts nL D cl tys mc ms post k n ws (pc + 3) lv (.int v :: st)) : G Γ R cc own Ts nL D cl tys mc ms post k n ws pc lv st := by
  intro hok H locs ls hS hl
  have h9 := kk hok H locs ls hS hl
  obtain ⟨p, l, e, s, m, args, below, meth, c, Q, A, H0⟩ := Γ
  obtain ⟨hx, hb, hml, hown, hts, hK, hA, hin, hret⟩ := hok
  exact lv_sipush hx hb hd hv h9
theorem g_lconst {i : Fin 2} (v : Int64) (hv : Int64.ofNat (i : Nat) = v) (hd : decode cc pc = .ok (.lconst i, 1)) (kk : G Γ R cc own Ts nL D cl tys mc ms post k n ws (pc + 1) lv (.long v :: st)) : G Γ R cc own Ts nL D cl tys mc ms post k n ws pc lv st := by
  intro hok H locs ls hS hl
  have h9 := kk hok H locs ls hS hl
  obtain ⟨p, l, e, s, m, args, below, meth, c, Q, A, H0⟩ := Γ
  obtain ⟨hx, hb, hml, hown, hts, hK, hA, hin, hret⟩ := hok
  exact lv_lconst hx hb hd hv h9
theorem g_ldc {ix : Nat} (v : Int32) (hw : Cond.constant own ix v ∈ Ts) (hd : decode cc pc = .ok (.ldc ix, 2)) (kk : G Γ R cc own Ts nL D cl tys mc ms post k n ws (pc + 2) lv (.int v :: st)) : G Γ R cc own Ts nL D cl tys mc ms post k n ws pc lv st := by
  intro hok H locs ls hS hl
  have h9 := kk hok H locs ls hS hl
  obtain ⟨p, l, e, s, m, args, below, meth, c, Q, A, H0⟩ := Γ
  obtain ⟨hx, hb, hml, hown, hts, hK, hA, hin, hret⟩ := hok
  exact lv_ldc hx hb hown (hts _ hw) hd h9
theorem g_ldcw {ix : Nat} (v : Int32) (hw : Cond.constant own ix v ∈ Ts) (hd : decode cc pc = .ok (.ldc_w ix, 3)) (kk : G Γ R cc own Ts nL D cl tys mc ms post k n ws (pc + 3) lv (.int v :: st)) : G Γ R cc own Ts nL D cl tys mc ms post k n ws pc lv st := by
  intro hok H locs ls hS hl
  have h9 := kk hok H locs ls hS hl
  obtain ⟨p, l, e, s, m, args, below, meth, c, Q, A, H0⟩ := Γ
  obtain ⟨hx, hb, hml, hown, hts, hK, hA, hin, hret⟩ := hok
  exact lv_ldcw hx hb hown (hts _ hw) hd h9
theorem g_ldc2 {ix : Nat} (v : Int64) (hw : Cond.constantLong own ix v ∈ Ts) (hd : decode cc pc = .ok (.ldc2_w ix, 3)) (kk : G Γ R cc own Ts nL D cl tys mc ms post k n ws (pc + 3) lv (.long v :: st)) : G Γ R cc own Ts nL D cl tys mc ms post k n ws pc lv st := by
  intro hok H locs ls hS hl
  have h9 := kk hok H locs ls hS hl
  obtain ⟨p, l, e, s, m, args, below, meth, c, Q, A, H0⟩ := Γ
  obtain ⟨hx, hb, hml, hown, hts, hK, hA, hin, hret⟩ := hok
  exact lv_ldc2 hx hb hown (hts _ hw) hd h9
theorem g_iload_n {j : Fin 4} {i : Nat} {x : Int32} (hd : decode cc pc = .ok (.iload_n j, 1)) (hi : (j : Nat) = i) (hq : lv.lookup i = some (.int x)) (kk : G Γ R cc own Ts nL D cl tys mc ms post k n ws (pc + 1) lv (.int x :: st)) : G Γ R cc own Ts nL D cl tys mc ms post k n ws pc lv st := by
  intro hok H locs ls hS hl
  have h9 := kk hok H locs ls hS hl
  obtain ⟨p, l, e, s, m, args, below, meth, c, Q, A, H0⟩ := Γ
  obtain ⟨hx, hb, hml, hown, hts, hK, hA, hin, hret⟩ := hok
  exact lv_iload_n hx hb hd hi (g_lk hl hq) h9
theorem g_iload {i : Nat} {x : Int32} (hd : decode cc pc = .ok (.iload i, 2)) (hq : lv.lookup i = some (.int x)) (kk : G Γ R cc own Ts nL D cl tys mc ms post k n ws (pc + 2) lv (.int x :: st)) : G Γ R cc own Ts nL D cl tys mc ms post k n ws pc lv st := by
  intro hok H locs ls hS hl
  have h9 := kk hok H locs ls hS hl
  obtain ⟨p, l, e, s, m, args, below, meth, c, Q, A, H0⟩ := Γ
  obtain ⟨hx, hb, hml, hown, hts, hK, hA, hin, hret⟩ := hok
  exact lv_iload hx hb hd (g_lk hl hq) h9
theorem g_istore_n {j : Fin 4} {i : Nat} {x : Int32} (hd : decode cc pc = .ok (.istore_n j, 1)) (hi : (j : Nat) = i) (hn : i < nL) (kk : G Γ R cc own Ts nL D cl tys mc ms post k n ws (pc + 1) (gset1 lv i (.int x)) st) : G Γ R cc own Ts nL D cl tys mc ms post k n ws pc lv (.int x :: st) := by
  intro hok H locs ls hS hl
  have h9 := fun ls2 hl2 => kk hok H locs ls2 hS hl2
  obtain ⟨p, l, e, s, m, args, below, meth, c, Q, A, H0⟩ := Γ
  obtain ⟨hx, hb, hml, hown, hts, hK, hA, hin, hret⟩ := hok
  exact lv_istore_n hx hb hd hi hl hn rfl (fun ls2 hl2 => h9 ls2 hl2)
theorem g_istore {i : Nat} {x : Int32} (hd : decode cc pc = .ok (.istore i, 2)) (hn : i < nL) (kk : G Γ R cc own Ts nL D cl tys mc ms post k n ws (pc + 2) (gset1 lv i (.int x)) st) : G Γ R cc own Ts nL D cl tys mc ms post k n ws pc lv (.int x :: st) := by
  intro hok H locs ls hS hl
  have h9 := fun ls2 hl2 => kk hok H locs ls2 hS hl2
  obtain ⟨p, l, e, s, m, args, below, meth, c, Q, A, H0⟩ := Γ
  obtain ⟨hx, hb, hml, hown, hts, hK, hA, hin, hret⟩ := hok
  exact lv_istore hx hb hd hl hn rfl (fun ls2 hl2 => h9 ls2 hl2)
theorem g_lload_n {j : Fin 4} {i : Nat} {x : Int64} (hd : decode cc pc = .ok (.lload_n j, 1)) (hi : (j : Nat) = i) (hq : lv.lookup i = some (.long x)) (kk : G Γ R cc own Ts nL D cl tys mc ms post k n ws (pc + 1) lv (.long x :: st)) : G Γ R cc own Ts nL D cl tys mc ms post k n ws pc lv st := by
  intro hok H locs ls hS hl
  have h9 := kk hok H locs ls hS hl
  obtain ⟨p, l, e, s, m, args, below, meth, c, Q, A, H0⟩ := Γ
  obtain ⟨hx, hb, hml, hown, hts, hK, hA, hin, hret⟩ := hok
  exact lv_lload_n hx hb hd hi (g_lk hl hq) h9
theorem g_lload {i : Nat} {x : Int64} (hd : decode cc pc = .ok (.lload i, 2)) (hq : lv.lookup i = some (.long x)) (kk : G Γ R cc own Ts nL D cl tys mc ms post k n ws (pc + 2) lv (.long x :: st)) : G Γ R cc own Ts nL D cl tys mc ms post k n ws pc lv st := by
  intro hok H locs ls hS hl
  have h9 := kk hok H locs ls hS hl
  obtain ⟨p, l, e, s, m, args, below, meth, c, Q, A, H0⟩ := Γ
  obtain ⟨hx, hb, hml, hown, hts, hK, hA, hin, hret⟩ := hok
  exact lv_lload hx hb hd (g_lk hl hq) h9
theorem g_lstore_n {j : Fin 4} {i : Nat} {x : Int64} (hd : decode cc pc = .ok (.lstore_n j, 1)) (hi : (j : Nat) = i) (hn : i + 1 < nL) (kk : G Γ R cc own Ts nL D cl tys mc ms post k n ws (pc + 1) (gset2 lv i (.long x)) st) : G Γ R cc own Ts nL D cl tys mc ms post k n ws pc lv (.long x :: st) := by
  intro hok H locs ls hS hl
  have h9 := fun ls2 hl2 => kk hok H locs ls2 hS hl2
  obtain ⟨p, l, e, s, m, args, below, meth, c, Q, A, H0⟩ := Γ
  obtain ⟨hx, hb, hml, hown, hts, hK, hA, hin, hret⟩ := hok
  exact lv_lstore_n hx hb hd hi hl hn rfl (fun ls2 hl2 => h9 ls2 hl2)
theorem g_lstore {i : Nat} {x : Int64} (hd : decode cc pc = .ok (.lstore i, 2)) (hn : i + 1 < nL) (kk : G Γ R cc own Ts nL D cl tys mc ms post k n ws (pc + 2) (gset2 lv i (.long x)) st) : G Γ R cc own Ts nL D cl tys mc ms post k n ws pc lv (.long x :: st) := by
  intro hok H locs ls hS hl
  have h9 := fun ls2 hl2 => kk hok H locs ls2 hS hl2
  obtain ⟨p, l, e, s, m, args, below, meth, c, Q, A, H0⟩ := Γ
  obtain ⟨hx, hb, hml, hown, hts, hK, hA, hin, hret⟩ := hok
  exact lv_lstore hx hb hd hl hn rfl (fun ls2 hl2 => h9 ls2 hl2)
theorem g_aload_n {j : Fin 4} {i : Nat} {x : Nat} (hd : decode cc pc = .ok (.aload_n j, 1)) (hi : (j : Nat) = i) (hq : lv.lookup i = some (.ref x)) (kk : G Γ R cc own Ts nL D cl tys mc ms post k n ws (pc + 1) lv (.ref x :: st)) : G Γ R cc own Ts nL D cl tys mc ms post k n ws pc lv st := by
  intro hok H locs ls hS hl
  have h9 := kk hok H locs ls hS hl
  obtain ⟨p, l, e, s, m, args, below, meth, c, Q, A, H0⟩ := Γ
  obtain ⟨hx, hb, hml, hown, hts, hK, hA, hin, hret⟩ := hok
  exact lv_aload_n hx hb hd hi (g_lk hl hq) h9
theorem g_aload {i : Nat} {x : Nat} (hd : decode cc pc = .ok (.aload i, 2)) (hq : lv.lookup i = some (.ref x)) (kk : G Γ R cc own Ts nL D cl tys mc ms post k n ws (pc + 2) lv (.ref x :: st)) : G Γ R cc own Ts nL D cl tys mc ms post k n ws pc lv st := by
  intro hok H locs ls hS hl
  have h9 := kk hok H locs ls hS hl
  obtain ⟨p, l, e, s, m, args, below, meth, c, Q, A, H0⟩ := Γ
  obtain ⟨hx, hb, hml, hown, hts, hK, hA, hin, hret⟩ := hok
  exact lv_aload hx hb hd (g_lk hl hq) h9
theorem g_astore_n {j : Fin 4} {i : Nat} {x : Nat} (hd : decode cc pc = .ok (.astore_n j, 1)) (hi : (j : Nat) = i) (hn : i < nL) (kk : G Γ R cc own Ts nL D cl tys mc ms post k n ws (pc + 1) (gset1 lv i (.ref x)) st) : G Γ R cc own Ts nL D cl tys mc ms post k n ws pc lv (.ref x :: st) := by
  intro hok H locs ls hS hl
  have h9 := fun ls2 hl2 => kk hok H locs ls2 hS hl2
  obtain ⟨p, l, e, s, m, args, below, meth, c, Q, A, H0⟩ := Γ
  obtain ⟨hx, hb, hml, hown, hts, hK, hA, hin, hret⟩ := hok
  exact lv_astore_n hx hb hd hi hl hn rfl (fun ls2 hl2 => h9 ls2 hl2)
theorem g_astore {i : Nat} {x : Nat} (hd : decode cc pc = .ok (.astore i, 2)) (hn : i < nL) (kk : G Γ R cc own Ts nL D cl tys mc ms post k n ws (pc + 2) (gset1 lv i (.ref x)) st) : G Γ R cc own Ts nL D cl tys mc ms post k n ws pc lv (.ref x :: st) := by
  intro hok H locs ls hS hl
  have h9 := fun ls2 hl2 => kk hok H locs ls2 hS hl2
  obtain ⟨p, l, e, s, m, args, below, meth, c, Q, A, H0⟩ := Γ
  obtain ⟨hx, hb, hml, hown, hts, hK, hA, hin, hret⟩ := hok
  exact lv_astore hx hb hd hl hn rfl (fun ls2 hl2 => h9 ls2 hl2)
theorem g_iinc {i : Nat} {j : Int} {x : Int32} (d : Int32) (hd : decode cc pc = .ok (.iinc i j, 3)) (hv : Int32.ofInt j = d) (hq : lv.lookup i = some (.int x)) (hn : i < nL) (kk : G Γ R cc own Ts nL D cl tys mc ms post k n ws (pc + 3) (gset1 lv i (.int (x + d))) st) : G Γ R cc own Ts nL D cl tys mc ms post k n ws pc lv st := by
  intro hok H locs ls hS hl
  have h9 := fun ls2 hl2 => kk hok H locs ls2 hS hl2
  obtain ⟨p, l, e, s, m, args, below, meth, c, Q, A, H0⟩ := Γ
  obtain ⟨hx, hb, hml, hown, hts, hK, hA, hin, hret⟩ := hok
  have hl2 : lv_has ls nL ((i, Value.int x) :: lv) := ⟨hl.1, hl.2.1, fun q hq2 => by
    rcases List.mem_cons.mp hq2 with rfl | h
    · exact g_lk hl hq
    · exact hl.2.2 q h⟩
  have e1 : (i, Value.int (x + d)) :: (((i, Value.int x) :: lv).filter (fun q => !(q.1 == i) && !(q.1 + 1 == i && q.2.category == 2))) = gset1 lv i (.int (x + d)) := by simp [gset1]
  exact lv_iinc (k := 0) hx hb hd hl2 rfl (by rw [hv]) hn e1 (fun ls2 hl2 => h9 ls2 hl2)
theorem g_iadd {x y : Int32} (hd : decode cc pc = .ok (.iadd, 1)) (kk : G Γ R cc own Ts nL D cl tys mc ms post k n ws (pc + 1) lv (.int (x + y) :: st)) : G Γ R cc own Ts nL D cl tys mc ms post k n ws pc lv (.int y :: .int x :: st) := by
  intro hok H locs ls hS hl
  have h9 := kk hok H locs ls hS hl
  obtain ⟨p, l, e, s, m, args, below, meth, c, Q, A, H0⟩ := Γ
  obtain ⟨hx, hb, hml, hown, hts, hK, hA, hin, hret⟩ := hok
  exact lv_iadd hx hb hd h9
theorem g_isub {x y : Int32} (hd : decode cc pc = .ok (.isub, 1)) (kk : G Γ R cc own Ts nL D cl tys mc ms post k n ws (pc + 1) lv (.int (x - y) :: st)) : G Γ R cc own Ts nL D cl tys mc ms post k n ws pc lv (.int y :: .int x :: st) := by
  intro hok H locs ls hS hl
  have h9 := kk hok H locs ls hS hl
  obtain ⟨p, l, e, s, m, args, below, meth, c, Q, A, H0⟩ := Γ
  obtain ⟨hx, hb, hml, hown, hts, hK, hA, hin, hret⟩ := hok
  exact lv_isub hx hb hd h9
theorem g_imul {x y : Int32} (hd : decode cc pc = .ok (.imul, 1)) (kk : G Γ R cc own Ts nL D cl tys mc ms post k n ws (pc + 1) lv (.int (x * y) :: st)) : G Γ R cc own Ts nL D cl tys mc ms post k n ws pc lv (.int y :: .int x :: st) := by
  intro hok H locs ls hS hl
  have h9 := kk hok H locs ls hS hl
  obtain ⟨p, l, e, s, m, args, below, meth, c, Q, A, H0⟩ := Γ
  obtain ⟨hx, hb, hml, hown, hts, hK, hA, hin, hret⟩ := hok
  exact lv_imul hx hb hd h9
theorem g_iand {x y : Int32} (hd : decode cc pc = .ok (.iand, 1)) (kk : G Γ R cc own Ts nL D cl tys mc ms post k n ws (pc + 1) lv (.int (x &&& y) :: st)) : G Γ R cc own Ts nL D cl tys mc ms post k n ws pc lv (.int y :: .int x :: st) := by
  intro hok H locs ls hS hl
  have h9 := kk hok H locs ls hS hl
  obtain ⟨p, l, e, s, m, args, below, meth, c, Q, A, H0⟩ := Γ
  obtain ⟨hx, hb, hml, hown, hts, hK, hA, hin, hret⟩ := hok
  exact lv_iand hx hb hd h9
theorem g_ior {x y : Int32} (hd : decode cc pc = .ok (.ior, 1)) (kk : G Γ R cc own Ts nL D cl tys mc ms post k n ws (pc + 1) lv (.int (x ||| y) :: st)) : G Γ R cc own Ts nL D cl tys mc ms post k n ws pc lv (.int y :: .int x :: st) := by
  intro hok H locs ls hS hl
  have h9 := kk hok H locs ls hS hl
  obtain ⟨p, l, e, s, m, args, below, meth, c, Q, A, H0⟩ := Γ
  obtain ⟨hx, hb, hml, hown, hts, hK, hA, hin, hret⟩ := hok
  exact lv_ior hx hb hd h9
theorem g_ixor {x y : Int32} (hd : decode cc pc = .ok (.ixor, 1)) (kk : G Γ R cc own Ts nL D cl tys mc ms post k n ws (pc + 1) lv (.int (x ^^^ y) :: st)) : G Γ R cc own Ts nL D cl tys mc ms post k n ws pc lv (.int y :: .int x :: st) := by
  intro hok H locs ls hS hl
  have h9 := kk hok H locs ls hS hl
  obtain ⟨p, l, e, s, m, args, below, meth, c, Q, A, H0⟩ := Γ
  obtain ⟨hx, hb, hml, hown, hts, hK, hA, hin, hret⟩ := hok
  exact lv_ixor hx hb hd h9
theorem g_ishl {x y : Int32} (hd : decode cc pc = .ok (.ishl, 1)) (kk : G Γ R cc own Ts nL D cl tys mc ms post k n ws (pc + 1) lv (.int (x <<< (y &&& 31)) :: st)) : G Γ R cc own Ts nL D cl tys mc ms post k n ws pc lv (.int y :: .int x :: st) := by
  intro hok H locs ls hS hl
  have h9 := kk hok H locs ls hS hl
  obtain ⟨p, l, e, s, m, args, below, meth, c, Q, A, H0⟩ := Γ
  obtain ⟨hx, hb, hml, hown, hts, hK, hA, hin, hret⟩ := hok
  exact lv_ishl hx hb hd h9
theorem g_ishr {x y : Int32} (hd : decode cc pc = .ok (.ishr, 1)) (kk : G Γ R cc own Ts nL D cl tys mc ms post k n ws (pc + 1) lv (.int (x >>> (y &&& 31)) :: st)) : G Γ R cc own Ts nL D cl tys mc ms post k n ws pc lv (.int y :: .int x :: st) := by
  intro hok H locs ls hS hl
  have h9 := kk hok H locs ls hS hl
  obtain ⟨p, l, e, s, m, args, below, meth, c, Q, A, H0⟩ := Γ
  obtain ⟨hx, hb, hml, hown, hts, hK, hA, hin, hret⟩ := hok
  exact lv_ishr hx hb hd h9
theorem g_idiv {x y : Int32} (hne : ¬ y = 0) (hd : decode cc pc = .ok (.idiv, 1)) (kk : G Γ R cc own Ts nL D cl tys mc ms post k n ws (pc + 1) lv (.int (x / y) :: st)) : G Γ R cc own Ts nL D cl tys mc ms post k n ws pc lv (.int y :: .int x :: st) := by
  intro hok H locs ls hS hl
  have h9 := kk hok H locs ls hS hl
  obtain ⟨p, l, e, s, m, args, below, meth, c, Q, A, H0⟩ := Γ
  obtain ⟨hx, hb, hml, hown, hts, hK, hA, hin, hret⟩ := hok
  exact lv_idiv hx hb hd hne h9
theorem g_irem {x y : Int32} (hne : ¬ y = 0) (hd : decode cc pc = .ok (.irem, 1)) (kk : G Γ R cc own Ts nL D cl tys mc ms post k n ws (pc + 1) lv (.int (x - x / y * y) :: st)) : G Γ R cc own Ts nL D cl tys mc ms post k n ws pc lv (.int y :: .int x :: st) := by
  intro hok H locs ls hS hl
  have h9 := kk hok H locs ls hS hl
  obtain ⟨p, l, e, s, m, args, below, meth, c, Q, A, H0⟩ := Γ
  obtain ⟨hx, hb, hml, hown, hts, hK, hA, hin, hret⟩ := hok
  exact lv_irem hx hb hd hne h9
theorem g_ineg {x : Int32} (hd : decode cc pc = .ok (.ineg, 1)) (kk : G Γ R cc own Ts nL D cl tys mc ms post k n ws (pc + 1) lv (.int (-x) :: st)) : G Γ R cc own Ts nL D cl tys mc ms post k n ws pc lv (.int x :: st) := by
  intro hok H locs ls hS hl
  have h9 := kk hok H locs ls hS hl
  obtain ⟨p, l, e, s, m, args, below, meth, c, Q, A, H0⟩ := Γ
  obtain ⟨hx, hb, hml, hown, hts, hK, hA, hin, hret⟩ := hok
  exact lv_ineg hx hb hd h9
theorem g_ladd {x y : Int64} (hd : decode cc pc = .ok (.ladd, 1)) (kk : G Γ R cc own Ts nL D cl tys mc ms post k n ws (pc + 1) lv (.long (x + y) :: st)) : G Γ R cc own Ts nL D cl tys mc ms post k n ws pc lv (.long y :: .long x :: st) := by
  intro hok H locs ls hS hl
  have h9 := kk hok H locs ls hS hl
  obtain ⟨p, l, e, s, m, args, below, meth, c, Q, A, H0⟩ := Γ
  obtain ⟨hx, hb, hml, hown, hts, hK, hA, hin, hret⟩ := hok
  exact lv_ladd hx hb hd h9
theorem g_lsub {x y : Int64} (hd : decode cc pc = .ok (.lsub, 1)) (kk : G Γ R cc own Ts nL D cl tys mc ms post k n ws (pc + 1) lv (.long (x - y) :: st)) : G Γ R cc own Ts nL D cl tys mc ms post k n ws pc lv (.long y :: .long x :: st) := by
  intro hok H locs ls hS hl
  have h9 := kk hok H locs ls hS hl
  obtain ⟨p, l, e, s, m, args, below, meth, c, Q, A, H0⟩ := Γ
  obtain ⟨hx, hb, hml, hown, hts, hK, hA, hin, hret⟩ := hok
  exact lv_lsub hx hb hd h9
theorem g_lmul {x y : Int64} (hd : decode cc pc = .ok (.lmul, 1)) (kk : G Γ R cc own Ts nL D cl tys mc ms post k n ws (pc + 1) lv (.long (x * y) :: st)) : G Γ R cc own Ts nL D cl tys mc ms post k n ws pc lv (.long y :: .long x :: st) := by
  intro hok H locs ls hS hl
  have h9 := kk hok H locs ls hS hl
  obtain ⟨p, l, e, s, m, args, below, meth, c, Q, A, H0⟩ := Γ
  obtain ⟨hx, hb, hml, hown, hts, hK, hA, hin, hret⟩ := hok
  exact lv_lmul hx hb hd h9
theorem g_land {x y : Int64} (hd : decode cc pc = .ok (.land, 1)) (kk : G Γ R cc own Ts nL D cl tys mc ms post k n ws (pc + 1) lv (.long (x &&& y) :: st)) : G Γ R cc own Ts nL D cl tys mc ms post k n ws pc lv (.long y :: .long x :: st) := by
  intro hok H locs ls hS hl
  have h9 := kk hok H locs ls hS hl
  obtain ⟨p, l, e, s, m, args, below, meth, c, Q, A, H0⟩ := Γ
  obtain ⟨hx, hb, hml, hown, hts, hK, hA, hin, hret⟩ := hok
  exact lv_land hx hb hd h9
theorem g_lor {x y : Int64} (hd : decode cc pc = .ok (.lor, 1)) (kk : G Γ R cc own Ts nL D cl tys mc ms post k n ws (pc + 1) lv (.long (x ||| y) :: st)) : G Γ R cc own Ts nL D cl tys mc ms post k n ws pc lv (.long y :: .long x :: st) := by
  intro hok H locs ls hS hl
  have h9 := kk hok H locs ls hS hl
  obtain ⟨p, l, e, s, m, args, below, meth, c, Q, A, H0⟩ := Γ
  obtain ⟨hx, hb, hml, hown, hts, hK, hA, hin, hret⟩ := hok
  exact lv_lor hx hb hd h9
theorem g_ldiv {x y : Int64} (hne : ¬ y = 0) (hd : decode cc pc = .ok (.ldiv, 1)) (kk : G Γ R cc own Ts nL D cl tys mc ms post k n ws (pc + 1) lv (.long (x / y) :: st)) : G Γ R cc own Ts nL D cl tys mc ms post k n ws pc lv (.long y :: .long x :: st) := by
  intro hok H locs ls hS hl
  have h9 := kk hok H locs ls hS hl
  obtain ⟨p, l, e, s, m, args, below, meth, c, Q, A, H0⟩ := Γ
  obtain ⟨hx, hb, hml, hown, hts, hK, hA, hin, hret⟩ := hok
  exact lv_ldiv hx hb hd hne h9
theorem g_lrem {x y : Int64} (hne : ¬ y = 0) (hd : decode cc pc = .ok (.lrem, 1)) (kk : G Γ R cc own Ts nL D cl tys mc ms post k n ws (pc + 1) lv (.long (x - x / y * y) :: st)) : G Γ R cc own Ts nL D cl tys mc ms post k n ws pc lv (.long y :: .long x :: st) := by
  intro hok H locs ls hS hl
  have h9 := kk hok H locs ls hS hl
  obtain ⟨p, l, e, s, m, args, below, meth, c, Q, A, H0⟩ := Γ
  obtain ⟨hx, hb, hml, hown, hts, hK, hA, hin, hret⟩ := hok
  exact lv_lrem hx hb hd hne h9
theorem g_lneg {x : Int64} (hd : decode cc pc = .ok (.lneg, 1)) (kk : G Γ R cc own Ts nL D cl tys mc ms post k n ws (pc + 1) lv (.long (-x) :: st)) : G Γ R cc own Ts nL D cl tys mc ms post k n ws pc lv (.long x :: st) := by
  intro hok H locs ls hS hl
  have h9 := kk hok H locs ls hS hl
  obtain ⟨p, l, e, s, m, args, below, meth, c, Q, A, H0⟩ := Γ
  obtain ⟨hx, hb, hml, hown, hts, hK, hA, hin, hret⟩ := hok
  exact lv_lneg hx hb hd h9
theorem g_i2l {x : Int32} (hd : decode cc pc = .ok (.i2l, 1)) (kk : G Γ R cc own Ts nL D cl tys mc ms post k n ws (pc + 1) lv (.long x.toInt64 :: st)) : G Γ R cc own Ts nL D cl tys mc ms post k n ws pc lv (.int x :: st) := by
  intro hok H locs ls hS hl
  have h9 := kk hok H locs ls hS hl
  obtain ⟨p, l, e, s, m, args, below, meth, c, Q, A, H0⟩ := Γ
  obtain ⟨hx, hb, hml, hown, hts, hK, hA, hin, hret⟩ := hok
  exact lv_i2l hx hb hd rfl h9
theorem g_l2i {x : Int64} (hd : decode cc pc = .ok (.l2i, 1)) (kk : G Γ R cc own Ts nL D cl tys mc ms post k n ws (pc + 1) lv (.int x.toInt32 :: st)) : G Γ R cc own Ts nL D cl tys mc ms post k n ws pc lv (.long x :: st) := by
  intro hok H locs ls hS hl
  have h9 := kk hok H locs ls hS hl
  obtain ⟨p, l, e, s, m, args, below, meth, c, Q, A, H0⟩ := Γ
  obtain ⟨hx, hb, hml, hown, hts, hK, hA, hin, hret⟩ := hok
  exact lv_l2i hx hb hd rfl h9
theorem g_lshl {x : Int64} {y : Int32} (hd : decode cc pc = .ok (.lshl, 1)) (kk : G Γ R cc own Ts nL D cl tys mc ms post k n ws (pc + 1) lv (.long (x <<< (y.toInt64 &&& 63)) :: st)) : G Γ R cc own Ts nL D cl tys mc ms post k n ws pc lv (.int y :: .long x :: st) := by
  intro hok H locs ls hS hl
  have h9 := kk hok H locs ls hS hl
  obtain ⟨p, l, e, s, m, args, below, meth, c, Q, A, H0⟩ := Γ
  obtain ⟨hx, hb, hml, hown, hts, hK, hA, hin, hret⟩ := hok
  exact lv_lshl hx hb hd rfl h9
theorem g_lshr {x : Int64} {y : Int32} (hd : decode cc pc = .ok (.lshr, 1)) (kk : G Γ R cc own Ts nL D cl tys mc ms post k n ws (pc + 1) lv (.long (x >>> (y.toInt64 &&& 63)) :: st)) : G Γ R cc own Ts nL D cl tys mc ms post k n ws pc lv (.int y :: .long x :: st) := by
  intro hok H locs ls hS hl
  have h9 := kk hok H locs ls hS hl
  obtain ⟨p, l, e, s, m, args, below, meth, c, Q, A, H0⟩ := Γ
  obtain ⟨hx, hb, hml, hown, hts, hK, hA, hin, hret⟩ := hok
  exact lv_lshr hx hb hd rfl h9
theorem g_lushr {x : Int64} {y : Int32} (hd : decode cc pc = .ok (.lushr, 1)) (kk : G Γ R cc own Ts nL D cl tys mc ms post k n ws (pc + 1) lv (.long ((x.toUInt64 >>> (y.toInt64.toUInt64 &&& Int64.toUInt64 63)).toInt64) :: st)) : G Γ R cc own Ts nL D cl tys mc ms post k n ws pc lv (.int y :: .long x :: st) := by
  intro hok H locs ls hS hl
  have h9 := kk hok H locs ls hS hl
  obtain ⟨p, l, e, s, m, args, below, meth, c, Q, A, H0⟩ := Γ
  obtain ⟨hx, hb, hml, hown, hts, hK, hA, hin, hret⟩ := hok
  exact lv_lushr hx hb hd rfl h9
theorem g_dup {a : Value} (ha : a.category = 1) (hd : decode cc pc = .ok (.dup, 1)) (kk : G Γ R cc own Ts nL D cl tys mc ms post k n ws (pc + 1) lv (a :: a :: st)) : G Γ R cc own Ts nL D cl tys mc ms post k n ws pc lv (a :: st) := by
  intro hok H locs ls hS hl
  have h9 := kk hok H locs ls hS hl
  obtain ⟨p, l, e, s, m, args, below, meth, c, Q, A, H0⟩ := Γ
  obtain ⟨hx, hb, hml, hown, hts, hK, hA, hin, hret⟩ := hok
  exact lv_dup hx hb hd ha h9
theorem g_dup2_11 {a b : Value} (ha : a.category = 1) (hb2 : b.category = 1) (hd : decode cc pc = .ok (.dup2, 1)) (kk : G Γ R cc own Ts nL D cl tys mc ms post k n ws (pc + 1) lv (a :: b :: a :: b :: st)) : G Γ R cc own Ts nL D cl tys mc ms post k n ws pc lv (a :: b :: st) := by
  intro hok H locs ls hS hl
  have h9 := kk hok H locs ls hS hl
  obtain ⟨p, l, e, s, m, args, below, meth, c, Q, A, H0⟩ := Γ
  obtain ⟨hx, hb, hml, hown, hts, hK, hA, hin, hret⟩ := hok
  exact lv_dup2_11 hx hb hd ha hb2 h9
theorem g_dup2_2 {a : Value} (ha : a.category = 2) (hd : decode cc pc = .ok (.dup2, 1)) (kk : G Γ R cc own Ts nL D cl tys mc ms post k n ws (pc + 1) lv (a :: a :: st)) : G Γ R cc own Ts nL D cl tys mc ms post k n ws pc lv (a :: st) := by
  intro hok H locs ls hS hl
  have h9 := kk hok H locs ls hS hl
  obtain ⟨p, l, e, s, m, args, below, meth, c, Q, A, H0⟩ := Γ
  obtain ⟨hx, hb, hml, hown, hts, hK, hA, hin, hret⟩ := hok
  exact lv_dup2_2 hx hb hd ha h9
theorem g_dup_x1 {a b : Value} (ha : a.category = 1) (hb2 : b.category = 1) (hd : decode cc pc = .ok (.dup_x1, 1)) (kk : G Γ R cc own Ts nL D cl tys mc ms post k n ws (pc + 1) lv (a :: b :: a :: st)) : G Γ R cc own Ts nL D cl tys mc ms post k n ws pc lv (a :: b :: st) := by
  intro hok H locs ls hS hl
  have h9 := kk hok H locs ls hS hl
  obtain ⟨p, l, e, s, m, args, below, meth, c, Q, A, H0⟩ := Γ
  obtain ⟨hx, hb, hml, hown, hts, hK, hA, hin, hret⟩ := hok
  exact lv_dup_x1 hx hb hd ha hb2 h9
theorem g_pop {a : Value} (ha : a.category = 1) (hd : decode cc pc = .ok (.pop, 1)) (kk : G Γ R cc own Ts nL D cl tys mc ms post k n ws (pc + 1) lv st) : G Γ R cc own Ts nL D cl tys mc ms post k n ws pc lv (a :: st) := by
  intro hok H locs ls hS hl
  have h9 := kk hok H locs ls hS hl
  obtain ⟨p, l, e, s, m, args, below, meth, c, Q, A, H0⟩ := Γ
  obtain ⟨hx, hb, hml, hown, hts, hK, hA, hin, hret⟩ := hok
  exact lv_pop hx hb hd ha h9
theorem g_pop2_2 {a : Value} (ha : a.category = 2) (hd : decode cc pc = .ok (.pop2, 1)) (kk : G Γ R cc own Ts nL D cl tys mc ms post k n ws (pc + 1) lv st) : G Γ R cc own Ts nL D cl tys mc ms post k n ws pc lv (a :: st) := by
  intro hok H locs ls hS hl
  have h9 := kk hok H locs ls hS hl
  obtain ⟨p, l, e, s, m, args, below, meth, c, Q, A, H0⟩ := Γ
  obtain ⟨hx, hb, hml, hown, hts, hK, hA, hin, hret⟩ := hok
  exact lv_pop2_2 hx hb hd ha h9
theorem g_null  (hd : decode cc pc = .ok (.aconst_null, 1)) (kk : G Γ R cc own Ts nL D cl tys mc ms post k n ws (pc + 1) lv (.null :: st)) : G Γ R cc own Ts nL D cl tys mc ms post k n ws pc lv st := by
  intro hok H locs ls hS hl
  have h9 := kk hok H locs ls hS hl
  obtain ⟨p, l, e, s, m, args, below, meth, c, Q, A, H0⟩ := Γ
  obtain ⟨hx, hb, hml, hown, hts, hK, hA, hin, hret⟩ := hok
  exact lv_null hx hb hd h9
theorem g_if_eq {x : Int32} {off : Int} (tgt : Nat) (hd : decode cc pc = .ok (.ifCond .eq off, 3)) (ht : (pc : Int) + off = (tgt : Int)) (kt : x = 0 → G Γ R cc own Ts nL D cl tys mc ms post k n ws tgt lv st) (kf : ¬ x = 0 → G Γ R cc own Ts nL D cl tys mc ms post k n ws (pc + 3) lv st) : G Γ R cc own Ts nL D cl tys mc ms post k n ws pc lv (.int x :: st) := by
  intro hok H locs ls hS hl
  have h8 := fun q => kt q hok H locs ls hS hl
  have h9 := fun q => kf q hok H locs ls hS hl
  obtain ⟨p, l, e, s, m, args, below, meth, c, Q, A, H0⟩ := Γ
  obtain ⟨hx, hb, hml, hown, hts, hK, hA, hin, hret⟩ := hok
  exact lv_if_eq hx hb hd ht h8 h9
theorem g_icmp_eq {x y : Int32} {off : Int} (tgt : Nat) (hd : decode cc pc = .ok (.if_icmp .eq off, 3)) (ht : (pc : Int) + off = (tgt : Int)) (kt : x = y → G Γ R cc own Ts nL D cl tys mc ms post k n ws tgt lv st) (kf : ¬ x = y → G Γ R cc own Ts nL D cl tys mc ms post k n ws (pc + 3) lv st) : G Γ R cc own Ts nL D cl tys mc ms post k n ws pc lv (.int y :: .int x :: st) := by
  intro hok H locs ls hS hl
  have h8 := fun q => kt q hok H locs ls hS hl
  have h9 := fun q => kf q hok H locs ls hS hl
  obtain ⟨p, l, e, s, m, args, below, meth, c, Q, A, H0⟩ := Γ
  obtain ⟨hx, hb, hml, hown, hts, hK, hA, hin, hret⟩ := hok
  exact lv_icmp_eq hx hb hd ht h8 h9
theorem g_lcmp_eq {x y : Int64} {off : Int} (tgt : Nat) (hd0 : decode cc pc = .ok (.lcmp, 1)) (hd : decode cc (pc + 1) = .ok (.ifCond .eq off, 3)) (ht : ((pc + 1 : Nat) : Int) + off = (tgt : Int)) (kt : x = y → G Γ R cc own Ts nL D cl tys mc ms post k n ws tgt lv st) (kf : ¬ x = y → G Γ R cc own Ts nL D cl tys mc ms post k n ws (pc + 4) lv st) : G Γ R cc own Ts nL D cl tys mc ms post k n ws pc lv (.long y :: .long x :: st) := by
  intro hok H locs ls hS hl
  have h8 := fun q => kt q hok H locs ls hS hl
  have h9 := fun q => kf q hok H locs ls hS hl
  obtain ⟨p, l, e, s, m, args, below, meth, c, Q, A, H0⟩ := Γ
  obtain ⟨hx, hb, hml, hown, hts, hK, hA, hin, hret⟩ := hok
  exact W.lcmp hx hb hd0 (lv_if_eq hx hb hd ht (fun q => h8 ((lg_cmp_eq x y).mp q)) (fun q => h9 (mt (lg_cmp_eq x y).mpr q)))
theorem g_if_ne {x : Int32} {off : Int} (tgt : Nat) (hd : decode cc pc = .ok (.ifCond .ne off, 3)) (ht : (pc : Int) + off = (tgt : Int)) (kt : ¬ x = 0 → G Γ R cc own Ts nL D cl tys mc ms post k n ws tgt lv st) (kf : x = 0 → G Γ R cc own Ts nL D cl tys mc ms post k n ws (pc + 3) lv st) : G Γ R cc own Ts nL D cl tys mc ms post k n ws pc lv (.int x :: st) := by
  intro hok H locs ls hS hl
  have h8 := fun q => kt q hok H locs ls hS hl
  have h9 := fun q => kf q hok H locs ls hS hl
  obtain ⟨p, l, e, s, m, args, below, meth, c, Q, A, H0⟩ := Γ
  obtain ⟨hx, hb, hml, hown, hts, hK, hA, hin, hret⟩ := hok
  exact lv_if_ne hx hb hd ht h8 h9
theorem g_icmp_ne {x y : Int32} {off : Int} (tgt : Nat) (hd : decode cc pc = .ok (.if_icmp .ne off, 3)) (ht : (pc : Int) + off = (tgt : Int)) (kt : ¬ x = y → G Γ R cc own Ts nL D cl tys mc ms post k n ws tgt lv st) (kf : x = y → G Γ R cc own Ts nL D cl tys mc ms post k n ws (pc + 3) lv st) : G Γ R cc own Ts nL D cl tys mc ms post k n ws pc lv (.int y :: .int x :: st) := by
  intro hok H locs ls hS hl
  have h8 := fun q => kt q hok H locs ls hS hl
  have h9 := fun q => kf q hok H locs ls hS hl
  obtain ⟨p, l, e, s, m, args, below, meth, c, Q, A, H0⟩ := Γ
  obtain ⟨hx, hb, hml, hown, hts, hK, hA, hin, hret⟩ := hok
  exact lv_icmp_ne hx hb hd ht h8 h9
theorem g_lcmp_ne {x y : Int64} {off : Int} (tgt : Nat) (hd0 : decode cc pc = .ok (.lcmp, 1)) (hd : decode cc (pc + 1) = .ok (.ifCond .ne off, 3)) (ht : ((pc + 1 : Nat) : Int) + off = (tgt : Int)) (kt : ¬ x = y → G Γ R cc own Ts nL D cl tys mc ms post k n ws tgt lv st) (kf : x = y → G Γ R cc own Ts nL D cl tys mc ms post k n ws (pc + 4) lv st) : G Γ R cc own Ts nL D cl tys mc ms post k n ws pc lv (.long y :: .long x :: st) := by
  intro hok H locs ls hS hl
  have h8 := fun q => kt q hok H locs ls hS hl
  have h9 := fun q => kf q hok H locs ls hS hl
  obtain ⟨p, l, e, s, m, args, below, meth, c, Q, A, H0⟩ := Γ
  obtain ⟨hx, hb, hml, hown, hts, hK, hA, hin, hret⟩ := hok
  exact W.lcmp hx hb hd0 (lv_if_ne hx hb hd ht (fun q => h8 (mt (lg_cmp_eq x y).mpr q)) (fun q => h9 ((lg_cmp_eq x y).mp q)))
theorem g_if_lt {x : Int32} {off : Int} (tgt : Nat) (hd : decode cc pc = .ok (.ifCond .lt off, 3)) (ht : (pc : Int) + off = (tgt : Int)) (kt : x < 0 → G Γ R cc own Ts nL D cl tys mc ms post k n ws tgt lv st) (kf : ¬ x < 0 → G Γ R cc own Ts nL D cl tys mc ms post k n ws (pc + 3) lv st) : G Γ R cc own Ts nL D cl tys mc ms post k n ws pc lv (.int x :: st) := by
  intro hok H locs ls hS hl
  have h8 := fun q => kt q hok H locs ls hS hl
  have h9 := fun q => kf q hok H locs ls hS hl
  obtain ⟨p, l, e, s, m, args, below, meth, c, Q, A, H0⟩ := Γ
  obtain ⟨hx, hb, hml, hown, hts, hK, hA, hin, hret⟩ := hok
  exact lv_if_lt hx hb hd ht h8 h9
theorem g_icmp_lt {x y : Int32} {off : Int} (tgt : Nat) (hd : decode cc pc = .ok (.if_icmp .lt off, 3)) (ht : (pc : Int) + off = (tgt : Int)) (kt : x < y → G Γ R cc own Ts nL D cl tys mc ms post k n ws tgt lv st) (kf : ¬ x < y → G Γ R cc own Ts nL D cl tys mc ms post k n ws (pc + 3) lv st) : G Γ R cc own Ts nL D cl tys mc ms post k n ws pc lv (.int y :: .int x :: st) := by
  intro hok H locs ls hS hl
  have h8 := fun q => kt q hok H locs ls hS hl
  have h9 := fun q => kf q hok H locs ls hS hl
  obtain ⟨p, l, e, s, m, args, below, meth, c, Q, A, H0⟩ := Γ
  obtain ⟨hx, hb, hml, hown, hts, hK, hA, hin, hret⟩ := hok
  exact lv_icmp_lt hx hb hd ht h8 h9
theorem g_lcmp_lt {x y : Int64} {off : Int} (tgt : Nat) (hd0 : decode cc pc = .ok (.lcmp, 1)) (hd : decode cc (pc + 1) = .ok (.ifCond .lt off, 3)) (ht : ((pc + 1 : Nat) : Int) + off = (tgt : Int)) (kt : x < y → G Γ R cc own Ts nL D cl tys mc ms post k n ws tgt lv st) (kf : ¬ x < y → G Γ R cc own Ts nL D cl tys mc ms post k n ws (pc + 4) lv st) : G Γ R cc own Ts nL D cl tys mc ms post k n ws pc lv (.long y :: .long x :: st) := by
  intro hok H locs ls hS hl
  have h8 := fun q => kt q hok H locs ls hS hl
  have h9 := fun q => kf q hok H locs ls hS hl
  obtain ⟨p, l, e, s, m, args, below, meth, c, Q, A, H0⟩ := Γ
  obtain ⟨hx, hb, hml, hown, hts, hK, hA, hin, hret⟩ := hok
  exact W.lcmp hx hb hd0 (lv_if_lt hx hb hd ht (fun q => h8 ((lg_cmp_lt x y).mp q)) (fun q => h9 (mt (lg_cmp_lt x y).mpr q)))
theorem g_if_ge {x : Int32} {off : Int} (tgt : Nat) (hd : decode cc pc = .ok (.ifCond .ge off, 3)) (ht : (pc : Int) + off = (tgt : Int)) (kt : 0 ≤ x → G Γ R cc own Ts nL D cl tys mc ms post k n ws tgt lv st) (kf : ¬ 0 ≤ x → G Γ R cc own Ts nL D cl tys mc ms post k n ws (pc + 3) lv st) : G Γ R cc own Ts nL D cl tys mc ms post k n ws pc lv (.int x :: st) := by
  intro hok H locs ls hS hl
  have h8 := fun q => kt q hok H locs ls hS hl
  have h9 := fun q => kf q hok H locs ls hS hl
  obtain ⟨p, l, e, s, m, args, below, meth, c, Q, A, H0⟩ := Γ
  obtain ⟨hx, hb, hml, hown, hts, hK, hA, hin, hret⟩ := hok
  exact lv_if_ge hx hb hd ht h8 h9
theorem g_icmp_ge {x y : Int32} {off : Int} (tgt : Nat) (hd : decode cc pc = .ok (.if_icmp .ge off, 3)) (ht : (pc : Int) + off = (tgt : Int)) (kt : y ≤ x → G Γ R cc own Ts nL D cl tys mc ms post k n ws tgt lv st) (kf : ¬ y ≤ x → G Γ R cc own Ts nL D cl tys mc ms post k n ws (pc + 3) lv st) : G Γ R cc own Ts nL D cl tys mc ms post k n ws pc lv (.int y :: .int x :: st) := by
  intro hok H locs ls hS hl
  have h8 := fun q => kt q hok H locs ls hS hl
  have h9 := fun q => kf q hok H locs ls hS hl
  obtain ⟨p, l, e, s, m, args, below, meth, c, Q, A, H0⟩ := Γ
  obtain ⟨hx, hb, hml, hown, hts, hK, hA, hin, hret⟩ := hok
  exact lv_icmp_ge hx hb hd ht h8 h9
theorem g_lcmp_ge {x y : Int64} {off : Int} (tgt : Nat) (hd0 : decode cc pc = .ok (.lcmp, 1)) (hd : decode cc (pc + 1) = .ok (.ifCond .ge off, 3)) (ht : ((pc + 1 : Nat) : Int) + off = (tgt : Int)) (kt : y ≤ x → G Γ R cc own Ts nL D cl tys mc ms post k n ws tgt lv st) (kf : ¬ y ≤ x → G Γ R cc own Ts nL D cl tys mc ms post k n ws (pc + 4) lv st) : G Γ R cc own Ts nL D cl tys mc ms post k n ws pc lv (.long y :: .long x :: st) := by
  intro hok H locs ls hS hl
  have h8 := fun q => kt q hok H locs ls hS hl
  have h9 := fun q => kf q hok H locs ls hS hl
  obtain ⟨p, l, e, s, m, args, below, meth, c, Q, A, H0⟩ := Γ
  obtain ⟨hx, hb, hml, hown, hts, hK, hA, hin, hret⟩ := hok
  exact W.lcmp hx hb hd0 (lv_if_ge hx hb hd ht (fun q => h8 ((lg_cmp_ge x y).mp q)) (fun q => h9 (mt (lg_cmp_ge x y).mpr q)))
theorem g_if_gt {x : Int32} {off : Int} (tgt : Nat) (hd : decode cc pc = .ok (.ifCond .gt off, 3)) (ht : (pc : Int) + off = (tgt : Int)) (kt : 0 < x → G Γ R cc own Ts nL D cl tys mc ms post k n ws tgt lv st) (kf : ¬ 0 < x → G Γ R cc own Ts nL D cl tys mc ms post k n ws (pc + 3) lv st) : G Γ R cc own Ts nL D cl tys mc ms post k n ws pc lv (.int x :: st) := by
  intro hok H locs ls hS hl
  have h8 := fun q => kt q hok H locs ls hS hl
  have h9 := fun q => kf q hok H locs ls hS hl
  obtain ⟨p, l, e, s, m, args, below, meth, c, Q, A, H0⟩ := Γ
  obtain ⟨hx, hb, hml, hown, hts, hK, hA, hin, hret⟩ := hok
  exact lv_if_gt hx hb hd ht h8 h9
theorem g_icmp_gt {x y : Int32} {off : Int} (tgt : Nat) (hd : decode cc pc = .ok (.if_icmp .gt off, 3)) (ht : (pc : Int) + off = (tgt : Int)) (kt : y < x → G Γ R cc own Ts nL D cl tys mc ms post k n ws tgt lv st) (kf : ¬ y < x → G Γ R cc own Ts nL D cl tys mc ms post k n ws (pc + 3) lv st) : G Γ R cc own Ts nL D cl tys mc ms post k n ws pc lv (.int y :: .int x :: st) := by
  intro hok H locs ls hS hl
  have h8 := fun q => kt q hok H locs ls hS hl
  have h9 := fun q => kf q hok H locs ls hS hl
  obtain ⟨p, l, e, s, m, args, below, meth, c, Q, A, H0⟩ := Γ
  obtain ⟨hx, hb, hml, hown, hts, hK, hA, hin, hret⟩ := hok
  exact lv_icmp_gt hx hb hd ht h8 h9
theorem g_lcmp_gt {x y : Int64} {off : Int} (tgt : Nat) (hd0 : decode cc pc = .ok (.lcmp, 1)) (hd : decode cc (pc + 1) = .ok (.ifCond .gt off, 3)) (ht : ((pc + 1 : Nat) : Int) + off = (tgt : Int)) (kt : y < x → G Γ R cc own Ts nL D cl tys mc ms post k n ws tgt lv st) (kf : ¬ y < x → G Γ R cc own Ts nL D cl tys mc ms post k n ws (pc + 4) lv st) : G Γ R cc own Ts nL D cl tys mc ms post k n ws pc lv (.long y :: .long x :: st) := by
  intro hok H locs ls hS hl
  have h8 := fun q => kt q hok H locs ls hS hl
  have h9 := fun q => kf q hok H locs ls hS hl
  obtain ⟨p, l, e, s, m, args, below, meth, c, Q, A, H0⟩ := Γ
  obtain ⟨hx, hb, hml, hown, hts, hK, hA, hin, hret⟩ := hok
  exact W.lcmp hx hb hd0 (lv_if_gt hx hb hd ht (fun q => h8 ((lg_cmp_gt x y).mp q)) (fun q => h9 (mt (lg_cmp_gt x y).mpr q)))
theorem g_if_le {x : Int32} {off : Int} (tgt : Nat) (hd : decode cc pc = .ok (.ifCond .le off, 3)) (ht : (pc : Int) + off = (tgt : Int)) (kt : x ≤ 0 → G Γ R cc own Ts nL D cl tys mc ms post k n ws tgt lv st) (kf : ¬ x ≤ 0 → G Γ R cc own Ts nL D cl tys mc ms post k n ws (pc + 3) lv st) : G Γ R cc own Ts nL D cl tys mc ms post k n ws pc lv (.int x :: st) := by
  intro hok H locs ls hS hl
  have h8 := fun q => kt q hok H locs ls hS hl
  have h9 := fun q => kf q hok H locs ls hS hl
  obtain ⟨p, l, e, s, m, args, below, meth, c, Q, A, H0⟩ := Γ
  obtain ⟨hx, hb, hml, hown, hts, hK, hA, hin, hret⟩ := hok
  exact lv_if_le hx hb hd ht h8 h9
theorem g_icmp_le {x y : Int32} {off : Int} (tgt : Nat) (hd : decode cc pc = .ok (.if_icmp .le off, 3)) (ht : (pc : Int) + off = (tgt : Int)) (kt : x ≤ y → G Γ R cc own Ts nL D cl tys mc ms post k n ws tgt lv st) (kf : ¬ x ≤ y → G Γ R cc own Ts nL D cl tys mc ms post k n ws (pc + 3) lv st) : G Γ R cc own Ts nL D cl tys mc ms post k n ws pc lv (.int y :: .int x :: st) := by
  intro hok H locs ls hS hl
  have h8 := fun q => kt q hok H locs ls hS hl
  have h9 := fun q => kf q hok H locs ls hS hl
  obtain ⟨p, l, e, s, m, args, below, meth, c, Q, A, H0⟩ := Γ
  obtain ⟨hx, hb, hml, hown, hts, hK, hA, hin, hret⟩ := hok
  exact lv_icmp_le hx hb hd ht h8 h9
theorem g_lcmp_le {x y : Int64} {off : Int} (tgt : Nat) (hd0 : decode cc pc = .ok (.lcmp, 1)) (hd : decode cc (pc + 1) = .ok (.ifCond .le off, 3)) (ht : ((pc + 1 : Nat) : Int) + off = (tgt : Int)) (kt : x ≤ y → G Γ R cc own Ts nL D cl tys mc ms post k n ws tgt lv st) (kf : ¬ x ≤ y → G Γ R cc own Ts nL D cl tys mc ms post k n ws (pc + 4) lv st) : G Γ R cc own Ts nL D cl tys mc ms post k n ws pc lv (.long y :: .long x :: st) := by
  intro hok H locs ls hS hl
  have h8 := fun q => kt q hok H locs ls hS hl
  have h9 := fun q => kf q hok H locs ls hS hl
  obtain ⟨p, l, e, s, m, args, below, meth, c, Q, A, H0⟩ := Γ
  obtain ⟨hx, hb, hml, hown, hts, hK, hA, hin, hret⟩ := hok
  exact W.lcmp hx hb hd0 (lv_if_le hx hb hd ht (fun q => h8 ((lg_cmp_le x y).mp q)) (fun q => h9 (mt (lg_cmp_le x y).mpr q)))
theorem g_goto {off : Int} (tgt : Nat) (hd : decode cc pc = .ok (.goto off, 3)) (ht : (pc : Int) + off = (tgt : Int)) (kk : G Γ R cc own Ts nL D cl tys mc ms post k n ws tgt lv st) : G Γ R cc own Ts nL D cl tys mc ms post k n ws pc lv st := by
  intro hok H locs ls hS hl
  have h9 := kk hok H locs ls hS hl
  obtain ⟨p, l, e, s, m, args, below, meth, c, Q, A, H0⟩ := Γ
  obtain ⟨hx, hb, hml, hown, hts, hK, hA, hin, hret⟩ := hok
  exact lv_goto hx hb hd ht h9
theorem g_tabIn {dflt lo hi : Int} {offs : Array Int} {len : Nat} {x : Int32} {off : Int} (tgt : Nat) (hd : decode cc pc = .ok (.tableswitch dflt lo hi offs, len)) (h1 : ¬ x.toInt < lo) (h2 : ¬ hi < x.toInt) (ho : offs[(x.toInt - lo).toNat]? = some off) (ht : (pc : Int) + off = (tgt : Int)) (kk : G Γ R cc own Ts nL D cl tys mc ms post k n ws tgt lv st) : G Γ R cc own Ts nL D cl tys mc ms post k n ws pc lv (.int x :: st) := by
  intro hok H locs ls hS hl
  have h9 := kk hok H locs ls hS hl
  obtain ⟨p, l, e, s, m, args, below, meth, c, Q, A, H0⟩ := Γ
  obtain ⟨hx, hb, hml, hown, hts, hK, hA, hin, hret⟩ := hok
  exact lv_tableIn hx hb hd h1 h2 ho ht h9
theorem g_tabOut {dflt lo hi : Int} {offs : Array Int} {len : Nat} {x : Int32} (tgt : Nat) (hd : decode cc pc = .ok (.tableswitch dflt lo hi offs, len)) (h : x.toInt < lo ∨ hi < x.toInt) (ht : (pc : Int) + dflt = (tgt : Int)) (kk : G Γ R cc own Ts nL D cl tys mc ms post k n ws tgt lv st) : G Γ R cc own Ts nL D cl tys mc ms post k n ws pc lv (.int x :: st) := by
  intro hok H locs ls hS hl
  have h9 := kk hok H locs ls hS hl
  obtain ⟨p, l, e, s, m, args, below, meth, c, Q, A, H0⟩ := Γ
  obtain ⟨hx, hb, hml, hown, hts, hK, hA, hin, hret⟩ := hok
  exact lv_tableOut hx hb hd h ht h9
theorem g_lksw {dflt : Int} {ps : Array (Int × Int)} {len : Nat} {x : Int32} {off : Int} (tgt : Nat) (hd : decode cc pc = .ok (.lookupswitch dflt ps, len)) (hp : (ps.toList.zip (ps.toList.drop 1)).all (fun (a, next) => a.1 < next.1) = true) (ho : Op.lookupswitch.offset ps.toList dflt x.toInt = off) (ht : (pc : Int) + off = (tgt : Int)) (kk : G Γ R cc own Ts nL D cl tys mc ms post k n ws tgt lv st) : G Γ R cc own Ts nL D cl tys mc ms post k n ws pc lv (.int x :: st) := by
  intro hok H locs ls hS hl
  have h9 := kk hok H locs ls hS hl
  obtain ⟨p, l, e, s, m, args, below, meth, c, Q, A, H0⟩ := Γ
  obtain ⟨hx, hb, hml, hown, hts, hK, hA, hin, hret⟩ := hok
  exact lv_lookup hx hb hd hp ho ht h9
theorem g_iret {v : Int32} (hd : decode cc pc = .ok (.ireturn, 1)) (h : post (some (.int v)) ws) : G Γ R cc own Ts nL D cl tys mc ms post mc ms ws pc lv [.int v] := by
  intro hok H locs ls hS hl
  obtain ⟨p, l, e, s, m, args, below, meth, c, Q, A, H0⟩ := Γ
  obtain ⟨hx, hb, hml, hown, hts, hK, hA, hin, hret⟩ := hok
  exact hret (some (.int v)) ws H locs ls pc h hS.1 hS.2.1 hS.2.2 hd
theorem g_lret {v : Int64} (hd : decode cc pc = .ok (.lreturn, 1)) (h : post (some (.long v)) ws) : G Γ R cc own Ts nL D cl tys mc ms post mc ms ws pc lv [.long v] := by
  intro hok H locs ls hS hl
  obtain ⟨p, l, e, s, m, args, below, meth, c, Q, A, H0⟩ := Γ
  obtain ⟨hx, hb, hml, hown, hts, hK, hA, hin, hret⟩ := hok
  exact hret (some (.long v)) ws H locs ls pc h hS.1 hS.2.1 hS.2.2 hd
theorem g_aret {v : Nat} (hd : decode cc pc = .ok (.areturn, 1)) (h : post (some (.ref v)) ws) : G Γ R cc own Ts nL D cl tys mc ms post mc ms ws pc lv [.ref v] := by
  intro hok H locs ls hS hl
  obtain ⟨p, l, e, s, m, args, below, meth, c, Q, A, H0⟩ := Γ
  obtain ⟨hx, hb, hml, hown, hts, hK, hA, hin, hret⟩ := hok
  exact hret (some (.ref v)) ws H locs ls pc h hS.1 hS.2.1 hS.2.2 hd
theorem g_vret  (hd : decode cc pc = .ok (.return_, 1)) (h : post none ws) : G Γ R cc own Ts nL D cl tys mc ms post mc ms ws pc lv [] := by
  intro hok H locs ls hS hl
  obtain ⟨p, l, e, s, m, args, below, meth, c, Q, A, H0⟩ := Γ
  obtain ⟨hx, hb, hml, hown, hts, hK, hA, hin, hret⟩ := hok
  exact hret none ws H locs ls pc h hS.1 hS.2.1 hS.2.2 hd
theorem g_nret  (hd : decode cc pc = .ok (.areturn, 1)) (h : post (some .null) ws) : G Γ R cc own Ts nL D cl tys mc ms post mc ms ws pc lv [.null] := by
  intro hok H locs ls hS hl
  obtain ⟨p, l, e, s, m, args, below, meth, c, Q, A, H0⟩ := Γ
  obtain ⟨hx, hb, hml, hown, hts, hK, hA, hin, hret⟩ := hok
  exact hret (some .null) ws H locs ls pc h hS.1 hS.2.1 hS.2.2 hd
theorem g_nrm (lv2 : List (Nat × Value)) (hs : gSub lv lv2) (kk : G Γ R cc own Ts nL D cl tys mc ms post k n ws pc lv2 st) : G Γ R cc own Ts nL D cl tys mc ms post k n ws pc lv st := fun hok H locs ls hS hl => kk hok H locs ls hS (g_has hl hs)
theorem g_widen (k2 n2 : Nat) (h1 : k ≤ k2) (h2 : n ≤ n2) (kk : G Γ R cc own Ts nL D cl tys mc ms post k2 n2 ws pc lv st) : G Γ R cc own Ts nL D cl tys mc ms post k n ws pc lv st := by
  intro hok H locs ls hS hl
  have h9 := kk hok H locs ls hS hl
  obtain ⟨p, l, e, s, m, args, below, meth, c, Q, A, H0⟩ := Γ
  obtain ⟨hx, hb, hml, hown, hts, hK, hA, hin, hret⟩ := hok
  exact W.widen h1 h2 h9
theorem g_wsub (ws2 : va_W) (is : List Nat) (hn : va_nd is = true) (hs : is.filterMap (fun i => ws[i]?) = ws2) (hm : is.map (fun i => ws[i]?) = ws2.map some) (kk : G Γ R cc own Ts nL D cl tys mc ms post k n ws2 pc lv st) : G Γ R cc own Ts nL D cl tys mc ms post k n ws pc lv st := by
  intro hok H locs ls hS hl
  have hS2 : gS Γ D cl ws2 H locs := by
    obtain ⟨p, l, e, s, m, args, below, meth, c, Q, A, H0⟩ := Γ
    exact ⟨hS.1.sub is hs, hS.2.1.sub is hn hm, hS.2.2⟩
  exact kk hok H locs ls hS2 hl
theorem g_weq (ws2 : va_W) (he : ws = ws2) (kk : G Γ R cc own Ts nL D cl tys mc ms post k n ws2 pc lv st) : G Γ R cc own Ts nL D cl tys mc ms post k n ws pc lv st := he ▸ kk
theorem g_get {a ci N ix : Nat} {C : String} {T : u_T} {fs : List Value} {v : Value} (q0 j : Nat) (hd : decode cc pc = .ok (.getfield ix, 3)) (hw : Cond.fieldLink own ix (T j).1 (T j).2.1 (T j).2.2.1 ∈ Ts) (hi2 : ∀ w ∈ u_ws C T N, w ∈ Ts) (he : ws[q0]? = some (a, .inr (ci, fs))) (hc : cl[ci]? = some (C, T, N)) (hj : j < N) (hv : fs[j]? = some v) (kk : G Γ R cc own Ts nL D cl tys mc ms post k n ws (pc + 3) lv (v :: st)) : G Γ R cc own Ts nL D cl tys mc ms post k n ws pc lv (.ref a :: st) := by
  intro hok H locs ls hS hl
  have h9 := kk hok H locs ls hS hl
  obtain ⟨p, l, e, s, m, args, below, meth, c, Q, A, H0⟩ := Γ
  obtain ⟨hx, hb, hml, hown, hts, hK, hA, hin, hret⟩ := hok
  exact va_get hx hb hts hi2 hown hK hS.1 q0 he hc j hj (hts _ hw) (fun _ h => h) hv hd h9
theorem g_put {a ci N ix : Nat} {C : String} {T : u_T} {fs : List Value} {v : Value} {ty : FieldType} (q0 j : Nat) (ws2 : va_W) (ty0 : Nat → FieldType) (hty : ∀ k, k < N → parseFieldDescriptor (T k).2.2.1 = some (ty0 k)) (hnm : ∀ a, a < N → ∀ b, b < N → a ≠ b → (T a).2.1 ≠ (T b).2.1) (hd : decode cc pc = .ok (.putfield ix, 3)) (hw : Cond.fieldLink own ix (T j).1 (T j).2.1 (T j).2.2.1 ∈ Ts) (hi2 : ∀ w ∈ u_ws C T N, w ∈ Ts) (he : ws[q0]? = some (a, .inr (ci, fs))) (hc : cl[ci]? = some (C, T, N)) (hj : j < N) (hfin : (T j).2.2.2 = false) (hpd : parseFieldDescriptor (T j).2.2.1 = some ty) (hnar : narrow ty v = v) (hfit : fits ty v = true) (hl3 : j < fs.length) (hws : ws.set q0 (a, .inr (ci, fs.set j v)) = ws2) (kk : G Γ R cc own Ts nL D cl tys mc ms post k n ws2 (pc + 3) lv st) : G Γ R cc own Ts nL D cl tys mc ms post k n ws pc lv (v :: .ref a :: st) := by
  intro hok H locs ls hS hl
  subst hws
  have h9 := fun H1 locs1 hS1 => kk hok H1 locs1 ls hS1 hl
  obtain ⟨p, l, e, s, m, args, below, meth, c, Q, A, H0⟩ := Γ
  obtain ⟨hx, hb, hml, hown, hts, hK, hA, hin, hret⟩ := hok
  exact va_put hx hb hts hi2 ty0 hty hnm hown hK hS.1 hS.2.1 hS.2.2 q0 he hc j hj (hts _ hw) (fun _ h => h) hfin hpd hnar hfit hl3 hd (fun H1 locs1 h1 h2 h3 => h9 H1 locs1 ⟨h1, h2, h3⟩)
theorem g_iald {a : Nat} {cA : ClassId} {N : Nat} {f : Nat → Int32} {i : Int32} (q0 t0 : Nat) (hd : decode cc pc = .ok (.iaload, 1)) (ha : ws[q0]? = some (a, .inl (cA, N, .inl f))) (ht : tys[t0]? = some (cA, .int)) (hi : vp_in i N) (kk : G Γ R cc own Ts nL D cl tys mc ms post k n ws (pc + 1) lv (.int (f i.toNatClampNeg) :: st)) : G Γ R cc own Ts nL D cl tys mc ms post k n ws pc lv (.int i :: .ref a :: st) := by
  intro hok H locs ls hS hl
  have h9 := kk hok H locs ls hS hl
  obtain ⟨p, l, e, s, m, args, below, meth, c, Q, A, H0⟩ := Γ
  obtain ⟨hx, hb, hml, hown, hts, hK, hA, hin, hret⟩ := hok
  exact va_iald hx hb hK hS.1 q0 t0 ha ht hi hd h9
theorem g_zald {a : Nat} {cA : ClassId} {N : Nat} {f : Nat → Int32} {i : Int32} (q0 t0 : Nat) (hd : decode cc pc = .ok (.baload, 1)) (ha : ws[q0]? = some (a, .inl (cA, N, .inl f))) (ht : tys[t0]? = some (cA, .boolean)) (hi : vp_in i N) (kk : G Γ R cc own Ts nL D cl tys mc ms post k n ws (pc + 1) lv (.int (f i.toNatClampNeg) :: st)) : G Γ R cc own Ts nL D cl tys mc ms post k n ws pc lv (.int i :: .ref a :: st) := by
  intro hok H locs ls hS hl
  have h9 := kk hok H locs ls hS hl
  obtain ⟨p, l, e, s, m, args, below, meth, c, Q, A, H0⟩ := Γ
  obtain ⟨hx, hb, hml, hown, hts, hK, hA, hin, hret⟩ := hok
  exact va_zald hx hb hK hS.1 q0 t0 ha ht hi hd h9
theorem g_lald {a : Nat} {cA : ClassId} {N : Nat} {f : Nat → Int64} {i : Int32} (q0 t0 : Nat) (hd : decode cc pc = .ok (.laload, 1)) (ha : ws[q0]? = some (a, .inl (cA, N, .inr (.inl f)))) (ht : tys[t0]? = some (cA, .long)) (hi : vp_in i N) (kk : G Γ R cc own Ts nL D cl tys mc ms post k n ws (pc + 1) lv (.long (f i.toNatClampNeg) :: st)) : G Γ R cc own Ts nL D cl tys mc ms post k n ws pc lv (.int i :: .ref a :: st) := by
  intro hok H locs ls hS hl
  have h9 := kk hok H locs ls hS hl
  obtain ⟨p, l, e, s, m, args, below, meth, c, Q, A, H0⟩ := Γ
  obtain ⟨hx, hb, hml, hown, hts, hK, hA, hin, hret⟩ := hok
  exact va_lald hx hb hK hS.1 q0 t0 ha ht hi hd h9
theorem g_iast {a : Nat} {cA : ClassId} {N : Nat} {f : Nat → Int32} {i : Int32} {x : Int32} (q0 t0 : Nat) (ws2 : va_W) (hd : decode cc pc = .ok (.iastore, 1)) (ha : ws[q0]? = some (a, .inl (cA, N, .inl f))) (ht : tys[t0]? = some (cA, .int)) (hi : vp_in i N) (hws : ws.set q0 (a, .inl (cA, N, .inl (upd f i.toNatClampNeg x))) = ws2) (kk : G Γ R cc own Ts nL D cl tys mc ms post k n ws2 (pc + 1) lv st) : G Γ R cc own Ts nL D cl tys mc ms post k n ws pc lv (.int x :: .int i :: .ref a :: st) := by
  intro hok H locs ls hS hl
  subst hws
  have h9 := fun H1 locs1 hS1 => kk hok H1 locs1 ls hS1 hl
  obtain ⟨p, l, e, s, m, args, below, meth, c, Q, A, H0⟩ := Γ
  obtain ⟨hx, hb, hml, hown, hts, hK, hA, hin, hret⟩ := hok
  exact va_iast hx hb hK hS.1 hS.2.1 hS.2.2 q0 t0 ha ht hi hd (fun H1 locs1 h1 h2 h3 => h9 H1 locs1 ⟨h1, h2, h3⟩)
theorem g_zast {a : Nat} {cA : ClassId} {N : Nat} {f : Nat → Int32} {i : Int32} {x : Int32} (q0 t0 : Nat) (ws2 : va_W) (hd : decode cc pc = .ok (.bastore, 1)) (ha : ws[q0]? = some (a, .inl (cA, N, .inl f))) (ht : tys[t0]? = some (cA, .boolean)) (hi : vp_in i N) (hws : ws.set q0 (a, .inl (cA, N, .inl (upd f i.toNatClampNeg (vp_nar .boolean x)))) = ws2) (kk : G Γ R cc own Ts nL D cl tys mc ms post k n ws2 (pc + 1) lv st) : G Γ R cc own Ts nL D cl tys mc ms post k n ws pc lv (.int x :: .int i :: .ref a :: st) := by
  intro hok H locs ls hS hl
  subst hws
  have h9 := fun H1 locs1 hS1 => kk hok H1 locs1 ls hS1 hl
  obtain ⟨p, l, e, s, m, args, below, meth, c, Q, A, H0⟩ := Γ
  obtain ⟨hx, hb, hml, hown, hts, hK, hA, hin, hret⟩ := hok
  exact va_zast hx hb hK hS.1 hS.2.1 hS.2.2 q0 t0 ha ht hi hd (fun H1 locs1 h1 h2 h3 => h9 H1 locs1 ⟨h1, h2, h3⟩)
theorem g_last {a : Nat} {cA : ClassId} {N : Nat} {f : Nat → Int64} {i : Int32} {x : Int64} (q0 t0 : Nat) (ws2 : va_W) (hd : decode cc pc = .ok (.lastore, 1)) (ha : ws[q0]? = some (a, .inl (cA, N, .inr (.inl f)))) (ht : tys[t0]? = some (cA, .long)) (hi : vp_in i N) (hws : ws.set q0 (a, .inl (cA, N, .inr (.inl (vp_updL f i.toNatClampNeg x)))) = ws2) (kk : G Γ R cc own Ts nL D cl tys mc ms post k n ws2 (pc + 1) lv st) : G Γ R cc own Ts nL D cl tys mc ms post k n ws pc lv (.long x :: .int i :: .ref a :: st) := by
  intro hok H locs ls hS hl
  subst hws
  have h9 := fun H1 locs1 hS1 => kk hok H1 locs1 ls hS1 hl
  obtain ⟨p, l, e, s, m, args, below, meth, c, Q, A, H0⟩ := Γ
  obtain ⟨hx, hb, hml, hown, hts, hK, hA, hin, hret⟩ := hok
  exact va_last hx hb hK hS.1 hS.2.1 hS.2.2 q0 t0 ha ht hi hd (fun H1 locs1 h1 h2 h3 => h9 H1 locs1 ⟨h1, h2, h3⟩)
/-- the end of a method as its contract has it -/
def gQc (D : va_G) (cl : List vw_C) (tys : List (ClassId × FieldType)) (A : Nat → Prop) (post : Option Value → va_W → Prop) : Array Value → State → Outcome → State → Prop := fun _ st oc t => (∃ (v : Option Value) (w1 : va_W), oc = .returned v ∧ post v w1 ∧ va_P D cl w1 t.heap ∧ va_K D cl tys t ∧ va_D A w1) ∧ va_F A st t
/-- THE CONTRACT: from the cells w0 and the arguments av the method y returns, with post of its answer and of the cells then -/
def Ct (l : Launch) (D : va_G) (cl : List vw_C) (tys : List (ClassId × FieldType)) (y : MethodName) (wy : List Cond) (rm : Room) (mc ms : Nat) (av : List Value) (w0 : va_W) (post : Option Value → va_W → Prop) : Prop :=
  ∀ sz : Nat, Met l y wy rm (va_Pc av (fun U => U.heap.size = sz ∧ va_P D cl w0 U.heap ∧ va_K D cl tys U ∧ va_D (fun _ => True) w0)) (gQc D cl tys (va_A w0 sz) post) mc ms (va_A w0 sz)

theorem g_back {p : Program} {l : Launch} {e : Env} {R : Room} {s : State} {m : MethodId} {args : Array Value} {below : List Frame} {meth : Method} {c : Code} {H : Heap} {locs : List Loc} {cells slots : Nat} {Q : State → Prop} {pc : Nat} {ls : Array Slot} {rest st0 : List Value} {a : Array Value} {A0 A1 : Nat → Prop} {H0 : Heap} {mc ms : Nat} {D : va_G} {cl : List vw_C} {tys : List (ClassId × FieldType)} {post : Option Value → va_W → Prop}
    (hr : va_Run p l e R s m args below meth c H locs cells slots mc ms (F0 m pc ls st0) rest (gQc D cl tys A1 post a) A1) (hS : va_S A0 H0 H locs) (hA : ∀ q, A1 q → A0 q)
    (kk : ∀ (v : Option Value) (w1 : va_W) (H1 : Heap) (locs1 : List Loc), post v w1 → va_P D cl w1 H1 → va_D A1 w1 → (∀ q : Nat, q < H.size → ¬ A1 q → H1[q]? = H[q]?) → va_S A0 H0 H1 locs1 → W p l e R s m args below meth c H1 locs1 (cells + mc) (slots + ms) Q (F0 m (pc + 3) ls (v.toList ++ rest))) : W p l e R s m args below meth c H locs cells slots Q (F0 m pc ls st0) := by
  intro T hT X
  obtain ⟨v, st₀, t, T', L, h0, X', hL, e1, e2, ⟨⟨v2, w1, hv, hp, hP1, hK1, hD1⟩, hz, hk⟩, st⟩ := hr T hT X
  cases hv
  rw [h0] at hz hk
  obtain ⟨t2, a1, b1⟩ := kk v w1 T'.heap (locs ++ L) hp (by rw [e1]; exact hP1) hD1 (fun q h1 h2 => by rw [e1]; exact hk q h1 h2)
    ⟨Nat.le_trans hS.1 (by rw [e1]; exact hz), fun q h1 h2 => by rw [e1, hk q (Nat.lt_of_lt_of_le h1 hS.1) (fun z => h2 (hA q z))]; exact hS.2.1 q h1 h2, fun q hq => by
      rcases List.mem_append.mp hq with h | h
      · exact hS.2.2 q h
      · exact hA _ (hL q h)⟩ T' rfl X'
  exact ⟨t2, st t2 a1, b1⟩
theorem g_callS {y : MethodName} {bytes : ByteArray} {maxL ix mc1 ms1 : Nat} {ret : Option FieldType} {wy wy' : List Cond} {rm : Room} {post1 : Option Value → va_W → Prop} {As rest : List Value} (nn : Nat) (hg : GoodIn Ts (va_wsS own ix y wy)) (hw : wy = Cond.code y bytes maxL ret :: wy') (hrc : rm.cells = mc1) (hrs : rm.slots = ms1) (hR1 : rm.frames + 1 ≤ R.frames ∧ 8 + (maxL + 11) + rm.locals ≤ R.locals) (hcs : k + mc1 ≤ R.cells ∧ n + ms1 ≤ R.slots) (hst : (rest.map fun v => v.category).sum ≤ 8) (hdn : y.cls ≠ "java/lang/invoke/MethodHandle" ∧ y.cls ≠ "java/lang/invoke/VarHandle" ∧ (parseMethodDescriptor y.desc).map (fun d => d.parameters.length) = some nn) (hn : As.length = nn) (isC isR : List Nat) (wc wr : va_W) (hC : isC.map (fun i => ws[i]?) = wc.map some) (hC2 : isC.filterMap (fun i => ws[i]?) = wc) (hnC : va_nd isC = true) (hR : isR.map (fun i => ws[i]?) = wr.map some) (hnR : va_nd isR = true) (hdis : ∀ i ∈ isR, i ∉ isC) (hd : decode cc pc = .ok (.invokestatic ix, 3)) (hct : Ct Γ.2.1 D cl tys y wy rm mc1 ms1 As wc post1) (hstk : st = As.reverse ++ rest)
    (kk : ∀ (v : Option Value) (w1 : va_W), post1 v w1 → G Γ R cc own Ts nL D cl tys mc ms post (k + mc1) (n + ms1) (wr ++ w1) (pc + 3) lv (v.toList ++ rest)) : G Γ R cc own Ts nL D cl tys mc ms post k n ws pc lv st := by
  intro hok H locs ls hS hl
  subst hstk
  obtain ⟨p, l, e, s, m, args, below, meth, c, Q, A, H0⟩ := Γ
  have hok2 := hok
  obtain ⟨hx, hb, hml, hown, hts, hK, hA, hin, hret⟩ := hok
  have hPc := hS.1.sub (ws' := wc) isC hC2
  have hDc := hS.2.1.sub (ws' := wc) isC hnC hC
  have hFc := va_free (wc := wc) hS.2.1 hS.2.2 hA isC hC
  refine g_back (va_runS (As := As) (rest := rest) ⟨hx, hb, hml, hown, hts⟩ (hct H.size) (va_cwS nn hts hg hw hrc hrs hdn hR1) ⟨fun a U g mk q => by obtain ⟨q0, q1, qP, qK, qD⟩ := q; exact ⟨q0, q1, qP, va_K.moved (u := U) (U := U.calling g mk a) (Vm.Alike.refl U.vm) qK, qD⟩, fun U hU hW => ⟨rfl, by rw [hU], by rw [hU]; exact hPc, va_K.moved hW.alike hK, hDc.weaken (fun _ _ _ _ => trivial)⟩⟩ rfl hn hl.1 rfl (lv_room hst) hd hcs) hS.2.2 hFc (fun v w1 H1 locs1 hp hP1 hD1 hk1 hS1 => ?_)
  obtain ⟨hP2, hD2⟩ := va_join (wr := wr) (w1 := w1) hS.1 hS.2.1 isC isR hC hR hnR hdis hk1 hFc hP1 hD1
  exact kk v w1 hp hok2 H1 locs1 ls ⟨hP2, hD2, hS1⟩ hl
theorem g_callV {y : MethodName} {bytes : ByteArray} {maxL ix mc1 ms1 : Nat} {ret : Option FieldType} {wy wy' : List Cond} {rm : Room} {post1 : Option Value → va_W → Prop} {As rest : List Value} {C : String} {b ci : Nat} {T : u_T} {N : Nat} {fs : List Value} (nn q0 : Nat) (hg : GoodIn Ts (wsV own ix C y wy)) (hw : wy = Cond.code y bytes maxL ret :: wy') (hrc : rm.cells = mc1) (hrs : rm.slots = ms1) (hR1 : rm.frames + 1 ≤ R.frames ∧ 8 + (maxL + 11) + rm.locals ≤ R.locals) (hcs : k + mc1 ≤ R.cells ∧ n + ms1 ≤ R.slots) (hst : (rest.map fun v => v.category).sum ≤ 8) (hdn : y.cls = C ∧ y.cls ≠ "java/lang/invoke/MethodHandle" ∧ y.cls ≠ "java/lang/invoke/VarHandle" ∧ (parseMethodDescriptor y.desc).map (fun d => d.parameters.length) = some nn) (hn : As.length = nn) (he : ws[q0]? = some (b, .inr (ci, fs))) (hc : cl[ci]? = some (C, T, N)) (isC isR : List Nat) (wc wr : va_W) (hC : isC.map (fun i => ws[i]?) = wc.map some) (hC2 : isC.filterMap (fun i => ws[i]?) = wc) (hnC : va_nd isC = true) (hR : isR.map (fun i => ws[i]?) = wr.map some) (hnR : va_nd isR = true) (hdis : ∀ i ∈ isR, i ∉ isC) (hd : decode cc pc = .ok (.invokevirtual ix, 3)) (hct : Ct Γ.2.1 D cl tys y wy rm mc1 ms1 (.ref b :: As) wc post1) (hstk : st = As.reverse ++ .ref b :: rest)
    (kk : ∀ (v : Option Value) (w1 : va_W), post1 v w1 → G Γ R cc own Ts nL D cl tys mc ms post (k + mc1) (n + ms1) (wr ++ w1) (pc + 3) lv (v.toList ++ rest)) : G Γ R cc own Ts nL D cl tys mc ms post k n ws pc lv st := by
  intro hok H locs ls hS hl
  subst hstk
  obtain ⟨p, l, e, s, m, args, below, meth, c, Q, A, H0⟩ := Γ
  have hok2 := hok
  obtain ⟨hx, hb, hml, hown, hts, hK, hA, hin, hret⟩ := hok
  have hPc := hS.1.sub (ws' := wc) isC hC2
  have hDc := hS.2.1.sub (ws' := wc) isC hnC hC
  have hFc := va_free (wc := wc) hS.2.1 hS.2.2 hA isC hC
  refine g_back (va_runV (As := As) (rest := rest) (C := C) ⟨hx, hb, hml, hown, hts⟩ (hct H.size) (cwV nn hts hg hw hrc hrs hdn hR1) ⟨fun a U g mk q => by obtain ⟨q0, q1, qP, qK, qD⟩ := q; exact ⟨q0, q1, qP, va_K.moved (u := U) (U := U.calling g mk a) (Vm.Alike.refl U.vm) qK, qD⟩, va_recv hK hS.1 hc he, fun U hU hW => ⟨rfl, by rw [hU], by rw [hU]; exact hPc, va_K.moved hW.alike hK, hDc.weaken (fun _ _ _ _ => trivial)⟩⟩ rfl hn hl.1 rfl (lv_room hst) hd hcs) hS.2.2 hFc (fun v w1 H1 locs1 hp hP1 hD1 hk1 hS1 => ?_)
  obtain ⟨hP2, hD2⟩ := va_join (wr := wr) (w1 := w1) hS.1 hS.2.1 isC isR hC hR hnR hdis hk1 hFc hP1 hD1
  exact kk v w1 hp hok2 H1 locs1 ls ⟨hP2, hD2, hS1⟩ hl
theorem g_start {l : Launch} {y : MethodName} {wy wy' : List Cond} {rm : Room} {cc : ByteArray} {maxL : Nat} {ret : Option FieldType} {D : va_G} {cl : List vw_C} {tys : List (ClassId × FieldType)} {mc ms : Nat} {av : List Value} {w0 : va_W} {post : Option Value → va_W → Prop}
    (hy : plainName y.cls = true) (hw : wy = Cond.code y cc maxL ret :: wy') (hav : (lg_sl av).length ≤ maxL)
    (hres : ∀ v w1, post v w1 → match v with
      | none => ret = none
      | some (.int x) => ∃ ty, ret = some ty ∧ narrow ty (.int x) = .int x
      | some (.long _) => ret = some .long
      | some (.ref _) => ∃ ty, ret = some ty ∧ ((∃ n, ty = .object n) ∨ ∃ t, ty = .array t)
      | some .null => ∃ ty, ret = some ty ∧ ((∃ n, ty = .object n) ∨ ∃ t, ty = .array t)
      | _ => False)
    (body : ∀ Γ : gT, Γ.2.1 = l → G Γ (headSpec wy rm).room cc y.cls wy maxL D cl tys mc ms post 0 0 w0 0 (lv_args 0 av) []) : Ct l D cl tys y wy rm mc ms av w0 post := by
  intro sz
  refine Met.ofW (cc := cc) (maxL := maxL) (ret := ret) hy hw ?_
  intro p e s m args below meth c s₁ B hml hv
  obtain ⟨rfl, hsz, hP, hK, hD0⟩ := hv
  have hx := B.exec
  have hb := B.bytes
  have hr := B.returns
  have hts := atoms_spec (ws := wy) B.pre
  have hown : s.vm.findClass y.cls = some m.cls := findClass_of_methodNamed B.named
  have hlocks := B.notSynchronized
  subst hsz
  have hD := hD0.self (sz := s.heap.size)
  have hA : ∀ q : Nat, s.heap.size ≤ q → va_A w0 s.heap.size q := fun q h => Or.inr h
  have hl := lv_entry av (n := maxL) hav
  rw [lg_entry_eq]
  have key := body (p, l, e, s, m, av.toArray, below, meth, c, MQ below (gQc D cl tys (va_A w0 s.heap.size) post) av.toArray s mc ms (va_A w0 s.heap.size), va_A w0 s.heap.size, s.heap) rfl
  refine key ⟨hx, hb, hml, hown, hts, hK, hA, Or.inr trivial, ?_⟩ s.heap [] _ ⟨hP, hD, va_S.rf⟩ hl
  intro v ws H locs ls pc hp hP1 hD1 hS1 hrv
  have hq : ∀ t : State, t.heap = H → s.WarmedH t.vm → gQc D cl tys (va_A w0 s.heap.size) post av.toArray s (.returned v) t := fun t ht hW => ⟨⟨v, ws, rfl, hp, by rw [ht]; exact hP1, va_K.moved hW.alike hK, hD1⟩, hS1.F ht⟩
  have h5 := hres v ws hp
  match v, hq, h5, hrv with
  | none, hq, h5, hrv => exact W.vret hx hb (hr.trans h5) hq hS1.2.2 hrv
  | some (.int x), hq, ⟨ty, h5, h6⟩, hrv => exact W.zret hx hb (hr.trans h5) h6 hq hS1.2.2 hrv
  | some (.long x), hq, h5, hrv => exact W.lret hx hb (hr.trans h5) hq hS1.2.2 hrv
  | some (.ref x), hq, ⟨ty, h5, h6⟩, hrv => exact W.aret hx hb (hr.trans h5) h6 (Or.inr ⟨x, rfl⟩) hq hS1.2.2 hrv
  | some .null, hq, ⟨ty, h5, h6⟩, hrv => exact W.aret hx hb (hr.trans h5) h6 (Or.inl rfl) hq hS1.2.2 hrv
  | some (.float x), hq, h5, hrv => exact absurd h5 id
  | some (.double x), hq, h5, hrv => exact absurd h5 id
end GLAYER
end
section
abbrev clx : List vw_C := [(RX0, TX0, 10), (RX1, TX1, 2), (RX2, TX2, 6), (RX3, TX3, 7), (RX4, TX4, 2), (RX5, TX5, 11), (RX6, TX6, 2), (RX7, TX7, 5), (RX8, TX8, 18), (RX9, TX9, 55)]
abbrev tyx (cy : Nat → ClassId) : List (ClassId × FieldType) := [(cy 0, .int), (cy 1, .long), (cy 2, .boolean), (cy 3, .object "ChangerFair$Bill"), (cy 4, .array .int), (cy 5, .array .long)]
/-- a state of the reference: its ints, longs, rows of ints (and booleans), rows of longs, by the field -/
abbrev MS : Type := (Nat → Int32) × (Nat → Int64) × (Nat → Nat → Int32) × (Nat → Nat → Int64)
def MO (a : Nat → Nat) (S : MS) : List Value := [.long (S.2.1 0), .int (S.1 1), .ref (a 2), .ref (a 3), .int (S.1 4), .ref (a 5), .ref (a 6), .ref (a 7), .ref (a 8), .ref (a 9), .ref (a 10), .ref (a 11), .ref (a 12), .ref (a 13), .ref (a 14), .ref (a 15), .ref (a 16), .ref (a 17), .ref (a 18), .ref (a 19), .int (S.1 20), .ref (a 21), .ref (a 22), .int (S.1 23), .ref (a 24), .ref (a 25), .ref (a 26), .ref (a 27), .ref (a 28), .int (S.1 29), .ref (a 30), .ref (a 31), .ref (a 32), .ref (a 33), .ref (a 34), .ref (a 35), .int (S.1 36), .long (S.2.1 37), .int (S.1 38), .int (S.1 39), .int (S.1 40), .int (S.1 41), .ref (a 42), .ref (a 43), .int (S.1 44), .ref (a 45), .int (S.1 46), .ref (a 47), .ref (a 48), .ref (a 49), .ref (a 50), .long (S.2.1 51), .long (S.2.1 52), .ref (a 53), .ref (a 54)]
/-- the cells of the reference: its object, its rows in the order of its fields -/
def MW (cy : Nat → ClassId) (a : Nat → Nat) (S : MS) : va_W := [(a 0, .inr (9, MO a S)), (a 2, .inl (cy 0, 5, .inl (S.2.2.1 2))), (a 3, .inl (cy 0, 10, .inl (S.2.2.1 3))), (a 5, .inl (cy 0, 40, .inl (S.2.2.1 5))), (a 6, .inl (cy 0, 40, .inl (S.2.2.1 6))), (a 7, .inl (cy 0, 40, .inl (S.2.2.1 7))), (a 8, .inl (cy 0, 40, .inl (S.2.2.1 8))), (a 9, .inl (cy 0, 40, .inl (S.2.2.1 9))), (a 10, .inl (cy 0, 40, .inl (S.2.2.1 10))), (a 11, .inl (cy 0, 40, .inl (S.2.2.1 11))), (a 12, .inl (cy 0, 160, .inl (S.2.2.1 12))), (a 13, .inl (cy 1, 200, .inr (.inl (S.2.2.2 13)))), (a 14, .inl (cy 2, 40, .inl (S.2.2.1 14))), (a 15, .inl (cy 1, 100, .inr (.inl (S.2.2.2 15)))), (a 16, .inl (cy 0, 4, .inl (S.2.2.1 16))), (a 17, .inl (cy 0, 40, .inl (S.2.2.1 17))), (a 18, .inl (cy 0, 50, .inl (S.2.2.1 18))), (a 19, .inl (cy 0, 25, .inl (S.2.2.1 19))), (a 21, .inl (cy 0, 30, .inl (S.2.2.1 21))), (a 22, .inl (cy 1, 8, .inr (.inl (S.2.2.2 22)))), (a 24, .inl (cy 2, 8, .inl (S.2.2.1 24))), (a 25, .inl (cy 0, 8, .inl (S.2.2.1 25))), (a 26, .inl (cy 0, 32, .inl (S.2.2.1 26))), (a 27, .inl (cy 0, 32, .inl (S.2.2.1 27))), (a 28, .inl (cy 0, 32, .inl (S.2.2.1 28))), (a 30, .inl (cy 2, 8, .inl (S.2.2.1 30))), (a 31, .inl (cy 0, 8, .inl (S.2.2.1 31))), (a 32, .inl (cy 0, 32, .inl (S.2.2.1 32))), (a 33, .inl (cy 0, 32, .inl (S.2.2.1 33))), (a 34, .inl (cy 0, 32, .inl (S.2.2.1 34))), (a 35, .inl (cy 0, 400, .inl (S.2.2.1 35))), (a 42, .inl (cy 1, 1024, .inr (.inl (S.2.2.2 42)))), (a 43, .inl (cy 0, 1024, .inl (S.2.2.1 43))), (a 45, .inl (cy 0, 10, .inl (S.2.2.1 45))), (a 47, .inl (cy 0, 10, .inl (S.2.2.1 47))), (a 48, .inl (cy 0, 10, .inl (S.2.2.1 48))), (a 49, .inl (cy 1, 10, .inr (.inl (S.2.2.2 49)))), (a 50, .inl (cy 1, 10, .inr (.inl (S.2.2.2 50)))), (a 53, .inl (cy 1, 10, .inr (.inl (S.2.2.2 53)))), (a 54, .inl (cy 1, 10, .inr (.inl (S.2.2.2 54))))]
/-- one int, one long, one place of a row is set -/
def sI (S : MS) (j : Nat) (v : Int32) : MS := (fun i => if i = j then v else S.1 i, S.2.1, S.2.2.1, S.2.2.2)
def sL (S : MS) (j : Nat) (v : Int64) : MS := (S.1, fun i => if i = j then v else S.2.1 i, S.2.2.1, S.2.2.2)
def sA (S : MS) (j : Nat) (i : Nat) (v : Int32) : MS := (S.1, S.2.1, fun q => if q = j then upd (S.2.2.1 j) i v else S.2.2.1 q, S.2.2.2)
def sB (S : MS) (j : Nat) (i : Nat) (v : Int64) : MS := (S.1, S.2.1, S.2.2.1, fun q => if q = j then vp_updL (S.2.2.2 j) i v else S.2.2.2 q)
section MODEL
variable {Γ : gT} {R : Room} {cc : ByteArray} {own : String} {Ts : List Cond} {nL : Nat} {D : va_G} {cy : Nat → ClassId} {mc ms : Nat} {post : Option Value → va_W → Prop} {k n : Nat} {a : Nat → Nat} {S : MS} {pc : Nat} {lv : List (Nat × Value)} {st : List Value}
theorem m_get {ix : Nat} {v : Value} (j : Nat) (hd : decode cc pc = .ok (.getfield ix, 3)) (hw : Cond.fieldLink own ix (TX9 j).1 (TX9 j).2.1 (TX9 j).2.2.1 ∈ Ts) (hi2 : ∀ w ∈ wsX90, w ∈ Ts) (hj : j < 55) (hv : (MO a S)[j]? = some v) (kk : G Γ R cc own Ts nL D clx (tyx cy) mc ms post k n (MW cy a S) (pc + 3) lv (v :: st)) : G Γ R cc own Ts nL D clx (tyx cy) mc ms post k n (MW cy a S) pc lv (.ref (a 0) :: st) :=
  g_get 0 j hd hw hi2 rfl rfl hj hv kk
theorem m_puti {ix : Nat} {v : Int32} (j : Nat) (hd : decode cc pc = .ok (.putfield ix, 3)) (hw : Cond.fieldLink own ix (TX9 j).1 (TX9 j).2.1 (TX9 j).2.2.1 ∈ Ts) (hi2 : ∀ w ∈ wsX90, w ∈ Ts) (hj : j < 55) (hfin : (TX9 j).2.2.2 = false) (hnar : narrow (tyX9 j) (.int v) = .int v) (hfit : fits (tyX9 j) (.int v) = true) (hws : (MW cy a S).set 0 (a 0, .inr (9, (MO a S).set j (.int v))) = MW cy a (sI S j v)) (kk : G Γ R cc own Ts nL D clx (tyx cy) mc ms post k n (MW cy a (sI S j v)) (pc + 3) lv st) : G Γ R cc own Ts nL D clx (tyx cy) mc ms post k n (MW cy a S) pc lv (.int v :: .ref (a 0) :: st) :=
  g_put 0 j (MW cy a (sI S j v)) tyX9 tyX9_ok nmX9 hd hw hi2 rfl rfl hj hfin (tyX9_ok j hj) hnar hfit hj hws kk
theorem m_putl {ix : Nat} {v : Int64} (j : Nat) (hd : decode cc pc = .ok (.putfield ix, 3)) (hw : Cond.fieldLink own ix (TX9 j).1 (TX9 j).2.1 (TX9 j).2.2.1 ∈ Ts) (hi2 : ∀ w ∈ wsX90, w ∈ Ts) (hj : j < 55) (hfin : (TX9 j).2.2.2 = false) (hnar : narrow (tyX9 j) (.long v) = .long v) (hfit : fits (tyX9 j) (.long v) = true) (hws : (MW cy a S).set 0 (a 0, .inr (9, (MO a S).set j (.long v))) = MW cy a (sL S j v)) (kk : G Γ R cc own Ts nL D clx (tyx cy) mc ms post k n (MW cy a (sL S j v)) (pc + 3) lv st) : G Γ R cc own Ts nL D clx (tyx cy) mc ms post k n (MW cy a S) pc lv (.long v :: .ref (a 0) :: st) :=
  g_put 0 j (MW cy a (sL S j v)) tyX9 tyX9_ok nmX9 hd hw hi2 rfl rfl hj hfin (tyX9_ok j hj) hnar hfit hj hws kk
theorem m_iald {i : Int32} (j q N : Nat) (hd : decode cc pc = .ok (.iaload, 1)) (ha : (MW cy a S)[q]? = some (a j, .inl (cy 0, N, .inl (S.2.2.1 j)))) (hi : vp_in i N) (kk : G Γ R cc own Ts nL D clx (tyx cy) mc ms post k n (MW cy a S) (pc + 1) lv (.int (S.2.2.1 j i.toNatClampNeg) :: st)) : G Γ R cc own Ts nL D clx (tyx cy) mc ms post k n (MW cy a S) pc lv (.int i :: .ref (a j) :: st) :=
  g_iald q 0 hd ha rfl hi kk
theorem m_zald {i : Int32} (j q N : Nat) (hd : decode cc pc = .ok (.baload, 1)) (ha : (MW cy a S)[q]? = some (a j, .inl (cy 2, N, .inl (S.2.2.1 j)))) (hi : vp_in i N) (kk : G Γ R cc own Ts nL D clx (tyx cy) mc ms post k n (MW cy a S) (pc + 1) lv (.int (S.2.2.1 j i.toNatClampNeg) :: st)) : G Γ R cc own Ts nL D clx (tyx cy) mc ms post k n (MW cy a S) pc lv (.int i :: .ref (a j) :: st) :=
  g_zald q 2 hd ha rfl hi kk
theorem m_lald {i : Int32} (j q N : Nat) (hd : decode cc pc = .ok (.laload, 1)) (ha : (MW cy a S)[q]? = some (a j, .inl (cy 1, N, .inr (.inl (S.2.2.2 j))))) (hi : vp_in i N) (kk : G Γ R cc own Ts nL D clx (tyx cy) mc ms post k n (MW cy a S) (pc + 1) lv (.long (S.2.2.2 j i.toNatClampNeg) :: st)) : G Γ R cc own Ts nL D clx (tyx cy) mc ms post k n (MW cy a S) pc lv (.int i :: .ref (a j) :: st) :=
  g_lald q 1 hd ha rfl hi kk
theorem m_iast {i : Int32} {x : Int32} (j q N : Nat) (hd : decode cc pc = .ok (.iastore, 1)) (ha : (MW cy a S)[q]? = some (a j, .inl (cy 0, N, .inl (S.2.2.1 j)))) (hi : vp_in i N) (hws : (MW cy a S).set q (a j, .inl (cy 0, N, .inl (upd (S.2.2.1 j) i.toNatClampNeg x))) = MW cy a (sA S j i.toNatClampNeg x)) (kk : G Γ R cc own Ts nL D clx (tyx cy) mc ms post k n (MW cy a (sA S j i.toNatClampNeg x)) (pc + 1) lv st) : G Γ R cc own Ts nL D clx (tyx cy) mc ms post k n (MW cy a S) pc lv (.int x :: .int i :: .ref (a j) :: st) :=
  g_iast q 0 (MW cy a (sA S j i.toNatClampNeg x)) hd ha rfl hi hws kk
theorem m_zast {i : Int32} {x : Int32} (j q N : Nat) (hd : decode cc pc = .ok (.bastore, 1)) (ha : (MW cy a S)[q]? = some (a j, .inl (cy 2, N, .inl (S.2.2.1 j)))) (hi : vp_in i N) (hws : (MW cy a S).set q (a j, .inl (cy 2, N, .inl (upd (S.2.2.1 j) i.toNatClampNeg (vp_nar .boolean x)))) = MW cy a (sA S j i.toNatClampNeg (vp_nar .boolean x))) (kk : G Γ R cc own Ts nL D clx (tyx cy) mc ms post k n (MW cy a (sA S j i.toNatClampNeg (vp_nar .boolean x))) (pc + 1) lv st) : G Γ R cc own Ts nL D clx (tyx cy) mc ms post k n (MW cy a S) pc lv (.int x :: .int i :: .ref (a j) :: st) :=
  g_zast q 2 (MW cy a (sA S j i.toNatClampNeg (vp_nar .boolean x))) hd ha rfl hi hws kk
theorem m_last {i : Int32} {x : Int64} (j q N : Nat) (hd : decode cc pc = .ok (.lastore, 1)) (ha : (MW cy a S)[q]? = some (a j, .inl (cy 1, N, .inr (.inl (S.2.2.2 j))))) (hi : vp_in i N) (hws : (MW cy a S).set q (a j, .inl (cy 1, N, .inr (.inl (vp_updL (S.2.2.2 j) i.toNatClampNeg x)))) = MW cy a (sB S j i.toNatClampNeg x)) (kk : G Γ R cc own Ts nL D clx (tyx cy) mc ms post k n (MW cy a (sB S j i.toNatClampNeg x)) (pc + 1) lv st) : G Γ R cc own Ts nL D clx (tyx cy) mc ms post k n (MW cy a S) pc lv (.long x :: .int i :: .ref (a j) :: st) :=
  g_last q 1 (MW cy a (sB S j i.toNatClampNeg x)) hd ha rfl hi hws kk
theorem g_len (w : va_W) : (List.range w.length).map (fun i => w[i]?) = w.map some := by
  apply List.ext_getElem?
  intro i
  rw [List.getElem?_map, List.getElem?_map]
  by_cases h : i < w.length
  · rw [List.getElem?_range h]
    simp [h]
  · rw [List.getElem?_eq_none (by simpa using h), List.getElem?_eq_none (by simpa using h)]
    rfl
theorem g_len2 (w : va_W) : (List.range w.length).filterMap (fun i => w[i]?) = w := by
  have h : ∀ (l : List Nat), l.filterMap (fun i => w[i]?) = (l.map (fun i => w[i]?)).filterMap id := by
    intro l
    rw [List.filterMap_map]
    rfl
  rw [h, g_len, List.filterMap_map]
  simp
theorem g_nd : ∀ (l : List Nat), l.Nodup → va_nd l = true
  | [], _ => rfl
  | b :: l, h => by
    have h1 := List.nodup_cons.mp h
    simp only [va_nd, Bool.and_eq_true, decide_eq_true_eq]
    exact ⟨h1.1, g_nd l h1.2⟩
/-- calls that hand over all cells -/
theorem g_callSf {y : MethodName} {bytes : ByteArray} {maxL ix mc1 ms1 : Nat} {ret : Option FieldType} {wy wy' : List Cond} {rm : Room} {post1 : Option Value → va_W → Prop} {As rest : List Value} {cl : List vw_C} {tys : List (ClassId × FieldType)} {ws : va_W} (nn : Nat) (hg : GoodIn Ts (va_wsS own ix y wy)) (hw : wy = Cond.code y bytes maxL ret :: wy') (hrc : rm.cells = mc1) (hrs : rm.slots = ms1) (hR1 : rm.frames + 1 ≤ R.frames ∧ 8 + (maxL + 11) + rm.locals ≤ R.locals) (hcs : k + mc1 ≤ R.cells ∧ n + ms1 ≤ R.slots) (hst : (rest.map fun v => v.category).sum ≤ 8) (hdn : y.cls ≠ "java/lang/invoke/MethodHandle" ∧ y.cls ≠ "java/lang/invoke/VarHandle" ∧ (parseMethodDescriptor y.desc).map (fun d => d.parameters.length) = some nn) (hn : As.length = nn) (hd : decode cc pc = .ok (.invokestatic ix, 3)) (hct : Ct Γ.2.1 D cl tys y wy rm mc1 ms1 As ws post1) (hstk : st = As.reverse ++ rest)
    (kk : ∀ (v : Option Value) (w1 : va_W), post1 v w1 → G Γ R cc own Ts nL D cl tys mc ms post (k + mc1) (n + ms1) w1 (pc + 3) lv (v.toList ++ rest)) : G Γ R cc own Ts nL D cl tys mc ms post k n ws pc lv st :=
  g_callS nn hg hw hrc hrs hR1 hcs hst hdn hn (List.range ws.length) [] ws [] (g_len ws) (g_len2 ws) (g_nd _ List.nodup_range) rfl rfl (fun _ h => by cases h) hd hct hstk kk
theorem g_callVf {y : MethodName} {bytes : ByteArray} {maxL ix mc1 ms1 : Nat} {ret : Option FieldType} {wy wy' : List Cond} {rm : Room} {post1 : Option Value → va_W → Prop} {As rest : List Value} {cl : List vw_C} {tys : List (ClassId × FieldType)} {ws : va_W} {C : String} {b ci : Nat} {T : u_T} {N : Nat} {fs : List Value} (nn q0 : Nat) (hg : GoodIn Ts (wsV own ix C y wy)) (hw : wy = Cond.code y bytes maxL ret :: wy') (hrc : rm.cells = mc1) (hrs : rm.slots = ms1) (hR1 : rm.frames + 1 ≤ R.frames ∧ 8 + (maxL + 11) + rm.locals ≤ R.locals) (hcs : k + mc1 ≤ R.cells ∧ n + ms1 ≤ R.slots) (hst : (rest.map fun v => v.category).sum ≤ 8) (hdn : y.cls = C ∧ y.cls ≠ "java/lang/invoke/MethodHandle" ∧ y.cls ≠ "java/lang/invoke/VarHandle" ∧ (parseMethodDescriptor y.desc).map (fun d => d.parameters.length) = some nn) (hn : As.length = nn) (he : ws[q0]? = some (b, .inr (ci, fs))) (hc : cl[ci]? = some (C, T, N)) (hd : decode cc pc = .ok (.invokevirtual ix, 3)) (hct : Ct Γ.2.1 D cl tys y wy rm mc1 ms1 (.ref b :: As) ws post1) (hstk : st = As.reverse ++ .ref b :: rest)
    (kk : ∀ (v : Option Value) (w1 : va_W), post1 v w1 → G Γ R cc own Ts nL D cl tys mc ms post (k + mc1) (n + ms1) w1 (pc + 3) lv (v.toList ++ rest)) : G Γ R cc own Ts nL D cl tys mc ms post k n ws pc lv st :=
  g_callV nn q0 hg hw hrc hrs hR1 hcs hst hdn hn he hc (List.range ws.length) [] ws [] (g_len ws) (g_len2 ws) (g_nd _ List.nodup_range) rfl rfl (fun _ h => by cases h) hd hct hstk kk
theorem vpi {i h : Int32} {N : Nat} (h0 : 0 ≤ i) (h1 : i ≤ h) (hN : h.toInt < N) : vp_in i N := by
  rw [vp_in_iff]
  rw [Int32.le_iff_toInt_le] at h0 h1
  have : (0 : Int32).toInt = 0 := by decide
  omega
def rmD (d : Nat) : Room := { frames := d, cells := 0, slots := 0, locals := 60 * d }
end MODEL
end
section
theorem dX9_init_0 : decode cX9_init 0 = .ok (.aload_n 0, 1) := by decide +kernel
theorem dX9_init_1 : decode cX9_init 1 = .ok (.invokespecial 3, 3) := by decide +kernel
theorem dX9_init_4 : decode cX9_init 4 = .ok (.aload_n 0, 1) := by decide +kernel
theorem dX9_init_5 : decode cX9_init 5 = .ok (.bipush 20, 2) := by decide +kernel
theorem dX9_init_7 : decode cX9_init 7 = .ok (.putfield 9, 3) := by decide +kernel
theorem dX9_init_10 : decode cX9_init 10 = .ok (.aload_n 0, 1) := by decide +kernel
theorem dX9_init_11 : decode cX9_init 11 = .ok (.iconst 5, 1) := by decide +kernel
theorem dX9_init_12 : decode cX9_init 12 = .ok (.newarray .int, 2) := by decide +kernel
theorem dX9_init_14 : decode cX9_init 14 = .ok (.putfield 13, 3) := by decide +kernel
theorem dX9_init_17 : decode cX9_init 17 = .ok (.aload_n 0, 1) := by decide +kernel
theorem dX9_init_18 : decode cX9_init 18 = .ok (.bipush 10, 2) := by decide +kernel
theorem dX9_init_20 : decode cX9_init 20 = .ok (.newarray .int, 2) := by decide +kernel
theorem dX9_init_22 : decode cX9_init 22 = .ok (.putfield 17, 3) := by decide +kernel
theorem dX9_init_25 : decode cX9_init 25 = .ok (.aload_n 0, 1) := by decide +kernel
theorem dX9_init_26 : decode cX9_init 26 = .ok (.bipush 40, 2) := by decide +kernel
theorem dX9_init_28 : decode cX9_init 28 = .ok (.newarray .int, 2) := by decide +kernel
theorem dX9_init_30 : decode cX9_init 30 = .ok (.putfield 20, 3) := by decide +kernel
theorem dX9_init_33 : decode cX9_init 33 = .ok (.aload_n 0, 1) := by decide +kernel
theorem dX9_init_34 : decode cX9_init 34 = .ok (.bipush 40, 2) := by decide +kernel
theorem dX9_init_36 : decode cX9_init 36 = .ok (.newarray .int, 2) := by decide +kernel
theorem dX9_init_38 : decode cX9_init 38 = .ok (.putfield 23, 3) := by decide +kernel
theorem dX9_init_41 : decode cX9_init 41 = .ok (.aload_n 0, 1) := by decide +kernel
theorem dX9_init_42 : decode cX9_init 42 = .ok (.bipush 40, 2) := by decide +kernel
theorem dX9_init_44 : decode cX9_init 44 = .ok (.newarray .int, 2) := by decide +kernel
theorem dX9_init_46 : decode cX9_init 46 = .ok (.putfield 26, 3) := by decide +kernel
theorem dX9_init_49 : decode cX9_init 49 = .ok (.aload_n 0, 1) := by decide +kernel
theorem dX9_init_50 : decode cX9_init 50 = .ok (.bipush 40, 2) := by decide +kernel
theorem dX9_init_52 : decode cX9_init 52 = .ok (.newarray .int, 2) := by decide +kernel
theorem dX9_init_54 : decode cX9_init 54 = .ok (.putfield 29, 3) := by decide +kernel
theorem dX9_init_57 : decode cX9_init 57 = .ok (.aload_n 0, 1) := by decide +kernel
theorem dX9_init_58 : decode cX9_init 58 = .ok (.bipush 40, 2) := by decide +kernel
theorem dX9_init_60 : decode cX9_init 60 = .ok (.newarray .int, 2) := by decide +kernel
theorem dX9_init_62 : decode cX9_init 62 = .ok (.putfield 32, 3) := by decide +kernel
theorem dX9_init_65 : decode cX9_init 65 = .ok (.aload_n 0, 1) := by decide +kernel
theorem dX9_init_66 : decode cX9_init 66 = .ok (.bipush 40, 2) := by decide +kernel
theorem dX9_init_68 : decode cX9_init 68 = .ok (.newarray .int, 2) := by decide +kernel
theorem dX9_init_70 : decode cX9_init 70 = .ok (.putfield 35, 3) := by decide +kernel
theorem dX9_init_73 : decode cX9_init 73 = .ok (.aload_n 0, 1) := by decide +kernel
theorem dX9_init_74 : decode cX9_init 74 = .ok (.bipush 40, 2) := by decide +kernel
theorem dX9_init_76 : decode cX9_init 76 = .ok (.newarray .int, 2) := by decide +kernel
theorem dX9_init_78 : decode cX9_init 78 = .ok (.putfield 38, 3) := by decide +kernel
theorem dX9_init_81 : decode cX9_init 81 = .ok (.aload_n 0, 1) := by decide +kernel
theorem dX9_init_82 : decode cX9_init 82 = .ok (.sipush 160, 3) := by decide +kernel
theorem dX9_init_85 : decode cX9_init 85 = .ok (.newarray .int, 2) := by decide +kernel
theorem dX9_init_87 : decode cX9_init 87 = .ok (.putfield 41, 3) := by decide +kernel
theorem dX9_init_90 : decode cX9_init 90 = .ok (.aload_n 0, 1) := by decide +kernel
theorem dX9_init_91 : decode cX9_init 91 = .ok (.sipush 200, 3) := by decide +kernel
theorem dX9_init_94 : decode cX9_init 94 = .ok (.newarray .long, 2) := by decide +kernel
theorem dX9_init_96 : decode cX9_init 96 = .ok (.putfield 44, 3) := by decide +kernel
theorem dX9_init_99 : decode cX9_init 99 = .ok (.aload_n 0, 1) := by decide +kernel
theorem dX9_init_100 : decode cX9_init 100 = .ok (.bipush 40, 2) := by decide +kernel
theorem dX9_init_102 : decode cX9_init 102 = .ok (.newarray .boolean, 2) := by decide +kernel
theorem dX9_init_104 : decode cX9_init 104 = .ok (.putfield 48, 3) := by decide +kernel
theorem dX9_init_107 : decode cX9_init 107 = .ok (.aload_n 0, 1) := by decide +kernel
theorem dX9_init_108 : decode cX9_init 108 = .ok (.bipush 100, 2) := by decide +kernel
theorem dX9_init_110 : decode cX9_init 110 = .ok (.newarray .long, 2) := by decide +kernel
theorem dX9_init_112 : decode cX9_init 112 = .ok (.putfield 52, 3) := by decide +kernel
theorem dX9_init_115 : decode cX9_init 115 = .ok (.aload_n 0, 1) := by decide +kernel
theorem dX9_init_116 : decode cX9_init 116 = .ok (.iconst 4, 1) := by decide +kernel
theorem dX9_init_117 : decode cX9_init 117 = .ok (.newarray .int, 2) := by decide +kernel
theorem dX9_init_119 : decode cX9_init 119 = .ok (.putfield 55, 3) := by decide +kernel
theorem dX9_init_122 : decode cX9_init 122 = .ok (.aload_n 0, 1) := by decide +kernel
theorem dX9_init_123 : decode cX9_init 123 = .ok (.bipush 40, 2) := by decide +kernel
theorem dX9_init_125 : decode cX9_init 125 = .ok (.newarray .int, 2) := by decide +kernel
theorem dX9_init_127 : decode cX9_init 127 = .ok (.putfield 58, 3) := by decide +kernel
theorem dX9_init_130 : decode cX9_init 130 = .ok (.aload_n 0, 1) := by decide +kernel
theorem dX9_init_131 : decode cX9_init 131 = .ok (.bipush 50, 2) := by decide +kernel
theorem dX9_init_133 : decode cX9_init 133 = .ok (.newarray .int, 2) := by decide +kernel
theorem dX9_init_135 : decode cX9_init 135 = .ok (.putfield 61, 3) := by decide +kernel
theorem dX9_init_138 : decode cX9_init 138 = .ok (.aload_n 0, 1) := by decide +kernel
theorem dX9_init_139 : decode cX9_init 139 = .ok (.bipush 25, 2) := by decide +kernel
theorem dX9_init_141 : decode cX9_init 141 = .ok (.newarray .int, 2) := by decide +kernel
theorem dX9_init_143 : decode cX9_init 143 = .ok (.putfield 64, 3) := by decide +kernel
theorem dX9_init_146 : decode cX9_init 146 = .ok (.aload_n 0, 1) := by decide +kernel
theorem dX9_init_147 : decode cX9_init 147 = .ok (.bipush 30, 2) := by decide +kernel
theorem dX9_init_149 : decode cX9_init 149 = .ok (.newarray .int, 2) := by decide +kernel
theorem dX9_init_151 : decode cX9_init 151 = .ok (.putfield 67, 3) := by decide +kernel
theorem dX9_init_154 : decode cX9_init 154 = .ok (.aload_n 0, 1) := by decide +kernel
theorem dX9_init_155 : decode cX9_init 155 = .ok (.bipush 8, 2) := by decide +kernel
theorem dX9_init_157 : decode cX9_init 157 = .ok (.newarray .long, 2) := by decide +kernel
theorem dX9_init_159 : decode cX9_init 159 = .ok (.putfield 70, 3) := by decide +kernel
theorem dX9_init_162 : decode cX9_init 162 = .ok (.aload_n 0, 1) := by decide +kernel
theorem dX9_init_163 : decode cX9_init 163 = .ok (.bipush 8, 2) := by decide +kernel
theorem dX9_init_165 : decode cX9_init 165 = .ok (.newarray .boolean, 2) := by decide +kernel
theorem dX9_init_167 : decode cX9_init 167 = .ok (.putfield 73, 3) := by decide +kernel
theorem dX9_init_170 : decode cX9_init 170 = .ok (.aload_n 0, 1) := by decide +kernel
theorem dX9_init_171 : decode cX9_init 171 = .ok (.bipush 8, 2) := by decide +kernel
theorem dX9_init_173 : decode cX9_init 173 = .ok (.newarray .int, 2) := by decide +kernel
theorem dX9_init_175 : decode cX9_init 175 = .ok (.putfield 76, 3) := by decide +kernel
theorem dX9_init_178 : decode cX9_init 178 = .ok (.aload_n 0, 1) := by decide +kernel
theorem dX9_init_179 : decode cX9_init 179 = .ok (.bipush 32, 2) := by decide +kernel
theorem dX9_init_181 : decode cX9_init 181 = .ok (.newarray .int, 2) := by decide +kernel
theorem dX9_init_183 : decode cX9_init 183 = .ok (.putfield 79, 3) := by decide +kernel
theorem dX9_init_186 : decode cX9_init 186 = .ok (.aload_n 0, 1) := by decide +kernel
theorem dX9_init_187 : decode cX9_init 187 = .ok (.bipush 32, 2) := by decide +kernel
theorem dX9_init_189 : decode cX9_init 189 = .ok (.newarray .int, 2) := by decide +kernel
theorem dX9_init_191 : decode cX9_init 191 = .ok (.putfield 82, 3) := by decide +kernel
theorem dX9_init_194 : decode cX9_init 194 = .ok (.aload_n 0, 1) := by decide +kernel
theorem dX9_init_195 : decode cX9_init 195 = .ok (.bipush 32, 2) := by decide +kernel
theorem dX9_init_197 : decode cX9_init 197 = .ok (.newarray .int, 2) := by decide +kernel
theorem dX9_init_199 : decode cX9_init 199 = .ok (.putfield 85, 3) := by decide +kernel
theorem dX9_init_202 : decode cX9_init 202 = .ok (.aload_n 0, 1) := by decide +kernel
theorem dX9_init_203 : decode cX9_init 203 = .ok (.bipush 8, 2) := by decide +kernel
theorem dX9_init_205 : decode cX9_init 205 = .ok (.newarray .boolean, 2) := by decide +kernel
theorem dX9_init_207 : decode cX9_init 207 = .ok (.putfield 88, 3) := by decide +kernel
theorem dX9_init_210 : decode cX9_init 210 = .ok (.aload_n 0, 1) := by decide +kernel
theorem dX9_init_211 : decode cX9_init 211 = .ok (.bipush 8, 2) := by decide +kernel
theorem dX9_init_213 : decode cX9_init 213 = .ok (.newarray .int, 2) := by decide +kernel
theorem dX9_init_215 : decode cX9_init 215 = .ok (.putfield 91, 3) := by decide +kernel
theorem dX9_init_218 : decode cX9_init 218 = .ok (.aload_n 0, 1) := by decide +kernel
theorem dX9_init_219 : decode cX9_init 219 = .ok (.bipush 32, 2) := by decide +kernel
theorem dX9_init_221 : decode cX9_init 221 = .ok (.newarray .int, 2) := by decide +kernel
theorem dX9_init_223 : decode cX9_init 223 = .ok (.putfield 94, 3) := by decide +kernel
theorem dX9_init_226 : decode cX9_init 226 = .ok (.aload_n 0, 1) := by decide +kernel
theorem dX9_init_227 : decode cX9_init 227 = .ok (.bipush 32, 2) := by decide +kernel
theorem dX9_init_229 : decode cX9_init 229 = .ok (.newarray .int, 2) := by decide +kernel
theorem dX9_init_231 : decode cX9_init 231 = .ok (.putfield 97, 3) := by decide +kernel
theorem dX9_init_234 : decode cX9_init 234 = .ok (.aload_n 0, 1) := by decide +kernel
theorem dX9_init_235 : decode cX9_init 235 = .ok (.bipush 32, 2) := by decide +kernel
theorem dX9_init_237 : decode cX9_init 237 = .ok (.newarray .int, 2) := by decide +kernel
theorem dX9_init_239 : decode cX9_init 239 = .ok (.putfield 100, 3) := by decide +kernel
theorem dX9_init_242 : decode cX9_init 242 = .ok (.aload_n 0, 1) := by decide +kernel
theorem dX9_init_243 : decode cX9_init 243 = .ok (.sipush 400, 3) := by decide +kernel
theorem dX9_init_246 : decode cX9_init 246 = .ok (.newarray .int, 2) := by decide +kernel
theorem dX9_init_248 : decode cX9_init 248 = .ok (.putfield 103, 3) := by decide +kernel
theorem dX9_init_251 : decode cX9_init 251 = .ok (.aload_n 0, 1) := by decide +kernel
theorem dX9_init_252 : decode cX9_init 252 = .ok (.ldc2_w 106, 3) := by decide +kernel
theorem dX9_init_255 : decode cX9_init 255 = .ok (.putfield 108, 3) := by decide +kernel
theorem dX9_init_258 : decode cX9_init 258 = .ok (.aload_n 0, 1) := by decide +kernel
theorem dX9_init_259 : decode cX9_init 259 = .ok (.sipush 1024, 3) := by decide +kernel
theorem dX9_init_262 : decode cX9_init 262 = .ok (.newarray .long, 2) := by decide +kernel
theorem dX9_init_264 : decode cX9_init 264 = .ok (.putfield 112, 3) := by decide +kernel
theorem dX9_init_267 : decode cX9_init 267 = .ok (.aload_n 0, 1) := by decide +kernel
theorem dX9_init_268 : decode cX9_init 268 = .ok (.sipush 1024, 3) := by decide +kernel
theorem dX9_init_271 : decode cX9_init 271 = .ok (.newarray .int, 2) := by decide +kernel
theorem dX9_init_273 : decode cX9_init 273 = .ok (.putfield 115, 3) := by decide +kernel
theorem dX9_init_276 : decode cX9_init 276 = .ok (.aload_n 0, 1) := by decide +kernel
theorem dX9_init_277 : decode cX9_init 277 = .ok (.bipush 10, 2) := by decide +kernel
theorem dX9_init_279 : decode cX9_init 279 = .ok (.newarray .int, 2) := by decide +kernel
theorem dX9_init_281 : decode cX9_init 281 = .ok (.putfield 118, 3) := by decide +kernel
theorem dX9_init_284 : decode cX9_init 284 = .ok (.aload_n 0, 1) := by decide +kernel
theorem dX9_init_285 : decode cX9_init 285 = .ok (.bipush 10, 2) := by decide +kernel
theorem dX9_init_287 : decode cX9_init 287 = .ok (.newarray .int, 2) := by decide +kernel
theorem dX9_init_289 : decode cX9_init 289 = .ok (.putfield 121, 3) := by decide +kernel
theorem dX9_init_292 : decode cX9_init 292 = .ok (.aload_n 0, 1) := by decide +kernel
theorem dX9_init_293 : decode cX9_init 293 = .ok (.bipush 10, 2) := by decide +kernel
theorem dX9_init_295 : decode cX9_init 295 = .ok (.newarray .int, 2) := by decide +kernel
theorem dX9_init_297 : decode cX9_init 297 = .ok (.putfield 124, 3) := by decide +kernel
theorem dX9_init_300 : decode cX9_init 300 = .ok (.aload_n 0, 1) := by decide +kernel
theorem dX9_init_301 : decode cX9_init 301 = .ok (.bipush 10, 2) := by decide +kernel
theorem dX9_init_303 : decode cX9_init 303 = .ok (.newarray .long, 2) := by decide +kernel
theorem dX9_init_305 : decode cX9_init 305 = .ok (.putfield 127, 3) := by decide +kernel
theorem dX9_init_308 : decode cX9_init 308 = .ok (.aload_n 0, 1) := by decide +kernel
theorem dX9_init_309 : decode cX9_init 309 = .ok (.bipush 10, 2) := by decide +kernel
theorem dX9_init_311 : decode cX9_init 311 = .ok (.newarray .long, 2) := by decide +kernel
theorem dX9_init_313 : decode cX9_init 313 = .ok (.putfield 130, 3) := by decide +kernel
theorem dX9_init_316 : decode cX9_init 316 = .ok (.aload_n 0, 1) := by decide +kernel
theorem dX9_init_317 : decode cX9_init 317 = .ok (.bipush 10, 2) := by decide +kernel
theorem dX9_init_319 : decode cX9_init 319 = .ok (.newarray .long, 2) := by decide +kernel
theorem dX9_init_321 : decode cX9_init 321 = .ok (.putfield 133, 3) := by decide +kernel
theorem dX9_init_324 : decode cX9_init 324 = .ok (.aload_n 0, 1) := by decide +kernel
theorem dX9_init_325 : decode cX9_init 325 = .ok (.bipush 10, 2) := by decide +kernel
theorem dX9_init_327 : decode cX9_init 327 = .ok (.newarray .long, 2) := by decide +kernel
theorem dX9_init_329 : decode cX9_init 329 = .ok (.putfield 136, 3) := by decide +kernel
theorem dX9_init_332 : decode cX9_init 332 = .ok (.return_, 1) := by decide +kernel
theorem dX9_finding_0 : decode cX9_finding 0 = .ok (.aload_n 0, 1) := by decide +kernel
theorem dX9_finding_1 : decode cX9_finding 1 = .ok (.getfield 70, 3) := by decide +kernel
theorem dX9_finding_4 : decode cX9_finding 4 = .ok (.ldc2_w 139, 3) := by decide +kernel
theorem dX9_finding_7 : decode cX9_finding 7 = .ok (.lload_n 1, 1) := by decide +kernel
theorem dX9_finding_8 : decode cX9_finding 8 = .ok (.lsub, 1) := by decide +kernel
theorem dX9_finding_9 : decode cX9_finding 9 = .ok (.l2i, 1) := by decide +kernel
theorem dX9_finding_10 : decode cX9_finding 10 = .ok (.dup2, 1) := by decide +kernel
theorem dX9_finding_11 : decode cX9_finding 11 = .ok (.laload, 1) := by decide +kernel
theorem dX9_finding_12 : decode cX9_finding 12 = .ok (.lconst 1, 1) := by decide +kernel
theorem dX9_finding_13 : decode cX9_finding 13 = .ok (.ladd, 1) := by decide +kernel
theorem dX9_finding_14 : decode cX9_finding 14 = .ok (.lastore, 1) := by decide +kernel
theorem dX9_finding_15 : decode cX9_finding 15 = .ok (.lload_n 1, 1) := by decide +kernel
theorem dX9_finding_16 : decode cX9_finding 16 = .ok (.lreturn, 1) := by decide +kernel
theorem dX9_in_0 : decode cX9_in 0 = .ok (.iload_n 0, 1) := by decide +kernel
theorem dX9_in_1 : decode cX9_in 1 = .ok (.iload_n 1, 1) := by decide +kernel
theorem dX9_in_2 : decode cX9_in 2 = .ok (.if_icmp .lt 12, 3) := by decide +kernel
theorem dX9_in_5 : decode cX9_in 5 = .ok (.iload_n 0, 1) := by decide +kernel
theorem dX9_in_6 : decode cX9_in 6 = .ok (.iload_n 2, 1) := by decide +kernel
theorem dX9_in_7 : decode cX9_in 7 = .ok (.if_icmp .gt 7, 3) := by decide +kernel
theorem dX9_in_10 : decode cX9_in 10 = .ok (.iconst 1, 1) := by decide +kernel
theorem dX9_in_11 : decode cX9_in 11 = .ok (.goto 4, 3) := by decide +kernel
theorem dX9_in_14 : decode cX9_in 14 = .ok (.iconst 0, 1) := by decide +kernel
theorem dX9_in_15 : decode cX9_in 15 = .ok (.ireturn, 1) := by decide +kernel
set_option maxRecDepth 20000 in
theorem ggX9_isHouse_X9_in : GoodIn wsX9_isHouse wsX9_in := goodIn_r _ [4] (by decide +kernel) (by decide +kernel)
set_option maxRecDepth 20000 in
theorem gX9_isHouse_X9_in : GoodIn wsX9_isHouse (va_wsS RX9 141 yX9_in wsX9_in) := goodIn_app (goodIn_of _ (by decide +kernel)) ggX9_isHouse_X9_in
theorem dX9_isHouse_0 : decode cX9_isHouse 0 = .ok (.iload_n 0, 1) := by decide +kernel
theorem dX9_isHouse_1 : decode cX9_isHouse 1 = .ok (.iconst 0, 1) := by decide +kernel
theorem dX9_isHouse_2 : decode cX9_isHouse 2 = .ok (.bipush 9, 2) := by decide +kernel
theorem dX9_isHouse_4 : decode cX9_isHouse 4 = .ok (.invokestatic 141, 3) := by decide +kernel
theorem dX9_isHouse_7 : decode cX9_isHouse 7 = .ok (.ireturn, 1) := by decide +kernel
set_option maxRecDepth 20000 in
theorem ggX9_isTown_X9_in : GoodIn wsX9_isTown wsX9_in := goodIn_r _ [4] (by decide +kernel) (by decide +kernel)
set_option maxRecDepth 20000 in
theorem gX9_isTown_X9_in : GoodIn wsX9_isTown (va_wsS RX9 141 yX9_in wsX9_in) := goodIn_app (goodIn_of _ (by decide +kernel)) ggX9_isTown_X9_in
theorem dX9_isTown_0 : decode cX9_isTown 0 = .ok (.iload_n 0, 1) := by decide +kernel
theorem dX9_isTown_1 : decode cX9_isTown 1 = .ok (.iconst 0, 1) := by decide +kernel
theorem dX9_isTown_2 : decode cX9_isTown 2 = .ok (.iconst 4, 1) := by decide +kernel
theorem dX9_isTown_3 : decode cX9_isTown 3 = .ok (.invokestatic 141, 3) := by decide +kernel
theorem dX9_isTown_6 : decode cX9_isTown 6 = .ok (.ireturn, 1) := by decide +kernel
set_option maxRecDepth 20000 in
theorem ggX9_isBill_X9_in : GoodIn wsX9_isBill wsX9_in := goodIn_r _ [5] (by decide +kernel) (by decide +kernel)
set_option maxRecDepth 20000 in
theorem gX9_isBill_X9_in : GoodIn wsX9_isBill (va_wsS RX9 141 yX9_in wsX9_in) := goodIn_app (goodIn_of _ (by decide +kernel)) ggX9_isBill_X9_in
theorem dX9_isBill_0 : decode cX9_isBill 0 = .ok (.iload_n 1, 1) := by decide +kernel
theorem dX9_isBill_1 : decode cX9_isBill 1 = .ok (.iconst 0, 1) := by decide +kernel
theorem dX9_isBill_2 : decode cX9_isBill 2 = .ok (.aload_n 0, 1) := by decide +kernel
theorem dX9_isBill_3 : decode cX9_isBill 3 = .ok (.getfield 145, 3) := by decide +kernel
theorem dX9_isBill_6 : decode cX9_isBill 6 = .ok (.iconst 1, 1) := by decide +kernel
theorem dX9_isBill_7 : decode cX9_isBill 7 = .ok (.isub, 1) := by decide +kernel
theorem dX9_isBill_8 : decode cX9_isBill 8 = .ok (.invokestatic 141, 3) := by decide +kernel
theorem dX9_isBill_11 : decode cX9_isBill 11 = .ok (.ireturn, 1) := by decide +kernel
theorem dX9_carry_0 : decode cX9_carry 0 = .ok (.iconst 0, 1) := by decide +kernel
theorem dX9_carry_1 : decode cX9_carry 1 = .ok (.istore_n 1, 1) := by decide +kernel
theorem dX9_carry_2 : decode cX9_carry 2 = .ok (.iload_n 1, 1) := by decide +kernel
theorem dX9_carry_3 : decode cX9_carry 3 = .ok (.bipush 100, 2) := by decide +kernel
theorem dX9_carry_5 : decode cX9_carry 5 = .ok (.if_icmp .ge 41, 3) := by decide +kernel
theorem dX9_carry_8 : decode cX9_carry 8 = .ok (.aload_n 0, 1) := by decide +kernel
theorem dX9_carry_9 : decode cX9_carry 9 = .ok (.getfield 52, 3) := by decide +kernel
theorem dX9_carry_12 : decode cX9_carry 12 = .ok (.iload_n 1, 1) := by decide +kernel
theorem dX9_carry_13 : decode cX9_carry 13 = .ok (.laload, 1) := by decide +kernel
theorem dX9_carry_14 : decode cX9_carry 14 = .ok (.aload_n 0, 1) := by decide +kernel
theorem dX9_carry_15 : decode cX9_carry 15 = .ok (.getfield 52, 3) := by decide +kernel
theorem dX9_carry_18 : decode cX9_carry 18 = .ok (.iload_n 1, 1) := by decide +kernel
theorem dX9_carry_19 : decode cX9_carry 19 = .ok (.laload, 1) := by decide +kernel
theorem dX9_carry_20 : decode cX9_carry 20 = .ok (.aload_n 0, 1) := by decide +kernel
theorem dX9_carry_21 : decode cX9_carry 21 = .ok (.getfield 9, 3) := by decide +kernel
theorem dX9_carry_24 : decode cX9_carry 24 = .ok (.i2l, 1) := by decide +kernel
theorem dX9_carry_25 : decode cX9_carry 25 = .ok (.lmul, 1) := by decide +kernel
theorem dX9_carry_26 : decode cX9_carry 26 = .ok (.ldc2_w 148, 3) := by decide +kernel
theorem dX9_carry_29 : decode cX9_carry 29 = .ok (.ldiv, 1) := by decide +kernel
theorem dX9_carry_30 : decode cX9_carry 30 = .ok (.ladd, 1) := by decide +kernel
theorem dX9_carry_31 : decode cX9_carry 31 = .ok (.ldc2_w 150, 3) := by decide +kernel
theorem dX9_carry_34 : decode cX9_carry 34 = .ok (.lcmp, 1) := by decide +kernel
theorem dX9_carry_35 : decode cX9_carry 35 = .ok (.ifCond .le 5, 3) := by decide +kernel
theorem dX9_carry_38 : decode cX9_carry 38 = .ok (.iconst 0, 1) := by decide +kernel
theorem dX9_carry_39 : decode cX9_carry 39 = .ok (.ireturn, 1) := by decide +kernel
theorem dX9_carry_40 : decode cX9_carry 40 = .ok (.iinc 1 1, 3) := by decide +kernel
theorem dX9_carry_43 : decode cX9_carry 43 = .ok (.goto (-41), 3) := by decide +kernel
theorem dX9_carry_46 : decode cX9_carry 46 = .ok (.iconst 0, 1) := by decide +kernel
theorem dX9_carry_47 : decode cX9_carry 47 = .ok (.istore_n 1, 1) := by decide +kernel
theorem dX9_carry_48 : decode cX9_carry 48 = .ok (.iload_n 1, 1) := by decide +kernel
theorem dX9_carry_49 : decode cX9_carry 49 = .ok (.bipush 100, 2) := by decide +kernel
theorem dX9_carry_51 : decode cX9_carry 51 = .ok (.if_icmp .ge 34, 3) := by decide +kernel
theorem dX9_carry_54 : decode cX9_carry 54 = .ok (.aload_n 0, 1) := by decide +kernel
theorem dX9_carry_55 : decode cX9_carry 55 = .ok (.getfield 52, 3) := by decide +kernel
theorem dX9_carry_58 : decode cX9_carry 58 = .ok (.iload_n 1, 1) := by decide +kernel
theorem dX9_carry_59 : decode cX9_carry 59 = .ok (.dup2, 1) := by decide +kernel
theorem dX9_carry_60 : decode cX9_carry 60 = .ok (.laload, 1) := by decide +kernel
theorem dX9_carry_61 : decode cX9_carry 61 = .ok (.aload_n 0, 1) := by decide +kernel
theorem dX9_carry_62 : decode cX9_carry 62 = .ok (.getfield 52, 3) := by decide +kernel
theorem dX9_carry_65 : decode cX9_carry 65 = .ok (.iload_n 1, 1) := by decide +kernel
theorem dX9_carry_66 : decode cX9_carry 66 = .ok (.laload, 1) := by decide +kernel
theorem dX9_carry_67 : decode cX9_carry 67 = .ok (.aload_n 0, 1) := by decide +kernel
theorem dX9_carry_68 : decode cX9_carry 68 = .ok (.getfield 9, 3) := by decide +kernel
theorem dX9_carry_71 : decode cX9_carry 71 = .ok (.i2l, 1) := by decide +kernel
theorem dX9_carry_72 : decode cX9_carry 72 = .ok (.lmul, 1) := by decide +kernel
theorem dX9_carry_73 : decode cX9_carry 73 = .ok (.ldc2_w 148, 3) := by decide +kernel
theorem dX9_carry_76 : decode cX9_carry 76 = .ok (.ldiv, 1) := by decide +kernel
theorem dX9_carry_77 : decode cX9_carry 77 = .ok (.ladd, 1) := by decide +kernel
theorem dX9_carry_78 : decode cX9_carry 78 = .ok (.lastore, 1) := by decide +kernel
theorem dX9_carry_79 : decode cX9_carry 79 = .ok (.iinc 1 1, 3) := by decide +kernel
theorem dX9_carry_82 : decode cX9_carry 82 = .ok (.goto (-34), 3) := by decide +kernel
theorem dX9_carry_85 : decode cX9_carry 85 = .ok (.iconst 1, 1) := by decide +kernel
theorem dX9_carry_86 : decode cX9_carry 86 = .ok (.ireturn, 1) := by decide +kernel
set_option maxRecDepth 20000 in
theorem ggX9_days_X9_in : GoodIn wsX9_days wsX9_in := goodIn_r _ [9] (by decide +kernel) (by decide +kernel)
set_option maxRecDepth 20000 in
theorem gX9_days_X9_in : GoodIn wsX9_days (va_wsS RX9 141 yX9_in wsX9_in) := goodIn_app (goodIn_of _ (by decide +kernel)) ggX9_days_X9_in
set_option maxRecDepth 20000 in
theorem ggX9_days_X9_finding : GoodIn wsX9_days wsX9_finding := goodIn_r _ [13, 14, 15, 24, 25, 26, 27, 28, 29, 30, 31, 32, 33, 34, 35, 36, 37, 38, 39, 40, 41, 42, 43, 44, 45, 46, 47, 48, 49, 50, 51, 52, 53, 54, 55, 56, 57, 58, 59, 60, 61, 62, 63, 64, 65, 66, 67, 68, 69, 70, 71, 72, 73, 74, 75, 76, 77, 78] (by decide +kernel) (by decide +kernel)
set_option maxRecDepth 20000 in
theorem gX9_days_X9_finding : GoodIn wsX9_days (wsV RX9 154 RX9 yX9_finding wsX9_finding) := goodIn_app (goodIn_of _ (by decide +kernel)) ggX9_days_X9_finding
set_option maxRecDepth 20000 in
theorem ggX9_days_X9_carry : GoodIn wsX9_days wsX9_carry := goodIn_r _ [19, 20, 21, 22, 23, 24, 25, 26, 27, 28, 29, 30, 31, 32, 33, 34, 35, 36, 37, 38, 39, 40, 41, 42, 43, 44, 45, 46, 47, 48, 49, 50, 51, 52, 53, 54, 55, 56, 57, 58, 59, 60, 61, 62, 63, 64, 65, 66, 67, 68, 69, 70, 71, 72, 73, 74, 75, 76, 77, 78] (by decide +kernel) (by decide +kernel)
set_option maxRecDepth 20000 in
theorem gX9_days_X9_carry : GoodIn wsX9_days (wsV RX9 165 RX9 yX9_carry wsX9_carry) := goodIn_app (goodIn_of _ (by decide +kernel)) ggX9_days_X9_carry
theorem dX9_days_0 : decode cX9_days 0 = .ok (.iload_n 1, 1) := by decide +kernel
theorem dX9_days_1 : decode cX9_days 1 = .ok (.iconst 1, 1) := by decide +kernel
theorem dX9_days_2 : decode cX9_days 2 = .ok (.bipush 60, 2) := by decide +kernel
theorem dX9_days_4 : decode cX9_days 4 = .ok (.invokestatic 141, 3) := by decide +kernel
theorem dX9_days_7 : decode cX9_days 7 = .ok (.ifCond .ne 11, 3) := by decide +kernel
theorem dX9_days_10 : decode cX9_days 10 = .ok (.aload_n 0, 1) := by decide +kernel
theorem dX9_days_11 : decode cX9_days 11 = .ok (.ldc2_w 152, 3) := by decide +kernel
theorem dX9_days_14 : decode cX9_days 14 = .ok (.invokevirtual 154, 3) := by decide +kernel
theorem dX9_days_17 : decode cX9_days 17 = .ok (.lreturn, 1) := by decide +kernel
theorem dX9_days_18 : decode cX9_days 18 = .ok (.iconst 0, 1) := by decide +kernel
theorem dX9_days_19 : decode cX9_days 19 = .ok (.istore_n 2, 1) := by decide +kernel
theorem dX9_days_20 : decode cX9_days 20 = .ok (.iload_n 2, 1) := by decide +kernel
theorem dX9_days_21 : decode cX9_days 21 = .ok (.iload_n 1, 1) := by decide +kernel
theorem dX9_days_22 : decode cX9_days 22 = .ok (.if_icmp .ge 49, 3) := by decide +kernel
theorem dX9_days_25 : decode cX9_days 25 = .ok (.aload_n 0, 1) := by decide +kernel
theorem dX9_days_26 : decode cX9_days 26 = .ok (.getfield 158, 3) := by decide +kernel
theorem dX9_days_29 : decode cX9_days 29 = .ok (.ldc2_w 161, 3) := by decide +kernel
theorem dX9_days_32 : decode cX9_days 32 = .ok (.lrem, 1) := by decide +kernel
theorem dX9_days_33 : decode cX9_days 33 = .ok (.ldc2_w 163, 3) := by decide +kernel
theorem dX9_days_36 : decode cX9_days 36 = .ok (.lcmp, 1) := by decide +kernel
theorem dX9_days_37 : decode cX9_days 37 = .ok (.ifCond .ne 18, 3) := by decide +kernel
theorem dX9_days_40 : decode cX9_days 40 = .ok (.aload_n 0, 1) := by decide +kernel
theorem dX9_days_41 : decode cX9_days 41 = .ok (.invokevirtual 165, 3) := by decide +kernel
theorem dX9_days_44 : decode cX9_days 44 = .ok (.ifCond .ne 11, 3) := by decide +kernel
theorem dX9_days_47 : decode cX9_days 47 = .ok (.aload_n 0, 1) := by decide +kernel
theorem dX9_days_48 : decode cX9_days 48 = .ok (.ldc2_w 169, 3) := by decide +kernel
theorem dX9_days_51 : decode cX9_days 51 = .ok (.invokevirtual 154, 3) := by decide +kernel
theorem dX9_days_54 : decode cX9_days 54 = .ok (.lreturn, 1) := by decide +kernel
theorem dX9_days_55 : decode cX9_days 55 = .ok (.aload_n 0, 1) := by decide +kernel
theorem dX9_days_56 : decode cX9_days 56 = .ok (.dup, 1) := by decide +kernel
theorem dX9_days_57 : decode cX9_days 57 = .ok (.getfield 158, 3) := by decide +kernel
theorem dX9_days_60 : decode cX9_days 60 = .ok (.lconst 1, 1) := by decide +kernel
theorem dX9_days_61 : decode cX9_days 61 = .ok (.ladd, 1) := by decide +kernel
theorem dX9_days_62 : decode cX9_days 62 = .ok (.putfield 158, 3) := by decide +kernel
theorem dX9_days_65 : decode cX9_days 65 = .ok (.iinc 2 1, 3) := by decide +kernel
theorem dX9_days_68 : decode cX9_days 68 = .ok (.goto (-48), 3) := by decide +kernel
theorem dX9_days_71 : decode cX9_days 71 = .ok (.aload_n 0, 1) := by decide +kernel
theorem dX9_days_72 : decode cX9_days 72 = .ok (.getfield 158, 3) := by decide +kernel
theorem dX9_days_75 : decode cX9_days 75 = .ok (.lreturn, 1) := by decide +kernel
set_option maxRecDepth 20000 in
theorem ggX9_gain_X9_in : GoodIn wsX9_gain wsX9_in := goodIn_r _ [6] (by decide +kernel) (by decide +kernel)
set_option maxRecDepth 20000 in
theorem gX9_gain_X9_in : GoodIn wsX9_gain (va_wsS RX9 141 yX9_in wsX9_in) := goodIn_app (goodIn_of _ (by decide +kernel)) ggX9_gain_X9_in
set_option maxRecDepth 20000 in
theorem ggX9_gain_X9_finding : GoodIn wsX9_gain wsX9_finding := goodIn_r _ [10, 11, 12, 13, 14, 15, 16, 17, 18, 19, 20, 21, 22, 23, 24, 25, 26, 27, 28, 29, 30, 31, 32, 33, 34, 35, 36, 37, 38, 39, 40, 41, 42, 43, 44, 45, 46, 47, 48, 49, 50, 51, 52, 53, 54, 55, 56, 57, 58, 59, 60, 61, 62, 63, 64, 65, 66, 67] (by decide +kernel) (by decide +kernel)
set_option maxRecDepth 20000 in
theorem gX9_gain_X9_finding : GoodIn wsX9_gain (wsV RX9 154 RX9 yX9_finding wsX9_finding) := goodIn_app (goodIn_of _ (by decide +kernel)) ggX9_gain_X9_finding
theorem dX9_gain_0 : decode cX9_gain 0 = .ok (.iload_n 1, 1) := by decide +kernel
theorem dX9_gain_1 : decode cX9_gain 1 = .ok (.iconst 0, 1) := by decide +kernel
theorem dX9_gain_2 : decode cX9_gain 2 = .ok (.sipush 200, 3) := by decide +kernel
theorem dX9_gain_5 : decode cX9_gain 5 = .ok (.invokestatic 141, 3) := by decide +kernel
theorem dX9_gain_8 : decode cX9_gain 8 = .ok (.ifCond .ne 11, 3) := by decide +kernel
theorem dX9_gain_11 : decode cX9_gain 11 = .ok (.aload_n 0, 1) := by decide +kernel
theorem dX9_gain_12 : decode cX9_gain 12 = .ok (.ldc2_w 152, 3) := by decide +kernel
theorem dX9_gain_15 : decode cX9_gain 15 = .ok (.invokevirtual 154, 3) := by decide +kernel
theorem dX9_gain_18 : decode cX9_gain 18 = .ok (.lreturn, 1) := by decide +kernel
theorem dX9_gain_19 : decode cX9_gain 19 = .ok (.aload_n 0, 1) := by decide +kernel
theorem dX9_gain_20 : decode cX9_gain 20 = .ok (.getfield 9, 3) := by decide +kernel
theorem dX9_gain_23 : decode cX9_gain 23 = .ok (.istore_n 2, 1) := by decide +kernel
theorem dX9_gain_24 : decode cX9_gain 24 = .ok (.aload_n 0, 1) := by decide +kernel
theorem dX9_gain_25 : decode cX9_gain 25 = .ok (.iload_n 1, 1) := by decide +kernel
theorem dX9_gain_26 : decode cX9_gain 26 = .ok (.putfield 9, 3) := by decide +kernel
theorem dX9_gain_29 : decode cX9_gain 29 = .ok (.iload_n 2, 1) := by decide +kernel
theorem dX9_gain_30 : decode cX9_gain 30 = .ok (.i2l, 1) := by decide +kernel
theorem dX9_gain_31 : decode cX9_gain 31 = .ok (.lreturn, 1) := by decide +kernel
set_option maxRecDepth 20000 in
theorem ggX9_road_X9_in : GoodIn wsX9_road wsX9_in := goodIn_r _ [6] (by decide +kernel) (by decide +kernel)
set_option maxRecDepth 20000 in
theorem gX9_road_X9_in : GoodIn wsX9_road (va_wsS RX9 141 yX9_in wsX9_in) := goodIn_app (goodIn_of _ (by decide +kernel)) ggX9_road_X9_in
set_option maxRecDepth 20000 in
theorem ggX9_road_X9_finding : GoodIn wsX9_road wsX9_finding := goodIn_r _ [10, 11, 12, 13, 14, 15, 16, 17, 18, 19, 20, 21, 22, 23, 24, 25, 26, 27, 28, 29, 30, 31, 32, 33, 34, 35, 36, 37, 38, 39, 40, 41, 42, 43, 44, 45, 46, 47, 48, 49, 50, 51, 52, 53, 54, 55, 56, 57, 58, 59, 60, 61, 62, 63, 64, 65, 66, 67] (by decide +kernel) (by decide +kernel)
set_option maxRecDepth 20000 in
theorem gX9_road_X9_finding : GoodIn wsX9_road (wsV RX9 154 RX9 yX9_finding wsX9_finding) := goodIn_app (goodIn_of _ (by decide +kernel)) ggX9_road_X9_finding
theorem dX9_road_0 : decode cX9_road 0 = .ok (.iload_n 1, 1) := by decide +kernel
theorem dX9_road_1 : decode cX9_road 1 = .ok (.iconst 1, 1) := by decide +kernel
theorem dX9_road_2 : decode cX9_road 2 = .ok (.iconst 4, 1) := by decide +kernel
theorem dX9_road_3 : decode cX9_road 3 = .ok (.invokestatic 141, 3) := by decide +kernel
theorem dX9_road_6 : decode cX9_road 6 = .ok (.ifCond .eq 13, 3) := by decide +kernel
theorem dX9_road_9 : decode cX9_road 9 = .ok (.iload_n 2, 1) := by decide +kernel
theorem dX9_road_10 : decode cX9_road 10 = .ok (.iconst 0, 1) := by decide +kernel
theorem dX9_road_11 : decode cX9_road 11 = .ok (.bipush 30, 2) := by decide +kernel
theorem dX9_road_13 : decode cX9_road 13 = .ok (.invokestatic 141, 3) := by decide +kernel
theorem dX9_road_16 : decode cX9_road 16 = .ok (.ifCond .ne 11, 3) := by decide +kernel
theorem dX9_road_19 : decode cX9_road 19 = .ok (.aload_n 0, 1) := by decide +kernel
theorem dX9_road_20 : decode cX9_road 20 = .ok (.ldc2_w 152, 3) := by decide +kernel
theorem dX9_road_23 : decode cX9_road 23 = .ok (.invokevirtual 154, 3) := by decide +kernel
theorem dX9_road_26 : decode cX9_road 26 = .ok (.lreturn, 1) := by decide +kernel
theorem dX9_road_27 : decode cX9_road 27 = .ok (.aload_n 0, 1) := by decide +kernel
theorem dX9_road_28 : decode cX9_road 28 = .ok (.getfield 13, 3) := by decide +kernel
theorem dX9_road_31 : decode cX9_road 31 = .ok (.iload_n 1, 1) := by decide +kernel
theorem dX9_road_32 : decode cX9_road 32 = .ok (.iaload, 1) := by decide +kernel
theorem dX9_road_33 : decode cX9_road 33 = .ok (.istore_n 3, 1) := by decide +kernel
theorem dX9_road_34 : decode cX9_road 34 = .ok (.aload_n 0, 1) := by decide +kernel
theorem dX9_road_35 : decode cX9_road 35 = .ok (.getfield 13, 3) := by decide +kernel
theorem dX9_road_38 : decode cX9_road 38 = .ok (.iload_n 1, 1) := by decide +kernel
theorem dX9_road_39 : decode cX9_road 39 = .ok (.iload_n 2, 1) := by decide +kernel
theorem dX9_road_40 : decode cX9_road 40 = .ok (.iastore, 1) := by decide +kernel
theorem dX9_road_41 : decode cX9_road 41 = .ok (.iload_n 3, 1) := by decide +kernel
theorem dX9_road_42 : decode cX9_road 42 = .ok (.i2l, 1) := by decide +kernel
theorem dX9_road_43 : decode cX9_road 43 = .ok (.lreturn, 1) := by decide +kernel
set_option maxRecDepth 20000 in
theorem ggX9_seat_X9_isHouse : GoodIn wsX9_seat wsX9_isHouse := goodIn_r _ [6, 7, 8, 5, 9] (by decide +kernel) (by decide +kernel)
set_option maxRecDepth 20000 in
theorem gX9_seat_X9_isHouse : GoodIn wsX9_seat (va_wsS RX9 171 yX9_isHouse wsX9_isHouse) := goodIn_app (goodIn_of _ (by decide +kernel)) ggX9_seat_X9_isHouse
set_option maxRecDepth 20000 in
theorem ggX9_seat_X9_isTown : GoodIn wsX9_seat wsX9_isTown := goodIn_r _ [12, 7, 8, 5, 9] (by decide +kernel) (by decide +kernel)
set_option maxRecDepth 20000 in
theorem gX9_seat_X9_isTown : GoodIn wsX9_seat (va_wsS RX9 175 yX9_isTown wsX9_isTown) := goodIn_app (goodIn_of _ (by decide +kernel)) ggX9_seat_X9_isTown
set_option maxRecDepth 20000 in
theorem ggX9_seat_X9_finding : GoodIn wsX9_seat wsX9_finding := goodIn_r _ [16, 17, 18, 19, 20, 21, 22, 23, 24, 25, 26, 27, 28, 29, 30, 31, 32, 33, 34, 35, 36, 37, 38, 39, 40, 41, 42, 43, 44, 45, 46, 47, 48, 49, 50, 51, 52, 53, 54, 55, 56, 57, 58, 59, 60, 61, 62, 63, 64, 65, 66, 67, 68, 69, 70, 71, 72, 73] (by decide +kernel) (by decide +kernel)
set_option maxRecDepth 20000 in
theorem gX9_seat_X9_finding : GoodIn wsX9_seat (wsV RX9 154 RX9 yX9_finding wsX9_finding) := goodIn_app (goodIn_of _ (by decide +kernel)) ggX9_seat_X9_finding
theorem dX9_seat_0 : decode cX9_seat 0 = .ok (.iload_n 1, 1) := by decide +kernel
theorem dX9_seat_1 : decode cX9_seat 1 = .ok (.invokestatic 171, 3) := by decide +kernel
theorem dX9_seat_4 : decode cX9_seat 4 = .ok (.ifCond .eq 10, 3) := by decide +kernel
theorem dX9_seat_7 : decode cX9_seat 7 = .ok (.iload_n 2, 1) := by decide +kernel
theorem dX9_seat_8 : decode cX9_seat 8 = .ok (.invokestatic 175, 3) := by decide +kernel
theorem dX9_seat_11 : decode cX9_seat 11 = .ok (.ifCond .ne 11, 3) := by decide +kernel
theorem dX9_seat_14 : decode cX9_seat 14 = .ok (.aload_n 0, 1) := by decide +kernel
theorem dX9_seat_15 : decode cX9_seat 15 = .ok (.ldc2_w 152, 3) := by decide +kernel
theorem dX9_seat_18 : decode cX9_seat 18 = .ok (.invokevirtual 154, 3) := by decide +kernel
theorem dX9_seat_21 : decode cX9_seat 21 = .ok (.lreturn, 1) := by decide +kernel
theorem dX9_seat_22 : decode cX9_seat 22 = .ok (.aload_n 0, 1) := by decide +kernel
theorem dX9_seat_23 : decode cX9_seat 23 = .ok (.getfield 17, 3) := by decide +kernel
theorem dX9_seat_26 : decode cX9_seat 26 = .ok (.iload_n 1, 1) := by decide +kernel
theorem dX9_seat_27 : decode cX9_seat 27 = .ok (.iaload, 1) := by decide +kernel
theorem dX9_seat_28 : decode cX9_seat 28 = .ok (.istore_n 3, 1) := by decide +kernel
theorem dX9_seat_29 : decode cX9_seat 29 = .ok (.aload_n 0, 1) := by decide +kernel
theorem dX9_seat_30 : decode cX9_seat 30 = .ok (.getfield 17, 3) := by decide +kernel
theorem dX9_seat_33 : decode cX9_seat 33 = .ok (.iload_n 1, 1) := by decide +kernel
theorem dX9_seat_34 : decode cX9_seat 34 = .ok (.iload_n 2, 1) := by decide +kernel
theorem dX9_seat_35 : decode cX9_seat 35 = .ok (.iastore, 1) := by decide +kernel
theorem dX9_seat_36 : decode cX9_seat 36 = .ok (.iload_n 3, 1) := by decide +kernel
theorem dX9_seat_37 : decode cX9_seat 37 = .ok (.i2l, 1) := by decide +kernel
theorem dX9_seat_38 : decode cX9_seat 38 = .ok (.lreturn, 1) := by decide +kernel
theorem dX9_becomes_0 : decode cX9_becomes 0 = .ok (.aload_n 0, 1) := by decide +kernel
theorem dX9_becomes_1 : decode cX9_becomes 1 = .ok (.getfield 35, 3) := by decide +kernel
theorem dX9_becomes_4 : decode cX9_becomes 4 = .ok (.iload_n 1, 1) := by decide +kernel
theorem dX9_becomes_5 : decode cX9_becomes 5 = .ok (.iload_n 2, 1) := by decide +kernel
theorem dX9_becomes_6 : decode cX9_becomes 6 = .ok (.iastore, 1) := by decide +kernel
theorem dX9_becomes_7 : decode cX9_becomes 7 = .ok (.aload_n 0, 1) := by decide +kernel
theorem dX9_becomes_8 : decode cX9_becomes 8 = .ok (.getfield 44, 3) := by decide +kernel
theorem dX9_becomes_11 : decode cX9_becomes 11 = .ok (.iconst 5, 1) := by decide +kernel
theorem dX9_becomes_12 : decode cX9_becomes 12 = .ok (.iload_n 1, 1) := by decide +kernel
theorem dX9_becomes_13 : decode cX9_becomes 13 = .ok (.imul, 1) := by decide +kernel
theorem dX9_becomes_14 : decode cX9_becomes 14 = .ok (.iload_n 2, 1) := by decide +kernel
theorem dX9_becomes_15 : decode cX9_becomes 15 = .ok (.iadd, 1) := by decide +kernel
theorem dX9_becomes_16 : decode cX9_becomes 16 = .ok (.aload_n 0, 1) := by decide +kernel
theorem dX9_becomes_17 : decode cX9_becomes 17 = .ok (.getfield 158, 3) := by decide +kernel
theorem dX9_becomes_20 : decode cX9_becomes 20 = .ok (.lastore, 1) := by decide +kernel
theorem dX9_becomes_21 : decode cX9_becomes 21 = .ok (.return_, 1) := by decide +kernel
set_option maxRecDepth 20000 in
theorem ggX9_draw_X9_in : GoodIn wsX9_draw wsX9_in := goodIn_r _ [18] (by decide +kernel) (by decide +kernel)
set_option maxRecDepth 20000 in
theorem gX9_draw_X9_in : GoodIn wsX9_draw (va_wsS RX9 141 yX9_in wsX9_in) := goodIn_app (goodIn_of _ (by decide +kernel)) ggX9_draw_X9_in
set_option maxRecDepth 20000 in
theorem ggX9_draw_X9_isHouse : GoodIn wsX9_draw wsX9_isHouse := goodIn_r _ [21, 15, 16, 17, 18] (by decide +kernel) (by decide +kernel)
set_option maxRecDepth 20000 in
theorem gX9_draw_X9_isHouse : GoodIn wsX9_draw (va_wsS RX9 171 yX9_isHouse wsX9_isHouse) := goodIn_app (goodIn_of _ (by decide +kernel)) ggX9_draw_X9_isHouse
set_option maxRecDepth 20000 in
theorem ggX9_draw_X9_finding : GoodIn wsX9_draw wsX9_finding := goodIn_r _ [25, 26, 27, 34, 35, 36, 37, 38, 39, 40, 41, 42, 43, 44, 45, 46, 47, 48, 49, 50, 51, 52, 53, 54, 55, 56, 57, 58, 59, 60, 61, 62, 63, 64, 65, 66, 67, 68, 69, 70, 71, 72, 73, 74, 75, 76, 77, 78, 79, 80, 81, 82, 83, 84, 85, 86, 87, 88] (by decide +kernel) (by decide +kernel)
set_option maxRecDepth 20000 in
theorem gX9_draw_X9_finding : GoodIn wsX9_draw (wsV RX9 154 RX9 yX9_finding wsX9_finding) := goodIn_app (goodIn_of _ (by decide +kernel)) ggX9_draw_X9_finding
set_option maxRecDepth 20000 in
theorem ggX9_draw_X9_becomes : GoodIn wsX9_draw wsX9_becomes := goodIn_r _ [31, 32, 13, 33, 34, 35, 36, 37, 38, 39, 40, 41, 42, 43, 44, 45, 46, 47, 48, 49, 50, 51, 52, 53, 54, 55, 56, 57, 58, 59, 60, 61, 62, 63, 64, 65, 66, 67, 68, 69, 70, 71, 72, 73, 74, 75, 76, 77, 78, 79, 80, 81, 82, 83, 84, 85, 86, 87, 88] (by decide +kernel) (by decide +kernel)
set_option maxRecDepth 20000 in
theorem gX9_draw_X9_becomes : GoodIn wsX9_draw (wsV RX9 181 RX9 yX9_becomes wsX9_becomes) := goodIn_app (goodIn_of _ (by decide +kernel)) ggX9_draw_X9_becomes
theorem dX9_draw_0 : decode cX9_draw 0 = .ok (.iload_n 1, 1) := by decide +kernel
theorem dX9_draw_1 : decode cX9_draw 1 = .ok (.iconst 0, 1) := by decide +kernel
theorem dX9_draw_2 : decode cX9_draw 2 = .ok (.iconst 2, 1) := by decide +kernel
theorem dX9_draw_3 : decode cX9_draw 3 = .ok (.invokestatic 141, 3) := by decide +kernel
theorem dX9_draw_6 : decode cX9_draw 6 = .ok (.ifCond .eq 36, 3) := by decide +kernel
theorem dX9_draw_9 : decode cX9_draw 9 = .ok (.iload_n 2, 1) := by decide +kernel
theorem dX9_draw_10 : decode cX9_draw 10 = .ok (.invokestatic 171, 3) := by decide +kernel
theorem dX9_draw_13 : decode cX9_draw 13 = .ok (.ifCond .eq 29, 3) := by decide +kernel
theorem dX9_draw_16 : decode cX9_draw 16 = .ok (.iload_n 3, 1) := by decide +kernel
theorem dX9_draw_17 : decode cX9_draw 17 = .ok (.invokestatic 171, 3) := by decide +kernel
theorem dX9_draw_20 : decode cX9_draw 20 = .ok (.ifCond .eq 22, 3) := by decide +kernel
theorem dX9_draw_23 : decode cX9_draw 23 = .ok (.iload 4, 2) := by decide +kernel
theorem dX9_draw_25 : decode cX9_draw 25 = .ok (.invokestatic 171, 3) := by decide +kernel
theorem dX9_draw_28 : decode cX9_draw 28 = .ok (.ifCond .eq 14, 3) := by decide +kernel
theorem dX9_draw_31 : decode cX9_draw 31 = .ok (.iload 5, 2) := by decide +kernel
theorem dX9_draw_33 : decode cX9_draw 33 = .ok (.iconst 1, 1) := by decide +kernel
theorem dX9_draw_34 : decode cX9_draw 34 = .ok (.ldc 178, 2) := by decide +kernel
theorem dX9_draw_36 : decode cX9_draw 36 = .ok (.invokestatic 141, 3) := by decide +kernel
theorem dX9_draw_39 : decode cX9_draw 39 = .ok (.ifCond .ne 11, 3) := by decide +kernel
theorem dX9_draw_42 : decode cX9_draw 42 = .ok (.aload_n 0, 1) := by decide +kernel
theorem dX9_draw_43 : decode cX9_draw 43 = .ok (.ldc2_w 152, 3) := by decide +kernel
theorem dX9_draw_46 : decode cX9_draw 46 = .ok (.invokevirtual 154, 3) := by decide +kernel
theorem dX9_draw_49 : decode cX9_draw 49 = .ok (.lreturn, 1) := by decide +kernel
theorem dX9_draw_50 : decode cX9_draw 50 = .ok (.iload_n 2, 1) := by decide +kernel
theorem dX9_draw_51 : decode cX9_draw 51 = .ok (.iload 4, 2) := by decide +kernel
theorem dX9_draw_53 : decode cX9_draw 53 = .ok (.if_icmp .ne 11, 3) := by decide +kernel
theorem dX9_draw_56 : decode cX9_draw 56 = .ok (.aload_n 0, 1) := by decide +kernel
theorem dX9_draw_57 : decode cX9_draw 57 = .ok (.ldc2_w 179, 3) := by decide +kernel
theorem dX9_draw_60 : decode cX9_draw 60 = .ok (.invokevirtual 154, 3) := by decide +kernel
theorem dX9_draw_63 : decode cX9_draw 63 = .ok (.lreturn, 1) := by decide +kernel
theorem dX9_draw_64 : decode cX9_draw 64 = .ok (.aload_n 0, 1) := by decide +kernel
theorem dX9_draw_65 : decode cX9_draw 65 = .ok (.getfield 145, 3) := by decide +kernel
theorem dX9_draw_68 : decode cX9_draw 68 = .ok (.bipush 40, 2) := by decide +kernel
theorem dX9_draw_70 : decode cX9_draw 70 = .ok (.if_icmp .ne 11, 3) := by decide +kernel
theorem dX9_draw_73 : decode cX9_draw 73 = .ok (.aload_n 0, 1) := by decide +kernel
theorem dX9_draw_74 : decode cX9_draw 74 = .ok (.ldc2_w 169, 3) := by decide +kernel
theorem dX9_draw_77 : decode cX9_draw 77 = .ok (.invokevirtual 154, 3) := by decide +kernel
theorem dX9_draw_80 : decode cX9_draw 80 = .ok (.lreturn, 1) := by decide +kernel
theorem dX9_draw_81 : decode cX9_draw 81 = .ok (.aload_n 0, 1) := by decide +kernel
theorem dX9_draw_82 : decode cX9_draw 82 = .ok (.getfield 145, 3) := by decide +kernel
theorem dX9_draw_85 : decode cX9_draw 85 = .ok (.istore 6, 2) := by decide +kernel
theorem dX9_draw_87 : decode cX9_draw 87 = .ok (.aload_n 0, 1) := by decide +kernel
theorem dX9_draw_88 : decode cX9_draw 88 = .ok (.getfield 20, 3) := by decide +kernel
theorem dX9_draw_91 : decode cX9_draw 91 = .ok (.iload 6, 2) := by decide +kernel
theorem dX9_draw_93 : decode cX9_draw 93 = .ok (.iload_n 1, 1) := by decide +kernel
theorem dX9_draw_94 : decode cX9_draw 94 = .ok (.iastore, 1) := by decide +kernel
theorem dX9_draw_95 : decode cX9_draw 95 = .ok (.aload_n 0, 1) := by decide +kernel
theorem dX9_draw_96 : decode cX9_draw 96 = .ok (.getfield 23, 3) := by decide +kernel
theorem dX9_draw_99 : decode cX9_draw 99 = .ok (.iload 6, 2) := by decide +kernel
theorem dX9_draw_101 : decode cX9_draw 101 = .ok (.iload_n 2, 1) := by decide +kernel
theorem dX9_draw_102 : decode cX9_draw 102 = .ok (.iastore, 1) := by decide +kernel
theorem dX9_draw_103 : decode cX9_draw 103 = .ok (.aload_n 0, 1) := by decide +kernel
theorem dX9_draw_104 : decode cX9_draw 104 = .ok (.getfield 26, 3) := by decide +kernel
theorem dX9_draw_107 : decode cX9_draw 107 = .ok (.iload 6, 2) := by decide +kernel
theorem dX9_draw_109 : decode cX9_draw 109 = .ok (.iload_n 3, 1) := by decide +kernel
theorem dX9_draw_110 : decode cX9_draw 110 = .ok (.iastore, 1) := by decide +kernel
theorem dX9_draw_111 : decode cX9_draw 111 = .ok (.aload_n 0, 1) := by decide +kernel
theorem dX9_draw_112 : decode cX9_draw 112 = .ok (.getfield 29, 3) := by decide +kernel
theorem dX9_draw_115 : decode cX9_draw 115 = .ok (.iload 6, 2) := by decide +kernel
theorem dX9_draw_117 : decode cX9_draw 117 = .ok (.iload 4, 2) := by decide +kernel
theorem dX9_draw_119 : decode cX9_draw 119 = .ok (.iastore, 1) := by decide +kernel
theorem dX9_draw_120 : decode cX9_draw 120 = .ok (.aload_n 0, 1) := by decide +kernel
theorem dX9_draw_121 : decode cX9_draw 121 = .ok (.getfield 32, 3) := by decide +kernel
theorem dX9_draw_124 : decode cX9_draw 124 = .ok (.iload 6, 2) := by decide +kernel
theorem dX9_draw_126 : decode cX9_draw 126 = .ok (.iload 5, 2) := by decide +kernel
theorem dX9_draw_128 : decode cX9_draw 128 = .ok (.iastore, 1) := by decide +kernel
theorem dX9_draw_129 : decode cX9_draw 129 = .ok (.aload_n 0, 1) := by decide +kernel
theorem dX9_draw_130 : decode cX9_draw 130 = .ok (.getfield 38, 3) := by decide +kernel
theorem dX9_draw_133 : decode cX9_draw 133 = .ok (.iload 6, 2) := by decide +kernel
theorem dX9_draw_135 : decode cX9_draw 135 = .ok (.iconst 0, 1) := by decide +kernel
theorem dX9_draw_136 : decode cX9_draw 136 = .ok (.iastore, 1) := by decide +kernel
theorem dX9_draw_137 : decode cX9_draw 137 = .ok (.aload_n 0, 1) := by decide +kernel
theorem dX9_draw_138 : decode cX9_draw 138 = .ok (.getfield 48, 3) := by decide +kernel
theorem dX9_draw_141 : decode cX9_draw 141 = .ok (.iload 6, 2) := by decide +kernel
theorem dX9_draw_143 : decode cX9_draw 143 = .ok (.iconst 0, 1) := by decide +kernel
theorem dX9_draw_144 : decode cX9_draw 144 = .ok (.bastore, 1) := by decide +kernel
theorem dX9_draw_145 : decode cX9_draw 145 = .ok (.iconst 0, 1) := by decide +kernel
theorem dX9_draw_146 : decode cX9_draw 146 = .ok (.istore 7, 2) := by decide +kernel
theorem dX9_draw_148 : decode cX9_draw 148 = .ok (.iload 7, 2) := by decide +kernel
theorem dX9_draw_150 : decode cX9_draw 150 = .ok (.iconst 5, 1) := by decide +kernel
theorem dX9_draw_151 : decode cX9_draw 151 = .ok (.if_icmp .ge 24, 3) := by decide +kernel
theorem dX9_draw_154 : decode cX9_draw 154 = .ok (.aload_n 0, 1) := by decide +kernel
theorem dX9_draw_155 : decode cX9_draw 155 = .ok (.getfield 44, 3) := by decide +kernel
theorem dX9_draw_158 : decode cX9_draw 158 = .ok (.iconst 5, 1) := by decide +kernel
theorem dX9_draw_159 : decode cX9_draw 159 = .ok (.iload 6, 2) := by decide +kernel
theorem dX9_draw_161 : decode cX9_draw 161 = .ok (.imul, 1) := by decide +kernel
theorem dX9_draw_162 : decode cX9_draw 162 = .ok (.iload 7, 2) := by decide +kernel
theorem dX9_draw_164 : decode cX9_draw 164 = .ok (.iadd, 1) := by decide +kernel
theorem dX9_draw_165 : decode cX9_draw 165 = .ok (.ldc2_w 106, 3) := by decide +kernel
theorem dX9_draw_168 : decode cX9_draw 168 = .ok (.lastore, 1) := by decide +kernel
theorem dX9_draw_169 : decode cX9_draw 169 = .ok (.iinc 7 1, 3) := by decide +kernel
theorem dX9_draw_172 : decode cX9_draw 172 = .ok (.goto (-24), 3) := by decide +kernel
theorem dX9_draw_175 : decode cX9_draw 175 = .ok (.aload_n 0, 1) := by decide +kernel
theorem dX9_draw_176 : decode cX9_draw 176 = .ok (.iload 6, 2) := by decide +kernel
theorem dX9_draw_178 : decode cX9_draw 178 = .ok (.iconst 0, 1) := by decide +kernel
theorem dX9_draw_179 : decode cX9_draw 179 = .ok (.invokevirtual 181, 3) := by decide +kernel
theorem dX9_draw_182 : decode cX9_draw 182 = .ok (.aload_n 0, 1) := by decide +kernel
theorem dX9_draw_183 : decode cX9_draw 183 = .ok (.dup, 1) := by decide +kernel
theorem dX9_draw_184 : decode cX9_draw 184 = .ok (.getfield 145, 3) := by decide +kernel
theorem dX9_draw_187 : decode cX9_draw 187 = .ok (.iconst 1, 1) := by decide +kernel
theorem dX9_draw_188 : decode cX9_draw 188 = .ok (.iadd, 1) := by decide +kernel
theorem dX9_draw_189 : decode cX9_draw 189 = .ok (.putfield 145, 3) := by decide +kernel
theorem dX9_draw_192 : decode cX9_draw 192 = .ok (.iload 6, 2) := by decide +kernel
theorem dX9_draw_194 : decode cX9_draw 194 = .ok (.i2l, 1) := by decide +kernel
theorem dX9_draw_195 : decode cX9_draw 195 = .ok (.lreturn, 1) := by decide +kernel
set_option maxRecDepth 20000 in
theorem ggX9_pass_X9_isBill : GoodIn wsX9_pass wsX9_isBill := goodIn_r _ [14, 15, 16, 17, 13, 18, 28, 29, 30, 31, 32, 33, 34, 35, 36, 37, 38, 39, 40, 41, 42, 43, 44, 45, 46, 47, 48, 49, 50, 51, 52, 53, 54, 55, 56, 57, 58, 59, 60, 61, 62, 63, 64, 65, 66, 67, 68, 69, 70, 71, 72, 73, 74, 75, 76, 77, 78, 79, 80, 81, 82] (by decide +kernel) (by decide +kernel)
set_option maxRecDepth 20000 in
theorem gX9_pass_X9_isBill : GoodIn wsX9_pass (wsV RX9 185 RX9 yX9_isBill wsX9_isBill) := goodIn_app (goodIn_of _ (by decide +kernel)) ggX9_pass_X9_isBill
set_option maxRecDepth 20000 in
theorem ggX9_pass_X9_isHouse : GoodIn wsX9_pass wsX9_isHouse := goodIn_r _ [21, 16, 17, 13, 18] (by decide +kernel) (by decide +kernel)
set_option maxRecDepth 20000 in
theorem gX9_pass_X9_isHouse : GoodIn wsX9_pass (va_wsS RX9 171 yX9_isHouse wsX9_isHouse) := goodIn_app (goodIn_of _ (by decide +kernel)) ggX9_pass_X9_isHouse
set_option maxRecDepth 20000 in
theorem ggX9_pass_X9_finding : GoodIn wsX9_pass wsX9_finding := goodIn_r _ [25, 26, 27, 28, 29, 30, 31, 32, 33, 34, 35, 36, 37, 38, 39, 40, 41, 42, 43, 44, 45, 46, 47, 48, 49, 50, 51, 52, 53, 54, 55, 56, 57, 58, 59, 60, 61, 62, 63, 64, 65, 66, 67, 68, 69, 70, 71, 72, 73, 74, 75, 76, 77, 78, 79, 80, 81, 82] (by decide +kernel) (by decide +kernel)
set_option maxRecDepth 20000 in
theorem gX9_pass_X9_finding : GoodIn wsX9_pass (wsV RX9 154 RX9 yX9_finding wsX9_finding) := goodIn_app (goodIn_of _ (by decide +kernel)) ggX9_pass_X9_finding
theorem dX9_pass_0 : decode cX9_pass 0 = .ok (.aload_n 0, 1) := by decide +kernel
theorem dX9_pass_1 : decode cX9_pass 1 = .ok (.iload_n 1, 1) := by decide +kernel
theorem dX9_pass_2 : decode cX9_pass 2 = .ok (.invokevirtual 185, 3) := by decide +kernel
theorem dX9_pass_5 : decode cX9_pass 5 = .ok (.ifCond .eq 10, 3) := by decide +kernel
theorem dX9_pass_8 : decode cX9_pass 8 = .ok (.iload_n 2, 1) := by decide +kernel
theorem dX9_pass_9 : decode cX9_pass 9 = .ok (.invokestatic 171, 3) := by decide +kernel
theorem dX9_pass_12 : decode cX9_pass 12 = .ok (.ifCond .ne 11, 3) := by decide +kernel
theorem dX9_pass_15 : decode cX9_pass 15 = .ok (.aload_n 0, 1) := by decide +kernel
theorem dX9_pass_16 : decode cX9_pass 16 = .ok (.ldc2_w 152, 3) := by decide +kernel
theorem dX9_pass_19 : decode cX9_pass 19 = .ok (.invokevirtual 154, 3) := by decide +kernel
theorem dX9_pass_22 : decode cX9_pass 22 = .ok (.lreturn, 1) := by decide +kernel
theorem dX9_pass_23 : decode cX9_pass 23 = .ok (.aload_n 0, 1) := by decide +kernel
theorem dX9_pass_24 : decode cX9_pass 24 = .ok (.getfield 35, 3) := by decide +kernel
theorem dX9_pass_27 : decode cX9_pass 27 = .ok (.iload_n 1, 1) := by decide +kernel
theorem dX9_pass_28 : decode cX9_pass 28 = .ok (.iaload, 1) := by decide +kernel
theorem dX9_pass_29 : decode cX9_pass 29 = .ok (.ifCond .eq 21, 3) := by decide +kernel
theorem dX9_pass_32 : decode cX9_pass 32 = .ok (.aload_n 0, 1) := by decide +kernel
theorem dX9_pass_33 : decode cX9_pass 33 = .ok (.getfield 35, 3) := by decide +kernel
theorem dX9_pass_36 : decode cX9_pass 36 = .ok (.iload_n 1, 1) := by decide +kernel
theorem dX9_pass_37 : decode cX9_pass 37 = .ok (.iaload, 1) := by decide +kernel
theorem dX9_pass_38 : decode cX9_pass 38 = .ok (.iconst 1, 1) := by decide +kernel
theorem dX9_pass_39 : decode cX9_pass 39 = .ok (.if_icmp .eq 11, 3) := by decide +kernel
theorem dX9_pass_42 : decode cX9_pass 42 = .ok (.aload_n 0, 1) := by decide +kernel
theorem dX9_pass_43 : decode cX9_pass 43 = .ok (.ldc2_w 188, 3) := by decide +kernel
theorem dX9_pass_46 : decode cX9_pass 46 = .ok (.invokevirtual 154, 3) := by decide +kernel
theorem dX9_pass_49 : decode cX9_pass 49 = .ok (.lreturn, 1) := by decide +kernel
theorem dX9_pass_50 : decode cX9_pass 50 = .ok (.aload_n 0, 1) := by decide +kernel
theorem dX9_pass_51 : decode cX9_pass 51 = .ok (.getfield 29, 3) := by decide +kernel
theorem dX9_pass_54 : decode cX9_pass 54 = .ok (.iload_n 1, 1) := by decide +kernel
theorem dX9_pass_55 : decode cX9_pass 55 = .ok (.iaload, 1) := by decide +kernel
theorem dX9_pass_56 : decode cX9_pass 56 = .ok (.iload_n 2, 1) := by decide +kernel
theorem dX9_pass_57 : decode cX9_pass 57 = .ok (.if_icmp .ne 11, 3) := by decide +kernel
theorem dX9_pass_60 : decode cX9_pass 60 = .ok (.aload_n 0, 1) := by decide +kernel
theorem dX9_pass_61 : decode cX9_pass 61 = .ok (.ldc2_w 179, 3) := by decide +kernel
theorem dX9_pass_64 : decode cX9_pass 64 = .ok (.invokevirtual 154, 3) := by decide +kernel
theorem dX9_pass_67 : decode cX9_pass 67 = .ok (.lreturn, 1) := by decide +kernel
theorem dX9_pass_68 : decode cX9_pass 68 = .ok (.aload_n 0, 1) := by decide +kernel
theorem dX9_pass_69 : decode cX9_pass 69 = .ok (.getfield 20, 3) := by decide +kernel
theorem dX9_pass_72 : decode cX9_pass 72 = .ok (.iload_n 1, 1) := by decide +kernel
theorem dX9_pass_73 : decode cX9_pass 73 = .ok (.iaload, 1) := by decide +kernel
theorem dX9_pass_74 : decode cX9_pass 74 = .ok (.iconst 1, 1) := by decide +kernel
theorem dX9_pass_75 : decode cX9_pass 75 = .ok (.if_icmp .eq 52, 3) := by decide +kernel
theorem dX9_pass_78 : decode cX9_pass 78 = .ok (.aload_n 0, 1) := by decide +kernel
theorem dX9_pass_79 : decode cX9_pass 79 = .ok (.getfield 38, 3) := by decide +kernel
theorem dX9_pass_82 : decode cX9_pass 82 = .ok (.iload_n 1, 1) := by decide +kernel
theorem dX9_pass_83 : decode cX9_pass 83 = .ok (.iaload, 1) := by decide +kernel
theorem dX9_pass_84 : decode cX9_pass 84 = .ok (.iconst 4, 1) := by decide +kernel
theorem dX9_pass_85 : decode cX9_pass 85 = .ok (.if_icmp .ne 11, 3) := by decide +kernel
theorem dX9_pass_88 : decode cX9_pass 88 = .ok (.aload_n 0, 1) := by decide +kernel
theorem dX9_pass_89 : decode cX9_pass 89 = .ok (.ldc2_w 169, 3) := by decide +kernel
theorem dX9_pass_92 : decode cX9_pass 92 = .ok (.invokevirtual 154, 3) := by decide +kernel
theorem dX9_pass_95 : decode cX9_pass 95 = .ok (.lreturn, 1) := by decide +kernel
theorem dX9_pass_96 : decode cX9_pass 96 = .ok (.aload_n 0, 1) := by decide +kernel
theorem dX9_pass_97 : decode cX9_pass 97 = .ok (.getfield 41, 3) := by decide +kernel
theorem dX9_pass_100 : decode cX9_pass 100 = .ok (.iconst 4, 1) := by decide +kernel
theorem dX9_pass_101 : decode cX9_pass 101 = .ok (.iload_n 1, 1) := by decide +kernel
theorem dX9_pass_102 : decode cX9_pass 102 = .ok (.imul, 1) := by decide +kernel
theorem dX9_pass_103 : decode cX9_pass 103 = .ok (.aload_n 0, 1) := by decide +kernel
theorem dX9_pass_104 : decode cX9_pass 104 = .ok (.getfield 38, 3) := by decide +kernel
theorem dX9_pass_107 : decode cX9_pass 107 = .ok (.iload_n 1, 1) := by decide +kernel
theorem dX9_pass_108 : decode cX9_pass 108 = .ok (.iaload, 1) := by decide +kernel
theorem dX9_pass_109 : decode cX9_pass 109 = .ok (.iadd, 1) := by decide +kernel
theorem dX9_pass_110 : decode cX9_pass 110 = .ok (.aload_n 0, 1) := by decide +kernel
theorem dX9_pass_111 : decode cX9_pass 111 = .ok (.getfield 29, 3) := by decide +kernel
theorem dX9_pass_114 : decode cX9_pass 114 = .ok (.iload_n 1, 1) := by decide +kernel
theorem dX9_pass_115 : decode cX9_pass 115 = .ok (.iaload, 1) := by decide +kernel
theorem dX9_pass_116 : decode cX9_pass 116 = .ok (.iastore, 1) := by decide +kernel
theorem dX9_pass_117 : decode cX9_pass 117 = .ok (.aload_n 0, 1) := by decide +kernel
theorem dX9_pass_118 : decode cX9_pass 118 = .ok (.getfield 38, 3) := by decide +kernel
theorem dX9_pass_121 : decode cX9_pass 121 = .ok (.iload_n 1, 1) := by decide +kernel
theorem dX9_pass_122 : decode cX9_pass 122 = .ok (.dup2, 1) := by decide +kernel
theorem dX9_pass_123 : decode cX9_pass 123 = .ok (.iaload, 1) := by decide +kernel
theorem dX9_pass_124 : decode cX9_pass 124 = .ok (.iconst 1, 1) := by decide +kernel
theorem dX9_pass_125 : decode cX9_pass 125 = .ok (.iadd, 1) := by decide +kernel
theorem dX9_pass_126 : decode cX9_pass 126 = .ok (.iastore, 1) := by decide +kernel
theorem dX9_pass_127 : decode cX9_pass 127 = .ok (.aload_n 0, 1) := by decide +kernel
theorem dX9_pass_128 : decode cX9_pass 128 = .ok (.getfield 29, 3) := by decide +kernel
theorem dX9_pass_131 : decode cX9_pass 131 = .ok (.iload_n 1, 1) := by decide +kernel
theorem dX9_pass_132 : decode cX9_pass 132 = .ok (.iload_n 2, 1) := by decide +kernel
theorem dX9_pass_133 : decode cX9_pass 133 = .ok (.iastore, 1) := by decide +kernel
theorem dX9_pass_134 : decode cX9_pass 134 = .ok (.aload_n 0, 1) := by decide +kernel
theorem dX9_pass_135 : decode cX9_pass 135 = .ok (.getfield 38, 3) := by decide +kernel
theorem dX9_pass_138 : decode cX9_pass 138 = .ok (.iload_n 1, 1) := by decide +kernel
theorem dX9_pass_139 : decode cX9_pass 139 = .ok (.iaload, 1) := by decide +kernel
theorem dX9_pass_140 : decode cX9_pass 140 = .ok (.i2l, 1) := by decide +kernel
theorem dX9_pass_141 : decode cX9_pass 141 = .ok (.lreturn, 1) := by decide +kernel
theorem dX9_isEarly_0 : decode cX9_isEarly 0 = .ok (.aload_n 0, 1) := by decide +kernel
theorem dX9_isEarly_1 : decode cX9_isEarly 1 = .ok (.getfield 158, 3) := by decide +kernel
theorem dX9_isEarly_4 : decode cX9_isEarly 4 = .ok (.ldc2_w 161, 3) := by decide +kernel
theorem dX9_isEarly_7 : decode cX9_isEarly 7 = .ok (.lrem, 1) := by decide +kernel
theorem dX9_isEarly_8 : decode cX9_isEarly 8 = .ok (.ldc2_w 190, 3) := by decide +kernel
theorem dX9_isEarly_11 : decode cX9_isEarly 11 = .ok (.lcmp, 1) := by decide +kernel
theorem dX9_isEarly_12 : decode cX9_isEarly 12 = .ok (.ifCond .gt 7, 3) := by decide +kernel
theorem dX9_isEarly_15 : decode cX9_isEarly 15 = .ok (.iconst 1, 1) := by decide +kernel
theorem dX9_isEarly_16 : decode cX9_isEarly 16 = .ok (.goto 4, 3) := by decide +kernel
theorem dX9_isEarly_19 : decode cX9_isEarly 19 = .ok (.iconst 0, 1) := by decide +kernel
theorem dX9_isEarly_20 : decode cX9_isEarly 20 = .ok (.ireturn, 1) := by decide +kernel
set_option maxRecDepth 20000 in
theorem ggX9_take_X9_isBill : GoodIn wsX9_take wsX9_isBill := goodIn_r _ [9, 10, 11, 12, 8, 13, 32, 33, 34, 35, 36, 37, 38, 39, 40, 41, 42, 43, 44, 45, 46, 47, 48, 49, 50, 51, 52, 53, 54, 55, 56, 57, 58, 59, 60, 61, 62, 63, 64, 65, 66, 67, 68, 69, 70, 71, 72, 73, 74, 75, 76, 77, 78, 79, 80, 81, 82, 83, 84, 85, 86] (by decide +kernel) (by decide +kernel)
set_option maxRecDepth 20000 in
theorem gX9_take_X9_isBill : GoodIn wsX9_take (wsV RX9 185 RX9 yX9_isBill wsX9_isBill) := goodIn_app (goodIn_of _ (by decide +kernel)) ggX9_take_X9_isBill
set_option maxRecDepth 20000 in
theorem ggX9_take_X9_finding : GoodIn wsX9_take wsX9_finding := goodIn_r _ [17, 18, 19, 32, 33, 34, 35, 36, 37, 38, 39, 40, 41, 42, 43, 44, 45, 46, 47, 48, 49, 50, 51, 52, 53, 54, 55, 56, 57, 58, 59, 60, 61, 62, 63, 64, 65, 66, 67, 68, 69, 70, 71, 72, 73, 74, 75, 76, 77, 78, 79, 80, 81, 82, 83, 84, 85, 86] (by decide +kernel) (by decide +kernel)
set_option maxRecDepth 20000 in
theorem gX9_take_X9_finding : GoodIn wsX9_take (wsV RX9 154 RX9 yX9_finding wsX9_finding) := goodIn_app (goodIn_of _ (by decide +kernel)) ggX9_take_X9_finding
set_option maxRecDepth 20000 in
theorem ggX9_take_X9_isEarly : GoodIn wsX9_take wsX9_isEarly := goodIn_r _ [23, 24, 25, 26, 32, 33, 34, 35, 36, 37, 38, 39, 40, 41, 42, 43, 44, 45, 46, 47, 48, 49, 50, 51, 52, 53, 54, 55, 56, 57, 58, 59, 60, 61, 62, 63, 64, 65, 66, 67, 68, 69, 70, 71, 72, 73, 74, 75, 76, 77, 78, 79, 80, 81, 82, 83, 84, 85, 86] (by decide +kernel) (by decide +kernel)
set_option maxRecDepth 20000 in
theorem gX9_take_X9_isEarly : GoodIn wsX9_take (wsV RX9 192 RX9 yX9_isEarly wsX9_isEarly) := goodIn_app (goodIn_of _ (by decide +kernel)) ggX9_take_X9_isEarly
set_option maxRecDepth 20000 in
theorem ggX9_take_X9_becomes : GoodIn wsX9_take wsX9_becomes := goodIn_r _ [30, 2, 31, 24, 32, 33, 34, 35, 36, 37, 38, 39, 40, 41, 42, 43, 44, 45, 46, 47, 48, 49, 50, 51, 52, 53, 54, 55, 56, 57, 58, 59, 60, 61, 62, 63, 64, 65, 66, 67, 68, 69, 70, 71, 72, 73, 74, 75, 76, 77, 78, 79, 80, 81, 82, 83, 84, 85, 86] (by decide +kernel) (by decide +kernel)
set_option maxRecDepth 20000 in
theorem gX9_take_X9_becomes : GoodIn wsX9_take (wsV RX9 181 RX9 yX9_becomes wsX9_becomes) := goodIn_app (goodIn_of _ (by decide +kernel)) ggX9_take_X9_becomes
theorem dX9_take_0 : decode cX9_take 0 = .ok (.aload_n 0, 1) := by decide +kernel
theorem dX9_take_1 : decode cX9_take 1 = .ok (.iload_n 1, 1) := by decide +kernel
theorem dX9_take_2 : decode cX9_take 2 = .ok (.invokevirtual 185, 3) := by decide +kernel
theorem dX9_take_5 : decode cX9_take 5 = .ok (.ifCond .ne 11, 3) := by decide +kernel
theorem dX9_take_8 : decode cX9_take 8 = .ok (.aload_n 0, 1) := by decide +kernel
theorem dX9_take_9 : decode cX9_take 9 = .ok (.ldc2_w 152, 3) := by decide +kernel
theorem dX9_take_12 : decode cX9_take 12 = .ok (.invokevirtual 154, 3) := by decide +kernel
theorem dX9_take_15 : decode cX9_take 15 = .ok (.lreturn, 1) := by decide +kernel
theorem dX9_take_16 : decode cX9_take 16 = .ok (.aload_n 0, 1) := by decide +kernel
theorem dX9_take_17 : decode cX9_take 17 = .ok (.getfield 35, 3) := by decide +kernel
theorem dX9_take_20 : decode cX9_take 20 = .ok (.iload_n 1, 1) := by decide +kernel
theorem dX9_take_21 : decode cX9_take 21 = .ok (.iaload, 1) := by decide +kernel
theorem dX9_take_22 : decode cX9_take 22 = .ok (.ifCond .eq 11, 3) := by decide +kernel
theorem dX9_take_25 : decode cX9_take 25 = .ok (.aload_n 0, 1) := by decide +kernel
theorem dX9_take_26 : decode cX9_take 26 = .ok (.ldc2_w 188, 3) := by decide +kernel
theorem dX9_take_29 : decode cX9_take 29 = .ok (.invokevirtual 154, 3) := by decide +kernel
theorem dX9_take_32 : decode cX9_take 32 = .ok (.lreturn, 1) := by decide +kernel
theorem dX9_take_33 : decode cX9_take 33 = .ok (.aload_n 0, 1) := by decide +kernel
theorem dX9_take_34 : decode cX9_take 34 = .ok (.invokevirtual 192, 3) := by decide +kernel
theorem dX9_take_37 : decode cX9_take 37 = .ok (.ifCond .ne 11, 3) := by decide +kernel
theorem dX9_take_40 : decode cX9_take 40 = .ok (.aload_n 0, 1) := by decide +kernel
theorem dX9_take_41 : decode cX9_take 41 = .ok (.ldc2_w 195, 3) := by decide +kernel
theorem dX9_take_44 : decode cX9_take 44 = .ok (.invokevirtual 154, 3) := by decide +kernel
theorem dX9_take_47 : decode cX9_take 47 = .ok (.lreturn, 1) := by decide +kernel
theorem dX9_take_48 : decode cX9_take 48 = .ok (.aload_n 0, 1) := by decide +kernel
theorem dX9_take_49 : decode cX9_take 49 = .ok (.iload_n 1, 1) := by decide +kernel
theorem dX9_take_50 : decode cX9_take 50 = .ok (.iload_n 2, 1) := by decide +kernel
theorem dX9_take_51 : decode cX9_take 51 = .ok (.ifCond .eq 7, 3) := by decide +kernel
theorem dX9_take_54 : decode cX9_take 54 = .ok (.iconst 2, 1) := by decide +kernel
theorem dX9_take_55 : decode cX9_take 55 = .ok (.goto 4, 3) := by decide +kernel
theorem dX9_take_58 : decode cX9_take 58 = .ok (.iconst 1, 1) := by decide +kernel
theorem dX9_take_59 : decode cX9_take 59 = .ok (.invokevirtual 181, 3) := by decide +kernel
theorem dX9_take_62 : decode cX9_take 62 = .ok (.aload_n 0, 1) := by decide +kernel
theorem dX9_take_63 : decode cX9_take 63 = .ok (.getfield 35, 3) := by decide +kernel
theorem dX9_take_66 : decode cX9_take 66 = .ok (.iload_n 1, 1) := by decide +kernel
theorem dX9_take_67 : decode cX9_take 67 = .ok (.iaload, 1) := by decide +kernel
theorem dX9_take_68 : decode cX9_take 68 = .ok (.i2l, 1) := by decide +kernel
theorem dX9_take_69 : decode cX9_take 69 = .ok (.lreturn, 1) := by decide +kernel
theorem dX9_would_0 : decode cX9_would 0 = .ok (.aload_n 0, 1) := by decide +kernel
theorem dX9_would_1 : decode cX9_would 1 = .ok (.getfield 52, 3) := by decide +kernel
theorem dX9_would_4 : decode cX9_would 4 = .ok (.bipush 10, 2) := by decide +kernel
theorem dX9_would_6 : decode cX9_would 6 = .ok (.iload_n 1, 1) := by decide +kernel
theorem dX9_would_7 : decode cX9_would 7 = .ok (.imul, 1) := by decide +kernel
theorem dX9_would_8 : decode cX9_would 8 = .ok (.iload_n 2, 1) := by decide +kernel
theorem dX9_would_9 : decode cX9_would 9 = .ok (.iadd, 1) := by decide +kernel
theorem dX9_would_10 : decode cX9_would 10 = .ok (.laload, 1) := by decide +kernel
theorem dX9_would_11 : decode cX9_would 11 = .ok (.aload_n 0, 1) := by decide +kernel
theorem dX9_would_12 : decode cX9_would 12 = .ok (.getfield 52, 3) := by decide +kernel
theorem dX9_would_15 : decode cX9_would 15 = .ok (.bipush 10, 2) := by decide +kernel
theorem dX9_would_17 : decode cX9_would 17 = .ok (.iload_n 2, 1) := by decide +kernel
theorem dX9_would_18 : decode cX9_would 18 = .ok (.imul, 1) := by decide +kernel
theorem dX9_would_19 : decode cX9_would 19 = .ok (.iload_n 1, 1) := by decide +kernel
theorem dX9_would_20 : decode cX9_would 20 = .ok (.iadd, 1) := by decide +kernel
theorem dX9_would_21 : decode cX9_would 21 = .ok (.laload, 1) := by decide +kernel
theorem dX9_would_22 : decode cX9_would 22 = .ok (.lsub, 1) := by decide +kernel
theorem dX9_would_23 : decode cX9_would 23 = .ok (.lload_n 3, 1) := by decide +kernel
theorem dX9_would_24 : decode cX9_would 24 = .ok (.ladd, 1) := by decide +kernel
theorem dX9_would_25 : decode cX9_would 25 = .ok (.lreturn, 1) := by decide +kernel
set_option maxRecDepth 20000 in
theorem ggX9_isTooMuch_X9_would : GoodIn wsX9_isTooMuch wsX9_would := goodIn_r _ [7, 8, 9, 10, 11, 12, 13, 14, 15, 16, 17, 18, 19, 20, 21, 22, 23, 24, 25, 26, 27, 28, 29, 30, 31, 32, 33, 34, 35, 36, 37, 38, 39, 40, 41, 42, 43, 44, 45, 46, 47, 48, 49, 50, 51, 52, 53, 54, 55, 56, 57, 58, 59, 60, 61, 62, 63] (by decide +kernel) (by decide +kernel)
set_option maxRecDepth 20000 in
theorem gX9_isTooMuch_X9_would : GoodIn wsX9_isTooMuch (wsV RX9 197 RX9 yX9_would wsX9_would) := goodIn_app (goodIn_of _ (by decide +kernel)) ggX9_isTooMuch_X9_would
theorem dX9_isTooMuch_0 : decode cX9_isTooMuch 0 = .ok (.aload_n 0, 1) := by decide +kernel
theorem dX9_isTooMuch_1 : decode cX9_isTooMuch 1 = .ok (.iload_n 1, 1) := by decide +kernel
theorem dX9_isTooMuch_2 : decode cX9_isTooMuch 2 = .ok (.iload_n 2, 1) := by decide +kernel
theorem dX9_isTooMuch_3 : decode cX9_isTooMuch 3 = .ok (.lload_n 3, 1) := by decide +kernel
theorem dX9_isTooMuch_4 : decode cX9_isTooMuch 4 = .ok (.invokevirtual 197, 3) := by decide +kernel
theorem dX9_isTooMuch_7 : decode cX9_isTooMuch 7 = .ok (.lstore 5, 2) := by decide +kernel
theorem dX9_isTooMuch_9 : decode cX9_isTooMuch 9 = .ok (.iload_n 1, 1) := by decide +kernel
theorem dX9_isTooMuch_10 : decode cX9_isTooMuch 10 = .ok (.iload_n 2, 1) := by decide +kernel
theorem dX9_isTooMuch_11 : decode cX9_isTooMuch 11 = .ok (.if_icmp .eq 25, 3) := by decide +kernel
theorem dX9_isTooMuch_14 : decode cX9_isTooMuch 14 = .ok (.lload 5, 2) := by decide +kernel
theorem dX9_isTooMuch_16 : decode cX9_isTooMuch 16 = .ok (.ldc2_w 150, 3) := by decide +kernel
theorem dX9_isTooMuch_19 : decode cX9_isTooMuch 19 = .ok (.lcmp, 1) := by decide +kernel
theorem dX9_isTooMuch_20 : decode cX9_isTooMuch 20 = .ok (.ifCond .gt 12, 3) := by decide +kernel
theorem dX9_isTooMuch_23 : decode cX9_isTooMuch 23 = .ok (.lload 5, 2) := by decide +kernel
theorem dX9_isTooMuch_25 : decode cX9_isTooMuch 25 = .ok (.ldc2_w 201, 3) := by decide +kernel
theorem dX9_isTooMuch_28 : decode cX9_isTooMuch 28 = .ok (.lcmp, 1) := by decide +kernel
theorem dX9_isTooMuch_29 : decode cX9_isTooMuch 29 = .ok (.ifCond .ge 7, 3) := by decide +kernel
theorem dX9_isTooMuch_32 : decode cX9_isTooMuch 32 = .ok (.iconst 1, 1) := by decide +kernel
theorem dX9_isTooMuch_33 : decode cX9_isTooMuch 33 = .ok (.goto 4, 3) := by decide +kernel
theorem dX9_isTooMuch_36 : decode cX9_isTooMuch 36 = .ok (.iconst 0, 1) := by decide +kernel
theorem dX9_isTooMuch_37 : decode cX9_isTooMuch 37 = .ok (.ireturn, 1) := by decide +kernel
set_option maxRecDepth 20000 in
theorem ggX9_comesToOwe_X9_would : GoodIn wsX9_comesToOwe wsX9_would := goodIn_r _ [6, 1, 7, 8, 9, 10, 11, 12, 13, 14, 15, 16, 17, 18, 19, 20, 21, 22, 23, 24, 25, 26, 27, 28, 29, 30, 31, 32, 33, 34, 35, 36, 37, 38, 39, 40, 41, 42, 43, 44, 45, 46, 47, 48, 49, 50, 51, 52, 53, 54, 55, 56, 57, 58, 59, 60, 61] (by decide +kernel) (by decide +kernel)
set_option maxRecDepth 20000 in
theorem gX9_comesToOwe_X9_would : GoodIn wsX9_comesToOwe (wsV RX9 197 RX9 yX9_would wsX9_would) := goodIn_app (goodIn_of _ (by decide +kernel)) ggX9_comesToOwe_X9_would
theorem dX9_comesToOwe_0 : decode cX9_comesToOwe 0 = .ok (.iload_n 1, 1) := by decide +kernel
theorem dX9_comesToOwe_1 : decode cX9_comesToOwe 1 = .ok (.iload_n 2, 1) := by decide +kernel
theorem dX9_comesToOwe_2 : decode cX9_comesToOwe 2 = .ok (.if_icmp .ne 4, 3) := by decide +kernel
theorem dX9_comesToOwe_5 : decode cX9_comesToOwe 5 = .ok (.return_, 1) := by decide +kernel
theorem dX9_comesToOwe_6 : decode cX9_comesToOwe 6 = .ok (.aload_n 0, 1) := by decide +kernel
theorem dX9_comesToOwe_7 : decode cX9_comesToOwe 7 = .ok (.iload_n 1, 1) := by decide +kernel
theorem dX9_comesToOwe_8 : decode cX9_comesToOwe 8 = .ok (.iload_n 2, 1) := by decide +kernel
theorem dX9_comesToOwe_9 : decode cX9_comesToOwe 9 = .ok (.lload_n 3, 1) := by decide +kernel
theorem dX9_comesToOwe_10 : decode cX9_comesToOwe 10 = .ok (.invokevirtual 197, 3) := by decide +kernel
theorem dX9_comesToOwe_13 : decode cX9_comesToOwe 13 = .ok (.lstore 5, 2) := by decide +kernel
theorem dX9_comesToOwe_15 : decode cX9_comesToOwe 15 = .ok (.aload_n 0, 1) := by decide +kernel
theorem dX9_comesToOwe_16 : decode cX9_comesToOwe 16 = .ok (.getfield 52, 3) := by decide +kernel
theorem dX9_comesToOwe_19 : decode cX9_comesToOwe 19 = .ok (.bipush 10, 2) := by decide +kernel
theorem dX9_comesToOwe_21 : decode cX9_comesToOwe 21 = .ok (.iload_n 1, 1) := by decide +kernel
theorem dX9_comesToOwe_22 : decode cX9_comesToOwe 22 = .ok (.imul, 1) := by decide +kernel
theorem dX9_comesToOwe_23 : decode cX9_comesToOwe 23 = .ok (.iload_n 2, 1) := by decide +kernel
theorem dX9_comesToOwe_24 : decode cX9_comesToOwe 24 = .ok (.iadd, 1) := by decide +kernel
theorem dX9_comesToOwe_25 : decode cX9_comesToOwe 25 = .ok (.lload 5, 2) := by decide +kernel
theorem dX9_comesToOwe_27 : decode cX9_comesToOwe 27 = .ok (.lconst 0, 1) := by decide +kernel
theorem dX9_comesToOwe_28 : decode cX9_comesToOwe 28 = .ok (.lcmp, 1) := by decide +kernel
theorem dX9_comesToOwe_29 : decode cX9_comesToOwe 29 = .ok (.ifCond .le 8, 3) := by decide +kernel
theorem dX9_comesToOwe_32 : decode cX9_comesToOwe 32 = .ok (.lload 5, 2) := by decide +kernel
theorem dX9_comesToOwe_34 : decode cX9_comesToOwe 34 = .ok (.goto 4, 3) := by decide +kernel
theorem dX9_comesToOwe_37 : decode cX9_comesToOwe 37 = .ok (.lconst 0, 1) := by decide +kernel
theorem dX9_comesToOwe_38 : decode cX9_comesToOwe 38 = .ok (.lastore, 1) := by decide +kernel
theorem dX9_comesToOwe_39 : decode cX9_comesToOwe 39 = .ok (.aload_n 0, 1) := by decide +kernel
theorem dX9_comesToOwe_40 : decode cX9_comesToOwe 40 = .ok (.getfield 52, 3) := by decide +kernel
theorem dX9_comesToOwe_43 : decode cX9_comesToOwe 43 = .ok (.bipush 10, 2) := by decide +kernel
theorem dX9_comesToOwe_45 : decode cX9_comesToOwe 45 = .ok (.iload_n 2, 1) := by decide +kernel
theorem dX9_comesToOwe_46 : decode cX9_comesToOwe 46 = .ok (.imul, 1) := by decide +kernel
theorem dX9_comesToOwe_47 : decode cX9_comesToOwe 47 = .ok (.iload_n 1, 1) := by decide +kernel
theorem dX9_comesToOwe_48 : decode cX9_comesToOwe 48 = .ok (.iadd, 1) := by decide +kernel
theorem dX9_comesToOwe_49 : decode cX9_comesToOwe 49 = .ok (.lload 5, 2) := by decide +kernel
theorem dX9_comesToOwe_51 : decode cX9_comesToOwe 51 = .ok (.lconst 0, 1) := by decide +kernel
theorem dX9_comesToOwe_52 : decode cX9_comesToOwe 52 = .ok (.lcmp, 1) := by decide +kernel
theorem dX9_comesToOwe_53 : decode cX9_comesToOwe 53 = .ok (.ifCond .ge 9, 3) := by decide +kernel
theorem dX9_comesToOwe_56 : decode cX9_comesToOwe 56 = .ok (.lload 5, 2) := by decide +kernel
theorem dX9_comesToOwe_58 : decode cX9_comesToOwe 58 = .ok (.lneg, 1) := by decide +kernel
theorem dX9_comesToOwe_59 : decode cX9_comesToOwe 59 = .ok (.goto 4, 3) := by decide +kernel
theorem dX9_comesToOwe_62 : decode cX9_comesToOwe 62 = .ok (.lconst 0, 1) := by decide +kernel
theorem dX9_comesToOwe_63 : decode cX9_comesToOwe 63 = .ok (.lastore, 1) := by decide +kernel
theorem dX9_comesToOwe_64 : decode cX9_comesToOwe 64 = .ok (.return_, 1) := by decide +kernel
set_option maxRecDepth 20000 in
theorem ggX9_pay_X9_isBill : GoodIn wsX9_pay wsX9_isBill := goodIn_r _ [14, 15, 16, 17, 13, 18, 52, 53, 54, 55, 56, 57, 58, 59, 60, 61, 62, 63, 64, 65, 66, 67, 68, 69, 70, 71, 72, 73, 74, 75, 76, 77, 78, 79, 80, 81, 82, 83, 84, 85, 86, 87, 88, 89, 90, 91, 92, 93, 94, 95, 96, 97, 98, 99, 100, 101, 102, 103, 104, 105, 106] (by decide +kernel) (by decide +kernel)
set_option maxRecDepth 20000 in
theorem gX9_pay_X9_isBill : GoodIn wsX9_pay (wsV RX9 185 RX9 yX9_isBill wsX9_isBill) := goodIn_app (goodIn_of _ (by decide +kernel)) ggX9_pay_X9_isBill
set_option maxRecDepth 20000 in
theorem ggX9_pay_X9_finding : GoodIn wsX9_pay wsX9_finding := goodIn_r _ [22, 23, 24, 52, 53, 54, 55, 56, 57, 58, 59, 60, 61, 62, 63, 64, 65, 66, 67, 68, 69, 70, 71, 72, 73, 74, 75, 76, 77, 78, 79, 80, 81, 82, 83, 84, 85, 86, 87, 88, 89, 90, 91, 92, 93, 94, 95, 96, 97, 98, 99, 100, 101, 102, 103, 104, 105, 106] (by decide +kernel) (by decide +kernel)
set_option maxRecDepth 20000 in
theorem gX9_pay_X9_finding : GoodIn wsX9_pay (wsV RX9 154 RX9 yX9_finding wsX9_finding) := goodIn_app (goodIn_of _ (by decide +kernel)) ggX9_pay_X9_finding
set_option maxRecDepth 20000 in
theorem ggX9_pay_X9_isEarly : GoodIn wsX9_pay wsX9_isEarly := goodIn_r _ [28, 29, 30, 31, 52, 53, 54, 55, 56, 57, 58, 59, 60, 61, 62, 63, 64, 65, 66, 67, 68, 69, 70, 71, 72, 73, 74, 75, 76, 77, 78, 79, 80, 81, 82, 83, 84, 85, 86, 87, 88, 89, 90, 91, 92, 93, 94, 95, 96, 97, 98, 99, 100, 101, 102, 103, 104, 105, 106] (by decide +kernel) (by decide +kernel)
set_option maxRecDepth 20000 in
theorem gX9_pay_X9_isEarly : GoodIn wsX9_pay (wsV RX9 192 RX9 yX9_isEarly wsX9_isEarly) := goodIn_app (goodIn_of _ (by decide +kernel)) ggX9_pay_X9_isEarly
set_option maxRecDepth 20000 in
theorem ggX9_pay_X9_isTooMuch : GoodIn wsX9_pay wsX9_isTooMuch := goodIn_r _ [35, 36, 37, 38, 39, 40, 13, 41, 42, 52, 53, 54, 55, 56, 57, 58, 59, 60, 61, 62, 63, 64, 65, 66, 67, 68, 69, 70, 71, 72, 73, 74, 75, 76, 77, 78, 79, 80, 81, 82, 83, 84, 85, 86, 87, 88, 89, 90, 91, 92, 93, 94, 95, 96, 97, 98, 99, 100, 101, 102, 103, 104, 105, 106] (by decide +kernel) (by decide +kernel)
set_option maxRecDepth 20000 in
theorem gX9_pay_X9_isTooMuch : GoodIn wsX9_pay (wsV RX9 203 RX9 yX9_isTooMuch wsX9_isTooMuch) := goodIn_app (goodIn_of _ (by decide +kernel)) ggX9_pay_X9_isTooMuch
set_option maxRecDepth 20000 in
theorem ggX9_pay_X9_comesToOwe : GoodIn wsX9_pay wsX9_comesToOwe := goodIn_r _ [46, 42, 38, 39, 40, 13, 41, 52, 53, 54, 55, 56, 57, 58, 59, 60, 61, 62, 63, 64, 65, 66, 67, 68, 69, 70, 71, 72, 73, 74, 75, 76, 77, 78, 79, 80, 81, 82, 83, 84, 85, 86, 87, 88, 89, 90, 91, 92, 93, 94, 95, 96, 97, 98, 99, 100, 101, 102, 103, 104, 105, 106] (by decide +kernel) (by decide +kernel)
set_option maxRecDepth 20000 in
theorem gX9_pay_X9_comesToOwe : GoodIn wsX9_pay (wsV RX9 207 RX9 yX9_comesToOwe wsX9_comesToOwe) := goodIn_app (goodIn_of _ (by decide +kernel)) ggX9_pay_X9_comesToOwe
set_option maxRecDepth 20000 in
theorem ggX9_pay_X9_becomes : GoodIn wsX9_pay wsX9_becomes := goodIn_r _ [50, 2, 51, 29, 52, 53, 54, 55, 56, 57, 58, 59, 60, 61, 62, 63, 64, 65, 66, 67, 68, 69, 70, 71, 72, 73, 74, 75, 76, 77, 78, 79, 80, 81, 82, 83, 84, 85, 86, 87, 88, 89, 90, 91, 92, 93, 94, 95, 96, 97, 98, 99, 100, 101, 102, 103, 104, 105, 106] (by decide +kernel) (by decide +kernel)
set_option maxRecDepth 20000 in
theorem gX9_pay_X9_becomes : GoodIn wsX9_pay (wsV RX9 181 RX9 yX9_becomes wsX9_becomes) := goodIn_app (goodIn_of _ (by decide +kernel)) ggX9_pay_X9_becomes
theorem dX9_pay_0 : decode cX9_pay 0 = .ok (.aload_n 0, 1) := by decide +kernel
theorem dX9_pay_1 : decode cX9_pay 1 = .ok (.iload_n 1, 1) := by decide +kernel
theorem dX9_pay_2 : decode cX9_pay 2 = .ok (.invokevirtual 185, 3) := by decide +kernel
theorem dX9_pay_5 : decode cX9_pay 5 = .ok (.ifCond .ne 11, 3) := by decide +kernel
theorem dX9_pay_8 : decode cX9_pay 8 = .ok (.aload_n 0, 1) := by decide +kernel
theorem dX9_pay_9 : decode cX9_pay 9 = .ok (.ldc2_w 152, 3) := by decide +kernel
theorem dX9_pay_12 : decode cX9_pay 12 = .ok (.invokevirtual 154, 3) := by decide +kernel
theorem dX9_pay_15 : decode cX9_pay 15 = .ok (.lreturn, 1) := by decide +kernel
theorem dX9_pay_16 : decode cX9_pay 16 = .ok (.aload_n 0, 1) := by decide +kernel
theorem dX9_pay_17 : decode cX9_pay 17 = .ok (.getfield 35, 3) := by decide +kernel
theorem dX9_pay_20 : decode cX9_pay 20 = .ok (.iload_n 1, 1) := by decide +kernel
theorem dX9_pay_21 : decode cX9_pay 21 = .ok (.iaload, 1) := by decide +kernel
theorem dX9_pay_22 : decode cX9_pay 22 = .ok (.iconst 1, 1) := by decide +kernel
theorem dX9_pay_23 : decode cX9_pay 23 = .ok (.if_icmp .eq 11, 3) := by decide +kernel
theorem dX9_pay_26 : decode cX9_pay 26 = .ok (.aload_n 0, 1) := by decide +kernel
theorem dX9_pay_27 : decode cX9_pay 27 = .ok (.ldc2_w 188, 3) := by decide +kernel
theorem dX9_pay_30 : decode cX9_pay 30 = .ok (.invokevirtual 154, 3) := by decide +kernel
theorem dX9_pay_33 : decode cX9_pay 33 = .ok (.lreturn, 1) := by decide +kernel
theorem dX9_pay_34 : decode cX9_pay 34 = .ok (.aload_n 0, 1) := by decide +kernel
theorem dX9_pay_35 : decode cX9_pay 35 = .ok (.invokevirtual 192, 3) := by decide +kernel
theorem dX9_pay_38 : decode cX9_pay 38 = .ok (.ifCond .eq 11, 3) := by decide +kernel
theorem dX9_pay_41 : decode cX9_pay 41 = .ok (.aload_n 0, 1) := by decide +kernel
theorem dX9_pay_42 : decode cX9_pay 42 = .ok (.ldc2_w 195, 3) := by decide +kernel
theorem dX9_pay_45 : decode cX9_pay 45 = .ok (.invokevirtual 154, 3) := by decide +kernel
theorem dX9_pay_48 : decode cX9_pay 48 = .ok (.lreturn, 1) := by decide +kernel
theorem dX9_pay_49 : decode cX9_pay 49 = .ok (.aload_n 0, 1) := by decide +kernel
theorem dX9_pay_50 : decode cX9_pay 50 = .ok (.getfield 26, 3) := by decide +kernel
theorem dX9_pay_53 : decode cX9_pay 53 = .ok (.iload_n 1, 1) := by decide +kernel
theorem dX9_pay_54 : decode cX9_pay 54 = .ok (.iaload, 1) := by decide +kernel
theorem dX9_pay_55 : decode cX9_pay 55 = .ok (.istore_n 2, 1) := by decide +kernel
theorem dX9_pay_56 : decode cX9_pay 56 = .ok (.aload_n 0, 1) := by decide +kernel
theorem dX9_pay_57 : decode cX9_pay 57 = .ok (.getfield 29, 3) := by decide +kernel
theorem dX9_pay_60 : decode cX9_pay 60 = .ok (.iload_n 1, 1) := by decide +kernel
theorem dX9_pay_61 : decode cX9_pay 61 = .ok (.iaload, 1) := by decide +kernel
theorem dX9_pay_62 : decode cX9_pay 62 = .ok (.istore_n 3, 1) := by decide +kernel
theorem dX9_pay_63 : decode cX9_pay 63 = .ok (.aload_n 0, 1) := by decide +kernel
theorem dX9_pay_64 : decode cX9_pay 64 = .ok (.iload_n 2, 1) := by decide +kernel
theorem dX9_pay_65 : decode cX9_pay 65 = .ok (.iload_n 3, 1) := by decide +kernel
theorem dX9_pay_66 : decode cX9_pay 66 = .ok (.aload_n 0, 1) := by decide +kernel
theorem dX9_pay_67 : decode cX9_pay 67 = .ok (.getfield 32, 3) := by decide +kernel
theorem dX9_pay_70 : decode cX9_pay 70 = .ok (.iload_n 1, 1) := by decide +kernel
theorem dX9_pay_71 : decode cX9_pay 71 = .ok (.iaload, 1) := by decide +kernel
theorem dX9_pay_72 : decode cX9_pay 72 = .ok (.i2l, 1) := by decide +kernel
theorem dX9_pay_73 : decode cX9_pay 73 = .ok (.invokevirtual 203, 3) := by decide +kernel
theorem dX9_pay_76 : decode cX9_pay 76 = .ok (.ifCond .eq 11, 3) := by decide +kernel
theorem dX9_pay_79 : decode cX9_pay 79 = .ok (.aload_n 0, 1) := by decide +kernel
theorem dX9_pay_80 : decode cX9_pay 80 = .ok (.ldc2_w 169, 3) := by decide +kernel
theorem dX9_pay_83 : decode cX9_pay 83 = .ok (.invokevirtual 154, 3) := by decide +kernel
theorem dX9_pay_86 : decode cX9_pay 86 = .ok (.lreturn, 1) := by decide +kernel
theorem dX9_pay_87 : decode cX9_pay 87 = .ok (.aload_n 0, 1) := by decide +kernel
theorem dX9_pay_88 : decode cX9_pay 88 = .ok (.iload_n 2, 1) := by decide +kernel
theorem dX9_pay_89 : decode cX9_pay 89 = .ok (.iload_n 3, 1) := by decide +kernel
theorem dX9_pay_90 : decode cX9_pay 90 = .ok (.aload_n 0, 1) := by decide +kernel
theorem dX9_pay_91 : decode cX9_pay 91 = .ok (.getfield 32, 3) := by decide +kernel
theorem dX9_pay_94 : decode cX9_pay 94 = .ok (.iload_n 1, 1) := by decide +kernel
theorem dX9_pay_95 : decode cX9_pay 95 = .ok (.iaload, 1) := by decide +kernel
theorem dX9_pay_96 : decode cX9_pay 96 = .ok (.i2l, 1) := by decide +kernel
theorem dX9_pay_97 : decode cX9_pay 97 = .ok (.invokevirtual 207, 3) := by decide +kernel
theorem dX9_pay_100 : decode cX9_pay 100 = .ok (.aload_n 0, 1) := by decide +kernel
theorem dX9_pay_101 : decode cX9_pay 101 = .ok (.iload_n 1, 1) := by decide +kernel
theorem dX9_pay_102 : decode cX9_pay 102 = .ok (.iconst 4, 1) := by decide +kernel
theorem dX9_pay_103 : decode cX9_pay 103 = .ok (.invokevirtual 181, 3) := by decide +kernel
theorem dX9_pay_106 : decode cX9_pay 106 = .ok (.aload_n 0, 1) := by decide +kernel
theorem dX9_pay_107 : decode cX9_pay 107 = .ok (.getfield 48, 3) := by decide +kernel
theorem dX9_pay_110 : decode cX9_pay 110 = .ok (.iload_n 1, 1) := by decide +kernel
theorem dX9_pay_111 : decode cX9_pay 111 = .ok (.iconst 1, 1) := by decide +kernel
theorem dX9_pay_112 : decode cX9_pay 112 = .ok (.bastore, 1) := by decide +kernel
theorem dX9_pay_113 : decode cX9_pay 113 = .ok (.iload_n 2, 1) := by decide +kernel
theorem dX9_pay_114 : decode cX9_pay 114 = .ok (.iload_n 3, 1) := by decide +kernel
theorem dX9_pay_115 : decode cX9_pay 115 = .ok (.if_icmp .ne 7, 3) := by decide +kernel
theorem dX9_pay_118 : decode cX9_pay 118 = .ok (.lconst 0, 1) := by decide +kernel
theorem dX9_pay_119 : decode cX9_pay 119 = .ok (.goto 10, 3) := by decide +kernel
theorem dX9_pay_122 : decode cX9_pay 122 = .ok (.aload_n 0, 1) := by decide +kernel
theorem dX9_pay_123 : decode cX9_pay 123 = .ok (.getfield 32, 3) := by decide +kernel
theorem dX9_pay_126 : decode cX9_pay 126 = .ok (.iload_n 1, 1) := by decide +kernel
theorem dX9_pay_127 : decode cX9_pay 127 = .ok (.iaload, 1) := by decide +kernel
theorem dX9_pay_128 : decode cX9_pay 128 = .ok (.i2l, 1) := by decide +kernel
theorem dX9_pay_129 : decode cX9_pay 129 = .ok (.lreturn, 1) := by decide +kernel
set_option maxRecDepth 20000 in
theorem ggX9_protest_X9_isBill : GoodIn wsX9_protest wsX9_isBill := goodIn_r _ [10, 11, 12, 13, 9, 14, 25, 26, 27, 28, 29, 30, 31, 32, 33, 34, 35, 36, 37, 38, 39, 40, 41, 42, 43, 44, 45, 46, 47, 48, 49, 50, 51, 52, 53, 54, 55, 56, 57, 58, 59, 60, 61, 62, 63, 64, 65, 66, 67, 68, 69, 70, 71, 72, 73, 74, 75, 76, 77, 78, 79] (by decide +kernel) (by decide +kernel)
set_option maxRecDepth 20000 in
theorem gX9_protest_X9_isBill : GoodIn wsX9_protest (wsV RX9 185 RX9 yX9_isBill wsX9_isBill) := goodIn_app (goodIn_of _ (by decide +kernel)) ggX9_protest_X9_isBill
set_option maxRecDepth 20000 in
theorem ggX9_protest_X9_finding : GoodIn wsX9_protest wsX9_finding := goodIn_r _ [18, 19, 20, 25, 26, 27, 28, 29, 30, 31, 32, 33, 34, 35, 36, 37, 38, 39, 40, 41, 42, 43, 44, 45, 46, 47, 48, 49, 50, 51, 52, 53, 54, 55, 56, 57, 58, 59, 60, 61, 62, 63, 64, 65, 66, 67, 68, 69, 70, 71, 72, 73, 74, 75, 76, 77, 78, 79] (by decide +kernel) (by decide +kernel)
set_option maxRecDepth 20000 in
theorem gX9_protest_X9_finding : GoodIn wsX9_protest (wsV RX9 154 RX9 yX9_finding wsX9_finding) := goodIn_app (goodIn_of _ (by decide +kernel)) ggX9_protest_X9_finding
set_option maxRecDepth 20000 in
theorem ggX9_protest_X9_becomes : GoodIn wsX9_protest wsX9_becomes := goodIn_r _ [24, 2, 5, 4, 25, 26, 27, 28, 29, 30, 31, 32, 33, 34, 35, 36, 37, 38, 39, 40, 41, 42, 43, 44, 45, 46, 47, 48, 49, 50, 51, 52, 53, 54, 55, 56, 57, 58, 59, 60, 61, 62, 63, 64, 65, 66, 67, 68, 69, 70, 71, 72, 73, 74, 75, 76, 77, 78, 79] (by decide +kernel) (by decide +kernel)
set_option maxRecDepth 20000 in
theorem gX9_protest_X9_becomes : GoodIn wsX9_protest (wsV RX9 181 RX9 yX9_becomes wsX9_becomes) := goodIn_app (goodIn_of _ (by decide +kernel)) ggX9_protest_X9_becomes
theorem dX9_protest_0 : decode cX9_protest 0 = .ok (.aload_n 0, 1) := by decide +kernel
theorem dX9_protest_1 : decode cX9_protest 1 = .ok (.iload_n 1, 1) := by decide +kernel
theorem dX9_protest_2 : decode cX9_protest 2 = .ok (.invokevirtual 185, 3) := by decide +kernel
theorem dX9_protest_5 : decode cX9_protest 5 = .ok (.ifCond .ne 11, 3) := by decide +kernel
theorem dX9_protest_8 : decode cX9_protest 8 = .ok (.aload_n 0, 1) := by decide +kernel
theorem dX9_protest_9 : decode cX9_protest 9 = .ok (.ldc2_w 152, 3) := by decide +kernel
theorem dX9_protest_12 : decode cX9_protest 12 = .ok (.invokevirtual 154, 3) := by decide +kernel
theorem dX9_protest_15 : decode cX9_protest 15 = .ok (.lreturn, 1) := by decide +kernel
theorem dX9_protest_16 : decode cX9_protest 16 = .ok (.aload_n 0, 1) := by decide +kernel
theorem dX9_protest_17 : decode cX9_protest 17 = .ok (.getfield 35, 3) := by decide +kernel
theorem dX9_protest_20 : decode cX9_protest 20 = .ok (.iload_n 1, 1) := by decide +kernel
theorem dX9_protest_21 : decode cX9_protest 21 = .ok (.iaload, 1) := by decide +kernel
theorem dX9_protest_22 : decode cX9_protest 22 = .ok (.iconst 2, 1) := by decide +kernel
theorem dX9_protest_23 : decode cX9_protest 23 = .ok (.if_icmp .eq 11, 3) := by decide +kernel
theorem dX9_protest_26 : decode cX9_protest 26 = .ok (.aload_n 0, 1) := by decide +kernel
theorem dX9_protest_27 : decode cX9_protest 27 = .ok (.ldc2_w 188, 3) := by decide +kernel
theorem dX9_protest_30 : decode cX9_protest 30 = .ok (.invokevirtual 154, 3) := by decide +kernel
theorem dX9_protest_33 : decode cX9_protest 33 = .ok (.lreturn, 1) := by decide +kernel
theorem dX9_protest_34 : decode cX9_protest 34 = .ok (.aload_n 0, 1) := by decide +kernel
theorem dX9_protest_35 : decode cX9_protest 35 = .ok (.iload_n 1, 1) := by decide +kernel
theorem dX9_protest_36 : decode cX9_protest 36 = .ok (.iconst 3, 1) := by decide +kernel
theorem dX9_protest_37 : decode cX9_protest 37 = .ok (.invokevirtual 181, 3) := by decide +kernel
theorem dX9_protest_40 : decode cX9_protest 40 = .ok (.aload_n 0, 1) := by decide +kernel
theorem dX9_protest_41 : decode cX9_protest 41 = .ok (.getfield 158, 3) := by decide +kernel
theorem dX9_protest_44 : decode cX9_protest 44 = .ok (.aload_n 0, 1) := by decide +kernel
theorem dX9_protest_45 : decode cX9_protest 45 = .ok (.getfield 44, 3) := by decide +kernel
theorem dX9_protest_48 : decode cX9_protest 48 = .ok (.iconst 5, 1) := by decide +kernel
theorem dX9_protest_49 : decode cX9_protest 49 = .ok (.iload_n 1, 1) := by decide +kernel
theorem dX9_protest_50 : decode cX9_protest 50 = .ok (.imul, 1) := by decide +kernel
theorem dX9_protest_51 : decode cX9_protest 51 = .ok (.iconst 2, 1) := by decide +kernel
theorem dX9_protest_52 : decode cX9_protest 52 = .ok (.iadd, 1) := by decide +kernel
theorem dX9_protest_53 : decode cX9_protest 53 = .ok (.laload, 1) := by decide +kernel
theorem dX9_protest_54 : decode cX9_protest 54 = .ok (.lsub, 1) := by decide +kernel
theorem dX9_protest_55 : decode cX9_protest 55 = .ok (.lreturn, 1) := by decide +kernel
set_option maxRecDepth 20000 in
theorem ggX9_recourse_X9_isBill : GoodIn wsX9_recourse wsX9_isBill := goodIn_r _ [20, 21, 22, 23, 19, 24, 61, 62, 63, 64, 65, 66, 67, 68, 69, 70, 71, 72, 73, 74, 75, 76, 77, 78, 79, 80, 81, 82, 83, 84, 85, 86, 87, 88, 89, 90, 91, 92, 93, 94, 95, 96, 97, 98, 99, 100, 101, 102, 103, 104, 105, 106, 107, 108, 109, 110, 111, 112, 113, 114, 115] (by decide +kernel) (by decide +kernel)
set_option maxRecDepth 20000 in
theorem gX9_recourse_X9_isBill : GoodIn wsX9_recourse (wsV RX9 185 RX9 yX9_isBill wsX9_isBill) := goodIn_app (goodIn_of _ (by decide +kernel)) ggX9_recourse_X9_isBill
set_option maxRecDepth 20000 in
theorem ggX9_recourse_X9_finding : GoodIn wsX9_recourse wsX9_finding := goodIn_r _ [28, 29, 30, 61, 62, 63, 64, 65, 66, 67, 68, 69, 70, 71, 72, 73, 74, 75, 76, 77, 78, 79, 80, 81, 82, 83, 84, 85, 86, 87, 88, 89, 90, 91, 92, 93, 94, 95, 96, 97, 98, 99, 100, 101, 102, 103, 104, 105, 106, 107, 108, 109, 110, 111, 112, 113, 114, 115] (by decide +kernel) (by decide +kernel)
set_option maxRecDepth 20000 in
theorem gX9_recourse_X9_finding : GoodIn wsX9_recourse (wsV RX9 154 RX9 yX9_finding wsX9_finding) := goodIn_app (goodIn_of _ (by decide +kernel)) ggX9_recourse_X9_finding
set_option maxRecDepth 20000 in
theorem ggX9_recourse_X9_in : GoodIn wsX9_recourse wsX9_in := goodIn_r _ [24] (by decide +kernel) (by decide +kernel)
set_option maxRecDepth 20000 in
theorem gX9_recourse_X9_in : GoodIn wsX9_recourse (va_wsS RX9 141 yX9_in wsX9_in) := goodIn_app (goodIn_of _ (by decide +kernel)) ggX9_recourse_X9_in
set_option maxRecDepth 20000 in
theorem ggX9_recourse_X9_isBound : GoodIn wsX9_recourse wsX9_isBound := goodIn_r _ [34, 35, 36, 37, 38, 39, 40, 61, 62, 63, 64, 65, 66, 67, 68, 69, 70, 71, 72, 73, 74, 75, 76, 77, 78, 79, 80, 81, 82, 83, 84, 85, 86, 87, 88, 89, 90, 91, 92, 93, 94, 95, 96, 97, 98, 99, 100, 101, 102, 103, 104, 105, 106, 107, 108, 109, 110, 111, 112, 113, 114, 115] (by decide +kernel) (by decide +kernel)
set_option maxRecDepth 20000 in
theorem gX9_recourse_X9_isBound : GoodIn wsX9_recourse (wsV RX9 213 RX9 yX9_isBound wsX9_isBound) := goodIn_app (goodIn_of _ (by decide +kernel)) ggX9_recourse_X9_isBound
set_option maxRecDepth 20000 in
theorem ggX9_recourse_X9_isTooMuch : GoodIn wsX9_recourse wsX9_isTooMuch := goodIn_r _ [44, 45, 46, 47, 48, 49, 19, 50, 51, 61, 62, 63, 64, 65, 66, 67, 68, 69, 70, 71, 72, 73, 74, 75, 76, 77, 78, 79, 80, 81, 82, 83, 84, 85, 86, 87, 88, 89, 90, 91, 92, 93, 94, 95, 96, 97, 98, 99, 100, 101, 102, 103, 104, 105, 106, 107, 108, 109, 110, 111, 112, 113, 114, 115] (by decide +kernel) (by decide +kernel)
set_option maxRecDepth 20000 in
theorem gX9_recourse_X9_isTooMuch : GoodIn wsX9_recourse (wsV RX9 203 RX9 yX9_isTooMuch wsX9_isTooMuch) := goodIn_app (goodIn_of _ (by decide +kernel)) ggX9_recourse_X9_isTooMuch
set_option maxRecDepth 20000 in
theorem ggX9_recourse_X9_comesToOwe : GoodIn wsX9_recourse wsX9_comesToOwe := goodIn_r _ [55, 51, 47, 48, 49, 19, 50, 61, 62, 63, 64, 65, 66, 67, 68, 69, 70, 71, 72, 73, 74, 75, 76, 77, 78, 79, 80, 81, 82, 83, 84, 85, 86, 87, 88, 89, 90, 91, 92, 93, 94, 95, 96, 97, 98, 99, 100, 101, 102, 103, 104, 105, 106, 107, 108, 109, 110, 111, 112, 113, 114, 115] (by decide +kernel) (by decide +kernel)
set_option maxRecDepth 20000 in
theorem gX9_recourse_X9_comesToOwe : GoodIn wsX9_recourse (wsV RX9 207 RX9 yX9_comesToOwe wsX9_comesToOwe) := goodIn_app (goodIn_of _ (by decide +kernel)) ggX9_recourse_X9_comesToOwe
set_option maxRecDepth 20000 in
theorem ggX9_recourse_X9_becomes : GoodIn wsX9_recourse wsX9_becomes := goodIn_r _ [59, 2, 8, 60, 61, 62, 63, 64, 65, 66, 67, 68, 69, 70, 71, 72, 73, 74, 75, 76, 77, 78, 79, 80, 81, 82, 83, 84, 85, 86, 87, 88, 89, 90, 91, 92, 93, 94, 95, 96, 97, 98, 99, 100, 101, 102, 103, 104, 105, 106, 107, 108, 109, 110, 111, 112, 113, 114, 115] (by decide +kernel) (by decide +kernel)
set_option maxRecDepth 20000 in
theorem gX9_recourse_X9_becomes : GoodIn wsX9_recourse (wsV RX9 181 RX9 yX9_becomes wsX9_becomes) := goodIn_app (goodIn_of _ (by decide +kernel)) ggX9_recourse_X9_becomes
theorem dX9_recourse_0 : decode cX9_recourse 0 = .ok (.aload_n 0, 1) := by decide +kernel
theorem dX9_recourse_1 : decode cX9_recourse 1 = .ok (.iload_n 1, 1) := by decide +kernel
theorem dX9_recourse_2 : decode cX9_recourse 2 = .ok (.invokevirtual 185, 3) := by decide +kernel
theorem dX9_recourse_5 : decode cX9_recourse 5 = .ok (.ifCond .ne 11, 3) := by decide +kernel
theorem dX9_recourse_8 : decode cX9_recourse 8 = .ok (.aload_n 0, 1) := by decide +kernel
theorem dX9_recourse_9 : decode cX9_recourse 9 = .ok (.ldc2_w 152, 3) := by decide +kernel
theorem dX9_recourse_12 : decode cX9_recourse 12 = .ok (.invokevirtual 154, 3) := by decide +kernel
theorem dX9_recourse_15 : decode cX9_recourse 15 = .ok (.lreturn, 1) := by decide +kernel
theorem dX9_recourse_16 : decode cX9_recourse 16 = .ok (.aload_n 0, 1) := by decide +kernel
theorem dX9_recourse_17 : decode cX9_recourse 17 = .ok (.getfield 35, 3) := by decide +kernel
theorem dX9_recourse_20 : decode cX9_recourse 20 = .ok (.iload_n 1, 1) := by decide +kernel
theorem dX9_recourse_21 : decode cX9_recourse 21 = .ok (.iaload, 1) := by decide +kernel
theorem dX9_recourse_22 : decode cX9_recourse 22 = .ok (.iconst 3, 1) := by decide +kernel
theorem dX9_recourse_23 : decode cX9_recourse 23 = .ok (.if_icmp .eq 11, 3) := by decide +kernel
theorem dX9_recourse_26 : decode cX9_recourse 26 = .ok (.aload_n 0, 1) := by decide +kernel
theorem dX9_recourse_27 : decode cX9_recourse 27 = .ok (.ldc2_w 188, 3) := by decide +kernel
theorem dX9_recourse_30 : decode cX9_recourse 30 = .ok (.invokevirtual 154, 3) := by decide +kernel
theorem dX9_recourse_33 : decode cX9_recourse 33 = .ok (.lreturn, 1) := by decide +kernel
theorem dX9_recourse_34 : decode cX9_recourse 34 = .ok (.iload_n 2, 1) := by decide +kernel
theorem dX9_recourse_35 : decode cX9_recourse 35 = .ok (.iconst (-1), 1) := by decide +kernel
theorem dX9_recourse_36 : decode cX9_recourse 36 = .ok (.aload_n 0, 1) := by decide +kernel
theorem dX9_recourse_37 : decode cX9_recourse 37 = .ok (.getfield 38, 3) := by decide +kernel
theorem dX9_recourse_40 : decode cX9_recourse 40 = .ok (.iload_n 1, 1) := by decide +kernel
theorem dX9_recourse_41 : decode cX9_recourse 41 = .ok (.iaload, 1) := by decide +kernel
theorem dX9_recourse_42 : decode cX9_recourse 42 = .ok (.iconst 1, 1) := by decide +kernel
theorem dX9_recourse_43 : decode cX9_recourse 43 = .ok (.isub, 1) := by decide +kernel
theorem dX9_recourse_44 : decode cX9_recourse 44 = .ok (.invokestatic 141, 3) := by decide +kernel
theorem dX9_recourse_47 : decode cX9_recourse 47 = .ok (.ifCond .ne 11, 3) := by decide +kernel
theorem dX9_recourse_50 : decode cX9_recourse 50 = .ok (.aload_n 0, 1) := by decide +kernel
theorem dX9_recourse_51 : decode cX9_recourse 51 = .ok (.ldc2_w 211, 3) := by decide +kernel
theorem dX9_recourse_54 : decode cX9_recourse 54 = .ok (.invokevirtual 154, 3) := by decide +kernel
theorem dX9_recourse_57 : decode cX9_recourse 57 = .ok (.lreturn, 1) := by decide +kernel
theorem dX9_recourse_58 : decode cX9_recourse 58 = .ok (.iload_n 2, 1) := by decide +kernel
theorem dX9_recourse_59 : decode cX9_recourse 59 = .ok (.ifCond .ge 12, 3) := by decide +kernel
theorem dX9_recourse_62 : decode cX9_recourse 62 = .ok (.aload_n 0, 1) := by decide +kernel
theorem dX9_recourse_63 : decode cX9_recourse 63 = .ok (.getfield 23, 3) := by decide +kernel
theorem dX9_recourse_66 : decode cX9_recourse 66 = .ok (.iload_n 1, 1) := by decide +kernel
theorem dX9_recourse_67 : decode cX9_recourse 67 = .ok (.iaload, 1) := by decide +kernel
theorem dX9_recourse_68 : decode cX9_recourse 68 = .ok (.goto 13, 3) := by decide +kernel
theorem dX9_recourse_71 : decode cX9_recourse 71 = .ok (.aload_n 0, 1) := by decide +kernel
theorem dX9_recourse_72 : decode cX9_recourse 72 = .ok (.getfield 41, 3) := by decide +kernel
theorem dX9_recourse_75 : decode cX9_recourse 75 = .ok (.iconst 4, 1) := by decide +kernel
theorem dX9_recourse_76 : decode cX9_recourse 76 = .ok (.iload_n 1, 1) := by decide +kernel
theorem dX9_recourse_77 : decode cX9_recourse 77 = .ok (.imul, 1) := by decide +kernel
theorem dX9_recourse_78 : decode cX9_recourse 78 = .ok (.iload_n 2, 1) := by decide +kernel
theorem dX9_recourse_79 : decode cX9_recourse 79 = .ok (.iadd, 1) := by decide +kernel
theorem dX9_recourse_80 : decode cX9_recourse 80 = .ok (.iaload, 1) := by decide +kernel
theorem dX9_recourse_81 : decode cX9_recourse 81 = .ok (.istore_n 3, 1) := by decide +kernel
theorem dX9_recourse_82 : decode cX9_recourse 82 = .ok (.aload_n 0, 1) := by decide +kernel
theorem dX9_recourse_83 : decode cX9_recourse 83 = .ok (.getfield 44, 3) := by decide +kernel
theorem dX9_recourse_86 : decode cX9_recourse 86 = .ok (.iconst 5, 1) := by decide +kernel
theorem dX9_recourse_87 : decode cX9_recourse 87 = .ok (.iload_n 1, 1) := by decide +kernel
theorem dX9_recourse_88 : decode cX9_recourse 88 = .ok (.imul, 1) := by decide +kernel
theorem dX9_recourse_89 : decode cX9_recourse 89 = .ok (.iconst 3, 1) := by decide +kernel
theorem dX9_recourse_90 : decode cX9_recourse 90 = .ok (.iadd, 1) := by decide +kernel
theorem dX9_recourse_91 : decode cX9_recourse 91 = .ok (.laload, 1) := by decide +kernel
theorem dX9_recourse_92 : decode cX9_recourse 92 = .ok (.aload_n 0, 1) := by decide +kernel
theorem dX9_recourse_93 : decode cX9_recourse 93 = .ok (.getfield 44, 3) := by decide +kernel
theorem dX9_recourse_96 : decode cX9_recourse 96 = .ok (.iconst 5, 1) := by decide +kernel
theorem dX9_recourse_97 : decode cX9_recourse 97 = .ok (.iload_n 1, 1) := by decide +kernel
theorem dX9_recourse_98 : decode cX9_recourse 98 = .ok (.imul, 1) := by decide +kernel
theorem dX9_recourse_99 : decode cX9_recourse 99 = .ok (.iconst 2, 1) := by decide +kernel
theorem dX9_recourse_100 : decode cX9_recourse 100 = .ok (.iadd, 1) := by decide +kernel
theorem dX9_recourse_101 : decode cX9_recourse 101 = .ok (.laload, 1) := by decide +kernel
theorem dX9_recourse_102 : decode cX9_recourse 102 = .ok (.lsub, 1) := by decide +kernel
theorem dX9_recourse_103 : decode cX9_recourse 103 = .ok (.lstore 4, 2) := by decide +kernel
theorem dX9_recourse_105 : decode cX9_recourse 105 = .ok (.iload_n 2, 1) := by decide +kernel
theorem dX9_recourse_106 : decode cX9_recourse 106 = .ok (.ifCond .lt 44, 3) := by decide +kernel
theorem dX9_recourse_109 : decode cX9_recourse 109 = .ok (.aload_n 0, 1) := by decide +kernel
theorem dX9_recourse_110 : decode cX9_recourse 110 = .ok (.lload 4, 2) := by decide +kernel
theorem dX9_recourse_112 : decode cX9_recourse 112 = .ok (.aload_n 0, 1) := by decide +kernel
theorem dX9_recourse_113 : decode cX9_recourse 113 = .ok (.getfield 32, 3) := by decide +kernel
theorem dX9_recourse_116 : decode cX9_recourse 116 = .ok (.iload_n 1, 1) := by decide +kernel
theorem dX9_recourse_117 : decode cX9_recourse 117 = .ok (.iaload, 1) := by decide +kernel
theorem dX9_recourse_118 : decode cX9_recourse 118 = .ok (.iload_n 2, 1) := by decide +kernel
theorem dX9_recourse_119 : decode cX9_recourse 119 = .ok (.aload_n 0, 1) := by decide +kernel
theorem dX9_recourse_120 : decode cX9_recourse 120 = .ok (.getfield 20, 3) := by decide +kernel
theorem dX9_recourse_123 : decode cX9_recourse 123 = .ok (.iload_n 1, 1) := by decide +kernel
theorem dX9_recourse_124 : decode cX9_recourse 124 = .ok (.iaload, 1) := by decide +kernel
theorem dX9_recourse_125 : decode cX9_recourse 125 = .ok (.aload_n 0, 1) := by decide +kernel
theorem dX9_recourse_126 : decode cX9_recourse 126 = .ok (.getfield 13, 3) := by decide +kernel
theorem dX9_recourse_129 : decode cX9_recourse 129 = .ok (.aload_n 0, 1) := by decide +kernel
theorem dX9_recourse_130 : decode cX9_recourse 130 = .ok (.getfield 17, 3) := by decide +kernel
theorem dX9_recourse_133 : decode cX9_recourse 133 = .ok (.iload_n 3, 1) := by decide +kernel
theorem dX9_recourse_134 : decode cX9_recourse 134 = .ok (.iaload, 1) := by decide +kernel
theorem dX9_recourse_135 : decode cX9_recourse 135 = .ok (.iaload, 1) := by decide +kernel
theorem dX9_recourse_136 : decode cX9_recourse 136 = .ok (.invokevirtual 213, 3) := by decide +kernel
theorem dX9_recourse_139 : decode cX9_recourse 139 = .ok (.ifCond .ne 11, 3) := by decide +kernel
theorem dX9_recourse_142 : decode cX9_recourse 142 = .ok (.aload_n 0, 1) := by decide +kernel
theorem dX9_recourse_143 : decode cX9_recourse 143 = .ok (.ldc2_w 179, 3) := by decide +kernel
theorem dX9_recourse_146 : decode cX9_recourse 146 = .ok (.invokevirtual 154, 3) := by decide +kernel
theorem dX9_recourse_149 : decode cX9_recourse 149 = .ok (.lreturn, 1) := by decide +kernel
theorem dX9_recourse_150 : decode cX9_recourse 150 = .ok (.aload_n 0, 1) := by decide +kernel
theorem dX9_recourse_151 : decode cX9_recourse 151 = .ok (.iload_n 3, 1) := by decide +kernel
theorem dX9_recourse_152 : decode cX9_recourse 152 = .ok (.aload_n 0, 1) := by decide +kernel
theorem dX9_recourse_153 : decode cX9_recourse 153 = .ok (.getfield 29, 3) := by decide +kernel
theorem dX9_recourse_156 : decode cX9_recourse 156 = .ok (.iload_n 1, 1) := by decide +kernel
theorem dX9_recourse_157 : decode cX9_recourse 157 = .ok (.iaload, 1) := by decide +kernel
theorem dX9_recourse_158 : decode cX9_recourse 158 = .ok (.aload_n 0, 1) := by decide +kernel
theorem dX9_recourse_159 : decode cX9_recourse 159 = .ok (.getfield 32, 3) := by decide +kernel
theorem dX9_recourse_162 : decode cX9_recourse 162 = .ok (.iload_n 1, 1) := by decide +kernel
theorem dX9_recourse_163 : decode cX9_recourse 163 = .ok (.iaload, 1) := by decide +kernel
theorem dX9_recourse_164 : decode cX9_recourse 164 = .ok (.i2l, 1) := by decide +kernel
theorem dX9_recourse_165 : decode cX9_recourse 165 = .ok (.invokevirtual 203, 3) := by decide +kernel
theorem dX9_recourse_168 : decode cX9_recourse 168 = .ok (.ifCond .eq 11, 3) := by decide +kernel
theorem dX9_recourse_171 : decode cX9_recourse 171 = .ok (.aload_n 0, 1) := by decide +kernel
theorem dX9_recourse_172 : decode cX9_recourse 172 = .ok (.ldc2_w 169, 3) := by decide +kernel
theorem dX9_recourse_175 : decode cX9_recourse 175 = .ok (.invokevirtual 154, 3) := by decide +kernel
theorem dX9_recourse_178 : decode cX9_recourse 178 = .ok (.lreturn, 1) := by decide +kernel
theorem dX9_recourse_179 : decode cX9_recourse 179 = .ok (.aload_n 0, 1) := by decide +kernel
theorem dX9_recourse_180 : decode cX9_recourse 180 = .ok (.iload_n 3, 1) := by decide +kernel
theorem dX9_recourse_181 : decode cX9_recourse 181 = .ok (.aload_n 0, 1) := by decide +kernel
theorem dX9_recourse_182 : decode cX9_recourse 182 = .ok (.getfield 29, 3) := by decide +kernel
theorem dX9_recourse_185 : decode cX9_recourse 185 = .ok (.iload_n 1, 1) := by decide +kernel
theorem dX9_recourse_186 : decode cX9_recourse 186 = .ok (.iaload, 1) := by decide +kernel
theorem dX9_recourse_187 : decode cX9_recourse 187 = .ok (.aload_n 0, 1) := by decide +kernel
theorem dX9_recourse_188 : decode cX9_recourse 188 = .ok (.getfield 32, 3) := by decide +kernel
theorem dX9_recourse_191 : decode cX9_recourse 191 = .ok (.iload_n 1, 1) := by decide +kernel
theorem dX9_recourse_192 : decode cX9_recourse 192 = .ok (.iaload, 1) := by decide +kernel
theorem dX9_recourse_193 : decode cX9_recourse 193 = .ok (.i2l, 1) := by decide +kernel
theorem dX9_recourse_194 : decode cX9_recourse 194 = .ok (.invokevirtual 207, 3) := by decide +kernel
theorem dX9_recourse_197 : decode cX9_recourse 197 = .ok (.iload_n 2, 1) := by decide +kernel
theorem dX9_recourse_198 : decode cX9_recourse 198 = .ok (.ifCond .ge 12, 3) := by decide +kernel
theorem dX9_recourse_201 : decode cX9_recourse 201 = .ok (.aload_n 0, 1) := by decide +kernel
theorem dX9_recourse_202 : decode cX9_recourse 202 = .ok (.iload_n 1, 1) := by decide +kernel
theorem dX9_recourse_203 : decode cX9_recourse 203 = .ok (.iconst 4, 1) := by decide +kernel
theorem dX9_recourse_204 : decode cX9_recourse 204 = .ok (.invokevirtual 181, 3) := by decide +kernel
theorem dX9_recourse_207 : decode cX9_recourse 207 = .ok (.goto 17, 3) := by decide +kernel
theorem dX9_recourse_210 : decode cX9_recourse 210 = .ok (.aload_n 0, 1) := by decide +kernel
theorem dX9_recourse_211 : decode cX9_recourse 211 = .ok (.getfield 29, 3) := by decide +kernel
theorem dX9_recourse_214 : decode cX9_recourse 214 = .ok (.iload_n 1, 1) := by decide +kernel
theorem dX9_recourse_215 : decode cX9_recourse 215 = .ok (.iload_n 3, 1) := by decide +kernel
theorem dX9_recourse_216 : decode cX9_recourse 216 = .ok (.iastore, 1) := by decide +kernel
theorem dX9_recourse_217 : decode cX9_recourse 217 = .ok (.aload_n 0, 1) := by decide +kernel
theorem dX9_recourse_218 : decode cX9_recourse 218 = .ok (.getfield 38, 3) := by decide +kernel
theorem dX9_recourse_221 : decode cX9_recourse 221 = .ok (.iload_n 1, 1) := by decide +kernel
theorem dX9_recourse_222 : decode cX9_recourse 222 = .ok (.iload_n 2, 1) := by decide +kernel
theorem dX9_recourse_223 : decode cX9_recourse 223 = .ok (.iastore, 1) := by decide +kernel
theorem dX9_recourse_224 : decode cX9_recourse 224 = .ok (.iload_n 3, 1) := by decide +kernel
theorem dX9_recourse_225 : decode cX9_recourse 225 = .ok (.i2l, 1) := by decide +kernel
theorem dX9_recourse_226 : decode cX9_recourse 226 = .ok (.lreturn, 1) := by decide +kernel
set_option maxRecDepth 20000 in
theorem ggX9_about_X9_isBill : GoodIn wsX9_about wsX9_isBill := goodIn_r _ [16, 17, 18, 19, 15, 20, 27, 28, 29, 30, 31, 32, 33, 34, 35, 36, 37, 38, 39, 40, 41, 42, 43, 44, 45, 46, 47, 48, 49, 50, 51, 52, 53, 54, 55, 56, 57, 58, 59, 60, 61, 62, 63, 64, 65, 66, 67, 68, 69, 70, 71, 72, 73, 74, 75, 76, 77, 78, 79, 80, 81] (by decide +kernel) (by decide +kernel)
set_option maxRecDepth 20000 in
theorem gX9_about_X9_isBill : GoodIn wsX9_about (wsV RX9 185 RX9 yX9_isBill wsX9_isBill) := goodIn_app (goodIn_of _ (by decide +kernel)) ggX9_about_X9_isBill
set_option maxRecDepth 20000 in
theorem ggX9_about_X9_in : GoodIn wsX9_about wsX9_in := goodIn_r _ [20] (by decide +kernel) (by decide +kernel)
set_option maxRecDepth 20000 in
theorem gX9_about_X9_in : GoodIn wsX9_about (va_wsS RX9 141 yX9_in wsX9_in) := goodIn_app (goodIn_of _ (by decide +kernel)) ggX9_about_X9_in
set_option maxRecDepth 20000 in
theorem ggX9_about_X9_finding : GoodIn wsX9_about wsX9_finding := goodIn_r _ [24, 25, 26, 27, 28, 29, 30, 31, 32, 33, 34, 35, 36, 37, 38, 39, 40, 41, 42, 43, 44, 45, 46, 47, 48, 49, 50, 51, 52, 53, 54, 55, 56, 57, 58, 59, 60, 61, 62, 63, 64, 65, 66, 67, 68, 69, 70, 71, 72, 73, 74, 75, 76, 77, 78, 79, 80, 81] (by decide +kernel) (by decide +kernel)
set_option maxRecDepth 20000 in
theorem gX9_about_X9_finding : GoodIn wsX9_about (wsV RX9 154 RX9 yX9_finding wsX9_finding) := goodIn_app (goodIn_of _ (by decide +kernel)) ggX9_about_X9_finding
theorem dX9_about_0 : decode cX9_about 0 = .ok (.aload_n 0, 1) := by decide +kernel
theorem dX9_about_1 : decode cX9_about 1 = .ok (.iload_n 1, 1) := by decide +kernel
theorem dX9_about_2 : decode cX9_about 2 = .ok (.invokevirtual 185, 3) := by decide +kernel
theorem dX9_about_5 : decode cX9_about 5 = .ok (.ifCond .eq 13, 3) := by decide +kernel
theorem dX9_about_8 : decode cX9_about 8 = .ok (.iload_n 2, 1) := by decide +kernel
theorem dX9_about_9 : decode cX9_about 9 = .ok (.iconst 0, 1) := by decide +kernel
theorem dX9_about_10 : decode cX9_about 10 = .ok (.bipush 11, 2) := by decide +kernel
theorem dX9_about_12 : decode cX9_about 12 = .ok (.invokestatic 141, 3) := by decide +kernel
theorem dX9_about_15 : decode cX9_about 15 = .ok (.ifCond .ne 11, 3) := by decide +kernel
theorem dX9_about_18 : decode cX9_about 18 = .ok (.aload_n 0, 1) := by decide +kernel
theorem dX9_about_19 : decode cX9_about 19 = .ok (.ldc2_w 152, 3) := by decide +kernel
theorem dX9_about_22 : decode cX9_about 22 = .ok (.invokevirtual 154, 3) := by decide +kernel
theorem dX9_about_25 : decode cX9_about 25 = .ok (.lreturn, 1) := by decide +kernel
theorem dX9_about_26 : decode cX9_about 26 = .ok (.iload_n 2, 1) := by decide +kernel
theorem dX9_about_27 : decode cX9_about 27 = .ok (.tableswitch 133 0 11 #[61, 69, 77, 85, 93, 101, 109, 133, 133, 133, 133, 117], 61) := by decide +kernel
theorem dX9_about_88 : decode cX9_about 88 = .ok (.aload_n 0, 1) := by decide +kernel
theorem dX9_about_89 : decode cX9_about 89 = .ok (.getfield 20, 3) := by decide +kernel
theorem dX9_about_92 : decode cX9_about 92 = .ok (.iload_n 1, 1) := by decide +kernel
theorem dX9_about_93 : decode cX9_about 93 = .ok (.iaload, 1) := by decide +kernel
theorem dX9_about_94 : decode cX9_about 94 = .ok (.i2l, 1) := by decide +kernel
theorem dX9_about_95 : decode cX9_about 95 = .ok (.lreturn, 1) := by decide +kernel
theorem dX9_about_96 : decode cX9_about 96 = .ok (.aload_n 0, 1) := by decide +kernel
theorem dX9_about_97 : decode cX9_about 97 = .ok (.getfield 23, 3) := by decide +kernel
theorem dX9_about_100 : decode cX9_about 100 = .ok (.iload_n 1, 1) := by decide +kernel
theorem dX9_about_101 : decode cX9_about 101 = .ok (.iaload, 1) := by decide +kernel
theorem dX9_about_102 : decode cX9_about 102 = .ok (.i2l, 1) := by decide +kernel
theorem dX9_about_103 : decode cX9_about 103 = .ok (.lreturn, 1) := by decide +kernel
theorem dX9_about_104 : decode cX9_about 104 = .ok (.aload_n 0, 1) := by decide +kernel
theorem dX9_about_105 : decode cX9_about 105 = .ok (.getfield 26, 3) := by decide +kernel
theorem dX9_about_108 : decode cX9_about 108 = .ok (.iload_n 1, 1) := by decide +kernel
theorem dX9_about_109 : decode cX9_about 109 = .ok (.iaload, 1) := by decide +kernel
theorem dX9_about_110 : decode cX9_about 110 = .ok (.i2l, 1) := by decide +kernel
theorem dX9_about_111 : decode cX9_about 111 = .ok (.lreturn, 1) := by decide +kernel
theorem dX9_about_112 : decode cX9_about 112 = .ok (.aload_n 0, 1) := by decide +kernel
theorem dX9_about_113 : decode cX9_about 113 = .ok (.getfield 29, 3) := by decide +kernel
theorem dX9_about_116 : decode cX9_about 116 = .ok (.iload_n 1, 1) := by decide +kernel
theorem dX9_about_117 : decode cX9_about 117 = .ok (.iaload, 1) := by decide +kernel
theorem dX9_about_118 : decode cX9_about 118 = .ok (.i2l, 1) := by decide +kernel
theorem dX9_about_119 : decode cX9_about 119 = .ok (.lreturn, 1) := by decide +kernel
theorem dX9_about_120 : decode cX9_about 120 = .ok (.aload_n 0, 1) := by decide +kernel
theorem dX9_about_121 : decode cX9_about 121 = .ok (.getfield 32, 3) := by decide +kernel
theorem dX9_about_124 : decode cX9_about 124 = .ok (.iload_n 1, 1) := by decide +kernel
theorem dX9_about_125 : decode cX9_about 125 = .ok (.iaload, 1) := by decide +kernel
theorem dX9_about_126 : decode cX9_about 126 = .ok (.i2l, 1) := by decide +kernel
theorem dX9_about_127 : decode cX9_about 127 = .ok (.lreturn, 1) := by decide +kernel
theorem dX9_about_128 : decode cX9_about 128 = .ok (.aload_n 0, 1) := by decide +kernel
theorem dX9_about_129 : decode cX9_about 129 = .ok (.getfield 35, 3) := by decide +kernel
theorem dX9_about_132 : decode cX9_about 132 = .ok (.iload_n 1, 1) := by decide +kernel
theorem dX9_about_133 : decode cX9_about 133 = .ok (.iaload, 1) := by decide +kernel
theorem dX9_about_134 : decode cX9_about 134 = .ok (.i2l, 1) := by decide +kernel
theorem dX9_about_135 : decode cX9_about 135 = .ok (.lreturn, 1) := by decide +kernel
theorem dX9_about_136 : decode cX9_about 136 = .ok (.aload_n 0, 1) := by decide +kernel
theorem dX9_about_137 : decode cX9_about 137 = .ok (.getfield 38, 3) := by decide +kernel
theorem dX9_about_140 : decode cX9_about 140 = .ok (.iload_n 1, 1) := by decide +kernel
theorem dX9_about_141 : decode cX9_about 141 = .ok (.iaload, 1) := by decide +kernel
theorem dX9_about_142 : decode cX9_about 142 = .ok (.i2l, 1) := by decide +kernel
theorem dX9_about_143 : decode cX9_about 143 = .ok (.lreturn, 1) := by decide +kernel
theorem dX9_about_144 : decode cX9_about 144 = .ok (.aload_n 0, 1) := by decide +kernel
theorem dX9_about_145 : decode cX9_about 145 = .ok (.getfield 44, 3) := by decide +kernel
theorem dX9_about_148 : decode cX9_about 148 = .ok (.iconst 5, 1) := by decide +kernel
theorem dX9_about_149 : decode cX9_about 149 = .ok (.iload_n 1, 1) := by decide +kernel
theorem dX9_about_150 : decode cX9_about 150 = .ok (.imul, 1) := by decide +kernel
theorem dX9_about_151 : decode cX9_about 151 = .ok (.aload_n 0, 1) := by decide +kernel
theorem dX9_about_152 : decode cX9_about 152 = .ok (.getfield 35, 3) := by decide +kernel
theorem dX9_about_155 : decode cX9_about 155 = .ok (.iload_n 1, 1) := by decide +kernel
theorem dX9_about_156 : decode cX9_about 156 = .ok (.iaload, 1) := by decide +kernel
theorem dX9_about_157 : decode cX9_about 157 = .ok (.iadd, 1) := by decide +kernel
theorem dX9_about_158 : decode cX9_about 158 = .ok (.laload, 1) := by decide +kernel
theorem dX9_about_159 : decode cX9_about 159 = .ok (.lreturn, 1) := by decide +kernel
theorem dX9_about_160 : decode cX9_about 160 = .ok (.iload_n 2, 1) := by decide +kernel
theorem dX9_about_161 : decode cX9_about 161 = .ok (.bipush 7, 2) := by decide +kernel
theorem dX9_about_163 : decode cX9_about 163 = .ok (.isub, 1) := by decide +kernel
theorem dX9_about_164 : decode cX9_about 164 = .ok (.aload_n 0, 1) := by decide +kernel
theorem dX9_about_165 : decode cX9_about 165 = .ok (.getfield 38, 3) := by decide +kernel
theorem dX9_about_168 : decode cX9_about 168 = .ok (.iload_n 1, 1) := by decide +kernel
theorem dX9_about_169 : decode cX9_about 169 = .ok (.iaload, 1) := by decide +kernel
theorem dX9_about_170 : decode cX9_about 170 = .ok (.if_icmp .ge 20, 3) := by decide +kernel
theorem dX9_about_173 : decode cX9_about 173 = .ok (.aload_n 0, 1) := by decide +kernel
theorem dX9_about_174 : decode cX9_about 174 = .ok (.getfield 41, 3) := by decide +kernel
theorem dX9_about_177 : decode cX9_about 177 = .ok (.iconst 4, 1) := by decide +kernel
theorem dX9_about_178 : decode cX9_about 178 = .ok (.iload_n 1, 1) := by decide +kernel
theorem dX9_about_179 : decode cX9_about 179 = .ok (.imul, 1) := by decide +kernel
theorem dX9_about_180 : decode cX9_about 180 = .ok (.iload_n 2, 1) := by decide +kernel
theorem dX9_about_181 : decode cX9_about 181 = .ok (.iadd, 1) := by decide +kernel
theorem dX9_about_182 : decode cX9_about 182 = .ok (.bipush 7, 2) := by decide +kernel
theorem dX9_about_184 : decode cX9_about 184 = .ok (.isub, 1) := by decide +kernel
theorem dX9_about_185 : decode cX9_about 185 = .ok (.iaload, 1) := by decide +kernel
theorem dX9_about_186 : decode cX9_about 186 = .ok (.i2l, 1) := by decide +kernel
theorem dX9_about_187 : decode cX9_about 187 = .ok (.goto 10, 3) := by decide +kernel
theorem dX9_about_190 : decode cX9_about 190 = .ok (.aload_n 0, 1) := by decide +kernel
theorem dX9_about_191 : decode cX9_about 191 = .ok (.ldc2_w 211, 3) := by decide +kernel
theorem dX9_about_194 : decode cX9_about 194 = .ok (.invokevirtual 154, 3) := by decide +kernel
theorem dX9_about_197 : decode cX9_about 197 = .ok (.lreturn, 1) := by decide +kernel
set_option maxRecDepth 20000 in
theorem ggX9_as_X9_isBill : GoodIn wsX9_as wsX9_isBill := goodIn_r _ [9, 10, 11, 12, 8, 13, 20, 21, 22, 23, 24, 25, 26, 27, 28, 29, 30, 31, 32, 33, 34, 35, 36, 37, 38, 39, 40, 41, 42, 43, 44, 45, 46, 47, 48, 49, 50, 51, 52, 53, 54, 55, 56, 57, 58, 59, 60, 61, 62, 63, 64, 65, 66, 67, 68, 69, 70, 71, 72, 73, 74] (by decide +kernel) (by decide +kernel)
set_option maxRecDepth 20000 in
theorem gX9_as_X9_isBill : GoodIn wsX9_as (wsV RX9 185 RX9 yX9_isBill wsX9_isBill) := goodIn_app (goodIn_of _ (by decide +kernel)) ggX9_as_X9_isBill
set_option maxRecDepth 20000 in
theorem ggX9_as_X9_in : GoodIn wsX9_as wsX9_in := goodIn_r _ [13] (by decide +kernel) (by decide +kernel)
set_option maxRecDepth 20000 in
theorem gX9_as_X9_in : GoodIn wsX9_as (va_wsS RX9 141 yX9_in wsX9_in) := goodIn_app (goodIn_of _ (by decide +kernel)) ggX9_as_X9_in
set_option maxRecDepth 20000 in
theorem ggX9_as_X9_finding : GoodIn wsX9_as wsX9_finding := goodIn_r _ [17, 18, 19, 20, 21, 22, 23, 24, 25, 26, 27, 28, 29, 30, 31, 32, 33, 34, 35, 36, 37, 38, 39, 40, 41, 42, 43, 44, 45, 46, 47, 48, 49, 50, 51, 52, 53, 54, 55, 56, 57, 58, 59, 60, 61, 62, 63, 64, 65, 66, 67, 68, 69, 70, 71, 72, 73, 74] (by decide +kernel) (by decide +kernel)
set_option maxRecDepth 20000 in
theorem gX9_as_X9_finding : GoodIn wsX9_as (wsV RX9 154 RX9 yX9_finding wsX9_finding) := goodIn_app (goodIn_of _ (by decide +kernel)) ggX9_as_X9_finding
theorem dX9_as_0 : decode cX9_as 0 = .ok (.aload_n 0, 1) := by decide +kernel
theorem dX9_as_1 : decode cX9_as 1 = .ok (.iload_n 1, 1) := by decide +kernel
theorem dX9_as_2 : decode cX9_as 2 = .ok (.invokevirtual 185, 3) := by decide +kernel
theorem dX9_as_5 : decode cX9_as 5 = .ok (.ifCond .eq 12, 3) := by decide +kernel
theorem dX9_as_8 : decode cX9_as 8 = .ok (.iload_n 2, 1) := by decide +kernel
theorem dX9_as_9 : decode cX9_as 9 = .ok (.iconst 0, 1) := by decide +kernel
theorem dX9_as_10 : decode cX9_as 10 = .ok (.iconst 2, 1) := by decide +kernel
theorem dX9_as_11 : decode cX9_as 11 = .ok (.invokestatic 141, 3) := by decide +kernel
theorem dX9_as_14 : decode cX9_as 14 = .ok (.ifCond .ne 11, 3) := by decide +kernel
theorem dX9_as_17 : decode cX9_as 17 = .ok (.aload_n 0, 1) := by decide +kernel
theorem dX9_as_18 : decode cX9_as 18 = .ok (.ldc2_w 152, 3) := by decide +kernel
theorem dX9_as_21 : decode cX9_as 21 = .ok (.invokevirtual 154, 3) := by decide +kernel
theorem dX9_as_24 : decode cX9_as 24 = .ok (.lreturn, 1) := by decide +kernel
theorem dX9_as_25 : decode cX9_as 25 = .ok (.iload_n 2, 1) := by decide +kernel
theorem dX9_as_26 : decode cX9_as 26 = .ok (.ifCond .eq 13, 3) := by decide +kernel
theorem dX9_as_29 : decode cX9_as 29 = .ok (.aload_n 0, 1) := by decide +kernel
theorem dX9_as_30 : decode cX9_as 30 = .ok (.getfield 20, 3) := by decide +kernel
theorem dX9_as_33 : decode cX9_as 33 = .ok (.iload_n 1, 1) := by decide +kernel
theorem dX9_as_34 : decode cX9_as 34 = .ok (.iaload, 1) := by decide +kernel
theorem dX9_as_35 : decode cX9_as 35 = .ok (.iload_n 2, 1) := by decide +kernel
theorem dX9_as_36 : decode cX9_as 36 = .ok (.if_icmp .ne 13, 3) := by decide +kernel
theorem dX9_as_39 : decode cX9_as 39 = .ok (.aload_n 0, 1) := by decide +kernel
theorem dX9_as_40 : decode cX9_as 40 = .ok (.getfield 32, 3) := by decide +kernel
theorem dX9_as_43 : decode cX9_as 43 = .ok (.iload_n 1, 1) := by decide +kernel
theorem dX9_as_44 : decode cX9_as 44 = .ok (.iaload, 1) := by decide +kernel
theorem dX9_as_45 : decode cX9_as 45 = .ok (.i2l, 1) := by decide +kernel
theorem dX9_as_46 : decode cX9_as 46 = .ok (.goto 10, 3) := by decide +kernel
theorem dX9_as_49 : decode cX9_as 49 = .ok (.aload_n 0, 1) := by decide +kernel
theorem dX9_as_50 : decode cX9_as 50 = .ok (.ldc2_w 179, 3) := by decide +kernel
theorem dX9_as_53 : decode cX9_as 53 = .ok (.invokevirtual 154, 3) := by decide +kernel
theorem dX9_as_56 : decode cX9_as 56 = .ok (.lreturn, 1) := by decide +kernel
set_option maxRecDepth 20000 in
theorem ggX9_knows_X9_isHouse : GoodIn wsX9_knows wsX9_isHouse := goodIn_r _ [9, 10, 11, 8, 12] (by decide +kernel) (by decide +kernel)
set_option maxRecDepth 20000 in
theorem gX9_knows_X9_isHouse : GoodIn wsX9_knows (va_wsS RX9 171 yX9_isHouse wsX9_isHouse) := goodIn_app (goodIn_of _ (by decide +kernel)) ggX9_knows_X9_isHouse
set_option maxRecDepth 20000 in
theorem ggX9_knows_X9_isBill : GoodIn wsX9_knows wsX9_isBill := goodIn_r _ [16, 17, 10, 11, 8, 12, 24, 25, 26, 27, 28, 29, 30, 31, 32, 33, 34, 35, 36, 37, 38, 39, 40, 41, 42, 43, 44, 45, 46, 47, 48, 49, 50, 51, 52, 53, 54, 55, 56, 57, 58, 59, 60, 61, 62, 63, 64, 65, 66, 67, 68, 69, 70, 71, 72, 73, 74, 75, 76, 77, 78] (by decide +kernel) (by decide +kernel)
set_option maxRecDepth 20000 in
theorem gX9_knows_X9_isBill : GoodIn wsX9_knows (wsV RX9 185 RX9 yX9_isBill wsX9_isBill) := goodIn_app (goodIn_of _ (by decide +kernel)) ggX9_knows_X9_isBill
set_option maxRecDepth 20000 in
theorem ggX9_knows_X9_finding : GoodIn wsX9_knows wsX9_finding := goodIn_r _ [21, 22, 23, 24, 25, 26, 27, 28, 29, 30, 31, 32, 33, 34, 35, 36, 37, 38, 39, 40, 41, 42, 43, 44, 45, 46, 47, 48, 49, 50, 51, 52, 53, 54, 55, 56, 57, 58, 59, 60, 61, 62, 63, 64, 65, 66, 67, 68, 69, 70, 71, 72, 73, 74, 75, 76, 77, 78] (by decide +kernel) (by decide +kernel)
set_option maxRecDepth 20000 in
theorem gX9_knows_X9_finding : GoodIn wsX9_knows (wsV RX9 154 RX9 yX9_finding wsX9_finding) := goodIn_app (goodIn_of _ (by decide +kernel)) ggX9_knows_X9_finding
theorem dX9_knows_0 : decode cX9_knows 0 = .ok (.iload_n 1, 1) := by decide +kernel
theorem dX9_knows_1 : decode cX9_knows 1 = .ok (.invokestatic 171, 3) := by decide +kernel
theorem dX9_knows_4 : decode cX9_knows 4 = .ok (.ifCond .eq 15, 3) := by decide +kernel
theorem dX9_knows_7 : decode cX9_knows 7 = .ok (.aload_n 0, 1) := by decide +kernel
theorem dX9_knows_8 : decode cX9_knows 8 = .ok (.iload_n 2, 1) := by decide +kernel
theorem dX9_knows_9 : decode cX9_knows 9 = .ok (.invokevirtual 185, 3) := by decide +kernel
theorem dX9_knows_12 : decode cX9_knows 12 = .ok (.ifCond .eq 7, 3) := by decide +kernel
theorem dX9_knows_15 : decode cX9_knows 15 = .ok (.iload_n 3, 1) := by decide +kernel
theorem dX9_knows_16 : decode cX9_knows 16 = .ok (.ifCond .ge 11, 3) := by decide +kernel
theorem dX9_knows_19 : decode cX9_knows 19 = .ok (.aload_n 0, 1) := by decide +kernel
theorem dX9_knows_20 : decode cX9_knows 20 = .ok (.ldc2_w 152, 3) := by decide +kernel
theorem dX9_knows_23 : decode cX9_knows 23 = .ok (.invokevirtual 154, 3) := by decide +kernel
theorem dX9_knows_26 : decode cX9_knows 26 = .ok (.lreturn, 1) := by decide +kernel
theorem dX9_knows_27 : decode cX9_knows 27 = .ok (.ldc2_w 211, 3) := by decide +kernel
theorem dX9_knows_30 : decode cX9_knows 30 = .ok (.lstore 4, 2) := by decide +kernel
theorem dX9_knows_32 : decode cX9_knows 32 = .ok (.iconst 0, 1) := by decide +kernel
theorem dX9_knows_33 : decode cX9_knows 33 = .ok (.istore 6, 2) := by decide +kernel
theorem dX9_knows_35 : decode cX9_knows 35 = .ok (.iload 6, 2) := by decide +kernel
theorem dX9_knows_37 : decode cX9_knows 37 = .ok (.iconst 5, 1) := by decide +kernel
theorem dX9_knows_38 : decode cX9_knows 38 = .ok (.if_icmp .ge 60, 3) := by decide +kernel
theorem dX9_knows_41 : decode cX9_knows 41 = .ok (.aload_n 0, 1) := by decide +kernel
theorem dX9_knows_42 : decode cX9_knows 42 = .ok (.getfield 44, 3) := by decide +kernel
theorem dX9_knows_45 : decode cX9_knows 45 = .ok (.iconst 5, 1) := by decide +kernel
theorem dX9_knows_46 : decode cX9_knows 46 = .ok (.iload_n 2, 1) := by decide +kernel
theorem dX9_knows_47 : decode cX9_knows 47 = .ok (.imul, 1) := by decide +kernel
theorem dX9_knows_48 : decode cX9_knows 48 = .ok (.iload 6, 2) := by decide +kernel
theorem dX9_knows_50 : decode cX9_knows 50 = .ok (.iadd, 1) := by decide +kernel
theorem dX9_knows_51 : decode cX9_knows 51 = .ok (.laload, 1) := by decide +kernel
theorem dX9_knows_52 : decode cX9_knows 52 = .ok (.lstore 7, 2) := by decide +kernel
theorem dX9_knows_54 : decode cX9_knows 54 = .ok (.lload 7, 2) := by decide +kernel
theorem dX9_knows_56 : decode cX9_knows 56 = .ok (.lconst 0, 1) := by decide +kernel
theorem dX9_knows_57 : decode cX9_knows 57 = .ok (.lcmp, 1) := by decide +kernel
theorem dX9_knows_58 : decode cX9_knows 58 = .ok (.ifCond .lt 30, 3) := by decide +kernel
theorem dX9_knows_61 : decode cX9_knows 61 = .ok (.iload_n 3, 1) := by decide +kernel
theorem dX9_knows_62 : decode cX9_knows 62 = .ok (.i2l, 1) := by decide +kernel
theorem dX9_knows_63 : decode cX9_knows 63 = .ok (.lload 7, 2) := by decide +kernel
theorem dX9_knows_65 : decode cX9_knows 65 = .ok (.aload_n 0, 1) := by decide +kernel
theorem dX9_knows_66 : decode cX9_knows 66 = .ok (.getfield 13, 3) := by decide +kernel
theorem dX9_knows_69 : decode cX9_knows 69 = .ok (.aload_n 0, 1) := by decide +kernel
theorem dX9_knows_70 : decode cX9_knows 70 = .ok (.getfield 17, 3) := by decide +kernel
theorem dX9_knows_73 : decode cX9_knows 73 = .ok (.iload_n 1, 1) := by decide +kernel
theorem dX9_knows_74 : decode cX9_knows 74 = .ok (.iaload, 1) := by decide +kernel
theorem dX9_knows_75 : decode cX9_knows 75 = .ok (.iaload, 1) := by decide +kernel
theorem dX9_knows_76 : decode cX9_knows 76 = .ok (.i2l, 1) := by decide +kernel
theorem dX9_knows_77 : decode cX9_knows 77 = .ok (.ladd, 1) := by decide +kernel
theorem dX9_knows_78 : decode cX9_knows 78 = .ok (.lcmp, 1) := by decide +kernel
theorem dX9_knows_79 : decode cX9_knows 79 = .ok (.ifCond .lt 9, 3) := by decide +kernel
theorem dX9_knows_82 : decode cX9_knows 82 = .ok (.iload 6, 2) := by decide +kernel
theorem dX9_knows_84 : decode cX9_knows 84 = .ok (.i2l, 1) := by decide +kernel
theorem dX9_knows_85 : decode cX9_knows 85 = .ok (.goto 5, 3) := by decide +kernel
theorem dX9_knows_88 : decode cX9_knows 88 = .ok (.lload 4, 2) := by decide +kernel
theorem dX9_knows_90 : decode cX9_knows 90 = .ok (.lstore 4, 2) := by decide +kernel
theorem dX9_knows_92 : decode cX9_knows 92 = .ok (.iinc 6 1, 3) := by decide +kernel
theorem dX9_knows_95 : decode cX9_knows 95 = .ok (.goto (-60), 3) := by decide +kernel
theorem dX9_knows_98 : decode cX9_knows 98 = .ok (.lload 4, 2) := by decide +kernel
theorem dX9_knows_100 : decode cX9_knows 100 = .ok (.ldc2_w 211, 3) := by decide +kernel
theorem dX9_knows_103 : decode cX9_knows 103 = .ok (.lcmp, 1) := by decide +kernel
theorem dX9_knows_104 : decode cX9_knows 104 = .ok (.ifCond .ne 13, 3) := by decide +kernel
theorem dX9_knows_107 : decode cX9_knows 107 = .ok (.aload_n 0, 1) := by decide +kernel
theorem dX9_knows_108 : decode cX9_knows 108 = .ok (.ldc2_w 211, 3) := by decide +kernel
theorem dX9_knows_111 : decode cX9_knows 111 = .ok (.invokevirtual 154, 3) := by decide +kernel
theorem dX9_knows_114 : decode cX9_knows 114 = .ok (.goto 5, 3) := by decide +kernel
theorem dX9_knows_117 : decode cX9_knows 117 = .ok (.lload 4, 2) := by decide +kernel
theorem dX9_knows_119 : decode cX9_knows 119 = .ok (.lreturn, 1) := by decide +kernel
set_option maxRecDepth 20000 in
theorem ggX9_feed_X9_in : GoodIn wsX9_feed wsX9_in := goodIn_r _ [9] (by decide +kernel) (by decide +kernel)
set_option maxRecDepth 20000 in
theorem gX9_feed_X9_in : GoodIn wsX9_feed (va_wsS RX9 141 yX9_in wsX9_in) := goodIn_app (goodIn_of _ (by decide +kernel)) ggX9_feed_X9_in
set_option maxRecDepth 20000 in
theorem ggX9_feed_X9_finding : GoodIn wsX9_feed wsX9_finding := goodIn_r _ [13, 14, 15, 16, 17, 18, 19, 20, 21, 22, 23, 24, 25, 26, 27, 28, 29, 30, 31, 32, 33, 34, 35, 36, 37, 38, 39, 40, 41, 42, 43, 44, 45, 46, 47, 48, 49, 50, 51, 52, 53, 54, 55, 56, 57, 58, 59, 60, 61, 62, 63, 64, 65, 66, 67, 68, 69, 70] (by decide +kernel) (by decide +kernel)
set_option maxRecDepth 20000 in
theorem gX9_feed_X9_finding : GoodIn wsX9_feed (wsV RX9 154 RX9 yX9_finding wsX9_finding) := goodIn_app (goodIn_of _ (by decide +kernel)) ggX9_feed_X9_finding
theorem dX9_feed_0 : decode cX9_feed 0 = .ok (.iload_n 3, 1) := by decide +kernel
theorem dX9_feed_1 : decode cX9_feed 1 = .ok (.iconst 1, 1) := by decide +kernel
theorem dX9_feed_2 : decode cX9_feed 2 = .ok (.bipush 8, 2) := by decide +kernel
theorem dX9_feed_4 : decode cX9_feed 4 = .ok (.invokestatic 141, 3) := by decide +kernel
theorem dX9_feed_7 : decode cX9_feed 7 = .ok (.ifCond .ne 11, 3) := by decide +kernel
theorem dX9_feed_10 : decode cX9_feed 10 = .ok (.aload_n 0, 1) := by decide +kernel
theorem dX9_feed_11 : decode cX9_feed 11 = .ok (.ldc2_w 152, 3) := by decide +kernel
theorem dX9_feed_14 : decode cX9_feed 14 = .ok (.invokevirtual 154, 3) := by decide +kernel
theorem dX9_feed_17 : decode cX9_feed 17 = .ok (.lreturn, 1) := by decide +kernel
theorem dX9_feed_18 : decode cX9_feed 18 = .ok (.aload_n 0, 1) := by decide +kernel
theorem dX9_feed_19 : decode cX9_feed 19 = .ok (.getfield 217, 3) := by decide +kernel
theorem dX9_feed_22 : decode cX9_feed 22 = .ok (.iload_n 3, 1) := by decide +kernel
theorem dX9_feed_23 : decode cX9_feed 23 = .ok (.iadd, 1) := by decide +kernel
theorem dX9_feed_24 : decode cX9_feed 24 = .ok (.sipush 400, 3) := by decide +kernel
theorem dX9_feed_27 : decode cX9_feed 27 = .ok (.if_icmp .le 11, 3) := by decide +kernel
theorem dX9_feed_30 : decode cX9_feed 30 = .ok (.aload_n 0, 1) := by decide +kernel
theorem dX9_feed_31 : decode cX9_feed 31 = .ok (.ldc2_w 169, 3) := by decide +kernel
theorem dX9_feed_34 : decode cX9_feed 34 = .ok (.invokevirtual 154, 3) := by decide +kernel
theorem dX9_feed_37 : decode cX9_feed 37 = .ok (.lreturn, 1) := by decide +kernel
theorem dX9_feed_38 : decode cX9_feed 38 = .ok (.iconst 0, 1) := by decide +kernel
theorem dX9_feed_39 : decode cX9_feed 39 = .ok (.istore 4, 2) := by decide +kernel
theorem dX9_feed_41 : decode cX9_feed 41 = .ok (.iload 4, 2) := by decide +kernel
theorem dX9_feed_43 : decode cX9_feed 43 = .ok (.iload_n 3, 1) := by decide +kernel
theorem dX9_feed_44 : decode cX9_feed 44 = .ok (.if_icmp .ge 40, 3) := by decide +kernel
theorem dX9_feed_47 : decode cX9_feed 47 = .ok (.aload_n 0, 1) := by decide +kernel
theorem dX9_feed_48 : decode cX9_feed 48 = .ok (.getfield 103, 3) := by decide +kernel
theorem dX9_feed_51 : decode cX9_feed 51 = .ok (.aload_n 0, 1) := by decide +kernel
theorem dX9_feed_52 : decode cX9_feed 52 = .ok (.getfield 217, 3) := by decide +kernel
theorem dX9_feed_55 : decode cX9_feed 55 = .ok (.lload_n 1, 1) := by decide +kernel
theorem dX9_feed_56 : decode cX9_feed 56 = .ok (.bipush 8, 2) := by decide +kernel
theorem dX9_feed_58 : decode cX9_feed 58 = .ok (.iload 4, 2) := by decide +kernel
theorem dX9_feed_60 : decode cX9_feed 60 = .ok (.imul, 1) := by decide +kernel
theorem dX9_feed_61 : decode cX9_feed 61 = .ok (.lshr, 1) := by decide +kernel
theorem dX9_feed_62 : decode cX9_feed 62 = .ok (.ldc2_w 220, 3) := by decide +kernel
theorem dX9_feed_65 : decode cX9_feed 65 = .ok (.land, 1) := by decide +kernel
theorem dX9_feed_66 : decode cX9_feed 66 = .ok (.l2i, 1) := by decide +kernel
theorem dX9_feed_67 : decode cX9_feed 67 = .ok (.iastore, 1) := by decide +kernel
theorem dX9_feed_68 : decode cX9_feed 68 = .ok (.aload_n 0, 1) := by decide +kernel
theorem dX9_feed_69 : decode cX9_feed 69 = .ok (.dup, 1) := by decide +kernel
theorem dX9_feed_70 : decode cX9_feed 70 = .ok (.getfield 217, 3) := by decide +kernel
theorem dX9_feed_73 : decode cX9_feed 73 = .ok (.iconst 1, 1) := by decide +kernel
theorem dX9_feed_74 : decode cX9_feed 74 = .ok (.iadd, 1) := by decide +kernel
end
section
theorem dX9_feed_75 : decode cX9_feed 75 = .ok (.putfield 217, 3) := by decide +kernel
theorem dX9_feed_78 : decode cX9_feed 78 = .ok (.iinc 4 1, 3) := by decide +kernel
theorem dX9_feed_81 : decode cX9_feed 81 = .ok (.goto (-40), 3) := by decide +kernel
theorem dX9_feed_84 : decode cX9_feed 84 = .ok (.aload_n 0, 1) := by decide +kernel
theorem dX9_feed_85 : decode cX9_feed 85 = .ok (.getfield 217, 3) := by decide +kernel
theorem dX9_feed_88 : decode cX9_feed 88 = .ok (.i2l, 1) := by decide +kernel
theorem dX9_feed_89 : decode cX9_feed 89 = .ok (.lreturn, 1) := by decide +kernel
theorem dX9_at_0 : decode cX9_at 0 = .ok (.iload_n 1, 1) := by decide +kernel
theorem dX9_at_1 : decode cX9_at 1 = .ok (.aload_n 0, 1) := by decide +kernel
theorem dX9_at_2 : decode cX9_at 2 = .ok (.getfield 217, 3) := by decide +kernel
theorem dX9_at_5 : decode cX9_at 5 = .ok (.if_icmp .ge 12, 3) := by decide +kernel
theorem dX9_at_8 : decode cX9_at 8 = .ok (.aload_n 0, 1) := by decide +kernel
theorem dX9_at_9 : decode cX9_at 9 = .ok (.getfield 103, 3) := by decide +kernel
theorem dX9_at_12 : decode cX9_at 12 = .ok (.iload_n 1, 1) := by decide +kernel
theorem dX9_at_13 : decode cX9_at 13 = .ok (.iaload, 1) := by decide +kernel
theorem dX9_at_14 : decode cX9_at 14 = .ok (.goto 4, 3) := by decide +kernel
theorem dX9_at_17 : decode cX9_at 17 = .ok (.iconst (-1), 1) := by decide +kernel
theorem dX9_at_18 : decode cX9_at 18 = .ok (.ireturn, 1) := by decide +kernel
theorem dX9_isLetter_0 : decode cX9_isLetter 0 = .ok (.iload_n 0, 1) := by decide +kernel
theorem dX9_isLetter_1 : decode cX9_isLetter 1 = .ok (.bipush 97, 2) := by decide +kernel
theorem dX9_isLetter_3 : decode cX9_isLetter 3 = .ok (.if_icmp .lt 13, 3) := by decide +kernel
theorem dX9_isLetter_6 : decode cX9_isLetter 6 = .ok (.iload_n 0, 1) := by decide +kernel
theorem dX9_isLetter_7 : decode cX9_isLetter 7 = .ok (.bipush 122, 2) := by decide +kernel
theorem dX9_isLetter_9 : decode cX9_isLetter 9 = .ok (.if_icmp .gt 7, 3) := by decide +kernel
theorem dX9_isLetter_12 : decode cX9_isLetter 12 = .ok (.iconst 1, 1) := by decide +kernel
theorem dX9_isLetter_13 : decode cX9_isLetter 13 = .ok (.goto 4, 3) := by decide +kernel
theorem dX9_isLetter_16 : decode cX9_isLetter 16 = .ok (.iconst 0, 1) := by decide +kernel
theorem dX9_isLetter_17 : decode cX9_isLetter 17 = .ok (.ireturn, 1) := by decide +kernel
theorem dX9_isFigure_0 : decode cX9_isFigure 0 = .ok (.iload_n 0, 1) := by decide +kernel
theorem dX9_isFigure_1 : decode cX9_isFigure 1 = .ok (.bipush 48, 2) := by decide +kernel
theorem dX9_isFigure_3 : decode cX9_isFigure 3 = .ok (.if_icmp .lt 13, 3) := by decide +kernel
theorem dX9_isFigure_6 : decode cX9_isFigure 6 = .ok (.iload_n 0, 1) := by decide +kernel
theorem dX9_isFigure_7 : decode cX9_isFigure 7 = .ok (.bipush 57, 2) := by decide +kernel
theorem dX9_isFigure_9 : decode cX9_isFigure 9 = .ok (.if_icmp .gt 7, 3) := by decide +kernel
theorem dX9_isFigure_12 : decode cX9_isFigure 12 = .ok (.iconst 1, 1) := by decide +kernel
theorem dX9_isFigure_13 : decode cX9_isFigure 13 = .ok (.goto 4, 3) := by decide +kernel
theorem dX9_isFigure_16 : decode cX9_isFigure 16 = .ok (.iconst 0, 1) := by decide +kernel
theorem dX9_isFigure_17 : decode cX9_isFigure 17 = .ok (.ireturn, 1) := by decide +kernel
set_option maxRecDepth 20000 in
theorem ggX9_go_X9_at : GoodIn wsX9_go wsX9_at := goodIn_r _ [10, 11, 12, 39, 40, 41, 42, 43, 44, 45, 46, 47, 48, 49, 50, 51, 52, 53, 54, 55, 56, 57, 58, 59, 60, 61, 62, 63, 64, 65, 66, 67, 68, 69, 70, 71, 72, 73, 74, 75, 76, 77, 78, 79, 80, 81, 82, 83, 84, 85, 86, 87, 88, 89, 90, 91, 92, 93] (by decide +kernel) (by decide +kernel)
set_option maxRecDepth 20000 in
theorem gX9_go_X9_at : GoodIn wsX9_go (wsV RX9 225 RX9 yX9_at wsX9_at) := goodIn_app (goodIn_of _ (by decide +kernel)) ggX9_go_X9_at
set_option maxRecDepth 20000 in
theorem ggX9_go_X9_isLetter : GoodIn wsX9_go wsX9_isLetter := goodIn_r _ [15] (by decide +kernel) (by decide +kernel)
set_option maxRecDepth 20000 in
theorem gX9_go_X9_isLetter : GoodIn wsX9_go (va_wsS RX9 238 yX9_isLetter wsX9_isLetter) := goodIn_app (goodIn_of _ (by decide +kernel)) ggX9_go_X9_isLetter
set_option maxRecDepth 20000 in
theorem ggX9_go_X9_letters : GoodIn wsX9_go wsX9_letters := goodIn_r _ [19, 1, 2, 20, 21, 22, 4, 6, 7, 8, 9, 10, 11, 12, 13, 14, 15, 23, 24, 25, 26, 27, 28, 29, 30, 31, 3, 32, 33, 34, 35, 39, 40, 41, 42, 43, 44, 45, 46, 47, 48, 49, 50, 51, 52, 53, 54, 55, 56, 57, 58, 59, 60, 61, 62, 63, 64, 65, 66, 67, 68, 69, 70, 71, 72, 73, 74, 75, 76, 77, 78, 79, 80, 81, 82, 83, 84, 85, 86, 87, 88, 89, 90, 91, 92, 93] (by decide +kernel) (by decide +kernel)
set_option maxRecDepth 20000 in
theorem gX9_go_X9_letters : GoodIn wsX9_go (wsV RX9 241 RX9 yX9_letters wsX9_letters) := goodIn_app (goodIn_of _ (by decide +kernel)) ggX9_go_X9_letters
set_option maxRecDepth 20000 in
theorem ggX9_go_X9_isFigure : GoodIn wsX9_go wsX9_isFigure := goodIn_r _ [38] (by decide +kernel) (by decide +kernel)
set_option maxRecDepth 20000 in
theorem gX9_go_X9_isFigure : GoodIn wsX9_go (va_wsS RX9 244 yX9_isFigure wsX9_isFigure) := goodIn_app (goodIn_of _ (by decide +kernel)) ggX9_go_X9_isFigure
theorem dX9_go_0 : decode cX9_go 0 = .ok (.aload_n 0, 1) := by decide +kernel
theorem dX9_go_1 : decode cX9_go 1 = .ok (.aload_n 0, 1) := by decide +kernel
theorem dX9_go_2 : decode cX9_go 2 = .ok (.getfield 222, 3) := by decide +kernel
theorem dX9_go_5 : decode cX9_go 5 = .ok (.invokevirtual 225, 3) := by decide +kernel
theorem dX9_go_8 : decode cX9_go 8 = .ok (.bipush 32, 2) := by decide +kernel
theorem dX9_go_10 : decode cX9_go 10 = .ok (.if_icmp .ne 16, 3) := by decide +kernel
theorem dX9_go_13 : decode cX9_go 13 = .ok (.aload_n 0, 1) := by decide +kernel
theorem dX9_go_14 : decode cX9_go 14 = .ok (.dup, 1) := by decide +kernel
theorem dX9_go_15 : decode cX9_go 15 = .ok (.getfield 222, 3) := by decide +kernel
theorem dX9_go_18 : decode cX9_go 18 = .ok (.iconst 1, 1) := by decide +kernel
theorem dX9_go_19 : decode cX9_go 19 = .ok (.iadd, 1) := by decide +kernel
theorem dX9_go_20 : decode cX9_go 20 = .ok (.putfield 222, 3) := by decide +kernel
theorem dX9_go_23 : decode cX9_go 23 = .ok (.goto (-23), 3) := by decide +kernel
theorem dX9_go_26 : decode cX9_go 26 = .ok (.aload_n 0, 1) := by decide +kernel
theorem dX9_go_27 : decode cX9_go 27 = .ok (.aload_n 0, 1) := by decide +kernel
theorem dX9_go_28 : decode cX9_go 28 = .ok (.getfield 222, 3) := by decide +kernel
theorem dX9_go_31 : decode cX9_go 31 = .ok (.putfield 229, 3) := by decide +kernel
theorem dX9_go_34 : decode cX9_go 34 = .ok (.aload_n 0, 1) := by decide +kernel
theorem dX9_go_35 : decode cX9_go 35 = .ok (.iconst 0, 1) := by decide +kernel
theorem dX9_go_36 : decode cX9_go 36 = .ok (.putfield 232, 3) := by decide +kernel
theorem dX9_go_39 : decode cX9_go 39 = .ok (.aload_n 0, 1) := by decide +kernel
theorem dX9_go_40 : decode cX9_go 40 = .ok (.aload_n 0, 1) := by decide +kernel
theorem dX9_go_41 : decode cX9_go 41 = .ok (.getfield 222, 3) := by decide +kernel
theorem dX9_go_44 : decode cX9_go 44 = .ok (.invokevirtual 225, 3) := by decide +kernel
theorem dX9_go_47 : decode cX9_go 47 = .ok (.istore_n 1, 1) := by decide +kernel
theorem dX9_go_48 : decode cX9_go 48 = .ok (.iload_n 1, 1) := by decide +kernel
theorem dX9_go_49 : decode cX9_go 49 = .ok (.ifCond .ge 11, 3) := by decide +kernel
theorem dX9_go_52 : decode cX9_go 52 = .ok (.aload_n 0, 1) := by decide +kernel
theorem dX9_go_53 : decode cX9_go 53 = .ok (.iconst 0, 1) := by decide +kernel
theorem dX9_go_54 : decode cX9_go 54 = .ok (.putfield 235, 3) := by decide +kernel
theorem dX9_go_57 : decode cX9_go 57 = .ok (.goto 155, 3) := by decide +kernel
theorem dX9_go_60 : decode cX9_go 60 = .ok (.iload_n 1, 1) := by decide +kernel
theorem dX9_go_61 : decode cX9_go 61 = .ok (.invokestatic 238, 3) := by decide +kernel
theorem dX9_go_64 : decode cX9_go 64 = .ok (.ifCond .eq 10, 3) := by decide +kernel
theorem dX9_go_67 : decode cX9_go 67 = .ok (.aload_n 0, 1) := by decide +kernel
theorem dX9_go_68 : decode cX9_go 68 = .ok (.invokevirtual 241, 3) := by decide +kernel
theorem dX9_go_71 : decode cX9_go 71 = .ok (.goto 141, 3) := by decide +kernel
theorem dX9_go_74 : decode cX9_go 74 = .ok (.iload_n 1, 1) := by decide +kernel
theorem dX9_go_75 : decode cX9_go 75 = .ok (.invokestatic 244, 3) := by decide +kernel
theorem dX9_go_78 : decode cX9_go 78 = .ok (.ifCond .eq 91, 3) := by decide +kernel
theorem dX9_go_81 : decode cX9_go 81 = .ok (.aload_n 0, 1) := by decide +kernel
theorem dX9_go_82 : decode cX9_go 82 = .ok (.aload_n 0, 1) := by decide +kernel
theorem dX9_go_83 : decode cX9_go 83 = .ok (.getfield 222, 3) := by decide +kernel
theorem dX9_go_86 : decode cX9_go 86 = .ok (.invokevirtual 225, 3) := by decide +kernel
theorem dX9_go_89 : decode cX9_go 89 = .ok (.invokestatic 244, 3) := by decide +kernel
theorem dX9_go_92 : decode cX9_go 92 = .ok (.ifCond .eq 55, 3) := by decide +kernel
theorem dX9_go_95 : decode cX9_go 95 = .ok (.aload_n 0, 1) := by decide +kernel
theorem dX9_go_96 : decode cX9_go 96 = .ok (.aload_n 0, 1) := by decide +kernel
theorem dX9_go_97 : decode cX9_go 97 = .ok (.getfield 232, 3) := by decide +kernel
theorem dX9_go_100 : decode cX9_go 100 = .ok (.ldc 247, 2) := by decide +kernel
theorem dX9_go_102 : decode cX9_go 102 = .ok (.if_icmp .le 10, 3) := by decide +kernel
theorem dX9_go_105 : decode cX9_go 105 = .ok (.aload_n 0, 1) := by decide +kernel
theorem dX9_go_106 : decode cX9_go 106 = .ok (.getfield 232, 3) := by decide +kernel
theorem dX9_go_109 : decode cX9_go 109 = .ok (.goto 22, 3) := by decide +kernel
theorem dX9_go_112 : decode cX9_go 112 = .ok (.bipush 10, 2) := by decide +kernel
theorem dX9_go_114 : decode cX9_go 114 = .ok (.aload_n 0, 1) := by decide +kernel
theorem dX9_go_115 : decode cX9_go 115 = .ok (.getfield 232, 3) := by decide +kernel
theorem dX9_go_118 : decode cX9_go 118 = .ok (.imul, 1) := by decide +kernel
theorem dX9_go_119 : decode cX9_go 119 = .ok (.aload_n 0, 1) := by decide +kernel
theorem dX9_go_120 : decode cX9_go 120 = .ok (.aload_n 0, 1) := by decide +kernel
theorem dX9_go_121 : decode cX9_go 121 = .ok (.getfield 222, 3) := by decide +kernel
theorem dX9_go_124 : decode cX9_go 124 = .ok (.invokevirtual 225, 3) := by decide +kernel
theorem dX9_go_127 : decode cX9_go 127 = .ok (.iadd, 1) := by decide +kernel
theorem dX9_go_128 : decode cX9_go 128 = .ok (.bipush 48, 2) := by decide +kernel
theorem dX9_go_130 : decode cX9_go 130 = .ok (.isub, 1) := by decide +kernel
theorem dX9_go_131 : decode cX9_go 131 = .ok (.putfield 232, 3) := by decide +kernel
theorem dX9_go_134 : decode cX9_go 134 = .ok (.aload_n 0, 1) := by decide +kernel
theorem dX9_go_135 : decode cX9_go 135 = .ok (.dup, 1) := by decide +kernel
theorem dX9_go_136 : decode cX9_go 136 = .ok (.getfield 222, 3) := by decide +kernel
theorem dX9_go_139 : decode cX9_go 139 = .ok (.iconst 1, 1) := by decide +kernel
theorem dX9_go_140 : decode cX9_go 140 = .ok (.iadd, 1) := by decide +kernel
theorem dX9_go_141 : decode cX9_go 141 = .ok (.putfield 222, 3) := by decide +kernel
theorem dX9_go_144 : decode cX9_go 144 = .ok (.goto (-63), 3) := by decide +kernel
theorem dX9_go_147 : decode cX9_go 147 = .ok (.aload_n 0, 1) := by decide +kernel
theorem dX9_go_148 : decode cX9_go 148 = .ok (.aload_n 0, 1) := by decide +kernel
theorem dX9_go_149 : decode cX9_go 149 = .ok (.getfield 232, 3) := by decide +kernel
theorem dX9_go_152 : decode cX9_go 152 = .ok (.ldc 247, 2) := by decide +kernel
theorem dX9_go_154 : decode cX9_go 154 = .ok (.if_icmp .le 7, 3) := by decide +kernel
theorem dX9_go_157 : decode cX9_go 157 = .ok (.iconst 1, 1) := by decide +kernel
theorem dX9_go_158 : decode cX9_go 158 = .ok (.goto 5, 3) := by decide +kernel
theorem dX9_go_161 : decode cX9_go 161 = .ok (.bipush 7, 2) := by decide +kernel
theorem dX9_go_163 : decode cX9_go 163 = .ok (.putfield 235, 3) := by decide +kernel
theorem dX9_go_166 : decode cX9_go 166 = .ok (.goto 46, 3) := by decide +kernel
theorem dX9_go_169 : decode cX9_go 169 = .ok (.aload_n 0, 1) := by decide +kernel
theorem dX9_go_170 : decode cX9_go 170 = .ok (.iload_n 1, 1) := by decide +kernel
theorem dX9_go_171 : decode cX9_go 171 = .ok (.bipush 60, 2) := by decide +kernel
theorem dX9_go_173 : decode cX9_go 173 = .ok (.if_icmp .eq 21, 3) := by decide +kernel
theorem dX9_go_176 : decode cX9_go 176 = .ok (.iload_n 1, 1) := by decide +kernel
theorem dX9_go_177 : decode cX9_go 177 = .ok (.bipush 61, 2) := by decide +kernel
theorem dX9_go_179 : decode cX9_go 179 = .ok (.if_icmp .eq 15, 3) := by decide +kernel
theorem dX9_go_182 : decode cX9_go 182 = .ok (.iload_n 1, 1) := by decide +kernel
theorem dX9_go_183 : decode cX9_go 183 = .ok (.bipush 62, 2) := by decide +kernel
theorem dX9_go_185 : decode cX9_go 185 = .ok (.if_icmp .eq 9, 3) := by decide +kernel
theorem dX9_go_188 : decode cX9_go 188 = .ok (.iload_n 1, 1) := by decide +kernel
theorem dX9_go_189 : decode cX9_go 189 = .ok (.bipush 59, 2) := by decide +kernel
theorem dX9_go_191 : decode cX9_go 191 = .ok (.if_icmp .ne 7, 3) := by decide +kernel
theorem dX9_go_194 : decode cX9_go 194 = .ok (.iload_n 1, 1) := by decide +kernel
theorem dX9_go_195 : decode cX9_go 195 = .ok (.goto 4, 3) := by decide +kernel
theorem dX9_go_198 : decode cX9_go 198 = .ok (.iconst 1, 1) := by decide +kernel
theorem dX9_go_199 : decode cX9_go 199 = .ok (.putfield 235, 3) := by decide +kernel
theorem dX9_go_202 : decode cX9_go 202 = .ok (.aload_n 0, 1) := by decide +kernel
theorem dX9_go_203 : decode cX9_go 203 = .ok (.dup, 1) := by decide +kernel
theorem dX9_go_204 : decode cX9_go 204 = .ok (.getfield 222, 3) := by decide +kernel
theorem dX9_go_207 : decode cX9_go 207 = .ok (.iconst 1, 1) := by decide +kernel
theorem dX9_go_208 : decode cX9_go 208 = .ok (.iadd, 1) := by decide +kernel
theorem dX9_go_209 : decode cX9_go 209 = .ok (.putfield 222, 3) := by decide +kernel
theorem dX9_go_212 : decode cX9_go 212 = .ok (.return_, 1) := by decide +kernel
set_option maxRecDepth 20000 in
theorem ggX9_letters_X9_at : GoodIn wsX9_letters wsX9_at := goodIn_r _ [11, 12, 13, 31, 32, 33, 34, 35, 36, 37, 38, 39, 40, 41, 42, 43, 44, 45, 46, 47, 48, 49, 50, 51, 52, 53, 54, 55, 56, 57, 58, 59, 60, 61, 62, 63, 64, 65, 66, 67, 68, 69, 70, 71, 72, 73, 74, 75, 76, 77, 78, 79, 80, 81, 82, 83, 84, 85] (by decide +kernel) (by decide +kernel)
set_option maxRecDepth 20000 in
theorem gX9_letters_X9_at : GoodIn wsX9_letters (wsV RX9 225 RX9 yX9_at wsX9_at) := goodIn_app (goodIn_of _ (by decide +kernel)) ggX9_letters_X9_at
set_option maxRecDepth 20000 in
theorem ggX9_letters_X9_isLetter : GoodIn wsX9_letters wsX9_isLetter := goodIn_r _ [16] (by decide +kernel) (by decide +kernel)
set_option maxRecDepth 20000 in
theorem gX9_letters_X9_isLetter : GoodIn wsX9_letters (va_wsS RX9 238 yX9_isLetter wsX9_isLetter) := goodIn_app (goodIn_of _ (by decide +kernel)) ggX9_letters_X9_isLetter
set_option maxRecDepth 20000 in
theorem ggX9_letters_X9_wordOf : GoodIn wsX9_letters wsX9_wordOf := goodIn_r _ [20, 21, 22, 23, 24, 25, 26, 27, 28, 29, 30, 31, 32, 33, 34, 35, 36, 37, 38, 39, 40, 41, 42, 43, 44, 45, 46, 47, 48, 49, 50, 51, 52, 53, 54, 55, 56, 57, 58, 59, 60, 61, 62, 63, 64, 65, 66, 67, 68, 69, 70, 71, 72, 73, 74, 75, 76, 77, 78, 79, 80, 81, 82, 83, 84, 85] (by decide +kernel) (by decide +kernel)
set_option maxRecDepth 20000 in
theorem gX9_letters_X9_wordOf : GoodIn wsX9_letters (wsV RX9 250 RX9 yX9_wordOf wsX9_wordOf) := goodIn_app (goodIn_of _ (by decide +kernel)) ggX9_letters_X9_wordOf
theorem dX9_letters_0 : decode cX9_letters 0 = .ok (.lconst 0, 1) := by decide +kernel
theorem dX9_letters_1 : decode cX9_letters 1 = .ok (.lstore_n 1, 1) := by decide +kernel
theorem dX9_letters_2 : decode cX9_letters 2 = .ok (.aload_n 0, 1) := by decide +kernel
theorem dX9_letters_3 : decode cX9_letters 3 = .ok (.aload_n 0, 1) := by decide +kernel
theorem dX9_letters_4 : decode cX9_letters 4 = .ok (.getfield 222, 3) := by decide +kernel
theorem dX9_letters_7 : decode cX9_letters 7 = .ok (.invokevirtual 225, 3) := by decide +kernel
theorem dX9_letters_10 : decode cX9_letters 10 = .ok (.invokestatic 238, 3) := by decide +kernel
theorem dX9_letters_13 : decode cX9_letters 13 = .ok (.ifCond .eq 78, 3) := by decide +kernel
theorem dX9_letters_16 : decode cX9_letters 16 = .ok (.aload_n 0, 1) := by decide +kernel
theorem dX9_letters_17 : decode cX9_letters 17 = .ok (.getfield 222, 3) := by decide +kernel
theorem dX9_letters_20 : decode cX9_letters 20 = .ok (.aload_n 0, 1) := by decide +kernel
theorem dX9_letters_21 : decode cX9_letters 21 = .ok (.getfield 229, 3) := by decide +kernel
theorem dX9_letters_24 : decode cX9_letters 24 = .ok (.isub, 1) := by decide +kernel
theorem dX9_letters_25 : decode cX9_letters 25 = .ok (.bipush 12, 2) := by decide +kernel
theorem dX9_letters_27 : decode cX9_letters 27 = .ok (.if_icmp .ge 25, 3) := by decide +kernel
theorem dX9_letters_30 : decode cX9_letters 30 = .ok (.lload_n 1, 1) := by decide +kernel
theorem dX9_letters_31 : decode cX9_letters 31 = .ok (.ldc2_w 163, 3) := by decide +kernel
theorem dX9_letters_34 : decode cX9_letters 34 = .ok (.lmul, 1) := by decide +kernel
theorem dX9_letters_35 : decode cX9_letters 35 = .ok (.aload_n 0, 1) := by decide +kernel
theorem dX9_letters_36 : decode cX9_letters 36 = .ok (.aload_n 0, 1) := by decide +kernel
theorem dX9_letters_37 : decode cX9_letters 37 = .ok (.getfield 222, 3) := by decide +kernel
theorem dX9_letters_40 : decode cX9_letters 40 = .ok (.invokevirtual 225, 3) := by decide +kernel
theorem dX9_letters_43 : decode cX9_letters 43 = .ok (.i2l, 1) := by decide +kernel
theorem dX9_letters_44 : decode cX9_letters 44 = .ok (.ladd, 1) := by decide +kernel
theorem dX9_letters_45 : decode cX9_letters 45 = .ok (.ldc2_w 248, 3) := by decide +kernel
theorem dX9_letters_48 : decode cX9_letters 48 = .ok (.lsub, 1) := by decide +kernel
theorem dX9_letters_49 : decode cX9_letters 49 = .ok (.goto 6, 3) := by decide +kernel
theorem dX9_letters_52 : decode cX9_letters 52 = .ok (.ldc2_w 106, 3) := by decide +kernel
theorem dX9_letters_55 : decode cX9_letters 55 = .ok (.lstore_n 1, 1) := by decide +kernel
theorem dX9_letters_56 : decode cX9_letters 56 = .ok (.aload_n 0, 1) := by decide +kernel
theorem dX9_letters_57 : decode cX9_letters 57 = .ok (.getfield 222, 3) := by decide +kernel
theorem dX9_letters_60 : decode cX9_letters 60 = .ok (.aload_n 0, 1) := by decide +kernel
theorem dX9_letters_61 : decode cX9_letters 61 = .ok (.getfield 229, 3) := by decide +kernel
theorem dX9_letters_64 : decode cX9_letters 64 = .ok (.isub, 1) := by decide +kernel
theorem dX9_letters_65 : decode cX9_letters 65 = .ok (.bipush 12, 2) := by decide +kernel
theorem dX9_letters_67 : decode cX9_letters 67 = .ok (.if_icmp .lt 9, 3) := by decide +kernel
theorem dX9_letters_70 : decode cX9_letters 70 = .ok (.ldc2_w 106, 3) := by decide +kernel
theorem dX9_letters_73 : decode cX9_letters 73 = .ok (.goto 4, 3) := by decide +kernel
theorem dX9_letters_76 : decode cX9_letters 76 = .ok (.lload_n 1, 1) := by decide +kernel
theorem dX9_letters_77 : decode cX9_letters 77 = .ok (.lstore_n 1, 1) := by decide +kernel
theorem dX9_letters_78 : decode cX9_letters 78 = .ok (.aload_n 0, 1) := by decide +kernel
theorem dX9_letters_79 : decode cX9_letters 79 = .ok (.dup, 1) := by decide +kernel
theorem dX9_letters_80 : decode cX9_letters 80 = .ok (.getfield 222, 3) := by decide +kernel
theorem dX9_letters_83 : decode cX9_letters 83 = .ok (.iconst 1, 1) := by decide +kernel
theorem dX9_letters_84 : decode cX9_letters 84 = .ok (.iadd, 1) := by decide +kernel
theorem dX9_letters_85 : decode cX9_letters 85 = .ok (.putfield 222, 3) := by decide +kernel
theorem dX9_letters_88 : decode cX9_letters 88 = .ok (.goto (-86), 3) := by decide +kernel
theorem dX9_letters_91 : decode cX9_letters 91 = .ok (.aload_n 0, 1) := by decide +kernel
theorem dX9_letters_92 : decode cX9_letters 92 = .ok (.aload_n 0, 1) := by decide +kernel
theorem dX9_letters_93 : decode cX9_letters 93 = .ok (.getfield 222, 3) := by decide +kernel
theorem dX9_letters_96 : decode cX9_letters 96 = .ok (.aload_n 0, 1) := by decide +kernel
theorem dX9_letters_97 : decode cX9_letters 97 = .ok (.getfield 229, 3) := by decide +kernel
theorem dX9_letters_100 : decode cX9_letters 100 = .ok (.isub, 1) := by decide +kernel
theorem dX9_letters_101 : decode cX9_letters 101 = .ok (.bipush 12, 2) := by decide +kernel
theorem dX9_letters_103 : decode cX9_letters 103 = .ok (.if_icmp .le 7, 3) := by decide +kernel
theorem dX9_letters_106 : decode cX9_letters 106 = .ok (.iconst 1, 1) := by decide +kernel
theorem dX9_letters_107 : decode cX9_letters 107 = .ok (.goto 8, 3) := by decide +kernel
theorem dX9_letters_110 : decode cX9_letters 110 = .ok (.aload_n 0, 1) := by decide +kernel
theorem dX9_letters_111 : decode cX9_letters 111 = .ok (.lload_n 1, 1) := by decide +kernel
theorem dX9_letters_112 : decode cX9_letters 112 = .ok (.invokevirtual 250, 3) := by decide +kernel
theorem dX9_letters_115 : decode cX9_letters 115 = .ok (.putfield 235, 3) := by decide +kernel
theorem dX9_letters_118 : decode cX9_letters 118 = .ok (.return_, 1) := by decide +kernel
theorem dX9_wordOf_0 : decode cX9_wordOf 0 = .ok (.lload_n 1, 1) := by decide +kernel
theorem dX9_wordOf_1 : decode cX9_wordOf 1 = .ok (.ldc2_w 254, 3) := by decide +kernel
theorem dX9_wordOf_4 : decode cX9_wordOf 4 = .ok (.lcmp, 1) := by decide +kernel
theorem dX9_wordOf_5 : decode cX9_wordOf 5 = .ok (.ifCond .ne 5, 3) := by decide +kernel
theorem dX9_wordOf_8 : decode cX9_wordOf 8 = .ok (.iconst 2, 1) := by decide +kernel
theorem dX9_wordOf_9 : decode cX9_wordOf 9 = .ok (.ireturn, 1) := by decide +kernel
theorem dX9_wordOf_10 : decode cX9_wordOf 10 = .ok (.lload_n 1, 1) := by decide +kernel
theorem dX9_wordOf_11 : decode cX9_wordOf 11 = .ok (.ldc2_w 256, 3) := by decide +kernel
theorem dX9_wordOf_14 : decode cX9_wordOf 14 = .ok (.lcmp, 1) := by decide +kernel
theorem dX9_wordOf_15 : decode cX9_wordOf 15 = .ok (.ifCond .ne 5, 3) := by decide +kernel
theorem dX9_wordOf_18 : decode cX9_wordOf 18 = .ok (.iconst 3, 1) := by decide +kernel
theorem dX9_wordOf_19 : decode cX9_wordOf 19 = .ok (.ireturn, 1) := by decide +kernel
theorem dX9_wordOf_20 : decode cX9_wordOf 20 = .ok (.lload_n 1, 1) := by decide +kernel
theorem dX9_wordOf_21 : decode cX9_wordOf 21 = .ok (.ldc2_w 258, 3) := by decide +kernel
theorem dX9_wordOf_24 : decode cX9_wordOf 24 = .ok (.lcmp, 1) := by decide +kernel
theorem dX9_wordOf_25 : decode cX9_wordOf 25 = .ok (.ifCond .ne 5, 3) := by decide +kernel
theorem dX9_wordOf_28 : decode cX9_wordOf 28 = .ok (.iconst 4, 1) := by decide +kernel
theorem dX9_wordOf_29 : decode cX9_wordOf 29 = .ok (.ireturn, 1) := by decide +kernel
theorem dX9_wordOf_30 : decode cX9_wordOf 30 = .ok (.lload_n 1, 1) := by decide +kernel
theorem dX9_wordOf_31 : decode cX9_wordOf 31 = .ok (.ldc2_w 260, 3) := by decide +kernel
theorem dX9_wordOf_34 : decode cX9_wordOf 34 = .ok (.lcmp, 1) := by decide +kernel
theorem dX9_wordOf_35 : decode cX9_wordOf 35 = .ok (.ifCond .ne 5, 3) := by decide +kernel
theorem dX9_wordOf_38 : decode cX9_wordOf 38 = .ok (.iconst 5, 1) := by decide +kernel
theorem dX9_wordOf_39 : decode cX9_wordOf 39 = .ok (.ireturn, 1) := by decide +kernel
theorem dX9_wordOf_40 : decode cX9_wordOf 40 = .ok (.lload_n 1, 1) := by decide +kernel
theorem dX9_wordOf_41 : decode cX9_wordOf 41 = .ok (.ldc2_w 262, 3) := by decide +kernel
theorem dX9_wordOf_44 : decode cX9_wordOf 44 = .ok (.lcmp, 1) := by decide +kernel
theorem dX9_wordOf_45 : decode cX9_wordOf 45 = .ok (.ifCond .ne 11, 3) := by decide +kernel
theorem dX9_wordOf_48 : decode cX9_wordOf 48 = .ok (.aload_n 0, 1) := by decide +kernel
theorem dX9_wordOf_49 : decode cX9_wordOf 49 = .ok (.iconst 0, 1) := by decide +kernel
theorem dX9_wordOf_50 : decode cX9_wordOf 50 = .ok (.putfield 232, 3) := by decide +kernel
theorem dX9_wordOf_53 : decode cX9_wordOf 53 = .ok (.bipush 6, 2) := by decide +kernel
theorem dX9_wordOf_55 : decode cX9_wordOf 55 = .ok (.ireturn, 1) := by decide +kernel
theorem dX9_wordOf_56 : decode cX9_wordOf 56 = .ok (.lload_n 1, 1) := by decide +kernel
theorem dX9_wordOf_57 : decode cX9_wordOf 57 = .ok (.ldc2_w 264, 3) := by decide +kernel
theorem dX9_wordOf_60 : decode cX9_wordOf 60 = .ok (.lcmp, 1) := by decide +kernel
theorem dX9_wordOf_61 : decode cX9_wordOf 61 = .ok (.ifCond .ne 11, 3) := by decide +kernel
theorem dX9_wordOf_64 : decode cX9_wordOf 64 = .ok (.aload_n 0, 1) := by decide +kernel
theorem dX9_wordOf_65 : decode cX9_wordOf 65 = .ok (.iconst 1, 1) := by decide +kernel
theorem dX9_wordOf_66 : decode cX9_wordOf 66 = .ok (.putfield 232, 3) := by decide +kernel
theorem dX9_wordOf_69 : decode cX9_wordOf 69 = .ok (.bipush 6, 2) := by decide +kernel
theorem dX9_wordOf_71 : decode cX9_wordOf 71 = .ok (.ireturn, 1) := by decide +kernel
theorem dX9_wordOf_72 : decode cX9_wordOf 72 = .ok (.lload_n 1, 1) := by decide +kernel
theorem dX9_wordOf_73 : decode cX9_wordOf 73 = .ok (.ldc2_w 266, 3) := by decide +kernel
theorem dX9_wordOf_76 : decode cX9_wordOf 76 = .ok (.lcmp, 1) := by decide +kernel
theorem dX9_wordOf_77 : decode cX9_wordOf 77 = .ok (.ifCond .ne 11, 3) := by decide +kernel
theorem dX9_wordOf_80 : decode cX9_wordOf 80 = .ok (.aload_n 0, 1) := by decide +kernel
theorem dX9_wordOf_81 : decode cX9_wordOf 81 = .ok (.iconst 2, 1) := by decide +kernel
theorem dX9_wordOf_82 : decode cX9_wordOf 82 = .ok (.putfield 232, 3) := by decide +kernel
theorem dX9_wordOf_85 : decode cX9_wordOf 85 = .ok (.bipush 6, 2) := by decide +kernel
theorem dX9_wordOf_87 : decode cX9_wordOf 87 = .ok (.ireturn, 1) := by decide +kernel
theorem dX9_wordOf_88 : decode cX9_wordOf 88 = .ok (.lload_n 1, 1) := by decide +kernel
theorem dX9_wordOf_89 : decode cX9_wordOf 89 = .ok (.ldc2_w 268, 3) := by decide +kernel
theorem dX9_wordOf_92 : decode cX9_wordOf 92 = .ok (.lcmp, 1) := by decide +kernel
theorem dX9_wordOf_93 : decode cX9_wordOf 93 = .ok (.ifCond .ne 11, 3) := by decide +kernel
theorem dX9_wordOf_96 : decode cX9_wordOf 96 = .ok (.aload_n 0, 1) := by decide +kernel
theorem dX9_wordOf_97 : decode cX9_wordOf 97 = .ok (.iconst 3, 1) := by decide +kernel
theorem dX9_wordOf_98 : decode cX9_wordOf 98 = .ok (.putfield 232, 3) := by decide +kernel
theorem dX9_wordOf_101 : decode cX9_wordOf 101 = .ok (.bipush 6, 2) := by decide +kernel
theorem dX9_wordOf_103 : decode cX9_wordOf 103 = .ok (.ireturn, 1) := by decide +kernel
theorem dX9_wordOf_104 : decode cX9_wordOf 104 = .ok (.lload_n 1, 1) := by decide +kernel
theorem dX9_wordOf_105 : decode cX9_wordOf 105 = .ok (.ldc2_w 270, 3) := by decide +kernel
theorem dX9_wordOf_108 : decode cX9_wordOf 108 = .ok (.lcmp, 1) := by decide +kernel
theorem dX9_wordOf_109 : decode cX9_wordOf 109 = .ok (.ifCond .ne 11, 3) := by decide +kernel
theorem dX9_wordOf_112 : decode cX9_wordOf 112 = .ok (.aload_n 0, 1) := by decide +kernel
theorem dX9_wordOf_113 : decode cX9_wordOf 113 = .ok (.iconst 4, 1) := by decide +kernel
theorem dX9_wordOf_114 : decode cX9_wordOf 114 = .ok (.putfield 232, 3) := by decide +kernel
theorem dX9_wordOf_117 : decode cX9_wordOf 117 = .ok (.bipush 6, 2) := by decide +kernel
theorem dX9_wordOf_119 : decode cX9_wordOf 119 = .ok (.ireturn, 1) := by decide +kernel
theorem dX9_wordOf_120 : decode cX9_wordOf 120 = .ok (.iconst 1, 1) := by decide +kernel
theorem dX9_wordOf_121 : decode cX9_wordOf 121 = .ok (.ireturn, 1) := by decide +kernel
theorem dX9_wrong_0 : decode cX9_wrong 0 = .ok (.aload_n 0, 1) := by decide +kernel
theorem dX9_wrong_1 : decode cX9_wrong 1 = .ok (.aload_n 0, 1) := by decide +kernel
theorem dX9_wrong_2 : decode cX9_wrong 2 = .ok (.getfield 229, 3) := by decide +kernel
theorem dX9_wrong_5 : decode cX9_wrong 5 = .ok (.i2l, 1) := by decide +kernel
theorem dX9_wrong_6 : decode cX9_wrong 6 = .ok (.putfield 108, 3) := by decide +kernel
theorem dX9_wrong_9 : decode cX9_wrong 9 = .ok (.iconst 0, 1) := by decide +kernel
theorem dX9_wrong_10 : decode cX9_wrong 10 = .ok (.ireturn, 1) := by decide +kernel
set_option maxRecDepth 20000 in
theorem ggX9_test_X9_wrong : GoodIn wsX9_test wsX9_wrong := goodIn_r _ [12, 13, 14, 53, 54, 55, 56, 57, 58, 59, 60, 61, 62, 63, 64, 65, 66, 67, 68, 69, 70, 71, 72, 73, 74, 75, 76, 77, 78, 79, 80, 81, 82, 83, 84, 85, 86, 87, 88, 89, 90, 91, 92, 93, 94, 95, 96, 97, 98, 99, 100, 101, 102, 103, 104, 105, 106, 107] (by decide +kernel) (by decide +kernel)
set_option maxRecDepth 20000 in
theorem gX9_test_X9_wrong : GoodIn wsX9_test (wsV RX9 275 RX9 yX9_wrong wsX9_wrong) := goodIn_app (goodIn_of _ (by decide +kernel)) ggX9_test_X9_wrong
set_option maxRecDepth 20000 in
theorem ggX9_test_X9_go : GoodIn wsX9_test wsX9_go := goodIn_r _ [18, 19, 13, 5, 3, 20, 21, 22, 23, 11, 24, 25, 26, 27, 28, 29, 30, 31, 32, 33, 34, 35, 36, 37, 38, 39, 40, 41, 42, 43, 44, 45, 46, 47, 48, 49, 50, 51, 52, 53, 54, 55, 56, 57, 58, 59, 60, 61, 62, 63, 64, 65, 66, 67, 68, 69, 70, 71, 72, 73, 74, 75, 76, 77, 78, 79, 80, 81, 82, 83, 84, 85, 86, 87, 88, 89, 90, 91, 92, 93, 94, 95, 96, 97, 98, 99, 100, 101, 102, 103, 104, 105, 106, 107] (by decide +kernel) (by decide +kernel)
set_option maxRecDepth 20000 in
theorem gX9_test_X9_go : GoodIn wsX9_test (wsV RX9 278 RX9 yX9_go wsX9_go) := goodIn_app (goodIn_of _ (by decide +kernel)) ggX9_test_X9_go
theorem dX9_test_0 : decode cX9_test 0 = .ok (.iconst 4, 1) := by decide +kernel
theorem dX9_test_1 : decode cX9_test 1 = .ok (.aload_n 0, 1) := by decide +kernel
theorem dX9_test_2 : decode cX9_test 2 = .ok (.getfield 272, 3) := by decide +kernel
theorem dX9_test_5 : decode cX9_test 5 = .ok (.iconst 1, 1) := by decide +kernel
theorem dX9_test_6 : decode cX9_test 6 = .ok (.isub, 1) := by decide +kernel
theorem dX9_test_7 : decode cX9_test 7 = .ok (.imul, 1) := by decide +kernel
theorem dX9_test_8 : decode cX9_test 8 = .ok (.aload_n 0, 1) := by decide +kernel
theorem dX9_test_9 : decode cX9_test 9 = .ok (.getfield 91, 3) := by decide +kernel
theorem dX9_test_12 : decode cX9_test 12 = .ok (.aload_n 0, 1) := by decide +kernel
theorem dX9_test_13 : decode cX9_test 13 = .ok (.getfield 272, 3) := by decide +kernel
theorem dX9_test_16 : decode cX9_test 16 = .ok (.iconst 1, 1) := by decide +kernel
theorem dX9_test_17 : decode cX9_test 17 = .ok (.isub, 1) := by decide +kernel
theorem dX9_test_18 : decode cX9_test 18 = .ok (.iaload, 1) := by decide +kernel
theorem dX9_test_19 : decode cX9_test 19 = .ok (.iadd, 1) := by decide +kernel
theorem dX9_test_20 : decode cX9_test 20 = .ok (.istore_n 1, 1) := by decide +kernel
theorem dX9_test_21 : decode cX9_test 21 = .ok (.aload_n 0, 1) := by decide +kernel
theorem dX9_test_22 : decode cX9_test 22 = .ok (.getfield 235, 3) := by decide +kernel
theorem dX9_test_25 : decode cX9_test 25 = .ok (.bipush 6, 2) := by decide +kernel
theorem dX9_test_27 : decode cX9_test 27 = .ok (.if_icmp .eq 8, 3) := by decide +kernel
theorem dX9_test_30 : decode cX9_test 30 = .ok (.aload_n 0, 1) := by decide +kernel
theorem dX9_test_31 : decode cX9_test 31 = .ok (.invokevirtual 275, 3) := by decide +kernel
theorem dX9_test_34 : decode cX9_test 34 = .ok (.ireturn, 1) := by decide +kernel
theorem dX9_test_35 : decode cX9_test 35 = .ok (.aload_n 0, 1) := by decide +kernel
theorem dX9_test_36 : decode cX9_test 36 = .ok (.getfield 94, 3) := by decide +kernel
theorem dX9_test_39 : decode cX9_test 39 = .ok (.iload_n 1, 1) := by decide +kernel
theorem dX9_test_40 : decode cX9_test 40 = .ok (.aload_n 0, 1) := by decide +kernel
theorem dX9_test_41 : decode cX9_test 41 = .ok (.getfield 232, 3) := by decide +kernel
theorem dX9_test_44 : decode cX9_test 44 = .ok (.iastore, 1) := by decide +kernel
theorem dX9_test_45 : decode cX9_test 45 = .ok (.aload_n 0, 1) := by decide +kernel
theorem dX9_test_46 : decode cX9_test 46 = .ok (.invokevirtual 278, 3) := by decide +kernel
theorem dX9_test_49 : decode cX9_test 49 = .ok (.aload_n 0, 1) := by decide +kernel
theorem dX9_test_50 : decode cX9_test 50 = .ok (.getfield 235, 3) := by decide +kernel
theorem dX9_test_53 : decode cX9_test 53 = .ok (.bipush 60, 2) := by decide +kernel
theorem dX9_test_55 : decode cX9_test 55 = .ok (.if_icmp .eq 26, 3) := by decide +kernel
theorem dX9_test_58 : decode cX9_test 58 = .ok (.aload_n 0, 1) := by decide +kernel
theorem dX9_test_59 : decode cX9_test 59 = .ok (.getfield 235, 3) := by decide +kernel
theorem dX9_test_62 : decode cX9_test 62 = .ok (.bipush 61, 2) := by decide +kernel
theorem dX9_test_64 : decode cX9_test 64 = .ok (.if_icmp .eq 17, 3) := by decide +kernel
theorem dX9_test_67 : decode cX9_test 67 = .ok (.aload_n 0, 1) := by decide +kernel
theorem dX9_test_68 : decode cX9_test 68 = .ok (.getfield 235, 3) := by decide +kernel
theorem dX9_test_71 : decode cX9_test 71 = .ok (.bipush 62, 2) := by decide +kernel
theorem dX9_test_73 : decode cX9_test 73 = .ok (.if_icmp .eq 8, 3) := by decide +kernel
theorem dX9_test_76 : decode cX9_test 76 = .ok (.aload_n 0, 1) := by decide +kernel
theorem dX9_test_77 : decode cX9_test 77 = .ok (.invokevirtual 275, 3) := by decide +kernel
theorem dX9_test_80 : decode cX9_test 80 = .ok (.ireturn, 1) := by decide +kernel
theorem dX9_test_81 : decode cX9_test 81 = .ok (.aload_n 0, 1) := by decide +kernel
theorem dX9_test_82 : decode cX9_test 82 = .ok (.getfield 97, 3) := by decide +kernel
theorem dX9_test_85 : decode cX9_test 85 = .ok (.iload_n 1, 1) := by decide +kernel
theorem dX9_test_86 : decode cX9_test 86 = .ok (.aload_n 0, 1) := by decide +kernel
theorem dX9_test_87 : decode cX9_test 87 = .ok (.getfield 235, 3) := by decide +kernel
theorem dX9_test_90 : decode cX9_test 90 = .ok (.iastore, 1) := by decide +kernel
theorem dX9_test_91 : decode cX9_test 91 = .ok (.aload_n 0, 1) := by decide +kernel
theorem dX9_test_92 : decode cX9_test 92 = .ok (.invokevirtual 278, 3) := by decide +kernel
theorem dX9_test_95 : decode cX9_test 95 = .ok (.aload_n 0, 1) := by decide +kernel
theorem dX9_test_96 : decode cX9_test 96 = .ok (.getfield 235, 3) := by decide +kernel
theorem dX9_test_99 : decode cX9_test 99 = .ok (.bipush 7, 2) := by decide +kernel
theorem dX9_test_101 : decode cX9_test 101 = .ok (.if_icmp .eq 8, 3) := by decide +kernel
theorem dX9_test_104 : decode cX9_test 104 = .ok (.aload_n 0, 1) := by decide +kernel
theorem dX9_test_105 : decode cX9_test 105 = .ok (.invokevirtual 275, 3) := by decide +kernel
theorem dX9_test_108 : decode cX9_test 108 = .ok (.ireturn, 1) := by decide +kernel
theorem dX9_test_109 : decode cX9_test 109 = .ok (.aload_n 0, 1) := by decide +kernel
theorem dX9_test_110 : decode cX9_test 110 = .ok (.getfield 100, 3) := by decide +kernel
theorem dX9_test_113 : decode cX9_test 113 = .ok (.iload_n 1, 1) := by decide +kernel
theorem dX9_test_114 : decode cX9_test 114 = .ok (.aload_n 0, 1) := by decide +kernel
theorem dX9_test_115 : decode cX9_test 115 = .ok (.getfield 232, 3) := by decide +kernel
theorem dX9_test_118 : decode cX9_test 118 = .ok (.iastore, 1) := by decide +kernel
theorem dX9_test_119 : decode cX9_test 119 = .ok (.aload_n 0, 1) := by decide +kernel
theorem dX9_test_120 : decode cX9_test 120 = .ok (.getfield 91, 3) := by decide +kernel
theorem dX9_test_123 : decode cX9_test 123 = .ok (.aload_n 0, 1) := by decide +kernel
theorem dX9_test_124 : decode cX9_test 124 = .ok (.getfield 272, 3) := by decide +kernel
theorem dX9_test_127 : decode cX9_test 127 = .ok (.iconst 1, 1) := by decide +kernel
theorem dX9_test_128 : decode cX9_test 128 = .ok (.isub, 1) := by decide +kernel
theorem dX9_test_129 : decode cX9_test 129 = .ok (.dup2, 1) := by decide +kernel
theorem dX9_test_130 : decode cX9_test 130 = .ok (.iaload, 1) := by decide +kernel
theorem dX9_test_131 : decode cX9_test 131 = .ok (.iconst 1, 1) := by decide +kernel
theorem dX9_test_132 : decode cX9_test 132 = .ok (.iadd, 1) := by decide +kernel
theorem dX9_test_133 : decode cX9_test 133 = .ok (.iastore, 1) := by decide +kernel
theorem dX9_test_134 : decode cX9_test 134 = .ok (.aload_n 0, 1) := by decide +kernel
theorem dX9_test_135 : decode cX9_test 135 = .ok (.invokevirtual 278, 3) := by decide +kernel
theorem dX9_test_138 : decode cX9_test 138 = .ok (.iconst 1, 1) := by decide +kernel
theorem dX9_test_139 : decode cX9_test 139 = .ok (.ireturn, 1) := by decide +kernel
set_option maxRecDepth 20000 in
theorem ggX9_clause_X9_wrong : GoodIn wsX9_clause wsX9_wrong := goodIn_r _ [9, 10, 11, 58, 59, 60, 61, 62, 63, 64, 65, 66, 67, 68, 69, 70, 71, 72, 73, 74, 75, 76, 77, 78, 79, 80, 81, 82, 83, 84, 85, 86, 87, 88, 89, 90, 91, 92, 93, 94, 95, 96, 97, 98, 99, 100, 101, 102, 103, 104, 105, 106, 107, 108, 109, 110, 111, 112] (by decide +kernel) (by decide +kernel)
set_option maxRecDepth 20000 in
theorem gX9_clause_X9_wrong : GoodIn wsX9_clause (wsV RX9 275 RX9 yX9_wrong wsX9_wrong) := goodIn_app (goodIn_of _ (by decide +kernel)) ggX9_clause_X9_wrong
set_option maxRecDepth 20000 in
theorem ggX9_clause_X9_go : GoodIn wsX9_clause wsX9_go := goodIn_r _ [15, 16, 10, 17, 1, 18, 19, 20, 21, 8, 22, 23, 24, 25, 26, 27, 28, 29, 30, 31, 32, 33, 34, 35, 36, 37, 38, 39, 40, 41, 42, 43, 44, 45, 46, 47, 48, 49, 50, 58, 59, 60, 61, 62, 63, 64, 65, 66, 67, 68, 69, 70, 71, 72, 73, 74, 75, 76, 77, 78, 79, 80, 81, 82, 83, 84, 85, 86, 87, 88, 89, 90, 91, 92, 93, 94, 95, 96, 97, 98, 99, 100, 101, 102, 103, 104, 105, 106, 107, 108, 109, 110, 111, 112] (by decide +kernel) (by decide +kernel)
set_option maxRecDepth 20000 in
theorem gX9_clause_X9_go : GoodIn wsX9_clause (wsV RX9 278 RX9 yX9_go wsX9_go) := goodIn_app (goodIn_of _ (by decide +kernel)) ggX9_clause_X9_go
set_option maxRecDepth 20000 in
theorem ggX9_clause_X9_test : GoodIn wsX9_clause wsX9_test := goodIn_r _ [54, 3, 4, 1, 55, 17, 56, 57, 5, 6, 7, 8, 9, 10, 11, 12, 13, 14, 15, 16, 18, 19, 20, 21, 22, 23, 24, 25, 26, 27, 28, 29, 30, 31, 32, 33, 34, 35, 36, 37, 38, 39, 40, 41, 42, 43, 44, 45, 46, 47, 48, 49, 50, 58, 59, 60, 61, 62, 63, 64, 65, 66, 67, 68, 69, 70, 71, 72, 73, 74, 75, 76, 77, 78, 79, 80, 81, 82, 83, 84, 85, 86, 87, 88, 89, 90, 91, 92, 93, 94, 95, 96, 97, 98, 99, 100, 101, 102, 103, 104, 105, 106, 107, 108, 109, 110, 111, 112] (by decide +kernel) (by decide +kernel)
set_option maxRecDepth 20000 in
theorem gX9_clause_X9_test : GoodIn wsX9_clause (wsV RX9 281 RX9 yX9_test wsX9_test) := goodIn_app (goodIn_of _ (by decide +kernel)) ggX9_clause_X9_test
theorem dX9_clause_0 : decode cX9_clause 0 = .ok (.aload_n 0, 1) := by decide +kernel
theorem dX9_clause_1 : decode cX9_clause 1 = .ok (.getfield 235, 3) := by decide +kernel
theorem dX9_clause_4 : decode cX9_clause 4 = .ok (.iconst 2, 1) := by decide +kernel
theorem dX9_clause_5 : decode cX9_clause 5 = .ok (.if_icmp .eq 16, 3) := by decide +kernel
theorem dX9_clause_8 : decode cX9_clause 8 = .ok (.aload_n 0, 1) := by decide +kernel
theorem dX9_clause_9 : decode cX9_clause 9 = .ok (.getfield 235, 3) := by decide +kernel
theorem dX9_clause_12 : decode cX9_clause 12 = .ok (.iconst 3, 1) := by decide +kernel
theorem dX9_clause_13 : decode cX9_clause 13 = .ok (.if_icmp .eq 8, 3) := by decide +kernel
theorem dX9_clause_16 : decode cX9_clause 16 = .ok (.aload_n 0, 1) := by decide +kernel
theorem dX9_clause_17 : decode cX9_clause 17 = .ok (.invokevirtual 275, 3) := by decide +kernel
theorem dX9_clause_20 : decode cX9_clause 20 = .ok (.ireturn, 1) := by decide +kernel
theorem dX9_clause_21 : decode cX9_clause 21 = .ok (.aload_n 0, 1) := by decide +kernel
theorem dX9_clause_22 : decode cX9_clause 22 = .ok (.getfield 88, 3) := by decide +kernel
theorem dX9_clause_25 : decode cX9_clause 25 = .ok (.aload_n 0, 1) := by decide +kernel
theorem dX9_clause_26 : decode cX9_clause 26 = .ok (.getfield 272, 3) := by decide +kernel
theorem dX9_clause_29 : decode cX9_clause 29 = .ok (.aload_n 0, 1) := by decide +kernel
theorem dX9_clause_30 : decode cX9_clause 30 = .ok (.getfield 235, 3) := by decide +kernel
theorem dX9_clause_33 : decode cX9_clause 33 = .ok (.iconst 2, 1) := by decide +kernel
theorem dX9_clause_34 : decode cX9_clause 34 = .ok (.if_icmp .ne 7, 3) := by decide +kernel
theorem dX9_clause_37 : decode cX9_clause 37 = .ok (.iconst 1, 1) := by decide +kernel
theorem dX9_clause_38 : decode cX9_clause 38 = .ok (.goto 4, 3) := by decide +kernel
theorem dX9_clause_41 : decode cX9_clause 41 = .ok (.iconst 0, 1) := by decide +kernel
theorem dX9_clause_42 : decode cX9_clause 42 = .ok (.bastore, 1) := by decide +kernel
theorem dX9_clause_43 : decode cX9_clause 43 = .ok (.aload_n 0, 1) := by decide +kernel
theorem dX9_clause_44 : decode cX9_clause 44 = .ok (.getfield 91, 3) := by decide +kernel
theorem dX9_clause_47 : decode cX9_clause 47 = .ok (.aload_n 0, 1) := by decide +kernel
theorem dX9_clause_48 : decode cX9_clause 48 = .ok (.getfield 272, 3) := by decide +kernel
theorem dX9_clause_51 : decode cX9_clause 51 = .ok (.iconst 0, 1) := by decide +kernel
theorem dX9_clause_52 : decode cX9_clause 52 = .ok (.iastore, 1) := by decide +kernel
theorem dX9_clause_53 : decode cX9_clause 53 = .ok (.aload_n 0, 1) := by decide +kernel
theorem dX9_clause_54 : decode cX9_clause 54 = .ok (.dup, 1) := by decide +kernel
theorem dX9_clause_55 : decode cX9_clause 55 = .ok (.getfield 272, 3) := by decide +kernel
theorem dX9_clause_58 : decode cX9_clause 58 = .ok (.iconst 1, 1) := by decide +kernel
theorem dX9_clause_59 : decode cX9_clause 59 = .ok (.iadd, 1) := by decide +kernel
theorem dX9_clause_60 : decode cX9_clause 60 = .ok (.putfield 272, 3) := by decide +kernel
theorem dX9_clause_63 : decode cX9_clause 63 = .ok (.aload_n 0, 1) := by decide +kernel
theorem dX9_clause_64 : decode cX9_clause 64 = .ok (.invokevirtual 278, 3) := by decide +kernel
theorem dX9_clause_67 : decode cX9_clause 67 = .ok (.aload_n 0, 1) := by decide +kernel
theorem dX9_clause_68 : decode cX9_clause 68 = .ok (.getfield 235, 3) := by decide +kernel
theorem dX9_clause_71 : decode cX9_clause 71 = .ok (.iconst 4, 1) := by decide +kernel
theorem dX9_clause_72 : decode cX9_clause 72 = .ok (.if_icmp .eq 5, 3) := by decide +kernel
theorem dX9_clause_75 : decode cX9_clause 75 = .ok (.iconst 1, 1) := by decide +kernel
theorem dX9_clause_76 : decode cX9_clause 76 = .ok (.ireturn, 1) := by decide +kernel
theorem dX9_clause_77 : decode cX9_clause 77 = .ok (.aload_n 0, 1) := by decide +kernel
theorem dX9_clause_78 : decode cX9_clause 78 = .ok (.invokevirtual 278, 3) := by decide +kernel
theorem dX9_clause_81 : decode cX9_clause 81 = .ok (.aload_n 0, 1) := by decide +kernel
theorem dX9_clause_82 : decode cX9_clause 82 = .ok (.invokevirtual 281, 3) := by decide +kernel
theorem dX9_clause_85 : decode cX9_clause 85 = .ok (.istore_n 1, 1) := by decide +kernel
theorem dX9_clause_86 : decode cX9_clause 86 = .ok (.iload_n 1, 1) := by decide +kernel
theorem dX9_clause_87 : decode cX9_clause 87 = .ok (.ifCond .eq 43, 3) := by decide +kernel
theorem dX9_clause_90 : decode cX9_clause 90 = .ok (.aload_n 0, 1) := by decide +kernel
theorem dX9_clause_91 : decode cX9_clause 91 = .ok (.getfield 235, 3) := by decide +kernel
theorem dX9_clause_94 : decode cX9_clause 94 = .ok (.iconst 5, 1) := by decide +kernel
theorem dX9_clause_95 : decode cX9_clause 95 = .ok (.if_icmp .ne 35, 3) := by decide +kernel
theorem dX9_clause_98 : decode cX9_clause 98 = .ok (.aload_n 0, 1) := by decide +kernel
theorem dX9_clause_99 : decode cX9_clause 99 = .ok (.getfield 91, 3) := by decide +kernel
theorem dX9_clause_102 : decode cX9_clause 102 = .ok (.aload_n 0, 1) := by decide +kernel
theorem dX9_clause_103 : decode cX9_clause 103 = .ok (.getfield 272, 3) := by decide +kernel
theorem dX9_clause_106 : decode cX9_clause 106 = .ok (.iconst 1, 1) := by decide +kernel
theorem dX9_clause_107 : decode cX9_clause 107 = .ok (.isub, 1) := by decide +kernel
theorem dX9_clause_108 : decode cX9_clause 108 = .ok (.iaload, 1) := by decide +kernel
theorem dX9_clause_109 : decode cX9_clause 109 = .ok (.iconst 4, 1) := by decide +kernel
theorem dX9_clause_110 : decode cX9_clause 110 = .ok (.if_icmp .ne 8, 3) := by decide +kernel
theorem dX9_clause_113 : decode cX9_clause 113 = .ok (.aload_n 0, 1) := by decide +kernel
theorem dX9_clause_114 : decode cX9_clause 114 = .ok (.invokevirtual 275, 3) := by decide +kernel
theorem dX9_clause_117 : decode cX9_clause 117 = .ok (.ireturn, 1) := by decide +kernel
theorem dX9_clause_118 : decode cX9_clause 118 = .ok (.aload_n 0, 1) := by decide +kernel
theorem dX9_clause_119 : decode cX9_clause 119 = .ok (.invokevirtual 278, 3) := by decide +kernel
theorem dX9_clause_122 : decode cX9_clause 122 = .ok (.aload_n 0, 1) := by decide +kernel
theorem dX9_clause_123 : decode cX9_clause 123 = .ok (.invokevirtual 281, 3) := by decide +kernel
theorem dX9_clause_126 : decode cX9_clause 126 = .ok (.istore_n 1, 1) := by decide +kernel
theorem dX9_clause_127 : decode cX9_clause 127 = .ok (.goto (-41), 3) := by decide +kernel
theorem dX9_clause_130 : decode cX9_clause 130 = .ok (.iload_n 1, 1) := by decide +kernel
theorem dX9_clause_131 : decode cX9_clause 131 = .ok (.ireturn, 1) := by decide +kernel
set_option maxRecDepth 20000 in
theorem ggX9_text_X9_clause : GoodIn wsX9_text wsX9_clause := goodIn_r _ [7, 1, 8, 2, 9, 10, 11, 12, 6, 13, 14, 15, 16, 17, 18, 19, 20, 21, 22, 23, 24, 25, 26, 27, 28, 29, 30, 31, 32, 33, 34, 35, 36, 37, 38, 39, 40, 41, 42, 43, 44, 45, 46, 47, 48, 49, 50, 51, 52, 53, 54, 55, 56, 57, 58, 59, 60, 61, 62, 63, 64, 65, 66, 67, 68, 69, 70, 71, 72, 73, 74, 75, 76, 77, 78, 79, 80, 81, 82, 83, 84, 85, 86, 87, 88, 89, 90, 91, 92, 93, 94, 95, 96, 97, 98, 99, 100, 101, 102, 103, 104, 105, 106, 107, 108, 109, 110, 111, 112, 113, 114, 115, 116] (by decide +kernel) (by decide +kernel)
set_option maxRecDepth 20000 in
theorem gX9_text_X9_clause : GoodIn wsX9_text (wsV RX9 284 RX9 yX9_clause wsX9_clause) := goodIn_app (goodIn_of _ (by decide +kernel)) ggX9_text_X9_clause
set_option maxRecDepth 20000 in
theorem ggX9_text_X9_wrong : GoodIn wsX9_text wsX9_wrong := goodIn_r _ [13, 14, 15, 62, 63, 64, 65, 66, 67, 68, 69, 70, 71, 72, 73, 74, 75, 76, 77, 78, 79, 80, 81, 82, 83, 84, 85, 86, 87, 88, 89, 90, 91, 92, 93, 94, 95, 96, 97, 98, 99, 100, 101, 102, 103, 104, 105, 106, 107, 108, 109, 110, 111, 112, 113, 114, 115, 116] (by decide +kernel) (by decide +kernel)
set_option maxRecDepth 20000 in
theorem gX9_text_X9_wrong : GoodIn wsX9_text (wsV RX9 275 RX9 yX9_wrong wsX9_wrong) := goodIn_app (goodIn_of _ (by decide +kernel)) ggX9_text_X9_wrong
set_option maxRecDepth 20000 in
theorem ggX9_text_X9_go : GoodIn wsX9_text wsX9_go := goodIn_r _ [19, 20, 14, 21, 1, 22, 23, 24, 25, 6, 26, 27, 28, 29, 30, 31, 32, 33, 34, 35, 36, 37, 38, 39, 40, 41, 42, 43, 44, 45, 46, 47, 48, 49, 50, 51, 52, 53, 54, 62, 63, 64, 65, 66, 67, 68, 69, 70, 71, 72, 73, 74, 75, 76, 77, 78, 79, 80, 81, 82, 83, 84, 85, 86, 87, 88, 89, 90, 91, 92, 93, 94, 95, 96, 97, 98, 99, 100, 101, 102, 103, 104, 105, 106, 107, 108, 109, 110, 111, 112, 113, 114, 115, 116] (by decide +kernel) (by decide +kernel)
set_option maxRecDepth 20000 in
theorem gX9_text_X9_go : GoodIn wsX9_text (wsV RX9 278 RX9 yX9_go wsX9_go) := goodIn_app (goodIn_of _ (by decide +kernel)) ggX9_text_X9_go
theorem dX9_text_0 : decode cX9_text 0 = .ok (.aload_n 0, 1) := by decide +kernel
theorem dX9_text_1 : decode cX9_text 1 = .ok (.getfield 235, 3) := by decide +kernel
theorem dX9_text_4 : decode cX9_text 4 = .ok (.ifCond .ne 5, 3) := by decide +kernel
theorem dX9_text_7 : decode cX9_text 7 = .ok (.iconst 1, 1) := by decide +kernel
theorem dX9_text_8 : decode cX9_text 8 = .ok (.ireturn, 1) := by decide +kernel
theorem dX9_text_9 : decode cX9_text 9 = .ok (.aload_n 0, 1) := by decide +kernel
theorem dX9_text_10 : decode cX9_text 10 = .ok (.invokevirtual 284, 3) := by decide +kernel
theorem dX9_text_13 : decode cX9_text 13 = .ok (.istore_n 1, 1) := by decide +kernel
theorem dX9_text_14 : decode cX9_text 14 = .ok (.iload_n 1, 1) := by decide +kernel
theorem dX9_text_15 : decode cX9_text 15 = .ok (.ifCond .eq 38, 3) := by decide +kernel
theorem dX9_text_18 : decode cX9_text 18 = .ok (.aload_n 0, 1) := by decide +kernel
theorem dX9_text_19 : decode cX9_text 19 = .ok (.getfield 235, 3) := by decide +kernel
theorem dX9_text_22 : decode cX9_text 22 = .ok (.bipush 59, 2) := by decide +kernel
theorem dX9_text_24 : decode cX9_text 24 = .ok (.if_icmp .ne 29, 3) := by decide +kernel
theorem dX9_text_27 : decode cX9_text 27 = .ok (.aload_n 0, 1) := by decide +kernel
theorem dX9_text_28 : decode cX9_text 28 = .ok (.getfield 272, 3) := by decide +kernel
theorem dX9_text_31 : decode cX9_text 31 = .ok (.bipush 8, 2) := by decide +kernel
theorem dX9_text_33 : decode cX9_text 33 = .ok (.if_icmp .ne 8, 3) := by decide +kernel
theorem dX9_text_36 : decode cX9_text 36 = .ok (.aload_n 0, 1) := by decide +kernel
theorem dX9_text_37 : decode cX9_text 37 = .ok (.invokevirtual 275, 3) := by decide +kernel
theorem dX9_text_40 : decode cX9_text 40 = .ok (.ireturn, 1) := by decide +kernel
theorem dX9_text_41 : decode cX9_text 41 = .ok (.aload_n 0, 1) := by decide +kernel
theorem dX9_text_42 : decode cX9_text 42 = .ok (.invokevirtual 278, 3) := by decide +kernel
theorem dX9_text_45 : decode cX9_text 45 = .ok (.aload_n 0, 1) := by decide +kernel
theorem dX9_text_46 : decode cX9_text 46 = .ok (.invokevirtual 284, 3) := by decide +kernel
theorem dX9_text_49 : decode cX9_text 49 = .ok (.istore_n 1, 1) := by decide +kernel
theorem dX9_text_50 : decode cX9_text 50 = .ok (.goto (-36), 3) := by decide +kernel
theorem dX9_text_53 : decode cX9_text 53 = .ok (.iload_n 1, 1) := by decide +kernel
theorem dX9_text_54 : decode cX9_text 54 = .ok (.ifCond .eq 21, 3) := by decide +kernel
theorem dX9_text_57 : decode cX9_text 57 = .ok (.aload_n 0, 1) := by decide +kernel
theorem dX9_text_58 : decode cX9_text 58 = .ok (.getfield 235, 3) := by decide +kernel
theorem dX9_text_61 : decode cX9_text 61 = .ok (.ifCond .eq 10, 3) := by decide +kernel
theorem dX9_text_64 : decode cX9_text 64 = .ok (.aload_n 0, 1) := by decide +kernel
theorem dX9_text_65 : decode cX9_text 65 = .ok (.invokevirtual 275, 3) := by decide +kernel
theorem dX9_text_68 : decode cX9_text 68 = .ok (.ifCond .eq 7, 3) := by decide +kernel
theorem dX9_text_71 : decode cX9_text 71 = .ok (.iconst 1, 1) := by decide +kernel
theorem dX9_text_72 : decode cX9_text 72 = .ok (.goto 4, 3) := by decide +kernel
theorem dX9_text_75 : decode cX9_text 75 = .ok (.iconst 0, 1) := by decide +kernel
theorem dX9_text_76 : decode cX9_text 76 = .ok (.ireturn, 1) := by decide +kernel
set_option maxRecDepth 20000 in
theorem ggX9_read_X9_go : GoodIn wsX9_read wsX9_go := goodIn_r _ [22, 4, 23, 24, 25, 26, 27, 28, 29, 21, 30, 5, 31, 32, 33, 34, 35, 36, 37, 38, 39, 40, 1, 41, 42, 43, 44, 45, 46, 47, 48, 49, 50, 51, 52, 53, 54, 55, 56, 79, 80, 81, 82, 83, 84, 85, 86, 87, 88, 89, 90, 91, 92, 93, 94, 95, 96, 97, 98, 99, 100, 101, 102, 103, 104, 105, 106, 107, 108, 109, 110, 111, 112, 113, 114, 115, 116, 117, 118, 119, 120, 121, 122, 123, 124, 125, 126, 127, 128, 129, 130, 131, 132, 133] (by decide +kernel) (by decide +kernel)
set_option maxRecDepth 20000 in
theorem gX9_read_X9_go : GoodIn wsX9_read (wsV RX9 278 RX9 yX9_go wsX9_go) := goodIn_app (goodIn_of _ (by decide +kernel)) ggX9_read_X9_go
set_option maxRecDepth 20000 in
theorem ggX9_read_X9_text : GoodIn wsX9_read wsX9_text := goodIn_r _ [60, 25, 3, 61, 62, 63, 21, 64, 9, 11, 65, 66, 67, 68, 23, 2, 18, 19, 20, 22, 4, 24, 26, 27, 28, 29, 30, 5, 31, 32, 33, 34, 35, 36, 37, 38, 39, 40, 1, 41, 42, 43, 44, 45, 46, 47, 48, 49, 50, 51, 52, 53, 54, 55, 56, 69, 70, 71, 72, 13, 15, 17, 79, 80, 81, 82, 83, 84, 85, 86, 87, 88, 89, 90, 91, 92, 93, 94, 95, 96, 97, 98, 99, 100, 101, 102, 103, 104, 105, 106, 107, 108, 109, 110, 111, 112, 113, 114, 115, 116, 117, 118, 119, 120, 121, 122, 123, 124, 125, 126, 127, 128, 129, 130, 131, 132, 133] (by decide +kernel) (by decide +kernel)
set_option maxRecDepth 20000 in
theorem gX9_read_X9_text : GoodIn wsX9_read (wsV RX9 287 RX9 yX9_text wsX9_text) := goodIn_app (goodIn_of _ (by decide +kernel)) ggX9_read_X9_text
set_option maxRecDepth 20000 in
theorem ggX9_read_X9_finding : GoodIn wsX9_read wsX9_finding := goodIn_r _ [76, 77, 78, 79, 80, 81, 82, 83, 84, 85, 86, 87, 88, 89, 90, 91, 92, 93, 94, 95, 96, 97, 98, 99, 100, 101, 102, 103, 104, 105, 106, 107, 108, 109, 110, 111, 112, 113, 114, 115, 116, 117, 118, 119, 120, 121, 122, 123, 124, 125, 126, 127, 128, 129, 130, 131, 132, 133] (by decide +kernel) (by decide +kernel)
set_option maxRecDepth 20000 in
theorem gX9_read_X9_finding : GoodIn wsX9_read (wsV RX9 154 RX9 yX9_finding wsX9_finding) := goodIn_app (goodIn_of _ (by decide +kernel)) ggX9_read_X9_finding
theorem dX9_read_0 : decode cX9_read 0 = .ok (.aload_n 0, 1) := by decide +kernel
theorem dX9_read_1 : decode cX9_read 1 = .ok (.ldc2_w 106, 3) := by decide +kernel
theorem dX9_read_4 : decode cX9_read 4 = .ok (.putfield 108, 3) := by decide +kernel
theorem dX9_read_7 : decode cX9_read 7 = .ok (.aload_n 0, 1) := by decide +kernel
theorem dX9_read_8 : decode cX9_read 8 = .ok (.iconst 0, 1) := by decide +kernel
theorem dX9_read_9 : decode cX9_read 9 = .ok (.putfield 272, 3) := by decide +kernel
theorem dX9_read_12 : decode cX9_read 12 = .ok (.aload_n 0, 1) := by decide +kernel
theorem dX9_read_13 : decode cX9_read 13 = .ok (.iconst 0, 1) := by decide +kernel
theorem dX9_read_14 : decode cX9_read 14 = .ok (.putfield 222, 3) := by decide +kernel
theorem dX9_read_17 : decode cX9_read 17 = .ok (.aload_n 0, 1) := by decide +kernel
theorem dX9_read_18 : decode cX9_read 18 = .ok (.invokevirtual 278, 3) := by decide +kernel
theorem dX9_read_21 : decode cX9_read 21 = .ok (.aload_n 0, 1) := by decide +kernel
theorem dX9_read_22 : decode cX9_read 22 = .ok (.invokevirtual 287, 3) := by decide +kernel
theorem dX9_read_25 : decode cX9_read 25 = .ok (.istore_n 1, 1) := by decide +kernel
theorem dX9_read_26 : decode cX9_read 26 = .ok (.aload_n 0, 1) := by decide +kernel
theorem dX9_read_27 : decode cX9_read 27 = .ok (.iconst 0, 1) := by decide +kernel
theorem dX9_read_28 : decode cX9_read 28 = .ok (.putfield 217, 3) := by decide +kernel
theorem dX9_read_31 : decode cX9_read 31 = .ok (.iload_n 1, 1) := by decide +kernel
theorem dX9_read_32 : decode cX9_read 32 = .ok (.ifCond .ne 11, 3) := by decide +kernel
theorem dX9_read_35 : decode cX9_read 35 = .ok (.aload_n 0, 1) := by decide +kernel
theorem dX9_read_36 : decode cX9_read 36 = .ok (.ldc2_w 290, 3) := by decide +kernel
theorem dX9_read_39 : decode cX9_read 39 = .ok (.invokevirtual 154, 3) := by decide +kernel
theorem dX9_read_42 : decode cX9_read 42 = .ok (.lreturn, 1) := by decide +kernel
theorem dX9_read_43 : decode cX9_read 43 = .ok (.aload_n 0, 1) := by decide +kernel
theorem dX9_read_44 : decode cX9_read 44 = .ok (.aload_n 0, 1) := by decide +kernel
theorem dX9_read_45 : decode cX9_read 45 = .ok (.getfield 272, 3) := by decide +kernel
theorem dX9_read_48 : decode cX9_read 48 = .ok (.putfield 292, 3) := by decide +kernel
theorem dX9_read_51 : decode cX9_read 51 = .ok (.iconst 0, 1) := by decide +kernel
theorem dX9_read_52 : decode cX9_read 52 = .ok (.istore_n 2, 1) := by decide +kernel
theorem dX9_read_53 : decode cX9_read 53 = .ok (.iload_n 2, 1) := by decide +kernel
theorem dX9_read_54 : decode cX9_read 54 = .ok (.bipush 8, 2) := by decide +kernel
theorem dX9_read_56 : decode cX9_read 56 = .ok (.if_icmp .ge 33, 3) := by decide +kernel
theorem dX9_read_59 : decode cX9_read 59 = .ok (.aload_n 0, 1) := by decide +kernel
theorem dX9_read_60 : decode cX9_read 60 = .ok (.getfield 73, 3) := by decide +kernel
theorem dX9_read_63 : decode cX9_read 63 = .ok (.iload_n 2, 1) := by decide +kernel
theorem dX9_read_64 : decode cX9_read 64 = .ok (.aload_n 0, 1) := by decide +kernel
theorem dX9_read_65 : decode cX9_read 65 = .ok (.getfield 88, 3) := by decide +kernel
theorem dX9_read_68 : decode cX9_read 68 = .ok (.iload_n 2, 1) := by decide +kernel
theorem dX9_read_69 : decode cX9_read 69 = .ok (.baload, 1) := by decide +kernel
theorem dX9_read_70 : decode cX9_read 70 = .ok (.bastore, 1) := by decide +kernel
theorem dX9_read_71 : decode cX9_read 71 = .ok (.aload_n 0, 1) := by decide +kernel
theorem dX9_read_72 : decode cX9_read 72 = .ok (.getfield 76, 3) := by decide +kernel
theorem dX9_read_75 : decode cX9_read 75 = .ok (.iload_n 2, 1) := by decide +kernel
theorem dX9_read_76 : decode cX9_read 76 = .ok (.aload_n 0, 1) := by decide +kernel
theorem dX9_read_77 : decode cX9_read 77 = .ok (.getfield 91, 3) := by decide +kernel
theorem dX9_read_80 : decode cX9_read 80 = .ok (.iload_n 2, 1) := by decide +kernel
theorem dX9_read_81 : decode cX9_read 81 = .ok (.iaload, 1) := by decide +kernel
theorem dX9_read_82 : decode cX9_read 82 = .ok (.iastore, 1) := by decide +kernel
theorem dX9_read_83 : decode cX9_read 83 = .ok (.iinc 2 1, 3) := by decide +kernel
theorem dX9_read_86 : decode cX9_read 86 = .ok (.goto (-33), 3) := by decide +kernel
theorem dX9_read_89 : decode cX9_read 89 = .ok (.iconst 0, 1) := by decide +kernel
theorem dX9_read_90 : decode cX9_read 90 = .ok (.istore_n 2, 1) := by decide +kernel
theorem dX9_read_91 : decode cX9_read 91 = .ok (.iload_n 2, 1) := by decide +kernel
theorem dX9_read_92 : decode cX9_read 92 = .ok (.bipush 32, 2) := by decide +kernel
theorem dX9_read_94 : decode cX9_read 94 = .ok (.if_icmp .ge 45, 3) := by decide +kernel
theorem dX9_read_97 : decode cX9_read 97 = .ok (.aload_n 0, 1) := by decide +kernel
theorem dX9_read_98 : decode cX9_read 98 = .ok (.getfield 79, 3) := by decide +kernel
theorem dX9_read_101 : decode cX9_read 101 = .ok (.iload_n 2, 1) := by decide +kernel
theorem dX9_read_102 : decode cX9_read 102 = .ok (.aload_n 0, 1) := by decide +kernel
theorem dX9_read_103 : decode cX9_read 103 = .ok (.getfield 94, 3) := by decide +kernel
theorem dX9_read_106 : decode cX9_read 106 = .ok (.iload_n 2, 1) := by decide +kernel
theorem dX9_read_107 : decode cX9_read 107 = .ok (.iaload, 1) := by decide +kernel
theorem dX9_read_108 : decode cX9_read 108 = .ok (.iastore, 1) := by decide +kernel
theorem dX9_read_109 : decode cX9_read 109 = .ok (.aload_n 0, 1) := by decide +kernel
theorem dX9_read_110 : decode cX9_read 110 = .ok (.getfield 82, 3) := by decide +kernel
theorem dX9_read_113 : decode cX9_read 113 = .ok (.iload_n 2, 1) := by decide +kernel
theorem dX9_read_114 : decode cX9_read 114 = .ok (.aload_n 0, 1) := by decide +kernel
theorem dX9_read_115 : decode cX9_read 115 = .ok (.getfield 97, 3) := by decide +kernel
theorem dX9_read_118 : decode cX9_read 118 = .ok (.iload_n 2, 1) := by decide +kernel
theorem dX9_read_119 : decode cX9_read 119 = .ok (.iaload, 1) := by decide +kernel
theorem dX9_read_120 : decode cX9_read 120 = .ok (.iastore, 1) := by decide +kernel
theorem dX9_read_121 : decode cX9_read 121 = .ok (.aload_n 0, 1) := by decide +kernel
theorem dX9_read_122 : decode cX9_read 122 = .ok (.getfield 85, 3) := by decide +kernel
theorem dX9_read_125 : decode cX9_read 125 = .ok (.iload_n 2, 1) := by decide +kernel
theorem dX9_read_126 : decode cX9_read 126 = .ok (.aload_n 0, 1) := by decide +kernel
theorem dX9_read_127 : decode cX9_read 127 = .ok (.getfield 100, 3) := by decide +kernel
theorem dX9_read_130 : decode cX9_read 130 = .ok (.iload_n 2, 1) := by decide +kernel
theorem dX9_read_131 : decode cX9_read 131 = .ok (.iaload, 1) := by decide +kernel
theorem dX9_read_132 : decode cX9_read 132 = .ok (.iastore, 1) := by decide +kernel
theorem dX9_read_133 : decode cX9_read 133 = .ok (.iinc 2 1, 3) := by decide +kernel
theorem dX9_read_136 : decode cX9_read 136 = .ok (.goto (-45), 3) := by decide +kernel
theorem dX9_read_139 : decode cX9_read 139 = .ok (.aload_n 0, 1) := by decide +kernel
theorem dX9_read_140 : decode cX9_read 140 = .ok (.getfield 292, 3) := by decide +kernel
theorem dX9_read_143 : decode cX9_read 143 = .ok (.i2l, 1) := by decide +kernel
theorem dX9_read_144 : decode cX9_read 144 = .ok (.lreturn, 1) := by decide +kernel
theorem dX9_fault_0 : decode cX9_fault 0 = .ok (.aload_n 0, 1) := by decide +kernel
theorem dX9_fault_1 : decode cX9_fault 1 = .ok (.getfield 108, 3) := by decide +kernel
theorem dX9_fault_4 : decode cX9_fault 4 = .ok (.lreturn, 1) := by decide +kernel
theorem dX9_isBound_0 : decode cX9_isBound 0 = .ok (.iconst 0, 1) := by decide +kernel
theorem dX9_isBound_1 : decode cX9_isBound 1 = .ok (.istore 7, 2) := by decide +kernel
theorem dX9_isBound_3 : decode cX9_isBound 3 = .ok (.iload 7, 2) := by decide +kernel
theorem dX9_isBound_5 : decode cX9_isBound 5 = .ok (.aload_n 0, 1) := by decide +kernel
theorem dX9_isBound_6 : decode cX9_isBound 6 = .ok (.getfield 292, 3) := by decide +kernel
theorem dX9_isBound_9 : decode cX9_isBound 9 = .ok (.if_icmp .ge 207, 3) := by decide +kernel
theorem dX9_isBound_12 : decode cX9_isBound 12 = .ok (.iconst 1, 1) := by decide +kernel
theorem dX9_isBound_13 : decode cX9_isBound 13 = .ok (.istore 8, 2) := by decide +kernel
theorem dX9_isBound_15 : decode cX9_isBound 15 = .ok (.iconst 4, 1) := by decide +kernel
theorem dX9_isBound_16 : decode cX9_isBound 16 = .ok (.iload 7, 2) := by decide +kernel
theorem dX9_isBound_18 : decode cX9_isBound 18 = .ok (.imul, 1) := by decide +kernel
theorem dX9_isBound_19 : decode cX9_isBound 19 = .ok (.istore 9, 2) := by decide +kernel
theorem dX9_isBound_21 : decode cX9_isBound 21 = .ok (.iload 9, 2) := by decide +kernel
theorem dX9_isBound_23 : decode cX9_isBound 23 = .ok (.iconst 4, 1) := by decide +kernel
theorem dX9_isBound_24 : decode cX9_isBound 24 = .ok (.iload 7, 2) := by decide +kernel
theorem dX9_isBound_26 : decode cX9_isBound 26 = .ok (.imul, 1) := by decide +kernel
theorem dX9_isBound_27 : decode cX9_isBound 27 = .ok (.aload_n 0, 1) := by decide +kernel
theorem dX9_isBound_28 : decode cX9_isBound 28 = .ok (.getfield 76, 3) := by decide +kernel
theorem dX9_isBound_31 : decode cX9_isBound 31 = .ok (.iload 7, 2) := by decide +kernel
theorem dX9_isBound_33 : decode cX9_isBound 33 = .ok (.iaload, 1) := by decide +kernel
theorem dX9_isBound_34 : decode cX9_isBound 34 = .ok (.iadd, 1) := by decide +kernel
theorem dX9_isBound_35 : decode cX9_isBound 35 = .ok (.if_icmp .ge 162, 3) := by decide +kernel
theorem dX9_isBound_38 : decode cX9_isBound 38 = .ok (.aload_n 0, 1) := by decide +kernel
theorem dX9_isBound_39 : decode cX9_isBound 39 = .ok (.getfield 79, 3) := by decide +kernel
theorem dX9_isBound_42 : decode cX9_isBound 42 = .ok (.iload 9, 2) := by decide +kernel
theorem dX9_isBound_44 : decode cX9_isBound 44 = .ok (.iaload, 1) := by decide +kernel
theorem dX9_isBound_45 : decode cX9_isBound 45 = .ok (.ifCond .ne 7, 3) := by decide +kernel
theorem dX9_isBound_48 : decode cX9_isBound 48 = .ok (.lload_n 1, 1) := by decide +kernel
theorem dX9_isBound_49 : decode cX9_isBound 49 = .ok (.goto 56, 3) := by decide +kernel
theorem dX9_isBound_52 : decode cX9_isBound 52 = .ok (.aload_n 0, 1) := by decide +kernel
theorem dX9_isBound_53 : decode cX9_isBound 53 = .ok (.getfield 79, 3) := by decide +kernel
theorem dX9_isBound_56 : decode cX9_isBound 56 = .ok (.iload 9, 2) := by decide +kernel
theorem dX9_isBound_58 : decode cX9_isBound 58 = .ok (.iaload, 1) := by decide +kernel
theorem dX9_isBound_59 : decode cX9_isBound 59 = .ok (.iconst 1, 1) := by decide +kernel
theorem dX9_isBound_60 : decode cX9_isBound 60 = .ok (.if_icmp .ne 8, 3) := by decide +kernel
theorem dX9_isBound_63 : decode cX9_isBound 63 = .ok (.iload_n 3, 1) := by decide +kernel
theorem dX9_isBound_64 : decode cX9_isBound 64 = .ok (.i2l, 1) := by decide +kernel
theorem dX9_isBound_65 : decode cX9_isBound 65 = .ok (.goto 40, 3) := by decide +kernel
theorem dX9_isBound_68 : decode cX9_isBound 68 = .ok (.aload_n 0, 1) := by decide +kernel
theorem dX9_isBound_69 : decode cX9_isBound 69 = .ok (.getfield 79, 3) := by decide +kernel
theorem dX9_isBound_72 : decode cX9_isBound 72 = .ok (.iload 9, 2) := by decide +kernel
theorem dX9_isBound_74 : decode cX9_isBound 74 = .ok (.iaload, 1) := by decide +kernel
theorem dX9_isBound_75 : decode cX9_isBound 75 = .ok (.iconst 2, 1) := by decide +kernel
theorem dX9_isBound_76 : decode cX9_isBound 76 = .ok (.if_icmp .ne 9, 3) := by decide +kernel
theorem dX9_isBound_79 : decode cX9_isBound 79 = .ok (.iload 4, 2) := by decide +kernel
theorem dX9_isBound_81 : decode cX9_isBound 81 = .ok (.i2l, 1) := by decide +kernel
theorem dX9_isBound_82 : decode cX9_isBound 82 = .ok (.goto 23, 3) := by decide +kernel
theorem dX9_isBound_85 : decode cX9_isBound 85 = .ok (.aload_n 0, 1) := by decide +kernel
theorem dX9_isBound_86 : decode cX9_isBound 86 = .ok (.getfield 79, 3) := by decide +kernel
theorem dX9_isBound_89 : decode cX9_isBound 89 = .ok (.iload 9, 2) := by decide +kernel
theorem dX9_isBound_91 : decode cX9_isBound 91 = .ok (.iaload, 1) := by decide +kernel
theorem dX9_isBound_92 : decode cX9_isBound 92 = .ok (.iconst 3, 1) := by decide +kernel
theorem dX9_isBound_93 : decode cX9_isBound 93 = .ok (.if_icmp .ne 9, 3) := by decide +kernel
theorem dX9_isBound_96 : decode cX9_isBound 96 = .ok (.iload 5, 2) := by decide +kernel
theorem dX9_isBound_98 : decode cX9_isBound 98 = .ok (.i2l, 1) := by decide +kernel
theorem dX9_isBound_99 : decode cX9_isBound 99 = .ok (.goto 6, 3) := by decide +kernel
theorem dX9_isBound_102 : decode cX9_isBound 102 = .ok (.iload 6, 2) := by decide +kernel
theorem dX9_isBound_104 : decode cX9_isBound 104 = .ok (.i2l, 1) := by decide +kernel
theorem dX9_isBound_105 : decode cX9_isBound 105 = .ok (.lstore 10, 2) := by decide +kernel
theorem dX9_isBound_107 : decode cX9_isBound 107 = .ok (.iload 8, 2) := by decide +kernel
theorem dX9_isBound_109 : decode cX9_isBound 109 = .ok (.ifCond .eq 79, 3) := by decide +kernel
theorem dX9_isBound_112 : decode cX9_isBound 112 = .ok (.aload_n 0, 1) := by decide +kernel
theorem dX9_isBound_113 : decode cX9_isBound 113 = .ok (.getfield 82, 3) := by decide +kernel
theorem dX9_isBound_116 : decode cX9_isBound 116 = .ok (.iload 9, 2) := by decide +kernel
theorem dX9_isBound_118 : decode cX9_isBound 118 = .ok (.iaload, 1) := by decide +kernel
theorem dX9_isBound_119 : decode cX9_isBound 119 = .ok (.bipush 60, 2) := by decide +kernel
theorem dX9_isBound_121 : decode cX9_isBound 121 = .ok (.if_icmp .ne 20, 3) := by decide +kernel
theorem dX9_isBound_124 : decode cX9_isBound 124 = .ok (.lload 10, 2) := by decide +kernel
theorem dX9_isBound_126 : decode cX9_isBound 126 = .ok (.aload_n 0, 1) := by decide +kernel
theorem dX9_isBound_127 : decode cX9_isBound 127 = .ok (.getfield 85, 3) := by decide +kernel
theorem dX9_isBound_130 : decode cX9_isBound 130 = .ok (.iload 9, 2) := by decide +kernel
theorem dX9_isBound_132 : decode cX9_isBound 132 = .ok (.iaload, 1) := by decide +kernel
theorem dX9_isBound_133 : decode cX9_isBound 133 = .ok (.i2l, 1) := by decide +kernel
theorem dX9_isBound_134 : decode cX9_isBound 134 = .ok (.lcmp, 1) := by decide +kernel
theorem dX9_isBound_135 : decode cX9_isBound 135 = .ok (.ifCond .ge 53, 3) := by decide +kernel
theorem dX9_isBound_138 : decode cX9_isBound 138 = .ok (.goto 46, 3) := by decide +kernel
theorem dX9_isBound_141 : decode cX9_isBound 141 = .ok (.aload_n 0, 1) := by decide +kernel
theorem dX9_isBound_142 : decode cX9_isBound 142 = .ok (.getfield 82, 3) := by decide +kernel
theorem dX9_isBound_145 : decode cX9_isBound 145 = .ok (.iload 9, 2) := by decide +kernel
theorem dX9_isBound_147 : decode cX9_isBound 147 = .ok (.iaload, 1) := by decide +kernel
theorem dX9_isBound_148 : decode cX9_isBound 148 = .ok (.bipush 62, 2) := by decide +kernel
theorem dX9_isBound_150 : decode cX9_isBound 150 = .ok (.if_icmp .ne 20, 3) := by decide +kernel
theorem dX9_isBound_153 : decode cX9_isBound 153 = .ok (.lload 10, 2) := by decide +kernel
theorem dX9_isBound_155 : decode cX9_isBound 155 = .ok (.aload_n 0, 1) := by decide +kernel
theorem dX9_isBound_156 : decode cX9_isBound 156 = .ok (.getfield 85, 3) := by decide +kernel
theorem dX9_isBound_159 : decode cX9_isBound 159 = .ok (.iload 9, 2) := by decide +kernel
theorem dX9_isBound_161 : decode cX9_isBound 161 = .ok (.iaload, 1) := by decide +kernel
theorem dX9_isBound_162 : decode cX9_isBound 162 = .ok (.i2l, 1) := by decide +kernel
theorem dX9_isBound_163 : decode cX9_isBound 163 = .ok (.lcmp, 1) := by decide +kernel
theorem dX9_isBound_164 : decode cX9_isBound 164 = .ok (.ifCond .le 24, 3) := by decide +kernel
theorem dX9_isBound_167 : decode cX9_isBound 167 = .ok (.goto 17, 3) := by decide +kernel
theorem dX9_isBound_170 : decode cX9_isBound 170 = .ok (.lload 10, 2) := by decide +kernel
theorem dX9_isBound_172 : decode cX9_isBound 172 = .ok (.aload_n 0, 1) := by decide +kernel
theorem dX9_isBound_173 : decode cX9_isBound 173 = .ok (.getfield 85, 3) := by decide +kernel
theorem dX9_isBound_176 : decode cX9_isBound 176 = .ok (.iload 9, 2) := by decide +kernel
theorem dX9_isBound_178 : decode cX9_isBound 178 = .ok (.iaload, 1) := by decide +kernel
theorem dX9_isBound_179 : decode cX9_isBound 179 = .ok (.i2l, 1) := by decide +kernel
theorem dX9_isBound_180 : decode cX9_isBound 180 = .ok (.lcmp, 1) := by decide +kernel
theorem dX9_isBound_181 : decode cX9_isBound 181 = .ok (.ifCond .ne 7, 3) := by decide +kernel
theorem dX9_isBound_184 : decode cX9_isBound 184 = .ok (.iconst 1, 1) := by decide +kernel
theorem dX9_isBound_185 : decode cX9_isBound 185 = .ok (.goto 4, 3) := by decide +kernel
theorem dX9_isBound_188 : decode cX9_isBound 188 = .ok (.iconst 0, 1) := by decide +kernel
theorem dX9_isBound_189 : decode cX9_isBound 189 = .ok (.istore 8, 2) := by decide +kernel
theorem dX9_isBound_191 : decode cX9_isBound 191 = .ok (.iinc 9 1, 3) := by decide +kernel
theorem dX9_isBound_194 : decode cX9_isBound 194 = .ok (.goto (-173), 3) := by decide +kernel
theorem dX9_isBound_197 : decode cX9_isBound 197 = .ok (.iload 8, 2) := by decide +kernel
theorem dX9_isBound_199 : decode cX9_isBound 199 = .ok (.ifCond .eq 11, 3) := by decide +kernel
theorem dX9_isBound_202 : decode cX9_isBound 202 = .ok (.aload_n 0, 1) := by decide +kernel
theorem dX9_isBound_203 : decode cX9_isBound 203 = .ok (.getfield 73, 3) := by decide +kernel
theorem dX9_isBound_206 : decode cX9_isBound 206 = .ok (.iload 7, 2) := by decide +kernel
theorem dX9_isBound_208 : decode cX9_isBound 208 = .ok (.baload, 1) := by decide +kernel
theorem dX9_isBound_209 : decode cX9_isBound 209 = .ok (.ireturn, 1) := by decide +kernel
theorem dX9_isBound_210 : decode cX9_isBound 210 = .ok (.iinc 7 1, 3) := by decide +kernel
theorem dX9_isBound_213 : decode cX9_isBound 213 = .ok (.goto (-210), 3) := by decide +kernel
theorem dX9_isBound_216 : decode cX9_isBound 216 = .ok (.iconst 1, 1) := by decide +kernel
theorem dX9_isBound_217 : decode cX9_isBound 217 = .ok (.ireturn, 1) := by decide +kernel
set_option maxRecDepth 20000 in
theorem ggX9_binds_X9_finding : GoodIn wsX9_binds wsX9_finding := goodIn_r _ [6, 7, 8, 19, 20, 21, 22, 23, 24, 25, 26, 27, 28, 29, 30, 31, 32, 33, 34, 35, 36, 37, 38, 39, 40, 41, 42, 43, 44, 45, 46, 47, 48, 49, 50, 51, 52, 53, 54, 55, 56, 57, 58, 59, 60, 61, 62, 63, 64, 65, 66, 67, 68, 69, 70, 71, 72, 73] (by decide +kernel) (by decide +kernel)
set_option maxRecDepth 20000 in
theorem gX9_binds_X9_finding : GoodIn wsX9_binds (wsV RX9 154 RX9 yX9_finding wsX9_finding) := goodIn_app (goodIn_of _ (by decide +kernel)) ggX9_binds_X9_finding
set_option maxRecDepth 20000 in
theorem ggX9_binds_X9_isBound : GoodIn wsX9_binds wsX9_isBound := goodIn_r _ [12, 13, 14, 15, 16, 17, 18, 19, 20, 21, 22, 23, 24, 25, 26, 27, 28, 29, 30, 31, 32, 33, 34, 35, 36, 37, 38, 39, 40, 41, 42, 43, 44, 45, 46, 47, 48, 49, 50, 51, 52, 53, 54, 55, 56, 57, 58, 59, 60, 61, 62, 63, 64, 65, 66, 67, 68, 69, 70, 71, 72, 73] (by decide +kernel) (by decide +kernel)
set_option maxRecDepth 20000 in
theorem gX9_binds_X9_isBound : GoodIn wsX9_binds (wsV RX9 213 RX9 yX9_isBound wsX9_isBound) := goodIn_app (goodIn_of _ (by decide +kernel)) ggX9_binds_X9_isBound
theorem dX9_binds_0 : decode cX9_binds 0 = .ok (.iload_n 1, 1) := by decide +kernel
theorem dX9_binds_1 : decode cX9_binds 1 = .ok (.ifCond .lt 21, 3) := by decide +kernel
theorem dX9_binds_4 : decode cX9_binds 4 = .ok (.iload_n 2, 1) := by decide +kernel
theorem dX9_binds_5 : decode cX9_binds 5 = .ok (.ifCond .lt 17, 3) := by decide +kernel
theorem dX9_binds_8 : decode cX9_binds 8 = .ok (.iload_n 3, 1) := by decide +kernel
theorem dX9_binds_9 : decode cX9_binds 9 = .ok (.ifCond .lt 13, 3) := by decide +kernel
theorem dX9_binds_12 : decode cX9_binds 12 = .ok (.iload 4, 2) := by decide +kernel
theorem dX9_binds_14 : decode cX9_binds 14 = .ok (.ifCond .lt 8, 3) := by decide +kernel
theorem dX9_binds_17 : decode cX9_binds 17 = .ok (.iload 5, 2) := by decide +kernel
theorem dX9_binds_19 : decode cX9_binds 19 = .ok (.ifCond .ge 11, 3) := by decide +kernel
theorem dX9_binds_22 : decode cX9_binds 22 = .ok (.aload_n 0, 1) := by decide +kernel
theorem dX9_binds_23 : decode cX9_binds 23 = .ok (.ldc2_w 152, 3) := by decide +kernel
theorem dX9_binds_26 : decode cX9_binds 26 = .ok (.invokevirtual 154, 3) := by decide +kernel
theorem dX9_binds_29 : decode cX9_binds 29 = .ok (.lreturn, 1) := by decide +kernel
theorem dX9_binds_30 : decode cX9_binds 30 = .ok (.aload_n 0, 1) := by decide +kernel
theorem dX9_binds_31 : decode cX9_binds 31 = .ok (.iload_n 1, 1) := by decide +kernel
theorem dX9_binds_32 : decode cX9_binds 32 = .ok (.i2l, 1) := by decide +kernel
theorem dX9_binds_33 : decode cX9_binds 33 = .ok (.iload_n 2, 1) := by decide +kernel
theorem dX9_binds_34 : decode cX9_binds 34 = .ok (.iload_n 3, 1) := by decide +kernel
theorem dX9_binds_35 : decode cX9_binds 35 = .ok (.iload 4, 2) := by decide +kernel
theorem dX9_binds_37 : decode cX9_binds 37 = .ok (.iload 5, 2) := by decide +kernel
theorem dX9_binds_39 : decode cX9_binds 39 = .ok (.invokevirtual 213, 3) := by decide +kernel
theorem dX9_binds_42 : decode cX9_binds 42 = .ok (.ifCond .eq 7, 3) := by decide +kernel
theorem dX9_binds_45 : decode cX9_binds 45 = .ok (.lconst 1, 1) := by decide +kernel
theorem dX9_binds_46 : decode cX9_binds 46 = .ok (.goto 4, 3) := by decide +kernel
theorem dX9_binds_49 : decode cX9_binds 49 = .ok (.lconst 0, 1) := by decide +kernel
theorem dX9_binds_50 : decode cX9_binds 50 = .ok (.lreturn, 1) := by decide +kernel
set_option maxRecDepth 20000 in
theorem ggX9_owe_X9_isHouse : GoodIn wsX9_owe wsX9_isHouse := goodIn_r _ [8, 9, 10, 7, 11] (by decide +kernel) (by decide +kernel)
set_option maxRecDepth 20000 in
theorem gX9_owe_X9_isHouse : GoodIn wsX9_owe (va_wsS RX9 171 yX9_isHouse wsX9_isHouse) := goodIn_app (goodIn_of _ (by decide +kernel)) ggX9_owe_X9_isHouse
set_option maxRecDepth 20000 in
theorem ggX9_owe_X9_in : GoodIn wsX9_owe wsX9_in := goodIn_r _ [11] (by decide +kernel) (by decide +kernel)
set_option maxRecDepth 20000 in
theorem gX9_owe_X9_in : GoodIn wsX9_owe (va_wsS RX9 141 yX9_in wsX9_in) := goodIn_app (goodIn_of _ (by decide +kernel)) ggX9_owe_X9_in
set_option maxRecDepth 20000 in
theorem ggX9_owe_X9_finding : GoodIn wsX9_owe wsX9_finding := goodIn_r _ [15, 16, 17, 32, 33, 34, 35, 36, 37, 38, 39, 40, 41, 42, 43, 44, 45, 46, 47, 48, 49, 50, 51, 52, 53, 54, 55, 56, 57, 58, 59, 60, 61, 62, 63, 64, 65, 66, 67, 68, 69, 70, 71, 72, 73, 74, 75, 76, 77, 78, 79, 80, 81, 82, 83, 84, 85, 86] (by decide +kernel) (by decide +kernel)
set_option maxRecDepth 20000 in
theorem gX9_owe_X9_finding : GoodIn wsX9_owe (wsV RX9 154 RX9 yX9_finding wsX9_finding) := goodIn_app (goodIn_of _ (by decide +kernel)) ggX9_owe_X9_finding
set_option maxRecDepth 20000 in
theorem ggX9_owe_X9_isTooMuch : GoodIn wsX9_owe wsX9_isTooMuch := goodIn_r _ [21, 22, 23, 24, 25, 26, 7, 27, 4, 32, 33, 34, 35, 36, 37, 38, 39, 40, 41, 42, 43, 44, 45, 46, 47, 48, 49, 50, 51, 52, 53, 54, 55, 56, 57, 58, 59, 60, 61, 62, 63, 64, 65, 66, 67, 68, 69, 70, 71, 72, 73, 74, 75, 76, 77, 78, 79, 80, 81, 82, 83, 84, 85, 86] (by decide +kernel) (by decide +kernel)
set_option maxRecDepth 20000 in
theorem gX9_owe_X9_isTooMuch : GoodIn wsX9_owe (wsV RX9 203 RX9 yX9_isTooMuch wsX9_isTooMuch) := goodIn_app (goodIn_of _ (by decide +kernel)) ggX9_owe_X9_isTooMuch
set_option maxRecDepth 20000 in
theorem ggX9_owe_X9_comesToOwe : GoodIn wsX9_owe wsX9_comesToOwe := goodIn_r _ [31, 4, 24, 25, 26, 7, 27, 32, 33, 34, 35, 36, 37, 38, 39, 40, 41, 42, 43, 44, 45, 46, 47, 48, 49, 50, 51, 52, 53, 54, 55, 56, 57, 58, 59, 60, 61, 62, 63, 64, 65, 66, 67, 68, 69, 70, 71, 72, 73, 74, 75, 76, 77, 78, 79, 80, 81, 82, 83, 84, 85, 86] (by decide +kernel) (by decide +kernel)
set_option maxRecDepth 20000 in
theorem gX9_owe_X9_comesToOwe : GoodIn wsX9_owe (wsV RX9 207 RX9 yX9_comesToOwe wsX9_comesToOwe) := goodIn_app (goodIn_of _ (by decide +kernel)) ggX9_owe_X9_comesToOwe
theorem dX9_owe_0 : decode cX9_owe 0 = .ok (.iload_n 1, 1) := by decide +kernel
theorem dX9_owe_1 : decode cX9_owe 1 = .ok (.invokestatic 171, 3) := by decide +kernel
theorem dX9_owe_4 : decode cX9_owe 4 = .ok (.ifCond .eq 26, 3) := by decide +kernel
theorem dX9_owe_7 : decode cX9_owe 7 = .ok (.iload_n 2, 1) := by decide +kernel
theorem dX9_owe_8 : decode cX9_owe 8 = .ok (.invokestatic 171, 3) := by decide +kernel
theorem dX9_owe_11 : decode cX9_owe 11 = .ok (.ifCond .eq 19, 3) := by decide +kernel
theorem dX9_owe_14 : decode cX9_owe 14 = .ok (.iload_n 1, 1) := by decide +kernel
theorem dX9_owe_15 : decode cX9_owe 15 = .ok (.iload_n 2, 1) := by decide +kernel
theorem dX9_owe_16 : decode cX9_owe 16 = .ok (.if_icmp .eq 14, 3) := by decide +kernel
theorem dX9_owe_19 : decode cX9_owe 19 = .ok (.iload_n 3, 1) := by decide +kernel
theorem dX9_owe_20 : decode cX9_owe 20 = .ok (.iconst 1, 1) := by decide +kernel
theorem dX9_owe_21 : decode cX9_owe 21 = .ok (.ldc_w 295, 3) := by decide +kernel
theorem dX9_owe_24 : decode cX9_owe 24 = .ok (.invokestatic 141, 3) := by decide +kernel
theorem dX9_owe_27 : decode cX9_owe 27 = .ok (.ifCond .ne 11, 3) := by decide +kernel
theorem dX9_owe_30 : decode cX9_owe 30 = .ok (.aload_n 0, 1) := by decide +kernel
theorem dX9_owe_31 : decode cX9_owe 31 = .ok (.ldc2_w 152, 3) := by decide +kernel
theorem dX9_owe_34 : decode cX9_owe 34 = .ok (.invokevirtual 154, 3) := by decide +kernel
theorem dX9_owe_37 : decode cX9_owe 37 = .ok (.lreturn, 1) := by decide +kernel
theorem dX9_owe_38 : decode cX9_owe 38 = .ok (.aload_n 0, 1) := by decide +kernel
theorem dX9_owe_39 : decode cX9_owe 39 = .ok (.iload_n 1, 1) := by decide +kernel
theorem dX9_owe_40 : decode cX9_owe 40 = .ok (.iload_n 2, 1) := by decide +kernel
theorem dX9_owe_41 : decode cX9_owe 41 = .ok (.iload_n 3, 1) := by decide +kernel
theorem dX9_owe_42 : decode cX9_owe 42 = .ok (.i2l, 1) := by decide +kernel
theorem dX9_owe_43 : decode cX9_owe 43 = .ok (.invokevirtual 203, 3) := by decide +kernel
theorem dX9_owe_46 : decode cX9_owe 46 = .ok (.ifCond .eq 11, 3) := by decide +kernel
theorem dX9_owe_49 : decode cX9_owe 49 = .ok (.aload_n 0, 1) := by decide +kernel
theorem dX9_owe_50 : decode cX9_owe 50 = .ok (.ldc2_w 169, 3) := by decide +kernel
theorem dX9_owe_53 : decode cX9_owe 53 = .ok (.invokevirtual 154, 3) := by decide +kernel
theorem dX9_owe_56 : decode cX9_owe 56 = .ok (.lreturn, 1) := by decide +kernel
theorem dX9_owe_57 : decode cX9_owe 57 = .ok (.aload_n 0, 1) := by decide +kernel
theorem dX9_owe_58 : decode cX9_owe 58 = .ok (.iload_n 1, 1) := by decide +kernel
theorem dX9_owe_59 : decode cX9_owe 59 = .ok (.iload_n 2, 1) := by decide +kernel
theorem dX9_owe_60 : decode cX9_owe 60 = .ok (.iload_n 3, 1) := by decide +kernel
theorem dX9_owe_61 : decode cX9_owe 61 = .ok (.i2l, 1) := by decide +kernel
theorem dX9_owe_62 : decode cX9_owe 62 = .ok (.invokevirtual 207, 3) := by decide +kernel
theorem dX9_owe_65 : decode cX9_owe 65 = .ok (.aload_n 0, 1) := by decide +kernel
theorem dX9_owe_66 : decode cX9_owe 66 = .ok (.getfield 52, 3) := by decide +kernel
theorem dX9_owe_69 : decode cX9_owe 69 = .ok (.bipush 10, 2) := by decide +kernel
theorem dX9_owe_71 : decode cX9_owe 71 = .ok (.iload_n 1, 1) := by decide +kernel
theorem dX9_owe_72 : decode cX9_owe 72 = .ok (.imul, 1) := by decide +kernel
theorem dX9_owe_73 : decode cX9_owe 73 = .ok (.iload_n 2, 1) := by decide +kernel
theorem dX9_owe_74 : decode cX9_owe 74 = .ok (.iadd, 1) := by decide +kernel
theorem dX9_owe_75 : decode cX9_owe 75 = .ok (.laload, 1) := by decide +kernel
theorem dX9_owe_76 : decode cX9_owe 76 = .ok (.lreturn, 1) := by decide +kernel
set_option maxRecDepth 20000 in
theorem ggX9_owes_X9_isHouse : GoodIn wsX9_owes wsX9_isHouse := goodIn_r _ [6, 7, 8, 5, 9] (by decide +kernel) (by decide +kernel)
set_option maxRecDepth 20000 in
theorem gX9_owes_X9_isHouse : GoodIn wsX9_owes (va_wsS RX9 171 yX9_isHouse wsX9_isHouse) := goodIn_app (goodIn_of _ (by decide +kernel)) ggX9_owes_X9_isHouse
set_option maxRecDepth 20000 in
theorem ggX9_owes_X9_finding : GoodIn wsX9_owes wsX9_finding := goodIn_r _ [13, 14, 15, 16, 17, 18, 19, 20, 21, 22, 23, 24, 25, 26, 27, 28, 29, 30, 31, 32, 33, 34, 35, 36, 37, 38, 39, 40, 41, 42, 43, 44, 45, 46, 47, 48, 49, 50, 51, 52, 53, 54, 55, 56, 57, 58, 59, 60, 61, 62, 63, 64, 65, 66, 67, 68, 69, 70] (by decide +kernel) (by decide +kernel)
set_option maxRecDepth 20000 in
theorem gX9_owes_X9_finding : GoodIn wsX9_owes (wsV RX9 154 RX9 yX9_finding wsX9_finding) := goodIn_app (goodIn_of _ (by decide +kernel)) ggX9_owes_X9_finding
theorem dX9_owes_0 : decode cX9_owes 0 = .ok (.iload_n 1, 1) := by decide +kernel
theorem dX9_owes_1 : decode cX9_owes 1 = .ok (.invokestatic 171, 3) := by decide +kernel
theorem dX9_owes_4 : decode cX9_owes 4 = .ok (.ifCond .eq 29, 3) := by decide +kernel
theorem dX9_owes_7 : decode cX9_owes 7 = .ok (.iload_n 2, 1) := by decide +kernel
theorem dX9_owes_8 : decode cX9_owes 8 = .ok (.invokestatic 171, 3) := by decide +kernel
theorem dX9_owes_11 : decode cX9_owes 11 = .ok (.ifCond .eq 22, 3) := by decide +kernel
theorem dX9_owes_14 : decode cX9_owes 14 = .ok (.iload_n 1, 1) := by decide +kernel
theorem dX9_owes_15 : decode cX9_owes 15 = .ok (.iload_n 2, 1) := by decide +kernel
theorem dX9_owes_16 : decode cX9_owes 16 = .ok (.if_icmp .eq 17, 3) := by decide +kernel
theorem dX9_owes_19 : decode cX9_owes 19 = .ok (.aload_n 0, 1) := by decide +kernel
theorem dX9_owes_20 : decode cX9_owes 20 = .ok (.getfield 52, 3) := by decide +kernel
theorem dX9_owes_23 : decode cX9_owes 23 = .ok (.bipush 10, 2) := by decide +kernel
theorem dX9_owes_25 : decode cX9_owes 25 = .ok (.iload_n 1, 1) := by decide +kernel
theorem dX9_owes_26 : decode cX9_owes 26 = .ok (.imul, 1) := by decide +kernel
theorem dX9_owes_27 : decode cX9_owes 27 = .ok (.iload_n 2, 1) := by decide +kernel
theorem dX9_owes_28 : decode cX9_owes 28 = .ok (.iadd, 1) := by decide +kernel
theorem dX9_owes_29 : decode cX9_owes 29 = .ok (.laload, 1) := by decide +kernel
theorem dX9_owes_30 : decode cX9_owes 30 = .ok (.goto 10, 3) := by decide +kernel
theorem dX9_owes_33 : decode cX9_owes 33 = .ok (.aload_n 0, 1) := by decide +kernel
theorem dX9_owes_34 : decode cX9_owes 34 = .ok (.ldc2_w 152, 3) := by decide +kernel
theorem dX9_owes_37 : decode cX9_owes 37 = .ok (.invokevirtual 154, 3) := by decide +kernel
theorem dX9_owes_40 : decode cX9_owes 40 = .ok (.lreturn, 1) := by decide +kernel
theorem dX9_netOf_0 : decode cX9_netOf 0 = .ok (.lconst 0, 1) := by decide +kernel
theorem dX9_netOf_1 : decode cX9_netOf 1 = .ok (.lstore_n 2, 1) := by decide +kernel
theorem dX9_netOf_2 : decode cX9_netOf 2 = .ok (.iconst 0, 1) := by decide +kernel
theorem dX9_netOf_3 : decode cX9_netOf 3 = .ok (.istore 4, 2) := by decide +kernel
theorem dX9_netOf_5 : decode cX9_netOf 5 = .ok (.iload 4, 2) := by decide +kernel
theorem dX9_netOf_7 : decode cX9_netOf 7 = .ok (.bipush 10, 2) := by decide +kernel
theorem dX9_netOf_9 : decode cX9_netOf 9 = .ok (.if_icmp .ge 37, 3) := by decide +kernel
theorem dX9_netOf_12 : decode cX9_netOf 12 = .ok (.lload_n 2, 1) := by decide +kernel
theorem dX9_netOf_13 : decode cX9_netOf 13 = .ok (.aload_n 0, 1) := by decide +kernel
theorem dX9_netOf_14 : decode cX9_netOf 14 = .ok (.getfield 52, 3) := by decide +kernel
theorem dX9_netOf_17 : decode cX9_netOf 17 = .ok (.bipush 10, 2) := by decide +kernel
theorem dX9_netOf_19 : decode cX9_netOf 19 = .ok (.iload 4, 2) := by decide +kernel
theorem dX9_netOf_21 : decode cX9_netOf 21 = .ok (.imul, 1) := by decide +kernel
theorem dX9_netOf_22 : decode cX9_netOf 22 = .ok (.iload_n 1, 1) := by decide +kernel
theorem dX9_netOf_23 : decode cX9_netOf 23 = .ok (.iadd, 1) := by decide +kernel
theorem dX9_netOf_24 : decode cX9_netOf 24 = .ok (.laload, 1) := by decide +kernel
theorem dX9_netOf_25 : decode cX9_netOf 25 = .ok (.aload_n 0, 1) := by decide +kernel
theorem dX9_netOf_26 : decode cX9_netOf 26 = .ok (.getfield 52, 3) := by decide +kernel
theorem dX9_netOf_29 : decode cX9_netOf 29 = .ok (.bipush 10, 2) := by decide +kernel
theorem dX9_netOf_31 : decode cX9_netOf 31 = .ok (.iload_n 1, 1) := by decide +kernel
theorem dX9_netOf_32 : decode cX9_netOf 32 = .ok (.imul, 1) := by decide +kernel
theorem dX9_netOf_33 : decode cX9_netOf 33 = .ok (.iload 4, 2) := by decide +kernel
theorem dX9_netOf_35 : decode cX9_netOf 35 = .ok (.iadd, 1) := by decide +kernel
theorem dX9_netOf_36 : decode cX9_netOf 36 = .ok (.laload, 1) := by decide +kernel
theorem dX9_netOf_37 : decode cX9_netOf 37 = .ok (.lsub, 1) := by decide +kernel
theorem dX9_netOf_38 : decode cX9_netOf 38 = .ok (.ladd, 1) := by decide +kernel
theorem dX9_netOf_39 : decode cX9_netOf 39 = .ok (.lstore_n 2, 1) := by decide +kernel
theorem dX9_netOf_40 : decode cX9_netOf 40 = .ok (.iinc 4 1, 3) := by decide +kernel
theorem dX9_netOf_43 : decode cX9_netOf 43 = .ok (.goto (-38), 3) := by decide +kernel
theorem dX9_netOf_46 : decode cX9_netOf 46 = .ok (.lload_n 2, 1) := by decide +kernel
theorem dX9_netOf_47 : decode cX9_netOf 47 = .ok (.lreturn, 1) := by decide +kernel
set_option maxRecDepth 20000 in
theorem ggX9_net_X9_isHouse : GoodIn wsX9_net wsX9_isHouse := goodIn_r _ [5, 6, 7, 4, 8] (by decide +kernel) (by decide +kernel)
set_option maxRecDepth 20000 in
theorem gX9_net_X9_isHouse : GoodIn wsX9_net (va_wsS RX9 171 yX9_isHouse wsX9_isHouse) := goodIn_app (goodIn_of _ (by decide +kernel)) ggX9_net_X9_isHouse
set_option maxRecDepth 20000 in
theorem ggX9_net_X9_netOf : GoodIn wsX9_net wsX9_netOf := goodIn_r _ [12, 13, 20, 21, 22, 23, 24, 25, 26, 27, 28, 29, 30, 31, 32, 33, 34, 35, 36, 37, 38, 39, 40, 41, 42, 43, 44, 45, 46, 47, 48, 49, 50, 51, 52, 53, 54, 55, 56, 57, 58, 59, 60, 61, 62, 63, 64, 65, 66, 67, 68, 69, 70, 71, 72, 73, 74] (by decide +kernel) (by decide +kernel)
set_option maxRecDepth 20000 in
theorem gX9_net_X9_netOf : GoodIn wsX9_net (wsV RX9 296 RX9 yX9_netOf wsX9_netOf) := goodIn_app (goodIn_of _ (by decide +kernel)) ggX9_net_X9_netOf
set_option maxRecDepth 20000 in
theorem ggX9_net_X9_finding : GoodIn wsX9_net wsX9_finding := goodIn_r _ [17, 18, 19, 20, 21, 22, 23, 24, 25, 26, 27, 28, 29, 30, 31, 32, 33, 34, 35, 36, 37, 38, 39, 40, 41, 42, 43, 44, 45, 46, 47, 48, 49, 50, 51, 52, 53, 54, 55, 56, 57, 58, 59, 60, 61, 62, 63, 64, 65, 66, 67, 68, 69, 70, 71, 72, 73, 74] (by decide +kernel) (by decide +kernel)
set_option maxRecDepth 20000 in
theorem gX9_net_X9_finding : GoodIn wsX9_net (wsV RX9 154 RX9 yX9_finding wsX9_finding) := goodIn_app (goodIn_of _ (by decide +kernel)) ggX9_net_X9_finding
theorem dX9_net_0 : decode cX9_net 0 = .ok (.iload_n 1, 1) := by decide +kernel
theorem dX9_net_1 : decode cX9_net 1 = .ok (.invokestatic 171, 3) := by decide +kernel
theorem dX9_net_4 : decode cX9_net 4 = .ok (.ifCond .eq 11, 3) := by decide +kernel
theorem dX9_net_7 : decode cX9_net 7 = .ok (.aload_n 0, 1) := by decide +kernel
theorem dX9_net_8 : decode cX9_net 8 = .ok (.iload_n 1, 1) := by decide +kernel
theorem dX9_net_9 : decode cX9_net 9 = .ok (.invokevirtual 296, 3) := by decide +kernel
theorem dX9_net_12 : decode cX9_net 12 = .ok (.goto 10, 3) := by decide +kernel
theorem dX9_net_15 : decode cX9_net 15 = .ok (.aload_n 0, 1) := by decide +kernel
theorem dX9_net_16 : decode cX9_net 16 = .ok (.ldc2_w 152, 3) := by decide +kernel
theorem dX9_net_19 : decode cX9_net 19 = .ok (.invokevirtual 154, 3) := by decide +kernel
theorem dX9_net_22 : decode cX9_net 22 = .ok (.lreturn, 1) := by decide +kernel
theorem dX9_findMost_0 : decode cX9_findMost 0 = .ok (.iconst 0, 1) := by decide +kernel
theorem dX9_findMost_1 : decode cX9_findMost 1 = .ok (.istore_n 1, 1) := by decide +kernel
theorem dX9_findMost_2 : decode cX9_findMost 2 = .ok (.iload_n 1, 1) := by decide +kernel
theorem dX9_findMost_3 : decode cX9_findMost 3 = .ok (.sipush 1024, 3) := by decide +kernel
theorem dX9_findMost_6 : decode cX9_findMost 6 = .ok (.if_icmp .ge 58, 3) := by decide +kernel
theorem dX9_findMost_9 : decode cX9_findMost 9 = .ok (.aload_n 0, 1) := by decide +kernel
theorem dX9_findMost_10 : decode cX9_findMost 10 = .ok (.getfield 112, 3) := by decide +kernel
theorem dX9_findMost_13 : decode cX9_findMost 13 = .ok (.iload_n 1, 1) := by decide +kernel
theorem dX9_findMost_14 : decode cX9_findMost 14 = .ok (.lconst 0, 1) := by decide +kernel
theorem dX9_findMost_15 : decode cX9_findMost 15 = .ok (.lastore, 1) := by decide +kernel
theorem dX9_findMost_16 : decode cX9_findMost 16 = .ok (.iconst 0, 1) := by decide +kernel
theorem dX9_findMost_17 : decode cX9_findMost 17 = .ok (.istore_n 2, 1) := by decide +kernel
theorem dX9_findMost_18 : decode cX9_findMost 18 = .ok (.iload_n 2, 1) := by decide +kernel
theorem dX9_findMost_19 : decode cX9_findMost 19 = .ok (.bipush 10, 2) := by decide +kernel
theorem dX9_findMost_21 : decode cX9_findMost 21 = .ok (.if_icmp .ge 37, 3) := by decide +kernel
theorem dX9_findMost_24 : decode cX9_findMost 24 = .ok (.aload_n 0, 1) := by decide +kernel
theorem dX9_findMost_25 : decode cX9_findMost 25 = .ok (.getfield 112, 3) := by decide +kernel
theorem dX9_findMost_28 : decode cX9_findMost 28 = .ok (.iload_n 1, 1) := by decide +kernel
theorem dX9_findMost_29 : decode cX9_findMost 29 = .ok (.dup2, 1) := by decide +kernel
theorem dX9_findMost_30 : decode cX9_findMost 30 = .ok (.laload, 1) := by decide +kernel
theorem dX9_findMost_31 : decode cX9_findMost 31 = .ok (.iload_n 1, 1) := by decide +kernel
theorem dX9_findMost_32 : decode cX9_findMost 32 = .ok (.iload_n 2, 1) := by decide +kernel
theorem dX9_findMost_33 : decode cX9_findMost 33 = .ok (.ishr, 1) := by decide +kernel
theorem dX9_findMost_34 : decode cX9_findMost 34 = .ok (.iconst 1, 1) := by decide +kernel
theorem dX9_findMost_35 : decode cX9_findMost 35 = .ok (.iand, 1) := by decide +kernel
theorem dX9_findMost_36 : decode cX9_findMost 36 = .ok (.iconst 1, 1) := by decide +kernel
theorem dX9_findMost_37 : decode cX9_findMost 37 = .ok (.if_icmp .ne 12, 3) := by decide +kernel
theorem dX9_findMost_40 : decode cX9_findMost 40 = .ok (.aload_n 0, 1) := by decide +kernel
theorem dX9_findMost_41 : decode cX9_findMost 41 = .ok (.getfield 130, 3) := by decide +kernel
theorem dX9_findMost_44 : decode cX9_findMost 44 = .ok (.iload_n 2, 1) := by decide +kernel
theorem dX9_findMost_45 : decode cX9_findMost 45 = .ok (.laload, 1) := by decide +kernel
theorem dX9_findMost_46 : decode cX9_findMost 46 = .ok (.goto 4, 3) := by decide +kernel
theorem dX9_findMost_49 : decode cX9_findMost 49 = .ok (.lconst 0, 1) := by decide +kernel
theorem dX9_findMost_50 : decode cX9_findMost 50 = .ok (.ladd, 1) := by decide +kernel
theorem dX9_findMost_51 : decode cX9_findMost 51 = .ok (.lastore, 1) := by decide +kernel
theorem dX9_findMost_52 : decode cX9_findMost 52 = .ok (.iinc 2 1, 3) := by decide +kernel
theorem dX9_findMost_55 : decode cX9_findMost 55 = .ok (.goto (-37), 3) := by decide +kernel
theorem dX9_findMost_58 : decode cX9_findMost 58 = .ok (.iinc 1 1, 3) := by decide +kernel
theorem dX9_findMost_61 : decode cX9_findMost 61 = .ok (.goto (-59), 3) := by decide +kernel
theorem dX9_findMost_64 : decode cX9_findMost 64 = .ok (.aload_n 0, 1) := by decide +kernel
theorem dX9_findMost_65 : decode cX9_findMost 65 = .ok (.getfield 115, 3) := by decide +kernel
theorem dX9_findMost_68 : decode cX9_findMost 68 = .ok (.iconst 0, 1) := by decide +kernel
theorem dX9_findMost_69 : decode cX9_findMost 69 = .ok (.iconst 0, 1) := by decide +kernel
theorem dX9_findMost_70 : decode cX9_findMost 70 = .ok (.iastore, 1) := by decide +kernel
theorem dX9_findMost_71 : decode cX9_findMost 71 = .ok (.iconst 1, 1) := by decide +kernel
theorem dX9_findMost_72 : decode cX9_findMost 72 = .ok (.istore_n 1, 1) := by decide +kernel
theorem dX9_findMost_73 : decode cX9_findMost 73 = .ok (.iload_n 1, 1) := by decide +kernel
theorem dX9_findMost_74 : decode cX9_findMost 74 = .ok (.sipush 1024, 3) := by decide +kernel
theorem dX9_findMost_77 : decode cX9_findMost 77 = .ok (.if_icmp .ge 99, 3) := by decide +kernel
theorem dX9_findMost_80 : decode cX9_findMost 80 = .ok (.aload_n 0, 1) := by decide +kernel
theorem dX9_findMost_81 : decode cX9_findMost 81 = .ok (.getfield 115, 3) := by decide +kernel
theorem dX9_findMost_84 : decode cX9_findMost 84 = .ok (.iload_n 1, 1) := by decide +kernel
theorem dX9_findMost_85 : decode cX9_findMost 85 = .ok (.iconst (-1), 1) := by decide +kernel
theorem dX9_findMost_86 : decode cX9_findMost 86 = .ok (.iastore, 1) := by decide +kernel
theorem dX9_findMost_87 : decode cX9_findMost 87 = .ok (.iload_n 1, 1) := by decide +kernel
theorem dX9_findMost_88 : decode cX9_findMost 88 = .ok (.iload_n 1, 1) := by decide +kernel
theorem dX9_findMost_89 : decode cX9_findMost 89 = .ok (.ineg, 1) := by decide +kernel
theorem dX9_findMost_90 : decode cX9_findMost 90 = .ok (.iand, 1) := by decide +kernel
theorem dX9_findMost_91 : decode cX9_findMost 91 = .ok (.istore_n 2, 1) := by decide +kernel
theorem dX9_findMost_92 : decode cX9_findMost 92 = .ok (.iload_n 1, 1) := by decide +kernel
theorem dX9_findMost_93 : decode cX9_findMost 93 = .ok (.istore_n 3, 1) := by decide +kernel
theorem dX9_findMost_94 : decode cX9_findMost 94 = .ok (.iload_n 3, 1) := by decide +kernel
theorem dX9_findMost_95 : decode cX9_findMost 95 = .ok (.ifCond .le 75, 3) := by decide +kernel
theorem dX9_findMost_98 : decode cX9_findMost 98 = .ok (.iload_n 3, 1) := by decide +kernel
theorem dX9_findMost_99 : decode cX9_findMost 99 = .ok (.iload_n 2, 1) := by decide +kernel
theorem dX9_findMost_100 : decode cX9_findMost 100 = .ok (.iand, 1) := by decide +kernel
theorem dX9_findMost_101 : decode cX9_findMost 101 = .ok (.ifCond .eq 60, 3) := by decide +kernel
theorem dX9_findMost_104 : decode cX9_findMost 104 = .ok (.aload_n 0, 1) := by decide +kernel
theorem dX9_findMost_105 : decode cX9_findMost 105 = .ok (.getfield 112, 3) := by decide +kernel
theorem dX9_findMost_108 : decode cX9_findMost 108 = .ok (.iload_n 3, 1) := by decide +kernel
theorem dX9_findMost_109 : decode cX9_findMost 109 = .ok (.laload, 1) := by decide +kernel
theorem dX9_findMost_110 : decode cX9_findMost 110 = .ok (.lconst 0, 1) := by decide +kernel
theorem dX9_findMost_111 : decode cX9_findMost 111 = .ok (.lcmp, 1) := by decide +kernel
theorem dX9_findMost_112 : decode cX9_findMost 112 = .ok (.ifCond .ne 49, 3) := by decide +kernel
theorem dX9_findMost_115 : decode cX9_findMost 115 = .ok (.aload_n 0, 1) := by decide +kernel
theorem dX9_findMost_116 : decode cX9_findMost 116 = .ok (.getfield 115, 3) := by decide +kernel
theorem dX9_findMost_119 : decode cX9_findMost 119 = .ok (.iload_n 1, 1) := by decide +kernel
theorem dX9_findMost_120 : decode cX9_findMost 120 = .ok (.iload_n 3, 1) := by decide +kernel
theorem dX9_findMost_121 : decode cX9_findMost 121 = .ok (.ixor, 1) := by decide +kernel
theorem dX9_findMost_122 : decode cX9_findMost 122 = .ok (.iaload, 1) := by decide +kernel
theorem dX9_findMost_123 : decode cX9_findMost 123 = .ok (.ifCond .lt 38, 3) := by decide +kernel
theorem dX9_findMost_126 : decode cX9_findMost 126 = .ok (.aload_n 0, 1) := by decide +kernel
theorem dX9_findMost_127 : decode cX9_findMost 127 = .ok (.getfield 115, 3) := by decide +kernel
theorem dX9_findMost_130 : decode cX9_findMost 130 = .ok (.iload_n 1, 1) := by decide +kernel
theorem dX9_findMost_131 : decode cX9_findMost 131 = .ok (.iload_n 3, 1) := by decide +kernel
theorem dX9_findMost_132 : decode cX9_findMost 132 = .ok (.ixor, 1) := by decide +kernel
theorem dX9_findMost_133 : decode cX9_findMost 133 = .ok (.iaload, 1) := by decide +kernel
theorem dX9_findMost_134 : decode cX9_findMost 134 = .ok (.iconst 1, 1) := by decide +kernel
theorem dX9_findMost_135 : decode cX9_findMost 135 = .ok (.iadd, 1) := by decide +kernel
theorem dX9_findMost_136 : decode cX9_findMost 136 = .ok (.aload_n 0, 1) := by decide +kernel
theorem dX9_findMost_137 : decode cX9_findMost 137 = .ok (.getfield 115, 3) := by decide +kernel
theorem dX9_findMost_140 : decode cX9_findMost 140 = .ok (.iload_n 1, 1) := by decide +kernel
theorem dX9_findMost_141 : decode cX9_findMost 141 = .ok (.iaload, 1) := by decide +kernel
theorem dX9_findMost_142 : decode cX9_findMost 142 = .ok (.if_icmp .le 19, 3) := by decide +kernel
theorem dX9_findMost_145 : decode cX9_findMost 145 = .ok (.aload_n 0, 1) := by decide +kernel
theorem dX9_findMost_146 : decode cX9_findMost 146 = .ok (.getfield 115, 3) := by decide +kernel
theorem dX9_findMost_149 : decode cX9_findMost 149 = .ok (.iload_n 1, 1) := by decide +kernel
theorem dX9_findMost_150 : decode cX9_findMost 150 = .ok (.aload_n 0, 1) := by decide +kernel
theorem dX9_findMost_151 : decode cX9_findMost 151 = .ok (.getfield 115, 3) := by decide +kernel
theorem dX9_findMost_154 : decode cX9_findMost 154 = .ok (.iload_n 1, 1) := by decide +kernel
theorem dX9_findMost_155 : decode cX9_findMost 155 = .ok (.iload_n 3, 1) := by decide +kernel
theorem dX9_findMost_156 : decode cX9_findMost 156 = .ok (.ixor, 1) := by decide +kernel
theorem dX9_findMost_157 : decode cX9_findMost 157 = .ok (.iaload, 1) := by decide +kernel
theorem dX9_findMost_158 : decode cX9_findMost 158 = .ok (.iconst 1, 1) := by decide +kernel
theorem dX9_findMost_159 : decode cX9_findMost 159 = .ok (.iadd, 1) := by decide +kernel
theorem dX9_findMost_160 : decode cX9_findMost 160 = .ok (.iastore, 1) := by decide +kernel
theorem dX9_findMost_161 : decode cX9_findMost 161 = .ok (.iload_n 3, 1) := by decide +kernel
theorem dX9_findMost_162 : decode cX9_findMost 162 = .ok (.iconst 1, 1) := by decide +kernel
theorem dX9_findMost_163 : decode cX9_findMost 163 = .ok (.isub, 1) := by decide +kernel
theorem dX9_findMost_164 : decode cX9_findMost 164 = .ok (.iload_n 1, 1) := by decide +kernel
theorem dX9_findMost_165 : decode cX9_findMost 165 = .ok (.iand, 1) := by decide +kernel
theorem dX9_findMost_166 : decode cX9_findMost 166 = .ok (.istore_n 3, 1) := by decide +kernel
theorem dX9_findMost_167 : decode cX9_findMost 167 = .ok (.goto (-73), 3) := by decide +kernel
theorem dX9_findMost_170 : decode cX9_findMost 170 = .ok (.iinc 1 1, 3) := by decide +kernel
theorem dX9_findMost_173 : decode cX9_findMost 173 = .ok (.goto (-100), 3) := by decide +kernel
theorem dX9_findMost_176 : decode cX9_findMost 176 = .ok (.return_, 1) := by decide +kernel
set_option maxRecDepth 20000 in
theorem ggX9_findPlan_X9_netOf : GoodIn wsX9_findPlan wsX9_netOf := goodIn_r _ [11, 12, 32, 33, 34, 35, 36, 37, 38, 39, 40, 41, 42, 43, 44, 45, 46, 47, 48, 49, 50, 51, 52, 53, 54, 55, 56, 57, 58, 59, 60, 61, 62, 63, 64, 65, 66, 67, 68, 69, 70, 71, 72, 73, 74, 75, 76, 77, 78, 79, 80, 81, 82, 83, 84, 85, 86] (by decide +kernel) (by decide +kernel)
set_option maxRecDepth 20000 in
theorem gX9_findPlan_X9_netOf : GoodIn wsX9_findPlan (wsV RX9 296 RX9 yX9_netOf wsX9_netOf) := goodIn_app (goodIn_of _ (by decide +kernel)) ggX9_findPlan_X9_netOf
set_option maxRecDepth 20000 in
theorem ggX9_findPlan_X9_findMost : GoodIn wsX9_findPlan wsX9_findMost := goodIn_r _ [16, 4, 1, 5, 32, 33, 34, 35, 36, 37, 38, 39, 40, 41, 42, 43, 44, 45, 46, 47, 48, 49, 50, 51, 52, 53, 54, 55, 56, 57, 58, 59, 60, 61, 62, 63, 64, 65, 66, 67, 68, 69, 70, 71, 72, 73, 74, 75, 76, 77, 78, 79, 80, 81, 82, 83, 84, 85, 86] (by decide +kernel) (by decide +kernel)
set_option maxRecDepth 20000 in
theorem gX9_findPlan_X9_findMost : GoodIn wsX9_findPlan (wsV RX9 300 RX9 yX9_findMost wsX9_findMost) := goodIn_app (goodIn_of _ (by decide +kernel)) ggX9_findPlan_X9_findMost
set_option maxRecDepth 20000 in
theorem ggX9_findPlan_X9_payOut : GoodIn wsX9_findPlan wsX9_payOut := goodIn_r _ [20, 1, 21, 22, 23, 24, 25, 3, 26, 27, 28, 29, 30, 10, 31, 32, 33, 34, 35, 36, 37, 38, 39, 40, 41, 42, 43, 44, 45, 46, 47, 48, 49, 50, 51, 52, 53, 54, 55, 56, 57, 58, 59, 60, 61, 62, 63, 64, 65, 66, 67, 68, 69, 70, 71, 72, 73, 74, 75, 76, 77, 78, 79, 80, 81, 82, 83, 84, 85, 86] (by decide +kernel) (by decide +kernel)
set_option maxRecDepth 20000 in
theorem gX9_findPlan_X9_payOut : GoodIn wsX9_findPlan (wsV RX9 309 RX9 yX9_payOut wsX9_payOut) := goodIn_app (goodIn_of _ (by decide +kernel)) ggX9_findPlan_X9_payOut
theorem dX9_findPlan_0 : decode cX9_findPlan 0 = .ok (.iconst 0, 1) := by decide +kernel
theorem dX9_findPlan_1 : decode cX9_findPlan 1 = .ok (.istore_n 1, 1) := by decide +kernel
theorem dX9_findPlan_2 : decode cX9_findPlan 2 = .ok (.iconst 0, 1) := by decide +kernel
theorem dX9_findPlan_3 : decode cX9_findPlan 3 = .ok (.istore_n 2, 1) := by decide +kernel
theorem dX9_findPlan_4 : decode cX9_findPlan 4 = .ok (.iload_n 2, 1) := by decide +kernel
theorem dX9_findPlan_5 : decode cX9_findPlan 5 = .ok (.bipush 10, 2) := by decide +kernel
theorem dX9_findPlan_7 : decode cX9_findPlan 7 = .ok (.if_icmp .ge 41, 3) := by decide +kernel
theorem dX9_findPlan_10 : decode cX9_findPlan 10 = .ok (.aload_n 0, 1) := by decide +kernel
theorem dX9_findPlan_11 : decode cX9_findPlan 11 = .ok (.getfield 130, 3) := by decide +kernel
theorem dX9_findPlan_14 : decode cX9_findPlan 14 = .ok (.iload_n 2, 1) := by decide +kernel
theorem dX9_findPlan_15 : decode cX9_findPlan 15 = .ok (.aload_n 0, 1) := by decide +kernel
theorem dX9_findPlan_16 : decode cX9_findPlan 16 = .ok (.iload_n 2, 1) := by decide +kernel
theorem dX9_findPlan_17 : decode cX9_findPlan 17 = .ok (.invokevirtual 296, 3) := by decide +kernel
theorem dX9_findPlan_20 : decode cX9_findPlan 20 = .ok (.lastore, 1) := by decide +kernel
theorem dX9_findPlan_21 : decode cX9_findPlan 21 = .ok (.iload_n 1, 1) := by decide +kernel
theorem dX9_findPlan_22 : decode cX9_findPlan 22 = .ok (.aload_n 0, 1) := by decide +kernel
theorem dX9_findPlan_23 : decode cX9_findPlan 23 = .ok (.getfield 130, 3) := by decide +kernel
theorem dX9_findPlan_26 : decode cX9_findPlan 26 = .ok (.iload_n 2, 1) := by decide +kernel
theorem dX9_findPlan_27 : decode cX9_findPlan 27 = .ok (.laload, 1) := by decide +kernel
theorem dX9_findPlan_28 : decode cX9_findPlan 28 = .ok (.lconst 0, 1) := by decide +kernel
theorem dX9_findPlan_29 : decode cX9_findPlan 29 = .ok (.lcmp, 1) := by decide +kernel
theorem dX9_findPlan_30 : decode cX9_findPlan 30 = .ok (.ifCond .eq 9, 3) := by decide +kernel
theorem dX9_findPlan_33 : decode cX9_findPlan 33 = .ok (.iconst 1, 1) := by decide +kernel
theorem dX9_findPlan_34 : decode cX9_findPlan 34 = .ok (.iload_n 2, 1) := by decide +kernel
theorem dX9_findPlan_35 : decode cX9_findPlan 35 = .ok (.ishl, 1) := by decide +kernel
theorem dX9_findPlan_36 : decode cX9_findPlan 36 = .ok (.goto 4, 3) := by decide +kernel
theorem dX9_findPlan_39 : decode cX9_findPlan 39 = .ok (.iconst 0, 1) := by decide +kernel
theorem dX9_findPlan_40 : decode cX9_findPlan 40 = .ok (.ior, 1) := by decide +kernel
theorem dX9_findPlan_41 : decode cX9_findPlan 41 = .ok (.istore_n 1, 1) := by decide +kernel
theorem dX9_findPlan_42 : decode cX9_findPlan 42 = .ok (.iinc 2 1, 3) := by decide +kernel
theorem dX9_findPlan_45 : decode cX9_findPlan 45 = .ok (.goto (-41), 3) := by decide +kernel
theorem dX9_findPlan_48 : decode cX9_findPlan 48 = .ok (.aload_n 0, 1) := by decide +kernel
theorem dX9_findPlan_49 : decode cX9_findPlan 49 = .ok (.invokevirtual 300, 3) := by decide +kernel
theorem dX9_findPlan_52 : decode cX9_findPlan 52 = .ok (.aload_n 0, 1) := by decide +kernel
theorem dX9_findPlan_53 : decode cX9_findPlan 53 = .ok (.iconst 0, 1) := by decide +kernel
theorem dX9_findPlan_54 : decode cX9_findPlan 54 = .ok (.putfield 303, 3) := by decide +kernel
theorem dX9_findPlan_57 : decode cX9_findPlan 57 = .ok (.aload_n 0, 1) := by decide +kernel
theorem dX9_findPlan_58 : decode cX9_findPlan 58 = .ok (.iconst 0, 1) := by decide +kernel
theorem dX9_findPlan_59 : decode cX9_findPlan 59 = .ok (.putfield 306, 3) := by decide +kernel
theorem dX9_findPlan_62 : decode cX9_findPlan 62 = .ok (.iload_n 1, 1) := by decide +kernel
theorem dX9_findPlan_63 : decode cX9_findPlan 63 = .ok (.ifCond .eq 85, 3) := by decide +kernel
theorem dX9_findPlan_66 : decode cX9_findPlan 66 = .ok (.iconst 1, 1) := by decide +kernel
theorem dX9_findPlan_67 : decode cX9_findPlan 67 = .ok (.istore_n 2, 1) := by decide +kernel
theorem dX9_findPlan_68 : decode cX9_findPlan 68 = .ok (.iload_n 2, 1) := by decide +kernel
theorem dX9_findPlan_69 : decode cX9_findPlan 69 = .ok (.iload_n 1, 1) := by decide +kernel
theorem dX9_findPlan_70 : decode cX9_findPlan 70 = .ok (.iconst (-1), 1) := by decide +kernel
theorem dX9_findPlan_71 : decode cX9_findPlan 71 = .ok (.ixor, 1) := by decide +kernel
theorem dX9_findPlan_72 : decode cX9_findPlan 72 = .ok (.iand, 1) := by decide +kernel
theorem dX9_findPlan_73 : decode cX9_findPlan 73 = .ok (.ifCond .ne 42, 3) := by decide +kernel
theorem dX9_findPlan_76 : decode cX9_findPlan 76 = .ok (.iload_n 2, 1) := by decide +kernel
theorem dX9_findPlan_77 : decode cX9_findPlan 77 = .ok (.iload_n 1, 1) := by decide +kernel
theorem dX9_findPlan_78 : decode cX9_findPlan 78 = .ok (.iload_n 1, 1) := by decide +kernel
theorem dX9_findPlan_79 : decode cX9_findPlan 79 = .ok (.ineg, 1) := by decide +kernel
theorem dX9_findPlan_80 : decode cX9_findPlan 80 = .ok (.iand, 1) := by decide +kernel
theorem dX9_findPlan_81 : decode cX9_findPlan 81 = .ok (.iand, 1) := by decide +kernel
theorem dX9_findPlan_82 : decode cX9_findPlan 82 = .ok (.ifCond .eq 33, 3) := by decide +kernel
theorem dX9_findPlan_85 : decode cX9_findPlan 85 = .ok (.aload_n 0, 1) := by decide +kernel
theorem dX9_findPlan_86 : decode cX9_findPlan 86 = .ok (.getfield 112, 3) := by decide +kernel
theorem dX9_findPlan_89 : decode cX9_findPlan 89 = .ok (.iload_n 2, 1) := by decide +kernel
theorem dX9_findPlan_90 : decode cX9_findPlan 90 = .ok (.laload, 1) := by decide +kernel
theorem dX9_findPlan_91 : decode cX9_findPlan 91 = .ok (.lconst 0, 1) := by decide +kernel
theorem dX9_findPlan_92 : decode cX9_findPlan 92 = .ok (.lcmp, 1) := by decide +kernel
theorem dX9_findPlan_93 : decode cX9_findPlan 93 = .ok (.ifCond .ne 22, 3) := by decide +kernel
theorem dX9_findPlan_96 : decode cX9_findPlan 96 = .ok (.aload_n 0, 1) := by decide +kernel
theorem dX9_findPlan_97 : decode cX9_findPlan 97 = .ok (.getfield 115, 3) := by decide +kernel
theorem dX9_findPlan_100 : decode cX9_findPlan 100 = .ok (.iload_n 1, 1) := by decide +kernel
theorem dX9_findPlan_101 : decode cX9_findPlan 101 = .ok (.iload_n 2, 1) := by decide +kernel
theorem dX9_findPlan_102 : decode cX9_findPlan 102 = .ok (.ixor, 1) := by decide +kernel
theorem dX9_findPlan_103 : decode cX9_findPlan 103 = .ok (.iaload, 1) := by decide +kernel
theorem dX9_findPlan_104 : decode cX9_findPlan 104 = .ok (.iconst 1, 1) := by decide +kernel
theorem dX9_findPlan_105 : decode cX9_findPlan 105 = .ok (.iadd, 1) := by decide +kernel
theorem dX9_findPlan_106 : decode cX9_findPlan 106 = .ok (.aload_n 0, 1) := by decide +kernel
theorem dX9_findPlan_107 : decode cX9_findPlan 107 = .ok (.getfield 115, 3) := by decide +kernel
theorem dX9_findPlan_110 : decode cX9_findPlan 110 = .ok (.iload_n 1, 1) := by decide +kernel
theorem dX9_findPlan_111 : decode cX9_findPlan 111 = .ok (.iaload, 1) := by decide +kernel
theorem dX9_findPlan_112 : decode cX9_findPlan 112 = .ok (.if_icmp .eq 9, 3) := by decide +kernel
theorem dX9_findPlan_115 : decode cX9_findPlan 115 = .ok (.iinc 2 1, 3) := by decide +kernel
theorem dX9_findPlan_118 : decode cX9_findPlan 118 = .ok (.goto (-50), 3) := by decide +kernel
theorem dX9_findPlan_121 : decode cX9_findPlan 121 = .ok (.aload_n 0, 1) := by decide +kernel
theorem dX9_findPlan_122 : decode cX9_findPlan 122 = .ok (.getfield 118, 3) := by decide +kernel
theorem dX9_findPlan_125 : decode cX9_findPlan 125 = .ok (.aload_n 0, 1) := by decide +kernel
theorem dX9_findPlan_126 : decode cX9_findPlan 126 = .ok (.getfield 303, 3) := by decide +kernel
theorem dX9_findPlan_129 : decode cX9_findPlan 129 = .ok (.iload_n 2, 1) := by decide +kernel
theorem dX9_findPlan_130 : decode cX9_findPlan 130 = .ok (.iastore, 1) := by decide +kernel
theorem dX9_findPlan_131 : decode cX9_findPlan 131 = .ok (.aload_n 0, 1) := by decide +kernel
theorem dX9_findPlan_132 : decode cX9_findPlan 132 = .ok (.dup, 1) := by decide +kernel
theorem dX9_findPlan_133 : decode cX9_findPlan 133 = .ok (.getfield 303, 3) := by decide +kernel
theorem dX9_findPlan_136 : decode cX9_findPlan 136 = .ok (.iconst 1, 1) := by decide +kernel
theorem dX9_findPlan_137 : decode cX9_findPlan 137 = .ok (.iadd, 1) := by decide +kernel
theorem dX9_findPlan_138 : decode cX9_findPlan 138 = .ok (.putfield 303, 3) := by decide +kernel
theorem dX9_findPlan_141 : decode cX9_findPlan 141 = .ok (.iload_n 1, 1) := by decide +kernel
theorem dX9_findPlan_142 : decode cX9_findPlan 142 = .ok (.iload_n 2, 1) := by decide +kernel
theorem dX9_findPlan_143 : decode cX9_findPlan 143 = .ok (.ixor, 1) := by decide +kernel
theorem dX9_findPlan_144 : decode cX9_findPlan 144 = .ok (.istore_n 1, 1) := by decide +kernel
theorem dX9_findPlan_145 : decode cX9_findPlan 145 = .ok (.goto (-83), 3) := by decide +kernel
theorem dX9_findPlan_148 : decode cX9_findPlan 148 = .ok (.iconst 0, 1) := by decide +kernel
theorem dX9_findPlan_149 : decode cX9_findPlan 149 = .ok (.istore_n 2, 1) := by decide +kernel
theorem dX9_findPlan_150 : decode cX9_findPlan 150 = .ok (.iload_n 2, 1) := by decide +kernel
theorem dX9_findPlan_151 : decode cX9_findPlan 151 = .ok (.aload_n 0, 1) := by decide +kernel
theorem dX9_findPlan_152 : decode cX9_findPlan 152 = .ok (.getfield 303, 3) := by decide +kernel
theorem dX9_findPlan_155 : decode cX9_findPlan 155 = .ok (.if_icmp .ge 19, 3) := by decide +kernel
theorem dX9_findPlan_158 : decode cX9_findPlan 158 = .ok (.aload_n 0, 1) := by decide +kernel
theorem dX9_findPlan_159 : decode cX9_findPlan 159 = .ok (.aload_n 0, 1) := by decide +kernel
theorem dX9_findPlan_160 : decode cX9_findPlan 160 = .ok (.getfield 118, 3) := by decide +kernel
theorem dX9_findPlan_163 : decode cX9_findPlan 163 = .ok (.iload_n 2, 1) := by decide +kernel
theorem dX9_findPlan_164 : decode cX9_findPlan 164 = .ok (.iaload, 1) := by decide +kernel
theorem dX9_findPlan_165 : decode cX9_findPlan 165 = .ok (.invokevirtual 309, 3) := by decide +kernel
theorem dX9_findPlan_168 : decode cX9_findPlan 168 = .ok (.iinc 2 1, 3) := by decide +kernel
theorem dX9_findPlan_171 : decode cX9_findPlan 171 = .ok (.goto (-21), 3) := by decide +kernel
theorem dX9_findPlan_174 : decode cX9_findPlan 174 = .ok (.return_, 1) := by decide +kernel
theorem dX9_leastOf_0 : decode cX9_leastOf 0 = .ok (.iconst 0, 1) := by decide +kernel
theorem dX9_leastOf_1 : decode cX9_leastOf 1 = .ok (.istore_n 3, 1) := by decide +kernel
theorem dX9_leastOf_2 : decode cX9_leastOf 2 = .ok (.iload_n 3, 1) := by decide +kernel
theorem dX9_leastOf_3 : decode cX9_leastOf 3 = .ok (.bipush 10, 2) := by decide +kernel
theorem dX9_leastOf_5 : decode cX9_leastOf 5 = .ok (.if_icmp .ge 34, 3) := by decide +kernel
theorem dX9_leastOf_8 : decode cX9_leastOf 8 = .ok (.iload_n 1, 1) := by decide +kernel
theorem dX9_leastOf_9 : decode cX9_leastOf 9 = .ok (.iload_n 3, 1) := by decide +kernel
theorem dX9_leastOf_10 : decode cX9_leastOf 10 = .ok (.ishr, 1) := by decide +kernel
theorem dX9_leastOf_11 : decode cX9_leastOf 11 = .ok (.iconst 1, 1) := by decide +kernel
theorem dX9_leastOf_12 : decode cX9_leastOf 12 = .ok (.iand, 1) := by decide +kernel
theorem dX9_leastOf_13 : decode cX9_leastOf 13 = .ok (.iconst 1, 1) := by decide +kernel
theorem dX9_leastOf_14 : decode cX9_leastOf 14 = .ok (.if_icmp .ne 19, 3) := by decide +kernel
theorem dX9_leastOf_17 : decode cX9_leastOf 17 = .ok (.aload_n 0, 1) := by decide +kernel
theorem dX9_leastOf_18 : decode cX9_leastOf 18 = .ok (.getfield 130, 3) := by decide +kernel
theorem dX9_leastOf_21 : decode cX9_leastOf 21 = .ok (.iload_n 3, 1) := by decide +kernel
theorem dX9_leastOf_22 : decode cX9_leastOf 22 = .ok (.laload, 1) := by decide +kernel
theorem dX9_leastOf_23 : decode cX9_leastOf 23 = .ok (.iload_n 2, 1) := by decide +kernel
theorem dX9_leastOf_24 : decode cX9_leastOf 24 = .ok (.i2l, 1) := by decide +kernel
theorem dX9_leastOf_25 : decode cX9_leastOf 25 = .ok (.lmul, 1) := by decide +kernel
theorem dX9_leastOf_26 : decode cX9_leastOf 26 = .ok (.lconst 0, 1) := by decide +kernel
theorem dX9_leastOf_27 : decode cX9_leastOf 27 = .ok (.lcmp, 1) := by decide +kernel
theorem dX9_leastOf_28 : decode cX9_leastOf 28 = .ok (.ifCond .le 5, 3) := by decide +kernel
theorem dX9_leastOf_31 : decode cX9_leastOf 31 = .ok (.iload_n 3, 1) := by decide +kernel
theorem dX9_leastOf_32 : decode cX9_leastOf 32 = .ok (.ireturn, 1) := by decide +kernel
theorem dX9_leastOf_33 : decode cX9_leastOf 33 = .ok (.iinc 3 1, 3) := by decide +kernel
theorem dX9_leastOf_36 : decode cX9_leastOf 36 = .ok (.goto (-34), 3) := by decide +kernel
theorem dX9_leastOf_39 : decode cX9_leastOf 39 = .ok (.iconst (-1), 1) := by decide +kernel
theorem dX9_leastOf_40 : decode cX9_leastOf 40 = .ok (.ireturn, 1) := by decide +kernel
set_option maxRecDepth 20000 in
theorem ggX9_payOut_X9_leastOf : GoodIn wsX9_payOut wsX9_leastOf := goodIn_r _ [14, 1, 15, 16, 17, 18, 19, 20, 21, 22, 23, 24, 25, 26, 27, 28, 29, 30, 31, 32, 33, 34, 35, 36, 37, 38, 39, 40, 41, 42, 43, 44, 45, 46, 47, 48, 49, 50, 51, 52, 53, 54, 55, 56, 57, 58, 59, 60, 61, 62, 63, 64, 65, 66, 67, 68, 69] (by decide +kernel) (by decide +kernel)
set_option maxRecDepth 20000 in
theorem gX9_payOut_X9_leastOf : GoodIn wsX9_payOut (wsV RX9 313 RX9 yX9_leastOf wsX9_leastOf) := goodIn_app (goodIn_of _ (by decide +kernel)) ggX9_payOut_X9_leastOf
theorem dX9_payOut_0 : decode cX9_payOut 0 = .ok (.aload_n 0, 1) := by decide +kernel
theorem dX9_payOut_1 : decode cX9_payOut 1 = .ok (.iload_n 1, 1) := by decide +kernel
theorem dX9_payOut_2 : decode cX9_payOut 2 = .ok (.iconst (-1), 1) := by decide +kernel
theorem dX9_payOut_3 : decode cX9_payOut 3 = .ok (.invokevirtual 313, 3) := by decide +kernel
theorem dX9_payOut_6 : decode cX9_payOut 6 = .ok (.istore_n 2, 1) := by decide +kernel
theorem dX9_payOut_7 : decode cX9_payOut 7 = .ok (.iload_n 2, 1) := by decide +kernel
theorem dX9_payOut_8 : decode cX9_payOut 8 = .ok (.ifCond .lt 101, 3) := by decide +kernel
theorem dX9_payOut_11 : decode cX9_payOut 11 = .ok (.aload_n 0, 1) := by decide +kernel
theorem dX9_payOut_12 : decode cX9_payOut 12 = .ok (.iload_n 1, 1) := by decide +kernel
theorem dX9_payOut_13 : decode cX9_payOut 13 = .ok (.iconst 1, 1) := by decide +kernel
theorem dX9_payOut_14 : decode cX9_payOut 14 = .ok (.invokevirtual 313, 3) := by decide +kernel
theorem dX9_payOut_17 : decode cX9_payOut 17 = .ok (.istore_n 3, 1) := by decide +kernel
theorem dX9_payOut_18 : decode cX9_payOut 18 = .ok (.aload_n 0, 1) := by decide +kernel
theorem dX9_payOut_19 : decode cX9_payOut 19 = .ok (.getfield 130, 3) := by decide +kernel
theorem dX9_payOut_22 : decode cX9_payOut 22 = .ok (.iload_n 2, 1) := by decide +kernel
theorem dX9_payOut_23 : decode cX9_payOut 23 = .ok (.laload, 1) := by decide +kernel
theorem dX9_payOut_24 : decode cX9_payOut 24 = .ok (.lneg, 1) := by decide +kernel
theorem dX9_payOut_25 : decode cX9_payOut 25 = .ok (.aload_n 0, 1) := by decide +kernel
theorem dX9_payOut_26 : decode cX9_payOut 26 = .ok (.getfield 130, 3) := by decide +kernel
theorem dX9_payOut_29 : decode cX9_payOut 29 = .ok (.iload_n 3, 1) := by decide +kernel
theorem dX9_payOut_30 : decode cX9_payOut 30 = .ok (.laload, 1) := by decide +kernel
theorem dX9_payOut_31 : decode cX9_payOut 31 = .ok (.invokestatic 317, 3) := by decide +kernel
theorem dX9_payOut_34 : decode cX9_payOut 34 = .ok (.lstore 4, 2) := by decide +kernel
theorem dX9_payOut_36 : decode cX9_payOut 36 = .ok (.aload_n 0, 1) := by decide +kernel
theorem dX9_payOut_37 : decode cX9_payOut 37 = .ok (.getfield 121, 3) := by decide +kernel
theorem dX9_payOut_40 : decode cX9_payOut 40 = .ok (.aload_n 0, 1) := by decide +kernel
theorem dX9_payOut_41 : decode cX9_payOut 41 = .ok (.getfield 306, 3) := by decide +kernel
theorem dX9_payOut_44 : decode cX9_payOut 44 = .ok (.iload_n 2, 1) := by decide +kernel
theorem dX9_payOut_45 : decode cX9_payOut 45 = .ok (.iastore, 1) := by decide +kernel
theorem dX9_payOut_46 : decode cX9_payOut 46 = .ok (.aload_n 0, 1) := by decide +kernel
theorem dX9_payOut_47 : decode cX9_payOut 47 = .ok (.getfield 124, 3) := by decide +kernel
theorem dX9_payOut_50 : decode cX9_payOut 50 = .ok (.aload_n 0, 1) := by decide +kernel
theorem dX9_payOut_51 : decode cX9_payOut 51 = .ok (.getfield 306, 3) := by decide +kernel
theorem dX9_payOut_54 : decode cX9_payOut 54 = .ok (.iload_n 3, 1) := by decide +kernel
theorem dX9_payOut_55 : decode cX9_payOut 55 = .ok (.iastore, 1) := by decide +kernel
theorem dX9_payOut_56 : decode cX9_payOut 56 = .ok (.aload_n 0, 1) := by decide +kernel
theorem dX9_payOut_57 : decode cX9_payOut 57 = .ok (.getfield 127, 3) := by decide +kernel
theorem dX9_payOut_60 : decode cX9_payOut 60 = .ok (.aload_n 0, 1) := by decide +kernel
theorem dX9_payOut_61 : decode cX9_payOut 61 = .ok (.getfield 306, 3) := by decide +kernel
theorem dX9_payOut_64 : decode cX9_payOut 64 = .ok (.lload 4, 2) := by decide +kernel
theorem dX9_payOut_66 : decode cX9_payOut 66 = .ok (.lastore, 1) := by decide +kernel
theorem dX9_payOut_67 : decode cX9_payOut 67 = .ok (.aload_n 0, 1) := by decide +kernel
theorem dX9_payOut_68 : decode cX9_payOut 68 = .ok (.dup, 1) := by decide +kernel
theorem dX9_payOut_69 : decode cX9_payOut 69 = .ok (.getfield 306, 3) := by decide +kernel
theorem dX9_payOut_72 : decode cX9_payOut 72 = .ok (.iconst 1, 1) := by decide +kernel
theorem dX9_payOut_73 : decode cX9_payOut 73 = .ok (.iadd, 1) := by decide +kernel
theorem dX9_payOut_74 : decode cX9_payOut 74 = .ok (.putfield 306, 3) := by decide +kernel
theorem dX9_payOut_77 : decode cX9_payOut 77 = .ok (.aload_n 0, 1) := by decide +kernel
theorem dX9_payOut_78 : decode cX9_payOut 78 = .ok (.getfield 130, 3) := by decide +kernel
theorem dX9_payOut_81 : decode cX9_payOut 81 = .ok (.iload_n 2, 1) := by decide +kernel
theorem dX9_payOut_82 : decode cX9_payOut 82 = .ok (.dup2, 1) := by decide +kernel
theorem dX9_payOut_83 : decode cX9_payOut 83 = .ok (.laload, 1) := by decide +kernel
theorem dX9_payOut_84 : decode cX9_payOut 84 = .ok (.lload 4, 2) := by decide +kernel
theorem dX9_payOut_86 : decode cX9_payOut 86 = .ok (.ladd, 1) := by decide +kernel
theorem dX9_payOut_87 : decode cX9_payOut 87 = .ok (.lastore, 1) := by decide +kernel
theorem dX9_payOut_88 : decode cX9_payOut 88 = .ok (.aload_n 0, 1) := by decide +kernel
theorem dX9_payOut_89 : decode cX9_payOut 89 = .ok (.getfield 130, 3) := by decide +kernel
theorem dX9_payOut_92 : decode cX9_payOut 92 = .ok (.iload_n 3, 1) := by decide +kernel
theorem dX9_payOut_93 : decode cX9_payOut 93 = .ok (.dup2, 1) := by decide +kernel
theorem dX9_payOut_94 : decode cX9_payOut 94 = .ok (.laload, 1) := by decide +kernel
theorem dX9_payOut_95 : decode cX9_payOut 95 = .ok (.lload 4, 2) := by decide +kernel
theorem dX9_payOut_97 : decode cX9_payOut 97 = .ok (.lsub, 1) := by decide +kernel
theorem dX9_payOut_98 : decode cX9_payOut 98 = .ok (.lastore, 1) := by decide +kernel
theorem dX9_payOut_99 : decode cX9_payOut 99 = .ok (.aload_n 0, 1) := by decide +kernel
theorem dX9_payOut_100 : decode cX9_payOut 100 = .ok (.iload_n 1, 1) := by decide +kernel
theorem dX9_payOut_101 : decode cX9_payOut 101 = .ok (.iconst (-1), 1) := by decide +kernel
theorem dX9_payOut_102 : decode cX9_payOut 102 = .ok (.invokevirtual 313, 3) := by decide +kernel
theorem dX9_payOut_105 : decode cX9_payOut 105 = .ok (.istore_n 2, 1) := by decide +kernel
theorem dX9_payOut_106 : decode cX9_payOut 106 = .ok (.goto (-99), 3) := by decide +kernel
theorem dX9_payOut_109 : decode cX9_payOut 109 = .ok (.return_, 1) := by decide +kernel
set_option maxRecDepth 20000 in
theorem ggX9_plan_X9_findPlan : GoodIn wsX9_plan wsX9_findPlan := goodIn_r _ [7, 8, 1, 2, 9, 10, 11, 12, 13, 14, 6, 15, 16, 17, 18, 19, 20, 21, 22, 23, 24, 25, 26, 27, 28, 29, 30, 31, 32, 33, 34, 35, 36, 37, 38, 39, 40, 41, 42, 43, 44, 45, 46, 47, 48, 49, 50, 51, 52, 53, 54, 55, 56, 57, 58, 59, 60, 61, 62, 63, 64, 65, 66, 67, 68, 69, 70, 71, 72, 73, 74, 75, 76, 77, 78, 79, 80, 81, 82, 83, 84, 85, 86, 87, 88, 89, 90] (by decide +kernel) (by decide +kernel)
set_option maxRecDepth 20000 in
theorem gX9_plan_X9_findPlan : GoodIn wsX9_plan (wsV RX9 323 RX9 yX9_findPlan wsX9_findPlan) := goodIn_app (goodIn_of _ (by decide +kernel)) ggX9_plan_X9_findPlan
theorem dX9_plan_0 : decode cX9_plan 0 = .ok (.aload_n 0, 1) := by decide +kernel
theorem dX9_plan_1 : decode cX9_plan 1 = .ok (.invokevirtual 323, 3) := by decide +kernel
theorem dX9_plan_4 : decode cX9_plan 4 = .ok (.iload_n 1, 1) := by decide +kernel
theorem dX9_plan_5 : decode cX9_plan 5 = .ok (.ifCond .eq 11, 3) := by decide +kernel
theorem dX9_plan_8 : decode cX9_plan 8 = .ok (.aload_n 0, 1) := by decide +kernel
theorem dX9_plan_9 : decode cX9_plan 9 = .ok (.getfield 303, 3) := by decide +kernel
theorem dX9_plan_12 : decode cX9_plan 12 = .ok (.i2l, 1) := by decide +kernel
theorem dX9_plan_13 : decode cX9_plan 13 = .ok (.goto 8, 3) := by decide +kernel
theorem dX9_plan_16 : decode cX9_plan 16 = .ok (.aload_n 0, 1) := by decide +kernel
theorem dX9_plan_17 : decode cX9_plan 17 = .ok (.getfield 306, 3) := by decide +kernel
theorem dX9_plan_20 : decode cX9_plan 20 = .ok (.i2l, 1) := by decide +kernel
theorem dX9_plan_21 : decode cX9_plan 21 = .ok (.lreturn, 1) := by decide +kernel
theorem dX9_paymentOf_0 : decode cX9_paymentOf 0 = .ok (.iload_n 2, 1) := by decide +kernel
theorem dX9_paymentOf_1 : decode cX9_paymentOf 1 = .ok (.ifCond .ne 13, 3) := by decide +kernel
theorem dX9_paymentOf_4 : decode cX9_paymentOf 4 = .ok (.aload_n 0, 1) := by decide +kernel
theorem dX9_paymentOf_5 : decode cX9_paymentOf 5 = .ok (.getfield 121, 3) := by decide +kernel
theorem dX9_paymentOf_8 : decode cX9_paymentOf 8 = .ok (.iload_n 1, 1) := by decide +kernel
theorem dX9_paymentOf_9 : decode cX9_paymentOf 9 = .ok (.iaload, 1) := by decide +kernel
theorem dX9_paymentOf_10 : decode cX9_paymentOf 10 = .ok (.i2l, 1) := by decide +kernel
theorem dX9_paymentOf_11 : decode cX9_paymentOf 11 = .ok (.goto 24, 3) := by decide +kernel
theorem dX9_paymentOf_14 : decode cX9_paymentOf 14 = .ok (.iload_n 2, 1) := by decide +kernel
theorem dX9_paymentOf_15 : decode cX9_paymentOf 15 = .ok (.iconst 1, 1) := by decide +kernel
theorem dX9_paymentOf_16 : decode cX9_paymentOf 16 = .ok (.if_icmp .ne 13, 3) := by decide +kernel
theorem dX9_paymentOf_19 : decode cX9_paymentOf 19 = .ok (.aload_n 0, 1) := by decide +kernel
theorem dX9_paymentOf_20 : decode cX9_paymentOf 20 = .ok (.getfield 124, 3) := by decide +kernel
theorem dX9_paymentOf_23 : decode cX9_paymentOf 23 = .ok (.iload_n 1, 1) := by decide +kernel
theorem dX9_paymentOf_24 : decode cX9_paymentOf 24 = .ok (.iaload, 1) := by decide +kernel
theorem dX9_paymentOf_25 : decode cX9_paymentOf 25 = .ok (.i2l, 1) := by decide +kernel
theorem dX9_paymentOf_26 : decode cX9_paymentOf 26 = .ok (.goto 9, 3) := by decide +kernel
theorem dX9_paymentOf_29 : decode cX9_paymentOf 29 = .ok (.aload_n 0, 1) := by decide +kernel
theorem dX9_paymentOf_30 : decode cX9_paymentOf 30 = .ok (.getfield 127, 3) := by decide +kernel
theorem dX9_paymentOf_33 : decode cX9_paymentOf 33 = .ok (.iload_n 1, 1) := by decide +kernel
theorem dX9_paymentOf_34 : decode cX9_paymentOf 34 = .ok (.laload, 1) := by decide +kernel
theorem dX9_paymentOf_35 : decode cX9_paymentOf 35 = .ok (.lreturn, 1) := by decide +kernel
set_option maxRecDepth 20000 in
theorem ggX9_payment_X9_in : GoodIn wsX9_payment wsX9_in := goodIn_r _ [7] (by decide +kernel) (by decide +kernel)
set_option maxRecDepth 20000 in
theorem gX9_payment_X9_in : GoodIn wsX9_payment (va_wsS RX9 141 yX9_in wsX9_in) := goodIn_app (goodIn_of _ (by decide +kernel)) ggX9_payment_X9_in
set_option maxRecDepth 20000 in
theorem ggX9_payment_X9_finding : GoodIn wsX9_payment wsX9_finding := goodIn_r _ [11, 12, 13, 51, 52, 53, 54, 55, 56, 57, 58, 59, 60, 61, 62, 63, 64, 65, 66, 67, 68, 69, 70, 71, 72, 73, 74, 75, 76, 77, 78, 79, 80, 81, 82, 83, 84, 85, 86, 87, 88, 89, 90, 91, 92, 93, 94, 95, 96, 97, 98, 99, 100, 101, 102, 103, 104, 105] (by decide +kernel) (by decide +kernel)
set_option maxRecDepth 20000 in
theorem gX9_payment_X9_finding : GoodIn wsX9_payment (wsV RX9 154 RX9 yX9_finding wsX9_finding) := goodIn_app (goodIn_of _ (by decide +kernel)) ggX9_payment_X9_finding
set_option maxRecDepth 20000 in
theorem ggX9_payment_X9_findPlan : GoodIn wsX9_payment wsX9_findPlan := goodIn_r _ [17, 18, 19, 2, 20, 21, 22, 23, 24, 25, 6, 26, 27, 28, 29, 30, 31, 32, 33, 34, 35, 36, 37, 38, 39, 40, 41, 42, 43, 44, 45, 46, 51, 52, 53, 54, 55, 56, 57, 58, 59, 60, 61, 62, 63, 64, 65, 66, 67, 68, 69, 70, 71, 72, 73, 74, 75, 76, 77, 78, 79, 80, 81, 82, 83, 84, 85, 86, 87, 88, 89, 90, 91, 92, 93, 94, 95, 96, 97, 98, 99, 100, 101, 102, 103, 104, 105] (by decide +kernel) (by decide +kernel)
set_option maxRecDepth 20000 in
theorem gX9_payment_X9_findPlan : GoodIn wsX9_payment (wsV RX9 323 RX9 yX9_findPlan wsX9_findPlan) := goodIn_app (goodIn_of _ (by decide +kernel)) ggX9_payment_X9_findPlan
set_option maxRecDepth 20000 in
theorem ggX9_payment_X9_paymentOf : GoodIn wsX9_payment wsX9_paymentOf := goodIn_r _ [50, 40, 41, 42, 51, 52, 53, 54, 55, 56, 57, 58, 59, 60, 61, 62, 63, 64, 65, 66, 67, 68, 69, 70, 71, 72, 73, 74, 75, 76, 77, 78, 79, 80, 81, 82, 83, 84, 85, 86, 87, 88, 89, 90, 91, 92, 93, 94, 95, 96, 97, 98, 99, 100, 101, 102, 103, 104, 105] (by decide +kernel) (by decide +kernel)
set_option maxRecDepth 20000 in
theorem gX9_payment_X9_paymentOf : GoodIn wsX9_payment (wsV RX9 326 RX9 yX9_paymentOf wsX9_paymentOf) := goodIn_app (goodIn_of _ (by decide +kernel)) ggX9_payment_X9_paymentOf
theorem dX9_payment_0 : decode cX9_payment 0 = .ok (.iload_n 2, 1) := by decide +kernel
theorem dX9_payment_1 : decode cX9_payment 1 = .ok (.iconst 0, 1) := by decide +kernel
theorem dX9_payment_2 : decode cX9_payment 2 = .ok (.iconst 2, 1) := by decide +kernel
theorem dX9_payment_3 : decode cX9_payment 3 = .ok (.invokestatic 141, 3) := by decide +kernel
theorem dX9_payment_6 : decode cX9_payment 6 = .ok (.ifCond .ne 11, 3) := by decide +kernel
theorem dX9_payment_9 : decode cX9_payment 9 = .ok (.aload_n 0, 1) := by decide +kernel
theorem dX9_payment_10 : decode cX9_payment 10 = .ok (.ldc2_w 152, 3) := by decide +kernel
theorem dX9_payment_13 : decode cX9_payment 13 = .ok (.invokevirtual 154, 3) := by decide +kernel
theorem dX9_payment_16 : decode cX9_payment 16 = .ok (.lreturn, 1) := by decide +kernel
theorem dX9_payment_17 : decode cX9_payment 17 = .ok (.aload_n 0, 1) := by decide +kernel
theorem dX9_payment_18 : decode cX9_payment 18 = .ok (.invokevirtual 323, 3) := by decide +kernel
theorem dX9_payment_21 : decode cX9_payment 21 = .ok (.iload_n 1, 1) := by decide +kernel
theorem dX9_payment_22 : decode cX9_payment 22 = .ok (.iconst 0, 1) := by decide +kernel
theorem dX9_payment_23 : decode cX9_payment 23 = .ok (.aload_n 0, 1) := by decide +kernel
theorem dX9_payment_24 : decode cX9_payment 24 = .ok (.getfield 306, 3) := by decide +kernel
theorem dX9_payment_27 : decode cX9_payment 27 = .ok (.iconst 1, 1) := by decide +kernel
theorem dX9_payment_28 : decode cX9_payment 28 = .ok (.isub, 1) := by decide +kernel
theorem dX9_payment_29 : decode cX9_payment 29 = .ok (.invokestatic 141, 3) := by decide +kernel
theorem dX9_payment_32 : decode cX9_payment 32 = .ok (.ifCond .eq 12, 3) := by decide +kernel
theorem dX9_payment_35 : decode cX9_payment 35 = .ok (.aload_n 0, 1) := by decide +kernel
theorem dX9_payment_36 : decode cX9_payment 36 = .ok (.iload_n 1, 1) := by decide +kernel
theorem dX9_payment_37 : decode cX9_payment 37 = .ok (.iload_n 2, 1) := by decide +kernel
theorem dX9_payment_38 : decode cX9_payment 38 = .ok (.invokevirtual 326, 3) := by decide +kernel
theorem dX9_payment_41 : decode cX9_payment 41 = .ok (.goto 10, 3) := by decide +kernel
theorem dX9_payment_44 : decode cX9_payment 44 = .ok (.aload_n 0, 1) := by decide +kernel
theorem dX9_payment_45 : decode cX9_payment 45 = .ok (.ldc2_w 211, 3) := by decide +kernel
theorem dX9_payment_48 : decode cX9_payment 48 = .ok (.invokevirtual 154, 3) := by decide +kernel
theorem dX9_payment_51 : decode cX9_payment 51 = .ok (.lreturn, 1) := by decide +kernel
theorem dX9_owedInAll_0 : decode cX9_owedInAll 0 = .ok (.lconst 0, 1) := by decide +kernel
theorem dX9_owedInAll_1 : decode cX9_owedInAll 1 = .ok (.lstore_n 1, 1) := by decide +kernel
theorem dX9_owedInAll_2 : decode cX9_owedInAll 2 = .ok (.iconst 0, 1) := by decide +kernel
theorem dX9_owedInAll_3 : decode cX9_owedInAll 3 = .ok (.istore_n 3, 1) := by decide +kernel
theorem dX9_owedInAll_4 : decode cX9_owedInAll 4 = .ok (.iload_n 3, 1) := by decide +kernel
theorem dX9_owedInAll_5 : decode cX9_owedInAll 5 = .ok (.bipush 100, 2) := by decide +kernel
theorem dX9_owedInAll_7 : decode cX9_owedInAll 7 = .ok (.if_icmp .ge 18, 3) := by decide +kernel
theorem dX9_owedInAll_10 : decode cX9_owedInAll 10 = .ok (.lload_n 1, 1) := by decide +kernel
theorem dX9_owedInAll_11 : decode cX9_owedInAll 11 = .ok (.aload_n 0, 1) := by decide +kernel
theorem dX9_owedInAll_12 : decode cX9_owedInAll 12 = .ok (.getfield 52, 3) := by decide +kernel
theorem dX9_owedInAll_15 : decode cX9_owedInAll 15 = .ok (.iload_n 3, 1) := by decide +kernel
theorem dX9_owedInAll_16 : decode cX9_owedInAll 16 = .ok (.laload, 1) := by decide +kernel
theorem dX9_owedInAll_17 : decode cX9_owedInAll 17 = .ok (.ladd, 1) := by decide +kernel
theorem dX9_owedInAll_18 : decode cX9_owedInAll 18 = .ok (.lstore_n 1, 1) := by decide +kernel
theorem dX9_owedInAll_19 : decode cX9_owedInAll 19 = .ok (.iinc 3 1, 3) := by decide +kernel
theorem dX9_owedInAll_22 : decode cX9_owedInAll 22 = .ok (.goto (-18), 3) := by decide +kernel
theorem dX9_owedInAll_25 : decode cX9_owedInAll 25 = .ok (.lload_n 1, 1) := by decide +kernel
theorem dX9_owedInAll_26 : decode cX9_owedInAll 26 = .ok (.lreturn, 1) := by decide +kernel
set_option maxRecDepth 20000 in
theorem ggX9_clear_X9_findPlan : GoodIn wsX9_clear wsX9_findPlan := goodIn_r _ [10, 11, 12, 2, 13, 14, 15, 16, 17, 18, 9, 19, 1, 20, 21, 22, 23, 24, 25, 26, 27, 28, 29, 30, 31, 3, 4, 5, 32, 33, 34, 35, 40, 41, 42, 43, 44, 45, 46, 47, 48, 49, 50, 51, 52, 53, 54, 55, 56, 57, 58, 59, 60, 61, 62, 63, 64, 65, 66, 67, 68, 69, 70, 71, 72, 73, 74, 75, 76, 77, 78, 79, 80, 81, 82, 83, 84, 85, 86, 87, 88, 89, 90, 91, 92, 93, 94] (by decide +kernel) (by decide +kernel)
set_option maxRecDepth 20000 in
theorem gX9_clear_X9_findPlan : GoodIn wsX9_clear (wsV RX9 323 RX9 yX9_findPlan wsX9_findPlan) := goodIn_app (goodIn_of _ (by decide +kernel)) ggX9_clear_X9_findPlan
set_option maxRecDepth 20000 in
theorem ggX9_clear_X9_owedInAll : GoodIn wsX9_clear wsX9_owedInAll := goodIn_r _ [39, 1, 40, 41, 42, 43, 44, 45, 46, 47, 48, 49, 50, 51, 52, 53, 54, 55, 56, 57, 58, 59, 60, 61, 62, 63, 64, 65, 66, 67, 68, 69, 70, 71, 72, 73, 74, 75, 76, 77, 78, 79, 80, 81, 82, 83, 84, 85, 86, 87, 88, 89, 90, 91, 92, 93, 94] (by decide +kernel) (by decide +kernel)
set_option maxRecDepth 20000 in
theorem gX9_clear_X9_owedInAll : GoodIn wsX9_clear (wsV RX9 330 RX9 yX9_owedInAll wsX9_owedInAll) := goodIn_app (goodIn_of _ (by decide +kernel)) ggX9_clear_X9_owedInAll
theorem dX9_clear_0 : decode cX9_clear 0 = .ok (.aload_n 0, 1) := by decide +kernel
theorem dX9_clear_1 : decode cX9_clear 1 = .ok (.invokevirtual 323, 3) := by decide +kernel
theorem dX9_clear_4 : decode cX9_clear 4 = .ok (.iconst 0, 1) := by decide +kernel
theorem dX9_clear_5 : decode cX9_clear 5 = .ok (.istore_n 1, 1) := by decide +kernel
theorem dX9_clear_6 : decode cX9_clear 6 = .ok (.iload_n 1, 1) := by decide +kernel
theorem dX9_clear_7 : decode cX9_clear 7 = .ok (.bipush 100, 2) := by decide +kernel
theorem dX9_clear_9 : decode cX9_clear 9 = .ok (.if_icmp .ge 16, 3) := by decide +kernel
theorem dX9_clear_12 : decode cX9_clear 12 = .ok (.aload_n 0, 1) := by decide +kernel
theorem dX9_clear_13 : decode cX9_clear 13 = .ok (.getfield 52, 3) := by decide +kernel
theorem dX9_clear_16 : decode cX9_clear 16 = .ok (.iload_n 1, 1) := by decide +kernel
theorem dX9_clear_17 : decode cX9_clear 17 = .ok (.lconst 0, 1) := by decide +kernel
theorem dX9_clear_18 : decode cX9_clear 18 = .ok (.lastore, 1) := by decide +kernel
theorem dX9_clear_19 : decode cX9_clear 19 = .ok (.iinc 1 1, 3) := by decide +kernel
theorem dX9_clear_22 : decode cX9_clear 22 = .ok (.goto (-16), 3) := by decide +kernel
end
section
theorem dX9_clear_25 : decode cX9_clear 25 = .ok (.iconst 0, 1) := by decide +kernel
theorem dX9_clear_26 : decode cX9_clear 26 = .ok (.istore_n 1, 1) := by decide +kernel
theorem dX9_clear_27 : decode cX9_clear 27 = .ok (.iload_n 1, 1) := by decide +kernel
theorem dX9_clear_28 : decode cX9_clear 28 = .ok (.aload_n 0, 1) := by decide +kernel
theorem dX9_clear_29 : decode cX9_clear 29 = .ok (.getfield 306, 3) := by decide +kernel
theorem dX9_clear_32 : decode cX9_clear 32 = .ok (.if_icmp .ge 36, 3) := by decide +kernel
theorem dX9_clear_35 : decode cX9_clear 35 = .ok (.aload_n 0, 1) := by decide +kernel
theorem dX9_clear_36 : decode cX9_clear 36 = .ok (.getfield 52, 3) := by decide +kernel
theorem dX9_clear_39 : decode cX9_clear 39 = .ok (.bipush 10, 2) := by decide +kernel
theorem dX9_clear_41 : decode cX9_clear 41 = .ok (.aload_n 0, 1) := by decide +kernel
theorem dX9_clear_42 : decode cX9_clear 42 = .ok (.getfield 121, 3) := by decide +kernel
theorem dX9_clear_45 : decode cX9_clear 45 = .ok (.iload_n 1, 1) := by decide +kernel
theorem dX9_clear_46 : decode cX9_clear 46 = .ok (.iaload, 1) := by decide +kernel
theorem dX9_clear_47 : decode cX9_clear 47 = .ok (.imul, 1) := by decide +kernel
theorem dX9_clear_48 : decode cX9_clear 48 = .ok (.aload_n 0, 1) := by decide +kernel
theorem dX9_clear_49 : decode cX9_clear 49 = .ok (.getfield 124, 3) := by decide +kernel
theorem dX9_clear_52 : decode cX9_clear 52 = .ok (.iload_n 1, 1) := by decide +kernel
theorem dX9_clear_53 : decode cX9_clear 53 = .ok (.iaload, 1) := by decide +kernel
theorem dX9_clear_54 : decode cX9_clear 54 = .ok (.iadd, 1) := by decide +kernel
theorem dX9_clear_55 : decode cX9_clear 55 = .ok (.aload_n 0, 1) := by decide +kernel
theorem dX9_clear_56 : decode cX9_clear 56 = .ok (.getfield 127, 3) := by decide +kernel
theorem dX9_clear_59 : decode cX9_clear 59 = .ok (.iload_n 1, 1) := by decide +kernel
theorem dX9_clear_60 : decode cX9_clear 60 = .ok (.laload, 1) := by decide +kernel
theorem dX9_clear_61 : decode cX9_clear 61 = .ok (.lastore, 1) := by decide +kernel
theorem dX9_clear_62 : decode cX9_clear 62 = .ok (.iinc 1 1, 3) := by decide +kernel
theorem dX9_clear_65 : decode cX9_clear 65 = .ok (.goto (-38), 3) := by decide +kernel
theorem dX9_clear_68 : decode cX9_clear 68 = .ok (.aload_n 0, 1) := by decide +kernel
theorem dX9_clear_69 : decode cX9_clear 69 = .ok (.invokevirtual 330, 3) := by decide +kernel
theorem dX9_clear_72 : decode cX9_clear 72 = .ok (.lreturn, 1) := by decide +kernel
set_option maxRecDepth 20000 in
theorem ggX9_coin_X9_in : GoodIn wsX9_coin wsX9_in := goodIn_r _ [6] (by decide +kernel) (by decide +kernel)
set_option maxRecDepth 20000 in
theorem gX9_coin_X9_in : GoodIn wsX9_coin (va_wsS RX9 141 yX9_in wsX9_in) := goodIn_app (goodIn_of _ (by decide +kernel)) ggX9_coin_X9_in
set_option maxRecDepth 20000 in
theorem ggX9_coin_X9_finding : GoodIn wsX9_coin wsX9_finding := goodIn_r _ [10, 11, 12, 13, 14, 15, 16, 17, 18, 19, 20, 21, 22, 23, 24, 25, 26, 27, 28, 29, 30, 31, 32, 33, 34, 35, 36, 37, 38, 39, 40, 41, 42, 43, 44, 45, 46, 47, 48, 49, 50, 51, 52, 53, 54, 55, 56, 57, 58, 59, 60, 61, 62, 63, 64, 65, 66, 67] (by decide +kernel) (by decide +kernel)
set_option maxRecDepth 20000 in
theorem gX9_coin_X9_finding : GoodIn wsX9_coin (wsV RX9 154 RX9 yX9_finding wsX9_finding) := goodIn_app (goodIn_of _ (by decide +kernel)) ggX9_coin_X9_finding
theorem dX9_coin_0 : decode cX9_coin 0 = .ok (.iload_n 1, 1) := by decide +kernel
theorem dX9_coin_1 : decode cX9_coin 1 = .ok (.iconst 0, 1) := by decide +kernel
theorem dX9_coin_2 : decode cX9_coin 2 = .ok (.iconst 3, 1) := by decide +kernel
theorem dX9_coin_3 : decode cX9_coin 3 = .ok (.invokestatic 141, 3) := by decide +kernel
theorem dX9_coin_6 : decode cX9_coin 6 = .ok (.ifCond .eq 25, 3) := by decide +kernel
theorem dX9_coin_9 : decode cX9_coin 9 = .ok (.iload_n 2, 1) := by decide +kernel
theorem dX9_coin_10 : decode cX9_coin 10 = .ok (.iconst 0, 1) := by decide +kernel
theorem dX9_coin_11 : decode cX9_coin 11 = .ok (.sipush 1000, 3) := by decide +kernel
theorem dX9_coin_14 : decode cX9_coin 14 = .ok (.invokestatic 141, 3) := by decide +kernel
theorem dX9_coin_17 : decode cX9_coin 17 = .ok (.ifCond .eq 14, 3) := by decide +kernel
theorem dX9_coin_20 : decode cX9_coin 20 = .ok (.iload_n 3, 1) := by decide +kernel
theorem dX9_coin_21 : decode cX9_coin 21 = .ok (.iconst 0, 1) := by decide +kernel
theorem dX9_coin_22 : decode cX9_coin 22 = .ok (.sipush 1000, 3) := by decide +kernel
theorem dX9_coin_25 : decode cX9_coin 25 = .ok (.invokestatic 141, 3) := by decide +kernel
theorem dX9_coin_28 : decode cX9_coin 28 = .ok (.ifCond .ne 11, 3) := by decide +kernel
theorem dX9_coin_31 : decode cX9_coin 31 = .ok (.aload_n 0, 1) := by decide +kernel
theorem dX9_coin_32 : decode cX9_coin 32 = .ok (.ldc2_w 152, 3) := by decide +kernel
theorem dX9_coin_35 : decode cX9_coin 35 = .ok (.invokevirtual 154, 3) := by decide +kernel
theorem dX9_coin_38 : decode cX9_coin 38 = .ok (.lreturn, 1) := by decide +kernel
theorem dX9_coin_39 : decode cX9_coin 39 = .ok (.aload_n 0, 1) := by decide +kernel
theorem dX9_coin_40 : decode cX9_coin 40 = .ok (.getfield 55, 3) := by decide +kernel
theorem dX9_coin_43 : decode cX9_coin 43 = .ok (.iload_n 1, 1) := by decide +kernel
theorem dX9_coin_44 : decode cX9_coin 44 = .ok (.iload_n 2, 1) := by decide +kernel
theorem dX9_coin_45 : decode cX9_coin 45 = .ok (.iload_n 3, 1) := by decide +kernel
theorem dX9_coin_46 : decode cX9_coin 46 = .ok (.imul, 1) := by decide +kernel
theorem dX9_coin_47 : decode cX9_coin 47 = .ok (.sipush 1000, 3) := by decide +kernel
theorem dX9_coin_50 : decode cX9_coin 50 = .ok (.idiv, 1) := by decide +kernel
theorem dX9_coin_51 : decode cX9_coin 51 = .ok (.iastore, 1) := by decide +kernel
theorem dX9_coin_52 : decode cX9_coin 52 = .ok (.aload_n 0, 1) := by decide +kernel
theorem dX9_coin_53 : decode cX9_coin 53 = .ok (.getfield 55, 3) := by decide +kernel
theorem dX9_coin_56 : decode cX9_coin 56 = .ok (.iload_n 1, 1) := by decide +kernel
theorem dX9_coin_57 : decode cX9_coin 57 = .ok (.iaload, 1) := by decide +kernel
theorem dX9_coin_58 : decode cX9_coin 58 = .ok (.i2l, 1) := by decide +kernel
theorem dX9_coin_59 : decode cX9_coin 59 = .ok (.lreturn, 1) := by decide +kernel
set_option maxRecDepth 20000 in
theorem ggX9_purse_X9_isHouse : GoodIn wsX9_purse wsX9_isHouse := goodIn_r _ [6, 7, 8, 5, 9] (by decide +kernel) (by decide +kernel)
set_option maxRecDepth 20000 in
theorem gX9_purse_X9_isHouse : GoodIn wsX9_purse (va_wsS RX9 171 yX9_isHouse wsX9_isHouse) := goodIn_app (goodIn_of _ (by decide +kernel)) ggX9_purse_X9_isHouse
set_option maxRecDepth 20000 in
theorem ggX9_purse_X9_in : GoodIn wsX9_purse wsX9_in := goodIn_r _ [9] (by decide +kernel) (by decide +kernel)
set_option maxRecDepth 20000 in
theorem gX9_purse_X9_in : GoodIn wsX9_purse (va_wsS RX9 141 yX9_in wsX9_in) := goodIn_app (goodIn_of _ (by decide +kernel)) ggX9_purse_X9_in
set_option maxRecDepth 20000 in
theorem ggX9_purse_X9_finding : GoodIn wsX9_purse wsX9_finding := goodIn_r _ [13, 14, 15, 16, 17, 18, 19, 20, 21, 22, 23, 24, 25, 26, 27, 28, 29, 30, 31, 32, 33, 34, 35, 36, 37, 38, 39, 40, 41, 42, 43, 44, 45, 46, 47, 48, 49, 50, 51, 52, 53, 54, 55, 56, 57, 58, 59, 60, 61, 62, 63, 64, 65, 66, 67, 68, 69, 70] (by decide +kernel) (by decide +kernel)
set_option maxRecDepth 20000 in
theorem gX9_purse_X9_finding : GoodIn wsX9_purse (wsV RX9 154 RX9 yX9_finding wsX9_finding) := goodIn_app (goodIn_of _ (by decide +kernel)) ggX9_purse_X9_finding
theorem dX9_purse_0 : decode cX9_purse 0 = .ok (.iload_n 1, 1) := by decide +kernel
theorem dX9_purse_1 : decode cX9_purse 1 = .ok (.invokestatic 171, 3) := by decide +kernel
theorem dX9_purse_4 : decode cX9_purse 4 = .ok (.ifCond .eq 23, 3) := by decide +kernel
theorem dX9_purse_7 : decode cX9_purse 7 = .ok (.iload_n 2, 1) := by decide +kernel
theorem dX9_purse_8 : decode cX9_purse 8 = .ok (.iconst 0, 1) := by decide +kernel
theorem dX9_purse_9 : decode cX9_purse 9 = .ok (.iconst 3, 1) := by decide +kernel
theorem dX9_purse_10 : decode cX9_purse 10 = .ok (.invokestatic 141, 3) := by decide +kernel
theorem dX9_purse_13 : decode cX9_purse 13 = .ok (.ifCond .eq 14, 3) := by decide +kernel
theorem dX9_purse_16 : decode cX9_purse 16 = .ok (.iload_n 3, 1) := by decide +kernel
theorem dX9_purse_17 : decode cX9_purse 17 = .ok (.iconst 0, 1) := by decide +kernel
theorem dX9_purse_18 : decode cX9_purse 18 = .ok (.sipush 1000, 3) := by decide +kernel
theorem dX9_purse_21 : decode cX9_purse 21 = .ok (.invokestatic 141, 3) := by decide +kernel
theorem dX9_purse_24 : decode cX9_purse 24 = .ok (.ifCond .ne 11, 3) := by decide +kernel
theorem dX9_purse_27 : decode cX9_purse 27 = .ok (.aload_n 0, 1) := by decide +kernel
theorem dX9_purse_28 : decode cX9_purse 28 = .ok (.ldc2_w 152, 3) := by decide +kernel
theorem dX9_purse_31 : decode cX9_purse 31 = .ok (.invokevirtual 154, 3) := by decide +kernel
theorem dX9_purse_34 : decode cX9_purse 34 = .ok (.lreturn, 1) := by decide +kernel
theorem dX9_purse_35 : decode cX9_purse 35 = .ok (.aload_n 0, 1) := by decide +kernel
theorem dX9_purse_36 : decode cX9_purse 36 = .ok (.getfield 58, 3) := by decide +kernel
theorem dX9_purse_39 : decode cX9_purse 39 = .ok (.iconst 4, 1) := by decide +kernel
theorem dX9_purse_40 : decode cX9_purse 40 = .ok (.iload_n 1, 1) := by decide +kernel
theorem dX9_purse_41 : decode cX9_purse 41 = .ok (.imul, 1) := by decide +kernel
theorem dX9_purse_42 : decode cX9_purse 42 = .ok (.iload_n 2, 1) := by decide +kernel
theorem dX9_purse_43 : decode cX9_purse 43 = .ok (.iadd, 1) := by decide +kernel
theorem dX9_purse_44 : decode cX9_purse 44 = .ok (.iaload, 1) := by decide +kernel
theorem dX9_purse_45 : decode cX9_purse 45 = .ok (.istore 4, 2) := by decide +kernel
theorem dX9_purse_47 : decode cX9_purse 47 = .ok (.aload_n 0, 1) := by decide +kernel
theorem dX9_purse_48 : decode cX9_purse 48 = .ok (.getfield 58, 3) := by decide +kernel
theorem dX9_purse_51 : decode cX9_purse 51 = .ok (.iconst 4, 1) := by decide +kernel
theorem dX9_purse_52 : decode cX9_purse 52 = .ok (.iload_n 1, 1) := by decide +kernel
theorem dX9_purse_53 : decode cX9_purse 53 = .ok (.imul, 1) := by decide +kernel
theorem dX9_purse_54 : decode cX9_purse 54 = .ok (.iload_n 2, 1) := by decide +kernel
theorem dX9_purse_55 : decode cX9_purse 55 = .ok (.iadd, 1) := by decide +kernel
theorem dX9_purse_56 : decode cX9_purse 56 = .ok (.iload_n 3, 1) := by decide +kernel
theorem dX9_purse_57 : decode cX9_purse 57 = .ok (.iastore, 1) := by decide +kernel
theorem dX9_purse_58 : decode cX9_purse 58 = .ok (.iload 4, 2) := by decide +kernel
theorem dX9_purse_60 : decode cX9_purse 60 = .ok (.i2l, 1) := by decide +kernel
theorem dX9_purse_61 : decode cX9_purse 61 = .ok (.lreturn, 1) := by decide +kernel
set_option maxRecDepth 20000 in
theorem ggX9_has_X9_isHouse : GoodIn wsX9_has wsX9_isHouse := goodIn_r _ [7, 8, 9, 6, 10] (by decide +kernel) (by decide +kernel)
set_option maxRecDepth 20000 in
theorem gX9_has_X9_isHouse : GoodIn wsX9_has (va_wsS RX9 171 yX9_isHouse wsX9_isHouse) := goodIn_app (goodIn_of _ (by decide +kernel)) ggX9_has_X9_isHouse
set_option maxRecDepth 20000 in
theorem ggX9_has_X9_in : GoodIn wsX9_has wsX9_in := goodIn_r _ [10] (by decide +kernel) (by decide +kernel)
set_option maxRecDepth 20000 in
theorem gX9_has_X9_in : GoodIn wsX9_has (va_wsS RX9 141 yX9_in wsX9_in) := goodIn_app (goodIn_of _ (by decide +kernel)) ggX9_has_X9_in
set_option maxRecDepth 20000 in
theorem ggX9_has_X9_finding : GoodIn wsX9_has wsX9_finding := goodIn_r _ [14, 15, 16, 17, 18, 19, 20, 21, 22, 23, 24, 25, 26, 27, 28, 29, 30, 31, 32, 33, 34, 35, 36, 37, 38, 39, 40, 41, 42, 43, 44, 45, 46, 47, 48, 49, 50, 51, 52, 53, 54, 55, 56, 57, 58, 59, 60, 61, 62, 63, 64, 65, 66, 67, 68, 69, 70, 71] (by decide +kernel) (by decide +kernel)
set_option maxRecDepth 20000 in
theorem gX9_has_X9_finding : GoodIn wsX9_has (wsV RX9 154 RX9 yX9_finding wsX9_finding) := goodIn_app (goodIn_of _ (by decide +kernel)) ggX9_has_X9_finding
theorem dX9_has_0 : decode cX9_has 0 = .ok (.iload_n 1, 1) := by decide +kernel
theorem dX9_has_1 : decode cX9_has 1 = .ok (.invokestatic 171, 3) := by decide +kernel
theorem dX9_has_4 : decode cX9_has 4 = .ok (.ifCond .eq 12, 3) := by decide +kernel
theorem dX9_has_7 : decode cX9_has 7 = .ok (.iload_n 2, 1) := by decide +kernel
theorem dX9_has_8 : decode cX9_has 8 = .ok (.iconst (-1), 1) := by decide +kernel
theorem dX9_has_9 : decode cX9_has 9 = .ok (.iconst 3, 1) := by decide +kernel
theorem dX9_has_10 : decode cX9_has 10 = .ok (.invokestatic 141, 3) := by decide +kernel
theorem dX9_has_13 : decode cX9_has 13 = .ok (.ifCond .ne 11, 3) := by decide +kernel
theorem dX9_has_16 : decode cX9_has 16 = .ok (.aload_n 0, 1) := by decide +kernel
theorem dX9_has_17 : decode cX9_has 17 = .ok (.ldc2_w 152, 3) := by decide +kernel
theorem dX9_has_20 : decode cX9_has 20 = .ok (.invokevirtual 154, 3) := by decide +kernel
theorem dX9_has_23 : decode cX9_has 23 = .ok (.lreturn, 1) := by decide +kernel
theorem dX9_has_24 : decode cX9_has 24 = .ok (.iload_n 2, 1) := by decide +kernel
theorem dX9_has_25 : decode cX9_has 25 = .ok (.ifCond .lt 15, 3) := by decide +kernel
theorem dX9_has_28 : decode cX9_has 28 = .ok (.aload_n 0, 1) := by decide +kernel
theorem dX9_has_29 : decode cX9_has 29 = .ok (.getfield 58, 3) := by decide +kernel
theorem dX9_has_32 : decode cX9_has 32 = .ok (.iconst 4, 1) := by decide +kernel
theorem dX9_has_33 : decode cX9_has 33 = .ok (.iload_n 1, 1) := by decide +kernel
theorem dX9_has_34 : decode cX9_has 34 = .ok (.imul, 1) := by decide +kernel
theorem dX9_has_35 : decode cX9_has 35 = .ok (.iload_n 2, 1) := by decide +kernel
theorem dX9_has_36 : decode cX9_has 36 = .ok (.iadd, 1) := by decide +kernel
theorem dX9_has_37 : decode cX9_has 37 = .ok (.iaload, 1) := by decide +kernel
theorem dX9_has_38 : decode cX9_has 38 = .ok (.i2l, 1) := by decide +kernel
theorem dX9_has_39 : decode cX9_has 39 = .ok (.lreturn, 1) := by decide +kernel
theorem dX9_has_40 : decode cX9_has 40 = .ok (.lconst 0, 1) := by decide +kernel
theorem dX9_has_41 : decode cX9_has 41 = .ok (.lstore_n 3, 1) := by decide +kernel
theorem dX9_has_42 : decode cX9_has 42 = .ok (.iconst 0, 1) := by decide +kernel
theorem dX9_has_43 : decode cX9_has 43 = .ok (.istore 5, 2) := by decide +kernel
theorem dX9_has_45 : decode cX9_has 45 = .ok (.iload 5, 2) := by decide +kernel
theorem dX9_has_47 : decode cX9_has 47 = .ok (.iconst 4, 1) := by decide +kernel
theorem dX9_has_48 : decode cX9_has 48 = .ok (.if_icmp .ge 33, 3) := by decide +kernel
theorem dX9_has_51 : decode cX9_has 51 = .ok (.lload_n 3, 1) := by decide +kernel
theorem dX9_has_52 : decode cX9_has 52 = .ok (.aload_n 0, 1) := by decide +kernel
theorem dX9_has_53 : decode cX9_has 53 = .ok (.getfield 58, 3) := by decide +kernel
theorem dX9_has_56 : decode cX9_has 56 = .ok (.iconst 4, 1) := by decide +kernel
theorem dX9_has_57 : decode cX9_has 57 = .ok (.iload_n 1, 1) := by decide +kernel
theorem dX9_has_58 : decode cX9_has 58 = .ok (.imul, 1) := by decide +kernel
theorem dX9_has_59 : decode cX9_has 59 = .ok (.iload 5, 2) := by decide +kernel
theorem dX9_has_61 : decode cX9_has 61 = .ok (.iadd, 1) := by decide +kernel
theorem dX9_has_62 : decode cX9_has 62 = .ok (.iaload, 1) := by decide +kernel
theorem dX9_has_63 : decode cX9_has 63 = .ok (.i2l, 1) := by decide +kernel
theorem dX9_has_64 : decode cX9_has 64 = .ok (.aload_n 0, 1) := by decide +kernel
theorem dX9_has_65 : decode cX9_has 65 = .ok (.getfield 55, 3) := by decide +kernel
theorem dX9_has_68 : decode cX9_has 68 = .ok (.iload 5, 2) := by decide +kernel
theorem dX9_has_70 : decode cX9_has 70 = .ok (.iaload, 1) := by decide +kernel
theorem dX9_has_71 : decode cX9_has 71 = .ok (.i2l, 1) := by decide +kernel
theorem dX9_has_72 : decode cX9_has 72 = .ok (.lmul, 1) := by decide +kernel
theorem dX9_has_73 : decode cX9_has 73 = .ok (.ladd, 1) := by decide +kernel
theorem dX9_has_74 : decode cX9_has 74 = .ok (.lstore_n 3, 1) := by decide +kernel
theorem dX9_has_75 : decode cX9_has 75 = .ok (.iinc 5 1, 3) := by decide +kernel
theorem dX9_has_78 : decode cX9_has 78 = .ok (.goto (-33), 3) := by decide +kernel
theorem dX9_has_81 : decode cX9_has 81 = .ok (.lload_n 3, 1) := by decide +kernel
theorem dX9_has_82 : decode cX9_has 82 = .ok (.lreturn, 1) := by decide +kernel
set_option maxRecDepth 20000 in
theorem ggX9_settle_X9_isHouse : GoodIn wsX9_settle wsX9_isHouse := goodIn_r _ [13, 14, 15, 12, 16] (by decide +kernel) (by decide +kernel)
set_option maxRecDepth 20000 in
theorem gX9_settle_X9_isHouse : GoodIn wsX9_settle (va_wsS RX9 171 yX9_isHouse wsX9_isHouse) := goodIn_app (goodIn_of _ (by decide +kernel)) ggX9_settle_X9_isHouse
set_option maxRecDepth 20000 in
theorem ggX9_settle_X9_finding : GoodIn wsX9_settle wsX9_finding := goodIn_r _ [20, 21, 22, 23, 24, 25, 26, 27, 28, 29, 30, 31, 32, 33, 34, 35, 36, 37, 38, 39, 40, 41, 42, 43, 44, 45, 46, 47, 48, 49, 50, 51, 52, 53, 54, 55, 56, 57, 58, 59, 60, 61, 62, 63, 64, 65, 66, 67, 68, 69, 70, 71, 72, 73, 74, 75, 76, 77] (by decide +kernel) (by decide +kernel)
set_option maxRecDepth 20000 in
theorem gX9_settle_X9_finding : GoodIn wsX9_settle (wsV RX9 154 RX9 yX9_finding wsX9_finding) := goodIn_app (goodIn_of _ (by decide +kernel)) ggX9_settle_X9_finding
theorem dX9_settle_0 : decode cX9_settle 0 = .ok (.iload_n 1, 1) := by decide +kernel
theorem dX9_settle_1 : decode cX9_settle 1 = .ok (.invokestatic 171, 3) := by decide +kernel
theorem dX9_settle_4 : decode cX9_settle 4 = .ok (.ifCond .eq 15, 3) := by decide +kernel
theorem dX9_settle_7 : decode cX9_settle 7 = .ok (.iload_n 2, 1) := by decide +kernel
theorem dX9_settle_8 : decode cX9_settle 8 = .ok (.invokestatic 171, 3) := by decide +kernel
theorem dX9_settle_11 : decode cX9_settle 11 = .ok (.ifCond .eq 8, 3) := by decide +kernel
theorem dX9_settle_14 : decode cX9_settle 14 = .ok (.iload_n 1, 1) := by decide +kernel
theorem dX9_settle_15 : decode cX9_settle 15 = .ok (.iload_n 2, 1) := by decide +kernel
theorem dX9_settle_16 : decode cX9_settle 16 = .ok (.if_icmp .ne 11, 3) := by decide +kernel
theorem dX9_settle_19 : decode cX9_settle 19 = .ok (.aload_n 0, 1) := by decide +kernel
theorem dX9_settle_20 : decode cX9_settle 20 = .ok (.ldc2_w 152, 3) := by decide +kernel
theorem dX9_settle_23 : decode cX9_settle 23 = .ok (.invokevirtual 154, 3) := by decide +kernel
theorem dX9_settle_26 : decode cX9_settle 26 = .ok (.lreturn, 1) := by decide +kernel
theorem dX9_settle_27 : decode cX9_settle 27 = .ok (.aload_n 0, 1) := by decide +kernel
theorem dX9_settle_28 : decode cX9_settle 28 = .ok (.getfield 52, 3) := by decide +kernel
theorem dX9_settle_31 : decode cX9_settle 31 = .ok (.bipush 10, 2) := by decide +kernel
theorem dX9_settle_33 : decode cX9_settle 33 = .ok (.iload_n 1, 1) := by decide +kernel
theorem dX9_settle_34 : decode cX9_settle 34 = .ok (.imul, 1) := by decide +kernel
theorem dX9_settle_35 : decode cX9_settle 35 = .ok (.iload_n 2, 1) := by decide +kernel
theorem dX9_settle_36 : decode cX9_settle 36 = .ok (.iadd, 1) := by decide +kernel
theorem dX9_settle_37 : decode cX9_settle 37 = .ok (.laload, 1) := by decide +kernel
theorem dX9_settle_38 : decode cX9_settle 38 = .ok (.lconst 0, 1) := by decide +kernel
theorem dX9_settle_39 : decode cX9_settle 39 = .ok (.lcmp, 1) := by decide +kernel
theorem dX9_settle_40 : decode cX9_settle 40 = .ok (.ifCond .ne 11, 3) := by decide +kernel
theorem dX9_settle_43 : decode cX9_settle 43 = .ok (.aload_n 0, 1) := by decide +kernel
theorem dX9_settle_44 : decode cX9_settle 44 = .ok (.ldc2_w 211, 3) := by decide +kernel
theorem dX9_settle_47 : decode cX9_settle 47 = .ok (.invokevirtual 154, 3) := by decide +kernel
theorem dX9_settle_50 : decode cX9_settle 50 = .ok (.lreturn, 1) := by decide +kernel
theorem dX9_settle_51 : decode cX9_settle 51 = .ok (.aload_n 0, 1) := by decide +kernel
theorem dX9_settle_52 : decode cX9_settle 52 = .ok (.getfield 52, 3) := by decide +kernel
theorem dX9_settle_55 : decode cX9_settle 55 = .ok (.bipush 10, 2) := by decide +kernel
theorem dX9_settle_57 : decode cX9_settle 57 = .ok (.iload_n 1, 1) := by decide +kernel
theorem dX9_settle_58 : decode cX9_settle 58 = .ok (.imul, 1) := by decide +kernel
theorem dX9_settle_59 : decode cX9_settle 59 = .ok (.iload_n 2, 1) := by decide +kernel
theorem dX9_settle_60 : decode cX9_settle 60 = .ok (.iadd, 1) := by decide +kernel
theorem dX9_settle_61 : decode cX9_settle 61 = .ok (.laload, 1) := by decide +kernel
theorem dX9_settle_62 : decode cX9_settle 62 = .ok (.lstore_n 3, 1) := by decide +kernel
theorem dX9_settle_63 : decode cX9_settle 63 = .ok (.sipush 1000, 3) := by decide +kernel
theorem dX9_settle_66 : decode cX9_settle 66 = .ok (.istore 5, 2) := by decide +kernel
theorem dX9_settle_68 : decode cX9_settle 68 = .ok (.iload 5, 2) := by decide +kernel
theorem dX9_settle_70 : decode cX9_settle 70 = .ok (.ifCond .le 137, 3) := by decide +kernel
theorem dX9_settle_73 : decode cX9_settle 73 = .ok (.iconst 0, 1) := by decide +kernel
theorem dX9_settle_74 : decode cX9_settle 74 = .ok (.istore 6, 2) := by decide +kernel
theorem dX9_settle_76 : decode cX9_settle 76 = .ok (.iload 6, 2) := by decide +kernel
theorem dX9_settle_78 : decode cX9_settle 78 = .ok (.iconst 4, 1) := by decide +kernel
theorem dX9_settle_79 : decode cX9_settle 79 = .ok (.if_icmp .ge 122, 3) := by decide +kernel
theorem dX9_settle_82 : decode cX9_settle 82 = .ok (.aload_n 0, 1) := by decide +kernel
theorem dX9_settle_83 : decode cX9_settle 83 = .ok (.getfield 55, 3) := by decide +kernel
theorem dX9_settle_86 : decode cX9_settle 86 = .ok (.iload 6, 2) := by decide +kernel
theorem dX9_settle_88 : decode cX9_settle 88 = .ok (.iaload, 1) := by decide +kernel
theorem dX9_settle_89 : decode cX9_settle 89 = .ok (.iload 5, 2) := by decide +kernel
theorem dX9_settle_91 : decode cX9_settle 91 = .ok (.if_icmp .eq 6, 3) := by decide +kernel
theorem dX9_settle_94 : decode cX9_settle 94 = .ok (.goto 101, 3) := by decide +kernel
theorem dX9_settle_97 : decode cX9_settle 97 = .ok (.aload_n 0, 1) := by decide +kernel
theorem dX9_settle_98 : decode cX9_settle 98 = .ok (.getfield 58, 3) := by decide +kernel
theorem dX9_settle_101 : decode cX9_settle 101 = .ok (.iconst 4, 1) := by decide +kernel
theorem dX9_settle_102 : decode cX9_settle 102 = .ok (.iload_n 1, 1) := by decide +kernel
theorem dX9_settle_103 : decode cX9_settle 103 = .ok (.imul, 1) := by decide +kernel
theorem dX9_settle_104 : decode cX9_settle 104 = .ok (.iload 6, 2) := by decide +kernel
theorem dX9_settle_106 : decode cX9_settle 106 = .ok (.iadd, 1) := by decide +kernel
theorem dX9_settle_107 : decode cX9_settle 107 = .ok (.iaload, 1) := by decide +kernel
theorem dX9_settle_108 : decode cX9_settle 108 = .ok (.sipush 1000, 3) := by decide +kernel
theorem dX9_settle_111 : decode cX9_settle 111 = .ok (.aload_n 0, 1) := by decide +kernel
theorem dX9_settle_112 : decode cX9_settle 112 = .ok (.getfield 58, 3) := by decide +kernel
theorem dX9_settle_115 : decode cX9_settle 115 = .ok (.iconst 4, 1) := by decide +kernel
theorem dX9_settle_116 : decode cX9_settle 116 = .ok (.iload_n 2, 1) := by decide +kernel
theorem dX9_settle_117 : decode cX9_settle 117 = .ok (.imul, 1) := by decide +kernel
theorem dX9_settle_118 : decode cX9_settle 118 = .ok (.iload 6, 2) := by decide +kernel
theorem dX9_settle_120 : decode cX9_settle 120 = .ok (.iadd, 1) := by decide +kernel
theorem dX9_settle_121 : decode cX9_settle 121 = .ok (.iaload, 1) := by decide +kernel
theorem dX9_settle_122 : decode cX9_settle 122 = .ok (.isub, 1) := by decide +kernel
theorem dX9_settle_123 : decode cX9_settle 123 = .ok (.invokestatic 334, 3) := by decide +kernel
theorem dX9_settle_126 : decode cX9_settle 126 = .ok (.istore 7, 2) := by decide +kernel
theorem dX9_settle_128 : decode cX9_settle 128 = .ok (.lload_n 3, 1) := by decide +kernel
theorem dX9_settle_129 : decode cX9_settle 129 = .ok (.iload 5, 2) := by decide +kernel
theorem dX9_settle_131 : decode cX9_settle 131 = .ok (.i2l, 1) := by decide +kernel
theorem dX9_settle_132 : decode cX9_settle 132 = .ok (.ldiv, 1) := by decide +kernel
theorem dX9_settle_133 : decode cX9_settle 133 = .ok (.iload 7, 2) := by decide +kernel
theorem dX9_settle_135 : decode cX9_settle 135 = .ok (.i2l, 1) := by decide +kernel
theorem dX9_settle_136 : decode cX9_settle 136 = .ok (.lcmp, 1) := by decide +kernel
theorem dX9_settle_137 : decode cX9_settle 137 = .ok (.ifCond .ge 12, 3) := by decide +kernel
theorem dX9_settle_140 : decode cX9_settle 140 = .ok (.lload_n 3, 1) := by decide +kernel
theorem dX9_settle_141 : decode cX9_settle 141 = .ok (.iload 5, 2) := by decide +kernel
theorem dX9_settle_143 : decode cX9_settle 143 = .ok (.i2l, 1) := by decide +kernel
theorem dX9_settle_144 : decode cX9_settle 144 = .ok (.ldiv, 1) := by decide +kernel
theorem dX9_settle_145 : decode cX9_settle 145 = .ok (.l2i, 1) := by decide +kernel
theorem dX9_settle_146 : decode cX9_settle 146 = .ok (.goto 5, 3) := by decide +kernel
theorem dX9_settle_149 : decode cX9_settle 149 = .ok (.iload 7, 2) := by decide +kernel
theorem dX9_settle_151 : decode cX9_settle 151 = .ok (.istore 7, 2) := by decide +kernel
theorem dX9_settle_153 : decode cX9_settle 153 = .ok (.aload_n 0, 1) := by decide +kernel
theorem dX9_settle_154 : decode cX9_settle 154 = .ok (.getfield 58, 3) := by decide +kernel
theorem dX9_settle_157 : decode cX9_settle 157 = .ok (.iconst 4, 1) := by decide +kernel
theorem dX9_settle_158 : decode cX9_settle 158 = .ok (.iload_n 1, 1) := by decide +kernel
theorem dX9_settle_159 : decode cX9_settle 159 = .ok (.imul, 1) := by decide +kernel
theorem dX9_settle_160 : decode cX9_settle 160 = .ok (.iload 6, 2) := by decide +kernel
theorem dX9_settle_162 : decode cX9_settle 162 = .ok (.iadd, 1) := by decide +kernel
theorem dX9_settle_163 : decode cX9_settle 163 = .ok (.dup2, 1) := by decide +kernel
theorem dX9_settle_164 : decode cX9_settle 164 = .ok (.iaload, 1) := by decide +kernel
theorem dX9_settle_165 : decode cX9_settle 165 = .ok (.iload 7, 2) := by decide +kernel
theorem dX9_settle_167 : decode cX9_settle 167 = .ok (.isub, 1) := by decide +kernel
theorem dX9_settle_168 : decode cX9_settle 168 = .ok (.iastore, 1) := by decide +kernel
theorem dX9_settle_169 : decode cX9_settle 169 = .ok (.aload_n 0, 1) := by decide +kernel
theorem dX9_settle_170 : decode cX9_settle 170 = .ok (.getfield 58, 3) := by decide +kernel
theorem dX9_settle_173 : decode cX9_settle 173 = .ok (.iconst 4, 1) := by decide +kernel
theorem dX9_settle_174 : decode cX9_settle 174 = .ok (.iload_n 2, 1) := by decide +kernel
theorem dX9_settle_175 : decode cX9_settle 175 = .ok (.imul, 1) := by decide +kernel
theorem dX9_settle_176 : decode cX9_settle 176 = .ok (.iload 6, 2) := by decide +kernel
theorem dX9_settle_178 : decode cX9_settle 178 = .ok (.iadd, 1) := by decide +kernel
theorem dX9_settle_179 : decode cX9_settle 179 = .ok (.dup2, 1) := by decide +kernel
theorem dX9_settle_180 : decode cX9_settle 180 = .ok (.iaload, 1) := by decide +kernel
theorem dX9_settle_181 : decode cX9_settle 181 = .ok (.iload 7, 2) := by decide +kernel
theorem dX9_settle_183 : decode cX9_settle 183 = .ok (.iadd, 1) := by decide +kernel
theorem dX9_settle_184 : decode cX9_settle 184 = .ok (.iastore, 1) := by decide +kernel
theorem dX9_settle_185 : decode cX9_settle 185 = .ok (.lload_n 3, 1) := by decide +kernel
theorem dX9_settle_186 : decode cX9_settle 186 = .ok (.iload 7, 2) := by decide +kernel
theorem dX9_settle_188 : decode cX9_settle 188 = .ok (.i2l, 1) := by decide +kernel
theorem dX9_settle_189 : decode cX9_settle 189 = .ok (.iload 5, 2) := by decide +kernel
theorem dX9_settle_191 : decode cX9_settle 191 = .ok (.i2l, 1) := by decide +kernel
theorem dX9_settle_192 : decode cX9_settle 192 = .ok (.lmul, 1) := by decide +kernel
theorem dX9_settle_193 : decode cX9_settle 193 = .ok (.lsub, 1) := by decide +kernel
theorem dX9_settle_194 : decode cX9_settle 194 = .ok (.lstore_n 3, 1) := by decide +kernel
theorem dX9_settle_195 : decode cX9_settle 195 = .ok (.iinc 6 1, 3) := by decide +kernel
theorem dX9_settle_198 : decode cX9_settle 198 = .ok (.goto (-122), 3) := by decide +kernel
theorem dX9_settle_201 : decode cX9_settle 201 = .ok (.iinc 5 (-1), 3) := by decide +kernel
theorem dX9_settle_204 : decode cX9_settle 204 = .ok (.goto (-136), 3) := by decide +kernel
theorem dX9_settle_207 : decode cX9_settle 207 = .ok (.aload_n 0, 1) := by decide +kernel
theorem dX9_settle_208 : decode cX9_settle 208 = .ok (.getfield 52, 3) := by decide +kernel
theorem dX9_settle_211 : decode cX9_settle 211 = .ok (.bipush 10, 2) := by decide +kernel
theorem dX9_settle_213 : decode cX9_settle 213 = .ok (.iload_n 1, 1) := by decide +kernel
theorem dX9_settle_214 : decode cX9_settle 214 = .ok (.imul, 1) := by decide +kernel
theorem dX9_settle_215 : decode cX9_settle 215 = .ok (.iload_n 2, 1) := by decide +kernel
theorem dX9_settle_216 : decode cX9_settle 216 = .ok (.iadd, 1) := by decide +kernel
theorem dX9_settle_217 : decode cX9_settle 217 = .ok (.lload_n 3, 1) := by decide +kernel
theorem dX9_settle_218 : decode cX9_settle 218 = .ok (.lastore, 1) := by decide +kernel
theorem dX9_settle_219 : decode cX9_settle 219 = .ok (.lload_n 3, 1) := by decide +kernel
theorem dX9_settle_220 : decode cX9_settle 220 = .ok (.lreturn, 1) := by decide +kernel
set_option maxRecDepth 20000 in
theorem ggX9_vote_X9_isHouse : GoodIn wsX9_vote wsX9_isHouse := goodIn_r _ [6, 7, 8, 5, 9] (by decide +kernel) (by decide +kernel)
set_option maxRecDepth 20000 in
theorem gX9_vote_X9_isHouse : GoodIn wsX9_vote (va_wsS RX9 171 yX9_isHouse wsX9_isHouse) := goodIn_app (goodIn_of _ (by decide +kernel)) ggX9_vote_X9_isHouse
set_option maxRecDepth 20000 in
theorem ggX9_vote_X9_isTown : GoodIn wsX9_vote wsX9_isTown := goodIn_r _ [12, 7, 8, 5, 9] (by decide +kernel) (by decide +kernel)
set_option maxRecDepth 20000 in
theorem gX9_vote_X9_isTown : GoodIn wsX9_vote (va_wsS RX9 175 yX9_isTown wsX9_isTown) := goodIn_app (goodIn_of _ (by decide +kernel)) ggX9_vote_X9_isTown
set_option maxRecDepth 20000 in
theorem ggX9_vote_X9_in : GoodIn wsX9_vote wsX9_in := goodIn_r _ [9] (by decide +kernel) (by decide +kernel)
set_option maxRecDepth 20000 in
theorem gX9_vote_X9_in : GoodIn wsX9_vote (va_wsS RX9 141 yX9_in wsX9_in) := goodIn_app (goodIn_of _ (by decide +kernel)) ggX9_vote_X9_in
set_option maxRecDepth 20000 in
theorem ggX9_vote_X9_finding : GoodIn wsX9_vote wsX9_finding := goodIn_r _ [16, 17, 18, 19, 20, 21, 22, 23, 24, 25, 26, 27, 28, 29, 30, 31, 32, 33, 34, 35, 36, 37, 38, 39, 40, 41, 42, 43, 44, 45, 46, 47, 48, 49, 50, 51, 52, 53, 54, 55, 56, 57, 58, 59, 60, 61, 62, 63, 64, 65, 66, 67, 68, 69, 70, 71, 72, 73] (by decide +kernel) (by decide +kernel)
set_option maxRecDepth 20000 in
theorem gX9_vote_X9_finding : GoodIn wsX9_vote (wsV RX9 154 RX9 yX9_finding wsX9_finding) := goodIn_app (goodIn_of _ (by decide +kernel)) ggX9_vote_X9_finding
theorem dX9_vote_0 : decode cX9_vote 0 = .ok (.iload_n 1, 1) := by decide +kernel
theorem dX9_vote_1 : decode cX9_vote 1 = .ok (.invokestatic 171, 3) := by decide +kernel
theorem dX9_vote_4 : decode cX9_vote 4 = .ok (.ifCond .eq 27, 3) := by decide +kernel
theorem dX9_vote_7 : decode cX9_vote 7 = .ok (.iload_n 2, 1) := by decide +kernel
theorem dX9_vote_8 : decode cX9_vote 8 = .ok (.invokestatic 175, 3) := by decide +kernel
theorem dX9_vote_11 : decode cX9_vote 11 = .ok (.ifCond .eq 20, 3) := by decide +kernel
theorem dX9_vote_14 : decode cX9_vote 14 = .ok (.iload_n 3, 1) := by decide +kernel
theorem dX9_vote_15 : decode cX9_vote 15 = .ok (.ifCond .eq 24, 3) := by decide +kernel
theorem dX9_vote_18 : decode cX9_vote 18 = .ok (.iload_n 3, 1) := by decide +kernel
theorem dX9_vote_19 : decode cX9_vote 19 = .ok (.sipush 5000, 3) := by decide +kernel
theorem dX9_vote_22 : decode cX9_vote 22 = .ok (.sipush 20000, 3) := by decide +kernel
theorem dX9_vote_25 : decode cX9_vote 25 = .ok (.invokestatic 141, 3) := by decide +kernel
theorem dX9_vote_28 : decode cX9_vote 28 = .ok (.ifCond .ne 11, 3) := by decide +kernel
theorem dX9_vote_31 : decode cX9_vote 31 = .ok (.aload_n 0, 1) := by decide +kernel
theorem dX9_vote_32 : decode cX9_vote 32 = .ok (.ldc2_w 152, 3) := by decide +kernel
theorem dX9_vote_35 : decode cX9_vote 35 = .ok (.invokevirtual 154, 3) := by decide +kernel
theorem dX9_vote_38 : decode cX9_vote 38 = .ok (.lreturn, 1) := by decide +kernel
theorem dX9_vote_39 : decode cX9_vote 39 = .ok (.aload_n 0, 1) := by decide +kernel
theorem dX9_vote_40 : decode cX9_vote 40 = .ok (.getfield 61, 3) := by decide +kernel
theorem dX9_vote_43 : decode cX9_vote 43 = .ok (.iconst 5, 1) := by decide +kernel
theorem dX9_vote_44 : decode cX9_vote 44 = .ok (.iload_n 1, 1) := by decide +kernel
theorem dX9_vote_45 : decode cX9_vote 45 = .ok (.imul, 1) := by decide +kernel
theorem dX9_vote_46 : decode cX9_vote 46 = .ok (.iload_n 2, 1) := by decide +kernel
theorem dX9_vote_47 : decode cX9_vote 47 = .ok (.iadd, 1) := by decide +kernel
theorem dX9_vote_48 : decode cX9_vote 48 = .ok (.iaload, 1) := by decide +kernel
theorem dX9_vote_49 : decode cX9_vote 49 = .ok (.istore 4, 2) := by decide +kernel
theorem dX9_vote_51 : decode cX9_vote 51 = .ok (.aload_n 0, 1) := by decide +kernel
theorem dX9_vote_52 : decode cX9_vote 52 = .ok (.getfield 61, 3) := by decide +kernel
theorem dX9_vote_55 : decode cX9_vote 55 = .ok (.iconst 5, 1) := by decide +kernel
theorem dX9_vote_56 : decode cX9_vote 56 = .ok (.iload_n 1, 1) := by decide +kernel
theorem dX9_vote_57 : decode cX9_vote 57 = .ok (.imul, 1) := by decide +kernel
theorem dX9_vote_58 : decode cX9_vote 58 = .ok (.iload_n 2, 1) := by decide +kernel
theorem dX9_vote_59 : decode cX9_vote 59 = .ok (.iadd, 1) := by decide +kernel
theorem dX9_vote_60 : decode cX9_vote 60 = .ok (.iload_n 3, 1) := by decide +kernel
theorem dX9_vote_61 : decode cX9_vote 61 = .ok (.iastore, 1) := by decide +kernel
theorem dX9_vote_62 : decode cX9_vote 62 = .ok (.iload 4, 2) := by decide +kernel
theorem dX9_vote_64 : decode cX9_vote 64 = .ok (.i2l, 1) := by decide +kernel
theorem dX9_vote_65 : decode cX9_vote 65 = .ok (.lreturn, 1) := by decide +kernel
set_option maxRecDepth 20000 in
theorem ggX9_rate_X9_isTown : GoodIn wsX9_rate wsX9_isTown := goodIn_r _ [7, 8, 9, 6, 10] (by decide +kernel) (by decide +kernel)
set_option maxRecDepth 20000 in
theorem gX9_rate_X9_isTown : GoodIn wsX9_rate (va_wsS RX9 175 yX9_isTown wsX9_isTown) := goodIn_app (goodIn_of _ (by decide +kernel)) ggX9_rate_X9_isTown
set_option maxRecDepth 20000 in
theorem ggX9_rate_X9_finding : GoodIn wsX9_rate wsX9_finding := goodIn_r _ [14, 15, 16, 17, 18, 19, 20, 21, 22, 23, 24, 25, 26, 27, 28, 29, 30, 31, 32, 33, 34, 35, 36, 37, 38, 39, 40, 41, 42, 43, 44, 45, 46, 47, 48, 49, 50, 51, 52, 53, 54, 55, 56, 57, 58, 59, 60, 61, 62, 63, 64, 65, 66, 67, 68, 69, 70, 71] (by decide +kernel) (by decide +kernel)
set_option maxRecDepth 20000 in
theorem gX9_rate_X9_finding : GoodIn wsX9_rate (wsV RX9 154 RX9 yX9_finding wsX9_finding) := goodIn_app (goodIn_of _ (by decide +kernel)) ggX9_rate_X9_finding
theorem dX9_rate_0 : decode cX9_rate 0 = .ok (.iload_n 1, 1) := by decide +kernel
theorem dX9_rate_1 : decode cX9_rate 1 = .ok (.invokestatic 175, 3) := by decide +kernel
theorem dX9_rate_4 : decode cX9_rate 4 = .ok (.ifCond .ne 11, 3) := by decide +kernel
theorem dX9_rate_7 : decode cX9_rate 7 = .ok (.aload_n 0, 1) := by decide +kernel
theorem dX9_rate_8 : decode cX9_rate 8 = .ok (.ldc2_w 152, 3) := by decide +kernel
theorem dX9_rate_11 : decode cX9_rate 11 = .ok (.invokevirtual 154, 3) := by decide +kernel
theorem dX9_rate_14 : decode cX9_rate 14 = .ok (.lreturn, 1) := by decide +kernel
theorem dX9_rate_15 : decode cX9_rate 15 = .ok (.iconst 0, 1) := by decide +kernel
theorem dX9_rate_16 : decode cX9_rate 16 = .ok (.istore_n 2, 1) := by decide +kernel
theorem dX9_rate_17 : decode cX9_rate 17 = .ok (.iconst 0, 1) := by decide +kernel
theorem dX9_rate_18 : decode cX9_rate 18 = .ok (.istore_n 3, 1) := by decide +kernel
theorem dX9_rate_19 : decode cX9_rate 19 = .ok (.iload_n 3, 1) := by decide +kernel
theorem dX9_rate_20 : decode cX9_rate 20 = .ok (.bipush 10, 2) := by decide +kernel
theorem dX9_rate_22 : decode cX9_rate 22 = .ok (.if_icmp .ge 30, 3) := by decide +kernel
theorem dX9_rate_25 : decode cX9_rate 25 = .ok (.iload_n 2, 1) := by decide +kernel
theorem dX9_rate_26 : decode cX9_rate 26 = .ok (.aload_n 0, 1) := by decide +kernel
theorem dX9_rate_27 : decode cX9_rate 27 = .ok (.getfield 61, 3) := by decide +kernel
theorem dX9_rate_30 : decode cX9_rate 30 = .ok (.iconst 5, 1) := by decide +kernel
theorem dX9_rate_31 : decode cX9_rate 31 = .ok (.iload_n 3, 1) := by decide +kernel
theorem dX9_rate_32 : decode cX9_rate 32 = .ok (.imul, 1) := by decide +kernel
theorem dX9_rate_33 : decode cX9_rate 33 = .ok (.iload_n 1, 1) := by decide +kernel
theorem dX9_rate_34 : decode cX9_rate 34 = .ok (.iadd, 1) := by decide +kernel
theorem dX9_rate_35 : decode cX9_rate 35 = .ok (.iaload, 1) := by decide +kernel
theorem dX9_rate_36 : decode cX9_rate 36 = .ok (.ifCond .le 7, 3) := by decide +kernel
theorem dX9_rate_39 : decode cX9_rate 39 = .ok (.iconst 1, 1) := by decide +kernel
theorem dX9_rate_40 : decode cX9_rate 40 = .ok (.goto 4, 3) := by decide +kernel
theorem dX9_rate_43 : decode cX9_rate 43 = .ok (.iconst 0, 1) := by decide +kernel
theorem dX9_rate_44 : decode cX9_rate 44 = .ok (.iadd, 1) := by decide +kernel
theorem dX9_rate_45 : decode cX9_rate 45 = .ok (.istore_n 2, 1) := by decide +kernel
theorem dX9_rate_46 : decode cX9_rate 46 = .ok (.iinc 3 1, 3) := by decide +kernel
theorem dX9_rate_49 : decode cX9_rate 49 = .ok (.goto (-30), 3) := by decide +kernel
theorem dX9_rate_52 : decode cX9_rate 52 = .ok (.iconst 0, 1) := by decide +kernel
theorem dX9_rate_53 : decode cX9_rate 53 = .ok (.istore_n 3, 1) := by decide +kernel
theorem dX9_rate_54 : decode cX9_rate 54 = .ok (.iload_n 3, 1) := by decide +kernel
theorem dX9_rate_55 : decode cX9_rate 55 = .ok (.bipush 10, 2) := by decide +kernel
theorem dX9_rate_57 : decode cX9_rate 57 = .ok (.if_icmp .ge 107, 3) := by decide +kernel
theorem dX9_rate_60 : decode cX9_rate 60 = .ok (.aload_n 0, 1) := by decide +kernel
theorem dX9_rate_61 : decode cX9_rate 61 = .ok (.getfield 61, 3) := by decide +kernel
theorem dX9_rate_64 : decode cX9_rate 64 = .ok (.iconst 5, 1) := by decide +kernel
theorem dX9_rate_65 : decode cX9_rate 65 = .ok (.iload_n 3, 1) := by decide +kernel
theorem dX9_rate_66 : decode cX9_rate 66 = .ok (.imul, 1) := by decide +kernel
theorem dX9_rate_67 : decode cX9_rate 67 = .ok (.iload_n 1, 1) := by decide +kernel
theorem dX9_rate_68 : decode cX9_rate 68 = .ok (.iadd, 1) := by decide +kernel
theorem dX9_rate_69 : decode cX9_rate 69 = .ok (.iaload, 1) := by decide +kernel
theorem dX9_rate_70 : decode cX9_rate 70 = .ok (.istore 4, 2) := by decide +kernel
theorem dX9_rate_72 : decode cX9_rate 72 = .ok (.iconst 0, 1) := by decide +kernel
theorem dX9_rate_73 : decode cX9_rate 73 = .ok (.istore 5, 2) := by decide +kernel
theorem dX9_rate_75 : decode cX9_rate 75 = .ok (.iconst 0, 1) := by decide +kernel
theorem dX9_rate_76 : decode cX9_rate 76 = .ok (.istore 6, 2) := by decide +kernel
theorem dX9_rate_78 : decode cX9_rate 78 = .ok (.iload 6, 2) := by decide +kernel
theorem dX9_rate_80 : decode cX9_rate 80 = .ok (.bipush 10, 2) := by decide +kernel
theorem dX9_rate_82 : decode cX9_rate 82 = .ok (.if_icmp .ge 57, 3) := by decide +kernel
theorem dX9_rate_85 : decode cX9_rate 85 = .ok (.aload_n 0, 1) := by decide +kernel
theorem dX9_rate_86 : decode cX9_rate 86 = .ok (.getfield 61, 3) := by decide +kernel
theorem dX9_rate_89 : decode cX9_rate 89 = .ok (.iconst 5, 1) := by decide +kernel
theorem dX9_rate_90 : decode cX9_rate 90 = .ok (.iload 6, 2) := by decide +kernel
theorem dX9_rate_92 : decode cX9_rate 92 = .ok (.imul, 1) := by decide +kernel
theorem dX9_rate_93 : decode cX9_rate 93 = .ok (.iload_n 1, 1) := by decide +kernel
theorem dX9_rate_94 : decode cX9_rate 94 = .ok (.iadd, 1) := by decide +kernel
theorem dX9_rate_95 : decode cX9_rate 95 = .ok (.iaload, 1) := by decide +kernel
theorem dX9_rate_96 : decode cX9_rate 96 = .ok (.istore 7, 2) := by decide +kernel
theorem dX9_rate_98 : decode cX9_rate 98 = .ok (.iload 5, 2) := by decide +kernel
theorem dX9_rate_100 : decode cX9_rate 100 = .ok (.iload 7, 2) := by decide +kernel
theorem dX9_rate_102 : decode cX9_rate 102 = .ok (.ifCond .le 27, 3) := by decide +kernel
theorem dX9_rate_105 : decode cX9_rate 105 = .ok (.iload 7, 2) := by decide +kernel
theorem dX9_rate_107 : decode cX9_rate 107 = .ok (.iload 4, 2) := by decide +kernel
theorem dX9_rate_109 : decode cX9_rate 109 = .ok (.if_icmp .lt 16, 3) := by decide +kernel
theorem dX9_rate_112 : decode cX9_rate 112 = .ok (.iload 7, 2) := by decide +kernel
theorem dX9_rate_114 : decode cX9_rate 114 = .ok (.iload 4, 2) := by decide +kernel
theorem dX9_rate_116 : decode cX9_rate 116 = .ok (.if_icmp .ne 13, 3) := by decide +kernel
theorem dX9_rate_119 : decode cX9_rate 119 = .ok (.iload 6, 2) := by decide +kernel
theorem dX9_rate_121 : decode cX9_rate 121 = .ok (.iload_n 3, 1) := by decide +kernel
theorem dX9_rate_122 : decode cX9_rate 122 = .ok (.if_icmp .ge 7, 3) := by decide +kernel
theorem dX9_rate_125 : decode cX9_rate 125 = .ok (.iconst 1, 1) := by decide +kernel
theorem dX9_rate_126 : decode cX9_rate 126 = .ok (.goto 4, 3) := by decide +kernel
theorem dX9_rate_129 : decode cX9_rate 129 = .ok (.iconst 0, 1) := by decide +kernel
theorem dX9_rate_130 : decode cX9_rate 130 = .ok (.iadd, 1) := by decide +kernel
theorem dX9_rate_131 : decode cX9_rate 131 = .ok (.istore 5, 2) := by decide +kernel
theorem dX9_rate_133 : decode cX9_rate 133 = .ok (.iinc 6 1, 3) := by decide +kernel
theorem dX9_rate_136 : decode cX9_rate 136 = .ok (.goto (-58), 3) := by decide +kernel
theorem dX9_rate_139 : decode cX9_rate 139 = .ok (.iload 4, 2) := by decide +kernel
theorem dX9_rate_141 : decode cX9_rate 141 = .ok (.ifCond .le 17, 3) := by decide +kernel
theorem dX9_rate_144 : decode cX9_rate 144 = .ok (.iload 5, 2) := by decide +kernel
theorem dX9_rate_146 : decode cX9_rate 146 = .ok (.iload_n 2, 1) := by decide +kernel
theorem dX9_rate_147 : decode cX9_rate 147 = .ok (.iconst 1, 1) := by decide +kernel
theorem dX9_rate_148 : decode cX9_rate 148 = .ok (.isub, 1) := by decide +kernel
theorem dX9_rate_149 : decode cX9_rate 149 = .ok (.iconst 2, 1) := by decide +kernel
theorem dX9_rate_150 : decode cX9_rate 150 = .ok (.idiv, 1) := by decide +kernel
theorem dX9_rate_151 : decode cX9_rate 151 = .ok (.if_icmp .ne 7, 3) := by decide +kernel
theorem dX9_rate_154 : decode cX9_rate 154 = .ok (.iload 4, 2) := by decide +kernel
theorem dX9_rate_156 : decode cX9_rate 156 = .ok (.i2l, 1) := by decide +kernel
theorem dX9_rate_157 : decode cX9_rate 157 = .ok (.lreturn, 1) := by decide +kernel
theorem dX9_rate_158 : decode cX9_rate 158 = .ok (.iinc 3 1, 3) := by decide +kernel
theorem dX9_rate_161 : decode cX9_rate 161 = .ok (.goto (-107), 3) := by decide +kernel
theorem dX9_rate_164 : decode cX9_rate 164 = .ok (.aload_n 0, 1) := by decide +kernel
theorem dX9_rate_165 : decode cX9_rate 165 = .ok (.ldc2_w 211, 3) := by decide +kernel
theorem dX9_rate_168 : decode cX9_rate 168 = .ok (.invokevirtual 154, 3) := by decide +kernel
theorem dX9_rate_171 : decode cX9_rate 171 = .ok (.lreturn, 1) := by decide +kernel
set_option maxRecDepth 20000 in
theorem ggX9_offer_X9_isTown : GoodIn wsX9_offer wsX9_isTown := goodIn_r _ [6, 7, 8, 5, 9] (by decide +kernel) (by decide +kernel)
set_option maxRecDepth 20000 in
theorem gX9_offer_X9_isTown : GoodIn wsX9_offer (va_wsS RX9 175 yX9_isTown wsX9_isTown) := goodIn_app (goodIn_of _ (by decide +kernel)) ggX9_offer_X9_isTown
set_option maxRecDepth 20000 in
theorem ggX9_offer_X9_in : GoodIn wsX9_offer wsX9_in := goodIn_r _ [9] (by decide +kernel) (by decide +kernel)
set_option maxRecDepth 20000 in
theorem gX9_offer_X9_in : GoodIn wsX9_offer (va_wsS RX9 141 yX9_in wsX9_in) := goodIn_app (goodIn_of _ (by decide +kernel)) ggX9_offer_X9_in
set_option maxRecDepth 20000 in
theorem ggX9_offer_X9_finding : GoodIn wsX9_offer wsX9_finding := goodIn_r _ [13, 14, 15, 16, 17, 18, 19, 20, 21, 22, 23, 24, 25, 26, 27, 28, 29, 30, 31, 32, 33, 34, 35, 36, 37, 38, 39, 40, 41, 42, 43, 44, 45, 46, 47, 48, 49, 50, 51, 52, 53, 54, 55, 56, 57, 58, 59, 60, 61, 62, 63, 64, 65, 66, 67, 68, 69, 70] (by decide +kernel) (by decide +kernel)
set_option maxRecDepth 20000 in
theorem gX9_offer_X9_finding : GoodIn wsX9_offer (wsV RX9 154 RX9 yX9_finding wsX9_finding) := goodIn_app (goodIn_of _ (by decide +kernel)) ggX9_offer_X9_finding
theorem dX9_offer_0 : decode cX9_offer 0 = .ok (.iload_n 1, 1) := by decide +kernel
theorem dX9_offer_1 : decode cX9_offer 1 = .ok (.invokestatic 175, 3) := by decide +kernel
theorem dX9_offer_4 : decode cX9_offer 4 = .ok (.ifCond .eq 26, 3) := by decide +kernel
theorem dX9_offer_7 : decode cX9_offer 7 = .ok (.iload_n 2, 1) := by decide +kernel
theorem dX9_offer_8 : decode cX9_offer 8 = .ok (.invokestatic 175, 3) := by decide +kernel
theorem dX9_offer_11 : decode cX9_offer 11 = .ok (.ifCond .eq 19, 3) := by decide +kernel
theorem dX9_offer_14 : decode cX9_offer 14 = .ok (.iload_n 1, 1) := by decide +kernel
theorem dX9_offer_15 : decode cX9_offer 15 = .ok (.iload_n 2, 1) := by decide +kernel
theorem dX9_offer_16 : decode cX9_offer 16 = .ok (.if_icmp .eq 14, 3) := by decide +kernel
theorem dX9_offer_19 : decode cX9_offer 19 = .ok (.iload_n 3, 1) := by decide +kernel
theorem dX9_offer_20 : decode cX9_offer 20 = .ok (.iconst 0, 1) := by decide +kernel
theorem dX9_offer_21 : decode cX9_offer 21 = .ok (.sipush 20000, 3) := by decide +kernel
theorem dX9_offer_24 : decode cX9_offer 24 = .ok (.invokestatic 141, 3) := by decide +kernel
theorem dX9_offer_27 : decode cX9_offer 27 = .ok (.ifCond .ne 11, 3) := by decide +kernel
theorem dX9_offer_30 : decode cX9_offer 30 = .ok (.aload_n 0, 1) := by decide +kernel
theorem dX9_offer_31 : decode cX9_offer 31 = .ok (.ldc2_w 152, 3) := by decide +kernel
theorem dX9_offer_34 : decode cX9_offer 34 = .ok (.invokevirtual 154, 3) := by decide +kernel
theorem dX9_offer_37 : decode cX9_offer 37 = .ok (.lreturn, 1) := by decide +kernel
theorem dX9_offer_38 : decode cX9_offer 38 = .ok (.aload_n 0, 1) := by decide +kernel
theorem dX9_offer_39 : decode cX9_offer 39 = .ok (.getfield 64, 3) := by decide +kernel
theorem dX9_offer_42 : decode cX9_offer 42 = .ok (.iconst 5, 1) := by decide +kernel
theorem dX9_offer_43 : decode cX9_offer 43 = .ok (.iload_n 1, 1) := by decide +kernel
theorem dX9_offer_44 : decode cX9_offer 44 = .ok (.imul, 1) := by decide +kernel
theorem dX9_offer_45 : decode cX9_offer 45 = .ok (.iload_n 2, 1) := by decide +kernel
theorem dX9_offer_46 : decode cX9_offer 46 = .ok (.iadd, 1) := by decide +kernel
theorem dX9_offer_47 : decode cX9_offer 47 = .ok (.iaload, 1) := by decide +kernel
theorem dX9_offer_48 : decode cX9_offer 48 = .ok (.istore 4, 2) := by decide +kernel
theorem dX9_offer_50 : decode cX9_offer 50 = .ok (.aload_n 0, 1) := by decide +kernel
theorem dX9_offer_51 : decode cX9_offer 51 = .ok (.getfield 64, 3) := by decide +kernel
theorem dX9_offer_54 : decode cX9_offer 54 = .ok (.iconst 5, 1) := by decide +kernel
theorem dX9_offer_55 : decode cX9_offer 55 = .ok (.iload_n 1, 1) := by decide +kernel
theorem dX9_offer_56 : decode cX9_offer 56 = .ok (.imul, 1) := by decide +kernel
theorem dX9_offer_57 : decode cX9_offer 57 = .ok (.iload_n 2, 1) := by decide +kernel
theorem dX9_offer_58 : decode cX9_offer 58 = .ok (.iadd, 1) := by decide +kernel
theorem dX9_offer_59 : decode cX9_offer 59 = .ok (.iload_n 3, 1) := by decide +kernel
theorem dX9_offer_60 : decode cX9_offer 60 = .ok (.iastore, 1) := by decide +kernel
theorem dX9_offer_61 : decode cX9_offer 61 = .ok (.iload 4, 2) := by decide +kernel
theorem dX9_offer_63 : decode cX9_offer 63 = .ok (.i2l, 1) := by decide +kernel
theorem dX9_offer_64 : decode cX9_offer 64 = .ok (.lreturn, 1) := by decide +kernel
theorem dX9_look_0 : decode cX9_look 0 = .ok (.iload_n 3, 1) := by decide +kernel
theorem dX9_look_1 : decode cX9_look 1 = .ok (.ifCond .ge 7, 3) := by decide +kernel
theorem dX9_look_4 : decode cX9_look 4 = .ok (.iconst 2, 1) := by decide +kernel
theorem dX9_look_5 : decode cX9_look 5 = .ok (.goto 13, 3) := by decide +kernel
theorem dX9_look_8 : decode cX9_look 8 = .ok (.iload 4, 2) := by decide +kernel
theorem dX9_look_10 : decode cX9_look 10 = .ok (.ifCond .ge 7, 3) := by decide +kernel
theorem dX9_look_13 : decode cX9_look 13 = .ok (.iconst 3, 1) := by decide +kernel
theorem dX9_look_14 : decode cX9_look 14 = .ok (.goto 4, 3) := by decide +kernel
theorem dX9_look_17 : decode cX9_look 17 = .ok (.iconst 4, 1) := by decide +kernel
theorem dX9_look_18 : decode cX9_look 18 = .ok (.istore 5, 2) := by decide +kernel
theorem dX9_look_20 : decode cX9_look 20 = .ok (.iload_n 3, 1) := by decide +kernel
theorem dX9_look_21 : decode cX9_look 21 = .ok (.ifCond .ge 7, 3) := by decide +kernel
theorem dX9_look_24 : decode cX9_look 24 = .ok (.iload_n 2, 1) := by decide +kernel
theorem dX9_look_25 : decode cX9_look 25 = .ok (.goto 14, 3) := by decide +kernel
theorem dX9_look_28 : decode cX9_look 28 = .ok (.iload 4, 2) := by decide +kernel
theorem dX9_look_30 : decode cX9_look 30 = .ok (.ifCond .ge 7, 3) := by decide +kernel
theorem dX9_look_33 : decode cX9_look 33 = .ok (.iload_n 3, 1) := by decide +kernel
theorem dX9_look_34 : decode cX9_look 34 = .ok (.goto 5, 3) := by decide +kernel
theorem dX9_look_37 : decode cX9_look 37 = .ok (.iload 4, 2) := by decide +kernel
theorem dX9_look_39 : decode cX9_look 39 = .ok (.istore 6, 2) := by decide +kernel
theorem dX9_look_41 : decode cX9_look 41 = .ok (.aload_n 0, 1) := by decide +kernel
theorem dX9_look_42 : decode cX9_look 42 = .ok (.getfield 64, 3) := by decide +kernel
theorem dX9_look_45 : decode cX9_look 45 = .ok (.iconst 5, 1) := by decide +kernel
theorem dX9_look_46 : decode cX9_look 46 = .ok (.iload_n 1, 1) := by decide +kernel
theorem dX9_look_47 : decode cX9_look 47 = .ok (.imul, 1) := by decide +kernel
theorem dX9_look_48 : decode cX9_look 48 = .ok (.iload_n 2, 1) := by decide +kernel
theorem dX9_look_49 : decode cX9_look 49 = .ok (.iadd, 1) := by decide +kernel
theorem dX9_look_50 : decode cX9_look 50 = .ok (.iaload, 1) := by decide +kernel
theorem dX9_look_51 : decode cX9_look 51 = .ok (.i2l, 1) := by decide +kernel
theorem dX9_look_52 : decode cX9_look 52 = .ok (.aload_n 0, 1) := by decide +kernel
theorem dX9_look_53 : decode cX9_look 53 = .ok (.getfield 64, 3) := by decide +kernel
theorem dX9_look_56 : decode cX9_look 56 = .ok (.iconst 5, 1) := by decide +kernel
theorem dX9_look_57 : decode cX9_look 57 = .ok (.iload 6, 2) := by decide +kernel
theorem dX9_look_59 : decode cX9_look 59 = .ok (.imul, 1) := by decide +kernel
theorem dX9_look_60 : decode cX9_look 60 = .ok (.iload_n 1, 1) := by decide +kernel
theorem dX9_look_61 : decode cX9_look 61 = .ok (.iadd, 1) := by decide +kernel
theorem dX9_look_62 : decode cX9_look 62 = .ok (.iaload, 1) := by decide +kernel
theorem dX9_look_63 : decode cX9_look 63 = .ok (.i2l, 1) := by decide +kernel
theorem dX9_look_64 : decode cX9_look 64 = .ok (.lmul, 1) := by decide +kernel
theorem dX9_look_65 : decode cX9_look 65 = .ok (.lstore 7, 2) := by decide +kernel
theorem dX9_look_67 : decode cX9_look 67 = .ok (.ldc2_w 336, 3) := by decide +kernel
theorem dX9_look_70 : decode cX9_look 70 = .ok (.ldc2_w 338, 3) := by decide +kernel
theorem dX9_look_73 : decode cX9_look 73 = .ok (.iload_n 1, 1) := by decide +kernel
theorem dX9_look_74 : decode cX9_look 74 = .ok (.i2l, 1) := by decide +kernel
theorem dX9_look_75 : decode cX9_look 75 = .ok (.lmul, 1) := by decide +kernel
theorem dX9_look_76 : decode cX9_look 76 = .ok (.ladd, 1) := by decide +kernel
theorem dX9_look_77 : decode cX9_look 77 = .ok (.iload_n 2, 1) := by decide +kernel
theorem dX9_look_78 : decode cX9_look 78 = .ok (.i2l, 1) := by decide +kernel
theorem dX9_look_79 : decode cX9_look 79 = .ok (.ladd, 1) := by decide +kernel
theorem dX9_look_80 : decode cX9_look 80 = .ok (.lstore 9, 2) := by decide +kernel
theorem dX9_look_82 : decode cX9_look 82 = .ok (.iload_n 3, 1) := by decide +kernel
theorem dX9_look_83 : decode cX9_look 83 = .ok (.ifCond .lt 30, 3) := by decide +kernel
theorem dX9_look_86 : decode cX9_look 86 = .ok (.lload 7, 2) := by decide +kernel
theorem dX9_look_88 : decode cX9_look 88 = .ok (.aload_n 0, 1) := by decide +kernel
theorem dX9_look_89 : decode cX9_look 89 = .ok (.getfield 64, 3) := by decide +kernel
theorem dX9_look_92 : decode cX9_look 92 = .ok (.iconst 5, 1) := by decide +kernel
theorem dX9_look_93 : decode cX9_look 93 = .ok (.iload_n 2, 1) := by decide +kernel
theorem dX9_look_94 : decode cX9_look 94 = .ok (.imul, 1) := by decide +kernel
theorem dX9_look_95 : decode cX9_look 95 = .ok (.iload_n 3, 1) := by decide +kernel
theorem dX9_look_96 : decode cX9_look 96 = .ok (.iadd, 1) := by decide +kernel
theorem dX9_look_97 : decode cX9_look 97 = .ok (.iaload, 1) := by decide +kernel
theorem dX9_look_98 : decode cX9_look 98 = .ok (.i2l, 1) := by decide +kernel
theorem dX9_look_99 : decode cX9_look 99 = .ok (.lmul, 1) := by decide +kernel
theorem dX9_look_100 : decode cX9_look 100 = .ok (.lstore 7, 2) := by decide +kernel
theorem dX9_look_102 : decode cX9_look 102 = .ok (.ldc2_w 338, 3) := by decide +kernel
theorem dX9_look_105 : decode cX9_look 105 = .ok (.lload 9, 2) := by decide +kernel
theorem dX9_look_107 : decode cX9_look 107 = .ok (.lmul, 1) := by decide +kernel
theorem dX9_look_108 : decode cX9_look 108 = .ok (.iload_n 3, 1) := by decide +kernel
theorem dX9_look_109 : decode cX9_look 109 = .ok (.i2l, 1) := by decide +kernel
theorem dX9_look_110 : decode cX9_look 110 = .ok (.ladd, 1) := by decide +kernel
theorem dX9_look_111 : decode cX9_look 111 = .ok (.lstore 9, 2) := by decide +kernel
theorem dX9_look_113 : decode cX9_look 113 = .ok (.iload 4, 2) := by decide +kernel
theorem dX9_look_115 : decode cX9_look 115 = .ok (.ifCond .lt 32, 3) := by decide +kernel
theorem dX9_look_118 : decode cX9_look 118 = .ok (.lload 7, 2) := by decide +kernel
theorem dX9_look_120 : decode cX9_look 120 = .ok (.aload_n 0, 1) := by decide +kernel
theorem dX9_look_121 : decode cX9_look 121 = .ok (.getfield 64, 3) := by decide +kernel
theorem dX9_look_124 : decode cX9_look 124 = .ok (.iconst 5, 1) := by decide +kernel
theorem dX9_look_125 : decode cX9_look 125 = .ok (.iload_n 3, 1) := by decide +kernel
theorem dX9_look_126 : decode cX9_look 126 = .ok (.imul, 1) := by decide +kernel
theorem dX9_look_127 : decode cX9_look 127 = .ok (.iload 4, 2) := by decide +kernel
theorem dX9_look_129 : decode cX9_look 129 = .ok (.iadd, 1) := by decide +kernel
theorem dX9_look_130 : decode cX9_look 130 = .ok (.iaload, 1) := by decide +kernel
theorem dX9_look_131 : decode cX9_look 131 = .ok (.i2l, 1) := by decide +kernel
theorem dX9_look_132 : decode cX9_look 132 = .ok (.lmul, 1) := by decide +kernel
theorem dX9_look_133 : decode cX9_look 133 = .ok (.lstore 7, 2) := by decide +kernel
theorem dX9_look_135 : decode cX9_look 135 = .ok (.ldc2_w 338, 3) := by decide +kernel
theorem dX9_look_138 : decode cX9_look 138 = .ok (.lload 9, 2) := by decide +kernel
theorem dX9_look_140 : decode cX9_look 140 = .ok (.lmul, 1) := by decide +kernel
theorem dX9_look_141 : decode cX9_look 141 = .ok (.iload 4, 2) := by decide +kernel
theorem dX9_look_143 : decode cX9_look 143 = .ok (.i2l, 1) := by decide +kernel
theorem dX9_look_144 : decode cX9_look 144 = .ok (.ladd, 1) := by decide +kernel
theorem dX9_look_145 : decode cX9_look 145 = .ok (.lstore 9, 2) := by decide +kernel
theorem dX9_look_147 : decode cX9_look 147 = .ok (.iload 5, 2) := by decide +kernel
theorem dX9_look_149 : decode cX9_look 149 = .ok (.istore 11, 2) := by decide +kernel
theorem dX9_look_151 : decode cX9_look 151 = .ok (.iload 11, 2) := by decide +kernel
theorem dX9_look_153 : decode cX9_look 153 = .ok (.iconst 4, 1) := by decide +kernel
theorem dX9_look_154 : decode cX9_look 154 = .ok (.if_icmp .ge 17, 3) := by decide +kernel
theorem dX9_look_157 : decode cX9_look 157 = .ok (.lload 7, 2) := by decide +kernel
theorem dX9_look_159 : decode cX9_look 159 = .ok (.ldc2_w 340, 3) := by decide +kernel
theorem dX9_look_162 : decode cX9_look 162 = .ok (.lmul, 1) := by decide +kernel
theorem dX9_look_163 : decode cX9_look 163 = .ok (.lstore 7, 2) := by decide +kernel
theorem dX9_look_165 : decode cX9_look 165 = .ok (.iinc 11 1, 3) := by decide +kernel
theorem dX9_look_168 : decode cX9_look 168 = .ok (.goto (-17), 3) := by decide +kernel
theorem dX9_look_171 : decode cX9_look 171 = .ok (.lload 7, 2) := by decide +kernel
theorem dX9_look_173 : decode cX9_look 173 = .ok (.aload_n 0, 1) := by decide +kernel
theorem dX9_look_174 : decode cX9_look 174 = .ok (.getfield 342, 3) := by decide +kernel
theorem dX9_look_177 : decode cX9_look 177 = .ok (.lcmp, 1) := by decide +kernel
theorem dX9_look_178 : decode cX9_look 178 = .ok (.ifCond .le 15, 3) := by decide +kernel
theorem dX9_look_181 : decode cX9_look 181 = .ok (.aload_n 0, 1) := by decide +kernel
theorem dX9_look_182 : decode cX9_look 182 = .ok (.lload 7, 2) := by decide +kernel
theorem dX9_look_184 : decode cX9_look 184 = .ok (.putfield 342, 3) := by decide +kernel
theorem dX9_look_187 : decode cX9_look 187 = .ok (.aload_n 0, 1) := by decide +kernel
theorem dX9_look_188 : decode cX9_look 188 = .ok (.lload 9, 2) := by decide +kernel
theorem dX9_look_190 : decode cX9_look 190 = .ok (.putfield 345, 3) := by decide +kernel
theorem dX9_look_193 : decode cX9_look 193 = .ok (.return_, 1) := by decide +kernel
set_option maxRecDepth 20000 in
theorem ggX9_turn_X9_look : GoodIn wsX9_turn wsX9_look := goodIn_r _ [9, 10, 11, 12, 13, 2, 4, 20, 21, 22, 23, 24, 25, 26, 27, 28, 29, 30, 31, 32, 33, 34, 35, 36, 37, 38, 39, 40, 41, 42, 43, 44, 45, 46, 47, 48, 49, 50, 51, 52, 53, 54, 55, 56, 57, 58, 59, 60, 61, 62, 63, 64, 65, 66, 67, 68, 69, 70, 71, 72, 73, 74] (by decide +kernel) (by decide +kernel)
set_option maxRecDepth 20000 in
theorem gX9_turn_X9_look : GoodIn wsX9_turn (wsV RX9 350 RX9 yX9_look wsX9_look) := goodIn_app (goodIn_of _ (by decide +kernel)) ggX9_turn_X9_look
set_option maxRecDepth 20000 in
theorem ggX9_turn_X9_finding : GoodIn wsX9_turn wsX9_finding := goodIn_r _ [17, 18, 19, 20, 21, 22, 23, 24, 25, 26, 27, 28, 29, 30, 31, 32, 33, 34, 35, 36, 37, 38, 39, 40, 41, 42, 43, 44, 45, 46, 47, 48, 49, 50, 51, 52, 53, 54, 55, 56, 57, 58, 59, 60, 61, 62, 63, 64, 65, 66, 67, 68, 69, 70, 71, 72, 73, 74] (by decide +kernel) (by decide +kernel)
set_option maxRecDepth 20000 in
theorem gX9_turn_X9_finding : GoodIn wsX9_turn (wsV RX9 154 RX9 yX9_finding wsX9_finding) := goodIn_app (goodIn_of _ (by decide +kernel)) ggX9_turn_X9_finding
theorem dX9_turn_0 : decode cX9_turn 0 = .ok (.aload_n 0, 1) := by decide +kernel
theorem dX9_turn_1 : decode cX9_turn 1 = .ok (.ldc2_w 348, 3) := by decide +kernel
theorem dX9_turn_4 : decode cX9_turn 4 = .ok (.putfield 342, 3) := by decide +kernel
theorem dX9_turn_7 : decode cX9_turn 7 = .ok (.aload_n 0, 1) := by decide +kernel
theorem dX9_turn_8 : decode cX9_turn 8 = .ok (.ldc2_w 211, 3) := by decide +kernel
theorem dX9_turn_11 : decode cX9_turn 11 = .ok (.putfield 345, 3) := by decide +kernel
theorem dX9_turn_14 : decode cX9_turn 14 = .ok (.iconst 2, 1) := by decide +kernel
theorem dX9_turn_15 : decode cX9_turn 15 = .ok (.istore_n 1, 1) := by decide +kernel
theorem dX9_turn_16 : decode cX9_turn 16 = .ok (.iload_n 1, 1) := by decide +kernel
theorem dX9_turn_17 : decode cX9_turn 17 = .ok (.iconst 5, 1) := by decide +kernel
theorem dX9_turn_18 : decode cX9_turn 18 = .ok (.if_icmp .ge 166, 3) := by decide +kernel
theorem dX9_turn_21 : decode cX9_turn 21 = .ok (.iconst 0, 1) := by decide +kernel
theorem dX9_turn_22 : decode cX9_turn 22 = .ok (.istore_n 2, 1) := by decide +kernel
theorem dX9_turn_23 : decode cX9_turn 23 = .ok (.iload_n 2, 1) := by decide +kernel
theorem dX9_turn_24 : decode cX9_turn 24 = .ok (.sipush 625, 3) := by decide +kernel
theorem dX9_turn_27 : decode cX9_turn 27 = .ok (.if_icmp .ge 151, 3) := by decide +kernel
theorem dX9_turn_30 : decode cX9_turn 30 = .ok (.iload_n 2, 1) := by decide +kernel
theorem dX9_turn_31 : decode cX9_turn 31 = .ok (.bipush 125, 2) := by decide +kernel
theorem dX9_turn_33 : decode cX9_turn 33 = .ok (.idiv, 1) := by decide +kernel
theorem dX9_turn_34 : decode cX9_turn 34 = .ok (.istore_n 3, 1) := by decide +kernel
theorem dX9_turn_35 : decode cX9_turn 35 = .ok (.iload_n 2, 1) := by decide +kernel
theorem dX9_turn_36 : decode cX9_turn 36 = .ok (.bipush 25, 2) := by decide +kernel
theorem dX9_turn_38 : decode cX9_turn 38 = .ok (.idiv, 1) := by decide +kernel
theorem dX9_turn_39 : decode cX9_turn 39 = .ok (.iconst 5, 1) := by decide +kernel
theorem dX9_turn_40 : decode cX9_turn 40 = .ok (.irem, 1) := by decide +kernel
theorem dX9_turn_41 : decode cX9_turn 41 = .ok (.istore 4, 2) := by decide +kernel
theorem dX9_turn_43 : decode cX9_turn 43 = .ok (.iload_n 1, 1) := by decide +kernel
theorem dX9_turn_44 : decode cX9_turn 44 = .ok (.iconst 2, 1) := by decide +kernel
theorem dX9_turn_45 : decode cX9_turn 45 = .ok (.if_icmp .le 11, 3) := by decide +kernel
theorem dX9_turn_48 : decode cX9_turn 48 = .ok (.iload_n 2, 1) := by decide +kernel
theorem dX9_turn_49 : decode cX9_turn 49 = .ok (.iconst 5, 1) := by decide +kernel
theorem dX9_turn_50 : decode cX9_turn 50 = .ok (.idiv, 1) := by decide +kernel
theorem dX9_turn_51 : decode cX9_turn 51 = .ok (.iconst 5, 1) := by decide +kernel
theorem dX9_turn_52 : decode cX9_turn 52 = .ok (.irem, 1) := by decide +kernel
theorem dX9_turn_53 : decode cX9_turn 53 = .ok (.goto 4, 3) := by decide +kernel
theorem dX9_turn_56 : decode cX9_turn 56 = .ok (.iconst (-1), 1) := by decide +kernel
theorem dX9_turn_57 : decode cX9_turn 57 = .ok (.istore 5, 2) := by decide +kernel
theorem dX9_turn_59 : decode cX9_turn 59 = .ok (.iload_n 1, 1) := by decide +kernel
theorem dX9_turn_60 : decode cX9_turn 60 = .ok (.iconst 3, 1) := by decide +kernel
theorem dX9_turn_61 : decode cX9_turn 61 = .ok (.if_icmp .le 9, 3) := by decide +kernel
theorem dX9_turn_64 : decode cX9_turn 64 = .ok (.iload_n 2, 1) := by decide +kernel
theorem dX9_turn_65 : decode cX9_turn 65 = .ok (.iconst 5, 1) := by decide +kernel
theorem dX9_turn_66 : decode cX9_turn 66 = .ok (.irem, 1) := by decide +kernel
theorem dX9_turn_67 : decode cX9_turn 67 = .ok (.goto 4, 3) := by decide +kernel
theorem dX9_turn_70 : decode cX9_turn 70 = .ok (.iconst (-1), 1) := by decide +kernel
theorem dX9_turn_71 : decode cX9_turn 71 = .ok (.istore 6, 2) := by decide +kernel
theorem dX9_turn_73 : decode cX9_turn 73 = .ok (.iload_n 1, 1) := by decide +kernel
theorem dX9_turn_74 : decode cX9_turn 74 = .ok (.iconst 3, 1) := by decide +kernel
theorem dX9_turn_75 : decode cX9_turn 75 = .ok (.if_icmp .ge 11, 3) := by decide +kernel
theorem dX9_turn_78 : decode cX9_turn 78 = .ok (.iload_n 2, 1) := by decide +kernel
theorem dX9_turn_79 : decode cX9_turn 79 = .ok (.iconst 5, 1) := by decide +kernel
theorem dX9_turn_80 : decode cX9_turn 80 = .ok (.idiv, 1) := by decide +kernel
theorem dX9_turn_81 : decode cX9_turn 81 = .ok (.iconst 5, 1) := by decide +kernel
theorem dX9_turn_82 : decode cX9_turn 82 = .ok (.irem, 1) := by decide +kernel
theorem dX9_turn_83 : decode cX9_turn 83 = .ok (.ifCond .ne 89, 3) := by decide +kernel
theorem dX9_turn_86 : decode cX9_turn 86 = .ok (.iload_n 1, 1) := by decide +kernel
theorem dX9_turn_87 : decode cX9_turn 87 = .ok (.iconst 4, 1) := by decide +kernel
theorem dX9_turn_88 : decode cX9_turn 88 = .ok (.if_icmp .ge 12, 3) := by decide +kernel
theorem dX9_turn_91 : decode cX9_turn 91 = .ok (.iload_n 2, 1) := by decide +kernel
theorem dX9_turn_92 : decode cX9_turn 92 = .ok (.iconst 5, 1) := by decide +kernel
theorem dX9_turn_93 : decode cX9_turn 93 = .ok (.irem, 1) := by decide +kernel
theorem dX9_turn_94 : decode cX9_turn 94 = .ok (.ifCond .eq 6, 3) := by decide +kernel
theorem dX9_turn_97 : decode cX9_turn 97 = .ok (.goto 75, 3) := by decide +kernel
theorem dX9_turn_100 : decode cX9_turn 100 = .ok (.iload_n 3, 1) := by decide +kernel
theorem dX9_turn_101 : decode cX9_turn 101 = .ok (.iload 4, 2) := by decide +kernel
theorem dX9_turn_103 : decode cX9_turn 103 = .ok (.if_icmp .ge 50, 3) := by decide +kernel
theorem dX9_turn_106 : decode cX9_turn 106 = .ok (.iload 5, 2) := by decide +kernel
theorem dX9_turn_108 : decode cX9_turn 108 = .ok (.ifCond .lt 16, 3) := by decide +kernel
theorem dX9_turn_111 : decode cX9_turn 111 = .ok (.iload_n 3, 1) := by decide +kernel
theorem dX9_turn_112 : decode cX9_turn 112 = .ok (.iload 5, 2) := by decide +kernel
theorem dX9_turn_114 : decode cX9_turn 114 = .ok (.if_icmp .ge 39, 3) := by decide +kernel
theorem dX9_turn_117 : decode cX9_turn 117 = .ok (.iload 4, 2) := by decide +kernel
theorem dX9_turn_119 : decode cX9_turn 119 = .ok (.iload 5, 2) := by decide +kernel
theorem dX9_turn_121 : decode cX9_turn 121 = .ok (.if_icmp .eq 32, 3) := by decide +kernel
theorem dX9_turn_124 : decode cX9_turn 124 = .ok (.iload 6, 2) := by decide +kernel
theorem dX9_turn_126 : decode cX9_turn 126 = .ok (.ifCond .lt 23, 3) := by decide +kernel
theorem dX9_turn_129 : decode cX9_turn 129 = .ok (.iload_n 3, 1) := by decide +kernel
theorem dX9_turn_130 : decode cX9_turn 130 = .ok (.iload 6, 2) := by decide +kernel
theorem dX9_turn_132 : decode cX9_turn 132 = .ok (.if_icmp .ge 21, 3) := by decide +kernel
theorem dX9_turn_135 : decode cX9_turn 135 = .ok (.iload 4, 2) := by decide +kernel
theorem dX9_turn_137 : decode cX9_turn 137 = .ok (.iload 6, 2) := by decide +kernel
theorem dX9_turn_139 : decode cX9_turn 139 = .ok (.if_icmp .eq 14, 3) := by decide +kernel
theorem dX9_turn_142 : decode cX9_turn 142 = .ok (.iload 5, 2) := by decide +kernel
theorem dX9_turn_144 : decode cX9_turn 144 = .ok (.iload 6, 2) := by decide +kernel
theorem dX9_turn_146 : decode cX9_turn 146 = .ok (.if_icmp .eq 7, 3) := by decide +kernel
theorem dX9_turn_149 : decode cX9_turn 149 = .ok (.iconst 1, 1) := by decide +kernel
theorem dX9_turn_150 : decode cX9_turn 150 = .ok (.goto 4, 3) := by decide +kernel
theorem dX9_turn_153 : decode cX9_turn 153 = .ok (.iconst 0, 1) := by decide +kernel
theorem dX9_turn_154 : decode cX9_turn 154 = .ok (.istore 7, 2) := by decide +kernel
theorem dX9_turn_156 : decode cX9_turn 156 = .ok (.iload 7, 2) := by decide +kernel
theorem dX9_turn_158 : decode cX9_turn 158 = .ok (.ifCond .eq 14, 3) := by decide +kernel
theorem dX9_turn_161 : decode cX9_turn 161 = .ok (.aload_n 0, 1) := by decide +kernel
theorem dX9_turn_162 : decode cX9_turn 162 = .ok (.iload_n 3, 1) := by decide +kernel
theorem dX9_turn_163 : decode cX9_turn 163 = .ok (.iload 4, 2) := by decide +kernel
theorem dX9_turn_165 : decode cX9_turn 165 = .ok (.iload 5, 2) := by decide +kernel
theorem dX9_turn_167 : decode cX9_turn 167 = .ok (.iload 6, 2) := by decide +kernel
theorem dX9_turn_169 : decode cX9_turn 169 = .ok (.invokevirtual 350, 3) := by decide +kernel
theorem dX9_turn_172 : decode cX9_turn 172 = .ok (.iinc 2 1, 3) := by decide +kernel
theorem dX9_turn_175 : decode cX9_turn 175 = .ok (.goto (-152), 3) := by decide +kernel
theorem dX9_turn_178 : decode cX9_turn 178 = .ok (.iinc 1 1, 3) := by decide +kernel
theorem dX9_turn_181 : decode cX9_turn 181 = .ok (.goto (-165), 3) := by decide +kernel
theorem dX9_turn_184 : decode cX9_turn 184 = .ok (.aload_n 0, 1) := by decide +kernel
theorem dX9_turn_185 : decode cX9_turn 185 = .ok (.getfield 345, 3) := by decide +kernel
theorem dX9_turn_188 : decode cX9_turn 188 = .ok (.ldc2_w 211, 3) := by decide +kernel
theorem dX9_turn_191 : decode cX9_turn 191 = .ok (.lcmp, 1) := by decide +kernel
theorem dX9_turn_192 : decode cX9_turn 192 = .ok (.ifCond .ne 13, 3) := by decide +kernel
theorem dX9_turn_195 : decode cX9_turn 195 = .ok (.aload_n 0, 1) := by decide +kernel
theorem dX9_turn_196 : decode cX9_turn 196 = .ok (.ldc2_w 211, 3) := by decide +kernel
theorem dX9_turn_199 : decode cX9_turn 199 = .ok (.invokevirtual 154, 3) := by decide +kernel
theorem dX9_turn_202 : decode cX9_turn 202 = .ok (.goto 7, 3) := by decide +kernel
theorem dX9_turn_205 : decode cX9_turn 205 = .ok (.aload_n 0, 1) := by decide +kernel
theorem dX9_turn_206 : decode cX9_turn 206 = .ok (.getfield 345, 3) := by decide +kernel
theorem dX9_turn_209 : decode cX9_turn 209 = .ok (.lreturn, 1) := by decide +kernel
theorem dX9_pledged_0 : decode cX9_pledged 0 = .ok (.lconst 0, 1) := by decide +kernel
theorem dX9_pledged_1 : decode cX9_pledged 1 = .ok (.lstore_n 3, 1) := by decide +kernel
theorem dX9_pledged_2 : decode cX9_pledged 2 = .ok (.iconst 0, 1) := by decide +kernel
theorem dX9_pledged_3 : decode cX9_pledged 3 = .ok (.istore 5, 2) := by decide +kernel
theorem dX9_pledged_5 : decode cX9_pledged 5 = .ok (.iload 5, 2) := by decide +kernel
theorem dX9_pledged_7 : decode cX9_pledged 7 = .ok (.aload_n 0, 1) := by decide +kernel
theorem dX9_pledged_8 : decode cX9_pledged 8 = .ok (.getfield 145, 3) := by decide +kernel
theorem dX9_pledged_11 : decode cX9_pledged 11 = .ok (.if_icmp .ge 90, 3) := by decide +kernel
theorem dX9_pledged_14 : decode cX9_pledged 14 = .ok (.aload_n 0, 1) := by decide +kernel
theorem dX9_pledged_15 : decode cX9_pledged 15 = .ok (.getfield 20, 3) := by decide +kernel
theorem dX9_pledged_18 : decode cX9_pledged 18 = .ok (.iload 5, 2) := by decide +kernel
theorem dX9_pledged_20 : decode cX9_pledged 20 = .ok (.iaload, 1) := by decide +kernel
theorem dX9_pledged_21 : decode cX9_pledged 21 = .ok (.iconst 2, 1) := by decide +kernel
theorem dX9_pledged_22 : decode cX9_pledged 22 = .ok (.if_icmp .ne 50, 3) := by decide +kernel
theorem dX9_pledged_25 : decode cX9_pledged 25 = .ok (.aload_n 0, 1) := by decide +kernel
theorem dX9_pledged_26 : decode cX9_pledged 26 = .ok (.getfield 35, 3) := by decide +kernel
theorem dX9_pledged_29 : decode cX9_pledged 29 = .ok (.iload 5, 2) := by decide +kernel
theorem dX9_pledged_31 : decode cX9_pledged 31 = .ok (.iaload, 1) := by decide +kernel
theorem dX9_pledged_32 : decode cX9_pledged 32 = .ok (.iconst 4, 1) := by decide +kernel
theorem dX9_pledged_33 : decode cX9_pledged 33 = .ok (.if_icmp .ne 39, 3) := by decide +kernel
theorem dX9_pledged_36 : decode cX9_pledged 36 = .ok (.aload_n 0, 1) := by decide +kernel
theorem dX9_pledged_37 : decode cX9_pledged 37 = .ok (.getfield 48, 3) := by decide +kernel
theorem dX9_pledged_40 : decode cX9_pledged 40 = .ok (.iload 5, 2) := by decide +kernel
theorem dX9_pledged_42 : decode cX9_pledged 42 = .ok (.baload, 1) := by decide +kernel
theorem dX9_pledged_43 : decode cX9_pledged 43 = .ok (.ifCond .eq 29, 3) := by decide +kernel
theorem dX9_pledged_46 : decode cX9_pledged 46 = .ok (.aload_n 0, 1) := by decide +kernel
theorem dX9_pledged_47 : decode cX9_pledged 47 = .ok (.getfield 26, 3) := by decide +kernel
theorem dX9_pledged_50 : decode cX9_pledged 50 = .ok (.iload 5, 2) := by decide +kernel
theorem dX9_pledged_52 : decode cX9_pledged 52 = .ok (.iaload, 1) := by decide +kernel
theorem dX9_pledged_53 : decode cX9_pledged 53 = .ok (.iload_n 1, 1) := by decide +kernel
theorem dX9_pledged_54 : decode cX9_pledged 54 = .ok (.if_icmp .ne 18, 3) := by decide +kernel
theorem dX9_pledged_57 : decode cX9_pledged 57 = .ok (.aload_n 0, 1) := by decide +kernel
theorem dX9_pledged_58 : decode cX9_pledged 58 = .ok (.getfield 29, 3) := by decide +kernel
theorem dX9_pledged_61 : decode cX9_pledged 61 = .ok (.iload 5, 2) := by decide +kernel
theorem dX9_pledged_63 : decode cX9_pledged 63 = .ok (.iaload, 1) := by decide +kernel
theorem dX9_pledged_64 : decode cX9_pledged 64 = .ok (.iload_n 2, 1) := by decide +kernel
theorem dX9_pledged_65 : decode cX9_pledged 65 = .ok (.if_icmp .ne 7, 3) := by decide +kernel
theorem dX9_pledged_68 : decode cX9_pledged 68 = .ok (.iconst 1, 1) := by decide +kernel
theorem dX9_pledged_69 : decode cX9_pledged 69 = .ok (.goto 4, 3) := by decide +kernel
theorem dX9_pledged_72 : decode cX9_pledged 72 = .ok (.iconst 0, 1) := by decide +kernel
theorem dX9_pledged_73 : decode cX9_pledged 73 = .ok (.istore 6, 2) := by decide +kernel
theorem dX9_pledged_75 : decode cX9_pledged 75 = .ok (.lload_n 3, 1) := by decide +kernel
theorem dX9_pledged_76 : decode cX9_pledged 76 = .ok (.iload 6, 2) := by decide +kernel
theorem dX9_pledged_78 : decode cX9_pledged 78 = .ok (.ifCond .eq 14, 3) := by decide +kernel
theorem dX9_pledged_81 : decode cX9_pledged 81 = .ok (.aload_n 0, 1) := by decide +kernel
theorem dX9_pledged_82 : decode cX9_pledged 82 = .ok (.getfield 32, 3) := by decide +kernel
theorem dX9_pledged_85 : decode cX9_pledged 85 = .ok (.iload 5, 2) := by decide +kernel
theorem dX9_pledged_87 : decode cX9_pledged 87 = .ok (.iaload, 1) := by decide +kernel
theorem dX9_pledged_88 : decode cX9_pledged 88 = .ok (.i2l, 1) := by decide +kernel
theorem dX9_pledged_89 : decode cX9_pledged 89 = .ok (.goto 4, 3) := by decide +kernel
theorem dX9_pledged_92 : decode cX9_pledged 92 = .ok (.lconst 0, 1) := by decide +kernel
theorem dX9_pledged_93 : decode cX9_pledged 93 = .ok (.ladd, 1) := by decide +kernel
theorem dX9_pledged_94 : decode cX9_pledged 94 = .ok (.lstore_n 3, 1) := by decide +kernel
theorem dX9_pledged_95 : decode cX9_pledged 95 = .ok (.iinc 5 1, 3) := by decide +kernel
theorem dX9_pledged_98 : decode cX9_pledged 98 = .ok (.goto (-93), 3) := by decide +kernel
theorem dX9_pledged_101 : decode cX9_pledged 101 = .ok (.lload_n 3, 1) := by decide +kernel
theorem dX9_pledged_102 : decode cX9_pledged 102 = .ok (.aload_n 0, 1) := by decide +kernel
theorem dX9_pledged_103 : decode cX9_pledged 103 = .ok (.getfield 52, 3) := by decide +kernel
theorem dX9_pledged_106 : decode cX9_pledged 106 = .ok (.bipush 10, 2) := by decide +kernel
theorem dX9_pledged_108 : decode cX9_pledged 108 = .ok (.iload_n 1, 1) := by decide +kernel
theorem dX9_pledged_109 : decode cX9_pledged 109 = .ok (.imul, 1) := by decide +kernel
theorem dX9_pledged_110 : decode cX9_pledged 110 = .ok (.iload_n 2, 1) := by decide +kernel
theorem dX9_pledged_111 : decode cX9_pledged 111 = .ok (.iadd, 1) := by decide +kernel
theorem dX9_pledged_112 : decode cX9_pledged 112 = .ok (.laload, 1) := by decide +kernel
theorem dX9_pledged_113 : decode cX9_pledged 113 = .ok (.invokestatic 317, 3) := by decide +kernel
theorem dX9_pledged_116 : decode cX9_pledged 116 = .ok (.lreturn, 1) := by decide +kernel
theorem dX9_share_0 : decode cX9_share 0 = .ok (.lconst 0, 1) := by decide +kernel
theorem dX9_share_1 : decode cX9_share 1 = .ok (.lstore_n 3, 1) := by decide +kernel
theorem dX9_share_2 : decode cX9_share 2 = .ok (.iconst 0, 1) := by decide +kernel
theorem dX9_share_3 : decode cX9_share 3 = .ok (.istore 5, 2) := by decide +kernel
theorem dX9_share_5 : decode cX9_share 5 = .ok (.iload 5, 2) := by decide +kernel
theorem dX9_share_7 : decode cX9_share 7 = .ok (.bipush 10, 2) := by decide +kernel
theorem dX9_share_9 : decode cX9_share 9 = .ok (.if_icmp .ge 19, 3) := by decide +kernel
theorem dX9_share_12 : decode cX9_share 12 = .ok (.lload_n 3, 1) := by decide +kernel
theorem dX9_share_13 : decode cX9_share 13 = .ok (.aload_n 0, 1) := by decide +kernel
theorem dX9_share_14 : decode cX9_share 14 = .ok (.getfield 133, 3) := by decide +kernel
theorem dX9_share_17 : decode cX9_share 17 = .ok (.iload 5, 2) := by decide +kernel
theorem dX9_share_19 : decode cX9_share 19 = .ok (.laload, 1) := by decide +kernel
theorem dX9_share_20 : decode cX9_share 20 = .ok (.ladd, 1) := by decide +kernel
theorem dX9_share_21 : decode cX9_share 21 = .ok (.lstore_n 3, 1) := by decide +kernel
theorem dX9_share_22 : decode cX9_share 22 = .ok (.iinc 5 1, 3) := by decide +kernel
theorem dX9_share_25 : decode cX9_share 25 = .ok (.goto (-20), 3) := by decide +kernel
theorem dX9_share_28 : decode cX9_share 28 = .ok (.lload_n 1, 1) := by decide +kernel
theorem dX9_share_29 : decode cX9_share 29 = .ok (.lload_n 3, 1) := by decide +kernel
theorem dX9_share_30 : decode cX9_share 30 = .ok (.lcmp, 1) := by decide +kernel
theorem dX9_share_31 : decode cX9_share 31 = .ok (.ifCond .lt 40, 3) := by decide +kernel
theorem dX9_share_34 : decode cX9_share 34 = .ok (.iconst 0, 1) := by decide +kernel
theorem dX9_share_35 : decode cX9_share 35 = .ok (.istore 5, 2) := by decide +kernel
theorem dX9_share_37 : decode cX9_share 37 = .ok (.iload 5, 2) := by decide +kernel
theorem dX9_share_39 : decode cX9_share 39 = .ok (.bipush 10, 2) := by decide +kernel
theorem dX9_share_41 : decode cX9_share 41 = .ok (.if_icmp .ge 26, 3) := by decide +kernel
theorem dX9_share_44 : decode cX9_share 44 = .ok (.aload_n 0, 1) := by decide +kernel
theorem dX9_share_45 : decode cX9_share 45 = .ok (.getfield 136, 3) := by decide +kernel
theorem dX9_share_48 : decode cX9_share 48 = .ok (.iload 5, 2) := by decide +kernel
theorem dX9_share_50 : decode cX9_share 50 = .ok (.dup2, 1) := by decide +kernel
theorem dX9_share_51 : decode cX9_share 51 = .ok (.laload, 1) := by decide +kernel
theorem dX9_share_52 : decode cX9_share 52 = .ok (.aload_n 0, 1) := by decide +kernel
theorem dX9_share_53 : decode cX9_share 53 = .ok (.getfield 133, 3) := by decide +kernel
theorem dX9_share_56 : decode cX9_share 56 = .ok (.iload 5, 2) := by decide +kernel
theorem dX9_share_58 : decode cX9_share 58 = .ok (.laload, 1) := by decide +kernel
theorem dX9_share_59 : decode cX9_share 59 = .ok (.ladd, 1) := by decide +kernel
theorem dX9_share_60 : decode cX9_share 60 = .ok (.lastore, 1) := by decide +kernel
theorem dX9_share_61 : decode cX9_share 61 = .ok (.iinc 5 1, 3) := by decide +kernel
theorem dX9_share_64 : decode cX9_share 64 = .ok (.goto (-27), 3) := by decide +kernel
theorem dX9_share_67 : decode cX9_share 67 = .ok (.lload_n 1, 1) := by decide +kernel
theorem dX9_share_68 : decode cX9_share 68 = .ok (.lload_n 3, 1) := by decide +kernel
theorem dX9_share_69 : decode cX9_share 69 = .ok (.lsub, 1) := by decide +kernel
theorem dX9_share_70 : decode cX9_share 70 = .ok (.lreturn, 1) := by decide +kernel
theorem dX9_share_71 : decode cX9_share 71 = .ok (.lload_n 1, 1) := by decide +kernel
theorem dX9_share_72 : decode cX9_share 72 = .ok (.lstore 5, 2) := by decide +kernel
theorem dX9_share_74 : decode cX9_share 74 = .ok (.iconst 0, 1) := by decide +kernel
theorem dX9_share_75 : decode cX9_share 75 = .ok (.istore 7, 2) := by decide +kernel
theorem dX9_share_77 : decode cX9_share 77 = .ok (.iload 7, 2) := by decide +kernel
theorem dX9_share_79 : decode cX9_share 79 = .ok (.bipush 10, 2) := by decide +kernel
theorem dX9_share_81 : decode cX9_share 81 = .ok (.if_icmp .ge 41, 3) := by decide +kernel
theorem dX9_share_84 : decode cX9_share 84 = .ok (.lload_n 1, 1) := by decide +kernel
theorem dX9_share_85 : decode cX9_share 85 = .ok (.aload_n 0, 1) := by decide +kernel
theorem dX9_share_86 : decode cX9_share 86 = .ok (.getfield 133, 3) := by decide +kernel
theorem dX9_share_89 : decode cX9_share 89 = .ok (.iload 7, 2) := by decide +kernel
theorem dX9_share_91 : decode cX9_share 91 = .ok (.laload, 1) := by decide +kernel
theorem dX9_share_92 : decode cX9_share 92 = .ok (.lmul, 1) := by decide +kernel
theorem dX9_share_93 : decode cX9_share 93 = .ok (.lload_n 3, 1) := by decide +kernel
theorem dX9_share_94 : decode cX9_share 94 = .ok (.ldiv, 1) := by decide +kernel
theorem dX9_share_95 : decode cX9_share 95 = .ok (.lstore 8, 2) := by decide +kernel
theorem dX9_share_97 : decode cX9_share 97 = .ok (.aload_n 0, 1) := by decide +kernel
theorem dX9_share_98 : decode cX9_share 98 = .ok (.getfield 136, 3) := by decide +kernel
theorem dX9_share_101 : decode cX9_share 101 = .ok (.iload 7, 2) := by decide +kernel
theorem dX9_share_103 : decode cX9_share 103 = .ok (.dup2, 1) := by decide +kernel
theorem dX9_share_104 : decode cX9_share 104 = .ok (.laload, 1) := by decide +kernel
theorem dX9_share_105 : decode cX9_share 105 = .ok (.lload 8, 2) := by decide +kernel
theorem dX9_share_107 : decode cX9_share 107 = .ok (.ladd, 1) := by decide +kernel
theorem dX9_share_108 : decode cX9_share 108 = .ok (.lastore, 1) := by decide +kernel
theorem dX9_share_109 : decode cX9_share 109 = .ok (.lload 5, 2) := by decide +kernel
theorem dX9_share_111 : decode cX9_share 111 = .ok (.lload 8, 2) := by decide +kernel
theorem dX9_share_113 : decode cX9_share 113 = .ok (.lsub, 1) := by decide +kernel
theorem dX9_share_114 : decode cX9_share 114 = .ok (.lstore 5, 2) := by decide +kernel
theorem dX9_share_116 : decode cX9_share 116 = .ok (.iinc 7 1, 3) := by decide +kernel
theorem dX9_share_119 : decode cX9_share 119 = .ok (.goto (-42), 3) := by decide +kernel
theorem dX9_share_122 : decode cX9_share 122 = .ok (.iconst 0, 1) := by decide +kernel
theorem dX9_share_123 : decode cX9_share 123 = .ok (.istore 7, 2) := by decide +kernel
theorem dX9_share_125 : decode cX9_share 125 = .ok (.iload 7, 2) := by decide +kernel
theorem dX9_share_127 : decode cX9_share 127 = .ok (.bipush 10, 2) := by decide +kernel
theorem dX9_share_129 : decode cX9_share 129 = .ok (.if_icmp .ge 45, 3) := by decide +kernel
theorem dX9_share_132 : decode cX9_share 132 = .ok (.lload 5, 2) := by decide +kernel
theorem dX9_share_134 : decode cX9_share 134 = .ok (.lconst 0, 1) := by decide +kernel
theorem dX9_share_135 : decode cX9_share 135 = .ok (.lcmp, 1) := by decide +kernel
theorem dX9_share_136 : decode cX9_share 136 = .ok (.ifCond .le 38, 3) := by decide +kernel
theorem dX9_share_139 : decode cX9_share 139 = .ok (.aload_n 0, 1) := by decide +kernel
theorem dX9_share_140 : decode cX9_share 140 = .ok (.getfield 133, 3) := by decide +kernel
theorem dX9_share_143 : decode cX9_share 143 = .ok (.iload 7, 2) := by decide +kernel
theorem dX9_share_145 : decode cX9_share 145 = .ok (.laload, 1) := by decide +kernel
theorem dX9_share_146 : decode cX9_share 146 = .ok (.lconst 0, 1) := by decide +kernel
theorem dX9_share_147 : decode cX9_share 147 = .ok (.lcmp, 1) := by decide +kernel
theorem dX9_share_148 : decode cX9_share 148 = .ok (.ifCond .le 20, 3) := by decide +kernel
theorem dX9_share_151 : decode cX9_share 151 = .ok (.aload_n 0, 1) := by decide +kernel
theorem dX9_share_152 : decode cX9_share 152 = .ok (.getfield 136, 3) := by decide +kernel
theorem dX9_share_155 : decode cX9_share 155 = .ok (.iload 7, 2) := by decide +kernel
theorem dX9_share_157 : decode cX9_share 157 = .ok (.dup2, 1) := by decide +kernel
theorem dX9_share_158 : decode cX9_share 158 = .ok (.laload, 1) := by decide +kernel
theorem dX9_share_159 : decode cX9_share 159 = .ok (.lconst 1, 1) := by decide +kernel
theorem dX9_share_160 : decode cX9_share 160 = .ok (.ladd, 1) := by decide +kernel
theorem dX9_share_161 : decode cX9_share 161 = .ok (.lastore, 1) := by decide +kernel
theorem dX9_share_162 : decode cX9_share 162 = .ok (.lload 5, 2) := by decide +kernel
theorem dX9_share_164 : decode cX9_share 164 = .ok (.lconst 1, 1) := by decide +kernel
theorem dX9_share_165 : decode cX9_share 165 = .ok (.lsub, 1) := by decide +kernel
theorem dX9_share_166 : decode cX9_share 166 = .ok (.lstore 5, 2) := by decide +kernel
theorem dX9_share_168 : decode cX9_share 168 = .ok (.iinc 7 1, 3) := by decide +kernel
theorem dX9_share_171 : decode cX9_share 171 = .ok (.goto (-46), 3) := by decide +kernel
theorem dX9_share_174 : decode cX9_share 174 = .ok (.lconst 0, 1) := by decide +kernel
theorem dX9_share_175 : decode cX9_share 175 = .ok (.lreturn, 1) := by decide +kernel
set_option maxRecDepth 20000 in
theorem ggX9_part_X9_isHouse : GoodIn wsX9_part wsX9_isHouse := goodIn_r _ [9, 10, 11, 8, 12] (by decide +kernel) (by decide +kernel)
set_option maxRecDepth 20000 in
theorem gX9_part_X9_isHouse : GoodIn wsX9_part (va_wsS RX9 171 yX9_isHouse wsX9_isHouse) := goodIn_app (goodIn_of _ (by decide +kernel)) ggX9_part_X9_isHouse
set_option maxRecDepth 20000 in
theorem ggX9_part_X9_in : GoodIn wsX9_part wsX9_in := goodIn_r _ [12] (by decide +kernel) (by decide +kernel)
set_option maxRecDepth 20000 in
theorem gX9_part_X9_in : GoodIn wsX9_part (va_wsS RX9 141 yX9_in wsX9_in) := goodIn_app (goodIn_of _ (by decide +kernel)) ggX9_part_X9_in
set_option maxRecDepth 20000 in
theorem ggX9_part_X9_finding : GoodIn wsX9_part wsX9_finding := goodIn_r _ [16, 17, 18, 38, 39, 40, 41, 42, 43, 44, 45, 46, 47, 48, 49, 50, 51, 52, 53, 54, 55, 56, 57, 58, 59, 60, 61, 62, 63, 64, 65, 66, 67, 68, 69, 70, 71, 72, 73, 74, 75, 76, 77, 78, 79, 80, 81, 82, 83, 84, 85, 86, 87, 88, 89, 90, 91, 92] (by decide +kernel) (by decide +kernel)
set_option maxRecDepth 20000 in
theorem gX9_part_X9_finding : GoodIn wsX9_part (wsV RX9 154 RX9 yX9_finding wsX9_finding) := goodIn_app (goodIn_of _ (by decide +kernel)) ggX9_part_X9_finding
set_option maxRecDepth 20000 in
theorem ggX9_part_X9_pledged : GoodIn wsX9_part wsX9_pledged := goodIn_r _ [22, 23, 24, 25, 26, 27, 28, 29, 5, 30, 31, 32, 33, 38, 39, 40, 41, 42, 43, 44, 45, 46, 47, 48, 49, 50, 51, 52, 53, 54, 55, 56, 57, 58, 59, 60, 61, 62, 63, 64, 65, 66, 67, 68, 69, 70, 71, 72, 73, 74, 75, 76, 77, 78, 79, 80, 81, 82, 83, 84, 85, 86, 87, 88, 89, 90, 91, 92] (by decide +kernel) (by decide +kernel)
set_option maxRecDepth 20000 in
theorem gX9_part_X9_pledged : GoodIn wsX9_part (wsV RX9 355 RX9 yX9_pledged wsX9_pledged) := goodIn_app (goodIn_of _ (by decide +kernel)) ggX9_part_X9_pledged
set_option maxRecDepth 20000 in
theorem ggX9_part_X9_share : GoodIn wsX9_part wsX9_share := goodIn_r _ [37, 4, 3, 38, 39, 40, 41, 42, 43, 44, 45, 46, 47, 48, 49, 50, 51, 52, 53, 54, 55, 56, 57, 58, 59, 60, 61, 62, 63, 64, 65, 66, 67, 68, 69, 70, 71, 72, 73, 74, 75, 76, 77, 78, 79, 80, 81, 82, 83, 84, 85, 86, 87, 88, 89, 90, 91, 92] (by decide +kernel) (by decide +kernel)
set_option maxRecDepth 20000 in
theorem gX9_part_X9_share : GoodIn wsX9_part (wsV RX9 358 RX9 yX9_share wsX9_share) := goodIn_app (goodIn_of _ (by decide +kernel)) ggX9_part_X9_share
theorem dX9_part_0 : decode cX9_part 0 = .ok (.iload_n 1, 1) := by decide +kernel
theorem dX9_part_1 : decode cX9_part 1 = .ok (.invokestatic 171, 3) := by decide +kernel
theorem dX9_part_4 : decode cX9_part 4 = .ok (.ifCond .eq 26, 3) := by decide +kernel
theorem dX9_part_7 : decode cX9_part 7 = .ok (.iload_n 3, 1) := by decide +kernel
theorem dX9_part_8 : decode cX9_part 8 = .ok (.invokestatic 171, 3) := by decide +kernel
theorem dX9_part_11 : decode cX9_part 11 = .ok (.ifCond .eq 19, 3) := by decide +kernel
theorem dX9_part_14 : decode cX9_part 14 = .ok (.iload_n 1, 1) := by decide +kernel
theorem dX9_part_15 : decode cX9_part 15 = .ok (.iload_n 3, 1) := by decide +kernel
theorem dX9_part_16 : decode cX9_part 16 = .ok (.if_icmp .eq 14, 3) := by decide +kernel
theorem dX9_part_19 : decode cX9_part 19 = .ok (.iload_n 2, 1) := by decide +kernel
theorem dX9_part_20 : decode cX9_part 20 = .ok (.iconst 0, 1) := by decide +kernel
theorem dX9_part_21 : decode cX9_part 21 = .ok (.ldc_w 354, 3) := by decide +kernel
theorem dX9_part_24 : decode cX9_part 24 = .ok (.invokestatic 141, 3) := by decide +kernel
theorem dX9_part_27 : decode cX9_part 27 = .ok (.ifCond .ne 11, 3) := by decide +kernel
theorem dX9_part_30 : decode cX9_part 30 = .ok (.aload_n 0, 1) := by decide +kernel
theorem dX9_part_31 : decode cX9_part 31 = .ok (.ldc2_w 152, 3) := by decide +kernel
theorem dX9_part_34 : decode cX9_part 34 = .ok (.invokevirtual 154, 3) := by decide +kernel
theorem dX9_part_37 : decode cX9_part 37 = .ok (.lreturn, 1) := by decide +kernel
theorem dX9_part_38 : decode cX9_part 38 = .ok (.iconst 0, 1) := by decide +kernel
theorem dX9_part_39 : decode cX9_part 39 = .ok (.istore 4, 2) := by decide +kernel
theorem dX9_part_41 : decode cX9_part 41 = .ok (.iload 4, 2) := by decide +kernel
theorem dX9_part_43 : decode cX9_part 43 = .ok (.bipush 10, 2) := by decide +kernel
theorem dX9_part_45 : decode cX9_part 45 = .ok (.if_icmp .ge 31, 3) := by decide +kernel
theorem dX9_part_48 : decode cX9_part 48 = .ok (.aload_n 0, 1) := by decide +kernel
theorem dX9_part_49 : decode cX9_part 49 = .ok (.getfield 136, 3) := by decide +kernel
theorem dX9_part_52 : decode cX9_part 52 = .ok (.iload 4, 2) := by decide +kernel
theorem dX9_part_54 : decode cX9_part 54 = .ok (.lconst 0, 1) := by decide +kernel
theorem dX9_part_55 : decode cX9_part 55 = .ok (.lastore, 1) := by decide +kernel
theorem dX9_part_56 : decode cX9_part 56 = .ok (.aload_n 0, 1) := by decide +kernel
theorem dX9_part_57 : decode cX9_part 57 = .ok (.getfield 133, 3) := by decide +kernel
theorem dX9_part_60 : decode cX9_part 60 = .ok (.iload 4, 2) := by decide +kernel
theorem dX9_part_62 : decode cX9_part 62 = .ok (.aload_n 0, 1) := by decide +kernel
theorem dX9_part_63 : decode cX9_part 63 = .ok (.iload_n 1, 1) := by decide +kernel
theorem dX9_part_64 : decode cX9_part 64 = .ok (.iload 4, 2) := by decide +kernel
theorem dX9_part_66 : decode cX9_part 66 = .ok (.invokevirtual 355, 3) := by decide +kernel
theorem dX9_part_69 : decode cX9_part 69 = .ok (.lastore, 1) := by decide +kernel
theorem dX9_part_70 : decode cX9_part 70 = .ok (.iinc 4 1, 3) := by decide +kernel
theorem dX9_part_73 : decode cX9_part 73 = .ok (.goto (-32), 3) := by decide +kernel
theorem dX9_part_76 : decode cX9_part 76 = .ok (.aload_n 0, 1) := by decide +kernel
theorem dX9_part_77 : decode cX9_part 77 = .ok (.iload_n 2, 1) := by decide +kernel
theorem dX9_part_78 : decode cX9_part 78 = .ok (.i2l, 1) := by decide +kernel
theorem dX9_part_79 : decode cX9_part 79 = .ok (.invokevirtual 358, 3) := by decide +kernel
theorem dX9_part_82 : decode cX9_part 82 = .ok (.lstore 4, 2) := by decide +kernel
theorem dX9_part_84 : decode cX9_part 84 = .ok (.iconst 0, 1) := by decide +kernel
theorem dX9_part_85 : decode cX9_part 85 = .ok (.istore 6, 2) := by decide +kernel
theorem dX9_part_87 : decode cX9_part 87 = .ok (.iload 6, 2) := by decide +kernel
theorem dX9_part_89 : decode cX9_part 89 = .ok (.bipush 10, 2) := by decide +kernel
theorem dX9_part_91 : decode cX9_part 91 = .ok (.if_icmp .ge 36, 3) := by decide +kernel
theorem dX9_part_94 : decode cX9_part 94 = .ok (.aload_n 0, 1) := by decide +kernel
theorem dX9_part_95 : decode cX9_part 95 = .ok (.getfield 133, 3) := by decide +kernel
theorem dX9_part_98 : decode cX9_part 98 = .ok (.iload 6, 2) := by decide +kernel
theorem dX9_part_100 : decode cX9_part 100 = .ok (.aload_n 0, 1) := by decide +kernel
theorem dX9_part_101 : decode cX9_part 101 = .ok (.getfield 52, 3) := by decide +kernel
theorem dX9_part_104 : decode cX9_part 104 = .ok (.bipush 10, 2) := by decide +kernel
theorem dX9_part_106 : decode cX9_part 106 = .ok (.iload_n 1, 1) := by decide +kernel
theorem dX9_part_107 : decode cX9_part 107 = .ok (.imul, 1) := by decide +kernel
theorem dX9_part_108 : decode cX9_part 108 = .ok (.iload 6, 2) := by decide +kernel
theorem dX9_part_110 : decode cX9_part 110 = .ok (.iadd, 1) := by decide +kernel
theorem dX9_part_111 : decode cX9_part 111 = .ok (.laload, 1) := by decide +kernel
theorem dX9_part_112 : decode cX9_part 112 = .ok (.aload_n 0, 1) := by decide +kernel
theorem dX9_part_113 : decode cX9_part 113 = .ok (.iload_n 1, 1) := by decide +kernel
theorem dX9_part_114 : decode cX9_part 114 = .ok (.iload 6, 2) := by decide +kernel
theorem dX9_part_116 : decode cX9_part 116 = .ok (.invokevirtual 355, 3) := by decide +kernel
theorem dX9_part_119 : decode cX9_part 119 = .ok (.lsub, 1) := by decide +kernel
theorem dX9_part_120 : decode cX9_part 120 = .ok (.lastore, 1) := by decide +kernel
theorem dX9_part_121 : decode cX9_part 121 = .ok (.iinc 6 1, 3) := by decide +kernel
theorem dX9_part_124 : decode cX9_part 124 = .ok (.goto (-37), 3) := by decide +kernel
theorem dX9_part_127 : decode cX9_part 127 = .ok (.aload_n 0, 1) := by decide +kernel
theorem dX9_part_128 : decode cX9_part 128 = .ok (.lload 4, 2) := by decide +kernel
theorem dX9_part_130 : decode cX9_part 130 = .ok (.invokevirtual 358, 3) := by decide +kernel
theorem dX9_part_133 : decode cX9_part 133 = .ok (.lstore 4, 2) := by decide +kernel
theorem dX9_part_135 : decode cX9_part 135 = .ok (.aload_n 0, 1) := by decide +kernel
theorem dX9_part_136 : decode cX9_part 136 = .ok (.getfield 136, 3) := by decide +kernel
theorem dX9_part_139 : decode cX9_part 139 = .ok (.iload_n 3, 1) := by decide +kernel
theorem dX9_part_140 : decode cX9_part 140 = .ok (.laload, 1) := by decide +kernel
theorem dX9_part_141 : decode cX9_part 141 = .ok (.lreturn, 1) := by decide +kernel
set_option maxRecDepth 20000 in
theorem ggX9_tell_X9_finding : GoodIn wsX9_tell wsX9_finding := goodIn_r _ [8, 9, 10, 11, 12, 13, 14, 15, 16, 17, 18, 19, 20, 21, 22, 23, 24, 25, 26, 27, 28, 29, 30, 31, 32, 33, 34, 35, 36, 37, 38, 39, 40, 41, 42, 43, 44, 45, 46, 47, 48, 49, 50, 51, 52, 53, 54, 55, 56, 57, 58, 59, 60, 61, 62, 63, 64, 65] (by decide +kernel) (by decide +kernel)
set_option maxRecDepth 20000 in
theorem gX9_tell_X9_finding : GoodIn wsX9_tell (wsV RX9 154 RX9 yX9_finding wsX9_finding) := goodIn_app (goodIn_of _ (by decide +kernel)) ggX9_tell_X9_finding
theorem dX9_tell_0 : decode cX9_tell 0 = .ok (.aload_n 0, 1) := by decide +kernel
theorem dX9_tell_1 : decode cX9_tell 1 = .ok (.getfield 361, 3) := by decide +kernel
theorem dX9_tell_4 : decode cX9_tell 4 = .ok (.bipush 30, 2) := by decide +kernel
theorem dX9_tell_6 : decode cX9_tell 6 = .ok (.if_icmp .ne 11, 3) := by decide +kernel
theorem dX9_tell_9 : decode cX9_tell 9 = .ok (.aload_n 0, 1) := by decide +kernel
theorem dX9_tell_10 : decode cX9_tell 10 = .ok (.ldc2_w 169, 3) := by decide +kernel
theorem dX9_tell_13 : decode cX9_tell 13 = .ok (.invokevirtual 154, 3) := by decide +kernel
theorem dX9_tell_16 : decode cX9_tell 16 = .ok (.lreturn, 1) := by decide +kernel
theorem dX9_tell_17 : decode cX9_tell 17 = .ok (.aload_n 0, 1) := by decide +kernel
theorem dX9_tell_18 : decode cX9_tell 18 = .ok (.getfield 67, 3) := by decide +kernel
theorem dX9_tell_21 : decode cX9_tell 21 = .ok (.aload_n 0, 1) := by decide +kernel
theorem dX9_tell_22 : decode cX9_tell 22 = .ok (.getfield 361, 3) := by decide +kernel
theorem dX9_tell_25 : decode cX9_tell 25 = .ok (.iload_n 1, 1) := by decide +kernel
theorem dX9_tell_26 : decode cX9_tell 26 = .ok (.iastore, 1) := by decide +kernel
theorem dX9_tell_27 : decode cX9_tell 27 = .ok (.aload_n 0, 1) := by decide +kernel
theorem dX9_tell_28 : decode cX9_tell 28 = .ok (.dup, 1) := by decide +kernel
theorem dX9_tell_29 : decode cX9_tell 29 = .ok (.getfield 361, 3) := by decide +kernel
theorem dX9_tell_32 : decode cX9_tell 32 = .ok (.iconst 1, 1) := by decide +kernel
theorem dX9_tell_33 : decode cX9_tell 33 = .ok (.iadd, 1) := by decide +kernel
theorem dX9_tell_34 : decode cX9_tell 34 = .ok (.putfield 361, 3) := by decide +kernel
theorem dX9_tell_37 : decode cX9_tell 37 = .ok (.aload_n 0, 1) := by decide +kernel
theorem dX9_tell_38 : decode cX9_tell 38 = .ok (.getfield 361, 3) := by decide +kernel
theorem dX9_tell_41 : decode cX9_tell 41 = .ok (.i2l, 1) := by decide +kernel
theorem dX9_tell_42 : decode cX9_tell 42 = .ok (.lreturn, 1) := by decide +kernel
set_option maxRecDepth 20000 in
theorem ggX9_check_X9_findPlan : GoodIn wsX9_check wsX9_findPlan := goodIn_r _ [9, 10, 11, 2, 12, 13, 14, 15, 16, 17, 8, 18, 19, 20, 21, 22, 23, 24, 25, 26, 27, 28, 29, 30, 31, 32, 33, 34, 35, 36, 37, 38, 43, 44, 45, 46, 47, 48, 49, 50, 51, 52, 53, 54, 55, 56, 57, 58, 59, 60, 61, 62, 63, 64, 65, 66, 67, 68, 69, 70, 71, 72, 73, 74, 75, 76, 77, 78, 79, 80, 81, 82, 83, 84, 85, 86, 87, 88, 89, 90, 91, 92, 93, 94, 95, 96, 97] (by decide +kernel) (by decide +kernel)
set_option maxRecDepth 20000 in
theorem gX9_check_X9_findPlan : GoodIn wsX9_check (wsV RX9 323 RX9 yX9_findPlan wsX9_findPlan) := goodIn_app (goodIn_of _ (by decide +kernel)) ggX9_check_X9_findPlan
set_option maxRecDepth 20000 in
theorem ggX9_check_X9_paymentOf : GoodIn wsX9_check wsX9_paymentOf := goodIn_r _ [42, 32, 33, 34, 43, 44, 45, 46, 47, 48, 49, 50, 51, 52, 53, 54, 55, 56, 57, 58, 59, 60, 61, 62, 63, 64, 65, 66, 67, 68, 69, 70, 71, 72, 73, 74, 75, 76, 77, 78, 79, 80, 81, 82, 83, 84, 85, 86, 87, 88, 89, 90, 91, 92, 93, 94, 95, 96, 97] (by decide +kernel) (by decide +kernel)
set_option maxRecDepth 20000 in
theorem gX9_check_X9_paymentOf : GoodIn wsX9_check (wsV RX9 326 RX9 yX9_paymentOf wsX9_paymentOf) := goodIn_app (goodIn_of _ (by decide +kernel)) ggX9_check_X9_paymentOf
theorem dX9_check_0 : decode cX9_check 0 = .ok (.aload_n 0, 1) := by decide +kernel
theorem dX9_check_1 : decode cX9_check 1 = .ok (.getfield 361, 3) := by decide +kernel
theorem dX9_check_4 : decode cX9_check 4 = .ok (.istore_n 1, 1) := by decide +kernel
theorem dX9_check_5 : decode cX9_check 5 = .ok (.aload_n 0, 1) := by decide +kernel
theorem dX9_check_6 : decode cX9_check 6 = .ok (.iconst 0, 1) := by decide +kernel
theorem dX9_check_7 : decode cX9_check 7 = .ok (.putfield 361, 3) := by decide +kernel
theorem dX9_check_10 : decode cX9_check 10 = .ok (.aload_n 0, 1) := by decide +kernel
theorem dX9_check_11 : decode cX9_check 11 = .ok (.invokevirtual 323, 3) := by decide +kernel
theorem dX9_check_14 : decode cX9_check 14 = .ok (.iconst 0, 1) := by decide +kernel
theorem dX9_check_15 : decode cX9_check 15 = .ok (.istore_n 2, 1) := by decide +kernel
theorem dX9_check_16 : decode cX9_check 16 = .ok (.iload_n 2, 1) := by decide +kernel
theorem dX9_check_17 : decode cX9_check 17 = .ok (.aload_n 0, 1) := by decide +kernel
theorem dX9_check_18 : decode cX9_check 18 = .ok (.getfield 306, 3) := by decide +kernel
theorem dX9_check_21 : decode cX9_check 21 = .ok (.if_icmp .ge 57, 3) := by decide +kernel
theorem dX9_check_24 : decode cX9_check 24 = .ok (.iconst 0, 1) := by decide +kernel
theorem dX9_check_25 : decode cX9_check 25 = .ok (.istore_n 3, 1) := by decide +kernel
theorem dX9_check_26 : decode cX9_check 26 = .ok (.iload_n 3, 1) := by decide +kernel
theorem dX9_check_27 : decode cX9_check 27 = .ok (.iconst 3, 1) := by decide +kernel
theorem dX9_check_28 : decode cX9_check 28 = .ok (.if_icmp .ge 44, 3) := by decide +kernel
theorem dX9_check_31 : decode cX9_check 31 = .ok (.iconst 3, 1) := by decide +kernel
theorem dX9_check_32 : decode cX9_check 32 = .ok (.iload_n 2, 1) := by decide +kernel
theorem dX9_check_33 : decode cX9_check 33 = .ok (.imul, 1) := by decide +kernel
theorem dX9_check_34 : decode cX9_check 34 = .ok (.iload_n 3, 1) := by decide +kernel
theorem dX9_check_35 : decode cX9_check 35 = .ok (.iadd, 1) := by decide +kernel
theorem dX9_check_36 : decode cX9_check 36 = .ok (.iload_n 1, 1) := by decide +kernel
theorem dX9_check_37 : decode cX9_check 37 = .ok (.if_icmp .ge 24, 3) := by decide +kernel
theorem dX9_check_40 : decode cX9_check 40 = .ok (.aload_n 0, 1) := by decide +kernel
theorem dX9_check_41 : decode cX9_check 41 = .ok (.getfield 67, 3) := by decide +kernel
theorem dX9_check_44 : decode cX9_check 44 = .ok (.iconst 3, 1) := by decide +kernel
theorem dX9_check_45 : decode cX9_check 45 = .ok (.iload_n 2, 1) := by decide +kernel
theorem dX9_check_46 : decode cX9_check 46 = .ok (.imul, 1) := by decide +kernel
theorem dX9_check_47 : decode cX9_check 47 = .ok (.iload_n 3, 1) := by decide +kernel
theorem dX9_check_48 : decode cX9_check 48 = .ok (.iadd, 1) := by decide +kernel
theorem dX9_check_49 : decode cX9_check 49 = .ok (.iaload, 1) := by decide +kernel
theorem dX9_check_50 : decode cX9_check 50 = .ok (.i2l, 1) := by decide +kernel
theorem dX9_check_51 : decode cX9_check 51 = .ok (.aload_n 0, 1) := by decide +kernel
theorem dX9_check_52 : decode cX9_check 52 = .ok (.iload_n 2, 1) := by decide +kernel
theorem dX9_check_53 : decode cX9_check 53 = .ok (.iload_n 3, 1) := by decide +kernel
theorem dX9_check_54 : decode cX9_check 54 = .ok (.invokevirtual 326, 3) := by decide +kernel
theorem dX9_check_57 : decode cX9_check 57 = .ok (.lcmp, 1) := by decide +kernel
theorem dX9_check_58 : decode cX9_check 58 = .ok (.ifCond .eq 8, 3) := by decide +kernel
theorem dX9_check_61 : decode cX9_check 61 = .ok (.iconst 1, 1) := by decide +kernel
theorem dX9_check_62 : decode cX9_check 62 = .ok (.iload_n 2, 1) := by decide +kernel
theorem dX9_check_63 : decode cX9_check 63 = .ok (.iadd, 1) := by decide +kernel
theorem dX9_check_64 : decode cX9_check 64 = .ok (.i2l, 1) := by decide +kernel
theorem dX9_check_65 : decode cX9_check 65 = .ok (.lreturn, 1) := by decide +kernel
theorem dX9_check_66 : decode cX9_check 66 = .ok (.iinc 3 1, 3) := by decide +kernel
theorem dX9_check_69 : decode cX9_check 69 = .ok (.goto (-43), 3) := by decide +kernel
theorem dX9_check_72 : decode cX9_check 72 = .ok (.iinc 2 1, 3) := by decide +kernel
theorem dX9_check_75 : decode cX9_check 75 = .ok (.goto (-59), 3) := by decide +kernel
theorem dX9_check_78 : decode cX9_check 78 = .ok (.iload_n 1, 1) := by decide +kernel
theorem dX9_check_79 : decode cX9_check 79 = .ok (.iconst 3, 1) := by decide +kernel
theorem dX9_check_80 : decode cX9_check 80 = .ok (.aload_n 0, 1) := by decide +kernel
theorem dX9_check_81 : decode cX9_check 81 = .ok (.getfield 306, 3) := by decide +kernel
theorem dX9_check_84 : decode cX9_check 84 = .ok (.imul, 1) := by decide +kernel
theorem dX9_check_85 : decode cX9_check 85 = .ok (.if_icmp .le 9, 3) := by decide +kernel
theorem dX9_check_88 : decode cX9_check 88 = .ok (.ldc2_w 364, 3) := by decide +kernel
theorem dX9_check_91 : decode cX9_check 91 = .ok (.goto 4, 3) := by decide +kernel
theorem dX9_check_94 : decode cX9_check 94 = .ok (.lconst 0, 1) := by decide +kernel
theorem dX9_check_95 : decode cX9_check 95 = .ok (.lreturn, 1) := by decide +kernel
set_option maxRecDepth 20000 in
theorem ggX9_count_X9_owedInAll : GoodIn wsX9_count wsX9_owedInAll := goodIn_r _ [11, 12, 19, 20, 21, 22, 23, 24, 25, 26, 27, 28, 29, 30, 31, 32, 33, 34, 35, 36, 37, 38, 39, 40, 41, 42, 43, 44, 45, 46, 47, 48, 49, 50, 51, 52, 53, 54, 55, 56, 57, 58, 59, 60, 61, 62, 63, 64, 65, 66, 67, 68, 69, 70, 71, 72, 73] (by decide +kernel) (by decide +kernel)
set_option maxRecDepth 20000 in
theorem gX9_count_X9_owedInAll : GoodIn wsX9_count (wsV RX9 330 RX9 yX9_owedInAll wsX9_owedInAll) := goodIn_app (goodIn_of _ (by decide +kernel)) ggX9_count_X9_owedInAll
set_option maxRecDepth 20000 in
theorem ggX9_count_X9_finding : GoodIn wsX9_count wsX9_finding := goodIn_r _ [16, 17, 18, 19, 20, 21, 22, 23, 24, 25, 26, 27, 28, 29, 30, 31, 32, 33, 34, 35, 36, 37, 38, 39, 40, 41, 42, 43, 44, 45, 46, 47, 48, 49, 50, 51, 52, 53, 54, 55, 56, 57, 58, 59, 60, 61, 62, 63, 64, 65, 66, 67, 68, 69, 70, 71, 72, 73] (by decide +kernel) (by decide +kernel)
set_option maxRecDepth 20000 in
theorem gX9_count_X9_finding : GoodIn wsX9_count (wsV RX9 154 RX9 yX9_finding wsX9_finding) := goodIn_app (goodIn_of _ (by decide +kernel)) ggX9_count_X9_finding
theorem dX9_count_0 : decode cX9_count 0 = .ok (.iload_n 1, 1) := by decide +kernel
theorem dX9_count_1 : decode cX9_count 1 = .ok (.tableswitch 73 0 5 #[39, 44, 50, 56, 61, 67], 39) := by decide +kernel
theorem dX9_count_40 : decode cX9_count 40 = .ok (.aload_n 0, 1) := by decide +kernel
theorem dX9_count_41 : decode cX9_count 41 = .ok (.getfield 158, 3) := by decide +kernel
theorem dX9_count_44 : decode cX9_count 44 = .ok (.lreturn, 1) := by decide +kernel
theorem dX9_count_45 : decode cX9_count 45 = .ok (.aload_n 0, 1) := by decide +kernel
theorem dX9_count_46 : decode cX9_count 46 = .ok (.getfield 145, 3) := by decide +kernel
theorem dX9_count_49 : decode cX9_count 49 = .ok (.i2l, 1) := by decide +kernel
theorem dX9_count_50 : decode cX9_count 50 = .ok (.lreturn, 1) := by decide +kernel
theorem dX9_count_51 : decode cX9_count 51 = .ok (.aload_n 0, 1) := by decide +kernel
theorem dX9_count_52 : decode cX9_count 52 = .ok (.getfield 292, 3) := by decide +kernel
theorem dX9_count_55 : decode cX9_count 55 = .ok (.i2l, 1) := by decide +kernel
theorem dX9_count_56 : decode cX9_count 56 = .ok (.lreturn, 1) := by decide +kernel
theorem dX9_count_57 : decode cX9_count 57 = .ok (.aload_n 0, 1) := by decide +kernel
theorem dX9_count_58 : decode cX9_count 58 = .ok (.invokevirtual 330, 3) := by decide +kernel
theorem dX9_count_61 : decode cX9_count 61 = .ok (.lreturn, 1) := by decide +kernel
theorem dX9_count_62 : decode cX9_count 62 = .ok (.aload_n 0, 1) := by decide +kernel
theorem dX9_count_63 : decode cX9_count 63 = .ok (.getfield 361, 3) := by decide +kernel
theorem dX9_count_66 : decode cX9_count 66 = .ok (.i2l, 1) := by decide +kernel
theorem dX9_count_67 : decode cX9_count 67 = .ok (.lreturn, 1) := by decide +kernel
theorem dX9_count_68 : decode cX9_count 68 = .ok (.aload_n 0, 1) := by decide +kernel
theorem dX9_count_69 : decode cX9_count 69 = .ok (.getfield 217, 3) := by decide +kernel
theorem dX9_count_72 : decode cX9_count 72 = .ok (.i2l, 1) := by decide +kernel
theorem dX9_count_73 : decode cX9_count 73 = .ok (.lreturn, 1) := by decide +kernel
theorem dX9_count_74 : decode cX9_count 74 = .ok (.aload_n 0, 1) := by decide +kernel
theorem dX9_count_75 : decode cX9_count 75 = .ok (.ldc2_w 152, 3) := by decide +kernel
theorem dX9_count_78 : decode cX9_count 78 = .ok (.invokevirtual 154, 3) := by decide +kernel
theorem dX9_count_81 : decode cX9_count 81 = .ok (.lreturn, 1) := by decide +kernel
set_option maxRecDepth 20000 in
theorem ggX9_found_X9_in : GoodIn wsX9_found wsX9_in := goodIn_r _ [6] (by decide +kernel) (by decide +kernel)
set_option maxRecDepth 20000 in
theorem gX9_found_X9_in : GoodIn wsX9_found (va_wsS RX9 141 yX9_in wsX9_in) := goodIn_app (goodIn_of _ (by decide +kernel)) ggX9_found_X9_in
set_option maxRecDepth 20000 in
theorem ggX9_found_X9_finding : GoodIn wsX9_found wsX9_finding := goodIn_r _ [10, 1, 11, 12, 13, 14, 15, 16, 17, 18, 19, 20, 21, 22, 23, 24, 25, 26, 27, 28, 29, 30, 31, 32, 33, 34, 35, 36, 37, 38, 39, 40, 41, 42, 43, 44, 45, 46, 47, 48, 49, 50, 51, 52, 53, 54, 55, 56, 57, 58, 59, 60, 61, 62, 63, 64, 65, 66] (by decide +kernel) (by decide +kernel)
set_option maxRecDepth 20000 in
theorem gX9_found_X9_finding : GoodIn wsX9_found (wsV RX9 154 RX9 yX9_finding wsX9_finding) := goodIn_app (goodIn_of _ (by decide +kernel)) ggX9_found_X9_finding
theorem dX9_found_0 : decode cX9_found 0 = .ok (.iload_n 1, 1) := by decide +kernel
theorem dX9_found_1 : decode cX9_found 1 = .ok (.iconst 1, 1) := by decide +kernel
theorem dX9_found_2 : decode cX9_found 2 = .ok (.bipush 7, 2) := by decide +kernel
theorem dX9_found_4 : decode cX9_found 4 = .ok (.invokestatic 141, 3) := by decide +kernel
theorem dX9_found_7 : decode cX9_found 7 = .ok (.ifCond .eq 12, 3) := by decide +kernel
theorem dX9_found_10 : decode cX9_found 10 = .ok (.aload_n 0, 1) := by decide +kernel
theorem dX9_found_11 : decode cX9_found 11 = .ok (.getfield 70, 3) := by decide +kernel
theorem dX9_found_14 : decode cX9_found 14 = .ok (.iload_n 1, 1) := by decide +kernel
theorem dX9_found_15 : decode cX9_found 15 = .ok (.laload, 1) := by decide +kernel
theorem dX9_found_16 : decode cX9_found 16 = .ok (.goto 10, 3) := by decide +kernel
theorem dX9_found_19 : decode cX9_found 19 = .ok (.aload_n 0, 1) := by decide +kernel
theorem dX9_found_20 : decode cX9_found 20 = .ok (.ldc2_w 152, 3) := by decide +kernel
theorem dX9_found_23 : decode cX9_found 23 = .ok (.invokevirtual 154, 3) := by decide +kernel
theorem dX9_found_26 : decode cX9_found 26 = .ok (.lreturn, 1) := by decide +kernel
end
section
section GLOOP
variable {Γ : gT} {R : Room} {cc : ByteArray} {own : String} {Ts : List Cond} {nL : Nat} {D : va_G} {cl : List vw_C} {tys : List (ClassId × FieldType)} {mc ms : Nat} {post : Option Value → va_W → Prop} {k n : Nat} {ws : va_W} {pc : Nat} {lv : List (Nat × Value)} {st : List Value}
theorem g_to (ws2 : va_W) (lv2 : List (Nat × Value)) (h : G Γ R cc own Ts nL D cl tys mc ms post k n ws2 pc lv2 st) (hw : ws = ws2) (hlv : gSub lv lv2) : G Γ R cc own Ts nL D cl tys mc ms post k n ws pc lv st := by
  subst hw
  exact g_nrm lv2 hlv h
theorem g_whl {σ : Type} (μ : σ → Nat) (I : σ → Prop) (Wf : σ → va_W) (L : σ → List (Nat × Value)) (s0 : σ) (h0 : I s0) (hw : ws = Wf s0) (hlv : gSub lv (L s0)) (hs : ∀ x, I x → (∀ y, I y → μ y < μ x → G Γ R cc own Ts nL D cl tys mc ms post k n (Wf y) pc (L y) st) → G Γ R cc own Ts nL D cl tys mc ms post k n (Wf x) pc (L x) st) : G Γ R cc own Ts nL D cl tys mc ms post k n ws pc lv st := by
  have key : ∀ (b : Nat) (x : σ), μ x < b → I x → G Γ R cc own Ts nL D cl tys mc ms post k n (Wf x) pc (L x) st := by
    intro b
    induction b with
    | zero => intro x h _; exact absurd h (Nat.not_lt_zero _)
    | succ b ih => intro x h hx; exact hs x hx (fun y hy hlt => ih y (by omega) hy)
  exact g_to (Wf s0) (L s0) (key (μ s0 + 1) s0 (Nat.lt_succ_self _) h0) hw hlv
theorem g_cnt (N : Nat) (I : Nat → Prop) (Wf : Nat → va_W) (L : Nat → List (Nat × Value)) (i0 : Nat) (hi0 : i0 ≤ N) (h0 : I i0) (hw : ws = Wf i0) (hlv : gSub lv (L i0)) (hx : I N → G Γ R cc own Ts nL D cl tys mc ms post k n (Wf N) pc (L N) st) (hs : ∀ i, i < N → I i → (I (i + 1) → G Γ R cc own Ts nL D cl tys mc ms post k n (Wf (i + 1)) pc (L (i + 1)) st) → G Γ R cc own Ts nL D cl tys mc ms post k n (Wf i) pc (L i) st) : G Γ R cc own Ts nL D cl tys mc ms post k n ws pc lv st := by
  have key : ∀ (j i : Nat), i + j = N → I i → G Γ R cc own Ts nL D cl tys mc ms post k n (Wf i) pc (L i) st := by
    intro j
    induction j with
    | zero => intro i h hi; have e : i = N := by omega
              subst e; exact hx hi
    | succ j ih => intro i h hi; exact hs i (by omega) hi (fun h2 => ih (i + 1) (by omega) h2)
  exact g_to (Wf i0) (L i0) (key (N - i0) i0 (by omega) h0) hw hlv
theorem g_seq (h : G Γ R cc own Ts nL D cl tys mc ms post k n ws pc lv st) : G Γ R cc own Ts nL D cl tys mc ms post k n ws pc lv st := h
theorem g_mmin {x y : Int32} {ix : Nat} (hlink : Cond.methodLink own ix Lib.Math.min.name ∈ Ts) (hstat : Cond.static Lib.Math.min.name ∈ Ts) (hini : Cond.initialized "java/lang/Math" ∈ Ts) (hcode : Cond.code Lib.Math.min.name Lib.Math.min.code 2 (some .int) ∈ Ts) (hfr : 1 ≤ R.frames) (hlo : (st.map fun v => v.category).sum + 13 ≤ R.locals) (hc : k ≤ R.cells) (hs2 : n ≤ R.slots) (hd : decode cc pc = .ok (.invokestatic ix, 3)) (kk : G Γ R cc own Ts nL D cl tys mc ms post k n ws (pc + 3) lv (.int (if y < x then y else x) :: st)) : G Γ R cc own Ts nL D cl tys mc ms post k n ws pc lv (.int y :: .int x :: st) := by
  intro hok H locs ls hS hl
  have h9 := kk hok H locs ls hS hl
  obtain ⟨p, l, e, s, m, args, below, meth, c, Q, A, H0⟩ := Γ
  obtain ⟨hx, hb, hml, hown, hts, hK, hA, hin, hret⟩ := hok
  exact va_mmin hx hb (hml.trans hl.1.symm) hown (hts _ hlink) (hts _ hstat) (hts _ hini) (hts _ hcode) hfr hlo hc hs2 hd h9
theorem g_mminL {x y : Int64} {ix : Nat} (hlink : Cond.methodLink own ix Lib.MathLoose.min_long.x ∈ Ts) (hstat : Cond.static Lib.MathLoose.min_long.x ∈ Ts) (hini : Cond.initialized "java/lang/Math" ∈ Ts) (hcode : Cond.code Lib.MathLoose.min_long.x Lib.MathLoose.min_long.code 4 (some .long) ∈ Ts) (hfr : 1 ≤ R.frames) (hlo : (st.map fun v => v.category).sum + 15 ≤ R.locals) (hc : k ≤ R.cells) (hs2 : n ≤ R.slots) (hd : decode cc pc = .ok (.invokestatic ix, 3)) (kk : G Γ R cc own Ts nL D cl tys mc ms post k n ws (pc + 3) lv (.long (if y < x then y else x) :: st)) : G Γ R cc own Ts nL D cl tys mc ms post k n ws pc lv (.long y :: .long x :: st) := by
  intro hok H locs ls hS hl
  have h9 := kk hok H locs ls hS hl
  obtain ⟨p, l, e, s, m, args, below, meth, c, Q, A, H0⟩ := Γ
  obtain ⟨hx, hb, hml, hown, hts, hK, hA, hin, hret⟩ := hok
  exact va_mmin_long hx hb (hml.trans hl.1.symm) hown (hts _ hlink) (hts _ hstat) (hts _ hini) (hts _ hcode) hfr hlo hc hs2 hd h9
end GLOOP
section MODELN
variable {Γ : gT} {R : Room} {cc : ByteArray} {own : String} {Ts : List Cond} {nL : Nat} {D : va_G} {cy : Nat → ClassId} {mc ms : Nat} {post : Option Value → va_W → Prop} {k n : Nat} {a : Nat → Nat} {S : MS} {pc : Nat} {lv : List (Nat × Value)} {st : List Value}
theorem m_ialdN {i : Nat} (j q N : Nat) (hd : decode cc pc = .ok (.iaload, 1)) (ha : (MW cy a S)[q]? = some (a j, .inl (cy 0, N, .inl (S.2.2.1 j)))) (hi : i < N) (hN : N < 2 ^ 31) (kk : G Γ R cc own Ts nL D clx (tyx cy) mc ms post k n (MW cy a S) (pc + 1) lv (.int (S.2.2.1 j i) :: st)) : G Γ R cc own Ts nL D clx (tyx cy) mc ms post k n (MW cy a S) pc lv (.int (nI i) :: .ref (a j) :: st) := by
  refine m_iald j q N hd ha (vp_in_nI hi hN) ?_
  rw [nI_clamp (by omega)]
  exact kk
theorem m_zaldN {i : Nat} (j q N : Nat) (hd : decode cc pc = .ok (.baload, 1)) (ha : (MW cy a S)[q]? = some (a j, .inl (cy 2, N, .inl (S.2.2.1 j)))) (hi : i < N) (hN : N < 2 ^ 31) (kk : G Γ R cc own Ts nL D clx (tyx cy) mc ms post k n (MW cy a S) (pc + 1) lv (.int (S.2.2.1 j i) :: st)) : G Γ R cc own Ts nL D clx (tyx cy) mc ms post k n (MW cy a S) pc lv (.int (nI i) :: .ref (a j) :: st) := by
  refine m_zald j q N hd ha (vp_in_nI hi hN) ?_
  rw [nI_clamp (by omega)]
  exact kk
theorem m_laldN {i : Nat} (j q N : Nat) (hd : decode cc pc = .ok (.laload, 1)) (ha : (MW cy a S)[q]? = some (a j, .inl (cy 1, N, .inr (.inl (S.2.2.2 j))))) (hi : i < N) (hN : N < 2 ^ 31) (kk : G Γ R cc own Ts nL D clx (tyx cy) mc ms post k n (MW cy a S) (pc + 1) lv (.long (S.2.2.2 j i) :: st)) : G Γ R cc own Ts nL D clx (tyx cy) mc ms post k n (MW cy a S) pc lv (.int (nI i) :: .ref (a j) :: st) := by
  refine m_lald j q N hd ha (vp_in_nI hi hN) ?_
  rw [nI_clamp (by omega)]
  exact kk
theorem m_iastN {i : Nat} {x : Int32} (j q N : Nat) (hd : decode cc pc = .ok (.iastore, 1)) (ha : (MW cy a S)[q]? = some (a j, .inl (cy 0, N, .inl (S.2.2.1 j)))) (hi : i < N) (hN : N < 2 ^ 31) (hws : (MW cy a S).set q (a j, .inl (cy 0, N, .inl (upd (S.2.2.1 j) i x))) = MW cy a (sA S j i x)) (kk : G Γ R cc own Ts nL D clx (tyx cy) mc ms post k n (MW cy a (sA S j i x)) (pc + 1) lv st) : G Γ R cc own Ts nL D clx (tyx cy) mc ms post k n (MW cy a S) pc lv (.int x :: .int (nI i) :: .ref (a j) :: st) := by
  have e : (nI i).toNatClampNeg = i := nI_clamp (by omega)
  refine m_iast j q N hd ha (vp_in_nI hi hN) (by rw [e]; exact hws) ?_
  rw [e]
  exact kk
theorem m_zastN {i : Nat} {x : Int32} (j q N : Nat) (hd : decode cc pc = .ok (.bastore, 1)) (ha : (MW cy a S)[q]? = some (a j, .inl (cy 2, N, .inl (S.2.2.1 j)))) (hi : i < N) (hN : N < 2 ^ 31) (hws : (MW cy a S).set q (a j, .inl (cy 2, N, .inl (upd (S.2.2.1 j) i (vp_nar .boolean x)))) = MW cy a (sA S j i (vp_nar .boolean x))) (kk : G Γ R cc own Ts nL D clx (tyx cy) mc ms post k n (MW cy a (sA S j i (vp_nar .boolean x))) (pc + 1) lv st) : G Γ R cc own Ts nL D clx (tyx cy) mc ms post k n (MW cy a S) pc lv (.int x :: .int (nI i) :: .ref (a j) :: st) := by
  have e : (nI i).toNatClampNeg = i := nI_clamp (by omega)
  refine m_zast j q N hd ha (vp_in_nI hi hN) (by rw [e]; exact hws) ?_
  rw [e]
  exact kk
theorem m_lastN {i : Nat} {x : Int64} (j q N : Nat) (hd : decode cc pc = .ok (.lastore, 1)) (ha : (MW cy a S)[q]? = some (a j, .inl (cy 1, N, .inr (.inl (S.2.2.2 j))))) (hi : i < N) (hN : N < 2 ^ 31) (hws : (MW cy a S).set q (a j, .inl (cy 1, N, .inr (.inl (vp_updL (S.2.2.2 j) i x)))) = MW cy a (sB S j i x)) (kk : G Γ R cc own Ts nL D clx (tyx cy) mc ms post k n (MW cy a (sB S j i x)) (pc + 1) lv st) : G Γ R cc own Ts nL D clx (tyx cy) mc ms post k n (MW cy a S) pc lv (.long x :: .int (nI i) :: .ref (a j) :: st) := by
  have e : (nI i).toNatClampNeg = i := nI_clamp (by omega)
  refine m_last j q N hd ha (vp_in_nI hi hN) (by rw [e]; exact hws) ?_
  rw [e]
  exact kk
end MODELN
theorem wsI_0 (cy : Nat → ClassId) (a : Nat → Nat) (S : MS) (v : Int64) : (MW cy a S).set 0 (a 0, .inr (9, (MO a S).set 0 (.long v))) = MW cy a (sL S 0 v) := rfl
theorem wsI_1 (cy : Nat → ClassId) (a : Nat → Nat) (S : MS) (v : Int32) : (MW cy a S).set 0 (a 0, .inr (9, (MO a S).set 1 (.int v))) = MW cy a (sI S 1 v) := rfl
theorem wsA_2 (cy : Nat → ClassId) (a : Nat → Nat) (S : MS) (i : Nat) (v : Int32) : (MW cy a S).set 1 (a 2, .inl (cy 0, 5, .inl (upd (S.2.2.1 2) i v))) = MW cy a (sA S 2 i v) := rfl
theorem wsA_3 (cy : Nat → ClassId) (a : Nat → Nat) (S : MS) (i : Nat) (v : Int32) : (MW cy a S).set 2 (a 3, .inl (cy 0, 10, .inl (upd (S.2.2.1 3) i v))) = MW cy a (sA S 3 i v) := rfl
theorem wsI_4 (cy : Nat → ClassId) (a : Nat → Nat) (S : MS) (v : Int32) : (MW cy a S).set 0 (a 0, .inr (9, (MO a S).set 4 (.int v))) = MW cy a (sI S 4 v) := rfl
theorem wsA_5 (cy : Nat → ClassId) (a : Nat → Nat) (S : MS) (i : Nat) (v : Int32) : (MW cy a S).set 3 (a 5, .inl (cy 0, 40, .inl (upd (S.2.2.1 5) i v))) = MW cy a (sA S 5 i v) := rfl
theorem wsA_6 (cy : Nat → ClassId) (a : Nat → Nat) (S : MS) (i : Nat) (v : Int32) : (MW cy a S).set 4 (a 6, .inl (cy 0, 40, .inl (upd (S.2.2.1 6) i v))) = MW cy a (sA S 6 i v) := rfl
theorem wsA_7 (cy : Nat → ClassId) (a : Nat → Nat) (S : MS) (i : Nat) (v : Int32) : (MW cy a S).set 5 (a 7, .inl (cy 0, 40, .inl (upd (S.2.2.1 7) i v))) = MW cy a (sA S 7 i v) := rfl
theorem wsA_8 (cy : Nat → ClassId) (a : Nat → Nat) (S : MS) (i : Nat) (v : Int32) : (MW cy a S).set 6 (a 8, .inl (cy 0, 40, .inl (upd (S.2.2.1 8) i v))) = MW cy a (sA S 8 i v) := rfl
theorem wsA_9 (cy : Nat → ClassId) (a : Nat → Nat) (S : MS) (i : Nat) (v : Int32) : (MW cy a S).set 7 (a 9, .inl (cy 0, 40, .inl (upd (S.2.2.1 9) i v))) = MW cy a (sA S 9 i v) := rfl
theorem wsA_10 (cy : Nat → ClassId) (a : Nat → Nat) (S : MS) (i : Nat) (v : Int32) : (MW cy a S).set 8 (a 10, .inl (cy 0, 40, .inl (upd (S.2.2.1 10) i v))) = MW cy a (sA S 10 i v) := rfl
theorem wsA_11 (cy : Nat → ClassId) (a : Nat → Nat) (S : MS) (i : Nat) (v : Int32) : (MW cy a S).set 9 (a 11, .inl (cy 0, 40, .inl (upd (S.2.2.1 11) i v))) = MW cy a (sA S 11 i v) := rfl
theorem wsA_12 (cy : Nat → ClassId) (a : Nat → Nat) (S : MS) (i : Nat) (v : Int32) : (MW cy a S).set 10 (a 12, .inl (cy 0, 160, .inl (upd (S.2.2.1 12) i v))) = MW cy a (sA S 12 i v) := rfl
theorem wsA_13 (cy : Nat → ClassId) (a : Nat → Nat) (S : MS) (i : Nat) (v : Int64) : (MW cy a S).set 11 (a 13, .inl (cy 1, 200, .inr (.inl (vp_updL (S.2.2.2 13) i v)))) = MW cy a (sB S 13 i v) := rfl
theorem wsA_14 (cy : Nat → ClassId) (a : Nat → Nat) (S : MS) (i : Nat) (v : Int32) : (MW cy a S).set 12 (a 14, .inl (cy 2, 40, .inl (upd (S.2.2.1 14) i v))) = MW cy a (sA S 14 i v) := rfl
theorem wsA_15 (cy : Nat → ClassId) (a : Nat → Nat) (S : MS) (i : Nat) (v : Int64) : (MW cy a S).set 13 (a 15, .inl (cy 1, 100, .inr (.inl (vp_updL (S.2.2.2 15) i v)))) = MW cy a (sB S 15 i v) := rfl
theorem wsA_16 (cy : Nat → ClassId) (a : Nat → Nat) (S : MS) (i : Nat) (v : Int32) : (MW cy a S).set 14 (a 16, .inl (cy 0, 4, .inl (upd (S.2.2.1 16) i v))) = MW cy a (sA S 16 i v) := rfl
theorem wsA_17 (cy : Nat → ClassId) (a : Nat → Nat) (S : MS) (i : Nat) (v : Int32) : (MW cy a S).set 15 (a 17, .inl (cy 0, 40, .inl (upd (S.2.2.1 17) i v))) = MW cy a (sA S 17 i v) := rfl
theorem wsA_18 (cy : Nat → ClassId) (a : Nat → Nat) (S : MS) (i : Nat) (v : Int32) : (MW cy a S).set 16 (a 18, .inl (cy 0, 50, .inl (upd (S.2.2.1 18) i v))) = MW cy a (sA S 18 i v) := rfl
theorem wsA_19 (cy : Nat → ClassId) (a : Nat → Nat) (S : MS) (i : Nat) (v : Int32) : (MW cy a S).set 17 (a 19, .inl (cy 0, 25, .inl (upd (S.2.2.1 19) i v))) = MW cy a (sA S 19 i v) := rfl
theorem wsI_20 (cy : Nat → ClassId) (a : Nat → Nat) (S : MS) (v : Int32) : (MW cy a S).set 0 (a 0, .inr (9, (MO a S).set 20 (.int v))) = MW cy a (sI S 20 v) := rfl
theorem wsA_21 (cy : Nat → ClassId) (a : Nat → Nat) (S : MS) (i : Nat) (v : Int32) : (MW cy a S).set 18 (a 21, .inl (cy 0, 30, .inl (upd (S.2.2.1 21) i v))) = MW cy a (sA S 21 i v) := rfl
theorem wsA_22 (cy : Nat → ClassId) (a : Nat → Nat) (S : MS) (i : Nat) (v : Int64) : (MW cy a S).set 19 (a 22, .inl (cy 1, 8, .inr (.inl (vp_updL (S.2.2.2 22) i v)))) = MW cy a (sB S 22 i v) := rfl
theorem wsI_23 (cy : Nat → ClassId) (a : Nat → Nat) (S : MS) (v : Int32) : (MW cy a S).set 0 (a 0, .inr (9, (MO a S).set 23 (.int v))) = MW cy a (sI S 23 v) := rfl
theorem wsA_24 (cy : Nat → ClassId) (a : Nat → Nat) (S : MS) (i : Nat) (v : Int32) : (MW cy a S).set 20 (a 24, .inl (cy 2, 8, .inl (upd (S.2.2.1 24) i v))) = MW cy a (sA S 24 i v) := rfl
theorem wsA_25 (cy : Nat → ClassId) (a : Nat → Nat) (S : MS) (i : Nat) (v : Int32) : (MW cy a S).set 21 (a 25, .inl (cy 0, 8, .inl (upd (S.2.2.1 25) i v))) = MW cy a (sA S 25 i v) := rfl
theorem wsA_26 (cy : Nat → ClassId) (a : Nat → Nat) (S : MS) (i : Nat) (v : Int32) : (MW cy a S).set 22 (a 26, .inl (cy 0, 32, .inl (upd (S.2.2.1 26) i v))) = MW cy a (sA S 26 i v) := rfl
theorem wsA_27 (cy : Nat → ClassId) (a : Nat → Nat) (S : MS) (i : Nat) (v : Int32) : (MW cy a S).set 23 (a 27, .inl (cy 0, 32, .inl (upd (S.2.2.1 27) i v))) = MW cy a (sA S 27 i v) := rfl
theorem wsA_28 (cy : Nat → ClassId) (a : Nat → Nat) (S : MS) (i : Nat) (v : Int32) : (MW cy a S).set 24 (a 28, .inl (cy 0, 32, .inl (upd (S.2.2.1 28) i v))) = MW cy a (sA S 28 i v) := rfl
theorem wsI_29 (cy : Nat → ClassId) (a : Nat → Nat) (S : MS) (v : Int32) : (MW cy a S).set 0 (a 0, .inr (9, (MO a S).set 29 (.int v))) = MW cy a (sI S 29 v) := rfl
theorem wsA_30 (cy : Nat → ClassId) (a : Nat → Nat) (S : MS) (i : Nat) (v : Int32) : (MW cy a S).set 25 (a 30, .inl (cy 2, 8, .inl (upd (S.2.2.1 30) i v))) = MW cy a (sA S 30 i v) := rfl
theorem wsA_31 (cy : Nat → ClassId) (a : Nat → Nat) (S : MS) (i : Nat) (v : Int32) : (MW cy a S).set 26 (a 31, .inl (cy 0, 8, .inl (upd (S.2.2.1 31) i v))) = MW cy a (sA S 31 i v) := rfl
theorem wsA_32 (cy : Nat → ClassId) (a : Nat → Nat) (S : MS) (i : Nat) (v : Int32) : (MW cy a S).set 27 (a 32, .inl (cy 0, 32, .inl (upd (S.2.2.1 32) i v))) = MW cy a (sA S 32 i v) := rfl
theorem wsA_33 (cy : Nat → ClassId) (a : Nat → Nat) (S : MS) (i : Nat) (v : Int32) : (MW cy a S).set 28 (a 33, .inl (cy 0, 32, .inl (upd (S.2.2.1 33) i v))) = MW cy a (sA S 33 i v) := rfl
theorem wsA_34 (cy : Nat → ClassId) (a : Nat → Nat) (S : MS) (i : Nat) (v : Int32) : (MW cy a S).set 29 (a 34, .inl (cy 0, 32, .inl (upd (S.2.2.1 34) i v))) = MW cy a (sA S 34 i v) := rfl
theorem wsA_35 (cy : Nat → ClassId) (a : Nat → Nat) (S : MS) (i : Nat) (v : Int32) : (MW cy a S).set 30 (a 35, .inl (cy 0, 400, .inl (upd (S.2.2.1 35) i v))) = MW cy a (sA S 35 i v) := rfl
theorem wsI_36 (cy : Nat → ClassId) (a : Nat → Nat) (S : MS) (v : Int32) : (MW cy a S).set 0 (a 0, .inr (9, (MO a S).set 36 (.int v))) = MW cy a (sI S 36 v) := rfl
theorem wsI_37 (cy : Nat → ClassId) (a : Nat → Nat) (S : MS) (v : Int64) : (MW cy a S).set 0 (a 0, .inr (9, (MO a S).set 37 (.long v))) = MW cy a (sL S 37 v) := rfl
theorem wsI_38 (cy : Nat → ClassId) (a : Nat → Nat) (S : MS) (v : Int32) : (MW cy a S).set 0 (a 0, .inr (9, (MO a S).set 38 (.int v))) = MW cy a (sI S 38 v) := rfl
theorem wsI_39 (cy : Nat → ClassId) (a : Nat → Nat) (S : MS) (v : Int32) : (MW cy a S).set 0 (a 0, .inr (9, (MO a S).set 39 (.int v))) = MW cy a (sI S 39 v) := rfl
theorem wsI_40 (cy : Nat → ClassId) (a : Nat → Nat) (S : MS) (v : Int32) : (MW cy a S).set 0 (a 0, .inr (9, (MO a S).set 40 (.int v))) = MW cy a (sI S 40 v) := rfl
theorem wsI_41 (cy : Nat → ClassId) (a : Nat → Nat) (S : MS) (v : Int32) : (MW cy a S).set 0 (a 0, .inr (9, (MO a S).set 41 (.int v))) = MW cy a (sI S 41 v) := rfl
theorem wsA_42 (cy : Nat → ClassId) (a : Nat → Nat) (S : MS) (i : Nat) (v : Int64) : (MW cy a S).set 31 (a 42, .inl (cy 1, 1024, .inr (.inl (vp_updL (S.2.2.2 42) i v)))) = MW cy a (sB S 42 i v) := rfl
theorem wsA_43 (cy : Nat → ClassId) (a : Nat → Nat) (S : MS) (i : Nat) (v : Int32) : (MW cy a S).set 32 (a 43, .inl (cy 0, 1024, .inl (upd (S.2.2.1 43) i v))) = MW cy a (sA S 43 i v) := rfl
theorem wsI_44 (cy : Nat → ClassId) (a : Nat → Nat) (S : MS) (v : Int32) : (MW cy a S).set 0 (a 0, .inr (9, (MO a S).set 44 (.int v))) = MW cy a (sI S 44 v) := rfl
theorem wsA_45 (cy : Nat → ClassId) (a : Nat → Nat) (S : MS) (i : Nat) (v : Int32) : (MW cy a S).set 33 (a 45, .inl (cy 0, 10, .inl (upd (S.2.2.1 45) i v))) = MW cy a (sA S 45 i v) := rfl
theorem wsI_46 (cy : Nat → ClassId) (a : Nat → Nat) (S : MS) (v : Int32) : (MW cy a S).set 0 (a 0, .inr (9, (MO a S).set 46 (.int v))) = MW cy a (sI S 46 v) := rfl
theorem wsA_47 (cy : Nat → ClassId) (a : Nat → Nat) (S : MS) (i : Nat) (v : Int32) : (MW cy a S).set 34 (a 47, .inl (cy 0, 10, .inl (upd (S.2.2.1 47) i v))) = MW cy a (sA S 47 i v) := rfl
theorem wsA_48 (cy : Nat → ClassId) (a : Nat → Nat) (S : MS) (i : Nat) (v : Int32) : (MW cy a S).set 35 (a 48, .inl (cy 0, 10, .inl (upd (S.2.2.1 48) i v))) = MW cy a (sA S 48 i v) := rfl
theorem wsA_49 (cy : Nat → ClassId) (a : Nat → Nat) (S : MS) (i : Nat) (v : Int64) : (MW cy a S).set 36 (a 49, .inl (cy 1, 10, .inr (.inl (vp_updL (S.2.2.2 49) i v)))) = MW cy a (sB S 49 i v) := rfl
theorem wsA_50 (cy : Nat → ClassId) (a : Nat → Nat) (S : MS) (i : Nat) (v : Int64) : (MW cy a S).set 37 (a 50, .inl (cy 1, 10, .inr (.inl (vp_updL (S.2.2.2 50) i v)))) = MW cy a (sB S 50 i v) := rfl
theorem wsI_51 (cy : Nat → ClassId) (a : Nat → Nat) (S : MS) (v : Int64) : (MW cy a S).set 0 (a 0, .inr (9, (MO a S).set 51 (.long v))) = MW cy a (sL S 51 v) := rfl
theorem wsI_52 (cy : Nat → ClassId) (a : Nat → Nat) (S : MS) (v : Int64) : (MW cy a S).set 0 (a 0, .inr (9, (MO a S).set 52 (.long v))) = MW cy a (sL S 52 v) := rfl
theorem wsA_53 (cy : Nat → ClassId) (a : Nat → Nat) (S : MS) (i : Nat) (v : Int64) : (MW cy a S).set 38 (a 53, .inl (cy 1, 10, .inr (.inl (vp_updL (S.2.2.2 53) i v)))) = MW cy a (sB S 53 i v) := rfl
theorem wsA_54 (cy : Nat → ClassId) (a : Nat → Nat) (S : MS) (i : Nat) (v : Int64) : (MW cy a S).set 39 (a 54, .inl (cy 1, 10, .inr (.inl (vp_updL (S.2.2.2 54) i v)))) = MW cy a (sB S 54 i v) := rfl
end
section
theorem vpi10 {i : Int32} (h : 0 ≤ i ∧ i ≤ 9) : vp_in i 10 := vpi h.1 h.2 (by decide)
theorem vpi1 {i : Int32} (h : 1 ≤ i ∧ i ≤ 4) : vp_in i 5 := by
  refine vpi (h := 4) ?_ h.2 (by decide)
  have := h.1
  rw [Int32.le_iff_toInt_le] at this ⊢
  have e1 : (1 : Int32).toInt = 1 := by decide
  have e0 : (0 : Int32).toInt = 0 := by decide
  omega
set_option maxHeartbeats 4000000 in
set_option maxRecDepth 100000 in
/-- in: low ≤ v ≤ high -/
theorem M_in (l : Launch) (D : va_G) (cy : Nat → ClassId) (a : Nat → Nat) (S : MS) (x lo hi : Int32) : Ct l D clx (tyx cy) yX9_in wsX9_in (rmD 0) 0 0 [.int x, .int lo, .int hi] (MW cy a S) (fun r9 w9 => (r9 = some (.int 1) ∧ (lo ≤ x ∧ x ≤ hi) ∧ w9 = MW cy a S) ∨ (r9 = some (.int 0) ∧ ¬ (lo ≤ x ∧ x ≤ hi) ∧ w9 = MW cy a S)) := by
  refine g_start (cc := cX9_in) (maxL := 3) (ret := (some .boolean)) (by decide) rfl (Nat.le_of_ble_eq_true rfl) (fun v w1 h => by rcases h with ⟨rfl, -, -⟩ | ⟨rfl, -, -⟩ <;> exact ⟨.boolean, rfl, rfl⟩) (fun Γ hlΓ => ?_)
  subst hlΓ
  refine g_iload_n (i := 0) dX9_in_0 rfl rfl ?_
  refine g_iload_n (i := 1) dX9_in_1 rfl rfl ?_
  refine g_icmp_lt 14 dX9_in_2 (by decide) (fun c_1 => ?_) (fun c_1 => ?_)
  · skip
    refine g_iconst (0) rfl dX9_in_14 ?_
    refine g_iret dX9_in_15 ?_
    first | exact Or.inl ⟨rfl, ⟨Int32.not_lt.mp c_1, Int32.not_lt.mp c_2⟩, rfl⟩ | exact Or.inr ⟨rfl, fun h => absurd h.2 (Int32.not_le.mpr c_2), rfl⟩ | exact Or.inr ⟨rfl, fun h => absurd h.1 (Int32.not_le.mpr c_1), rfl⟩
  · skip
    refine g_iload_n (i := 0) dX9_in_5 rfl rfl ?_
    refine g_iload_n (i := 2) dX9_in_6 rfl rfl ?_
    refine g_icmp_gt 14 dX9_in_7 (by decide) (fun c_2 => ?_) (fun c_2 => ?_)
    · skip
      refine g_iconst (0) rfl dX9_in_14 ?_
      refine g_iret dX9_in_15 ?_
      first | exact Or.inl ⟨rfl, ⟨Int32.not_lt.mp c_1, Int32.not_lt.mp c_2⟩, rfl⟩ | exact Or.inr ⟨rfl, fun h => absurd h.2 (Int32.not_le.mpr c_2), rfl⟩ | exact Or.inr ⟨rfl, fun h => absurd h.1 (Int32.not_le.mpr c_1), rfl⟩
    · skip
      refine g_iconst (1) rfl dX9_in_10 ?_
      refine g_goto 15 dX9_in_11 (by decide) ?_
      refine g_iret dX9_in_15 ?_
      first | exact Or.inl ⟨rfl, ⟨Int32.not_lt.mp c_1, Int32.not_lt.mp c_2⟩, rfl⟩ | exact Or.inr ⟨rfl, fun h => absurd h.2 (Int32.not_le.mpr c_2), rfl⟩ | exact Or.inr ⟨rfl, fun h => absurd h.1 (Int32.not_le.mpr c_1), rfl⟩

set_option maxHeartbeats 4000000 in
set_option maxRecDepth 100000 in
/-- a house: 0 .. 9 -/
theorem M_isHouse (l : Launch) (D : va_G) (cy : Nat → ClassId) (a : Nat → Nat) (S : MS) (x : Int32) : Ct l D clx (tyx cy) yX9_isHouse wsX9_isHouse (rmD 1) 0 0 [.int x] (MW cy a S) (fun r9 w9 => (r9 = some (.int 1) ∧ (0 ≤ x ∧ x ≤ 9) ∧ w9 = MW cy a S) ∨ (r9 = some (.int 0) ∧ ¬ (0 ≤ x ∧ x ≤ 9) ∧ w9 = MW cy a S)) := by
  refine g_start (cc := cX9_isHouse) (maxL := 1) (ret := (some .boolean)) (by decide) rfl (Nat.le_of_ble_eq_true rfl) (fun v w1 h => by rcases h with ⟨rfl, -, -⟩ | ⟨rfl, -, -⟩ <;> exact ⟨.boolean, rfl, rfl⟩) (fun Γ hlΓ => ?_)
  subst hlΓ
  refine g_iload_n (i := 0) dX9_isHouse_0 rfl rfl ?_
  refine g_iconst (0) rfl dX9_isHouse_1 ?_
  refine g_bipush (9) rfl dX9_isHouse_2 ?_
  refine g_callSf 3 gX9_isHouse_X9_in rfl rfl rfl ⟨Nat.le_of_ble_eq_true rfl, Nat.le_of_ble_eq_true rfl⟩ ⟨Nat.le_of_ble_eq_true rfl, Nat.le_of_ble_eq_true rfl⟩ (by exact Nat.le_of_ble_eq_true rfl) (by decide +kernel) rfl dX9_isHouse_4 (M_in _ D cy a _ _ _ _) rfl (fun vu_1 wu_1 hu_1 => ?_)
  rcases hu_1 with ⟨rfl, hu_1, rfl⟩ | ⟨rfl, hu_1, rfl⟩
  · skip
    refine g_iret dX9_isHouse_7 ?_
    first | exact Or.inl ⟨rfl, by assumption, rfl⟩ | exact Or.inr ⟨rfl, by assumption, rfl⟩
  · skip
    refine g_iret dX9_isHouse_7 ?_
    first | exact Or.inl ⟨rfl, by assumption, rfl⟩ | exact Or.inr ⟨rfl, by assumption, rfl⟩

set_option maxHeartbeats 4000000 in
set_option maxRecDepth 100000 in
/-- a town: 0 .. 4 -/
theorem M_isTown (l : Launch) (D : va_G) (cy : Nat → ClassId) (a : Nat → Nat) (S : MS) (x : Int32) : Ct l D clx (tyx cy) yX9_isTown wsX9_isTown (rmD 1) 0 0 [.int x] (MW cy a S) (fun r9 w9 => (r9 = some (.int 1) ∧ (0 ≤ x ∧ x ≤ 4) ∧ w9 = MW cy a S) ∨ (r9 = some (.int 0) ∧ ¬ (0 ≤ x ∧ x ≤ 4) ∧ w9 = MW cy a S)) := by
  refine g_start (cc := cX9_isTown) (maxL := 1) (ret := (some .boolean)) (by decide) rfl (Nat.le_of_ble_eq_true rfl) (fun v w1 h => by rcases h with ⟨rfl, -, -⟩ | ⟨rfl, -, -⟩ <;> exact ⟨.boolean, rfl, rfl⟩) (fun Γ hlΓ => ?_)
  subst hlΓ
  refine g_iload_n (i := 0) dX9_isTown_0 rfl rfl ?_
  refine g_iconst (0) rfl dX9_isTown_1 ?_
  refine g_iconst (4) rfl dX9_isTown_2 ?_
  refine g_callSf 3 gX9_isTown_X9_in rfl rfl rfl ⟨Nat.le_of_ble_eq_true rfl, Nat.le_of_ble_eq_true rfl⟩ ⟨Nat.le_of_ble_eq_true rfl, Nat.le_of_ble_eq_true rfl⟩ (by exact Nat.le_of_ble_eq_true rfl) (by decide +kernel) rfl dX9_isTown_3 (M_in _ D cy a _ _ _ _) rfl (fun vu_1 wu_1 hu_1 => ?_)
  rcases hu_1 with ⟨rfl, hu_1, rfl⟩ | ⟨rfl, hu_1, rfl⟩
  · skip
    refine g_iret dX9_isTown_6 ?_
    first | exact Or.inl ⟨rfl, by assumption, rfl⟩ | exact Or.inr ⟨rfl, by assumption, rfl⟩
  · skip
    refine g_iret dX9_isTown_6 ?_
    first | exact Or.inl ⟨rfl, by assumption, rfl⟩ | exact Or.inr ⟨rfl, by assumption, rfl⟩

set_option maxHeartbeats 4000000 in
set_option maxRecDepth 100000 in
/-- a bill that is drawn -/
theorem M_isBill (l : Launch) (D : va_G) (cy : Nat → ClassId) (a : Nat → Nat) (S : MS) (x : Int32) : Ct l D clx (tyx cy) yX9_isBill wsX9_isBill (rmD 1) 0 0 [.ref (a 0), .int x] (MW cy a S) (fun r9 w9 => (r9 = some (.int 1) ∧ (0 ≤ x ∧ x ≤ S.1 4 - 1) ∧ w9 = MW cy a S) ∨ (r9 = some (.int 0) ∧ ¬ (0 ≤ x ∧ x ≤ S.1 4 - 1) ∧ w9 = MW cy a S)) := by
  refine g_start (cc := cX9_isBill) (maxL := 2) (ret := (some .boolean)) (by decide) rfl (Nat.le_of_ble_eq_true rfl) (fun v w1 h => by rcases h with ⟨rfl, -, -⟩ | ⟨rfl, -, -⟩ <;> exact ⟨.boolean, rfl, rfl⟩) (fun Γ hlΓ => ?_)
  subst hlΓ
  refine g_iload_n (i := 1) dX9_isBill_0 rfl rfl ?_
  refine g_iconst (0) rfl dX9_isBill_1 ?_
  refine g_aload_n (i := 0) dX9_isBill_2 rfl rfl ?_
  refine m_get 4 dX9_isBill_3 (List.mem_of_getElem? (i := 1) rfl) (fun w h => List.mem_cons_of_mem _ (List.mem_append_right _ h)) (by decide) rfl ?_
  refine g_iconst (1) rfl dX9_isBill_6 ?_
  refine g_isub dX9_isBill_7 ?_
  refine g_callSf 3 gX9_isBill_X9_in rfl rfl rfl ⟨Nat.le_of_ble_eq_true rfl, Nat.le_of_ble_eq_true rfl⟩ ⟨Nat.le_of_ble_eq_true rfl, Nat.le_of_ble_eq_true rfl⟩ (by exact Nat.le_of_ble_eq_true rfl) (by decide +kernel) rfl dX9_isBill_8 (M_in _ D cy a _ _ _ _) rfl (fun vu_1 wu_1 hu_1 => ?_)
  rcases hu_1 with ⟨rfl, hu_1, rfl⟩ | ⟨rfl, hu_1, rfl⟩
  · skip
    refine g_iret dX9_isBill_11 ?_
    first | exact Or.inl ⟨rfl, by assumption, rfl⟩ | exact Or.inr ⟨rfl, by assumption, rfl⟩
  · skip
    refine g_iret dX9_isBill_11 ?_
    first | exact Or.inl ⟨rfl, by assumption, rfl⟩ | exact Or.inr ⟨rfl, by assumption, rfl⟩

/-- a finding is counted: the answer is the finding -/
def mf_finding (S : MS) (q : Int64) : Int64 × MS := (q, sB S 22 ((-1000000000000 : Int64) - q).toInt32.toNatClampNeg (S.2.2.2 22 ((-1000000000000 : Int64) - q).toInt32.toNatClampNeg + 1))
set_option maxHeartbeats 4000000 in
set_option maxRecDepth 100000 in
/-- finding -/
theorem M_finding (l : Launch) (D : va_G) (cy : Nat → ClassId) (a : Nat → Nat) (S : MS) (q : Int64) (hq : vp_in ((-1000000000000 : Int64) - q).toInt32 8) : Ct l D clx (tyx cy) yX9_finding wsX9_finding (rmD 0) 0 0 [.ref (a 0), .long q] (MW cy a S) (fun r9 w9 => r9 = some (.long (mf_finding S q).1) ∧ w9 = MW cy a (mf_finding S q).2) := by
  refine g_start (cc := cX9_finding) (maxL := 3) (ret := (some .long)) (by decide) rfl (Nat.le_of_ble_eq_true rfl) (fun v w1 h => by obtain ⟨rfl, -⟩ := h; exact rfl) (fun Γ hlΓ => ?_)
  subst hlΓ
  refine g_aload_n (i := 0) dX9_finding_0 rfl rfl ?_
  refine m_get 22 dX9_finding_1 (List.mem_of_getElem? (i := 1) rfl) (fun w h => List.mem_cons_of_mem _ (List.mem_append_right _ h)) (by decide) rfl ?_
  refine g_ldc2 (-1000000000000) (List.mem_of_getElem? (i := 2) rfl) dX9_finding_4 ?_
  refine g_lload_n (i := 1) dX9_finding_7 rfl rfl ?_
  refine g_lsub dX9_finding_8 ?_
  refine g_l2i dX9_finding_9 ?_
  refine g_dup2_11 rfl rfl dX9_finding_10 ?_
  refine m_lald 22 19 8 dX9_finding_11 rfl hq ?_
  refine g_lconst 1 rfl dX9_finding_12 ?_
  refine g_ladd dX9_finding_13 ?_
  refine m_last 22 19 8 dX9_finding_14 rfl hq (wsA_22 _ _ _ _ _) ?_
  refine g_lload_n (i := 1) dX9_finding_15 rfl rfl ?_
  refine g_lret dX9_finding_16 ?_
  exact ⟨rfl, rfl⟩

def mf_gain (S : MS) (v : Int32) : Int64 × MS := if 0 ≤ v ∧ v ≤ 200 then ((S.1 1).toInt64, sI S 1 v) else mf_finding S (-1000000000001)
set_option maxHeartbeats 4000000 in
set_option maxRecDepth 100000 in
/-- gain -/
theorem M_gain (l : Launch) (D : va_G) (cy : Nat → ClassId) (a : Nat → Nat) (S : MS) (v : Int32) : Ct l D clx (tyx cy) yX9_gain wsX9_gain (rmD 2) 0 0 [.ref (a 0), .int v] (MW cy a S) (fun r9 w9 => r9 = some (.long (mf_gain S v).1) ∧ w9 = MW cy a (mf_gain S v).2) := by
  refine g_start (cc := cX9_gain) (maxL := 3) (ret := (some .long)) (by decide) rfl (Nat.le_of_ble_eq_true rfl) (fun v w1 h => by obtain ⟨rfl, -⟩ := h; exact rfl) (fun Γ hlΓ => ?_)
  subst hlΓ
  refine g_iload_n (i := 1) dX9_gain_0 rfl rfl ?_
  refine g_iconst (0) rfl dX9_gain_1 ?_
  refine g_sipush (200) rfl dX9_gain_2 ?_
  refine g_callSf 3 gX9_gain_X9_in rfl rfl rfl ⟨Nat.le_of_ble_eq_true rfl, Nat.le_of_ble_eq_true rfl⟩ ⟨Nat.le_of_ble_eq_true rfl, Nat.le_of_ble_eq_true rfl⟩ (by exact Nat.le_of_ble_eq_true rfl) (by decide +kernel) rfl dX9_gain_5 (M_in _ D cy a _ _ _ _) rfl (fun vu_1 wu_1 hu_1 => ?_)
  rcases hu_1 with ⟨rfl, hu_1, rfl⟩ | ⟨rfl, hu_1, rfl⟩
  · skip
    refine g_if_ne 19 dX9_gain_8 (by decide) (fun _ => ?_) (fun h9 => absurd h9 (by decide))
    refine g_aload_n (i := 0) dX9_gain_19 rfl rfl ?_
    refine m_get 1 dX9_gain_20 (List.mem_of_getElem? (i := 2) rfl) (fun w h => List.mem_cons_of_mem _ (List.mem_append_right _ h)) (by decide) rfl ?_
    refine g_istore_n (i := 2) dX9_gain_23 rfl (by decide) ?_
    refine g_aload_n (i := 0) dX9_gain_24 rfl rfl ?_
    refine g_iload_n (i := 1) dX9_gain_25 rfl rfl ?_
    refine m_puti 1 dX9_gain_26 (List.mem_of_getElem? (i := 2) rfl) (fun w h => List.mem_cons_of_mem _ (List.mem_append_right _ h)) (by decide) rfl rfl rfl (wsI_1 _ _ _ _) ?_
    refine g_iload_n (i := 2) dX9_gain_29 rfl rfl ?_
    refine g_i2l dX9_gain_30 ?_
    refine g_lret dX9_gain_31 ?_
    unfold mf_gain; split <;> first | exact ⟨rfl, rfl⟩ | (exfalso; simp_all; done)
  · skip
    refine g_if_ne 19 dX9_gain_8 (by decide) (fun h9 => absurd h9 (by decide)) (fun _ => ?_)
    refine g_aload_n (i := 0) dX9_gain_11 rfl rfl ?_
    refine g_ldc2 (-1000000000001) (List.mem_of_getElem? (i := 1) rfl) dX9_gain_12 ?_
    refine g_callVf 1 0 gX9_gain_X9_finding rfl rfl rfl ⟨Nat.le_of_ble_eq_true rfl, Nat.le_of_ble_eq_true rfl⟩ ⟨Nat.le_of_ble_eq_true rfl, Nat.le_of_ble_eq_true rfl⟩ (by exact Nat.le_of_ble_eq_true rfl) (by decide +kernel) rfl rfl rfl dX9_gain_15 (M_finding _ D cy a _ _ (by unfold vp_in; decide)) rfl (fun vu_4 wu_4 hu_4 => ?_)
    obtain ⟨rfl, rfl⟩ := hu_4
    refine g_lret dX9_gain_18 ?_
    unfold mf_gain; split <;> first | exact ⟨rfl, rfl⟩ | (exfalso; simp_all; done)

def mf_road (S : MS) (t v : Int32) : Int64 × MS := if (1 ≤ t ∧ t ≤ 4) ∧ (0 ≤ v ∧ v ≤ 30) then ((S.2.2.1 2 t.toNatClampNeg).toInt64, sA S 2 t.toNatClampNeg v) else mf_finding S (-1000000000001)
set_option maxHeartbeats 4000000 in
set_option maxRecDepth 100000 in
/-- road -/
theorem M_road (l : Launch) (D : va_G) (cy : Nat → ClassId) (a : Nat → Nat) (S : MS) (t v : Int32) : Ct l D clx (tyx cy) yX9_road wsX9_road (rmD 2) 0 0 [.ref (a 0), .int t, .int v] (MW cy a S) (fun r9 w9 => r9 = some (.long (mf_road S t v).1) ∧ w9 = MW cy a (mf_road S t v).2) := by
  refine g_start (cc := cX9_road) (maxL := 4) (ret := (some .long)) (by decide) rfl (Nat.le_of_ble_eq_true rfl) (fun v w1 h => by obtain ⟨rfl, -⟩ := h; exact rfl) (fun Γ hlΓ => ?_)
  subst hlΓ
  refine g_iload_n (i := 1) dX9_road_0 rfl rfl ?_
  refine g_iconst (1) rfl dX9_road_1 ?_
  refine g_iconst (4) rfl dX9_road_2 ?_
  refine g_callSf 3 gX9_road_X9_in rfl rfl rfl ⟨Nat.le_of_ble_eq_true rfl, Nat.le_of_ble_eq_true rfl⟩ ⟨Nat.le_of_ble_eq_true rfl, Nat.le_of_ble_eq_true rfl⟩ (by exact Nat.le_of_ble_eq_true rfl) (by decide +kernel) rfl dX9_road_3 (M_in _ D cy a _ _ _ _) rfl (fun vu_1 wu_1 hu_1 => ?_)
  rcases hu_1 with ⟨rfl, hu_1, rfl⟩ | ⟨rfl, hu_1, rfl⟩
  · skip
    refine g_if_eq 19 dX9_road_6 (by decide) (fun h9 => absurd h9 (by decide)) (fun _ => ?_)
    refine g_iload_n (i := 2) dX9_road_9 rfl rfl ?_
    refine g_iconst (0) rfl dX9_road_10 ?_
    refine g_bipush (30) rfl dX9_road_11 ?_
    refine g_callSf 3 gX9_road_X9_in rfl rfl rfl ⟨Nat.le_of_ble_eq_true rfl, Nat.le_of_ble_eq_true rfl⟩ ⟨Nat.le_of_ble_eq_true rfl, Nat.le_of_ble_eq_true rfl⟩ (by exact Nat.le_of_ble_eq_true rfl) (by decide +kernel) rfl dX9_road_13 (M_in _ D cy a _ _ _ _) rfl (fun vu_3 wu_3 hu_3 => ?_)
    rcases hu_3 with ⟨rfl, hu_3, rfl⟩ | ⟨rfl, hu_3, rfl⟩
    · skip
      refine g_if_ne 27 dX9_road_16 (by decide) (fun _ => ?_) (fun h9 => absurd h9 (by decide))
      refine g_aload_n (i := 0) dX9_road_27 rfl rfl ?_
      refine m_get 2 dX9_road_28 (List.mem_of_getElem? (i := 2) rfl) (fun w h => List.mem_cons_of_mem _ (List.mem_append_right _ h)) (by decide) rfl ?_
      refine g_iload_n (i := 1) dX9_road_31 rfl rfl ?_
      refine m_iald 2 1 5 dX9_road_32 rfl (vpi1 (by assumption)) ?_
      refine g_istore_n (i := 3) dX9_road_33 rfl (by decide) ?_
      refine g_aload_n (i := 0) dX9_road_34 rfl rfl ?_
      refine m_get 2 dX9_road_35 (List.mem_of_getElem? (i := 2) rfl) (fun w h => List.mem_cons_of_mem _ (List.mem_append_right _ h)) (by decide) rfl ?_
      refine g_iload_n (i := 1) dX9_road_38 rfl rfl ?_
      refine g_iload_n (i := 2) dX9_road_39 rfl rfl ?_
      refine m_iast 2 1 5 dX9_road_40 rfl (vpi1 (by assumption)) (wsA_2 _ _ _ _ _) ?_
      refine g_iload_n (i := 3) dX9_road_41 rfl rfl ?_
      refine g_i2l dX9_road_42 ?_
      refine g_lret dX9_road_43 ?_
      unfold mf_road; split <;> first | exact ⟨rfl, rfl⟩ | (exfalso; simp_all; done)
    · skip
      refine g_if_ne 27 dX9_road_16 (by decide) (fun h9 => absurd h9 (by decide)) (fun _ => ?_)
      refine g_aload_n (i := 0) dX9_road_19 rfl rfl ?_
      refine g_ldc2 (-1000000000001) (List.mem_of_getElem? (i := 1) rfl) dX9_road_20 ?_
      refine g_callVf 1 0 gX9_road_X9_finding rfl rfl rfl ⟨Nat.le_of_ble_eq_true rfl, Nat.le_of_ble_eq_true rfl⟩ ⟨Nat.le_of_ble_eq_true rfl, Nat.le_of_ble_eq_true rfl⟩ (by exact Nat.le_of_ble_eq_true rfl) (by decide +kernel) rfl rfl rfl dX9_road_23 (M_finding _ D cy a _ _ (by unfold vp_in; decide)) rfl (fun vu_6 wu_6 hu_6 => ?_)
      obtain ⟨rfl, rfl⟩ := hu_6
      refine g_lret dX9_road_26 ?_
      unfold mf_road; split <;> first | exact ⟨rfl, rfl⟩ | (exfalso; simp_all; done)
  · skip
    refine g_if_eq 19 dX9_road_6 (by decide) (fun _ => ?_) (fun h9 => absurd h9 (by decide))
    refine g_aload_n (i := 0) dX9_road_19 rfl rfl ?_
    refine g_ldc2 (-1000000000001) (List.mem_of_getElem? (i := 1) rfl) dX9_road_20 ?_
    refine g_callVf 1 0 gX9_road_X9_finding rfl rfl rfl ⟨Nat.le_of_ble_eq_true rfl, Nat.le_of_ble_eq_true rfl⟩ ⟨Nat.le_of_ble_eq_true rfl, Nat.le_of_ble_eq_true rfl⟩ (by exact Nat.le_of_ble_eq_true rfl) (by decide +kernel) rfl rfl rfl dX9_road_23 (M_finding _ D cy a _ _ (by unfold vp_in; decide)) rfl (fun vu_8 wu_8 hu_8 => ?_)
    obtain ⟨rfl, rfl⟩ := hu_8
    refine g_lret dX9_road_26 ?_
    unfold mf_road; split <;> first | exact ⟨rfl, rfl⟩ | (exfalso; simp_all; done)

def mf_seat (S : MS) (h t : Int32) : Int64 × MS := if (0 ≤ h ∧ h ≤ 9) ∧ (0 ≤ t ∧ t ≤ 4) then ((S.2.2.1 3 h.toNatClampNeg).toInt64, sA S 3 h.toNatClampNeg t) else mf_finding S (-1000000000001)
set_option maxHeartbeats 4000000 in
set_option maxRecDepth 100000 in
/-- seat -/
theorem M_seat (l : Launch) (D : va_G) (cy : Nat → ClassId) (a : Nat → Nat) (S : MS) (h t : Int32) : Ct l D clx (tyx cy) yX9_seat wsX9_seat (rmD 2) 0 0 [.ref (a 0), .int h, .int t] (MW cy a S) (fun r9 w9 => r9 = some (.long (mf_seat S h t).1) ∧ w9 = MW cy a (mf_seat S h t).2) := by
  refine g_start (cc := cX9_seat) (maxL := 4) (ret := (some .long)) (by decide) rfl (Nat.le_of_ble_eq_true rfl) (fun v w1 h => by obtain ⟨rfl, -⟩ := h; exact rfl) (fun Γ hlΓ => ?_)
  subst hlΓ
  refine g_iload_n (i := 1) dX9_seat_0 rfl rfl ?_
  refine g_callSf 1 gX9_seat_X9_isHouse rfl rfl rfl ⟨Nat.le_of_ble_eq_true rfl, Nat.le_of_ble_eq_true rfl⟩ ⟨Nat.le_of_ble_eq_true rfl, Nat.le_of_ble_eq_true rfl⟩ (by exact Nat.le_of_ble_eq_true rfl) (by decide +kernel) rfl dX9_seat_1 (M_isHouse _ D cy a _ _) rfl (fun vu_1 wu_1 hu_1 => ?_)
  rcases hu_1 with ⟨rfl, hu_1, rfl⟩ | ⟨rfl, hu_1, rfl⟩
  · skip
    refine g_if_eq 14 dX9_seat_4 (by decide) (fun h9 => absurd h9 (by decide)) (fun _ => ?_)
    refine g_iload_n (i := 2) dX9_seat_7 rfl rfl ?_
    refine g_callSf 1 gX9_seat_X9_isTown rfl rfl rfl ⟨Nat.le_of_ble_eq_true rfl, Nat.le_of_ble_eq_true rfl⟩ ⟨Nat.le_of_ble_eq_true rfl, Nat.le_of_ble_eq_true rfl⟩ (by exact Nat.le_of_ble_eq_true rfl) (by decide +kernel) rfl dX9_seat_8 (M_isTown _ D cy a _ _) rfl (fun vu_3 wu_3 hu_3 => ?_)
    rcases hu_3 with ⟨rfl, hu_3, rfl⟩ | ⟨rfl, hu_3, rfl⟩
    · skip
      refine g_if_ne 22 dX9_seat_11 (by decide) (fun _ => ?_) (fun h9 => absurd h9 (by decide))
      refine g_aload_n (i := 0) dX9_seat_22 rfl rfl ?_
      refine m_get 3 dX9_seat_23 (List.mem_of_getElem? (i := 2) rfl) (fun w h => List.mem_cons_of_mem _ (List.mem_append_right _ h)) (by decide) rfl ?_
      refine g_iload_n (i := 1) dX9_seat_26 rfl rfl ?_
      refine m_iald 3 2 10 dX9_seat_27 rfl (vpi10 (by assumption)) ?_
      refine g_istore_n (i := 3) dX9_seat_28 rfl (by decide) ?_
      refine g_aload_n (i := 0) dX9_seat_29 rfl rfl ?_
      refine m_get 3 dX9_seat_30 (List.mem_of_getElem? (i := 2) rfl) (fun w h => List.mem_cons_of_mem _ (List.mem_append_right _ h)) (by decide) rfl ?_
      refine g_iload_n (i := 1) dX9_seat_33 rfl rfl ?_
      refine g_iload_n (i := 2) dX9_seat_34 rfl rfl ?_
      refine m_iast 3 2 10 dX9_seat_35 rfl (vpi10 (by assumption)) (wsA_3 _ _ _ _ _) ?_
      refine g_iload_n (i := 3) dX9_seat_36 rfl rfl ?_
      refine g_i2l dX9_seat_37 ?_
      refine g_lret dX9_seat_38 ?_
      unfold mf_seat; split <;> first | exact ⟨rfl, rfl⟩ | (exfalso; simp_all; done)
    · skip
      refine g_if_ne 22 dX9_seat_11 (by decide) (fun h9 => absurd h9 (by decide)) (fun _ => ?_)
      refine g_aload_n (i := 0) dX9_seat_14 rfl rfl ?_
      refine g_ldc2 (-1000000000001) (List.mem_of_getElem? (i := 1) rfl) dX9_seat_15 ?_
      refine g_callVf 1 0 gX9_seat_X9_finding rfl rfl rfl ⟨Nat.le_of_ble_eq_true rfl, Nat.le_of_ble_eq_true rfl⟩ ⟨Nat.le_of_ble_eq_true rfl, Nat.le_of_ble_eq_true rfl⟩ (by exact Nat.le_of_ble_eq_true rfl) (by decide +kernel) rfl rfl rfl dX9_seat_18 (M_finding _ D cy a _ _ (by unfold vp_in; decide)) rfl (fun vu_6 wu_6 hu_6 => ?_)
      obtain ⟨rfl, rfl⟩ := hu_6
      refine g_lret dX9_seat_21 ?_
      unfold mf_seat; split <;> first | exact ⟨rfl, rfl⟩ | (exfalso; simp_all; done)
  · skip
    refine g_if_eq 14 dX9_seat_4 (by decide) (fun _ => ?_) (fun h9 => absurd h9 (by decide))
    refine g_aload_n (i := 0) dX9_seat_14 rfl rfl ?_
    refine g_ldc2 (-1000000000001) (List.mem_of_getElem? (i := 1) rfl) dX9_seat_15 ?_
    refine g_callVf 1 0 gX9_seat_X9_finding rfl rfl rfl ⟨Nat.le_of_ble_eq_true rfl, Nat.le_of_ble_eq_true rfl⟩ ⟨Nat.le_of_ble_eq_true rfl, Nat.le_of_ble_eq_true rfl⟩ (by exact Nat.le_of_ble_eq_true rfl) (by decide +kernel) rfl rfl rfl dX9_seat_18 (M_finding _ D cy a _ _ (by unfold vp_in; decide)) rfl (fun vu_8 wu_8 hu_8 => ?_)
    obtain ⟨rfl, rfl⟩ := hu_8
    refine g_lret dX9_seat_21 ?_
    unfold mf_seat; split <;> first | exact ⟨rfl, rfl⟩ | (exfalso; simp_all; done)
end
section
/-- x lies in 0 .. n-1 (its values as ints) -/
theorem vpn {x : Int32} {n : Nat} (h : vp_in x n) (hn : n < 2 ^ 31) : ∃ j : Nat, j < n ∧ x = nI j := vp_in_of h hn
theorem ixm (m N : Nat) {x y : Int32} (hx : vp_in x N) (hy : vp_in y m) (hb : N * m < 2 ^ 31) (hN : N < 2 ^ 31) (hm : m < 2 ^ 31) : vp_in (nI m * x + y) (N * m) := by
  obtain ⟨i, hi, rfl⟩ := vp_in_of hx hN
  obtain ⟨j, hj, rfl⟩ := vp_in_of hy hm
  rw [pk_mul, nI_add]
  refine vp_in_nI ?_ hb
  have : m * (i + 1) ≤ m * N := Nat.mul_le_mul_left m hi
  rw [Nat.mul_add, Nat.mul_one] at this
  rw [Nat.mul_comm N m]
  omega
theorem ixc (m N : Nat) {x y : Int32} (hx : vp_in x N) (hy : vp_in y m) (hb : N * m < 2 ^ 31) (hN : N < 2 ^ 31) (hm : m < 2 ^ 31) : (nI m * x + y).toNatClampNeg = m * x.toNatClampNeg + y.toNatClampNeg := by
  obtain ⟨i, hi, rfl⟩ := vp_in_of hx hN
  obtain ⟨j, hj, rfl⟩ := vp_in_of hy hm
  have h2 : m * i + j < N * m := by
    have : m * (i + 1) ≤ m * N := Nat.mul_le_mul_left m hi
    rw [Nat.mul_add, Nat.mul_one] at this
    rw [Nat.mul_comm N m]
    omega
  rw [pk_mul, nI_add, nI_clamp (by omega), nI_clamp (by omega), nI_clamp (by omega)]
theorem vp_le {x : Int32} {n m : Nat} (h : vp_in x n) (hm : n ≤ m) : vp_in x m := by
  rw [vp_in_iff] at h ⊢
  omega
/-- what holds of every state of the reference that a run comes to: its indexes are in their rows -/
def minv (S : MS) : Prop :=
  (0 ≤ (S.1 4).toInt ∧ (S.1 4).toInt ≤ 40) ∧ (0 ≤ (S.1 20).toInt ∧ (S.1 20).toInt ≤ 30) ∧ (0 ≤ (S.1 36).toInt ∧ (S.1 36).toInt ≤ 400) ∧ (0 ≤ (S.1 23).toInt ∧ (S.1 23).toInt ≤ 8) ∧
  (∀ b, b < 40 → 0 ≤ (S.2.2.1 11 b).toInt ∧ (S.2.2.1 11 b).toInt ≤ 4) ∧ (∀ b, b < 40 → vp_in (S.2.2.1 6 b) 10 ∧ vp_in (S.2.2.1 7 b) 10 ∧ vp_in (S.2.2.1 8 b) 10 ∧ vp_in (S.2.2.1 10 b) 5) ∧
  (∀ b, b < 160 → vp_in (S.2.2.1 12 b) 10) ∧ (∀ h, h < 10 → vp_in (S.2.2.1 3 h) 5) ∧
  (∀ c, c < 8 → 0 ≤ (S.2.2.1 25 c).toInt ∧ (S.2.2.1 25 c).toInt ≤ 4)
theorem mbill {S : MS} (hI : minv S) {x : Int32} (h : 0 ≤ x ∧ x ≤ S.1 4 - 1) : vp_in x 40 := by
  obtain ⟨⟨h1, h2⟩, -⟩ := hI
  obtain ⟨h3, h4⟩ := h
  rw [Int32.le_iff_toInt_le] at h3 h4
  have e0 : (0 : Int32).toInt = 0 := by decide
  have e1 : (S.1 4 - 1).toInt = (S.1 4).toInt - 1 := by
    rw [Int32.toInt_sub]
    have : (1 : Int32).toInt = 1 := by decide
    rw [this]
    apply Int.bmod_eq_of_le <;> omega
  rw [vp_in_iff]
  omega

def mf_becomes (S : MS) (b t : Int32) : MS := sB (sA S 10 b.toNatClampNeg t) 13 (5 * b + t).toNatClampNeg (S.2.1 0)
set_option maxHeartbeats 4000000 in
set_option maxRecDepth 100000 in
/-- a bill comes to a state -/
theorem M_becomes (l : Launch) (D : va_G) (cy : Nat → ClassId) (a : Nat → Nat) (S : MS) (b t : Int32) (hb : vp_in b 40) (ht : vp_in t 5) : Ct l D clx (tyx cy) yX9_becomes wsX9_becomes (rmD 0) 0 0 [.ref (a 0), .int b, .int t] (MW cy a S) (fun r9 w9 => r9 = none ∧ w9 = MW cy a (mf_becomes S b t)) := by
  refine g_start (cc := cX9_becomes) (maxL := 3) (ret := none) (by decide) rfl (Nat.le_of_ble_eq_true rfl) (fun v w1 h => by obtain ⟨rfl, -⟩ := h; exact rfl) (fun Γ hlΓ => ?_)
  subst hlΓ
  refine g_aload_n (i := 0) dX9_becomes_0 rfl rfl ?_
  refine m_get 10 dX9_becomes_1 (List.mem_of_getElem? (i := 1) rfl) (fun w h => List.mem_cons_of_mem _ (List.mem_append_right _ h)) (by decide) rfl ?_
  refine g_iload_n (i := 1) dX9_becomes_4 rfl rfl ?_
  refine g_iload_n (i := 2) dX9_becomes_5 rfl rfl ?_
  refine m_iast 10 8 40 dX9_becomes_6 rfl hb (wsA_10 _ _ _ _ _) ?_
  refine g_aload_n (i := 0) dX9_becomes_7 rfl rfl ?_
  refine m_get 13 dX9_becomes_8 (List.mem_of_getElem? (i := 2) rfl) (fun w h => List.mem_cons_of_mem _ (List.mem_append_right _ h)) (by decide) rfl ?_
  refine g_iconst (5) rfl dX9_becomes_11 ?_
  refine g_iload_n (i := 1) dX9_becomes_12 rfl rfl ?_
  refine g_imul dX9_becomes_13 ?_
  refine g_iload_n (i := 2) dX9_becomes_14 rfl rfl ?_
  refine g_iadd dX9_becomes_15 ?_
  refine g_aload_n (i := 0) dX9_becomes_16 rfl rfl ?_
  refine m_get 0 dX9_becomes_17 (List.mem_of_getElem? (i := 3) rfl) (fun w h => List.mem_cons_of_mem _ (List.mem_append_right _ h)) (by decide) rfl ?_
  refine m_last 13 11 200 dX9_becomes_20 rfl (ixm 5 40 hb ht (by decide) (by decide) (by decide)) (wsA_13 _ _ _ _ _) ?_
  refine g_vret dX9_becomes_21 ?_
  exact ⟨rfl, rfl⟩
end
section
theorem vpi5 {i : Int32} (h : 0 ≤ i ∧ i ≤ 4) : vp_in i 5 := vpi h.1 h.2 (by decide)
theorem mnew {S : MS} (hI : minv S) (h : ¬ S.1 4 = 40) : vp_in (S.1 4) 40 := by
  obtain ⟨⟨h1, h2⟩, -⟩ := hI
  rw [vp_in_iff]
  refine ⟨h1, ?_⟩
  have h3 : (S.1 4).toInt ≠ 40 := fun e => h (Int32.toInt_inj.mp (e.trans (by decide)))
  omega
/-- what a debt is carried to -/
def cyv (S : MS) (j : Nat) : Int64 := S.2.2.2 15 j + S.2.2.2 15 j * (S.1 1).toInt64 / 1000
/-- the first i debts are carried -/
def crF (S : MS) (i : Nat) : MS := (S.1, S.2.1, S.2.2.1, fun q => if q = 15 then (fun j => if j < i then cyv S j else S.2.2.2 15 j) else S.2.2.2 q)
theorem crF_0 (S : MS) : crF S 0 = S := by
  unfold crF
  refine Prod.ext rfl (Prod.ext rfl (Prod.ext rfl (funext fun q => ?_)))
  by_cases h : q = 15
  · subst h; simp
  · simp [h]
theorem crF_step (S : MS) (i : Nat) : sB (crF S i) 15 i ((crF S i).2.2.2 15 i + (crF S i).2.2.2 15 i * ((crF S i).1 1).toInt64 / 1000) = crF S (i + 1) := by
  unfold sB crF vp_updL cyv
  refine Prod.ext rfl (Prod.ext rfl (Prod.ext rfl (funext fun q => funext fun j => ?_)))
  by_cases hq : q = 15
  · subst hq
    by_cases hj : j = i
    · subst hj; simp
    · have e : (j < i + 1) ↔ (j < i) := by omega
      simp [hj, e]
  · simp [hq]
abbrev cyok (S : MS) : Prop := ∀ j, j < 100 → cyv S j ≤ 1000000000

set_option maxHeartbeats 4000000 in
set_option maxRecDepth 100000 in
/-- debts are carried, if none would be too great -/
theorem M_carry (l : Launch) (D : va_G) (cy : Nat → ClassId) (a : Nat → Nat) (S : MS) : Ct l D clx (tyx cy) yX9_carry wsX9_carry (rmD 0) 0 0 [.ref (a 0)] (MW cy a S) (fun r9 w9 => (r9 = some (.int 1) ∧ cyok S ∧ w9 = MW cy a (crF S 100)) ∨ (r9 = some (.int 0) ∧ ¬ cyok S ∧ w9 = MW cy a S)) := by
  refine g_start (cc := cX9_carry) (maxL := 2) (ret := (some .boolean)) (by decide) rfl (Nat.le_of_ble_eq_true rfl) (fun v w1 h => by rcases h with ⟨rfl, -, -⟩ | ⟨rfl, -, -⟩ <;> exact ⟨.boolean, rfl, rfl⟩) (fun Γ hlΓ => ?_)
  subst hlΓ
  refine g_iconst (0) rfl dX9_carry_0 ?_
  refine g_istore_n (i := 1) dX9_carry_1 rfl (by decide) ?_
  refine g_cnt 100 (fun i => ∀ j, j < i → cyv S j ≤ 1000000000) (fun i => MW cy a S) (fun i => [(0, .ref (a 0)), (1, .int (nI i))]) 0 (by first | decide | omega) (fun j h => absurd h (Nat.not_lt_zero j)) (by rfl) (by refine ⟨rfl, rfl, trivial⟩) ?_ (fun i1 hi1 gi1 ihi1 => ?_)
  · intro gN
    refine g_iload_n (i := 1) dX9_carry_2 rfl rfl ?_
    refine g_bipush (100) rfl dX9_carry_3 ?_
    refine g_icmp_ge 46 dX9_carry_5 (by decide) (fun c_2 => ?_) (fun c_2 => ?_)
    · skip
      refine g_iconst (0) rfl dX9_carry_46 ?_
      refine g_istore_n (i := 1) dX9_carry_47 rfl (by decide) ?_
      refine g_cnt 100 (fun i => True) (fun i => MW cy a (crF S i)) (fun i => [(0, .ref (a 0)), (1, .int (nI i))]) 0 (by first | decide | omega) trivial (by rw [crF_0]) (by refine ⟨rfl, rfl, trivial⟩) ?_ (fun i3 hi3 gi3 ihi3 => ?_)
      · intro gN
        refine g_iload_n (i := 1) dX9_carry_48 rfl rfl ?_
        refine g_bipush (100) rfl dX9_carry_49 ?_
        refine g_icmp_ge 85 dX9_carry_51 (by decide) (fun c_4 => ?_) (fun c_4 => ?_)
        · skip
          refine g_iconst (1) rfl dX9_carry_85 ?_
          refine g_iret dX9_carry_86 ?_
          exact Or.inl ⟨rfl, by assumption, rfl⟩
        · skip
          exact absurd (nI_le (Nat.le_refl _) (by decide)) c_4
      · skip
        refine g_iload_n (i := 1) dX9_carry_48 rfl rfl ?_
        refine g_bipush (100) rfl dX9_carry_49 ?_
        refine g_icmp_ge 85 dX9_carry_51 (by decide) (fun c_5 => ?_) (fun c_5 => ?_)
        · skip
          exact absurd c_5 (nI_ge hi3 (by decide))
        · skip
          refine g_aload_n (i := 0) dX9_carry_54 rfl rfl ?_
          refine m_get 15 dX9_carry_55 (List.mem_of_getElem? (i := 1) rfl) (fun w h => List.mem_cons_of_mem _ (List.mem_append_right _ h)) (by decide) rfl ?_
          refine g_iload_n (i := 1) dX9_carry_58 rfl rfl ?_
          refine g_dup2_11 rfl rfl dX9_carry_59 ?_
          refine m_laldN 15 13 100 dX9_carry_60 rfl (by omega) (by decide) ?_
          refine g_aload_n (i := 0) dX9_carry_61 rfl rfl ?_
          refine m_get 15 dX9_carry_62 (List.mem_of_getElem? (i := 1) rfl) (fun w h => List.mem_cons_of_mem _ (List.mem_append_right _ h)) (by decide) rfl ?_
          refine g_iload_n (i := 1) dX9_carry_65 rfl rfl ?_
          refine m_laldN 15 13 100 dX9_carry_66 rfl (by omega) (by decide) ?_
          refine g_aload_n (i := 0) dX9_carry_67 rfl rfl ?_
          refine m_get 1 dX9_carry_68 (List.mem_of_getElem? (i := 2) rfl) (fun w h => List.mem_cons_of_mem _ (List.mem_append_right _ h)) (by decide) rfl ?_
          refine g_i2l dX9_carry_71 ?_
          refine g_lmul dX9_carry_72 ?_
          refine g_ldc2 (1000) (List.mem_of_getElem? (i := 3) rfl) dX9_carry_73 ?_
          refine g_ldiv (by decide) dX9_carry_76 ?_
          refine g_ladd dX9_carry_77 ?_
          refine m_lastN 15 13 100 dX9_carry_78 rfl (by omega) (by decide) (wsA_15 _ _ _ _ _) ?_
          refine g_iinc (1) dX9_carry_79 rfl rfl (by decide) ?_
          refine g_goto 48 dX9_carry_82 (by decide) ?_
          refine g_to _ _ (ihi3 (trivial)) (by rw [← crF_step]) (by refine ⟨(by first | rfl | (rw [← nI_1]; rfl) | (rw [← nI_1]; rfl)), (by first | rfl | (rw [← nI_1]; rfl) | (rw [← nI_1]; rfl)), trivial⟩)
    · skip
      exact absurd (nI_le (Nat.le_refl _) (by decide)) c_2
  · skip
    refine g_iload_n (i := 1) dX9_carry_2 rfl rfl ?_
    refine g_bipush (100) rfl dX9_carry_3 ?_
    refine g_icmp_ge 46 dX9_carry_5 (by decide) (fun c_6 => ?_) (fun c_6 => ?_)
    · skip
      exact absurd c_6 (nI_ge hi1 (by decide))
    · skip
      refine g_aload_n (i := 0) dX9_carry_8 rfl rfl ?_
      refine m_get 15 dX9_carry_9 (List.mem_of_getElem? (i := 1) rfl) (fun w h => List.mem_cons_of_mem _ (List.mem_append_right _ h)) (by decide) rfl ?_
      refine g_iload_n (i := 1) dX9_carry_12 rfl rfl ?_
      refine m_laldN 15 13 100 dX9_carry_13 rfl (by omega) (by decide) ?_
      refine g_aload_n (i := 0) dX9_carry_14 rfl rfl ?_
      refine m_get 15 dX9_carry_15 (List.mem_of_getElem? (i := 1) rfl) (fun w h => List.mem_cons_of_mem _ (List.mem_append_right _ h)) (by decide) rfl ?_
      refine g_iload_n (i := 1) dX9_carry_18 rfl rfl ?_
      refine m_laldN 15 13 100 dX9_carry_19 rfl (by omega) (by decide) ?_
      refine g_aload_n (i := 0) dX9_carry_20 rfl rfl ?_
      refine m_get 1 dX9_carry_21 (List.mem_of_getElem? (i := 2) rfl) (fun w h => List.mem_cons_of_mem _ (List.mem_append_right _ h)) (by decide) rfl ?_
      refine g_i2l dX9_carry_24 ?_
      refine g_lmul dX9_carry_25 ?_
      refine g_ldc2 (1000) (List.mem_of_getElem? (i := 3) rfl) dX9_carry_26 ?_
      refine g_ldiv (by decide) dX9_carry_29 ?_
      refine g_ladd dX9_carry_30 ?_
      refine g_ldc2 (1000000000) (List.mem_of_getElem? (i := 4) rfl) dX9_carry_31 ?_
      refine g_lcmp_le 40 dX9_carry_34 dX9_carry_35 (by decide) (fun c_7 => ?_) (fun c_7 => ?_)
      · skip
        refine g_iinc (1) dX9_carry_40 rfl rfl (by decide) ?_
        refine g_goto 2 dX9_carry_43 (by decide) ?_
        refine g_to _ _ (ihi1 (lt_s gi1 (by first | assumption | exact c_2))) rfl (by refine ⟨(by first | rfl | (rw [← nI_1]; rfl) | (rw [← nI_1]; rfl)), (by first | rfl | (rw [← nI_1]; rfl) | (rw [← nI_1]; rfl)), trivial⟩)
      · skip
        refine g_iconst (0) rfl dX9_carry_38 ?_
        refine g_iret dX9_carry_39 ?_
        exact Or.inr ⟨rfl, fun h => absurd (h _ (by assumption)) (by assumption), rfl⟩

abbrev mday (S : MS) : Int64 := S.2.1 0 - S.2.1 0 / 28 * 28
set_option maxHeartbeats 4000000 in
set_option maxRecDepth 100000 in
/-- a day 0 .. 6 of a fair -/
theorem M_isEarly (l : Launch) (D : va_G) (cy : Nat → ClassId) (a : Nat → Nat) (S : MS) : Ct l D clx (tyx cy) yX9_isEarly wsX9_isEarly (rmD 0) 0 0 [.ref (a 0)] (MW cy a S) (fun r9 w9 => (r9 = some (.int 1) ∧ (mday S ≤ 6) ∧ w9 = MW cy a S) ∨ (r9 = some (.int 0) ∧ ¬ (mday S ≤ 6) ∧ w9 = MW cy a S)) := by
  refine g_start (cc := cX9_isEarly) (maxL := 1) (ret := (some .boolean)) (by decide) rfl (Nat.le_of_ble_eq_true rfl) (fun v w1 h => by rcases h with ⟨rfl, -, -⟩ | ⟨rfl, -, -⟩ <;> exact ⟨.boolean, rfl, rfl⟩) (fun Γ hlΓ => ?_)
  subst hlΓ
  refine g_aload_n (i := 0) dX9_isEarly_0 rfl rfl ?_
  refine m_get 0 dX9_isEarly_1 (List.mem_of_getElem? (i := 1) rfl) (fun w h => List.mem_cons_of_mem _ (List.mem_append_right _ h)) (by decide) rfl ?_
  refine g_ldc2 (28) (List.mem_of_getElem? (i := 2) rfl) dX9_isEarly_4 ?_
  refine g_lrem (by decide) dX9_isEarly_7 ?_
  refine g_ldc2 (6) (List.mem_of_getElem? (i := 3) rfl) dX9_isEarly_8 ?_
  refine g_lcmp_gt 19 dX9_isEarly_11 dX9_isEarly_12 (by decide) (fun c_1 => ?_) (fun c_1 => ?_)
  · skip
    refine g_iconst (0) rfl dX9_isEarly_19 ?_
    refine g_iret dX9_isEarly_20 ?_
    first | exact Or.inl ⟨rfl, by first | assumption | (simp_all; done), rfl⟩ | exact Or.inr ⟨rfl, by first | assumption | (simp_all; done), rfl⟩
  · skip
    refine g_iconst (1) rfl dX9_isEarly_15 ?_
    refine g_goto 20 dX9_isEarly_16 (by decide) ?_
    refine g_iret dX9_isEarly_20 ?_
    first | exact Or.inl ⟨rfl, by first | assumption | (simp_all; done), rfl⟩ | exact Or.inr ⟨rfl, by first | assumption | (simp_all; done), rfl⟩

def mwould (S : MS) (h q : Int32) (v : Int64) : Int64 := S.2.2.2 15 (10 * h + q).toNatClampNeg - S.2.2.2 15 (10 * q + h).toNatClampNeg + v
theorem ix100 {h q : Int32} (hh : vp_in h 10) (hq : vp_in q 10) : vp_in (10 * h + q) 100 := ixm 10 10 hh hq (by decide) (by decide) (by decide)
set_option maxHeartbeats 4000000 in
set_option maxRecDepth 100000 in
/-- what one would owe more -/
theorem M_would (l : Launch) (D : va_G) (cy : Nat → ClassId) (a : Nat → Nat) (S : MS) (h q : Int32) (v : Int64) (hh : vp_in h 10) (hq : vp_in q 10) : Ct l D clx (tyx cy) yX9_would wsX9_would (rmD 0) 0 0 [.ref (a 0), .int h, .int q, .long v] (MW cy a S) (fun r9 w9 => r9 = some (.long (mwould S h q v)) ∧ w9 = MW cy a S) := by
  refine g_start (cc := cX9_would) (maxL := 5) (ret := (some .long)) (by decide) rfl (Nat.le_of_ble_eq_true rfl) (fun v w1 h => by obtain ⟨rfl, -⟩ := h; exact rfl) (fun Γ hlΓ => ?_)
  subst hlΓ
  refine g_aload_n (i := 0) dX9_would_0 rfl rfl ?_
  refine m_get 15 dX9_would_1 (List.mem_of_getElem? (i := 1) rfl) (fun w h => List.mem_cons_of_mem _ (List.mem_append_right _ h)) (by decide) rfl ?_
  refine g_bipush (10) rfl dX9_would_4 ?_
  refine g_iload_n (i := 1) dX9_would_6 rfl rfl ?_
  refine g_imul dX9_would_7 ?_
  refine g_iload_n (i := 2) dX9_would_8 rfl rfl ?_
  refine g_iadd dX9_would_9 ?_
  refine m_lald 15 13 100 dX9_would_10 rfl (ix100 (by assumption) (by assumption)) ?_
  refine g_aload_n (i := 0) dX9_would_11 rfl rfl ?_
  refine m_get 15 dX9_would_12 (List.mem_of_getElem? (i := 1) rfl) (fun w h => List.mem_cons_of_mem _ (List.mem_append_right _ h)) (by decide) rfl ?_
  refine g_bipush (10) rfl dX9_would_15 ?_
  refine g_iload_n (i := 2) dX9_would_17 rfl rfl ?_
  refine g_imul dX9_would_18 ?_
  refine g_iload_n (i := 1) dX9_would_19 rfl rfl ?_
  refine g_iadd dX9_would_20 ?_
  refine m_lald 15 13 100 dX9_would_21 rfl (ix100 (by assumption) (by assumption)) ?_
  refine g_lsub dX9_would_22 ?_
  refine g_lload_n (i := 3) dX9_would_23 rfl rfl ?_
  refine g_ladd dX9_would_24 ?_
  refine g_lret dX9_would_25 ?_
  exact ⟨rfl, rfl⟩

set_option maxHeartbeats 4000000 in
set_option maxRecDepth 100000 in
/-- a debt would be too great -/
theorem M_isTooMuch (l : Launch) (D : va_G) (cy : Nat → ClassId) (a : Nat → Nat) (S : MS) (h q : Int32) (v : Int64) (hh : vp_in h 10) (hq : vp_in q 10) : Ct l D clx (tyx cy) yX9_isTooMuch wsX9_isTooMuch (rmD 1) 0 0 [.ref (a 0), .int h, .int q, .long v] (MW cy a S) (fun r9 w9 => (r9 = some (.int 1) ∧ (¬ h = q ∧ (1000000000 < mwould S h q v ∨ mwould S h q v < -1000000000)) ∧ w9 = MW cy a S) ∨ (r9 = some (.int 0) ∧ ¬ (¬ h = q ∧ (1000000000 < mwould S h q v ∨ mwould S h q v < -1000000000)) ∧ w9 = MW cy a S)) := by
  refine g_start (cc := cX9_isTooMuch) (maxL := 7) (ret := (some .boolean)) (by decide) rfl (Nat.le_of_ble_eq_true rfl) (fun v w1 h => by rcases h with ⟨rfl, -, -⟩ | ⟨rfl, -, -⟩ <;> exact ⟨.boolean, rfl, rfl⟩) (fun Γ hlΓ => ?_)
  subst hlΓ
  refine g_aload_n (i := 0) dX9_isTooMuch_0 rfl rfl ?_
  refine g_iload_n (i := 1) dX9_isTooMuch_1 rfl rfl ?_
  refine g_iload_n (i := 2) dX9_isTooMuch_2 rfl rfl ?_
  refine g_lload_n (i := 3) dX9_isTooMuch_3 rfl rfl ?_
  refine g_callVf 3 0 gX9_isTooMuch_X9_would rfl rfl rfl ⟨Nat.le_of_ble_eq_true rfl, Nat.le_of_ble_eq_true rfl⟩ ⟨Nat.le_of_ble_eq_true rfl, Nat.le_of_ble_eq_true rfl⟩ (by exact Nat.le_of_ble_eq_true rfl) (by decide +kernel) rfl rfl rfl dX9_isTooMuch_4 (M_would _ D cy a _ _ _ _ (by assumption) (by assumption)) rfl (fun vu_1 wu_1 hu_1 => ?_)
  obtain ⟨rfl, rfl⟩ := hu_1
  refine g_lstore dX9_isTooMuch_7 (by decide) ?_
  refine g_iload_n (i := 1) dX9_isTooMuch_9 rfl rfl ?_
  refine g_iload_n (i := 2) dX9_isTooMuch_10 rfl rfl ?_
  refine g_icmp_eq 36 dX9_isTooMuch_11 (by decide) (fun c_2 => ?_) (fun c_2 => ?_)
  · skip
    refine g_iconst (0) rfl dX9_isTooMuch_36 ?_
    refine g_iret dX9_isTooMuch_37 ?_
    first | exact Or.inl ⟨rfl, by first | exact ⟨by assumption, Or.inl (by assumption)⟩ | exact ⟨by assumption, Or.inr (Int64.not_le.mp (by assumption))⟩, rfl⟩ | exact Or.inr ⟨rfl, fun h5 => by first | exact absurd (by assumption) h5.1 | exact h5.2.elim (fun h6 => absurd h6 (by assumption)) (fun h6 => absurd (by assumption) (Int64.not_le.mpr h6)), rfl⟩
  · skip
    refine g_lload dX9_isTooMuch_14 rfl ?_
    refine g_ldc2 (1000000000) (List.mem_of_getElem? (i := 1) rfl) dX9_isTooMuch_16 ?_
    refine g_lcmp_gt 32 dX9_isTooMuch_19 dX9_isTooMuch_20 (by decide) (fun c_3 => ?_) (fun c_3 => ?_)
    · skip
      refine g_iconst (1) rfl dX9_isTooMuch_32 ?_
      refine g_goto 37 dX9_isTooMuch_33 (by decide) ?_
      refine g_iret dX9_isTooMuch_37 ?_
      first | exact Or.inl ⟨rfl, by first | exact ⟨by assumption, Or.inl (by assumption)⟩ | exact ⟨by assumption, Or.inr (Int64.not_le.mp (by assumption))⟩, rfl⟩ | exact Or.inr ⟨rfl, fun h5 => by first | exact absurd (by assumption) h5.1 | exact h5.2.elim (fun h6 => absurd h6 (by assumption)) (fun h6 => absurd (by assumption) (Int64.not_le.mpr h6)), rfl⟩
    · skip
      refine g_lload dX9_isTooMuch_23 rfl ?_
      refine g_ldc2 (-1000000000) (List.mem_of_getElem? (i := 2) rfl) dX9_isTooMuch_25 ?_
      refine g_lcmp_ge 36 dX9_isTooMuch_28 dX9_isTooMuch_29 (by decide) (fun c_4 => ?_) (fun c_4 => ?_)
      · skip
        refine g_iconst (0) rfl dX9_isTooMuch_36 ?_
        refine g_iret dX9_isTooMuch_37 ?_
        first | exact Or.inl ⟨rfl, by first | exact ⟨by assumption, Or.inl (by assumption)⟩ | exact ⟨by assumption, Or.inr (Int64.not_le.mp (by assumption))⟩, rfl⟩ | exact Or.inr ⟨rfl, fun h5 => by first | exact absurd (by assumption) h5.1 | exact h5.2.elim (fun h6 => absurd h6 (by assumption)) (fun h6 => absurd (by assumption) (Int64.not_le.mpr h6)), rfl⟩
      · skip
        refine g_iconst (1) rfl dX9_isTooMuch_32 ?_
        refine g_goto 37 dX9_isTooMuch_33 (by decide) ?_
        refine g_iret dX9_isTooMuch_37 ?_
        first | exact Or.inl ⟨rfl, by first | exact ⟨by assumption, Or.inl (by assumption)⟩ | exact ⟨by assumption, Or.inr (Int64.not_le.mp (by assumption))⟩, rfl⟩ | exact Or.inr ⟨rfl, fun h5 => by first | exact absurd (by assumption) h5.1 | exact h5.2.elim (fun h6 => absurd h6 (by assumption)) (fun h6 => absurd (by assumption) (Int64.not_le.mpr h6)), rfl⟩

def mf_ctow (S : MS) (h q : Int32) (v : Int64) : MS := if h = q then S else sB (sB S 15 (10 * h + q).toNatClampNeg (if mwould S h q v ≤ 0 then 0 else mwould S h q v)) 15 (10 * q + h).toNatClampNeg (if 0 ≤ mwould S h q v then 0 else -mwould S h q v)
set_option maxHeartbeats 4000000 in
set_option maxRecDepth 100000 in
/-- a house comes to owe -/
theorem M_comesToOwe (l : Launch) (D : va_G) (cy : Nat → ClassId) (a : Nat → Nat) (S : MS) (h q : Int32) (v : Int64) (hh : vp_in h 10) (hq : vp_in q 10) : Ct l D clx (tyx cy) yX9_comesToOwe wsX9_comesToOwe (rmD 1) 0 0 [.ref (a 0), .int h, .int q, .long v] (MW cy a S) (fun r9 w9 => r9 = none ∧ w9 = MW cy a (mf_ctow S h q v)) := by
  refine g_start (cc := cX9_comesToOwe) (maxL := 7) (ret := none) (by decide) rfl (Nat.le_of_ble_eq_true rfl) (fun v w1 h => by obtain ⟨rfl, -⟩ := h; exact rfl) (fun Γ hlΓ => ?_)
  subst hlΓ
  refine g_iload_n (i := 1) dX9_comesToOwe_0 rfl rfl ?_
  refine g_iload_n (i := 2) dX9_comesToOwe_1 rfl rfl ?_
  refine g_icmp_ne 6 dX9_comesToOwe_2 (by decide) (fun c_1 => ?_) (fun c_1 => ?_)
  · skip
    refine g_aload_n (i := 0) dX9_comesToOwe_6 rfl rfl ?_
    refine g_iload_n (i := 1) dX9_comesToOwe_7 rfl rfl ?_
    refine g_iload_n (i := 2) dX9_comesToOwe_8 rfl rfl ?_
    refine g_lload_n (i := 3) dX9_comesToOwe_9 rfl rfl ?_
    refine g_callVf 3 0 gX9_comesToOwe_X9_would rfl rfl rfl ⟨Nat.le_of_ble_eq_true rfl, Nat.le_of_ble_eq_true rfl⟩ ⟨Nat.le_of_ble_eq_true rfl, Nat.le_of_ble_eq_true rfl⟩ (by exact Nat.le_of_ble_eq_true rfl) (by decide +kernel) rfl rfl rfl dX9_comesToOwe_10 (M_would _ D cy a _ _ _ _ (by assumption) (by assumption)) rfl (fun vu_2 wu_2 hu_2 => ?_)
    obtain ⟨rfl, rfl⟩ := hu_2
    refine g_lstore dX9_comesToOwe_13 (by decide) ?_
    refine g_aload_n (i := 0) dX9_comesToOwe_15 rfl rfl ?_
    refine m_get 15 dX9_comesToOwe_16 (List.mem_of_getElem? (i := 1) rfl) (fun w h => List.mem_cons_of_mem _ (List.mem_append_right _ h)) (by decide) rfl ?_
    refine g_bipush (10) rfl dX9_comesToOwe_19 ?_
    refine g_iload_n (i := 1) dX9_comesToOwe_21 rfl rfl ?_
    refine g_imul dX9_comesToOwe_22 ?_
    refine g_iload_n (i := 2) dX9_comesToOwe_23 rfl rfl ?_
    refine g_iadd dX9_comesToOwe_24 ?_
    refine g_lload dX9_comesToOwe_25 rfl ?_
    refine g_lconst 0 rfl dX9_comesToOwe_27 ?_
    refine g_lcmp_le 37 dX9_comesToOwe_28 dX9_comesToOwe_29 (by decide) (fun c_3 => ?_) (fun c_3 => ?_)
    · skip
      refine g_lconst 0 rfl dX9_comesToOwe_37 ?_
      refine m_last 15 13 100 dX9_comesToOwe_38 rfl (ix100 (by assumption) (by assumption)) (wsA_15 _ _ _ _ _) ?_
      refine g_aload_n (i := 0) dX9_comesToOwe_39 rfl rfl ?_
      refine m_get 15 dX9_comesToOwe_40 (List.mem_of_getElem? (i := 1) rfl) (fun w h => List.mem_cons_of_mem _ (List.mem_append_right _ h)) (by decide) rfl ?_
      refine g_bipush (10) rfl dX9_comesToOwe_43 ?_
      refine g_iload_n (i := 2) dX9_comesToOwe_45 rfl rfl ?_
      refine g_imul dX9_comesToOwe_46 ?_
      refine g_iload_n (i := 1) dX9_comesToOwe_47 rfl rfl ?_
      refine g_iadd dX9_comesToOwe_48 ?_
      refine g_lload dX9_comesToOwe_49 rfl ?_
      refine g_lconst 0 rfl dX9_comesToOwe_51 ?_
      refine g_lcmp_ge 62 dX9_comesToOwe_52 dX9_comesToOwe_53 (by decide) (fun c_4 => ?_) (fun c_4 => ?_)
      · skip
        refine g_lconst 0 rfl dX9_comesToOwe_62 ?_
        refine m_last 15 13 100 dX9_comesToOwe_63 rfl (ix100 (by assumption) (by assumption)) (wsA_15 _ _ _ _ _) ?_
        refine g_vret dX9_comesToOwe_64 ?_
        unfold mf_ctow; (repeat' split) <;> first | contradiction | (with_reducible exact ⟨rfl, rfl⟩) | (exfalso; simp_all; done) | exact ⟨rfl, rfl⟩
      · skip
        refine g_lload dX9_comesToOwe_56 rfl ?_
        refine g_lneg dX9_comesToOwe_58 ?_
        refine g_goto 63 dX9_comesToOwe_59 (by decide) ?_
        refine m_last 15 13 100 dX9_comesToOwe_63 rfl (ix100 (by assumption) (by assumption)) (wsA_15 _ _ _ _ _) ?_
        refine g_vret dX9_comesToOwe_64 ?_
        unfold mf_ctow; (repeat' split) <;> first | contradiction | (with_reducible exact ⟨rfl, rfl⟩) | (exfalso; simp_all; done) | exact ⟨rfl, rfl⟩
    · skip
      refine g_lload dX9_comesToOwe_32 rfl ?_
      refine g_goto 38 dX9_comesToOwe_34 (by decide) ?_
      refine m_last 15 13 100 dX9_comesToOwe_38 rfl (ix100 (by assumption) (by assumption)) (wsA_15 _ _ _ _ _) ?_
      refine g_aload_n (i := 0) dX9_comesToOwe_39 rfl rfl ?_
      refine m_get 15 dX9_comesToOwe_40 (List.mem_of_getElem? (i := 1) rfl) (fun w h => List.mem_cons_of_mem _ (List.mem_append_right _ h)) (by decide) rfl ?_
      refine g_bipush (10) rfl dX9_comesToOwe_43 ?_
      refine g_iload_n (i := 2) dX9_comesToOwe_45 rfl rfl ?_
      refine g_imul dX9_comesToOwe_46 ?_
      refine g_iload_n (i := 1) dX9_comesToOwe_47 rfl rfl ?_
      refine g_iadd dX9_comesToOwe_48 ?_
      refine g_lload dX9_comesToOwe_49 rfl ?_
      refine g_lconst 0 rfl dX9_comesToOwe_51 ?_
      refine g_lcmp_ge 62 dX9_comesToOwe_52 dX9_comesToOwe_53 (by decide) (fun c_5 => ?_) (fun c_5 => ?_)
      · skip
        refine g_lconst 0 rfl dX9_comesToOwe_62 ?_
        refine m_last 15 13 100 dX9_comesToOwe_63 rfl (ix100 (by assumption) (by assumption)) (wsA_15 _ _ _ _ _) ?_
        refine g_vret dX9_comesToOwe_64 ?_
        unfold mf_ctow; (repeat' split) <;> first | contradiction | (with_reducible exact ⟨rfl, rfl⟩) | (exfalso; simp_all; done) | exact ⟨rfl, rfl⟩
      · skip
        refine g_lload dX9_comesToOwe_56 rfl ?_
        refine g_lneg dX9_comesToOwe_58 ?_
        refine g_goto 63 dX9_comesToOwe_59 (by decide) ?_
        refine m_last 15 13 100 dX9_comesToOwe_63 rfl (ix100 (by assumption) (by assumption)) (wsA_15 _ _ _ _ _) ?_
        refine g_vret dX9_comesToOwe_64 ?_
        unfold mf_ctow; (repeat' split) <;> first | contradiction | (with_reducible exact ⟨rfl, rfl⟩) | (exfalso; simp_all; done) | exact ⟨rfl, rfl⟩
  · skip
    refine g_vret dX9_comesToOwe_5 ?_
    unfold mf_ctow; (repeat' split) <;> first | contradiction | (with_reducible exact ⟨rfl, rfl⟩) | (exfalso; simp_all; done) | exact ⟨rfl, rfl⟩
end
section
theorem vpi4 {i : Int32} (h : 0 ≤ i ∧ i ≤ 3) : vp_in i 4 := vpi h.1 h.2 (by decide)
theorem vpn4 {i : Int32} (h : -1 ≤ i ∧ i ≤ 3) (h0 : ¬ i < 0) : vp_in i 4 := vpi (Int32.not_lt.mp h0) h.2 (by decide)
theorem ix40 {h q : Int32} (hh : vp_in h 10) (hq : vp_in q 4) : vp_in (4 * h + q) 40 := ixm 4 10 hh hq (by decide) (by decide) (by decide)
theorem ix50 {h q : Int32} (hh : vp_in h 10) (hq : vp_in q 5) : vp_in (5 * h + q) 50 := ixm 5 10 hh hq (by decide) (by decide) (by decide)
theorem ix25 {h q : Int32} (hh : vp_in h 5) (hq : vp_in q 5) : vp_in (5 * h + q) 25 := ixm 5 5 hh hq (by decide) (by decide) (by decide)
theorem ix200 {h q : Int32} (hh : vp_in h 40) (hq : vp_in q 5) : vp_in (5 * h + q) 200 := ixm 5 40 hh hq (by decide) (by decide) (by decide)
theorem ix160 {h q : Int32} (hh : vp_in h 40) (hq : vp_in q 4) : vp_in (4 * h + q) 160 := ixm 4 40 hh hq (by decide) (by decide) (by decide)
theorem vp_nat {x : Int32} {n : Nat} (h : vp_in x n) : x.toNatClampNeg < n := Nat.not_le.mp fun q => h (Or.inr q)
theorem mtell {S : MS} (hI : minv S) (h : ¬ S.1 20 = 30) : vp_in (S.1 20) 30 := by
  obtain ⟨-, ⟨h1, h2⟩, -⟩ := hI
  rw [vp_in_iff]
  refine ⟨h1, ?_⟩
  have h3 : (S.1 20).toInt ≠ 30 := fun e => h (Int32.toInt_inj.mp (e.trans (by decide)))
  omega
theorem mend {S : MS} (hI : minv S) {b : Int32} (hb : vp_in b 40) (h : ¬ S.2.2.1 11 b.toNatClampNeg = 4) : vp_in (S.2.2.1 11 b.toNatClampNeg) 4 := by
  obtain ⟨-, -, -, -, he, -⟩ := hI
  have h2 := he _ (vp_nat hb)
  rw [vp_in_iff]
  refine ⟨h2.1, ?_⟩
  have h3 : (S.2.2.1 11 b.toNatClampNeg).toInt ≠ 4 := fun e => h (Int32.toInt_inj.mp (e.trans (by decide)))
  omega
theorem mhol {S : MS} (hI : minv S) {b : Int32} (hb : vp_in b 40) : vp_in (S.2.2.1 6 b.toNatClampNeg) 10 ∧ vp_in (S.2.2.1 7 b.toNatClampNeg) 10 ∧ vp_in (S.2.2.1 8 b.toNatClampNeg) 10 ∧ vp_in (S.2.2.1 10 b.toNatClampNeg) 5 := hI.2.2.2.2.2.1 _ (vp_nat hb)

def mf_drawn (S : MS) (b kd dr de py am : Int32) : MS := mf_becomes (sB (sB (sB (sB (sB (sA (sA (sA (sA (sA (sA (sA S 5 b.toNatClampNeg kd) 6 b.toNatClampNeg dr) 7 b.toNatClampNeg de) 8 b.toNatClampNeg py) 9 b.toNatClampNeg am) 11 b.toNatClampNeg 0) 14 b.toNatClampNeg (vp_nar .boolean 0)) 13 (5 * b + 0).toNatClampNeg (-1)) 13 (5 * b + (0 + 1)).toNatClampNeg (-1)) 13 (5 * b + (0 + 1 + 1)).toNatClampNeg (-1)) 13 (5 * b + (0 + 1 + 1 + 1)).toNatClampNeg (-1)) 13 (5 * b + (0 + 1 + 1 + 1 + 1)).toNatClampNeg (-1)) b 0
def mf_draw (S : MS) (kd dr de py am : Int32) : Int64 × MS := if (0 ≤ kd ∧ kd ≤ 2) ∧ (0 ≤ dr ∧ dr ≤ 9) ∧ (0 ≤ de ∧ de ≤ 9) ∧ (0 ≤ py ∧ py ≤ 9) ∧ (1 ≤ am ∧ am ≤ 100000) then (if dr = py then mf_finding S (-1000000000005) else if S.1 4 = 40 then mf_finding S (-1000000000004) else ((S.1 4).toInt64, sI (mf_drawn S (S.1 4) kd dr de py am) 4 ((mf_drawn S (S.1 4) kd dr de py am).1 4 + 1))) else mf_finding S (-1000000000001)
set_option maxHeartbeats 4000000 in
set_option maxRecDepth 100000 in
/-- draw -/
theorem M_draw (l : Launch) (D : va_G) (cy : Nat → ClassId) (a : Nat → Nat) (S : MS) (hI : minv S) (kd dr de py am : Int32) : Ct l D clx (tyx cy) yX9_draw wsX9_draw (rmD 2) 0 0 [.ref (a 0), .int kd, .int dr, .int de, .int py, .int am] (MW cy a S) (fun r9 w9 => r9 = some (.long (mf_draw S kd dr de py am).1) ∧ w9 = MW cy a (mf_draw S kd dr de py am).2) := by
  refine g_start (cc := cX9_draw) (maxL := 8) (ret := (some .long)) (by decide) rfl (Nat.le_of_ble_eq_true rfl) (fun v w1 h => by obtain ⟨rfl, -⟩ := h; exact rfl) (fun Γ hlΓ => ?_)
  subst hlΓ
  refine g_iload_n (i := 1) dX9_draw_0 rfl rfl ?_
  refine g_iconst (0) rfl dX9_draw_1 ?_
  refine g_iconst (2) rfl dX9_draw_2 ?_
  refine g_callSf 3 gX9_draw_X9_in rfl rfl rfl ⟨Nat.le_of_ble_eq_true rfl, Nat.le_of_ble_eq_true rfl⟩ ⟨Nat.le_of_ble_eq_true rfl, Nat.le_of_ble_eq_true rfl⟩ (by exact Nat.le_of_ble_eq_true rfl) (by decide +kernel) rfl dX9_draw_3 (M_in _ D cy a _ _ _ _) rfl (fun vu_1 wu_1 hu_1 => ?_)
  rcases hu_1 with ⟨rfl, hu_1, rfl⟩ | ⟨rfl, hu_1, rfl⟩
  · skip
    refine g_if_eq 42 dX9_draw_6 (by decide) (fun h9 => absurd h9 (by decide)) (fun _ => ?_)
    refine g_iload_n (i := 2) dX9_draw_9 rfl rfl ?_
    refine g_callSf 1 gX9_draw_X9_isHouse rfl rfl rfl ⟨Nat.le_of_ble_eq_true rfl, Nat.le_of_ble_eq_true rfl⟩ ⟨Nat.le_of_ble_eq_true rfl, Nat.le_of_ble_eq_true rfl⟩ (by exact Nat.le_of_ble_eq_true rfl) (by decide +kernel) rfl dX9_draw_10 (M_isHouse _ D cy a _ _) rfl (fun vu_3 wu_3 hu_3 => ?_)
    rcases hu_3 with ⟨rfl, hu_3, rfl⟩ | ⟨rfl, hu_3, rfl⟩
    · skip
      refine g_if_eq 42 dX9_draw_13 (by decide) (fun h9 => absurd h9 (by decide)) (fun _ => ?_)
      refine g_iload_n (i := 3) dX9_draw_16 rfl rfl ?_
      refine g_callSf 1 gX9_draw_X9_isHouse rfl rfl rfl ⟨Nat.le_of_ble_eq_true rfl, Nat.le_of_ble_eq_true rfl⟩ ⟨Nat.le_of_ble_eq_true rfl, Nat.le_of_ble_eq_true rfl⟩ (by exact Nat.le_of_ble_eq_true rfl) (by decide +kernel) rfl dX9_draw_17 (M_isHouse _ D cy a _ _) rfl (fun vu_5 wu_5 hu_5 => ?_)
      rcases hu_5 with ⟨rfl, hu_5, rfl⟩ | ⟨rfl, hu_5, rfl⟩
      · skip
        refine g_if_eq 42 dX9_draw_20 (by decide) (fun h9 => absurd h9 (by decide)) (fun _ => ?_)
        refine g_iload dX9_draw_23 rfl ?_
        refine g_callSf 1 gX9_draw_X9_isHouse rfl rfl rfl ⟨Nat.le_of_ble_eq_true rfl, Nat.le_of_ble_eq_true rfl⟩ ⟨Nat.le_of_ble_eq_true rfl, Nat.le_of_ble_eq_true rfl⟩ (by exact Nat.le_of_ble_eq_true rfl) (by decide +kernel) rfl dX9_draw_25 (M_isHouse _ D cy a _ _) rfl (fun vu_7 wu_7 hu_7 => ?_)
        rcases hu_7 with ⟨rfl, hu_7, rfl⟩ | ⟨rfl, hu_7, rfl⟩
        · skip
          refine g_if_eq 42 dX9_draw_28 (by decide) (fun h9 => absurd h9 (by decide)) (fun _ => ?_)
          refine g_iload dX9_draw_31 rfl ?_
          refine g_iconst (1) rfl dX9_draw_33 ?_
          refine g_ldc (100000) (List.mem_of_getElem? (i := 1) rfl) dX9_draw_34 ?_
          refine g_callSf 3 gX9_draw_X9_in rfl rfl rfl ⟨Nat.le_of_ble_eq_true rfl, Nat.le_of_ble_eq_true rfl⟩ ⟨Nat.le_of_ble_eq_true rfl, Nat.le_of_ble_eq_true rfl⟩ (by exact Nat.le_of_ble_eq_true rfl) (by decide +kernel) rfl dX9_draw_36 (M_in _ D cy a _ _ _ _) rfl (fun vu_9 wu_9 hu_9 => ?_)
          rcases hu_9 with ⟨rfl, hu_9, rfl⟩ | ⟨rfl, hu_9, rfl⟩
          · skip
            refine g_if_ne 50 dX9_draw_39 (by decide) (fun _ => ?_) (fun h9 => absurd h9 (by decide))
            refine g_iload_n (i := 2) dX9_draw_50 rfl rfl ?_
            refine g_iload dX9_draw_51 rfl ?_
            refine g_icmp_ne 64 dX9_draw_53 (by decide) (fun c_11 => ?_) (fun c_11 => ?_)
            · skip
              refine g_aload_n (i := 0) dX9_draw_64 rfl rfl ?_
              refine m_get 4 dX9_draw_65 (List.mem_of_getElem? (i := 4) rfl) (fun w h => List.mem_cons_of_mem _ (List.mem_append_right _ h)) (by decide) rfl ?_
              refine g_bipush (40) rfl dX9_draw_68 ?_
              refine g_icmp_ne 81 dX9_draw_70 (by decide) (fun c_12 => ?_) (fun c_12 => ?_)
              · skip
                refine g_aload_n (i := 0) dX9_draw_81 rfl rfl ?_
                refine m_get 4 dX9_draw_82 (List.mem_of_getElem? (i := 4) rfl) (fun w h => List.mem_cons_of_mem _ (List.mem_append_right _ h)) (by decide) rfl ?_
                refine g_istore dX9_draw_85 (by decide) ?_
                refine g_aload_n (i := 0) dX9_draw_87 rfl rfl ?_
                refine m_get 5 dX9_draw_88 (List.mem_of_getElem? (i := 6) rfl) (fun w h => List.mem_cons_of_mem _ (List.mem_append_right _ h)) (by decide) rfl ?_
                refine g_iload dX9_draw_91 rfl ?_
                refine g_iload_n (i := 1) dX9_draw_93 rfl rfl ?_
                refine m_iast 5 3 40 dX9_draw_94 rfl (mnew hI (by assumption)) (wsA_5 _ _ _ _ _) ?_
                refine g_aload_n (i := 0) dX9_draw_95 rfl rfl ?_
                refine m_get 6 dX9_draw_96 (List.mem_of_getElem? (i := 7) rfl) (fun w h => List.mem_cons_of_mem _ (List.mem_append_right _ h)) (by decide) rfl ?_
                refine g_iload dX9_draw_99 rfl ?_
                refine g_iload_n (i := 2) dX9_draw_101 rfl rfl ?_
                refine m_iast 6 4 40 dX9_draw_102 rfl (mnew hI (by assumption)) (wsA_6 _ _ _ _ _) ?_
                refine g_aload_n (i := 0) dX9_draw_103 rfl rfl ?_
                refine m_get 7 dX9_draw_104 (List.mem_of_getElem? (i := 8) rfl) (fun w h => List.mem_cons_of_mem _ (List.mem_append_right _ h)) (by decide) rfl ?_
                refine g_iload dX9_draw_107 rfl ?_
                refine g_iload_n (i := 3) dX9_draw_109 rfl rfl ?_
                refine m_iast 7 5 40 dX9_draw_110 rfl (mnew hI (by assumption)) (wsA_7 _ _ _ _ _) ?_
                refine g_aload_n (i := 0) dX9_draw_111 rfl rfl ?_
                refine m_get 8 dX9_draw_112 (List.mem_of_getElem? (i := 9) rfl) (fun w h => List.mem_cons_of_mem _ (List.mem_append_right _ h)) (by decide) rfl ?_
                refine g_iload dX9_draw_115 rfl ?_
                refine g_iload dX9_draw_117 rfl ?_
                refine m_iast 8 6 40 dX9_draw_119 rfl (mnew hI (by assumption)) (wsA_8 _ _ _ _ _) ?_
                refine g_aload_n (i := 0) dX9_draw_120 rfl rfl ?_
                refine m_get 9 dX9_draw_121 (List.mem_of_getElem? (i := 10) rfl) (fun w h => List.mem_cons_of_mem _ (List.mem_append_right _ h)) (by decide) rfl ?_
                refine g_iload dX9_draw_124 rfl ?_
                refine g_iload dX9_draw_126 rfl ?_
                refine m_iast 9 7 40 dX9_draw_128 rfl (mnew hI (by assumption)) (wsA_9 _ _ _ _ _) ?_
                refine g_aload_n (i := 0) dX9_draw_129 rfl rfl ?_
                refine m_get 11 dX9_draw_130 (List.mem_of_getElem? (i := 11) rfl) (fun w h => List.mem_cons_of_mem _ (List.mem_append_right _ h)) (by decide) rfl ?_
                refine g_iload dX9_draw_133 rfl ?_
                refine g_iconst (0) rfl dX9_draw_135 ?_
                refine m_iast 11 9 40 dX9_draw_136 rfl (mnew hI (by assumption)) (wsA_11 _ _ _ _ _) ?_
                refine g_aload_n (i := 0) dX9_draw_137 rfl rfl ?_
                refine m_get 14 dX9_draw_138 (List.mem_of_getElem? (i := 12) rfl) (fun w h => List.mem_cons_of_mem _ (List.mem_append_right _ h)) (by decide) rfl ?_
                refine g_iload dX9_draw_141 rfl ?_
                refine g_iconst (0) rfl dX9_draw_143 ?_
                refine m_zast 14 12 40 dX9_draw_144 rfl (mnew hI (by assumption)) (wsA_14 _ _ _ _ _) ?_
                refine g_iconst (0) rfl dX9_draw_145 ?_
                refine g_istore dX9_draw_146 (by decide) ?_
                refine g_iload dX9_draw_148 rfl ?_
                refine g_iconst (5) rfl dX9_draw_150 ?_
                refine g_icmp_ge 175 dX9_draw_151 (by decide) (fun h9 => absurd h9 (by decide)) (fun _ => ?_)
                refine g_aload_n (i := 0) dX9_draw_154 rfl rfl ?_
                refine m_get 13 dX9_draw_155 (List.mem_of_getElem? (i := 13) rfl) (fun w h => List.mem_cons_of_mem _ (List.mem_append_right _ h)) (by decide) rfl ?_
                refine g_iconst (5) rfl dX9_draw_158 ?_
                refine g_iload dX9_draw_159 rfl ?_
                refine g_imul dX9_draw_161 ?_
                refine g_iload dX9_draw_162 rfl ?_
                refine g_iadd dX9_draw_164 ?_
                refine g_ldc2 (-1) (List.mem_of_getElem? (i := 14) rfl) dX9_draw_165 ?_
                refine m_last 13 11 200 dX9_draw_168 rfl (ix200 (mnew hI (by assumption)) (by unfold vp_in; decide)) (wsA_13 _ _ _ _ _) ?_
                refine g_iinc (1) dX9_draw_169 rfl rfl (by decide) ?_
                refine g_goto 148 dX9_draw_172 (by decide) ?_
                refine g_iload dX9_draw_148 rfl ?_
                refine g_iconst (5) rfl dX9_draw_150 ?_
                refine g_icmp_ge 175 dX9_draw_151 (by decide) (fun h9 => absurd h9 (by decide)) (fun _ => ?_)
                refine g_aload_n (i := 0) dX9_draw_154 rfl rfl ?_
                refine m_get 13 dX9_draw_155 (List.mem_of_getElem? (i := 13) rfl) (fun w h => List.mem_cons_of_mem _ (List.mem_append_right _ h)) (by decide) rfl ?_
                refine g_iconst (5) rfl dX9_draw_158 ?_
                refine g_iload dX9_draw_159 rfl ?_
                refine g_imul dX9_draw_161 ?_
                refine g_iload dX9_draw_162 rfl ?_
                refine g_iadd dX9_draw_164 ?_
                refine g_ldc2 (-1) (List.mem_of_getElem? (i := 14) rfl) dX9_draw_165 ?_
                refine m_last 13 11 200 dX9_draw_168 rfl (ix200 (mnew hI (by assumption)) (by unfold vp_in; decide)) (wsA_13 _ _ _ _ _) ?_
                refine g_iinc (1) dX9_draw_169 rfl rfl (by decide) ?_
                refine g_goto 148 dX9_draw_172 (by decide) ?_
                refine g_iload dX9_draw_148 rfl ?_
                refine g_iconst (5) rfl dX9_draw_150 ?_
                refine g_icmp_ge 175 dX9_draw_151 (by decide) (fun h9 => absurd h9 (by decide)) (fun _ => ?_)
                refine g_aload_n (i := 0) dX9_draw_154 rfl rfl ?_
                refine m_get 13 dX9_draw_155 (List.mem_of_getElem? (i := 13) rfl) (fun w h => List.mem_cons_of_mem _ (List.mem_append_right _ h)) (by decide) rfl ?_
                refine g_iconst (5) rfl dX9_draw_158 ?_
                refine g_iload dX9_draw_159 rfl ?_
                refine g_imul dX9_draw_161 ?_
                refine g_iload dX9_draw_162 rfl ?_
                refine g_iadd dX9_draw_164 ?_
                refine g_ldc2 (-1) (List.mem_of_getElem? (i := 14) rfl) dX9_draw_165 ?_
                refine m_last 13 11 200 dX9_draw_168 rfl (ix200 (mnew hI (by assumption)) (by unfold vp_in; decide)) (wsA_13 _ _ _ _ _) ?_
                refine g_iinc (1) dX9_draw_169 rfl rfl (by decide) ?_
                refine g_goto 148 dX9_draw_172 (by decide) ?_
                refine g_iload dX9_draw_148 rfl ?_
                refine g_iconst (5) rfl dX9_draw_150 ?_
                refine g_icmp_ge 175 dX9_draw_151 (by decide) (fun h9 => absurd h9 (by decide)) (fun _ => ?_)
                refine g_aload_n (i := 0) dX9_draw_154 rfl rfl ?_
                refine m_get 13 dX9_draw_155 (List.mem_of_getElem? (i := 13) rfl) (fun w h => List.mem_cons_of_mem _ (List.mem_append_right _ h)) (by decide) rfl ?_
                refine g_iconst (5) rfl dX9_draw_158 ?_
                refine g_iload dX9_draw_159 rfl ?_
                refine g_imul dX9_draw_161 ?_
                refine g_iload dX9_draw_162 rfl ?_
                refine g_iadd dX9_draw_164 ?_
                refine g_ldc2 (-1) (List.mem_of_getElem? (i := 14) rfl) dX9_draw_165 ?_
                refine m_last 13 11 200 dX9_draw_168 rfl (ix200 (mnew hI (by assumption)) (by unfold vp_in; decide)) (wsA_13 _ _ _ _ _) ?_
                refine g_iinc (1) dX9_draw_169 rfl rfl (by decide) ?_
                refine g_goto 148 dX9_draw_172 (by decide) ?_
                refine g_iload dX9_draw_148 rfl ?_
                refine g_iconst (5) rfl dX9_draw_150 ?_
                refine g_icmp_ge 175 dX9_draw_151 (by decide) (fun h9 => absurd h9 (by decide)) (fun _ => ?_)
                refine g_aload_n (i := 0) dX9_draw_154 rfl rfl ?_
                refine m_get 13 dX9_draw_155 (List.mem_of_getElem? (i := 13) rfl) (fun w h => List.mem_cons_of_mem _ (List.mem_append_right _ h)) (by decide) rfl ?_
                refine g_iconst (5) rfl dX9_draw_158 ?_
                refine g_iload dX9_draw_159 rfl ?_
                refine g_imul dX9_draw_161 ?_
                refine g_iload dX9_draw_162 rfl ?_
                refine g_iadd dX9_draw_164 ?_
                refine g_ldc2 (-1) (List.mem_of_getElem? (i := 14) rfl) dX9_draw_165 ?_
                refine m_last 13 11 200 dX9_draw_168 rfl (ix200 (mnew hI (by assumption)) (by unfold vp_in; decide)) (wsA_13 _ _ _ _ _) ?_
                refine g_iinc (1) dX9_draw_169 rfl rfl (by decide) ?_
                refine g_goto 148 dX9_draw_172 (by decide) ?_
                refine g_iload dX9_draw_148 rfl ?_
                refine g_iconst (5) rfl dX9_draw_150 ?_
                refine g_icmp_ge 175 dX9_draw_151 (by decide) (fun _ => ?_) (fun h9 => absurd h9 (by decide))
                refine g_aload_n (i := 0) dX9_draw_175 rfl rfl ?_
                refine g_iload dX9_draw_176 rfl ?_
                refine g_iconst (0) rfl dX9_draw_178 ?_
                refine g_callVf 2 0 gX9_draw_X9_becomes rfl rfl rfl ⟨Nat.le_of_ble_eq_true rfl, Nat.le_of_ble_eq_true rfl⟩ ⟨Nat.le_of_ble_eq_true rfl, Nat.le_of_ble_eq_true rfl⟩ (by exact Nat.le_of_ble_eq_true rfl) (by decide +kernel) rfl rfl rfl dX9_draw_179 (M_becomes _ D cy a _ _ _ (by first | with_reducible assumption | exact mbill hI (by with_reducible assumption) | exact mnew hI (by with_reducible assumption)) (by unfold vp_in; decide)) rfl (fun vu_19 wu_19 hu_19 => ?_)
                obtain ⟨rfl, rfl⟩ := hu_19
                refine g_aload_n (i := 0) dX9_draw_182 rfl rfl ?_
                refine g_dup rfl dX9_draw_183 ?_
                refine m_get 4 dX9_draw_184 (List.mem_of_getElem? (i := 4) rfl) (fun w h => List.mem_cons_of_mem _ (List.mem_append_right _ h)) (by decide) rfl ?_
                refine g_iconst (1) rfl dX9_draw_187 ?_
                refine g_iadd dX9_draw_188 ?_
                refine m_puti 4 dX9_draw_189 (List.mem_of_getElem? (i := 4) rfl) (fun w h => List.mem_cons_of_mem _ (List.mem_append_right _ h)) (by decide) rfl rfl rfl (wsI_4 _ _ _ _) ?_
                refine g_iload dX9_draw_192 rfl ?_
                refine g_i2l dX9_draw_194 ?_
                refine g_lret dX9_draw_195 ?_
                unfold mf_draw; (repeat' split) <;> first | contradiction | (with_reducible exact ⟨rfl, rfl⟩) | (exfalso; simp_all; done) | exact ⟨rfl, rfl⟩
              · skip
                refine g_aload_n (i := 0) dX9_draw_73 rfl rfl ?_
                refine g_ldc2 (-1000000000004) (List.mem_of_getElem? (i := 5) rfl) dX9_draw_74 ?_
                refine g_callVf 1 0 gX9_draw_X9_finding rfl rfl rfl ⟨Nat.le_of_ble_eq_true rfl, Nat.le_of_ble_eq_true rfl⟩ ⟨Nat.le_of_ble_eq_true rfl, Nat.le_of_ble_eq_true rfl⟩ (by exact Nat.le_of_ble_eq_true rfl) (by decide +kernel) rfl rfl rfl dX9_draw_77 (M_finding _ D cy a _ _ (by unfold vp_in; decide)) rfl (fun vu_20 wu_20 hu_20 => ?_)
                obtain ⟨rfl, rfl⟩ := hu_20
                refine g_lret dX9_draw_80 ?_
                unfold mf_draw; (repeat' split) <;> first | contradiction | (with_reducible exact ⟨rfl, rfl⟩) | (exfalso; simp_all; done) | exact ⟨rfl, rfl⟩
            · skip
              refine g_aload_n (i := 0) dX9_draw_56 rfl rfl ?_
              refine g_ldc2 (-1000000000005) (List.mem_of_getElem? (i := 3) rfl) dX9_draw_57 ?_
              refine g_callVf 1 0 gX9_draw_X9_finding rfl rfl rfl ⟨Nat.le_of_ble_eq_true rfl, Nat.le_of_ble_eq_true rfl⟩ ⟨Nat.le_of_ble_eq_true rfl, Nat.le_of_ble_eq_true rfl⟩ (by exact Nat.le_of_ble_eq_true rfl) (by decide +kernel) rfl rfl rfl dX9_draw_60 (M_finding _ D cy a _ _ (by unfold vp_in; decide)) rfl (fun vu_21 wu_21 hu_21 => ?_)
              obtain ⟨rfl, rfl⟩ := hu_21
              refine g_lret dX9_draw_63 ?_
              unfold mf_draw; (repeat' split) <;> first | contradiction | (with_reducible exact ⟨rfl, rfl⟩) | (exfalso; simp_all; done) | exact ⟨rfl, rfl⟩
          · skip
            refine g_if_ne 50 dX9_draw_39 (by decide) (fun h9 => absurd h9 (by decide)) (fun _ => ?_)
            refine g_aload_n (i := 0) dX9_draw_42 rfl rfl ?_
            refine g_ldc2 (-1000000000001) (List.mem_of_getElem? (i := 2) rfl) dX9_draw_43 ?_
            refine g_callVf 1 0 gX9_draw_X9_finding rfl rfl rfl ⟨Nat.le_of_ble_eq_true rfl, Nat.le_of_ble_eq_true rfl⟩ ⟨Nat.le_of_ble_eq_true rfl, Nat.le_of_ble_eq_true rfl⟩ (by exact Nat.le_of_ble_eq_true rfl) (by decide +kernel) rfl rfl rfl dX9_draw_46 (M_finding _ D cy a _ _ (by unfold vp_in; decide)) rfl (fun vu_23 wu_23 hu_23 => ?_)
            obtain ⟨rfl, rfl⟩ := hu_23
            refine g_lret dX9_draw_49 ?_
            unfold mf_draw; (repeat' split) <;> first | contradiction | (with_reducible exact ⟨rfl, rfl⟩) | (exfalso; simp_all; done) | exact ⟨rfl, rfl⟩
        · skip
          refine g_if_eq 42 dX9_draw_28 (by decide) (fun _ => ?_) (fun h9 => absurd h9 (by decide))
          refine g_aload_n (i := 0) dX9_draw_42 rfl rfl ?_
          refine g_ldc2 (-1000000000001) (List.mem_of_getElem? (i := 2) rfl) dX9_draw_43 ?_
          refine g_callVf 1 0 gX9_draw_X9_finding rfl rfl rfl ⟨Nat.le_of_ble_eq_true rfl, Nat.le_of_ble_eq_true rfl⟩ ⟨Nat.le_of_ble_eq_true rfl, Nat.le_of_ble_eq_true rfl⟩ (by exact Nat.le_of_ble_eq_true rfl) (by decide +kernel) rfl rfl rfl dX9_draw_46 (M_finding _ D cy a _ _ (by unfold vp_in; decide)) rfl (fun vu_25 wu_25 hu_25 => ?_)
          obtain ⟨rfl, rfl⟩ := hu_25
          refine g_lret dX9_draw_49 ?_
          unfold mf_draw; (repeat' split) <;> first | contradiction | (with_reducible exact ⟨rfl, rfl⟩) | (exfalso; simp_all; done) | exact ⟨rfl, rfl⟩
      · skip
        refine g_if_eq 42 dX9_draw_20 (by decide) (fun _ => ?_) (fun h9 => absurd h9 (by decide))
        refine g_aload_n (i := 0) dX9_draw_42 rfl rfl ?_
        refine g_ldc2 (-1000000000001) (List.mem_of_getElem? (i := 2) rfl) dX9_draw_43 ?_
        refine g_callVf 1 0 gX9_draw_X9_finding rfl rfl rfl ⟨Nat.le_of_ble_eq_true rfl, Nat.le_of_ble_eq_true rfl⟩ ⟨Nat.le_of_ble_eq_true rfl, Nat.le_of_ble_eq_true rfl⟩ (by exact Nat.le_of_ble_eq_true rfl) (by decide +kernel) rfl rfl rfl dX9_draw_46 (M_finding _ D cy a _ _ (by unfold vp_in; decide)) rfl (fun vu_27 wu_27 hu_27 => ?_)
        obtain ⟨rfl, rfl⟩ := hu_27
        refine g_lret dX9_draw_49 ?_
        unfold mf_draw; (repeat' split) <;> first | contradiction | (with_reducible exact ⟨rfl, rfl⟩) | (exfalso; simp_all; done) | exact ⟨rfl, rfl⟩
    · skip
      refine g_if_eq 42 dX9_draw_13 (by decide) (fun _ => ?_) (fun h9 => absurd h9 (by decide))
      refine g_aload_n (i := 0) dX9_draw_42 rfl rfl ?_
      refine g_ldc2 (-1000000000001) (List.mem_of_getElem? (i := 2) rfl) dX9_draw_43 ?_
      refine g_callVf 1 0 gX9_draw_X9_finding rfl rfl rfl ⟨Nat.le_of_ble_eq_true rfl, Nat.le_of_ble_eq_true rfl⟩ ⟨Nat.le_of_ble_eq_true rfl, Nat.le_of_ble_eq_true rfl⟩ (by exact Nat.le_of_ble_eq_true rfl) (by decide +kernel) rfl rfl rfl dX9_draw_46 (M_finding _ D cy a _ _ (by unfold vp_in; decide)) rfl (fun vu_29 wu_29 hu_29 => ?_)
      obtain ⟨rfl, rfl⟩ := hu_29
      refine g_lret dX9_draw_49 ?_
      unfold mf_draw; (repeat' split) <;> first | contradiction | (with_reducible exact ⟨rfl, rfl⟩) | (exfalso; simp_all; done) | exact ⟨rfl, rfl⟩
  · skip
    refine g_if_eq 42 dX9_draw_6 (by decide) (fun _ => ?_) (fun h9 => absurd h9 (by decide))
    refine g_aload_n (i := 0) dX9_draw_42 rfl rfl ?_
    refine g_ldc2 (-1000000000001) (List.mem_of_getElem? (i := 2) rfl) dX9_draw_43 ?_
    refine g_callVf 1 0 gX9_draw_X9_finding rfl rfl rfl ⟨Nat.le_of_ble_eq_true rfl, Nat.le_of_ble_eq_true rfl⟩ ⟨Nat.le_of_ble_eq_true rfl, Nat.le_of_ble_eq_true rfl⟩ (by exact Nat.le_of_ble_eq_true rfl) (by decide +kernel) rfl rfl rfl dX9_draw_46 (M_finding _ D cy a _ _ (by unfold vp_in; decide)) rfl (fun vu_31 wu_31 hu_31 => ?_)
    obtain ⟨rfl, rfl⟩ := hu_31
    refine g_lret dX9_draw_49 ?_
    unfold mf_draw; (repeat' split) <;> first | contradiction | (with_reducible exact ⟨rfl, rfl⟩) | (exfalso; simp_all; done) | exact ⟨rfl, rfl⟩

def mf_pass1 (S : MS) (b h : Int32) : MS := sA S 8 b.toNatClampNeg h
def mf_pass2 (S : MS) (b : Int32) : MS := sA (sA S 12 (4 * b + S.2.2.1 11 b.toNatClampNeg).toNatClampNeg (S.2.2.1 8 b.toNatClampNeg)) 11 b.toNatClampNeg ((sA S 12 (4 * b + S.2.2.1 11 b.toNatClampNeg).toNatClampNeg (S.2.2.1 8 b.toNatClampNeg)).2.2.1 11 b.toNatClampNeg + 1)
def mf_pass (S : MS) (b h : Int32) : Int64 × MS := if (0 ≤ b ∧ b ≤ S.1 4 - 1) ∧ (0 ≤ h ∧ h ≤ 9) then (if ¬ S.2.2.1 10 b.toNatClampNeg = 0 ∧ ¬ S.2.2.1 10 b.toNatClampNeg = 1 then mf_finding S (-1000000000003) else if S.2.2.1 8 b.toNatClampNeg = h then mf_finding S (-1000000000005) else if S.2.2.1 5 b.toNatClampNeg = 1 then (((mf_pass1 S b h).2.2.1 11 b.toNatClampNeg).toInt64, mf_pass1 S b h) else if S.2.2.1 11 b.toNatClampNeg = 4 then mf_finding S (-1000000000004) else (((mf_pass1 (mf_pass2 S b) b h).2.2.1 11 b.toNatClampNeg).toInt64, mf_pass1 (mf_pass2 S b) b h)) else mf_finding S (-1000000000001)
set_option maxHeartbeats 4000000 in
set_option maxRecDepth 100000 in
/-- pass -/
theorem M_pass (l : Launch) (D : va_G) (cy : Nat → ClassId) (a : Nat → Nat) (S : MS) (hI : minv S) (b h : Int32) : Ct l D clx (tyx cy) yX9_pass wsX9_pass (rmD 2) 0 0 [.ref (a 0), .int b, .int h] (MW cy a S) (fun r9 w9 => r9 = some (.long (mf_pass S b h).1) ∧ w9 = MW cy a (mf_pass S b h).2) := by
  refine g_start (cc := cX9_pass) (maxL := 3) (ret := (some .long)) (by decide) rfl (Nat.le_of_ble_eq_true rfl) (fun v w1 h => by obtain ⟨rfl, -⟩ := h; exact rfl) (fun Γ hlΓ => ?_)
  subst hlΓ
  refine g_aload_n (i := 0) dX9_pass_0 rfl rfl ?_
  refine g_iload_n (i := 1) dX9_pass_1 rfl rfl ?_
  refine g_callVf 1 0 gX9_pass_X9_isBill rfl rfl rfl ⟨Nat.le_of_ble_eq_true rfl, Nat.le_of_ble_eq_true rfl⟩ ⟨Nat.le_of_ble_eq_true rfl, Nat.le_of_ble_eq_true rfl⟩ (by exact Nat.le_of_ble_eq_true rfl) (by decide +kernel) rfl rfl rfl dX9_pass_2 (M_isBill _ D cy a _ _) rfl (fun vu_1 wu_1 hu_1 => ?_)
  rcases hu_1 with ⟨rfl, hu_1, rfl⟩ | ⟨rfl, hu_1, rfl⟩
  · skip
    refine g_if_eq 15 dX9_pass_5 (by decide) (fun h9 => absurd h9 (by decide)) (fun _ => ?_)
    refine g_iload_n (i := 2) dX9_pass_8 rfl rfl ?_
    refine g_callSf 1 gX9_pass_X9_isHouse rfl rfl rfl ⟨Nat.le_of_ble_eq_true rfl, Nat.le_of_ble_eq_true rfl⟩ ⟨Nat.le_of_ble_eq_true rfl, Nat.le_of_ble_eq_true rfl⟩ (by exact Nat.le_of_ble_eq_true rfl) (by decide +kernel) rfl dX9_pass_9 (M_isHouse _ D cy a _ _) rfl (fun vu_3 wu_3 hu_3 => ?_)
    rcases hu_3 with ⟨rfl, hu_3, rfl⟩ | ⟨rfl, hu_3, rfl⟩
    · skip
      refine g_if_ne 23 dX9_pass_12 (by decide) (fun _ => ?_) (fun h9 => absurd h9 (by decide))
      refine g_aload_n (i := 0) dX9_pass_23 rfl rfl ?_
      refine m_get 10 dX9_pass_24 (List.mem_of_getElem? (i := 2) rfl) (fun w h => List.mem_cons_of_mem _ (List.mem_append_right _ h)) (by decide) rfl ?_
      refine g_iload_n (i := 1) dX9_pass_27 rfl rfl ?_
      refine m_iald 10 8 40 dX9_pass_28 rfl (mbill hI (by assumption)) ?_
      refine g_if_eq 50 dX9_pass_29 (by decide) (fun c_5 => ?_) (fun c_5 => ?_)
      · skip
        refine g_aload_n (i := 0) dX9_pass_50 rfl rfl ?_
        refine m_get 8 dX9_pass_51 (List.mem_of_getElem? (i := 4) rfl) (fun w h => List.mem_cons_of_mem _ (List.mem_append_right _ h)) (by decide) rfl ?_
        refine g_iload_n (i := 1) dX9_pass_54 rfl rfl ?_
        refine m_iald 8 6 40 dX9_pass_55 rfl (mbill hI (by assumption)) ?_
        refine g_iload_n (i := 2) dX9_pass_56 rfl rfl ?_
        refine g_icmp_ne 68 dX9_pass_57 (by decide) (fun c_6 => ?_) (fun c_6 => ?_)
        · skip
          refine g_aload_n (i := 0) dX9_pass_68 rfl rfl ?_
          refine m_get 5 dX9_pass_69 (List.mem_of_getElem? (i := 6) rfl) (fun w h => List.mem_cons_of_mem _ (List.mem_append_right _ h)) (by decide) rfl ?_
          refine g_iload_n (i := 1) dX9_pass_72 rfl rfl ?_
          refine m_iald 5 3 40 dX9_pass_73 rfl (mbill hI (by assumption)) ?_
          refine g_iconst (1) rfl dX9_pass_74 ?_
          refine g_icmp_eq 127 dX9_pass_75 (by decide) (fun c_7 => ?_) (fun c_7 => ?_)
          · skip
            refine g_aload_n (i := 0) dX9_pass_127 rfl rfl ?_
            refine m_get 8 dX9_pass_128 (List.mem_of_getElem? (i := 4) rfl) (fun w h => List.mem_cons_of_mem _ (List.mem_append_right _ h)) (by decide) rfl ?_
            refine g_iload_n (i := 1) dX9_pass_131 rfl rfl ?_
            refine g_iload_n (i := 2) dX9_pass_132 rfl rfl ?_
            refine m_iast 8 6 40 dX9_pass_133 rfl (mbill hI (by assumption)) (wsA_8 _ _ _ _ _) ?_
            refine g_aload_n (i := 0) dX9_pass_134 rfl rfl ?_
            refine m_get 11 dX9_pass_135 (List.mem_of_getElem? (i := 7) rfl) (fun w h => List.mem_cons_of_mem _ (List.mem_append_right _ h)) (by decide) rfl ?_
            refine g_iload_n (i := 1) dX9_pass_138 rfl rfl ?_
            refine m_iald 11 9 40 dX9_pass_139 rfl (mbill hI (by assumption)) ?_
            refine g_i2l dX9_pass_140 ?_
            refine g_lret dX9_pass_141 ?_
            unfold mf_pass; (repeat' split) <;> first | contradiction | (with_reducible exact ⟨rfl, rfl⟩) | (exfalso; simp_all; done) | exact ⟨rfl, rfl⟩
          · skip
            refine g_aload_n (i := 0) dX9_pass_78 rfl rfl ?_
            refine m_get 11 dX9_pass_79 (List.mem_of_getElem? (i := 7) rfl) (fun w h => List.mem_cons_of_mem _ (List.mem_append_right _ h)) (by decide) rfl ?_
            refine g_iload_n (i := 1) dX9_pass_82 rfl rfl ?_
            refine m_iald 11 9 40 dX9_pass_83 rfl (mbill hI (by assumption)) ?_
            refine g_iconst (4) rfl dX9_pass_84 ?_
            refine g_icmp_ne 96 dX9_pass_85 (by decide) (fun c_8 => ?_) (fun c_8 => ?_)
            · skip
              refine g_aload_n (i := 0) dX9_pass_96 rfl rfl ?_
              refine m_get 12 dX9_pass_97 (List.mem_of_getElem? (i := 9) rfl) (fun w h => List.mem_cons_of_mem _ (List.mem_append_right _ h)) (by decide) rfl ?_
              refine g_iconst (4) rfl dX9_pass_100 ?_
              refine g_iload_n (i := 1) dX9_pass_101 rfl rfl ?_
              refine g_imul dX9_pass_102 ?_
              refine g_aload_n (i := 0) dX9_pass_103 rfl rfl ?_
              refine m_get 11 dX9_pass_104 (List.mem_of_getElem? (i := 7) rfl) (fun w h => List.mem_cons_of_mem _ (List.mem_append_right _ h)) (by decide) rfl ?_
              refine g_iload_n (i := 1) dX9_pass_107 rfl rfl ?_
              refine m_iald 11 9 40 dX9_pass_108 rfl (mbill hI (by assumption)) ?_
              refine g_iadd dX9_pass_109 ?_
              refine g_aload_n (i := 0) dX9_pass_110 rfl rfl ?_
              refine m_get 8 dX9_pass_111 (List.mem_of_getElem? (i := 4) rfl) (fun w h => List.mem_cons_of_mem _ (List.mem_append_right _ h)) (by decide) rfl ?_
              refine g_iload_n (i := 1) dX9_pass_114 rfl rfl ?_
              refine m_iald 8 6 40 dX9_pass_115 rfl (mbill hI (by assumption)) ?_
              refine m_iast 12 10 160 dX9_pass_116 rfl (ix160 (mbill hI (by assumption)) (mend hI (mbill hI (by assumption)) (by assumption))) (wsA_12 _ _ _ _ _) ?_
              refine g_aload_n (i := 0) dX9_pass_117 rfl rfl ?_
              refine m_get 11 dX9_pass_118 (List.mem_of_getElem? (i := 7) rfl) (fun w h => List.mem_cons_of_mem _ (List.mem_append_right _ h)) (by decide) rfl ?_
              refine g_iload_n (i := 1) dX9_pass_121 rfl rfl ?_
              refine g_dup2_11 rfl rfl dX9_pass_122 ?_
              refine m_iald 11 9 40 dX9_pass_123 rfl (mbill hI (by assumption)) ?_
              refine g_iconst (1) rfl dX9_pass_124 ?_
              refine g_iadd dX9_pass_125 ?_
              refine m_iast 11 9 40 dX9_pass_126 rfl (mbill hI (by assumption)) (wsA_11 _ _ _ _ _) ?_
              refine g_aload_n (i := 0) dX9_pass_127 rfl rfl ?_
              refine m_get 8 dX9_pass_128 (List.mem_of_getElem? (i := 4) rfl) (fun w h => List.mem_cons_of_mem _ (List.mem_append_right _ h)) (by decide) rfl ?_
              refine g_iload_n (i := 1) dX9_pass_131 rfl rfl ?_
              refine g_iload_n (i := 2) dX9_pass_132 rfl rfl ?_
              refine m_iast 8 6 40 dX9_pass_133 rfl (mbill hI (by assumption)) (wsA_8 _ _ _ _ _) ?_
              refine g_aload_n (i := 0) dX9_pass_134 rfl rfl ?_
              refine m_get 11 dX9_pass_135 (List.mem_of_getElem? (i := 7) rfl) (fun w h => List.mem_cons_of_mem _ (List.mem_append_right _ h)) (by decide) rfl ?_
              refine g_iload_n (i := 1) dX9_pass_138 rfl rfl ?_
              refine m_iald 11 9 40 dX9_pass_139 rfl (mbill hI (by assumption)) ?_
              refine g_i2l dX9_pass_140 ?_
              refine g_lret dX9_pass_141 ?_
              unfold mf_pass; (repeat' split) <;> first | contradiction | (with_reducible exact ⟨rfl, rfl⟩) | (exfalso; simp_all; done) | exact ⟨rfl, rfl⟩
            · skip
              refine g_aload_n (i := 0) dX9_pass_88 rfl rfl ?_
              refine g_ldc2 (-1000000000004) (List.mem_of_getElem? (i := 8) rfl) dX9_pass_89 ?_
              refine g_callVf 1 0 gX9_pass_X9_finding rfl rfl rfl ⟨Nat.le_of_ble_eq_true rfl, Nat.le_of_ble_eq_true rfl⟩ ⟨Nat.le_of_ble_eq_true rfl, Nat.le_of_ble_eq_true rfl⟩ (by exact Nat.le_of_ble_eq_true rfl) (by decide +kernel) rfl rfl rfl dX9_pass_92 (M_finding _ D cy a _ _ (by unfold vp_in; decide)) rfl (fun vu_9 wu_9 hu_9 => ?_)
              obtain ⟨rfl, rfl⟩ := hu_9
              refine g_lret dX9_pass_95 ?_
              unfold mf_pass; (repeat' split) <;> first | contradiction | (with_reducible exact ⟨rfl, rfl⟩) | (exfalso; simp_all; done) | exact ⟨rfl, rfl⟩
        · skip
          refine g_aload_n (i := 0) dX9_pass_60 rfl rfl ?_
          refine g_ldc2 (-1000000000005) (List.mem_of_getElem? (i := 5) rfl) dX9_pass_61 ?_
          refine g_callVf 1 0 gX9_pass_X9_finding rfl rfl rfl ⟨Nat.le_of_ble_eq_true rfl, Nat.le_of_ble_eq_true rfl⟩ ⟨Nat.le_of_ble_eq_true rfl, Nat.le_of_ble_eq_true rfl⟩ (by exact Nat.le_of_ble_eq_true rfl) (by decide +kernel) rfl rfl rfl dX9_pass_64 (M_finding _ D cy a _ _ (by unfold vp_in; decide)) rfl (fun vu_10 wu_10 hu_10 => ?_)
          obtain ⟨rfl, rfl⟩ := hu_10
          refine g_lret dX9_pass_67 ?_
          unfold mf_pass; (repeat' split) <;> first | contradiction | (with_reducible exact ⟨rfl, rfl⟩) | (exfalso; simp_all; done) | exact ⟨rfl, rfl⟩
      · skip
        refine g_aload_n (i := 0) dX9_pass_32 rfl rfl ?_
        refine m_get 10 dX9_pass_33 (List.mem_of_getElem? (i := 2) rfl) (fun w h => List.mem_cons_of_mem _ (List.mem_append_right _ h)) (by decide) rfl ?_
        refine g_iload_n (i := 1) dX9_pass_36 rfl rfl ?_
        refine m_iald 10 8 40 dX9_pass_37 rfl (mbill hI (by assumption)) ?_
        refine g_iconst (1) rfl dX9_pass_38 ?_
        refine g_icmp_eq 50 dX9_pass_39 (by decide) (fun c_11 => ?_) (fun c_11 => ?_)
        · skip
          refine g_aload_n (i := 0) dX9_pass_50 rfl rfl ?_
          refine m_get 8 dX9_pass_51 (List.mem_of_getElem? (i := 4) rfl) (fun w h => List.mem_cons_of_mem _ (List.mem_append_right _ h)) (by decide) rfl ?_
          refine g_iload_n (i := 1) dX9_pass_54 rfl rfl ?_
          refine m_iald 8 6 40 dX9_pass_55 rfl (mbill hI (by assumption)) ?_
          refine g_iload_n (i := 2) dX9_pass_56 rfl rfl ?_
          refine g_icmp_ne 68 dX9_pass_57 (by decide) (fun c_12 => ?_) (fun c_12 => ?_)
          · skip
            refine g_aload_n (i := 0) dX9_pass_68 rfl rfl ?_
            refine m_get 5 dX9_pass_69 (List.mem_of_getElem? (i := 6) rfl) (fun w h => List.mem_cons_of_mem _ (List.mem_append_right _ h)) (by decide) rfl ?_
            refine g_iload_n (i := 1) dX9_pass_72 rfl rfl ?_
            refine m_iald 5 3 40 dX9_pass_73 rfl (mbill hI (by assumption)) ?_
            refine g_iconst (1) rfl dX9_pass_74 ?_
            refine g_icmp_eq 127 dX9_pass_75 (by decide) (fun c_13 => ?_) (fun c_13 => ?_)
            · skip
              refine g_aload_n (i := 0) dX9_pass_127 rfl rfl ?_
              refine m_get 8 dX9_pass_128 (List.mem_of_getElem? (i := 4) rfl) (fun w h => List.mem_cons_of_mem _ (List.mem_append_right _ h)) (by decide) rfl ?_
              refine g_iload_n (i := 1) dX9_pass_131 rfl rfl ?_
              refine g_iload_n (i := 2) dX9_pass_132 rfl rfl ?_
              refine m_iast 8 6 40 dX9_pass_133 rfl (mbill hI (by assumption)) (wsA_8 _ _ _ _ _) ?_
              refine g_aload_n (i := 0) dX9_pass_134 rfl rfl ?_
              refine m_get 11 dX9_pass_135 (List.mem_of_getElem? (i := 7) rfl) (fun w h => List.mem_cons_of_mem _ (List.mem_append_right _ h)) (by decide) rfl ?_
              refine g_iload_n (i := 1) dX9_pass_138 rfl rfl ?_
              refine m_iald 11 9 40 dX9_pass_139 rfl (mbill hI (by assumption)) ?_
              refine g_i2l dX9_pass_140 ?_
              refine g_lret dX9_pass_141 ?_
              unfold mf_pass; (repeat' split) <;> first | contradiction | (with_reducible exact ⟨rfl, rfl⟩) | (exfalso; simp_all; done) | exact ⟨rfl, rfl⟩
            · skip
              refine g_aload_n (i := 0) dX9_pass_78 rfl rfl ?_
              refine m_get 11 dX9_pass_79 (List.mem_of_getElem? (i := 7) rfl) (fun w h => List.mem_cons_of_mem _ (List.mem_append_right _ h)) (by decide) rfl ?_
              refine g_iload_n (i := 1) dX9_pass_82 rfl rfl ?_
              refine m_iald 11 9 40 dX9_pass_83 rfl (mbill hI (by assumption)) ?_
              refine g_iconst (4) rfl dX9_pass_84 ?_
              refine g_icmp_ne 96 dX9_pass_85 (by decide) (fun c_14 => ?_) (fun c_14 => ?_)
              · skip
                refine g_aload_n (i := 0) dX9_pass_96 rfl rfl ?_
                refine m_get 12 dX9_pass_97 (List.mem_of_getElem? (i := 9) rfl) (fun w h => List.mem_cons_of_mem _ (List.mem_append_right _ h)) (by decide) rfl ?_
                refine g_iconst (4) rfl dX9_pass_100 ?_
                refine g_iload_n (i := 1) dX9_pass_101 rfl rfl ?_
                refine g_imul dX9_pass_102 ?_
                refine g_aload_n (i := 0) dX9_pass_103 rfl rfl ?_
                refine m_get 11 dX9_pass_104 (List.mem_of_getElem? (i := 7) rfl) (fun w h => List.mem_cons_of_mem _ (List.mem_append_right _ h)) (by decide) rfl ?_
                refine g_iload_n (i := 1) dX9_pass_107 rfl rfl ?_
                refine m_iald 11 9 40 dX9_pass_108 rfl (mbill hI (by assumption)) ?_
                refine g_iadd dX9_pass_109 ?_
                refine g_aload_n (i := 0) dX9_pass_110 rfl rfl ?_
                refine m_get 8 dX9_pass_111 (List.mem_of_getElem? (i := 4) rfl) (fun w h => List.mem_cons_of_mem _ (List.mem_append_right _ h)) (by decide) rfl ?_
                refine g_iload_n (i := 1) dX9_pass_114 rfl rfl ?_
                refine m_iald 8 6 40 dX9_pass_115 rfl (mbill hI (by assumption)) ?_
                refine m_iast 12 10 160 dX9_pass_116 rfl (ix160 (mbill hI (by assumption)) (mend hI (mbill hI (by assumption)) (by assumption))) (wsA_12 _ _ _ _ _) ?_
                refine g_aload_n (i := 0) dX9_pass_117 rfl rfl ?_
                refine m_get 11 dX9_pass_118 (List.mem_of_getElem? (i := 7) rfl) (fun w h => List.mem_cons_of_mem _ (List.mem_append_right _ h)) (by decide) rfl ?_
                refine g_iload_n (i := 1) dX9_pass_121 rfl rfl ?_
                refine g_dup2_11 rfl rfl dX9_pass_122 ?_
                refine m_iald 11 9 40 dX9_pass_123 rfl (mbill hI (by assumption)) ?_
                refine g_iconst (1) rfl dX9_pass_124 ?_
                refine g_iadd dX9_pass_125 ?_
                refine m_iast 11 9 40 dX9_pass_126 rfl (mbill hI (by assumption)) (wsA_11 _ _ _ _ _) ?_
                refine g_aload_n (i := 0) dX9_pass_127 rfl rfl ?_
                refine m_get 8 dX9_pass_128 (List.mem_of_getElem? (i := 4) rfl) (fun w h => List.mem_cons_of_mem _ (List.mem_append_right _ h)) (by decide) rfl ?_
                refine g_iload_n (i := 1) dX9_pass_131 rfl rfl ?_
                refine g_iload_n (i := 2) dX9_pass_132 rfl rfl ?_
                refine m_iast 8 6 40 dX9_pass_133 rfl (mbill hI (by assumption)) (wsA_8 _ _ _ _ _) ?_
                refine g_aload_n (i := 0) dX9_pass_134 rfl rfl ?_
                refine m_get 11 dX9_pass_135 (List.mem_of_getElem? (i := 7) rfl) (fun w h => List.mem_cons_of_mem _ (List.mem_append_right _ h)) (by decide) rfl ?_
                refine g_iload_n (i := 1) dX9_pass_138 rfl rfl ?_
                refine m_iald 11 9 40 dX9_pass_139 rfl (mbill hI (by assumption)) ?_
                refine g_i2l dX9_pass_140 ?_
                refine g_lret dX9_pass_141 ?_
                unfold mf_pass; (repeat' split) <;> first | contradiction | (with_reducible exact ⟨rfl, rfl⟩) | (exfalso; simp_all; done) | exact ⟨rfl, rfl⟩
              · skip
                refine g_aload_n (i := 0) dX9_pass_88 rfl rfl ?_
                refine g_ldc2 (-1000000000004) (List.mem_of_getElem? (i := 8) rfl) dX9_pass_89 ?_
                refine g_callVf 1 0 gX9_pass_X9_finding rfl rfl rfl ⟨Nat.le_of_ble_eq_true rfl, Nat.le_of_ble_eq_true rfl⟩ ⟨Nat.le_of_ble_eq_true rfl, Nat.le_of_ble_eq_true rfl⟩ (by exact Nat.le_of_ble_eq_true rfl) (by decide +kernel) rfl rfl rfl dX9_pass_92 (M_finding _ D cy a _ _ (by unfold vp_in; decide)) rfl (fun vu_15 wu_15 hu_15 => ?_)
                obtain ⟨rfl, rfl⟩ := hu_15
                refine g_lret dX9_pass_95 ?_
                unfold mf_pass; (repeat' split) <;> first | contradiction | (with_reducible exact ⟨rfl, rfl⟩) | (exfalso; simp_all; done) | exact ⟨rfl, rfl⟩
          · skip
            refine g_aload_n (i := 0) dX9_pass_60 rfl rfl ?_
            refine g_ldc2 (-1000000000005) (List.mem_of_getElem? (i := 5) rfl) dX9_pass_61 ?_
            refine g_callVf 1 0 gX9_pass_X9_finding rfl rfl rfl ⟨Nat.le_of_ble_eq_true rfl, Nat.le_of_ble_eq_true rfl⟩ ⟨Nat.le_of_ble_eq_true rfl, Nat.le_of_ble_eq_true rfl⟩ (by exact Nat.le_of_ble_eq_true rfl) (by decide +kernel) rfl rfl rfl dX9_pass_64 (M_finding _ D cy a _ _ (by unfold vp_in; decide)) rfl (fun vu_16 wu_16 hu_16 => ?_)
            obtain ⟨rfl, rfl⟩ := hu_16
            refine g_lret dX9_pass_67 ?_
            unfold mf_pass; (repeat' split) <;> first | contradiction | (with_reducible exact ⟨rfl, rfl⟩) | (exfalso; simp_all; done) | exact ⟨rfl, rfl⟩
        · skip
          refine g_aload_n (i := 0) dX9_pass_42 rfl rfl ?_
          refine g_ldc2 (-1000000000003) (List.mem_of_getElem? (i := 3) rfl) dX9_pass_43 ?_
          refine g_callVf 1 0 gX9_pass_X9_finding rfl rfl rfl ⟨Nat.le_of_ble_eq_true rfl, Nat.le_of_ble_eq_true rfl⟩ ⟨Nat.le_of_ble_eq_true rfl, Nat.le_of_ble_eq_true rfl⟩ (by exact Nat.le_of_ble_eq_true rfl) (by decide +kernel) rfl rfl rfl dX9_pass_46 (M_finding _ D cy a _ _ (by unfold vp_in; decide)) rfl (fun vu_17 wu_17 hu_17 => ?_)
          obtain ⟨rfl, rfl⟩ := hu_17
          refine g_lret dX9_pass_49 ?_
          unfold mf_pass; (repeat' split) <;> first | contradiction | (with_reducible exact ⟨rfl, rfl⟩) | (exfalso; simp_all; done) | exact ⟨rfl, rfl⟩
    · skip
      refine g_if_ne 23 dX9_pass_12 (by decide) (fun h9 => absurd h9 (by decide)) (fun _ => ?_)
      refine g_aload_n (i := 0) dX9_pass_15 rfl rfl ?_
      refine g_ldc2 (-1000000000001) (List.mem_of_getElem? (i := 1) rfl) dX9_pass_16 ?_
      refine g_callVf 1 0 gX9_pass_X9_finding rfl rfl rfl ⟨Nat.le_of_ble_eq_true rfl, Nat.le_of_ble_eq_true rfl⟩ ⟨Nat.le_of_ble_eq_true rfl, Nat.le_of_ble_eq_true rfl⟩ (by exact Nat.le_of_ble_eq_true rfl) (by decide +kernel) rfl rfl rfl dX9_pass_19 (M_finding _ D cy a _ _ (by unfold vp_in; decide)) rfl (fun vu_19 wu_19 hu_19 => ?_)
      obtain ⟨rfl, rfl⟩ := hu_19
      refine g_lret dX9_pass_22 ?_
      unfold mf_pass; (repeat' split) <;> first | contradiction | (with_reducible exact ⟨rfl, rfl⟩) | (exfalso; simp_all; done) | exact ⟨rfl, rfl⟩
  · skip
    refine g_if_eq 15 dX9_pass_5 (by decide) (fun _ => ?_) (fun h9 => absurd h9 (by decide))
    refine g_aload_n (i := 0) dX9_pass_15 rfl rfl ?_
    refine g_ldc2 (-1000000000001) (List.mem_of_getElem? (i := 1) rfl) dX9_pass_16 ?_
    refine g_callVf 1 0 gX9_pass_X9_finding rfl rfl rfl ⟨Nat.le_of_ble_eq_true rfl, Nat.le_of_ble_eq_true rfl⟩ ⟨Nat.le_of_ble_eq_true rfl, Nat.le_of_ble_eq_true rfl⟩ (by exact Nat.le_of_ble_eq_true rfl) (by decide +kernel) rfl rfl rfl dX9_pass_19 (M_finding _ D cy a _ _ (by unfold vp_in; decide)) rfl (fun vu_21 wu_21 hu_21 => ?_)
    obtain ⟨rfl, rfl⟩ := hu_21
    refine g_lret dX9_pass_22 ?_
    unfold mf_pass; (repeat' split) <;> first | contradiction | (with_reducible exact ⟨rfl, rfl⟩) | (exfalso; simp_all; done) | exact ⟨rfl, rfl⟩

def mf_take (S : MS) (b r : Int32) : Int64 × MS := if (0 ≤ b ∧ b ≤ S.1 4 - 1) then (if S.2.2.1 10 b.toNatClampNeg = 0 then (if mday S ≤ 6 then (((mf_becomes S b (if r = 0 then 1 else 2)).2.2.1 10 b.toNatClampNeg).toInt64, mf_becomes S b (if r = 0 then 1 else 2)) else mf_finding S (-1000000000007)) else mf_finding S (-1000000000003)) else mf_finding S (-1000000000001)
set_option maxHeartbeats 4000000 in
set_option maxRecDepth 100000 in
/-- take -/
theorem M_take (l : Launch) (D : va_G) (cy : Nat → ClassId) (a : Nat → Nat) (S : MS) (hI : minv S) (b r : Int32) : Ct l D clx (tyx cy) yX9_take wsX9_take (rmD 2) 0 0 [.ref (a 0), .int b, .int r] (MW cy a S) (fun r9 w9 => r9 = some (.long (mf_take S b r).1) ∧ w9 = MW cy a (mf_take S b r).2) := by
  refine g_start (cc := cX9_take) (maxL := 3) (ret := (some .long)) (by decide) rfl (Nat.le_of_ble_eq_true rfl) (fun v w1 h => by obtain ⟨rfl, -⟩ := h; exact rfl) (fun Γ hlΓ => ?_)
  subst hlΓ
  refine g_aload_n (i := 0) dX9_take_0 rfl rfl ?_
  refine g_iload_n (i := 1) dX9_take_1 rfl rfl ?_
  refine g_callVf 1 0 gX9_take_X9_isBill rfl rfl rfl ⟨Nat.le_of_ble_eq_true rfl, Nat.le_of_ble_eq_true rfl⟩ ⟨Nat.le_of_ble_eq_true rfl, Nat.le_of_ble_eq_true rfl⟩ (by exact Nat.le_of_ble_eq_true rfl) (by decide +kernel) rfl rfl rfl dX9_take_2 (M_isBill _ D cy a _ _) rfl (fun vu_1 wu_1 hu_1 => ?_)
  rcases hu_1 with ⟨rfl, hu_1, rfl⟩ | ⟨rfl, hu_1, rfl⟩
  · skip
    refine g_if_ne 16 dX9_take_5 (by decide) (fun _ => ?_) (fun h9 => absurd h9 (by decide))
    refine g_aload_n (i := 0) dX9_take_16 rfl rfl ?_
    refine m_get 10 dX9_take_17 (List.mem_of_getElem? (i := 2) rfl) (fun w h => List.mem_cons_of_mem _ (List.mem_append_right _ h)) (by decide) rfl ?_
    refine g_iload_n (i := 1) dX9_take_20 rfl rfl ?_
    refine m_iald 10 8 40 dX9_take_21 rfl (mbill hI (by assumption)) ?_
    refine g_if_eq 33 dX9_take_22 (by decide) (fun c_3 => ?_) (fun c_3 => ?_)
    · skip
      refine g_aload_n (i := 0) dX9_take_33 rfl rfl ?_
      refine g_callVf 0 0 gX9_take_X9_isEarly rfl rfl rfl ⟨Nat.le_of_ble_eq_true rfl, Nat.le_of_ble_eq_true rfl⟩ ⟨Nat.le_of_ble_eq_true rfl, Nat.le_of_ble_eq_true rfl⟩ (by exact Nat.le_of_ble_eq_true rfl) (by decide +kernel) rfl rfl rfl dX9_take_34 (M_isEarly _ D cy a _) rfl (fun vu_4 wu_4 hu_4 => ?_)
      rcases hu_4 with ⟨rfl, hu_4, rfl⟩ | ⟨rfl, hu_4, rfl⟩
      · skip
        refine g_if_ne 48 dX9_take_37 (by decide) (fun _ => ?_) (fun h9 => absurd h9 (by decide))
        refine g_aload_n (i := 0) dX9_take_48 rfl rfl ?_
        refine g_iload_n (i := 1) dX9_take_49 rfl rfl ?_
        refine g_iload_n (i := 2) dX9_take_50 rfl rfl ?_
        refine g_if_eq 58 dX9_take_51 (by decide) (fun c_6 => ?_) (fun c_6 => ?_)
        · skip
          refine g_iconst (1) rfl dX9_take_58 ?_
          refine g_callVf 2 0 gX9_take_X9_becomes rfl rfl rfl ⟨Nat.le_of_ble_eq_true rfl, Nat.le_of_ble_eq_true rfl⟩ ⟨Nat.le_of_ble_eq_true rfl, Nat.le_of_ble_eq_true rfl⟩ (by exact Nat.le_of_ble_eq_true rfl) (by decide +kernel) rfl rfl rfl dX9_take_59 (M_becomes _ D cy a _ _ _ (by first | with_reducible assumption | exact mbill hI (by with_reducible assumption) | exact mnew hI (by with_reducible assumption)) (by unfold vp_in; decide)) rfl (fun vu_7 wu_7 hu_7 => ?_)
          obtain ⟨rfl, rfl⟩ := hu_7
          refine g_aload_n (i := 0) dX9_take_62 rfl rfl ?_
          refine m_get 10 dX9_take_63 (List.mem_of_getElem? (i := 2) rfl) (fun w h => List.mem_cons_of_mem _ (List.mem_append_right _ h)) (by decide) rfl ?_
          refine g_iload_n (i := 1) dX9_take_66 rfl rfl ?_
          refine m_iald 10 8 40 dX9_take_67 rfl (mbill hI (by assumption)) ?_
          refine g_i2l dX9_take_68 ?_
          refine g_lret dX9_take_69 ?_
          unfold mf_take; (repeat' split) <;> first | contradiction | (with_reducible exact ⟨rfl, rfl⟩) | (exfalso; simp_all; done) | exact ⟨rfl, rfl⟩
        · skip
          refine g_iconst (2) rfl dX9_take_54 ?_
          refine g_goto 59 dX9_take_55 (by decide) ?_
          refine g_callVf 2 0 gX9_take_X9_becomes rfl rfl rfl ⟨Nat.le_of_ble_eq_true rfl, Nat.le_of_ble_eq_true rfl⟩ ⟨Nat.le_of_ble_eq_true rfl, Nat.le_of_ble_eq_true rfl⟩ (by exact Nat.le_of_ble_eq_true rfl) (by decide +kernel) rfl rfl rfl dX9_take_59 (M_becomes _ D cy a _ _ _ (by first | with_reducible assumption | exact mbill hI (by with_reducible assumption) | exact mnew hI (by with_reducible assumption)) (by unfold vp_in; decide)) rfl (fun vu_8 wu_8 hu_8 => ?_)
          obtain ⟨rfl, rfl⟩ := hu_8
          refine g_aload_n (i := 0) dX9_take_62 rfl rfl ?_
          refine m_get 10 dX9_take_63 (List.mem_of_getElem? (i := 2) rfl) (fun w h => List.mem_cons_of_mem _ (List.mem_append_right _ h)) (by decide) rfl ?_
          refine g_iload_n (i := 1) dX9_take_66 rfl rfl ?_
          refine m_iald 10 8 40 dX9_take_67 rfl (mbill hI (by assumption)) ?_
          refine g_i2l dX9_take_68 ?_
          refine g_lret dX9_take_69 ?_
          unfold mf_take; (repeat' split) <;> first | contradiction | (with_reducible exact ⟨rfl, rfl⟩) | (exfalso; simp_all; done) | exact ⟨rfl, rfl⟩
      · skip
        refine g_if_ne 48 dX9_take_37 (by decide) (fun h9 => absurd h9 (by decide)) (fun _ => ?_)
        refine g_aload_n (i := 0) dX9_take_40 rfl rfl ?_
        refine g_ldc2 (-1000000000007) (List.mem_of_getElem? (i := 4) rfl) dX9_take_41 ?_
        refine g_callVf 1 0 gX9_take_X9_finding rfl rfl rfl ⟨Nat.le_of_ble_eq_true rfl, Nat.le_of_ble_eq_true rfl⟩ ⟨Nat.le_of_ble_eq_true rfl, Nat.le_of_ble_eq_true rfl⟩ (by exact Nat.le_of_ble_eq_true rfl) (by decide +kernel) rfl rfl rfl dX9_take_44 (M_finding _ D cy a _ _ (by unfold vp_in; decide)) rfl (fun vu_10 wu_10 hu_10 => ?_)
        obtain ⟨rfl, rfl⟩ := hu_10
        refine g_lret dX9_take_47 ?_
        unfold mf_take; (repeat' split) <;> first | contradiction | (with_reducible exact ⟨rfl, rfl⟩) | (exfalso; simp_all; done) | exact ⟨rfl, rfl⟩
    · skip
      refine g_aload_n (i := 0) dX9_take_25 rfl rfl ?_
      refine g_ldc2 (-1000000000003) (List.mem_of_getElem? (i := 3) rfl) dX9_take_26 ?_
      refine g_callVf 1 0 gX9_take_X9_finding rfl rfl rfl ⟨Nat.le_of_ble_eq_true rfl, Nat.le_of_ble_eq_true rfl⟩ ⟨Nat.le_of_ble_eq_true rfl, Nat.le_of_ble_eq_true rfl⟩ (by exact Nat.le_of_ble_eq_true rfl) (by decide +kernel) rfl rfl rfl dX9_take_29 (M_finding _ D cy a _ _ (by unfold vp_in; decide)) rfl (fun vu_11 wu_11 hu_11 => ?_)
      obtain ⟨rfl, rfl⟩ := hu_11
      refine g_lret dX9_take_32 ?_
      unfold mf_take; (repeat' split) <;> first | contradiction | (with_reducible exact ⟨rfl, rfl⟩) | (exfalso; simp_all; done) | exact ⟨rfl, rfl⟩
  · skip
    refine g_if_ne 16 dX9_take_5 (by decide) (fun h9 => absurd h9 (by decide)) (fun _ => ?_)
    refine g_aload_n (i := 0) dX9_take_8 rfl rfl ?_
    refine g_ldc2 (-1000000000001) (List.mem_of_getElem? (i := 1) rfl) dX9_take_9 ?_
    refine g_callVf 1 0 gX9_take_X9_finding rfl rfl rfl ⟨Nat.le_of_ble_eq_true rfl, Nat.le_of_ble_eq_true rfl⟩ ⟨Nat.le_of_ble_eq_true rfl, Nat.le_of_ble_eq_true rfl⟩ (by exact Nat.le_of_ble_eq_true rfl) (by decide +kernel) rfl rfl rfl dX9_take_12 (M_finding _ D cy a _ _ (by unfold vp_in; decide)) rfl (fun vu_13 wu_13 hu_13 => ?_)
    obtain ⟨rfl, rfl⟩ := hu_13
    refine g_lret dX9_take_15 ?_
    unfold mf_take; (repeat' split) <;> first | contradiction | (with_reducible exact ⟨rfl, rfl⟩) | (exfalso; simp_all; done) | exact ⟨rfl, rfl⟩

def mf_paid (S : MS) (b : Int32) : MS := sA (mf_becomes (mf_ctow S (S.2.2.1 7 b.toNatClampNeg) (S.2.2.1 8 b.toNatClampNeg) (S.2.2.1 9 b.toNatClampNeg).toInt64) b 4) 14 b.toNatClampNeg (vp_nar .boolean 1)
def mf_pay (S : MS) (b : Int32) : Int64 × MS := if (0 ≤ b ∧ b ≤ S.1 4 - 1) then (if S.2.2.1 10 b.toNatClampNeg = 1 then (if mday S ≤ 6 then mf_finding S (-1000000000007) else if (¬ S.2.2.1 7 b.toNatClampNeg = S.2.2.1 8 b.toNatClampNeg ∧ (1000000000 < mwould S (S.2.2.1 7 b.toNatClampNeg) (S.2.2.1 8 b.toNatClampNeg) (S.2.2.1 9 b.toNatClampNeg).toInt64 ∨ mwould S (S.2.2.1 7 b.toNatClampNeg) (S.2.2.1 8 b.toNatClampNeg) (S.2.2.1 9 b.toNatClampNeg).toInt64 < -1000000000)) then mf_finding S (-1000000000004) else (if S.2.2.1 7 b.toNatClampNeg = S.2.2.1 8 b.toNatClampNeg then 0 else ((mf_paid S b).2.2.1 9 b.toNatClampNeg).toInt64, mf_paid S b)) else mf_finding S (-1000000000003)) else mf_finding S (-1000000000001)
set_option maxHeartbeats 4000000 in
set_option maxRecDepth 100000 in
/-- pay -/
theorem M_pay (l : Launch) (D : va_G) (cy : Nat → ClassId) (a : Nat → Nat) (S : MS) (hI : minv S) (b : Int32) : Ct l D clx (tyx cy) yX9_pay wsX9_pay (rmD 3) 0 0 [.ref (a 0), .int b] (MW cy a S) (fun r9 w9 => r9 = some (.long (mf_pay S b).1) ∧ w9 = MW cy a (mf_pay S b).2) := by
  refine g_start (cc := cX9_pay) (maxL := 4) (ret := (some .long)) (by decide) rfl (Nat.le_of_ble_eq_true rfl) (fun v w1 h => by obtain ⟨rfl, -⟩ := h; exact rfl) (fun Γ hlΓ => ?_)
  subst hlΓ
  refine g_aload_n (i := 0) dX9_pay_0 rfl rfl ?_
  refine g_iload_n (i := 1) dX9_pay_1 rfl rfl ?_
  refine g_callVf 1 0 gX9_pay_X9_isBill rfl rfl rfl ⟨Nat.le_of_ble_eq_true rfl, Nat.le_of_ble_eq_true rfl⟩ ⟨Nat.le_of_ble_eq_true rfl, Nat.le_of_ble_eq_true rfl⟩ (by exact Nat.le_of_ble_eq_true rfl) (by decide +kernel) rfl rfl rfl dX9_pay_2 (M_isBill _ D cy a _ _) rfl (fun vu_1 wu_1 hu_1 => ?_)
  rcases hu_1 with ⟨rfl, hu_1, rfl⟩ | ⟨rfl, hu_1, rfl⟩
  · skip
    refine g_if_ne 16 dX9_pay_5 (by decide) (fun _ => ?_) (fun h9 => absurd h9 (by decide))
    refine g_aload_n (i := 0) dX9_pay_16 rfl rfl ?_
    refine m_get 10 dX9_pay_17 (List.mem_of_getElem? (i := 2) rfl) (fun w h => List.mem_cons_of_mem _ (List.mem_append_right _ h)) (by decide) rfl ?_
    refine g_iload_n (i := 1) dX9_pay_20 rfl rfl ?_
    refine m_iald 10 8 40 dX9_pay_21 rfl (mbill hI (by assumption)) ?_
    refine g_iconst (1) rfl dX9_pay_22 ?_
    refine g_icmp_eq 34 dX9_pay_23 (by decide) (fun c_3 => ?_) (fun c_3 => ?_)
    · skip
      refine g_aload_n (i := 0) dX9_pay_34 rfl rfl ?_
      refine g_callVf 0 0 gX9_pay_X9_isEarly rfl rfl rfl ⟨Nat.le_of_ble_eq_true rfl, Nat.le_of_ble_eq_true rfl⟩ ⟨Nat.le_of_ble_eq_true rfl, Nat.le_of_ble_eq_true rfl⟩ (by exact Nat.le_of_ble_eq_true rfl) (by decide +kernel) rfl rfl rfl dX9_pay_35 (M_isEarly _ D cy a _) rfl (fun vu_4 wu_4 hu_4 => ?_)
      rcases hu_4 with ⟨rfl, hu_4, rfl⟩ | ⟨rfl, hu_4, rfl⟩
      · skip
        refine g_if_eq 49 dX9_pay_38 (by decide) (fun h9 => absurd h9 (by decide)) (fun _ => ?_)
        refine g_aload_n (i := 0) dX9_pay_41 rfl rfl ?_
        refine g_ldc2 (-1000000000007) (List.mem_of_getElem? (i := 4) rfl) dX9_pay_42 ?_
        refine g_callVf 1 0 gX9_pay_X9_finding rfl rfl rfl ⟨Nat.le_of_ble_eq_true rfl, Nat.le_of_ble_eq_true rfl⟩ ⟨Nat.le_of_ble_eq_true rfl, Nat.le_of_ble_eq_true rfl⟩ (by exact Nat.le_of_ble_eq_true rfl) (by decide +kernel) rfl rfl rfl dX9_pay_45 (M_finding _ D cy a _ _ (by unfold vp_in; decide)) rfl (fun vu_6 wu_6 hu_6 => ?_)
        obtain ⟨rfl, rfl⟩ := hu_6
        refine g_lret dX9_pay_48 ?_
        unfold mf_pay; (repeat' split) <;> first | contradiction | (with_reducible exact ⟨rfl, rfl⟩) | (exfalso; simp_all; done) | exact ⟨rfl, rfl⟩
      · skip
        refine g_if_eq 49 dX9_pay_38 (by decide) (fun _ => ?_) (fun h9 => absurd h9 (by decide))
        refine g_aload_n (i := 0) dX9_pay_49 rfl rfl ?_
        refine m_get 7 dX9_pay_50 (List.mem_of_getElem? (i := 5) rfl) (fun w h => List.mem_cons_of_mem _ (List.mem_append_right _ h)) (by decide) rfl ?_
        refine g_iload_n (i := 1) dX9_pay_53 rfl rfl ?_
        refine m_iald 7 5 40 dX9_pay_54 rfl (mbill hI (by assumption)) ?_
        refine g_istore_n (i := 2) dX9_pay_55 rfl (by decide) ?_
        refine g_aload_n (i := 0) dX9_pay_56 rfl rfl ?_
        refine m_get 8 dX9_pay_57 (List.mem_of_getElem? (i := 6) rfl) (fun w h => List.mem_cons_of_mem _ (List.mem_append_right _ h)) (by decide) rfl ?_
        refine g_iload_n (i := 1) dX9_pay_60 rfl rfl ?_
        refine m_iald 8 6 40 dX9_pay_61 rfl (mbill hI (by assumption)) ?_
        refine g_istore_n (i := 3) dX9_pay_62 rfl (by decide) ?_
        refine g_aload_n (i := 0) dX9_pay_63 rfl rfl ?_
        refine g_iload_n (i := 2) dX9_pay_64 rfl rfl ?_
        refine g_iload_n (i := 3) dX9_pay_65 rfl rfl ?_
        refine g_aload_n (i := 0) dX9_pay_66 rfl rfl ?_
        refine m_get 9 dX9_pay_67 (List.mem_of_getElem? (i := 7) rfl) (fun w h => List.mem_cons_of_mem _ (List.mem_append_right _ h)) (by decide) rfl ?_
        refine g_iload_n (i := 1) dX9_pay_70 rfl rfl ?_
        refine m_iald 9 7 40 dX9_pay_71 rfl (mbill hI (by assumption)) ?_
        refine g_i2l dX9_pay_72 ?_
        refine g_callVf 3 0 gX9_pay_X9_isTooMuch rfl rfl rfl ⟨Nat.le_of_ble_eq_true rfl, Nat.le_of_ble_eq_true rfl⟩ ⟨Nat.le_of_ble_eq_true rfl, Nat.le_of_ble_eq_true rfl⟩ (by exact Nat.le_of_ble_eq_true rfl) (by decide +kernel) rfl rfl rfl dX9_pay_73 (M_isTooMuch _ D cy a _ _ _ _ ((mhol hI (mbill hI (by assumption))).2.1) ((mhol hI (mbill hI (by assumption))).2.2.1)) rfl (fun vu_8 wu_8 hu_8 => ?_)
        rcases hu_8 with ⟨rfl, hu_8, rfl⟩ | ⟨rfl, hu_8, rfl⟩
        · skip
          refine g_if_eq 87 dX9_pay_76 (by decide) (fun h9 => absurd h9 (by decide)) (fun _ => ?_)
          refine g_aload_n (i := 0) dX9_pay_79 rfl rfl ?_
          refine g_ldc2 (-1000000000004) (List.mem_of_getElem? (i := 8) rfl) dX9_pay_80 ?_
          refine g_callVf 1 0 gX9_pay_X9_finding rfl rfl rfl ⟨Nat.le_of_ble_eq_true rfl, Nat.le_of_ble_eq_true rfl⟩ ⟨Nat.le_of_ble_eq_true rfl, Nat.le_of_ble_eq_true rfl⟩ (by exact Nat.le_of_ble_eq_true rfl) (by decide +kernel) rfl rfl rfl dX9_pay_83 (M_finding _ D cy a _ _ (by unfold vp_in; decide)) rfl (fun vu_10 wu_10 hu_10 => ?_)
          obtain ⟨rfl, rfl⟩ := hu_10
          refine g_lret dX9_pay_86 ?_
          unfold mf_pay; (repeat' split) <;> first | contradiction | (with_reducible exact ⟨rfl, rfl⟩) | (exfalso; simp_all; done) | exact ⟨rfl, rfl⟩
        · skip
          refine g_if_eq 87 dX9_pay_76 (by decide) (fun _ => ?_) (fun h9 => absurd h9 (by decide))
          refine g_aload_n (i := 0) dX9_pay_87 rfl rfl ?_
          refine g_iload_n (i := 2) dX9_pay_88 rfl rfl ?_
          refine g_iload_n (i := 3) dX9_pay_89 rfl rfl ?_
          refine g_aload_n (i := 0) dX9_pay_90 rfl rfl ?_
          refine m_get 9 dX9_pay_91 (List.mem_of_getElem? (i := 7) rfl) (fun w h => List.mem_cons_of_mem _ (List.mem_append_right _ h)) (by decide) rfl ?_
          refine g_iload_n (i := 1) dX9_pay_94 rfl rfl ?_
          refine m_iald 9 7 40 dX9_pay_95 rfl (mbill hI (by assumption)) ?_
          refine g_i2l dX9_pay_96 ?_
          refine g_callVf 3 0 gX9_pay_X9_comesToOwe rfl rfl rfl ⟨Nat.le_of_ble_eq_true rfl, Nat.le_of_ble_eq_true rfl⟩ ⟨Nat.le_of_ble_eq_true rfl, Nat.le_of_ble_eq_true rfl⟩ (by exact Nat.le_of_ble_eq_true rfl) (by decide +kernel) rfl rfl rfl dX9_pay_97 (M_comesToOwe _ D cy a _ _ _ _ ((mhol hI (mbill hI (by assumption))).2.1) ((mhol hI (mbill hI (by assumption))).2.2.1)) rfl (fun vu_12 wu_12 hu_12 => ?_)
          obtain ⟨rfl, rfl⟩ := hu_12
          refine g_aload_n (i := 0) dX9_pay_100 rfl rfl ?_
          refine g_iload_n (i := 1) dX9_pay_101 rfl rfl ?_
          refine g_iconst (4) rfl dX9_pay_102 ?_
          refine g_callVf 2 0 gX9_pay_X9_becomes rfl rfl rfl ⟨Nat.le_of_ble_eq_true rfl, Nat.le_of_ble_eq_true rfl⟩ ⟨Nat.le_of_ble_eq_true rfl, Nat.le_of_ble_eq_true rfl⟩ (by exact Nat.le_of_ble_eq_true rfl) (by decide +kernel) rfl rfl rfl dX9_pay_103 (M_becomes _ D cy a _ _ _ (by first | with_reducible assumption | exact mbill hI (by with_reducible assumption) | exact mnew hI (by with_reducible assumption)) (by unfold vp_in; decide)) rfl (fun vu_13 wu_13 hu_13 => ?_)
          obtain ⟨rfl, rfl⟩ := hu_13
          refine g_aload_n (i := 0) dX9_pay_106 rfl rfl ?_
          refine m_get 14 dX9_pay_107 (List.mem_of_getElem? (i := 9) rfl) (fun w h => List.mem_cons_of_mem _ (List.mem_append_right _ h)) (by decide) rfl ?_
          refine g_iload_n (i := 1) dX9_pay_110 rfl rfl ?_
          refine g_iconst (1) rfl dX9_pay_111 ?_
          refine m_zast 14 12 40 dX9_pay_112 rfl (mbill hI (by assumption)) (wsA_14 _ _ _ _ _) ?_
          refine g_iload_n (i := 2) dX9_pay_113 rfl rfl ?_
          refine g_iload_n (i := 3) dX9_pay_114 rfl rfl ?_
          refine g_icmp_ne 122 dX9_pay_115 (by decide) (fun c_14 => ?_) (fun c_14 => ?_)
          · skip
            refine g_aload_n (i := 0) dX9_pay_122 rfl rfl ?_
            refine m_get 9 dX9_pay_123 (List.mem_of_getElem? (i := 7) rfl) (fun w h => List.mem_cons_of_mem _ (List.mem_append_right _ h)) (by decide) rfl ?_
            refine g_iload_n (i := 1) dX9_pay_126 rfl rfl ?_
            refine m_iald 9 7 40 dX9_pay_127 rfl (mbill hI (by assumption)) ?_
            refine g_i2l dX9_pay_128 ?_
            refine g_lret dX9_pay_129 ?_
            unfold mf_pay; (repeat' split) <;> first | contradiction | (with_reducible exact ⟨rfl, rfl⟩) | (exfalso; simp_all; done) | exact ⟨rfl, rfl⟩
          · skip
            refine g_lconst 0 rfl dX9_pay_118 ?_
            refine g_goto 129 dX9_pay_119 (by decide) ?_
            refine g_lret dX9_pay_129 ?_
            unfold mf_pay; (repeat' split) <;> first | contradiction | (with_reducible exact ⟨rfl, rfl⟩) | (exfalso; simp_all; done) | exact ⟨rfl, rfl⟩
    · skip
      refine g_aload_n (i := 0) dX9_pay_26 rfl rfl ?_
      refine g_ldc2 (-1000000000003) (List.mem_of_getElem? (i := 3) rfl) dX9_pay_27 ?_
      refine g_callVf 1 0 gX9_pay_X9_finding rfl rfl rfl ⟨Nat.le_of_ble_eq_true rfl, Nat.le_of_ble_eq_true rfl⟩ ⟨Nat.le_of_ble_eq_true rfl, Nat.le_of_ble_eq_true rfl⟩ (by exact Nat.le_of_ble_eq_true rfl) (by decide +kernel) rfl rfl rfl dX9_pay_30 (M_finding _ D cy a _ _ (by unfold vp_in; decide)) rfl (fun vu_15 wu_15 hu_15 => ?_)
      obtain ⟨rfl, rfl⟩ := hu_15
      refine g_lret dX9_pay_33 ?_
      unfold mf_pay; (repeat' split) <;> first | contradiction | (with_reducible exact ⟨rfl, rfl⟩) | (exfalso; simp_all; done) | exact ⟨rfl, rfl⟩
  · skip
    refine g_if_ne 16 dX9_pay_5 (by decide) (fun h9 => absurd h9 (by decide)) (fun _ => ?_)
    refine g_aload_n (i := 0) dX9_pay_8 rfl rfl ?_
    refine g_ldc2 (-1000000000001) (List.mem_of_getElem? (i := 1) rfl) dX9_pay_9 ?_
    refine g_callVf 1 0 gX9_pay_X9_finding rfl rfl rfl ⟨Nat.le_of_ble_eq_true rfl, Nat.le_of_ble_eq_true rfl⟩ ⟨Nat.le_of_ble_eq_true rfl, Nat.le_of_ble_eq_true rfl⟩ (by exact Nat.le_of_ble_eq_true rfl) (by decide +kernel) rfl rfl rfl dX9_pay_12 (M_finding _ D cy a _ _ (by unfold vp_in; decide)) rfl (fun vu_17 wu_17 hu_17 => ?_)
    obtain ⟨rfl, rfl⟩ := hu_17
    refine g_lret dX9_pay_15 ?_
    unfold mf_pay; (repeat' split) <;> first | contradiction | (with_reducible exact ⟨rfl, rfl⟩) | (exfalso; simp_all; done) | exact ⟨rfl, rfl⟩

def mf_protest (S : MS) (b : Int32) : Int64 × MS := if (0 ≤ b ∧ b ≤ S.1 4 - 1) then (if S.2.2.1 10 b.toNatClampNeg = 2 then ((mf_becomes S b 3).2.1 0 - (mf_becomes S b 3).2.2.2 13 (5 * b + 2).toNatClampNeg, mf_becomes S b 3) else mf_finding S (-1000000000003)) else mf_finding S (-1000000000001)
set_option maxHeartbeats 4000000 in
set_option maxRecDepth 100000 in
/-- protest -/
theorem M_protest (l : Launch) (D : va_G) (cy : Nat → ClassId) (a : Nat → Nat) (S : MS) (hI : minv S) (b : Int32) : Ct l D clx (tyx cy) yX9_protest wsX9_protest (rmD 2) 0 0 [.ref (a 0), .int b] (MW cy a S) (fun r9 w9 => r9 = some (.long (mf_protest S b).1) ∧ w9 = MW cy a (mf_protest S b).2) := by
  refine g_start (cc := cX9_protest) (maxL := 2) (ret := (some .long)) (by decide) rfl (Nat.le_of_ble_eq_true rfl) (fun v w1 h => by obtain ⟨rfl, -⟩ := h; exact rfl) (fun Γ hlΓ => ?_)
  subst hlΓ
  refine g_aload_n (i := 0) dX9_protest_0 rfl rfl ?_
  refine g_iload_n (i := 1) dX9_protest_1 rfl rfl ?_
  refine g_callVf 1 0 gX9_protest_X9_isBill rfl rfl rfl ⟨Nat.le_of_ble_eq_true rfl, Nat.le_of_ble_eq_true rfl⟩ ⟨Nat.le_of_ble_eq_true rfl, Nat.le_of_ble_eq_true rfl⟩ (by exact Nat.le_of_ble_eq_true rfl) (by decide +kernel) rfl rfl rfl dX9_protest_2 (M_isBill _ D cy a _ _) rfl (fun vu_1 wu_1 hu_1 => ?_)
  rcases hu_1 with ⟨rfl, hu_1, rfl⟩ | ⟨rfl, hu_1, rfl⟩
  · skip
    refine g_if_ne 16 dX9_protest_5 (by decide) (fun _ => ?_) (fun h9 => absurd h9 (by decide))
    refine g_aload_n (i := 0) dX9_protest_16 rfl rfl ?_
    refine m_get 10 dX9_protest_17 (List.mem_of_getElem? (i := 2) rfl) (fun w h => List.mem_cons_of_mem _ (List.mem_append_right _ h)) (by decide) rfl ?_
    refine g_iload_n (i := 1) dX9_protest_20 rfl rfl ?_
    refine m_iald 10 8 40 dX9_protest_21 rfl (mbill hI (by assumption)) ?_
    refine g_iconst (2) rfl dX9_protest_22 ?_
    refine g_icmp_eq 34 dX9_protest_23 (by decide) (fun c_3 => ?_) (fun c_3 => ?_)
    · skip
      refine g_aload_n (i := 0) dX9_protest_34 rfl rfl ?_
      refine g_iload_n (i := 1) dX9_protest_35 rfl rfl ?_
      refine g_iconst (3) rfl dX9_protest_36 ?_
      refine g_callVf 2 0 gX9_protest_X9_becomes rfl rfl rfl ⟨Nat.le_of_ble_eq_true rfl, Nat.le_of_ble_eq_true rfl⟩ ⟨Nat.le_of_ble_eq_true rfl, Nat.le_of_ble_eq_true rfl⟩ (by exact Nat.le_of_ble_eq_true rfl) (by decide +kernel) rfl rfl rfl dX9_protest_37 (M_becomes _ D cy a _ _ _ (by first | with_reducible assumption | exact mbill hI (by with_reducible assumption) | exact mnew hI (by with_reducible assumption)) (by unfold vp_in; decide)) rfl (fun vu_4 wu_4 hu_4 => ?_)
      obtain ⟨rfl, rfl⟩ := hu_4
      refine g_aload_n (i := 0) dX9_protest_40 rfl rfl ?_
      refine m_get 0 dX9_protest_41 (List.mem_of_getElem? (i := 4) rfl) (fun w h => List.mem_cons_of_mem _ (List.mem_append_right _ h)) (by decide) rfl ?_
      refine g_aload_n (i := 0) dX9_protest_44 rfl rfl ?_
      refine m_get 13 dX9_protest_45 (List.mem_of_getElem? (i := 5) rfl) (fun w h => List.mem_cons_of_mem _ (List.mem_append_right _ h)) (by decide) rfl ?_
      refine g_iconst (5) rfl dX9_protest_48 ?_
      refine g_iload_n (i := 1) dX9_protest_49 rfl rfl ?_
      refine g_imul dX9_protest_50 ?_
      refine g_iconst (2) rfl dX9_protest_51 ?_
      refine g_iadd dX9_protest_52 ?_
      refine m_lald 13 11 200 dX9_protest_53 rfl (ix200 (mbill hI (by assumption)) (by unfold vp_in; decide)) ?_
      refine g_lsub dX9_protest_54 ?_
      refine g_lret dX9_protest_55 ?_
      unfold mf_protest; (repeat' split) <;> first | contradiction | (with_reducible exact ⟨rfl, rfl⟩) | (exfalso; simp_all; done) | exact ⟨rfl, rfl⟩
    · skip
      refine g_aload_n (i := 0) dX9_protest_26 rfl rfl ?_
      refine g_ldc2 (-1000000000003) (List.mem_of_getElem? (i := 3) rfl) dX9_protest_27 ?_
      refine g_callVf 1 0 gX9_protest_X9_finding rfl rfl rfl ⟨Nat.le_of_ble_eq_true rfl, Nat.le_of_ble_eq_true rfl⟩ ⟨Nat.le_of_ble_eq_true rfl, Nat.le_of_ble_eq_true rfl⟩ (by exact Nat.le_of_ble_eq_true rfl) (by decide +kernel) rfl rfl rfl dX9_protest_30 (M_finding _ D cy a _ _ (by unfold vp_in; decide)) rfl (fun vu_5 wu_5 hu_5 => ?_)
      obtain ⟨rfl, rfl⟩ := hu_5
      refine g_lret dX9_protest_33 ?_
      unfold mf_protest; (repeat' split) <;> first | contradiction | (with_reducible exact ⟨rfl, rfl⟩) | (exfalso; simp_all; done) | exact ⟨rfl, rfl⟩
  · skip
    refine g_if_ne 16 dX9_protest_5 (by decide) (fun h9 => absurd h9 (by decide)) (fun _ => ?_)
    refine g_aload_n (i := 0) dX9_protest_8 rfl rfl ?_
    refine g_ldc2 (-1000000000001) (List.mem_of_getElem? (i := 1) rfl) dX9_protest_9 ?_
    refine g_callVf 1 0 gX9_protest_X9_finding rfl rfl rfl ⟨Nat.le_of_ble_eq_true rfl, Nat.le_of_ble_eq_true rfl⟩ ⟨Nat.le_of_ble_eq_true rfl, Nat.le_of_ble_eq_true rfl⟩ (by exact Nat.le_of_ble_eq_true rfl) (by decide +kernel) rfl rfl rfl dX9_protest_12 (M_finding _ D cy a _ _ (by unfold vp_in; decide)) rfl (fun vu_7 wu_7 hu_7 => ?_)
    obtain ⟨rfl, rfl⟩ := hu_7
    refine g_lret dX9_protest_15 ?_
    unfold mf_protest; (repeat' split) <;> first | contradiction | (with_reducible exact ⟨rfl, rfl⟩) | (exfalso; simp_all; done) | exact ⟨rfl, rfl⟩

def mf_as (S : MS) (b kd : Int32) : Int64 × MS := if (0 ≤ b ∧ b ≤ S.1 4 - 1) ∧ (0 ≤ kd ∧ kd ≤ 2) then (if kd = 0 then ((S.2.2.1 9 b.toNatClampNeg).toInt64, S) else if S.2.2.1 5 b.toNatClampNeg = kd then ((S.2.2.1 9 b.toNatClampNeg).toInt64, S) else mf_finding S (-1000000000005)) else mf_finding S (-1000000000001)
set_option maxHeartbeats 4000000 in
set_option maxRecDepth 100000 in
/-- as -/
theorem M_as (l : Launch) (D : va_G) (cy : Nat → ClassId) (a : Nat → Nat) (S : MS) (hI : minv S) (b kd : Int32) : Ct l D clx (tyx cy) yX9_as wsX9_as (rmD 2) 0 0 [.ref (a 0), .int b, .int kd] (MW cy a S) (fun r9 w9 => r9 = some (.long (mf_as S b kd).1) ∧ w9 = MW cy a (mf_as S b kd).2) := by
  refine g_start (cc := cX9_as) (maxL := 3) (ret := (some .long)) (by decide) rfl (Nat.le_of_ble_eq_true rfl) (fun v w1 h => by obtain ⟨rfl, -⟩ := h; exact rfl) (fun Γ hlΓ => ?_)
  subst hlΓ
  refine g_aload_n (i := 0) dX9_as_0 rfl rfl ?_
  refine g_iload_n (i := 1) dX9_as_1 rfl rfl ?_
  refine g_callVf 1 0 gX9_as_X9_isBill rfl rfl rfl ⟨Nat.le_of_ble_eq_true rfl, Nat.le_of_ble_eq_true rfl⟩ ⟨Nat.le_of_ble_eq_true rfl, Nat.le_of_ble_eq_true rfl⟩ (by exact Nat.le_of_ble_eq_true rfl) (by decide +kernel) rfl rfl rfl dX9_as_2 (M_isBill _ D cy a _ _) rfl (fun vu_1 wu_1 hu_1 => ?_)
  rcases hu_1 with ⟨rfl, hu_1, rfl⟩ | ⟨rfl, hu_1, rfl⟩
  · skip
    refine g_if_eq 17 dX9_as_5 (by decide) (fun h9 => absurd h9 (by decide)) (fun _ => ?_)
    refine g_iload_n (i := 2) dX9_as_8 rfl rfl ?_
    refine g_iconst (0) rfl dX9_as_9 ?_
    refine g_iconst (2) rfl dX9_as_10 ?_
    refine g_callSf 3 gX9_as_X9_in rfl rfl rfl ⟨Nat.le_of_ble_eq_true rfl, Nat.le_of_ble_eq_true rfl⟩ ⟨Nat.le_of_ble_eq_true rfl, Nat.le_of_ble_eq_true rfl⟩ (by exact Nat.le_of_ble_eq_true rfl) (by decide +kernel) rfl dX9_as_11 (M_in _ D cy a _ _ _ _) rfl (fun vu_3 wu_3 hu_3 => ?_)
    rcases hu_3 with ⟨rfl, hu_3, rfl⟩ | ⟨rfl, hu_3, rfl⟩
    · skip
      refine g_if_ne 25 dX9_as_14 (by decide) (fun _ => ?_) (fun h9 => absurd h9 (by decide))
      refine g_iload_n (i := 2) dX9_as_25 rfl rfl ?_
      refine g_if_eq 39 dX9_as_26 (by decide) (fun c_5 => ?_) (fun c_5 => ?_)
      · skip
        refine g_aload_n (i := 0) dX9_as_39 rfl rfl ?_
        refine m_get 9 dX9_as_40 (List.mem_of_getElem? (i := 3) rfl) (fun w h => List.mem_cons_of_mem _ (List.mem_append_right _ h)) (by decide) rfl ?_
        refine g_iload_n (i := 1) dX9_as_43 rfl rfl ?_
        refine m_iald 9 7 40 dX9_as_44 rfl (mbill hI (by assumption)) ?_
        refine g_i2l dX9_as_45 ?_
        refine g_goto 56 dX9_as_46 (by decide) ?_
        refine g_lret dX9_as_56 ?_
        unfold mf_as; (repeat' split) <;> first | contradiction | (with_reducible exact ⟨rfl, rfl⟩) | (exfalso; simp_all; done) | exact ⟨rfl, rfl⟩
      · skip
        refine g_aload_n (i := 0) dX9_as_29 rfl rfl ?_
        refine m_get 5 dX9_as_30 (List.mem_of_getElem? (i := 2) rfl) (fun w h => List.mem_cons_of_mem _ (List.mem_append_right _ h)) (by decide) rfl ?_
        refine g_iload_n (i := 1) dX9_as_33 rfl rfl ?_
        refine m_iald 5 3 40 dX9_as_34 rfl (mbill hI (by assumption)) ?_
        refine g_iload_n (i := 2) dX9_as_35 rfl rfl ?_
        refine g_icmp_ne 49 dX9_as_36 (by decide) (fun c_6 => ?_) (fun c_6 => ?_)
        · skip
          refine g_aload_n (i := 0) dX9_as_49 rfl rfl ?_
          refine g_ldc2 (-1000000000005) (List.mem_of_getElem? (i := 4) rfl) dX9_as_50 ?_
          refine g_callVf 1 0 gX9_as_X9_finding rfl rfl rfl ⟨Nat.le_of_ble_eq_true rfl, Nat.le_of_ble_eq_true rfl⟩ ⟨Nat.le_of_ble_eq_true rfl, Nat.le_of_ble_eq_true rfl⟩ (by exact Nat.le_of_ble_eq_true rfl) (by decide +kernel) rfl rfl rfl dX9_as_53 (M_finding _ D cy a _ _ (by unfold vp_in; decide)) rfl (fun vu_7 wu_7 hu_7 => ?_)
          obtain ⟨rfl, rfl⟩ := hu_7
          refine g_lret dX9_as_56 ?_
          unfold mf_as; (repeat' split) <;> first | contradiction | (with_reducible exact ⟨rfl, rfl⟩) | (exfalso; simp_all; done) | exact ⟨rfl, rfl⟩
        · skip
          refine g_aload_n (i := 0) dX9_as_39 rfl rfl ?_
          refine m_get 9 dX9_as_40 (List.mem_of_getElem? (i := 3) rfl) (fun w h => List.mem_cons_of_mem _ (List.mem_append_right _ h)) (by decide) rfl ?_
          refine g_iload_n (i := 1) dX9_as_43 rfl rfl ?_
          refine m_iald 9 7 40 dX9_as_44 rfl (mbill hI (by assumption)) ?_
          refine g_i2l dX9_as_45 ?_
          refine g_goto 56 dX9_as_46 (by decide) ?_
          refine g_lret dX9_as_56 ?_
          unfold mf_as; (repeat' split) <;> first | contradiction | (with_reducible exact ⟨rfl, rfl⟩) | (exfalso; simp_all; done) | exact ⟨rfl, rfl⟩
    · skip
      refine g_if_ne 25 dX9_as_14 (by decide) (fun h9 => absurd h9 (by decide)) (fun _ => ?_)
      refine g_aload_n (i := 0) dX9_as_17 rfl rfl ?_
      refine g_ldc2 (-1000000000001) (List.mem_of_getElem? (i := 1) rfl) dX9_as_18 ?_
      refine g_callVf 1 0 gX9_as_X9_finding rfl rfl rfl ⟨Nat.le_of_ble_eq_true rfl, Nat.le_of_ble_eq_true rfl⟩ ⟨Nat.le_of_ble_eq_true rfl, Nat.le_of_ble_eq_true rfl⟩ (by exact Nat.le_of_ble_eq_true rfl) (by decide +kernel) rfl rfl rfl dX9_as_21 (M_finding _ D cy a _ _ (by unfold vp_in; decide)) rfl (fun vu_9 wu_9 hu_9 => ?_)
      obtain ⟨rfl, rfl⟩ := hu_9
      refine g_lret dX9_as_24 ?_
      unfold mf_as; (repeat' split) <;> first | contradiction | (with_reducible exact ⟨rfl, rfl⟩) | (exfalso; simp_all; done) | exact ⟨rfl, rfl⟩
  · skip
    refine g_if_eq 17 dX9_as_5 (by decide) (fun _ => ?_) (fun h9 => absurd h9 (by decide))
    refine g_aload_n (i := 0) dX9_as_17 rfl rfl ?_
    refine g_ldc2 (-1000000000001) (List.mem_of_getElem? (i := 1) rfl) dX9_as_18 ?_
    refine g_callVf 1 0 gX9_as_X9_finding rfl rfl rfl ⟨Nat.le_of_ble_eq_true rfl, Nat.le_of_ble_eq_true rfl⟩ ⟨Nat.le_of_ble_eq_true rfl, Nat.le_of_ble_eq_true rfl⟩ (by exact Nat.le_of_ble_eq_true rfl) (by decide +kernel) rfl rfl rfl dX9_as_21 (M_finding _ D cy a _ _ (by unfold vp_in; decide)) rfl (fun vu_11 wu_11 hu_11 => ?_)
    obtain ⟨rfl, rfl⟩ := hu_11
    refine g_lret dX9_as_24 ?_
    unfold mf_as; (repeat' split) <;> first | contradiction | (with_reducible exact ⟨rfl, rfl⟩) | (exfalso; simp_all; done) | exact ⟨rfl, rfl⟩

def mf_owe (S : MS) (h q v : Int32) : Int64 × MS := if (0 ≤ h ∧ h ≤ 9) ∧ (0 ≤ q ∧ q ≤ 9) ∧ ¬ h = q ∧ (1 ≤ v ∧ v ≤ 1000000) then (if (¬ h = q ∧ (1000000000 < mwould S h q v.toInt64 ∨ mwould S h q v.toInt64 < -1000000000)) then mf_finding S (-1000000000004) else ((mf_ctow S h q v.toInt64).2.2.2 15 (10 * h + q).toNatClampNeg, mf_ctow S h q v.toInt64)) else mf_finding S (-1000000000001)
set_option maxHeartbeats 4000000 in
set_option maxRecDepth 100000 in
/-- owe -/
theorem M_owe (l : Launch) (D : va_G) (cy : Nat → ClassId) (a : Nat → Nat) (S : MS) (h q v : Int32) : Ct l D clx (tyx cy) yX9_owe wsX9_owe (rmD 3) 0 0 [.ref (a 0), .int h, .int q, .int v] (MW cy a S) (fun r9 w9 => r9 = some (.long (mf_owe S h q v).1) ∧ w9 = MW cy a (mf_owe S h q v).2) := by
  refine g_start (cc := cX9_owe) (maxL := 4) (ret := (some .long)) (by decide) rfl (Nat.le_of_ble_eq_true rfl) (fun v w1 h => by obtain ⟨rfl, -⟩ := h; exact rfl) (fun Γ hlΓ => ?_)
  subst hlΓ
  refine g_iload_n (i := 1) dX9_owe_0 rfl rfl ?_
  refine g_callSf 1 gX9_owe_X9_isHouse rfl rfl rfl ⟨Nat.le_of_ble_eq_true rfl, Nat.le_of_ble_eq_true rfl⟩ ⟨Nat.le_of_ble_eq_true rfl, Nat.le_of_ble_eq_true rfl⟩ (by exact Nat.le_of_ble_eq_true rfl) (by decide +kernel) rfl dX9_owe_1 (M_isHouse _ D cy a _ _) rfl (fun vu_1 wu_1 hu_1 => ?_)
  rcases hu_1 with ⟨rfl, hu_1, rfl⟩ | ⟨rfl, hu_1, rfl⟩
  · skip
    refine g_if_eq 30 dX9_owe_4 (by decide) (fun h9 => absurd h9 (by decide)) (fun _ => ?_)
    refine g_iload_n (i := 2) dX9_owe_7 rfl rfl ?_
    refine g_callSf 1 gX9_owe_X9_isHouse rfl rfl rfl ⟨Nat.le_of_ble_eq_true rfl, Nat.le_of_ble_eq_true rfl⟩ ⟨Nat.le_of_ble_eq_true rfl, Nat.le_of_ble_eq_true rfl⟩ (by exact Nat.le_of_ble_eq_true rfl) (by decide +kernel) rfl dX9_owe_8 (M_isHouse _ D cy a _ _) rfl (fun vu_3 wu_3 hu_3 => ?_)
    rcases hu_3 with ⟨rfl, hu_3, rfl⟩ | ⟨rfl, hu_3, rfl⟩
    · skip
      refine g_if_eq 30 dX9_owe_11 (by decide) (fun h9 => absurd h9 (by decide)) (fun _ => ?_)
      refine g_iload_n (i := 1) dX9_owe_14 rfl rfl ?_
      refine g_iload_n (i := 2) dX9_owe_15 rfl rfl ?_
      refine g_icmp_eq 30 dX9_owe_16 (by decide) (fun c_5 => ?_) (fun c_5 => ?_)
      · skip
        refine g_aload_n (i := 0) dX9_owe_30 rfl rfl ?_
        refine g_ldc2 (-1000000000001) (List.mem_of_getElem? (i := 2) rfl) dX9_owe_31 ?_
        refine g_callVf 1 0 gX9_owe_X9_finding rfl rfl rfl ⟨Nat.le_of_ble_eq_true rfl, Nat.le_of_ble_eq_true rfl⟩ ⟨Nat.le_of_ble_eq_true rfl, Nat.le_of_ble_eq_true rfl⟩ (by exact Nat.le_of_ble_eq_true rfl) (by decide +kernel) rfl rfl rfl dX9_owe_34 (M_finding _ D cy a _ _ (by unfold vp_in; decide)) rfl (fun vu_6 wu_6 hu_6 => ?_)
        obtain ⟨rfl, rfl⟩ := hu_6
        refine g_lret dX9_owe_37 ?_
        unfold mf_owe; (repeat' split) <;> first | contradiction | (with_reducible exact ⟨rfl, rfl⟩) | (exfalso; simp_all; done) | exact ⟨rfl, rfl⟩
      · skip
        refine g_iload_n (i := 3) dX9_owe_19 rfl rfl ?_
        refine g_iconst (1) rfl dX9_owe_20 ?_
        refine g_ldcw (1000000) (List.mem_of_getElem? (i := 1) rfl) dX9_owe_21 ?_
        refine g_callSf 3 gX9_owe_X9_in rfl rfl rfl ⟨Nat.le_of_ble_eq_true rfl, Nat.le_of_ble_eq_true rfl⟩ ⟨Nat.le_of_ble_eq_true rfl, Nat.le_of_ble_eq_true rfl⟩ (by exact Nat.le_of_ble_eq_true rfl) (by decide +kernel) rfl dX9_owe_24 (M_in _ D cy a _ _ _ _) rfl (fun vu_7 wu_7 hu_7 => ?_)
        rcases hu_7 with ⟨rfl, hu_7, rfl⟩ | ⟨rfl, hu_7, rfl⟩
        · skip
          refine g_if_ne 38 dX9_owe_27 (by decide) (fun _ => ?_) (fun h9 => absurd h9 (by decide))
          refine g_aload_n (i := 0) dX9_owe_38 rfl rfl ?_
          refine g_iload_n (i := 1) dX9_owe_39 rfl rfl ?_
          refine g_iload_n (i := 2) dX9_owe_40 rfl rfl ?_
          refine g_iload_n (i := 3) dX9_owe_41 rfl rfl ?_
          refine g_i2l dX9_owe_42 ?_
          refine g_callVf 3 0 gX9_owe_X9_isTooMuch rfl rfl rfl ⟨Nat.le_of_ble_eq_true rfl, Nat.le_of_ble_eq_true rfl⟩ ⟨Nat.le_of_ble_eq_true rfl, Nat.le_of_ble_eq_true rfl⟩ (by exact Nat.le_of_ble_eq_true rfl) (by decide +kernel) rfl rfl rfl dX9_owe_43 (M_isTooMuch _ D cy a _ _ _ _ (vpi10 (by assumption)) (vpi10 (by assumption))) rfl (fun vu_9 wu_9 hu_9 => ?_)
          rcases hu_9 with ⟨rfl, hu_9, rfl⟩ | ⟨rfl, hu_9, rfl⟩
          · skip
            refine g_if_eq 57 dX9_owe_46 (by decide) (fun h9 => absurd h9 (by decide)) (fun _ => ?_)
            refine g_aload_n (i := 0) dX9_owe_49 rfl rfl ?_
            refine g_ldc2 (-1000000000004) (List.mem_of_getElem? (i := 3) rfl) dX9_owe_50 ?_
            refine g_callVf 1 0 gX9_owe_X9_finding rfl rfl rfl ⟨Nat.le_of_ble_eq_true rfl, Nat.le_of_ble_eq_true rfl⟩ ⟨Nat.le_of_ble_eq_true rfl, Nat.le_of_ble_eq_true rfl⟩ (by exact Nat.le_of_ble_eq_true rfl) (by decide +kernel) rfl rfl rfl dX9_owe_53 (M_finding _ D cy a _ _ (by unfold vp_in; decide)) rfl (fun vu_11 wu_11 hu_11 => ?_)
            obtain ⟨rfl, rfl⟩ := hu_11
            refine g_lret dX9_owe_56 ?_
            unfold mf_owe; (repeat' split) <;> first | contradiction | (with_reducible exact ⟨rfl, rfl⟩) | (exfalso; simp_all; done) | exact ⟨rfl, rfl⟩
          · skip
            refine g_if_eq 57 dX9_owe_46 (by decide) (fun _ => ?_) (fun h9 => absurd h9 (by decide))
            refine g_aload_n (i := 0) dX9_owe_57 rfl rfl ?_
            refine g_iload_n (i := 1) dX9_owe_58 rfl rfl ?_
            refine g_iload_n (i := 2) dX9_owe_59 rfl rfl ?_
            refine g_iload_n (i := 3) dX9_owe_60 rfl rfl ?_
            refine g_i2l dX9_owe_61 ?_
            refine g_callVf 3 0 gX9_owe_X9_comesToOwe rfl rfl rfl ⟨Nat.le_of_ble_eq_true rfl, Nat.le_of_ble_eq_true rfl⟩ ⟨Nat.le_of_ble_eq_true rfl, Nat.le_of_ble_eq_true rfl⟩ (by exact Nat.le_of_ble_eq_true rfl) (by decide +kernel) rfl rfl rfl dX9_owe_62 (M_comesToOwe _ D cy a _ _ _ _ (vpi10 (by assumption)) (vpi10 (by assumption))) rfl (fun vu_13 wu_13 hu_13 => ?_)
            obtain ⟨rfl, rfl⟩ := hu_13
            refine g_aload_n (i := 0) dX9_owe_65 rfl rfl ?_
            refine m_get 15 dX9_owe_66 (List.mem_of_getElem? (i := 4) rfl) (fun w h => List.mem_cons_of_mem _ (List.mem_append_right _ h)) (by decide) rfl ?_
            refine g_bipush (10) rfl dX9_owe_69 ?_
            refine g_iload_n (i := 1) dX9_owe_71 rfl rfl ?_
            refine g_imul dX9_owe_72 ?_
            refine g_iload_n (i := 2) dX9_owe_73 rfl rfl ?_
            refine g_iadd dX9_owe_74 ?_
            refine m_lald 15 13 100 dX9_owe_75 rfl (ix100 (vpi10 (by assumption)) (vpi10 (by assumption))) ?_
            refine g_lret dX9_owe_76 ?_
            unfold mf_owe; (repeat' split) <;> first | contradiction | (with_reducible exact ⟨rfl, rfl⟩) | (exfalso; simp_all; done) | exact ⟨rfl, rfl⟩
        · skip
          refine g_if_ne 38 dX9_owe_27 (by decide) (fun h9 => absurd h9 (by decide)) (fun _ => ?_)
          refine g_aload_n (i := 0) dX9_owe_30 rfl rfl ?_
          refine g_ldc2 (-1000000000001) (List.mem_of_getElem? (i := 2) rfl) dX9_owe_31 ?_
          refine g_callVf 1 0 gX9_owe_X9_finding rfl rfl rfl ⟨Nat.le_of_ble_eq_true rfl, Nat.le_of_ble_eq_true rfl⟩ ⟨Nat.le_of_ble_eq_true rfl, Nat.le_of_ble_eq_true rfl⟩ (by exact Nat.le_of_ble_eq_true rfl) (by decide +kernel) rfl rfl rfl dX9_owe_34 (M_finding _ D cy a _ _ (by unfold vp_in; decide)) rfl (fun vu_15 wu_15 hu_15 => ?_)
          obtain ⟨rfl, rfl⟩ := hu_15
          refine g_lret dX9_owe_37 ?_
          unfold mf_owe; (repeat' split) <;> first | contradiction | (with_reducible exact ⟨rfl, rfl⟩) | (exfalso; simp_all; done) | exact ⟨rfl, rfl⟩
    · skip
      refine g_if_eq 30 dX9_owe_11 (by decide) (fun _ => ?_) (fun h9 => absurd h9 (by decide))
      refine g_aload_n (i := 0) dX9_owe_30 rfl rfl ?_
      refine g_ldc2 (-1000000000001) (List.mem_of_getElem? (i := 2) rfl) dX9_owe_31 ?_
      refine g_callVf 1 0 gX9_owe_X9_finding rfl rfl rfl ⟨Nat.le_of_ble_eq_true rfl, Nat.le_of_ble_eq_true rfl⟩ ⟨Nat.le_of_ble_eq_true rfl, Nat.le_of_ble_eq_true rfl⟩ (by exact Nat.le_of_ble_eq_true rfl) (by decide +kernel) rfl rfl rfl dX9_owe_34 (M_finding _ D cy a _ _ (by unfold vp_in; decide)) rfl (fun vu_17 wu_17 hu_17 => ?_)
      obtain ⟨rfl, rfl⟩ := hu_17
      refine g_lret dX9_owe_37 ?_
      unfold mf_owe; (repeat' split) <;> first | contradiction | (with_reducible exact ⟨rfl, rfl⟩) | (exfalso; simp_all; done) | exact ⟨rfl, rfl⟩
  · skip
    refine g_if_eq 30 dX9_owe_4 (by decide) (fun _ => ?_) (fun h9 => absurd h9 (by decide))
    refine g_aload_n (i := 0) dX9_owe_30 rfl rfl ?_
    refine g_ldc2 (-1000000000001) (List.mem_of_getElem? (i := 2) rfl) dX9_owe_31 ?_
    refine g_callVf 1 0 gX9_owe_X9_finding rfl rfl rfl ⟨Nat.le_of_ble_eq_true rfl, Nat.le_of_ble_eq_true rfl⟩ ⟨Nat.le_of_ble_eq_true rfl, Nat.le_of_ble_eq_true rfl⟩ (by exact Nat.le_of_ble_eq_true rfl) (by decide +kernel) rfl rfl rfl dX9_owe_34 (M_finding _ D cy a _ _ (by unfold vp_in; decide)) rfl (fun vu_19 wu_19 hu_19 => ?_)
    obtain ⟨rfl, rfl⟩ := hu_19
    refine g_lret dX9_owe_37 ?_
    unfold mf_owe; (repeat' split) <;> first | contradiction | (with_reducible exact ⟨rfl, rfl⟩) | (exfalso; simp_all; done) | exact ⟨rfl, rfl⟩

def mf_owes (S : MS) (h q : Int32) : Int64 × MS := if (0 ≤ h ∧ h ≤ 9) ∧ (0 ≤ q ∧ q ≤ 9) ∧ ¬ h = q then (S.2.2.2 15 (10 * h + q).toNatClampNeg, S) else mf_finding S (-1000000000001)
set_option maxHeartbeats 4000000 in
set_option maxRecDepth 100000 in
/-- owes -/
theorem M_owes (l : Launch) (D : va_G) (cy : Nat → ClassId) (a : Nat → Nat) (S : MS) (h q : Int32) : Ct l D clx (tyx cy) yX9_owes wsX9_owes (rmD 2) 0 0 [.ref (a 0), .int h, .int q] (MW cy a S) (fun r9 w9 => r9 = some (.long (mf_owes S h q).1) ∧ w9 = MW cy a (mf_owes S h q).2) := by
  refine g_start (cc := cX9_owes) (maxL := 3) (ret := (some .long)) (by decide) rfl (Nat.le_of_ble_eq_true rfl) (fun v w1 h => by obtain ⟨rfl, -⟩ := h; exact rfl) (fun Γ hlΓ => ?_)
  subst hlΓ
  refine g_iload_n (i := 1) dX9_owes_0 rfl rfl ?_
  refine g_callSf 1 gX9_owes_X9_isHouse rfl rfl rfl ⟨Nat.le_of_ble_eq_true rfl, Nat.le_of_ble_eq_true rfl⟩ ⟨Nat.le_of_ble_eq_true rfl, Nat.le_of_ble_eq_true rfl⟩ (by exact Nat.le_of_ble_eq_true rfl) (by decide +kernel) rfl dX9_owes_1 (M_isHouse _ D cy a _ _) rfl (fun vu_1 wu_1 hu_1 => ?_)
  rcases hu_1 with ⟨rfl, hu_1, rfl⟩ | ⟨rfl, hu_1, rfl⟩
  · skip
    refine g_if_eq 33 dX9_owes_4 (by decide) (fun h9 => absurd h9 (by decide)) (fun _ => ?_)
    refine g_iload_n (i := 2) dX9_owes_7 rfl rfl ?_
    refine g_callSf 1 gX9_owes_X9_isHouse rfl rfl rfl ⟨Nat.le_of_ble_eq_true rfl, Nat.le_of_ble_eq_true rfl⟩ ⟨Nat.le_of_ble_eq_true rfl, Nat.le_of_ble_eq_true rfl⟩ (by exact Nat.le_of_ble_eq_true rfl) (by decide +kernel) rfl dX9_owes_8 (M_isHouse _ D cy a _ _) rfl (fun vu_3 wu_3 hu_3 => ?_)
    rcases hu_3 with ⟨rfl, hu_3, rfl⟩ | ⟨rfl, hu_3, rfl⟩
    · skip
      refine g_if_eq 33 dX9_owes_11 (by decide) (fun h9 => absurd h9 (by decide)) (fun _ => ?_)
      refine g_iload_n (i := 1) dX9_owes_14 rfl rfl ?_
      refine g_iload_n (i := 2) dX9_owes_15 rfl rfl ?_
      refine g_icmp_eq 33 dX9_owes_16 (by decide) (fun c_5 => ?_) (fun c_5 => ?_)
      · skip
        refine g_aload_n (i := 0) dX9_owes_33 rfl rfl ?_
        refine g_ldc2 (-1000000000001) (List.mem_of_getElem? (i := 2) rfl) dX9_owes_34 ?_
        refine g_callVf 1 0 gX9_owes_X9_finding rfl rfl rfl ⟨Nat.le_of_ble_eq_true rfl, Nat.le_of_ble_eq_true rfl⟩ ⟨Nat.le_of_ble_eq_true rfl, Nat.le_of_ble_eq_true rfl⟩ (by exact Nat.le_of_ble_eq_true rfl) (by decide +kernel) rfl rfl rfl dX9_owes_37 (M_finding _ D cy a _ _ (by unfold vp_in; decide)) rfl (fun vu_6 wu_6 hu_6 => ?_)
        obtain ⟨rfl, rfl⟩ := hu_6
        refine g_lret dX9_owes_40 ?_
        unfold mf_owes; (repeat' split) <;> first | contradiction | (with_reducible exact ⟨rfl, rfl⟩) | (exfalso; simp_all; done) | exact ⟨rfl, rfl⟩
      · skip
        refine g_aload_n (i := 0) dX9_owes_19 rfl rfl ?_
        refine m_get 15 dX9_owes_20 (List.mem_of_getElem? (i := 1) rfl) (fun w h => List.mem_cons_of_mem _ (List.mem_append_right _ h)) (by decide) rfl ?_
        refine g_bipush (10) rfl dX9_owes_23 ?_
        refine g_iload_n (i := 1) dX9_owes_25 rfl rfl ?_
        refine g_imul dX9_owes_26 ?_
        refine g_iload_n (i := 2) dX9_owes_27 rfl rfl ?_
        refine g_iadd dX9_owes_28 ?_
        refine m_lald 15 13 100 dX9_owes_29 rfl (ix100 (vpi10 (by assumption)) (vpi10 (by assumption))) ?_
        refine g_goto 40 dX9_owes_30 (by decide) ?_
        refine g_lret dX9_owes_40 ?_
        unfold mf_owes; (repeat' split) <;> first | contradiction | (with_reducible exact ⟨rfl, rfl⟩) | (exfalso; simp_all; done) | exact ⟨rfl, rfl⟩
    · skip
      refine g_if_eq 33 dX9_owes_11 (by decide) (fun _ => ?_) (fun h9 => absurd h9 (by decide))
      refine g_aload_n (i := 0) dX9_owes_33 rfl rfl ?_
      refine g_ldc2 (-1000000000001) (List.mem_of_getElem? (i := 2) rfl) dX9_owes_34 ?_
      refine g_callVf 1 0 gX9_owes_X9_finding rfl rfl rfl ⟨Nat.le_of_ble_eq_true rfl, Nat.le_of_ble_eq_true rfl⟩ ⟨Nat.le_of_ble_eq_true rfl, Nat.le_of_ble_eq_true rfl⟩ (by exact Nat.le_of_ble_eq_true rfl) (by decide +kernel) rfl rfl rfl dX9_owes_37 (M_finding _ D cy a _ _ (by unfold vp_in; decide)) rfl (fun vu_8 wu_8 hu_8 => ?_)
      obtain ⟨rfl, rfl⟩ := hu_8
      refine g_lret dX9_owes_40 ?_
      unfold mf_owes; (repeat' split) <;> first | contradiction | (with_reducible exact ⟨rfl, rfl⟩) | (exfalso; simp_all; done) | exact ⟨rfl, rfl⟩
  · skip
    refine g_if_eq 33 dX9_owes_4 (by decide) (fun _ => ?_) (fun h9 => absurd h9 (by decide))
    refine g_aload_n (i := 0) dX9_owes_33 rfl rfl ?_
    refine g_ldc2 (-1000000000001) (List.mem_of_getElem? (i := 2) rfl) dX9_owes_34 ?_
    refine g_callVf 1 0 gX9_owes_X9_finding rfl rfl rfl ⟨Nat.le_of_ble_eq_true rfl, Nat.le_of_ble_eq_true rfl⟩ ⟨Nat.le_of_ble_eq_true rfl, Nat.le_of_ble_eq_true rfl⟩ (by exact Nat.le_of_ble_eq_true rfl) (by decide +kernel) rfl rfl rfl dX9_owes_37 (M_finding _ D cy a _ _ (by unfold vp_in; decide)) rfl (fun vu_10 wu_10 hu_10 => ?_)
    obtain ⟨rfl, rfl⟩ := hu_10
    refine g_lret dX9_owes_40 ?_
    unfold mf_owes; (repeat' split) <;> first | contradiction | (with_reducible exact ⟨rfl, rfl⟩) | (exfalso; simp_all; done) | exact ⟨rfl, rfl⟩

def mnetT (S : MS) (h : Int32) : Nat → Int64
  | 0 => 0
  | i + 1 => mnetT S h i + (S.2.2.2 15 (10 * nI i + h).toNatClampNeg - S.2.2.2 15 (10 * h + nI i).toNatClampNeg)
set_option maxHeartbeats 4000000 in
set_option maxRecDepth 100000 in
/-- the net of a house -/
theorem M_netOf (l : Launch) (D : va_G) (cy : Nat → ClassId) (a : Nat → Nat) (S : MS) (h : Int32) (hh : vp_in h 10) : Ct l D clx (tyx cy) yX9_netOf wsX9_netOf (rmD 0) 0 0 [.ref (a 0), .int h] (MW cy a S) (fun r9 w9 => r9 = some (.long (mnetT S h 10)) ∧ w9 = MW cy a S) := by
  refine g_start (cc := cX9_netOf) (maxL := 5) (ret := (some .long)) (by decide) rfl (Nat.le_of_ble_eq_true rfl) (fun v w1 h => by obtain ⟨rfl, -⟩ := h; exact rfl) (fun Γ hlΓ => ?_)
  subst hlΓ
  refine g_lconst 0 rfl dX9_netOf_0 ?_
  refine g_lstore_n (i := 2) dX9_netOf_1 rfl (by decide) ?_
  refine g_iconst (0) rfl dX9_netOf_2 ?_
  refine g_istore dX9_netOf_3 (by decide) ?_
  refine g_cnt 10 (fun i => True) (fun i => MW cy a S) (fun i => [(0, .ref (a 0)), (1, .int h), (2, .long (mnetT S h i)), (4, .int (nI i))]) 0 (by first | decide | omega) trivial (by rfl) (by refine ⟨rfl, rfl, rfl, rfl, trivial⟩) ?_ (fun i1 hi1 gi1 ihi1 => ?_)
  · intro gN
    refine g_iload dX9_netOf_5 rfl ?_
    refine g_bipush (10) rfl dX9_netOf_7 ?_
    refine g_icmp_ge 46 dX9_netOf_9 (by decide) (fun c_2 => ?_) (fun c_2 => ?_)
    · skip
      refine g_lload_n (i := 2) dX9_netOf_46 rfl rfl ?_
      refine g_lret dX9_netOf_47 ?_
      exact ⟨rfl, rfl⟩
    · skip
      exact absurd (nI_le (Nat.le_refl _) (by decide)) c_2
  · skip
    refine g_iload dX9_netOf_5 rfl ?_
    refine g_bipush (10) rfl dX9_netOf_7 ?_
    refine g_icmp_ge 46 dX9_netOf_9 (by decide) (fun c_3 => ?_) (fun c_3 => ?_)
    · skip
      exact absurd c_3 (nI_ge hi1 (by decide))
    · skip
      refine g_lload_n (i := 2) dX9_netOf_12 rfl rfl ?_
      refine g_aload_n (i := 0) dX9_netOf_13 rfl rfl ?_
      refine m_get 15 dX9_netOf_14 (List.mem_of_getElem? (i := 1) rfl) (fun w h => List.mem_cons_of_mem _ (List.mem_append_right _ h)) (by decide) rfl ?_
      refine g_bipush (10) rfl dX9_netOf_17 ?_
      refine g_iload dX9_netOf_19 rfl ?_
      refine g_imul dX9_netOf_21 ?_
      refine g_iload_n (i := 1) dX9_netOf_22 rfl rfl ?_
      refine g_iadd dX9_netOf_23 ?_
      refine m_lald 15 13 100 dX9_netOf_24 rfl (ix100 (vp_in_nI (by assumption) (by decide)) (by assumption)) ?_
      refine g_aload_n (i := 0) dX9_netOf_25 rfl rfl ?_
      refine m_get 15 dX9_netOf_26 (List.mem_of_getElem? (i := 1) rfl) (fun w h => List.mem_cons_of_mem _ (List.mem_append_right _ h)) (by decide) rfl ?_
      refine g_bipush (10) rfl dX9_netOf_29 ?_
      refine g_iload_n (i := 1) dX9_netOf_31 rfl rfl ?_
      refine g_imul dX9_netOf_32 ?_
      refine g_iload dX9_netOf_33 rfl ?_
      refine g_iadd dX9_netOf_35 ?_
      refine m_lald 15 13 100 dX9_netOf_36 rfl (ix100 (by assumption) (vp_in_nI (by assumption) (by decide))) ?_
      refine g_lsub dX9_netOf_37 ?_
      refine g_ladd dX9_netOf_38 ?_
      refine g_lstore_n (i := 2) dX9_netOf_39 rfl (by decide) ?_
      refine g_iinc (1) dX9_netOf_40 rfl rfl (by decide) ?_
      refine g_goto 5 dX9_netOf_43 (by decide) ?_
      refine g_to _ _ (ihi1 (trivial)) rfl (by refine ⟨(by first | rfl | (rw [← nI_1]; rfl) | (rw [← nI_1]; rfl)), (by first | rfl | (rw [← nI_1]; rfl) | (rw [← nI_1]; rfl)), (by first | rfl | (rw [← nI_1]; rfl) | (rw [← nI_1]; rfl)), (by first | rfl | (rw [← nI_1]; rfl) | (rw [← nI_1]; rfl)), trivial⟩)

def mf_net (S : MS) (h : Int32) : Int64 × MS := if (0 ≤ h ∧ h ≤ 9) then (mnetT S h 10, S) else mf_finding S (-1000000000001)
set_option maxHeartbeats 4000000 in
set_option maxRecDepth 100000 in
/-- net -/
theorem M_net (l : Launch) (D : va_G) (cy : Nat → ClassId) (a : Nat → Nat) (S : MS) (h : Int32) : Ct l D clx (tyx cy) yX9_net wsX9_net (rmD 2) 0 0 [.ref (a 0), .int h] (MW cy a S) (fun r9 w9 => r9 = some (.long (mf_net S h).1) ∧ w9 = MW cy a (mf_net S h).2) := by
  refine g_start (cc := cX9_net) (maxL := 2) (ret := (some .long)) (by decide) rfl (Nat.le_of_ble_eq_true rfl) (fun v w1 h => by obtain ⟨rfl, -⟩ := h; exact rfl) (fun Γ hlΓ => ?_)
  subst hlΓ
  refine g_iload_n (i := 1) dX9_net_0 rfl rfl ?_
  refine g_callSf 1 gX9_net_X9_isHouse rfl rfl rfl ⟨Nat.le_of_ble_eq_true rfl, Nat.le_of_ble_eq_true rfl⟩ ⟨Nat.le_of_ble_eq_true rfl, Nat.le_of_ble_eq_true rfl⟩ (by exact Nat.le_of_ble_eq_true rfl) (by decide +kernel) rfl dX9_net_1 (M_isHouse _ D cy a _ _) rfl (fun vu_1 wu_1 hu_1 => ?_)
  rcases hu_1 with ⟨rfl, hu_1, rfl⟩ | ⟨rfl, hu_1, rfl⟩
  · skip
    refine g_if_eq 15 dX9_net_4 (by decide) (fun h9 => absurd h9 (by decide)) (fun _ => ?_)
    refine g_aload_n (i := 0) dX9_net_7 rfl rfl ?_
    refine g_iload_n (i := 1) dX9_net_8 rfl rfl ?_
    refine g_callVf 1 0 gX9_net_X9_netOf rfl rfl rfl ⟨Nat.le_of_ble_eq_true rfl, Nat.le_of_ble_eq_true rfl⟩ ⟨Nat.le_of_ble_eq_true rfl, Nat.le_of_ble_eq_true rfl⟩ (by exact Nat.le_of_ble_eq_true rfl) (by decide +kernel) rfl rfl rfl dX9_net_9 (M_netOf _ D cy a _ _ (by first | assumption | exact vpi10 (by assumption) | exact vp_in_nI (by assumption) (by decide))) rfl (fun vu_3 wu_3 hu_3 => ?_)
    obtain ⟨rfl, rfl⟩ := hu_3
    refine g_goto 22 dX9_net_12 (by decide) ?_
    refine g_lret dX9_net_22 ?_
    unfold mf_net; (repeat' split) <;> first | contradiction | (with_reducible exact ⟨rfl, rfl⟩) | (exfalso; simp_all; done) | exact ⟨rfl, rfl⟩
  · skip
    refine g_if_eq 15 dX9_net_4 (by decide) (fun _ => ?_) (fun h9 => absurd h9 (by decide))
    refine g_aload_n (i := 0) dX9_net_15 rfl rfl ?_
    refine g_ldc2 (-1000000000001) (List.mem_of_getElem? (i := 1) rfl) dX9_net_16 ?_
    refine g_callVf 1 0 gX9_net_X9_finding rfl rfl rfl ⟨Nat.le_of_ble_eq_true rfl, Nat.le_of_ble_eq_true rfl⟩ ⟨Nat.le_of_ble_eq_true rfl, Nat.le_of_ble_eq_true rfl⟩ (by exact Nat.le_of_ble_eq_true rfl) (by decide +kernel) rfl rfl rfl dX9_net_19 (M_finding _ D cy a _ _ (by unfold vp_in; decide)) rfl (fun vu_5 wu_5 hu_5 => ?_)
    obtain ⟨rfl, rfl⟩ := hu_5
    refine g_lret dX9_net_22 ?_
    unfold mf_net; (repeat' split) <;> first | contradiction | (with_reducible exact ⟨rfl, rfl⟩) | (exfalso; simp_all; done) | exact ⟨rfl, rfl⟩

def mall (S : MS) : Nat → Int64
  | 0 => 0
  | i + 1 => mall S i + S.2.2.2 15 i
set_option maxHeartbeats 4000000 in
set_option maxRecDepth 100000 in
/-- what is owed in all -/
theorem M_owedInAll (l : Launch) (D : va_G) (cy : Nat → ClassId) (a : Nat → Nat) (S : MS) : Ct l D clx (tyx cy) yX9_owedInAll wsX9_owedInAll (rmD 0) 0 0 [.ref (a 0)] (MW cy a S) (fun r9 w9 => r9 = some (.long (mall S 100)) ∧ w9 = MW cy a S) := by
  refine g_start (cc := cX9_owedInAll) (maxL := 4) (ret := (some .long)) (by decide) rfl (Nat.le_of_ble_eq_true rfl) (fun v w1 h => by obtain ⟨rfl, -⟩ := h; exact rfl) (fun Γ hlΓ => ?_)
  subst hlΓ
  refine g_lconst 0 rfl dX9_owedInAll_0 ?_
  refine g_lstore_n (i := 1) dX9_owedInAll_1 rfl (by decide) ?_
  refine g_iconst (0) rfl dX9_owedInAll_2 ?_
  refine g_istore_n (i := 3) dX9_owedInAll_3 rfl (by decide) ?_
  refine g_cnt 100 (fun i => True) (fun i => MW cy a S) (fun i => [(0, .ref (a 0)), (1, .long (mall S i)), (3, .int (nI i))]) 0 (by first | decide | omega) trivial (by rfl) (by refine ⟨rfl, rfl, rfl, trivial⟩) ?_ (fun i1 hi1 gi1 ihi1 => ?_)
  · intro gN
    refine g_iload_n (i := 3) dX9_owedInAll_4 rfl rfl ?_
    refine g_bipush (100) rfl dX9_owedInAll_5 ?_
    refine g_icmp_ge 25 dX9_owedInAll_7 (by decide) (fun c_2 => ?_) (fun c_2 => ?_)
    · skip
      refine g_lload_n (i := 1) dX9_owedInAll_25 rfl rfl ?_
      refine g_lret dX9_owedInAll_26 ?_
      exact ⟨rfl, rfl⟩
    · skip
      exact absurd (nI_le (Nat.le_refl _) (by decide)) c_2
  · skip
    refine g_iload_n (i := 3) dX9_owedInAll_4 rfl rfl ?_
    refine g_bipush (100) rfl dX9_owedInAll_5 ?_
    refine g_icmp_ge 25 dX9_owedInAll_7 (by decide) (fun c_3 => ?_) (fun c_3 => ?_)
    · skip
      exact absurd c_3 (nI_ge hi1 (by decide))
    · skip
      refine g_lload_n (i := 1) dX9_owedInAll_10 rfl rfl ?_
      refine g_aload_n (i := 0) dX9_owedInAll_11 rfl rfl ?_
      refine m_get 15 dX9_owedInAll_12 (List.mem_of_getElem? (i := 1) rfl) (fun w h => List.mem_cons_of_mem _ (List.mem_append_right _ h)) (by decide) rfl ?_
      refine g_iload_n (i := 3) dX9_owedInAll_15 rfl rfl ?_
      refine m_laldN 15 13 100 dX9_owedInAll_16 rfl (by omega) (by decide) ?_
      refine g_ladd dX9_owedInAll_17 ?_
      refine g_lstore_n (i := 1) dX9_owedInAll_18 rfl (by decide) ?_
      refine g_iinc (1) dX9_owedInAll_19 rfl rfl (by decide) ?_
      refine g_goto 4 dX9_owedInAll_22 (by decide) ?_
      refine g_to _ _ (ihi1 (trivial)) rfl (by refine ⟨(by first | rfl | (rw [← nI_1]; rfl) | (rw [← nI_1]; rfl)), (by first | rfl | (rw [← nI_1]; rfl) | (rw [← nI_1]; rfl)), (by first | rfl | (rw [← nI_1]; rfl) | (rw [← nI_1]; rfl)), trivial⟩)

def mf_coin (S : MS) (kd w f : Int32) : Int64 × MS := if (0 ≤ kd ∧ kd ≤ 3) ∧ (0 ≤ w ∧ w ≤ 1000) ∧ (0 ≤ f ∧ f ≤ 1000) then (((sA S 16 kd.toNatClampNeg (w * f / 1000)).2.2.1 16 kd.toNatClampNeg).toInt64, sA S 16 kd.toNatClampNeg (w * f / 1000)) else mf_finding S (-1000000000001)
set_option maxHeartbeats 4000000 in
set_option maxRecDepth 100000 in
/-- coin -/
theorem M_coin (l : Launch) (D : va_G) (cy : Nat → ClassId) (a : Nat → Nat) (S : MS) (kd w f : Int32) : Ct l D clx (tyx cy) yX9_coin wsX9_coin (rmD 2) 0 0 [.ref (a 0), .int kd, .int w, .int f] (MW cy a S) (fun r9 w9 => r9 = some (.long (mf_coin S kd w f).1) ∧ w9 = MW cy a (mf_coin S kd w f).2) := by
  refine g_start (cc := cX9_coin) (maxL := 4) (ret := (some .long)) (by decide) rfl (Nat.le_of_ble_eq_true rfl) (fun v w1 h => by obtain ⟨rfl, -⟩ := h; exact rfl) (fun Γ hlΓ => ?_)
  subst hlΓ
  refine g_iload_n (i := 1) dX9_coin_0 rfl rfl ?_
  refine g_iconst (0) rfl dX9_coin_1 ?_
  refine g_iconst (3) rfl dX9_coin_2 ?_
  refine g_callSf 3 gX9_coin_X9_in rfl rfl rfl ⟨Nat.le_of_ble_eq_true rfl, Nat.le_of_ble_eq_true rfl⟩ ⟨Nat.le_of_ble_eq_true rfl, Nat.le_of_ble_eq_true rfl⟩ (by exact Nat.le_of_ble_eq_true rfl) (by decide +kernel) rfl dX9_coin_3 (M_in _ D cy a _ _ _ _) rfl (fun vu_1 wu_1 hu_1 => ?_)
  rcases hu_1 with ⟨rfl, hu_1, rfl⟩ | ⟨rfl, hu_1, rfl⟩
  · skip
    refine g_if_eq 31 dX9_coin_6 (by decide) (fun h9 => absurd h9 (by decide)) (fun _ => ?_)
    refine g_iload_n (i := 2) dX9_coin_9 rfl rfl ?_
    refine g_iconst (0) rfl dX9_coin_10 ?_
    refine g_sipush (1000) rfl dX9_coin_11 ?_
    refine g_callSf 3 gX9_coin_X9_in rfl rfl rfl ⟨Nat.le_of_ble_eq_true rfl, Nat.le_of_ble_eq_true rfl⟩ ⟨Nat.le_of_ble_eq_true rfl, Nat.le_of_ble_eq_true rfl⟩ (by exact Nat.le_of_ble_eq_true rfl) (by decide +kernel) rfl dX9_coin_14 (M_in _ D cy a _ _ _ _) rfl (fun vu_3 wu_3 hu_3 => ?_)
    rcases hu_3 with ⟨rfl, hu_3, rfl⟩ | ⟨rfl, hu_3, rfl⟩
    · skip
      refine g_if_eq 31 dX9_coin_17 (by decide) (fun h9 => absurd h9 (by decide)) (fun _ => ?_)
      refine g_iload_n (i := 3) dX9_coin_20 rfl rfl ?_
      refine g_iconst (0) rfl dX9_coin_21 ?_
      refine g_sipush (1000) rfl dX9_coin_22 ?_
      refine g_callSf 3 gX9_coin_X9_in rfl rfl rfl ⟨Nat.le_of_ble_eq_true rfl, Nat.le_of_ble_eq_true rfl⟩ ⟨Nat.le_of_ble_eq_true rfl, Nat.le_of_ble_eq_true rfl⟩ (by exact Nat.le_of_ble_eq_true rfl) (by decide +kernel) rfl dX9_coin_25 (M_in _ D cy a _ _ _ _) rfl (fun vu_5 wu_5 hu_5 => ?_)
      rcases hu_5 with ⟨rfl, hu_5, rfl⟩ | ⟨rfl, hu_5, rfl⟩
      · skip
        refine g_if_ne 39 dX9_coin_28 (by decide) (fun _ => ?_) (fun h9 => absurd h9 (by decide))
        refine g_aload_n (i := 0) dX9_coin_39 rfl rfl ?_
        refine m_get 16 dX9_coin_40 (List.mem_of_getElem? (i := 2) rfl) (fun w h => List.mem_cons_of_mem _ (List.mem_append_right _ h)) (by decide) rfl ?_
        refine g_iload_n (i := 1) dX9_coin_43 rfl rfl ?_
        refine g_iload_n (i := 2) dX9_coin_44 rfl rfl ?_
        refine g_iload_n (i := 3) dX9_coin_45 rfl rfl ?_
        refine g_imul dX9_coin_46 ?_
        refine g_sipush (1000) rfl dX9_coin_47 ?_
        refine g_idiv (by decide) dX9_coin_50 ?_
        refine m_iast 16 14 4 dX9_coin_51 rfl (vpi4 (by assumption)) (wsA_16 _ _ _ _ _) ?_
        refine g_aload_n (i := 0) dX9_coin_52 rfl rfl ?_
        refine m_get 16 dX9_coin_53 (List.mem_of_getElem? (i := 2) rfl) (fun w h => List.mem_cons_of_mem _ (List.mem_append_right _ h)) (by decide) rfl ?_
        refine g_iload_n (i := 1) dX9_coin_56 rfl rfl ?_
        refine m_iald 16 14 4 dX9_coin_57 rfl (vpi4 (by assumption)) ?_
        refine g_i2l dX9_coin_58 ?_
        refine g_lret dX9_coin_59 ?_
        unfold mf_coin; (repeat' split) <;> first | contradiction | (with_reducible exact ⟨rfl, rfl⟩) | (exfalso; simp_all; done) | exact ⟨rfl, rfl⟩
      · skip
        refine g_if_ne 39 dX9_coin_28 (by decide) (fun h9 => absurd h9 (by decide)) (fun _ => ?_)
        refine g_aload_n (i := 0) dX9_coin_31 rfl rfl ?_
        refine g_ldc2 (-1000000000001) (List.mem_of_getElem? (i := 1) rfl) dX9_coin_32 ?_
        refine g_callVf 1 0 gX9_coin_X9_finding rfl rfl rfl ⟨Nat.le_of_ble_eq_true rfl, Nat.le_of_ble_eq_true rfl⟩ ⟨Nat.le_of_ble_eq_true rfl, Nat.le_of_ble_eq_true rfl⟩ (by exact Nat.le_of_ble_eq_true rfl) (by decide +kernel) rfl rfl rfl dX9_coin_35 (M_finding _ D cy a _ _ (by unfold vp_in; decide)) rfl (fun vu_8 wu_8 hu_8 => ?_)
        obtain ⟨rfl, rfl⟩ := hu_8
        refine g_lret dX9_coin_38 ?_
        unfold mf_coin; (repeat' split) <;> first | contradiction | (with_reducible exact ⟨rfl, rfl⟩) | (exfalso; simp_all; done) | exact ⟨rfl, rfl⟩
    · skip
      refine g_if_eq 31 dX9_coin_17 (by decide) (fun _ => ?_) (fun h9 => absurd h9 (by decide))
      refine g_aload_n (i := 0) dX9_coin_31 rfl rfl ?_
      refine g_ldc2 (-1000000000001) (List.mem_of_getElem? (i := 1) rfl) dX9_coin_32 ?_
      refine g_callVf 1 0 gX9_coin_X9_finding rfl rfl rfl ⟨Nat.le_of_ble_eq_true rfl, Nat.le_of_ble_eq_true rfl⟩ ⟨Nat.le_of_ble_eq_true rfl, Nat.le_of_ble_eq_true rfl⟩ (by exact Nat.le_of_ble_eq_true rfl) (by decide +kernel) rfl rfl rfl dX9_coin_35 (M_finding _ D cy a _ _ (by unfold vp_in; decide)) rfl (fun vu_10 wu_10 hu_10 => ?_)
      obtain ⟨rfl, rfl⟩ := hu_10
      refine g_lret dX9_coin_38 ?_
      unfold mf_coin; (repeat' split) <;> first | contradiction | (with_reducible exact ⟨rfl, rfl⟩) | (exfalso; simp_all; done) | exact ⟨rfl, rfl⟩
  · skip
    refine g_if_eq 31 dX9_coin_6 (by decide) (fun _ => ?_) (fun h9 => absurd h9 (by decide))
    refine g_aload_n (i := 0) dX9_coin_31 rfl rfl ?_
    refine g_ldc2 (-1000000000001) (List.mem_of_getElem? (i := 1) rfl) dX9_coin_32 ?_
    refine g_callVf 1 0 gX9_coin_X9_finding rfl rfl rfl ⟨Nat.le_of_ble_eq_true rfl, Nat.le_of_ble_eq_true rfl⟩ ⟨Nat.le_of_ble_eq_true rfl, Nat.le_of_ble_eq_true rfl⟩ (by exact Nat.le_of_ble_eq_true rfl) (by decide +kernel) rfl rfl rfl dX9_coin_35 (M_finding _ D cy a _ _ (by unfold vp_in; decide)) rfl (fun vu_12 wu_12 hu_12 => ?_)
    obtain ⟨rfl, rfl⟩ := hu_12
    refine g_lret dX9_coin_38 ?_
    unfold mf_coin; (repeat' split) <;> first | contradiction | (with_reducible exact ⟨rfl, rfl⟩) | (exfalso; simp_all; done) | exact ⟨rfl, rfl⟩

def mf_purse (S : MS) (h kd v : Int32) : Int64 × MS := if (0 ≤ h ∧ h ≤ 9) ∧ (0 ≤ kd ∧ kd ≤ 3) ∧ (0 ≤ v ∧ v ≤ 1000) then ((S.2.2.1 17 (4 * h + kd).toNatClampNeg).toInt64, sA S 17 (4 * h + kd).toNatClampNeg v) else mf_finding S (-1000000000001)
set_option maxHeartbeats 4000000 in
set_option maxRecDepth 100000 in
/-- purse -/
theorem M_purse (l : Launch) (D : va_G) (cy : Nat → ClassId) (a : Nat → Nat) (S : MS) (h kd v : Int32) : Ct l D clx (tyx cy) yX9_purse wsX9_purse (rmD 2) 0 0 [.ref (a 0), .int h, .int kd, .int v] (MW cy a S) (fun r9 w9 => r9 = some (.long (mf_purse S h kd v).1) ∧ w9 = MW cy a (mf_purse S h kd v).2) := by
  refine g_start (cc := cX9_purse) (maxL := 5) (ret := (some .long)) (by decide) rfl (Nat.le_of_ble_eq_true rfl) (fun v w1 h => by obtain ⟨rfl, -⟩ := h; exact rfl) (fun Γ hlΓ => ?_)
  subst hlΓ
  refine g_iload_n (i := 1) dX9_purse_0 rfl rfl ?_
  refine g_callSf 1 gX9_purse_X9_isHouse rfl rfl rfl ⟨Nat.le_of_ble_eq_true rfl, Nat.le_of_ble_eq_true rfl⟩ ⟨Nat.le_of_ble_eq_true rfl, Nat.le_of_ble_eq_true rfl⟩ (by exact Nat.le_of_ble_eq_true rfl) (by decide +kernel) rfl dX9_purse_1 (M_isHouse _ D cy a _ _) rfl (fun vu_1 wu_1 hu_1 => ?_)
  rcases hu_1 with ⟨rfl, hu_1, rfl⟩ | ⟨rfl, hu_1, rfl⟩
  · skip
    refine g_if_eq 27 dX9_purse_4 (by decide) (fun h9 => absurd h9 (by decide)) (fun _ => ?_)
    refine g_iload_n (i := 2) dX9_purse_7 rfl rfl ?_
    refine g_iconst (0) rfl dX9_purse_8 ?_
    refine g_iconst (3) rfl dX9_purse_9 ?_
    refine g_callSf 3 gX9_purse_X9_in rfl rfl rfl ⟨Nat.le_of_ble_eq_true rfl, Nat.le_of_ble_eq_true rfl⟩ ⟨Nat.le_of_ble_eq_true rfl, Nat.le_of_ble_eq_true rfl⟩ (by exact Nat.le_of_ble_eq_true rfl) (by decide +kernel) rfl dX9_purse_10 (M_in _ D cy a _ _ _ _) rfl (fun vu_3 wu_3 hu_3 => ?_)
    rcases hu_3 with ⟨rfl, hu_3, rfl⟩ | ⟨rfl, hu_3, rfl⟩
    · skip
      refine g_if_eq 27 dX9_purse_13 (by decide) (fun h9 => absurd h9 (by decide)) (fun _ => ?_)
      refine g_iload_n (i := 3) dX9_purse_16 rfl rfl ?_
      refine g_iconst (0) rfl dX9_purse_17 ?_
      refine g_sipush (1000) rfl dX9_purse_18 ?_
      refine g_callSf 3 gX9_purse_X9_in rfl rfl rfl ⟨Nat.le_of_ble_eq_true rfl, Nat.le_of_ble_eq_true rfl⟩ ⟨Nat.le_of_ble_eq_true rfl, Nat.le_of_ble_eq_true rfl⟩ (by exact Nat.le_of_ble_eq_true rfl) (by decide +kernel) rfl dX9_purse_21 (M_in _ D cy a _ _ _ _) rfl (fun vu_5 wu_5 hu_5 => ?_)
      rcases hu_5 with ⟨rfl, hu_5, rfl⟩ | ⟨rfl, hu_5, rfl⟩
      · skip
        refine g_if_ne 35 dX9_purse_24 (by decide) (fun _ => ?_) (fun h9 => absurd h9 (by decide))
        refine g_aload_n (i := 0) dX9_purse_35 rfl rfl ?_
        refine m_get 17 dX9_purse_36 (List.mem_of_getElem? (i := 2) rfl) (fun w h => List.mem_cons_of_mem _ (List.mem_append_right _ h)) (by decide) rfl ?_
        refine g_iconst (4) rfl dX9_purse_39 ?_
        refine g_iload_n (i := 1) dX9_purse_40 rfl rfl ?_
        refine g_imul dX9_purse_41 ?_
        refine g_iload_n (i := 2) dX9_purse_42 rfl rfl ?_
        refine g_iadd dX9_purse_43 ?_
        refine m_iald 17 15 40 dX9_purse_44 rfl (ix40 (vpi10 (by assumption)) (vpi4 (by assumption))) ?_
        refine g_istore dX9_purse_45 (by decide) ?_
        refine g_aload_n (i := 0) dX9_purse_47 rfl rfl ?_
        refine m_get 17 dX9_purse_48 (List.mem_of_getElem? (i := 2) rfl) (fun w h => List.mem_cons_of_mem _ (List.mem_append_right _ h)) (by decide) rfl ?_
        refine g_iconst (4) rfl dX9_purse_51 ?_
        refine g_iload_n (i := 1) dX9_purse_52 rfl rfl ?_
        refine g_imul dX9_purse_53 ?_
        refine g_iload_n (i := 2) dX9_purse_54 rfl rfl ?_
        refine g_iadd dX9_purse_55 ?_
        refine g_iload_n (i := 3) dX9_purse_56 rfl rfl ?_
        refine m_iast 17 15 40 dX9_purse_57 rfl (ix40 (vpi10 (by assumption)) (vpi4 (by assumption))) (wsA_17 _ _ _ _ _) ?_
        refine g_iload dX9_purse_58 rfl ?_
        refine g_i2l dX9_purse_60 ?_
        refine g_lret dX9_purse_61 ?_
        unfold mf_purse; (repeat' split) <;> first | contradiction | (with_reducible exact ⟨rfl, rfl⟩) | (exfalso; simp_all; done) | exact ⟨rfl, rfl⟩
      · skip
        refine g_if_ne 35 dX9_purse_24 (by decide) (fun h9 => absurd h9 (by decide)) (fun _ => ?_)
        refine g_aload_n (i := 0) dX9_purse_27 rfl rfl ?_
        refine g_ldc2 (-1000000000001) (List.mem_of_getElem? (i := 1) rfl) dX9_purse_28 ?_
        refine g_callVf 1 0 gX9_purse_X9_finding rfl rfl rfl ⟨Nat.le_of_ble_eq_true rfl, Nat.le_of_ble_eq_true rfl⟩ ⟨Nat.le_of_ble_eq_true rfl, Nat.le_of_ble_eq_true rfl⟩ (by exact Nat.le_of_ble_eq_true rfl) (by decide +kernel) rfl rfl rfl dX9_purse_31 (M_finding _ D cy a _ _ (by unfold vp_in; decide)) rfl (fun vu_8 wu_8 hu_8 => ?_)
        obtain ⟨rfl, rfl⟩ := hu_8
        refine g_lret dX9_purse_34 ?_
        unfold mf_purse; (repeat' split) <;> first | contradiction | (with_reducible exact ⟨rfl, rfl⟩) | (exfalso; simp_all; done) | exact ⟨rfl, rfl⟩
    · skip
      refine g_if_eq 27 dX9_purse_13 (by decide) (fun _ => ?_) (fun h9 => absurd h9 (by decide))
      refine g_aload_n (i := 0) dX9_purse_27 rfl rfl ?_
      refine g_ldc2 (-1000000000001) (List.mem_of_getElem? (i := 1) rfl) dX9_purse_28 ?_
      refine g_callVf 1 0 gX9_purse_X9_finding rfl rfl rfl ⟨Nat.le_of_ble_eq_true rfl, Nat.le_of_ble_eq_true rfl⟩ ⟨Nat.le_of_ble_eq_true rfl, Nat.le_of_ble_eq_true rfl⟩ (by exact Nat.le_of_ble_eq_true rfl) (by decide +kernel) rfl rfl rfl dX9_purse_31 (M_finding _ D cy a _ _ (by unfold vp_in; decide)) rfl (fun vu_10 wu_10 hu_10 => ?_)
      obtain ⟨rfl, rfl⟩ := hu_10
      refine g_lret dX9_purse_34 ?_
      unfold mf_purse; (repeat' split) <;> first | contradiction | (with_reducible exact ⟨rfl, rfl⟩) | (exfalso; simp_all; done) | exact ⟨rfl, rfl⟩
  · skip
    refine g_if_eq 27 dX9_purse_4 (by decide) (fun _ => ?_) (fun h9 => absurd h9 (by decide))
    refine g_aload_n (i := 0) dX9_purse_27 rfl rfl ?_
    refine g_ldc2 (-1000000000001) (List.mem_of_getElem? (i := 1) rfl) dX9_purse_28 ?_
    refine g_callVf 1 0 gX9_purse_X9_finding rfl rfl rfl ⟨Nat.le_of_ble_eq_true rfl, Nat.le_of_ble_eq_true rfl⟩ ⟨Nat.le_of_ble_eq_true rfl, Nat.le_of_ble_eq_true rfl⟩ (by exact Nat.le_of_ble_eq_true rfl) (by decide +kernel) rfl rfl rfl dX9_purse_31 (M_finding _ D cy a _ _ (by unfold vp_in; decide)) rfl (fun vu_12 wu_12 hu_12 => ?_)
    obtain ⟨rfl, rfl⟩ := hu_12
    refine g_lret dX9_purse_34 ?_
    unfold mf_purse; (repeat' split) <;> first | contradiction | (with_reducible exact ⟨rfl, rfl⟩) | (exfalso; simp_all; done) | exact ⟨rfl, rfl⟩

def mhasT (S : MS) (h : Int32) : Nat → Int64
  | 0 => 0
  | i + 1 => mhasT S h i + (S.2.2.1 17 (4 * h + nI i).toNatClampNeg).toInt64 * (S.2.2.1 16 i).toInt64
def mf_has (S : MS) (h kd : Int32) : Int64 × MS := if (0 ≤ h ∧ h ≤ 9) ∧ (-1 ≤ kd ∧ kd ≤ 3) then (if kd < 0 then (mhasT S h 4, S) else ((S.2.2.1 17 (4 * h + kd).toNatClampNeg).toInt64, S)) else mf_finding S (-1000000000001)
set_option maxHeartbeats 4000000 in
set_option maxRecDepth 100000 in
/-- has -/
theorem M_has (l : Launch) (D : va_G) (cy : Nat → ClassId) (a : Nat → Nat) (S : MS) (h kd : Int32) : Ct l D clx (tyx cy) yX9_has wsX9_has (rmD 2) 0 0 [.ref (a 0), .int h, .int kd] (MW cy a S) (fun r9 w9 => r9 = some (.long (mf_has S h kd).1) ∧ w9 = MW cy a (mf_has S h kd).2) := by
  refine g_start (cc := cX9_has) (maxL := 6) (ret := (some .long)) (by decide) rfl (Nat.le_of_ble_eq_true rfl) (fun v w1 h => by obtain ⟨rfl, -⟩ := h; exact rfl) (fun Γ hlΓ => ?_)
  subst hlΓ
  refine g_iload_n (i := 1) dX9_has_0 rfl rfl ?_
  refine g_callSf 1 gX9_has_X9_isHouse rfl rfl rfl ⟨Nat.le_of_ble_eq_true rfl, Nat.le_of_ble_eq_true rfl⟩ ⟨Nat.le_of_ble_eq_true rfl, Nat.le_of_ble_eq_true rfl⟩ (by exact Nat.le_of_ble_eq_true rfl) (by decide +kernel) rfl dX9_has_1 (M_isHouse _ D cy a _ _) rfl (fun vu_1 wu_1 hu_1 => ?_)
  rcases hu_1 with ⟨rfl, hu_1, rfl⟩ | ⟨rfl, hu_1, rfl⟩
  · skip
    refine g_if_eq 16 dX9_has_4 (by decide) (fun h9 => absurd h9 (by decide)) (fun _ => ?_)
    refine g_iload_n (i := 2) dX9_has_7 rfl rfl ?_
    refine g_iconst (-1) rfl dX9_has_8 ?_
    refine g_iconst (3) rfl dX9_has_9 ?_
    refine g_callSf 3 gX9_has_X9_in rfl rfl rfl ⟨Nat.le_of_ble_eq_true rfl, Nat.le_of_ble_eq_true rfl⟩ ⟨Nat.le_of_ble_eq_true rfl, Nat.le_of_ble_eq_true rfl⟩ (by exact Nat.le_of_ble_eq_true rfl) (by decide +kernel) rfl dX9_has_10 (M_in _ D cy a _ _ _ _) rfl (fun vu_3 wu_3 hu_3 => ?_)
    rcases hu_3 with ⟨rfl, hu_3, rfl⟩ | ⟨rfl, hu_3, rfl⟩
    · skip
      refine g_if_ne 24 dX9_has_13 (by decide) (fun _ => ?_) (fun h9 => absurd h9 (by decide))
      refine g_iload_n (i := 2) dX9_has_24 rfl rfl ?_
      refine g_if_lt 40 dX9_has_25 (by decide) (fun c_5 => ?_) (fun c_5 => ?_)
      · skip
        refine g_lconst 0 rfl dX9_has_40 ?_
        refine g_lstore_n (i := 3) dX9_has_41 rfl (by decide) ?_
        refine g_iconst (0) rfl dX9_has_42 ?_
        refine g_istore dX9_has_43 (by decide) ?_
        refine g_cnt 4 (fun i => True) (fun i => MW cy a S) (fun i => [(0, .ref (a 0)), (1, .int h), (2, .int kd), (3, .long (mhasT S h i)), (5, .int (nI i))]) 0 (by first | decide | omega) trivial (by rfl) (by refine ⟨rfl, rfl, rfl, rfl, rfl, trivial⟩) ?_ (fun i6 hi6 gi6 ihi6 => ?_)
        · intro gN
          refine g_iload dX9_has_45 rfl ?_
          refine g_iconst (4) rfl dX9_has_47 ?_
          refine g_icmp_ge 81 dX9_has_48 (by decide) (fun c_7 => ?_) (fun c_7 => ?_)
          · skip
            refine g_lload_n (i := 3) dX9_has_81 rfl rfl ?_
            refine g_lret dX9_has_82 ?_
            unfold mf_has; (repeat' split) <;> first | contradiction | (with_reducible exact ⟨rfl, rfl⟩) | (exfalso; simp_all; done) | exact ⟨rfl, rfl⟩
          · skip
            exact absurd (nI_le (Nat.le_refl _) (by decide)) c_7
        · skip
          refine g_iload dX9_has_45 rfl ?_
          refine g_iconst (4) rfl dX9_has_47 ?_
          refine g_icmp_ge 81 dX9_has_48 (by decide) (fun c_8 => ?_) (fun c_8 => ?_)
          · skip
            exact absurd c_8 (nI_ge hi6 (by decide))
          · skip
            refine g_lload_n (i := 3) dX9_has_51 rfl rfl ?_
            refine g_aload_n (i := 0) dX9_has_52 rfl rfl ?_
            refine m_get 17 dX9_has_53 (List.mem_of_getElem? (i := 2) rfl) (fun w h => List.mem_cons_of_mem _ (List.mem_append_right _ h)) (by decide) rfl ?_
            refine g_iconst (4) rfl dX9_has_56 ?_
            refine g_iload_n (i := 1) dX9_has_57 rfl rfl ?_
            refine g_imul dX9_has_58 ?_
            refine g_iload dX9_has_59 rfl ?_
            refine g_iadd dX9_has_61 ?_
            refine m_iald 17 15 40 dX9_has_62 rfl (ix40 (vpi10 (by assumption)) (vp_in_nI (by assumption) (by decide))) ?_
            refine g_i2l dX9_has_63 ?_
            refine g_aload_n (i := 0) dX9_has_64 rfl rfl ?_
            refine m_get 16 dX9_has_65 (List.mem_of_getElem? (i := 3) rfl) (fun w h => List.mem_cons_of_mem _ (List.mem_append_right _ h)) (by decide) rfl ?_
            refine g_iload dX9_has_68 rfl ?_
            refine m_ialdN 16 14 4 dX9_has_70 rfl (by omega) (by decide) ?_
            refine g_i2l dX9_has_71 ?_
            refine g_lmul dX9_has_72 ?_
            refine g_ladd dX9_has_73 ?_
            refine g_lstore_n (i := 3) dX9_has_74 rfl (by decide) ?_
            refine g_iinc (1) dX9_has_75 rfl rfl (by decide) ?_
            refine g_goto 45 dX9_has_78 (by decide) ?_
            refine g_to _ _ (ihi6 (trivial)) rfl (by refine ⟨(by first | rfl | (rw [← nI_1]; rfl) | (rw [← nI_1]; rfl)), (by first | rfl | (rw [← nI_1]; rfl) | (rw [← nI_1]; rfl)), (by first | rfl | (rw [← nI_1]; rfl) | (rw [← nI_1]; rfl)), (by first | rfl | (rw [← nI_1]; rfl) | (rw [← nI_1]; rfl)), (by first | rfl | (rw [← nI_1]; rfl) | (rw [← nI_1]; rfl)), trivial⟩)
      · skip
        refine g_aload_n (i := 0) dX9_has_28 rfl rfl ?_
        refine m_get 17 dX9_has_29 (List.mem_of_getElem? (i := 2) rfl) (fun w h => List.mem_cons_of_mem _ (List.mem_append_right _ h)) (by decide) rfl ?_
        refine g_iconst (4) rfl dX9_has_32 ?_
        refine g_iload_n (i := 1) dX9_has_33 rfl rfl ?_
        refine g_imul dX9_has_34 ?_
        refine g_iload_n (i := 2) dX9_has_35 rfl rfl ?_
        refine g_iadd dX9_has_36 ?_
        refine m_iald 17 15 40 dX9_has_37 rfl (ix40 (vpi10 (by assumption)) (vpn4 (by assumption) (by assumption))) ?_
        refine g_i2l dX9_has_38 ?_
        refine g_lret dX9_has_39 ?_
        unfold mf_has; (repeat' split) <;> first | contradiction | (with_reducible exact ⟨rfl, rfl⟩) | (exfalso; simp_all; done) | exact ⟨rfl, rfl⟩
    · skip
      refine g_if_ne 24 dX9_has_13 (by decide) (fun h9 => absurd h9 (by decide)) (fun _ => ?_)
      refine g_aload_n (i := 0) dX9_has_16 rfl rfl ?_
      refine g_ldc2 (-1000000000001) (List.mem_of_getElem? (i := 1) rfl) dX9_has_17 ?_
      refine g_callVf 1 0 gX9_has_X9_finding rfl rfl rfl ⟨Nat.le_of_ble_eq_true rfl, Nat.le_of_ble_eq_true rfl⟩ ⟨Nat.le_of_ble_eq_true rfl, Nat.le_of_ble_eq_true rfl⟩ (by exact Nat.le_of_ble_eq_true rfl) (by decide +kernel) rfl rfl rfl dX9_has_20 (M_finding _ D cy a _ _ (by unfold vp_in; decide)) rfl (fun vu_10 wu_10 hu_10 => ?_)
      obtain ⟨rfl, rfl⟩ := hu_10
      refine g_lret dX9_has_23 ?_
      unfold mf_has; (repeat' split) <;> first | contradiction | (with_reducible exact ⟨rfl, rfl⟩) | (exfalso; simp_all; done) | exact ⟨rfl, rfl⟩
  · skip
    refine g_if_eq 16 dX9_has_4 (by decide) (fun _ => ?_) (fun h9 => absurd h9 (by decide))
    refine g_aload_n (i := 0) dX9_has_16 rfl rfl ?_
    refine g_ldc2 (-1000000000001) (List.mem_of_getElem? (i := 1) rfl) dX9_has_17 ?_
    refine g_callVf 1 0 gX9_has_X9_finding rfl rfl rfl ⟨Nat.le_of_ble_eq_true rfl, Nat.le_of_ble_eq_true rfl⟩ ⟨Nat.le_of_ble_eq_true rfl, Nat.le_of_ble_eq_true rfl⟩ (by exact Nat.le_of_ble_eq_true rfl) (by decide +kernel) rfl rfl rfl dX9_has_20 (M_finding _ D cy a _ _ (by unfold vp_in; decide)) rfl (fun vu_12 wu_12 hu_12 => ?_)
    obtain ⟨rfl, rfl⟩ := hu_12
    refine g_lret dX9_has_23 ?_
    unfold mf_has; (repeat' split) <;> first | contradiction | (with_reducible exact ⟨rfl, rfl⟩) | (exfalso; simp_all; done) | exact ⟨rfl, rfl⟩

def mf_vote (S : MS) (h t v : Int32) : Int64 × MS := if (0 ≤ h ∧ h ≤ 9) ∧ (0 ≤ t ∧ t ≤ 4) ∧ (¬ v = 0 → (5000 ≤ v ∧ v ≤ 20000)) then ((S.2.2.1 18 (5 * h + t).toNatClampNeg).toInt64, sA S 18 (5 * h + t).toNatClampNeg v) else mf_finding S (-1000000000001)
set_option maxHeartbeats 4000000 in
set_option maxRecDepth 100000 in
/-- vote -/
theorem M_vote (l : Launch) (D : va_G) (cy : Nat → ClassId) (a : Nat → Nat) (S : MS) (h t v : Int32) : Ct l D clx (tyx cy) yX9_vote wsX9_vote (rmD 2) 0 0 [.ref (a 0), .int h, .int t, .int v] (MW cy a S) (fun r9 w9 => r9 = some (.long (mf_vote S h t v).1) ∧ w9 = MW cy a (mf_vote S h t v).2) := by
  refine g_start (cc := cX9_vote) (maxL := 5) (ret := (some .long)) (by decide) rfl (Nat.le_of_ble_eq_true rfl) (fun v w1 h => by obtain ⟨rfl, -⟩ := h; exact rfl) (fun Γ hlΓ => ?_)
  subst hlΓ
  refine g_iload_n (i := 1) dX9_vote_0 rfl rfl ?_
  refine g_callSf 1 gX9_vote_X9_isHouse rfl rfl rfl ⟨Nat.le_of_ble_eq_true rfl, Nat.le_of_ble_eq_true rfl⟩ ⟨Nat.le_of_ble_eq_true rfl, Nat.le_of_ble_eq_true rfl⟩ (by exact Nat.le_of_ble_eq_true rfl) (by decide +kernel) rfl dX9_vote_1 (M_isHouse _ D cy a _ _) rfl (fun vu_1 wu_1 hu_1 => ?_)
  rcases hu_1 with ⟨rfl, hu_1, rfl⟩ | ⟨rfl, hu_1, rfl⟩
  · skip
    refine g_if_eq 31 dX9_vote_4 (by decide) (fun h9 => absurd h9 (by decide)) (fun _ => ?_)
    refine g_iload_n (i := 2) dX9_vote_7 rfl rfl ?_
    refine g_callSf 1 gX9_vote_X9_isTown rfl rfl rfl ⟨Nat.le_of_ble_eq_true rfl, Nat.le_of_ble_eq_true rfl⟩ ⟨Nat.le_of_ble_eq_true rfl, Nat.le_of_ble_eq_true rfl⟩ (by exact Nat.le_of_ble_eq_true rfl) (by decide +kernel) rfl dX9_vote_8 (M_isTown _ D cy a _ _) rfl (fun vu_3 wu_3 hu_3 => ?_)
    rcases hu_3 with ⟨rfl, hu_3, rfl⟩ | ⟨rfl, hu_3, rfl⟩
    · skip
      refine g_if_eq 31 dX9_vote_11 (by decide) (fun h9 => absurd h9 (by decide)) (fun _ => ?_)
      refine g_iload_n (i := 3) dX9_vote_14 rfl rfl ?_
      refine g_if_eq 39 dX9_vote_15 (by decide) (fun c_5 => ?_) (fun c_5 => ?_)
      · skip
        refine g_aload_n (i := 0) dX9_vote_39 rfl rfl ?_
        refine m_get 18 dX9_vote_40 (List.mem_of_getElem? (i := 2) rfl) (fun w h => List.mem_cons_of_mem _ (List.mem_append_right _ h)) (by decide) rfl ?_
        refine g_iconst (5) rfl dX9_vote_43 ?_
        refine g_iload_n (i := 1) dX9_vote_44 rfl rfl ?_
        refine g_imul dX9_vote_45 ?_
        refine g_iload_n (i := 2) dX9_vote_46 rfl rfl ?_
        refine g_iadd dX9_vote_47 ?_
        refine m_iald 18 16 50 dX9_vote_48 rfl (ix50 (vpi10 (by assumption)) (vpi5 (by assumption))) ?_
        refine g_istore dX9_vote_49 (by decide) ?_
        refine g_aload_n (i := 0) dX9_vote_51 rfl rfl ?_
        refine m_get 18 dX9_vote_52 (List.mem_of_getElem? (i := 2) rfl) (fun w h => List.mem_cons_of_mem _ (List.mem_append_right _ h)) (by decide) rfl ?_
        refine g_iconst (5) rfl dX9_vote_55 ?_
        refine g_iload_n (i := 1) dX9_vote_56 rfl rfl ?_
        refine g_imul dX9_vote_57 ?_
        refine g_iload_n (i := 2) dX9_vote_58 rfl rfl ?_
        refine g_iadd dX9_vote_59 ?_
        refine g_iload_n (i := 3) dX9_vote_60 rfl rfl ?_
        refine m_iast 18 16 50 dX9_vote_61 rfl (ix50 (vpi10 (by assumption)) (vpi5 (by assumption))) (wsA_18 _ _ _ _ _) ?_
        refine g_iload dX9_vote_62 rfl ?_
        refine g_i2l dX9_vote_64 ?_
        refine g_lret dX9_vote_65 ?_
        unfold mf_vote; (repeat' split) <;> first | contradiction | (with_reducible exact ⟨rfl, rfl⟩) | (exfalso; simp_all; done) | exact ⟨rfl, rfl⟩
      · skip
        refine g_iload_n (i := 3) dX9_vote_18 rfl rfl ?_
        refine g_sipush (5000) rfl dX9_vote_19 ?_
        refine g_sipush (20000) rfl dX9_vote_22 ?_
        refine g_callSf 3 gX9_vote_X9_in rfl rfl rfl ⟨Nat.le_of_ble_eq_true rfl, Nat.le_of_ble_eq_true rfl⟩ ⟨Nat.le_of_ble_eq_true rfl, Nat.le_of_ble_eq_true rfl⟩ (by exact Nat.le_of_ble_eq_true rfl) (by decide +kernel) rfl dX9_vote_25 (M_in _ D cy a _ _ _ _) rfl (fun vu_6 wu_6 hu_6 => ?_)
        rcases hu_6 with ⟨rfl, hu_6, rfl⟩ | ⟨rfl, hu_6, rfl⟩
        · skip
          refine g_if_ne 39 dX9_vote_28 (by decide) (fun _ => ?_) (fun h9 => absurd h9 (by decide))
          refine g_aload_n (i := 0) dX9_vote_39 rfl rfl ?_
          refine m_get 18 dX9_vote_40 (List.mem_of_getElem? (i := 2) rfl) (fun w h => List.mem_cons_of_mem _ (List.mem_append_right _ h)) (by decide) rfl ?_
          refine g_iconst (5) rfl dX9_vote_43 ?_
          refine g_iload_n (i := 1) dX9_vote_44 rfl rfl ?_
          refine g_imul dX9_vote_45 ?_
          refine g_iload_n (i := 2) dX9_vote_46 rfl rfl ?_
          refine g_iadd dX9_vote_47 ?_
          refine m_iald 18 16 50 dX9_vote_48 rfl (ix50 (vpi10 (by assumption)) (vpi5 (by assumption))) ?_
          refine g_istore dX9_vote_49 (by decide) ?_
          refine g_aload_n (i := 0) dX9_vote_51 rfl rfl ?_
          refine m_get 18 dX9_vote_52 (List.mem_of_getElem? (i := 2) rfl) (fun w h => List.mem_cons_of_mem _ (List.mem_append_right _ h)) (by decide) rfl ?_
          refine g_iconst (5) rfl dX9_vote_55 ?_
          refine g_iload_n (i := 1) dX9_vote_56 rfl rfl ?_
          refine g_imul dX9_vote_57 ?_
          refine g_iload_n (i := 2) dX9_vote_58 rfl rfl ?_
          refine g_iadd dX9_vote_59 ?_
          refine g_iload_n (i := 3) dX9_vote_60 rfl rfl ?_
          refine m_iast 18 16 50 dX9_vote_61 rfl (ix50 (vpi10 (by assumption)) (vpi5 (by assumption))) (wsA_18 _ _ _ _ _) ?_
          refine g_iload dX9_vote_62 rfl ?_
          refine g_i2l dX9_vote_64 ?_
          refine g_lret dX9_vote_65 ?_
          unfold mf_vote; (repeat' split) <;> first | contradiction | (with_reducible exact ⟨rfl, rfl⟩) | (exfalso; simp_all; done) | exact ⟨rfl, rfl⟩
        · skip
          refine g_if_ne 39 dX9_vote_28 (by decide) (fun h9 => absurd h9 (by decide)) (fun _ => ?_)
          refine g_aload_n (i := 0) dX9_vote_31 rfl rfl ?_
          refine g_ldc2 (-1000000000001) (List.mem_of_getElem? (i := 1) rfl) dX9_vote_32 ?_
          refine g_callVf 1 0 gX9_vote_X9_finding rfl rfl rfl ⟨Nat.le_of_ble_eq_true rfl, Nat.le_of_ble_eq_true rfl⟩ ⟨Nat.le_of_ble_eq_true rfl, Nat.le_of_ble_eq_true rfl⟩ (by exact Nat.le_of_ble_eq_true rfl) (by decide +kernel) rfl rfl rfl dX9_vote_35 (M_finding _ D cy a _ _ (by unfold vp_in; decide)) rfl (fun vu_9 wu_9 hu_9 => ?_)
          obtain ⟨rfl, rfl⟩ := hu_9
          refine g_lret dX9_vote_38 ?_
          unfold mf_vote; (repeat' split) <;> first | contradiction | (with_reducible exact ⟨rfl, rfl⟩) | (exfalso; simp_all; done) | exact ⟨rfl, rfl⟩
    · skip
      refine g_if_eq 31 dX9_vote_11 (by decide) (fun _ => ?_) (fun h9 => absurd h9 (by decide))
      refine g_aload_n (i := 0) dX9_vote_31 rfl rfl ?_
      refine g_ldc2 (-1000000000001) (List.mem_of_getElem? (i := 1) rfl) dX9_vote_32 ?_
      refine g_callVf 1 0 gX9_vote_X9_finding rfl rfl rfl ⟨Nat.le_of_ble_eq_true rfl, Nat.le_of_ble_eq_true rfl⟩ ⟨Nat.le_of_ble_eq_true rfl, Nat.le_of_ble_eq_true rfl⟩ (by exact Nat.le_of_ble_eq_true rfl) (by decide +kernel) rfl rfl rfl dX9_vote_35 (M_finding _ D cy a _ _ (by unfold vp_in; decide)) rfl (fun vu_11 wu_11 hu_11 => ?_)
      obtain ⟨rfl, rfl⟩ := hu_11
      refine g_lret dX9_vote_38 ?_
      unfold mf_vote; (repeat' split) <;> first | contradiction | (with_reducible exact ⟨rfl, rfl⟩) | (exfalso; simp_all; done) | exact ⟨rfl, rfl⟩
  · skip
    refine g_if_eq 31 dX9_vote_4 (by decide) (fun _ => ?_) (fun h9 => absurd h9 (by decide))
    refine g_aload_n (i := 0) dX9_vote_31 rfl rfl ?_
    refine g_ldc2 (-1000000000001) (List.mem_of_getElem? (i := 1) rfl) dX9_vote_32 ?_
    refine g_callVf 1 0 gX9_vote_X9_finding rfl rfl rfl ⟨Nat.le_of_ble_eq_true rfl, Nat.le_of_ble_eq_true rfl⟩ ⟨Nat.le_of_ble_eq_true rfl, Nat.le_of_ble_eq_true rfl⟩ (by exact Nat.le_of_ble_eq_true rfl) (by decide +kernel) rfl rfl rfl dX9_vote_35 (M_finding _ D cy a _ _ (by unfold vp_in; decide)) rfl (fun vu_13 wu_13 hu_13 => ?_)
    obtain ⟨rfl, rfl⟩ := hu_13
    refine g_lret dX9_vote_38 ?_
    unfold mf_vote; (repeat' split) <;> first | contradiction | (with_reducible exact ⟨rfl, rfl⟩) | (exfalso; simp_all; done) | exact ⟨rfl, rfl⟩

def mf_offer (S : MS) (f t v : Int32) : Int64 × MS := if (0 ≤ f ∧ f ≤ 4) ∧ (0 ≤ t ∧ t ≤ 4) ∧ ¬ f = t ∧ (0 ≤ v ∧ v ≤ 20000) then ((S.2.2.1 19 (5 * f + t).toNatClampNeg).toInt64, sA S 19 (5 * f + t).toNatClampNeg v) else mf_finding S (-1000000000001)
set_option maxHeartbeats 4000000 in
set_option maxRecDepth 100000 in
/-- offer -/
theorem M_offer (l : Launch) (D : va_G) (cy : Nat → ClassId) (a : Nat → Nat) (S : MS) (f t v : Int32) : Ct l D clx (tyx cy) yX9_offer wsX9_offer (rmD 2) 0 0 [.ref (a 0), .int f, .int t, .int v] (MW cy a S) (fun r9 w9 => r9 = some (.long (mf_offer S f t v).1) ∧ w9 = MW cy a (mf_offer S f t v).2) := by
  refine g_start (cc := cX9_offer) (maxL := 5) (ret := (some .long)) (by decide) rfl (Nat.le_of_ble_eq_true rfl) (fun v w1 h => by obtain ⟨rfl, -⟩ := h; exact rfl) (fun Γ hlΓ => ?_)
  subst hlΓ
  refine g_iload_n (i := 1) dX9_offer_0 rfl rfl ?_
  refine g_callSf 1 gX9_offer_X9_isTown rfl rfl rfl ⟨Nat.le_of_ble_eq_true rfl, Nat.le_of_ble_eq_true rfl⟩ ⟨Nat.le_of_ble_eq_true rfl, Nat.le_of_ble_eq_true rfl⟩ (by exact Nat.le_of_ble_eq_true rfl) (by decide +kernel) rfl dX9_offer_1 (M_isTown _ D cy a _ _) rfl (fun vu_1 wu_1 hu_1 => ?_)
  rcases hu_1 with ⟨rfl, hu_1, rfl⟩ | ⟨rfl, hu_1, rfl⟩
  · skip
    refine g_if_eq 30 dX9_offer_4 (by decide) (fun h9 => absurd h9 (by decide)) (fun _ => ?_)
    refine g_iload_n (i := 2) dX9_offer_7 rfl rfl ?_
    refine g_callSf 1 gX9_offer_X9_isTown rfl rfl rfl ⟨Nat.le_of_ble_eq_true rfl, Nat.le_of_ble_eq_true rfl⟩ ⟨Nat.le_of_ble_eq_true rfl, Nat.le_of_ble_eq_true rfl⟩ (by exact Nat.le_of_ble_eq_true rfl) (by decide +kernel) rfl dX9_offer_8 (M_isTown _ D cy a _ _) rfl (fun vu_3 wu_3 hu_3 => ?_)
    rcases hu_3 with ⟨rfl, hu_3, rfl⟩ | ⟨rfl, hu_3, rfl⟩
    · skip
      refine g_if_eq 30 dX9_offer_11 (by decide) (fun h9 => absurd h9 (by decide)) (fun _ => ?_)
      refine g_iload_n (i := 1) dX9_offer_14 rfl rfl ?_
      refine g_iload_n (i := 2) dX9_offer_15 rfl rfl ?_
      refine g_icmp_eq 30 dX9_offer_16 (by decide) (fun c_5 => ?_) (fun c_5 => ?_)
      · skip
        refine g_aload_n (i := 0) dX9_offer_30 rfl rfl ?_
        refine g_ldc2 (-1000000000001) (List.mem_of_getElem? (i := 1) rfl) dX9_offer_31 ?_
        refine g_callVf 1 0 gX9_offer_X9_finding rfl rfl rfl ⟨Nat.le_of_ble_eq_true rfl, Nat.le_of_ble_eq_true rfl⟩ ⟨Nat.le_of_ble_eq_true rfl, Nat.le_of_ble_eq_true rfl⟩ (by exact Nat.le_of_ble_eq_true rfl) (by decide +kernel) rfl rfl rfl dX9_offer_34 (M_finding _ D cy a _ _ (by unfold vp_in; decide)) rfl (fun vu_6 wu_6 hu_6 => ?_)
        obtain ⟨rfl, rfl⟩ := hu_6
        refine g_lret dX9_offer_37 ?_
        unfold mf_offer; (repeat' split) <;> first | contradiction | (with_reducible exact ⟨rfl, rfl⟩) | (exfalso; simp_all; done) | exact ⟨rfl, rfl⟩
      · skip
        refine g_iload_n (i := 3) dX9_offer_19 rfl rfl ?_
        refine g_iconst (0) rfl dX9_offer_20 ?_
        refine g_sipush (20000) rfl dX9_offer_21 ?_
        refine g_callSf 3 gX9_offer_X9_in rfl rfl rfl ⟨Nat.le_of_ble_eq_true rfl, Nat.le_of_ble_eq_true rfl⟩ ⟨Nat.le_of_ble_eq_true rfl, Nat.le_of_ble_eq_true rfl⟩ (by exact Nat.le_of_ble_eq_true rfl) (by decide +kernel) rfl dX9_offer_24 (M_in _ D cy a _ _ _ _) rfl (fun vu_7 wu_7 hu_7 => ?_)
        rcases hu_7 with ⟨rfl, hu_7, rfl⟩ | ⟨rfl, hu_7, rfl⟩
        · skip
          refine g_if_ne 38 dX9_offer_27 (by decide) (fun _ => ?_) (fun h9 => absurd h9 (by decide))
          refine g_aload_n (i := 0) dX9_offer_38 rfl rfl ?_
          refine m_get 19 dX9_offer_39 (List.mem_of_getElem? (i := 2) rfl) (fun w h => List.mem_cons_of_mem _ (List.mem_append_right _ h)) (by decide) rfl ?_
          refine g_iconst (5) rfl dX9_offer_42 ?_
          refine g_iload_n (i := 1) dX9_offer_43 rfl rfl ?_
          refine g_imul dX9_offer_44 ?_
          refine g_iload_n (i := 2) dX9_offer_45 rfl rfl ?_
          refine g_iadd dX9_offer_46 ?_
          refine m_iald 19 17 25 dX9_offer_47 rfl (ix25 (vpi5 (by assumption)) (vpi5 (by assumption))) ?_
          refine g_istore dX9_offer_48 (by decide) ?_
          refine g_aload_n (i := 0) dX9_offer_50 rfl rfl ?_
          refine m_get 19 dX9_offer_51 (List.mem_of_getElem? (i := 2) rfl) (fun w h => List.mem_cons_of_mem _ (List.mem_append_right _ h)) (by decide) rfl ?_
          refine g_iconst (5) rfl dX9_offer_54 ?_
          refine g_iload_n (i := 1) dX9_offer_55 rfl rfl ?_
          refine g_imul dX9_offer_56 ?_
          refine g_iload_n (i := 2) dX9_offer_57 rfl rfl ?_
          refine g_iadd dX9_offer_58 ?_
          refine g_iload_n (i := 3) dX9_offer_59 rfl rfl ?_
          refine m_iast 19 17 25 dX9_offer_60 rfl (ix25 (vpi5 (by assumption)) (vpi5 (by assumption))) (wsA_19 _ _ _ _ _) ?_
          refine g_iload dX9_offer_61 rfl ?_
          refine g_i2l dX9_offer_63 ?_
          refine g_lret dX9_offer_64 ?_
          unfold mf_offer; (repeat' split) <;> first | contradiction | (with_reducible exact ⟨rfl, rfl⟩) | (exfalso; simp_all; done) | exact ⟨rfl, rfl⟩
        · skip
          refine g_if_ne 38 dX9_offer_27 (by decide) (fun h9 => absurd h9 (by decide)) (fun _ => ?_)
          refine g_aload_n (i := 0) dX9_offer_30 rfl rfl ?_
          refine g_ldc2 (-1000000000001) (List.mem_of_getElem? (i := 1) rfl) dX9_offer_31 ?_
          refine g_callVf 1 0 gX9_offer_X9_finding rfl rfl rfl ⟨Nat.le_of_ble_eq_true rfl, Nat.le_of_ble_eq_true rfl⟩ ⟨Nat.le_of_ble_eq_true rfl, Nat.le_of_ble_eq_true rfl⟩ (by exact Nat.le_of_ble_eq_true rfl) (by decide +kernel) rfl rfl rfl dX9_offer_34 (M_finding _ D cy a _ _ (by unfold vp_in; decide)) rfl (fun vu_10 wu_10 hu_10 => ?_)
          obtain ⟨rfl, rfl⟩ := hu_10
          refine g_lret dX9_offer_37 ?_
          unfold mf_offer; (repeat' split) <;> first | contradiction | (with_reducible exact ⟨rfl, rfl⟩) | (exfalso; simp_all; done) | exact ⟨rfl, rfl⟩
    · skip
      refine g_if_eq 30 dX9_offer_11 (by decide) (fun _ => ?_) (fun h9 => absurd h9 (by decide))
      refine g_aload_n (i := 0) dX9_offer_30 rfl rfl ?_
      refine g_ldc2 (-1000000000001) (List.mem_of_getElem? (i := 1) rfl) dX9_offer_31 ?_
      refine g_callVf 1 0 gX9_offer_X9_finding rfl rfl rfl ⟨Nat.le_of_ble_eq_true rfl, Nat.le_of_ble_eq_true rfl⟩ ⟨Nat.le_of_ble_eq_true rfl, Nat.le_of_ble_eq_true rfl⟩ (by exact Nat.le_of_ble_eq_true rfl) (by decide +kernel) rfl rfl rfl dX9_offer_34 (M_finding _ D cy a _ _ (by unfold vp_in; decide)) rfl (fun vu_12 wu_12 hu_12 => ?_)
      obtain ⟨rfl, rfl⟩ := hu_12
      refine g_lret dX9_offer_37 ?_
      unfold mf_offer; (repeat' split) <;> first | contradiction | (with_reducible exact ⟨rfl, rfl⟩) | (exfalso; simp_all; done) | exact ⟨rfl, rfl⟩
  · skip
    refine g_if_eq 30 dX9_offer_4 (by decide) (fun _ => ?_) (fun h9 => absurd h9 (by decide))
    refine g_aload_n (i := 0) dX9_offer_30 rfl rfl ?_
    refine g_ldc2 (-1000000000001) (List.mem_of_getElem? (i := 1) rfl) dX9_offer_31 ?_
    refine g_callVf 1 0 gX9_offer_X9_finding rfl rfl rfl ⟨Nat.le_of_ble_eq_true rfl, Nat.le_of_ble_eq_true rfl⟩ ⟨Nat.le_of_ble_eq_true rfl, Nat.le_of_ble_eq_true rfl⟩ (by exact Nat.le_of_ble_eq_true rfl) (by decide +kernel) rfl rfl rfl dX9_offer_34 (M_finding _ D cy a _ _ (by unfold vp_in; decide)) rfl (fun vu_14 wu_14 hu_14 => ?_)
    obtain ⟨rfl, rfl⟩ := hu_14
    refine g_lret dX9_offer_37 ?_
    unfold mf_offer; (repeat' split) <;> first | contradiction | (with_reducible exact ⟨rfl, rfl⟩) | (exfalso; simp_all; done) | exact ⟨rfl, rfl⟩

def mf_told (S : MS) (v : Int32) : MS := sI (sA S 21 (S.1 20).toNatClampNeg v) 20 ((sA S 21 (S.1 20).toNatClampNeg v).1 20 + 1)
def mf_tell (S : MS) (v : Int32) : Int64 × MS := if S.1 20 = 30 then mf_finding S (-1000000000004) else (((mf_told S v).1 20).toInt64, mf_told S v)
set_option maxHeartbeats 4000000 in
set_option maxRecDepth 100000 in
/-- tell -/
theorem M_tell (l : Launch) (D : va_G) (cy : Nat → ClassId) (a : Nat → Nat) (S : MS) (hI : minv S) (v : Int32) : Ct l D clx (tyx cy) yX9_tell wsX9_tell (rmD 1) 0 0 [.ref (a 0), .int v] (MW cy a S) (fun r9 w9 => r9 = some (.long (mf_tell S v).1) ∧ w9 = MW cy a (mf_tell S v).2) := by
  refine g_start (cc := cX9_tell) (maxL := 2) (ret := (some .long)) (by decide) rfl (Nat.le_of_ble_eq_true rfl) (fun v w1 h => by obtain ⟨rfl, -⟩ := h; exact rfl) (fun Γ hlΓ => ?_)
  subst hlΓ
  refine g_aload_n (i := 0) dX9_tell_0 rfl rfl ?_
  refine m_get 20 dX9_tell_1 (List.mem_of_getElem? (i := 1) rfl) (fun w h => List.mem_cons_of_mem _ (List.mem_append_right _ h)) (by decide) rfl ?_
  refine g_bipush (30) rfl dX9_tell_4 ?_
  refine g_icmp_ne 17 dX9_tell_6 (by decide) (fun c_1 => ?_) (fun c_1 => ?_)
  · skip
    refine g_aload_n (i := 0) dX9_tell_17 rfl rfl ?_
    refine m_get 21 dX9_tell_18 (List.mem_of_getElem? (i := 3) rfl) (fun w h => List.mem_cons_of_mem _ (List.mem_append_right _ h)) (by decide) rfl ?_
    refine g_aload_n (i := 0) dX9_tell_21 rfl rfl ?_
    refine m_get 20 dX9_tell_22 (List.mem_of_getElem? (i := 1) rfl) (fun w h => List.mem_cons_of_mem _ (List.mem_append_right _ h)) (by decide) rfl ?_
    refine g_iload_n (i := 1) dX9_tell_25 rfl rfl ?_
    refine m_iast 21 18 30 dX9_tell_26 rfl (mtell hI (by assumption)) (wsA_21 _ _ _ _ _) ?_
    refine g_aload_n (i := 0) dX9_tell_27 rfl rfl ?_
    refine g_dup rfl dX9_tell_28 ?_
    refine m_get 20 dX9_tell_29 (List.mem_of_getElem? (i := 1) rfl) (fun w h => List.mem_cons_of_mem _ (List.mem_append_right _ h)) (by decide) rfl ?_
    refine g_iconst (1) rfl dX9_tell_32 ?_
    refine g_iadd dX9_tell_33 ?_
    refine m_puti 20 dX9_tell_34 (List.mem_of_getElem? (i := 1) rfl) (fun w h => List.mem_cons_of_mem _ (List.mem_append_right _ h)) (by decide) rfl rfl rfl (wsI_20 _ _ _ _) ?_
    refine g_aload_n (i := 0) dX9_tell_37 rfl rfl ?_
    refine m_get 20 dX9_tell_38 (List.mem_of_getElem? (i := 1) rfl) (fun w h => List.mem_cons_of_mem _ (List.mem_append_right _ h)) (by decide) rfl ?_
    refine g_i2l dX9_tell_41 ?_
    refine g_lret dX9_tell_42 ?_
    unfold mf_tell; (repeat' split) <;> first | contradiction | (with_reducible exact ⟨rfl, rfl⟩) | (exfalso; simp_all; done) | exact ⟨rfl, rfl⟩
  · skip
    refine g_aload_n (i := 0) dX9_tell_9 rfl rfl ?_
    refine g_ldc2 (-1000000000004) (List.mem_of_getElem? (i := 2) rfl) dX9_tell_10 ?_
    refine g_callVf 1 0 gX9_tell_X9_finding rfl rfl rfl ⟨Nat.le_of_ble_eq_true rfl, Nat.le_of_ble_eq_true rfl⟩ ⟨Nat.le_of_ble_eq_true rfl, Nat.le_of_ble_eq_true rfl⟩ (by exact Nat.le_of_ble_eq_true rfl) (by decide +kernel) rfl rfl rfl dX9_tell_13 (M_finding _ D cy a _ _ (by unfold vp_in; decide)) rfl (fun vu_2 wu_2 hu_2 => ?_)
    obtain ⟨rfl, rfl⟩ := hu_2
    refine g_lret dX9_tell_16 ?_
    unfold mf_tell; (repeat' split) <;> first | contradiction | (with_reducible exact ⟨rfl, rfl⟩) | (exfalso; simp_all; done) | exact ⟨rfl, rfl⟩

theorem vpk {i : Int32} (h : 1 ≤ i ∧ i ≤ 7) : vp_in i 8 := by
  refine vpi (h := 7) ?_ h.2 (by decide)
  have := h.1
  rw [Int32.le_iff_toInt_le] at this ⊢
  have e1 : (1 : Int32).toInt = 1 := by decide
  have e0 : (0 : Int32).toInt = 0 := by decide
  omega
def mf_found (S : MS) (q : Int32) : Int64 × MS := if (1 ≤ q ∧ q ≤ 7) then (S.2.2.2 22 q.toNatClampNeg, S) else mf_finding S (-1000000000001)
set_option maxHeartbeats 4000000 in
set_option maxRecDepth 100000 in
/-- found -/
theorem M_found (l : Launch) (D : va_G) (cy : Nat → ClassId) (a : Nat → Nat) (S : MS) (q : Int32) : Ct l D clx (tyx cy) yX9_found wsX9_found (rmD 2) 0 0 [.ref (a 0), .int q] (MW cy a S) (fun r9 w9 => r9 = some (.long (mf_found S q).1) ∧ w9 = MW cy a (mf_found S q).2) := by
  refine g_start (cc := cX9_found) (maxL := 2) (ret := (some .long)) (by decide) rfl (Nat.le_of_ble_eq_true rfl) (fun v w1 h => by obtain ⟨rfl, -⟩ := h; exact rfl) (fun Γ hlΓ => ?_)
  subst hlΓ
  refine g_iload_n (i := 1) dX9_found_0 rfl rfl ?_
  refine g_iconst (1) rfl dX9_found_1 ?_
  refine g_bipush (7) rfl dX9_found_2 ?_
  refine g_callSf 3 gX9_found_X9_in rfl rfl rfl ⟨Nat.le_of_ble_eq_true rfl, Nat.le_of_ble_eq_true rfl⟩ ⟨Nat.le_of_ble_eq_true rfl, Nat.le_of_ble_eq_true rfl⟩ (by exact Nat.le_of_ble_eq_true rfl) (by decide +kernel) rfl dX9_found_4 (M_in _ D cy a _ _ _ _) rfl (fun vu_1 wu_1 hu_1 => ?_)
  rcases hu_1 with ⟨rfl, hu_1, rfl⟩ | ⟨rfl, hu_1, rfl⟩
  · skip
    refine g_if_eq 19 dX9_found_7 (by decide) (fun h9 => absurd h9 (by decide)) (fun _ => ?_)
    refine g_aload_n (i := 0) dX9_found_10 rfl rfl ?_
    refine m_get 22 dX9_found_11 (List.mem_of_getElem? (i := 1) rfl) (fun w h => List.mem_cons_of_mem _ (List.mem_append_right _ h)) (by decide) rfl ?_
    refine g_iload_n (i := 1) dX9_found_14 rfl rfl ?_
    refine m_lald 22 19 8 dX9_found_15 rfl (vpk (by assumption)) ?_
    refine g_goto 26 dX9_found_16 (by decide) ?_
    refine g_lret dX9_found_26 ?_
    unfold mf_found; (repeat' split) <;> first | contradiction | (with_reducible exact ⟨rfl, rfl⟩) | (exfalso; simp_all; done) | exact ⟨rfl, rfl⟩
  · skip
    refine g_if_eq 19 dX9_found_7 (by decide) (fun _ => ?_) (fun h9 => absurd h9 (by decide))
    refine g_aload_n (i := 0) dX9_found_19 rfl rfl ?_
    refine g_ldc2 (-1000000000001) (List.mem_of_getElem? (i := 2) rfl) dX9_found_20 ?_
    refine g_callVf 1 0 gX9_found_X9_finding rfl rfl rfl ⟨Nat.le_of_ble_eq_true rfl, Nat.le_of_ble_eq_true rfl⟩ ⟨Nat.le_of_ble_eq_true rfl, Nat.le_of_ble_eq_true rfl⟩ (by exact Nat.le_of_ble_eq_true rfl) (by decide +kernel) rfl rfl rfl dX9_found_23 (M_finding _ D cy a _ _ (by unfold vp_in; decide)) rfl (fun vu_4 wu_4 hu_4 => ?_)
    obtain ⟨rfl, rfl⟩ := hu_4
    refine g_lret dX9_found_26 ?_
    unfold mf_found; (repeat' split) <;> first | contradiction | (with_reducible exact ⟨rfl, rfl⟩) | (exfalso; simp_all; done) | exact ⟨rfl, rfl⟩

set_option maxHeartbeats 4000000 in
set_option maxRecDepth 100000 in
/-- fault -/
theorem M_fault (l : Launch) (D : va_G) (cy : Nat → ClassId) (a : Nat → Nat) (S : MS) : Ct l D clx (tyx cy) yX9_fault wsX9_fault (rmD 0) 0 0 [.ref (a 0)] (MW cy a S) (fun r9 w9 => r9 = some (.long ((S.2.1 37, S)).1) ∧ w9 = MW cy a ((S.2.1 37, S)).2) := by
  refine g_start (cc := cX9_fault) (maxL := 1) (ret := (some .long)) (by decide) rfl (Nat.le_of_ble_eq_true rfl) (fun v w1 h => by obtain ⟨rfl, -⟩ := h; exact rfl) (fun Γ hlΓ => ?_)
  subst hlΓ
  refine g_aload_n (i := 0) dX9_fault_0 rfl rfl ?_
  refine m_get 37 dX9_fault_1 (List.mem_of_getElem? (i := 1) rfl) (fun w h => List.mem_cons_of_mem _ (List.mem_append_right _ h)) (by decide) rfl ?_
  refine g_lret dX9_fault_4 ?_
  exact ⟨rfl, rfl⟩

theorem tsw6 (x : Int32) : x = 0 ∨ x = 1 ∨ x = 2 ∨ x = 3 ∨ x = 4 ∨ x = 5 ∨ (x.toInt < 0 ∨ 5 < x.toInt) := by
  have h : ∀ (c : Int32) (j : Int), c.toInt = j → x.toInt = j → x = c := fun c j h1 h2 => Int32.toInt_inj.mp (h2.trans h1.symm)
  by_cases h0 : x.toInt < 0 ∨ 5 < x.toInt
  · simp [h0]
  · have : x.toInt = 0 ∨ x.toInt = 1 ∨ x.toInt = 2 ∨ x.toInt = 3 ∨ x.toInt = 4 ∨ x.toInt = 5 := by omega
    rcases this with e | e | e | e | e | e
    · exact Or.inl (h 0 0 (by decide) e)
    · exact Or.inr (Or.inl (h 1 1 (by decide) e))
    · exact Or.inr (Or.inr (Or.inl (h 2 2 (by decide) e)))
    · exact Or.inr (Or.inr (Or.inr (Or.inl (h 3 3 (by decide) e))))
    · exact Or.inr (Or.inr (Or.inr (Or.inr (Or.inl (h 4 4 (by decide) e)))))
    · exact Or.inr (Or.inr (Or.inr (Or.inr (Or.inr (Or.inl (h 5 5 (by decide) e))))))
def mf_count (S : MS) (x : Int32) : Int64 × MS := if x = 0 then (S.2.1 0, S) else if x = 1 then ((S.1 4).toInt64, S) else if x = 2 then ((S.1 23).toInt64, S) else if x = 3 then (mall S 100, S) else if x = 4 then ((S.1 20).toInt64, S) else if x = 5 then ((S.1 36).toInt64, S) else mf_finding S (-1000000000001)
set_option maxHeartbeats 4000000 in
set_option maxRecDepth 100000 in
/-- count -/
theorem M_count (l : Launch) (D : va_G) (cy : Nat → ClassId) (a : Nat → Nat) (S : MS) (x : Int32) : Ct l D clx (tyx cy) yX9_count wsX9_count (rmD 1) 0 0 [.ref (a 0), .int x] (MW cy a S) (fun r9 w9 => r9 = some (.long (mf_count S x).1) ∧ w9 = MW cy a (mf_count S x).2) := by
  refine g_start (cc := cX9_count) (maxL := 2) (ret := (some .long)) (by decide) rfl (Nat.le_of_ble_eq_true rfl) (fun v w1 h => by obtain ⟨rfl, -⟩ := h; exact rfl) (fun Γ hlΓ => ?_)
  subst hlΓ
  refine g_iload_n (i := 1) dX9_count_0 rfl rfl ?_
  rcases tsw6 x with rfl | rfl | rfl | rfl | rfl | rfl | hx
  · skip
    refine g_tabIn 40 dX9_count_1 (by decide) (by decide) rfl (by decide) ?_
    refine g_aload_n (i := 0) dX9_count_40 rfl rfl ?_
    refine m_get 0 dX9_count_41 (List.mem_of_getElem? (i := 1) rfl) (fun w h => List.mem_cons_of_mem _ (List.mem_append_right _ h)) (by decide) rfl ?_
    refine g_lret dX9_count_44 ?_
    unfold mf_count; (repeat' split) <;> first | contradiction | (with_reducible exact ⟨rfl, rfl⟩) | (exfalso; subst_vars; revert hx; decide) | (exfalso; simp_all; done) | exact ⟨rfl, rfl⟩
  · skip
    refine g_tabIn 45 dX9_count_1 (by decide) (by decide) rfl (by decide) ?_
    refine g_aload_n (i := 0) dX9_count_45 rfl rfl ?_
    refine m_get 4 dX9_count_46 (List.mem_of_getElem? (i := 2) rfl) (fun w h => List.mem_cons_of_mem _ (List.mem_append_right _ h)) (by decide) rfl ?_
    refine g_i2l dX9_count_49 ?_
    refine g_lret dX9_count_50 ?_
    unfold mf_count; (repeat' split) <;> first | contradiction | (with_reducible exact ⟨rfl, rfl⟩) | (exfalso; subst_vars; revert hx; decide) | (exfalso; simp_all; done) | exact ⟨rfl, rfl⟩
  · skip
    refine g_tabIn 51 dX9_count_1 (by decide) (by decide) rfl (by decide) ?_
    refine g_aload_n (i := 0) dX9_count_51 rfl rfl ?_
    refine m_get 23 dX9_count_52 (List.mem_of_getElem? (i := 3) rfl) (fun w h => List.mem_cons_of_mem _ (List.mem_append_right _ h)) (by decide) rfl ?_
    refine g_i2l dX9_count_55 ?_
    refine g_lret dX9_count_56 ?_
    unfold mf_count; (repeat' split) <;> first | contradiction | (with_reducible exact ⟨rfl, rfl⟩) | (exfalso; subst_vars; revert hx; decide) | (exfalso; simp_all; done) | exact ⟨rfl, rfl⟩
  · skip
    refine g_tabIn 57 dX9_count_1 (by decide) (by decide) rfl (by decide) ?_
    refine g_aload_n (i := 0) dX9_count_57 rfl rfl ?_
    refine g_callVf 0 0 gX9_count_X9_owedInAll rfl rfl rfl ⟨Nat.le_of_ble_eq_true rfl, Nat.le_of_ble_eq_true rfl⟩ ⟨Nat.le_of_ble_eq_true rfl, Nat.le_of_ble_eq_true rfl⟩ (by exact Nat.le_of_ble_eq_true rfl) (by decide +kernel) rfl rfl rfl dX9_count_58 (M_owedInAll _ D cy a _) rfl (fun vu_1 wu_1 hu_1 => ?_)
    obtain ⟨rfl, rfl⟩ := hu_1
    refine g_lret dX9_count_61 ?_
    unfold mf_count; (repeat' split) <;> first | contradiction | (with_reducible exact ⟨rfl, rfl⟩) | (exfalso; subst_vars; revert hx; decide) | (exfalso; simp_all; done) | exact ⟨rfl, rfl⟩
  · skip
    refine g_tabIn 62 dX9_count_1 (by decide) (by decide) rfl (by decide) ?_
    refine g_aload_n (i := 0) dX9_count_62 rfl rfl ?_
    refine m_get 20 dX9_count_63 (List.mem_of_getElem? (i := 4) rfl) (fun w h => List.mem_cons_of_mem _ (List.mem_append_right _ h)) (by decide) rfl ?_
    refine g_i2l dX9_count_66 ?_
    refine g_lret dX9_count_67 ?_
    unfold mf_count; (repeat' split) <;> first | contradiction | (with_reducible exact ⟨rfl, rfl⟩) | (exfalso; subst_vars; revert hx; decide) | (exfalso; simp_all; done) | exact ⟨rfl, rfl⟩
  · skip
    refine g_tabIn 68 dX9_count_1 (by decide) (by decide) rfl (by decide) ?_
    refine g_aload_n (i := 0) dX9_count_68 rfl rfl ?_
    refine m_get 36 dX9_count_69 (List.mem_of_getElem? (i := 5) rfl) (fun w h => List.mem_cons_of_mem _ (List.mem_append_right _ h)) (by decide) rfl ?_
    refine g_i2l dX9_count_72 ?_
    refine g_lret dX9_count_73 ?_
    unfold mf_count; (repeat' split) <;> first | contradiction | (with_reducible exact ⟨rfl, rfl⟩) | (exfalso; subst_vars; revert hx; decide) | (exfalso; simp_all; done) | exact ⟨rfl, rfl⟩
  · skip
    refine g_tabOut 74 dX9_count_1 hx (by decide) ?_
    refine g_aload_n (i := 0) dX9_count_74 rfl rfl ?_
    refine g_ldc2 (-1000000000001) (List.mem_of_getElem? (i := 6) rfl) dX9_count_75 ?_
    refine g_callVf 1 0 gX9_count_X9_finding rfl rfl rfl ⟨Nat.le_of_ble_eq_true rfl, Nat.le_of_ble_eq_true rfl⟩ ⟨Nat.le_of_ble_eq_true rfl, Nat.le_of_ble_eq_true rfl⟩ (by exact Nat.le_of_ble_eq_true rfl) (by decide +kernel) rfl rfl rfl dX9_count_78 (M_finding _ D cy a _ _ (by unfold vp_in; decide)) rfl (fun vu_2 wu_2 hu_2 => ?_)
    obtain ⟨rfl, rfl⟩ := hu_2
    refine g_lret dX9_count_81 ?_
    unfold mf_count; (repeat' split) <;> first | contradiction | (with_reducible exact ⟨rfl, rfl⟩) | (exfalso; subst_vars; revert hx; decide) | (exfalso; simp_all; done) | exact ⟨rfl, rfl⟩

def mpay (S : MS) (i x : Int32) : Int64 := if x = 0 then (S.2.2.1 47 i.toNatClampNeg).toInt64 else if x = 1 then (S.2.2.1 48 i.toNatClampNeg).toInt64 else S.2.2.2 49 i.toNatClampNeg
set_option maxHeartbeats 4000000 in
set_option maxRecDepth 100000 in
/-- a figure of a payment -/
theorem M_paymentOf (l : Launch) (D : va_G) (cy : Nat → ClassId) (a : Nat → Nat) (S : MS) (i x : Int32) (hi : vp_in i 10) : Ct l D clx (tyx cy) yX9_paymentOf wsX9_paymentOf (rmD 0) 0 0 [.ref (a 0), .int i, .int x] (MW cy a S) (fun r9 w9 => r9 = some (.long (mpay S i x)) ∧ w9 = MW cy a S) := by
  refine g_start (cc := cX9_paymentOf) (maxL := 3) (ret := (some .long)) (by decide) rfl (Nat.le_of_ble_eq_true rfl) (fun v w1 h => by obtain ⟨rfl, -⟩ := h; exact rfl) (fun Γ hlΓ => ?_)
  subst hlΓ
  refine g_iload_n (i := 2) dX9_paymentOf_0 rfl rfl ?_
  refine g_if_ne 14 dX9_paymentOf_1 (by decide) (fun c_1 => ?_) (fun c_1 => ?_)
  · skip
    refine g_iload_n (i := 2) dX9_paymentOf_14 rfl rfl ?_
    refine g_iconst (1) rfl dX9_paymentOf_15 ?_
    refine g_icmp_ne 29 dX9_paymentOf_16 (by decide) (fun c_2 => ?_) (fun c_2 => ?_)
    · skip
      refine g_aload_n (i := 0) dX9_paymentOf_29 rfl rfl ?_
      refine m_get 49 dX9_paymentOf_30 (List.mem_of_getElem? (i := 3) rfl) (fun w h => List.mem_cons_of_mem _ (List.mem_append_right _ h)) (by decide) rfl ?_
      refine g_iload_n (i := 1) dX9_paymentOf_33 rfl rfl ?_
      refine m_lald 49 36 10 dX9_paymentOf_34 rfl hi ?_
      refine g_lret dX9_paymentOf_35 ?_
      unfold mpay; (repeat' split) <;> first | contradiction | (with_reducible exact ⟨rfl, rfl⟩) | (exfalso; simp_all; done) | exact ⟨rfl, rfl⟩
    · skip
      refine g_aload_n (i := 0) dX9_paymentOf_19 rfl rfl ?_
      refine m_get 48 dX9_paymentOf_20 (List.mem_of_getElem? (i := 2) rfl) (fun w h => List.mem_cons_of_mem _ (List.mem_append_right _ h)) (by decide) rfl ?_
      refine g_iload_n (i := 1) dX9_paymentOf_23 rfl rfl ?_
      refine m_iald 48 35 10 dX9_paymentOf_24 rfl hi ?_
      refine g_i2l dX9_paymentOf_25 ?_
      refine g_goto 35 dX9_paymentOf_26 (by decide) ?_
      refine g_lret dX9_paymentOf_35 ?_
      unfold mpay; (repeat' split) <;> first | contradiction | (with_reducible exact ⟨rfl, rfl⟩) | (exfalso; simp_all; done) | exact ⟨rfl, rfl⟩
  · skip
    refine g_aload_n (i := 0) dX9_paymentOf_4 rfl rfl ?_
    refine m_get 47 dX9_paymentOf_5 (List.mem_of_getElem? (i := 1) rfl) (fun w h => List.mem_cons_of_mem _ (List.mem_append_right _ h)) (by decide) rfl ?_
    refine g_iload_n (i := 1) dX9_paymentOf_8 rfl rfl ?_
    refine m_iald 47 34 10 dX9_paymentOf_9 rfl hi ?_
    refine g_i2l dX9_paymentOf_10 ?_
    refine g_goto 35 dX9_paymentOf_11 (by decide) ?_
    refine g_lret dX9_paymentOf_35 ?_
    unfold mpay; (repeat' split) <;> first | contradiction | (with_reducible exact ⟨rfl, rfl⟩) | (exfalso; simp_all; done) | exact ⟨rfl, rfl⟩
end
section
theorem vpN {n : Int32} {lo hi : Int32} (h : lo ≤ n ∧ n ≤ hi) (h0 : 0 ≤ lo.toInt) : ∃ N : Nat, (N : Int) ≤ hi.toInt ∧ n = nI N := by
  have h1 := h.1
  have h2 := h.2
  rw [Int32.le_iff_toInt_le] at h1 h2
  obtain ⟨j, hj, e⟩ := nI_of (x := n) (by rw [Int32.lt_iff_toInt_lt]; have : (0 : Int32).toInt = 0 := by decide
                                          omega)
  refine ⟨j, ?_, e⟩
  rw [e, nI_toInt hj] at h2
  exact h2
abbrev dyok (S : MS) : Prop := mday S = 27 → cyok S
/-- one day goes -/
def dyOne (S : MS) : MS := if mday S = 27 then sL (crF S 100) 0 ((crF S 100).2.1 0 + 1) else sL S 0 (S.2.1 0 + 1)
def dyF (S : MS) : Nat → MS
  | 0 => S
  | i + 1 => dyOne (dyF S i)
def dyRun : Nat → MS → Int64 × MS
  | 0, S => (S.2.1 0, S)
  | j + 1, S => if dyok S then dyRun j (dyOne S) else mf_finding S (-1000000000004)
def mf_days (S : MS) (n : Int32) : Int64 × MS := if 1 ≤ n ∧ n ≤ 60 then dyRun n.toNatClampNeg S else mf_finding S (-1000000000001)
theorem dyR1 {S : MS} {N i : Nat} (hi : i < N) (h : dyok (dyF S i)) (g : dyRun (N - i) (dyF S i) = dyRun N S) : dyRun (N - (i + 1)) (dyF S (i + 1)) = dyRun N S := by
  rw [← g, show N - i = (N - (i + 1)) + 1 by omega]
  exact (if_pos h).symm
theorem dyR2 {S : MS} {N i : Nat} (hi : i < N) (h : ¬ dyok (dyF S i)) (g : dyRun (N - i) (dyF S i) = dyRun N S) : mf_finding (dyF S i) (-1000000000004) = dyRun N S := by
  rw [← g, show N - i = (N - (i + 1)) + 1 by omega]
  exact (if_neg h).symm
theorem dyR3 {S : MS} {N : Nat} (g : dyRun (N - N) (dyF S N) = dyRun N S) : ((dyF S N).2.1 0, dyF S N) = dyRun N S := by
  rw [← g, Nat.sub_self]
  rfl
set_option maxHeartbeats 4000000 in
set_option maxRecDepth 100000 in
/-- days -/
theorem M_days (l : Launch) (D : va_G) (cy : Nat → ClassId) (a : Nat → Nat) (S : MS) (n : Int32) : Ct l D clx (tyx cy) yX9_days wsX9_days (rmD 2) 0 0 [.ref (a 0), .int n] (MW cy a S) (fun r9 w9 => r9 = some (.long (mf_days S n).1) ∧ w9 = MW cy a (mf_days S n).2) := by
  refine g_start (cc := cX9_days) (maxL := 3) (ret := (some .long)) (by decide) rfl (Nat.le_of_ble_eq_true rfl) (fun v w1 h => by obtain ⟨rfl, -⟩ := h; exact rfl) (fun Γ hlΓ => ?_)
  subst hlΓ
  refine g_iload_n (i := 1) dX9_days_0 rfl rfl ?_
  refine g_iconst (1) rfl dX9_days_1 ?_
  refine g_bipush (60) rfl dX9_days_2 ?_
  refine g_callSf 3 gX9_days_X9_in rfl rfl rfl ⟨Nat.le_of_ble_eq_true rfl, Nat.le_of_ble_eq_true rfl⟩ ⟨Nat.le_of_ble_eq_true rfl, Nat.le_of_ble_eq_true rfl⟩ (by exact Nat.le_of_ble_eq_true rfl) (by decide +kernel) rfl dX9_days_4 (M_in _ D cy a _ _ _ _) rfl (fun vu_1 wu_1 hu_1 => ?_)
  rcases hu_1 with ⟨rfl, hu_1, rfl⟩ | ⟨rfl, hu_1, rfl⟩
  · skip
    obtain ⟨N9, hN9, rfl⟩ := vpN hu_1 (by decide)
    have hN8 : N9 ≤ 60 := (by have e9 : (60 : Int32).toInt = 60 := (by decide); omega)
    refine g_if_ne 18 dX9_days_7 (by decide) (fun _ => ?_) (fun h9 => absurd h9 (by decide))
    refine g_iconst (0) rfl dX9_days_18 ?_
    refine g_istore_n (i := 2) dX9_days_19 rfl (by decide) ?_
    refine g_cnt N9 (fun i => dyRun (N9 - i) (dyF S i) = dyRun N9 S) (fun i => MW cy a (dyF S i)) (fun i => [(0, .ref (a 0)), (1, .int (nI N9)), (2, .int (nI i))]) 0 (by first | decide | omega) rfl (by rfl) (by refine ⟨rfl, rfl, rfl, trivial⟩) ?_ (fun i3 hi3 gi3 ihi3 => ?_)
    · intro gN
      refine g_iload_n (i := 2) dX9_days_20 rfl rfl ?_
      refine g_iload_n (i := 1) dX9_days_21 rfl rfl ?_
      refine g_icmp_ge 71 dX9_days_22 (by decide) (fun c_4 => ?_) (fun c_4 => ?_)
      · skip
        refine g_aload_n (i := 0) dX9_days_71 rfl rfl ?_
        refine m_get 0 dX9_days_72 (List.mem_of_getElem? (i := 2) rfl) (fun w h => List.mem_cons_of_mem _ (List.mem_append_right _ h)) (by decide) rfl ?_
        refine g_lret dX9_days_75 ?_
        unfold mf_days; rw [if_pos (by assumption), nI_clamp (by omega), ← dyR3 (by assumption)]; exact ⟨rfl, rfl⟩
      · skip
        exact absurd (nI_le (Nat.le_refl _) (by first | decide | omega)) c_4
    · skip
      refine g_iload_n (i := 2) dX9_days_20 rfl rfl ?_
      refine g_iload_n (i := 1) dX9_days_21 rfl rfl ?_
      refine g_icmp_ge 71 dX9_days_22 (by decide) (fun c_5 => ?_) (fun c_5 => ?_)
      · skip
        exact absurd c_5 (nI_ge hi3 (by first | decide | omega))
      · skip
        refine g_aload_n (i := 0) dX9_days_25 rfl rfl ?_
        refine m_get 0 dX9_days_26 (List.mem_of_getElem? (i := 2) rfl) (fun w h => List.mem_cons_of_mem _ (List.mem_append_right _ h)) (by decide) rfl ?_
        refine g_ldc2 (28) (List.mem_of_getElem? (i := 3) rfl) dX9_days_29 ?_
        refine g_lrem (by decide) dX9_days_32 ?_
        refine g_ldc2 (27) (List.mem_of_getElem? (i := 4) rfl) dX9_days_33 ?_
        refine g_lcmp_ne 55 dX9_days_36 dX9_days_37 (by decide) (fun c_6 => ?_) (fun c_6 => ?_)
        · skip
          refine g_aload_n (i := 0) dX9_days_55 rfl rfl ?_
          refine g_dup rfl dX9_days_56 ?_
          refine m_get 0 dX9_days_57 (List.mem_of_getElem? (i := 2) rfl) (fun w h => List.mem_cons_of_mem _ (List.mem_append_right _ h)) (by decide) rfl ?_
          refine g_lconst 1 rfl dX9_days_60 ?_
          refine g_ladd dX9_days_61 ?_
          refine m_putl 0 dX9_days_62 (List.mem_of_getElem? (i := 2) rfl) (fun w h => List.mem_cons_of_mem _ (List.mem_append_right _ h)) (by decide) rfl rfl rfl (wsI_0 _ _ _ _) ?_
          refine g_iinc (1) dX9_days_65 rfl rfl (by decide) ?_
          refine g_goto 20 dX9_days_68 (by decide) ?_
          refine g_to _ _ (ihi3 (dyR1 hi3 (by first | exact fun _ => (by assumption) | exact fun h9 => absurd h9 (by assumption)) gi3)) (by show _ = MW cy a (dyOne (dyF S i3)); unfold dyOne; first | rw [if_pos (by assumption)] | rw [if_neg (by assumption)]) (by refine ⟨(by first | rfl | (rw [← nI_1]; rfl) | (rw [← nI_1]; rfl)), (by first | rfl | (rw [← nI_1]; rfl) | (rw [← nI_1]; rfl)), (by first | rfl | (rw [← nI_1]; rfl) | (rw [← nI_1]; rfl)), trivial⟩)
        · skip
          refine g_aload_n (i := 0) dX9_days_40 rfl rfl ?_
          refine g_callVf 0 0 gX9_days_X9_carry rfl rfl rfl ⟨Nat.le_of_ble_eq_true rfl, Nat.le_of_ble_eq_true rfl⟩ ⟨Nat.le_of_ble_eq_true rfl, Nat.le_of_ble_eq_true rfl⟩ (by exact Nat.le_of_ble_eq_true rfl) (by decide +kernel) rfl rfl rfl dX9_days_41 (M_carry _ D cy a _) rfl (fun vu_7 wu_7 hu_7 => ?_)
          rcases hu_7 with ⟨rfl, hu_7, rfl⟩ | ⟨rfl, hu_7, rfl⟩
          · skip
            refine g_if_ne 55 dX9_days_44 (by decide) (fun _ => ?_) (fun h9 => absurd h9 (by decide))
            refine g_aload_n (i := 0) dX9_days_55 rfl rfl ?_
            refine g_dup rfl dX9_days_56 ?_
            refine m_get 0 dX9_days_57 (List.mem_of_getElem? (i := 2) rfl) (fun w h => List.mem_cons_of_mem _ (List.mem_append_right _ h)) (by decide) rfl ?_
            refine g_lconst 1 rfl dX9_days_60 ?_
            refine g_ladd dX9_days_61 ?_
            refine m_putl 0 dX9_days_62 (List.mem_of_getElem? (i := 2) rfl) (fun w h => List.mem_cons_of_mem _ (List.mem_append_right _ h)) (by decide) rfl rfl rfl (wsI_0 _ _ _ _) ?_
            refine g_iinc (1) dX9_days_65 rfl rfl (by decide) ?_
            refine g_goto 20 dX9_days_68 (by decide) ?_
            refine g_to _ _ (ihi3 (dyR1 hi3 (by first | exact fun _ => (by assumption) | exact fun h9 => absurd h9 (by assumption)) gi3)) (by show _ = MW cy a (dyOne (dyF S i3)); unfold dyOne; first | rw [if_pos (by assumption)] | rw [if_neg (by assumption)]) (by refine ⟨(by first | rfl | (rw [← nI_1]; rfl) | (rw [← nI_1]; rfl)), (by first | rfl | (rw [← nI_1]; rfl) | (rw [← nI_1]; rfl)), (by first | rfl | (rw [← nI_1]; rfl) | (rw [← nI_1]; rfl)), trivial⟩)
          · skip
            refine g_if_ne 55 dX9_days_44 (by decide) (fun h9 => absurd h9 (by decide)) (fun _ => ?_)
            refine g_aload_n (i := 0) dX9_days_47 rfl rfl ?_
            refine g_ldc2 (-1000000000004) (List.mem_of_getElem? (i := 5) rfl) dX9_days_48 ?_
            refine g_callVf 1 0 gX9_days_X9_finding rfl rfl rfl ⟨Nat.le_of_ble_eq_true rfl, Nat.le_of_ble_eq_true rfl⟩ ⟨Nat.le_of_ble_eq_true rfl, Nat.le_of_ble_eq_true rfl⟩ (by exact Nat.le_of_ble_eq_true rfl) (by decide +kernel) rfl rfl rfl dX9_days_51 (M_finding _ D cy a _ _ (by unfold vp_in; decide)) rfl (fun vu_10 wu_10 hu_10 => ?_)
            obtain ⟨rfl, rfl⟩ := hu_10
            refine g_lret dX9_days_54 ?_
            unfold mf_days; rw [if_pos (by assumption), nI_clamp (by omega), ← dyR2 (by assumption) (by first | assumption | exact fun h9 => absurd (h9 (by assumption)) (by assumption)) (by assumption)]; exact ⟨rfl, rfl⟩
  · skip
    refine g_if_ne 18 dX9_days_7 (by decide) (fun h9 => absurd h9 (by decide)) (fun _ => ?_)
    refine g_aload_n (i := 0) dX9_days_10 rfl rfl ?_
    refine g_ldc2 (-1000000000001) (List.mem_of_getElem? (i := 1) rfl) dX9_days_11 ?_
    refine g_callVf 1 0 gX9_days_X9_finding rfl rfl rfl ⟨Nat.le_of_ble_eq_true rfl, Nat.le_of_ble_eq_true rfl⟩ ⟨Nat.le_of_ble_eq_true rfl, Nat.le_of_ble_eq_true rfl⟩ (by exact Nat.le_of_ble_eq_true rfl) (by decide +kernel) rfl rfl rfl dX9_days_14 (M_finding _ D cy a _ _ (by unfold vp_in; decide)) rfl (fun vu_12 wu_12 hu_12 => ?_)
    obtain ⟨rfl, rfl⟩ := hu_12
    refine g_lret dX9_days_17 ?_
    unfold mf_days; rw [if_neg (by assumption)]; exact ⟨rfl, rfl⟩

theorem tsw12 (x : Int32) (h : 0 ≤ x ∧ x ≤ 11) : x = 0 ∨ x = 1 ∨ x = 2 ∨ x = 3 ∨ x = 4 ∨ x = 5 ∨ x = 6 ∨ x = 7 ∨ x = 8 ∨ x = 9 ∨ x = 10 ∨ x = 11 := by
  have h1 := h.1
  have h2 := h.2
  rw [Int32.le_iff_toInt_le] at h1 h2
  have e0 : (0 : Int32).toInt = 0 := by decide
  have e1 : (11 : Int32).toInt = 11 := by decide
  have hc : ∀ (c : Int32) (j : Int), c.toInt = j → x.toInt = j → x = c := fun c j h1 h2 => Int32.toInt_inj.mp (h2.trans h1.symm)
  have : x.toInt = 0 ∨ x.toInt = 1 ∨ x.toInt = 2 ∨ x.toInt = 3 ∨ x.toInt = 4 ∨ x.toInt = 5 ∨ x.toInt = 6 ∨ x.toInt = 7 ∨ x.toInt = 8 ∨ x.toInt = 9 ∨ x.toInt = 10 ∨ x.toInt = 11 := by omega
  rcases this with e | e | e | e | e | e | e | e | e | e | e | e
  · exact Or.inl (hc 0 0 (by decide) e)
  · exact Or.inr (Or.inl (hc 1 1 (by decide) e))
  · exact Or.inr (Or.inr (Or.inl (hc 2 2 (by decide) e)))
  · exact Or.inr (Or.inr (Or.inr (Or.inl (hc 3 3 (by decide) e))))
  · exact Or.inr (Or.inr (Or.inr (Or.inr (Or.inl (hc 4 4 (by decide) e)))))
  · exact Or.inr (Or.inr (Or.inr (Or.inr (Or.inr (Or.inl (hc 5 5 (by decide) e))))))
  · exact Or.inr (Or.inr (Or.inr (Or.inr (Or.inr (Or.inr (Or.inl (hc 6 6 (by decide) e)))))))
  · exact Or.inr (Or.inr (Or.inr (Or.inr (Or.inr (Or.inr (Or.inr (Or.inl (hc 7 7 (by decide) e))))))))
  · exact Or.inr (Or.inr (Or.inr (Or.inr (Or.inr (Or.inr (Or.inr (Or.inr (Or.inl (hc 8 8 (by decide) e)))))))))
  · exact Or.inr (Or.inr (Or.inr (Or.inr (Or.inr (Or.inr (Or.inr (Or.inr (Or.inr (Or.inl (hc 9 9 (by decide) e))))))))))
  · exact Or.inr (Or.inr (Or.inr (Or.inr (Or.inr (Or.inr (Or.inr (Or.inr (Or.inr (Or.inr (Or.inl (hc 10 10 (by decide) e)))))))))))
  · exact Or.inr (Or.inr (Or.inr (Or.inr (Or.inr (Or.inr (Or.inr (Or.inr (Or.inr (Or.inr (Or.inr ((hc 11 11 (by decide) e))))))))))))
theorem ixa {b c d : Int32} (hb : vp_in b 40) (hd : vp_in d 4) (hc : c + -7 = d) : vp_in (4 * b + c - 7) 160 := by
  rw [Int32.sub_eq_add_neg, Int32.add_assoc, hc]
  exact ix160 hb hd

def mf_about (S : MS) (b x : Int32) : Int64 × MS := if (0 ≤ b ∧ b ≤ S.1 4 - 1) ∧ (0 ≤ x ∧ x ≤ 11) then (if x = 0 then ((S.2.2.1 5 b.toNatClampNeg).toInt64, S) else if x = 1 then ((S.2.2.1 6 b.toNatClampNeg).toInt64, S) else if x = 2 then ((S.2.2.1 7 b.toNatClampNeg).toInt64, S) else if x = 3 then ((S.2.2.1 8 b.toNatClampNeg).toInt64, S) else if x = 4 then ((S.2.2.1 9 b.toNatClampNeg).toInt64, S) else if x = 5 then ((S.2.2.1 10 b.toNatClampNeg).toInt64, S) else if x = 6 then ((S.2.2.1 11 b.toNatClampNeg).toInt64, S) else if x = 11 then (S.2.2.2 13 (5 * b + S.2.2.1 10 b.toNatClampNeg).toNatClampNeg, S) else if S.2.2.1 11 b.toNatClampNeg ≤ x - 7 then mf_finding S (-1000000000002) else ((S.2.2.1 12 (4 * b + x - 7).toNatClampNeg).toInt64, S)) else mf_finding S (-1000000000001)
set_option maxHeartbeats 4000000 in
set_option maxRecDepth 100000 in
/-- about -/
theorem M_about (l : Launch) (D : va_G) (cy : Nat → ClassId) (a : Nat → Nat) (S : MS) (hI : minv S) (b x : Int32) : Ct l D clx (tyx cy) yX9_about wsX9_about (rmD 2) 0 0 [.ref (a 0), .int b, .int x] (MW cy a S) (fun r9 w9 => r9 = some (.long (mf_about S b x).1) ∧ w9 = MW cy a (mf_about S b x).2) := by
  refine g_start (cc := cX9_about) (maxL := 3) (ret := (some .long)) (by decide) rfl (Nat.le_of_ble_eq_true rfl) (fun v w1 h => by obtain ⟨rfl, -⟩ := h; exact rfl) (fun Γ hlΓ => ?_)
  subst hlΓ
  refine g_aload_n (i := 0) dX9_about_0 rfl rfl ?_
  refine g_iload_n (i := 1) dX9_about_1 rfl rfl ?_
  refine g_callVf 1 0 gX9_about_X9_isBill rfl rfl rfl ⟨Nat.le_of_ble_eq_true rfl, Nat.le_of_ble_eq_true rfl⟩ ⟨Nat.le_of_ble_eq_true rfl, Nat.le_of_ble_eq_true rfl⟩ (by exact Nat.le_of_ble_eq_true rfl) (by decide +kernel) rfl rfl rfl dX9_about_2 (M_isBill _ D cy a _ _) rfl (fun vu_1 wu_1 hu_1 => ?_)
  rcases hu_1 with ⟨rfl, hu_1, rfl⟩ | ⟨rfl, hu_1, rfl⟩
  · skip
    refine g_if_eq 18 dX9_about_5 (by decide) (fun h9 => absurd h9 (by decide)) (fun _ => ?_)
    refine g_iload_n (i := 2) dX9_about_8 rfl rfl ?_
    refine g_iconst (0) rfl dX9_about_9 ?_
    refine g_bipush (11) rfl dX9_about_10 ?_
    refine g_callSf 3 gX9_about_X9_in rfl rfl rfl ⟨Nat.le_of_ble_eq_true rfl, Nat.le_of_ble_eq_true rfl⟩ ⟨Nat.le_of_ble_eq_true rfl, Nat.le_of_ble_eq_true rfl⟩ (by exact Nat.le_of_ble_eq_true rfl) (by decide +kernel) rfl dX9_about_12 (M_in _ D cy a _ _ _ _) rfl (fun vu_3 wu_3 hu_3 => ?_)
    rcases hu_3 with ⟨rfl, hu_3, rfl⟩ | ⟨rfl, hu_3, rfl⟩
    · skip
      refine g_if_ne 26 dX9_about_15 (by decide) (fun _ => ?_) (fun h9 => absurd h9 (by decide))
      refine g_iload_n (i := 2) dX9_about_26 rfl rfl ?_
      rcases tsw12 x (by assumption) with rfl | rfl | rfl | rfl | rfl | rfl | rfl | rfl | rfl | rfl | rfl | rfl
      · skip
        refine g_tabIn 88 dX9_about_27 (by decide) (by decide) rfl (by decide) ?_
        refine g_aload_n (i := 0) dX9_about_88 rfl rfl ?_
        refine m_get 5 dX9_about_89 (List.mem_of_getElem? (i := 2) rfl) (fun w h => List.mem_cons_of_mem _ (List.mem_append_right _ h)) (by decide) rfl ?_
        refine g_iload_n (i := 1) dX9_about_92 rfl rfl ?_
        refine m_iald 5 3 40 dX9_about_93 rfl (mbill hI (by assumption)) ?_
        refine g_i2l dX9_about_94 ?_
        refine g_lret dX9_about_95 ?_
        unfold mf_about; (repeat' split) <;> first | contradiction | (with_reducible exact ⟨rfl, rfl⟩) | (exfalso; simp_all; done) | exact ⟨rfl, rfl⟩
      · skip
        refine g_tabIn 96 dX9_about_27 (by decide) (by decide) rfl (by decide) ?_
        refine g_aload_n (i := 0) dX9_about_96 rfl rfl ?_
        refine m_get 6 dX9_about_97 (List.mem_of_getElem? (i := 3) rfl) (fun w h => List.mem_cons_of_mem _ (List.mem_append_right _ h)) (by decide) rfl ?_
        refine g_iload_n (i := 1) dX9_about_100 rfl rfl ?_
        refine m_iald 6 4 40 dX9_about_101 rfl (mbill hI (by assumption)) ?_
        refine g_i2l dX9_about_102 ?_
        refine g_lret dX9_about_103 ?_
        unfold mf_about; (repeat' split) <;> first | contradiction | (with_reducible exact ⟨rfl, rfl⟩) | (exfalso; simp_all; done) | exact ⟨rfl, rfl⟩
      · skip
        refine g_tabIn 104 dX9_about_27 (by decide) (by decide) rfl (by decide) ?_
        refine g_aload_n (i := 0) dX9_about_104 rfl rfl ?_
        refine m_get 7 dX9_about_105 (List.mem_of_getElem? (i := 4) rfl) (fun w h => List.mem_cons_of_mem _ (List.mem_append_right _ h)) (by decide) rfl ?_
        refine g_iload_n (i := 1) dX9_about_108 rfl rfl ?_
        refine m_iald 7 5 40 dX9_about_109 rfl (mbill hI (by assumption)) ?_
        refine g_i2l dX9_about_110 ?_
        refine g_lret dX9_about_111 ?_
        unfold mf_about; (repeat' split) <;> first | contradiction | (with_reducible exact ⟨rfl, rfl⟩) | (exfalso; simp_all; done) | exact ⟨rfl, rfl⟩
      · skip
        refine g_tabIn 112 dX9_about_27 (by decide) (by decide) rfl (by decide) ?_
        refine g_aload_n (i := 0) dX9_about_112 rfl rfl ?_
        refine m_get 8 dX9_about_113 (List.mem_of_getElem? (i := 5) rfl) (fun w h => List.mem_cons_of_mem _ (List.mem_append_right _ h)) (by decide) rfl ?_
        refine g_iload_n (i := 1) dX9_about_116 rfl rfl ?_
        refine m_iald 8 6 40 dX9_about_117 rfl (mbill hI (by assumption)) ?_
        refine g_i2l dX9_about_118 ?_
        refine g_lret dX9_about_119 ?_
        unfold mf_about; (repeat' split) <;> first | contradiction | (with_reducible exact ⟨rfl, rfl⟩) | (exfalso; simp_all; done) | exact ⟨rfl, rfl⟩
      · skip
        refine g_tabIn 120 dX9_about_27 (by decide) (by decide) rfl (by decide) ?_
        refine g_aload_n (i := 0) dX9_about_120 rfl rfl ?_
        refine m_get 9 dX9_about_121 (List.mem_of_getElem? (i := 6) rfl) (fun w h => List.mem_cons_of_mem _ (List.mem_append_right _ h)) (by decide) rfl ?_
        refine g_iload_n (i := 1) dX9_about_124 rfl rfl ?_
        refine m_iald 9 7 40 dX9_about_125 rfl (mbill hI (by assumption)) ?_
        refine g_i2l dX9_about_126 ?_
        refine g_lret dX9_about_127 ?_
        unfold mf_about; (repeat' split) <;> first | contradiction | (with_reducible exact ⟨rfl, rfl⟩) | (exfalso; simp_all; done) | exact ⟨rfl, rfl⟩
      · skip
        refine g_tabIn 128 dX9_about_27 (by decide) (by decide) rfl (by decide) ?_
        refine g_aload_n (i := 0) dX9_about_128 rfl rfl ?_
        refine m_get 10 dX9_about_129 (List.mem_of_getElem? (i := 7) rfl) (fun w h => List.mem_cons_of_mem _ (List.mem_append_right _ h)) (by decide) rfl ?_
        refine g_iload_n (i := 1) dX9_about_132 rfl rfl ?_
        refine m_iald 10 8 40 dX9_about_133 rfl (mbill hI (by assumption)) ?_
        refine g_i2l dX9_about_134 ?_
        refine g_lret dX9_about_135 ?_
        unfold mf_about; (repeat' split) <;> first | contradiction | (with_reducible exact ⟨rfl, rfl⟩) | (exfalso; simp_all; done) | exact ⟨rfl, rfl⟩
      · skip
        refine g_tabIn 136 dX9_about_27 (by decide) (by decide) rfl (by decide) ?_
        refine g_aload_n (i := 0) dX9_about_136 rfl rfl ?_
        refine m_get 11 dX9_about_137 (List.mem_of_getElem? (i := 8) rfl) (fun w h => List.mem_cons_of_mem _ (List.mem_append_right _ h)) (by decide) rfl ?_
        refine g_iload_n (i := 1) dX9_about_140 rfl rfl ?_
        refine m_iald 11 9 40 dX9_about_141 rfl (mbill hI (by assumption)) ?_
        refine g_i2l dX9_about_142 ?_
        refine g_lret dX9_about_143 ?_
        unfold mf_about; (repeat' split) <;> first | contradiction | (with_reducible exact ⟨rfl, rfl⟩) | (exfalso; simp_all; done) | exact ⟨rfl, rfl⟩
      · skip
        refine g_tabIn 160 dX9_about_27 (by decide) (by decide) rfl (by decide) ?_
        refine g_iload_n (i := 2) dX9_about_160 rfl rfl ?_
        refine g_bipush (7) rfl dX9_about_161 ?_
        refine g_isub dX9_about_163 ?_
        refine g_aload_n (i := 0) dX9_about_164 rfl rfl ?_
        refine m_get 11 dX9_about_165 (List.mem_of_getElem? (i := 8) rfl) (fun w h => List.mem_cons_of_mem _ (List.mem_append_right _ h)) (by decide) rfl ?_
        refine g_iload_n (i := 1) dX9_about_168 rfl rfl ?_
        refine m_iald 11 9 40 dX9_about_169 rfl (mbill hI (by assumption)) ?_
        refine g_icmp_ge 190 dX9_about_170 (by decide) (fun c_5 => ?_) (fun c_5 => ?_)
        · skip
          refine g_aload_n (i := 0) dX9_about_190 rfl rfl ?_
          refine g_ldc2 (-1000000000002) (List.mem_of_getElem? (i := 11) rfl) dX9_about_191 ?_
          refine g_callVf 1 0 gX9_about_X9_finding rfl rfl rfl ⟨Nat.le_of_ble_eq_true rfl, Nat.le_of_ble_eq_true rfl⟩ ⟨Nat.le_of_ble_eq_true rfl, Nat.le_of_ble_eq_true rfl⟩ (by exact Nat.le_of_ble_eq_true rfl) (by decide +kernel) rfl rfl rfl dX9_about_194 (M_finding _ D cy a _ _ (by unfold vp_in; decide)) rfl (fun vu_6 wu_6 hu_6 => ?_)
          obtain ⟨rfl, rfl⟩ := hu_6
          refine g_lret dX9_about_197 ?_
          unfold mf_about; (repeat' split) <;> first | contradiction | (with_reducible exact ⟨rfl, rfl⟩) | (exfalso; simp_all; done) | exact ⟨rfl, rfl⟩
        · skip
          refine g_aload_n (i := 0) dX9_about_173 rfl rfl ?_
          refine m_get 12 dX9_about_174 (List.mem_of_getElem? (i := 10) rfl) (fun w h => List.mem_cons_of_mem _ (List.mem_append_right _ h)) (by decide) rfl ?_
          refine g_iconst (4) rfl dX9_about_177 ?_
          refine g_iload_n (i := 1) dX9_about_178 rfl rfl ?_
          refine g_imul dX9_about_179 ?_
          refine g_iload_n (i := 2) dX9_about_180 rfl rfl ?_
          refine g_iadd dX9_about_181 ?_
          refine g_bipush (7) rfl dX9_about_182 ?_
          refine g_isub dX9_about_184 ?_
          refine m_iald 12 10 160 dX9_about_185 rfl (ixa (d := 0) (mbill hI (by assumption)) (by unfold vp_in; decide) (by decide)) ?_
          refine g_i2l dX9_about_186 ?_
          refine g_goto 197 dX9_about_187 (by decide) ?_
          refine g_lret dX9_about_197 ?_
          unfold mf_about; (repeat' split) <;> first | contradiction | (with_reducible exact ⟨rfl, rfl⟩) | (exfalso; simp_all; done) | exact ⟨rfl, rfl⟩
      · skip
        refine g_tabIn 160 dX9_about_27 (by decide) (by decide) rfl (by decide) ?_
        refine g_iload_n (i := 2) dX9_about_160 rfl rfl ?_
        refine g_bipush (7) rfl dX9_about_161 ?_
        refine g_isub dX9_about_163 ?_
        refine g_aload_n (i := 0) dX9_about_164 rfl rfl ?_
        refine m_get 11 dX9_about_165 (List.mem_of_getElem? (i := 8) rfl) (fun w h => List.mem_cons_of_mem _ (List.mem_append_right _ h)) (by decide) rfl ?_
        refine g_iload_n (i := 1) dX9_about_168 rfl rfl ?_
        refine m_iald 11 9 40 dX9_about_169 rfl (mbill hI (by assumption)) ?_
        refine g_icmp_ge 190 dX9_about_170 (by decide) (fun c_7 => ?_) (fun c_7 => ?_)
        · skip
          refine g_aload_n (i := 0) dX9_about_190 rfl rfl ?_
          refine g_ldc2 (-1000000000002) (List.mem_of_getElem? (i := 11) rfl) dX9_about_191 ?_
          refine g_callVf 1 0 gX9_about_X9_finding rfl rfl rfl ⟨Nat.le_of_ble_eq_true rfl, Nat.le_of_ble_eq_true rfl⟩ ⟨Nat.le_of_ble_eq_true rfl, Nat.le_of_ble_eq_true rfl⟩ (by exact Nat.le_of_ble_eq_true rfl) (by decide +kernel) rfl rfl rfl dX9_about_194 (M_finding _ D cy a _ _ (by unfold vp_in; decide)) rfl (fun vu_8 wu_8 hu_8 => ?_)
          obtain ⟨rfl, rfl⟩ := hu_8
          refine g_lret dX9_about_197 ?_
          unfold mf_about; (repeat' split) <;> first | contradiction | (with_reducible exact ⟨rfl, rfl⟩) | (exfalso; simp_all; done) | exact ⟨rfl, rfl⟩
        · skip
          refine g_aload_n (i := 0) dX9_about_173 rfl rfl ?_
          refine m_get 12 dX9_about_174 (List.mem_of_getElem? (i := 10) rfl) (fun w h => List.mem_cons_of_mem _ (List.mem_append_right _ h)) (by decide) rfl ?_
          refine g_iconst (4) rfl dX9_about_177 ?_
          refine g_iload_n (i := 1) dX9_about_178 rfl rfl ?_
          refine g_imul dX9_about_179 ?_
          refine g_iload_n (i := 2) dX9_about_180 rfl rfl ?_
          refine g_iadd dX9_about_181 ?_
          refine g_bipush (7) rfl dX9_about_182 ?_
          refine g_isub dX9_about_184 ?_
          refine m_iald 12 10 160 dX9_about_185 rfl (ixa (d := 1) (mbill hI (by assumption)) (by unfold vp_in; decide) (by decide)) ?_
          refine g_i2l dX9_about_186 ?_
          refine g_goto 197 dX9_about_187 (by decide) ?_
          refine g_lret dX9_about_197 ?_
          unfold mf_about; (repeat' split) <;> first | contradiction | (with_reducible exact ⟨rfl, rfl⟩) | (exfalso; simp_all; done) | exact ⟨rfl, rfl⟩
      · skip
        refine g_tabIn 160 dX9_about_27 (by decide) (by decide) rfl (by decide) ?_
        refine g_iload_n (i := 2) dX9_about_160 rfl rfl ?_
        refine g_bipush (7) rfl dX9_about_161 ?_
        refine g_isub dX9_about_163 ?_
        refine g_aload_n (i := 0) dX9_about_164 rfl rfl ?_
        refine m_get 11 dX9_about_165 (List.mem_of_getElem? (i := 8) rfl) (fun w h => List.mem_cons_of_mem _ (List.mem_append_right _ h)) (by decide) rfl ?_
        refine g_iload_n (i := 1) dX9_about_168 rfl rfl ?_
        refine m_iald 11 9 40 dX9_about_169 rfl (mbill hI (by assumption)) ?_
        refine g_icmp_ge 190 dX9_about_170 (by decide) (fun c_9 => ?_) (fun c_9 => ?_)
        · skip
          refine g_aload_n (i := 0) dX9_about_190 rfl rfl ?_
          refine g_ldc2 (-1000000000002) (List.mem_of_getElem? (i := 11) rfl) dX9_about_191 ?_
          refine g_callVf 1 0 gX9_about_X9_finding rfl rfl rfl ⟨Nat.le_of_ble_eq_true rfl, Nat.le_of_ble_eq_true rfl⟩ ⟨Nat.le_of_ble_eq_true rfl, Nat.le_of_ble_eq_true rfl⟩ (by exact Nat.le_of_ble_eq_true rfl) (by decide +kernel) rfl rfl rfl dX9_about_194 (M_finding _ D cy a _ _ (by unfold vp_in; decide)) rfl (fun vu_10 wu_10 hu_10 => ?_)
          obtain ⟨rfl, rfl⟩ := hu_10
          refine g_lret dX9_about_197 ?_
          unfold mf_about; (repeat' split) <;> first | contradiction | (with_reducible exact ⟨rfl, rfl⟩) | (exfalso; simp_all; done) | exact ⟨rfl, rfl⟩
        · skip
          refine g_aload_n (i := 0) dX9_about_173 rfl rfl ?_
          refine m_get 12 dX9_about_174 (List.mem_of_getElem? (i := 10) rfl) (fun w h => List.mem_cons_of_mem _ (List.mem_append_right _ h)) (by decide) rfl ?_
          refine g_iconst (4) rfl dX9_about_177 ?_
          refine g_iload_n (i := 1) dX9_about_178 rfl rfl ?_
          refine g_imul dX9_about_179 ?_
          refine g_iload_n (i := 2) dX9_about_180 rfl rfl ?_
          refine g_iadd dX9_about_181 ?_
          refine g_bipush (7) rfl dX9_about_182 ?_
          refine g_isub dX9_about_184 ?_
          refine m_iald 12 10 160 dX9_about_185 rfl (ixa (d := 2) (mbill hI (by assumption)) (by unfold vp_in; decide) (by decide)) ?_
          refine g_i2l dX9_about_186 ?_
          refine g_goto 197 dX9_about_187 (by decide) ?_
          refine g_lret dX9_about_197 ?_
          unfold mf_about; (repeat' split) <;> first | contradiction | (with_reducible exact ⟨rfl, rfl⟩) | (exfalso; simp_all; done) | exact ⟨rfl, rfl⟩
      · skip
        refine g_tabIn 160 dX9_about_27 (by decide) (by decide) rfl (by decide) ?_
        refine g_iload_n (i := 2) dX9_about_160 rfl rfl ?_
        refine g_bipush (7) rfl dX9_about_161 ?_
        refine g_isub dX9_about_163 ?_
        refine g_aload_n (i := 0) dX9_about_164 rfl rfl ?_
        refine m_get 11 dX9_about_165 (List.mem_of_getElem? (i := 8) rfl) (fun w h => List.mem_cons_of_mem _ (List.mem_append_right _ h)) (by decide) rfl ?_
        refine g_iload_n (i := 1) dX9_about_168 rfl rfl ?_
        refine m_iald 11 9 40 dX9_about_169 rfl (mbill hI (by assumption)) ?_
        refine g_icmp_ge 190 dX9_about_170 (by decide) (fun c_11 => ?_) (fun c_11 => ?_)
        · skip
          refine g_aload_n (i := 0) dX9_about_190 rfl rfl ?_
          refine g_ldc2 (-1000000000002) (List.mem_of_getElem? (i := 11) rfl) dX9_about_191 ?_
          refine g_callVf 1 0 gX9_about_X9_finding rfl rfl rfl ⟨Nat.le_of_ble_eq_true rfl, Nat.le_of_ble_eq_true rfl⟩ ⟨Nat.le_of_ble_eq_true rfl, Nat.le_of_ble_eq_true rfl⟩ (by exact Nat.le_of_ble_eq_true rfl) (by decide +kernel) rfl rfl rfl dX9_about_194 (M_finding _ D cy a _ _ (by unfold vp_in; decide)) rfl (fun vu_12 wu_12 hu_12 => ?_)
          obtain ⟨rfl, rfl⟩ := hu_12
          refine g_lret dX9_about_197 ?_
          unfold mf_about; (repeat' split) <;> first | contradiction | (with_reducible exact ⟨rfl, rfl⟩) | (exfalso; simp_all; done) | exact ⟨rfl, rfl⟩
        · skip
          refine g_aload_n (i := 0) dX9_about_173 rfl rfl ?_
          refine m_get 12 dX9_about_174 (List.mem_of_getElem? (i := 10) rfl) (fun w h => List.mem_cons_of_mem _ (List.mem_append_right _ h)) (by decide) rfl ?_
          refine g_iconst (4) rfl dX9_about_177 ?_
          refine g_iload_n (i := 1) dX9_about_178 rfl rfl ?_
          refine g_imul dX9_about_179 ?_
          refine g_iload_n (i := 2) dX9_about_180 rfl rfl ?_
          refine g_iadd dX9_about_181 ?_
          refine g_bipush (7) rfl dX9_about_182 ?_
          refine g_isub dX9_about_184 ?_
          refine m_iald 12 10 160 dX9_about_185 rfl (ixa (d := 3) (mbill hI (by assumption)) (by unfold vp_in; decide) (by decide)) ?_
          refine g_i2l dX9_about_186 ?_
          refine g_goto 197 dX9_about_187 (by decide) ?_
          refine g_lret dX9_about_197 ?_
          unfold mf_about; (repeat' split) <;> first | contradiction | (with_reducible exact ⟨rfl, rfl⟩) | (exfalso; simp_all; done) | exact ⟨rfl, rfl⟩
      · skip
        refine g_tabIn 144 dX9_about_27 (by decide) (by decide) rfl (by decide) ?_
        refine g_aload_n (i := 0) dX9_about_144 rfl rfl ?_
        refine m_get 13 dX9_about_145 (List.mem_of_getElem? (i := 9) rfl) (fun w h => List.mem_cons_of_mem _ (List.mem_append_right _ h)) (by decide) rfl ?_
        refine g_iconst (5) rfl dX9_about_148 ?_
        refine g_iload_n (i := 1) dX9_about_149 rfl rfl ?_
        refine g_imul dX9_about_150 ?_
        refine g_aload_n (i := 0) dX9_about_151 rfl rfl ?_
        refine m_get 10 dX9_about_152 (List.mem_of_getElem? (i := 7) rfl) (fun w h => List.mem_cons_of_mem _ (List.mem_append_right _ h)) (by decide) rfl ?_
        refine g_iload_n (i := 1) dX9_about_155 rfl rfl ?_
        refine m_iald 10 8 40 dX9_about_156 rfl (mbill hI (by assumption)) ?_
        refine g_iadd dX9_about_157 ?_
        refine m_lald 13 11 200 dX9_about_158 rfl (ix200 (mbill hI (by assumption)) (mhol hI (mbill hI (by assumption))).2.2.2) ?_
        refine g_lret dX9_about_159 ?_
        unfold mf_about; (repeat' split) <;> first | contradiction | (with_reducible exact ⟨rfl, rfl⟩) | (exfalso; simp_all; done) | exact ⟨rfl, rfl⟩
    · skip
      refine g_if_ne 26 dX9_about_15 (by decide) (fun h9 => absurd h9 (by decide)) (fun _ => ?_)
      refine g_aload_n (i := 0) dX9_about_18 rfl rfl ?_
      refine g_ldc2 (-1000000000001) (List.mem_of_getElem? (i := 1) rfl) dX9_about_19 ?_
      refine g_callVf 1 0 gX9_about_X9_finding rfl rfl rfl ⟨Nat.le_of_ble_eq_true rfl, Nat.le_of_ble_eq_true rfl⟩ ⟨Nat.le_of_ble_eq_true rfl, Nat.le_of_ble_eq_true rfl⟩ (by exact Nat.le_of_ble_eq_true rfl) (by decide +kernel) rfl rfl rfl dX9_about_22 (M_finding _ D cy a _ _ (by unfold vp_in; decide)) rfl (fun vu_14 wu_14 hu_14 => ?_)
      obtain ⟨rfl, rfl⟩ := hu_14
      refine g_lret dX9_about_25 ?_
      unfold mf_about; (repeat' split) <;> first | contradiction | (with_reducible exact ⟨rfl, rfl⟩) | (exfalso; simp_all; done) | exact ⟨rfl, rfl⟩
  · skip
    refine g_if_eq 18 dX9_about_5 (by decide) (fun _ => ?_) (fun h9 => absurd h9 (by decide))
    refine g_aload_n (i := 0) dX9_about_18 rfl rfl ?_
    refine g_ldc2 (-1000000000001) (List.mem_of_getElem? (i := 1) rfl) dX9_about_19 ?_
    refine g_callVf 1 0 gX9_about_X9_finding rfl rfl rfl ⟨Nat.le_of_ble_eq_true rfl, Nat.le_of_ble_eq_true rfl⟩ ⟨Nat.le_of_ble_eq_true rfl, Nat.le_of_ble_eq_true rfl⟩ (by exact Nat.le_of_ble_eq_true rfl) (by decide +kernel) rfl rfl rfl dX9_about_22 (M_finding _ D cy a _ _ (by unfold vp_in; decide)) rfl (fun vu_16 wu_16 hu_16 => ?_)
    obtain ⟨rfl, rfl⟩ := hu_16
    refine g_lret dX9_about_25 ?_
    unfold mf_about; (repeat' split) <;> first | contradiction | (with_reducible exact ⟨rfl, rfl⟩) | (exfalso; simp_all; done) | exact ⟨rfl, rfl⟩

def mroad (S : MS) (h : Int32) : Int32 := S.2.2.1 2 (S.2.2.1 3 h.toNatClampNeg).toNatClampNeg
def knT (S : MS) (h b w : Int32) : Nat → Int64
  | 0 => -1000000000002
  | i + 1 => if 0 ≤ S.2.2.2 13 (5 * b + nI i).toNatClampNeg ∧ S.2.2.2 13 (5 * b + nI i).toNatClampNeg + (mroad S h).toInt64 ≤ w.toInt64 then (nI i).toInt64 else knT S h b w i
theorem knT_y {S : MS} {h b w : Int32} {i : Nat} (h1 : ¬ S.2.2.2 13 (5 * b + nI i).toNatClampNeg < 0) (h2 : ¬ w.toInt64 < S.2.2.2 13 (5 * b + nI i).toNatClampNeg + (S.2.2.1 2 (S.2.2.1 3 h.toNatClampNeg).toNatClampNeg).toInt64) : (nI i).toInt64 = knT S h b w (i + 1) := (if_pos ⟨Int64.not_lt.mp h1, Int64.not_lt.mp h2⟩).symm
theorem knT_n1 {S : MS} {h b w : Int32} {i : Nat} (h1 : S.2.2.2 13 (5 * b + nI i).toNatClampNeg < 0) : knT S h b w i = knT S h b w (i + 1) := (if_neg (fun q => absurd q.1 (Int64.not_le.mpr h1))).symm
theorem knT_n2 {S : MS} {h b w : Int32} {i : Nat} (h2 : w.toInt64 < S.2.2.2 13 (5 * b + nI i).toNatClampNeg + (S.2.2.1 2 (S.2.2.1 3 h.toNatClampNeg).toNatClampNeg).toInt64) : knT S h b w i = knT S h b w (i + 1) := (if_neg (fun q => absurd q.2 (Int64.not_le.mpr h2))).symm
def mf_knows (S : MS) (h b w : Int32) : Int64 × MS := if (0 ≤ h ∧ h ≤ 9) ∧ (0 ≤ b ∧ b ≤ S.1 4 - 1) ∧ 0 ≤ w then (if knT S h b w 5 = -1000000000002 then mf_finding S (-1000000000002) else (knT S h b w 5, S)) else mf_finding S (-1000000000001)
theorem mseat {S : MS} (hI : minv S) {h : Int32} (hh : vp_in h 10) : vp_in (S.2.2.1 3 h.toNatClampNeg) 5 := hI.2.2.2.2.2.2.2.1 _ (vp_nat hh)
set_option maxHeartbeats 4000000 in
set_option maxRecDepth 100000 in
/-- knows -/
theorem M_knows (l : Launch) (D : va_G) (cy : Nat → ClassId) (a : Nat → Nat) (S : MS) (hI : minv S) (h b w : Int32) : Ct l D clx (tyx cy) yX9_knows wsX9_knows (rmD 2) 0 0 [.ref (a 0), .int h, .int b, .int w] (MW cy a S) (fun r9 w9 => r9 = some (.long (mf_knows S h b w).1) ∧ w9 = MW cy a (mf_knows S h b w).2) := by
  refine g_start (cc := cX9_knows) (maxL := 9) (ret := (some .long)) (by decide) rfl (Nat.le_of_ble_eq_true rfl) (fun v w1 h => by obtain ⟨rfl, -⟩ := h; exact rfl) (fun Γ hlΓ => ?_)
  subst hlΓ
  refine g_iload_n (i := 1) dX9_knows_0 rfl rfl ?_
  refine g_callSf 1 gX9_knows_X9_isHouse rfl rfl rfl ⟨Nat.le_of_ble_eq_true rfl, Nat.le_of_ble_eq_true rfl⟩ ⟨Nat.le_of_ble_eq_true rfl, Nat.le_of_ble_eq_true rfl⟩ (by exact Nat.le_of_ble_eq_true rfl) (by decide +kernel) rfl dX9_knows_1 (M_isHouse _ D cy a _ _) rfl (fun vu_1 wu_1 hu_1 => ?_)
  rcases hu_1 with ⟨rfl, hu_1, rfl⟩ | ⟨rfl, hu_1, rfl⟩
  · skip
    refine g_if_eq 19 dX9_knows_4 (by decide) (fun h9 => absurd h9 (by decide)) (fun _ => ?_)
    refine g_aload_n (i := 0) dX9_knows_7 rfl rfl ?_
    refine g_iload_n (i := 2) dX9_knows_8 rfl rfl ?_
    refine g_callVf 1 0 gX9_knows_X9_isBill rfl rfl rfl ⟨Nat.le_of_ble_eq_true rfl, Nat.le_of_ble_eq_true rfl⟩ ⟨Nat.le_of_ble_eq_true rfl, Nat.le_of_ble_eq_true rfl⟩ (by exact Nat.le_of_ble_eq_true rfl) (by decide +kernel) rfl rfl rfl dX9_knows_9 (M_isBill _ D cy a _ _) rfl (fun vu_3 wu_3 hu_3 => ?_)
    rcases hu_3 with ⟨rfl, hu_3, rfl⟩ | ⟨rfl, hu_3, rfl⟩
    · skip
      refine g_if_eq 19 dX9_knows_12 (by decide) (fun h9 => absurd h9 (by decide)) (fun _ => ?_)
      refine g_iload_n (i := 3) dX9_knows_15 rfl rfl ?_
      refine g_if_ge 27 dX9_knows_16 (by decide) (fun c_5 => ?_) (fun c_5 => ?_)
      · skip
        refine g_ldc2 (-1000000000002) (List.mem_of_getElem? (i := 2) rfl) dX9_knows_27 ?_
        refine g_lstore dX9_knows_30 (by decide) ?_
        refine g_iconst (0) rfl dX9_knows_32 ?_
        refine g_istore dX9_knows_33 (by decide) ?_
        refine g_cnt 5 (fun i => True) (fun i => MW cy a S) (fun i => [(0, .ref (a 0)), (1, .int h), (2, .int b), (3, .int w), (4, .long (knT S h b w i)), (6, .int (nI i))]) 0 (by first | decide | omega) trivial (by rfl) (by refine ⟨rfl, rfl, rfl, rfl, rfl, rfl, trivial⟩) ?_ (fun i6 hi6 gi6 ihi6 => ?_)
        · intro gN
          refine g_iload dX9_knows_35 rfl ?_
          refine g_iconst (5) rfl dX9_knows_37 ?_
          refine g_icmp_ge 98 dX9_knows_38 (by decide) (fun c_7 => ?_) (fun c_7 => ?_)
          · skip
            refine g_lload dX9_knows_98 rfl ?_
            refine g_ldc2 (-1000000000002) (List.mem_of_getElem? (i := 2) rfl) dX9_knows_100 ?_
            refine g_lcmp_ne 117 dX9_knows_103 dX9_knows_104 (by decide) (fun c_8 => ?_) (fun c_8 => ?_)
            · skip
              refine g_lload dX9_knows_117 rfl ?_
              refine g_lret dX9_knows_119 ?_
              unfold mf_knows; (repeat' split) <;> first | contradiction | (with_reducible exact ⟨rfl, rfl⟩) | (exfalso; simp_all; done) | exact ⟨rfl, rfl⟩
            · skip
              refine g_aload_n (i := 0) dX9_knows_107 rfl rfl ?_
              refine g_ldc2 (-1000000000002) (List.mem_of_getElem? (i := 2) rfl) dX9_knows_108 ?_
              refine g_callVf 1 0 gX9_knows_X9_finding rfl rfl rfl ⟨Nat.le_of_ble_eq_true rfl, Nat.le_of_ble_eq_true rfl⟩ ⟨Nat.le_of_ble_eq_true rfl, Nat.le_of_ble_eq_true rfl⟩ (by exact Nat.le_of_ble_eq_true rfl) (by decide +kernel) rfl rfl rfl dX9_knows_111 (M_finding _ D cy a _ _ (by unfold vp_in; decide)) rfl (fun vu_9 wu_9 hu_9 => ?_)
              obtain ⟨rfl, rfl⟩ := hu_9
              refine g_goto 119 dX9_knows_114 (by decide) ?_
              refine g_lret dX9_knows_119 ?_
              unfold mf_knows; (repeat' split) <;> first | contradiction | (with_reducible exact ⟨rfl, rfl⟩) | (exfalso; simp_all; done) | exact ⟨rfl, rfl⟩
          · skip
            exact absurd (nI_le (Nat.le_refl _) (by first | decide | omega)) c_7
        · skip
          refine g_iload dX9_knows_35 rfl ?_
          refine g_iconst (5) rfl dX9_knows_37 ?_
          refine g_icmp_ge 98 dX9_knows_38 (by decide) (fun c_10 => ?_) (fun c_10 => ?_)
          · skip
            exact absurd c_10 (nI_ge hi6 (by first | decide | omega))
          · skip
            refine g_aload_n (i := 0) dX9_knows_41 rfl rfl ?_
            refine m_get 13 dX9_knows_42 (List.mem_of_getElem? (i := 3) rfl) (fun w h => List.mem_cons_of_mem _ (List.mem_append_right _ h)) (by decide) rfl ?_
            refine g_iconst (5) rfl dX9_knows_45 ?_
            refine g_iload_n (i := 2) dX9_knows_46 rfl rfl ?_
            refine g_imul dX9_knows_47 ?_
            refine g_iload dX9_knows_48 rfl ?_
            refine g_iadd dX9_knows_50 ?_
            refine m_lald 13 11 200 dX9_knows_51 rfl (ix200 (mbill hI (by assumption)) (vp_in_nI (by assumption) (by decide))) ?_
            refine g_lstore dX9_knows_52 (by decide) ?_
            refine g_lload dX9_knows_54 rfl ?_
            refine g_lconst 0 rfl dX9_knows_56 ?_
            refine g_lcmp_lt 88 dX9_knows_57 dX9_knows_58 (by decide) (fun c_11 => ?_) (fun c_11 => ?_)
            · skip
              refine g_lload dX9_knows_88 rfl ?_
              refine g_lstore dX9_knows_90 (by decide) ?_
              refine g_iinc (1) dX9_knows_92 rfl rfl (by decide) ?_
              refine g_goto 35 dX9_knows_95 (by decide) ?_
              refine g_to _ _ (ihi6 trivial) rfl ⟨rfl, rfl, rfl, rfl, (by first | exact congrArg (fun z => some (Value.long z)) (knT_y (by assumption) (by assumption)) | exact congrArg (fun z => some (Value.long z)) (knT_n1 (by assumption)) | exact congrArg (fun z => some (Value.long z)) (knT_n2 (by assumption))), (by rw [← nI_1]; rfl), trivial⟩
            · skip
              refine g_iload_n (i := 3) dX9_knows_61 rfl rfl ?_
              refine g_i2l dX9_knows_62 ?_
              refine g_lload dX9_knows_63 rfl ?_
              refine g_aload_n (i := 0) dX9_knows_65 rfl rfl ?_
              refine m_get 2 dX9_knows_66 (List.mem_of_getElem? (i := 4) rfl) (fun w h => List.mem_cons_of_mem _ (List.mem_append_right _ h)) (by decide) rfl ?_
              refine g_aload_n (i := 0) dX9_knows_69 rfl rfl ?_
              refine m_get 3 dX9_knows_70 (List.mem_of_getElem? (i := 5) rfl) (fun w h => List.mem_cons_of_mem _ (List.mem_append_right _ h)) (by decide) rfl ?_
              refine g_iload_n (i := 1) dX9_knows_73 rfl rfl ?_
              refine m_iald 3 2 10 dX9_knows_74 rfl (vpi10 (by assumption)) ?_
              refine m_iald 2 1 5 dX9_knows_75 rfl (mseat hI (vpi10 (by assumption))) ?_
              refine g_i2l dX9_knows_76 ?_
              refine g_ladd dX9_knows_77 ?_
              refine g_lcmp_lt 88 dX9_knows_78 dX9_knows_79 (by decide) (fun c_12 => ?_) (fun c_12 => ?_)
              · skip
                refine g_lload dX9_knows_88 rfl ?_
                refine g_lstore dX9_knows_90 (by decide) ?_
                refine g_iinc (1) dX9_knows_92 rfl rfl (by decide) ?_
                refine g_goto 35 dX9_knows_95 (by decide) ?_
                refine g_to _ _ (ihi6 trivial) rfl ⟨rfl, rfl, rfl, rfl, (by first | exact congrArg (fun z => some (Value.long z)) (knT_y (by assumption) (by assumption)) | exact congrArg (fun z => some (Value.long z)) (knT_n1 (by assumption)) | exact congrArg (fun z => some (Value.long z)) (knT_n2 (by assumption))), (by rw [← nI_1]; rfl), trivial⟩
              · skip
                refine g_iload dX9_knows_82 rfl ?_
                refine g_i2l dX9_knows_84 ?_
                refine g_goto 90 dX9_knows_85 (by decide) ?_
                refine g_lstore dX9_knows_90 (by decide) ?_
                refine g_iinc (1) dX9_knows_92 rfl rfl (by decide) ?_
                refine g_goto 35 dX9_knows_95 (by decide) ?_
                refine g_to _ _ (ihi6 trivial) rfl ⟨rfl, rfl, rfl, rfl, (by first | exact congrArg (fun z => some (Value.long z)) (knT_y (by assumption) (by assumption)) | exact congrArg (fun z => some (Value.long z)) (knT_n1 (by assumption)) | exact congrArg (fun z => some (Value.long z)) (knT_n2 (by assumption))), (by rw [← nI_1]; rfl), trivial⟩
      · skip
        refine g_aload_n (i := 0) dX9_knows_19 rfl rfl ?_
        refine g_ldc2 (-1000000000001) (List.mem_of_getElem? (i := 1) rfl) dX9_knows_20 ?_
        refine g_callVf 1 0 gX9_knows_X9_finding rfl rfl rfl ⟨Nat.le_of_ble_eq_true rfl, Nat.le_of_ble_eq_true rfl⟩ ⟨Nat.le_of_ble_eq_true rfl, Nat.le_of_ble_eq_true rfl⟩ (by exact Nat.le_of_ble_eq_true rfl) (by decide +kernel) rfl rfl rfl dX9_knows_23 (M_finding _ D cy a _ _ (by unfold vp_in; decide)) rfl (fun vu_13 wu_13 hu_13 => ?_)
        obtain ⟨rfl, rfl⟩ := hu_13
        refine g_lret dX9_knows_26 ?_
        unfold mf_knows; (repeat' split) <;> first | contradiction | (with_reducible exact ⟨rfl, rfl⟩) | (exfalso; simp_all; done) | exact ⟨rfl, rfl⟩
    · skip
      refine g_if_eq 19 dX9_knows_12 (by decide) (fun _ => ?_) (fun h9 => absurd h9 (by decide))
      refine g_aload_n (i := 0) dX9_knows_19 rfl rfl ?_
      refine g_ldc2 (-1000000000001) (List.mem_of_getElem? (i := 1) rfl) dX9_knows_20 ?_
      refine g_callVf 1 0 gX9_knows_X9_finding rfl rfl rfl ⟨Nat.le_of_ble_eq_true rfl, Nat.le_of_ble_eq_true rfl⟩ ⟨Nat.le_of_ble_eq_true rfl, Nat.le_of_ble_eq_true rfl⟩ (by exact Nat.le_of_ble_eq_true rfl) (by decide +kernel) rfl rfl rfl dX9_knows_23 (M_finding _ D cy a _ _ (by unfold vp_in; decide)) rfl (fun vu_15 wu_15 hu_15 => ?_)
      obtain ⟨rfl, rfl⟩ := hu_15
      refine g_lret dX9_knows_26 ?_
      unfold mf_knows; (repeat' split) <;> first | contradiction | (with_reducible exact ⟨rfl, rfl⟩) | (exfalso; simp_all; done) | exact ⟨rfl, rfl⟩
  · skip
    refine g_if_eq 19 dX9_knows_4 (by decide) (fun _ => ?_) (fun h9 => absurd h9 (by decide))
    refine g_aload_n (i := 0) dX9_knows_19 rfl rfl ?_
    refine g_ldc2 (-1000000000001) (List.mem_of_getElem? (i := 1) rfl) dX9_knows_20 ?_
    refine g_callVf 1 0 gX9_knows_X9_finding rfl rfl rfl ⟨Nat.le_of_ble_eq_true rfl, Nat.le_of_ble_eq_true rfl⟩ ⟨Nat.le_of_ble_eq_true rfl, Nat.le_of_ble_eq_true rfl⟩ (by exact Nat.le_of_ble_eq_true rfl) (by decide +kernel) rfl rfl rfl dX9_knows_23 (M_finding _ D cy a _ _ (by unfold vp_in; decide)) rfl (fun vu_17 wu_17 hu_17 => ?_)
    obtain ⟨rfl, rfl⟩ := hu_17
    refine g_lret dX9_knows_26 ?_
    unfold mf_knows; (repeat' split) <;> first | contradiction | (with_reducible exact ⟨rfl, rfl⟩) | (exfalso; simp_all; done) | exact ⟨rfl, rfl⟩

def mat (S : MS) (q : Int32) : Int32 := if S.1 36 ≤ q then -1 else S.2.2.1 35 q.toNatClampNeg
theorem mtape {S : MS} (hI : minv S) {q : Int32} (h0 : 0 ≤ q) (h : ¬ S.1 36 ≤ q) : vp_in q 400 := by
  obtain ⟨-, -, ⟨h1, h2⟩, -⟩ := hI
  rw [Int32.not_le, Int32.lt_iff_toInt_lt] at h
  rw [Int32.le_iff_toInt_le] at h0
  have e0 : (0 : Int32).toInt = 0 := by decide
  rw [vp_in_iff]
  omega
set_option maxHeartbeats 4000000 in
set_option maxRecDepth 100000 in
/-- a byte of the tape -/
theorem M_at (l : Launch) (D : va_G) (cy : Nat → ClassId) (a : Nat → Nat) (S : MS) (hI : minv S) (q : Int32) (h0 : 0 ≤ q) : Ct l D clx (tyx cy) yX9_at wsX9_at (rmD 0) 0 0 [.ref (a 0), .int q] (MW cy a S) (fun r9 w9 => r9 = some (.int (mat S q)) ∧ w9 = MW cy a S) := by
  refine g_start (cc := cX9_at) (maxL := 2) (ret := (some .int)) (by decide) rfl (Nat.le_of_ble_eq_true rfl) (fun v w1 h => by obtain ⟨rfl, -⟩ := h; exact ⟨.int, rfl, rfl⟩) (fun Γ hlΓ => ?_)
  subst hlΓ
  refine g_iload_n (i := 1) dX9_at_0 rfl rfl ?_
  refine g_aload_n (i := 0) dX9_at_1 rfl rfl ?_
  refine m_get 36 dX9_at_2 (List.mem_of_getElem? (i := 1) rfl) (fun w h => List.mem_cons_of_mem _ (List.mem_append_right _ h)) (by decide) rfl ?_
  refine g_icmp_ge 17 dX9_at_5 (by decide) (fun c_1 => ?_) (fun c_1 => ?_)
  · skip
    refine g_iconst (-1) rfl dX9_at_17 ?_
    refine g_iret dX9_at_18 ?_
    unfold mat; (repeat' split) <;> first | contradiction | (with_reducible exact ⟨rfl, rfl⟩) | (exfalso; simp_all; done) | exact ⟨rfl, rfl⟩
  · skip
    refine g_aload_n (i := 0) dX9_at_8 rfl rfl ?_
    refine m_get 35 dX9_at_9 (List.mem_of_getElem? (i := 2) rfl) (fun w h => List.mem_cons_of_mem _ (List.mem_append_right _ h)) (by decide) rfl ?_
    refine g_iload_n (i := 1) dX9_at_12 rfl rfl ?_
    refine m_iald 35 30 400 dX9_at_13 rfl (mtape hI h0 (by assumption)) ?_
    refine g_goto 18 dX9_at_14 (by decide) ?_
    refine g_iret dX9_at_18 ?_
    unfold mat; (repeat' split) <;> first | contradiction | (with_reducible exact ⟨rfl, rfl⟩) | (exfalso; simp_all; done) | exact ⟨rfl, rfl⟩

set_option maxHeartbeats 4000000 in
set_option maxRecDepth 100000 in
/-- isLetter -/
theorem M_isLetter (l : Launch) (D : va_G) (cy : Nat → ClassId) (a : Nat → Nat) (S : MS) (x : Int32) : Ct l D clx (tyx cy) yX9_isLetter wsX9_isLetter (rmD 0) 0 0 [.int x] (MW cy a S) (fun r9 w9 => (r9 = some (.int 1) ∧ (97 ≤ x ∧ x ≤ 122) ∧ w9 = MW cy a S) ∨ (r9 = some (.int 0) ∧ ¬ (97 ≤ x ∧ x ≤ 122) ∧ w9 = MW cy a S)) := by
  refine g_start (cc := cX9_isLetter) (maxL := 1) (ret := (some .boolean)) (by decide) rfl (Nat.le_of_ble_eq_true rfl) (fun v w1 h => by rcases h with ⟨rfl, -, -⟩ | ⟨rfl, -, -⟩ <;> exact ⟨.boolean, rfl, rfl⟩) (fun Γ hlΓ => ?_)
  subst hlΓ
  refine g_iload_n (i := 0) dX9_isLetter_0 rfl rfl ?_
  refine g_bipush (97) rfl dX9_isLetter_1 ?_
  refine g_icmp_lt 16 dX9_isLetter_3 (by decide) (fun c_1 => ?_) (fun c_1 => ?_)
  · skip
    refine g_iconst (0) rfl dX9_isLetter_16 ?_
    refine g_iret dX9_isLetter_17 ?_
    first | exact Or.inl ⟨rfl, ⟨Int32.not_lt.mp c_1, Int32.not_lt.mp c_2⟩, rfl⟩ | exact Or.inr ⟨rfl, fun h => absurd h.2 (Int32.not_le.mpr c_2), rfl⟩ | exact Or.inr ⟨rfl, fun h => absurd h.1 (Int32.not_le.mpr c_1), rfl⟩
  · skip
    refine g_iload_n (i := 0) dX9_isLetter_6 rfl rfl ?_
    refine g_bipush (122) rfl dX9_isLetter_7 ?_
    refine g_icmp_gt 16 dX9_isLetter_9 (by decide) (fun c_2 => ?_) (fun c_2 => ?_)
    · skip
      refine g_iconst (0) rfl dX9_isLetter_16 ?_
      refine g_iret dX9_isLetter_17 ?_
      first | exact Or.inl ⟨rfl, ⟨Int32.not_lt.mp c_1, Int32.not_lt.mp c_2⟩, rfl⟩ | exact Or.inr ⟨rfl, fun h => absurd h.2 (Int32.not_le.mpr c_2), rfl⟩ | exact Or.inr ⟨rfl, fun h => absurd h.1 (Int32.not_le.mpr c_1), rfl⟩
    · skip
      refine g_iconst (1) rfl dX9_isLetter_12 ?_
      refine g_goto 17 dX9_isLetter_13 (by decide) ?_
      refine g_iret dX9_isLetter_17 ?_
      first | exact Or.inl ⟨rfl, ⟨Int32.not_lt.mp c_1, Int32.not_lt.mp c_2⟩, rfl⟩ | exact Or.inr ⟨rfl, fun h => absurd h.2 (Int32.not_le.mpr c_2), rfl⟩ | exact Or.inr ⟨rfl, fun h => absurd h.1 (Int32.not_le.mpr c_1), rfl⟩

set_option maxHeartbeats 4000000 in
set_option maxRecDepth 100000 in
/-- isFigure -/
theorem M_isFigure (l : Launch) (D : va_G) (cy : Nat → ClassId) (a : Nat → Nat) (S : MS) (x : Int32) : Ct l D clx (tyx cy) yX9_isFigure wsX9_isFigure (rmD 0) 0 0 [.int x] (MW cy a S) (fun r9 w9 => (r9 = some (.int 1) ∧ (48 ≤ x ∧ x ≤ 57) ∧ w9 = MW cy a S) ∨ (r9 = some (.int 0) ∧ ¬ (48 ≤ x ∧ x ≤ 57) ∧ w9 = MW cy a S)) := by
  refine g_start (cc := cX9_isFigure) (maxL := 1) (ret := (some .boolean)) (by decide) rfl (Nat.le_of_ble_eq_true rfl) (fun v w1 h => by rcases h with ⟨rfl, -, -⟩ | ⟨rfl, -, -⟩ <;> exact ⟨.boolean, rfl, rfl⟩) (fun Γ hlΓ => ?_)
  subst hlΓ
  refine g_iload_n (i := 0) dX9_isFigure_0 rfl rfl ?_
  refine g_bipush (48) rfl dX9_isFigure_1 ?_
  refine g_icmp_lt 16 dX9_isFigure_3 (by decide) (fun c_1 => ?_) (fun c_1 => ?_)
  · skip
    refine g_iconst (0) rfl dX9_isFigure_16 ?_
    refine g_iret dX9_isFigure_17 ?_
    first | exact Or.inl ⟨rfl, ⟨Int32.not_lt.mp c_1, Int32.not_lt.mp c_2⟩, rfl⟩ | exact Or.inr ⟨rfl, fun h => absurd h.2 (Int32.not_le.mpr c_2), rfl⟩ | exact Or.inr ⟨rfl, fun h => absurd h.1 (Int32.not_le.mpr c_1), rfl⟩
  · skip
    refine g_iload_n (i := 0) dX9_isFigure_6 rfl rfl ?_
    refine g_bipush (57) rfl dX9_isFigure_7 ?_
    refine g_icmp_gt 16 dX9_isFigure_9 (by decide) (fun c_2 => ?_) (fun c_2 => ?_)
    · skip
      refine g_iconst (0) rfl dX9_isFigure_16 ?_
      refine g_iret dX9_isFigure_17 ?_
      first | exact Or.inl ⟨rfl, ⟨Int32.not_lt.mp c_1, Int32.not_lt.mp c_2⟩, rfl⟩ | exact Or.inr ⟨rfl, fun h => absurd h.2 (Int32.not_le.mpr c_2), rfl⟩ | exact Or.inr ⟨rfl, fun h => absurd h.1 (Int32.not_le.mpr c_1), rfl⟩
    · skip
      refine g_iconst (1) rfl dX9_isFigure_12 ?_
      refine g_goto 17 dX9_isFigure_13 (by decide) ?_
      refine g_iret dX9_isFigure_17 ?_
      first | exact Or.inl ⟨rfl, ⟨Int32.not_lt.mp c_1, Int32.not_lt.mp c_2⟩, rfl⟩ | exact Or.inr ⟨rfl, fun h => absurd h.2 (Int32.not_le.mpr c_2), rfl⟩ | exact Or.inr ⟨rfl, fun h => absurd h.1 (Int32.not_le.mpr c_1), rfl⟩

set_option maxHeartbeats 4000000 in
set_option maxRecDepth 100000 in
/-- a fault is told -/
theorem M_wrong (l : Launch) (D : va_G) (cy : Nat → ClassId) (a : Nat → Nat) (S : MS) : Ct l D clx (tyx cy) yX9_wrong wsX9_wrong (rmD 0) 0 0 [.ref (a 0)] (MW cy a S) (fun r9 w9 => r9 = some (.int 0) ∧ w9 = MW cy a (sL S 37 (S.1 38).toInt64)) := by
  refine g_start (cc := cX9_wrong) (maxL := 1) (ret := (some .boolean)) (by decide) rfl (Nat.le_of_ble_eq_true rfl) (fun v w1 h => by obtain ⟨rfl, -⟩ := h; exact ⟨.boolean, rfl, rfl⟩) (fun Γ hlΓ => ?_)
  subst hlΓ
  refine g_aload_n (i := 0) dX9_wrong_0 rfl rfl ?_
  refine g_aload_n (i := 0) dX9_wrong_1 rfl rfl ?_
  refine m_get 38 dX9_wrong_2 (List.mem_of_getElem? (i := 1) rfl) (fun w h => List.mem_cons_of_mem _ (List.mem_append_right _ h)) (by decide) rfl ?_
  refine g_i2l dX9_wrong_5 ?_
  refine m_putl 37 dX9_wrong_6 (List.mem_of_getElem? (i := 2) rfl) (fun w h => List.mem_cons_of_mem _ (List.mem_append_right _ h)) (by decide) rfl rfl rfl (wsI_37 _ _ _ _) ?_
  refine g_iconst (0) rfl dX9_wrong_9 ?_
  refine g_iret dX9_wrong_10 ?_
  exact ⟨rfl, rfl⟩

def fdF (S : MS) (e : Int64) : Nat → MS
  | 0 => S
  | i + 1 => sI (sA (fdF S e i) 35 ((fdF S e i).1 36).toNatClampNeg ((e >>> ((8 * nI i).toInt64 &&& 63)) &&& 255).toInt32) 36 ((sA (fdF S e i) 35 ((fdF S e i).1 36).toNatClampNeg ((e >>> ((8 * nI i).toInt64 &&& 63)) &&& 255).toInt32).1 36 + 1)
def mf_feed (S : MS) (e : Int64) (n : Int32) : Int64 × MS := if 1 ≤ n ∧ n ≤ 8 then (if S.1 36 + n ≤ 400 then (((fdF S e n.toNatClampNeg).1 36).toInt64, fdF S e n.toNatClampNeg) else mf_finding S (-1000000000004)) else mf_finding S (-1000000000001)
theorem fdI {S : MS} (e : Int64) : ∀ i : Nat, (fdF S e i).1 36 = S.1 36 + nI i
  | 0 => by show S.1 36 = S.1 36 + nI 0; rw [nI_0]; simp
  | i + 1 => by
    show (fdF S e i).1 36 + 1 = S.1 36 + nI (i + 1)
    rw [fdI e i, ← nI_1, Int32.add_assoc]
theorem fdX {S : MS} (hI : minv S) (e : Int64) {N i : Nat} (hN : N ≤ 8) (hi : i < N) (h : S.1 36 + nI N ≤ 400) : vp_in ((fdF S e i).1 36) 400 := by
  obtain ⟨-, -, ⟨h1, h2⟩, -⟩ := hI
  obtain ⟨t, ht, e1⟩ := nI_of (x := S.1 36) (by rw [Int32.lt_iff_toInt_lt]; have : (0 : Int32).toInt = 0 := by decide
                                                omega)
  rw [e1, nI_toInt ht] at h2
  rw [fdI, e1, nI_add]
  rw [e1, nI_add] at h
  have h5 : t + N ≤ 400 := (nI_leI (by omega) (by decide)).mp h
  exact vp_in_nI (by omega) (by decide)
set_option maxHeartbeats 4000000 in
set_option maxRecDepth 100000 in
/-- feed -/
theorem M_feed (l : Launch) (D : va_G) (cy : Nat → ClassId) (a : Nat → Nat) (S : MS) (hI : minv S) (e : Int64) (n : Int32) : Ct l D clx (tyx cy) yX9_feed wsX9_feed (rmD 2) 0 0 [.ref (a 0), .long e, .int n] (MW cy a S) (fun r9 w9 => r9 = some (.long (mf_feed S e n).1) ∧ w9 = MW cy a (mf_feed S e n).2) := by
  refine g_start (cc := cX9_feed) (maxL := 5) (ret := (some .long)) (by decide) rfl (Nat.le_of_ble_eq_true rfl) (fun v w1 h => by obtain ⟨rfl, -⟩ := h; exact rfl) (fun Γ hlΓ => ?_)
  subst hlΓ
  refine g_iload_n (i := 3) dX9_feed_0 rfl rfl ?_
  refine g_iconst (1) rfl dX9_feed_1 ?_
  refine g_bipush (8) rfl dX9_feed_2 ?_
  refine g_callSf 3 gX9_feed_X9_in rfl rfl rfl ⟨Nat.le_of_ble_eq_true rfl, Nat.le_of_ble_eq_true rfl⟩ ⟨Nat.le_of_ble_eq_true rfl, Nat.le_of_ble_eq_true rfl⟩ (by exact Nat.le_of_ble_eq_true rfl) (by decide +kernel) rfl dX9_feed_4 (M_in _ D cy a _ _ _ _) rfl (fun vu_1 wu_1 hu_1 => ?_)
  rcases hu_1 with ⟨rfl, hu_1, rfl⟩ | ⟨rfl, hu_1, rfl⟩
  · skip
    obtain ⟨N9, hN9, rfl⟩ := vpN hu_1 (by decide)
    have hN8 : N9 ≤ 8 := (by have e9 : (8 : Int32).toInt = 8 := (by decide); omega)
    refine g_if_ne 18 dX9_feed_7 (by decide) (fun _ => ?_) (fun h9 => absurd h9 (by decide))
    refine g_aload_n (i := 0) dX9_feed_18 rfl rfl ?_
    refine m_get 36 dX9_feed_19 (List.mem_of_getElem? (i := 2) rfl) (fun w h => List.mem_cons_of_mem _ (List.mem_append_right _ h)) (by decide) rfl ?_
    refine g_iload_n (i := 3) dX9_feed_22 rfl rfl ?_
    refine g_iadd dX9_feed_23 ?_
    refine g_sipush (400) rfl dX9_feed_24 ?_
    refine g_icmp_le 38 dX9_feed_27 (by decide) (fun c_3 => ?_) (fun c_3 => ?_)
    · skip
      refine g_iconst (0) rfl dX9_feed_38 ?_
      refine g_istore dX9_feed_39 (by decide) ?_
      refine g_cnt N9 (fun i => True) (fun i => MW cy a (fdF S e i)) (fun i => [(0, .ref (a 0)), (1, .long e), (3, .int (nI N9)), (4, .int (nI i))]) 0 (by first | decide | omega) trivial (by rfl) (by refine ⟨rfl, rfl, rfl, rfl, trivial⟩) ?_ (fun i4 hi4 gi4 ihi4 => ?_)
      · intro gN
        refine g_iload dX9_feed_41 rfl ?_
        refine g_iload_n (i := 3) dX9_feed_43 rfl rfl ?_
        refine g_icmp_ge 84 dX9_feed_44 (by decide) (fun c_5 => ?_) (fun c_5 => ?_)
        · skip
          refine g_aload_n (i := 0) dX9_feed_84 rfl rfl ?_
          refine m_get 36 dX9_feed_85 (List.mem_of_getElem? (i := 2) rfl) (fun w h => List.mem_cons_of_mem _ (List.mem_append_right _ h)) (by decide) rfl ?_
          refine g_i2l dX9_feed_88 ?_
          refine g_lret dX9_feed_89 ?_
          unfold mf_feed; rw [if_pos (by assumption), if_pos (by assumption), nI_clamp (by omega)]; exact ⟨rfl, rfl⟩
        · skip
          exact absurd (nI_le (Nat.le_refl _) (by first | decide | omega)) c_5
      · skip
        refine g_iload dX9_feed_41 rfl ?_
        refine g_iload_n (i := 3) dX9_feed_43 rfl rfl ?_
        refine g_icmp_ge 84 dX9_feed_44 (by decide) (fun c_6 => ?_) (fun c_6 => ?_)
        · skip
          exact absurd c_6 (nI_ge hi4 (by first | decide | omega))
        · skip
          refine g_aload_n (i := 0) dX9_feed_47 rfl rfl ?_
          refine m_get 35 dX9_feed_48 (List.mem_of_getElem? (i := 4) rfl) (fun w h => List.mem_cons_of_mem _ (List.mem_append_right _ h)) (by decide) rfl ?_
          refine g_aload_n (i := 0) dX9_feed_51 rfl rfl ?_
          refine m_get 36 dX9_feed_52 (List.mem_of_getElem? (i := 2) rfl) (fun w h => List.mem_cons_of_mem _ (List.mem_append_right _ h)) (by decide) rfl ?_
          refine g_lload_n (i := 1) dX9_feed_55 rfl rfl ?_
          refine g_bipush (8) rfl dX9_feed_56 ?_
          refine g_iload dX9_feed_58 rfl ?_
          refine g_imul dX9_feed_60 ?_
          refine g_lshr dX9_feed_61 ?_
          refine g_ldc2 (255) (List.mem_of_getElem? (i := 5) rfl) dX9_feed_62 ?_
          refine g_land dX9_feed_65 ?_
          refine g_l2i dX9_feed_66 ?_
          refine m_iast 35 30 400 dX9_feed_67 rfl (fdX hI e (by assumption) (by assumption) (by assumption)) (wsA_35 _ _ _ _ _) ?_
          refine g_aload_n (i := 0) dX9_feed_68 rfl rfl ?_
          refine g_dup rfl dX9_feed_69 ?_
          refine m_get 36 dX9_feed_70 (List.mem_of_getElem? (i := 2) rfl) (fun w h => List.mem_cons_of_mem _ (List.mem_append_right _ h)) (by decide) rfl ?_
          refine g_iconst (1) rfl dX9_feed_73 ?_
          refine g_iadd dX9_feed_74 ?_
          refine m_puti 36 dX9_feed_75 (List.mem_of_getElem? (i := 2) rfl) (fun w h => List.mem_cons_of_mem _ (List.mem_append_right _ h)) (by decide) rfl rfl rfl (wsI_36 _ _ _ _) ?_
          refine g_iinc (1) dX9_feed_78 rfl rfl (by decide) ?_
          refine g_goto 41 dX9_feed_81 (by decide) ?_
          refine g_to _ _ (ihi4 (trivial)) rfl (by refine ⟨(by first | rfl | (rw [← nI_1]; rfl) | (rw [← nI_1]; rfl)), (by first | rfl | (rw [← nI_1]; rfl) | (rw [← nI_1]; rfl)), (by first | rfl | (rw [← nI_1]; rfl) | (rw [← nI_1]; rfl)), (by first | rfl | (rw [← nI_1]; rfl) | (rw [← nI_1]; rfl)), trivial⟩)
    · skip
      refine g_aload_n (i := 0) dX9_feed_30 rfl rfl ?_
      refine g_ldc2 (-1000000000004) (List.mem_of_getElem? (i := 3) rfl) dX9_feed_31 ?_
      refine g_callVf 1 0 gX9_feed_X9_finding rfl rfl rfl ⟨Nat.le_of_ble_eq_true rfl, Nat.le_of_ble_eq_true rfl⟩ ⟨Nat.le_of_ble_eq_true rfl, Nat.le_of_ble_eq_true rfl⟩ (by exact Nat.le_of_ble_eq_true rfl) (by decide +kernel) rfl rfl rfl dX9_feed_34 (M_finding _ D cy a _ _ (by unfold vp_in; decide)) rfl (fun vu_7 wu_7 hu_7 => ?_)
      obtain ⟨rfl, rfl⟩ := hu_7
      refine g_lret dX9_feed_37 ?_
      unfold mf_feed; rw [if_pos (by assumption), if_neg (by assumption)]; exact ⟨rfl, rfl⟩
  · skip
    refine g_if_ne 18 dX9_feed_7 (by decide) (fun h9 => absurd h9 (by decide)) (fun _ => ?_)
    refine g_aload_n (i := 0) dX9_feed_10 rfl rfl ?_
    refine g_ldc2 (-1000000000001) (List.mem_of_getElem? (i := 1) rfl) dX9_feed_11 ?_
    refine g_callVf 1 0 gX9_feed_X9_finding rfl rfl rfl ⟨Nat.le_of_ble_eq_true rfl, Nat.le_of_ble_eq_true rfl⟩ ⟨Nat.le_of_ble_eq_true rfl, Nat.le_of_ble_eq_true rfl⟩ (by exact Nat.le_of_ble_eq_true rfl) (by decide +kernel) rfl rfl rfl dX9_feed_14 (M_finding _ D cy a _ _ (by unfold vp_in; decide)) rfl (fun vu_9 wu_9 hu_9 => ?_)
    obtain ⟨rfl, rfl⟩ := hu_9
    refine g_lret dX9_feed_17 ?_
    unfold mf_feed; rw [if_neg (by assumption)]; exact ⟨rfl, rfl⟩
end

section
-- ===== PART A: goes FIRST, ahead of the names: the tables' words, and 'selects' of the private methods out of them =====
/-- a private method of a class that the tables say can be made, by its rows of tables_1 -/
def lw_okq (q : MethodName × Nat) : Prop := (q.1.cls ≠ "java/lang/invoke/MethodHandle" ∧ q.1.cls ≠ "java/lang/invoke/VarHandle") ∧ Cond.instantiable q.1.cls q.2 ∈ tables_1 ∧ Cond.privateMethod q.1 ∈ tables_1 ∧ Cond.instanceMethod q.1 ∈ tables_1
theorem lw_p0 : lw_okq (⟨"ChangerFair", "finding", "(I)J"⟩, 18) := ⟨⟨by decide +kernel, by decide +kernel⟩, List.mem_of_getElem? (i := 17) (by decide +kernel), List.mem_of_getElem? (i := 255) (by decide +kernel), List.mem_of_getElem? (i := 256) (by decide +kernel)⟩
theorem lw_p1 : lw_okq (⟨"ChangerFair", "billAt", "(I)LChangerFair$Bill;"⟩, 18) := ⟨⟨by decide +kernel, by decide +kernel⟩, List.mem_of_getElem? (i := 17) (by decide +kernel), List.mem_of_getElem? (i := 351) (by decide +kernel), List.mem_of_getElem? (i := 352) (by decide +kernel)⟩
theorem lw_p2 : lw_okq (⟨"ChangerFair", "isTakingDay", "()Z"⟩, 18) := ⟨⟨by decide +kernel, by decide +kernel⟩, List.mem_of_getElem? (i := 17) (by decide +kernel), List.mem_of_getElem? (i := 367) (by decide +kernel), List.mem_of_getElem? (i := 368) (by decide +kernel)⟩
theorem lw_p3 : lw_okq (⟨"ChangerFair", "overfills", "(LChangerFair$Bill;I)Z"⟩, 18) := ⟨⟨by decide +kernel, by decide +kernel⟩, List.mem_of_getElem? (i := 17) (by decide +kernel), List.mem_of_getElem? (i := 375) (by decide +kernel), List.mem_of_getElem? (i := 376) (by decide +kernel)⟩
theorem lw_p4 : lw_okq (⟨"ChangerFair", "charge", "(LChangerFair$Bill;I)V"⟩, 18) := ⟨⟨by decide +kernel, by decide +kernel⟩, List.mem_of_getElem? (i := 17) (by decide +kernel), List.mem_of_getElem? (i := 383) (by decide +kernel), List.mem_of_getElem? (i := 384) (by decide +kernel)⟩
theorem lw_p5 : lw_okq (⟨"ChangerFair", "bindsEndorser", "(LChangerFair$Bill;I)Z"⟩, 18) := ⟨⟨by decide +kernel, by decide +kernel⟩, List.mem_of_getElem? (i := 17) (by decide +kernel), List.mem_of_getElem? (i := 410) (by decide +kernel), List.mem_of_getElem? (i := 411) (by decide +kernel)⟩
theorem lw_p6 : lw_okq (⟨"ChangerFair", "roadOf", "(I)I"⟩, 18) := ⟨⟨by decide +kernel, by decide +kernel⟩, List.mem_of_getElem? (i := 17) (by decide +kernel), List.mem_of_getElem? (i := 418) (by decide +kernel), List.mem_of_getElem? (i := 419) (by decide +kernel)⟩
theorem lw_p7 : lw_okq (⟨"ChangerFair", "customBinds", "(IIIII)Z"⟩, 18) := ⟨⟨by decide +kernel, by decide +kernel⟩, List.mem_of_getElem? (i := 17) (by decide +kernel), List.mem_of_getElem? (i := 422) (by decide +kernel), List.mem_of_getElem? (i := 423) (by decide +kernel)⟩
theorem lw_p8 : lw_okq (⟨"ChangerFair$Custom", "allTestsHold", "(I[I)Z"⟩, 6) := ⟨⟨by decide +kernel, by decide +kernel⟩, List.mem_of_getElem? (i := 169) (by decide +kernel), List.mem_of_getElem? (i := 430) (by decide +kernel), List.mem_of_getElem? (i := 431) (by decide +kernel)⟩
theorem lw_p9 : lw_okq (⟨"ChangerFair$CustomReader", "readText", "(LChangerFair$Custom;)Z"⟩, 7) := ⟨⟨by decide +kernel, by decide +kernel⟩, List.mem_of_getElem? (i := 27) (by decide +kernel), List.mem_of_getElem? (i := 486) (by decide +kernel), List.mem_of_getElem? (i := 487) (by decide +kernel)⟩
theorem lw_p10 : lw_okq (⟨"ChangerFair$CustomReader", "nextWord", "()V"⟩, 7) := ⟨⟨by decide +kernel, by decide +kernel⟩, List.mem_of_getElem? (i := 27) (by decide +kernel), List.mem_of_getElem? (i := 490) (by decide +kernel), List.mem_of_getElem? (i := 491) (by decide +kernel)⟩
theorem lw_p11 : lw_okq (⟨"ChangerFair$CustomReader", "readLetters", "()V"⟩, 7) := ⟨⟨by decide +kernel, by decide +kernel⟩, List.mem_of_getElem? (i := 27) (by decide +kernel), List.mem_of_getElem? (i := 497) (by decide +kernel), List.mem_of_getElem? (i := 498) (by decide +kernel)⟩
theorem lw_p12 : lw_okq (⟨"ChangerFair$CustomReader", "letterWord", "()I"⟩, 7) := ⟨⟨by decide +kernel, by decide +kernel⟩, List.mem_of_getElem? (i := 27) (by decide +kernel), List.mem_of_getElem? (i := 501) (by decide +kernel), List.mem_of_getElem? (i := 502) (by decide +kernel)⟩
theorem lw_p13 : lw_okq (⟨"ChangerFair$CustomReader", "spells", "(Ljava/lang/String;)Z"⟩, 7) := ⟨⟨by decide +kernel, by decide +kernel⟩, List.mem_of_getElem? (i := 27) (by decide +kernel), List.mem_of_getElem? (i := 506) (by decide +kernel), List.mem_of_getElem? (i := 507) (by decide +kernel)⟩
theorem lw_p14 : lw_okq (⟨"ChangerFair$CustomReader", "readFigures", "()V"⟩, 7) := ⟨⟨by decide +kernel, by decide +kernel⟩, List.mem_of_getElem? (i := 27) (by decide +kernel), List.mem_of_getElem? (i := 569) (by decide +kernel), List.mem_of_getElem? (i := 570) (by decide +kernel)⟩
theorem lw_p15 : lw_okq (⟨"ChangerFair$CustomReader", "readClause", "(LChangerFair$Custom;)Z"⟩, 7) := ⟨⟨by decide +kernel, by decide +kernel⟩, List.mem_of_getElem? (i := 27) (by decide +kernel), List.mem_of_getElem? (i := 580) (by decide +kernel), List.mem_of_getElem? (i := 581) (by decide +kernel)⟩
def lw_privs_1 : List (MethodName × Nat) := [(⟨"ChangerFair", "finding", "(I)J"⟩, 18), (⟨"ChangerFair", "billAt", "(I)LChangerFair$Bill;"⟩, 18), (⟨"ChangerFair", "isTakingDay", "()Z"⟩, 18), (⟨"ChangerFair", "overfills", "(LChangerFair$Bill;I)Z"⟩, 18), (⟨"ChangerFair", "charge", "(LChangerFair$Bill;I)V"⟩, 18), (⟨"ChangerFair", "bindsEndorser", "(LChangerFair$Bill;I)Z"⟩, 18), (⟨"ChangerFair", "roadOf", "(I)I"⟩, 18), (⟨"ChangerFair", "customBinds", "(IIIII)Z"⟩, 18), (⟨"ChangerFair$Custom", "allTestsHold", "(I[I)Z"⟩, 6), (⟨"ChangerFair$CustomReader", "readText", "(LChangerFair$Custom;)Z"⟩, 7), (⟨"ChangerFair$CustomReader", "nextWord", "()V"⟩, 7), (⟨"ChangerFair$CustomReader", "readLetters", "()V"⟩, 7), (⟨"ChangerFair$CustomReader", "letterWord", "()I"⟩, 7), (⟨"ChangerFair$CustomReader", "spells", "(Ljava/lang/String;)Z"⟩, 7), (⟨"ChangerFair$CustomReader", "readFigures", "()V"⟩, 7), (⟨"ChangerFair$CustomReader", "readClause", "(LChangerFair$Custom;)Z"⟩, 7)]
theorem lw_r1 : ∀ q ∈ lw_privs_1, lw_okq q := List.forall_mem_cons.mpr ⟨lw_p0, List.forall_mem_cons.mpr ⟨lw_p1, List.forall_mem_cons.mpr ⟨lw_p2, List.forall_mem_cons.mpr ⟨lw_p3, List.forall_mem_cons.mpr ⟨lw_p4, List.forall_mem_cons.mpr ⟨lw_p5, List.forall_mem_cons.mpr ⟨lw_p6, List.forall_mem_cons.mpr ⟨lw_p7, List.forall_mem_cons.mpr ⟨lw_p8, List.forall_mem_cons.mpr ⟨lw_p9, List.forall_mem_cons.mpr ⟨lw_p10, List.forall_mem_cons.mpr ⟨lw_p11, List.forall_mem_cons.mpr ⟨lw_p12, List.forall_mem_cons.mpr ⟨lw_p13, List.forall_mem_cons.mpr ⟨lw_p14, List.forall_mem_cons.mpr ⟨lw_p15, fun _ h => absurd h List.not_mem_nil⟩⟩⟩⟩⟩⟩⟩⟩⟩⟩⟩⟩⟩⟩⟩⟩
theorem lw_p16 : lw_okq (⟨"ChangerFair$CustomReader", "readTest", "(LChangerFair$Custom;)Z"⟩, 7) := ⟨⟨by decide +kernel, by decide +kernel⟩, List.mem_of_getElem? (i := 27) (by decide +kernel), List.mem_of_getElem? (i := 588) (by decide +kernel), List.mem_of_getElem? (i := 589) (by decide +kernel)⟩
theorem lw_p17 : lw_okq (⟨"ChangerFair$Plan", "readNets", "(LChangerFair$Book;)I"⟩, 11) := ⟨⟨by decide +kernel, by decide +kernel⟩, List.mem_of_getElem? (i := 75) (by decide +kernel), List.mem_of_getElem? (i := 638) (by decide +kernel), List.mem_of_getElem? (i := 639) (by decide +kernel)⟩
theorem lw_p18 : lw_okq (⟨"ChangerFair$Plan", "addUp", "()V"⟩, 11) := ⟨⟨by decide +kernel, by decide +kernel⟩, List.mem_of_getElem? (i := 75) (by decide +kernel), List.mem_of_getElem? (i := 643) (by decide +kernel), List.mem_of_getElem? (i := 644) (by decide +kernel)⟩
theorem lw_p19 : lw_okq (⟨"ChangerFair$Plan", "listZeroSets", "(I)V"⟩, 11) := ⟨⟨by decide +kernel, by decide +kernel⟩, List.mem_of_getElem? (i := 75) (by decide +kernel), List.mem_of_getElem? (i := 647) (by decide +kernel), List.mem_of_getElem? (i := 648) (by decide +kernel)⟩
theorem lw_p20 : lw_okq (⟨"ChangerFair$Plan", "countGroups", "()V"⟩, 11) := ⟨⟨by decide +kernel, by decide +kernel⟩, List.mem_of_getElem? (i := 75) (by decide +kernel), List.mem_of_getElem? (i := 651) (by decide +kernel), List.mem_of_getElem? (i := 652) (by decide +kernel)⟩
theorem lw_p21 : lw_okq (⟨"ChangerFair$Plan", "firstGroup", "(I)I"⟩, 11) := ⟨⟨by decide +kernel, by decide +kernel⟩, List.mem_of_getElem? (i := 75) (by decide +kernel), List.mem_of_getElem? (i := 661) (by decide +kernel), List.mem_of_getElem? (i := 662) (by decide +kernel)⟩
theorem lw_p22 : lw_okq (⟨"ChangerFair$Plan", "payWithin", "(I)V"⟩, 11) := ⟨⟨by decide +kernel, by decide +kernel⟩, List.mem_of_getElem? (i := 75) (by decide +kernel), List.mem_of_getElem? (i := 665) (by decide +kernel), List.mem_of_getElem? (i := 666) (by decide +kernel)⟩
theorem lw_p23 : lw_okq (⟨"ChangerFair$Plan", "leastOf", "(II)I"⟩, 11) := ⟨⟨by decide +kernel, by decide +kernel⟩, List.mem_of_getElem? (i := 75) (by decide +kernel), List.mem_of_getElem? (i := 669) (by decide +kernel), List.mem_of_getElem? (i := 670) (by decide +kernel)⟩
theorem lw_p24 : lw_okq (⟨"ChangerFair$Purses", "dearestBut", "(I)I"⟩, 2) := ⟨⟨by decide +kernel, by decide +kernel⟩, List.mem_of_getElem? (i := 118) (by decide +kernel), List.mem_of_getElem? (i := 747) (by decide +kernel), List.mem_of_getElem? (i := 748) (by decide +kernel)⟩
theorem lw_p25 : lw_okq (⟨"ChangerFair$Rates", "insertSorted", "(II)V"⟩, 5) := ⟨⟨by decide +kernel, by decide +kernel⟩, List.mem_of_getElem? (i := 133) (by decide +kernel), List.mem_of_getElem? (i := 776) (by decide +kernel), List.mem_of_getElem? (i := 777) (by decide +kernel)⟩
theorem lw_p26 : lw_okq (⟨"ChangerFair$Rates", "extendTurn", "(IIIIJI)V"⟩, 5) := ⟨⟨by decide +kernel, by decide +kernel⟩, List.mem_of_getElem? (i := 133) (by decide +kernel), List.mem_of_getElem? (i := 801) (by decide +kernel), List.mem_of_getElem? (i := 802) (by decide +kernel)⟩
theorem lw_p27 : lw_okq (⟨"ChangerFair$Rates", "closeTurn", "(JI)V"⟩, 5) := ⟨⟨by decide +kernel, by decide +kernel⟩, List.mem_of_getElem? (i := 133) (by decide +kernel), List.mem_of_getElem? (i := 805) (by decide +kernel), List.mem_of_getElem? (i := 806) (by decide +kernel)⟩
theorem lw_p28 : lw_okq (⟨"ChangerFair", "toldPayment", "(II)Z"⟩, 18) := ⟨⟨by decide +kernel, by decide +kernel⟩, List.mem_of_getElem? (i := 17) (by decide +kernel), List.mem_of_getElem? (i := 855) (by decide +kernel), List.mem_of_getElem? (i := 856) (by decide +kernel)⟩
theorem lw_p29 : lw_okq (⟨"ChangerFairModel", "finding", "(J)J"⟩, 55) := ⟨⟨by decide +kernel, by decide +kernel⟩, List.mem_of_getElem? (i := 868) (by decide +kernel), List.mem_of_getElem? (i := 1049) (by decide +kernel), List.mem_of_getElem? (i := 1050) (by decide +kernel)⟩
theorem lw_p30 : lw_okq (⟨"ChangerFairModel", "carry", "()Z"⟩, 55) := ⟨⟨by decide +kernel, by decide +kernel⟩, List.mem_of_getElem? (i := 868) (by decide +kernel), List.mem_of_getElem? (i := 1056) (by decide +kernel), List.mem_of_getElem? (i := 1057) (by decide +kernel)⟩
theorem lw_p31 : lw_okq (⟨"ChangerFairModel", "becomes", "(II)V"⟩, 55) := ⟨⟨by decide +kernel, by decide +kernel⟩, List.mem_of_getElem? (i := 868) (by decide +kernel), List.mem_of_getElem? (i := 1087) (by decide +kernel), List.mem_of_getElem? (i := 1088) (by decide +kernel)⟩
def lw_privs_2 : List (MethodName × Nat) := [(⟨"ChangerFair$CustomReader", "readTest", "(LChangerFair$Custom;)Z"⟩, 7), (⟨"ChangerFair$Plan", "readNets", "(LChangerFair$Book;)I"⟩, 11), (⟨"ChangerFair$Plan", "addUp", "()V"⟩, 11), (⟨"ChangerFair$Plan", "listZeroSets", "(I)V"⟩, 11), (⟨"ChangerFair$Plan", "countGroups", "()V"⟩, 11), (⟨"ChangerFair$Plan", "firstGroup", "(I)I"⟩, 11), (⟨"ChangerFair$Plan", "payWithin", "(I)V"⟩, 11), (⟨"ChangerFair$Plan", "leastOf", "(II)I"⟩, 11), (⟨"ChangerFair$Purses", "dearestBut", "(I)I"⟩, 2), (⟨"ChangerFair$Rates", "insertSorted", "(II)V"⟩, 5), (⟨"ChangerFair$Rates", "extendTurn", "(IIIIJI)V"⟩, 5), (⟨"ChangerFair$Rates", "closeTurn", "(JI)V"⟩, 5), (⟨"ChangerFair", "toldPayment", "(II)Z"⟩, 18), (⟨"ChangerFairModel", "finding", "(J)J"⟩, 55), (⟨"ChangerFairModel", "carry", "()Z"⟩, 55), (⟨"ChangerFairModel", "becomes", "(II)V"⟩, 55)]
theorem lw_r2 : ∀ q ∈ lw_privs_2, lw_okq q := List.forall_mem_cons.mpr ⟨lw_p16, List.forall_mem_cons.mpr ⟨lw_p17, List.forall_mem_cons.mpr ⟨lw_p18, List.forall_mem_cons.mpr ⟨lw_p19, List.forall_mem_cons.mpr ⟨lw_p20, List.forall_mem_cons.mpr ⟨lw_p21, List.forall_mem_cons.mpr ⟨lw_p22, List.forall_mem_cons.mpr ⟨lw_p23, List.forall_mem_cons.mpr ⟨lw_p24, List.forall_mem_cons.mpr ⟨lw_p25, List.forall_mem_cons.mpr ⟨lw_p26, List.forall_mem_cons.mpr ⟨lw_p27, List.forall_mem_cons.mpr ⟨lw_p28, List.forall_mem_cons.mpr ⟨lw_p29, List.forall_mem_cons.mpr ⟨lw_p30, List.forall_mem_cons.mpr ⟨lw_p31, fun _ h => absurd h List.not_mem_nil⟩⟩⟩⟩⟩⟩⟩⟩⟩⟩⟩⟩⟩⟩⟩⟩
theorem lw_p32 : lw_okq (⟨"ChangerFairModel", "isBill", "(I)Z"⟩, 55) := ⟨⟨by decide +kernel, by decide +kernel⟩, List.mem_of_getElem? (i := 868) (by decide +kernel), List.mem_of_getElem? (i := 1095) (by decide +kernel), List.mem_of_getElem? (i := 1096) (by decide +kernel)⟩
theorem lw_p33 : lw_okq (⟨"ChangerFairModel", "isEarly", "()Z"⟩, 55) := ⟨⟨by decide +kernel, by decide +kernel⟩, List.mem_of_getElem? (i := 868) (by decide +kernel), List.mem_of_getElem? (i := 1104) (by decide +kernel), List.mem_of_getElem? (i := 1105) (by decide +kernel)⟩
theorem lw_p34 : lw_okq (⟨"ChangerFairModel", "isTooMuch", "(IIJ)Z"⟩, 55) := ⟨⟨by decide +kernel, by decide +kernel⟩, List.mem_of_getElem? (i := 868) (by decide +kernel), List.mem_of_getElem? (i := 1114) (by decide +kernel), List.mem_of_getElem? (i := 1115) (by decide +kernel)⟩
theorem lw_p35 : lw_okq (⟨"ChangerFairModel", "would", "(IIJ)J"⟩, 55) := ⟨⟨by decide +kernel, by decide +kernel⟩, List.mem_of_getElem? (i := 868) (by decide +kernel), List.mem_of_getElem? (i := 1118) (by decide +kernel), List.mem_of_getElem? (i := 1119) (by decide +kernel)⟩
theorem lw_p36 : lw_okq (⟨"ChangerFairModel", "comesToOwe", "(IIJ)V"⟩, 55) := ⟨⟨by decide +kernel, by decide +kernel⟩, List.mem_of_getElem? (i := 868) (by decide +kernel), List.mem_of_getElem? (i := 1123) (by decide +kernel), List.mem_of_getElem? (i := 1124) (by decide +kernel)⟩
theorem lw_p37 : lw_okq (⟨"ChangerFairModel", "isBound", "(JIIII)Z"⟩, 55) := ⟨⟨by decide +kernel, by decide +kernel⟩, List.mem_of_getElem? (i := 868) (by decide +kernel), List.mem_of_getElem? (i := 1136) (by decide +kernel), List.mem_of_getElem? (i := 1137) (by decide +kernel)⟩
theorem lw_p38 : lw_okq (⟨"ChangerFairModel", "go", "()V"⟩, 55) := ⟨⟨by decide +kernel, by decide +kernel⟩, List.mem_of_getElem? (i := 868) (by decide +kernel), List.mem_of_getElem? (i := 1161) (by decide +kernel), List.mem_of_getElem? (i := 1162) (by decide +kernel)⟩
theorem lw_p39 : lw_okq (⟨"ChangerFairModel", "at", "(I)I"⟩, 55) := ⟨⟨by decide +kernel, by decide +kernel⟩, List.mem_of_getElem? (i := 868) (by decide +kernel), List.mem_of_getElem? (i := 1165) (by decide +kernel), List.mem_of_getElem? (i := 1166) (by decide +kernel)⟩
theorem lw_p40 : lw_okq (⟨"ChangerFairModel", "letters", "()V"⟩, 55) := ⟨⟨by decide +kernel, by decide +kernel⟩, List.mem_of_getElem? (i := 868) (by decide +kernel), List.mem_of_getElem? (i := 1172) (by decide +kernel), List.mem_of_getElem? (i := 1173) (by decide +kernel)⟩
theorem lw_p41 : lw_okq (⟨"ChangerFairModel", "wordOf", "(J)I"⟩, 55) := ⟨⟨by decide +kernel, by decide +kernel⟩, List.mem_of_getElem? (i := 868) (by decide +kernel), List.mem_of_getElem? (i := 1177) (by decide +kernel), List.mem_of_getElem? (i := 1178) (by decide +kernel)⟩
theorem lw_p42 : lw_okq (⟨"ChangerFairModel", "text", "()Z"⟩, 55) := ⟨⟨by decide +kernel, by decide +kernel⟩, List.mem_of_getElem? (i := 868) (by decide +kernel), List.mem_of_getElem? (i := 1194) (by decide +kernel), List.mem_of_getElem? (i := 1195) (by decide +kernel)⟩
theorem lw_p43 : lw_okq (⟨"ChangerFairModel", "clause", "()Z"⟩, 55) := ⟨⟨by decide +kernel, by decide +kernel⟩, List.mem_of_getElem? (i := 868) (by decide +kernel), List.mem_of_getElem? (i := 1198) (by decide +kernel), List.mem_of_getElem? (i := 1199) (by decide +kernel)⟩
theorem lw_p44 : lw_okq (⟨"ChangerFairModel", "wrong", "()Z"⟩, 55) := ⟨⟨by decide +kernel, by decide +kernel⟩, List.mem_of_getElem? (i := 868) (by decide +kernel), List.mem_of_getElem? (i := 1202) (by decide +kernel), List.mem_of_getElem? (i := 1203) (by decide +kernel)⟩
theorem lw_p45 : lw_okq (⟨"ChangerFairModel", "test", "()Z"⟩, 55) := ⟨⟨by decide +kernel, by decide +kernel⟩, List.mem_of_getElem? (i := 868) (by decide +kernel), List.mem_of_getElem? (i := 1206) (by decide +kernel), List.mem_of_getElem? (i := 1207) (by decide +kernel)⟩
theorem lw_p46 : lw_okq (⟨"ChangerFairModel", "netOf", "(I)J"⟩, 55) := ⟨⟨by decide +kernel, by decide +kernel⟩, List.mem_of_getElem? (i := 868) (by decide +kernel), List.mem_of_getElem? (i := 1232) (by decide +kernel), List.mem_of_getElem? (i := 1233) (by decide +kernel)⟩
theorem lw_p47 : lw_okq (⟨"ChangerFairModel", "findPlan", "()V"⟩, 55) := ⟨⟨by decide +kernel, by decide +kernel⟩, List.mem_of_getElem? (i := 868) (by decide +kernel), List.mem_of_getElem? (i := 1240) (by decide +kernel), List.mem_of_getElem? (i := 1241) (by decide +kernel)⟩
def lw_privs_3 : List (MethodName × Nat) := [(⟨"ChangerFairModel", "isBill", "(I)Z"⟩, 55), (⟨"ChangerFairModel", "isEarly", "()Z"⟩, 55), (⟨"ChangerFairModel", "isTooMuch", "(IIJ)Z"⟩, 55), (⟨"ChangerFairModel", "would", "(IIJ)J"⟩, 55), (⟨"ChangerFairModel", "comesToOwe", "(IIJ)V"⟩, 55), (⟨"ChangerFairModel", "isBound", "(JIIII)Z"⟩, 55), (⟨"ChangerFairModel", "go", "()V"⟩, 55), (⟨"ChangerFairModel", "at", "(I)I"⟩, 55), (⟨"ChangerFairModel", "letters", "()V"⟩, 55), (⟨"ChangerFairModel", "wordOf", "(J)I"⟩, 55), (⟨"ChangerFairModel", "text", "()Z"⟩, 55), (⟨"ChangerFairModel", "clause", "()Z"⟩, 55), (⟨"ChangerFairModel", "wrong", "()Z"⟩, 55), (⟨"ChangerFairModel", "test", "()Z"⟩, 55), (⟨"ChangerFairModel", "netOf", "(I)J"⟩, 55), (⟨"ChangerFairModel", "findPlan", "()V"⟩, 55)]
theorem lw_r3 : ∀ q ∈ lw_privs_3, lw_okq q := List.forall_mem_cons.mpr ⟨lw_p32, List.forall_mem_cons.mpr ⟨lw_p33, List.forall_mem_cons.mpr ⟨lw_p34, List.forall_mem_cons.mpr ⟨lw_p35, List.forall_mem_cons.mpr ⟨lw_p36, List.forall_mem_cons.mpr ⟨lw_p37, List.forall_mem_cons.mpr ⟨lw_p38, List.forall_mem_cons.mpr ⟨lw_p39, List.forall_mem_cons.mpr ⟨lw_p40, List.forall_mem_cons.mpr ⟨lw_p41, List.forall_mem_cons.mpr ⟨lw_p42, List.forall_mem_cons.mpr ⟨lw_p43, List.forall_mem_cons.mpr ⟨lw_p44, List.forall_mem_cons.mpr ⟨lw_p45, List.forall_mem_cons.mpr ⟨lw_p46, List.forall_mem_cons.mpr ⟨lw_p47, fun _ h => absurd h List.not_mem_nil⟩⟩⟩⟩⟩⟩⟩⟩⟩⟩⟩⟩⟩⟩⟩⟩
theorem lw_p48 : lw_okq (⟨"ChangerFairModel", "findMost", "()V"⟩, 55) := ⟨⟨by decide +kernel, by decide +kernel⟩, List.mem_of_getElem? (i := 868) (by decide +kernel), List.mem_of_getElem? (i := 1244) (by decide +kernel), List.mem_of_getElem? (i := 1245) (by decide +kernel)⟩
theorem lw_p49 : lw_okq (⟨"ChangerFairModel", "payOut", "(I)V"⟩, 55) := ⟨⟨by decide +kernel, by decide +kernel⟩, List.mem_of_getElem? (i := 868) (by decide +kernel), List.mem_of_getElem? (i := 1248) (by decide +kernel), List.mem_of_getElem? (i := 1249) (by decide +kernel)⟩
theorem lw_p50 : lw_okq (⟨"ChangerFairModel", "leastOf", "(II)I"⟩, 55) := ⟨⟨by decide +kernel, by decide +kernel⟩, List.mem_of_getElem? (i := 868) (by decide +kernel), List.mem_of_getElem? (i := 1252) (by decide +kernel), List.mem_of_getElem? (i := 1253) (by decide +kernel)⟩
theorem lw_p51 : lw_okq (⟨"ChangerFairModel", "paymentOf", "(II)J"⟩, 55) := ⟨⟨by decide +kernel, by decide +kernel⟩, List.mem_of_getElem? (i := 868) (by decide +kernel), List.mem_of_getElem? (i := 1261) (by decide +kernel), List.mem_of_getElem? (i := 1262) (by decide +kernel)⟩
theorem lw_p52 : lw_okq (⟨"ChangerFairModel", "owedInAll", "()J"⟩, 55) := ⟨⟨by decide +kernel, by decide +kernel⟩, List.mem_of_getElem? (i := 868) (by decide +kernel), List.mem_of_getElem? (i := 1269) (by decide +kernel), List.mem_of_getElem? (i := 1270) (by decide +kernel)⟩
theorem lw_p53 : lw_okq (⟨"ChangerFairModel", "look", "(IIII)V"⟩, 55) := ⟨⟨by decide +kernel, by decide +kernel⟩, List.mem_of_getElem? (i := 868) (by decide +kernel), List.mem_of_getElem? (i := 1307) (by decide +kernel), List.mem_of_getElem? (i := 1308) (by decide +kernel)⟩
theorem lw_p54 : lw_okq (⟨"ChangerFairModel", "pledged", "(II)J"⟩, 55) := ⟨⟨by decide +kernel, by decide +kernel⟩, List.mem_of_getElem? (i := 868) (by decide +kernel), List.mem_of_getElem? (i := 1319) (by decide +kernel), List.mem_of_getElem? (i := 1320) (by decide +kernel)⟩
theorem lw_p55 : lw_okq (⟨"ChangerFairModel", "share", "(J)J"⟩, 55) := ⟨⟨by decide +kernel, by decide +kernel⟩, List.mem_of_getElem? (i := 868) (by decide +kernel), List.mem_of_getElem? (i := 1323) (by decide +kernel), List.mem_of_getElem? (i := 1324) (by decide +kernel)⟩
def lw_privs_4 : List (MethodName × Nat) := [(⟨"ChangerFairModel", "findMost", "()V"⟩, 55), (⟨"ChangerFairModel", "payOut", "(I)V"⟩, 55), (⟨"ChangerFairModel", "leastOf", "(II)I"⟩, 55), (⟨"ChangerFairModel", "paymentOf", "(II)J"⟩, 55), (⟨"ChangerFairModel", "owedInAll", "()J"⟩, 55), (⟨"ChangerFairModel", "look", "(IIII)V"⟩, 55), (⟨"ChangerFairModel", "pledged", "(II)J"⟩, 55), (⟨"ChangerFairModel", "share", "(J)J"⟩, 55)]
theorem lw_r4 : ∀ q ∈ lw_privs_4, lw_okq q := List.forall_mem_cons.mpr ⟨lw_p48, List.forall_mem_cons.mpr ⟨lw_p49, List.forall_mem_cons.mpr ⟨lw_p50, List.forall_mem_cons.mpr ⟨lw_p51, List.forall_mem_cons.mpr ⟨lw_p52, List.forall_mem_cons.mpr ⟨lw_p53, List.forall_mem_cons.mpr ⟨lw_p54, List.forall_mem_cons.mpr ⟨lw_p55, fun _ h => absurd h List.not_mem_nil⟩⟩⟩⟩⟩⟩⟩⟩
def lw_privs : List (MethodName × Nat) := lw_privs_1 ++ (lw_privs_2 ++ (lw_privs_3 ++ (lw_privs_4)))
def lw_tbl : List Cond := k2_sels lw_privs ++ tables_1
theorem lw_privs_ok : ∀ q ∈ lw_privs, lw_okq q := by
  show ∀ q ∈ lw_privs_1 ++ (lw_privs_2 ++ (lw_privs_3 ++ (lw_privs_4))), lw_okq q
  exact List.forall_mem_append.mpr ⟨lw_r1, List.forall_mem_append.mpr ⟨lw_r2, List.forall_mem_append.mpr ⟨lw_r3, lw_r4⟩⟩⟩
end
section
/-! ===== BEGIN words of one list among another's, by their places ===== -/
theorem goodIn_r {big : List Cond} (ws : List Cond) (ps : List Nat) (hp : ws = ps.filterMap (fun i => big[i]?)) (h : ws.all goodWord = true) : GoodIn big ws := by
  intro w hw
  have h1 := List.all_eq_true.mp h w hw
  rw [hp] at hw
  obtain ⟨i, -, hi⟩ := List.mem_filterMap.mp hw
  have hm : w ∈ big := by first | exact List.mem_of_getElem? hi | exact List.getElem?_mem hi
  exact ⟨hm, good_of_word h1⟩
theorem goodIn_app {big a b : List Cond} (ha : GoodIn big a) (hb : GoodIn big b) : GoodIn big (a ++ b) := fun w h => (List.mem_append.mp h).elim (ha w) (hb w)
theorem goodIn_ca {big a b : List Cond} {c : Cond} (ha : GoodIn big (c :: a)) (hb : GoodIn big b) : GoodIn big (c :: (a ++ b)) := fun w h => (List.mem_cons.mp h).elim (fun e => ha w (List.mem_cons.mpr (Or.inl e))) (fun h => (List.mem_append.mp h).elim (fun h => ha w (List.mem_cons.mpr (Or.inr h))) (hb w))
theorem goodIn_sub {big ws : List Cond} (hm : ∀ w ∈ ws, w ∈ big) (h : ws.all goodWord = true) : GoodIn big ws := fun w hw => ⟨hm w hw, good_of_word (List.all_eq_true.mp h w hw)⟩
/-! ===== END ===== -/


/-! ===== BEGIN printed: names, fields, word lists, decode rows ===== -/
def RX0 : String := "ChangerFair$Bill"
def TX0 : u_T := fun k => match k with
  | 0 => ("ChangerFair$Bill", "kind", "I", true)
  | 1 => ("ChangerFair$Bill", "drawer", "I", true)
  | 2 => ("ChangerFair$Bill", "drawee", "I", true)
  | 3 => ("ChangerFair$Bill", "amount", "I", true)
  | 4 => ("ChangerFair$Bill", "holder", "I", false)
  | 5 => ("ChangerFair$Bill", "state", "I", false)
  | 6 => ("ChangerFair$Bill", "endorserCount", "I", false)
  | 7 => ("ChangerFair$Bill", "paidByDrawee", "Z", false)
  | 8 => ("ChangerFair$Bill", "endorsers", "[I", true)
  | _ => ("ChangerFair$Bill", "began", "[I", true)
def tyX0 : Nat → FieldType := fun k => match k with
  | 0 => .int
  | 1 => .int
  | 2 => .int
  | 3 => .int
  | 4 => .int
  | 5 => .int
  | 6 => .int
  | 7 => .boolean
  | 8 => .array .int
  | _ => .array .int
abbrev wsX00 : List Cond := u_ws RX0 TX0 10
theorem nmX0 : ∀ a, a < 10 → ∀ b, b < 10 → a ≠ b → (TX0 a).2.1 ≠ (TX0 b).2.1 := by decide +kernel
theorem tyX0_ok : ∀ k, k < 10 → parseFieldDescriptor (TX0 k).2.2.1 = some (tyX0 k) := by decide +kernel
abbrev cX0_init : ByteArray := prog_2_method_1_code
def yX0_init : MethodName := ⟨RX0, "<init>", "(IIIII)V"⟩
abbrev cX0_become : ByteArray := prog_2_method_2_code
def yX0_become : MethodName := ⟨RX0, "become", "(II)V"⟩
abbrev cX0_stateDay : ByteArray := prog_2_method_3_code
def yX0_stateDay : MethodName := ⟨RX0, "stateDay", "()I"⟩
abbrev cX0_daysLate : ByteArray := prog_2_method_4_code
def yX0_daysLate : MethodName := ⟨RX0, "daysLate", "()I"⟩
abbrev cX0_latestStateBy : ByteArray := prog_2_method_5_code
def yX0_latestStateBy : MethodName := ⟨RX0, "latestStateBy", "(I)I"⟩
abbrev cX0_hasEndorser : ByteArray := prog_2_method_6_code
def yX0_hasEndorser : MethodName := ⟨RX0, "hasEndorser", "(I)Z"⟩
abbrev cX0_endorserAt : ByteArray := prog_2_method_7_code
def yX0_endorserAt : MethodName := ⟨RX0, "endorserAt", "(I)I"⟩
abbrev cX0_hasRoomToPass : ByteArray := prog_2_method_8_code
def yX0_hasRoomToPass : MethodName := ⟨RX0, "hasRoomToPass", "()Z"⟩
abbrev cX0_moveTo : ByteArray := prog_2_method_9_code
def yX0_moveTo : MethodName := ⟨RX0, "moveTo", "(I)V"⟩
abbrev cX0_returnTo : ByteArray := prog_2_method_10_code
def yX0_returnTo : MethodName := ⟨RX0, "returnTo", "(I)V"⟩
abbrev cX0_pledgedBy : ByteArray := prog_2_method_11_code
def yX0_pledgedBy : MethodName := ⟨RX0, "pledgedBy", "(I)Z"⟩
def RX1 : String := "ChangerFair$Book"
def TX1 : u_T := fun k => match k with
  | 0 => ("ChangerFair$Book", "changes", "J", false)
  | _ => ("ChangerFair$Book", "debts", "[[J", true)
def tyX1 : Nat → FieldType := fun k => match k with
  | 0 => .long
  | _ => .array (.array .long)
abbrev wsX10 : List Cond := u_ws RX1 TX1 2
theorem nmX1 : ∀ a, a < 2 → ∀ b, b < 2 → a ≠ b → (TX1 a).2.1 ≠ (TX1 b).2.1 := by decide +kernel
theorem tyX1_ok : ∀ k, k < 2 → parseFieldDescriptor (TX1 k).2.2.1 = some (tyX1 k) := by decide +kernel
abbrev cX1_init : ByteArray := prog_3_method_1_code
def yX1_init : MethodName := ⟨RX1, "<init>", "()V"⟩
abbrev cX1_debt : ByteArray := prog_3_method_2_code
def yX1_debt : MethodName := ⟨RX1, "debt", "(II)J"⟩
abbrev cX1_overfills : ByteArray := prog_3_method_3_code
def yX1_overfills : MethodName := ⟨RX1, "overfills", "(IIJ)Z"⟩
abbrev cX1_charge : ByteArray := prog_3_method_4_code
def yX1_charge : MethodName := ⟨RX1, "charge", "(IIJ)V"⟩
abbrev cX1_lessen : ByteArray := prog_3_method_5_code
def yX1_lessen : MethodName := ⟨RX1, "lessen", "(IIJ)V"⟩
abbrev cX1_wipe : ByteArray := prog_3_method_6_code
def yX1_wipe : MethodName := ⟨RX1, "wipe", "()V"⟩
abbrev cX1_balance : ByteArray := prog_3_method_7_code
def yX1_balance : MethodName := ⟨RX1, "balance", "(I)J"⟩
abbrev cX1_total : ByteArray := prog_3_method_8_code
def yX1_total : MethodName := ⟨RX1, "total", "()J"⟩
abbrev cX1_carryOverfills : ByteArray := prog_3_method_9_code
def yX1_carryOverfills : MethodName := ⟨RX1, "carryOverfills", "(I)Z"⟩
abbrev cX1_carry : ByteArray := prog_3_method_10_code
def yX1_carry : MethodName := ⟨RX1, "carry", "(I)V"⟩
abbrev cX1_carried : ByteArray := prog_3_method_11_code
def yX1_carried : MethodName := ⟨RX1, "carried", "(JI)J"⟩
def RX2 : String := "ChangerFair$Custom"
def TX2 : u_T := fun k => match k with
  | 0 => ("ChangerFair$Custom", "clauseCount", "I", false)
  | 1 => ("ChangerFair$Custom", "verdicts", "[Z", true)
  | 2 => ("ChangerFair$Custom", "testCounts", "[I", true)
  | 3 => ("ChangerFair$Custom", "values", "[I", true)
  | 4 => ("ChangerFair$Custom", "signs", "[I", true)
  | _ => ("ChangerFair$Custom", "numbers", "[I", true)
def tyX2 : Nat → FieldType := fun k => match k with
  | 0 => .int
  | 1 => .array .boolean
  | 2 => .array .int
  | 3 => .array .int
  | 4 => .array .int
  | _ => .array .int
abbrev wsX20 : List Cond := u_ws RX2 TX2 6
theorem nmX2 : ∀ a, a < 6 → ∀ b, b < 6 → a ≠ b → (TX2 a).2.1 ≠ (TX2 b).2.1 := by decide +kernel
theorem tyX2_ok : ∀ k, k < 6 → parseFieldDescriptor (TX2 k).2.2.1 = some (tyX2 k) := by decide +kernel
abbrev cX2_init : ByteArray := prog_4_method_1_code
def yX2_init : MethodName := ⟨RX2, "<init>", "()V"⟩
abbrev cX2_forget : ByteArray := prog_4_method_2_code
def yX2_forget : MethodName := ⟨RX2, "forget", "()V"⟩
abbrev cX2_addClause : ByteArray := prog_4_method_3_code
def yX2_addClause : MethodName := ⟨RX2, "addClause", "(Z)V"⟩
abbrev cX2_addTest : ByteArray := prog_4_method_4_code
def yX2_addTest : MethodName := ⟨RX2, "addTest", "(III)V"⟩
abbrev cX2_bindsFor : ByteArray := prog_4_method_5_code
def yX2_bindsFor : MethodName := ⟨RX2, "bindsFor", "([I)Z"⟩
abbrev cX2_allTestsHold : ByteArray := prog_4_method_6_code
def yX2_allTestsHold : MethodName := ⟨RX2, "allTestsHold", "(I[I)Z"⟩
abbrev cX2_holds : ByteArray := prog_4_method_7_code
def yX2_holds : MethodName := ⟨RX2, "holds", "(III)Z"⟩
def RX3 : String := "ChangerFair$CustomReader"
def TX3 : u_T := fun k => match k with
  | 0 => ("ChangerFair$CustomReader", "length", "I", false)
  | 1 => ("ChangerFair$CustomReader", "faultPlace", "I", false)
  | 2 => ("ChangerFair$CustomReader", "tape", "[I", true)
  | 3 => ("ChangerFair$CustomReader", "place", "I", false)
  | 4 => ("ChangerFair$CustomReader", "word", "I", false)
  | 5 => ("ChangerFair$CustomReader", "wordPlace", "I", false)
  | _ => ("ChangerFair$CustomReader", "number", "I", false)
def tyX3 : Nat → FieldType := fun k => match k with
  | 0 => .int
  | 1 => .int
  | 2 => .array .int
  | 3 => .int
  | 4 => .int
  | 5 => .int
  | _ => .int
abbrev wsX30 : List Cond := u_ws RX3 TX3 7
theorem nmX3 : ∀ a, a < 7 → ∀ b, b < 7 → a ≠ b → (TX3 a).2.1 ≠ (TX3 b).2.1 := by decide +kernel
theorem tyX3_ok : ∀ k, k < 7 → parseFieldDescriptor (TX3 k).2.2.1 = some (tyX3 k) := by decide +kernel
abbrev cX3_init : ByteArray := prog_5_method_1_code
def yX3_init : MethodName := ⟨RX3, "<init>", "()V"⟩
abbrev cX3_hasRoomFor : ByteArray := prog_5_method_2_code
def yX3_hasRoomFor : MethodName := ⟨RX3, "hasRoomFor", "(I)Z"⟩
abbrev cX3_append : ByteArray := prog_5_method_3_code
def yX3_append : MethodName := ⟨RX3, "append", "(JI)V"⟩
abbrev cX3_readInto : ByteArray := prog_5_method_4_code
def yX3_readInto : MethodName := ⟨RX3, "readInto", "(LChangerFair$Custom;)Z"⟩
abbrev cX3_readText : ByteArray := prog_5_method_5_code
def yX3_readText : MethodName := ⟨RX3, "readText", "(LChangerFair$Custom;)Z"⟩
abbrev cX3_readClause : ByteArray := prog_5_method_6_code
def yX3_readClause : MethodName := ⟨RX3, "readClause", "(LChangerFair$Custom;)Z"⟩
abbrev cX3_readTest : ByteArray := prog_5_method_7_code
def yX3_readTest : MethodName := ⟨RX3, "readTest", "(LChangerFair$Custom;)Z"⟩
abbrev cX3_nextWord : ByteArray := prog_5_method_8_code
def yX3_nextWord : MethodName := ⟨RX3, "nextWord", "()V"⟩
abbrev cX3_isLetter : ByteArray := prog_5_method_9_code
def yX3_isLetter : MethodName := ⟨RX3, "isLetter", "(I)Z"⟩
abbrev cX3_isFigure : ByteArray := prog_5_method_10_code
def yX3_isFigure : MethodName := ⟨RX3, "isFigure", "(I)Z"⟩
abbrev cX3_signWord : ByteArray := prog_5_method_11_code
def yX3_signWord : MethodName := ⟨RX3, "signWord", "(I)I"⟩
abbrev cX3_readFigures : ByteArray := prog_5_method_12_code
def yX3_readFigures : MethodName := ⟨RX3, "readFigures", "()V"⟩
abbrev cX3_readLetters : ByteArray := prog_5_method_13_code
def yX3_readLetters : MethodName := ⟨RX3, "readLetters", "()V"⟩
abbrev cX3_letterWord : ByteArray := prog_5_method_14_code
def yX3_letterWord : MethodName := ⟨RX3, "letterWord", "()I"⟩
abbrev cX3_spells : ByteArray := prog_5_method_15_code
def yX3_spells : MethodName := ⟨RX3, "spells", "(Ljava/lang/String;)Z"⟩
def RX4 : String := "ChangerFair$Parting"
def TX4 : u_T := fun k => match k with
  | 0 => ("ChangerFair$Parting", "pledged", "[J", true)
  | _ => ("ChangerFair$Parting", "rest", "[J", true)
def tyX4 : Nat → FieldType := fun k => match k with
  | 0 => .array .long
  | _ => .array .long
abbrev wsX40 : List Cond := u_ws RX4 TX4 2
theorem nmX4 : ∀ a, a < 2 → ∀ b, b < 2 → a ≠ b → (TX4 a).2.1 ≠ (TX4 b).2.1 := by decide +kernel
theorem tyX4_ok : ∀ k, k < 2 → parseFieldDescriptor (TX4 k).2.2.1 = some (tyX4 k) := by decide +kernel
abbrev cX4_init : ByteArray := prog_6_method_1_code
def yX4_init : MethodName := ⟨RX4, "<init>", "()V"⟩
abbrev cX4_begin : ByteArray := prog_6_method_2_code
def yX4_begin : MethodName := ⟨RX4, "begin", "()V"⟩
abbrev cX4_pledge : ByteArray := prog_6_method_3_code
def yX4_pledge : MethodName := ⟨RX4, "pledge", "(II)V"⟩
abbrev cX4_claim : ByteArray := prog_6_method_4_code
def yX4_claim : MethodName := ⟨RX4, "claim", "(IJ)V"⟩
abbrev cX4_shareOf : ByteArray := prog_6_method_5_code
def yX4_shareOf : MethodName := ⟨RX4, "shareOf", "(IJ)J"⟩
abbrev cX4_total : ByteArray := prog_6_method_6_code
def yX4_total : MethodName := ⟨RX4, "total", "([J)J"⟩
abbrev cX4_shareIn : ByteArray := prog_6_method_7_code
def yX4_shareIn : MethodName := ⟨RX4, "shareIn", "([JIJ)J"⟩
abbrev cX4_portion : ByteArray := prog_6_method_8_code
def yX4_portion : MethodName := ⟨RX4, "portion", "(JJJ)J"⟩
def RX5 : String := "ChangerFair$Plan"
def TX5 : u_T := fun k => match k with
  | 0 => ("ChangerFair$Plan", "groupCount", "I", false)
  | 1 => ("ChangerFair$Plan", "paymentCount", "I", false)
  | 2 => ("ChangerFair$Plan", "left", "[J", true)
  | 3 => ("ChangerFair$Plan", "sums", "[J", true)
  | 4 => ("ChangerFair$Plan", "zeroSets", "[I", true)
  | 5 => ("ChangerFair$Plan", "mostGroups", "[I", true)
  | 6 => ("ChangerFair$Plan", "payers", "[I", true)
  | 7 => ("ChangerFair$Plan", "payees", "[I", true)
  | 8 => ("ChangerFair$Plan", "amounts", "[J", true)
  | 9 => ("ChangerFair$Plan", "zeroSetCount", "I", false)
  | _ => ("ChangerFair$Plan", "changesSeen", "J", false)
def tyX5 : Nat → FieldType := fun k => match k with
  | 0 => .int
  | 1 => .int
  | 2 => .array .long
  | 3 => .array .long
  | 4 => .array .int
  | 5 => .array .int
  | 6 => .array .int
  | 7 => .array .int
  | 8 => .array .long
  | 9 => .int
  | _ => .long
abbrev wsX50 : List Cond := u_ws RX5 TX5 11
theorem nmX5 : ∀ a, a < 11 → ∀ b, b < 11 → a ≠ b → (TX5 a).2.1 ≠ (TX5 b).2.1 := by decide +kernel
theorem tyX5_ok : ∀ k, k < 11 → parseFieldDescriptor (TX5 k).2.2.1 = some (tyX5 k) := by decide +kernel
abbrev cX5_init : ByteArray := prog_7_method_1_code
def yX5_init : MethodName := ⟨RX5, "<init>", "()V"⟩
abbrev cX5_refresh : ByteArray := prog_7_method_2_code
def yX5_refresh : MethodName := ⟨RX5, "refresh", "(LChangerFair$Book;)V"⟩
abbrev cX5_hasPayment : ByteArray := prog_7_method_3_code
def yX5_hasPayment : MethodName := ⟨RX5, "hasPayment", "(I)Z"⟩
abbrev cX5_figure : ByteArray := prog_7_method_4_code
def yX5_figure : MethodName := ⟨RX5, "figure", "(II)J"⟩
abbrev cX5_readNets : ByteArray := prog_7_method_5_code
def yX5_readNets : MethodName := ⟨RX5, "readNets", "(LChangerFair$Book;)I"⟩
abbrev cX5_addUp : ByteArray := prog_7_method_6_code
def yX5_addUp : MethodName := ⟨RX5, "addUp", "()V"⟩
abbrev cX5_listZeroSets : ByteArray := prog_7_method_7_code
def yX5_listZeroSets : MethodName := ⟨RX5, "listZeroSets", "(I)V"⟩
abbrev cX5_countGroups : ByteArray := prog_7_method_8_code
def yX5_countGroups : MethodName := ⟨RX5, "countGroups", "()V"⟩
abbrev cX5_mayBeFirst : ByteArray := prog_7_method_9_code
def yX5_mayBeFirst : MethodName := ⟨RX5, "mayBeFirst", "(II)Z"⟩
abbrev cX5_firstGroup : ByteArray := prog_7_method_10_code
def yX5_firstGroup : MethodName := ⟨RX5, "firstGroup", "(I)I"⟩
abbrev cX5_payWithin : ByteArray := prog_7_method_11_code
def yX5_payWithin : MethodName := ⟨RX5, "payWithin", "(I)V"⟩
abbrev cX5_leastOf : ByteArray := prog_7_method_12_code
def yX5_leastOf : MethodName := ⟨RX5, "leastOf", "(II)I"⟩
def RX6 : String := "ChangerFair$Purses"
def TX6 : u_T := fun k => match k with
  | 0 => ("ChangerFair$Purses", "worths", "[I", true)
  | _ => ("ChangerFair$Purses", "coins", "[[I", true)
def tyX6 : Nat → FieldType := fun k => match k with
  | 0 => .array .int
  | _ => .array (.array .int)
abbrev wsX60 : List Cond := u_ws RX6 TX6 2
theorem nmX6 : ∀ a, a < 2 → ∀ b, b < 2 → a ≠ b → (TX6 a).2.1 ≠ (TX6 b).2.1 := by decide +kernel
theorem tyX6_ok : ∀ k, k < 2 → parseFieldDescriptor (TX6 k).2.2.1 = some (tyX6 k) := by decide +kernel
abbrev cX6_init : ByteArray := prog_8_method_1_code
def yX6_init : MethodName := ⟨RX6, "<init>", "()V"⟩
abbrev cX6_isKind : ByteArray := prog_8_method_2_code
def yX6_isKind : MethodName := ⟨RX6, "isKind", "(I)Z"⟩
abbrev cX6_isMeasure : ByteArray := prog_8_method_3_code
def yX6_isMeasure : MethodName := ⟨RX6, "isMeasure", "(I)Z"⟩
abbrev cX6_mint : ByteArray := prog_8_method_4_code
def yX6_mint : MethodName := ⟨RX6, "mint", "(III)V"⟩
abbrev cX6_worth : ByteArray := prog_8_method_5_code
def yX6_worth : MethodName := ⟨RX6, "worth", "(I)I"⟩
abbrev cX6_held : ByteArray := prog_8_method_6_code
def yX6_held : MethodName := ⟨RX6, "held", "(II)I"⟩
abbrev cX6_put : ByteArray := prog_8_method_7_code
def yX6_put : MethodName := ⟨RX6, "put", "(III)V"⟩
abbrev cX6_wealth : ByteArray := prog_8_method_8_code
def yX6_wealth : MethodName := ⟨RX6, "wealth", "(I)J"⟩
abbrev cX6_handOver : ByteArray := prog_8_method_9_code
def yX6_handOver : MethodName := ⟨RX6, "handOver", "(IIJ)J"⟩
abbrev cX6_dearestBut : ByteArray := prog_8_method_10_code
def yX6_dearestBut : MethodName := ⟨RX6, "dearestBut", "(I)I"⟩
def RX7 : String := "ChangerFair$Rates"
def TX7 : u_T := fun k => match k with
  | 0 => ("ChangerFair$Rates", "votes", "[[I", true)
  | 1 => ("ChangerFair$Rates", "offers", "[[I", true)
  | 2 => ("ChangerFair$Rates", "sorted", "[I", true)
  | 3 => ("ChangerFair$Rates", "bestProduct", "J", false)
  | _ => ("ChangerFair$Rates", "bestFigures", "I", false)
def tyX7 : Nat → FieldType := fun k => match k with
  | 0 => .array (.array .int)
  | 1 => .array (.array .int)
  | 2 => .array .int
  | 3 => .long
  | _ => .int
abbrev wsX70 : List Cond := u_ws RX7 TX7 5
theorem nmX7 : ∀ a, a < 5 → ∀ b, b < 5 → a ≠ b → (TX7 a).2.1 ≠ (TX7 b).2.1 := by decide +kernel
theorem tyX7_ok : ∀ k, k < 5 → parseFieldDescriptor (TX7 k).2.2.1 = some (tyX7 k) := by decide +kernel
abbrev cX7_init : ByteArray := prog_9_method_1_code
def yX7_init : MethodName := ⟨RX7, "<init>", "()V"⟩
abbrev cX7_isVote : ByteArray := prog_9_method_2_code
def yX7_isVote : MethodName := ⟨RX7, "isVote", "(I)Z"⟩
abbrev cX7_isOffer : ByteArray := prog_9_method_3_code
def yX7_isOffer : MethodName := ⟨RX7, "isOffer", "(I)Z"⟩
abbrev cX7_changeVote : ByteArray := prog_9_method_4_code
def yX7_changeVote : MethodName := ⟨RX7, "changeVote", "(III)I"⟩
abbrev cX7_changeOffer : ByteArray := prog_9_method_5_code
def yX7_changeOffer : MethodName := ⟨RX7, "changeOffer", "(III)I"⟩
abbrev cX7_middleVote : ByteArray := prog_9_method_6_code
def yX7_middleVote : MethodName := ⟨RX7, "middleVote", "(I)I"⟩
abbrev cX7_insertSorted : ByteArray := prog_9_method_7_code
def yX7_insertSorted : MethodName := ⟨RX7, "insertSorted", "(II)V"⟩
abbrev cX7_bestTurn : ByteArray := prog_9_method_8_code
def yX7_bestTurn : MethodName := ⟨RX7, "bestTurn", "()I"⟩
abbrev cX7_extendTurn : ByteArray := prog_9_method_9_code
def yX7_extendTurn : MethodName := ⟨RX7, "extendTurn", "(IIIIJI)V"⟩
abbrev cX7_closeTurn : ByteArray := prog_9_method_10_code
def yX7_closeTurn : MethodName := ⟨RX7, "closeTurn", "(JI)V"⟩
def RX8 : String := "ChangerFair"
def TX8 : u_T := fun k => match k with
  | 0 => ("ChangerFair", "findings", "[J", true)
  | 1 => ("ChangerFair", "roads", "[I", true)
  | 2 => ("ChangerFair", "seats", "[I", true)
  | 3 => ("ChangerFair", "bills", "[LChangerFair$Bill;", true)
  | 4 => ("ChangerFair", "facts", "[I", true)
  | 5 => ("ChangerFair", "told", "[I", true)
  | 6 => ("ChangerFair", "reader", "LChangerFair$CustomReader;", true)
  | 7 => ("ChangerFair", "book", "LChangerFair$Book;", true)
  | 8 => ("ChangerFair", "plan", "LChangerFair$Plan;", true)
  | 9 => ("ChangerFair", "purses", "LChangerFair$Purses;", true)
  | 10 => ("ChangerFair", "rates", "LChangerFair$Rates;", true)
  | 11 => ("ChangerFair", "parting", "LChangerFair$Parting;", true)
  | 12 => ("ChangerFair", "custom", "LChangerFair$Custom;", false)
  | 13 => ("ChangerFair", "draft", "LChangerFair$Custom;", false)
  | 14 => ("ChangerFair", "day", "I", false)
  | 15 => ("ChangerFair", "gain", "I", false)
  | 16 => ("ChangerFair", "billCount", "I", false)
  | _ => ("ChangerFair", "toldCount", "I", false)
def tyX8 : Nat → FieldType := fun k => match k with
  | 0 => .array .long
  | 1 => .array .int
  | 2 => .array .int
  | 3 => .array (.object "ChangerFair$Bill")
  | 4 => .array .int
  | 5 => .array .int
  | 6 => .object "ChangerFair$CustomReader"
  | 7 => .object "ChangerFair$Book"
  | 8 => .object "ChangerFair$Plan"
  | 9 => .object "ChangerFair$Purses"
  | 10 => .object "ChangerFair$Rates"
  | 11 => .object "ChangerFair$Parting"
  | 12 => .object "ChangerFair$Custom"
  | 13 => .object "ChangerFair$Custom"
  | 14 => .int
  | 15 => .int
  | 16 => .int
  | _ => .int
abbrev wsX80 : List Cond := u_ws RX8 TX8 18
theorem nmX8 : ∀ a, a < 18 → ∀ b, b < 18 → a ≠ b → (TX8 a).2.1 ≠ (TX8 b).2.1 := by decide +kernel
theorem tyX8_ok : ∀ k, k < 18 → parseFieldDescriptor (TX8 k).2.2.1 = some (tyX8 k) := by decide +kernel
abbrev cX8_init : ByteArray := prog_1_method_1_code
def yX8_init : MethodName := ⟨RX8, "<init>", "()V"⟩
abbrev cX8_days : ByteArray := prog_1_method_2_code
def yX8_days : MethodName := ⟨RX8, "days", "(I)J"⟩
abbrev cX8_gain : ByteArray := prog_1_method_3_code
def yX8_gain : MethodName := ⟨RX8, "gain", "(I)J"⟩
abbrev cX8_road : ByteArray := prog_1_method_4_code
def yX8_road : MethodName := ⟨RX8, "road", "(II)J"⟩
abbrev cX8_seat : ByteArray := prog_1_method_5_code
def yX8_seat : MethodName := ⟨RX8, "seat", "(II)J"⟩
abbrev cX8_draw : ByteArray := prog_1_method_6_code
def yX8_draw : MethodName := ⟨RX8, "draw", "(IIIII)J"⟩
abbrev cX8_pass : ByteArray := prog_1_method_7_code
def yX8_pass : MethodName := ⟨RX8, "pass", "(II)J"⟩
abbrev cX8_take : ByteArray := prog_1_method_8_code
def yX8_take : MethodName := ⟨RX8, "take", "(IZ)J"⟩
abbrev cX8_pay : ByteArray := prog_1_method_9_code
def yX8_pay : MethodName := ⟨RX8, "pay", "(I)J"⟩
abbrev cX8_protest : ByteArray := prog_1_method_10_code
def yX8_protest : MethodName := ⟨RX8, "protest", "(I)J"⟩
abbrev cX8_recourse : ByteArray := prog_1_method_11_code
def yX8_recourse : MethodName := ⟨RX8, "recourse", "(II)J"⟩
abbrev cX8_about : ByteArray := prog_1_method_12_code
def yX8_about : MethodName := ⟨RX8, "about", "(II)J"⟩
abbrev cX8_as : ByteArray := prog_1_method_13_code
def yX8_as : MethodName := ⟨RX8, "as", "(II)J"⟩
abbrev cX8_knows : ByteArray := prog_1_method_14_code
def yX8_knows : MethodName := ⟨RX8, "knows", "(III)J"⟩
abbrev cX8_feed : ByteArray := prog_1_method_15_code
def yX8_feed : MethodName := ⟨RX8, "feed", "(JI)J"⟩
abbrev cX8_read : ByteArray := prog_1_method_16_code
def yX8_read : MethodName := ⟨RX8, "read", "()J"⟩
abbrev cX8_fault : ByteArray := prog_1_method_17_code
def yX8_fault : MethodName := ⟨RX8, "fault", "()J"⟩
abbrev cX8_binds : ByteArray := prog_1_method_18_code
def yX8_binds : MethodName := ⟨RX8, "binds", "(IIIII)J"⟩
abbrev cX8_owe : ByteArray := prog_1_method_19_code
def yX8_owe : MethodName := ⟨RX8, "owe", "(III)J"⟩
abbrev cX8_owes : ByteArray := prog_1_method_20_code
def yX8_owes : MethodName := ⟨RX8, "owes", "(II)J"⟩
abbrev cX8_net : ByteArray := prog_1_method_21_code
def yX8_net : MethodName := ⟨RX8, "net", "(I)J"⟩
abbrev cX8_plan : ByteArray := prog_1_method_22_code
def yX8_plan : MethodName := ⟨RX8, "plan", "(Z)J"⟩
abbrev cX8_payment : ByteArray := prog_1_method_23_code
def yX8_payment : MethodName := ⟨RX8, "payment", "(II)J"⟩
abbrev cX8_clear : ByteArray := prog_1_method_24_code
def yX8_clear : MethodName := ⟨RX8, "clear", "()J"⟩
abbrev cX8_coin : ByteArray := prog_1_method_25_code
def yX8_coin : MethodName := ⟨RX8, "coin", "(III)J"⟩
abbrev cX8_purse : ByteArray := prog_1_method_26_code
def yX8_purse : MethodName := ⟨RX8, "purse", "(III)J"⟩
abbrev cX8_has : ByteArray := prog_1_method_27_code
def yX8_has : MethodName := ⟨RX8, "has", "(II)J"⟩
abbrev cX8_settle : ByteArray := prog_1_method_28_code
def yX8_settle : MethodName := ⟨RX8, "settle", "(II)J"⟩
abbrev cX8_vote : ByteArray := prog_1_method_29_code
def yX8_vote : MethodName := ⟨RX8, "vote", "(III)J"⟩
abbrev cX8_rate : ByteArray := prog_1_method_30_code
def yX8_rate : MethodName := ⟨RX8, "rate", "(I)J"⟩
abbrev cX8_offer : ByteArray := prog_1_method_31_code
def yX8_offer : MethodName := ⟨RX8, "offer", "(III)J"⟩
abbrev cX8_turn : ByteArray := prog_1_method_32_code
def yX8_turn : MethodName := ⟨RX8, "turn", "()J"⟩
abbrev cX8_part : ByteArray := prog_1_method_33_code
def yX8_part : MethodName := ⟨RX8, "part", "(III)J"⟩
abbrev cX8_tell : ByteArray := prog_1_method_34_code
def yX8_tell : MethodName := ⟨RX8, "tell", "(I)J"⟩
abbrev cX8_check : ByteArray := prog_1_method_35_code
def yX8_check : MethodName := ⟨RX8, "check", "()J"⟩
abbrev cX8_count : ByteArray := prog_1_method_36_code
def yX8_count : MethodName := ⟨RX8, "count", "(I)J"⟩
abbrev cX8_found : ByteArray := prog_1_method_37_code
def yX8_found : MethodName := ⟨RX8, "found", "(I)J"⟩
abbrev cX8_finding : ByteArray := prog_1_method_38_code
def yX8_finding : MethodName := ⟨RX8, "finding", "(I)J"⟩
abbrev cX8_isHouse : ByteArray := prog_1_method_39_code
def yX8_isHouse : MethodName := ⟨RX8, "isHouse", "(I)Z"⟩
abbrev cX8_areTwoHouses : ByteArray := prog_1_method_40_code
def yX8_areTwoHouses : MethodName := ⟨RX8, "areTwoHouses", "(II)Z"⟩
abbrev cX8_isTown : ByteArray := prog_1_method_41_code
def yX8_isTown : MethodName := ⟨RX8, "isTown", "(I)Z"⟩
abbrev cX8_isBillKind : ByteArray := prog_1_method_42_code
def yX8_isBillKind : MethodName := ⟨RX8, "isBillKind", "(I)Z"⟩
abbrev cX8_isTakingDay : ByteArray := prog_1_method_43_code
def yX8_isTakingDay : MethodName := ⟨RX8, "isTakingDay", "()Z"⟩
abbrev cX8_billAt : ByteArray := prog_1_method_44_code
def yX8_billAt : MethodName := ⟨RX8, "billAt", "(I)LChangerFair$Bill;"⟩
abbrev cX8_roadOf : ByteArray := prog_1_method_45_code
def yX8_roadOf : MethodName := ⟨RX8, "roadOf", "(I)I"⟩
abbrev cX8_overfills : ByteArray := prog_1_method_46_code
def yX8_overfills : MethodName := ⟨RX8, "overfills", "(LChangerFair$Bill;I)Z"⟩
abbrev cX8_charge : ByteArray := prog_1_method_47_code
def yX8_charge : MethodName := ⟨RX8, "charge", "(LChangerFair$Bill;I)V"⟩
abbrev cX8_bindsEndorser : ByteArray := prog_1_method_48_code
def yX8_bindsEndorser : MethodName := ⟨RX8, "bindsEndorser", "(LChangerFair$Bill;I)Z"⟩
abbrev cX8_customBinds : ByteArray := prog_1_method_49_code
def yX8_customBinds : MethodName := ⟨RX8, "customBinds", "(IIIII)Z"⟩
abbrev cX8_toldPayment : ByteArray := prog_1_method_50_code
def yX8_toldPayment : MethodName := ⟨RX8, "toldPayment", "(II)Z"⟩
def RX9 : String := "ChangerFairModel"
def TX9 : u_T := fun k => match k with
  | 0 => ("ChangerFairModel", "day", "J", false)
  | 1 => ("ChangerFairModel", "gain", "I", false)
  | 2 => ("ChangerFairModel", "roads", "[I", true)
  | 3 => ("ChangerFairModel", "seats", "[I", true)
  | 4 => ("ChangerFairModel", "bills", "I", false)
  | 5 => ("ChangerFairModel", "kindOf", "[I", true)
  | 6 => ("ChangerFairModel", "drawerOf", "[I", true)
  | 7 => ("ChangerFairModel", "draweeOf", "[I", true)
  | 8 => ("ChangerFairModel", "holderOf", "[I", true)
  | 9 => ("ChangerFairModel", "amountOf", "[I", true)
  | 10 => ("ChangerFairModel", "stateOf", "[I", true)
  | 11 => ("ChangerFairModel", "endorsers", "[I", true)
  | 12 => ("ChangerFairModel", "endorserOf", "[I", true)
  | 13 => ("ChangerFairModel", "began", "[J", true)
  | 14 => ("ChangerFairModel", "byPay", "[Z", true)
  | 15 => ("ChangerFairModel", "debts", "[J", true)
  | 16 => ("ChangerFairModel", "worth", "[I", true)
  | 17 => ("ChangerFairModel", "purses", "[I", true)
  | 18 => ("ChangerFairModel", "votes", "[I", true)
  | 19 => ("ChangerFairModel", "offers", "[I", true)
  | 20 => ("ChangerFairModel", "tells", "I", false)
  | 21 => ("ChangerFairModel", "told", "[I", true)
  | 22 => ("ChangerFairModel", "findings", "[J", true)
  | 23 => ("ChangerFairModel", "clauses", "I", false)
  | 24 => ("ChangerFairModel", "binding", "[Z", true)
  | 25 => ("ChangerFairModel", "tests", "[I", true)
  | 26 => ("ChangerFairModel", "valueOf", "[I", true)
  | 27 => ("ChangerFairModel", "howOf", "[I", true)
  | 28 => ("ChangerFairModel", "numberOf", "[I", true)
  | 29 => ("ChangerFairModel", "newClauses", "I", false)
  | 30 => ("ChangerFairModel", "newBinding", "[Z", true)
  | 31 => ("ChangerFairModel", "newTests", "[I", true)
  | 32 => ("ChangerFairModel", "newValue", "[I", true)
  | 33 => ("ChangerFairModel", "newHow", "[I", true)
  | 34 => ("ChangerFairModel", "newNumber", "[I", true)
  | 35 => ("ChangerFairModel", "tape", "[I", true)
  | 36 => ("ChangerFairModel", "taped", "I", false)
  | 37 => ("ChangerFairModel", "faultAt", "J", false)
  | 38 => ("ChangerFairModel", "from", "I", false)
  | 39 => ("ChangerFairModel", "next", "I", false)
  | 40 => ("ChangerFairModel", "word", "I", false)
  | 41 => ("ChangerFairModel", "value", "I", false)
  | 42 => ("ChangerFairModel", "sums", "[J", true)
  | 43 => ("ChangerFairModel", "most", "[I", true)
  | 44 => ("ChangerFairModel", "groups", "I", false)
  | 45 => ("ChangerFairModel", "group", "[I", true)
  | 46 => ("ChangerFairModel", "payments", "I", false)
  | 47 => ("ChangerFairModel", "payer", "[I", true)
  | 48 => ("ChangerFairModel", "payee", "[I", true)
  | 49 => ("ChangerFairModel", "paid", "[J", true)
  | 50 => ("ChangerFairModel", "nets", "[J", true)
  | 51 => ("ChangerFairModel", "bestProduct", "J", false)
  | 52 => ("ChangerFairModel", "bestTurn", "J", false)
  | 53 => ("ChangerFairModel", "claims", "[J", true)
  | _ => ("ChangerFairModel", "gets", "[J", true)
def tyX9 : Nat → FieldType := fun k => match k with
  | 0 => .long
  | 1 => .int
  | 2 => .array .int
  | 3 => .array .int
  | 4 => .int
  | 5 => .array .int
  | 6 => .array .int
  | 7 => .array .int
  | 8 => .array .int
  | 9 => .array .int
  | 10 => .array .int
  | 11 => .array .int
  | 12 => .array .int
  | 13 => .array .long
  | 14 => .array .boolean
  | 15 => .array .long
  | 16 => .array .int
  | 17 => .array .int
  | 18 => .array .int
  | 19 => .array .int
  | 20 => .int
  | 21 => .array .int
  | 22 => .array .long
  | 23 => .int
  | 24 => .array .boolean
  | 25 => .array .int
  | 26 => .array .int
  | 27 => .array .int
  | 28 => .array .int
  | 29 => .int
  | 30 => .array .boolean
  | 31 => .array .int
  | 32 => .array .int
  | 33 => .array .int
  | 34 => .array .int
  | 35 => .array .int
  | 36 => .int
  | 37 => .long
  | 38 => .int
  | 39 => .int
  | 40 => .int
  | 41 => .int
  | 42 => .array .long
  | 43 => .array .int
  | 44 => .int
  | 45 => .array .int
  | 46 => .int
  | 47 => .array .int
  | 48 => .array .int
  | 49 => .array .long
  | 50 => .array .long
  | 51 => .long
  | 52 => .long
  | 53 => .array .long
  | _ => .array .long
abbrev wsX90 : List Cond := u_ws RX9 TX9 55
theorem nmX9 : ∀ a, a < 55 → ∀ b, b < 55 → a ≠ b → (TX9 a).2.1 ≠ (TX9 b).2.1 := by decide +kernel
theorem tyX9_ok : ∀ k, k < 55 → parseFieldDescriptor (TX9 k).2.2.1 = some (tyX9 k) := by decide +kernel
abbrev cX9_init : ByteArray := prog_11_method_1_code
def yX9_init : MethodName := ⟨RX9, "<init>", "()V"⟩
abbrev cX9_finding : ByteArray := prog_11_method_2_code
def yX9_finding : MethodName := ⟨RX9, "finding", "(J)J"⟩
abbrev cX9_in : ByteArray := prog_11_method_3_code
def yX9_in : MethodName := ⟨RX9, "in", "(III)Z"⟩
abbrev cX9_isHouse : ByteArray := prog_11_method_4_code
def yX9_isHouse : MethodName := ⟨RX9, "isHouse", "(I)Z"⟩
abbrev cX9_isTown : ByteArray := prog_11_method_5_code
def yX9_isTown : MethodName := ⟨RX9, "isTown", "(I)Z"⟩
abbrev cX9_isBill : ByteArray := prog_11_method_6_code
def yX9_isBill : MethodName := ⟨RX9, "isBill", "(I)Z"⟩
abbrev cX9_carry : ByteArray := prog_11_method_7_code
def yX9_carry : MethodName := ⟨RX9, "carry", "()Z"⟩
abbrev cX9_days : ByteArray := prog_11_method_8_code
def yX9_days : MethodName := ⟨RX9, "days", "(I)J"⟩
abbrev cX9_gain : ByteArray := prog_11_method_9_code
def yX9_gain : MethodName := ⟨RX9, "gain", "(I)J"⟩
abbrev cX9_road : ByteArray := prog_11_method_10_code
def yX9_road : MethodName := ⟨RX9, "road", "(II)J"⟩
abbrev cX9_seat : ByteArray := prog_11_method_11_code
def yX9_seat : MethodName := ⟨RX9, "seat", "(II)J"⟩
abbrev cX9_becomes : ByteArray := prog_11_method_12_code
def yX9_becomes : MethodName := ⟨RX9, "becomes", "(II)V"⟩
abbrev cX9_draw : ByteArray := prog_11_method_13_code
def yX9_draw : MethodName := ⟨RX9, "draw", "(IIIII)J"⟩
abbrev cX9_pass : ByteArray := prog_11_method_14_code
def yX9_pass : MethodName := ⟨RX9, "pass", "(II)J"⟩
abbrev cX9_isEarly : ByteArray := prog_11_method_15_code
def yX9_isEarly : MethodName := ⟨RX9, "isEarly", "()Z"⟩
abbrev cX9_take : ByteArray := prog_11_method_16_code
def yX9_take : MethodName := ⟨RX9, "take", "(IZ)J"⟩
abbrev cX9_would : ByteArray := prog_11_method_17_code
def yX9_would : MethodName := ⟨RX9, "would", "(IIJ)J"⟩
abbrev cX9_isTooMuch : ByteArray := prog_11_method_18_code
def yX9_isTooMuch : MethodName := ⟨RX9, "isTooMuch", "(IIJ)Z"⟩
abbrev cX9_comesToOwe : ByteArray := prog_11_method_19_code
def yX9_comesToOwe : MethodName := ⟨RX9, "comesToOwe", "(IIJ)V"⟩
abbrev cX9_pay : ByteArray := prog_11_method_20_code
def yX9_pay : MethodName := ⟨RX9, "pay", "(I)J"⟩
abbrev cX9_protest : ByteArray := prog_11_method_21_code
def yX9_protest : MethodName := ⟨RX9, "protest", "(I)J"⟩
abbrev cX9_recourse : ByteArray := prog_11_method_22_code
def yX9_recourse : MethodName := ⟨RX9, "recourse", "(II)J"⟩
abbrev cX9_about : ByteArray := prog_11_method_23_code
def yX9_about : MethodName := ⟨RX9, "about", "(II)J"⟩
abbrev cX9_as : ByteArray := prog_11_method_24_code
def yX9_as : MethodName := ⟨RX9, "as", "(II)J"⟩
abbrev cX9_knows : ByteArray := prog_11_method_25_code
def yX9_knows : MethodName := ⟨RX9, "knows", "(III)J"⟩
abbrev cX9_feed : ByteArray := prog_11_method_26_code
def yX9_feed : MethodName := ⟨RX9, "feed", "(JI)J"⟩
abbrev cX9_at : ByteArray := prog_11_method_27_code
def yX9_at : MethodName := ⟨RX9, "at", "(I)I"⟩
abbrev cX9_isLetter : ByteArray := prog_11_method_28_code
def yX9_isLetter : MethodName := ⟨RX9, "isLetter", "(I)Z"⟩
abbrev cX9_isFigure : ByteArray := prog_11_method_29_code
def yX9_isFigure : MethodName := ⟨RX9, "isFigure", "(I)Z"⟩
abbrev cX9_go : ByteArray := prog_11_method_30_code
def yX9_go : MethodName := ⟨RX9, "go", "()V"⟩
abbrev cX9_letters : ByteArray := prog_11_method_31_code
def yX9_letters : MethodName := ⟨RX9, "letters", "()V"⟩
abbrev cX9_wordOf : ByteArray := prog_11_method_32_code
def yX9_wordOf : MethodName := ⟨RX9, "wordOf", "(J)I"⟩
abbrev cX9_wrong : ByteArray := prog_11_method_33_code
def yX9_wrong : MethodName := ⟨RX9, "wrong", "()Z"⟩
abbrev cX9_test : ByteArray := prog_11_method_34_code
def yX9_test : MethodName := ⟨RX9, "test", "()Z"⟩
abbrev cX9_clause : ByteArray := prog_11_method_35_code
def yX9_clause : MethodName := ⟨RX9, "clause", "()Z"⟩
abbrev cX9_text : ByteArray := prog_11_method_36_code
def yX9_text : MethodName := ⟨RX9, "text", "()Z"⟩
abbrev cX9_read : ByteArray := prog_11_method_37_code
def yX9_read : MethodName := ⟨RX9, "read", "()J"⟩
abbrev cX9_fault : ByteArray := prog_11_method_38_code
def yX9_fault : MethodName := ⟨RX9, "fault", "()J"⟩
abbrev cX9_isBound : ByteArray := prog_11_method_39_code
def yX9_isBound : MethodName := ⟨RX9, "isBound", "(JIIII)Z"⟩
abbrev cX9_binds : ByteArray := prog_11_method_40_code
def yX9_binds : MethodName := ⟨RX9, "binds", "(IIIII)J"⟩
abbrev cX9_owe : ByteArray := prog_11_method_41_code
def yX9_owe : MethodName := ⟨RX9, "owe", "(III)J"⟩
abbrev cX9_owes : ByteArray := prog_11_method_42_code
def yX9_owes : MethodName := ⟨RX9, "owes", "(II)J"⟩
abbrev cX9_netOf : ByteArray := prog_11_method_43_code
def yX9_netOf : MethodName := ⟨RX9, "netOf", "(I)J"⟩
abbrev cX9_net : ByteArray := prog_11_method_44_code
def yX9_net : MethodName := ⟨RX9, "net", "(I)J"⟩
abbrev cX9_findMost : ByteArray := prog_11_method_45_code
def yX9_findMost : MethodName := ⟨RX9, "findMost", "()V"⟩
abbrev cX9_findPlan : ByteArray := prog_11_method_46_code
def yX9_findPlan : MethodName := ⟨RX9, "findPlan", "()V"⟩
abbrev cX9_leastOf : ByteArray := prog_11_method_47_code
def yX9_leastOf : MethodName := ⟨RX9, "leastOf", "(II)I"⟩
abbrev cX9_payOut : ByteArray := prog_11_method_48_code
def yX9_payOut : MethodName := ⟨RX9, "payOut", "(I)V"⟩
abbrev cX9_plan : ByteArray := prog_11_method_49_code
def yX9_plan : MethodName := ⟨RX9, "plan", "(Z)J"⟩
abbrev cX9_paymentOf : ByteArray := prog_11_method_50_code
def yX9_paymentOf : MethodName := ⟨RX9, "paymentOf", "(II)J"⟩
abbrev cX9_payment : ByteArray := prog_11_method_51_code
def yX9_payment : MethodName := ⟨RX9, "payment", "(II)J"⟩
abbrev cX9_owedInAll : ByteArray := prog_11_method_52_code
def yX9_owedInAll : MethodName := ⟨RX9, "owedInAll", "()J"⟩
abbrev cX9_clear : ByteArray := prog_11_method_53_code
def yX9_clear : MethodName := ⟨RX9, "clear", "()J"⟩
abbrev cX9_coin : ByteArray := prog_11_method_54_code
def yX9_coin : MethodName := ⟨RX9, "coin", "(III)J"⟩
abbrev cX9_purse : ByteArray := prog_11_method_55_code
def yX9_purse : MethodName := ⟨RX9, "purse", "(III)J"⟩
abbrev cX9_has : ByteArray := prog_11_method_56_code
def yX9_has : MethodName := ⟨RX9, "has", "(II)J"⟩
abbrev cX9_settle : ByteArray := prog_11_method_57_code
def yX9_settle : MethodName := ⟨RX9, "settle", "(II)J"⟩
abbrev cX9_vote : ByteArray := prog_11_method_58_code
def yX9_vote : MethodName := ⟨RX9, "vote", "(III)J"⟩
abbrev cX9_rate : ByteArray := prog_11_method_59_code
def yX9_rate : MethodName := ⟨RX9, "rate", "(I)J"⟩
abbrev cX9_offer : ByteArray := prog_11_method_60_code
def yX9_offer : MethodName := ⟨RX9, "offer", "(III)J"⟩
abbrev cX9_look : ByteArray := prog_11_method_61_code
def yX9_look : MethodName := ⟨RX9, "look", "(IIII)V"⟩
abbrev cX9_turn : ByteArray := prog_11_method_62_code
def yX9_turn : MethodName := ⟨RX9, "turn", "()J"⟩
abbrev cX9_pledged : ByteArray := prog_11_method_63_code
def yX9_pledged : MethodName := ⟨RX9, "pledged", "(II)J"⟩
abbrev cX9_share : ByteArray := prog_11_method_64_code
def yX9_share : MethodName := ⟨RX9, "share", "(J)J"⟩
abbrev cX9_part : ByteArray := prog_11_method_65_code
def yX9_part : MethodName := ⟨RX9, "part", "(III)J"⟩
abbrev cX9_tell : ByteArray := prog_11_method_66_code
def yX9_tell : MethodName := ⟨RX9, "tell", "(I)J"⟩
abbrev cX9_check : ByteArray := prog_11_method_67_code
def yX9_check : MethodName := ⟨RX9, "check", "()J"⟩
abbrev cX9_count : ByteArray := prog_11_method_68_code
def yX9_count : MethodName := ⟨RX9, "count", "(I)J"⟩
abbrev cX9_found : ByteArray := prog_11_method_69_code
def yX9_found : MethodName := ⟨RX9, "found", "(I)J"⟩
def RJ9 : String := "java/lang/Math"
def TJ9 : u_T := fun k => match k with
  | _ => ("", "", "", false)
def tyJ9 : Nat → FieldType := fun k => match k with
  | _ => .int
abbrev wsJ90 : List Cond := u_ws RJ9 TJ9 0
theorem nmJ9 : ∀ a, a < 0 → ∀ b, b < 0 → a ≠ b → (TJ9 a).2.1 ≠ (TJ9 b).2.1 := by decide +kernel
theorem tyJ9_ok : ∀ k, k < 0 → parseFieldDescriptor (TJ9 k).2.2.1 = some (tyJ9 k) := by decide +kernel
abbrev cJ9_max_7cf53 : ByteArray := prog_12_method_65_code
def yJ9_max_7cf53 : MethodName := ⟨RJ9, "max", "(II)I"⟩
abbrev cJ9_max_f86c9 : ByteArray := prog_12_method_66_code
def yJ9_max_f86c9 : MethodName := ⟨RJ9, "max", "(JJ)J"⟩
abbrev cJ9_min_7cf53 : ByteArray := prog_12_method_69_code
def yJ9_min_7cf53 : MethodName := ⟨RJ9, "min", "(II)I"⟩
abbrev cJ9_min_f86c9 : ByteArray := prog_12_method_70_code
def yJ9_min_f86c9 : MethodName := ⟨RJ9, "min", "(JJ)J"⟩
def RJ0 : String := "java/lang/String"
def TJ0 : u_T := fun k => match k with
  | _ => ("", "", "", false)
def tyJ0 : Nat → FieldType := fun k => match k with
  | _ => .int
abbrev wsJ00 : List Cond := u_ws RJ0 TJ0 0
theorem nmJ0 : ∀ a, a < 0 → ∀ b, b < 0 → a ≠ b → (TJ0 a).2.1 ≠ (TJ0 b).2.1 := by decide +kernel
theorem tyJ0_ok : ∀ k, k < 0 → parseFieldDescriptor (TJ0 k).2.2.1 = some (tyJ0 k) := by decide +kernel
abbrev cJ0_length_8abf5 : ByteArray := prog_13_method_54_code
def yJ0_length_8abf5 : MethodName := ⟨RJ0, "length", "()I"⟩
abbrev cJ0_charAt_5068e : ByteArray := prog_13_method_56_code
def yJ0_charAt_5068e : MethodName := ⟨RJ0, "charAt", "(I)C"⟩
abbrev cJ0_coder_7d493 : ByteArray := prog_13_method_152_code
def yJ0_coder_7d493 : MethodName := ⟨RJ0, "coder", "()B"⟩
abbrev cJ0_isLatin1_aae02 : ByteArray := prog_13_method_154_code
def yJ0_isLatin1_aae02 : MethodName := ⟨RJ0, "isLatin1", "()Z"⟩
abbrev cJ0_checkIndex_df160 : ByteArray := prog_13_method_155_code
def yJ0_checkIndex_df160 : MethodName := ⟨RJ0, "checkIndex", "(II)V"⟩
def RJ1 : String := "java/lang/StringLatin1"
def TJ1 : u_T := fun k => match k with
  | _ => ("", "", "", false)
def tyJ1 : Nat → FieldType := fun k => match k with
  | _ => .int
abbrev wsJ10 : List Cond := u_ws RJ1 TJ1 0
theorem nmJ1 : ∀ a, a < 0 → ∀ b, b < 0 → a ≠ b → (TJ1 a).2.1 ≠ (TJ1 b).2.1 := by decide +kernel
theorem tyJ1_ok : ∀ k, k < 0 → parseFieldDescriptor (TJ1 k).2.2.1 = some (tyJ1 k) := by decide +kernel
abbrev cJ1_charAt_3b067 : ByteArray := prog_14_method_2_code
def yJ1_charAt_3b067 : MethodName := ⟨RJ1, "charAt", "([BI)C"⟩
def RJ2 : String := "java/lang/StringUTF16"
def TJ2 : u_T := fun k => match k with
  | _ => ("", "", "", false)
def tyJ2 : Nat → FieldType := fun k => match k with
  | _ => .int
abbrev wsJ20 : List Cond := u_ws RJ2 TJ2 0
theorem nmJ2 : ∀ a, a < 0 → ∀ b, b < 0 → a ≠ b → (TJ2 a).2.1 ≠ (TJ2 b).2.1 := by decide +kernel
theorem tyJ2_ok : ∀ k, k < 0 → parseFieldDescriptor (TJ2 k).2.2.1 = some (tyJ2 k) := by decide +kernel
abbrev cJ2_getChar_3b067 : ByteArray := prog_15_method_5_code
def yJ2_getChar_3b067 : MethodName := ⟨RJ2, "getChar", "([BI)C"⟩
abbrev cJ2_length_9d52b : ByteArray := prog_15_method_6_code
def yJ2_length_9d52b : MethodName := ⟨RJ2, "length", "([B)I"⟩
abbrev cJ2_charAt_3b067 : ByteArray := prog_15_method_83_code
def yJ2_charAt_3b067 : MethodName := ⟨RJ2, "charAt", "([BI)C"⟩
abbrev cJ2_checkIndex_2214a : ByteArray := prog_15_method_91_code
def yJ2_checkIndex_2214a : MethodName := ⟨RJ2, "checkIndex", "(I[B)V"⟩
def RJ3 : String := "jdk/internal/util/Preconditions"
def TJ3 : u_T := fun k => match k with
  | _ => ("", "", "", false)
def tyJ3 : Nat → FieldType := fun k => match k with
  | _ => .int
abbrev wsJ30 : List Cond := u_ws RJ3 TJ3 0
theorem nmJ3 : ∀ a, a < 0 → ∀ b, b < 0 → a ≠ b → (TJ3 a).2.1 ≠ (TJ3 b).2.1 := by decide +kernel
theorem tyJ3_ok : ∀ k, k < 0 → parseFieldDescriptor (TJ3 k).2.2.1 = some (tyJ3 k) := by decide +kernel
abbrev cJ3_checkIndex_8e157 : ByteArray := prog_16_method_11_code
def yJ3_checkIndex_8e157 : MethodName := ⟨RJ3, "checkIndex", "(IILjava/util/function/BiFunction;)I"⟩
def RL : String := "ChangerFairLaw"
abbrev cL_law : ByteArray := code
def yL_law : MethodName := ⟨RL, "law", "([I)Z"⟩
def wsX0_init : List Cond := .code yX0_init cX0_init 7 none :: ([.methodLink RX0 1 objectInit, .instanceMethod objectInit, .code objectInit ⟨#[0xb1]⟩ 1 none, .arrayClass .int, .fieldLink RX0 9 "ChangerFair$Bill" "endorsers" "[I", .fieldLink RX0 13 "ChangerFair$Bill" "began" "[I", .fieldLink RX0 16 "ChangerFair$Bill" "kind" "I", .fieldLink RX0 20 "ChangerFair$Bill" "drawer" "I", .fieldLink RX0 23 "ChangerFair$Bill" "drawee" "I", .fieldLink RX0 26 "ChangerFair$Bill" "holder" "I", .fieldLink RX0 29 "ChangerFair$Bill" "amount" "I"] ++ wsX00)
def wsX0_become : List Cond := .code yX0_become cX0_become 3 none :: ([.fieldLink RX0 32 "ChangerFair$Bill" "state" "I", .fieldLink RX0 13 "ChangerFair$Bill" "began" "[I"] ++ wsX00)
def wsX0_stateDay : List Cond := .code yX0_stateDay cX0_stateDay 1 (some .int) :: ([.fieldLink RX0 13 "ChangerFair$Bill" "began" "[I", .fieldLink RX0 32 "ChangerFair$Bill" "state" "I"] ++ wsX00)
def wsX0_daysLate : List Cond := .code yX0_daysLate cX0_daysLate 1 (some .int) :: ([.fieldLink RX0 13 "ChangerFair$Bill" "began" "[I"] ++ wsX00)
def wsX0_latestStateBy : List Cond := .code yX0_latestStateBy cX0_latestStateBy 3 (some .int) :: ([.fieldLink RX0 13 "ChangerFair$Bill" "began" "[I"] ++ wsX00)
def wsX0_hasEndorser : List Cond := .code yX0_hasEndorser cX0_hasEndorser 2 (some .boolean) :: ([.fieldLink RX0 35 "ChangerFair$Bill" "endorserCount" "I"] ++ wsX00)
def wsX0_endorserAt : List Cond := .code yX0_endorserAt cX0_endorserAt 2 (some .int) :: ([.fieldLink RX0 9 "ChangerFair$Bill" "endorsers" "[I"] ++ wsX00)
def wsX0_hasRoomToPass : List Cond := .code yX0_hasRoomToPass cX0_hasRoomToPass 1 (some .boolean) :: ([.fieldLink RX0 16 "ChangerFair$Bill" "kind" "I", .fieldLink RX0 35 "ChangerFair$Bill" "endorserCount" "I"] ++ wsX00)
def wsX0_moveTo : List Cond := .code yX0_moveTo cX0_moveTo 2 none :: ([.fieldLink RX0 16 "ChangerFair$Bill" "kind" "I", .fieldLink RX0 35 "ChangerFair$Bill" "endorserCount" "I", .fieldLink RX0 9 "ChangerFair$Bill" "endorsers" "[I", .fieldLink RX0 26 "ChangerFair$Bill" "holder" "I"] ++ wsX00)
def wsX0_returnTo : List Cond := .code yX0_returnTo cX0_returnTo 2 none :: ([.fieldLink RX0 9 "ChangerFair$Bill" "endorsers" "[I", .fieldLink RX0 26 "ChangerFair$Bill" "holder" "I", .fieldLink RX0 35 "ChangerFair$Bill" "endorserCount" "I", .methodLink RX0 38 yX0_hasEndorser, .instanceMethod yX0_hasEndorser, .selects RX0 yX0_hasEndorser yX0_hasEndorser, .initialized RX0, .code yX0_hasEndorser cX0_hasEndorser 2 (some .boolean)] ++ wsX00)
def wsX0_pledgedBy : List Cond := .code yX0_pledgedBy cX0_pledgedBy 2 (some .boolean) :: ([.fieldLink RX0 16 "ChangerFair$Bill" "kind" "I", .fieldLink RX0 42 "ChangerFair$Bill" "paidByDrawee" "Z", .fieldLink RX0 23 "ChangerFair$Bill" "drawee" "I"] ++ wsX00)
def wsX1_init : List Cond := .code yX1_init cX1_init 1 none :: ([.methodLink RX1 3 objectInit, .instanceMethod objectInit, .code objectInit ⟨#[0xb1]⟩ 1 none, .classLink RX1 9 "[[J", .arrayClass .long, .fieldLink RX1 11 "ChangerFair$Book" "debts" "[[J"] ++ wsX10)
def wsX1_debt : List Cond := .code yX1_debt cX1_debt 3 (some .long) :: ([.fieldLink RX1 11 "ChangerFair$Book" "debts" "[[J"] ++ wsX10)
def wsX1_overfills : List Cond := .code yX1_overfills cX1_overfills 5 (some .boolean) :: ([.fieldLink RX1 11 "ChangerFair$Book" "debts" "[[J", .constantLong RX1 16 (1000000000)] ++ wsX10)
def wsX1_charge : List Cond := .code yX1_charge cX1_charge 7 none :: ([.fieldLink RX1 11 "ChangerFair$Book" "debts" "[[J", .methodLink RX1 18 Lib.MathLoose.max_long.x, .static Lib.MathLoose.max_long.x, .initialized "java/lang/Math", .code Lib.MathLoose.max_long.x Lib.MathLoose.max_long.code 4 (some .long), .fieldLink RX1 24 "ChangerFair$Book" "changes" "J"] ++ wsX10)
def wsX1_lessen : List Cond := .code yX1_lessen cX1_lessen 5 none :: ([.fieldLink RX1 11 "ChangerFair$Book" "debts" "[[J", .fieldLink RX1 24 "ChangerFair$Book" "changes" "J"] ++ wsX10)
def wsX1_wipe : List Cond := .code yX1_wipe cX1_wipe 3 none :: ([.fieldLink RX1 11 "ChangerFair$Book" "debts" "[[J", .fieldLink RX1 24 "ChangerFair$Book" "changes" "J"] ++ wsX10)
def wsX1_balance : List Cond := .code yX1_balance cX1_balance 5 (some .long) :: ([.fieldLink RX1 11 "ChangerFair$Book" "debts" "[[J"] ++ wsX10)
def wsX1_total : List Cond := .code yX1_total cX1_total 5 (some .long) :: ([.fieldLink RX1 11 "ChangerFair$Book" "debts" "[[J"] ++ wsX10)
def wsX1_carried : List Cond := .code yX1_carried cX1_carried 3 (some .long) :: ([.constantLong RX1 32 (1000)])
def wsX1_carryOverfills : List Cond := .code yX1_carryOverfills cX1_carryOverfills 4 (some .boolean) :: ([.fieldLink RX1 11 "ChangerFair$Book" "debts" "[[J", .constantLong RX1 16 (1000000000), .methodLink RX1 28 yX1_carried, .static yX1_carried, .initialized RX1, .code yX1_carried cX1_carried 3 (some .long), .constantLong RX1 32 (1000)] ++ wsX10)
def wsX1_carry : List Cond := .code yX1_carry cX1_carry 4 none :: ([.fieldLink RX1 11 "ChangerFair$Book" "debts" "[[J", .fieldLink RX1 24 "ChangerFair$Book" "changes" "J", .methodLink RX1 28 yX1_carried, .static yX1_carried, .initialized RX1, .code yX1_carried cX1_carried 3 (some .long), .constantLong RX1 32 (1000)] ++ wsX10)
def wsX2_init : List Cond := .code yX2_init cX2_init 1 none :: ([.methodLink RX2 1 objectInit, .instanceMethod objectInit, .code objectInit ⟨#[0xb1]⟩ 1 none, .arrayClass .boolean, .fieldLink RX2 9 "ChangerFair$Custom" "verdicts" "[Z", .arrayClass .int, .fieldLink RX2 13 "ChangerFair$Custom" "testCounts" "[I", .fieldLink RX2 17 "ChangerFair$Custom" "values" "[I", .fieldLink RX2 20 "ChangerFair$Custom" "signs" "[I", .fieldLink RX2 23 "ChangerFair$Custom" "numbers" "[I"] ++ wsX20)
def wsX2_forget : List Cond := .code yX2_forget cX2_forget 1 none :: ([.fieldLink RX2 26 "ChangerFair$Custom" "clauseCount" "I"] ++ wsX20)
def wsX2_addClause : List Cond := .code yX2_addClause cX2_addClause 2 none :: ([.fieldLink RX2 26 "ChangerFair$Custom" "clauseCount" "I", .fieldLink RX2 9 "ChangerFair$Custom" "verdicts" "[Z", .fieldLink RX2 13 "ChangerFair$Custom" "testCounts" "[I"] ++ wsX20)
def wsX2_addTest : List Cond := .code yX2_addTest cX2_addTest 6 none :: ([.fieldLink RX2 26 "ChangerFair$Custom" "clauseCount" "I", .fieldLink RX2 13 "ChangerFair$Custom" "testCounts" "[I", .fieldLink RX2 17 "ChangerFair$Custom" "values" "[I", .fieldLink RX2 20 "ChangerFair$Custom" "signs" "[I", .fieldLink RX2 23 "ChangerFair$Custom" "numbers" "[I"] ++ wsX20)
def wsX2_holds : List Cond := .code yX2_holds cX2_holds 3 (some .boolean) :: ([])
def wsX2_allTestsHold : List Cond := .code yX2_allTestsHold cX2_allTestsHold 5 (some .boolean) :: ([.fieldLink RX2 13 "ChangerFair$Custom" "testCounts" "[I", .fieldLink RX2 17 "ChangerFair$Custom" "values" "[I", .fieldLink RX2 20 "ChangerFair$Custom" "signs" "[I", .fieldLink RX2 23 "ChangerFair$Custom" "numbers" "[I", .methodLink RX2 34 yX2_holds, .static yX2_holds, .initialized RX2, .code yX2_holds cX2_holds 3 (some .boolean)] ++ wsX20)
def wsX2_bindsFor : List Cond := .code yX2_bindsFor cX2_bindsFor 3 (some .boolean) :: ([.fieldLink RX2 26 "ChangerFair$Custom" "clauseCount" "I", .fieldLink RX2 9 "ChangerFair$Custom" "verdicts" "[Z", .methodLink RX2 30 yX2_allTestsHold, .instanceMethod yX2_allTestsHold, .selects RX2 yX2_allTestsHold yX2_allTestsHold, .initialized RX2, .code yX2_allTestsHold cX2_allTestsHold 5 (some .boolean), .fieldLink RX2 13 "ChangerFair$Custom" "testCounts" "[I", .fieldLink RX2 17 "ChangerFair$Custom" "values" "[I", .fieldLink RX2 20 "ChangerFair$Custom" "signs" "[I", .fieldLink RX2 23 "ChangerFair$Custom" "numbers" "[I", .methodLink RX2 34 yX2_holds, .static yX2_holds, .code yX2_holds cX2_holds 3 (some .boolean)] ++ wsX20)
def wsX3_init : List Cond := .code yX3_init cX3_init 1 none :: ([.methodLink RX3 1 objectInit, .instanceMethod objectInit, .code objectInit ⟨#[0xb1]⟩ 1 none, .fieldLink RX3 9 "ChangerFair$CustomReader" "faultPlace" "I", .arrayClass .int, .fieldLink RX3 13 "ChangerFair$CustomReader" "tape" "[I"] ++ wsX30)
def wsX3_hasRoomFor : List Cond := .code yX3_hasRoomFor cX3_hasRoomFor 2 (some .boolean) :: ([.fieldLink RX3 17 "ChangerFair$CustomReader" "length" "I"] ++ wsX30)
def wsX3_append : List Cond := .code yX3_append cX3_append 5 none :: ([.fieldLink RX3 17 "ChangerFair$CustomReader" "length" "I", .fieldLink RX3 13 "ChangerFair$CustomReader" "tape" "[I"] ++ wsX30)
def wsX3_isLetter : List Cond := .code yX3_isLetter cX3_isLetter 1 (some .boolean) :: ([])
def wsJ0_coder_7d493 : List Cond := .code yJ0_coder_7d493 cJ0_coder_7d493 1 (some .byte) :: ([.fieldLink RJ0 38 "java/lang/String" "COMPACT_STRINGS" "Z", .fieldLink RJ0 15 "java/lang/String" "coder" "B"])
def wsJ0_length_8abf5 : List Cond := .code yJ0_length_8abf5 cJ0_length_8abf5 1 (some .int) :: ([.fieldLink RJ0 9 "java/lang/String" "value" "[B", .methodLink RJ0 335 yJ0_coder_7d493, .instanceMethod yJ0_coder_7d493, .selects RJ0 yJ0_coder_7d493 yJ0_coder_7d493, .initialized RJ0, .code yJ0_coder_7d493 cJ0_coder_7d493 1 (some .byte), .fieldLink RJ0 38 "java/lang/String" "COMPACT_STRINGS" "Z", .fieldLink RJ0 15 "java/lang/String" "coder" "B"])
def wsJ0_isLatin1_aae02 : List Cond := .code yJ0_isLatin1_aae02 cJ0_isLatin1_aae02 1 (some .boolean) :: ([.fieldLink RJ0 38 "java/lang/String" "COMPACT_STRINGS" "Z", .fieldLink RJ0 15 "java/lang/String" "coder" "B"])
def wsJ3_checkIndex_8e157 : List Cond := .code yJ3_checkIndex_8e157 cJ3_checkIndex_8e157 3 (some .int) :: ([])
def wsJ0_checkIndex_df160 : List Cond := .code yJ0_checkIndex_df160 cJ0_checkIndex_df160 2 none :: ([.fieldLink RJ0 1053 "jdk/internal/util/Preconditions" "SIOOBE_FORMATTER" "Ljava/util/function/BiFunction;", .methodLink RJ0 1059 yJ3_checkIndex_8e157, .static yJ3_checkIndex_8e157, .initialized RJ3, .code yJ3_checkIndex_8e157 cJ3_checkIndex_8e157 3 (some .int)])
def wsJ1_charAt_3b067 : List Cond := .code yJ1_charAt_3b067 cJ1_charAt_3b067 2 (some .char) :: ([.methodLink RJ1 9 yJ0_checkIndex_df160, .static yJ0_checkIndex_df160, .initialized RJ0, .code yJ0_checkIndex_df160 cJ0_checkIndex_df160 2 none, .fieldLink RJ0 1053 "jdk/internal/util/Preconditions" "SIOOBE_FORMATTER" "Ljava/util/function/BiFunction;", .methodLink RJ0 1059 yJ3_checkIndex_8e157, .static yJ3_checkIndex_8e157, .initialized RJ3, .code yJ3_checkIndex_8e157 cJ3_checkIndex_8e157 3 (some .int)])
def wsJ2_length_9d52b : List Cond := .code yJ2_length_9d52b cJ2_length_9d52b 1 (some .int) :: ([])
def wsJ2_checkIndex_2214a : List Cond := .code yJ2_checkIndex_2214a cJ2_checkIndex_2214a 2 none :: ([.methodLink RJ2 48 yJ2_length_9d52b, .static yJ2_length_9d52b, .initialized RJ2, .code yJ2_length_9d52b cJ2_length_9d52b 1 (some .int), .methodLink RJ2 414 yJ0_checkIndex_df160, .static yJ0_checkIndex_df160, .initialized RJ0, .code yJ0_checkIndex_df160 cJ0_checkIndex_df160 2 none, .fieldLink RJ0 1053 "jdk/internal/util/Preconditions" "SIOOBE_FORMATTER" "Ljava/util/function/BiFunction;", .methodLink RJ0 1059 yJ3_checkIndex_8e157, .static yJ3_checkIndex_8e157, .initialized RJ3, .code yJ3_checkIndex_8e157 cJ3_checkIndex_8e157 3 (some .int)])
def wsJ2_getChar_3b067 : List Cond := .code yJ2_getChar_3b067 cJ2_getChar_3b067 2 (some .char) :: ([.fieldLink RJ2 44 "java/lang/StringUTF16" "$assertionsDisabled" "Z", .fieldLink RJ2 59 "java/lang/StringUTF16" "HI_BYTE_SHIFT" "I", .fieldLink RJ2 63 "java/lang/StringUTF16" "LO_BYTE_SHIFT" "I", .methodLink RJ2 48 yJ2_length_9d52b, .static yJ2_length_9d52b, .initialized RJ2, .code yJ2_length_9d52b cJ2_length_9d52b 1 (some .int)])
def wsJ2_charAt_3b067 : List Cond := .code yJ2_charAt_3b067 cJ2_charAt_3b067 2 (some .char) :: ([.methodLink RJ2 67 yJ2_checkIndex_2214a, .static yJ2_checkIndex_2214a, .initialized RJ2, .code yJ2_checkIndex_2214a cJ2_checkIndex_2214a 2 none, .methodLink RJ2 48 yJ2_length_9d52b, .static yJ2_length_9d52b, .code yJ2_length_9d52b cJ2_length_9d52b 1 (some .int), .methodLink RJ2 414 yJ0_checkIndex_df160, .static yJ0_checkIndex_df160, .initialized RJ0, .code yJ0_checkIndex_df160 cJ0_checkIndex_df160 2 none, .fieldLink RJ0 1053 "jdk/internal/util/Preconditions" "SIOOBE_FORMATTER" "Ljava/util/function/BiFunction;", .methodLink RJ0 1059 yJ3_checkIndex_8e157, .static yJ3_checkIndex_8e157, .initialized RJ3, .code yJ3_checkIndex_8e157 cJ3_checkIndex_8e157 3 (some .int), .methodLink RJ2 71 yJ2_getChar_3b067, .static yJ2_getChar_3b067, .code yJ2_getChar_3b067 cJ2_getChar_3b067 2 (some .char), .fieldLink RJ2 44 "java/lang/StringUTF16" "$assertionsDisabled" "Z", .fieldLink RJ2 59 "java/lang/StringUTF16" "HI_BYTE_SHIFT" "I", .fieldLink RJ2 63 "java/lang/StringUTF16" "LO_BYTE_SHIFT" "I"])
def wsJ0_charAt_5068e_r1 : List Cond := [Cond.fieldLink RJ0 9 "java/lang/String" "value" "[B", Cond.methodLink RJ0 492 yJ0_isLatin1_aae02, Cond.instanceMethod yJ0_isLatin1_aae02, Cond.selects RJ0 yJ0_isLatin1_aae02 yJ0_isLatin1_aae02, Cond.initialized RJ0, Cond.code yJ0_isLatin1_aae02 cJ0_isLatin1_aae02 1 (some .boolean), Cond.fieldLink RJ0 38 "java/lang/String" "COMPACT_STRINGS" "Z", Cond.fieldLink RJ0 15 "java/lang/String" "coder" "B", Cond.methodLink RJ0 495 yJ1_charAt_3b067, Cond.static yJ1_charAt_3b067, Cond.initialized RJ1, Cond.code yJ1_charAt_3b067 cJ1_charAt_3b067 2 (some .char), Cond.methodLink RJ1 9 yJ0_checkIndex_df160, Cond.static yJ0_checkIndex_df160, Cond.code yJ0_checkIndex_df160 cJ0_checkIndex_df160 2 none, Cond.fieldLink RJ0 1053 "jdk/internal/util/Preconditions" "SIOOBE_FORMATTER" "Ljava/util/function/BiFunction;", Cond.methodLink RJ0 1059 yJ3_checkIndex_8e157, Cond.static yJ3_checkIndex_8e157, Cond.initialized RJ3, Cond.code yJ3_checkIndex_8e157 cJ3_checkIndex_8e157 3 (some .int), Cond.methodLink RJ0 498 yJ2_charAt_3b067, Cond.static yJ2_charAt_3b067, Cond.initialized RJ2, Cond.code yJ2_charAt_3b067 cJ2_charAt_3b067 2 (some .char)]
def wsJ0_charAt_5068e_r2 : List Cond := [Cond.methodLink RJ2 67 yJ2_checkIndex_2214a, Cond.static yJ2_checkIndex_2214a, Cond.code yJ2_checkIndex_2214a cJ2_checkIndex_2214a 2 none, Cond.methodLink RJ2 48 yJ2_length_9d52b, Cond.static yJ2_length_9d52b, Cond.code yJ2_length_9d52b cJ2_length_9d52b 1 (some .int), Cond.methodLink RJ2 414 yJ0_checkIndex_df160, Cond.methodLink RJ2 71 yJ2_getChar_3b067, Cond.static yJ2_getChar_3b067, Cond.code yJ2_getChar_3b067 cJ2_getChar_3b067 2 (some .char), Cond.fieldLink RJ2 44 "java/lang/StringUTF16" "$assertionsDisabled" "Z", Cond.fieldLink RJ2 59 "java/lang/StringUTF16" "HI_BYTE_SHIFT" "I", Cond.fieldLink RJ2 63 "java/lang/StringUTF16" "LO_BYTE_SHIFT" "I"]
def wsJ0_charAt_5068e : List Cond := .code yJ0_charAt_5068e cJ0_charAt_5068e 2 (some .char) :: ((wsJ0_charAt_5068e_r1 ++ wsJ0_charAt_5068e_r2))
def wsX3_spells_r1 : List Cond := [Cond.fieldLink RX3 25 "ChangerFair$CustomReader" "place" "I", Cond.fieldLink RX3 32 "ChangerFair$CustomReader" "wordPlace" "I", Cond.fieldLink RX3 13 "ChangerFair$CustomReader" "tape" "[I", Cond.methodLink RX3 109 yJ0_length_8abf5, Cond.instanceMethod yJ0_length_8abf5, Cond.selects RJ0 yJ0_length_8abf5 yJ0_length_8abf5, Cond.initialized RJ0, Cond.code yJ0_length_8abf5 cJ0_length_8abf5 1 (some .int), Cond.fieldLink RJ0 9 "java/lang/String" "value" "[B", Cond.methodLink RJ0 335 yJ0_coder_7d493, Cond.instanceMethod yJ0_coder_7d493, Cond.selects RJ0 yJ0_coder_7d493 yJ0_coder_7d493, Cond.code yJ0_coder_7d493 cJ0_coder_7d493 1 (some .byte), Cond.fieldLink RJ0 38 "java/lang/String" "COMPACT_STRINGS" "Z", Cond.fieldLink RJ0 15 "java/lang/String" "coder" "B", Cond.methodLink RX3 113 yJ0_charAt_5068e, Cond.instanceMethod yJ0_charAt_5068e, Cond.selects RJ0 yJ0_charAt_5068e yJ0_charAt_5068e, Cond.code yJ0_charAt_5068e cJ0_charAt_5068e 2 (some .char), Cond.methodLink RJ0 492 yJ0_isLatin1_aae02, Cond.instanceMethod yJ0_isLatin1_aae02, Cond.selects RJ0 yJ0_isLatin1_aae02 yJ0_isLatin1_aae02, Cond.code yJ0_isLatin1_aae02 cJ0_isLatin1_aae02 1 (some .boolean), Cond.methodLink RJ0 495 yJ1_charAt_3b067]
def wsX3_spells_r2 : List Cond := [Cond.static yJ1_charAt_3b067, Cond.initialized RJ1, Cond.code yJ1_charAt_3b067 cJ1_charAt_3b067 2 (some .char), Cond.methodLink RJ1 9 yJ0_checkIndex_df160, Cond.static yJ0_checkIndex_df160, Cond.code yJ0_checkIndex_df160 cJ0_checkIndex_df160 2 none, Cond.fieldLink RJ0 1053 "jdk/internal/util/Preconditions" "SIOOBE_FORMATTER" "Ljava/util/function/BiFunction;", Cond.methodLink RJ0 1059 yJ3_checkIndex_8e157, Cond.static yJ3_checkIndex_8e157, Cond.initialized RJ3, Cond.code yJ3_checkIndex_8e157 cJ3_checkIndex_8e157 3 (some .int), Cond.methodLink RJ0 498 yJ2_charAt_3b067, Cond.static yJ2_charAt_3b067, Cond.initialized RJ2, Cond.code yJ2_charAt_3b067 cJ2_charAt_3b067 2 (some .char), Cond.methodLink RJ2 67 yJ2_checkIndex_2214a, Cond.static yJ2_checkIndex_2214a, Cond.code yJ2_checkIndex_2214a cJ2_checkIndex_2214a 2 none, Cond.methodLink RJ2 48 yJ2_length_9d52b, Cond.static yJ2_length_9d52b, Cond.code yJ2_length_9d52b cJ2_length_9d52b 1 (some .int), Cond.methodLink RJ2 414 yJ0_checkIndex_df160, Cond.methodLink RJ2 71 yJ2_getChar_3b067, Cond.static yJ2_getChar_3b067]
def wsX3_spells_r3 : List Cond := [Cond.code yJ2_getChar_3b067 cJ2_getChar_3b067 2 (some .char), Cond.fieldLink RJ2 44 "java/lang/StringUTF16" "$assertionsDisabled" "Z", Cond.fieldLink RJ2 59 "java/lang/StringUTF16" "HI_BYTE_SHIFT" "I", Cond.fieldLink RJ2 63 "java/lang/StringUTF16" "LO_BYTE_SHIFT" "I"]
def wsX3_spells : List Cond := .code yX3_spells cX3_spells 3 (some .boolean) :: ((wsX3_spells_r1 ++ (wsX3_spells_r2 ++ wsX3_spells_r3)) ++ wsX30)
def wsX3_letterWord_r1 : List Cond := [Cond.methodLink RX3 89 yX3_spells, Cond.instanceMethod yX3_spells, Cond.selects RX3 yX3_spells yX3_spells, Cond.initialized RX3, Cond.code yX3_spells cX3_spells 3 (some .boolean), Cond.fieldLink RX3 25 "ChangerFair$CustomReader" "place" "I", Cond.fieldLink RX3 32 "ChangerFair$CustomReader" "wordPlace" "I", Cond.fieldLink RX3 13 "ChangerFair$CustomReader" "tape" "[I", Cond.methodLink RX3 109 yJ0_length_8abf5, Cond.instanceMethod yJ0_length_8abf5, Cond.selects RJ0 yJ0_length_8abf5 yJ0_length_8abf5, Cond.initialized RJ0, Cond.code yJ0_length_8abf5 cJ0_length_8abf5 1 (some .int), Cond.fieldLink RJ0 9 "java/lang/String" "value" "[B", Cond.methodLink RJ0 335 yJ0_coder_7d493, Cond.instanceMethod yJ0_coder_7d493, Cond.selects RJ0 yJ0_coder_7d493 yJ0_coder_7d493, Cond.code yJ0_coder_7d493 cJ0_coder_7d493 1 (some .byte), Cond.fieldLink RJ0 38 "java/lang/String" "COMPACT_STRINGS" "Z", Cond.fieldLink RJ0 15 "java/lang/String" "coder" "B", Cond.methodLink RX3 113 yJ0_charAt_5068e, Cond.instanceMethod yJ0_charAt_5068e, Cond.selects RJ0 yJ0_charAt_5068e yJ0_charAt_5068e, Cond.code yJ0_charAt_5068e cJ0_charAt_5068e 2 (some .char)]
def wsX3_letterWord_r2 : List Cond := [Cond.methodLink RJ0 492 yJ0_isLatin1_aae02, Cond.instanceMethod yJ0_isLatin1_aae02, Cond.selects RJ0 yJ0_isLatin1_aae02 yJ0_isLatin1_aae02, Cond.code yJ0_isLatin1_aae02 cJ0_isLatin1_aae02 1 (some .boolean), Cond.methodLink RJ0 495 yJ1_charAt_3b067, Cond.static yJ1_charAt_3b067, Cond.initialized RJ1, Cond.code yJ1_charAt_3b067 cJ1_charAt_3b067 2 (some .char), Cond.methodLink RJ1 9 yJ0_checkIndex_df160, Cond.static yJ0_checkIndex_df160, Cond.code yJ0_checkIndex_df160 cJ0_checkIndex_df160 2 none, Cond.fieldLink RJ0 1053 "jdk/internal/util/Preconditions" "SIOOBE_FORMATTER" "Ljava/util/function/BiFunction;", Cond.methodLink RJ0 1059 yJ3_checkIndex_8e157, Cond.static yJ3_checkIndex_8e157, Cond.initialized RJ3, Cond.code yJ3_checkIndex_8e157 cJ3_checkIndex_8e157 3 (some .int), Cond.methodLink RJ0 498 yJ2_charAt_3b067, Cond.static yJ2_charAt_3b067, Cond.initialized RJ2, Cond.code yJ2_charAt_3b067 cJ2_charAt_3b067 2 (some .char), Cond.methodLink RJ2 67 yJ2_checkIndex_2214a, Cond.static yJ2_checkIndex_2214a, Cond.code yJ2_checkIndex_2214a cJ2_checkIndex_2214a 2 none, Cond.methodLink RJ2 48 yJ2_length_9d52b]
def wsX3_letterWord_r3 : List Cond := [Cond.static yJ2_length_9d52b, Cond.code yJ2_length_9d52b cJ2_length_9d52b 1 (some .int), Cond.methodLink RJ2 414 yJ0_checkIndex_df160, Cond.methodLink RJ2 71 yJ2_getChar_3b067, Cond.static yJ2_getChar_3b067, Cond.code yJ2_getChar_3b067 cJ2_getChar_3b067 2 (some .char), Cond.fieldLink RJ2 44 "java/lang/StringUTF16" "$assertionsDisabled" "Z", Cond.fieldLink RJ2 59 "java/lang/StringUTF16" "HI_BYTE_SHIFT" "I", Cond.fieldLink RJ2 63 "java/lang/StringUTF16" "LO_BYTE_SHIFT" "I"]
def wsX3_letterWord : List Cond := .code yX3_letterWord cX3_letterWord 1 (some .int) :: ((wsX3_letterWord_r1 ++ (wsX3_letterWord_r2 ++ wsX3_letterWord_r3)) ++ wsX30)
def wsX3_readLetters_r1 : List Cond := [Cond.fieldLink RX3 25 "ChangerFair$CustomReader" "place" "I", Cond.fieldLink RX3 17 "ChangerFair$CustomReader" "length" "I", Cond.fieldLink RX3 13 "ChangerFair$CustomReader" "tape" "[I", Cond.fieldLink RX3 38 "ChangerFair$CustomReader" "word" "I", Cond.methodLink RX3 59 yX3_isLetter, Cond.static yX3_isLetter, Cond.initialized RX3, Cond.code yX3_isLetter cX3_isLetter 1 (some .boolean), Cond.methodLink RX3 83 yX3_letterWord, Cond.instanceMethod yX3_letterWord, Cond.selects RX3 yX3_letterWord yX3_letterWord, Cond.code yX3_letterWord cX3_letterWord 1 (some .int), Cond.methodLink RX3 89 yX3_spells, Cond.instanceMethod yX3_spells, Cond.selects RX3 yX3_spells yX3_spells, Cond.code yX3_spells cX3_spells 3 (some .boolean), Cond.fieldLink RX3 32 "ChangerFair$CustomReader" "wordPlace" "I", Cond.methodLink RX3 109 yJ0_length_8abf5, Cond.instanceMethod yJ0_length_8abf5, Cond.selects RJ0 yJ0_length_8abf5 yJ0_length_8abf5, Cond.initialized RJ0, Cond.code yJ0_length_8abf5 cJ0_length_8abf5 1 (some .int), Cond.fieldLink RJ0 9 "java/lang/String" "value" "[B", Cond.methodLink RJ0 335 yJ0_coder_7d493]
def wsX3_readLetters_r2 : List Cond := [Cond.instanceMethod yJ0_coder_7d493, Cond.selects RJ0 yJ0_coder_7d493 yJ0_coder_7d493, Cond.code yJ0_coder_7d493 cJ0_coder_7d493 1 (some .byte), Cond.fieldLink RJ0 38 "java/lang/String" "COMPACT_STRINGS" "Z", Cond.fieldLink RJ0 15 "java/lang/String" "coder" "B", Cond.methodLink RX3 113 yJ0_charAt_5068e, Cond.instanceMethod yJ0_charAt_5068e, Cond.selects RJ0 yJ0_charAt_5068e yJ0_charAt_5068e, Cond.code yJ0_charAt_5068e cJ0_charAt_5068e 2 (some .char), Cond.methodLink RJ0 492 yJ0_isLatin1_aae02, Cond.instanceMethod yJ0_isLatin1_aae02, Cond.selects RJ0 yJ0_isLatin1_aae02 yJ0_isLatin1_aae02, Cond.code yJ0_isLatin1_aae02 cJ0_isLatin1_aae02 1 (some .boolean), Cond.methodLink RJ0 495 yJ1_charAt_3b067, Cond.static yJ1_charAt_3b067, Cond.initialized RJ1, Cond.code yJ1_charAt_3b067 cJ1_charAt_3b067 2 (some .char), Cond.methodLink RJ1 9 yJ0_checkIndex_df160, Cond.static yJ0_checkIndex_df160, Cond.code yJ0_checkIndex_df160 cJ0_checkIndex_df160 2 none, Cond.fieldLink RJ0 1053 "jdk/internal/util/Preconditions" "SIOOBE_FORMATTER" "Ljava/util/function/BiFunction;", Cond.methodLink RJ0 1059 yJ3_checkIndex_8e157, Cond.static yJ3_checkIndex_8e157, Cond.initialized RJ3]
def wsX3_readLetters_r3 : List Cond := [Cond.code yJ3_checkIndex_8e157 cJ3_checkIndex_8e157 3 (some .int), Cond.methodLink RJ0 498 yJ2_charAt_3b067, Cond.static yJ2_charAt_3b067, Cond.initialized RJ2, Cond.code yJ2_charAt_3b067 cJ2_charAt_3b067 2 (some .char), Cond.methodLink RJ2 67 yJ2_checkIndex_2214a, Cond.static yJ2_checkIndex_2214a, Cond.code yJ2_checkIndex_2214a cJ2_checkIndex_2214a 2 none, Cond.methodLink RJ2 48 yJ2_length_9d52b, Cond.static yJ2_length_9d52b, Cond.code yJ2_length_9d52b cJ2_length_9d52b 1 (some .int), Cond.methodLink RJ2 414 yJ0_checkIndex_df160, Cond.methodLink RJ2 71 yJ2_getChar_3b067, Cond.static yJ2_getChar_3b067, Cond.code yJ2_getChar_3b067 cJ2_getChar_3b067 2 (some .char), Cond.fieldLink RJ2 44 "java/lang/StringUTF16" "$assertionsDisabled" "Z", Cond.fieldLink RJ2 59 "java/lang/StringUTF16" "HI_BYTE_SHIFT" "I", Cond.fieldLink RJ2 63 "java/lang/StringUTF16" "LO_BYTE_SHIFT" "I"]
def wsX3_readLetters : List Cond := .code yX3_readLetters cX3_readLetters 1 none :: ((wsX3_readLetters_r1 ++ (wsX3_readLetters_r2 ++ wsX3_readLetters_r3)) ++ wsX30)
def wsX3_isFigure : List Cond := .code yX3_isFigure cX3_isFigure 1 (some .boolean) :: ([])
def wsX3_readFigures : List Cond := .code yX3_readFigures cX3_readFigures 1 none :: ([.fieldLink RX3 38 "ChangerFair$CustomReader" "word" "I", .fieldLink RX3 51 "ChangerFair$CustomReader" "number" "I", .fieldLink RX3 25 "ChangerFair$CustomReader" "place" "I", .fieldLink RX3 17 "ChangerFair$CustomReader" "length" "I", .fieldLink RX3 13 "ChangerFair$CustomReader" "tape" "[I", .constant RX3 76 (1000000), .methodLink RX3 77 Lib.Math.min.name, .static Lib.Math.min.name, .initialized "java/lang/Math", .code Lib.Math.min.name Lib.Math.min.code 2 (some .int), .methodLink RX3 66 yX3_isFigure, .static yX3_isFigure, .initialized RX3, .code yX3_isFigure cX3_isFigure 1 (some .boolean)] ++ wsX30)
def wsX3_signWord : List Cond := .code yX3_signWord cX3_signWord 1 (some .int) :: ([])
def wsX3_nextWord_r1 : List Cond := [Cond.fieldLink RX3 25 "ChangerFair$CustomReader" "place" "I", Cond.fieldLink RX3 17 "ChangerFair$CustomReader" "length" "I", Cond.fieldLink RX3 13 "ChangerFair$CustomReader" "tape" "[I", Cond.fieldLink RX3 32 "ChangerFair$CustomReader" "wordPlace" "I", Cond.fieldLink RX3 38 "ChangerFair$CustomReader" "word" "I", Cond.methodLink RX3 59 yX3_isLetter, Cond.static yX3_isLetter, Cond.initialized RX3, Cond.code yX3_isLetter cX3_isLetter 1 (some .boolean), Cond.methodLink RX3 63 yX3_readLetters, Cond.instanceMethod yX3_readLetters, Cond.selects RX3 yX3_readLetters yX3_readLetters, Cond.code yX3_readLetters cX3_readLetters 1 none, Cond.methodLink RX3 83 yX3_letterWord, Cond.instanceMethod yX3_letterWord, Cond.selects RX3 yX3_letterWord yX3_letterWord, Cond.code yX3_letterWord cX3_letterWord 1 (some .int), Cond.methodLink RX3 89 yX3_spells, Cond.instanceMethod yX3_spells, Cond.selects RX3 yX3_spells yX3_spells, Cond.code yX3_spells cX3_spells 3 (some .boolean), Cond.methodLink RX3 109 yJ0_length_8abf5, Cond.instanceMethod yJ0_length_8abf5, Cond.selects RJ0 yJ0_length_8abf5 yJ0_length_8abf5]
def wsX3_nextWord_r2 : List Cond := [Cond.initialized RJ0, Cond.code yJ0_length_8abf5 cJ0_length_8abf5 1 (some .int), Cond.fieldLink RJ0 9 "java/lang/String" "value" "[B", Cond.methodLink RJ0 335 yJ0_coder_7d493, Cond.instanceMethod yJ0_coder_7d493, Cond.selects RJ0 yJ0_coder_7d493 yJ0_coder_7d493, Cond.code yJ0_coder_7d493 cJ0_coder_7d493 1 (some .byte), Cond.fieldLink RJ0 38 "java/lang/String" "COMPACT_STRINGS" "Z", Cond.fieldLink RJ0 15 "java/lang/String" "coder" "B", Cond.methodLink RX3 113 yJ0_charAt_5068e, Cond.instanceMethod yJ0_charAt_5068e, Cond.selects RJ0 yJ0_charAt_5068e yJ0_charAt_5068e, Cond.code yJ0_charAt_5068e cJ0_charAt_5068e 2 (some .char), Cond.methodLink RJ0 492 yJ0_isLatin1_aae02, Cond.instanceMethod yJ0_isLatin1_aae02, Cond.selects RJ0 yJ0_isLatin1_aae02 yJ0_isLatin1_aae02, Cond.code yJ0_isLatin1_aae02 cJ0_isLatin1_aae02 1 (some .boolean), Cond.methodLink RJ0 495 yJ1_charAt_3b067, Cond.static yJ1_charAt_3b067, Cond.initialized RJ1, Cond.code yJ1_charAt_3b067 cJ1_charAt_3b067 2 (some .char), Cond.methodLink RJ1 9 yJ0_checkIndex_df160, Cond.static yJ0_checkIndex_df160, Cond.code yJ0_checkIndex_df160 cJ0_checkIndex_df160 2 none]
def wsX3_nextWord_r3 : List Cond := [Cond.fieldLink RJ0 1053 "jdk/internal/util/Preconditions" "SIOOBE_FORMATTER" "Ljava/util/function/BiFunction;", Cond.methodLink RJ0 1059 yJ3_checkIndex_8e157, Cond.static yJ3_checkIndex_8e157, Cond.initialized RJ3, Cond.code yJ3_checkIndex_8e157 cJ3_checkIndex_8e157 3 (some .int), Cond.methodLink RJ0 498 yJ2_charAt_3b067, Cond.static yJ2_charAt_3b067, Cond.initialized RJ2, Cond.code yJ2_charAt_3b067 cJ2_charAt_3b067 2 (some .char), Cond.methodLink RJ2 67 yJ2_checkIndex_2214a, Cond.static yJ2_checkIndex_2214a, Cond.code yJ2_checkIndex_2214a cJ2_checkIndex_2214a 2 none, Cond.methodLink RJ2 48 yJ2_length_9d52b, Cond.static yJ2_length_9d52b, Cond.code yJ2_length_9d52b cJ2_length_9d52b 1 (some .int), Cond.methodLink RJ2 414 yJ0_checkIndex_df160, Cond.methodLink RJ2 71 yJ2_getChar_3b067, Cond.static yJ2_getChar_3b067, Cond.code yJ2_getChar_3b067 cJ2_getChar_3b067 2 (some .char), Cond.fieldLink RJ2 44 "java/lang/StringUTF16" "$assertionsDisabled" "Z", Cond.fieldLink RJ2 59 "java/lang/StringUTF16" "HI_BYTE_SHIFT" "I", Cond.fieldLink RJ2 63 "java/lang/StringUTF16" "LO_BYTE_SHIFT" "I", Cond.methodLink RX3 66 yX3_isFigure, Cond.static yX3_isFigure]
def wsX3_nextWord_r4 : List Cond := [Cond.code yX3_isFigure cX3_isFigure 1 (some .boolean), Cond.methodLink RX3 69 yX3_readFigures, Cond.instanceMethod yX3_readFigures, Cond.selects RX3 yX3_readFigures yX3_readFigures, Cond.code yX3_readFigures cX3_readFigures 1 none, Cond.fieldLink RX3 51 "ChangerFair$CustomReader" "number" "I", Cond.constant RX3 76 (1000000), Cond.methodLink RX3 77 Lib.Math.min.name, Cond.static Lib.Math.min.name, Cond.initialized "java/lang/Math", Cond.code Lib.Math.min.name Lib.Math.min.code 2 (some .int), Cond.methodLink RX3 72 yX3_signWord, Cond.static yX3_signWord, Cond.code yX3_signWord cX3_signWord 1 (some .int)]
def wsX3_nextWord : List Cond := .code yX3_nextWord cX3_nextWord 1 none :: ((wsX3_nextWord_r1 ++ (wsX3_nextWord_r2 ++ (wsX3_nextWord_r3 ++ wsX3_nextWord_r4))) ++ wsX30)
def wsX3_readTest_r1 : List Cond := [Cond.fieldLink RX3 38 "ChangerFair$CustomReader" "word" "I", Cond.fieldLink RX3 51 "ChangerFair$CustomReader" "number" "I", Cond.constant RX3 54 (999999), Cond.methodLink RX3 35 yX3_nextWord, Cond.instanceMethod yX3_nextWord, Cond.selects RX3 yX3_nextWord yX3_nextWord, Cond.initialized RX3, Cond.code yX3_nextWord cX3_nextWord 1 none, Cond.fieldLink RX3 25 "ChangerFair$CustomReader" "place" "I", Cond.fieldLink RX3 17 "ChangerFair$CustomReader" "length" "I", Cond.fieldLink RX3 13 "ChangerFair$CustomReader" "tape" "[I", Cond.fieldLink RX3 32 "ChangerFair$CustomReader" "wordPlace" "I", Cond.methodLink RX3 59 yX3_isLetter, Cond.static yX3_isLetter, Cond.code yX3_isLetter cX3_isLetter 1 (some .boolean), Cond.methodLink RX3 63 yX3_readLetters, Cond.instanceMethod yX3_readLetters, Cond.selects RX3 yX3_readLetters yX3_readLetters, Cond.code yX3_readLetters cX3_readLetters 1 none, Cond.methodLink RX3 83 yX3_letterWord, Cond.instanceMethod yX3_letterWord, Cond.selects RX3 yX3_letterWord yX3_letterWord, Cond.code yX3_letterWord cX3_letterWord 1 (some .int), Cond.methodLink RX3 89 yX3_spells]
def wsX3_readTest_r2 : List Cond := [Cond.instanceMethod yX3_spells, Cond.selects RX3 yX3_spells yX3_spells, Cond.code yX3_spells cX3_spells 3 (some .boolean), Cond.methodLink RX3 109 yJ0_length_8abf5, Cond.instanceMethod yJ0_length_8abf5, Cond.selects RJ0 yJ0_length_8abf5 yJ0_length_8abf5, Cond.initialized RJ0, Cond.code yJ0_length_8abf5 cJ0_length_8abf5 1 (some .int), Cond.fieldLink RJ0 9 "java/lang/String" "value" "[B", Cond.methodLink RJ0 335 yJ0_coder_7d493, Cond.instanceMethod yJ0_coder_7d493, Cond.selects RJ0 yJ0_coder_7d493 yJ0_coder_7d493, Cond.code yJ0_coder_7d493 cJ0_coder_7d493 1 (some .byte), Cond.fieldLink RJ0 38 "java/lang/String" "COMPACT_STRINGS" "Z", Cond.fieldLink RJ0 15 "java/lang/String" "coder" "B", Cond.methodLink RX3 113 yJ0_charAt_5068e, Cond.instanceMethod yJ0_charAt_5068e, Cond.selects RJ0 yJ0_charAt_5068e yJ0_charAt_5068e, Cond.code yJ0_charAt_5068e cJ0_charAt_5068e 2 (some .char), Cond.methodLink RJ0 492 yJ0_isLatin1_aae02, Cond.instanceMethod yJ0_isLatin1_aae02, Cond.selects RJ0 yJ0_isLatin1_aae02 yJ0_isLatin1_aae02, Cond.code yJ0_isLatin1_aae02 cJ0_isLatin1_aae02 1 (some .boolean), Cond.methodLink RJ0 495 yJ1_charAt_3b067]
def wsX3_readTest_r3 : List Cond := [Cond.static yJ1_charAt_3b067, Cond.initialized RJ1, Cond.code yJ1_charAt_3b067 cJ1_charAt_3b067 2 (some .char), Cond.methodLink RJ1 9 yJ0_checkIndex_df160, Cond.static yJ0_checkIndex_df160, Cond.code yJ0_checkIndex_df160 cJ0_checkIndex_df160 2 none, Cond.fieldLink RJ0 1053 "jdk/internal/util/Preconditions" "SIOOBE_FORMATTER" "Ljava/util/function/BiFunction;", Cond.methodLink RJ0 1059 yJ3_checkIndex_8e157, Cond.static yJ3_checkIndex_8e157, Cond.initialized RJ3, Cond.code yJ3_checkIndex_8e157 cJ3_checkIndex_8e157 3 (some .int), Cond.methodLink RJ0 498 yJ2_charAt_3b067, Cond.static yJ2_charAt_3b067, Cond.initialized RJ2, Cond.code yJ2_charAt_3b067 cJ2_charAt_3b067 2 (some .char), Cond.methodLink RJ2 67 yJ2_checkIndex_2214a, Cond.static yJ2_checkIndex_2214a, Cond.code yJ2_checkIndex_2214a cJ2_checkIndex_2214a 2 none, Cond.methodLink RJ2 48 yJ2_length_9d52b, Cond.static yJ2_length_9d52b, Cond.code yJ2_length_9d52b cJ2_length_9d52b 1 (some .int), Cond.methodLink RJ2 414 yJ0_checkIndex_df160, Cond.methodLink RJ2 71 yJ2_getChar_3b067, Cond.static yJ2_getChar_3b067]
def wsX3_readTest_r4 : List Cond := [Cond.code yJ2_getChar_3b067 cJ2_getChar_3b067 2 (some .char), Cond.fieldLink RJ2 44 "java/lang/StringUTF16" "$assertionsDisabled" "Z", Cond.fieldLink RJ2 59 "java/lang/StringUTF16" "HI_BYTE_SHIFT" "I", Cond.fieldLink RJ2 63 "java/lang/StringUTF16" "LO_BYTE_SHIFT" "I", Cond.methodLink RX3 66 yX3_isFigure, Cond.static yX3_isFigure, Cond.code yX3_isFigure cX3_isFigure 1 (some .boolean), Cond.methodLink RX3 69 yX3_readFigures, Cond.instanceMethod yX3_readFigures, Cond.selects RX3 yX3_readFigures yX3_readFigures, Cond.code yX3_readFigures cX3_readFigures 1 none, Cond.constant RX3 76 (1000000), Cond.methodLink RX3 77 Lib.Math.min.name, Cond.static Lib.Math.min.name, Cond.initialized "java/lang/Math", Cond.code Lib.Math.min.name Lib.Math.min.code 2 (some .int), Cond.methodLink RX3 72 yX3_signWord, Cond.static yX3_signWord, Cond.code yX3_signWord cX3_signWord 1 (some .int), Cond.methodLink RX3 55 yX2_addTest, Cond.instanceMethod yX2_addTest, Cond.selects RX2 yX2_addTest yX2_addTest, Cond.initialized RX2, Cond.code yX2_addTest cX2_addTest 6 none]
def wsX3_readTest_r5 : List Cond := [Cond.fieldLink RX2 26 "ChangerFair$Custom" "clauseCount" "I", Cond.fieldLink RX2 13 "ChangerFair$Custom" "testCounts" "[I", Cond.fieldLink RX2 17 "ChangerFair$Custom" "values" "[I", Cond.fieldLink RX2 20 "ChangerFair$Custom" "signs" "[I", Cond.fieldLink RX2 23 "ChangerFair$Custom" "numbers" "[I"]
def wsX3_readTest : List Cond := .code yX3_readTest cX3_readTest 4 (some .boolean) :: ((wsX3_readTest_r1 ++ (wsX3_readTest_r2 ++ (wsX3_readTest_r3 ++ (wsX3_readTest_r4 ++ wsX3_readTest_r5)))) ++ wsX30 ++ wsX20)
def wsX3_readClause_r1 : List Cond := [Cond.fieldLink RX3 38 "ChangerFair$CustomReader" "word" "I", Cond.methodLink RX3 44 yX2_addClause, Cond.instanceMethod yX2_addClause, Cond.selects RX2 yX2_addClause yX2_addClause, Cond.initialized RX2, Cond.code yX2_addClause cX2_addClause 2 none, Cond.fieldLink RX2 26 "ChangerFair$Custom" "clauseCount" "I", Cond.fieldLink RX2 9 "ChangerFair$Custom" "verdicts" "[Z", Cond.fieldLink RX2 13 "ChangerFair$Custom" "testCounts" "[I", Cond.methodLink RX3 35 yX3_nextWord, Cond.instanceMethod yX3_nextWord, Cond.selects RX3 yX3_nextWord yX3_nextWord, Cond.initialized RX3, Cond.code yX3_nextWord cX3_nextWord 1 none, Cond.fieldLink RX3 25 "ChangerFair$CustomReader" "place" "I", Cond.fieldLink RX3 17 "ChangerFair$CustomReader" "length" "I", Cond.fieldLink RX3 13 "ChangerFair$CustomReader" "tape" "[I", Cond.fieldLink RX3 32 "ChangerFair$CustomReader" "wordPlace" "I", Cond.methodLink RX3 59 yX3_isLetter, Cond.static yX3_isLetter, Cond.code yX3_isLetter cX3_isLetter 1 (some .boolean), Cond.methodLink RX3 63 yX3_readLetters, Cond.instanceMethod yX3_readLetters, Cond.selects RX3 yX3_readLetters yX3_readLetters]
def wsX3_readClause_r2 : List Cond := [Cond.code yX3_readLetters cX3_readLetters 1 none, Cond.methodLink RX3 83 yX3_letterWord, Cond.instanceMethod yX3_letterWord, Cond.selects RX3 yX3_letterWord yX3_letterWord, Cond.code yX3_letterWord cX3_letterWord 1 (some .int), Cond.methodLink RX3 89 yX3_spells, Cond.instanceMethod yX3_spells, Cond.selects RX3 yX3_spells yX3_spells, Cond.code yX3_spells cX3_spells 3 (some .boolean), Cond.methodLink RX3 109 yJ0_length_8abf5, Cond.instanceMethod yJ0_length_8abf5, Cond.selects RJ0 yJ0_length_8abf5 yJ0_length_8abf5, Cond.initialized RJ0, Cond.code yJ0_length_8abf5 cJ0_length_8abf5 1 (some .int), Cond.fieldLink RJ0 9 "java/lang/String" "value" "[B", Cond.methodLink RJ0 335 yJ0_coder_7d493, Cond.instanceMethod yJ0_coder_7d493, Cond.selects RJ0 yJ0_coder_7d493 yJ0_coder_7d493, Cond.code yJ0_coder_7d493 cJ0_coder_7d493 1 (some .byte), Cond.fieldLink RJ0 38 "java/lang/String" "COMPACT_STRINGS" "Z", Cond.fieldLink RJ0 15 "java/lang/String" "coder" "B", Cond.methodLink RX3 113 yJ0_charAt_5068e, Cond.instanceMethod yJ0_charAt_5068e, Cond.selects RJ0 yJ0_charAt_5068e yJ0_charAt_5068e]
def wsX3_readClause_r3 : List Cond := [Cond.code yJ0_charAt_5068e cJ0_charAt_5068e 2 (some .char), Cond.methodLink RJ0 492 yJ0_isLatin1_aae02, Cond.instanceMethod yJ0_isLatin1_aae02, Cond.selects RJ0 yJ0_isLatin1_aae02 yJ0_isLatin1_aae02, Cond.code yJ0_isLatin1_aae02 cJ0_isLatin1_aae02 1 (some .boolean), Cond.methodLink RJ0 495 yJ1_charAt_3b067, Cond.static yJ1_charAt_3b067, Cond.initialized RJ1, Cond.code yJ1_charAt_3b067 cJ1_charAt_3b067 2 (some .char), Cond.methodLink RJ1 9 yJ0_checkIndex_df160, Cond.static yJ0_checkIndex_df160, Cond.code yJ0_checkIndex_df160 cJ0_checkIndex_df160 2 none, Cond.fieldLink RJ0 1053 "jdk/internal/util/Preconditions" "SIOOBE_FORMATTER" "Ljava/util/function/BiFunction;", Cond.methodLink RJ0 1059 yJ3_checkIndex_8e157, Cond.static yJ3_checkIndex_8e157, Cond.initialized RJ3, Cond.code yJ3_checkIndex_8e157 cJ3_checkIndex_8e157 3 (some .int), Cond.methodLink RJ0 498 yJ2_charAt_3b067, Cond.static yJ2_charAt_3b067, Cond.initialized RJ2, Cond.code yJ2_charAt_3b067 cJ2_charAt_3b067 2 (some .char), Cond.methodLink RJ2 67 yJ2_checkIndex_2214a, Cond.static yJ2_checkIndex_2214a, Cond.code yJ2_checkIndex_2214a cJ2_checkIndex_2214a 2 none]
def wsX3_readClause_r4 : List Cond := [Cond.methodLink RJ2 48 yJ2_length_9d52b, Cond.static yJ2_length_9d52b, Cond.code yJ2_length_9d52b cJ2_length_9d52b 1 (some .int), Cond.methodLink RJ2 414 yJ0_checkIndex_df160, Cond.methodLink RJ2 71 yJ2_getChar_3b067, Cond.static yJ2_getChar_3b067, Cond.code yJ2_getChar_3b067 cJ2_getChar_3b067 2 (some .char), Cond.fieldLink RJ2 44 "java/lang/StringUTF16" "$assertionsDisabled" "Z", Cond.fieldLink RJ2 59 "java/lang/StringUTF16" "HI_BYTE_SHIFT" "I", Cond.fieldLink RJ2 63 "java/lang/StringUTF16" "LO_BYTE_SHIFT" "I", Cond.methodLink RX3 66 yX3_isFigure, Cond.static yX3_isFigure, Cond.code yX3_isFigure cX3_isFigure 1 (some .boolean), Cond.methodLink RX3 69 yX3_readFigures, Cond.instanceMethod yX3_readFigures, Cond.selects RX3 yX3_readFigures yX3_readFigures, Cond.code yX3_readFigures cX3_readFigures 1 none, Cond.fieldLink RX3 51 "ChangerFair$CustomReader" "number" "I", Cond.constant RX3 76 (1000000), Cond.methodLink RX3 77 Lib.Math.min.name, Cond.static Lib.Math.min.name, Cond.initialized "java/lang/Math", Cond.code Lib.Math.min.name Lib.Math.min.code 2 (some .int), Cond.methodLink RX3 72 yX3_signWord]
def wsX3_readClause_r5 : List Cond := [Cond.static yX3_signWord, Cond.code yX3_signWord cX3_signWord 1 (some .int), Cond.methodLink RX3 48 yX3_readTest, Cond.instanceMethod yX3_readTest, Cond.selects RX3 yX3_readTest yX3_readTest, Cond.code yX3_readTest cX3_readTest 4 (some .boolean), Cond.constant RX3 54 (999999), Cond.methodLink RX3 55 yX2_addTest, Cond.instanceMethod yX2_addTest, Cond.selects RX2 yX2_addTest yX2_addTest, Cond.code yX2_addTest cX2_addTest 6 none, Cond.fieldLink RX2 17 "ChangerFair$Custom" "values" "[I", Cond.fieldLink RX2 20 "ChangerFair$Custom" "signs" "[I", Cond.fieldLink RX2 23 "ChangerFair$Custom" "numbers" "[I"]
def wsX3_readClause : List Cond := .code yX3_readClause cX3_readClause 3 (some .boolean) :: ((wsX3_readClause_r1 ++ (wsX3_readClause_r2 ++ (wsX3_readClause_r3 ++ (wsX3_readClause_r4 ++ wsX3_readClause_r5)))) ++ wsX30 ++ wsX20)
def wsX3_readText_r1 : List Cond := [Cond.fieldLink RX3 38 "ChangerFair$CustomReader" "word" "I", Cond.methodLink RX3 35 yX3_nextWord, Cond.instanceMethod yX3_nextWord, Cond.selects RX3 yX3_nextWord yX3_nextWord, Cond.initialized RX3, Cond.code yX3_nextWord cX3_nextWord 1 none, Cond.fieldLink RX3 25 "ChangerFair$CustomReader" "place" "I", Cond.fieldLink RX3 17 "ChangerFair$CustomReader" "length" "I", Cond.fieldLink RX3 13 "ChangerFair$CustomReader" "tape" "[I", Cond.fieldLink RX3 32 "ChangerFair$CustomReader" "wordPlace" "I", Cond.methodLink RX3 59 yX3_isLetter, Cond.static yX3_isLetter, Cond.code yX3_isLetter cX3_isLetter 1 (some .boolean), Cond.methodLink RX3 63 yX3_readLetters, Cond.instanceMethod yX3_readLetters, Cond.selects RX3 yX3_readLetters yX3_readLetters, Cond.code yX3_readLetters cX3_readLetters 1 none, Cond.methodLink RX3 83 yX3_letterWord, Cond.instanceMethod yX3_letterWord, Cond.selects RX3 yX3_letterWord yX3_letterWord, Cond.code yX3_letterWord cX3_letterWord 1 (some .int), Cond.methodLink RX3 89 yX3_spells, Cond.instanceMethod yX3_spells, Cond.selects RX3 yX3_spells yX3_spells]
def wsX3_readText_r2 : List Cond := [Cond.code yX3_spells cX3_spells 3 (some .boolean), Cond.methodLink RX3 109 yJ0_length_8abf5, Cond.instanceMethod yJ0_length_8abf5, Cond.selects RJ0 yJ0_length_8abf5 yJ0_length_8abf5, Cond.initialized RJ0, Cond.code yJ0_length_8abf5 cJ0_length_8abf5 1 (some .int), Cond.fieldLink RJ0 9 "java/lang/String" "value" "[B", Cond.methodLink RJ0 335 yJ0_coder_7d493, Cond.instanceMethod yJ0_coder_7d493, Cond.selects RJ0 yJ0_coder_7d493 yJ0_coder_7d493, Cond.code yJ0_coder_7d493 cJ0_coder_7d493 1 (some .byte), Cond.fieldLink RJ0 38 "java/lang/String" "COMPACT_STRINGS" "Z", Cond.fieldLink RJ0 15 "java/lang/String" "coder" "B", Cond.methodLink RX3 113 yJ0_charAt_5068e, Cond.instanceMethod yJ0_charAt_5068e, Cond.selects RJ0 yJ0_charAt_5068e yJ0_charAt_5068e, Cond.code yJ0_charAt_5068e cJ0_charAt_5068e 2 (some .char), Cond.methodLink RJ0 492 yJ0_isLatin1_aae02, Cond.instanceMethod yJ0_isLatin1_aae02, Cond.selects RJ0 yJ0_isLatin1_aae02 yJ0_isLatin1_aae02, Cond.code yJ0_isLatin1_aae02 cJ0_isLatin1_aae02 1 (some .boolean), Cond.methodLink RJ0 495 yJ1_charAt_3b067, Cond.static yJ1_charAt_3b067, Cond.initialized RJ1]
def wsX3_readText_r3 : List Cond := [Cond.code yJ1_charAt_3b067 cJ1_charAt_3b067 2 (some .char), Cond.methodLink RJ1 9 yJ0_checkIndex_df160, Cond.static yJ0_checkIndex_df160, Cond.code yJ0_checkIndex_df160 cJ0_checkIndex_df160 2 none, Cond.fieldLink RJ0 1053 "jdk/internal/util/Preconditions" "SIOOBE_FORMATTER" "Ljava/util/function/BiFunction;", Cond.methodLink RJ0 1059 yJ3_checkIndex_8e157, Cond.static yJ3_checkIndex_8e157, Cond.initialized RJ3, Cond.code yJ3_checkIndex_8e157 cJ3_checkIndex_8e157 3 (some .int), Cond.methodLink RJ0 498 yJ2_charAt_3b067, Cond.static yJ2_charAt_3b067, Cond.initialized RJ2, Cond.code yJ2_charAt_3b067 cJ2_charAt_3b067 2 (some .char), Cond.methodLink RJ2 67 yJ2_checkIndex_2214a, Cond.static yJ2_checkIndex_2214a, Cond.code yJ2_checkIndex_2214a cJ2_checkIndex_2214a 2 none, Cond.methodLink RJ2 48 yJ2_length_9d52b, Cond.static yJ2_length_9d52b, Cond.code yJ2_length_9d52b cJ2_length_9d52b 1 (some .int), Cond.methodLink RJ2 414 yJ0_checkIndex_df160, Cond.methodLink RJ2 71 yJ2_getChar_3b067, Cond.static yJ2_getChar_3b067, Cond.code yJ2_getChar_3b067 cJ2_getChar_3b067 2 (some .char), Cond.fieldLink RJ2 44 "java/lang/StringUTF16" "$assertionsDisabled" "Z"]
def wsX3_readText_r4 : List Cond := [Cond.fieldLink RJ2 59 "java/lang/StringUTF16" "HI_BYTE_SHIFT" "I", Cond.fieldLink RJ2 63 "java/lang/StringUTF16" "LO_BYTE_SHIFT" "I", Cond.methodLink RX3 66 yX3_isFigure, Cond.static yX3_isFigure, Cond.code yX3_isFigure cX3_isFigure 1 (some .boolean), Cond.methodLink RX3 69 yX3_readFigures, Cond.instanceMethod yX3_readFigures, Cond.selects RX3 yX3_readFigures yX3_readFigures, Cond.code yX3_readFigures cX3_readFigures 1 none, Cond.fieldLink RX3 51 "ChangerFair$CustomReader" "number" "I", Cond.constant RX3 76 (1000000), Cond.methodLink RX3 77 Lib.Math.min.name, Cond.static Lib.Math.min.name, Cond.initialized "java/lang/Math", Cond.code Lib.Math.min.name Lib.Math.min.code 2 (some .int), Cond.methodLink RX3 72 yX3_signWord, Cond.static yX3_signWord, Cond.code yX3_signWord cX3_signWord 1 (some .int), Cond.methodLink RX3 41 yX3_readClause, Cond.instanceMethod yX3_readClause, Cond.selects RX3 yX3_readClause yX3_readClause, Cond.code yX3_readClause cX3_readClause 3 (some .boolean), Cond.methodLink RX3 44 yX2_addClause, Cond.instanceMethod yX2_addClause]
def wsX3_readText_r5 : List Cond := [Cond.selects RX2 yX2_addClause yX2_addClause, Cond.initialized RX2, Cond.code yX2_addClause cX2_addClause 2 none, Cond.fieldLink RX2 26 "ChangerFair$Custom" "clauseCount" "I", Cond.fieldLink RX2 9 "ChangerFair$Custom" "verdicts" "[Z", Cond.fieldLink RX2 13 "ChangerFair$Custom" "testCounts" "[I", Cond.methodLink RX3 48 yX3_readTest, Cond.instanceMethod yX3_readTest, Cond.selects RX3 yX3_readTest yX3_readTest, Cond.code yX3_readTest cX3_readTest 4 (some .boolean), Cond.constant RX3 54 (999999), Cond.methodLink RX3 55 yX2_addTest, Cond.instanceMethod yX2_addTest, Cond.selects RX2 yX2_addTest yX2_addTest, Cond.code yX2_addTest cX2_addTest 6 none, Cond.fieldLink RX2 17 "ChangerFair$Custom" "values" "[I", Cond.fieldLink RX2 20 "ChangerFair$Custom" "signs" "[I", Cond.fieldLink RX2 23 "ChangerFair$Custom" "numbers" "[I"]
def wsX3_readText : List Cond := .code yX3_readText cX3_readText 3 (some .boolean) :: ((wsX3_readText_r1 ++ (wsX3_readText_r2 ++ (wsX3_readText_r3 ++ (wsX3_readText_r4 ++ wsX3_readText_r5)))) ++ wsX30 ++ wsX20)
def wsX3_readInto_r1 : List Cond := [Cond.fieldLink RX3 25 "ChangerFair$CustomReader" "place" "I", Cond.fieldLink RX3 32 "ChangerFair$CustomReader" "wordPlace" "I", Cond.fieldLink RX3 9 "ChangerFair$CustomReader" "faultPlace" "I", Cond.fieldLink RX3 17 "ChangerFair$CustomReader" "length" "I", Cond.methodLink RX3 20 yX2_forget, Cond.instanceMethod yX2_forget, Cond.selects RX2 yX2_forget yX2_forget, Cond.initialized RX2, Cond.code yX2_forget cX2_forget 1 none, Cond.fieldLink RX2 26 "ChangerFair$Custom" "clauseCount" "I", Cond.methodLink RX3 28 yX3_readText, Cond.instanceMethod yX3_readText, Cond.selects RX3 yX3_readText yX3_readText, Cond.initialized RX3, Cond.code yX3_readText cX3_readText 3 (some .boolean), Cond.fieldLink RX3 38 "ChangerFair$CustomReader" "word" "I", Cond.methodLink RX3 35 yX3_nextWord, Cond.instanceMethod yX3_nextWord, Cond.selects RX3 yX3_nextWord yX3_nextWord, Cond.code yX3_nextWord cX3_nextWord 1 none, Cond.fieldLink RX3 13 "ChangerFair$CustomReader" "tape" "[I", Cond.methodLink RX3 59 yX3_isLetter, Cond.static yX3_isLetter, Cond.code yX3_isLetter cX3_isLetter 1 (some .boolean)]
def wsX3_readInto_r2 : List Cond := [Cond.methodLink RX3 63 yX3_readLetters, Cond.instanceMethod yX3_readLetters, Cond.selects RX3 yX3_readLetters yX3_readLetters, Cond.code yX3_readLetters cX3_readLetters 1 none, Cond.methodLink RX3 83 yX3_letterWord, Cond.instanceMethod yX3_letterWord, Cond.selects RX3 yX3_letterWord yX3_letterWord, Cond.code yX3_letterWord cX3_letterWord 1 (some .int), Cond.methodLink RX3 89 yX3_spells, Cond.instanceMethod yX3_spells, Cond.selects RX3 yX3_spells yX3_spells, Cond.code yX3_spells cX3_spells 3 (some .boolean), Cond.methodLink RX3 109 yJ0_length_8abf5, Cond.instanceMethod yJ0_length_8abf5, Cond.selects RJ0 yJ0_length_8abf5 yJ0_length_8abf5, Cond.initialized RJ0, Cond.code yJ0_length_8abf5 cJ0_length_8abf5 1 (some .int), Cond.fieldLink RJ0 9 "java/lang/String" "value" "[B", Cond.methodLink RJ0 335 yJ0_coder_7d493, Cond.instanceMethod yJ0_coder_7d493, Cond.selects RJ0 yJ0_coder_7d493 yJ0_coder_7d493, Cond.code yJ0_coder_7d493 cJ0_coder_7d493 1 (some .byte), Cond.fieldLink RJ0 38 "java/lang/String" "COMPACT_STRINGS" "Z", Cond.fieldLink RJ0 15 "java/lang/String" "coder" "B"]
def wsX3_readInto_r3 : List Cond := [Cond.methodLink RX3 113 yJ0_charAt_5068e, Cond.instanceMethod yJ0_charAt_5068e, Cond.selects RJ0 yJ0_charAt_5068e yJ0_charAt_5068e, Cond.code yJ0_charAt_5068e cJ0_charAt_5068e 2 (some .char), Cond.methodLink RJ0 492 yJ0_isLatin1_aae02, Cond.instanceMethod yJ0_isLatin1_aae02, Cond.selects RJ0 yJ0_isLatin1_aae02 yJ0_isLatin1_aae02, Cond.code yJ0_isLatin1_aae02 cJ0_isLatin1_aae02 1 (some .boolean), Cond.methodLink RJ0 495 yJ1_charAt_3b067, Cond.static yJ1_charAt_3b067, Cond.initialized RJ1, Cond.code yJ1_charAt_3b067 cJ1_charAt_3b067 2 (some .char), Cond.methodLink RJ1 9 yJ0_checkIndex_df160, Cond.static yJ0_checkIndex_df160, Cond.code yJ0_checkIndex_df160 cJ0_checkIndex_df160 2 none, Cond.fieldLink RJ0 1053 "jdk/internal/util/Preconditions" "SIOOBE_FORMATTER" "Ljava/util/function/BiFunction;", Cond.methodLink RJ0 1059 yJ3_checkIndex_8e157, Cond.static yJ3_checkIndex_8e157, Cond.initialized RJ3, Cond.code yJ3_checkIndex_8e157 cJ3_checkIndex_8e157 3 (some .int), Cond.methodLink RJ0 498 yJ2_charAt_3b067, Cond.static yJ2_charAt_3b067, Cond.initialized RJ2, Cond.code yJ2_charAt_3b067 cJ2_charAt_3b067 2 (some .char)]
def wsX3_readInto_r4 : List Cond := [Cond.methodLink RJ2 67 yJ2_checkIndex_2214a, Cond.static yJ2_checkIndex_2214a, Cond.code yJ2_checkIndex_2214a cJ2_checkIndex_2214a 2 none, Cond.methodLink RJ2 48 yJ2_length_9d52b, Cond.static yJ2_length_9d52b, Cond.code yJ2_length_9d52b cJ2_length_9d52b 1 (some .int), Cond.methodLink RJ2 414 yJ0_checkIndex_df160, Cond.methodLink RJ2 71 yJ2_getChar_3b067, Cond.static yJ2_getChar_3b067, Cond.code yJ2_getChar_3b067 cJ2_getChar_3b067 2 (some .char), Cond.fieldLink RJ2 44 "java/lang/StringUTF16" "$assertionsDisabled" "Z", Cond.fieldLink RJ2 59 "java/lang/StringUTF16" "HI_BYTE_SHIFT" "I", Cond.fieldLink RJ2 63 "java/lang/StringUTF16" "LO_BYTE_SHIFT" "I", Cond.methodLink RX3 66 yX3_isFigure, Cond.static yX3_isFigure, Cond.code yX3_isFigure cX3_isFigure 1 (some .boolean), Cond.methodLink RX3 69 yX3_readFigures, Cond.instanceMethod yX3_readFigures, Cond.selects RX3 yX3_readFigures yX3_readFigures, Cond.code yX3_readFigures cX3_readFigures 1 none, Cond.fieldLink RX3 51 "ChangerFair$CustomReader" "number" "I", Cond.constant RX3 76 (1000000), Cond.methodLink RX3 77 Lib.Math.min.name, Cond.static Lib.Math.min.name]
def wsX3_readInto_r5 : List Cond := [Cond.initialized "java/lang/Math", Cond.code Lib.Math.min.name Lib.Math.min.code 2 (some .int), Cond.methodLink RX3 72 yX3_signWord, Cond.static yX3_signWord, Cond.code yX3_signWord cX3_signWord 1 (some .int), Cond.methodLink RX3 41 yX3_readClause, Cond.instanceMethod yX3_readClause, Cond.selects RX3 yX3_readClause yX3_readClause, Cond.code yX3_readClause cX3_readClause 3 (some .boolean), Cond.methodLink RX3 44 yX2_addClause, Cond.instanceMethod yX2_addClause, Cond.selects RX2 yX2_addClause yX2_addClause, Cond.code yX2_addClause cX2_addClause 2 none, Cond.fieldLink RX2 9 "ChangerFair$Custom" "verdicts" "[Z", Cond.fieldLink RX2 13 "ChangerFair$Custom" "testCounts" "[I", Cond.methodLink RX3 48 yX3_readTest, Cond.instanceMethod yX3_readTest, Cond.selects RX3 yX3_readTest yX3_readTest, Cond.code yX3_readTest cX3_readTest 4 (some .boolean), Cond.constant RX3 54 (999999), Cond.methodLink RX3 55 yX2_addTest, Cond.instanceMethod yX2_addTest, Cond.selects RX2 yX2_addTest yX2_addTest, Cond.code yX2_addTest cX2_addTest 6 none]
def wsX3_readInto_r6 : List Cond := [Cond.fieldLink RX2 17 "ChangerFair$Custom" "values" "[I", Cond.fieldLink RX2 20 "ChangerFair$Custom" "signs" "[I", Cond.fieldLink RX2 23 "ChangerFair$Custom" "numbers" "[I"]
def wsX3_readInto : List Cond := .code yX3_readInto cX3_readInto 3 (some .boolean) :: ((wsX3_readInto_r1 ++ (wsX3_readInto_r2 ++ (wsX3_readInto_r3 ++ (wsX3_readInto_r4 ++ (wsX3_readInto_r5 ++ wsX3_readInto_r6))))) ++ wsX30 ++ wsX20)
def wsX4_init : List Cond := .code yX4_init cX4_init 1 none :: ([.methodLink RX4 3 objectInit, .instanceMethod objectInit, .code objectInit ⟨#[0xb1]⟩ 1 none, .arrayClass .long, .fieldLink RX4 9 "ChangerFair$Parting" "pledged" "[J", .fieldLink RX4 15 "ChangerFair$Parting" "rest" "[J"] ++ wsX40)
def wsX4_begin : List Cond := .code yX4_begin cX4_begin 2 none :: ([.fieldLink RX4 9 "ChangerFair$Parting" "pledged" "[J"] ++ wsX40)
def wsX4_pledge : List Cond := .code yX4_pledge cX4_pledge 3 none :: ([.fieldLink RX4 9 "ChangerFair$Parting" "pledged" "[J"] ++ wsX40)
def wsX4_claim : List Cond := .code yX4_claim cX4_claim 4 none :: ([.fieldLink RX4 9 "ChangerFair$Parting" "pledged" "[J", .methodLink RX4 18 Lib.MathLoose.min_long.x, .static Lib.MathLoose.min_long.x, .initialized "java/lang/Math", .code Lib.MathLoose.min_long.x Lib.MathLoose.min_long.code 4 (some .long), .fieldLink RX4 15 "ChangerFair$Parting" "rest" "[J"] ++ wsX40)
def wsX4_total : List Cond := .code yX4_total cX4_total 4 (some .long) :: ([])
def wsX4_portion : List Cond := .code yX4_portion cX4_portion 10 (some .long) :: ([.constantLong RX4 39 (32768)])
def wsX4_shareIn : List Cond := .code yX4_shareIn cX4_shareIn 11 (some .long) :: ([.methodLink RX4 24 yX4_total, .static yX4_total, .initialized RX4, .code yX4_total cX4_total 4 (some .long), .methodLink RX4 35 yX4_portion, .static yX4_portion, .code yX4_portion cX4_portion 10 (some .long), .constantLong RX4 39 (32768)])
def wsX4_shareOf : List Cond := .code yX4_shareOf cX4_shareOf 6 (some .long) :: ([.fieldLink RX4 9 "ChangerFair$Parting" "pledged" "[J", .methodLink RX4 28 Lib.MathLoose.max_long.x, .static Lib.MathLoose.max_long.x, .initialized "java/lang/Math", .code Lib.MathLoose.max_long.x Lib.MathLoose.max_long.code 4 (some .long), .fieldLink RX4 15 "ChangerFair$Parting" "rest" "[J", .methodLink RX4 24 yX4_total, .static yX4_total, .initialized RX4, .code yX4_total cX4_total 4 (some .long), .methodLink RX4 31 yX4_shareIn, .static yX4_shareIn, .code yX4_shareIn cX4_shareIn 11 (some .long), .methodLink RX4 35 yX4_portion, .static yX4_portion, .code yX4_portion cX4_portion 10 (some .long), .constantLong RX4 39 (32768)] ++ wsX40)
def wsX5_init : List Cond := .code yX5_init cX5_init 1 none :: ([.methodLink RX5 3 objectInit, .instanceMethod objectInit, .code objectInit ⟨#[0xb1]⟩ 1 none, .arrayClass .long, .fieldLink RX5 9 "ChangerFair$Plan" "left" "[J", .fieldLink RX5 15 "ChangerFair$Plan" "sums" "[J", .arrayClass .int, .fieldLink RX5 18 "ChangerFair$Plan" "zeroSets" "[I", .fieldLink RX5 22 "ChangerFair$Plan" "mostGroups" "[I", .fieldLink RX5 25 "ChangerFair$Plan" "payers" "[I", .fieldLink RX5 28 "ChangerFair$Plan" "payees" "[I", .fieldLink RX5 31 "ChangerFair$Plan" "amounts" "[J", .constantLong RX5 34 (-1), .fieldLink RX5 36 "ChangerFair$Plan" "changesSeen" "J"] ++ wsX50)
def wsX5_readNets : List Cond := .code yX5_readNets cX5_readNets 4 (some .int) :: ([.fieldLink RX5 9 "ChangerFair$Plan" "left" "[J", .methodLink RX5 77 yX1_balance, .instanceMethod yX1_balance, .selects RX1 yX1_balance yX1_balance, .initialized RX1, .code yX1_balance cX1_balance 5 (some .long), .fieldLink RX1 11 "ChangerFair$Book" "debts" "[[J"] ++ wsX50 ++ wsX10)
def wsX5_addUp : List Cond := .code yX5_addUp cX5_addUp 4 none :: ([.fieldLink RX5 15 "ChangerFair$Plan" "sums" "[J", .fieldLink RX5 9 "ChangerFair$Plan" "left" "[J"] ++ wsX50)
def wsX5_listZeroSets : List Cond := .code yX5_listZeroSets cX5_listZeroSets 3 none :: ([.fieldLink RX5 81 "ChangerFair$Plan" "zeroSetCount" "I", .fieldLink RX5 15 "ChangerFair$Plan" "sums" "[J", .fieldLink RX5 18 "ChangerFair$Plan" "zeroSets" "[I"] ++ wsX50)
def wsX5_mayBeFirst : List Cond := .code yX5_mayBeFirst cX5_mayBeFirst 3 (some .boolean) :: ([])
def wsX5_countGroups : List Cond := .code yX5_countGroups cX5_countGroups 5 none :: ([.fieldLink RX5 81 "ChangerFair$Plan" "zeroSetCount" "I", .fieldLink RX5 18 "ChangerFair$Plan" "zeroSets" "[I", .fieldLink RX5 22 "ChangerFair$Plan" "mostGroups" "[I", .methodLink RX5 88 Lib.Math.max.name, .static Lib.Math.max.name, .initialized "java/lang/Math", .code Lib.Math.max.name Lib.Math.max.code 2 (some .int), .methodLink RX5 84 yX5_mayBeFirst, .static yX5_mayBeFirst, .initialized RX5, .code yX5_mayBeFirst cX5_mayBeFirst 3 (some .boolean)] ++ wsX50)
def wsX5_firstGroup : List Cond := .code yX5_firstGroup cX5_firstGroup 4 (some .int) :: ([.fieldLink RX5 81 "ChangerFair$Plan" "zeroSetCount" "I", .fieldLink RX5 18 "ChangerFair$Plan" "zeroSets" "[I", .fieldLink RX5 22 "ChangerFair$Plan" "mostGroups" "[I", .methodLink RX5 84 yX5_mayBeFirst, .static yX5_mayBeFirst, .initialized RX5, .code yX5_mayBeFirst cX5_mayBeFirst 3 (some .boolean)] ++ wsX50)
def wsX5_leastOf : List Cond := .code yX5_leastOf cX5_leastOf 4 (some .int) :: ([.fieldLink RX5 9 "ChangerFair$Plan" "left" "[J"] ++ wsX50)
def wsX5_payWithin : List Cond := .code yX5_payWithin cX5_payWithin 7 none :: ([.fieldLink RX5 49 "ChangerFair$Plan" "paymentCount" "I", .fieldLink RX5 9 "ChangerFair$Plan" "left" "[J", .methodLink RX5 97 Lib.MathLoose.min_long.x, .static Lib.MathLoose.min_long.x, .initialized "java/lang/Math", .code Lib.MathLoose.min_long.x Lib.MathLoose.min_long.code 4 (some .long), .fieldLink RX5 25 "ChangerFair$Plan" "payers" "[I", .fieldLink RX5 28 "ChangerFair$Plan" "payees" "[I", .fieldLink RX5 31 "ChangerFair$Plan" "amounts" "[J", .methodLink RX5 94 yX5_leastOf, .instanceMethod yX5_leastOf, .selects RX5 yX5_leastOf yX5_leastOf, .initialized RX5, .code yX5_leastOf cX5_leastOf 4 (some .int)] ++ wsX50)
def wsX5_refresh_r1 : List Cond := [Cond.fieldLink RX5 36 "ChangerFair$Plan" "changesSeen" "J", Cond.fieldLink RX5 40 "ChangerFair$Book" "changes" "J", Cond.fieldLink RX5 45 "ChangerFair$Plan" "groupCount" "I", Cond.fieldLink RX5 49 "ChangerFair$Plan" "paymentCount" "I", Cond.methodLink RX5 52 yX5_readNets, Cond.instanceMethod yX5_readNets, Cond.selects RX5 yX5_readNets yX5_readNets, Cond.initialized RX5, Cond.code yX5_readNets cX5_readNets 4 (some .int), Cond.fieldLink RX5 9 "ChangerFair$Plan" "left" "[J", Cond.methodLink RX5 77 yX1_balance, Cond.instanceMethod yX1_balance, Cond.selects RX1 yX1_balance yX1_balance, Cond.initialized RX1, Cond.code yX1_balance cX1_balance 5 (some .long), Cond.fieldLink RX1 11 "ChangerFair$Book" "debts" "[[J", Cond.methodLink RX5 56 yX5_addUp, Cond.instanceMethod yX5_addUp, Cond.selects RX5 yX5_addUp yX5_addUp, Cond.code yX5_addUp cX5_addUp 4 none, Cond.fieldLink RX5 15 "ChangerFair$Plan" "sums" "[J", Cond.methodLink RX5 59 yX5_listZeroSets, Cond.instanceMethod yX5_listZeroSets, Cond.selects RX5 yX5_listZeroSets yX5_listZeroSets]
def wsX5_refresh_r2 : List Cond := [Cond.code yX5_listZeroSets cX5_listZeroSets 3 none, Cond.fieldLink RX5 81 "ChangerFair$Plan" "zeroSetCount" "I", Cond.fieldLink RX5 18 "ChangerFair$Plan" "zeroSets" "[I", Cond.methodLink RX5 63 yX5_countGroups, Cond.instanceMethod yX5_countGroups, Cond.selects RX5 yX5_countGroups yX5_countGroups, Cond.code yX5_countGroups cX5_countGroups 5 none, Cond.fieldLink RX5 22 "ChangerFair$Plan" "mostGroups" "[I", Cond.methodLink RX5 88 Lib.Math.max.name, Cond.static Lib.Math.max.name, Cond.initialized "java/lang/Math", Cond.code Lib.Math.max.name Lib.Math.max.code 2 (some .int), Cond.methodLink RX5 84 yX5_mayBeFirst, Cond.static yX5_mayBeFirst, Cond.code yX5_mayBeFirst cX5_mayBeFirst 3 (some .boolean), Cond.methodLink RX5 66 yX5_firstGroup, Cond.instanceMethod yX5_firstGroup, Cond.selects RX5 yX5_firstGroup yX5_firstGroup, Cond.code yX5_firstGroup cX5_firstGroup 4 (some .int), Cond.methodLink RX5 70 yX5_payWithin, Cond.instanceMethod yX5_payWithin, Cond.selects RX5 yX5_payWithin yX5_payWithin, Cond.code yX5_payWithin cX5_payWithin 7 none, Cond.methodLink RX5 97 Lib.MathLoose.min_long.x]
def wsX5_refresh_r3 : List Cond := [Cond.static Lib.MathLoose.min_long.x, Cond.code Lib.MathLoose.min_long.x Lib.MathLoose.min_long.code 4 (some .long), Cond.fieldLink RX5 25 "ChangerFair$Plan" "payers" "[I", Cond.fieldLink RX5 28 "ChangerFair$Plan" "payees" "[I", Cond.fieldLink RX5 31 "ChangerFair$Plan" "amounts" "[J", Cond.methodLink RX5 94 yX5_leastOf, Cond.instanceMethod yX5_leastOf, Cond.selects RX5 yX5_leastOf yX5_leastOf, Cond.code yX5_leastOf cX5_leastOf 4 (some .int)]
def wsX5_refresh : List Cond := .code yX5_refresh cX5_refresh 5 none :: ((wsX5_refresh_r1 ++ (wsX5_refresh_r2 ++ wsX5_refresh_r3)) ++ wsX50 ++ wsX10)
def wsX5_hasPayment : List Cond := .code yX5_hasPayment cX5_hasPayment 2 (some .boolean) :: ([.fieldLink RX5 49 "ChangerFair$Plan" "paymentCount" "I"] ++ wsX50)
def wsX5_figure : List Cond := .code yX5_figure cX5_figure 3 (some .long) :: ([.fieldLink RX5 25 "ChangerFair$Plan" "payers" "[I", .fieldLink RX5 28 "ChangerFair$Plan" "payees" "[I", .fieldLink RX5 31 "ChangerFair$Plan" "amounts" "[J", .methodLink RX5 73 yX5_hasPayment, .instanceMethod yX5_hasPayment, .selects RX5 yX5_hasPayment yX5_hasPayment, .initialized RX5, .code yX5_hasPayment cX5_hasPayment 2 (some .boolean), .fieldLink RX5 49 "ChangerFair$Plan" "paymentCount" "I"] ++ wsX50)
def wsX6_init : List Cond := .code yX6_init cX6_init 1 none :: ([.methodLink RX6 3 objectInit, .instanceMethod objectInit, .code objectInit ⟨#[0xb1]⟩ 1 none, .arrayClass .int, .fieldLink RX6 11 "ChangerFair$Purses" "worths" "[I", .classLink RX6 15 "[[I", .fieldLink RX6 17 "ChangerFair$Purses" "coins" "[[I"] ++ wsX60)
def wsX6_isKind : List Cond := .code yX6_isKind cX6_isKind 1 (some .boolean) :: ([])
def wsX6_isMeasure : List Cond := .code yX6_isMeasure cX6_isMeasure 1 (some .boolean) :: ([])
def wsX6_mint : List Cond := .code yX6_mint cX6_mint 4 none :: ([.fieldLink RX6 11 "ChangerFair$Purses" "worths" "[I"] ++ wsX60)
def wsX6_worth : List Cond := .code yX6_worth cX6_worth 2 (some .int) :: ([.fieldLink RX6 11 "ChangerFair$Purses" "worths" "[I"] ++ wsX60)
def wsX6_held : List Cond := .code yX6_held cX6_held 3 (some .int) :: ([.fieldLink RX6 17 "ChangerFair$Purses" "coins" "[[I"] ++ wsX60)
def wsX6_put : List Cond := .code yX6_put cX6_put 4 none :: ([.fieldLink RX6 17 "ChangerFair$Purses" "coins" "[[I"] ++ wsX60)
def wsX6_wealth : List Cond := .code yX6_wealth cX6_wealth 5 (some .long) :: ([.fieldLink RX6 17 "ChangerFair$Purses" "coins" "[[I", .fieldLink RX6 11 "ChangerFair$Purses" "worths" "[I"] ++ wsX60)
def wsX6_dearestBut : List Cond := .code yX6_dearestBut cX6_dearestBut 4 (some .int) :: ([.fieldLink RX6 11 "ChangerFair$Purses" "worths" "[I"] ++ wsX60)
def wsX6_handOver : List Cond := .code yX6_handOver cX6_handOver 12 (some .long) :: ([.fieldLink RX6 11 "ChangerFair$Purses" "worths" "[I", .fieldLink RX6 17 "ChangerFair$Purses" "coins" "[[I", .methodLink RX6 24 Lib.Math.min.name, .static Lib.Math.min.name, .initialized "java/lang/Math", .code Lib.Math.min.name Lib.Math.min.code 2 (some .int), .methodLink RX6 30 Lib.MathLoose.min_long.x, .static Lib.MathLoose.min_long.x, .code Lib.MathLoose.min_long.x Lib.MathLoose.min_long.code 4 (some .long), .methodLink RX6 20 yX6_dearestBut, .instanceMethod yX6_dearestBut, .selects RX6 yX6_dearestBut yX6_dearestBut, .initialized RX6, .code yX6_dearestBut cX6_dearestBut 4 (some .int)] ++ wsX60)
def wsX7_init : List Cond := .code yX7_init cX7_init 1 none :: ([.methodLink RX7 5 objectInit, .instanceMethod objectInit, .code objectInit ⟨#[0xb1]⟩ 1 none, .classLink RX7 11 "[[I", .arrayClass .int, .fieldLink RX7 13 "ChangerFair$Rates" "votes" "[[I", .fieldLink RX7 16 "ChangerFair$Rates" "offers" "[[I", .fieldLink RX7 19 "ChangerFair$Rates" "sorted" "[I"] ++ wsX70)
def wsX7_isVote : List Cond := .code yX7_isVote cX7_isVote 1 (some .boolean) :: ([])
def wsX7_isOffer : List Cond := .code yX7_isOffer cX7_isOffer 1 (some .boolean) :: ([])
def wsX7_changeVote : List Cond := .code yX7_changeVote cX7_changeVote 5 (some .int) :: ([.fieldLink RX7 13 "ChangerFair$Rates" "votes" "[[I"] ++ wsX70)
def wsX7_changeOffer : List Cond := .code yX7_changeOffer cX7_changeOffer 5 (some .int) :: ([.fieldLink RX7 16 "ChangerFair$Rates" "offers" "[[I"] ++ wsX70)
def wsX7_insertSorted : List Cond := .code yX7_insertSorted cX7_insertSorted 4 none :: ([.fieldLink RX7 19 "ChangerFair$Rates" "sorted" "[I"] ++ wsX70)
def wsX7_middleVote : List Cond := .code yX7_middleVote cX7_middleVote 4 (some .int) :: ([.fieldLink RX7 13 "ChangerFair$Rates" "votes" "[[I", .fieldLink RX7 19 "ChangerFair$Rates" "sorted" "[I", .methodLink RX7 23 yX7_insertSorted, .instanceMethod yX7_insertSorted, .selects RX7 yX7_insertSorted yX7_insertSorted, .initialized RX7, .code yX7_insertSorted cX7_insertSorted 4 none] ++ wsX70)
def wsX7_closeTurn : List Cond := .code yX7_closeTurn cX7_closeTurn 4 none :: ([.fieldLink RX7 29 "ChangerFair$Rates" "bestProduct" "J", .fieldLink RX7 33 "ChangerFair$Rates" "bestFigures" "I"] ++ wsX70)
def wsX7_extendTurn : List Cond := .code yX7_extendTurn cX7_extendTurn 9 none :: ([.fieldLink RX7 16 "ChangerFair$Rates" "offers" "[[I", .methodLink RX7 45 yX7_closeTurn, .instanceMethod yX7_closeTurn, .selects RX7 yX7_closeTurn yX7_closeTurn, .initialized RX7, .code yX7_closeTurn cX7_closeTurn 4 none, .fieldLink RX7 29 "ChangerFair$Rates" "bestProduct" "J", .fieldLink RX7 33 "ChangerFair$Rates" "bestFigures" "I", .methodLink RX7 39 yX7_extendTurn, .instanceMethod yX7_extendTurn, .selects RX7 yX7_extendTurn yX7_extendTurn] ++ wsX70)
def wsX7_bestTurn : List Cond := .code yX7_bestTurn cX7_bestTurn 5 (some .int) :: ([.constantLong RX7 27 (10000000000000000), .fieldLink RX7 29 "ChangerFair$Rates" "bestProduct" "J", .fieldLink RX7 33 "ChangerFair$Rates" "bestFigures" "I", .constantLong RX7 37 (100000000), .constantLong RX7 43 (10000), .methodLink RX7 39 yX7_extendTurn, .instanceMethod yX7_extendTurn, .selects RX7 yX7_extendTurn yX7_extendTurn, .initialized RX7, .code yX7_extendTurn cX7_extendTurn 9 none, .fieldLink RX7 16 "ChangerFair$Rates" "offers" "[[I", .methodLink RX7 45 yX7_closeTurn, .instanceMethod yX7_closeTurn, .selects RX7 yX7_closeTurn yX7_closeTurn, .code yX7_closeTurn cX7_closeTurn 4 none] ++ wsX70)
def wsX8_init_r1 : List Cond := [Cond.methodLink RX8 1 objectInit, Cond.instanceMethod objectInit, Cond.code objectInit ⟨#[0xb1]⟩ 1 none, Cond.arrayClass .long, Cond.fieldLink RX8 9 "ChangerFair" "findings" "[J", Cond.arrayClass .int, Cond.fieldLink RX8 13 "ChangerFair" "roads" "[I", Cond.fieldLink RX8 17 "ChangerFair" "seats" "[I", Cond.classLink RX8 20 RX0, Cond.fieldLink RX8 22 "ChangerFair" "bills" "[LChangerFair$Bill;", Cond.fieldLink RX8 28 "ChangerFair" "facts" "[I", Cond.fieldLink RX8 31 "ChangerFair" "told" "[I", Cond.classLink RX8 26 RX3, Cond.instantiable RX3 7, Cond.initialized RX3, Cond.fieldLink RX8 35 "ChangerFair" "reader" "LChangerFair$CustomReader;", Cond.classLink RX8 39 RX1, Cond.instantiable RX1 2, Cond.initialized RX1, Cond.fieldLink RX8 42 "ChangerFair" "book" "LChangerFair$Book;", Cond.classLink RX8 46 RX5, Cond.instantiable RX5 11, Cond.initialized RX5, Cond.fieldLink RX8 49 "ChangerFair" "plan" "LChangerFair$Plan;"]
def wsX8_init_r2 : List Cond := [Cond.classLink RX8 53 RX6, Cond.instantiable RX6 2, Cond.initialized RX6, Cond.fieldLink RX8 56 "ChangerFair" "purses" "LChangerFair$Purses;", Cond.classLink RX8 60 RX7, Cond.instantiable RX7 5, Cond.initialized RX7, Cond.fieldLink RX8 63 "ChangerFair" "rates" "LChangerFair$Rates;", Cond.classLink RX8 67 RX4, Cond.instantiable RX4 2, Cond.initialized RX4, Cond.fieldLink RX8 70 "ChangerFair" "parting" "LChangerFair$Parting;", Cond.classLink RX8 74 RX2, Cond.instantiable RX2 6, Cond.initialized RX2, Cond.fieldLink RX8 77 "ChangerFair" "custom" "LChangerFair$Custom;", Cond.fieldLink RX8 81 "ChangerFair" "draft" "LChangerFair$Custom;", Cond.fieldLink RX8 84 "ChangerFair" "gain" "I", Cond.instanceMethod yX3_init, Cond.code yX3_init cX3_init 1 none, Cond.methodLink RX3 1 objectInit, Cond.fieldLink RX3 9 "ChangerFair$CustomReader" "faultPlace" "I", Cond.fieldLink RX3 13 "ChangerFair$CustomReader" "tape" "[I", Cond.instanceMethod yX1_init]
def wsX8_init_r3 : List Cond := [Cond.code yX1_init cX1_init 1 none, Cond.methodLink RX1 3 objectInit, Cond.classLink RX1 9 "[[J", Cond.fieldLink RX1 11 "ChangerFair$Book" "debts" "[[J", Cond.instanceMethod yX5_init, Cond.code yX5_init cX5_init 1 none, Cond.methodLink RX5 3 objectInit, Cond.fieldLink RX5 9 "ChangerFair$Plan" "left" "[J", Cond.fieldLink RX5 15 "ChangerFair$Plan" "sums" "[J", Cond.fieldLink RX5 18 "ChangerFair$Plan" "zeroSets" "[I", Cond.fieldLink RX5 22 "ChangerFair$Plan" "mostGroups" "[I", Cond.fieldLink RX5 25 "ChangerFair$Plan" "payers" "[I", Cond.fieldLink RX5 28 "ChangerFair$Plan" "payees" "[I", Cond.fieldLink RX5 31 "ChangerFair$Plan" "amounts" "[J", Cond.constantLong RX5 34 (-1), Cond.fieldLink RX5 36 "ChangerFair$Plan" "changesSeen" "J", Cond.instanceMethod yX6_init, Cond.code yX6_init cX6_init 1 none, Cond.methodLink RX6 3 objectInit, Cond.fieldLink RX6 11 "ChangerFair$Purses" "worths" "[I", Cond.classLink RX6 15 "[[I", Cond.fieldLink RX6 17 "ChangerFair$Purses" "coins" "[[I", Cond.instanceMethod yX7_init, Cond.code yX7_init cX7_init 1 none]
def wsX8_init_r4 : List Cond := [Cond.methodLink RX7 5 objectInit, Cond.classLink RX7 11 "[[I", Cond.fieldLink RX7 13 "ChangerFair$Rates" "votes" "[[I", Cond.fieldLink RX7 16 "ChangerFair$Rates" "offers" "[[I", Cond.fieldLink RX7 19 "ChangerFair$Rates" "sorted" "[I", Cond.instanceMethod yX4_init, Cond.code yX4_init cX4_init 1 none, Cond.methodLink RX4 3 objectInit, Cond.fieldLink RX4 9 "ChangerFair$Parting" "pledged" "[J", Cond.fieldLink RX4 15 "ChangerFair$Parting" "rest" "[J", Cond.instanceMethod yX2_init, Cond.code yX2_init cX2_init 1 none, Cond.methodLink RX2 1 objectInit, Cond.arrayClass .boolean, Cond.fieldLink RX2 9 "ChangerFair$Custom" "verdicts" "[Z", Cond.fieldLink RX2 13 "ChangerFair$Custom" "testCounts" "[I", Cond.fieldLink RX2 17 "ChangerFair$Custom" "values" "[I", Cond.fieldLink RX2 20 "ChangerFair$Custom" "signs" "[I", Cond.fieldLink RX2 23 "ChangerFair$Custom" "numbers" "[I"]
def wsX8_init : List Cond := .code yX8_init cX8_init 1 none :: ((wsX8_init_r1 ++ (wsX8_init_r2 ++ (wsX8_init_r3 ++ wsX8_init_r4))) ++ wsX80 ++ wsX30 ++ wsX10 ++ wsX50 ++ wsX60 ++ wsX70 ++ wsX40 ++ wsX20)
def wsX8_finding : List Cond := .code yX8_finding cX8_finding 2 (some .long) :: ([.fieldLink RX8 9 "ChangerFair" "findings" "[J", .constantLong RX8 336 (-1000000000000)] ++ wsX80)
def wsX8_days_r1 : List Cond := [Cond.fieldLink RX8 92 "ChangerFair" "day" "I", Cond.fieldLink RX8 42 "ChangerFair" "book" "LChangerFair$Book;", Cond.fieldLink RX8 84 "ChangerFair" "gain" "I", Cond.methodLink RX8 88 yX8_finding, Cond.instanceMethod yX8_finding, Cond.selects RX8 yX8_finding yX8_finding, Cond.initialized RX8, Cond.code yX8_finding cX8_finding 2 (some .long), Cond.fieldLink RX8 9 "ChangerFair" "findings" "[J", Cond.constantLong RX8 336 (-1000000000000), Cond.methodLink RX8 95 yX1_carryOverfills, Cond.instanceMethod yX1_carryOverfills, Cond.selects RX1 yX1_carryOverfills yX1_carryOverfills, Cond.initialized RX1, Cond.code yX1_carryOverfills cX1_carryOverfills 4 (some .boolean), Cond.fieldLink RX1 11 "ChangerFair$Book" "debts" "[[J", Cond.constantLong RX1 16 (1000000000), Cond.methodLink RX1 28 yX1_carried, Cond.static yX1_carried, Cond.code yX1_carried cX1_carried 3 (some .long), Cond.constantLong RX1 32 (1000), Cond.methodLink RX8 99 yX1_carry, Cond.instanceMethod yX1_carry, Cond.selects RX1 yX1_carry yX1_carry]
def wsX8_days_r2 : List Cond := [Cond.code yX1_carry cX1_carry 4 none, Cond.fieldLink RX1 24 "ChangerFair$Book" "changes" "J"]
def wsX8_days : List Cond := .code yX8_days cX8_days 3 (some .long) :: ((wsX8_days_r1 ++ wsX8_days_r2) ++ wsX80 ++ wsX10)
def wsX8_gain : List Cond := .code yX8_gain cX8_gain 3 (some .long) :: ([.fieldLink RX8 84 "ChangerFair" "gain" "I", .methodLink RX8 88 yX8_finding, .instanceMethod yX8_finding, .selects RX8 yX8_finding yX8_finding, .initialized RX8, .code yX8_finding cX8_finding 2 (some .long), .fieldLink RX8 9 "ChangerFair" "findings" "[J", .constantLong RX8 336 (-1000000000000)] ++ wsX80)
def wsX8_isTown : List Cond := .code yX8_isTown cX8_isTown 1 (some .boolean) :: ([])
def wsX8_road : List Cond := .code yX8_road cX8_road 4 (some .long) :: ([.fieldLink RX8 13 "ChangerFair" "roads" "[I", .methodLink RX8 103 yX8_isTown, .static yX8_isTown, .initialized RX8, .code yX8_isTown cX8_isTown 1 (some .boolean), .methodLink RX8 88 yX8_finding, .instanceMethod yX8_finding, .selects RX8 yX8_finding yX8_finding, .code yX8_finding cX8_finding 2 (some .long), .fieldLink RX8 9 "ChangerFair" "findings" "[J", .constantLong RX8 336 (-1000000000000)] ++ wsX80)
def wsX8_isHouse : List Cond := .code yX8_isHouse cX8_isHouse 1 (some .boolean) :: ([])
def wsX8_seat : List Cond := .code yX8_seat cX8_seat 4 (some .long) :: ([.fieldLink RX8 17 "ChangerFair" "seats" "[I", .methodLink RX8 106 yX8_isHouse, .static yX8_isHouse, .initialized RX8, .code yX8_isHouse cX8_isHouse 1 (some .boolean), .methodLink RX8 103 yX8_isTown, .static yX8_isTown, .code yX8_isTown cX8_isTown 1 (some .boolean), .methodLink RX8 88 yX8_finding, .instanceMethod yX8_finding, .selects RX8 yX8_finding yX8_finding, .code yX8_finding cX8_finding 2 (some .long), .fieldLink RX8 9 "ChangerFair" "findings" "[J", .constantLong RX8 336 (-1000000000000)] ++ wsX80)
def wsX8_isBillKind : List Cond := .code yX8_isBillKind cX8_isBillKind 1 (some .boolean) :: ([])
def wsX8_draw_r1 : List Cond := [Cond.constant RX8 112 (100000), Cond.fieldLink RX8 113 "ChangerFair" "billCount" "I", Cond.classLink RX8 20 RX0, Cond.instantiable RX0 10, Cond.initialized RX0, Cond.fieldLink RX8 92 "ChangerFair" "day" "I", Cond.fieldLink RX8 22 "ChangerFair" "bills" "[LChangerFair$Bill;", Cond.methodLink RX8 109 yX8_isBillKind, Cond.static yX8_isBillKind, Cond.initialized RX8, Cond.code yX8_isBillKind cX8_isBillKind 1 (some .boolean), Cond.methodLink RX8 106 yX8_isHouse, Cond.static yX8_isHouse, Cond.code yX8_isHouse cX8_isHouse 1 (some .boolean), Cond.methodLink RX8 88 yX8_finding, Cond.instanceMethod yX8_finding, Cond.selects RX8 yX8_finding yX8_finding, Cond.code yX8_finding cX8_finding 2 (some .long), Cond.fieldLink RX8 9 "ChangerFair" "findings" "[J", Cond.constantLong RX8 336 (-1000000000000), Cond.methodLink RX8 116 yX0_init, Cond.instanceMethod yX0_init, Cond.code yX0_init cX0_init 7 none, Cond.methodLink RX0 1 objectInit]
def wsX8_draw_r2 : List Cond := [Cond.instanceMethod objectInit, Cond.code objectInit ⟨#[0xb1]⟩ 1 none, Cond.arrayClass .int, Cond.fieldLink RX0 9 "ChangerFair$Bill" "endorsers" "[I", Cond.fieldLink RX0 13 "ChangerFair$Bill" "began" "[I", Cond.fieldLink RX0 16 "ChangerFair$Bill" "kind" "I", Cond.fieldLink RX0 20 "ChangerFair$Bill" "drawer" "I", Cond.fieldLink RX0 23 "ChangerFair$Bill" "drawee" "I", Cond.fieldLink RX0 26 "ChangerFair$Bill" "holder" "I", Cond.fieldLink RX0 29 "ChangerFair$Bill" "amount" "I", Cond.methodLink RX8 119 yX0_become, Cond.instanceMethod yX0_become, Cond.selects RX0 yX0_become yX0_become, Cond.code yX0_become cX0_become 3 none, Cond.fieldLink RX0 32 "ChangerFair$Bill" "state" "I"]
def wsX8_draw : List Cond := .code yX8_draw cX8_draw 7 (some .long) :: ((wsX8_draw_r1 ++ wsX8_draw_r2) ++ wsX80 ++ wsX00)
def wsX8_billAt : List Cond := .code yX8_billAt cX8_billAt 2 (some (.object "ChangerFair$Bill")) :: ([.fieldLink RX8 113 "ChangerFair" "billCount" "I", .fieldLink RX8 22 "ChangerFair" "bills" "[LChangerFair$Bill;"] ++ wsX80)
def wsX8_pass_r1 : List Cond := [Cond.fieldLink RX8 127 "ChangerFair$Bill" "state" "I", Cond.fieldLink RX8 130 "ChangerFair$Bill" "holder" "I", Cond.fieldLink RX8 140 "ChangerFair$Bill" "endorserCount" "I", Cond.methodLink RX8 123 yX8_billAt, Cond.instanceMethod yX8_billAt, Cond.selects RX8 yX8_billAt yX8_billAt, Cond.initialized RX8, Cond.code yX8_billAt cX8_billAt 2 (some (.object "ChangerFair$Bill")), Cond.fieldLink RX8 113 "ChangerFair" "billCount" "I", Cond.fieldLink RX8 22 "ChangerFair" "bills" "[LChangerFair$Bill;", Cond.methodLink RX8 106 yX8_isHouse, Cond.static yX8_isHouse, Cond.code yX8_isHouse cX8_isHouse 1 (some .boolean), Cond.methodLink RX8 88 yX8_finding, Cond.instanceMethod yX8_finding, Cond.selects RX8 yX8_finding yX8_finding, Cond.code yX8_finding cX8_finding 2 (some .long), Cond.fieldLink RX8 9 "ChangerFair" "findings" "[J", Cond.constantLong RX8 336 (-1000000000000), Cond.methodLink RX8 133 yX0_hasRoomToPass, Cond.instanceMethod yX0_hasRoomToPass, Cond.selects RX0 yX0_hasRoomToPass yX0_hasRoomToPass, Cond.initialized RX0, Cond.code yX0_hasRoomToPass cX0_hasRoomToPass 1 (some .boolean)]
def wsX8_pass_r2 : List Cond := [Cond.fieldLink RX0 16 "ChangerFair$Bill" "kind" "I", Cond.fieldLink RX0 35 "ChangerFair$Bill" "endorserCount" "I", Cond.methodLink RX8 137 yX0_moveTo, Cond.instanceMethod yX0_moveTo, Cond.selects RX0 yX0_moveTo yX0_moveTo, Cond.code yX0_moveTo cX0_moveTo 2 none, Cond.fieldLink RX0 9 "ChangerFair$Bill" "endorsers" "[I", Cond.fieldLink RX0 26 "ChangerFair$Bill" "holder" "I"]
def wsX8_pass : List Cond := .code yX8_pass cX8_pass 4 (some .long) :: ((wsX8_pass_r1 ++ wsX8_pass_r2) ++ wsX00 ++ wsX80)
def wsX8_isTakingDay : List Cond := .code yX8_isTakingDay cX8_isTakingDay 1 (some .boolean) :: ([.fieldLink RX8 92 "ChangerFair" "day" "I"] ++ wsX80)
def wsX8_take_r1 : List Cond := [Cond.fieldLink RX8 127 "ChangerFair$Bill" "state" "I", Cond.fieldLink RX8 92 "ChangerFair" "day" "I", Cond.methodLink RX8 123 yX8_billAt, Cond.instanceMethod yX8_billAt, Cond.selects RX8 yX8_billAt yX8_billAt, Cond.initialized RX8, Cond.code yX8_billAt cX8_billAt 2 (some (.object "ChangerFair$Bill")), Cond.fieldLink RX8 113 "ChangerFair" "billCount" "I", Cond.fieldLink RX8 22 "ChangerFair" "bills" "[LChangerFair$Bill;", Cond.methodLink RX8 88 yX8_finding, Cond.instanceMethod yX8_finding, Cond.selects RX8 yX8_finding yX8_finding, Cond.code yX8_finding cX8_finding 2 (some .long), Cond.fieldLink RX8 9 "ChangerFair" "findings" "[J", Cond.constantLong RX8 336 (-1000000000000), Cond.methodLink RX8 143 yX8_isTakingDay, Cond.instanceMethod yX8_isTakingDay, Cond.selects RX8 yX8_isTakingDay yX8_isTakingDay, Cond.code yX8_isTakingDay cX8_isTakingDay 1 (some .boolean), Cond.methodLink RX8 119 yX0_become, Cond.instanceMethod yX0_become, Cond.selects RX0 yX0_become yX0_become, Cond.initialized RX0, Cond.code yX0_become cX0_become 3 none]
def wsX8_take_r2 : List Cond := [Cond.fieldLink RX0 32 "ChangerFair$Bill" "state" "I", Cond.fieldLink RX0 13 "ChangerFair$Bill" "began" "[I"]
def wsX8_take : List Cond := .code yX8_take cX8_take 4 (some .long) :: ((wsX8_take_r1 ++ wsX8_take_r2) ++ wsX00 ++ wsX80)
def wsX8_overfills : List Cond := .code yX8_overfills cX8_overfills 3 (some .boolean) :: ([.fieldLink RX8 130 "ChangerFair$Bill" "holder" "I", .fieldLink RX8 42 "ChangerFair" "book" "LChangerFair$Book;", .fieldLink RX8 161 "ChangerFair$Bill" "amount" "I", .methodLink RX8 225 yX1_overfills, .instanceMethod yX1_overfills, .selects RX1 yX1_overfills yX1_overfills, .initialized RX1, .code yX1_overfills cX1_overfills 5 (some .boolean), .fieldLink RX1 11 "ChangerFair$Book" "debts" "[[J", .constantLong RX1 16 (1000000000)] ++ wsX00 ++ wsX80 ++ wsX10)
def wsX8_charge : List Cond := .code yX8_charge cX8_charge 3 none :: ([.fieldLink RX8 130 "ChangerFair$Bill" "holder" "I", .fieldLink RX8 42 "ChangerFair" "book" "LChangerFair$Book;", .fieldLink RX8 161 "ChangerFair$Bill" "amount" "I", .methodLink RX8 228 yX1_charge, .instanceMethod yX1_charge, .selects RX1 yX1_charge yX1_charge, .initialized RX1, .code yX1_charge cX1_charge 7 none, .fieldLink RX1 11 "ChangerFair$Book" "debts" "[[J", .methodLink RX1 18 Lib.MathLoose.max_long.x, .static Lib.MathLoose.max_long.x, .initialized "java/lang/Math", .code Lib.MathLoose.max_long.x Lib.MathLoose.max_long.code 4 (some .long), .fieldLink RX1 24 "ChangerFair$Book" "changes" "J"] ++ wsX00 ++ wsX80 ++ wsX10)
def wsX8_pay_r1 : List Cond := [Cond.fieldLink RX8 127 "ChangerFair$Bill" "state" "I", Cond.fieldLink RX8 146 "ChangerFair$Bill" "drawee" "I", Cond.fieldLink RX8 92 "ChangerFair" "day" "I", Cond.fieldLink RX8 157 "ChangerFair$Bill" "paidByDrawee" "Z", Cond.fieldLink RX8 130 "ChangerFair$Bill" "holder" "I", Cond.fieldLink RX8 161 "ChangerFair$Bill" "amount" "I", Cond.methodLink RX8 123 yX8_billAt, Cond.instanceMethod yX8_billAt, Cond.selects RX8 yX8_billAt yX8_billAt, Cond.initialized RX8, Cond.code yX8_billAt cX8_billAt 2 (some (.object "ChangerFair$Bill")), Cond.fieldLink RX8 113 "ChangerFair" "billCount" "I", Cond.fieldLink RX8 22 "ChangerFair" "bills" "[LChangerFair$Bill;", Cond.methodLink RX8 88 yX8_finding, Cond.instanceMethod yX8_finding, Cond.selects RX8 yX8_finding yX8_finding, Cond.code yX8_finding cX8_finding 2 (some .long), Cond.fieldLink RX8 9 "ChangerFair" "findings" "[J", Cond.constantLong RX8 336 (-1000000000000), Cond.methodLink RX8 143 yX8_isTakingDay, Cond.instanceMethod yX8_isTakingDay, Cond.selects RX8 yX8_isTakingDay yX8_isTakingDay, Cond.code yX8_isTakingDay cX8_isTakingDay 1 (some .boolean), Cond.methodLink RX8 149 yX8_overfills]
def wsX8_pay_r2 : List Cond := [Cond.instanceMethod yX8_overfills, Cond.selects RX8 yX8_overfills yX8_overfills, Cond.code yX8_overfills cX8_overfills 3 (some .boolean), Cond.fieldLink RX8 42 "ChangerFair" "book" "LChangerFair$Book;", Cond.methodLink RX8 225 yX1_overfills, Cond.instanceMethod yX1_overfills, Cond.selects RX1 yX1_overfills yX1_overfills, Cond.initialized RX1, Cond.code yX1_overfills cX1_overfills 5 (some .boolean), Cond.fieldLink RX1 11 "ChangerFair$Book" "debts" "[[J", Cond.constantLong RX1 16 (1000000000), Cond.methodLink RX8 153 yX8_charge, Cond.instanceMethod yX8_charge, Cond.selects RX8 yX8_charge yX8_charge, Cond.code yX8_charge cX8_charge 3 none, Cond.methodLink RX8 228 yX1_charge, Cond.instanceMethod yX1_charge, Cond.selects RX1 yX1_charge yX1_charge, Cond.code yX1_charge cX1_charge 7 none, Cond.methodLink RX1 18 Lib.MathLoose.max_long.x, Cond.static Lib.MathLoose.max_long.x, Cond.initialized "java/lang/Math", Cond.code Lib.MathLoose.max_long.x Lib.MathLoose.max_long.code 4 (some .long), Cond.fieldLink RX1 24 "ChangerFair$Book" "changes" "J"]
def wsX8_pay_r3 : List Cond := [Cond.methodLink RX8 119 yX0_become, Cond.instanceMethod yX0_become, Cond.selects RX0 yX0_become yX0_become, Cond.initialized RX0, Cond.code yX0_become cX0_become 3 none, Cond.fieldLink RX0 32 "ChangerFair$Bill" "state" "I", Cond.fieldLink RX0 13 "ChangerFair$Bill" "began" "[I"]
def wsX8_pay : List Cond := .code yX8_pay cX8_pay 3 (some .long) :: ((wsX8_pay_r1 ++ (wsX8_pay_r2 ++ wsX8_pay_r3)) ++ wsX00 ++ wsX80 ++ wsX10)
def wsX8_protest_r1 : List Cond := [Cond.fieldLink RX8 127 "ChangerFair$Bill" "state" "I", Cond.fieldLink RX8 92 "ChangerFair" "day" "I", Cond.methodLink RX8 123 yX8_billAt, Cond.instanceMethod yX8_billAt, Cond.selects RX8 yX8_billAt yX8_billAt, Cond.initialized RX8, Cond.code yX8_billAt cX8_billAt 2 (some (.object "ChangerFair$Bill")), Cond.fieldLink RX8 113 "ChangerFair" "billCount" "I", Cond.fieldLink RX8 22 "ChangerFair" "bills" "[LChangerFair$Bill;", Cond.methodLink RX8 88 yX8_finding, Cond.instanceMethod yX8_finding, Cond.selects RX8 yX8_finding yX8_finding, Cond.code yX8_finding cX8_finding 2 (some .long), Cond.fieldLink RX8 9 "ChangerFair" "findings" "[J", Cond.constantLong RX8 336 (-1000000000000), Cond.methodLink RX8 119 yX0_become, Cond.instanceMethod yX0_become, Cond.selects RX0 yX0_become yX0_become, Cond.initialized RX0, Cond.code yX0_become cX0_become 3 none, Cond.fieldLink RX0 32 "ChangerFair$Bill" "state" "I", Cond.fieldLink RX0 13 "ChangerFair$Bill" "began" "[I", Cond.methodLink RX8 164 yX0_daysLate, Cond.instanceMethod yX0_daysLate]
def wsX8_protest_r2 : List Cond := [Cond.selects RX0 yX0_daysLate yX0_daysLate, Cond.code yX0_daysLate cX0_daysLate 1 (some .int)]
def wsX8_protest : List Cond := .code yX8_protest cX8_protest 3 (some .long) :: ((wsX8_protest_r1 ++ wsX8_protest_r2) ++ wsX00 ++ wsX80)
def wsX8_roadOf : List Cond := .code yX8_roadOf cX8_roadOf 2 (some .int) :: ([.fieldLink RX8 13 "ChangerFair" "roads" "[I", .fieldLink RX8 17 "ChangerFair" "seats" "[I"] ++ wsX80)
def wsX8_customBinds : List Cond := .code yX8_customBinds cX8_customBinds 6 (some .boolean) :: ([.fieldLink RX8 28 "ChangerFair" "facts" "[I", .fieldLink RX8 77 "ChangerFair" "custom" "LChangerFair$Custom;", .methodLink RX8 338 yX2_bindsFor, .instanceMethod yX2_bindsFor, .selects RX2 yX2_bindsFor yX2_bindsFor, .initialized RX2, .code yX2_bindsFor cX2_bindsFor 3 (some .boolean), .fieldLink RX2 26 "ChangerFair$Custom" "clauseCount" "I", .fieldLink RX2 9 "ChangerFair$Custom" "verdicts" "[Z", .methodLink RX2 30 yX2_allTestsHold, .instanceMethod yX2_allTestsHold, .selects RX2 yX2_allTestsHold yX2_allTestsHold, .code yX2_allTestsHold cX2_allTestsHold 5 (some .boolean), .fieldLink RX2 13 "ChangerFair$Custom" "testCounts" "[I", .fieldLink RX2 17 "ChangerFair$Custom" "values" "[I", .fieldLink RX2 20 "ChangerFair$Custom" "signs" "[I", .fieldLink RX2 23 "ChangerFair$Custom" "numbers" "[I", .methodLink RX2 34 yX2_holds, .static yX2_holds, .code yX2_holds cX2_holds 3 (some .boolean)] ++ wsX80 ++ wsX20)
def wsX8_bindsEndorser_r1 : List Cond := [Cond.fieldLink RX8 161 "ChangerFair$Bill" "amount" "I", Cond.fieldLink RX8 184 "ChangerFair$Bill" "kind" "I", Cond.methodLink RX8 164 yX0_daysLate, Cond.instanceMethod yX0_daysLate, Cond.selects RX0 yX0_daysLate yX0_daysLate, Cond.initialized RX0, Cond.code yX0_daysLate cX0_daysLate 1 (some .int), Cond.fieldLink RX0 13 "ChangerFair$Bill" "began" "[I", Cond.methodLink RX8 177 yX0_endorserAt, Cond.instanceMethod yX0_endorserAt, Cond.selects RX0 yX0_endorserAt yX0_endorserAt, Cond.code yX0_endorserAt cX0_endorserAt 2 (some .int), Cond.fieldLink RX0 9 "ChangerFair$Bill" "endorsers" "[I", Cond.methodLink RX8 190 yX8_roadOf, Cond.instanceMethod yX8_roadOf, Cond.selects RX8 yX8_roadOf yX8_roadOf, Cond.initialized RX8, Cond.code yX8_roadOf cX8_roadOf 2 (some .int), Cond.fieldLink RX8 13 "ChangerFair" "roads" "[I", Cond.fieldLink RX8 17 "ChangerFair" "seats" "[I", Cond.methodLink RX8 216 yX8_customBinds, Cond.instanceMethod yX8_customBinds, Cond.selects RX8 yX8_customBinds yX8_customBinds, Cond.code yX8_customBinds cX8_customBinds 6 (some .boolean)]
def wsX8_bindsEndorser_r2 : List Cond := [Cond.fieldLink RX8 28 "ChangerFair" "facts" "[I", Cond.fieldLink RX8 77 "ChangerFair" "custom" "LChangerFair$Custom;", Cond.methodLink RX8 338 yX2_bindsFor, Cond.instanceMethod yX2_bindsFor, Cond.selects RX2 yX2_bindsFor yX2_bindsFor, Cond.initialized RX2, Cond.code yX2_bindsFor cX2_bindsFor 3 (some .boolean), Cond.fieldLink RX2 26 "ChangerFair$Custom" "clauseCount" "I", Cond.fieldLink RX2 9 "ChangerFair$Custom" "verdicts" "[Z", Cond.methodLink RX2 30 yX2_allTestsHold, Cond.instanceMethod yX2_allTestsHold, Cond.selects RX2 yX2_allTestsHold yX2_allTestsHold, Cond.code yX2_allTestsHold cX2_allTestsHold 5 (some .boolean), Cond.fieldLink RX2 13 "ChangerFair$Custom" "testCounts" "[I", Cond.fieldLink RX2 17 "ChangerFair$Custom" "values" "[I", Cond.fieldLink RX2 20 "ChangerFair$Custom" "signs" "[I", Cond.fieldLink RX2 23 "ChangerFair$Custom" "numbers" "[I", Cond.methodLink RX2 34 yX2_holds, Cond.static yX2_holds, Cond.code yX2_holds cX2_holds 3 (some .boolean)]
def wsX8_bindsEndorser : List Cond := .code yX8_bindsEndorser cX8_bindsEndorser 3 (some .boolean) :: ((wsX8_bindsEndorser_r1 ++ wsX8_bindsEndorser_r2) ++ wsX00 ++ wsX80 ++ wsX20)
def wsX8_recourse_r1 : List Cond := [Cond.fieldLink RX8 127 "ChangerFair$Bill" "state" "I", Cond.fieldLink RX8 174 "ChangerFair$Bill" "drawer" "I", Cond.fieldLink RX8 92 "ChangerFair" "day" "I", Cond.methodLink RX8 123 yX8_billAt, Cond.instanceMethod yX8_billAt, Cond.selects RX8 yX8_billAt yX8_billAt, Cond.initialized RX8, Cond.code yX8_billAt cX8_billAt 2 (some (.object "ChangerFair$Bill")), Cond.fieldLink RX8 113 "ChangerFair" "billCount" "I", Cond.fieldLink RX8 22 "ChangerFair" "bills" "[LChangerFair$Bill;", Cond.methodLink RX8 88 yX8_finding, Cond.instanceMethod yX8_finding, Cond.selects RX8 yX8_finding yX8_finding, Cond.code yX8_finding cX8_finding 2 (some .long), Cond.fieldLink RX8 9 "ChangerFair" "findings" "[J", Cond.constantLong RX8 336 (-1000000000000), Cond.methodLink RX8 168 yX0_hasEndorser, Cond.instanceMethod yX0_hasEndorser, Cond.selects RX0 yX0_hasEndorser yX0_hasEndorser, Cond.initialized RX0, Cond.code yX0_hasEndorser cX0_hasEndorser 2 (some .boolean), Cond.fieldLink RX0 35 "ChangerFair$Bill" "endorserCount" "I", Cond.methodLink RX8 171 yX8_bindsEndorser, Cond.instanceMethod yX8_bindsEndorser]
def wsX8_recourse_r2 : List Cond := [Cond.selects RX8 yX8_bindsEndorser yX8_bindsEndorser, Cond.code yX8_bindsEndorser cX8_bindsEndorser 3 (some .boolean), Cond.fieldLink RX8 161 "ChangerFair$Bill" "amount" "I", Cond.fieldLink RX8 184 "ChangerFair$Bill" "kind" "I", Cond.methodLink RX8 164 yX0_daysLate, Cond.instanceMethod yX0_daysLate, Cond.selects RX0 yX0_daysLate yX0_daysLate, Cond.code yX0_daysLate cX0_daysLate 1 (some .int), Cond.fieldLink RX0 13 "ChangerFair$Bill" "began" "[I", Cond.methodLink RX8 177 yX0_endorserAt, Cond.instanceMethod yX0_endorserAt, Cond.selects RX0 yX0_endorserAt yX0_endorserAt, Cond.code yX0_endorserAt cX0_endorserAt 2 (some .int), Cond.fieldLink RX0 9 "ChangerFair$Bill" "endorsers" "[I", Cond.methodLink RX8 190 yX8_roadOf, Cond.instanceMethod yX8_roadOf, Cond.selects RX8 yX8_roadOf yX8_roadOf, Cond.code yX8_roadOf cX8_roadOf 2 (some .int), Cond.fieldLink RX8 13 "ChangerFair" "roads" "[I", Cond.fieldLink RX8 17 "ChangerFair" "seats" "[I", Cond.methodLink RX8 216 yX8_customBinds, Cond.instanceMethod yX8_customBinds, Cond.selects RX8 yX8_customBinds yX8_customBinds, Cond.code yX8_customBinds cX8_customBinds 6 (some .boolean)]
def wsX8_recourse_r3 : List Cond := [Cond.fieldLink RX8 28 "ChangerFair" "facts" "[I", Cond.fieldLink RX8 77 "ChangerFair" "custom" "LChangerFair$Custom;", Cond.methodLink RX8 338 yX2_bindsFor, Cond.instanceMethod yX2_bindsFor, Cond.selects RX2 yX2_bindsFor yX2_bindsFor, Cond.initialized RX2, Cond.code yX2_bindsFor cX2_bindsFor 3 (some .boolean), Cond.fieldLink RX2 26 "ChangerFair$Custom" "clauseCount" "I", Cond.fieldLink RX2 9 "ChangerFair$Custom" "verdicts" "[Z", Cond.methodLink RX2 30 yX2_allTestsHold, Cond.instanceMethod yX2_allTestsHold, Cond.selects RX2 yX2_allTestsHold yX2_allTestsHold, Cond.code yX2_allTestsHold cX2_allTestsHold 5 (some .boolean), Cond.fieldLink RX2 13 "ChangerFair$Custom" "testCounts" "[I", Cond.fieldLink RX2 17 "ChangerFair$Custom" "values" "[I", Cond.fieldLink RX2 20 "ChangerFair$Custom" "signs" "[I", Cond.fieldLink RX2 23 "ChangerFair$Custom" "numbers" "[I", Cond.methodLink RX2 34 yX2_holds, Cond.static yX2_holds, Cond.code yX2_holds cX2_holds 3 (some .boolean), Cond.methodLink RX8 149 yX8_overfills, Cond.instanceMethod yX8_overfills, Cond.selects RX8 yX8_overfills yX8_overfills, Cond.code yX8_overfills cX8_overfills 3 (some .boolean)]
def wsX8_recourse_r4 : List Cond := [Cond.fieldLink RX8 130 "ChangerFair$Bill" "holder" "I", Cond.fieldLink RX8 42 "ChangerFair" "book" "LChangerFair$Book;", Cond.methodLink RX8 225 yX1_overfills, Cond.instanceMethod yX1_overfills, Cond.selects RX1 yX1_overfills yX1_overfills, Cond.initialized RX1, Cond.code yX1_overfills cX1_overfills 5 (some .boolean), Cond.fieldLink RX1 11 "ChangerFair$Book" "debts" "[[J", Cond.constantLong RX1 16 (1000000000), Cond.methodLink RX8 153 yX8_charge, Cond.instanceMethod yX8_charge, Cond.selects RX8 yX8_charge yX8_charge, Cond.code yX8_charge cX8_charge 3 none, Cond.methodLink RX8 228 yX1_charge, Cond.instanceMethod yX1_charge, Cond.selects RX1 yX1_charge yX1_charge, Cond.code yX1_charge cX1_charge 7 none, Cond.methodLink RX1 18 Lib.MathLoose.max_long.x, Cond.static Lib.MathLoose.max_long.x, Cond.initialized "java/lang/Math", Cond.code Lib.MathLoose.max_long.x Lib.MathLoose.max_long.code 4 (some .long), Cond.fieldLink RX1 24 "ChangerFair$Book" "changes" "J", Cond.methodLink RX8 119 yX0_become, Cond.instanceMethod yX0_become]
def wsX8_recourse_r5 : List Cond := [Cond.selects RX0 yX0_become yX0_become, Cond.code yX0_become cX0_become 3 none, Cond.fieldLink RX0 32 "ChangerFair$Bill" "state" "I", Cond.methodLink RX8 181 yX0_returnTo, Cond.instanceMethod yX0_returnTo, Cond.selects RX0 yX0_returnTo yX0_returnTo, Cond.code yX0_returnTo cX0_returnTo 2 none, Cond.fieldLink RX0 26 "ChangerFair$Bill" "holder" "I", Cond.methodLink RX0 38 yX0_hasEndorser]
def wsX8_recourse : List Cond := .code yX8_recourse cX8_recourse 5 (some .long) :: ((wsX8_recourse_r1 ++ (wsX8_recourse_r2 ++ (wsX8_recourse_r3 ++ (wsX8_recourse_r4 ++ wsX8_recourse_r5)))) ++ wsX00 ++ wsX80 ++ wsX20 ++ wsX10)
def wsX8_about_r1 : List Cond := [Cond.fieldLink RX8 184 "ChangerFair$Bill" "kind" "I", Cond.fieldLink RX8 174 "ChangerFair$Bill" "drawer" "I", Cond.fieldLink RX8 146 "ChangerFair$Bill" "drawee" "I", Cond.fieldLink RX8 130 "ChangerFair$Bill" "holder" "I", Cond.fieldLink RX8 161 "ChangerFair$Bill" "amount" "I", Cond.fieldLink RX8 127 "ChangerFair$Bill" "state" "I", Cond.fieldLink RX8 140 "ChangerFair$Bill" "endorserCount" "I", Cond.methodLink RX8 123 yX8_billAt, Cond.instanceMethod yX8_billAt, Cond.selects RX8 yX8_billAt yX8_billAt, Cond.initialized RX8, Cond.code yX8_billAt cX8_billAt 2 (some (.object "ChangerFair$Bill")), Cond.fieldLink RX8 113 "ChangerFair" "billCount" "I", Cond.fieldLink RX8 22 "ChangerFair" "bills" "[LChangerFair$Bill;", Cond.methodLink RX8 88 yX8_finding, Cond.instanceMethod yX8_finding, Cond.selects RX8 yX8_finding yX8_finding, Cond.code yX8_finding cX8_finding 2 (some .long), Cond.fieldLink RX8 9 "ChangerFair" "findings" "[J", Cond.constantLong RX8 336 (-1000000000000), Cond.methodLink RX8 168 yX0_hasEndorser, Cond.instanceMethod yX0_hasEndorser, Cond.selects RX0 yX0_hasEndorser yX0_hasEndorser, Cond.initialized RX0]
def wsX8_about_r2 : List Cond := [Cond.code yX0_hasEndorser cX0_hasEndorser 2 (some .boolean), Cond.fieldLink RX0 35 "ChangerFair$Bill" "endorserCount" "I", Cond.methodLink RX8 177 yX0_endorserAt, Cond.instanceMethod yX0_endorserAt, Cond.selects RX0 yX0_endorserAt yX0_endorserAt, Cond.code yX0_endorserAt cX0_endorserAt 2 (some .int), Cond.fieldLink RX0 9 "ChangerFair$Bill" "endorsers" "[I", Cond.methodLink RX8 187 yX0_stateDay, Cond.instanceMethod yX0_stateDay, Cond.selects RX0 yX0_stateDay yX0_stateDay, Cond.code yX0_stateDay cX0_stateDay 1 (some .int), Cond.fieldLink RX0 13 "ChangerFair$Bill" "began" "[I", Cond.fieldLink RX0 32 "ChangerFair$Bill" "state" "I"]
def wsX8_about : List Cond := .code yX8_about cX8_about 4 (some .long) :: ((wsX8_about_r1 ++ wsX8_about_r2) ++ wsX00 ++ wsX80)
def wsX8_as : List Cond := .code yX8_as cX8_as 4 (some .long) :: ([.fieldLink RX8 184 "ChangerFair$Bill" "kind" "I", .fieldLink RX8 161 "ChangerFair$Bill" "amount" "I", .methodLink RX8 123 yX8_billAt, .instanceMethod yX8_billAt, .selects RX8 yX8_billAt yX8_billAt, .initialized RX8, .code yX8_billAt cX8_billAt 2 (some (.object "ChangerFair$Bill")), .fieldLink RX8 113 "ChangerFair" "billCount" "I", .fieldLink RX8 22 "ChangerFair" "bills" "[LChangerFair$Bill;", .methodLink RX8 109 yX8_isBillKind, .static yX8_isBillKind, .code yX8_isBillKind cX8_isBillKind 1 (some .boolean), .methodLink RX8 88 yX8_finding, .instanceMethod yX8_finding, .selects RX8 yX8_finding yX8_finding, .code yX8_finding cX8_finding 2 (some .long), .fieldLink RX8 9 "ChangerFair" "findings" "[J", .constantLong RX8 336 (-1000000000000)] ++ wsX00 ++ wsX80)
def wsX8_knows_r1 : List Cond := [Cond.methodLink RX8 123 yX8_billAt, Cond.instanceMethod yX8_billAt, Cond.selects RX8 yX8_billAt yX8_billAt, Cond.initialized RX8, Cond.code yX8_billAt cX8_billAt 2 (some (.object "ChangerFair$Bill")), Cond.fieldLink RX8 113 "ChangerFair" "billCount" "I", Cond.fieldLink RX8 22 "ChangerFair" "bills" "[LChangerFair$Bill;", Cond.methodLink RX8 106 yX8_isHouse, Cond.static yX8_isHouse, Cond.code yX8_isHouse cX8_isHouse 1 (some .boolean), Cond.methodLink RX8 88 yX8_finding, Cond.instanceMethod yX8_finding, Cond.selects RX8 yX8_finding yX8_finding, Cond.code yX8_finding cX8_finding 2 (some .long), Cond.fieldLink RX8 9 "ChangerFair" "findings" "[J", Cond.constantLong RX8 336 (-1000000000000), Cond.methodLink RX8 190 yX8_roadOf, Cond.instanceMethod yX8_roadOf, Cond.selects RX8 yX8_roadOf yX8_roadOf, Cond.code yX8_roadOf cX8_roadOf 2 (some .int), Cond.fieldLink RX8 13 "ChangerFair" "roads" "[I", Cond.fieldLink RX8 17 "ChangerFair" "seats" "[I", Cond.methodLink RX8 193 yX0_latestStateBy, Cond.instanceMethod yX0_latestStateBy]
def wsX8_knows_r2 : List Cond := [Cond.selects RX0 yX0_latestStateBy yX0_latestStateBy, Cond.initialized RX0, Cond.code yX0_latestStateBy cX0_latestStateBy 3 (some .int), Cond.fieldLink RX0 13 "ChangerFair$Bill" "began" "[I"]
def wsX8_knows : List Cond := .code yX8_knows cX8_knows 6 (some .long) :: ((wsX8_knows_r1 ++ wsX8_knows_r2) ++ wsX80 ++ wsX00)
def wsX8_feed : List Cond := .code yX8_feed cX8_feed 4 (some .long) :: ([.fieldLink RX8 35 "ChangerFair" "reader" "LChangerFair$CustomReader;", .fieldLink RX8 203 "ChangerFair$CustomReader" "length" "I", .methodLink RX8 88 yX8_finding, .instanceMethod yX8_finding, .selects RX8 yX8_finding yX8_finding, .initialized RX8, .code yX8_finding cX8_finding 2 (some .long), .fieldLink RX8 9 "ChangerFair" "findings" "[J", .constantLong RX8 336 (-1000000000000), .methodLink RX8 196 yX3_hasRoomFor, .instanceMethod yX3_hasRoomFor, .selects RX3 yX3_hasRoomFor yX3_hasRoomFor, .initialized RX3, .code yX3_hasRoomFor cX3_hasRoomFor 2 (some .boolean), .fieldLink RX3 17 "ChangerFair$CustomReader" "length" "I", .methodLink RX8 199 yX3_append, .instanceMethod yX3_append, .selects RX3 yX3_append yX3_append, .code yX3_append cX3_append 5 none, .fieldLink RX3 13 "ChangerFair$CustomReader" "tape" "[I"] ++ wsX80 ++ wsX30)
def wsX8_read_r1 : List Cond := [Cond.fieldLink RX8 35 "ChangerFair" "reader" "LChangerFair$CustomReader;", Cond.fieldLink RX8 81 "ChangerFair" "draft" "LChangerFair$Custom;", Cond.fieldLink RX8 77 "ChangerFair" "custom" "LChangerFair$Custom;", Cond.fieldLink RX8 210 "ChangerFair$Custom" "clauseCount" "I", Cond.methodLink RX8 206 yX3_readInto, Cond.instanceMethod yX3_readInto, Cond.selects RX3 yX3_readInto yX3_readInto, Cond.initialized RX3, Cond.code yX3_readInto cX3_readInto 3 (some .boolean), Cond.fieldLink RX3 25 "ChangerFair$CustomReader" "place" "I", Cond.fieldLink RX3 32 "ChangerFair$CustomReader" "wordPlace" "I", Cond.fieldLink RX3 9 "ChangerFair$CustomReader" "faultPlace" "I", Cond.fieldLink RX3 17 "ChangerFair$CustomReader" "length" "I", Cond.methodLink RX3 20 yX2_forget, Cond.instanceMethod yX2_forget, Cond.selects RX2 yX2_forget yX2_forget, Cond.initialized RX2, Cond.code yX2_forget cX2_forget 1 none, Cond.fieldLink RX2 26 "ChangerFair$Custom" "clauseCount" "I", Cond.methodLink RX3 28 yX3_readText, Cond.instanceMethod yX3_readText, Cond.selects RX3 yX3_readText yX3_readText, Cond.code yX3_readText cX3_readText 3 (some .boolean), Cond.fieldLink RX3 38 "ChangerFair$CustomReader" "word" "I"]
def wsX8_read_r2 : List Cond := [Cond.methodLink RX3 35 yX3_nextWord, Cond.instanceMethod yX3_nextWord, Cond.selects RX3 yX3_nextWord yX3_nextWord, Cond.code yX3_nextWord cX3_nextWord 1 none, Cond.fieldLink RX3 13 "ChangerFair$CustomReader" "tape" "[I", Cond.methodLink RX3 59 yX3_isLetter, Cond.static yX3_isLetter, Cond.code yX3_isLetter cX3_isLetter 1 (some .boolean), Cond.methodLink RX3 63 yX3_readLetters, Cond.instanceMethod yX3_readLetters, Cond.selects RX3 yX3_readLetters yX3_readLetters, Cond.code yX3_readLetters cX3_readLetters 1 none, Cond.methodLink RX3 83 yX3_letterWord, Cond.instanceMethod yX3_letterWord, Cond.selects RX3 yX3_letterWord yX3_letterWord, Cond.code yX3_letterWord cX3_letterWord 1 (some .int), Cond.methodLink RX3 89 yX3_spells, Cond.instanceMethod yX3_spells, Cond.selects RX3 yX3_spells yX3_spells, Cond.code yX3_spells cX3_spells 3 (some .boolean), Cond.methodLink RX3 109 yJ0_length_8abf5, Cond.instanceMethod yJ0_length_8abf5, Cond.selects RJ0 yJ0_length_8abf5 yJ0_length_8abf5, Cond.initialized RJ0]
def wsX8_read_r3 : List Cond := [Cond.code yJ0_length_8abf5 cJ0_length_8abf5 1 (some .int), Cond.fieldLink RJ0 9 "java/lang/String" "value" "[B", Cond.methodLink RJ0 335 yJ0_coder_7d493, Cond.instanceMethod yJ0_coder_7d493, Cond.selects RJ0 yJ0_coder_7d493 yJ0_coder_7d493, Cond.code yJ0_coder_7d493 cJ0_coder_7d493 1 (some .byte), Cond.fieldLink RJ0 38 "java/lang/String" "COMPACT_STRINGS" "Z", Cond.fieldLink RJ0 15 "java/lang/String" "coder" "B", Cond.methodLink RX3 113 yJ0_charAt_5068e, Cond.instanceMethod yJ0_charAt_5068e, Cond.selects RJ0 yJ0_charAt_5068e yJ0_charAt_5068e, Cond.code yJ0_charAt_5068e cJ0_charAt_5068e 2 (some .char), Cond.methodLink RJ0 492 yJ0_isLatin1_aae02, Cond.instanceMethod yJ0_isLatin1_aae02, Cond.selects RJ0 yJ0_isLatin1_aae02 yJ0_isLatin1_aae02, Cond.code yJ0_isLatin1_aae02 cJ0_isLatin1_aae02 1 (some .boolean), Cond.methodLink RJ0 495 yJ1_charAt_3b067, Cond.static yJ1_charAt_3b067, Cond.initialized RJ1, Cond.code yJ1_charAt_3b067 cJ1_charAt_3b067 2 (some .char), Cond.methodLink RJ1 9 yJ0_checkIndex_df160, Cond.static yJ0_checkIndex_df160, Cond.code yJ0_checkIndex_df160 cJ0_checkIndex_df160 2 none, Cond.fieldLink RJ0 1053 "jdk/internal/util/Preconditions" "SIOOBE_FORMATTER" "Ljava/util/function/BiFunction;"]
def wsX8_read_r4 : List Cond := [Cond.methodLink RJ0 1059 yJ3_checkIndex_8e157, Cond.static yJ3_checkIndex_8e157, Cond.initialized RJ3, Cond.code yJ3_checkIndex_8e157 cJ3_checkIndex_8e157 3 (some .int), Cond.methodLink RJ0 498 yJ2_charAt_3b067, Cond.static yJ2_charAt_3b067, Cond.initialized RJ2, Cond.code yJ2_charAt_3b067 cJ2_charAt_3b067 2 (some .char), Cond.methodLink RJ2 67 yJ2_checkIndex_2214a, Cond.static yJ2_checkIndex_2214a, Cond.code yJ2_checkIndex_2214a cJ2_checkIndex_2214a 2 none, Cond.methodLink RJ2 48 yJ2_length_9d52b, Cond.static yJ2_length_9d52b, Cond.code yJ2_length_9d52b cJ2_length_9d52b 1 (some .int), Cond.methodLink RJ2 414 yJ0_checkIndex_df160, Cond.methodLink RJ2 71 yJ2_getChar_3b067, Cond.static yJ2_getChar_3b067, Cond.code yJ2_getChar_3b067 cJ2_getChar_3b067 2 (some .char), Cond.fieldLink RJ2 44 "java/lang/StringUTF16" "$assertionsDisabled" "Z", Cond.fieldLink RJ2 59 "java/lang/StringUTF16" "HI_BYTE_SHIFT" "I", Cond.fieldLink RJ2 63 "java/lang/StringUTF16" "LO_BYTE_SHIFT" "I", Cond.methodLink RX3 66 yX3_isFigure, Cond.static yX3_isFigure, Cond.code yX3_isFigure cX3_isFigure 1 (some .boolean)]
def wsX8_read_r5 : List Cond := [Cond.methodLink RX3 69 yX3_readFigures, Cond.instanceMethod yX3_readFigures, Cond.selects RX3 yX3_readFigures yX3_readFigures, Cond.code yX3_readFigures cX3_readFigures 1 none, Cond.fieldLink RX3 51 "ChangerFair$CustomReader" "number" "I", Cond.constant RX3 76 (1000000), Cond.methodLink RX3 77 Lib.Math.min.name, Cond.static Lib.Math.min.name, Cond.initialized "java/lang/Math", Cond.code Lib.Math.min.name Lib.Math.min.code 2 (some .int), Cond.methodLink RX3 72 yX3_signWord, Cond.static yX3_signWord, Cond.code yX3_signWord cX3_signWord 1 (some .int), Cond.methodLink RX3 41 yX3_readClause, Cond.instanceMethod yX3_readClause, Cond.selects RX3 yX3_readClause yX3_readClause, Cond.code yX3_readClause cX3_readClause 3 (some .boolean), Cond.methodLink RX3 44 yX2_addClause, Cond.instanceMethod yX2_addClause, Cond.selects RX2 yX2_addClause yX2_addClause, Cond.code yX2_addClause cX2_addClause 2 none, Cond.fieldLink RX2 9 "ChangerFair$Custom" "verdicts" "[Z", Cond.fieldLink RX2 13 "ChangerFair$Custom" "testCounts" "[I", Cond.methodLink RX3 48 yX3_readTest]
def wsX8_read_r6 : List Cond := [Cond.instanceMethod yX3_readTest, Cond.selects RX3 yX3_readTest yX3_readTest, Cond.code yX3_readTest cX3_readTest 4 (some .boolean), Cond.constant RX3 54 (999999), Cond.methodLink RX3 55 yX2_addTest, Cond.instanceMethod yX2_addTest, Cond.selects RX2 yX2_addTest yX2_addTest, Cond.code yX2_addTest cX2_addTest 6 none, Cond.fieldLink RX2 17 "ChangerFair$Custom" "values" "[I", Cond.fieldLink RX2 20 "ChangerFair$Custom" "signs" "[I", Cond.fieldLink RX2 23 "ChangerFair$Custom" "numbers" "[I", Cond.methodLink RX8 88 yX8_finding, Cond.instanceMethod yX8_finding, Cond.selects RX8 yX8_finding yX8_finding, Cond.initialized RX8, Cond.code yX8_finding cX8_finding 2 (some .long), Cond.fieldLink RX8 9 "ChangerFair" "findings" "[J", Cond.constantLong RX8 336 (-1000000000000)]
def wsX8_read : List Cond := .code yX8_read cX8_read 2 (some .long) :: ((wsX8_read_r1 ++ (wsX8_read_r2 ++ (wsX8_read_r3 ++ (wsX8_read_r4 ++ (wsX8_read_r5 ++ wsX8_read_r6))))) ++ wsX80 ++ wsX20 ++ wsX30)
def wsX8_fault : List Cond := .code yX8_fault cX8_fault 1 (some .long) :: ([.fieldLink RX8 35 "ChangerFair" "reader" "LChangerFair$CustomReader;", .fieldLink RX8 213 "ChangerFair$CustomReader" "faultPlace" "I"] ++ wsX80 ++ wsX30)
def wsX8_binds_r1 : List Cond := [Cond.methodLink RX8 88 yX8_finding, Cond.instanceMethod yX8_finding, Cond.selects RX8 yX8_finding yX8_finding, Cond.initialized RX8, Cond.code yX8_finding cX8_finding 2 (some .long), Cond.fieldLink RX8 9 "ChangerFair" "findings" "[J", Cond.constantLong RX8 336 (-1000000000000), Cond.methodLink RX8 216 yX8_customBinds, Cond.instanceMethod yX8_customBinds, Cond.selects RX8 yX8_customBinds yX8_customBinds, Cond.code yX8_customBinds cX8_customBinds 6 (some .boolean), Cond.fieldLink RX8 28 "ChangerFair" "facts" "[I", Cond.fieldLink RX8 77 "ChangerFair" "custom" "LChangerFair$Custom;", Cond.methodLink RX8 338 yX2_bindsFor, Cond.instanceMethod yX2_bindsFor, Cond.selects RX2 yX2_bindsFor yX2_bindsFor, Cond.initialized RX2, Cond.code yX2_bindsFor cX2_bindsFor 3 (some .boolean), Cond.fieldLink RX2 26 "ChangerFair$Custom" "clauseCount" "I", Cond.fieldLink RX2 9 "ChangerFair$Custom" "verdicts" "[Z", Cond.methodLink RX2 30 yX2_allTestsHold, Cond.instanceMethod yX2_allTestsHold, Cond.selects RX2 yX2_allTestsHold yX2_allTestsHold, Cond.code yX2_allTestsHold cX2_allTestsHold 5 (some .boolean)]
def wsX8_binds_r2 : List Cond := [Cond.fieldLink RX2 13 "ChangerFair$Custom" "testCounts" "[I", Cond.fieldLink RX2 17 "ChangerFair$Custom" "values" "[I", Cond.fieldLink RX2 20 "ChangerFair$Custom" "signs" "[I", Cond.fieldLink RX2 23 "ChangerFair$Custom" "numbers" "[I", Cond.methodLink RX2 34 yX2_holds, Cond.static yX2_holds, Cond.code yX2_holds cX2_holds 3 (some .boolean)]
def wsX8_binds : List Cond := .code yX8_binds cX8_binds 6 (some .long) :: ((wsX8_binds_r1 ++ wsX8_binds_r2) ++ wsX80 ++ wsX20)
def wsX8_areTwoHouses : List Cond := .code yX8_areTwoHouses cX8_areTwoHouses 2 (some .boolean) :: ([.methodLink RX8 106 yX8_isHouse, .static yX8_isHouse, .initialized RX8, .code yX8_isHouse cX8_isHouse 1 (some .boolean)])
def wsX8_owe_r1 : List Cond := [Cond.constant RX8 224 (1000000), Cond.fieldLink RX8 42 "ChangerFair" "book" "LChangerFair$Book;", Cond.methodLink RX8 220 yX8_areTwoHouses, Cond.static yX8_areTwoHouses, Cond.initialized RX8, Cond.code yX8_areTwoHouses cX8_areTwoHouses 2 (some .boolean), Cond.methodLink RX8 106 yX8_isHouse, Cond.static yX8_isHouse, Cond.code yX8_isHouse cX8_isHouse 1 (some .boolean), Cond.methodLink RX8 88 yX8_finding, Cond.instanceMethod yX8_finding, Cond.selects RX8 yX8_finding yX8_finding, Cond.code yX8_finding cX8_finding 2 (some .long), Cond.fieldLink RX8 9 "ChangerFair" "findings" "[J", Cond.constantLong RX8 336 (-1000000000000), Cond.methodLink RX8 225 yX1_overfills, Cond.instanceMethod yX1_overfills, Cond.selects RX1 yX1_overfills yX1_overfills, Cond.initialized RX1, Cond.code yX1_overfills cX1_overfills 5 (some .boolean), Cond.fieldLink RX1 11 "ChangerFair$Book" "debts" "[[J", Cond.constantLong RX1 16 (1000000000), Cond.methodLink RX8 228 yX1_charge, Cond.instanceMethod yX1_charge]
def wsX8_owe_r2 : List Cond := [Cond.selects RX1 yX1_charge yX1_charge, Cond.code yX1_charge cX1_charge 7 none, Cond.methodLink RX1 18 Lib.MathLoose.max_long.x, Cond.static Lib.MathLoose.max_long.x, Cond.initialized "java/lang/Math", Cond.code Lib.MathLoose.max_long.x Lib.MathLoose.max_long.code 4 (some .long), Cond.fieldLink RX1 24 "ChangerFair$Book" "changes" "J", Cond.methodLink RX8 231 yX1_debt, Cond.instanceMethod yX1_debt, Cond.selects RX1 yX1_debt yX1_debt, Cond.code yX1_debt cX1_debt 3 (some .long)]
def wsX8_owe : List Cond := .code yX8_owe cX8_owe 4 (some .long) :: ((wsX8_owe_r1 ++ wsX8_owe_r2) ++ wsX80 ++ wsX10)
def wsX8_owes : List Cond := .code yX8_owes cX8_owes 3 (some .long) :: ([.fieldLink RX8 42 "ChangerFair" "book" "LChangerFair$Book;", .methodLink RX8 220 yX8_areTwoHouses, .static yX8_areTwoHouses, .initialized RX8, .code yX8_areTwoHouses cX8_areTwoHouses 2 (some .boolean), .methodLink RX8 106 yX8_isHouse, .static yX8_isHouse, .code yX8_isHouse cX8_isHouse 1 (some .boolean), .methodLink RX8 88 yX8_finding, .instanceMethod yX8_finding, .selects RX8 yX8_finding yX8_finding, .code yX8_finding cX8_finding 2 (some .long), .fieldLink RX8 9 "ChangerFair" "findings" "[J", .constantLong RX8 336 (-1000000000000), .methodLink RX8 231 yX1_debt, .instanceMethod yX1_debt, .selects RX1 yX1_debt yX1_debt, .initialized RX1, .code yX1_debt cX1_debt 3 (some .long), .fieldLink RX1 11 "ChangerFair$Book" "debts" "[[J"] ++ wsX80 ++ wsX10)
def wsX8_net : List Cond := .code yX8_net cX8_net 2 (some .long) :: ([.fieldLink RX8 42 "ChangerFair" "book" "LChangerFair$Book;", .methodLink RX8 106 yX8_isHouse, .static yX8_isHouse, .initialized RX8, .code yX8_isHouse cX8_isHouse 1 (some .boolean), .methodLink RX8 88 yX8_finding, .instanceMethod yX8_finding, .selects RX8 yX8_finding yX8_finding, .code yX8_finding cX8_finding 2 (some .long), .fieldLink RX8 9 "ChangerFair" "findings" "[J", .constantLong RX8 336 (-1000000000000), .methodLink RX8 235 yX1_balance, .instanceMethod yX1_balance, .selects RX1 yX1_balance yX1_balance, .initialized RX1, .code yX1_balance cX1_balance 5 (some .long), .fieldLink RX1 11 "ChangerFair$Book" "debts" "[[J"] ++ wsX80 ++ wsX10)
def wsX8_plan_r1 : List Cond := [Cond.fieldLink RX8 49 "ChangerFair" "plan" "LChangerFair$Plan;", Cond.fieldLink RX8 42 "ChangerFair" "book" "LChangerFair$Book;", Cond.fieldLink RX8 242 "ChangerFair$Plan" "groupCount" "I", Cond.fieldLink RX8 245 "ChangerFair$Plan" "paymentCount" "I", Cond.methodLink RX8 238 yX5_refresh, Cond.instanceMethod yX5_refresh, Cond.selects RX5 yX5_refresh yX5_refresh, Cond.initialized RX5, Cond.code yX5_refresh cX5_refresh 5 none, Cond.fieldLink RX5 36 "ChangerFair$Plan" "changesSeen" "J", Cond.fieldLink RX5 40 "ChangerFair$Book" "changes" "J", Cond.fieldLink RX5 45 "ChangerFair$Plan" "groupCount" "I", Cond.fieldLink RX5 49 "ChangerFair$Plan" "paymentCount" "I", Cond.methodLink RX5 52 yX5_readNets, Cond.instanceMethod yX5_readNets, Cond.selects RX5 yX5_readNets yX5_readNets, Cond.code yX5_readNets cX5_readNets 4 (some .int), Cond.fieldLink RX5 9 "ChangerFair$Plan" "left" "[J", Cond.methodLink RX5 77 yX1_balance, Cond.instanceMethod yX1_balance, Cond.selects RX1 yX1_balance yX1_balance, Cond.initialized RX1, Cond.code yX1_balance cX1_balance 5 (some .long), Cond.fieldLink RX1 11 "ChangerFair$Book" "debts" "[[J"]
def wsX8_plan_r2 : List Cond := [Cond.methodLink RX5 56 yX5_addUp, Cond.instanceMethod yX5_addUp, Cond.selects RX5 yX5_addUp yX5_addUp, Cond.code yX5_addUp cX5_addUp 4 none, Cond.fieldLink RX5 15 "ChangerFair$Plan" "sums" "[J", Cond.methodLink RX5 59 yX5_listZeroSets, Cond.instanceMethod yX5_listZeroSets, Cond.selects RX5 yX5_listZeroSets yX5_listZeroSets, Cond.code yX5_listZeroSets cX5_listZeroSets 3 none, Cond.fieldLink RX5 81 "ChangerFair$Plan" "zeroSetCount" "I", Cond.fieldLink RX5 18 "ChangerFair$Plan" "zeroSets" "[I", Cond.methodLink RX5 63 yX5_countGroups, Cond.instanceMethod yX5_countGroups, Cond.selects RX5 yX5_countGroups yX5_countGroups, Cond.code yX5_countGroups cX5_countGroups 5 none, Cond.fieldLink RX5 22 "ChangerFair$Plan" "mostGroups" "[I", Cond.methodLink RX5 88 Lib.Math.max.name, Cond.static Lib.Math.max.name, Cond.initialized "java/lang/Math", Cond.code Lib.Math.max.name Lib.Math.max.code 2 (some .int), Cond.methodLink RX5 84 yX5_mayBeFirst, Cond.static yX5_mayBeFirst, Cond.code yX5_mayBeFirst cX5_mayBeFirst 3 (some .boolean), Cond.methodLink RX5 66 yX5_firstGroup]
def wsX8_plan_r3 : List Cond := [Cond.instanceMethod yX5_firstGroup, Cond.selects RX5 yX5_firstGroup yX5_firstGroup, Cond.code yX5_firstGroup cX5_firstGroup 4 (some .int), Cond.methodLink RX5 70 yX5_payWithin, Cond.instanceMethod yX5_payWithin, Cond.selects RX5 yX5_payWithin yX5_payWithin, Cond.code yX5_payWithin cX5_payWithin 7 none, Cond.methodLink RX5 97 Lib.MathLoose.min_long.x, Cond.static Lib.MathLoose.min_long.x, Cond.code Lib.MathLoose.min_long.x Lib.MathLoose.min_long.code 4 (some .long), Cond.fieldLink RX5 25 "ChangerFair$Plan" "payers" "[I", Cond.fieldLink RX5 28 "ChangerFair$Plan" "payees" "[I", Cond.fieldLink RX5 31 "ChangerFair$Plan" "amounts" "[J", Cond.methodLink RX5 94 yX5_leastOf, Cond.instanceMethod yX5_leastOf, Cond.selects RX5 yX5_leastOf yX5_leastOf, Cond.code yX5_leastOf cX5_leastOf 4 (some .int)]
def wsX8_plan : List Cond := .code yX8_plan cX8_plan 2 (some .long) :: ((wsX8_plan_r1 ++ (wsX8_plan_r2 ++ wsX8_plan_r3)) ++ wsX80 ++ wsX50 ++ wsX10)
def wsX8_payment_r1 : List Cond := [Cond.fieldLink RX8 49 "ChangerFair" "plan" "LChangerFair$Plan;", Cond.fieldLink RX8 42 "ChangerFair" "book" "LChangerFair$Book;", Cond.methodLink RX8 88 yX8_finding, Cond.instanceMethod yX8_finding, Cond.selects RX8 yX8_finding yX8_finding, Cond.initialized RX8, Cond.code yX8_finding cX8_finding 2 (some .long), Cond.fieldLink RX8 9 "ChangerFair" "findings" "[J", Cond.constantLong RX8 336 (-1000000000000), Cond.methodLink RX8 238 yX5_refresh, Cond.instanceMethod yX5_refresh, Cond.selects RX5 yX5_refresh yX5_refresh, Cond.initialized RX5, Cond.code yX5_refresh cX5_refresh 5 none, Cond.fieldLink RX5 36 "ChangerFair$Plan" "changesSeen" "J", Cond.fieldLink RX5 40 "ChangerFair$Book" "changes" "J", Cond.fieldLink RX5 45 "ChangerFair$Plan" "groupCount" "I", Cond.fieldLink RX5 49 "ChangerFair$Plan" "paymentCount" "I", Cond.methodLink RX5 52 yX5_readNets, Cond.instanceMethod yX5_readNets, Cond.selects RX5 yX5_readNets yX5_readNets, Cond.code yX5_readNets cX5_readNets 4 (some .int), Cond.fieldLink RX5 9 "ChangerFair$Plan" "left" "[J", Cond.methodLink RX5 77 yX1_balance]
def wsX8_payment_r2 : List Cond := [Cond.instanceMethod yX1_balance, Cond.selects RX1 yX1_balance yX1_balance, Cond.initialized RX1, Cond.code yX1_balance cX1_balance 5 (some .long), Cond.fieldLink RX1 11 "ChangerFair$Book" "debts" "[[J", Cond.methodLink RX5 56 yX5_addUp, Cond.instanceMethod yX5_addUp, Cond.selects RX5 yX5_addUp yX5_addUp, Cond.code yX5_addUp cX5_addUp 4 none, Cond.fieldLink RX5 15 "ChangerFair$Plan" "sums" "[J", Cond.methodLink RX5 59 yX5_listZeroSets, Cond.instanceMethod yX5_listZeroSets, Cond.selects RX5 yX5_listZeroSets yX5_listZeroSets, Cond.code yX5_listZeroSets cX5_listZeroSets 3 none, Cond.fieldLink RX5 81 "ChangerFair$Plan" "zeroSetCount" "I", Cond.fieldLink RX5 18 "ChangerFair$Plan" "zeroSets" "[I", Cond.methodLink RX5 63 yX5_countGroups, Cond.instanceMethod yX5_countGroups, Cond.selects RX5 yX5_countGroups yX5_countGroups, Cond.code yX5_countGroups cX5_countGroups 5 none, Cond.fieldLink RX5 22 "ChangerFair$Plan" "mostGroups" "[I", Cond.methodLink RX5 88 Lib.Math.max.name, Cond.static Lib.Math.max.name, Cond.initialized "java/lang/Math"]
def wsX8_payment_r3 : List Cond := [Cond.code Lib.Math.max.name Lib.Math.max.code 2 (some .int), Cond.methodLink RX5 84 yX5_mayBeFirst, Cond.static yX5_mayBeFirst, Cond.code yX5_mayBeFirst cX5_mayBeFirst 3 (some .boolean), Cond.methodLink RX5 66 yX5_firstGroup, Cond.instanceMethod yX5_firstGroup, Cond.selects RX5 yX5_firstGroup yX5_firstGroup, Cond.code yX5_firstGroup cX5_firstGroup 4 (some .int), Cond.methodLink RX5 70 yX5_payWithin, Cond.instanceMethod yX5_payWithin, Cond.selects RX5 yX5_payWithin yX5_payWithin, Cond.code yX5_payWithin cX5_payWithin 7 none, Cond.methodLink RX5 97 Lib.MathLoose.min_long.x, Cond.static Lib.MathLoose.min_long.x, Cond.code Lib.MathLoose.min_long.x Lib.MathLoose.min_long.code 4 (some .long), Cond.fieldLink RX5 25 "ChangerFair$Plan" "payers" "[I", Cond.fieldLink RX5 28 "ChangerFair$Plan" "payees" "[I", Cond.fieldLink RX5 31 "ChangerFair$Plan" "amounts" "[J", Cond.methodLink RX5 94 yX5_leastOf, Cond.instanceMethod yX5_leastOf, Cond.selects RX5 yX5_leastOf yX5_leastOf, Cond.code yX5_leastOf cX5_leastOf 4 (some .int), Cond.methodLink RX8 248 yX5_hasPayment, Cond.instanceMethod yX5_hasPayment]
def wsX8_payment_r4 : List Cond := [Cond.selects RX5 yX5_hasPayment yX5_hasPayment, Cond.code yX5_hasPayment cX5_hasPayment 2 (some .boolean), Cond.methodLink RX8 251 yX5_figure, Cond.instanceMethod yX5_figure, Cond.selects RX5 yX5_figure yX5_figure, Cond.code yX5_figure cX5_figure 3 (some .long), Cond.methodLink RX5 73 yX5_hasPayment]
def wsX8_payment : List Cond := .code yX8_payment cX8_payment 3 (some .long) :: ((wsX8_payment_r1 ++ (wsX8_payment_r2 ++ (wsX8_payment_r3 ++ wsX8_payment_r4))) ++ wsX80 ++ wsX50 ++ wsX10)
def wsX8_clear_r1 : List Cond := [Cond.fieldLink RX8 49 "ChangerFair" "plan" "LChangerFair$Plan;", Cond.fieldLink RX8 42 "ChangerFair" "book" "LChangerFair$Book;", Cond.fieldLink RX8 245 "ChangerFair$Plan" "paymentCount" "I", Cond.methodLink RX8 238 yX5_refresh, Cond.instanceMethod yX5_refresh, Cond.selects RX5 yX5_refresh yX5_refresh, Cond.initialized RX5, Cond.code yX5_refresh cX5_refresh 5 none, Cond.fieldLink RX5 36 "ChangerFair$Plan" "changesSeen" "J", Cond.fieldLink RX5 40 "ChangerFair$Book" "changes" "J", Cond.fieldLink RX5 45 "ChangerFair$Plan" "groupCount" "I", Cond.fieldLink RX5 49 "ChangerFair$Plan" "paymentCount" "I", Cond.methodLink RX5 52 yX5_readNets, Cond.instanceMethod yX5_readNets, Cond.selects RX5 yX5_readNets yX5_readNets, Cond.code yX5_readNets cX5_readNets 4 (some .int), Cond.fieldLink RX5 9 "ChangerFair$Plan" "left" "[J", Cond.methodLink RX5 77 yX1_balance, Cond.instanceMethod yX1_balance, Cond.selects RX1 yX1_balance yX1_balance, Cond.initialized RX1, Cond.code yX1_balance cX1_balance 5 (some .long), Cond.fieldLink RX1 11 "ChangerFair$Book" "debts" "[[J", Cond.methodLink RX5 56 yX5_addUp]
def wsX8_clear_r2 : List Cond := [Cond.instanceMethod yX5_addUp, Cond.selects RX5 yX5_addUp yX5_addUp, Cond.code yX5_addUp cX5_addUp 4 none, Cond.fieldLink RX5 15 "ChangerFair$Plan" "sums" "[J", Cond.methodLink RX5 59 yX5_listZeroSets, Cond.instanceMethod yX5_listZeroSets, Cond.selects RX5 yX5_listZeroSets yX5_listZeroSets, Cond.code yX5_listZeroSets cX5_listZeroSets 3 none, Cond.fieldLink RX5 81 "ChangerFair$Plan" "zeroSetCount" "I", Cond.fieldLink RX5 18 "ChangerFair$Plan" "zeroSets" "[I", Cond.methodLink RX5 63 yX5_countGroups, Cond.instanceMethod yX5_countGroups, Cond.selects RX5 yX5_countGroups yX5_countGroups, Cond.code yX5_countGroups cX5_countGroups 5 none, Cond.fieldLink RX5 22 "ChangerFair$Plan" "mostGroups" "[I", Cond.methodLink RX5 88 Lib.Math.max.name, Cond.static Lib.Math.max.name, Cond.initialized "java/lang/Math", Cond.code Lib.Math.max.name Lib.Math.max.code 2 (some .int), Cond.methodLink RX5 84 yX5_mayBeFirst, Cond.static yX5_mayBeFirst, Cond.code yX5_mayBeFirst cX5_mayBeFirst 3 (some .boolean), Cond.methodLink RX5 66 yX5_firstGroup, Cond.instanceMethod yX5_firstGroup]
def wsX8_clear_r3 : List Cond := [Cond.selects RX5 yX5_firstGroup yX5_firstGroup, Cond.code yX5_firstGroup cX5_firstGroup 4 (some .int), Cond.methodLink RX5 70 yX5_payWithin, Cond.instanceMethod yX5_payWithin, Cond.selects RX5 yX5_payWithin yX5_payWithin, Cond.code yX5_payWithin cX5_payWithin 7 none, Cond.methodLink RX5 97 Lib.MathLoose.min_long.x, Cond.static Lib.MathLoose.min_long.x, Cond.code Lib.MathLoose.min_long.x Lib.MathLoose.min_long.code 4 (some .long), Cond.fieldLink RX5 25 "ChangerFair$Plan" "payers" "[I", Cond.fieldLink RX5 28 "ChangerFair$Plan" "payees" "[I", Cond.fieldLink RX5 31 "ChangerFair$Plan" "amounts" "[J", Cond.methodLink RX5 94 yX5_leastOf, Cond.instanceMethod yX5_leastOf, Cond.selects RX5 yX5_leastOf yX5_leastOf, Cond.code yX5_leastOf cX5_leastOf 4 (some .int), Cond.methodLink RX8 254 yX1_wipe, Cond.instanceMethod yX1_wipe, Cond.selects RX1 yX1_wipe yX1_wipe, Cond.code yX1_wipe cX1_wipe 3 none, Cond.fieldLink RX1 24 "ChangerFair$Book" "changes" "J", Cond.methodLink RX8 251 yX5_figure, Cond.instanceMethod yX5_figure, Cond.selects RX5 yX5_figure yX5_figure]
def wsX8_clear_r4 : List Cond := [Cond.code yX5_figure cX5_figure 3 (some .long), Cond.methodLink RX5 73 yX5_hasPayment, Cond.instanceMethod yX5_hasPayment, Cond.selects RX5 yX5_hasPayment yX5_hasPayment, Cond.code yX5_hasPayment cX5_hasPayment 2 (some .boolean), Cond.methodLink RX8 228 yX1_charge, Cond.instanceMethod yX1_charge, Cond.selects RX1 yX1_charge yX1_charge, Cond.code yX1_charge cX1_charge 7 none, Cond.methodLink RX1 18 Lib.MathLoose.max_long.x, Cond.static Lib.MathLoose.max_long.x, Cond.code Lib.MathLoose.max_long.x Lib.MathLoose.max_long.code 4 (some .long), Cond.methodLink RX8 257 yX1_total, Cond.instanceMethod yX1_total, Cond.selects RX1 yX1_total yX1_total, Cond.code yX1_total cX1_total 5 (some .long)]
def wsX8_clear : List Cond := .code yX8_clear cX8_clear 2 (some .long) :: ((wsX8_clear_r1 ++ (wsX8_clear_r2 ++ (wsX8_clear_r3 ++ wsX8_clear_r4))) ++ wsX80 ++ wsX50 ++ wsX10)
def wsX8_coin : List Cond := .code yX8_coin cX8_coin 4 (some .long) :: ([.fieldLink RX8 56 "ChangerFair" "purses" "LChangerFair$Purses;", .methodLink RX8 261 yX6_isKind, .static yX6_isKind, .initialized RX6, .code yX6_isKind cX6_isKind 1 (some .boolean), .methodLink RX8 264 yX6_isMeasure, .static yX6_isMeasure, .code yX6_isMeasure cX6_isMeasure 1 (some .boolean), .methodLink RX8 88 yX8_finding, .instanceMethod yX8_finding, .selects RX8 yX8_finding yX8_finding, .initialized RX8, .code yX8_finding cX8_finding 2 (some .long), .fieldLink RX8 9 "ChangerFair" "findings" "[J", .constantLong RX8 336 (-1000000000000), .methodLink RX8 267 yX6_mint, .instanceMethod yX6_mint, .selects RX6 yX6_mint yX6_mint, .code yX6_mint cX6_mint 4 none, .fieldLink RX6 11 "ChangerFair$Purses" "worths" "[I", .methodLink RX8 271 yX6_worth, .instanceMethod yX6_worth, .selects RX6 yX6_worth yX6_worth, .code yX6_worth cX6_worth 2 (some .int)] ++ wsX80 ++ wsX60)
def wsX8_purse_r1 : List Cond := [Cond.fieldLink RX8 56 "ChangerFair" "purses" "LChangerFair$Purses;", Cond.methodLink RX8 106 yX8_isHouse, Cond.static yX8_isHouse, Cond.initialized RX8, Cond.code yX8_isHouse cX8_isHouse 1 (some .boolean), Cond.methodLink RX8 261 yX6_isKind, Cond.static yX6_isKind, Cond.initialized RX6, Cond.code yX6_isKind cX6_isKind 1 (some .boolean), Cond.methodLink RX8 264 yX6_isMeasure, Cond.static yX6_isMeasure, Cond.code yX6_isMeasure cX6_isMeasure 1 (some .boolean), Cond.methodLink RX8 88 yX8_finding, Cond.instanceMethod yX8_finding, Cond.selects RX8 yX8_finding yX8_finding, Cond.code yX8_finding cX8_finding 2 (some .long), Cond.fieldLink RX8 9 "ChangerFair" "findings" "[J", Cond.constantLong RX8 336 (-1000000000000), Cond.methodLink RX8 274 yX6_held, Cond.instanceMethod yX6_held, Cond.selects RX6 yX6_held yX6_held, Cond.code yX6_held cX6_held 3 (some .int), Cond.fieldLink RX6 17 "ChangerFair$Purses" "coins" "[[I", Cond.methodLink RX8 278 yX6_put]
def wsX8_purse_r2 : List Cond := [Cond.instanceMethod yX6_put, Cond.selects RX6 yX6_put yX6_put, Cond.code yX6_put cX6_put 4 none]
def wsX8_purse : List Cond := .code yX8_purse cX8_purse 5 (some .long) :: ((wsX8_purse_r1 ++ wsX8_purse_r2) ++ wsX80 ++ wsX60)
def wsX8_has_r1 : List Cond := [Cond.fieldLink RX8 56 "ChangerFair" "purses" "LChangerFair$Purses;", Cond.methodLink RX8 106 yX8_isHouse, Cond.static yX8_isHouse, Cond.initialized RX8, Cond.code yX8_isHouse cX8_isHouse 1 (some .boolean), Cond.methodLink RX8 261 yX6_isKind, Cond.static yX6_isKind, Cond.initialized RX6, Cond.code yX6_isKind cX6_isKind 1 (some .boolean), Cond.methodLink RX8 88 yX8_finding, Cond.instanceMethod yX8_finding, Cond.selects RX8 yX8_finding yX8_finding, Cond.code yX8_finding cX8_finding 2 (some .long), Cond.fieldLink RX8 9 "ChangerFair" "findings" "[J", Cond.constantLong RX8 336 (-1000000000000), Cond.methodLink RX8 281 yX6_wealth, Cond.instanceMethod yX6_wealth, Cond.selects RX6 yX6_wealth yX6_wealth, Cond.code yX6_wealth cX6_wealth 5 (some .long), Cond.fieldLink RX6 17 "ChangerFair$Purses" "coins" "[[I", Cond.fieldLink RX6 11 "ChangerFair$Purses" "worths" "[I", Cond.methodLink RX8 274 yX6_held, Cond.instanceMethod yX6_held, Cond.selects RX6 yX6_held yX6_held]
def wsX8_has_r2 : List Cond := [Cond.code yX6_held cX6_held 3 (some .int)]
def wsX8_has : List Cond := .code yX8_has cX8_has 3 (some .long) :: ((wsX8_has_r1 ++ wsX8_has_r2) ++ wsX80 ++ wsX60)
def wsX8_settle_r1 : List Cond := [Cond.fieldLink RX8 42 "ChangerFair" "book" "LChangerFair$Book;", Cond.fieldLink RX8 56 "ChangerFair" "purses" "LChangerFair$Purses;", Cond.methodLink RX8 220 yX8_areTwoHouses, Cond.static yX8_areTwoHouses, Cond.initialized RX8, Cond.code yX8_areTwoHouses cX8_areTwoHouses 2 (some .boolean), Cond.methodLink RX8 106 yX8_isHouse, Cond.static yX8_isHouse, Cond.code yX8_isHouse cX8_isHouse 1 (some .boolean), Cond.methodLink RX8 88 yX8_finding, Cond.instanceMethod yX8_finding, Cond.selects RX8 yX8_finding yX8_finding, Cond.code yX8_finding cX8_finding 2 (some .long), Cond.fieldLink RX8 9 "ChangerFair" "findings" "[J", Cond.constantLong RX8 336 (-1000000000000), Cond.methodLink RX8 231 yX1_debt, Cond.instanceMethod yX1_debt, Cond.selects RX1 yX1_debt yX1_debt, Cond.initialized RX1, Cond.code yX1_debt cX1_debt 3 (some .long), Cond.fieldLink RX1 11 "ChangerFair$Book" "debts" "[[J", Cond.methodLink RX8 284 yX6_handOver, Cond.instanceMethod yX6_handOver, Cond.selects RX6 yX6_handOver yX6_handOver]
def wsX8_settle_r2 : List Cond := [Cond.initialized RX6, Cond.code yX6_handOver cX6_handOver 12 (some .long), Cond.fieldLink RX6 11 "ChangerFair$Purses" "worths" "[I", Cond.fieldLink RX6 17 "ChangerFair$Purses" "coins" "[[I", Cond.methodLink RX6 24 Lib.Math.min.name, Cond.static Lib.Math.min.name, Cond.initialized "java/lang/Math", Cond.code Lib.Math.min.name Lib.Math.min.code 2 (some .int), Cond.methodLink RX6 30 Lib.MathLoose.min_long.x, Cond.static Lib.MathLoose.min_long.x, Cond.code Lib.MathLoose.min_long.x Lib.MathLoose.min_long.code 4 (some .long), Cond.methodLink RX6 20 yX6_dearestBut, Cond.instanceMethod yX6_dearestBut, Cond.selects RX6 yX6_dearestBut yX6_dearestBut, Cond.code yX6_dearestBut cX6_dearestBut 4 (some .int), Cond.methodLink RX8 288 yX1_lessen, Cond.instanceMethod yX1_lessen, Cond.selects RX1 yX1_lessen yX1_lessen, Cond.code yX1_lessen cX1_lessen 5 none, Cond.fieldLink RX1 24 "ChangerFair$Book" "changes" "J"]
def wsX8_settle : List Cond := .code yX8_settle cX8_settle 7 (some .long) :: ((wsX8_settle_r1 ++ wsX8_settle_r2) ++ wsX80 ++ wsX10 ++ wsX60)
def wsX8_vote : List Cond := .code yX8_vote cX8_vote 4 (some .long) :: ([.fieldLink RX8 63 "ChangerFair" "rates" "LChangerFair$Rates;", .methodLink RX8 106 yX8_isHouse, .static yX8_isHouse, .initialized RX8, .code yX8_isHouse cX8_isHouse 1 (some .boolean), .methodLink RX8 103 yX8_isTown, .static yX8_isTown, .code yX8_isTown cX8_isTown 1 (some .boolean), .methodLink RX8 291 yX7_isVote, .static yX7_isVote, .initialized RX7, .code yX7_isVote cX7_isVote 1 (some .boolean), .methodLink RX8 88 yX8_finding, .instanceMethod yX8_finding, .selects RX8 yX8_finding yX8_finding, .code yX8_finding cX8_finding 2 (some .long), .fieldLink RX8 9 "ChangerFair" "findings" "[J", .constantLong RX8 336 (-1000000000000), .methodLink RX8 294 yX7_changeVote, .instanceMethod yX7_changeVote, .selects RX7 yX7_changeVote yX7_changeVote, .code yX7_changeVote cX7_changeVote 5 (some .int), .fieldLink RX7 13 "ChangerFair$Rates" "votes" "[[I"] ++ wsX80 ++ wsX70)
def wsX8_rate : List Cond := .code yX8_rate cX8_rate 3 (some .long) :: ([.fieldLink RX8 63 "ChangerFair" "rates" "LChangerFair$Rates;", .methodLink RX8 103 yX8_isTown, .static yX8_isTown, .initialized RX8, .code yX8_isTown cX8_isTown 1 (some .boolean), .methodLink RX8 88 yX8_finding, .instanceMethod yX8_finding, .selects RX8 yX8_finding yX8_finding, .code yX8_finding cX8_finding 2 (some .long), .fieldLink RX8 9 "ChangerFair" "findings" "[J", .constantLong RX8 336 (-1000000000000), .methodLink RX8 298 yX7_middleVote, .instanceMethod yX7_middleVote, .selects RX7 yX7_middleVote yX7_middleVote, .initialized RX7, .code yX7_middleVote cX7_middleVote 4 (some .int), .fieldLink RX7 13 "ChangerFair$Rates" "votes" "[[I", .fieldLink RX7 19 "ChangerFair$Rates" "sorted" "[I", .methodLink RX7 23 yX7_insertSorted, .instanceMethod yX7_insertSorted, .selects RX7 yX7_insertSorted yX7_insertSorted, .code yX7_insertSorted cX7_insertSorted 4 none] ++ wsX80 ++ wsX70)
def wsX8_offer : List Cond := .code yX8_offer cX8_offer 4 (some .long) :: ([.fieldLink RX8 63 "ChangerFair" "rates" "LChangerFair$Rates;", .methodLink RX8 103 yX8_isTown, .static yX8_isTown, .initialized RX8, .code yX8_isTown cX8_isTown 1 (some .boolean), .methodLink RX8 301 yX7_isOffer, .static yX7_isOffer, .initialized RX7, .code yX7_isOffer cX7_isOffer 1 (some .boolean), .methodLink RX8 88 yX8_finding, .instanceMethod yX8_finding, .selects RX8 yX8_finding yX8_finding, .code yX8_finding cX8_finding 2 (some .long), .fieldLink RX8 9 "ChangerFair" "findings" "[J", .constantLong RX8 336 (-1000000000000), .methodLink RX8 304 yX7_changeOffer, .instanceMethod yX7_changeOffer, .selects RX7 yX7_changeOffer yX7_changeOffer, .code yX7_changeOffer cX7_changeOffer 5 (some .int), .fieldLink RX7 16 "ChangerFair$Rates" "offers" "[[I"] ++ wsX80 ++ wsX70)
def wsX8_turn_r1 : List Cond := [Cond.fieldLink RX8 63 "ChangerFair" "rates" "LChangerFair$Rates;", Cond.methodLink RX8 307 yX7_bestTurn, Cond.instanceMethod yX7_bestTurn, Cond.selects RX7 yX7_bestTurn yX7_bestTurn, Cond.initialized RX7, Cond.code yX7_bestTurn cX7_bestTurn 5 (some .int), Cond.constantLong RX7 27 (10000000000000000), Cond.fieldLink RX7 29 "ChangerFair$Rates" "bestProduct" "J", Cond.fieldLink RX7 33 "ChangerFair$Rates" "bestFigures" "I", Cond.constantLong RX7 37 (100000000), Cond.constantLong RX7 43 (10000), Cond.methodLink RX7 39 yX7_extendTurn, Cond.instanceMethod yX7_extendTurn, Cond.selects RX7 yX7_extendTurn yX7_extendTurn, Cond.code yX7_extendTurn cX7_extendTurn 9 none, Cond.fieldLink RX7 16 "ChangerFair$Rates" "offers" "[[I", Cond.methodLink RX7 45 yX7_closeTurn, Cond.instanceMethod yX7_closeTurn, Cond.selects RX7 yX7_closeTurn yX7_closeTurn, Cond.code yX7_closeTurn cX7_closeTurn 4 none, Cond.methodLink RX8 88 yX8_finding, Cond.instanceMethod yX8_finding, Cond.selects RX8 yX8_finding yX8_finding, Cond.initialized RX8]
def wsX8_turn_r2 : List Cond := [Cond.code yX8_finding cX8_finding 2 (some .long), Cond.fieldLink RX8 9 "ChangerFair" "findings" "[J", Cond.constantLong RX8 336 (-1000000000000)]
def wsX8_turn : List Cond := .code yX8_turn cX8_turn 2 (some .long) :: ((wsX8_turn_r1 ++ wsX8_turn_r2) ++ wsX80 ++ wsX70)
def wsX8_part_r1 : List Cond := [Cond.constant RX8 310 (1000000000), Cond.fieldLink RX8 70 "ChangerFair" "parting" "LChangerFair$Parting;", Cond.fieldLink RX8 113 "ChangerFair" "billCount" "I", Cond.fieldLink RX8 22 "ChangerFair" "bills" "[LChangerFair$Bill;", Cond.fieldLink RX8 130 "ChangerFair$Bill" "holder" "I", Cond.fieldLink RX8 161 "ChangerFair$Bill" "amount" "I", Cond.fieldLink RX8 42 "ChangerFair" "book" "LChangerFair$Book;", Cond.methodLink RX8 220 yX8_areTwoHouses, Cond.static yX8_areTwoHouses, Cond.initialized RX8, Cond.code yX8_areTwoHouses cX8_areTwoHouses 2 (some .boolean), Cond.methodLink RX8 106 yX8_isHouse, Cond.static yX8_isHouse, Cond.code yX8_isHouse cX8_isHouse 1 (some .boolean), Cond.methodLink RX8 88 yX8_finding, Cond.instanceMethod yX8_finding, Cond.selects RX8 yX8_finding yX8_finding, Cond.code yX8_finding cX8_finding 2 (some .long), Cond.fieldLink RX8 9 "ChangerFair" "findings" "[J", Cond.constantLong RX8 336 (-1000000000000), Cond.methodLink RX8 311 yX4_begin, Cond.instanceMethod yX4_begin, Cond.selects RX4 yX4_begin yX4_begin, Cond.initialized RX4]
def wsX8_part_r2 : List Cond := [Cond.code yX4_begin cX4_begin 2 none, Cond.fieldLink RX4 9 "ChangerFair$Parting" "pledged" "[J", Cond.methodLink RX8 314 yX0_pledgedBy, Cond.instanceMethod yX0_pledgedBy, Cond.selects RX0 yX0_pledgedBy yX0_pledgedBy, Cond.initialized RX0, Cond.code yX0_pledgedBy cX0_pledgedBy 2 (some .boolean), Cond.fieldLink RX0 16 "ChangerFair$Bill" "kind" "I", Cond.fieldLink RX0 42 "ChangerFair$Bill" "paidByDrawee" "Z", Cond.fieldLink RX0 23 "ChangerFair$Bill" "drawee" "I", Cond.methodLink RX8 317 yX4_pledge, Cond.instanceMethod yX4_pledge, Cond.selects RX4 yX4_pledge yX4_pledge, Cond.code yX4_pledge cX4_pledge 3 none, Cond.methodLink RX8 231 yX1_debt, Cond.instanceMethod yX1_debt, Cond.selects RX1 yX1_debt yX1_debt, Cond.initialized RX1, Cond.code yX1_debt cX1_debt 3 (some .long), Cond.fieldLink RX1 11 "ChangerFair$Book" "debts" "[[J", Cond.methodLink RX8 320 yX4_claim, Cond.instanceMethod yX4_claim, Cond.selects RX4 yX4_claim yX4_claim, Cond.code yX4_claim cX4_claim 4 none]
def wsX8_part_r3 : List Cond := [Cond.methodLink RX4 18 Lib.MathLoose.min_long.x, Cond.static Lib.MathLoose.min_long.x, Cond.initialized "java/lang/Math", Cond.code Lib.MathLoose.min_long.x Lib.MathLoose.min_long.code 4 (some .long), Cond.fieldLink RX4 15 "ChangerFair$Parting" "rest" "[J", Cond.methodLink RX8 324 yX4_shareOf, Cond.instanceMethod yX4_shareOf, Cond.selects RX4 yX4_shareOf yX4_shareOf, Cond.code yX4_shareOf cX4_shareOf 6 (some .long), Cond.methodLink RX4 28 Lib.MathLoose.max_long.x, Cond.static Lib.MathLoose.max_long.x, Cond.code Lib.MathLoose.max_long.x Lib.MathLoose.max_long.code 4 (some .long), Cond.methodLink RX4 24 yX4_total, Cond.static yX4_total, Cond.code yX4_total cX4_total 4 (some .long), Cond.methodLink RX4 31 yX4_shareIn, Cond.static yX4_shareIn, Cond.code yX4_shareIn cX4_shareIn 11 (some .long), Cond.methodLink RX4 35 yX4_portion, Cond.static yX4_portion, Cond.code yX4_portion cX4_portion 10 (some .long), Cond.constantLong RX4 39 (32768)]
def wsX8_part : List Cond := .code yX8_part cX8_part 6 (some .long) :: ((wsX8_part_r1 ++ (wsX8_part_r2 ++ wsX8_part_r3)) ++ wsX80 ++ wsX00 ++ wsX40 ++ wsX10)
def wsX8_tell : List Cond := .code yX8_tell cX8_tell 2 (some .long) :: ([.fieldLink RX8 328 "ChangerFair" "toldCount" "I", .fieldLink RX8 31 "ChangerFair" "told" "[I", .methodLink RX8 88 yX8_finding, .instanceMethod yX8_finding, .selects RX8 yX8_finding yX8_finding, .initialized RX8, .code yX8_finding cX8_finding 2 (some .long), .fieldLink RX8 9 "ChangerFair" "findings" "[J", .constantLong RX8 336 (-1000000000000)] ++ wsX80)
def wsX8_toldPayment : List Cond := .code yX8_toldPayment cX8_toldPayment 4 (some .boolean) :: ([.fieldLink RX8 31 "ChangerFair" "told" "[I", .fieldLink RX8 49 "ChangerFair" "plan" "LChangerFair$Plan;", .methodLink RX8 251 yX5_figure, .instanceMethod yX5_figure, .selects RX5 yX5_figure yX5_figure, .initialized RX5, .code yX5_figure cX5_figure 3 (some .long), .fieldLink RX5 25 "ChangerFair$Plan" "payers" "[I", .fieldLink RX5 28 "ChangerFair$Plan" "payees" "[I", .fieldLink RX5 31 "ChangerFair$Plan" "amounts" "[J", .methodLink RX5 73 yX5_hasPayment, .instanceMethod yX5_hasPayment, .selects RX5 yX5_hasPayment yX5_hasPayment, .code yX5_hasPayment cX5_hasPayment 2 (some .boolean), .fieldLink RX5 49 "ChangerFair$Plan" "paymentCount" "I"] ++ wsX80 ++ wsX50)
def wsX8_check_r1 : List Cond := [Cond.fieldLink RX8 49 "ChangerFair" "plan" "LChangerFair$Plan;", Cond.fieldLink RX8 42 "ChangerFair" "book" "LChangerFair$Book;", Cond.fieldLink RX8 328 "ChangerFair" "toldCount" "I", Cond.fieldLink RX8 245 "ChangerFair$Plan" "paymentCount" "I", Cond.constantLong RX8 334 (99), Cond.methodLink RX8 238 yX5_refresh, Cond.instanceMethod yX5_refresh, Cond.selects RX5 yX5_refresh yX5_refresh, Cond.initialized RX5, Cond.code yX5_refresh cX5_refresh 5 none, Cond.fieldLink RX5 36 "ChangerFair$Plan" "changesSeen" "J", Cond.fieldLink RX5 40 "ChangerFair$Book" "changes" "J", Cond.fieldLink RX5 45 "ChangerFair$Plan" "groupCount" "I", Cond.fieldLink RX5 49 "ChangerFair$Plan" "paymentCount" "I", Cond.methodLink RX5 52 yX5_readNets, Cond.instanceMethod yX5_readNets, Cond.selects RX5 yX5_readNets yX5_readNets, Cond.code yX5_readNets cX5_readNets 4 (some .int), Cond.fieldLink RX5 9 "ChangerFair$Plan" "left" "[J", Cond.methodLink RX5 77 yX1_balance, Cond.instanceMethod yX1_balance, Cond.selects RX1 yX1_balance yX1_balance, Cond.initialized RX1, Cond.code yX1_balance cX1_balance 5 (some .long)]
def wsX8_check_r2 : List Cond := [Cond.fieldLink RX1 11 "ChangerFair$Book" "debts" "[[J", Cond.methodLink RX5 56 yX5_addUp, Cond.instanceMethod yX5_addUp, Cond.selects RX5 yX5_addUp yX5_addUp, Cond.code yX5_addUp cX5_addUp 4 none, Cond.fieldLink RX5 15 "ChangerFair$Plan" "sums" "[J", Cond.methodLink RX5 59 yX5_listZeroSets, Cond.instanceMethod yX5_listZeroSets, Cond.selects RX5 yX5_listZeroSets yX5_listZeroSets, Cond.code yX5_listZeroSets cX5_listZeroSets 3 none, Cond.fieldLink RX5 81 "ChangerFair$Plan" "zeroSetCount" "I", Cond.fieldLink RX5 18 "ChangerFair$Plan" "zeroSets" "[I", Cond.methodLink RX5 63 yX5_countGroups, Cond.instanceMethod yX5_countGroups, Cond.selects RX5 yX5_countGroups yX5_countGroups, Cond.code yX5_countGroups cX5_countGroups 5 none, Cond.fieldLink RX5 22 "ChangerFair$Plan" "mostGroups" "[I", Cond.methodLink RX5 88 Lib.Math.max.name, Cond.static Lib.Math.max.name, Cond.initialized "java/lang/Math", Cond.code Lib.Math.max.name Lib.Math.max.code 2 (some .int), Cond.methodLink RX5 84 yX5_mayBeFirst, Cond.static yX5_mayBeFirst, Cond.code yX5_mayBeFirst cX5_mayBeFirst 3 (some .boolean)]
def wsX8_check_r3 : List Cond := [Cond.methodLink RX5 66 yX5_firstGroup, Cond.instanceMethod yX5_firstGroup, Cond.selects RX5 yX5_firstGroup yX5_firstGroup, Cond.code yX5_firstGroup cX5_firstGroup 4 (some .int), Cond.methodLink RX5 70 yX5_payWithin, Cond.instanceMethod yX5_payWithin, Cond.selects RX5 yX5_payWithin yX5_payWithin, Cond.code yX5_payWithin cX5_payWithin 7 none, Cond.methodLink RX5 97 Lib.MathLoose.min_long.x, Cond.static Lib.MathLoose.min_long.x, Cond.code Lib.MathLoose.min_long.x Lib.MathLoose.min_long.code 4 (some .long), Cond.fieldLink RX5 25 "ChangerFair$Plan" "payers" "[I", Cond.fieldLink RX5 28 "ChangerFair$Plan" "payees" "[I", Cond.fieldLink RX5 31 "ChangerFair$Plan" "amounts" "[J", Cond.methodLink RX5 94 yX5_leastOf, Cond.instanceMethod yX5_leastOf, Cond.selects RX5 yX5_leastOf yX5_leastOf, Cond.code yX5_leastOf cX5_leastOf 4 (some .int), Cond.methodLink RX8 331 yX8_toldPayment, Cond.instanceMethod yX8_toldPayment, Cond.selects RX8 yX8_toldPayment yX8_toldPayment, Cond.initialized RX8, Cond.code yX8_toldPayment cX8_toldPayment 4 (some .boolean), Cond.fieldLink RX8 31 "ChangerFair" "told" "[I"]
def wsX8_check_r4 : List Cond := [Cond.methodLink RX8 251 yX5_figure, Cond.instanceMethod yX5_figure, Cond.selects RX5 yX5_figure yX5_figure, Cond.code yX5_figure cX5_figure 3 (some .long), Cond.methodLink RX5 73 yX5_hasPayment, Cond.instanceMethod yX5_hasPayment, Cond.selects RX5 yX5_hasPayment yX5_hasPayment, Cond.code yX5_hasPayment cX5_hasPayment 2 (some .boolean)]
def wsX8_check : List Cond := .code yX8_check cX8_check 3 (some .long) :: ((wsX8_check_r1 ++ (wsX8_check_r2 ++ (wsX8_check_r3 ++ wsX8_check_r4))) ++ wsX80 ++ wsX50 ++ wsX10)
def wsX8_count : List Cond := .code yX8_count cX8_count 2 (some .long) :: ([.fieldLink RX8 92 "ChangerFair" "day" "I", .fieldLink RX8 113 "ChangerFair" "billCount" "I", .fieldLink RX8 77 "ChangerFair" "custom" "LChangerFair$Custom;", .fieldLink RX8 210 "ChangerFair$Custom" "clauseCount" "I", .fieldLink RX8 42 "ChangerFair" "book" "LChangerFair$Book;", .fieldLink RX8 328 "ChangerFair" "toldCount" "I", .fieldLink RX8 35 "ChangerFair" "reader" "LChangerFair$CustomReader;", .fieldLink RX8 203 "ChangerFair$CustomReader" "length" "I", .methodLink RX8 257 yX1_total, .instanceMethod yX1_total, .selects RX1 yX1_total yX1_total, .initialized RX1, .code yX1_total cX1_total 5 (some .long), .fieldLink RX1 11 "ChangerFair$Book" "debts" "[[J", .methodLink RX8 88 yX8_finding, .instanceMethod yX8_finding, .selects RX8 yX8_finding yX8_finding, .initialized RX8, .code yX8_finding cX8_finding 2 (some .long), .fieldLink RX8 9 "ChangerFair" "findings" "[J", .constantLong RX8 336 (-1000000000000)] ++ wsX80 ++ wsX20 ++ wsX30 ++ wsX10)
def wsX8_found : List Cond := .code yX8_found cX8_found 2 (some .long) :: ([.fieldLink RX8 9 "ChangerFair" "findings" "[J", .methodLink RX8 88 yX8_finding, .instanceMethod yX8_finding, .selects RX8 yX8_finding yX8_finding, .initialized RX8, .code yX8_finding cX8_finding 2 (some .long), .constantLong RX8 336 (-1000000000000)] ++ wsX80)
def wsX9_init_r1 : List Cond := [Cond.methodLink RX9 3 objectInit, Cond.instanceMethod objectInit, Cond.code objectInit ⟨#[0xb1]⟩ 1 none, Cond.fieldLink RX9 9 "ChangerFairModel" "gain" "I", Cond.arrayClass .int, Cond.fieldLink RX9 13 "ChangerFairModel" "roads" "[I", Cond.fieldLink RX9 17 "ChangerFairModel" "seats" "[I", Cond.fieldLink RX9 20 "ChangerFairModel" "kindOf" "[I", Cond.fieldLink RX9 23 "ChangerFairModel" "drawerOf" "[I", Cond.fieldLink RX9 26 "ChangerFairModel" "draweeOf" "[I", Cond.fieldLink RX9 29 "ChangerFairModel" "holderOf" "[I", Cond.fieldLink RX9 32 "ChangerFairModel" "amountOf" "[I", Cond.fieldLink RX9 35 "ChangerFairModel" "stateOf" "[I", Cond.fieldLink RX9 38 "ChangerFairModel" "endorsers" "[I", Cond.fieldLink RX9 41 "ChangerFairModel" "endorserOf" "[I", Cond.arrayClass .long, Cond.fieldLink RX9 44 "ChangerFairModel" "began" "[J", Cond.arrayClass .boolean, Cond.fieldLink RX9 48 "ChangerFairModel" "byPay" "[Z", Cond.fieldLink RX9 52 "ChangerFairModel" "debts" "[J", Cond.fieldLink RX9 55 "ChangerFairModel" "worth" "[I", Cond.fieldLink RX9 58 "ChangerFairModel" "purses" "[I", Cond.fieldLink RX9 61 "ChangerFairModel" "votes" "[I", Cond.fieldLink RX9 64 "ChangerFairModel" "offers" "[I"]
def wsX9_init_r2 : List Cond := [Cond.fieldLink RX9 67 "ChangerFairModel" "told" "[I", Cond.fieldLink RX9 70 "ChangerFairModel" "findings" "[J", Cond.fieldLink RX9 73 "ChangerFairModel" "binding" "[Z", Cond.fieldLink RX9 76 "ChangerFairModel" "tests" "[I", Cond.fieldLink RX9 79 "ChangerFairModel" "valueOf" "[I", Cond.fieldLink RX9 82 "ChangerFairModel" "howOf" "[I", Cond.fieldLink RX9 85 "ChangerFairModel" "numberOf" "[I", Cond.fieldLink RX9 88 "ChangerFairModel" "newBinding" "[Z", Cond.fieldLink RX9 91 "ChangerFairModel" "newTests" "[I", Cond.fieldLink RX9 94 "ChangerFairModel" "newValue" "[I", Cond.fieldLink RX9 97 "ChangerFairModel" "newHow" "[I", Cond.fieldLink RX9 100 "ChangerFairModel" "newNumber" "[I", Cond.fieldLink RX9 103 "ChangerFairModel" "tape" "[I", Cond.constantLong RX9 106 (-1), Cond.fieldLink RX9 108 "ChangerFairModel" "faultAt" "J", Cond.fieldLink RX9 112 "ChangerFairModel" "sums" "[J", Cond.fieldLink RX9 115 "ChangerFairModel" "most" "[I", Cond.fieldLink RX9 118 "ChangerFairModel" "group" "[I", Cond.fieldLink RX9 121 "ChangerFairModel" "payer" "[I", Cond.fieldLink RX9 124 "ChangerFairModel" "payee" "[I", Cond.fieldLink RX9 127 "ChangerFairModel" "paid" "[J", Cond.fieldLink RX9 130 "ChangerFairModel" "nets" "[J", Cond.fieldLink RX9 133 "ChangerFairModel" "claims" "[J", Cond.fieldLink RX9 136 "ChangerFairModel" "gets" "[J"]
def wsX9_init : List Cond := .code yX9_init cX9_init 1 none :: ((wsX9_init_r1 ++ wsX9_init_r2) ++ wsX90)
def wsX9_finding : List Cond := .code yX9_finding cX9_finding 3 (some .long) :: ([.fieldLink RX9 70 "ChangerFairModel" "findings" "[J", .constantLong RX9 139 (-1000000000000)] ++ wsX90)
def wsX9_in : List Cond := .code yX9_in cX9_in 3 (some .boolean) :: ([])
def wsX9_isHouse : List Cond := .code yX9_isHouse cX9_isHouse 1 (some .boolean) :: ([.methodLink RX9 141 yX9_in, .static yX9_in, .initialized RX9, .code yX9_in cX9_in 3 (some .boolean)])
def wsX9_isTown : List Cond := .code yX9_isTown cX9_isTown 1 (some .boolean) :: ([.methodLink RX9 141 yX9_in, .static yX9_in, .initialized RX9, .code yX9_in cX9_in 3 (some .boolean)])
def wsX9_isBill : List Cond := .code yX9_isBill cX9_isBill 2 (some .boolean) :: ([.fieldLink RX9 145 "ChangerFairModel" "bills" "I", .methodLink RX9 141 yX9_in, .static yX9_in, .initialized RX9, .code yX9_in cX9_in 3 (some .boolean)] ++ wsX90)
def wsX9_carry : List Cond := .code yX9_carry cX9_carry 2 (some .boolean) :: ([.fieldLink RX9 52 "ChangerFairModel" "debts" "[J", .fieldLink RX9 9 "ChangerFairModel" "gain" "I", .constantLong RX9 148 (1000), .constantLong RX9 150 (1000000000)] ++ wsX90)
def wsX9_days : List Cond := .code yX9_days cX9_days 3 (some .long) :: ([.constantLong RX9 152 (-1000000000001), .fieldLink RX9 158 "ChangerFairModel" "day" "J", .constantLong RX9 161 (28), .constantLong RX9 163 (27), .constantLong RX9 169 (-1000000000004), .methodLink RX9 141 yX9_in, .static yX9_in, .initialized RX9, .code yX9_in cX9_in 3 (some .boolean), .methodLink RX9 154 yX9_finding, .instanceMethod yX9_finding, .selects RX9 yX9_finding yX9_finding, .code yX9_finding cX9_finding 3 (some .long), .fieldLink RX9 70 "ChangerFairModel" "findings" "[J", .constantLong RX9 139 (-1000000000000), .methodLink RX9 165 yX9_carry, .instanceMethod yX9_carry, .selects RX9 yX9_carry yX9_carry, .code yX9_carry cX9_carry 2 (some .boolean), .fieldLink RX9 52 "ChangerFairModel" "debts" "[J", .fieldLink RX9 9 "ChangerFairModel" "gain" "I", .constantLong RX9 148 (1000), .constantLong RX9 150 (1000000000)] ++ wsX90)
def wsX9_gain : List Cond := .code yX9_gain cX9_gain 3 (some .long) :: ([.constantLong RX9 152 (-1000000000001), .fieldLink RX9 9 "ChangerFairModel" "gain" "I", .methodLink RX9 141 yX9_in, .static yX9_in, .initialized RX9, .code yX9_in cX9_in 3 (some .boolean), .methodLink RX9 154 yX9_finding, .instanceMethod yX9_finding, .selects RX9 yX9_finding yX9_finding, .code yX9_finding cX9_finding 3 (some .long), .fieldLink RX9 70 "ChangerFairModel" "findings" "[J", .constantLong RX9 139 (-1000000000000)] ++ wsX90)
def wsX9_road : List Cond := .code yX9_road cX9_road 4 (some .long) :: ([.constantLong RX9 152 (-1000000000001), .fieldLink RX9 13 "ChangerFairModel" "roads" "[I", .methodLink RX9 141 yX9_in, .static yX9_in, .initialized RX9, .code yX9_in cX9_in 3 (some .boolean), .methodLink RX9 154 yX9_finding, .instanceMethod yX9_finding, .selects RX9 yX9_finding yX9_finding, .code yX9_finding cX9_finding 3 (some .long), .fieldLink RX9 70 "ChangerFairModel" "findings" "[J", .constantLong RX9 139 (-1000000000000)] ++ wsX90)
def wsX9_seat : List Cond := .code yX9_seat cX9_seat 4 (some .long) :: ([.constantLong RX9 152 (-1000000000001), .fieldLink RX9 17 "ChangerFairModel" "seats" "[I", .methodLink RX9 171 yX9_isHouse, .static yX9_isHouse, .initialized RX9, .code yX9_isHouse cX9_isHouse 1 (some .boolean), .methodLink RX9 141 yX9_in, .static yX9_in, .code yX9_in cX9_in 3 (some .boolean), .methodLink RX9 175 yX9_isTown, .static yX9_isTown, .code yX9_isTown cX9_isTown 1 (some .boolean), .methodLink RX9 154 yX9_finding, .instanceMethod yX9_finding, .selects RX9 yX9_finding yX9_finding, .code yX9_finding cX9_finding 3 (some .long), .fieldLink RX9 70 "ChangerFairModel" "findings" "[J", .constantLong RX9 139 (-1000000000000)] ++ wsX90)
def wsX9_becomes : List Cond := .code yX9_becomes cX9_becomes 3 none :: ([.fieldLink RX9 35 "ChangerFairModel" "stateOf" "[I", .fieldLink RX9 44 "ChangerFairModel" "began" "[J", .fieldLink RX9 158 "ChangerFairModel" "day" "J"] ++ wsX90)
def wsX9_draw_r1 : List Cond := [Cond.constant RX9 178 (100000), Cond.constantLong RX9 152 (-1000000000001), Cond.constantLong RX9 179 (-1000000000005), Cond.fieldLink RX9 145 "ChangerFairModel" "bills" "I", Cond.constantLong RX9 169 (-1000000000004), Cond.fieldLink RX9 20 "ChangerFairModel" "kindOf" "[I", Cond.fieldLink RX9 23 "ChangerFairModel" "drawerOf" "[I", Cond.fieldLink RX9 26 "ChangerFairModel" "draweeOf" "[I", Cond.fieldLink RX9 29 "ChangerFairModel" "holderOf" "[I", Cond.fieldLink RX9 32 "ChangerFairModel" "amountOf" "[I", Cond.fieldLink RX9 38 "ChangerFairModel" "endorsers" "[I", Cond.fieldLink RX9 48 "ChangerFairModel" "byPay" "[Z", Cond.fieldLink RX9 44 "ChangerFairModel" "began" "[J", Cond.constantLong RX9 106 (-1), Cond.methodLink RX9 141 yX9_in, Cond.static yX9_in, Cond.initialized RX9, Cond.code yX9_in cX9_in 3 (some .boolean), Cond.methodLink RX9 171 yX9_isHouse, Cond.static yX9_isHouse, Cond.code yX9_isHouse cX9_isHouse 1 (some .boolean), Cond.methodLink RX9 154 yX9_finding, Cond.instanceMethod yX9_finding, Cond.selects RX9 yX9_finding yX9_finding]
def wsX9_draw_r2 : List Cond := [Cond.code yX9_finding cX9_finding 3 (some .long), Cond.fieldLink RX9 70 "ChangerFairModel" "findings" "[J", Cond.constantLong RX9 139 (-1000000000000), Cond.methodLink RX9 181 yX9_becomes, Cond.instanceMethod yX9_becomes, Cond.selects RX9 yX9_becomes yX9_becomes, Cond.code yX9_becomes cX9_becomes 3 none, Cond.fieldLink RX9 35 "ChangerFairModel" "stateOf" "[I", Cond.fieldLink RX9 158 "ChangerFairModel" "day" "J"]
def wsX9_draw : List Cond := .code yX9_draw cX9_draw 8 (some .long) :: ((wsX9_draw_r1 ++ wsX9_draw_r2) ++ wsX90)
def wsX9_pass_r1 : List Cond := [Cond.constantLong RX9 152 (-1000000000001), Cond.fieldLink RX9 35 "ChangerFairModel" "stateOf" "[I", Cond.constantLong RX9 188 (-1000000000003), Cond.fieldLink RX9 29 "ChangerFairModel" "holderOf" "[I", Cond.constantLong RX9 179 (-1000000000005), Cond.fieldLink RX9 20 "ChangerFairModel" "kindOf" "[I", Cond.fieldLink RX9 38 "ChangerFairModel" "endorsers" "[I", Cond.constantLong RX9 169 (-1000000000004), Cond.fieldLink RX9 41 "ChangerFairModel" "endorserOf" "[I", Cond.methodLink RX9 185 yX9_isBill, Cond.instanceMethod yX9_isBill, Cond.selects RX9 yX9_isBill yX9_isBill, Cond.initialized RX9, Cond.code yX9_isBill cX9_isBill 2 (some .boolean), Cond.fieldLink RX9 145 "ChangerFairModel" "bills" "I", Cond.methodLink RX9 141 yX9_in, Cond.static yX9_in, Cond.code yX9_in cX9_in 3 (some .boolean), Cond.methodLink RX9 171 yX9_isHouse, Cond.static yX9_isHouse, Cond.code yX9_isHouse cX9_isHouse 1 (some .boolean), Cond.methodLink RX9 154 yX9_finding, Cond.instanceMethod yX9_finding, Cond.selects RX9 yX9_finding yX9_finding]
def wsX9_pass_r2 : List Cond := [Cond.code yX9_finding cX9_finding 3 (some .long), Cond.fieldLink RX9 70 "ChangerFairModel" "findings" "[J", Cond.constantLong RX9 139 (-1000000000000)]
def wsX9_pass : List Cond := .code yX9_pass cX9_pass 3 (some .long) :: ((wsX9_pass_r1 ++ wsX9_pass_r2) ++ wsX90)
def wsX9_isEarly : List Cond := .code yX9_isEarly cX9_isEarly 1 (some .boolean) :: ([.fieldLink RX9 158 "ChangerFairModel" "day" "J", .constantLong RX9 161 (28), .constantLong RX9 190 (6)] ++ wsX90)
def wsX9_take_r1 : List Cond := [Cond.constantLong RX9 152 (-1000000000001), Cond.fieldLink RX9 35 "ChangerFairModel" "stateOf" "[I", Cond.constantLong RX9 188 (-1000000000003), Cond.constantLong RX9 195 (-1000000000007), Cond.methodLink RX9 185 yX9_isBill, Cond.instanceMethod yX9_isBill, Cond.selects RX9 yX9_isBill yX9_isBill, Cond.initialized RX9, Cond.code yX9_isBill cX9_isBill 2 (some .boolean), Cond.fieldLink RX9 145 "ChangerFairModel" "bills" "I", Cond.methodLink RX9 141 yX9_in, Cond.static yX9_in, Cond.code yX9_in cX9_in 3 (some .boolean), Cond.methodLink RX9 154 yX9_finding, Cond.instanceMethod yX9_finding, Cond.selects RX9 yX9_finding yX9_finding, Cond.code yX9_finding cX9_finding 3 (some .long), Cond.fieldLink RX9 70 "ChangerFairModel" "findings" "[J", Cond.constantLong RX9 139 (-1000000000000), Cond.methodLink RX9 192 yX9_isEarly, Cond.instanceMethod yX9_isEarly, Cond.selects RX9 yX9_isEarly yX9_isEarly, Cond.code yX9_isEarly cX9_isEarly 1 (some .boolean), Cond.fieldLink RX9 158 "ChangerFairModel" "day" "J"]
def wsX9_take_r2 : List Cond := [Cond.constantLong RX9 161 (28), Cond.constantLong RX9 190 (6), Cond.methodLink RX9 181 yX9_becomes, Cond.instanceMethod yX9_becomes, Cond.selects RX9 yX9_becomes yX9_becomes, Cond.code yX9_becomes cX9_becomes 3 none, Cond.fieldLink RX9 44 "ChangerFairModel" "began" "[J"]
def wsX9_take : List Cond := .code yX9_take cX9_take 3 (some .long) :: ((wsX9_take_r1 ++ wsX9_take_r2) ++ wsX90)
def wsX9_would : List Cond := .code yX9_would cX9_would 5 (some .long) :: ([.fieldLink RX9 52 "ChangerFairModel" "debts" "[J"] ++ wsX90)
def wsX9_isTooMuch : List Cond := .code yX9_isTooMuch cX9_isTooMuch 7 (some .boolean) :: ([.constantLong RX9 150 (1000000000), .constantLong RX9 201 (-1000000000), .methodLink RX9 197 yX9_would, .instanceMethod yX9_would, .selects RX9 yX9_would yX9_would, .initialized RX9, .code yX9_would cX9_would 5 (some .long), .fieldLink RX9 52 "ChangerFairModel" "debts" "[J"] ++ wsX90)
def wsX9_comesToOwe : List Cond := .code yX9_comesToOwe cX9_comesToOwe 7 none :: ([.fieldLink RX9 52 "ChangerFairModel" "debts" "[J", .methodLink RX9 197 yX9_would, .instanceMethod yX9_would, .selects RX9 yX9_would yX9_would, .initialized RX9, .code yX9_would cX9_would 5 (some .long)] ++ wsX90)
def wsX9_pay_r1 : List Cond := [Cond.constantLong RX9 152 (-1000000000001), Cond.fieldLink RX9 35 "ChangerFairModel" "stateOf" "[I", Cond.constantLong RX9 188 (-1000000000003), Cond.constantLong RX9 195 (-1000000000007), Cond.fieldLink RX9 26 "ChangerFairModel" "draweeOf" "[I", Cond.fieldLink RX9 29 "ChangerFairModel" "holderOf" "[I", Cond.fieldLink RX9 32 "ChangerFairModel" "amountOf" "[I", Cond.constantLong RX9 169 (-1000000000004), Cond.fieldLink RX9 48 "ChangerFairModel" "byPay" "[Z", Cond.methodLink RX9 185 yX9_isBill, Cond.instanceMethod yX9_isBill, Cond.selects RX9 yX9_isBill yX9_isBill, Cond.initialized RX9, Cond.code yX9_isBill cX9_isBill 2 (some .boolean), Cond.fieldLink RX9 145 "ChangerFairModel" "bills" "I", Cond.methodLink RX9 141 yX9_in, Cond.static yX9_in, Cond.code yX9_in cX9_in 3 (some .boolean), Cond.methodLink RX9 154 yX9_finding, Cond.instanceMethod yX9_finding, Cond.selects RX9 yX9_finding yX9_finding, Cond.code yX9_finding cX9_finding 3 (some .long), Cond.fieldLink RX9 70 "ChangerFairModel" "findings" "[J", Cond.constantLong RX9 139 (-1000000000000)]
def wsX9_pay_r2 : List Cond := [Cond.methodLink RX9 192 yX9_isEarly, Cond.instanceMethod yX9_isEarly, Cond.selects RX9 yX9_isEarly yX9_isEarly, Cond.code yX9_isEarly cX9_isEarly 1 (some .boolean), Cond.fieldLink RX9 158 "ChangerFairModel" "day" "J", Cond.constantLong RX9 161 (28), Cond.constantLong RX9 190 (6), Cond.methodLink RX9 203 yX9_isTooMuch, Cond.instanceMethod yX9_isTooMuch, Cond.selects RX9 yX9_isTooMuch yX9_isTooMuch, Cond.code yX9_isTooMuch cX9_isTooMuch 7 (some .boolean), Cond.constantLong RX9 150 (1000000000), Cond.constantLong RX9 201 (-1000000000), Cond.methodLink RX9 197 yX9_would, Cond.instanceMethod yX9_would, Cond.selects RX9 yX9_would yX9_would, Cond.code yX9_would cX9_would 5 (some .long), Cond.fieldLink RX9 52 "ChangerFairModel" "debts" "[J", Cond.methodLink RX9 207 yX9_comesToOwe, Cond.instanceMethod yX9_comesToOwe, Cond.selects RX9 yX9_comesToOwe yX9_comesToOwe, Cond.code yX9_comesToOwe cX9_comesToOwe 7 none, Cond.methodLink RX9 181 yX9_becomes, Cond.instanceMethod yX9_becomes]
def wsX9_pay_r3 : List Cond := [Cond.selects RX9 yX9_becomes yX9_becomes, Cond.code yX9_becomes cX9_becomes 3 none, Cond.fieldLink RX9 44 "ChangerFairModel" "began" "[J"]
def wsX9_pay : List Cond := .code yX9_pay cX9_pay 4 (some .long) :: ((wsX9_pay_r1 ++ (wsX9_pay_r2 ++ wsX9_pay_r3)) ++ wsX90)
def wsX9_protest : List Cond := .code yX9_protest cX9_protest 2 (some .long) :: ([.constantLong RX9 152 (-1000000000001), .fieldLink RX9 35 "ChangerFairModel" "stateOf" "[I", .constantLong RX9 188 (-1000000000003), .fieldLink RX9 158 "ChangerFairModel" "day" "J", .fieldLink RX9 44 "ChangerFairModel" "began" "[J", .methodLink RX9 185 yX9_isBill, .instanceMethod yX9_isBill, .selects RX9 yX9_isBill yX9_isBill, .initialized RX9, .code yX9_isBill cX9_isBill 2 (some .boolean), .fieldLink RX9 145 "ChangerFairModel" "bills" "I", .methodLink RX9 141 yX9_in, .static yX9_in, .code yX9_in cX9_in 3 (some .boolean), .methodLink RX9 154 yX9_finding, .instanceMethod yX9_finding, .selects RX9 yX9_finding yX9_finding, .code yX9_finding cX9_finding 3 (some .long), .fieldLink RX9 70 "ChangerFairModel" "findings" "[J", .constantLong RX9 139 (-1000000000000), .methodLink RX9 181 yX9_becomes, .instanceMethod yX9_becomes, .selects RX9 yX9_becomes yX9_becomes, .code yX9_becomes cX9_becomes 3 none] ++ wsX90)
def wsX9_isBound : List Cond := .code yX9_isBound cX9_isBound 12 (some .boolean) :: ([.fieldLink RX9 292 "ChangerFairModel" "clauses" "I", .fieldLink RX9 76 "ChangerFairModel" "tests" "[I", .fieldLink RX9 79 "ChangerFairModel" "valueOf" "[I", .fieldLink RX9 82 "ChangerFairModel" "howOf" "[I", .fieldLink RX9 85 "ChangerFairModel" "numberOf" "[I", .fieldLink RX9 73 "ChangerFairModel" "binding" "[Z"] ++ wsX90)
def wsX9_recourse_r1 : List Cond := [Cond.constantLong RX9 152 (-1000000000001), Cond.fieldLink RX9 35 "ChangerFairModel" "stateOf" "[I", Cond.constantLong RX9 188 (-1000000000003), Cond.fieldLink RX9 38 "ChangerFairModel" "endorsers" "[I", Cond.constantLong RX9 211 (-1000000000002), Cond.fieldLink RX9 23 "ChangerFairModel" "drawerOf" "[I", Cond.fieldLink RX9 41 "ChangerFairModel" "endorserOf" "[I", Cond.fieldLink RX9 44 "ChangerFairModel" "began" "[J", Cond.fieldLink RX9 32 "ChangerFairModel" "amountOf" "[I", Cond.fieldLink RX9 20 "ChangerFairModel" "kindOf" "[I", Cond.fieldLink RX9 13 "ChangerFairModel" "roads" "[I", Cond.fieldLink RX9 17 "ChangerFairModel" "seats" "[I", Cond.constantLong RX9 179 (-1000000000005), Cond.fieldLink RX9 29 "ChangerFairModel" "holderOf" "[I", Cond.constantLong RX9 169 (-1000000000004), Cond.methodLink RX9 185 yX9_isBill, Cond.instanceMethod yX9_isBill, Cond.selects RX9 yX9_isBill yX9_isBill, Cond.initialized RX9, Cond.code yX9_isBill cX9_isBill 2 (some .boolean), Cond.fieldLink RX9 145 "ChangerFairModel" "bills" "I", Cond.methodLink RX9 141 yX9_in, Cond.static yX9_in, Cond.code yX9_in cX9_in 3 (some .boolean)]
def wsX9_recourse_r2 : List Cond := [Cond.methodLink RX9 154 yX9_finding, Cond.instanceMethod yX9_finding, Cond.selects RX9 yX9_finding yX9_finding, Cond.code yX9_finding cX9_finding 3 (some .long), Cond.fieldLink RX9 70 "ChangerFairModel" "findings" "[J", Cond.constantLong RX9 139 (-1000000000000), Cond.methodLink RX9 213 yX9_isBound, Cond.instanceMethod yX9_isBound, Cond.selects RX9 yX9_isBound yX9_isBound, Cond.code yX9_isBound cX9_isBound 12 (some .boolean), Cond.fieldLink RX9 292 "ChangerFairModel" "clauses" "I", Cond.fieldLink RX9 76 "ChangerFairModel" "tests" "[I", Cond.fieldLink RX9 79 "ChangerFairModel" "valueOf" "[I", Cond.fieldLink RX9 82 "ChangerFairModel" "howOf" "[I", Cond.fieldLink RX9 85 "ChangerFairModel" "numberOf" "[I", Cond.fieldLink RX9 73 "ChangerFairModel" "binding" "[Z", Cond.methodLink RX9 203 yX9_isTooMuch, Cond.instanceMethod yX9_isTooMuch, Cond.selects RX9 yX9_isTooMuch yX9_isTooMuch, Cond.code yX9_isTooMuch cX9_isTooMuch 7 (some .boolean), Cond.constantLong RX9 150 (1000000000), Cond.constantLong RX9 201 (-1000000000), Cond.methodLink RX9 197 yX9_would, Cond.instanceMethod yX9_would]
def wsX9_recourse_r3 : List Cond := [Cond.selects RX9 yX9_would yX9_would, Cond.code yX9_would cX9_would 5 (some .long), Cond.fieldLink RX9 52 "ChangerFairModel" "debts" "[J", Cond.methodLink RX9 207 yX9_comesToOwe, Cond.instanceMethod yX9_comesToOwe, Cond.selects RX9 yX9_comesToOwe yX9_comesToOwe, Cond.code yX9_comesToOwe cX9_comesToOwe 7 none, Cond.methodLink RX9 181 yX9_becomes, Cond.instanceMethod yX9_becomes, Cond.selects RX9 yX9_becomes yX9_becomes, Cond.code yX9_becomes cX9_becomes 3 none, Cond.fieldLink RX9 158 "ChangerFairModel" "day" "J"]
def wsX9_recourse : List Cond := .code yX9_recourse cX9_recourse 6 (some .long) :: ((wsX9_recourse_r1 ++ (wsX9_recourse_r2 ++ wsX9_recourse_r3)) ++ wsX90)
def wsX9_about_r1 : List Cond := [Cond.constantLong RX9 152 (-1000000000001), Cond.fieldLink RX9 20 "ChangerFairModel" "kindOf" "[I", Cond.fieldLink RX9 23 "ChangerFairModel" "drawerOf" "[I", Cond.fieldLink RX9 26 "ChangerFairModel" "draweeOf" "[I", Cond.fieldLink RX9 29 "ChangerFairModel" "holderOf" "[I", Cond.fieldLink RX9 32 "ChangerFairModel" "amountOf" "[I", Cond.fieldLink RX9 35 "ChangerFairModel" "stateOf" "[I", Cond.fieldLink RX9 38 "ChangerFairModel" "endorsers" "[I", Cond.fieldLink RX9 44 "ChangerFairModel" "began" "[J", Cond.fieldLink RX9 41 "ChangerFairModel" "endorserOf" "[I", Cond.constantLong RX9 211 (-1000000000002), Cond.methodLink RX9 185 yX9_isBill, Cond.instanceMethod yX9_isBill, Cond.selects RX9 yX9_isBill yX9_isBill, Cond.initialized RX9, Cond.code yX9_isBill cX9_isBill 2 (some .boolean), Cond.fieldLink RX9 145 "ChangerFairModel" "bills" "I", Cond.methodLink RX9 141 yX9_in, Cond.static yX9_in, Cond.code yX9_in cX9_in 3 (some .boolean), Cond.methodLink RX9 154 yX9_finding, Cond.instanceMethod yX9_finding, Cond.selects RX9 yX9_finding yX9_finding, Cond.code yX9_finding cX9_finding 3 (some .long)]
def wsX9_about_r2 : List Cond := [Cond.fieldLink RX9 70 "ChangerFairModel" "findings" "[J", Cond.constantLong RX9 139 (-1000000000000)]
def wsX9_about : List Cond := .code yX9_about cX9_about 3 (some .long) :: ((wsX9_about_r1 ++ wsX9_about_r2) ++ wsX90)
def wsX9_as : List Cond := .code yX9_as cX9_as 3 (some .long) :: ([.constantLong RX9 152 (-1000000000001), .fieldLink RX9 20 "ChangerFairModel" "kindOf" "[I", .fieldLink RX9 32 "ChangerFairModel" "amountOf" "[I", .constantLong RX9 179 (-1000000000005), .methodLink RX9 185 yX9_isBill, .instanceMethod yX9_isBill, .selects RX9 yX9_isBill yX9_isBill, .initialized RX9, .code yX9_isBill cX9_isBill 2 (some .boolean), .fieldLink RX9 145 "ChangerFairModel" "bills" "I", .methodLink RX9 141 yX9_in, .static yX9_in, .code yX9_in cX9_in 3 (some .boolean), .methodLink RX9 154 yX9_finding, .instanceMethod yX9_finding, .selects RX9 yX9_finding yX9_finding, .code yX9_finding cX9_finding 3 (some .long), .fieldLink RX9 70 "ChangerFairModel" "findings" "[J", .constantLong RX9 139 (-1000000000000)] ++ wsX90)
def wsX9_knows : List Cond := .code yX9_knows cX9_knows 9 (some .long) :: ([.constantLong RX9 152 (-1000000000001), .constantLong RX9 211 (-1000000000002), .fieldLink RX9 44 "ChangerFairModel" "began" "[J", .fieldLink RX9 13 "ChangerFairModel" "roads" "[I", .fieldLink RX9 17 "ChangerFairModel" "seats" "[I", .methodLink RX9 171 yX9_isHouse, .static yX9_isHouse, .initialized RX9, .code yX9_isHouse cX9_isHouse 1 (some .boolean), .methodLink RX9 141 yX9_in, .static yX9_in, .code yX9_in cX9_in 3 (some .boolean), .methodLink RX9 185 yX9_isBill, .instanceMethod yX9_isBill, .selects RX9 yX9_isBill yX9_isBill, .code yX9_isBill cX9_isBill 2 (some .boolean), .fieldLink RX9 145 "ChangerFairModel" "bills" "I", .methodLink RX9 154 yX9_finding, .instanceMethod yX9_finding, .selects RX9 yX9_finding yX9_finding, .code yX9_finding cX9_finding 3 (some .long), .fieldLink RX9 70 "ChangerFairModel" "findings" "[J", .constantLong RX9 139 (-1000000000000)] ++ wsX90)
def wsX9_feed : List Cond := .code yX9_feed cX9_feed 5 (some .long) :: ([.constantLong RX9 152 (-1000000000001), .fieldLink RX9 217 "ChangerFairModel" "taped" "I", .constantLong RX9 169 (-1000000000004), .fieldLink RX9 103 "ChangerFairModel" "tape" "[I", .constantLong RX9 220 (255), .methodLink RX9 141 yX9_in, .static yX9_in, .initialized RX9, .code yX9_in cX9_in 3 (some .boolean), .methodLink RX9 154 yX9_finding, .instanceMethod yX9_finding, .selects RX9 yX9_finding yX9_finding, .code yX9_finding cX9_finding 3 (some .long), .fieldLink RX9 70 "ChangerFairModel" "findings" "[J", .constantLong RX9 139 (-1000000000000)] ++ wsX90)
def wsX9_at : List Cond := .code yX9_at cX9_at 2 (some .int) :: ([.fieldLink RX9 217 "ChangerFairModel" "taped" "I", .fieldLink RX9 103 "ChangerFairModel" "tape" "[I"] ++ wsX90)
def wsX9_isLetter : List Cond := .code yX9_isLetter cX9_isLetter 1 (some .boolean) :: ([])
def wsX9_isFigure : List Cond := .code yX9_isFigure cX9_isFigure 1 (some .boolean) :: ([])
def wsX9_wordOf : List Cond := .code yX9_wordOf cX9_wordOf 3 (some .int) :: ([.constantLong RX9 254 (46309), .constantLong RX9 256 (131360), .constantLong RX9 258 (249), .constantLong RX9 260 (1111), .constantLong RX9 262 (237470), .fieldLink RX9 232 "ChangerFairModel" "value" "I", .constantLong RX9 264 (21568592), .constantLong RX9 266 (168850), .constantLong RX9 268 (223456), .constantLong RX9 270 (365260)] ++ wsX90)
def wsX9_letters_r1 : List Cond := [Cond.fieldLink RX9 222 "ChangerFairModel" "next" "I", Cond.fieldLink RX9 229 "ChangerFairModel" "from" "I", Cond.constantLong RX9 163 (27), Cond.constantLong RX9 248 (96), Cond.constantLong RX9 106 (-1), Cond.fieldLink RX9 235 "ChangerFairModel" "word" "I", Cond.methodLink RX9 225 yX9_at, Cond.instanceMethod yX9_at, Cond.selects RX9 yX9_at yX9_at, Cond.initialized RX9, Cond.code yX9_at cX9_at 2 (some .int), Cond.fieldLink RX9 217 "ChangerFairModel" "taped" "I", Cond.fieldLink RX9 103 "ChangerFairModel" "tape" "[I", Cond.methodLink RX9 238 yX9_isLetter, Cond.static yX9_isLetter, Cond.code yX9_isLetter cX9_isLetter 1 (some .boolean), Cond.methodLink RX9 250 yX9_wordOf, Cond.instanceMethod yX9_wordOf, Cond.selects RX9 yX9_wordOf yX9_wordOf, Cond.code yX9_wordOf cX9_wordOf 3 (some .int), Cond.constantLong RX9 254 (46309), Cond.constantLong RX9 256 (131360), Cond.constantLong RX9 258 (249), Cond.constantLong RX9 260 (1111)]
def wsX9_letters_r2 : List Cond := [Cond.constantLong RX9 262 (237470), Cond.fieldLink RX9 232 "ChangerFairModel" "value" "I", Cond.constantLong RX9 264 (21568592), Cond.constantLong RX9 266 (168850), Cond.constantLong RX9 268 (223456), Cond.constantLong RX9 270 (365260)]
def wsX9_letters : List Cond := .code yX9_letters cX9_letters 3 none :: ((wsX9_letters_r1 ++ wsX9_letters_r2) ++ wsX90)
def wsX9_go_r1 : List Cond := [Cond.fieldLink RX9 222 "ChangerFairModel" "next" "I", Cond.fieldLink RX9 229 "ChangerFairModel" "from" "I", Cond.fieldLink RX9 232 "ChangerFairModel" "value" "I", Cond.fieldLink RX9 235 "ChangerFairModel" "word" "I", Cond.constant RX9 247 (999999), Cond.methodLink RX9 225 yX9_at, Cond.instanceMethod yX9_at, Cond.selects RX9 yX9_at yX9_at, Cond.initialized RX9, Cond.code yX9_at cX9_at 2 (some .int), Cond.fieldLink RX9 217 "ChangerFairModel" "taped" "I", Cond.fieldLink RX9 103 "ChangerFairModel" "tape" "[I", Cond.methodLink RX9 238 yX9_isLetter, Cond.static yX9_isLetter, Cond.code yX9_isLetter cX9_isLetter 1 (some .boolean), Cond.methodLink RX9 241 yX9_letters, Cond.instanceMethod yX9_letters, Cond.selects RX9 yX9_letters yX9_letters, Cond.code yX9_letters cX9_letters 3 none, Cond.constantLong RX9 163 (27), Cond.constantLong RX9 248 (96), Cond.constantLong RX9 106 (-1), Cond.methodLink RX9 250 yX9_wordOf, Cond.instanceMethod yX9_wordOf]
def wsX9_go_r2 : List Cond := [Cond.selects RX9 yX9_wordOf yX9_wordOf, Cond.code yX9_wordOf cX9_wordOf 3 (some .int), Cond.constantLong RX9 254 (46309), Cond.constantLong RX9 256 (131360), Cond.constantLong RX9 258 (249), Cond.constantLong RX9 260 (1111), Cond.constantLong RX9 262 (237470), Cond.constantLong RX9 264 (21568592), Cond.constantLong RX9 266 (168850), Cond.constantLong RX9 268 (223456), Cond.constantLong RX9 270 (365260), Cond.methodLink RX9 244 yX9_isFigure, Cond.static yX9_isFigure, Cond.code yX9_isFigure cX9_isFigure 1 (some .boolean)]
def wsX9_go : List Cond := .code yX9_go cX9_go 2 none :: ((wsX9_go_r1 ++ wsX9_go_r2) ++ wsX90)
def wsX9_wrong : List Cond := .code yX9_wrong cX9_wrong 1 (some .boolean) :: ([.fieldLink RX9 229 "ChangerFairModel" "from" "I", .fieldLink RX9 108 "ChangerFairModel" "faultAt" "J"] ++ wsX90)
def wsX9_test_r1 : List Cond := [Cond.fieldLink RX9 272 "ChangerFairModel" "newClauses" "I", Cond.fieldLink RX9 91 "ChangerFairModel" "newTests" "[I", Cond.fieldLink RX9 235 "ChangerFairModel" "word" "I", Cond.fieldLink RX9 94 "ChangerFairModel" "newValue" "[I", Cond.fieldLink RX9 232 "ChangerFairModel" "value" "I", Cond.fieldLink RX9 97 "ChangerFairModel" "newHow" "[I", Cond.fieldLink RX9 100 "ChangerFairModel" "newNumber" "[I", Cond.methodLink RX9 275 yX9_wrong, Cond.instanceMethod yX9_wrong, Cond.selects RX9 yX9_wrong yX9_wrong, Cond.initialized RX9, Cond.code yX9_wrong cX9_wrong 1 (some .boolean), Cond.fieldLink RX9 229 "ChangerFairModel" "from" "I", Cond.fieldLink RX9 108 "ChangerFairModel" "faultAt" "J", Cond.methodLink RX9 278 yX9_go, Cond.instanceMethod yX9_go, Cond.selects RX9 yX9_go yX9_go, Cond.code yX9_go cX9_go 2 none, Cond.fieldLink RX9 222 "ChangerFairModel" "next" "I", Cond.constant RX9 247 (999999), Cond.methodLink RX9 225 yX9_at, Cond.instanceMethod yX9_at, Cond.selects RX9 yX9_at yX9_at, Cond.code yX9_at cX9_at 2 (some .int)]
def wsX9_test_r2 : List Cond := [Cond.fieldLink RX9 217 "ChangerFairModel" "taped" "I", Cond.fieldLink RX9 103 "ChangerFairModel" "tape" "[I", Cond.methodLink RX9 238 yX9_isLetter, Cond.static yX9_isLetter, Cond.code yX9_isLetter cX9_isLetter 1 (some .boolean), Cond.methodLink RX9 241 yX9_letters, Cond.instanceMethod yX9_letters, Cond.selects RX9 yX9_letters yX9_letters, Cond.code yX9_letters cX9_letters 3 none, Cond.constantLong RX9 163 (27), Cond.constantLong RX9 248 (96), Cond.constantLong RX9 106 (-1), Cond.methodLink RX9 250 yX9_wordOf, Cond.instanceMethod yX9_wordOf, Cond.selects RX9 yX9_wordOf yX9_wordOf, Cond.code yX9_wordOf cX9_wordOf 3 (some .int), Cond.constantLong RX9 254 (46309), Cond.constantLong RX9 256 (131360), Cond.constantLong RX9 258 (249), Cond.constantLong RX9 260 (1111), Cond.constantLong RX9 262 (237470), Cond.constantLong RX9 264 (21568592), Cond.constantLong RX9 266 (168850), Cond.constantLong RX9 268 (223456)]
def wsX9_test_r3 : List Cond := [Cond.constantLong RX9 270 (365260), Cond.methodLink RX9 244 yX9_isFigure, Cond.static yX9_isFigure, Cond.code yX9_isFigure cX9_isFigure 1 (some .boolean)]
def wsX9_test : List Cond := .code yX9_test cX9_test 2 (some .boolean) :: ((wsX9_test_r1 ++ (wsX9_test_r2 ++ wsX9_test_r3)) ++ wsX90)
def wsX9_clause_r1 : List Cond := [Cond.fieldLink RX9 235 "ChangerFairModel" "word" "I", Cond.fieldLink RX9 88 "ChangerFairModel" "newBinding" "[Z", Cond.fieldLink RX9 272 "ChangerFairModel" "newClauses" "I", Cond.fieldLink RX9 91 "ChangerFairModel" "newTests" "[I", Cond.methodLink RX9 275 yX9_wrong, Cond.instanceMethod yX9_wrong, Cond.selects RX9 yX9_wrong yX9_wrong, Cond.initialized RX9, Cond.code yX9_wrong cX9_wrong 1 (some .boolean), Cond.fieldLink RX9 229 "ChangerFairModel" "from" "I", Cond.fieldLink RX9 108 "ChangerFairModel" "faultAt" "J", Cond.methodLink RX9 278 yX9_go, Cond.instanceMethod yX9_go, Cond.selects RX9 yX9_go yX9_go, Cond.code yX9_go cX9_go 2 none, Cond.fieldLink RX9 222 "ChangerFairModel" "next" "I", Cond.fieldLink RX9 232 "ChangerFairModel" "value" "I", Cond.constant RX9 247 (999999), Cond.methodLink RX9 225 yX9_at, Cond.instanceMethod yX9_at, Cond.selects RX9 yX9_at yX9_at, Cond.code yX9_at cX9_at 2 (some .int), Cond.fieldLink RX9 217 "ChangerFairModel" "taped" "I", Cond.fieldLink RX9 103 "ChangerFairModel" "tape" "[I"]
def wsX9_clause_r2 : List Cond := [Cond.methodLink RX9 238 yX9_isLetter, Cond.static yX9_isLetter, Cond.code yX9_isLetter cX9_isLetter 1 (some .boolean), Cond.methodLink RX9 241 yX9_letters, Cond.instanceMethod yX9_letters, Cond.selects RX9 yX9_letters yX9_letters, Cond.code yX9_letters cX9_letters 3 none, Cond.constantLong RX9 163 (27), Cond.constantLong RX9 248 (96), Cond.constantLong RX9 106 (-1), Cond.methodLink RX9 250 yX9_wordOf, Cond.instanceMethod yX9_wordOf, Cond.selects RX9 yX9_wordOf yX9_wordOf, Cond.code yX9_wordOf cX9_wordOf 3 (some .int), Cond.constantLong RX9 254 (46309), Cond.constantLong RX9 256 (131360), Cond.constantLong RX9 258 (249), Cond.constantLong RX9 260 (1111), Cond.constantLong RX9 262 (237470), Cond.constantLong RX9 264 (21568592), Cond.constantLong RX9 266 (168850), Cond.constantLong RX9 268 (223456), Cond.constantLong RX9 270 (365260), Cond.methodLink RX9 244 yX9_isFigure]
def wsX9_clause_r3 : List Cond := [Cond.static yX9_isFigure, Cond.code yX9_isFigure cX9_isFigure 1 (some .boolean), Cond.methodLink RX9 281 yX9_test, Cond.instanceMethod yX9_test, Cond.selects RX9 yX9_test yX9_test, Cond.code yX9_test cX9_test 2 (some .boolean), Cond.fieldLink RX9 94 "ChangerFairModel" "newValue" "[I", Cond.fieldLink RX9 97 "ChangerFairModel" "newHow" "[I", Cond.fieldLink RX9 100 "ChangerFairModel" "newNumber" "[I"]
def wsX9_clause : List Cond := .code yX9_clause cX9_clause 2 (some .boolean) :: ((wsX9_clause_r1 ++ (wsX9_clause_r2 ++ wsX9_clause_r3)) ++ wsX90)
def wsX9_text_r1 : List Cond := [Cond.fieldLink RX9 235 "ChangerFairModel" "word" "I", Cond.fieldLink RX9 272 "ChangerFairModel" "newClauses" "I", Cond.methodLink RX9 284 yX9_clause, Cond.instanceMethod yX9_clause, Cond.selects RX9 yX9_clause yX9_clause, Cond.initialized RX9, Cond.code yX9_clause cX9_clause 2 (some .boolean), Cond.fieldLink RX9 88 "ChangerFairModel" "newBinding" "[Z", Cond.fieldLink RX9 91 "ChangerFairModel" "newTests" "[I", Cond.methodLink RX9 275 yX9_wrong, Cond.instanceMethod yX9_wrong, Cond.selects RX9 yX9_wrong yX9_wrong, Cond.code yX9_wrong cX9_wrong 1 (some .boolean), Cond.fieldLink RX9 229 "ChangerFairModel" "from" "I", Cond.fieldLink RX9 108 "ChangerFairModel" "faultAt" "J", Cond.methodLink RX9 278 yX9_go, Cond.instanceMethod yX9_go, Cond.selects RX9 yX9_go yX9_go, Cond.code yX9_go cX9_go 2 none, Cond.fieldLink RX9 222 "ChangerFairModel" "next" "I", Cond.fieldLink RX9 232 "ChangerFairModel" "value" "I", Cond.constant RX9 247 (999999), Cond.methodLink RX9 225 yX9_at, Cond.instanceMethod yX9_at]
def wsX9_text_r2 : List Cond := [Cond.selects RX9 yX9_at yX9_at, Cond.code yX9_at cX9_at 2 (some .int), Cond.fieldLink RX9 217 "ChangerFairModel" "taped" "I", Cond.fieldLink RX9 103 "ChangerFairModel" "tape" "[I", Cond.methodLink RX9 238 yX9_isLetter, Cond.static yX9_isLetter, Cond.code yX9_isLetter cX9_isLetter 1 (some .boolean), Cond.methodLink RX9 241 yX9_letters, Cond.instanceMethod yX9_letters, Cond.selects RX9 yX9_letters yX9_letters, Cond.code yX9_letters cX9_letters 3 none, Cond.constantLong RX9 163 (27), Cond.constantLong RX9 248 (96), Cond.constantLong RX9 106 (-1), Cond.methodLink RX9 250 yX9_wordOf, Cond.instanceMethod yX9_wordOf, Cond.selects RX9 yX9_wordOf yX9_wordOf, Cond.code yX9_wordOf cX9_wordOf 3 (some .int), Cond.constantLong RX9 254 (46309), Cond.constantLong RX9 256 (131360), Cond.constantLong RX9 258 (249), Cond.constantLong RX9 260 (1111), Cond.constantLong RX9 262 (237470), Cond.constantLong RX9 264 (21568592)]
def wsX9_text_r3 : List Cond := [Cond.constantLong RX9 266 (168850), Cond.constantLong RX9 268 (223456), Cond.constantLong RX9 270 (365260), Cond.methodLink RX9 244 yX9_isFigure, Cond.static yX9_isFigure, Cond.code yX9_isFigure cX9_isFigure 1 (some .boolean), Cond.methodLink RX9 281 yX9_test, Cond.instanceMethod yX9_test, Cond.selects RX9 yX9_test yX9_test, Cond.code yX9_test cX9_test 2 (some .boolean), Cond.fieldLink RX9 94 "ChangerFairModel" "newValue" "[I", Cond.fieldLink RX9 97 "ChangerFairModel" "newHow" "[I", Cond.fieldLink RX9 100 "ChangerFairModel" "newNumber" "[I"]
def wsX9_text : List Cond := .code yX9_text cX9_text 2 (some .boolean) :: ((wsX9_text_r1 ++ (wsX9_text_r2 ++ wsX9_text_r3)) ++ wsX90)
def wsX9_read_r1 : List Cond := [Cond.constantLong RX9 106 (-1), Cond.fieldLink RX9 108 "ChangerFairModel" "faultAt" "J", Cond.fieldLink RX9 272 "ChangerFairModel" "newClauses" "I", Cond.fieldLink RX9 222 "ChangerFairModel" "next" "I", Cond.fieldLink RX9 217 "ChangerFairModel" "taped" "I", Cond.constantLong RX9 290 (-1000000000006), Cond.fieldLink RX9 292 "ChangerFairModel" "clauses" "I", Cond.fieldLink RX9 73 "ChangerFairModel" "binding" "[Z", Cond.fieldLink RX9 88 "ChangerFairModel" "newBinding" "[Z", Cond.fieldLink RX9 76 "ChangerFairModel" "tests" "[I", Cond.fieldLink RX9 91 "ChangerFairModel" "newTests" "[I", Cond.fieldLink RX9 79 "ChangerFairModel" "valueOf" "[I", Cond.fieldLink RX9 94 "ChangerFairModel" "newValue" "[I", Cond.fieldLink RX9 82 "ChangerFairModel" "howOf" "[I", Cond.fieldLink RX9 97 "ChangerFairModel" "newHow" "[I", Cond.fieldLink RX9 85 "ChangerFairModel" "numberOf" "[I", Cond.fieldLink RX9 100 "ChangerFairModel" "newNumber" "[I", Cond.methodLink RX9 278 yX9_go, Cond.instanceMethod yX9_go, Cond.selects RX9 yX9_go yX9_go, Cond.initialized RX9, Cond.code yX9_go cX9_go 2 none, Cond.fieldLink RX9 229 "ChangerFairModel" "from" "I", Cond.fieldLink RX9 232 "ChangerFairModel" "value" "I"]
def wsX9_read_r2 : List Cond := [Cond.fieldLink RX9 235 "ChangerFairModel" "word" "I", Cond.constant RX9 247 (999999), Cond.methodLink RX9 225 yX9_at, Cond.instanceMethod yX9_at, Cond.selects RX9 yX9_at yX9_at, Cond.code yX9_at cX9_at 2 (some .int), Cond.fieldLink RX9 103 "ChangerFairModel" "tape" "[I", Cond.methodLink RX9 238 yX9_isLetter, Cond.static yX9_isLetter, Cond.code yX9_isLetter cX9_isLetter 1 (some .boolean), Cond.methodLink RX9 241 yX9_letters, Cond.instanceMethod yX9_letters, Cond.selects RX9 yX9_letters yX9_letters, Cond.code yX9_letters cX9_letters 3 none, Cond.constantLong RX9 163 (27), Cond.constantLong RX9 248 (96), Cond.methodLink RX9 250 yX9_wordOf, Cond.instanceMethod yX9_wordOf, Cond.selects RX9 yX9_wordOf yX9_wordOf, Cond.code yX9_wordOf cX9_wordOf 3 (some .int), Cond.constantLong RX9 254 (46309), Cond.constantLong RX9 256 (131360), Cond.constantLong RX9 258 (249), Cond.constantLong RX9 260 (1111)]
def wsX9_read_r3 : List Cond := [Cond.constantLong RX9 262 (237470), Cond.constantLong RX9 264 (21568592), Cond.constantLong RX9 266 (168850), Cond.constantLong RX9 268 (223456), Cond.constantLong RX9 270 (365260), Cond.methodLink RX9 244 yX9_isFigure, Cond.static yX9_isFigure, Cond.code yX9_isFigure cX9_isFigure 1 (some .boolean), Cond.methodLink RX9 287 yX9_text, Cond.instanceMethod yX9_text, Cond.selects RX9 yX9_text yX9_text, Cond.code yX9_text cX9_text 2 (some .boolean), Cond.methodLink RX9 284 yX9_clause, Cond.instanceMethod yX9_clause, Cond.selects RX9 yX9_clause yX9_clause, Cond.code yX9_clause cX9_clause 2 (some .boolean), Cond.methodLink RX9 275 yX9_wrong, Cond.instanceMethod yX9_wrong, Cond.selects RX9 yX9_wrong yX9_wrong, Cond.code yX9_wrong cX9_wrong 1 (some .boolean), Cond.methodLink RX9 281 yX9_test, Cond.instanceMethod yX9_test, Cond.selects RX9 yX9_test yX9_test, Cond.code yX9_test cX9_test 2 (some .boolean)]
def wsX9_read_r4 : List Cond := [Cond.methodLink RX9 154 yX9_finding, Cond.instanceMethod yX9_finding, Cond.selects RX9 yX9_finding yX9_finding, Cond.code yX9_finding cX9_finding 3 (some .long), Cond.fieldLink RX9 70 "ChangerFairModel" "findings" "[J", Cond.constantLong RX9 139 (-1000000000000)]
def wsX9_read : List Cond := .code yX9_read cX9_read 3 (some .long) :: ((wsX9_read_r1 ++ (wsX9_read_r2 ++ (wsX9_read_r3 ++ wsX9_read_r4))) ++ wsX90)
def wsX9_fault : List Cond := .code yX9_fault cX9_fault 1 (some .long) :: ([.fieldLink RX9 108 "ChangerFairModel" "faultAt" "J"] ++ wsX90)
def wsX9_binds : List Cond := .code yX9_binds cX9_binds 6 (some .long) :: ([.constantLong RX9 152 (-1000000000001), .methodLink RX9 154 yX9_finding, .instanceMethod yX9_finding, .selects RX9 yX9_finding yX9_finding, .initialized RX9, .code yX9_finding cX9_finding 3 (some .long), .fieldLink RX9 70 "ChangerFairModel" "findings" "[J", .constantLong RX9 139 (-1000000000000), .methodLink RX9 213 yX9_isBound, .instanceMethod yX9_isBound, .selects RX9 yX9_isBound yX9_isBound, .code yX9_isBound cX9_isBound 12 (some .boolean), .fieldLink RX9 292 "ChangerFairModel" "clauses" "I", .fieldLink RX9 76 "ChangerFairModel" "tests" "[I", .fieldLink RX9 79 "ChangerFairModel" "valueOf" "[I", .fieldLink RX9 82 "ChangerFairModel" "howOf" "[I", .fieldLink RX9 85 "ChangerFairModel" "numberOf" "[I", .fieldLink RX9 73 "ChangerFairModel" "binding" "[Z"] ++ wsX90)
def wsX9_owe_r1 : List Cond := [Cond.constant RX9 295 (1000000), Cond.constantLong RX9 152 (-1000000000001), Cond.constantLong RX9 169 (-1000000000004), Cond.fieldLink RX9 52 "ChangerFairModel" "debts" "[J", Cond.methodLink RX9 171 yX9_isHouse, Cond.static yX9_isHouse, Cond.initialized RX9, Cond.code yX9_isHouse cX9_isHouse 1 (some .boolean), Cond.methodLink RX9 141 yX9_in, Cond.static yX9_in, Cond.code yX9_in cX9_in 3 (some .boolean), Cond.methodLink RX9 154 yX9_finding, Cond.instanceMethod yX9_finding, Cond.selects RX9 yX9_finding yX9_finding, Cond.code yX9_finding cX9_finding 3 (some .long), Cond.fieldLink RX9 70 "ChangerFairModel" "findings" "[J", Cond.constantLong RX9 139 (-1000000000000), Cond.methodLink RX9 203 yX9_isTooMuch, Cond.instanceMethod yX9_isTooMuch, Cond.selects RX9 yX9_isTooMuch yX9_isTooMuch, Cond.code yX9_isTooMuch cX9_isTooMuch 7 (some .boolean), Cond.constantLong RX9 150 (1000000000), Cond.constantLong RX9 201 (-1000000000), Cond.methodLink RX9 197 yX9_would]
def wsX9_owe_r2 : List Cond := [Cond.instanceMethod yX9_would, Cond.selects RX9 yX9_would yX9_would, Cond.code yX9_would cX9_would 5 (some .long), Cond.methodLink RX9 207 yX9_comesToOwe, Cond.instanceMethod yX9_comesToOwe, Cond.selects RX9 yX9_comesToOwe yX9_comesToOwe, Cond.code yX9_comesToOwe cX9_comesToOwe 7 none]
def wsX9_owe : List Cond := .code yX9_owe cX9_owe 4 (some .long) :: ((wsX9_owe_r1 ++ wsX9_owe_r2) ++ wsX90)
def wsX9_owes : List Cond := .code yX9_owes cX9_owes 3 (some .long) :: ([.fieldLink RX9 52 "ChangerFairModel" "debts" "[J", .constantLong RX9 152 (-1000000000001), .methodLink RX9 171 yX9_isHouse, .static yX9_isHouse, .initialized RX9, .code yX9_isHouse cX9_isHouse 1 (some .boolean), .methodLink RX9 141 yX9_in, .static yX9_in, .code yX9_in cX9_in 3 (some .boolean), .methodLink RX9 154 yX9_finding, .instanceMethod yX9_finding, .selects RX9 yX9_finding yX9_finding, .code yX9_finding cX9_finding 3 (some .long), .fieldLink RX9 70 "ChangerFairModel" "findings" "[J", .constantLong RX9 139 (-1000000000000)] ++ wsX90)
def wsX9_netOf : List Cond := .code yX9_netOf cX9_netOf 5 (some .long) :: ([.fieldLink RX9 52 "ChangerFairModel" "debts" "[J"] ++ wsX90)
def wsX9_net : List Cond := .code yX9_net cX9_net 2 (some .long) :: ([.constantLong RX9 152 (-1000000000001), .methodLink RX9 171 yX9_isHouse, .static yX9_isHouse, .initialized RX9, .code yX9_isHouse cX9_isHouse 1 (some .boolean), .methodLink RX9 141 yX9_in, .static yX9_in, .code yX9_in cX9_in 3 (some .boolean), .methodLink RX9 296 yX9_netOf, .instanceMethod yX9_netOf, .selects RX9 yX9_netOf yX9_netOf, .code yX9_netOf cX9_netOf 5 (some .long), .fieldLink RX9 52 "ChangerFairModel" "debts" "[J", .methodLink RX9 154 yX9_finding, .instanceMethod yX9_finding, .selects RX9 yX9_finding yX9_finding, .code yX9_finding cX9_finding 3 (some .long), .fieldLink RX9 70 "ChangerFairModel" "findings" "[J", .constantLong RX9 139 (-1000000000000)] ++ wsX90)
def wsX9_findMost : List Cond := .code yX9_findMost cX9_findMost 4 none :: ([.fieldLink RX9 112 "ChangerFairModel" "sums" "[J", .fieldLink RX9 130 "ChangerFairModel" "nets" "[J", .fieldLink RX9 115 "ChangerFairModel" "most" "[I"] ++ wsX90)
def wsX9_leastOf : List Cond := .code yX9_leastOf cX9_leastOf 4 (some .int) :: ([.fieldLink RX9 130 "ChangerFairModel" "nets" "[J"] ++ wsX90)
def wsX9_payOut : List Cond := .code yX9_payOut cX9_payOut 6 none :: ([.fieldLink RX9 130 "ChangerFairModel" "nets" "[J", .methodLink RX9 317 Lib.MathLoose.min_long.x, .static Lib.MathLoose.min_long.x, .initialized "java/lang/Math", .code Lib.MathLoose.min_long.x Lib.MathLoose.min_long.code 4 (some .long), .fieldLink RX9 121 "ChangerFairModel" "payer" "[I", .fieldLink RX9 306 "ChangerFairModel" "payments" "I", .fieldLink RX9 124 "ChangerFairModel" "payee" "[I", .fieldLink RX9 127 "ChangerFairModel" "paid" "[J", .methodLink RX9 313 yX9_leastOf, .instanceMethod yX9_leastOf, .selects RX9 yX9_leastOf yX9_leastOf, .initialized RX9, .code yX9_leastOf cX9_leastOf 4 (some .int)] ++ wsX90)
def wsX9_findPlan_r1 : List Cond := [Cond.fieldLink RX9 130 "ChangerFairModel" "nets" "[J", Cond.fieldLink RX9 303 "ChangerFairModel" "groups" "I", Cond.fieldLink RX9 306 "ChangerFairModel" "payments" "I", Cond.fieldLink RX9 112 "ChangerFairModel" "sums" "[J", Cond.fieldLink RX9 115 "ChangerFairModel" "most" "[I", Cond.fieldLink RX9 118 "ChangerFairModel" "group" "[I", Cond.methodLink RX9 296 yX9_netOf, Cond.instanceMethod yX9_netOf, Cond.selects RX9 yX9_netOf yX9_netOf, Cond.initialized RX9, Cond.code yX9_netOf cX9_netOf 5 (some .long), Cond.fieldLink RX9 52 "ChangerFairModel" "debts" "[J", Cond.methodLink RX9 300 yX9_findMost, Cond.instanceMethod yX9_findMost, Cond.selects RX9 yX9_findMost yX9_findMost, Cond.code yX9_findMost cX9_findMost 4 none, Cond.methodLink RX9 309 yX9_payOut, Cond.instanceMethod yX9_payOut, Cond.selects RX9 yX9_payOut yX9_payOut, Cond.code yX9_payOut cX9_payOut 6 none, Cond.methodLink RX9 317 Lib.MathLoose.min_long.x, Cond.static Lib.MathLoose.min_long.x, Cond.initialized "java/lang/Math", Cond.code Lib.MathLoose.min_long.x Lib.MathLoose.min_long.code 4 (some .long)]
def wsX9_findPlan_r2 : List Cond := [Cond.fieldLink RX9 121 "ChangerFairModel" "payer" "[I", Cond.fieldLink RX9 124 "ChangerFairModel" "payee" "[I", Cond.fieldLink RX9 127 "ChangerFairModel" "paid" "[J", Cond.methodLink RX9 313 yX9_leastOf, Cond.instanceMethod yX9_leastOf, Cond.selects RX9 yX9_leastOf yX9_leastOf, Cond.code yX9_leastOf cX9_leastOf 4 (some .int)]
def wsX9_findPlan : List Cond := .code yX9_findPlan cX9_findPlan 3 none :: ((wsX9_findPlan_r1 ++ wsX9_findPlan_r2) ++ wsX90)
def wsX9_plan_r1 : List Cond := [Cond.fieldLink RX9 303 "ChangerFairModel" "groups" "I", Cond.fieldLink RX9 306 "ChangerFairModel" "payments" "I", Cond.methodLink RX9 323 yX9_findPlan, Cond.instanceMethod yX9_findPlan, Cond.selects RX9 yX9_findPlan yX9_findPlan, Cond.initialized RX9, Cond.code yX9_findPlan cX9_findPlan 3 none, Cond.fieldLink RX9 130 "ChangerFairModel" "nets" "[J", Cond.fieldLink RX9 112 "ChangerFairModel" "sums" "[J", Cond.fieldLink RX9 115 "ChangerFairModel" "most" "[I", Cond.fieldLink RX9 118 "ChangerFairModel" "group" "[I", Cond.methodLink RX9 296 yX9_netOf, Cond.instanceMethod yX9_netOf, Cond.selects RX9 yX9_netOf yX9_netOf, Cond.code yX9_netOf cX9_netOf 5 (some .long), Cond.fieldLink RX9 52 "ChangerFairModel" "debts" "[J", Cond.methodLink RX9 300 yX9_findMost, Cond.instanceMethod yX9_findMost, Cond.selects RX9 yX9_findMost yX9_findMost, Cond.code yX9_findMost cX9_findMost 4 none, Cond.methodLink RX9 309 yX9_payOut, Cond.instanceMethod yX9_payOut, Cond.selects RX9 yX9_payOut yX9_payOut, Cond.code yX9_payOut cX9_payOut 6 none]
def wsX9_plan_r2 : List Cond := [Cond.methodLink RX9 317 Lib.MathLoose.min_long.x, Cond.static Lib.MathLoose.min_long.x, Cond.initialized "java/lang/Math", Cond.code Lib.MathLoose.min_long.x Lib.MathLoose.min_long.code 4 (some .long), Cond.fieldLink RX9 121 "ChangerFairModel" "payer" "[I", Cond.fieldLink RX9 124 "ChangerFairModel" "payee" "[I", Cond.fieldLink RX9 127 "ChangerFairModel" "paid" "[J", Cond.methodLink RX9 313 yX9_leastOf, Cond.instanceMethod yX9_leastOf, Cond.selects RX9 yX9_leastOf yX9_leastOf, Cond.code yX9_leastOf cX9_leastOf 4 (some .int)]
def wsX9_plan : List Cond := .code yX9_plan cX9_plan 2 (some .long) :: ((wsX9_plan_r1 ++ wsX9_plan_r2) ++ wsX90)
def wsX9_paymentOf : List Cond := .code yX9_paymentOf cX9_paymentOf 3 (some .long) :: ([.fieldLink RX9 121 "ChangerFairModel" "payer" "[I", .fieldLink RX9 124 "ChangerFairModel" "payee" "[I", .fieldLink RX9 127 "ChangerFairModel" "paid" "[J"] ++ wsX90)
def wsX9_payment_r1 : List Cond := [Cond.constantLong RX9 152 (-1000000000001), Cond.fieldLink RX9 306 "ChangerFairModel" "payments" "I", Cond.constantLong RX9 211 (-1000000000002), Cond.methodLink RX9 141 yX9_in, Cond.static yX9_in, Cond.initialized RX9, Cond.code yX9_in cX9_in 3 (some .boolean), Cond.methodLink RX9 154 yX9_finding, Cond.instanceMethod yX9_finding, Cond.selects RX9 yX9_finding yX9_finding, Cond.code yX9_finding cX9_finding 3 (some .long), Cond.fieldLink RX9 70 "ChangerFairModel" "findings" "[J", Cond.constantLong RX9 139 (-1000000000000), Cond.methodLink RX9 323 yX9_findPlan, Cond.instanceMethod yX9_findPlan, Cond.selects RX9 yX9_findPlan yX9_findPlan, Cond.code yX9_findPlan cX9_findPlan 3 none, Cond.fieldLink RX9 130 "ChangerFairModel" "nets" "[J", Cond.fieldLink RX9 303 "ChangerFairModel" "groups" "I", Cond.fieldLink RX9 112 "ChangerFairModel" "sums" "[J", Cond.fieldLink RX9 115 "ChangerFairModel" "most" "[I", Cond.fieldLink RX9 118 "ChangerFairModel" "group" "[I", Cond.methodLink RX9 296 yX9_netOf, Cond.instanceMethod yX9_netOf]
def wsX9_payment_r2 : List Cond := [Cond.selects RX9 yX9_netOf yX9_netOf, Cond.code yX9_netOf cX9_netOf 5 (some .long), Cond.fieldLink RX9 52 "ChangerFairModel" "debts" "[J", Cond.methodLink RX9 300 yX9_findMost, Cond.instanceMethod yX9_findMost, Cond.selects RX9 yX9_findMost yX9_findMost, Cond.code yX9_findMost cX9_findMost 4 none, Cond.methodLink RX9 309 yX9_payOut, Cond.instanceMethod yX9_payOut, Cond.selects RX9 yX9_payOut yX9_payOut, Cond.code yX9_payOut cX9_payOut 6 none, Cond.methodLink RX9 317 Lib.MathLoose.min_long.x, Cond.static Lib.MathLoose.min_long.x, Cond.initialized "java/lang/Math", Cond.code Lib.MathLoose.min_long.x Lib.MathLoose.min_long.code 4 (some .long), Cond.fieldLink RX9 121 "ChangerFairModel" "payer" "[I", Cond.fieldLink RX9 124 "ChangerFairModel" "payee" "[I", Cond.fieldLink RX9 127 "ChangerFairModel" "paid" "[J", Cond.methodLink RX9 313 yX9_leastOf, Cond.instanceMethod yX9_leastOf, Cond.selects RX9 yX9_leastOf yX9_leastOf, Cond.code yX9_leastOf cX9_leastOf 4 (some .int), Cond.methodLink RX9 326 yX9_paymentOf, Cond.instanceMethod yX9_paymentOf]
def wsX9_payment_r3 : List Cond := [Cond.selects RX9 yX9_paymentOf yX9_paymentOf, Cond.code yX9_paymentOf cX9_paymentOf 3 (some .long)]
def wsX9_payment : List Cond := .code yX9_payment cX9_payment 3 (some .long) :: ((wsX9_payment_r1 ++ (wsX9_payment_r2 ++ wsX9_payment_r3)) ++ wsX90)
def wsX9_owedInAll : List Cond := .code yX9_owedInAll cX9_owedInAll 4 (some .long) :: ([.fieldLink RX9 52 "ChangerFairModel" "debts" "[J"] ++ wsX90)
def wsX9_clear_r1 : List Cond := [Cond.fieldLink RX9 52 "ChangerFairModel" "debts" "[J", Cond.fieldLink RX9 306 "ChangerFairModel" "payments" "I", Cond.fieldLink RX9 121 "ChangerFairModel" "payer" "[I", Cond.fieldLink RX9 124 "ChangerFairModel" "payee" "[I", Cond.fieldLink RX9 127 "ChangerFairModel" "paid" "[J", Cond.methodLink RX9 323 yX9_findPlan, Cond.instanceMethod yX9_findPlan, Cond.selects RX9 yX9_findPlan yX9_findPlan, Cond.initialized RX9, Cond.code yX9_findPlan cX9_findPlan 3 none, Cond.fieldLink RX9 130 "ChangerFairModel" "nets" "[J", Cond.fieldLink RX9 303 "ChangerFairModel" "groups" "I", Cond.fieldLink RX9 112 "ChangerFairModel" "sums" "[J", Cond.fieldLink RX9 115 "ChangerFairModel" "most" "[I", Cond.fieldLink RX9 118 "ChangerFairModel" "group" "[I", Cond.methodLink RX9 296 yX9_netOf, Cond.instanceMethod yX9_netOf, Cond.selects RX9 yX9_netOf yX9_netOf, Cond.code yX9_netOf cX9_netOf 5 (some .long), Cond.methodLink RX9 300 yX9_findMost, Cond.instanceMethod yX9_findMost, Cond.selects RX9 yX9_findMost yX9_findMost, Cond.code yX9_findMost cX9_findMost 4 none, Cond.methodLink RX9 309 yX9_payOut]
def wsX9_clear_r2 : List Cond := [Cond.instanceMethod yX9_payOut, Cond.selects RX9 yX9_payOut yX9_payOut, Cond.code yX9_payOut cX9_payOut 6 none, Cond.methodLink RX9 317 Lib.MathLoose.min_long.x, Cond.static Lib.MathLoose.min_long.x, Cond.initialized "java/lang/Math", Cond.code Lib.MathLoose.min_long.x Lib.MathLoose.min_long.code 4 (some .long), Cond.methodLink RX9 313 yX9_leastOf, Cond.instanceMethod yX9_leastOf, Cond.selects RX9 yX9_leastOf yX9_leastOf, Cond.code yX9_leastOf cX9_leastOf 4 (some .int), Cond.methodLink RX9 330 yX9_owedInAll, Cond.instanceMethod yX9_owedInAll, Cond.selects RX9 yX9_owedInAll yX9_owedInAll, Cond.code yX9_owedInAll cX9_owedInAll 4 (some .long)]
def wsX9_clear : List Cond := .code yX9_clear cX9_clear 2 (some .long) :: ((wsX9_clear_r1 ++ wsX9_clear_r2) ++ wsX90)
def wsX9_coin : List Cond := .code yX9_coin cX9_coin 4 (some .long) :: ([.constantLong RX9 152 (-1000000000001), .fieldLink RX9 55 "ChangerFairModel" "worth" "[I", .methodLink RX9 141 yX9_in, .static yX9_in, .initialized RX9, .code yX9_in cX9_in 3 (some .boolean), .methodLink RX9 154 yX9_finding, .instanceMethod yX9_finding, .selects RX9 yX9_finding yX9_finding, .code yX9_finding cX9_finding 3 (some .long), .fieldLink RX9 70 "ChangerFairModel" "findings" "[J", .constantLong RX9 139 (-1000000000000)] ++ wsX90)
def wsX9_purse : List Cond := .code yX9_purse cX9_purse 5 (some .long) :: ([.constantLong RX9 152 (-1000000000001), .fieldLink RX9 58 "ChangerFairModel" "purses" "[I", .methodLink RX9 171 yX9_isHouse, .static yX9_isHouse, .initialized RX9, .code yX9_isHouse cX9_isHouse 1 (some .boolean), .methodLink RX9 141 yX9_in, .static yX9_in, .code yX9_in cX9_in 3 (some .boolean), .methodLink RX9 154 yX9_finding, .instanceMethod yX9_finding, .selects RX9 yX9_finding yX9_finding, .code yX9_finding cX9_finding 3 (some .long), .fieldLink RX9 70 "ChangerFairModel" "findings" "[J", .constantLong RX9 139 (-1000000000000)] ++ wsX90)
def wsX9_has : List Cond := .code yX9_has cX9_has 6 (some .long) :: ([.constantLong RX9 152 (-1000000000001), .fieldLink RX9 58 "ChangerFairModel" "purses" "[I", .fieldLink RX9 55 "ChangerFairModel" "worth" "[I", .methodLink RX9 171 yX9_isHouse, .static yX9_isHouse, .initialized RX9, .code yX9_isHouse cX9_isHouse 1 (some .boolean), .methodLink RX9 141 yX9_in, .static yX9_in, .code yX9_in cX9_in 3 (some .boolean), .methodLink RX9 154 yX9_finding, .instanceMethod yX9_finding, .selects RX9 yX9_finding yX9_finding, .code yX9_finding cX9_finding 3 (some .long), .fieldLink RX9 70 "ChangerFairModel" "findings" "[J", .constantLong RX9 139 (-1000000000000)] ++ wsX90)
def wsX9_settle : List Cond := .code yX9_settle cX9_settle 8 (some .long) :: ([.constantLong RX9 152 (-1000000000001), .fieldLink RX9 52 "ChangerFairModel" "debts" "[J", .constantLong RX9 211 (-1000000000002), .fieldLink RX9 55 "ChangerFairModel" "worth" "[I", .fieldLink RX9 58 "ChangerFairModel" "purses" "[I", .methodLink RX9 334 Lib.Math.min.name, .static Lib.Math.min.name, .initialized "java/lang/Math", .code Lib.Math.min.name Lib.Math.min.code 2 (some .int), .methodLink RX9 171 yX9_isHouse, .static yX9_isHouse, .initialized RX9, .code yX9_isHouse cX9_isHouse 1 (some .boolean), .methodLink RX9 141 yX9_in, .static yX9_in, .code yX9_in cX9_in 3 (some .boolean), .methodLink RX9 154 yX9_finding, .instanceMethod yX9_finding, .selects RX9 yX9_finding yX9_finding, .code yX9_finding cX9_finding 3 (some .long), .fieldLink RX9 70 "ChangerFairModel" "findings" "[J", .constantLong RX9 139 (-1000000000000)] ++ wsX90)
def wsX9_vote : List Cond := .code yX9_vote cX9_vote 5 (some .long) :: ([.constantLong RX9 152 (-1000000000001), .fieldLink RX9 61 "ChangerFairModel" "votes" "[I", .methodLink RX9 171 yX9_isHouse, .static yX9_isHouse, .initialized RX9, .code yX9_isHouse cX9_isHouse 1 (some .boolean), .methodLink RX9 141 yX9_in, .static yX9_in, .code yX9_in cX9_in 3 (some .boolean), .methodLink RX9 175 yX9_isTown, .static yX9_isTown, .code yX9_isTown cX9_isTown 1 (some .boolean), .methodLink RX9 154 yX9_finding, .instanceMethod yX9_finding, .selects RX9 yX9_finding yX9_finding, .code yX9_finding cX9_finding 3 (some .long), .fieldLink RX9 70 "ChangerFairModel" "findings" "[J", .constantLong RX9 139 (-1000000000000)] ++ wsX90)
def wsX9_rate : List Cond := .code yX9_rate cX9_rate 8 (some .long) :: ([.constantLong RX9 152 (-1000000000001), .fieldLink RX9 61 "ChangerFairModel" "votes" "[I", .constantLong RX9 211 (-1000000000002), .methodLink RX9 175 yX9_isTown, .static yX9_isTown, .initialized RX9, .code yX9_isTown cX9_isTown 1 (some .boolean), .methodLink RX9 141 yX9_in, .static yX9_in, .code yX9_in cX9_in 3 (some .boolean), .methodLink RX9 154 yX9_finding, .instanceMethod yX9_finding, .selects RX9 yX9_finding yX9_finding, .code yX9_finding cX9_finding 3 (some .long), .fieldLink RX9 70 "ChangerFairModel" "findings" "[J", .constantLong RX9 139 (-1000000000000)] ++ wsX90)
def wsX9_offer : List Cond := .code yX9_offer cX9_offer 5 (some .long) :: ([.constantLong RX9 152 (-1000000000001), .fieldLink RX9 64 "ChangerFairModel" "offers" "[I", .methodLink RX9 175 yX9_isTown, .static yX9_isTown, .initialized RX9, .code yX9_isTown cX9_isTown 1 (some .boolean), .methodLink RX9 141 yX9_in, .static yX9_in, .code yX9_in cX9_in 3 (some .boolean), .methodLink RX9 154 yX9_finding, .instanceMethod yX9_finding, .selects RX9 yX9_finding yX9_finding, .code yX9_finding cX9_finding 3 (some .long), .fieldLink RX9 70 "ChangerFairModel" "findings" "[J", .constantLong RX9 139 (-1000000000000)] ++ wsX90)
def wsX9_look : List Cond := .code yX9_look cX9_look 12 none :: ([.fieldLink RX9 64 "ChangerFairModel" "offers" "[I", .constantLong RX9 336 (100), .constantLong RX9 338 (10), .constantLong RX9 340 (10000), .fieldLink RX9 342 "ChangerFairModel" "bestProduct" "J", .fieldLink RX9 345 "ChangerFairModel" "bestTurn" "J"] ++ wsX90)
def wsX9_turn : List Cond := .code yX9_turn cX9_turn 8 (some .long) :: ([.constantLong RX9 348 (10000000000000000), .fieldLink RX9 342 "ChangerFairModel" "bestProduct" "J", .constantLong RX9 211 (-1000000000002), .fieldLink RX9 345 "ChangerFairModel" "bestTurn" "J", .methodLink RX9 350 yX9_look, .instanceMethod yX9_look, .selects RX9 yX9_look yX9_look, .initialized RX9, .code yX9_look cX9_look 12 none, .fieldLink RX9 64 "ChangerFairModel" "offers" "[I", .constantLong RX9 336 (100), .constantLong RX9 338 (10), .constantLong RX9 340 (10000), .methodLink RX9 154 yX9_finding, .instanceMethod yX9_finding, .selects RX9 yX9_finding yX9_finding, .code yX9_finding cX9_finding 3 (some .long), .fieldLink RX9 70 "ChangerFairModel" "findings" "[J", .constantLong RX9 139 (-1000000000000)] ++ wsX90)
def wsX9_pledged : List Cond := .code yX9_pledged cX9_pledged 7 (some .long) :: ([.fieldLink RX9 145 "ChangerFairModel" "bills" "I", .fieldLink RX9 20 "ChangerFairModel" "kindOf" "[I", .fieldLink RX9 35 "ChangerFairModel" "stateOf" "[I", .fieldLink RX9 48 "ChangerFairModel" "byPay" "[Z", .fieldLink RX9 26 "ChangerFairModel" "draweeOf" "[I", .fieldLink RX9 29 "ChangerFairModel" "holderOf" "[I", .fieldLink RX9 32 "ChangerFairModel" "amountOf" "[I", .fieldLink RX9 52 "ChangerFairModel" "debts" "[J", .methodLink RX9 317 Lib.MathLoose.min_long.x, .static Lib.MathLoose.min_long.x, .initialized "java/lang/Math", .code Lib.MathLoose.min_long.x Lib.MathLoose.min_long.code 4 (some .long)] ++ wsX90)
def wsX9_share : List Cond := .code yX9_share cX9_share 10 (some .long) :: ([.fieldLink RX9 133 "ChangerFairModel" "claims" "[J", .fieldLink RX9 136 "ChangerFairModel" "gets" "[J"] ++ wsX90)
def wsX9_part_r1 : List Cond := [Cond.constant RX9 354 (1000000000), Cond.constantLong RX9 152 (-1000000000001), Cond.fieldLink RX9 136 "ChangerFairModel" "gets" "[J", Cond.fieldLink RX9 133 "ChangerFairModel" "claims" "[J", Cond.fieldLink RX9 52 "ChangerFairModel" "debts" "[J", Cond.methodLink RX9 171 yX9_isHouse, Cond.static yX9_isHouse, Cond.initialized RX9, Cond.code yX9_isHouse cX9_isHouse 1 (some .boolean), Cond.methodLink RX9 141 yX9_in, Cond.static yX9_in, Cond.code yX9_in cX9_in 3 (some .boolean), Cond.methodLink RX9 154 yX9_finding, Cond.instanceMethod yX9_finding, Cond.selects RX9 yX9_finding yX9_finding, Cond.code yX9_finding cX9_finding 3 (some .long), Cond.fieldLink RX9 70 "ChangerFairModel" "findings" "[J", Cond.constantLong RX9 139 (-1000000000000), Cond.methodLink RX9 355 yX9_pledged, Cond.instanceMethod yX9_pledged, Cond.selects RX9 yX9_pledged yX9_pledged, Cond.code yX9_pledged cX9_pledged 7 (some .long), Cond.fieldLink RX9 145 "ChangerFairModel" "bills" "I", Cond.fieldLink RX9 20 "ChangerFairModel" "kindOf" "[I"]
def wsX9_part_r2 : List Cond := [Cond.fieldLink RX9 35 "ChangerFairModel" "stateOf" "[I", Cond.fieldLink RX9 48 "ChangerFairModel" "byPay" "[Z", Cond.fieldLink RX9 26 "ChangerFairModel" "draweeOf" "[I", Cond.fieldLink RX9 29 "ChangerFairModel" "holderOf" "[I", Cond.fieldLink RX9 32 "ChangerFairModel" "amountOf" "[I", Cond.methodLink RX9 317 Lib.MathLoose.min_long.x, Cond.static Lib.MathLoose.min_long.x, Cond.initialized "java/lang/Math", Cond.code Lib.MathLoose.min_long.x Lib.MathLoose.min_long.code 4 (some .long), Cond.methodLink RX9 358 yX9_share, Cond.instanceMethod yX9_share, Cond.selects RX9 yX9_share yX9_share, Cond.code yX9_share cX9_share 10 (some .long)]
def wsX9_part : List Cond := .code yX9_part cX9_part 7 (some .long) :: ((wsX9_part_r1 ++ wsX9_part_r2) ++ wsX90)
def wsX9_tell : List Cond := .code yX9_tell cX9_tell 2 (some .long) :: ([.fieldLink RX9 361 "ChangerFairModel" "tells" "I", .constantLong RX9 169 (-1000000000004), .fieldLink RX9 67 "ChangerFairModel" "told" "[I", .methodLink RX9 154 yX9_finding, .instanceMethod yX9_finding, .selects RX9 yX9_finding yX9_finding, .initialized RX9, .code yX9_finding cX9_finding 3 (some .long), .fieldLink RX9 70 "ChangerFairModel" "findings" "[J", .constantLong RX9 139 (-1000000000000)] ++ wsX90)
def wsX9_check_r1 : List Cond := [Cond.fieldLink RX9 361 "ChangerFairModel" "tells" "I", Cond.fieldLink RX9 306 "ChangerFairModel" "payments" "I", Cond.fieldLink RX9 67 "ChangerFairModel" "told" "[I", Cond.constantLong RX9 364 (99), Cond.methodLink RX9 323 yX9_findPlan, Cond.instanceMethod yX9_findPlan, Cond.selects RX9 yX9_findPlan yX9_findPlan, Cond.initialized RX9, Cond.code yX9_findPlan cX9_findPlan 3 none, Cond.fieldLink RX9 130 "ChangerFairModel" "nets" "[J", Cond.fieldLink RX9 303 "ChangerFairModel" "groups" "I", Cond.fieldLink RX9 112 "ChangerFairModel" "sums" "[J", Cond.fieldLink RX9 115 "ChangerFairModel" "most" "[I", Cond.fieldLink RX9 118 "ChangerFairModel" "group" "[I", Cond.methodLink RX9 296 yX9_netOf, Cond.instanceMethod yX9_netOf, Cond.selects RX9 yX9_netOf yX9_netOf, Cond.code yX9_netOf cX9_netOf 5 (some .long), Cond.fieldLink RX9 52 "ChangerFairModel" "debts" "[J", Cond.methodLink RX9 300 yX9_findMost, Cond.instanceMethod yX9_findMost, Cond.selects RX9 yX9_findMost yX9_findMost, Cond.code yX9_findMost cX9_findMost 4 none, Cond.methodLink RX9 309 yX9_payOut]
def wsX9_check_r2 : List Cond := [Cond.instanceMethod yX9_payOut, Cond.selects RX9 yX9_payOut yX9_payOut, Cond.code yX9_payOut cX9_payOut 6 none, Cond.methodLink RX9 317 Lib.MathLoose.min_long.x, Cond.static Lib.MathLoose.min_long.x, Cond.initialized "java/lang/Math", Cond.code Lib.MathLoose.min_long.x Lib.MathLoose.min_long.code 4 (some .long), Cond.fieldLink RX9 121 "ChangerFairModel" "payer" "[I", Cond.fieldLink RX9 124 "ChangerFairModel" "payee" "[I", Cond.fieldLink RX9 127 "ChangerFairModel" "paid" "[J", Cond.methodLink RX9 313 yX9_leastOf, Cond.instanceMethod yX9_leastOf, Cond.selects RX9 yX9_leastOf yX9_leastOf, Cond.code yX9_leastOf cX9_leastOf 4 (some .int), Cond.methodLink RX9 326 yX9_paymentOf, Cond.instanceMethod yX9_paymentOf, Cond.selects RX9 yX9_paymentOf yX9_paymentOf, Cond.code yX9_paymentOf cX9_paymentOf 3 (some .long)]
def wsX9_check : List Cond := .code yX9_check cX9_check 4 (some .long) :: ((wsX9_check_r1 ++ wsX9_check_r2) ++ wsX90)
def wsX9_count : List Cond := .code yX9_count cX9_count 2 (some .long) :: ([.fieldLink RX9 158 "ChangerFairModel" "day" "J", .fieldLink RX9 145 "ChangerFairModel" "bills" "I", .fieldLink RX9 292 "ChangerFairModel" "clauses" "I", .fieldLink RX9 361 "ChangerFairModel" "tells" "I", .fieldLink RX9 217 "ChangerFairModel" "taped" "I", .constantLong RX9 152 (-1000000000001), .methodLink RX9 330 yX9_owedInAll, .instanceMethod yX9_owedInAll, .selects RX9 yX9_owedInAll yX9_owedInAll, .initialized RX9, .code yX9_owedInAll cX9_owedInAll 4 (some .long), .fieldLink RX9 52 "ChangerFairModel" "debts" "[J", .methodLink RX9 154 yX9_finding, .instanceMethod yX9_finding, .selects RX9 yX9_finding yX9_finding, .code yX9_finding cX9_finding 3 (some .long), .fieldLink RX9 70 "ChangerFairModel" "findings" "[J", .constantLong RX9 139 (-1000000000000)] ++ wsX90)
def wsX9_found : List Cond := .code yX9_found cX9_found 2 (some .long) :: ([.fieldLink RX9 70 "ChangerFairModel" "findings" "[J", .constantLong RX9 152 (-1000000000001), .methodLink RX9 141 yX9_in, .static yX9_in, .initialized RX9, .code yX9_in cX9_in 3 (some .boolean), .methodLink RX9 154 yX9_finding, .instanceMethod yX9_finding, .selects RX9 yX9_finding yX9_finding, .code yX9_finding cX9_finding 3 (some .long), .constantLong RX9 139 (-1000000000000)] ++ wsX90)
def wsJ9_max_7cf53 : List Cond := .code yJ9_max_7cf53 cJ9_max_7cf53 2 (some .int) :: ([])
def wsJ9_max_f86c9 : List Cond := .code yJ9_max_f86c9 cJ9_max_f86c9 4 (some .long) :: ([])
def wsJ9_min_7cf53 : List Cond := .code yJ9_min_7cf53 cJ9_min_7cf53 2 (some .int) :: ([])
def wsJ9_min_f86c9 : List Cond := .code yJ9_min_f86c9 cJ9_min_f86c9 4 (some .long) :: ([])
end
section
section GLAYER
abbrev gT : Type := Program × Launch × Env × State × MethodId × Array Value × List Frame × Method × Code × (State → Prop) × (Nat → Prop) × Heap
/-- the return instruction at pc is the one of that answer -/
def gRv (cc : ByteArray) (pc : Nat) (v : Option Value) : Prop := match v with
  | none => decode cc pc = .ok (.return_, 1)
  | some (.int _) => decode cc pc = .ok (.ireturn, 1)
  | some (.long _) => decode cc pc = .ok (.lreturn, 1)
  | some (.ref _) => decode cc pc = .ok (.areturn, 1)
  | some .null => decode cc pc = .ok (.areturn, 1)
  | _ => False
def gW (Γ : gT) (R : Room) (H : Heap) (locs : List Loc) (k n pc : Nat) (ls : Array Slot) (st : List Value) : Prop := match Γ with
  | (p, l, e, s, m, args, below, meth, c, Q, _, _) => W p l e R s m args below meth c H locs k n Q (F0 m pc ls st)
def gS (Γ : gT) (D : va_G) (cl : List vw_C) (ws : va_W) (H : Heap) (locs : List Loc) : Prop := match Γ with
  | (_, _, _, _, _, _, _, _, _, _, A, H0) => va_P D cl ws H ∧ va_D A ws ∧ va_S A H0 H locs
def gOk (Γ : gT) (R : Room) (cc : ByteArray) (own : String) (Ts : List Cond) (nL : Nat) (D : va_G) (cl : List vw_C) (tys : List (ClassId × FieldType)) (mc ms : Nat) (post : Option Value → va_W → Prop) : Prop := match Γ with
  | (p, l, e, s, m, args, below, meth, c, Q, A, H0) => p.tables.exec = Jvm.exec ∧ c.code = cc ∧ c.maxLocals = nL ∧ s.vm.findClass own = some m.cls ∧ (∀ w ∈ Ts, w.before args s = true) ∧ va_K D cl tys s ∧ (∀ q : Nat, H0.size ≤ q → A q) ∧ (meth.name = "<init>" ∨ True) ∧
    (∀ (v : Option Value) (ws : va_W) (H : Heap) (locs : List Loc) (ls : Array Slot) (pc : Nat), post v ws → va_P D cl ws H → va_D A ws → va_S A H0 H locs → gRv cc pc v → W p l e R s m args below meth c H locs mc ms Q (F0 m pc ls v.toList))
/-- from any heap that holds the cells ws, any locals that hold lv, with the stack st at pc, the method comes to its end with post -/
def G (Γ : gT) (R : Room) (cc : ByteArray) (own : String) (Ts : List Cond) (nL : Nat) (D : va_G) (cl : List vw_C) (tys : List (ClassId × FieldType)) (mc ms : Nat) (post : Option Value → va_W → Prop) (k n : Nat) (ws : va_W) (pc : Nat) (lv : List (Nat × Value)) (st : List Value) : Prop :=
  gOk Γ R cc own Ts nL D cl tys mc ms post → ∀ (H : Heap) (locs : List Loc) (ls : Array Slot), gS Γ D cl ws H locs → lv_has ls nL lv → gW Γ R H locs k n pc ls st
theorem g_lk {ls : Array Slot} {nL : Nat} {lv : List (Nat × Value)} (h : lv_has ls nL lv) {i : Nat} {v : Value} (hi : lv.lookup i = some v) : ls[i]? = some (.val v) := by
  refine h.2.2 (i, v) ?_
  have : ∀ l : List (Nat × Value), l.lookup i = some v → (i, v) ∈ l := by
    intro l
    induction l with
    | nil => intro h; cases h
    | cons q t ih =>
      intro h
      obtain ⟨a, b⟩ := q
      by_cases e : i = a
      · subst e
        simp only [List.lookup, beq_self_eq_true] at h
        cases h
        exact List.mem_cons_self
      · have e2 : (i == a) = false := by simpa using e
        simp only [List.lookup, e2] at h
        exact List.mem_cons_of_mem _ (ih h)
  exact this lv hi
/-- the listed locals of lv' are locals of lv -/
def gSub (lv : List (Nat × Value)) : List (Nat × Value) → Prop
  | [] => True
  | q :: t => lv.lookup q.1 = some q.2 ∧ gSub lv t
theorem gSub_mem {lv lv' : List (Nat × Value)} (h : gSub lv lv') : ∀ q ∈ lv', lv.lookup q.1 = some q.2 := by
  induction lv' with
  | nil => intro q hq; cases hq
  | cons a t ih =>
    intro q hq
    rcases List.mem_cons.mp hq with rfl | hq
    · exact h.1
    · exact ih h.2 q hq
theorem g_has {ls : Array Slot} {nL : Nat} {lv lv' : List (Nat × Value)} (h : lv_has ls nL lv) (hs : gSub lv lv') : lv_has ls nL lv' :=
  ⟨h.1, h.2.1, fun q hq => g_lk h (gSub_mem hs q hq)⟩
/-- a local is set: what it lay over is forgotten -/
def gset1 (lv : List (Nat × Value)) (i : Nat) (v : Value) : List (Nat × Value) := (i, v) :: lv.filter (fun q => !(q.1 == i) && !(q.1 + 1 == i && q.2.category == 2))
def gset2 (lv : List (Nat × Value)) (i : Nat) (v : Value) : List (Nat × Value) := (i, v) :: lv.filter (fun q => !(q.1 == i) && (!(q.1 == i + 1) && !(q.1 + 1 == i && q.2.category == 2)))

variable {Γ : gT} {R : Room} {cc : ByteArray} {own : String} {Ts : List Cond} {nL : Nat} {D : va_G} {cl : List vw_C} {tys : List (ClassId × FieldType)} {mc ms : Nat} {post : Option Value → va_W → Prop} {k n : Nat} {ws : va_W} {pc : Nat} {lv : List (Nat × Value)} {st : List Value}
theorem g_iconst {i : Int} (v : Int32) (hv : Int32.ofInt i = v) (hd : decode cc pc = .ok (.iconst i, 1)) (kk : G Γ R cc own Ts nL D cl tys mc ms post k n ws (pc + 1) lv (.int v :: st)) : G Γ R cc own Ts nL D cl tys mc ms post k n ws pc lv st := by
  intro hok H locs ls hS hl
  have h9 := kk hok H locs ls hS hl
  obtain ⟨p, l, e, s, m, args, below, meth, c, Q, A, H0⟩ := Γ
  obtain ⟨hx, hb, hml, hown, hts, hK, hA, hin, hret⟩ := hok
  exact lv_iconst hx hb hd hv h9
theorem g_bipush {i : Int} (v : Int32) (hv : (Int8.ofInt i).toInt32 = v) (hd : decode cc pc = .ok (.bipush i, 2)) (kk : G Γ R cc own Ts nL D cl tys mc ms post k n ws (pc + 2) lv (.int v :: st)) : G Γ R cc own Ts nL D cl tys mc ms post k n ws pc lv st := by
  intro hok H locs ls hS hl
  have h9 := kk hok H locs ls hS hl
  obtain ⟨p, l, e, s, m, args, below, meth, c, Q, A, H0⟩ := Γ
  obtain ⟨hx, hb, hml, hown, hts, hK, hA, hin, hret⟩ := hok
  exact lv_bipush hx hb hd hv h9
theorem g_sipush {i : Int} (v : Int32) (hv : (Int16.ofInt i).toInt32 = v) (hd : decode cc pc = .ok (.sipush i, 3)) (kk : G Γ R cc own Ts nL D cl tys mc ms post k n ws (pc + 3) lv (.int v :: st)) : G Γ R cc own Ts nL D cl tys mc ms post k n ws pc lv st := by
  intro hok H locs ls hS hl
  have h9 := kk hok H locs ls hS hl
  obtain ⟨p, l, e, s, m, args, below, meth, c, Q, A, H0⟩ := Γ
  obtain ⟨hx, hb, hml, hown, hts, hK, hA, hin, hret⟩ := hok
  exact lv_sipush hx hb hd hv h9
theorem g_lconst {i : Fin 2} (v : Int64) (hv : Int64.ofNat (i : Nat) = v) (hd : decode cc pc = .ok (.lconst i, 1)) (kk : G Γ R cc own Ts nL D cl tys mc ms post k n ws (pc + 1) lv (.long v :: st)) : G Γ R cc own Ts nL D cl tys mc ms post k n ws pc lv st := by
  intro hok H locs ls hS hl
  have h9 := kk hok H locs ls hS hl
  obtain ⟨p, l, e, s, m, args, below, meth, c, Q, A, H0⟩ := Γ
  obtain ⟨hx, hb, hml, hown, hts, hK, hA, hin, hret⟩ := hok
  exact lv_lconst hx hb hd hv h9
theorem g_ldc {ix : Nat} (v : Int32) (hw : Cond.constant own ix v ∈ Ts) (hd : decode cc pc = .ok (.ldc ix, 2)) (kk : G Γ R cc own Ts nL D cl tys mc ms post k n ws (pc + 2) lv (.int v :: st)) : G Γ R cc own Ts nL D cl tys mc ms post k n ws pc lv st := by
  intro hok H locs ls hS hl
  have h9 := kk hok H locs ls hS hl
  obtain ⟨p, l, e, s, m, args, below, meth, c, Q, A, H0⟩ := Γ
  obtain ⟨hx, hb, hml, hown, hts, hK, hA, hin, hret⟩ := hok
  exact lv_ldc hx hb hown (hts _ hw) hd h9
theorem g_ldcw {ix : Nat} (v : Int32) (hw : Cond.constant own ix v ∈ Ts) (hd : decode cc pc = .ok (.ldc_w ix, 3)) (kk : G Γ R cc own Ts nL D cl tys mc ms post k n ws (pc + 3) lv (.int v :: st)) : G Γ R cc own Ts nL D cl tys mc ms post k n ws pc lv st := by
  intro hok H locs ls hS hl
  have h9 := kk hok H locs ls hS hl
  obtain ⟨p, l, e, s, m, args, below, meth, c, Q, A, H0⟩ := Γ
  obtain ⟨hx, hb, hml, hown, hts, hK, hA, hin, hret⟩ := hok
  exact lv_ldcw hx hb hown (hts _ hw) hd h9
theorem g_ldc2 {ix : Nat} (v : Int64) (hw : Cond.constantLong own ix v ∈ Ts) (hd : decode cc pc = .ok (.ldc2_w ix, 3)) (kk : G Γ R cc own Ts nL D cl tys mc ms post k n ws (pc + 3) lv (.long v :: st)) : G Γ R cc own Ts nL D cl tys mc ms post k n ws pc lv st := by
  intro hok H locs ls hS hl
  have h9 := kk hok H locs ls hS hl
  obtain ⟨p, l, e, s, m, args, below, meth, c, Q, A, H0⟩ := Γ
  obtain ⟨hx, hb, hml, hown, hts, hK, hA, hin, hret⟩ := hok
  exact lv_ldc2 hx hb hown (hts _ hw) hd h9
theorem g_iload_n {j : Fin 4} {i : Nat} {x : Int32} (hd : decode cc pc = .ok (.iload_n j, 1)) (hi : (j : Nat) = i) (hq : lv.lookup i = some (.int x)) (kk : G Γ R cc own Ts nL D cl tys mc ms post k n ws (pc + 1) lv (.int x :: st)) : G Γ R cc own Ts nL D cl tys mc ms post k n ws pc lv st := by
  intro hok H locs ls hS hl
  have h9 := kk hok H locs ls hS hl
  obtain ⟨p, l, e, s, m, args, below, meth, c, Q, A, H0⟩ := Γ
  obtain ⟨hx, hb, hml, hown, hts, hK, hA, hin, hret⟩ := hok
  exact lv_iload_n hx hb hd hi (g_lk hl hq) h9
theorem g_iload {i : Nat} {x : Int32} (hd : decode cc pc = .ok (.iload i, 2)) (hq : lv.lookup i = some (.int x)) (kk : G Γ R cc own Ts nL D cl tys mc ms post k n ws (pc + 2) lv (.int x :: st)) : G Γ R cc own Ts nL D cl tys mc ms post k n ws pc lv st := by
  intro hok H locs ls hS hl
  have h9 := kk hok H locs ls hS hl
  obtain ⟨p, l, e, s, m, args, below, meth, c, Q, A, H0⟩ := Γ
  obtain ⟨hx, hb, hml, hown, hts, hK, hA, hin, hret⟩ := hok
  exact lv_iload hx hb hd (g_lk hl hq) h9
theorem g_istore_n {j : Fin 4} {i : Nat} {x : Int32} (hd : decode cc pc = .ok (.istore_n j, 1)) (hi : (j : Nat) = i) (hn : i < nL) (kk : G Γ R cc own Ts nL D cl tys mc ms post k n ws (pc + 1) (gset1 lv i (.int x)) st) : G Γ R cc own Ts nL D cl tys mc ms post k n ws pc lv (.int x :: st) := by
  intro hok H locs ls hS hl
  have h9 := fun ls2 hl2 => kk hok H locs ls2 hS hl2
  obtain ⟨p, l, e, s, m, args, below, meth, c, Q, A, H0⟩ := Γ
  obtain ⟨hx, hb, hml, hown, hts, hK, hA, hin, hret⟩ := hok
  exact lv_istore_n hx hb hd hi hl hn rfl (fun ls2 hl2 => h9 ls2 hl2)
theorem g_istore {i : Nat} {x : Int32} (hd : decode cc pc = .ok (.istore i, 2)) (hn : i < nL) (kk : G Γ R cc own Ts nL D cl tys mc ms post k n ws (pc + 2) (gset1 lv i (.int x)) st) : G Γ R cc own Ts nL D cl tys mc ms post k n ws pc lv (.int x :: st) := by
  intro hok H locs ls hS hl
  have h9 := fun ls2 hl2 => kk hok H locs ls2 hS hl2
  obtain ⟨p, l, e, s, m, args, below, meth, c, Q, A, H0⟩ := Γ
  obtain ⟨hx, hb, hml, hown, hts, hK, hA, hin, hret⟩ := hok
  exact lv_istore hx hb hd hl hn rfl (fun ls2 hl2 => h9 ls2 hl2)
theorem g_lload_n {j : Fin 4} {i : Nat} {x : Int64} (hd : decode cc pc = .ok (.lload_n j, 1)) (hi : (j : Nat) = i) (hq : lv.lookup i = some (.long x)) (kk : G Γ R cc own Ts nL D cl tys mc ms post k n ws (pc + 1) lv (.long x :: st)) : G Γ R cc own Ts nL D cl tys mc ms post k n ws pc lv st := by
  intro hok H locs ls hS hl
  have h9 := kk hok H locs ls hS hl
  obtain ⟨p, l, e, s, m, args, below, meth, c, Q, A, H0⟩ := Γ
  obtain ⟨hx, hb, hml, hown, hts, hK, hA, hin, hret⟩ := hok
  exact lv_lload_n hx hb hd hi (g_lk hl hq) h9
theorem g_lload {i : Nat} {x : Int64} (hd : decode cc pc = .ok (.lload i, 2)) (hq : lv.lookup i = some (.long x)) (kk : G Γ R cc own Ts nL D cl tys mc ms post k n ws (pc + 2) lv (.long x :: st)) : G Γ R cc own Ts nL D cl tys mc ms post k n ws pc lv st := by
  intro hok H locs ls hS hl
  have h9 := kk hok H locs ls hS hl
  obtain ⟨p, l, e, s, m, args, below, meth, c, Q, A, H0⟩ := Γ
  obtain ⟨hx, hb, hml, hown, hts, hK, hA, hin, hret⟩ := hok
  exact lv_lload hx hb hd (g_lk hl hq) h9
theorem g_lstore_n {j : Fin 4} {i : Nat} {x : Int64} (hd : decode cc pc = .ok (.lstore_n j, 1)) (hi : (j : Nat) = i) (hn : i + 1 < nL) (kk : G Γ R cc own Ts nL D cl tys mc ms post k n ws (pc + 1) (gset2 lv i (.long x)) st) : G Γ R cc own Ts nL D cl tys mc ms post k n ws pc lv (.long x :: st) := by
  intro hok H locs ls hS hl
  have h9 := fun ls2 hl2 => kk hok H locs ls2 hS hl2
  obtain ⟨p, l, e, s, m, args, below, meth, c, Q, A, H0⟩ := Γ
  obtain ⟨hx, hb, hml, hown, hts, hK, hA, hin, hret⟩ := hok
  exact lv_lstore_n hx hb hd hi hl hn rfl (fun ls2 hl2 => h9 ls2 hl2)
theorem g_lstore {i : Nat} {x : Int64} (hd : decode cc pc = .ok (.lstore i, 2)) (hn : i + 1 < nL) (kk : G Γ R cc own Ts nL D cl tys mc ms post k n ws (pc + 2) (gset2 lv i (.long x)) st) : G Γ R cc own Ts nL D cl tys mc ms post k n ws pc lv (.long x :: st) := by
  intro hok H locs ls hS hl
  have h9 := fun ls2 hl2 => kk hok H locs ls2 hS hl2
  obtain ⟨p, l, e, s, m, args, below, meth, c, Q, A, H0⟩ := Γ
  obtain ⟨hx, hb, hml, hown, hts, hK, hA, hin, hret⟩ := hok
  exact lv_lstore hx hb hd hl hn rfl (fun ls2 hl2 => h9 ls2 hl2)
theorem g_aload_n {j : Fin 4} {i : Nat} {x : Nat} (hd : decode cc pc = .ok (.aload_n j, 1)) (hi : (j : Nat) = i) (hq : lv.lookup i = some (.ref x)) (kk : G Γ R cc own Ts nL D cl tys mc ms post k n ws (pc + 1) lv (.ref x :: st)) : G Γ R cc own Ts nL D cl tys mc ms post k n ws pc lv st := by
  intro hok H locs ls hS hl
  have h9 := kk hok H locs ls hS hl
  obtain ⟨p, l, e, s, m, args, below, meth, c, Q, A, H0⟩ := Γ
  obtain ⟨hx, hb, hml, hown, hts, hK, hA, hin, hret⟩ := hok
  exact lv_aload_n hx hb hd hi (g_lk hl hq) h9
theorem g_aload {i : Nat} {x : Nat} (hd : decode cc pc = .ok (.aload i, 2)) (hq : lv.lookup i = some (.ref x)) (kk : G Γ R cc own Ts nL D cl tys mc ms post k n ws (pc + 2) lv (.ref x :: st)) : G Γ R cc own Ts nL D cl tys mc ms post k n ws pc lv st := by
  intro hok H locs ls hS hl
  have h9 := kk hok H locs ls hS hl
  obtain ⟨p, l, e, s, m, args, below, meth, c, Q, A, H0⟩ := Γ
  obtain ⟨hx, hb, hml, hown, hts, hK, hA, hin, hret⟩ := hok
  exact lv_aload hx hb hd (g_lk hl hq) h9
theorem g_astore_n {j : Fin 4} {i : Nat} {x : Nat} (hd : decode cc pc = .ok (.astore_n j, 1)) (hi : (j : Nat) = i) (hn : i < nL) (kk : G Γ R cc own Ts nL D cl tys mc ms post k n ws (pc + 1) (gset1 lv i (.ref x)) st) : G Γ R cc own Ts nL D cl tys mc ms post k n ws pc lv (.ref x :: st) := by
  intro hok H locs ls hS hl
  have h9 := fun ls2 hl2 => kk hok H locs ls2 hS hl2
  obtain ⟨p, l, e, s, m, args, below, meth, c, Q, A, H0⟩ := Γ
  obtain ⟨hx, hb, hml, hown, hts, hK, hA, hin, hret⟩ := hok
  exact lv_astore_n hx hb hd hi hl hn rfl (fun ls2 hl2 => h9 ls2 hl2)
theorem g_astore {i : Nat} {x : Nat} (hd : decode cc pc = .ok (.astore i, 2)) (hn : i < nL) (kk : G Γ R cc own Ts nL D cl tys mc ms post k n ws (pc + 2) (gset1 lv i (.ref x)) st) : G Γ R cc own Ts nL D cl tys mc ms post k n ws pc lv (.ref x :: st) := by
  intro hok H locs ls hS hl
  have h9 := fun ls2 hl2 => kk hok H locs ls2 hS hl2
  obtain ⟨p, l, e, s, m, args, below, meth, c, Q, A, H0⟩ := Γ
  obtain ⟨hx, hb, hml, hown, hts, hK, hA, hin, hret⟩ := hok
  exact lv_astore hx hb hd hl hn rfl (fun ls2 hl2 => h9 ls2 hl2)
theorem g_iinc {i : Nat} {j : Int} {x : Int32} (d : Int32) (hd : decode cc pc = .ok (.iinc i j, 3)) (hv : Int32.ofInt j = d) (hq : lv.lookup i = some (.int x)) (hn : i < nL) (kk : G Γ R cc own Ts nL D cl tys mc ms post k n ws (pc + 3) (gset1 lv i (.int (x + d))) st) : G Γ R cc own Ts nL D cl tys mc ms post k n ws pc lv st := by
  intro hok H locs ls hS hl
  have h9 := fun ls2 hl2 => kk hok H locs ls2 hS hl2
  obtain ⟨p, l, e, s, m, args, below, meth, c, Q, A, H0⟩ := Γ
  obtain ⟨hx, hb, hml, hown, hts, hK, hA, hin, hret⟩ := hok
  have hl2 : lv_has ls nL ((i, Value.int x) :: lv) := ⟨hl.1, hl.2.1, fun q hq2 => by
    rcases List.mem_cons.mp hq2 with rfl | h
    · exact g_lk hl hq
    · exact hl.2.2 q h⟩
  have e1 : (i, Value.int (x + d)) :: (((i, Value.int x) :: lv).filter (fun q => !(q.1 == i) && !(q.1 + 1 == i && q.2.category == 2))) = gset1 lv i (.int (x + d)) := by simp [gset1]
  exact lv_iinc (k := 0) hx hb hd hl2 rfl (by rw [hv]) hn e1 (fun ls2 hl2 => h9 ls2 hl2)
theorem g_iadd {x y : Int32} (hd : decode cc pc = .ok (.iadd, 1)) (kk : G Γ R cc own Ts nL D cl tys mc ms post k n ws (pc + 1) lv (.int (x + y) :: st)) : G Γ R cc own Ts nL D cl tys mc ms post k n ws pc lv (.int y :: .int x :: st) := by
  intro hok H locs ls hS hl
  have h9 := kk hok H locs ls hS hl
  obtain ⟨p, l, e, s, m, args, below, meth, c, Q, A, H0⟩ := Γ
  obtain ⟨hx, hb, hml, hown, hts, hK, hA, hin, hret⟩ := hok
  exact lv_iadd hx hb hd h9
theorem g_isub {x y : Int32} (hd : decode cc pc = .ok (.isub, 1)) (kk : G Γ R cc own Ts nL D cl tys mc ms post k n ws (pc + 1) lv (.int (x - y) :: st)) : G Γ R cc own Ts nL D cl tys mc ms post k n ws pc lv (.int y :: .int x :: st) := by
  intro hok H locs ls hS hl
  have h9 := kk hok H locs ls hS hl
  obtain ⟨p, l, e, s, m, args, below, meth, c, Q, A, H0⟩ := Γ
  obtain ⟨hx, hb, hml, hown, hts, hK, hA, hin, hret⟩ := hok
  exact lv_isub hx hb hd h9
theorem g_imul {x y : Int32} (hd : decode cc pc = .ok (.imul, 1)) (kk : G Γ R cc own Ts nL D cl tys mc ms post k n ws (pc + 1) lv (.int (x * y) :: st)) : G Γ R cc own Ts nL D cl tys mc ms post k n ws pc lv (.int y :: .int x :: st) := by
  intro hok H locs ls hS hl
  have h9 := kk hok H locs ls hS hl
  obtain ⟨p, l, e, s, m, args, below, meth, c, Q, A, H0⟩ := Γ
  obtain ⟨hx, hb, hml, hown, hts, hK, hA, hin, hret⟩ := hok
  exact lv_imul hx hb hd h9
theorem g_iand {x y : Int32} (hd : decode cc pc = .ok (.iand, 1)) (kk : G Γ R cc own Ts nL D cl tys mc ms post k n ws (pc + 1) lv (.int (x &&& y) :: st)) : G Γ R cc own Ts nL D cl tys mc ms post k n ws pc lv (.int y :: .int x :: st) := by
  intro hok H locs ls hS hl
  have h9 := kk hok H locs ls hS hl
  obtain ⟨p, l, e, s, m, args, below, meth, c, Q, A, H0⟩ := Γ
  obtain ⟨hx, hb, hml, hown, hts, hK, hA, hin, hret⟩ := hok
  exact lv_iand hx hb hd h9
theorem g_ior {x y : Int32} (hd : decode cc pc = .ok (.ior, 1)) (kk : G Γ R cc own Ts nL D cl tys mc ms post k n ws (pc + 1) lv (.int (x ||| y) :: st)) : G Γ R cc own Ts nL D cl tys mc ms post k n ws pc lv (.int y :: .int x :: st) := by
  intro hok H locs ls hS hl
  have h9 := kk hok H locs ls hS hl
  obtain ⟨p, l, e, s, m, args, below, meth, c, Q, A, H0⟩ := Γ
  obtain ⟨hx, hb, hml, hown, hts, hK, hA, hin, hret⟩ := hok
  exact lv_ior hx hb hd h9
theorem g_ixor {x y : Int32} (hd : decode cc pc = .ok (.ixor, 1)) (kk : G Γ R cc own Ts nL D cl tys mc ms post k n ws (pc + 1) lv (.int (x ^^^ y) :: st)) : G Γ R cc own Ts nL D cl tys mc ms post k n ws pc lv (.int y :: .int x :: st) := by
  intro hok H locs ls hS hl
  have h9 := kk hok H locs ls hS hl
  obtain ⟨p, l, e, s, m, args, below, meth, c, Q, A, H0⟩ := Γ
  obtain ⟨hx, hb, hml, hown, hts, hK, hA, hin, hret⟩ := hok
  exact lv_ixor hx hb hd h9
theorem g_ishl {x y : Int32} (hd : decode cc pc = .ok (.ishl, 1)) (kk : G Γ R cc own Ts nL D cl tys mc ms post k n ws (pc + 1) lv (.int (x <<< (y &&& 31)) :: st)) : G Γ R cc own Ts nL D cl tys mc ms post k n ws pc lv (.int y :: .int x :: st) := by
  intro hok H locs ls hS hl
  have h9 := kk hok H locs ls hS hl
  obtain ⟨p, l, e, s, m, args, below, meth, c, Q, A, H0⟩ := Γ
  obtain ⟨hx, hb, hml, hown, hts, hK, hA, hin, hret⟩ := hok
  exact lv_ishl hx hb hd h9
theorem g_ishr {x y : Int32} (hd : decode cc pc = .ok (.ishr, 1)) (kk : G Γ R cc own Ts nL D cl tys mc ms post k n ws (pc + 1) lv (.int (x >>> (y &&& 31)) :: st)) : G Γ R cc own Ts nL D cl tys mc ms post k n ws pc lv (.int y :: .int x :: st) := by
  intro hok H locs ls hS hl
  have h9 := kk hok H locs ls hS hl
  obtain ⟨p, l, e, s, m, args, below, meth, c, Q, A, H0⟩ := Γ
  obtain ⟨hx, hb, hml, hown, hts, hK, hA, hin, hret⟩ := hok
  exact lv_ishr hx hb hd h9
theorem g_idiv {x y : Int32} (hne : ¬ y = 0) (hd : decode cc pc = .ok (.idiv, 1)) (kk : G Γ R cc own Ts nL D cl tys mc ms post k n ws (pc + 1) lv (.int (x / y) :: st)) : G Γ R cc own Ts nL D cl tys mc ms post k n ws pc lv (.int y :: .int x :: st) := by
  intro hok H locs ls hS hl
  have h9 := kk hok H locs ls hS hl
  obtain ⟨p, l, e, s, m, args, below, meth, c, Q, A, H0⟩ := Γ
  obtain ⟨hx, hb, hml, hown, hts, hK, hA, hin, hret⟩ := hok
  exact lv_idiv hx hb hd hne h9
theorem g_irem {x y : Int32} (hne : ¬ y = 0) (hd : decode cc pc = .ok (.irem, 1)) (kk : G Γ R cc own Ts nL D cl tys mc ms post k n ws (pc + 1) lv (.int (x - x / y * y) :: st)) : G Γ R cc own Ts nL D cl tys mc ms post k n ws pc lv (.int y :: .int x :: st) := by
  intro hok H locs ls hS hl
  have h9 := kk hok H locs ls hS hl
  obtain ⟨p, l, e, s, m, args, below, meth, c, Q, A, H0⟩ := Γ
  obtain ⟨hx, hb, hml, hown, hts, hK, hA, hin, hret⟩ := hok
  exact lv_irem hx hb hd hne h9
theorem g_ineg {x : Int32} (hd : decode cc pc = .ok (.ineg, 1)) (kk : G Γ R cc own Ts nL D cl tys mc ms post k n ws (pc + 1) lv (.int (-x) :: st)) : G Γ R cc own Ts nL D cl tys mc ms post k n ws pc lv (.int x :: st) := by
  intro hok H locs ls hS hl
  have h9 := kk hok H locs ls hS hl
  obtain ⟨p, l, e, s, m, args, below, meth, c, Q, A, H0⟩ := Γ
  obtain ⟨hx, hb, hml, hown, hts, hK, hA, hin, hret⟩ := hok
  exact lv_ineg hx hb hd h9
theorem g_ladd {x y : Int64} (hd : decode cc pc = .ok (.ladd, 1)) (kk : G Γ R cc own Ts nL D cl tys mc ms post k n ws (pc + 1) lv (.long (x + y) :: st)) : G Γ R cc own Ts nL D cl tys mc ms post k n ws pc lv (.long y :: .long x :: st) := by
  intro hok H locs ls hS hl
  have h9 := kk hok H locs ls hS hl
  obtain ⟨p, l, e, s, m, args, below, meth, c, Q, A, H0⟩ := Γ
  obtain ⟨hx, hb, hml, hown, hts, hK, hA, hin, hret⟩ := hok
  exact lv_ladd hx hb hd h9
theorem g_lsub {x y : Int64} (hd : decode cc pc = .ok (.lsub, 1)) (kk : G Γ R cc own Ts nL D cl tys mc ms post k n ws (pc + 1) lv (.long (x - y) :: st)) : G Γ R cc own Ts nL D cl tys mc ms post k n ws pc lv (.long y :: .long x :: st) := by
  intro hok H locs ls hS hl
  have h9 := kk hok H locs ls hS hl
  obtain ⟨p, l, e, s, m, args, below, meth, c, Q, A, H0⟩ := Γ
  obtain ⟨hx, hb, hml, hown, hts, hK, hA, hin, hret⟩ := hok
  exact lv_lsub hx hb hd h9
theorem g_lmul {x y : Int64} (hd : decode cc pc = .ok (.lmul, 1)) (kk : G Γ R cc own Ts nL D cl tys mc ms post k n ws (pc + 1) lv (.long (x * y) :: st)) : G Γ R cc own Ts nL D cl tys mc ms post k n ws pc lv (.long y :: .long x :: st) := by
  intro hok H locs ls hS hl
  have h9 := kk hok H locs ls hS hl
  obtain ⟨p, l, e, s, m, args, below, meth, c, Q, A, H0⟩ := Γ
  obtain ⟨hx, hb, hml, hown, hts, hK, hA, hin, hret⟩ := hok
  exact lv_lmul hx hb hd h9
theorem g_land {x y : Int64} (hd : decode cc pc = .ok (.land, 1)) (kk : G Γ R cc own Ts nL D cl tys mc ms post k n ws (pc + 1) lv (.long (x &&& y) :: st)) : G Γ R cc own Ts nL D cl tys mc ms post k n ws pc lv (.long y :: .long x :: st) := by
  intro hok H locs ls hS hl
  have h9 := kk hok H locs ls hS hl
  obtain ⟨p, l, e, s, m, args, below, meth, c, Q, A, H0⟩ := Γ
  obtain ⟨hx, hb, hml, hown, hts, hK, hA, hin, hret⟩ := hok
  exact lv_land hx hb hd h9
theorem g_lor {x y : Int64} (hd : decode cc pc = .ok (.lor, 1)) (kk : G Γ R cc own Ts nL D cl tys mc ms post k n ws (pc + 1) lv (.long (x ||| y) :: st)) : G Γ R cc own Ts nL D cl tys mc ms post k n ws pc lv (.long y :: .long x :: st) := by
  intro hok H locs ls hS hl
  have h9 := kk hok H locs ls hS hl
  obtain ⟨p, l, e, s, m, args, below, meth, c, Q, A, H0⟩ := Γ
  obtain ⟨hx, hb, hml, hown, hts, hK, hA, hin, hret⟩ := hok
  exact lv_lor hx hb hd h9
theorem g_ldiv {x y : Int64} (hne : ¬ y = 0) (hd : decode cc pc = .ok (.ldiv, 1)) (kk : G Γ R cc own Ts nL D cl tys mc ms post k n ws (pc + 1) lv (.long (x / y) :: st)) : G Γ R cc own Ts nL D cl tys mc ms post k n ws pc lv (.long y :: .long x :: st) := by
  intro hok H locs ls hS hl
  have h9 := kk hok H locs ls hS hl
  obtain ⟨p, l, e, s, m, args, below, meth, c, Q, A, H0⟩ := Γ
  obtain ⟨hx, hb, hml, hown, hts, hK, hA, hin, hret⟩ := hok
  exact lv_ldiv hx hb hd hne h9
theorem g_lrem {x y : Int64} (hne : ¬ y = 0) (hd : decode cc pc = .ok (.lrem, 1)) (kk : G Γ R cc own Ts nL D cl tys mc ms post k n ws (pc + 1) lv (.long (x - x / y * y) :: st)) : G Γ R cc own Ts nL D cl tys mc ms post k n ws pc lv (.long y :: .long x :: st) := by
  intro hok H locs ls hS hl
  have h9 := kk hok H locs ls hS hl
  obtain ⟨p, l, e, s, m, args, below, meth, c, Q, A, H0⟩ := Γ
  obtain ⟨hx, hb, hml, hown, hts, hK, hA, hin, hret⟩ := hok
  exact lv_lrem hx hb hd hne h9
theorem g_lneg {x : Int64} (hd : decode cc pc = .ok (.lneg, 1)) (kk : G Γ R cc own Ts nL D cl tys mc ms post k n ws (pc + 1) lv (.long (-x) :: st)) : G Γ R cc own Ts nL D cl tys mc ms post k n ws pc lv (.long x :: st) := by
  intro hok H locs ls hS hl
  have h9 := kk hok H locs ls hS hl
  obtain ⟨p, l, e, s, m, args, below, meth, c, Q, A, H0⟩ := Γ
  obtain ⟨hx, hb, hml, hown, hts, hK, hA, hin, hret⟩ := hok
  exact lv_lneg hx hb hd h9
theorem g_i2l {x : Int32} (hd : decode cc pc = .ok (.i2l, 1)) (kk : G Γ R cc own Ts nL D cl tys mc ms post k n ws (pc + 1) lv (.long x.toInt64 :: st)) : G Γ R cc own Ts nL D cl tys mc ms post k n ws pc lv (.int x :: st) := by
  intro hok H locs ls hS hl
  have h9 := kk hok H locs ls hS hl
  obtain ⟨p, l, e, s, m, args, below, meth, c, Q, A, H0⟩ := Γ
  obtain ⟨hx, hb, hml, hown, hts, hK, hA, hin, hret⟩ := hok
  exact lv_i2l hx hb hd rfl h9
theorem g_l2i {x : Int64} (hd : decode cc pc = .ok (.l2i, 1)) (kk : G Γ R cc own Ts nL D cl tys mc ms post k n ws (pc + 1) lv (.int x.toInt32 :: st)) : G Γ R cc own Ts nL D cl tys mc ms post k n ws pc lv (.long x :: st) := by
  intro hok H locs ls hS hl
  have h9 := kk hok H locs ls hS hl
  obtain ⟨p, l, e, s, m, args, below, meth, c, Q, A, H0⟩ := Γ
  obtain ⟨hx, hb, hml, hown, hts, hK, hA, hin, hret⟩ := hok
  exact lv_l2i hx hb hd rfl h9
theorem g_lshl {x : Int64} {y : Int32} (hd : decode cc pc = .ok (.lshl, 1)) (kk : G Γ R cc own Ts nL D cl tys mc ms post k n ws (pc + 1) lv (.long (x <<< (y.toInt64 &&& 63)) :: st)) : G Γ R cc own Ts nL D cl tys mc ms post k n ws pc lv (.int y :: .long x :: st) := by
  intro hok H locs ls hS hl
  have h9 := kk hok H locs ls hS hl
  obtain ⟨p, l, e, s, m, args, below, meth, c, Q, A, H0⟩ := Γ
  obtain ⟨hx, hb, hml, hown, hts, hK, hA, hin, hret⟩ := hok
  exact lv_lshl hx hb hd rfl h9
theorem g_lshr {x : Int64} {y : Int32} (hd : decode cc pc = .ok (.lshr, 1)) (kk : G Γ R cc own Ts nL D cl tys mc ms post k n ws (pc + 1) lv (.long (x >>> (y.toInt64 &&& 63)) :: st)) : G Γ R cc own Ts nL D cl tys mc ms post k n ws pc lv (.int y :: .long x :: st) := by
  intro hok H locs ls hS hl
  have h9 := kk hok H locs ls hS hl
  obtain ⟨p, l, e, s, m, args, below, meth, c, Q, A, H0⟩ := Γ
  obtain ⟨hx, hb, hml, hown, hts, hK, hA, hin, hret⟩ := hok
  exact lv_lshr hx hb hd rfl h9
theorem g_lushr {x : Int64} {y : Int32} (hd : decode cc pc = .ok (.lushr, 1)) (kk : G Γ R cc own Ts nL D cl tys mc ms post k n ws (pc + 1) lv (.long ((x.toUInt64 >>> (y.toInt64.toUInt64 &&& Int64.toUInt64 63)).toInt64) :: st)) : G Γ R cc own Ts nL D cl tys mc ms post k n ws pc lv (.int y :: .long x :: st) := by
  intro hok H locs ls hS hl
  have h9 := kk hok H locs ls hS hl
  obtain ⟨p, l, e, s, m, args, below, meth, c, Q, A, H0⟩ := Γ
  obtain ⟨hx, hb, hml, hown, hts, hK, hA, hin, hret⟩ := hok
  exact lv_lushr hx hb hd rfl h9
theorem g_dup {a : Value} (ha : a.category = 1) (hd : decode cc pc = .ok (.dup, 1)) (kk : G Γ R cc own Ts nL D cl tys mc ms post k n ws (pc + 1) lv (a :: a :: st)) : G Γ R cc own Ts nL D cl tys mc ms post k n ws pc lv (a :: st) := by
  intro hok H locs ls hS hl
  have h9 := kk hok H locs ls hS hl
  obtain ⟨p, l, e, s, m, args, below, meth, c, Q, A, H0⟩ := Γ
  obtain ⟨hx, hb, hml, hown, hts, hK, hA, hin, hret⟩ := hok
  exact lv_dup hx hb hd ha h9
theorem g_dup2_11 {a b : Value} (ha : a.category = 1) (hb2 : b.category = 1) (hd : decode cc pc = .ok (.dup2, 1)) (kk : G Γ R cc own Ts nL D cl tys mc ms post k n ws (pc + 1) lv (a :: b :: a :: b :: st)) : G Γ R cc own Ts nL D cl tys mc ms post k n ws pc lv (a :: b :: st) := by
  intro hok H locs ls hS hl
  have h9 := kk hok H locs ls hS hl
  obtain ⟨p, l, e, s, m, args, below, meth, c, Q, A, H0⟩ := Γ
  obtain ⟨hx, hb, hml, hown, hts, hK, hA, hin, hret⟩ := hok
  exact lv_dup2_11 hx hb hd ha hb2 h9
theorem g_dup2_2 {a : Value} (ha : a.category = 2) (hd : decode cc pc = .ok (.dup2, 1)) (kk : G Γ R cc own Ts nL D cl tys mc ms post k n ws (pc + 1) lv (a :: a :: st)) : G Γ R cc own Ts nL D cl tys mc ms post k n ws pc lv (a :: st) := by
  intro hok H locs ls hS hl
  have h9 := kk hok H locs ls hS hl
  obtain ⟨p, l, e, s, m, args, below, meth, c, Q, A, H0⟩ := Γ
  obtain ⟨hx, hb, hml, hown, hts, hK, hA, hin, hret⟩ := hok
  exact lv_dup2_2 hx hb hd ha h9
theorem g_dup_x1 {a b : Value} (ha : a.category = 1) (hb2 : b.category = 1) (hd : decode cc pc = .ok (.dup_x1, 1)) (kk : G Γ R cc own Ts nL D cl tys mc ms post k n ws (pc + 1) lv (a :: b :: a :: st)) : G Γ R cc own Ts nL D cl tys mc ms post k n ws pc lv (a :: b :: st) := by
  intro hok H locs ls hS hl
  have h9 := kk hok H locs ls hS hl
  obtain ⟨p, l, e, s, m, args, below, meth, c, Q, A, H0⟩ := Γ
  obtain ⟨hx, hb, hml, hown, hts, hK, hA, hin, hret⟩ := hok
  exact lv_dup_x1 hx hb hd ha hb2 h9
theorem g_pop {a : Value} (ha : a.category = 1) (hd : decode cc pc = .ok (.pop, 1)) (kk : G Γ R cc own Ts nL D cl tys mc ms post k n ws (pc + 1) lv st) : G Γ R cc own Ts nL D cl tys mc ms post k n ws pc lv (a :: st) := by
  intro hok H locs ls hS hl
  have h9 := kk hok H locs ls hS hl
  obtain ⟨p, l, e, s, m, args, below, meth, c, Q, A, H0⟩ := Γ
  obtain ⟨hx, hb, hml, hown, hts, hK, hA, hin, hret⟩ := hok
  exact lv_pop hx hb hd ha h9
theorem g_pop2_2 {a : Value} (ha : a.category = 2) (hd : decode cc pc = .ok (.pop2, 1)) (kk : G Γ R cc own Ts nL D cl tys mc ms post k n ws (pc + 1) lv st) : G Γ R cc own Ts nL D cl tys mc ms post k n ws pc lv (a :: st) := by
  intro hok H locs ls hS hl
  have h9 := kk hok H locs ls hS hl
  obtain ⟨p, l, e, s, m, args, below, meth, c, Q, A, H0⟩ := Γ
  obtain ⟨hx, hb, hml, hown, hts, hK, hA, hin, hret⟩ := hok
  exact lv_pop2_2 hx hb hd ha h9
theorem g_null  (hd : decode cc pc = .ok (.aconst_null, 1)) (kk : G Γ R cc own Ts nL D cl tys mc ms post k n ws (pc + 1) lv (.null :: st)) : G Γ R cc own Ts nL D cl tys mc ms post k n ws pc lv st := by
  intro hok H locs ls hS hl
  have h9 := kk hok H locs ls hS hl
  obtain ⟨p, l, e, s, m, args, below, meth, c, Q, A, H0⟩ := Γ
  obtain ⟨hx, hb, hml, hown, hts, hK, hA, hin, hret⟩ := hok
  exact lv_null hx hb hd h9
theorem g_if_eq {x : Int32} {off : Int} (tgt : Nat) (hd : decode cc pc = .ok (.ifCond .eq off, 3)) (ht : (pc : Int) + off = (tgt : Int)) (kt : x = 0 → G Γ R cc own Ts nL D cl tys mc ms post k n ws tgt lv st) (kf : ¬ x = 0 → G Γ R cc own Ts nL D cl tys mc ms post k n ws (pc + 3) lv st) : G Γ R cc own Ts nL D cl tys mc ms post k n ws pc lv (.int x :: st) := by
  intro hok H locs ls hS hl
  have h8 := fun q => kt q hok H locs ls hS hl
  have h9 := fun q => kf q hok H locs ls hS hl
  obtain ⟨p, l, e, s, m, args, below, meth, c, Q, A, H0⟩ := Γ
  obtain ⟨hx, hb, hml, hown, hts, hK, hA, hin, hret⟩ := hok
  exact lv_if_eq hx hb hd ht h8 h9
theorem g_icmp_eq {x y : Int32} {off : Int} (tgt : Nat) (hd : decode cc pc = .ok (.if_icmp .eq off, 3)) (ht : (pc : Int) + off = (tgt : Int)) (kt : x = y → G Γ R cc own Ts nL D cl tys mc ms post k n ws tgt lv st) (kf : ¬ x = y → G Γ R cc own Ts nL D cl tys mc ms post k n ws (pc + 3) lv st) : G Γ R cc own Ts nL D cl tys mc ms post k n ws pc lv (.int y :: .int x :: st) := by
  intro hok H locs ls hS hl
  have h8 := fun q => kt q hok H locs ls hS hl
  have h9 := fun q => kf q hok H locs ls hS hl
  obtain ⟨p, l, e, s, m, args, below, meth, c, Q, A, H0⟩ := Γ
  obtain ⟨hx, hb, hml, hown, hts, hK, hA, hin, hret⟩ := hok
  exact lv_icmp_eq hx hb hd ht h8 h9
theorem g_lcmp_eq {x y : Int64} {off : Int} (tgt : Nat) (hd0 : decode cc pc = .ok (.lcmp, 1)) (hd : decode cc (pc + 1) = .ok (.ifCond .eq off, 3)) (ht : ((pc + 1 : Nat) : Int) + off = (tgt : Int)) (kt : x = y → G Γ R cc own Ts nL D cl tys mc ms post k n ws tgt lv st) (kf : ¬ x = y → G Γ R cc own Ts nL D cl tys mc ms post k n ws (pc + 4) lv st) : G Γ R cc own Ts nL D cl tys mc ms post k n ws pc lv (.long y :: .long x :: st) := by
  intro hok H locs ls hS hl
  have h8 := fun q => kt q hok H locs ls hS hl
  have h9 := fun q => kf q hok H locs ls hS hl
  obtain ⟨p, l, e, s, m, args, below, meth, c, Q, A, H0⟩ := Γ
  obtain ⟨hx, hb, hml, hown, hts, hK, hA, hin, hret⟩ := hok
  exact W.lcmp hx hb hd0 (lv_if_eq hx hb hd ht (fun q => h8 ((lg_cmp_eq x y).mp q)) (fun q => h9 (mt (lg_cmp_eq x y).mpr q)))
theorem g_if_ne {x : Int32} {off : Int} (tgt : Nat) (hd : decode cc pc = .ok (.ifCond .ne off, 3)) (ht : (pc : Int) + off = (tgt : Int)) (kt : ¬ x = 0 → G Γ R cc own Ts nL D cl tys mc ms post k n ws tgt lv st) (kf : x = 0 → G Γ R cc own Ts nL D cl tys mc ms post k n ws (pc + 3) lv st) : G Γ R cc own Ts nL D cl tys mc ms post k n ws pc lv (.int x :: st) := by
  intro hok H locs ls hS hl
  have h8 := fun q => kt q hok H locs ls hS hl
  have h9 := fun q => kf q hok H locs ls hS hl
  obtain ⟨p, l, e, s, m, args, below, meth, c, Q, A, H0⟩ := Γ
  obtain ⟨hx, hb, hml, hown, hts, hK, hA, hin, hret⟩ := hok
  exact lv_if_ne hx hb hd ht h8 h9
theorem g_icmp_ne {x y : Int32} {off : Int} (tgt : Nat) (hd : decode cc pc = .ok (.if_icmp .ne off, 3)) (ht : (pc : Int) + off = (tgt : Int)) (kt : ¬ x = y → G Γ R cc own Ts nL D cl tys mc ms post k n ws tgt lv st) (kf : x = y → G Γ R cc own Ts nL D cl tys mc ms post k n ws (pc + 3) lv st) : G Γ R cc own Ts nL D cl tys mc ms post k n ws pc lv (.int y :: .int x :: st) := by
  intro hok H locs ls hS hl
  have h8 := fun q => kt q hok H locs ls hS hl
  have h9 := fun q => kf q hok H locs ls hS hl
  obtain ⟨p, l, e, s, m, args, below, meth, c, Q, A, H0⟩ := Γ
  obtain ⟨hx, hb, hml, hown, hts, hK, hA, hin, hret⟩ := hok
  exact lv_icmp_ne hx hb hd ht h8 h9
theorem g_lcmp_ne {x y : Int64} {off : Int} (tgt : Nat) (hd0 : decode cc pc = .ok (.lcmp, 1)) (hd : decode cc (pc + 1) = .ok (.ifCond .ne off, 3)) (ht : ((pc + 1 : Nat) : Int) + off = (tgt : Int)) (kt : ¬ x = y → G Γ R cc own Ts nL D cl tys mc ms post k n ws tgt lv st) (kf : x = y → G Γ R cc own Ts nL D cl tys mc ms post k n ws (pc + 4) lv st) : G Γ R cc own Ts nL D cl tys mc ms post k n ws pc lv (.long y :: .long x :: st) := by
  intro hok H locs ls hS hl
  have h8 := fun q => kt q hok H locs ls hS hl
  have h9 := fun q => kf q hok H locs ls hS hl
  obtain ⟨p, l, e, s, m, args, below, meth, c, Q, A, H0⟩ := Γ
  obtain ⟨hx, hb, hml, hown, hts, hK, hA, hin, hret⟩ := hok
  exact W.lcmp hx hb hd0 (lv_if_ne hx hb hd ht (fun q => h8 (mt (lg_cmp_eq x y).mpr q)) (fun q => h9 ((lg_cmp_eq x y).mp q)))
theorem g_if_lt {x : Int32} {off : Int} (tgt : Nat) (hd : decode cc pc = .ok (.ifCond .lt off, 3)) (ht : (pc : Int) + off = (tgt : Int)) (kt : x < 0 → G Γ R cc own Ts nL D cl tys mc ms post k n ws tgt lv st) (kf : ¬ x < 0 → G Γ R cc own Ts nL D cl tys mc ms post k n ws (pc + 3) lv st) : G Γ R cc own Ts nL D cl tys mc ms post k n ws pc lv (.int x :: st) := by
  intro hok H locs ls hS hl
  have h8 := fun q => kt q hok H locs ls hS hl
  have h9 := fun q => kf q hok H locs ls hS hl
  obtain ⟨p, l, e, s, m, args, below, meth, c, Q, A, H0⟩ := Γ
  obtain ⟨hx, hb, hml, hown, hts, hK, hA, hin, hret⟩ := hok
  exact lv_if_lt hx hb hd ht h8 h9
theorem g_icmp_lt {x y : Int32} {off : Int} (tgt : Nat) (hd : decode cc pc = .ok (.if_icmp .lt off, 3)) (ht : (pc : Int) + off = (tgt : Int)) (kt : x < y → G Γ R cc own Ts nL D cl tys mc ms post k n ws tgt lv st) (kf : ¬ x < y → G Γ R cc own Ts nL D cl tys mc ms post k n ws (pc + 3) lv st) : G Γ R cc own Ts nL D cl tys mc ms post k n ws pc lv (.int y :: .int x :: st) := by
  intro hok H locs ls hS hl
  have h8 := fun q => kt q hok H locs ls hS hl
  have h9 := fun q => kf q hok H locs ls hS hl
  obtain ⟨p, l, e, s, m, args, below, meth, c, Q, A, H0⟩ := Γ
  obtain ⟨hx, hb, hml, hown, hts, hK, hA, hin, hret⟩ := hok
  exact lv_icmp_lt hx hb hd ht h8 h9
theorem g_lcmp_lt {x y : Int64} {off : Int} (tgt : Nat) (hd0 : decode cc pc = .ok (.lcmp, 1)) (hd : decode cc (pc + 1) = .ok (.ifCond .lt off, 3)) (ht : ((pc + 1 : Nat) : Int) + off = (tgt : Int)) (kt : x < y → G Γ R cc own Ts nL D cl tys mc ms post k n ws tgt lv st) (kf : ¬ x < y → G Γ R cc own Ts nL D cl tys mc ms post k n ws (pc + 4) lv st) : G Γ R cc own Ts nL D cl tys mc ms post k n ws pc lv (.long y :: .long x :: st) := by
  intro hok H locs ls hS hl
  have h8 := fun q => kt q hok H locs ls hS hl
  have h9 := fun q => kf q hok H locs ls hS hl
  obtain ⟨p, l, e, s, m, args, below, meth, c, Q, A, H0⟩ := Γ
  obtain ⟨hx, hb, hml, hown, hts, hK, hA, hin, hret⟩ := hok
  exact W.lcmp hx hb hd0 (lv_if_lt hx hb hd ht (fun q => h8 ((lg_cmp_lt x y).mp q)) (fun q => h9 (mt (lg_cmp_lt x y).mpr q)))
theorem g_if_ge {x : Int32} {off : Int} (tgt : Nat) (hd : decode cc pc = .ok (.ifCond .ge off, 3)) (ht : (pc : Int) + off = (tgt : Int)) (kt : 0 ≤ x → G Γ R cc own Ts nL D cl tys mc ms post k n ws tgt lv st) (kf : ¬ 0 ≤ x → G Γ R cc own Ts nL D cl tys mc ms post k n ws (pc + 3) lv st) : G Γ R cc own Ts nL D cl tys mc ms post k n ws pc lv (.int x :: st) := by
  intro hok H locs ls hS hl
  have h8 := fun q => kt q hok H locs ls hS hl
  have h9 := fun q => kf q hok H locs ls hS hl
  obtain ⟨p, l, e, s, m, args, below, meth, c, Q, A, H0⟩ := Γ
  obtain ⟨hx, hb, hml, hown, hts, hK, hA, hin, hret⟩ := hok
  exact lv_if_ge hx hb hd ht h8 h9
theorem g_icmp_ge {x y : Int32} {off : Int} (tgt : Nat) (hd : decode cc pc = .ok (.if_icmp .ge off, 3)) (ht : (pc : Int) + off = (tgt : Int)) (kt : y ≤ x → G Γ R cc own Ts nL D cl tys mc ms post k n ws tgt lv st) (kf : ¬ y ≤ x → G Γ R cc own Ts nL D cl tys mc ms post k n ws (pc + 3) lv st) : G Γ R cc own Ts nL D cl tys mc ms post k n ws pc lv (.int y :: .int x :: st) := by
  intro hok H locs ls hS hl
  have h8 := fun q => kt q hok H locs ls hS hl
  have h9 := fun q => kf q hok H locs ls hS hl
  obtain ⟨p, l, e, s, m, args, below, meth, c, Q, A, H0⟩ := Γ
  obtain ⟨hx, hb, hml, hown, hts, hK, hA, hin, hret⟩ := hok
  exact lv_icmp_ge hx hb hd ht h8 h9
theorem g_lcmp_ge {x y : Int64} {off : Int} (tgt : Nat) (hd0 : decode cc pc = .ok (.lcmp, 1)) (hd : decode cc (pc + 1) = .ok (.ifCond .ge off, 3)) (ht : ((pc + 1 : Nat) : Int) + off = (tgt : Int)) (kt : y ≤ x → G Γ R cc own Ts nL D cl tys mc ms post k n ws tgt lv st) (kf : ¬ y ≤ x → G Γ R cc own Ts nL D cl tys mc ms post k n ws (pc + 4) lv st) : G Γ R cc own Ts nL D cl tys mc ms post k n ws pc lv (.long y :: .long x :: st) := by
  intro hok H locs ls hS hl
  have h8 := fun q => kt q hok H locs ls hS hl
  have h9 := fun q => kf q hok H locs ls hS hl
  obtain ⟨p, l, e, s, m, args, below, meth, c, Q, A, H0⟩ := Γ
  obtain ⟨hx, hb, hml, hown, hts, hK, hA, hin, hret⟩ := hok
  exact W.lcmp hx hb hd0 (lv_if_ge hx hb hd ht (fun q => h8 ((lg_cmp_ge x y).mp q)) (fun q => h9 (mt (lg_cmp_ge x y).mpr q)))
theorem g_if_gt {x : Int32} {off : Int} (tgt : Nat) (hd : decode cc pc = .ok (.ifCond .gt off, 3)) (ht : (pc : Int) + off = (tgt : Int)) (kt : 0 < x → G Γ R cc own Ts nL D cl tys mc ms post k n ws tgt lv st) (kf : ¬ 0 < x → G Γ R cc own Ts nL D cl tys mc ms post k n ws (pc + 3) lv st) : G Γ R cc own Ts nL D cl tys mc ms post k n ws pc lv (.int x :: st) := by
  intro hok H locs ls hS hl
  have h8 := fun q => kt q hok H locs ls hS hl
  have h9 := fun q => kf q hok H locs ls hS hl
  obtain ⟨p, l, e, s, m, args, below, meth, c, Q, A, H0⟩ := Γ
  obtain ⟨hx, hb, hml, hown, hts, hK, hA, hin, hret⟩ := hok
  exact lv_if_gt hx hb hd ht h8 h9
theorem g_icmp_gt {x y : Int32} {off : Int} (tgt : Nat) (hd : decode cc pc = .ok (.if_icmp .gt off, 3)) (ht : (pc : Int) + off = (tgt : Int)) (kt : y < x → G Γ R cc own Ts nL D cl tys mc ms post k n ws tgt lv st) (kf : ¬ y < x → G Γ R cc own Ts nL D cl tys mc ms post k n ws (pc + 3) lv st) : G Γ R cc own Ts nL D cl tys mc ms post k n ws pc lv (.int y :: .int x :: st) := by
  intro hok H locs ls hS hl
  have h8 := fun q => kt q hok H locs ls hS hl
  have h9 := fun q => kf q hok H locs ls hS hl
  obtain ⟨p, l, e, s, m, args, below, meth, c, Q, A, H0⟩ := Γ
  obtain ⟨hx, hb, hml, hown, hts, hK, hA, hin, hret⟩ := hok
  exact lv_icmp_gt hx hb hd ht h8 h9
theorem g_lcmp_gt {x y : Int64} {off : Int} (tgt : Nat) (hd0 : decode cc pc = .ok (.lcmp, 1)) (hd : decode cc (pc + 1) = .ok (.ifCond .gt off, 3)) (ht : ((pc + 1 : Nat) : Int) + off = (tgt : Int)) (kt : y < x → G Γ R cc own Ts nL D cl tys mc ms post k n ws tgt lv st) (kf : ¬ y < x → G Γ R cc own Ts nL D cl tys mc ms post k n ws (pc + 4) lv st) : G Γ R cc own Ts nL D cl tys mc ms post k n ws pc lv (.long y :: .long x :: st) := by
  intro hok H locs ls hS hl
  have h8 := fun q => kt q hok H locs ls hS hl
  have h9 := fun q => kf q hok H locs ls hS hl
  obtain ⟨p, l, e, s, m, args, below, meth, c, Q, A, H0⟩ := Γ
  obtain ⟨hx, hb, hml, hown, hts, hK, hA, hin, hret⟩ := hok
  exact W.lcmp hx hb hd0 (lv_if_gt hx hb hd ht (fun q => h8 ((lg_cmp_gt x y).mp q)) (fun q => h9 (mt (lg_cmp_gt x y).mpr q)))
theorem g_if_le {x : Int32} {off : Int} (tgt : Nat) (hd : decode cc pc = .ok (.ifCond .le off, 3)) (ht : (pc : Int) + off = (tgt : Int)) (kt : x ≤ 0 → G Γ R cc own Ts nL D cl tys mc ms post k n ws tgt lv st) (kf : ¬ x ≤ 0 → G Γ R cc own Ts nL D cl tys mc ms post k n ws (pc + 3) lv st) : G Γ R cc own Ts nL D cl tys mc ms post k n ws pc lv (.int x :: st) := by
  intro hok H locs ls hS hl
  have h8 := fun q => kt q hok H locs ls hS hl
  have h9 := fun q => kf q hok H locs ls hS hl
  obtain ⟨p, l, e, s, m, args, below, meth, c, Q, A, H0⟩ := Γ
  obtain ⟨hx, hb, hml, hown, hts, hK, hA, hin, hret⟩ := hok
  exact lv_if_le hx hb hd ht h8 h9
theorem g_icmp_le {x y : Int32} {off : Int} (tgt : Nat) (hd : decode cc pc = .ok (.if_icmp .le off, 3)) (ht : (pc : Int) + off = (tgt : Int)) (kt : x ≤ y → G Γ R cc own Ts nL D cl tys mc ms post k n ws tgt lv st) (kf : ¬ x ≤ y → G Γ R cc own Ts nL D cl tys mc ms post k n ws (pc + 3) lv st) : G Γ R cc own Ts nL D cl tys mc ms post k n ws pc lv (.int y :: .int x :: st) := by
  intro hok H locs ls hS hl
  have h8 := fun q => kt q hok H locs ls hS hl
  have h9 := fun q => kf q hok H locs ls hS hl
  obtain ⟨p, l, e, s, m, args, below, meth, c, Q, A, H0⟩ := Γ
  obtain ⟨hx, hb, hml, hown, hts, hK, hA, hin, hret⟩ := hok
  exact lv_icmp_le hx hb hd ht h8 h9
theorem g_lcmp_le {x y : Int64} {off : Int} (tgt : Nat) (hd0 : decode cc pc = .ok (.lcmp, 1)) (hd : decode cc (pc + 1) = .ok (.ifCond .le off, 3)) (ht : ((pc + 1 : Nat) : Int) + off = (tgt : Int)) (kt : x ≤ y → G Γ R cc own Ts nL D cl tys mc ms post k n ws tgt lv st) (kf : ¬ x ≤ y → G Γ R cc own Ts nL D cl tys mc ms post k n ws (pc + 4) lv st) : G Γ R cc own Ts nL D cl tys mc ms post k n ws pc lv (.long y :: .long x :: st) := by
  intro hok H locs ls hS hl
  have h8 := fun q => kt q hok H locs ls hS hl
  have h9 := fun q => kf q hok H locs ls hS hl
  obtain ⟨p, l, e, s, m, args, below, meth, c, Q, A, H0⟩ := Γ
  obtain ⟨hx, hb, hml, hown, hts, hK, hA, hin, hret⟩ := hok
  exact W.lcmp hx hb hd0 (lv_if_le hx hb hd ht (fun q => h8 ((lg_cmp_le x y).mp q)) (fun q => h9 (mt (lg_cmp_le x y).mpr q)))
theorem g_goto {off : Int} (tgt : Nat) (hd : decode cc pc = .ok (.goto off, 3)) (ht : (pc : Int) + off = (tgt : Int)) (kk : G Γ R cc own Ts nL D cl tys mc ms post k n ws tgt lv st) : G Γ R cc own Ts nL D cl tys mc ms post k n ws pc lv st := by
  intro hok H locs ls hS hl
  have h9 := kk hok H locs ls hS hl
  obtain ⟨p, l, e, s, m, args, below, meth, c, Q, A, H0⟩ := Γ
  obtain ⟨hx, hb, hml, hown, hts, hK, hA, hin, hret⟩ := hok
  exact lv_goto hx hb hd ht h9
theorem g_tabIn {dflt lo hi : Int} {offs : Array Int} {len : Nat} {x : Int32} {off : Int} (tgt : Nat) (hd : decode cc pc = .ok (.tableswitch dflt lo hi offs, len)) (h1 : ¬ x.toInt < lo) (h2 : ¬ hi < x.toInt) (ho : offs[(x.toInt - lo).toNat]? = some off) (ht : (pc : Int) + off = (tgt : Int)) (kk : G Γ R cc own Ts nL D cl tys mc ms post k n ws tgt lv st) : G Γ R cc own Ts nL D cl tys mc ms post k n ws pc lv (.int x :: st) := by
  intro hok H locs ls hS hl
  have h9 := kk hok H locs ls hS hl
  obtain ⟨p, l, e, s, m, args, below, meth, c, Q, A, H0⟩ := Γ
  obtain ⟨hx, hb, hml, hown, hts, hK, hA, hin, hret⟩ := hok
  exact lv_tableIn hx hb hd h1 h2 ho ht h9
theorem g_tabOut {dflt lo hi : Int} {offs : Array Int} {len : Nat} {x : Int32} (tgt : Nat) (hd : decode cc pc = .ok (.tableswitch dflt lo hi offs, len)) (h : x.toInt < lo ∨ hi < x.toInt) (ht : (pc : Int) + dflt = (tgt : Int)) (kk : G Γ R cc own Ts nL D cl tys mc ms post k n ws tgt lv st) : G Γ R cc own Ts nL D cl tys mc ms post k n ws pc lv (.int x :: st) := by
  intro hok H locs ls hS hl
  have h9 := kk hok H locs ls hS hl
  obtain ⟨p, l, e, s, m, args, below, meth, c, Q, A, H0⟩ := Γ
  obtain ⟨hx, hb, hml, hown, hts, hK, hA, hin, hret⟩ := hok
  exact lv_tableOut hx hb hd h ht h9
theorem g_lksw {dflt : Int} {ps : Array (Int × Int)} {len : Nat} {x : Int32} {off : Int} (tgt : Nat) (hd : decode cc pc = .ok (.lookupswitch dflt ps, len)) (hp : (ps.toList.zip (ps.toList.drop 1)).all (fun (a, next) => a.1 < next.1) = true) (ho : Op.lookupswitch.offset ps.toList dflt x.toInt = off) (ht : (pc : Int) + off = (tgt : Int)) (kk : G Γ R cc own Ts nL D cl tys mc ms post k n ws tgt lv st) : G Γ R cc own Ts nL D cl tys mc ms post k n ws pc lv (.int x :: st) := by
  intro hok H locs ls hS hl
  have h9 := kk hok H locs ls hS hl
  obtain ⟨p, l, e, s, m, args, below, meth, c, Q, A, H0⟩ := Γ
  obtain ⟨hx, hb, hml, hown, hts, hK, hA, hin, hret⟩ := hok
  exact lv_lookup hx hb hd hp ho ht h9
theorem g_iret {v : Int32} (hd : decode cc pc = .ok (.ireturn, 1)) (h : post (some (.int v)) ws) : G Γ R cc own Ts nL D cl tys mc ms post mc ms ws pc lv [.int v] := by
  intro hok H locs ls hS hl
  obtain ⟨p, l, e, s, m, args, below, meth, c, Q, A, H0⟩ := Γ
  obtain ⟨hx, hb, hml, hown, hts, hK, hA, hin, hret⟩ := hok
  exact hret (some (.int v)) ws H locs ls pc h hS.1 hS.2.1 hS.2.2 hd
theorem g_lret {v : Int64} (hd : decode cc pc = .ok (.lreturn, 1)) (h : post (some (.long v)) ws) : G Γ R cc own Ts nL D cl tys mc ms post mc ms ws pc lv [.long v] := by
  intro hok H locs ls hS hl
  obtain ⟨p, l, e, s, m, args, below, meth, c, Q, A, H0⟩ := Γ
  obtain ⟨hx, hb, hml, hown, hts, hK, hA, hin, hret⟩ := hok
  exact hret (some (.long v)) ws H locs ls pc h hS.1 hS.2.1 hS.2.2 hd
theorem g_aret {v : Nat} (hd : decode cc pc = .ok (.areturn, 1)) (h : post (some (.ref v)) ws) : G Γ R cc own Ts nL D cl tys mc ms post mc ms ws pc lv [.ref v] := by
  intro hok H locs ls hS hl
  obtain ⟨p, l, e, s, m, args, below, meth, c, Q, A, H0⟩ := Γ
  obtain ⟨hx, hb, hml, hown, hts, hK, hA, hin, hret⟩ := hok
  exact hret (some (.ref v)) ws H locs ls pc h hS.1 hS.2.1 hS.2.2 hd
theorem g_vret  (hd : decode cc pc = .ok (.return_, 1)) (h : post none ws) : G Γ R cc own Ts nL D cl tys mc ms post mc ms ws pc lv [] := by
  intro hok H locs ls hS hl
  obtain ⟨p, l, e, s, m, args, below, meth, c, Q, A, H0⟩ := Γ
  obtain ⟨hx, hb, hml, hown, hts, hK, hA, hin, hret⟩ := hok
  exact hret none ws H locs ls pc h hS.1 hS.2.1 hS.2.2 hd
theorem g_nret  (hd : decode cc pc = .ok (.areturn, 1)) (h : post (some .null) ws) : G Γ R cc own Ts nL D cl tys mc ms post mc ms ws pc lv [.null] := by
  intro hok H locs ls hS hl
  obtain ⟨p, l, e, s, m, args, below, meth, c, Q, A, H0⟩ := Γ
  obtain ⟨hx, hb, hml, hown, hts, hK, hA, hin, hret⟩ := hok
  exact hret (some .null) ws H locs ls pc h hS.1 hS.2.1 hS.2.2 hd
theorem g_nrm (lv2 : List (Nat × Value)) (hs : gSub lv lv2) (kk : G Γ R cc own Ts nL D cl tys mc ms post k n ws pc lv2 st) : G Γ R cc own Ts nL D cl tys mc ms post k n ws pc lv st := fun hok H locs ls hS hl => kk hok H locs ls hS (g_has hl hs)
theorem g_widen (k2 n2 : Nat) (h1 : k ≤ k2) (h2 : n ≤ n2) (kk : G Γ R cc own Ts nL D cl tys mc ms post k2 n2 ws pc lv st) : G Γ R cc own Ts nL D cl tys mc ms post k n ws pc lv st := by
  intro hok H locs ls hS hl
  have h9 := kk hok H locs ls hS hl
  obtain ⟨p, l, e, s, m, args, below, meth, c, Q, A, H0⟩ := Γ
  obtain ⟨hx, hb, hml, hown, hts, hK, hA, hin, hret⟩ := hok
  exact W.widen h1 h2 h9
theorem g_wsub (ws2 : va_W) (is : List Nat) (hn : va_nd is = true) (hs : is.filterMap (fun i => ws[i]?) = ws2) (hm : is.map (fun i => ws[i]?) = ws2.map some) (kk : G Γ R cc own Ts nL D cl tys mc ms post k n ws2 pc lv st) : G Γ R cc own Ts nL D cl tys mc ms post k n ws pc lv st := by
  intro hok H locs ls hS hl
  have hS2 : gS Γ D cl ws2 H locs := by
    obtain ⟨p, l, e, s, m, args, below, meth, c, Q, A, H0⟩ := Γ
    exact ⟨hS.1.sub is hs, hS.2.1.sub is hn hm, hS.2.2⟩
  exact kk hok H locs ls hS2 hl
theorem g_weq (ws2 : va_W) (he : ws = ws2) (kk : G Γ R cc own Ts nL D cl tys mc ms post k n ws2 pc lv st) : G Γ R cc own Ts nL D cl tys mc ms post k n ws pc lv st := he ▸ kk
theorem g_get {a ci N ix : Nat} {C rf : String} {T : u_T} {fs : List Value} {v : Value} (q0 j : Nat) (hd : decode cc pc = .ok (.getfield ix, 3)) (hw : Cond.fieldLink own ix (T j).1 (T j).2.1 (T j).2.2.1 ∈ Ts) (hi2 : ∀ w ∈ u_ws C T N, w ∈ Ts) (he : ws[q0]? = some (a, .inr (ci, fs))) (hc : cl[ci]? = some (C, T, N)) (hj : j < N) (hv : fs[j]? = some v) (kk : G Γ R cc own Ts nL D cl tys mc ms post k n ws (pc + 3) lv (v :: st)) : G Γ R cc own Ts nL D cl tys mc ms post k n ws pc lv (.ref a :: st) := by
  intro hok H locs ls hS hl
  have h9 := kk hok H locs ls hS hl
  obtain ⟨p, l, e, s, m, args, below, meth, c, Q, A, H0⟩ := Γ
  obtain ⟨hx, hb, hml, hown, hts, hK, hA, hin, hret⟩ := hok
  exact va_get hx hb hts hi2 hown hK hS.1 q0 he hc j hj (hts _ hw) (fun _ h => h) hv hd h9
theorem g_put {a ci N ix : Nat} {C : String} {T : u_T} {fs : List Value} {v : Value} {ty : FieldType} (q0 j : Nat) (ws2 : va_W) (ty0 : Nat → FieldType) (hty : ∀ k, k < N → parseFieldDescriptor (T k).2.2.1 = some (ty0 k)) (hnm : ∀ a, a < N → ∀ b, b < N → a ≠ b → (T a).2.1 ≠ (T b).2.1) (hd : decode cc pc = .ok (.putfield ix, 3)) (hw : Cond.fieldLink own ix (T j).1 (T j).2.1 (T j).2.2.1 ∈ Ts) (hi2 : ∀ w ∈ u_ws C T N, w ∈ Ts) (he : ws[q0]? = some (a, .inr (ci, fs))) (hc : cl[ci]? = some (C, T, N)) (hj : j < N) (hfin : (T j).2.2.2 = false) (hpd : parseFieldDescriptor (T j).2.2.1 = some ty) (hnar : narrow ty v = v) (hfit : fits ty v = true) (hl3 : j < fs.length) (hws : ws.set q0 (a, .inr (ci, fs.set j v)) = ws2) (kk : G Γ R cc own Ts nL D cl tys mc ms post k n ws2 (pc + 3) lv st) : G Γ R cc own Ts nL D cl tys mc ms post k n ws pc lv (v :: .ref a :: st) := by
  intro hok H locs ls hS hl
  subst hws
  have h9 := fun H1 locs1 hS1 => kk hok H1 locs1 ls hS1 hl
  obtain ⟨p, l, e, s, m, args, below, meth, c, Q, A, H0⟩ := Γ
  obtain ⟨hx, hb, hml, hown, hts, hK, hA, hin, hret⟩ := hok
  exact va_put hx hb hts hi2 ty0 hty hnm hown hK hS.1 hS.2.1 hS.2.2 q0 he hc j hj (hts _ hw) (fun _ h => h) hfin hpd hnar hfit hl3 hd (fun H1 locs1 h1 h2 h3 => h9 H1 locs1 ⟨h1, h2, h3⟩)
theorem g_iald {a : Nat} {cA : ClassId} {N : Nat} {f : Nat → Int32} {i : Int32} (q0 t0 : Nat) (hd : decode cc pc = .ok (.iaload, 1)) (ha : ws[q0]? = some (a, .inl (cA, N, .inl f))) (ht : tys[t0]? = some (cA, .int)) (hi : vp_in i N) (kk : G Γ R cc own Ts nL D cl tys mc ms post k n ws (pc + 1) lv (.int (f i.toNatClampNeg) :: st)) : G Γ R cc own Ts nL D cl tys mc ms post k n ws pc lv (.int i :: .ref a :: st) := by
  intro hok H locs ls hS hl
  have h9 := kk hok H locs ls hS hl
  obtain ⟨p, l, e, s, m, args, below, meth, c, Q, A, H0⟩ := Γ
  obtain ⟨hx, hb, hml, hown, hts, hK, hA, hin, hret⟩ := hok
  exact va_iald hx hb hK hS.1 q0 t0 ha ht hi hd h9
theorem g_zald {a : Nat} {cA : ClassId} {N : Nat} {f : Nat → Int32} {i : Int32} (q0 t0 : Nat) (hd : decode cc pc = .ok (.baload, 1)) (ha : ws[q0]? = some (a, .inl (cA, N, .inl f))) (ht : tys[t0]? = some (cA, .boolean)) (hi : vp_in i N) (kk : G Γ R cc own Ts nL D cl tys mc ms post k n ws (pc + 1) lv (.int (f i.toNatClampNeg) :: st)) : G Γ R cc own Ts nL D cl tys mc ms post k n ws pc lv (.int i :: .ref a :: st) := by
  intro hok H locs ls hS hl
  have h9 := kk hok H locs ls hS hl
  obtain ⟨p, l, e, s, m, args, below, meth, c, Q, A, H0⟩ := Γ
  obtain ⟨hx, hb, hml, hown, hts, hK, hA, hin, hret⟩ := hok
  exact va_zald hx hb hK hS.1 q0 t0 ha ht hi hd h9
theorem g_lald {a : Nat} {cA : ClassId} {N : Nat} {f : Nat → Int64} {i : Int32} (q0 t0 : Nat) (hd : decode cc pc = .ok (.laload, 1)) (ha : ws[q0]? = some (a, .inl (cA, N, .inr (.inl f)))) (ht : tys[t0]? = some (cA, .long)) (hi : vp_in i N) (kk : G Γ R cc own Ts nL D cl tys mc ms post k n ws (pc + 1) lv (.long (f i.toNatClampNeg) :: st)) : G Γ R cc own Ts nL D cl tys mc ms post k n ws pc lv (.int i :: .ref a :: st) := by
  intro hok H locs ls hS hl
  have h9 := kk hok H locs ls hS hl
  obtain ⟨p, l, e, s, m, args, below, meth, c, Q, A, H0⟩ := Γ
  obtain ⟨hx, hb, hml, hown, hts, hK, hA, hin, hret⟩ := hok
  exact va_lald hx hb hK hS.1 q0 t0 ha ht hi hd h9
theorem g_iast {a : Nat} {cA : ClassId} {N : Nat} {f : Nat → Int32} {i : Int32} {x : Int32} (q0 t0 : Nat) (ws2 : va_W) (hd : decode cc pc = .ok (.iastore, 1)) (ha : ws[q0]? = some (a, .inl (cA, N, .inl f))) (ht : tys[t0]? = some (cA, .int)) (hi : vp_in i N) (hws : ws.set q0 (a, .inl (cA, N, .inl (upd f i.toNatClampNeg x))) = ws2) (kk : G Γ R cc own Ts nL D cl tys mc ms post k n ws2 (pc + 1) lv st) : G Γ R cc own Ts nL D cl tys mc ms post k n ws pc lv (.int x :: .int i :: .ref a :: st) := by
  intro hok H locs ls hS hl
  subst hws
  have h9 := fun H1 locs1 hS1 => kk hok H1 locs1 ls hS1 hl
  obtain ⟨p, l, e, s, m, args, below, meth, c, Q, A, H0⟩ := Γ
  obtain ⟨hx, hb, hml, hown, hts, hK, hA, hin, hret⟩ := hok
  exact va_iast hx hb hK hS.1 hS.2.1 hS.2.2 q0 t0 ha ht hi hd (fun H1 locs1 h1 h2 h3 => h9 H1 locs1 ⟨h1, h2, h3⟩)
theorem g_zast {a : Nat} {cA : ClassId} {N : Nat} {f : Nat → Int32} {i : Int32} {x : Int32} (q0 t0 : Nat) (ws2 : va_W) (hd : decode cc pc = .ok (.bastore, 1)) (ha : ws[q0]? = some (a, .inl (cA, N, .inl f))) (ht : tys[t0]? = some (cA, .boolean)) (hi : vp_in i N) (hws : ws.set q0 (a, .inl (cA, N, .inl (upd f i.toNatClampNeg (vp_nar .boolean x)))) = ws2) (kk : G Γ R cc own Ts nL D cl tys mc ms post k n ws2 (pc + 1) lv st) : G Γ R cc own Ts nL D cl tys mc ms post k n ws pc lv (.int x :: .int i :: .ref a :: st) := by
  intro hok H locs ls hS hl
  subst hws
  have h9 := fun H1 locs1 hS1 => kk hok H1 locs1 ls hS1 hl
  obtain ⟨p, l, e, s, m, args, below, meth, c, Q, A, H0⟩ := Γ
  obtain ⟨hx, hb, hml, hown, hts, hK, hA, hin, hret⟩ := hok
  exact va_zast hx hb hK hS.1 hS.2.1 hS.2.2 q0 t0 ha ht hi hd (fun H1 locs1 h1 h2 h3 => h9 H1 locs1 ⟨h1, h2, h3⟩)
theorem g_last {a : Nat} {cA : ClassId} {N : Nat} {f : Nat → Int64} {i : Int32} {x : Int64} (q0 t0 : Nat) (ws2 : va_W) (hd : decode cc pc = .ok (.lastore, 1)) (ha : ws[q0]? = some (a, .inl (cA, N, .inr (.inl f)))) (ht : tys[t0]? = some (cA, .long)) (hi : vp_in i N) (hws : ws.set q0 (a, .inl (cA, N, .inr (.inl (vp_updL f i.toNatClampNeg x)))) = ws2) (kk : G Γ R cc own Ts nL D cl tys mc ms post k n ws2 (pc + 1) lv st) : G Γ R cc own Ts nL D cl tys mc ms post k n ws pc lv (.long x :: .int i :: .ref a :: st) := by
  intro hok H locs ls hS hl
  subst hws
  have h9 := fun H1 locs1 hS1 => kk hok H1 locs1 ls hS1 hl
  obtain ⟨p, l, e, s, m, args, below, meth, c, Q, A, H0⟩ := Γ
  obtain ⟨hx, hb, hml, hown, hts, hK, hA, hin, hret⟩ := hok
  exact va_last hx hb hK hS.1 hS.2.1 hS.2.2 q0 t0 ha ht hi hd (fun H1 locs1 h1 h2 h3 => h9 H1 locs1 ⟨h1, h2, h3⟩)
/-- the end of a method as its contract has it -/
def gQc (D : va_G) (cl : List vw_C) (tys : List (ClassId × FieldType)) (A : Nat → Prop) (post : Option Value → va_W → Prop) : Array Value → State → Outcome → State → Prop := fun _ st oc t => (∃ (v : Option Value) (w1 : va_W), oc = .returned v ∧ post v w1 ∧ va_P D cl w1 t.heap ∧ va_K D cl tys t ∧ va_D A w1) ∧ va_F A st t
/-- THE CONTRACT: from the cells w0 and the arguments av the method y returns, with post of its answer and of the cells then -/
def Ct (l : Launch) (D : va_G) (cl : List vw_C) (tys : List (ClassId × FieldType)) (y : MethodName) (wy : List Cond) (rm : Room) (mc ms : Nat) (av : List Value) (w0 : va_W) (post : Option Value → va_W → Prop) : Prop :=
  ∀ sz : Nat, Met l y wy rm (va_Pc av (fun U => U.heap.size = sz ∧ va_P D cl w0 U.heap ∧ va_K D cl tys U ∧ va_D (fun _ => True) w0)) (gQc D cl tys (va_A w0 sz) post) mc ms (va_A w0 sz)

theorem g_back {p : Program} {l : Launch} {e : Env} {R : Room} {s : State} {m : MethodId} {args : Array Value} {below : List Frame} {meth : Method} {c : Code} {H : Heap} {locs : List Loc} {cells slots : Nat} {Q : State → Prop} {pc : Nat} {ls : Array Slot} {rest st0 : List Value} {a : Array Value} {A0 A1 : Nat → Prop} {H0 : Heap} {mc ms : Nat} {D : va_G} {cl : List vw_C} {tys : List (ClassId × FieldType)} {post : Option Value → va_W → Prop}
    (hr : va_Run p l e R s m args below meth c H locs cells slots mc ms (F0 m pc ls st0) rest (gQc D cl tys A1 post a) A1) (hS : va_S A0 H0 H locs) (hA : ∀ q, A1 q → A0 q)
    (kk : ∀ (v : Option Value) (w1 : va_W) (H1 : Heap) (locs1 : List Loc), post v w1 → va_P D cl w1 H1 → va_D A1 w1 → (∀ q : Nat, q < H.size → ¬ A1 q → H1[q]? = H[q]?) → va_S A0 H0 H1 locs1 → W p l e R s m args below meth c H1 locs1 (cells + mc) (slots + ms) Q (F0 m (pc + 3) ls (v.toList ++ rest))) : W p l e R s m args below meth c H locs cells slots Q (F0 m pc ls st0) := by
  intro T hT X
  obtain ⟨v, st₀, t, T', L, h0, X', hL, e1, e2, ⟨⟨v2, w1, hv, hp, hP1, hK1, hD1⟩, hz, hk⟩, st⟩ := hr T hT X
  cases hv
  rw [h0] at hz hk
  obtain ⟨t2, a1, b1⟩ := kk v w1 T'.heap (locs ++ L) hp (by rw [e1]; exact hP1) hD1 (fun q h1 h2 => by rw [e1]; exact hk q h1 h2)
    ⟨Nat.le_trans hS.1 (by rw [e1]; exact hz), fun q h1 h2 => by rw [e1, hk q (Nat.lt_of_lt_of_le h1 hS.1) (fun z => h2 (hA q z))]; exact hS.2.1 q h1 h2, fun q hq => by
      rcases List.mem_append.mp hq with h | h
      · exact hS.2.2 q h
      · exact hA _ (hL q h)⟩ T' rfl X'
  exact ⟨t2, st t2 a1, b1⟩
theorem g_callS {y : MethodName} {bytes : ByteArray} {maxL ix mc1 ms1 : Nat} {ret : Option FieldType} {wy wy' : List Cond} {rm : Room} {post1 : Option Value → va_W → Prop} {As rest : List Value} (nn : Nat) (hg : GoodIn Ts (va_wsS own ix y wy)) (hw : wy = Cond.code y bytes maxL ret :: wy') (hrc : rm.cells = mc1) (hrs : rm.slots = ms1) (hR1 : rm.frames + 1 ≤ R.frames ∧ 8 + (maxL + 11) + rm.locals ≤ R.locals) (hcs : k + mc1 ≤ R.cells ∧ n + ms1 ≤ R.slots) (hst : (rest.map fun v => v.category).sum ≤ 8) (hdn : y.cls ≠ "java/lang/invoke/MethodHandle" ∧ y.cls ≠ "java/lang/invoke/VarHandle" ∧ (parseMethodDescriptor y.desc).map (fun d => d.parameters.length) = some nn) (hn : As.length = nn) (isC isR : List Nat) (wc wr : va_W) (hC : isC.map (fun i => ws[i]?) = wc.map some) (hC2 : isC.filterMap (fun i => ws[i]?) = wc) (hnC : va_nd isC = true) (hR : isR.map (fun i => ws[i]?) = wr.map some) (hnR : va_nd isR = true) (hdis : ∀ i ∈ isR, i ∉ isC) (hd : decode cc pc = .ok (.invokestatic ix, 3)) (hct : Ct Γ.2.1 D cl tys y wy rm mc1 ms1 As wc post1) (hstk : st = As.reverse ++ rest)
    (kk : ∀ (v : Option Value) (w1 : va_W), post1 v w1 → G Γ R cc own Ts nL D cl tys mc ms post (k + mc1) (n + ms1) (wr ++ w1) (pc + 3) lv (v.toList ++ rest)) : G Γ R cc own Ts nL D cl tys mc ms post k n ws pc lv st := by
  intro hok H locs ls hS hl
  subst hstk
  obtain ⟨p, l, e, s, m, args, below, meth, c, Q, A, H0⟩ := Γ
  have hok2 := hok
  obtain ⟨hx, hb, hml, hown, hts, hK, hA, hin, hret⟩ := hok
  have hPc := hS.1.sub (ws' := wc) isC hC2
  have hDc := hS.2.1.sub (ws' := wc) isC hnC hC
  have hFc := va_free (wc := wc) hS.2.1 hS.2.2 hA isC hC
  refine g_back (va_runS (As := As) (rest := rest) ⟨hx, hb, hml, hown, hts⟩ (hct H.size) (va_cwS nn hts hg hw hrc hrs hdn hR1) ⟨fun a U g mk q => by obtain ⟨q0, q1, qP, qK, qD⟩ := q; exact ⟨q0, q1, qP, va_K.moved (u := U) (U := U.calling g mk a) (Vm.Alike.refl U.vm) qK, qD⟩, fun U hU hW => ⟨rfl, by rw [hU], by rw [hU]; exact hPc, va_K.moved hW.alike hK, hDc.weaken (fun _ _ _ _ => trivial)⟩⟩ rfl hn hl.1 rfl (lv_room hst) hd hcs) hS.2.2 hFc (fun v w1 H1 locs1 hp hP1 hD1 hk1 hS1 => ?_)
  obtain ⟨hP2, hD2⟩ := va_join (wr := wr) (w1 := w1) hS.1 hS.2.1 isC isR hC hR hnR hdis hk1 hFc hP1 hD1
  exact kk v w1 hp hok2 H1 locs1 ls ⟨hP2, hD2, hS1⟩ hl
theorem g_callV {y : MethodName} {bytes : ByteArray} {maxL ix mc1 ms1 : Nat} {ret : Option FieldType} {wy wy' : List Cond} {rm : Room} {post1 : Option Value → va_W → Prop} {As rest : List Value} {C : String} {b ci : Nat} {T : u_T} {N : Nat} {fs : List Value} (nn q0 : Nat) (hg : GoodIn Ts (wsV own ix C y wy)) (hw : wy = Cond.code y bytes maxL ret :: wy') (hrc : rm.cells = mc1) (hrs : rm.slots = ms1) (hR1 : rm.frames + 1 ≤ R.frames ∧ 8 + (maxL + 11) + rm.locals ≤ R.locals) (hcs : k + mc1 ≤ R.cells ∧ n + ms1 ≤ R.slots) (hst : (rest.map fun v => v.category).sum ≤ 8) (hdn : y.cls = C ∧ y.cls ≠ "java/lang/invoke/MethodHandle" ∧ y.cls ≠ "java/lang/invoke/VarHandle" ∧ (parseMethodDescriptor y.desc).map (fun d => d.parameters.length) = some nn) (hn : As.length = nn) (he : ws[q0]? = some (b, .inr (ci, fs))) (hc : cl[ci]? = some (C, T, N)) (isC isR : List Nat) (wc wr : va_W) (hC : isC.map (fun i => ws[i]?) = wc.map some) (hC2 : isC.filterMap (fun i => ws[i]?) = wc) (hnC : va_nd isC = true) (hR : isR.map (fun i => ws[i]?) = wr.map some) (hnR : va_nd isR = true) (hdis : ∀ i ∈ isR, i ∉ isC) (hd : decode cc pc = .ok (.invokevirtual ix, 3)) (hct : Ct Γ.2.1 D cl tys y wy rm mc1 ms1 (.ref b :: As) wc post1) (hstk : st = As.reverse ++ .ref b :: rest)
    (kk : ∀ (v : Option Value) (w1 : va_W), post1 v w1 → G Γ R cc own Ts nL D cl tys mc ms post (k + mc1) (n + ms1) (wr ++ w1) (pc + 3) lv (v.toList ++ rest)) : G Γ R cc own Ts nL D cl tys mc ms post k n ws pc lv st := by
  intro hok H locs ls hS hl
  subst hstk
  obtain ⟨p, l, e, s, m, args, below, meth, c, Q, A, H0⟩ := Γ
  have hok2 := hok
  obtain ⟨hx, hb, hml, hown, hts, hK, hA, hin, hret⟩ := hok
  have hPc := hS.1.sub (ws' := wc) isC hC2
  have hDc := hS.2.1.sub (ws' := wc) isC hnC hC
  have hFc := va_free (wc := wc) hS.2.1 hS.2.2 hA isC hC
  refine g_back (va_runV (As := As) (rest := rest) (C := C) ⟨hx, hb, hml, hown, hts⟩ (hct H.size) (cwV nn hts hg hw hrc hrs hdn hR1) ⟨fun a U g mk q => by obtain ⟨q0, q1, qP, qK, qD⟩ := q; exact ⟨q0, q1, qP, va_K.moved (u := U) (U := U.calling g mk a) (Vm.Alike.refl U.vm) qK, qD⟩, va_recv hK hS.1 hc he, fun U hU hW => ⟨rfl, by rw [hU], by rw [hU]; exact hPc, va_K.moved hW.alike hK, hDc.weaken (fun _ _ _ _ => trivial)⟩⟩ rfl hn hl.1 rfl (lv_room hst) hd hcs) hS.2.2 hFc (fun v w1 H1 locs1 hp hP1 hD1 hk1 hS1 => ?_)
  obtain ⟨hP2, hD2⟩ := va_join (wr := wr) (w1 := w1) hS.1 hS.2.1 isC isR hC hR hnR hdis hk1 hFc hP1 hD1
  exact kk v w1 hp hok2 H1 locs1 ls ⟨hP2, hD2, hS1⟩ hl
theorem g_start {l : Launch} {y : MethodName} {wy wy' : List Cond} {rm : Room} {cc : ByteArray} {maxL : Nat} {ret : Option FieldType} {D : va_G} {cl : List vw_C} {tys : List (ClassId × FieldType)} {mc ms : Nat} {av : List Value} {w0 : va_W} {post : Option Value → va_W → Prop}
    (hy : plainName y.cls = true) (hw : wy = Cond.code y cc maxL ret :: wy') (hav : (lg_sl av).length ≤ maxL)
    (hres : ∀ v w1, post v w1 → match v with
      | none => ret = none
      | some (.int x) => ∃ ty, ret = some ty ∧ narrow ty (.int x) = .int x
      | some (.long _) => ret = some .long
      | some (.ref _) => ∃ ty, ret = some ty ∧ ((∃ n, ty = .object n) ∨ ∃ t, ty = .array t)
      | some .null => ∃ ty, ret = some ty ∧ ((∃ n, ty = .object n) ∨ ∃ t, ty = .array t)
      | _ => False)
    (body : ∀ Γ : gT, Γ.2.1 = l → G Γ (headSpec wy rm).room cc y.cls wy maxL D cl tys mc ms post 0 0 w0 0 (lv_args 0 av) []) : Ct l D cl tys y wy rm mc ms av w0 post := by
  intro sz
  refine Met.ofW (cc := cc) (maxL := maxL) (ret := ret) hy hw ?_
  intro p e s m args below meth c s₁ B hml hv
  obtain ⟨rfl, hsz, hP, hK, hD0⟩ := hv
  have hx := B.exec
  have hb := B.bytes
  have hr := B.returns
  have hts := atoms_spec (ws := wy) B.pre
  have hown : s.vm.findClass y.cls = some m.cls := findClass_of_methodNamed B.named
  have hlocks := B.notSynchronized
  subst hsz
  have hD := hD0.self (sz := s.heap.size)
  have hA : ∀ q : Nat, s.heap.size ≤ q → va_A w0 s.heap.size q := fun q h => Or.inr h
  have hl := lv_entry av (n := maxL) hav
  rw [lg_entry_eq]
  have key := body (p, l, e, s, m, av.toArray, below, meth, c, MQ below (gQc D cl tys (va_A w0 s.heap.size) post) av.toArray s mc ms (va_A w0 s.heap.size), va_A w0 s.heap.size, s.heap) rfl
  refine key ⟨hx, hb, hml, hown, hts, hK, hA, Or.inr trivial, ?_⟩ s.heap [] _ ⟨hP, hD, va_S.rf⟩ hl
  intro v ws H locs ls pc hp hP1 hD1 hS1 hrv
  have hq : ∀ t : State, t.heap = H → s.WarmedH t.vm → gQc D cl tys (va_A w0 s.heap.size) post av.toArray s (.returned v) t := fun t ht hW => ⟨⟨v, ws, rfl, hp, by rw [ht]; exact hP1, va_K.moved hW.alike hK, hD1⟩, hS1.F ht⟩
  have h5 := hres v ws hp
  match v, hq, h5, hrv with
  | none, hq, h5, hrv => exact W.vret hx hb (hr.trans h5) hq hS1.2.2 hrv
  | some (.int x), hq, ⟨ty, h5, h6⟩, hrv => exact W.zret hx hb (hr.trans h5) h6 hq hS1.2.2 hrv
  | some (.long x), hq, h5, hrv => exact W.lret hx hb (hr.trans h5) hq hS1.2.2 hrv
  | some (.ref x), hq, ⟨ty, h5, h6⟩, hrv => exact W.aret hx hb (hr.trans h5) h6 (Or.inr ⟨x, rfl⟩) hq hS1.2.2 hrv
  | some .null, hq, ⟨ty, h5, h6⟩, hrv => exact W.aret hx hb (hr.trans h5) h6 (Or.inl rfl) hq hS1.2.2 hrv
  | some (.float x), hq, h5, hrv => exact absurd h5 id
  | some (.double x), hq, h5, hrv => exact absurd h5 id
end GLAYER
end

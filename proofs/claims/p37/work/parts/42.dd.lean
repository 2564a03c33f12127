theorem dX8_clear_73 : decode cX8_clear 73 = .ok (.aload_n 0, 1) := by decide +kernel
theorem dX8_clear_74 : decode cX8_clear 74 = .ok (.getfield 42, 3) := by decide +kernel
theorem dX8_clear_77 : decode cX8_clear 77 = .ok (.invokevirtual 261, 3) := by decide +kernel
theorem dX8_clear_80 : decode cX8_clear 80 = .ok (.lreturn, 1) := by decide +kernel
set_option maxRecDepth 20000 in
theorem ggX8_coin_X6_isKind : GoodIn wsX8_coin wsX6_isKind := goodIn_r _ [5] rfl (by decide +kernel)
set_option maxRecDepth 20000 in
theorem gX8_coin_X6_isKind : GoodIn wsX8_coin (va_wsS RX8 265 yX6_isKind wsX6_isKind) := goodIn_app (goodIn_of _ (by decide +kernel)) ggX8_coin_X6_isKind
set_option maxRecDepth 20000 in
theorem ggX8_coin_X6_isMeasure : GoodIn wsX8_coin wsX6_isMeasure := goodIn_r _ [8] rfl (by decide +kernel)
set_option maxRecDepth 20000 in
theorem gX8_coin_X6_isMeasure : GoodIn wsX8_coin (va_wsS RX8 268 yX6_isMeasure wsX6_isMeasure) := goodIn_app (goodIn_of _ (by decide +kernel)) ggX8_coin_X6_isMeasure
set_option maxRecDepth 20000 in
theorem ggX8_coin_X8_finding : GoodIn wsX8_coin wsX8_finding := goodIn_r _ [13, 14, 15, 25, 26, 27, 28, 29, 30, 31, 32, 33, 34, 35, 36, 37, 38, 39, 40, 41, 42] rfl (by decide +kernel)
set_option maxRecDepth 20000 in
theorem gX8_coin_X8_finding : GoodIn wsX8_coin (wsV RX8 88 RX8 yX8_finding wsX8_finding) := goodIn_app (goodIn_of _ (by decide +kernel)) ggX8_coin_X8_finding
set_option maxRecDepth 20000 in
theorem ggX8_coin_X6_mint : GoodIn wsX8_coin wsX6_mint := goodIn_r _ [19, 20, 43, 44] rfl (by decide +kernel)
set_option maxRecDepth 20000 in
theorem gX8_coin_X6_mint : GoodIn wsX8_coin (wsV RX8 271 RX6 yX6_mint wsX6_mint) := goodIn_app (goodIn_of _ (by decide +kernel)) ggX8_coin_X6_mint
set_option maxRecDepth 20000 in
theorem ggX8_coin_X6_worth : GoodIn wsX8_coin wsX6_worth := goodIn_r _ [24, 20, 43, 44] rfl (by decide +kernel)
set_option maxRecDepth 20000 in
theorem gX8_coin_X6_worth : GoodIn wsX8_coin (wsV RX8 275 RX6 yX6_worth wsX6_worth) := goodIn_app (goodIn_of _ (by decide +kernel)) ggX8_coin_X6_worth
theorem dX8_coin_0 : decode cX8_coin 0 = .ok (.iload_n 1, 1) := by decide +kernel
theorem dX8_coin_1 : decode cX8_coin 1 = .ok (.invokestatic 265, 3) := by decide +kernel
theorem dX8_coin_4 : decode cX8_coin 4 = .ok (.ifCond .eq 17, 3) := by decide +kernel
theorem dX8_coin_7 : decode cX8_coin 7 = .ok (.iload_n 2, 1) := by decide +kernel
theorem dX8_coin_8 : decode cX8_coin 8 = .ok (.invokestatic 268, 3) := by decide +kernel
theorem dX8_coin_11 : decode cX8_coin 11 = .ok (.ifCond .eq 10, 3) := by decide +kernel
theorem dX8_coin_14 : decode cX8_coin 14 = .ok (.iload_n 3, 1) := by decide +kernel
theorem dX8_coin_15 : decode cX8_coin 15 = .ok (.invokestatic 268, 3) := by decide +kernel
theorem dX8_coin_18 : decode cX8_coin 18 = .ok (.ifCond .ne 9, 3) := by decide +kernel
theorem dX8_coin_21 : decode cX8_coin 21 = .ok (.aload_n 0, 1) := by decide +kernel
theorem dX8_coin_22 : decode cX8_coin 22 = .ok (.iconst 1, 1) := by decide +kernel
theorem dX8_coin_23 : decode cX8_coin 23 = .ok (.invokevirtual 88, 3) := by decide +kernel
theorem dX8_coin_26 : decode cX8_coin 26 = .ok (.lreturn, 1) := by decide +kernel
theorem dX8_coin_27 : decode cX8_coin 27 = .ok (.aload_n 0, 1) := by decide +kernel
theorem dX8_coin_28 : decode cX8_coin 28 = .ok (.getfield 56, 3) := by decide +kernel
theorem dX8_coin_31 : decode cX8_coin 31 = .ok (.iload_n 1, 1) := by decide +kernel
theorem dX8_coin_32 : decode cX8_coin 32 = .ok (.iload_n 2, 1) := by decide +kernel
theorem dX8_coin_33 : decode cX8_coin 33 = .ok (.iload_n 3, 1) := by decide +kernel
theorem dX8_coin_34 : decode cX8_coin 34 = .ok (.invokevirtual 271, 3) := by decide +kernel
theorem dX8_coin_37 : decode cX8_coin 37 = .ok (.aload_n 0, 1) := by decide +kernel
theorem dX8_coin_38 : decode cX8_coin 38 = .ok (.getfield 56, 3) := by decide +kernel
theorem dX8_coin_41 : decode cX8_coin 41 = .ok (.iload_n 1, 1) := by decide +kernel
theorem dX8_coin_42 : decode cX8_coin 42 = .ok (.invokevirtual 275, 3) := by decide +kernel
theorem dX8_coin_45 : decode cX8_coin 45 = .ok (.i2l, 1) := by decide +kernel
theorem dX8_coin_46 : decode cX8_coin 46 = .ok (.lreturn, 1) := by decide +kernel
set_option maxRecDepth 20000 in
theorem ggX8_purse_X8_isHouse : GoodIn wsX8_purse wsX8_isHouse := goodIn_r _ [5] rfl (by decide +kernel)
set_option maxRecDepth 20000 in
theorem gX8_purse_X8_isHouse : GoodIn wsX8_purse (va_wsS RX8 106 yX8_isHouse wsX8_isHouse) := goodIn_app (goodIn_of _ (by decide +kernel)) ggX8_purse_X8_isHouse
set_option maxRecDepth 20000 in
theorem ggX8_purse_X6_isKind : GoodIn wsX8_purse wsX6_isKind := goodIn_r _ [9] rfl (by decide +kernel)
set_option maxRecDepth 20000 in
theorem gX8_purse_X6_isKind : GoodIn wsX8_purse (va_wsS RX8 265 yX6_isKind wsX6_isKind) := goodIn_app (goodIn_of _ (by decide +kernel)) ggX8_purse_X6_isKind
set_option maxRecDepth 20000 in
theorem ggX8_purse_X6_isMeasure : GoodIn wsX8_purse wsX6_isMeasure := goodIn_r _ [12] rfl (by decide +kernel)
set_option maxRecDepth 20000 in
theorem gX8_purse_X6_isMeasure : GoodIn wsX8_purse (va_wsS RX8 268 yX6_isMeasure wsX6_isMeasure) := goodIn_app (goodIn_of _ (by decide +kernel)) ggX8_purse_X6_isMeasure
set_option maxRecDepth 20000 in
theorem ggX8_purse_X8_finding : GoodIn wsX8_purse wsX8_finding := goodIn_r _ [16, 17, 18, 28, 29, 30, 31, 32, 33, 34, 35, 36, 37, 38, 39, 40, 41, 42, 43, 44, 45] rfl (by decide +kernel)
set_option maxRecDepth 20000 in
theorem gX8_purse_X8_finding : GoodIn wsX8_purse (wsV RX8 88 RX8 yX8_finding wsX8_finding) := goodIn_app (goodIn_of _ (by decide +kernel)) ggX8_purse_X8_finding
set_option maxRecDepth 20000 in
theorem ggX8_purse_X6_held : GoodIn wsX8_purse wsX6_held := goodIn_r _ [22, 23, 46, 47] rfl (by decide +kernel)
set_option maxRecDepth 20000 in
theorem gX8_purse_X6_held : GoodIn wsX8_purse (wsV RX8 278 RX6 yX6_held wsX6_held) := goodIn_app (goodIn_of _ (by decide +kernel)) ggX8_purse_X6_held
set_option maxRecDepth 20000 in
theorem ggX8_purse_X6_put : GoodIn wsX8_purse wsX6_put := goodIn_r _ [27, 23, 46, 47] rfl (by decide +kernel)
set_option maxRecDepth 20000 in
theorem gX8_purse_X6_put : GoodIn wsX8_purse (wsV RX8 282 RX6 yX6_put wsX6_put) := goodIn_app (goodIn_of _ (by decide +kernel)) ggX8_purse_X6_put
theorem dX8_purse_0 : decode cX8_purse 0 = .ok (.iload_n 1, 1) := by decide +kernel
theorem dX8_purse_1 : decode cX8_purse 1 = .ok (.invokestatic 106, 3) := by decide +kernel
theorem dX8_purse_4 : decode cX8_purse 4 = .ok (.ifCond .eq 17, 3) := by decide +kernel
theorem dX8_purse_7 : decode cX8_purse 7 = .ok (.iload_n 2, 1) := by decide +kernel
theorem dX8_purse_8 : decode cX8_purse 8 = .ok (.invokestatic 265, 3) := by decide +kernel
theorem dX8_purse_11 : decode cX8_purse 11 = .ok (.ifCond .eq 10, 3) := by decide +kernel
theorem dX8_purse_14 : decode cX8_purse 14 = .ok (.iload_n 3, 1) := by decide +kernel
theorem dX8_purse_15 : decode cX8_purse 15 = .ok (.invokestatic 268, 3) := by decide +kernel
theorem dX8_purse_18 : decode cX8_purse 18 = .ok (.ifCond .ne 9, 3) := by decide +kernel
theorem dX8_purse_21 : decode cX8_purse 21 = .ok (.aload_n 0, 1) := by decide +kernel
theorem dX8_purse_22 : decode cX8_purse 22 = .ok (.iconst 1, 1) := by decide +kernel
theorem dX8_purse_23 : decode cX8_purse 23 = .ok (.invokevirtual 88, 3) := by decide +kernel
theorem dX8_purse_26 : decode cX8_purse 26 = .ok (.lreturn, 1) := by decide +kernel
theorem dX8_purse_27 : decode cX8_purse 27 = .ok (.aload_n 0, 1) := by decide +kernel
theorem dX8_purse_28 : decode cX8_purse 28 = .ok (.getfield 56, 3) := by decide +kernel
theorem dX8_purse_31 : decode cX8_purse 31 = .ok (.iload_n 1, 1) := by decide +kernel
theorem dX8_purse_32 : decode cX8_purse 32 = .ok (.iload_n 2, 1) := by decide +kernel
theorem dX8_purse_33 : decode cX8_purse 33 = .ok (.invokevirtual 278, 3) := by decide +kernel
theorem dX8_purse_36 : decode cX8_purse 36 = .ok (.istore 4, 2) := by decide +kernel
theorem dX8_purse_38 : decode cX8_purse 38 = .ok (.aload_n 0, 1) := by decide +kernel
theorem dX8_purse_39 : decode cX8_purse 39 = .ok (.getfield 56, 3) := by decide +kernel
theorem dX8_purse_42 : decode cX8_purse 42 = .ok (.iload_n 1, 1) := by decide +kernel
theorem dX8_purse_43 : decode cX8_purse 43 = .ok (.iload_n 2, 1) := by decide +kernel
theorem dX8_purse_44 : decode cX8_purse 44 = .ok (.iload_n 3, 1) := by decide +kernel
theorem dX8_purse_45 : decode cX8_purse 45 = .ok (.invokevirtual 282, 3) := by decide +kernel
theorem dX8_purse_48 : decode cX8_purse 48 = .ok (.iload 4, 2) := by decide +kernel
theorem dX8_purse_50 : decode cX8_purse 50 = .ok (.i2l, 1) := by decide +kernel
theorem dX8_purse_51 : decode cX8_purse 51 = .ok (.lreturn, 1) := by decide +kernel
set_option maxRecDepth 20000 in
theorem ggX8_has_X8_isHouse : GoodIn wsX8_has wsX8_isHouse := goodIn_r _ [5] rfl (by decide +kernel)
set_option maxRecDepth 20000 in
theorem gX8_has_X8_isHouse : GoodIn wsX8_has (va_wsS RX8 106 yX8_isHouse wsX8_isHouse) := goodIn_app (goodIn_of _ (by decide +kernel)) ggX8_has_X8_isHouse
set_option maxRecDepth 20000 in
theorem ggX8_has_X6_isKind : GoodIn wsX8_has wsX6_isKind := goodIn_r _ [9] rfl (by decide +kernel)
set_option maxRecDepth 20000 in
theorem gX8_has_X6_isKind : GoodIn wsX8_has (va_wsS RX8 265 yX6_isKind wsX6_isKind) := goodIn_app (goodIn_of _ (by decide +kernel)) ggX8_has_X6_isKind
set_option maxRecDepth 20000 in
theorem ggX8_has_X8_finding : GoodIn wsX8_has wsX8_finding := goodIn_r _ [13, 14, 15, 26, 27, 28, 29, 30, 31, 32, 33, 34, 35, 36, 37, 38, 39, 40, 41, 42, 43] rfl (by decide +kernel)
set_option maxRecDepth 20000 in
theorem gX8_has_X8_finding : GoodIn wsX8_has (wsV RX8 88 RX8 yX8_finding wsX8_finding) := goodIn_app (goodIn_of _ (by decide +kernel)) ggX8_has_X8_finding
set_option maxRecDepth 20000 in
theorem ggX8_has_X6_wealth : GoodIn wsX8_has wsX6_wealth := goodIn_r _ [19, 20, 21, 44, 45] rfl (by decide +kernel)
set_option maxRecDepth 20000 in
theorem gX8_has_X6_wealth : GoodIn wsX8_has (wsV RX8 285 RX6 yX6_wealth wsX6_wealth) := goodIn_app (goodIn_of _ (by decide +kernel)) ggX8_has_X6_wealth
set_option maxRecDepth 20000 in
theorem ggX8_has_X6_held : GoodIn wsX8_has wsX6_held := goodIn_r _ [25, 20, 44, 45] rfl (by decide +kernel)
set_option maxRecDepth 20000 in
theorem gX8_has_X6_held : GoodIn wsX8_has (wsV RX8 278 RX6 yX6_held wsX6_held) := goodIn_app (goodIn_of _ (by decide +kernel)) ggX8_has_X6_held
theorem dX8_has_0 : decode cX8_has 0 = .ok (.iload_n 1, 1) := by decide +kernel
theorem dX8_has_1 : decode cX8_has 1 = .ok (.invokestatic 106, 3) := by decide +kernel
theorem dX8_has_4 : decode cX8_has 4 = .ok (.ifCond .eq 15, 3) := by decide +kernel
theorem dX8_has_7 : decode cX8_has 7 = .ok (.iload_n 2, 1) := by decide +kernel
theorem dX8_has_8 : decode cX8_has 8 = .ok (.iconst (-1), 1) := by decide +kernel
theorem dX8_has_9 : decode cX8_has 9 = .ok (.if_icmp .eq 16, 3) := by decide +kernel
theorem dX8_has_12 : decode cX8_has 12 = .ok (.iload_n 2, 1) := by decide +kernel
theorem dX8_has_13 : decode cX8_has 13 = .ok (.invokestatic 265, 3) := by decide +kernel
theorem dX8_has_16 : decode cX8_has 16 = .ok (.ifCond .ne 9, 3) := by decide +kernel
theorem dX8_has_19 : decode cX8_has 19 = .ok (.aload_n 0, 1) := by decide +kernel
theorem dX8_has_20 : decode cX8_has 20 = .ok (.iconst 1, 1) := by decide +kernel
theorem dX8_has_21 : decode cX8_has 21 = .ok (.invokevirtual 88, 3) := by decide +kernel
theorem dX8_has_24 : decode cX8_has 24 = .ok (.lreturn, 1) := by decide +kernel
theorem dX8_has_25 : decode cX8_has 25 = .ok (.iload_n 2, 1) := by decide +kernel
theorem dX8_has_26 : decode cX8_has 26 = .ok (.iconst (-1), 1) := by decide +kernel
theorem dX8_has_27 : decode cX8_has 27 = .ok (.if_icmp .ne 14, 3) := by decide +kernel
theorem dX8_has_30 : decode cX8_has 30 = .ok (.aload_n 0, 1) := by decide +kernel
theorem dX8_has_31 : decode cX8_has 31 = .ok (.getfield 56, 3) := by decide +kernel
theorem dX8_has_34 : decode cX8_has 34 = .ok (.iload_n 1, 1) := by decide +kernel
theorem dX8_has_35 : decode cX8_has 35 = .ok (.invokevirtual 285, 3) := by decide +kernel
theorem dX8_has_38 : decode cX8_has 38 = .ok (.goto 13, 3) := by decide +kernel
theorem dX8_has_41 : decode cX8_has 41 = .ok (.aload_n 0, 1) := by decide +kernel
theorem dX8_has_42 : decode cX8_has 42 = .ok (.getfield 56, 3) := by decide +kernel
theorem dX8_has_45 : decode cX8_has 45 = .ok (.iload_n 1, 1) := by decide +kernel
theorem dX8_has_46 : decode cX8_has 46 = .ok (.iload_n 2, 1) := by decide +kernel
theorem dX8_has_47 : decode cX8_has 47 = .ok (.invokevirtual 278, 3) := by decide +kernel
theorem dX8_has_50 : decode cX8_has 50 = .ok (.i2l, 1) := by decide +kernel
theorem dX8_has_51 : decode cX8_has 51 = .ok (.lreturn, 1) := by decide +kernel
set_option maxRecDepth 20000 in
theorem ggX8_settle_X8_areTwoHouses : GoodIn wsX8_settle wsX8_areTwoHouses := goodIn_r _ [6, 7, 8, 5, 9] rfl (by decide +kernel)
set_option maxRecDepth 20000 in
theorem gX8_settle_X8_areTwoHouses : GoodIn wsX8_settle (va_wsS RX8 224 yX8_areTwoHouses wsX8_areTwoHouses) := goodIn_app (goodIn_of _ (by decide +kernel)) ggX8_settle_X8_areTwoHouses
set_option maxRecDepth 20000 in
theorem ggX8_settle_X8_finding : GoodIn wsX8_settle wsX8_finding := goodIn_r _ [13, 14, 15, 45, 46, 47, 48, 49, 50, 51, 52, 53, 54, 55, 56, 57, 58, 59, 60, 61, 62] rfl (by decide +kernel)
set_option maxRecDepth 20000 in
theorem gX8_settle_X8_finding : GoodIn wsX8_settle (wsV RX8 88 RX8 yX8_finding wsX8_finding) := goodIn_app (goodIn_of _ (by decide +kernel)) ggX8_settle_X8_finding
set_option maxRecDepth 20000 in
theorem ggX8_settle_X1_debt : GoodIn wsX8_settle wsX1_debt := goodIn_r _ [20, 21, 63, 64] rfl (by decide +kernel)
set_option maxRecDepth 20000 in
theorem gX8_settle_X1_debt : GoodIn wsX8_settle (wsV RX8 235 RX1 yX1_debt wsX1_debt) := goodIn_app (goodIn_of _ (by decide +kernel)) ggX8_settle_X1_debt
set_option maxRecDepth 20000 in
theorem ggX8_settle_X6_handOver : GoodIn wsX8_settle wsX6_handOver := goodIn_r _ [26, 27, 28, 29, 30, 31, 32, 33, 34, 35, 36, 37, 38, 25, 39, 65, 66] rfl (by decide +kernel)
set_option maxRecDepth 20000 in
theorem gX8_settle_X6_handOver : GoodIn wsX8_settle (wsV RX8 288 RX6 yX6_handOver wsX6_handOver) := goodIn_app (goodIn_of _ (by decide +kernel)) ggX8_settle_X6_handOver
set_option maxRecDepth 20000 in
theorem ggX8_settle_X1_lessen : GoodIn wsX8_settle wsX1_lessen := goodIn_r _ [43, 21, 44, 63, 64] rfl (by decide +kernel)
set_option maxRecDepth 20000 in
theorem gX8_settle_X1_lessen : GoodIn wsX8_settle (wsV RX8 292 RX1 yX1_lessen wsX1_lessen) := goodIn_app (goodIn_of _ (by decide +kernel)) ggX8_settle_X1_lessen
theorem dX8_settle_0 : decode cX8_settle 0 = .ok (.iload_n 1, 1) := by decide +kernel
theorem dX8_settle_1 : decode cX8_settle 1 = .ok (.iload_n 2, 1) := by decide +kernel
theorem dX8_settle_2 : decode cX8_settle 2 = .ok (.invokestatic 224, 3) := by decide +kernel
theorem dX8_settle_5 : decode cX8_settle 5 = .ok (.ifCond .ne 9, 3) := by decide +kernel
theorem dX8_settle_8 : decode cX8_settle 8 = .ok (.aload_n 0, 1) := by decide +kernel
theorem dX8_settle_9 : decode cX8_settle 9 = .ok (.iconst 1, 1) := by decide +kernel
theorem dX8_settle_10 : decode cX8_settle 10 = .ok (.invokevirtual 88, 3) := by decide +kernel
theorem dX8_settle_13 : decode cX8_settle 13 = .ok (.lreturn, 1) := by decide +kernel
theorem dX8_settle_14 : decode cX8_settle 14 = .ok (.aload_n 0, 1) := by decide +kernel
theorem dX8_settle_15 : decode cX8_settle 15 = .ok (.getfield 42, 3) := by decide +kernel
theorem dX8_settle_18 : decode cX8_settle 18 = .ok (.iload_n 1, 1) := by decide +kernel
theorem dX8_settle_19 : decode cX8_settle 19 = .ok (.iload_n 2, 1) := by decide +kernel
theorem dX8_settle_20 : decode cX8_settle 20 = .ok (.invokevirtual 235, 3) := by decide +kernel
theorem dX8_settle_23 : decode cX8_settle 23 = .ok (.lstore_n 3, 1) := by decide +kernel
theorem dX8_settle_24 : decode cX8_settle 24 = .ok (.lload_n 3, 1) := by decide +kernel
theorem dX8_settle_25 : decode cX8_settle 25 = .ok (.lconst 0, 1) := by decide +kernel
theorem dX8_settle_26 : decode cX8_settle 26 = .ok (.lcmp, 1) := by decide +kernel
theorem dX8_settle_27 : decode cX8_settle 27 = .ok (.ifCond .ne 9, 3) := by decide +kernel
theorem dX8_settle_30 : decode cX8_settle 30 = .ok (.aload_n 0, 1) := by decide +kernel
theorem dX8_settle_31 : decode cX8_settle 31 = .ok (.iconst 2, 1) := by decide +kernel
theorem dX8_settle_32 : decode cX8_settle 32 = .ok (.invokevirtual 88, 3) := by decide +kernel
theorem dX8_settle_35 : decode cX8_settle 35 = .ok (.lreturn, 1) := by decide +kernel
theorem dX8_settle_36 : decode cX8_settle 36 = .ok (.aload_n 0, 1) := by decide +kernel
theorem dX8_settle_37 : decode cX8_settle 37 = .ok (.getfield 56, 3) := by decide +kernel
theorem dX8_settle_40 : decode cX8_settle 40 = .ok (.iload_n 1, 1) := by decide +kernel
theorem dX8_settle_41 : decode cX8_settle 41 = .ok (.iload_n 2, 1) := by decide +kernel
theorem dX8_settle_42 : decode cX8_settle 42 = .ok (.lload_n 3, 1) := by decide +kernel
theorem dX8_settle_43 : decode cX8_settle 43 = .ok (.invokevirtual 288, 3) := by decide +kernel
theorem dX8_settle_46 : decode cX8_settle 46 = .ok (.lstore 5, 2) := by decide +kernel
theorem dX8_settle_48 : decode cX8_settle 48 = .ok (.aload_n 0, 1) := by decide +kernel
theorem dX8_settle_49 : decode cX8_settle 49 = .ok (.getfield 42, 3) := by decide +kernel
theorem dX8_settle_52 : decode cX8_settle 52 = .ok (.iload_n 1, 1) := by decide +kernel
theorem dX8_settle_53 : decode cX8_settle 53 = .ok (.iload_n 2, 1) := by decide +kernel
theorem dX8_settle_54 : decode cX8_settle 54 = .ok (.lload_n 3, 1) := by decide +kernel
theorem dX8_settle_55 : decode cX8_settle 55 = .ok (.lload 5, 2) := by decide +kernel
theorem dX8_settle_57 : decode cX8_settle 57 = .ok (.lsub, 1) := by decide +kernel
theorem dX8_settle_58 : decode cX8_settle 58 = .ok (.invokevirtual 292, 3) := by decide +kernel
theorem dX8_settle_61 : decode cX8_settle 61 = .ok (.lload 5, 2) := by decide +kernel
theorem dX8_settle_63 : decode cX8_settle 63 = .ok (.lreturn, 1) := by decide +kernel
set_option maxRecDepth 20000 in
theorem ggX8_vote_X8_isHouse : GoodIn wsX8_vote wsX8_isHouse := goodIn_r _ [5] rfl (by decide +kernel)
set_option maxRecDepth 20000 in
theorem gX8_vote_X8_isHouse : GoodIn wsX8_vote (va_wsS RX8 106 yX8_isHouse wsX8_isHouse) := goodIn_app (goodIn_of _ (by decide +kernel)) ggX8_vote_X8_isHouse
set_option maxRecDepth 20000 in
theorem ggX8_vote_X8_isTown : GoodIn wsX8_vote wsX8_isTown := goodIn_r _ [8] rfl (by decide +kernel)
set_option maxRecDepth 20000 in
theorem gX8_vote_X8_isTown : GoodIn wsX8_vote (va_wsS RX8 103 yX8_isTown wsX8_isTown) := goodIn_app (goodIn_of _ (by decide +kernel)) ggX8_vote_X8_isTown
set_option maxRecDepth 20000 in
theorem ggX8_vote_X7_isVote : GoodIn wsX8_vote wsX7_isVote := goodIn_r _ [12] rfl (by decide +kernel)
set_option maxRecDepth 20000 in
theorem gX8_vote_X7_isVote : GoodIn wsX8_vote (va_wsS RX8 295 yX7_isVote wsX7_isVote) := goodIn_app (goodIn_of _ (by decide +kernel)) ggX8_vote_X7_isVote
set_option maxRecDepth 20000 in
theorem ggX8_vote_X8_finding : GoodIn wsX8_vote wsX8_finding := goodIn_r _ [16, 17, 18, 24, 25, 26, 27, 28, 29, 30, 31, 32, 33, 34, 35, 36, 37, 38, 39, 40, 41] rfl (by decide +kernel)
set_option maxRecDepth 20000 in
theorem gX8_vote_X8_finding : GoodIn wsX8_vote (wsV RX8 88 RX8 yX8_finding wsX8_finding) := goodIn_app (goodIn_of _ (by decide +kernel)) ggX8_vote_X8_finding
set_option maxRecDepth 20000 in
theorem ggX8_vote_X7_changeVote : GoodIn wsX8_vote wsX7_changeVote := goodIn_r _ [22, 23, 42, 43, 44] rfl (by decide +kernel)
set_option maxRecDepth 20000 in
theorem gX8_vote_X7_changeVote : GoodIn wsX8_vote (wsV RX8 298 RX7 yX7_changeVote wsX7_changeVote) := goodIn_app (goodIn_of _ (by decide +kernel)) ggX8_vote_X7_changeVote
theorem dX8_vote_0 : decode cX8_vote 0 = .ok (.iload_n 1, 1) := by decide +kernel
theorem dX8_vote_1 : decode cX8_vote 1 = .ok (.invokestatic 106, 3) := by decide +kernel
theorem dX8_vote_4 : decode cX8_vote 4 = .ok (.ifCond .eq 17, 3) := by decide +kernel
theorem dX8_vote_7 : decode cX8_vote 7 = .ok (.iload_n 2, 1) := by decide +kernel
theorem dX8_vote_8 : decode cX8_vote 8 = .ok (.invokestatic 103, 3) := by decide +kernel
theorem dX8_vote_11 : decode cX8_vote 11 = .ok (.ifCond .eq 10, 3) := by decide +kernel
theorem dX8_vote_14 : decode cX8_vote 14 = .ok (.iload_n 3, 1) := by decide +kernel
theorem dX8_vote_15 : decode cX8_vote 15 = .ok (.invokestatic 295, 3) := by decide +kernel
theorem dX8_vote_18 : decode cX8_vote 18 = .ok (.ifCond .ne 9, 3) := by decide +kernel
theorem dX8_vote_21 : decode cX8_vote 21 = .ok (.aload_n 0, 1) := by decide +kernel
theorem dX8_vote_22 : decode cX8_vote 22 = .ok (.iconst 1, 1) := by decide +kernel
theorem dX8_vote_23 : decode cX8_vote 23 = .ok (.invokevirtual 88, 3) := by decide +kernel
theorem dX8_vote_26 : decode cX8_vote 26 = .ok (.lreturn, 1) := by decide +kernel
theorem dX8_vote_27 : decode cX8_vote 27 = .ok (.aload_n 0, 1) := by decide +kernel
theorem dX8_vote_28 : decode cX8_vote 28 = .ok (.getfield 63, 3) := by decide +kernel
theorem dX8_vote_31 : decode cX8_vote 31 = .ok (.iload_n 1, 1) := by decide +kernel
theorem dX8_vote_32 : decode cX8_vote 32 = .ok (.iload_n 2, 1) := by decide +kernel
theorem dX8_vote_33 : decode cX8_vote 33 = .ok (.iload_n 3, 1) := by decide +kernel
theorem dX8_vote_34 : decode cX8_vote 34 = .ok (.invokevirtual 298, 3) := by decide +kernel
theorem dX8_vote_37 : decode cX8_vote 37 = .ok (.i2l, 1) := by decide +kernel
theorem dX8_vote_38 : decode cX8_vote 38 = .ok (.lreturn, 1) := by decide +kernel
set_option maxRecDepth 20000 in
theorem ggX8_rate_X8_isTown : GoodIn wsX8_rate wsX8_isTown := goodIn_r _ [5] rfl (by decide +kernel)
set_option maxRecDepth 20000 in
theorem gX8_rate_X8_isTown : GoodIn wsX8_rate (va_wsS RX8 103 yX8_isTown wsX8_isTown) := goodIn_app (goodIn_of _ (by decide +kernel)) ggX8_rate_X8_isTown
set_option maxRecDepth 20000 in
theorem ggX8_rate_X8_finding : GoodIn wsX8_rate wsX8_finding := goodIn_r _ [9, 10, 11, 23, 24, 25, 26, 27, 28, 29, 30, 31, 32, 33, 34, 35, 36, 37, 38, 39, 40] rfl (by decide +kernel)
set_option maxRecDepth 20000 in
theorem gX8_rate_X8_finding : GoodIn wsX8_rate (wsV RX8 88 RX8 yX8_finding wsX8_finding) := goodIn_app (goodIn_of _ (by decide +kernel)) ggX8_rate_X8_finding
set_option maxRecDepth 20000 in
theorem ggX8_rate_X7_middleVote : GoodIn wsX8_rate wsX7_middleVote := goodIn_r _ [16, 17, 18, 19, 20, 21, 15, 22, 41, 42, 43] rfl (by decide +kernel)
set_option maxRecDepth 20000 in
theorem gX8_rate_X7_middleVote : GoodIn wsX8_rate (wsV RX8 302 RX7 yX7_middleVote wsX7_middleVote) := goodIn_app (goodIn_of _ (by decide +kernel)) ggX8_rate_X7_middleVote
theorem dX8_rate_0 : decode cX8_rate 0 = .ok (.iload_n 1, 1) := by decide +kernel
theorem dX8_rate_1 : decode cX8_rate 1 = .ok (.invokestatic 103, 3) := by decide +kernel
theorem dX8_rate_4 : decode cX8_rate 4 = .ok (.ifCond .ne 9, 3) := by decide +kernel
theorem dX8_rate_7 : decode cX8_rate 7 = .ok (.aload_n 0, 1) := by decide +kernel
theorem dX8_rate_8 : decode cX8_rate 8 = .ok (.iconst 1, 1) := by decide +kernel
theorem dX8_rate_9 : decode cX8_rate 9 = .ok (.invokevirtual 88, 3) := by decide +kernel
theorem dX8_rate_12 : decode cX8_rate 12 = .ok (.lreturn, 1) := by decide +kernel
theorem dX8_rate_13 : decode cX8_rate 13 = .ok (.aload_n 0, 1) := by decide +kernel
theorem dX8_rate_14 : decode cX8_rate 14 = .ok (.getfield 63, 3) := by decide +kernel
theorem dX8_rate_17 : decode cX8_rate 17 = .ok (.iload_n 1, 1) := by decide +kernel
theorem dX8_rate_18 : decode cX8_rate 18 = .ok (.invokevirtual 302, 3) := by decide +kernel
theorem dX8_rate_21 : decode cX8_rate 21 = .ok (.istore_n 2, 1) := by decide +kernel
theorem dX8_rate_22 : decode cX8_rate 22 = .ok (.iload_n 2, 1) := by decide +kernel
theorem dX8_rate_23 : decode cX8_rate 23 = .ok (.ifCond .ne 11, 3) := by decide +kernel
theorem dX8_rate_26 : decode cX8_rate 26 = .ok (.aload_n 0, 1) := by decide +kernel
theorem dX8_rate_27 : decode cX8_rate 27 = .ok (.iconst 2, 1) := by decide +kernel
theorem dX8_rate_28 : decode cX8_rate 28 = .ok (.invokevirtual 88, 3) := by decide +kernel
theorem dX8_rate_31 : decode cX8_rate 31 = .ok (.goto 5, 3) := by decide +kernel
theorem dX8_rate_34 : decode cX8_rate 34 = .ok (.iload_n 2, 1) := by decide +kernel
theorem dX8_rate_35 : decode cX8_rate 35 = .ok (.i2l, 1) := by decide +kernel
theorem dX8_rate_36 : decode cX8_rate 36 = .ok (.lreturn, 1) := by decide +kernel
set_option maxRecDepth 20000 in
theorem ggX8_offer_X8_isTown : GoodIn wsX8_offer wsX8_isTown := goodIn_r _ [5] rfl (by decide +kernel)
set_option maxRecDepth 20000 in
theorem gX8_offer_X8_isTown : GoodIn wsX8_offer (va_wsS RX8 103 yX8_isTown wsX8_isTown) := goodIn_app (goodIn_of _ (by decide +kernel)) ggX8_offer_X8_isTown
set_option maxRecDepth 20000 in
theorem ggX8_offer_X7_isOffer : GoodIn wsX8_offer wsX7_isOffer := goodIn_r _ [9] rfl (by decide +kernel)
set_option maxRecDepth 20000 in
theorem gX8_offer_X7_isOffer : GoodIn wsX8_offer (va_wsS RX8 305 yX7_isOffer wsX7_isOffer) := goodIn_app (goodIn_of _ (by decide +kernel)) ggX8_offer_X7_isOffer
set_option maxRecDepth 20000 in
theorem ggX8_offer_X8_finding : GoodIn wsX8_offer wsX8_finding := goodIn_r _ [13, 14, 15, 21, 22, 23, 24, 25, 26, 27, 28, 29, 30, 31, 32, 33, 34, 35, 36, 37, 38] rfl (by decide +kernel)
set_option maxRecDepth 20000 in
theorem gX8_offer_X8_finding : GoodIn wsX8_offer (wsV RX8 88 RX8 yX8_finding wsX8_finding) := goodIn_app (goodIn_of _ (by decide +kernel)) ggX8_offer_X8_finding
set_option maxRecDepth 20000 in
theorem ggX8_offer_X7_changeOffer : GoodIn wsX8_offer wsX7_changeOffer := goodIn_r _ [19, 20, 39, 40, 41] rfl (by decide +kernel)
set_option maxRecDepth 20000 in
theorem gX8_offer_X7_changeOffer : GoodIn wsX8_offer (wsV RX8 308 RX7 yX7_changeOffer wsX7_changeOffer) := goodIn_app (goodIn_of _ (by decide +kernel)) ggX8_offer_X7_changeOffer
theorem dX8_offer_0 : decode cX8_offer 0 = .ok (.iload_n 1, 1) := by decide +kernel
theorem dX8_offer_1 : decode cX8_offer 1 = .ok (.invokestatic 103, 3) := by decide +kernel
theorem dX8_offer_4 : decode cX8_offer 4 = .ok (.ifCond .eq 22, 3) := by decide +kernel
theorem dX8_offer_7 : decode cX8_offer 7 = .ok (.iload_n 2, 1) := by decide +kernel
theorem dX8_offer_8 : decode cX8_offer 8 = .ok (.invokestatic 103, 3) := by decide +kernel
theorem dX8_offer_11 : decode cX8_offer 11 = .ok (.ifCond .eq 15, 3) := by decide +kernel
theorem dX8_offer_14 : decode cX8_offer 14 = .ok (.iload_n 1, 1) := by decide +kernel
theorem dX8_offer_15 : decode cX8_offer 15 = .ok (.iload_n 2, 1) := by decide +kernel
theorem dX8_offer_16 : decode cX8_offer 16 = .ok (.if_icmp .eq 10, 3) := by decide +kernel
theorem dX8_offer_19 : decode cX8_offer 19 = .ok (.iload_n 3, 1) := by decide +kernel
theorem dX8_offer_20 : decode cX8_offer 20 = .ok (.invokestatic 305, 3) := by decide +kernel
theorem dX8_offer_23 : decode cX8_offer 23 = .ok (.ifCond .ne 9, 3) := by decide +kernel
theorem dX8_offer_26 : decode cX8_offer 26 = .ok (.aload_n 0, 1) := by decide +kernel
theorem dX8_offer_27 : decode cX8_offer 27 = .ok (.iconst 1, 1) := by decide +kernel
theorem dX8_offer_28 : decode cX8_offer 28 = .ok (.invokevirtual 88, 3) := by decide +kernel
theorem dX8_offer_31 : decode cX8_offer 31 = .ok (.lreturn, 1) := by decide +kernel
theorem dX8_offer_32 : decode cX8_offer 32 = .ok (.aload_n 0, 1) := by decide +kernel
theorem dX8_offer_33 : decode cX8_offer 33 = .ok (.getfield 63, 3) := by decide +kernel
theorem dX8_offer_36 : decode cX8_offer 36 = .ok (.iload_n 1, 1) := by decide +kernel
theorem dX8_offer_37 : decode cX8_offer 37 = .ok (.iload_n 2, 1) := by decide +kernel
theorem dX8_offer_38 : decode cX8_offer 38 = .ok (.iload_n 3, 1) := by decide +kernel
theorem dX8_offer_39 : decode cX8_offer 39 = .ok (.invokevirtual 308, 3) := by decide +kernel
theorem dX8_offer_42 : decode cX8_offer 42 = .ok (.i2l, 1) := by decide +kernel
theorem dX8_offer_43 : decode cX8_offer 43 = .ok (.lreturn, 1) := by decide +kernel
set_option maxRecDepth 20000 in
theorem ggX8_turn_X7_bestTurn : GoodIn wsX8_turn wsX7_bestTurn := goodIn_r _ [6, 7, 8, 9, 10, 11, 12, 5, 13, 14, 15, 16, 17, 43, 44, 45] rfl (by decide +kernel)
set_option maxRecDepth 20000 in
theorem gX8_turn_X7_bestTurn : GoodIn wsX8_turn (wsV RX8 311 RX7 yX7_bestTurn wsX7_bestTurn) := goodIn_app (goodIn_of _ (by decide +kernel)) ggX8_turn_X7_bestTurn
set_option maxRecDepth 20000 in
theorem ggX8_turn_X8_finding : GoodIn wsX8_turn wsX8_finding := goodIn_r _ [22, 23, 24, 25, 26, 27, 28, 29, 30, 31, 32, 33, 34, 35, 36, 37, 38, 39, 40, 41, 42] rfl (by decide +kernel)
set_option maxRecDepth 20000 in
theorem gX8_turn_X8_finding : GoodIn wsX8_turn (wsV RX8 88 RX8 yX8_finding wsX8_finding) := goodIn_app (goodIn_of _ (by decide +kernel)) ggX8_turn_X8_finding
theorem dX8_turn_0 : decode cX8_turn 0 = .ok (.aload_n 0, 1) := by decide +kernel
theorem dX8_turn_1 : decode cX8_turn 1 = .ok (.getfield 63, 3) := by decide +kernel
theorem dX8_turn_4 : decode cX8_turn 4 = .ok (.invokevirtual 311, 3) := by decide +kernel
theorem dX8_turn_7 : decode cX8_turn 7 = .ok (.istore_n 1, 1) := by decide +kernel
theorem dX8_turn_8 : decode cX8_turn 8 = .ok (.iload_n 1, 1) := by decide +kernel
theorem dX8_turn_9 : decode cX8_turn 9 = .ok (.ifCond .ne 11, 3) := by decide +kernel
theorem dX8_turn_12 : decode cX8_turn 12 = .ok (.aload_n 0, 1) := by decide +kernel
theorem dX8_turn_13 : decode cX8_turn 13 = .ok (.iconst 2, 1) := by decide +kernel
theorem dX8_turn_14 : decode cX8_turn 14 = .ok (.invokevirtual 88, 3) := by decide +kernel
theorem dX8_turn_17 : decode cX8_turn 17 = .ok (.goto 5, 3) := by decide +kernel
theorem dX8_turn_20 : decode cX8_turn 20 = .ok (.iload_n 1, 1) := by decide +kernel
theorem dX8_turn_21 : decode cX8_turn 21 = .ok (.i2l, 1) := by decide +kernel
theorem dX8_turn_22 : decode cX8_turn 22 = .ok (.lreturn, 1) := by decide +kernel
set_option maxRecDepth 20000 in
theorem ggX8_part_X8_areTwoHouses : GoodIn wsX8_part wsX8_areTwoHouses := goodIn_r _ [11, 12, 13, 10, 14] rfl (by decide +kernel)
set_option maxRecDepth 20000 in
theorem gX8_part_X8_areTwoHouses : GoodIn wsX8_part (va_wsS RX8 224 yX8_areTwoHouses wsX8_areTwoHouses) := goodIn_app (goodIn_of _ (by decide +kernel)) ggX8_part_X8_areTwoHouses
set_option maxRecDepth 20000 in
theorem ggX8_part_X8_finding : GoodIn wsX8_part wsX8_finding := goodIn_r _ [18, 19, 20, 71, 72, 73, 74, 75, 76, 77, 78, 79, 80, 81, 82, 83, 84, 85, 86, 87, 88] rfl (by decide +kernel)
set_option maxRecDepth 20000 in
theorem gX8_part_X8_finding : GoodIn wsX8_part (wsV RX8 88 RX8 yX8_finding wsX8_finding) := goodIn_app (goodIn_of _ (by decide +kernel)) ggX8_part_X8_finding
set_option maxRecDepth 20000 in
theorem ggX8_part_X4_begin : GoodIn wsX8_part wsX4_begin := goodIn_r _ [25, 26, 99, 100] rfl (by decide +kernel)
set_option maxRecDepth 20000 in
theorem gX8_part_X4_begin : GoodIn wsX8_part (wsV RX8 315 RX4 yX4_begin wsX4_begin) := goodIn_app (goodIn_of _ (by decide +kernel)) ggX8_part_X4_begin
set_option maxRecDepth 20000 in
theorem ggX8_part_X0_pledgedBy : GoodIn wsX8_part wsX0_pledgedBy := goodIn_r _ [31, 32, 33, 34, 89, 90, 91, 92, 93, 94, 95, 96, 97, 98] rfl (by decide +kernel)
set_option maxRecDepth 20000 in
theorem gX8_part_X0_pledgedBy : GoodIn wsX8_part (wsV RX8 318 RX0 yX0_pledgedBy wsX0_pledgedBy) := goodIn_app (goodIn_of _ (by decide +kernel)) ggX8_part_X0_pledgedBy
set_option maxRecDepth 20000 in
theorem ggX8_part_X4_pledge : GoodIn wsX8_part wsX4_pledge := goodIn_r _ [38, 26, 99, 100] rfl (by decide +kernel)
set_option maxRecDepth 20000 in
theorem gX8_part_X4_pledge : GoodIn wsX8_part (wsV RX8 321 RX4 yX4_pledge wsX4_pledge) := goodIn_app (goodIn_of _ (by decide +kernel)) ggX8_part_X4_pledge
set_option maxRecDepth 20000 in
theorem ggX8_part_X1_debt : GoodIn wsX8_part wsX1_debt := goodIn_r _ [43, 44, 101, 102] rfl (by decide +kernel)
set_option maxRecDepth 20000 in
theorem gX8_part_X1_debt : GoodIn wsX8_part (wsV RX8 235 RX1 yX1_debt wsX1_debt) := goodIn_app (goodIn_of _ (by decide +kernel)) ggX8_part_X1_debt
set_option maxRecDepth 20000 in
theorem ggX8_part_X4_claim : GoodIn wsX8_part wsX4_claim := goodIn_r _ [48, 26, 49, 50, 51, 52, 53, 99, 100] rfl (by decide +kernel)
set_option maxRecDepth 20000 in
theorem gX8_part_X4_claim : GoodIn wsX8_part (wsV RX8 324 RX4 yX4_claim wsX4_claim) := goodIn_app (goodIn_of _ (by decide +kernel)) ggX8_part_X4_claim
set_option maxRecDepth 20000 in
theorem ggX8_part_X4_shareOf : GoodIn wsX8_part wsX4_shareOf := goodIn_r _ [57, 26, 58, 59, 51, 60, 53, 61, 62, 24, 63, 64, 65, 66, 67, 68, 69, 70, 99, 100] rfl (by decide +kernel)
set_option maxRecDepth 20000 in
theorem gX8_part_X4_shareOf : GoodIn wsX8_part (wsV RX8 328 RX4 yX4_shareOf wsX4_shareOf) := goodIn_app (goodIn_of _ (by decide +kernel)) ggX8_part_X4_shareOf
theorem dX8_part_0 : decode cX8_part 0 = .ok (.iload_n 1, 1) := by decide +kernel
theorem dX8_part_1 : decode cX8_part 1 = .ok (.iload_n 3, 1) := by decide +kernel
theorem dX8_part_2 : decode cX8_part 2 = .ok (.invokestatic 224, 3) := by decide +kernel
theorem dX8_part_5 : decode cX8_part 5 = .ok (.ifCond .eq 14, 3) := by decide +kernel
theorem dX8_part_8 : decode cX8_part 8 = .ok (.iload_n 2, 1) := by decide +kernel
theorem dX8_part_9 : decode cX8_part 9 = .ok (.ifCond .lt 10, 3) := by decide +kernel
theorem dX8_part_12 : decode cX8_part 12 = .ok (.iload_n 2, 1) := by decide +kernel
theorem dX8_part_13 : decode cX8_part 13 = .ok (.ldc_w 314, 3) := by decide +kernel
theorem dX8_part_16 : decode cX8_part 16 = .ok (.if_icmp .le 9, 3) := by decide +kernel
theorem dX8_part_19 : decode cX8_part 19 = .ok (.aload_n 0, 1) := by decide +kernel
theorem dX8_part_20 : decode cX8_part 20 = .ok (.iconst 1, 1) := by decide +kernel
theorem dX8_part_21 : decode cX8_part 21 = .ok (.invokevirtual 88, 3) := by decide +kernel
theorem dX8_part_24 : decode cX8_part 24 = .ok (.lreturn, 1) := by decide +kernel
theorem dX8_part_25 : decode cX8_part 25 = .ok (.aload_n 0, 1) := by decide +kernel
theorem dX8_part_26 : decode cX8_part 26 = .ok (.getfield 70, 3) := by decide +kernel
theorem dX8_part_29 : decode cX8_part 29 = .ok (.invokevirtual 315, 3) := by decide +kernel
theorem dX8_part_32 : decode cX8_part 32 = .ok (.iconst 0, 1) := by decide +kernel
theorem dX8_part_33 : decode cX8_part 33 = .ok (.istore 4, 2) := by decide +kernel
theorem dX8_part_35 : decode cX8_part 35 = .ok (.iload 4, 2) := by decide +kernel
theorem dX8_part_37 : decode cX8_part 37 = .ok (.aload_n 0, 1) := by decide +kernel
theorem dX8_part_38 : decode cX8_part 38 = .ok (.getfield 113, 3) := by decide +kernel
theorem dX8_part_41 : decode cX8_part 41 = .ok (.if_icmp .ge 49, 3) := by decide +kernel
theorem dX8_part_44 : decode cX8_part 44 = .ok (.aload_n 0, 1) := by decide +kernel
theorem dX8_part_45 : decode cX8_part 45 = .ok (.getfield 22, 3) := by decide +kernel
theorem dX8_part_48 : decode cX8_part 48 = .ok (.iload 4, 2) := by decide +kernel
theorem dX8_part_50 : decode cX8_part 50 = .ok (.aaload, 1) := by decide +kernel
theorem dX8_part_51 : decode cX8_part 51 = .ok (.astore 5, 2) := by decide +kernel
theorem dX8_part_53 : decode cX8_part 53 = .ok (.aload 5, 2) := by decide +kernel
theorem dX8_part_55 : decode cX8_part 55 = .ok (.ifnull 29, 3) := by decide +kernel
theorem dX8_part_58 : decode cX8_part 58 = .ok (.aload 5, 2) := by decide +kernel
theorem dX8_part_60 : decode cX8_part 60 = .ok (.iload_n 1, 1) := by decide +kernel
theorem dX8_part_61 : decode cX8_part 61 = .ok (.invokevirtual 318, 3) := by decide +kernel
theorem dX8_part_64 : decode cX8_part 64 = .ok (.ifCond .eq 20, 3) := by decide +kernel
theorem dX8_part_67 : decode cX8_part 67 = .ok (.aload_n 0, 1) := by decide +kernel
theorem dX8_part_68 : decode cX8_part 68 = .ok (.getfield 70, 3) := by decide +kernel
theorem dX8_part_71 : decode cX8_part 71 = .ok (.aload 5, 2) := by decide +kernel
theorem dX8_part_73 : decode cX8_part 73 = .ok (.getfield 130, 3) := by decide +kernel
theorem dX8_part_76 : decode cX8_part 76 = .ok (.aload 5, 2) := by decide +kernel
theorem dX8_part_78 : decode cX8_part 78 = .ok (.getfield 161, 3) := by decide +kernel
theorem dX8_part_81 : decode cX8_part 81 = .ok (.invokevirtual 321, 3) := by decide +kernel
theorem dX8_part_84 : decode cX8_part 84 = .ok (.iinc 4 1, 3) := by decide +kernel
theorem dX8_part_87 : decode cX8_part 87 = .ok (.goto (-52), 3) := by decide +kernel
theorem dX8_part_90 : decode cX8_part 90 = .ok (.iconst 0, 1) := by decide +kernel
theorem dX8_part_91 : decode cX8_part 91 = .ok (.istore 4, 2) := by decide +kernel
theorem dX8_part_93 : decode cX8_part 93 = .ok (.iload 4, 2) := by decide +kernel
theorem dX8_part_95 : decode cX8_part 95 = .ok (.bipush 10, 2) := by decide +kernel
theorem dX8_part_97 : decode cX8_part 97 = .ok (.if_icmp .ge 28, 3) := by decide +kernel
theorem dX8_part_100 : decode cX8_part 100 = .ok (.aload_n 0, 1) := by decide +kernel
theorem dX8_part_101 : decode cX8_part 101 = .ok (.getfield 70, 3) := by decide +kernel
theorem dX8_part_104 : decode cX8_part 104 = .ok (.iload 4, 2) := by decide +kernel
theorem dX8_part_106 : decode cX8_part 106 = .ok (.aload_n 0, 1) := by decide +kernel
theorem dX8_part_107 : decode cX8_part 107 = .ok (.getfield 42, 3) := by decide +kernel
theorem dX8_part_110 : decode cX8_part 110 = .ok (.iload_n 1, 1) := by decide +kernel
theorem dX8_part_111 : decode cX8_part 111 = .ok (.iload 4, 2) := by decide +kernel
theorem dX8_part_113 : decode cX8_part 113 = .ok (.invokevirtual 235, 3) := by decide +kernel
theorem dX8_part_116 : decode cX8_part 116 = .ok (.invokevirtual 324, 3) := by decide +kernel
theorem dX8_part_119 : decode cX8_part 119 = .ok (.iinc 4 1, 3) := by decide +kernel
theorem dX8_part_122 : decode cX8_part 122 = .ok (.goto (-29), 3) := by decide +kernel
theorem dX8_part_125 : decode cX8_part 125 = .ok (.aload_n 0, 1) := by decide +kernel
theorem dX8_part_126 : decode cX8_part 126 = .ok (.getfield 70, 3) := by decide +kernel
theorem dX8_part_129 : decode cX8_part 129 = .ok (.iload_n 3, 1) := by decide +kernel
theorem dX8_part_130 : decode cX8_part 130 = .ok (.iload_n 2, 1) := by decide +kernel
theorem dX8_part_131 : decode cX8_part 131 = .ok (.i2l, 1) := by decide +kernel
theorem dX8_part_132 : decode cX8_part 132 = .ok (.invokevirtual 328, 3) := by decide +kernel
theorem dX8_part_135 : decode cX8_part 135 = .ok (.lreturn, 1) := by decide +kernel
set_option maxRecDepth 20000 in
theorem ggX8_tell_X8_finding : GoodIn wsX8_tell wsX8_finding := goodIn_r _ [7, 8, 9, 10, 11, 12, 13, 14, 15, 16, 17, 18, 19, 20, 21, 22, 23, 24, 25, 26, 27] rfl (by decide +kernel)
set_option maxRecDepth 20000 in
theorem gX8_tell_X8_finding : GoodIn wsX8_tell (wsV RX8 88 RX8 yX8_finding wsX8_finding) := goodIn_app (goodIn_of _ (by decide +kernel)) ggX8_tell_X8_finding
theorem dX8_tell_0 : decode cX8_tell 0 = .ok (.aload_n 0, 1) := by decide +kernel
theorem dX8_tell_1 : decode cX8_tell 1 = .ok (.getfield 332, 3) := by decide +kernel
theorem dX8_tell_4 : decode cX8_tell 4 = .ok (.bipush 30, 2) := by decide +kernel
theorem dX8_tell_6 : decode cX8_tell 6 = .ok (.if_icmp .lt 9, 3) := by decide +kernel
theorem dX8_tell_9 : decode cX8_tell 9 = .ok (.aload_n 0, 1) := by decide +kernel
theorem dX8_tell_10 : decode cX8_tell 10 = .ok (.iconst 4, 1) := by decide +kernel
theorem dX8_tell_11 : decode cX8_tell 11 = .ok (.invokevirtual 88, 3) := by decide +kernel
theorem dX8_tell_14 : decode cX8_tell 14 = .ok (.lreturn, 1) := by decide +kernel
theorem dX8_tell_15 : decode cX8_tell 15 = .ok (.aload_n 0, 1) := by decide +kernel
theorem dX8_tell_16 : decode cX8_tell 16 = .ok (.getfield 31, 3) := by decide +kernel
theorem dX8_tell_19 : decode cX8_tell 19 = .ok (.aload_n 0, 1) := by decide +kernel
theorem dX8_tell_20 : decode cX8_tell 20 = .ok (.getfield 332, 3) := by decide +kernel
theorem dX8_tell_23 : decode cX8_tell 23 = .ok (.iload_n 1, 1) := by decide +kernel
theorem dX8_tell_24 : decode cX8_tell 24 = .ok (.iastore, 1) := by decide +kernel
theorem dX8_tell_25 : decode cX8_tell 25 = .ok (.aload_n 0, 1) := by decide +kernel
theorem dX8_tell_26 : decode cX8_tell 26 = .ok (.dup, 1) := by decide +kernel
theorem dX8_tell_27 : decode cX8_tell 27 = .ok (.getfield 332, 3) := by decide +kernel
theorem dX8_tell_30 : decode cX8_tell 30 = .ok (.iconst 1, 1) := by decide +kernel
theorem dX8_tell_31 : decode cX8_tell 31 = .ok (.iadd, 1) := by decide +kernel
theorem dX8_tell_32 : decode cX8_tell 32 = .ok (.putfield 332, 3) := by decide +kernel
theorem dX8_tell_35 : decode cX8_tell 35 = .ok (.aload_n 0, 1) := by decide +kernel
theorem dX8_tell_36 : decode cX8_tell 36 = .ok (.getfield 332, 3) := by decide +kernel
theorem dX8_tell_39 : decode cX8_tell 39 = .ok (.i2l, 1) := by decide +kernel
theorem dX8_tell_40 : decode cX8_tell 40 = .ok (.lreturn, 1) := by decide +kernel
set_option maxRecDepth 20000 in
theorem ggX8_check_X5_refresh : GoodIn wsX8_check wsX5_refresh := goodIn_r _ [10, 11, 12, 13, 14, 15, 16, 17, 9, 18, 19, 20, 21, 22, 23, 24, 25, 26, 27, 28, 29, 30, 31, 32, 33, 34, 35, 36, 37, 38, 39, 40, 41, 42, 43, 44, 45, 46, 47, 48, 49, 50, 51, 52, 53, 54, 55, 56, 57, 58, 59, 60, 61, 62, 63, 64, 65, 66, 99, 100, 101, 102, 103, 104, 105, 106, 107, 108, 109, 110, 111] rfl (by decide +kernel)
set_option maxRecDepth 20000 in
theorem gX8_check_X5_refresh : GoodIn wsX8_check (wsV RX8 242 RX5 yX5_refresh wsX5_refresh) := goodIn_app (goodIn_of _ (by decide +kernel)) ggX8_check_X5_refresh
set_option maxRecDepth 20000 in
theorem ggX8_check_X8_toldPayment : GoodIn wsX8_check wsX8_toldPayment := goodIn_r _ [71, 72, 1, 73, 74, 75, 9, 76, 60, 61, 62, 77, 78, 79, 80, 14, 81, 82, 83, 84, 85, 86, 87, 88, 89, 90, 91, 92, 93, 94, 95, 96, 97, 98, 99, 100, 101, 102, 103, 104, 105, 106, 107, 108, 109] rfl (by decide +kernel)
set_option maxRecDepth 20000 in
theorem gX8_check_X8_toldPayment : GoodIn wsX8_check (wsV RX8 335 RX8 yX8_toldPayment wsX8_toldPayment) := goodIn_app (goodIn_of _ (by decide +kernel)) ggX8_check_X8_toldPayment
theorem dX8_check_0 : decode cX8_check 0 = .ok (.aload_n 0, 1) := by decide +kernel
theorem dX8_check_1 : decode cX8_check 1 = .ok (.getfield 49, 3) := by decide +kernel
theorem dX8_check_4 : decode cX8_check 4 = .ok (.aload_n 0, 1) := by decide +kernel
theorem dX8_check_5 : decode cX8_check 5 = .ok (.getfield 42, 3) := by decide +kernel
theorem dX8_check_8 : decode cX8_check 8 = .ok (.invokevirtual 242, 3) := by decide +kernel
theorem dX8_check_11 : decode cX8_check 11 = .ok (.aload_n 0, 1) := by decide +kernel
theorem dX8_check_12 : decode cX8_check 12 = .ok (.getfield 332, 3) := by decide +kernel
theorem dX8_check_15 : decode cX8_check 15 = .ok (.istore_n 1, 1) := by decide +kernel
theorem dX8_check_16 : decode cX8_check 16 = .ok (.aload_n 0, 1) := by decide +kernel
theorem dX8_check_17 : decode cX8_check 17 = .ok (.iconst 0, 1) := by decide +kernel
theorem dX8_check_18 : decode cX8_check 18 = .ok (.putfield 332, 3) := by decide +kernel
theorem dX8_check_21 : decode cX8_check 21 = .ok (.iconst 0, 1) := by decide +kernel
theorem dX8_check_22 : decode cX8_check 22 = .ok (.istore_n 2, 1) := by decide +kernel
theorem dX8_check_23 : decode cX8_check 23 = .ok (.iload_n 2, 1) := by decide +kernel
theorem dX8_check_24 : decode cX8_check 24 = .ok (.aload_n 0, 1) := by decide +kernel
theorem dX8_check_25 : decode cX8_check 25 = .ok (.getfield 49, 3) := by decide +kernel
theorem dX8_check_28 : decode cX8_check 28 = .ok (.getfield 249, 3) := by decide +kernel
theorem dX8_check_31 : decode cX8_check 31 = .ok (.if_icmp .ge 23, 3) := by decide +kernel
theorem dX8_check_34 : decode cX8_check 34 = .ok (.aload_n 0, 1) := by decide +kernel
theorem dX8_check_35 : decode cX8_check 35 = .ok (.iload_n 2, 1) := by decide +kernel
theorem dX8_check_36 : decode cX8_check 36 = .ok (.iload_n 1, 1) := by decide +kernel
theorem dX8_check_37 : decode cX8_check 37 = .ok (.invokevirtual 335, 3) := by decide +kernel
theorem dX8_check_40 : decode cX8_check 40 = .ok (.ifCond .ne 8, 3) := by decide +kernel
theorem dX8_check_43 : decode cX8_check 43 = .ok (.iconst 1, 1) := by decide +kernel
theorem dX8_check_44 : decode cX8_check 44 = .ok (.iload_n 2, 1) := by decide +kernel
theorem dX8_check_45 : decode cX8_check 45 = .ok (.iadd, 1) := by decide +kernel
theorem dX8_check_46 : decode cX8_check 46 = .ok (.i2l, 1) := by decide +kernel
theorem dX8_check_47 : decode cX8_check 47 = .ok (.lreturn, 1) := by decide +kernel
theorem dX8_check_48 : decode cX8_check 48 = .ok (.iinc 2 1, 3) := by decide +kernel
theorem dX8_check_51 : decode cX8_check 51 = .ok (.goto (-28), 3) := by decide +kernel
theorem dX8_check_54 : decode cX8_check 54 = .ok (.iload_n 1, 1) := by decide +kernel
theorem dX8_check_55 : decode cX8_check 55 = .ok (.iconst 3, 1) := by decide +kernel
theorem dX8_check_56 : decode cX8_check 56 = .ok (.aload_n 0, 1) := by decide +kernel
theorem dX8_check_57 : decode cX8_check 57 = .ok (.getfield 49, 3) := by decide +kernel
theorem dX8_check_60 : decode cX8_check 60 = .ok (.getfield 249, 3) := by decide +kernel
theorem dX8_check_63 : decode cX8_check 63 = .ok (.imul, 1) := by decide +kernel
theorem dX8_check_64 : decode cX8_check 64 = .ok (.if_icmp .le 9, 3) := by decide +kernel
theorem dX8_check_67 : decode cX8_check 67 = .ok (.ldc2_w 338, 3) := by decide +kernel
theorem dX8_check_70 : decode cX8_check 70 = .ok (.goto 4, 3) := by decide +kernel
theorem dX8_check_73 : decode cX8_check 73 = .ok (.lconst 0, 1) := by decide +kernel
theorem dX8_check_74 : decode cX8_check 74 = .ok (.lreturn, 1) := by decide +kernel
set_option maxRecDepth 20000 in
theorem ggX8_count_X1_total : GoodIn wsX8_count wsX1_total := goodIn_r _ [13, 14, 53, 54] rfl (by decide +kernel)
set_option maxRecDepth 20000 in
theorem gX8_count_X1_total : GoodIn wsX8_count (wsV RX8 261 RX1 yX1_total wsX1_total) := goodIn_app (goodIn_of _ (by decide +kernel)) ggX8_count_X1_total
set_option maxRecDepth 20000 in
theorem ggX8_count_X8_finding : GoodIn wsX8_count wsX8_finding := goodIn_r _ [19, 20, 21, 22, 23, 24, 25, 26, 27, 28, 29, 30, 31, 32, 33, 34, 35, 36, 37, 38, 39] rfl (by decide +kernel)
set_option maxRecDepth 20000 in
theorem gX8_count_X8_finding : GoodIn wsX8_count (wsV RX8 88 RX8 yX8_finding wsX8_finding) := goodIn_app (goodIn_of _ (by decide +kernel)) ggX8_count_X8_finding
theorem dX8_count_0 : decode cX8_count 0 = .ok (.iload_n 1, 1) := by decide +kernel
theorem dX8_count_1 : decode cX8_count 1 = .ok (.tableswitch 83 0 5 #[39, 45, 51, 60, 68, 74], 39) := by decide +kernel
theorem dX8_count_40 : decode cX8_count 40 = .ok (.aload_n 0, 1) := by decide +kernel
theorem dX8_count_41 : decode cX8_count 41 = .ok (.getfield 92, 3) := by decide +kernel
theorem dX8_count_44 : decode cX8_count 44 = .ok (.i2l, 1) := by decide +kernel
theorem dX8_count_45 : decode cX8_count 45 = .ok (.lreturn, 1) := by decide +kernel
theorem dX8_count_46 : decode cX8_count 46 = .ok (.aload_n 0, 1) := by decide +kernel
theorem dX8_count_47 : decode cX8_count 47 = .ok (.getfield 113, 3) := by decide +kernel
theorem dX8_count_50 : decode cX8_count 50 = .ok (.i2l, 1) := by decide +kernel
theorem dX8_count_51 : decode cX8_count 51 = .ok (.lreturn, 1) := by decide +kernel
theorem dX8_count_52 : decode cX8_count 52 = .ok (.aload_n 0, 1) := by decide +kernel
theorem dX8_count_53 : decode cX8_count 53 = .ok (.getfield 77, 3) := by decide +kernel
theorem dX8_count_56 : decode cX8_count 56 = .ok (.getfield 214, 3) := by decide +kernel
theorem dX8_count_59 : decode cX8_count 59 = .ok (.i2l, 1) := by decide +kernel
theorem dX8_count_60 : decode cX8_count 60 = .ok (.lreturn, 1) := by decide +kernel
theorem dX8_count_61 : decode cX8_count 61 = .ok (.aload_n 0, 1) := by decide +kernel
theorem dX8_count_62 : decode cX8_count 62 = .ok (.getfield 42, 3) := by decide +kernel
theorem dX8_count_65 : decode cX8_count 65 = .ok (.invokevirtual 261, 3) := by decide +kernel
theorem dX8_count_68 : decode cX8_count 68 = .ok (.lreturn, 1) := by decide +kernel
theorem dX8_count_69 : decode cX8_count 69 = .ok (.aload_n 0, 1) := by decide +kernel
theorem dX8_count_70 : decode cX8_count 70 = .ok (.getfield 332, 3) := by decide +kernel
theorem dX8_count_73 : decode cX8_count 73 = .ok (.i2l, 1) := by decide +kernel
theorem dX8_count_74 : decode cX8_count 74 = .ok (.lreturn, 1) := by decide +kernel
theorem dX8_count_75 : decode cX8_count 75 = .ok (.aload_n 0, 1) := by decide +kernel
theorem dX8_count_76 : decode cX8_count 76 = .ok (.getfield 35, 3) := by decide +kernel
theorem dX8_count_79 : decode cX8_count 79 = .ok (.getfield 203, 3) := by decide +kernel
theorem dX8_count_82 : decode cX8_count 82 = .ok (.i2l, 1) := by decide +kernel
theorem dX8_count_83 : decode cX8_count 83 = .ok (.lreturn, 1) := by decide +kernel
theorem dX8_count_84 : decode cX8_count 84 = .ok (.aload_n 0, 1) := by decide +kernel
theorem dX8_count_85 : decode cX8_count 85 = .ok (.iconst 1, 1) := by decide +kernel
theorem dX8_count_86 : decode cX8_count 86 = .ok (.invokevirtual 88, 3) := by decide +kernel
theorem dX8_count_89 : decode cX8_count 89 = .ok (.lreturn, 1) := by decide +kernel
set_option maxRecDepth 20000 in
theorem ggX8_found_X8_finding : GoodIn wsX8_found wsX8_finding := goodIn_r _ [6, 1, 7, 8, 9, 10, 11, 12, 13, 14, 15, 16, 17, 18, 19, 20, 21, 22, 23, 24, 25] rfl (by decide +kernel)
set_option maxRecDepth 20000 in
theorem gX8_found_X8_finding : GoodIn wsX8_found (wsV RX8 88 RX8 yX8_finding wsX8_finding) := goodIn_app (goodIn_of _ (by decide +kernel)) ggX8_found_X8_finding
theorem dX8_found_0 : decode cX8_found 0 = .ok (.iload_n 1, 1) := by decide +kernel
theorem dX8_found_1 : decode cX8_found 1 = .ok (.iconst 1, 1) := by decide +kernel
theorem dX8_found_2 : decode cX8_found 2 = .ok (.if_icmp .lt 9, 3) := by decide +kernel
theorem dX8_found_5 : decode cX8_found 5 = .ok (.iload_n 1, 1) := by decide +kernel
theorem dX8_found_6 : decode cX8_found 6 = .ok (.bipush 7, 2) := by decide +kernel
theorem dX8_found_8 : decode cX8_found 8 = .ok (.if_icmp .le 9, 3) := by decide +kernel
theorem dX8_found_11 : decode cX8_found 11 = .ok (.aload_n 0, 1) := by decide +kernel
theorem dX8_found_12 : decode cX8_found 12 = .ok (.iconst 1, 1) := by decide +kernel
theorem dX8_found_13 : decode cX8_found 13 = .ok (.invokevirtual 88, 3) := by decide +kernel
theorem dX8_found_16 : decode cX8_found 16 = .ok (.lreturn, 1) := by decide +kernel
theorem dX8_found_17 : decode cX8_found 17 = .ok (.aload_n 0, 1) := by decide +kernel
theorem dX8_found_18 : decode cX8_found 18 = .ok (.getfield 9, 3) := by decide +kernel
theorem dX8_found_21 : decode cX8_found 21 = .ok (.iload_n 1, 1) := by decide +kernel
theorem dX8_found_22 : decode cX8_found 22 = .ok (.laload, 1) := by decide +kernel
theorem dX8_found_23 : decode cX8_found 23 = .ok (.lreturn, 1) := by decide +kernel
theorem dX8_finding_0 : decode cX8_finding 0 = .ok (.aload_n 0, 1) := by decide +kernel
theorem dX8_finding_1 : decode cX8_finding 1 = .ok (.getfield 9, 3) := by decide +kernel
theorem dX8_finding_4 : decode cX8_finding 4 = .ok (.iload_n 1, 1) := by decide +kernel
theorem dX8_finding_5 : decode cX8_finding 5 = .ok (.dup2, 1) := by decide +kernel
theorem dX8_finding_6 : decode cX8_finding 6 = .ok (.laload, 1) := by decide +kernel
theorem dX8_finding_7 : decode cX8_finding 7 = .ok (.lconst 1, 1) := by decide +kernel
theorem dX8_finding_8 : decode cX8_finding 8 = .ok (.ladd, 1) := by decide +kernel
theorem dX8_finding_9 : decode cX8_finding 9 = .ok (.lastore, 1) := by decide +kernel
theorem dX8_finding_10 : decode cX8_finding 10 = .ok (.ldc2_w 340, 3) := by decide +kernel
theorem dX8_finding_13 : decode cX8_finding 13 = .ok (.iload_n 1, 1) := by decide +kernel
theorem dX8_finding_14 : decode cX8_finding 14 = .ok (.i2l, 1) := by decide +kernel
theorem dX8_finding_15 : decode cX8_finding 15 = .ok (.lsub, 1) := by decide +kernel
theorem dX8_finding_16 : decode cX8_finding 16 = .ok (.lreturn, 1) := by decide +kernel
theorem dX8_isHouse_0 : decode cX8_isHouse 0 = .ok (.iload_n 0, 1) := by decide +kernel
theorem dX8_isHouse_1 : decode cX8_isHouse 1 = .ok (.ifCond .lt 13, 3) := by decide +kernel
theorem dX8_isHouse_4 : decode cX8_isHouse 4 = .ok (.iload_n 0, 1) := by decide +kernel
theorem dX8_isHouse_5 : decode cX8_isHouse 5 = .ok (.bipush 10, 2) := by decide +kernel
theorem dX8_isHouse_7 : decode cX8_isHouse 7 = .ok (.if_icmp .ge 7, 3) := by decide +kernel
theorem dX8_isHouse_10 : decode cX8_isHouse 10 = .ok (.iconst 1, 1) := by decide +kernel
theorem dX8_isHouse_11 : decode cX8_isHouse 11 = .ok (.goto 4, 3) := by decide +kernel
theorem dX8_isHouse_14 : decode cX8_isHouse 14 = .ok (.iconst 0, 1) := by decide +kernel
theorem dX8_isHouse_15 : decode cX8_isHouse 15 = .ok (.ireturn, 1) := by decide +kernel
set_option maxRecDepth 20000 in
theorem ggX8_areTwoHouses_X8_isHouse : GoodIn wsX8_areTwoHouses wsX8_isHouse := goodIn_r _ [4] rfl (by decide +kernel)
set_option maxRecDepth 20000 in
theorem gX8_areTwoHouses_X8_isHouse : GoodIn wsX8_areTwoHouses (va_wsS RX8 106 yX8_isHouse wsX8_isHouse) := goodIn_app (goodIn_of _ (by decide +kernel)) ggX8_areTwoHouses_X8_isHouse
theorem dX8_areTwoHouses_0 : decode cX8_areTwoHouses 0 = .ok (.iload_n 0, 1) := by decide +kernel
theorem dX8_areTwoHouses_1 : decode cX8_areTwoHouses 1 = .ok (.invokestatic 106, 3) := by decide +kernel
theorem dX8_areTwoHouses_4 : decode cX8_areTwoHouses 4 = .ok (.ifCond .eq 19, 3) := by decide +kernel
theorem dX8_areTwoHouses_7 : decode cX8_areTwoHouses 7 = .ok (.iload_n 1, 1) := by decide +kernel
theorem dX8_areTwoHouses_8 : decode cX8_areTwoHouses 8 = .ok (.invokestatic 106, 3) := by decide +kernel
theorem dX8_areTwoHouses_11 : decode cX8_areTwoHouses 11 = .ok (.ifCond .eq 12, 3) := by decide +kernel
theorem dX8_areTwoHouses_14 : decode cX8_areTwoHouses 14 = .ok (.iload_n 0, 1) := by decide +kernel
theorem dX8_areTwoHouses_15 : decode cX8_areTwoHouses 15 = .ok (.iload_n 1, 1) := by decide +kernel
theorem dX8_areTwoHouses_16 : decode cX8_areTwoHouses 16 = .ok (.if_icmp .eq 7, 3) := by decide +kernel
theorem dX8_areTwoHouses_19 : decode cX8_areTwoHouses 19 = .ok (.iconst 1, 1) := by decide +kernel
theorem dX8_areTwoHouses_20 : decode cX8_areTwoHouses 20 = .ok (.goto 4, 3) := by decide +kernel
theorem dX8_areTwoHouses_23 : decode cX8_areTwoHouses 23 = .ok (.iconst 0, 1) := by decide +kernel
theorem dX8_areTwoHouses_24 : decode cX8_areTwoHouses 24 = .ok (.ireturn, 1) := by decide +kernel
theorem dX8_isTown_0 : decode cX8_isTown 0 = .ok (.iload_n 0, 1) := by decide +kernel
theorem dX8_isTown_1 : decode cX8_isTown 1 = .ok (.ifCond .lt 12, 3) := by decide +kernel
theorem dX8_isTown_4 : decode cX8_isTown 4 = .ok (.iload_n 0, 1) := by decide +kernel
theorem dX8_isTown_5 : decode cX8_isTown 5 = .ok (.iconst 5, 1) := by decide +kernel
theorem dX8_isTown_6 : decode cX8_isTown 6 = .ok (.if_icmp .ge 7, 3) := by decide +kernel
theorem dX8_isTown_9 : decode cX8_isTown 9 = .ok (.iconst 1, 1) := by decide +kernel
theorem dX8_isTown_10 : decode cX8_isTown 10 = .ok (.goto 4, 3) := by decide +kernel
theorem dX8_isTown_13 : decode cX8_isTown 13 = .ok (.iconst 0, 1) := by decide +kernel
theorem dX8_isTown_14 : decode cX8_isTown 14 = .ok (.ireturn, 1) := by decide +kernel
theorem dX8_isBillKind_0 : decode cX8_isBillKind 0 = .ok (.iload_n 0, 1) := by decide +kernel
theorem dX8_isBillKind_1 : decode cX8_isBillKind 1 = .ok (.ifCond .lt 12, 3) := by decide +kernel
theorem dX8_isBillKind_4 : decode cX8_isBillKind 4 = .ok (.iload_n 0, 1) := by decide +kernel
theorem dX8_isBillKind_5 : decode cX8_isBillKind 5 = .ok (.iconst 2, 1) := by decide +kernel
theorem dX8_isBillKind_6 : decode cX8_isBillKind 6 = .ok (.if_icmp .gt 7, 3) := by decide +kernel
theorem dX8_isBillKind_9 : decode cX8_isBillKind 9 = .ok (.iconst 1, 1) := by decide +kernel
theorem dX8_isBillKind_10 : decode cX8_isBillKind 10 = .ok (.goto 4, 3) := by decide +kernel
theorem dX8_isBillKind_13 : decode cX8_isBillKind 13 = .ok (.iconst 0, 1) := by decide +kernel
theorem dX8_isBillKind_14 : decode cX8_isBillKind 14 = .ok (.ireturn, 1) := by decide +kernel
theorem dX8_isTakingDay_0 : decode cX8_isTakingDay 0 = .ok (.aload_n 0, 1) := by decide +kernel
theorem dX8_isTakingDay_1 : decode cX8_isTakingDay 1 = .ok (.getfield 92, 3) := by decide +kernel
theorem dX8_isTakingDay_4 : decode cX8_isTakingDay 4 = .ok (.bipush 28, 2) := by decide +kernel
theorem dX8_isTakingDay_6 : decode cX8_isTakingDay 6 = .ok (.irem, 1) := by decide +kernel
theorem dX8_isTakingDay_7 : decode cX8_isTakingDay 7 = .ok (.bipush 6, 2) := by decide +kernel
theorem dX8_isTakingDay_9 : decode cX8_isTakingDay 9 = .ok (.if_icmp .gt 7, 3) := by decide +kernel
theorem dX8_isTakingDay_12 : decode cX8_isTakingDay 12 = .ok (.iconst 1, 1) := by decide +kernel
theorem dX8_isTakingDay_13 : decode cX8_isTakingDay 13 = .ok (.goto 4, 3) := by decide +kernel
theorem dX8_isTakingDay_16 : decode cX8_isTakingDay 16 = .ok (.iconst 0, 1) := by decide +kernel
theorem dX8_isTakingDay_17 : decode cX8_isTakingDay 17 = .ok (.ireturn, 1) := by decide +kernel
theorem dX8_billAt_0 : decode cX8_billAt 0 = .ok (.iload_n 1, 1) := by decide +kernel
theorem dX8_billAt_1 : decode cX8_billAt 1 = .ok (.ifCond .lt 20, 3) := by decide +kernel
theorem dX8_billAt_4 : decode cX8_billAt 4 = .ok (.iload_n 1, 1) := by decide +kernel
theorem dX8_billAt_5 : decode cX8_billAt 5 = .ok (.aload_n 0, 1) := by decide +kernel
theorem dX8_billAt_6 : decode cX8_billAt 6 = .ok (.getfield 113, 3) := by decide +kernel
theorem dX8_billAt_9 : decode cX8_billAt 9 = .ok (.if_icmp .ge 12, 3) := by decide +kernel
theorem dX8_billAt_12 : decode cX8_billAt 12 = .ok (.aload_n 0, 1) := by decide +kernel
theorem dX8_billAt_13 : decode cX8_billAt 13 = .ok (.getfield 22, 3) := by decide +kernel
theorem dX8_billAt_16 : decode cX8_billAt 16 = .ok (.iload_n 1, 1) := by decide +kernel
theorem dX8_billAt_17 : decode cX8_billAt 17 = .ok (.aaload, 1) := by decide +kernel
theorem dX8_billAt_18 : decode cX8_billAt 18 = .ok (.goto 4, 3) := by decide +kernel
theorem dX8_billAt_21 : decode cX8_billAt 21 = .ok (.aconst_null, 1) := by decide +kernel
theorem dX8_billAt_22 : decode cX8_billAt 22 = .ok (.areturn, 1) := by decide +kernel
theorem dX8_roadOf_0 : decode cX8_roadOf 0 = .ok (.aload_n 0, 1) := by decide +kernel
theorem dX8_roadOf_1 : decode cX8_roadOf 1 = .ok (.getfield 13, 3) := by decide +kernel
theorem dX8_roadOf_4 : decode cX8_roadOf 4 = .ok (.aload_n 0, 1) := by decide +kernel
theorem dX8_roadOf_5 : decode cX8_roadOf 5 = .ok (.getfield 17, 3) := by decide +kernel
theorem dX8_roadOf_8 : decode cX8_roadOf 8 = .ok (.iload_n 1, 1) := by decide +kernel
theorem dX8_roadOf_9 : decode cX8_roadOf 9 = .ok (.iaload, 1) := by decide +kernel
theorem dX8_roadOf_10 : decode cX8_roadOf 10 = .ok (.iaload, 1) := by decide +kernel
theorem dX8_roadOf_11 : decode cX8_roadOf 11 = .ok (.ireturn, 1) := by decide +kernel
set_option maxRecDepth 20000 in
theorem ggX8_overfills_X1_overfills : GoodIn wsX8_overfills wsX1_overfills := goodIn_r _ [8, 9, 10, 11, 12, 13, 14, 43, 44] rfl (by decide +kernel)
set_option maxRecDepth 20000 in
theorem gX8_overfills_X1_overfills : GoodIn wsX8_overfills (wsV RX8 229 RX1 yX1_overfills wsX1_overfills) := goodIn_app (goodIn_of _ (by decide +kernel)) ggX8_overfills_X1_overfills
theorem dX8_overfills_0 : decode cX8_overfills 0 = .ok (.iload_n 2, 1) := by decide +kernel
theorem dX8_overfills_1 : decode cX8_overfills 1 = .ok (.aload_n 1, 1) := by decide +kernel
theorem dX8_overfills_2 : decode cX8_overfills 2 = .ok (.getfield 130, 3) := by decide +kernel
theorem dX8_overfills_5 : decode cX8_overfills 5 = .ok (.if_icmp .eq 27, 3) := by decide +kernel
theorem dX8_overfills_8 : decode cX8_overfills 8 = .ok (.aload_n 0, 1) := by decide +kernel
theorem dX8_overfills_9 : decode cX8_overfills 9 = .ok (.getfield 42, 3) := by decide +kernel
theorem dX8_overfills_12 : decode cX8_overfills 12 = .ok (.iload_n 2, 1) := by decide +kernel
theorem dX8_overfills_13 : decode cX8_overfills 13 = .ok (.aload_n 1, 1) := by decide +kernel
theorem dX8_overfills_14 : decode cX8_overfills 14 = .ok (.getfield 130, 3) := by decide +kernel
theorem dX8_overfills_17 : decode cX8_overfills 17 = .ok (.aload_n 1, 1) := by decide +kernel
theorem dX8_overfills_18 : decode cX8_overfills 18 = .ok (.getfield 161, 3) := by decide +kernel
theorem dX8_overfills_21 : decode cX8_overfills 21 = .ok (.i2l, 1) := by decide +kernel
theorem dX8_overfills_22 : decode cX8_overfills 22 = .ok (.invokevirtual 229, 3) := by decide +kernel
theorem dX8_overfills_25 : decode cX8_overfills 25 = .ok (.ifCond .eq 7, 3) := by decide +kernel
theorem dX8_overfills_28 : decode cX8_overfills 28 = .ok (.iconst 1, 1) := by decide +kernel
theorem dX8_overfills_29 : decode cX8_overfills 29 = .ok (.goto 4, 3) := by decide +kernel
theorem dX8_overfills_32 : decode cX8_overfills 32 = .ok (.iconst 0, 1) := by decide +kernel
theorem dX8_overfills_33 : decode cX8_overfills 33 = .ok (.ireturn, 1) := by decide +kernel
set_option maxRecDepth 20000 in
theorem ggX8_charge_X1_charge : GoodIn wsX8_charge wsX1_charge := goodIn_r _ [8, 9, 10, 11, 12, 13, 14, 43, 44] rfl (by decide +kernel)
set_option maxRecDepth 20000 in
theorem gX8_charge_X1_charge : GoodIn wsX8_charge (wsV RX8 232 RX1 yX1_charge wsX1_charge) := goodIn_app (goodIn_of _ (by decide +kernel)) ggX8_charge_X1_charge
theorem dX8_charge_0 : decode cX8_charge 0 = .ok (.iload_n 2, 1) := by decide +kernel
theorem dX8_charge_1 : decode cX8_charge 1 = .ok (.aload_n 1, 1) := by decide +kernel
theorem dX8_charge_2 : decode cX8_charge 2 = .ok (.getfield 130, 3) := by decide +kernel
theorem dX8_charge_5 : decode cX8_charge 5 = .ok (.if_icmp .eq 20, 3) := by decide +kernel
theorem dX8_charge_8 : decode cX8_charge 8 = .ok (.aload_n 0, 1) := by decide +kernel
theorem dX8_charge_9 : decode cX8_charge 9 = .ok (.getfield 42, 3) := by decide +kernel
theorem dX8_charge_12 : decode cX8_charge 12 = .ok (.iload_n 2, 1) := by decide +kernel
theorem dX8_charge_13 : decode cX8_charge 13 = .ok (.aload_n 1, 1) := by decide +kernel
theorem dX8_charge_14 : decode cX8_charge 14 = .ok (.getfield 130, 3) := by decide +kernel
theorem dX8_charge_17 : decode cX8_charge 17 = .ok (.aload_n 1, 1) := by decide +kernel
theorem dX8_charge_18 : decode cX8_charge 18 = .ok (.getfield 161, 3) := by decide +kernel
theorem dX8_charge_21 : decode cX8_charge 21 = .ok (.i2l, 1) := by decide +kernel
theorem dX8_charge_22 : decode cX8_charge 22 = .ok (.invokevirtual 232, 3) := by decide +kernel
theorem dX8_charge_25 : decode cX8_charge 25 = .ok (.return_, 1) := by decide +kernel
set_option maxRecDepth 20000 in
theorem ggX8_bindsEndorser_X0_daysLate : GoodIn wsX8_bindsEndorser wsX0_daysLate := goodIn_r _ [7, 8, 45, 46, 47, 48, 49, 50, 51, 52, 53, 54] rfl (by decide +kernel)
set_option maxRecDepth 20000 in
theorem gX8_bindsEndorser_X0_daysLate : GoodIn wsX8_bindsEndorser (wsV RX8 164 RX0 yX0_daysLate wsX0_daysLate) := goodIn_app (goodIn_of _ (by decide +kernel)) ggX8_bindsEndorser_X0_daysLate
set_option maxRecDepth 20000 in
theorem ggX8_bindsEndorser_X0_endorserAt : GoodIn wsX8_bindsEndorser wsX0_endorserAt := goodIn_r _ [12, 13, 45, 46, 47, 48, 49, 50, 51, 52, 53, 54] rfl (by decide +kernel)
set_option maxRecDepth 20000 in
theorem gX8_bindsEndorser_X0_endorserAt : GoodIn wsX8_bindsEndorser (wsV RX8 177 RX0 yX0_endorserAt wsX0_endorserAt) := goodIn_app (goodIn_of _ (by decide +kernel)) ggX8_bindsEndorser_X0_endorserAt
set_option maxRecDepth 20000 in
theorem ggX8_bindsEndorser_X8_roadOf : GoodIn wsX8_bindsEndorser wsX8_roadOf := goodIn_r _ [18, 19, 20, 55, 56, 57, 58, 59, 60, 61, 62, 63, 64, 65, 66, 67, 68, 69, 70, 71, 72] rfl (by decide +kernel)
set_option maxRecDepth 20000 in
theorem gX8_bindsEndorser_X8_roadOf : GoodIn wsX8_bindsEndorser (wsV RX8 190 RX8 yX8_roadOf wsX8_roadOf) := goodIn_app (goodIn_of _ (by decide +kernel)) ggX8_bindsEndorser_X8_roadOf
set_option maxRecDepth 20000 in
theorem ggX8_bindsEndorser_X8_customBinds : GoodIn wsX8_bindsEndorser wsX8_customBinds := goodIn_r _ [24, 25, 26, 27, 28, 29, 30, 31, 32, 33, 34, 35, 36, 37, 38, 39, 40, 41, 42, 43, 44, 55, 56, 57, 58, 59, 60, 61, 62, 63, 64, 65, 66, 67, 68, 69, 70, 71, 72, 73, 74, 75, 76, 77, 78] rfl (by decide +kernel)
set_option maxRecDepth 20000 in
theorem gX8_bindsEndorser_X8_customBinds : GoodIn wsX8_bindsEndorser (wsV RX8 220 RX8 yX8_customBinds wsX8_customBinds) := goodIn_app (goodIn_of _ (by decide +kernel)) ggX8_bindsEndorser_X8_customBinds
theorem dX8_bindsEndorser_0 : decode cX8_bindsEndorser 0 = .ok (.aload_n 0, 1) := by decide +kernel
theorem dX8_bindsEndorser_1 : decode cX8_bindsEndorser 1 = .ok (.aload_n 1, 1) := by decide +kernel
theorem dX8_bindsEndorser_2 : decode cX8_bindsEndorser 2 = .ok (.invokevirtual 164, 3) := by decide +kernel
theorem dX8_bindsEndorser_5 : decode cX8_bindsEndorser 5 = .ok (.aload_n 1, 1) := by decide +kernel
theorem dX8_bindsEndorser_6 : decode cX8_bindsEndorser 6 = .ok (.getfield 161, 3) := by decide +kernel
theorem dX8_bindsEndorser_9 : decode cX8_bindsEndorser 9 = .ok (.iload_n 2, 1) := by decide +kernel
theorem dX8_bindsEndorser_10 : decode cX8_bindsEndorser 10 = .ok (.aload_n 1, 1) := by decide +kernel
theorem dX8_bindsEndorser_11 : decode cX8_bindsEndorser 11 = .ok (.getfield 184, 3) := by decide +kernel
theorem dX8_bindsEndorser_14 : decode cX8_bindsEndorser 14 = .ok (.aload_n 0, 1) := by decide +kernel
theorem dX8_bindsEndorser_15 : decode cX8_bindsEndorser 15 = .ok (.aload_n 1, 1) := by decide +kernel
theorem dX8_bindsEndorser_16 : decode cX8_bindsEndorser 16 = .ok (.iload_n 2, 1) := by decide +kernel
theorem dX8_bindsEndorser_17 : decode cX8_bindsEndorser 17 = .ok (.invokevirtual 177, 3) := by decide +kernel
theorem dX8_bindsEndorser_20 : decode cX8_bindsEndorser 20 = .ok (.invokevirtual 190, 3) := by decide +kernel
theorem dX8_bindsEndorser_23 : decode cX8_bindsEndorser 23 = .ok (.invokevirtual 220, 3) := by decide +kernel
theorem dX8_bindsEndorser_26 : decode cX8_bindsEndorser 26 = .ok (.ireturn, 1) := by decide +kernel
set_option maxRecDepth 20000 in
theorem ggX8_customBinds_X2_bindsFor : GoodIn wsX8_customBinds wsX2_bindsFor := goodIn_r _ [7, 8, 9, 10, 11, 12, 6, 13, 14, 15, 16, 17, 18, 19, 20, 39, 40, 41, 42, 43, 44] rfl (by decide +kernel)
set_option maxRecDepth 20000 in
theorem gX8_customBinds_X2_bindsFor : GoodIn wsX8_customBinds (wsV RX8 342 RX2 yX2_bindsFor wsX2_bindsFor) := goodIn_app (goodIn_of _ (by decide +kernel)) ggX8_customBinds_X2_bindsFor
theorem dX8_customBinds_0 : decode cX8_customBinds 0 = .ok (.aload_n 0, 1) := by decide +kernel
theorem dX8_customBinds_1 : decode cX8_customBinds 1 = .ok (.getfield 28, 3) := by decide +kernel
theorem dX8_customBinds_4 : decode cX8_customBinds 4 = .ok (.iconst 0, 1) := by decide +kernel
theorem dX8_customBinds_5 : decode cX8_customBinds 5 = .ok (.iload_n 1, 1) := by decide +kernel
theorem dX8_customBinds_6 : decode cX8_customBinds 6 = .ok (.iastore, 1) := by decide +kernel
theorem dX8_customBinds_7 : decode cX8_customBinds 7 = .ok (.aload_n 0, 1) := by decide +kernel
theorem dX8_customBinds_8 : decode cX8_customBinds 8 = .ok (.getfield 28, 3) := by decide +kernel
theorem dX8_customBinds_11 : decode cX8_customBinds 11 = .ok (.iconst 1, 1) := by decide +kernel
theorem dX8_customBinds_12 : decode cX8_customBinds 12 = .ok (.iload_n 2, 1) := by decide +kernel
theorem dX8_customBinds_13 : decode cX8_customBinds 13 = .ok (.iastore, 1) := by decide +kernel
theorem dX8_customBinds_14 : decode cX8_customBinds 14 = .ok (.aload_n 0, 1) := by decide +kernel
theorem dX8_customBinds_15 : decode cX8_customBinds 15 = .ok (.getfield 28, 3) := by decide +kernel
theorem dX8_customBinds_18 : decode cX8_customBinds 18 = .ok (.iconst 2, 1) := by decide +kernel
theorem dX8_customBinds_19 : decode cX8_customBinds 19 = .ok (.iload_n 3, 1) := by decide +kernel
theorem dX8_customBinds_20 : decode cX8_customBinds 20 = .ok (.iastore, 1) := by decide +kernel
theorem dX8_customBinds_21 : decode cX8_customBinds 21 = .ok (.aload_n 0, 1) := by decide +kernel
theorem dX8_customBinds_22 : decode cX8_customBinds 22 = .ok (.getfield 28, 3) := by decide +kernel
theorem dX8_customBinds_25 : decode cX8_customBinds 25 = .ok (.iconst 3, 1) := by decide +kernel
theorem dX8_customBinds_26 : decode cX8_customBinds 26 = .ok (.iload 4, 2) := by decide +kernel
theorem dX8_customBinds_28 : decode cX8_customBinds 28 = .ok (.iastore, 1) := by decide +kernel
theorem dX8_customBinds_29 : decode cX8_customBinds 29 = .ok (.aload_n 0, 1) := by decide +kernel
theorem dX8_customBinds_30 : decode cX8_customBinds 30 = .ok (.getfield 28, 3) := by decide +kernel
theorem dX8_customBinds_33 : decode cX8_customBinds 33 = .ok (.iconst 4, 1) := by decide +kernel
theorem dX8_customBinds_34 : decode cX8_customBinds 34 = .ok (.iload 5, 2) := by decide +kernel
theorem dX8_customBinds_36 : decode cX8_customBinds 36 = .ok (.iastore, 1) := by decide +kernel
theorem dX8_customBinds_37 : decode cX8_customBinds 37 = .ok (.aload_n 0, 1) := by decide +kernel
theorem dX8_customBinds_38 : decode cX8_customBinds 38 = .ok (.getfield 77, 3) := by decide +kernel
theorem dX8_customBinds_41 : decode cX8_customBinds 41 = .ok (.aload_n 0, 1) := by decide +kernel
theorem dX8_customBinds_42 : decode cX8_customBinds 42 = .ok (.getfield 28, 3) := by decide +kernel
theorem dX8_customBinds_45 : decode cX8_customBinds 45 = .ok (.invokevirtual 342, 3) := by decide +kernel
theorem dX8_customBinds_48 : decode cX8_customBinds 48 = .ok (.ireturn, 1) := by decide +kernel
set_option maxRecDepth 20000 in
theorem ggX8_toldPayment_X5_figure : GoodIn wsX8_toldPayment wsX5_figure := goodIn_r _ [7, 8, 9, 10, 11, 12, 13, 6, 14, 15, 34, 35, 36, 37, 38, 39, 40, 41, 42, 43, 44] rfl (by decide +kernel)
set_option maxRecDepth 20000 in
theorem gX8_toldPayment_X5_figure : GoodIn wsX8_toldPayment (wsV RX8 255 RX5 yX5_figure wsX5_figure) := goodIn_app (goodIn_of _ (by decide +kernel)) ggX8_toldPayment_X5_figure
theorem dX8_toldPayment_0 : decode cX8_toldPayment 0 = .ok (.iconst 3, 1) := by decide +kernel
theorem dX8_toldPayment_1 : decode cX8_toldPayment 1 = .ok (.iload_n 1, 1) := by decide +kernel
theorem dX8_toldPayment_2 : decode cX8_toldPayment 2 = .ok (.imul, 1) := by decide +kernel
theorem dX8_toldPayment_3 : decode cX8_toldPayment 3 = .ok (.iconst 3, 1) := by decide +kernel
theorem dX8_toldPayment_4 : decode cX8_toldPayment 4 = .ok (.iadd, 1) := by decide +kernel
theorem dX8_toldPayment_5 : decode cX8_toldPayment 5 = .ok (.iload_n 2, 1) := by decide +kernel
theorem dX8_toldPayment_6 : decode cX8_toldPayment 6 = .ok (.if_icmp .le 5, 3) := by decide +kernel
theorem dX8_toldPayment_9 : decode cX8_toldPayment 9 = .ok (.iconst 0, 1) := by decide +kernel
theorem dX8_toldPayment_10 : decode cX8_toldPayment 10 = .ok (.ireturn, 1) := by decide +kernel
theorem dX8_toldPayment_11 : decode cX8_toldPayment 11 = .ok (.iconst 0, 1) := by decide +kernel
theorem dX8_toldPayment_12 : decode cX8_toldPayment 12 = .ok (.istore_n 3, 1) := by decide +kernel
theorem dX8_toldPayment_13 : decode cX8_toldPayment 13 = .ok (.iload_n 3, 1) := by decide +kernel
theorem dX8_toldPayment_14 : decode cX8_toldPayment 14 = .ok (.iconst 3, 1) := by decide +kernel
theorem dX8_toldPayment_15 : decode cX8_toldPayment 15 = .ok (.if_icmp .ge 35, 3) := by decide +kernel
theorem dX8_toldPayment_18 : decode cX8_toldPayment 18 = .ok (.aload_n 0, 1) := by decide +kernel
theorem dX8_toldPayment_19 : decode cX8_toldPayment 19 = .ok (.getfield 31, 3) := by decide +kernel
theorem dX8_toldPayment_22 : decode cX8_toldPayment 22 = .ok (.iconst 3, 1) := by decide +kernel
theorem dX8_toldPayment_23 : decode cX8_toldPayment 23 = .ok (.iload_n 1, 1) := by decide +kernel
theorem dX8_toldPayment_24 : decode cX8_toldPayment 24 = .ok (.imul, 1) := by decide +kernel
theorem dX8_toldPayment_25 : decode cX8_toldPayment 25 = .ok (.iload_n 3, 1) := by decide +kernel
theorem dX8_toldPayment_26 : decode cX8_toldPayment 26 = .ok (.iadd, 1) := by decide +kernel
theorem dX8_toldPayment_27 : decode cX8_toldPayment 27 = .ok (.iaload, 1) := by decide +kernel
theorem dX8_toldPayment_28 : decode cX8_toldPayment 28 = .ok (.i2l, 1) := by decide +kernel
theorem dX8_toldPayment_29 : decode cX8_toldPayment 29 = .ok (.aload_n 0, 1) := by decide +kernel
theorem dX8_toldPayment_30 : decode cX8_toldPayment 30 = .ok (.getfield 49, 3) := by decide +kernel
theorem dX8_toldPayment_33 : decode cX8_toldPayment 33 = .ok (.iload_n 1, 1) := by decide +kernel
theorem dX8_toldPayment_34 : decode cX8_toldPayment 34 = .ok (.iload_n 3, 1) := by decide +kernel
theorem dX8_toldPayment_35 : decode cX8_toldPayment 35 = .ok (.invokevirtual 255, 3) := by decide +kernel
theorem dX8_toldPayment_38 : decode cX8_toldPayment 38 = .ok (.lcmp, 1) := by decide +kernel
theorem dX8_toldPayment_39 : decode cX8_toldPayment 39 = .ok (.ifCond .eq 5, 3) := by decide +kernel
theorem dX8_toldPayment_42 : decode cX8_toldPayment 42 = .ok (.iconst 0, 1) := by decide +kernel
theorem dX8_toldPayment_43 : decode cX8_toldPayment 43 = .ok (.ireturn, 1) := by decide +kernel
theorem dX8_toldPayment_44 : decode cX8_toldPayment 44 = .ok (.iinc 3 1, 3) := by decide +kernel
theorem dX8_toldPayment_47 : decode cX8_toldPayment 47 = .ok (.goto (-34), 3) := by decide +kernel
theorem dX8_toldPayment_50 : decode cX8_toldPayment 50 = .ok (.iconst 1, 1) := by decide +kernel
theorem dX8_toldPayment_51 : decode cX8_toldPayment 51 = .ok (.ireturn, 1) := by decide +kernel

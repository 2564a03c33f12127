theorem dX9_clear_25 : decode cX9_clear 25 = .ok (.iconst 0, 1) := by decide +kernel
theorem dX9_clear_26 : decode cX9_clear 26 = .ok (.istore_n 1, 1) := by decide +kernel
theorem dX9_clear_27 : decode cX9_clear 27 = .ok (.iload_n 1, 1) := by decide +kernel
theorem dX9_clear_28 : decode cX9_clear 28 = .ok (.aload_n 0, 1) := by decide +kernel
theorem dX9_clear_29 : decode cX9_clear 29 = .ok (.getfield 306, 3) := by decide +kernel
theorem dX9_clear_32 : decode cX9_clear 32 = .ok (.if_icmp .ge 36, 3) := by decide +kernel
theorem dX9_clear_35 : decode cX9_clear 35 = .ok (.aload_n 0, 1) := by decide +kernel
theorem dX9_clear_36 : decode cX9_clear 36 = .ok (.getfield 52, 3) := by decide +kernel
theorem dX9_clear_39 : decode cX9_clear 39 = .ok (.bipush 10, 2) := by decide +kernel
theorem dX9_clear_41 : decode cX9_clear 41 = .ok (.aload_n 0, 1) := by decide +kernel
theorem dX9_clear_42 : decode cX9_clear 42 = .ok (.getfield 121, 3) := by decide +kernel
theorem dX9_clear_45 : decode cX9_clear 45 = .ok (.iload_n 1, 1) := by decide +kernel
theorem dX9_clear_46 : decode cX9_clear 46 = .ok (.iaload, 1) := by decide +kernel
theorem dX9_clear_47 : decode cX9_clear 47 = .ok (.imul, 1) := by decide +kernel
theorem dX9_clear_48 : decode cX9_clear 48 = .ok (.aload_n 0, 1) := by decide +kernel
theorem dX9_clear_49 : decode cX9_clear 49 = .ok (.getfield 124, 3) := by decide +kernel
theorem dX9_clear_52 : decode cX9_clear 52 = .ok (.iload_n 1, 1) := by decide +kernel
theorem dX9_clear_53 : decode cX9_clear 53 = .ok (.iaload, 1) := by decide +kernel
theorem dX9_clear_54 : decode cX9_clear 54 = .ok (.iadd, 1) := by decide +kernel
theorem dX9_clear_55 : decode cX9_clear 55 = .ok (.aload_n 0, 1) := by decide +kernel
theorem dX9_clear_56 : decode cX9_clear 56 = .ok (.getfield 127, 3) := by decide +kernel
theorem dX9_clear_59 : decode cX9_clear 59 = .ok (.iload_n 1, 1) := by decide +kernel
theorem dX9_clear_60 : decode cX9_clear 60 = .ok (.laload, 1) := by decide +kernel
theorem dX9_clear_61 : decode cX9_clear 61 = .ok (.lastore, 1) := by decide +kernel
theorem dX9_clear_62 : decode cX9_clear 62 = .ok (.iinc 1 1, 3) := by decide +kernel
theorem dX9_clear_65 : decode cX9_clear 65 = .ok (.goto (-38), 3) := by decide +kernel
theorem dX9_clear_68 : decode cX9_clear 68 = .ok (.aload_n 0, 1) := by decide +kernel
theorem dX9_clear_69 : decode cX9_clear 69 = .ok (.invokevirtual 330, 3) := by decide +kernel
theorem dX9_clear_72 : decode cX9_clear 72 = .ok (.lreturn, 1) := by decide +kernel
set_option maxRecDepth 20000 in
theorem ggX9_coin_X9_in : GoodIn wsX9_coin wsX9_in := goodIn_r _ [6] rfl (by decide +kernel)
set_option maxRecDepth 20000 in
theorem gX9_coin_X9_in : GoodIn wsX9_coin (va_wsS RX9 141 yX9_in wsX9_in) := goodIn_app (goodIn_of _ (by decide +kernel)) ggX9_coin_X9_in
set_option maxRecDepth 20000 in
theorem ggX9_coin_X9_finding : GoodIn wsX9_coin wsX9_finding := goodIn_r _ [10, 11, 12, 13, 14, 15, 16, 17, 18, 19, 20, 21, 22, 23, 24, 25, 26, 27, 28, 29, 30, 31, 32, 33, 34, 35, 36, 37, 38, 39, 40, 41, 42, 43, 44, 45, 46, 47, 48, 49, 50, 51, 52, 53, 54, 55, 56, 57, 58, 59, 60, 61, 62, 63, 64, 65, 66, 67] rfl (by decide +kernel)
set_option maxRecDepth 20000 in
theorem gX9_coin_X9_finding : GoodIn wsX9_coin (wsV RX9 154 RX9 yX9_finding wsX9_finding) := goodIn_app (goodIn_of _ (by decide +kernel)) ggX9_coin_X9_finding
theorem dX9_coin_0 : decode cX9_coin 0 = .ok (.iload_n 1, 1) := by decide +kernel
theorem dX9_coin_1 : decode cX9_coin 1 = .ok (.iconst 0, 1) := by decide +kernel
theorem dX9_coin_2 : decode cX9_coin 2 = .ok (.iconst 3, 1) := by decide +kernel
theorem dX9_coin_3 : decode cX9_coin 3 = .ok (.invokestatic 141, 3) := by decide +kernel
theorem dX9_coin_6 : decode cX9_coin 6 = .ok (.ifCond .eq 25, 3) := by decide +kernel
theorem dX9_coin_9 : decode cX9_coin 9 = .ok (.iload_n 2, 1) := by decide +kernel
theorem dX9_coin_10 : decode cX9_coin 10 = .ok (.iconst 0, 1) := by decide +kernel
theorem dX9_coin_11 : decode cX9_coin 11 = .ok (.sipush 1000, 3) := by decide +kernel
theorem dX9_coin_14 : decode cX9_coin 14 = .ok (.invokestatic 141, 3) := by decide +kernel
theorem dX9_coin_17 : decode cX9_coin 17 = .ok (.ifCond .eq 14, 3) := by decide +kernel
theorem dX9_coin_20 : decode cX9_coin 20 = .ok (.iload_n 3, 1) := by decide +kernel
theorem dX9_coin_21 : decode cX9_coin 21 = .ok (.iconst 0, 1) := by decide +kernel
theorem dX9_coin_22 : decode cX9_coin 22 = .ok (.sipush 1000, 3) := by decide +kernel
theorem dX9_coin_25 : decode cX9_coin 25 = .ok (.invokestatic 141, 3) := by decide +kernel
theorem dX9_coin_28 : decode cX9_coin 28 = .ok (.ifCond .ne 11, 3) := by decide +kernel
theorem dX9_coin_31 : decode cX9_coin 31 = .ok (.aload_n 0, 1) := by decide +kernel
theorem dX9_coin_32 : decode cX9_coin 32 = .ok (.ldc2_w 152, 3) := by decide +kernel
theorem dX9_coin_35 : decode cX9_coin 35 = .ok (.invokevirtual 154, 3) := by decide +kernel
theorem dX9_coin_38 : decode cX9_coin 38 = .ok (.lreturn, 1) := by decide +kernel
theorem dX9_coin_39 : decode cX9_coin 39 = .ok (.aload_n 0, 1) := by decide +kernel
theorem dX9_coin_40 : decode cX9_coin 40 = .ok (.getfield 55, 3) := by decide +kernel
theorem dX9_coin_43 : decode cX9_coin 43 = .ok (.iload_n 1, 1) := by decide +kernel
theorem dX9_coin_44 : decode cX9_coin 44 = .ok (.iload_n 2, 1) := by decide +kernel
theorem dX9_coin_45 : decode cX9_coin 45 = .ok (.iload_n 3, 1) := by decide +kernel
theorem dX9_coin_46 : decode cX9_coin 46 = .ok (.imul, 1) := by decide +kernel
theorem dX9_coin_47 : decode cX9_coin 47 = .ok (.sipush 1000, 3) := by decide +kernel
theorem dX9_coin_50 : decode cX9_coin 50 = .ok (.idiv, 1) := by decide +kernel
theorem dX9_coin_51 : decode cX9_coin 51 = .ok (.iastore, 1) := by decide +kernel
theorem dX9_coin_52 : decode cX9_coin 52 = .ok (.aload_n 0, 1) := by decide +kernel
theorem dX9_coin_53 : decode cX9_coin 53 = .ok (.getfield 55, 3) := by decide +kernel
theorem dX9_coin_56 : decode cX9_coin 56 = .ok (.iload_n 1, 1) := by decide +kernel
theorem dX9_coin_57 : decode cX9_coin 57 = .ok (.iaload, 1) := by decide +kernel
theorem dX9_coin_58 : decode cX9_coin 58 = .ok (.i2l, 1) := by decide +kernel
theorem dX9_coin_59 : decode cX9_coin 59 = .ok (.lreturn, 1) := by decide +kernel
set_option maxRecDepth 20000 in
theorem ggX9_purse_X9_isHouse : GoodIn wsX9_purse wsX9_isHouse := goodIn_r _ [6, 7, 8, 5, 9] rfl (by decide +kernel)
set_option maxRecDepth 20000 in
theorem gX9_purse_X9_isHouse : GoodIn wsX9_purse (va_wsS RX9 171 yX9_isHouse wsX9_isHouse) := goodIn_app (goodIn_of _ (by decide +kernel)) ggX9_purse_X9_isHouse
set_option maxRecDepth 20000 in
theorem ggX9_purse_X9_in : GoodIn wsX9_purse wsX9_in := goodIn_r _ [9] rfl (by decide +kernel)
set_option maxRecDepth 20000 in
theorem gX9_purse_X9_in : GoodIn wsX9_purse (va_wsS RX9 141 yX9_in wsX9_in) := goodIn_app (goodIn_of _ (by decide +kernel)) ggX9_purse_X9_in
set_option maxRecDepth 20000 in
theorem ggX9_purse_X9_finding : GoodIn wsX9_purse wsX9_finding := goodIn_r _ [13, 14, 15, 16, 17, 18, 19, 20, 21, 22, 23, 24, 25, 26, 27, 28, 29, 30, 31, 32, 33, 34, 35, 36, 37, 38, 39, 40, 41, 42, 43, 44, 45, 46, 47, 48, 49, 50, 51, 52, 53, 54, 55, 56, 57, 58, 59, 60, 61, 62, 63, 64, 65, 66, 67, 68, 69, 70] rfl (by decide +kernel)
set_option maxRecDepth 20000 in
theorem gX9_purse_X9_finding : GoodIn wsX9_purse (wsV RX9 154 RX9 yX9_finding wsX9_finding) := goodIn_app (goodIn_of _ (by decide +kernel)) ggX9_purse_X9_finding
theorem dX9_purse_0 : decode cX9_purse 0 = .ok (.iload_n 1, 1) := by decide +kernel
theorem dX9_purse_1 : decode cX9_purse 1 = .ok (.invokestatic 171, 3) := by decide +kernel
theorem dX9_purse_4 : decode cX9_purse 4 = .ok (.ifCond .eq 23, 3) := by decide +kernel
theorem dX9_purse_7 : decode cX9_purse 7 = .ok (.iload_n 2, 1) := by decide +kernel
theorem dX9_purse_8 : decode cX9_purse 8 = .ok (.iconst 0, 1) := by decide +kernel
theorem dX9_purse_9 : decode cX9_purse 9 = .ok (.iconst 3, 1) := by decide +kernel
theorem dX9_purse_10 : decode cX9_purse 10 = .ok (.invokestatic 141, 3) := by decide +kernel
theorem dX9_purse_13 : decode cX9_purse 13 = .ok (.ifCond .eq 14, 3) := by decide +kernel
theorem dX9_purse_16 : decode cX9_purse 16 = .ok (.iload_n 3, 1) := by decide +kernel
theorem dX9_purse_17 : decode cX9_purse 17 = .ok (.iconst 0, 1) := by decide +kernel
theorem dX9_purse_18 : decode cX9_purse 18 = .ok (.sipush 1000, 3) := by decide +kernel
theorem dX9_purse_21 : decode cX9_purse 21 = .ok (.invokestatic 141, 3) := by decide +kernel
theorem dX9_purse_24 : decode cX9_purse 24 = .ok (.ifCond .ne 11, 3) := by decide +kernel
theorem dX9_purse_27 : decode cX9_purse 27 = .ok (.aload_n 0, 1) := by decide +kernel
theorem dX9_purse_28 : decode cX9_purse 28 = .ok (.ldc2_w 152, 3) := by decide +kernel
theorem dX9_purse_31 : decode cX9_purse 31 = .ok (.invokevirtual 154, 3) := by decide +kernel
theorem dX9_purse_34 : decode cX9_purse 34 = .ok (.lreturn, 1) := by decide +kernel
theorem dX9_purse_35 : decode cX9_purse 35 = .ok (.aload_n 0, 1) := by decide +kernel
theorem dX9_purse_36 : decode cX9_purse 36 = .ok (.getfield 58, 3) := by decide +kernel
theorem dX9_purse_39 : decode cX9_purse 39 = .ok (.iconst 4, 1) := by decide +kernel
theorem dX9_purse_40 : decode cX9_purse 40 = .ok (.iload_n 1, 1) := by decide +kernel
theorem dX9_purse_41 : decode cX9_purse 41 = .ok (.imul, 1) := by decide +kernel
theorem dX9_purse_42 : decode cX9_purse 42 = .ok (.iload_n 2, 1) := by decide +kernel
theorem dX9_purse_43 : decode cX9_purse 43 = .ok (.iadd, 1) := by decide +kernel
theorem dX9_purse_44 : decode cX9_purse 44 = .ok (.iaload, 1) := by decide +kernel
theorem dX9_purse_45 : decode cX9_purse 45 = .ok (.istore 4, 2) := by decide +kernel
theorem dX9_purse_47 : decode cX9_purse 47 = .ok (.aload_n 0, 1) := by decide +kernel
theorem dX9_purse_48 : decode cX9_purse 48 = .ok (.getfield 58, 3) := by decide +kernel
theorem dX9_purse_51 : decode cX9_purse 51 = .ok (.iconst 4, 1) := by decide +kernel
theorem dX9_purse_52 : decode cX9_purse 52 = .ok (.iload_n 1, 1) := by decide +kernel
theorem dX9_purse_53 : decode cX9_purse 53 = .ok (.imul, 1) := by decide +kernel
theorem dX9_purse_54 : decode cX9_purse 54 = .ok (.iload_n 2, 1) := by decide +kernel
theorem dX9_purse_55 : decode cX9_purse 55 = .ok (.iadd, 1) := by decide +kernel
theorem dX9_purse_56 : decode cX9_purse 56 = .ok (.iload_n 3, 1) := by decide +kernel
theorem dX9_purse_57 : decode cX9_purse 57 = .ok (.iastore, 1) := by decide +kernel
theorem dX9_purse_58 : decode cX9_purse 58 = .ok (.iload 4, 2) := by decide +kernel
theorem dX9_purse_60 : decode cX9_purse 60 = .ok (.i2l, 1) := by decide +kernel
theorem dX9_purse_61 : decode cX9_purse 61 = .ok (.lreturn, 1) := by decide +kernel
set_option maxRecDepth 20000 in
theorem ggX9_has_X9_isHouse : GoodIn wsX9_has wsX9_isHouse := goodIn_r _ [7, 8, 9, 6, 10] rfl (by decide +kernel)
set_option maxRecDepth 20000 in
theorem gX9_has_X9_isHouse : GoodIn wsX9_has (va_wsS RX9 171 yX9_isHouse wsX9_isHouse) := goodIn_app (goodIn_of _ (by decide +kernel)) ggX9_has_X9_isHouse
set_option maxRecDepth 20000 in
theorem ggX9_has_X9_in : GoodIn wsX9_has wsX9_in := goodIn_r _ [10] rfl (by decide +kernel)
set_option maxRecDepth 20000 in
theorem gX9_has_X9_in : GoodIn wsX9_has (va_wsS RX9 141 yX9_in wsX9_in) := goodIn_app (goodIn_of _ (by decide +kernel)) ggX9_has_X9_in
set_option maxRecDepth 20000 in
theorem ggX9_has_X9_finding : GoodIn wsX9_has wsX9_finding := goodIn_r _ [14, 15, 16, 17, 18, 19, 20, 21, 22, 23, 24, 25, 26, 27, 28, 29, 30, 31, 32, 33, 34, 35, 36, 37, 38, 39, 40, 41, 42, 43, 44, 45, 46, 47, 48, 49, 50, 51, 52, 53, 54, 55, 56, 57, 58, 59, 60, 61, 62, 63, 64, 65, 66, 67, 68, 69, 70, 71] rfl (by decide +kernel)
set_option maxRecDepth 20000 in
theorem gX9_has_X9_finding : GoodIn wsX9_has (wsV RX9 154 RX9 yX9_finding wsX9_finding) := goodIn_app (goodIn_of _ (by decide +kernel)) ggX9_has_X9_finding
theorem dX9_has_0 : decode cX9_has 0 = .ok (.iload_n 1, 1) := by decide +kernel
theorem dX9_has_1 : decode cX9_has 1 = .ok (.invokestatic 171, 3) := by decide +kernel
theorem dX9_has_4 : decode cX9_has 4 = .ok (.ifCond .eq 12, 3) := by decide +kernel
theorem dX9_has_7 : decode cX9_has 7 = .ok (.iload_n 2, 1) := by decide +kernel
theorem dX9_has_8 : decode cX9_has 8 = .ok (.iconst (-1), 1) := by decide +kernel
theorem dX9_has_9 : decode cX9_has 9 = .ok (.iconst 3, 1) := by decide +kernel
theorem dX9_has_10 : decode cX9_has 10 = .ok (.invokestatic 141, 3) := by decide +kernel
theorem dX9_has_13 : decode cX9_has 13 = .ok (.ifCond .ne 11, 3) := by decide +kernel
theorem dX9_has_16 : decode cX9_has 16 = .ok (.aload_n 0, 1) := by decide +kernel
theorem dX9_has_17 : decode cX9_has 17 = .ok (.ldc2_w 152, 3) := by decide +kernel
theorem dX9_has_20 : decode cX9_has 20 = .ok (.invokevirtual 154, 3) := by decide +kernel
theorem dX9_has_23 : decode cX9_has 23 = .ok (.lreturn, 1) := by decide +kernel
theorem dX9_has_24 : decode cX9_has 24 = .ok (.iload_n 2, 1) := by decide +kernel
theorem dX9_has_25 : decode cX9_has 25 = .ok (.ifCond .lt 15, 3) := by decide +kernel
theorem dX9_has_28 : decode cX9_has 28 = .ok (.aload_n 0, 1) := by decide +kernel
theorem dX9_has_29 : decode cX9_has 29 = .ok (.getfield 58, 3) := by decide +kernel
theorem dX9_has_32 : decode cX9_has 32 = .ok (.iconst 4, 1) := by decide +kernel
theorem dX9_has_33 : decode cX9_has 33 = .ok (.iload_n 1, 1) := by decide +kernel
theorem dX9_has_34 : decode cX9_has 34 = .ok (.imul, 1) := by decide +kernel
theorem dX9_has_35 : decode cX9_has 35 = .ok (.iload_n 2, 1) := by decide +kernel
theorem dX9_has_36 : decode cX9_has 36 = .ok (.iadd, 1) := by decide +kernel
theorem dX9_has_37 : decode cX9_has 37 = .ok (.iaload, 1) := by decide +kernel
theorem dX9_has_38 : decode cX9_has 38 = .ok (.i2l, 1) := by decide +kernel
theorem dX9_has_39 : decode cX9_has 39 = .ok (.lreturn, 1) := by decide +kernel
theorem dX9_has_40 : decode cX9_has 40 = .ok (.lconst 0, 1) := by decide +kernel
theorem dX9_has_41 : decode cX9_has 41 = .ok (.lstore_n 3, 1) := by decide +kernel
theorem dX9_has_42 : decode cX9_has 42 = .ok (.iconst 0, 1) := by decide +kernel
theorem dX9_has_43 : decode cX9_has 43 = .ok (.istore 5, 2) := by decide +kernel
theorem dX9_has_45 : decode cX9_has 45 = .ok (.iload 5, 2) := by decide +kernel
theorem dX9_has_47 : decode cX9_has 47 = .ok (.iconst 4, 1) := by decide +kernel
theorem dX9_has_48 : decode cX9_has 48 = .ok (.if_icmp .ge 33, 3) := by decide +kernel
theorem dX9_has_51 : decode cX9_has 51 = .ok (.lload_n 3, 1) := by decide +kernel
theorem dX9_has_52 : decode cX9_has 52 = .ok (.aload_n 0, 1) := by decide +kernel
theorem dX9_has_53 : decode cX9_has 53 = .ok (.getfield 58, 3) := by decide +kernel
theorem dX9_has_56 : decode cX9_has 56 = .ok (.iconst 4, 1) := by decide +kernel
theorem dX9_has_57 : decode cX9_has 57 = .ok (.iload_n 1, 1) := by decide +kernel
theorem dX9_has_58 : decode cX9_has 58 = .ok (.imul, 1) := by decide +kernel
theorem dX9_has_59 : decode cX9_has 59 = .ok (.iload 5, 2) := by decide +kernel
theorem dX9_has_61 : decode cX9_has 61 = .ok (.iadd, 1) := by decide +kernel
theorem dX9_has_62 : decode cX9_has 62 = .ok (.iaload, 1) := by decide +kernel
theorem dX9_has_63 : decode cX9_has 63 = .ok (.i2l, 1) := by decide +kernel
theorem dX9_has_64 : decode cX9_has 64 = .ok (.aload_n 0, 1) := by decide +kernel
theorem dX9_has_65 : decode cX9_has 65 = .ok (.getfield 55, 3) := by decide +kernel
theorem dX9_has_68 : decode cX9_has 68 = .ok (.iload 5, 2) := by decide +kernel
theorem dX9_has_70 : decode cX9_has 70 = .ok (.iaload, 1) := by decide +kernel
theorem dX9_has_71 : decode cX9_has 71 = .ok (.i2l, 1) := by decide +kernel
theorem dX9_has_72 : decode cX9_has 72 = .ok (.lmul, 1) := by decide +kernel
theorem dX9_has_73 : decode cX9_has 73 = .ok (.ladd, 1) := by decide +kernel
theorem dX9_has_74 : decode cX9_has 74 = .ok (.lstore_n 3, 1) := by decide +kernel
theorem dX9_has_75 : decode cX9_has 75 = .ok (.iinc 5 1, 3) := by decide +kernel
theorem dX9_has_78 : decode cX9_has 78 = .ok (.goto (-33), 3) := by decide +kernel
theorem dX9_has_81 : decode cX9_has 81 = .ok (.lload_n 3, 1) := by decide +kernel
theorem dX9_has_82 : decode cX9_has 82 = .ok (.lreturn, 1) := by decide +kernel
set_option maxRecDepth 20000 in
theorem ggX9_settle_X9_isHouse : GoodIn wsX9_settle wsX9_isHouse := goodIn_r _ [13, 14, 15, 12, 16] rfl (by decide +kernel)
set_option maxRecDepth 20000 in
theorem gX9_settle_X9_isHouse : GoodIn wsX9_settle (va_wsS RX9 171 yX9_isHouse wsX9_isHouse) := goodIn_app (goodIn_of _ (by decide +kernel)) ggX9_settle_X9_isHouse
set_option maxRecDepth 20000 in
theorem ggX9_settle_X9_finding : GoodIn wsX9_settle wsX9_finding := goodIn_r _ [20, 21, 22, 23, 24, 25, 26, 27, 28, 29, 30, 31, 32, 33, 34, 35, 36, 37, 38, 39, 40, 41, 42, 43, 44, 45, 46, 47, 48, 49, 50, 51, 52, 53, 54, 55, 56, 57, 58, 59, 60, 61, 62, 63, 64, 65, 66, 67, 68, 69, 70, 71, 72, 73, 74, 75, 76, 77] rfl (by decide +kernel)
set_option maxRecDepth 20000 in
theorem gX9_settle_X9_finding : GoodIn wsX9_settle (wsV RX9 154 RX9 yX9_finding wsX9_finding) := goodIn_app (goodIn_of _ (by decide +kernel)) ggX9_settle_X9_finding
theorem dX9_settle_0 : decode cX9_settle 0 = .ok (.iload_n 1, 1) := by decide +kernel
theorem dX9_settle_1 : decode cX9_settle 1 = .ok (.invokestatic 171, 3) := by decide +kernel
theorem dX9_settle_4 : decode cX9_settle 4 = .ok (.ifCond .eq 15, 3) := by decide +kernel
theorem dX9_settle_7 : decode cX9_settle 7 = .ok (.iload_n 2, 1) := by decide +kernel
theorem dX9_settle_8 : decode cX9_settle 8 = .ok (.invokestatic 171, 3) := by decide +kernel
theorem dX9_settle_11 : decode cX9_settle 11 = .ok (.ifCond .eq 8, 3) := by decide +kernel
theorem dX9_settle_14 : decode cX9_settle 14 = .ok (.iload_n 1, 1) := by decide +kernel
theorem dX9_settle_15 : decode cX9_settle 15 = .ok (.iload_n 2, 1) := by decide +kernel
theorem dX9_settle_16 : decode cX9_settle 16 = .ok (.if_icmp .ne 11, 3) := by decide +kernel
theorem dX9_settle_19 : decode cX9_settle 19 = .ok (.aload_n 0, 1) := by decide +kernel
theorem dX9_settle_20 : decode cX9_settle 20 = .ok (.ldc2_w 152, 3) := by decide +kernel
theorem dX9_settle_23 : decode cX9_settle 23 = .ok (.invokevirtual 154, 3) := by decide +kernel
theorem dX9_settle_26 : decode cX9_settle 26 = .ok (.lreturn, 1) := by decide +kernel
theorem dX9_settle_27 : decode cX9_settle 27 = .ok (.aload_n 0, 1) := by decide +kernel
theorem dX9_settle_28 : decode cX9_settle 28 = .ok (.getfield 52, 3) := by decide +kernel
theorem dX9_settle_31 : decode cX9_settle 31 = .ok (.bipush 10, 2) := by decide +kernel
theorem dX9_settle_33 : decode cX9_settle 33 = .ok (.iload_n 1, 1) := by decide +kernel
theorem dX9_settle_34 : decode cX9_settle 34 = .ok (.imul, 1) := by decide +kernel
theorem dX9_settle_35 : decode cX9_settle 35 = .ok (.iload_n 2, 1) := by decide +kernel
theorem dX9_settle_36 : decode cX9_settle 36 = .ok (.iadd, 1) := by decide +kernel
theorem dX9_settle_37 : decode cX9_settle 37 = .ok (.laload, 1) := by decide +kernel
theorem dX9_settle_38 : decode cX9_settle 38 = .ok (.lconst 0, 1) := by decide +kernel
theorem dX9_settle_39 : decode cX9_settle 39 = .ok (.lcmp, 1) := by decide +kernel
theorem dX9_settle_40 : decode cX9_settle 40 = .ok (.ifCond .ne 11, 3) := by decide +kernel
theorem dX9_settle_43 : decode cX9_settle 43 = .ok (.aload_n 0, 1) := by decide +kernel
theorem dX9_settle_44 : decode cX9_settle 44 = .ok (.ldc2_w 211, 3) := by decide +kernel
theorem dX9_settle_47 : decode cX9_settle 47 = .ok (.invokevirtual 154, 3) := by decide +kernel
theorem dX9_settle_50 : decode cX9_settle 50 = .ok (.lreturn, 1) := by decide +kernel
theorem dX9_settle_51 : decode cX9_settle 51 = .ok (.aload_n 0, 1) := by decide +kernel
theorem dX9_settle_52 : decode cX9_settle 52 = .ok (.getfield 52, 3) := by decide +kernel
theorem dX9_settle_55 : decode cX9_settle 55 = .ok (.bipush 10, 2) := by decide +kernel
theorem dX9_settle_57 : decode cX9_settle 57 = .ok (.iload_n 1, 1) := by decide +kernel
theorem dX9_settle_58 : decode cX9_settle 58 = .ok (.imul, 1) := by decide +kernel
theorem dX9_settle_59 : decode cX9_settle 59 = .ok (.iload_n 2, 1) := by decide +kernel
theorem dX9_settle_60 : decode cX9_settle 60 = .ok (.iadd, 1) := by decide +kernel
theorem dX9_settle_61 : decode cX9_settle 61 = .ok (.laload, 1) := by decide +kernel
theorem dX9_settle_62 : decode cX9_settle 62 = .ok (.lstore_n 3, 1) := by decide +kernel
theorem dX9_settle_63 : decode cX9_settle 63 = .ok (.sipush 1000, 3) := by decide +kernel
theorem dX9_settle_66 : decode cX9_settle 66 = .ok (.istore 5, 2) := by decide +kernel
theorem dX9_settle_68 : decode cX9_settle 68 = .ok (.iload 5, 2) := by decide +kernel
theorem dX9_settle_70 : decode cX9_settle 70 = .ok (.ifCond .le 137, 3) := by decide +kernel
theorem dX9_settle_73 : decode cX9_settle 73 = .ok (.iconst 0, 1) := by decide +kernel
theorem dX9_settle_74 : decode cX9_settle 74 = .ok (.istore 6, 2) := by decide +kernel
theorem dX9_settle_76 : decode cX9_settle 76 = .ok (.iload 6, 2) := by decide +kernel
theorem dX9_settle_78 : decode cX9_settle 78 = .ok (.iconst 4, 1) := by decide +kernel
theorem dX9_settle_79 : decode cX9_settle 79 = .ok (.if_icmp .ge 122, 3) := by decide +kernel
theorem dX9_settle_82 : decode cX9_settle 82 = .ok (.aload_n 0, 1) := by decide +kernel
theorem dX9_settle_83 : decode cX9_settle 83 = .ok (.getfield 55, 3) := by decide +kernel
theorem dX9_settle_86 : decode cX9_settle 86 = .ok (.iload 6, 2) := by decide +kernel
theorem dX9_settle_88 : decode cX9_settle 88 = .ok (.iaload, 1) := by decide +kernel
theorem dX9_settle_89 : decode cX9_settle 89 = .ok (.iload 5, 2) := by decide +kernel
theorem dX9_settle_91 : decode cX9_settle 91 = .ok (.if_icmp .eq 6, 3) := by decide +kernel
theorem dX9_settle_94 : decode cX9_settle 94 = .ok (.goto 101, 3) := by decide +kernel
theorem dX9_settle_97 : decode cX9_settle 97 = .ok (.aload_n 0, 1) := by decide +kernel
theorem dX9_settle_98 : decode cX9_settle 98 = .ok (.getfield 58, 3) := by decide +kernel
theorem dX9_settle_101 : decode cX9_settle 101 = .ok (.iconst 4, 1) := by decide +kernel
theorem dX9_settle_102 : decode cX9_settle 102 = .ok (.iload_n 1, 1) := by decide +kernel
theorem dX9_settle_103 : decode cX9_settle 103 = .ok (.imul, 1) := by decide +kernel
theorem dX9_settle_104 : decode cX9_settle 104 = .ok (.iload 6, 2) := by decide +kernel
theorem dX9_settle_106 : decode cX9_settle 106 = .ok (.iadd, 1) := by decide +kernel
theorem dX9_settle_107 : decode cX9_settle 107 = .ok (.iaload, 1) := by decide +kernel
theorem dX9_settle_108 : decode cX9_settle 108 = .ok (.sipush 1000, 3) := by decide +kernel
theorem dX9_settle_111 : decode cX9_settle 111 = .ok (.aload_n 0, 1) := by decide +kernel
theorem dX9_settle_112 : decode cX9_settle 112 = .ok (.getfield 58, 3) := by decide +kernel
theorem dX9_settle_115 : decode cX9_settle 115 = .ok (.iconst 4, 1) := by decide +kernel
theorem dX9_settle_116 : decode cX9_settle 116 = .ok (.iload_n 2, 1) := by decide +kernel
theorem dX9_settle_117 : decode cX9_settle 117 = .ok (.imul, 1) := by decide +kernel
theorem dX9_settle_118 : decode cX9_settle 118 = .ok (.iload 6, 2) := by decide +kernel
theorem dX9_settle_120 : decode cX9_settle 120 = .ok (.iadd, 1) := by decide +kernel
theorem dX9_settle_121 : decode cX9_settle 121 = .ok (.iaload, 1) := by decide +kernel
theorem dX9_settle_122 : decode cX9_settle 122 = .ok (.isub, 1) := by decide +kernel
theorem dX9_settle_123 : decode cX9_settle 123 = .ok (.invokestatic 334, 3) := by decide +kernel
theorem dX9_settle_126 : decode cX9_settle 126 = .ok (.istore 7, 2) := by decide +kernel
theorem dX9_settle_128 : decode cX9_settle 128 = .ok (.lload_n 3, 1) := by decide +kernel
theorem dX9_settle_129 : decode cX9_settle 129 = .ok (.iload 5, 2) := by decide +kernel
theorem dX9_settle_131 : decode cX9_settle 131 = .ok (.i2l, 1) := by decide +kernel
theorem dX9_settle_132 : decode cX9_settle 132 = .ok (.ldiv, 1) := by decide +kernel
theorem dX9_settle_133 : decode cX9_settle 133 = .ok (.iload 7, 2) := by decide +kernel
theorem dX9_settle_135 : decode cX9_settle 135 = .ok (.i2l, 1) := by decide +kernel
theorem dX9_settle_136 : decode cX9_settle 136 = .ok (.lcmp, 1) := by decide +kernel
theorem dX9_settle_137 : decode cX9_settle 137 = .ok (.ifCond .ge 12, 3) := by decide +kernel
theorem dX9_settle_140 : decode cX9_settle 140 = .ok (.lload_n 3, 1) := by decide +kernel
theorem dX9_settle_141 : decode cX9_settle 141 = .ok (.iload 5, 2) := by decide +kernel
theorem dX9_settle_143 : decode cX9_settle 143 = .ok (.i2l, 1) := by decide +kernel
theorem dX9_settle_144 : decode cX9_settle 144 = .ok (.ldiv, 1) := by decide +kernel
theorem dX9_settle_145 : decode cX9_settle 145 = .ok (.l2i, 1) := by decide +kernel
theorem dX9_settle_146 : decode cX9_settle 146 = .ok (.goto 5, 3) := by decide +kernel
theorem dX9_settle_149 : decode cX9_settle 149 = .ok (.iload 7, 2) := by decide +kernel
theorem dX9_settle_151 : decode cX9_settle 151 = .ok (.istore 7, 2) := by decide +kernel
theorem dX9_settle_153 : decode cX9_settle 153 = .ok (.aload_n 0, 1) := by decide +kernel
theorem dX9_settle_154 : decode cX9_settle 154 = .ok (.getfield 58, 3) := by decide +kernel
theorem dX9_settle_157 : decode cX9_settle 157 = .ok (.iconst 4, 1) := by decide +kernel
theorem dX9_settle_158 : decode cX9_settle 158 = .ok (.iload_n 1, 1) := by decide +kernel
theorem dX9_settle_159 : decode cX9_settle 159 = .ok (.imul, 1) := by decide +kernel
theorem dX9_settle_160 : decode cX9_settle 160 = .ok (.iload 6, 2) := by decide +kernel
theorem dX9_settle_162 : decode cX9_settle 162 = .ok (.iadd, 1) := by decide +kernel
theorem dX9_settle_163 : decode cX9_settle 163 = .ok (.dup2, 1) := by decide +kernel
theorem dX9_settle_164 : decode cX9_settle 164 = .ok (.iaload, 1) := by decide +kernel
theorem dX9_settle_165 : decode cX9_settle 165 = .ok (.iload 7, 2) := by decide +kernel
theorem dX9_settle_167 : decode cX9_settle 167 = .ok (.isub, 1) := by decide +kernel
theorem dX9_settle_168 : decode cX9_settle 168 = .ok (.iastore, 1) := by decide +kernel
theorem dX9_settle_169 : decode cX9_settle 169 = .ok (.aload_n 0, 1) := by decide +kernel
theorem dX9_settle_170 : decode cX9_settle 170 = .ok (.getfield 58, 3) := by decide +kernel
theorem dX9_settle_173 : decode cX9_settle 173 = .ok (.iconst 4, 1) := by decide +kernel
theorem dX9_settle_174 : decode cX9_settle 174 = .ok (.iload_n 2, 1) := by decide +kernel
theorem dX9_settle_175 : decode cX9_settle 175 = .ok (.imul, 1) := by decide +kernel
theorem dX9_settle_176 : decode cX9_settle 176 = .ok (.iload 6, 2) := by decide +kernel
theorem dX9_settle_178 : decode cX9_settle 178 = .ok (.iadd, 1) := by decide +kernel
theorem dX9_settle_179 : decode cX9_settle 179 = .ok (.dup2, 1) := by decide +kernel
theorem dX9_settle_180 : decode cX9_settle 180 = .ok (.iaload, 1) := by decide +kernel
theorem dX9_settle_181 : decode cX9_settle 181 = .ok (.iload 7, 2) := by decide +kernel
theorem dX9_settle_183 : decode cX9_settle 183 = .ok (.iadd, 1) := by decide +kernel
theorem dX9_settle_184 : decode cX9_settle 184 = .ok (.iastore, 1) := by decide +kernel
theorem dX9_settle_185 : decode cX9_settle 185 = .ok (.lload_n 3, 1) := by decide +kernel
theorem dX9_settle_186 : decode cX9_settle 186 = .ok (.iload 7, 2) := by decide +kernel
theorem dX9_settle_188 : decode cX9_settle 188 = .ok (.i2l, 1) := by decide +kernel
theorem dX9_settle_189 : decode cX9_settle 189 = .ok (.iload 5, 2) := by decide +kernel
theorem dX9_settle_191 : decode cX9_settle 191 = .ok (.i2l, 1) := by decide +kernel
theorem dX9_settle_192 : decode cX9_settle 192 = .ok (.lmul, 1) := by decide +kernel
theorem dX9_settle_193 : decode cX9_settle 193 = .ok (.lsub, 1) := by decide +kernel
theorem dX9_settle_194 : decode cX9_settle 194 = .ok (.lstore_n 3, 1) := by decide +kernel
theorem dX9_settle_195 : decode cX9_settle 195 = .ok (.iinc 6 1, 3) := by decide +kernel
theorem dX9_settle_198 : decode cX9_settle 198 = .ok (.goto (-122), 3) := by decide +kernel
theorem dX9_settle_201 : decode cX9_settle 201 = .ok (.iinc 5 (-1), 3) := by decide +kernel
theorem dX9_settle_204 : decode cX9_settle 204 = .ok (.goto (-136), 3) := by decide +kernel
theorem dX9_settle_207 : decode cX9_settle 207 = .ok (.aload_n 0, 1) := by decide +kernel
theorem dX9_settle_208 : decode cX9_settle 208 = .ok (.getfield 52, 3) := by decide +kernel
theorem dX9_settle_211 : decode cX9_settle 211 = .ok (.bipush 10, 2) := by decide +kernel
theorem dX9_settle_213 : decode cX9_settle 213 = .ok (.iload_n 1, 1) := by decide +kernel
theorem dX9_settle_214 : decode cX9_settle 214 = .ok (.imul, 1) := by decide +kernel
theorem dX9_settle_215 : decode cX9_settle 215 = .ok (.iload_n 2, 1) := by decide +kernel
theorem dX9_settle_216 : decode cX9_settle 216 = .ok (.iadd, 1) := by decide +kernel
theorem dX9_settle_217 : decode cX9_settle 217 = .ok (.lload_n 3, 1) := by decide +kernel
theorem dX9_settle_218 : decode cX9_settle 218 = .ok (.lastore, 1) := by decide +kernel
theorem dX9_settle_219 : decode cX9_settle 219 = .ok (.lload_n 3, 1) := by decide +kernel
theorem dX9_settle_220 : decode cX9_settle 220 = .ok (.lreturn, 1) := by decide +kernel
set_option maxRecDepth 20000 in
theorem ggX9_vote_X9_isHouse : GoodIn wsX9_vote wsX9_isHouse := goodIn_r _ [6, 7, 8, 5, 9] rfl (by decide +kernel)
set_option maxRecDepth 20000 in
theorem gX9_vote_X9_isHouse : GoodIn wsX9_vote (va_wsS RX9 171 yX9_isHouse wsX9_isHouse) := goodIn_app (goodIn_of _ (by decide +kernel)) ggX9_vote_X9_isHouse
set_option maxRecDepth 20000 in
theorem ggX9_vote_X9_isTown : GoodIn wsX9_vote wsX9_isTown := goodIn_r _ [12, 7, 8, 5, 9] rfl (by decide +kernel)
set_option maxRecDepth 20000 in
theorem gX9_vote_X9_isTown : GoodIn wsX9_vote (va_wsS RX9 175 yX9_isTown wsX9_isTown) := goodIn_app (goodIn_of _ (by decide +kernel)) ggX9_vote_X9_isTown
set_option maxRecDepth 20000 in
theorem ggX9_vote_X9_in : GoodIn wsX9_vote wsX9_in := goodIn_r _ [9] rfl (by decide +kernel)
set_option maxRecDepth 20000 in
theorem gX9_vote_X9_in : GoodIn wsX9_vote (va_wsS RX9 141 yX9_in wsX9_in) := goodIn_app (goodIn_of _ (by decide +kernel)) ggX9_vote_X9_in
set_option maxRecDepth 20000 in
theorem ggX9_vote_X9_finding : GoodIn wsX9_vote wsX9_finding := goodIn_r _ [16, 17, 18, 19, 20, 21, 22, 23, 24, 25, 26, 27, 28, 29, 30, 31, 32, 33, 34, 35, 36, 37, 38, 39, 40, 41, 42, 43, 44, 45, 46, 47, 48, 49, 50, 51, 52, 53, 54, 55, 56, 57, 58, 59, 60, 61, 62, 63, 64, 65, 66, 67, 68, 69, 70, 71, 72, 73] rfl (by decide +kernel)
set_option maxRecDepth 20000 in
theorem gX9_vote_X9_finding : GoodIn wsX9_vote (wsV RX9 154 RX9 yX9_finding wsX9_finding) := goodIn_app (goodIn_of _ (by decide +kernel)) ggX9_vote_X9_finding
theorem dX9_vote_0 : decode cX9_vote 0 = .ok (.iload_n 1, 1) := by decide +kernel
theorem dX9_vote_1 : decode cX9_vote 1 = .ok (.invokestatic 171, 3) := by decide +kernel
theorem dX9_vote_4 : decode cX9_vote 4 = .ok (.ifCond .eq 27, 3) := by decide +kernel
theorem dX9_vote_7 : decode cX9_vote 7 = .ok (.iload_n 2, 1) := by decide +kernel
theorem dX9_vote_8 : decode cX9_vote 8 = .ok (.invokestatic 175, 3) := by decide +kernel
theorem dX9_vote_11 : decode cX9_vote 11 = .ok (.ifCond .eq 20, 3) := by decide +kernel
theorem dX9_vote_14 : decode cX9_vote 14 = .ok (.iload_n 3, 1) := by decide +kernel
theorem dX9_vote_15 : decode cX9_vote 15 = .ok (.ifCond .eq 24, 3) := by decide +kernel
theorem dX9_vote_18 : decode cX9_vote 18 = .ok (.iload_n 3, 1) := by decide +kernel
theorem dX9_vote_19 : decode cX9_vote 19 = .ok (.sipush 5000, 3) := by decide +kernel
theorem dX9_vote_22 : decode cX9_vote 22 = .ok (.sipush 20000, 3) := by decide +kernel
theorem dX9_vote_25 : decode cX9_vote 25 = .ok (.invokestatic 141, 3) := by decide +kernel
theorem dX9_vote_28 : decode cX9_vote 28 = .ok (.ifCond .ne 11, 3) := by decide +kernel
theorem dX9_vote_31 : decode cX9_vote 31 = .ok (.aload_n 0, 1) := by decide +kernel
theorem dX9_vote_32 : decode cX9_vote 32 = .ok (.ldc2_w 152, 3) := by decide +kernel
theorem dX9_vote_35 : decode cX9_vote 35 = .ok (.invokevirtual 154, 3) := by decide +kernel
theorem dX9_vote_38 : decode cX9_vote 38 = .ok (.lreturn, 1) := by decide +kernel
theorem dX9_vote_39 : decode cX9_vote 39 = .ok (.aload_n 0, 1) := by decide +kernel
theorem dX9_vote_40 : decode cX9_vote 40 = .ok (.getfield 61, 3) := by decide +kernel
theorem dX9_vote_43 : decode cX9_vote 43 = .ok (.iconst 5, 1) := by decide +kernel
theorem dX9_vote_44 : decode cX9_vote 44 = .ok (.iload_n 1, 1) := by decide +kernel
theorem dX9_vote_45 : decode cX9_vote 45 = .ok (.imul, 1) := by decide +kernel
theorem dX9_vote_46 : decode cX9_vote 46 = .ok (.iload_n 2, 1) := by decide +kernel
theorem dX9_vote_47 : decode cX9_vote 47 = .ok (.iadd, 1) := by decide +kernel
theorem dX9_vote_48 : decode cX9_vote 48 = .ok (.iaload, 1) := by decide +kernel
theorem dX9_vote_49 : decode cX9_vote 49 = .ok (.istore 4, 2) := by decide +kernel
theorem dX9_vote_51 : decode cX9_vote 51 = .ok (.aload_n 0, 1) := by decide +kernel
theorem dX9_vote_52 : decode cX9_vote 52 = .ok (.getfield 61, 3) := by decide +kernel
theorem dX9_vote_55 : decode cX9_vote 55 = .ok (.iconst 5, 1) := by decide +kernel
theorem dX9_vote_56 : decode cX9_vote 56 = .ok (.iload_n 1, 1) := by decide +kernel
theorem dX9_vote_57 : decode cX9_vote 57 = .ok (.imul, 1) := by decide +kernel
theorem dX9_vote_58 : decode cX9_vote 58 = .ok (.iload_n 2, 1) := by decide +kernel
theorem dX9_vote_59 : decode cX9_vote 59 = .ok (.iadd, 1) := by decide +kernel
theorem dX9_vote_60 : decode cX9_vote 60 = .ok (.iload_n 3, 1) := by decide +kernel
theorem dX9_vote_61 : decode cX9_vote 61 = .ok (.iastore, 1) := by decide +kernel
theorem dX9_vote_62 : decode cX9_vote 62 = .ok (.iload 4, 2) := by decide +kernel
theorem dX9_vote_64 : decode cX9_vote 64 = .ok (.i2l, 1) := by decide +kernel
theorem dX9_vote_65 : decode cX9_vote 65 = .ok (.lreturn, 1) := by decide +kernel
set_option maxRecDepth 20000 in
theorem ggX9_rate_X9_isTown : GoodIn wsX9_rate wsX9_isTown := goodIn_r _ [7, 8, 9, 6, 10] rfl (by decide +kernel)
set_option maxRecDepth 20000 in
theorem gX9_rate_X9_isTown : GoodIn wsX9_rate (va_wsS RX9 175 yX9_isTown wsX9_isTown) := goodIn_app (goodIn_of _ (by decide +kernel)) ggX9_rate_X9_isTown
set_option maxRecDepth 20000 in
theorem ggX9_rate_X9_finding : GoodIn wsX9_rate wsX9_finding := goodIn_r _ [14, 15, 16, 17, 18, 19, 20, 21, 22, 23, 24, 25, 26, 27, 28, 29, 30, 31, 32, 33, 34, 35, 36, 37, 38, 39, 40, 41, 42, 43, 44, 45, 46, 47, 48, 49, 50, 51, 52, 53, 54, 55, 56, 57, 58, 59, 60, 61, 62, 63, 64, 65, 66, 67, 68, 69, 70, 71] rfl (by decide +kernel)
set_option maxRecDepth 20000 in
theorem gX9_rate_X9_finding : GoodIn wsX9_rate (wsV RX9 154 RX9 yX9_finding wsX9_finding) := goodIn_app (goodIn_of _ (by decide +kernel)) ggX9_rate_X9_finding
theorem dX9_rate_0 : decode cX9_rate 0 = .ok (.iload_n 1, 1) := by decide +kernel
theorem dX9_rate_1 : decode cX9_rate 1 = .ok (.invokestatic 175, 3) := by decide +kernel
theorem dX9_rate_4 : decode cX9_rate 4 = .ok (.ifCond .ne 11, 3) := by decide +kernel
theorem dX9_rate_7 : decode cX9_rate 7 = .ok (.aload_n 0, 1) := by decide +kernel
theorem dX9_rate_8 : decode cX9_rate 8 = .ok (.ldc2_w 152, 3) := by decide +kernel
theorem dX9_rate_11 : decode cX9_rate 11 = .ok (.invokevirtual 154, 3) := by decide +kernel
theorem dX9_rate_14 : decode cX9_rate 14 = .ok (.lreturn, 1) := by decide +kernel
theorem dX9_rate_15 : decode cX9_rate 15 = .ok (.iconst 0, 1) := by decide +kernel
theorem dX9_rate_16 : decode cX9_rate 16 = .ok (.istore_n 2, 1) := by decide +kernel
theorem dX9_rate_17 : decode cX9_rate 17 = .ok (.iconst 0, 1) := by decide +kernel
theorem dX9_rate_18 : decode cX9_rate 18 = .ok (.istore_n 3, 1) := by decide +kernel
theorem dX9_rate_19 : decode cX9_rate 19 = .ok (.iload_n 3, 1) := by decide +kernel
theorem dX9_rate_20 : decode cX9_rate 20 = .ok (.bipush 10, 2) := by decide +kernel
theorem dX9_rate_22 : decode cX9_rate 22 = .ok (.if_icmp .ge 30, 3) := by decide +kernel
theorem dX9_rate_25 : decode cX9_rate 25 = .ok (.iload_n 2, 1) := by decide +kernel
theorem dX9_rate_26 : decode cX9_rate 26 = .ok (.aload_n 0, 1) := by decide +kernel
theorem dX9_rate_27 : decode cX9_rate 27 = .ok (.getfield 61, 3) := by decide +kernel
theorem dX9_rate_30 : decode cX9_rate 30 = .ok (.iconst 5, 1) := by decide +kernel
theorem dX9_rate_31 : decode cX9_rate 31 = .ok (.iload_n 3, 1) := by decide +kernel
theorem dX9_rate_32 : decode cX9_rate 32 = .ok (.imul, 1) := by decide +kernel
theorem dX9_rate_33 : decode cX9_rate 33 = .ok (.iload_n 1, 1) := by decide +kernel
theorem dX9_rate_34 : decode cX9_rate 34 = .ok (.iadd, 1) := by decide +kernel
theorem dX9_rate_35 : decode cX9_rate 35 = .ok (.iaload, 1) := by decide +kernel
theorem dX9_rate_36 : decode cX9_rate 36 = .ok (.ifCond .le 7, 3) := by decide +kernel
theorem dX9_rate_39 : decode cX9_rate 39 = .ok (.iconst 1, 1) := by decide +kernel
theorem dX9_rate_40 : decode cX9_rate 40 = .ok (.goto 4, 3) := by decide +kernel
theorem dX9_rate_43 : decode cX9_rate 43 = .ok (.iconst 0, 1) := by decide +kernel
theorem dX9_rate_44 : decode cX9_rate 44 = .ok (.iadd, 1) := by decide +kernel
theorem dX9_rate_45 : decode cX9_rate 45 = .ok (.istore_n 2, 1) := by decide +kernel
theorem dX9_rate_46 : decode cX9_rate 46 = .ok (.iinc 3 1, 3) := by decide +kernel
theorem dX9_rate_49 : decode cX9_rate 49 = .ok (.goto (-30), 3) := by decide +kernel
theorem dX9_rate_52 : decode cX9_rate 52 = .ok (.iconst 0, 1) := by decide +kernel
theorem dX9_rate_53 : decode cX9_rate 53 = .ok (.istore_n 3, 1) := by decide +kernel
theorem dX9_rate_54 : decode cX9_rate 54 = .ok (.iload_n 3, 1) := by decide +kernel
theorem dX9_rate_55 : decode cX9_rate 55 = .ok (.bipush 10, 2) := by decide +kernel
theorem dX9_rate_57 : decode cX9_rate 57 = .ok (.if_icmp .ge 107, 3) := by decide +kernel
theorem dX9_rate_60 : decode cX9_rate 60 = .ok (.aload_n 0, 1) := by decide +kernel
theorem dX9_rate_61 : decode cX9_rate 61 = .ok (.getfield 61, 3) := by decide +kernel
theorem dX9_rate_64 : decode cX9_rate 64 = .ok (.iconst 5, 1) := by decide +kernel
theorem dX9_rate_65 : decode cX9_rate 65 = .ok (.iload_n 3, 1) := by decide +kernel
theorem dX9_rate_66 : decode cX9_rate 66 = .ok (.imul, 1) := by decide +kernel
theorem dX9_rate_67 : decode cX9_rate 67 = .ok (.iload_n 1, 1) := by decide +kernel
theorem dX9_rate_68 : decode cX9_rate 68 = .ok (.iadd, 1) := by decide +kernel
theorem dX9_rate_69 : decode cX9_rate 69 = .ok (.iaload, 1) := by decide +kernel
theorem dX9_rate_70 : decode cX9_rate 70 = .ok (.istore 4, 2) := by decide +kernel
theorem dX9_rate_72 : decode cX9_rate 72 = .ok (.iconst 0, 1) := by decide +kernel
theorem dX9_rate_73 : decode cX9_rate 73 = .ok (.istore 5, 2) := by decide +kernel
theorem dX9_rate_75 : decode cX9_rate 75 = .ok (.iconst 0, 1) := by decide +kernel
theorem dX9_rate_76 : decode cX9_rate 76 = .ok (.istore 6, 2) := by decide +kernel
theorem dX9_rate_78 : decode cX9_rate 78 = .ok (.iload 6, 2) := by decide +kernel
theorem dX9_rate_80 : decode cX9_rate 80 = .ok (.bipush 10, 2) := by decide +kernel
theorem dX9_rate_82 : decode cX9_rate 82 = .ok (.if_icmp .ge 57, 3) := by decide +kernel
theorem dX9_rate_85 : decode cX9_rate 85 = .ok (.aload_n 0, 1) := by decide +kernel
theorem dX9_rate_86 : decode cX9_rate 86 = .ok (.getfield 61, 3) := by decide +kernel
theorem dX9_rate_89 : decode cX9_rate 89 = .ok (.iconst 5, 1) := by decide +kernel
theorem dX9_rate_90 : decode cX9_rate 90 = .ok (.iload 6, 2) := by decide +kernel
theorem dX9_rate_92 : decode cX9_rate 92 = .ok (.imul, 1) := by decide +kernel
theorem dX9_rate_93 : decode cX9_rate 93 = .ok (.iload_n 1, 1) := by decide +kernel
theorem dX9_rate_94 : decode cX9_rate 94 = .ok (.iadd, 1) := by decide +kernel
theorem dX9_rate_95 : decode cX9_rate 95 = .ok (.iaload, 1) := by decide +kernel
theorem dX9_rate_96 : decode cX9_rate 96 = .ok (.istore 7, 2) := by decide +kernel
theorem dX9_rate_98 : decode cX9_rate 98 = .ok (.iload 5, 2) := by decide +kernel
theorem dX9_rate_100 : decode cX9_rate 100 = .ok (.iload 7, 2) := by decide +kernel
theorem dX9_rate_102 : decode cX9_rate 102 = .ok (.ifCond .le 27, 3) := by decide +kernel
theorem dX9_rate_105 : decode cX9_rate 105 = .ok (.iload 7, 2) := by decide +kernel
theorem dX9_rate_107 : decode cX9_rate 107 = .ok (.iload 4, 2) := by decide +kernel
theorem dX9_rate_109 : decode cX9_rate 109 = .ok (.if_icmp .lt 16, 3) := by decide +kernel
theorem dX9_rate_112 : decode cX9_rate 112 = .ok (.iload 7, 2) := by decide +kernel
theorem dX9_rate_114 : decode cX9_rate 114 = .ok (.iload 4, 2) := by decide +kernel
theorem dX9_rate_116 : decode cX9_rate 116 = .ok (.if_icmp .ne 13, 3) := by decide +kernel
theorem dX9_rate_119 : decode cX9_rate 119 = .ok (.iload 6, 2) := by decide +kernel
theorem dX9_rate_121 : decode cX9_rate 121 = .ok (.iload_n 3, 1) := by decide +kernel
theorem dX9_rate_122 : decode cX9_rate 122 = .ok (.if_icmp .ge 7, 3) := by decide +kernel
theorem dX9_rate_125 : decode cX9_rate 125 = .ok (.iconst 1, 1) := by decide +kernel
theorem dX9_rate_126 : decode cX9_rate 126 = .ok (.goto 4, 3) := by decide +kernel
theorem dX9_rate_129 : decode cX9_rate 129 = .ok (.iconst 0, 1) := by decide +kernel
theorem dX9_rate_130 : decode cX9_rate 130 = .ok (.iadd, 1) := by decide +kernel
theorem dX9_rate_131 : decode cX9_rate 131 = .ok (.istore 5, 2) := by decide +kernel
theorem dX9_rate_133 : decode cX9_rate 133 = .ok (.iinc 6 1, 3) := by decide +kernel
theorem dX9_rate_136 : decode cX9_rate 136 = .ok (.goto (-58), 3) := by decide +kernel
theorem dX9_rate_139 : decode cX9_rate 139 = .ok (.iload 4, 2) := by decide +kernel
theorem dX9_rate_141 : decode cX9_rate 141 = .ok (.ifCond .le 17, 3) := by decide +kernel
theorem dX9_rate_144 : decode cX9_rate 144 = .ok (.iload 5, 2) := by decide +kernel
theorem dX9_rate_146 : decode cX9_rate 146 = .ok (.iload_n 2, 1) := by decide +kernel
theorem dX9_rate_147 : decode cX9_rate 147 = .ok (.iconst 1, 1) := by decide +kernel
theorem dX9_rate_148 : decode cX9_rate 148 = .ok (.isub, 1) := by decide +kernel
theorem dX9_rate_149 : decode cX9_rate 149 = .ok (.iconst 2, 1) := by decide +kernel
theorem dX9_rate_150 : decode cX9_rate 150 = .ok (.idiv, 1) := by decide +kernel
theorem dX9_rate_151 : decode cX9_rate 151 = .ok (.if_icmp .ne 7, 3) := by decide +kernel
theorem dX9_rate_154 : decode cX9_rate 154 = .ok (.iload 4, 2) := by decide +kernel
theorem dX9_rate_156 : decode cX9_rate 156 = .ok (.i2l, 1) := by decide +kernel
theorem dX9_rate_157 : decode cX9_rate 157 = .ok (.lreturn, 1) := by decide +kernel
theorem dX9_rate_158 : decode cX9_rate 158 = .ok (.iinc 3 1, 3) := by decide +kernel
theorem dX9_rate_161 : decode cX9_rate 161 = .ok (.goto (-107), 3) := by decide +kernel
theorem dX9_rate_164 : decode cX9_rate 164 = .ok (.aload_n 0, 1) := by decide +kernel
theorem dX9_rate_165 : decode cX9_rate 165 = .ok (.ldc2_w 211, 3) := by decide +kernel
theorem dX9_rate_168 : decode cX9_rate 168 = .ok (.invokevirtual 154, 3) := by decide +kernel
theorem dX9_rate_171 : decode cX9_rate 171 = .ok (.lreturn, 1) := by decide +kernel
set_option maxRecDepth 20000 in
theorem ggX9_offer_X9_isTown : GoodIn wsX9_offer wsX9_isTown := goodIn_r _ [6, 7, 8, 5, 9] rfl (by decide +kernel)
set_option maxRecDepth 20000 in
theorem gX9_offer_X9_isTown : GoodIn wsX9_offer (va_wsS RX9 175 yX9_isTown wsX9_isTown) := goodIn_app (goodIn_of _ (by decide +kernel)) ggX9_offer_X9_isTown
set_option maxRecDepth 20000 in
theorem ggX9_offer_X9_in : GoodIn wsX9_offer wsX9_in := goodIn_r _ [9] rfl (by decide +kernel)
set_option maxRecDepth 20000 in
theorem gX9_offer_X9_in : GoodIn wsX9_offer (va_wsS RX9 141 yX9_in wsX9_in) := goodIn_app (goodIn_of _ (by decide +kernel)) ggX9_offer_X9_in
set_option maxRecDepth 20000 in
theorem ggX9_offer_X9_finding : GoodIn wsX9_offer wsX9_finding := goodIn_r _ [13, 14, 15, 16, 17, 18, 19, 20, 21, 22, 23, 24, 25, 26, 27, 28, 29, 30, 31, 32, 33, 34, 35, 36, 37, 38, 39, 40, 41, 42, 43, 44, 45, 46, 47, 48, 49, 50, 51, 52, 53, 54, 55, 56, 57, 58, 59, 60, 61, 62, 63, 64, 65, 66, 67, 68, 69, 70] rfl (by decide +kernel)
set_option maxRecDepth 20000 in
theorem gX9_offer_X9_finding : GoodIn wsX9_offer (wsV RX9 154 RX9 yX9_finding wsX9_finding) := goodIn_app (goodIn_of _ (by decide +kernel)) ggX9_offer_X9_finding
theorem dX9_offer_0 : decode cX9_offer 0 = .ok (.iload_n 1, 1) := by decide +kernel
theorem dX9_offer_1 : decode cX9_offer 1 = .ok (.invokestatic 175, 3) := by decide +kernel
theorem dX9_offer_4 : decode cX9_offer 4 = .ok (.ifCond .eq 26, 3) := by decide +kernel
theorem dX9_offer_7 : decode cX9_offer 7 = .ok (.iload_n 2, 1) := by decide +kernel
theorem dX9_offer_8 : decode cX9_offer 8 = .ok (.invokestatic 175, 3) := by decide +kernel
theorem dX9_offer_11 : decode cX9_offer 11 = .ok (.ifCond .eq 19, 3) := by decide +kernel
theorem dX9_offer_14 : decode cX9_offer 14 = .ok (.iload_n 1, 1) := by decide +kernel
theorem dX9_offer_15 : decode cX9_offer 15 = .ok (.iload_n 2, 1) := by decide +kernel
theorem dX9_offer_16 : decode cX9_offer 16 = .ok (.if_icmp .eq 14, 3) := by decide +kernel
theorem dX9_offer_19 : decode cX9_offer 19 = .ok (.iload_n 3, 1) := by decide +kernel
theorem dX9_offer_20 : decode cX9_offer 20 = .ok (.iconst 0, 1) := by decide +kernel
theorem dX9_offer_21 : decode cX9_offer 21 = .ok (.sipush 20000, 3) := by decide +kernel
theorem dX9_offer_24 : decode cX9_offer 24 = .ok (.invokestatic 141, 3) := by decide +kernel
theorem dX9_offer_27 : decode cX9_offer 27 = .ok (.ifCond .ne 11, 3) := by decide +kernel
theorem dX9_offer_30 : decode cX9_offer 30 = .ok (.aload_n 0, 1) := by decide +kernel
theorem dX9_offer_31 : decode cX9_offer 31 = .ok (.ldc2_w 152, 3) := by decide +kernel
theorem dX9_offer_34 : decode cX9_offer 34 = .ok (.invokevirtual 154, 3) := by decide +kernel
theorem dX9_offer_37 : decode cX9_offer 37 = .ok (.lreturn, 1) := by decide +kernel
theorem dX9_offer_38 : decode cX9_offer 38 = .ok (.aload_n 0, 1) := by decide +kernel
theorem dX9_offer_39 : decode cX9_offer 39 = .ok (.getfield 64, 3) := by decide +kernel
theorem dX9_offer_42 : decode cX9_offer 42 = .ok (.iconst 5, 1) := by decide +kernel
theorem dX9_offer_43 : decode cX9_offer 43 = .ok (.iload_n 1, 1) := by decide +kernel
theorem dX9_offer_44 : decode cX9_offer 44 = .ok (.imul, 1) := by decide +kernel
theorem dX9_offer_45 : decode cX9_offer 45 = .ok (.iload_n 2, 1) := by decide +kernel
theorem dX9_offer_46 : decode cX9_offer 46 = .ok (.iadd, 1) := by decide +kernel
theorem dX9_offer_47 : decode cX9_offer 47 = .ok (.iaload, 1) := by decide +kernel
theorem dX9_offer_48 : decode cX9_offer 48 = .ok (.istore 4, 2) := by decide +kernel
theorem dX9_offer_50 : decode cX9_offer 50 = .ok (.aload_n 0, 1) := by decide +kernel
theorem dX9_offer_51 : decode cX9_offer 51 = .ok (.getfield 64, 3) := by decide +kernel
theorem dX9_offer_54 : decode cX9_offer 54 = .ok (.iconst 5, 1) := by decide +kernel
theorem dX9_offer_55 : decode cX9_offer 55 = .ok (.iload_n 1, 1) := by decide +kernel
theorem dX9_offer_56 : decode cX9_offer 56 = .ok (.imul, 1) := by decide +kernel
theorem dX9_offer_57 : decode cX9_offer 57 = .ok (.iload_n 2, 1) := by decide +kernel
theorem dX9_offer_58 : decode cX9_offer 58 = .ok (.iadd, 1) := by decide +kernel
theorem dX9_offer_59 : decode cX9_offer 59 = .ok (.iload_n 3, 1) := by decide +kernel
theorem dX9_offer_60 : decode cX9_offer 60 = .ok (.iastore, 1) := by decide +kernel
theorem dX9_offer_61 : decode cX9_offer 61 = .ok (.iload 4, 2) := by decide +kernel
theorem dX9_offer_63 : decode cX9_offer 63 = .ok (.i2l, 1) := by decide +kernel
theorem dX9_offer_64 : decode cX9_offer 64 = .ok (.lreturn, 1) := by decide +kernel
theorem dX9_look_0 : decode cX9_look 0 = .ok (.iload_n 3, 1) := by decide +kernel
theorem dX9_look_1 : decode cX9_look 1 = .ok (.ifCond .ge 7, 3) := by decide +kernel
theorem dX9_look_4 : decode cX9_look 4 = .ok (.iconst 2, 1) := by decide +kernel
theorem dX9_look_5 : decode cX9_look 5 = .ok (.goto 13, 3) := by decide +kernel
theorem dX9_look_8 : decode cX9_look 8 = .ok (.iload 4, 2) := by decide +kernel
theorem dX9_look_10 : decode cX9_look 10 = .ok (.ifCond .ge 7, 3) := by decide +kernel
theorem dX9_look_13 : decode cX9_look 13 = .ok (.iconst 3, 1) := by decide +kernel
theorem dX9_look_14 : decode cX9_look 14 = .ok (.goto 4, 3) := by decide +kernel
theorem dX9_look_17 : decode cX9_look 17 = .ok (.iconst 4, 1) := by decide +kernel
theorem dX9_look_18 : decode cX9_look 18 = .ok (.istore 5, 2) := by decide +kernel
theorem dX9_look_20 : decode cX9_look 20 = .ok (.iload_n 3, 1) := by decide +kernel
theorem dX9_look_21 : decode cX9_look 21 = .ok (.ifCond .ge 7, 3) := by decide +kernel
theorem dX9_look_24 : decode cX9_look 24 = .ok (.iload_n 2, 1) := by decide +kernel
theorem dX9_look_25 : decode cX9_look 25 = .ok (.goto 14, 3) := by decide +kernel
theorem dX9_look_28 : decode cX9_look 28 = .ok (.iload 4, 2) := by decide +kernel
theorem dX9_look_30 : decode cX9_look 30 = .ok (.ifCond .ge 7, 3) := by decide +kernel
theorem dX9_look_33 : decode cX9_look 33 = .ok (.iload_n 3, 1) := by decide +kernel
theorem dX9_look_34 : decode cX9_look 34 = .ok (.goto 5, 3) := by decide +kernel
theorem dX9_look_37 : decode cX9_look 37 = .ok (.iload 4, 2) := by decide +kernel
theorem dX9_look_39 : decode cX9_look 39 = .ok (.istore 6, 2) := by decide +kernel
theorem dX9_look_41 : decode cX9_look 41 = .ok (.aload_n 0, 1) := by decide +kernel
theorem dX9_look_42 : decode cX9_look 42 = .ok (.getfield 64, 3) := by decide +kernel
theorem dX9_look_45 : decode cX9_look 45 = .ok (.iconst 5, 1) := by decide +kernel
theorem dX9_look_46 : decode cX9_look 46 = .ok (.iload_n 1, 1) := by decide +kernel
theorem dX9_look_47 : decode cX9_look 47 = .ok (.imul, 1) := by decide +kernel
theorem dX9_look_48 : decode cX9_look 48 = .ok (.iload_n 2, 1) := by decide +kernel
theorem dX9_look_49 : decode cX9_look 49 = .ok (.iadd, 1) := by decide +kernel
theorem dX9_look_50 : decode cX9_look 50 = .ok (.iaload, 1) := by decide +kernel
theorem dX9_look_51 : decode cX9_look 51 = .ok (.i2l, 1) := by decide +kernel
theorem dX9_look_52 : decode cX9_look 52 = .ok (.aload_n 0, 1) := by decide +kernel
theorem dX9_look_53 : decode cX9_look 53 = .ok (.getfield 64, 3) := by decide +kernel
theorem dX9_look_56 : decode cX9_look 56 = .ok (.iconst 5, 1) := by decide +kernel
theorem dX9_look_57 : decode cX9_look 57 = .ok (.iload 6, 2) := by decide +kernel
theorem dX9_look_59 : decode cX9_look 59 = .ok (.imul, 1) := by decide +kernel
theorem dX9_look_60 : decode cX9_look 60 = .ok (.iload_n 1, 1) := by decide +kernel
theorem dX9_look_61 : decode cX9_look 61 = .ok (.iadd, 1) := by decide +kernel
theorem dX9_look_62 : decode cX9_look 62 = .ok (.iaload, 1) := by decide +kernel
theorem dX9_look_63 : decode cX9_look 63 = .ok (.i2l, 1) := by decide +kernel
theorem dX9_look_64 : decode cX9_look 64 = .ok (.lmul, 1) := by decide +kernel
theorem dX9_look_65 : decode cX9_look 65 = .ok (.lstore 7, 2) := by decide +kernel
theorem dX9_look_67 : decode cX9_look 67 = .ok (.ldc2_w 336, 3) := by decide +kernel
theorem dX9_look_70 : decode cX9_look 70 = .ok (.ldc2_w 338, 3) := by decide +kernel
theorem dX9_look_73 : decode cX9_look 73 = .ok (.iload_n 1, 1) := by decide +kernel
theorem dX9_look_74 : decode cX9_look 74 = .ok (.i2l, 1) := by decide +kernel
theorem dX9_look_75 : decode cX9_look 75 = .ok (.lmul, 1) := by decide +kernel
theorem dX9_look_76 : decode cX9_look 76 = .ok (.ladd, 1) := by decide +kernel
theorem dX9_look_77 : decode cX9_look 77 = .ok (.iload_n 2, 1) := by decide +kernel
theorem dX9_look_78 : decode cX9_look 78 = .ok (.i2l, 1) := by decide +kernel
theorem dX9_look_79 : decode cX9_look 79 = .ok (.ladd, 1) := by decide +kernel
theorem dX9_look_80 : decode cX9_look 80 = .ok (.lstore 9, 2) := by decide +kernel
theorem dX9_look_82 : decode cX9_look 82 = .ok (.iload_n 3, 1) := by decide +kernel
theorem dX9_look_83 : decode cX9_look 83 = .ok (.ifCond .lt 30, 3) := by decide +kernel
theorem dX9_look_86 : decode cX9_look 86 = .ok (.lload 7, 2) := by decide +kernel
theorem dX9_look_88 : decode cX9_look 88 = .ok (.aload_n 0, 1) := by decide +kernel
theorem dX9_look_89 : decode cX9_look 89 = .ok (.getfield 64, 3) := by decide +kernel
theorem dX9_look_92 : decode cX9_look 92 = .ok (.iconst 5, 1) := by decide +kernel
theorem dX9_look_93 : decode cX9_look 93 = .ok (.iload_n 2, 1) := by decide +kernel
theorem dX9_look_94 : decode cX9_look 94 = .ok (.imul, 1) := by decide +kernel
theorem dX9_look_95 : decode cX9_look 95 = .ok (.iload_n 3, 1) := by decide +kernel
theorem dX9_look_96 : decode cX9_look 96 = .ok (.iadd, 1) := by decide +kernel
theorem dX9_look_97 : decode cX9_look 97 = .ok (.iaload, 1) := by decide +kernel
theorem dX9_look_98 : decode cX9_look 98 = .ok (.i2l, 1) := by decide +kernel
theorem dX9_look_99 : decode cX9_look 99 = .ok (.lmul, 1) := by decide +kernel
theorem dX9_look_100 : decode cX9_look 100 = .ok (.lstore 7, 2) := by decide +kernel
theorem dX9_look_102 : decode cX9_look 102 = .ok (.ldc2_w 338, 3) := by decide +kernel
theorem dX9_look_105 : decode cX9_look 105 = .ok (.lload 9, 2) := by decide +kernel
theorem dX9_look_107 : decode cX9_look 107 = .ok (.lmul, 1) := by decide +kernel
theorem dX9_look_108 : decode cX9_look 108 = .ok (.iload_n 3, 1) := by decide +kernel
theorem dX9_look_109 : decode cX9_look 109 = .ok (.i2l, 1) := by decide +kernel
theorem dX9_look_110 : decode cX9_look 110 = .ok (.ladd, 1) := by decide +kernel
theorem dX9_look_111 : decode cX9_look 111 = .ok (.lstore 9, 2) := by decide +kernel
theorem dX9_look_113 : decode cX9_look 113 = .ok (.iload 4, 2) := by decide +kernel
theorem dX9_look_115 : decode cX9_look 115 = .ok (.ifCond .lt 32, 3) := by decide +kernel
theorem dX9_look_118 : decode cX9_look 118 = .ok (.lload 7, 2) := by decide +kernel
theorem dX9_look_120 : decode cX9_look 120 = .ok (.aload_n 0, 1) := by decide +kernel
theorem dX9_look_121 : decode cX9_look 121 = .ok (.getfield 64, 3) := by decide +kernel
theorem dX9_look_124 : decode cX9_look 124 = .ok (.iconst 5, 1) := by decide +kernel
theorem dX9_look_125 : decode cX9_look 125 = .ok (.iload_n 3, 1) := by decide +kernel
theorem dX9_look_126 : decode cX9_look 126 = .ok (.imul, 1) := by decide +kernel
theorem dX9_look_127 : decode cX9_look 127 = .ok (.iload 4, 2) := by decide +kernel
theorem dX9_look_129 : decode cX9_look 129 = .ok (.iadd, 1) := by decide +kernel
theorem dX9_look_130 : decode cX9_look 130 = .ok (.iaload, 1) := by decide +kernel
theorem dX9_look_131 : decode cX9_look 131 = .ok (.i2l, 1) := by decide +kernel
theorem dX9_look_132 : decode cX9_look 132 = .ok (.lmul, 1) := by decide +kernel
theorem dX9_look_133 : decode cX9_look 133 = .ok (.lstore 7, 2) := by decide +kernel
theorem dX9_look_135 : decode cX9_look 135 = .ok (.ldc2_w 338, 3) := by decide +kernel
theorem dX9_look_138 : decode cX9_look 138 = .ok (.lload 9, 2) := by decide +kernel
theorem dX9_look_140 : decode cX9_look 140 = .ok (.lmul, 1) := by decide +kernel
theorem dX9_look_141 : decode cX9_look 141 = .ok (.iload 4, 2) := by decide +kernel
theorem dX9_look_143 : decode cX9_look 143 = .ok (.i2l, 1) := by decide +kernel
theorem dX9_look_144 : decode cX9_look 144 = .ok (.ladd, 1) := by decide +kernel
theorem dX9_look_145 : decode cX9_look 145 = .ok (.lstore 9, 2) := by decide +kernel
theorem dX9_look_147 : decode cX9_look 147 = .ok (.iload 5, 2) := by decide +kernel
theorem dX9_look_149 : decode cX9_look 149 = .ok (.istore 11, 2) := by decide +kernel
theorem dX9_look_151 : decode cX9_look 151 = .ok (.iload 11, 2) := by decide +kernel
theorem dX9_look_153 : decode cX9_look 153 = .ok (.iconst 4, 1) := by decide +kernel
theorem dX9_look_154 : decode cX9_look 154 = .ok (.if_icmp .ge 17, 3) := by decide +kernel
theorem dX9_look_157 : decode cX9_look 157 = .ok (.lload 7, 2) := by decide +kernel
theorem dX9_look_159 : decode cX9_look 159 = .ok (.ldc2_w 340, 3) := by decide +kernel
theorem dX9_look_162 : decode cX9_look 162 = .ok (.lmul, 1) := by decide +kernel
theorem dX9_look_163 : decode cX9_look 163 = .ok (.lstore 7, 2) := by decide +kernel
theorem dX9_look_165 : decode cX9_look 165 = .ok (.iinc 11 1, 3) := by decide +kernel
theorem dX9_look_168 : decode cX9_look 168 = .ok (.goto (-17), 3) := by decide +kernel
theorem dX9_look_171 : decode cX9_look 171 = .ok (.lload 7, 2) := by decide +kernel
theorem dX9_look_173 : decode cX9_look 173 = .ok (.aload_n 0, 1) := by decide +kernel
theorem dX9_look_174 : decode cX9_look 174 = .ok (.getfield 342, 3) := by decide +kernel
theorem dX9_look_177 : decode cX9_look 177 = .ok (.lcmp, 1) := by decide +kernel
theorem dX9_look_178 : decode cX9_look 178 = .ok (.ifCond .le 15, 3) := by decide +kernel
theorem dX9_look_181 : decode cX9_look 181 = .ok (.aload_n 0, 1) := by decide +kernel
theorem dX9_look_182 : decode cX9_look 182 = .ok (.lload 7, 2) := by decide +kernel
theorem dX9_look_184 : decode cX9_look 184 = .ok (.putfield 342, 3) := by decide +kernel
theorem dX9_look_187 : decode cX9_look 187 = .ok (.aload_n 0, 1) := by decide +kernel
theorem dX9_look_188 : decode cX9_look 188 = .ok (.lload 9, 2) := by decide +kernel
theorem dX9_look_190 : decode cX9_look 190 = .ok (.putfield 345, 3) := by decide +kernel
theorem dX9_look_193 : decode cX9_look 193 = .ok (.return_, 1) := by decide +kernel
set_option maxRecDepth 20000 in
theorem ggX9_turn_X9_look : GoodIn wsX9_turn wsX9_look := goodIn_r _ [9, 10, 11, 12, 13, 2, 4, 20, 21, 22, 23, 24, 25, 26, 27, 28, 29, 30, 31, 32, 33, 34, 35, 36, 37, 38, 39, 40, 41, 42, 43, 44, 45, 46, 47, 48, 49, 50, 51, 52, 53, 54, 55, 56, 57, 58, 59, 60, 61, 62, 63, 64, 65, 66, 67, 68, 69, 70, 71, 72, 73, 74] rfl (by decide +kernel)
set_option maxRecDepth 20000 in
theorem gX9_turn_X9_look : GoodIn wsX9_turn (wsV RX9 350 RX9 yX9_look wsX9_look) := goodIn_app (goodIn_of _ (by decide +kernel)) ggX9_turn_X9_look
set_option maxRecDepth 20000 in
theorem ggX9_turn_X9_finding : GoodIn wsX9_turn wsX9_finding := goodIn_r _ [17, 18, 19, 20, 21, 22, 23, 24, 25, 26, 27, 28, 29, 30, 31, 32, 33, 34, 35, 36, 37, 38, 39, 40, 41, 42, 43, 44, 45, 46, 47, 48, 49, 50, 51, 52, 53, 54, 55, 56, 57, 58, 59, 60, 61, 62, 63, 64, 65, 66, 67, 68, 69, 70, 71, 72, 73, 74] rfl (by decide +kernel)
set_option maxRecDepth 20000 in
theorem gX9_turn_X9_finding : GoodIn wsX9_turn (wsV RX9 154 RX9 yX9_finding wsX9_finding) := goodIn_app (goodIn_of _ (by decide +kernel)) ggX9_turn_X9_finding
theorem dX9_turn_0 : decode cX9_turn 0 = .ok (.aload_n 0, 1) := by decide +kernel
theorem dX9_turn_1 : decode cX9_turn 1 = .ok (.ldc2_w 348, 3) := by decide +kernel
theorem dX9_turn_4 : decode cX9_turn 4 = .ok (.putfield 342, 3) := by decide +kernel
theorem dX9_turn_7 : decode cX9_turn 7 = .ok (.aload_n 0, 1) := by decide +kernel
theorem dX9_turn_8 : decode cX9_turn 8 = .ok (.ldc2_w 211, 3) := by decide +kernel
theorem dX9_turn_11 : decode cX9_turn 11 = .ok (.putfield 345, 3) := by decide +kernel
theorem dX9_turn_14 : decode cX9_turn 14 = .ok (.iconst 2, 1) := by decide +kernel
theorem dX9_turn_15 : decode cX9_turn 15 = .ok (.istore_n 1, 1) := by decide +kernel
theorem dX9_turn_16 : decode cX9_turn 16 = .ok (.iload_n 1, 1) := by decide +kernel
theorem dX9_turn_17 : decode cX9_turn 17 = .ok (.iconst 5, 1) := by decide +kernel
theorem dX9_turn_18 : decode cX9_turn 18 = .ok (.if_icmp .ge 166, 3) := by decide +kernel
theorem dX9_turn_21 : decode cX9_turn 21 = .ok (.iconst 0, 1) := by decide +kernel
theorem dX9_turn_22 : decode cX9_turn 22 = .ok (.istore_n 2, 1) := by decide +kernel
theorem dX9_turn_23 : decode cX9_turn 23 = .ok (.iload_n 2, 1) := by decide +kernel
theorem dX9_turn_24 : decode cX9_turn 24 = .ok (.sipush 625, 3) := by decide +kernel
theorem dX9_turn_27 : decode cX9_turn 27 = .ok (.if_icmp .ge 151, 3) := by decide +kernel
theorem dX9_turn_30 : decode cX9_turn 30 = .ok (.iload_n 2, 1) := by decide +kernel
theorem dX9_turn_31 : decode cX9_turn 31 = .ok (.bipush 125, 2) := by decide +kernel
theorem dX9_turn_33 : decode cX9_turn 33 = .ok (.idiv, 1) := by decide +kernel
theorem dX9_turn_34 : decode cX9_turn 34 = .ok (.istore_n 3, 1) := by decide +kernel
theorem dX9_turn_35 : decode cX9_turn 35 = .ok (.iload_n 2, 1) := by decide +kernel
theorem dX9_turn_36 : decode cX9_turn 36 = .ok (.bipush 25, 2) := by decide +kernel
theorem dX9_turn_38 : decode cX9_turn 38 = .ok (.idiv, 1) := by decide +kernel
theorem dX9_turn_39 : decode cX9_turn 39 = .ok (.iconst 5, 1) := by decide +kernel
theorem dX9_turn_40 : decode cX9_turn 40 = .ok (.irem, 1) := by decide +kernel
theorem dX9_turn_41 : decode cX9_turn 41 = .ok (.istore 4, 2) := by decide +kernel
theorem dX9_turn_43 : decode cX9_turn 43 = .ok (.iload_n 1, 1) := by decide +kernel
theorem dX9_turn_44 : decode cX9_turn 44 = .ok (.iconst 2, 1) := by decide +kernel
theorem dX9_turn_45 : decode cX9_turn 45 = .ok (.if_icmp .le 11, 3) := by decide +kernel
theorem dX9_turn_48 : decode cX9_turn 48 = .ok (.iload_n 2, 1) := by decide +kernel
theorem dX9_turn_49 : decode cX9_turn 49 = .ok (.iconst 5, 1) := by decide +kernel
theorem dX9_turn_50 : decode cX9_turn 50 = .ok (.idiv, 1) := by decide +kernel
theorem dX9_turn_51 : decode cX9_turn 51 = .ok (.iconst 5, 1) := by decide +kernel
theorem dX9_turn_52 : decode cX9_turn 52 = .ok (.irem, 1) := by decide +kernel
theorem dX9_turn_53 : decode cX9_turn 53 = .ok (.goto 4, 3) := by decide +kernel
theorem dX9_turn_56 : decode cX9_turn 56 = .ok (.iconst (-1), 1) := by decide +kernel
theorem dX9_turn_57 : decode cX9_turn 57 = .ok (.istore 5, 2) := by decide +kernel
theorem dX9_turn_59 : decode cX9_turn 59 = .ok (.iload_n 1, 1) := by decide +kernel
theorem dX9_turn_60 : decode cX9_turn 60 = .ok (.iconst 3, 1) := by decide +kernel
theorem dX9_turn_61 : decode cX9_turn 61 = .ok (.if_icmp .le 9, 3) := by decide +kernel
theorem dX9_turn_64 : decode cX9_turn 64 = .ok (.iload_n 2, 1) := by decide +kernel
theorem dX9_turn_65 : decode cX9_turn 65 = .ok (.iconst 5, 1) := by decide +kernel
theorem dX9_turn_66 : decode cX9_turn 66 = .ok (.irem, 1) := by decide +kernel
theorem dX9_turn_67 : decode cX9_turn 67 = .ok (.goto 4, 3) := by decide +kernel
theorem dX9_turn_70 : decode cX9_turn 70 = .ok (.iconst (-1), 1) := by decide +kernel
theorem dX9_turn_71 : decode cX9_turn 71 = .ok (.istore 6, 2) := by decide +kernel
theorem dX9_turn_73 : decode cX9_turn 73 = .ok (.iload_n 1, 1) := by decide +kernel
theorem dX9_turn_74 : decode cX9_turn 74 = .ok (.iconst 3, 1) := by decide +kernel
theorem dX9_turn_75 : decode cX9_turn 75 = .ok (.if_icmp .ge 11, 3) := by decide +kernel
theorem dX9_turn_78 : decode cX9_turn 78 = .ok (.iload_n 2, 1) := by decide +kernel
theorem dX9_turn_79 : decode cX9_turn 79 = .ok (.iconst 5, 1) := by decide +kernel
theorem dX9_turn_80 : decode cX9_turn 80 = .ok (.idiv, 1) := by decide +kernel
theorem dX9_turn_81 : decode cX9_turn 81 = .ok (.iconst 5, 1) := by decide +kernel
theorem dX9_turn_82 : decode cX9_turn 82 = .ok (.irem, 1) := by decide +kernel
theorem dX9_turn_83 : decode cX9_turn 83 = .ok (.ifCond .ne 89, 3) := by decide +kernel
theorem dX9_turn_86 : decode cX9_turn 86 = .ok (.iload_n 1, 1) := by decide +kernel
theorem dX9_turn_87 : decode cX9_turn 87 = .ok (.iconst 4, 1) := by decide +kernel
theorem dX9_turn_88 : decode cX9_turn 88 = .ok (.if_icmp .ge 12, 3) := by decide +kernel
theorem dX9_turn_91 : decode cX9_turn 91 = .ok (.iload_n 2, 1) := by decide +kernel
theorem dX9_turn_92 : decode cX9_turn 92 = .ok (.iconst 5, 1) := by decide +kernel
theorem dX9_turn_93 : decode cX9_turn 93 = .ok (.irem, 1) := by decide +kernel
theorem dX9_turn_94 : decode cX9_turn 94 = .ok (.ifCond .eq 6, 3) := by decide +kernel
theorem dX9_turn_97 : decode cX9_turn 97 = .ok (.goto 75, 3) := by decide +kernel
theorem dX9_turn_100 : decode cX9_turn 100 = .ok (.iload_n 3, 1) := by decide +kernel
theorem dX9_turn_101 : decode cX9_turn 101 = .ok (.iload 4, 2) := by decide +kernel
theorem dX9_turn_103 : decode cX9_turn 103 = .ok (.if_icmp .ge 50, 3) := by decide +kernel
theorem dX9_turn_106 : decode cX9_turn 106 = .ok (.iload 5, 2) := by decide +kernel
theorem dX9_turn_108 : decode cX9_turn 108 = .ok (.ifCond .lt 16, 3) := by decide +kernel
theorem dX9_turn_111 : decode cX9_turn 111 = .ok (.iload_n 3, 1) := by decide +kernel
theorem dX9_turn_112 : decode cX9_turn 112 = .ok (.iload 5, 2) := by decide +kernel
theorem dX9_turn_114 : decode cX9_turn 114 = .ok (.if_icmp .ge 39, 3) := by decide +kernel
theorem dX9_turn_117 : decode cX9_turn 117 = .ok (.iload 4, 2) := by decide +kernel
theorem dX9_turn_119 : decode cX9_turn 119 = .ok (.iload 5, 2) := by decide +kernel
theorem dX9_turn_121 : decode cX9_turn 121 = .ok (.if_icmp .eq 32, 3) := by decide +kernel
theorem dX9_turn_124 : decode cX9_turn 124 = .ok (.iload 6, 2) := by decide +kernel
theorem dX9_turn_126 : decode cX9_turn 126 = .ok (.ifCond .lt 23, 3) := by decide +kernel
theorem dX9_turn_129 : decode cX9_turn 129 = .ok (.iload_n 3, 1) := by decide +kernel
theorem dX9_turn_130 : decode cX9_turn 130 = .ok (.iload 6, 2) := by decide +kernel
theorem dX9_turn_132 : decode cX9_turn 132 = .ok (.if_icmp .ge 21, 3) := by decide +kernel
theorem dX9_turn_135 : decode cX9_turn 135 = .ok (.iload 4, 2) := by decide +kernel
theorem dX9_turn_137 : decode cX9_turn 137 = .ok (.iload 6, 2) := by decide +kernel
theorem dX9_turn_139 : decode cX9_turn 139 = .ok (.if_icmp .eq 14, 3) := by decide +kernel
theorem dX9_turn_142 : decode cX9_turn 142 = .ok (.iload 5, 2) := by decide +kernel
theorem dX9_turn_144 : decode cX9_turn 144 = .ok (.iload 6, 2) := by decide +kernel
theorem dX9_turn_146 : decode cX9_turn 146 = .ok (.if_icmp .eq 7, 3) := by decide +kernel
theorem dX9_turn_149 : decode cX9_turn 149 = .ok (.iconst 1, 1) := by decide +kernel
theorem dX9_turn_150 : decode cX9_turn 150 = .ok (.goto 4, 3) := by decide +kernel
theorem dX9_turn_153 : decode cX9_turn 153 = .ok (.iconst 0, 1) := by decide +kernel
theorem dX9_turn_154 : decode cX9_turn 154 = .ok (.istore 7, 2) := by decide +kernel
theorem dX9_turn_156 : decode cX9_turn 156 = .ok (.iload 7, 2) := by decide +kernel
theorem dX9_turn_158 : decode cX9_turn 158 = .ok (.ifCond .eq 14, 3) := by decide +kernel
theorem dX9_turn_161 : decode cX9_turn 161 = .ok (.aload_n 0, 1) := by decide +kernel
theorem dX9_turn_162 : decode cX9_turn 162 = .ok (.iload_n 3, 1) := by decide +kernel
theorem dX9_turn_163 : decode cX9_turn 163 = .ok (.iload 4, 2) := by decide +kernel
theorem dX9_turn_165 : decode cX9_turn 165 = .ok (.iload 5, 2) := by decide +kernel
theorem dX9_turn_167 : decode cX9_turn 167 = .ok (.iload 6, 2) := by decide +kernel
theorem dX9_turn_169 : decode cX9_turn 169 = .ok (.invokevirtual 350, 3) := by decide +kernel
theorem dX9_turn_172 : decode cX9_turn 172 = .ok (.iinc 2 1, 3) := by decide +kernel
theorem dX9_turn_175 : decode cX9_turn 175 = .ok (.goto (-152), 3) := by decide +kernel
theorem dX9_turn_178 : decode cX9_turn 178 = .ok (.iinc 1 1, 3) := by decide +kernel
theorem dX9_turn_181 : decode cX9_turn 181 = .ok (.goto (-165), 3) := by decide +kernel
theorem dX9_turn_184 : decode cX9_turn 184 = .ok (.aload_n 0, 1) := by decide +kernel
theorem dX9_turn_185 : decode cX9_turn 185 = .ok (.getfield 345, 3) := by decide +kernel
theorem dX9_turn_188 : decode cX9_turn 188 = .ok (.ldc2_w 211, 3) := by decide +kernel
theorem dX9_turn_191 : decode cX9_turn 191 = .ok (.lcmp, 1) := by decide +kernel
theorem dX9_turn_192 : decode cX9_turn 192 = .ok (.ifCond .ne 13, 3) := by decide +kernel
theorem dX9_turn_195 : decode cX9_turn 195 = .ok (.aload_n 0, 1) := by decide +kernel
theorem dX9_turn_196 : decode cX9_turn 196 = .ok (.ldc2_w 211, 3) := by decide +kernel
theorem dX9_turn_199 : decode cX9_turn 199 = .ok (.invokevirtual 154, 3) := by decide +kernel
theorem dX9_turn_202 : decode cX9_turn 202 = .ok (.goto 7, 3) := by decide +kernel
theorem dX9_turn_205 : decode cX9_turn 205 = .ok (.aload_n 0, 1) := by decide +kernel
theorem dX9_turn_206 : decode cX9_turn 206 = .ok (.getfield 345, 3) := by decide +kernel
theorem dX9_turn_209 : decode cX9_turn 209 = .ok (.lreturn, 1) := by decide +kernel
theorem dX9_pledged_0 : decode cX9_pledged 0 = .ok (.lconst 0, 1) := by decide +kernel
theorem dX9_pledged_1 : decode cX9_pledged 1 = .ok (.lstore_n 3, 1) := by decide +kernel
theorem dX9_pledged_2 : decode cX9_pledged 2 = .ok (.iconst 0, 1) := by decide +kernel
theorem dX9_pledged_3 : decode cX9_pledged 3 = .ok (.istore 5, 2) := by decide +kernel
theorem dX9_pledged_5 : decode cX9_pledged 5 = .ok (.iload 5, 2) := by decide +kernel
theorem dX9_pledged_7 : decode cX9_pledged 7 = .ok (.aload_n 0, 1) := by decide +kernel
theorem dX9_pledged_8 : decode cX9_pledged 8 = .ok (.getfield 145, 3) := by decide +kernel
theorem dX9_pledged_11 : decode cX9_pledged 11 = .ok (.if_icmp .ge 90, 3) := by decide +kernel
theorem dX9_pledged_14 : decode cX9_pledged 14 = .ok (.aload_n 0, 1) := by decide +kernel
theorem dX9_pledged_15 : decode cX9_pledged 15 = .ok (.getfield 20, 3) := by decide +kernel
theorem dX9_pledged_18 : decode cX9_pledged 18 = .ok (.iload 5, 2) := by decide +kernel
theorem dX9_pledged_20 : decode cX9_pledged 20 = .ok (.iaload, 1) := by decide +kernel
theorem dX9_pledged_21 : decode cX9_pledged 21 = .ok (.iconst 2, 1) := by decide +kernel
theorem dX9_pledged_22 : decode cX9_pledged 22 = .ok (.if_icmp .ne 50, 3) := by decide +kernel
theorem dX9_pledged_25 : decode cX9_pledged 25 = .ok (.aload_n 0, 1) := by decide +kernel
theorem dX9_pledged_26 : decode cX9_pledged 26 = .ok (.getfield 35, 3) := by decide +kernel
theorem dX9_pledged_29 : decode cX9_pledged 29 = .ok (.iload 5, 2) := by decide +kernel
theorem dX9_pledged_31 : decode cX9_pledged 31 = .ok (.iaload, 1) := by decide +kernel
theorem dX9_pledged_32 : decode cX9_pledged 32 = .ok (.iconst 4, 1) := by decide +kernel
theorem dX9_pledged_33 : decode cX9_pledged 33 = .ok (.if_icmp .ne 39, 3) := by decide +kernel
theorem dX9_pledged_36 : decode cX9_pledged 36 = .ok (.aload_n 0, 1) := by decide +kernel
theorem dX9_pledged_37 : decode cX9_pledged 37 = .ok (.getfield 48, 3) := by decide +kernel
theorem dX9_pledged_40 : decode cX9_pledged 40 = .ok (.iload 5, 2) := by decide +kernel
theorem dX9_pledged_42 : decode cX9_pledged 42 = .ok (.baload, 1) := by decide +kernel
theorem dX9_pledged_43 : decode cX9_pledged 43 = .ok (.ifCond .eq 29, 3) := by decide +kernel
theorem dX9_pledged_46 : decode cX9_pledged 46 = .ok (.aload_n 0, 1) := by decide +kernel
theorem dX9_pledged_47 : decode cX9_pledged 47 = .ok (.getfield 26, 3) := by decide +kernel
theorem dX9_pledged_50 : decode cX9_pledged 50 = .ok (.iload 5, 2) := by decide +kernel
theorem dX9_pledged_52 : decode cX9_pledged 52 = .ok (.iaload, 1) := by decide +kernel
theorem dX9_pledged_53 : decode cX9_pledged 53 = .ok (.iload_n 1, 1) := by decide +kernel
theorem dX9_pledged_54 : decode cX9_pledged 54 = .ok (.if_icmp .ne 18, 3) := by decide +kernel
theorem dX9_pledged_57 : decode cX9_pledged 57 = .ok (.aload_n 0, 1) := by decide +kernel
theorem dX9_pledged_58 : decode cX9_pledged 58 = .ok (.getfield 29, 3) := by decide +kernel
theorem dX9_pledged_61 : decode cX9_pledged 61 = .ok (.iload 5, 2) := by decide +kernel
theorem dX9_pledged_63 : decode cX9_pledged 63 = .ok (.iaload, 1) := by decide +kernel
theorem dX9_pledged_64 : decode cX9_pledged 64 = .ok (.iload_n 2, 1) := by decide +kernel
theorem dX9_pledged_65 : decode cX9_pledged 65 = .ok (.if_icmp .ne 7, 3) := by decide +kernel
theorem dX9_pledged_68 : decode cX9_pledged 68 = .ok (.iconst 1, 1) := by decide +kernel
theorem dX9_pledged_69 : decode cX9_pledged 69 = .ok (.goto 4, 3) := by decide +kernel
theorem dX9_pledged_72 : decode cX9_pledged 72 = .ok (.iconst 0, 1) := by decide +kernel
theorem dX9_pledged_73 : decode cX9_pledged 73 = .ok (.istore 6, 2) := by decide +kernel
theorem dX9_pledged_75 : decode cX9_pledged 75 = .ok (.lload_n 3, 1) := by decide +kernel
theorem dX9_pledged_76 : decode cX9_pledged 76 = .ok (.iload 6, 2) := by decide +kernel
theorem dX9_pledged_78 : decode cX9_pledged 78 = .ok (.ifCond .eq 14, 3) := by decide +kernel
theorem dX9_pledged_81 : decode cX9_pledged 81 = .ok (.aload_n 0, 1) := by decide +kernel
theorem dX9_pledged_82 : decode cX9_pledged 82 = .ok (.getfield 32, 3) := by decide +kernel
theorem dX9_pledged_85 : decode cX9_pledged 85 = .ok (.iload 5, 2) := by decide +kernel
theorem dX9_pledged_87 : decode cX9_pledged 87 = .ok (.iaload, 1) := by decide +kernel
theorem dX9_pledged_88 : decode cX9_pledged 88 = .ok (.i2l, 1) := by decide +kernel
theorem dX9_pledged_89 : decode cX9_pledged 89 = .ok (.goto 4, 3) := by decide +kernel
theorem dX9_pledged_92 : decode cX9_pledged 92 = .ok (.lconst 0, 1) := by decide +kernel
theorem dX9_pledged_93 : decode cX9_pledged 93 = .ok (.ladd, 1) := by decide +kernel
theorem dX9_pledged_94 : decode cX9_pledged 94 = .ok (.lstore_n 3, 1) := by decide +kernel
theorem dX9_pledged_95 : decode cX9_pledged 95 = .ok (.iinc 5 1, 3) := by decide +kernel
theorem dX9_pledged_98 : decode cX9_pledged 98 = .ok (.goto (-93), 3) := by decide +kernel
theorem dX9_pledged_101 : decode cX9_pledged 101 = .ok (.lload_n 3, 1) := by decide +kernel
theorem dX9_pledged_102 : decode cX9_pledged 102 = .ok (.aload_n 0, 1) := by decide +kernel
theorem dX9_pledged_103 : decode cX9_pledged 103 = .ok (.getfield 52, 3) := by decide +kernel
theorem dX9_pledged_106 : decode cX9_pledged 106 = .ok (.bipush 10, 2) := by decide +kernel
theorem dX9_pledged_108 : decode cX9_pledged 108 = .ok (.iload_n 1, 1) := by decide +kernel
theorem dX9_pledged_109 : decode cX9_pledged 109 = .ok (.imul, 1) := by decide +kernel
theorem dX9_pledged_110 : decode cX9_pledged 110 = .ok (.iload_n 2, 1) := by decide +kernel
theorem dX9_pledged_111 : decode cX9_pledged 111 = .ok (.iadd, 1) := by decide +kernel
theorem dX9_pledged_112 : decode cX9_pledged 112 = .ok (.laload, 1) := by decide +kernel
theorem dX9_pledged_113 : decode cX9_pledged 113 = .ok (.invokestatic 317, 3) := by decide +kernel
theorem dX9_pledged_116 : decode cX9_pledged 116 = .ok (.lreturn, 1) := by decide +kernel
theorem dX9_share_0 : decode cX9_share 0 = .ok (.lconst 0, 1) := by decide +kernel
theorem dX9_share_1 : decode cX9_share 1 = .ok (.lstore_n 3, 1) := by decide +kernel
theorem dX9_share_2 : decode cX9_share 2 = .ok (.iconst 0, 1) := by decide +kernel
theorem dX9_share_3 : decode cX9_share 3 = .ok (.istore 5, 2) := by decide +kernel
theorem dX9_share_5 : decode cX9_share 5 = .ok (.iload 5, 2) := by decide +kernel
theorem dX9_share_7 : decode cX9_share 7 = .ok (.bipush 10, 2) := by decide +kernel
theorem dX9_share_9 : decode cX9_share 9 = .ok (.if_icmp .ge 19, 3) := by decide +kernel
theorem dX9_share_12 : decode cX9_share 12 = .ok (.lload_n 3, 1) := by decide +kernel
theorem dX9_share_13 : decode cX9_share 13 = .ok (.aload_n 0, 1) := by decide +kernel
theorem dX9_share_14 : decode cX9_share 14 = .ok (.getfield 133, 3) := by decide +kernel
theorem dX9_share_17 : decode cX9_share 17 = .ok (.iload 5, 2) := by decide +kernel
theorem dX9_share_19 : decode cX9_share 19 = .ok (.laload, 1) := by decide +kernel
theorem dX9_share_20 : decode cX9_share 20 = .ok (.ladd, 1) := by decide +kernel
theorem dX9_share_21 : decode cX9_share 21 = .ok (.lstore_n 3, 1) := by decide +kernel
theorem dX9_share_22 : decode cX9_share 22 = .ok (.iinc 5 1, 3) := by decide +kernel
theorem dX9_share_25 : decode cX9_share 25 = .ok (.goto (-20), 3) := by decide +kernel
theorem dX9_share_28 : decode cX9_share 28 = .ok (.lload_n 1, 1) := by decide +kernel
theorem dX9_share_29 : decode cX9_share 29 = .ok (.lload_n 3, 1) := by decide +kernel
theorem dX9_share_30 : decode cX9_share 30 = .ok (.lcmp, 1) := by decide +kernel
theorem dX9_share_31 : decode cX9_share 31 = .ok (.ifCond .lt 40, 3) := by decide +kernel
theorem dX9_share_34 : decode cX9_share 34 = .ok (.iconst 0, 1) := by decide +kernel
theorem dX9_share_35 : decode cX9_share 35 = .ok (.istore 5, 2) := by decide +kernel
theorem dX9_share_37 : decode cX9_share 37 = .ok (.iload 5, 2) := by decide +kernel
theorem dX9_share_39 : decode cX9_share 39 = .ok (.bipush 10, 2) := by decide +kernel
theorem dX9_share_41 : decode cX9_share 41 = .ok (.if_icmp .ge 26, 3) := by decide +kernel
theorem dX9_share_44 : decode cX9_share 44 = .ok (.aload_n 0, 1) := by decide +kernel
theorem dX9_share_45 : decode cX9_share 45 = .ok (.getfield 136, 3) := by decide +kernel
theorem dX9_share_48 : decode cX9_share 48 = .ok (.iload 5, 2) := by decide +kernel
theorem dX9_share_50 : decode cX9_share 50 = .ok (.dup2, 1) := by decide +kernel
theorem dX9_share_51 : decode cX9_share 51 = .ok (.laload, 1) := by decide +kernel
theorem dX9_share_52 : decode cX9_share 52 = .ok (.aload_n 0, 1) := by decide +kernel
theorem dX9_share_53 : decode cX9_share 53 = .ok (.getfield 133, 3) := by decide +kernel
theorem dX9_share_56 : decode cX9_share 56 = .ok (.iload 5, 2) := by decide +kernel
theorem dX9_share_58 : decode cX9_share 58 = .ok (.laload, 1) := by decide +kernel
theorem dX9_share_59 : decode cX9_share 59 = .ok (.ladd, 1) := by decide +kernel
theorem dX9_share_60 : decode cX9_share 60 = .ok (.lastore, 1) := by decide +kernel
theorem dX9_share_61 : decode cX9_share 61 = .ok (.iinc 5 1, 3) := by decide +kernel
theorem dX9_share_64 : decode cX9_share 64 = .ok (.goto (-27), 3) := by decide +kernel
theorem dX9_share_67 : decode cX9_share 67 = .ok (.lload_n 1, 1) := by decide +kernel
theorem dX9_share_68 : decode cX9_share 68 = .ok (.lload_n 3, 1) := by decide +kernel
theorem dX9_share_69 : decode cX9_share 69 = .ok (.lsub, 1) := by decide +kernel
theorem dX9_share_70 : decode cX9_share 70 = .ok (.lreturn, 1) := by decide +kernel
theorem dX9_share_71 : decode cX9_share 71 = .ok (.lload_n 1, 1) := by decide +kernel
theorem dX9_share_72 : decode cX9_share 72 = .ok (.lstore 5, 2) := by decide +kernel
theorem dX9_share_74 : decode cX9_share 74 = .ok (.iconst 0, 1) := by decide +kernel
theorem dX9_share_75 : decode cX9_share 75 = .ok (.istore 7, 2) := by decide +kernel
theorem dX9_share_77 : decode cX9_share 77 = .ok (.iload 7, 2) := by decide +kernel
theorem dX9_share_79 : decode cX9_share 79 = .ok (.bipush 10, 2) := by decide +kernel
theorem dX9_share_81 : decode cX9_share 81 = .ok (.if_icmp .ge 41, 3) := by decide +kernel
theorem dX9_share_84 : decode cX9_share 84 = .ok (.lload_n 1, 1) := by decide +kernel
theorem dX9_share_85 : decode cX9_share 85 = .ok (.aload_n 0, 1) := by decide +kernel
theorem dX9_share_86 : decode cX9_share 86 = .ok (.getfield 133, 3) := by decide +kernel
theorem dX9_share_89 : decode cX9_share 89 = .ok (.iload 7, 2) := by decide +kernel
theorem dX9_share_91 : decode cX9_share 91 = .ok (.laload, 1) := by decide +kernel
theorem dX9_share_92 : decode cX9_share 92 = .ok (.lmul, 1) := by decide +kernel
theorem dX9_share_93 : decode cX9_share 93 = .ok (.lload_n 3, 1) := by decide +kernel
theorem dX9_share_94 : decode cX9_share 94 = .ok (.ldiv, 1) := by decide +kernel
theorem dX9_share_95 : decode cX9_share 95 = .ok (.lstore 8, 2) := by decide +kernel
theorem dX9_share_97 : decode cX9_share 97 = .ok (.aload_n 0, 1) := by decide +kernel
theorem dX9_share_98 : decode cX9_share 98 = .ok (.getfield 136, 3) := by decide +kernel
theorem dX9_share_101 : decode cX9_share 101 = .ok (.iload 7, 2) := by decide +kernel
theorem dX9_share_103 : decode cX9_share 103 = .ok (.dup2, 1) := by decide +kernel
theorem dX9_share_104 : decode cX9_share 104 = .ok (.laload, 1) := by decide +kernel
theorem dX9_share_105 : decode cX9_share 105 = .ok (.lload 8, 2) := by decide +kernel
theorem dX9_share_107 : decode cX9_share 107 = .ok (.ladd, 1) := by decide +kernel
theorem dX9_share_108 : decode cX9_share 108 = .ok (.lastore, 1) := by decide +kernel
theorem dX9_share_109 : decode cX9_share 109 = .ok (.lload 5, 2) := by decide +kernel
theorem dX9_share_111 : decode cX9_share 111 = .ok (.lload 8, 2) := by decide +kernel
theorem dX9_share_113 : decode cX9_share 113 = .ok (.lsub, 1) := by decide +kernel
theorem dX9_share_114 : decode cX9_share 114 = .ok (.lstore 5, 2) := by decide +kernel
theorem dX9_share_116 : decode cX9_share 116 = .ok (.iinc 7 1, 3) := by decide +kernel
theorem dX9_share_119 : decode cX9_share 119 = .ok (.goto (-42), 3) := by decide +kernel
theorem dX9_share_122 : decode cX9_share 122 = .ok (.iconst 0, 1) := by decide +kernel
theorem dX9_share_123 : decode cX9_share 123 = .ok (.istore 7, 2) := by decide +kernel
theorem dX9_share_125 : decode cX9_share 125 = .ok (.iload 7, 2) := by decide +kernel
theorem dX9_share_127 : decode cX9_share 127 = .ok (.bipush 10, 2) := by decide +kernel
theorem dX9_share_129 : decode cX9_share 129 = .ok (.if_icmp .ge 45, 3) := by decide +kernel
theorem dX9_share_132 : decode cX9_share 132 = .ok (.lload 5, 2) := by decide +kernel
theorem dX9_share_134 : decode cX9_share 134 = .ok (.lconst 0, 1) := by decide +kernel
theorem dX9_share_135 : decode cX9_share 135 = .ok (.lcmp, 1) := by decide +kernel
theorem dX9_share_136 : decode cX9_share 136 = .ok (.ifCond .le 38, 3) := by decide +kernel
theorem dX9_share_139 : decode cX9_share 139 = .ok (.aload_n 0, 1) := by decide +kernel
theorem dX9_share_140 : decode cX9_share 140 = .ok (.getfield 133, 3) := by decide +kernel
theorem dX9_share_143 : decode cX9_share 143 = .ok (.iload 7, 2) := by decide +kernel
theorem dX9_share_145 : decode cX9_share 145 = .ok (.laload, 1) := by decide +kernel
theorem dX9_share_146 : decode cX9_share 146 = .ok (.lconst 0, 1) := by decide +kernel
theorem dX9_share_147 : decode cX9_share 147 = .ok (.lcmp, 1) := by decide +kernel
theorem dX9_share_148 : decode cX9_share 148 = .ok (.ifCond .le 20, 3) := by decide +kernel
theorem dX9_share_151 : decode cX9_share 151 = .ok (.aload_n 0, 1) := by decide +kernel
theorem dX9_share_152 : decode cX9_share 152 = .ok (.getfield 136, 3) := by decide +kernel
theorem dX9_share_155 : decode cX9_share 155 = .ok (.iload 7, 2) := by decide +kernel
theorem dX9_share_157 : decode cX9_share 157 = .ok (.dup2, 1) := by decide +kernel
theorem dX9_share_158 : decode cX9_share 158 = .ok (.laload, 1) := by decide +kernel
theorem dX9_share_159 : decode cX9_share 159 = .ok (.lconst 1, 1) := by decide +kernel
theorem dX9_share_160 : decode cX9_share 160 = .ok (.ladd, 1) := by decide +kernel
theorem dX9_share_161 : decode cX9_share 161 = .ok (.lastore, 1) := by decide +kernel
theorem dX9_share_162 : decode cX9_share 162 = .ok (.lload 5, 2) := by decide +kernel
theorem dX9_share_164 : decode cX9_share 164 = .ok (.lconst 1, 1) := by decide +kernel
theorem dX9_share_165 : decode cX9_share 165 = .ok (.lsub, 1) := by decide +kernel
theorem dX9_share_166 : decode cX9_share 166 = .ok (.lstore 5, 2) := by decide +kernel
theorem dX9_share_168 : decode cX9_share 168 = .ok (.iinc 7 1, 3) := by decide +kernel
theorem dX9_share_171 : decode cX9_share 171 = .ok (.goto (-46), 3) := by decide +kernel
theorem dX9_share_174 : decode cX9_share 174 = .ok (.lconst 0, 1) := by decide +kernel
theorem dX9_share_175 : decode cX9_share 175 = .ok (.lreturn, 1) := by decide +kernel
set_option maxRecDepth 20000 in
theorem ggX9_part_X9_isHouse : GoodIn wsX9_part wsX9_isHouse := goodIn_r _ [9, 10, 11, 8, 12] rfl (by decide +kernel)
set_option maxRecDepth 20000 in
theorem gX9_part_X9_isHouse : GoodIn wsX9_part (va_wsS RX9 171 yX9_isHouse wsX9_isHouse) := goodIn_app (goodIn_of _ (by decide +kernel)) ggX9_part_X9_isHouse
set_option maxRecDepth 20000 in
theorem ggX9_part_X9_in : GoodIn wsX9_part wsX9_in := goodIn_r _ [12] rfl (by decide +kernel)
set_option maxRecDepth 20000 in
theorem gX9_part_X9_in : GoodIn wsX9_part (va_wsS RX9 141 yX9_in wsX9_in) := goodIn_app (goodIn_of _ (by decide +kernel)) ggX9_part_X9_in
set_option maxRecDepth 20000 in
theorem ggX9_part_X9_finding : GoodIn wsX9_part wsX9_finding := goodIn_r _ [16, 17, 18, 38, 39, 40, 41, 42, 43, 44, 45, 46, 47, 48, 49, 50, 51, 52, 53, 54, 55, 56, 57, 58, 59, 60, 61, 62, 63, 64, 65, 66, 67, 68, 69, 70, 71, 72, 73, 74, 75, 76, 77, 78, 79, 80, 81, 82, 83, 84, 85, 86, 87, 88, 89, 90, 91, 92] rfl (by decide +kernel)
set_option maxRecDepth 20000 in
theorem gX9_part_X9_finding : GoodIn wsX9_part (wsV RX9 154 RX9 yX9_finding wsX9_finding) := goodIn_app (goodIn_of _ (by decide +kernel)) ggX9_part_X9_finding
set_option maxRecDepth 20000 in
theorem ggX9_part_X9_pledged : GoodIn wsX9_part wsX9_pledged := goodIn_r _ [22, 23, 24, 25, 26, 27, 28, 29, 5, 30, 31, 32, 33, 38, 39, 40, 41, 42, 43, 44, 45, 46, 47, 48, 49, 50, 51, 52, 53, 54, 55, 56, 57, 58, 59, 60, 61, 62, 63, 64, 65, 66, 67, 68, 69, 70, 71, 72, 73, 74, 75, 76, 77, 78, 79, 80, 81, 82, 83, 84, 85, 86, 87, 88, 89, 90, 91, 92] rfl (by decide +kernel)
set_option maxRecDepth 20000 in
theorem gX9_part_X9_pledged : GoodIn wsX9_part (wsV RX9 355 RX9 yX9_pledged wsX9_pledged) := goodIn_app (goodIn_of _ (by decide +kernel)) ggX9_part_X9_pledged
set_option maxRecDepth 20000 in
theorem ggX9_part_X9_share : GoodIn wsX9_part wsX9_share := goodIn_r _ [37, 4, 3, 38, 39, 40, 41, 42, 43, 44, 45, 46, 47, 48, 49, 50, 51, 52, 53, 54, 55, 56, 57, 58, 59, 60, 61, 62, 63, 64, 65, 66, 67, 68, 69, 70, 71, 72, 73, 74, 75, 76, 77, 78, 79, 80, 81, 82, 83, 84, 85, 86, 87, 88, 89, 90, 91, 92] rfl (by decide +kernel)
set_option maxRecDepth 20000 in
theorem gX9_part_X9_share : GoodIn wsX9_part (wsV RX9 358 RX9 yX9_share wsX9_share) := goodIn_app (goodIn_of _ (by decide +kernel)) ggX9_part_X9_share
theorem dX9_part_0 : decode cX9_part 0 = .ok (.iload_n 1, 1) := by decide +kernel
theorem dX9_part_1 : decode cX9_part 1 = .ok (.invokestatic 171, 3) := by decide +kernel
theorem dX9_part_4 : decode cX9_part 4 = .ok (.ifCond .eq 26, 3) := by decide +kernel
theorem dX9_part_7 : decode cX9_part 7 = .ok (.iload_n 3, 1) := by decide +kernel
theorem dX9_part_8 : decode cX9_part 8 = .ok (.invokestatic 171, 3) := by decide +kernel
theorem dX9_part_11 : decode cX9_part 11 = .ok (.ifCond .eq 19, 3) := by decide +kernel
theorem dX9_part_14 : decode cX9_part 14 = .ok (.iload_n 1, 1) := by decide +kernel
theorem dX9_part_15 : decode cX9_part 15 = .ok (.iload_n 3, 1) := by decide +kernel
theorem dX9_part_16 : decode cX9_part 16 = .ok (.if_icmp .eq 14, 3) := by decide +kernel
theorem dX9_part_19 : decode cX9_part 19 = .ok (.iload_n 2, 1) := by decide +kernel
theorem dX9_part_20 : decode cX9_part 20 = .ok (.iconst 0, 1) := by decide +kernel
theorem dX9_part_21 : decode cX9_part 21 = .ok (.ldc_w 354, 3) := by decide +kernel
theorem dX9_part_24 : decode cX9_part 24 = .ok (.invokestatic 141, 3) := by decide +kernel
theorem dX9_part_27 : decode cX9_part 27 = .ok (.ifCond .ne 11, 3) := by decide +kernel
theorem dX9_part_30 : decode cX9_part 30 = .ok (.aload_n 0, 1) := by decide +kernel
theorem dX9_part_31 : decode cX9_part 31 = .ok (.ldc2_w 152, 3) := by decide +kernel
theorem dX9_part_34 : decode cX9_part 34 = .ok (.invokevirtual 154, 3) := by decide +kernel
theorem dX9_part_37 : decode cX9_part 37 = .ok (.lreturn, 1) := by decide +kernel
theorem dX9_part_38 : decode cX9_part 38 = .ok (.iconst 0, 1) := by decide +kernel
theorem dX9_part_39 : decode cX9_part 39 = .ok (.istore 4, 2) := by decide +kernel
theorem dX9_part_41 : decode cX9_part 41 = .ok (.iload 4, 2) := by decide +kernel
theorem dX9_part_43 : decode cX9_part 43 = .ok (.bipush 10, 2) := by decide +kernel
theorem dX9_part_45 : decode cX9_part 45 = .ok (.if_icmp .ge 31, 3) := by decide +kernel
theorem dX9_part_48 : decode cX9_part 48 = .ok (.aload_n 0, 1) := by decide +kernel
theorem dX9_part_49 : decode cX9_part 49 = .ok (.getfield 136, 3) := by decide +kernel
theorem dX9_part_52 : decode cX9_part 52 = .ok (.iload 4, 2) := by decide +kernel
theorem dX9_part_54 : decode cX9_part 54 = .ok (.lconst 0, 1) := by decide +kernel
theorem dX9_part_55 : decode cX9_part 55 = .ok (.lastore, 1) := by decide +kernel
theorem dX9_part_56 : decode cX9_part 56 = .ok (.aload_n 0, 1) := by decide +kernel
theorem dX9_part_57 : decode cX9_part 57 = .ok (.getfield 133, 3) := by decide +kernel
theorem dX9_part_60 : decode cX9_part 60 = .ok (.iload 4, 2) := by decide +kernel
theorem dX9_part_62 : decode cX9_part 62 = .ok (.aload_n 0, 1) := by decide +kernel
theorem dX9_part_63 : decode cX9_part 63 = .ok (.iload_n 1, 1) := by decide +kernel
theorem dX9_part_64 : decode cX9_part 64 = .ok (.iload 4, 2) := by decide +kernel
theorem dX9_part_66 : decode cX9_part 66 = .ok (.invokevirtual 355, 3) := by decide +kernel
theorem dX9_part_69 : decode cX9_part 69 = .ok (.lastore, 1) := by decide +kernel
theorem dX9_part_70 : decode cX9_part 70 = .ok (.iinc 4 1, 3) := by decide +kernel
theorem dX9_part_73 : decode cX9_part 73 = .ok (.goto (-32), 3) := by decide +kernel
theorem dX9_part_76 : decode cX9_part 76 = .ok (.aload_n 0, 1) := by decide +kernel
theorem dX9_part_77 : decode cX9_part 77 = .ok (.iload_n 2, 1) := by decide +kernel
theorem dX9_part_78 : decode cX9_part 78 = .ok (.i2l, 1) := by decide +kernel
theorem dX9_part_79 : decode cX9_part 79 = .ok (.invokevirtual 358, 3) := by decide +kernel
theorem dX9_part_82 : decode cX9_part 82 = .ok (.lstore 4, 2) := by decide +kernel
theorem dX9_part_84 : decode cX9_part 84 = .ok (.iconst 0, 1) := by decide +kernel
theorem dX9_part_85 : decode cX9_part 85 = .ok (.istore 6, 2) := by decide +kernel
theorem dX9_part_87 : decode cX9_part 87 = .ok (.iload 6, 2) := by decide +kernel
theorem dX9_part_89 : decode cX9_part 89 = .ok (.bipush 10, 2) := by decide +kernel
theorem dX9_part_91 : decode cX9_part 91 = .ok (.if_icmp .ge 36, 3) := by decide +kernel
theorem dX9_part_94 : decode cX9_part 94 = .ok (.aload_n 0, 1) := by decide +kernel
theorem dX9_part_95 : decode cX9_part 95 = .ok (.getfield 133, 3) := by decide +kernel
theorem dX9_part_98 : decode cX9_part 98 = .ok (.iload 6, 2) := by decide +kernel
theorem dX9_part_100 : decode cX9_part 100 = .ok (.aload_n 0, 1) := by decide +kernel
theorem dX9_part_101 : decode cX9_part 101 = .ok (.getfield 52, 3) := by decide +kernel
theorem dX9_part_104 : decode cX9_part 104 = .ok (.bipush 10, 2) := by decide +kernel
theorem dX9_part_106 : decode cX9_part 106 = .ok (.iload_n 1, 1) := by decide +kernel
theorem dX9_part_107 : decode cX9_part 107 = .ok (.imul, 1) := by decide +kernel
theorem dX9_part_108 : decode cX9_part 108 = .ok (.iload 6, 2) := by decide +kernel
theorem dX9_part_110 : decode cX9_part 110 = .ok (.iadd, 1) := by decide +kernel
theorem dX9_part_111 : decode cX9_part 111 = .ok (.laload, 1) := by decide +kernel
theorem dX9_part_112 : decode cX9_part 112 = .ok (.aload_n 0, 1) := by decide +kernel
theorem dX9_part_113 : decode cX9_part 113 = .ok (.iload_n 1, 1) := by decide +kernel
theorem dX9_part_114 : decode cX9_part 114 = .ok (.iload 6, 2) := by decide +kernel
theorem dX9_part_116 : decode cX9_part 116 = .ok (.invokevirtual 355, 3) := by decide +kernel
theorem dX9_part_119 : decode cX9_part 119 = .ok (.lsub, 1) := by decide +kernel
theorem dX9_part_120 : decode cX9_part 120 = .ok (.lastore, 1) := by decide +kernel
theorem dX9_part_121 : decode cX9_part 121 = .ok (.iinc 6 1, 3) := by decide +kernel
theorem dX9_part_124 : decode cX9_part 124 = .ok (.goto (-37), 3) := by decide +kernel
theorem dX9_part_127 : decode cX9_part 127 = .ok (.aload_n 0, 1) := by decide +kernel
theorem dX9_part_128 : decode cX9_part 128 = .ok (.lload 4, 2) := by decide +kernel
theorem dX9_part_130 : decode cX9_part 130 = .ok (.invokevirtual 358, 3) := by decide +kernel
theorem dX9_part_133 : decode cX9_part 133 = .ok (.lstore 4, 2) := by decide +kernel
theorem dX9_part_135 : decode cX9_part 135 = .ok (.aload_n 0, 1) := by decide +kernel
theorem dX9_part_136 : decode cX9_part 136 = .ok (.getfield 136, 3) := by decide +kernel
theorem dX9_part_139 : decode cX9_part 139 = .ok (.iload_n 3, 1) := by decide +kernel
theorem dX9_part_140 : decode cX9_part 140 = .ok (.laload, 1) := by decide +kernel
theorem dX9_part_141 : decode cX9_part 141 = .ok (.lreturn, 1) := by decide +kernel
set_option maxRecDepth 20000 in
theorem ggX9_tell_X9_finding : GoodIn wsX9_tell wsX9_finding := goodIn_r _ [8, 9, 10, 11, 12, 13, 14, 15, 16, 17, 18, 19, 20, 21, 22, 23, 24, 25, 26, 27, 28, 29, 30, 31, 32, 33, 34, 35, 36, 37, 38, 39, 40, 41, 42, 43, 44, 45, 46, 47, 48, 49, 50, 51, 52, 53, 54, 55, 56, 57, 58, 59, 60, 61, 62, 63, 64, 65] rfl (by decide +kernel)
set_option maxRecDepth 20000 in
theorem gX9_tell_X9_finding : GoodIn wsX9_tell (wsV RX9 154 RX9 yX9_finding wsX9_finding) := goodIn_app (goodIn_of _ (by decide +kernel)) ggX9_tell_X9_finding
theorem dX9_tell_0 : decode cX9_tell 0 = .ok (.aload_n 0, 1) := by decide +kernel
theorem dX9_tell_1 : decode cX9_tell 1 = .ok (.getfield 361, 3) := by decide +kernel
theorem dX9_tell_4 : decode cX9_tell 4 = .ok (.bipush 30, 2) := by decide +kernel
theorem dX9_tell_6 : decode cX9_tell 6 = .ok (.if_icmp .ne 11, 3) := by decide +kernel
theorem dX9_tell_9 : decode cX9_tell 9 = .ok (.aload_n 0, 1) := by decide +kernel
theorem dX9_tell_10 : decode cX9_tell 10 = .ok (.ldc2_w 169, 3) := by decide +kernel
theorem dX9_tell_13 : decode cX9_tell 13 = .ok (.invokevirtual 154, 3) := by decide +kernel
theorem dX9_tell_16 : decode cX9_tell 16 = .ok (.lreturn, 1) := by decide +kernel
theorem dX9_tell_17 : decode cX9_tell 17 = .ok (.aload_n 0, 1) := by decide +kernel
theorem dX9_tell_18 : decode cX9_tell 18 = .ok (.getfield 67, 3) := by decide +kernel
theorem dX9_tell_21 : decode cX9_tell 21 = .ok (.aload_n 0, 1) := by decide +kernel
theorem dX9_tell_22 : decode cX9_tell 22 = .ok (.getfield 361, 3) := by decide +kernel
theorem dX9_tell_25 : decode cX9_tell 25 = .ok (.iload_n 1, 1) := by decide +kernel
theorem dX9_tell_26 : decode cX9_tell 26 = .ok (.iastore, 1) := by decide +kernel
theorem dX9_tell_27 : decode cX9_tell 27 = .ok (.aload_n 0, 1) := by decide +kernel
theorem dX9_tell_28 : decode cX9_tell 28 = .ok (.dup, 1) := by decide +kernel
theorem dX9_tell_29 : decode cX9_tell 29 = .ok (.getfield 361, 3) := by decide +kernel
theorem dX9_tell_32 : decode cX9_tell 32 = .ok (.iconst 1, 1) := by decide +kernel
theorem dX9_tell_33 : decode cX9_tell 33 = .ok (.iadd, 1) := by decide +kernel
theorem dX9_tell_34 : decode cX9_tell 34 = .ok (.putfield 361, 3) := by decide +kernel
theorem dX9_tell_37 : decode cX9_tell 37 = .ok (.aload_n 0, 1) := by decide +kernel
theorem dX9_tell_38 : decode cX9_tell 38 = .ok (.getfield 361, 3) := by decide +kernel
theorem dX9_tell_41 : decode cX9_tell 41 = .ok (.i2l, 1) := by decide +kernel
theorem dX9_tell_42 : decode cX9_tell 42 = .ok (.lreturn, 1) := by decide +kernel
set_option maxRecDepth 20000 in
theorem ggX9_check_X9_findPlan : GoodIn wsX9_check wsX9_findPlan := goodIn_r _ [9, 10, 11, 2, 12, 13, 14, 15, 16, 17, 8, 18, 19, 20, 21, 22, 23, 24, 25, 26, 27, 28, 29, 30, 31, 32, 33, 34, 35, 36, 37, 38, 43, 44, 45, 46, 47, 48, 49, 50, 51, 52, 53, 54, 55, 56, 57, 58, 59, 60, 61, 62, 63, 64, 65, 66, 67, 68, 69, 70, 71, 72, 73, 74, 75, 76, 77, 78, 79, 80, 81, 82, 83, 84, 85, 86, 87, 88, 89, 90, 91, 92, 93, 94, 95, 96, 97] rfl (by decide +kernel)
set_option maxRecDepth 20000 in
theorem gX9_check_X9_findPlan : GoodIn wsX9_check (wsV RX9 323 RX9 yX9_findPlan wsX9_findPlan) := goodIn_app (goodIn_of _ (by decide +kernel)) ggX9_check_X9_findPlan
set_option maxRecDepth 20000 in
theorem ggX9_check_X9_paymentOf : GoodIn wsX9_check wsX9_paymentOf := goodIn_r _ [42, 32, 33, 34, 43, 44, 45, 46, 47, 48, 49, 50, 51, 52, 53, 54, 55, 56, 57, 58, 59, 60, 61, 62, 63, 64, 65, 66, 67, 68, 69, 70, 71, 72, 73, 74, 75, 76, 77, 78, 79, 80, 81, 82, 83, 84, 85, 86, 87, 88, 89, 90, 91, 92, 93, 94, 95, 96, 97] rfl (by decide +kernel)
set_option maxRecDepth 20000 in
theorem gX9_check_X9_paymentOf : GoodIn wsX9_check (wsV RX9 326 RX9 yX9_paymentOf wsX9_paymentOf) := goodIn_app (goodIn_of _ (by decide +kernel)) ggX9_check_X9_paymentOf
theorem dX9_check_0 : decode cX9_check 0 = .ok (.aload_n 0, 1) := by decide +kernel
theorem dX9_check_1 : decode cX9_check 1 = .ok (.getfield 361, 3) := by decide +kernel
theorem dX9_check_4 : decode cX9_check 4 = .ok (.istore_n 1, 1) := by decide +kernel
theorem dX9_check_5 : decode cX9_check 5 = .ok (.aload_n 0, 1) := by decide +kernel
theorem dX9_check_6 : decode cX9_check 6 = .ok (.iconst 0, 1) := by decide +kernel
theorem dX9_check_7 : decode cX9_check 7 = .ok (.putfield 361, 3) := by decide +kernel
theorem dX9_check_10 : decode cX9_check 10 = .ok (.aload_n 0, 1) := by decide +kernel
theorem dX9_check_11 : decode cX9_check 11 = .ok (.invokevirtual 323, 3) := by decide +kernel
theorem dX9_check_14 : decode cX9_check 14 = .ok (.iconst 0, 1) := by decide +kernel
theorem dX9_check_15 : decode cX9_check 15 = .ok (.istore_n 2, 1) := by decide +kernel
theorem dX9_check_16 : decode cX9_check 16 = .ok (.iload_n 2, 1) := by decide +kernel
theorem dX9_check_17 : decode cX9_check 17 = .ok (.aload_n 0, 1) := by decide +kernel
theorem dX9_check_18 : decode cX9_check 18 = .ok (.getfield 306, 3) := by decide +kernel
theorem dX9_check_21 : decode cX9_check 21 = .ok (.if_icmp .ge 57, 3) := by decide +kernel
theorem dX9_check_24 : decode cX9_check 24 = .ok (.iconst 0, 1) := by decide +kernel
theorem dX9_check_25 : decode cX9_check 25 = .ok (.istore_n 3, 1) := by decide +kernel
theorem dX9_check_26 : decode cX9_check 26 = .ok (.iload_n 3, 1) := by decide +kernel
theorem dX9_check_27 : decode cX9_check 27 = .ok (.iconst 3, 1) := by decide +kernel
theorem dX9_check_28 : decode cX9_check 28 = .ok (.if_icmp .ge 44, 3) := by decide +kernel
theorem dX9_check_31 : decode cX9_check 31 = .ok (.iconst 3, 1) := by decide +kernel
theorem dX9_check_32 : decode cX9_check 32 = .ok (.iload_n 2, 1) := by decide +kernel
theorem dX9_check_33 : decode cX9_check 33 = .ok (.imul, 1) := by decide +kernel
theorem dX9_check_34 : decode cX9_check 34 = .ok (.iload_n 3, 1) := by decide +kernel
theorem dX9_check_35 : decode cX9_check 35 = .ok (.iadd, 1) := by decide +kernel
theorem dX9_check_36 : decode cX9_check 36 = .ok (.iload_n 1, 1) := by decide +kernel
theorem dX9_check_37 : decode cX9_check 37 = .ok (.if_icmp .ge 24, 3) := by decide +kernel
theorem dX9_check_40 : decode cX9_check 40 = .ok (.aload_n 0, 1) := by decide +kernel
theorem dX9_check_41 : decode cX9_check 41 = .ok (.getfield 67, 3) := by decide +kernel
theorem dX9_check_44 : decode cX9_check 44 = .ok (.iconst 3, 1) := by decide +kernel
theorem dX9_check_45 : decode cX9_check 45 = .ok (.iload_n 2, 1) := by decide +kernel
theorem dX9_check_46 : decode cX9_check 46 = .ok (.imul, 1) := by decide +kernel
theorem dX9_check_47 : decode cX9_check 47 = .ok (.iload_n 3, 1) := by decide +kernel
theorem dX9_check_48 : decode cX9_check 48 = .ok (.iadd, 1) := by decide +kernel
theorem dX9_check_49 : decode cX9_check 49 = .ok (.iaload, 1) := by decide +kernel
theorem dX9_check_50 : decode cX9_check 50 = .ok (.i2l, 1) := by decide +kernel
theorem dX9_check_51 : decode cX9_check 51 = .ok (.aload_n 0, 1) := by decide +kernel
theorem dX9_check_52 : decode cX9_check 52 = .ok (.iload_n 2, 1) := by decide +kernel
theorem dX9_check_53 : decode cX9_check 53 = .ok (.iload_n 3, 1) := by decide +kernel
theorem dX9_check_54 : decode cX9_check 54 = .ok (.invokevirtual 326, 3) := by decide +kernel
theorem dX9_check_57 : decode cX9_check 57 = .ok (.lcmp, 1) := by decide +kernel
theorem dX9_check_58 : decode cX9_check 58 = .ok (.ifCond .eq 8, 3) := by decide +kernel
theorem dX9_check_61 : decode cX9_check 61 = .ok (.iconst 1, 1) := by decide +kernel
theorem dX9_check_62 : decode cX9_check 62 = .ok (.iload_n 2, 1) := by decide +kernel
theorem dX9_check_63 : decode cX9_check 63 = .ok (.iadd, 1) := by decide +kernel
theorem dX9_check_64 : decode cX9_check 64 = .ok (.i2l, 1) := by decide +kernel
theorem dX9_check_65 : decode cX9_check 65 = .ok (.lreturn, 1) := by decide +kernel
theorem dX9_check_66 : decode cX9_check 66 = .ok (.iinc 3 1, 3) := by decide +kernel
theorem dX9_check_69 : decode cX9_check 69 = .ok (.goto (-43), 3) := by decide +kernel
theorem dX9_check_72 : decode cX9_check 72 = .ok (.iinc 2 1, 3) := by decide +kernel
theorem dX9_check_75 : decode cX9_check 75 = .ok (.goto (-59), 3) := by decide +kernel
theorem dX9_check_78 : decode cX9_check 78 = .ok (.iload_n 1, 1) := by decide +kernel
theorem dX9_check_79 : decode cX9_check 79 = .ok (.iconst 3, 1) := by decide +kernel
theorem dX9_check_80 : decode cX9_check 80 = .ok (.aload_n 0, 1) := by decide +kernel
theorem dX9_check_81 : decode cX9_check 81 = .ok (.getfield 306, 3) := by decide +kernel
theorem dX9_check_84 : decode cX9_check 84 = .ok (.imul, 1) := by decide +kernel
theorem dX9_check_85 : decode cX9_check 85 = .ok (.if_icmp .le 9, 3) := by decide +kernel
theorem dX9_check_88 : decode cX9_check 88 = .ok (.ldc2_w 364, 3) := by decide +kernel
theorem dX9_check_91 : decode cX9_check 91 = .ok (.goto 4, 3) := by decide +kernel
theorem dX9_check_94 : decode cX9_check 94 = .ok (.lconst 0, 1) := by decide +kernel
theorem dX9_check_95 : decode cX9_check 95 = .ok (.lreturn, 1) := by decide +kernel
set_option maxRecDepth 20000 in
theorem ggX9_count_X9_owedInAll : GoodIn wsX9_count wsX9_owedInAll := goodIn_r _ [11, 12, 19, 20, 21, 22, 23, 24, 25, 26, 27, 28, 29, 30, 31, 32, 33, 34, 35, 36, 37, 38, 39, 40, 41, 42, 43, 44, 45, 46, 47, 48, 49, 50, 51, 52, 53, 54, 55, 56, 57, 58, 59, 60, 61, 62, 63, 64, 65, 66, 67, 68, 69, 70, 71, 72, 73] rfl (by decide +kernel)
set_option maxRecDepth 20000 in
theorem gX9_count_X9_owedInAll : GoodIn wsX9_count (wsV RX9 330 RX9 yX9_owedInAll wsX9_owedInAll) := goodIn_app (goodIn_of _ (by decide +kernel)) ggX9_count_X9_owedInAll
set_option maxRecDepth 20000 in
theorem ggX9_count_X9_finding : GoodIn wsX9_count wsX9_finding := goodIn_r _ [16, 17, 18, 19, 20, 21, 22, 23, 24, 25, 26, 27, 28, 29, 30, 31, 32, 33, 34, 35, 36, 37, 38, 39, 40, 41, 42, 43, 44, 45, 46, 47, 48, 49, 50, 51, 52, 53, 54, 55, 56, 57, 58, 59, 60, 61, 62, 63, 64, 65, 66, 67, 68, 69, 70, 71, 72, 73] rfl (by decide +kernel)
set_option maxRecDepth 20000 in
theorem gX9_count_X9_finding : GoodIn wsX9_count (wsV RX9 154 RX9 yX9_finding wsX9_finding) := goodIn_app (goodIn_of _ (by decide +kernel)) ggX9_count_X9_finding
theorem dX9_count_0 : decode cX9_count 0 = .ok (.iload_n 1, 1) := by decide +kernel
theorem dX9_count_1 : decode cX9_count 1 = .ok (.tableswitch 73 0 5 #[39, 44, 50, 56, 61, 67], 39) := by decide +kernel
theorem dX9_count_40 : decode cX9_count 40 = .ok (.aload_n 0, 1) := by decide +kernel
theorem dX9_count_41 : decode cX9_count 41 = .ok (.getfield 158, 3) := by decide +kernel
theorem dX9_count_44 : decode cX9_count 44 = .ok (.lreturn, 1) := by decide +kernel
theorem dX9_count_45 : decode cX9_count 45 = .ok (.aload_n 0, 1) := by decide +kernel
theorem dX9_count_46 : decode cX9_count 46 = .ok (.getfield 145, 3) := by decide +kernel
theorem dX9_count_49 : decode cX9_count 49 = .ok (.i2l, 1) := by decide +kernel
theorem dX9_count_50 : decode cX9_count 50 = .ok (.lreturn, 1) := by decide +kernel
theorem dX9_count_51 : decode cX9_count 51 = .ok (.aload_n 0, 1) := by decide +kernel
theorem dX9_count_52 : decode cX9_count 52 = .ok (.getfield 292, 3) := by decide +kernel
theorem dX9_count_55 : decode cX9_count 55 = .ok (.i2l, 1) := by decide +kernel
theorem dX9_count_56 : decode cX9_count 56 = .ok (.lreturn, 1) := by decide +kernel
theorem dX9_count_57 : decode cX9_count 57 = .ok (.aload_n 0, 1) := by decide +kernel
theorem dX9_count_58 : decode cX9_count 58 = .ok (.invokevirtual 330, 3) := by decide +kernel
theorem dX9_count_61 : decode cX9_count 61 = .ok (.lreturn, 1) := by decide +kernel
theorem dX9_count_62 : decode cX9_count 62 = .ok (.aload_n 0, 1) := by decide +kernel
theorem dX9_count_63 : decode cX9_count 63 = .ok (.getfield 361, 3) := by decide +kernel
theorem dX9_count_66 : decode cX9_count 66 = .ok (.i2l, 1) := by decide +kernel
theorem dX9_count_67 : decode cX9_count 67 = .ok (.lreturn, 1) := by decide +kernel
theorem dX9_count_68 : decode cX9_count 68 = .ok (.aload_n 0, 1) := by decide +kernel
theorem dX9_count_69 : decode cX9_count 69 = .ok (.getfield 217, 3) := by decide +kernel
theorem dX9_count_72 : decode cX9_count 72 = .ok (.i2l, 1) := by decide +kernel
theorem dX9_count_73 : decode cX9_count 73 = .ok (.lreturn, 1) := by decide +kernel
theorem dX9_count_74 : decode cX9_count 74 = .ok (.aload_n 0, 1) := by decide +kernel
theorem dX9_count_75 : decode cX9_count 75 = .ok (.ldc2_w 152, 3) := by decide +kernel
theorem dX9_count_78 : decode cX9_count 78 = .ok (.invokevirtual 154, 3) := by decide +kernel
theorem dX9_count_81 : decode cX9_count 81 = .ok (.lreturn, 1) := by decide +kernel
set_option maxRecDepth 20000 in
theorem ggX9_found_X9_in : GoodIn wsX9_found wsX9_in := goodIn_r _ [6] rfl (by decide +kernel)
set_option maxRecDepth 20000 in
theorem gX9_found_X9_in : GoodIn wsX9_found (va_wsS RX9 141 yX9_in wsX9_in) := goodIn_app (goodIn_of _ (by decide +kernel)) ggX9_found_X9_in
set_option maxRecDepth 20000 in
theorem ggX9_found_X9_finding : GoodIn wsX9_found wsX9_finding := goodIn_r _ [10, 1, 11, 12, 13, 14, 15, 16, 17, 18, 19, 20, 21, 22, 23, 24, 25, 26, 27, 28, 29, 30, 31, 32, 33, 34, 35, 36, 37, 38, 39, 40, 41, 42, 43, 44, 45, 46, 47, 48, 49, 50, 51, 52, 53, 54, 55, 56, 57, 58, 59, 60, 61, 62, 63, 64, 65, 66] rfl (by decide +kernel)
set_option maxRecDepth 20000 in
theorem gX9_found_X9_finding : GoodIn wsX9_found (wsV RX9 154 RX9 yX9_finding wsX9_finding) := goodIn_app (goodIn_of _ (by decide +kernel)) ggX9_found_X9_finding
theorem dX9_found_0 : decode cX9_found 0 = .ok (.iload_n 1, 1) := by decide +kernel
theorem dX9_found_1 : decode cX9_found 1 = .ok (.iconst 1, 1) := by decide +kernel
theorem dX9_found_2 : decode cX9_found 2 = .ok (.bipush 7, 2) := by decide +kernel
theorem dX9_found_4 : decode cX9_found 4 = .ok (.invokestatic 141, 3) := by decide +kernel
theorem dX9_found_7 : decode cX9_found 7 = .ok (.ifCond .eq 12, 3) := by decide +kernel
theorem dX9_found_10 : decode cX9_found 10 = .ok (.aload_n 0, 1) := by decide +kernel
theorem dX9_found_11 : decode cX9_found 11 = .ok (.getfield 70, 3) := by decide +kernel
theorem dX9_found_14 : decode cX9_found 14 = .ok (.iload_n 1, 1) := by decide +kernel
theorem dX9_found_15 : decode cX9_found 15 = .ok (.laload, 1) := by decide +kernel
theorem dX9_found_16 : decode cX9_found 16 = .ok (.goto 10, 3) := by decide +kernel
theorem dX9_found_19 : decode cX9_found 19 = .ok (.aload_n 0, 1) := by decide +kernel
theorem dX9_found_20 : decode cX9_found 20 = .ok (.ldc2_w 152, 3) := by decide +kernel
theorem dX9_found_23 : decode cX9_found 23 = .ok (.invokevirtual 154, 3) := by decide +kernel
theorem dX9_found_26 : decode cX9_found 26 = .ok (.lreturn, 1) := by decide +kernel

theorem dX4_claim_9 : decode cX4_claim 9 = .ok (.iload_n 1, 1) := by decide +kernel
theorem dX4_claim_10 : decode cX4_claim 10 = .ok (.laload, 1) := by decide +kernel
theorem dX4_claim_11 : decode cX4_claim 11 = .ok (.lload_n 2, 1) := by decide +kernel
theorem dX4_claim_12 : decode cX4_claim 12 = .ok (.invokestatic 18, 3) := by decide +kernel
theorem dX4_claim_15 : decode cX4_claim 15 = .ok (.lastore, 1) := by decide +kernel
theorem dX4_claim_16 : decode cX4_claim 16 = .ok (.aload_n 0, 1) := by decide +kernel
theorem dX4_claim_17 : decode cX4_claim 17 = .ok (.getfield 15, 3) := by decide +kernel
theorem dX4_claim_20 : decode cX4_claim 20 = .ok (.iload_n 1, 1) := by decide +kernel
theorem dX4_claim_21 : decode cX4_claim 21 = .ok (.lload_n 2, 1) := by decide +kernel
theorem dX4_claim_22 : decode cX4_claim 22 = .ok (.aload_n 0, 1) := by decide +kernel
theorem dX4_claim_23 : decode cX4_claim 23 = .ok (.getfield 9, 3) := by decide +kernel
theorem dX4_claim_26 : decode cX4_claim 26 = .ok (.iload_n 1, 1) := by decide +kernel
theorem dX4_claim_27 : decode cX4_claim 27 = .ok (.laload, 1) := by decide +kernel
theorem dX4_claim_28 : decode cX4_claim 28 = .ok (.lsub, 1) := by decide +kernel
theorem dX4_claim_29 : decode cX4_claim 29 = .ok (.lastore, 1) := by decide +kernel
theorem dX4_claim_30 : decode cX4_claim 30 = .ok (.return_, 1) := by decide +kernel
set_option maxRecDepth 20000 in
theorem ggX4_shareOf_X4_total : GoodIn wsX4_shareOf wsX4_total := goodIn_r _ [10] rfl (by decide +kernel)
set_option maxRecDepth 20000 in
theorem gX4_shareOf_X4_total : GoodIn wsX4_shareOf (va_wsS RX4 24 yX4_total wsX4_total) := goodIn_app (goodIn_of _ (by decide +kernel)) ggX4_shareOf_X4_total
set_option maxRecDepth 20000 in
theorem ggX4_shareOf_X4_shareIn : GoodIn wsX4_shareOf wsX4_shareIn := goodIn_r _ [13, 7, 8, 9, 10, 14, 15, 16, 17] rfl (by decide +kernel)
set_option maxRecDepth 20000 in
theorem gX4_shareOf_X4_shareIn : GoodIn wsX4_shareOf (va_wsS RX4 31 yX4_shareIn wsX4_shareIn) := goodIn_app (goodIn_of _ (by decide +kernel)) ggX4_shareOf_X4_shareIn
theorem dX4_shareOf_0 : decode cX4_shareOf 0 = .ok (.lload_n 2, 1) := by decide +kernel
theorem dX4_shareOf_1 : decode cX4_shareOf 1 = .ok (.aload_n 0, 1) := by decide +kernel
theorem dX4_shareOf_2 : decode cX4_shareOf 2 = .ok (.getfield 9, 3) := by decide +kernel
theorem dX4_shareOf_5 : decode cX4_shareOf 5 = .ok (.invokestatic 24, 3) := by decide +kernel
theorem dX4_shareOf_8 : decode cX4_shareOf 8 = .ok (.lsub, 1) := by decide +kernel
theorem dX4_shareOf_9 : decode cX4_shareOf 9 = .ok (.lconst 0, 1) := by decide +kernel
theorem dX4_shareOf_10 : decode cX4_shareOf 10 = .ok (.invokestatic 28, 3) := by decide +kernel
theorem dX4_shareOf_13 : decode cX4_shareOf 13 = .ok (.lstore 4, 2) := by decide +kernel
theorem dX4_shareOf_15 : decode cX4_shareOf 15 = .ok (.aload_n 0, 1) := by decide +kernel
theorem dX4_shareOf_16 : decode cX4_shareOf 16 = .ok (.getfield 9, 3) := by decide +kernel
theorem dX4_shareOf_19 : decode cX4_shareOf 19 = .ok (.iload_n 1, 1) := by decide +kernel
theorem dX4_shareOf_20 : decode cX4_shareOf 20 = .ok (.lload_n 2, 1) := by decide +kernel
theorem dX4_shareOf_21 : decode cX4_shareOf 21 = .ok (.invokestatic 31, 3) := by decide +kernel
theorem dX4_shareOf_24 : decode cX4_shareOf 24 = .ok (.aload_n 0, 1) := by decide +kernel
theorem dX4_shareOf_25 : decode cX4_shareOf 25 = .ok (.getfield 15, 3) := by decide +kernel
theorem dX4_shareOf_28 : decode cX4_shareOf 28 = .ok (.iload_n 1, 1) := by decide +kernel
theorem dX4_shareOf_29 : decode cX4_shareOf 29 = .ok (.lload 4, 2) := by decide +kernel
theorem dX4_shareOf_31 : decode cX4_shareOf 31 = .ok (.invokestatic 31, 3) := by decide +kernel
theorem dX4_shareOf_34 : decode cX4_shareOf 34 = .ok (.ladd, 1) := by decide +kernel
theorem dX4_shareOf_35 : decode cX4_shareOf 35 = .ok (.lreturn, 1) := by decide +kernel
theorem dX4_total_0 : decode cX4_total 0 = .ok (.lconst 0, 1) := by decide +kernel
theorem dX4_total_1 : decode cX4_total 1 = .ok (.lstore_n 1, 1) := by decide +kernel
theorem dX4_total_2 : decode cX4_total 2 = .ok (.iconst 0, 1) := by decide +kernel
theorem dX4_total_3 : decode cX4_total 3 = .ok (.istore_n 3, 1) := by decide +kernel
theorem dX4_total_4 : decode cX4_total 4 = .ok (.iload_n 3, 1) := by decide +kernel
theorem dX4_total_5 : decode cX4_total 5 = .ok (.bipush 10, 2) := by decide +kernel
theorem dX4_total_7 : decode cX4_total 7 = .ok (.if_icmp .ge 15, 3) := by decide +kernel
theorem dX4_total_10 : decode cX4_total 10 = .ok (.lload_n 1, 1) := by decide +kernel
theorem dX4_total_11 : decode cX4_total 11 = .ok (.aload_n 0, 1) := by decide +kernel
theorem dX4_total_12 : decode cX4_total 12 = .ok (.iload_n 3, 1) := by decide +kernel
theorem dX4_total_13 : decode cX4_total 13 = .ok (.laload, 1) := by decide +kernel
theorem dX4_total_14 : decode cX4_total 14 = .ok (.ladd, 1) := by decide +kernel
theorem dX4_total_15 : decode cX4_total 15 = .ok (.lstore_n 1, 1) := by decide +kernel
theorem dX4_total_16 : decode cX4_total 16 = .ok (.iinc 3 1, 3) := by decide +kernel
theorem dX4_total_19 : decode cX4_total 19 = .ok (.goto (-15), 3) := by decide +kernel
theorem dX4_total_22 : decode cX4_total 22 = .ok (.lload_n 1, 1) := by decide +kernel
theorem dX4_total_23 : decode cX4_total 23 = .ok (.lreturn, 1) := by decide +kernel
set_option maxRecDepth 20000 in
theorem ggX4_shareIn_X4_total : GoodIn wsX4_shareIn wsX4_total := goodIn_r _ [4] rfl (by decide +kernel)
set_option maxRecDepth 20000 in
theorem gX4_shareIn_X4_total : GoodIn wsX4_shareIn (va_wsS RX4 24 yX4_total wsX4_total) := goodIn_app (goodIn_of _ (by decide +kernel)) ggX4_shareIn_X4_total
set_option maxRecDepth 20000 in
theorem ggX4_shareIn_X4_portion : GoodIn wsX4_shareIn wsX4_portion := goodIn_r _ [7, 8] rfl (by decide +kernel)
set_option maxRecDepth 20000 in
theorem gX4_shareIn_X4_portion : GoodIn wsX4_shareIn (va_wsS RX4 35 yX4_portion wsX4_portion) := goodIn_app (goodIn_of _ (by decide +kernel)) ggX4_shareIn_X4_portion
theorem dX4_shareIn_0 : decode cX4_shareIn 0 = .ok (.aload_n 0, 1) := by decide +kernel
theorem dX4_shareIn_1 : decode cX4_shareIn 1 = .ok (.invokestatic 24, 3) := by decide +kernel
theorem dX4_shareIn_4 : decode cX4_shareIn 4 = .ok (.lstore 4, 2) := by decide +kernel
theorem dX4_shareIn_6 : decode cX4_shareIn 6 = .ok (.lload_n 2, 1) := by decide +kernel
theorem dX4_shareIn_7 : decode cX4_shareIn 7 = .ok (.lload 4, 2) := by decide +kernel
theorem dX4_shareIn_9 : decode cX4_shareIn 9 = .ok (.lcmp, 1) := by decide +kernel
theorem dX4_shareIn_10 : decode cX4_shareIn 10 = .ok (.ifCond .ge 11, 3) := by decide +kernel
theorem dX4_shareIn_13 : decode cX4_shareIn 13 = .ok (.aload_n 0, 1) := by decide +kernel
theorem dX4_shareIn_14 : decode cX4_shareIn 14 = .ok (.iload_n 1, 1) := by decide +kernel
theorem dX4_shareIn_15 : decode cX4_shareIn 15 = .ok (.laload, 1) := by decide +kernel
theorem dX4_shareIn_16 : decode cX4_shareIn 16 = .ok (.lconst 0, 1) := by decide +kernel
theorem dX4_shareIn_17 : decode cX4_shareIn 17 = .ok (.lcmp, 1) := by decide +kernel
theorem dX4_shareIn_18 : decode cX4_shareIn 18 = .ok (.ifCond .ne 7, 3) := by decide +kernel
theorem dX4_shareIn_21 : decode cX4_shareIn 21 = .ok (.aload_n 0, 1) := by decide +kernel
theorem dX4_shareIn_22 : decode cX4_shareIn 22 = .ok (.iload_n 1, 1) := by decide +kernel
theorem dX4_shareIn_23 : decode cX4_shareIn 23 = .ok (.laload, 1) := by decide +kernel
theorem dX4_shareIn_24 : decode cX4_shareIn 24 = .ok (.lreturn, 1) := by decide +kernel
theorem dX4_shareIn_25 : decode cX4_shareIn 25 = .ok (.lload_n 2, 1) := by decide +kernel
theorem dX4_shareIn_26 : decode cX4_shareIn 26 = .ok (.lstore 6, 2) := by decide +kernel
theorem dX4_shareIn_28 : decode cX4_shareIn 28 = .ok (.iconst 0, 1) := by decide +kernel
theorem dX4_shareIn_29 : decode cX4_shareIn 29 = .ok (.istore 8, 2) := by decide +kernel
theorem dX4_shareIn_31 : decode cX4_shareIn 31 = .ok (.iconst 0, 1) := by decide +kernel
theorem dX4_shareIn_32 : decode cX4_shareIn 32 = .ok (.istore 9, 2) := by decide +kernel
theorem dX4_shareIn_34 : decode cX4_shareIn 34 = .ok (.iload 9, 2) := by decide +kernel
theorem dX4_shareIn_36 : decode cX4_shareIn 36 = .ok (.bipush 10, 2) := by decide +kernel
theorem dX4_shareIn_38 : decode cX4_shareIn 38 = .ok (.if_icmp .ge 42, 3) := by decide +kernel
theorem dX4_shareIn_41 : decode cX4_shareIn 41 = .ok (.lload 6, 2) := by decide +kernel
theorem dX4_shareIn_43 : decode cX4_shareIn 43 = .ok (.lload_n 2, 1) := by decide +kernel
theorem dX4_shareIn_44 : decode cX4_shareIn 44 = .ok (.aload_n 0, 1) := by decide +kernel
theorem dX4_shareIn_45 : decode cX4_shareIn 45 = .ok (.iload 9, 2) := by decide +kernel
theorem dX4_shareIn_47 : decode cX4_shareIn 47 = .ok (.laload, 1) := by decide +kernel
theorem dX4_shareIn_48 : decode cX4_shareIn 48 = .ok (.lload 4, 2) := by decide +kernel
theorem dX4_shareIn_50 : decode cX4_shareIn 50 = .ok (.invokestatic 35, 3) := by decide +kernel
theorem dX4_shareIn_53 : decode cX4_shareIn 53 = .ok (.lsub, 1) := by decide +kernel
theorem dX4_shareIn_54 : decode cX4_shareIn 54 = .ok (.lstore 6, 2) := by decide +kernel
theorem dX4_shareIn_56 : decode cX4_shareIn 56 = .ok (.iload 9, 2) := by decide +kernel
theorem dX4_shareIn_58 : decode cX4_shareIn 58 = .ok (.iload_n 1, 1) := by decide +kernel
theorem dX4_shareIn_59 : decode cX4_shareIn 59 = .ok (.if_icmp .ge 15, 3) := by decide +kernel
theorem dX4_shareIn_62 : decode cX4_shareIn 62 = .ok (.aload_n 0, 1) := by decide +kernel
theorem dX4_shareIn_63 : decode cX4_shareIn 63 = .ok (.iload 9, 2) := by decide +kernel
theorem dX4_shareIn_65 : decode cX4_shareIn 65 = .ok (.laload, 1) := by decide +kernel
theorem dX4_shareIn_66 : decode cX4_shareIn 66 = .ok (.lconst 0, 1) := by decide +kernel
theorem dX4_shareIn_67 : decode cX4_shareIn 67 = .ok (.lcmp, 1) := by decide +kernel
theorem dX4_shareIn_68 : decode cX4_shareIn 68 = .ok (.ifCond .le 6, 3) := by decide +kernel
theorem dX4_shareIn_71 : decode cX4_shareIn 71 = .ok (.iinc 8 1, 3) := by decide +kernel
theorem dX4_shareIn_74 : decode cX4_shareIn 74 = .ok (.iinc 9 1, 3) := by decide +kernel
theorem dX4_shareIn_77 : decode cX4_shareIn 77 = .ok (.goto (-43), 3) := by decide +kernel
theorem dX4_shareIn_80 : decode cX4_shareIn 80 = .ok (.lload_n 2, 1) := by decide +kernel
theorem dX4_shareIn_81 : decode cX4_shareIn 81 = .ok (.aload_n 0, 1) := by decide +kernel
theorem dX4_shareIn_82 : decode cX4_shareIn 82 = .ok (.iload_n 1, 1) := by decide +kernel
theorem dX4_shareIn_83 : decode cX4_shareIn 83 = .ok (.laload, 1) := by decide +kernel
theorem dX4_shareIn_84 : decode cX4_shareIn 84 = .ok (.lload 4, 2) := by decide +kernel
theorem dX4_shareIn_86 : decode cX4_shareIn 86 = .ok (.invokestatic 35, 3) := by decide +kernel
theorem dX4_shareIn_89 : decode cX4_shareIn 89 = .ok (.lstore 9, 2) := by decide +kernel
theorem dX4_shareIn_91 : decode cX4_shareIn 91 = .ok (.iload 8, 2) := by decide +kernel
theorem dX4_shareIn_93 : decode cX4_shareIn 93 = .ok (.i2l, 1) := by decide +kernel
theorem dX4_shareIn_94 : decode cX4_shareIn 94 = .ok (.lload 6, 2) := by decide +kernel
theorem dX4_shareIn_96 : decode cX4_shareIn 96 = .ok (.lcmp, 1) := by decide +kernel
theorem dX4_shareIn_97 : decode cX4_shareIn 97 = .ok (.ifCond .ge 10, 3) := by decide +kernel
theorem dX4_shareIn_100 : decode cX4_shareIn 100 = .ok (.lload 9, 2) := by decide +kernel
theorem dX4_shareIn_102 : decode cX4_shareIn 102 = .ok (.lconst 1, 1) := by decide +kernel
theorem dX4_shareIn_103 : decode cX4_shareIn 103 = .ok (.ladd, 1) := by decide +kernel
theorem dX4_shareIn_104 : decode cX4_shareIn 104 = .ok (.goto 5, 3) := by decide +kernel
theorem dX4_shareIn_107 : decode cX4_shareIn 107 = .ok (.lload 9, 2) := by decide +kernel
theorem dX4_shareIn_109 : decode cX4_shareIn 109 = .ok (.lreturn, 1) := by decide +kernel
theorem dX4_portion_0 : decode cX4_portion 0 = .ok (.lload 4, 2) := by decide +kernel
theorem dX4_portion_2 : decode cX4_portion 2 = .ok (.lconst 0, 1) := by decide +kernel
theorem dX4_portion_3 : decode cX4_portion 3 = .ok (.lcmp, 1) := by decide +kernel
theorem dX4_portion_4 : decode cX4_portion 4 = .ok (.ifCond .gt 5, 3) := by decide +kernel
theorem dX4_portion_7 : decode cX4_portion 7 = .ok (.lconst 0, 1) := by decide +kernel
theorem dX4_portion_8 : decode cX4_portion 8 = .ok (.lreturn, 1) := by decide +kernel
theorem dX4_portion_9 : decode cX4_portion 9 = .ok (.lload_n 0, 1) := by decide +kernel
theorem dX4_portion_10 : decode cX4_portion 10 = .ok (.ldc2_w 39, 3) := by decide +kernel
theorem dX4_portion_13 : decode cX4_portion 13 = .ok (.ldiv, 1) := by decide +kernel
theorem dX4_portion_14 : decode cX4_portion 14 = .ok (.lload_n 2, 1) := by decide +kernel
theorem dX4_portion_15 : decode cX4_portion 15 = .ok (.lmul, 1) := by decide +kernel
theorem dX4_portion_16 : decode cX4_portion 16 = .ok (.lstore 6, 2) := by decide +kernel
theorem dX4_portion_18 : decode cX4_portion 18 = .ok (.lload 6, 2) := by decide +kernel
theorem dX4_portion_20 : decode cX4_portion 20 = .ok (.lload 4, 2) := by decide +kernel
theorem dX4_portion_22 : decode cX4_portion 22 = .ok (.lrem, 1) := by decide +kernel
theorem dX4_portion_23 : decode cX4_portion 23 = .ok (.ldc2_w 39, 3) := by decide +kernel
theorem dX4_portion_26 : decode cX4_portion 26 = .ok (.lmul, 1) := by decide +kernel
theorem dX4_portion_27 : decode cX4_portion 27 = .ok (.lload_n 0, 1) := by decide +kernel
theorem dX4_portion_28 : decode cX4_portion 28 = .ok (.ldc2_w 39, 3) := by decide +kernel
theorem dX4_portion_31 : decode cX4_portion 31 = .ok (.lrem, 1) := by decide +kernel
theorem dX4_portion_32 : decode cX4_portion 32 = .ok (.lload_n 2, 1) := by decide +kernel
theorem dX4_portion_33 : decode cX4_portion 33 = .ok (.lmul, 1) := by decide +kernel
theorem dX4_portion_34 : decode cX4_portion 34 = .ok (.ladd, 1) := by decide +kernel
theorem dX4_portion_35 : decode cX4_portion 35 = .ok (.lstore 8, 2) := by decide +kernel
theorem dX4_portion_37 : decode cX4_portion 37 = .ok (.lload 6, 2) := by decide +kernel
theorem dX4_portion_39 : decode cX4_portion 39 = .ok (.lload 4, 2) := by decide +kernel
theorem dX4_portion_41 : decode cX4_portion 41 = .ok (.ldiv, 1) := by decide +kernel
theorem dX4_portion_42 : decode cX4_portion 42 = .ok (.ldc2_w 39, 3) := by decide +kernel
theorem dX4_portion_45 : decode cX4_portion 45 = .ok (.lmul, 1) := by decide +kernel
theorem dX4_portion_46 : decode cX4_portion 46 = .ok (.lload 8, 2) := by decide +kernel
theorem dX4_portion_48 : decode cX4_portion 48 = .ok (.lload 4, 2) := by decide +kernel
theorem dX4_portion_50 : decode cX4_portion 50 = .ok (.ldiv, 1) := by decide +kernel
theorem dX4_portion_51 : decode cX4_portion 51 = .ok (.ladd, 1) := by decide +kernel
theorem dX4_portion_52 : decode cX4_portion 52 = .ok (.lreturn, 1) := by decide +kernel
theorem dX5_init_0 : decode cX5_init 0 = .ok (.aload_n 0, 1) := by decide +kernel
theorem dX5_init_1 : decode cX5_init 1 = .ok (.invokespecial 3, 3) := by decide +kernel
theorem dX5_init_4 : decode cX5_init 4 = .ok (.aload_n 0, 1) := by decide +kernel
theorem dX5_init_5 : decode cX5_init 5 = .ok (.bipush 10, 2) := by decide +kernel
theorem dX5_init_7 : decode cX5_init 7 = .ok (.newarray .long, 2) := by decide +kernel
theorem dX5_init_9 : decode cX5_init 9 = .ok (.putfield 9, 3) := by decide +kernel
theorem dX5_init_12 : decode cX5_init 12 = .ok (.aload_n 0, 1) := by decide +kernel
theorem dX5_init_13 : decode cX5_init 13 = .ok (.sipush 1024, 3) := by decide +kernel
theorem dX5_init_16 : decode cX5_init 16 = .ok (.newarray .long, 2) := by decide +kernel
theorem dX5_init_18 : decode cX5_init 18 = .ok (.putfield 15, 3) := by decide +kernel
theorem dX5_init_21 : decode cX5_init 21 = .ok (.aload_n 0, 1) := by decide +kernel
theorem dX5_init_22 : decode cX5_init 22 = .ok (.sipush 1024, 3) := by decide +kernel
theorem dX5_init_25 : decode cX5_init 25 = .ok (.newarray .int, 2) := by decide +kernel
theorem dX5_init_27 : decode cX5_init 27 = .ok (.putfield 18, 3) := by decide +kernel
theorem dX5_init_30 : decode cX5_init 30 = .ok (.aload_n 0, 1) := by decide +kernel
theorem dX5_init_31 : decode cX5_init 31 = .ok (.sipush 1024, 3) := by decide +kernel
theorem dX5_init_34 : decode cX5_init 34 = .ok (.newarray .int, 2) := by decide +kernel
theorem dX5_init_36 : decode cX5_init 36 = .ok (.putfield 22, 3) := by decide +kernel
theorem dX5_init_39 : decode cX5_init 39 = .ok (.aload_n 0, 1) := by decide +kernel
theorem dX5_init_40 : decode cX5_init 40 = .ok (.bipush 10, 2) := by decide +kernel
theorem dX5_init_42 : decode cX5_init 42 = .ok (.newarray .int, 2) := by decide +kernel
theorem dX5_init_44 : decode cX5_init 44 = .ok (.putfield 25, 3) := by decide +kernel
theorem dX5_init_47 : decode cX5_init 47 = .ok (.aload_n 0, 1) := by decide +kernel
theorem dX5_init_48 : decode cX5_init 48 = .ok (.bipush 10, 2) := by decide +kernel
theorem dX5_init_50 : decode cX5_init 50 = .ok (.newarray .int, 2) := by decide +kernel
theorem dX5_init_52 : decode cX5_init 52 = .ok (.putfield 28, 3) := by decide +kernel
theorem dX5_init_55 : decode cX5_init 55 = .ok (.aload_n 0, 1) := by decide +kernel
theorem dX5_init_56 : decode cX5_init 56 = .ok (.bipush 10, 2) := by decide +kernel
theorem dX5_init_58 : decode cX5_init 58 = .ok (.newarray .long, 2) := by decide +kernel
theorem dX5_init_60 : decode cX5_init 60 = .ok (.putfield 31, 3) := by decide +kernel
theorem dX5_init_63 : decode cX5_init 63 = .ok (.aload_n 0, 1) := by decide +kernel
theorem dX5_init_64 : decode cX5_init 64 = .ok (.ldc2_w 34, 3) := by decide +kernel
theorem dX5_init_67 : decode cX5_init 67 = .ok (.putfield 36, 3) := by decide +kernel
theorem dX5_init_70 : decode cX5_init 70 = .ok (.return_, 1) := by decide +kernel
set_option maxRecDepth 20000 in
theorem ggX5_refresh_X5_readNets : GoodIn wsX5_refresh wsX5_readNets := goodIn_r _ [9, 10, 11, 12, 13, 14, 15, 16, 58, 59, 60, 61, 62, 63, 64, 65, 66, 67, 68, 69, 70] rfl (by decide +kernel)
set_option maxRecDepth 20000 in
theorem gX5_refresh_X5_readNets : GoodIn wsX5_refresh (wsV RX5 52 RX5 yX5_readNets wsX5_readNets) := goodIn_app (goodIn_of _ (by decide +kernel)) ggX5_refresh_X5_readNets
set_option maxRecDepth 20000 in
theorem ggX5_refresh_X5_addUp : GoodIn wsX5_refresh wsX5_addUp := goodIn_r _ [20, 21, 10, 58, 59, 60, 61, 62, 63, 64, 65, 66, 67, 68] rfl (by decide +kernel)
set_option maxRecDepth 20000 in
theorem gX5_refresh_X5_addUp : GoodIn wsX5_refresh (wsV RX5 56 RX5 yX5_addUp wsX5_addUp) := goodIn_app (goodIn_of _ (by decide +kernel)) ggX5_refresh_X5_addUp
set_option maxRecDepth 20000 in
theorem ggX5_refresh_X5_listZeroSets : GoodIn wsX5_refresh wsX5_listZeroSets := goodIn_r _ [25, 26, 21, 27, 58, 59, 60, 61, 62, 63, 64, 65, 66, 67, 68] rfl (by decide +kernel)
set_option maxRecDepth 20000 in
theorem gX5_refresh_X5_listZeroSets : GoodIn wsX5_refresh (wsV RX5 59 RX5 yX5_listZeroSets wsX5_listZeroSets) := goodIn_app (goodIn_of _ (by decide +kernel)) ggX5_refresh_X5_listZeroSets
set_option maxRecDepth 20000 in
theorem ggX5_refresh_X5_countGroups : GoodIn wsX5_refresh wsX5_countGroups := goodIn_r _ [31, 26, 27, 32, 33, 34, 35, 36, 37, 38, 8, 39, 58, 59, 60, 61, 62, 63, 64, 65, 66, 67, 68] rfl (by decide +kernel)
set_option maxRecDepth 20000 in
theorem gX5_refresh_X5_countGroups : GoodIn wsX5_refresh (wsV RX5 63 RX5 yX5_countGroups wsX5_countGroups) := goodIn_app (goodIn_of _ (by decide +kernel)) ggX5_refresh_X5_countGroups
set_option maxRecDepth 20000 in
theorem ggX5_refresh_X5_firstGroup : GoodIn wsX5_refresh wsX5_firstGroup := goodIn_r _ [43, 26, 27, 32, 37, 38, 8, 39, 58, 59, 60, 61, 62, 63, 64, 65, 66, 67, 68] rfl (by decide +kernel)
set_option maxRecDepth 20000 in
theorem gX5_refresh_X5_firstGroup : GoodIn wsX5_refresh (wsV RX5 66 RX5 yX5_firstGroup wsX5_firstGroup) := goodIn_app (goodIn_of _ (by decide +kernel)) ggX5_refresh_X5_firstGroup
set_option maxRecDepth 20000 in
theorem ggX5_refresh_X5_payWithin : GoodIn wsX5_refresh wsX5_payWithin := goodIn_r _ [47, 4, 10, 48, 49, 35, 50, 51, 52, 53, 54, 55, 56, 8, 57, 58, 59, 60, 61, 62, 63, 64, 65, 66, 67, 68] rfl (by decide +kernel)
set_option maxRecDepth 20000 in
theorem gX5_refresh_X5_payWithin : GoodIn wsX5_refresh (wsV RX5 70 RX5 yX5_payWithin wsX5_payWithin) := goodIn_app (goodIn_of _ (by decide +kernel)) ggX5_refresh_X5_payWithin
theorem dX5_refresh_0 : decode cX5_refresh 0 = .ok (.aload_n 0, 1) := by decide +kernel
theorem dX5_refresh_1 : decode cX5_refresh 1 = .ok (.getfield 36, 3) := by decide +kernel
theorem dX5_refresh_4 : decode cX5_refresh 4 = .ok (.aload_n 1, 1) := by decide +kernel
theorem dX5_refresh_5 : decode cX5_refresh 5 = .ok (.getfield 40, 3) := by decide +kernel
theorem dX5_refresh_8 : decode cX5_refresh 8 = .ok (.lcmp, 1) := by decide +kernel
theorem dX5_refresh_9 : decode cX5_refresh 9 = .ok (.ifCond .ne 4, 3) := by decide +kernel
theorem dX5_refresh_12 : decode cX5_refresh 12 = .ok (.return_, 1) := by decide +kernel
theorem dX5_refresh_13 : decode cX5_refresh 13 = .ok (.aload_n 0, 1) := by decide +kernel
theorem dX5_refresh_14 : decode cX5_refresh 14 = .ok (.aload_n 1, 1) := by decide +kernel
theorem dX5_refresh_15 : decode cX5_refresh 15 = .ok (.getfield 40, 3) := by decide +kernel
theorem dX5_refresh_18 : decode cX5_refresh 18 = .ok (.putfield 36, 3) := by decide +kernel
theorem dX5_refresh_21 : decode cX5_refresh 21 = .ok (.aload_n 0, 1) := by decide +kernel
theorem dX5_refresh_22 : decode cX5_refresh 22 = .ok (.iconst 0, 1) := by decide +kernel
theorem dX5_refresh_23 : decode cX5_refresh 23 = .ok (.putfield 45, 3) := by decide +kernel
theorem dX5_refresh_26 : decode cX5_refresh 26 = .ok (.aload_n 0, 1) := by decide +kernel
theorem dX5_refresh_27 : decode cX5_refresh 27 = .ok (.iconst 0, 1) := by decide +kernel
theorem dX5_refresh_28 : decode cX5_refresh 28 = .ok (.putfield 49, 3) := by decide +kernel
theorem dX5_refresh_31 : decode cX5_refresh 31 = .ok (.aload_n 0, 1) := by decide +kernel
theorem dX5_refresh_32 : decode cX5_refresh 32 = .ok (.aload_n 1, 1) := by decide +kernel
theorem dX5_refresh_33 : decode cX5_refresh 33 = .ok (.invokevirtual 52, 3) := by decide +kernel
theorem dX5_refresh_36 : decode cX5_refresh 36 = .ok (.istore_n 2, 1) := by decide +kernel
theorem dX5_refresh_37 : decode cX5_refresh 37 = .ok (.aload_n 0, 1) := by decide +kernel
theorem dX5_refresh_38 : decode cX5_refresh 38 = .ok (.invokevirtual 56, 3) := by decide +kernel
theorem dX5_refresh_41 : decode cX5_refresh 41 = .ok (.aload_n 0, 1) := by decide +kernel
theorem dX5_refresh_42 : decode cX5_refresh 42 = .ok (.iload_n 2, 1) := by decide +kernel
theorem dX5_refresh_43 : decode cX5_refresh 43 = .ok (.invokevirtual 59, 3) := by decide +kernel
theorem dX5_refresh_46 : decode cX5_refresh 46 = .ok (.aload_n 0, 1) := by decide +kernel
theorem dX5_refresh_47 : decode cX5_refresh 47 = .ok (.invokevirtual 63, 3) := by decide +kernel
theorem dX5_refresh_50 : decode cX5_refresh 50 = .ok (.iconst 0, 1) := by decide +kernel
theorem dX5_refresh_51 : decode cX5_refresh 51 = .ok (.istore_n 3, 1) := by decide +kernel
theorem dX5_refresh_52 : decode cX5_refresh 52 = .ok (.iload_n 3, 1) := by decide +kernel
theorem dX5_refresh_53 : decode cX5_refresh 53 = .ok (.bipush 10, 2) := by decide +kernel
theorem dX5_refresh_55 : decode cX5_refresh 55 = .ok (.if_icmp .ge 41, 3) := by decide +kernel
theorem dX5_refresh_58 : decode cX5_refresh 58 = .ok (.iload_n 2, 1) := by decide +kernel
theorem dX5_refresh_59 : decode cX5_refresh 59 = .ok (.ifCond .eq 37, 3) := by decide +kernel
theorem dX5_refresh_62 : decode cX5_refresh 62 = .ok (.aload_n 0, 1) := by decide +kernel
theorem dX5_refresh_63 : decode cX5_refresh 63 = .ok (.iload_n 2, 1) := by decide +kernel
theorem dX5_refresh_64 : decode cX5_refresh 64 = .ok (.invokevirtual 66, 3) := by decide +kernel
theorem dX5_refresh_67 : decode cX5_refresh 67 = .ok (.istore 4, 2) := by decide +kernel
theorem dX5_refresh_69 : decode cX5_refresh 69 = .ok (.aload_n 0, 1) := by decide +kernel
theorem dX5_refresh_70 : decode cX5_refresh 70 = .ok (.iload 4, 2) := by decide +kernel
theorem dX5_refresh_72 : decode cX5_refresh 72 = .ok (.invokevirtual 70, 3) := by decide +kernel
theorem dX5_refresh_75 : decode cX5_refresh 75 = .ok (.aload_n 0, 1) := by decide +kernel
theorem dX5_refresh_76 : decode cX5_refresh 76 = .ok (.dup, 1) := by decide +kernel
theorem dX5_refresh_77 : decode cX5_refresh 77 = .ok (.getfield 45, 3) := by decide +kernel
theorem dX5_refresh_80 : decode cX5_refresh 80 = .ok (.iconst 1, 1) := by decide +kernel
theorem dX5_refresh_81 : decode cX5_refresh 81 = .ok (.iadd, 1) := by decide +kernel
theorem dX5_refresh_82 : decode cX5_refresh 82 = .ok (.putfield 45, 3) := by decide +kernel
theorem dX5_refresh_85 : decode cX5_refresh 85 = .ok (.iload_n 2, 1) := by decide +kernel
theorem dX5_refresh_86 : decode cX5_refresh 86 = .ok (.iload 4, 2) := by decide +kernel
theorem dX5_refresh_88 : decode cX5_refresh 88 = .ok (.ixor, 1) := by decide +kernel
theorem dX5_refresh_89 : decode cX5_refresh 89 = .ok (.istore_n 2, 1) := by decide +kernel
theorem dX5_refresh_90 : decode cX5_refresh 90 = .ok (.iinc 3 1, 3) := by decide +kernel
theorem dX5_refresh_93 : decode cX5_refresh 93 = .ok (.goto (-41), 3) := by decide +kernel
theorem dX5_refresh_96 : decode cX5_refresh 96 = .ok (.return_, 1) := by decide +kernel
theorem dX5_hasPayment_0 : decode cX5_hasPayment 0 = .ok (.iload_n 1, 1) := by decide +kernel
theorem dX5_hasPayment_1 : decode cX5_hasPayment 1 = .ok (.ifCond .lt 15, 3) := by decide +kernel
theorem dX5_hasPayment_4 : decode cX5_hasPayment 4 = .ok (.iload_n 1, 1) := by decide +kernel
theorem dX5_hasPayment_5 : decode cX5_hasPayment 5 = .ok (.aload_n 0, 1) := by decide +kernel
theorem dX5_hasPayment_6 : decode cX5_hasPayment 6 = .ok (.getfield 49, 3) := by decide +kernel
theorem dX5_hasPayment_9 : decode cX5_hasPayment 9 = .ok (.if_icmp .ge 7, 3) := by decide +kernel
theorem dX5_hasPayment_12 : decode cX5_hasPayment 12 = .ok (.iconst 1, 1) := by decide +kernel
theorem dX5_hasPayment_13 : decode cX5_hasPayment 13 = .ok (.goto 4, 3) := by decide +kernel
theorem dX5_hasPayment_16 : decode cX5_hasPayment 16 = .ok (.iconst 0, 1) := by decide +kernel
theorem dX5_hasPayment_17 : decode cX5_hasPayment 17 = .ok (.ireturn, 1) := by decide +kernel
set_option maxRecDepth 20000 in
theorem ggX5_figure_X5_hasPayment : GoodIn wsX5_figure wsX5_hasPayment := goodIn_r _ [8, 9, 10, 11, 12, 13, 14, 15, 16, 17, 18, 19, 20] rfl (by decide +kernel)
set_option maxRecDepth 20000 in
theorem gX5_figure_X5_hasPayment : GoodIn wsX5_figure (wsV RX5 73 RX5 yX5_hasPayment wsX5_hasPayment) := goodIn_app (goodIn_of _ (by decide +kernel)) ggX5_figure_X5_hasPayment
theorem dX5_figure_0 : decode cX5_figure 0 = .ok (.aload_n 0, 1) := by decide +kernel
theorem dX5_figure_1 : decode cX5_figure 1 = .ok (.iload_n 1, 1) := by decide +kernel
theorem dX5_figure_2 : decode cX5_figure 2 = .ok (.invokevirtual 73, 3) := by decide +kernel
theorem dX5_figure_5 : decode cX5_figure 5 = .ok (.ifCond .ne 5, 3) := by decide +kernel
theorem dX5_figure_8 : decode cX5_figure 8 = .ok (.lconst 0, 1) := by decide +kernel
theorem dX5_figure_9 : decode cX5_figure 9 = .ok (.lreturn, 1) := by decide +kernel
theorem dX5_figure_10 : decode cX5_figure 10 = .ok (.iload_n 2, 1) := by decide +kernel
theorem dX5_figure_11 : decode cX5_figure 11 = .ok (.lookupswitch 41 #[(0, 25), (1, 33)], 25) := by decide +kernel
theorem dX5_figure_36 : decode cX5_figure 36 = .ok (.aload_n 0, 1) := by decide +kernel
theorem dX5_figure_37 : decode cX5_figure 37 = .ok (.getfield 25, 3) := by decide +kernel
theorem dX5_figure_40 : decode cX5_figure 40 = .ok (.iload_n 1, 1) := by decide +kernel
theorem dX5_figure_41 : decode cX5_figure 41 = .ok (.iaload, 1) := by decide +kernel
theorem dX5_figure_42 : decode cX5_figure 42 = .ok (.i2l, 1) := by decide +kernel
theorem dX5_figure_43 : decode cX5_figure 43 = .ok (.lreturn, 1) := by decide +kernel
theorem dX5_figure_44 : decode cX5_figure 44 = .ok (.aload_n 0, 1) := by decide +kernel
theorem dX5_figure_45 : decode cX5_figure 45 = .ok (.getfield 28, 3) := by decide +kernel
theorem dX5_figure_48 : decode cX5_figure 48 = .ok (.iload_n 1, 1) := by decide +kernel
theorem dX5_figure_49 : decode cX5_figure 49 = .ok (.iaload, 1) := by decide +kernel
theorem dX5_figure_50 : decode cX5_figure 50 = .ok (.i2l, 1) := by decide +kernel
theorem dX5_figure_51 : decode cX5_figure 51 = .ok (.lreturn, 1) := by decide +kernel
theorem dX5_figure_52 : decode cX5_figure 52 = .ok (.aload_n 0, 1) := by decide +kernel
theorem dX5_figure_53 : decode cX5_figure 53 = .ok (.getfield 31, 3) := by decide +kernel
theorem dX5_figure_56 : decode cX5_figure 56 = .ok (.iload_n 1, 1) := by decide +kernel
theorem dX5_figure_57 : decode cX5_figure 57 = .ok (.laload, 1) := by decide +kernel
theorem dX5_figure_58 : decode cX5_figure 58 = .ok (.lreturn, 1) := by decide +kernel
set_option maxRecDepth 20000 in
theorem ggX5_readNets_X1_balance : GoodIn wsX5_readNets wsX1_balance := goodIn_r _ [6, 7, 19, 20] rfl (by decide +kernel)
set_option maxRecDepth 20000 in
theorem gX5_readNets_X1_balance : GoodIn wsX5_readNets (wsV RX5 77 RX1 yX1_balance wsX1_balance) := goodIn_app (goodIn_of _ (by decide +kernel)) ggX5_readNets_X1_balance
theorem dX5_readNets_0 : decode cX5_readNets 0 = .ok (.iconst 0, 1) := by decide +kernel
theorem dX5_readNets_1 : decode cX5_readNets 1 = .ok (.istore_n 2, 1) := by decide +kernel
theorem dX5_readNets_2 : decode cX5_readNets 2 = .ok (.iconst 0, 1) := by decide +kernel
theorem dX5_readNets_3 : decode cX5_readNets 3 = .ok (.istore_n 3, 1) := by decide +kernel
theorem dX5_readNets_4 : decode cX5_readNets 4 = .ok (.iload_n 3, 1) := by decide +kernel
theorem dX5_readNets_5 : decode cX5_readNets 5 = .ok (.bipush 10, 2) := by decide +kernel
theorem dX5_readNets_7 : decode cX5_readNets 7 = .ok (.if_icmp .ge 37, 3) := by decide +kernel
theorem dX5_readNets_10 : decode cX5_readNets 10 = .ok (.aload_n 0, 1) := by decide +kernel
theorem dX5_readNets_11 : decode cX5_readNets 11 = .ok (.getfield 9, 3) := by decide +kernel
theorem dX5_readNets_14 : decode cX5_readNets 14 = .ok (.iload_n 3, 1) := by decide +kernel
theorem dX5_readNets_15 : decode cX5_readNets 15 = .ok (.aload_n 1, 1) := by decide +kernel
theorem dX5_readNets_16 : decode cX5_readNets 16 = .ok (.iload_n 3, 1) := by decide +kernel
theorem dX5_readNets_17 : decode cX5_readNets 17 = .ok (.invokevirtual 77, 3) := by decide +kernel
theorem dX5_readNets_20 : decode cX5_readNets 20 = .ok (.lastore, 1) := by decide +kernel
theorem dX5_readNets_21 : decode cX5_readNets 21 = .ok (.aload_n 0, 1) := by decide +kernel
theorem dX5_readNets_22 : decode cX5_readNets 22 = .ok (.getfield 9, 3) := by decide +kernel
theorem dX5_readNets_25 : decode cX5_readNets 25 = .ok (.iload_n 3, 1) := by decide +kernel
theorem dX5_readNets_26 : decode cX5_readNets 26 = .ok (.laload, 1) := by decide +kernel
theorem dX5_readNets_27 : decode cX5_readNets 27 = .ok (.lconst 0, 1) := by decide +kernel
theorem dX5_readNets_28 : decode cX5_readNets 28 = .ok (.lcmp, 1) := by decide +kernel
theorem dX5_readNets_29 : decode cX5_readNets 29 = .ok (.ifCond .eq 9, 3) := by decide +kernel
theorem dX5_readNets_32 : decode cX5_readNets 32 = .ok (.iload_n 2, 1) := by decide +kernel
theorem dX5_readNets_33 : decode cX5_readNets 33 = .ok (.iconst 1, 1) := by decide +kernel
theorem dX5_readNets_34 : decode cX5_readNets 34 = .ok (.iload_n 3, 1) := by decide +kernel
theorem dX5_readNets_35 : decode cX5_readNets 35 = .ok (.ishl, 1) := by decide +kernel
theorem dX5_readNets_36 : decode cX5_readNets 36 = .ok (.ior, 1) := by decide +kernel
theorem dX5_readNets_37 : decode cX5_readNets 37 = .ok (.istore_n 2, 1) := by decide +kernel
theorem dX5_readNets_38 : decode cX5_readNets 38 = .ok (.iinc 3 1, 3) := by decide +kernel
theorem dX5_readNets_41 : decode cX5_readNets 41 = .ok (.goto (-37), 3) := by decide +kernel
theorem dX5_readNets_44 : decode cX5_readNets 44 = .ok (.iload_n 2, 1) := by decide +kernel
theorem dX5_readNets_45 : decode cX5_readNets 45 = .ok (.ireturn, 1) := by decide +kernel
theorem dX5_addUp_0 : decode cX5_addUp 0 = .ok (.iconst 0, 1) := by decide +kernel
theorem dX5_addUp_1 : decode cX5_addUp 1 = .ok (.istore_n 1, 1) := by decide +kernel
theorem dX5_addUp_2 : decode cX5_addUp 2 = .ok (.iload_n 1, 1) := by decide +kernel
theorem dX5_addUp_3 : decode cX5_addUp 3 = .ok (.bipush 10, 2) := by decide +kernel
theorem dX5_addUp_5 : decode cX5_addUp 5 = .ok (.if_icmp .ge 47, 3) := by decide +kernel
theorem dX5_addUp_8 : decode cX5_addUp 8 = .ok (.iconst 1, 1) := by decide +kernel
theorem dX5_addUp_9 : decode cX5_addUp 9 = .ok (.iload_n 1, 1) := by decide +kernel
theorem dX5_addUp_10 : decode cX5_addUp 10 = .ok (.ishl, 1) := by decide +kernel
theorem dX5_addUp_11 : decode cX5_addUp 11 = .ok (.istore_n 2, 1) := by decide +kernel
theorem dX5_addUp_12 : decode cX5_addUp 12 = .ok (.iconst 0, 1) := by decide +kernel
theorem dX5_addUp_13 : decode cX5_addUp 13 = .ok (.istore_n 3, 1) := by decide +kernel
theorem dX5_addUp_14 : decode cX5_addUp 14 = .ok (.iload_n 3, 1) := by decide +kernel
theorem dX5_addUp_15 : decode cX5_addUp 15 = .ok (.iload_n 2, 1) := by decide +kernel
theorem dX5_addUp_16 : decode cX5_addUp 16 = .ok (.if_icmp .ge 30, 3) := by decide +kernel
theorem dX5_addUp_19 : decode cX5_addUp 19 = .ok (.aload_n 0, 1) := by decide +kernel
theorem dX5_addUp_20 : decode cX5_addUp 20 = .ok (.getfield 15, 3) := by decide +kernel
theorem dX5_addUp_23 : decode cX5_addUp 23 = .ok (.iload_n 3, 1) := by decide +kernel
theorem dX5_addUp_24 : decode cX5_addUp 24 = .ok (.iload_n 2, 1) := by decide +kernel
theorem dX5_addUp_25 : decode cX5_addUp 25 = .ok (.ior, 1) := by decide +kernel
theorem dX5_addUp_26 : decode cX5_addUp 26 = .ok (.aload_n 0, 1) := by decide +kernel
theorem dX5_addUp_27 : decode cX5_addUp 27 = .ok (.getfield 15, 3) := by decide +kernel
theorem dX5_addUp_30 : decode cX5_addUp 30 = .ok (.iload_n 3, 1) := by decide +kernel
theorem dX5_addUp_31 : decode cX5_addUp 31 = .ok (.laload, 1) := by decide +kernel
theorem dX5_addUp_32 : decode cX5_addUp 32 = .ok (.aload_n 0, 1) := by decide +kernel
theorem dX5_addUp_33 : decode cX5_addUp 33 = .ok (.getfield 9, 3) := by decide +kernel
theorem dX5_addUp_36 : decode cX5_addUp 36 = .ok (.iload_n 1, 1) := by decide +kernel
theorem dX5_addUp_37 : decode cX5_addUp 37 = .ok (.laload, 1) := by decide +kernel
theorem dX5_addUp_38 : decode cX5_addUp 38 = .ok (.ladd, 1) := by decide +kernel
theorem dX5_addUp_39 : decode cX5_addUp 39 = .ok (.lastore, 1) := by decide +kernel
theorem dX5_addUp_40 : decode cX5_addUp 40 = .ok (.iinc 3 1, 3) := by decide +kernel
theorem dX5_addUp_43 : decode cX5_addUp 43 = .ok (.goto (-29), 3) := by decide +kernel
theorem dX5_addUp_46 : decode cX5_addUp 46 = .ok (.iinc 1 1, 3) := by decide +kernel
theorem dX5_addUp_49 : decode cX5_addUp 49 = .ok (.goto (-47), 3) := by decide +kernel
theorem dX5_addUp_52 : decode cX5_addUp 52 = .ok (.return_, 1) := by decide +kernel
theorem dX5_listZeroSets_0 : decode cX5_listZeroSets 0 = .ok (.aload_n 0, 1) := by decide +kernel
theorem dX5_listZeroSets_1 : decode cX5_listZeroSets 1 = .ok (.iconst 0, 1) := by decide +kernel
theorem dX5_listZeroSets_2 : decode cX5_listZeroSets 2 = .ok (.putfield 81, 3) := by decide +kernel
theorem dX5_listZeroSets_5 : decode cX5_listZeroSets 5 = .ok (.iconst 1, 1) := by decide +kernel
theorem dX5_listZeroSets_6 : decode cX5_listZeroSets 6 = .ok (.istore_n 2, 1) := by decide +kernel
theorem dX5_listZeroSets_7 : decode cX5_listZeroSets 7 = .ok (.iload_n 2, 1) := by decide +kernel
theorem dX5_listZeroSets_8 : decode cX5_listZeroSets 8 = .ok (.iload_n 1, 1) := by decide +kernel
theorem dX5_listZeroSets_9 : decode cX5_listZeroSets 9 = .ok (.if_icmp .gt 47, 3) := by decide +kernel
theorem dX5_listZeroSets_12 : decode cX5_listZeroSets 12 = .ok (.iload_n 2, 1) := by decide +kernel
theorem dX5_listZeroSets_13 : decode cX5_listZeroSets 13 = .ok (.iload_n 1, 1) := by decide +kernel
theorem dX5_listZeroSets_14 : decode cX5_listZeroSets 14 = .ok (.iand, 1) := by decide +kernel
theorem dX5_listZeroSets_15 : decode cX5_listZeroSets 15 = .ok (.iload_n 2, 1) := by decide +kernel
theorem dX5_listZeroSets_16 : decode cX5_listZeroSets 16 = .ok (.if_icmp .ne 34, 3) := by decide +kernel
theorem dX5_listZeroSets_19 : decode cX5_listZeroSets 19 = .ok (.aload_n 0, 1) := by decide +kernel
theorem dX5_listZeroSets_20 : decode cX5_listZeroSets 20 = .ok (.getfield 15, 3) := by decide +kernel
theorem dX5_listZeroSets_23 : decode cX5_listZeroSets 23 = .ok (.iload_n 2, 1) := by decide +kernel
theorem dX5_listZeroSets_24 : decode cX5_listZeroSets 24 = .ok (.laload, 1) := by decide +kernel
theorem dX5_listZeroSets_25 : decode cX5_listZeroSets 25 = .ok (.lconst 0, 1) := by decide +kernel
theorem dX5_listZeroSets_26 : decode cX5_listZeroSets 26 = .ok (.lcmp, 1) := by decide +kernel
theorem dX5_listZeroSets_27 : decode cX5_listZeroSets 27 = .ok (.ifCond .ne 23, 3) := by decide +kernel
theorem dX5_listZeroSets_30 : decode cX5_listZeroSets 30 = .ok (.aload_n 0, 1) := by decide +kernel
theorem dX5_listZeroSets_31 : decode cX5_listZeroSets 31 = .ok (.getfield 18, 3) := by decide +kernel
theorem dX5_listZeroSets_34 : decode cX5_listZeroSets 34 = .ok (.aload_n 0, 1) := by decide +kernel
theorem dX5_listZeroSets_35 : decode cX5_listZeroSets 35 = .ok (.getfield 81, 3) := by decide +kernel
theorem dX5_listZeroSets_38 : decode cX5_listZeroSets 38 = .ok (.iload_n 2, 1) := by decide +kernel
theorem dX5_listZeroSets_39 : decode cX5_listZeroSets 39 = .ok (.iastore, 1) := by decide +kernel
theorem dX5_listZeroSets_40 : decode cX5_listZeroSets 40 = .ok (.aload_n 0, 1) := by decide +kernel
theorem dX5_listZeroSets_41 : decode cX5_listZeroSets 41 = .ok (.dup, 1) := by decide +kernel
theorem dX5_listZeroSets_42 : decode cX5_listZeroSets 42 = .ok (.getfield 81, 3) := by decide +kernel
theorem dX5_listZeroSets_45 : decode cX5_listZeroSets 45 = .ok (.iconst 1, 1) := by decide +kernel
theorem dX5_listZeroSets_46 : decode cX5_listZeroSets 46 = .ok (.iadd, 1) := by decide +kernel
theorem dX5_listZeroSets_47 : decode cX5_listZeroSets 47 = .ok (.putfield 81, 3) := by decide +kernel
theorem dX5_listZeroSets_50 : decode cX5_listZeroSets 50 = .ok (.iinc 2 1, 3) := by decide +kernel
theorem dX5_listZeroSets_53 : decode cX5_listZeroSets 53 = .ok (.goto (-46), 3) := by decide +kernel
theorem dX5_listZeroSets_56 : decode cX5_listZeroSets 56 = .ok (.return_, 1) := by decide +kernel
set_option maxRecDepth 20000 in
theorem ggX5_countGroups_X5_mayBeFirst : GoodIn wsX5_countGroups wsX5_mayBeFirst := goodIn_r _ [11] rfl (by decide +kernel)
set_option maxRecDepth 20000 in
theorem gX5_countGroups_X5_mayBeFirst : GoodIn wsX5_countGroups (va_wsS RX5 84 yX5_mayBeFirst wsX5_mayBeFirst) := goodIn_app (goodIn_of _ (by decide +kernel)) ggX5_countGroups_X5_mayBeFirst
theorem dX5_countGroups_0 : decode cX5_countGroups 0 = .ok (.iconst 0, 1) := by decide +kernel
theorem dX5_countGroups_1 : decode cX5_countGroups 1 = .ok (.istore_n 1, 1) := by decide +kernel
theorem dX5_countGroups_2 : decode cX5_countGroups 2 = .ok (.iload_n 1, 1) := by decide +kernel
theorem dX5_countGroups_3 : decode cX5_countGroups 3 = .ok (.aload_n 0, 1) := by decide +kernel
theorem dX5_countGroups_4 : decode cX5_countGroups 4 = .ok (.getfield 81, 3) := by decide +kernel
theorem dX5_countGroups_7 : decode cX5_countGroups 7 = .ok (.if_icmp .ge 75, 3) := by decide +kernel
theorem dX5_countGroups_10 : decode cX5_countGroups 10 = .ok (.aload_n 0, 1) := by decide +kernel
theorem dX5_countGroups_11 : decode cX5_countGroups 11 = .ok (.getfield 18, 3) := by decide +kernel
theorem dX5_countGroups_14 : decode cX5_countGroups 14 = .ok (.iload_n 1, 1) := by decide +kernel
theorem dX5_countGroups_15 : decode cX5_countGroups 15 = .ok (.iaload, 1) := by decide +kernel
theorem dX5_countGroups_16 : decode cX5_countGroups 16 = .ok (.istore_n 2, 1) := by decide +kernel
theorem dX5_countGroups_17 : decode cX5_countGroups 17 = .ok (.iconst 1, 1) := by decide +kernel
theorem dX5_countGroups_18 : decode cX5_countGroups 18 = .ok (.istore_n 3, 1) := by decide +kernel
theorem dX5_countGroups_19 : decode cX5_countGroups 19 = .ok (.iconst 0, 1) := by decide +kernel
theorem dX5_countGroups_20 : decode cX5_countGroups 20 = .ok (.istore 4, 2) := by decide +kernel
theorem dX5_countGroups_22 : decode cX5_countGroups 22 = .ok (.iload 4, 2) := by decide +kernel
theorem dX5_countGroups_24 : decode cX5_countGroups 24 = .ok (.iload_n 1, 1) := by decide +kernel
theorem dX5_countGroups_25 : decode cX5_countGroups 25 = .ok (.if_icmp .ge 44, 3) := by decide +kernel
theorem dX5_countGroups_28 : decode cX5_countGroups 28 = .ok (.aload_n 0, 1) := by decide +kernel
theorem dX5_countGroups_29 : decode cX5_countGroups 29 = .ok (.getfield 18, 3) := by decide +kernel
theorem dX5_countGroups_32 : decode cX5_countGroups 32 = .ok (.iload 4, 2) := by decide +kernel
theorem dX5_countGroups_34 : decode cX5_countGroups 34 = .ok (.iaload, 1) := by decide +kernel
theorem dX5_countGroups_35 : decode cX5_countGroups 35 = .ok (.iload_n 2, 1) := by decide +kernel
theorem dX5_countGroups_36 : decode cX5_countGroups 36 = .ok (.invokestatic 84, 3) := by decide +kernel
theorem dX5_countGroups_39 : decode cX5_countGroups 39 = .ok (.ifCond .eq 24, 3) := by decide +kernel
theorem dX5_countGroups_42 : decode cX5_countGroups 42 = .ok (.iload_n 3, 1) := by decide +kernel
theorem dX5_countGroups_43 : decode cX5_countGroups 43 = .ok (.iconst 1, 1) := by decide +kernel
theorem dX5_countGroups_44 : decode cX5_countGroups 44 = .ok (.aload_n 0, 1) := by decide +kernel
theorem dX5_countGroups_45 : decode cX5_countGroups 45 = .ok (.getfield 22, 3) := by decide +kernel
theorem dX5_countGroups_48 : decode cX5_countGroups 48 = .ok (.iload_n 2, 1) := by decide +kernel
theorem dX5_countGroups_49 : decode cX5_countGroups 49 = .ok (.aload_n 0, 1) := by decide +kernel
theorem dX5_countGroups_50 : decode cX5_countGroups 50 = .ok (.getfield 18, 3) := by decide +kernel
theorem dX5_countGroups_53 : decode cX5_countGroups 53 = .ok (.iload 4, 2) := by decide +kernel
theorem dX5_countGroups_55 : decode cX5_countGroups 55 = .ok (.iaload, 1) := by decide +kernel
theorem dX5_countGroups_56 : decode cX5_countGroups 56 = .ok (.ixor, 1) := by decide +kernel
theorem dX5_countGroups_57 : decode cX5_countGroups 57 = .ok (.iaload, 1) := by decide +kernel
theorem dX5_countGroups_58 : decode cX5_countGroups 58 = .ok (.iadd, 1) := by decide +kernel
theorem dX5_countGroups_59 : decode cX5_countGroups 59 = .ok (.invokestatic 88, 3) := by decide +kernel
theorem dX5_countGroups_62 : decode cX5_countGroups 62 = .ok (.istore_n 3, 1) := by decide +kernel
theorem dX5_countGroups_63 : decode cX5_countGroups 63 = .ok (.iinc 4 1, 3) := by decide +kernel
theorem dX5_countGroups_66 : decode cX5_countGroups 66 = .ok (.goto (-44), 3) := by decide +kernel
theorem dX5_countGroups_69 : decode cX5_countGroups 69 = .ok (.aload_n 0, 1) := by decide +kernel
theorem dX5_countGroups_70 : decode cX5_countGroups 70 = .ok (.getfield 22, 3) := by decide +kernel
theorem dX5_countGroups_73 : decode cX5_countGroups 73 = .ok (.iload_n 2, 1) := by decide +kernel
theorem dX5_countGroups_74 : decode cX5_countGroups 74 = .ok (.iload_n 3, 1) := by decide +kernel
theorem dX5_countGroups_75 : decode cX5_countGroups 75 = .ok (.iastore, 1) := by decide +kernel
theorem dX5_countGroups_76 : decode cX5_countGroups 76 = .ok (.iinc 1 1, 3) := by decide +kernel
theorem dX5_countGroups_79 : decode cX5_countGroups 79 = .ok (.goto (-77), 3) := by decide +kernel
theorem dX5_countGroups_82 : decode cX5_countGroups 82 = .ok (.return_, 1) := by decide +kernel
theorem dX5_mayBeFirst_0 : decode cX5_mayBeFirst 0 = .ok (.iload_n 1, 1) := by decide +kernel
theorem dX5_mayBeFirst_1 : decode cX5_mayBeFirst 1 = .ok (.iload_n 1, 1) := by decide +kernel
theorem dX5_mayBeFirst_2 : decode cX5_mayBeFirst 2 = .ok (.ineg, 1) := by decide +kernel
theorem dX5_mayBeFirst_3 : decode cX5_mayBeFirst 3 = .ok (.iand, 1) := by decide +kernel
theorem dX5_mayBeFirst_4 : decode cX5_mayBeFirst 4 = .ok (.istore_n 2, 1) := by decide +kernel
theorem dX5_mayBeFirst_5 : decode cX5_mayBeFirst 5 = .ok (.iload_n 0, 1) := by decide +kernel
theorem dX5_mayBeFirst_6 : decode cX5_mayBeFirst 6 = .ok (.iload_n 1, 1) := by decide +kernel
theorem dX5_mayBeFirst_7 : decode cX5_mayBeFirst 7 = .ok (.iand, 1) := by decide +kernel
theorem dX5_mayBeFirst_8 : decode cX5_mayBeFirst 8 = .ok (.iload_n 0, 1) := by decide +kernel
theorem dX5_mayBeFirst_9 : decode cX5_mayBeFirst 9 = .ok (.if_icmp .ne 13, 3) := by decide +kernel
theorem dX5_mayBeFirst_12 : decode cX5_mayBeFirst 12 = .ok (.iload_n 0, 1) := by decide +kernel
theorem dX5_mayBeFirst_13 : decode cX5_mayBeFirst 13 = .ok (.iload_n 2, 1) := by decide +kernel
theorem dX5_mayBeFirst_14 : decode cX5_mayBeFirst 14 = .ok (.iand, 1) := by decide +kernel
theorem dX5_mayBeFirst_15 : decode cX5_mayBeFirst 15 = .ok (.ifCond .eq 7, 3) := by decide +kernel
theorem dX5_mayBeFirst_18 : decode cX5_mayBeFirst 18 = .ok (.iconst 1, 1) := by decide +kernel
theorem dX5_mayBeFirst_19 : decode cX5_mayBeFirst 19 = .ok (.goto 4, 3) := by decide +kernel
theorem dX5_mayBeFirst_22 : decode cX5_mayBeFirst 22 = .ok (.iconst 0, 1) := by decide +kernel
theorem dX5_mayBeFirst_23 : decode cX5_mayBeFirst 23 = .ok (.ireturn, 1) := by decide +kernel
set_option maxRecDepth 20000 in
theorem ggX5_firstGroup_X5_mayBeFirst : GoodIn wsX5_firstGroup wsX5_mayBeFirst := goodIn_r _ [7] rfl (by decide +kernel)
set_option maxRecDepth 20000 in
theorem gX5_firstGroup_X5_mayBeFirst : GoodIn wsX5_firstGroup (va_wsS RX5 84 yX5_mayBeFirst wsX5_mayBeFirst) := goodIn_app (goodIn_of _ (by decide +kernel)) ggX5_firstGroup_X5_mayBeFirst
theorem dX5_firstGroup_0 : decode cX5_firstGroup 0 = .ok (.iconst 0, 1) := by decide +kernel
theorem dX5_firstGroup_1 : decode cX5_firstGroup 1 = .ok (.istore_n 2, 1) := by decide +kernel
theorem dX5_firstGroup_2 : decode cX5_firstGroup 2 = .ok (.iload_n 2, 1) := by decide +kernel
theorem dX5_firstGroup_3 : decode cX5_firstGroup 3 = .ok (.aload_n 0, 1) := by decide +kernel
theorem dX5_firstGroup_4 : decode cX5_firstGroup 4 = .ok (.getfield 81, 3) := by decide +kernel
theorem dX5_firstGroup_7 : decode cX5_firstGroup 7 = .ok (.if_icmp .ge 45, 3) := by decide +kernel
theorem dX5_firstGroup_10 : decode cX5_firstGroup 10 = .ok (.aload_n 0, 1) := by decide +kernel
theorem dX5_firstGroup_11 : decode cX5_firstGroup 11 = .ok (.getfield 18, 3) := by decide +kernel
theorem dX5_firstGroup_14 : decode cX5_firstGroup 14 = .ok (.iload_n 2, 1) := by decide +kernel
theorem dX5_firstGroup_15 : decode cX5_firstGroup 15 = .ok (.iaload, 1) := by decide +kernel
theorem dX5_firstGroup_16 : decode cX5_firstGroup 16 = .ok (.istore_n 3, 1) := by decide +kernel
theorem dX5_firstGroup_17 : decode cX5_firstGroup 17 = .ok (.iload_n 3, 1) := by decide +kernel
theorem dX5_firstGroup_18 : decode cX5_firstGroup 18 = .ok (.iload_n 1, 1) := by decide +kernel
theorem dX5_firstGroup_19 : decode cX5_firstGroup 19 = .ok (.invokestatic 84, 3) := by decide +kernel
theorem dX5_firstGroup_22 : decode cX5_firstGroup 22 = .ok (.ifCond .eq 24, 3) := by decide +kernel
theorem dX5_firstGroup_25 : decode cX5_firstGroup 25 = .ok (.aload_n 0, 1) := by decide +kernel
theorem dX5_firstGroup_26 : decode cX5_firstGroup 26 = .ok (.getfield 22, 3) := by decide +kernel
theorem dX5_firstGroup_29 : decode cX5_firstGroup 29 = .ok (.iload_n 1, 1) := by decide +kernel
theorem dX5_firstGroup_30 : decode cX5_firstGroup 30 = .ok (.iload_n 3, 1) := by decide +kernel
theorem dX5_firstGroup_31 : decode cX5_firstGroup 31 = .ok (.ixor, 1) := by decide +kernel
theorem dX5_firstGroup_32 : decode cX5_firstGroup 32 = .ok (.iaload, 1) := by decide +kernel
theorem dX5_firstGroup_33 : decode cX5_firstGroup 33 = .ok (.iconst 1, 1) := by decide +kernel
theorem dX5_firstGroup_34 : decode cX5_firstGroup 34 = .ok (.iadd, 1) := by decide +kernel
theorem dX5_firstGroup_35 : decode cX5_firstGroup 35 = .ok (.aload_n 0, 1) := by decide +kernel
theorem dX5_firstGroup_36 : decode cX5_firstGroup 36 = .ok (.getfield 22, 3) := by decide +kernel
theorem dX5_firstGroup_39 : decode cX5_firstGroup 39 = .ok (.iload_n 1, 1) := by decide +kernel
theorem dX5_firstGroup_40 : decode cX5_firstGroup 40 = .ok (.iaload, 1) := by decide +kernel
theorem dX5_firstGroup_41 : decode cX5_firstGroup 41 = .ok (.if_icmp .ne 5, 3) := by decide +kernel
theorem dX5_firstGroup_44 : decode cX5_firstGroup 44 = .ok (.iload_n 3, 1) := by decide +kernel
theorem dX5_firstGroup_45 : decode cX5_firstGroup 45 = .ok (.ireturn, 1) := by decide +kernel
theorem dX5_firstGroup_46 : decode cX5_firstGroup 46 = .ok (.iinc 2 1, 3) := by decide +kernel
theorem dX5_firstGroup_49 : decode cX5_firstGroup 49 = .ok (.goto (-47), 3) := by decide +kernel
theorem dX5_firstGroup_52 : decode cX5_firstGroup 52 = .ok (.iload_n 1, 1) := by decide +kernel
theorem dX5_firstGroup_53 : decode cX5_firstGroup 53 = .ok (.ireturn, 1) := by decide +kernel
set_option maxRecDepth 20000 in
theorem ggX5_payWithin_X5_leastOf : GoodIn wsX5_payWithin wsX5_leastOf := goodIn_r _ [14, 2, 15, 16, 17, 18, 19, 20, 21, 22, 23, 24, 25] rfl (by decide +kernel)
set_option maxRecDepth 20000 in
theorem gX5_payWithin_X5_leastOf : GoodIn wsX5_payWithin (wsV RX5 94 RX5 yX5_leastOf wsX5_leastOf) := goodIn_app (goodIn_of _ (by decide +kernel)) ggX5_payWithin_X5_leastOf
theorem dX5_payWithin_0 : decode cX5_payWithin 0 = .ok (.iconst 0, 1) := by decide +kernel
theorem dX5_payWithin_1 : decode cX5_payWithin 1 = .ok (.istore_n 2, 1) := by decide +kernel
theorem dX5_payWithin_2 : decode cX5_payWithin 2 = .ok (.iload_n 2, 1) := by decide +kernel
theorem dX5_payWithin_3 : decode cX5_payWithin 3 = .ok (.bipush 10, 2) := by decide +kernel
theorem dX5_payWithin_5 : decode cX5_payWithin 5 = .ok (.if_icmp .ge 127, 3) := by decide +kernel
theorem dX5_payWithin_8 : decode cX5_payWithin 8 = .ok (.aload_n 0, 1) := by decide +kernel
theorem dX5_payWithin_9 : decode cX5_payWithin 9 = .ok (.iload_n 1, 1) := by decide +kernel
theorem dX5_payWithin_10 : decode cX5_payWithin 10 = .ok (.iconst (-1), 1) := by decide +kernel
theorem dX5_payWithin_11 : decode cX5_payWithin 11 = .ok (.invokevirtual 94, 3) := by decide +kernel
theorem dX5_payWithin_14 : decode cX5_payWithin 14 = .ok (.istore_n 3, 1) := by decide +kernel
theorem dX5_payWithin_15 : decode cX5_payWithin 15 = .ok (.aload_n 0, 1) := by decide +kernel
theorem dX5_payWithin_16 : decode cX5_payWithin 16 = .ok (.iload_n 1, 1) := by decide +kernel
theorem dX5_payWithin_17 : decode cX5_payWithin 17 = .ok (.iconst 1, 1) := by decide +kernel
theorem dX5_payWithin_18 : decode cX5_payWithin 18 = .ok (.invokevirtual 94, 3) := by decide +kernel
theorem dX5_payWithin_21 : decode cX5_payWithin 21 = .ok (.istore 4, 2) := by decide +kernel
theorem dX5_payWithin_23 : decode cX5_payWithin 23 = .ok (.iload_n 3, 1) := by decide +kernel
theorem dX5_payWithin_24 : decode cX5_payWithin 24 = .ok (.ifCond .lt 17, 3) := by decide +kernel
theorem dX5_payWithin_27 : decode cX5_payWithin 27 = .ok (.iload 4, 2) := by decide +kernel
theorem dX5_payWithin_29 : decode cX5_payWithin 29 = .ok (.ifCond .lt 12, 3) := by decide +kernel
theorem dX5_payWithin_32 : decode cX5_payWithin 32 = .ok (.aload_n 0, 1) := by decide +kernel
theorem dX5_payWithin_33 : decode cX5_payWithin 33 = .ok (.getfield 49, 3) := by decide +kernel
theorem dX5_payWithin_36 : decode cX5_payWithin 36 = .ok (.bipush 10, 2) := by decide +kernel
theorem dX5_payWithin_38 : decode cX5_payWithin 38 = .ok (.if_icmp .lt 4, 3) := by decide +kernel
theorem dX5_payWithin_41 : decode cX5_payWithin 41 = .ok (.return_, 1) := by decide +kernel
theorem dX5_payWithin_42 : decode cX5_payWithin 42 = .ok (.aload_n 0, 1) := by decide +kernel
theorem dX5_payWithin_43 : decode cX5_payWithin 43 = .ok (.getfield 9, 3) := by decide +kernel
theorem dX5_payWithin_46 : decode cX5_payWithin 46 = .ok (.iload_n 3, 1) := by decide +kernel
theorem dX5_payWithin_47 : decode cX5_payWithin 47 = .ok (.laload, 1) := by decide +kernel
theorem dX5_payWithin_48 : decode cX5_payWithin 48 = .ok (.lneg, 1) := by decide +kernel
theorem dX5_payWithin_49 : decode cX5_payWithin 49 = .ok (.aload_n 0, 1) := by decide +kernel
theorem dX5_payWithin_50 : decode cX5_payWithin 50 = .ok (.getfield 9, 3) := by decide +kernel
theorem dX5_payWithin_53 : decode cX5_payWithin 53 = .ok (.iload 4, 2) := by decide +kernel
theorem dX5_payWithin_55 : decode cX5_payWithin 55 = .ok (.laload, 1) := by decide +kernel
theorem dX5_payWithin_56 : decode cX5_payWithin 56 = .ok (.invokestatic 97, 3) := by decide +kernel
theorem dX5_payWithin_59 : decode cX5_payWithin 59 = .ok (.lstore 5, 2) := by decide +kernel
theorem dX5_payWithin_61 : decode cX5_payWithin 61 = .ok (.aload_n 0, 1) := by decide +kernel
theorem dX5_payWithin_62 : decode cX5_payWithin 62 = .ok (.getfield 9, 3) := by decide +kernel
theorem dX5_payWithin_65 : decode cX5_payWithin 65 = .ok (.iload_n 3, 1) := by decide +kernel
theorem dX5_payWithin_66 : decode cX5_payWithin 66 = .ok (.dup2, 1) := by decide +kernel
theorem dX5_payWithin_67 : decode cX5_payWithin 67 = .ok (.laload, 1) := by decide +kernel
theorem dX5_payWithin_68 : decode cX5_payWithin 68 = .ok (.lload 5, 2) := by decide +kernel
theorem dX5_payWithin_70 : decode cX5_payWithin 70 = .ok (.ladd, 1) := by decide +kernel
theorem dX5_payWithin_71 : decode cX5_payWithin 71 = .ok (.lastore, 1) := by decide +kernel
theorem dX5_payWithin_72 : decode cX5_payWithin 72 = .ok (.aload_n 0, 1) := by decide +kernel
theorem dX5_payWithin_73 : decode cX5_payWithin 73 = .ok (.getfield 9, 3) := by decide +kernel
theorem dX5_payWithin_76 : decode cX5_payWithin 76 = .ok (.iload 4, 2) := by decide +kernel
theorem dX5_payWithin_78 : decode cX5_payWithin 78 = .ok (.dup2, 1) := by decide +kernel
theorem dX5_payWithin_79 : decode cX5_payWithin 79 = .ok (.laload, 1) := by decide +kernel
theorem dX5_payWithin_80 : decode cX5_payWithin 80 = .ok (.lload 5, 2) := by decide +kernel
theorem dX5_payWithin_82 : decode cX5_payWithin 82 = .ok (.lsub, 1) := by decide +kernel
theorem dX5_payWithin_83 : decode cX5_payWithin 83 = .ok (.lastore, 1) := by decide +kernel
theorem dX5_payWithin_84 : decode cX5_payWithin 84 = .ok (.aload_n 0, 1) := by decide +kernel
theorem dX5_payWithin_85 : decode cX5_payWithin 85 = .ok (.getfield 25, 3) := by decide +kernel
theorem dX5_payWithin_88 : decode cX5_payWithin 88 = .ok (.aload_n 0, 1) := by decide +kernel
theorem dX5_payWithin_89 : decode cX5_payWithin 89 = .ok (.getfield 49, 3) := by decide +kernel
theorem dX5_payWithin_92 : decode cX5_payWithin 92 = .ok (.iload_n 3, 1) := by decide +kernel
theorem dX5_payWithin_93 : decode cX5_payWithin 93 = .ok (.iastore, 1) := by decide +kernel
theorem dX5_payWithin_94 : decode cX5_payWithin 94 = .ok (.aload_n 0, 1) := by decide +kernel
theorem dX5_payWithin_95 : decode cX5_payWithin 95 = .ok (.getfield 28, 3) := by decide +kernel
theorem dX5_payWithin_98 : decode cX5_payWithin 98 = .ok (.aload_n 0, 1) := by decide +kernel
theorem dX5_payWithin_99 : decode cX5_payWithin 99 = .ok (.getfield 49, 3) := by decide +kernel
theorem dX5_payWithin_102 : decode cX5_payWithin 102 = .ok (.iload 4, 2) := by decide +kernel
theorem dX5_payWithin_104 : decode cX5_payWithin 104 = .ok (.iastore, 1) := by decide +kernel
theorem dX5_payWithin_105 : decode cX5_payWithin 105 = .ok (.aload_n 0, 1) := by decide +kernel
theorem dX5_payWithin_106 : decode cX5_payWithin 106 = .ok (.getfield 31, 3) := by decide +kernel
theorem dX5_payWithin_109 : decode cX5_payWithin 109 = .ok (.aload_n 0, 1) := by decide +kernel
theorem dX5_payWithin_110 : decode cX5_payWithin 110 = .ok (.getfield 49, 3) := by decide +kernel
theorem dX5_payWithin_113 : decode cX5_payWithin 113 = .ok (.lload 5, 2) := by decide +kernel
theorem dX5_payWithin_115 : decode cX5_payWithin 115 = .ok (.lastore, 1) := by decide +kernel
theorem dX5_payWithin_116 : decode cX5_payWithin 116 = .ok (.aload_n 0, 1) := by decide +kernel
theorem dX5_payWithin_117 : decode cX5_payWithin 117 = .ok (.dup, 1) := by decide +kernel
theorem dX5_payWithin_118 : decode cX5_payWithin 118 = .ok (.getfield 49, 3) := by decide +kernel
theorem dX5_payWithin_121 : decode cX5_payWithin 121 = .ok (.iconst 1, 1) := by decide +kernel
theorem dX5_payWithin_122 : decode cX5_payWithin 122 = .ok (.iadd, 1) := by decide +kernel
theorem dX5_payWithin_123 : decode cX5_payWithin 123 = .ok (.putfield 49, 3) := by decide +kernel
theorem dX5_payWithin_126 : decode cX5_payWithin 126 = .ok (.iinc 2 1, 3) := by decide +kernel
theorem dX5_payWithin_129 : decode cX5_payWithin 129 = .ok (.goto (-127), 3) := by decide +kernel
theorem dX5_payWithin_132 : decode cX5_payWithin 132 = .ok (.return_, 1) := by decide +kernel
theorem dX5_leastOf_0 : decode cX5_leastOf 0 = .ok (.iconst 0, 1) := by decide +kernel
theorem dX5_leastOf_1 : decode cX5_leastOf 1 = .ok (.istore_n 3, 1) := by decide +kernel
theorem dX5_leastOf_2 : decode cX5_leastOf 2 = .ok (.iload_n 3, 1) := by decide +kernel
theorem dX5_leastOf_3 : decode cX5_leastOf 3 = .ok (.bipush 10, 2) := by decide +kernel
theorem dX5_leastOf_5 : decode cX5_leastOf 5 = .ok (.if_icmp .ge 33, 3) := by decide +kernel
theorem dX5_leastOf_8 : decode cX5_leastOf 8 = .ok (.iload_n 1, 1) := by decide +kernel
theorem dX5_leastOf_9 : decode cX5_leastOf 9 = .ok (.iconst 1, 1) := by decide +kernel
theorem dX5_leastOf_10 : decode cX5_leastOf 10 = .ok (.iload_n 3, 1) := by decide +kernel
theorem dX5_leastOf_11 : decode cX5_leastOf 11 = .ok (.ishl, 1) := by decide +kernel
theorem dX5_leastOf_12 : decode cX5_leastOf 12 = .ok (.iand, 1) := by decide +kernel
theorem dX5_leastOf_13 : decode cX5_leastOf 13 = .ok (.ifCond .eq 19, 3) := by decide +kernel
theorem dX5_leastOf_16 : decode cX5_leastOf 16 = .ok (.aload_n 0, 1) := by decide +kernel
theorem dX5_leastOf_17 : decode cX5_leastOf 17 = .ok (.getfield 9, 3) := by decide +kernel
theorem dX5_leastOf_20 : decode cX5_leastOf 20 = .ok (.iload_n 3, 1) := by decide +kernel
theorem dX5_leastOf_21 : decode cX5_leastOf 21 = .ok (.laload, 1) := by decide +kernel
theorem dX5_leastOf_22 : decode cX5_leastOf 22 = .ok (.iload_n 2, 1) := by decide +kernel
theorem dX5_leastOf_23 : decode cX5_leastOf 23 = .ok (.i2l, 1) := by decide +kernel
theorem dX5_leastOf_24 : decode cX5_leastOf 24 = .ok (.lmul, 1) := by decide +kernel
theorem dX5_leastOf_25 : decode cX5_leastOf 25 = .ok (.lconst 0, 1) := by decide +kernel
theorem dX5_leastOf_26 : decode cX5_leastOf 26 = .ok (.lcmp, 1) := by decide +kernel
theorem dX5_leastOf_27 : decode cX5_leastOf 27 = .ok (.ifCond .le 5, 3) := by decide +kernel
theorem dX5_leastOf_30 : decode cX5_leastOf 30 = .ok (.iload_n 3, 1) := by decide +kernel
theorem dX5_leastOf_31 : decode cX5_leastOf 31 = .ok (.ireturn, 1) := by decide +kernel
theorem dX5_leastOf_32 : decode cX5_leastOf 32 = .ok (.iinc 3 1, 3) := by decide +kernel
theorem dX5_leastOf_35 : decode cX5_leastOf 35 = .ok (.goto (-33), 3) := by decide +kernel
theorem dX5_leastOf_38 : decode cX5_leastOf 38 = .ok (.iconst (-1), 1) := by decide +kernel
theorem dX5_leastOf_39 : decode cX5_leastOf 39 = .ok (.ireturn, 1) := by decide +kernel
theorem dX6_init_0 : decode cX6_init 0 = .ok (.aload_n 0, 1) := by decide +kernel
theorem dX6_init_1 : decode cX6_init 1 = .ok (.invokespecial 3, 3) := by decide +kernel
theorem dX6_init_4 : decode cX6_init 4 = .ok (.aload_n 0, 1) := by decide +kernel
theorem dX6_init_5 : decode cX6_init 5 = .ok (.iconst 4, 1) := by decide +kernel
theorem dX6_init_6 : decode cX6_init 6 = .ok (.newarray .int, 2) := by decide +kernel
theorem dX6_init_8 : decode cX6_init 8 = .ok (.putfield 11, 3) := by decide +kernel
theorem dX6_init_11 : decode cX6_init 11 = .ok (.aload_n 0, 1) := by decide +kernel
theorem dX6_init_12 : decode cX6_init 12 = .ok (.bipush 10, 2) := by decide +kernel
theorem dX6_init_14 : decode cX6_init 14 = .ok (.iconst 4, 1) := by decide +kernel
theorem dX6_init_15 : decode cX6_init 15 = .ok (.multianewarray 15 2, 4) := by decide +kernel
theorem dX6_init_19 : decode cX6_init 19 = .ok (.putfield 17, 3) := by decide +kernel
theorem dX6_init_22 : decode cX6_init 22 = .ok (.return_, 1) := by decide +kernel
theorem dX6_isKind_0 : decode cX6_isKind 0 = .ok (.iload_n 0, 1) := by decide +kernel
theorem dX6_isKind_1 : decode cX6_isKind 1 = .ok (.ifCond .lt 12, 3) := by decide +kernel
theorem dX6_isKind_4 : decode cX6_isKind 4 = .ok (.iload_n 0, 1) := by decide +kernel
theorem dX6_isKind_5 : decode cX6_isKind 5 = .ok (.iconst 4, 1) := by decide +kernel
theorem dX6_isKind_6 : decode cX6_isKind 6 = .ok (.if_icmp .ge 7, 3) := by decide +kernel
theorem dX6_isKind_9 : decode cX6_isKind 9 = .ok (.iconst 1, 1) := by decide +kernel
theorem dX6_isKind_10 : decode cX6_isKind 10 = .ok (.goto 4, 3) := by decide +kernel
theorem dX6_isKind_13 : decode cX6_isKind 13 = .ok (.iconst 0, 1) := by decide +kernel
theorem dX6_isKind_14 : decode cX6_isKind 14 = .ok (.ireturn, 1) := by decide +kernel
theorem dX6_isMeasure_0 : decode cX6_isMeasure 0 = .ok (.iload_n 0, 1) := by decide +kernel
theorem dX6_isMeasure_1 : decode cX6_isMeasure 1 = .ok (.ifCond .lt 14, 3) := by decide +kernel
theorem dX6_isMeasure_4 : decode cX6_isMeasure 4 = .ok (.iload_n 0, 1) := by decide +kernel
theorem dX6_isMeasure_5 : decode cX6_isMeasure 5 = .ok (.sipush 1000, 3) := by decide +kernel
theorem dX6_isMeasure_8 : decode cX6_isMeasure 8 = .ok (.if_icmp .gt 7, 3) := by decide +kernel
theorem dX6_isMeasure_11 : decode cX6_isMeasure 11 = .ok (.iconst 1, 1) := by decide +kernel
theorem dX6_isMeasure_12 : decode cX6_isMeasure 12 = .ok (.goto 4, 3) := by decide +kernel
theorem dX6_isMeasure_15 : decode cX6_isMeasure 15 = .ok (.iconst 0, 1) := by decide +kernel
theorem dX6_isMeasure_16 : decode cX6_isMeasure 16 = .ok (.ireturn, 1) := by decide +kernel
theorem dX6_mint_0 : decode cX6_mint 0 = .ok (.aload_n 0, 1) := by decide +kernel
theorem dX6_mint_1 : decode cX6_mint 1 = .ok (.getfield 11, 3) := by decide +kernel
theorem dX6_mint_4 : decode cX6_mint 4 = .ok (.iload_n 1, 1) := by decide +kernel
theorem dX6_mint_5 : decode cX6_mint 5 = .ok (.iload_n 2, 1) := by decide +kernel
theorem dX6_mint_6 : decode cX6_mint 6 = .ok (.iload_n 3, 1) := by decide +kernel
theorem dX6_mint_7 : decode cX6_mint 7 = .ok (.imul, 1) := by decide +kernel
theorem dX6_mint_8 : decode cX6_mint 8 = .ok (.sipush 1000, 3) := by decide +kernel
theorem dX6_mint_11 : decode cX6_mint 11 = .ok (.idiv, 1) := by decide +kernel
theorem dX6_mint_12 : decode cX6_mint 12 = .ok (.iastore, 1) := by decide +kernel
theorem dX6_mint_13 : decode cX6_mint 13 = .ok (.return_, 1) := by decide +kernel
theorem dX6_worth_0 : decode cX6_worth 0 = .ok (.aload_n 0, 1) := by decide +kernel
theorem dX6_worth_1 : decode cX6_worth 1 = .ok (.getfield 11, 3) := by decide +kernel
theorem dX6_worth_4 : decode cX6_worth 4 = .ok (.iload_n 1, 1) := by decide +kernel
theorem dX6_worth_5 : decode cX6_worth 5 = .ok (.iaload, 1) := by decide +kernel
theorem dX6_worth_6 : decode cX6_worth 6 = .ok (.ireturn, 1) := by decide +kernel
theorem dX6_held_0 : decode cX6_held 0 = .ok (.aload_n 0, 1) := by decide +kernel
theorem dX6_held_1 : decode cX6_held 1 = .ok (.getfield 17, 3) := by decide +kernel
theorem dX6_held_4 : decode cX6_held 4 = .ok (.iload_n 1, 1) := by decide +kernel
theorem dX6_held_5 : decode cX6_held 5 = .ok (.aaload, 1) := by decide +kernel
theorem dX6_held_6 : decode cX6_held 6 = .ok (.iload_n 2, 1) := by decide +kernel
theorem dX6_held_7 : decode cX6_held 7 = .ok (.iaload, 1) := by decide +kernel
theorem dX6_held_8 : decode cX6_held 8 = .ok (.ireturn, 1) := by decide +kernel
theorem dX6_put_0 : decode cX6_put 0 = .ok (.aload_n 0, 1) := by decide +kernel
theorem dX6_put_1 : decode cX6_put 1 = .ok (.getfield 17, 3) := by decide +kernel
theorem dX6_put_4 : decode cX6_put 4 = .ok (.iload_n 1, 1) := by decide +kernel
theorem dX6_put_5 : decode cX6_put 5 = .ok (.aaload, 1) := by decide +kernel
theorem dX6_put_6 : decode cX6_put 6 = .ok (.iload_n 2, 1) := by decide +kernel
theorem dX6_put_7 : decode cX6_put 7 = .ok (.iload_n 3, 1) := by decide +kernel
theorem dX6_put_8 : decode cX6_put 8 = .ok (.iastore, 1) := by decide +kernel
theorem dX6_put_9 : decode cX6_put 9 = .ok (.return_, 1) := by decide +kernel
theorem dX6_wealth_0 : decode cX6_wealth 0 = .ok (.lconst 0, 1) := by decide +kernel
theorem dX6_wealth_1 : decode cX6_wealth 1 = .ok (.lstore_n 2, 1) := by decide +kernel
theorem dX6_wealth_2 : decode cX6_wealth 2 = .ok (.iconst 0, 1) := by decide +kernel
theorem dX6_wealth_3 : decode cX6_wealth 3 = .ok (.istore 4, 2) := by decide +kernel
theorem dX6_wealth_5 : decode cX6_wealth 5 = .ok (.iload 4, 2) := by decide +kernel
theorem dX6_wealth_7 : decode cX6_wealth 7 = .ok (.iconst 4, 1) := by decide +kernel
theorem dX6_wealth_8 : decode cX6_wealth 8 = .ok (.if_icmp .ge 31, 3) := by decide +kernel
theorem dX6_wealth_11 : decode cX6_wealth 11 = .ok (.lload_n 2, 1) := by decide +kernel
theorem dX6_wealth_12 : decode cX6_wealth 12 = .ok (.aload_n 0, 1) := by decide +kernel
theorem dX6_wealth_13 : decode cX6_wealth 13 = .ok (.getfield 17, 3) := by decide +kernel
theorem dX6_wealth_16 : decode cX6_wealth 16 = .ok (.iload_n 1, 1) := by decide +kernel
theorem dX6_wealth_17 : decode cX6_wealth 17 = .ok (.aaload, 1) := by decide +kernel
theorem dX6_wealth_18 : decode cX6_wealth 18 = .ok (.iload 4, 2) := by decide +kernel
theorem dX6_wealth_20 : decode cX6_wealth 20 = .ok (.iaload, 1) := by decide +kernel
theorem dX6_wealth_21 : decode cX6_wealth 21 = .ok (.i2l, 1) := by decide +kernel
theorem dX6_wealth_22 : decode cX6_wealth 22 = .ok (.aload_n 0, 1) := by decide +kernel
theorem dX6_wealth_23 : decode cX6_wealth 23 = .ok (.getfield 11, 3) := by decide +kernel
theorem dX6_wealth_26 : decode cX6_wealth 26 = .ok (.iload 4, 2) := by decide +kernel
theorem dX6_wealth_28 : decode cX6_wealth 28 = .ok (.iaload, 1) := by decide +kernel
theorem dX6_wealth_29 : decode cX6_wealth 29 = .ok (.i2l, 1) := by decide +kernel
theorem dX6_wealth_30 : decode cX6_wealth 30 = .ok (.lmul, 1) := by decide +kernel
theorem dX6_wealth_31 : decode cX6_wealth 31 = .ok (.ladd, 1) := by decide +kernel
theorem dX6_wealth_32 : decode cX6_wealth 32 = .ok (.lstore_n 2, 1) := by decide +kernel
theorem dX6_wealth_33 : decode cX6_wealth 33 = .ok (.iinc 4 1, 3) := by decide +kernel
theorem dX6_wealth_36 : decode cX6_wealth 36 = .ok (.goto (-31), 3) := by decide +kernel
theorem dX6_wealth_39 : decode cX6_wealth 39 = .ok (.lload_n 2, 1) := by decide +kernel
theorem dX6_wealth_40 : decode cX6_wealth 40 = .ok (.lreturn, 1) := by decide +kernel
set_option maxRecDepth 20000 in
theorem ggX6_handOver_X6_dearestBut : GoodIn wsX6_handOver wsX6_dearestBut := goodIn_r _ [14, 1, 15, 16] rfl (by decide +kernel)
set_option maxRecDepth 20000 in
theorem gX6_handOver_X6_dearestBut : GoodIn wsX6_handOver (wsV RX6 20 RX6 yX6_dearestBut wsX6_dearestBut) := goodIn_app (goodIn_of _ (by decide +kernel)) ggX6_handOver_X6_dearestBut
theorem dX6_handOver_0 : decode cX6_handOver 0 = .ok (.lload_n 3, 1) := by decide +kernel
theorem dX6_handOver_1 : decode cX6_handOver 1 = .ok (.lstore 5, 2) := by decide +kernel
theorem dX6_handOver_3 : decode cX6_handOver 3 = .ok (.iconst 0, 1) := by decide +kernel
theorem dX6_handOver_4 : decode cX6_handOver 4 = .ok (.istore 7, 2) := by decide +kernel
theorem dX6_handOver_6 : decode cX6_handOver 6 = .ok (.iconst 0, 1) := by decide +kernel
theorem dX6_handOver_7 : decode cX6_handOver 7 = .ok (.istore 8, 2) := by decide +kernel
theorem dX6_handOver_9 : decode cX6_handOver 9 = .ok (.iload 8, 2) := by decide +kernel
theorem dX6_handOver_11 : decode cX6_handOver 11 = .ok (.iconst 4, 1) := by decide +kernel
theorem dX6_handOver_12 : decode cX6_handOver 12 = .ok (.if_icmp .ge 136, 3) := by decide +kernel
theorem dX6_handOver_15 : decode cX6_handOver 15 = .ok (.aload_n 0, 1) := by decide +kernel
theorem dX6_handOver_16 : decode cX6_handOver 16 = .ok (.iload 7, 2) := by decide +kernel
theorem dX6_handOver_18 : decode cX6_handOver 18 = .ok (.invokevirtual 20, 3) := by decide +kernel
theorem dX6_handOver_21 : decode cX6_handOver 21 = .ok (.istore 9, 2) := by decide +kernel
theorem dX6_handOver_23 : decode cX6_handOver 23 = .ok (.iload 9, 2) := by decide +kernel
theorem dX6_handOver_25 : decode cX6_handOver 25 = .ok (.ifCond .lt 13, 3) := by decide +kernel
theorem dX6_handOver_28 : decode cX6_handOver 28 = .ok (.aload_n 0, 1) := by decide +kernel
theorem dX6_handOver_29 : decode cX6_handOver 29 = .ok (.getfield 11, 3) := by decide +kernel
theorem dX6_handOver_32 : decode cX6_handOver 32 = .ok (.iload 9, 2) := by decide +kernel
theorem dX6_handOver_34 : decode cX6_handOver 34 = .ok (.iaload, 1) := by decide +kernel
theorem dX6_handOver_35 : decode cX6_handOver 35 = .ok (.ifCond .gt 6, 3) := by decide +kernel
theorem dX6_handOver_38 : decode cX6_handOver 38 = .ok (.lload 5, 2) := by decide +kernel
theorem dX6_handOver_40 : decode cX6_handOver 40 = .ok (.lreturn, 1) := by decide +kernel
theorem dX6_handOver_41 : decode cX6_handOver 41 = .ok (.iload 7, 2) := by decide +kernel
theorem dX6_handOver_43 : decode cX6_handOver 43 = .ok (.iconst 1, 1) := by decide +kernel
theorem dX6_handOver_44 : decode cX6_handOver 44 = .ok (.iload 9, 2) := by decide +kernel
theorem dX6_handOver_46 : decode cX6_handOver 46 = .ok (.ishl, 1) := by decide +kernel
theorem dX6_handOver_47 : decode cX6_handOver 47 = .ok (.ior, 1) := by decide +kernel
theorem dX6_handOver_48 : decode cX6_handOver 48 = .ok (.istore 7, 2) := by decide +kernel
theorem dX6_handOver_50 : decode cX6_handOver 50 = .ok (.aload_n 0, 1) := by decide +kernel
theorem dX6_handOver_51 : decode cX6_handOver 51 = .ok (.getfield 17, 3) := by decide +kernel
theorem dX6_handOver_54 : decode cX6_handOver 54 = .ok (.iload_n 1, 1) := by decide +kernel
theorem dX6_handOver_55 : decode cX6_handOver 55 = .ok (.aaload, 1) := by decide +kernel
theorem dX6_handOver_56 : decode cX6_handOver 56 = .ok (.iload 9, 2) := by decide +kernel
theorem dX6_handOver_58 : decode cX6_handOver 58 = .ok (.iaload, 1) := by decide +kernel
theorem dX6_handOver_59 : decode cX6_handOver 59 = .ok (.sipush 1000, 3) := by decide +kernel
theorem dX6_handOver_62 : decode cX6_handOver 62 = .ok (.aload_n 0, 1) := by decide +kernel
theorem dX6_handOver_63 : decode cX6_handOver 63 = .ok (.getfield 17, 3) := by decide +kernel
theorem dX6_handOver_66 : decode cX6_handOver 66 = .ok (.iload_n 2, 1) := by decide +kernel
theorem dX6_handOver_67 : decode cX6_handOver 67 = .ok (.aaload, 1) := by decide +kernel
theorem dX6_handOver_68 : decode cX6_handOver 68 = .ok (.iload 9, 2) := by decide +kernel
theorem dX6_handOver_70 : decode cX6_handOver 70 = .ok (.iaload, 1) := by decide +kernel
theorem dX6_handOver_71 : decode cX6_handOver 71 = .ok (.isub, 1) := by decide +kernel
theorem dX6_handOver_72 : decode cX6_handOver 72 = .ok (.invokestatic 24, 3) := by decide +kernel
theorem dX6_handOver_75 : decode cX6_handOver 75 = .ok (.istore 10, 2) := by decide +kernel
theorem dX6_handOver_77 : decode cX6_handOver 77 = .ok (.iload 10, 2) := by decide +kernel
theorem dX6_handOver_79 : decode cX6_handOver 79 = .ok (.i2l, 1) := by decide +kernel
theorem dX6_handOver_80 : decode cX6_handOver 80 = .ok (.lload 5, 2) := by decide +kernel
theorem dX6_handOver_82 : decode cX6_handOver 82 = .ok (.aload_n 0, 1) := by decide +kernel
theorem dX6_handOver_83 : decode cX6_handOver 83 = .ok (.getfield 11, 3) := by decide +kernel
theorem dX6_handOver_86 : decode cX6_handOver 86 = .ok (.iload 9, 2) := by decide +kernel
theorem dX6_handOver_88 : decode cX6_handOver 88 = .ok (.iaload, 1) := by decide +kernel
theorem dX6_handOver_89 : decode cX6_handOver 89 = .ok (.i2l, 1) := by decide +kernel
theorem dX6_handOver_90 : decode cX6_handOver 90 = .ok (.ldiv, 1) := by decide +kernel
theorem dX6_handOver_91 : decode cX6_handOver 91 = .ok (.invokestatic 30, 3) := by decide +kernel
theorem dX6_handOver_94 : decode cX6_handOver 94 = .ok (.l2i, 1) := by decide +kernel
theorem dX6_handOver_95 : decode cX6_handOver 95 = .ok (.istore 11, 2) := by decide +kernel
theorem dX6_handOver_97 : decode cX6_handOver 97 = .ok (.aload_n 0, 1) := by decide +kernel
theorem dX6_handOver_98 : decode cX6_handOver 98 = .ok (.getfield 17, 3) := by decide +kernel
theorem dX6_handOver_101 : decode cX6_handOver 101 = .ok (.iload_n 1, 1) := by decide +kernel
theorem dX6_handOver_102 : decode cX6_handOver 102 = .ok (.aaload, 1) := by decide +kernel
theorem dX6_handOver_103 : decode cX6_handOver 103 = .ok (.iload 9, 2) := by decide +kernel
theorem dX6_handOver_105 : decode cX6_handOver 105 = .ok (.dup2, 1) := by decide +kernel
theorem dX6_handOver_106 : decode cX6_handOver 106 = .ok (.iaload, 1) := by decide +kernel
theorem dX6_handOver_107 : decode cX6_handOver 107 = .ok (.iload 11, 2) := by decide +kernel
theorem dX6_handOver_109 : decode cX6_handOver 109 = .ok (.isub, 1) := by decide +kernel
theorem dX6_handOver_110 : decode cX6_handOver 110 = .ok (.iastore, 1) := by decide +kernel
theorem dX6_handOver_111 : decode cX6_handOver 111 = .ok (.aload_n 0, 1) := by decide +kernel
theorem dX6_handOver_112 : decode cX6_handOver 112 = .ok (.getfield 17, 3) := by decide +kernel
theorem dX6_handOver_115 : decode cX6_handOver 115 = .ok (.iload_n 2, 1) := by decide +kernel
theorem dX6_handOver_116 : decode cX6_handOver 116 = .ok (.aaload, 1) := by decide +kernel
theorem dX6_handOver_117 : decode cX6_handOver 117 = .ok (.iload 9, 2) := by decide +kernel
theorem dX6_handOver_119 : decode cX6_handOver 119 = .ok (.dup2, 1) := by decide +kernel
theorem dX6_handOver_120 : decode cX6_handOver 120 = .ok (.iaload, 1) := by decide +kernel
theorem dX6_handOver_121 : decode cX6_handOver 121 = .ok (.iload 11, 2) := by decide +kernel
theorem dX6_handOver_123 : decode cX6_handOver 123 = .ok (.iadd, 1) := by decide +kernel
theorem dX6_handOver_124 : decode cX6_handOver 124 = .ok (.iastore, 1) := by decide +kernel
theorem dX6_handOver_125 : decode cX6_handOver 125 = .ok (.lload 5, 2) := by decide +kernel
theorem dX6_handOver_127 : decode cX6_handOver 127 = .ok (.iload 11, 2) := by decide +kernel
theorem dX6_handOver_129 : decode cX6_handOver 129 = .ok (.i2l, 1) := by decide +kernel
theorem dX6_handOver_130 : decode cX6_handOver 130 = .ok (.aload_n 0, 1) := by decide +kernel
theorem dX6_handOver_131 : decode cX6_handOver 131 = .ok (.getfield 11, 3) := by decide +kernel
theorem dX6_handOver_134 : decode cX6_handOver 134 = .ok (.iload 9, 2) := by decide +kernel
theorem dX6_handOver_136 : decode cX6_handOver 136 = .ok (.iaload, 1) := by decide +kernel
theorem dX6_handOver_137 : decode cX6_handOver 137 = .ok (.i2l, 1) := by decide +kernel
theorem dX6_handOver_138 : decode cX6_handOver 138 = .ok (.lmul, 1) := by decide +kernel
theorem dX6_handOver_139 : decode cX6_handOver 139 = .ok (.lsub, 1) := by decide +kernel
theorem dX6_handOver_140 : decode cX6_handOver 140 = .ok (.lstore 5, 2) := by decide +kernel
theorem dX6_handOver_142 : decode cX6_handOver 142 = .ok (.iinc 8 1, 3) := by decide +kernel
theorem dX6_handOver_145 : decode cX6_handOver 145 = .ok (.goto (-136), 3) := by decide +kernel
theorem dX6_handOver_148 : decode cX6_handOver 148 = .ok (.lload 5, 2) := by decide +kernel
theorem dX6_handOver_150 : decode cX6_handOver 150 = .ok (.lreturn, 1) := by decide +kernel
theorem dX6_dearestBut_0 : decode cX6_dearestBut 0 = .ok (.iconst (-1), 1) := by decide +kernel
theorem dX6_dearestBut_1 : decode cX6_dearestBut 1 = .ok (.istore_n 2, 1) := by decide +kernel
theorem dX6_dearestBut_2 : decode cX6_dearestBut 2 = .ok (.iconst 0, 1) := by decide +kernel
theorem dX6_dearestBut_3 : decode cX6_dearestBut 3 = .ok (.istore_n 3, 1) := by decide +kernel
theorem dX6_dearestBut_4 : decode cX6_dearestBut 4 = .ok (.iload_n 3, 1) := by decide +kernel
theorem dX6_dearestBut_5 : decode cX6_dearestBut 5 = .ok (.iconst 4, 1) := by decide +kernel
theorem dX6_dearestBut_6 : decode cX6_dearestBut 6 = .ok (.if_icmp .ge 38, 3) := by decide +kernel
theorem dX6_dearestBut_9 : decode cX6_dearestBut 9 = .ok (.iload_n 1, 1) := by decide +kernel
theorem dX6_dearestBut_10 : decode cX6_dearestBut 10 = .ok (.iconst 1, 1) := by decide +kernel
theorem dX6_dearestBut_11 : decode cX6_dearestBut 11 = .ok (.iload_n 3, 1) := by decide +kernel
theorem dX6_dearestBut_12 : decode cX6_dearestBut 12 = .ok (.ishl, 1) := by decide +kernel
theorem dX6_dearestBut_13 : decode cX6_dearestBut 13 = .ok (.iand, 1) := by decide +kernel
theorem dX6_dearestBut_14 : decode cX6_dearestBut 14 = .ok (.ifCond .ne 24, 3) := by decide +kernel
theorem dX6_dearestBut_17 : decode cX6_dearestBut 17 = .ok (.iload_n 2, 1) := by decide +kernel
theorem dX6_dearestBut_18 : decode cX6_dearestBut 18 = .ok (.ifCond .lt 18, 3) := by decide +kernel
theorem dX6_dearestBut_21 : decode cX6_dearestBut 21 = .ok (.aload_n 0, 1) := by decide +kernel
theorem dX6_dearestBut_22 : decode cX6_dearestBut 22 = .ok (.getfield 11, 3) := by decide +kernel
theorem dX6_dearestBut_25 : decode cX6_dearestBut 25 = .ok (.iload_n 3, 1) := by decide +kernel
theorem dX6_dearestBut_26 : decode cX6_dearestBut 26 = .ok (.iaload, 1) := by decide +kernel
theorem dX6_dearestBut_27 : decode cX6_dearestBut 27 = .ok (.aload_n 0, 1) := by decide +kernel
theorem dX6_dearestBut_28 : decode cX6_dearestBut 28 = .ok (.getfield 11, 3) := by decide +kernel
theorem dX6_dearestBut_31 : decode cX6_dearestBut 31 = .ok (.iload_n 2, 1) := by decide +kernel
theorem dX6_dearestBut_32 : decode cX6_dearestBut 32 = .ok (.iaload, 1) := by decide +kernel
theorem dX6_dearestBut_33 : decode cX6_dearestBut 33 = .ok (.if_icmp .le 5, 3) := by decide +kernel
theorem dX6_dearestBut_36 : decode cX6_dearestBut 36 = .ok (.iload_n 3, 1) := by decide +kernel
theorem dX6_dearestBut_37 : decode cX6_dearestBut 37 = .ok (.istore_n 2, 1) := by decide +kernel
theorem dX6_dearestBut_38 : decode cX6_dearestBut 38 = .ok (.iinc 3 1, 3) := by decide +kernel
theorem dX6_dearestBut_41 : decode cX6_dearestBut 41 = .ok (.goto (-37), 3) := by decide +kernel
theorem dX6_dearestBut_44 : decode cX6_dearestBut 44 = .ok (.iload_n 2, 1) := by decide +kernel
theorem dX6_dearestBut_45 : decode cX6_dearestBut 45 = .ok (.ireturn, 1) := by decide +kernel
theorem dX7_init_0 : decode cX7_init 0 = .ok (.aload_n 0, 1) := by decide +kernel
theorem dX7_init_1 : decode cX7_init 1 = .ok (.invokespecial 5, 3) := by decide +kernel
theorem dX7_init_4 : decode cX7_init 4 = .ok (.aload_n 0, 1) := by decide +kernel
theorem dX7_init_5 : decode cX7_init 5 = .ok (.iconst 5, 1) := by decide +kernel
theorem dX7_init_6 : decode cX7_init 6 = .ok (.bipush 10, 2) := by decide +kernel
theorem dX7_init_8 : decode cX7_init 8 = .ok (.multianewarray 11 2, 4) := by decide +kernel
theorem dX7_init_12 : decode cX7_init 12 = .ok (.putfield 13, 3) := by decide +kernel
theorem dX7_init_15 : decode cX7_init 15 = .ok (.aload_n 0, 1) := by decide +kernel
theorem dX7_init_16 : decode cX7_init 16 = .ok (.iconst 5, 1) := by decide +kernel
theorem dX7_init_17 : decode cX7_init 17 = .ok (.iconst 5, 1) := by decide +kernel
theorem dX7_init_18 : decode cX7_init 18 = .ok (.multianewarray 11 2, 4) := by decide +kernel
theorem dX7_init_22 : decode cX7_init 22 = .ok (.putfield 16, 3) := by decide +kernel
theorem dX7_init_25 : decode cX7_init 25 = .ok (.aload_n 0, 1) := by decide +kernel
theorem dX7_init_26 : decode cX7_init 26 = .ok (.bipush 10, 2) := by decide +kernel
theorem dX7_init_28 : decode cX7_init 28 = .ok (.newarray .int, 2) := by decide +kernel
theorem dX7_init_30 : decode cX7_init 30 = .ok (.putfield 19, 3) := by decide +kernel
theorem dX7_init_33 : decode cX7_init 33 = .ok (.return_, 1) := by decide +kernel
theorem dX7_isVote_0 : decode cX7_isVote 0 = .ok (.iload_n 0, 1) := by decide +kernel
theorem dX7_isVote_1 : decode cX7_isVote 1 = .ok (.ifCond .eq 17, 3) := by decide +kernel
theorem dX7_isVote_4 : decode cX7_isVote 4 = .ok (.iload_n 0, 1) := by decide +kernel
theorem dX7_isVote_5 : decode cX7_isVote 5 = .ok (.sipush 5000, 3) := by decide +kernel
theorem dX7_isVote_8 : decode cX7_isVote 8 = .ok (.if_icmp .lt 14, 3) := by decide +kernel
theorem dX7_isVote_11 : decode cX7_isVote 11 = .ok (.iload_n 0, 1) := by decide +kernel
theorem dX7_isVote_12 : decode cX7_isVote 12 = .ok (.sipush 20000, 3) := by decide +kernel
theorem dX7_isVote_15 : decode cX7_isVote 15 = .ok (.if_icmp .gt 7, 3) := by decide +kernel
theorem dX7_isVote_18 : decode cX7_isVote 18 = .ok (.iconst 1, 1) := by decide +kernel
theorem dX7_isVote_19 : decode cX7_isVote 19 = .ok (.goto 4, 3) := by decide +kernel
theorem dX7_isVote_22 : decode cX7_isVote 22 = .ok (.iconst 0, 1) := by decide +kernel
theorem dX7_isVote_23 : decode cX7_isVote 23 = .ok (.ireturn, 1) := by decide +kernel
theorem dX7_isOffer_0 : decode cX7_isOffer 0 = .ok (.iload_n 0, 1) := by decide +kernel
theorem dX7_isOffer_1 : decode cX7_isOffer 1 = .ok (.ifCond .lt 14, 3) := by decide +kernel
theorem dX7_isOffer_4 : decode cX7_isOffer 4 = .ok (.iload_n 0, 1) := by decide +kernel
theorem dX7_isOffer_5 : decode cX7_isOffer 5 = .ok (.sipush 20000, 3) := by decide +kernel
theorem dX7_isOffer_8 : decode cX7_isOffer 8 = .ok (.if_icmp .gt 7, 3) := by decide +kernel
theorem dX7_isOffer_11 : decode cX7_isOffer 11 = .ok (.iconst 1, 1) := by decide +kernel
theorem dX7_isOffer_12 : decode cX7_isOffer 12 = .ok (.goto 4, 3) := by decide +kernel
theorem dX7_isOffer_15 : decode cX7_isOffer 15 = .ok (.iconst 0, 1) := by decide +kernel
theorem dX7_isOffer_16 : decode cX7_isOffer 16 = .ok (.ireturn, 1) := by decide +kernel
theorem dX7_changeVote_0 : decode cX7_changeVote 0 = .ok (.aload_n 0, 1) := by decide +kernel
theorem dX7_changeVote_1 : decode cX7_changeVote 1 = .ok (.getfield 13, 3) := by decide +kernel
theorem dX7_changeVote_4 : decode cX7_changeVote 4 = .ok (.iload_n 2, 1) := by decide +kernel
theorem dX7_changeVote_5 : decode cX7_changeVote 5 = .ok (.aaload, 1) := by decide +kernel
theorem dX7_changeVote_6 : decode cX7_changeVote 6 = .ok (.iload_n 1, 1) := by decide +kernel
theorem dX7_changeVote_7 : decode cX7_changeVote 7 = .ok (.iaload, 1) := by decide +kernel
theorem dX7_changeVote_8 : decode cX7_changeVote 8 = .ok (.istore 4, 2) := by decide +kernel
theorem dX7_changeVote_10 : decode cX7_changeVote 10 = .ok (.aload_n 0, 1) := by decide +kernel
theorem dX7_changeVote_11 : decode cX7_changeVote 11 = .ok (.getfield 13, 3) := by decide +kernel
theorem dX7_changeVote_14 : decode cX7_changeVote 14 = .ok (.iload_n 2, 1) := by decide +kernel
theorem dX7_changeVote_15 : decode cX7_changeVote 15 = .ok (.aaload, 1) := by decide +kernel
theorem dX7_changeVote_16 : decode cX7_changeVote 16 = .ok (.iload_n 1, 1) := by decide +kernel
theorem dX7_changeVote_17 : decode cX7_changeVote 17 = .ok (.iload_n 3, 1) := by decide +kernel
theorem dX7_changeVote_18 : decode cX7_changeVote 18 = .ok (.iastore, 1) := by decide +kernel
theorem dX7_changeVote_19 : decode cX7_changeVote 19 = .ok (.iload 4, 2) := by decide +kernel
theorem dX7_changeVote_21 : decode cX7_changeVote 21 = .ok (.ireturn, 1) := by decide +kernel
theorem dX7_changeOffer_0 : decode cX7_changeOffer 0 = .ok (.aload_n 0, 1) := by decide +kernel
theorem dX7_changeOffer_1 : decode cX7_changeOffer 1 = .ok (.getfield 16, 3) := by decide +kernel
theorem dX7_changeOffer_4 : decode cX7_changeOffer 4 = .ok (.iload_n 1, 1) := by decide +kernel
theorem dX7_changeOffer_5 : decode cX7_changeOffer 5 = .ok (.aaload, 1) := by decide +kernel
theorem dX7_changeOffer_6 : decode cX7_changeOffer 6 = .ok (.iload_n 2, 1) := by decide +kernel
theorem dX7_changeOffer_7 : decode cX7_changeOffer 7 = .ok (.iaload, 1) := by decide +kernel
theorem dX7_changeOffer_8 : decode cX7_changeOffer 8 = .ok (.istore 4, 2) := by decide +kernel
theorem dX7_changeOffer_10 : decode cX7_changeOffer 10 = .ok (.aload_n 0, 1) := by decide +kernel
theorem dX7_changeOffer_11 : decode cX7_changeOffer 11 = .ok (.getfield 16, 3) := by decide +kernel
theorem dX7_changeOffer_14 : decode cX7_changeOffer 14 = .ok (.iload_n 1, 1) := by decide +kernel
theorem dX7_changeOffer_15 : decode cX7_changeOffer 15 = .ok (.aaload, 1) := by decide +kernel
theorem dX7_changeOffer_16 : decode cX7_changeOffer 16 = .ok (.iload_n 2, 1) := by decide +kernel
theorem dX7_changeOffer_17 : decode cX7_changeOffer 17 = .ok (.iload_n 3, 1) := by decide +kernel
theorem dX7_changeOffer_18 : decode cX7_changeOffer 18 = .ok (.iastore, 1) := by decide +kernel
theorem dX7_changeOffer_19 : decode cX7_changeOffer 19 = .ok (.iload 4, 2) := by decide +kernel
theorem dX7_changeOffer_21 : decode cX7_changeOffer 21 = .ok (.ireturn, 1) := by decide +kernel
set_option maxRecDepth 20000 in
theorem ggX7_middleVote_X7_insertSorted : GoodIn wsX7_middleVote wsX7_insertSorted := goodIn_r _ [7, 2, 8, 9, 10] rfl (by decide +kernel)
set_option maxRecDepth 20000 in
theorem gX7_middleVote_X7_insertSorted : GoodIn wsX7_middleVote (wsV RX7 23 RX7 yX7_insertSorted wsX7_insertSorted) := goodIn_app (goodIn_of _ (by decide +kernel)) ggX7_middleVote_X7_insertSorted
theorem dX7_middleVote_0 : decode cX7_middleVote 0 = .ok (.iconst 0, 1) := by decide +kernel
theorem dX7_middleVote_1 : decode cX7_middleVote 1 = .ok (.istore_n 2, 1) := by decide +kernel
theorem dX7_middleVote_2 : decode cX7_middleVote 2 = .ok (.iconst 0, 1) := by decide +kernel
theorem dX7_middleVote_3 : decode cX7_middleVote 3 = .ok (.istore_n 3, 1) := by decide +kernel
theorem dX7_middleVote_4 : decode cX7_middleVote 4 = .ok (.iload_n 3, 1) := by decide +kernel
theorem dX7_middleVote_5 : decode cX7_middleVote 5 = .ok (.bipush 10, 2) := by decide +kernel
theorem dX7_middleVote_7 : decode cX7_middleVote 7 = .ok (.if_icmp .ge 36, 3) := by decide +kernel
theorem dX7_middleVote_10 : decode cX7_middleVote 10 = .ok (.aload_n 0, 1) := by decide +kernel
theorem dX7_middleVote_11 : decode cX7_middleVote 11 = .ok (.getfield 13, 3) := by decide +kernel
theorem dX7_middleVote_14 : decode cX7_middleVote 14 = .ok (.iload_n 1, 1) := by decide +kernel
theorem dX7_middleVote_15 : decode cX7_middleVote 15 = .ok (.aaload, 1) := by decide +kernel
theorem dX7_middleVote_16 : decode cX7_middleVote 16 = .ok (.iload_n 3, 1) := by decide +kernel
theorem dX7_middleVote_17 : decode cX7_middleVote 17 = .ok (.iaload, 1) := by decide +kernel
theorem dX7_middleVote_18 : decode cX7_middleVote 18 = .ok (.ifCond .eq 19, 3) := by decide +kernel
theorem dX7_middleVote_21 : decode cX7_middleVote 21 = .ok (.aload_n 0, 1) := by decide +kernel
theorem dX7_middleVote_22 : decode cX7_middleVote 22 = .ok (.aload_n 0, 1) := by decide +kernel
theorem dX7_middleVote_23 : decode cX7_middleVote 23 = .ok (.getfield 13, 3) := by decide +kernel
theorem dX7_middleVote_26 : decode cX7_middleVote 26 = .ok (.iload_n 1, 1) := by decide +kernel
theorem dX7_middleVote_27 : decode cX7_middleVote 27 = .ok (.aaload, 1) := by decide +kernel
theorem dX7_middleVote_28 : decode cX7_middleVote 28 = .ok (.iload_n 3, 1) := by decide +kernel
theorem dX7_middleVote_29 : decode cX7_middleVote 29 = .ok (.iaload, 1) := by decide +kernel
theorem dX7_middleVote_30 : decode cX7_middleVote 30 = .ok (.iload_n 2, 1) := by decide +kernel
theorem dX7_middleVote_31 : decode cX7_middleVote 31 = .ok (.invokevirtual 23, 3) := by decide +kernel
theorem dX7_middleVote_34 : decode cX7_middleVote 34 = .ok (.iinc 2 1, 3) := by decide +kernel
theorem dX7_middleVote_37 : decode cX7_middleVote 37 = .ok (.iinc 3 1, 3) := by decide +kernel
theorem dX7_middleVote_40 : decode cX7_middleVote 40 = .ok (.goto (-36), 3) := by decide +kernel
theorem dX7_middleVote_43 : decode cX7_middleVote 43 = .ok (.iload_n 2, 1) := by decide +kernel
theorem dX7_middleVote_44 : decode cX7_middleVote 44 = .ok (.ifCond .ne 7, 3) := by decide +kernel
theorem dX7_middleVote_47 : decode cX7_middleVote 47 = .ok (.iconst 0, 1) := by decide +kernel
theorem dX7_middleVote_48 : decode cX7_middleVote 48 = .ok (.goto 13, 3) := by decide +kernel
theorem dX7_middleVote_51 : decode cX7_middleVote 51 = .ok (.aload_n 0, 1) := by decide +kernel
theorem dX7_middleVote_52 : decode cX7_middleVote 52 = .ok (.getfield 19, 3) := by decide +kernel
theorem dX7_middleVote_55 : decode cX7_middleVote 55 = .ok (.iload_n 2, 1) := by decide +kernel
theorem dX7_middleVote_56 : decode cX7_middleVote 56 = .ok (.iconst 1, 1) := by decide +kernel
theorem dX7_middleVote_57 : decode cX7_middleVote 57 = .ok (.isub, 1) := by decide +kernel
theorem dX7_middleVote_58 : decode cX7_middleVote 58 = .ok (.iconst 2, 1) := by decide +kernel
theorem dX7_middleVote_59 : decode cX7_middleVote 59 = .ok (.idiv, 1) := by decide +kernel
theorem dX7_middleVote_60 : decode cX7_middleVote 60 = .ok (.iaload, 1) := by decide +kernel
theorem dX7_middleVote_61 : decode cX7_middleVote 61 = .ok (.ireturn, 1) := by decide +kernel
theorem dX7_insertSorted_0 : decode cX7_insertSorted 0 = .ok (.iload_n 2, 1) := by decide +kernel
theorem dX7_insertSorted_1 : decode cX7_insertSorted 1 = .ok (.istore_n 3, 1) := by decide +kernel
theorem dX7_insertSorted_2 : decode cX7_insertSorted 2 = .ok (.iload_n 3, 1) := by decide +kernel
theorem dX7_insertSorted_3 : decode cX7_insertSorted 3 = .ok (.ifCond .le 35, 3) := by decide +kernel
theorem dX7_insertSorted_6 : decode cX7_insertSorted 6 = .ok (.aload_n 0, 1) := by decide +kernel
theorem dX7_insertSorted_7 : decode cX7_insertSorted 7 = .ok (.getfield 19, 3) := by decide +kernel
theorem dX7_insertSorted_10 : decode cX7_insertSorted 10 = .ok (.iload_n 3, 1) := by decide +kernel
theorem dX7_insertSorted_11 : decode cX7_insertSorted 11 = .ok (.iconst 1, 1) := by decide +kernel
theorem dX7_insertSorted_12 : decode cX7_insertSorted 12 = .ok (.isub, 1) := by decide +kernel
theorem dX7_insertSorted_13 : decode cX7_insertSorted 13 = .ok (.iaload, 1) := by decide +kernel
theorem dX7_insertSorted_14 : decode cX7_insertSorted 14 = .ok (.iload_n 1, 1) := by decide +kernel
theorem dX7_insertSorted_15 : decode cX7_insertSorted 15 = .ok (.if_icmp .le 23, 3) := by decide +kernel
theorem dX7_insertSorted_18 : decode cX7_insertSorted 18 = .ok (.aload_n 0, 1) := by decide +kernel
theorem dX7_insertSorted_19 : decode cX7_insertSorted 19 = .ok (.getfield 19, 3) := by decide +kernel
theorem dX7_insertSorted_22 : decode cX7_insertSorted 22 = .ok (.iload_n 3, 1) := by decide +kernel
theorem dX7_insertSorted_23 : decode cX7_insertSorted 23 = .ok (.aload_n 0, 1) := by decide +kernel
theorem dX7_insertSorted_24 : decode cX7_insertSorted 24 = .ok (.getfield 19, 3) := by decide +kernel
theorem dX7_insertSorted_27 : decode cX7_insertSorted 27 = .ok (.iload_n 3, 1) := by decide +kernel
theorem dX7_insertSorted_28 : decode cX7_insertSorted 28 = .ok (.iconst 1, 1) := by decide +kernel
theorem dX7_insertSorted_29 : decode cX7_insertSorted 29 = .ok (.isub, 1) := by decide +kernel
theorem dX7_insertSorted_30 : decode cX7_insertSorted 30 = .ok (.iaload, 1) := by decide +kernel
theorem dX7_insertSorted_31 : decode cX7_insertSorted 31 = .ok (.iastore, 1) := by decide +kernel
theorem dX7_insertSorted_32 : decode cX7_insertSorted 32 = .ok (.iinc 3 (-1), 3) := by decide +kernel
theorem dX7_insertSorted_35 : decode cX7_insertSorted 35 = .ok (.goto (-33), 3) := by decide +kernel
theorem dX7_insertSorted_38 : decode cX7_insertSorted 38 = .ok (.aload_n 0, 1) := by decide +kernel
theorem dX7_insertSorted_39 : decode cX7_insertSorted 39 = .ok (.getfield 19, 3) := by decide +kernel
theorem dX7_insertSorted_42 : decode cX7_insertSorted 42 = .ok (.iload_n 3, 1) := by decide +kernel
theorem dX7_insertSorted_43 : decode cX7_insertSorted 43 = .ok (.iload_n 1, 1) := by decide +kernel
theorem dX7_insertSorted_44 : decode cX7_insertSorted 44 = .ok (.iastore, 1) := by decide +kernel
theorem dX7_insertSorted_45 : decode cX7_insertSorted 45 = .ok (.return_, 1) := by decide +kernel
set_option maxRecDepth 20000 in
theorem ggX7_bestTurn_X7_productOf : GoodIn wsX7_bestTurn wsX7_productOf := goodIn_r _ [8, 9, 13, 14, 15] rfl (by decide +kernel)
set_option maxRecDepth 20000 in
theorem gX7_bestTurn_X7_productOf : GoodIn wsX7_bestTurn (wsV RX7 31 RX7 yX7_productOf wsX7_productOf) := goodIn_app (goodIn_of _ (by decide +kernel)) ggX7_bestTurn_X7_productOf
set_option maxRecDepth 20000 in
theorem ggX7_bestTurn_X7_figuresOf : GoodIn wsX7_bestTurn wsX7_figuresOf := goodIn_r _ [12] rfl (by decide +kernel)
set_option maxRecDepth 20000 in
theorem gX7_bestTurn_X7_figuresOf : GoodIn wsX7_bestTurn (va_wsS RX7 35 yX7_figuresOf wsX7_figuresOf) := goodIn_app (goodIn_of _ (by decide +kernel)) ggX7_bestTurn_X7_figuresOf
theorem dX7_bestTurn_0 : decode cX7_bestTurn 0 = .ok (.ldc2_w 27, 3) := by decide +kernel
theorem dX7_bestTurn_3 : decode cX7_bestTurn 3 = .ok (.lstore_n 1, 1) := by decide +kernel
theorem dX7_bestTurn_4 : decode cX7_bestTurn 4 = .ok (.iconst 0, 1) := by decide +kernel
theorem dX7_bestTurn_5 : decode cX7_bestTurn 5 = .ok (.istore_n 3, 1) := by decide +kernel
theorem dX7_bestTurn_6 : decode cX7_bestTurn 6 = .ok (.ldc2_w 29, 3) := by decide +kernel
theorem dX7_bestTurn_9 : decode cX7_bestTurn 9 = .ok (.lstore 4, 2) := by decide +kernel
theorem dX7_bestTurn_11 : decode cX7_bestTurn 11 = .ok (.bipush 25, 2) := by decide +kernel
theorem dX7_bestTurn_13 : decode cX7_bestTurn 13 = .ok (.istore 6, 2) := by decide +kernel
theorem dX7_bestTurn_15 : decode cX7_bestTurn 15 = .ok (.iconst 2, 1) := by decide +kernel
theorem dX7_bestTurn_16 : decode cX7_bestTurn 16 = .ok (.istore 7, 2) := by decide +kernel
theorem dX7_bestTurn_18 : decode cX7_bestTurn 18 = .ok (.iload 7, 2) := by decide +kernel
theorem dX7_bestTurn_20 : decode cX7_bestTurn 20 = .ok (.iconst 4, 1) := by decide +kernel
theorem dX7_bestTurn_21 : decode cX7_bestTurn 21 = .ok (.if_icmp .gt 70, 3) := by decide +kernel
theorem dX7_bestTurn_24 : decode cX7_bestTurn 24 = .ok (.iconst 0, 1) := by decide +kernel
theorem dX7_bestTurn_25 : decode cX7_bestTurn 25 = .ok (.istore 8, 2) := by decide +kernel
theorem dX7_bestTurn_27 : decode cX7_bestTurn 27 = .ok (.iload 8, 2) := by decide +kernel
theorem dX7_bestTurn_29 : decode cX7_bestTurn 29 = .ok (.iload 6, 2) := by decide +kernel
theorem dX7_bestTurn_31 : decode cX7_bestTurn 31 = .ok (.if_icmp .ge 40, 3) := by decide +kernel
theorem dX7_bestTurn_34 : decode cX7_bestTurn 34 = .ok (.lload 4, 2) := by decide +kernel
theorem dX7_bestTurn_36 : decode cX7_bestTurn 36 = .ok (.aload_n 0, 1) := by decide +kernel
theorem dX7_bestTurn_37 : decode cX7_bestTurn 37 = .ok (.iload 8, 2) := by decide +kernel
theorem dX7_bestTurn_39 : decode cX7_bestTurn 39 = .ok (.iload 7, 2) := by decide +kernel
theorem dX7_bestTurn_41 : decode cX7_bestTurn 41 = .ok (.invokevirtual 31, 3) := by decide +kernel
theorem dX7_bestTurn_44 : decode cX7_bestTurn 44 = .ok (.lmul, 1) := by decide +kernel
theorem dX7_bestTurn_45 : decode cX7_bestTurn 45 = .ok (.lstore 9, 2) := by decide +kernel
theorem dX7_bestTurn_47 : decode cX7_bestTurn 47 = .ok (.lload 9, 2) := by decide +kernel
theorem dX7_bestTurn_49 : decode cX7_bestTurn 49 = .ok (.lload_n 1, 1) := by decide +kernel
theorem dX7_bestTurn_50 : decode cX7_bestTurn 50 = .ok (.lcmp, 1) := by decide +kernel
theorem dX7_bestTurn_51 : decode cX7_bestTurn 51 = .ok (.ifCond .le 14, 3) := by decide +kernel
theorem dX7_bestTurn_54 : decode cX7_bestTurn 54 = .ok (.lload 9, 2) := by decide +kernel
theorem dX7_bestTurn_56 : decode cX7_bestTurn 56 = .ok (.lstore_n 1, 1) := by decide +kernel
theorem dX7_bestTurn_57 : decode cX7_bestTurn 57 = .ok (.iload 8, 2) := by decide +kernel
theorem dX7_bestTurn_59 : decode cX7_bestTurn 59 = .ok (.iload 7, 2) := by decide +kernel
theorem dX7_bestTurn_61 : decode cX7_bestTurn 61 = .ok (.invokestatic 35, 3) := by decide +kernel
theorem dX7_bestTurn_64 : decode cX7_bestTurn 64 = .ok (.istore_n 3, 1) := by decide +kernel
theorem dX7_bestTurn_65 : decode cX7_bestTurn 65 = .ok (.iinc 8 1, 3) := by decide +kernel
theorem dX7_bestTurn_68 : decode cX7_bestTurn 68 = .ok (.goto (-41), 3) := by decide +kernel
theorem dX7_bestTurn_71 : decode cX7_bestTurn 71 = .ok (.lload 4, 2) := by decide +kernel
theorem dX7_bestTurn_73 : decode cX7_bestTurn 73 = .ok (.ldc2_w 39, 3) := by decide +kernel
theorem dX7_bestTurn_76 : decode cX7_bestTurn 76 = .ok (.ldiv, 1) := by decide +kernel
theorem dX7_bestTurn_77 : decode cX7_bestTurn 77 = .ok (.lstore 4, 2) := by decide +kernel
theorem dX7_bestTurn_79 : decode cX7_bestTurn 79 = .ok (.iload 6, 2) := by decide +kernel
theorem dX7_bestTurn_81 : decode cX7_bestTurn 81 = .ok (.iconst 5, 1) := by decide +kernel
theorem dX7_bestTurn_82 : decode cX7_bestTurn 82 = .ok (.imul, 1) := by decide +kernel
theorem dX7_bestTurn_83 : decode cX7_bestTurn 83 = .ok (.istore 6, 2) := by decide +kernel
theorem dX7_bestTurn_85 : decode cX7_bestTurn 85 = .ok (.iinc 7 1, 3) := by decide +kernel
theorem dX7_bestTurn_88 : decode cX7_bestTurn 88 = .ok (.goto (-70), 3) := by decide +kernel
theorem dX7_bestTurn_91 : decode cX7_bestTurn 91 = .ok (.iload_n 3, 1) := by decide +kernel
theorem dX7_bestTurn_92 : decode cX7_bestTurn 92 = .ok (.ireturn, 1) := by decide +kernel
theorem dX7_productOf_0 : decode cX7_productOf 0 = .ok (.iload_n 1, 1) := by decide +kernel
theorem dX7_productOf_1 : decode cX7_productOf 1 = .ok (.iconst 5, 1) := by decide +kernel
theorem dX7_productOf_2 : decode cX7_productOf 2 = .ok (.irem, 1) := by decide +kernel
theorem dX7_productOf_3 : decode cX7_productOf 3 = .ok (.istore_n 3, 1) := by decide +kernel
theorem dX7_productOf_4 : decode cX7_productOf 4 = .ok (.iload_n 3, 1) := by decide +kernel
theorem dX7_productOf_5 : decode cX7_productOf 5 = .ok (.istore 4, 2) := by decide +kernel
theorem dX7_productOf_7 : decode cX7_productOf 7 = .ok (.iconst 1, 1) := by decide +kernel
theorem dX7_productOf_8 : decode cX7_productOf 8 = .ok (.iload_n 3, 1) := by decide +kernel
theorem dX7_productOf_9 : decode cX7_productOf 9 = .ok (.ishl, 1) := by decide +kernel
theorem dX7_productOf_10 : decode cX7_productOf 10 = .ok (.istore 5, 2) := by decide +kernel
theorem dX7_productOf_12 : decode cX7_productOf 12 = .ok (.iload_n 1, 1) := by decide +kernel
theorem dX7_productOf_13 : decode cX7_productOf 13 = .ok (.iconst 5, 1) := by decide +kernel
theorem dX7_productOf_14 : decode cX7_productOf 14 = .ok (.idiv, 1) := by decide +kernel
theorem dX7_productOf_15 : decode cX7_productOf 15 = .ok (.istore 6, 2) := by decide +kernel
theorem dX7_productOf_17 : decode cX7_productOf 17 = .ok (.lconst 1, 1) := by decide +kernel
theorem dX7_productOf_18 : decode cX7_productOf 18 = .ok (.lstore 7, 2) := by decide +kernel
theorem dX7_productOf_20 : decode cX7_productOf 20 = .ok (.iconst 1, 1) := by decide +kernel
theorem dX7_productOf_21 : decode cX7_productOf 21 = .ok (.istore 9, 2) := by decide +kernel
theorem dX7_productOf_23 : decode cX7_productOf 23 = .ok (.iload 9, 2) := by decide +kernel
theorem dX7_productOf_25 : decode cX7_productOf 25 = .ok (.iload_n 2, 1) := by decide +kernel
theorem dX7_productOf_26 : decode cX7_productOf 26 = .ok (.if_icmp .ge 62, 3) := by decide +kernel
theorem dX7_productOf_29 : decode cX7_productOf 29 = .ok (.iload 6, 2) := by decide +kernel
theorem dX7_productOf_31 : decode cX7_productOf 31 = .ok (.iconst 5, 1) := by decide +kernel
theorem dX7_productOf_32 : decode cX7_productOf 32 = .ok (.irem, 1) := by decide +kernel
theorem dX7_productOf_33 : decode cX7_productOf 33 = .ok (.istore 10, 2) := by decide +kernel
theorem dX7_productOf_35 : decode cX7_productOf 35 = .ok (.iload 5, 2) := by decide +kernel
theorem dX7_productOf_37 : decode cX7_productOf 37 = .ok (.iconst 1, 1) := by decide +kernel
theorem dX7_productOf_38 : decode cX7_productOf 38 = .ok (.iload 10, 2) := by decide +kernel
theorem dX7_productOf_40 : decode cX7_productOf 40 = .ok (.ishl, 1) := by decide +kernel
theorem dX7_productOf_41 : decode cX7_productOf 41 = .ok (.iand, 1) := by decide +kernel
theorem dX7_productOf_42 : decode cX7_productOf 42 = .ok (.ifCond .eq 5, 3) := by decide +kernel
theorem dX7_productOf_45 : decode cX7_productOf 45 = .ok (.lconst 0, 1) := by decide +kernel
theorem dX7_productOf_46 : decode cX7_productOf 46 = .ok (.lreturn, 1) := by decide +kernel
theorem dX7_productOf_47 : decode cX7_productOf 47 = .ok (.iload 5, 2) := by decide +kernel
theorem dX7_productOf_49 : decode cX7_productOf 49 = .ok (.iconst 1, 1) := by decide +kernel
theorem dX7_productOf_50 : decode cX7_productOf 50 = .ok (.iload 10, 2) := by decide +kernel
theorem dX7_productOf_52 : decode cX7_productOf 52 = .ok (.ishl, 1) := by decide +kernel
theorem dX7_productOf_53 : decode cX7_productOf 53 = .ok (.ior, 1) := by decide +kernel
theorem dX7_productOf_54 : decode cX7_productOf 54 = .ok (.istore 5, 2) := by decide +kernel
theorem dX7_productOf_56 : decode cX7_productOf 56 = .ok (.lload 7, 2) := by decide +kernel
theorem dX7_productOf_58 : decode cX7_productOf 58 = .ok (.aload_n 0, 1) := by decide +kernel
theorem dX7_productOf_59 : decode cX7_productOf 59 = .ok (.getfield 16, 3) := by decide +kernel
theorem dX7_productOf_62 : decode cX7_productOf 62 = .ok (.iload 10, 2) := by decide +kernel
theorem dX7_productOf_64 : decode cX7_productOf 64 = .ok (.aaload, 1) := by decide +kernel
theorem dX7_productOf_65 : decode cX7_productOf 65 = .ok (.iload 4, 2) := by decide +kernel
theorem dX7_productOf_67 : decode cX7_productOf 67 = .ok (.iaload, 1) := by decide +kernel
theorem dX7_productOf_68 : decode cX7_productOf 68 = .ok (.i2l, 1) := by decide +kernel
theorem dX7_productOf_69 : decode cX7_productOf 69 = .ok (.lmul, 1) := by decide +kernel
theorem dX7_productOf_70 : decode cX7_productOf 70 = .ok (.lstore 7, 2) := by decide +kernel
theorem dX7_productOf_72 : decode cX7_productOf 72 = .ok (.iload 10, 2) := by decide +kernel
theorem dX7_productOf_74 : decode cX7_productOf 74 = .ok (.istore 4, 2) := by decide +kernel
theorem dX7_productOf_76 : decode cX7_productOf 76 = .ok (.iload 6, 2) := by decide +kernel
theorem dX7_productOf_78 : decode cX7_productOf 78 = .ok (.iconst 5, 1) := by decide +kernel
theorem dX7_productOf_79 : decode cX7_productOf 79 = .ok (.idiv, 1) := by decide +kernel
theorem dX7_productOf_80 : decode cX7_productOf 80 = .ok (.istore 6, 2) := by decide +kernel
theorem dX7_productOf_82 : decode cX7_productOf 82 = .ok (.iinc 9 1, 3) := by decide +kernel
theorem dX7_productOf_85 : decode cX7_productOf 85 = .ok (.goto (-62), 3) := by decide +kernel
theorem dX7_productOf_88 : decode cX7_productOf 88 = .ok (.iload 5, 2) := by decide +kernel
theorem dX7_productOf_90 : decode cX7_productOf 90 = .ok (.iconst 1, 1) := by decide +kernel
theorem dX7_productOf_91 : decode cX7_productOf 91 = .ok (.iload 4, 2) := by decide +kernel
theorem dX7_productOf_93 : decode cX7_productOf 93 = .ok (.ishl, 1) := by decide +kernel
theorem dX7_productOf_94 : decode cX7_productOf 94 = .ok (.iconst 1, 1) := by decide +kernel
theorem dX7_productOf_95 : decode cX7_productOf 95 = .ok (.isub, 1) := by decide +kernel
theorem dX7_productOf_96 : decode cX7_productOf 96 = .ok (.iand, 1) := by decide +kernel
theorem dX7_productOf_97 : decode cX7_productOf 97 = .ok (.ifCond .ne 7, 3) := by decide +kernel
theorem dX7_productOf_100 : decode cX7_productOf 100 = .ok (.iconst 1, 1) := by decide +kernel
theorem dX7_productOf_101 : decode cX7_productOf 101 = .ok (.goto 4, 3) := by decide +kernel
theorem dX7_productOf_104 : decode cX7_productOf 104 = .ok (.iconst 0, 1) := by decide +kernel
theorem dX7_productOf_105 : decode cX7_productOf 105 = .ok (.istore 9, 2) := by decide +kernel
theorem dX7_productOf_107 : decode cX7_productOf 107 = .ok (.iload 9, 2) := by decide +kernel
theorem dX7_productOf_109 : decode cX7_productOf 109 = .ok (.ifCond .eq 19, 3) := by decide +kernel
theorem dX7_productOf_112 : decode cX7_productOf 112 = .ok (.lload 7, 2) := by decide +kernel
theorem dX7_productOf_114 : decode cX7_productOf 114 = .ok (.aload_n 0, 1) := by decide +kernel
theorem dX7_productOf_115 : decode cX7_productOf 115 = .ok (.getfield 16, 3) := by decide +kernel
theorem dX7_productOf_118 : decode cX7_productOf 118 = .ok (.iload_n 3, 1) := by decide +kernel
theorem dX7_productOf_119 : decode cX7_productOf 119 = .ok (.aaload, 1) := by decide +kernel
theorem dX7_productOf_120 : decode cX7_productOf 120 = .ok (.iload 4, 2) := by decide +kernel
theorem dX7_productOf_122 : decode cX7_productOf 122 = .ok (.iaload, 1) := by decide +kernel
theorem dX7_productOf_123 : decode cX7_productOf 123 = .ok (.i2l, 1) := by decide +kernel
theorem dX7_productOf_124 : decode cX7_productOf 124 = .ok (.lmul, 1) := by decide +kernel
theorem dX7_productOf_125 : decode cX7_productOf 125 = .ok (.goto 4, 3) := by decide +kernel
theorem dX7_productOf_128 : decode cX7_productOf 128 = .ok (.lconst 0, 1) := by decide +kernel
theorem dX7_productOf_129 : decode cX7_productOf 129 = .ok (.lreturn, 1) := by decide +kernel
theorem dX7_figuresOf_0 : decode cX7_figuresOf 0 = .ok (.iconst 0, 1) := by decide +kernel
theorem dX7_figuresOf_1 : decode cX7_figuresOf 1 = .ok (.istore_n 2, 1) := by decide +kernel
theorem dX7_figuresOf_2 : decode cX7_figuresOf 2 = .ok (.iconst 1, 1) := by decide +kernel
theorem dX7_figuresOf_3 : decode cX7_figuresOf 3 = .ok (.istore_n 3, 1) := by decide +kernel
theorem dX7_figuresOf_4 : decode cX7_figuresOf 4 = .ok (.iload_n 0, 1) := by decide +kernel
theorem dX7_figuresOf_5 : decode cX7_figuresOf 5 = .ok (.istore 4, 2) := by decide +kernel
theorem dX7_figuresOf_7 : decode cX7_figuresOf 7 = .ok (.iconst 0, 1) := by decide +kernel
theorem dX7_figuresOf_8 : decode cX7_figuresOf 8 = .ok (.istore 5, 2) := by decide +kernel
theorem dX7_figuresOf_10 : decode cX7_figuresOf 10 = .ok (.iload 5, 2) := by decide +kernel
theorem dX7_figuresOf_12 : decode cX7_figuresOf 12 = .ok (.iload_n 1, 1) := by decide +kernel
theorem dX7_figuresOf_13 : decode cX7_figuresOf 13 = .ok (.if_icmp .ge 29, 3) := by decide +kernel
theorem dX7_figuresOf_16 : decode cX7_figuresOf 16 = .ok (.iload_n 2, 1) := by decide +kernel
theorem dX7_figuresOf_17 : decode cX7_figuresOf 17 = .ok (.iload 4, 2) := by decide +kernel
theorem dX7_figuresOf_19 : decode cX7_figuresOf 19 = .ok (.iconst 5, 1) := by decide +kernel
theorem dX7_figuresOf_20 : decode cX7_figuresOf 20 = .ok (.irem, 1) := by decide +kernel
theorem dX7_figuresOf_21 : decode cX7_figuresOf 21 = .ok (.iload_n 3, 1) := by decide +kernel
theorem dX7_figuresOf_22 : decode cX7_figuresOf 22 = .ok (.imul, 1) := by decide +kernel
theorem dX7_figuresOf_23 : decode cX7_figuresOf 23 = .ok (.iadd, 1) := by decide +kernel
theorem dX7_figuresOf_24 : decode cX7_figuresOf 24 = .ok (.istore_n 2, 1) := by decide +kernel
theorem dX7_figuresOf_25 : decode cX7_figuresOf 25 = .ok (.iload_n 3, 1) := by decide +kernel
theorem dX7_figuresOf_26 : decode cX7_figuresOf 26 = .ok (.bipush 10, 2) := by decide +kernel
theorem dX7_figuresOf_28 : decode cX7_figuresOf 28 = .ok (.imul, 1) := by decide +kernel
theorem dX7_figuresOf_29 : decode cX7_figuresOf 29 = .ok (.istore_n 3, 1) := by decide +kernel
theorem dX7_figuresOf_30 : decode cX7_figuresOf 30 = .ok (.iload 4, 2) := by decide +kernel
theorem dX7_figuresOf_32 : decode cX7_figuresOf 32 = .ok (.iconst 5, 1) := by decide +kernel
theorem dX7_figuresOf_33 : decode cX7_figuresOf 33 = .ok (.idiv, 1) := by decide +kernel
theorem dX7_figuresOf_34 : decode cX7_figuresOf 34 = .ok (.istore 4, 2) := by decide +kernel
theorem dX7_figuresOf_36 : decode cX7_figuresOf 36 = .ok (.iinc 5 1, 3) := by decide +kernel
theorem dX7_figuresOf_39 : decode cX7_figuresOf 39 = .ok (.goto (-29), 3) := by decide +kernel
theorem dX7_figuresOf_42 : decode cX7_figuresOf 42 = .ok (.iload_n 3, 1) := by decide +kernel
theorem dX7_figuresOf_43 : decode cX7_figuresOf 43 = .ok (.iload_n 2, 1) := by decide +kernel
theorem dX7_figuresOf_44 : decode cX7_figuresOf 44 = .ok (.iadd, 1) := by decide +kernel
theorem dX7_figuresOf_45 : decode cX7_figuresOf 45 = .ok (.ireturn, 1) := by decide +kernel
set_option maxRecDepth 20000 in
theorem ggX8_init_X3_init : GoodIn wsX8_init wsX3_init := goodIn_r _ [44, 45, 2, 3, 46, 6, 47, 110, 111, 112, 113, 114, 115, 116] rfl (by decide +kernel)
set_option maxRecDepth 20000 in
theorem gX8_init_X3_init_n34 : GoodIn wsX8_init (wsX3_init) := ggX8_init_X3_init
set_option maxRecDepth 20000 in
theorem ggX8_init_X1_init : GoodIn wsX8_init wsX1_init := goodIn_r _ [49, 50, 2, 3, 51, 4, 52, 117, 118] rfl (by decide +kernel)
set_option maxRecDepth 20000 in
theorem gX8_init_X1_init_n41 : GoodIn wsX8_init (wsX1_init) := ggX8_init_X1_init
set_option maxRecDepth 20000 in
theorem ggX8_init_X5_init : GoodIn wsX8_init wsX5_init := goodIn_r _ [54, 55, 2, 3, 4, 56, 57, 6, 58, 59, 60, 61, 62, 63, 64, 119, 120, 121, 122, 123, 124, 125, 126, 127, 128, 129] rfl (by decide +kernel)
set_option maxRecDepth 20000 in
theorem gX8_init_X5_init_n48 : GoodIn wsX8_init (wsX5_init) := ggX8_init_X5_init
set_option maxRecDepth 20000 in
theorem ggX8_init_X6_init : GoodIn wsX8_init wsX6_init := goodIn_r _ [66, 67, 2, 3, 6, 68, 69, 70, 130, 131] rfl (by decide +kernel)
set_option maxRecDepth 20000 in
theorem gX8_init_X6_init_n55 : GoodIn wsX8_init (wsX6_init) := ggX8_init_X6_init
set_option maxRecDepth 20000 in
theorem ggX8_init_X7_init : GoodIn wsX8_init wsX7_init := goodIn_r _ [72, 73, 2, 3, 74, 6, 75, 76, 77, 132, 133, 134] rfl (by decide +kernel)
set_option maxRecDepth 20000 in
theorem gX8_init_X7_init_n62 : GoodIn wsX8_init (wsX7_init) := ggX8_init_X7_init
set_option maxRecDepth 20000 in
theorem ggX8_init_X4_init : GoodIn wsX8_init wsX4_init := goodIn_r _ [79, 80, 2, 3, 4, 81, 82, 135, 136] rfl (by decide +kernel)
set_option maxRecDepth 20000 in
theorem gX8_init_X4_init_n69 : GoodIn wsX8_init (wsX4_init) := ggX8_init_X4_init
set_option maxRecDepth 20000 in
theorem ggX8_init_X2_init : GoodIn wsX8_init wsX2_init := goodIn_r _ [84, 85, 2, 3, 86, 87, 6, 88, 89, 90, 91, 137, 138, 139, 140, 141, 142] rfl (by decide +kernel)
set_option maxRecDepth 20000 in
theorem gX8_init_X2_init_n76 : GoodIn wsX8_init (wsX2_init) := ggX8_init_X2_init
theorem dX8_init_0 : decode cX8_init 0 = .ok (.aload_n 0, 1) := by decide +kernel
theorem dX8_init_1 : decode cX8_init 1 = .ok (.invokespecial 1, 3) := by decide +kernel

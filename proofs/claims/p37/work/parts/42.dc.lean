theorem dX8_init_4 : decode cX8_init 4 = .ok (.aload_n 0, 1) := by decide +kernel
theorem dX8_init_5 : decode cX8_init 5 = .ok (.bipush 8, 2) := by decide +kernel
theorem dX8_init_7 : decode cX8_init 7 = .ok (.newarray .long, 2) := by decide +kernel
theorem dX8_init_9 : decode cX8_init 9 = .ok (.putfield 9, 3) := by decide +kernel
theorem dX8_init_12 : decode cX8_init 12 = .ok (.aload_n 0, 1) := by decide +kernel
theorem dX8_init_13 : decode cX8_init 13 = .ok (.iconst 5, 1) := by decide +kernel
theorem dX8_init_14 : decode cX8_init 14 = .ok (.newarray .int, 2) := by decide +kernel
theorem dX8_init_16 : decode cX8_init 16 = .ok (.putfield 13, 3) := by decide +kernel
theorem dX8_init_19 : decode cX8_init 19 = .ok (.aload_n 0, 1) := by decide +kernel
theorem dX8_init_20 : decode cX8_init 20 = .ok (.bipush 10, 2) := by decide +kernel
theorem dX8_init_22 : decode cX8_init 22 = .ok (.newarray .int, 2) := by decide +kernel
theorem dX8_init_24 : decode cX8_init 24 = .ok (.putfield 17, 3) := by decide +kernel
theorem dX8_init_27 : decode cX8_init 27 = .ok (.aload_n 0, 1) := by decide +kernel
theorem dX8_init_28 : decode cX8_init 28 = .ok (.bipush 40, 2) := by decide +kernel
theorem dX8_init_30 : decode cX8_init 30 = .ok (.anewarray 20, 3) := by decide +kernel
theorem dX8_init_33 : decode cX8_init 33 = .ok (.putfield 22, 3) := by decide +kernel
theorem dX8_init_36 : decode cX8_init 36 = .ok (.aload_n 0, 1) := by decide +kernel
theorem dX8_init_37 : decode cX8_init 37 = .ok (.iconst 5, 1) := by decide +kernel
theorem dX8_init_38 : decode cX8_init 38 = .ok (.newarray .int, 2) := by decide +kernel
theorem dX8_init_40 : decode cX8_init 40 = .ok (.putfield 28, 3) := by decide +kernel
theorem dX8_init_43 : decode cX8_init 43 = .ok (.aload_n 0, 1) := by decide +kernel
theorem dX8_init_44 : decode cX8_init 44 = .ok (.bipush 30, 2) := by decide +kernel
theorem dX8_init_46 : decode cX8_init 46 = .ok (.newarray .int, 2) := by decide +kernel
theorem dX8_init_48 : decode cX8_init 48 = .ok (.putfield 31, 3) := by decide +kernel
theorem dX8_init_51 : decode cX8_init 51 = .ok (.aload_n 0, 1) := by decide +kernel
theorem dX8_init_52 : decode cX8_init 52 = .ok (.new 26, 3) := by decide +kernel
theorem dX8_init_55 : decode cX8_init 55 = .ok (.dup, 1) := by decide +kernel
theorem dX8_init_56 : decode cX8_init 56 = .ok (.invokespecial 34, 3) := by decide +kernel
theorem dX8_init_59 : decode cX8_init 59 = .ok (.putfield 35, 3) := by decide +kernel
theorem dX8_init_62 : decode cX8_init 62 = .ok (.aload_n 0, 1) := by decide +kernel
theorem dX8_init_63 : decode cX8_init 63 = .ok (.new 39, 3) := by decide +kernel
theorem dX8_init_66 : decode cX8_init 66 = .ok (.dup, 1) := by decide +kernel
theorem dX8_init_67 : decode cX8_init 67 = .ok (.invokespecial 41, 3) := by decide +kernel
theorem dX8_init_70 : decode cX8_init 70 = .ok (.putfield 42, 3) := by decide +kernel
theorem dX8_init_73 : decode cX8_init 73 = .ok (.aload_n 0, 1) := by decide +kernel
theorem dX8_init_74 : decode cX8_init 74 = .ok (.new 46, 3) := by decide +kernel
theorem dX8_init_77 : decode cX8_init 77 = .ok (.dup, 1) := by decide +kernel
theorem dX8_init_78 : decode cX8_init 78 = .ok (.invokespecial 48, 3) := by decide +kernel
theorem dX8_init_81 : decode cX8_init 81 = .ok (.putfield 49, 3) := by decide +kernel
theorem dX8_init_84 : decode cX8_init 84 = .ok (.aload_n 0, 1) := by decide +kernel
theorem dX8_init_85 : decode cX8_init 85 = .ok (.new 53, 3) := by decide +kernel
theorem dX8_init_88 : decode cX8_init 88 = .ok (.dup, 1) := by decide +kernel
theorem dX8_init_89 : decode cX8_init 89 = .ok (.invokespecial 55, 3) := by decide +kernel
theorem dX8_init_92 : decode cX8_init 92 = .ok (.putfield 56, 3) := by decide +kernel
theorem dX8_init_95 : decode cX8_init 95 = .ok (.aload_n 0, 1) := by decide +kernel
theorem dX8_init_96 : decode cX8_init 96 = .ok (.new 60, 3) := by decide +kernel
theorem dX8_init_99 : decode cX8_init 99 = .ok (.dup, 1) := by decide +kernel
theorem dX8_init_100 : decode cX8_init 100 = .ok (.invokespecial 62, 3) := by decide +kernel
theorem dX8_init_103 : decode cX8_init 103 = .ok (.putfield 63, 3) := by decide +kernel
theorem dX8_init_106 : decode cX8_init 106 = .ok (.aload_n 0, 1) := by decide +kernel
theorem dX8_init_107 : decode cX8_init 107 = .ok (.new 67, 3) := by decide +kernel
theorem dX8_init_110 : decode cX8_init 110 = .ok (.dup, 1) := by decide +kernel
theorem dX8_init_111 : decode cX8_init 111 = .ok (.invokespecial 69, 3) := by decide +kernel
theorem dX8_init_114 : decode cX8_init 114 = .ok (.putfield 70, 3) := by decide +kernel
theorem dX8_init_117 : decode cX8_init 117 = .ok (.aload_n 0, 1) := by decide +kernel
theorem dX8_init_118 : decode cX8_init 118 = .ok (.new 74, 3) := by decide +kernel
theorem dX8_init_121 : decode cX8_init 121 = .ok (.dup, 1) := by decide +kernel
theorem dX8_init_122 : decode cX8_init 122 = .ok (.invokespecial 76, 3) := by decide +kernel
theorem dX8_init_125 : decode cX8_init 125 = .ok (.putfield 77, 3) := by decide +kernel
theorem dX8_init_128 : decode cX8_init 128 = .ok (.aload_n 0, 1) := by decide +kernel
theorem dX8_init_129 : decode cX8_init 129 = .ok (.new 74, 3) := by decide +kernel
theorem dX8_init_132 : decode cX8_init 132 = .ok (.dup, 1) := by decide +kernel
theorem dX8_init_133 : decode cX8_init 133 = .ok (.invokespecial 76, 3) := by decide +kernel
theorem dX8_init_136 : decode cX8_init 136 = .ok (.putfield 81, 3) := by decide +kernel
theorem dX8_init_139 : decode cX8_init 139 = .ok (.aload_n 0, 1) := by decide +kernel
theorem dX8_init_140 : decode cX8_init 140 = .ok (.bipush 20, 2) := by decide +kernel
theorem dX8_init_142 : decode cX8_init 142 = .ok (.putfield 84, 3) := by decide +kernel
theorem dX8_init_145 : decode cX8_init 145 = .ok (.return_, 1) := by decide +kernel
set_option maxRecDepth 20000 in
theorem ggX8_days_X8_finding : GoodIn wsX8_days wsX8_finding := goodIn_r _ [8, 9, 10, 27, 28, 29, 30, 31, 32, 33, 34, 35, 36, 37, 38, 39, 40, 41, 42, 43, 44] rfl (by decide +kernel)
set_option maxRecDepth 20000 in
theorem gX8_days_X8_finding : GoodIn wsX8_days (wsV RX8 88 RX8 yX8_finding wsX8_finding) := goodIn_app (goodIn_of _ (by decide +kernel)) ggX8_days_X8_finding
set_option maxRecDepth 20000 in
theorem ggX8_days_X1_carryOverfills : GoodIn wsX8_days wsX1_carryOverfills := goodIn_r _ [15, 16, 17, 18, 19, 14, 20, 21, 45, 46] rfl (by decide +kernel)
set_option maxRecDepth 20000 in
theorem gX8_days_X1_carryOverfills : GoodIn wsX8_days (wsV RX8 95 RX1 yX1_carryOverfills wsX1_carryOverfills) := goodIn_app (goodIn_of _ (by decide +kernel)) ggX8_days_X1_carryOverfills
set_option maxRecDepth 20000 in
theorem ggX8_days_X1_carry : GoodIn wsX8_days wsX1_carry := goodIn_r _ [25, 16, 26, 18, 19, 14, 20, 21, 45, 46] rfl (by decide +kernel)
set_option maxRecDepth 20000 in
theorem gX8_days_X1_carry : GoodIn wsX8_days (wsV RX8 99 RX1 yX1_carry wsX1_carry) := goodIn_app (goodIn_of _ (by decide +kernel)) ggX8_days_X1_carry
theorem dX8_days_0 : decode cX8_days 0 = .ok (.iload_n 1, 1) := by decide +kernel
theorem dX8_days_1 : decode cX8_days 1 = .ok (.iconst 1, 1) := by decide +kernel
theorem dX8_days_2 : decode cX8_days 2 = .ok (.if_icmp .lt 9, 3) := by decide +kernel
theorem dX8_days_5 : decode cX8_days 5 = .ok (.iload_n 1, 1) := by decide +kernel
theorem dX8_days_6 : decode cX8_days 6 = .ok (.bipush 60, 2) := by decide +kernel
theorem dX8_days_8 : decode cX8_days 8 = .ok (.if_icmp .le 9, 3) := by decide +kernel
theorem dX8_days_11 : decode cX8_days 11 = .ok (.aload_n 0, 1) := by decide +kernel
theorem dX8_days_12 : decode cX8_days 12 = .ok (.iconst 1, 1) := by decide +kernel
theorem dX8_days_13 : decode cX8_days 13 = .ok (.invokevirtual 88, 3) := by decide +kernel
theorem dX8_days_16 : decode cX8_days 16 = .ok (.lreturn, 1) := by decide +kernel
theorem dX8_days_17 : decode cX8_days 17 = .ok (.iconst 0, 1) := by decide +kernel
theorem dX8_days_18 : decode cX8_days 18 = .ok (.istore_n 2, 1) := by decide +kernel
theorem dX8_days_19 : decode cX8_days 19 = .ok (.iload_n 2, 1) := by decide +kernel
theorem dX8_days_20 : decode cX8_days 20 = .ok (.iload_n 1, 1) := by decide +kernel
theorem dX8_days_21 : decode cX8_days 21 = .ok (.if_icmp .ge 62, 3) := by decide +kernel
theorem dX8_days_24 : decode cX8_days 24 = .ok (.aload_n 0, 1) := by decide +kernel
theorem dX8_days_25 : decode cX8_days 25 = .ok (.getfield 92, 3) := by decide +kernel
theorem dX8_days_28 : decode cX8_days 28 = .ok (.bipush 28, 2) := by decide +kernel
theorem dX8_days_30 : decode cX8_days 30 = .ok (.irem, 1) := by decide +kernel
theorem dX8_days_31 : decode cX8_days 31 = .ok (.bipush 27, 2) := by decide +kernel
theorem dX8_days_33 : decode cX8_days 33 = .ok (.if_icmp .ne 34, 3) := by decide +kernel
theorem dX8_days_36 : decode cX8_days 36 = .ok (.aload_n 0, 1) := by decide +kernel
theorem dX8_days_37 : decode cX8_days 37 = .ok (.getfield 42, 3) := by decide +kernel
theorem dX8_days_40 : decode cX8_days 40 = .ok (.aload_n 0, 1) := by decide +kernel
theorem dX8_days_41 : decode cX8_days 41 = .ok (.getfield 84, 3) := by decide +kernel
theorem dX8_days_44 : decode cX8_days 44 = .ok (.invokevirtual 95, 3) := by decide +kernel
theorem dX8_days_47 : decode cX8_days 47 = .ok (.ifCond .eq 9, 3) := by decide +kernel
theorem dX8_days_50 : decode cX8_days 50 = .ok (.aload_n 0, 1) := by decide +kernel
theorem dX8_days_51 : decode cX8_days 51 = .ok (.iconst 4, 1) := by decide +kernel
theorem dX8_days_52 : decode cX8_days 52 = .ok (.invokevirtual 88, 3) := by decide +kernel
theorem dX8_days_55 : decode cX8_days 55 = .ok (.lreturn, 1) := by decide +kernel
theorem dX8_days_56 : decode cX8_days 56 = .ok (.aload_n 0, 1) := by decide +kernel
theorem dX8_days_57 : decode cX8_days 57 = .ok (.getfield 42, 3) := by decide +kernel
theorem dX8_days_60 : decode cX8_days 60 = .ok (.aload_n 0, 1) := by decide +kernel
theorem dX8_days_61 : decode cX8_days 61 = .ok (.getfield 84, 3) := by decide +kernel
theorem dX8_days_64 : decode cX8_days 64 = .ok (.invokevirtual 99, 3) := by decide +kernel
theorem dX8_days_67 : decode cX8_days 67 = .ok (.aload_n 0, 1) := by decide +kernel
theorem dX8_days_68 : decode cX8_days 68 = .ok (.dup, 1) := by decide +kernel
theorem dX8_days_69 : decode cX8_days 69 = .ok (.getfield 92, 3) := by decide +kernel
theorem dX8_days_72 : decode cX8_days 72 = .ok (.iconst 1, 1) := by decide +kernel
theorem dX8_days_73 : decode cX8_days 73 = .ok (.iadd, 1) := by decide +kernel
theorem dX8_days_74 : decode cX8_days 74 = .ok (.putfield 92, 3) := by decide +kernel
theorem dX8_days_77 : decode cX8_days 77 = .ok (.iinc 2 1, 3) := by decide +kernel
theorem dX8_days_80 : decode cX8_days 80 = .ok (.goto (-61), 3) := by decide +kernel
theorem dX8_days_83 : decode cX8_days 83 = .ok (.aload_n 0, 1) := by decide +kernel
theorem dX8_days_84 : decode cX8_days 84 = .ok (.getfield 92, 3) := by decide +kernel
theorem dX8_days_87 : decode cX8_days 87 = .ok (.i2l, 1) := by decide +kernel
theorem dX8_days_88 : decode cX8_days 88 = .ok (.lreturn, 1) := by decide +kernel
set_option maxRecDepth 20000 in
theorem ggX8_gain_X8_finding : GoodIn wsX8_gain wsX8_finding := goodIn_r _ [6, 7, 8, 9, 10, 11, 12, 13, 14, 15, 16, 17, 18, 19, 20, 21, 22, 23, 24, 25, 26] rfl (by decide +kernel)
set_option maxRecDepth 20000 in
theorem gX8_gain_X8_finding : GoodIn wsX8_gain (wsV RX8 88 RX8 yX8_finding wsX8_finding) := goodIn_app (goodIn_of _ (by decide +kernel)) ggX8_gain_X8_finding
theorem dX8_gain_0 : decode cX8_gain 0 = .ok (.iload_n 1, 1) := by decide +kernel
theorem dX8_gain_1 : decode cX8_gain 1 = .ok (.ifCond .lt 10, 3) := by decide +kernel
theorem dX8_gain_4 : decode cX8_gain 4 = .ok (.iload_n 1, 1) := by decide +kernel
theorem dX8_gain_5 : decode cX8_gain 5 = .ok (.sipush 200, 3) := by decide +kernel
theorem dX8_gain_8 : decode cX8_gain 8 = .ok (.if_icmp .le 9, 3) := by decide +kernel
theorem dX8_gain_11 : decode cX8_gain 11 = .ok (.aload_n 0, 1) := by decide +kernel
theorem dX8_gain_12 : decode cX8_gain 12 = .ok (.iconst 1, 1) := by decide +kernel
theorem dX8_gain_13 : decode cX8_gain 13 = .ok (.invokevirtual 88, 3) := by decide +kernel
theorem dX8_gain_16 : decode cX8_gain 16 = .ok (.lreturn, 1) := by decide +kernel
theorem dX8_gain_17 : decode cX8_gain 17 = .ok (.aload_n 0, 1) := by decide +kernel
theorem dX8_gain_18 : decode cX8_gain 18 = .ok (.getfield 84, 3) := by decide +kernel
theorem dX8_gain_21 : decode cX8_gain 21 = .ok (.istore_n 2, 1) := by decide +kernel
theorem dX8_gain_22 : decode cX8_gain 22 = .ok (.aload_n 0, 1) := by decide +kernel
theorem dX8_gain_23 : decode cX8_gain 23 = .ok (.iload_n 1, 1) := by decide +kernel
theorem dX8_gain_24 : decode cX8_gain 24 = .ok (.putfield 84, 3) := by decide +kernel
theorem dX8_gain_27 : decode cX8_gain 27 = .ok (.iload_n 2, 1) := by decide +kernel
theorem dX8_gain_28 : decode cX8_gain 28 = .ok (.i2l, 1) := by decide +kernel
theorem dX8_gain_29 : decode cX8_gain 29 = .ok (.lreturn, 1) := by decide +kernel
set_option maxRecDepth 20000 in
theorem ggX8_road_X8_isTown : GoodIn wsX8_road wsX8_isTown := goodIn_r _ [5] rfl (by decide +kernel)
set_option maxRecDepth 20000 in
theorem gX8_road_X8_isTown : GoodIn wsX8_road (va_wsS RX8 103 yX8_isTown wsX8_isTown) := goodIn_app (goodIn_of _ (by decide +kernel)) ggX8_road_X8_isTown
set_option maxRecDepth 20000 in
theorem ggX8_road_X8_finding : GoodIn wsX8_road wsX8_finding := goodIn_r _ [9, 10, 11, 12, 13, 14, 15, 16, 17, 18, 19, 20, 21, 22, 23, 24, 25, 26, 27, 28, 29] rfl (by decide +kernel)
set_option maxRecDepth 20000 in
theorem gX8_road_X8_finding : GoodIn wsX8_road (wsV RX8 88 RX8 yX8_finding wsX8_finding) := goodIn_app (goodIn_of _ (by decide +kernel)) ggX8_road_X8_finding
theorem dX8_road_0 : decode cX8_road 0 = .ok (.iload_n 1, 1) := by decide +kernel
theorem dX8_road_1 : decode cX8_road 1 = .ok (.ifCond .eq 20, 3) := by decide +kernel
theorem dX8_road_4 : decode cX8_road 4 = .ok (.iload_n 1, 1) := by decide +kernel
theorem dX8_road_5 : decode cX8_road 5 = .ok (.invokestatic 103, 3) := by decide +kernel
theorem dX8_road_8 : decode cX8_road 8 = .ok (.ifCond .eq 13, 3) := by decide +kernel
theorem dX8_road_11 : decode cX8_road 11 = .ok (.iload_n 2, 1) := by decide +kernel
theorem dX8_road_12 : decode cX8_road 12 = .ok (.ifCond .lt 9, 3) := by decide +kernel
theorem dX8_road_15 : decode cX8_road 15 = .ok (.iload_n 2, 1) := by decide +kernel
theorem dX8_road_16 : decode cX8_road 16 = .ok (.bipush 30, 2) := by decide +kernel
theorem dX8_road_18 : decode cX8_road 18 = .ok (.if_icmp .le 9, 3) := by decide +kernel
theorem dX8_road_21 : decode cX8_road 21 = .ok (.aload_n 0, 1) := by decide +kernel
theorem dX8_road_22 : decode cX8_road 22 = .ok (.iconst 1, 1) := by decide +kernel
theorem dX8_road_23 : decode cX8_road 23 = .ok (.invokevirtual 88, 3) := by decide +kernel
theorem dX8_road_26 : decode cX8_road 26 = .ok (.lreturn, 1) := by decide +kernel
theorem dX8_road_27 : decode cX8_road 27 = .ok (.aload_n 0, 1) := by decide +kernel
theorem dX8_road_28 : decode cX8_road 28 = .ok (.getfield 13, 3) := by decide +kernel
theorem dX8_road_31 : decode cX8_road 31 = .ok (.iload_n 1, 1) := by decide +kernel
theorem dX8_road_32 : decode cX8_road 32 = .ok (.iaload, 1) := by decide +kernel
theorem dX8_road_33 : decode cX8_road 33 = .ok (.istore_n 3, 1) := by decide +kernel
theorem dX8_road_34 : decode cX8_road 34 = .ok (.aload_n 0, 1) := by decide +kernel
theorem dX8_road_35 : decode cX8_road 35 = .ok (.getfield 13, 3) := by decide +kernel
theorem dX8_road_38 : decode cX8_road 38 = .ok (.iload_n 1, 1) := by decide +kernel
theorem dX8_road_39 : decode cX8_road 39 = .ok (.iload_n 2, 1) := by decide +kernel
theorem dX8_road_40 : decode cX8_road 40 = .ok (.iastore, 1) := by decide +kernel
theorem dX8_road_41 : decode cX8_road 41 = .ok (.iload_n 3, 1) := by decide +kernel
theorem dX8_road_42 : decode cX8_road 42 = .ok (.i2l, 1) := by decide +kernel
theorem dX8_road_43 : decode cX8_road 43 = .ok (.lreturn, 1) := by decide +kernel
set_option maxRecDepth 20000 in
theorem ggX8_seat_X8_isHouse : GoodIn wsX8_seat wsX8_isHouse := goodIn_r _ [5] rfl (by decide +kernel)
set_option maxRecDepth 20000 in
theorem gX8_seat_X8_isHouse : GoodIn wsX8_seat (va_wsS RX8 106 yX8_isHouse wsX8_isHouse) := goodIn_app (goodIn_of _ (by decide +kernel)) ggX8_seat_X8_isHouse
set_option maxRecDepth 20000 in
theorem ggX8_seat_X8_isTown : GoodIn wsX8_seat wsX8_isTown := goodIn_r _ [8] rfl (by decide +kernel)
set_option maxRecDepth 20000 in
theorem gX8_seat_X8_isTown : GoodIn wsX8_seat (va_wsS RX8 103 yX8_isTown wsX8_isTown) := goodIn_app (goodIn_of _ (by decide +kernel)) ggX8_seat_X8_isTown
set_option maxRecDepth 20000 in
theorem ggX8_seat_X8_finding : GoodIn wsX8_seat wsX8_finding := goodIn_r _ [12, 13, 14, 15, 16, 17, 18, 19, 20, 21, 22, 23, 24, 25, 26, 27, 28, 29, 30, 31, 32] rfl (by decide +kernel)
set_option maxRecDepth 20000 in
theorem gX8_seat_X8_finding : GoodIn wsX8_seat (wsV RX8 88 RX8 yX8_finding wsX8_finding) := goodIn_app (goodIn_of _ (by decide +kernel)) ggX8_seat_X8_finding
theorem dX8_seat_0 : decode cX8_seat 0 = .ok (.iload_n 1, 1) := by decide +kernel
theorem dX8_seat_1 : decode cX8_seat 1 = .ok (.invokestatic 106, 3) := by decide +kernel
theorem dX8_seat_4 : decode cX8_seat 4 = .ok (.ifCond .eq 10, 3) := by decide +kernel
theorem dX8_seat_7 : decode cX8_seat 7 = .ok (.iload_n 2, 1) := by decide +kernel
theorem dX8_seat_8 : decode cX8_seat 8 = .ok (.invokestatic 103, 3) := by decide +kernel
theorem dX8_seat_11 : decode cX8_seat 11 = .ok (.ifCond .ne 9, 3) := by decide +kernel
theorem dX8_seat_14 : decode cX8_seat 14 = .ok (.aload_n 0, 1) := by decide +kernel
theorem dX8_seat_15 : decode cX8_seat 15 = .ok (.iconst 1, 1) := by decide +kernel
theorem dX8_seat_16 : decode cX8_seat 16 = .ok (.invokevirtual 88, 3) := by decide +kernel
theorem dX8_seat_19 : decode cX8_seat 19 = .ok (.lreturn, 1) := by decide +kernel
theorem dX8_seat_20 : decode cX8_seat 20 = .ok (.aload_n 0, 1) := by decide +kernel
theorem dX8_seat_21 : decode cX8_seat 21 = .ok (.getfield 17, 3) := by decide +kernel
theorem dX8_seat_24 : decode cX8_seat 24 = .ok (.iload_n 1, 1) := by decide +kernel
theorem dX8_seat_25 : decode cX8_seat 25 = .ok (.iaload, 1) := by decide +kernel
theorem dX8_seat_26 : decode cX8_seat 26 = .ok (.istore_n 3, 1) := by decide +kernel
theorem dX8_seat_27 : decode cX8_seat 27 = .ok (.aload_n 0, 1) := by decide +kernel
theorem dX8_seat_28 : decode cX8_seat 28 = .ok (.getfield 17, 3) := by decide +kernel
theorem dX8_seat_31 : decode cX8_seat 31 = .ok (.iload_n 1, 1) := by decide +kernel
theorem dX8_seat_32 : decode cX8_seat 32 = .ok (.iload_n 2, 1) := by decide +kernel
theorem dX8_seat_33 : decode cX8_seat 33 = .ok (.iastore, 1) := by decide +kernel
theorem dX8_seat_34 : decode cX8_seat 34 = .ok (.iload_n 3, 1) := by decide +kernel
theorem dX8_seat_35 : decode cX8_seat 35 = .ok (.i2l, 1) := by decide +kernel
theorem dX8_seat_36 : decode cX8_seat 36 = .ok (.lreturn, 1) := by decide +kernel
set_option maxRecDepth 20000 in
theorem ggX8_draw_X8_isBillKind : GoodIn wsX8_draw wsX8_isBillKind := goodIn_r _ [11] rfl (by decide +kernel)
set_option maxRecDepth 20000 in
theorem gX8_draw_X8_isBillKind : GoodIn wsX8_draw (va_wsS RX8 109 yX8_isBillKind wsX8_isBillKind) := goodIn_app (goodIn_of _ (by decide +kernel)) ggX8_draw_X8_isBillKind
set_option maxRecDepth 20000 in
theorem ggX8_draw_X8_isHouse : GoodIn wsX8_draw wsX8_isHouse := goodIn_r _ [14] rfl (by decide +kernel)
set_option maxRecDepth 20000 in
theorem gX8_draw_X8_isHouse : GoodIn wsX8_draw (va_wsS RX8 106 yX8_isHouse wsX8_isHouse) := goodIn_app (goodIn_of _ (by decide +kernel)) ggX8_draw_X8_isHouse
set_option maxRecDepth 20000 in
theorem ggX8_draw_X8_finding : GoodIn wsX8_draw wsX8_finding := goodIn_r _ [18, 19, 20, 40, 41, 42, 43, 44, 45, 46, 47, 48, 49, 50, 51, 52, 53, 54, 55, 56, 57] rfl (by decide +kernel)
set_option maxRecDepth 20000 in
theorem gX8_draw_X8_finding : GoodIn wsX8_draw (wsV RX8 88 RX8 yX8_finding wsX8_finding) := goodIn_app (goodIn_of _ (by decide +kernel)) ggX8_draw_X8_finding
set_option maxRecDepth 20000 in
theorem ggX8_draw_X0_init : GoodIn wsX8_draw wsX0_init := goodIn_r _ [23, 24, 25, 26, 27, 28, 29, 30, 31, 32, 33, 34, 58, 59, 60, 61, 62, 63, 64, 65, 66, 67] rfl (by decide +kernel)
set_option maxRecDepth 20000 in
theorem gX8_draw_X0_init : GoodIn wsX8_draw (wsX0_init) := ggX8_draw_X0_init
set_option maxRecDepth 20000 in
theorem ggX8_draw_X0_become : GoodIn wsX8_draw wsX0_become := goodIn_r _ [38, 39, 29, 58, 59, 60, 61, 62, 63, 64, 65, 66, 67] rfl (by decide +kernel)
set_option maxRecDepth 20000 in
theorem gX8_draw_X0_become : GoodIn wsX8_draw (wsV RX8 119 RX0 yX0_become wsX0_become) := goodIn_app (goodIn_of _ (by decide +kernel)) ggX8_draw_X0_become
theorem dX8_draw_0 : decode cX8_draw 0 = .ok (.iload_n 1, 1) := by decide +kernel
theorem dX8_draw_1 : decode cX8_draw 1 = .ok (.invokestatic 109, 3) := by decide +kernel
theorem dX8_draw_4 : decode cX8_draw 4 = .ok (.ifCond .eq 38, 3) := by decide +kernel
theorem dX8_draw_7 : decode cX8_draw 7 = .ok (.iload_n 2, 1) := by decide +kernel
theorem dX8_draw_8 : decode cX8_draw 8 = .ok (.invokestatic 106, 3) := by decide +kernel
theorem dX8_draw_11 : decode cX8_draw 11 = .ok (.ifCond .eq 31, 3) := by decide +kernel
theorem dX8_draw_14 : decode cX8_draw 14 = .ok (.iload_n 3, 1) := by decide +kernel
theorem dX8_draw_15 : decode cX8_draw 15 = .ok (.invokestatic 106, 3) := by decide +kernel
theorem dX8_draw_18 : decode cX8_draw 18 = .ok (.ifCond .eq 24, 3) := by decide +kernel
theorem dX8_draw_21 : decode cX8_draw 21 = .ok (.iload 4, 2) := by decide +kernel
theorem dX8_draw_23 : decode cX8_draw 23 = .ok (.invokestatic 106, 3) := by decide +kernel
theorem dX8_draw_26 : decode cX8_draw 26 = .ok (.ifCond .eq 16, 3) := by decide +kernel
theorem dX8_draw_29 : decode cX8_draw 29 = .ok (.iload 5, 2) := by decide +kernel
theorem dX8_draw_31 : decode cX8_draw 31 = .ok (.iconst 1, 1) := by decide +kernel
theorem dX8_draw_32 : decode cX8_draw 32 = .ok (.if_icmp .lt 10, 3) := by decide +kernel
theorem dX8_draw_35 : decode cX8_draw 35 = .ok (.iload 5, 2) := by decide +kernel
theorem dX8_draw_37 : decode cX8_draw 37 = .ok (.ldc 112, 2) := by decide +kernel
theorem dX8_draw_39 : decode cX8_draw 39 = .ok (.if_icmp .le 9, 3) := by decide +kernel
theorem dX8_draw_42 : decode cX8_draw 42 = .ok (.aload_n 0, 1) := by decide +kernel
theorem dX8_draw_43 : decode cX8_draw 43 = .ok (.iconst 1, 1) := by decide +kernel
theorem dX8_draw_44 : decode cX8_draw 44 = .ok (.invokevirtual 88, 3) := by decide +kernel
theorem dX8_draw_47 : decode cX8_draw 47 = .ok (.lreturn, 1) := by decide +kernel
theorem dX8_draw_48 : decode cX8_draw 48 = .ok (.iload_n 2, 1) := by decide +kernel
theorem dX8_draw_49 : decode cX8_draw 49 = .ok (.iload 4, 2) := by decide +kernel
theorem dX8_draw_51 : decode cX8_draw 51 = .ok (.if_icmp .ne 9, 3) := by decide +kernel
theorem dX8_draw_54 : decode cX8_draw 54 = .ok (.aload_n 0, 1) := by decide +kernel
theorem dX8_draw_55 : decode cX8_draw 55 = .ok (.iconst 5, 1) := by decide +kernel
theorem dX8_draw_56 : decode cX8_draw 56 = .ok (.invokevirtual 88, 3) := by decide +kernel
theorem dX8_draw_59 : decode cX8_draw 59 = .ok (.lreturn, 1) := by decide +kernel
theorem dX8_draw_60 : decode cX8_draw 60 = .ok (.aload_n 0, 1) := by decide +kernel
theorem dX8_draw_61 : decode cX8_draw 61 = .ok (.getfield 113, 3) := by decide +kernel
theorem dX8_draw_64 : decode cX8_draw 64 = .ok (.bipush 40, 2) := by decide +kernel
theorem dX8_draw_66 : decode cX8_draw 66 = .ok (.if_icmp .lt 9, 3) := by decide +kernel
theorem dX8_draw_69 : decode cX8_draw 69 = .ok (.aload_n 0, 1) := by decide +kernel
theorem dX8_draw_70 : decode cX8_draw 70 = .ok (.iconst 4, 1) := by decide +kernel
theorem dX8_draw_71 : decode cX8_draw 71 = .ok (.invokevirtual 88, 3) := by decide +kernel
theorem dX8_draw_74 : decode cX8_draw 74 = .ok (.lreturn, 1) := by decide +kernel
theorem dX8_draw_75 : decode cX8_draw 75 = .ok (.new 20, 3) := by decide +kernel
theorem dX8_draw_78 : decode cX8_draw 78 = .ok (.dup, 1) := by decide +kernel
theorem dX8_draw_79 : decode cX8_draw 79 = .ok (.iload_n 1, 1) := by decide +kernel
theorem dX8_draw_80 : decode cX8_draw 80 = .ok (.iload_n 2, 1) := by decide +kernel
theorem dX8_draw_81 : decode cX8_draw 81 = .ok (.iload_n 3, 1) := by decide +kernel
theorem dX8_draw_82 : decode cX8_draw 82 = .ok (.iload 4, 2) := by decide +kernel
theorem dX8_draw_84 : decode cX8_draw 84 = .ok (.iload 5, 2) := by decide +kernel
theorem dX8_draw_86 : decode cX8_draw 86 = .ok (.invokespecial 116, 3) := by decide +kernel
theorem dX8_draw_89 : decode cX8_draw 89 = .ok (.astore 6, 2) := by decide +kernel
theorem dX8_draw_91 : decode cX8_draw 91 = .ok (.aload 6, 2) := by decide +kernel
theorem dX8_draw_93 : decode cX8_draw 93 = .ok (.iconst 0, 1) := by decide +kernel
theorem dX8_draw_94 : decode cX8_draw 94 = .ok (.aload_n 0, 1) := by decide +kernel
theorem dX8_draw_95 : decode cX8_draw 95 = .ok (.getfield 92, 3) := by decide +kernel
theorem dX8_draw_98 : decode cX8_draw 98 = .ok (.invokevirtual 119, 3) := by decide +kernel
theorem dX8_draw_101 : decode cX8_draw 101 = .ok (.aload_n 0, 1) := by decide +kernel
theorem dX8_draw_102 : decode cX8_draw 102 = .ok (.getfield 22, 3) := by decide +kernel
theorem dX8_draw_105 : decode cX8_draw 105 = .ok (.aload_n 0, 1) := by decide +kernel
theorem dX8_draw_106 : decode cX8_draw 106 = .ok (.getfield 113, 3) := by decide +kernel
theorem dX8_draw_109 : decode cX8_draw 109 = .ok (.aload 6, 2) := by decide +kernel
theorem dX8_draw_111 : decode cX8_draw 111 = .ok (.aastore, 1) := by decide +kernel
theorem dX8_draw_112 : decode cX8_draw 112 = .ok (.aload_n 0, 1) := by decide +kernel
theorem dX8_draw_113 : decode cX8_draw 113 = .ok (.dup, 1) := by decide +kernel
theorem dX8_draw_114 : decode cX8_draw 114 = .ok (.getfield 113, 3) := by decide +kernel
theorem dX8_draw_117 : decode cX8_draw 117 = .ok (.iconst 1, 1) := by decide +kernel
theorem dX8_draw_118 : decode cX8_draw 118 = .ok (.iadd, 1) := by decide +kernel
theorem dX8_draw_119 : decode cX8_draw 119 = .ok (.putfield 113, 3) := by decide +kernel
theorem dX8_draw_122 : decode cX8_draw 122 = .ok (.aload_n 0, 1) := by decide +kernel
theorem dX8_draw_123 : decode cX8_draw 123 = .ok (.getfield 113, 3) := by decide +kernel
theorem dX8_draw_126 : decode cX8_draw 126 = .ok (.iconst 1, 1) := by decide +kernel
theorem dX8_draw_127 : decode cX8_draw 127 = .ok (.isub, 1) := by decide +kernel
theorem dX8_draw_128 : decode cX8_draw 128 = .ok (.i2l, 1) := by decide +kernel
theorem dX8_draw_129 : decode cX8_draw 129 = .ok (.lreturn, 1) := by decide +kernel
set_option maxRecDepth 20000 in
theorem ggX8_pass_X8_billAt : GoodIn wsX8_pass wsX8_billAt := goodIn_r _ [8, 9, 10, 43, 44, 45, 46, 47, 48, 49, 50, 51, 52, 53, 54, 55, 56, 57, 58, 59, 60] rfl (by decide +kernel)
set_option maxRecDepth 20000 in
theorem gX8_pass_X8_billAt : GoodIn wsX8_pass (wsV RX8 123 RX8 yX8_billAt wsX8_billAt) := goodIn_app (goodIn_of _ (by decide +kernel)) ggX8_pass_X8_billAt
set_option maxRecDepth 20000 in
theorem ggX8_pass_X8_isHouse : GoodIn wsX8_pass wsX8_isHouse := goodIn_r _ [13] rfl (by decide +kernel)
set_option maxRecDepth 20000 in
theorem gX8_pass_X8_isHouse : GoodIn wsX8_pass (va_wsS RX8 106 yX8_isHouse wsX8_isHouse) := goodIn_app (goodIn_of _ (by decide +kernel)) ggX8_pass_X8_isHouse
set_option maxRecDepth 20000 in
theorem ggX8_pass_X8_finding : GoodIn wsX8_pass wsX8_finding := goodIn_r _ [17, 18, 19, 43, 44, 45, 46, 47, 48, 49, 50, 51, 52, 53, 54, 55, 56, 57, 58, 59, 60] rfl (by decide +kernel)
set_option maxRecDepth 20000 in
theorem gX8_pass_X8_finding : GoodIn wsX8_pass (wsV RX8 88 RX8 yX8_finding wsX8_finding) := goodIn_app (goodIn_of _ (by decide +kernel)) ggX8_pass_X8_finding
set_option maxRecDepth 20000 in
theorem ggX8_pass_X0_hasRoomToPass : GoodIn wsX8_pass wsX0_hasRoomToPass := goodIn_r _ [24, 25, 26, 33, 34, 35, 36, 37, 38, 39, 40, 41, 42] rfl (by decide +kernel)
set_option maxRecDepth 20000 in
theorem gX8_pass_X0_hasRoomToPass : GoodIn wsX8_pass (wsV RX8 133 RX0 yX0_hasRoomToPass wsX0_hasRoomToPass) := goodIn_app (goodIn_of _ (by decide +kernel)) ggX8_pass_X0_hasRoomToPass
set_option maxRecDepth 20000 in
theorem ggX8_pass_X0_moveTo : GoodIn wsX8_pass wsX0_moveTo := goodIn_r _ [30, 25, 26, 31, 32, 33, 34, 35, 36, 37, 38, 39, 40, 41, 42] rfl (by decide +kernel)
set_option maxRecDepth 20000 in
theorem gX8_pass_X0_moveTo : GoodIn wsX8_pass (wsV RX8 137 RX0 yX0_moveTo wsX0_moveTo) := goodIn_app (goodIn_of _ (by decide +kernel)) ggX8_pass_X0_moveTo
theorem dX8_pass_0 : decode cX8_pass 0 = .ok (.aload_n 0, 1) := by decide +kernel
theorem dX8_pass_1 : decode cX8_pass 1 = .ok (.iload_n 1, 1) := by decide +kernel
theorem dX8_pass_2 : decode cX8_pass 2 = .ok (.invokevirtual 123, 3) := by decide +kernel
theorem dX8_pass_5 : decode cX8_pass 5 = .ok (.astore_n 3, 1) := by decide +kernel
theorem dX8_pass_6 : decode cX8_pass 6 = .ok (.aload_n 3, 1) := by decide +kernel
theorem dX8_pass_7 : decode cX8_pass 7 = .ok (.ifnull 10, 3) := by decide +kernel
theorem dX8_pass_10 : decode cX8_pass 10 = .ok (.iload_n 2, 1) := by decide +kernel
theorem dX8_pass_11 : decode cX8_pass 11 = .ok (.invokestatic 106, 3) := by decide +kernel
theorem dX8_pass_14 : decode cX8_pass 14 = .ok (.ifCond .ne 9, 3) := by decide +kernel
theorem dX8_pass_17 : decode cX8_pass 17 = .ok (.aload_n 0, 1) := by decide +kernel
theorem dX8_pass_18 : decode cX8_pass 18 = .ok (.iconst 1, 1) := by decide +kernel
theorem dX8_pass_19 : decode cX8_pass 19 = .ok (.invokevirtual 88, 3) := by decide +kernel
theorem dX8_pass_22 : decode cX8_pass 22 = .ok (.lreturn, 1) := by decide +kernel
theorem dX8_pass_23 : decode cX8_pass 23 = .ok (.aload_n 3, 1) := by decide +kernel
theorem dX8_pass_24 : decode cX8_pass 24 = .ok (.getfield 127, 3) := by decide +kernel
theorem dX8_pass_27 : decode cX8_pass 27 = .ok (.ifCond .eq 17, 3) := by decide +kernel
theorem dX8_pass_30 : decode cX8_pass 30 = .ok (.aload_n 3, 1) := by decide +kernel
theorem dX8_pass_31 : decode cX8_pass 31 = .ok (.getfield 127, 3) := by decide +kernel
theorem dX8_pass_34 : decode cX8_pass 34 = .ok (.iconst 1, 1) := by decide +kernel
theorem dX8_pass_35 : decode cX8_pass 35 = .ok (.if_icmp .eq 9, 3) := by decide +kernel
theorem dX8_pass_38 : decode cX8_pass 38 = .ok (.aload_n 0, 1) := by decide +kernel
theorem dX8_pass_39 : decode cX8_pass 39 = .ok (.iconst 3, 1) := by decide +kernel
theorem dX8_pass_40 : decode cX8_pass 40 = .ok (.invokevirtual 88, 3) := by decide +kernel
theorem dX8_pass_43 : decode cX8_pass 43 = .ok (.lreturn, 1) := by decide +kernel
theorem dX8_pass_44 : decode cX8_pass 44 = .ok (.aload_n 3, 1) := by decide +kernel
theorem dX8_pass_45 : decode cX8_pass 45 = .ok (.getfield 130, 3) := by decide +kernel
theorem dX8_pass_48 : decode cX8_pass 48 = .ok (.iload_n 2, 1) := by decide +kernel
theorem dX8_pass_49 : decode cX8_pass 49 = .ok (.if_icmp .ne 9, 3) := by decide +kernel
theorem dX8_pass_52 : decode cX8_pass 52 = .ok (.aload_n 0, 1) := by decide +kernel
theorem dX8_pass_53 : decode cX8_pass 53 = .ok (.iconst 5, 1) := by decide +kernel
theorem dX8_pass_54 : decode cX8_pass 54 = .ok (.invokevirtual 88, 3) := by decide +kernel
theorem dX8_pass_57 : decode cX8_pass 57 = .ok (.lreturn, 1) := by decide +kernel
theorem dX8_pass_58 : decode cX8_pass 58 = .ok (.aload_n 3, 1) := by decide +kernel
theorem dX8_pass_59 : decode cX8_pass 59 = .ok (.invokevirtual 133, 3) := by decide +kernel
theorem dX8_pass_62 : decode cX8_pass 62 = .ok (.ifCond .ne 9, 3) := by decide +kernel
theorem dX8_pass_65 : decode cX8_pass 65 = .ok (.aload_n 0, 1) := by decide +kernel
theorem dX8_pass_66 : decode cX8_pass 66 = .ok (.iconst 4, 1) := by decide +kernel
theorem dX8_pass_67 : decode cX8_pass 67 = .ok (.invokevirtual 88, 3) := by decide +kernel
theorem dX8_pass_70 : decode cX8_pass 70 = .ok (.lreturn, 1) := by decide +kernel
theorem dX8_pass_71 : decode cX8_pass 71 = .ok (.aload_n 3, 1) := by decide +kernel
theorem dX8_pass_72 : decode cX8_pass 72 = .ok (.iload_n 2, 1) := by decide +kernel
theorem dX8_pass_73 : decode cX8_pass 73 = .ok (.invokevirtual 137, 3) := by decide +kernel
theorem dX8_pass_76 : decode cX8_pass 76 = .ok (.aload_n 3, 1) := by decide +kernel
theorem dX8_pass_77 : decode cX8_pass 77 = .ok (.getfield 140, 3) := by decide +kernel
theorem dX8_pass_80 : decode cX8_pass 80 = .ok (.i2l, 1) := by decide +kernel
theorem dX8_pass_81 : decode cX8_pass 81 = .ok (.lreturn, 1) := by decide +kernel
set_option maxRecDepth 20000 in
theorem ggX8_take_X8_billAt : GoodIn wsX8_take wsX8_billAt := goodIn_r _ [7, 8, 9, 37, 38, 39, 40, 41, 42, 43, 44, 45, 46, 47, 48, 49, 50, 51, 52, 53, 54] rfl (by decide +kernel)
set_option maxRecDepth 20000 in
theorem gX8_take_X8_billAt : GoodIn wsX8_take (wsV RX8 123 RX8 yX8_billAt wsX8_billAt) := goodIn_app (goodIn_of _ (by decide +kernel)) ggX8_take_X8_billAt
set_option maxRecDepth 20000 in
theorem ggX8_take_X8_finding : GoodIn wsX8_take wsX8_finding := goodIn_r _ [13, 14, 15, 37, 38, 39, 40, 41, 42, 43, 44, 45, 46, 47, 48, 49, 50, 51, 52, 53, 54] rfl (by decide +kernel)
set_option maxRecDepth 20000 in
theorem gX8_take_X8_finding : GoodIn wsX8_take (wsV RX8 88 RX8 yX8_finding wsX8_finding) := goodIn_app (goodIn_of _ (by decide +kernel)) ggX8_take_X8_finding
set_option maxRecDepth 20000 in
theorem ggX8_take_X8_isTakingDay : GoodIn wsX8_take wsX8_isTakingDay := goodIn_r _ [19, 2, 37, 38, 39, 40, 41, 42, 43, 44, 45, 46, 47, 48, 49, 50, 51, 52, 53, 54] rfl (by decide +kernel)
set_option maxRecDepth 20000 in
theorem gX8_take_X8_isTakingDay : GoodIn wsX8_take (wsV RX8 143 RX8 yX8_isTakingDay wsX8_isTakingDay) := goodIn_app (goodIn_of _ (by decide +kernel)) ggX8_take_X8_isTakingDay
set_option maxRecDepth 20000 in
theorem ggX8_take_X0_become : GoodIn wsX8_take wsX0_become := goodIn_r _ [24, 25, 26, 27, 28, 29, 30, 31, 32, 33, 34, 35, 36] rfl (by decide +kernel)
set_option maxRecDepth 20000 in
theorem gX8_take_X0_become : GoodIn wsX8_take (wsV RX8 119 RX0 yX0_become wsX0_become) := goodIn_app (goodIn_of _ (by decide +kernel)) ggX8_take_X0_become
theorem dX8_take_0 : decode cX8_take 0 = .ok (.aload_n 0, 1) := by decide +kernel
theorem dX8_take_1 : decode cX8_take 1 = .ok (.iload_n 1, 1) := by decide +kernel
theorem dX8_take_2 : decode cX8_take 2 = .ok (.invokevirtual 123, 3) := by decide +kernel
theorem dX8_take_5 : decode cX8_take 5 = .ok (.astore_n 3, 1) := by decide +kernel
theorem dX8_take_6 : decode cX8_take 6 = .ok (.aload_n 3, 1) := by decide +kernel
theorem dX8_take_7 : decode cX8_take 7 = .ok (.ifnonnull 9, 3) := by decide +kernel
theorem dX8_take_10 : decode cX8_take 10 = .ok (.aload_n 0, 1) := by decide +kernel
theorem dX8_take_11 : decode cX8_take 11 = .ok (.iconst 1, 1) := by decide +kernel
theorem dX8_take_12 : decode cX8_take 12 = .ok (.invokevirtual 88, 3) := by decide +kernel
theorem dX8_take_15 : decode cX8_take 15 = .ok (.lreturn, 1) := by decide +kernel
theorem dX8_take_16 : decode cX8_take 16 = .ok (.aload_n 3, 1) := by decide +kernel
theorem dX8_take_17 : decode cX8_take 17 = .ok (.getfield 127, 3) := by decide +kernel
theorem dX8_take_20 : decode cX8_take 20 = .ok (.ifCond .eq 9, 3) := by decide +kernel
theorem dX8_take_23 : decode cX8_take 23 = .ok (.aload_n 0, 1) := by decide +kernel
theorem dX8_take_24 : decode cX8_take 24 = .ok (.iconst 3, 1) := by decide +kernel
theorem dX8_take_25 : decode cX8_take 25 = .ok (.invokevirtual 88, 3) := by decide +kernel
theorem dX8_take_28 : decode cX8_take 28 = .ok (.lreturn, 1) := by decide +kernel
theorem dX8_take_29 : decode cX8_take 29 = .ok (.aload_n 0, 1) := by decide +kernel
theorem dX8_take_30 : decode cX8_take 30 = .ok (.invokevirtual 143, 3) := by decide +kernel
theorem dX8_take_33 : decode cX8_take 33 = .ok (.ifCond .ne 10, 3) := by decide +kernel
theorem dX8_take_36 : decode cX8_take 36 = .ok (.aload_n 0, 1) := by decide +kernel
theorem dX8_take_37 : decode cX8_take 37 = .ok (.bipush 7, 2) := by decide +kernel
theorem dX8_take_39 : decode cX8_take 39 = .ok (.invokevirtual 88, 3) := by decide +kernel
theorem dX8_take_42 : decode cX8_take 42 = .ok (.lreturn, 1) := by decide +kernel
theorem dX8_take_43 : decode cX8_take 43 = .ok (.aload_n 3, 1) := by decide +kernel
theorem dX8_take_44 : decode cX8_take 44 = .ok (.iload_n 2, 1) := by decide +kernel
theorem dX8_take_45 : decode cX8_take 45 = .ok (.ifCond .eq 7, 3) := by decide +kernel
theorem dX8_take_48 : decode cX8_take 48 = .ok (.iconst 2, 1) := by decide +kernel
theorem dX8_take_49 : decode cX8_take 49 = .ok (.goto 4, 3) := by decide +kernel
theorem dX8_take_52 : decode cX8_take 52 = .ok (.iconst 1, 1) := by decide +kernel
theorem dX8_take_53 : decode cX8_take 53 = .ok (.aload_n 0, 1) := by decide +kernel
theorem dX8_take_54 : decode cX8_take 54 = .ok (.getfield 92, 3) := by decide +kernel
theorem dX8_take_57 : decode cX8_take 57 = .ok (.invokevirtual 119, 3) := by decide +kernel
theorem dX8_take_60 : decode cX8_take 60 = .ok (.aload_n 3, 1) := by decide +kernel
theorem dX8_take_61 : decode cX8_take 61 = .ok (.getfield 127, 3) := by decide +kernel
theorem dX8_take_64 : decode cX8_take 64 = .ok (.i2l, 1) := by decide +kernel
theorem dX8_take_65 : decode cX8_take 65 = .ok (.lreturn, 1) := by decide +kernel
set_option maxRecDepth 20000 in
theorem ggX8_pay_X8_billAt : GoodIn wsX8_pay wsX8_billAt := goodIn_r _ [11, 12, 13, 69, 70, 71, 72, 73, 74, 75, 76, 77, 78, 79, 80, 81, 82, 83, 84, 85, 86] rfl (by decide +kernel)
set_option maxRecDepth 20000 in
theorem gX8_pay_X8_billAt : GoodIn wsX8_pay (wsV RX8 123 RX8 yX8_billAt wsX8_billAt) := goodIn_app (goodIn_of _ (by decide +kernel)) ggX8_pay_X8_billAt
set_option maxRecDepth 20000 in
theorem ggX8_pay_X8_finding : GoodIn wsX8_pay wsX8_finding := goodIn_r _ [17, 18, 19, 69, 70, 71, 72, 73, 74, 75, 76, 77, 78, 79, 80, 81, 82, 83, 84, 85, 86] rfl (by decide +kernel)
set_option maxRecDepth 20000 in
theorem gX8_pay_X8_finding : GoodIn wsX8_pay (wsV RX8 88 RX8 yX8_finding wsX8_finding) := goodIn_app (goodIn_of _ (by decide +kernel)) ggX8_pay_X8_finding
set_option maxRecDepth 20000 in
theorem ggX8_pay_X8_isTakingDay : GoodIn wsX8_pay wsX8_isTakingDay := goodIn_r _ [23, 3, 69, 70, 71, 72, 73, 74, 75, 76, 77, 78, 79, 80, 81, 82, 83, 84, 85, 86] rfl (by decide +kernel)
set_option maxRecDepth 20000 in
theorem gX8_pay_X8_isTakingDay : GoodIn wsX8_pay (wsV RX8 143 RX8 yX8_isTakingDay wsX8_isTakingDay) := goodIn_app (goodIn_of _ (by decide +kernel)) ggX8_pay_X8_isTakingDay
set_option maxRecDepth 20000 in
theorem ggX8_pay_X8_overfills : GoodIn wsX8_pay wsX8_overfills := goodIn_r _ [27, 5, 28, 6, 29, 30, 31, 32, 33, 34, 35, 36, 37, 38, 39, 59, 60, 61, 62, 63, 64, 65, 66, 67, 68, 69, 70, 71, 72, 73, 74, 75, 76, 77, 78, 79, 80, 81, 82, 83, 84, 85, 86, 87, 88] rfl (by decide +kernel)
set_option maxRecDepth 20000 in
theorem gX8_pay_X8_overfills : GoodIn wsX8_pay (wsV RX8 149 RX8 yX8_overfills wsX8_overfills) := goodIn_app (goodIn_of _ (by decide +kernel)) ggX8_pay_X8_overfills
set_option maxRecDepth 20000 in
theorem ggX8_pay_X8_charge : GoodIn wsX8_pay wsX8_charge := goodIn_r _ [43, 5, 28, 6, 44, 45, 46, 32, 47, 34, 48, 49, 37, 50, 51, 59, 60, 61, 62, 63, 64, 65, 66, 67, 68, 69, 70, 71, 72, 73, 74, 75, 76, 77, 78, 79, 80, 81, 82, 83, 84, 85, 86, 87, 88] rfl (by decide +kernel)
set_option maxRecDepth 20000 in
theorem gX8_pay_X8_charge : GoodIn wsX8_pay (wsV RX8 153 RX8 yX8_charge wsX8_charge) := goodIn_app (goodIn_of _ (by decide +kernel)) ggX8_pay_X8_charge
set_option maxRecDepth 20000 in
theorem ggX8_pay_X0_become : GoodIn wsX8_pay wsX0_become := goodIn_r _ [56, 57, 58, 59, 60, 61, 62, 63, 64, 65, 66, 67, 68] rfl (by decide +kernel)
set_option maxRecDepth 20000 in
theorem gX8_pay_X0_become : GoodIn wsX8_pay (wsV RX8 119 RX0 yX0_become wsX0_become) := goodIn_app (goodIn_of _ (by decide +kernel)) ggX8_pay_X0_become
theorem dX8_pay_0 : decode cX8_pay 0 = .ok (.aload_n 0, 1) := by decide +kernel
theorem dX8_pay_1 : decode cX8_pay 1 = .ok (.iload_n 1, 1) := by decide +kernel
theorem dX8_pay_2 : decode cX8_pay 2 = .ok (.invokevirtual 123, 3) := by decide +kernel
theorem dX8_pay_5 : decode cX8_pay 5 = .ok (.astore_n 2, 1) := by decide +kernel
theorem dX8_pay_6 : decode cX8_pay 6 = .ok (.aload_n 2, 1) := by decide +kernel
theorem dX8_pay_7 : decode cX8_pay 7 = .ok (.ifnonnull 9, 3) := by decide +kernel
theorem dX8_pay_10 : decode cX8_pay 10 = .ok (.aload_n 0, 1) := by decide +kernel
theorem dX8_pay_11 : decode cX8_pay 11 = .ok (.iconst 1, 1) := by decide +kernel
theorem dX8_pay_12 : decode cX8_pay 12 = .ok (.invokevirtual 88, 3) := by decide +kernel
theorem dX8_pay_15 : decode cX8_pay 15 = .ok (.lreturn, 1) := by decide +kernel
theorem dX8_pay_16 : decode cX8_pay 16 = .ok (.aload_n 2, 1) := by decide +kernel
theorem dX8_pay_17 : decode cX8_pay 17 = .ok (.getfield 127, 3) := by decide +kernel
theorem dX8_pay_20 : decode cX8_pay 20 = .ok (.iconst 1, 1) := by decide +kernel
theorem dX8_pay_21 : decode cX8_pay 21 = .ok (.if_icmp .eq 9, 3) := by decide +kernel
theorem dX8_pay_24 : decode cX8_pay 24 = .ok (.aload_n 0, 1) := by decide +kernel
theorem dX8_pay_25 : decode cX8_pay 25 = .ok (.iconst 3, 1) := by decide +kernel
theorem dX8_pay_26 : decode cX8_pay 26 = .ok (.invokevirtual 88, 3) := by decide +kernel
theorem dX8_pay_29 : decode cX8_pay 29 = .ok (.lreturn, 1) := by decide +kernel
theorem dX8_pay_30 : decode cX8_pay 30 = .ok (.aload_n 0, 1) := by decide +kernel
theorem dX8_pay_31 : decode cX8_pay 31 = .ok (.invokevirtual 143, 3) := by decide +kernel
theorem dX8_pay_34 : decode cX8_pay 34 = .ok (.ifCond .eq 10, 3) := by decide +kernel
theorem dX8_pay_37 : decode cX8_pay 37 = .ok (.aload_n 0, 1) := by decide +kernel
theorem dX8_pay_38 : decode cX8_pay 38 = .ok (.bipush 7, 2) := by decide +kernel
theorem dX8_pay_40 : decode cX8_pay 40 = .ok (.invokevirtual 88, 3) := by decide +kernel
theorem dX8_pay_43 : decode cX8_pay 43 = .ok (.lreturn, 1) := by decide +kernel
theorem dX8_pay_44 : decode cX8_pay 44 = .ok (.aload_n 0, 1) := by decide +kernel
theorem dX8_pay_45 : decode cX8_pay 45 = .ok (.aload_n 2, 1) := by decide +kernel
theorem dX8_pay_46 : decode cX8_pay 46 = .ok (.aload_n 2, 1) := by decide +kernel
theorem dX8_pay_47 : decode cX8_pay 47 = .ok (.getfield 146, 3) := by decide +kernel
theorem dX8_pay_50 : decode cX8_pay 50 = .ok (.invokevirtual 149, 3) := by decide +kernel
theorem dX8_pay_53 : decode cX8_pay 53 = .ok (.ifCond .eq 9, 3) := by decide +kernel
theorem dX8_pay_56 : decode cX8_pay 56 = .ok (.aload_n 0, 1) := by decide +kernel
theorem dX8_pay_57 : decode cX8_pay 57 = .ok (.iconst 4, 1) := by decide +kernel
theorem dX8_pay_58 : decode cX8_pay 58 = .ok (.invokevirtual 88, 3) := by decide +kernel
theorem dX8_pay_61 : decode cX8_pay 61 = .ok (.lreturn, 1) := by decide +kernel
theorem dX8_pay_62 : decode cX8_pay 62 = .ok (.aload_n 0, 1) := by decide +kernel
theorem dX8_pay_63 : decode cX8_pay 63 = .ok (.aload_n 2, 1) := by decide +kernel
theorem dX8_pay_64 : decode cX8_pay 64 = .ok (.aload_n 2, 1) := by decide +kernel
theorem dX8_pay_65 : decode cX8_pay 65 = .ok (.getfield 146, 3) := by decide +kernel
theorem dX8_pay_68 : decode cX8_pay 68 = .ok (.invokevirtual 153, 3) := by decide +kernel
theorem dX8_pay_71 : decode cX8_pay 71 = .ok (.aload_n 2, 1) := by decide +kernel
theorem dX8_pay_72 : decode cX8_pay 72 = .ok (.iconst 4, 1) := by decide +kernel
theorem dX8_pay_73 : decode cX8_pay 73 = .ok (.aload_n 0, 1) := by decide +kernel
theorem dX8_pay_74 : decode cX8_pay 74 = .ok (.getfield 92, 3) := by decide +kernel
theorem dX8_pay_77 : decode cX8_pay 77 = .ok (.invokevirtual 119, 3) := by decide +kernel
theorem dX8_pay_80 : decode cX8_pay 80 = .ok (.aload_n 2, 1) := by decide +kernel
theorem dX8_pay_81 : decode cX8_pay 81 = .ok (.iconst 1, 1) := by decide +kernel
theorem dX8_pay_82 : decode cX8_pay 82 = .ok (.putfield 157, 3) := by decide +kernel
theorem dX8_pay_85 : decode cX8_pay 85 = .ok (.aload_n 2, 1) := by decide +kernel
theorem dX8_pay_86 : decode cX8_pay 86 = .ok (.getfield 146, 3) := by decide +kernel
theorem dX8_pay_89 : decode cX8_pay 89 = .ok (.aload_n 2, 1) := by decide +kernel
theorem dX8_pay_90 : decode cX8_pay 90 = .ok (.getfield 130, 3) := by decide +kernel
theorem dX8_pay_93 : decode cX8_pay 93 = .ok (.if_icmp .ne 7, 3) := by decide +kernel
theorem dX8_pay_96 : decode cX8_pay 96 = .ok (.lconst 0, 1) := by decide +kernel
theorem dX8_pay_97 : decode cX8_pay 97 = .ok (.goto 8, 3) := by decide +kernel
theorem dX8_pay_100 : decode cX8_pay 100 = .ok (.aload_n 2, 1) := by decide +kernel
theorem dX8_pay_101 : decode cX8_pay 101 = .ok (.getfield 161, 3) := by decide +kernel
theorem dX8_pay_104 : decode cX8_pay 104 = .ok (.i2l, 1) := by decide +kernel
theorem dX8_pay_105 : decode cX8_pay 105 = .ok (.lreturn, 1) := by decide +kernel
set_option maxRecDepth 20000 in
theorem ggX8_protest_X8_billAt : GoodIn wsX8_protest wsX8_billAt := goodIn_r _ [7, 8, 9, 37, 38, 39, 40, 41, 42, 43, 44, 45, 46, 47, 48, 49, 50, 51, 52, 53, 54] rfl (by decide +kernel)
set_option maxRecDepth 20000 in
theorem gX8_protest_X8_billAt : GoodIn wsX8_protest (wsV RX8 123 RX8 yX8_billAt wsX8_billAt) := goodIn_app (goodIn_of _ (by decide +kernel)) ggX8_protest_X8_billAt
set_option maxRecDepth 20000 in
theorem ggX8_protest_X8_finding : GoodIn wsX8_protest wsX8_finding := goodIn_r _ [13, 14, 15, 37, 38, 39, 40, 41, 42, 43, 44, 45, 46, 47, 48, 49, 50, 51, 52, 53, 54] rfl (by decide +kernel)
set_option maxRecDepth 20000 in
theorem gX8_protest_X8_finding : GoodIn wsX8_protest (wsV RX8 88 RX8 yX8_finding wsX8_finding) := goodIn_app (goodIn_of _ (by decide +kernel)) ggX8_protest_X8_finding
set_option maxRecDepth 20000 in
theorem ggX8_protest_X0_become : GoodIn wsX8_protest wsX0_become := goodIn_r _ [20, 21, 22, 27, 28, 29, 30, 31, 32, 33, 34, 35, 36] rfl (by decide +kernel)
set_option maxRecDepth 20000 in
theorem gX8_protest_X0_become : GoodIn wsX8_protest (wsV RX8 119 RX0 yX0_become wsX0_become) := goodIn_app (goodIn_of _ (by decide +kernel)) ggX8_protest_X0_become
set_option maxRecDepth 20000 in
theorem ggX8_protest_X0_daysLate : GoodIn wsX8_protest wsX0_daysLate := goodIn_r _ [26, 22, 27, 28, 29, 30, 31, 32, 33, 34, 35, 36] rfl (by decide +kernel)
set_option maxRecDepth 20000 in
theorem gX8_protest_X0_daysLate : GoodIn wsX8_protest (wsV RX8 164 RX0 yX0_daysLate wsX0_daysLate) := goodIn_app (goodIn_of _ (by decide +kernel)) ggX8_protest_X0_daysLate
theorem dX8_protest_0 : decode cX8_protest 0 = .ok (.aload_n 0, 1) := by decide +kernel
theorem dX8_protest_1 : decode cX8_protest 1 = .ok (.iload_n 1, 1) := by decide +kernel
theorem dX8_protest_2 : decode cX8_protest 2 = .ok (.invokevirtual 123, 3) := by decide +kernel
theorem dX8_protest_5 : decode cX8_protest 5 = .ok (.astore_n 2, 1) := by decide +kernel
theorem dX8_protest_6 : decode cX8_protest 6 = .ok (.aload_n 2, 1) := by decide +kernel
theorem dX8_protest_7 : decode cX8_protest 7 = .ok (.ifnonnull 9, 3) := by decide +kernel
theorem dX8_protest_10 : decode cX8_protest 10 = .ok (.aload_n 0, 1) := by decide +kernel
theorem dX8_protest_11 : decode cX8_protest 11 = .ok (.iconst 1, 1) := by decide +kernel
theorem dX8_protest_12 : decode cX8_protest 12 = .ok (.invokevirtual 88, 3) := by decide +kernel
theorem dX8_protest_15 : decode cX8_protest 15 = .ok (.lreturn, 1) := by decide +kernel
theorem dX8_protest_16 : decode cX8_protest 16 = .ok (.aload_n 2, 1) := by decide +kernel
theorem dX8_protest_17 : decode cX8_protest 17 = .ok (.getfield 127, 3) := by decide +kernel
theorem dX8_protest_20 : decode cX8_protest 20 = .ok (.iconst 2, 1) := by decide +kernel
theorem dX8_protest_21 : decode cX8_protest 21 = .ok (.if_icmp .eq 9, 3) := by decide +kernel
theorem dX8_protest_24 : decode cX8_protest 24 = .ok (.aload_n 0, 1) := by decide +kernel
theorem dX8_protest_25 : decode cX8_protest 25 = .ok (.iconst 3, 1) := by decide +kernel
theorem dX8_protest_26 : decode cX8_protest 26 = .ok (.invokevirtual 88, 3) := by decide +kernel
theorem dX8_protest_29 : decode cX8_protest 29 = .ok (.lreturn, 1) := by decide +kernel
theorem dX8_protest_30 : decode cX8_protest 30 = .ok (.aload_n 2, 1) := by decide +kernel
theorem dX8_protest_31 : decode cX8_protest 31 = .ok (.iconst 3, 1) := by decide +kernel
theorem dX8_protest_32 : decode cX8_protest 32 = .ok (.aload_n 0, 1) := by decide +kernel
theorem dX8_protest_33 : decode cX8_protest 33 = .ok (.getfield 92, 3) := by decide +kernel
theorem dX8_protest_36 : decode cX8_protest 36 = .ok (.invokevirtual 119, 3) := by decide +kernel
theorem dX8_protest_39 : decode cX8_protest 39 = .ok (.aload_n 2, 1) := by decide +kernel
theorem dX8_protest_40 : decode cX8_protest 40 = .ok (.invokevirtual 164, 3) := by decide +kernel
theorem dX8_protest_43 : decode cX8_protest 43 = .ok (.i2l, 1) := by decide +kernel
theorem dX8_protest_44 : decode cX8_protest 44 = .ok (.lreturn, 1) := by decide +kernel
set_option maxRecDepth 20000 in
theorem ggX8_recourse_X8_billAt : GoodIn wsX8_recourse wsX8_billAt := goodIn_r _ [8, 9, 10, 119, 120, 121, 122, 123, 124, 125, 126, 127, 128, 129, 130, 131, 132, 133, 134, 135, 136] rfl (by decide +kernel)
set_option maxRecDepth 20000 in
theorem gX8_recourse_X8_billAt : GoodIn wsX8_recourse (wsV RX8 123 RX8 yX8_billAt wsX8_billAt) := goodIn_app (goodIn_of _ (by decide +kernel)) ggX8_recourse_X8_billAt
set_option maxRecDepth 20000 in
theorem ggX8_recourse_X8_finding : GoodIn wsX8_recourse wsX8_finding := goodIn_r _ [14, 15, 16, 119, 120, 121, 122, 123, 124, 125, 126, 127, 128, 129, 130, 131, 132, 133, 134, 135, 136] rfl (by decide +kernel)
set_option maxRecDepth 20000 in
theorem gX8_recourse_X8_finding : GoodIn wsX8_recourse (wsV RX8 88 RX8 yX8_finding wsX8_finding) := goodIn_app (goodIn_of _ (by decide +kernel)) ggX8_recourse_X8_finding
set_option maxRecDepth 20000 in
theorem ggX8_recourse_X0_hasEndorser : GoodIn wsX8_recourse wsX0_hasEndorser := goodIn_r _ [21, 22, 109, 110, 111, 112, 113, 114, 115, 116, 117, 118] rfl (by decide +kernel)
set_option maxRecDepth 20000 in
theorem gX8_recourse_X0_hasEndorser : GoodIn wsX8_recourse (wsV RX8 168 RX0 yX0_hasEndorser wsX0_hasEndorser) := goodIn_app (goodIn_of _ (by decide +kernel)) ggX8_recourse_X0_hasEndorser
set_option maxRecDepth 20000 in
theorem ggX8_recourse_X8_bindsEndorser : GoodIn wsX8_recourse wsX8_bindsEndorser := goodIn_r _ [26, 27, 28, 29, 30, 31, 20, 32, 33, 34, 35, 36, 37, 38, 39, 40, 41, 7, 42, 43, 44, 45, 46, 47, 48, 49, 50, 51, 52, 53, 54, 55, 56, 57, 58, 59, 60, 61, 62, 63, 64, 65, 66, 67, 68, 109, 110, 111, 112, 113, 114, 115, 116, 117, 118, 119, 120, 121, 122, 123, 124, 125, 126, 127, 128, 129, 130, 131, 132, 133, 134, 135, 136, 137, 138, 139, 140, 141, 142] rfl (by decide +kernel)
set_option maxRecDepth 20000 in
theorem gX8_recourse_X8_bindsEndorser : GoodIn wsX8_recourse (wsV RX8 171 RX8 yX8_bindsEndorser wsX8_bindsEndorser) := goodIn_app (goodIn_of _ (by decide +kernel)) ggX8_recourse_X8_bindsEndorser
set_option maxRecDepth 20000 in
theorem ggX8_recourse_X0_endorserAt : GoodIn wsX8_recourse wsX0_endorserAt := goodIn_r _ [37, 38, 109, 110, 111, 112, 113, 114, 115, 116, 117, 118] rfl (by decide +kernel)
set_option maxRecDepth 20000 in
theorem gX8_recourse_X0_endorserAt : GoodIn wsX8_recourse (wsV RX8 177 RX0 yX0_endorserAt wsX0_endorserAt) := goodIn_app (goodIn_of _ (by decide +kernel)) ggX8_recourse_X0_endorserAt
set_option maxRecDepth 20000 in
theorem ggX8_recourse_X8_overfills : GoodIn wsX8_recourse wsX8_overfills := goodIn_r _ [72, 73, 74, 27, 75, 76, 77, 78, 79, 80, 81, 82, 83, 84, 85, 109, 110, 111, 112, 113, 114, 115, 116, 117, 118, 119, 120, 121, 122, 123, 124, 125, 126, 127, 128, 129, 130, 131, 132, 133, 134, 135, 136, 143, 144] rfl (by decide +kernel)
set_option maxRecDepth 20000 in
theorem gX8_recourse_X8_overfills : GoodIn wsX8_recourse (wsV RX8 149 RX8 yX8_overfills wsX8_overfills) := goodIn_app (goodIn_of _ (by decide +kernel)) ggX8_recourse_X8_overfills
set_option maxRecDepth 20000 in
theorem ggX8_recourse_X8_charge : GoodIn wsX8_recourse wsX8_charge := goodIn_r _ [89, 73, 74, 27, 90, 91, 92, 78, 93, 80, 94, 95, 83, 96, 97, 109, 110, 111, 112, 113, 114, 115, 116, 117, 118, 119, 120, 121, 122, 123, 124, 125, 126, 127, 128, 129, 130, 131, 132, 133, 134, 135, 136, 143, 144] rfl (by decide +kernel)
set_option maxRecDepth 20000 in
theorem gX8_recourse_X8_charge : GoodIn wsX8_recourse (wsV RX8 153 RX8 yX8_charge wsX8_charge) := goodIn_app (goodIn_of _ (by decide +kernel)) ggX8_recourse_X8_charge
set_option maxRecDepth 20000 in
theorem ggX8_recourse_X0_become : GoodIn wsX8_recourse wsX0_become := goodIn_r _ [101, 102, 33, 109, 110, 111, 112, 113, 114, 115, 116, 117, 118] rfl (by decide +kernel)
set_option maxRecDepth 20000 in
theorem gX8_recourse_X0_become : GoodIn wsX8_recourse (wsV RX8 119 RX0 yX0_become wsX0_become) := goodIn_app (goodIn_of _ (by decide +kernel)) ggX8_recourse_X0_become
set_option maxRecDepth 20000 in
theorem ggX8_recourse_X0_returnTo : GoodIn wsX8_recourse wsX0_returnTo := goodIn_r _ [106, 38, 107, 22, 108, 18, 19, 20, 21, 109, 110, 111, 112, 113, 114, 115, 116, 117, 118] rfl (by decide +kernel)
set_option maxRecDepth 20000 in
theorem gX8_recourse_X0_returnTo : GoodIn wsX8_recourse (wsV RX8 181 RX0 yX0_returnTo wsX0_returnTo) := goodIn_app (goodIn_of _ (by decide +kernel)) ggX8_recourse_X0_returnTo
theorem dX8_recourse_0 : decode cX8_recourse 0 = .ok (.aload_n 0, 1) := by decide +kernel
theorem dX8_recourse_1 : decode cX8_recourse 1 = .ok (.iload_n 1, 1) := by decide +kernel
theorem dX8_recourse_2 : decode cX8_recourse 2 = .ok (.invokevirtual 123, 3) := by decide +kernel
theorem dX8_recourse_5 : decode cX8_recourse 5 = .ok (.astore_n 3, 1) := by decide +kernel
theorem dX8_recourse_6 : decode cX8_recourse 6 = .ok (.aload_n 3, 1) := by decide +kernel
theorem dX8_recourse_7 : decode cX8_recourse 7 = .ok (.ifnonnull 9, 3) := by decide +kernel
theorem dX8_recourse_10 : decode cX8_recourse 10 = .ok (.aload_n 0, 1) := by decide +kernel
theorem dX8_recourse_11 : decode cX8_recourse 11 = .ok (.iconst 1, 1) := by decide +kernel
theorem dX8_recourse_12 : decode cX8_recourse 12 = .ok (.invokevirtual 88, 3) := by decide +kernel
theorem dX8_recourse_15 : decode cX8_recourse 15 = .ok (.lreturn, 1) := by decide +kernel
theorem dX8_recourse_16 : decode cX8_recourse 16 = .ok (.aload_n 3, 1) := by decide +kernel
theorem dX8_recourse_17 : decode cX8_recourse 17 = .ok (.getfield 127, 3) := by decide +kernel
theorem dX8_recourse_20 : decode cX8_recourse 20 = .ok (.iconst 3, 1) := by decide +kernel
theorem dX8_recourse_21 : decode cX8_recourse 21 = .ok (.if_icmp .eq 9, 3) := by decide +kernel
theorem dX8_recourse_24 : decode cX8_recourse 24 = .ok (.aload_n 0, 1) := by decide +kernel
theorem dX8_recourse_25 : decode cX8_recourse 25 = .ok (.iconst 3, 1) := by decide +kernel
theorem dX8_recourse_26 : decode cX8_recourse 26 = .ok (.invokevirtual 88, 3) := by decide +kernel
theorem dX8_recourse_29 : decode cX8_recourse 29 = .ok (.lreturn, 1) := by decide +kernel
theorem dX8_recourse_30 : decode cX8_recourse 30 = .ok (.iload_n 2, 1) := by decide +kernel
theorem dX8_recourse_31 : decode cX8_recourse 31 = .ok (.iconst (-1), 1) := by decide +kernel
theorem dX8_recourse_32 : decode cX8_recourse 32 = .ok (.if_icmp .eq 17, 3) := by decide +kernel
theorem dX8_recourse_35 : decode cX8_recourse 35 = .ok (.aload_n 3, 1) := by decide +kernel
theorem dX8_recourse_36 : decode cX8_recourse 36 = .ok (.iload_n 2, 1) := by decide +kernel
theorem dX8_recourse_37 : decode cX8_recourse 37 = .ok (.invokevirtual 168, 3) := by decide +kernel
theorem dX8_recourse_40 : decode cX8_recourse 40 = .ok (.ifCond .ne 9, 3) := by decide +kernel
theorem dX8_recourse_43 : decode cX8_recourse 43 = .ok (.aload_n 0, 1) := by decide +kernel
theorem dX8_recourse_44 : decode cX8_recourse 44 = .ok (.iconst 2, 1) := by decide +kernel
theorem dX8_recourse_45 : decode cX8_recourse 45 = .ok (.invokevirtual 88, 3) := by decide +kernel
theorem dX8_recourse_48 : decode cX8_recourse 48 = .ok (.lreturn, 1) := by decide +kernel
theorem dX8_recourse_49 : decode cX8_recourse 49 = .ok (.iload_n 2, 1) := by decide +kernel
theorem dX8_recourse_50 : decode cX8_recourse 50 = .ok (.iconst (-1), 1) := by decide +kernel
theorem dX8_recourse_51 : decode cX8_recourse 51 = .ok (.if_icmp .eq 18, 3) := by decide +kernel
theorem dX8_recourse_54 : decode cX8_recourse 54 = .ok (.aload_n 0, 1) := by decide +kernel
theorem dX8_recourse_55 : decode cX8_recourse 55 = .ok (.aload_n 3, 1) := by decide +kernel
theorem dX8_recourse_56 : decode cX8_recourse 56 = .ok (.iload_n 2, 1) := by decide +kernel
theorem dX8_recourse_57 : decode cX8_recourse 57 = .ok (.invokevirtual 171, 3) := by decide +kernel
theorem dX8_recourse_60 : decode cX8_recourse 60 = .ok (.ifCond .ne 9, 3) := by decide +kernel
theorem dX8_recourse_63 : decode cX8_recourse 63 = .ok (.aload_n 0, 1) := by decide +kernel
theorem dX8_recourse_64 : decode cX8_recourse 64 = .ok (.iconst 5, 1) := by decide +kernel
theorem dX8_recourse_65 : decode cX8_recourse 65 = .ok (.invokevirtual 88, 3) := by decide +kernel
theorem dX8_recourse_68 : decode cX8_recourse 68 = .ok (.lreturn, 1) := by decide +kernel
theorem dX8_recourse_69 : decode cX8_recourse 69 = .ok (.iload_n 2, 1) := by decide +kernel
theorem dX8_recourse_70 : decode cX8_recourse 70 = .ok (.iconst (-1), 1) := by decide +kernel
theorem dX8_recourse_71 : decode cX8_recourse 71 = .ok (.if_icmp .ne 10, 3) := by decide +kernel
theorem dX8_recourse_74 : decode cX8_recourse 74 = .ok (.aload_n 3, 1) := by decide +kernel
theorem dX8_recourse_75 : decode cX8_recourse 75 = .ok (.getfield 174, 3) := by decide +kernel
theorem dX8_recourse_78 : decode cX8_recourse 78 = .ok (.goto 8, 3) := by decide +kernel
theorem dX8_recourse_81 : decode cX8_recourse 81 = .ok (.aload_n 3, 1) := by decide +kernel
theorem dX8_recourse_82 : decode cX8_recourse 82 = .ok (.iload_n 2, 1) := by decide +kernel
theorem dX8_recourse_83 : decode cX8_recourse 83 = .ok (.invokevirtual 177, 3) := by decide +kernel
theorem dX8_recourse_86 : decode cX8_recourse 86 = .ok (.istore 4, 2) := by decide +kernel
theorem dX8_recourse_88 : decode cX8_recourse 88 = .ok (.aload_n 0, 1) := by decide +kernel
theorem dX8_recourse_89 : decode cX8_recourse 89 = .ok (.aload_n 3, 1) := by decide +kernel
theorem dX8_recourse_90 : decode cX8_recourse 90 = .ok (.iload 4, 2) := by decide +kernel
theorem dX8_recourse_92 : decode cX8_recourse 92 = .ok (.invokevirtual 149, 3) := by decide +kernel
theorem dX8_recourse_95 : decode cX8_recourse 95 = .ok (.ifCond .eq 9, 3) := by decide +kernel
theorem dX8_recourse_98 : decode cX8_recourse 98 = .ok (.aload_n 0, 1) := by decide +kernel
theorem dX8_recourse_99 : decode cX8_recourse 99 = .ok (.iconst 4, 1) := by decide +kernel
theorem dX8_recourse_100 : decode cX8_recourse 100 = .ok (.invokevirtual 88, 3) := by decide +kernel
theorem dX8_recourse_103 : decode cX8_recourse 103 = .ok (.lreturn, 1) := by decide +kernel
theorem dX8_recourse_104 : decode cX8_recourse 104 = .ok (.aload_n 0, 1) := by decide +kernel
theorem dX8_recourse_105 : decode cX8_recourse 105 = .ok (.aload_n 3, 1) := by decide +kernel
theorem dX8_recourse_106 : decode cX8_recourse 106 = .ok (.iload 4, 2) := by decide +kernel
theorem dX8_recourse_108 : decode cX8_recourse 108 = .ok (.invokevirtual 153, 3) := by decide +kernel
theorem dX8_recourse_111 : decode cX8_recourse 111 = .ok (.iload_n 2, 1) := by decide +kernel
theorem dX8_recourse_112 : decode cX8_recourse 112 = .ok (.iconst (-1), 1) := by decide +kernel
theorem dX8_recourse_113 : decode cX8_recourse 113 = .ok (.if_icmp .ne 15, 3) := by decide +kernel
theorem dX8_recourse_116 : decode cX8_recourse 116 = .ok (.aload_n 3, 1) := by decide +kernel
theorem dX8_recourse_117 : decode cX8_recourse 117 = .ok (.iconst 4, 1) := by decide +kernel
theorem dX8_recourse_118 : decode cX8_recourse 118 = .ok (.aload_n 0, 1) := by decide +kernel
theorem dX8_recourse_119 : decode cX8_recourse 119 = .ok (.getfield 92, 3) := by decide +kernel
theorem dX8_recourse_122 : decode cX8_recourse 122 = .ok (.invokevirtual 119, 3) := by decide +kernel
theorem dX8_recourse_125 : decode cX8_recourse 125 = .ok (.goto 8, 3) := by decide +kernel
theorem dX8_recourse_128 : decode cX8_recourse 128 = .ok (.aload_n 3, 1) := by decide +kernel
theorem dX8_recourse_129 : decode cX8_recourse 129 = .ok (.iload_n 2, 1) := by decide +kernel
theorem dX8_recourse_130 : decode cX8_recourse 130 = .ok (.invokevirtual 181, 3) := by decide +kernel
theorem dX8_recourse_133 : decode cX8_recourse 133 = .ok (.iload 4, 2) := by decide +kernel
theorem dX8_recourse_135 : decode cX8_recourse 135 = .ok (.i2l, 1) := by decide +kernel
theorem dX8_recourse_136 : decode cX8_recourse 136 = .ok (.lreturn, 1) := by decide +kernel
set_option maxRecDepth 20000 in
theorem ggX8_about_X8_billAt : GoodIn wsX8_about wsX8_billAt := goodIn_r _ [12, 13, 14, 48, 49, 50, 51, 52, 53, 54, 55, 56, 57, 58, 59, 60, 61, 62, 63, 64, 65] rfl (by decide +kernel)
set_option maxRecDepth 20000 in
theorem gX8_about_X8_billAt : GoodIn wsX8_about (wsV RX8 123 RX8 yX8_billAt wsX8_billAt) := goodIn_app (goodIn_of _ (by decide +kernel)) ggX8_about_X8_billAt
set_option maxRecDepth 20000 in
theorem ggX8_about_X8_finding : GoodIn wsX8_about wsX8_finding := goodIn_r _ [18, 19, 20, 48, 49, 50, 51, 52, 53, 54, 55, 56, 57, 58, 59, 60, 61, 62, 63, 64, 65] rfl (by decide +kernel)
set_option maxRecDepth 20000 in
theorem gX8_about_X8_finding : GoodIn wsX8_about (wsV RX8 88 RX8 yX8_finding wsX8_finding) := goodIn_app (goodIn_of _ (by decide +kernel)) ggX8_about_X8_finding
set_option maxRecDepth 20000 in
theorem ggX8_about_X0_hasEndorser : GoodIn wsX8_about wsX0_hasEndorser := goodIn_r _ [25, 26, 38, 39, 40, 41, 42, 43, 44, 45, 46, 47] rfl (by decide +kernel)
set_option maxRecDepth 20000 in
theorem gX8_about_X0_hasEndorser : GoodIn wsX8_about (wsV RX8 168 RX0 yX0_hasEndorser wsX0_hasEndorser) := goodIn_app (goodIn_of _ (by decide +kernel)) ggX8_about_X0_hasEndorser
set_option maxRecDepth 20000 in
theorem ggX8_about_X0_endorserAt : GoodIn wsX8_about wsX0_endorserAt := goodIn_r _ [30, 31, 38, 39, 40, 41, 42, 43, 44, 45, 46, 47] rfl (by decide +kernel)
set_option maxRecDepth 20000 in
theorem gX8_about_X0_endorserAt : GoodIn wsX8_about (wsV RX8 177 RX0 yX0_endorserAt wsX0_endorserAt) := goodIn_app (goodIn_of _ (by decide +kernel)) ggX8_about_X0_endorserAt
set_option maxRecDepth 20000 in
theorem ggX8_about_X0_stateDay : GoodIn wsX8_about wsX0_stateDay := goodIn_r _ [35, 36, 37, 38, 39, 40, 41, 42, 43, 44, 45, 46, 47] rfl (by decide +kernel)
set_option maxRecDepth 20000 in
theorem gX8_about_X0_stateDay : GoodIn wsX8_about (wsV RX8 187 RX0 yX0_stateDay wsX0_stateDay) := goodIn_app (goodIn_of _ (by decide +kernel)) ggX8_about_X0_stateDay
theorem dX8_about_0 : decode cX8_about 0 = .ok (.aload_n 0, 1) := by decide +kernel
theorem dX8_about_1 : decode cX8_about 1 = .ok (.iload_n 1, 1) := by decide +kernel
theorem dX8_about_2 : decode cX8_about 2 = .ok (.invokevirtual 123, 3) := by decide +kernel
theorem dX8_about_5 : decode cX8_about 5 = .ok (.astore_n 3, 1) := by decide +kernel
theorem dX8_about_6 : decode cX8_about 6 = .ok (.aload_n 3, 1) := by decide +kernel
theorem dX8_about_7 : decode cX8_about 7 = .ok (.ifnonnull 9, 3) := by decide +kernel
theorem dX8_about_10 : decode cX8_about 10 = .ok (.aload_n 0, 1) := by decide +kernel
theorem dX8_about_11 : decode cX8_about 11 = .ok (.iconst 1, 1) := by decide +kernel
theorem dX8_about_12 : decode cX8_about 12 = .ok (.invokevirtual 88, 3) := by decide +kernel
theorem dX8_about_15 : decode cX8_about 15 = .ok (.lreturn, 1) := by decide +kernel
theorem dX8_about_16 : decode cX8_about 16 = .ok (.iload_n 2, 1) := by decide +kernel
theorem dX8_about_17 : decode cX8_about 17 = .ok (.tableswitch 140 0 11 #[63, 69, 75, 81, 87, 93, 99, 105, 105, 105, 105, 134], 63) := by decide +kernel
theorem dX8_about_80 : decode cX8_about 80 = .ok (.aload_n 3, 1) := by decide +kernel
theorem dX8_about_81 : decode cX8_about 81 = .ok (.getfield 184, 3) := by decide +kernel
theorem dX8_about_84 : decode cX8_about 84 = .ok (.i2l, 1) := by decide +kernel
theorem dX8_about_85 : decode cX8_about 85 = .ok (.lreturn, 1) := by decide +kernel
theorem dX8_about_86 : decode cX8_about 86 = .ok (.aload_n 3, 1) := by decide +kernel
theorem dX8_about_87 : decode cX8_about 87 = .ok (.getfield 174, 3) := by decide +kernel
theorem dX8_about_90 : decode cX8_about 90 = .ok (.i2l, 1) := by decide +kernel
theorem dX8_about_91 : decode cX8_about 91 = .ok (.lreturn, 1) := by decide +kernel
theorem dX8_about_92 : decode cX8_about 92 = .ok (.aload_n 3, 1) := by decide +kernel
theorem dX8_about_93 : decode cX8_about 93 = .ok (.getfield 146, 3) := by decide +kernel
theorem dX8_about_96 : decode cX8_about 96 = .ok (.i2l, 1) := by decide +kernel
theorem dX8_about_97 : decode cX8_about 97 = .ok (.lreturn, 1) := by decide +kernel
theorem dX8_about_98 : decode cX8_about 98 = .ok (.aload_n 3, 1) := by decide +kernel
theorem dX8_about_99 : decode cX8_about 99 = .ok (.getfield 130, 3) := by decide +kernel
theorem dX8_about_102 : decode cX8_about 102 = .ok (.i2l, 1) := by decide +kernel
theorem dX8_about_103 : decode cX8_about 103 = .ok (.lreturn, 1) := by decide +kernel
theorem dX8_about_104 : decode cX8_about 104 = .ok (.aload_n 3, 1) := by decide +kernel
theorem dX8_about_105 : decode cX8_about 105 = .ok (.getfield 161, 3) := by decide +kernel
theorem dX8_about_108 : decode cX8_about 108 = .ok (.i2l, 1) := by decide +kernel
theorem dX8_about_109 : decode cX8_about 109 = .ok (.lreturn, 1) := by decide +kernel
theorem dX8_about_110 : decode cX8_about 110 = .ok (.aload_n 3, 1) := by decide +kernel
theorem dX8_about_111 : decode cX8_about 111 = .ok (.getfield 127, 3) := by decide +kernel
theorem dX8_about_114 : decode cX8_about 114 = .ok (.i2l, 1) := by decide +kernel
theorem dX8_about_115 : decode cX8_about 115 = .ok (.lreturn, 1) := by decide +kernel
theorem dX8_about_116 : decode cX8_about 116 = .ok (.aload_n 3, 1) := by decide +kernel
theorem dX8_about_117 : decode cX8_about 117 = .ok (.getfield 140, 3) := by decide +kernel
theorem dX8_about_120 : decode cX8_about 120 = .ok (.i2l, 1) := by decide +kernel
theorem dX8_about_121 : decode cX8_about 121 = .ok (.lreturn, 1) := by decide +kernel
theorem dX8_about_122 : decode cX8_about 122 = .ok (.aload_n 3, 1) := by decide +kernel
theorem dX8_about_123 : decode cX8_about 123 = .ok (.iload_n 2, 1) := by decide +kernel
theorem dX8_about_124 : decode cX8_about 124 = .ok (.bipush 7, 2) := by decide +kernel
theorem dX8_about_126 : decode cX8_about 126 = .ok (.isub, 1) := by decide +kernel
theorem dX8_about_127 : decode cX8_about 127 = .ok (.invokevirtual 168, 3) := by decide +kernel
theorem dX8_about_130 : decode cX8_about 130 = .ok (.ifCond .eq 15, 3) := by decide +kernel
theorem dX8_about_133 : decode cX8_about 133 = .ok (.aload_n 3, 1) := by decide +kernel
theorem dX8_about_134 : decode cX8_about 134 = .ok (.iload_n 2, 1) := by decide +kernel
theorem dX8_about_135 : decode cX8_about 135 = .ok (.bipush 7, 2) := by decide +kernel
theorem dX8_about_137 : decode cX8_about 137 = .ok (.isub, 1) := by decide +kernel
theorem dX8_about_138 : decode cX8_about 138 = .ok (.invokevirtual 177, 3) := by decide +kernel
theorem dX8_about_141 : decode cX8_about 141 = .ok (.i2l, 1) := by decide +kernel
theorem dX8_about_142 : decode cX8_about 142 = .ok (.goto 8, 3) := by decide +kernel
theorem dX8_about_145 : decode cX8_about 145 = .ok (.aload_n 0, 1) := by decide +kernel
theorem dX8_about_146 : decode cX8_about 146 = .ok (.iconst 2, 1) := by decide +kernel
theorem dX8_about_147 : decode cX8_about 147 = .ok (.invokevirtual 88, 3) := by decide +kernel
theorem dX8_about_150 : decode cX8_about 150 = .ok (.lreturn, 1) := by decide +kernel
theorem dX8_about_151 : decode cX8_about 151 = .ok (.aload_n 3, 1) := by decide +kernel
theorem dX8_about_152 : decode cX8_about 152 = .ok (.invokevirtual 187, 3) := by decide +kernel
theorem dX8_about_155 : decode cX8_about 155 = .ok (.i2l, 1) := by decide +kernel
theorem dX8_about_156 : decode cX8_about 156 = .ok (.lreturn, 1) := by decide +kernel
theorem dX8_about_157 : decode cX8_about 157 = .ok (.aload_n 0, 1) := by decide +kernel
theorem dX8_about_158 : decode cX8_about 158 = .ok (.iconst 1, 1) := by decide +kernel
theorem dX8_about_159 : decode cX8_about 159 = .ok (.invokevirtual 88, 3) := by decide +kernel
theorem dX8_about_162 : decode cX8_about 162 = .ok (.lreturn, 1) := by decide +kernel
set_option maxRecDepth 20000 in
theorem ggX8_as_X8_billAt : GoodIn wsX8_as wsX8_billAt := goodIn_r _ [7, 8, 9, 29, 30, 31, 32, 33, 34, 35, 36, 37, 38, 39, 40, 41, 42, 43, 44, 45, 46] rfl (by decide +kernel)
set_option maxRecDepth 20000 in
theorem gX8_as_X8_billAt : GoodIn wsX8_as (wsV RX8 123 RX8 yX8_billAt wsX8_billAt) := goodIn_app (goodIn_of _ (by decide +kernel)) ggX8_as_X8_billAt
set_option maxRecDepth 20000 in
theorem ggX8_as_X8_isBillKind : GoodIn wsX8_as wsX8_isBillKind := goodIn_r _ [12] rfl (by decide +kernel)
set_option maxRecDepth 20000 in
theorem gX8_as_X8_isBillKind : GoodIn wsX8_as (va_wsS RX8 109 yX8_isBillKind wsX8_isBillKind) := goodIn_app (goodIn_of _ (by decide +kernel)) ggX8_as_X8_isBillKind
set_option maxRecDepth 20000 in
theorem ggX8_as_X8_finding : GoodIn wsX8_as wsX8_finding := goodIn_r _ [16, 17, 18, 29, 30, 31, 32, 33, 34, 35, 36, 37, 38, 39, 40, 41, 42, 43, 44, 45, 46] rfl (by decide +kernel)
set_option maxRecDepth 20000 in
theorem gX8_as_X8_finding : GoodIn wsX8_as (wsV RX8 88 RX8 yX8_finding wsX8_finding) := goodIn_app (goodIn_of _ (by decide +kernel)) ggX8_as_X8_finding
theorem dX8_as_0 : decode cX8_as 0 = .ok (.aload_n 0, 1) := by decide +kernel
theorem dX8_as_1 : decode cX8_as 1 = .ok (.iload_n 1, 1) := by decide +kernel
theorem dX8_as_2 : decode cX8_as 2 = .ok (.invokevirtual 123, 3) := by decide +kernel
theorem dX8_as_5 : decode cX8_as 5 = .ok (.astore_n 3, 1) := by decide +kernel
theorem dX8_as_6 : decode cX8_as 6 = .ok (.aload_n 3, 1) := by decide +kernel
theorem dX8_as_7 : decode cX8_as 7 = .ok (.ifnull 10, 3) := by decide +kernel
theorem dX8_as_10 : decode cX8_as 10 = .ok (.iload_n 2, 1) := by decide +kernel
theorem dX8_as_11 : decode cX8_as 11 = .ok (.invokestatic 109, 3) := by decide +kernel
theorem dX8_as_14 : decode cX8_as 14 = .ok (.ifCond .ne 9, 3) := by decide +kernel
theorem dX8_as_17 : decode cX8_as 17 = .ok (.aload_n 0, 1) := by decide +kernel
theorem dX8_as_18 : decode cX8_as 18 = .ok (.iconst 1, 1) := by decide +kernel
theorem dX8_as_19 : decode cX8_as 19 = .ok (.invokevirtual 88, 3) := by decide +kernel
theorem dX8_as_22 : decode cX8_as 22 = .ok (.lreturn, 1) := by decide +kernel
theorem dX8_as_23 : decode cX8_as 23 = .ok (.iload_n 2, 1) := by decide +kernel
theorem dX8_as_24 : decode cX8_as 24 = .ok (.ifCond .eq 17, 3) := by decide +kernel
theorem dX8_as_27 : decode cX8_as 27 = .ok (.iload_n 2, 1) := by decide +kernel
theorem dX8_as_28 : decode cX8_as 28 = .ok (.aload_n 3, 1) := by decide +kernel
theorem dX8_as_29 : decode cX8_as 29 = .ok (.getfield 184, 3) := by decide +kernel
theorem dX8_as_32 : decode cX8_as 32 = .ok (.if_icmp .eq 9, 3) := by decide +kernel
theorem dX8_as_35 : decode cX8_as 35 = .ok (.aload_n 0, 1) := by decide +kernel
theorem dX8_as_36 : decode cX8_as 36 = .ok (.iconst 5, 1) := by decide +kernel
theorem dX8_as_37 : decode cX8_as 37 = .ok (.invokevirtual 88, 3) := by decide +kernel
theorem dX8_as_40 : decode cX8_as 40 = .ok (.lreturn, 1) := by decide +kernel
theorem dX8_as_41 : decode cX8_as 41 = .ok (.aload_n 3, 1) := by decide +kernel
theorem dX8_as_42 : decode cX8_as 42 = .ok (.getfield 161, 3) := by decide +kernel
theorem dX8_as_45 : decode cX8_as 45 = .ok (.i2l, 1) := by decide +kernel
theorem dX8_as_46 : decode cX8_as 46 = .ok (.lreturn, 1) := by decide +kernel
set_option maxRecDepth 20000 in
theorem ggX8_knows_X8_billAt : GoodIn wsX8_knows wsX8_billAt := goodIn_r _ [5, 6, 7, 29, 30, 31, 32, 33, 34, 35, 36, 37, 38, 39, 40, 41, 42, 43, 44, 45, 46] rfl (by decide +kernel)
set_option maxRecDepth 20000 in
theorem gX8_knows_X8_billAt : GoodIn wsX8_knows (wsV RX8 123 RX8 yX8_billAt wsX8_billAt) := goodIn_app (goodIn_of _ (by decide +kernel)) ggX8_knows_X8_billAt
set_option maxRecDepth 20000 in
theorem ggX8_knows_X8_isHouse : GoodIn wsX8_knows wsX8_isHouse := goodIn_r _ [10] rfl (by decide +kernel)
set_option maxRecDepth 20000 in
theorem gX8_knows_X8_isHouse : GoodIn wsX8_knows (va_wsS RX8 106 yX8_isHouse wsX8_isHouse) := goodIn_app (goodIn_of _ (by decide +kernel)) ggX8_knows_X8_isHouse
set_option maxRecDepth 20000 in
theorem ggX8_knows_X8_finding : GoodIn wsX8_knows wsX8_finding := goodIn_r _ [14, 15, 16, 29, 30, 31, 32, 33, 34, 35, 36, 37, 38, 39, 40, 41, 42, 43, 44, 45, 46] rfl (by decide +kernel)
set_option maxRecDepth 20000 in
theorem gX8_knows_X8_finding : GoodIn wsX8_knows (wsV RX8 88 RX8 yX8_finding wsX8_finding) := goodIn_app (goodIn_of _ (by decide +kernel)) ggX8_knows_X8_finding
set_option maxRecDepth 20000 in
theorem ggX8_knows_X8_roadOf : GoodIn wsX8_knows wsX8_roadOf := goodIn_r _ [20, 21, 22, 29, 30, 31, 32, 33, 34, 35, 36, 37, 38, 39, 40, 41, 42, 43, 44, 45, 46] rfl (by decide +kernel)
set_option maxRecDepth 20000 in
theorem gX8_knows_X8_roadOf : GoodIn wsX8_knows (wsV RX8 190 RX8 yX8_roadOf wsX8_roadOf) := goodIn_app (goodIn_of _ (by decide +kernel)) ggX8_knows_X8_roadOf
set_option maxRecDepth 20000 in
theorem ggX8_knows_X0_latestStateBy : GoodIn wsX8_knows wsX0_latestStateBy := goodIn_r _ [27, 28, 47, 48, 49, 50, 51, 52, 53, 54, 55, 56] rfl (by decide +kernel)
set_option maxRecDepth 20000 in
theorem gX8_knows_X0_latestStateBy : GoodIn wsX8_knows (wsV RX8 193 RX0 yX0_latestStateBy wsX0_latestStateBy) := goodIn_app (goodIn_of _ (by decide +kernel)) ggX8_knows_X0_latestStateBy
theorem dX8_knows_0 : decode cX8_knows 0 = .ok (.aload_n 0, 1) := by decide +kernel
theorem dX8_knows_1 : decode cX8_knows 1 = .ok (.iload_n 2, 1) := by decide +kernel
theorem dX8_knows_2 : decode cX8_knows 2 = .ok (.invokevirtual 123, 3) := by decide +kernel
theorem dX8_knows_5 : decode cX8_knows 5 = .ok (.astore 4, 2) := by decide +kernel
theorem dX8_knows_7 : decode cX8_knows 7 = .ok (.aload 4, 2) := by decide +kernel
theorem dX8_knows_9 : decode cX8_knows 9 = .ok (.ifnull 14, 3) := by decide +kernel
theorem dX8_knows_12 : decode cX8_knows 12 = .ok (.iload_n 1, 1) := by decide +kernel
theorem dX8_knows_13 : decode cX8_knows 13 = .ok (.invokestatic 106, 3) := by decide +kernel
theorem dX8_knows_16 : decode cX8_knows 16 = .ok (.ifCond .eq 7, 3) := by decide +kernel
theorem dX8_knows_19 : decode cX8_knows 19 = .ok (.iload_n 3, 1) := by decide +kernel
theorem dX8_knows_20 : decode cX8_knows 20 = .ok (.ifCond .ge 9, 3) := by decide +kernel
theorem dX8_knows_23 : decode cX8_knows 23 = .ok (.aload_n 0, 1) := by decide +kernel
theorem dX8_knows_24 : decode cX8_knows 24 = .ok (.iconst 1, 1) := by decide +kernel
theorem dX8_knows_25 : decode cX8_knows 25 = .ok (.invokevirtual 88, 3) := by decide +kernel
theorem dX8_knows_28 : decode cX8_knows 28 = .ok (.lreturn, 1) := by decide +kernel
theorem dX8_knows_29 : decode cX8_knows 29 = .ok (.aload 4, 2) := by decide +kernel
theorem dX8_knows_31 : decode cX8_knows 31 = .ok (.iload_n 3, 1) := by decide +kernel
theorem dX8_knows_32 : decode cX8_knows 32 = .ok (.aload_n 0, 1) := by decide +kernel
theorem dX8_knows_33 : decode cX8_knows 33 = .ok (.iload_n 1, 1) := by decide +kernel
theorem dX8_knows_34 : decode cX8_knows 34 = .ok (.invokevirtual 190, 3) := by decide +kernel
theorem dX8_knows_37 : decode cX8_knows 37 = .ok (.isub, 1) := by decide +kernel
theorem dX8_knows_38 : decode cX8_knows 38 = .ok (.invokevirtual 193, 3) := by decide +kernel
theorem dX8_knows_41 : decode cX8_knows 41 = .ok (.istore 5, 2) := by decide +kernel
theorem dX8_knows_43 : decode cX8_knows 43 = .ok (.iload 5, 2) := by decide +kernel
theorem dX8_knows_45 : decode cX8_knows 45 = .ok (.ifCond .ge 11, 3) := by decide +kernel
theorem dX8_knows_48 : decode cX8_knows 48 = .ok (.aload_n 0, 1) := by decide +kernel
theorem dX8_knows_49 : decode cX8_knows 49 = .ok (.iconst 2, 1) := by decide +kernel
theorem dX8_knows_50 : decode cX8_knows 50 = .ok (.invokevirtual 88, 3) := by decide +kernel
theorem dX8_knows_53 : decode cX8_knows 53 = .ok (.goto 6, 3) := by decide +kernel
theorem dX8_knows_56 : decode cX8_knows 56 = .ok (.iload 5, 2) := by decide +kernel
theorem dX8_knows_58 : decode cX8_knows 58 = .ok (.i2l, 1) := by decide +kernel
theorem dX8_knows_59 : decode cX8_knows 59 = .ok (.lreturn, 1) := by decide +kernel
set_option maxRecDepth 20000 in
theorem ggX8_feed_X8_finding : GoodIn wsX8_feed wsX8_finding := goodIn_r _ [7, 8, 9, 21, 22, 23, 24, 25, 26, 27, 28, 29, 30, 31, 32, 33, 34, 35, 36, 37, 38] rfl (by decide +kernel)
set_option maxRecDepth 20000 in
theorem gX8_feed_X8_finding : GoodIn wsX8_feed (wsV RX8 88 RX8 yX8_finding wsX8_finding) := goodIn_app (goodIn_of _ (by decide +kernel)) ggX8_feed_X8_finding
set_option maxRecDepth 20000 in
theorem ggX8_feed_X3_hasRoomFor : GoodIn wsX8_feed wsX3_hasRoomFor := goodIn_r _ [14, 15, 39, 40, 41, 42, 43, 44, 45] rfl (by decide +kernel)
set_option maxRecDepth 20000 in
theorem gX8_feed_X3_hasRoomFor : GoodIn wsX8_feed (wsV RX8 196 RX3 yX3_hasRoomFor wsX3_hasRoomFor) := goodIn_app (goodIn_of _ (by decide +kernel)) ggX8_feed_X3_hasRoomFor
set_option maxRecDepth 20000 in
theorem ggX8_feed_X3_append : GoodIn wsX8_feed wsX3_append := goodIn_r _ [19, 15, 20, 39, 40, 41, 42, 43, 44, 45] rfl (by decide +kernel)
set_option maxRecDepth 20000 in
theorem gX8_feed_X3_append : GoodIn wsX8_feed (wsV RX8 199 RX3 yX3_append wsX3_append) := goodIn_app (goodIn_of _ (by decide +kernel)) ggX8_feed_X3_append
theorem dX8_feed_0 : decode cX8_feed 0 = .ok (.iload_n 3, 1) := by decide +kernel
theorem dX8_feed_1 : decode cX8_feed 1 = .ok (.iconst 1, 1) := by decide +kernel
theorem dX8_feed_2 : decode cX8_feed 2 = .ok (.if_icmp .lt 9, 3) := by decide +kernel
theorem dX8_feed_5 : decode cX8_feed 5 = .ok (.iload_n 3, 1) := by decide +kernel
theorem dX8_feed_6 : decode cX8_feed 6 = .ok (.bipush 8, 2) := by decide +kernel
theorem dX8_feed_8 : decode cX8_feed 8 = .ok (.if_icmp .le 9, 3) := by decide +kernel
theorem dX8_feed_11 : decode cX8_feed 11 = .ok (.aload_n 0, 1) := by decide +kernel
theorem dX8_feed_12 : decode cX8_feed 12 = .ok (.iconst 1, 1) := by decide +kernel
theorem dX8_feed_13 : decode cX8_feed 13 = .ok (.invokevirtual 88, 3) := by decide +kernel
theorem dX8_feed_16 : decode cX8_feed 16 = .ok (.lreturn, 1) := by decide +kernel
theorem dX8_feed_17 : decode cX8_feed 17 = .ok (.aload_n 0, 1) := by decide +kernel
theorem dX8_feed_18 : decode cX8_feed 18 = .ok (.getfield 35, 3) := by decide +kernel
theorem dX8_feed_21 : decode cX8_feed 21 = .ok (.iload_n 3, 1) := by decide +kernel
theorem dX8_feed_22 : decode cX8_feed 22 = .ok (.invokevirtual 196, 3) := by decide +kernel
theorem dX8_feed_25 : decode cX8_feed 25 = .ok (.ifCond .ne 9, 3) := by decide +kernel
theorem dX8_feed_28 : decode cX8_feed 28 = .ok (.aload_n 0, 1) := by decide +kernel
theorem dX8_feed_29 : decode cX8_feed 29 = .ok (.iconst 4, 1) := by decide +kernel
theorem dX8_feed_30 : decode cX8_feed 30 = .ok (.invokevirtual 88, 3) := by decide +kernel
theorem dX8_feed_33 : decode cX8_feed 33 = .ok (.lreturn, 1) := by decide +kernel
theorem dX8_feed_34 : decode cX8_feed 34 = .ok (.aload_n 0, 1) := by decide +kernel
theorem dX8_feed_35 : decode cX8_feed 35 = .ok (.getfield 35, 3) := by decide +kernel
theorem dX8_feed_38 : decode cX8_feed 38 = .ok (.lload_n 1, 1) := by decide +kernel
theorem dX8_feed_39 : decode cX8_feed 39 = .ok (.iload_n 3, 1) := by decide +kernel
theorem dX8_feed_40 : decode cX8_feed 40 = .ok (.invokevirtual 199, 3) := by decide +kernel
theorem dX8_feed_43 : decode cX8_feed 43 = .ok (.aload_n 0, 1) := by decide +kernel
theorem dX8_feed_44 : decode cX8_feed 44 = .ok (.getfield 35, 3) := by decide +kernel
theorem dX8_feed_47 : decode cX8_feed 47 = .ok (.getfield 203, 3) := by decide +kernel
theorem dX8_feed_50 : decode cX8_feed 50 = .ok (.i2l, 1) := by decide +kernel
theorem dX8_feed_51 : decode cX8_feed 51 = .ok (.lreturn, 1) := by decide +kernel
set_option maxRecDepth 20000 in
theorem ggX8_read_X3_readText : GoodIn wsX8_read wsX3_readText := goodIn_r _ [9, 10, 11, 12, 13, 14, 15, 16, 17, 18, 19, 20, 8, 21, 22, 23, 24, 25, 26, 27, 28, 29, 30, 31, 32, 33, 34, 35, 36, 37, 38, 39, 40, 41, 42, 43, 44, 45, 46, 47, 48, 49, 50, 51, 52, 53, 54, 55, 56, 57, 58, 59, 60, 61, 62, 63, 64, 65, 66, 67, 68, 69, 70, 71, 72, 73, 74, 75, 76, 77, 78, 79, 80, 81, 82, 83, 84, 85, 86, 87, 88, 89, 90, 91, 92, 93, 94, 95, 96, 97, 98, 99, 100, 101, 102, 103, 104, 105, 106, 107, 108, 109, 110, 111, 112, 113, 114, 115, 116, 117, 118, 119, 120, 121, 122, 159, 160, 161, 162, 163, 164, 165, 153, 154, 155, 156, 157, 158] rfl (by decide +kernel)
set_option maxRecDepth 20000 in
theorem gX8_read_X3_readText : GoodIn wsX8_read (wsV RX8 206 RX3 yX3_readText wsX3_readText) := goodIn_app (goodIn_of _ (by decide +kernel)) ggX8_read_X3_readText
set_option maxRecDepth 20000 in
theorem ggX8_read_X3_endText : GoodIn wsX8_read wsX3_endText := goodIn_r _ [126, 24, 127, 22, 159, 160, 161, 162, 163, 164, 165] rfl (by decide +kernel)
set_option maxRecDepth 20000 in
theorem gX8_read_X3_endText : GoodIn wsX8_read (wsV RX8 210 RX3 yX3_endText wsX3_endText) := goodIn_app (goodIn_of _ (by decide +kernel)) ggX8_read_X3_endText
set_option maxRecDepth 20000 in
theorem ggX8_read_X8_finding : GoodIn wsX8_read wsX8_finding := goodIn_r _ [132, 133, 134, 135, 136, 137, 138, 139, 140, 141, 142, 143, 144, 145, 146, 147, 148, 149, 150, 151, 152] rfl (by decide +kernel)
set_option maxRecDepth 20000 in
theorem gX8_read_X8_finding : GoodIn wsX8_read (wsV RX8 88 RX8 yX8_finding wsX8_finding) := goodIn_app (goodIn_of _ (by decide +kernel)) ggX8_read_X8_finding
theorem dX8_read_0 : decode cX8_read 0 = .ok (.aload_n 0, 1) := by decide +kernel
theorem dX8_read_1 : decode cX8_read 1 = .ok (.getfield 35, 3) := by decide +kernel
theorem dX8_read_4 : decode cX8_read 4 = .ok (.aload_n 0, 1) := by decide +kernel
theorem dX8_read_5 : decode cX8_read 5 = .ok (.getfield 81, 3) := by decide +kernel
theorem dX8_read_8 : decode cX8_read 8 = .ok (.invokevirtual 206, 3) := by decide +kernel
theorem dX8_read_11 : decode cX8_read 11 = .ok (.istore_n 1, 1) := by decide +kernel
theorem dX8_read_12 : decode cX8_read 12 = .ok (.aload_n 0, 1) := by decide +kernel
theorem dX8_read_13 : decode cX8_read 13 = .ok (.getfield 35, 3) := by decide +kernel
theorem dX8_read_16 : decode cX8_read 16 = .ok (.iload_n 1, 1) := by decide +kernel
theorem dX8_read_17 : decode cX8_read 17 = .ok (.invokevirtual 210, 3) := by decide +kernel
theorem dX8_read_20 : decode cX8_read 20 = .ok (.iload_n 1, 1) := by decide +kernel
theorem dX8_read_21 : decode cX8_read 21 = .ok (.ifCond .ne 10, 3) := by decide +kernel
theorem dX8_read_24 : decode cX8_read 24 = .ok (.aload_n 0, 1) := by decide +kernel
theorem dX8_read_25 : decode cX8_read 25 = .ok (.bipush 6, 2) := by decide +kernel
theorem dX8_read_27 : decode cX8_read 27 = .ok (.invokevirtual 88, 3) := by decide +kernel
theorem dX8_read_30 : decode cX8_read 30 = .ok (.lreturn, 1) := by decide +kernel
theorem dX8_read_31 : decode cX8_read 31 = .ok (.aload_n 0, 1) := by decide +kernel
theorem dX8_read_32 : decode cX8_read 32 = .ok (.getfield 77, 3) := by decide +kernel
theorem dX8_read_35 : decode cX8_read 35 = .ok (.astore_n 2, 1) := by decide +kernel
theorem dX8_read_36 : decode cX8_read 36 = .ok (.aload_n 0, 1) := by decide +kernel
theorem dX8_read_37 : decode cX8_read 37 = .ok (.aload_n 0, 1) := by decide +kernel
theorem dX8_read_38 : decode cX8_read 38 = .ok (.getfield 81, 3) := by decide +kernel
theorem dX8_read_41 : decode cX8_read 41 = .ok (.putfield 77, 3) := by decide +kernel
theorem dX8_read_44 : decode cX8_read 44 = .ok (.aload_n 0, 1) := by decide +kernel
theorem dX8_read_45 : decode cX8_read 45 = .ok (.aload_n 2, 1) := by decide +kernel
theorem dX8_read_46 : decode cX8_read 46 = .ok (.putfield 81, 3) := by decide +kernel
theorem dX8_read_49 : decode cX8_read 49 = .ok (.aload_n 0, 1) := by decide +kernel
theorem dX8_read_50 : decode cX8_read 50 = .ok (.getfield 77, 3) := by decide +kernel
theorem dX8_read_53 : decode cX8_read 53 = .ok (.getfield 214, 3) := by decide +kernel
theorem dX8_read_56 : decode cX8_read 56 = .ok (.i2l, 1) := by decide +kernel
theorem dX8_read_57 : decode cX8_read 57 = .ok (.lreturn, 1) := by decide +kernel
theorem dX8_fault_0 : decode cX8_fault 0 = .ok (.aload_n 0, 1) := by decide +kernel
theorem dX8_fault_1 : decode cX8_fault 1 = .ok (.getfield 35, 3) := by decide +kernel
theorem dX8_fault_4 : decode cX8_fault 4 = .ok (.getfield 217, 3) := by decide +kernel
theorem dX8_fault_7 : decode cX8_fault 7 = .ok (.i2l, 1) := by decide +kernel
theorem dX8_fault_8 : decode cX8_fault 8 = .ok (.lreturn, 1) := by decide +kernel
set_option maxRecDepth 20000 in
theorem ggX8_binds_X8_finding : GoodIn wsX8_binds wsX8_finding := goodIn_r _ [5, 6, 7, 32, 33, 34, 35, 36, 37, 38, 39, 40, 41, 42, 43, 44, 45, 46, 47, 48, 49] rfl (by decide +kernel)
set_option maxRecDepth 20000 in
theorem gX8_binds_X8_finding : GoodIn wsX8_binds (wsV RX8 88 RX8 yX8_finding wsX8_finding) := goodIn_app (goodIn_of _ (by decide +kernel)) ggX8_binds_X8_finding
set_option maxRecDepth 20000 in
theorem ggX8_binds_X8_customBinds : GoodIn wsX8_binds wsX8_customBinds := goodIn_r _ [11, 12, 13, 14, 15, 16, 17, 18, 19, 20, 21, 22, 23, 24, 25, 26, 27, 28, 29, 30, 31, 32, 33, 34, 35, 36, 37, 38, 39, 40, 41, 42, 43, 44, 45, 46, 47, 48, 49, 50, 51, 52, 53, 54, 55] rfl (by decide +kernel)
set_option maxRecDepth 20000 in
theorem gX8_binds_X8_customBinds : GoodIn wsX8_binds (wsV RX8 220 RX8 yX8_customBinds wsX8_customBinds) := goodIn_app (goodIn_of _ (by decide +kernel)) ggX8_binds_X8_customBinds
theorem dX8_binds_0 : decode cX8_binds 0 = .ok (.iload_n 1, 1) := by decide +kernel
theorem dX8_binds_1 : decode cX8_binds 1 = .ok (.ifCond .lt 21, 3) := by decide +kernel
theorem dX8_binds_4 : decode cX8_binds 4 = .ok (.iload_n 2, 1) := by decide +kernel
theorem dX8_binds_5 : decode cX8_binds 5 = .ok (.ifCond .lt 17, 3) := by decide +kernel
theorem dX8_binds_8 : decode cX8_binds 8 = .ok (.iload_n 3, 1) := by decide +kernel
theorem dX8_binds_9 : decode cX8_binds 9 = .ok (.ifCond .lt 13, 3) := by decide +kernel
theorem dX8_binds_12 : decode cX8_binds 12 = .ok (.iload 4, 2) := by decide +kernel
theorem dX8_binds_14 : decode cX8_binds 14 = .ok (.ifCond .lt 8, 3) := by decide +kernel
theorem dX8_binds_17 : decode cX8_binds 17 = .ok (.iload 5, 2) := by decide +kernel
theorem dX8_binds_19 : decode cX8_binds 19 = .ok (.ifCond .ge 9, 3) := by decide +kernel
theorem dX8_binds_22 : decode cX8_binds 22 = .ok (.aload_n 0, 1) := by decide +kernel
theorem dX8_binds_23 : decode cX8_binds 23 = .ok (.iconst 1, 1) := by decide +kernel
theorem dX8_binds_24 : decode cX8_binds 24 = .ok (.invokevirtual 88, 3) := by decide +kernel
theorem dX8_binds_27 : decode cX8_binds 27 = .ok (.lreturn, 1) := by decide +kernel
theorem dX8_binds_28 : decode cX8_binds 28 = .ok (.aload_n 0, 1) := by decide +kernel
theorem dX8_binds_29 : decode cX8_binds 29 = .ok (.iload_n 1, 1) := by decide +kernel
theorem dX8_binds_30 : decode cX8_binds 30 = .ok (.iload_n 2, 1) := by decide +kernel
theorem dX8_binds_31 : decode cX8_binds 31 = .ok (.iload_n 3, 1) := by decide +kernel
theorem dX8_binds_32 : decode cX8_binds 32 = .ok (.iload 4, 2) := by decide +kernel
theorem dX8_binds_34 : decode cX8_binds 34 = .ok (.iload 5, 2) := by decide +kernel
theorem dX8_binds_36 : decode cX8_binds 36 = .ok (.invokevirtual 220, 3) := by decide +kernel
theorem dX8_binds_39 : decode cX8_binds 39 = .ok (.ifCond .eq 7, 3) := by decide +kernel
theorem dX8_binds_42 : decode cX8_binds 42 = .ok (.lconst 1, 1) := by decide +kernel
theorem dX8_binds_43 : decode cX8_binds 43 = .ok (.goto 4, 3) := by decide +kernel
theorem dX8_binds_46 : decode cX8_binds 46 = .ok (.lconst 0, 1) := by decide +kernel
theorem dX8_binds_47 : decode cX8_binds 47 = .ok (.lreturn, 1) := by decide +kernel
set_option maxRecDepth 20000 in
theorem ggX8_owe_X8_areTwoHouses : GoodIn wsX8_owe wsX8_areTwoHouses := goodIn_r _ [6, 7, 8, 5, 9] rfl (by decide +kernel)
set_option maxRecDepth 20000 in
theorem gX8_owe_X8_areTwoHouses : GoodIn wsX8_owe (va_wsS RX8 224 yX8_areTwoHouses wsX8_areTwoHouses) := goodIn_app (goodIn_of _ (by decide +kernel)) ggX8_owe_X8_areTwoHouses
set_option maxRecDepth 20000 in
theorem ggX8_owe_X8_finding : GoodIn wsX8_owe wsX8_finding := goodIn_r _ [13, 14, 15, 39, 40, 41, 42, 43, 44, 45, 46, 47, 48, 49, 50, 51, 52, 53, 54, 55, 56] rfl (by decide +kernel)
set_option maxRecDepth 20000 in
theorem gX8_owe_X8_finding : GoodIn wsX8_owe (wsV RX8 88 RX8 yX8_finding wsX8_finding) := goodIn_app (goodIn_of _ (by decide +kernel)) ggX8_owe_X8_finding
set_option maxRecDepth 20000 in
theorem ggX8_owe_X1_overfills : GoodIn wsX8_owe wsX1_overfills := goodIn_r _ [20, 21, 22, 23, 24, 25, 26, 57, 58] rfl (by decide +kernel)
set_option maxRecDepth 20000 in
theorem gX8_owe_X1_overfills : GoodIn wsX8_owe (wsV RX8 229 RX1 yX1_overfills wsX1_overfills) := goodIn_app (goodIn_of _ (by decide +kernel)) ggX8_owe_X1_overfills
set_option maxRecDepth 20000 in
theorem ggX8_owe_X1_charge : GoodIn wsX8_owe wsX1_charge := goodIn_r _ [30, 21, 31, 32, 24, 33, 34, 57, 58] rfl (by decide +kernel)
set_option maxRecDepth 20000 in
theorem gX8_owe_X1_charge : GoodIn wsX8_owe (wsV RX8 232 RX1 yX1_charge wsX1_charge) := goodIn_app (goodIn_of _ (by decide +kernel)) ggX8_owe_X1_charge
set_option maxRecDepth 20000 in
theorem ggX8_owe_X1_debt : GoodIn wsX8_owe wsX1_debt := goodIn_r _ [38, 21, 57, 58] rfl (by decide +kernel)
set_option maxRecDepth 20000 in
theorem gX8_owe_X1_debt : GoodIn wsX8_owe (wsV RX8 235 RX1 yX1_debt wsX1_debt) := goodIn_app (goodIn_of _ (by decide +kernel)) ggX8_owe_X1_debt
theorem dX8_owe_0 : decode cX8_owe 0 = .ok (.iload_n 1, 1) := by decide +kernel
theorem dX8_owe_1 : decode cX8_owe 1 = .ok (.iload_n 2, 1) := by decide +kernel
theorem dX8_owe_2 : decode cX8_owe 2 = .ok (.invokestatic 224, 3) := by decide +kernel
theorem dX8_owe_5 : decode cX8_owe 5 = .ok (.ifCond .eq 14, 3) := by decide +kernel
theorem dX8_owe_8 : decode cX8_owe 8 = .ok (.iload_n 3, 1) := by decide +kernel
theorem dX8_owe_9 : decode cX8_owe 9 = .ok (.iconst 1, 1) := by decide +kernel
theorem dX8_owe_10 : decode cX8_owe 10 = .ok (.if_icmp .lt 9, 3) := by decide +kernel
theorem dX8_owe_13 : decode cX8_owe 13 = .ok (.iload_n 3, 1) := by decide +kernel
theorem dX8_owe_14 : decode cX8_owe 14 = .ok (.ldc 228, 2) := by decide +kernel
theorem dX8_owe_16 : decode cX8_owe 16 = .ok (.if_icmp .le 9, 3) := by decide +kernel
theorem dX8_owe_19 : decode cX8_owe 19 = .ok (.aload_n 0, 1) := by decide +kernel
theorem dX8_owe_20 : decode cX8_owe 20 = .ok (.iconst 1, 1) := by decide +kernel
theorem dX8_owe_21 : decode cX8_owe 21 = .ok (.invokevirtual 88, 3) := by decide +kernel
theorem dX8_owe_24 : decode cX8_owe 24 = .ok (.lreturn, 1) := by decide +kernel
theorem dX8_owe_25 : decode cX8_owe 25 = .ok (.aload_n 0, 1) := by decide +kernel
theorem dX8_owe_26 : decode cX8_owe 26 = .ok (.getfield 42, 3) := by decide +kernel
theorem dX8_owe_29 : decode cX8_owe 29 = .ok (.iload_n 1, 1) := by decide +kernel
theorem dX8_owe_30 : decode cX8_owe 30 = .ok (.iload_n 2, 1) := by decide +kernel
theorem dX8_owe_31 : decode cX8_owe 31 = .ok (.iload_n 3, 1) := by decide +kernel
theorem dX8_owe_32 : decode cX8_owe 32 = .ok (.i2l, 1) := by decide +kernel
theorem dX8_owe_33 : decode cX8_owe 33 = .ok (.invokevirtual 229, 3) := by decide +kernel
theorem dX8_owe_36 : decode cX8_owe 36 = .ok (.ifCond .eq 9, 3) := by decide +kernel
theorem dX8_owe_39 : decode cX8_owe 39 = .ok (.aload_n 0, 1) := by decide +kernel
theorem dX8_owe_40 : decode cX8_owe 40 = .ok (.iconst 4, 1) := by decide +kernel
theorem dX8_owe_41 : decode cX8_owe 41 = .ok (.invokevirtual 88, 3) := by decide +kernel
theorem dX8_owe_44 : decode cX8_owe 44 = .ok (.lreturn, 1) := by decide +kernel
theorem dX8_owe_45 : decode cX8_owe 45 = .ok (.aload_n 0, 1) := by decide +kernel
theorem dX8_owe_46 : decode cX8_owe 46 = .ok (.getfield 42, 3) := by decide +kernel
theorem dX8_owe_49 : decode cX8_owe 49 = .ok (.iload_n 1, 1) := by decide +kernel
theorem dX8_owe_50 : decode cX8_owe 50 = .ok (.iload_n 2, 1) := by decide +kernel
theorem dX8_owe_51 : decode cX8_owe 51 = .ok (.iload_n 3, 1) := by decide +kernel
theorem dX8_owe_52 : decode cX8_owe 52 = .ok (.i2l, 1) := by decide +kernel
theorem dX8_owe_53 : decode cX8_owe 53 = .ok (.invokevirtual 232, 3) := by decide +kernel
theorem dX8_owe_56 : decode cX8_owe 56 = .ok (.aload_n 0, 1) := by decide +kernel
theorem dX8_owe_57 : decode cX8_owe 57 = .ok (.getfield 42, 3) := by decide +kernel
theorem dX8_owe_60 : decode cX8_owe 60 = .ok (.iload_n 1, 1) := by decide +kernel
theorem dX8_owe_61 : decode cX8_owe 61 = .ok (.iload_n 2, 1) := by decide +kernel
theorem dX8_owe_62 : decode cX8_owe 62 = .ok (.invokevirtual 235, 3) := by decide +kernel
theorem dX8_owe_65 : decode cX8_owe 65 = .ok (.lreturn, 1) := by decide +kernel
set_option maxRecDepth 20000 in
theorem ggX8_owes_X8_areTwoHouses : GoodIn wsX8_owes wsX8_areTwoHouses := goodIn_r _ [5, 6, 7, 4, 8] rfl (by decide +kernel)
set_option maxRecDepth 20000 in
theorem gX8_owes_X8_areTwoHouses : GoodIn wsX8_owes (va_wsS RX8 224 yX8_areTwoHouses wsX8_areTwoHouses) := goodIn_app (goodIn_of _ (by decide +kernel)) ggX8_owes_X8_areTwoHouses
set_option maxRecDepth 20000 in
theorem ggX8_owes_X8_finding : GoodIn wsX8_owes wsX8_finding := goodIn_r _ [12, 13, 14, 21, 22, 23, 24, 25, 26, 27, 28, 29, 30, 31, 32, 33, 34, 35, 36, 37, 38] rfl (by decide +kernel)
set_option maxRecDepth 20000 in
theorem gX8_owes_X8_finding : GoodIn wsX8_owes (wsV RX8 88 RX8 yX8_finding wsX8_finding) := goodIn_app (goodIn_of _ (by decide +kernel)) ggX8_owes_X8_finding
set_option maxRecDepth 20000 in
theorem ggX8_owes_X1_debt : GoodIn wsX8_owes wsX1_debt := goodIn_r _ [19, 20, 39, 40] rfl (by decide +kernel)
set_option maxRecDepth 20000 in
theorem gX8_owes_X1_debt : GoodIn wsX8_owes (wsV RX8 235 RX1 yX1_debt wsX1_debt) := goodIn_app (goodIn_of _ (by decide +kernel)) ggX8_owes_X1_debt
theorem dX8_owes_0 : decode cX8_owes 0 = .ok (.iload_n 1, 1) := by decide +kernel
theorem dX8_owes_1 : decode cX8_owes 1 = .ok (.iload_n 2, 1) := by decide +kernel
theorem dX8_owes_2 : decode cX8_owes 2 = .ok (.invokestatic 224, 3) := by decide +kernel
theorem dX8_owes_5 : decode cX8_owes 5 = .ok (.ifCond .ne 9, 3) := by decide +kernel
theorem dX8_owes_8 : decode cX8_owes 8 = .ok (.aload_n 0, 1) := by decide +kernel
theorem dX8_owes_9 : decode cX8_owes 9 = .ok (.iconst 1, 1) := by decide +kernel
theorem dX8_owes_10 : decode cX8_owes 10 = .ok (.invokevirtual 88, 3) := by decide +kernel
theorem dX8_owes_13 : decode cX8_owes 13 = .ok (.lreturn, 1) := by decide +kernel
theorem dX8_owes_14 : decode cX8_owes 14 = .ok (.aload_n 0, 1) := by decide +kernel
theorem dX8_owes_15 : decode cX8_owes 15 = .ok (.getfield 42, 3) := by decide +kernel
theorem dX8_owes_18 : decode cX8_owes 18 = .ok (.iload_n 1, 1) := by decide +kernel
theorem dX8_owes_19 : decode cX8_owes 19 = .ok (.iload_n 2, 1) := by decide +kernel
theorem dX8_owes_20 : decode cX8_owes 20 = .ok (.invokevirtual 235, 3) := by decide +kernel
theorem dX8_owes_23 : decode cX8_owes 23 = .ok (.lreturn, 1) := by decide +kernel
set_option maxRecDepth 20000 in
theorem ggX8_net_X8_isHouse : GoodIn wsX8_net wsX8_isHouse := goodIn_r _ [5] rfl (by decide +kernel)
set_option maxRecDepth 20000 in
theorem gX8_net_X8_isHouse : GoodIn wsX8_net (va_wsS RX8 106 yX8_isHouse wsX8_isHouse) := goodIn_app (goodIn_of _ (by decide +kernel)) ggX8_net_X8_isHouse
set_option maxRecDepth 20000 in
theorem ggX8_net_X8_finding : GoodIn wsX8_net wsX8_finding := goodIn_r _ [9, 10, 11, 18, 19, 20, 21, 22, 23, 24, 25, 26, 27, 28, 29, 30, 31, 32, 33, 34, 35] rfl (by decide +kernel)
set_option maxRecDepth 20000 in
theorem gX8_net_X8_finding : GoodIn wsX8_net (wsV RX8 88 RX8 yX8_finding wsX8_finding) := goodIn_app (goodIn_of _ (by decide +kernel)) ggX8_net_X8_finding
set_option maxRecDepth 20000 in
theorem ggX8_net_X1_balance : GoodIn wsX8_net wsX1_balance := goodIn_r _ [16, 17, 36, 37] rfl (by decide +kernel)
set_option maxRecDepth 20000 in
theorem gX8_net_X1_balance : GoodIn wsX8_net (wsV RX8 239 RX1 yX1_balance wsX1_balance) := goodIn_app (goodIn_of _ (by decide +kernel)) ggX8_net_X1_balance
theorem dX8_net_0 : decode cX8_net 0 = .ok (.iload_n 1, 1) := by decide +kernel
theorem dX8_net_1 : decode cX8_net 1 = .ok (.invokestatic 106, 3) := by decide +kernel
theorem dX8_net_4 : decode cX8_net 4 = .ok (.ifCond .ne 9, 3) := by decide +kernel
theorem dX8_net_7 : decode cX8_net 7 = .ok (.aload_n 0, 1) := by decide +kernel
theorem dX8_net_8 : decode cX8_net 8 = .ok (.iconst 1, 1) := by decide +kernel
theorem dX8_net_9 : decode cX8_net 9 = .ok (.invokevirtual 88, 3) := by decide +kernel
theorem dX8_net_12 : decode cX8_net 12 = .ok (.lreturn, 1) := by decide +kernel
theorem dX8_net_13 : decode cX8_net 13 = .ok (.aload_n 0, 1) := by decide +kernel
theorem dX8_net_14 : decode cX8_net 14 = .ok (.getfield 42, 3) := by decide +kernel
theorem dX8_net_17 : decode cX8_net 17 = .ok (.iload_n 1, 1) := by decide +kernel
theorem dX8_net_18 : decode cX8_net 18 = .ok (.invokevirtual 239, 3) := by decide +kernel
theorem dX8_net_21 : decode cX8_net 21 = .ok (.lreturn, 1) := by decide +kernel
set_option maxRecDepth 20000 in
theorem ggX8_plan_X5_refresh : GoodIn wsX8_plan wsX5_refresh := goodIn_r _ [9, 10, 11, 12, 13, 14, 15, 16, 8, 17, 18, 19, 20, 21, 22, 23, 24, 25, 26, 27, 28, 29, 30, 31, 32, 33, 34, 35, 36, 37, 38, 39, 40, 41, 42, 43, 44, 45, 46, 47, 48, 49, 50, 51, 52, 53, 54, 55, 56, 57, 58, 59, 60, 61, 62, 63, 64, 65, 84, 85, 86, 87, 88, 89, 90, 91, 92, 93, 94, 95, 96] rfl (by decide +kernel)
set_option maxRecDepth 20000 in
theorem gX8_plan_X5_refresh : GoodIn wsX8_plan (wsV RX8 242 RX5 yX5_refresh wsX5_refresh) := goodIn_app (goodIn_of _ (by decide +kernel)) ggX8_plan_X5_refresh
theorem dX8_plan_0 : decode cX8_plan 0 = .ok (.aload_n 0, 1) := by decide +kernel
theorem dX8_plan_1 : decode cX8_plan 1 = .ok (.getfield 49, 3) := by decide +kernel
theorem dX8_plan_4 : decode cX8_plan 4 = .ok (.aload_n 0, 1) := by decide +kernel
theorem dX8_plan_5 : decode cX8_plan 5 = .ok (.getfield 42, 3) := by decide +kernel
theorem dX8_plan_8 : decode cX8_plan 8 = .ok (.invokevirtual 242, 3) := by decide +kernel
theorem dX8_plan_11 : decode cX8_plan 11 = .ok (.iload_n 1, 1) := by decide +kernel
theorem dX8_plan_12 : decode cX8_plan 12 = .ok (.ifCond .eq 14, 3) := by decide +kernel
theorem dX8_plan_15 : decode cX8_plan 15 = .ok (.aload_n 0, 1) := by decide +kernel
theorem dX8_plan_16 : decode cX8_plan 16 = .ok (.getfield 49, 3) := by decide +kernel
theorem dX8_plan_19 : decode cX8_plan 19 = .ok (.getfield 246, 3) := by decide +kernel
theorem dX8_plan_22 : decode cX8_plan 22 = .ok (.i2l, 1) := by decide +kernel
theorem dX8_plan_23 : decode cX8_plan 23 = .ok (.goto 11, 3) := by decide +kernel
theorem dX8_plan_26 : decode cX8_plan 26 = .ok (.aload_n 0, 1) := by decide +kernel
theorem dX8_plan_27 : decode cX8_plan 27 = .ok (.getfield 49, 3) := by decide +kernel
theorem dX8_plan_30 : decode cX8_plan 30 = .ok (.getfield 249, 3) := by decide +kernel
theorem dX8_plan_33 : decode cX8_plan 33 = .ok (.i2l, 1) := by decide +kernel
theorem dX8_plan_34 : decode cX8_plan 34 = .ok (.lreturn, 1) := by decide +kernel
set_option maxRecDepth 20000 in
theorem ggX8_payment_X8_finding : GoodIn wsX8_payment wsX8_finding := goodIn_r _ [7, 8, 9, 80, 81, 82, 83, 84, 85, 86, 87, 88, 89, 90, 91, 92, 93, 94, 95, 96, 97] rfl (by decide +kernel)
set_option maxRecDepth 20000 in
theorem gX8_payment_X8_finding : GoodIn wsX8_payment (wsV RX8 88 RX8 yX8_finding wsX8_finding) := goodIn_app (goodIn_of _ (by decide +kernel)) ggX8_payment_X8_finding
set_option maxRecDepth 20000 in
theorem ggX8_payment_X5_refresh : GoodIn wsX8_payment wsX5_refresh := goodIn_r _ [14, 15, 16, 17, 18, 19, 20, 21, 13, 22, 23, 24, 25, 26, 27, 28, 29, 30, 31, 32, 33, 34, 35, 36, 37, 38, 39, 40, 41, 42, 43, 44, 45, 46, 47, 48, 49, 50, 51, 52, 53, 54, 55, 56, 57, 58, 59, 60, 61, 62, 63, 64, 65, 66, 67, 68, 69, 70, 98, 99, 100, 101, 102, 103, 104, 105, 106, 107, 108, 109, 110] rfl (by decide +kernel)
set_option maxRecDepth 20000 in
theorem gX8_payment_X5_refresh : GoodIn wsX8_payment (wsV RX8 242 RX5 yX5_refresh wsX5_refresh) := goodIn_app (goodIn_of _ (by decide +kernel)) ggX8_payment_X5_refresh
set_option maxRecDepth 20000 in
theorem ggX8_payment_X5_hasPayment : GoodIn wsX8_payment wsX5_hasPayment := goodIn_r _ [74, 18, 98, 99, 100, 101, 102, 103, 104, 105, 106, 107, 108] rfl (by decide +kernel)
set_option maxRecDepth 20000 in
theorem gX8_payment_X5_hasPayment : GoodIn wsX8_payment (wsV RX8 252 RX5 yX5_hasPayment wsX5_hasPayment) := goodIn_app (goodIn_of _ (by decide +kernel)) ggX8_payment_X5_hasPayment
set_option maxRecDepth 20000 in
theorem ggX8_payment_X5_figure : GoodIn wsX8_payment wsX5_figure := goodIn_r _ [78, 64, 65, 66, 79, 72, 73, 13, 74, 18, 98, 99, 100, 101, 102, 103, 104, 105, 106, 107, 108] rfl (by decide +kernel)
set_option maxRecDepth 20000 in
theorem gX8_payment_X5_figure : GoodIn wsX8_payment (wsV RX8 255 RX5 yX5_figure wsX5_figure) := goodIn_app (goodIn_of _ (by decide +kernel)) ggX8_payment_X5_figure
theorem dX8_payment_0 : decode cX8_payment 0 = .ok (.iload_n 2, 1) := by decide +kernel
theorem dX8_payment_1 : decode cX8_payment 1 = .ok (.ifCond .lt 8, 3) := by decide +kernel
theorem dX8_payment_4 : decode cX8_payment 4 = .ok (.iload_n 2, 1) := by decide +kernel
theorem dX8_payment_5 : decode cX8_payment 5 = .ok (.iconst 2, 1) := by decide +kernel
theorem dX8_payment_6 : decode cX8_payment 6 = .ok (.if_icmp .le 9, 3) := by decide +kernel
theorem dX8_payment_9 : decode cX8_payment 9 = .ok (.aload_n 0, 1) := by decide +kernel
theorem dX8_payment_10 : decode cX8_payment 10 = .ok (.iconst 1, 1) := by decide +kernel
theorem dX8_payment_11 : decode cX8_payment 11 = .ok (.invokevirtual 88, 3) := by decide +kernel
theorem dX8_payment_14 : decode cX8_payment 14 = .ok (.lreturn, 1) := by decide +kernel
theorem dX8_payment_15 : decode cX8_payment 15 = .ok (.aload_n 0, 1) := by decide +kernel
theorem dX8_payment_16 : decode cX8_payment 16 = .ok (.getfield 49, 3) := by decide +kernel
theorem dX8_payment_19 : decode cX8_payment 19 = .ok (.aload_n 0, 1) := by decide +kernel
theorem dX8_payment_20 : decode cX8_payment 20 = .ok (.getfield 42, 3) := by decide +kernel
theorem dX8_payment_23 : decode cX8_payment 23 = .ok (.invokevirtual 242, 3) := by decide +kernel
theorem dX8_payment_26 : decode cX8_payment 26 = .ok (.aload_n 0, 1) := by decide +kernel
theorem dX8_payment_27 : decode cX8_payment 27 = .ok (.getfield 49, 3) := by decide +kernel
theorem dX8_payment_30 : decode cX8_payment 30 = .ok (.iload_n 1, 1) := by decide +kernel
theorem dX8_payment_31 : decode cX8_payment 31 = .ok (.invokevirtual 252, 3) := by decide +kernel
theorem dX8_payment_34 : decode cX8_payment 34 = .ok (.ifCond .ne 9, 3) := by decide +kernel
theorem dX8_payment_37 : decode cX8_payment 37 = .ok (.aload_n 0, 1) := by decide +kernel
theorem dX8_payment_38 : decode cX8_payment 38 = .ok (.iconst 2, 1) := by decide +kernel
theorem dX8_payment_39 : decode cX8_payment 39 = .ok (.invokevirtual 88, 3) := by decide +kernel
theorem dX8_payment_42 : decode cX8_payment 42 = .ok (.lreturn, 1) := by decide +kernel
theorem dX8_payment_43 : decode cX8_payment 43 = .ok (.aload_n 0, 1) := by decide +kernel
theorem dX8_payment_44 : decode cX8_payment 44 = .ok (.getfield 49, 3) := by decide +kernel
theorem dX8_payment_47 : decode cX8_payment 47 = .ok (.iload_n 1, 1) := by decide +kernel
theorem dX8_payment_48 : decode cX8_payment 48 = .ok (.iload_n 2, 1) := by decide +kernel
theorem dX8_payment_49 : decode cX8_payment 49 = .ok (.invokevirtual 255, 3) := by decide +kernel
theorem dX8_payment_52 : decode cX8_payment 52 = .ok (.lreturn, 1) := by decide +kernel
set_option maxRecDepth 20000 in
theorem ggX8_clear_X5_refresh : GoodIn wsX8_clear wsX5_refresh := goodIn_r _ [8, 9, 10, 11, 12, 13, 14, 15, 7, 16, 17, 18, 19, 20, 21, 22, 23, 24, 25, 26, 27, 28, 29, 30, 31, 32, 33, 34, 35, 36, 37, 38, 39, 40, 41, 42, 43, 44, 45, 46, 47, 48, 49, 50, 51, 52, 53, 54, 55, 56, 57, 58, 59, 60, 61, 62, 63, 64, 107, 108, 109, 110, 111, 112, 113, 114, 115, 116, 117, 118, 119] rfl (by decide +kernel)
set_option maxRecDepth 20000 in
theorem gX8_clear_X5_refresh : GoodIn wsX8_clear (wsV RX8 242 RX5 yX5_refresh wsX5_refresh) := goodIn_app (goodIn_of _ (by decide +kernel)) ggX8_clear_X5_refresh
set_option maxRecDepth 20000 in
theorem ggX8_clear_X1_wipe : GoodIn wsX8_clear wsX1_wipe := goodIn_r _ [68, 23, 69, 118, 119] rfl (by decide +kernel)
set_option maxRecDepth 20000 in
theorem gX8_clear_X1_wipe : GoodIn wsX8_clear (wsV RX8 258 RX1 yX1_wipe wsX1_wipe) := goodIn_app (goodIn_of _ (by decide +kernel)) ggX8_clear_X1_wipe
set_option maxRecDepth 20000 in
theorem ggX8_clear_X5_figure : GoodIn wsX8_clear wsX5_figure := goodIn_r _ [73, 58, 59, 60, 74, 75, 76, 7, 77, 12, 107, 108, 109, 110, 111, 112, 113, 114, 115, 116, 117] rfl (by decide +kernel)
set_option maxRecDepth 20000 in
theorem gX8_clear_X5_figure : GoodIn wsX8_clear (wsV RX8 255 RX5 yX5_figure wsX5_figure) := goodIn_app (goodIn_of _ (by decide +kernel)) ggX8_clear_X5_figure
set_option maxRecDepth 20000 in
theorem ggX8_clear_X1_charge : GoodIn wsX8_clear wsX1_charge := goodIn_r _ [81, 23, 82, 83, 42, 84, 69, 118, 119] rfl (by decide +kernel)
set_option maxRecDepth 20000 in
theorem gX8_clear_X1_charge : GoodIn wsX8_clear (wsV RX8 232 RX1 yX1_charge wsX1_charge) := goodIn_app (goodIn_of _ (by decide +kernel)) ggX8_clear_X1_charge
set_option maxRecDepth 20000 in
theorem ggX8_clear_X1_total : GoodIn wsX8_clear wsX1_total := goodIn_r _ [88, 23, 118, 119] rfl (by decide +kernel)
set_option maxRecDepth 20000 in
theorem gX8_clear_X1_total : GoodIn wsX8_clear (wsV RX8 261 RX1 yX1_total wsX1_total) := goodIn_app (goodIn_of _ (by decide +kernel)) ggX8_clear_X1_total
theorem dX8_clear_0 : decode cX8_clear 0 = .ok (.aload_n 0, 1) := by decide +kernel
theorem dX8_clear_1 : decode cX8_clear 1 = .ok (.getfield 49, 3) := by decide +kernel
theorem dX8_clear_4 : decode cX8_clear 4 = .ok (.aload_n 0, 1) := by decide +kernel
theorem dX8_clear_5 : decode cX8_clear 5 = .ok (.getfield 42, 3) := by decide +kernel
theorem dX8_clear_8 : decode cX8_clear 8 = .ok (.invokevirtual 242, 3) := by decide +kernel
theorem dX8_clear_11 : decode cX8_clear 11 = .ok (.aload_n 0, 1) := by decide +kernel
theorem dX8_clear_12 : decode cX8_clear 12 = .ok (.getfield 42, 3) := by decide +kernel
theorem dX8_clear_15 : decode cX8_clear 15 = .ok (.invokevirtual 258, 3) := by decide +kernel
theorem dX8_clear_18 : decode cX8_clear 18 = .ok (.iconst 0, 1) := by decide +kernel
theorem dX8_clear_19 : decode cX8_clear 19 = .ok (.istore_n 1, 1) := by decide +kernel
theorem dX8_clear_20 : decode cX8_clear 20 = .ok (.iload_n 1, 1) := by decide +kernel
theorem dX8_clear_21 : decode cX8_clear 21 = .ok (.aload_n 0, 1) := by decide +kernel
theorem dX8_clear_22 : decode cX8_clear 22 = .ok (.getfield 49, 3) := by decide +kernel
theorem dX8_clear_25 : decode cX8_clear 25 = .ok (.getfield 249, 3) := by decide +kernel
theorem dX8_clear_28 : decode cX8_clear 28 = .ok (.if_icmp .ge 45, 3) := by decide +kernel
theorem dX8_clear_31 : decode cX8_clear 31 = .ok (.aload_n 0, 1) := by decide +kernel
theorem dX8_clear_32 : decode cX8_clear 32 = .ok (.getfield 42, 3) := by decide +kernel
theorem dX8_clear_35 : decode cX8_clear 35 = .ok (.aload_n 0, 1) := by decide +kernel
theorem dX8_clear_36 : decode cX8_clear 36 = .ok (.getfield 49, 3) := by decide +kernel
theorem dX8_clear_39 : decode cX8_clear 39 = .ok (.iload_n 1, 1) := by decide +kernel
theorem dX8_clear_40 : decode cX8_clear 40 = .ok (.iconst 0, 1) := by decide +kernel
theorem dX8_clear_41 : decode cX8_clear 41 = .ok (.invokevirtual 255, 3) := by decide +kernel
theorem dX8_clear_44 : decode cX8_clear 44 = .ok (.l2i, 1) := by decide +kernel
theorem dX8_clear_45 : decode cX8_clear 45 = .ok (.aload_n 0, 1) := by decide +kernel
theorem dX8_clear_46 : decode cX8_clear 46 = .ok (.getfield 49, 3) := by decide +kernel
theorem dX8_clear_49 : decode cX8_clear 49 = .ok (.iload_n 1, 1) := by decide +kernel
theorem dX8_clear_50 : decode cX8_clear 50 = .ok (.iconst 1, 1) := by decide +kernel
theorem dX8_clear_51 : decode cX8_clear 51 = .ok (.invokevirtual 255, 3) := by decide +kernel
theorem dX8_clear_54 : decode cX8_clear 54 = .ok (.l2i, 1) := by decide +kernel
theorem dX8_clear_55 : decode cX8_clear 55 = .ok (.aload_n 0, 1) := by decide +kernel
theorem dX8_clear_56 : decode cX8_clear 56 = .ok (.getfield 49, 3) := by decide +kernel
theorem dX8_clear_59 : decode cX8_clear 59 = .ok (.iload_n 1, 1) := by decide +kernel
theorem dX8_clear_60 : decode cX8_clear 60 = .ok (.iconst 2, 1) := by decide +kernel
theorem dX8_clear_61 : decode cX8_clear 61 = .ok (.invokevirtual 255, 3) := by decide +kernel
theorem dX8_clear_64 : decode cX8_clear 64 = .ok (.invokevirtual 232, 3) := by decide +kernel
theorem dX8_clear_67 : decode cX8_clear 67 = .ok (.iinc 1 1, 3) := by decide +kernel
theorem dX8_clear_70 : decode cX8_clear 70 = .ok (.goto (-50), 3) := by decide +kernel

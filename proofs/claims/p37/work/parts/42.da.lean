theorem dX0_init_0 : decode cX0_init 0 = .ok (.aload_n 0, 1) := by decide +kernel
theorem dX0_init_1 : decode cX0_init 1 = .ok (.invokespecial 1, 3) := by decide +kernel
theorem dX0_init_4 : decode cX0_init 4 = .ok (.aload_n 0, 1) := by decide +kernel
theorem dX0_init_5 : decode cX0_init 5 = .ok (.iconst 4, 1) := by decide +kernel
theorem dX0_init_6 : decode cX0_init 6 = .ok (.newarray .int, 2) := by decide +kernel
theorem dX0_init_8 : decode cX0_init 8 = .ok (.putfield 9, 3) := by decide +kernel
theorem dX0_init_11 : decode cX0_init 11 = .ok (.aload_n 0, 1) := by decide +kernel
theorem dX0_init_12 : decode cX0_init 12 = .ok (.iconst 5, 1) := by decide +kernel
theorem dX0_init_13 : decode cX0_init 13 = .ok (.newarray .int, 2) := by decide +kernel
theorem dX0_init_15 : decode cX0_init 15 = .ok (.putfield 13, 3) := by decide +kernel
theorem dX0_init_18 : decode cX0_init 18 = .ok (.aload_n 0, 1) := by decide +kernel
theorem dX0_init_19 : decode cX0_init 19 = .ok (.iload_n 1, 1) := by decide +kernel
theorem dX0_init_20 : decode cX0_init 20 = .ok (.putfield 16, 3) := by decide +kernel
theorem dX0_init_23 : decode cX0_init 23 = .ok (.aload_n 0, 1) := by decide +kernel
theorem dX0_init_24 : decode cX0_init 24 = .ok (.iload_n 2, 1) := by decide +kernel
theorem dX0_init_25 : decode cX0_init 25 = .ok (.putfield 20, 3) := by decide +kernel
theorem dX0_init_28 : decode cX0_init 28 = .ok (.aload_n 0, 1) := by decide +kernel
theorem dX0_init_29 : decode cX0_init 29 = .ok (.iload_n 3, 1) := by decide +kernel
theorem dX0_init_30 : decode cX0_init 30 = .ok (.putfield 23, 3) := by decide +kernel
theorem dX0_init_33 : decode cX0_init 33 = .ok (.aload_n 0, 1) := by decide +kernel
theorem dX0_init_34 : decode cX0_init 34 = .ok (.iload 4, 2) := by decide +kernel
theorem dX0_init_36 : decode cX0_init 36 = .ok (.putfield 26, 3) := by decide +kernel
theorem dX0_init_39 : decode cX0_init 39 = .ok (.aload_n 0, 1) := by decide +kernel
theorem dX0_init_40 : decode cX0_init 40 = .ok (.iload 5, 2) := by decide +kernel
theorem dX0_init_42 : decode cX0_init 42 = .ok (.putfield 29, 3) := by decide +kernel
theorem dX0_init_45 : decode cX0_init 45 = .ok (.iconst 0, 1) := by decide +kernel
theorem dX0_init_46 : decode cX0_init 46 = .ok (.istore 6, 2) := by decide +kernel
theorem dX0_init_48 : decode cX0_init 48 = .ok (.iload 6, 2) := by decide +kernel
theorem dX0_init_50 : decode cX0_init 50 = .ok (.iconst 4, 1) := by decide +kernel
theorem dX0_init_51 : decode cX0_init 51 = .ok (.if_icmp .gt 17, 3) := by decide +kernel
theorem dX0_init_54 : decode cX0_init 54 = .ok (.aload_n 0, 1) := by decide +kernel
theorem dX0_init_55 : decode cX0_init 55 = .ok (.getfield 13, 3) := by decide +kernel
theorem dX0_init_58 : decode cX0_init 58 = .ok (.iload 6, 2) := by decide +kernel
theorem dX0_init_60 : decode cX0_init 60 = .ok (.iconst (-1), 1) := by decide +kernel
theorem dX0_init_61 : decode cX0_init 61 = .ok (.iastore, 1) := by decide +kernel
theorem dX0_init_62 : decode cX0_init 62 = .ok (.iinc 6 1, 3) := by decide +kernel
theorem dX0_init_65 : decode cX0_init 65 = .ok (.goto (-17), 3) := by decide +kernel
theorem dX0_init_68 : decode cX0_init 68 = .ok (.return_, 1) := by decide +kernel
theorem dX0_become_0 : decode cX0_become 0 = .ok (.aload_n 0, 1) := by decide +kernel
theorem dX0_become_1 : decode cX0_become 1 = .ok (.iload_n 1, 1) := by decide +kernel
theorem dX0_become_2 : decode cX0_become 2 = .ok (.putfield 32, 3) := by decide +kernel
theorem dX0_become_5 : decode cX0_become 5 = .ok (.aload_n 0, 1) := by decide +kernel
theorem dX0_become_6 : decode cX0_become 6 = .ok (.getfield 13, 3) := by decide +kernel
theorem dX0_become_9 : decode cX0_become 9 = .ok (.iload_n 1, 1) := by decide +kernel
theorem dX0_become_10 : decode cX0_become 10 = .ok (.iload_n 2, 1) := by decide +kernel
theorem dX0_become_11 : decode cX0_become 11 = .ok (.iastore, 1) := by decide +kernel
theorem dX0_become_12 : decode cX0_become 12 = .ok (.return_, 1) := by decide +kernel
theorem dX0_stateDay_0 : decode cX0_stateDay 0 = .ok (.aload_n 0, 1) := by decide +kernel
theorem dX0_stateDay_1 : decode cX0_stateDay 1 = .ok (.getfield 13, 3) := by decide +kernel
theorem dX0_stateDay_4 : decode cX0_stateDay 4 = .ok (.aload_n 0, 1) := by decide +kernel
theorem dX0_stateDay_5 : decode cX0_stateDay 5 = .ok (.getfield 32, 3) := by decide +kernel
theorem dX0_stateDay_8 : decode cX0_stateDay 8 = .ok (.iaload, 1) := by decide +kernel
theorem dX0_stateDay_9 : decode cX0_stateDay 9 = .ok (.ireturn, 1) := by decide +kernel
theorem dX0_daysLate_0 : decode cX0_daysLate 0 = .ok (.aload_n 0, 1) := by decide +kernel
theorem dX0_daysLate_1 : decode cX0_daysLate 1 = .ok (.getfield 13, 3) := by decide +kernel
theorem dX0_daysLate_4 : decode cX0_daysLate 4 = .ok (.iconst 3, 1) := by decide +kernel
theorem dX0_daysLate_5 : decode cX0_daysLate 5 = .ok (.iaload, 1) := by decide +kernel
theorem dX0_daysLate_6 : decode cX0_daysLate 6 = .ok (.aload_n 0, 1) := by decide +kernel
theorem dX0_daysLate_7 : decode cX0_daysLate 7 = .ok (.getfield 13, 3) := by decide +kernel
theorem dX0_daysLate_10 : decode cX0_daysLate 10 = .ok (.iconst 2, 1) := by decide +kernel
theorem dX0_daysLate_11 : decode cX0_daysLate 11 = .ok (.iaload, 1) := by decide +kernel
theorem dX0_daysLate_12 : decode cX0_daysLate 12 = .ok (.isub, 1) := by decide +kernel
theorem dX0_daysLate_13 : decode cX0_daysLate 13 = .ok (.ireturn, 1) := by decide +kernel
theorem dX0_latestStateBy_0 : decode cX0_latestStateBy 0 = .ok (.iconst 4, 1) := by decide +kernel
theorem dX0_latestStateBy_1 : decode cX0_latestStateBy 1 = .ok (.istore_n 2, 1) := by decide +kernel
theorem dX0_latestStateBy_2 : decode cX0_latestStateBy 2 = .ok (.iload_n 2, 1) := by decide +kernel
theorem dX0_latestStateBy_3 : decode cX0_latestStateBy 3 = .ok (.ifCond .lt 31, 3) := by decide +kernel
theorem dX0_latestStateBy_6 : decode cX0_latestStateBy 6 = .ok (.aload_n 0, 1) := by decide +kernel
theorem dX0_latestStateBy_7 : decode cX0_latestStateBy 7 = .ok (.getfield 13, 3) := by decide +kernel
theorem dX0_latestStateBy_10 : decode cX0_latestStateBy 10 = .ok (.iload_n 2, 1) := by decide +kernel
theorem dX0_latestStateBy_11 : decode cX0_latestStateBy 11 = .ok (.iaload, 1) := by decide +kernel
theorem dX0_latestStateBy_12 : decode cX0_latestStateBy 12 = .ok (.iconst (-1), 1) := by decide +kernel
theorem dX0_latestStateBy_13 : decode cX0_latestStateBy 13 = .ok (.if_icmp .eq 15, 3) := by decide +kernel
theorem dX0_latestStateBy_16 : decode cX0_latestStateBy 16 = .ok (.aload_n 0, 1) := by decide +kernel
theorem dX0_latestStateBy_17 : decode cX0_latestStateBy 17 = .ok (.getfield 13, 3) := by decide +kernel
theorem dX0_latestStateBy_20 : decode cX0_latestStateBy 20 = .ok (.iload_n 2, 1) := by decide +kernel
theorem dX0_latestStateBy_21 : decode cX0_latestStateBy 21 = .ok (.iaload, 1) := by decide +kernel
theorem dX0_latestStateBy_22 : decode cX0_latestStateBy 22 = .ok (.iload_n 1, 1) := by decide +kernel
theorem dX0_latestStateBy_23 : decode cX0_latestStateBy 23 = .ok (.if_icmp .gt 5, 3) := by decide +kernel
theorem dX0_latestStateBy_26 : decode cX0_latestStateBy 26 = .ok (.iload_n 2, 1) := by decide +kernel
theorem dX0_latestStateBy_27 : decode cX0_latestStateBy 27 = .ok (.ireturn, 1) := by decide +kernel
theorem dX0_latestStateBy_28 : decode cX0_latestStateBy 28 = .ok (.iinc 2 (-1), 3) := by decide +kernel
theorem dX0_latestStateBy_31 : decode cX0_latestStateBy 31 = .ok (.goto (-29), 3) := by decide +kernel
theorem dX0_latestStateBy_34 : decode cX0_latestStateBy 34 = .ok (.iconst (-1), 1) := by decide +kernel
theorem dX0_latestStateBy_35 : decode cX0_latestStateBy 35 = .ok (.ireturn, 1) := by decide +kernel
theorem dX0_hasEndorser_0 : decode cX0_hasEndorser 0 = .ok (.iload_n 1, 1) := by decide +kernel
theorem dX0_hasEndorser_1 : decode cX0_hasEndorser 1 = .ok (.ifCond .lt 15, 3) := by decide +kernel
theorem dX0_hasEndorser_4 : decode cX0_hasEndorser 4 = .ok (.iload_n 1, 1) := by decide +kernel
theorem dX0_hasEndorser_5 : decode cX0_hasEndorser 5 = .ok (.aload_n 0, 1) := by decide +kernel
theorem dX0_hasEndorser_6 : decode cX0_hasEndorser 6 = .ok (.getfield 35, 3) := by decide +kernel
theorem dX0_hasEndorser_9 : decode cX0_hasEndorser 9 = .ok (.if_icmp .ge 7, 3) := by decide +kernel
theorem dX0_hasEndorser_12 : decode cX0_hasEndorser 12 = .ok (.iconst 1, 1) := by decide +kernel
theorem dX0_hasEndorser_13 : decode cX0_hasEndorser 13 = .ok (.goto 4, 3) := by decide +kernel
theorem dX0_hasEndorser_16 : decode cX0_hasEndorser 16 = .ok (.iconst 0, 1) := by decide +kernel
theorem dX0_hasEndorser_17 : decode cX0_hasEndorser 17 = .ok (.ireturn, 1) := by decide +kernel
theorem dX0_endorserAt_0 : decode cX0_endorserAt 0 = .ok (.iload_n 1, 1) := by decide +kernel
theorem dX0_endorserAt_1 : decode cX0_endorserAt 1 = .ok (.ifCond .lt 17, 3) := by decide +kernel
theorem dX0_endorserAt_4 : decode cX0_endorserAt 4 = .ok (.iload_n 1, 1) := by decide +kernel
theorem dX0_endorserAt_5 : decode cX0_endorserAt 5 = .ok (.iconst 4, 1) := by decide +kernel
theorem dX0_endorserAt_6 : decode cX0_endorserAt 6 = .ok (.if_icmp .ge 12, 3) := by decide +kernel
theorem dX0_endorserAt_9 : decode cX0_endorserAt 9 = .ok (.aload_n 0, 1) := by decide +kernel
theorem dX0_endorserAt_10 : decode cX0_endorserAt 10 = .ok (.getfield 9, 3) := by decide +kernel
theorem dX0_endorserAt_13 : decode cX0_endorserAt 13 = .ok (.iload_n 1, 1) := by decide +kernel
theorem dX0_endorserAt_14 : decode cX0_endorserAt 14 = .ok (.iaload, 1) := by decide +kernel
theorem dX0_endorserAt_15 : decode cX0_endorserAt 15 = .ok (.goto 4, 3) := by decide +kernel
theorem dX0_endorserAt_18 : decode cX0_endorserAt 18 = .ok (.iconst (-1), 1) := by decide +kernel
theorem dX0_endorserAt_19 : decode cX0_endorserAt 19 = .ok (.ireturn, 1) := by decide +kernel
theorem dX0_hasRoomToPass_0 : decode cX0_hasRoomToPass 0 = .ok (.aload_n 0, 1) := by decide +kernel
theorem dX0_hasRoomToPass_1 : decode cX0_hasRoomToPass 1 = .ok (.getfield 16, 3) := by decide +kernel
theorem dX0_hasRoomToPass_4 : decode cX0_hasRoomToPass 4 = .ok (.iconst 1, 1) := by decide +kernel
theorem dX0_hasRoomToPass_5 : decode cX0_hasRoomToPass 5 = .ok (.if_icmp .eq 11, 3) := by decide +kernel
theorem dX0_hasRoomToPass_8 : decode cX0_hasRoomToPass 8 = .ok (.aload_n 0, 1) := by decide +kernel
theorem dX0_hasRoomToPass_9 : decode cX0_hasRoomToPass 9 = .ok (.getfield 35, 3) := by decide +kernel
theorem dX0_hasRoomToPass_12 : decode cX0_hasRoomToPass 12 = .ok (.iconst 4, 1) := by decide +kernel
theorem dX0_hasRoomToPass_13 : decode cX0_hasRoomToPass 13 = .ok (.if_icmp .ge 7, 3) := by decide +kernel
theorem dX0_hasRoomToPass_16 : decode cX0_hasRoomToPass 16 = .ok (.iconst 1, 1) := by decide +kernel
theorem dX0_hasRoomToPass_17 : decode cX0_hasRoomToPass 17 = .ok (.goto 4, 3) := by decide +kernel
theorem dX0_hasRoomToPass_20 : decode cX0_hasRoomToPass 20 = .ok (.iconst 0, 1) := by decide +kernel
theorem dX0_hasRoomToPass_21 : decode cX0_hasRoomToPass 21 = .ok (.ireturn, 1) := by decide +kernel
theorem dX0_moveTo_0 : decode cX0_moveTo 0 = .ok (.aload_n 0, 1) := by decide +kernel
theorem dX0_moveTo_1 : decode cX0_moveTo 1 = .ok (.getfield 16, 3) := by decide +kernel
theorem dX0_moveTo_4 : decode cX0_moveTo 4 = .ok (.iconst 1, 1) := by decide +kernel
theorem dX0_moveTo_5 : decode cX0_moveTo 5 = .ok (.if_icmp .eq 34, 3) := by decide +kernel
theorem dX0_moveTo_8 : decode cX0_moveTo 8 = .ok (.aload_n 0, 1) := by decide +kernel
theorem dX0_moveTo_9 : decode cX0_moveTo 9 = .ok (.getfield 35, 3) := by decide +kernel
theorem dX0_moveTo_12 : decode cX0_moveTo 12 = .ok (.iconst 4, 1) := by decide +kernel
theorem dX0_moveTo_13 : decode cX0_moveTo 13 = .ok (.if_icmp .ge 26, 3) := by decide +kernel
theorem dX0_moveTo_16 : decode cX0_moveTo 16 = .ok (.aload_n 0, 1) := by decide +kernel
theorem dX0_moveTo_17 : decode cX0_moveTo 17 = .ok (.getfield 9, 3) := by decide +kernel
theorem dX0_moveTo_20 : decode cX0_moveTo 20 = .ok (.aload_n 0, 1) := by decide +kernel
theorem dX0_moveTo_21 : decode cX0_moveTo 21 = .ok (.getfield 35, 3) := by decide +kernel
theorem dX0_moveTo_24 : decode cX0_moveTo 24 = .ok (.aload_n 0, 1) := by decide +kernel
theorem dX0_moveTo_25 : decode cX0_moveTo 25 = .ok (.getfield 26, 3) := by decide +kernel
theorem dX0_moveTo_28 : decode cX0_moveTo 28 = .ok (.iastore, 1) := by decide +kernel
theorem dX0_moveTo_29 : decode cX0_moveTo 29 = .ok (.aload_n 0, 1) := by decide +kernel
theorem dX0_moveTo_30 : decode cX0_moveTo 30 = .ok (.dup, 1) := by decide +kernel
theorem dX0_moveTo_31 : decode cX0_moveTo 31 = .ok (.getfield 35, 3) := by decide +kernel
theorem dX0_moveTo_34 : decode cX0_moveTo 34 = .ok (.iconst 1, 1) := by decide +kernel
theorem dX0_moveTo_35 : decode cX0_moveTo 35 = .ok (.iadd, 1) := by decide +kernel
theorem dX0_moveTo_36 : decode cX0_moveTo 36 = .ok (.putfield 35, 3) := by decide +kernel
theorem dX0_moveTo_39 : decode cX0_moveTo 39 = .ok (.aload_n 0, 1) := by decide +kernel
theorem dX0_moveTo_40 : decode cX0_moveTo 40 = .ok (.iload_n 1, 1) := by decide +kernel
theorem dX0_moveTo_41 : decode cX0_moveTo 41 = .ok (.putfield 26, 3) := by decide +kernel
theorem dX0_moveTo_44 : decode cX0_moveTo 44 = .ok (.return_, 1) := by decide +kernel
set_option maxRecDepth 20000 in
theorem ggX0_returnTo_X0_hasEndorser : GoodIn wsX0_returnTo wsX0_hasEndorser := goodIn_r _ [8, 3, 9, 10, 11, 12, 13, 14, 15, 16, 17, 18] rfl (by decide +kernel)
set_option maxRecDepth 20000 in
theorem gX0_returnTo_X0_hasEndorser : GoodIn wsX0_returnTo (wsV RX0 38 RX0 yX0_hasEndorser wsX0_hasEndorser) := goodIn_app (goodIn_of _ (by decide +kernel)) ggX0_returnTo_X0_hasEndorser
theorem dX0_returnTo_0 : decode cX0_returnTo 0 = .ok (.aload_n 0, 1) := by decide +kernel
theorem dX0_returnTo_1 : decode cX0_returnTo 1 = .ok (.iload_n 1, 1) := by decide +kernel
theorem dX0_returnTo_2 : decode cX0_returnTo 2 = .ok (.invokevirtual 38, 3) := by decide +kernel
theorem dX0_returnTo_5 : decode cX0_returnTo 5 = .ok (.ifCond .eq 18, 3) := by decide +kernel
theorem dX0_returnTo_8 : decode cX0_returnTo 8 = .ok (.aload_n 0, 1) := by decide +kernel
theorem dX0_returnTo_9 : decode cX0_returnTo 9 = .ok (.aload_n 0, 1) := by decide +kernel
theorem dX0_returnTo_10 : decode cX0_returnTo 10 = .ok (.getfield 9, 3) := by decide +kernel
theorem dX0_returnTo_13 : decode cX0_returnTo 13 = .ok (.iload_n 1, 1) := by decide +kernel
theorem dX0_returnTo_14 : decode cX0_returnTo 14 = .ok (.iaload, 1) := by decide +kernel
theorem dX0_returnTo_15 : decode cX0_returnTo 15 = .ok (.putfield 26, 3) := by decide +kernel
theorem dX0_returnTo_18 : decode cX0_returnTo 18 = .ok (.aload_n 0, 1) := by decide +kernel
theorem dX0_returnTo_19 : decode cX0_returnTo 19 = .ok (.iload_n 1, 1) := by decide +kernel
theorem dX0_returnTo_20 : decode cX0_returnTo 20 = .ok (.putfield 35, 3) := by decide +kernel
theorem dX0_returnTo_23 : decode cX0_returnTo 23 = .ok (.return_, 1) := by decide +kernel
theorem dX0_pledgedBy_0 : decode cX0_pledgedBy 0 = .ok (.aload_n 0, 1) := by decide +kernel
theorem dX0_pledgedBy_1 : decode cX0_pledgedBy 1 = .ok (.getfield 16, 3) := by decide +kernel
theorem dX0_pledgedBy_4 : decode cX0_pledgedBy 4 = .ok (.iconst 2, 1) := by decide +kernel
theorem dX0_pledgedBy_5 : decode cX0_pledgedBy 5 = .ok (.if_icmp .ne 22, 3) := by decide +kernel
theorem dX0_pledgedBy_8 : decode cX0_pledgedBy 8 = .ok (.aload_n 0, 1) := by decide +kernel
theorem dX0_pledgedBy_9 : decode cX0_pledgedBy 9 = .ok (.getfield 42, 3) := by decide +kernel
theorem dX0_pledgedBy_12 : decode cX0_pledgedBy 12 = .ok (.ifCond .eq 15, 3) := by decide +kernel
theorem dX0_pledgedBy_15 : decode cX0_pledgedBy 15 = .ok (.aload_n 0, 1) := by decide +kernel
theorem dX0_pledgedBy_16 : decode cX0_pledgedBy 16 = .ok (.getfield 23, 3) := by decide +kernel
theorem dX0_pledgedBy_19 : decode cX0_pledgedBy 19 = .ok (.iload_n 1, 1) := by decide +kernel
theorem dX0_pledgedBy_20 : decode cX0_pledgedBy 20 = .ok (.if_icmp .ne 7, 3) := by decide +kernel
theorem dX0_pledgedBy_23 : decode cX0_pledgedBy 23 = .ok (.iconst 1, 1) := by decide +kernel
theorem dX0_pledgedBy_24 : decode cX0_pledgedBy 24 = .ok (.goto 4, 3) := by decide +kernel
theorem dX0_pledgedBy_27 : decode cX0_pledgedBy 27 = .ok (.iconst 0, 1) := by decide +kernel
theorem dX0_pledgedBy_28 : decode cX0_pledgedBy 28 = .ok (.ireturn, 1) := by decide +kernel
theorem dX1_init_0 : decode cX1_init 0 = .ok (.aload_n 0, 1) := by decide +kernel
theorem dX1_init_1 : decode cX1_init 1 = .ok (.invokespecial 3, 3) := by decide +kernel
theorem dX1_init_4 : decode cX1_init 4 = .ok (.aload_n 0, 1) := by decide +kernel
theorem dX1_init_5 : decode cX1_init 5 = .ok (.bipush 10, 2) := by decide +kernel
theorem dX1_init_7 : decode cX1_init 7 = .ok (.bipush 10, 2) := by decide +kernel
theorem dX1_init_9 : decode cX1_init 9 = .ok (.multianewarray 9 2, 4) := by decide +kernel
theorem dX1_init_13 : decode cX1_init 13 = .ok (.putfield 11, 3) := by decide +kernel
theorem dX1_init_16 : decode cX1_init 16 = .ok (.return_, 1) := by decide +kernel
theorem dX1_debt_0 : decode cX1_debt 0 = .ok (.aload_n 0, 1) := by decide +kernel
theorem dX1_debt_1 : decode cX1_debt 1 = .ok (.getfield 11, 3) := by decide +kernel
theorem dX1_debt_4 : decode cX1_debt 4 = .ok (.iload_n 1, 1) := by decide +kernel
theorem dX1_debt_5 : decode cX1_debt 5 = .ok (.aaload, 1) := by decide +kernel
theorem dX1_debt_6 : decode cX1_debt 6 = .ok (.iload_n 2, 1) := by decide +kernel
theorem dX1_debt_7 : decode cX1_debt 7 = .ok (.laload, 1) := by decide +kernel
theorem dX1_debt_8 : decode cX1_debt 8 = .ok (.lreturn, 1) := by decide +kernel
theorem dX1_overfills_0 : decode cX1_overfills 0 = .ok (.aload_n 0, 1) := by decide +kernel
theorem dX1_overfills_1 : decode cX1_overfills 1 = .ok (.getfield 11, 3) := by decide +kernel
theorem dX1_overfills_4 : decode cX1_overfills 4 = .ok (.iload_n 1, 1) := by decide +kernel
theorem dX1_overfills_5 : decode cX1_overfills 5 = .ok (.aaload, 1) := by decide +kernel
theorem dX1_overfills_6 : decode cX1_overfills 6 = .ok (.iload_n 2, 1) := by decide +kernel
theorem dX1_overfills_7 : decode cX1_overfills 7 = .ok (.laload, 1) := by decide +kernel
theorem dX1_overfills_8 : decode cX1_overfills 8 = .ok (.aload_n 0, 1) := by decide +kernel
theorem dX1_overfills_9 : decode cX1_overfills 9 = .ok (.getfield 11, 3) := by decide +kernel
theorem dX1_overfills_12 : decode cX1_overfills 12 = .ok (.iload_n 2, 1) := by decide +kernel
theorem dX1_overfills_13 : decode cX1_overfills 13 = .ok (.aaload, 1) := by decide +kernel
theorem dX1_overfills_14 : decode cX1_overfills 14 = .ok (.iload_n 1, 1) := by decide +kernel
theorem dX1_overfills_15 : decode cX1_overfills 15 = .ok (.laload, 1) := by decide +kernel
theorem dX1_overfills_16 : decode cX1_overfills 16 = .ok (.lsub, 1) := by decide +kernel
theorem dX1_overfills_17 : decode cX1_overfills 17 = .ok (.lload_n 3, 1) := by decide +kernel
theorem dX1_overfills_18 : decode cX1_overfills 18 = .ok (.ladd, 1) := by decide +kernel
theorem dX1_overfills_19 : decode cX1_overfills 19 = .ok (.invokestatic 16, 3) := by decide +kernel
theorem dX1_overfills_22 : decode cX1_overfills 22 = .ok (.ldc2_w 22, 3) := by decide +kernel
theorem dX1_overfills_25 : decode cX1_overfills 25 = .ok (.lcmp, 1) := by decide +kernel
theorem dX1_overfills_26 : decode cX1_overfills 26 = .ok (.ifCond .le 7, 3) := by decide +kernel
theorem dX1_overfills_29 : decode cX1_overfills 29 = .ok (.iconst 1, 1) := by decide +kernel
theorem dX1_overfills_30 : decode cX1_overfills 30 = .ok (.goto 4, 3) := by decide +kernel
theorem dX1_overfills_33 : decode cX1_overfills 33 = .ok (.iconst 0, 1) := by decide +kernel
theorem dX1_overfills_34 : decode cX1_overfills 34 = .ok (.ireturn, 1) := by decide +kernel
theorem dX1_charge_0 : decode cX1_charge 0 = .ok (.aload_n 0, 1) := by decide +kernel
theorem dX1_charge_1 : decode cX1_charge 1 = .ok (.getfield 11, 3) := by decide +kernel
theorem dX1_charge_4 : decode cX1_charge 4 = .ok (.iload_n 1, 1) := by decide +kernel
theorem dX1_charge_5 : decode cX1_charge 5 = .ok (.aaload, 1) := by decide +kernel
theorem dX1_charge_6 : decode cX1_charge 6 = .ok (.iload_n 2, 1) := by decide +kernel
theorem dX1_charge_7 : decode cX1_charge 7 = .ok (.laload, 1) := by decide +kernel
theorem dX1_charge_8 : decode cX1_charge 8 = .ok (.aload_n 0, 1) := by decide +kernel
theorem dX1_charge_9 : decode cX1_charge 9 = .ok (.getfield 11, 3) := by decide +kernel
theorem dX1_charge_12 : decode cX1_charge 12 = .ok (.iload_n 2, 1) := by decide +kernel
theorem dX1_charge_13 : decode cX1_charge 13 = .ok (.aaload, 1) := by decide +kernel
theorem dX1_charge_14 : decode cX1_charge 14 = .ok (.iload_n 1, 1) := by decide +kernel
theorem dX1_charge_15 : decode cX1_charge 15 = .ok (.laload, 1) := by decide +kernel
theorem dX1_charge_16 : decode cX1_charge 16 = .ok (.lsub, 1) := by decide +kernel
theorem dX1_charge_17 : decode cX1_charge 17 = .ok (.lload_n 3, 1) := by decide +kernel
theorem dX1_charge_18 : decode cX1_charge 18 = .ok (.ladd, 1) := by decide +kernel
theorem dX1_charge_19 : decode cX1_charge 19 = .ok (.lstore 5, 2) := by decide +kernel
theorem dX1_charge_21 : decode cX1_charge 21 = .ok (.aload_n 0, 1) := by decide +kernel
theorem dX1_charge_22 : decode cX1_charge 22 = .ok (.getfield 11, 3) := by decide +kernel
theorem dX1_charge_25 : decode cX1_charge 25 = .ok (.iload_n 1, 1) := by decide +kernel
theorem dX1_charge_26 : decode cX1_charge 26 = .ok (.aaload, 1) := by decide +kernel
theorem dX1_charge_27 : decode cX1_charge 27 = .ok (.iload_n 2, 1) := by decide +kernel
theorem dX1_charge_28 : decode cX1_charge 28 = .ok (.lload 5, 2) := by decide +kernel
theorem dX1_charge_30 : decode cX1_charge 30 = .ok (.lconst 0, 1) := by decide +kernel
theorem dX1_charge_31 : decode cX1_charge 31 = .ok (.invokestatic 24, 3) := by decide +kernel
theorem dX1_charge_34 : decode cX1_charge 34 = .ok (.lastore, 1) := by decide +kernel
theorem dX1_charge_35 : decode cX1_charge 35 = .ok (.aload_n 0, 1) := by decide +kernel
theorem dX1_charge_36 : decode cX1_charge 36 = .ok (.getfield 11, 3) := by decide +kernel
theorem dX1_charge_39 : decode cX1_charge 39 = .ok (.iload_n 2, 1) := by decide +kernel
theorem dX1_charge_40 : decode cX1_charge 40 = .ok (.aaload, 1) := by decide +kernel
theorem dX1_charge_41 : decode cX1_charge 41 = .ok (.iload_n 1, 1) := by decide +kernel
theorem dX1_charge_42 : decode cX1_charge 42 = .ok (.lload 5, 2) := by decide +kernel
theorem dX1_charge_44 : decode cX1_charge 44 = .ok (.lneg, 1) := by decide +kernel
theorem dX1_charge_45 : decode cX1_charge 45 = .ok (.lconst 0, 1) := by decide +kernel
theorem dX1_charge_46 : decode cX1_charge 46 = .ok (.invokestatic 24, 3) := by decide +kernel
theorem dX1_charge_49 : decode cX1_charge 49 = .ok (.lastore, 1) := by decide +kernel
theorem dX1_charge_50 : decode cX1_charge 50 = .ok (.aload_n 0, 1) := by decide +kernel
theorem dX1_charge_51 : decode cX1_charge 51 = .ok (.dup, 1) := by decide +kernel
theorem dX1_charge_52 : decode cX1_charge 52 = .ok (.getfield 28, 3) := by decide +kernel
theorem dX1_charge_55 : decode cX1_charge 55 = .ok (.lconst 1, 1) := by decide +kernel
theorem dX1_charge_56 : decode cX1_charge 56 = .ok (.ladd, 1) := by decide +kernel
theorem dX1_charge_57 : decode cX1_charge 57 = .ok (.putfield 28, 3) := by decide +kernel
theorem dX1_charge_60 : decode cX1_charge 60 = .ok (.return_, 1) := by decide +kernel
theorem dX1_lessen_0 : decode cX1_lessen 0 = .ok (.aload_n 0, 1) := by decide +kernel
theorem dX1_lessen_1 : decode cX1_lessen 1 = .ok (.getfield 11, 3) := by decide +kernel
theorem dX1_lessen_4 : decode cX1_lessen 4 = .ok (.iload_n 1, 1) := by decide +kernel
theorem dX1_lessen_5 : decode cX1_lessen 5 = .ok (.aaload, 1) := by decide +kernel
theorem dX1_lessen_6 : decode cX1_lessen 6 = .ok (.iload_n 2, 1) := by decide +kernel
theorem dX1_lessen_7 : decode cX1_lessen 7 = .ok (.dup2, 1) := by decide +kernel
theorem dX1_lessen_8 : decode cX1_lessen 8 = .ok (.laload, 1) := by decide +kernel
theorem dX1_lessen_9 : decode cX1_lessen 9 = .ok (.lload_n 3, 1) := by decide +kernel
theorem dX1_lessen_10 : decode cX1_lessen 10 = .ok (.lsub, 1) := by decide +kernel
theorem dX1_lessen_11 : decode cX1_lessen 11 = .ok (.lastore, 1) := by decide +kernel
theorem dX1_lessen_12 : decode cX1_lessen 12 = .ok (.aload_n 0, 1) := by decide +kernel
theorem dX1_lessen_13 : decode cX1_lessen 13 = .ok (.dup, 1) := by decide +kernel
theorem dX1_lessen_14 : decode cX1_lessen 14 = .ok (.getfield 28, 3) := by decide +kernel
theorem dX1_lessen_17 : decode cX1_lessen 17 = .ok (.lconst 1, 1) := by decide +kernel
theorem dX1_lessen_18 : decode cX1_lessen 18 = .ok (.ladd, 1) := by decide +kernel
theorem dX1_lessen_19 : decode cX1_lessen 19 = .ok (.putfield 28, 3) := by decide +kernel
theorem dX1_lessen_22 : decode cX1_lessen 22 = .ok (.return_, 1) := by decide +kernel
theorem dX1_wipe_0 : decode cX1_wipe 0 = .ok (.iconst 0, 1) := by decide +kernel
theorem dX1_wipe_1 : decode cX1_wipe 1 = .ok (.istore_n 1, 1) := by decide +kernel
theorem dX1_wipe_2 : decode cX1_wipe 2 = .ok (.iload_n 1, 1) := by decide +kernel
theorem dX1_wipe_3 : decode cX1_wipe 3 = .ok (.bipush 10, 2) := by decide +kernel
theorem dX1_wipe_5 : decode cX1_wipe 5 = .ok (.if_icmp .ge 32, 3) := by decide +kernel
theorem dX1_wipe_8 : decode cX1_wipe 8 = .ok (.iconst 0, 1) := by decide +kernel
theorem dX1_wipe_9 : decode cX1_wipe 9 = .ok (.istore_n 2, 1) := by decide +kernel
theorem dX1_wipe_10 : decode cX1_wipe 10 = .ok (.iload_n 2, 1) := by decide +kernel
theorem dX1_wipe_11 : decode cX1_wipe 11 = .ok (.bipush 10, 2) := by decide +kernel
theorem dX1_wipe_13 : decode cX1_wipe 13 = .ok (.if_icmp .ge 18, 3) := by decide +kernel
theorem dX1_wipe_16 : decode cX1_wipe 16 = .ok (.aload_n 0, 1) := by decide +kernel
theorem dX1_wipe_17 : decode cX1_wipe 17 = .ok (.getfield 11, 3) := by decide +kernel
theorem dX1_wipe_20 : decode cX1_wipe 20 = .ok (.iload_n 1, 1) := by decide +kernel
theorem dX1_wipe_21 : decode cX1_wipe 21 = .ok (.aaload, 1) := by decide +kernel
theorem dX1_wipe_22 : decode cX1_wipe 22 = .ok (.iload_n 2, 1) := by decide +kernel
theorem dX1_wipe_23 : decode cX1_wipe 23 = .ok (.lconst 0, 1) := by decide +kernel
theorem dX1_wipe_24 : decode cX1_wipe 24 = .ok (.lastore, 1) := by decide +kernel
theorem dX1_wipe_25 : decode cX1_wipe 25 = .ok (.iinc 2 1, 3) := by decide +kernel
theorem dX1_wipe_28 : decode cX1_wipe 28 = .ok (.goto (-18), 3) := by decide +kernel
theorem dX1_wipe_31 : decode cX1_wipe 31 = .ok (.iinc 1 1, 3) := by decide +kernel
theorem dX1_wipe_34 : decode cX1_wipe 34 = .ok (.goto (-32), 3) := by decide +kernel
theorem dX1_wipe_37 : decode cX1_wipe 37 = .ok (.aload_n 0, 1) := by decide +kernel
theorem dX1_wipe_38 : decode cX1_wipe 38 = .ok (.dup, 1) := by decide +kernel
theorem dX1_wipe_39 : decode cX1_wipe 39 = .ok (.getfield 28, 3) := by decide +kernel
theorem dX1_wipe_42 : decode cX1_wipe 42 = .ok (.lconst 1, 1) := by decide +kernel
theorem dX1_wipe_43 : decode cX1_wipe 43 = .ok (.ladd, 1) := by decide +kernel
theorem dX1_wipe_44 : decode cX1_wipe 44 = .ok (.putfield 28, 3) := by decide +kernel
theorem dX1_wipe_47 : decode cX1_wipe 47 = .ok (.return_, 1) := by decide +kernel
theorem dX1_balance_0 : decode cX1_balance 0 = .ok (.lconst 0, 1) := by decide +kernel
theorem dX1_balance_1 : decode cX1_balance 1 = .ok (.lstore_n 2, 1) := by decide +kernel
theorem dX1_balance_2 : decode cX1_balance 2 = .ok (.iconst 0, 1) := by decide +kernel
theorem dX1_balance_3 : decode cX1_balance 3 = .ok (.istore 4, 2) := by decide +kernel
theorem dX1_balance_5 : decode cX1_balance 5 = .ok (.iload 4, 2) := by decide +kernel
theorem dX1_balance_7 : decode cX1_balance 7 = .ok (.bipush 10, 2) := by decide +kernel
theorem dX1_balance_9 : decode cX1_balance 9 = .ok (.if_icmp .ge 31, 3) := by decide +kernel
theorem dX1_balance_12 : decode cX1_balance 12 = .ok (.lload_n 2, 1) := by decide +kernel
theorem dX1_balance_13 : decode cX1_balance 13 = .ok (.aload_n 0, 1) := by decide +kernel
theorem dX1_balance_14 : decode cX1_balance 14 = .ok (.getfield 11, 3) := by decide +kernel
theorem dX1_balance_17 : decode cX1_balance 17 = .ok (.iload 4, 2) := by decide +kernel
theorem dX1_balance_19 : decode cX1_balance 19 = .ok (.aaload, 1) := by decide +kernel
theorem dX1_balance_20 : decode cX1_balance 20 = .ok (.iload_n 1, 1) := by decide +kernel
theorem dX1_balance_21 : decode cX1_balance 21 = .ok (.laload, 1) := by decide +kernel
theorem dX1_balance_22 : decode cX1_balance 22 = .ok (.aload_n 0, 1) := by decide +kernel
theorem dX1_balance_23 : decode cX1_balance 23 = .ok (.getfield 11, 3) := by decide +kernel
theorem dX1_balance_26 : decode cX1_balance 26 = .ok (.iload_n 1, 1) := by decide +kernel
theorem dX1_balance_27 : decode cX1_balance 27 = .ok (.aaload, 1) := by decide +kernel
theorem dX1_balance_28 : decode cX1_balance 28 = .ok (.iload 4, 2) := by decide +kernel
theorem dX1_balance_30 : decode cX1_balance 30 = .ok (.laload, 1) := by decide +kernel
theorem dX1_balance_31 : decode cX1_balance 31 = .ok (.lsub, 1) := by decide +kernel
theorem dX1_balance_32 : decode cX1_balance 32 = .ok (.ladd, 1) := by decide +kernel
theorem dX1_balance_33 : decode cX1_balance 33 = .ok (.lstore_n 2, 1) := by decide +kernel
theorem dX1_balance_34 : decode cX1_balance 34 = .ok (.iinc 4 1, 3) := by decide +kernel
theorem dX1_balance_37 : decode cX1_balance 37 = .ok (.goto (-32), 3) := by decide +kernel
theorem dX1_balance_40 : decode cX1_balance 40 = .ok (.lload_n 2, 1) := by decide +kernel
theorem dX1_balance_41 : decode cX1_balance 41 = .ok (.lreturn, 1) := by decide +kernel
theorem dX1_total_0 : decode cX1_total 0 = .ok (.lconst 0, 1) := by decide +kernel
theorem dX1_total_1 : decode cX1_total 1 = .ok (.lstore_n 1, 1) := by decide +kernel
theorem dX1_total_2 : decode cX1_total 2 = .ok (.iconst 0, 1) := by decide +kernel
theorem dX1_total_3 : decode cX1_total 3 = .ok (.istore_n 3, 1) := by decide +kernel
theorem dX1_total_4 : decode cX1_total 4 = .ok (.iload_n 3, 1) := by decide +kernel
theorem dX1_total_5 : decode cX1_total 5 = .ok (.bipush 10, 2) := by decide +kernel
theorem dX1_total_7 : decode cX1_total 7 = .ok (.if_icmp .ge 37, 3) := by decide +kernel
theorem dX1_total_10 : decode cX1_total 10 = .ok (.iconst 0, 1) := by decide +kernel
theorem dX1_total_11 : decode cX1_total 11 = .ok (.istore 4, 2) := by decide +kernel
theorem dX1_total_13 : decode cX1_total 13 = .ok (.iload 4, 2) := by decide +kernel
theorem dX1_total_15 : decode cX1_total 15 = .ok (.bipush 10, 2) := by decide +kernel
theorem dX1_total_17 : decode cX1_total 17 = .ok (.if_icmp .ge 21, 3) := by decide +kernel
theorem dX1_total_20 : decode cX1_total 20 = .ok (.lload_n 1, 1) := by decide +kernel
theorem dX1_total_21 : decode cX1_total 21 = .ok (.aload_n 0, 1) := by decide +kernel
theorem dX1_total_22 : decode cX1_total 22 = .ok (.getfield 11, 3) := by decide +kernel
theorem dX1_total_25 : decode cX1_total 25 = .ok (.iload_n 3, 1) := by decide +kernel
theorem dX1_total_26 : decode cX1_total 26 = .ok (.aaload, 1) := by decide +kernel
theorem dX1_total_27 : decode cX1_total 27 = .ok (.iload 4, 2) := by decide +kernel
theorem dX1_total_29 : decode cX1_total 29 = .ok (.laload, 1) := by decide +kernel
theorem dX1_total_30 : decode cX1_total 30 = .ok (.ladd, 1) := by decide +kernel
theorem dX1_total_31 : decode cX1_total 31 = .ok (.lstore_n 1, 1) := by decide +kernel
theorem dX1_total_32 : decode cX1_total 32 = .ok (.iinc 4 1, 3) := by decide +kernel
theorem dX1_total_35 : decode cX1_total 35 = .ok (.goto (-22), 3) := by decide +kernel
theorem dX1_total_38 : decode cX1_total 38 = .ok (.iinc 3 1, 3) := by decide +kernel
theorem dX1_total_41 : decode cX1_total 41 = .ok (.goto (-37), 3) := by decide +kernel
theorem dX1_total_44 : decode cX1_total 44 = .ok (.lload_n 1, 1) := by decide +kernel
theorem dX1_total_45 : decode cX1_total 45 = .ok (.lreturn, 1) := by decide +kernel
set_option maxRecDepth 20000 in
theorem ggX1_carryOverfills_X1_carried : GoodIn wsX1_carryOverfills wsX1_carried := goodIn_r _ [6, 7] rfl (by decide +kernel)
set_option maxRecDepth 20000 in
theorem gX1_carryOverfills_X1_carried : GoodIn wsX1_carryOverfills (va_wsS RX1 32 yX1_carried wsX1_carried) := goodIn_app (goodIn_of _ (by decide +kernel)) ggX1_carryOverfills_X1_carried
theorem dX1_carryOverfills_0 : decode cX1_carryOverfills 0 = .ok (.iconst 0, 1) := by decide +kernel
theorem dX1_carryOverfills_1 : decode cX1_carryOverfills 1 = .ok (.istore_n 2, 1) := by decide +kernel
theorem dX1_carryOverfills_2 : decode cX1_carryOverfills 2 = .ok (.iload_n 2, 1) := by decide +kernel
theorem dX1_carryOverfills_3 : decode cX1_carryOverfills 3 = .ok (.bipush 10, 2) := by decide +kernel
theorem dX1_carryOverfills_5 : decode cX1_carryOverfills 5 = .ok (.if_icmp .ge 44, 3) := by decide +kernel
theorem dX1_carryOverfills_8 : decode cX1_carryOverfills 8 = .ok (.iconst 0, 1) := by decide +kernel
theorem dX1_carryOverfills_9 : decode cX1_carryOverfills 9 = .ok (.istore_n 3, 1) := by decide +kernel
theorem dX1_carryOverfills_10 : decode cX1_carryOverfills 10 = .ok (.iload_n 3, 1) := by decide +kernel
theorem dX1_carryOverfills_11 : decode cX1_carryOverfills 11 = .ok (.bipush 10, 2) := by decide +kernel
theorem dX1_carryOverfills_13 : decode cX1_carryOverfills 13 = .ok (.if_icmp .ge 30, 3) := by decide +kernel
theorem dX1_carryOverfills_16 : decode cX1_carryOverfills 16 = .ok (.aload_n 0, 1) := by decide +kernel
theorem dX1_carryOverfills_17 : decode cX1_carryOverfills 17 = .ok (.getfield 11, 3) := by decide +kernel
theorem dX1_carryOverfills_20 : decode cX1_carryOverfills 20 = .ok (.iload_n 2, 1) := by decide +kernel
theorem dX1_carryOverfills_21 : decode cX1_carryOverfills 21 = .ok (.aaload, 1) := by decide +kernel
theorem dX1_carryOverfills_22 : decode cX1_carryOverfills 22 = .ok (.iload_n 3, 1) := by decide +kernel
theorem dX1_carryOverfills_23 : decode cX1_carryOverfills 23 = .ok (.laload, 1) := by decide +kernel
theorem dX1_carryOverfills_24 : decode cX1_carryOverfills 24 = .ok (.iload_n 1, 1) := by decide +kernel
theorem dX1_carryOverfills_25 : decode cX1_carryOverfills 25 = .ok (.invokestatic 32, 3) := by decide +kernel
theorem dX1_carryOverfills_28 : decode cX1_carryOverfills 28 = .ok (.ldc2_w 22, 3) := by decide +kernel
theorem dX1_carryOverfills_31 : decode cX1_carryOverfills 31 = .ok (.lcmp, 1) := by decide +kernel
theorem dX1_carryOverfills_32 : decode cX1_carryOverfills 32 = .ok (.ifCond .le 5, 3) := by decide +kernel
theorem dX1_carryOverfills_35 : decode cX1_carryOverfills 35 = .ok (.iconst 1, 1) := by decide +kernel
theorem dX1_carryOverfills_36 : decode cX1_carryOverfills 36 = .ok (.ireturn, 1) := by decide +kernel
theorem dX1_carryOverfills_37 : decode cX1_carryOverfills 37 = .ok (.iinc 3 1, 3) := by decide +kernel
theorem dX1_carryOverfills_40 : decode cX1_carryOverfills 40 = .ok (.goto (-30), 3) := by decide +kernel
theorem dX1_carryOverfills_43 : decode cX1_carryOverfills 43 = .ok (.iinc 2 1, 3) := by decide +kernel
theorem dX1_carryOverfills_46 : decode cX1_carryOverfills 46 = .ok (.goto (-44), 3) := by decide +kernel
theorem dX1_carryOverfills_49 : decode cX1_carryOverfills 49 = .ok (.iconst 0, 1) := by decide +kernel
theorem dX1_carryOverfills_50 : decode cX1_carryOverfills 50 = .ok (.ireturn, 1) := by decide +kernel
set_option maxRecDepth 20000 in
theorem ggX1_carry_X1_carried : GoodIn wsX1_carry wsX1_carried := goodIn_r _ [6, 7] rfl (by decide +kernel)
set_option maxRecDepth 20000 in
theorem gX1_carry_X1_carried : GoodIn wsX1_carry (va_wsS RX1 32 yX1_carried wsX1_carried) := goodIn_app (goodIn_of _ (by decide +kernel)) ggX1_carry_X1_carried
theorem dX1_carry_0 : decode cX1_carry 0 = .ok (.iconst 0, 1) := by decide +kernel
theorem dX1_carry_1 : decode cX1_carry 1 = .ok (.istore_n 2, 1) := by decide +kernel
theorem dX1_carry_2 : decode cX1_carry 2 = .ok (.iload_n 2, 1) := by decide +kernel
theorem dX1_carry_3 : decode cX1_carry 3 = .ok (.bipush 10, 2) := by decide +kernel
theorem dX1_carry_5 : decode cX1_carry 5 = .ok (.if_icmp .ge 43, 3) := by decide +kernel
theorem dX1_carry_8 : decode cX1_carry 8 = .ok (.iconst 0, 1) := by decide +kernel
theorem dX1_carry_9 : decode cX1_carry 9 = .ok (.istore_n 3, 1) := by decide +kernel
theorem dX1_carry_10 : decode cX1_carry 10 = .ok (.iload_n 3, 1) := by decide +kernel
theorem dX1_carry_11 : decode cX1_carry 11 = .ok (.bipush 10, 2) := by decide +kernel
theorem dX1_carry_13 : decode cX1_carry 13 = .ok (.if_icmp .ge 29, 3) := by decide +kernel
theorem dX1_carry_16 : decode cX1_carry 16 = .ok (.aload_n 0, 1) := by decide +kernel
theorem dX1_carry_17 : decode cX1_carry 17 = .ok (.getfield 11, 3) := by decide +kernel
theorem dX1_carry_20 : decode cX1_carry 20 = .ok (.iload_n 2, 1) := by decide +kernel
theorem dX1_carry_21 : decode cX1_carry 21 = .ok (.aaload, 1) := by decide +kernel
theorem dX1_carry_22 : decode cX1_carry 22 = .ok (.iload_n 3, 1) := by decide +kernel
theorem dX1_carry_23 : decode cX1_carry 23 = .ok (.aload_n 0, 1) := by decide +kernel
theorem dX1_carry_24 : decode cX1_carry 24 = .ok (.getfield 11, 3) := by decide +kernel
theorem dX1_carry_27 : decode cX1_carry 27 = .ok (.iload_n 2, 1) := by decide +kernel
theorem dX1_carry_28 : decode cX1_carry 28 = .ok (.aaload, 1) := by decide +kernel
theorem dX1_carry_29 : decode cX1_carry 29 = .ok (.iload_n 3, 1) := by decide +kernel
theorem dX1_carry_30 : decode cX1_carry 30 = .ok (.laload, 1) := by decide +kernel
theorem dX1_carry_31 : decode cX1_carry 31 = .ok (.iload_n 1, 1) := by decide +kernel
theorem dX1_carry_32 : decode cX1_carry 32 = .ok (.invokestatic 32, 3) := by decide +kernel
theorem dX1_carry_35 : decode cX1_carry 35 = .ok (.lastore, 1) := by decide +kernel
theorem dX1_carry_36 : decode cX1_carry 36 = .ok (.iinc 3 1, 3) := by decide +kernel
theorem dX1_carry_39 : decode cX1_carry 39 = .ok (.goto (-29), 3) := by decide +kernel
theorem dX1_carry_42 : decode cX1_carry 42 = .ok (.iinc 2 1, 3) := by decide +kernel
theorem dX1_carry_45 : decode cX1_carry 45 = .ok (.goto (-43), 3) := by decide +kernel
theorem dX1_carry_48 : decode cX1_carry 48 = .ok (.aload_n 0, 1) := by decide +kernel
theorem dX1_carry_49 : decode cX1_carry 49 = .ok (.dup, 1) := by decide +kernel
theorem dX1_carry_50 : decode cX1_carry 50 = .ok (.getfield 28, 3) := by decide +kernel
theorem dX1_carry_53 : decode cX1_carry 53 = .ok (.lconst 1, 1) := by decide +kernel
theorem dX1_carry_54 : decode cX1_carry 54 = .ok (.ladd, 1) := by decide +kernel
theorem dX1_carry_55 : decode cX1_carry 55 = .ok (.putfield 28, 3) := by decide +kernel
theorem dX1_carry_58 : decode cX1_carry 58 = .ok (.return_, 1) := by decide +kernel
theorem dX1_carried_0 : decode cX1_carried 0 = .ok (.lload_n 0, 1) := by decide +kernel
theorem dX1_carried_1 : decode cX1_carried 1 = .ok (.lload_n 0, 1) := by decide +kernel
theorem dX1_carried_2 : decode cX1_carried 2 = .ok (.iload_n 2, 1) := by decide +kernel
theorem dX1_carried_3 : decode cX1_carried 3 = .ok (.i2l, 1) := by decide +kernel
theorem dX1_carried_4 : decode cX1_carried 4 = .ok (.lmul, 1) := by decide +kernel
theorem dX1_carried_5 : decode cX1_carried 5 = .ok (.ldc2_w 36, 3) := by decide +kernel
theorem dX1_carried_8 : decode cX1_carried 8 = .ok (.ldiv, 1) := by decide +kernel
theorem dX1_carried_9 : decode cX1_carried 9 = .ok (.ladd, 1) := by decide +kernel
theorem dX1_carried_10 : decode cX1_carried 10 = .ok (.lreturn, 1) := by decide +kernel
theorem dX2_init_0 : decode cX2_init 0 = .ok (.aload_n 0, 1) := by decide +kernel
theorem dX2_init_1 : decode cX2_init 1 = .ok (.invokespecial 1, 3) := by decide +kernel
theorem dX2_init_4 : decode cX2_init 4 = .ok (.aload_n 0, 1) := by decide +kernel
theorem dX2_init_5 : decode cX2_init 5 = .ok (.bipush 8, 2) := by decide +kernel
theorem dX2_init_7 : decode cX2_init 7 = .ok (.newarray .boolean, 2) := by decide +kernel
theorem dX2_init_9 : decode cX2_init 9 = .ok (.putfield 9, 3) := by decide +kernel
theorem dX2_init_12 : decode cX2_init 12 = .ok (.aload_n 0, 1) := by decide +kernel
theorem dX2_init_13 : decode cX2_init 13 = .ok (.bipush 8, 2) := by decide +kernel
theorem dX2_init_15 : decode cX2_init 15 = .ok (.newarray .int, 2) := by decide +kernel
theorem dX2_init_17 : decode cX2_init 17 = .ok (.putfield 13, 3) := by decide +kernel
theorem dX2_init_20 : decode cX2_init 20 = .ok (.aload_n 0, 1) := by decide +kernel
theorem dX2_init_21 : decode cX2_init 21 = .ok (.bipush 32, 2) := by decide +kernel
theorem dX2_init_23 : decode cX2_init 23 = .ok (.newarray .int, 2) := by decide +kernel
theorem dX2_init_25 : decode cX2_init 25 = .ok (.putfield 17, 3) := by decide +kernel
theorem dX2_init_28 : decode cX2_init 28 = .ok (.aload_n 0, 1) := by decide +kernel
theorem dX2_init_29 : decode cX2_init 29 = .ok (.bipush 32, 2) := by decide +kernel
theorem dX2_init_31 : decode cX2_init 31 = .ok (.newarray .int, 2) := by decide +kernel
theorem dX2_init_33 : decode cX2_init 33 = .ok (.putfield 20, 3) := by decide +kernel
theorem dX2_init_36 : decode cX2_init 36 = .ok (.aload_n 0, 1) := by decide +kernel
theorem dX2_init_37 : decode cX2_init 37 = .ok (.bipush 32, 2) := by decide +kernel
theorem dX2_init_39 : decode cX2_init 39 = .ok (.newarray .int, 2) := by decide +kernel
theorem dX2_init_41 : decode cX2_init 41 = .ok (.putfield 23, 3) := by decide +kernel
theorem dX2_init_44 : decode cX2_init 44 = .ok (.return_, 1) := by decide +kernel
theorem dX2_forget_0 : decode cX2_forget 0 = .ok (.aload_n 0, 1) := by decide +kernel
theorem dX2_forget_1 : decode cX2_forget 1 = .ok (.iconst 0, 1) := by decide +kernel
theorem dX2_forget_2 : decode cX2_forget 2 = .ok (.putfield 26, 3) := by decide +kernel
theorem dX2_forget_5 : decode cX2_forget 5 = .ok (.return_, 1) := by decide +kernel
theorem dX2_addClause_0 : decode cX2_addClause 0 = .ok (.aload_n 0, 1) := by decide +kernel
theorem dX2_addClause_1 : decode cX2_addClause 1 = .ok (.getfield 26, 3) := by decide +kernel
theorem dX2_addClause_4 : decode cX2_addClause 4 = .ok (.bipush 8, 2) := by decide +kernel
theorem dX2_addClause_6 : decode cX2_addClause 6 = .ok (.if_icmp .ge 33, 3) := by decide +kernel
theorem dX2_addClause_9 : decode cX2_addClause 9 = .ok (.aload_n 0, 1) := by decide +kernel
theorem dX2_addClause_10 : decode cX2_addClause 10 = .ok (.getfield 9, 3) := by decide +kernel
theorem dX2_addClause_13 : decode cX2_addClause 13 = .ok (.aload_n 0, 1) := by decide +kernel
theorem dX2_addClause_14 : decode cX2_addClause 14 = .ok (.getfield 26, 3) := by decide +kernel
theorem dX2_addClause_17 : decode cX2_addClause 17 = .ok (.iload_n 1, 1) := by decide +kernel
theorem dX2_addClause_18 : decode cX2_addClause 18 = .ok (.bastore, 1) := by decide +kernel
theorem dX2_addClause_19 : decode cX2_addClause 19 = .ok (.aload_n 0, 1) := by decide +kernel
theorem dX2_addClause_20 : decode cX2_addClause 20 = .ok (.getfield 13, 3) := by decide +kernel
theorem dX2_addClause_23 : decode cX2_addClause 23 = .ok (.aload_n 0, 1) := by decide +kernel
theorem dX2_addClause_24 : decode cX2_addClause 24 = .ok (.getfield 26, 3) := by decide +kernel
theorem dX2_addClause_27 : decode cX2_addClause 27 = .ok (.iconst 0, 1) := by decide +kernel
theorem dX2_addClause_28 : decode cX2_addClause 28 = .ok (.iastore, 1) := by decide +kernel
theorem dX2_addClause_29 : decode cX2_addClause 29 = .ok (.aload_n 0, 1) := by decide +kernel
theorem dX2_addClause_30 : decode cX2_addClause 30 = .ok (.dup, 1) := by decide +kernel
theorem dX2_addClause_31 : decode cX2_addClause 31 = .ok (.getfield 26, 3) := by decide +kernel
theorem dX2_addClause_34 : decode cX2_addClause 34 = .ok (.iconst 1, 1) := by decide +kernel
theorem dX2_addClause_35 : decode cX2_addClause 35 = .ok (.iadd, 1) := by decide +kernel
theorem dX2_addClause_36 : decode cX2_addClause 36 = .ok (.putfield 26, 3) := by decide +kernel
theorem dX2_addClause_39 : decode cX2_addClause 39 = .ok (.return_, 1) := by decide +kernel
theorem dX2_addTest_0 : decode cX2_addTest 0 = .ok (.aload_n 0, 1) := by decide +kernel
theorem dX2_addTest_1 : decode cX2_addTest 1 = .ok (.getfield 26, 3) := by decide +kernel
theorem dX2_addTest_4 : decode cX2_addTest 4 = .ok (.iconst 1, 1) := by decide +kernel
theorem dX2_addTest_5 : decode cX2_addTest 5 = .ok (.isub, 1) := by decide +kernel
theorem dX2_addTest_6 : decode cX2_addTest 6 = .ok (.istore 4, 2) := by decide +kernel
theorem dX2_addTest_8 : decode cX2_addTest 8 = .ok (.iload 4, 2) := by decide +kernel
theorem dX2_addTest_10 : decode cX2_addTest 10 = .ok (.ifCond .lt 63, 3) := by decide +kernel
theorem dX2_addTest_13 : decode cX2_addTest 13 = .ok (.aload_n 0, 1) := by decide +kernel
theorem dX2_addTest_14 : decode cX2_addTest 14 = .ok (.getfield 13, 3) := by decide +kernel
theorem dX2_addTest_17 : decode cX2_addTest 17 = .ok (.iload 4, 2) := by decide +kernel
theorem dX2_addTest_19 : decode cX2_addTest 19 = .ok (.iaload, 1) := by decide +kernel
theorem dX2_addTest_20 : decode cX2_addTest 20 = .ok (.iconst 4, 1) := by decide +kernel
theorem dX2_addTest_21 : decode cX2_addTest 21 = .ok (.if_icmp .ge 52, 3) := by decide +kernel
theorem dX2_addTest_24 : decode cX2_addTest 24 = .ok (.iload 4, 2) := by decide +kernel
theorem dX2_addTest_26 : decode cX2_addTest 26 = .ok (.iconst 4, 1) := by decide +kernel
theorem dX2_addTest_27 : decode cX2_addTest 27 = .ok (.imul, 1) := by decide +kernel
theorem dX2_addTest_28 : decode cX2_addTest 28 = .ok (.aload_n 0, 1) := by decide +kernel
theorem dX2_addTest_29 : decode cX2_addTest 29 = .ok (.getfield 13, 3) := by decide +kernel
theorem dX2_addTest_32 : decode cX2_addTest 32 = .ok (.iload 4, 2) := by decide +kernel
theorem dX2_addTest_34 : decode cX2_addTest 34 = .ok (.iaload, 1) := by decide +kernel
theorem dX2_addTest_35 : decode cX2_addTest 35 = .ok (.iadd, 1) := by decide +kernel
theorem dX2_addTest_36 : decode cX2_addTest 36 = .ok (.istore 5, 2) := by decide +kernel
theorem dX2_addTest_38 : decode cX2_addTest 38 = .ok (.aload_n 0, 1) := by decide +kernel
theorem dX2_addTest_39 : decode cX2_addTest 39 = .ok (.getfield 17, 3) := by decide +kernel
theorem dX2_addTest_42 : decode cX2_addTest 42 = .ok (.iload 5, 2) := by decide +kernel
theorem dX2_addTest_44 : decode cX2_addTest 44 = .ok (.iload_n 1, 1) := by decide +kernel
theorem dX2_addTest_45 : decode cX2_addTest 45 = .ok (.iastore, 1) := by decide +kernel
theorem dX2_addTest_46 : decode cX2_addTest 46 = .ok (.aload_n 0, 1) := by decide +kernel
theorem dX2_addTest_47 : decode cX2_addTest 47 = .ok (.getfield 20, 3) := by decide +kernel
theorem dX2_addTest_50 : decode cX2_addTest 50 = .ok (.iload 5, 2) := by decide +kernel
theorem dX2_addTest_52 : decode cX2_addTest 52 = .ok (.iload_n 2, 1) := by decide +kernel
theorem dX2_addTest_53 : decode cX2_addTest 53 = .ok (.iastore, 1) := by decide +kernel
theorem dX2_addTest_54 : decode cX2_addTest 54 = .ok (.aload_n 0, 1) := by decide +kernel
theorem dX2_addTest_55 : decode cX2_addTest 55 = .ok (.getfield 23, 3) := by decide +kernel
theorem dX2_addTest_58 : decode cX2_addTest 58 = .ok (.iload 5, 2) := by decide +kernel
theorem dX2_addTest_60 : decode cX2_addTest 60 = .ok (.iload_n 3, 1) := by decide +kernel
theorem dX2_addTest_61 : decode cX2_addTest 61 = .ok (.iastore, 1) := by decide +kernel
theorem dX2_addTest_62 : decode cX2_addTest 62 = .ok (.aload_n 0, 1) := by decide +kernel
theorem dX2_addTest_63 : decode cX2_addTest 63 = .ok (.getfield 13, 3) := by decide +kernel
theorem dX2_addTest_66 : decode cX2_addTest 66 = .ok (.iload 4, 2) := by decide +kernel
theorem dX2_addTest_68 : decode cX2_addTest 68 = .ok (.dup2, 1) := by decide +kernel
theorem dX2_addTest_69 : decode cX2_addTest 69 = .ok (.iaload, 1) := by decide +kernel
theorem dX2_addTest_70 : decode cX2_addTest 70 = .ok (.iconst 1, 1) := by decide +kernel
theorem dX2_addTest_71 : decode cX2_addTest 71 = .ok (.iadd, 1) := by decide +kernel
theorem dX2_addTest_72 : decode cX2_addTest 72 = .ok (.iastore, 1) := by decide +kernel
theorem dX2_addTest_73 : decode cX2_addTest 73 = .ok (.return_, 1) := by decide +kernel
set_option maxRecDepth 20000 in
theorem ggX2_bindsFor_X2_allTestsHold : GoodIn wsX2_bindsFor wsX2_allTestsHold := goodIn_r _ [7, 8, 9, 10, 11, 12, 13, 6, 14, 15, 16, 17, 18, 19, 20] rfl (by decide +kernel)
set_option maxRecDepth 20000 in
theorem gX2_bindsFor_X2_allTestsHold : GoodIn wsX2_bindsFor (wsV RX2 30 RX2 yX2_allTestsHold wsX2_allTestsHold) := goodIn_app (goodIn_of _ (by decide +kernel)) ggX2_bindsFor_X2_allTestsHold
theorem dX2_bindsFor_0 : decode cX2_bindsFor 0 = .ok (.iconst 0, 1) := by decide +kernel
theorem dX2_bindsFor_1 : decode cX2_bindsFor 1 = .ok (.istore_n 2, 1) := by decide +kernel
theorem dX2_bindsFor_2 : decode cX2_bindsFor 2 = .ok (.iload_n 2, 1) := by decide +kernel
theorem dX2_bindsFor_3 : decode cX2_bindsFor 3 = .ok (.aload_n 0, 1) := by decide +kernel
theorem dX2_bindsFor_4 : decode cX2_bindsFor 4 = .ok (.getfield 26, 3) := by decide +kernel
theorem dX2_bindsFor_7 : decode cX2_bindsFor 7 = .ok (.if_icmp .ge 25, 3) := by decide +kernel
theorem dX2_bindsFor_10 : decode cX2_bindsFor 10 = .ok (.aload_n 0, 1) := by decide +kernel
theorem dX2_bindsFor_11 : decode cX2_bindsFor 11 = .ok (.iload_n 2, 1) := by decide +kernel
theorem dX2_bindsFor_12 : decode cX2_bindsFor 12 = .ok (.aload_n 1, 1) := by decide +kernel
theorem dX2_bindsFor_13 : decode cX2_bindsFor 13 = .ok (.invokevirtual 30, 3) := by decide +kernel
theorem dX2_bindsFor_16 : decode cX2_bindsFor 16 = .ok (.ifCond .eq 10, 3) := by decide +kernel
theorem dX2_bindsFor_19 : decode cX2_bindsFor 19 = .ok (.aload_n 0, 1) := by decide +kernel
theorem dX2_bindsFor_20 : decode cX2_bindsFor 20 = .ok (.getfield 9, 3) := by decide +kernel
theorem dX2_bindsFor_23 : decode cX2_bindsFor 23 = .ok (.iload_n 2, 1) := by decide +kernel
theorem dX2_bindsFor_24 : decode cX2_bindsFor 24 = .ok (.baload, 1) := by decide +kernel
theorem dX2_bindsFor_25 : decode cX2_bindsFor 25 = .ok (.ireturn, 1) := by decide +kernel
theorem dX2_bindsFor_26 : decode cX2_bindsFor 26 = .ok (.iinc 2 1, 3) := by decide +kernel
theorem dX2_bindsFor_29 : decode cX2_bindsFor 29 = .ok (.goto (-27), 3) := by decide +kernel
theorem dX2_bindsFor_32 : decode cX2_bindsFor 32 = .ok (.iconst 1, 1) := by decide +kernel
theorem dX2_bindsFor_33 : decode cX2_bindsFor 33 = .ok (.ireturn, 1) := by decide +kernel
set_option maxRecDepth 20000 in
theorem ggX2_allTestsHold_X2_holds : GoodIn wsX2_allTestsHold wsX2_holds := goodIn_r _ [8] rfl (by decide +kernel)
set_option maxRecDepth 20000 in
theorem gX2_allTestsHold_X2_holds : GoodIn wsX2_allTestsHold (va_wsS RX2 34 yX2_holds wsX2_holds) := goodIn_app (goodIn_of _ (by decide +kernel)) ggX2_allTestsHold_X2_holds
theorem dX2_allTestsHold_0 : decode cX2_allTestsHold 0 = .ok (.iconst 0, 1) := by decide +kernel
theorem dX2_allTestsHold_1 : decode cX2_allTestsHold 1 = .ok (.istore_n 3, 1) := by decide +kernel
theorem dX2_allTestsHold_2 : decode cX2_allTestsHold 2 = .ok (.iload_n 3, 1) := by decide +kernel
theorem dX2_allTestsHold_3 : decode cX2_allTestsHold 3 = .ok (.aload_n 0, 1) := by decide +kernel
theorem dX2_allTestsHold_4 : decode cX2_allTestsHold 4 = .ok (.getfield 13, 3) := by decide +kernel
theorem dX2_allTestsHold_7 : decode cX2_allTestsHold 7 = .ok (.iload_n 1, 1) := by decide +kernel
theorem dX2_allTestsHold_8 : decode cX2_allTestsHold 8 = .ok (.iaload, 1) := by decide +kernel
theorem dX2_allTestsHold_9 : decode cX2_allTestsHold 9 = .ok (.if_icmp .ge 47, 3) := by decide +kernel
theorem dX2_allTestsHold_12 : decode cX2_allTestsHold 12 = .ok (.iload_n 1, 1) := by decide +kernel
theorem dX2_allTestsHold_13 : decode cX2_allTestsHold 13 = .ok (.iconst 4, 1) := by decide +kernel
theorem dX2_allTestsHold_14 : decode cX2_allTestsHold 14 = .ok (.imul, 1) := by decide +kernel
theorem dX2_allTestsHold_15 : decode cX2_allTestsHold 15 = .ok (.iload_n 3, 1) := by decide +kernel
theorem dX2_allTestsHold_16 : decode cX2_allTestsHold 16 = .ok (.iadd, 1) := by decide +kernel
theorem dX2_allTestsHold_17 : decode cX2_allTestsHold 17 = .ok (.istore 4, 2) := by decide +kernel
theorem dX2_allTestsHold_19 : decode cX2_allTestsHold 19 = .ok (.aload_n 2, 1) := by decide +kernel
theorem dX2_allTestsHold_20 : decode cX2_allTestsHold 20 = .ok (.aload_n 0, 1) := by decide +kernel
theorem dX2_allTestsHold_21 : decode cX2_allTestsHold 21 = .ok (.getfield 17, 3) := by decide +kernel
theorem dX2_allTestsHold_24 : decode cX2_allTestsHold 24 = .ok (.iload 4, 2) := by decide +kernel
theorem dX2_allTestsHold_26 : decode cX2_allTestsHold 26 = .ok (.iaload, 1) := by decide +kernel
theorem dX2_allTestsHold_27 : decode cX2_allTestsHold 27 = .ok (.iaload, 1) := by decide +kernel
theorem dX2_allTestsHold_28 : decode cX2_allTestsHold 28 = .ok (.aload_n 0, 1) := by decide +kernel
theorem dX2_allTestsHold_29 : decode cX2_allTestsHold 29 = .ok (.getfield 20, 3) := by decide +kernel
theorem dX2_allTestsHold_32 : decode cX2_allTestsHold 32 = .ok (.iload 4, 2) := by decide +kernel
theorem dX2_allTestsHold_34 : decode cX2_allTestsHold 34 = .ok (.iaload, 1) := by decide +kernel
theorem dX2_allTestsHold_35 : decode cX2_allTestsHold 35 = .ok (.aload_n 0, 1) := by decide +kernel
theorem dX2_allTestsHold_36 : decode cX2_allTestsHold 36 = .ok (.getfield 23, 3) := by decide +kernel
theorem dX2_allTestsHold_39 : decode cX2_allTestsHold 39 = .ok (.iload 4, 2) := by decide +kernel
theorem dX2_allTestsHold_41 : decode cX2_allTestsHold 41 = .ok (.iaload, 1) := by decide +kernel
theorem dX2_allTestsHold_42 : decode cX2_allTestsHold 42 = .ok (.invokestatic 34, 3) := by decide +kernel
theorem dX2_allTestsHold_45 : decode cX2_allTestsHold 45 = .ok (.ifCond .ne 5, 3) := by decide +kernel
theorem dX2_allTestsHold_48 : decode cX2_allTestsHold 48 = .ok (.iconst 0, 1) := by decide +kernel
theorem dX2_allTestsHold_49 : decode cX2_allTestsHold 49 = .ok (.ireturn, 1) := by decide +kernel
theorem dX2_allTestsHold_50 : decode cX2_allTestsHold 50 = .ok (.iinc 3 1, 3) := by decide +kernel
theorem dX2_allTestsHold_53 : decode cX2_allTestsHold 53 = .ok (.goto (-51), 3) := by decide +kernel
theorem dX2_allTestsHold_56 : decode cX2_allTestsHold 56 = .ok (.iconst 1, 1) := by decide +kernel
theorem dX2_allTestsHold_57 : decode cX2_allTestsHold 57 = .ok (.ireturn, 1) := by decide +kernel
theorem dX2_holds_0 : decode cX2_holds 0 = .ok (.iload_n 1, 1) := by decide +kernel
theorem dX2_holds_1 : decode cX2_holds 1 = .ok (.lookupswitch 49 #[(5, 27), (6, 38)], 27) := by decide +kernel
theorem dX2_holds_28 : decode cX2_holds 28 = .ok (.iload_n 0, 1) := by decide +kernel
theorem dX2_holds_29 : decode cX2_holds 29 = .ok (.iload_n 2, 1) := by decide +kernel
theorem dX2_holds_30 : decode cX2_holds 30 = .ok (.if_icmp .ge 7, 3) := by decide +kernel
theorem dX2_holds_33 : decode cX2_holds 33 = .ok (.iconst 1, 1) := by decide +kernel
theorem dX2_holds_34 : decode cX2_holds 34 = .ok (.goto 4, 3) := by decide +kernel
theorem dX2_holds_37 : decode cX2_holds 37 = .ok (.iconst 0, 1) := by decide +kernel
theorem dX2_holds_38 : decode cX2_holds 38 = .ok (.ireturn, 1) := by decide +kernel
theorem dX2_holds_39 : decode cX2_holds 39 = .ok (.iload_n 0, 1) := by decide +kernel
theorem dX2_holds_40 : decode cX2_holds 40 = .ok (.iload_n 2, 1) := by decide +kernel
theorem dX2_holds_41 : decode cX2_holds 41 = .ok (.if_icmp .ne 7, 3) := by decide +kernel
theorem dX2_holds_44 : decode cX2_holds 44 = .ok (.iconst 1, 1) := by decide +kernel
theorem dX2_holds_45 : decode cX2_holds 45 = .ok (.goto 4, 3) := by decide +kernel
theorem dX2_holds_48 : decode cX2_holds 48 = .ok (.iconst 0, 1) := by decide +kernel
theorem dX2_holds_49 : decode cX2_holds 49 = .ok (.ireturn, 1) := by decide +kernel
theorem dX2_holds_50 : decode cX2_holds 50 = .ok (.iload_n 0, 1) := by decide +kernel
theorem dX2_holds_51 : decode cX2_holds 51 = .ok (.iload_n 2, 1) := by decide +kernel
theorem dX2_holds_52 : decode cX2_holds 52 = .ok (.if_icmp .le 7, 3) := by decide +kernel
theorem dX2_holds_55 : decode cX2_holds 55 = .ok (.iconst 1, 1) := by decide +kernel
theorem dX2_holds_56 : decode cX2_holds 56 = .ok (.goto 4, 3) := by decide +kernel
theorem dX2_holds_59 : decode cX2_holds 59 = .ok (.iconst 0, 1) := by decide +kernel
theorem dX2_holds_60 : decode cX2_holds 60 = .ok (.ireturn, 1) := by decide +kernel
theorem dX3_init_0 : decode cX3_init 0 = .ok (.aload_n 0, 1) := by decide +kernel
theorem dX3_init_1 : decode cX3_init 1 = .ok (.invokespecial 1, 3) := by decide +kernel
theorem dX3_init_4 : decode cX3_init 4 = .ok (.aload_n 0, 1) := by decide +kernel
theorem dX3_init_5 : decode cX3_init 5 = .ok (.iconst (-1), 1) := by decide +kernel
theorem dX3_init_6 : decode cX3_init 6 = .ok (.putfield 9, 3) := by decide +kernel
theorem dX3_init_9 : decode cX3_init 9 = .ok (.aload_n 0, 1) := by decide +kernel
theorem dX3_init_10 : decode cX3_init 10 = .ok (.sipush 400, 3) := by decide +kernel
theorem dX3_init_13 : decode cX3_init 13 = .ok (.newarray .int, 2) := by decide +kernel
theorem dX3_init_15 : decode cX3_init 15 = .ok (.putfield 13, 3) := by decide +kernel
theorem dX3_init_18 : decode cX3_init 18 = .ok (.return_, 1) := by decide +kernel
theorem dX3_hasRoomFor_0 : decode cX3_hasRoomFor 0 = .ok (.aload_n 0, 1) := by decide +kernel
theorem dX3_hasRoomFor_1 : decode cX3_hasRoomFor 1 = .ok (.getfield 17, 3) := by decide +kernel
theorem dX3_hasRoomFor_4 : decode cX3_hasRoomFor 4 = .ok (.iload_n 1, 1) := by decide +kernel
theorem dX3_hasRoomFor_5 : decode cX3_hasRoomFor 5 = .ok (.iadd, 1) := by decide +kernel
theorem dX3_hasRoomFor_6 : decode cX3_hasRoomFor 6 = .ok (.sipush 400, 3) := by decide +kernel
theorem dX3_hasRoomFor_9 : decode cX3_hasRoomFor 9 = .ok (.if_icmp .gt 7, 3) := by decide +kernel
theorem dX3_hasRoomFor_12 : decode cX3_hasRoomFor 12 = .ok (.iconst 1, 1) := by decide +kernel
theorem dX3_hasRoomFor_13 : decode cX3_hasRoomFor 13 = .ok (.goto 4, 3) := by decide +kernel
theorem dX3_hasRoomFor_16 : decode cX3_hasRoomFor 16 = .ok (.iconst 0, 1) := by decide +kernel
theorem dX3_hasRoomFor_17 : decode cX3_hasRoomFor 17 = .ok (.ireturn, 1) := by decide +kernel
theorem dX3_append_0 : decode cX3_append 0 = .ok (.iconst 0, 1) := by decide +kernel
theorem dX3_append_1 : decode cX3_append 1 = .ok (.istore 4, 2) := by decide +kernel
theorem dX3_append_3 : decode cX3_append 3 = .ok (.iload 4, 2) := by decide +kernel
theorem dX3_append_5 : decode cX3_append 5 = .ok (.iload_n 3, 1) := by decide +kernel
theorem dX3_append_6 : decode cX3_append 6 = .ok (.if_icmp .ge 50, 3) := by decide +kernel
theorem dX3_append_9 : decode cX3_append 9 = .ok (.aload_n 0, 1) := by decide +kernel
theorem dX3_append_10 : decode cX3_append 10 = .ok (.getfield 17, 3) := by decide +kernel
theorem dX3_append_13 : decode cX3_append 13 = .ok (.sipush 400, 3) := by decide +kernel
theorem dX3_append_16 : decode cX3_append 16 = .ok (.if_icmp .ge 40, 3) := by decide +kernel
theorem dX3_append_19 : decode cX3_append 19 = .ok (.aload_n 0, 1) := by decide +kernel
theorem dX3_append_20 : decode cX3_append 20 = .ok (.getfield 13, 3) := by decide +kernel
theorem dX3_append_23 : decode cX3_append 23 = .ok (.aload_n 0, 1) := by decide +kernel
theorem dX3_append_24 : decode cX3_append 24 = .ok (.getfield 17, 3) := by decide +kernel
theorem dX3_append_27 : decode cX3_append 27 = .ok (.lload_n 1, 1) := by decide +kernel
theorem dX3_append_28 : decode cX3_append 28 = .ok (.bipush 8, 2) := by decide +kernel
theorem dX3_append_30 : decode cX3_append 30 = .ok (.iload 4, 2) := by decide +kernel
theorem dX3_append_32 : decode cX3_append 32 = .ok (.imul, 1) := by decide +kernel
theorem dX3_append_33 : decode cX3_append 33 = .ok (.lushr, 1) := by decide +kernel
theorem dX3_append_34 : decode cX3_append 34 = .ok (.l2i, 1) := by decide +kernel
theorem dX3_append_35 : decode cX3_append 35 = .ok (.sipush 255, 3) := by decide +kernel
theorem dX3_append_38 : decode cX3_append 38 = .ok (.iand, 1) := by decide +kernel
theorem dX3_append_39 : decode cX3_append 39 = .ok (.iastore, 1) := by decide +kernel
theorem dX3_append_40 : decode cX3_append 40 = .ok (.aload_n 0, 1) := by decide +kernel
theorem dX3_append_41 : decode cX3_append 41 = .ok (.dup, 1) := by decide +kernel
theorem dX3_append_42 : decode cX3_append 42 = .ok (.getfield 17, 3) := by decide +kernel
theorem dX3_append_45 : decode cX3_append 45 = .ok (.iconst 1, 1) := by decide +kernel
theorem dX3_append_46 : decode cX3_append 46 = .ok (.iadd, 1) := by decide +kernel
theorem dX3_append_47 : decode cX3_append 47 = .ok (.putfield 17, 3) := by decide +kernel
theorem dX3_append_50 : decode cX3_append 50 = .ok (.iinc 4 1, 3) := by decide +kernel
theorem dX3_append_53 : decode cX3_append 53 = .ok (.goto (-50), 3) := by decide +kernel
theorem dX3_append_56 : decode cX3_append 56 = .ok (.return_, 1) := by decide +kernel
theorem dX3_endText_0 : decode cX3_endText 0 = .ok (.aload_n 0, 1) := by decide +kernel
theorem dX3_endText_1 : decode cX3_endText 1 = .ok (.iload_n 1, 1) := by decide +kernel
theorem dX3_endText_2 : decode cX3_endText 2 = .ok (.ifCond .eq 7, 3) := by decide +kernel
theorem dX3_endText_5 : decode cX3_endText 5 = .ok (.iconst (-1), 1) := by decide +kernel
theorem dX3_endText_6 : decode cX3_endText 6 = .ok (.goto 7, 3) := by decide +kernel
theorem dX3_endText_9 : decode cX3_endText 9 = .ok (.aload_n 0, 1) := by decide +kernel
theorem dX3_endText_10 : decode cX3_endText 10 = .ok (.getfield 20, 3) := by decide +kernel
theorem dX3_endText_13 : decode cX3_endText 13 = .ok (.putfield 9, 3) := by decide +kernel
theorem dX3_endText_16 : decode cX3_endText 16 = .ok (.aload_n 0, 1) := by decide +kernel
theorem dX3_endText_17 : decode cX3_endText 17 = .ok (.iconst 0, 1) := by decide +kernel
theorem dX3_endText_18 : decode cX3_endText 18 = .ok (.putfield 17, 3) := by decide +kernel
theorem dX3_endText_21 : decode cX3_endText 21 = .ok (.return_, 1) := by decide +kernel
set_option maxRecDepth 20000 in
theorem ggX3_readText_X2_forget : GoodIn wsX3_readText wsX2_forget := goodIn_r _ [7, 8, 122, 123, 124, 125, 126, 127] rfl (by decide +kernel)
set_option maxRecDepth 20000 in
theorem gX3_readText_X2_forget : GoodIn wsX3_readText (wsV RX3 23 RX2 yX2_forget wsX2_forget) := goodIn_app (goodIn_of _ (by decide +kernel)) ggX3_readText_X2_forget
set_option maxRecDepth 20000 in
theorem ggX3_readText_X3_nextWord : GoodIn wsX3_readText wsX3_nextWord := goodIn_r _ [13, 1, 14, 15, 16, 2, 17, 18, 19, 12, 20, 21, 22, 23, 24, 25, 26, 27, 28, 29, 30, 31, 32, 33, 34, 35, 36, 37, 38, 39, 40, 41, 42, 43, 44, 45, 46, 47, 48, 49, 50, 51, 52, 53, 54, 55, 56, 57, 58, 59, 60, 61, 62, 63, 64, 65, 66, 67, 68, 69, 70, 71, 72, 73, 74, 75, 76, 77, 78, 79, 80, 81, 82, 83, 84, 85, 86, 87, 88, 89, 90, 91, 92, 115, 116, 117, 118, 119, 120, 121] rfl (by decide +kernel)
set_option maxRecDepth 20000 in
theorem gX3_readText_X3_nextWord : GoodIn wsX3_readText (wsV RX3 31 RX3 yX3_nextWord wsX3_nextWord) := goodIn_app (goodIn_of _ (by decide +kernel)) ggX3_readText_X3_nextWord
set_option maxRecDepth 20000 in
theorem ggX3_readText_X3_readClause : GoodIn wsX3_readText wsX3_readClause := goodIn_r _ [96, 2, 97, 98, 99, 6, 100, 8, 101, 102, 9, 10, 11, 12, 13, 1, 14, 15, 16, 17, 18, 19, 20, 21, 22, 23, 24, 25, 26, 27, 28, 29, 30, 31, 32, 33, 34, 35, 36, 37, 38, 39, 40, 41, 42, 43, 44, 45, 46, 47, 48, 49, 50, 51, 52, 53, 54, 55, 56, 57, 58, 59, 60, 61, 62, 63, 64, 65, 66, 67, 68, 69, 70, 71, 72, 73, 74, 75, 76, 77, 78, 79, 80, 81, 82, 83, 84, 85, 86, 87, 88, 89, 90, 91, 92, 103, 104, 105, 106, 107, 108, 109, 110, 111, 112, 113, 114, 115, 116, 117, 118, 119, 120, 121, 122, 123, 124, 125, 126, 127] rfl (by decide +kernel)
set_option maxRecDepth 20000 in
theorem gX3_readText_X3_readClause : GoodIn wsX3_readText (wsV RX3 37 RX3 yX3_readClause wsX3_readClause) := goodIn_app (goodIn_of _ (by decide +kernel)) ggX3_readText_X3_readClause
theorem dX3_readText_0 : decode cX3_readText 0 = .ok (.aload_n 1, 1) := by decide +kernel
theorem dX3_readText_1 : decode cX3_readText 1 = .ok (.invokevirtual 23, 3) := by decide +kernel
theorem dX3_readText_4 : decode cX3_readText 4 = .ok (.aload_n 0, 1) := by decide +kernel
theorem dX3_readText_5 : decode cX3_readText 5 = .ok (.iconst 0, 1) := by decide +kernel
theorem dX3_readText_6 : decode cX3_readText 6 = .ok (.putfield 28, 3) := by decide +kernel
theorem dX3_readText_9 : decode cX3_readText 9 = .ok (.aload_n 0, 1) := by decide +kernel
theorem dX3_readText_10 : decode cX3_readText 10 = .ok (.invokevirtual 31, 3) := by decide +kernel
theorem dX3_readText_13 : decode cX3_readText 13 = .ok (.aload_n 0, 1) := by decide +kernel
theorem dX3_readText_14 : decode cX3_readText 14 = .ok (.getfield 34, 3) := by decide +kernel
theorem dX3_readText_17 : decode cX3_readText 17 = .ok (.bipush 14, 2) := by decide +kernel
theorem dX3_readText_19 : decode cX3_readText 19 = .ok (.if_icmp .ne 5, 3) := by decide +kernel
theorem dX3_readText_22 : decode cX3_readText 22 = .ok (.iconst 1, 1) := by decide +kernel
theorem dX3_readText_23 : decode cX3_readText 23 = .ok (.ireturn, 1) := by decide +kernel
theorem dX3_readText_24 : decode cX3_readText 24 = .ok (.iconst 1, 1) := by decide +kernel
theorem dX3_readText_25 : decode cX3_readText 25 = .ok (.istore_n 2, 1) := by decide +kernel
theorem dX3_readText_26 : decode cX3_readText 26 = .ok (.iload_n 2, 1) := by decide +kernel
theorem dX3_readText_27 : decode cX3_readText 27 = .ok (.bipush 8, 2) := by decide +kernel
theorem dX3_readText_29 : decode cX3_readText 29 = .ok (.if_icmp .gt 40, 3) := by decide +kernel
theorem dX3_readText_32 : decode cX3_readText 32 = .ok (.aload_n 0, 1) := by decide +kernel
theorem dX3_readText_33 : decode cX3_readText 33 = .ok (.aload_n 1, 1) := by decide +kernel
theorem dX3_readText_34 : decode cX3_readText 34 = .ok (.invokevirtual 37, 3) := by decide +kernel
theorem dX3_readText_37 : decode cX3_readText 37 = .ok (.ifCond .ne 5, 3) := by decide +kernel
theorem dX3_readText_40 : decode cX3_readText 40 = .ok (.iconst 0, 1) := by decide +kernel
theorem dX3_readText_41 : decode cX3_readText 41 = .ok (.ireturn, 1) := by decide +kernel
theorem dX3_readText_42 : decode cX3_readText 42 = .ok (.aload_n 0, 1) := by decide +kernel
theorem dX3_readText_43 : decode cX3_readText 43 = .ok (.getfield 34, 3) := by decide +kernel
theorem dX3_readText_46 : decode cX3_readText 46 = .ok (.bipush 14, 2) := by decide +kernel
theorem dX3_readText_48 : decode cX3_readText 48 = .ok (.if_icmp .ne 5, 3) := by decide +kernel
theorem dX3_readText_51 : decode cX3_readText 51 = .ok (.iconst 1, 1) := by decide +kernel
theorem dX3_readText_52 : decode cX3_readText 52 = .ok (.ireturn, 1) := by decide +kernel
theorem dX3_readText_53 : decode cX3_readText 53 = .ok (.iload_n 2, 1) := by decide +kernel
theorem dX3_readText_54 : decode cX3_readText 54 = .ok (.bipush 8, 2) := by decide +kernel
theorem dX3_readText_56 : decode cX3_readText 56 = .ok (.if_icmp .ge 7, 3) := by decide +kernel
theorem dX3_readText_59 : decode cX3_readText 59 = .ok (.aload_n 0, 1) := by decide +kernel
theorem dX3_readText_60 : decode cX3_readText 60 = .ok (.invokevirtual 31, 3) := by decide +kernel
theorem dX3_readText_63 : decode cX3_readText 63 = .ok (.iinc 2 1, 3) := by decide +kernel
theorem dX3_readText_66 : decode cX3_readText 66 = .ok (.goto (-40), 3) := by decide +kernel
theorem dX3_readText_69 : decode cX3_readText 69 = .ok (.iconst 0, 1) := by decide +kernel
theorem dX3_readText_70 : decode cX3_readText 70 = .ok (.ireturn, 1) := by decide +kernel
set_option maxRecDepth 20000 in
theorem ggX3_readClause_X2_addClause : GoodIn wsX3_readClause wsX2_addClause := goodIn_r _ [6, 7, 8, 9, 114, 115, 116, 117, 118, 119] rfl (by decide +kernel)
set_option maxRecDepth 20000 in
theorem gX3_readClause_X2_addClause : GoodIn wsX3_readClause (wsV RX3 41 RX2 yX2_addClause wsX2_addClause) := goodIn_app (goodIn_of _ (by decide +kernel)) ggX3_readClause_X2_addClause
set_option maxRecDepth 20000 in
theorem ggX3_readClause_X3_nextWord : GoodIn wsX3_readClause wsX3_nextWord := goodIn_r _ [14, 15, 16, 17, 18, 1, 19, 20, 21, 13, 22, 23, 24, 25, 26, 27, 28, 29, 30, 31, 32, 33, 34, 35, 36, 37, 38, 39, 40, 41, 42, 43, 44, 45, 46, 47, 48, 49, 50, 51, 52, 53, 54, 55, 56, 57, 58, 59, 60, 61, 62, 63, 64, 65, 66, 67, 68, 69, 70, 71, 72, 73, 74, 75, 76, 77, 78, 79, 80, 81, 82, 83, 84, 85, 86, 87, 88, 89, 90, 91, 92, 93, 94, 107, 108, 109, 110, 111, 112, 113] rfl (by decide +kernel)
set_option maxRecDepth 20000 in
theorem gX3_readClause_X3_nextWord : GoodIn wsX3_readClause (wsV RX3 31 RX3 yX3_nextWord wsX3_nextWord) := goodIn_app (goodIn_of _ (by decide +kernel)) ggX3_readClause_X3_nextWord
set_option maxRecDepth 20000 in
theorem ggX3_readClause_X3_readTest : GoodIn wsX3_readClause wsX3_readTest := goodIn_r _ [98, 1, 19, 99, 10, 11, 12, 13, 14, 15, 16, 17, 18, 20, 21, 22, 23, 24, 25, 26, 27, 28, 29, 30, 31, 32, 33, 34, 35, 36, 37, 38, 39, 40, 41, 42, 43, 44, 45, 46, 47, 48, 49, 50, 51, 52, 53, 54, 55, 56, 57, 58, 59, 60, 61, 62, 63, 64, 65, 66, 67, 68, 69, 70, 71, 72, 73, 74, 75, 76, 77, 78, 79, 80, 81, 82, 83, 84, 85, 86, 87, 88, 89, 90, 91, 92, 93, 94, 100, 101, 102, 5, 103, 7, 9, 104, 105, 106, 107, 108, 109, 110, 111, 112, 113, 114, 115, 116, 117, 118, 119] rfl (by decide +kernel)
set_option maxRecDepth 20000 in
theorem gX3_readClause_X3_readTest : GoodIn wsX3_readClause (wsV RX3 45 RX3 yX3_readTest wsX3_readTest) := goodIn_app (goodIn_of _ (by decide +kernel)) ggX3_readClause_X3_readTest
theorem dX3_readClause_0 : decode cX3_readClause 0 = .ok (.aload_n 0, 1) := by decide +kernel
theorem dX3_readClause_1 : decode cX3_readClause 1 = .ok (.getfield 34, 3) := by decide +kernel
theorem dX3_readClause_4 : decode cX3_readClause 4 = .ok (.bipush 8, 2) := by decide +kernel
theorem dX3_readClause_6 : decode cX3_readClause 6 = .ok (.if_icmp .eq 14, 3) := by decide +kernel
theorem dX3_readClause_9 : decode cX3_readClause 9 = .ok (.aload_n 0, 1) := by decide +kernel
theorem dX3_readClause_10 : decode cX3_readClause 10 = .ok (.getfield 34, 3) := by decide +kernel
theorem dX3_readClause_13 : decode cX3_readClause 13 = .ok (.bipush 9, 2) := by decide +kernel
theorem dX3_readClause_15 : decode cX3_readClause 15 = .ok (.if_icmp .eq 5, 3) := by decide +kernel
theorem dX3_readClause_18 : decode cX3_readClause 18 = .ok (.iconst 0, 1) := by decide +kernel
theorem dX3_readClause_19 : decode cX3_readClause 19 = .ok (.ireturn, 1) := by decide +kernel
theorem dX3_readClause_20 : decode cX3_readClause 20 = .ok (.aload_n 1, 1) := by decide +kernel
theorem dX3_readClause_21 : decode cX3_readClause 21 = .ok (.aload_n 0, 1) := by decide +kernel
theorem dX3_readClause_22 : decode cX3_readClause 22 = .ok (.getfield 34, 3) := by decide +kernel
theorem dX3_readClause_25 : decode cX3_readClause 25 = .ok (.bipush 8, 2) := by decide +kernel
theorem dX3_readClause_27 : decode cX3_readClause 27 = .ok (.if_icmp .ne 7, 3) := by decide +kernel
theorem dX3_readClause_30 : decode cX3_readClause 30 = .ok (.iconst 1, 1) := by decide +kernel
theorem dX3_readClause_31 : decode cX3_readClause 31 = .ok (.goto 4, 3) := by decide +kernel
theorem dX3_readClause_34 : decode cX3_readClause 34 = .ok (.iconst 0, 1) := by decide +kernel
theorem dX3_readClause_35 : decode cX3_readClause 35 = .ok (.invokevirtual 41, 3) := by decide +kernel
theorem dX3_readClause_38 : decode cX3_readClause 38 = .ok (.aload_n 0, 1) := by decide +kernel
theorem dX3_readClause_39 : decode cX3_readClause 39 = .ok (.invokevirtual 31, 3) := by decide +kernel
theorem dX3_readClause_42 : decode cX3_readClause 42 = .ok (.aload_n 0, 1) := by decide +kernel
theorem dX3_readClause_43 : decode cX3_readClause 43 = .ok (.getfield 34, 3) := by decide +kernel
theorem dX3_readClause_46 : decode cX3_readClause 46 = .ok (.bipush 10, 2) := by decide +kernel
theorem dX3_readClause_48 : decode cX3_readClause 48 = .ok (.if_icmp .eq 27, 3) := by decide +kernel
theorem dX3_readClause_51 : decode cX3_readClause 51 = .ok (.aload_n 0, 1) := by decide +kernel
theorem dX3_readClause_52 : decode cX3_readClause 52 = .ok (.getfield 34, 3) := by decide +kernel
theorem dX3_readClause_55 : decode cX3_readClause 55 = .ok (.bipush 12, 2) := by decide +kernel
theorem dX3_readClause_57 : decode cX3_readClause 57 = .ok (.if_icmp .eq 12, 3) := by decide +kernel
theorem dX3_readClause_60 : decode cX3_readClause 60 = .ok (.aload_n 0, 1) := by decide +kernel
theorem dX3_readClause_61 : decode cX3_readClause 61 = .ok (.getfield 34, 3) := by decide +kernel
theorem dX3_readClause_64 : decode cX3_readClause 64 = .ok (.bipush 14, 2) := by decide +kernel
theorem dX3_readClause_66 : decode cX3_readClause 66 = .ok (.if_icmp .ne 7, 3) := by decide +kernel
theorem dX3_readClause_69 : decode cX3_readClause 69 = .ok (.iconst 1, 1) := by decide +kernel
theorem dX3_readClause_70 : decode cX3_readClause 70 = .ok (.goto 4, 3) := by decide +kernel
theorem dX3_readClause_73 : decode cX3_readClause 73 = .ok (.iconst 0, 1) := by decide +kernel
theorem dX3_readClause_74 : decode cX3_readClause 74 = .ok (.ireturn, 1) := by decide +kernel
theorem dX3_readClause_75 : decode cX3_readClause 75 = .ok (.iconst 0, 1) := by decide +kernel
theorem dX3_readClause_76 : decode cX3_readClause 76 = .ok (.istore_n 2, 1) := by decide +kernel
theorem dX3_readClause_77 : decode cX3_readClause 77 = .ok (.iload_n 2, 1) := by decide +kernel
theorem dX3_readClause_78 : decode cX3_readClause 78 = .ok (.iconst 4, 1) := by decide +kernel
theorem dX3_readClause_79 : decode cX3_readClause 79 = .ok (.if_icmp .ge 56, 3) := by decide +kernel
theorem dX3_readClause_82 : decode cX3_readClause 82 = .ok (.aload_n 0, 1) := by decide +kernel
theorem dX3_readClause_83 : decode cX3_readClause 83 = .ok (.invokevirtual 31, 3) := by decide +kernel
theorem dX3_readClause_86 : decode cX3_readClause 86 = .ok (.aload_n 0, 1) := by decide +kernel
theorem dX3_readClause_87 : decode cX3_readClause 87 = .ok (.aload_n 1, 1) := by decide +kernel
theorem dX3_readClause_88 : decode cX3_readClause 88 = .ok (.invokevirtual 45, 3) := by decide +kernel
theorem dX3_readClause_91 : decode cX3_readClause 91 = .ok (.ifCond .ne 5, 3) := by decide +kernel
theorem dX3_readClause_94 : decode cX3_readClause 94 = .ok (.iconst 0, 1) := by decide +kernel
theorem dX3_readClause_95 : decode cX3_readClause 95 = .ok (.ireturn, 1) := by decide +kernel
theorem dX3_readClause_96 : decode cX3_readClause 96 = .ok (.aload_n 0, 1) := by decide +kernel
theorem dX3_readClause_97 : decode cX3_readClause 97 = .ok (.getfield 34, 3) := by decide +kernel
theorem dX3_readClause_100 : decode cX3_readClause 100 = .ok (.bipush 11, 2) := by decide +kernel
theorem dX3_readClause_102 : decode cX3_readClause 102 = .ok (.if_icmp .eq 27, 3) := by decide +kernel
theorem dX3_readClause_105 : decode cX3_readClause 105 = .ok (.aload_n 0, 1) := by decide +kernel
theorem dX3_readClause_106 : decode cX3_readClause 106 = .ok (.getfield 34, 3) := by decide +kernel
theorem dX3_readClause_109 : decode cX3_readClause 109 = .ok (.bipush 12, 2) := by decide +kernel
theorem dX3_readClause_111 : decode cX3_readClause 111 = .ok (.if_icmp .eq 12, 3) := by decide +kernel
theorem dX3_readClause_114 : decode cX3_readClause 114 = .ok (.aload_n 0, 1) := by decide +kernel
theorem dX3_readClause_115 : decode cX3_readClause 115 = .ok (.getfield 34, 3) := by decide +kernel
theorem dX3_readClause_118 : decode cX3_readClause 118 = .ok (.bipush 14, 2) := by decide +kernel
theorem dX3_readClause_120 : decode cX3_readClause 120 = .ok (.if_icmp .ne 7, 3) := by decide +kernel
theorem dX3_readClause_123 : decode cX3_readClause 123 = .ok (.iconst 1, 1) := by decide +kernel
theorem dX3_readClause_124 : decode cX3_readClause 124 = .ok (.goto 4, 3) := by decide +kernel
theorem dX3_readClause_127 : decode cX3_readClause 127 = .ok (.iconst 0, 1) := by decide +kernel
theorem dX3_readClause_128 : decode cX3_readClause 128 = .ok (.ireturn, 1) := by decide +kernel
theorem dX3_readClause_129 : decode cX3_readClause 129 = .ok (.iinc 2 1, 3) := by decide +kernel
theorem dX3_readClause_132 : decode cX3_readClause 132 = .ok (.goto (-55), 3) := by decide +kernel
theorem dX3_readClause_135 : decode cX3_readClause 135 = .ok (.iconst 0, 1) := by decide +kernel
theorem dX3_readClause_136 : decode cX3_readClause 136 = .ok (.ireturn, 1) := by decide +kernel
set_option maxRecDepth 20000 in
theorem ggX3_readTest_X3_nextWord : GoodIn wsX3_readTest wsX3_nextWord := goodIn_r _ [8, 9, 10, 11, 12, 1, 2, 13, 14, 7, 15, 16, 17, 18, 19, 20, 21, 22, 23, 24, 25, 26, 27, 28, 29, 30, 31, 32, 33, 34, 35, 36, 37, 38, 39, 40, 41, 42, 43, 44, 45, 46, 47, 48, 49, 50, 51, 52, 53, 54, 55, 56, 57, 58, 59, 60, 61, 62, 63, 64, 65, 66, 67, 68, 69, 70, 71, 72, 73, 74, 75, 76, 77, 78, 79, 80, 81, 82, 83, 84, 85, 86, 87, 98, 99, 100, 101, 102, 103, 104] rfl (by decide +kernel)
set_option maxRecDepth 20000 in
theorem gX3_readTest_X3_nextWord : GoodIn wsX3_readTest (wsV RX3 31 RX3 yX3_nextWord wsX3_nextWord) := goodIn_app (goodIn_of _ (by decide +kernel)) ggX3_readTest_X3_nextWord
set_option maxRecDepth 20000 in
theorem ggX3_readTest_X2_addTest : GoodIn wsX3_readTest wsX2_addTest := goodIn_r _ [92, 93, 94, 95, 96, 97, 105, 106, 107, 108, 109, 110] rfl (by decide +kernel)
set_option maxRecDepth 20000 in
theorem gX3_readTest_X2_addTest : GoodIn wsX3_readTest (wsV RX3 52 RX2 yX2_addTest wsX2_addTest) := goodIn_app (goodIn_of _ (by decide +kernel)) ggX3_readTest_X2_addTest
theorem dX3_readTest_0 : decode cX3_readTest 0 = .ok (.aload_n 0, 1) := by decide +kernel
theorem dX3_readTest_1 : decode cX3_readTest 1 = .ok (.getfield 34, 3) := by decide +kernel
theorem dX3_readTest_4 : decode cX3_readTest 4 = .ok (.istore_n 2, 1) := by decide +kernel
theorem dX3_readTest_5 : decode cX3_readTest 5 = .ok (.iload_n 2, 1) := by decide +kernel
theorem dX3_readTest_6 : decode cX3_readTest 6 = .ok (.iconst 5, 1) := by decide +kernel
theorem dX3_readTest_7 : decode cX3_readTest 7 = .ok (.if_icmp .lt 5, 3) := by decide +kernel
theorem dX3_readTest_10 : decode cX3_readTest 10 = .ok (.iconst 0, 1) := by decide +kernel
theorem dX3_readTest_11 : decode cX3_readTest 11 = .ok (.ireturn, 1) := by decide +kernel
theorem dX3_readTest_12 : decode cX3_readTest 12 = .ok (.aload_n 0, 1) := by decide +kernel
theorem dX3_readTest_13 : decode cX3_readTest 13 = .ok (.invokevirtual 31, 3) := by decide +kernel
theorem dX3_readTest_16 : decode cX3_readTest 16 = .ok (.aload_n 0, 1) := by decide +kernel
theorem dX3_readTest_17 : decode cX3_readTest 17 = .ok (.getfield 34, 3) := by decide +kernel
theorem dX3_readTest_20 : decode cX3_readTest 20 = .ok (.istore_n 3, 1) := by decide +kernel
theorem dX3_readTest_21 : decode cX3_readTest 21 = .ok (.iload_n 3, 1) := by decide +kernel
theorem dX3_readTest_22 : decode cX3_readTest 22 = .ok (.iconst 5, 1) := by decide +kernel
theorem dX3_readTest_23 : decode cX3_readTest 23 = .ok (.if_icmp .eq 17, 3) := by decide +kernel
theorem dX3_readTest_26 : decode cX3_readTest 26 = .ok (.iload_n 3, 1) := by decide +kernel
theorem dX3_readTest_27 : decode cX3_readTest 27 = .ok (.bipush 6, 2) := by decide +kernel
theorem dX3_readTest_29 : decode cX3_readTest 29 = .ok (.if_icmp .eq 11, 3) := by decide +kernel
theorem dX3_readTest_32 : decode cX3_readTest 32 = .ok (.iload_n 3, 1) := by decide +kernel
theorem dX3_readTest_33 : decode cX3_readTest 33 = .ok (.bipush 7, 2) := by decide +kernel
theorem dX3_readTest_35 : decode cX3_readTest 35 = .ok (.if_icmp .eq 5, 3) := by decide +kernel
theorem dX3_readTest_38 : decode cX3_readTest 38 = .ok (.iconst 0, 1) := by decide +kernel
theorem dX3_readTest_39 : decode cX3_readTest 39 = .ok (.ireturn, 1) := by decide +kernel
theorem dX3_readTest_40 : decode cX3_readTest 40 = .ok (.aload_n 0, 1) := by decide +kernel
theorem dX3_readTest_41 : decode cX3_readTest 41 = .ok (.invokevirtual 31, 3) := by decide +kernel
theorem dX3_readTest_44 : decode cX3_readTest 44 = .ok (.aload_n 0, 1) := by decide +kernel
theorem dX3_readTest_45 : decode cX3_readTest 45 = .ok (.getfield 34, 3) := by decide +kernel
theorem dX3_readTest_48 : decode cX3_readTest 48 = .ok (.bipush 13, 2) := by decide +kernel
theorem dX3_readTest_50 : decode cX3_readTest 50 = .ok (.if_icmp .ne 12, 3) := by decide +kernel
theorem dX3_readTest_53 : decode cX3_readTest 53 = .ok (.aload_n 0, 1) := by decide +kernel
theorem dX3_readTest_54 : decode cX3_readTest 54 = .ok (.getfield 48, 3) := by decide +kernel
theorem dX3_readTest_57 : decode cX3_readTest 57 = .ok (.ldc 51, 2) := by decide +kernel
theorem dX3_readTest_59 : decode cX3_readTest 59 = .ok (.if_icmp .le 5, 3) := by decide +kernel
theorem dX3_readTest_62 : decode cX3_readTest 62 = .ok (.iconst 0, 1) := by decide +kernel
theorem dX3_readTest_63 : decode cX3_readTest 63 = .ok (.ireturn, 1) := by decide +kernel
theorem dX3_readTest_64 : decode cX3_readTest 64 = .ok (.aload_n 1, 1) := by decide +kernel
theorem dX3_readTest_65 : decode cX3_readTest 65 = .ok (.iload_n 2, 1) := by decide +kernel
theorem dX3_readTest_66 : decode cX3_readTest 66 = .ok (.iload_n 3, 1) := by decide +kernel
theorem dX3_readTest_67 : decode cX3_readTest 67 = .ok (.aload_n 0, 1) := by decide +kernel
theorem dX3_readTest_68 : decode cX3_readTest 68 = .ok (.getfield 48, 3) := by decide +kernel
theorem dX3_readTest_71 : decode cX3_readTest 71 = .ok (.invokevirtual 52, 3) := by decide +kernel
theorem dX3_readTest_74 : decode cX3_readTest 74 = .ok (.aload_n 0, 1) := by decide +kernel
theorem dX3_readTest_75 : decode cX3_readTest 75 = .ok (.invokevirtual 31, 3) := by decide +kernel
theorem dX3_readTest_78 : decode cX3_readTest 78 = .ok (.iconst 1, 1) := by decide +kernel
theorem dX3_readTest_79 : decode cX3_readTest 79 = .ok (.ireturn, 1) := by decide +kernel
set_option maxRecDepth 20000 in
theorem ggX3_nextWord_X3_isLetter : GoodIn wsX3_nextWord wsX3_isLetter := goodIn_r _ [10] rfl (by decide +kernel)
set_option maxRecDepth 20000 in
theorem gX3_nextWord_X3_isLetter : GoodIn wsX3_nextWord (va_wsS RX3 56 yX3_isLetter wsX3_isLetter) := goodIn_app (goodIn_of _ (by decide +kernel)) ggX3_nextWord_X3_isLetter
set_option maxRecDepth 20000 in
theorem ggX3_nextWord_X3_letterWord : GoodIn wsX3_nextWord wsX3_letterWord := goodIn_r _ [14, 1, 2, 3, 7, 8, 9, 10, 15, 16, 17, 18, 4, 19, 20, 21, 22, 23, 24, 25, 26, 27, 28, 29, 30, 31, 32, 33, 34, 35, 36, 37, 38, 39, 40, 41, 42, 43, 44, 45, 46, 47, 48, 49, 50, 51, 52, 53, 54, 55, 56, 57, 58, 59, 60, 61, 62, 63, 64, 65, 66, 67, 83, 84, 85, 86, 87, 88, 89] rfl (by decide +kernel)
set_option maxRecDepth 20000 in
theorem gX3_nextWord_X3_letterWord : GoodIn wsX3_nextWord (wsV RX3 60 RX3 yX3_letterWord wsX3_letterWord) := goodIn_app (goodIn_of _ (by decide +kernel)) ggX3_nextWord_X3_letterWord
set_option maxRecDepth 20000 in
theorem ggX3_nextWord_X3_isFigure : GoodIn wsX3_nextWord wsX3_isFigure := goodIn_r _ [70] rfl (by decide +kernel)
set_option maxRecDepth 20000 in
theorem gX3_nextWord_X3_isFigure : GoodIn wsX3_nextWord (va_wsS RX3 64 yX3_isFigure wsX3_isFigure) := goodIn_app (goodIn_of _ (by decide +kernel)) ggX3_nextWord_X3_isFigure
set_option maxRecDepth 20000 in
theorem ggX3_nextWord_X3_numberWord : GoodIn wsX3_nextWord wsX3_numberWord := goodIn_r _ [74, 1, 2, 3, 75, 76, 77, 78, 79, 68, 69, 9, 70, 83, 84, 85, 86, 87, 88, 89] rfl (by decide +kernel)
set_option maxRecDepth 20000 in
theorem gX3_nextWord_X3_numberWord : GoodIn wsX3_nextWord (wsV RX3 67 RX3 yX3_numberWord wsX3_numberWord) := goodIn_app (goodIn_of _ (by decide +kernel)) ggX3_nextWord_X3_numberWord
set_option maxRecDepth 20000 in
theorem ggX3_nextWord_X3_signWord : GoodIn wsX3_nextWord wsX3_signWord := goodIn_r _ [82] rfl (by decide +kernel)
set_option maxRecDepth 20000 in
theorem gX3_nextWord_X3_signWord : GoodIn wsX3_nextWord (va_wsS RX3 70 yX3_signWord wsX3_signWord) := goodIn_app (goodIn_of _ (by decide +kernel)) ggX3_nextWord_X3_signWord
theorem dX3_nextWord_0 : decode cX3_nextWord 0 = .ok (.aload_n 0, 1) := by decide +kernel
theorem dX3_nextWord_1 : decode cX3_nextWord 1 = .ok (.getfield 28, 3) := by decide +kernel
theorem dX3_nextWord_4 : decode cX3_nextWord 4 = .ok (.aload_n 0, 1) := by decide +kernel
theorem dX3_nextWord_5 : decode cX3_nextWord 5 = .ok (.getfield 17, 3) := by decide +kernel
theorem dX3_nextWord_8 : decode cX3_nextWord 8 = .ok (.if_icmp .ge 30, 3) := by decide +kernel
theorem dX3_nextWord_11 : decode cX3_nextWord 11 = .ok (.aload_n 0, 1) := by decide +kernel
theorem dX3_nextWord_12 : decode cX3_nextWord 12 = .ok (.getfield 13, 3) := by decide +kernel
theorem dX3_nextWord_15 : decode cX3_nextWord 15 = .ok (.aload_n 0, 1) := by decide +kernel
theorem dX3_nextWord_16 : decode cX3_nextWord 16 = .ok (.getfield 28, 3) := by decide +kernel
theorem dX3_nextWord_19 : decode cX3_nextWord 19 = .ok (.iaload, 1) := by decide +kernel
theorem dX3_nextWord_20 : decode cX3_nextWord 20 = .ok (.bipush 32, 2) := by decide +kernel
theorem dX3_nextWord_22 : decode cX3_nextWord 22 = .ok (.if_icmp .ne 16, 3) := by decide +kernel
theorem dX3_nextWord_25 : decode cX3_nextWord 25 = .ok (.aload_n 0, 1) := by decide +kernel
theorem dX3_nextWord_26 : decode cX3_nextWord 26 = .ok (.dup, 1) := by decide +kernel
theorem dX3_nextWord_27 : decode cX3_nextWord 27 = .ok (.getfield 28, 3) := by decide +kernel
theorem dX3_nextWord_30 : decode cX3_nextWord 30 = .ok (.iconst 1, 1) := by decide +kernel
theorem dX3_nextWord_31 : decode cX3_nextWord 31 = .ok (.iadd, 1) := by decide +kernel
theorem dX3_nextWord_32 : decode cX3_nextWord 32 = .ok (.putfield 28, 3) := by decide +kernel
theorem dX3_nextWord_35 : decode cX3_nextWord 35 = .ok (.goto (-35), 3) := by decide +kernel
theorem dX3_nextWord_38 : decode cX3_nextWord 38 = .ok (.aload_n 0, 1) := by decide +kernel
theorem dX3_nextWord_39 : decode cX3_nextWord 39 = .ok (.aload_n 0, 1) := by decide +kernel
theorem dX3_nextWord_40 : decode cX3_nextWord 40 = .ok (.getfield 28, 3) := by decide +kernel
theorem dX3_nextWord_43 : decode cX3_nextWord 43 = .ok (.putfield 20, 3) := by decide +kernel
theorem dX3_nextWord_46 : decode cX3_nextWord 46 = .ok (.aload_n 0, 1) := by decide +kernel
theorem dX3_nextWord_47 : decode cX3_nextWord 47 = .ok (.getfield 28, 3) := by decide +kernel
theorem dX3_nextWord_50 : decode cX3_nextWord 50 = .ok (.aload_n 0, 1) := by decide +kernel
theorem dX3_nextWord_51 : decode cX3_nextWord 51 = .ok (.getfield 17, 3) := by decide +kernel
theorem dX3_nextWord_54 : decode cX3_nextWord 54 = .ok (.if_icmp .lt 12, 3) := by decide +kernel
theorem dX3_nextWord_57 : decode cX3_nextWord 57 = .ok (.aload_n 0, 1) := by decide +kernel
theorem dX3_nextWord_58 : decode cX3_nextWord 58 = .ok (.bipush 14, 2) := by decide +kernel
theorem dX3_nextWord_60 : decode cX3_nextWord 60 = .ok (.putfield 34, 3) := by decide +kernel
theorem dX3_nextWord_63 : decode cX3_nextWord 63 = .ok (.goto 87, 3) := by decide +kernel
theorem dX3_nextWord_66 : decode cX3_nextWord 66 = .ok (.aload_n 0, 1) := by decide +kernel
theorem dX3_nextWord_67 : decode cX3_nextWord 67 = .ok (.getfield 13, 3) := by decide +kernel
theorem dX3_nextWord_70 : decode cX3_nextWord 70 = .ok (.aload_n 0, 1) := by decide +kernel
theorem dX3_nextWord_71 : decode cX3_nextWord 71 = .ok (.getfield 28, 3) := by decide +kernel
theorem dX3_nextWord_74 : decode cX3_nextWord 74 = .ok (.iaload, 1) := by decide +kernel
theorem dX3_nextWord_75 : decode cX3_nextWord 75 = .ok (.invokestatic 56, 3) := by decide +kernel
theorem dX3_nextWord_78 : decode cX3_nextWord 78 = .ok (.ifCond .eq 14, 3) := by decide +kernel
theorem dX3_nextWord_81 : decode cX3_nextWord 81 = .ok (.aload_n 0, 1) := by decide +kernel
theorem dX3_nextWord_82 : decode cX3_nextWord 82 = .ok (.aload_n 0, 1) := by decide +kernel
theorem dX3_nextWord_83 : decode cX3_nextWord 83 = .ok (.invokevirtual 60, 3) := by decide +kernel
theorem dX3_nextWord_86 : decode cX3_nextWord 86 = .ok (.putfield 34, 3) := by decide +kernel
theorem dX3_nextWord_89 : decode cX3_nextWord 89 = .ok (.goto 61, 3) := by decide +kernel
theorem dX3_nextWord_92 : decode cX3_nextWord 92 = .ok (.aload_n 0, 1) := by decide +kernel
theorem dX3_nextWord_93 : decode cX3_nextWord 93 = .ok (.getfield 13, 3) := by decide +kernel
theorem dX3_nextWord_96 : decode cX3_nextWord 96 = .ok (.aload_n 0, 1) := by decide +kernel
theorem dX3_nextWord_97 : decode cX3_nextWord 97 = .ok (.getfield 28, 3) := by decide +kernel
theorem dX3_nextWord_100 : decode cX3_nextWord 100 = .ok (.iaload, 1) := by decide +kernel
theorem dX3_nextWord_101 : decode cX3_nextWord 101 = .ok (.invokestatic 64, 3) := by decide +kernel
theorem dX3_nextWord_104 : decode cX3_nextWord 104 = .ok (.ifCond .eq 20, 3) := by decide +kernel
theorem dX3_nextWord_107 : decode cX3_nextWord 107 = .ok (.aload_n 0, 1) := by decide +kernel
theorem dX3_nextWord_108 : decode cX3_nextWord 108 = .ok (.bipush 13, 2) := by decide +kernel
theorem dX3_nextWord_110 : decode cX3_nextWord 110 = .ok (.putfield 34, 3) := by decide +kernel
theorem dX3_nextWord_113 : decode cX3_nextWord 113 = .ok (.aload_n 0, 1) := by decide +kernel
theorem dX3_nextWord_114 : decode cX3_nextWord 114 = .ok (.aload_n 0, 1) := by decide +kernel
theorem dX3_nextWord_115 : decode cX3_nextWord 115 = .ok (.invokevirtual 67, 3) := by decide +kernel
theorem dX3_nextWord_118 : decode cX3_nextWord 118 = .ok (.putfield 48, 3) := by decide +kernel
theorem dX3_nextWord_121 : decode cX3_nextWord 121 = .ok (.goto 29, 3) := by decide +kernel
theorem dX3_nextWord_124 : decode cX3_nextWord 124 = .ok (.aload_n 0, 1) := by decide +kernel
theorem dX3_nextWord_125 : decode cX3_nextWord 125 = .ok (.aload_n 0, 1) := by decide +kernel
theorem dX3_nextWord_126 : decode cX3_nextWord 126 = .ok (.getfield 13, 3) := by decide +kernel
theorem dX3_nextWord_129 : decode cX3_nextWord 129 = .ok (.aload_n 0, 1) := by decide +kernel
theorem dX3_nextWord_130 : decode cX3_nextWord 130 = .ok (.getfield 28, 3) := by decide +kernel
theorem dX3_nextWord_133 : decode cX3_nextWord 133 = .ok (.iaload, 1) := by decide +kernel
theorem dX3_nextWord_134 : decode cX3_nextWord 134 = .ok (.invokestatic 70, 3) := by decide +kernel
theorem dX3_nextWord_137 : decode cX3_nextWord 137 = .ok (.putfield 34, 3) := by decide +kernel
theorem dX3_nextWord_140 : decode cX3_nextWord 140 = .ok (.aload_n 0, 1) := by decide +kernel
theorem dX3_nextWord_141 : decode cX3_nextWord 141 = .ok (.dup, 1) := by decide +kernel
theorem dX3_nextWord_142 : decode cX3_nextWord 142 = .ok (.getfield 28, 3) := by decide +kernel
theorem dX3_nextWord_145 : decode cX3_nextWord 145 = .ok (.iconst 1, 1) := by decide +kernel
theorem dX3_nextWord_146 : decode cX3_nextWord 146 = .ok (.iadd, 1) := by decide +kernel
theorem dX3_nextWord_147 : decode cX3_nextWord 147 = .ok (.putfield 28, 3) := by decide +kernel
theorem dX3_nextWord_150 : decode cX3_nextWord 150 = .ok (.return_, 1) := by decide +kernel
theorem dX3_isLetter_0 : decode cX3_isLetter 0 = .ok (.iload_n 0, 1) := by decide +kernel
theorem dX3_isLetter_1 : decode cX3_isLetter 1 = .ok (.bipush 97, 2) := by decide +kernel
theorem dX3_isLetter_3 : decode cX3_isLetter 3 = .ok (.if_icmp .lt 13, 3) := by decide +kernel
theorem dX3_isLetter_6 : decode cX3_isLetter 6 = .ok (.iload_n 0, 1) := by decide +kernel
theorem dX3_isLetter_7 : decode cX3_isLetter 7 = .ok (.bipush 122, 2) := by decide +kernel
theorem dX3_isLetter_9 : decode cX3_isLetter 9 = .ok (.if_icmp .gt 7, 3) := by decide +kernel
theorem dX3_isLetter_12 : decode cX3_isLetter 12 = .ok (.iconst 1, 1) := by decide +kernel
theorem dX3_isLetter_13 : decode cX3_isLetter 13 = .ok (.goto 4, 3) := by decide +kernel
theorem dX3_isLetter_16 : decode cX3_isLetter 16 = .ok (.iconst 0, 1) := by decide +kernel
theorem dX3_isLetter_17 : decode cX3_isLetter 17 = .ok (.ireturn, 1) := by decide +kernel
theorem dX3_isFigure_0 : decode cX3_isFigure 0 = .ok (.iload_n 0, 1) := by decide +kernel
theorem dX3_isFigure_1 : decode cX3_isFigure 1 = .ok (.bipush 48, 2) := by decide +kernel
theorem dX3_isFigure_3 : decode cX3_isFigure 3 = .ok (.if_icmp .lt 13, 3) := by decide +kernel
theorem dX3_isFigure_6 : decode cX3_isFigure 6 = .ok (.iload_n 0, 1) := by decide +kernel
theorem dX3_isFigure_7 : decode cX3_isFigure 7 = .ok (.bipush 57, 2) := by decide +kernel
theorem dX3_isFigure_9 : decode cX3_isFigure 9 = .ok (.if_icmp .gt 7, 3) := by decide +kernel
theorem dX3_isFigure_12 : decode cX3_isFigure 12 = .ok (.iconst 1, 1) := by decide +kernel
theorem dX3_isFigure_13 : decode cX3_isFigure 13 = .ok (.goto 4, 3) := by decide +kernel
theorem dX3_isFigure_16 : decode cX3_isFigure 16 = .ok (.iconst 0, 1) := by decide +kernel
theorem dX3_isFigure_17 : decode cX3_isFigure 17 = .ok (.ireturn, 1) := by decide +kernel
theorem dX3_signWord_0 : decode cX3_signWord 0 = .ok (.iload_n 0, 1) := by decide +kernel
theorem dX3_signWord_1 : decode cX3_signWord 1 = .ok (.tableswitch 42 59 62 #[39, 31, 33, 36], 31) := by decide +kernel
theorem dX3_signWord_32 : decode cX3_signWord 32 = .ok (.iconst 5, 1) := by decide +kernel
theorem dX3_signWord_33 : decode cX3_signWord 33 = .ok (.ireturn, 1) := by decide +kernel
theorem dX3_signWord_34 : decode cX3_signWord 34 = .ok (.bipush 6, 2) := by decide +kernel
theorem dX3_signWord_36 : decode cX3_signWord 36 = .ok (.ireturn, 1) := by decide +kernel
theorem dX3_signWord_37 : decode cX3_signWord 37 = .ok (.bipush 7, 2) := by decide +kernel
theorem dX3_signWord_39 : decode cX3_signWord 39 = .ok (.ireturn, 1) := by decide +kernel
theorem dX3_signWord_40 : decode cX3_signWord 40 = .ok (.bipush 12, 2) := by decide +kernel
theorem dX3_signWord_42 : decode cX3_signWord 42 = .ok (.ireturn, 1) := by decide +kernel
theorem dX3_signWord_43 : decode cX3_signWord 43 = .ok (.bipush 15, 2) := by decide +kernel
theorem dX3_signWord_45 : decode cX3_signWord 45 = .ok (.ireturn, 1) := by decide +kernel
set_option maxRecDepth 20000 in
theorem ggX3_numberWord_X3_isFigure : GoodIn wsX3_numberWord wsX3_isFigure := goodIn_r _ [12] rfl (by decide +kernel)
set_option maxRecDepth 20000 in
theorem gX3_numberWord_X3_isFigure : GoodIn wsX3_numberWord (va_wsS RX3 64 yX3_isFigure wsX3_isFigure) := goodIn_app (goodIn_of _ (by decide +kernel)) ggX3_numberWord_X3_isFigure
theorem dX3_numberWord_0 : decode cX3_numberWord 0 = .ok (.iconst 0, 1) := by decide +kernel
theorem dX3_numberWord_1 : decode cX3_numberWord 1 = .ok (.istore_n 1, 1) := by decide +kernel
theorem dX3_numberWord_2 : decode cX3_numberWord 2 = .ok (.aload_n 0, 1) := by decide +kernel
theorem dX3_numberWord_3 : decode cX3_numberWord 3 = .ok (.getfield 28, 3) := by decide +kernel
theorem dX3_numberWord_6 : decode cX3_numberWord 6 = .ok (.aload_n 0, 1) := by decide +kernel
theorem dX3_numberWord_7 : decode cX3_numberWord 7 = .ok (.getfield 17, 3) := by decide +kernel
theorem dX3_numberWord_10 : decode cX3_numberWord 10 = .ok (.if_icmp .ge 54, 3) := by decide +kernel
theorem dX3_numberWord_13 : decode cX3_numberWord 13 = .ok (.aload_n 0, 1) := by decide +kernel
theorem dX3_numberWord_14 : decode cX3_numberWord 14 = .ok (.getfield 13, 3) := by decide +kernel
theorem dX3_numberWord_17 : decode cX3_numberWord 17 = .ok (.aload_n 0, 1) := by decide +kernel
theorem dX3_numberWord_18 : decode cX3_numberWord 18 = .ok (.getfield 28, 3) := by decide +kernel
theorem dX3_numberWord_21 : decode cX3_numberWord 21 = .ok (.iaload, 1) := by decide +kernel
theorem dX3_numberWord_22 : decode cX3_numberWord 22 = .ok (.invokestatic 64, 3) := by decide +kernel
theorem dX3_numberWord_25 : decode cX3_numberWord 25 = .ok (.ifCond .eq 39, 3) := by decide +kernel
theorem dX3_numberWord_28 : decode cX3_numberWord 28 = .ok (.iload_n 1, 1) := by decide +kernel
theorem dX3_numberWord_29 : decode cX3_numberWord 29 = .ok (.bipush 10, 2) := by decide +kernel
theorem dX3_numberWord_31 : decode cX3_numberWord 31 = .ok (.imul, 1) := by decide +kernel
theorem dX3_numberWord_32 : decode cX3_numberWord 32 = .ok (.aload_n 0, 1) := by decide +kernel
theorem dX3_numberWord_33 : decode cX3_numberWord 33 = .ok (.getfield 13, 3) := by decide +kernel
theorem dX3_numberWord_36 : decode cX3_numberWord 36 = .ok (.aload_n 0, 1) := by decide +kernel
theorem dX3_numberWord_37 : decode cX3_numberWord 37 = .ok (.getfield 28, 3) := by decide +kernel
theorem dX3_numberWord_40 : decode cX3_numberWord 40 = .ok (.iaload, 1) := by decide +kernel
theorem dX3_numberWord_41 : decode cX3_numberWord 41 = .ok (.bipush 48, 2) := by decide +kernel
theorem dX3_numberWord_43 : decode cX3_numberWord 43 = .ok (.isub, 1) := by decide +kernel
theorem dX3_numberWord_44 : decode cX3_numberWord 44 = .ok (.iadd, 1) := by decide +kernel
theorem dX3_numberWord_45 : decode cX3_numberWord 45 = .ok (.ldc 74, 2) := by decide +kernel
theorem dX3_numberWord_47 : decode cX3_numberWord 47 = .ok (.invokestatic 75, 3) := by decide +kernel
theorem dX3_numberWord_50 : decode cX3_numberWord 50 = .ok (.istore_n 1, 1) := by decide +kernel
theorem dX3_numberWord_51 : decode cX3_numberWord 51 = .ok (.aload_n 0, 1) := by decide +kernel
theorem dX3_numberWord_52 : decode cX3_numberWord 52 = .ok (.dup, 1) := by decide +kernel
theorem dX3_numberWord_53 : decode cX3_numberWord 53 = .ok (.getfield 28, 3) := by decide +kernel
theorem dX3_numberWord_56 : decode cX3_numberWord 56 = .ok (.iconst 1, 1) := by decide +kernel
theorem dX3_numberWord_57 : decode cX3_numberWord 57 = .ok (.iadd, 1) := by decide +kernel
theorem dX3_numberWord_58 : decode cX3_numberWord 58 = .ok (.putfield 28, 3) := by decide +kernel
theorem dX3_numberWord_61 : decode cX3_numberWord 61 = .ok (.goto (-59), 3) := by decide +kernel
theorem dX3_numberWord_64 : decode cX3_numberWord 64 = .ok (.iload_n 1, 1) := by decide +kernel
theorem dX3_numberWord_65 : decode cX3_numberWord 65 = .ok (.ireturn, 1) := by decide +kernel
set_option maxRecDepth 20000 in
theorem ggX3_letterWord_X3_isLetter : GoodIn wsX3_letterWord wsX3_isLetter := goodIn_r _ [7] rfl (by decide +kernel)
set_option maxRecDepth 20000 in
theorem gX3_letterWord_X3_isLetter : GoodIn wsX3_letterWord (va_wsS RX3 56 yX3_isLetter wsX3_isLetter) := goodIn_app (goodIn_of _ (by decide +kernel)) ggX3_letterWord_X3_isLetter
set_option maxRecDepth 20000 in
theorem ggX3_letterWord_X3_spells : GoodIn wsX3_letterWord wsX3_spells := goodIn_r _ [11, 1, 12, 3, 13, 14, 15, 16, 17, 18, 19, 20, 21, 22, 23, 24, 25, 26, 27, 28, 29, 30, 31, 32, 33, 34, 35, 36, 37, 38, 39, 40, 41, 42, 43, 44, 45, 46, 47, 48, 49, 50, 51, 52, 53, 54, 55, 56, 57, 58, 59, 60, 61, 62, 63, 64, 65, 66, 67, 68] rfl (by decide +kernel)
set_option maxRecDepth 20000 in
theorem gX3_letterWord_X3_spells : GoodIn wsX3_letterWord (wsV RX3 83 RX3 yX3_spells wsX3_spells) := goodIn_app (goodIn_of _ (by decide +kernel)) ggX3_letterWord_X3_spells
theorem dX3_letterWord_0 : decode cX3_letterWord 0 = .ok (.aload_n 0, 1) := by decide +kernel
theorem dX3_letterWord_1 : decode cX3_letterWord 1 = .ok (.getfield 28, 3) := by decide +kernel
theorem dX3_letterWord_4 : decode cX3_letterWord 4 = .ok (.aload_n 0, 1) := by decide +kernel
theorem dX3_letterWord_5 : decode cX3_letterWord 5 = .ok (.getfield 17, 3) := by decide +kernel
theorem dX3_letterWord_8 : decode cX3_letterWord 8 = .ok (.if_icmp .ge 31, 3) := by decide +kernel
theorem dX3_letterWord_11 : decode cX3_letterWord 11 = .ok (.aload_n 0, 1) := by decide +kernel
theorem dX3_letterWord_12 : decode cX3_letterWord 12 = .ok (.getfield 13, 3) := by decide +kernel
theorem dX3_letterWord_15 : decode cX3_letterWord 15 = .ok (.aload_n 0, 1) := by decide +kernel
theorem dX3_letterWord_16 : decode cX3_letterWord 16 = .ok (.getfield 28, 3) := by decide +kernel
theorem dX3_letterWord_19 : decode cX3_letterWord 19 = .ok (.iaload, 1) := by decide +kernel
theorem dX3_letterWord_20 : decode cX3_letterWord 20 = .ok (.invokestatic 56, 3) := by decide +kernel
theorem dX3_letterWord_23 : decode cX3_letterWord 23 = .ok (.ifCond .eq 16, 3) := by decide +kernel
theorem dX3_letterWord_26 : decode cX3_letterWord 26 = .ok (.aload_n 0, 1) := by decide +kernel
theorem dX3_letterWord_27 : decode cX3_letterWord 27 = .ok (.dup, 1) := by decide +kernel
theorem dX3_letterWord_28 : decode cX3_letterWord 28 = .ok (.getfield 28, 3) := by decide +kernel
theorem dX3_letterWord_31 : decode cX3_letterWord 31 = .ok (.iconst 1, 1) := by decide +kernel
theorem dX3_letterWord_32 : decode cX3_letterWord 32 = .ok (.iadd, 1) := by decide +kernel
theorem dX3_letterWord_33 : decode cX3_letterWord 33 = .ok (.putfield 28, 3) := by decide +kernel
theorem dX3_letterWord_36 : decode cX3_letterWord 36 = .ok (.goto (-36), 3) := by decide +kernel
theorem dX3_letterWord_39 : decode cX3_letterWord 39 = .ok (.aload_n 0, 1) := by decide +kernel
theorem dX3_letterWord_40 : decode cX3_letterWord 40 = .ok (.ldc 81, 2) := by decide +kernel
theorem dX3_letterWord_42 : decode cX3_letterWord 42 = .ok (.invokevirtual 83, 3) := by decide +kernel
theorem dX3_letterWord_45 : decode cX3_letterWord 45 = .ok (.ifCond .eq 6, 3) := by decide +kernel
theorem dX3_letterWord_48 : decode cX3_letterWord 48 = .ok (.bipush 8, 2) := by decide +kernel
theorem dX3_letterWord_50 : decode cX3_letterWord 50 = .ok (.ireturn, 1) := by decide +kernel
theorem dX3_letterWord_51 : decode cX3_letterWord 51 = .ok (.aload_n 0, 1) := by decide +kernel
theorem dX3_letterWord_52 : decode cX3_letterWord 52 = .ok (.ldc 87, 2) := by decide +kernel
theorem dX3_letterWord_54 : decode cX3_letterWord 54 = .ok (.invokevirtual 83, 3) := by decide +kernel
theorem dX3_letterWord_57 : decode cX3_letterWord 57 = .ok (.ifCond .eq 6, 3) := by decide +kernel
theorem dX3_letterWord_60 : decode cX3_letterWord 60 = .ok (.bipush 9, 2) := by decide +kernel
theorem dX3_letterWord_62 : decode cX3_letterWord 62 = .ok (.ireturn, 1) := by decide +kernel
theorem dX3_letterWord_63 : decode cX3_letterWord 63 = .ok (.aload_n 0, 1) := by decide +kernel
theorem dX3_letterWord_64 : decode cX3_letterWord 64 = .ok (.ldc 89, 2) := by decide +kernel
theorem dX3_letterWord_66 : decode cX3_letterWord 66 = .ok (.invokevirtual 83, 3) := by decide +kernel
theorem dX3_letterWord_69 : decode cX3_letterWord 69 = .ok (.ifCond .eq 6, 3) := by decide +kernel
theorem dX3_letterWord_72 : decode cX3_letterWord 72 = .ok (.bipush 10, 2) := by decide +kernel
theorem dX3_letterWord_74 : decode cX3_letterWord 74 = .ok (.ireturn, 1) := by decide +kernel
theorem dX3_letterWord_75 : decode cX3_letterWord 75 = .ok (.aload_n 0, 1) := by decide +kernel
theorem dX3_letterWord_76 : decode cX3_letterWord 76 = .ok (.ldc 91, 2) := by decide +kernel
theorem dX3_letterWord_78 : decode cX3_letterWord 78 = .ok (.invokevirtual 83, 3) := by decide +kernel
theorem dX3_letterWord_81 : decode cX3_letterWord 81 = .ok (.ifCond .eq 6, 3) := by decide +kernel
theorem dX3_letterWord_84 : decode cX3_letterWord 84 = .ok (.bipush 11, 2) := by decide +kernel
theorem dX3_letterWord_86 : decode cX3_letterWord 86 = .ok (.ireturn, 1) := by decide +kernel
theorem dX3_letterWord_87 : decode cX3_letterWord 87 = .ok (.aload_n 0, 1) := by decide +kernel
theorem dX3_letterWord_88 : decode cX3_letterWord 88 = .ok (.ldc 93, 2) := by decide +kernel
theorem dX3_letterWord_90 : decode cX3_letterWord 90 = .ok (.invokevirtual 83, 3) := by decide +kernel
theorem dX3_letterWord_93 : decode cX3_letterWord 93 = .ok (.ifCond .eq 5, 3) := by decide +kernel
theorem dX3_letterWord_96 : decode cX3_letterWord 96 = .ok (.iconst 0, 1) := by decide +kernel
theorem dX3_letterWord_97 : decode cX3_letterWord 97 = .ok (.ireturn, 1) := by decide +kernel
theorem dX3_letterWord_98 : decode cX3_letterWord 98 = .ok (.aload_n 0, 1) := by decide +kernel
theorem dX3_letterWord_99 : decode cX3_letterWord 99 = .ok (.ldc 95, 2) := by decide +kernel
theorem dX3_letterWord_101 : decode cX3_letterWord 101 = .ok (.invokevirtual 83, 3) := by decide +kernel
theorem dX3_letterWord_104 : decode cX3_letterWord 104 = .ok (.ifCond .eq 5, 3) := by decide +kernel
theorem dX3_letterWord_107 : decode cX3_letterWord 107 = .ok (.iconst 1, 1) := by decide +kernel
theorem dX3_letterWord_108 : decode cX3_letterWord 108 = .ok (.ireturn, 1) := by decide +kernel
theorem dX3_letterWord_109 : decode cX3_letterWord 109 = .ok (.aload_n 0, 1) := by decide +kernel
theorem dX3_letterWord_110 : decode cX3_letterWord 110 = .ok (.ldc 97, 2) := by decide +kernel
theorem dX3_letterWord_112 : decode cX3_letterWord 112 = .ok (.invokevirtual 83, 3) := by decide +kernel
theorem dX3_letterWord_115 : decode cX3_letterWord 115 = .ok (.ifCond .eq 5, 3) := by decide +kernel
theorem dX3_letterWord_118 : decode cX3_letterWord 118 = .ok (.iconst 2, 1) := by decide +kernel
theorem dX3_letterWord_119 : decode cX3_letterWord 119 = .ok (.ireturn, 1) := by decide +kernel
theorem dX3_letterWord_120 : decode cX3_letterWord 120 = .ok (.aload_n 0, 1) := by decide +kernel
theorem dX3_letterWord_121 : decode cX3_letterWord 121 = .ok (.ldc 99, 2) := by decide +kernel
theorem dX3_letterWord_123 : decode cX3_letterWord 123 = .ok (.invokevirtual 83, 3) := by decide +kernel
theorem dX3_letterWord_126 : decode cX3_letterWord 126 = .ok (.ifCond .eq 5, 3) := by decide +kernel
theorem dX3_letterWord_129 : decode cX3_letterWord 129 = .ok (.iconst 3, 1) := by decide +kernel
theorem dX3_letterWord_130 : decode cX3_letterWord 130 = .ok (.ireturn, 1) := by decide +kernel
theorem dX3_letterWord_131 : decode cX3_letterWord 131 = .ok (.aload_n 0, 1) := by decide +kernel
theorem dX3_letterWord_132 : decode cX3_letterWord 132 = .ok (.ldc 101, 2) := by decide +kernel
theorem dX3_letterWord_134 : decode cX3_letterWord 134 = .ok (.invokevirtual 83, 3) := by decide +kernel
theorem dX3_letterWord_137 : decode cX3_letterWord 137 = .ok (.ifCond .eq 7, 3) := by decide +kernel
theorem dX3_letterWord_140 : decode cX3_letterWord 140 = .ok (.iconst 4, 1) := by decide +kernel
theorem dX3_letterWord_141 : decode cX3_letterWord 141 = .ok (.goto 5, 3) := by decide +kernel
theorem dX3_letterWord_144 : decode cX3_letterWord 144 = .ok (.bipush 15, 2) := by decide +kernel
theorem dX3_letterWord_146 : decode cX3_letterWord 146 = .ok (.ireturn, 1) := by decide +kernel
set_option maxRecDepth 20000 in
theorem ggX3_spells_J0_length_8abf5 : GoodIn wsX3_spells wsJ0_length_8abf5 := goodIn_r _ [8, 9, 10, 11, 12, 7, 13, 14, 15] rfl (by decide +kernel)
set_option maxRecDepth 20000 in
theorem gX3_spells_J0_length_8abf5 : GoodIn wsX3_spells (wsV RX3 103 RJ0 yJ0_length_8abf5 wsJ0_length_8abf5) := goodIn_app (goodIn_of _ (by decide +kernel)) ggX3_spells_J0_length_8abf5
set_option maxRecDepth 20000 in
theorem ggX3_spells_J0_charAt_5068e : GoodIn wsX3_spells wsJ0_charAt_5068e := goodIn_r _ [19, 9, 20, 21, 22, 7, 23, 14, 15, 24, 25, 26, 27, 28, 29, 30, 31, 32, 33, 34, 35, 36, 37, 38, 39, 40, 41, 42, 43, 44, 45, 46, 47, 48, 49, 50, 51, 52] rfl (by decide +kernel)
set_option maxRecDepth 20000 in
theorem gX3_spells_J0_charAt_5068e : GoodIn wsX3_spells (wsV RX3 107 RJ0 yJ0_charAt_5068e wsJ0_charAt_5068e) := goodIn_app (goodIn_of _ (by decide +kernel)) ggX3_spells_J0_charAt_5068e
theorem dX3_spells_0 : decode cX3_spells 0 = .ok (.aload_n 0, 1) := by decide +kernel
theorem dX3_spells_1 : decode cX3_spells 1 = .ok (.getfield 28, 3) := by decide +kernel
theorem dX3_spells_4 : decode cX3_spells 4 = .ok (.aload_n 0, 1) := by decide +kernel
theorem dX3_spells_5 : decode cX3_spells 5 = .ok (.getfield 20, 3) := by decide +kernel
theorem dX3_spells_8 : decode cX3_spells 8 = .ok (.isub, 1) := by decide +kernel
theorem dX3_spells_9 : decode cX3_spells 9 = .ok (.aload_n 1, 1) := by decide +kernel
theorem dX3_spells_10 : decode cX3_spells 10 = .ok (.invokevirtual 103, 3) := by decide +kernel
theorem dX3_spells_13 : decode cX3_spells 13 = .ok (.if_icmp .eq 5, 3) := by decide +kernel
theorem dX3_spells_16 : decode cX3_spells 16 = .ok (.iconst 0, 1) := by decide +kernel
theorem dX3_spells_17 : decode cX3_spells 17 = .ok (.ireturn, 1) := by decide +kernel
theorem dX3_spells_18 : decode cX3_spells 18 = .ok (.iconst 0, 1) := by decide +kernel
theorem dX3_spells_19 : decode cX3_spells 19 = .ok (.istore_n 2, 1) := by decide +kernel
theorem dX3_spells_20 : decode cX3_spells 20 = .ok (.iload_n 2, 1) := by decide +kernel
theorem dX3_spells_21 : decode cX3_spells 21 = .ok (.aload_n 1, 1) := by decide +kernel
theorem dX3_spells_22 : decode cX3_spells 22 = .ok (.invokevirtual 103, 3) := by decide +kernel
theorem dX3_spells_25 : decode cX3_spells 25 = .ok (.if_icmp .ge 30, 3) := by decide +kernel
theorem dX3_spells_28 : decode cX3_spells 28 = .ok (.aload_n 0, 1) := by decide +kernel
theorem dX3_spells_29 : decode cX3_spells 29 = .ok (.getfield 13, 3) := by decide +kernel
theorem dX3_spells_32 : decode cX3_spells 32 = .ok (.aload_n 0, 1) := by decide +kernel
theorem dX3_spells_33 : decode cX3_spells 33 = .ok (.getfield 20, 3) := by decide +kernel
theorem dX3_spells_36 : decode cX3_spells 36 = .ok (.iload_n 2, 1) := by decide +kernel
theorem dX3_spells_37 : decode cX3_spells 37 = .ok (.iadd, 1) := by decide +kernel
theorem dX3_spells_38 : decode cX3_spells 38 = .ok (.iaload, 1) := by decide +kernel
theorem dX3_spells_39 : decode cX3_spells 39 = .ok (.aload_n 1, 1) := by decide +kernel
theorem dX3_spells_40 : decode cX3_spells 40 = .ok (.iload_n 2, 1) := by decide +kernel
theorem dX3_spells_41 : decode cX3_spells 41 = .ok (.invokevirtual 107, 3) := by decide +kernel
theorem dX3_spells_44 : decode cX3_spells 44 = .ok (.if_icmp .eq 5, 3) := by decide +kernel
theorem dX3_spells_47 : decode cX3_spells 47 = .ok (.iconst 0, 1) := by decide +kernel
theorem dX3_spells_48 : decode cX3_spells 48 = .ok (.ireturn, 1) := by decide +kernel
theorem dX3_spells_49 : decode cX3_spells 49 = .ok (.iinc 2 1, 3) := by decide +kernel
theorem dX3_spells_52 : decode cX3_spells 52 = .ok (.goto (-32), 3) := by decide +kernel
theorem dX3_spells_55 : decode cX3_spells 55 = .ok (.iconst 1, 1) := by decide +kernel
theorem dX3_spells_56 : decode cX3_spells 56 = .ok (.ireturn, 1) := by decide +kernel
theorem dX4_init_0 : decode cX4_init 0 = .ok (.aload_n 0, 1) := by decide +kernel
theorem dX4_init_1 : decode cX4_init 1 = .ok (.invokespecial 3, 3) := by decide +kernel
theorem dX4_init_4 : decode cX4_init 4 = .ok (.aload_n 0, 1) := by decide +kernel
theorem dX4_init_5 : decode cX4_init 5 = .ok (.bipush 10, 2) := by decide +kernel
theorem dX4_init_7 : decode cX4_init 7 = .ok (.newarray .long, 2) := by decide +kernel
theorem dX4_init_9 : decode cX4_init 9 = .ok (.putfield 9, 3) := by decide +kernel
theorem dX4_init_12 : decode cX4_init 12 = .ok (.aload_n 0, 1) := by decide +kernel
theorem dX4_init_13 : decode cX4_init 13 = .ok (.bipush 10, 2) := by decide +kernel
theorem dX4_init_15 : decode cX4_init 15 = .ok (.newarray .long, 2) := by decide +kernel
theorem dX4_init_17 : decode cX4_init 17 = .ok (.putfield 15, 3) := by decide +kernel
theorem dX4_init_20 : decode cX4_init 20 = .ok (.return_, 1) := by decide +kernel
theorem dX4_begin_0 : decode cX4_begin 0 = .ok (.iconst 0, 1) := by decide +kernel
theorem dX4_begin_1 : decode cX4_begin 1 = .ok (.istore_n 1, 1) := by decide +kernel
theorem dX4_begin_2 : decode cX4_begin 2 = .ok (.iload_n 1, 1) := by decide +kernel
theorem dX4_begin_3 : decode cX4_begin 3 = .ok (.bipush 10, 2) := by decide +kernel
theorem dX4_begin_5 : decode cX4_begin 5 = .ok (.if_icmp .ge 16, 3) := by decide +kernel
theorem dX4_begin_8 : decode cX4_begin 8 = .ok (.aload_n 0, 1) := by decide +kernel
theorem dX4_begin_9 : decode cX4_begin 9 = .ok (.getfield 9, 3) := by decide +kernel
theorem dX4_begin_12 : decode cX4_begin 12 = .ok (.iload_n 1, 1) := by decide +kernel
theorem dX4_begin_13 : decode cX4_begin 13 = .ok (.lconst 0, 1) := by decide +kernel
theorem dX4_begin_14 : decode cX4_begin 14 = .ok (.lastore, 1) := by decide +kernel
theorem dX4_begin_15 : decode cX4_begin 15 = .ok (.iinc 1 1, 3) := by decide +kernel
theorem dX4_begin_18 : decode cX4_begin 18 = .ok (.goto (-16), 3) := by decide +kernel
theorem dX4_begin_21 : decode cX4_begin 21 = .ok (.return_, 1) := by decide +kernel
theorem dX4_pledge_0 : decode cX4_pledge 0 = .ok (.aload_n 0, 1) := by decide +kernel
theorem dX4_pledge_1 : decode cX4_pledge 1 = .ok (.getfield 9, 3) := by decide +kernel
theorem dX4_pledge_4 : decode cX4_pledge 4 = .ok (.iload_n 1, 1) := by decide +kernel
theorem dX4_pledge_5 : decode cX4_pledge 5 = .ok (.dup2, 1) := by decide +kernel
theorem dX4_pledge_6 : decode cX4_pledge 6 = .ok (.laload, 1) := by decide +kernel
theorem dX4_pledge_7 : decode cX4_pledge 7 = .ok (.iload_n 2, 1) := by decide +kernel
theorem dX4_pledge_8 : decode cX4_pledge 8 = .ok (.i2l, 1) := by decide +kernel
theorem dX4_pledge_9 : decode cX4_pledge 9 = .ok (.ladd, 1) := by decide +kernel
theorem dX4_pledge_10 : decode cX4_pledge 10 = .ok (.lastore, 1) := by decide +kernel
theorem dX4_pledge_11 : decode cX4_pledge 11 = .ok (.return_, 1) := by decide +kernel
theorem dX4_claim_0 : decode cX4_claim 0 = .ok (.aload_n 0, 1) := by decide +kernel
theorem dX4_claim_1 : decode cX4_claim 1 = .ok (.getfield 9, 3) := by decide +kernel
theorem dX4_claim_4 : decode cX4_claim 4 = .ok (.iload_n 1, 1) := by decide +kernel
theorem dX4_claim_5 : decode cX4_claim 5 = .ok (.aload_n 0, 1) := by decide +kernel
theorem dX4_claim_6 : decode cX4_claim 6 = .ok (.getfield 9, 3) := by decide +kernel

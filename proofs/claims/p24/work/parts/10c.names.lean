set_option maxRecDepth 20000 in
theorem ggX0_init_X2_init : GoodIn wsX0_init wsX2_init := goodIn_r _ [15, 16, 2, 3] (by decide +kernel) (by decide +kernel)
set_option maxRecDepth 20000 in
theorem gX0_init_X2_init_n11 : GoodIn wsX0_init (wsX2_init) := ggX0_init_X2_init
theorem dX0_init_0 : decode cX0_init 0 = .ok (.aload_n 0, 1) := by decide +kernel
theorem dX0_init_1 : decode cX0_init 1 = .ok (.invokespecial 3, 3) := by decide +kernel
theorem dX0_init_4 : decode cX0_init 4 = .ok (.aload_n 0, 1) := by decide +kernel
theorem dX0_init_5 : decode cX0_init 5 = .ok (.new 9, 3) := by decide +kernel
theorem dX0_init_8 : decode cX0_init 8 = .ok (.dup, 1) := by decide +kernel
theorem dX0_init_9 : decode cX0_init 9 = .ok (.invokespecial 11, 3) := by decide +kernel
theorem dX0_init_12 : decode cX0_init 12 = .ok (.putfield 12, 3) := by decide +kernel
theorem dX0_init_15 : decode cX0_init 15 = .ok (.aload_n 0, 1) := by decide +kernel
theorem dX0_init_16 : decode cX0_init 16 = .ok (.new 9, 3) := by decide +kernel
theorem dX0_init_19 : decode cX0_init 19 = .ok (.dup, 1) := by decide +kernel
theorem dX0_init_20 : decode cX0_init 20 = .ok (.invokespecial 11, 3) := by decide +kernel
theorem dX0_init_23 : decode cX0_init 23 = .ok (.putfield 18, 3) := by decide +kernel
theorem dX0_init_26 : decode cX0_init 26 = .ok (.aload_n 0, 1) := by decide +kernel
theorem dX0_init_27 : decode cX0_init 27 = .ok (.iconst 0, 1) := by decide +kernel
theorem dX0_init_28 : decode cX0_init 28 = .ok (.putfield 21, 3) := by decide +kernel
theorem dX0_init_31 : decode cX0_init 31 = .ok (.aload_n 0, 1) := by decide +kernel
theorem dX0_init_32 : decode cX0_init 32 = .ok (.iconst (-1), 1) := by decide +kernel
theorem dX0_init_33 : decode cX0_init 33 = .ok (.putfield 25, 3) := by decide +kernel
theorem dX0_init_36 : decode cX0_init 36 = .ok (.aload_n 0, 1) := by decide +kernel
theorem dX0_init_37 : decode cX0_init 37 = .ok (.iload_n 1, 1) := by decide +kernel
theorem dX0_init_38 : decode cX0_init 38 = .ok (.putfield 28, 3) := by decide +kernel
theorem dX0_init_41 : decode cX0_init 41 = .ok (.aload_n 0, 1) := by decide +kernel
theorem dX0_init_42 : decode cX0_init 42 = .ok (.iload_n 2, 1) := by decide +kernel
theorem dX0_init_43 : decode cX0_init 43 = .ok (.putfield 31, 3) := by decide +kernel
theorem dX0_init_46 : decode cX0_init 46 = .ok (.aload_n 0, 1) := by decide +kernel
theorem dX0_init_47 : decode cX0_init 47 = .ok (.getfield 12, 3) := by decide +kernel
theorem dX0_init_50 : decode cX0_init 50 = .ok (.aload_n 3, 1) := by decide +kernel
theorem dX0_init_51 : decode cX0_init 51 = .ok (.putfield 34, 3) := by decide +kernel
theorem dX0_init_54 : decode cX0_init 54 = .ok (.aload_n 0, 1) := by decide +kernel
theorem dX0_init_55 : decode cX0_init 55 = .ok (.getfield 18, 3) := by decide +kernel
theorem dX0_init_58 : decode cX0_init 58 = .ok (.aload 4, 2) := by decide +kernel
theorem dX0_init_60 : decode cX0_init 60 = .ok (.putfield 34, 3) := by decide +kernel
theorem dX0_init_63 : decode cX0_init 63 = .ok (.return_, 1) := by decide +kernel
theorem dX0_isOfTable_0 : decode cX0_isOfTable 0 = .ok (.aload_n 0, 1) := by decide +kernel
theorem dX0_isOfTable_1 : decode cX0_isOfTable 1 = .ok (.getfield 31, 3) := by decide +kernel
theorem dX0_isOfTable_4 : decode cX0_isOfTable 4 = .ok (.iconst (-1), 1) := by decide +kernel
theorem dX0_isOfTable_5 : decode cX0_isOfTable 5 = .ok (.if_icmp .eq 7, 3) := by decide +kernel
theorem dX0_isOfTable_8 : decode cX0_isOfTable 8 = .ok (.iconst 1, 1) := by decide +kernel
theorem dX0_isOfTable_9 : decode cX0_isOfTable 9 = .ok (.goto 4, 3) := by decide +kernel
theorem dX0_isOfTable_12 : decode cX0_isOfTable 12 = .ok (.iconst 0, 1) := by decide +kernel
theorem dX0_isOfTable_13 : decode cX0_isOfTable 13 = .ok (.ireturn, 1) := by decide +kernel
set_option maxRecDepth 20000 in
theorem ggX0_goal_X0_isOfTable : GoodIn wsX0_goal wsX0_isOfTable := goodIn_r _ [5, 6, 7, 8, 9, 10, 11, 12, 13, 14, 15] (by decide +kernel) (by decide +kernel)
set_option maxRecDepth 20000 in
theorem gX0_goal_X0_isOfTable : GoodIn wsX0_goal (wsV RX0 38 RX0 yX0_isOfTable wsX0_isOfTable) := goodIn_app (goodIn_of _ (by decide +kernel)) ggX0_goal_X0_isOfTable
theorem dX0_goal_0 : decode cX0_goal 0 = .ok (.aload_n 0, 1) := by decide +kernel
theorem dX0_goal_1 : decode cX0_goal 1 = .ok (.invokevirtual 38, 3) := by decide +kernel
theorem dX0_goal_4 : decode cX0_goal 4 = .ok (.ifCond .eq 8, 3) := by decide +kernel
theorem dX0_goal_7 : decode cX0_goal 7 = .ok (.bipush 15, 2) := by decide +kernel
theorem dX0_goal_9 : decode cX0_goal 9 = .ok (.goto 4, 3) := by decide +kernel
theorem dX0_goal_12 : decode cX0_goal 12 = .ok (.iconst 5, 1) := by decide +kernel
theorem dX0_goal_13 : decode cX0_goal 13 = .ok (.ireturn, 1) := by decide +kernel
set_option maxRecDepth 20000 in
theorem ggX0_periods_X0_isOfTable : GoodIn wsX0_periods wsX0_isOfTable := goodIn_r _ [5, 6, 7, 8, 9, 10, 11, 12, 13, 14, 15] (by decide +kernel) (by decide +kernel)
set_option maxRecDepth 20000 in
theorem gX0_periods_X0_isOfTable : GoodIn wsX0_periods (wsV RX0 38 RX0 yX0_isOfTable wsX0_isOfTable) := goodIn_app (goodIn_of _ (by decide +kernel)) ggX0_periods_X0_isOfTable
theorem dX0_periods_0 : decode cX0_periods 0 = .ok (.aload_n 0, 1) := by decide +kernel
theorem dX0_periods_1 : decode cX0_periods 1 = .ok (.invokevirtual 38, 3) := by decide +kernel
theorem dX0_periods_4 : decode cX0_periods 4 = .ok (.ifCond .eq 7, 3) := by decide +kernel
theorem dX0_periods_7 : decode cX0_periods 7 = .ok (.iconst 3, 1) := by decide +kernel
theorem dX0_periods_8 : decode cX0_periods 8 = .ok (.goto 4, 3) := by decide +kernel
theorem dX0_periods_11 : decode cX0_periods 11 = .ok (.iconst 1, 1) := by decide +kernel
theorem dX0_periods_12 : decode cX0_periods 12 = .ok (.ireturn, 1) := by decide +kernel
theorem dX0_sideOf_0 : decode cX0_sideOf 0 = .ok (.iload_n 1, 1) := by decide +kernel
theorem dX0_sideOf_1 : decode cX0_sideOf 1 = .ok (.ifCond .ne 10, 3) := by decide +kernel
theorem dX0_sideOf_4 : decode cX0_sideOf 4 = .ok (.aload_n 0, 1) := by decide +kernel
theorem dX0_sideOf_5 : decode cX0_sideOf 5 = .ok (.getfield 12, 3) := by decide +kernel
theorem dX0_sideOf_8 : decode cX0_sideOf 8 = .ok (.goto 7, 3) := by decide +kernel
theorem dX0_sideOf_11 : decode cX0_sideOf 11 = .ok (.aload_n 0, 1) := by decide +kernel
theorem dX0_sideOf_12 : decode cX0_sideOf 12 = .ok (.getfield 18, 3) := by decide +kernel
theorem dX0_sideOf_15 : decode cX0_sideOf 15 = .ok (.areturn, 1) := by decide +kernel
theorem dX0_isKnown_0 : decode cX0_isKnown 0 = .ok (.aload_n 0, 1) := by decide +kernel
theorem dX0_isKnown_1 : decode cX0_isKnown 1 = .ok (.getfield 12, 3) := by decide +kernel
theorem dX0_isKnown_4 : decode cX0_isKnown 4 = .ok (.getfield 34, 3) := by decide +kernel
theorem dX0_isKnown_7 : decode cX0_isKnown 7 = .ok (.ifnull 17, 3) := by decide +kernel
theorem dX0_isKnown_10 : decode cX0_isKnown 10 = .ok (.aload_n 0, 1) := by decide +kernel
theorem dX0_isKnown_11 : decode cX0_isKnown 11 = .ok (.getfield 18, 3) := by decide +kernel
theorem dX0_isKnown_14 : decode cX0_isKnown 14 = .ok (.getfield 34, 3) := by decide +kernel
theorem dX0_isKnown_17 : decode cX0_isKnown 17 = .ok (.ifnull 7, 3) := by decide +kernel
theorem dX0_isKnown_20 : decode cX0_isKnown 20 = .ok (.iconst 1, 1) := by decide +kernel
theorem dX0_isKnown_21 : decode cX0_isKnown 21 = .ok (.goto 4, 3) := by decide +kernel
theorem dX0_isKnown_24 : decode cX0_isKnown 24 = .ok (.iconst 0, 1) := by decide +kernel
theorem dX0_isKnown_25 : decode cX0_isKnown 25 = .ok (.ireturn, 1) := by decide +kernel
set_option maxRecDepth 20000 in
theorem ggX0_isInExtra_X0_periods : GoodIn wsX0_isInExtra wsX0_periods := goodIn_r _ [6, 7, 8, 9, 5, 10, 11, 12, 13, 14, 15, 16, 17, 18, 19, 20] (by decide +kernel) (by decide +kernel)
set_option maxRecDepth 20000 in
theorem gX0_isInExtra_X0_periods : GoodIn wsX0_isInExtra (wsV RX0 45 RX0 yX0_periods wsX0_periods) := goodIn_app (goodIn_of _ (by decide +kernel)) ggX0_isInExtra_X0_periods
theorem dX0_isInExtra_0 : decode cX0_isInExtra 0 = .ok (.aload_n 0, 1) := by decide +kernel
theorem dX0_isInExtra_1 : decode cX0_isInExtra 1 = .ok (.getfield 42, 3) := by decide +kernel
theorem dX0_isInExtra_4 : decode cX0_isInExtra 4 = .ok (.aload_n 0, 1) := by decide +kernel
theorem dX0_isInExtra_5 : decode cX0_isInExtra 5 = .ok (.invokevirtual 45, 3) := by decide +kernel
theorem dX0_isInExtra_8 : decode cX0_isInExtra 8 = .ok (.if_icmp .le 7, 3) := by decide +kernel
theorem dX0_isInExtra_11 : decode cX0_isInExtra 11 = .ok (.iconst 1, 1) := by decide +kernel
theorem dX0_isInExtra_12 : decode cX0_isInExtra 12 = .ok (.goto 4, 3) := by decide +kernel
theorem dX0_isInExtra_15 : decode cX0_isInExtra 15 = .ok (.iconst 0, 1) := by decide +kernel
theorem dX0_isInExtra_16 : decode cX0_isInExtra 16 = .ok (.ireturn, 1) := by decide +kernel
set_option maxRecDepth 20000 in
theorem ggX0_restedAt_X2_restedAt : GoodIn wsX0_restedAt wsX2_restedAt := goodIn_r _ [11, 12, 13, 23, 24, 25, 26, 27, 28, 29, 30, 31, 32, 33, 34, 35, 36, 37, 38, 39] (by decide +kernel) (by decide +kernel)
set_option maxRecDepth 20000 in
theorem gX0_restedAt_X2_restedAt : GoodIn wsX0_restedAt (wsV RX0 49 RX2 yX2_restedAt wsX2_restedAt) := goodIn_app (goodIn_of _ (by decide +kernel)) ggX0_restedAt_X2_restedAt
theorem dX0_restedAt_0 : decode cX0_restedAt 0 = .ok (.aload_n 0, 1) := by decide +kernel
theorem dX0_restedAt_1 : decode cX0_restedAt 1 = .ok (.getfield 12, 3) := by decide +kernel
theorem dX0_restedAt_4 : decode cX0_restedAt 4 = .ok (.invokevirtual 49, 3) := by decide +kernel
theorem dX0_restedAt_7 : decode cX0_restedAt 7 = .ok (.aload_n 0, 1) := by decide +kernel
theorem dX0_restedAt_8 : decode cX0_restedAt 8 = .ok (.getfield 18, 3) := by decide +kernel
theorem dX0_restedAt_11 : decode cX0_restedAt 11 = .ok (.invokevirtual 49, 3) := by decide +kernel
theorem dX0_restedAt_14 : decode cX0_restedAt 14 = .ok (.invokestatic 52, 3) := by decide +kernel
theorem dX0_restedAt_17 : decode cX0_restedAt 17 = .ok (.ireturn, 1) := by decide +kernel
theorem dX0_withPriority_0 : decode cX0_withPriority 0 = .ok (.aload_n 0, 1) := by decide +kernel
theorem dX0_withPriority_1 : decode cX0_withPriority 1 = .ok (.getfield 28, 3) := by decide +kernel
theorem dX0_withPriority_4 : decode cX0_withPriority 4 = .ok (.aload_n 0, 1) := by decide +kernel
theorem dX0_withPriority_5 : decode cX0_withPriority 5 = .ok (.getfield 12, 3) := by decide +kernel
theorem dX0_withPriority_8 : decode cX0_withPriority 8 = .ok (.getfield 58, 3) := by decide +kernel
theorem dX0_withPriority_11 : decode cX0_withPriority 11 = .ok (.iadd, 1) := by decide +kernel
theorem dX0_withPriority_12 : decode cX0_withPriority 12 = .ok (.iconst 2, 1) := by decide +kernel
theorem dX0_withPriority_13 : decode cX0_withPriority 13 = .ok (.irem, 1) := by decide +kernel
theorem dX0_withPriority_14 : decode cX0_withPriority 14 = .ok (.ifCond .ne 10, 3) := by decide +kernel
theorem dX0_withPriority_17 : decode cX0_withPriority 17 = .ok (.aload_n 0, 1) := by decide +kernel
theorem dX0_withPriority_18 : decode cX0_withPriority 18 = .ok (.getfield 12, 3) := by decide +kernel
theorem dX0_withPriority_21 : decode cX0_withPriority 21 = .ok (.goto 7, 3) := by decide +kernel
theorem dX0_withPriority_24 : decode cX0_withPriority 24 = .ok (.aload_n 0, 1) := by decide +kernel
theorem dX0_withPriority_25 : decode cX0_withPriority 25 = .ok (.getfield 18, 3) := by decide +kernel
theorem dX0_withPriority_28 : decode cX0_withPriority 28 = .ok (.areturn, 1) := by decide +kernel
set_option maxRecDepth 20000 in
theorem ggX0_winnerAsItStands_X0_withPriority : GoodIn wsX0_winnerAsItStands wsX0_withPriority := goodIn_r _ [9, 10, 1, 2, 3, 11, 12, 13, 14, 15, 16, 17, 18, 19, 20, 21, 22] (by decide +kernel) (by decide +kernel)
set_option maxRecDepth 20000 in
theorem gX0_winnerAsItStands_X0_withPriority : GoodIn wsX0_winnerAsItStands (wsV RX0 61 RX0 yX0_withPriority wsX0_withPriority) := goodIn_app (goodIn_of _ (by decide +kernel)) ggX0_winnerAsItStands_X0_withPriority
theorem dX0_winnerAsItStands_0 : decode cX0_winnerAsItStands 0 = .ok (.aload_n 0, 1) := by decide +kernel
theorem dX0_winnerAsItStands_1 : decode cX0_winnerAsItStands 1 = .ok (.getfield 12, 3) := by decide +kernel
theorem dX0_winnerAsItStands_4 : decode cX0_winnerAsItStands 4 = .ok (.getfield 58, 3) := by decide +kernel
theorem dX0_winnerAsItStands_7 : decode cX0_winnerAsItStands 7 = .ok (.aload_n 0, 1) := by decide +kernel
theorem dX0_winnerAsItStands_8 : decode cX0_winnerAsItStands 8 = .ok (.getfield 18, 3) := by decide +kernel
theorem dX0_winnerAsItStands_11 : decode cX0_winnerAsItStands 11 = .ok (.getfield 58, 3) := by decide +kernel
theorem dX0_winnerAsItStands_14 : decode cX0_winnerAsItStands 14 = .ok (.if_icmp .ne 11, 3) := by decide +kernel
theorem dX0_winnerAsItStands_17 : decode cX0_winnerAsItStands 17 = .ok (.aload_n 0, 1) := by decide +kernel
theorem dX0_winnerAsItStands_18 : decode cX0_winnerAsItStands 18 = .ok (.invokevirtual 61, 3) := by decide +kernel
theorem dX0_winnerAsItStands_21 : decode cX0_winnerAsItStands 21 = .ok (.getfield 34, 3) := by decide +kernel
theorem dX0_winnerAsItStands_24 : decode cX0_winnerAsItStands 24 = .ok (.areturn, 1) := by decide +kernel
theorem dX0_winnerAsItStands_25 : decode cX0_winnerAsItStands 25 = .ok (.aload_n 0, 1) := by decide +kernel
theorem dX0_winnerAsItStands_26 : decode cX0_winnerAsItStands 26 = .ok (.getfield 12, 3) := by decide +kernel
theorem dX0_winnerAsItStands_29 : decode cX0_winnerAsItStands 29 = .ok (.getfield 58, 3) := by decide +kernel
theorem dX0_winnerAsItStands_32 : decode cX0_winnerAsItStands 32 = .ok (.aload_n 0, 1) := by decide +kernel
theorem dX0_winnerAsItStands_33 : decode cX0_winnerAsItStands 33 = .ok (.getfield 18, 3) := by decide +kernel
theorem dX0_winnerAsItStands_36 : decode cX0_winnerAsItStands 36 = .ok (.getfield 58, 3) := by decide +kernel
theorem dX0_winnerAsItStands_39 : decode cX0_winnerAsItStands 39 = .ok (.if_icmp .le 13, 3) := by decide +kernel
theorem dX0_winnerAsItStands_42 : decode cX0_winnerAsItStands 42 = .ok (.aload_n 0, 1) := by decide +kernel
theorem dX0_winnerAsItStands_43 : decode cX0_winnerAsItStands 43 = .ok (.getfield 12, 3) := by decide +kernel
theorem dX0_winnerAsItStands_46 : decode cX0_winnerAsItStands 46 = .ok (.getfield 34, 3) := by decide +kernel
theorem dX0_winnerAsItStands_49 : decode cX0_winnerAsItStands 49 = .ok (.goto 10, 3) := by decide +kernel
theorem dX0_winnerAsItStands_52 : decode cX0_winnerAsItStands 52 = .ok (.aload_n 0, 1) := by decide +kernel
theorem dX0_winnerAsItStands_53 : decode cX0_winnerAsItStands 53 = .ok (.getfield 18, 3) := by decide +kernel
theorem dX0_winnerAsItStands_56 : decode cX0_winnerAsItStands 56 = .ok (.getfield 34, 3) := by decide +kernel
theorem dX0_winnerAsItStands_59 : decode cX0_winnerAsItStands 59 = .ok (.areturn, 1) := by decide +kernel
set_option maxRecDepth 20000 in
theorem ggX0_countsForBoth_X0_isInExtra : GoodIn wsX0_countsForBoth wsX0_isInExtra := goodIn_r _ [8, 9, 10, 11, 12, 7, 13, 14, 15, 16, 17, 18, 23, 24, 25, 26, 27, 28, 29, 30, 31] (by decide +kernel) (by decide +kernel)
set_option maxRecDepth 20000 in
theorem gX0_countsForBoth_X0_isInExtra : GoodIn wsX0_countsForBoth (wsV RX0 65 RX0 yX0_isInExtra wsX0_isInExtra) := goodIn_app (goodIn_of _ (by decide +kernel)) ggX0_countsForBoth_X0_isInExtra
set_option maxRecDepth 20000 in
theorem ggX0_countsForBoth_X0_goal : GoodIn wsX0_countsForBoth wsX0_goal := goodIn_r _ [22, 14, 15, 16, 7, 17, 18, 23, 24, 25, 26, 27, 28, 29, 30, 31] (by decide +kernel) (by decide +kernel)
set_option maxRecDepth 20000 in
theorem gX0_countsForBoth_X0_goal : GoodIn wsX0_countsForBoth (wsV RX0 68 RX0 yX0_goal wsX0_goal) := goodIn_app (goodIn_of _ (by decide +kernel)) ggX0_countsForBoth_X0_goal
theorem dX0_countsForBoth_0 : decode cX0_countsForBoth 0 = .ok (.aload_n 0, 1) := by decide +kernel
theorem dX0_countsForBoth_1 : decode cX0_countsForBoth 1 = .ok (.invokevirtual 65, 3) := by decide +kernel
theorem dX0_countsForBoth_4 : decode cX0_countsForBoth 4 = .ok (.ifCond .ne 39, 3) := by decide +kernel
theorem dX0_countsForBoth_7 : decode cX0_countsForBoth 7 = .ok (.aload_n 0, 1) := by decide +kernel
theorem dX0_countsForBoth_8 : decode cX0_countsForBoth 8 = .ok (.getfield 12, 3) := by decide +kernel
theorem dX0_countsForBoth_11 : decode cX0_countsForBoth 11 = .ok (.getfield 58, 3) := by decide +kernel
theorem dX0_countsForBoth_14 : decode cX0_countsForBoth 14 = .ok (.iconst 1, 1) := by decide +kernel
theorem dX0_countsForBoth_15 : decode cX0_countsForBoth 15 = .ok (.iadd, 1) := by decide +kernel
theorem dX0_countsForBoth_16 : decode cX0_countsForBoth 16 = .ok (.aload_n 0, 1) := by decide +kernel
theorem dX0_countsForBoth_17 : decode cX0_countsForBoth 17 = .ok (.invokevirtual 68, 3) := by decide +kernel
theorem dX0_countsForBoth_20 : decode cX0_countsForBoth 20 = .ok (.if_icmp .lt 19, 3) := by decide +kernel
theorem dX0_countsForBoth_23 : decode cX0_countsForBoth 23 = .ok (.aload_n 0, 1) := by decide +kernel
theorem dX0_countsForBoth_24 : decode cX0_countsForBoth 24 = .ok (.getfield 18, 3) := by decide +kernel
theorem dX0_countsForBoth_27 : decode cX0_countsForBoth 27 = .ok (.getfield 58, 3) := by decide +kernel
theorem dX0_countsForBoth_30 : decode cX0_countsForBoth 30 = .ok (.iconst 1, 1) := by decide +kernel
theorem dX0_countsForBoth_31 : decode cX0_countsForBoth 31 = .ok (.iadd, 1) := by decide +kernel
theorem dX0_countsForBoth_32 : decode cX0_countsForBoth 32 = .ok (.aload_n 0, 1) := by decide +kernel
theorem dX0_countsForBoth_33 : decode cX0_countsForBoth 33 = .ok (.invokevirtual 68, 3) := by decide +kernel
theorem dX0_countsForBoth_36 : decode cX0_countsForBoth 36 = .ok (.if_icmp .ge 7, 3) := by decide +kernel
theorem dX0_countsForBoth_39 : decode cX0_countsForBoth 39 = .ok (.iconst 1, 1) := by decide +kernel
theorem dX0_countsForBoth_40 : decode cX0_countsForBoth 40 = .ok (.goto 4, 3) := by decide +kernel
theorem dX0_countsForBoth_43 : decode cX0_countsForBoth 43 = .ok (.iconst 0, 1) := by decide +kernel
theorem dX0_countsForBoth_44 : decode cX0_countsForBoth 44 = .ok (.ireturn, 1) := by decide +kernel
set_option maxRecDepth 20000 in
theorem ggX0_isDecidedByHit_X0_isInExtra : GoodIn wsX0_isDecidedByHit wsX0_isInExtra := goodIn_r _ [8, 9, 10, 11, 12, 7, 13, 14, 15, 16, 17, 18, 23, 24, 25, 26, 27, 28, 29, 30, 31] (by decide +kernel) (by decide +kernel)
set_option maxRecDepth 20000 in
theorem gX0_isDecidedByHit_X0_isInExtra : GoodIn wsX0_isDecidedByHit (wsV RX0 65 RX0 yX0_isInExtra wsX0_isInExtra) := goodIn_app (goodIn_of _ (by decide +kernel)) ggX0_isDecidedByHit_X0_isInExtra
set_option maxRecDepth 20000 in
theorem ggX0_isDecidedByHit_X0_goal : GoodIn wsX0_isDecidedByHit wsX0_goal := goodIn_r _ [22, 14, 15, 16, 7, 17, 18, 23, 24, 25, 26, 27, 28, 29, 30, 31] (by decide +kernel) (by decide +kernel)
set_option maxRecDepth 20000 in
theorem gX0_isDecidedByHit_X0_goal : GoodIn wsX0_isDecidedByHit (wsV RX0 68 RX0 yX0_goal wsX0_goal) := goodIn_app (goodIn_of _ (by decide +kernel)) ggX0_isDecidedByHit_X0_goal
theorem dX0_isDecidedByHit_0 : decode cX0_isDecidedByHit 0 = .ok (.aload_n 0, 1) := by decide +kernel
theorem dX0_isDecidedByHit_1 : decode cX0_isDecidedByHit 1 = .ok (.invokevirtual 65, 3) := by decide +kernel
theorem dX0_isDecidedByHit_4 : decode cX0_isDecidedByHit 4 = .ok (.ifCond .ne 31, 3) := by decide +kernel
theorem dX0_isDecidedByHit_7 : decode cX0_isDecidedByHit 7 = .ok (.aload_n 0, 1) := by decide +kernel
theorem dX0_isDecidedByHit_8 : decode cX0_isDecidedByHit 8 = .ok (.getfield 12, 3) := by decide +kernel
theorem dX0_isDecidedByHit_11 : decode cX0_isDecidedByHit 11 = .ok (.getfield 58, 3) := by decide +kernel
theorem dX0_isDecidedByHit_14 : decode cX0_isDecidedByHit 14 = .ok (.aload_n 0, 1) := by decide +kernel
theorem dX0_isDecidedByHit_15 : decode cX0_isDecidedByHit 15 = .ok (.invokevirtual 68, 3) := by decide +kernel
theorem dX0_isDecidedByHit_18 : decode cX0_isDecidedByHit 18 = .ok (.if_icmp .ge 17, 3) := by decide +kernel
theorem dX0_isDecidedByHit_21 : decode cX0_isDecidedByHit 21 = .ok (.aload_n 0, 1) := by decide +kernel
theorem dX0_isDecidedByHit_22 : decode cX0_isDecidedByHit 22 = .ok (.getfield 18, 3) := by decide +kernel
theorem dX0_isDecidedByHit_25 : decode cX0_isDecidedByHit 25 = .ok (.getfield 58, 3) := by decide +kernel
theorem dX0_isDecidedByHit_28 : decode cX0_isDecidedByHit 28 = .ok (.aload_n 0, 1) := by decide +kernel
theorem dX0_isDecidedByHit_29 : decode cX0_isDecidedByHit 29 = .ok (.invokevirtual 68, 3) := by decide +kernel
theorem dX0_isDecidedByHit_32 : decode cX0_isDecidedByHit 32 = .ok (.if_icmp .lt 7, 3) := by decide +kernel
theorem dX0_isDecidedByHit_35 : decode cX0_isDecidedByHit 35 = .ok (.iconst 1, 1) := by decide +kernel
theorem dX0_isDecidedByHit_36 : decode cX0_isDecidedByHit 36 = .ok (.goto 4, 3) := by decide +kernel
theorem dX0_isDecidedByHit_39 : decode cX0_isDecidedByHit 39 = .ok (.iconst 0, 1) := by decide +kernel
theorem dX0_isDecidedByHit_40 : decode cX0_isDecidedByHit 40 = .ok (.ireturn, 1) := by decide +kernel
set_option maxRecDepth 20000 in
theorem ggX0_secondsUntilOver_X0_isInExtra : GoodIn wsX0_secondsUntilOver wsX0_isInExtra := goodIn_r _ [10, 2, 11, 12, 13, 9, 14, 15, 16, 17, 18, 19, 20, 21, 22, 23, 24, 25, 26, 27, 28] (by decide +kernel) (by decide +kernel)
set_option maxRecDepth 20000 in
theorem gX0_secondsUntilOver_X0_isInExtra : GoodIn wsX0_secondsUntilOver (wsV RX0 65 RX0 yX0_isInExtra wsX0_isInExtra) := goodIn_app (goodIn_of _ (by decide +kernel)) ggX0_secondsUntilOver_X0_isInExtra
set_option maxRecDepth 20000 in
theorem ggX0_secondsUntilOver_X0_periods : GoodIn wsX0_secondsUntilOver wsX0_periods := goodIn_r _ [14, 15, 16, 17, 9, 18, 19, 20, 21, 22, 23, 24, 25, 26, 27, 28] (by decide +kernel) (by decide +kernel)
set_option maxRecDepth 20000 in
theorem gX0_secondsUntilOver_X0_periods : GoodIn wsX0_secondsUntilOver (wsV RX0 45 RX0 yX0_periods wsX0_periods) := goodIn_app (goodIn_of _ (by decide +kernel)) ggX0_secondsUntilOver_X0_periods
theorem dX0_secondsUntilOver_0 : decode cX0_secondsUntilOver 0 = .ok (.aload_n 0, 1) := by decide +kernel
theorem dX0_secondsUntilOver_1 : decode cX0_secondsUntilOver 1 = .ok (.invokevirtual 65, 3) := by decide +kernel
theorem dX0_secondsUntilOver_4 : decode cX0_secondsUntilOver 4 = .ok (.ifCond .eq 8, 3) := by decide +kernel
theorem dX0_secondsUntilOver_7 : decode cX0_secondsUntilOver 7 = .ok (.aload_n 0, 1) := by decide +kernel
theorem dX0_secondsUntilOver_8 : decode cX0_secondsUntilOver 8 = .ok (.getfield 71, 3) := by decide +kernel
theorem dX0_secondsUntilOver_11 : decode cX0_secondsUntilOver 11 = .ok (.ireturn, 1) := by decide +kernel
theorem dX0_secondsUntilOver_12 : decode cX0_secondsUntilOver 12 = .ok (.aload_n 0, 1) := by decide +kernel
theorem dX0_secondsUntilOver_13 : decode cX0_secondsUntilOver 13 = .ok (.getfield 71, 3) := by decide +kernel
theorem dX0_secondsUntilOver_16 : decode cX0_secondsUntilOver 16 = .ok (.aload_n 0, 1) := by decide +kernel
theorem dX0_secondsUntilOver_17 : decode cX0_secondsUntilOver 17 = .ok (.invokevirtual 45, 3) := by decide +kernel
theorem dX0_secondsUntilOver_20 : decode cX0_secondsUntilOver 20 = .ok (.aload_n 0, 1) := by decide +kernel
theorem dX0_secondsUntilOver_21 : decode cX0_secondsUntilOver 21 = .ok (.getfield 42, 3) := by decide +kernel
theorem dX0_secondsUntilOver_24 : decode cX0_secondsUntilOver 24 = .ok (.isub, 1) := by decide +kernel
theorem dX0_secondsUntilOver_25 : decode cX0_secondsUntilOver 25 = .ok (.sipush 180, 3) := by decide +kernel
theorem dX0_secondsUntilOver_28 : decode cX0_secondsUntilOver 28 = .ok (.imul, 1) := by decide +kernel
theorem dX0_secondsUntilOver_29 : decode cX0_secondsUntilOver 29 = .ok (.iadd, 1) := by decide +kernel
theorem dX0_secondsUntilOver_30 : decode cX0_secondsUntilOver 30 = .ok (.istore_n 1, 1) := by decide +kernel
theorem dX0_secondsUntilOver_31 : decode cX0_secondsUntilOver 31 = .ok (.aload_n 0, 1) := by decide +kernel
theorem dX0_secondsUntilOver_32 : decode cX0_secondsUntilOver 32 = .ok (.getfield 12, 3) := by decide +kernel
theorem dX0_secondsUntilOver_35 : decode cX0_secondsUntilOver 35 = .ok (.getfield 58, 3) := by decide +kernel
theorem dX0_secondsUntilOver_38 : decode cX0_secondsUntilOver 38 = .ok (.aload_n 0, 1) := by decide +kernel
theorem dX0_secondsUntilOver_39 : decode cX0_secondsUntilOver 39 = .ok (.getfield 18, 3) := by decide +kernel
theorem dX0_secondsUntilOver_42 : decode cX0_secondsUntilOver 42 = .ok (.getfield 58, 3) := by decide +kernel
theorem dX0_secondsUntilOver_45 : decode cX0_secondsUntilOver 45 = .ok (.if_icmp .ne 10, 3) := by decide +kernel
theorem dX0_secondsUntilOver_48 : decode cX0_secondsUntilOver 48 = .ok (.iload_n 1, 1) := by decide +kernel
theorem dX0_secondsUntilOver_49 : decode cX0_secondsUntilOver 49 = .ok (.bipush 60, 2) := by decide +kernel
theorem dX0_secondsUntilOver_51 : decode cX0_secondsUntilOver 51 = .ok (.iadd, 1) := by decide +kernel
theorem dX0_secondsUntilOver_52 : decode cX0_secondsUntilOver 52 = .ok (.goto 4, 3) := by decide +kernel
theorem dX0_secondsUntilOver_55 : decode cX0_secondsUntilOver 55 = .ok (.iload_n 1, 1) := by decide +kernel
theorem dX0_secondsUntilOver_56 : decode cX0_secondsUntilOver 56 = .ok (.ireturn, 1) := by decide +kernel
set_option maxRecDepth 20000 in
theorem ggX0_begin_X2_begin : GoodIn wsX0_begin wsX2_begin := goodIn_r _ [11, 12, 13, 23, 24, 25, 26, 27, 28, 29, 30, 31, 32, 33, 34, 35, 36, 37, 38, 39] (by decide +kernel) (by decide +kernel)
set_option maxRecDepth 20000 in
theorem gX0_begin_X2_begin : GoodIn wsX0_begin (wsV RX0 74 RX2 yX2_begin wsX2_begin) := goodIn_app (goodIn_of _ (by decide +kernel)) ggX0_begin_X2_begin
theorem dX0_begin_0 : decode cX0_begin 0 = .ok (.aload_n 0, 1) := by decide +kernel
theorem dX0_begin_1 : decode cX0_begin 1 = .ok (.iconst 1, 1) := by decide +kernel
theorem dX0_begin_2 : decode cX0_begin 2 = .ok (.putfield 21, 3) := by decide +kernel
theorem dX0_begin_5 : decode cX0_begin 5 = .ok (.aload_n 0, 1) := by decide +kernel
theorem dX0_begin_6 : decode cX0_begin 6 = .ok (.iload_n 1, 1) := by decide +kernel
theorem dX0_begin_7 : decode cX0_begin 7 = .ok (.putfield 25, 3) := by decide +kernel
theorem dX0_begin_10 : decode cX0_begin 10 = .ok (.aload_n 0, 1) := by decide +kernel
theorem dX0_begin_11 : decode cX0_begin 11 = .ok (.iconst 1, 1) := by decide +kernel
theorem dX0_begin_12 : decode cX0_begin 12 = .ok (.putfield 42, 3) := by decide +kernel
theorem dX0_begin_15 : decode cX0_begin 15 = .ok (.aload_n 0, 1) := by decide +kernel
theorem dX0_begin_16 : decode cX0_begin 16 = .ok (.sipush 180, 3) := by decide +kernel
theorem dX0_begin_19 : decode cX0_begin 19 = .ok (.putfield 71, 3) := by decide +kernel
theorem dX0_begin_22 : decode cX0_begin 22 = .ok (.aload_n 0, 1) := by decide +kernel
theorem dX0_begin_23 : decode cX0_begin 23 = .ok (.getfield 12, 3) := by decide +kernel
theorem dX0_begin_26 : decode cX0_begin 26 = .ok (.aload_n 0, 1) := by decide +kernel
theorem dX0_begin_27 : decode cX0_begin 27 = .ok (.invokevirtual 74, 3) := by decide +kernel
theorem dX0_begin_30 : decode cX0_begin 30 = .ok (.aload_n 0, 1) := by decide +kernel
theorem dX0_begin_31 : decode cX0_begin 31 = .ok (.getfield 18, 3) := by decide +kernel
theorem dX0_begin_34 : decode cX0_begin 34 = .ok (.aload_n 0, 1) := by decide +kernel
theorem dX0_begin_35 : decode cX0_begin 35 = .ok (.invokevirtual 74, 3) := by decide +kernel
theorem dX0_begin_38 : decode cX0_begin 38 = .ok (.return_, 1) := by decide +kernel
set_option maxRecDepth 20000 in
theorem ggX0_goOn_X0_periods : GoodIn wsX0_goOn wsX0_periods := goodIn_r _ [7, 8, 9, 10, 6, 11, 12, 17, 18, 19, 20, 21, 22, 23, 24, 25] (by decide +kernel) (by decide +kernel)
set_option maxRecDepth 20000 in
theorem gX0_goOn_X0_periods : GoodIn wsX0_goOn (wsV RX0 45 RX0 yX0_periods wsX0_periods) := goodIn_app (goodIn_of _ (by decide +kernel)) ggX0_goOn_X0_periods
set_option maxRecDepth 20000 in
theorem ggX0_goOn_X0_isInExtra : GoodIn wsX0_goOn wsX0_isInExtra := goodIn_r _ [16, 2, 3, 4, 5, 6, 7, 8, 9, 10, 11, 12, 17, 18, 19, 20, 21, 22, 23, 24, 25] (by decide +kernel) (by decide +kernel)
set_option maxRecDepth 20000 in
theorem gX0_goOn_X0_isInExtra : GoodIn wsX0_goOn (wsV RX0 65 RX0 yX0_isInExtra wsX0_isInExtra) := goodIn_app (goodIn_of _ (by decide +kernel)) ggX0_goOn_X0_isInExtra
theorem dX0_goOn_0 : decode cX0_goOn 0 = .ok (.iload_n 1, 1) := by decide +kernel
theorem dX0_goOn_1 : decode cX0_goOn 1 = .ok (.istore_n 2, 1) := by decide +kernel
theorem dX0_goOn_2 : decode cX0_goOn 2 = .ok (.iload_n 2, 1) := by decide +kernel
theorem dX0_goOn_3 : decode cX0_goOn 3 = .ok (.aload_n 0, 1) := by decide +kernel
theorem dX0_goOn_4 : decode cX0_goOn 4 = .ok (.getfield 71, 3) := by decide +kernel
theorem dX0_goOn_7 : decode cX0_goOn 7 = .ok (.if_icmp .lt 53, 3) := by decide +kernel
theorem dX0_goOn_10 : decode cX0_goOn 10 = .ok (.aload_n 0, 1) := by decide +kernel
theorem dX0_goOn_11 : decode cX0_goOn 11 = .ok (.getfield 42, 3) := by decide +kernel
theorem dX0_goOn_14 : decode cX0_goOn 14 = .ok (.aload_n 0, 1) := by decide +kernel
theorem dX0_goOn_15 : decode cX0_goOn 15 = .ok (.invokevirtual 45, 3) := by decide +kernel
theorem dX0_goOn_18 : decode cX0_goOn 18 = .ok (.if_icmp .gt 42, 3) := by decide +kernel
theorem dX0_goOn_21 : decode cX0_goOn 21 = .ok (.iload_n 2, 1) := by decide +kernel
theorem dX0_goOn_22 : decode cX0_goOn 22 = .ok (.aload_n 0, 1) := by decide +kernel
theorem dX0_goOn_23 : decode cX0_goOn 23 = .ok (.getfield 71, 3) := by decide +kernel
theorem dX0_goOn_26 : decode cX0_goOn 26 = .ok (.isub, 1) := by decide +kernel
theorem dX0_goOn_27 : decode cX0_goOn 27 = .ok (.istore_n 2, 1) := by decide +kernel
theorem dX0_goOn_28 : decode cX0_goOn 28 = .ok (.aload_n 0, 1) := by decide +kernel
theorem dX0_goOn_29 : decode cX0_goOn 29 = .ok (.dup, 1) := by decide +kernel
theorem dX0_goOn_30 : decode cX0_goOn 30 = .ok (.getfield 42, 3) := by decide +kernel
theorem dX0_goOn_33 : decode cX0_goOn 33 = .ok (.iconst 1, 1) := by decide +kernel
theorem dX0_goOn_34 : decode cX0_goOn 34 = .ok (.iadd, 1) := by decide +kernel
theorem dX0_goOn_35 : decode cX0_goOn 35 = .ok (.putfield 42, 3) := by decide +kernel
theorem dX0_goOn_38 : decode cX0_goOn 38 = .ok (.aload_n 0, 1) := by decide +kernel
theorem dX0_goOn_39 : decode cX0_goOn 39 = .ok (.aload_n 0, 1) := by decide +kernel
theorem dX0_goOn_40 : decode cX0_goOn 40 = .ok (.invokevirtual 65, 3) := by decide +kernel
theorem dX0_goOn_43 : decode cX0_goOn 43 = .ok (.ifCond .eq 8, 3) := by decide +kernel
theorem dX0_goOn_46 : decode cX0_goOn 46 = .ok (.bipush 60, 2) := by decide +kernel
theorem dX0_goOn_48 : decode cX0_goOn 48 = .ok (.goto 6, 3) := by decide +kernel
theorem dX0_goOn_51 : decode cX0_goOn 51 = .ok (.sipush 180, 3) := by decide +kernel
theorem dX0_goOn_54 : decode cX0_goOn 54 = .ok (.putfield 71, 3) := by decide +kernel
theorem dX0_goOn_57 : decode cX0_goOn 57 = .ok (.goto (-55), 3) := by decide +kernel
theorem dX0_goOn_60 : decode cX0_goOn 60 = .ok (.aload_n 0, 1) := by decide +kernel
theorem dX0_goOn_61 : decode cX0_goOn 61 = .ok (.dup, 1) := by decide +kernel
theorem dX0_goOn_62 : decode cX0_goOn 62 = .ok (.getfield 71, 3) := by decide +kernel
theorem dX0_goOn_65 : decode cX0_goOn 65 = .ok (.iload_n 2, 1) := by decide +kernel
theorem dX0_goOn_66 : decode cX0_goOn 66 = .ok (.isub, 1) := by decide +kernel
theorem dX0_goOn_67 : decode cX0_goOn 67 = .ok (.putfield 71, 3) := by decide +kernel
theorem dX0_goOn_70 : decode cX0_goOn 70 = .ok (.return_, 1) := by decide +kernel
set_option maxRecDepth 20000 in
theorem ggX0_end_X2_end : GoodIn wsX0_end wsX2_end := goodIn_r _ [10, 11, 12, 13, 23, 24, 25, 26, 27, 28, 29, 30, 31, 32, 33, 34, 35, 36, 37, 38, 39] (by decide +kernel) (by decide +kernel)
set_option maxRecDepth 20000 in
theorem gX0_end_X2_end : GoodIn wsX0_end (wsV RX0 78 RX2 yX2_end wsX2_end) := goodIn_app (goodIn_of _ (by decide +kernel)) ggX0_end_X2_end
theorem dX0_end_0 : decode cX0_end 0 = .ok (.aload_n 0, 1) := by decide +kernel
theorem dX0_end_1 : decode cX0_end 1 = .ok (.iconst (-1), 1) := by decide +kernel
theorem dX0_end_2 : decode cX0_end 2 = .ok (.putfield 25, 3) := by decide +kernel
theorem dX0_end_5 : decode cX0_end 5 = .ok (.aload_n 0, 1) := by decide +kernel
theorem dX0_end_6 : decode cX0_end 6 = .ok (.iconst 0, 1) := by decide +kernel
theorem dX0_end_7 : decode cX0_end 7 = .ok (.putfield 42, 3) := by decide +kernel
theorem dX0_end_10 : decode cX0_end 10 = .ok (.aload_n 0, 1) := by decide +kernel
theorem dX0_end_11 : decode cX0_end 11 = .ok (.iconst 0, 1) := by decide +kernel
theorem dX0_end_12 : decode cX0_end 12 = .ok (.putfield 71, 3) := by decide +kernel
theorem dX0_end_15 : decode cX0_end 15 = .ok (.aload_n 0, 1) := by decide +kernel
theorem dX0_end_16 : decode cX0_end 16 = .ok (.getfield 12, 3) := by decide +kernel
theorem dX0_end_19 : decode cX0_end 19 = .ok (.iload_n 1, 1) := by decide +kernel
theorem dX0_end_20 : decode cX0_end 20 = .ok (.invokevirtual 78, 3) := by decide +kernel
theorem dX0_end_23 : decode cX0_end 23 = .ok (.aload_n 0, 1) := by decide +kernel
theorem dX0_end_24 : decode cX0_end 24 = .ok (.getfield 18, 3) := by decide +kernel
theorem dX0_end_27 : decode cX0_end 27 = .ok (.iload_n 1, 1) := by decide +kernel
theorem dX0_end_28 : decode cX0_end 28 = .ok (.invokevirtual 78, 3) := by decide +kernel
theorem dX0_end_31 : decode cX0_end 31 = .ok (.return_, 1) := by decide +kernel
set_option maxRecDepth 20000 in
theorem ggX0_count_X2_count : GoodIn wsX0_count wsX2_count := goodIn_r _ [7, 8, 9, 10, 11, 12, 13, 14, 15, 16, 17, 27, 28, 29, 30, 31, 32, 33, 34, 35, 36, 37, 38, 39, 40, 41, 42, 43] (by decide +kernel) (by decide +kernel)
set_option maxRecDepth 20000 in
theorem gX0_count_X2_count : GoodIn wsX0_count (wsV RX0 82 RX2 yX2_count wsX2_count) := goodIn_app (goodIn_of _ (by decide +kernel)) ggX0_count_X2_count
theorem dX0_count_0 : decode cX0_count 0 = .ok (.aload_n 0, 1) := by decide +kernel
theorem dX0_count_1 : decode cX0_count 1 = .ok (.getfield 12, 3) := by decide +kernel
theorem dX0_count_4 : decode cX0_count 4 = .ok (.aload_n 1, 1) := by decide +kernel
theorem dX0_count_5 : decode cX0_count 5 = .ok (.iload_n 2, 1) := by decide +kernel
theorem dX0_count_6 : decode cX0_count 6 = .ok (.iload_n 3, 1) := by decide +kernel
theorem dX0_count_7 : decode cX0_count 7 = .ok (.iload 4, 2) := by decide +kernel
theorem dX0_count_9 : decode cX0_count 9 = .ok (.invokevirtual 82, 3) := by decide +kernel
theorem dX0_count_12 : decode cX0_count 12 = .ok (.aload_n 0, 1) := by decide +kernel
theorem dX0_count_13 : decode cX0_count 13 = .ok (.getfield 18, 3) := by decide +kernel
theorem dX0_count_16 : decode cX0_count 16 = .ok (.aload_n 1, 1) := by decide +kernel
theorem dX0_count_17 : decode cX0_count 17 = .ok (.iload_n 3, 1) := by decide +kernel
theorem dX0_count_18 : decode cX0_count 18 = .ok (.iload_n 2, 1) := by decide +kernel
theorem dX0_count_19 : decode cX0_count 19 = .ok (.iload 4, 2) := by decide +kernel
theorem dX0_count_21 : decode cX0_count 21 = .ok (.invokevirtual 82, 3) := by decide +kernel
theorem dX0_count_24 : decode cX0_count 24 = .ok (.return_, 1) := by decide +kernel
theorem dX1_init_0 : decode cX1_init 0 = .ok (.aload_n 0, 1) := by decide +kernel
theorem dX1_init_1 : decode cX1_init 1 = .ok (.invokespecial 3, 3) := by decide +kernel
theorem dX1_init_4 : decode cX1_init 4 = .ok (.aload_n 0, 1) := by decide +kernel
theorem dX1_init_5 : decode cX1_init 5 = .ok (.iconst (-1), 1) := by decide +kernel
theorem dX1_init_6 : decode cX1_init 6 = .ok (.putfield 9, 3) := by decide +kernel
theorem dX1_init_9 : decode cX1_init 9 = .ok (.aload_n 0, 1) := by decide +kernel
theorem dX1_init_10 : decode cX1_init 10 = .ok (.iconst (-1), 1) := by decide +kernel
theorem dX1_init_11 : decode cX1_init 11 = .ok (.putfield 15, 3) := by decide +kernel
theorem dX1_init_14 : decode cX1_init 14 = .ok (.aload_n 0, 1) := by decide +kernel
theorem dX1_init_15 : decode cX1_init 15 = .ok (.iconst (-1), 1) := by decide +kernel
theorem dX1_init_16 : decode cX1_init 16 = .ok (.putfield 18, 3) := by decide +kernel
theorem dX1_init_19 : decode cX1_init 19 = .ok (.aload_n 0, 1) := by decide +kernel
theorem dX1_init_20 : decode cX1_init 20 = .ok (.iconst (-1), 1) := by decide +kernel
theorem dX1_init_21 : decode cX1_init 21 = .ok (.putfield 21, 3) := by decide +kernel
theorem dX1_init_24 : decode cX1_init 24 = .ok (.aload_n 0, 1) := by decide +kernel
theorem dX1_init_25 : decode cX1_init 25 = .ok (.iload_n 1, 1) := by decide +kernel
theorem dX1_init_26 : decode cX1_init 26 = .ok (.putfield 24, 3) := by decide +kernel
theorem dX1_init_29 : decode cX1_init 29 = .ok (.aload_n 0, 1) := by decide +kernel
theorem dX1_init_30 : decode cX1_init 30 = .ok (.iload_n 2, 1) := by decide +kernel
theorem dX1_init_31 : decode cX1_init 31 = .ok (.putfield 27, 3) := by decide +kernel
theorem dX1_init_34 : decode cX1_init 34 = .ok (.aload_n 0, 1) := by decide +kernel
theorem dX1_init_35 : decode cX1_init 35 = .ok (.iload_n 3, 1) := by decide +kernel
theorem dX1_init_36 : decode cX1_init 36 = .ok (.putfield 30, 3) := by decide +kernel
theorem dX1_init_39 : decode cX1_init 39 = .ok (.return_, 1) := by decide +kernel
theorem dX1_count_0 : decode cX1_count 0 = .ok (.aload_n 0, 1) := by decide +kernel
theorem dX1_count_1 : decode cX1_count 1 = .ok (.dup, 1) := by decide +kernel
theorem dX1_count_2 : decode cX1_count 2 = .ok (.getfield 33, 3) := by decide +kernel
theorem dX1_count_5 : decode cX1_count 5 = .ok (.iload 4, 2) := by decide +kernel
theorem dX1_count_7 : decode cX1_count 7 = .ok (.iadd, 1) := by decide +kernel
theorem dX1_count_8 : decode cX1_count 8 = .ok (.putfield 33, 3) := by decide +kernel
theorem dX1_count_11 : decode cX1_count 11 = .ok (.aload_n 0, 1) := by decide +kernel
theorem dX1_count_12 : decode cX1_count 12 = .ok (.dup, 1) := by decide +kernel
theorem dX1_count_13 : decode cX1_count 13 = .ok (.getfield 36, 3) := by decide +kernel
theorem dX1_count_16 : decode cX1_count 16 = .ok (.iload_n 1, 1) := by decide +kernel
theorem dX1_count_17 : decode cX1_count 17 = .ok (.ifCond .eq 8, 3) := by decide +kernel
theorem dX1_count_20 : decode cX1_count 20 = .ok (.iload 4, 2) := by decide +kernel
theorem dX1_count_22 : decode cX1_count 22 = .ok (.goto 4, 3) := by decide +kernel
theorem dX1_count_25 : decode cX1_count 25 = .ok (.iconst 0, 1) := by decide +kernel
theorem dX1_count_26 : decode cX1_count 26 = .ok (.iadd, 1) := by decide +kernel
theorem dX1_count_27 : decode cX1_count 27 = .ok (.putfield 36, 3) := by decide +kernel
theorem dX1_count_30 : decode cX1_count 30 = .ok (.aload_n 0, 1) := by decide +kernel
theorem dX1_count_31 : decode cX1_count 31 = .ok (.dup, 1) := by decide +kernel
theorem dX1_count_32 : decode cX1_count 32 = .ok (.getfield 39, 3) := by decide +kernel
theorem dX1_count_35 : decode cX1_count 35 = .ok (.iload_n 2, 1) := by decide +kernel
theorem dX1_count_36 : decode cX1_count 36 = .ok (.iload 4, 2) := by decide +kernel
theorem dX1_count_38 : decode cX1_count 38 = .ok (.imul, 1) := by decide +kernel
theorem dX1_count_39 : decode cX1_count 39 = .ok (.iadd, 1) := by decide +kernel
theorem dX1_count_40 : decode cX1_count 40 = .ok (.putfield 39, 3) := by decide +kernel
theorem dX1_count_43 : decode cX1_count 43 = .ok (.aload_n 0, 1) := by decide +kernel
theorem dX1_count_44 : decode cX1_count 44 = .ok (.dup, 1) := by decide +kernel
theorem dX1_count_45 : decode cX1_count 45 = .ok (.getfield 42, 3) := by decide +kernel
theorem dX1_count_48 : decode cX1_count 48 = .ok (.iload_n 3, 1) := by decide +kernel
theorem dX1_count_49 : decode cX1_count 49 = .ok (.iload 4, 2) := by decide +kernel
theorem dX1_count_51 : decode cX1_count 51 = .ok (.imul, 1) := by decide +kernel
theorem dX1_count_52 : decode cX1_count 52 = .ok (.iadd, 1) := by decide +kernel
theorem dX1_count_53 : decode cX1_count 53 = .ok (.putfield 42, 3) := by decide +kernel
theorem dX1_count_56 : decode cX1_count 56 = .ok (.return_, 1) := by decide +kernel
theorem dX1_isAheadOf_0 : decode cX1_isAheadOf 0 = .ok (.aload_n 0, 1) := by decide +kernel
theorem dX1_isAheadOf_1 : decode cX1_isAheadOf 1 = .ok (.getfield 45, 3) := by decide +kernel
theorem dX1_isAheadOf_4 : decode cX1_isAheadOf 4 = .ok (.aload_n 1, 1) := by decide +kernel
theorem dX1_isAheadOf_5 : decode cX1_isAheadOf 5 = .ok (.getfield 45, 3) := by decide +kernel
theorem dX1_isAheadOf_8 : decode cX1_isAheadOf 8 = .ok (.if_icmp .eq 8, 3) := by decide +kernel
theorem dX1_isAheadOf_11 : decode cX1_isAheadOf 11 = .ok (.aload_n 1, 1) := by decide +kernel
theorem dX1_isAheadOf_12 : decode cX1_isAheadOf 12 = .ok (.getfield 45, 3) := by decide +kernel
theorem dX1_isAheadOf_15 : decode cX1_isAheadOf 15 = .ok (.ireturn, 1) := by decide +kernel
theorem dX1_isAheadOf_16 : decode cX1_isAheadOf 16 = .ok (.aload_n 0, 1) := by decide +kernel
theorem dX1_isAheadOf_17 : decode cX1_isAheadOf 17 = .ok (.getfield 36, 3) := by decide +kernel
theorem dX1_isAheadOf_20 : decode cX1_isAheadOf 20 = .ok (.aload_n 1, 1) := by decide +kernel
theorem dX1_isAheadOf_21 : decode cX1_isAheadOf 21 = .ok (.getfield 33, 3) := by decide +kernel
theorem dX1_isAheadOf_24 : decode cX1_isAheadOf 24 = .ok (.iconst 1, 1) := by decide +kernel
theorem dX1_isAheadOf_25 : decode cX1_isAheadOf 25 = .ok (.invokestatic 49, 3) := by decide +kernel
theorem dX1_isAheadOf_28 : decode cX1_isAheadOf 28 = .ok (.imul, 1) := by decide +kernel
theorem dX1_isAheadOf_29 : decode cX1_isAheadOf 29 = .ok (.istore_n 2, 1) := by decide +kernel
theorem dX1_isAheadOf_30 : decode cX1_isAheadOf 30 = .ok (.aload_n 1, 1) := by decide +kernel
theorem dX1_isAheadOf_31 : decode cX1_isAheadOf 31 = .ok (.getfield 36, 3) := by decide +kernel
theorem dX1_isAheadOf_34 : decode cX1_isAheadOf 34 = .ok (.aload_n 0, 1) := by decide +kernel
theorem dX1_isAheadOf_35 : decode cX1_isAheadOf 35 = .ok (.getfield 33, 3) := by decide +kernel
theorem dX1_isAheadOf_38 : decode cX1_isAheadOf 38 = .ok (.iconst 1, 1) := by decide +kernel
theorem dX1_isAheadOf_39 : decode cX1_isAheadOf 39 = .ok (.invokestatic 49, 3) := by decide +kernel
theorem dX1_isAheadOf_42 : decode cX1_isAheadOf 42 = .ok (.imul, 1) := by decide +kernel
theorem dX1_isAheadOf_43 : decode cX1_isAheadOf 43 = .ok (.istore_n 3, 1) := by decide +kernel
theorem dX1_isAheadOf_44 : decode cX1_isAheadOf 44 = .ok (.iload_n 2, 1) := by decide +kernel
theorem dX1_isAheadOf_45 : decode cX1_isAheadOf 45 = .ok (.iload_n 3, 1) := by decide +kernel
theorem dX1_isAheadOf_46 : decode cX1_isAheadOf 46 = .ok (.if_icmp .eq 14, 3) := by decide +kernel
theorem dX1_isAheadOf_49 : decode cX1_isAheadOf 49 = .ok (.iload_n 2, 1) := by decide +kernel
theorem dX1_isAheadOf_50 : decode cX1_isAheadOf 50 = .ok (.iload_n 3, 1) := by decide +kernel
theorem dX1_isAheadOf_51 : decode cX1_isAheadOf 51 = .ok (.if_icmp .le 7, 3) := by decide +kernel
theorem dX1_isAheadOf_54 : decode cX1_isAheadOf 54 = .ok (.iconst 1, 1) := by decide +kernel
theorem dX1_isAheadOf_55 : decode cX1_isAheadOf 55 = .ok (.goto 4, 3) := by decide +kernel
theorem dX1_isAheadOf_58 : decode cX1_isAheadOf 58 = .ok (.iconst 0, 1) := by decide +kernel
theorem dX1_isAheadOf_59 : decode cX1_isAheadOf 59 = .ok (.ireturn, 1) := by decide +kernel
theorem dX1_isAheadOf_60 : decode cX1_isAheadOf 60 = .ok (.aload_n 0, 1) := by decide +kernel
theorem dX1_isAheadOf_61 : decode cX1_isAheadOf 61 = .ok (.getfield 39, 3) := by decide +kernel
theorem dX1_isAheadOf_64 : decode cX1_isAheadOf 64 = .ok (.aload_n 0, 1) := by decide +kernel
theorem dX1_isAheadOf_65 : decode cX1_isAheadOf 65 = .ok (.getfield 42, 3) := by decide +kernel
theorem dX1_isAheadOf_68 : decode cX1_isAheadOf 68 = .ok (.isub, 1) := by decide +kernel
theorem dX1_isAheadOf_69 : decode cX1_isAheadOf 69 = .ok (.aload_n 1, 1) := by decide +kernel
theorem dX1_isAheadOf_70 : decode cX1_isAheadOf 70 = .ok (.getfield 39, 3) := by decide +kernel
theorem dX1_isAheadOf_73 : decode cX1_isAheadOf 73 = .ok (.aload_n 1, 1) := by decide +kernel
theorem dX1_isAheadOf_74 : decode cX1_isAheadOf 74 = .ok (.getfield 42, 3) := by decide +kernel
theorem dX1_isAheadOf_77 : decode cX1_isAheadOf 77 = .ok (.isub, 1) := by decide +kernel
theorem dX1_isAheadOf_78 : decode cX1_isAheadOf 78 = .ok (.if_icmp .eq 30, 3) := by decide +kernel
theorem dX1_isAheadOf_81 : decode cX1_isAheadOf 81 = .ok (.aload_n 0, 1) := by decide +kernel
theorem dX1_isAheadOf_82 : decode cX1_isAheadOf 82 = .ok (.getfield 39, 3) := by decide +kernel
theorem dX1_isAheadOf_85 : decode cX1_isAheadOf 85 = .ok (.aload_n 0, 1) := by decide +kernel
theorem dX1_isAheadOf_86 : decode cX1_isAheadOf 86 = .ok (.getfield 42, 3) := by decide +kernel
theorem dX1_isAheadOf_89 : decode cX1_isAheadOf 89 = .ok (.isub, 1) := by decide +kernel
theorem dX1_isAheadOf_90 : decode cX1_isAheadOf 90 = .ok (.aload_n 1, 1) := by decide +kernel
theorem dX1_isAheadOf_91 : decode cX1_isAheadOf 91 = .ok (.getfield 39, 3) := by decide +kernel
theorem dX1_isAheadOf_94 : decode cX1_isAheadOf 94 = .ok (.aload_n 1, 1) := by decide +kernel
theorem dX1_isAheadOf_95 : decode cX1_isAheadOf 95 = .ok (.getfield 42, 3) := by decide +kernel
theorem dX1_isAheadOf_98 : decode cX1_isAheadOf 98 = .ok (.isub, 1) := by decide +kernel
theorem dX1_isAheadOf_99 : decode cX1_isAheadOf 99 = .ok (.if_icmp .le 7, 3) := by decide +kernel
theorem dX1_isAheadOf_102 : decode cX1_isAheadOf 102 = .ok (.iconst 1, 1) := by decide +kernel
theorem dX1_isAheadOf_103 : decode cX1_isAheadOf 103 = .ok (.goto 4, 3) := by decide +kernel
theorem dX1_isAheadOf_106 : decode cX1_isAheadOf 106 = .ok (.iconst 0, 1) := by decide +kernel
theorem dX1_isAheadOf_107 : decode cX1_isAheadOf 107 = .ok (.ireturn, 1) := by decide +kernel
theorem dX1_isAheadOf_108 : decode cX1_isAheadOf 108 = .ok (.aload_n 0, 1) := by decide +kernel
theorem dX1_isAheadOf_109 : decode cX1_isAheadOf 109 = .ok (.getfield 39, 3) := by decide +kernel
theorem dX1_isAheadOf_112 : decode cX1_isAheadOf 112 = .ok (.aload_n 1, 1) := by decide +kernel
theorem dX1_isAheadOf_113 : decode cX1_isAheadOf 113 = .ok (.getfield 39, 3) := by decide +kernel
theorem dX1_isAheadOf_116 : decode cX1_isAheadOf 116 = .ok (.if_icmp .eq 20, 3) := by decide +kernel
theorem dX1_isAheadOf_119 : decode cX1_isAheadOf 119 = .ok (.aload_n 0, 1) := by decide +kernel
theorem dX1_isAheadOf_120 : decode cX1_isAheadOf 120 = .ok (.getfield 39, 3) := by decide +kernel
theorem dX1_isAheadOf_123 : decode cX1_isAheadOf 123 = .ok (.aload_n 1, 1) := by decide +kernel
theorem dX1_isAheadOf_124 : decode cX1_isAheadOf 124 = .ok (.getfield 39, 3) := by decide +kernel
theorem dX1_isAheadOf_127 : decode cX1_isAheadOf 127 = .ok (.if_icmp .le 7, 3) := by decide +kernel
theorem dX1_isAheadOf_130 : decode cX1_isAheadOf 130 = .ok (.iconst 1, 1) := by decide +kernel
theorem dX1_isAheadOf_131 : decode cX1_isAheadOf 131 = .ok (.goto 4, 3) := by decide +kernel
theorem dX1_isAheadOf_134 : decode cX1_isAheadOf 134 = .ok (.iconst 0, 1) := by decide +kernel
theorem dX1_isAheadOf_135 : decode cX1_isAheadOf 135 = .ok (.ireturn, 1) := by decide +kernel
theorem dX1_isAheadOf_136 : decode cX1_isAheadOf 136 = .ok (.aload_n 0, 1) := by decide +kernel
theorem dX1_isAheadOf_137 : decode cX1_isAheadOf 137 = .ok (.getfield 27, 3) := by decide +kernel
theorem dX1_isAheadOf_140 : decode cX1_isAheadOf 140 = .ok (.aload_n 1, 1) := by decide +kernel
theorem dX1_isAheadOf_141 : decode cX1_isAheadOf 141 = .ok (.getfield 27, 3) := by decide +kernel
theorem dX1_isAheadOf_144 : decode cX1_isAheadOf 144 = .ok (.if_icmp .eq 20, 3) := by decide +kernel
theorem dX1_isAheadOf_147 : decode cX1_isAheadOf 147 = .ok (.aload_n 0, 1) := by decide +kernel
theorem dX1_isAheadOf_148 : decode cX1_isAheadOf 148 = .ok (.getfield 27, 3) := by decide +kernel
theorem dX1_isAheadOf_151 : decode cX1_isAheadOf 151 = .ok (.aload_n 1, 1) := by decide +kernel
theorem dX1_isAheadOf_152 : decode cX1_isAheadOf 152 = .ok (.getfield 27, 3) := by decide +kernel
theorem dX1_isAheadOf_155 : decode cX1_isAheadOf 155 = .ok (.if_icmp .ge 7, 3) := by decide +kernel
theorem dX1_isAheadOf_158 : decode cX1_isAheadOf 158 = .ok (.iconst 1, 1) := by decide +kernel
theorem dX1_isAheadOf_159 : decode cX1_isAheadOf 159 = .ok (.goto 4, 3) := by decide +kernel
theorem dX1_isAheadOf_162 : decode cX1_isAheadOf 162 = .ok (.iconst 0, 1) := by decide +kernel
theorem dX1_isAheadOf_163 : decode cX1_isAheadOf 163 = .ok (.ireturn, 1) := by decide +kernel
theorem dX1_isAheadOf_164 : decode cX1_isAheadOf 164 = .ok (.aload_n 0, 1) := by decide +kernel
theorem dX1_isAheadOf_165 : decode cX1_isAheadOf 165 = .ok (.getfield 24, 3) := by decide +kernel
theorem dX1_isAheadOf_168 : decode cX1_isAheadOf 168 = .ok (.aload_n 1, 1) := by decide +kernel
theorem dX1_isAheadOf_169 : decode cX1_isAheadOf 169 = .ok (.getfield 24, 3) := by decide +kernel
theorem dX1_isAheadOf_172 : decode cX1_isAheadOf 172 = .ok (.if_icmp .ge 7, 3) := by decide +kernel
theorem dX1_isAheadOf_175 : decode cX1_isAheadOf 175 = .ok (.iconst 1, 1) := by decide +kernel
theorem dX1_isAheadOf_176 : decode cX1_isAheadOf 176 = .ok (.goto 4, 3) := by decide +kernel
theorem dX1_isAheadOf_179 : decode cX1_isAheadOf 179 = .ok (.iconst 0, 1) := by decide +kernel
theorem dX1_isAheadOf_180 : decode cX1_isAheadOf 180 = .ok (.ireturn, 1) := by decide +kernel
set_option maxRecDepth 20000 in
theorem ggX1_isPlacedAheadOf_X1_isAheadOf : GoodIn wsX1_isPlacedAheadOf wsX1_isAheadOf := goodIn_r _ [7, 1, 8, 9, 10, 11, 12, 13, 14, 15, 16, 17, 18, 19, 20, 21, 22, 23, 24, 25, 26, 27, 28, 29, 30, 31] (by decide +kernel) (by decide +kernel)
set_option maxRecDepth 20000 in
theorem gX1_isPlacedAheadOf_X1_isAheadOf : GoodIn wsX1_isPlacedAheadOf (wsV RX1 55 RX1 yX1_isAheadOf wsX1_isAheadOf) := goodIn_app (goodIn_of _ (by decide +kernel)) ggX1_isPlacedAheadOf_X1_isAheadOf
theorem dX1_isPlacedAheadOf_0 : decode cX1_isPlacedAheadOf 0 = .ok (.aload_n 0, 1) := by decide +kernel
theorem dX1_isPlacedAheadOf_1 : decode cX1_isPlacedAheadOf 1 = .ok (.getfield 45, 3) := by decide +kernel
theorem dX1_isPlacedAheadOf_4 : decode cX1_isPlacedAheadOf 4 = .ok (.ifCond .ne 38, 3) := by decide +kernel
theorem dX1_isPlacedAheadOf_7 : decode cX1_isPlacedAheadOf 7 = .ok (.aload_n 1, 1) := by decide +kernel
theorem dX1_isPlacedAheadOf_8 : decode cX1_isPlacedAheadOf 8 = .ok (.getfield 45, 3) := by decide +kernel
theorem dX1_isPlacedAheadOf_11 : decode cX1_isPlacedAheadOf 11 = .ok (.ifCond .ne 31, 3) := by decide +kernel
theorem dX1_isPlacedAheadOf_14 : decode cX1_isPlacedAheadOf 14 = .ok (.aload_n 0, 1) := by decide +kernel
theorem dX1_isPlacedAheadOf_15 : decode cX1_isPlacedAheadOf 15 = .ok (.getfield 21, 3) := by decide +kernel
theorem dX1_isPlacedAheadOf_18 : decode cX1_isPlacedAheadOf 18 = .ok (.aload_n 1, 1) := by decide +kernel
theorem dX1_isPlacedAheadOf_19 : decode cX1_isPlacedAheadOf 19 = .ok (.getfield 21, 3) := by decide +kernel
theorem dX1_isPlacedAheadOf_22 : decode cX1_isPlacedAheadOf 22 = .ok (.if_icmp .eq 20, 3) := by decide +kernel
theorem dX1_isPlacedAheadOf_25 : decode cX1_isPlacedAheadOf 25 = .ok (.aload_n 0, 1) := by decide +kernel
theorem dX1_isPlacedAheadOf_26 : decode cX1_isPlacedAheadOf 26 = .ok (.getfield 21, 3) := by decide +kernel
theorem dX1_isPlacedAheadOf_29 : decode cX1_isPlacedAheadOf 29 = .ok (.aload_n 1, 1) := by decide +kernel
theorem dX1_isPlacedAheadOf_30 : decode cX1_isPlacedAheadOf 30 = .ok (.getfield 21, 3) := by decide +kernel
theorem dX1_isPlacedAheadOf_33 : decode cX1_isPlacedAheadOf 33 = .ok (.if_icmp .le 7, 3) := by decide +kernel
theorem dX1_isPlacedAheadOf_36 : decode cX1_isPlacedAheadOf 36 = .ok (.iconst 1, 1) := by decide +kernel
theorem dX1_isPlacedAheadOf_37 : decode cX1_isPlacedAheadOf 37 = .ok (.goto 4, 3) := by decide +kernel
theorem dX1_isPlacedAheadOf_40 : decode cX1_isPlacedAheadOf 40 = .ok (.iconst 0, 1) := by decide +kernel
theorem dX1_isPlacedAheadOf_41 : decode cX1_isPlacedAheadOf 41 = .ok (.ireturn, 1) := by decide +kernel
theorem dX1_isPlacedAheadOf_42 : decode cX1_isPlacedAheadOf 42 = .ok (.aload_n 0, 1) := by decide +kernel
theorem dX1_isPlacedAheadOf_43 : decode cX1_isPlacedAheadOf 43 = .ok (.aload_n 1, 1) := by decide +kernel
theorem dX1_isPlacedAheadOf_44 : decode cX1_isPlacedAheadOf 44 = .ok (.invokevirtual 55, 3) := by decide +kernel
theorem dX1_isPlacedAheadOf_47 : decode cX1_isPlacedAheadOf 47 = .ok (.ireturn, 1) := by decide +kernel
theorem dX2_init_0 : decode cX2_init 0 = .ok (.aload_n 0, 1) := by decide +kernel
theorem dX2_init_1 : decode cX2_init 1 = .ok (.invokespecial 3, 3) := by decide +kernel
theorem dX2_init_4 : decode cX2_init 4 = .ok (.return_, 1) := by decide +kernel
theorem dX2_isInLiveBout_0 : decode cX2_isInLiveBout 0 = .ok (.aload_n 0, 1) := by decide +kernel
theorem dX2_isInLiveBout_1 : decode cX2_isInLiveBout 1 = .ok (.getfield 9, 3) := by decide +kernel
theorem dX2_isInLiveBout_4 : decode cX2_isInLiveBout 4 = .ok (.ifnull 17, 3) := by decide +kernel
theorem dX2_isInLiveBout_7 : decode cX2_isInLiveBout 7 = .ok (.aload_n 0, 1) := by decide +kernel
theorem dX2_isInLiveBout_8 : decode cX2_isInLiveBout 8 = .ok (.getfield 9, 3) := by decide +kernel
theorem dX2_isInLiveBout_11 : decode cX2_isInLiveBout 11 = .ok (.getfield 15, 3) := by decide +kernel
theorem dX2_isInLiveBout_14 : decode cX2_isInLiveBout 14 = .ok (.ifnull 7, 3) := by decide +kernel
theorem dX2_isInLiveBout_17 : decode cX2_isInLiveBout 17 = .ok (.iconst 1, 1) := by decide +kernel
theorem dX2_isInLiveBout_18 : decode cX2_isInLiveBout 18 = .ok (.goto 4, 3) := by decide +kernel
theorem dX2_isInLiveBout_21 : decode cX2_isInLiveBout 21 = .ok (.iconst 0, 1) := by decide +kernel
theorem dX2_isInLiveBout_22 : decode cX2_isInLiveBout 22 = .ok (.ireturn, 1) := by decide +kernel
theorem dX2_restedAt_0 : decode cX2_restedAt 0 = .ok (.aload_n 0, 1) := by decide +kernel
theorem dX2_restedAt_1 : decode cX2_restedAt 1 = .ok (.getfield 9, 3) := by decide +kernel
theorem dX2_restedAt_4 : decode cX2_restedAt 4 = .ok (.ifnonnull 7, 3) := by decide +kernel
theorem dX2_restedAt_7 : decode cX2_restedAt 7 = .ok (.iconst 0, 1) := by decide +kernel
theorem dX2_restedAt_8 : decode cX2_restedAt 8 = .ok (.goto 10, 3) := by decide +kernel
theorem dX2_restedAt_11 : decode cX2_restedAt 11 = .ok (.aload_n 0, 1) := by decide +kernel
theorem dX2_restedAt_12 : decode cX2_restedAt 12 = .ok (.getfield 9, 3) := by decide +kernel
theorem dX2_restedAt_15 : decode cX2_restedAt 15 = .ok (.getfield 21, 3) := by decide +kernel
theorem dX2_restedAt_18 : decode cX2_restedAt 18 = .ok (.ireturn, 1) := by decide +kernel
theorem dX2_begin_0 : decode cX2_begin 0 = .ok (.aload_n 0, 1) := by decide +kernel
theorem dX2_begin_1 : decode cX2_begin 1 = .ok (.getfield 9, 3) := by decide +kernel
theorem dX2_begin_4 : decode cX2_begin 4 = .ok (.ifnull 11, 3) := by decide +kernel
theorem dX2_begin_7 : decode cX2_begin 7 = .ok (.aload_n 0, 1) := by decide +kernel
theorem dX2_begin_8 : decode cX2_begin 8 = .ok (.getfield 9, 3) := by decide +kernel
theorem dX2_begin_11 : decode cX2_begin 11 = .ok (.aload_n 1, 1) := by decide +kernel
theorem dX2_begin_12 : decode cX2_begin 12 = .ok (.putfield 15, 3) := by decide +kernel
theorem dX2_begin_15 : decode cX2_begin 15 = .ok (.return_, 1) := by decide +kernel
theorem dX2_end_0 : decode cX2_end 0 = .ok (.aload_n 0, 1) := by decide +kernel
theorem dX2_end_1 : decode cX2_end 1 = .ok (.getfield 9, 3) := by decide +kernel
theorem dX2_end_4 : decode cX2_end 4 = .ok (.ifnull 22, 3) := by decide +kernel
theorem dX2_end_7 : decode cX2_end 7 = .ok (.aload_n 0, 1) := by decide +kernel
theorem dX2_end_8 : decode cX2_end 8 = .ok (.getfield 9, 3) := by decide +kernel
theorem dX2_end_11 : decode cX2_end 11 = .ok (.aconst_null, 1) := by decide +kernel
theorem dX2_end_12 : decode cX2_end 12 = .ok (.putfield 15, 3) := by decide +kernel
theorem dX2_end_15 : decode cX2_end 15 = .ok (.aload_n 0, 1) := by decide +kernel
theorem dX2_end_16 : decode cX2_end 16 = .ok (.getfield 9, 3) := by decide +kernel
theorem dX2_end_19 : decode cX2_end 19 = .ok (.iload_n 1, 1) := by decide +kernel
theorem dX2_end_20 : decode cX2_end 20 = .ok (.bipush 120, 2) := by decide +kernel
theorem dX2_end_22 : decode cX2_end 22 = .ok (.iadd, 1) := by decide +kernel
theorem dX2_end_23 : decode cX2_end 23 = .ok (.putfield 21, 3) := by decide +kernel
theorem dX2_end_26 : decode cX2_end 26 = .ok (.return_, 1) := by decide +kernel
set_option maxRecDepth 20000 in
theorem ggX2_count_X1_count : GoodIn wsX2_count wsX1_count := goodIn_r _ [6, 7, 8, 9, 10, 14, 15, 16, 17, 18, 19, 20, 21, 22, 23, 24, 25, 26, 27] (by decide +kernel) (by decide +kernel)
set_option maxRecDepth 20000 in
theorem gX2_count_X1_count : GoodIn wsX2_count (wsV RX2 25 RX1 yX1_count wsX1_count) := goodIn_app (goodIn_of _ (by decide +kernel)) ggX2_count_X1_count
theorem dX2_count_0 : decode cX2_count 0 = .ok (.aload_n 0, 1) := by decide +kernel
theorem dX2_count_1 : decode cX2_count 1 = .ok (.getfield 9, 3) := by decide +kernel
theorem dX2_count_4 : decode cX2_count 4 = .ok (.ifnull 27, 3) := by decide +kernel
theorem dX2_count_7 : decode cX2_count 7 = .ok (.aload_n 0, 1) := by decide +kernel
theorem dX2_count_8 : decode cX2_count 8 = .ok (.getfield 9, 3) := by decide +kernel
theorem dX2_count_11 : decode cX2_count 11 = .ok (.aload_n 1, 1) := by decide +kernel
theorem dX2_count_12 : decode cX2_count 12 = .ok (.aload_n 0, 1) := by decide +kernel
theorem dX2_count_13 : decode cX2_count 13 = .ok (.getfield 9, 3) := by decide +kernel
theorem dX2_count_16 : decode cX2_count 16 = .ok (.if_acmp .ne 7, 3) := by decide +kernel
theorem dX2_count_19 : decode cX2_count 19 = .ok (.iconst 1, 1) := by decide +kernel
theorem dX2_count_20 : decode cX2_count 20 = .ok (.goto 4, 3) := by decide +kernel
theorem dX2_count_23 : decode cX2_count 23 = .ok (.iconst 0, 1) := by decide +kernel
theorem dX2_count_24 : decode cX2_count 24 = .ok (.iload_n 2, 1) := by decide +kernel
theorem dX2_count_25 : decode cX2_count 25 = .ok (.iload_n 3, 1) := by decide +kernel
theorem dX2_count_26 : decode cX2_count 26 = .ok (.iload 4, 2) := by decide +kernel
theorem dX2_count_28 : decode cX2_count 28 = .ok (.invokevirtual 25, 3) := by decide +kernel
theorem dX2_count_31 : decode cX2_count 31 = .ok (.return_, 1) := by decide +kernel
set_option maxRecDepth 20000 in
theorem ggX3_init_Jx4a65c_init_da8c8 : GoodIn wsX3_init wsJx4a65c_init_da8c8 := goodIn_r _ [18, 19, 20, 21, 22, 23, 24, 25, 26, 27, 28, 29, 30, 2, 3, 31, 32, 33] (by decide +kernel) (by decide +kernel)
set_option maxRecDepth 20000 in
theorem gX3_init_Jx4a65c_init_da8c8 : GoodIn wsX3_init (wsJx4a65c_init_da8c8) := ggX3_init_Jx4a65c_init_da8c8
theorem dX3_init_0 : decode cX3_init 0 = .ok (.aload_n 0, 1) := by decide +kernel
theorem dX3_init_1 : decode cX3_init 1 = .ok (.invokespecial 3, 3) := by decide +kernel
theorem dX3_init_4 : decode cX3_init 4 = .ok (.aload_n 0, 1) := by decide +kernel
theorem dX3_init_5 : decode cX3_init 5 = .ok (.new 9, 3) := by decide +kernel
theorem dX3_init_8 : decode cX3_init 8 = .ok (.dup, 1) := by decide +kernel
theorem dX3_init_9 : decode cX3_init 9 = .ok (.invokespecial 11, 3) := by decide +kernel
theorem dX3_init_12 : decode cX3_init 12 = .ok (.putfield 12, 3) := by decide +kernel
theorem dX3_init_15 : decode cX3_init 15 = .ok (.aload_n 0, 1) := by decide +kernel
theorem dX3_init_16 : decode cX3_init 16 = .ok (.new 9, 3) := by decide +kernel
theorem dX3_init_19 : decode cX3_init 19 = .ok (.dup, 1) := by decide +kernel
theorem dX3_init_20 : decode cX3_init 20 = .ok (.invokespecial 11, 3) := by decide +kernel
theorem dX3_init_23 : decode cX3_init 23 = .ok (.putfield 16, 3) := by decide +kernel
theorem dX3_init_26 : decode cX3_init 26 = .ok (.aload_n 0, 1) := by decide +kernel
theorem dX3_init_27 : decode cX3_init 27 = .ok (.iconst 3, 1) := by decide +kernel
theorem dX3_init_28 : decode cX3_init 28 = .ok (.anewarray 19, 3) := by decide +kernel
theorem dX3_init_31 : decode cX3_init 31 = .ok (.putfield 21, 3) := by decide +kernel
theorem dX3_init_34 : decode cX3_init 34 = .ok (.aload_n 0, 1) := by decide +kernel
theorem dX3_init_35 : decode cX3_init 35 = .ok (.iconst 4, 1) := by decide +kernel
theorem dX3_init_36 : decode cX3_init 36 = .ok (.newarray .int, 2) := by decide +kernel
theorem dX3_init_38 : decode cX3_init 38 = .ok (.putfield 25, 3) := by decide +kernel
theorem dX3_init_41 : decode cX3_init 41 = .ok (.aload_n 0, 1) := by decide +kernel
theorem dX3_init_42 : decode cX3_init 42 = .ok (.bipush 16, 2) := by decide +kernel
theorem dX3_init_44 : decode cX3_init 44 = .ok (.anewarray 29, 3) := by decide +kernel
theorem dX3_init_47 : decode cX3_init 47 = .ok (.putfield 31, 3) := by decide +kernel
theorem dX3_init_50 : decode cX3_init 50 = .ok (.aload_n 0, 1) := by decide +kernel
theorem dX3_init_51 : decode cX3_init 51 = .ok (.bipush 16, 2) := by decide +kernel
theorem dX3_init_53 : decode cX3_init 53 = .ok (.newarray .int, 2) := by decide +kernel
theorem dX3_init_55 : decode cX3_init 55 = .ok (.putfield 35, 3) := by decide +kernel
theorem dX3_init_58 : decode cX3_init 58 = .ok (.return_, 1) := by decide +kernel
set_option maxRecDepth 20000 in
theorem ggX3_fencer_X3_isIn : GoodIn wsX3_fencer wsX3_isIn := goodIn_r _ [13] (by decide +kernel) (by decide +kernel)
set_option maxRecDepth 20000 in
theorem gX3_fencer_X3_isIn : GoodIn wsX3_fencer (va_wsS RX3 38 yX3_isIn wsX3_isIn) := goodIn_app (goodIn_of _ (by decide +kernel)) ggX3_fencer_X3_isIn
set_option maxRecDepth 20000 in
theorem ggX3_fencer_Jx4a65c_size_8abf5 : GoodIn wsX3_fencer wsJx4a65c_size_8abf5 := goodIn_r _ [18, 19, 111, 112, 113] (by decide +kernel) (by decide +kernel)
set_option maxRecDepth 20000 in
theorem gX3_fencer_Jx4a65c_size_8abf5 : GoodIn wsX3_fencer (wsV RX3 49 RJx4a65c yJx4a65c_size_8abf5 wsJx4a65c_size_8abf5) := goodIn_app (goodIn_of _ (by decide +kernel)) ggX3_fencer_Jx4a65c_size_8abf5
set_option maxRecDepth 20000 in
theorem ggX3_fencer_X1_init : GoodIn wsX3_fencer wsX1_init := goodIn_r _ [22, 23, 24, 25, 26, 27, 28, 29, 30, 31, 32, 97, 98, 99, 100, 101, 102, 103, 104, 105, 106, 107, 108, 109, 110] (by decide +kernel) (by decide +kernel)
set_option maxRecDepth 20000 in
theorem gX3_fencer_X1_init : GoodIn wsX3_fencer (wsX1_init) := ggX3_fencer_X1_init
set_option maxRecDepth 20000 in
theorem ggX3_fencer_Jx4a65c_add_9ea2d : GoodIn wsX3_fencer wsJx4a65c_add_9ea2d := goodIn_r _ [36, 37, 38, 39, 19, 40, 41, 42, 17, 43, 44, 45, 46, 47, 48, 49, 50, 51, 52, 53, 54, 55, 56, 57, 58, 59, 60, 61, 62, 63, 64, 65, 66, 67, 68, 69, 70, 71, 72, 73, 74, 75, 76, 77, 78, 79, 80, 81, 82, 83, 84, 85, 86, 111, 112, 113] (by decide +kernel) (by decide +kernel)
set_option maxRecDepth 20000 in
theorem gX3_fencer_Jx4a65c_add_9ea2d : GoodIn wsX3_fencer (wsV RX3 65 RJx4a65c yJx4a65c_add_9ea2d wsJx4a65c_add_9ea2d) := goodIn_app (goodIn_of _ (by decide +kernel)) ggX3_fencer_Jx4a65c_add_9ea2d
theorem dX3_fencer_0 : decode cX3_fencer 0 = .ok (.iload_n 1, 1) := by decide +kernel
theorem dX3_fencer_1 : decode cX3_fencer 1 = .ok (.iconst 0, 1) := by decide +kernel
theorem dX3_fencer_2 : decode cX3_fencer 2 = .ok (.bipush 99, 2) := by decide +kernel
theorem dX3_fencer_4 : decode cX3_fencer 4 = .ok (.invokestatic 38, 3) := by decide +kernel
theorem dX3_fencer_7 : decode cX3_fencer 7 = .ok (.ifCond .eq 12, 3) := by decide +kernel
theorem dX3_fencer_10 : decode cX3_fencer 10 = .ok (.iload_n 2, 1) := by decide +kernel
theorem dX3_fencer_11 : decode cX3_fencer 11 = .ok (.iconst 0, 1) := by decide +kernel
theorem dX3_fencer_12 : decode cX3_fencer 12 = .ok (.iconst 5, 1) := by decide +kernel
theorem dX3_fencer_13 : decode cX3_fencer 13 = .ok (.invokestatic 38, 3) := by decide +kernel
theorem dX3_fencer_16 : decode cX3_fencer 16 = .ok (.ifCond .ne 13, 3) := by decide +kernel
theorem dX3_fencer_19 : decode cX3_fencer 19 = .ok (.new 42, 3) := by decide +kernel
theorem dX3_fencer_22 : decode cX3_fencer 22 = .ok (.dup, 1) := by decide +kernel
theorem dX3_fencer_23 : decode cX3_fencer 23 = .ok (.ldc 44, 2) := by decide +kernel
theorem dX3_fencer_25 : decode cX3_fencer 25 = .ok (.invokespecial 46, 3) := by decide +kernel
theorem dX3_fencer_28 : decode cX3_fencer 28 = .ok (.athrow, 1) := by decide +kernel
theorem dX3_fencer_29 : decode cX3_fencer 29 = .ok (.aload_n 0, 1) := by decide +kernel
theorem dX3_fencer_30 : decode cX3_fencer 30 = .ok (.getfield 12, 3) := by decide +kernel
theorem dX3_fencer_33 : decode cX3_fencer 33 = .ok (.invokevirtual 49, 3) := by decide +kernel
theorem dX3_fencer_36 : decode cX3_fencer 36 = .ok (.bipush 16, 2) := by decide +kernel
theorem dX3_fencer_38 : decode cX3_fencer 38 = .ok (.if_icmp .ge 10, 3) := by decide +kernel
theorem dX3_fencer_41 : decode cX3_fencer 41 = .ok (.aload_n 0, 1) := by decide +kernel
theorem dX3_fencer_42 : decode cX3_fencer 42 = .ok (.getfield 53, 3) := by decide +kernel
theorem dX3_fencer_45 : decode cX3_fencer 45 = .ok (.ifCond .le 13, 3) := by decide +kernel
theorem dX3_fencer_48 : decode cX3_fencer 48 = .ok (.new 57, 3) := by decide +kernel
theorem dX3_fencer_51 : decode cX3_fencer 51 = .ok (.dup, 1) := by decide +kernel
theorem dX3_fencer_52 : decode cX3_fencer 52 = .ok (.ldc 59, 2) := by decide +kernel
theorem dX3_fencer_54 : decode cX3_fencer 54 = .ok (.invokespecial 61, 3) := by decide +kernel
theorem dX3_fencer_57 : decode cX3_fencer 57 = .ok (.athrow, 1) := by decide +kernel
theorem dX3_fencer_58 : decode cX3_fencer 58 = .ok (.aload_n 0, 1) := by decide +kernel
theorem dX3_fencer_59 : decode cX3_fencer 59 = .ok (.getfield 12, 3) := by decide +kernel
theorem dX3_fencer_62 : decode cX3_fencer 62 = .ok (.new 29, 3) := by decide +kernel
theorem dX3_fencer_65 : decode cX3_fencer 65 = .ok (.dup, 1) := by decide +kernel
theorem dX3_fencer_66 : decode cX3_fencer 66 = .ok (.aload_n 0, 1) := by decide +kernel
theorem dX3_fencer_67 : decode cX3_fencer 67 = .ok (.getfield 12, 3) := by decide +kernel
theorem dX3_fencer_70 : decode cX3_fencer 70 = .ok (.invokevirtual 49, 3) := by decide +kernel
theorem dX3_fencer_73 : decode cX3_fencer 73 = .ok (.iload_n 1, 1) := by decide +kernel
theorem dX3_fencer_74 : decode cX3_fencer 74 = .ok (.iload_n 2, 1) := by decide +kernel
theorem dX3_fencer_75 : decode cX3_fencer 75 = .ok (.invokespecial 62, 3) := by decide +kernel
theorem dX3_fencer_78 : decode cX3_fencer 78 = .ok (.invokevirtual 65, 3) := by decide +kernel
theorem dX3_fencer_81 : decode cX3_fencer 81 = .ok (.pop, 1) := by decide +kernel
theorem dX3_fencer_82 : decode cX3_fencer 82 = .ok (.aload_n 0, 1) := by decide +kernel
theorem dX3_fencer_83 : decode cX3_fencer 83 = .ok (.getfield 12, 3) := by decide +kernel
theorem dX3_fencer_86 : decode cX3_fencer 86 = .ok (.invokevirtual 49, 3) := by decide +kernel
theorem dX3_fencer_89 : decode cX3_fencer 89 = .ok (.iconst 1, 1) := by decide +kernel
theorem dX3_fencer_90 : decode cX3_fencer 90 = .ok (.isub, 1) := by decide +kernel
theorem dX3_fencer_91 : decode cX3_fencer 91 = .ok (.ireturn, 1) := by decide +kernel
set_option maxRecDepth 20000 in
theorem ggX3_form_X3_isIn : GoodIn wsX3_form wsX3_isIn := goodIn_r _ [11] (by decide +kernel) (by decide +kernel)
set_option maxRecDepth 20000 in
theorem gX3_form_X3_isIn : GoodIn wsX3_form (va_wsS RX3 38 yX3_isIn wsX3_isIn) := goodIn_app (goodIn_of _ (by decide +kernel)) ggX3_form_X3_isIn
set_option maxRecDepth 20000 in
theorem ggX3_form_Jx4a65c_size_8abf5 : GoodIn wsX3_form wsJx4a65c_size_8abf5 := goodIn_r _ [16, 17, 166, 167, 168] (by decide +kernel) (by decide +kernel)
set_option maxRecDepth 20000 in
theorem gX3_form_Jx4a65c_size_8abf5 : GoodIn wsX3_form (wsV RX3 49 RJx4a65c yJx4a65c_size_8abf5 wsJx4a65c_size_8abf5) := goodIn_app (goodIn_of _ (by decide +kernel)) ggX3_form_Jx4a65c_size_8abf5
set_option maxRecDepth 20000 in
theorem ggX3_form_X3_fencerInOrder : GoodIn wsX3_form wsX3_fencerInOrder := goodIn_r _ [21, 6, 22, 12, 13, 14, 15, 16, 17, 23, 24, 25, 26, 27, 28, 29, 30, 31, 32, 33, 34, 35, 36, 37, 38, 39, 40, 41, 42, 10, 43, 44, 45, 46, 47, 48, 49, 50, 51, 52, 53, 54, 55, 56, 57, 58, 59, 156, 157, 158, 159, 160, 161, 162, 163, 164, 165, 166, 167, 168, 169, 170, 171, 172, 173, 174, 175, 176, 177, 178, 179, 180, 181, 182] (by decide +kernel) (by decide +kernel)
set_option maxRecDepth 20000 in
theorem gX3_form_X3_fencerInOrder : GoodIn wsX3_form (wsV RX3 73 RX3 yX3_fencerInOrder wsX3_fencerInOrder) := goodIn_app (goodIn_of _ (by decide +kernel)) ggX3_form_X3_fencerInOrder
set_option maxRecDepth 20000 in
theorem ggX3_form_X3_putIntoPool : GoodIn wsX3_form wsX3_putIntoPool := goodIn_r _ [63, 64, 5, 65, 66, 67, 68, 69, 70, 10, 71, 72, 73, 74, 75, 6, 22, 12, 13, 14, 15, 16, 17, 23, 24, 25, 26, 27, 28, 29, 30, 31, 32, 33, 34, 35, 36, 37, 38, 39, 8, 9, 11, 169, 170, 171, 172, 173, 174, 175, 176, 177, 178, 179, 180, 181, 182, 156, 157, 158, 159, 160, 161, 162, 163, 164, 165, 166, 167, 168] (by decide +kernel) (by decide +kernel)
set_option maxRecDepth 20000 in
theorem gX3_form_X3_putIntoPool : GoodIn wsX3_form (wsV RX3 77 RX3 yX3_putIntoPool wsX3_putIntoPool) := goodIn_app (goodIn_of _ (by decide +kernel)) ggX3_form_X3_putIntoPool
set_option maxRecDepth 20000 in
theorem ggX3_form_X3_addPoolBouts : GoodIn wsX3_form wsX3_addPoolBouts := goodIn_r _ [79, 66, 7, 80, 81, 82, 83, 84, 85, 10, 86, 6, 22, 65, 67, 12, 13, 14, 15, 16, 17, 23, 24, 25, 26, 27, 28, 29, 30, 31, 32, 33, 34, 35, 36, 37, 38, 39, 87, 88, 89, 90, 91, 92, 93, 94, 95, 96, 97, 98, 99, 100, 101, 102, 103, 104, 105, 106, 107, 108, 109, 110, 111, 112, 113, 114, 115, 116, 117, 118, 119, 120, 121, 122, 123, 124, 125, 53, 54, 55, 126, 127, 128, 129, 130, 131, 132, 133, 134, 135, 136, 137, 138, 139, 140, 141, 142, 143, 144, 145, 146, 147, 148, 149, 150, 151, 152, 153, 154, 155, 156, 157, 158, 159, 160, 161, 162, 163, 164, 165, 183, 184, 185, 186, 187, 188, 189, 190, 191, 169, 170, 171, 172, 173, 174, 175, 176, 177, 178, 179, 180, 181, 182, 166, 167, 168, 192, 193, 194] (by decide +kernel) (by decide +kernel)
set_option maxRecDepth 20000 in
theorem gX3_form_X3_addPoolBouts : GoodIn wsX3_form (wsV RX3 81 RX3 yX3_addPoolBouts wsX3_addPoolBouts) := goodIn_app (goodIn_of _ (by decide +kernel)) ggX3_form_X3_addPoolBouts
theorem dX3_form_0 : decode cX3_form 0 = .ok (.iload_n 1, 1) := by decide +kernel
theorem dX3_form_1 : decode cX3_form 1 = .ok (.iconst 1, 1) := by decide +kernel
theorem dX3_form_2 : decode cX3_form 2 = .ok (.iconst 4, 1) := by decide +kernel
theorem dX3_form_3 : decode cX3_form 3 = .ok (.invokestatic 38, 3) := by decide +kernel
theorem dX3_form_6 : decode cX3_form 6 = .ok (.ifCond .ne 13, 3) := by decide +kernel
theorem dX3_form_9 : decode cX3_form 9 = .ok (.new 42, 3) := by decide +kernel
theorem dX3_form_12 : decode cX3_form 12 = .ok (.dup, 1) := by decide +kernel
theorem dX3_form_13 : decode cX3_form 13 = .ok (.ldc 69, 2) := by decide +kernel
theorem dX3_form_15 : decode cX3_form 15 = .ok (.invokespecial 46, 3) := by decide +kernel
theorem dX3_form_18 : decode cX3_form 18 = .ok (.athrow, 1) := by decide +kernel
theorem dX3_form_19 : decode cX3_form 19 = .ok (.aload_n 0, 1) := by decide +kernel
theorem dX3_form_20 : decode cX3_form 20 = .ok (.getfield 53, 3) := by decide +kernel
theorem dX3_form_23 : decode cX3_form 23 = .ok (.ifCond .gt 16, 3) := by decide +kernel
theorem dX3_form_26 : decode cX3_form 26 = .ok (.aload_n 0, 1) := by decide +kernel
theorem dX3_form_27 : decode cX3_form 27 = .ok (.getfield 12, 3) := by decide +kernel
theorem dX3_form_30 : decode cX3_form 30 = .ok (.invokevirtual 49, 3) := by decide +kernel
theorem dX3_form_33 : decode cX3_form 33 = .ok (.iconst 3, 1) := by decide +kernel
theorem dX3_form_34 : decode cX3_form 34 = .ok (.iload_n 1, 1) := by decide +kernel
theorem dX3_form_35 : decode cX3_form 35 = .ok (.imul, 1) := by decide +kernel
theorem dX3_form_36 : decode cX3_form 36 = .ok (.if_icmp .ge 13, 3) := by decide +kernel
theorem dX3_form_39 : decode cX3_form 39 = .ok (.new 57, 3) := by decide +kernel
theorem dX3_form_42 : decode cX3_form 42 = .ok (.dup, 1) := by decide +kernel
theorem dX3_form_43 : decode cX3_form 43 = .ok (.ldc 71, 2) := by decide +kernel
theorem dX3_form_45 : decode cX3_form 45 = .ok (.invokespecial 61, 3) := by decide +kernel
theorem dX3_form_48 : decode cX3_form 48 = .ok (.athrow, 1) := by decide +kernel
theorem dX3_form_49 : decode cX3_form 49 = .ok (.aload_n 0, 1) := by decide +kernel
theorem dX3_form_50 : decode cX3_form 50 = .ok (.iload_n 1, 1) := by decide +kernel
theorem dX3_form_51 : decode cX3_form 51 = .ok (.putfield 53, 3) := by decide +kernel
theorem dX3_form_54 : decode cX3_form 54 = .ok (.iconst 0, 1) := by decide +kernel
theorem dX3_form_55 : decode cX3_form 55 = .ok (.istore_n 2, 1) := by decide +kernel
theorem dX3_form_56 : decode cX3_form 56 = .ok (.iload_n 2, 1) := by decide +kernel
theorem dX3_form_57 : decode cX3_form 57 = .ok (.aload_n 0, 1) := by decide +kernel
theorem dX3_form_58 : decode cX3_form 58 = .ok (.getfield 12, 3) := by decide +kernel
theorem dX3_form_61 : decode cX3_form 61 = .ok (.invokevirtual 49, 3) := by decide +kernel
theorem dX3_form_64 : decode cX3_form 64 = .ok (.if_icmp .ge 21, 3) := by decide +kernel
theorem dX3_form_67 : decode cX3_form 67 = .ok (.aload_n 0, 1) := by decide +kernel
theorem dX3_form_68 : decode cX3_form 68 = .ok (.aload_n 0, 1) := by decide +kernel
theorem dX3_form_69 : decode cX3_form 69 = .ok (.iload_n 2, 1) := by decide +kernel
theorem dX3_form_70 : decode cX3_form 70 = .ok (.invokevirtual 73, 3) := by decide +kernel
theorem dX3_form_73 : decode cX3_form 73 = .ok (.iload_n 2, 1) := by decide +kernel
theorem dX3_form_74 : decode cX3_form 74 = .ok (.iload_n 1, 1) := by decide +kernel
theorem dX3_form_75 : decode cX3_form 75 = .ok (.idiv, 1) := by decide +kernel
theorem dX3_form_76 : decode cX3_form 76 = .ok (.invokevirtual 77, 3) := by decide +kernel
theorem dX3_form_79 : decode cX3_form 79 = .ok (.iinc 2 1, 3) := by decide +kernel
theorem dX3_form_82 : decode cX3_form 82 = .ok (.goto (-26), 3) := by decide +kernel
theorem dX3_form_85 : decode cX3_form 85 = .ok (.iconst 0, 1) := by decide +kernel
theorem dX3_form_86 : decode cX3_form 86 = .ok (.istore_n 2, 1) := by decide +kernel
theorem dX3_form_87 : decode cX3_form 87 = .ok (.iload_n 2, 1) := by decide +kernel
theorem dX3_form_88 : decode cX3_form 88 = .ok (.iload_n 1, 1) := by decide +kernel
theorem dX3_form_89 : decode cX3_form 89 = .ok (.if_icmp .ge 14, 3) := by decide +kernel
theorem dX3_form_92 : decode cX3_form 92 = .ok (.aload_n 0, 1) := by decide +kernel
theorem dX3_form_93 : decode cX3_form 93 = .ok (.iload_n 2, 1) := by decide +kernel
theorem dX3_form_94 : decode cX3_form 94 = .ok (.invokevirtual 81, 3) := by decide +kernel
theorem dX3_form_97 : decode cX3_form 97 = .ok (.iinc 2 1, 3) := by decide +kernel
theorem dX3_form_100 : decode cX3_form 100 = .ok (.goto (-13), 3) := by decide +kernel
theorem dX3_form_103 : decode cX3_form 103 = .ok (.aload_n 0, 1) := by decide +kernel
theorem dX3_form_104 : decode cX3_form 104 = .ok (.getfield 16, 3) := by decide +kernel
theorem dX3_form_107 : decode cX3_form 107 = .ok (.invokevirtual 49, 3) := by decide +kernel
theorem dX3_form_110 : decode cX3_form 110 = .ok (.ireturn, 1) := by decide +kernel
set_option maxRecDepth 20000 in
theorem ggX3_of_X3_fencerAt : GoodIn wsX3_of wsX3_fencerAt := goodIn_ca (goodIn_r _ [15, 16, 17, 18, 19, 20, 21, 22, 23, 24, 25, 26, 27, 14, 28, 29, 30, 31, 32, 33, 34, 35, 36, 37, 38, 39, 40, 41, 42, 43, 44, 45, 69, 70, 71, 72, 73, 74, 75, 76, 77, 78, 79, 80, 81] (by decide +kernel) (by decide +kernel)) (goodIn_sub (fun _ h => List.mem_cons_of_mem _ (List.mem_append_right _ h)) (by decide +kernel))
set_option maxRecDepth 20000 in
theorem gX3_of_X3_fencerAt : GoodIn wsX3_of (wsV RX3 85 RX3 yX3_fencerAt wsX3_fencerAt) := goodIn_app (goodIn_of _ (by decide +kernel)) ggX3_of_X3_fencerAt
theorem dX3_of_0 : decode cX3_of 0 = .ok (.aload_n 0, 1) := by decide +kernel
theorem dX3_of_1 : decode cX3_of 1 = .ok (.iload_n 1, 1) := by decide +kernel
theorem dX3_of_2 : decode cX3_of 2 = .ok (.invokevirtual 85, 3) := by decide +kernel
theorem dX3_of_5 : decode cX3_of 5 = .ok (.astore_n 3, 1) := by decide +kernel
theorem dX3_of_6 : decode cX3_of 6 = .ok (.iload_n 2, 1) := by decide +kernel
theorem dX3_of_7 : decode cX3_of 7 = .ok (.tableswitch 98 0 6 #[41, 46, 51, 56, 61, 74, 93], 41) := by decide +kernel
theorem dX3_of_48 : decode cX3_of 48 = .ok (.aload_n 3, 1) := by decide +kernel
theorem dX3_of_49 : decode cX3_of 49 = .ok (.getfield 88, 3) := by decide +kernel
theorem dX3_of_52 : decode cX3_of 52 = .ok (.ireturn, 1) := by decide +kernel
theorem dX3_of_53 : decode cX3_of 53 = .ok (.aload_n 3, 1) := by decide +kernel
theorem dX3_of_54 : decode cX3_of 54 = .ok (.getfield 91, 3) := by decide +kernel
theorem dX3_of_57 : decode cX3_of 57 = .ok (.ireturn, 1) := by decide +kernel
theorem dX3_of_58 : decode cX3_of 58 = .ok (.aload_n 3, 1) := by decide +kernel
theorem dX3_of_59 : decode cX3_of 59 = .ok (.getfield 94, 3) := by decide +kernel
theorem dX3_of_62 : decode cX3_of 62 = .ok (.ireturn, 1) := by decide +kernel
theorem dX3_of_63 : decode cX3_of 63 = .ok (.aload_n 3, 1) := by decide +kernel
theorem dX3_of_64 : decode cX3_of 64 = .ok (.getfield 97, 3) := by decide +kernel
theorem dX3_of_67 : decode cX3_of 67 = .ok (.ireturn, 1) := by decide +kernel
theorem dX3_of_68 : decode cX3_of 68 = .ok (.aload_n 3, 1) := by decide +kernel
theorem dX3_of_69 : decode cX3_of 69 = .ok (.getfield 100, 3) := by decide +kernel
theorem dX3_of_72 : decode cX3_of 72 = .ok (.ifCond .eq 7, 3) := by decide +kernel
theorem dX3_of_75 : decode cX3_of 75 = .ok (.iconst 1, 1) := by decide +kernel
theorem dX3_of_76 : decode cX3_of 76 = .ok (.goto 4, 3) := by decide +kernel
theorem dX3_of_79 : decode cX3_of 79 = .ok (.iconst 0, 1) := by decide +kernel
theorem dX3_of_80 : decode cX3_of 80 = .ok (.ireturn, 1) := by decide +kernel
theorem dX3_of_81 : decode cX3_of 81 = .ok (.aload_n 3, 1) := by decide +kernel
theorem dX3_of_82 : decode cX3_of 82 = .ok (.getfield 104, 3) := by decide +kernel
theorem dX3_of_85 : decode cX3_of 85 = .ok (.ifnonnull 7, 3) := by decide +kernel
theorem dX3_of_88 : decode cX3_of 88 = .ok (.iconst (-1), 1) := by decide +kernel
theorem dX3_of_89 : decode cX3_of 89 = .ok (.goto 10, 3) := by decide +kernel
theorem dX3_of_92 : decode cX3_of 92 = .ok (.aload_n 3, 1) := by decide +kernel
theorem dX3_of_93 : decode cX3_of 93 = .ok (.getfield 104, 3) := by decide +kernel
theorem dX3_of_96 : decode cX3_of 96 = .ok (.getfield 108, 3) := by decide +kernel
theorem dX3_of_99 : decode cX3_of 99 = .ok (.ireturn, 1) := by decide +kernel
theorem dX3_of_100 : decode cX3_of 100 = .ok (.aload_n 3, 1) := by decide +kernel
theorem dX3_of_101 : decode cX3_of 101 = .ok (.getfield 111, 3) := by decide +kernel
theorem dX3_of_104 : decode cX3_of 104 = .ok (.ireturn, 1) := by decide +kernel
theorem dX3_of_105 : decode cX3_of 105 = .ok (.new 42, 3) := by decide +kernel
theorem dX3_of_108 : decode cX3_of 108 = .ok (.dup, 1) := by decide +kernel
theorem dX3_of_109 : decode cX3_of 109 = .ok (.ldc 114, 2) := by decide +kernel
theorem dX3_of_111 : decode cX3_of 111 = .ok (.invokespecial 46, 3) := by decide +kernel
theorem dX3_of_114 : decode cX3_of 114 = .ok (.athrow, 1) := by decide +kernel
set_option maxRecDepth 20000 in
theorem ggX3_putIntoPool_X3_poolInRow : GoodIn wsX3_putIntoPool wsX3_poolInRow := goodIn_r _ [10, 2, 4, 11, 12, 13, 9, 14, 15, 16, 3, 1, 17, 18, 19, 20, 21, 22, 23, 24, 25, 26, 27, 28, 29, 30, 31, 32, 33, 34, 35, 36, 37, 38, 39, 57, 58, 59, 60, 61, 62, 63, 64, 65, 66, 43, 44, 45, 46, 47, 48, 49, 50, 51, 52, 53, 54, 55, 56, 67, 68, 69] (by decide +kernel) (by decide +kernel)
set_option maxRecDepth 20000 in
theorem gX3_putIntoPool_X3_poolInRow : GoodIn wsX3_putIntoPool (wsV RX3 116 RX3 yX3_poolInRow wsX3_poolInRow) := goodIn_app (goodIn_of _ (by decide +kernel)) ggX3_putIntoPool_X3_poolInRow
set_option maxRecDepth 20000 in
theorem ggX3_putIntoPool_X3_isIn : GoodIn wsX3_putIntoPool wsX3_isIn := goodIn_r _ [42] (by decide +kernel) (by decide +kernel)
set_option maxRecDepth 20000 in
theorem gX3_putIntoPool_X3_isIn : GoodIn wsX3_putIntoPool (va_wsS RX3 38 yX3_isIn wsX3_isIn) := goodIn_app (goodIn_of _ (by decide +kernel)) ggX3_putIntoPool_X3_isIn
theorem dX3_putIntoPool_0 : decode cX3_putIntoPool 0 = .ok (.aload_n 1, 1) := by decide +kernel
theorem dX3_putIntoPool_1 : decode cX3_putIntoPool 1 = .ok (.ifnonnull 7, 3) := by decide +kernel
theorem dX3_putIntoPool_4 : decode cX3_putIntoPool 4 = .ok (.iconst (-1), 1) := by decide +kernel
theorem dX3_putIntoPool_5 : decode cX3_putIntoPool 5 = .ok (.goto 12, 3) := by decide +kernel
theorem dX3_putIntoPool_8 : decode cX3_putIntoPool 8 = .ok (.aload_n 0, 1) := by decide +kernel
theorem dX3_putIntoPool_9 : decode cX3_putIntoPool 9 = .ok (.iload_n 2, 1) := by decide +kernel
theorem dX3_putIntoPool_10 : decode cX3_putIntoPool 10 = .ok (.aload_n 1, 1) := by decide +kernel
theorem dX3_putIntoPool_11 : decode cX3_putIntoPool 11 = .ok (.getfield 91, 3) := by decide +kernel
theorem dX3_putIntoPool_14 : decode cX3_putIntoPool 14 = .ok (.invokevirtual 116, 3) := by decide +kernel
theorem dX3_putIntoPool_17 : decode cX3_putIntoPool 17 = .ok (.istore_n 3, 1) := by decide +kernel
theorem dX3_putIntoPool_18 : decode cX3_putIntoPool 18 = .ok (.iload_n 3, 1) := by decide +kernel
theorem dX3_putIntoPool_19 : decode cX3_putIntoPool 19 = .ok (.iconst 0, 1) := by decide +kernel
theorem dX3_putIntoPool_20 : decode cX3_putIntoPool 20 = .ok (.aload_n 0, 1) := by decide +kernel
theorem dX3_putIntoPool_21 : decode cX3_putIntoPool 21 = .ok (.getfield 53, 3) := by decide +kernel
theorem dX3_putIntoPool_24 : decode cX3_putIntoPool 24 = .ok (.iconst 1, 1) := by decide +kernel
theorem dX3_putIntoPool_25 : decode cX3_putIntoPool 25 = .ok (.isub, 1) := by decide +kernel
theorem dX3_putIntoPool_26 : decode cX3_putIntoPool 26 = .ok (.invokestatic 38, 3) := by decide +kernel
theorem dX3_putIntoPool_29 : decode cX3_putIntoPool 29 = .ok (.ifCond .eq 28, 3) := by decide +kernel
theorem dX3_putIntoPool_32 : decode cX3_putIntoPool 32 = .ok (.aload_n 1, 1) := by decide +kernel
theorem dX3_putIntoPool_33 : decode cX3_putIntoPool 33 = .ok (.iload_n 3, 1) := by decide +kernel
theorem dX3_putIntoPool_34 : decode cX3_putIntoPool 34 = .ok (.putfield 94, 3) := by decide +kernel
theorem dX3_putIntoPool_37 : decode cX3_putIntoPool 37 = .ok (.aload_n 1, 1) := by decide +kernel
theorem dX3_putIntoPool_38 : decode cX3_putIntoPool 38 = .ok (.aload_n 0, 1) := by decide +kernel
theorem dX3_putIntoPool_39 : decode cX3_putIntoPool 39 = .ok (.getfield 25, 3) := by decide +kernel
theorem dX3_putIntoPool_42 : decode cX3_putIntoPool 42 = .ok (.iload_n 3, 1) := by decide +kernel
theorem dX3_putIntoPool_43 : decode cX3_putIntoPool 43 = .ok (.iaload, 1) := by decide +kernel
theorem dX3_putIntoPool_44 : decode cX3_putIntoPool 44 = .ok (.putfield 97, 3) := by decide +kernel
theorem dX3_putIntoPool_47 : decode cX3_putIntoPool 47 = .ok (.aload_n 0, 1) := by decide +kernel
theorem dX3_putIntoPool_48 : decode cX3_putIntoPool 48 = .ok (.getfield 25, 3) := by decide +kernel
theorem dX3_putIntoPool_51 : decode cX3_putIntoPool 51 = .ok (.iload_n 3, 1) := by decide +kernel
theorem dX3_putIntoPool_52 : decode cX3_putIntoPool 52 = .ok (.dup2, 1) := by decide +kernel
theorem dX3_putIntoPool_53 : decode cX3_putIntoPool 53 = .ok (.iaload, 1) := by decide +kernel
theorem dX3_putIntoPool_54 : decode cX3_putIntoPool 54 = .ok (.iconst 1, 1) := by decide +kernel
theorem dX3_putIntoPool_55 : decode cX3_putIntoPool 55 = .ok (.iadd, 1) := by decide +kernel
theorem dX3_putIntoPool_56 : decode cX3_putIntoPool 56 = .ok (.iastore, 1) := by decide +kernel
theorem dX3_putIntoPool_57 : decode cX3_putIntoPool 57 = .ok (.return_, 1) := by decide +kernel
set_option maxRecDepth 20000 in
theorem ggX3_poolInRow_X3_hasClub : GoodIn wsX3_poolInRow wsX3_hasClub := goodIn_r _ [7, 8, 9, 10, 11, 12, 13, 14, 15, 16, 17, 18, 19, 20, 21, 22, 23, 24, 25, 26, 27, 28, 29, 30, 31, 32, 33, 34, 35, 36, 37, 38, 39, 40, 41, 42, 43, 44, 45, 46, 47, 48, 49, 50, 51, 52, 53, 54, 55, 56, 57, 58, 59, 60, 61] (by decide +kernel) (by decide +kernel)
set_option maxRecDepth 20000 in
theorem gX3_poolInRow_X3_hasClub : GoodIn wsX3_poolInRow (wsV RX3 120 RX3 yX3_hasClub wsX3_hasClub) := goodIn_app (goodIn_of _ (by decide +kernel)) ggX3_poolInRow_X3_hasClub
theorem dX3_poolInRow_0 : decode cX3_poolInRow 0 = .ok (.iconst (-1), 1) := by decide +kernel
theorem dX3_poolInRow_1 : decode cX3_poolInRow 1 = .ok (.istore_n 3, 1) := by decide +kernel
theorem dX3_poolInRow_2 : decode cX3_poolInRow 2 = .ok (.iconst 0, 1) := by decide +kernel
theorem dX3_poolInRow_3 : decode cX3_poolInRow 3 = .ok (.istore 4, 2) := by decide +kernel
theorem dX3_poolInRow_5 : decode cX3_poolInRow 5 = .ok (.iload 4, 2) := by decide +kernel
theorem dX3_poolInRow_7 : decode cX3_poolInRow 7 = .ok (.aload_n 0, 1) := by decide +kernel
theorem dX3_poolInRow_8 : decode cX3_poolInRow 8 = .ok (.getfield 53, 3) := by decide +kernel
theorem dX3_poolInRow_11 : decode cX3_poolInRow 11 = .ok (.if_icmp .ge 66, 3) := by decide +kernel
theorem dX3_poolInRow_14 : decode cX3_poolInRow 14 = .ok (.iload_n 1, 1) := by decide +kernel
theorem dX3_poolInRow_15 : decode cX3_poolInRow 15 = .ok (.iconst 2, 1) := by decide +kernel
theorem dX3_poolInRow_16 : decode cX3_poolInRow 16 = .ok (.irem, 1) := by decide +kernel
theorem dX3_poolInRow_17 : decode cX3_poolInRow 17 = .ok (.ifCond .ne 8, 3) := by decide +kernel
theorem dX3_poolInRow_20 : decode cX3_poolInRow 20 = .ok (.iload 4, 2) := by decide +kernel
theorem dX3_poolInRow_22 : decode cX3_poolInRow 22 = .ok (.goto 12, 3) := by decide +kernel
theorem dX3_poolInRow_25 : decode cX3_poolInRow 25 = .ok (.aload_n 0, 1) := by decide +kernel
theorem dX3_poolInRow_26 : decode cX3_poolInRow 26 = .ok (.getfield 53, 3) := by decide +kernel
theorem dX3_poolInRow_29 : decode cX3_poolInRow 29 = .ok (.iconst 1, 1) := by decide +kernel
theorem dX3_poolInRow_30 : decode cX3_poolInRow 30 = .ok (.isub, 1) := by decide +kernel
theorem dX3_poolInRow_31 : decode cX3_poolInRow 31 = .ok (.iload 4, 2) := by decide +kernel
theorem dX3_poolInRow_33 : decode cX3_poolInRow 33 = .ok (.isub, 1) := by decide +kernel
theorem dX3_poolInRow_34 : decode cX3_poolInRow 34 = .ok (.istore 5, 2) := by decide +kernel
theorem dX3_poolInRow_36 : decode cX3_poolInRow 36 = .ok (.aload_n 0, 1) := by decide +kernel
theorem dX3_poolInRow_37 : decode cX3_poolInRow 37 = .ok (.getfield 25, 3) := by decide +kernel
theorem dX3_poolInRow_40 : decode cX3_poolInRow 40 = .ok (.iload 5, 2) := by decide +kernel
theorem dX3_poolInRow_42 : decode cX3_poolInRow 42 = .ok (.iaload, 1) := by decide +kernel
theorem dX3_poolInRow_43 : decode cX3_poolInRow 43 = .ok (.iload_n 1, 1) := by decide +kernel
theorem dX3_poolInRow_44 : decode cX3_poolInRow 44 = .ok (.if_icmp .le 6, 3) := by decide +kernel
theorem dX3_poolInRow_47 : decode cX3_poolInRow 47 = .ok (.goto 24, 3) := by decide +kernel
theorem dX3_poolInRow_50 : decode cX3_poolInRow 50 = .ok (.aload_n 0, 1) := by decide +kernel
theorem dX3_poolInRow_51 : decode cX3_poolInRow 51 = .ok (.iload 5, 2) := by decide +kernel
theorem dX3_poolInRow_53 : decode cX3_poolInRow 53 = .ok (.iload_n 2, 1) := by decide +kernel
theorem dX3_poolInRow_54 : decode cX3_poolInRow 54 = .ok (.invokevirtual 120, 3) := by decide +kernel
theorem dX3_poolInRow_57 : decode cX3_poolInRow 57 = .ok (.ifCond .ne 6, 3) := by decide +kernel
theorem dX3_poolInRow_60 : decode cX3_poolInRow 60 = .ok (.iload 5, 2) := by decide +kernel
theorem dX3_poolInRow_62 : decode cX3_poolInRow 62 = .ok (.ireturn, 1) := by decide +kernel
theorem dX3_poolInRow_63 : decode cX3_poolInRow 63 = .ok (.iload_n 3, 1) := by decide +kernel
theorem dX3_poolInRow_64 : decode cX3_poolInRow 64 = .ok (.iconst (-1), 1) := by decide +kernel
theorem dX3_poolInRow_65 : decode cX3_poolInRow 65 = .ok (.if_icmp .ne 6, 3) := by decide +kernel
theorem dX3_poolInRow_68 : decode cX3_poolInRow 68 = .ok (.iload 5, 2) := by decide +kernel
theorem dX3_poolInRow_70 : decode cX3_poolInRow 70 = .ok (.istore_n 3, 1) := by decide +kernel
theorem dX3_poolInRow_71 : decode cX3_poolInRow 71 = .ok (.iinc 4 1, 3) := by decide +kernel
theorem dX3_poolInRow_74 : decode cX3_poolInRow 74 = .ok (.goto (-69), 3) := by decide +kernel
theorem dX3_poolInRow_77 : decode cX3_poolInRow 77 = .ok (.iload_n 3, 1) := by decide +kernel
theorem dX3_poolInRow_78 : decode cX3_poolInRow 78 = .ok (.ireturn, 1) := by decide +kernel
set_option maxRecDepth 20000 in
theorem ggX3_hasClub_Jx4a65c_size_8abf5 : GoodIn wsX3_hasClub wsJx4a65c_size_8abf5 := goodIn_r _ [9, 10, 52, 53, 54] (by decide +kernel) (by decide +kernel)
set_option maxRecDepth 20000 in
theorem gX3_hasClub_Jx4a65c_size_8abf5 : GoodIn wsX3_hasClub (wsV RX3 49 RJx4a65c yJx4a65c_size_8abf5 wsJx4a65c_size_8abf5) := goodIn_app (goodIn_of _ (by decide +kernel)) ggX3_hasClub_Jx4a65c_size_8abf5
set_option maxRecDepth 20000 in
theorem ggX3_hasClub_Jx4a65c_get_915e3 : GoodIn wsX3_hasClub wsJx4a65c_get_915e3 := goodIn_r _ [14, 10, 15, 16, 17, 18, 19, 20, 21, 22, 23, 24, 25, 8, 26, 27, 52, 53, 54] (by decide +kernel) (by decide +kernel)
set_option maxRecDepth 20000 in
theorem gX3_hasClub_Jx4a65c_get_915e3 : GoodIn wsX3_hasClub (wsV RX3 124 RJx4a65c yJx4a65c_get_915e3 wsJx4a65c_get_915e3) := goodIn_app (goodIn_of _ (by decide +kernel)) ggX3_hasClub_Jx4a65c_get_915e3
theorem dX3_hasClub_0 : decode cX3_hasClub 0 = .ok (.iconst 0, 1) := by decide +kernel
theorem dX3_hasClub_1 : decode cX3_hasClub 1 = .ok (.istore_n 3, 1) := by decide +kernel
theorem dX3_hasClub_2 : decode cX3_hasClub 2 = .ok (.iload_n 3, 1) := by decide +kernel
theorem dX3_hasClub_3 : decode cX3_hasClub 3 = .ok (.aload_n 0, 1) := by decide +kernel
theorem dX3_hasClub_4 : decode cX3_hasClub 4 = .ok (.getfield 12, 3) := by decide +kernel
theorem dX3_hasClub_7 : decode cX3_hasClub 7 = .ok (.invokevirtual 49, 3) := by decide +kernel
theorem dX3_hasClub_10 : decode cX3_hasClub 10 = .ok (.if_icmp .ge 42, 3) := by decide +kernel
theorem dX3_hasClub_13 : decode cX3_hasClub 13 = .ok (.aload_n 0, 1) := by decide +kernel
theorem dX3_hasClub_14 : decode cX3_hasClub 14 = .ok (.getfield 12, 3) := by decide +kernel
theorem dX3_hasClub_17 : decode cX3_hasClub 17 = .ok (.iload_n 3, 1) := by decide +kernel
theorem dX3_hasClub_18 : decode cX3_hasClub 18 = .ok (.invokevirtual 124, 3) := by decide +kernel
theorem dX3_hasClub_21 : decode cX3_hasClub 21 = .ok (.checkcast 29, 3) := by decide +kernel
theorem dX3_hasClub_24 : decode cX3_hasClub 24 = .ok (.astore 4, 2) := by decide +kernel
theorem dX3_hasClub_26 : decode cX3_hasClub 26 = .ok (.aload 4, 2) := by decide +kernel
theorem dX3_hasClub_28 : decode cX3_hasClub 28 = .ok (.getfield 94, 3) := by decide +kernel
theorem dX3_hasClub_31 : decode cX3_hasClub 31 = .ok (.iload_n 1, 1) := by decide +kernel
theorem dX3_hasClub_32 : decode cX3_hasClub 32 = .ok (.if_icmp .ne 14, 3) := by decide +kernel
theorem dX3_hasClub_35 : decode cX3_hasClub 35 = .ok (.aload 4, 2) := by decide +kernel
theorem dX3_hasClub_37 : decode cX3_hasClub 37 = .ok (.getfield 91, 3) := by decide +kernel
theorem dX3_hasClub_40 : decode cX3_hasClub 40 = .ok (.iload_n 2, 1) := by decide +kernel
theorem dX3_hasClub_41 : decode cX3_hasClub 41 = .ok (.if_icmp .ne 5, 3) := by decide +kernel
theorem dX3_hasClub_44 : decode cX3_hasClub 44 = .ok (.iconst 1, 1) := by decide +kernel
theorem dX3_hasClub_45 : decode cX3_hasClub 45 = .ok (.ireturn, 1) := by decide +kernel
theorem dX3_hasClub_46 : decode cX3_hasClub 46 = .ok (.iinc 3 1, 3) := by decide +kernel
theorem dX3_hasClub_49 : decode cX3_hasClub 49 = .ok (.goto (-47), 3) := by decide +kernel
theorem dX3_hasClub_52 : decode cX3_hasClub 52 = .ok (.iconst 0, 1) := by decide +kernel
theorem dX3_hasClub_53 : decode cX3_hasClub 53 = .ok (.ireturn, 1) := by decide +kernel
set_option maxRecDepth 20000 in
theorem ggX3_addPoolBouts_X3_fencerOnSpot : GoodIn wsX3_addPoolBouts wsX3_fencerOnSpot := goodIn_r _ [10, 11, 12, 13, 14, 15, 16, 17, 18, 19, 20, 21, 22, 23, 24, 25, 26, 27, 28, 29, 30, 31, 32, 33, 34, 35, 36, 37, 110, 111, 112, 113, 114, 115, 116, 117, 118, 119, 129, 130, 131, 132, 133, 134, 135, 136, 137, 138, 139, 140, 141, 142, 143, 144, 145] (by decide +kernel) (by decide +kernel)
set_option maxRecDepth 20000 in
theorem gX3_addPoolBouts_X3_fencerOnSpot : GoodIn wsX3_addPoolBouts (wsV RX3 128 RX3 yX3_fencerOnSpot wsX3_fencerOnSpot) := goodIn_app (goodIn_of _ (by decide +kernel)) ggX3_addPoolBouts_X3_fencerOnSpot
set_option maxRecDepth 20000 in
theorem ggX3_addPoolBouts_Jx4a65c_size_8abf5 : GoodIn wsX3_addPoolBouts wsJx4a65c_size_8abf5 := goodIn_r _ [19, 20, 143, 144, 145] (by decide +kernel) (by decide +kernel)
set_option maxRecDepth 20000 in
theorem gX3_addPoolBouts_Jx4a65c_size_8abf5 : GoodIn wsX3_addPoolBouts (wsV RX3 49 RJx4a65c yJx4a65c_size_8abf5 wsJx4a65c_size_8abf5) := goodIn_app (goodIn_of _ (by decide +kernel)) ggX3_addPoolBouts_Jx4a65c_size_8abf5
set_option maxRecDepth 20000 in
theorem ggX3_addPoolBouts_X0_init : GoodIn wsX3_addPoolBouts wsX0_init := goodIn_r _ [40, 41, 42, 43, 44, 45, 46, 47, 48, 49, 50, 51, 52, 53, 54, 55, 56, 146, 147, 148, 120, 121, 122, 123, 124, 125, 126, 127, 128] (by decide +kernel) (by decide +kernel)
set_option maxRecDepth 20000 in
theorem gX3_addPoolBouts_X0_init : GoodIn wsX3_addPoolBouts (wsX0_init) := ggX3_addPoolBouts_X0_init
set_option maxRecDepth 20000 in
theorem ggX3_addPoolBouts_Jx4a65c_add_9ea2d : GoodIn wsX3_addPoolBouts wsJx4a65c_add_9ea2d := goodIn_r _ [60, 61, 62, 37, 20, 63, 64, 65, 18, 66, 67, 68, 69, 70, 71, 72, 73, 74, 75, 76, 77, 78, 79, 80, 81, 82, 83, 84, 85, 86, 87, 88, 89, 90, 91, 92, 93, 94, 95, 96, 97, 98, 99, 100, 101, 102, 103, 104, 105, 106, 107, 108, 109, 143, 144, 145] (by decide +kernel) (by decide +kernel)
set_option maxRecDepth 20000 in
theorem gX3_addPoolBouts_Jx4a65c_add_9ea2d : GoodIn wsX3_addPoolBouts (wsV RX3 65 RJx4a65c yJx4a65c_add_9ea2d wsJx4a65c_add_9ea2d) := goodIn_app (goodIn_of _ (by decide +kernel)) ggX3_addPoolBouts_Jx4a65c_add_9ea2d
theorem dX3_addPoolBouts_0 : decode cX3_addPoolBouts 0 = .ok (.aload_n 0, 1) := by decide +kernel
theorem dX3_addPoolBouts_1 : decode cX3_addPoolBouts 1 = .ok (.getfield 25, 3) := by decide +kernel
theorem dX3_addPoolBouts_4 : decode cX3_addPoolBouts 4 = .ok (.iload_n 1, 1) := by decide +kernel
theorem dX3_addPoolBouts_5 : decode cX3_addPoolBouts 5 = .ok (.iaload, 1) := by decide +kernel
theorem dX3_addPoolBouts_6 : decode cX3_addPoolBouts 6 = .ok (.istore_n 2, 1) := by decide +kernel
theorem dX3_addPoolBouts_7 : decode cX3_addPoolBouts 7 = .ok (.iconst 1, 1) := by decide +kernel
theorem dX3_addPoolBouts_8 : decode cX3_addPoolBouts 8 = .ok (.istore_n 3, 1) := by decide +kernel
theorem dX3_addPoolBouts_9 : decode cX3_addPoolBouts 9 = .ok (.iload_n 3, 1) := by decide +kernel
theorem dX3_addPoolBouts_10 : decode cX3_addPoolBouts 10 = .ok (.iconst 2, 1) := by decide +kernel
theorem dX3_addPoolBouts_11 : decode cX3_addPoolBouts 11 = .ok (.iload_n 2, 1) := by decide +kernel
theorem dX3_addPoolBouts_12 : decode cX3_addPoolBouts 12 = .ok (.imul, 1) := by decide +kernel
theorem dX3_addPoolBouts_13 : decode cX3_addPoolBouts 13 = .ok (.iconst 3, 1) := by decide +kernel
theorem dX3_addPoolBouts_14 : decode cX3_addPoolBouts 14 = .ok (.isub, 1) := by decide +kernel
theorem dX3_addPoolBouts_15 : decode cX3_addPoolBouts 15 = .ok (.if_icmp .gt 84, 3) := by decide +kernel
theorem dX3_addPoolBouts_18 : decode cX3_addPoolBouts 18 = .ok (.iconst 0, 1) := by decide +kernel
theorem dX3_addPoolBouts_19 : decode cX3_addPoolBouts 19 = .ok (.istore 4, 2) := by decide +kernel
theorem dX3_addPoolBouts_21 : decode cX3_addPoolBouts 21 = .ok (.iload 4, 2) := by decide +kernel
theorem dX3_addPoolBouts_23 : decode cX3_addPoolBouts 23 = .ok (.iload_n 3, 1) := by decide +kernel
theorem dX3_addPoolBouts_24 : decode cX3_addPoolBouts 24 = .ok (.iload 4, 2) := by decide +kernel
theorem dX3_addPoolBouts_26 : decode cX3_addPoolBouts 26 = .ok (.isub, 1) := by decide +kernel
theorem dX3_addPoolBouts_27 : decode cX3_addPoolBouts 27 = .ok (.if_icmp .ge 66, 3) := by decide +kernel
theorem dX3_addPoolBouts_30 : decode cX3_addPoolBouts 30 = .ok (.aload_n 0, 1) := by decide +kernel
theorem dX3_addPoolBouts_31 : decode cX3_addPoolBouts 31 = .ok (.iload_n 1, 1) := by decide +kernel
theorem dX3_addPoolBouts_32 : decode cX3_addPoolBouts 32 = .ok (.iload 4, 2) := by decide +kernel
theorem dX3_addPoolBouts_34 : decode cX3_addPoolBouts 34 = .ok (.invokevirtual 128, 3) := by decide +kernel
theorem dX3_addPoolBouts_37 : decode cX3_addPoolBouts 37 = .ok (.astore 5, 2) := by decide +kernel
theorem dX3_addPoolBouts_39 : decode cX3_addPoolBouts 39 = .ok (.aload_n 0, 1) := by decide +kernel
theorem dX3_addPoolBouts_40 : decode cX3_addPoolBouts 40 = .ok (.iload_n 1, 1) := by decide +kernel
theorem dX3_addPoolBouts_41 : decode cX3_addPoolBouts 41 = .ok (.iload_n 3, 1) := by decide +kernel
theorem dX3_addPoolBouts_42 : decode cX3_addPoolBouts 42 = .ok (.iload 4, 2) := by decide +kernel
theorem dX3_addPoolBouts_44 : decode cX3_addPoolBouts 44 = .ok (.isub, 1) := by decide +kernel
theorem dX3_addPoolBouts_45 : decode cX3_addPoolBouts 45 = .ok (.invokevirtual 128, 3) := by decide +kernel
theorem dX3_addPoolBouts_48 : decode cX3_addPoolBouts 48 = .ok (.astore 6, 2) := by decide +kernel
theorem dX3_addPoolBouts_50 : decode cX3_addPoolBouts 50 = .ok (.aload 5, 2) := by decide +kernel
theorem dX3_addPoolBouts_52 : decode cX3_addPoolBouts 52 = .ok (.ifnull 35, 3) := by decide +kernel
theorem dX3_addPoolBouts_55 : decode cX3_addPoolBouts 55 = .ok (.aload 6, 2) := by decide +kernel
theorem dX3_addPoolBouts_57 : decode cX3_addPoolBouts 57 = .ok (.ifnull 30, 3) := by decide +kernel
theorem dX3_addPoolBouts_60 : decode cX3_addPoolBouts 60 = .ok (.aload_n 0, 1) := by decide +kernel
theorem dX3_addPoolBouts_61 : decode cX3_addPoolBouts 61 = .ok (.getfield 16, 3) := by decide +kernel
theorem dX3_addPoolBouts_64 : decode cX3_addPoolBouts 64 = .ok (.new 19, 3) := by decide +kernel
theorem dX3_addPoolBouts_67 : decode cX3_addPoolBouts 67 = .ok (.dup, 1) := by decide +kernel
theorem dX3_addPoolBouts_68 : decode cX3_addPoolBouts 68 = .ok (.aload_n 0, 1) := by decide +kernel
theorem dX3_addPoolBouts_69 : decode cX3_addPoolBouts 69 = .ok (.getfield 16, 3) := by decide +kernel
theorem dX3_addPoolBouts_72 : decode cX3_addPoolBouts 72 = .ok (.invokevirtual 49, 3) := by decide +kernel
theorem dX3_addPoolBouts_75 : decode cX3_addPoolBouts 75 = .ok (.iconst (-1), 1) := by decide +kernel
theorem dX3_addPoolBouts_76 : decode cX3_addPoolBouts 76 = .ok (.aload 5, 2) := by decide +kernel
theorem dX3_addPoolBouts_78 : decode cX3_addPoolBouts 78 = .ok (.aload 6, 2) := by decide +kernel
theorem dX3_addPoolBouts_80 : decode cX3_addPoolBouts 80 = .ok (.invokespecial 132, 3) := by decide +kernel
theorem dX3_addPoolBouts_83 : decode cX3_addPoolBouts 83 = .ok (.invokevirtual 65, 3) := by decide +kernel
theorem dX3_addPoolBouts_86 : decode cX3_addPoolBouts 86 = .ok (.pop, 1) := by decide +kernel
theorem dX3_addPoolBouts_87 : decode cX3_addPoolBouts 87 = .ok (.iinc 4 1, 3) := by decide +kernel
theorem dX3_addPoolBouts_90 : decode cX3_addPoolBouts 90 = .ok (.goto (-69), 3) := by decide +kernel
theorem dX3_addPoolBouts_93 : decode cX3_addPoolBouts 93 = .ok (.iinc 3 1, 3) := by decide +kernel
theorem dX3_addPoolBouts_96 : decode cX3_addPoolBouts 96 = .ok (.goto (-87), 3) := by decide +kernel
theorem dX3_addPoolBouts_99 : decode cX3_addPoolBouts 99 = .ok (.return_, 1) := by decide +kernel
set_option maxRecDepth 20000 in
theorem ggX3_fencerOnSpot_Jx4a65c_size_8abf5 : GoodIn wsX3_fencerOnSpot wsJx4a65c_size_8abf5 := goodIn_r _ [9, 10, 52, 53, 54] (by decide +kernel) (by decide +kernel)
set_option maxRecDepth 20000 in
theorem gX3_fencerOnSpot_Jx4a65c_size_8abf5 : GoodIn wsX3_fencerOnSpot (wsV RX3 49 RJx4a65c yJx4a65c_size_8abf5 wsJx4a65c_size_8abf5) := goodIn_app (goodIn_of _ (by decide +kernel)) ggX3_fencerOnSpot_Jx4a65c_size_8abf5
set_option maxRecDepth 20000 in
theorem ggX3_fencerOnSpot_Jx4a65c_get_915e3 : GoodIn wsX3_fencerOnSpot wsJx4a65c_get_915e3 := goodIn_r _ [14, 10, 15, 16, 17, 18, 19, 20, 21, 22, 23, 24, 25, 8, 26, 27, 52, 53, 54] (by decide +kernel) (by decide +kernel)
set_option maxRecDepth 20000 in
theorem gX3_fencerOnSpot_Jx4a65c_get_915e3 : GoodIn wsX3_fencerOnSpot (wsV RX3 124 RJx4a65c yJx4a65c_get_915e3 wsJx4a65c_get_915e3) := goodIn_app (goodIn_of _ (by decide +kernel)) ggX3_fencerOnSpot_Jx4a65c_get_915e3
theorem dX3_fencerOnSpot_0 : decode cX3_fencerOnSpot 0 = .ok (.iconst 0, 1) := by decide +kernel
theorem dX3_fencerOnSpot_1 : decode cX3_fencerOnSpot 1 = .ok (.istore_n 3, 1) := by decide +kernel
theorem dX3_fencerOnSpot_2 : decode cX3_fencerOnSpot 2 = .ok (.iload_n 3, 1) := by decide +kernel
theorem dX3_fencerOnSpot_3 : decode cX3_fencerOnSpot 3 = .ok (.aload_n 0, 1) := by decide +kernel
theorem dX3_fencerOnSpot_4 : decode cX3_fencerOnSpot 4 = .ok (.getfield 12, 3) := by decide +kernel
theorem dX3_fencerOnSpot_7 : decode cX3_fencerOnSpot 7 = .ok (.invokevirtual 49, 3) := by decide +kernel
theorem dX3_fencerOnSpot_10 : decode cX3_fencerOnSpot 10 = .ok (.if_icmp .ge 43, 3) := by decide +kernel
theorem dX3_fencerOnSpot_13 : decode cX3_fencerOnSpot 13 = .ok (.aload_n 0, 1) := by decide +kernel
theorem dX3_fencerOnSpot_14 : decode cX3_fencerOnSpot 14 = .ok (.getfield 12, 3) := by decide +kernel
theorem dX3_fencerOnSpot_17 : decode cX3_fencerOnSpot 17 = .ok (.iload_n 3, 1) := by decide +kernel
theorem dX3_fencerOnSpot_18 : decode cX3_fencerOnSpot 18 = .ok (.invokevirtual 124, 3) := by decide +kernel
theorem dX3_fencerOnSpot_21 : decode cX3_fencerOnSpot 21 = .ok (.checkcast 29, 3) := by decide +kernel
theorem dX3_fencerOnSpot_24 : decode cX3_fencerOnSpot 24 = .ok (.astore 4, 2) := by decide +kernel
theorem dX3_fencerOnSpot_26 : decode cX3_fencerOnSpot 26 = .ok (.aload 4, 2) := by decide +kernel
theorem dX3_fencerOnSpot_28 : decode cX3_fencerOnSpot 28 = .ok (.getfield 94, 3) := by decide +kernel
theorem dX3_fencerOnSpot_31 : decode cX3_fencerOnSpot 31 = .ok (.iload_n 1, 1) := by decide +kernel
theorem dX3_fencerOnSpot_32 : decode cX3_fencerOnSpot 32 = .ok (.if_icmp .ne 15, 3) := by decide +kernel
theorem dX3_fencerOnSpot_35 : decode cX3_fencerOnSpot 35 = .ok (.aload 4, 2) := by decide +kernel
theorem dX3_fencerOnSpot_37 : decode cX3_fencerOnSpot 37 = .ok (.getfield 97, 3) := by decide +kernel
theorem dX3_fencerOnSpot_40 : decode cX3_fencerOnSpot 40 = .ok (.iload_n 2, 1) := by decide +kernel
theorem dX3_fencerOnSpot_41 : decode cX3_fencerOnSpot 41 = .ok (.if_icmp .ne 6, 3) := by decide +kernel
theorem dX3_fencerOnSpot_44 : decode cX3_fencerOnSpot 44 = .ok (.aload 4, 2) := by decide +kernel
theorem dX3_fencerOnSpot_46 : decode cX3_fencerOnSpot 46 = .ok (.areturn, 1) := by decide +kernel
theorem dX3_fencerOnSpot_47 : decode cX3_fencerOnSpot 47 = .ok (.iinc 3 1, 3) := by decide +kernel
theorem dX3_fencerOnSpot_50 : decode cX3_fencerOnSpot 50 = .ok (.goto (-48), 3) := by decide +kernel
theorem dX3_fencerOnSpot_53 : decode cX3_fencerOnSpot 53 = .ok (.aconst_null, 1) := by decide +kernel
theorem dX3_fencerOnSpot_54 : decode cX3_fencerOnSpot 54 = .ok (.areturn, 1) := by decide +kernel
set_option maxRecDepth 20000 in
theorem ggX3_start_X3_boutAt : GoodIn wsX3_start wsX3_boutAt := goodIn_ca (goodIn_r _ [10, 11, 12, 13, 14, 15, 16, 17, 18, 19, 20, 21, 22, 9, 23, 24, 25, 26, 27, 28, 29, 30, 31, 32, 33, 34, 35, 36, 37, 38, 39, 40, 92, 93, 94, 95, 96, 97, 98, 99, 100, 101, 102, 103, 104] (by decide +kernel) (by decide +kernel)) (goodIn_sub (fun _ h => List.mem_cons_of_mem _ (List.mem_append_right _ h)) (by decide +kernel))
set_option maxRecDepth 20000 in
theorem gX3_start_X3_boutAt : GoodIn wsX3_start (wsV RX3 135 RX3 yX3_boutAt wsX3_boutAt) := goodIn_app (goodIn_of _ (by decide +kernel)) ggX3_start_X3_boutAt
set_option maxRecDepth 20000 in
theorem ggX3_start_X3_isPiste : GoodIn wsX3_start wsX3_isPiste := goodIn_r _ [43, 21, 22, 9, 23] (by decide +kernel) (by decide +kernel)
set_option maxRecDepth 20000 in
theorem gX3_start_X3_isPiste : GoodIn wsX3_start (va_wsS RX3 139 yX3_isPiste wsX3_isPiste) := goodIn_app (goodIn_of _ (by decide +kernel)) ggX3_start_X3_isPiste
set_option maxRecDepth 20000 in
theorem ggX3_start_X3_whyNotReady : GoodIn wsX3_start wsX3_whyNotReady := goodIn_r _ [47, 48, 49, 50, 51, 52, 53, 54, 55, 56, 57, 58, 59, 60, 61, 62, 63, 64, 65, 66, 67, 68, 69, 70, 71, 72, 73, 74, 75, 76, 77, 78, 79, 105, 106, 107, 108, 109, 110, 111, 112, 113, 92, 93, 94, 95, 96, 97, 98, 99, 100, 101, 114, 115, 116, 117, 118, 119, 120, 121, 122, 123, 124, 125, 126, 127, 128, 129, 130] (by decide +kernel) (by decide +kernel)
set_option maxRecDepth 20000 in
theorem gX3_start_X3_whyNotReady : GoodIn wsX3_start (wsV RX3 145 RX3 yX3_whyNotReady wsX3_whyNotReady) := goodIn_app (goodIn_of _ (by decide +kernel)) ggX3_start_X3_whyNotReady
set_option maxRecDepth 20000 in
theorem ggX3_start_X0_begin : GoodIn wsX3_start wsX0_begin := goodIn_r _ [83, 84, 85, 86, 87, 57, 59, 88, 89, 90, 63, 91, 65, 66, 105, 106, 107, 108, 109, 110, 111, 112, 113, 114, 115, 116, 117, 118, 119, 120, 121, 122, 123, 124, 125, 126, 127, 128, 129, 130] (by decide +kernel) (by decide +kernel)
set_option maxRecDepth 20000 in
theorem gX3_start_X0_begin : GoodIn wsX3_start (wsV RX3 151 RX0 yX0_begin wsX0_begin) := goodIn_app (goodIn_of _ (by decide +kernel)) ggX3_start_X0_begin
theorem dX3_start_0 : decode cX3_start 0 = .ok (.aload_n 0, 1) := by decide +kernel
theorem dX3_start_1 : decode cX3_start 1 = .ok (.iload_n 1, 1) := by decide +kernel
theorem dX3_start_2 : decode cX3_start 2 = .ok (.invokevirtual 135, 3) := by decide +kernel
theorem dX3_start_5 : decode cX3_start 5 = .ok (.astore_n 3, 1) := by decide +kernel
theorem dX3_start_6 : decode cX3_start 6 = .ok (.iload_n 2, 1) := by decide +kernel
theorem dX3_start_7 : decode cX3_start 7 = .ok (.invokestatic 139, 3) := by decide +kernel
theorem dX3_start_10 : decode cX3_start 10 = .ok (.ifCond .ne 13, 3) := by decide +kernel
theorem dX3_start_13 : decode cX3_start 13 = .ok (.new 42, 3) := by decide +kernel
theorem dX3_start_16 : decode cX3_start 16 = .ok (.dup, 1) := by decide +kernel
theorem dX3_start_17 : decode cX3_start 17 = .ok (.ldc 143, 2) := by decide +kernel
theorem dX3_start_19 : decode cX3_start 19 = .ok (.invokespecial 46, 3) := by decide +kernel
theorem dX3_start_22 : decode cX3_start 22 = .ok (.athrow, 1) := by decide +kernel
theorem dX3_start_23 : decode cX3_start 23 = .ok (.aload_n 0, 1) := by decide +kernel
theorem dX3_start_24 : decode cX3_start 24 = .ok (.aload_n 3, 1) := by decide +kernel
theorem dX3_start_25 : decode cX3_start 25 = .ok (.invokevirtual 145, 3) := by decide +kernel
theorem dX3_start_28 : decode cX3_start 28 = .ok (.ifCond .ne 12, 3) := by decide +kernel
theorem dX3_start_31 : decode cX3_start 31 = .ok (.aload_n 0, 1) := by decide +kernel
theorem dX3_start_32 : decode cX3_start 32 = .ok (.getfield 21, 3) := by decide +kernel
theorem dX3_start_35 : decode cX3_start 35 = .ok (.iload_n 2, 1) := by decide +kernel
theorem dX3_start_36 : decode cX3_start 36 = .ok (.aaload, 1) := by decide +kernel
theorem dX3_start_37 : decode cX3_start 37 = .ok (.ifnull 13, 3) := by decide +kernel
theorem dX3_start_40 : decode cX3_start 40 = .ok (.new 57, 3) := by decide +kernel
theorem dX3_start_43 : decode cX3_start 43 = .ok (.dup, 1) := by decide +kernel
theorem dX3_start_44 : decode cX3_start 44 = .ok (.ldc 149, 2) := by decide +kernel
theorem dX3_start_46 : decode cX3_start 46 = .ok (.invokespecial 61, 3) := by decide +kernel
theorem dX3_start_49 : decode cX3_start 49 = .ok (.athrow, 1) := by decide +kernel
theorem dX3_start_50 : decode cX3_start 50 = .ok (.aload_n 3, 1) := by decide +kernel
theorem dX3_start_51 : decode cX3_start 51 = .ok (.iload_n 2, 1) := by decide +kernel
theorem dX3_start_52 : decode cX3_start 52 = .ok (.invokevirtual 151, 3) := by decide +kernel
theorem dX3_start_55 : decode cX3_start 55 = .ok (.aload_n 0, 1) := by decide +kernel
theorem dX3_start_56 : decode cX3_start 56 = .ok (.getfield 21, 3) := by decide +kernel
theorem dX3_start_59 : decode cX3_start 59 = .ok (.iload_n 2, 1) := by decide +kernel
theorem dX3_start_60 : decode cX3_start 60 = .ok (.aload_n 3, 1) := by decide +kernel
theorem dX3_start_61 : decode cX3_start 61 = .ok (.aastore, 1) := by decide +kernel
theorem dX3_start_62 : decode cX3_start 62 = .ok (.return_, 1) := by decide +kernel
set_option maxRecDepth 20000 in
theorem ggX3_pass_X3_isIn : GoodIn wsX3_pass wsX3_isIn := goodIn_r _ [8] (by decide +kernel) (by decide +kernel)
set_option maxRecDepth 20000 in
theorem gX3_pass_X3_isIn : GoodIn wsX3_pass (va_wsS RX3 38 yX3_isIn wsX3_isIn) := goodIn_app (goodIn_of _ (by decide +kernel)) ggX3_pass_X3_isIn
set_option maxRecDepth 20000 in
theorem ggX3_pass_X3_isOverAfter : GoodIn wsX3_pass wsX3_isOverAfter := goodIn_r _ [12, 4, 13, 14, 15, 16, 17, 18, 19, 20, 21, 22, 23, 24, 25, 26, 27, 28, 29, 30, 31, 32, 33, 34, 35, 36, 37, 38, 39, 40, 41, 42, 43, 44, 45, 46, 47, 48, 49, 50, 51, 52, 7, 53, 54, 55, 56, 57, 58, 3, 59, 60, 61, 5, 6, 8, 62, 63, 64, 65, 66, 67, 68, 69, 70, 71, 72, 73, 74, 75, 76, 77, 78, 79, 80, 81, 82, 83, 84, 85, 86, 87, 88, 89, 90, 91, 92, 93, 94, 95, 96, 97, 98, 99, 100, 101, 102, 103, 104, 105, 106, 107, 108, 109, 110, 111, 112, 113, 114, 115, 116, 117, 118, 119, 120, 121, 122, 123, 124, 125, 126, 127, 128, 129, 130, 131, 132, 133, 134, 135, 136, 137, 138, 139, 140, 141, 142, 143, 144, 145, 146, 147, 148, 149, 150, 151, 152, 153, 154, 155, 156, 157, 158, 159, 160, 161, 162, 163, 164, 165, 166, 167, 168, 169, 170, 171, 172, 173, 174, 175, 176, 177, 178, 179] (by decide +kernel) (by decide +kernel)
set_option maxRecDepth 20000 in
theorem gX3_pass_X3_isOverAfter : GoodIn wsX3_pass (wsV RX3 156 RX3 yX3_isOverAfter wsX3_isOverAfter) := goodIn_app (goodIn_of _ (by decide +kernel)) ggX3_pass_X3_isOverAfter
theorem dX3_pass_0 : decode cX3_pass 0 = .ok (.iload_n 1, 1) := by decide +kernel
theorem dX3_pass_1 : decode cX3_pass 1 = .ok (.iconst 1, 1) := by decide +kernel
theorem dX3_pass_2 : decode cX3_pass 2 = .ok (.sipush 600, 3) := by decide +kernel
theorem dX3_pass_5 : decode cX3_pass 5 = .ok (.invokestatic 38, 3) := by decide +kernel
theorem dX3_pass_8 : decode cX3_pass 8 = .ok (.ifCond .ne 13, 3) := by decide +kernel
theorem dX3_pass_11 : decode cX3_pass 11 = .ok (.new 42, 3) := by decide +kernel
theorem dX3_pass_14 : decode cX3_pass 14 = .ok (.dup, 1) := by decide +kernel
theorem dX3_pass_15 : decode cX3_pass 15 = .ok (.ldc 154, 2) := by decide +kernel
theorem dX3_pass_17 : decode cX3_pass 17 = .ok (.invokespecial 46, 3) := by decide +kernel
theorem dX3_pass_20 : decode cX3_pass 20 = .ok (.athrow, 1) := by decide +kernel
theorem dX3_pass_21 : decode cX3_pass 21 = .ok (.iconst 0, 1) := by decide +kernel
theorem dX3_pass_22 : decode cX3_pass 22 = .ok (.istore_n 2, 1) := by decide +kernel
theorem dX3_pass_23 : decode cX3_pass 23 = .ok (.iconst 0, 1) := by decide +kernel
theorem dX3_pass_24 : decode cX3_pass 24 = .ok (.istore_n 3, 1) := by decide +kernel
theorem dX3_pass_25 : decode cX3_pass 25 = .ok (.iload_n 3, 1) := by decide +kernel
theorem dX3_pass_26 : decode cX3_pass 26 = .ok (.iconst 3, 1) := by decide +kernel
theorem dX3_pass_27 : decode cX3_pass 27 = .ok (.if_icmp .ge 35, 3) := by decide +kernel
theorem dX3_pass_30 : decode cX3_pass 30 = .ok (.aload_n 0, 1) := by decide +kernel
theorem dX3_pass_31 : decode cX3_pass 31 = .ok (.getfield 21, 3) := by decide +kernel
theorem dX3_pass_34 : decode cX3_pass 34 = .ok (.iload_n 3, 1) := by decide +kernel
theorem dX3_pass_35 : decode cX3_pass 35 = .ok (.aaload, 1) := by decide +kernel
theorem dX3_pass_36 : decode cX3_pass 36 = .ok (.astore 4, 2) := by decide +kernel
theorem dX3_pass_38 : decode cX3_pass 38 = .ok (.aload 4, 2) := by decide +kernel
theorem dX3_pass_40 : decode cX3_pass 40 = .ok (.ifnull 16, 3) := by decide +kernel
theorem dX3_pass_43 : decode cX3_pass 43 = .ok (.aload_n 0, 1) := by decide +kernel
theorem dX3_pass_44 : decode cX3_pass 44 = .ok (.aload 4, 2) := by decide +kernel
theorem dX3_pass_46 : decode cX3_pass 46 = .ok (.iload_n 1, 1) := by decide +kernel
theorem dX3_pass_47 : decode cX3_pass 47 = .ok (.invokevirtual 156, 3) := by decide +kernel
theorem dX3_pass_50 : decode cX3_pass 50 = .ok (.ifCond .eq 6, 3) := by decide +kernel
theorem dX3_pass_53 : decode cX3_pass 53 = .ok (.iinc 2 1, 3) := by decide +kernel
theorem dX3_pass_56 : decode cX3_pass 56 = .ok (.iinc 3 1, 3) := by decide +kernel
theorem dX3_pass_59 : decode cX3_pass 59 = .ok (.goto (-34), 3) := by decide +kernel
theorem dX3_pass_62 : decode cX3_pass 62 = .ok (.aload_n 0, 1) := by decide +kernel
theorem dX3_pass_63 : decode cX3_pass 63 = .ok (.dup, 1) := by decide +kernel
theorem dX3_pass_64 : decode cX3_pass 64 = .ok (.getfield 160, 3) := by decide +kernel
theorem dX3_pass_67 : decode cX3_pass 67 = .ok (.iload_n 1, 1) := by decide +kernel
theorem dX3_pass_68 : decode cX3_pass 68 = .ok (.iadd, 1) := by decide +kernel
theorem dX3_pass_69 : decode cX3_pass 69 = .ok (.putfield 160, 3) := by decide +kernel
theorem dX3_pass_72 : decode cX3_pass 72 = .ok (.iload_n 2, 1) := by decide +kernel
theorem dX3_pass_73 : decode cX3_pass 73 = .ok (.ireturn, 1) := by decide +kernel
set_option maxRecDepth 20000 in
theorem ggX3_hit_X3_isPiste : GoodIn wsX3_hit wsX3_isPiste := goodIn_r _ [9, 10, 11, 8, 12] (by decide +kernel) (by decide +kernel)
set_option maxRecDepth 20000 in
theorem gX3_hit_X3_isPiste : GoodIn wsX3_hit (va_wsS RX3 139 yX3_isPiste wsX3_isPiste) := goodIn_app (goodIn_of _ (by decide +kernel)) ggX3_hit_X3_isPiste
set_option maxRecDepth 20000 in
theorem ggX3_hit_X3_isIn : GoodIn wsX3_hit wsX3_isIn := goodIn_r _ [12] (by decide +kernel) (by decide +kernel)
set_option maxRecDepth 20000 in
theorem gX3_hit_X3_isIn : GoodIn wsX3_hit (va_wsS RX3 38 yX3_isIn wsX3_isIn) := goodIn_app (goodIn_of _ (by decide +kernel)) ggX3_hit_X3_isIn
set_option maxRecDepth 20000 in
theorem ggX3_hit_X3_liveBoutOn : GoodIn wsX3_hit wsX3_liveBoutOn := goodIn_ca (goodIn_r _ [16, 17, 18, 19, 6, 7, 8, 9, 10, 11, 12, 163, 164, 165, 166, 167, 168, 169, 170, 171, 172] (by decide +kernel) (by decide +kernel)) (goodIn_sub (fun _ h => List.mem_cons_of_mem _ (List.mem_append_right _ h)) (by decide +kernel))
set_option maxRecDepth 20000 in
theorem gX3_hit_X3_liveBoutOn : GoodIn wsX3_hit (wsV RX3 165 RX3 yX3_liveBoutOn wsX3_liveBoutOn) := goodIn_app (goodIn_of _ (by decide +kernel)) ggX3_hit_X3_liveBoutOn
set_option maxRecDepth 20000 in
theorem ggX3_hit_X0_countsForBoth : GoodIn wsX3_hit wsX0_countsForBoth := goodIn_r _ [24, 25, 26, 27, 28, 29, 30, 23, 31, 32, 33, 34, 35, 36, 37, 38, 39, 40, 41, 42, 43, 44, 45, 151, 152, 153, 154, 155, 156, 157, 158, 159, 160, 161, 162] (by decide +kernel) (by decide +kernel)
set_option maxRecDepth 20000 in
theorem gX3_hit_X0_countsForBoth : GoodIn wsX3_hit (wsV RX3 168 RX0 yX0_countsForBoth wsX0_countsForBoth) := goodIn_app (goodIn_of _ (by decide +kernel)) ggX3_hit_X0_countsForBoth
set_option maxRecDepth 20000 in
theorem ggX3_hit_X3_isOverByHit : GoodIn wsX3_hit wsX3_isOverByHit := goodIn_r _ [49, 50, 51, 52, 53, 23, 54, 25, 26, 27, 28, 29, 30, 31, 32, 33, 34, 35, 36, 37, 38, 39, 40, 41, 42, 43, 44, 45, 55, 56, 57, 58, 59, 60, 61, 62, 63, 64, 65, 66, 67, 8, 68, 69, 70, 71, 72, 73, 19, 6, 7, 9, 10, 11, 12, 74, 75, 76, 77, 78, 79, 80, 81, 82, 83, 84, 85, 86, 87, 88, 89, 90, 91, 92, 93, 3, 4, 5, 94, 95, 96, 97, 98, 99, 100, 101, 102, 103, 104, 105, 106, 107, 108, 109, 110, 111, 112, 113, 114, 115, 116, 117, 118, 119, 120, 121, 122, 123, 124, 125, 126, 127, 128, 129, 130, 131, 132, 133, 134, 135, 136, 137, 138, 139, 140, 141, 142, 143, 144, 145, 146, 147, 148, 149, 150, 163, 164, 165, 166, 167, 168, 169, 170, 171, 172, 151, 152, 153, 154, 155, 156, 157, 158, 159, 160, 161, 162, 173, 174, 175, 176, 177, 178, 179, 180, 181, 182, 183, 184, 185, 186, 187, 188, 189] (by decide +kernel) (by decide +kernel)
set_option maxRecDepth 20000 in
theorem gX3_hit_X3_isOverByHit : GoodIn wsX3_hit (wsV RX3 184 RX3 yX3_isOverByHit wsX3_isOverByHit) := goodIn_app (goodIn_of _ (by decide +kernel)) ggX3_hit_X3_isOverByHit
theorem dX3_hit_0 : decode cX3_hit 0 = .ok (.iload_n 1, 1) := by decide +kernel
theorem dX3_hit_1 : decode cX3_hit 1 = .ok (.invokestatic 139, 3) := by decide +kernel
theorem dX3_hit_4 : decode cX3_hit 4 = .ok (.ifCond .eq 12, 3) := by decide +kernel
theorem dX3_hit_7 : decode cX3_hit 7 = .ok (.iload_n 2, 1) := by decide +kernel
theorem dX3_hit_8 : decode cX3_hit 8 = .ok (.iconst 0, 1) := by decide +kernel
theorem dX3_hit_9 : decode cX3_hit 9 = .ok (.iconst 2, 1) := by decide +kernel
theorem dX3_hit_10 : decode cX3_hit 10 = .ok (.invokestatic 38, 3) := by decide +kernel
theorem dX3_hit_13 : decode cX3_hit 13 = .ok (.ifCond .ne 13, 3) := by decide +kernel
theorem dX3_hit_16 : decode cX3_hit 16 = .ok (.new 42, 3) := by decide +kernel
theorem dX3_hit_19 : decode cX3_hit 19 = .ok (.dup, 1) := by decide +kernel
theorem dX3_hit_20 : decode cX3_hit 20 = .ok (.ldc 163, 2) := by decide +kernel
theorem dX3_hit_22 : decode cX3_hit 22 = .ok (.invokespecial 46, 3) := by decide +kernel
theorem dX3_hit_25 : decode cX3_hit 25 = .ok (.athrow, 1) := by decide +kernel
theorem dX3_hit_26 : decode cX3_hit 26 = .ok (.aload_n 0, 1) := by decide +kernel
theorem dX3_hit_27 : decode cX3_hit 27 = .ok (.iload_n 1, 1) := by decide +kernel
theorem dX3_hit_28 : decode cX3_hit 28 = .ok (.invokevirtual 165, 3) := by decide +kernel
theorem dX3_hit_31 : decode cX3_hit 31 = .ok (.astore_n 3, 1) := by decide +kernel
theorem dX3_hit_32 : decode cX3_hit 32 = .ok (.iload_n 2, 1) := by decide +kernel
theorem dX3_hit_33 : decode cX3_hit 33 = .ok (.iconst 2, 1) := by decide +kernel
theorem dX3_hit_34 : decode cX3_hit 34 = .ok (.if_icmp .ne 12, 3) := by decide +kernel
theorem dX3_hit_37 : decode cX3_hit 37 = .ok (.aload_n 3, 1) := by decide +kernel
theorem dX3_hit_38 : decode cX3_hit 38 = .ok (.invokevirtual 168, 3) := by decide +kernel
theorem dX3_hit_41 : decode cX3_hit 41 = .ok (.ifCond .ne 5, 3) := by decide +kernel
theorem dX3_hit_44 : decode cX3_hit 44 = .ok (.iconst 0, 1) := by decide +kernel
theorem dX3_hit_45 : decode cX3_hit 45 = .ok (.ireturn, 1) := by decide +kernel
theorem dX3_hit_46 : decode cX3_hit 46 = .ok (.iload_n 2, 1) := by decide +kernel
theorem dX3_hit_47 : decode cX3_hit 47 = .ok (.iconst 1, 1) := by decide +kernel
theorem dX3_hit_48 : decode cX3_hit 48 = .ok (.if_icmp .eq 16, 3) := by decide +kernel
theorem dX3_hit_51 : decode cX3_hit 51 = .ok (.aload_n 3, 1) := by decide +kernel
theorem dX3_hit_52 : decode cX3_hit 52 = .ok (.getfield 172, 3) := by decide +kernel
theorem dX3_hit_55 : decode cX3_hit 55 = .ok (.dup, 1) := by decide +kernel
theorem dX3_hit_56 : decode cX3_hit 56 = .ok (.getfield 176, 3) := by decide +kernel
theorem dX3_hit_59 : decode cX3_hit 59 = .ok (.iconst 1, 1) := by decide +kernel
theorem dX3_hit_60 : decode cX3_hit 60 = .ok (.iadd, 1) := by decide +kernel
theorem dX3_hit_61 : decode cX3_hit 61 = .ok (.putfield 176, 3) := by decide +kernel
theorem dX3_hit_64 : decode cX3_hit 64 = .ok (.iload_n 2, 1) := by decide +kernel
theorem dX3_hit_65 : decode cX3_hit 65 = .ok (.ifCond .eq 16, 3) := by decide +kernel
theorem dX3_hit_68 : decode cX3_hit 68 = .ok (.aload_n 3, 1) := by decide +kernel
theorem dX3_hit_69 : decode cX3_hit 69 = .ok (.getfield 181, 3) := by decide +kernel
theorem dX3_hit_72 : decode cX3_hit 72 = .ok (.dup, 1) := by decide +kernel
theorem dX3_hit_73 : decode cX3_hit 73 = .ok (.getfield 176, 3) := by decide +kernel
theorem dX3_hit_76 : decode cX3_hit 76 = .ok (.iconst 1, 1) := by decide +kernel
theorem dX3_hit_77 : decode cX3_hit 77 = .ok (.iadd, 1) := by decide +kernel
theorem dX3_hit_78 : decode cX3_hit 78 = .ok (.putfield 176, 3) := by decide +kernel
theorem dX3_hit_81 : decode cX3_hit 81 = .ok (.aload_n 0, 1) := by decide +kernel
theorem dX3_hit_82 : decode cX3_hit 82 = .ok (.aload_n 3, 1) := by decide +kernel
theorem dX3_hit_83 : decode cX3_hit 83 = .ok (.invokevirtual 184, 3) := by decide +kernel
theorem dX3_hit_86 : decode cX3_hit 86 = .ok (.ireturn, 1) := by decide +kernel
set_option maxRecDepth 20000 in
theorem ggX3_card_X3_isPiste : GoodIn wsX3_card wsX3_isPiste := goodIn_r _ [13, 14, 15, 12, 16] (by decide +kernel) (by decide +kernel)
set_option maxRecDepth 20000 in
theorem gX3_card_X3_isPiste : GoodIn wsX3_card (va_wsS RX3 139 yX3_isPiste wsX3_isPiste) := goodIn_app (goodIn_of _ (by decide +kernel)) ggX3_card_X3_isPiste
set_option maxRecDepth 20000 in
theorem ggX3_card_X3_isIn : GoodIn wsX3_card wsX3_isIn := goodIn_r _ [16] (by decide +kernel) (by decide +kernel)
set_option maxRecDepth 20000 in
theorem gX3_card_X3_isIn : GoodIn wsX3_card (va_wsS RX3 38 yX3_isIn wsX3_isIn) := goodIn_app (goodIn_of _ (by decide +kernel)) ggX3_card_X3_isIn
set_option maxRecDepth 20000 in
theorem ggX3_card_X3_liveBoutOn : GoodIn wsX3_card wsX3_liveBoutOn := goodIn_ca (goodIn_r _ [20, 21, 22, 23, 10, 11, 12, 13, 14, 15, 16, 164, 165, 166, 167, 168, 169, 170, 171, 172, 173] (by decide +kernel) (by decide +kernel)) (goodIn_sub (fun _ h => List.mem_cons_of_mem _ (List.mem_append_right _ h)) (by decide +kernel))
set_option maxRecDepth 20000 in
theorem gX3_card_X3_liveBoutOn : GoodIn wsX3_card (wsV RX3 165 RX3 yX3_liveBoutOn wsX3_liveBoutOn) := goodIn_app (goodIn_of _ (by decide +kernel)) ggX3_card_X3_liveBoutOn
set_option maxRecDepth 20000 in
theorem ggX3_card_X0_sideOf : GoodIn wsX3_card wsX0_sideOf := goodIn_r _ [28, 29, 30, 174, 175, 176, 177, 178, 179, 180, 181, 182] (by decide +kernel) (by decide +kernel)
set_option maxRecDepth 20000 in
theorem gX3_card_X0_sideOf : GoodIn wsX3_card (wsV RX3 190 RX0 yX0_sideOf wsX0_sideOf) := goodIn_app (goodIn_of _ (by decide +kernel)) ggX3_card_X0_sideOf
set_option maxRecDepth 20000 in
theorem ggX3_card_X3_isOverByHit : GoodIn wsX3_card wsX3_isOverByHit := goodIn_r _ [34, 35, 36, 37, 38, 27, 39, 29, 40, 30, 41, 42, 43, 44, 45, 46, 47, 48, 49, 50, 51, 52, 53, 54, 55, 56, 57, 58, 59, 60, 61, 62, 63, 64, 65, 66, 67, 68, 69, 70, 71, 12, 72, 73, 74, 75, 76, 77, 23, 10, 11, 13, 14, 15, 16, 78, 79, 80, 81, 82, 83, 84, 85, 86, 87, 88, 89, 90, 91, 92, 93, 94, 95, 96, 97, 98, 8, 99, 9, 100, 101, 102, 103, 104, 105, 106, 107, 108, 109, 110, 111, 112, 113, 114, 115, 116, 117, 118, 119, 120, 121, 122, 123, 124, 125, 126, 127, 128, 129, 130, 131, 132, 133, 134, 135, 136, 137, 138, 139, 140, 141, 142, 143, 144, 145, 146, 147, 148, 149, 150, 151, 24, 25, 26, 28, 164, 165, 166, 167, 168, 169, 170, 171, 172, 173, 174, 175, 176, 177, 178, 179, 180, 181, 182, 161, 162, 163, 183, 184, 185, 186, 187, 188, 189, 190, 191, 192, 193, 194, 195, 196, 197, 198, 199] (by decide +kernel) (by decide +kernel)
set_option maxRecDepth 20000 in
theorem gX3_card_X3_isOverByHit : GoodIn wsX3_card (wsV RX3 184 RX3 yX3_isOverByHit wsX3_isOverByHit) := goodIn_app (goodIn_of _ (by decide +kernel)) ggX3_card_X3_isOverByHit
set_option maxRecDepth 20000 in
theorem ggX3_card_X3_putOut : GoodIn wsX3_card wsX3_putOut := goodIn_r _ [155, 156, 35, 127, 128, 98, 9, 99, 102, 51, 52, 27, 53, 54, 69, 70, 71, 12, 72, 73, 74, 75, 76, 77, 23, 10, 11, 13, 14, 15, 16, 78, 79, 80, 81, 82, 45, 83, 29, 30, 84, 85, 86, 87, 88, 89, 90, 91, 92, 93, 94, 95, 96, 97, 8, 100, 101, 103, 104, 105, 106, 107, 108, 109, 110, 111, 112, 113, 114, 115, 116, 117, 118, 119, 120, 121, 122, 123, 124, 125, 126, 129, 130, 131, 132, 133, 134, 135, 136, 137, 138, 139, 140, 141, 142, 143, 144, 145, 146, 147, 148, 149, 150, 151, 24, 25, 26, 28, 157, 158, 159, 160, 183, 184, 185, 186, 187, 188, 189, 190, 191, 192, 193, 194, 195, 196, 164, 165, 166, 167, 168, 169, 170, 171, 172, 173, 174, 175, 176, 177, 178, 179, 180, 181, 182, 161, 162, 163, 197, 198, 199] (by decide +kernel) (by decide +kernel)
set_option maxRecDepth 20000 in
theorem gX3_card_X3_putOut : GoodIn wsX3_card (wsV RX3 206 RX3 yX3_putOut wsX3_putOut) := goodIn_app (goodIn_of _ (by decide +kernel)) ggX3_card_X3_putOut
theorem dX3_card_0 : decode cX3_card 0 = .ok (.iload_n 1, 1) := by decide +kernel
theorem dX3_card_1 : decode cX3_card 1 = .ok (.invokestatic 139, 3) := by decide +kernel
theorem dX3_card_4 : decode cX3_card 4 = .ok (.ifCond .eq 21, 3) := by decide +kernel
theorem dX3_card_7 : decode cX3_card 7 = .ok (.iload_n 2, 1) := by decide +kernel
theorem dX3_card_8 : decode cX3_card 8 = .ok (.iconst 0, 1) := by decide +kernel
theorem dX3_card_9 : decode cX3_card 9 = .ok (.iconst 1, 1) := by decide +kernel
theorem dX3_card_10 : decode cX3_card 10 = .ok (.invokestatic 38, 3) := by decide +kernel
theorem dX3_card_13 : decode cX3_card 13 = .ok (.ifCond .eq 12, 3) := by decide +kernel
theorem dX3_card_16 : decode cX3_card 16 = .ok (.iload_n 3, 1) := by decide +kernel
theorem dX3_card_17 : decode cX3_card 17 = .ok (.iconst 0, 1) := by decide +kernel
theorem dX3_card_18 : decode cX3_card 18 = .ok (.iconst 2, 1) := by decide +kernel
theorem dX3_card_19 : decode cX3_card 19 = .ok (.invokestatic 38, 3) := by decide +kernel
theorem dX3_card_22 : decode cX3_card 22 = .ok (.ifCond .ne 13, 3) := by decide +kernel
theorem dX3_card_25 : decode cX3_card 25 = .ok (.new 42, 3) := by decide +kernel
theorem dX3_card_28 : decode cX3_card 28 = .ok (.dup, 1) := by decide +kernel
theorem dX3_card_29 : decode cX3_card 29 = .ok (.ldc 188, 2) := by decide +kernel
theorem dX3_card_31 : decode cX3_card 31 = .ok (.invokespecial 46, 3) := by decide +kernel
theorem dX3_card_34 : decode cX3_card 34 = .ok (.athrow, 1) := by decide +kernel
theorem dX3_card_35 : decode cX3_card 35 = .ok (.aload_n 0, 1) := by decide +kernel
theorem dX3_card_36 : decode cX3_card 36 = .ok (.iload_n 1, 1) := by decide +kernel
theorem dX3_card_37 : decode cX3_card 37 = .ok (.invokevirtual 165, 3) := by decide +kernel
theorem dX3_card_40 : decode cX3_card 40 = .ok (.astore 4, 2) := by decide +kernel
theorem dX3_card_42 : decode cX3_card 42 = .ok (.aload 4, 2) := by decide +kernel
theorem dX3_card_44 : decode cX3_card 44 = .ok (.iload_n 2, 1) := by decide +kernel
theorem dX3_card_45 : decode cX3_card 45 = .ok (.invokevirtual 190, 3) := by decide +kernel
theorem dX3_card_48 : decode cX3_card 48 = .ok (.astore 5, 2) := by decide +kernel
theorem dX3_card_50 : decode cX3_card 50 = .ok (.aload 4, 2) := by decide +kernel
theorem dX3_card_52 : decode cX3_card 52 = .ok (.iconst 1, 1) := by decide +kernel
theorem dX3_card_53 : decode cX3_card 53 = .ok (.iload_n 2, 1) := by decide +kernel
theorem dX3_card_54 : decode cX3_card 54 = .ok (.isub, 1) := by decide +kernel
theorem dX3_card_55 : decode cX3_card 55 = .ok (.invokevirtual 190, 3) := by decide +kernel
theorem dX3_card_58 : decode cX3_card 58 = .ok (.astore 6, 2) := by decide +kernel
theorem dX3_card_60 : decode cX3_card 60 = .ok (.iload_n 3, 1) := by decide +kernel
theorem dX3_card_61 : decode cX3_card 61 = .ok (.ifCond .ne 15, 3) := by decide +kernel
theorem dX3_card_64 : decode cX3_card 64 = .ok (.aload 5, 2) := by decide +kernel
theorem dX3_card_66 : decode cX3_card 66 = .ok (.getfield 194, 3) := by decide +kernel
theorem dX3_card_69 : decode cX3_card 69 = .ok (.ifCond .le 7, 3) := by decide +kernel
theorem dX3_card_72 : decode cX3_card 72 = .ok (.iconst 1, 1) := by decide +kernel
theorem dX3_card_73 : decode cX3_card 73 = .ok (.goto 4, 3) := by decide +kernel
theorem dX3_card_76 : decode cX3_card 76 = .ok (.iload_n 3, 1) := by decide +kernel
theorem dX3_card_77 : decode cX3_card 77 = .ok (.istore 7, 2) := by decide +kernel
theorem dX3_card_79 : decode cX3_card 79 = .ok (.aload 5, 2) := by decide +kernel
theorem dX3_card_81 : decode cX3_card 81 = .ok (.aload 5, 2) := by decide +kernel
theorem dX3_card_83 : decode cX3_card 83 = .ok (.getfield 194, 3) := by decide +kernel
theorem dX3_card_86 : decode cX3_card 86 = .ok (.iload 7, 2) := by decide +kernel
theorem dX3_card_88 : decode cX3_card 88 = .ok (.iconst 1, 1) := by decide +kernel
theorem dX3_card_89 : decode cX3_card 89 = .ok (.iadd, 1) := by decide +kernel
theorem dX3_card_90 : decode cX3_card 90 = .ok (.invokestatic 197, 3) := by decide +kernel
theorem dX3_card_93 : decode cX3_card 93 = .ok (.putfield 194, 3) := by decide +kernel
theorem dX3_card_96 : decode cX3_card 96 = .ok (.iload 7, 2) := by decide +kernel
theorem dX3_card_98 : decode cX3_card 98 = .ok (.iconst 1, 1) := by decide +kernel
theorem dX3_card_99 : decode cX3_card 99 = .ok (.if_icmp .ne 24, 3) := by decide +kernel
theorem dX3_card_102 : decode cX3_card 102 = .ok (.aload 6, 2) := by decide +kernel
theorem dX3_card_104 : decode cX3_card 104 = .ok (.dup, 1) := by decide +kernel
theorem dX3_card_105 : decode cX3_card 105 = .ok (.getfield 176, 3) := by decide +kernel
theorem dX3_card_108 : decode cX3_card 108 = .ok (.iconst 1, 1) := by decide +kernel
theorem dX3_card_109 : decode cX3_card 109 = .ok (.iadd, 1) := by decide +kernel
theorem dX3_card_110 : decode cX3_card 110 = .ok (.putfield 176, 3) := by decide +kernel
theorem dX3_card_113 : decode cX3_card 113 = .ok (.aload_n 0, 1) := by decide +kernel
theorem dX3_card_114 : decode cX3_card 114 = .ok (.aload 4, 2) := by decide +kernel
theorem dX3_card_116 : decode cX3_card 116 = .ok (.invokevirtual 184, 3) := by decide +kernel
theorem dX3_card_119 : decode cX3_card 119 = .ok (.pop, 1) := by decide +kernel
theorem dX3_card_120 : decode cX3_card 120 = .ok (.goto 25, 3) := by decide +kernel
theorem dX3_card_123 : decode cX3_card 123 = .ok (.iload 7, 2) := by decide +kernel
theorem dX3_card_125 : decode cX3_card 125 = .ok (.iconst 2, 1) := by decide +kernel
theorem dX3_card_126 : decode cX3_card 126 = .ok (.if_icmp .ne 19, 3) := by decide +kernel
theorem dX3_card_129 : decode cX3_card 129 = .ok (.aload_n 0, 1) := by decide +kernel
theorem dX3_card_130 : decode cX3_card 130 = .ok (.aload 4, 2) := by decide +kernel
theorem dX3_card_132 : decode cX3_card 132 = .ok (.aload 5, 2) := by decide +kernel
theorem dX3_card_134 : decode cX3_card 134 = .ok (.getfield 202, 3) := by decide +kernel
theorem dX3_card_137 : decode cX3_card 137 = .ok (.aload 6, 2) := by decide +kernel
theorem dX3_card_139 : decode cX3_card 139 = .ok (.getfield 202, 3) := by decide +kernel
theorem dX3_card_142 : decode cX3_card 142 = .ok (.invokevirtual 206, 3) := by decide +kernel
theorem dX3_card_145 : decode cX3_card 145 = .ok (.iload 7, 2) := by decide +kernel
theorem dX3_card_147 : decode cX3_card 147 = .ok (.ireturn, 1) := by decide +kernel
set_option maxRecDepth 20000 in
theorem ggX3_ofBout_X3_boutAt : GoodIn wsX3_ofBout wsX3_boutAt := goodIn_ca (goodIn_r _ [17, 18, 19, 20, 21, 22, 23, 24, 25, 26, 27, 28, 29, 16, 30, 31, 32, 33, 34, 35, 36, 37, 38, 39, 40, 41, 42, 43, 44, 45, 46, 47, 87, 88, 89, 90, 91, 92, 93, 94, 95, 96, 97, 98, 99] (by decide +kernel) (by decide +kernel)) (goodIn_sub (fun _ h => List.mem_cons_of_mem _ (List.mem_append_right _ h)) (by decide +kernel))
set_option maxRecDepth 20000 in
theorem gX3_ofBout_X3_boutAt : GoodIn wsX3_ofBout (wsV RX3 135 RX3 yX3_boutAt wsX3_boutAt) := goodIn_app (goodIn_of _ (by decide +kernel)) ggX3_ofBout_X3_boutAt
set_option maxRecDepth 20000 in
theorem ggX3_ofBout_X3_numberOf : GoodIn wsX3_ofBout wsX3_numberOf := goodIn_r _ [50, 51, 100, 101, 102, 103, 104, 105, 106, 107, 108, 109, 110, 111, 112, 113] (by decide +kernel) (by decide +kernel)
set_option maxRecDepth 20000 in
theorem gX3_ofBout_X3_numberOf : GoodIn wsX3_ofBout (va_wsS RX3 213 yX3_numberOf wsX3_numberOf) := goodIn_app (goodIn_of _ (by decide +kernel)) ggX3_ofBout_X3_numberOf
set_option maxRecDepth 20000 in
theorem ggX3_ofBout_X0_isInExtra : GoodIn wsX3_ofBout wsX0_isInExtra := goodIn_r _ [56, 57, 58, 59, 60, 55, 61, 62, 63, 64, 65, 66, 75, 76, 77, 78, 79, 80, 81, 82, 83] (by decide +kernel) (by decide +kernel)
set_option maxRecDepth 20000 in
theorem gX3_ofBout_X0_isInExtra : GoodIn wsX3_ofBout (wsV RX3 229 RX0 yX0_isInExtra wsX0_isInExtra) := goodIn_app (goodIn_of _ (by decide +kernel)) ggX3_ofBout_X0_isInExtra
set_option maxRecDepth 20000 in
theorem ggX3_ofBout_X0_withPriority : GoodIn wsX3_ofBout wsX0_withPriority := goodIn_r _ [70, 71, 72, 73, 74, 75, 76, 77, 78, 79, 80, 81, 82, 83, 84, 85, 86] (by decide +kernel) (by decide +kernel)
set_option maxRecDepth 20000 in
theorem gX3_ofBout_X0_withPriority : GoodIn wsX3_ofBout (wsV RX3 232 RX0 yX0_withPriority wsX0_withPriority) := goodIn_app (goodIn_of _ (by decide +kernel)) ggX3_ofBout_X0_withPriority
theorem dX3_ofBout_0 : decode cX3_ofBout 0 = .ok (.aload_n 0, 1) := by decide +kernel
theorem dX3_ofBout_1 : decode cX3_ofBout 1 = .ok (.iload_n 1, 1) := by decide +kernel
theorem dX3_ofBout_2 : decode cX3_ofBout 2 = .ok (.invokevirtual 135, 3) := by decide +kernel
theorem dX3_ofBout_5 : decode cX3_ofBout 5 = .ok (.astore_n 3, 1) := by decide +kernel
theorem dX3_ofBout_6 : decode cX3_ofBout 6 = .ok (.iload_n 2, 1) := by decide +kernel
theorem dX3_ofBout_7 : decode cX3_ofBout 7 = .ok (.tableswitch 165 0 11 #[61, 66, 77, 88, 96, 104, 112, 117, 122, 127, 149, 157], 61) := by decide +kernel
theorem dX3_ofBout_68 : decode cX3_ofBout 68 = .ok (.aload_n 3, 1) := by decide +kernel
theorem dX3_ofBout_69 : decode cX3_ofBout 69 = .ok (.getfield 210, 3) := by decide +kernel
theorem dX3_ofBout_72 : decode cX3_ofBout 72 = .ok (.ireturn, 1) := by decide +kernel
theorem dX3_ofBout_73 : decode cX3_ofBout 73 = .ok (.aload_n 3, 1) := by decide +kernel
theorem dX3_ofBout_74 : decode cX3_ofBout 74 = .ok (.getfield 172, 3) := by decide +kernel
theorem dX3_ofBout_77 : decode cX3_ofBout 77 = .ok (.getfield 202, 3) := by decide +kernel
theorem dX3_ofBout_80 : decode cX3_ofBout 80 = .ok (.invokestatic 213, 3) := by decide +kernel
theorem dX3_ofBout_83 : decode cX3_ofBout 83 = .ok (.ireturn, 1) := by decide +kernel
theorem dX3_ofBout_84 : decode cX3_ofBout 84 = .ok (.aload_n 3, 1) := by decide +kernel
theorem dX3_ofBout_85 : decode cX3_ofBout 85 = .ok (.getfield 181, 3) := by decide +kernel
theorem dX3_ofBout_88 : decode cX3_ofBout 88 = .ok (.getfield 202, 3) := by decide +kernel
theorem dX3_ofBout_91 : decode cX3_ofBout 91 = .ok (.invokestatic 213, 3) := by decide +kernel
theorem dX3_ofBout_94 : decode cX3_ofBout 94 = .ok (.ireturn, 1) := by decide +kernel
theorem dX3_ofBout_95 : decode cX3_ofBout 95 = .ok (.aload_n 3, 1) := by decide +kernel
theorem dX3_ofBout_96 : decode cX3_ofBout 96 = .ok (.getfield 172, 3) := by decide +kernel
theorem dX3_ofBout_99 : decode cX3_ofBout 99 = .ok (.getfield 176, 3) := by decide +kernel
theorem dX3_ofBout_102 : decode cX3_ofBout 102 = .ok (.ireturn, 1) := by decide +kernel
theorem dX3_ofBout_103 : decode cX3_ofBout 103 = .ok (.aload_n 3, 1) := by decide +kernel
theorem dX3_ofBout_104 : decode cX3_ofBout 104 = .ok (.getfield 181, 3) := by decide +kernel
theorem dX3_ofBout_107 : decode cX3_ofBout 107 = .ok (.getfield 176, 3) := by decide +kernel
theorem dX3_ofBout_110 : decode cX3_ofBout 110 = .ok (.ireturn, 1) := by decide +kernel
theorem dX3_ofBout_111 : decode cX3_ofBout 111 = .ok (.aload_n 3, 1) := by decide +kernel
theorem dX3_ofBout_112 : decode cX3_ofBout 112 = .ok (.getfield 217, 3) := by decide +kernel
theorem dX3_ofBout_115 : decode cX3_ofBout 115 = .ok (.invokestatic 213, 3) := by decide +kernel
theorem dX3_ofBout_118 : decode cX3_ofBout 118 = .ok (.ireturn, 1) := by decide +kernel
theorem dX3_ofBout_119 : decode cX3_ofBout 119 = .ok (.aload_n 3, 1) := by decide +kernel
theorem dX3_ofBout_120 : decode cX3_ofBout 120 = .ok (.getfield 220, 3) := by decide +kernel
theorem dX3_ofBout_123 : decode cX3_ofBout 123 = .ok (.ireturn, 1) := by decide +kernel
theorem dX3_ofBout_124 : decode cX3_ofBout 124 = .ok (.aload_n 3, 1) := by decide +kernel
theorem dX3_ofBout_125 : decode cX3_ofBout 125 = .ok (.getfield 223, 3) := by decide +kernel
theorem dX3_ofBout_128 : decode cX3_ofBout 128 = .ok (.ireturn, 1) := by decide +kernel
theorem dX3_ofBout_129 : decode cX3_ofBout 129 = .ok (.aload_n 3, 1) := by decide +kernel
theorem dX3_ofBout_130 : decode cX3_ofBout 130 = .ok (.getfield 226, 3) := by decide +kernel
theorem dX3_ofBout_133 : decode cX3_ofBout 133 = .ok (.ireturn, 1) := by decide +kernel
theorem dX3_ofBout_134 : decode cX3_ofBout 134 = .ok (.aload_n 3, 1) := by decide +kernel
theorem dX3_ofBout_135 : decode cX3_ofBout 135 = .ok (.invokevirtual 229, 3) := by decide +kernel
theorem dX3_ofBout_138 : decode cX3_ofBout 138 = .ok (.ifCond .eq 16, 3) := by decide +kernel
theorem dX3_ofBout_141 : decode cX3_ofBout 141 = .ok (.aload_n 3, 1) := by decide +kernel
theorem dX3_ofBout_142 : decode cX3_ofBout 142 = .ok (.invokevirtual 232, 3) := by decide +kernel
theorem dX3_ofBout_145 : decode cX3_ofBout 145 = .ok (.getfield 202, 3) := by decide +kernel
theorem dX3_ofBout_148 : decode cX3_ofBout 148 = .ok (.invokestatic 213, 3) := by decide +kernel
theorem dX3_ofBout_151 : decode cX3_ofBout 151 = .ok (.goto 4, 3) := by decide +kernel
theorem dX3_ofBout_154 : decode cX3_ofBout 154 = .ok (.iconst (-1), 1) := by decide +kernel
theorem dX3_ofBout_155 : decode cX3_ofBout 155 = .ok (.ireturn, 1) := by decide +kernel
theorem dX3_ofBout_156 : decode cX3_ofBout 156 = .ok (.aload_n 3, 1) := by decide +kernel
theorem dX3_ofBout_157 : decode cX3_ofBout 157 = .ok (.getfield 172, 3) := by decide +kernel
theorem dX3_ofBout_160 : decode cX3_ofBout 160 = .ok (.getfield 194, 3) := by decide +kernel
theorem dX3_ofBout_163 : decode cX3_ofBout 163 = .ok (.ireturn, 1) := by decide +kernel
theorem dX3_ofBout_164 : decode cX3_ofBout 164 = .ok (.aload_n 3, 1) := by decide +kernel
theorem dX3_ofBout_165 : decode cX3_ofBout 165 = .ok (.getfield 181, 3) := by decide +kernel
theorem dX3_ofBout_168 : decode cX3_ofBout 168 = .ok (.getfield 194, 3) := by decide +kernel
theorem dX3_ofBout_171 : decode cX3_ofBout 171 = .ok (.ireturn, 1) := by decide +kernel
theorem dX3_ofBout_172 : decode cX3_ofBout 172 = .ok (.new 42, 3) := by decide +kernel
theorem dX3_ofBout_175 : decode cX3_ofBout 175 = .ok (.dup, 1) := by decide +kernel
theorem dX3_ofBout_176 : decode cX3_ofBout 176 = .ok (.ldc 236, 2) := by decide +kernel
theorem dX3_ofBout_178 : decode cX3_ofBout 178 = .ok (.invokespecial 46, 3) := by decide +kernel
theorem dX3_ofBout_181 : decode cX3_ofBout 181 = .ok (.athrow, 1) := by decide +kernel
set_option maxRecDepth 20000 in
theorem ggX3_reason_X3_boutAt : GoodIn wsX3_reason wsX3_boutAt := goodIn_ca (goodIn_r _ [5, 6, 7, 8, 9, 10, 11, 12, 13, 14, 15, 16, 17, 4, 18, 19, 20, 21, 22, 23, 24, 25, 26, 27, 28, 29, 30, 31, 32, 33, 34, 35, 72, 73, 74, 75, 76, 77, 78, 79, 80, 81, 82, 83, 84] (by decide +kernel) (by decide +kernel)) (goodIn_sub (fun _ h => List.mem_cons_of_mem _ (List.mem_append_right _ h)) (by decide +kernel))
set_option maxRecDepth 20000 in
theorem gX3_reason_X3_boutAt : GoodIn wsX3_reason (wsV RX3 135 RX3 yX3_boutAt wsX3_boutAt) := goodIn_app (goodIn_of _ (by decide +kernel)) ggX3_reason_X3_boutAt
set_option maxRecDepth 20000 in
theorem ggX3_reason_X3_whyNotReady : GoodIn wsX3_reason wsX3_whyNotReady := goodIn_r _ [39, 40, 41, 42, 43, 44, 45, 46, 47, 48, 49, 50, 51, 52, 53, 54, 55, 56, 57, 58, 59, 60, 61, 62, 63, 64, 65, 66, 67, 68, 69, 70, 71, 85, 86, 87, 88, 89, 90, 91, 92, 93, 72, 73, 74, 75, 76, 77, 78, 79, 80, 81, 94, 95, 96, 97, 98, 99, 100, 101, 102, 103, 104, 105, 106, 107, 108, 109, 110] (by decide +kernel) (by decide +kernel)
set_option maxRecDepth 20000 in
theorem gX3_reason_X3_whyNotReady : GoodIn wsX3_reason (wsV RX3 145 RX3 yX3_whyNotReady wsX3_whyNotReady) := goodIn_app (goodIn_of _ (by decide +kernel)) ggX3_reason_X3_whyNotReady


theorem dX3_reason_0 : decode cX3_reason 0 = .ok (.aload_n 0, 1) := by decide +kernel
theorem dX3_reason_1 : decode cX3_reason 1 = .ok (.aload_n 0, 1) := by decide +kernel
theorem dX3_reason_2 : decode cX3_reason 2 = .ok (.iload_n 1, 1) := by decide +kernel
theorem dX3_reason_3 : decode cX3_reason 3 = .ok (.invokevirtual 135, 3) := by decide +kernel
theorem dX3_reason_6 : decode cX3_reason 6 = .ok (.invokevirtual 145, 3) := by decide +kernel
theorem dX3_reason_9 : decode cX3_reason 9 = .ok (.ireturn, 1) := by decide +kernel
set_option maxRecDepth 20000 in
theorem ggX3_next_Jx4a65c_size_8abf5 : GoodIn wsX3_next wsJx4a65c_size_8abf5 := goodIn_r _ [7, 8, 73, 74, 75] (by decide +kernel) (by decide +kernel)
set_option maxRecDepth 20000 in
theorem gX3_next_Jx4a65c_size_8abf5 : GoodIn wsX3_next (wsV RX3 49 RJx4a65c yJx4a65c_size_8abf5 wsJx4a65c_size_8abf5) := goodIn_app (goodIn_of _ (by decide +kernel)) ggX3_next_Jx4a65c_size_8abf5
set_option maxRecDepth 20000 in
theorem ggX3_next_Jx4a65c_get_915e3 : GoodIn wsX3_next wsJx4a65c_get_915e3 := goodIn_r _ [12, 8, 13, 14, 15, 16, 17, 18, 19, 20, 21, 22, 23, 6, 24, 25, 73, 74, 75] (by decide +kernel) (by decide +kernel)
set_option maxRecDepth 20000 in
theorem gX3_next_Jx4a65c_get_915e3 : GoodIn wsX3_next (wsV RX3 124 RJx4a65c yJx4a65c_get_915e3 wsJx4a65c_get_915e3) := goodIn_app (goodIn_of _ (by decide +kernel)) ggX3_next_Jx4a65c_get_915e3
set_option maxRecDepth 20000 in
theorem ggX3_next_X0_restedAt : GoodIn wsX3_next wsX0_restedAt := goodIn_r _ [30, 31, 32, 33, 34, 35, 36, 37, 38, 39, 40, 41, 42, 43, 76, 77, 78, 79, 80, 81, 82, 83, 84, 85, 86, 87, 88, 89, 90, 91, 92, 93, 94, 95, 96, 97, 98, 99, 100, 101] (by decide +kernel) (by decide +kernel)
set_option maxRecDepth 20000 in
theorem gX3_next_X0_restedAt : GoodIn wsX3_next (wsV RX3 238 RX0 yX0_restedAt wsX0_restedAt) := goodIn_app (goodIn_of _ (by decide +kernel)) ggX3_next_X0_restedAt
set_option maxRecDepth 20000 in
theorem ggX3_next_X3_whyNotReady : GoodIn wsX3_next wsX3_whyNotReady := goodIn_r _ [48, 49, 50, 51, 52, 53, 54, 55, 29, 56, 31, 57, 32, 58, 59, 60, 40, 61, 42, 62, 26, 27, 28, 30, 33, 34, 35, 36, 37, 38, 39, 41, 43, 76, 77, 78, 79, 80, 81, 82, 83, 84, 63, 64, 65, 66, 67, 68, 69, 70, 71, 72, 85, 86, 87, 88, 89, 90, 91, 92, 93, 94, 95, 96, 97, 98, 99, 100, 101] (by decide +kernel) (by decide +kernel)
set_option maxRecDepth 20000 in
theorem gX3_next_X3_whyNotReady : GoodIn wsX3_next (wsV RX3 145 RX3 yX3_whyNotReady wsX3_whyNotReady) := goodIn_app (goodIn_of _ (by decide +kernel)) ggX3_next_X3_whyNotReady
theorem dX3_next_0 : decode cX3_next 0 = .ok (.iconst (-1), 1) := by decide +kernel
theorem dX3_next_1 : decode cX3_next 1 = .ok (.istore_n 1, 1) := by decide +kernel
theorem dX3_next_2 : decode cX3_next 2 = .ok (.iconst 0, 1) := by decide +kernel
theorem dX3_next_3 : decode cX3_next 3 = .ok (.istore_n 2, 1) := by decide +kernel
theorem dX3_next_4 : decode cX3_next 4 = .ok (.iconst 0, 1) := by decide +kernel
theorem dX3_next_5 : decode cX3_next 5 = .ok (.istore_n 3, 1) := by decide +kernel
theorem dX3_next_6 : decode cX3_next 6 = .ok (.iload_n 3, 1) := by decide +kernel
theorem dX3_next_7 : decode cX3_next 7 = .ok (.aload_n 0, 1) := by decide +kernel
theorem dX3_next_8 : decode cX3_next 8 = .ok (.getfield 16, 3) := by decide +kernel
theorem dX3_next_11 : decode cX3_next 11 = .ok (.invokevirtual 49, 3) := by decide +kernel
theorem dX3_next_14 : decode cX3_next 14 = .ok (.if_icmp .ge 65, 3) := by decide +kernel
theorem dX3_next_17 : decode cX3_next 17 = .ok (.aload_n 0, 1) := by decide +kernel
theorem dX3_next_18 : decode cX3_next 18 = .ok (.getfield 16, 3) := by decide +kernel
theorem dX3_next_21 : decode cX3_next 21 = .ok (.iload_n 3, 1) := by decide +kernel
theorem dX3_next_22 : decode cX3_next 22 = .ok (.invokevirtual 124, 3) := by decide +kernel
theorem dX3_next_25 : decode cX3_next 25 = .ok (.checkcast 19, 3) := by decide +kernel
theorem dX3_next_28 : decode cX3_next 28 = .ok (.astore 4, 2) := by decide +kernel
theorem dX3_next_30 : decode cX3_next 30 = .ok (.iload_n 1, 1) := by decide +kernel
theorem dX3_next_31 : decode cX3_next 31 = .ok (.iconst (-1), 1) := by decide +kernel
theorem dX3_next_32 : decode cX3_next 32 = .ok (.if_icmp .eq 12, 3) := by decide +kernel
theorem dX3_next_35 : decode cX3_next 35 = .ok (.aload 4, 2) := by decide +kernel
theorem dX3_next_37 : decode cX3_next 37 = .ok (.invokevirtual 238, 3) := by decide +kernel
theorem dX3_next_40 : decode cX3_next 40 = .ok (.iload_n 2, 1) := by decide +kernel
theorem dX3_next_41 : decode cX3_next 41 = .ok (.if_icmp .ge 7, 3) := by decide +kernel
theorem dX3_next_44 : decode cX3_next 44 = .ok (.iconst 1, 1) := by decide +kernel
theorem dX3_next_45 : decode cX3_next 45 = .ok (.goto 4, 3) := by decide +kernel
theorem dX3_next_48 : decode cX3_next 48 = .ok (.iconst 0, 1) := by decide +kernel
theorem dX3_next_49 : decode cX3_next 49 = .ok (.istore 5, 2) := by decide +kernel
theorem dX3_next_51 : decode cX3_next 51 = .ok (.iload 5, 2) := by decide +kernel
theorem dX3_next_53 : decode cX3_next 53 = .ok (.ifCond .eq 20, 3) := by decide +kernel
theorem dX3_next_56 : decode cX3_next 56 = .ok (.aload_n 0, 1) := by decide +kernel
theorem dX3_next_57 : decode cX3_next 57 = .ok (.aload 4, 2) := by decide +kernel
theorem dX3_next_59 : decode cX3_next 59 = .ok (.invokevirtual 145, 3) := by decide +kernel
theorem dX3_next_62 : decode cX3_next 62 = .ok (.ifCond .ne 11, 3) := by decide +kernel
theorem dX3_next_65 : decode cX3_next 65 = .ok (.iload_n 3, 1) := by decide +kernel
theorem dX3_next_66 : decode cX3_next 66 = .ok (.istore_n 1, 1) := by decide +kernel
theorem dX3_next_67 : decode cX3_next 67 = .ok (.aload 4, 2) := by decide +kernel
theorem dX3_next_69 : decode cX3_next 69 = .ok (.invokevirtual 238, 3) := by decide +kernel
theorem dX3_next_72 : decode cX3_next 72 = .ok (.istore_n 2, 1) := by decide +kernel
theorem dX3_next_73 : decode cX3_next 73 = .ok (.iinc 3 1, 3) := by decide +kernel
theorem dX3_next_76 : decode cX3_next 76 = .ok (.goto (-70), 3) := by decide +kernel
theorem dX3_next_79 : decode cX3_next 79 = .ok (.iload_n 1, 1) := by decide +kernel
theorem dX3_next_80 : decode cX3_next 80 = .ok (.ireturn, 1) := by decide +kernel
set_option maxRecDepth 20000 in
theorem ggX3_many_Jx4a65c_size_8abf5 : GoodIn wsX3_many wsJx4a65c_size_8abf5 := goodIn_r _ [12, 13, 63, 64, 65] (by decide +kernel) (by decide +kernel)
set_option maxRecDepth 20000 in
theorem gX3_many_Jx4a65c_size_8abf5 : GoodIn wsX3_many (wsV RX3 49 RJx4a65c yJx4a65c_size_8abf5 wsJx4a65c_size_8abf5) := goodIn_app (goodIn_of _ (by decide +kernel)) ggX3_many_Jx4a65c_size_8abf5
set_option maxRecDepth 20000 in
theorem ggX3_many_X3_boutsIn : GoodIn wsX3_many wsX3_boutsIn := goodIn_r _ [18, 5, 19, 20, 8, 9, 10, 11, 12, 13, 21, 22, 23, 24, 25, 26, 27, 28, 29, 30, 31, 32, 33, 34, 35, 36, 37, 53, 54, 55, 56, 57, 58, 59, 60, 61, 62, 66, 67, 68, 69, 70, 71, 72, 73, 74, 63, 64, 65] (by decide +kernel) (by decide +kernel)
set_option maxRecDepth 20000 in
theorem gX3_many_X3_boutsIn : GoodIn wsX3_many (wsV RX3 240 RX3 yX3_boutsIn wsX3_boutsIn) := goodIn_app (goodIn_of _ (by decide +kernel)) ggX3_many_X3_boutsIn
set_option maxRecDepth 20000 in
theorem ggX3_many_X3_fencersOut : GoodIn wsX3_many wsX3_fencersOut := goodIn_r _ [41, 3, 42, 43, 8, 9, 10, 11, 12, 13, 21, 22, 23, 24, 25, 26, 27, 28, 29, 30, 31, 32, 33, 34, 35, 36, 37, 53, 54, 55, 56, 57, 58, 59, 60, 61, 62, 75, 76, 77, 78, 79, 80, 81, 82, 83, 84, 85, 86, 87, 88, 63, 64, 65] (by decide +kernel) (by decide +kernel)
set_option maxRecDepth 20000 in
theorem gX3_many_X3_fencersOut : GoodIn wsX3_many (wsV RX3 244 RX3 yX3_fencersOut wsX3_fencersOut) := goodIn_app (goodIn_of _ (by decide +kernel)) ggX3_many_X3_fencersOut
set_option maxRecDepth 20000 in
theorem ggX3_many_X3_winnerOfTable : GoodIn wsX3_many wsX3_winnerOfTable := goodIn_r _ [47, 5, 7, 19, 48, 8, 9, 10, 11, 12, 13, 21, 22, 23, 24, 25, 26, 27, 28, 29, 30, 31, 32, 33, 34, 35, 36, 37, 53, 54, 55, 56, 57, 58, 59, 60, 61, 62, 66, 67, 68, 69, 70, 71, 72, 73, 74, 63, 64, 65] (by decide +kernel) (by decide +kernel)
set_option maxRecDepth 20000 in
theorem gX3_many_X3_winnerOfTable : GoodIn wsX3_many (wsV RX3 250 RX3 yX3_winnerOfTable wsX3_winnerOfTable) := goodIn_app (goodIn_of _ (by decide +kernel)) ggX3_many_X3_winnerOfTable
set_option maxRecDepth 20000 in
theorem ggX3_many_X3_numberOf : GoodIn wsX3_many wsX3_numberOf := goodIn_r _ [51, 52, 75, 76, 77, 78, 79, 80, 81, 82, 83, 84, 85, 86, 87, 88] (by decide +kernel) (by decide +kernel)
set_option maxRecDepth 20000 in
theorem gX3_many_X3_numberOf : GoodIn wsX3_many (va_wsS RX3 213 yX3_numberOf wsX3_numberOf) := goodIn_app (goodIn_of _ (by decide +kernel)) ggX3_many_X3_numberOf
theorem dX3_many_0 : decode cX3_many 0 = .ok (.iload_n 1, 1) := by decide +kernel
theorem dX3_many_1 : decode cX3_many 1 = .ok (.tableswitch 127 0 10 #[59, 67, 72, 80, 86, 92, 98, 104, 109, 114, 119], 59) := by decide +kernel
theorem dX3_many_60 : decode cX3_many 60 = .ok (.aload_n 0, 1) := by decide +kernel
theorem dX3_many_61 : decode cX3_many 61 = .ok (.getfield 12, 3) := by decide +kernel
theorem dX3_many_64 : decode cX3_many 64 = .ok (.invokevirtual 49, 3) := by decide +kernel
theorem dX3_many_67 : decode cX3_many 67 = .ok (.ireturn, 1) := by decide +kernel
theorem dX3_many_68 : decode cX3_many 68 = .ok (.aload_n 0, 1) := by decide +kernel
theorem dX3_many_69 : decode cX3_many 69 = .ok (.getfield 53, 3) := by decide +kernel
theorem dX3_many_72 : decode cX3_many 72 = .ok (.ireturn, 1) := by decide +kernel
theorem dX3_many_73 : decode cX3_many 73 = .ok (.aload_n 0, 1) := by decide +kernel
theorem dX3_many_74 : decode cX3_many 74 = .ok (.getfield 16, 3) := by decide +kernel
theorem dX3_many_77 : decode cX3_many 77 = .ok (.invokevirtual 49, 3) := by decide +kernel
theorem dX3_many_80 : decode cX3_many 80 = .ok (.ireturn, 1) := by decide +kernel
theorem dX3_many_81 : decode cX3_many 81 = .ok (.aload_n 0, 1) := by decide +kernel
theorem dX3_many_82 : decode cX3_many 82 = .ok (.iconst 0, 1) := by decide +kernel
theorem dX3_many_83 : decode cX3_many 83 = .ok (.invokevirtual 240, 3) := by decide +kernel
theorem dX3_many_86 : decode cX3_many 86 = .ok (.ireturn, 1) := by decide +kernel
theorem dX3_many_87 : decode cX3_many 87 = .ok (.aload_n 0, 1) := by decide +kernel
theorem dX3_many_88 : decode cX3_many 88 = .ok (.iconst 1, 1) := by decide +kernel
theorem dX3_many_89 : decode cX3_many 89 = .ok (.invokevirtual 240, 3) := by decide +kernel
theorem dX3_many_92 : decode cX3_many 92 = .ok (.ireturn, 1) := by decide +kernel
theorem dX3_many_93 : decode cX3_many 93 = .ok (.aload_n 0, 1) := by decide +kernel
theorem dX3_many_94 : decode cX3_many 94 = .ok (.iconst 2, 1) := by decide +kernel
theorem dX3_many_95 : decode cX3_many 95 = .ok (.invokevirtual 240, 3) := by decide +kernel
theorem dX3_many_98 : decode cX3_many 98 = .ok (.ireturn, 1) := by decide +kernel
theorem dX3_many_99 : decode cX3_many 99 = .ok (.aload_n 0, 1) := by decide +kernel
theorem dX3_many_100 : decode cX3_many 100 = .ok (.iconst 3, 1) := by decide +kernel
theorem dX3_many_101 : decode cX3_many 101 = .ok (.invokevirtual 240, 3) := by decide +kernel
theorem dX3_many_104 : decode cX3_many 104 = .ok (.ireturn, 1) := by decide +kernel
theorem dX3_many_105 : decode cX3_many 105 = .ok (.aload_n 0, 1) := by decide +kernel
theorem dX3_many_106 : decode cX3_many 106 = .ok (.getfield 160, 3) := by decide +kernel
theorem dX3_many_109 : decode cX3_many 109 = .ok (.ireturn, 1) := by decide +kernel
theorem dX3_many_110 : decode cX3_many 110 = .ok (.aload_n 0, 1) := by decide +kernel
theorem dX3_many_111 : decode cX3_many 111 = .ok (.invokevirtual 244, 3) := by decide +kernel
theorem dX3_many_114 : decode cX3_many 114 = .ok (.ireturn, 1) := by decide +kernel
theorem dX3_many_115 : decode cX3_many 115 = .ok (.aload_n 0, 1) := by decide +kernel
theorem dX3_many_116 : decode cX3_many 116 = .ok (.getfield 247, 3) := by decide +kernel
theorem dX3_many_119 : decode cX3_many 119 = .ok (.ireturn, 1) := by decide +kernel
theorem dX3_many_120 : decode cX3_many 120 = .ok (.aload_n 0, 1) := by decide +kernel
theorem dX3_many_121 : decode cX3_many 121 = .ok (.invokevirtual 250, 3) := by decide +kernel
theorem dX3_many_124 : decode cX3_many 124 = .ok (.invokestatic 213, 3) := by decide +kernel
theorem dX3_many_127 : decode cX3_many 127 = .ok (.ireturn, 1) := by decide +kernel
theorem dX3_many_128 : decode cX3_many 128 = .ok (.new 42, 3) := by decide +kernel
theorem dX3_many_131 : decode cX3_many 131 = .ok (.dup, 1) := by decide +kernel
theorem dX3_many_132 : decode cX3_many 132 = .ok (.ldc 254, 2) := by decide +kernel
theorem dX3_many_134 : decode cX3_many 134 = .ok (.invokespecial 46, 3) := by decide +kernel
theorem dX3_many_137 : decode cX3_many 137 = .ok (.athrow, 1) := by decide +kernel
set_option maxRecDepth 20000 in
theorem ggX3_whyNotReady_X0_isKnown : GoodIn wsX3_whyNotReady wsX0_isKnown := goodIn_r _ [9, 10, 11, 12, 33, 34, 35, 36, 37, 38, 39, 40, 41, 52, 53, 54] (by decide +kernel) (by decide +kernel)
set_option maxRecDepth 20000 in
theorem gX3_whyNotReady_X0_isKnown : GoodIn wsX3_whyNotReady (wsV RX3 256 RX0 yX0_isKnown wsX0_isKnown) := goodIn_app (goodIn_of _ (by decide +kernel)) ggX3_whyNotReady_X0_isKnown
set_option maxRecDepth 20000 in
theorem ggX3_whyNotReady_X2_isInLiveBout : GoodIn wsX3_whyNotReady wsX2_isInLiveBout := goodIn_r _ [17, 18, 19, 52, 53, 54, 55, 56, 57, 58, 59, 60, 61, 62, 63, 64, 65, 66, 67, 68] (by decide +kernel) (by decide +kernel)
set_option maxRecDepth 20000 in
theorem gX3_whyNotReady_X2_isInLiveBout : GoodIn wsX3_whyNotReady (wsV RX3 259 RX2 yX2_isInLiveBout wsX2_isInLiveBout) := goodIn_app (goodIn_of _ (by decide +kernel)) ggX3_whyNotReady_X2_isInLiveBout
set_option maxRecDepth 20000 in
theorem ggX3_whyNotReady_X0_restedAt : GoodIn wsX3_whyNotReady wsX0_restedAt := goodIn_r _ [23, 10, 12, 24, 25, 26, 27, 28, 29, 30, 16, 31, 18, 32, 33, 34, 35, 36, 37, 38, 39, 40, 41, 52, 53, 54, 55, 56, 57, 58, 59, 60, 61, 62, 63, 64, 65, 66, 67, 68] (by decide +kernel) (by decide +kernel)
set_option maxRecDepth 20000 in
theorem gX3_whyNotReady_X0_restedAt : GoodIn wsX3_whyNotReady (wsV RX3 238 RX0 yX0_restedAt wsX0_restedAt) := goodIn_app (goodIn_of _ (by decide +kernel)) ggX3_whyNotReady_X0_restedAt
theorem dX3_whyNotReady_0 : decode cX3_whyNotReady 0 = .ok (.aload_n 1, 1) := by decide +kernel
theorem dX3_whyNotReady_1 : decode cX3_whyNotReady 1 = .ok (.getfield 210, 3) := by decide +kernel
theorem dX3_whyNotReady_4 : decode cX3_whyNotReady 4 = .ok (.ifCond .eq 5, 3) := by decide +kernel
theorem dX3_whyNotReady_7 : decode cX3_whyNotReady 7 = .ok (.iconst 1, 1) := by decide +kernel
theorem dX3_whyNotReady_8 : decode cX3_whyNotReady 8 = .ok (.ireturn, 1) := by decide +kernel
theorem dX3_whyNotReady_9 : decode cX3_whyNotReady 9 = .ok (.aload_n 1, 1) := by decide +kernel
theorem dX3_whyNotReady_10 : decode cX3_whyNotReady 10 = .ok (.invokevirtual 256, 3) := by decide +kernel
theorem dX3_whyNotReady_13 : decode cX3_whyNotReady 13 = .ok (.ifCond .ne 5, 3) := by decide +kernel
theorem dX3_whyNotReady_16 : decode cX3_whyNotReady 16 = .ok (.iconst 2, 1) := by decide +kernel
theorem dX3_whyNotReady_17 : decode cX3_whyNotReady 17 = .ok (.ireturn, 1) := by decide +kernel
theorem dX3_whyNotReady_18 : decode cX3_whyNotReady 18 = .ok (.aload_n 1, 1) := by decide +kernel
theorem dX3_whyNotReady_19 : decode cX3_whyNotReady 19 = .ok (.getfield 172, 3) := by decide +kernel
theorem dX3_whyNotReady_22 : decode cX3_whyNotReady 22 = .ok (.invokevirtual 259, 3) := by decide +kernel
theorem dX3_whyNotReady_25 : decode cX3_whyNotReady 25 = .ok (.ifCond .ne 13, 3) := by decide +kernel
theorem dX3_whyNotReady_28 : decode cX3_whyNotReady 28 = .ok (.aload_n 1, 1) := by decide +kernel
theorem dX3_whyNotReady_29 : decode cX3_whyNotReady 29 = .ok (.getfield 181, 3) := by decide +kernel
theorem dX3_whyNotReady_32 : decode cX3_whyNotReady 32 = .ok (.invokevirtual 259, 3) := by decide +kernel
theorem dX3_whyNotReady_35 : decode cX3_whyNotReady 35 = .ok (.ifCond .eq 5, 3) := by decide +kernel
theorem dX3_whyNotReady_38 : decode cX3_whyNotReady 38 = .ok (.iconst 3, 1) := by decide +kernel
theorem dX3_whyNotReady_39 : decode cX3_whyNotReady 39 = .ok (.ireturn, 1) := by decide +kernel
theorem dX3_whyNotReady_40 : decode cX3_whyNotReady 40 = .ok (.aload_n 0, 1) := by decide +kernel
theorem dX3_whyNotReady_41 : decode cX3_whyNotReady 41 = .ok (.getfield 160, 3) := by decide +kernel
theorem dX3_whyNotReady_44 : decode cX3_whyNotReady 44 = .ok (.aload_n 1, 1) := by decide +kernel
theorem dX3_whyNotReady_45 : decode cX3_whyNotReady 45 = .ok (.invokevirtual 238, 3) := by decide +kernel
theorem dX3_whyNotReady_48 : decode cX3_whyNotReady 48 = .ok (.if_icmp .ge 7, 3) := by decide +kernel
theorem dX3_whyNotReady_51 : decode cX3_whyNotReady 51 = .ok (.iconst 4, 1) := by decide +kernel
theorem dX3_whyNotReady_52 : decode cX3_whyNotReady 52 = .ok (.goto 4, 3) := by decide +kernel
theorem dX3_whyNotReady_55 : decode cX3_whyNotReady 55 = .ok (.iconst 0, 1) := by decide +kernel
theorem dX3_whyNotReady_56 : decode cX3_whyNotReady 56 = .ok (.ireturn, 1) := by decide +kernel
set_option maxRecDepth 20000 in
theorem ggX3_isOverAfter_X0_secondsUntilOver : GoodIn wsX3_isOverAfter wsX0_secondsUntilOver := goodIn_r _ [6, 7, 8, 9, 10, 11, 12, 13, 14, 5, 15, 16, 17, 18, 19, 20, 21, 22, 23, 24, 145, 146, 147, 148, 149, 150, 151, 152, 153, 154, 155, 156] (by decide +kernel) (by decide +kernel)
set_option maxRecDepth 20000 in
theorem gX3_isOverAfter_X0_secondsUntilOver : GoodIn wsX3_isOverAfter (wsV RX3 262 RX0 yX0_secondsUntilOver wsX0_secondsUntilOver) := goodIn_app (goodIn_of _ (by decide +kernel)) ggX3_isOverAfter_X0_secondsUntilOver
set_option maxRecDepth 20000 in
theorem ggX3_isOverAfter_X0_goOn : GoodIn wsX3_isOverAfter wsX0_goOn := goodIn_r _ [28, 7, 8, 16, 17, 18, 5, 19, 20, 21, 22, 23, 24, 12, 13, 14, 15, 145, 146, 147, 148, 149, 150, 151, 152, 153] (by decide +kernel) (by decide +kernel)
set_option maxRecDepth 20000 in
theorem gX3_isOverAfter_X0_goOn : GoodIn wsX3_isOverAfter (wsV RX3 265 RX0 yX0_goOn wsX0_goOn) := goodIn_app (goodIn_of _ (by decide +kernel)) ggX3_isOverAfter_X0_goOn
set_option maxRecDepth 20000 in
theorem ggX3_isOverAfter_X0_winnerAsItStands : GoodIn wsX3_isOverAfter wsX0_winnerAsItStands := goodIn_r _ [32, 9, 10, 11, 33, 34, 35, 36, 5, 37, 38, 145, 146, 147, 148, 149, 150, 151, 152, 153, 154, 155, 156] (by decide +kernel) (by decide +kernel)
set_option maxRecDepth 20000 in
theorem gX3_isOverAfter_X0_winnerAsItStands : GoodIn wsX3_isOverAfter (wsV RX3 268 RX0 yX0_winnerAsItStands wsX0_winnerAsItStands) := goodIn_app (goodIn_of _ (by decide +kernel)) ggX3_isOverAfter_X0_winnerAsItStands
set_option maxRecDepth 20000 in
theorem ggX3_isOverAfter_X3_finish : GoodIn wsX3_isOverAfter wsX3_finish := goodIn_r _ [43, 44, 45, 46, 42, 47, 48, 49, 50, 51, 52, 53, 54, 55, 56, 57, 58, 5, 59, 60, 8, 7, 9, 11, 61, 62, 63, 64, 65, 66, 67, 68, 69, 70, 71, 72, 73, 74, 75, 76, 77, 78, 79, 80, 81, 21, 22, 23, 24, 82, 83, 84, 85, 86, 87, 88, 89, 90, 91, 92, 93, 94, 95, 96, 97, 98, 99, 100, 101, 102, 103, 104, 105, 106, 107, 108, 109, 110, 111, 112, 113, 114, 115, 116, 117, 118, 119, 120, 121, 122, 123, 124, 125, 126, 127, 128, 129, 130, 131, 132, 133, 134, 145, 146, 147, 148, 149, 150, 151, 152, 153, 135, 136, 137, 138, 139, 140, 141, 142, 143, 144, 154, 155, 156, 157, 158, 159, 160, 161, 162, 163, 164, 165, 166, 167, 168, 169, 170, 171, 172, 173] (by decide +kernel) (by decide +kernel)
set_option maxRecDepth 20000 in
theorem gX3_isOverAfter_X3_finish : GoodIn wsX3_isOverAfter (wsV RX3 271 RX3 yX3_finish wsX3_finish) := goodIn_app (goodIn_of _ (by decide +kernel)) ggX3_isOverAfter_X3_finish
theorem dX3_isOverAfter_0 : decode cX3_isOverAfter 0 = .ok (.aload_n 1, 1) := by decide +kernel
theorem dX3_isOverAfter_1 : decode cX3_isOverAfter 1 = .ok (.invokevirtual 262, 3) := by decide +kernel
theorem dX3_isOverAfter_4 : decode cX3_isOverAfter 4 = .ok (.istore_n 3, 1) := by decide +kernel
theorem dX3_isOverAfter_5 : decode cX3_isOverAfter 5 = .ok (.iload_n 2, 1) := by decide +kernel
theorem dX3_isOverAfter_6 : decode cX3_isOverAfter 6 = .ok (.iload_n 3, 1) := by decide +kernel
theorem dX3_isOverAfter_7 : decode cX3_isOverAfter 7 = .ok (.if_icmp .ge 10, 3) := by decide +kernel
theorem dX3_isOverAfter_10 : decode cX3_isOverAfter 10 = .ok (.aload_n 1, 1) := by decide +kernel
theorem dX3_isOverAfter_11 : decode cX3_isOverAfter 11 = .ok (.iload_n 2, 1) := by decide +kernel
theorem dX3_isOverAfter_12 : decode cX3_isOverAfter 12 = .ok (.invokevirtual 265, 3) := by decide +kernel
theorem dX3_isOverAfter_15 : decode cX3_isOverAfter 15 = .ok (.iconst 0, 1) := by decide +kernel
theorem dX3_isOverAfter_16 : decode cX3_isOverAfter 16 = .ok (.ireturn, 1) := by decide +kernel
theorem dX3_isOverAfter_17 : decode cX3_isOverAfter 17 = .ok (.aload_n 0, 1) := by decide +kernel
theorem dX3_isOverAfter_18 : decode cX3_isOverAfter 18 = .ok (.aload_n 1, 1) := by decide +kernel
theorem dX3_isOverAfter_19 : decode cX3_isOverAfter 19 = .ok (.aload_n 1, 1) := by decide +kernel
theorem dX3_isOverAfter_20 : decode cX3_isOverAfter 20 = .ok (.invokevirtual 268, 3) := by decide +kernel
theorem dX3_isOverAfter_23 : decode cX3_isOverAfter 23 = .ok (.aload_n 0, 1) := by decide +kernel
theorem dX3_isOverAfter_24 : decode cX3_isOverAfter 24 = .ok (.getfield 160, 3) := by decide +kernel
theorem dX3_isOverAfter_27 : decode cX3_isOverAfter 27 = .ok (.iload_n 3, 1) := by decide +kernel
theorem dX3_isOverAfter_28 : decode cX3_isOverAfter 28 = .ok (.iadd, 1) := by decide +kernel
theorem dX3_isOverAfter_29 : decode cX3_isOverAfter 29 = .ok (.invokevirtual 271, 3) := by decide +kernel
theorem dX3_isOverAfter_32 : decode cX3_isOverAfter 32 = .ok (.iconst 1, 1) := by decide +kernel
theorem dX3_isOverAfter_33 : decode cX3_isOverAfter 33 = .ok (.ireturn, 1) := by decide +kernel
set_option maxRecDepth 20000 in
theorem ggX3_isOverByHit_X0_isDecidedByHit : GoodIn wsX3_isOverByHit wsX0_isDecidedByHit := goodIn_r _ [6, 7, 8, 9, 10, 11, 12, 5, 13, 14, 15, 16, 17, 18, 19, 20, 21, 22, 23, 24, 25, 26, 27, 145, 146, 147, 148, 149, 150, 151, 152, 153, 154, 155, 156] (by decide +kernel) (by decide +kernel)
set_option maxRecDepth 20000 in
theorem gX3_isOverByHit_X0_isDecidedByHit : GoodIn wsX3_isOverByHit (wsV RX3 275 RX0 yX0_isDecidedByHit wsX0_isDecidedByHit) := goodIn_app (goodIn_of _ (by decide +kernel)) ggX3_isOverByHit_X0_isDecidedByHit
set_option maxRecDepth 20000 in
theorem ggX3_isOverByHit_X0_winnerAsItStands : GoodIn wsX3_isOverByHit wsX0_winnerAsItStands := goodIn_r _ [31, 7, 8, 9, 32, 33, 34, 35, 5, 36, 37, 145, 146, 147, 148, 149, 150, 151, 152, 153, 154, 155, 156] (by decide +kernel) (by decide +kernel)
set_option maxRecDepth 20000 in
theorem gX3_isOverByHit_X0_winnerAsItStands : GoodIn wsX3_isOverByHit (wsV RX3 268 RX0 yX0_winnerAsItStands wsX0_winnerAsItStands) := goodIn_app (goodIn_of _ (by decide +kernel)) ggX3_isOverByHit_X0_winnerAsItStands
set_option maxRecDepth 20000 in
theorem ggX3_isOverByHit_X3_finish : GoodIn wsX3_isOverByHit wsX3_finish := goodIn_r _ [42, 43, 44, 45, 41, 46, 47, 48, 49, 50, 51, 52, 53, 54, 55, 56, 57, 5, 58, 59, 14, 60, 7, 9, 61, 62, 63, 64, 65, 66, 67, 68, 69, 70, 71, 72, 73, 74, 75, 76, 77, 78, 79, 80, 81, 20, 21, 22, 23, 82, 83, 84, 85, 86, 87, 88, 89, 90, 91, 92, 93, 94, 95, 96, 97, 98, 99, 100, 101, 102, 103, 104, 105, 106, 107, 108, 109, 110, 111, 112, 113, 114, 115, 116, 117, 118, 119, 120, 121, 122, 123, 124, 125, 126, 127, 128, 129, 130, 131, 132, 133, 134, 145, 146, 147, 148, 149, 150, 151, 152, 153, 135, 136, 137, 138, 139, 140, 141, 142, 143, 144, 154, 155, 156, 157, 158, 159, 160, 161, 162, 163, 164, 165, 166, 167, 168, 169, 170, 171, 172, 173] (by decide +kernel) (by decide +kernel)
set_option maxRecDepth 20000 in
theorem gX3_isOverByHit_X3_finish : GoodIn wsX3_isOverByHit (wsV RX3 271 RX3 yX3_finish wsX3_finish) := goodIn_app (goodIn_of _ (by decide +kernel)) ggX3_isOverByHit_X3_finish
theorem dX3_isOverByHit_0 : decode cX3_isOverByHit 0 = .ok (.aload_n 1, 1) := by decide +kernel
theorem dX3_isOverByHit_1 : decode cX3_isOverByHit 1 = .ok (.invokevirtual 275, 3) := by decide +kernel
theorem dX3_isOverByHit_4 : decode cX3_isOverByHit 4 = .ok (.ifCond .ne 5, 3) := by decide +kernel
theorem dX3_isOverByHit_7 : decode cX3_isOverByHit 7 = .ok (.iconst 0, 1) := by decide +kernel
theorem dX3_isOverByHit_8 : decode cX3_isOverByHit 8 = .ok (.ireturn, 1) := by decide +kernel
theorem dX3_isOverByHit_9 : decode cX3_isOverByHit 9 = .ok (.aload_n 0, 1) := by decide +kernel
theorem dX3_isOverByHit_10 : decode cX3_isOverByHit 10 = .ok (.aload_n 1, 1) := by decide +kernel
theorem dX3_isOverByHit_11 : decode cX3_isOverByHit 11 = .ok (.aload_n 1, 1) := by decide +kernel
theorem dX3_isOverByHit_12 : decode cX3_isOverByHit 12 = .ok (.invokevirtual 268, 3) := by decide +kernel
theorem dX3_isOverByHit_15 : decode cX3_isOverByHit 15 = .ok (.aload_n 0, 1) := by decide +kernel
theorem dX3_isOverByHit_16 : decode cX3_isOverByHit 16 = .ok (.getfield 160, 3) := by decide +kernel
theorem dX3_isOverByHit_19 : decode cX3_isOverByHit 19 = .ok (.invokevirtual 271, 3) := by decide +kernel
theorem dX3_isOverByHit_22 : decode cX3_isOverByHit 22 = .ok (.iconst 1, 1) := by decide +kernel
theorem dX3_isOverByHit_23 : decode cX3_isOverByHit 23 = .ok (.ireturn, 1) := by decide +kernel
set_option maxRecDepth 20000 in
theorem ggX3_putOut_X0_isOfTable : GoodIn wsX3_putOut wsX0_isOfTable := goodIn_r _ [12, 13, 136, 137, 138, 139, 140, 141, 142, 143, 144] (by decide +kernel) (by decide +kernel)
set_option maxRecDepth 20000 in
theorem gX3_putOut_X0_isOfTable : GoodIn wsX3_putOut (wsV RX3 278 RX0 yX0_isOfTable wsX0_isOfTable) := goodIn_app (goodIn_of _ (by decide +kernel)) ggX3_putOut_X0_isOfTable
set_option maxRecDepth 20000 in
theorem ggX3_putOut_X3_finish : GoodIn wsX3_putOut wsX3_finish := goodIn_r _ [18, 19, 20, 21, 17, 22, 23, 24, 25, 26, 27, 28, 29, 30, 31, 32, 33, 11, 34, 35, 36, 37, 38, 39, 40, 41, 42, 43, 44, 45, 46, 47, 48, 49, 50, 51, 52, 53, 5, 54, 7, 6, 55, 56, 8, 9, 10, 12, 13, 57, 58, 59, 60, 61, 62, 63, 64, 65, 66, 67, 68, 69, 70, 71, 72, 73, 74, 75, 76, 77, 78, 79, 80, 3, 4, 81, 82, 83, 84, 85, 86, 87, 88, 89, 90, 91, 92, 93, 94, 95, 96, 97, 98, 99, 100, 101, 102, 103, 104, 105, 106, 107, 136, 137, 138, 139, 140, 141, 142, 143, 144, 126, 127, 128, 129, 130, 131, 132, 133, 134, 135, 145, 146, 147, 112, 113, 114, 115, 116, 117, 118, 119, 120, 121, 122, 123, 124, 125, 148, 149, 150] (by decide +kernel) (by decide +kernel)
set_option maxRecDepth 20000 in
theorem gX3_putOut_X3_finish : GoodIn wsX3_putOut (wsV RX3 271 RX3 yX3_finish wsX3_finish) := goodIn_app (goodIn_of _ (by decide +kernel)) ggX3_putOut_X3_finish
set_option maxRecDepth 20000 in
theorem ggX3_putOut_X3_leavePiste : GoodIn wsX3_putOut wsX3_leavePiste := goodIn_r _ [22, 23, 24, 25, 26, 17, 27, 28, 29, 30, 31, 32, 33, 11, 34, 35, 36, 37, 38, 39, 40, 41, 42, 43, 44, 45, 46, 47, 136, 137, 138, 139, 140, 141, 142, 143, 144, 126, 127, 128, 129, 130, 131, 132, 133, 134, 135, 145, 146, 147, 112, 113, 114, 115, 116, 117, 118, 119, 120, 121, 122, 123, 124, 125] (by decide +kernel) (by decide +kernel)
set_option maxRecDepth 20000 in
theorem gX3_putOut_X3_leavePiste : GoodIn wsX3_putOut (wsV RX3 281 RX3 yX3_leavePiste wsX3_leavePiste) := goodIn_app (goodIn_of _ (by decide +kernel)) ggX3_putOut_X3_leavePiste
set_option maxRecDepth 20000 in
theorem ggX3_putOut_Jx4a65c_size_8abf5 : GoodIn wsX3_putOut wsJx4a65c_size_8abf5 := goodIn_r _ [85, 86, 148, 149, 150] (by decide +kernel) (by decide +kernel)
set_option maxRecDepth 20000 in
theorem gX3_putOut_Jx4a65c_size_8abf5 : GoodIn wsX3_putOut (wsV RX3 49 RJx4a65c yJx4a65c_size_8abf5 wsJx4a65c_size_8abf5) := goodIn_app (goodIn_of _ (by decide +kernel)) ggX3_putOut_Jx4a65c_size_8abf5
set_option maxRecDepth 20000 in
theorem ggX3_putOut_Jx4a65c_get_915e3 : GoodIn wsX3_putOut wsJx4a65c_get_915e3 := goodIn_r _ [90, 86, 91, 92, 93, 94, 95, 96, 97, 98, 99, 100, 101, 84, 102, 103, 148, 149, 150] (by decide +kernel) (by decide +kernel)
set_option maxRecDepth 20000 in
theorem gX3_putOut_Jx4a65c_get_915e3 : GoodIn wsX3_putOut (wsV RX3 124 RJx4a65c yJx4a65c_get_915e3 wsJx4a65c_get_915e3) := goodIn_app (goodIn_of _ (by decide +kernel)) ggX3_putOut_Jx4a65c_get_915e3
set_option maxRecDepth 20000 in
theorem ggX3_putOut_X3_makeVoid : GoodIn wsX3_putOut wsX3_makeVoid := goodIn_r _ [111, 52, 53, 5, 54, 7, 57, 58, 59, 11, 60, 38, 39, 61, 62, 63, 43, 64, 45, 65, 66, 67, 68, 69, 70, 71, 72, 73, 136, 137, 138, 139, 140, 141, 142, 143, 144, 145, 146, 147, 112, 113, 114, 115, 116, 117, 118, 119, 120, 121, 122, 123, 124, 125] (by decide +kernel) (by decide +kernel)
set_option maxRecDepth 20000 in
theorem gX3_putOut_X3_makeVoid : GoodIn wsX3_putOut (wsV RX3 285 RX3 yX3_makeVoid wsX3_makeVoid) := goodIn_app (goodIn_of _ (by decide +kernel)) ggX3_putOut_X3_makeVoid
theorem dX3_putOut_0 : decode cX3_putOut 0 = .ok (.aload_n 2, 1) := by decide +kernel
theorem dX3_putOut_1 : decode cX3_putOut 1 = .ok (.ifnonnull 4, 3) := by decide +kernel
theorem dX3_putOut_4 : decode cX3_putOut 4 = .ok (.return_, 1) := by decide +kernel
theorem dX3_putOut_5 : decode cX3_putOut 5 = .ok (.aload_n 2, 1) := by decide +kernel
theorem dX3_putOut_6 : decode cX3_putOut 6 = .ok (.iconst 1, 1) := by decide +kernel
theorem dX3_putOut_7 : decode cX3_putOut 7 = .ok (.putfield 100, 3) := by decide +kernel
theorem dX3_putOut_10 : decode cX3_putOut 10 = .ok (.aload_n 1, 1) := by decide +kernel
theorem dX3_putOut_11 : decode cX3_putOut 11 = .ok (.invokevirtual 278, 3) := by decide +kernel
theorem dX3_putOut_14 : decode cX3_putOut 14 = .ok (.ifCond .eq 14, 3) := by decide +kernel
theorem dX3_putOut_17 : decode cX3_putOut 17 = .ok (.aload_n 0, 1) := by decide +kernel
theorem dX3_putOut_18 : decode cX3_putOut 18 = .ok (.aload_n 1, 1) := by decide +kernel
theorem dX3_putOut_19 : decode cX3_putOut 19 = .ok (.aload_n 3, 1) := by decide +kernel
theorem dX3_putOut_20 : decode cX3_putOut 20 = .ok (.aload_n 0, 1) := by decide +kernel
theorem dX3_putOut_21 : decode cX3_putOut 21 = .ok (.getfield 160, 3) := by decide +kernel
theorem dX3_putOut_24 : decode cX3_putOut 24 = .ok (.invokevirtual 271, 3) := by decide +kernel
theorem dX3_putOut_27 : decode cX3_putOut 27 = .ok (.return_, 1) := by decide +kernel
theorem dX3_putOut_28 : decode cX3_putOut 28 = .ok (.aload_n 0, 1) := by decide +kernel
theorem dX3_putOut_29 : decode cX3_putOut 29 = .ok (.aload_n 1, 1) := by decide +kernel
theorem dX3_putOut_30 : decode cX3_putOut 30 = .ok (.aload_n 0, 1) := by decide +kernel
theorem dX3_putOut_31 : decode cX3_putOut 31 = .ok (.getfield 160, 3) := by decide +kernel
theorem dX3_putOut_34 : decode cX3_putOut 34 = .ok (.invokevirtual 281, 3) := by decide +kernel
theorem dX3_putOut_37 : decode cX3_putOut 37 = .ok (.iconst 0, 1) := by decide +kernel
theorem dX3_putOut_38 : decode cX3_putOut 38 = .ok (.istore 4, 2) := by decide +kernel
theorem dX3_putOut_40 : decode cX3_putOut 40 = .ok (.iload 4, 2) := by decide +kernel
theorem dX3_putOut_42 : decode cX3_putOut 42 = .ok (.aload_n 0, 1) := by decide +kernel
theorem dX3_putOut_43 : decode cX3_putOut 43 = .ok (.getfield 16, 3) := by decide +kernel
theorem dX3_putOut_46 : decode cX3_putOut 46 = .ok (.invokevirtual 49, 3) := by decide +kernel
theorem dX3_putOut_49 : decode cX3_putOut 49 = .ok (.if_icmp .ge 53, 3) := by decide +kernel
theorem dX3_putOut_52 : decode cX3_putOut 52 = .ok (.aload_n 0, 1) := by decide +kernel
theorem dX3_putOut_53 : decode cX3_putOut 53 = .ok (.getfield 16, 3) := by decide +kernel
theorem dX3_putOut_56 : decode cX3_putOut 56 = .ok (.iload 4, 2) := by decide +kernel
theorem dX3_putOut_58 : decode cX3_putOut 58 = .ok (.invokevirtual 124, 3) := by decide +kernel
theorem dX3_putOut_61 : decode cX3_putOut 61 = .ok (.checkcast 19, 3) := by decide +kernel
theorem dX3_putOut_64 : decode cX3_putOut 64 = .ok (.astore 5, 2) := by decide +kernel
theorem dX3_putOut_66 : decode cX3_putOut 66 = .ok (.aload 5, 2) := by decide +kernel
theorem dX3_putOut_68 : decode cX3_putOut 68 = .ok (.getfield 172, 3) := by decide +kernel
theorem dX3_putOut_71 : decode cX3_putOut 71 = .ok (.getfield 202, 3) := by decide +kernel
theorem dX3_putOut_74 : decode cX3_putOut 74 = .ok (.aload_n 2, 1) := by decide +kernel
theorem dX3_putOut_75 : decode cX3_putOut 75 = .ok (.if_acmp .eq 15, 3) := by decide +kernel
theorem dX3_putOut_78 : decode cX3_putOut 78 = .ok (.aload 5, 2) := by decide +kernel
theorem dX3_putOut_80 : decode cX3_putOut 80 = .ok (.getfield 181, 3) := by decide +kernel
theorem dX3_putOut_83 : decode cX3_putOut 83 = .ok (.getfield 202, 3) := by decide +kernel
theorem dX3_putOut_86 : decode cX3_putOut 86 = .ok (.aload_n 2, 1) := by decide +kernel
theorem dX3_putOut_87 : decode cX3_putOut 87 = .ok (.if_acmp .ne 9, 3) := by decide +kernel
theorem dX3_putOut_90 : decode cX3_putOut 90 = .ok (.aload_n 0, 1) := by decide +kernel
theorem dX3_putOut_91 : decode cX3_putOut 91 = .ok (.aload 5, 2) := by decide +kernel
theorem dX3_putOut_93 : decode cX3_putOut 93 = .ok (.invokevirtual 285, 3) := by decide +kernel
theorem dX3_putOut_96 : decode cX3_putOut 96 = .ok (.iinc 4 1, 3) := by decide +kernel
theorem dX3_putOut_99 : decode cX3_putOut 99 = .ok (.goto (-59), 3) := by decide +kernel
theorem dX3_putOut_102 : decode cX3_putOut 102 = .ok (.return_, 1) := by decide +kernel
set_option maxRecDepth 20000 in
theorem ggX3_makeVoid_X0_count : GoodIn wsX3_makeVoid wsX0_count := goodIn_r _ [10, 11, 12, 13, 14, 15, 16, 17, 18, 19, 20, 21, 22, 23, 24, 25, 26, 27, 28, 29, 30, 31, 32, 33, 34, 35, 36, 37, 38, 39, 40, 41, 42, 43, 44, 45, 46, 47, 48, 49, 50, 51, 52, 53] (by decide +kernel) (by decide +kernel)
set_option maxRecDepth 20000 in
theorem gX3_makeVoid_X0_count : GoodIn wsX3_makeVoid (wsV RX3 289 RX0 yX0_count wsX0_count) := goodIn_app (goodIn_of _ (by decide +kernel)) ggX3_makeVoid_X0_count
theorem dX3_makeVoid_0 : decode cX3_makeVoid 0 = .ok (.aload_n 1, 1) := by decide +kernel
theorem dX3_makeVoid_1 : decode cX3_makeVoid 1 = .ok (.getfield 210, 3) := by decide +kernel
theorem dX3_makeVoid_4 : decode cX3_makeVoid 4 = .ok (.iconst 2, 1) := by decide +kernel
theorem dX3_makeVoid_5 : decode cX3_makeVoid 5 = .ok (.if_icmp .ne 26, 3) := by decide +kernel
theorem dX3_makeVoid_8 : decode cX3_makeVoid 8 = .ok (.aload_n 1, 1) := by decide +kernel
theorem dX3_makeVoid_9 : decode cX3_makeVoid 9 = .ok (.aload_n 1, 1) := by decide +kernel
theorem dX3_makeVoid_10 : decode cX3_makeVoid 10 = .ok (.getfield 217, 3) := by decide +kernel
theorem dX3_makeVoid_13 : decode cX3_makeVoid 13 = .ok (.aload_n 1, 1) := by decide +kernel
theorem dX3_makeVoid_14 : decode cX3_makeVoid 14 = .ok (.getfield 172, 3) := by decide +kernel
theorem dX3_makeVoid_17 : decode cX3_makeVoid 17 = .ok (.getfield 176, 3) := by decide +kernel
theorem dX3_makeVoid_20 : decode cX3_makeVoid 20 = .ok (.aload_n 1, 1) := by decide +kernel
theorem dX3_makeVoid_21 : decode cX3_makeVoid 21 = .ok (.getfield 181, 3) := by decide +kernel
theorem dX3_makeVoid_24 : decode cX3_makeVoid 24 = .ok (.getfield 176, 3) := by decide +kernel
theorem dX3_makeVoid_27 : decode cX3_makeVoid 27 = .ok (.iconst (-1), 1) := by decide +kernel
theorem dX3_makeVoid_28 : decode cX3_makeVoid 28 = .ok (.invokevirtual 289, 3) := by decide +kernel
theorem dX3_makeVoid_31 : decode cX3_makeVoid 31 = .ok (.aload_n 1, 1) := by decide +kernel
theorem dX3_makeVoid_32 : decode cX3_makeVoid 32 = .ok (.iconst 3, 1) := by decide +kernel
theorem dX3_makeVoid_33 : decode cX3_makeVoid 33 = .ok (.putfield 210, 3) := by decide +kernel
theorem dX3_makeVoid_36 : decode cX3_makeVoid 36 = .ok (.aload_n 1, 1) := by decide +kernel
theorem dX3_makeVoid_37 : decode cX3_makeVoid 37 = .ok (.aconst_null, 1) := by decide +kernel
theorem dX3_makeVoid_38 : decode cX3_makeVoid 38 = .ok (.putfield 217, 3) := by decide +kernel
theorem dX3_makeVoid_41 : decode cX3_makeVoid 41 = .ok (.return_, 1) := by decide +kernel
set_option maxRecDepth 20000 in
theorem ggX3_finish_X3_leavePiste : GoodIn wsX3_finish wsX3_leavePiste := goodIn_r _ [5, 6, 7, 8, 9, 4, 10, 11, 12, 13, 14, 15, 16, 17, 18, 19, 20, 21, 22, 23, 24, 25, 26, 27, 28, 29, 30, 31, 102, 103, 104, 105, 106, 107, 108, 109, 110, 111, 112, 113, 114, 115, 116, 117, 118, 119, 120, 121, 122, 123, 124, 125, 126, 127, 128, 129, 130, 131, 132, 133, 134, 135, 136, 137] (by decide +kernel) (by decide +kernel)
set_option maxRecDepth 20000 in
theorem gX3_finish_X3_leavePiste : GoodIn wsX3_finish (wsV RX3 281 RX3 yX3_leavePiste wsX3_leavePiste) := goodIn_app (goodIn_of _ (by decide +kernel)) ggX3_finish_X3_leavePiste
set_option maxRecDepth 20000 in
theorem ggX3_finish_X3_decide : GoodIn wsX3_finish wsX3_decide := goodIn_r _ [35, 36, 37, 38, 39, 40, 41, 42, 43, 44, 45, 46, 17, 47, 48, 49, 50, 51, 52, 22, 23, 53, 54, 55, 27, 56, 29, 57, 58, 59, 60, 61, 62, 63, 64, 65, 66, 67, 68, 4, 69, 70, 71, 72, 73, 74, 75, 76, 77, 78, 79, 80, 11, 12, 13, 81, 82, 83, 84, 85, 86, 87, 88, 89, 90, 91, 92, 93, 94, 95, 96, 97, 98, 99, 100, 101, 102, 103, 104, 105, 106, 107, 108, 109, 110, 121, 122, 123, 124, 125, 126, 127, 128, 129, 130, 131, 132, 133, 134, 135, 136, 137, 111, 112, 113, 114, 115, 116, 117, 118, 119, 120, 138, 139, 140] (by decide +kernel) (by decide +kernel)
set_option maxRecDepth 20000 in
theorem gX3_finish_X3_decide : GoodIn wsX3_finish (wsV RX3 293 RX3 yX3_decide wsX3_decide) := goodIn_app (goodIn_of _ (by decide +kernel)) ggX3_finish_X3_decide
theorem dX3_finish_0 : decode cX3_finish 0 = .ok (.aload_n 0, 1) := by decide +kernel
theorem dX3_finish_1 : decode cX3_finish 1 = .ok (.aload_n 1, 1) := by decide +kernel
theorem dX3_finish_2 : decode cX3_finish 2 = .ok (.iload_n 3, 1) := by decide +kernel
theorem dX3_finish_3 : decode cX3_finish 3 = .ok (.invokevirtual 281, 3) := by decide +kernel
theorem dX3_finish_6 : decode cX3_finish 6 = .ok (.aload_n 0, 1) := by decide +kernel
theorem dX3_finish_7 : decode cX3_finish 7 = .ok (.aload_n 1, 1) := by decide +kernel
theorem dX3_finish_8 : decode cX3_finish 8 = .ok (.aload_n 2, 1) := by decide +kernel
theorem dX3_finish_9 : decode cX3_finish 9 = .ok (.invokevirtual 293, 3) := by decide +kernel
theorem dX3_finish_12 : decode cX3_finish 12 = .ok (.return_, 1) := by decide +kernel
set_option maxRecDepth 20000 in
theorem ggX3_leavePiste_X3_isPiste : GoodIn wsX3_leavePiste wsX3_isPiste := goodIn_r _ [6, 7, 8, 5, 9] (by decide +kernel) (by decide +kernel)
set_option maxRecDepth 20000 in
theorem gX3_leavePiste_X3_isPiste : GoodIn wsX3_leavePiste (va_wsS RX3 139 yX3_isPiste wsX3_isPiste) := goodIn_app (goodIn_of _ (by decide +kernel)) ggX3_leavePiste_X3_isPiste
set_option maxRecDepth 20000 in
theorem ggX3_leavePiste_X0_end : GoodIn wsX3_leavePiste wsX0_end := goodIn_r _ [14, 15, 16, 17, 18, 19, 20, 21, 22, 23, 24, 25, 26, 27, 28, 29, 30, 31, 32, 33, 34, 35, 36, 47, 48, 49, 50, 51, 52, 53, 54, 55, 56, 57, 58, 59, 60, 61, 62, 63] (by decide +kernel) (by decide +kernel)
set_option maxRecDepth 20000 in
theorem gX3_leavePiste_X0_end : GoodIn wsX3_leavePiste (wsV RX3 297 RX0 yX0_end wsX0_end) := goodIn_app (goodIn_of _ (by decide +kernel)) ggX3_leavePiste_X0_end
theorem dX3_leavePiste_0 : decode cX3_leavePiste 0 = .ok (.aload_n 1, 1) := by decide +kernel
theorem dX3_leavePiste_1 : decode cX3_leavePiste 1 = .ok (.getfield 220, 3) := by decide +kernel
theorem dX3_leavePiste_4 : decode cX3_leavePiste 4 = .ok (.invokestatic 139, 3) := by decide +kernel
theorem dX3_leavePiste_7 : decode cX3_leavePiste 7 = .ok (.ifCond .eq 13, 3) := by decide +kernel
theorem dX3_leavePiste_10 : decode cX3_leavePiste 10 = .ok (.aload_n 0, 1) := by decide +kernel
theorem dX3_leavePiste_11 : decode cX3_leavePiste 11 = .ok (.getfield 21, 3) := by decide +kernel
theorem dX3_leavePiste_14 : decode cX3_leavePiste 14 = .ok (.aload_n 1, 1) := by decide +kernel
theorem dX3_leavePiste_15 : decode cX3_leavePiste 15 = .ok (.getfield 220, 3) := by decide +kernel
theorem dX3_leavePiste_18 : decode cX3_leavePiste 18 = .ok (.aconst_null, 1) := by decide +kernel
theorem dX3_leavePiste_19 : decode cX3_leavePiste 19 = .ok (.aastore, 1) := by decide +kernel
theorem dX3_leavePiste_20 : decode cX3_leavePiste 20 = .ok (.aload_n 1, 1) := by decide +kernel
theorem dX3_leavePiste_21 : decode cX3_leavePiste 21 = .ok (.iload_n 2, 1) := by decide +kernel
theorem dX3_leavePiste_22 : decode cX3_leavePiste 22 = .ok (.invokevirtual 297, 3) := by decide +kernel
theorem dX3_leavePiste_25 : decode cX3_leavePiste 25 = .ok (.return_, 1) := by decide +kernel
set_option maxRecDepth 20000 in
theorem ggX3_decide_X0_isOfTable : GoodIn wsX3_decide wsX0_isOfTable := goodIn_r _ [13, 14, 76, 77, 78, 79, 80, 81, 82, 83, 84] (by decide +kernel) (by decide +kernel)
set_option maxRecDepth 20000 in
theorem gX3_decide_X0_isOfTable : GoodIn wsX3_decide (wsV RX3 278 RX0 yX0_isOfTable wsX0_isOfTable) := goodIn_app (goodIn_of _ (by decide +kernel)) ggX3_decide_X0_isOfTable
set_option maxRecDepth 20000 in
theorem ggX3_decide_X0_count : GoodIn wsX3_decide wsX0_count := goodIn_r _ [18, 19, 20, 21, 22, 23, 24, 25, 26, 27, 28, 29, 30, 31, 32, 33, 34, 35, 76, 77, 78, 79, 80, 81, 82, 83, 84, 85, 86, 87, 88, 89, 90, 91, 92, 93, 94, 95, 96, 97, 98, 99, 100, 101] (by decide +kernel) (by decide +kernel)
set_option maxRecDepth 20000 in
theorem gX3_decide_X0_count : GoodIn wsX3_decide (wsV RX3 289 RX0 yX0_count wsX0_count) := goodIn_app (goodIn_of _ (by decide +kernel)) ggX3_decide_X0_count
set_option maxRecDepth 20000 in
theorem ggX3_decide_X3_goOnInTable : GoodIn wsX3_decide wsX3_goOnInTable := goodIn_r _ [40, 41, 42, 43, 44, 45, 2, 6, 46, 47, 48, 49, 50, 51, 52, 53, 39, 54, 55, 56, 57, 58, 59, 60, 61, 62, 63, 64, 65, 66, 67, 68, 69, 70, 71, 72, 73, 74, 12, 75, 19, 20, 76, 77, 78, 79, 80, 81, 82, 83, 84, 102, 103, 104, 105, 106, 107, 108, 109, 110, 111, 85, 86, 87, 112, 113, 114] (by decide +kernel) (by decide +kernel)
set_option maxRecDepth 20000 in
theorem gX3_decide_X3_goOnInTable : GoodIn wsX3_decide (wsV RX3 306 RX3 yX3_goOnInTable wsX3_goOnInTable) := goodIn_app (goodIn_of _ (by decide +kernel)) ggX3_decide_X3_goOnInTable
theorem dX3_decide_0 : decode cX3_decide 0 = .ok (.aload_n 1, 1) := by decide +kernel
theorem dX3_decide_1 : decode cX3_decide 1 = .ok (.iconst 2, 1) := by decide +kernel
theorem dX3_decide_2 : decode cX3_decide 2 = .ok (.putfield 210, 3) := by decide +kernel
theorem dX3_decide_5 : decode cX3_decide 5 = .ok (.aload_n 1, 1) := by decide +kernel
theorem dX3_decide_6 : decode cX3_decide 6 = .ok (.aload_n 2, 1) := by decide +kernel
theorem dX3_decide_7 : decode cX3_decide 7 = .ok (.putfield 217, 3) := by decide +kernel
theorem dX3_decide_10 : decode cX3_decide 10 = .ok (.aload_n 1, 1) := by decide +kernel
theorem dX3_decide_11 : decode cX3_decide 11 = .ok (.invokevirtual 278, 3) := by decide +kernel
theorem dX3_decide_14 : decode cX3_decide 14 = .ok (.ifCond .ne 24, 3) := by decide +kernel
theorem dX3_decide_17 : decode cX3_decide 17 = .ok (.aload_n 1, 1) := by decide +kernel
theorem dX3_decide_18 : decode cX3_decide 18 = .ok (.aload_n 2, 1) := by decide +kernel
theorem dX3_decide_19 : decode cX3_decide 19 = .ok (.aload_n 1, 1) := by decide +kernel
theorem dX3_decide_20 : decode cX3_decide 20 = .ok (.getfield 172, 3) := by decide +kernel
theorem dX3_decide_23 : decode cX3_decide 23 = .ok (.getfield 176, 3) := by decide +kernel
theorem dX3_decide_26 : decode cX3_decide 26 = .ok (.aload_n 1, 1) := by decide +kernel
theorem dX3_decide_27 : decode cX3_decide 27 = .ok (.getfield 181, 3) := by decide +kernel
theorem dX3_decide_30 : decode cX3_decide 30 = .ok (.getfield 176, 3) := by decide +kernel
theorem dX3_decide_33 : decode cX3_decide 33 = .ok (.iconst 1, 1) := by decide +kernel
theorem dX3_decide_34 : decode cX3_decide 34 = .ok (.invokevirtual 289, 3) := by decide +kernel
theorem dX3_decide_37 : decode cX3_decide 37 = .ok (.return_, 1) := by decide +kernel
theorem dX3_decide_38 : decode cX3_decide 38 = .ok (.aload_n 1, 1) := by decide +kernel
theorem dX3_decide_39 : decode cX3_decide 39 = .ok (.getfield 172, 3) := by decide +kernel
theorem dX3_decide_42 : decode cX3_decide 42 = .ok (.getfield 202, 3) := by decide +kernel
theorem dX3_decide_45 : decode cX3_decide 45 = .ok (.aload_n 2, 1) := by decide +kernel
theorem dX3_decide_46 : decode cX3_decide 46 = .ok (.if_acmp .ne 13, 3) := by decide +kernel
theorem dX3_decide_49 : decode cX3_decide 49 = .ok (.aload_n 1, 1) := by decide +kernel
theorem dX3_decide_50 : decode cX3_decide 50 = .ok (.getfield 181, 3) := by decide +kernel
theorem dX3_decide_53 : decode cX3_decide 53 = .ok (.getfield 202, 3) := by decide +kernel
theorem dX3_decide_56 : decode cX3_decide 56 = .ok (.goto 10, 3) := by decide +kernel
theorem dX3_decide_59 : decode cX3_decide 59 = .ok (.aload_n 1, 1) := by decide +kernel
theorem dX3_decide_60 : decode cX3_decide 60 = .ok (.getfield 172, 3) := by decide +kernel
theorem dX3_decide_63 : decode cX3_decide 63 = .ok (.getfield 202, 3) := by decide +kernel
theorem dX3_decide_66 : decode cX3_decide 66 = .ok (.astore_n 3, 1) := by decide +kernel
theorem dX3_decide_67 : decode cX3_decide 67 = .ok (.aload_n 3, 1) := by decide +kernel
theorem dX3_decide_68 : decode cX3_decide 68 = .ok (.ifnull 11, 3) := by decide +kernel
theorem dX3_decide_71 : decode cX3_decide 71 = .ok (.aload_n 3, 1) := by decide +kernel
theorem dX3_decide_72 : decode cX3_decide 72 = .ok (.aload_n 1, 1) := by decide +kernel
theorem dX3_decide_73 : decode cX3_decide 73 = .ok (.getfield 300, 3) := by decide +kernel
theorem dX3_decide_76 : decode cX3_decide 76 = .ok (.putfield 303, 3) := by decide +kernel
theorem dX3_decide_79 : decode cX3_decide 79 = .ok (.aload_n 0, 1) := by decide +kernel
theorem dX3_decide_80 : decode cX3_decide 80 = .ok (.aload_n 1, 1) := by decide +kernel
theorem dX3_decide_81 : decode cX3_decide 81 = .ok (.invokevirtual 306, 3) := by decide +kernel
theorem dX3_decide_84 : decode cX3_decide 84 = .ok (.return_, 1) := by decide +kernel
set_option maxRecDepth 20000 in
theorem ggX3_boutsIn_Jx4a65c_size_8abf5 : GoodIn wsX3_boutsIn wsJx4a65c_size_8abf5 := goodIn_r _ [8, 9, 46, 47, 48] (by decide +kernel) (by decide +kernel)
set_option maxRecDepth 20000 in
theorem gX3_boutsIn_Jx4a65c_size_8abf5 : GoodIn wsX3_boutsIn (wsV RX3 49 RJx4a65c yJx4a65c_size_8abf5 wsJx4a65c_size_8abf5) := goodIn_app (goodIn_of _ (by decide +kernel)) ggX3_boutsIn_Jx4a65c_size_8abf5
set_option maxRecDepth 20000 in
theorem ggX3_boutsIn_Jx4a65c_get_915e3 : GoodIn wsX3_boutsIn wsJx4a65c_get_915e3 := goodIn_r _ [13, 9, 14, 15, 16, 17, 18, 19, 20, 21, 22, 23, 24, 7, 25, 26, 46, 47, 48] (by decide +kernel) (by decide +kernel)
set_option maxRecDepth 20000 in
theorem gX3_boutsIn_Jx4a65c_get_915e3 : GoodIn wsX3_boutsIn (wsV RX3 124 RJx4a65c yJx4a65c_get_915e3 wsJx4a65c_get_915e3) := goodIn_app (goodIn_of _ (by decide +kernel)) ggX3_boutsIn_Jx4a65c_get_915e3
theorem dX3_boutsIn_0 : decode cX3_boutsIn 0 = .ok (.iconst 0, 1) := by decide +kernel
theorem dX3_boutsIn_1 : decode cX3_boutsIn 1 = .ok (.istore_n 2, 1) := by decide +kernel
theorem dX3_boutsIn_2 : decode cX3_boutsIn 2 = .ok (.iconst 0, 1) := by decide +kernel
theorem dX3_boutsIn_3 : decode cX3_boutsIn 3 = .ok (.istore_n 3, 1) := by decide +kernel
theorem dX3_boutsIn_4 : decode cX3_boutsIn 4 = .ok (.iload_n 3, 1) := by decide +kernel
theorem dX3_boutsIn_5 : decode cX3_boutsIn 5 = .ok (.aload_n 0, 1) := by decide +kernel
theorem dX3_boutsIn_6 : decode cX3_boutsIn 6 = .ok (.getfield 16, 3) := by decide +kernel
theorem dX3_boutsIn_9 : decode cX3_boutsIn 9 = .ok (.invokevirtual 49, 3) := by decide +kernel
theorem dX3_boutsIn_12 : decode cX3_boutsIn 12 = .ok (.if_icmp .ge 30, 3) := by decide +kernel
theorem dX3_boutsIn_15 : decode cX3_boutsIn 15 = .ok (.aload_n 0, 1) := by decide +kernel
theorem dX3_boutsIn_16 : decode cX3_boutsIn 16 = .ok (.getfield 16, 3) := by decide +kernel
theorem dX3_boutsIn_19 : decode cX3_boutsIn 19 = .ok (.iload_n 3, 1) := by decide +kernel
theorem dX3_boutsIn_20 : decode cX3_boutsIn 20 = .ok (.invokevirtual 124, 3) := by decide +kernel
theorem dX3_boutsIn_23 : decode cX3_boutsIn 23 = .ok (.checkcast 19, 3) := by decide +kernel
theorem dX3_boutsIn_26 : decode cX3_boutsIn 26 = .ok (.getfield 210, 3) := by decide +kernel
theorem dX3_boutsIn_29 : decode cX3_boutsIn 29 = .ok (.iload_n 1, 1) := by decide +kernel
theorem dX3_boutsIn_30 : decode cX3_boutsIn 30 = .ok (.if_icmp .ne 6, 3) := by decide +kernel
theorem dX3_boutsIn_33 : decode cX3_boutsIn 33 = .ok (.iinc 2 1, 3) := by decide +kernel
theorem dX3_boutsIn_36 : decode cX3_boutsIn 36 = .ok (.iinc 3 1, 3) := by decide +kernel
theorem dX3_boutsIn_39 : decode cX3_boutsIn 39 = .ok (.goto (-35), 3) := by decide +kernel
theorem dX3_boutsIn_42 : decode cX3_boutsIn 42 = .ok (.iload_n 2, 1) := by decide +kernel
theorem dX3_boutsIn_43 : decode cX3_boutsIn 43 = .ok (.ireturn, 1) := by decide +kernel
set_option maxRecDepth 20000 in
theorem ggX3_fencersOut_Jx4a65c_size_8abf5 : GoodIn wsX3_fencersOut wsJx4a65c_size_8abf5 := goodIn_r _ [8, 9, 51, 52, 53] (by decide +kernel) (by decide +kernel)
set_option maxRecDepth 20000 in
theorem gX3_fencersOut_Jx4a65c_size_8abf5 : GoodIn wsX3_fencersOut (wsV RX3 49 RJx4a65c yJx4a65c_size_8abf5 wsJx4a65c_size_8abf5) := goodIn_app (goodIn_of _ (by decide +kernel)) ggX3_fencersOut_Jx4a65c_size_8abf5
set_option maxRecDepth 20000 in
theorem ggX3_fencersOut_Jx4a65c_get_915e3 : GoodIn wsX3_fencersOut wsJx4a65c_get_915e3 := goodIn_r _ [13, 9, 14, 15, 16, 17, 18, 19, 20, 21, 22, 23, 24, 7, 25, 26, 51, 52, 53] (by decide +kernel) (by decide +kernel)
set_option maxRecDepth 20000 in
theorem gX3_fencersOut_Jx4a65c_get_915e3 : GoodIn wsX3_fencersOut (wsV RX3 124 RJx4a65c yJx4a65c_get_915e3 wsJx4a65c_get_915e3) := goodIn_app (goodIn_of _ (by decide +kernel)) ggX3_fencersOut_Jx4a65c_get_915e3
theorem dX3_fencersOut_0 : decode cX3_fencersOut 0 = .ok (.iconst 0, 1) := by decide +kernel
theorem dX3_fencersOut_1 : decode cX3_fencersOut 1 = .ok (.istore_n 1, 1) := by decide +kernel
theorem dX3_fencersOut_2 : decode cX3_fencersOut 2 = .ok (.iconst 0, 1) := by decide +kernel
theorem dX3_fencersOut_3 : decode cX3_fencersOut 3 = .ok (.istore_n 2, 1) := by decide +kernel
theorem dX3_fencersOut_4 : decode cX3_fencersOut 4 = .ok (.iload_n 2, 1) := by decide +kernel
theorem dX3_fencersOut_5 : decode cX3_fencersOut 5 = .ok (.aload_n 0, 1) := by decide +kernel
theorem dX3_fencersOut_6 : decode cX3_fencersOut 6 = .ok (.getfield 12, 3) := by decide +kernel
theorem dX3_fencersOut_9 : decode cX3_fencersOut 9 = .ok (.invokevirtual 49, 3) := by decide +kernel
theorem dX3_fencersOut_12 : decode cX3_fencersOut 12 = .ok (.if_icmp .ge 29, 3) := by decide +kernel
theorem dX3_fencersOut_15 : decode cX3_fencersOut 15 = .ok (.aload_n 0, 1) := by decide +kernel
theorem dX3_fencersOut_16 : decode cX3_fencersOut 16 = .ok (.getfield 12, 3) := by decide +kernel
theorem dX3_fencersOut_19 : decode cX3_fencersOut 19 = .ok (.iload_n 2, 1) := by decide +kernel
theorem dX3_fencersOut_20 : decode cX3_fencersOut 20 = .ok (.invokevirtual 124, 3) := by decide +kernel
theorem dX3_fencersOut_23 : decode cX3_fencersOut 23 = .ok (.checkcast 29, 3) := by decide +kernel
theorem dX3_fencersOut_26 : decode cX3_fencersOut 26 = .ok (.getfield 100, 3) := by decide +kernel
theorem dX3_fencersOut_29 : decode cX3_fencersOut 29 = .ok (.ifCond .eq 6, 3) := by decide +kernel
theorem dX3_fencersOut_32 : decode cX3_fencersOut 32 = .ok (.iinc 1 1, 3) := by decide +kernel
theorem dX3_fencersOut_35 : decode cX3_fencersOut 35 = .ok (.iinc 2 1, 3) := by decide +kernel
theorem dX3_fencersOut_38 : decode cX3_fencersOut 38 = .ok (.goto (-34), 3) := by decide +kernel
theorem dX3_fencersOut_41 : decode cX3_fencersOut 41 = .ok (.iload_n 1, 1) := by decide +kernel
theorem dX3_fencersOut_42 : decode cX3_fencersOut 42 = .ok (.ireturn, 1) := by decide +kernel
set_option maxRecDepth 20000 in
theorem ggX3_order_X3_fencerAt : GoodIn wsX3_order wsX3_fencerAt := goodIn_ca (goodIn_r _ [11, 12, 13, 14, 15, 16, 17, 18, 19, 20, 21, 22, 23, 10, 24, 25, 26, 27, 28, 29, 30, 31, 32, 33, 34, 35, 36, 37, 38, 39, 40, 41, 76, 77, 78, 79, 80, 81, 82, 83, 84, 85, 86, 87, 88] (by decide +kernel) (by decide +kernel)) (goodIn_sub (fun _ h => List.mem_cons_of_mem _ (List.mem_append_right _ h)) (by decide +kernel))
set_option maxRecDepth 20000 in
theorem gX3_order_X3_fencerAt : GoodIn wsX3_order (wsV RX3 85 RX3 yX3_fencerAt wsX3_fencerAt) := goodIn_app (goodIn_of _ (by decide +kernel)) ggX3_order_X3_fencerAt
set_option maxRecDepth 20000 in
theorem ggX3_order_X3_aheadInOrder : GoodIn wsX3_order wsX3_aheadInOrder := goodIn_r _ [45, 14, 15, 16, 17, 18, 19, 20, 21, 25, 26, 27, 28, 29, 30, 31, 32, 33, 34, 35, 36, 37, 38, 39, 40, 41, 46, 47, 48, 49, 50, 51, 52, 53, 54, 55, 56, 57, 58, 59, 60, 61, 76, 77, 78, 79, 80, 81, 82, 83, 84, 85, 86, 87, 88, 62, 63, 64, 65, 66, 67, 68, 69, 70, 71, 72, 73, 74, 75] (by decide +kernel) (by decide +kernel)
set_option maxRecDepth 20000 in
theorem gX3_order_X3_aheadInOrder : GoodIn wsX3_order (wsV RX3 321 RX3 yX3_aheadInOrder wsX3_aheadInOrder) := goodIn_app (goodIn_of _ (by decide +kernel)) ggX3_order_X3_aheadInOrder
theorem dX3_order_0 : decode cX3_order 0 = .ok (.aload_n 0, 1) := by decide +kernel
theorem dX3_order_1 : decode cX3_order 1 = .ok (.iload_n 1, 1) := by decide +kernel
theorem dX3_order_2 : decode cX3_order 2 = .ok (.invokevirtual 85, 3) := by decide +kernel
theorem dX3_order_5 : decode cX3_order 5 = .ok (.astore_n 3, 1) := by decide +kernel
theorem dX3_order_6 : decode cX3_order 6 = .ok (.iload_n 2, 1) := by decide +kernel
theorem dX3_order_7 : decode cX3_order 7 = .ok (.tableswitch 59 0 4 #[33, 38, 43, 48, 53], 33) := by decide +kernel
theorem dX3_order_40 : decode cX3_order 40 = .ok (.aload_n 3, 1) := by decide +kernel
theorem dX3_order_41 : decode cX3_order 41 = .ok (.getfield 309, 3) := by decide +kernel
theorem dX3_order_44 : decode cX3_order 44 = .ok (.ireturn, 1) := by decide +kernel
theorem dX3_order_45 : decode cX3_order 45 = .ok (.aload_n 3, 1) := by decide +kernel
theorem dX3_order_46 : decode cX3_order 46 = .ok (.getfield 312, 3) := by decide +kernel
theorem dX3_order_49 : decode cX3_order 49 = .ok (.ireturn, 1) := by decide +kernel
theorem dX3_order_50 : decode cX3_order 50 = .ok (.aload_n 3, 1) := by decide +kernel
theorem dX3_order_51 : decode cX3_order 51 = .ok (.getfield 315, 3) := by decide +kernel
theorem dX3_order_54 : decode cX3_order 54 = .ok (.ireturn, 1) := by decide +kernel
theorem dX3_order_55 : decode cX3_order 55 = .ok (.aload_n 3, 1) := by decide +kernel
theorem dX3_order_56 : decode cX3_order 56 = .ok (.getfield 318, 3) := by decide +kernel
theorem dX3_order_59 : decode cX3_order 59 = .ok (.ireturn, 1) := by decide +kernel
theorem dX3_order_60 : decode cX3_order 60 = .ok (.aload_n 0, 1) := by decide +kernel
theorem dX3_order_61 : decode cX3_order 61 = .ok (.aload_n 3, 1) := by decide +kernel
theorem dX3_order_62 : decode cX3_order 62 = .ok (.invokevirtual 321, 3) := by decide +kernel
theorem dX3_order_65 : decode cX3_order 65 = .ok (.ireturn, 1) := by decide +kernel
theorem dX3_order_66 : decode cX3_order 66 = .ok (.new 42, 3) := by decide +kernel
theorem dX3_order_69 : decode cX3_order 69 = .ok (.dup, 1) := by decide +kernel
theorem dX3_order_70 : decode cX3_order 70 = .ok (.ldc_w 324, 3) := by decide +kernel
theorem dX3_order_73 : decode cX3_order 73 = .ok (.invokespecial 46, 3) := by decide +kernel
theorem dX3_order_76 : decode cX3_order 76 = .ok (.athrow, 1) := by decide +kernel
set_option maxRecDepth 20000 in
theorem ggX3_draw_X3_isIn : GoodIn wsX3_draw wsX3_isIn := goodIn_r _ [11] (by decide +kernel) (by decide +kernel)
set_option maxRecDepth 20000 in
theorem gX3_draw_X3_isIn : GoodIn wsX3_draw (va_wsS RX3 38 yX3_isIn wsX3_isIn) := goodIn_app (goodIn_of _ (by decide +kernel)) ggX3_draw_X3_isIn
set_option maxRecDepth 20000 in
theorem ggX3_draw_X3_boutsIn : GoodIn wsX3_draw wsX3_boutsIn := goodIn_r _ [15, 16, 17, 18, 19, 20, 21, 22, 23, 24, 25, 26, 27, 28, 29, 30, 31, 32, 33, 34, 35, 36, 37, 38, 39, 40, 41, 213, 214, 215, 216, 217, 218, 219, 220, 221, 222, 223, 224, 225, 226, 227, 228, 229, 230, 231, 232, 233, 234] (by decide +kernel) (by decide +kernel)
set_option maxRecDepth 20000 in
theorem gX3_draw_X3_boutsIn : GoodIn wsX3_draw (wsV RX3 240 RX3 yX3_boutsIn wsX3_boutsIn) := goodIn_app (goodIn_of _ (by decide +kernel)) ggX3_draw_X3_boutsIn
set_option maxRecDepth 20000 in
theorem ggX3_draw_Jx4a65c_size_8abf5 : GoodIn wsX3_draw wsJx4a65c_size_8abf5 := goodIn_r _ [23, 24, 232, 233, 234] (by decide +kernel) (by decide +kernel)
set_option maxRecDepth 20000 in
theorem gX3_draw_Jx4a65c_size_8abf5 : GoodIn wsX3_draw (wsV RX3 49 RJx4a65c yJx4a65c_size_8abf5 wsJx4a65c_size_8abf5) := goodIn_app (goodIn_of _ (by decide +kernel)) ggX3_draw_Jx4a65c_size_8abf5
set_option maxRecDepth 20000 in
theorem ggX3_draw_X3_fencersOut : GoodIn wsX3_draw wsX3_fencersOut := goodIn_r _ [45, 7, 46, 47, 19, 20, 21, 22, 23, 24, 25, 26, 27, 28, 29, 30, 31, 32, 33, 34, 35, 36, 37, 38, 39, 40, 41, 213, 214, 215, 216, 217, 218, 219, 220, 221, 222, 235, 236, 237, 238, 239, 240, 241, 242, 243, 244, 245, 246, 247, 248, 232, 233, 234] (by decide +kernel) (by decide +kernel)
set_option maxRecDepth 20000 in
theorem gX3_draw_X3_fencersOut : GoodIn wsX3_draw (wsV RX3 244 RX3 yX3_fencersOut wsX3_fencersOut) := goodIn_app (goodIn_of _ (by decide +kernel)) ggX3_draw_X3_fencersOut
set_option maxRecDepth 20000 in
theorem ggX3_draw_X3_seed : GoodIn wsX3_draw wsX3_seed := goodIn_r _ [51, 52, 53, 54, 55, 10, 56, 7, 46, 19, 20, 21, 22, 23, 24, 25, 26, 27, 28, 29, 30, 31, 32, 33, 34, 35, 36, 37, 38, 39, 40, 41, 57, 58, 59, 60, 61, 62, 63, 64, 65, 66, 67, 68, 69, 70, 71, 72, 73, 74, 75, 76, 213, 214, 215, 216, 217, 218, 219, 220, 221, 222, 232, 233, 234, 235, 236, 237, 238, 239, 240, 241, 242, 243, 244, 245, 246, 247, 248] (by decide +kernel) (by decide +kernel)
set_option maxRecDepth 20000 in
theorem gX3_draw_X3_seed : GoodIn wsX3_draw (wsV RX3 332 RX3 yX3_seed wsX3_seed) := goodIn_app (goodIn_of _ (by decide +kernel)) ggX3_draw_X3_seed
set_option maxRecDepth 20000 in
theorem ggX3_draw_X3_setLines : GoodIn wsX3_draw wsX3_setLines := goodIn_r _ [80, 81, 6, 213, 214, 215, 216, 217, 218, 219, 220, 221, 222] (by decide +kernel) (by decide +kernel)
set_option maxRecDepth 20000 in
theorem gX3_draw_X3_setLines : GoodIn wsX3_draw (wsV RX3 335 RX3 yX3_setLines wsX3_setLines) := goodIn_app (goodIn_of _ (by decide +kernel)) ggX3_draw_X3_setLines
set_option maxRecDepth 20000 in
theorem ggX3_draw_X3_addTableBouts : GoodIn wsX3_draw wsX3_addTableBouts := goodIn_r _ [85, 16, 86, 6, 87, 88, 89, 19, 20, 21, 22, 23, 24, 90, 91, 92, 10, 93, 94, 95, 96, 97, 98, 99, 81, 52, 8, 9, 11, 100, 101, 102, 103, 104, 105, 106, 107, 108, 109, 110, 111, 112, 113, 114, 115, 116, 117, 118, 119, 120, 121, 122, 123, 124, 41, 125, 126, 127, 128, 129, 130, 131, 132, 133, 134, 135, 136, 137, 138, 70, 71, 72, 139, 140, 141, 142, 143, 144, 145, 146, 147, 148, 149, 150, 151, 152, 153, 154, 155, 156, 157, 158, 159, 160, 161, 162, 163, 164, 165, 166, 167, 168, 169, 170, 171, 172, 17, 173, 174, 175, 25, 26, 27, 28, 29, 30, 31, 32, 33, 34, 35, 36, 37, 38, 39, 40, 176, 177, 178, 179, 180, 181, 182, 183, 18, 184, 185, 186, 187, 188, 189, 190, 191, 192, 193, 194, 195, 196, 197, 198, 199, 200, 201, 202, 64, 203, 68, 67, 73, 74, 204, 205, 206, 207, 208, 209, 210, 211, 212, 213, 214, 215, 216, 217, 218, 219, 220, 221, 222, 223, 224, 225, 226, 227, 228, 229, 230, 231, 232, 233, 234, 235, 236, 237, 238, 239, 240, 241, 242, 243, 244, 245, 246, 247, 248, 249, 250, 251] (by decide +kernel) (by decide +kernel)
set_option maxRecDepth 20000 in
theorem gX3_draw_X3_addTableBouts : GoodIn wsX3_draw (wsV RX3 338 RX3 yX3_addTableBouts wsX3_addTableBouts) := goodIn_app (goodIn_of _ (by decide +kernel)) ggX3_draw_X3_addTableBouts
theorem dX3_draw_0 : decode cX3_draw 0 = .ok (.iload_n 1, 1) := by decide +kernel
theorem dX3_draw_1 : decode cX3_draw 1 = .ok (.iconst 0, 1) := by decide +kernel
theorem dX3_draw_2 : decode cX3_draw 2 = .ok (.bipush 50, 2) := by decide +kernel
theorem dX3_draw_4 : decode cX3_draw 4 = .ok (.invokestatic 38, 3) := by decide +kernel
theorem dX3_draw_7 : decode cX3_draw 7 = .ok (.ifCond .ne 14, 3) := by decide +kernel
theorem dX3_draw_10 : decode cX3_draw 10 = .ok (.new 42, 3) := by decide +kernel
theorem dX3_draw_13 : decode cX3_draw 13 = .ok (.dup, 1) := by decide +kernel
theorem dX3_draw_14 : decode cX3_draw 14 = .ok (.ldc_w 326, 3) := by decide +kernel
theorem dX3_draw_17 : decode cX3_draw 17 = .ok (.invokespecial 46, 3) := by decide +kernel
theorem dX3_draw_20 : decode cX3_draw 20 = .ok (.athrow, 1) := by decide +kernel
theorem dX3_draw_21 : decode cX3_draw 21 = .ok (.aload_n 0, 1) := by decide +kernel
theorem dX3_draw_22 : decode cX3_draw 22 = .ok (.getfield 53, 3) := by decide +kernel
theorem dX3_draw_25 : decode cX3_draw 25 = .ok (.ifCond .eq 26, 3) := by decide +kernel
theorem dX3_draw_28 : decode cX3_draw 28 = .ok (.aload_n 0, 1) := by decide +kernel
theorem dX3_draw_29 : decode cX3_draw 29 = .ok (.getfield 247, 3) := by decide +kernel
theorem dX3_draw_32 : decode cX3_draw 32 = .ok (.ifCond .gt 19, 3) := by decide +kernel
theorem dX3_draw_35 : decode cX3_draw 35 = .ok (.aload_n 0, 1) := by decide +kernel
theorem dX3_draw_36 : decode cX3_draw 36 = .ok (.iconst 0, 1) := by decide +kernel
theorem dX3_draw_37 : decode cX3_draw 37 = .ok (.invokevirtual 240, 3) := by decide +kernel
theorem dX3_draw_40 : decode cX3_draw 40 = .ok (.ifCond .gt 11, 3) := by decide +kernel
theorem dX3_draw_43 : decode cX3_draw 43 = .ok (.aload_n 0, 1) := by decide +kernel
theorem dX3_draw_44 : decode cX3_draw 44 = .ok (.iconst 1, 1) := by decide +kernel
theorem dX3_draw_45 : decode cX3_draw 45 = .ok (.invokevirtual 240, 3) := by decide +kernel
theorem dX3_draw_48 : decode cX3_draw 48 = .ok (.ifCond .le 14, 3) := by decide +kernel
theorem dX3_draw_51 : decode cX3_draw 51 = .ok (.new 57, 3) := by decide +kernel
theorem dX3_draw_54 : decode cX3_draw 54 = .ok (.dup, 1) := by decide +kernel
theorem dX3_draw_55 : decode cX3_draw 55 = .ok (.ldc_w 328, 3) := by decide +kernel
theorem dX3_draw_58 : decode cX3_draw 58 = .ok (.invokespecial 61, 3) := by decide +kernel
theorem dX3_draw_61 : decode cX3_draw 61 = .ok (.athrow, 1) := by decide +kernel
theorem dX3_draw_62 : decode cX3_draw 62 = .ok (.aload_n 0, 1) := by decide +kernel
theorem dX3_draw_63 : decode cX3_draw 63 = .ok (.getfield 12, 3) := by decide +kernel
theorem dX3_draw_66 : decode cX3_draw 66 = .ok (.invokevirtual 49, 3) := by decide +kernel
theorem dX3_draw_69 : decode cX3_draw 69 = .ok (.aload_n 0, 1) := by decide +kernel
theorem dX3_draw_70 : decode cX3_draw 70 = .ok (.invokevirtual 244, 3) := by decide +kernel
theorem dX3_draw_73 : decode cX3_draw 73 = .ok (.isub, 1) := by decide +kernel
theorem dX3_draw_74 : decode cX3_draw 74 = .ok (.istore_n 2, 1) := by decide +kernel
theorem dX3_draw_75 : decode cX3_draw 75 = .ok (.iload_n 2, 1) := by decide +kernel
theorem dX3_draw_76 : decode cX3_draw 76 = .ok (.iload_n 2, 1) := by decide +kernel
theorem dX3_draw_77 : decode cX3_draw 77 = .ok (.iload_n 1, 1) := by decide +kernel
theorem dX3_draw_78 : decode cX3_draw 78 = .ok (.imul, 1) := by decide +kernel
theorem dX3_draw_79 : decode cX3_draw 79 = .ok (.bipush 100, 2) := by decide +kernel
theorem dX3_draw_81 : decode cX3_draw 81 = .ok (.idiv, 1) := by decide +kernel
theorem dX3_draw_82 : decode cX3_draw 82 = .ok (.isub, 1) := by decide +kernel
theorem dX3_draw_83 : decode cX3_draw 83 = .ok (.istore_n 3, 1) := by decide +kernel
theorem dX3_draw_84 : decode cX3_draw 84 = .ok (.iload_n 3, 1) := by decide +kernel
theorem dX3_draw_85 : decode cX3_draw 85 = .ok (.iconst 2, 1) := by decide +kernel
theorem dX3_draw_86 : decode cX3_draw 86 = .ok (.if_icmp .ge 14, 3) := by decide +kernel
theorem dX3_draw_89 : decode cX3_draw 89 = .ok (.new 57, 3) := by decide +kernel
theorem dX3_draw_92 : decode cX3_draw 92 = .ok (.dup, 1) := by decide +kernel
theorem dX3_draw_93 : decode cX3_draw 93 = .ok (.ldc_w 330, 3) := by decide +kernel
theorem dX3_draw_96 : decode cX3_draw 96 = .ok (.invokespecial 61, 3) := by decide +kernel
theorem dX3_draw_99 : decode cX3_draw 99 = .ok (.athrow, 1) := by decide +kernel
theorem dX3_draw_100 : decode cX3_draw 100 = .ok (.aload_n 0, 1) := by decide +kernel
theorem dX3_draw_101 : decode cX3_draw 101 = .ok (.iload_n 3, 1) := by decide +kernel
theorem dX3_draw_102 : decode cX3_draw 102 = .ok (.invokevirtual 332, 3) := by decide +kernel
theorem dX3_draw_105 : decode cX3_draw 105 = .ok (.aload_n 0, 1) := by decide +kernel
theorem dX3_draw_106 : decode cX3_draw 106 = .ok (.iload_n 3, 1) := by decide +kernel
theorem dX3_draw_107 : decode cX3_draw 107 = .ok (.invokevirtual 335, 3) := by decide +kernel
theorem dX3_draw_110 : decode cX3_draw 110 = .ok (.aload_n 0, 1) := by decide +kernel
theorem dX3_draw_111 : decode cX3_draw 111 = .ok (.invokevirtual 338, 3) := by decide +kernel
theorem dX3_draw_114 : decode cX3_draw 114 = .ok (.iload_n 3, 1) := by decide +kernel
theorem dX3_draw_115 : decode cX3_draw 115 = .ok (.ireturn, 1) := by decide +kernel
set_option maxRecDepth 20000 in
theorem ggX3_line_X3_isIn : GoodIn wsX3_line wsX3_isIn := goodIn_r _ [7] (by decide +kernel) (by decide +kernel)
set_option maxRecDepth 20000 in
theorem gX3_line_X3_isIn : GoodIn wsX3_line (va_wsS RX3 38 yX3_isIn wsX3_isIn) := goodIn_app (goodIn_of _ (by decide +kernel)) ggX3_line_X3_isIn
set_option maxRecDepth 20000 in
theorem ggX3_line_X3_fencerOnLine : GoodIn wsX3_line wsX3_fencerOnLine := goodIn_r _ [11, 3, 12, 13, 4, 5, 6, 7, 18, 19, 20, 21, 22, 23, 24, 25, 26, 27] (by decide +kernel) (by decide +kernel)
set_option maxRecDepth 20000 in
theorem gX3_line_X3_fencerOnLine : GoodIn wsX3_line (wsV RX3 346 RX3 yX3_fencerOnLine wsX3_fencerOnLine) := goodIn_app (goodIn_of _ (by decide +kernel)) ggX3_line_X3_fencerOnLine
set_option maxRecDepth 20000 in
theorem ggX3_line_X3_numberOf : GoodIn wsX3_line wsX3_numberOf := goodIn_r _ [16, 17, 28, 29, 30, 31, 32, 33, 34, 35, 36, 37, 38, 39, 40, 41] (by decide +kernel) (by decide +kernel)
set_option maxRecDepth 20000 in
theorem gX3_line_X3_numberOf : GoodIn wsX3_line (va_wsS RX3 213 yX3_numberOf wsX3_numberOf) := goodIn_app (goodIn_of _ (by decide +kernel)) ggX3_line_X3_numberOf
theorem dX3_line_0 : decode cX3_line 0 = .ok (.iload_n 1, 1) := by decide +kernel
theorem dX3_line_1 : decode cX3_line 1 = .ok (.iconst 0, 1) := by decide +kernel
theorem dX3_line_2 : decode cX3_line 2 = .ok (.aload_n 0, 1) := by decide +kernel
theorem dX3_line_3 : decode cX3_line 3 = .ok (.getfield 247, 3) := by decide +kernel
theorem dX3_line_6 : decode cX3_line 6 = .ok (.iconst 1, 1) := by decide +kernel
theorem dX3_line_7 : decode cX3_line 7 = .ok (.isub, 1) := by decide +kernel
theorem dX3_line_8 : decode cX3_line 8 = .ok (.invokestatic 38, 3) := by decide +kernel
theorem dX3_line_11 : decode cX3_line 11 = .ok (.ifCond .ne 14, 3) := by decide +kernel
theorem dX3_line_14 : decode cX3_line 14 = .ok (.new 341, 3) := by decide +kernel
theorem dX3_line_17 : decode cX3_line 17 = .ok (.dup, 1) := by decide +kernel
theorem dX3_line_18 : decode cX3_line 18 = .ok (.ldc_w 343, 3) := by decide +kernel
theorem dX3_line_21 : decode cX3_line 21 = .ok (.invokespecial 345, 3) := by decide +kernel
theorem dX3_line_24 : decode cX3_line 24 = .ok (.athrow, 1) := by decide +kernel
theorem dX3_line_25 : decode cX3_line 25 = .ok (.aload_n 0, 1) := by decide +kernel
theorem dX3_line_26 : decode cX3_line 26 = .ok (.iload_n 1, 1) := by decide +kernel
theorem dX3_line_27 : decode cX3_line 27 = .ok (.invokevirtual 346, 3) := by decide +kernel
theorem dX3_line_30 : decode cX3_line 30 = .ok (.invokestatic 213, 3) := by decide +kernel
theorem dX3_line_33 : decode cX3_line 33 = .ok (.ireturn, 1) := by decide +kernel
set_option maxRecDepth 20000 in
theorem ggX3_place_X3_fencerAt : GoodIn wsX3_place wsX3_fencerAt := goodIn_ca (goodIn_r _ [7, 8, 9, 1, 2, 10, 11, 12, 13, 14, 15, 16, 17, 6, 18, 19, 20, 21, 22, 23, 24, 25, 26, 27, 28, 29, 30, 31, 32, 33, 34, 35, 57, 58, 59, 60, 61, 62, 63, 64, 65, 66, 67, 68, 69] (by decide +kernel) (by decide +kernel)) (goodIn_sub (fun _ h => List.mem_cons_of_mem _ (List.mem_append_right _ h)) (by decide +kernel))
set_option maxRecDepth 20000 in
theorem gX3_place_X3_fencerAt : GoodIn wsX3_place (wsV RX3 85 RX3 yX3_fencerAt wsX3_fencerAt) := goodIn_app (goodIn_of _ (by decide +kernel)) ggX3_place_X3_fencerAt
set_option maxRecDepth 20000 in
theorem ggX3_place_Jx4a65c_size_8abf5 : GoodIn wsX3_place wsJx4a65c_size_8abf5 := goodIn_r _ [14, 15, 67, 68, 69] (by decide +kernel) (by decide +kernel)
set_option maxRecDepth 20000 in
theorem gX3_place_Jx4a65c_size_8abf5 : GoodIn wsX3_place (wsV RX3 49 RJx4a65c yJx4a65c_size_8abf5 wsJx4a65c_size_8abf5) := goodIn_app (goodIn_of _ (by decide +kernel)) ggX3_place_Jx4a65c_size_8abf5
set_option maxRecDepth 20000 in
theorem ggX3_place_Jx4a65c_get_915e3 : GoodIn wsX3_place wsJx4a65c_get_915e3 := goodIn_r _ [22, 15, 23, 24, 25, 26, 27, 28, 29, 30, 31, 32, 33, 13, 34, 35, 67, 68, 69] (by decide +kernel) (by decide +kernel)
set_option maxRecDepth 20000 in
theorem gX3_place_Jx4a65c_get_915e3 : GoodIn wsX3_place (wsV RX3 124 RJx4a65c yJx4a65c_get_915e3 wsJx4a65c_get_915e3) := goodIn_app (goodIn_of _ (by decide +kernel)) ggX3_place_Jx4a65c_get_915e3
set_option maxRecDepth 20000 in
theorem ggX3_place_X1_isPlacedAheadOf : GoodIn wsX3_place wsX1_isPlacedAheadOf := goodIn_r _ [40, 41, 42, 43, 44, 45, 39, 46, 47, 48, 49, 50, 51, 52, 53, 54, 55, 56, 70, 71, 72, 73, 74, 75, 76, 77, 78, 79, 80, 81, 82, 83] (by decide +kernel) (by decide +kernel)
set_option maxRecDepth 20000 in
theorem gX3_place_X1_isPlacedAheadOf : GoodIn wsX3_place (wsV RX3 349 RX1 yX1_isPlacedAheadOf wsX1_isPlacedAheadOf) := goodIn_app (goodIn_of _ (by decide +kernel)) ggX3_place_X1_isPlacedAheadOf
theorem dX3_place_0 : decode cX3_place 0 = .ok (.aload_n 0, 1) := by decide +kernel
theorem dX3_place_1 : decode cX3_place 1 = .ok (.iload_n 1, 1) := by decide +kernel
theorem dX3_place_2 : decode cX3_place 2 = .ok (.invokevirtual 85, 3) := by decide +kernel
theorem dX3_place_5 : decode cX3_place 5 = .ok (.astore_n 2, 1) := by decide +kernel
theorem dX3_place_6 : decode cX3_place 6 = .ok (.iconst 0, 1) := by decide +kernel
theorem dX3_place_7 : decode cX3_place 7 = .ok (.istore_n 3, 1) := by decide +kernel
theorem dX3_place_8 : decode cX3_place 8 = .ok (.iconst 0, 1) := by decide +kernel
theorem dX3_place_9 : decode cX3_place 9 = .ok (.istore 4, 2) := by decide +kernel
theorem dX3_place_11 : decode cX3_place 11 = .ok (.iload 4, 2) := by decide +kernel
theorem dX3_place_13 : decode cX3_place 13 = .ok (.aload_n 0, 1) := by decide +kernel
theorem dX3_place_14 : decode cX3_place 14 = .ok (.getfield 12, 3) := by decide +kernel
theorem dX3_place_17 : decode cX3_place 17 = .ok (.invokevirtual 49, 3) := by decide +kernel
theorem dX3_place_20 : decode cX3_place 20 = .ok (.if_icmp .ge 31, 3) := by decide +kernel
theorem dX3_place_23 : decode cX3_place 23 = .ok (.aload_n 0, 1) := by decide +kernel
theorem dX3_place_24 : decode cX3_place 24 = .ok (.getfield 12, 3) := by decide +kernel
theorem dX3_place_27 : decode cX3_place 27 = .ok (.iload 4, 2) := by decide +kernel
theorem dX3_place_29 : decode cX3_place 29 = .ok (.invokevirtual 124, 3) := by decide +kernel
theorem dX3_place_32 : decode cX3_place 32 = .ok (.checkcast 29, 3) := by decide +kernel
theorem dX3_place_35 : decode cX3_place 35 = .ok (.aload_n 2, 1) := by decide +kernel
theorem dX3_place_36 : decode cX3_place 36 = .ok (.invokevirtual 349, 3) := by decide +kernel
theorem dX3_place_39 : decode cX3_place 39 = .ok (.ifCond .eq 6, 3) := by decide +kernel
theorem dX3_place_42 : decode cX3_place 42 = .ok (.iinc 3 1, 3) := by decide +kernel
theorem dX3_place_45 : decode cX3_place 45 = .ok (.iinc 4 1, 3) := by decide +kernel
theorem dX3_place_48 : decode cX3_place 48 = .ok (.goto (-37), 3) := by decide +kernel
theorem dX3_place_51 : decode cX3_place 51 = .ok (.iload_n 3, 1) := by decide +kernel
theorem dX3_place_52 : decode cX3_place 52 = .ok (.ireturn, 1) := by decide +kernel
set_option maxRecDepth 20000 in
theorem ggX3_aheadInOrder_Jx4a65c_size_8abf5 : GoodIn wsX3_aheadInOrder wsJx4a65c_size_8abf5 := goodIn_r _ [7, 8, 52, 53, 54] (by decide +kernel) (by decide +kernel)
set_option maxRecDepth 20000 in
theorem gX3_aheadInOrder_Jx4a65c_size_8abf5 : GoodIn wsX3_aheadInOrder (wsV RX3 49 RJx4a65c yJx4a65c_size_8abf5 wsJx4a65c_size_8abf5) := goodIn_app (goodIn_of _ (by decide +kernel)) ggX3_aheadInOrder_Jx4a65c_size_8abf5
set_option maxRecDepth 20000 in
theorem ggX3_aheadInOrder_Jx4a65c_get_915e3 : GoodIn wsX3_aheadInOrder wsJx4a65c_get_915e3 := goodIn_r _ [12, 8, 13, 14, 15, 16, 17, 18, 19, 20, 21, 22, 23, 6, 24, 25, 52, 53, 54] (by decide +kernel) (by decide +kernel)
set_option maxRecDepth 20000 in
theorem gX3_aheadInOrder_Jx4a65c_get_915e3 : GoodIn wsX3_aheadInOrder (wsV RX3 124 RJx4a65c yJx4a65c_get_915e3 wsJx4a65c_get_915e3) := goodIn_app (goodIn_of _ (by decide +kernel)) ggX3_aheadInOrder_Jx4a65c_get_915e3
set_option maxRecDepth 20000 in
theorem ggX3_aheadInOrder_X1_isAheadOf : GoodIn wsX3_aheadInOrder wsX1_isAheadOf := goodIn_r _ [30, 31, 32, 33, 34, 35, 36, 37, 38, 39, 40, 41, 55, 56, 57, 58, 59, 60, 61, 62, 63, 64, 65, 66, 67, 68] (by decide +kernel) (by decide +kernel)
set_option maxRecDepth 20000 in
theorem gX3_aheadInOrder_X1_isAheadOf : GoodIn wsX3_aheadInOrder (wsV RX3 353 RX1 yX1_isAheadOf wsX1_isAheadOf) := goodIn_app (goodIn_of _ (by decide +kernel)) ggX3_aheadInOrder_X1_isAheadOf
theorem dX3_aheadInOrder_0 : decode cX3_aheadInOrder 0 = .ok (.iconst 0, 1) := by decide +kernel
theorem dX3_aheadInOrder_1 : decode cX3_aheadInOrder 1 = .ok (.istore_n 2, 1) := by decide +kernel
theorem dX3_aheadInOrder_2 : decode cX3_aheadInOrder 2 = .ok (.iconst 0, 1) := by decide +kernel
theorem dX3_aheadInOrder_3 : decode cX3_aheadInOrder 3 = .ok (.istore_n 3, 1) := by decide +kernel
theorem dX3_aheadInOrder_4 : decode cX3_aheadInOrder 4 = .ok (.iload_n 3, 1) := by decide +kernel
theorem dX3_aheadInOrder_5 : decode cX3_aheadInOrder 5 = .ok (.aload_n 0, 1) := by decide +kernel
theorem dX3_aheadInOrder_6 : decode cX3_aheadInOrder 6 = .ok (.getfield 12, 3) := by decide +kernel
theorem dX3_aheadInOrder_9 : decode cX3_aheadInOrder 9 = .ok (.invokevirtual 49, 3) := by decide +kernel
theorem dX3_aheadInOrder_12 : decode cX3_aheadInOrder 12 = .ok (.if_icmp .ge 30, 3) := by decide +kernel
theorem dX3_aheadInOrder_15 : decode cX3_aheadInOrder 15 = .ok (.aload_n 0, 1) := by decide +kernel
theorem dX3_aheadInOrder_16 : decode cX3_aheadInOrder 16 = .ok (.getfield 12, 3) := by decide +kernel
theorem dX3_aheadInOrder_19 : decode cX3_aheadInOrder 19 = .ok (.iload_n 3, 1) := by decide +kernel
theorem dX3_aheadInOrder_20 : decode cX3_aheadInOrder 20 = .ok (.invokevirtual 124, 3) := by decide +kernel
theorem dX3_aheadInOrder_23 : decode cX3_aheadInOrder 23 = .ok (.checkcast 29, 3) := by decide +kernel
theorem dX3_aheadInOrder_26 : decode cX3_aheadInOrder 26 = .ok (.aload_n 1, 1) := by decide +kernel
theorem dX3_aheadInOrder_27 : decode cX3_aheadInOrder 27 = .ok (.invokevirtual 353, 3) := by decide +kernel
theorem dX3_aheadInOrder_30 : decode cX3_aheadInOrder 30 = .ok (.ifCond .eq 6, 3) := by decide +kernel
theorem dX3_aheadInOrder_33 : decode cX3_aheadInOrder 33 = .ok (.iinc 2 1, 3) := by decide +kernel
theorem dX3_aheadInOrder_36 : decode cX3_aheadInOrder 36 = .ok (.iinc 3 1, 3) := by decide +kernel
theorem dX3_aheadInOrder_39 : decode cX3_aheadInOrder 39 = .ok (.goto (-35), 3) := by decide +kernel
theorem dX3_aheadInOrder_42 : decode cX3_aheadInOrder 42 = .ok (.iload_n 2, 1) := by decide +kernel
theorem dX3_aheadInOrder_43 : decode cX3_aheadInOrder 43 = .ok (.ireturn, 1) := by decide +kernel
set_option maxRecDepth 20000 in
theorem ggX3_fencerInOrder_Jx4a65c_size_8abf5 : GoodIn wsX3_fencerInOrder wsJx4a65c_size_8abf5 := goodIn_r _ [7, 8, 57, 58, 59] (by decide +kernel) (by decide +kernel)
set_option maxRecDepth 20000 in
theorem gX3_fencerInOrder_Jx4a65c_size_8abf5 : GoodIn wsX3_fencerInOrder (wsV RX3 49 RJx4a65c yJx4a65c_size_8abf5 wsJx4a65c_size_8abf5) := goodIn_app (goodIn_of _ (by decide +kernel)) ggX3_fencerInOrder_Jx4a65c_size_8abf5
set_option maxRecDepth 20000 in
theorem ggX3_fencerInOrder_Jx4a65c_get_915e3 : GoodIn wsX3_fencerInOrder wsJx4a65c_get_915e3 := goodIn_r _ [12, 8, 13, 14, 15, 16, 17, 18, 19, 20, 21, 22, 23, 6, 24, 25, 57, 58, 59] (by decide +kernel) (by decide +kernel)
set_option maxRecDepth 20000 in
theorem gX3_fencerInOrder_Jx4a65c_get_915e3 : GoodIn wsX3_fencerInOrder (wsV RX3 124 RJx4a65c yJx4a65c_get_915e3 wsJx4a65c_get_915e3) := goodIn_app (goodIn_of _ (by decide +kernel)) ggX3_fencerInOrder_Jx4a65c_get_915e3
set_option maxRecDepth 20000 in
theorem ggX3_fencerInOrder_X3_aheadInOrder : GoodIn wsX3_fencerInOrder wsX3_aheadInOrder := goodIn_r _ [30, 1, 2, 3, 4, 5, 6, 7, 8, 9, 10, 11, 12, 13, 14, 15, 16, 17, 18, 19, 20, 21, 22, 23, 24, 25, 31, 32, 33, 34, 35, 36, 37, 38, 39, 40, 41, 42, 43, 44, 45, 46, 47, 48, 49, 50, 51, 52, 53, 54, 55, 56, 57, 58, 59, 60, 61, 62, 63, 64, 65, 66, 67, 68, 69, 70, 71, 72, 73] (by decide +kernel) (by decide +kernel)
set_option maxRecDepth 20000 in
theorem gX3_fencerInOrder_X3_aheadInOrder : GoodIn wsX3_fencerInOrder (wsV RX3 321 RX3 yX3_aheadInOrder wsX3_aheadInOrder) := goodIn_app (goodIn_of _ (by decide +kernel)) ggX3_fencerInOrder_X3_aheadInOrder
theorem dX3_fencerInOrder_0 : decode cX3_fencerInOrder 0 = .ok (.iconst 0, 1) := by decide +kernel
theorem dX3_fencerInOrder_1 : decode cX3_fencerInOrder 1 = .ok (.istore_n 2, 1) := by decide +kernel
theorem dX3_fencerInOrder_2 : decode cX3_fencerInOrder 2 = .ok (.iload_n 2, 1) := by decide +kernel
theorem dX3_fencerInOrder_3 : decode cX3_fencerInOrder 3 = .ok (.aload_n 0, 1) := by decide +kernel
theorem dX3_fencerInOrder_4 : decode cX3_fencerInOrder 4 = .ok (.getfield 12, 3) := by decide +kernel
theorem dX3_fencerInOrder_7 : decode cX3_fencerInOrder 7 = .ok (.invokevirtual 49, 3) := by decide +kernel
theorem dX3_fencerInOrder_10 : decode cX3_fencerInOrder 10 = .ok (.if_icmp .ge 32, 3) := by decide +kernel
theorem dX3_fencerInOrder_13 : decode cX3_fencerInOrder 13 = .ok (.aload_n 0, 1) := by decide +kernel
theorem dX3_fencerInOrder_14 : decode cX3_fencerInOrder 14 = .ok (.getfield 12, 3) := by decide +kernel
theorem dX3_fencerInOrder_17 : decode cX3_fencerInOrder 17 = .ok (.iload_n 2, 1) := by decide +kernel
theorem dX3_fencerInOrder_18 : decode cX3_fencerInOrder 18 = .ok (.invokevirtual 124, 3) := by decide +kernel
theorem dX3_fencerInOrder_21 : decode cX3_fencerInOrder 21 = .ok (.checkcast 29, 3) := by decide +kernel
theorem dX3_fencerInOrder_24 : decode cX3_fencerInOrder 24 = .ok (.astore_n 3, 1) := by decide +kernel
theorem dX3_fencerInOrder_25 : decode cX3_fencerInOrder 25 = .ok (.aload_n 0, 1) := by decide +kernel
theorem dX3_fencerInOrder_26 : decode cX3_fencerInOrder 26 = .ok (.aload_n 3, 1) := by decide +kernel
theorem dX3_fencerInOrder_27 : decode cX3_fencerInOrder 27 = .ok (.invokevirtual 321, 3) := by decide +kernel
theorem dX3_fencerInOrder_30 : decode cX3_fencerInOrder 30 = .ok (.iload_n 1, 1) := by decide +kernel
theorem dX3_fencerInOrder_31 : decode cX3_fencerInOrder 31 = .ok (.if_icmp .ne 5, 3) := by decide +kernel
theorem dX3_fencerInOrder_34 : decode cX3_fencerInOrder 34 = .ok (.aload_n 3, 1) := by decide +kernel
theorem dX3_fencerInOrder_35 : decode cX3_fencerInOrder 35 = .ok (.areturn, 1) := by decide +kernel
theorem dX3_fencerInOrder_36 : decode cX3_fencerInOrder 36 = .ok (.iinc 2 1, 3) := by decide +kernel
theorem dX3_fencerInOrder_39 : decode cX3_fencerInOrder 39 = .ok (.goto (-37), 3) := by decide +kernel
theorem dX3_fencerInOrder_42 : decode cX3_fencerInOrder 42 = .ok (.aconst_null, 1) := by decide +kernel
theorem dX3_fencerInOrder_43 : decode cX3_fencerInOrder 43 = .ok (.areturn, 1) := by decide +kernel
set_option maxRecDepth 20000 in
theorem ggX3_seed_X3_fencerInOrder : GoodIn wsX3_seed wsX3_fencerInOrder := goodIn_r _ [6, 7, 8, 9, 10, 11, 12, 13, 14, 15, 16, 17, 18, 19, 20, 21, 22, 23, 24, 25, 26, 27, 28, 29, 30, 31, 32, 33, 34, 5, 35, 36, 37, 38, 39, 40, 41, 42, 43, 44, 45, 46, 47, 48, 49, 50, 51, 52, 53, 54, 55, 56, 57, 58, 59, 60, 61, 62, 63, 64, 65, 66, 67, 68, 69, 70, 71, 72, 73, 74, 75, 76, 77, 78] (by decide +kernel) (by decide +kernel)
set_option maxRecDepth 20000 in
theorem gX3_seed_X3_fencerInOrder : GoodIn wsX3_seed (wsV RX3 73 RX3 yX3_fencerInOrder wsX3_fencerInOrder) := goodIn_app (goodIn_of _ (by decide +kernel)) ggX3_seed_X3_fencerInOrder
theorem dX3_seed_0 : decode cX3_seed 0 = .ok (.iconst 0, 1) := by decide +kernel
theorem dX3_seed_1 : decode cX3_seed 1 = .ok (.istore_n 2, 1) := by decide +kernel
theorem dX3_seed_2 : decode cX3_seed 2 = .ok (.iload_n 2, 1) := by decide +kernel
theorem dX3_seed_3 : decode cX3_seed 3 = .ok (.iload_n 1, 1) := by decide +kernel
theorem dX3_seed_4 : decode cX3_seed 4 = .ok (.if_icmp .ge 26, 3) := by decide +kernel
theorem dX3_seed_7 : decode cX3_seed 7 = .ok (.iload_n 2, 1) := by decide +kernel
theorem dX3_seed_8 : decode cX3_seed 8 = .ok (.bipush 16, 2) := by decide +kernel
theorem dX3_seed_10 : decode cX3_seed 10 = .ok (.if_icmp .ge 20, 3) := by decide +kernel
theorem dX3_seed_13 : decode cX3_seed 13 = .ok (.aload_n 0, 1) := by decide +kernel
theorem dX3_seed_14 : decode cX3_seed 14 = .ok (.getfield 31, 3) := by decide +kernel
theorem dX3_seed_17 : decode cX3_seed 17 = .ok (.iload_n 2, 1) := by decide +kernel
theorem dX3_seed_18 : decode cX3_seed 18 = .ok (.aload_n 0, 1) := by decide +kernel
theorem dX3_seed_19 : decode cX3_seed 19 = .ok (.iload_n 2, 1) := by decide +kernel
theorem dX3_seed_20 : decode cX3_seed 20 = .ok (.invokevirtual 73, 3) := by decide +kernel
theorem dX3_seed_23 : decode cX3_seed 23 = .ok (.aastore, 1) := by decide +kernel
theorem dX3_seed_24 : decode cX3_seed 24 = .ok (.iinc 2 1, 3) := by decide +kernel
theorem dX3_seed_27 : decode cX3_seed 27 = .ok (.goto (-25), 3) := by decide +kernel
theorem dX3_seed_30 : decode cX3_seed 30 = .ok (.return_, 1) := by decide +kernel
theorem dX3_setLines_0 : decode cX3_setLines 0 = .ok (.iconst 1, 1) := by decide +kernel
theorem dX3_setLines_1 : decode cX3_setLines 1 = .ok (.istore_n 2, 1) := by decide +kernel
theorem dX3_setLines_2 : decode cX3_setLines 2 = .ok (.aload_n 0, 1) := by decide +kernel
theorem dX3_setLines_3 : decode cX3_setLines 3 = .ok (.getfield 35, 3) := by decide +kernel
theorem dX3_setLines_6 : decode cX3_setLines 6 = .ok (.iconst 0, 1) := by decide +kernel
theorem dX3_setLines_7 : decode cX3_setLines 7 = .ok (.iconst 0, 1) := by decide +kernel
theorem dX3_setLines_8 : decode cX3_setLines 8 = .ok (.iastore, 1) := by decide +kernel
theorem dX3_setLines_9 : decode cX3_setLines 9 = .ok (.iload_n 2, 1) := by decide +kernel
theorem dX3_setLines_10 : decode cX3_setLines 10 = .ok (.iload_n 1, 1) := by decide +kernel
theorem dX3_setLines_11 : decode cX3_setLines 11 = .ok (.if_icmp .ge 68, 3) := by decide +kernel
theorem dX3_setLines_14 : decode cX3_setLines 14 = .ok (.iconst 2, 1) := by decide +kernel
theorem dX3_setLines_15 : decode cX3_setLines 15 = .ok (.iload_n 2, 1) := by decide +kernel
theorem dX3_setLines_16 : decode cX3_setLines 16 = .ok (.imul, 1) := by decide +kernel
theorem dX3_setLines_17 : decode cX3_setLines 17 = .ok (.bipush 16, 2) := by decide +kernel
theorem dX3_setLines_19 : decode cX3_setLines 19 = .ok (.if_icmp .gt 60, 3) := by decide +kernel
theorem dX3_setLines_22 : decode cX3_setLines 22 = .ok (.iload_n 2, 1) := by decide +kernel
theorem dX3_setLines_23 : decode cX3_setLines 23 = .ok (.iconst 1, 1) := by decide +kernel
theorem dX3_setLines_24 : decode cX3_setLines 24 = .ok (.isub, 1) := by decide +kernel
theorem dX3_setLines_25 : decode cX3_setLines 25 = .ok (.istore_n 3, 1) := by decide +kernel
theorem dX3_setLines_26 : decode cX3_setLines 26 = .ok (.iload_n 3, 1) := by decide +kernel
theorem dX3_setLines_27 : decode cX3_setLines 27 = .ok (.ifCond .lt 45, 3) := by decide +kernel
theorem dX3_setLines_30 : decode cX3_setLines 30 = .ok (.aload_n 0, 1) := by decide +kernel
theorem dX3_setLines_31 : decode cX3_setLines 31 = .ok (.getfield 35, 3) := by decide +kernel
theorem dX3_setLines_34 : decode cX3_setLines 34 = .ok (.iload_n 3, 1) := by decide +kernel
theorem dX3_setLines_35 : decode cX3_setLines 35 = .ok (.iaload, 1) := by decide +kernel
theorem dX3_setLines_36 : decode cX3_setLines 36 = .ok (.istore 4, 2) := by decide +kernel
theorem dX3_setLines_38 : decode cX3_setLines 38 = .ok (.aload_n 0, 1) := by decide +kernel
theorem dX3_setLines_39 : decode cX3_setLines 39 = .ok (.getfield 35, 3) := by decide +kernel
theorem dX3_setLines_42 : decode cX3_setLines 42 = .ok (.iconst 2, 1) := by decide +kernel
theorem dX3_setLines_43 : decode cX3_setLines 43 = .ok (.iload_n 3, 1) := by decide +kernel
theorem dX3_setLines_44 : decode cX3_setLines 44 = .ok (.imul, 1) := by decide +kernel
theorem dX3_setLines_45 : decode cX3_setLines 45 = .ok (.iload 4, 2) := by decide +kernel
theorem dX3_setLines_47 : decode cX3_setLines 47 = .ok (.iastore, 1) := by decide +kernel
theorem dX3_setLines_48 : decode cX3_setLines 48 = .ok (.aload_n 0, 1) := by decide +kernel
theorem dX3_setLines_49 : decode cX3_setLines 49 = .ok (.getfield 35, 3) := by decide +kernel
theorem dX3_setLines_52 : decode cX3_setLines 52 = .ok (.iconst 2, 1) := by decide +kernel
theorem dX3_setLines_53 : decode cX3_setLines 53 = .ok (.iload_n 3, 1) := by decide +kernel
theorem dX3_setLines_54 : decode cX3_setLines 54 = .ok (.imul, 1) := by decide +kernel
theorem dX3_setLines_55 : decode cX3_setLines 55 = .ok (.iconst 1, 1) := by decide +kernel
theorem dX3_setLines_56 : decode cX3_setLines 56 = .ok (.iadd, 1) := by decide +kernel
theorem dX3_setLines_57 : decode cX3_setLines 57 = .ok (.iconst 2, 1) := by decide +kernel
theorem dX3_setLines_58 : decode cX3_setLines 58 = .ok (.iload_n 2, 1) := by decide +kernel
theorem dX3_setLines_59 : decode cX3_setLines 59 = .ok (.imul, 1) := by decide +kernel
theorem dX3_setLines_60 : decode cX3_setLines 60 = .ok (.iconst 1, 1) := by decide +kernel
theorem dX3_setLines_61 : decode cX3_setLines 61 = .ok (.isub, 1) := by decide +kernel
theorem dX3_setLines_62 : decode cX3_setLines 62 = .ok (.iload 4, 2) := by decide +kernel
theorem dX3_setLines_64 : decode cX3_setLines 64 = .ok (.isub, 1) := by decide +kernel
theorem dX3_setLines_65 : decode cX3_setLines 65 = .ok (.iastore, 1) := by decide +kernel
theorem dX3_setLines_66 : decode cX3_setLines 66 = .ok (.iinc 3 (-1), 3) := by decide +kernel
theorem dX3_setLines_69 : decode cX3_setLines 69 = .ok (.goto (-43), 3) := by decide +kernel
theorem dX3_setLines_72 : decode cX3_setLines 72 = .ok (.iload_n 2, 1) := by decide +kernel
theorem dX3_setLines_73 : decode cX3_setLines 73 = .ok (.iconst 2, 1) := by decide +kernel
theorem dX3_setLines_74 : decode cX3_setLines 74 = .ok (.imul, 1) := by decide +kernel
theorem dX3_setLines_75 : decode cX3_setLines 75 = .ok (.istore_n 2, 1) := by decide +kernel
theorem dX3_setLines_76 : decode cX3_setLines 76 = .ok (.goto (-67), 3) := by decide +kernel
theorem dX3_setLines_79 : decode cX3_setLines 79 = .ok (.aload_n 0, 1) := by decide +kernel
theorem dX3_setLines_80 : decode cX3_setLines 80 = .ok (.iload_n 2, 1) := by decide +kernel
theorem dX3_setLines_81 : decode cX3_setLines 81 = .ok (.putfield 247, 3) := by decide +kernel
theorem dX3_setLines_84 : decode cX3_setLines 84 = .ok (.return_, 1) := by decide +kernel
set_option maxRecDepth 20000 in
theorem ggX3_addTableBouts_Jx4a65c_size_8abf5 : GoodIn wsX3_addTableBouts wsJx4a65c_size_8abf5 := goodIn_r _ [11, 12, 188, 189, 190] (by decide +kernel) (by decide +kernel)
set_option maxRecDepth 20000 in
theorem gX3_addTableBouts_Jx4a65c_size_8abf5 : GoodIn wsX3_addTableBouts (wsV RX3 49 RJx4a65c yJx4a65c_size_8abf5 wsJx4a65c_size_8abf5) := goodIn_app (goodIn_of _ (by decide +kernel)) ggX3_addTableBouts_Jx4a65c_size_8abf5
set_option maxRecDepth 20000 in
theorem ggX3_addTableBouts_X3_enteredOnLine : GoodIn wsX3_addTableBouts wsX3_enteredOnLine := goodIn_r _ [17, 18, 19, 20, 21, 22, 16, 23, 3, 24, 25, 26, 27, 28, 191, 192, 193, 194, 195, 196, 197, 198, 199, 200, 201, 202, 203, 204, 169, 170, 171, 172, 173, 174, 175, 176, 177, 178] (by decide +kernel) (by decide +kernel)
set_option maxRecDepth 20000 in
theorem gX3_addTableBouts_X3_enteredOnLine : GoodIn wsX3_addTableBouts (wsV RX3 359 RX3 yX3_enteredOnLine wsX3_enteredOnLine) := goodIn_app (goodIn_of _ (by decide +kernel)) ggX3_addTableBouts_X3_enteredOnLine
set_option maxRecDepth 20000 in
theorem ggX3_addTableBouts_X0_init : GoodIn wsX3_addTableBouts wsX0_init := goodIn_r _ [31, 32, 33, 34, 35, 36, 37, 38, 39, 40, 41, 42, 43, 44, 45, 46, 47, 205, 206, 207, 179, 180, 181, 182, 183, 184, 185, 186, 187] (by decide +kernel) (by decide +kernel)
set_option maxRecDepth 20000 in
theorem gX3_addTableBouts_X0_init : GoodIn wsX3_addTableBouts (wsX0_init) := ggX3_addTableBouts_X0_init
set_option maxRecDepth 20000 in
theorem ggX3_addTableBouts_Jx4a65c_add_9ea2d : GoodIn wsX3_addTableBouts wsJx4a65c_add_9ea2d := goodIn_r _ [51, 52, 53, 54, 12, 55, 56, 57, 10, 58, 59, 60, 61, 62, 63, 64, 65, 66, 67, 68, 69, 70, 71, 72, 73, 74, 75, 76, 77, 78, 79, 80, 81, 82, 83, 84, 85, 86, 87, 88, 89, 90, 91, 92, 93, 94, 95, 96, 97, 98, 99, 100, 101, 188, 189, 190] (by decide +kernel) (by decide +kernel)
set_option maxRecDepth 20000 in
theorem gX3_addTableBouts_Jx4a65c_add_9ea2d : GoodIn wsX3_addTableBouts (wsV RX3 65 RJx4a65c yJx4a65c_add_9ea2d wsJx4a65c_add_9ea2d) := goodIn_app (goodIn_of _ (by decide +kernel)) ggX3_addTableBouts_Jx4a65c_add_9ea2d
set_option maxRecDepth 20000 in
theorem ggX3_addTableBouts_X3_decideWithoutOther : GoodIn wsX3_addTableBouts wsX3_decideWithoutOther := goodIn_r _ [105, 3, 2, 1, 106, 107, 108, 109, 7, 8, 9, 10, 11, 12, 26, 27, 16, 28, 110, 111, 112, 113, 114, 115, 116, 117, 118, 119, 120, 121, 122, 123, 124, 125, 54, 126, 127, 128, 6, 129, 38, 44, 39, 130, 131, 132, 133, 134, 135, 136, 137, 19, 138, 139, 140, 141, 43, 142, 143, 144, 145, 146, 147, 148, 37, 149, 150, 151, 152, 153, 154, 155, 156, 157, 158, 159, 160, 161, 162, 163, 164, 165, 166, 167, 168, 169, 170, 171, 172, 173, 174, 175, 176, 177, 178, 179, 180, 181, 182, 183, 184, 185, 186, 187, 205, 206, 207, 188, 189, 190, 191, 192, 193, 194, 195, 196, 197, 198, 199, 200, 201, 202, 203, 204] (by decide +kernel) (by decide +kernel)
set_option maxRecDepth 20000 in
theorem gX3_addTableBouts_X3_decideWithoutOther : GoodIn wsX3_addTableBouts (wsV RX3 362 RX3 yX3_decideWithoutOther wsX3_decideWithoutOther) := goodIn_app (goodIn_of _ (by decide +kernel)) ggX3_addTableBouts_X3_decideWithoutOther
theorem dX3_addTableBouts_0 : decode cX3_addTableBouts 0 = .ok (.aload_n 0, 1) := by decide +kernel
theorem dX3_addTableBouts_1 : decode cX3_addTableBouts 1 = .ok (.aload_n 0, 1) := by decide +kernel
theorem dX3_addTableBouts_2 : decode cX3_addTableBouts 2 = .ok (.getfield 16, 3) := by decide +kernel
theorem dX3_addTableBouts_5 : decode cX3_addTableBouts 5 = .ok (.invokevirtual 49, 3) := by decide +kernel
theorem dX3_addTableBouts_8 : decode cX3_addTableBouts 8 = .ok (.putfield 356, 3) := by decide +kernel
theorem dX3_addTableBouts_11 : decode cX3_addTableBouts 11 = .ok (.iconst 0, 1) := by decide +kernel
theorem dX3_addTableBouts_12 : decode cX3_addTableBouts 12 = .ok (.istore_n 1, 1) := by decide +kernel
theorem dX3_addTableBouts_13 : decode cX3_addTableBouts 13 = .ok (.iload_n 1, 1) := by decide +kernel
theorem dX3_addTableBouts_14 : decode cX3_addTableBouts 14 = .ok (.aload_n 0, 1) := by decide +kernel
theorem dX3_addTableBouts_15 : decode cX3_addTableBouts 15 = .ok (.getfield 247, 3) := by decide +kernel
theorem dX3_addTableBouts_18 : decode cX3_addTableBouts 18 = .ok (.iconst 2, 1) := by decide +kernel
theorem dX3_addTableBouts_19 : decode cX3_addTableBouts 19 = .ok (.idiv, 1) := by decide +kernel
theorem dX3_addTableBouts_20 : decode cX3_addTableBouts 20 = .ok (.if_icmp .ge 52, 3) := by decide +kernel
theorem dX3_addTableBouts_23 : decode cX3_addTableBouts 23 = .ok (.aload_n 0, 1) := by decide +kernel
theorem dX3_addTableBouts_24 : decode cX3_addTableBouts 24 = .ok (.iconst 2, 1) := by decide +kernel
theorem dX3_addTableBouts_25 : decode cX3_addTableBouts 25 = .ok (.iload_n 1, 1) := by decide +kernel
theorem dX3_addTableBouts_26 : decode cX3_addTableBouts 26 = .ok (.imul, 1) := by decide +kernel
theorem dX3_addTableBouts_27 : decode cX3_addTableBouts 27 = .ok (.invokevirtual 359, 3) := by decide +kernel
theorem dX3_addTableBouts_30 : decode cX3_addTableBouts 30 = .ok (.astore_n 2, 1) := by decide +kernel
theorem dX3_addTableBouts_31 : decode cX3_addTableBouts 31 = .ok (.aload_n 0, 1) := by decide +kernel
theorem dX3_addTableBouts_32 : decode cX3_addTableBouts 32 = .ok (.iconst 2, 1) := by decide +kernel
theorem dX3_addTableBouts_33 : decode cX3_addTableBouts 33 = .ok (.iload_n 1, 1) := by decide +kernel
theorem dX3_addTableBouts_34 : decode cX3_addTableBouts 34 = .ok (.imul, 1) := by decide +kernel
theorem dX3_addTableBouts_35 : decode cX3_addTableBouts 35 = .ok (.iconst 1, 1) := by decide +kernel
theorem dX3_addTableBouts_36 : decode cX3_addTableBouts 36 = .ok (.iadd, 1) := by decide +kernel
theorem dX3_addTableBouts_37 : decode cX3_addTableBouts 37 = .ok (.invokevirtual 359, 3) := by decide +kernel
theorem dX3_addTableBouts_40 : decode cX3_addTableBouts 40 = .ok (.astore_n 3, 1) := by decide +kernel
theorem dX3_addTableBouts_41 : decode cX3_addTableBouts 41 = .ok (.aload_n 0, 1) := by decide +kernel
theorem dX3_addTableBouts_42 : decode cX3_addTableBouts 42 = .ok (.getfield 16, 3) := by decide +kernel
theorem dX3_addTableBouts_45 : decode cX3_addTableBouts 45 = .ok (.new 19, 3) := by decide +kernel
theorem dX3_addTableBouts_48 : decode cX3_addTableBouts 48 = .ok (.dup, 1) := by decide +kernel
theorem dX3_addTableBouts_49 : decode cX3_addTableBouts 49 = .ok (.aload_n 0, 1) := by decide +kernel
theorem dX3_addTableBouts_50 : decode cX3_addTableBouts 50 = .ok (.getfield 16, 3) := by decide +kernel
theorem dX3_addTableBouts_53 : decode cX3_addTableBouts 53 = .ok (.invokevirtual 49, 3) := by decide +kernel
theorem dX3_addTableBouts_56 : decode cX3_addTableBouts 56 = .ok (.iconst 0, 1) := by decide +kernel
theorem dX3_addTableBouts_57 : decode cX3_addTableBouts 57 = .ok (.aload_n 2, 1) := by decide +kernel
theorem dX3_addTableBouts_58 : decode cX3_addTableBouts 58 = .ok (.aload_n 3, 1) := by decide +kernel
theorem dX3_addTableBouts_59 : decode cX3_addTableBouts 59 = .ok (.invokespecial 132, 3) := by decide +kernel
theorem dX3_addTableBouts_62 : decode cX3_addTableBouts 62 = .ok (.invokevirtual 65, 3) := by decide +kernel
theorem dX3_addTableBouts_65 : decode cX3_addTableBouts 65 = .ok (.pop, 1) := by decide +kernel
theorem dX3_addTableBouts_66 : decode cX3_addTableBouts 66 = .ok (.iinc 1 1, 3) := by decide +kernel
theorem dX3_addTableBouts_69 : decode cX3_addTableBouts 69 = .ok (.goto (-56), 3) := by decide +kernel
theorem dX3_addTableBouts_72 : decode cX3_addTableBouts 72 = .ok (.iconst 1, 1) := by decide +kernel
theorem dX3_addTableBouts_73 : decode cX3_addTableBouts 73 = .ok (.istore_n 1, 1) := by decide +kernel
theorem dX3_addTableBouts_74 : decode cX3_addTableBouts 74 = .ok (.aload_n 0, 1) := by decide +kernel
theorem dX3_addTableBouts_75 : decode cX3_addTableBouts 75 = .ok (.getfield 247, 3) := by decide +kernel
theorem dX3_addTableBouts_78 : decode cX3_addTableBouts 78 = .ok (.iconst 4, 1) := by decide +kernel
theorem dX3_addTableBouts_79 : decode cX3_addTableBouts 79 = .ok (.idiv, 1) := by decide +kernel
theorem dX3_addTableBouts_80 : decode cX3_addTableBouts 80 = .ok (.istore_n 2, 1) := by decide +kernel
theorem dX3_addTableBouts_81 : decode cX3_addTableBouts 81 = .ok (.iload_n 2, 1) := by decide +kernel
theorem dX3_addTableBouts_82 : decode cX3_addTableBouts 82 = .ok (.ifCond .le 51, 3) := by decide +kernel
theorem dX3_addTableBouts_85 : decode cX3_addTableBouts 85 = .ok (.iconst 0, 1) := by decide +kernel
theorem dX3_addTableBouts_86 : decode cX3_addTableBouts 86 = .ok (.istore_n 3, 1) := by decide +kernel
theorem dX3_addTableBouts_87 : decode cX3_addTableBouts 87 = .ok (.iload_n 3, 1) := by decide +kernel
theorem dX3_addTableBouts_88 : decode cX3_addTableBouts 88 = .ok (.iload_n 2, 1) := by decide +kernel
theorem dX3_addTableBouts_89 : decode cX3_addTableBouts 89 = .ok (.if_icmp .ge 34, 3) := by decide +kernel
theorem dX3_addTableBouts_92 : decode cX3_addTableBouts 92 = .ok (.aload_n 0, 1) := by decide +kernel
theorem dX3_addTableBouts_93 : decode cX3_addTableBouts 93 = .ok (.getfield 16, 3) := by decide +kernel
theorem dX3_addTableBouts_96 : decode cX3_addTableBouts 96 = .ok (.new 19, 3) := by decide +kernel
theorem dX3_addTableBouts_99 : decode cX3_addTableBouts 99 = .ok (.dup, 1) := by decide +kernel
theorem dX3_addTableBouts_100 : decode cX3_addTableBouts 100 = .ok (.aload_n 0, 1) := by decide +kernel
theorem dX3_addTableBouts_101 : decode cX3_addTableBouts 101 = .ok (.getfield 16, 3) := by decide +kernel
theorem dX3_addTableBouts_104 : decode cX3_addTableBouts 104 = .ok (.invokevirtual 49, 3) := by decide +kernel
theorem dX3_addTableBouts_107 : decode cX3_addTableBouts 107 = .ok (.iload_n 1, 1) := by decide +kernel
theorem dX3_addTableBouts_108 : decode cX3_addTableBouts 108 = .ok (.aconst_null, 1) := by decide +kernel
theorem dX3_addTableBouts_109 : decode cX3_addTableBouts 109 = .ok (.aconst_null, 1) := by decide +kernel
theorem dX3_addTableBouts_110 : decode cX3_addTableBouts 110 = .ok (.invokespecial 132, 3) := by decide +kernel
theorem dX3_addTableBouts_113 : decode cX3_addTableBouts 113 = .ok (.invokevirtual 65, 3) := by decide +kernel
theorem dX3_addTableBouts_116 : decode cX3_addTableBouts 116 = .ok (.pop, 1) := by decide +kernel
theorem dX3_addTableBouts_117 : decode cX3_addTableBouts 117 = .ok (.iinc 3 1, 3) := by decide +kernel
theorem dX3_addTableBouts_120 : decode cX3_addTableBouts 120 = .ok (.goto (-33), 3) := by decide +kernel
theorem dX3_addTableBouts_123 : decode cX3_addTableBouts 123 = .ok (.iinc 1 1, 3) := by decide +kernel
theorem dX3_addTableBouts_126 : decode cX3_addTableBouts 126 = .ok (.iload_n 2, 1) := by decide +kernel
theorem dX3_addTableBouts_127 : decode cX3_addTableBouts 127 = .ok (.iconst 2, 1) := by decide +kernel
theorem dX3_addTableBouts_128 : decode cX3_addTableBouts 128 = .ok (.idiv, 1) := by decide +kernel
theorem dX3_addTableBouts_129 : decode cX3_addTableBouts 129 = .ok (.istore_n 2, 1) := by decide +kernel
theorem dX3_addTableBouts_130 : decode cX3_addTableBouts 130 = .ok (.goto (-49), 3) := by decide +kernel
theorem dX3_addTableBouts_133 : decode cX3_addTableBouts 133 = .ok (.aload_n 0, 1) := by decide +kernel
theorem dX3_addTableBouts_134 : decode cX3_addTableBouts 134 = .ok (.invokevirtual 362, 3) := by decide +kernel
theorem dX3_addTableBouts_137 : decode cX3_addTableBouts 137 = .ok (.return_, 1) := by decide +kernel
set_option maxRecDepth 20000 in
theorem ggX3_decideWithoutOther_Jx4a65c_size_8abf5 : GoodIn wsX3_decideWithoutOther wsJx4a65c_size_8abf5 := goodIn_r _ [12, 13, 107, 108, 109] (by decide +kernel) (by decide +kernel)
set_option maxRecDepth 20000 in
theorem gX3_decideWithoutOther_Jx4a65c_size_8abf5 : GoodIn wsX3_decideWithoutOther (wsV RX3 49 RJx4a65c yJx4a65c_size_8abf5 wsJx4a65c_size_8abf5) := goodIn_app (goodIn_of _ (by decide +kernel)) ggX3_decideWithoutOther_Jx4a65c_size_8abf5
set_option maxRecDepth 20000 in
theorem ggX3_decideWithoutOther_X3_isIn : GoodIn wsX3_decideWithoutOther wsX3_isIn := goodIn_r _ [17] (by decide +kernel) (by decide +kernel)
set_option maxRecDepth 20000 in
theorem gX3_decideWithoutOther_X3_isIn : GoodIn wsX3_decideWithoutOther (va_wsS RX3 38 yX3_isIn wsX3_isIn) := goodIn_app (goodIn_of _ (by decide +kernel)) ggX3_decideWithoutOther_X3_isIn
set_option maxRecDepth 20000 in
theorem ggX3_decideWithoutOther_Jx4a65c_get_915e3 : GoodIn wsX3_decideWithoutOther wsJx4a65c_get_915e3 := goodIn_r _ [21, 13, 22, 23, 24, 25, 26, 27, 28, 29, 30, 31, 32, 11, 33, 34, 107, 108, 109] (by decide +kernel) (by decide +kernel)
set_option maxRecDepth 20000 in
theorem gX3_decideWithoutOther_Jx4a65c_get_915e3 : GoodIn wsX3_decideWithoutOther (wsV RX3 124 RJx4a65c yJx4a65c_get_915e3 wsJx4a65c_get_915e3) := goodIn_app (goodIn_of _ (by decide +kernel)) ggX3_decideWithoutOther_Jx4a65c_get_915e3
set_option maxRecDepth 20000 in
theorem ggX3_decideWithoutOther_X0_isKnown : GoodIn wsX3_decideWithoutOther wsX0_isKnown := goodIn_r _ [39, 40, 41, 42, 95, 96, 97, 98, 99, 100, 101, 102, 103, 104, 105, 106] (by decide +kernel) (by decide +kernel)
set_option maxRecDepth 20000 in
theorem gX3_decideWithoutOther_X0_isKnown : GoodIn wsX3_decideWithoutOther (wsV RX3 256 RX0 yX0_isKnown wsX0_isKnown) := goodIn_app (goodIn_of _ (by decide +kernel)) ggX3_decideWithoutOther_X0_isKnown
set_option maxRecDepth 20000 in
theorem ggX3_decideWithoutOther_X3_decide : GoodIn wsX3_decideWithoutOther wsX3_decide := goodIn_r _ [46, 47, 48, 5, 49, 7, 6, 50, 51, 52, 53, 54, 38, 55, 56, 57, 58, 59, 60, 40, 42, 61, 62, 63, 64, 65, 66, 67, 68, 69, 70, 71, 72, 73, 74, 75, 76, 77, 78, 16, 79, 80, 2, 1, 3, 4, 8, 9, 10, 11, 12, 13, 14, 15, 17, 18, 19, 20, 21, 22, 23, 24, 25, 26, 27, 28, 29, 30, 31, 32, 33, 34, 81, 82, 83, 84, 95, 96, 97, 98, 99, 100, 101, 102, 103, 104, 105, 106, 110, 111, 112, 113, 114, 115, 116, 117, 118, 119, 120, 121, 122, 123, 85, 86, 87, 88, 89, 90, 91, 92, 93, 94, 107, 108, 109] (by decide +kernel) (by decide +kernel)
set_option maxRecDepth 20000 in
theorem gX3_decideWithoutOther_X3_decide : GoodIn wsX3_decideWithoutOther (wsV RX3 293 RX3 yX3_decide wsX3_decide) := goodIn_app (goodIn_of _ (by decide +kernel)) ggX3_decideWithoutOther_X3_decide
theorem dX3_decideWithoutOther_0 : decode cX3_decideWithoutOther 0 = .ok (.iconst 0, 1) := by decide +kernel
theorem dX3_decideWithoutOther_1 : decode cX3_decideWithoutOther 1 = .ok (.istore_n 1, 1) := by decide +kernel
theorem dX3_decideWithoutOther_2 : decode cX3_decideWithoutOther 2 = .ok (.iload_n 1, 1) := by decide +kernel
theorem dX3_decideWithoutOther_3 : decode cX3_decideWithoutOther 3 = .ok (.aload_n 0, 1) := by decide +kernel
theorem dX3_decideWithoutOther_4 : decode cX3_decideWithoutOther 4 = .ok (.getfield 247, 3) := by decide +kernel
theorem dX3_decideWithoutOther_7 : decode cX3_decideWithoutOther 7 = .ok (.iconst 2, 1) := by decide +kernel
theorem dX3_decideWithoutOther_8 : decode cX3_decideWithoutOther 8 = .ok (.idiv, 1) := by decide +kernel
theorem dX3_decideWithoutOther_9 : decode cX3_decideWithoutOther 9 = .ok (.if_icmp .ge 85, 3) := by decide +kernel
theorem dX3_decideWithoutOther_12 : decode cX3_decideWithoutOther 12 = .ok (.aload_n 0, 1) := by decide +kernel
theorem dX3_decideWithoutOther_13 : decode cX3_decideWithoutOther 13 = .ok (.getfield 356, 3) := by decide +kernel
theorem dX3_decideWithoutOther_16 : decode cX3_decideWithoutOther 16 = .ok (.iload_n 1, 1) := by decide +kernel
theorem dX3_decideWithoutOther_17 : decode cX3_decideWithoutOther 17 = .ok (.iadd, 1) := by decide +kernel
theorem dX3_decideWithoutOther_18 : decode cX3_decideWithoutOther 18 = .ok (.istore_n 2, 1) := by decide +kernel
theorem dX3_decideWithoutOther_19 : decode cX3_decideWithoutOther 19 = .ok (.iload_n 2, 1) := by decide +kernel
theorem dX3_decideWithoutOther_20 : decode cX3_decideWithoutOther 20 = .ok (.iconst 0, 1) := by decide +kernel
theorem dX3_decideWithoutOther_21 : decode cX3_decideWithoutOther 21 = .ok (.aload_n 0, 1) := by decide +kernel
theorem dX3_decideWithoutOther_22 : decode cX3_decideWithoutOther 22 = .ok (.getfield 16, 3) := by decide +kernel
theorem dX3_decideWithoutOther_25 : decode cX3_decideWithoutOther 25 = .ok (.invokevirtual 49, 3) := by decide +kernel
theorem dX3_decideWithoutOther_28 : decode cX3_decideWithoutOther 28 = .ok (.iconst 1, 1) := by decide +kernel
theorem dX3_decideWithoutOther_29 : decode cX3_decideWithoutOther 29 = .ok (.isub, 1) := by decide +kernel
theorem dX3_decideWithoutOther_30 : decode cX3_decideWithoutOther 30 = .ok (.invokestatic 38, 3) := by decide +kernel
theorem dX3_decideWithoutOther_33 : decode cX3_decideWithoutOther 33 = .ok (.ifCond .ne 4, 3) := by decide +kernel
theorem dX3_decideWithoutOther_36 : decode cX3_decideWithoutOther 36 = .ok (.return_, 1) := by decide +kernel
theorem dX3_decideWithoutOther_37 : decode cX3_decideWithoutOther 37 = .ok (.aload_n 0, 1) := by decide +kernel
theorem dX3_decideWithoutOther_38 : decode cX3_decideWithoutOther 38 = .ok (.getfield 16, 3) := by decide +kernel
theorem dX3_decideWithoutOther_41 : decode cX3_decideWithoutOther 41 = .ok (.iload_n 2, 1) := by decide +kernel
theorem dX3_decideWithoutOther_42 : decode cX3_decideWithoutOther 42 = .ok (.invokevirtual 124, 3) := by decide +kernel
theorem dX3_decideWithoutOther_45 : decode cX3_decideWithoutOther 45 = .ok (.checkcast 19, 3) := by decide +kernel
theorem dX3_decideWithoutOther_48 : decode cX3_decideWithoutOther 48 = .ok (.astore_n 3, 1) := by decide +kernel
theorem dX3_decideWithoutOther_49 : decode cX3_decideWithoutOther 49 = .ok (.aload_n 3, 1) := by decide +kernel
theorem dX3_decideWithoutOther_50 : decode cX3_decideWithoutOther 50 = .ok (.invokevirtual 256, 3) := by decide +kernel
theorem dX3_decideWithoutOther_53 : decode cX3_decideWithoutOther 53 = .ok (.ifCond .ne 35, 3) := by decide +kernel
theorem dX3_decideWithoutOther_56 : decode cX3_decideWithoutOther 56 = .ok (.aload_n 0, 1) := by decide +kernel
theorem dX3_decideWithoutOther_57 : decode cX3_decideWithoutOther 57 = .ok (.aload_n 3, 1) := by decide +kernel
theorem dX3_decideWithoutOther_58 : decode cX3_decideWithoutOther 58 = .ok (.aload_n 3, 1) := by decide +kernel
theorem dX3_decideWithoutOther_59 : decode cX3_decideWithoutOther 59 = .ok (.getfield 172, 3) := by decide +kernel
theorem dX3_decideWithoutOther_62 : decode cX3_decideWithoutOther 62 = .ok (.getfield 202, 3) := by decide +kernel
theorem dX3_decideWithoutOther_65 : decode cX3_decideWithoutOther 65 = .ok (.ifnonnull 13, 3) := by decide +kernel
theorem dX3_decideWithoutOther_68 : decode cX3_decideWithoutOther 68 = .ok (.aload_n 3, 1) := by decide +kernel
theorem dX3_decideWithoutOther_69 : decode cX3_decideWithoutOther 69 = .ok (.getfield 181, 3) := by decide +kernel
theorem dX3_decideWithoutOther_72 : decode cX3_decideWithoutOther 72 = .ok (.getfield 202, 3) := by decide +kernel
theorem dX3_decideWithoutOther_75 : decode cX3_decideWithoutOther 75 = .ok (.goto 10, 3) := by decide +kernel
theorem dX3_decideWithoutOther_78 : decode cX3_decideWithoutOther 78 = .ok (.aload_n 3, 1) := by decide +kernel
theorem dX3_decideWithoutOther_79 : decode cX3_decideWithoutOther 79 = .ok (.getfield 172, 3) := by decide +kernel
theorem dX3_decideWithoutOther_82 : decode cX3_decideWithoutOther 82 = .ok (.getfield 202, 3) := by decide +kernel
theorem dX3_decideWithoutOther_85 : decode cX3_decideWithoutOther 85 = .ok (.invokevirtual 293, 3) := by decide +kernel
theorem dX3_decideWithoutOther_88 : decode cX3_decideWithoutOther 88 = .ok (.iinc 1 1, 3) := by decide +kernel
theorem dX3_decideWithoutOther_91 : decode cX3_decideWithoutOther 91 = .ok (.goto (-89), 3) := by decide +kernel
theorem dX3_decideWithoutOther_94 : decode cX3_decideWithoutOther 94 = .ok (.return_, 1) := by decide +kernel
set_option maxRecDepth 20000 in
theorem ggX3_enteredOnLine_X3_fencerOnLine : GoodIn wsX3_enteredOnLine wsX3_fencerOnLine := goodIn_r _ [7, 8, 9, 10, 11, 12, 6, 13, 28, 29, 30, 31, 32, 33, 34, 35, 36, 37] (by decide +kernel) (by decide +kernel)
set_option maxRecDepth 20000 in
theorem gX3_enteredOnLine_X3_fencerOnLine : GoodIn wsX3_enteredOnLine (wsV RX3 346 RX3 yX3_fencerOnLine wsX3_fencerOnLine) := goodIn_app (goodIn_of _ (by decide +kernel)) ggX3_enteredOnLine_X3_fencerOnLine
theorem dX3_enteredOnLine_0 : decode cX3_enteredOnLine 0 = .ok (.aload_n 0, 1) := by decide +kernel
theorem dX3_enteredOnLine_1 : decode cX3_enteredOnLine 1 = .ok (.iload_n 1, 1) := by decide +kernel
theorem dX3_enteredOnLine_2 : decode cX3_enteredOnLine 2 = .ok (.invokevirtual 346, 3) := by decide +kernel
theorem dX3_enteredOnLine_5 : decode cX3_enteredOnLine 5 = .ok (.astore_n 2, 1) := by decide +kernel
theorem dX3_enteredOnLine_6 : decode cX3_enteredOnLine 6 = .ok (.aload_n 2, 1) := by decide +kernel
theorem dX3_enteredOnLine_7 : decode cX3_enteredOnLine 7 = .ok (.ifnull 13, 3) := by decide +kernel
theorem dX3_enteredOnLine_10 : decode cX3_enteredOnLine 10 = .ok (.aload_n 2, 1) := by decide +kernel
theorem dX3_enteredOnLine_11 : decode cX3_enteredOnLine 11 = .ok (.iload_n 1, 1) := by decide +kernel
theorem dX3_enteredOnLine_12 : decode cX3_enteredOnLine 12 = .ok (.putfield 365, 3) := by decide +kernel
theorem dX3_enteredOnLine_15 : decode cX3_enteredOnLine 15 = .ok (.aload_n 2, 1) := by decide +kernel
theorem dX3_enteredOnLine_16 : decode cX3_enteredOnLine 16 = .ok (.iconst 4, 1) := by decide +kernel
theorem dX3_enteredOnLine_17 : decode cX3_enteredOnLine 17 = .ok (.putfield 303, 3) := by decide +kernel
theorem dX3_enteredOnLine_20 : decode cX3_enteredOnLine 20 = .ok (.aload_n 2, 1) := by decide +kernel
theorem dX3_enteredOnLine_21 : decode cX3_enteredOnLine 21 = .ok (.areturn, 1) := by decide +kernel
set_option maxRecDepth 20000 in
theorem ggX3_fencerOnLine_X3_isIn : GoodIn wsX3_fencerOnLine wsX3_isIn := goodIn_r _ [7] (by decide +kernel) (by decide +kernel)
set_option maxRecDepth 20000 in
theorem gX3_fencerOnLine_X3_isIn : GoodIn wsX3_fencerOnLine (va_wsS RX3 38 yX3_isIn wsX3_isIn) := goodIn_app (goodIn_of _ (by decide +kernel)) ggX3_fencerOnLine_X3_isIn
theorem dX3_fencerOnLine_0 : decode cX3_fencerOnLine 0 = .ok (.iload_n 1, 1) := by decide +kernel
theorem dX3_fencerOnLine_1 : decode cX3_fencerOnLine 1 = .ok (.iconst 0, 1) := by decide +kernel
theorem dX3_fencerOnLine_2 : decode cX3_fencerOnLine 2 = .ok (.aload_n 0, 1) := by decide +kernel
theorem dX3_fencerOnLine_3 : decode cX3_fencerOnLine 3 = .ok (.getfield 247, 3) := by decide +kernel
theorem dX3_fencerOnLine_6 : decode cX3_fencerOnLine 6 = .ok (.iconst 1, 1) := by decide +kernel
theorem dX3_fencerOnLine_7 : decode cX3_fencerOnLine 7 = .ok (.isub, 1) := by decide +kernel
theorem dX3_fencerOnLine_8 : decode cX3_fencerOnLine 8 = .ok (.invokestatic 38, 3) := by decide +kernel
theorem dX3_fencerOnLine_11 : decode cX3_fencerOnLine 11 = .ok (.ifCond .eq 18, 3) := by decide +kernel
theorem dX3_fencerOnLine_14 : decode cX3_fencerOnLine 14 = .ok (.aload_n 0, 1) := by decide +kernel
theorem dX3_fencerOnLine_15 : decode cX3_fencerOnLine 15 = .ok (.getfield 35, 3) := by decide +kernel
theorem dX3_fencerOnLine_18 : decode cX3_fencerOnLine 18 = .ok (.iload_n 1, 1) := by decide +kernel
theorem dX3_fencerOnLine_19 : decode cX3_fencerOnLine 19 = .ok (.iaload, 1) := by decide +kernel
theorem dX3_fencerOnLine_20 : decode cX3_fencerOnLine 20 = .ok (.iconst 0, 1) := by decide +kernel
theorem dX3_fencerOnLine_21 : decode cX3_fencerOnLine 21 = .ok (.bipush 15, 2) := by decide +kernel
theorem dX3_fencerOnLine_23 : decode cX3_fencerOnLine 23 = .ok (.invokestatic 38, 3) := by decide +kernel
theorem dX3_fencerOnLine_26 : decode cX3_fencerOnLine 26 = .ok (.ifCond .ne 5, 3) := by decide +kernel
theorem dX3_fencerOnLine_29 : decode cX3_fencerOnLine 29 = .ok (.aconst_null, 1) := by decide +kernel
theorem dX3_fencerOnLine_30 : decode cX3_fencerOnLine 30 = .ok (.areturn, 1) := by decide +kernel
theorem dX3_fencerOnLine_31 : decode cX3_fencerOnLine 31 = .ok (.aload_n 0, 1) := by decide +kernel
theorem dX3_fencerOnLine_32 : decode cX3_fencerOnLine 32 = .ok (.getfield 31, 3) := by decide +kernel
theorem dX3_fencerOnLine_35 : decode cX3_fencerOnLine 35 = .ok (.aload_n 0, 1) := by decide +kernel
theorem dX3_fencerOnLine_36 : decode cX3_fencerOnLine 36 = .ok (.getfield 35, 3) := by decide +kernel
theorem dX3_fencerOnLine_39 : decode cX3_fencerOnLine 39 = .ok (.iload_n 1, 1) := by decide +kernel
theorem dX3_fencerOnLine_40 : decode cX3_fencerOnLine 40 = .ok (.iaload, 1) := by decide +kernel
theorem dX3_fencerOnLine_41 : decode cX3_fencerOnLine 41 = .ok (.aaload, 1) := by decide +kernel
theorem dX3_fencerOnLine_42 : decode cX3_fencerOnLine 42 = .ok (.areturn, 1) := by decide +kernel
set_option maxRecDepth 20000 in
theorem ggX3_goOnInTable_Jx4a65c_size_8abf5 : GoodIn wsX3_goOnInTable wsJx4a65c_size_8abf5 := goodIn_r _ [12, 13, 64, 65, 66] (by decide +kernel) (by decide +kernel)
set_option maxRecDepth 20000 in
theorem gX3_goOnInTable_Jx4a65c_size_8abf5 : GoodIn wsX3_goOnInTable (wsV RX3 49 RJx4a65c yJx4a65c_size_8abf5 wsJx4a65c_size_8abf5) := goodIn_app (goodIn_of _ (by decide +kernel)) ggX3_goOnInTable_Jx4a65c_size_8abf5
set_option maxRecDepth 20000 in
theorem ggX3_goOnInTable_X3_isIn : GoodIn wsX3_goOnInTable wsX3_isIn := goodIn_r _ [17] (by decide +kernel) (by decide +kernel)
set_option maxRecDepth 20000 in
theorem gX3_goOnInTable_X3_isIn : GoodIn wsX3_goOnInTable (va_wsS RX3 38 yX3_isIn wsX3_isIn) := goodIn_app (goodIn_of _ (by decide +kernel)) ggX3_goOnInTable_X3_isIn
set_option maxRecDepth 20000 in
theorem ggX3_goOnInTable_Jx4a65c_get_915e3 : GoodIn wsX3_goOnInTable wsJx4a65c_get_915e3 := goodIn_r _ [21, 13, 22, 23, 24, 25, 26, 27, 28, 29, 30, 31, 32, 11, 33, 34, 64, 65, 66] (by decide +kernel) (by decide +kernel)
set_option maxRecDepth 20000 in
theorem gX3_goOnInTable_Jx4a65c_get_915e3 : GoodIn wsX3_goOnInTable (wsV RX3 124 RJx4a65c yJx4a65c_get_915e3 wsJx4a65c_get_915e3) := goodIn_app (goodIn_of _ (by decide +kernel)) ggX3_goOnInTable_Jx4a65c_get_915e3
set_option maxRecDepth 20000 in
theorem ggX3_goOnInTable_X0_sideOf : GoodIn wsX3_goOnInTable wsX0_sideOf := goodIn_r _ [39, 40, 41, 42, 43, 44, 45, 46, 47, 48, 49, 50] (by decide +kernel) (by decide +kernel)
set_option maxRecDepth 20000 in
theorem gX3_goOnInTable_X0_sideOf : GoodIn wsX3_goOnInTable (wsV RX3 190 RX0 yX0_sideOf wsX0_sideOf) := goodIn_app (goodIn_of _ (by decide +kernel)) ggX3_goOnInTable_X0_sideOf
theorem dX3_goOnInTable_0 : decode cX3_goOnInTable 0 = .ok (.aload_n 1, 1) := by decide +kernel
theorem dX3_goOnInTable_1 : decode cX3_goOnInTable 1 = .ok (.getfield 108, 3) := by decide +kernel
theorem dX3_goOnInTable_4 : decode cX3_goOnInTable 4 = .ok (.aload_n 0, 1) := by decide +kernel
theorem dX3_goOnInTable_5 : decode cX3_goOnInTable 5 = .ok (.getfield 356, 3) := by decide +kernel
theorem dX3_goOnInTable_8 : decode cX3_goOnInTable 8 = .ok (.isub, 1) := by decide +kernel
theorem dX3_goOnInTable_9 : decode cX3_goOnInTable 9 = .ok (.istore_n 2, 1) := by decide +kernel
theorem dX3_goOnInTable_10 : decode cX3_goOnInTable 10 = .ok (.aload_n 0, 1) := by decide +kernel
theorem dX3_goOnInTable_11 : decode cX3_goOnInTable 11 = .ok (.getfield 356, 3) := by decide +kernel
theorem dX3_goOnInTable_14 : decode cX3_goOnInTable 14 = .ok (.aload_n 0, 1) := by decide +kernel
theorem dX3_goOnInTable_15 : decode cX3_goOnInTable 15 = .ok (.getfield 247, 3) := by decide +kernel
theorem dX3_goOnInTable_18 : decode cX3_goOnInTable 18 = .ok (.iconst 2, 1) := by decide +kernel
theorem dX3_goOnInTable_19 : decode cX3_goOnInTable 19 = .ok (.idiv, 1) := by decide +kernel
theorem dX3_goOnInTable_20 : decode cX3_goOnInTable 20 = .ok (.iadd, 1) := by decide +kernel
theorem dX3_goOnInTable_21 : decode cX3_goOnInTable 21 = .ok (.iload_n 2, 1) := by decide +kernel
theorem dX3_goOnInTable_22 : decode cX3_goOnInTable 22 = .ok (.iconst 2, 1) := by decide +kernel
theorem dX3_goOnInTable_23 : decode cX3_goOnInTable 23 = .ok (.idiv, 1) := by decide +kernel
theorem dX3_goOnInTable_24 : decode cX3_goOnInTable 24 = .ok (.iadd, 1) := by decide +kernel
theorem dX3_goOnInTable_25 : decode cX3_goOnInTable 25 = .ok (.istore_n 3, 1) := by decide +kernel
theorem dX3_goOnInTable_26 : decode cX3_goOnInTable 26 = .ok (.iload_n 3, 1) := by decide +kernel
theorem dX3_goOnInTable_27 : decode cX3_goOnInTable 27 = .ok (.iconst 0, 1) := by decide +kernel
theorem dX3_goOnInTable_28 : decode cX3_goOnInTable 28 = .ok (.aload_n 0, 1) := by decide +kernel
theorem dX3_goOnInTable_29 : decode cX3_goOnInTable 29 = .ok (.getfield 16, 3) := by decide +kernel
theorem dX3_goOnInTable_32 : decode cX3_goOnInTable 32 = .ok (.invokevirtual 49, 3) := by decide +kernel
theorem dX3_goOnInTable_35 : decode cX3_goOnInTable 35 = .ok (.iconst 1, 1) := by decide +kernel
theorem dX3_goOnInTable_36 : decode cX3_goOnInTable 36 = .ok (.isub, 1) := by decide +kernel
theorem dX3_goOnInTable_37 : decode cX3_goOnInTable 37 = .ok (.invokestatic 38, 3) := by decide +kernel
theorem dX3_goOnInTable_40 : decode cX3_goOnInTable 40 = .ok (.ifCond .eq 27, 3) := by decide +kernel
theorem dX3_goOnInTable_43 : decode cX3_goOnInTable 43 = .ok (.aload_n 0, 1) := by decide +kernel
theorem dX3_goOnInTable_44 : decode cX3_goOnInTable 44 = .ok (.getfield 16, 3) := by decide +kernel
theorem dX3_goOnInTable_47 : decode cX3_goOnInTable 47 = .ok (.iload_n 3, 1) := by decide +kernel
theorem dX3_goOnInTable_48 : decode cX3_goOnInTable 48 = .ok (.invokevirtual 124, 3) := by decide +kernel
theorem dX3_goOnInTable_51 : decode cX3_goOnInTable 51 = .ok (.checkcast 19, 3) := by decide +kernel
theorem dX3_goOnInTable_54 : decode cX3_goOnInTable 54 = .ok (.iload_n 2, 1) := by decide +kernel
theorem dX3_goOnInTable_55 : decode cX3_goOnInTable 55 = .ok (.iconst 2, 1) := by decide +kernel
theorem dX3_goOnInTable_56 : decode cX3_goOnInTable 56 = .ok (.irem, 1) := by decide +kernel
theorem dX3_goOnInTable_57 : decode cX3_goOnInTable 57 = .ok (.invokevirtual 190, 3) := by decide +kernel
theorem dX3_goOnInTable_60 : decode cX3_goOnInTable 60 = .ok (.aload_n 1, 1) := by decide +kernel
theorem dX3_goOnInTable_61 : decode cX3_goOnInTable 61 = .ok (.getfield 217, 3) := by decide +kernel
theorem dX3_goOnInTable_64 : decode cX3_goOnInTable 64 = .ok (.putfield 202, 3) := by decide +kernel
theorem dX3_goOnInTable_67 : decode cX3_goOnInTable 67 = .ok (.return_, 1) := by decide +kernel
set_option maxRecDepth 20000 in
theorem ggX3_winnerOfTable_Jx4a65c_size_8abf5 : GoodIn wsX3_winnerOfTable wsJx4a65c_size_8abf5 := goodIn_r _ [9, 10, 47, 48, 49] (by decide +kernel) (by decide +kernel)
set_option maxRecDepth 20000 in
theorem gX3_winnerOfTable_Jx4a65c_size_8abf5 : GoodIn wsX3_winnerOfTable (wsV RX3 49 RJx4a65c yJx4a65c_size_8abf5 wsJx4a65c_size_8abf5) := goodIn_app (goodIn_of _ (by decide +kernel)) ggX3_winnerOfTable_Jx4a65c_size_8abf5
set_option maxRecDepth 20000 in
theorem ggX3_winnerOfTable_Jx4a65c_get_915e3 : GoodIn wsX3_winnerOfTable wsJx4a65c_get_915e3 := goodIn_r _ [14, 10, 15, 16, 17, 18, 19, 20, 21, 22, 23, 24, 25, 8, 26, 27, 47, 48, 49] (by decide +kernel) (by decide +kernel)
set_option maxRecDepth 20000 in
theorem gX3_winnerOfTable_Jx4a65c_get_915e3 : GoodIn wsX3_winnerOfTable (wsV RX3 124 RJx4a65c yJx4a65c_get_915e3 wsJx4a65c_get_915e3) := goodIn_app (goodIn_of _ (by decide +kernel)) ggX3_winnerOfTable_Jx4a65c_get_915e3
theorem dX3_winnerOfTable_0 : decode cX3_winnerOfTable 0 = .ok (.aload_n 0, 1) := by decide +kernel
theorem dX3_winnerOfTable_1 : decode cX3_winnerOfTable 1 = .ok (.getfield 16, 3) := by decide +kernel
theorem dX3_winnerOfTable_4 : decode cX3_winnerOfTable 4 = .ok (.invokevirtual 49, 3) := by decide +kernel
theorem dX3_winnerOfTable_7 : decode cX3_winnerOfTable 7 = .ok (.iconst 1, 1) := by decide +kernel
theorem dX3_winnerOfTable_8 : decode cX3_winnerOfTable 8 = .ok (.isub, 1) := by decide +kernel
theorem dX3_winnerOfTable_9 : decode cX3_winnerOfTable 9 = .ok (.istore_n 1, 1) := by decide +kernel
theorem dX3_winnerOfTable_10 : decode cX3_winnerOfTable 10 = .ok (.aload_n 0, 1) := by decide +kernel
theorem dX3_winnerOfTable_11 : decode cX3_winnerOfTable 11 = .ok (.getfield 247, 3) := by decide +kernel
theorem dX3_winnerOfTable_14 : decode cX3_winnerOfTable 14 = .ok (.ifCond .eq 7, 3) := by decide +kernel
theorem dX3_winnerOfTable_17 : decode cX3_winnerOfTable 17 = .ok (.iload_n 1, 1) := by decide +kernel
theorem dX3_winnerOfTable_18 : decode cX3_winnerOfTable 18 = .ok (.ifCond .ge 7, 3) := by decide +kernel
theorem dX3_winnerOfTable_21 : decode cX3_winnerOfTable 21 = .ok (.aconst_null, 1) := by decide +kernel
theorem dX3_winnerOfTable_22 : decode cX3_winnerOfTable 22 = .ok (.goto 17, 3) := by decide +kernel
theorem dX3_winnerOfTable_25 : decode cX3_winnerOfTable 25 = .ok (.aload_n 0, 1) := by decide +kernel
theorem dX3_winnerOfTable_26 : decode cX3_winnerOfTable 26 = .ok (.getfield 16, 3) := by decide +kernel
theorem dX3_winnerOfTable_29 : decode cX3_winnerOfTable 29 = .ok (.iload_n 1, 1) := by decide +kernel
theorem dX3_winnerOfTable_30 : decode cX3_winnerOfTable 30 = .ok (.invokevirtual 124, 3) := by decide +kernel
theorem dX3_winnerOfTable_33 : decode cX3_winnerOfTable 33 = .ok (.checkcast 19, 3) := by decide +kernel
theorem dX3_winnerOfTable_36 : decode cX3_winnerOfTable 36 = .ok (.getfield 217, 3) := by decide +kernel
theorem dX3_winnerOfTable_39 : decode cX3_winnerOfTable 39 = .ok (.areturn, 1) := by decide +kernel
set_option maxRecDepth 20000 in
theorem ggX3_winnerIn_X3_isPiste : GoodIn wsX3_winnerIn wsX3_isPiste := goodIn_r _ [6, 7, 8, 5, 9] (by decide +kernel) (by decide +kernel)
set_option maxRecDepth 20000 in
theorem gX3_winnerIn_X3_isPiste : GoodIn wsX3_winnerIn (va_wsS RX3 139 yX3_isPiste wsX3_isPiste) := goodIn_app (goodIn_of _ (by decide +kernel)) ggX3_winnerIn_X3_isPiste
set_option maxRecDepth 20000 in
theorem ggX3_winnerIn_X3_isIn : GoodIn wsX3_winnerIn wsX3_isIn := goodIn_r _ [9] (by decide +kernel) (by decide +kernel)
set_option maxRecDepth 20000 in
theorem gX3_winnerIn_X3_isIn : GoodIn wsX3_winnerIn (va_wsS RX3 38 yX3_isIn wsX3_isIn) := goodIn_app (goodIn_of _ (by decide +kernel)) ggX3_winnerIn_X3_isIn
set_option maxRecDepth 20000 in
theorem ggX3_winnerIn_X3_liveBoutOn : GoodIn wsX3_winnerIn wsX3_liveBoutOn := goodIn_ca (goodIn_r _ [13, 14, 15, 16, 3, 4, 5, 6, 7, 8, 9, 54, 55, 56, 57, 58, 59, 60, 61, 62, 63] (by decide +kernel) (by decide +kernel)) (goodIn_sub (fun _ h => List.mem_cons_of_mem _ (List.mem_append_right _ h)) (by decide +kernel))
set_option maxRecDepth 20000 in
theorem gX3_winnerIn_X3_liveBoutOn : GoodIn wsX3_winnerIn (wsV RX3 165 RX3 yX3_liveBoutOn wsX3_liveBoutOn) := goodIn_app (goodIn_of _ (by decide +kernel)) ggX3_winnerIn_X3_liveBoutOn
set_option maxRecDepth 20000 in
theorem ggX3_winnerIn_X0_secondsUntilOver : GoodIn wsX3_winnerIn wsX0_secondsUntilOver := goodIn_r _ [21, 22, 23, 24, 25, 26, 27, 28, 29, 20, 30, 31, 32, 33, 34, 35, 36, 37, 38, 39, 64, 65, 66, 67, 68, 69, 70, 71, 72, 73, 74, 75] (by decide +kernel) (by decide +kernel)
set_option maxRecDepth 20000 in
theorem gX3_winnerIn_X0_secondsUntilOver : GoodIn wsX3_winnerIn (wsV RX3 262 RX0 yX0_secondsUntilOver wsX0_secondsUntilOver) := goodIn_app (goodIn_of _ (by decide +kernel)) ggX3_winnerIn_X0_secondsUntilOver
set_option maxRecDepth 20000 in
theorem ggX3_winnerIn_X0_winnerAsItStands : GoodIn wsX3_winnerIn wsX0_winnerAsItStands := goodIn_r _ [43, 24, 25, 26, 44, 45, 46, 47, 20, 48, 49, 64, 65, 66, 67, 68, 69, 70, 71, 72, 73, 74, 75] (by decide +kernel) (by decide +kernel)
set_option maxRecDepth 20000 in
theorem gX3_winnerIn_X0_winnerAsItStands : GoodIn wsX3_winnerIn (wsV RX3 268 RX0 yX0_winnerAsItStands wsX0_winnerAsItStands) := goodIn_app (goodIn_of _ (by decide +kernel)) ggX3_winnerIn_X0_winnerAsItStands
set_option maxRecDepth 20000 in
theorem ggX3_winnerIn_X3_numberOf : GoodIn wsX3_winnerIn wsX3_numberOf := goodIn_r _ [52, 53, 76, 77, 78, 79, 80, 81, 82, 83, 84, 85, 86, 87, 88, 89] (by decide +kernel) (by decide +kernel)
set_option maxRecDepth 20000 in
theorem gX3_winnerIn_X3_numberOf : GoodIn wsX3_winnerIn (va_wsS RX3 213 yX3_numberOf wsX3_numberOf) := goodIn_app (goodIn_of _ (by decide +kernel)) ggX3_winnerIn_X3_numberOf
theorem dX3_winnerIn_0 : decode cX3_winnerIn 0 = .ok (.iload_n 1, 1) := by decide +kernel
theorem dX3_winnerIn_1 : decode cX3_winnerIn 1 = .ok (.invokestatic 139, 3) := by decide +kernel
theorem dX3_winnerIn_4 : decode cX3_winnerIn 4 = .ok (.ifCond .eq 14, 3) := by decide +kernel
theorem dX3_winnerIn_7 : decode cX3_winnerIn 7 = .ok (.iload_n 2, 1) := by decide +kernel
theorem dX3_winnerIn_8 : decode cX3_winnerIn 8 = .ok (.iconst 1, 1) := by decide +kernel
theorem dX3_winnerIn_9 : decode cX3_winnerIn 9 = .ok (.sipush 600, 3) := by decide +kernel
theorem dX3_winnerIn_12 : decode cX3_winnerIn 12 = .ok (.invokestatic 38, 3) := by decide +kernel
theorem dX3_winnerIn_15 : decode cX3_winnerIn 15 = .ok (.ifCond .ne 14, 3) := by decide +kernel
theorem dX3_winnerIn_18 : decode cX3_winnerIn 18 = .ok (.new 42, 3) := by decide +kernel
theorem dX3_winnerIn_21 : decode cX3_winnerIn 21 = .ok (.dup, 1) := by decide +kernel
theorem dX3_winnerIn_22 : decode cX3_winnerIn 22 = .ok (.ldc_w 374, 3) := by decide +kernel
theorem dX3_winnerIn_25 : decode cX3_winnerIn 25 = .ok (.invokespecial 46, 3) := by decide +kernel
theorem dX3_winnerIn_28 : decode cX3_winnerIn 28 = .ok (.athrow, 1) := by decide +kernel
theorem dX3_winnerIn_29 : decode cX3_winnerIn 29 = .ok (.aload_n 0, 1) := by decide +kernel
theorem dX3_winnerIn_30 : decode cX3_winnerIn 30 = .ok (.iload_n 1, 1) := by decide +kernel
theorem dX3_winnerIn_31 : decode cX3_winnerIn 31 = .ok (.invokevirtual 165, 3) := by decide +kernel
theorem dX3_winnerIn_34 : decode cX3_winnerIn 34 = .ok (.astore_n 3, 1) := by decide +kernel
theorem dX3_winnerIn_35 : decode cX3_winnerIn 35 = .ok (.iload_n 2, 1) := by decide +kernel
theorem dX3_winnerIn_36 : decode cX3_winnerIn 36 = .ok (.aload_n 3, 1) := by decide +kernel
theorem dX3_winnerIn_37 : decode cX3_winnerIn 37 = .ok (.invokevirtual 262, 3) := by decide +kernel
theorem dX3_winnerIn_40 : decode cX3_winnerIn 40 = .ok (.if_icmp .ge 7, 3) := by decide +kernel
theorem dX3_winnerIn_43 : decode cX3_winnerIn 43 = .ok (.iconst (-1), 1) := by decide +kernel
theorem dX3_winnerIn_44 : decode cX3_winnerIn 44 = .ok (.goto 10, 3) := by decide +kernel
theorem dX3_winnerIn_47 : decode cX3_winnerIn 47 = .ok (.aload_n 3, 1) := by decide +kernel
theorem dX3_winnerIn_48 : decode cX3_winnerIn 48 = .ok (.invokevirtual 268, 3) := by decide +kernel
theorem dX3_winnerIn_51 : decode cX3_winnerIn 51 = .ok (.invokestatic 213, 3) := by decide +kernel
theorem dX3_winnerIn_54 : decode cX3_winnerIn 54 = .ok (.ireturn, 1) := by decide +kernel
set_option maxRecDepth 20000 in
theorem ggX3_voidWith_X3_fencerAt : GoodIn wsX3_voidWith wsX3_fencerAt := goodIn_ca (goodIn_r _ [6, 7, 8, 9, 10, 11, 12, 13, 14, 15, 16, 17, 18, 5, 19, 20, 21, 22, 23, 24, 25, 26, 27, 28, 29, 30, 31, 32, 33, 34, 35, 36, 51, 52, 53, 54, 55, 56, 57, 58, 59, 60, 61, 62, 63] (by decide +kernel) (by decide +kernel)) (goodIn_sub (fun _ h => List.mem_cons_of_mem _ (List.mem_append_right _ h)) (by decide +kernel))
set_option maxRecDepth 20000 in
theorem gX3_voidWith_X3_fencerAt : GoodIn wsX3_voidWith (wsV RX3 85 RX3 yX3_fencerAt wsX3_fencerAt) := goodIn_app (goodIn_of _ (by decide +kernel)) ggX3_voidWith_X3_fencerAt
theorem dX3_voidWith_0 : decode cX3_voidWith 0 = .ok (.aload_n 0, 1) := by decide +kernel
theorem dX3_voidWith_1 : decode cX3_voidWith 1 = .ok (.iload_n 1, 1) := by decide +kernel
theorem dX3_voidWith_2 : decode cX3_voidWith 2 = .ok (.invokevirtual 85, 3) := by decide +kernel
theorem dX3_voidWith_5 : decode cX3_voidWith 5 = .ok (.getfield 309, 3) := by decide +kernel
theorem dX3_voidWith_8 : decode cX3_voidWith 8 = .ok (.ireturn, 1) := by decide +kernel
set_option maxRecDepth 20000 in
theorem ggX3_digest_X3_many : GoodIn wsX3_digest wsX3_many := goodIn_ca (goodIn_r _ [10, 11, 12, 3, 13, 4, 14, 5, 15, 16, 17, 18, 19, 20, 21, 22, 23, 9, 24, 25, 26, 27, 28, 29, 30, 31, 32, 33, 34, 35, 36, 37, 38, 39, 40, 41, 42, 43, 44, 45, 46, 47, 48, 49, 50, 51, 52, 53, 54, 55, 56, 57, 58, 212, 213, 214, 215, 216, 217, 218, 219, 220, 221, 222, 223, 224, 225, 226, 227, 228, 229, 230, 231, 232, 233, 234, 235, 236, 237, 238, 239, 240, 241, 242, 243, 244, 245, 246, 247] (by decide +kernel) (by decide +kernel)) (goodIn_sub (fun _ h => List.mem_cons_of_mem _ (List.mem_append_left _ (List.mem_append_right _ h))) (by decide +kernel))
set_option maxRecDepth 20000 in
theorem gX3_digest_X3_many : GoodIn wsX3_digest (wsV RX3 380 RX3 yX3_many wsX3_many) := goodIn_app (goodIn_of _ (by decide +kernel)) ggX3_digest_X3_many
set_option maxRecDepth 20000 in
theorem ggX3_digest_Jx4a65c_size_8abf5 : GoodIn wsX3_digest wsJx4a65c_size_8abf5 := goodIn_r _ [19, 20, 222, 223, 224] (by decide +kernel) (by decide +kernel)
set_option maxRecDepth 20000 in
theorem gX3_digest_Jx4a65c_size_8abf5 : GoodIn wsX3_digest (wsV RX3 49 RJx4a65c yJx4a65c_size_8abf5 wsJx4a65c_size_8abf5) := goodIn_app (goodIn_of _ (by decide +kernel)) ggX3_digest_Jx4a65c_size_8abf5
set_option maxRecDepth 20000 in
theorem ggX3_digest_X3_withFencer : GoodIn wsX3_digest wsX3_withFencer := goodIn_ca (goodIn_ca (goodIn_r _ [62, 2, 63, 64, 65, 9, 66, 11, 12, 67, 68, 69, 70, 49, 71, 72, 73, 74, 75, 76, 77, 78, 79, 3, 48, 15, 16, 17, 18, 19, 20, 80, 81, 82, 27, 28, 29, 30, 31, 32, 33, 34, 35, 36, 37, 38, 39, 40, 41, 42, 43, 83, 84, 85, 86, 87, 88, 89, 90, 91, 92, 93, 94, 95, 96, 97, 98, 99, 100, 101, 102, 103, 104, 105, 106, 107, 108, 109, 110, 111, 112, 113, 114, 115, 116, 117, 118, 119, 120, 121, 122, 123, 124, 234, 235, 236, 237, 238, 239, 240, 241, 242, 243, 244, 245, 246, 247, 225, 226, 227, 228, 229, 230, 231, 232, 233, 212, 213, 214, 215, 216, 217, 218, 219, 220, 221, 222, 223, 224] (by decide +kernel) (by decide +kernel)) (goodIn_sub (fun _ h => List.mem_cons_of_mem _ (List.mem_append_left _ (List.mem_append_right _ h))) (by decide +kernel))) (goodIn_sub (fun _ h => List.mem_cons_of_mem _ (List.mem_append_right _ h)) (by decide +kernel))
set_option maxRecDepth 20000 in
theorem gX3_digest_X3_withFencer : GoodIn wsX3_digest (wsV RX3 383 RX3 yX3_withFencer wsX3_withFencer) := goodIn_app (goodIn_of _ (by decide +kernel)) ggX3_digest_X3_withFencer
set_option maxRecDepth 20000 in
theorem ggX3_digest_X3_withBout : GoodIn wsX3_digest wsX3_withBout := goodIn_ca (goodIn_ca (goodIn_r _ [128, 2, 129, 130, 131, 9, 132, 11, 12, 26, 133, 134, 135, 136, 54, 137, 138, 139, 140, 141, 142, 143, 144, 78, 79, 4, 25, 15, 16, 17, 18, 19, 20, 80, 81, 82, 27, 28, 29, 30, 31, 32, 33, 34, 35, 36, 37, 38, 39, 40, 41, 42, 43, 55, 56, 57, 58, 145, 146, 147, 148, 149, 150, 151, 152, 153, 154, 155, 156, 157, 158, 159, 160, 161, 162, 163, 164, 165, 166, 167, 168, 169, 170, 171, 172, 173, 174, 175, 14, 176, 177, 178, 179, 180, 181, 182, 183, 184, 185, 186, 187, 188, 189, 190, 191, 192, 104, 105, 106, 193, 194, 195, 196, 197, 225, 226, 227, 228, 229, 230, 231, 232, 233, 248, 249, 250, 212, 213, 214, 215, 216, 217, 218, 219, 220, 221, 222, 223, 224, 234, 235, 236, 237, 238, 239, 240, 241, 242, 243, 244, 245, 246, 247] (by decide +kernel) (by decide +kernel)) (goodIn_sub (fun _ h => List.mem_cons_of_mem _ (List.mem_append_left _ (List.mem_append_right _ h))) (by decide +kernel))) (goodIn_sub (fun _ h => List.mem_cons_of_mem _ (List.mem_append_right _ h)) (by decide +kernel))
set_option maxRecDepth 20000 in
theorem gX3_digest_X3_withBout : GoodIn wsX3_digest (wsV RX3 387 RX3 yX3_withBout wsX3_withBout) := goodIn_app (goodIn_of _ (by decide +kernel)) ggX3_digest_X3_withBout
set_option maxRecDepth 20000 in
theorem ggX3_digest_X3_next : GoodIn wsX3_digest wsX3_next := goodIn_r _ [201, 4, 25, 15, 16, 17, 18, 19, 20, 27, 28, 29, 30, 31, 32, 33, 34, 35, 36, 37, 38, 39, 40, 41, 42, 43, 188, 189, 190, 148, 191, 165, 167, 192, 104, 105, 106, 193, 194, 195, 184, 196, 186, 197, 172, 173, 174, 9, 175, 26, 133, 135, 14, 176, 177, 178, 179, 180, 181, 182, 183, 185, 187, 212, 213, 214, 215, 216, 217, 218, 219, 220, 221, 222, 223, 224, 225, 226, 227, 228, 229, 230, 231, 232, 233, 248, 249, 250, 234, 235, 236, 237, 238, 239, 240, 241, 242, 243, 244, 245, 246, 247] (by decide +kernel) (by decide +kernel)
set_option maxRecDepth 20000 in
theorem gX3_digest_X3_next : GoodIn wsX3_digest (wsV RX3 390 RX3 yX3_next wsX3_next) := goodIn_app (goodIn_of _ (by decide +kernel)) ggX3_digest_X3_next
set_option maxRecDepth 20000 in
theorem ggX3_digest_X3_line : GoodIn wsX3_digest wsX3_line := goodIn_ca (goodIn_r _ [205, 78, 79, 5, 80, 81, 9, 82, 206, 207, 208, 209, 210, 211, 55, 56, 57, 58, 212, 213, 214, 215, 216, 217, 218, 219, 220, 221, 234, 235, 236, 237, 238, 239, 240, 241, 242, 243, 244, 245, 246, 247] (by decide +kernel) (by decide +kernel)) (goodIn_sub (fun _ h => List.mem_cons_of_mem _ (List.mem_append_right _ h)) (by decide +kernel))
set_option maxRecDepth 20000 in
theorem gX3_digest_X3_line : GoodIn wsX3_digest (wsV RX3 393 RX3 yX3_line wsX3_line) := goodIn_app (goodIn_of _ (by decide +kernel)) ggX3_digest_X3_line
theorem dX3_digest_0 : decode cX3_digest 0 = .ok (.ldc2_w 376, 3) := by decide +kernel
theorem dX3_digest_3 : decode cX3_digest 3 = .ok (.lstore_n 1, 1) := by decide +kernel
theorem dX3_digest_4 : decode cX3_digest 4 = .ok (.iconst 0, 1) := by decide +kernel
theorem dX3_digest_5 : decode cX3_digest 5 = .ok (.istore_n 3, 1) := by decide +kernel
theorem dX3_digest_6 : decode cX3_digest 6 = .ok (.iload_n 3, 1) := by decide +kernel
theorem dX3_digest_7 : decode cX3_digest 7 = .ok (.bipush 10, 2) := by decide +kernel
theorem dX3_digest_9 : decode cX3_digest 9 = .ok (.if_icmp .gt 22, 3) := by decide +kernel
theorem dX3_digest_12 : decode cX3_digest 12 = .ok (.lload_n 1, 1) := by decide +kernel
theorem dX3_digest_13 : decode cX3_digest 13 = .ok (.ldc2_w 378, 3) := by decide +kernel
theorem dX3_digest_16 : decode cX3_digest 16 = .ok (.lmul, 1) := by decide +kernel
theorem dX3_digest_17 : decode cX3_digest 17 = .ok (.aload_n 0, 1) := by decide +kernel
theorem dX3_digest_18 : decode cX3_digest 18 = .ok (.iload_n 3, 1) := by decide +kernel
theorem dX3_digest_19 : decode cX3_digest 19 = .ok (.invokevirtual 380, 3) := by decide +kernel
theorem dX3_digest_22 : decode cX3_digest 22 = .ok (.i2l, 1) := by decide +kernel
theorem dX3_digest_23 : decode cX3_digest 23 = .ok (.ladd, 1) := by decide +kernel
theorem dX3_digest_24 : decode cX3_digest 24 = .ok (.lstore_n 1, 1) := by decide +kernel
theorem dX3_digest_25 : decode cX3_digest 25 = .ok (.iinc 3 1, 3) := by decide +kernel
theorem dX3_digest_28 : decode cX3_digest 28 = .ok (.goto (-22), 3) := by decide +kernel
theorem dX3_digest_31 : decode cX3_digest 31 = .ok (.iconst 0, 1) := by decide +kernel
theorem dX3_digest_32 : decode cX3_digest 32 = .ok (.istore_n 3, 1) := by decide +kernel
theorem dX3_digest_33 : decode cX3_digest 33 = .ok (.iload_n 3, 1) := by decide +kernel
theorem dX3_digest_34 : decode cX3_digest 34 = .ok (.aload_n 0, 1) := by decide +kernel
theorem dX3_digest_35 : decode cX3_digest 35 = .ok (.getfield 12, 3) := by decide +kernel
theorem dX3_digest_38 : decode cX3_digest 38 = .ok (.invokevirtual 49, 3) := by decide +kernel
theorem dX3_digest_41 : decode cX3_digest 41 = .ok (.if_icmp .ge 16, 3) := by decide +kernel
theorem dX3_digest_44 : decode cX3_digest 44 = .ok (.aload_n 0, 1) := by decide +kernel
theorem dX3_digest_45 : decode cX3_digest 45 = .ok (.lload_n 1, 1) := by decide +kernel
theorem dX3_digest_46 : decode cX3_digest 46 = .ok (.iload_n 3, 1) := by decide +kernel
theorem dX3_digest_47 : decode cX3_digest 47 = .ok (.invokevirtual 383, 3) := by decide +kernel
theorem dX3_digest_50 : decode cX3_digest 50 = .ok (.lstore_n 1, 1) := by decide +kernel
theorem dX3_digest_51 : decode cX3_digest 51 = .ok (.iinc 3 1, 3) := by decide +kernel
theorem dX3_digest_54 : decode cX3_digest 54 = .ok (.goto (-21), 3) := by decide +kernel
theorem dX3_digest_57 : decode cX3_digest 57 = .ok (.iconst 0, 1) := by decide +kernel
theorem dX3_digest_58 : decode cX3_digest 58 = .ok (.istore_n 3, 1) := by decide +kernel
theorem dX3_digest_59 : decode cX3_digest 59 = .ok (.iload_n 3, 1) := by decide +kernel
theorem dX3_digest_60 : decode cX3_digest 60 = .ok (.aload_n 0, 1) := by decide +kernel
theorem dX3_digest_61 : decode cX3_digest 61 = .ok (.getfield 16, 3) := by decide +kernel
theorem dX3_digest_64 : decode cX3_digest 64 = .ok (.invokevirtual 49, 3) := by decide +kernel
theorem dX3_digest_67 : decode cX3_digest 67 = .ok (.if_icmp .ge 16, 3) := by decide +kernel
theorem dX3_digest_70 : decode cX3_digest 70 = .ok (.aload_n 0, 1) := by decide +kernel
theorem dX3_digest_71 : decode cX3_digest 71 = .ok (.lload_n 1, 1) := by decide +kernel
theorem dX3_digest_72 : decode cX3_digest 72 = .ok (.iload_n 3, 1) := by decide +kernel
theorem dX3_digest_73 : decode cX3_digest 73 = .ok (.invokevirtual 387, 3) := by decide +kernel
theorem dX3_digest_76 : decode cX3_digest 76 = .ok (.lstore_n 1, 1) := by decide +kernel
theorem dX3_digest_77 : decode cX3_digest 77 = .ok (.iinc 3 1, 3) := by decide +kernel
theorem dX3_digest_80 : decode cX3_digest 80 = .ok (.goto (-21), 3) := by decide +kernel
theorem dX3_digest_83 : decode cX3_digest 83 = .ok (.lload_n 1, 1) := by decide +kernel
theorem dX3_digest_84 : decode cX3_digest 84 = .ok (.ldc2_w 378, 3) := by decide +kernel
theorem dX3_digest_87 : decode cX3_digest 87 = .ok (.lmul, 1) := by decide +kernel
theorem dX3_digest_88 : decode cX3_digest 88 = .ok (.aload_n 0, 1) := by decide +kernel
theorem dX3_digest_89 : decode cX3_digest 89 = .ok (.invokevirtual 390, 3) := by decide +kernel
theorem dX3_digest_92 : decode cX3_digest 92 = .ok (.i2l, 1) := by decide +kernel
theorem dX3_digest_93 : decode cX3_digest 93 = .ok (.ladd, 1) := by decide +kernel
theorem dX3_digest_94 : decode cX3_digest 94 = .ok (.lstore_n 1, 1) := by decide +kernel
theorem dX3_digest_95 : decode cX3_digest 95 = .ok (.iconst 0, 1) := by decide +kernel
theorem dX3_digest_96 : decode cX3_digest 96 = .ok (.istore_n 3, 1) := by decide +kernel
theorem dX3_digest_97 : decode cX3_digest 97 = .ok (.iload_n 3, 1) := by decide +kernel
theorem dX3_digest_98 : decode cX3_digest 98 = .ok (.aload_n 0, 1) := by decide +kernel
theorem dX3_digest_99 : decode cX3_digest 99 = .ok (.getfield 247, 3) := by decide +kernel
theorem dX3_digest_102 : decode cX3_digest 102 = .ok (.if_icmp .ge 22, 3) := by decide +kernel
theorem dX3_digest_105 : decode cX3_digest 105 = .ok (.lload_n 1, 1) := by decide +kernel
theorem dX3_digest_106 : decode cX3_digest 106 = .ok (.ldc2_w 378, 3) := by decide +kernel
theorem dX3_digest_109 : decode cX3_digest 109 = .ok (.lmul, 1) := by decide +kernel
theorem dX3_digest_110 : decode cX3_digest 110 = .ok (.aload_n 0, 1) := by decide +kernel
theorem dX3_digest_111 : decode cX3_digest 111 = .ok (.iload_n 3, 1) := by decide +kernel
theorem dX3_digest_112 : decode cX3_digest 112 = .ok (.invokevirtual 393, 3) := by decide +kernel
theorem dX3_digest_115 : decode cX3_digest 115 = .ok (.i2l, 1) := by decide +kernel
theorem dX3_digest_116 : decode cX3_digest 116 = .ok (.ladd, 1) := by decide +kernel
theorem dX3_digest_117 : decode cX3_digest 117 = .ok (.lstore_n 1, 1) := by decide +kernel
theorem dX3_digest_118 : decode cX3_digest 118 = .ok (.iinc 3 1, 3) := by decide +kernel
theorem dX3_digest_121 : decode cX3_digest 121 = .ok (.goto (-24), 3) := by decide +kernel
theorem dX3_digest_124 : decode cX3_digest 124 = .ok (.lload_n 1, 1) := by decide +kernel
theorem dX3_digest_125 : decode cX3_digest 125 = .ok (.lreturn, 1) := by decide +kernel
set_option maxRecDepth 20000 in
theorem ggX3_withFencer_X3_of : GoodIn wsX3_withFencer wsX3_of := goodIn_ca (goodIn_ca (goodIn_r _ [6, 7, 8, 9, 10, 11, 12, 13, 14, 15, 16, 17, 18, 19, 5, 20, 21, 22, 23, 24, 25, 26, 27, 28, 29, 30, 31, 32, 33, 34, 35, 36, 37, 38, 39, 40, 41, 42, 43, 44, 45, 46, 47, 48, 49, 50, 93, 94, 95, 96, 97, 98, 99, 100, 101, 102, 103, 104, 105, 106, 107, 108, 109, 110, 111, 112, 113, 114, 115, 116, 117, 118, 119, 120, 121, 122, 123, 124, 125, 126, 127, 128] (by decide +kernel) (by decide +kernel)) (goodIn_sub (fun _ h => List.mem_cons_of_mem _ (List.mem_append_left _ (List.mem_append_right _ h))) (by decide +kernel))) (goodIn_sub (fun _ h => List.mem_cons_of_mem _ (List.mem_append_right _ h)) (by decide +kernel))
set_option maxRecDepth 20000 in
theorem gX3_withFencer_X3_of : GoodIn wsX3_withFencer (wsV RX3 396 RX3 yX3_of wsX3_of) := goodIn_app (goodIn_of _ (by decide +kernel)) ggX3_withFencer_X3_of
set_option maxRecDepth 20000 in
theorem ggX3_withFencer_X3_order : GoodIn wsX3_withFencer wsX3_order := goodIn_ca (goodIn_ca (goodIn_r _ [54, 7, 8, 55, 56, 57, 58, 17, 18, 19, 5, 20, 21, 22, 23, 24, 25, 26, 27, 28, 29, 30, 31, 32, 33, 34, 35, 36, 37, 38, 39, 40, 41, 42, 43, 44, 45, 46, 47, 48, 49, 50, 59, 60, 61, 62, 63, 64, 65, 66, 67, 68, 69, 70, 71, 72, 73, 74, 75, 76, 77, 78, 93, 94, 95, 96, 97, 98, 99, 100, 101, 102, 103, 104, 105, 106, 116, 117, 118, 119, 120, 121, 122, 123, 124, 125, 126, 127, 128] (by decide +kernel) (by decide +kernel)) (goodIn_sub (fun _ h => List.mem_cons_of_mem _ (List.mem_append_left _ (List.mem_append_right _ h))) (by decide +kernel))) (goodIn_sub (fun _ h => List.mem_cons_of_mem _ (List.mem_append_right _ h)) (by decide +kernel))
set_option maxRecDepth 20000 in
theorem gX3_withFencer_X3_order : GoodIn wsX3_withFencer (wsV RX3 399 RX3 yX3_order wsX3_order) := goodIn_app (goodIn_of _ (by decide +kernel)) ggX3_withFencer_X3_order
set_option maxRecDepth 20000 in
theorem ggX3_withFencer_X3_place : GoodIn wsX3_withFencer wsX3_place := goodIn_ca (goodIn_r _ [82, 23, 24, 17, 18, 19, 5, 20, 21, 22, 25, 26, 27, 28, 29, 30, 31, 32, 33, 34, 35, 36, 37, 38, 39, 40, 41, 42, 43, 44, 45, 46, 47, 48, 49, 50, 83, 84, 85, 66, 86, 68, 87, 88, 64, 65, 67, 69, 70, 71, 72, 73, 74, 75, 76, 77, 78, 116, 117, 118, 119, 120, 121, 122, 123, 124, 125, 126, 127, 128, 93, 94, 95, 96, 97, 98, 99, 100, 101, 102, 103, 104, 105, 106] (by decide +kernel) (by decide +kernel)) (goodIn_sub (fun _ h => List.mem_cons_of_mem _ (List.mem_append_right _ h)) (by decide +kernel))
set_option maxRecDepth 20000 in
theorem gX3_withFencer_X3_place : GoodIn wsX3_withFencer (wsV RX3 402 RX3 yX3_place wsX3_place) := goodIn_app (goodIn_of _ (by decide +kernel)) ggX3_withFencer_X3_place
set_option maxRecDepth 20000 in
theorem ggX3_withFencer_X3_voidWith : GoodIn wsX3_withFencer wsX3_voidWith := goodIn_ca (goodIn_r _ [92, 55, 17, 18, 19, 5, 20, 21, 22, 23, 24, 25, 26, 27, 28, 29, 30, 31, 32, 33, 34, 35, 36, 37, 38, 39, 40, 41, 42, 43, 44, 45, 46, 47, 48, 49, 50, 93, 94, 95, 96, 97, 98, 99, 100, 101, 102, 103, 104, 105, 106, 116, 117, 118, 119, 120, 121, 122, 123, 124, 125, 126, 127, 128] (by decide +kernel) (by decide +kernel)) (goodIn_sub (fun _ h => List.mem_cons_of_mem _ (List.mem_append_right _ h)) (by decide +kernel))
set_option maxRecDepth 20000 in
theorem gX3_withFencer_X3_voidWith : GoodIn wsX3_withFencer (wsV RX3 405 RX3 yX3_voidWith wsX3_voidWith) := goodIn_app (goodIn_of _ (by decide +kernel)) ggX3_withFencer_X3_voidWith
theorem dX3_withFencer_0 : decode cX3_withFencer 0 = .ok (.lload_n 1, 1) := by decide +kernel
theorem dX3_withFencer_1 : decode cX3_withFencer 1 = .ok (.lstore 4, 2) := by decide +kernel
theorem dX3_withFencer_3 : decode cX3_withFencer 3 = .ok (.iconst 0, 1) := by decide +kernel
theorem dX3_withFencer_4 : decode cX3_withFencer 4 = .ok (.istore 6, 2) := by decide +kernel
theorem dX3_withFencer_6 : decode cX3_withFencer 6 = .ok (.iload 6, 2) := by decide +kernel
theorem dX3_withFencer_8 : decode cX3_withFencer 8 = .ok (.bipush 6, 2) := by decide +kernel
theorem dX3_withFencer_10 : decode cX3_withFencer 10 = .ok (.if_icmp .gt 26, 3) := by decide +kernel
theorem dX3_withFencer_13 : decode cX3_withFencer 13 = .ok (.lload 4, 2) := by decide +kernel
theorem dX3_withFencer_15 : decode cX3_withFencer 15 = .ok (.ldc2_w 378, 3) := by decide +kernel
theorem dX3_withFencer_18 : decode cX3_withFencer 18 = .ok (.lmul, 1) := by decide +kernel
theorem dX3_withFencer_19 : decode cX3_withFencer 19 = .ok (.aload_n 0, 1) := by decide +kernel
theorem dX3_withFencer_20 : decode cX3_withFencer 20 = .ok (.iload_n 3, 1) := by decide +kernel
theorem dX3_withFencer_21 : decode cX3_withFencer 21 = .ok (.iload 6, 2) := by decide +kernel
theorem dX3_withFencer_23 : decode cX3_withFencer 23 = .ok (.invokevirtual 396, 3) := by decide +kernel
theorem dX3_withFencer_26 : decode cX3_withFencer 26 = .ok (.i2l, 1) := by decide +kernel
theorem dX3_withFencer_27 : decode cX3_withFencer 27 = .ok (.ladd, 1) := by decide +kernel
theorem dX3_withFencer_28 : decode cX3_withFencer 28 = .ok (.lstore 4, 2) := by decide +kernel
theorem dX3_withFencer_30 : decode cX3_withFencer 30 = .ok (.iinc 6 1, 3) := by decide +kernel
theorem dX3_withFencer_33 : decode cX3_withFencer 33 = .ok (.goto (-27), 3) := by decide +kernel
theorem dX3_withFencer_36 : decode cX3_withFencer 36 = .ok (.iconst 0, 1) := by decide +kernel
theorem dX3_withFencer_37 : decode cX3_withFencer 37 = .ok (.istore 6, 2) := by decide +kernel
theorem dX3_withFencer_39 : decode cX3_withFencer 39 = .ok (.iload 6, 2) := by decide +kernel
theorem dX3_withFencer_41 : decode cX3_withFencer 41 = .ok (.iconst 4, 1) := by decide +kernel
theorem dX3_withFencer_42 : decode cX3_withFencer 42 = .ok (.if_icmp .gt 26, 3) := by decide +kernel
theorem dX3_withFencer_45 : decode cX3_withFencer 45 = .ok (.lload 4, 2) := by decide +kernel
theorem dX3_withFencer_47 : decode cX3_withFencer 47 = .ok (.ldc2_w 378, 3) := by decide +kernel
theorem dX3_withFencer_50 : decode cX3_withFencer 50 = .ok (.lmul, 1) := by decide +kernel
theorem dX3_withFencer_51 : decode cX3_withFencer 51 = .ok (.aload_n 0, 1) := by decide +kernel
theorem dX3_withFencer_52 : decode cX3_withFencer 52 = .ok (.iload_n 3, 1) := by decide +kernel
theorem dX3_withFencer_53 : decode cX3_withFencer 53 = .ok (.iload 6, 2) := by decide +kernel
theorem dX3_withFencer_55 : decode cX3_withFencer 55 = .ok (.invokevirtual 399, 3) := by decide +kernel
theorem dX3_withFencer_58 : decode cX3_withFencer 58 = .ok (.i2l, 1) := by decide +kernel
theorem dX3_withFencer_59 : decode cX3_withFencer 59 = .ok (.ladd, 1) := by decide +kernel
theorem dX3_withFencer_60 : decode cX3_withFencer 60 = .ok (.lstore 4, 2) := by decide +kernel
theorem dX3_withFencer_62 : decode cX3_withFencer 62 = .ok (.iinc 6 1, 3) := by decide +kernel
theorem dX3_withFencer_65 : decode cX3_withFencer 65 = .ok (.goto (-26), 3) := by decide +kernel
theorem dX3_withFencer_68 : decode cX3_withFencer 68 = .ok (.lload 4, 2) := by decide +kernel
theorem dX3_withFencer_70 : decode cX3_withFencer 70 = .ok (.ldc2_w 378, 3) := by decide +kernel
theorem dX3_withFencer_73 : decode cX3_withFencer 73 = .ok (.lmul, 1) := by decide +kernel
theorem dX3_withFencer_74 : decode cX3_withFencer 74 = .ok (.aload_n 0, 1) := by decide +kernel
theorem dX3_withFencer_75 : decode cX3_withFencer 75 = .ok (.iload_n 3, 1) := by decide +kernel
theorem dX3_withFencer_76 : decode cX3_withFencer 76 = .ok (.invokevirtual 402, 3) := by decide +kernel
theorem dX3_withFencer_79 : decode cX3_withFencer 79 = .ok (.i2l, 1) := by decide +kernel
theorem dX3_withFencer_80 : decode cX3_withFencer 80 = .ok (.ladd, 1) := by decide +kernel
theorem dX3_withFencer_81 : decode cX3_withFencer 81 = .ok (.lstore 4, 2) := by decide +kernel
theorem dX3_withFencer_83 : decode cX3_withFencer 83 = .ok (.lload 4, 2) := by decide +kernel
theorem dX3_withFencer_85 : decode cX3_withFencer 85 = .ok (.ldc2_w 378, 3) := by decide +kernel
theorem dX3_withFencer_88 : decode cX3_withFencer 88 = .ok (.lmul, 1) := by decide +kernel
theorem dX3_withFencer_89 : decode cX3_withFencer 89 = .ok (.aload_n 0, 1) := by decide +kernel
theorem dX3_withFencer_90 : decode cX3_withFencer 90 = .ok (.iload_n 3, 1) := by decide +kernel
theorem dX3_withFencer_91 : decode cX3_withFencer 91 = .ok (.invokevirtual 405, 3) := by decide +kernel
theorem dX3_withFencer_94 : decode cX3_withFencer 94 = .ok (.i2l, 1) := by decide +kernel
theorem dX3_withFencer_95 : decode cX3_withFencer 95 = .ok (.ladd, 1) := by decide +kernel
theorem dX3_withFencer_96 : decode cX3_withFencer 96 = .ok (.lreturn, 1) := by decide +kernel
set_option maxRecDepth 20000 in
theorem ggX3_withBout_X3_ofBout : GoodIn wsX3_withBout wsX3_ofBout := goodIn_ca (goodIn_ca (goodIn_r _ [6, 7, 8, 9, 10, 11, 12, 13, 14, 15, 16, 17, 18, 19, 20, 21, 5, 22, 23, 24, 25, 26, 27, 28, 29, 30, 31, 32, 33, 34, 35, 36, 37, 38, 39, 40, 41, 42, 43, 44, 45, 46, 47, 48, 49, 50, 51, 52, 53, 54, 55, 56, 57, 58, 59, 60, 61, 62, 63, 64, 65, 66, 67, 68, 69, 70, 71, 72, 73, 74, 75, 76, 77, 78, 79, 114, 115, 116, 117, 118, 119, 120, 121, 122, 123, 124, 125, 126, 127, 128, 129, 130, 131, 132, 133, 134, 135, 136, 137, 138, 139, 140, 141, 142, 143, 144, 145, 146, 147, 148, 149, 150, 151, 152] (by decide +kernel) (by decide +kernel)) (goodIn_sub (fun _ h => List.mem_cons_of_mem _ (List.mem_append_left _ (List.mem_append_right _ h))) (by decide +kernel))) (goodIn_sub (fun _ h => List.mem_cons_of_mem _ (List.mem_append_right _ h)) (by decide +kernel))
set_option maxRecDepth 20000 in
theorem gX3_withBout_X3_ofBout : GoodIn wsX3_withBout (wsV RX3 408 RX3 yX3_ofBout wsX3_ofBout) := goodIn_app (goodIn_of _ (by decide +kernel)) ggX3_withBout_X3_ofBout
set_option maxRecDepth 20000 in
theorem ggX3_withBout_X3_reason : GoodIn wsX3_withBout wsX3_reason := goodIn_ca (goodIn_r _ [83, 19, 20, 21, 5, 22, 23, 24, 25, 26, 27, 28, 29, 30, 31, 32, 33, 34, 35, 36, 37, 38, 39, 40, 41, 42, 43, 44, 45, 46, 47, 48, 49, 50, 51, 52, 84, 85, 86, 87, 9, 10, 12, 88, 89, 90, 91, 60, 92, 77, 93, 79, 94, 95, 96, 97, 98, 99, 100, 101, 102, 103, 104, 105, 106, 107, 108, 109, 110, 111, 112, 113, 126, 127, 128, 129, 130, 131, 132, 133, 134, 135, 136, 137, 138, 114, 115, 116, 117, 118, 119, 120, 121, 122, 123, 124, 125, 139, 140, 141, 142, 143, 144, 145, 146, 147, 148, 149, 150, 151, 152] (by decide +kernel) (by decide +kernel)) (goodIn_sub (fun _ h => List.mem_cons_of_mem _ (List.mem_append_right _ h)) (by decide +kernel))
set_option maxRecDepth 20000 in
theorem gX3_withBout_X3_reason : GoodIn wsX3_withBout (wsV RX3 411 RX3 yX3_reason wsX3_reason) := goodIn_app (goodIn_of _ (by decide +kernel)) ggX3_withBout_X3_reason
theorem dX3_withBout_0 : decode cX3_withBout 0 = .ok (.lload_n 1, 1) := by decide +kernel
theorem dX3_withBout_1 : decode cX3_withBout 1 = .ok (.lstore 4, 2) := by decide +kernel
theorem dX3_withBout_3 : decode cX3_withBout 3 = .ok (.iconst 0, 1) := by decide +kernel
theorem dX3_withBout_4 : decode cX3_withBout 4 = .ok (.istore 6, 2) := by decide +kernel
theorem dX3_withBout_6 : decode cX3_withBout 6 = .ok (.iload 6, 2) := by decide +kernel
theorem dX3_withBout_8 : decode cX3_withBout 8 = .ok (.bipush 11, 2) := by decide +kernel
theorem dX3_withBout_10 : decode cX3_withBout 10 = .ok (.if_icmp .gt 26, 3) := by decide +kernel
theorem dX3_withBout_13 : decode cX3_withBout 13 = .ok (.lload 4, 2) := by decide +kernel
theorem dX3_withBout_15 : decode cX3_withBout 15 = .ok (.ldc2_w 378, 3) := by decide +kernel
theorem dX3_withBout_18 : decode cX3_withBout 18 = .ok (.lmul, 1) := by decide +kernel
theorem dX3_withBout_19 : decode cX3_withBout 19 = .ok (.aload_n 0, 1) := by decide +kernel
theorem dX3_withBout_20 : decode cX3_withBout 20 = .ok (.iload_n 3, 1) := by decide +kernel
theorem dX3_withBout_21 : decode cX3_withBout 21 = .ok (.iload 6, 2) := by decide +kernel
theorem dX3_withBout_23 : decode cX3_withBout 23 = .ok (.invokevirtual 408, 3) := by decide +kernel
theorem dX3_withBout_26 : decode cX3_withBout 26 = .ok (.i2l, 1) := by decide +kernel
theorem dX3_withBout_27 : decode cX3_withBout 27 = .ok (.ladd, 1) := by decide +kernel
theorem dX3_withBout_28 : decode cX3_withBout 28 = .ok (.lstore 4, 2) := by decide +kernel
theorem dX3_withBout_30 : decode cX3_withBout 30 = .ok (.iinc 6 1, 3) := by decide +kernel
theorem dX3_withBout_33 : decode cX3_withBout 33 = .ok (.goto (-27), 3) := by decide +kernel
theorem dX3_withBout_36 : decode cX3_withBout 36 = .ok (.lload 4, 2) := by decide +kernel
theorem dX3_withBout_38 : decode cX3_withBout 38 = .ok (.ldc2_w 378, 3) := by decide +kernel
theorem dX3_withBout_41 : decode cX3_withBout 41 = .ok (.lmul, 1) := by decide +kernel
theorem dX3_withBout_42 : decode cX3_withBout 42 = .ok (.aload_n 0, 1) := by decide +kernel
theorem dX3_withBout_43 : decode cX3_withBout 43 = .ok (.iload_n 3, 1) := by decide +kernel
theorem dX3_withBout_44 : decode cX3_withBout 44 = .ok (.invokevirtual 411, 3) := by decide +kernel
theorem dX3_withBout_47 : decode cX3_withBout 47 = .ok (.i2l, 1) := by decide +kernel
theorem dX3_withBout_48 : decode cX3_withBout 48 = .ok (.ladd, 1) := by decide +kernel
theorem dX3_withBout_49 : decode cX3_withBout 49 = .ok (.lreturn, 1) := by decide +kernel
theorem dX3_isIn_0 : decode cX3_isIn 0 = .ok (.iload_n 0, 1) := by decide +kernel
theorem dX3_isIn_1 : decode cX3_isIn 1 = .ok (.iload_n 1, 1) := by decide +kernel
theorem dX3_isIn_2 : decode cX3_isIn 2 = .ok (.if_icmp .lt 12, 3) := by decide +kernel
theorem dX3_isIn_5 : decode cX3_isIn 5 = .ok (.iload_n 0, 1) := by decide +kernel
theorem dX3_isIn_6 : decode cX3_isIn 6 = .ok (.iload_n 2, 1) := by decide +kernel
theorem dX3_isIn_7 : decode cX3_isIn 7 = .ok (.if_icmp .gt 7, 3) := by decide +kernel
theorem dX3_isIn_10 : decode cX3_isIn 10 = .ok (.iconst 1, 1) := by decide +kernel
theorem dX3_isIn_11 : decode cX3_isIn 11 = .ok (.goto 4, 3) := by decide +kernel
theorem dX3_isIn_14 : decode cX3_isIn 14 = .ok (.iconst 0, 1) := by decide +kernel
theorem dX3_isIn_15 : decode cX3_isIn 15 = .ok (.ireturn, 1) := by decide +kernel
set_option maxRecDepth 20000 in
theorem ggX3_isPiste_X3_isIn : GoodIn wsX3_isPiste wsX3_isIn := goodIn_r _ [4] (by decide +kernel) (by decide +kernel)
set_option maxRecDepth 20000 in
theorem gX3_isPiste_X3_isIn : GoodIn wsX3_isPiste (va_wsS RX3 38 yX3_isIn wsX3_isIn) := goodIn_app (goodIn_of _ (by decide +kernel)) ggX3_isPiste_X3_isIn
theorem dX3_isPiste_0 : decode cX3_isPiste 0 = .ok (.iload_n 0, 1) := by decide +kernel
theorem dX3_isPiste_1 : decode cX3_isPiste 1 = .ok (.iconst 0, 1) := by decide +kernel
theorem dX3_isPiste_2 : decode cX3_isPiste 2 = .ok (.iconst 2, 1) := by decide +kernel
theorem dX3_isPiste_3 : decode cX3_isPiste 3 = .ok (.invokestatic 38, 3) := by decide +kernel
theorem dX3_isPiste_6 : decode cX3_isPiste 6 = .ok (.ireturn, 1) := by decide +kernel
theorem dX3_numberOf_0 : decode cX3_numberOf 0 = .ok (.aload_n 0, 1) := by decide +kernel
theorem dX3_numberOf_1 : decode cX3_numberOf 1 = .ok (.ifnonnull 7, 3) := by decide +kernel
theorem dX3_numberOf_4 : decode cX3_numberOf 4 = .ok (.iconst (-1), 1) := by decide +kernel
theorem dX3_numberOf_5 : decode cX3_numberOf 5 = .ok (.goto 7, 3) := by decide +kernel
theorem dX3_numberOf_8 : decode cX3_numberOf 8 = .ok (.aload_n 0, 1) := by decide +kernel
theorem dX3_numberOf_9 : decode cX3_numberOf 9 = .ok (.getfield 414, 3) := by decide +kernel
theorem dX3_numberOf_12 : decode cX3_numberOf 12 = .ok (.ireturn, 1) := by decide +kernel
set_option maxRecDepth 20000 in
theorem ggX3_fencerAt_Jx4a65c_size_8abf5 : GoodIn wsX3_fencerAt wsJx4a65c_size_8abf5 := goodIn_r _ [9, 10, 42, 43, 44] (by decide +kernel) (by decide +kernel)
set_option maxRecDepth 20000 in
theorem gX3_fencerAt_Jx4a65c_size_8abf5 : GoodIn wsX3_fencerAt (wsV RX3 49 RJx4a65c yJx4a65c_size_8abf5 wsJx4a65c_size_8abf5) := goodIn_app (goodIn_of _ (by decide +kernel)) ggX3_fencerAt_Jx4a65c_size_8abf5
set_option maxRecDepth 20000 in
theorem ggX3_fencerAt_X3_isIn : GoodIn wsX3_fencerAt wsX3_isIn := goodIn_r _ [14] (by decide +kernel) (by decide +kernel)
set_option maxRecDepth 20000 in
theorem gX3_fencerAt_X3_isIn : GoodIn wsX3_fencerAt (va_wsS RX3 38 yX3_isIn wsX3_isIn) := goodIn_app (goodIn_of _ (by decide +kernel)) ggX3_fencerAt_X3_isIn
set_option maxRecDepth 20000 in
theorem ggX3_fencerAt_Jx4a65c_get_915e3 : GoodIn wsX3_fencerAt wsJx4a65c_get_915e3 := goodIn_r _ [18, 10, 19, 20, 21, 22, 23, 24, 25, 26, 27, 28, 29, 8, 30, 31, 42, 43, 44] (by decide +kernel) (by decide +kernel)
set_option maxRecDepth 20000 in
theorem gX3_fencerAt_Jx4a65c_get_915e3 : GoodIn wsX3_fencerAt (wsV RX3 124 RJx4a65c yJx4a65c_get_915e3 wsJx4a65c_get_915e3) := goodIn_app (goodIn_of _ (by decide +kernel)) ggX3_fencerAt_Jx4a65c_get_915e3
theorem dX3_fencerAt_0 : decode cX3_fencerAt 0 = .ok (.iload_n 1, 1) := by decide +kernel
theorem dX3_fencerAt_1 : decode cX3_fencerAt 1 = .ok (.iconst 0, 1) := by decide +kernel
theorem dX3_fencerAt_2 : decode cX3_fencerAt 2 = .ok (.aload_n 0, 1) := by decide +kernel
theorem dX3_fencerAt_3 : decode cX3_fencerAt 3 = .ok (.getfield 12, 3) := by decide +kernel
theorem dX3_fencerAt_6 : decode cX3_fencerAt 6 = .ok (.invokevirtual 49, 3) := by decide +kernel
theorem dX3_fencerAt_9 : decode cX3_fencerAt 9 = .ok (.iconst 1, 1) := by decide +kernel
theorem dX3_fencerAt_10 : decode cX3_fencerAt 10 = .ok (.isub, 1) := by decide +kernel
theorem dX3_fencerAt_11 : decode cX3_fencerAt 11 = .ok (.invokestatic 38, 3) := by decide +kernel
theorem dX3_fencerAt_14 : decode cX3_fencerAt 14 = .ok (.ifCond .ne 14, 3) := by decide +kernel
theorem dX3_fencerAt_17 : decode cX3_fencerAt 17 = .ok (.new 341, 3) := by decide +kernel
theorem dX3_fencerAt_20 : decode cX3_fencerAt 20 = .ok (.dup, 1) := by decide +kernel
theorem dX3_fencerAt_21 : decode cX3_fencerAt 21 = .ok (.ldc_w 415, 3) := by decide +kernel
theorem dX3_fencerAt_24 : decode cX3_fencerAt 24 = .ok (.invokespecial 345, 3) := by decide +kernel
theorem dX3_fencerAt_27 : decode cX3_fencerAt 27 = .ok (.athrow, 1) := by decide +kernel
theorem dX3_fencerAt_28 : decode cX3_fencerAt 28 = .ok (.aload_n 0, 1) := by decide +kernel
theorem dX3_fencerAt_29 : decode cX3_fencerAt 29 = .ok (.getfield 12, 3) := by decide +kernel
theorem dX3_fencerAt_32 : decode cX3_fencerAt 32 = .ok (.iload_n 1, 1) := by decide +kernel
theorem dX3_fencerAt_33 : decode cX3_fencerAt 33 = .ok (.invokevirtual 124, 3) := by decide +kernel
theorem dX3_fencerAt_36 : decode cX3_fencerAt 36 = .ok (.checkcast 29, 3) := by decide +kernel
theorem dX3_fencerAt_39 : decode cX3_fencerAt 39 = .ok (.areturn, 1) := by decide +kernel
set_option maxRecDepth 20000 in
theorem ggX3_boutAt_Jx4a65c_size_8abf5 : GoodIn wsX3_boutAt wsJx4a65c_size_8abf5 := goodIn_r _ [9, 10, 42, 43, 44] (by decide +kernel) (by decide +kernel)
set_option maxRecDepth 20000 in
theorem gX3_boutAt_Jx4a65c_size_8abf5 : GoodIn wsX3_boutAt (wsV RX3 49 RJx4a65c yJx4a65c_size_8abf5 wsJx4a65c_size_8abf5) := goodIn_app (goodIn_of _ (by decide +kernel)) ggX3_boutAt_Jx4a65c_size_8abf5
set_option maxRecDepth 20000 in
theorem ggX3_boutAt_X3_isIn : GoodIn wsX3_boutAt wsX3_isIn := goodIn_r _ [14] (by decide +kernel) (by decide +kernel)
set_option maxRecDepth 20000 in
theorem gX3_boutAt_X3_isIn : GoodIn wsX3_boutAt (va_wsS RX3 38 yX3_isIn wsX3_isIn) := goodIn_app (goodIn_of _ (by decide +kernel)) ggX3_boutAt_X3_isIn
set_option maxRecDepth 20000 in
theorem ggX3_boutAt_Jx4a65c_get_915e3 : GoodIn wsX3_boutAt wsJx4a65c_get_915e3 := goodIn_r _ [18, 10, 19, 20, 21, 22, 23, 24, 25, 26, 27, 28, 29, 8, 30, 31, 42, 43, 44] (by decide +kernel) (by decide +kernel)
set_option maxRecDepth 20000 in
theorem gX3_boutAt_Jx4a65c_get_915e3 : GoodIn wsX3_boutAt (wsV RX3 124 RJx4a65c yJx4a65c_get_915e3 wsJx4a65c_get_915e3) := goodIn_app (goodIn_of _ (by decide +kernel)) ggX3_boutAt_Jx4a65c_get_915e3
theorem dX3_boutAt_0 : decode cX3_boutAt 0 = .ok (.iload_n 1, 1) := by decide +kernel
theorem dX3_boutAt_1 : decode cX3_boutAt 1 = .ok (.iconst 0, 1) := by decide +kernel
theorem dX3_boutAt_2 : decode cX3_boutAt 2 = .ok (.aload_n 0, 1) := by decide +kernel
theorem dX3_boutAt_3 : decode cX3_boutAt 3 = .ok (.getfield 16, 3) := by decide +kernel
theorem dX3_boutAt_6 : decode cX3_boutAt 6 = .ok (.invokevirtual 49, 3) := by decide +kernel
theorem dX3_boutAt_9 : decode cX3_boutAt 9 = .ok (.iconst 1, 1) := by decide +kernel
theorem dX3_boutAt_10 : decode cX3_boutAt 10 = .ok (.isub, 1) := by decide +kernel
theorem dX3_boutAt_11 : decode cX3_boutAt 11 = .ok (.invokestatic 38, 3) := by decide +kernel
theorem dX3_boutAt_14 : decode cX3_boutAt 14 = .ok (.ifCond .ne 14, 3) := by decide +kernel
theorem dX3_boutAt_17 : decode cX3_boutAt 17 = .ok (.new 341, 3) := by decide +kernel
theorem dX3_boutAt_20 : decode cX3_boutAt 20 = .ok (.dup, 1) := by decide +kernel
theorem dX3_boutAt_21 : decode cX3_boutAt 21 = .ok (.ldc_w 417, 3) := by decide +kernel
theorem dX3_boutAt_24 : decode cX3_boutAt 24 = .ok (.invokespecial 345, 3) := by decide +kernel
theorem dX3_boutAt_27 : decode cX3_boutAt 27 = .ok (.athrow, 1) := by decide +kernel
theorem dX3_boutAt_28 : decode cX3_boutAt 28 = .ok (.aload_n 0, 1) := by decide +kernel
theorem dX3_boutAt_29 : decode cX3_boutAt 29 = .ok (.getfield 16, 3) := by decide +kernel
theorem dX3_boutAt_32 : decode cX3_boutAt 32 = .ok (.iload_n 1, 1) := by decide +kernel
theorem dX3_boutAt_33 : decode cX3_boutAt 33 = .ok (.invokevirtual 124, 3) := by decide +kernel
theorem dX3_boutAt_36 : decode cX3_boutAt 36 = .ok (.checkcast 19, 3) := by decide +kernel
theorem dX3_boutAt_39 : decode cX3_boutAt 39 = .ok (.areturn, 1) := by decide +kernel
set_option maxRecDepth 20000 in
theorem ggX3_liveBoutOn_X3_isPiste : GoodIn wsX3_liveBoutOn wsX3_isPiste := goodIn_r _ [7, 8, 9, 6, 10] (by decide +kernel) (by decide +kernel)
set_option maxRecDepth 20000 in
theorem gX3_liveBoutOn_X3_isPiste : GoodIn wsX3_liveBoutOn (va_wsS RX3 139 yX3_isPiste wsX3_isPiste) := goodIn_app (goodIn_of _ (by decide +kernel)) ggX3_liveBoutOn_X3_isPiste
theorem dX3_liveBoutOn_0 : decode cX3_liveBoutOn 0 = .ok (.iload_n 1, 1) := by decide +kernel
theorem dX3_liveBoutOn_1 : decode cX3_liveBoutOn 1 = .ok (.invokestatic 139, 3) := by decide +kernel
theorem dX3_liveBoutOn_4 : decode cX3_liveBoutOn 4 = .ok (.ifCond .eq 12, 3) := by decide +kernel
theorem dX3_liveBoutOn_7 : decode cX3_liveBoutOn 7 = .ok (.aload_n 0, 1) := by decide +kernel
theorem dX3_liveBoutOn_8 : decode cX3_liveBoutOn 8 = .ok (.getfield 21, 3) := by decide +kernel
theorem dX3_liveBoutOn_11 : decode cX3_liveBoutOn 11 = .ok (.iload_n 1, 1) := by decide +kernel
theorem dX3_liveBoutOn_12 : decode cX3_liveBoutOn 12 = .ok (.aaload, 1) := by decide +kernel
theorem dX3_liveBoutOn_13 : decode cX3_liveBoutOn 13 = .ok (.goto 4, 3) := by decide +kernel
theorem dX3_liveBoutOn_16 : decode cX3_liveBoutOn 16 = .ok (.aconst_null, 1) := by decide +kernel
theorem dX3_liveBoutOn_17 : decode cX3_liveBoutOn 17 = .ok (.astore_n 2, 1) := by decide +kernel
theorem dX3_liveBoutOn_18 : decode cX3_liveBoutOn 18 = .ok (.aload_n 2, 1) := by decide +kernel
theorem dX3_liveBoutOn_19 : decode cX3_liveBoutOn 19 = .ok (.ifnonnull 14, 3) := by decide +kernel
theorem dX3_liveBoutOn_22 : decode cX3_liveBoutOn 22 = .ok (.new 57, 3) := by decide +kernel
theorem dX3_liveBoutOn_25 : decode cX3_liveBoutOn 25 = .ok (.dup, 1) := by decide +kernel
theorem dX3_liveBoutOn_26 : decode cX3_liveBoutOn 26 = .ok (.ldc_w 419, 3) := by decide +kernel
theorem dX3_liveBoutOn_29 : decode cX3_liveBoutOn 29 = .ok (.invokespecial 61, 3) := by decide +kernel
theorem dX3_liveBoutOn_32 : decode cX3_liveBoutOn 32 = .ok (.athrow, 1) := by decide +kernel
theorem dX3_liveBoutOn_33 : decode cX3_liveBoutOn 33 = .ok (.aload_n 2, 1) := by decide +kernel
theorem dX3_liveBoutOn_34 : decode cX3_liveBoutOn 34 = .ok (.areturn, 1) := by decide +kernel
theorem dJ9_max_7cf53_0 : decode cJ9_max_7cf53 0 = .ok (.iload_n 0, 1) := by decide +kernel
theorem dJ9_max_7cf53_1 : decode cJ9_max_7cf53 1 = .ok (.iload_n 1, 1) := by decide +kernel
theorem dJ9_max_7cf53_2 : decode cJ9_max_7cf53 2 = .ok (.if_icmp .lt 7, 3) := by decide +kernel
theorem dJ9_max_7cf53_5 : decode cJ9_max_7cf53 5 = .ok (.iload_n 0, 1) := by decide +kernel
theorem dJ9_max_7cf53_6 : decode cJ9_max_7cf53 6 = .ok (.goto 4, 3) := by decide +kernel
theorem dJ9_max_7cf53_9 : decode cJ9_max_7cf53 9 = .ok (.iload_n 1, 1) := by decide +kernel
theorem dJ9_max_7cf53_10 : decode cJ9_max_7cf53 10 = .ok (.ireturn, 1) := by decide +kernel
theorem dJ9_min_7cf53_0 : decode cJ9_min_7cf53 0 = .ok (.iload_n 0, 1) := by decide +kernel
theorem dJ9_min_7cf53_1 : decode cJ9_min_7cf53 1 = .ok (.iload_n 1, 1) := by decide +kernel
theorem dJ9_min_7cf53_2 : decode cJ9_min_7cf53 2 = .ok (.if_icmp .gt 7, 3) := by decide +kernel
theorem dJ9_min_7cf53_5 : decode cJ9_min_7cf53 5 = .ok (.iload_n 0, 1) := by decide +kernel
theorem dJ9_min_7cf53_6 : decode cJ9_min_7cf53 6 = .ok (.goto 4, 3) := by decide +kernel
theorem dJ9_min_7cf53_9 : decode cJ9_min_7cf53 9 = .ok (.iload_n 1, 1) := by decide +kernel
theorem dJ9_min_7cf53_10 : decode cJ9_min_7cf53 10 = .ok (.ireturn, 1) := by decide +kernel
theorem dJxa1e45_init_da8c8_0 : decode cJxa1e45_init_da8c8 0 = .ok (.aload_n 0, 1) := by decide +kernel
theorem dJxa1e45_init_da8c8_1 : decode cJxa1e45_init_da8c8 1 = .ok (.invokespecial 1, 3) := by decide +kernel
theorem dJxa1e45_init_da8c8_4 : decode cJxa1e45_init_da8c8 4 = .ok (.return_, 1) := by decide +kernel
set_option maxRecDepth 20000 in
theorem ggJxc12de_init_da8c8_Jxa1e45_init_da8c8 : GoodIn wsJxc12de_init_da8c8 wsJxa1e45_init_da8c8 := goodIn_r _ [5, 6, 7, 8] (by decide +kernel) (by decide +kernel)
set_option maxRecDepth 20000 in
theorem gJxc12de_init_da8c8_Jxa1e45_init_da8c8 : GoodIn wsJxc12de_init_da8c8 (wsJxa1e45_init_da8c8) := ggJxc12de_init_da8c8_Jxa1e45_init_da8c8
theorem dJxc12de_init_da8c8_0 : decode cJxc12de_init_da8c8 0 = .ok (.aload_n 0, 1) := by decide +kernel
theorem dJxc12de_init_da8c8_1 : decode cJxc12de_init_da8c8 1 = .ok (.invokespecial 1, 3) := by decide +kernel
theorem dJxc12de_init_da8c8_4 : decode cJxc12de_init_da8c8 4 = .ok (.aload_n 0, 1) := by decide +kernel
theorem dJxc12de_init_da8c8_5 : decode cJxc12de_init_da8c8 5 = .ok (.iconst 0, 1) := by decide +kernel
theorem dJxc12de_init_da8c8_6 : decode cJxc12de_init_da8c8 6 = .ok (.putfield 7, 3) := by decide +kernel
theorem dJxc12de_init_da8c8_9 : decode cJxc12de_init_da8c8 9 = .ok (.return_, 1) := by decide +kernel
set_option maxRecDepth 20000 in
theorem ggJx4a65c_init_da8c8_Jxc12de_init_da8c8 : GoodIn wsJx4a65c_init_da8c8 wsJxc12de_init_da8c8 := goodIn_r _ [6, 7, 8, 9, 10, 11, 12, 13, 14, 15, 16, 17] (by decide +kernel) (by decide +kernel)
set_option maxRecDepth 20000 in
theorem gJx4a65c_init_da8c8_Jxc12de_init_da8c8 : GoodIn wsJx4a65c_init_da8c8 (wsJxc12de_init_da8c8) := ggJx4a65c_init_da8c8_Jxc12de_init_da8c8
theorem dJx4a65c_init_da8c8_0 : decode cJx4a65c_init_da8c8 0 = .ok (.aload_n 0, 1) := by decide +kernel
theorem dJx4a65c_init_da8c8_1 : decode cJx4a65c_init_da8c8 1 = .ok (.invokespecial 1, 3) := by decide +kernel
theorem dJx4a65c_init_da8c8_4 : decode cJx4a65c_init_da8c8 4 = .ok (.aload_n 0, 1) := by decide +kernel
theorem dJx4a65c_init_da8c8_5 : decode cJx4a65c_init_da8c8 5 = .ok (.getstatic 39, 3) := by decide +kernel
theorem dJx4a65c_init_da8c8_8 : decode cJx4a65c_init_da8c8 8 = .ok (.putfield 9, 3) := by decide +kernel
theorem dJx4a65c_init_da8c8_11 : decode cJx4a65c_init_da8c8 11 = .ok (.return_, 1) := by decide +kernel
set_option maxRecDepth 20000 in
theorem ggJx4a65c_grow_92f84_J8_newLength_cabcc : GoodIn wsJx4a65c_grow_92f84 wsJ8_newLength_cabcc := goodIn_r _ [11, 12, 4, 5, 6, 13, 14, 15, 10, 16] (by decide +kernel) (by decide +kernel)
set_option maxRecDepth 20000 in
theorem gJx4a65c_grow_92f84_J8_newLength_cabcc : GoodIn wsJx4a65c_grow_92f84 (va_wsS RJx4a65c 73 yJ8_newLength_cabcc wsJ8_newLength_cabcc) := goodIn_app (goodIn_of _ (by decide +kernel)) ggJx4a65c_grow_92f84_J8_newLength_cabcc
set_option maxRecDepth 20000 in
theorem ggJx4a65c_grow_92f84_J7_copyOf_1904c : GoodIn wsJx4a65c_grow_92f84 wsJ7_copyOf_1904c := goodIn_r _ [20, 21, 22, 23, 24, 25, 26, 19, 27, 28, 29, 30, 31, 5, 32, 33, 34, 35, 36] (by decide +kernel) (by decide +kernel)
set_option maxRecDepth 20000 in
theorem gJx4a65c_grow_92f84_J7_copyOf_1904c : GoodIn wsJx4a65c_grow_92f84 (va_wsS RJx4a65c 66 yJ7_copyOf_1904c wsJ7_copyOf_1904c) := goodIn_app (goodIn_of _ (by decide +kernel)) ggJx4a65c_grow_92f84_J7_copyOf_1904c
theorem dJx4a65c_grow_92f84_0 : decode cJx4a65c_grow_92f84 0 = .ok (.aload_n 0, 1) := by decide +kernel
theorem dJx4a65c_grow_92f84_1 : decode cJx4a65c_grow_92f84 1 = .ok (.getfield 9, 3) := by decide +kernel
theorem dJx4a65c_grow_92f84_4 : decode cJx4a65c_grow_92f84 4 = .ok (.arraylength, 1) := by decide +kernel
theorem dJx4a65c_grow_92f84_5 : decode cJx4a65c_grow_92f84 5 = .ok (.istore_n 2, 1) := by decide +kernel
theorem dJx4a65c_grow_92f84_6 : decode cJx4a65c_grow_92f84 6 = .ok (.iload_n 2, 1) := by decide +kernel
theorem dJx4a65c_grow_92f84_7 : decode cJx4a65c_grow_92f84 7 = .ok (.ifCond .gt 13, 3) := by decide +kernel
theorem dJx4a65c_grow_92f84_10 : decode cJx4a65c_grow_92f84 10 = .ok (.aload_n 0, 1) := by decide +kernel
theorem dJx4a65c_grow_92f84_11 : decode cJx4a65c_grow_92f84 11 = .ok (.getfield 9, 3) := by decide +kernel
theorem dJx4a65c_grow_92f84_14 : decode cJx4a65c_grow_92f84 14 = .ok (.getstatic 39, 3) := by decide +kernel
theorem dJx4a65c_grow_92f84_17 : decode cJx4a65c_grow_92f84 17 = .ok (.if_acmp .eq 28, 3) := by decide +kernel
theorem dJx4a65c_grow_92f84_20 : decode cJx4a65c_grow_92f84 20 = .ok (.iload_n 2, 1) := by decide +kernel
theorem dJx4a65c_grow_92f84_21 : decode cJx4a65c_grow_92f84 21 = .ok (.iload_n 1, 1) := by decide +kernel
theorem dJx4a65c_grow_92f84_22 : decode cJx4a65c_grow_92f84 22 = .ok (.iload_n 2, 1) := by decide +kernel
theorem dJx4a65c_grow_92f84_23 : decode cJx4a65c_grow_92f84 23 = .ok (.isub, 1) := by decide +kernel
theorem dJx4a65c_grow_92f84_24 : decode cJx4a65c_grow_92f84 24 = .ok (.iload_n 2, 1) := by decide +kernel
theorem dJx4a65c_grow_92f84_25 : decode cJx4a65c_grow_92f84 25 = .ok (.iconst 1, 1) := by decide +kernel
theorem dJx4a65c_grow_92f84_26 : decode cJx4a65c_grow_92f84 26 = .ok (.ishr, 1) := by decide +kernel
theorem dJx4a65c_grow_92f84_27 : decode cJx4a65c_grow_92f84 27 = .ok (.invokestatic 73, 3) := by decide +kernel
theorem dJx4a65c_grow_92f84_30 : decode cJx4a65c_grow_92f84 30 = .ok (.istore_n 3, 1) := by decide +kernel
theorem dJx4a65c_grow_92f84_31 : decode cJx4a65c_grow_92f84 31 = .ok (.aload_n 0, 1) := by decide +kernel
theorem dJx4a65c_grow_92f84_32 : decode cJx4a65c_grow_92f84 32 = .ok (.aload_n 0, 1) := by decide +kernel
theorem dJx4a65c_grow_92f84_33 : decode cJx4a65c_grow_92f84 33 = .ok (.getfield 9, 3) := by decide +kernel
theorem dJx4a65c_grow_92f84_36 : decode cJx4a65c_grow_92f84 36 = .ok (.iload_n 3, 1) := by decide +kernel
theorem dJx4a65c_grow_92f84_37 : decode cJx4a65c_grow_92f84 37 = .ok (.invokestatic 66, 3) := by decide +kernel
theorem dJx4a65c_grow_92f84_40 : decode cJx4a65c_grow_92f84 40 = .ok (.dup_x1, 1) := by decide +kernel
theorem dJx4a65c_grow_92f84_41 : decode cJx4a65c_grow_92f84 41 = .ok (.putfield 9, 3) := by decide +kernel
theorem dJx4a65c_grow_92f84_44 : decode cJx4a65c_grow_92f84 44 = .ok (.areturn, 1) := by decide +kernel
theorem dJx4a65c_grow_92f84_45 : decode cJx4a65c_grow_92f84 45 = .ok (.aload_n 0, 1) := by decide +kernel
theorem dJx4a65c_grow_92f84_46 : decode cJx4a65c_grow_92f84 46 = .ok (.bipush 10, 2) := by decide +kernel
theorem dJx4a65c_grow_92f84_48 : decode cJx4a65c_grow_92f84 48 = .ok (.iload_n 1, 1) := by decide +kernel
theorem dJx4a65c_grow_92f84_49 : decode cJx4a65c_grow_92f84 49 = .ok (.invokestatic 79, 3) := by decide +kernel
theorem dJx4a65c_grow_92f84_52 : decode cJx4a65c_grow_92f84 52 = .ok (.anewarray 7, 3) := by decide +kernel
theorem dJx4a65c_grow_92f84_55 : decode cJx4a65c_grow_92f84 55 = .ok (.dup_x1, 1) := by decide +kernel
theorem dJx4a65c_grow_92f84_56 : decode cJx4a65c_grow_92f84 56 = .ok (.putfield 9, 3) := by decide +kernel
theorem dJx4a65c_grow_92f84_59 : decode cJx4a65c_grow_92f84 59 = .ok (.areturn, 1) := by decide +kernel
set_option maxRecDepth 20000 in
theorem ggJx4a65c_grow_d5877_Jx4a65c_grow_92f84 : GoodIn wsJx4a65c_grow_d5877 wsJx4a65c_grow_92f84 := goodIn_r _ [6, 7, 8, 9, 10, 11, 12, 13, 14, 15, 16, 17, 18, 19, 20, 21, 22, 23, 24, 25, 26, 27, 28, 29, 30, 31, 32, 33, 34, 35, 36, 37, 38, 39, 40, 41, 42, 43, 44, 45] (by decide +kernel) (by decide +kernel)
set_option maxRecDepth 20000 in
theorem gJx4a65c_grow_d5877_Jx4a65c_grow_92f84 : GoodIn wsJx4a65c_grow_d5877 (wsV RJx4a65c 69 RJx4a65c yJx4a65c_grow_92f84 wsJx4a65c_grow_92f84) := goodIn_app (goodIn_of _ (by decide +kernel)) ggJx4a65c_grow_d5877_Jx4a65c_grow_92f84
theorem dJx4a65c_grow_d5877_0 : decode cJx4a65c_grow_d5877 0 = .ok (.aload_n 0, 1) := by decide +kernel
theorem dJx4a65c_grow_d5877_1 : decode cJx4a65c_grow_d5877 1 = .ok (.aload_n 0, 1) := by decide +kernel
theorem dJx4a65c_grow_d5877_2 : decode cJx4a65c_grow_d5877 2 = .ok (.getfield 48, 3) := by decide +kernel
theorem dJx4a65c_grow_d5877_5 : decode cJx4a65c_grow_d5877 5 = .ok (.iconst 1, 1) := by decide +kernel
theorem dJx4a65c_grow_d5877_6 : decode cJx4a65c_grow_d5877 6 = .ok (.iadd, 1) := by decide +kernel
theorem dJx4a65c_grow_d5877_7 : decode cJx4a65c_grow_d5877 7 = .ok (.invokevirtual 69, 3) := by decide +kernel
theorem dJx4a65c_grow_d5877_10 : decode cJx4a65c_grow_d5877 10 = .ok (.areturn, 1) := by decide +kernel
theorem dJx4a65c_size_8abf5_0 : decode cJx4a65c_size_8abf5 0 = .ok (.aload_n 0, 1) := by decide +kernel
theorem dJx4a65c_size_8abf5_1 : decode cJx4a65c_size_8abf5 1 = .ok (.getfield 48, 3) := by decide +kernel
theorem dJx4a65c_size_8abf5_4 : decode cJx4a65c_size_8abf5 4 = .ok (.ireturn, 1) := by decide +kernel
theorem dJx4a65c_elementData_915e3_0 : decode cJx4a65c_elementData_915e3 0 = .ok (.aload_n 0, 1) := by decide +kernel
theorem dJx4a65c_elementData_915e3_1 : decode cJx4a65c_elementData_915e3 1 = .ok (.getfield 9, 3) := by decide +kernel
theorem dJx4a65c_elementData_915e3_4 : decode cJx4a65c_elementData_915e3 4 = .ok (.iload_n 1, 1) := by decide +kernel
theorem dJx4a65c_elementData_915e3_5 : decode cJx4a65c_elementData_915e3 5 = .ok (.aaload, 1) := by decide +kernel
theorem dJx4a65c_elementData_915e3_6 : decode cJx4a65c_elementData_915e3 6 = .ok (.areturn, 1) := by decide +kernel
set_option maxRecDepth 20000 in
theorem ggJx4a65c_get_915e3_J15_checkIndex_7cf53 : GoodIn wsJx4a65c_get_915e3 wsJ15_checkIndex_7cf53 := goodIn_r _ [5, 6, 7, 8, 9] (by decide +kernel) (by decide +kernel)
set_option maxRecDepth 20000 in
theorem gJx4a65c_get_915e3_J15_checkIndex_7cf53 : GoodIn wsJx4a65c_get_915e3 (va_wsS RJx4a65c 118 yJ15_checkIndex_7cf53 wsJ15_checkIndex_7cf53) := goodIn_app (goodIn_of _ (by decide +kernel)) ggJx4a65c_get_915e3_J15_checkIndex_7cf53
set_option maxRecDepth 20000 in
theorem ggJx4a65c_get_915e3_Jx4a65c_elementData_915e3 : GoodIn wsJx4a65c_get_915e3 wsJx4a65c_elementData_915e3 := goodIn_r _ [14, 15, 16, 17, 18] (by decide +kernel) (by decide +kernel)
set_option maxRecDepth 20000 in
theorem gJx4a65c_get_915e3_Jx4a65c_elementData_915e3 : GoodIn wsJx4a65c_get_915e3 (wsV RJx4a65c 123 RJx4a65c yJx4a65c_elementData_915e3 wsJx4a65c_elementData_915e3) := goodIn_app (goodIn_of _ (by decide +kernel)) ggJx4a65c_get_915e3_Jx4a65c_elementData_915e3
theorem dJx4a65c_get_915e3_0 : decode cJx4a65c_get_915e3 0 = .ok (.iload_n 1, 1) := by decide +kernel
theorem dJx4a65c_get_915e3_1 : decode cJx4a65c_get_915e3 1 = .ok (.aload_n 0, 1) := by decide +kernel
theorem dJx4a65c_get_915e3_2 : decode cJx4a65c_get_915e3 2 = .ok (.getfield 48, 3) := by decide +kernel
theorem dJx4a65c_get_915e3_5 : decode cJx4a65c_get_915e3 5 = .ok (.invokestatic 118, 3) := by decide +kernel
theorem dJx4a65c_get_915e3_8 : decode cJx4a65c_get_915e3 8 = .ok (.pop, 1) := by decide +kernel
theorem dJx4a65c_get_915e3_9 : decode cJx4a65c_get_915e3 9 = .ok (.aload_n 0, 1) := by decide +kernel
theorem dJx4a65c_get_915e3_10 : decode cJx4a65c_get_915e3 10 = .ok (.iload_n 1, 1) := by decide +kernel
theorem dJx4a65c_get_915e3_11 : decode cJx4a65c_get_915e3 11 = .ok (.invokevirtual 123, 3) := by decide +kernel
theorem dJx4a65c_get_915e3_14 : decode cJx4a65c_get_915e3 14 = .ok (.areturn, 1) := by decide +kernel
set_option maxRecDepth 20000 in
theorem ggJx4a65c_add_72be8_Jx4a65c_grow_d5877 : GoodIn wsJx4a65c_add_72be8 wsJx4a65c_grow_d5877 := goodIn_r _ [6, 1, 7, 8, 9, 5, 10, 11, 12, 13, 14, 15, 16, 17, 18, 19, 20, 21, 22, 23, 24, 25, 26, 27, 28, 29, 30, 31, 32, 33, 34, 35, 36, 37, 38, 39, 40, 41, 42, 43, 44, 45, 46, 47, 48, 49] (by decide +kernel) (by decide +kernel)
set_option maxRecDepth 20000 in
theorem gJx4a65c_add_72be8_Jx4a65c_grow_d5877 : GoodIn wsJx4a65c_add_72be8 (wsV RJx4a65c 129 RJx4a65c yJx4a65c_grow_d5877 wsJx4a65c_grow_d5877) := goodIn_app (goodIn_of _ (by decide +kernel)) ggJx4a65c_add_72be8_Jx4a65c_grow_d5877
theorem dJx4a65c_add_72be8_0 : decode cJx4a65c_add_72be8 0 = .ok (.iload_n 3, 1) := by decide +kernel
theorem dJx4a65c_add_72be8_1 : decode cJx4a65c_add_72be8 1 = .ok (.aload_n 2, 1) := by decide +kernel
theorem dJx4a65c_add_72be8_2 : decode cJx4a65c_add_72be8 2 = .ok (.arraylength, 1) := by decide +kernel
theorem dJx4a65c_add_72be8_3 : decode cJx4a65c_add_72be8 3 = .ok (.if_icmp .ne 8, 3) := by decide +kernel
theorem dJx4a65c_add_72be8_6 : decode cJx4a65c_add_72be8 6 = .ok (.aload_n 0, 1) := by decide +kernel
theorem dJx4a65c_add_72be8_7 : decode cJx4a65c_add_72be8 7 = .ok (.invokevirtual 129, 3) := by decide +kernel
theorem dJx4a65c_add_72be8_10 : decode cJx4a65c_add_72be8 10 = .ok (.astore_n 2, 1) := by decide +kernel
theorem dJx4a65c_add_72be8_11 : decode cJx4a65c_add_72be8 11 = .ok (.aload_n 2, 1) := by decide +kernel
theorem dJx4a65c_add_72be8_12 : decode cJx4a65c_add_72be8 12 = .ok (.iload_n 3, 1) := by decide +kernel
theorem dJx4a65c_add_72be8_13 : decode cJx4a65c_add_72be8 13 = .ok (.aload_n 1, 1) := by decide +kernel
theorem dJx4a65c_add_72be8_14 : decode cJx4a65c_add_72be8 14 = .ok (.aastore, 1) := by decide +kernel
theorem dJx4a65c_add_72be8_15 : decode cJx4a65c_add_72be8 15 = .ok (.aload_n 0, 1) := by decide +kernel
theorem dJx4a65c_add_72be8_16 : decode cJx4a65c_add_72be8 16 = .ok (.iload_n 3, 1) := by decide +kernel
theorem dJx4a65c_add_72be8_17 : decode cJx4a65c_add_72be8 17 = .ok (.iconst 1, 1) := by decide +kernel
theorem dJx4a65c_add_72be8_18 : decode cJx4a65c_add_72be8 18 = .ok (.iadd, 1) := by decide +kernel
theorem dJx4a65c_add_72be8_19 : decode cJx4a65c_add_72be8 19 = .ok (.putfield 48, 3) := by decide +kernel
theorem dJx4a65c_add_72be8_22 : decode cJx4a65c_add_72be8 22 = .ok (.return_, 1) := by decide +kernel
set_option maxRecDepth 20000 in
theorem ggJx4a65c_add_9ea2d_Jx4a65c_add_72be8 : GoodIn wsJx4a65c_add_9ea2d wsJx4a65c_add_72be8 := goodIn_r _ [9, 4, 10, 11, 12, 8, 13, 14, 15, 16, 17, 3, 18, 19, 20, 21, 22, 23, 24, 25, 26, 27, 28, 29, 30, 31, 32, 33, 34, 35, 36, 37, 38, 39, 40, 41, 42, 43, 44, 45, 46, 47, 48, 49, 50, 51, 52, 53, 54, 55] (by decide +kernel) (by decide +kernel)
set_option maxRecDepth 20000 in
theorem gJx4a65c_add_9ea2d_Jx4a65c_add_72be8 : GoodIn wsJx4a65c_add_9ea2d (wsV RJx4a65c 131 RJx4a65c yJx4a65c_add_72be8 wsJx4a65c_add_72be8) := goodIn_app (goodIn_of _ (by decide +kernel)) ggJx4a65c_add_9ea2d_Jx4a65c_add_72be8
theorem dJx4a65c_add_9ea2d_0 : decode cJx4a65c_add_9ea2d 0 = .ok (.aload_n 0, 1) := by decide +kernel
theorem dJx4a65c_add_9ea2d_1 : decode cJx4a65c_add_9ea2d 1 = .ok (.dup, 1) := by decide +kernel
theorem dJx4a65c_add_9ea2d_2 : decode cJx4a65c_add_9ea2d 2 = .ok (.getfield 63, 3) := by decide +kernel
theorem dJx4a65c_add_9ea2d_5 : decode cJx4a65c_add_9ea2d 5 = .ok (.iconst 1, 1) := by decide +kernel
theorem dJx4a65c_add_9ea2d_6 : decode cJx4a65c_add_9ea2d 6 = .ok (.iadd, 1) := by decide +kernel
theorem dJx4a65c_add_9ea2d_7 : decode cJx4a65c_add_9ea2d 7 = .ok (.putfield 63, 3) := by decide +kernel
theorem dJx4a65c_add_9ea2d_10 : decode cJx4a65c_add_9ea2d 10 = .ok (.aload_n 0, 1) := by decide +kernel
theorem dJx4a65c_add_9ea2d_11 : decode cJx4a65c_add_9ea2d 11 = .ok (.aload_n 1, 1) := by decide +kernel
theorem dJx4a65c_add_9ea2d_12 : decode cJx4a65c_add_9ea2d 12 = .ok (.aload_n 0, 1) := by decide +kernel
theorem dJx4a65c_add_9ea2d_13 : decode cJx4a65c_add_9ea2d 13 = .ok (.getfield 9, 3) := by decide +kernel
theorem dJx4a65c_add_9ea2d_16 : decode cJx4a65c_add_9ea2d 16 = .ok (.aload_n 0, 1) := by decide +kernel
theorem dJx4a65c_add_9ea2d_17 : decode cJx4a65c_add_9ea2d 17 = .ok (.getfield 48, 3) := by decide +kernel
theorem dJx4a65c_add_9ea2d_20 : decode cJx4a65c_add_9ea2d 20 = .ok (.invokevirtual 131, 3) := by decide +kernel
theorem dJx4a65c_add_9ea2d_23 : decode cJx4a65c_add_9ea2d 23 = .ok (.iconst 1, 1) := by decide +kernel
theorem dJx4a65c_add_9ea2d_24 : decode cJx4a65c_add_9ea2d 24 = .ok (.ireturn, 1) := by decide +kernel
set_option maxRecDepth 20000 in
theorem ggJ7_copyOf_1904c_J7_copyOf_6403c : GoodIn wsJ7_copyOf_1904c wsJ7_copyOf_6403c := goodIn_r _ [8, 9, 10, 11, 12, 13, 14, 15, 16, 17, 18] (by decide +kernel) (by decide +kernel)
set_option maxRecDepth 20000 in
theorem gJ7_copyOf_1904c_J7_copyOf_6403c : GoodIn wsJ7_copyOf_1904c (va_wsS RJ7 300 yJ7_copyOf_6403c wsJ7_copyOf_6403c) := goodIn_app (goodIn_of _ (by decide +kernel)) ggJ7_copyOf_1904c_J7_copyOf_6403c
theorem dJ7_copyOf_1904c_0 : decode cJ7_copyOf_1904c 0 = .ok (.aload_n 0, 1) := by decide +kernel
theorem dJ7_copyOf_1904c_1 : decode cJ7_copyOf_1904c 1 = .ok (.iload_n 1, 1) := by decide +kernel
theorem dJ7_copyOf_1904c_2 : decode cJ7_copyOf_1904c 2 = .ok (.aload_n 0, 1) := by decide +kernel
theorem dJ7_copyOf_1904c_3 : decode cJ7_copyOf_1904c 3 = .ok (.invokevirtual 86, 3) := by decide +kernel
theorem dJ7_copyOf_1904c_6 : decode cJ7_copyOf_1904c 6 = .ok (.invokestatic 300, 3) := by decide +kernel
theorem dJ7_copyOf_1904c_9 : decode cJ7_copyOf_1904c 9 = .ok (.areturn, 1) := by decide +kernel
theorem dJ7_copyOf_6403c_0 : decode cJ7_copyOf_6403c 0 = .ok (.aload_n 2, 1) := by decide +kernel
theorem dJ7_copyOf_6403c_1 : decode cJ7_copyOf_6403c 1 = .ok (.ldc 110, 2) := by decide +kernel
theorem dJ7_copyOf_6403c_3 : decode cJ7_copyOf_6403c 3 = .ok (.if_acmp .ne 10, 3) := by decide +kernel
theorem dJ7_copyOf_6403c_6 : decode cJ7_copyOf_6403c 6 = .ok (.iload_n 1, 1) := by decide +kernel
theorem dJ7_copyOf_6403c_7 : decode cJ7_copyOf_6403c 7 = .ok (.anewarray 2, 3) := by decide +kernel
theorem dJ7_copyOf_6403c_10 : decode cJ7_copyOf_6403c 10 = .ok (.goto 14, 3) := by decide +kernel
theorem dJ7_copyOf_6403c_13 : decode cJ7_copyOf_6403c 13 = .ok (.aload_n 2, 1) := by decide +kernel
theorem dJ7_copyOf_6403c_14 : decode cJ7_copyOf_6403c 14 = .ok (.invokevirtual 90, 3) := by decide +kernel
theorem dJ7_copyOf_6403c_17 : decode cJ7_copyOf_6403c 17 = .ok (.iload_n 1, 1) := by decide +kernel
theorem dJ7_copyOf_6403c_18 : decode cJ7_copyOf_6403c 18 = .ok (.invokestatic 95, 3) := by decide +kernel
theorem dJ7_copyOf_6403c_21 : decode cJ7_copyOf_6403c 21 = .ok (.checkcast 110, 3) := by decide +kernel
theorem dJ7_copyOf_6403c_24 : decode cJ7_copyOf_6403c 24 = .ok (.astore_n 3, 1) := by decide +kernel
theorem dJ7_copyOf_6403c_25 : decode cJ7_copyOf_6403c 25 = .ok (.aload_n 0, 1) := by decide +kernel
theorem dJ7_copyOf_6403c_26 : decode cJ7_copyOf_6403c 26 = .ok (.iconst 0, 1) := by decide +kernel
theorem dJ7_copyOf_6403c_27 : decode cJ7_copyOf_6403c 27 = .ok (.aload_n 3, 1) := by decide +kernel
theorem dJ7_copyOf_6403c_28 : decode cJ7_copyOf_6403c 28 = .ok (.iconst 0, 1) := by decide +kernel
theorem dJ7_copyOf_6403c_29 : decode cJ7_copyOf_6403c 29 = .ok (.aload_n 0, 1) := by decide +kernel
theorem dJ7_copyOf_6403c_30 : decode cJ7_copyOf_6403c 30 = .ok (.arraylength, 1) := by decide +kernel
theorem dJ7_copyOf_6403c_31 : decode cJ7_copyOf_6403c 31 = .ok (.iload_n 1, 1) := by decide +kernel
theorem dJ7_copyOf_6403c_32 : decode cJ7_copyOf_6403c 32 = .ok (.invokestatic 304, 3) := by decide +kernel
theorem dJ7_copyOf_6403c_35 : decode cJ7_copyOf_6403c 35 = .ok (.invokestatic 150, 3) := by decide +kernel
theorem dJ7_copyOf_6403c_38 : decode cJ7_copyOf_6403c 38 = .ok (.aload_n 3, 1) := by decide +kernel
theorem dJ7_copyOf_6403c_39 : decode cJ7_copyOf_6403c 39 = .ok (.areturn, 1) := by decide +kernel
set_option maxRecDepth 20000 in
theorem ggJ15_checkIndex_7cf53_J3_checkIndex_8e157 : GoodIn wsJ15_checkIndex_7cf53 wsJ3_checkIndex_8e157 := goodIn_r _ [4] (by decide +kernel) (by decide +kernel)
set_option maxRecDepth 20000 in
theorem gJ15_checkIndex_7cf53_J3_checkIndex_8e157 : GoodIn wsJ15_checkIndex_7cf53 (va_wsS RJ15 105 yJ3_checkIndex_8e157 wsJ3_checkIndex_8e157) := goodIn_app (goodIn_of _ (by decide +kernel)) ggJ15_checkIndex_7cf53_J3_checkIndex_8e157
theorem dJ15_checkIndex_7cf53_0 : decode cJ15_checkIndex_7cf53 0 = .ok (.iload_n 0, 1) := by decide +kernel
theorem dJ15_checkIndex_7cf53_1 : decode cJ15_checkIndex_7cf53 1 = .ok (.iload_n 1, 1) := by decide +kernel
theorem dJ15_checkIndex_7cf53_2 : decode cJ15_checkIndex_7cf53 2 = .ok (.aconst_null, 1) := by decide +kernel
theorem dJ15_checkIndex_7cf53_3 : decode cJ15_checkIndex_7cf53 3 = .ok (.invokestatic 105, 3) := by decide +kernel
theorem dJ15_checkIndex_7cf53_6 : decode cJ15_checkIndex_7cf53 6 = .ok (.ireturn, 1) := by decide +kernel
set_option maxRecDepth 20000 in
theorem ggJ8_newLength_cabcc_J8_hugeLength_7cf53 : GoodIn wsJ8_newLength_cabcc wsJ8_hugeLength_7cf53 := goodIn_r _ [9, 5] (by decide +kernel) (by decide +kernel)
set_option maxRecDepth 20000 in
theorem gJ8_newLength_cabcc_J8_hugeLength_7cf53 : GoodIn wsJ8_newLength_cabcc (va_wsS RJ8 201 yJ8_hugeLength_7cf53 wsJ8_hugeLength_7cf53) := goodIn_app (goodIn_of _ (by decide +kernel)) ggJ8_newLength_cabcc_J8_hugeLength_7cf53
theorem dJ8_newLength_cabcc_0 : decode cJ8_newLength_cabcc 0 = .ok (.iload_n 0, 1) := by decide +kernel
theorem dJ8_newLength_cabcc_1 : decode cJ8_newLength_cabcc 1 = .ok (.iload_n 1, 1) := by decide +kernel
theorem dJ8_newLength_cabcc_2 : decode cJ8_newLength_cabcc 2 = .ok (.iload_n 2, 1) := by decide +kernel
theorem dJ8_newLength_cabcc_3 : decode cJ8_newLength_cabcc 3 = .ok (.invokestatic 194, 3) := by decide +kernel
theorem dJ8_newLength_cabcc_6 : decode cJ8_newLength_cabcc 6 = .ok (.iadd, 1) := by decide +kernel
theorem dJ8_newLength_cabcc_7 : decode cJ8_newLength_cabcc 7 = .ok (.istore_n 3, 1) := by decide +kernel
theorem dJ8_newLength_cabcc_8 : decode cJ8_newLength_cabcc 8 = .ok (.iconst 0, 1) := by decide +kernel
theorem dJ8_newLength_cabcc_9 : decode cJ8_newLength_cabcc 9 = .ok (.iload_n 3, 1) := by decide +kernel
theorem dJ8_newLength_cabcc_10 : decode cJ8_newLength_cabcc 10 = .ok (.if_icmp .ge 11, 3) := by decide +kernel
theorem dJ8_newLength_cabcc_13 : decode cJ8_newLength_cabcc 13 = .ok (.iload_n 3, 1) := by decide +kernel
theorem dJ8_newLength_cabcc_14 : decode cJ8_newLength_cabcc 14 = .ok (.ldc 200, 2) := by decide +kernel
theorem dJ8_newLength_cabcc_16 : decode cJ8_newLength_cabcc 16 = .ok (.if_icmp .gt 5, 3) := by decide +kernel
theorem dJ8_newLength_cabcc_19 : decode cJ8_newLength_cabcc 19 = .ok (.iload_n 3, 1) := by decide +kernel
theorem dJ8_newLength_cabcc_20 : decode cJ8_newLength_cabcc 20 = .ok (.ireturn, 1) := by decide +kernel
theorem dJ8_newLength_cabcc_21 : decode cJ8_newLength_cabcc 21 = .ok (.iload_n 0, 1) := by decide +kernel
theorem dJ8_newLength_cabcc_22 : decode cJ8_newLength_cabcc 22 = .ok (.iload_n 1, 1) := by decide +kernel
theorem dJ8_newLength_cabcc_23 : decode cJ8_newLength_cabcc 23 = .ok (.invokestatic 201, 3) := by decide +kernel
theorem dJ8_newLength_cabcc_26 : decode cJ8_newLength_cabcc 26 = .ok (.ireturn, 1) := by decide +kernel
theorem dJ8_hugeLength_7cf53_0 : decode cJ8_hugeLength_7cf53 0 = .ok (.iload_n 0, 1) := by decide +kernel
theorem dJ8_hugeLength_7cf53_1 : decode cJ8_hugeLength_7cf53 1 = .ok (.iload_n 1, 1) := by decide +kernel
theorem dJ8_hugeLength_7cf53_2 : decode cJ8_hugeLength_7cf53 2 = .ok (.iadd, 1) := by decide +kernel
theorem dJ8_hugeLength_7cf53_3 : decode cJ8_hugeLength_7cf53 3 = .ok (.istore_n 2, 1) := by decide +kernel
theorem dJ8_hugeLength_7cf53_4 : decode cJ8_hugeLength_7cf53 4 = .ok (.iload_n 2, 1) := by decide +kernel
theorem dJ8_hugeLength_7cf53_5 : decode cJ8_hugeLength_7cf53 5 = .ok (.ifCond .ge 44, 3) := by decide +kernel
theorem dJ8_hugeLength_7cf53_8 : decode cJ8_hugeLength_7cf53 8 = .ok (.new 204, 3) := by decide +kernel
theorem dJ8_hugeLength_7cf53_11 : decode cJ8_hugeLength_7cf53 11 = .ok (.dup, 1) := by decide +kernel
theorem dJ8_hugeLength_7cf53_12 : decode cJ8_hugeLength_7cf53 12 = .ok (.new 89, 3) := by decide +kernel
theorem dJ8_hugeLength_7cf53_15 : decode cJ8_hugeLength_7cf53 15 = .ok (.dup, 1) := by decide +kernel
theorem dJ8_hugeLength_7cf53_16 : decode cJ8_hugeLength_7cf53 16 = .ok (.invokespecial 91, 3) := by decide +kernel
theorem dJ8_hugeLength_7cf53_19 : decode cJ8_hugeLength_7cf53 19 = .ok (.ldc 206, 2) := by decide +kernel
theorem dJ8_hugeLength_7cf53_21 : decode cJ8_hugeLength_7cf53 21 = .ok (.invokevirtual 94, 3) := by decide +kernel
theorem dJ8_hugeLength_7cf53_24 : decode cJ8_hugeLength_7cf53 24 = .ok (.iload_n 0, 1) := by decide +kernel
theorem dJ8_hugeLength_7cf53_25 : decode cJ8_hugeLength_7cf53 25 = .ok (.invokevirtual 98, 3) := by decide +kernel
theorem dJ8_hugeLength_7cf53_28 : decode cJ8_hugeLength_7cf53 28 = .ok (.ldc 208, 2) := by decide +kernel
theorem dJ8_hugeLength_7cf53_30 : decode cJ8_hugeLength_7cf53 30 = .ok (.invokevirtual 94, 3) := by decide +kernel
theorem dJ8_hugeLength_7cf53_33 : decode cJ8_hugeLength_7cf53 33 = .ok (.iload_n 1, 1) := by decide +kernel
theorem dJ8_hugeLength_7cf53_34 : decode cJ8_hugeLength_7cf53 34 = .ok (.invokevirtual 98, 3) := by decide +kernel
theorem dJ8_hugeLength_7cf53_37 : decode cJ8_hugeLength_7cf53 37 = .ok (.ldc 210, 2) := by decide +kernel
theorem dJ8_hugeLength_7cf53_39 : decode cJ8_hugeLength_7cf53 39 = .ok (.invokevirtual 94, 3) := by decide +kernel
theorem dJ8_hugeLength_7cf53_42 : decode cJ8_hugeLength_7cf53 42 = .ok (.invokevirtual 101, 3) := by decide +kernel
theorem dJ8_hugeLength_7cf53_45 : decode cJ8_hugeLength_7cf53 45 = .ok (.invokespecial 212, 3) := by decide +kernel
theorem dJ8_hugeLength_7cf53_48 : decode cJ8_hugeLength_7cf53 48 = .ok (.athrow, 1) := by decide +kernel
theorem dJ8_hugeLength_7cf53_49 : decode cJ8_hugeLength_7cf53 49 = .ok (.iload_n 2, 1) := by decide +kernel
theorem dJ8_hugeLength_7cf53_50 : decode cJ8_hugeLength_7cf53 50 = .ok (.ldc 200, 2) := by decide +kernel
theorem dJ8_hugeLength_7cf53_52 : decode cJ8_hugeLength_7cf53 52 = .ok (.if_icmp .gt 6, 3) := by decide +kernel
theorem dJ8_hugeLength_7cf53_55 : decode cJ8_hugeLength_7cf53 55 = .ok (.ldc 200, 2) := by decide +kernel
theorem dJ8_hugeLength_7cf53_57 : decode cJ8_hugeLength_7cf53 57 = .ok (.ireturn, 1) := by decide +kernel
theorem dJ8_hugeLength_7cf53_58 : decode cJ8_hugeLength_7cf53 58 = .ok (.iload_n 2, 1) := by decide +kernel
theorem dJ8_hugeLength_7cf53_59 : decode cJ8_hugeLength_7cf53 59 = .ok (.ireturn, 1) := by decide +kernel
theorem dJ3_checkIndex_8e157_0 : decode cJ3_checkIndex_8e157 0 = .ok (.iload_n 0, 1) := by decide +kernel
theorem dJ3_checkIndex_8e157_1 : decode cJ3_checkIndex_8e157 1 = .ok (.ifCond .lt 8, 3) := by decide +kernel
theorem dJ3_checkIndex_8e157_4 : decode cJ3_checkIndex_8e157 4 = .ok (.iload_n 0, 1) := by decide +kernel
theorem dJ3_checkIndex_8e157_5 : decode cJ3_checkIndex_8e157 5 = .ok (.iload_n 1, 1) := by decide +kernel
theorem dJ3_checkIndex_8e157_6 : decode cJ3_checkIndex_8e157 6 = .ok (.if_icmp .lt 10, 3) := by decide +kernel
theorem dJ3_checkIndex_8e157_9 : decode cJ3_checkIndex_8e157 9 = .ok (.aload_n 2, 1) := by decide +kernel
theorem dJ3_checkIndex_8e157_10 : decode cJ3_checkIndex_8e157 10 = .ok (.iload_n 0, 1) := by decide +kernel
theorem dJ3_checkIndex_8e157_11 : decode cJ3_checkIndex_8e157 11 = .ok (.iload_n 1, 1) := by decide +kernel
theorem dJ3_checkIndex_8e157_12 : decode cJ3_checkIndex_8e157 12 = .ok (.invokestatic 95, 3) := by decide +kernel
theorem dJ3_checkIndex_8e157_15 : decode cJ3_checkIndex_8e157 15 = .ok (.athrow, 1) := by decide +kernel
theorem dJ3_checkIndex_8e157_16 : decode cJ3_checkIndex_8e157 16 = .ok (.iload_n 0, 1) := by decide +kernel
theorem dJ3_checkIndex_8e157_17 : decode cJ3_checkIndex_8e157 17 = .ok (.ireturn, 1) := by decide +kernel
theorem dL_below_0 : decode cL_below 0 = .ok (.iload_n 0, 1) := by decide +kernel
theorem dL_below_1 : decode cL_below 1 = .ok (.ldc 7, 2) := by decide +kernel
theorem dL_below_3 : decode cL_below 3 = .ok (.iand, 1) := by decide +kernel
theorem dL_below_4 : decode cL_below 4 = .ok (.iload_n 1, 1) := by decide +kernel
theorem dL_below_5 : decode cL_below 5 = .ok (.irem, 1) := by decide +kernel
theorem dL_below_6 : decode cL_below 6 = .ok (.ireturn, 1) := by decide +kernel
theorem dL_cell_0 : decode cL_cell 0 = .ok (.iload_n 1, 1) := by decide +kernel
theorem dL_cell_1 : decode cL_cell 1 = .ok (.aload_n 0, 1) := by decide +kernel
theorem dL_cell_2 : decode cL_cell 2 = .ok (.arraylength, 1) := by decide +kernel
theorem dL_cell_3 : decode cL_cell 3 = .ok (.if_icmp .ge 9, 3) := by decide +kernel
theorem dL_cell_6 : decode cL_cell 6 = .ok (.aload_n 0, 1) := by decide +kernel
theorem dL_cell_7 : decode cL_cell 7 = .ok (.iload_n 1, 1) := by decide +kernel
theorem dL_cell_8 : decode cL_cell 8 = .ok (.iaload, 1) := by decide +kernel
theorem dL_cell_9 : decode cL_cell 9 = .ok (.goto 9, 3) := by decide +kernel
theorem dL_cell_12 : decode cL_cell 12 = .ok (.ldc 8, 2) := by decide +kernel
theorem dL_cell_14 : decode cL_cell 14 = .ok (.iload_n 1, 1) := by decide +kernel
theorem dL_cell_15 : decode cL_cell 15 = .ok (.iconst 3, 1) := by decide +kernel
theorem dL_cell_16 : decode cL_cell 16 = .ok (.iadd, 1) := by decide +kernel
theorem dL_cell_17 : decode cL_cell 17 = .ok (.imul, 1) := by decide +kernel
theorem dL_cell_18 : decode cL_cell 18 = .ok (.ireturn, 1) := by decide +kernel

set_option maxRecDepth 20000 in
theorem ggL_live_X3_many : GoodIn wsL_live wsX3_many := goodIn_ca (goodIn_r _ [5, 6, 7, 8, 9, 10, 11, 12, 13, 14, 15, 16, 17, 18, 19, 20, 21, 4, 22, 23, 24, 25, 26, 27, 28, 29, 30, 31, 32, 33, 34, 35, 36, 37, 38, 39, 40, 41, 42, 43, 44, 45, 46, 47, 48, 49, 50, 51, 52, 53, 54, 55, 56, 101, 102, 103, 104, 105, 106, 107, 108, 109, 110, 111, 112, 113, 114, 115, 116, 117, 118, 119, 120, 121, 122, 123, 124, 125, 126, 127, 128, 129, 130, 131, 132, 133, 134, 135, 136] (by decide +kernel) (by decide +kernel)) (goodIn_sub (fun _ h => List.mem_cons_of_mem _ (List.mem_append_left _ (List.mem_append_right _ h))) (by decide +kernel))
set_option maxRecDepth 20000 in
theorem gL_live_X3_many : GoodIn wsL_live (wsV RL 29 RX3 yX3_many wsX3_many) := goodIn_app (goodIn_of _ (by decide +kernel)) ggL_live_X3_many
set_option maxRecDepth 20000 in
theorem ggL_live_X3_ofBout : GoodIn wsL_live wsX3_ofBout := goodIn_ca (goodIn_ca (goodIn_r _ [60, 6, 7, 24, 61, 62, 63, 64, 52, 65, 66, 67, 68, 69, 70, 71, 4, 72, 73, 74, 10, 23, 13, 14, 15, 16, 17, 18, 75, 76, 77, 25, 26, 27, 28, 29, 30, 31, 32, 33, 34, 35, 36, 37, 38, 39, 40, 41, 53, 54, 55, 56, 78, 79, 80, 81, 82, 83, 84, 85, 86, 87, 88, 89, 90, 91, 92, 93, 94, 95, 96, 97, 98, 99, 100, 114, 115, 116, 117, 118, 119, 120, 121, 122, 137, 138, 139, 101, 102, 103, 104, 105, 106, 107, 108, 109, 110, 111, 112, 113, 123, 124, 125, 126, 127, 128, 129, 130, 131, 132, 133, 134, 135, 136] (by decide +kernel) (by decide +kernel)) (goodIn_sub (fun _ h => List.mem_cons_of_mem _ (List.mem_append_left _ (List.mem_append_right _ h))) (by decide +kernel))) (goodIn_sub (fun _ h => List.mem_cons_of_mem _ (List.mem_append_right _ h)) (by decide +kernel))
set_option maxRecDepth 20000 in
theorem gL_live_X3_ofBout : GoodIn wsL_live (wsV RL 57 RX3 yX3_ofBout wsX3_ofBout) := goodIn_app (goodIn_of _ (by decide +kernel)) ggL_live_X3_ofBout
theorem dL_live_0 : decode cL_live 0 = .ok (.iconst 0, 1) := by decide +kernel
theorem dL_live_1 : decode cL_live 1 = .ok (.istore_n 2, 1) := by decide +kernel
theorem dL_live_2 : decode cL_live 2 = .ok (.iload_n 2, 1) := by decide +kernel
theorem dL_live_3 : decode cL_live 3 = .ok (.aload_n 0, 1) := by decide +kernel
theorem dL_live_4 : decode cL_live 4 = .ok (.iconst 2, 1) := by decide +kernel
theorem dL_live_5 : decode cL_live 5 = .ok (.invokevirtual 29, 3) := by decide +kernel
theorem dL_live_8 : decode cL_live 8 = .ok (.if_icmp .ge 22, 3) := by decide +kernel
theorem dL_live_11 : decode cL_live 11 = .ok (.aload_n 0, 1) := by decide +kernel
theorem dL_live_12 : decode cL_live 12 = .ok (.iload_n 2, 1) := by decide +kernel
theorem dL_live_13 : decode cL_live 13 = .ok (.bipush 6, 2) := by decide +kernel
theorem dL_live_15 : decode cL_live 15 = .ok (.invokevirtual 57, 3) := by decide +kernel
theorem dL_live_18 : decode cL_live 18 = .ok (.iload_n 1, 1) := by decide +kernel
theorem dL_live_19 : decode cL_live 19 = .ok (.if_icmp .ne 5, 3) := by decide +kernel
theorem dL_live_22 : decode cL_live 22 = .ok (.iload_n 2, 1) := by decide +kernel
theorem dL_live_23 : decode cL_live 23 = .ok (.ireturn, 1) := by decide +kernel
theorem dL_live_24 : decode cL_live 24 = .ok (.iinc 2 1, 3) := by decide +kernel
theorem dL_live_27 : decode cL_live 27 = .ok (.goto (-25), 3) := by decide +kernel
theorem dL_live_30 : decode cL_live 30 = .ok (.iconst (-1), 1) := by decide +kernel
theorem dL_live_31 : decode cL_live 31 = .ok (.ireturn, 1) := by decide +kernel
set_option maxRecDepth 20000 in
theorem ggL_isFair_X3_many : GoodIn wsL_isFair wsX3_many := goodIn_ca (goodIn_r _ [10, 11, 12, 13, 14, 15, 16, 17, 18, 19, 20, 21, 22, 23, 24, 25, 26, 9, 27, 28, 29, 30, 31, 32, 33, 34, 35, 36, 37, 38, 39, 40, 41, 42, 43, 44, 45, 46, 47, 48, 49, 50, 51, 52, 53, 54, 55, 56, 57, 58, 59, 60, 61, 160, 161, 162, 163, 164, 165, 166, 167, 168, 169, 170, 171, 172, 173, 174, 175, 176, 177, 178, 179, 180, 181, 182, 183, 184, 185, 186, 187, 188, 189, 190, 191, 192, 193, 194, 195] (by decide +kernel) (by decide +kernel)) (goodIn_sub (fun _ h => List.mem_cons_of_mem _ (List.mem_append_left _ (List.mem_append_right _ h))) (by decide +kernel))
set_option maxRecDepth 20000 in
theorem gL_isFair_X3_many : GoodIn wsL_isFair (wsV RL 29 RX3 yX3_many wsX3_many) := goodIn_app (goodIn_of _ (by decide +kernel)) ggL_isFair_X3_many
set_option maxRecDepth 20000 in
theorem ggL_isFair_X3_ofBout : GoodIn wsL_isFair wsX3_ofBout := goodIn_ca (goodIn_ca (goodIn_r _ [65, 11, 12, 29, 66, 67, 68, 69, 57, 70, 71, 72, 73, 74, 75, 76, 9, 77, 78, 79, 15, 28, 18, 19, 20, 21, 22, 23, 80, 81, 82, 30, 31, 32, 33, 34, 35, 36, 37, 38, 39, 40, 41, 42, 43, 44, 45, 46, 58, 59, 60, 61, 83, 84, 85, 86, 87, 88, 89, 90, 91, 92, 93, 94, 95, 96, 97, 98, 99, 100, 101, 102, 103, 104, 105, 173, 174, 175, 176, 177, 178, 179, 180, 181, 196, 197, 198, 160, 161, 162, 163, 164, 165, 166, 167, 168, 169, 170, 171, 172, 182, 183, 184, 185, 186, 187, 188, 189, 190, 191, 192, 193, 194, 195] (by decide +kernel) (by decide +kernel)) (goodIn_sub (fun _ h => List.mem_cons_of_mem _ (List.mem_append_left _ (List.mem_append_right _ h))) (by decide +kernel))) (goodIn_sub (fun _ h => List.mem_cons_of_mem _ (List.mem_append_right _ h)) (by decide +kernel))
set_option maxRecDepth 20000 in
theorem gL_isFair_X3_ofBout : GoodIn wsL_isFair (wsV RL 57 RX3 yX3_ofBout wsX3_ofBout) := goodIn_app (goodIn_of _ (by decide +kernel)) ggL_isFair_X3_ofBout
set_option maxRecDepth 20000 in
theorem ggL_isFair_X3_of : GoodIn wsL_isFair wsX3_of := goodIn_ca (goodIn_ca (goodIn_r _ [109, 11, 12, 110, 111, 112, 113, 52, 114, 115, 116, 117, 118, 119, 9, 120, 78, 79, 13, 51, 18, 19, 20, 21, 22, 23, 80, 81, 82, 30, 31, 32, 33, 34, 35, 36, 37, 38, 39, 40, 41, 42, 43, 44, 45, 46, 182, 183, 184, 185, 186, 187, 188, 189, 190, 191, 192, 193, 194, 195, 173, 174, 175, 176, 177, 178, 179, 180, 181, 160, 161, 162, 163, 164, 165, 166, 167, 168, 169, 170, 171, 172] (by decide +kernel) (by decide +kernel)) (goodIn_sub (fun _ h => List.mem_cons_of_mem _ (List.mem_append_left _ (List.mem_append_right _ h))) (by decide +kernel))) (goodIn_sub (fun _ h => List.mem_cons_of_mem _ (List.mem_append_right _ h)) (by decide +kernel))
set_option maxRecDepth 20000 in
theorem gL_isFair_X3_of : GoodIn wsL_isFair (wsV RL 71 RX3 yX3_of wsX3_of) := goodIn_app (goodIn_of _ (by decide +kernel)) ggL_isFair_X3_of
set_option maxRecDepth 20000 in
theorem ggL_isFair_X3_order : GoodIn wsL_isFair wsX3_order := goodIn_ca (goodIn_ca (goodIn_r _ [124, 11, 12, 125, 126, 127, 128, 117, 118, 119, 9, 120, 78, 79, 13, 51, 18, 19, 20, 21, 22, 23, 80, 81, 82, 30, 31, 32, 33, 34, 35, 36, 37, 38, 39, 40, 41, 42, 43, 44, 45, 46, 129, 130, 131, 132, 133, 134, 135, 136, 137, 138, 139, 140, 141, 3, 4, 5, 142, 143, 144, 145, 182, 183, 184, 185, 186, 187, 188, 189, 190, 191, 192, 193, 194, 195, 160, 161, 162, 163, 164, 165, 166, 167, 168, 169, 170, 171, 172] (by decide +kernel) (by decide +kernel)) (goodIn_sub (fun _ h => List.mem_cons_of_mem _ (List.mem_append_left _ (List.mem_append_right _ h))) (by decide +kernel))) (goodIn_sub (fun _ h => List.mem_cons_of_mem _ (List.mem_append_right _ h)) (by decide +kernel))
set_option maxRecDepth 20000 in
theorem gL_isFair_X3_order : GoodIn wsL_isFair (wsV RL 83 RX3 yX3_order wsX3_order) := goodIn_app (goodIn_of _ (by decide +kernel)) ggL_isFair_X3_order
set_option maxRecDepth 20000 in
theorem ggL_isFair_X3_place : GoodIn wsL_isFair wsX3_place := goodIn_ca (goodIn_r _ [149, 13, 51, 117, 118, 119, 9, 120, 78, 79, 18, 19, 20, 21, 22, 23, 80, 81, 82, 30, 31, 32, 33, 34, 35, 36, 37, 38, 39, 40, 41, 42, 43, 44, 45, 46, 150, 151, 152, 136, 153, 138, 154, 155, 134, 135, 137, 139, 140, 141, 3, 4, 5, 142, 143, 144, 145, 160, 161, 162, 163, 164, 165, 166, 167, 168, 169, 170, 171, 172, 182, 183, 184, 185, 186, 187, 188, 189, 190, 191, 192, 193, 194, 195] (by decide +kernel) (by decide +kernel)) (goodIn_sub (fun _ h => List.mem_cons_of_mem _ (List.mem_append_right _ h)) (by decide +kernel))
set_option maxRecDepth 20000 in
theorem gL_isFair_X3_place : GoodIn wsL_isFair (wsV RL 86 RX3 yX3_place wsX3_place) := goodIn_app (goodIn_of _ (by decide +kernel)) ggL_isFair_X3_place
set_option maxRecDepth 20000 in
theorem ggL_isFair_X3_voidWith : GoodIn wsL_isFair wsX3_voidWith := goodIn_ca (goodIn_r _ [159, 125, 117, 118, 119, 9, 120, 78, 79, 13, 51, 18, 19, 20, 21, 22, 23, 80, 81, 82, 30, 31, 32, 33, 34, 35, 36, 37, 38, 39, 40, 41, 42, 43, 44, 45, 46, 182, 183, 184, 185, 186, 187, 188, 189, 190, 191, 192, 193, 194, 195, 160, 161, 162, 163, 164, 165, 166, 167, 168, 169, 170, 171, 172] (by decide +kernel) (by decide +kernel)) (goodIn_sub (fun _ h => List.mem_cons_of_mem _ (List.mem_append_right _ h)) (by decide +kernel))
set_option maxRecDepth 20000 in
theorem gL_isFair_X3_voidWith : GoodIn wsL_isFair (wsV RL 89 RX3 yX3_voidWith wsX3_voidWith) := goodIn_app (goodIn_of _ (by decide +kernel)) ggL_isFair_X3_voidWith
theorem dL_isFair_0 : decode cL_isFair 0 = .ok (.aload_n 0, 1) := by decide +kernel
theorem dL_isFair_1 : decode cL_isFair 1 = .ok (.iconst 2, 1) := by decide +kernel
theorem dL_isFair_2 : decode cL_isFair 2 = .ok (.invokevirtual 29, 3) := by decide +kernel
theorem dL_isFair_5 : decode cL_isFair 5 = .ok (.istore_n 3, 1) := by decide +kernel
theorem dL_isFair_6 : decode cL_isFair 6 = .ok (.iload_n 1, 1) := by decide +kernel
theorem dL_isFair_7 : decode cL_isFair 7 = .ok (.newarray .int, 2) := by decide +kernel
theorem dL_isFair_9 : decode cL_isFair 9 = .ok (.astore 4, 2) := by decide +kernel
theorem dL_isFair_11 : decode cL_isFair 11 = .ok (.iconst 0, 1) := by decide +kernel
theorem dL_isFair_12 : decode cL_isFair 12 = .ok (.istore 5, 2) := by decide +kernel
theorem dL_isFair_14 : decode cL_isFair 14 = .ok (.iload 5, 2) := by decide +kernel
theorem dL_isFair_16 : decode cL_isFair 16 = .ok (.iload_n 3, 1) := by decide +kernel
theorem dL_isFair_17 : decode cL_isFair 17 = .ok (.if_icmp .ge 242, 3) := by decide +kernel
theorem dL_isFair_20 : decode cL_isFair 20 = .ok (.aload_n 0, 1) := by decide +kernel
theorem dL_isFair_21 : decode cL_isFair 21 = .ok (.iload 5, 2) := by decide +kernel
theorem dL_isFair_23 : decode cL_isFair 23 = .ok (.iconst 0, 1) := by decide +kernel
theorem dL_isFair_24 : decode cL_isFair 24 = .ok (.invokevirtual 57, 3) := by decide +kernel
theorem dL_isFair_27 : decode cL_isFair 27 = .ok (.istore 6, 2) := by decide +kernel
theorem dL_isFair_29 : decode cL_isFair 29 = .ok (.aload_n 0, 1) := by decide +kernel
theorem dL_isFair_30 : decode cL_isFair 30 = .ok (.iload 5, 2) := by decide +kernel
theorem dL_isFair_32 : decode cL_isFair 32 = .ok (.iconst 5, 1) := by decide +kernel
theorem dL_isFair_33 : decode cL_isFair 33 = .ok (.invokevirtual 57, 3) := by decide +kernel
theorem dL_isFair_36 : decode cL_isFair 36 = .ok (.istore 7, 2) := by decide +kernel
theorem dL_isFair_38 : decode cL_isFair 38 = .ok (.iload 6, 2) := by decide +kernel
theorem dL_isFair_40 : decode cL_isFair 40 = .ok (.iconst 1, 1) := by decide +kernel
theorem dL_isFair_41 : decode cL_isFair 41 = .ok (.if_icmp .ne 7, 3) := by decide +kernel
theorem dL_isFair_44 : decode cL_isFair 44 = .ok (.iconst 1, 1) := by decide +kernel
theorem dL_isFair_45 : decode cL_isFair 45 = .ok (.goto 4, 3) := by decide +kernel
theorem dL_isFair_48 : decode cL_isFair 48 = .ok (.iconst 0, 1) := by decide +kernel
theorem dL_isFair_49 : decode cL_isFair 49 = .ok (.aload_n 0, 1) := by decide +kernel
theorem dL_isFair_50 : decode cL_isFair 50 = .ok (.iload 5, 2) := by decide +kernel
theorem dL_isFair_52 : decode cL_isFair 52 = .ok (.bipush 6, 2) := by decide +kernel
theorem dL_isFair_54 : decode cL_isFair 54 = .ok (.invokevirtual 57, 3) := by decide +kernel
theorem dL_isFair_57 : decode cL_isFair 57 = .ok (.ifCond .lt 7, 3) := by decide +kernel
theorem dL_isFair_60 : decode cL_isFair 60 = .ok (.iconst 1, 1) := by decide +kernel
theorem dL_isFair_61 : decode cL_isFair 61 = .ok (.goto 4, 3) := by decide +kernel
theorem dL_isFair_64 : decode cL_isFair 64 = .ok (.iconst 0, 1) := by decide +kernel
theorem dL_isFair_65 : decode cL_isFair 65 = .ok (.if_icmp .ne 99, 3) := by decide +kernel
theorem dL_isFair_68 : decode cL_isFair 68 = .ok (.iload 6, 2) := by decide +kernel
theorem dL_isFair_70 : decode cL_isFair 70 = .ok (.iconst 2, 1) := by decide +kernel
theorem dL_isFair_71 : decode cL_isFair 71 = .ok (.if_icmp .ne 7, 3) := by decide +kernel
theorem dL_isFair_74 : decode cL_isFair 74 = .ok (.iconst 1, 1) := by decide +kernel
theorem dL_isFair_75 : decode cL_isFair 75 = .ok (.goto 4, 3) := by decide +kernel
theorem dL_isFair_78 : decode cL_isFair 78 = .ok (.iconst 0, 1) := by decide +kernel
theorem dL_isFair_79 : decode cL_isFair 79 = .ok (.iload 7, 2) := by decide +kernel
theorem dL_isFair_81 : decode cL_isFair 81 = .ok (.ifCond .lt 7, 3) := by decide +kernel
theorem dL_isFair_84 : decode cL_isFair 84 = .ok (.iconst 1, 1) := by decide +kernel
theorem dL_isFair_85 : decode cL_isFair 85 = .ok (.goto 4, 3) := by decide +kernel
theorem dL_isFair_88 : decode cL_isFair 88 = .ok (.iconst 0, 1) := by decide +kernel
theorem dL_isFair_89 : decode cL_isFair 89 = .ok (.if_icmp .ne 75, 3) := by decide +kernel
theorem dL_isFair_92 : decode cL_isFair 92 = .ok (.aload_n 0, 1) := by decide +kernel
theorem dL_isFair_93 : decode cL_isFair 93 = .ok (.iload 5, 2) := by decide +kernel
theorem dL_isFair_95 : decode cL_isFair 95 = .ok (.iconst 3, 1) := by decide +kernel
theorem dL_isFair_96 : decode cL_isFair 96 = .ok (.invokevirtual 57, 3) := by decide +kernel
theorem dL_isFair_99 : decode cL_isFair 99 = .ok (.aload_n 0, 1) := by decide +kernel
theorem dL_isFair_100 : decode cL_isFair 100 = .ok (.iload 5, 2) := by decide +kernel
theorem dL_isFair_102 : decode cL_isFair 102 = .ok (.iconst 4, 1) := by decide +kernel
theorem dL_isFair_103 : decode cL_isFair 103 = .ok (.invokevirtual 57, 3) := by decide +kernel
theorem dL_isFair_106 : decode cL_isFair 106 = .ok (.invokestatic 78, 3) := by decide +kernel
theorem dL_isFair_109 : decode cL_isFair 109 = .ok (.iload 5, 2) := by decide +kernel
theorem dL_isFair_111 : decode cL_isFair 111 = .ok (.iload_n 2, 1) := by decide +kernel
theorem dL_isFair_112 : decode cL_isFair 112 = .ok (.if_icmp .ge 7, 3) := by decide +kernel
theorem dL_isFair_115 : decode cL_isFair 115 = .ok (.iconst 5, 1) := by decide +kernel
theorem dL_isFair_116 : decode cL_isFair 116 = .ok (.goto 5, 3) := by decide +kernel
theorem dL_isFair_119 : decode cL_isFair 119 = .ok (.bipush 15, 2) := by decide +kernel
theorem dL_isFair_121 : decode cL_isFair 121 = .ok (.if_icmp .gt 43, 3) := by decide +kernel
theorem dL_isFair_124 : decode cL_isFair 124 = .ok (.iload 6, 2) := by decide +kernel
theorem dL_isFair_126 : decode cL_isFair 126 = .ok (.iconst 1, 1) := by decide +kernel
theorem dL_isFair_127 : decode cL_isFair 127 = .ok (.if_icmp .eq 23, 3) := by decide +kernel
theorem dL_isFair_130 : decode cL_isFair 130 = .ok (.aload_n 0, 1) := by decide +kernel
theorem dL_isFair_131 : decode cL_isFair 131 = .ok (.iload 5, 2) := by decide +kernel
theorem dL_isFair_133 : decode cL_isFair 133 = .ok (.bipush 7, 2) := by decide +kernel
theorem dL_isFair_135 : decode cL_isFair 135 = .ok (.invokevirtual 57, 3) := by decide +kernel
theorem dL_isFair_138 : decode cL_isFair 138 = .ok (.aload_n 0, 1) := by decide +kernel
theorem dL_isFair_139 : decode cL_isFair 139 = .ok (.iload 5, 2) := by decide +kernel
theorem dL_isFair_141 : decode cL_isFair 141 = .ok (.bipush 8, 2) := by decide +kernel
theorem dL_isFair_143 : decode cL_isFair 143 = .ok (.invokevirtual 57, 3) := by decide +kernel
theorem dL_isFair_146 : decode cL_isFair 146 = .ok (.iadd, 1) := by decide +kernel
theorem dL_isFair_147 : decode cL_isFair 147 = .ok (.ifCond .ne 17, 3) := by decide +kernel
theorem dL_isFair_150 : decode cL_isFair 150 = .ok (.aload_n 0, 1) := by decide +kernel
theorem dL_isFair_151 : decode cL_isFair 151 = .ok (.iload 5, 2) := by decide +kernel
theorem dL_isFair_153 : decode cL_isFair 153 = .ok (.bipush 7, 2) := by decide +kernel
theorem dL_isFair_155 : decode cL_isFair 155 = .ok (.invokevirtual 57, 3) := by decide +kernel
theorem dL_isFair_158 : decode cL_isFair 158 = .ok (.sipush 180, 3) := by decide +kernel
theorem dL_isFair_161 : decode cL_isFair 161 = .ok (.if_icmp .le 5, 3) := by decide +kernel
theorem dL_isFair_164 : decode cL_isFair 164 = .ok (.iconst 0, 1) := by decide +kernel
theorem dL_isFair_165 : decode cL_isFair 165 = .ok (.ireturn, 1) := by decide +kernel
theorem dL_isFair_166 : decode cL_isFair 166 = .ok (.iload 7, 2) := by decide +kernel
theorem dL_isFair_168 : decode cL_isFair 168 = .ok (.ifCond .lt 29, 3) := by decide +kernel
theorem dL_isFair_171 : decode cL_isFair 171 = .ok (.iload 7, 2) := by decide +kernel
theorem dL_isFair_173 : decode cL_isFair 173 = .ok (.aload_n 0, 1) := by decide +kernel
theorem dL_isFair_174 : decode cL_isFair 174 = .ok (.iload 5, 2) := by decide +kernel
theorem dL_isFair_176 : decode cL_isFair 176 = .ok (.iconst 1, 1) := by decide +kernel
theorem dL_isFair_177 : decode cL_isFair 177 = .ok (.invokevirtual 57, 3) := by decide +kernel
theorem dL_isFair_180 : decode cL_isFair 180 = .ok (.if_icmp .eq 17, 3) := by decide +kernel
theorem dL_isFair_183 : decode cL_isFair 183 = .ok (.iload 7, 2) := by decide +kernel
theorem dL_isFair_185 : decode cL_isFair 185 = .ok (.aload_n 0, 1) := by decide +kernel
theorem dL_isFair_186 : decode cL_isFair 186 = .ok (.iload 5, 2) := by decide +kernel
theorem dL_isFair_188 : decode cL_isFair 188 = .ok (.iconst 2, 1) := by decide +kernel
theorem dL_isFair_189 : decode cL_isFair 189 = .ok (.invokevirtual 57, 3) := by decide +kernel
theorem dL_isFair_192 : decode cL_isFair 192 = .ok (.if_icmp .eq 5, 3) := by decide +kernel
theorem dL_isFair_195 : decode cL_isFair 195 = .ok (.iconst 0, 1) := by decide +kernel
theorem dL_isFair_196 : decode cL_isFair 196 = .ok (.ireturn, 1) := by decide +kernel
theorem dL_isFair_197 : decode cL_isFair 197 = .ok (.iconst 1, 1) := by decide +kernel
theorem dL_isFair_198 : decode cL_isFair 198 = .ok (.istore 8, 2) := by decide +kernel
theorem dL_isFair_200 : decode cL_isFair 200 = .ok (.iload 6, 2) := by decide +kernel
theorem dL_isFair_202 : decode cL_isFair 202 = .ok (.iconst 1, 1) := by decide +kernel
theorem dL_isFair_203 : decode cL_isFair 203 = .ok (.if_icmp .ne 50, 3) := by decide +kernel
theorem dL_isFair_206 : decode cL_isFair 206 = .ok (.iload 8, 2) := by decide +kernel
theorem dL_isFair_208 : decode cL_isFair 208 = .ok (.iconst 3, 1) := by decide +kernel
theorem dL_isFair_209 : decode cL_isFair 209 = .ok (.if_icmp .ge 44, 3) := by decide +kernel
theorem dL_isFair_212 : decode cL_isFair 212 = .ok (.aload 4, 2) := by decide +kernel
theorem dL_isFair_214 : decode cL_isFair 214 = .ok (.aload_n 0, 1) := by decide +kernel
theorem dL_isFair_215 : decode cL_isFair 215 = .ok (.iload 5, 2) := by decide +kernel
theorem dL_isFair_217 : decode cL_isFair 217 = .ok (.iload 8, 2) := by decide +kernel
theorem dL_isFair_219 : decode cL_isFair 219 = .ok (.invokevirtual 57, 3) := by decide +kernel
theorem dL_isFair_222 : decode cL_isFair 222 = .ok (.dup2, 1) := by decide +kernel
theorem dL_isFair_223 : decode cL_isFair 223 = .ok (.iaload, 1) := by decide +kernel
theorem dL_isFair_224 : decode cL_isFair 224 = .ok (.iconst 1, 1) := by decide +kernel
theorem dL_isFair_225 : decode cL_isFair 225 = .ok (.iadd, 1) := by decide +kernel
theorem dL_isFair_226 : decode cL_isFair 226 = .ok (.iastore, 1) := by decide +kernel
theorem dL_isFair_227 : decode cL_isFair 227 = .ok (.aload_n 0, 1) := by decide +kernel
theorem dL_isFair_228 : decode cL_isFair 228 = .ok (.aload_n 0, 1) := by decide +kernel
theorem dL_isFair_229 : decode cL_isFair 229 = .ok (.iload 5, 2) := by decide +kernel
theorem dL_isFair_231 : decode cL_isFair 231 = .ok (.iload 8, 2) := by decide +kernel
theorem dL_isFair_233 : decode cL_isFair 233 = .ok (.invokevirtual 57, 3) := by decide +kernel
theorem dL_isFair_236 : decode cL_isFair 236 = .ok (.iconst 5, 1) := by decide +kernel
theorem dL_isFair_237 : decode cL_isFair 237 = .ok (.invokevirtual 71, 3) := by decide +kernel
theorem dL_isFair_240 : decode cL_isFair 240 = .ok (.iload 5, 2) := by decide +kernel
theorem dL_isFair_242 : decode cL_isFair 242 = .ok (.if_icmp .eq 5, 3) := by decide +kernel
theorem dL_isFair_245 : decode cL_isFair 245 = .ok (.iconst 0, 1) := by decide +kernel
theorem dL_isFair_246 : decode cL_isFair 246 = .ok (.ireturn, 1) := by decide +kernel
theorem dL_isFair_247 : decode cL_isFair 247 = .ok (.iinc 8 1, 3) := by decide +kernel
theorem dL_isFair_250 : decode cL_isFair 250 = .ok (.goto (-50), 3) := by decide +kernel
theorem dL_isFair_253 : decode cL_isFair 253 = .ok (.iinc 5 1, 3) := by decide +kernel
theorem dL_isFair_256 : decode cL_isFair 256 = .ok (.goto (-242), 3) := by decide +kernel
theorem dL_isFair_259 : decode cL_isFair 259 = .ok (.iload_n 2, 1) := by decide +kernel
theorem dL_isFair_260 : decode cL_isFair 260 = .ok (.istore 5, 2) := by decide +kernel
theorem dL_isFair_262 : decode cL_isFair 262 = .ok (.aload_n 0, 1) := by decide +kernel
theorem dL_isFair_263 : decode cL_isFair 263 = .ok (.bipush 9, 2) := by decide +kernel
theorem dL_isFair_265 : decode cL_isFair 265 = .ok (.invokevirtual 29, 3) := by decide +kernel
theorem dL_isFair_268 : decode cL_isFair 268 = .ok (.iconst 2, 1) := by decide +kernel
theorem dL_isFair_269 : decode cL_isFair 269 = .ok (.idiv, 1) := by decide +kernel
theorem dL_isFair_270 : decode cL_isFair 270 = .ok (.istore 6, 2) := by decide +kernel
theorem dL_isFair_272 : decode cL_isFair 272 = .ok (.iload 6, 2) := by decide +kernel
theorem dL_isFair_274 : decode cL_isFair 274 = .ok (.iconst 1, 1) := by decide +kernel
theorem dL_isFair_275 : decode cL_isFair 275 = .ok (.if_icmp .le 70, 3) := by decide +kernel
theorem dL_isFair_278 : decode cL_isFair 278 = .ok (.iconst 0, 1) := by decide +kernel
theorem dL_isFair_279 : decode cL_isFair 279 = .ok (.istore 7, 2) := by decide +kernel
theorem dL_isFair_281 : decode cL_isFair 281 = .ok (.iload 7, 2) := by decide +kernel
theorem dL_isFair_283 : decode cL_isFair 283 = .ok (.iload 6, 2) := by decide +kernel
theorem dL_isFair_285 : decode cL_isFair 285 = .ok (.if_icmp .ge 44, 3) := by decide +kernel
theorem dL_isFair_288 : decode cL_isFair 288 = .ok (.aload_n 0, 1) := by decide +kernel
theorem dL_isFair_289 : decode cL_isFair 289 = .ok (.iload 5, 2) := by decide +kernel
theorem dL_isFair_291 : decode cL_isFair 291 = .ok (.iload 6, 2) := by decide +kernel
theorem dL_isFair_293 : decode cL_isFair 293 = .ok (.iadd, 1) := by decide +kernel
theorem dL_isFair_294 : decode cL_isFair 294 = .ok (.iload 7, 2) := by decide +kernel
theorem dL_isFair_296 : decode cL_isFair 296 = .ok (.iconst 2, 1) := by decide +kernel
theorem dL_isFair_297 : decode cL_isFair 297 = .ok (.idiv, 1) := by decide +kernel
theorem dL_isFair_298 : decode cL_isFair 298 = .ok (.iadd, 1) := by decide +kernel
theorem dL_isFair_299 : decode cL_isFair 299 = .ok (.iconst 1, 1) := by decide +kernel
theorem dL_isFair_300 : decode cL_isFair 300 = .ok (.iload 7, 2) := by decide +kernel
theorem dL_isFair_302 : decode cL_isFair 302 = .ok (.iconst 2, 1) := by decide +kernel
theorem dL_isFair_303 : decode cL_isFair 303 = .ok (.irem, 1) := by decide +kernel
theorem dL_isFair_304 : decode cL_isFair 304 = .ok (.iadd, 1) := by decide +kernel
theorem dL_isFair_305 : decode cL_isFair 305 = .ok (.invokevirtual 57, 3) := by decide +kernel
theorem dL_isFair_308 : decode cL_isFair 308 = .ok (.aload_n 0, 1) := by decide +kernel
theorem dL_isFair_309 : decode cL_isFair 309 = .ok (.iload 5, 2) := by decide +kernel
theorem dL_isFair_311 : decode cL_isFair 311 = .ok (.iload 7, 2) := by decide +kernel
theorem dL_isFair_313 : decode cL_isFair 313 = .ok (.iadd, 1) := by decide +kernel
theorem dL_isFair_314 : decode cL_isFair 314 = .ok (.iconst 5, 1) := by decide +kernel
theorem dL_isFair_315 : decode cL_isFair 315 = .ok (.invokevirtual 57, 3) := by decide +kernel
theorem dL_isFair_318 : decode cL_isFair 318 = .ok (.if_icmp .eq 5, 3) := by decide +kernel
theorem dL_isFair_321 : decode cL_isFair 321 = .ok (.iconst 0, 1) := by decide +kernel
theorem dL_isFair_322 : decode cL_isFair 322 = .ok (.ireturn, 1) := by decide +kernel
theorem dL_isFair_323 : decode cL_isFair 323 = .ok (.iinc 7 1, 3) := by decide +kernel
theorem dL_isFair_326 : decode cL_isFair 326 = .ok (.goto (-45), 3) := by decide +kernel
theorem dL_isFair_329 : decode cL_isFair 329 = .ok (.iload 5, 2) := by decide +kernel
theorem dL_isFair_331 : decode cL_isFair 331 = .ok (.iload 6, 2) := by decide +kernel
theorem dL_isFair_333 : decode cL_isFair 333 = .ok (.iadd, 1) := by decide +kernel
theorem dL_isFair_334 : decode cL_isFair 334 = .ok (.istore 5, 2) := by decide +kernel
theorem dL_isFair_336 : decode cL_isFair 336 = .ok (.iload 6, 2) := by decide +kernel
theorem dL_isFair_338 : decode cL_isFair 338 = .ok (.iconst 2, 1) := by decide +kernel
theorem dL_isFair_339 : decode cL_isFair 339 = .ok (.idiv, 1) := by decide +kernel
theorem dL_isFair_340 : decode cL_isFair 340 = .ok (.istore 6, 2) := by decide +kernel
theorem dL_isFair_342 : decode cL_isFair 342 = .ok (.goto (-70), 3) := by decide +kernel
theorem dL_isFair_345 : decode cL_isFair 345 = .ok (.iconst 0, 1) := by decide +kernel
theorem dL_isFair_346 : decode cL_isFair 346 = .ok (.istore 6, 2) := by decide +kernel
theorem dL_isFair_348 : decode cL_isFair 348 = .ok (.iconst 0, 1) := by decide +kernel
theorem dL_isFair_349 : decode cL_isFair 349 = .ok (.istore 7, 2) := by decide +kernel
theorem dL_isFair_351 : decode cL_isFair 351 = .ok (.iconst 0, 1) := by decide +kernel
theorem dL_isFair_352 : decode cL_isFair 352 = .ok (.istore 8, 2) := by decide +kernel
theorem dL_isFair_354 : decode cL_isFair 354 = .ok (.iload 8, 2) := by decide +kernel
theorem dL_isFair_356 : decode cL_isFair 356 = .ok (.iload_n 1, 1) := by decide +kernel
theorem dL_isFair_357 : decode cL_isFair 357 = .ok (.if_icmp .ge 179, 3) := by decide +kernel
theorem dL_isFair_360 : decode cL_isFair 360 = .ok (.aload 4, 2) := by decide +kernel
theorem dL_isFair_362 : decode cL_isFair 362 = .ok (.iload 8, 2) := by decide +kernel
theorem dL_isFair_364 : decode cL_isFair 364 = .ok (.iaload, 1) := by decide +kernel
theorem dL_isFair_365 : decode cL_isFair 365 = .ok (.iconst 1, 1) := by decide +kernel
theorem dL_isFair_366 : decode cL_isFair 366 = .ok (.if_icmp .gt 34, 3) := by decide +kernel
theorem dL_isFair_369 : decode cL_isFair 369 = .ok (.aload 4, 2) := by decide +kernel
theorem dL_isFair_371 : decode cL_isFair 371 = .ok (.iload 8, 2) := by decide +kernel
theorem dL_isFair_373 : decode cL_isFair 373 = .ok (.iaload, 1) := by decide +kernel
theorem dL_isFair_374 : decode cL_isFair 374 = .ok (.ifCond .ne 7, 3) := by decide +kernel
theorem dL_isFair_377 : decode cL_isFair 377 = .ok (.iconst 1, 1) := by decide +kernel
theorem dL_isFair_378 : decode cL_isFair 378 = .ok (.goto 4, 3) := by decide +kernel
theorem dL_isFair_381 : decode cL_isFair 381 = .ok (.iconst 0, 1) := by decide +kernel
theorem dL_isFair_382 : decode cL_isFair 382 = .ok (.aload_n 0, 1) := by decide +kernel
theorem dL_isFair_383 : decode cL_isFair 383 = .ok (.iload 8, 2) := by decide +kernel
theorem dL_isFair_385 : decode cL_isFair 385 = .ok (.iconst 5, 1) := by decide +kernel
theorem dL_isFair_386 : decode cL_isFair 386 = .ok (.invokevirtual 71, 3) := by decide +kernel
theorem dL_isFair_389 : decode cL_isFair 389 = .ok (.ifCond .ge 7, 3) := by decide +kernel
theorem dL_isFair_392 : decode cL_isFair 392 = .ok (.iconst 1, 1) := by decide +kernel
theorem dL_isFair_393 : decode cL_isFair 393 = .ok (.goto 4, 3) := by decide +kernel
theorem dL_isFair_396 : decode cL_isFair 396 = .ok (.iconst 0, 1) := by decide +kernel
theorem dL_isFair_397 : decode cL_isFair 397 = .ok (.if_icmp .eq 5, 3) := by decide +kernel
theorem dL_isFair_400 : decode cL_isFair 400 = .ok (.iconst 0, 1) := by decide +kernel
theorem dL_isFair_401 : decode cL_isFair 401 = .ok (.ireturn, 1) := by decide +kernel
theorem dL_isFair_402 : decode cL_isFair 402 = .ok (.iload 6, 2) := by decide +kernel
theorem dL_isFair_404 : decode cL_isFair 404 = .ok (.iconst 1, 1) := by decide +kernel
theorem dL_isFair_405 : decode cL_isFair 405 = .ok (.aload_n 0, 1) := by decide +kernel
theorem dL_isFair_406 : decode cL_isFair 406 = .ok (.iload 8, 2) := by decide +kernel
theorem dL_isFair_408 : decode cL_isFair 408 = .ok (.iconst 4, 1) := by decide +kernel
theorem dL_isFair_409 : decode cL_isFair 409 = .ok (.invokevirtual 83, 3) := by decide +kernel
theorem dL_isFair_412 : decode cL_isFair 412 = .ok (.ishl, 1) := by decide +kernel
theorem dL_isFair_413 : decode cL_isFair 413 = .ok (.ior, 1) := by decide +kernel
theorem dL_isFair_414 : decode cL_isFair 414 = .ok (.istore 6, 2) := by decide +kernel
theorem dL_isFair_416 : decode cL_isFair 416 = .ok (.iload 7, 2) := by decide +kernel
theorem dL_isFair_418 : decode cL_isFair 418 = .ok (.iconst 1, 1) := by decide +kernel
theorem dL_isFair_419 : decode cL_isFair 419 = .ok (.aload_n 0, 1) := by decide +kernel
theorem dL_isFair_420 : decode cL_isFair 420 = .ok (.iload 8, 2) := by decide +kernel
theorem dL_isFair_422 : decode cL_isFair 422 = .ok (.invokevirtual 86, 3) := by decide +kernel
theorem dL_isFair_425 : decode cL_isFair 425 = .ok (.ishl, 1) := by decide +kernel
theorem dL_isFair_426 : decode cL_isFair 426 = .ok (.ior, 1) := by decide +kernel
theorem dL_isFair_427 : decode cL_isFair 427 = .ok (.istore 7, 2) := by decide +kernel
theorem dL_isFair_429 : decode cL_isFair 429 = .ok (.aload_n 0, 1) := by decide +kernel
theorem dL_isFair_430 : decode cL_isFair 430 = .ok (.iload 8, 2) := by decide +kernel
theorem dL_isFair_432 : decode cL_isFair 432 = .ok (.iconst 1, 1) := by decide +kernel
theorem dL_isFair_433 : decode cL_isFair 433 = .ok (.invokevirtual 83, 3) := by decide +kernel
theorem dL_isFair_436 : decode cL_isFair 436 = .ok (.aload_n 0, 1) := by decide +kernel
theorem dL_isFair_437 : decode cL_isFair 437 = .ok (.iload 8, 2) := by decide +kernel
theorem dL_isFair_439 : decode cL_isFair 439 = .ok (.iconst 0, 1) := by decide +kernel
theorem dL_isFair_440 : decode cL_isFair 440 = .ok (.invokevirtual 83, 3) := by decide +kernel
theorem dL_isFair_443 : decode cL_isFair 443 = .ok (.if_icmp .gt 19, 3) := by decide +kernel
theorem dL_isFair_446 : decode cL_isFair 446 = .ok (.aload_n 0, 1) := by decide +kernel
theorem dL_isFair_447 : decode cL_isFair 447 = .ok (.iload 8, 2) := by decide +kernel
theorem dL_isFair_449 : decode cL_isFair 449 = .ok (.invokevirtual 89, 3) := by decide +kernel
theorem dL_isFair_452 : decode cL_isFair 452 = .ok (.aload_n 0, 1) := by decide +kernel
theorem dL_isFair_453 : decode cL_isFair 453 = .ok (.iload 8, 2) := by decide +kernel
theorem dL_isFair_455 : decode cL_isFair 455 = .ok (.iconst 0, 1) := by decide +kernel
theorem dL_isFair_456 : decode cL_isFair 456 = .ok (.invokevirtual 83, 3) := by decide +kernel
theorem dL_isFair_459 : decode cL_isFair 459 = .ok (.if_icmp .eq 5, 3) := by decide +kernel
theorem dL_isFair_462 : decode cL_isFair 462 = .ok (.iconst 0, 1) := by decide +kernel
theorem dL_isFair_463 : decode cL_isFair 463 = .ok (.ireturn, 1) := by decide +kernel
theorem dL_isFair_464 : decode cL_isFair 464 = .ok (.iconst 0, 1) := by decide +kernel
theorem dL_isFair_465 : decode cL_isFair 465 = .ok (.istore 9, 2) := by decide +kernel
theorem dL_isFair_467 : decode cL_isFair 467 = .ok (.iload 9, 2) := by decide +kernel
theorem dL_isFair_469 : decode cL_isFair 469 = .ok (.iload_n 1, 1) := by decide +kernel
theorem dL_isFair_470 : decode cL_isFair 470 = .ok (.if_icmp .ge 60, 3) := by decide +kernel
theorem dL_isFair_473 : decode cL_isFair 473 = .ok (.aload_n 0, 1) := by decide +kernel
theorem dL_isFair_474 : decode cL_isFair 474 = .ok (.iload 8, 2) := by decide +kernel
theorem dL_isFair_476 : decode cL_isFair 476 = .ok (.iconst 4, 1) := by decide +kernel
theorem dL_isFair_477 : decode cL_isFair 477 = .ok (.invokevirtual 71, 3) := by decide +kernel
theorem dL_isFair_480 : decode cL_isFair 480 = .ok (.aload_n 0, 1) := by decide +kernel
theorem dL_isFair_481 : decode cL_isFair 481 = .ok (.iload 9, 2) := by decide +kernel
theorem dL_isFair_483 : decode cL_isFair 483 = .ok (.iconst 4, 1) := by decide +kernel
theorem dL_isFair_484 : decode cL_isFair 484 = .ok (.invokevirtual 71, 3) := by decide +kernel
theorem dL_isFair_487 : decode cL_isFair 487 = .ok (.if_icmp .ge 37, 3) := by decide +kernel
theorem dL_isFair_490 : decode cL_isFair 490 = .ok (.aload_n 0, 1) := by decide +kernel
theorem dL_isFair_491 : decode cL_isFair 491 = .ok (.iload 8, 2) := by decide +kernel
theorem dL_isFair_493 : decode cL_isFair 493 = .ok (.iconst 4, 1) := by decide +kernel
theorem dL_isFair_494 : decode cL_isFair 494 = .ok (.invokevirtual 83, 3) := by decide +kernel
theorem dL_isFair_497 : decode cL_isFair 497 = .ok (.aload_n 0, 1) := by decide +kernel
theorem dL_isFair_498 : decode cL_isFair 498 = .ok (.iload 9, 2) := by decide +kernel
theorem dL_isFair_500 : decode cL_isFair 500 = .ok (.iconst 4, 1) := by decide +kernel
theorem dL_isFair_501 : decode cL_isFair 501 = .ok (.invokevirtual 83, 3) := by decide +kernel
theorem dL_isFair_504 : decode cL_isFair 504 = .ok (.if_icmp .gt 18, 3) := by decide +kernel
theorem dL_isFair_507 : decode cL_isFair 507 = .ok (.aload_n 0, 1) := by decide +kernel
theorem dL_isFair_508 : decode cL_isFair 508 = .ok (.iload 8, 2) := by decide +kernel
theorem dL_isFair_510 : decode cL_isFair 510 = .ok (.invokevirtual 86, 3) := by decide +kernel
theorem dL_isFair_513 : decode cL_isFair 513 = .ok (.aload_n 0, 1) := by decide +kernel
theorem dL_isFair_514 : decode cL_isFair 514 = .ok (.iload 9, 2) := by decide +kernel
theorem dL_isFair_516 : decode cL_isFair 516 = .ok (.invokevirtual 86, 3) := by decide +kernel
theorem dL_isFair_519 : decode cL_isFair 519 = .ok (.if_icmp .le 5, 3) := by decide +kernel
theorem dL_isFair_522 : decode cL_isFair 522 = .ok (.iconst 0, 1) := by decide +kernel
theorem dL_isFair_523 : decode cL_isFair 523 = .ok (.ireturn, 1) := by decide +kernel
theorem dL_isFair_524 : decode cL_isFair 524 = .ok (.iinc 9 1, 3) := by decide +kernel
theorem dL_isFair_527 : decode cL_isFair 527 = .ok (.goto (-60), 3) := by decide +kernel
theorem dL_isFair_530 : decode cL_isFair 530 = .ok (.iinc 8 1, 3) := by decide +kernel
theorem dL_isFair_533 : decode cL_isFair 533 = .ok (.goto (-179), 3) := by decide +kernel
theorem dL_isFair_536 : decode cL_isFair 536 = .ok (.iload 6, 2) := by decide +kernel
theorem dL_isFair_538 : decode cL_isFair 538 = .ok (.iconst 1, 1) := by decide +kernel
theorem dL_isFair_539 : decode cL_isFair 539 = .ok (.iload_n 1, 1) := by decide +kernel
theorem dL_isFair_540 : decode cL_isFair 540 = .ok (.ishl, 1) := by decide +kernel
theorem dL_isFair_541 : decode cL_isFair 541 = .ok (.iconst 1, 1) := by decide +kernel
theorem dL_isFair_542 : decode cL_isFair 542 = .ok (.isub, 1) := by decide +kernel
theorem dL_isFair_543 : decode cL_isFair 543 = .ok (.if_icmp .ne 42, 3) := by decide +kernel
theorem dL_isFair_546 : decode cL_isFair 546 = .ok (.iload 7, 2) := by decide +kernel
theorem dL_isFair_548 : decode cL_isFair 548 = .ok (.iload 6, 2) := by decide +kernel
theorem dL_isFair_550 : decode cL_isFair 550 = .ok (.if_icmp .ne 35, 3) := by decide +kernel
theorem dL_isFair_553 : decode cL_isFair 553 = .ok (.aload_n 0, 1) := by decide +kernel
theorem dL_isFair_554 : decode cL_isFair 554 = .ok (.iconst 3, 1) := by decide +kernel
theorem dL_isFair_555 : decode cL_isFair 555 = .ok (.invokevirtual 29, 3) := by decide +kernel
theorem dL_isFair_558 : decode cL_isFair 558 = .ok (.aload_n 0, 1) := by decide +kernel
theorem dL_isFair_559 : decode cL_isFair 559 = .ok (.iconst 4, 1) := by decide +kernel
theorem dL_isFair_560 : decode cL_isFair 560 = .ok (.invokevirtual 29, 3) := by decide +kernel
theorem dL_isFair_563 : decode cL_isFair 563 = .ok (.iadd, 1) := by decide +kernel
theorem dL_isFair_564 : decode cL_isFair 564 = .ok (.aload_n 0, 1) := by decide +kernel
theorem dL_isFair_565 : decode cL_isFair 565 = .ok (.iconst 5, 1) := by decide +kernel
theorem dL_isFair_566 : decode cL_isFair 566 = .ok (.invokevirtual 29, 3) := by decide +kernel
theorem dL_isFair_569 : decode cL_isFair 569 = .ok (.iadd, 1) := by decide +kernel
theorem dL_isFair_570 : decode cL_isFair 570 = .ok (.aload_n 0, 1) := by decide +kernel
theorem dL_isFair_571 : decode cL_isFair 571 = .ok (.bipush 6, 2) := by decide +kernel
theorem dL_isFair_573 : decode cL_isFair 573 = .ok (.invokevirtual 29, 3) := by decide +kernel
theorem dL_isFair_576 : decode cL_isFair 576 = .ok (.iadd, 1) := by decide +kernel
theorem dL_isFair_577 : decode cL_isFair 577 = .ok (.iload_n 3, 1) := by decide +kernel
theorem dL_isFair_578 : decode cL_isFair 578 = .ok (.if_icmp .ne 7, 3) := by decide +kernel
theorem dL_isFair_581 : decode cL_isFair 581 = .ok (.iconst 1, 1) := by decide +kernel
theorem dL_isFair_582 : decode cL_isFair 582 = .ok (.goto 4, 3) := by decide +kernel
theorem dL_isFair_585 : decode cL_isFair 585 = .ok (.iconst 0, 1) := by decide +kernel
theorem dL_isFair_586 : decode cL_isFair 586 = .ok (.ireturn, 1) := by decide +kernel
abbrev vwCl : List vw_C := [(RJx4a65c, TJx4a65c, 3), (RX0, TX0, 9), (RX1, TX1, 14), (RX2, TX2, 3), (RX3, TX3, 10)]
/-! (the printed pool, which would declare its own kinds, is left out: rounds refuse it) -/



set_option maxRecDepth 20000 in
theorem ggL_isHandSo_X2_pot : GoodIn wsL_isHandSo wsX2_pot := goodIn_ca (goodIn_ca (goodIn_r _ [5, 6, 7, 8, 9, 4, 10, 11, 12, 13, 14, 15, 16, 17, 18, 19, 20, 21, 22, 23, 24, 25, 26, 27, 28, 29, 30, 31, 32, 33, 34, 35, 36, 123, 124, 125, 126, 127, 128, 129, 130, 131] (by decide +kernel) (by decide +kernel)) (goodIn_sub (fun _ h => List.mem_cons_of_mem _ (List.mem_append_left _ (List.mem_append_left _ (List.mem_append_right _ h)))) (by decide +kernel))) (goodIn_sub (fun _ h => List.mem_cons_of_mem _ (List.mem_append_left _ (List.mem_append_right _ h))) (by decide +kernel))
set_option maxRecDepth 20000 in
theorem gL_isHandSo_X2_pot : GoodIn wsL_isHandSo (wsV RL 63 RX2 yX2_pot wsX2_pot) := goodIn_app (goodIn_of _ (by decide +kernel)) ggL_isHandSo_X2_pot
set_option maxRecDepth 20000 in
theorem ggL_isHandSo_X2_guest : GoodIn wsL_isHandSo wsX2_guest := goodIn_ca (goodIn_ca (goodIn_r _ [40, 6, 7, 41, 42, 4, 43, 11, 12, 13, 14, 15, 16, 17, 44, 45, 46, 21, 47, 23, 123, 124, 125, 126, 127, 128, 129, 130, 131] (by decide +kernel) (by decide +kernel)) (goodIn_sub (fun _ h => List.mem_cons_of_mem _ (List.mem_append_left _ (List.mem_append_left _ (List.mem_append_right _ h)))) (by decide +kernel))) (goodIn_sub (fun _ h => List.mem_cons_of_mem _ (List.mem_append_left _ (List.mem_append_right _ h))) (by decide +kernel))
set_option maxRecDepth 20000 in
theorem gL_isHandSo_X2_guest : GoodIn wsL_isHandSo (wsV RL 60 RX2 yX2_guest wsX2_guest) := goodIn_app (goodIn_of _ (by decide +kernel)) ggL_isHandSo_X2_guest
set_option maxRecDepth 20000 in
theorem ggL_isHandSo_X2_emptyIn : GoodIn wsL_isHandSo wsX2_emptyIn := goodIn_ca (goodIn_r _ [51, 52, 6, 7, 8, 9, 4, 10, 11, 12, 53, 54, 55, 21, 56, 23, 57, 58, 59, 60, 61, 62, 63, 64, 65, 30, 31, 32, 33, 34, 35, 36, 66, 67, 68, 69, 70, 71, 72, 73, 74, 75, 76, 77, 78, 25, 26, 27, 28, 19, 20, 22, 79, 80, 81, 82, 83, 84, 85, 86, 87, 88, 89, 90, 91, 92, 93, 94, 95, 96, 97, 98, 99, 100, 123, 124, 125, 126, 127, 128, 129, 130, 131] (by decide +kernel) (by decide +kernel)) (goodIn_sub (fun _ h => List.mem_cons_of_mem _ (List.mem_append_left _ (List.mem_append_left _ (List.mem_append_right _ h)))) (by decide +kernel))
set_option maxRecDepth 20000 in
theorem gL_isHandSo_X2_emptyIn : GoodIn wsL_isHandSo (wsV RL 87 RX2 yX2_emptyIn wsX2_emptyIn) := goodIn_app (goodIn_of _ (by decide +kernel)) ggL_isHandSo_X2_emptyIn
set_option maxRecDepth 20000 in
theorem ggL_isHandSo_X2_hand : GoodIn wsL_isHandSo wsX2_hand := goodIn_ca (goodIn_ca (goodIn_r _ [104, 6, 8, 9, 4, 10, 11, 12, 13, 14, 15, 16, 17, 105, 106, 107, 108, 109, 110, 111, 53, 54, 55, 21, 56, 23, 57, 58, 59, 60, 112, 87, 88, 89, 90, 91, 72, 92, 70, 71, 73, 78, 25, 26, 27, 28, 19, 20, 22, 123, 124, 125, 126, 127, 128, 129, 130, 131] (by decide +kernel) (by decide +kernel)) (goodIn_sub (fun _ h => List.mem_cons_of_mem _ (List.mem_append_left _ (List.mem_append_left _ (List.mem_append_right _ h)))) (by decide +kernel))) (goodIn_sub (fun _ h => List.mem_cons_of_mem _ (List.mem_append_left _ (List.mem_append_right _ h))) (by decide +kernel))
set_option maxRecDepth 20000 in
theorem gL_isHandSo_X2_hand : GoodIn wsL_isHandSo (wsV RL 18 RX2 yX2_hand wsX2_hand) := goodIn_app (goodIn_of _ (by decide +kernel)) ggL_isHandSo_X2_hand
set_option maxRecDepth 20000 in
theorem ggL_isHandSo_X2_told : GoodIn wsL_isHandSo wsX2_told := goodIn_ca (goodIn_r _ [116, 6, 7, 8, 9, 4, 10, 11, 12, 41, 42, 43, 123, 124, 125, 126, 127, 128, 129, 130, 131] (by decide +kernel) (by decide +kernel)) (goodIn_sub (fun _ h => List.mem_cons_of_mem _ (List.mem_append_left _ (List.mem_append_left _ (List.mem_append_right _ h)))) (by decide +kernel))
set_option maxRecDepth 20000 in
theorem gL_isHandSo_X2_told : GoodIn wsL_isHandSo (wsV RL 66 RX2 yX2_told wsX2_told) := goodIn_app (goodIn_of _ (by decide +kernel)) ggL_isHandSo_X2_told
set_option maxRecDepth 20000 in
theorem ggL_isHandSo_X2_undo : GoodIn wsL_isHandSo wsX2_undo := goodIn_ca (goodIn_r _ [120, 121, 122, 109, 6, 111, 110, 53, 54, 55, 21, 56, 23, 57, 58, 59, 60, 123, 124, 125, 126, 127, 128, 129, 130, 131] (by decide +kernel) (by decide +kernel)) (goodIn_sub (fun _ h => List.mem_cons_of_mem _ (List.mem_append_right _ h)) (by decide +kernel))
set_option maxRecDepth 20000 in
theorem gL_isHandSo_X2_undo : GoodIn wsL_isHandSo (wsV RL 83 RX2 yX2_undo wsX2_undo) := goodIn_app (goodIn_of _ (by decide +kernel)) ggL_isHandSo_X2_undo
theorem dL_isHandSo_0 : decode cL_isHandSo 0 = .ok (.aload_n 0, 1) := by decide +kernel
theorem dL_isHandSo_1 : decode cL_isHandSo 1 = .ok (.iload_n 1, 1) := by decide +kernel
theorem dL_isHandSo_2 : decode cL_isHandSo 2 = .ok (.iconst 0, 1) := by decide +kernel
theorem dL_isHandSo_3 : decode cL_isHandSo 3 = .ok (.invokevirtual 63, 3) := by decide +kernel
theorem dL_isHandSo_6 : decode cL_isHandSo 6 = .ok (.istore_n 3, 1) := by decide +kernel
theorem dL_isHandSo_7 : decode cL_isHandSo 7 = .ok (.aload_n 0, 1) := by decide +kernel
theorem dL_isHandSo_8 : decode cL_isHandSo 8 = .ok (.iload_n 1, 1) := by decide +kernel
theorem dL_isHandSo_9 : decode cL_isHandSo 9 = .ok (.iconst 4, 1) := by decide +kernel
theorem dL_isHandSo_10 : decode cL_isHandSo 10 = .ok (.invokevirtual 63, 3) := by decide +kernel
theorem dL_isHandSo_13 : decode cL_isHandSo 13 = .ok (.aload_n 0, 1) := by decide +kernel
theorem dL_isHandSo_14 : decode cL_isHandSo 14 = .ok (.iload_n 3, 1) := by decide +kernel
theorem dL_isHandSo_15 : decode cL_isHandSo 15 = .ok (.iconst 4, 1) := by decide +kernel
theorem dL_isHandSo_16 : decode cL_isHandSo 16 = .ok (.invokevirtual 60, 3) := by decide +kernel
theorem dL_isHandSo_19 : decode cL_isHandSo 19 = .ok (.iadd, 1) := by decide +kernel
theorem dL_isHandSo_20 : decode cL_isHandSo 20 = .ok (.istore 4, 2) := by decide +kernel
theorem dL_isHandSo_22 : decode cL_isHandSo 22 = .ok (.iload 4, 2) := by decide +kernel
theorem dL_isHandSo_24 : decode cL_isHandSo 24 = .ok (.ifCond .ge 7, 3) := by decide +kernel
theorem dL_isHandSo_27 : decode cL_isHandSo 27 = .ok (.iconst 0, 1) := by decide +kernel
theorem dL_isHandSo_28 : decode cL_isHandSo 28 = .ok (.goto 19, 3) := by decide +kernel
theorem dL_isHandSo_31 : decode cL_isHandSo 31 = .ok (.iload 4, 2) := by decide +kernel
theorem dL_isHandSo_33 : decode cL_isHandSo 33 = .ok (.sipush 200, 3) := by decide +kernel
theorem dL_isHandSo_36 : decode cL_isHandSo 36 = .ok (.if_icmp .le 9, 3) := by decide +kernel
theorem dL_isHandSo_39 : decode cL_isHandSo 39 = .ok (.sipush 200, 3) := by decide +kernel
theorem dL_isHandSo_42 : decode cL_isHandSo 42 = .ok (.goto 5, 3) := by decide +kernel
theorem dL_isHandSo_45 : decode cL_isHandSo 45 = .ok (.iload 4, 2) := by decide +kernel
theorem dL_isHandSo_47 : decode cL_isHandSo 47 = .ok (.istore 4, 2) := by decide +kernel
theorem dL_isHandSo_49 : decode cL_isHandSo 49 = .ok (.aload_n 0, 1) := by decide +kernel
theorem dL_isHandSo_50 : decode cL_isHandSo 50 = .ok (.iload_n 1, 1) := by decide +kernel
theorem dL_isHandSo_51 : decode cL_isHandSo 51 = .ok (.bipush 7, 2) := by decide +kernel
theorem dL_isHandSo_53 : decode cL_isHandSo 53 = .ok (.invokevirtual 63, 3) := by decide +kernel
theorem dL_isHandSo_56 : decode cL_isHandSo 56 = .ok (.istore 5, 2) := by decide +kernel
theorem dL_isHandSo_58 : decode cL_isHandSo 58 = .ok (.aload_n 0, 1) := by decide +kernel
theorem dL_isHandSo_59 : decode cL_isHandSo 59 = .ok (.iload_n 1, 1) := by decide +kernel
theorem dL_isHandSo_60 : decode cL_isHandSo 60 = .ok (.invokevirtual 87, 3) := by decide +kernel
theorem dL_isHandSo_63 : decode cL_isHandSo 63 = .ok (.istore 6, 2) := by decide +kernel
theorem dL_isHandSo_65 : decode cL_isHandSo 65 = .ok (.iload 6, 2) := by decide +kernel
theorem dL_isHandSo_67 : decode cL_isHandSo 67 = .ok (.ifCond .ne 7, 3) := by decide +kernel
theorem dL_isHandSo_70 : decode cL_isHandSo 70 = .ok (.iconst 1, 1) := by decide +kernel
theorem dL_isHandSo_71 : decode cL_isHandSo 71 = .ok (.goto 4, 3) := by decide +kernel
theorem dL_isHandSo_74 : decode cL_isHandSo 74 = .ok (.iconst 0, 1) := by decide +kernel
theorem dL_isHandSo_75 : decode cL_isHandSo 75 = .ok (.aload_n 0, 1) := by decide +kernel
theorem dL_isHandSo_76 : decode cL_isHandSo 76 = .ok (.iload_n 1, 1) := by decide +kernel
theorem dL_isHandSo_77 : decode cL_isHandSo 77 = .ok (.iconst 1, 1) := by decide +kernel
theorem dL_isHandSo_78 : decode cL_isHandSo 78 = .ok (.invokevirtual 63, 3) := by decide +kernel
theorem dL_isHandSo_81 : decode cL_isHandSo 81 = .ok (.ifCond .ne 7, 3) := by decide +kernel
theorem dL_isHandSo_84 : decode cL_isHandSo 84 = .ok (.iconst 1, 1) := by decide +kernel
theorem dL_isHandSo_85 : decode cL_isHandSo 85 = .ok (.goto 4, 3) := by decide +kernel
theorem dL_isHandSo_88 : decode cL_isHandSo 88 = .ok (.iconst 0, 1) := by decide +kernel
theorem dL_isHandSo_89 : decode cL_isHandSo 89 = .ok (.if_icmp .ne 75, 3) := by decide +kernel
theorem dL_isHandSo_92 : decode cL_isHandSo 92 = .ok (.iload 6, 2) := by decide +kernel
theorem dL_isHandSo_94 : decode cL_isHandSo 94 = .ok (.bipush 20, 2) := by decide +kernel
theorem dL_isHandSo_96 : decode cL_isHandSo 96 = .ok (.if_icmp .gt 68, 3) := by decide +kernel
theorem dL_isHandSo_99 : decode cL_isHandSo 99 = .ok (.aload_n 0, 1) := by decide +kernel
theorem dL_isHandSo_100 : decode cL_isHandSo 100 = .ok (.iload_n 1, 1) := by decide +kernel
theorem dL_isHandSo_101 : decode cL_isHandSo 101 = .ok (.iload_n 2, 1) := by decide +kernel
theorem dL_isHandSo_102 : decode cL_isHandSo 102 = .ok (.invokevirtual 18, 3) := by decide +kernel
theorem dL_isHandSo_105 : decode cL_isHandSo 105 = .ok (.iload_n 3, 1) := by decide +kernel
theorem dL_isHandSo_106 : decode cL_isHandSo 106 = .ok (.iload_n 2, 1) := by decide +kernel
theorem dL_isHandSo_107 : decode cL_isHandSo 107 = .ok (.iconst 1, 1) := by decide +kernel
theorem dL_isHandSo_108 : decode cL_isHandSo 108 = .ok (.if_icmp .ne 7, 3) := by decide +kernel
theorem dL_isHandSo_111 : decode cL_isHandSo 111 = .ok (.iconst 1, 1) := by decide +kernel
theorem dL_isHandSo_112 : decode cL_isHandSo 112 = .ok (.goto 5, 3) := by decide +kernel
theorem dL_isHandSo_115 : decode cL_isHandSo 115 = .ok (.bipush 7, 2) := by decide +kernel
theorem dL_isHandSo_117 : decode cL_isHandSo 117 = .ok (.iadd, 1) := by decide +kernel
theorem dL_isHandSo_118 : decode cL_isHandSo 118 = .ok (.bipush 8, 2) := by decide +kernel
theorem dL_isHandSo_120 : decode cL_isHandSo 120 = .ok (.irem, 1) := by decide +kernel
theorem dL_isHandSo_121 : decode cL_isHandSo 121 = .ok (.if_icmp .ne 43, 3) := by decide +kernel
theorem dL_isHandSo_124 : decode cL_isHandSo 124 = .ok (.aload_n 0, 1) := by decide +kernel
theorem dL_isHandSo_125 : decode cL_isHandSo 125 = .ok (.iload_n 1, 1) := by decide +kernel
theorem dL_isHandSo_126 : decode cL_isHandSo 126 = .ok (.iconst 2, 1) := by decide +kernel
theorem dL_isHandSo_127 : decode cL_isHandSo 127 = .ok (.invokevirtual 63, 3) := by decide +kernel
theorem dL_isHandSo_130 : decode cL_isHandSo 130 = .ok (.iload 4, 2) := by decide +kernel
theorem dL_isHandSo_132 : decode cL_isHandSo 132 = .ok (.if_icmp .ne 32, 3) := by decide +kernel
theorem dL_isHandSo_135 : decode cL_isHandSo 135 = .ok (.aload_n 0, 1) := by decide +kernel
theorem dL_isHandSo_136 : decode cL_isHandSo 136 = .ok (.iload_n 1, 1) := by decide +kernel
theorem dL_isHandSo_137 : decode cL_isHandSo 137 = .ok (.iload_n 3, 1) := by decide +kernel
theorem dL_isHandSo_138 : decode cL_isHandSo 138 = .ok (.invokevirtual 66, 3) := by decide +kernel
theorem dL_isHandSo_141 : decode cL_isHandSo 141 = .ok (.iload 4, 2) := by decide +kernel
theorem dL_isHandSo_143 : decode cL_isHandSo 143 = .ok (.if_icmp .ne 21, 3) := by decide +kernel
theorem dL_isHandSo_146 : decode cL_isHandSo 146 = .ok (.aload_n 0, 1) := by decide +kernel
theorem dL_isHandSo_147 : decode cL_isHandSo 147 = .ok (.iload_n 1, 1) := by decide +kernel
theorem dL_isHandSo_148 : decode cL_isHandSo 148 = .ok (.bipush 7, 2) := by decide +kernel
theorem dL_isHandSo_150 : decode cL_isHandSo 150 = .ok (.invokevirtual 63, 3) := by decide +kernel
theorem dL_isHandSo_153 : decode cL_isHandSo 153 = .ok (.iload 5, 2) := by decide +kernel
theorem dL_isHandSo_155 : decode cL_isHandSo 155 = .ok (.iconst 1, 1) := by decide +kernel
theorem dL_isHandSo_156 : decode cL_isHandSo 156 = .ok (.iadd, 1) := by decide +kernel
theorem dL_isHandSo_157 : decode cL_isHandSo 157 = .ok (.if_icmp .ne 7, 3) := by decide +kernel
theorem dL_isHandSo_160 : decode cL_isHandSo 160 = .ok (.iconst 1, 1) := by decide +kernel
theorem dL_isHandSo_161 : decode cL_isHandSo 161 = .ok (.goto 4, 3) := by decide +kernel
theorem dL_isHandSo_164 : decode cL_isHandSo 164 = .ok (.iconst 0, 1) := by decide +kernel
theorem dL_isHandSo_165 : decode cL_isHandSo 165 = .ok (.istore 7, 2) := by decide +kernel
theorem dL_isHandSo_167 : decode cL_isHandSo 167 = .ok (.iload 7, 2) := by decide +kernel
theorem dL_isHandSo_169 : decode cL_isHandSo 169 = .ok (.ifCond .eq 36, 3) := by decide +kernel
theorem dL_isHandSo_172 : decode cL_isHandSo 172 = .ok (.aload_n 0, 1) := by decide +kernel
theorem dL_isHandSo_173 : decode cL_isHandSo 173 = .ok (.invokevirtual 83, 3) := by decide +kernel
theorem dL_isHandSo_176 : decode cL_isHandSo 176 = .ok (.ifCond .lt 29, 3) := by decide +kernel
theorem dL_isHandSo_179 : decode cL_isHandSo 179 = .ok (.aload_n 0, 1) := by decide +kernel
theorem dL_isHandSo_180 : decode cL_isHandSo 180 = .ok (.iload_n 1, 1) := by decide +kernel
theorem dL_isHandSo_181 : decode cL_isHandSo 181 = .ok (.iconst 0, 1) := by decide +kernel
theorem dL_isHandSo_182 : decode cL_isHandSo 182 = .ok (.invokevirtual 63, 3) := by decide +kernel
theorem dL_isHandSo_185 : decode cL_isHandSo 185 = .ok (.iload_n 3, 1) := by decide +kernel
theorem dL_isHandSo_186 : decode cL_isHandSo 186 = .ok (.if_icmp .ne 19, 3) := by decide +kernel
theorem dL_isHandSo_189 : decode cL_isHandSo 189 = .ok (.aload_n 0, 1) := by decide +kernel
theorem dL_isHandSo_190 : decode cL_isHandSo 190 = .ok (.iload_n 1, 1) := by decide +kernel
theorem dL_isHandSo_191 : decode cL_isHandSo 191 = .ok (.bipush 7, 2) := by decide +kernel
theorem dL_isHandSo_193 : decode cL_isHandSo 193 = .ok (.invokevirtual 63, 3) := by decide +kernel
theorem dL_isHandSo_196 : decode cL_isHandSo 196 = .ok (.iload 5, 2) := by decide +kernel
theorem dL_isHandSo_198 : decode cL_isHandSo 198 = .ok (.if_icmp .ne 7, 3) := by decide +kernel
theorem dL_isHandSo_201 : decode cL_isHandSo 201 = .ok (.iconst 1, 1) := by decide +kernel
theorem dL_isHandSo_202 : decode cL_isHandSo 202 = .ok (.goto 4, 3) := by decide +kernel
theorem dL_isHandSo_205 : decode cL_isHandSo 205 = .ok (.iconst 0, 1) := by decide +kernel
theorem dL_isHandSo_206 : decode cL_isHandSo 206 = .ok (.ireturn, 1) := by decide +kernel

set_option maxRecDepth 20000 in
theorem ggL_isPourSo_X2_pot : GoodIn wsL_isPourSo wsX2_pot := goodIn_ca (goodIn_ca (goodIn_r _ [5, 6, 7, 8, 9, 4, 10, 11, 12, 13, 14, 15, 16, 17, 18, 19, 20, 21, 22, 23, 24, 25, 26, 27, 28, 29, 30, 31, 32, 33, 34, 35, 36, 191, 192, 193, 194, 195, 196, 197, 198, 199] (by decide +kernel) (by decide +kernel)) (goodIn_sub (fun _ h => List.mem_cons_of_mem _ (List.mem_append_left _ (List.mem_append_left _ (List.mem_append_right _ h)))) (by decide +kernel))) (goodIn_sub (fun _ h => List.mem_cons_of_mem _ (List.mem_append_left _ (List.mem_append_right _ h))) (by decide +kernel))
set_option maxRecDepth 20000 in
theorem gL_isPourSo_X2_pot : GoodIn wsL_isPourSo (wsV RL 63 RX2 yX2_pot wsX2_pot) := goodIn_app (goodIn_of _ (by decide +kernel)) ggL_isPourSo_X2_pot
set_option maxRecDepth 20000 in
theorem ggL_isPourSo_X2_guest : GoodIn wsL_isPourSo wsX2_guest := goodIn_ca (goodIn_ca (goodIn_r _ [40, 6, 7, 41, 42, 4, 43, 11, 12, 13, 14, 15, 16, 17, 44, 45, 46, 21, 47, 23, 191, 192, 193, 194, 195, 196, 197, 198, 199] (by decide +kernel) (by decide +kernel)) (goodIn_sub (fun _ h => List.mem_cons_of_mem _ (List.mem_append_left _ (List.mem_append_left _ (List.mem_append_right _ h)))) (by decide +kernel))) (goodIn_sub (fun _ h => List.mem_cons_of_mem _ (List.mem_append_left _ (List.mem_append_right _ h))) (by decide +kernel))
set_option maxRecDepth 20000 in
theorem gL_isPourSo_X2_guest : GoodIn wsL_isPourSo (wsV RL 60 RX2 yX2_guest wsX2_guest) := goodIn_app (goodIn_of _ (by decide +kernel)) ggL_isPourSo_X2_guest
set_option maxRecDepth 20000 in
theorem ggL_isPourSo_X2_bestGuest : GoodIn wsL_isPourSo wsX2_bestGuest := goodIn_ca (goodIn_r _ [51, 52, 6, 7, 8, 9, 4, 10, 11, 12, 53, 54, 55, 21, 56, 23, 57, 58, 59, 60, 29, 30, 31, 32, 33, 34, 35, 36, 61, 62, 63, 64, 65, 66, 67, 68, 69, 25, 26, 27, 28, 19, 20, 22, 70, 71, 72, 73, 74, 75, 76, 77, 78, 79, 80, 191, 192, 193, 194, 195, 196, 197, 198, 199] (by decide +kernel) (by decide +kernel)) (goodIn_sub (fun _ h => List.mem_cons_of_mem _ (List.mem_append_left _ (List.mem_append_left _ (List.mem_append_right _ h)))) (by decide +kernel))
set_option maxRecDepth 20000 in
theorem gL_isPourSo_X2_bestGuest : GoodIn wsL_isPourSo (wsV RL 77 RX2 yX2_bestGuest wsX2_bestGuest) := goodIn_app (goodIn_of _ (by decide +kernel)) ggL_isPourSo_X2_bestGuest
set_option maxRecDepth 20000 in
theorem ggL_isPourSo_X2_ifPoured : GoodIn wsL_isPourSo wsX2_ifPoured := goodIn_ca (goodIn_ca (goodIn_r _ [84, 6, 8, 9, 4, 10, 11, 12, 13, 14, 15, 16, 17, 29, 30, 31, 21, 32, 23, 33, 34, 35, 36, 85, 66, 67, 68, 69, 25, 26, 27, 28, 19, 20, 22, 61, 62, 63, 64, 65, 86, 87, 88, 89, 90, 91, 76, 92, 191, 192, 193, 194, 195, 196, 197, 198, 199] (by decide +kernel) (by decide +kernel)) (goodIn_sub (fun _ h => List.mem_cons_of_mem _ (List.mem_append_left _ (List.mem_append_left _ (List.mem_append_right _ h)))) (by decide +kernel))) (goodIn_sub (fun _ h => List.mem_cons_of_mem _ (List.mem_append_left _ (List.mem_append_right _ h))) (by decide +kernel))
set_option maxRecDepth 20000 in
theorem gL_isPourSo_X2_ifPoured : GoodIn wsL_isPourSo (wsV RL 80 RX2 yX2_ifPoured wsX2_ifPoured) := goodIn_app (goodIn_of _ (by decide +kernel)) ggL_isPourSo_X2_ifPoured
set_option maxRecDepth 20000 in
theorem ggL_isPourSo_X2_count : GoodIn wsL_isPourSo wsX2_count := goodIn_ca (goodIn_r _ [96, 6, 7, 97, 13, 14, 4, 15, 16, 17, 98, 99, 100, 21, 101, 102, 103, 104, 105, 23, 106, 107, 108, 109, 110, 111, 112, 113, 114, 115, 116, 117, 118, 119, 120, 121, 122, 123, 191, 192, 193, 194, 195, 196, 197, 198, 199] (by decide +kernel) (by decide +kernel)) (goodIn_sub (fun _ h => List.mem_cons_of_mem _ (List.mem_append_left _ (List.mem_append_right _ h))) (by decide +kernel))
set_option maxRecDepth 20000 in
theorem gL_isPourSo_X2_count : GoodIn wsL_isPourSo (wsV RL 57 RX2 yX2_count wsX2_count) := goodIn_app (goodIn_of _ (by decide +kernel)) ggL_isPourSo_X2_count
set_option maxRecDepth 20000 in
theorem ggL_isPourSo_L_changes : GoodIn wsL_isPourSo wsL_changes := goodIn_ca (goodIn_ca (goodIn_ca (goodIn_r _ [127, 128, 129, 130, 131, 132, 133, 4, 134, 135, 136, 6, 8, 9, 10, 11, 12, 13, 14, 15, 16, 17, 137, 138, 139, 21, 140, 23, 141, 142, 143, 144, 97, 145, 146, 53, 54, 55, 56, 57, 58, 59, 60, 147, 148, 149, 150, 151, 152, 153, 154, 29, 30, 31, 32, 33, 34, 35, 36, 155, 156, 157, 158, 78, 79, 76, 80, 65, 66, 67, 68, 69, 25, 26, 27, 28, 19, 20, 22, 159, 87, 88, 89, 90, 91, 92, 160, 161, 162, 163, 70, 71, 72, 73, 74, 75, 77, 164, 165, 166, 167, 168, 169, 170, 171, 172, 173, 174, 175, 176, 177, 178, 41, 42, 43, 179, 180, 181, 182, 183, 184, 185, 186, 7, 191, 192, 193, 194, 195, 196, 197, 198, 199] (by decide +kernel) (by decide +kernel)) (goodIn_sub (fun _ h => List.mem_cons_of_mem _ (List.mem_append_right _ h)) (by decide +kernel))) (goodIn_sub (fun _ h => List.mem_cons_of_mem _ (List.mem_append_left _ (List.mem_append_left _ (List.mem_append_right _ h)))) (by decide +kernel))) (goodIn_sub (fun _ h => List.mem_cons_of_mem _ (List.mem_append_left _ (List.mem_append_right _ h))) (by decide +kernel))
set_option maxRecDepth 20000 in
theorem gL_isPourSo_L_changes : GoodIn wsL_isPourSo (va_wsS RL 45 yL_changes wsL_changes) := goodIn_app (goodIn_of _ (by decide +kernel)) ggL_isPourSo_L_changes
set_option maxRecDepth 20000 in
theorem ggL_isPourSo_X2_undo : GoodIn wsL_isPourSo wsX2_undo := goodIn_ca (goodIn_r _ [190, 135, 136, 97, 6, 146, 145, 53, 54, 55, 21, 56, 23, 57, 58, 59, 60, 191, 192, 193, 194, 195, 196, 197, 198, 199] (by decide +kernel) (by decide +kernel)) (goodIn_sub (fun _ h => List.mem_cons_of_mem _ (List.mem_append_right _ h)) (by decide +kernel))
set_option maxRecDepth 20000 in
theorem gL_isPourSo_X2_undo : GoodIn wsL_isPourSo (wsV RL 83 RX2 yX2_undo wsX2_undo) := goodIn_app (goodIn_of _ (by decide +kernel)) ggL_isPourSo_X2_undo
theorem dL_isPourSo_0 : decode cL_isPourSo 0 = .ok (.aload_n 0, 1) := by decide +kernel
theorem dL_isPourSo_1 : decode cL_isPourSo 1 = .ok (.iload_n 1, 1) := by decide +kernel
theorem dL_isPourSo_2 : decode cL_isPourSo 2 = .ok (.iconst 0, 1) := by decide +kernel
theorem dL_isPourSo_3 : decode cL_isPourSo 3 = .ok (.invokevirtual 63, 3) := by decide +kernel
theorem dL_isPourSo_6 : decode cL_isPourSo 6 = .ok (.istore_n 3, 1) := by decide +kernel
theorem dL_isPourSo_7 : decode cL_isPourSo 7 = .ok (.aload_n 0, 1) := by decide +kernel
theorem dL_isPourSo_8 : decode cL_isPourSo 8 = .ok (.iload_n 1, 1) := by decide +kernel
theorem dL_isPourSo_9 : decode cL_isPourSo 9 = .ok (.iconst 1, 1) := by decide +kernel
theorem dL_isPourSo_10 : decode cL_isPourSo 10 = .ok (.invokevirtual 63, 3) := by decide +kernel
theorem dL_isPourSo_13 : decode cL_isPourSo 13 = .ok (.istore 4, 2) := by decide +kernel
theorem dL_isPourSo_15 : decode cL_isPourSo 15 = .ok (.aload_n 0, 1) := by decide +kernel
theorem dL_isPourSo_16 : decode cL_isPourSo 16 = .ok (.iload_n 3, 1) := by decide +kernel
theorem dL_isPourSo_17 : decode cL_isPourSo 17 = .ok (.iconst 0, 1) := by decide +kernel
theorem dL_isPourSo_18 : decode cL_isPourSo 18 = .ok (.invokevirtual 60, 3) := by decide +kernel
theorem dL_isPourSo_21 : decode cL_isPourSo 21 = .ok (.aload_n 0, 1) := by decide +kernel
theorem dL_isPourSo_22 : decode cL_isPourSo 22 = .ok (.iload_n 3, 1) := by decide +kernel
theorem dL_isPourSo_23 : decode cL_isPourSo 23 = .ok (.iconst 1, 1) := by decide +kernel
theorem dL_isPourSo_24 : decode cL_isPourSo 24 = .ok (.invokevirtual 60, 3) := by decide +kernel
theorem dL_isPourSo_27 : decode cL_isPourSo 27 = .ok (.isub, 1) := by decide +kernel
theorem dL_isPourSo_28 : decode cL_isPourSo 28 = .ok (.istore 5, 2) := by decide +kernel
theorem dL_isPourSo_30 : decode cL_isPourSo 30 = .ok (.aload_n 0, 1) := by decide +kernel
theorem dL_isPourSo_31 : decode cL_isPourSo 31 = .ok (.iload_n 3, 1) := by decide +kernel
theorem dL_isPourSo_32 : decode cL_isPourSo 32 = .ok (.iconst 3, 1) := by decide +kernel
theorem dL_isPourSo_33 : decode cL_isPourSo 33 = .ok (.invokevirtual 60, 3) := by decide +kernel
theorem dL_isPourSo_36 : decode cL_isPourSo 36 = .ok (.istore 6, 2) := by decide +kernel
theorem dL_isPourSo_38 : decode cL_isPourSo 38 = .ok (.aload_n 0, 1) := by decide +kernel
theorem dL_isPourSo_39 : decode cL_isPourSo 39 = .ok (.iload_n 1, 1) := by decide +kernel
theorem dL_isPourSo_40 : decode cL_isPourSo 40 = .ok (.iconst 2, 1) := by decide +kernel
theorem dL_isPourSo_41 : decode cL_isPourSo 41 = .ok (.invokevirtual 63, 3) := by decide +kernel
theorem dL_isPourSo_44 : decode cL_isPourSo 44 = .ok (.iload 6, 2) := by decide +kernel
theorem dL_isPourSo_46 : decode cL_isPourSo 46 = .ok (.imul, 1) := by decide +kernel
theorem dL_isPourSo_47 : decode cL_isPourSo 47 = .ok (.aload_n 0, 1) := by decide +kernel
theorem dL_isPourSo_48 : decode cL_isPourSo 48 = .ok (.iload_n 1, 1) := by decide +kernel
theorem dL_isPourSo_49 : decode cL_isPourSo 49 = .ok (.iconst 3, 1) := by decide +kernel
theorem dL_isPourSo_50 : decode cL_isPourSo 50 = .ok (.invokevirtual 63, 3) := by decide +kernel
theorem dL_isPourSo_53 : decode cL_isPourSo 53 = .ok (.bipush 10, 2) := by decide +kernel
theorem dL_isPourSo_55 : decode cL_isPourSo 55 = .ok (.iload 6, 2) := by decide +kernel
theorem dL_isPourSo_57 : decode cL_isPourSo 57 = .ok (.isub, 1) := by decide +kernel
theorem dL_isPourSo_58 : decode cL_isPourSo 58 = .ok (.imul, 1) := by decide +kernel
theorem dL_isPourSo_59 : decode cL_isPourSo 59 = .ok (.iadd, 1) := by decide +kernel
theorem dL_isPourSo_60 : decode cL_isPourSo 60 = .ok (.bipush 10, 2) := by decide +kernel
theorem dL_isPourSo_62 : decode cL_isPourSo 62 = .ok (.idiv, 1) := by decide +kernel
theorem dL_isPourSo_63 : decode cL_isPourSo 63 = .ok (.istore 7, 2) := by decide +kernel
theorem dL_isPourSo_65 : decode cL_isPourSo 65 = .ok (.iload 4, 2) := by decide +kernel
theorem dL_isPourSo_67 : decode cL_isPourSo 67 = .ok (.ifCond .ne 7, 3) := by decide +kernel
theorem dL_isPourSo_70 : decode cL_isPourSo 70 = .ok (.iconst 1, 1) := by decide +kernel
theorem dL_isPourSo_71 : decode cL_isPourSo 71 = .ok (.goto 13, 3) := by decide +kernel
theorem dL_isPourSo_74 : decode cL_isPourSo 74 = .ok (.iload 5, 2) := by decide +kernel
theorem dL_isPourSo_76 : decode cL_isPourSo 76 = .ok (.ifCond .ne 7, 3) := by decide +kernel
theorem dL_isPourSo_79 : decode cL_isPourSo 79 = .ok (.iconst 2, 1) := by decide +kernel
theorem dL_isPourSo_80 : decode cL_isPourSo 80 = .ok (.goto 4, 3) := by decide +kernel
theorem dL_isPourSo_83 : decode cL_isPourSo 83 = .ok (.iconst 0, 1) := by decide +kernel
theorem dL_isPourSo_84 : decode cL_isPourSo 84 = .ok (.istore 8, 2) := by decide +kernel
theorem dL_isPourSo_86 : decode cL_isPourSo 86 = .ok (.iload 5, 2) := by decide +kernel
theorem dL_isPourSo_88 : decode cL_isPourSo 88 = .ok (.iload 4, 2) := by decide +kernel
theorem dL_isPourSo_90 : decode cL_isPourSo 90 = .ok (.imul, 1) := by decide +kernel
theorem dL_isPourSo_91 : decode cL_isPourSo 91 = .ok (.iload 7, 2) := by decide +kernel
theorem dL_isPourSo_93 : decode cL_isPourSo 93 = .ok (.ifCond .ne 7, 3) := by decide +kernel
theorem dL_isPourSo_96 : decode cL_isPourSo 96 = .ok (.iconst 1, 1) := by decide +kernel
theorem dL_isPourSo_97 : decode cL_isPourSo 97 = .ok (.goto 5, 3) := by decide +kernel
theorem dL_isPourSo_100 : decode cL_isPourSo 100 = .ok (.iload 7, 2) := by decide +kernel
theorem dL_isPourSo_102 : decode cL_isPourSo 102 = .ok (.idiv, 1) := by decide +kernel
theorem dL_isPourSo_103 : decode cL_isPourSo 103 = .ok (.istore 9, 2) := by decide +kernel
theorem dL_isPourSo_105 : decode cL_isPourSo 105 = .ok (.iload 9, 2) := by decide +kernel
theorem dL_isPourSo_107 : decode cL_isPourSo 107 = .ok (.iload 4, 2) := by decide +kernel
theorem dL_isPourSo_109 : decode cL_isPourSo 109 = .ok (.if_icmp .le 8, 3) := by decide +kernel
theorem dL_isPourSo_112 : decode cL_isPourSo 112 = .ok (.iload 4, 2) := by decide +kernel
theorem dL_isPourSo_114 : decode cL_isPourSo 114 = .ok (.goto 5, 3) := by decide +kernel
theorem dL_isPourSo_117 : decode cL_isPourSo 117 = .ok (.iload 9, 2) := by decide +kernel
theorem dL_isPourSo_119 : decode cL_isPourSo 119 = .ok (.istore 9, 2) := by decide +kernel
theorem dL_isPourSo_121 : decode cL_isPourSo 121 = .ok (.iload 9, 2) := by decide +kernel
theorem dL_isPourSo_123 : decode cL_isPourSo 123 = .ok (.iload 5, 2) := by decide +kernel
theorem dL_isPourSo_125 : decode cL_isPourSo 125 = .ok (.if_icmp .le 11, 3) := by decide +kernel
theorem dL_isPourSo_128 : decode cL_isPourSo 128 = .ok (.iload 9, 2) := by decide +kernel
theorem dL_isPourSo_130 : decode cL_isPourSo 130 = .ok (.iload 5, 2) := by decide +kernel
theorem dL_isPourSo_132 : decode cL_isPourSo 132 = .ok (.isub, 1) := by decide +kernel
theorem dL_isPourSo_133 : decode cL_isPourSo 133 = .ok (.goto 4, 3) := by decide +kernel
theorem dL_isPourSo_136 : decode cL_isPourSo 136 = .ok (.iconst 0, 1) := by decide +kernel
theorem dL_isPourSo_137 : decode cL_isPourSo 137 = .ok (.istore 10, 2) := by decide +kernel
theorem dL_isPourSo_139 : decode cL_isPourSo 139 = .ok (.aload_n 0, 1) := by decide +kernel
theorem dL_isPourSo_140 : decode cL_isPourSo 140 = .ok (.iload_n 1, 1) := by decide +kernel
theorem dL_isPourSo_141 : decode cL_isPourSo 141 = .ok (.invokevirtual 77, 3) := by decide +kernel
theorem dL_isPourSo_144 : decode cL_isPourSo 144 = .ok (.istore 11, 2) := by decide +kernel
theorem dL_isPourSo_146 : decode cL_isPourSo 146 = .ok (.aload_n 0, 1) := by decide +kernel
theorem dL_isPourSo_147 : decode cL_isPourSo 147 = .ok (.iload_n 1, 1) := by decide +kernel
theorem dL_isPourSo_148 : decode cL_isPourSo 148 = .ok (.iconst 4, 1) := by decide +kernel
theorem dL_isPourSo_149 : decode cL_isPourSo 149 = .ok (.invokevirtual 63, 3) := by decide +kernel
theorem dL_isPourSo_152 : decode cL_isPourSo 152 = .ok (.iload 7, 2) := by decide +kernel
theorem dL_isPourSo_154 : decode cL_isPourSo 154 = .ok (.if_icmp .ne 103, 3) := by decide +kernel
theorem dL_isPourSo_157 : decode cL_isPourSo 157 = .ok (.aload_n 0, 1) := by decide +kernel
theorem dL_isPourSo_158 : decode cL_isPourSo 158 = .ok (.iload_n 1, 1) := by decide +kernel
theorem dL_isPourSo_159 : decode cL_isPourSo 159 = .ok (.iconst 5, 1) := by decide +kernel
theorem dL_isPourSo_160 : decode cL_isPourSo 160 = .ok (.invokevirtual 63, 3) := by decide +kernel
theorem dL_isPourSo_163 : decode cL_isPourSo 163 = .ok (.iload 8, 2) := by decide +kernel
theorem dL_isPourSo_165 : decode cL_isPourSo 165 = .ok (.if_icmp .ne 92, 3) := by decide +kernel
theorem dL_isPourSo_168 : decode cL_isPourSo 168 = .ok (.aload_n 0, 1) := by decide +kernel
theorem dL_isPourSo_169 : decode cL_isPourSo 169 = .ok (.iload_n 1, 1) := by decide +kernel
theorem dL_isPourSo_170 : decode cL_isPourSo 170 = .ok (.iconst 0, 1) := by decide +kernel
theorem dL_isPourSo_171 : decode cL_isPourSo 171 = .ok (.invokevirtual 80, 3) := by decide +kernel
theorem dL_isPourSo_174 : decode cL_isPourSo 174 = .ok (.iload 8, 2) := by decide +kernel
theorem dL_isPourSo_176 : decode cL_isPourSo 176 = .ok (.ifCond .le 7, 3) := by decide +kernel
theorem dL_isPourSo_179 : decode cL_isPourSo 179 = .ok (.iconst (-1), 1) := by decide +kernel
theorem dL_isPourSo_180 : decode cL_isPourSo 180 = .ok (.goto 5, 3) := by decide +kernel
theorem dL_isPourSo_183 : decode cL_isPourSo 183 = .ok (.iload 9, 2) := by decide +kernel
theorem dL_isPourSo_185 : decode cL_isPourSo 185 = .ok (.if_icmp .ne 72, 3) := by decide +kernel
theorem dL_isPourSo_188 : decode cL_isPourSo 188 = .ok (.aload_n 0, 1) := by decide +kernel
theorem dL_isPourSo_189 : decode cL_isPourSo 189 = .ok (.iload_n 1, 1) := by decide +kernel
theorem dL_isPourSo_190 : decode cL_isPourSo 190 = .ok (.iconst 1, 1) := by decide +kernel
theorem dL_isPourSo_191 : decode cL_isPourSo 191 = .ok (.invokevirtual 80, 3) := by decide +kernel
theorem dL_isPourSo_194 : decode cL_isPourSo 194 = .ok (.iload 8, 2) := by decide +kernel
theorem dL_isPourSo_196 : decode cL_isPourSo 196 = .ok (.ifCond .le 7, 3) := by decide +kernel
theorem dL_isPourSo_199 : decode cL_isPourSo 199 = .ok (.iconst (-1), 1) := by decide +kernel
theorem dL_isPourSo_200 : decode cL_isPourSo 200 = .ok (.goto 5, 3) := by decide +kernel
theorem dL_isPourSo_203 : decode cL_isPourSo 203 = .ok (.iload 10, 2) := by decide +kernel
theorem dL_isPourSo_205 : decode cL_isPourSo 205 = .ok (.if_icmp .ne 52, 3) := by decide +kernel
theorem dL_isPourSo_208 : decode cL_isPourSo 208 = .ok (.iload 11, 2) := by decide +kernel
theorem dL_isPourSo_210 : decode cL_isPourSo 210 = .ok (.iconst (-1), 1) := by decide +kernel
theorem dL_isPourSo_211 : decode cL_isPourSo 211 = .ok (.if_icmp .lt 46, 3) := by decide +kernel
theorem dL_isPourSo_214 : decode cL_isPourSo 214 = .ok (.iload 11, 2) := by decide +kernel
theorem dL_isPourSo_216 : decode cL_isPourSo 216 = .ok (.bipush 8, 2) := by decide +kernel
theorem dL_isPourSo_218 : decode cL_isPourSo 218 = .ok (.if_icmp .ge 39, 3) := by decide +kernel
theorem dL_isPourSo_221 : decode cL_isPourSo 221 = .ok (.iload 8, 2) := by decide +kernel
theorem dL_isPourSo_223 : decode cL_isPourSo 223 = .ok (.ifCond .gt 19, 3) := by decide +kernel
theorem dL_isPourSo_226 : decode cL_isPourSo 226 = .ok (.iload 11, 2) := by decide +kernel
theorem dL_isPourSo_228 : decode cL_isPourSo 228 = .ok (.ifCond .lt 29, 3) := by decide +kernel
theorem dL_isPourSo_231 : decode cL_isPourSo 231 = .ok (.iload 10, 2) := by decide +kernel
theorem dL_isPourSo_233 : decode cL_isPourSo 233 = .ok (.ifCond .gt 9, 3) := by decide +kernel
theorem dL_isPourSo_236 : decode cL_isPourSo 236 = .ok (.iload 11, 2) := by decide +kernel
theorem dL_isPourSo_238 : decode cL_isPourSo 238 = .ok (.iload_n 3, 1) := by decide +kernel
theorem dL_isPourSo_239 : decode cL_isPourSo 239 = .ok (.if_icmp .ne 18, 3) := by decide +kernel
theorem dL_isPourSo_242 : decode cL_isPourSo 242 = .ok (.iload 4, 2) := by decide +kernel
theorem dL_isPourSo_244 : decode cL_isPourSo 244 = .ok (.ifCond .gt 9, 3) := by decide +kernel
theorem dL_isPourSo_247 : decode cL_isPourSo 247 = .ok (.iload 11, 2) := by decide +kernel
theorem dL_isPourSo_249 : decode cL_isPourSo 249 = .ok (.iconst (-1), 1) := by decide +kernel
theorem dL_isPourSo_250 : decode cL_isPourSo 250 = .ok (.if_icmp .ne 7, 3) := by decide +kernel
theorem dL_isPourSo_253 : decode cL_isPourSo 253 = .ok (.iconst 1, 1) := by decide +kernel
theorem dL_isPourSo_254 : decode cL_isPourSo 254 = .ok (.goto 4, 3) := by decide +kernel
theorem dL_isPourSo_257 : decode cL_isPourSo 257 = .ok (.iconst 0, 1) := by decide +kernel
theorem dL_isPourSo_258 : decode cL_isPourSo 258 = .ok (.istore 12, 2) := by decide +kernel
theorem dL_isPourSo_260 : decode cL_isPourSo 260 = .ok (.aload_n 0, 1) := by decide +kernel
theorem dL_isPourSo_261 : decode cL_isPourSo 261 = .ok (.iload_n 1, 1) := by decide +kernel
theorem dL_isPourSo_262 : decode cL_isPourSo 262 = .ok (.iconst 2, 1) := by decide +kernel
theorem dL_isPourSo_263 : decode cL_isPourSo 263 = .ok (.invokevirtual 80, 3) := by decide +kernel
theorem dL_isPourSo_266 : decode cL_isPourSo 266 = .ok (.istore 13, 2) := by decide +kernel
theorem dL_isPourSo_268 : decode cL_isPourSo 268 = .ok (.aload_n 0, 1) := by decide +kernel
theorem dL_isPourSo_269 : decode cL_isPourSo 269 = .ok (.iconst 5, 1) := by decide +kernel
theorem dL_isPourSo_270 : decode cL_isPourSo 270 = .ok (.invokevirtual 57, 3) := by decide +kernel
theorem dL_isPourSo_273 : decode cL_isPourSo 273 = .ok (.istore 14, 2) := by decide +kernel
theorem dL_isPourSo_275 : decode cL_isPourSo 275 = .ok (.aload_n 0, 1) := by decide +kernel
theorem dL_isPourSo_276 : decode cL_isPourSo 276 = .ok (.iconst 1, 1) := by decide +kernel
theorem dL_isPourSo_277 : decode cL_isPourSo 277 = .ok (.iload_n 1, 1) := by decide +kernel
theorem dL_isPourSo_278 : decode cL_isPourSo 278 = .ok (.iconst 0, 1) := by decide +kernel
theorem dL_isPourSo_279 : decode cL_isPourSo 279 = .ok (.aload_n 2, 1) := by decide +kernel
theorem dL_isPourSo_280 : decode cL_isPourSo 280 = .ok (.invokestatic 45, 3) := by decide +kernel
theorem dL_isPourSo_283 : decode cL_isPourSo 283 = .ok (.istore 15, 2) := by decide +kernel
theorem dL_isPourSo_285 : decode cL_isPourSo 285 = .ok (.iload 15, 2) := by decide +kernel
theorem dL_isPourSo_287 : decode cL_isPourSo 287 = .ok (.ifCond .eq 31, 3) := by decide +kernel
theorem dL_isPourSo_290 : decode cL_isPourSo 290 = .ok (.iload 12, 2) := by decide +kernel
theorem dL_isPourSo_292 : decode cL_isPourSo 292 = .ok (.ifCond .eq 24, 3) := by decide +kernel
theorem dL_isPourSo_295 : decode cL_isPourSo 295 = .ok (.iload 15, 2) := by decide +kernel
theorem dL_isPourSo_297 : decode cL_isPourSo 297 = .ok (.iconst 3, 1) := by decide +kernel
theorem dL_isPourSo_298 : decode cL_isPourSo 298 = .ok (.if_icmp .ne 18, 3) := by decide +kernel
theorem dL_isPourSo_301 : decode cL_isPourSo 301 = .ok (.iload 8, 2) := by decide +kernel
theorem dL_isPourSo_303 : decode cL_isPourSo 303 = .ok (.ifCond .le 13, 3) := by decide +kernel
theorem dL_isPourSo_306 : decode cL_isPourSo 306 = .ok (.iload 13, 2) := by decide +kernel
theorem dL_isPourSo_308 : decode cL_isPourSo 308 = .ok (.iconst (-1), 1) := by decide +kernel
theorem dL_isPourSo_309 : decode cL_isPourSo 309 = .ok (.if_icmp .ne 7, 3) := by decide +kernel
theorem dL_isPourSo_312 : decode cL_isPourSo 312 = .ok (.iconst 1, 1) := by decide +kernel
theorem dL_isPourSo_313 : decode cL_isPourSo 313 = .ok (.goto 4, 3) := by decide +kernel
theorem dL_isPourSo_316 : decode cL_isPourSo 316 = .ok (.iconst 0, 1) := by decide +kernel
theorem dL_isPourSo_317 : decode cL_isPourSo 317 = .ok (.ireturn, 1) := by decide +kernel
theorem dL_isPourSo_318 : decode cL_isPourSo 318 = .ok (.iload 12, 2) := by decide +kernel
theorem dL_isPourSo_320 : decode cL_isPourSo 320 = .ok (.ifCond .eq 113, 3) := by decide +kernel
theorem dL_isPourSo_323 : decode cL_isPourSo 323 = .ok (.iload 8, 2) := by decide +kernel
theorem dL_isPourSo_325 : decode cL_isPourSo 325 = .ok (.ifCond .ne 108, 3) := by decide +kernel
theorem dL_isPourSo_328 : decode cL_isPourSo 328 = .ok (.aload_n 2, 1) := by decide +kernel
theorem dL_isPourSo_329 : decode cL_isPourSo 329 = .ok (.iconst 0, 1) := by decide +kernel
theorem dL_isPourSo_330 : decode cL_isPourSo 330 = .ok (.iaload, 1) := by decide +kernel
theorem dL_isPourSo_331 : decode cL_isPourSo 331 = .ok (.iload 10, 2) := by decide +kernel
theorem dL_isPourSo_333 : decode cL_isPourSo 333 = .ok (.if_icmp .ne 100, 3) := by decide +kernel
theorem dL_isPourSo_336 : decode cL_isPourSo 336 = .ok (.aload_n 0, 1) := by decide +kernel
theorem dL_isPourSo_337 : decode cL_isPourSo 337 = .ok (.iload_n 1, 1) := by decide +kernel
theorem dL_isPourSo_338 : decode cL_isPourSo 338 = .ok (.iconst 1, 1) := by decide +kernel
theorem dL_isPourSo_339 : decode cL_isPourSo 339 = .ok (.invokevirtual 63, 3) := by decide +kernel
theorem dL_isPourSo_342 : decode cL_isPourSo 342 = .ok (.iload 4, 2) := by decide +kernel
theorem dL_isPourSo_344 : decode cL_isPourSo 344 = .ok (.iload 9, 2) := by decide +kernel
theorem dL_isPourSo_346 : decode cL_isPourSo 346 = .ok (.isub, 1) := by decide +kernel
theorem dL_isPourSo_347 : decode cL_isPourSo 347 = .ok (.if_icmp .ne 86, 3) := by decide +kernel
theorem dL_isPourSo_350 : decode cL_isPourSo 350 = .ok (.aload_n 0, 1) := by decide +kernel
theorem dL_isPourSo_351 : decode cL_isPourSo 351 = .ok (.iload_n 3, 1) := by decide +kernel
theorem dL_isPourSo_352 : decode cL_isPourSo 352 = .ok (.iconst 3, 1) := by decide +kernel
theorem dL_isPourSo_353 : decode cL_isPourSo 353 = .ok (.invokevirtual 60, 3) := by decide +kernel
theorem dL_isPourSo_356 : decode cL_isPourSo 356 = .ok (.iload 13, 2) := by decide +kernel
theorem dL_isPourSo_358 : decode cL_isPourSo 358 = .ok (.if_icmp .ne 75, 3) := by decide +kernel
theorem dL_isPourSo_361 : decode cL_isPourSo 361 = .ok (.iload 13, 2) := by decide +kernel
theorem dL_isPourSo_363 : decode cL_isPourSo 363 = .ok (.iload 6, 2) := by decide +kernel
theorem dL_isPourSo_365 : decode cL_isPourSo 365 = .ok (.isub, 1) := by decide +kernel
theorem dL_isPourSo_366 : decode cL_isPourSo 366 = .ok (.iconst 2, 1) := by decide +kernel
theorem dL_isPourSo_367 : decode cL_isPourSo 367 = .ok (.if_icmp .ge 66, 3) := by decide +kernel
theorem dL_isPourSo_370 : decode cL_isPourSo 370 = .ok (.iload 6, 2) := by decide +kernel
theorem dL_isPourSo_372 : decode cL_isPourSo 372 = .ok (.iload 13, 2) := by decide +kernel
theorem dL_isPourSo_374 : decode cL_isPourSo 374 = .ok (.isub, 1) := by decide +kernel
theorem dL_isPourSo_375 : decode cL_isPourSo 375 = .ok (.iconst 2, 1) := by decide +kernel
theorem dL_isPourSo_376 : decode cL_isPourSo 376 = .ok (.if_icmp .ge 57, 3) := by decide +kernel
theorem dL_isPourSo_379 : decode cL_isPourSo 379 = .ok (.aload_n 0, 1) := by decide +kernel
theorem dL_isPourSo_380 : decode cL_isPourSo 380 = .ok (.iconst 5, 1) := by decide +kernel
theorem dL_isPourSo_381 : decode cL_isPourSo 381 = .ok (.invokevirtual 57, 3) := by decide +kernel
theorem dL_isPourSo_384 : decode cL_isPourSo 384 = .ok (.iload 14, 2) := by decide +kernel
theorem dL_isPourSo_386 : decode cL_isPourSo 386 = .ok (.iconst 1, 1) := by decide +kernel
theorem dL_isPourSo_387 : decode cL_isPourSo 387 = .ok (.iadd, 1) := by decide +kernel
theorem dL_isPourSo_388 : decode cL_isPourSo 388 = .ok (.if_icmp .ne 45, 3) := by decide +kernel
theorem dL_isPourSo_391 : decode cL_isPourSo 391 = .ok (.aload_n 0, 1) := by decide +kernel
theorem dL_isPourSo_392 : decode cL_isPourSo 392 = .ok (.iload_n 1, 1) := by decide +kernel
theorem dL_isPourSo_393 : decode cL_isPourSo 393 = .ok (.iconst 0, 1) := by decide +kernel
theorem dL_isPourSo_394 : decode cL_isPourSo 394 = .ok (.invokevirtual 63, 3) := by decide +kernel
theorem dL_isPourSo_397 : decode cL_isPourSo 397 = .ok (.iload_n 3, 1) := by decide +kernel
theorem dL_isPourSo_398 : decode cL_isPourSo 398 = .ok (.if_icmp .ne 35, 3) := by decide +kernel
theorem dL_isPourSo_401 : decode cL_isPourSo 401 = .ok (.aload_n 0, 1) := by decide +kernel
theorem dL_isPourSo_402 : decode cL_isPourSo 402 = .ok (.invokevirtual 83, 3) := by decide +kernel
theorem dL_isPourSo_405 : decode cL_isPourSo 405 = .ok (.ifCond .lt 28, 3) := by decide +kernel
theorem dL_isPourSo_408 : decode cL_isPourSo 408 = .ok (.aload_n 0, 1) := by decide +kernel
theorem dL_isPourSo_409 : decode cL_isPourSo 409 = .ok (.iload_n 1, 1) := by decide +kernel
theorem dL_isPourSo_410 : decode cL_isPourSo 410 = .ok (.iconst 1, 1) := by decide +kernel
theorem dL_isPourSo_411 : decode cL_isPourSo 411 = .ok (.invokevirtual 63, 3) := by decide +kernel
theorem dL_isPourSo_414 : decode cL_isPourSo 414 = .ok (.iload 4, 2) := by decide +kernel
theorem dL_isPourSo_416 : decode cL_isPourSo 416 = .ok (.if_icmp .ne 17, 3) := by decide +kernel
theorem dL_isPourSo_419 : decode cL_isPourSo 419 = .ok (.aload_n 0, 1) := by decide +kernel
theorem dL_isPourSo_420 : decode cL_isPourSo 420 = .ok (.iconst 5, 1) := by decide +kernel
theorem dL_isPourSo_421 : decode cL_isPourSo 421 = .ok (.invokevirtual 57, 3) := by decide +kernel
theorem dL_isPourSo_424 : decode cL_isPourSo 424 = .ok (.iload 14, 2) := by decide +kernel
theorem dL_isPourSo_426 : decode cL_isPourSo 426 = .ok (.if_icmp .ne 7, 3) := by decide +kernel
theorem dL_isPourSo_429 : decode cL_isPourSo 429 = .ok (.iconst 1, 1) := by decide +kernel
theorem dL_isPourSo_430 : decode cL_isPourSo 430 = .ok (.goto 4, 3) := by decide +kernel
theorem dL_isPourSo_433 : decode cL_isPourSo 433 = .ok (.iconst 0, 1) := by decide +kernel
theorem dL_isPourSo_434 : decode cL_isPourSo 434 = .ok (.ireturn, 1) := by decide +kernel

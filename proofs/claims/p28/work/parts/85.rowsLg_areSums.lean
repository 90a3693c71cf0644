set_option maxRecDepth 20000 in
theorem ggL_areSums_X2_pot : GoodIn wsL_areSums wsX2_pot := goodIn_ca (goodIn_ca (goodIn_r _ [6, 7, 8, 9, 10, 5, 11, 12, 13, 14, 15, 16, 17, 18, 19, 20, 21, 22, 23, 24, 25, 26, 27, 28, 29, 30, 31, 32, 33, 34, 35, 36, 37, 97, 98, 99, 100, 101, 102, 103, 104, 105] (by decide +kernel) (by decide +kernel)) (goodIn_sub (fun _ h => List.mem_cons_of_mem _ (List.mem_append_left _ (List.mem_append_right _ h))) (by decide +kernel))) (goodIn_sub (fun _ h => List.mem_cons_of_mem _ (List.mem_append_right _ h)) (by decide +kernel))
set_option maxRecDepth 20000 in
theorem gL_areSums_X2_pot : GoodIn wsL_areSums (wsV RL 63 RX2 yX2_pot wsX2_pot) := goodIn_app (goodIn_of _ (by decide +kernel)) ggL_areSums_X2_pot
set_option maxRecDepth 20000 in
theorem ggL_areSums_X2_guest : GoodIn wsL_areSums wsX2_guest := goodIn_ca (goodIn_ca (goodIn_r _ [41, 7, 8, 42, 43, 5, 44, 12, 13, 14, 15, 16, 17, 18, 45, 46, 47, 22, 48, 24, 97, 98, 99, 100, 101, 102, 103, 104, 105] (by decide +kernel) (by decide +kernel)) (goodIn_sub (fun _ h => List.mem_cons_of_mem _ (List.mem_append_left _ (List.mem_append_right _ h))) (by decide +kernel))) (goodIn_sub (fun _ h => List.mem_cons_of_mem _ (List.mem_append_right _ h)) (by decide +kernel))
set_option maxRecDepth 20000 in
theorem gL_areSums_X2_guest : GoodIn wsL_areSums (wsV RL 60 RX2 yX2_guest wsX2_guest) := goodIn_app (goodIn_of _ (by decide +kernel)) ggL_areSums_X2_guest
set_option maxRecDepth 20000 in
theorem ggL_areSums_X2_told : GoodIn wsL_areSums wsX2_told := goodIn_ca (goodIn_r _ [52, 7, 8, 9, 10, 5, 11, 12, 13, 42, 43, 44, 97, 98, 99, 100, 101, 102, 103, 104, 105] (by decide +kernel) (by decide +kernel)) (goodIn_sub (fun _ h => List.mem_cons_of_mem _ (List.mem_append_left _ (List.mem_append_right _ h))) (by decide +kernel))
set_option maxRecDepth 20000 in
theorem gL_areSums_X2_told : GoodIn wsL_areSums (wsV RL 66 RX2 yX2_told wsX2_told) := goodIn_app (goodIn_of _ (by decide +kernel)) ggL_areSums_X2_told
set_option maxRecDepth 20000 in
theorem ggL_areSums_X2_tale : GoodIn wsL_areSums wsX2_tale := goodIn_ca (goodIn_ca (goodIn_r _ [56, 12, 13, 7, 8, 14, 15, 5, 16, 17, 18, 97, 98, 99, 100, 101, 102, 103, 104, 105] (by decide +kernel) (by decide +kernel)) (goodIn_sub (fun _ h => List.mem_cons_of_mem _ (List.mem_append_left _ (List.mem_append_right _ h))) (by decide +kernel))) (goodIn_sub (fun _ h => List.mem_cons_of_mem _ (List.mem_append_right _ h)) (by decide +kernel))
set_option maxRecDepth 20000 in
theorem gL_areSums_X2_tale : GoodIn wsL_areSums (wsV RL 69 RX2 yX2_tale wsX2_tale) := goodIn_app (goodIn_of _ (by decide +kernel)) ggL_areSums_X2_tale
set_option maxRecDepth 20000 in
theorem ggL_areSums_X2_count : GoodIn wsL_areSums wsX2_count := goodIn_ca (goodIn_r _ [60, 7, 8, 61, 14, 15, 5, 16, 17, 18, 62, 63, 64, 22, 65, 66, 67, 68, 69, 24, 70, 71, 72, 73, 74, 75, 76, 77, 78, 79, 80, 81, 82, 83, 84, 85, 86, 87, 97, 98, 99, 100, 101, 102, 103, 104, 105] (by decide +kernel) (by decide +kernel)) (goodIn_sub (fun _ h => List.mem_cons_of_mem _ (List.mem_append_right _ h)) (by decide +kernel))
set_option maxRecDepth 20000 in
theorem gL_areSums_X2_count : GoodIn wsL_areSums (wsV RL 57 RX2 yX2_count wsX2_count) := goodIn_app (goodIn_of _ (by decide +kernel)) ggL_areSums_X2_count
set_option maxRecDepth 20000 in
theorem ggL_areSums_X2_spiltShare : GoodIn wsL_areSums wsX2_spiltShare := goodIn_r _ [91, 7, 70, 71, 72, 22, 73, 66, 67, 68, 69, 24, 97, 98, 99, 100, 101, 102, 103, 104, 105] (by decide +kernel) (by decide +kernel)
set_option maxRecDepth 20000 in
theorem gL_areSums_X2_spiltShare : GoodIn wsL_areSums (wsV RL 53 RX2 yX2_spiltShare wsX2_spiltShare) := goodIn_app (goodIn_of _ (by decide +kernel)) ggL_areSums_X2_spiltShare
set_option maxRecDepth 20000 in
theorem ggL_areSums_X2_meanTrust : GoodIn wsL_areSums wsX2_meanTrust := goodIn_r _ [95, 7, 96, 70, 71, 72, 22, 73, 66, 67, 68, 69, 24, 97, 98, 99, 100, 101, 102, 103, 104, 105] (by decide +kernel) (by decide +kernel)
set_option maxRecDepth 20000 in
theorem gL_areSums_X2_meanTrust : GoodIn wsL_areSums (wsV RL 72 RX2 yX2_meanTrust wsX2_meanTrust) := goodIn_app (goodIn_of _ (by decide +kernel)) ggL_areSums_X2_meanTrust
theorem dL_areSums_0 : decode cL_areSums 0 = .ok (.iconst 0, 1) := by decide +kernel
theorem dL_areSums_1 : decode cL_areSums 1 = .ok (.istore_n 1, 1) := by decide +kernel
theorem dL_areSums_2 : decode cL_areSums 2 = .ok (.iconst 0, 1) := by decide +kernel
theorem dL_areSums_3 : decode cL_areSums 3 = .ok (.istore_n 2, 1) := by decide +kernel
theorem dL_areSums_4 : decode cL_areSums 4 = .ok (.iconst 0, 1) := by decide +kernel
theorem dL_areSums_5 : decode cL_areSums 5 = .ok (.istore_n 3, 1) := by decide +kernel
theorem dL_areSums_6 : decode cL_areSums 6 = .ok (.iconst 0, 1) := by decide +kernel
theorem dL_areSums_7 : decode cL_areSums 7 = .ok (.istore 4, 2) := by decide +kernel
theorem dL_areSums_9 : decode cL_areSums 9 = .ok (.iconst 0, 1) := by decide +kernel
theorem dL_areSums_10 : decode cL_areSums 10 = .ok (.istore 5, 2) := by decide +kernel
theorem dL_areSums_12 : decode cL_areSums 12 = .ok (.iconst 0, 1) := by decide +kernel
theorem dL_areSums_13 : decode cL_areSums 13 = .ok (.istore 6, 2) := by decide +kernel
theorem dL_areSums_15 : decode cL_areSums 15 = .ok (.iconst 0, 1) := by decide +kernel
theorem dL_areSums_16 : decode cL_areSums 16 = .ok (.istore 7, 2) := by decide +kernel
theorem dL_areSums_18 : decode cL_areSums 18 = .ok (.iconst 0, 1) := by decide +kernel
theorem dL_areSums_19 : decode cL_areSums 19 = .ok (.istore 8, 2) := by decide +kernel
theorem dL_areSums_21 : decode cL_areSums 21 = .ok (.iconst 0, 1) := by decide +kernel
theorem dL_areSums_22 : decode cL_areSums 22 = .ok (.istore 9, 2) := by decide +kernel
theorem dL_areSums_24 : decode cL_areSums 24 = .ok (.iconst 0, 1) := by decide +kernel
theorem dL_areSums_25 : decode cL_areSums 25 = .ok (.istore 10, 2) := by decide +kernel
theorem dL_areSums_27 : decode cL_areSums 27 = .ok (.iconst 0, 1) := by decide +kernel
theorem dL_areSums_28 : decode cL_areSums 28 = .ok (.istore 11, 2) := by decide +kernel
theorem dL_areSums_30 : decode cL_areSums 30 = .ok (.iconst 1, 1) := by decide +kernel
theorem dL_areSums_31 : decode cL_areSums 31 = .ok (.istore 12, 2) := by decide +kernel
theorem dL_areSums_33 : decode cL_areSums 33 = .ok (.iconst 0, 1) := by decide +kernel
theorem dL_areSums_34 : decode cL_areSums 34 = .ok (.istore 13, 2) := by decide +kernel
theorem dL_areSums_36 : decode cL_areSums 36 = .ok (.iload 13, 2) := by decide +kernel
theorem dL_areSums_38 : decode cL_areSums 38 = .ok (.iconst 3, 1) := by decide +kernel
theorem dL_areSums_39 : decode cL_areSums 39 = .ok (.if_icmp .ge 252, 3) := by decide +kernel
theorem dL_areSums_42 : decode cL_areSums 42 = .ok (.aload_n 0, 1) := by decide +kernel
theorem dL_areSums_43 : decode cL_areSums 43 = .ok (.iload 13, 2) := by decide +kernel
theorem dL_areSums_45 : decode cL_areSums 45 = .ok (.iconst 1, 1) := by decide +kernel
theorem dL_areSums_46 : decode cL_areSums 46 = .ok (.invokevirtual 63, 3) := by decide +kernel
theorem dL_areSums_49 : decode cL_areSums 49 = .ok (.istore 14, 2) := by decide +kernel
theorem dL_areSums_51 : decode cL_areSums 51 = .ok (.iload_n 3, 1) := by decide +kernel
theorem dL_areSums_52 : decode cL_areSums 52 = .ok (.iload 14, 2) := by decide +kernel
theorem dL_areSums_54 : decode cL_areSums 54 = .ok (.iadd, 1) := by decide +kernel
theorem dL_areSums_55 : decode cL_areSums 55 = .ok (.istore_n 3, 1) := by decide +kernel
theorem dL_areSums_56 : decode cL_areSums 56 = .ok (.iload_n 1, 1) := by decide +kernel
theorem dL_areSums_57 : decode cL_areSums 57 = .ok (.aload_n 0, 1) := by decide +kernel
theorem dL_areSums_58 : decode cL_areSums 58 = .ok (.iload 13, 2) := by decide +kernel
theorem dL_areSums_60 : decode cL_areSums 60 = .ok (.bipush 6, 2) := by decide +kernel
theorem dL_areSums_62 : decode cL_areSums 62 = .ok (.invokevirtual 63, 3) := by decide +kernel
theorem dL_areSums_65 : decode cL_areSums 65 = .ok (.iadd, 1) := by decide +kernel
theorem dL_areSums_66 : decode cL_areSums 66 = .ok (.istore_n 1, 1) := by decide +kernel
theorem dL_areSums_67 : decode cL_areSums 67 = .ok (.iload_n 2, 1) := by decide +kernel
theorem dL_areSums_68 : decode cL_areSums 68 = .ok (.aload_n 0, 1) := by decide +kernel
theorem dL_areSums_69 : decode cL_areSums 69 = .ok (.iload 13, 2) := by decide +kernel
theorem dL_areSums_71 : decode cL_areSums 71 = .ok (.bipush 7, 2) := by decide +kernel
theorem dL_areSums_73 : decode cL_areSums 73 = .ok (.invokevirtual 63, 3) := by decide +kernel
theorem dL_areSums_76 : decode cL_areSums 76 = .ok (.iadd, 1) := by decide +kernel
theorem dL_areSums_77 : decode cL_areSums 77 = .ok (.istore_n 2, 1) := by decide +kernel
theorem dL_areSums_78 : decode cL_areSums 78 = .ok (.iload 12, 2) := by decide +kernel
theorem dL_areSums_80 : decode cL_areSums 80 = .ok (.ifCond .eq 106, 3) := by decide +kernel
theorem dL_areSums_83 : decode cL_areSums 83 = .ok (.iload 14, 2) := by decide +kernel
theorem dL_areSums_85 : decode cL_areSums 85 = .ok (.ifCond .lt 101, 3) := by decide +kernel
theorem dL_areSums_88 : decode cL_areSums 88 = .ok (.iload 14, 2) := by decide +kernel
theorem dL_areSums_90 : decode cL_areSums 90 = .ok (.sipush 200, 3) := by decide +kernel
theorem dL_areSums_93 : decode cL_areSums 93 = .ok (.if_icmp .gt 93, 3) := by decide +kernel
theorem dL_areSums_96 : decode cL_areSums 96 = .ok (.aload_n 0, 1) := by decide +kernel
theorem dL_areSums_97 : decode cL_areSums 97 = .ok (.iload 13, 2) := by decide +kernel
theorem dL_areSums_99 : decode cL_areSums 99 = .ok (.iconst 2, 1) := by decide +kernel
theorem dL_areSums_100 : decode cL_areSums 100 = .ok (.invokevirtual 63, 3) := by decide +kernel
theorem dL_areSums_103 : decode cL_areSums 103 = .ok (.ifCond .lt 83, 3) := by decide +kernel
theorem dL_areSums_106 : decode cL_areSums 106 = .ok (.aload_n 0, 1) := by decide +kernel
theorem dL_areSums_107 : decode cL_areSums 107 = .ok (.iload 13, 2) := by decide +kernel
theorem dL_areSums_109 : decode cL_areSums 109 = .ok (.iconst 2, 1) := by decide +kernel
theorem dL_areSums_110 : decode cL_areSums 110 = .ok (.invokevirtual 63, 3) := by decide +kernel
theorem dL_areSums_113 : decode cL_areSums 113 = .ok (.sipush 200, 3) := by decide +kernel
theorem dL_areSums_116 : decode cL_areSums 116 = .ok (.if_icmp .gt 70, 3) := by decide +kernel
theorem dL_areSums_119 : decode cL_areSums 119 = .ok (.aload_n 0, 1) := by decide +kernel
theorem dL_areSums_120 : decode cL_areSums 120 = .ok (.iload 13, 2) := by decide +kernel
theorem dL_areSums_122 : decode cL_areSums 122 = .ok (.iconst 3, 1) := by decide +kernel
theorem dL_areSums_123 : decode cL_areSums 123 = .ok (.invokevirtual 63, 3) := by decide +kernel
theorem dL_areSums_126 : decode cL_areSums 126 = .ok (.iload 14, 2) := by decide +kernel
theorem dL_areSums_128 : decode cL_areSums 128 = .ok (.iload 14, 2) := by decide +kernel
theorem dL_areSums_130 : decode cL_areSums 130 = .ok (.bipush 20, 2) := by decide +kernel
theorem dL_areSums_132 : decode cL_areSums 132 = .ok (.irem, 1) := by decide +kernel
theorem dL_areSums_133 : decode cL_areSums 133 = .ok (.isub, 1) := by decide +kernel
theorem dL_areSums_134 : decode cL_areSums 134 = .ok (.if_icmp .ne 52, 3) := by decide +kernel
theorem dL_areSums_137 : decode cL_areSums 137 = .ok (.aload_n 0, 1) := by decide +kernel
theorem dL_areSums_138 : decode cL_areSums 138 = .ok (.aload_n 0, 1) := by decide +kernel
theorem dL_areSums_139 : decode cL_areSums 139 = .ok (.iload 13, 2) := by decide +kernel
theorem dL_areSums_141 : decode cL_areSums 141 = .ok (.iconst 0, 1) := by decide +kernel
theorem dL_areSums_142 : decode cL_areSums 142 = .ok (.invokevirtual 63, 3) := by decide +kernel
theorem dL_areSums_145 : decode cL_areSums 145 = .ok (.bipush 9, 2) := by decide +kernel
theorem dL_areSums_147 : decode cL_areSums 147 = .ok (.invokevirtual 60, 3) := by decide +kernel
theorem dL_areSums_150 : decode cL_areSums 150 = .ok (.iload 13, 2) := by decide +kernel
theorem dL_areSums_152 : decode cL_areSums 152 = .ok (.ishr, 1) := by decide +kernel
theorem dL_areSums_153 : decode cL_areSums 153 = .ok (.iconst 1, 1) := by decide +kernel
theorem dL_areSums_154 : decode cL_areSums 154 = .ok (.iand, 1) := by decide +kernel
theorem dL_areSums_155 : decode cL_areSums 155 = .ok (.iconst 1, 1) := by decide +kernel
theorem dL_areSums_156 : decode cL_areSums 156 = .ok (.if_icmp .ne 30, 3) := by decide +kernel
theorem dL_areSums_159 : decode cL_areSums 159 = .ok (.aload_n 0, 1) := by decide +kernel
theorem dL_areSums_160 : decode cL_areSums 160 = .ok (.iload 13, 2) := by decide +kernel
theorem dL_areSums_162 : decode cL_areSums 162 = .ok (.iconst 4, 1) := by decide +kernel
theorem dL_areSums_163 : decode cL_areSums 163 = .ok (.invokevirtual 63, 3) := by decide +kernel
theorem dL_areSums_166 : decode cL_areSums 166 = .ok (.sipush 200, 3) := by decide +kernel
theorem dL_areSums_169 : decode cL_areSums 169 = .ok (.if_icmp .gt 17, 3) := by decide +kernel
theorem dL_areSums_172 : decode cL_areSums 172 = .ok (.aload_n 0, 1) := by decide +kernel
theorem dL_areSums_173 : decode cL_areSums 173 = .ok (.iload 13, 2) := by decide +kernel
theorem dL_areSums_175 : decode cL_areSums 175 = .ok (.iconst 4, 1) := by decide +kernel
theorem dL_areSums_176 : decode cL_areSums 176 = .ok (.invokevirtual 63, 3) := by decide +kernel
theorem dL_areSums_179 : decode cL_areSums 179 = .ok (.ifCond .lt 7, 3) := by decide +kernel
theorem dL_areSums_182 : decode cL_areSums 182 = .ok (.iconst 1, 1) := by decide +kernel
theorem dL_areSums_183 : decode cL_areSums 183 = .ok (.goto 4, 3) := by decide +kernel
theorem dL_areSums_186 : decode cL_areSums 186 = .ok (.iconst 0, 1) := by decide +kernel
theorem dL_areSums_187 : decode cL_areSums 187 = .ok (.istore 12, 2) := by decide +kernel
theorem dL_areSums_189 : decode cL_areSums 189 = .ok (.iconst 0, 1) := by decide +kernel
theorem dL_areSums_190 : decode cL_areSums 190 = .ok (.istore 15, 2) := by decide +kernel
theorem dL_areSums_192 : decode cL_areSums 192 = .ok (.iload 15, 2) := by decide +kernel
theorem dL_areSums_194 : decode cL_areSums 194 = .ok (.bipush 8, 2) := by decide +kernel
theorem dL_areSums_196 : decode cL_areSums 196 = .ok (.if_icmp .ge 89, 3) := by decide +kernel
theorem dL_areSums_199 : decode cL_areSums 199 = .ok (.iload 10, 2) := by decide +kernel
theorem dL_areSums_201 : decode cL_areSums 201 = .ok (.aload_n 0, 1) := by decide +kernel
theorem dL_areSums_202 : decode cL_areSums 202 = .ok (.iload 13, 2) := by decide +kernel
theorem dL_areSums_204 : decode cL_areSums 204 = .ok (.iload 15, 2) := by decide +kernel
theorem dL_areSums_206 : decode cL_areSums 206 = .ok (.invokevirtual 66, 3) := by decide +kernel
theorem dL_areSums_209 : decode cL_areSums 209 = .ok (.ifCond .lt 7, 3) := by decide +kernel
theorem dL_areSums_212 : decode cL_areSums 212 = .ok (.iconst 1, 1) := by decide +kernel
theorem dL_areSums_213 : decode cL_areSums 213 = .ok (.goto 4, 3) := by decide +kernel
theorem dL_areSums_216 : decode cL_areSums 216 = .ok (.iconst 0, 1) := by decide +kernel
theorem dL_areSums_217 : decode cL_areSums 217 = .ok (.iadd, 1) := by decide +kernel
theorem dL_areSums_218 : decode cL_areSums 218 = .ok (.istore 10, 2) := by decide +kernel
theorem dL_areSums_220 : decode cL_areSums 220 = .ok (.iload 12, 2) := by decide +kernel
theorem dL_areSums_222 : decode cL_areSums 222 = .ok (.ifCond .eq 54, 3) := by decide +kernel
theorem dL_areSums_225 : decode cL_areSums 225 = .ok (.aload_n 0, 1) := by decide +kernel
theorem dL_areSums_226 : decode cL_areSums 226 = .ok (.iload 13, 2) := by decide +kernel
theorem dL_areSums_228 : decode cL_areSums 228 = .ok (.iload 15, 2) := by decide +kernel
theorem dL_areSums_230 : decode cL_areSums 230 = .ok (.invokevirtual 66, 3) := by decide +kernel
theorem dL_areSums_233 : decode cL_areSums 233 = .ok (.sipush 200, 3) := by decide +kernel
theorem dL_areSums_236 : decode cL_areSums 236 = .ok (.if_icmp .gt 40, 3) := by decide +kernel
theorem dL_areSums_239 : decode cL_areSums 239 = .ok (.aload_n 0, 1) := by decide +kernel
theorem dL_areSums_240 : decode cL_areSums 240 = .ok (.iload 13, 2) := by decide +kernel
theorem dL_areSums_242 : decode cL_areSums 242 = .ok (.bipush 7, 2) := by decide +kernel
theorem dL_areSums_244 : decode cL_areSums 244 = .ok (.invokevirtual 63, 3) := by decide +kernel
theorem dL_areSums_247 : decode cL_areSums 247 = .ok (.ifCond .gt 25, 3) := by decide +kernel
theorem dL_areSums_250 : decode cL_areSums 250 = .ok (.aload_n 0, 1) := by decide +kernel
theorem dL_areSums_251 : decode cL_areSums 251 = .ok (.iload 13, 2) := by decide +kernel
theorem dL_areSums_253 : decode cL_areSums 253 = .ok (.iload 15, 2) := by decide +kernel
theorem dL_areSums_255 : decode cL_areSums 255 = .ok (.invokevirtual 66, 3) := by decide +kernel
theorem dL_areSums_258 : decode cL_areSums 258 = .ok (.iconst (-1), 1) := by decide +kernel
theorem dL_areSums_259 : decode cL_areSums 259 = .ok (.if_icmp .ne 17, 3) := by decide +kernel
theorem dL_areSums_262 : decode cL_areSums 262 = .ok (.aload_n 0, 1) := by decide +kernel
theorem dL_areSums_263 : decode cL_areSums 263 = .ok (.iload 13, 2) := by decide +kernel
theorem dL_areSums_265 : decode cL_areSums 265 = .ok (.iconst 2, 1) := by decide +kernel
theorem dL_areSums_266 : decode cL_areSums 266 = .ok (.invokevirtual 63, 3) := by decide +kernel
theorem dL_areSums_269 : decode cL_areSums 269 = .ok (.ifCond .ne 7, 3) := by decide +kernel
theorem dL_areSums_272 : decode cL_areSums 272 = .ok (.iconst 1, 1) := by decide +kernel
theorem dL_areSums_273 : decode cL_areSums 273 = .ok (.goto 4, 3) := by decide +kernel
theorem dL_areSums_276 : decode cL_areSums 276 = .ok (.iconst 0, 1) := by decide +kernel
theorem dL_areSums_277 : decode cL_areSums 277 = .ok (.istore 12, 2) := by decide +kernel
theorem dL_areSums_279 : decode cL_areSums 279 = .ok (.iinc 15 1, 3) := by decide +kernel
theorem dL_areSums_282 : decode cL_areSums 282 = .ok (.goto (-90), 3) := by decide +kernel
theorem dL_areSums_285 : decode cL_areSums 285 = .ok (.iinc 13 1, 3) := by decide +kernel
theorem dL_areSums_288 : decode cL_areSums 288 = .ok (.goto (-252), 3) := by decide +kernel
theorem dL_areSums_291 : decode cL_areSums 291 = .ok (.iconst 0, 1) := by decide +kernel
theorem dL_areSums_292 : decode cL_areSums 292 = .ok (.istore 13, 2) := by decide +kernel
theorem dL_areSums_294 : decode cL_areSums 294 = .ok (.iload 13, 2) := by decide +kernel
theorem dL_areSums_296 : decode cL_areSums 296 = .ok (.bipush 8, 2) := by decide +kernel
theorem dL_areSums_298 : decode cL_areSums 298 = .ok (.if_icmp .ge 199, 3) := by decide +kernel
theorem dL_areSums_301 : decode cL_areSums 301 = .ok (.iload 4, 2) := by decide +kernel
theorem dL_areSums_303 : decode cL_areSums 303 = .ok (.aload_n 0, 1) := by decide +kernel
theorem dL_areSums_304 : decode cL_areSums 304 = .ok (.iload 13, 2) := by decide +kernel
theorem dL_areSums_306 : decode cL_areSums 306 = .ok (.iconst 1, 1) := by decide +kernel
theorem dL_areSums_307 : decode cL_areSums 307 = .ok (.invokevirtual 60, 3) := by decide +kernel
theorem dL_areSums_310 : decode cL_areSums 310 = .ok (.iadd, 1) := by decide +kernel
theorem dL_areSums_311 : decode cL_areSums 311 = .ok (.istore 4, 2) := by decide +kernel
theorem dL_areSums_313 : decode cL_areSums 313 = .ok (.iload 8, 2) := by decide +kernel
theorem dL_areSums_315 : decode cL_areSums 315 = .ok (.aload_n 0, 1) := by decide +kernel
theorem dL_areSums_316 : decode cL_areSums 316 = .ok (.iload 13, 2) := by decide +kernel
theorem dL_areSums_318 : decode cL_areSums 318 = .ok (.iconst 5, 1) := by decide +kernel
theorem dL_areSums_319 : decode cL_areSums 319 = .ok (.invokevirtual 60, 3) := by decide +kernel
theorem dL_areSums_322 : decode cL_areSums 322 = .ok (.iadd, 1) := by decide +kernel
theorem dL_areSums_323 : decode cL_areSums 323 = .ok (.istore 8, 2) := by decide +kernel
theorem dL_areSums_325 : decode cL_areSums 325 = .ok (.iload 5, 2) := by decide +kernel
theorem dL_areSums_327 : decode cL_areSums 327 = .ok (.aload_n 0, 1) := by decide +kernel
theorem dL_areSums_328 : decode cL_areSums 328 = .ok (.iload 13, 2) := by decide +kernel
theorem dL_areSums_330 : decode cL_areSums 330 = .ok (.bipush 6, 2) := by decide +kernel
theorem dL_areSums_332 : decode cL_areSums 332 = .ok (.invokevirtual 60, 3) := by decide +kernel
theorem dL_areSums_335 : decode cL_areSums 335 = .ok (.iadd, 1) := by decide +kernel
theorem dL_areSums_336 : decode cL_areSums 336 = .ok (.istore 5, 2) := by decide +kernel
theorem dL_areSums_338 : decode cL_areSums 338 = .ok (.iload 6, 2) := by decide +kernel
theorem dL_areSums_340 : decode cL_areSums 340 = .ok (.aload_n 0, 1) := by decide +kernel
theorem dL_areSums_341 : decode cL_areSums 341 = .ok (.iload 13, 2) := by decide +kernel
theorem dL_areSums_343 : decode cL_areSums 343 = .ok (.bipush 7, 2) := by decide +kernel
theorem dL_areSums_345 : decode cL_areSums 345 = .ok (.invokevirtual 60, 3) := by decide +kernel
theorem dL_areSums_348 : decode cL_areSums 348 = .ok (.iadd, 1) := by decide +kernel
theorem dL_areSums_349 : decode cL_areSums 349 = .ok (.istore 6, 2) := by decide +kernel
theorem dL_areSums_351 : decode cL_areSums 351 = .ok (.iload 7, 2) := by decide +kernel
theorem dL_areSums_353 : decode cL_areSums 353 = .ok (.aload_n 0, 1) := by decide +kernel
theorem dL_areSums_354 : decode cL_areSums 354 = .ok (.iload 13, 2) := by decide +kernel
theorem dL_areSums_356 : decode cL_areSums 356 = .ok (.bipush 8, 2) := by decide +kernel
theorem dL_areSums_358 : decode cL_areSums 358 = .ok (.invokevirtual 60, 3) := by decide +kernel
theorem dL_areSums_361 : decode cL_areSums 361 = .ok (.iadd, 1) := by decide +kernel
theorem dL_areSums_362 : decode cL_areSums 362 = .ok (.istore 7, 2) := by decide +kernel
theorem dL_areSums_364 : decode cL_areSums 364 = .ok (.iload 9, 2) := by decide +kernel
theorem dL_areSums_366 : decode cL_areSums 366 = .ok (.aload_n 0, 1) := by decide +kernel
theorem dL_areSums_367 : decode cL_areSums 367 = .ok (.iload 13, 2) := by decide +kernel
theorem dL_areSums_369 : decode cL_areSums 369 = .ok (.iconst 3, 1) := by decide +kernel
theorem dL_areSums_370 : decode cL_areSums 370 = .ok (.invokevirtual 60, 3) := by decide +kernel
theorem dL_areSums_373 : decode cL_areSums 373 = .ok (.iadd, 1) := by decide +kernel
theorem dL_areSums_374 : decode cL_areSums 374 = .ok (.istore 9, 2) := by decide +kernel
theorem dL_areSums_376 : decode cL_areSums 376 = .ok (.iload 12, 2) := by decide +kernel
theorem dL_areSums_378 : decode cL_areSums 378 = .ok (.ifCond .eq 110, 3) := by decide +kernel
theorem dL_areSums_381 : decode cL_areSums 381 = .ok (.aload_n 0, 1) := by decide +kernel
theorem dL_areSums_382 : decode cL_areSums 382 = .ok (.iload 13, 2) := by decide +kernel
theorem dL_areSums_384 : decode cL_areSums 384 = .ok (.iconst 1, 1) := by decide +kernel
theorem dL_areSums_385 : decode cL_areSums 385 = .ok (.invokevirtual 60, 3) := by decide +kernel
theorem dL_areSums_388 : decode cL_areSums 388 = .ok (.ifCond .lt 100, 3) := by decide +kernel
theorem dL_areSums_391 : decode cL_areSums 391 = .ok (.aload_n 0, 1) := by decide +kernel
theorem dL_areSums_392 : decode cL_areSums 392 = .ok (.iload 13, 2) := by decide +kernel
theorem dL_areSums_394 : decode cL_areSums 394 = .ok (.iconst 1, 1) := by decide +kernel
theorem dL_areSums_395 : decode cL_areSums 395 = .ok (.invokevirtual 60, 3) := by decide +kernel
theorem dL_areSums_398 : decode cL_areSums 398 = .ok (.aload_n 0, 1) := by decide +kernel
theorem dL_areSums_399 : decode cL_areSums 399 = .ok (.iload 13, 2) := by decide +kernel
theorem dL_areSums_401 : decode cL_areSums 401 = .ok (.iconst 0, 1) := by decide +kernel
theorem dL_areSums_402 : decode cL_areSums 402 = .ok (.invokevirtual 60, 3) := by decide +kernel
theorem dL_areSums_405 : decode cL_areSums 405 = .ok (.if_icmp .gt 83, 3) := by decide +kernel
theorem dL_areSums_408 : decode cL_areSums 408 = .ok (.aload_n 0, 1) := by decide +kernel
theorem dL_areSums_409 : decode cL_areSums 409 = .ok (.iload 13, 2) := by decide +kernel
theorem dL_areSums_411 : decode cL_areSums 411 = .ok (.iconst 3, 1) := by decide +kernel
theorem dL_areSums_412 : decode cL_areSums 412 = .ok (.invokevirtual 60, 3) := by decide +kernel
theorem dL_areSums_415 : decode cL_areSums 415 = .ok (.ifCond .lt 73, 3) := by decide +kernel
theorem dL_areSums_418 : decode cL_areSums 418 = .ok (.aload_n 0, 1) := by decide +kernel
theorem dL_areSums_419 : decode cL_areSums 419 = .ok (.iload 13, 2) := by decide +kernel
theorem dL_areSums_421 : decode cL_areSums 421 = .ok (.iconst 3, 1) := by decide +kernel
theorem dL_areSums_422 : decode cL_areSums 422 = .ok (.invokevirtual 60, 3) := by decide +kernel
theorem dL_areSums_425 : decode cL_areSums 425 = .ok (.bipush 11, 2) := by decide +kernel
theorem dL_areSums_427 : decode cL_areSums 427 = .ok (.if_icmp .ge 61, 3) := by decide +kernel
theorem dL_areSums_430 : decode cL_areSums 430 = .ok (.aload_n 0, 1) := by decide +kernel
theorem dL_areSums_431 : decode cL_areSums 431 = .ok (.iload 13, 2) := by decide +kernel
theorem dL_areSums_433 : decode cL_areSums 433 = .ok (.bipush 8, 2) := by decide +kernel
theorem dL_areSums_435 : decode cL_areSums 435 = .ok (.invokevirtual 60, 3) := by decide +kernel
theorem dL_areSums_438 : decode cL_areSums 438 = .ok (.aload_n 0, 1) := by decide +kernel
theorem dL_areSums_439 : decode cL_areSums 439 = .ok (.iload 13, 2) := by decide +kernel
theorem dL_areSums_441 : decode cL_areSums 441 = .ok (.iconst 1, 1) := by decide +kernel
theorem dL_areSums_442 : decode cL_areSums 442 = .ok (.invokevirtual 60, 3) := by decide +kernel
theorem dL_areSums_445 : decode cL_areSums 445 = .ok (.aload_n 0, 1) := by decide +kernel
theorem dL_areSums_446 : decode cL_areSums 446 = .ok (.iload 13, 2) := by decide +kernel
theorem dL_areSums_448 : decode cL_areSums 448 = .ok (.bipush 6, 2) := by decide +kernel
theorem dL_areSums_450 : decode cL_areSums 450 = .ok (.invokevirtual 60, 3) := by decide +kernel
theorem dL_areSums_453 : decode cL_areSums 453 = .ok (.iadd, 1) := by decide +kernel
theorem dL_areSums_454 : decode cL_areSums 454 = .ok (.aload_n 0, 1) := by decide +kernel
theorem dL_areSums_455 : decode cL_areSums 455 = .ok (.iload 13, 2) := by decide +kernel
theorem dL_areSums_457 : decode cL_areSums 457 = .ok (.bipush 7, 2) := by decide +kernel
theorem dL_areSums_459 : decode cL_areSums 459 = .ok (.invokevirtual 60, 3) := by decide +kernel
theorem dL_areSums_462 : decode cL_areSums 462 = .ok (.iadd, 1) := by decide +kernel
theorem dL_areSums_463 : decode cL_areSums 463 = .ok (.if_icmp .ne 25, 3) := by decide +kernel
theorem dL_areSums_466 : decode cL_areSums 466 = .ok (.aload_n 0, 1) := by decide +kernel
theorem dL_areSums_467 : decode cL_areSums 467 = .ok (.iload 13, 2) := by decide +kernel
theorem dL_areSums_469 : decode cL_areSums 469 = .ok (.iconst 5, 1) := by decide +kernel
theorem dL_areSums_470 : decode cL_areSums 470 = .ok (.invokevirtual 60, 3) := by decide +kernel
theorem dL_areSums_473 : decode cL_areSums 473 = .ok (.aload_n 0, 1) := by decide +kernel
theorem dL_areSums_474 : decode cL_areSums 474 = .ok (.iload 13, 2) := by decide +kernel
theorem dL_areSums_476 : decode cL_areSums 476 = .ok (.bipush 7, 2) := by decide +kernel
theorem dL_areSums_478 : decode cL_areSums 478 = .ok (.invokevirtual 60, 3) := by decide +kernel
theorem dL_areSums_481 : decode cL_areSums 481 = .ok (.if_icmp .gt 7, 3) := by decide +kernel
theorem dL_areSums_484 : decode cL_areSums 484 = .ok (.iconst 1, 1) := by decide +kernel
theorem dL_areSums_485 : decode cL_areSums 485 = .ok (.goto 4, 3) := by decide +kernel
theorem dL_areSums_488 : decode cL_areSums 488 = .ok (.iconst 0, 1) := by decide +kernel
theorem dL_areSums_489 : decode cL_areSums 489 = .ok (.istore 12, 2) := by decide +kernel
theorem dL_areSums_491 : decode cL_areSums 491 = .ok (.iinc 13 1, 3) := by decide +kernel
theorem dL_areSums_494 : decode cL_areSums 494 = .ok (.goto (-200), 3) := by decide +kernel
theorem dL_areSums_497 : decode cL_areSums 497 = .ok (.iconst 0, 1) := by decide +kernel
theorem dL_areSums_498 : decode cL_areSums 498 = .ok (.istore 13, 2) := by decide +kernel
theorem dL_areSums_500 : decode cL_areSums 500 = .ok (.iload 13, 2) := by decide +kernel
theorem dL_areSums_502 : decode cL_areSums 502 = .ok (.iload 10, 2) := by decide +kernel
theorem dL_areSums_504 : decode cL_areSums 504 = .ok (.if_icmp .ge 104, 3) := by decide +kernel
theorem dL_areSums_507 : decode cL_areSums 507 = .ok (.aload_n 0, 1) := by decide +kernel
theorem dL_areSums_508 : decode cL_areSums 508 = .ok (.iload 13, 2) := by decide +kernel
theorem dL_areSums_510 : decode cL_areSums 510 = .ok (.iconst 0, 1) := by decide +kernel
theorem dL_areSums_511 : decode cL_areSums 511 = .ok (.invokevirtual 69, 3) := by decide +kernel
theorem dL_areSums_514 : decode cL_areSums 514 = .ok (.istore 14, 2) := by decide +kernel
theorem dL_areSums_516 : decode cL_areSums 516 = .ok (.iload 12, 2) := by decide +kernel
theorem dL_areSums_518 : decode cL_areSums 518 = .ok (.ifCond .eq 63, 3) := by decide +kernel
theorem dL_areSums_521 : decode cL_areSums 521 = .ok (.iload 14, 2) := by decide +kernel
theorem dL_areSums_523 : decode cL_areSums 523 = .ok (.ifCond .lt 58, 3) := by decide +kernel
theorem dL_areSums_526 : decode cL_areSums 526 = .ok (.iload 14, 2) := by decide +kernel
theorem dL_areSums_528 : decode cL_areSums 528 = .ok (.bipush 24, 2) := by decide +kernel
theorem dL_areSums_530 : decode cL_areSums 530 = .ok (.if_icmp .ge 51, 3) := by decide +kernel
theorem dL_areSums_533 : decode cL_areSums 533 = .ok (.iload 11, 2) := by decide +kernel
theorem dL_areSums_535 : decode cL_areSums 535 = .ok (.iload 14, 2) := by decide +kernel
theorem dL_areSums_537 : decode cL_areSums 537 = .ok (.ishr, 1) := by decide +kernel
theorem dL_areSums_538 : decode cL_areSums 538 = .ok (.iconst 1, 1) := by decide +kernel
theorem dL_areSums_539 : decode cL_areSums 539 = .ok (.iand, 1) := by decide +kernel
theorem dL_areSums_540 : decode cL_areSums 540 = .ok (.ifCond .ne 41, 3) := by decide +kernel
theorem dL_areSums_543 : decode cL_areSums 543 = .ok (.aload_n 0, 1) := by decide +kernel
theorem dL_areSums_544 : decode cL_areSums 544 = .ok (.iload 13, 2) := by decide +kernel
theorem dL_areSums_546 : decode cL_areSums 546 = .ok (.iconst 1, 1) := by decide +kernel
theorem dL_areSums_547 : decode cL_areSums 547 = .ok (.invokevirtual 69, 3) := by decide +kernel
theorem dL_areSums_550 : decode cL_areSums 550 = .ok (.aload_n 0, 1) := by decide +kernel
theorem dL_areSums_551 : decode cL_areSums 551 = .ok (.iload 14, 2) := by decide +kernel
theorem dL_areSums_553 : decode cL_areSums 553 = .ok (.bipush 8, 2) := by decide +kernel
theorem dL_areSums_555 : decode cL_areSums 555 = .ok (.idiv, 1) := by decide +kernel
theorem dL_areSums_556 : decode cL_areSums 556 = .ok (.iload 14, 2) := by decide +kernel
theorem dL_areSums_558 : decode cL_areSums 558 = .ok (.bipush 8, 2) := by decide +kernel
theorem dL_areSums_560 : decode cL_areSums 560 = .ok (.irem, 1) := by decide +kernel
theorem dL_areSums_561 : decode cL_areSums 561 = .ok (.invokevirtual 66, 3) := by decide +kernel
theorem dL_areSums_564 : decode cL_areSums 564 = .ok (.if_icmp .ne 17, 3) := by decide +kernel
theorem dL_areSums_567 : decode cL_areSums 567 = .ok (.aload_n 0, 1) := by decide +kernel
theorem dL_areSums_568 : decode cL_areSums 568 = .ok (.iload 13, 2) := by decide +kernel
theorem dL_areSums_570 : decode cL_areSums 570 = .ok (.iconst 1, 1) := by decide +kernel
theorem dL_areSums_571 : decode cL_areSums 571 = .ok (.invokevirtual 69, 3) := by decide +kernel
theorem dL_areSums_574 : decode cL_areSums 574 = .ok (.ifCond .lt 7, 3) := by decide +kernel
theorem dL_areSums_577 : decode cL_areSums 577 = .ok (.iconst 1, 1) := by decide +kernel
theorem dL_areSums_578 : decode cL_areSums 578 = .ok (.goto 4, 3) := by decide +kernel
theorem dL_areSums_581 : decode cL_areSums 581 = .ok (.iconst 0, 1) := by decide +kernel
theorem dL_areSums_582 : decode cL_areSums 582 = .ok (.istore 12, 2) := by decide +kernel
theorem dL_areSums_584 : decode cL_areSums 584 = .ok (.iload 11, 2) := by decide +kernel
theorem dL_areSums_586 : decode cL_areSums 586 = .ok (.iload 14, 2) := by decide +kernel
theorem dL_areSums_588 : decode cL_areSums 588 = .ok (.ifCond .ge 7, 3) := by decide +kernel
theorem dL_areSums_591 : decode cL_areSums 591 = .ok (.iconst 0, 1) := by decide +kernel
theorem dL_areSums_592 : decode cL_areSums 592 = .ok (.goto 7, 3) := by decide +kernel
theorem dL_areSums_595 : decode cL_areSums 595 = .ok (.iconst 1, 1) := by decide +kernel
theorem dL_areSums_596 : decode cL_areSums 596 = .ok (.iload 14, 2) := by decide +kernel
theorem dL_areSums_598 : decode cL_areSums 598 = .ok (.ishl, 1) := by decide +kernel
theorem dL_areSums_599 : decode cL_areSums 599 = .ok (.ior, 1) := by decide +kernel
theorem dL_areSums_600 : decode cL_areSums 600 = .ok (.istore 11, 2) := by decide +kernel
theorem dL_areSums_602 : decode cL_areSums 602 = .ok (.iinc 13 1, 3) := by decide +kernel
theorem dL_areSums_605 : decode cL_areSums 605 = .ok (.goto (-105), 3) := by decide +kernel
theorem dL_areSums_608 : decode cL_areSums 608 = .ok (.iload 7, 2) := by decide +kernel
theorem dL_areSums_610 : decode cL_areSums 610 = .ok (.ifCond .ne 7, 3) := by decide +kernel
theorem dL_areSums_613 : decode cL_areSums 613 = .ok (.dconst 0, 1) := by decide +kernel
theorem dL_areSums_614 : decode cL_areSums 614 = .ok (.goto 12, 3) := by decide +kernel
theorem dL_areSums_617 : decode cL_areSums 617 = .ok (.iload 6, 2) := by decide +kernel
theorem dL_areSums_619 : decode cL_areSums 619 = .ok (.i2d, 1) := by decide +kernel
theorem dL_areSums_620 : decode cL_areSums 620 = .ok (.dconst 1, 1) := by decide +kernel
theorem dL_areSums_621 : decode cL_areSums 621 = .ok (.dmul, 1) := by decide +kernel
theorem dL_areSums_622 : decode cL_areSums 622 = .ok (.iload 7, 2) := by decide +kernel
theorem dL_areSums_624 : decode cL_areSums 624 = .ok (.i2d, 1) := by decide +kernel
theorem dL_areSums_625 : decode cL_areSums 625 = .ok (.ddiv, 1) := by decide +kernel
theorem dL_areSums_626 : decode cL_areSums 626 = .ok (.dstore 13, 2) := by decide +kernel
theorem dL_areSums_628 : decode cL_areSums 628 = .ok (.iload 12, 2) := by decide +kernel
theorem dL_areSums_630 : decode cL_areSums 630 = .ok (.ifCond .eq 150, 3) := by decide +kernel
theorem dL_areSums_633 : decode cL_areSums 633 = .ok (.aload_n 0, 1) := by decide +kernel
theorem dL_areSums_634 : decode cL_areSums 634 = .ok (.iload 10, 2) := by decide +kernel
theorem dL_areSums_636 : decode cL_areSums 636 = .ok (.iconst 0, 1) := by decide +kernel
theorem dL_areSums_637 : decode cL_areSums 637 = .ok (.invokevirtual 69, 3) := by decide +kernel
theorem dL_areSums_640 : decode cL_areSums 640 = .ok (.iconst (-1), 1) := by decide +kernel
theorem dL_areSums_641 : decode cL_areSums 641 = .ok (.if_icmp .ne 139, 3) := by decide +kernel
theorem dL_areSums_644 : decode cL_areSums 644 = .ok (.iload 10, 2) := by decide +kernel
theorem dL_areSums_646 : decode cL_areSums 646 = .ok (.aload_n 0, 1) := by decide +kernel
theorem dL_areSums_647 : decode cL_areSums 647 = .ok (.bipush 8, 2) := by decide +kernel
theorem dL_areSums_649 : decode cL_areSums 649 = .ok (.invokevirtual 57, 3) := by decide +kernel
theorem dL_areSums_652 : decode cL_areSums 652 = .ok (.if_icmp .ne 128, 3) := by decide +kernel
theorem dL_areSums_655 : decode cL_areSums 655 = .ok (.iload_n 1, 1) := by decide +kernel
theorem dL_areSums_656 : decode cL_areSums 656 = .ok (.aload_n 0, 1) := by decide +kernel
theorem dL_areSums_657 : decode cL_areSums 657 = .ok (.iconst 0, 1) := by decide +kernel
theorem dL_areSums_658 : decode cL_areSums 658 = .ok (.invokevirtual 57, 3) := by decide +kernel
theorem dL_areSums_661 : decode cL_areSums 661 = .ok (.if_icmp .ne 119, 3) := by decide +kernel
theorem dL_areSums_664 : decode cL_areSums 664 = .ok (.iload 5, 2) := by decide +kernel
theorem dL_areSums_666 : decode cL_areSums 666 = .ok (.aload_n 0, 1) := by decide +kernel
theorem dL_areSums_667 : decode cL_areSums 667 = .ok (.iconst 1, 1) := by decide +kernel
theorem dL_areSums_668 : decode cL_areSums 668 = .ok (.invokevirtual 57, 3) := by decide +kernel
theorem dL_areSums_671 : decode cL_areSums 671 = .ok (.if_icmp .ne 109, 3) := by decide +kernel
theorem dL_areSums_674 : decode cL_areSums 674 = .ok (.iload 6, 2) := by decide +kernel
theorem dL_areSums_676 : decode cL_areSums 676 = .ok (.aload_n 0, 1) := by decide +kernel
theorem dL_areSums_677 : decode cL_areSums 677 = .ok (.iconst 2, 1) := by decide +kernel
theorem dL_areSums_678 : decode cL_areSums 678 = .ok (.invokevirtual 57, 3) := by decide +kernel
theorem dL_areSums_681 : decode cL_areSums 681 = .ok (.if_icmp .ne 99, 3) := by decide +kernel
theorem dL_areSums_684 : decode cL_areSums 684 = .ok (.iload_n 3, 1) := by decide +kernel
theorem dL_areSums_685 : decode cL_areSums 685 = .ok (.iload 4, 2) := by decide +kernel
theorem dL_areSums_687 : decode cL_areSums 687 = .ok (.iadd, 1) := by decide +kernel
theorem dL_areSums_688 : decode cL_areSums 688 = .ok (.aload_n 0, 1) := by decide +kernel
theorem dL_areSums_689 : decode cL_areSums 689 = .ok (.iconst 3, 1) := by decide +kernel
theorem dL_areSums_690 : decode cL_areSums 690 = .ok (.invokevirtual 57, 3) := by decide +kernel
theorem dL_areSums_693 : decode cL_areSums 693 = .ok (.if_icmp .ne 87, 3) := by decide +kernel
theorem dL_areSums_696 : decode cL_areSums 696 = .ok (.aload_n 0, 1) := by decide +kernel
theorem dL_areSums_697 : decode cL_areSums 697 = .ok (.iconst 4, 1) := by decide +kernel
theorem dL_areSums_698 : decode cL_areSums 698 = .ok (.invokevirtual 57, 3) := by decide +kernel
theorem dL_areSums_701 : decode cL_areSums 701 = .ok (.aload_n 0, 1) := by decide +kernel
theorem dL_areSums_702 : decode cL_areSums 702 = .ok (.iconst 3, 1) := by decide +kernel
theorem dL_areSums_703 : decode cL_areSums 703 = .ok (.invokevirtual 57, 3) := by decide +kernel
theorem dL_areSums_706 : decode cL_areSums 706 = .ok (.if_icmp .ne 74, 3) := by decide +kernel
theorem dL_areSums_709 : decode cL_areSums 709 = .ok (.iload_n 1, 1) := by decide +kernel
theorem dL_areSums_710 : decode cL_areSums 710 = .ok (.iload_n 3, 1) := by decide +kernel
theorem dL_areSums_711 : decode cL_areSums 711 = .ok (.iload 7, 2) := by decide +kernel
theorem dL_areSums_713 : decode cL_areSums 713 = .ok (.iadd, 1) := by decide +kernel
theorem dL_areSums_714 : decode cL_areSums 714 = .ok (.if_icmp .ne 66, 3) := by decide +kernel
theorem dL_areSums_717 : decode cL_areSums 717 = .ok (.iload 8, 2) := by decide +kernel
theorem dL_areSums_719 : decode cL_areSums 719 = .ok (.aload_n 0, 1) := by decide +kernel
theorem dL_areSums_720 : decode cL_areSums 720 = .ok (.bipush 6, 2) := by decide +kernel
theorem dL_areSums_722 : decode cL_areSums 722 = .ok (.invokevirtual 57, 3) := by decide +kernel
theorem dL_areSums_725 : decode cL_areSums 725 = .ok (.if_icmp .ne 55, 3) := by decide +kernel
theorem dL_areSums_728 : decode cL_areSums 728 = .ok (.aload_n 0, 1) := by decide +kernel
theorem dL_areSums_729 : decode cL_areSums 729 = .ok (.bipush 6, 2) := by decide +kernel
theorem dL_areSums_731 : decode cL_areSums 731 = .ok (.invokevirtual 57, 3) := by decide +kernel
theorem dL_areSums_734 : decode cL_areSums 734 = .ok (.aload_n 0, 1) := by decide +kernel
theorem dL_areSums_735 : decode cL_areSums 735 = .ok (.iconst 5, 1) := by decide +kernel
theorem dL_areSums_736 : decode cL_areSums 736 = .ok (.invokevirtual 57, 3) := by decide +kernel
theorem dL_areSums_739 : decode cL_areSums 739 = .ok (.if_icmp .gt 41, 3) := by decide +kernel
theorem dL_areSums_742 : decode cL_areSums 742 = .ok (.iload_n 2, 1) := by decide +kernel
theorem dL_areSums_743 : decode cL_areSums 743 = .ok (.aload_n 0, 1) := by decide +kernel
theorem dL_areSums_744 : decode cL_areSums 744 = .ok (.bipush 7, 2) := by decide +kernel
theorem dL_areSums_746 : decode cL_areSums 746 = .ok (.invokevirtual 57, 3) := by decide +kernel
theorem dL_areSums_749 : decode cL_areSums 749 = .ok (.if_icmp .ne 31, 3) := by decide +kernel
theorem dL_areSums_752 : decode cL_areSums 752 = .ok (.aload_n 0, 1) := by decide +kernel
theorem dL_areSums_753 : decode cL_areSums 753 = .ok (.invokevirtual 53, 3) := by decide +kernel
theorem dL_areSums_756 : decode cL_areSums 756 = .ok (.dload 13, 2) := by decide +kernel
theorem dL_areSums_758 : decode cL_areSums 758 = .ok (.dcmp .l, 1) := by decide +kernel
theorem dL_areSums_759 : decode cL_areSums 759 = .ok (.ifCond .ne 21, 3) := by decide +kernel
theorem dL_areSums_762 : decode cL_areSums 762 = .ok (.aload_n 0, 1) := by decide +kernel
theorem dL_areSums_763 : decode cL_areSums 763 = .ok (.invokevirtual 72, 3) := by decide +kernel
theorem dL_areSums_766 : decode cL_areSums 766 = .ok (.ldc 76, 2) := by decide +kernel
theorem dL_areSums_768 : decode cL_areSums 768 = .ok (.fmul, 1) := by decide +kernel
theorem dL_areSums_769 : decode cL_areSums 769 = .ok (.iload 9, 2) := by decide +kernel
theorem dL_areSums_771 : decode cL_areSums 771 = .ok (.i2f, 1) := by decide +kernel
theorem dL_areSums_772 : decode cL_areSums 772 = .ok (.fcmp .l, 1) := by decide +kernel
theorem dL_areSums_773 : decode cL_areSums 773 = .ok (.ifCond .ne 7, 3) := by decide +kernel
theorem dL_areSums_776 : decode cL_areSums 776 = .ok (.iconst 1, 1) := by decide +kernel
theorem dL_areSums_777 : decode cL_areSums 777 = .ok (.goto 4, 3) := by decide +kernel
theorem dL_areSums_780 : decode cL_areSums 780 = .ok (.iconst 0, 1) := by decide +kernel
theorem dL_areSums_781 : decode cL_areSums 781 = .ok (.ireturn, 1) := by decide +kernel

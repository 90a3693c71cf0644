set_option maxRecDepth 20000 in
theorem ggL_act_L_low : GoodIn wsL_act wsL_low := goodIn_r _ [4, 5] (by decide +kernel) (by decide +kernel)
set_option maxRecDepth 20000 in
theorem gL_act_L_low : GoodIn wsL_act (va_wsS RL 40 yL_low wsL_low) := goodIn_app (goodIn_of _ (by decide +kernel)) ggL_act_L_low
set_option maxRecDepth 20000 in
theorem ggL_act_L_changes : GoodIn wsL_act wsL_changes := goodIn_ca (goodIn_ca (goodIn_ca (goodIn_r _ [8, 9, 10, 11, 12, 13, 14, 15, 16, 17, 18, 19, 20, 21, 22, 23, 24, 25, 26, 27, 28, 29, 30, 31, 32, 33, 34, 35, 36, 37, 38, 39, 40, 41, 42, 43, 44, 45, 46, 47, 48, 49, 50, 51, 52, 53, 54, 55, 56, 57, 58, 59, 60, 61, 62, 63, 64, 65, 66, 67, 68, 69, 70, 71, 72, 73, 74, 75, 76, 77, 78, 79, 80, 81, 82, 83, 84, 85, 86, 87, 88, 89, 90, 91, 92, 93, 94, 95, 96, 97, 98, 99, 100, 101, 102, 103, 104, 105, 106, 107, 108, 109, 110, 111, 112, 113, 114, 115, 116, 117, 118, 119, 120, 121, 122, 123, 124, 125, 126, 127, 128, 129, 130, 131, 139, 140, 141, 142, 143, 144, 145, 146, 147] (by decide +kernel) (by decide +kernel)) (goodIn_sub (fun _ h => List.mem_cons_of_mem _ (List.mem_append_left _ (List.mem_append_left _ (List.mem_append_right _ h)))) (by decide +kernel))) (goodIn_sub (fun _ h => List.mem_cons_of_mem _ (List.mem_append_left _ (List.mem_append_right _ h))) (by decide +kernel))) (goodIn_sub (fun _ h => List.mem_cons_of_mem _ (List.mem_append_right _ h)) (by decide +kernel))
set_option maxRecDepth 20000 in
theorem gL_act_L_changes : GoodIn wsL_act (va_wsS RL 45 yL_changes wsL_changes) := goodIn_app (goodIn_of _ (by decide +kernel)) ggL_act_L_changes
set_option maxRecDepth 20000 in
theorem ggL_act_L_likes : GoodIn wsL_act wsL_likes := goodIn_ca (goodIn_ca (goodIn_r _ [134, 9, 10, 135, 136, 137, 15, 138, 19, 131, 120, 121, 122, 23, 24, 25, 26, 27, 28, 29, 36, 37, 38, 39, 40, 41, 42, 43, 44, 45, 33, 46, 35, 47, 48, 49, 50, 139, 140, 141, 142, 143, 144, 145, 146, 147] (by decide +kernel) (by decide +kernel)) (goodIn_sub (fun _ h => List.mem_cons_of_mem _ (List.mem_append_left _ (List.mem_append_right _ h))) (by decide +kernel))) (goodIn_sub (fun _ h => List.mem_cons_of_mem _ (List.mem_append_right _ h)) (by decide +kernel))
set_option maxRecDepth 20000 in
theorem gL_act_L_likes : GoodIn wsL_act (va_wsS RL 49 yL_likes wsL_likes) := goodIn_app (goodIn_of _ (by decide +kernel)) ggL_act_L_likes
theorem dL_act_0 : decode cL_act 0 = .ok (.iload_n 1, 1) := by decide +kernel
theorem dL_act_1 : decode cL_act 1 = .ok (.bipush 32, 2) := by decide +kernel
theorem dL_act_3 : decode cL_act 3 = .ok (.invokestatic 40, 3) := by decide +kernel
theorem dL_act_6 : decode cL_act 6 = .ok (.istore_n 3, 1) := by decide +kernel
theorem dL_act_7 : decode cL_act 7 = .ok (.iload_n 1, 1) := by decide +kernel
theorem dL_act_8 : decode cL_act 8 = .ok (.iconst 5, 1) := by decide +kernel
theorem dL_act_9 : decode cL_act 9 = .ok (.ishr, 1) := by decide +kernel
theorem dL_act_10 : decode cL_act 10 = .ok (.istore 4, 2) := by decide +kernel
theorem dL_act_12 : decode cL_act 12 = .ok (.iload_n 1, 1) := by decide +kernel
theorem dL_act_13 : decode cL_act 13 = .ok (.bipush 22, 2) := by decide +kernel
theorem dL_act_15 : decode cL_act 15 = .ok (.ishr, 1) := by decide +kernel
theorem dL_act_16 : decode cL_act 16 = .ok (.bipush 7, 2) := by decide +kernel
theorem dL_act_18 : decode cL_act 18 = .ok (.invokestatic 40, 3) := by decide +kernel
theorem dL_act_21 : decode cL_act 21 = .ok (.ifCond .le 7, 3) := by decide +kernel
theorem dL_act_24 : decode cL_act 24 = .ok (.iconst 1, 1) := by decide +kernel
theorem dL_act_25 : decode cL_act 25 = .ok (.goto 4, 3) := by decide +kernel
theorem dL_act_28 : decode cL_act 28 = .ok (.iconst 0, 1) := by decide +kernel
theorem dL_act_29 : decode cL_act 29 = .ok (.istore 5, 2) := by decide +kernel
theorem dL_act_31 : decode cL_act 31 = .ok (.iload 4, 2) := by decide +kernel
theorem dL_act_33 : decode cL_act 33 = .ok (.iload 5, 2) := by decide +kernel
theorem dL_act_35 : decode cL_act 35 = .ok (.ifCond .eq 7, 3) := by decide +kernel
theorem dL_act_38 : decode cL_act 38 = .ok (.iconst 3, 1) := by decide +kernel
theorem dL_act_39 : decode cL_act 39 = .ok (.goto 4, 3) := by decide +kernel
theorem dL_act_42 : decode cL_act 42 = .ok (.iconst 4, 1) := by decide +kernel
theorem dL_act_43 : decode cL_act 43 = .ok (.invokestatic 40, 3) := by decide +kernel
theorem dL_act_46 : decode cL_act 46 = .ok (.istore 6, 2) := by decide +kernel
theorem dL_act_48 : decode cL_act 48 = .ok (.iload 4, 2) := by decide +kernel
theorem dL_act_50 : decode cL_act 50 = .ok (.iload 5, 2) := by decide +kernel
theorem dL_act_52 : decode cL_act 52 = .ok (.ifCond .eq 8, 3) := by decide +kernel
theorem dL_act_55 : decode cL_act 55 = .ok (.bipush 8, 2) := by decide +kernel
theorem dL_act_57 : decode cL_act 57 = .ok (.goto 5, 3) := by decide +kernel
theorem dL_act_60 : decode cL_act 60 = .ok (.bipush 9, 2) := by decide +kernel
theorem dL_act_62 : decode cL_act 62 = .ok (.invokestatic 40, 3) := by decide +kernel
theorem dL_act_65 : decode cL_act 65 = .ok (.istore 7, 2) := by decide +kernel
theorem dL_act_67 : decode cL_act 67 = .ok (.iload_n 3, 1) := by decide +kernel
theorem dL_act_68 : decode cL_act 68 = .ok (.bipush 7, 2) := by decide +kernel
theorem dL_act_70 : decode cL_act 70 = .ok (.if_icmp .ge 48, 3) := by decide +kernel
theorem dL_act_73 : decode cL_act 73 = .ok (.aload_n 0, 1) := by decide +kernel
theorem dL_act_74 : decode cL_act 74 = .ok (.iconst 0, 1) := by decide +kernel
theorem dL_act_75 : decode cL_act 75 = .ok (.iload 6, 2) := by decide +kernel
theorem dL_act_77 : decode cL_act 77 = .ok (.iload 5, 2) := by decide +kernel
theorem dL_act_79 : decode cL_act 79 = .ok (.ifCond .eq 7, 3) := by decide +kernel
theorem dL_act_82 : decode cL_act 82 = .ok (.iconst 1, 1) := by decide +kernel
theorem dL_act_83 : decode cL_act 83 = .ok (.goto 4, 3) := by decide +kernel
theorem dL_act_86 : decode cL_act 86 = .ok (.iconst 0, 1) := by decide +kernel
theorem dL_act_87 : decode cL_act 87 = .ok (.iload 4, 2) := by decide +kernel
theorem dL_act_89 : decode cL_act 89 = .ok (.iconst 2, 1) := by decide +kernel
theorem dL_act_90 : decode cL_act 90 = .ok (.ishr, 1) := by decide +kernel
theorem dL_act_91 : decode cL_act 91 = .ok (.iload 4, 2) := by decide +kernel
theorem dL_act_93 : decode cL_act 93 = .ok (.bipush 10, 2) := by decide +kernel
theorem dL_act_95 : decode cL_act 95 = .ok (.ishr, 1) := by decide +kernel
theorem dL_act_96 : decode cL_act 96 = .ok (.iconst 1, 1) := by decide +kernel
theorem dL_act_97 : decode cL_act 97 = .ok (.iand, 1) := by decide +kernel
theorem dL_act_98 : decode cL_act 98 = .ok (.ifCond .ne 9, 3) := by decide +kernel
theorem dL_act_101 : decode cL_act 101 = .ok (.sipush 210, 3) := by decide +kernel
theorem dL_act_104 : decode cL_act 104 = .ok (.goto 5, 3) := by decide +kernel
theorem dL_act_107 : decode cL_act 107 = .ok (.bipush 50, 2) := by decide +kernel
theorem dL_act_109 : decode cL_act 109 = .ok (.invokestatic 40, 3) := by decide +kernel
theorem dL_act_112 : decode cL_act 112 = .ok (.iadd, 1) := by decide +kernel
theorem dL_act_113 : decode cL_act 113 = .ok (.aload_n 2, 1) := by decide +kernel
theorem dL_act_114 : decode cL_act 114 = .ok (.invokestatic 45, 3) := by decide +kernel
theorem dL_act_117 : decode cL_act 117 = .ok (.ireturn, 1) := by decide +kernel
theorem dL_act_118 : decode cL_act 118 = .ok (.iload_n 3, 1) := by decide +kernel
theorem dL_act_119 : decode cL_act 119 = .ok (.bipush 14, 2) := by decide +kernel
theorem dL_act_121 : decode cL_act 121 = .ok (.if_icmp .ge 13, 3) := by decide +kernel
theorem dL_act_124 : decode cL_act 124 = .ok (.aload_n 0, 1) := by decide +kernel
theorem dL_act_125 : decode cL_act 125 = .ok (.iconst 1, 1) := by decide +kernel
theorem dL_act_126 : decode cL_act 126 = .ok (.iload 6, 2) := by decide +kernel
theorem dL_act_128 : decode cL_act 128 = .ok (.iconst 0, 1) := by decide +kernel
theorem dL_act_129 : decode cL_act 129 = .ok (.aload_n 2, 1) := by decide +kernel
theorem dL_act_130 : decode cL_act 130 = .ok (.invokestatic 45, 3) := by decide +kernel
theorem dL_act_133 : decode cL_act 133 = .ok (.ireturn, 1) := by decide +kernel
theorem dL_act_134 : decode cL_act 134 = .ok (.iload_n 3, 1) := by decide +kernel
theorem dL_act_135 : decode cL_act 135 = .ok (.bipush 22, 2) := by decide +kernel
theorem dL_act_137 : decode cL_act 137 = .ok (.if_icmp .ge 29, 3) := by decide +kernel
theorem dL_act_140 : decode cL_act 140 = .ok (.aload_n 0, 1) := by decide +kernel
theorem dL_act_141 : decode cL_act 141 = .ok (.iconst 2, 1) := by decide +kernel
theorem dL_act_142 : decode cL_act 142 = .ok (.iload 6, 2) := by decide +kernel
theorem dL_act_144 : decode cL_act 144 = .ok (.iload 4, 2) := by decide +kernel
theorem dL_act_146 : decode cL_act 146 = .ok (.iconst 2, 1) := by decide +kernel
theorem dL_act_147 : decode cL_act 147 = .ok (.ishr, 1) := by decide +kernel
theorem dL_act_148 : decode cL_act 148 = .ok (.iload 5, 2) := by decide +kernel
theorem dL_act_150 : decode cL_act 150 = .ok (.ifCond .eq 7, 3) := by decide +kernel
theorem dL_act_153 : decode cL_act 153 = .ok (.iconst 2, 1) := by decide +kernel
theorem dL_act_154 : decode cL_act 154 = .ok (.goto 4, 3) := by decide +kernel
theorem dL_act_157 : decode cL_act 157 = .ok (.iconst 3, 1) := by decide +kernel
theorem dL_act_158 : decode cL_act 158 = .ok (.invokestatic 40, 3) := by decide +kernel
theorem dL_act_161 : decode cL_act 161 = .ok (.aload_n 2, 1) := by decide +kernel
theorem dL_act_162 : decode cL_act 162 = .ok (.invokestatic 45, 3) := by decide +kernel
theorem dL_act_165 : decode cL_act 165 = .ok (.ireturn, 1) := by decide +kernel
theorem dL_act_166 : decode cL_act 166 = .ok (.iload_n 3, 1) := by decide +kernel
theorem dL_act_167 : decode cL_act 167 = .ok (.bipush 25, 2) := by decide +kernel
theorem dL_act_169 : decode cL_act 169 = .ok (.if_icmp .ge 13, 3) := by decide +kernel
theorem dL_act_172 : decode cL_act 172 = .ok (.aload_n 0, 1) := by decide +kernel
theorem dL_act_173 : decode cL_act 173 = .ok (.iconst 3, 1) := by decide +kernel
theorem dL_act_174 : decode cL_act 174 = .ok (.iload 6, 2) := by decide +kernel
theorem dL_act_176 : decode cL_act 176 = .ok (.iconst 0, 1) := by decide +kernel
theorem dL_act_177 : decode cL_act 177 = .ok (.aload_n 2, 1) := by decide +kernel
theorem dL_act_178 : decode cL_act 178 = .ok (.invokestatic 45, 3) := by decide +kernel
theorem dL_act_181 : decode cL_act 181 = .ok (.ireturn, 1) := by decide +kernel
theorem dL_act_182 : decode cL_act 182 = .ok (.iload_n 3, 1) := by decide +kernel
theorem dL_act_183 : decode cL_act 183 = .ok (.bipush 29, 2) := by decide +kernel
theorem dL_act_185 : decode cL_act 185 = .ok (.if_icmp .ge 13, 3) := by decide +kernel
theorem dL_act_188 : decode cL_act 188 = .ok (.aload_n 0, 1) := by decide +kernel
theorem dL_act_189 : decode cL_act 189 = .ok (.iconst 4, 1) := by decide +kernel
theorem dL_act_190 : decode cL_act 190 = .ok (.iload 7, 2) := by decide +kernel
theorem dL_act_192 : decode cL_act 192 = .ok (.iconst 0, 1) := by decide +kernel
theorem dL_act_193 : decode cL_act 193 = .ok (.aload_n 2, 1) := by decide +kernel
theorem dL_act_194 : decode cL_act 194 = .ok (.invokestatic 45, 3) := by decide +kernel
theorem dL_act_197 : decode cL_act 197 = .ok (.ireturn, 1) := by decide +kernel
theorem dL_act_198 : decode cL_act 198 = .ok (.iload_n 3, 1) := by decide +kernel
theorem dL_act_199 : decode cL_act 199 = .ok (.bipush 29, 2) := by decide +kernel
theorem dL_act_201 : decode cL_act 201 = .ok (.if_icmp .ne 45, 3) := by decide +kernel
theorem dL_act_204 : decode cL_act 204 = .ok (.aload_n 0, 1) := by decide +kernel
theorem dL_act_205 : decode cL_act 205 = .ok (.iconst 5, 1) := by decide +kernel
theorem dL_act_206 : decode cL_act 206 = .ok (.iload 7, 2) := by decide +kernel
theorem dL_act_208 : decode cL_act 208 = .ok (.iload 5, 2) := by decide +kernel
theorem dL_act_210 : decode cL_act 210 = .ok (.ifCond .eq 8, 3) := by decide +kernel
theorem dL_act_213 : decode cL_act 213 = .ok (.bipush 10, 2) := by decide +kernel
theorem dL_act_215 : decode cL_act 215 = .ok (.goto 4, 3) := by decide +kernel
theorem dL_act_218 : decode cL_act 218 = .ok (.iconst 5, 1) := by decide +kernel
theorem dL_act_219 : decode cL_act 219 = .ok (.iload 4, 2) := by decide +kernel
theorem dL_act_221 : decode cL_act 221 = .ok (.iconst 3, 1) := by decide +kernel
theorem dL_act_222 : decode cL_act 222 = .ok (.ishr, 1) := by decide +kernel
theorem dL_act_223 : decode cL_act 223 = .ok (.iload 5, 2) := by decide +kernel
theorem dL_act_225 : decode cL_act 225 = .ok (.ifCond .eq 8, 3) := by decide +kernel
theorem dL_act_228 : decode cL_act 228 = .ok (.bipush 31, 2) := by decide +kernel
theorem dL_act_230 : decode cL_act 230 = .ok (.goto 5, 3) := by decide +kernel
theorem dL_act_233 : decode cL_act 233 = .ok (.bipush 40, 2) := by decide +kernel
theorem dL_act_235 : decode cL_act 235 = .ok (.invokestatic 40, 3) := by decide +kernel
theorem dL_act_238 : decode cL_act 238 = .ok (.iadd, 1) := by decide +kernel
theorem dL_act_239 : decode cL_act 239 = .ok (.aload_n 2, 1) := by decide +kernel
theorem dL_act_240 : decode cL_act 240 = .ok (.invokestatic 45, 3) := by decide +kernel
theorem dL_act_243 : decode cL_act 243 = .ok (.goto 74, 3) := by decide +kernel
theorem dL_act_246 : decode cL_act 246 = .ok (.aload_n 0, 1) := by decide +kernel
theorem dL_act_247 : decode cL_act 247 = .ok (.iload 7, 2) := by decide +kernel
theorem dL_act_249 : decode cL_act 249 = .ok (.iconst 1, 1) := by decide +kernel
theorem dL_act_250 : decode cL_act 250 = .ok (.iload 4, 2) := by decide +kernel
theorem dL_act_252 : decode cL_act 252 = .ok (.iconst 3, 1) := by decide +kernel
theorem dL_act_253 : decode cL_act 253 = .ok (.ishr, 1) := by decide +kernel
theorem dL_act_254 : decode cL_act 254 = .ok (.iload 5, 2) := by decide +kernel
theorem dL_act_256 : decode cL_act 256 = .ok (.ifCond .eq 8, 3) := by decide +kernel
theorem dL_act_259 : decode cL_act 259 = .ok (.bipush 20, 2) := by decide +kernel
theorem dL_act_261 : decode cL_act 261 = .ok (.goto 5, 3) := by decide +kernel
theorem dL_act_264 : decode cL_act 264 = .ok (.bipush 25, 2) := by decide +kernel
theorem dL_act_266 : decode cL_act 266 = .ok (.invokestatic 40, 3) := by decide +kernel
theorem dL_act_269 : decode cL_act 269 = .ok (.iadd, 1) := by decide +kernel
theorem dL_act_270 : decode cL_act 270 = .ok (.iload 4, 2) := by decide +kernel
theorem dL_act_272 : decode cL_act 272 = .ok (.bipush 6, 2) := by decide +kernel
theorem dL_act_274 : decode cL_act 274 = .ok (.ishr, 1) := by decide +kernel
theorem dL_act_275 : decode cL_act 275 = .ok (.iload 5, 2) := by decide +kernel
theorem dL_act_277 : decode cL_act 277 = .ok (.ifCond .eq 8, 3) := by decide +kernel
theorem dL_act_280 : decode cL_act 280 = .ok (.bipush 11, 2) := by decide +kernel
theorem dL_act_282 : decode cL_act 282 = .ok (.goto 5, 3) := by decide +kernel
theorem dL_act_285 : decode cL_act 285 = .ok (.bipush 14, 2) := by decide +kernel
theorem dL_act_287 : decode cL_act 287 = .ok (.invokestatic 40, 3) := by decide +kernel
theorem dL_act_290 : decode cL_act 290 = .ok (.iload 4, 2) := by decide +kernel
theorem dL_act_292 : decode cL_act 292 = .ok (.bipush 9, 2) := by decide +kernel
theorem dL_act_294 : decode cL_act 294 = .ok (.ishr, 1) := by decide +kernel
theorem dL_act_295 : decode cL_act 295 = .ok (.iload 5, 2) := by decide +kernel
theorem dL_act_297 : decode cL_act 297 = .ok (.ifCond .eq 8, 3) := by decide +kernel
theorem dL_act_300 : decode cL_act 300 = .ok (.bipush 41, 2) := by decide +kernel
theorem dL_act_302 : decode cL_act 302 = .ok (.goto 5, 3) := by decide +kernel
theorem dL_act_305 : decode cL_act 305 = .ok (.bipush 50, 2) := by decide +kernel
theorem dL_act_307 : decode cL_act 307 = .ok (.invokestatic 40, 3) := by decide +kernel
theorem dL_act_310 : decode cL_act 310 = .ok (.bipush 20, 2) := by decide +kernel
theorem dL_act_312 : decode cL_act 312 = .ok (.isub, 1) := by decide +kernel
theorem dL_act_313 : decode cL_act 313 = .ok (.aload_n 2, 1) := by decide +kernel
theorem dL_act_314 : decode cL_act 314 = .ok (.invokestatic 49, 3) := by decide +kernel
theorem dL_act_317 : decode cL_act 317 = .ok (.ireturn, 1) := by decide +kernel

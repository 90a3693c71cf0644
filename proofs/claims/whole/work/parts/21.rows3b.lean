theorem dX3_readErrand_149 : decode cX3_readErrand 149 = .ok (.bipush 98, 2) := by decide +kernel
theorem dX3_readErrand_151 : decode cX3_readErrand 151 = .ok (.if_icmp .ne 91, 3) := by decide +kernel
theorem dX3_readErrand_154 : decode cX3_readErrand 154 = .ok (.aload_n 0, 1) := by decide +kernel
theorem dX3_readErrand_155 : decode cX3_readErrand 155 = .ok (.iconst 1, 1) := by decide +kernel
theorem dX3_readErrand_156 : decode cX3_readErrand 156 = .ok (.aload_n 0, 1) := by decide +kernel
theorem dX3_readErrand_157 : decode cX3_readErrand 157 = .ok (.bipush 49, 2) := by decide +kernel
theorem dX3_readErrand_159 : decode cX3_readErrand 159 = .ok (.bipush 57, 2) := by decide +kernel
theorem dX3_readErrand_161 : decode cX3_readErrand 161 = .ok (.invokevirtual 116, 3) := by decide +kernel
theorem dX3_readErrand_164 : decode cX3_readErrand 164 = .ok (.iadd, 1) := by decide +kernel
theorem dX3_readErrand_165 : decode cX3_readErrand 165 = .ok (.putfield 122, 3) := by decide +kernel
theorem dX3_readErrand_168 : decode cX3_readErrand 168 = .ok (.aload_n 0, 1) := by decide +kernel
theorem dX3_readErrand_169 : decode cX3_readErrand 169 = .ok (.bipush 48, 2) := by decide +kernel
theorem dX3_readErrand_171 : decode cX3_readErrand 171 = .ok (.bipush 57, 2) := by decide +kernel
theorem dX3_readErrand_173 : decode cX3_readErrand 173 = .ok (.invokevirtual 109, 3) := by decide +kernel
theorem dX3_readErrand_176 : decode cX3_readErrand 176 = .ok (.ifCond .eq 66, 3) := by decide +kernel
theorem dX3_readErrand_179 : decode cX3_readErrand 179 = .ok (.bipush 10, 2) := by decide +kernel
theorem dX3_readErrand_181 : decode cX3_readErrand 181 = .ok (.aload_n 0, 1) := by decide +kernel
theorem dX3_readErrand_182 : decode cX3_readErrand 182 = .ok (.getfield 122, 3) := by decide +kernel
theorem dX3_readErrand_185 : decode cX3_readErrand 185 = .ok (.imul, 1) := by decide +kernel
theorem dX3_readErrand_186 : decode cX3_readErrand 186 = .ok (.aload_n 0, 1) := by decide +kernel
theorem dX3_readErrand_187 : decode cX3_readErrand 187 = .ok (.getfield 22, 3) := by decide +kernel
theorem dX3_readErrand_190 : decode cX3_readErrand 190 = .ok (.aload_n 0, 1) := by decide +kernel
theorem dX3_readErrand_191 : decode cX3_readErrand 191 = .ok (.getfield 106, 3) := by decide +kernel
theorem dX3_readErrand_194 : decode cX3_readErrand 194 = .ok (.iaload, 1) := by decide +kernel
theorem dX3_readErrand_195 : decode cX3_readErrand 195 = .ok (.iadd, 1) := by decide +kernel
theorem dX3_readErrand_196 : decode cX3_readErrand 196 = .ok (.bipush 48, 2) := by decide +kernel
theorem dX3_readErrand_198 : decode cX3_readErrand 198 = .ok (.isub, 1) := by decide +kernel
theorem dX3_readErrand_199 : decode cX3_readErrand 199 = .ok (.sipush 200, 3) := by decide +kernel
theorem dX3_readErrand_202 : decode cX3_readErrand 202 = .ok (.if_icmp .gt 40, 3) := by decide +kernel
theorem dX3_readErrand_205 : decode cX3_readErrand 205 = .ok (.aload_n 0, 1) := by decide +kernel
theorem dX3_readErrand_206 : decode cX3_readErrand 206 = .ok (.bipush 10, 2) := by decide +kernel
theorem dX3_readErrand_208 : decode cX3_readErrand 208 = .ok (.aload_n 0, 1) := by decide +kernel
theorem dX3_readErrand_209 : decode cX3_readErrand 209 = .ok (.getfield 122, 3) := by decide +kernel
theorem dX3_readErrand_212 : decode cX3_readErrand 212 = .ok (.imul, 1) := by decide +kernel
theorem dX3_readErrand_213 : decode cX3_readErrand 213 = .ok (.aload_n 0, 1) := by decide +kernel
theorem dX3_readErrand_214 : decode cX3_readErrand 214 = .ok (.getfield 22, 3) := by decide +kernel
theorem dX3_readErrand_217 : decode cX3_readErrand 217 = .ok (.aload_n 0, 1) := by decide +kernel
theorem dX3_readErrand_218 : decode cX3_readErrand 218 = .ok (.getfield 106, 3) := by decide +kernel
theorem dX3_readErrand_221 : decode cX3_readErrand 221 = .ok (.iaload, 1) := by decide +kernel
theorem dX3_readErrand_222 : decode cX3_readErrand 222 = .ok (.iadd, 1) := by decide +kernel
theorem dX3_readErrand_223 : decode cX3_readErrand 223 = .ok (.bipush 48, 2) := by decide +kernel
theorem dX3_readErrand_225 : decode cX3_readErrand 225 = .ok (.isub, 1) := by decide +kernel
theorem dX3_readErrand_226 : decode cX3_readErrand 226 = .ok (.putfield 122, 3) := by decide +kernel
theorem dX3_readErrand_229 : decode cX3_readErrand 229 = .ok (.aload_n 0, 1) := by decide +kernel
theorem dX3_readErrand_230 : decode cX3_readErrand 230 = .ok (.dup, 1) := by decide +kernel
theorem dX3_readErrand_231 : decode cX3_readErrand 231 = .ok (.getfield 106, 3) := by decide +kernel
theorem dX3_readErrand_234 : decode cX3_readErrand 234 = .ok (.iconst 1, 1) := by decide +kernel
theorem dX3_readErrand_235 : decode cX3_readErrand 235 = .ok (.iadd, 1) := by decide +kernel
theorem dX3_readErrand_236 : decode cX3_readErrand 236 = .ok (.putfield 106, 3) := by decide +kernel
theorem dX3_readErrand_239 : decode cX3_readErrand 239 = .ok (.goto (-71), 3) := by decide +kernel
theorem dX3_readErrand_242 : decode cX3_readErrand 242 = .ok (.return_, 1) := by decide +kernel
set_option maxRecDepth 20000 in
theorem ggX3_isDone_X3_ofPot : GoodIn wsX3_isDone wsX3_ofPot := goodIn_r _ [8] (by decide +kernel) (by decide +kernel)
set_option maxRecDepth 20000 in
theorem gX3_isDone_X3_ofPot : GoodIn wsX3_isDone (va_wsS RX3 29 yX3_ofPot wsX3_ofPot) := goodIn_app (goodIn_of _ (by decide +kernel)) ggX3_isDone_X3_ofPot
set_option maxRecDepth 20000 in
theorem ggX3_isDone_X3_brews : GoodIn wsX3_isDone wsX3_brews := goodIn_r _ [12, 2, 5, 6, 7, 8, 67, 68, 69, 70, 71, 72, 73, 74, 75, 76, 77, 78, 79, 80, 81] (by decide +kernel) (by decide +kernel)
set_option maxRecDepth 20000 in
theorem gX3_isDone_X3_brews : GoodIn wsX3_isDone (wsV RX3 93 RX3 yX3_brews wsX3_brews) := goodIn_app (goodIn_of _ (by decide +kernel)) ggX3_isDone_X3_brews
set_option maxRecDepth 20000 in
theorem ggX3_isDone_X3_hindrance : GoodIn wsX3_isDone wsX3_hindrance := goodIn_r _ [16, 2, 5, 6, 7, 8, 17, 18, 19, 20, 21, 22, 23, 24, 25, 26, 27, 67, 68, 69, 70, 71, 72, 73, 74, 75, 76, 77, 78, 79, 80, 81] (by decide +kernel) (by decide +kernel)
set_option maxRecDepth 20000 in
theorem gX3_isDone_X3_hindrance : GoodIn wsX3_isDone (wsV RX3 68 RX3 yX3_hindrance wsX3_hindrance) := goodIn_app (goodIn_of _ (by decide +kernel)) ggX3_isDone_X3_hindrance
set_option maxRecDepth 20000 in
theorem ggX3_isDone_X3_pours : GoodIn wsX3_isDone wsX3_pours := goodIn_r _ [31, 2, 17, 18, 19, 7, 20, 5, 6, 8, 32, 33, 34, 35, 36, 37, 38, 39, 25, 26, 27, 40, 41, 42, 43, 21, 22, 23, 24, 44, 45, 46, 47, 48, 49, 50, 51, 52, 53, 54, 67, 68, 69, 70, 71, 72, 73, 74, 75, 76, 77, 78, 79, 80, 81] (by decide +kernel) (by decide +kernel)
set_option maxRecDepth 20000 in
theorem gX3_isDone_X3_pours : GoodIn wsX3_isDone (wsV RX3 71 RX3 yX3_pours wsX3_pours) := goodIn_app (goodIn_of _ (by decide +kernel)) ggX3_isDone_X3_pours
set_option maxRecDepth 20000 in
theorem ggX3_isDone_X3_hands : GoodIn wsX3_isDone wsX3_hands := goodIn_r _ [58, 2, 17, 18, 19, 7, 20, 5, 6, 8, 36, 37, 38, 39, 25, 26, 27, 40, 41, 42, 43, 67, 68, 69, 70, 71, 72, 73, 74, 75, 76, 77, 78, 79, 80, 81] (by decide +kernel) (by decide +kernel)
set_option maxRecDepth 20000 in
theorem gX3_isDone_X3_hands : GoodIn wsX3_isDone (wsV RX3 74 RX3 yX3_hands wsX3_hands) := goodIn_app (goodIn_of _ (by decide +kernel)) ggX3_isDone_X3_hands
set_option maxRecDepth 20000 in
theorem ggX3_isDone_X3_goesRound : GoodIn wsX3_isDone wsX3_goesRound := goodIn_r _ [62, 2, 17, 18, 19, 7, 20, 5, 6, 8, 13, 14, 15, 16, 21, 22, 23, 24, 25, 26, 27, 28, 29, 30, 31, 32, 33, 34, 35, 36, 37, 38, 39, 40, 41, 42, 43, 44, 45, 46, 47, 48, 49, 50, 51, 52, 53, 54, 55, 56, 57, 58, 67, 68, 69, 70, 71, 72, 73, 74, 75, 76, 77, 78, 79, 80, 81] (by decide +kernel) (by decide +kernel)
set_option maxRecDepth 20000 in
theorem gX3_isDone_X3_goesRound : GoodIn wsX3_isDone (wsV RX3 96 RX3 yX3_goesRound wsX3_goesRound) := goodIn_app (goodIn_of _ (by decide +kernel)) ggX3_isDone_X3_goesRound
set_option maxRecDepth 20000 in
theorem ggX3_isDone_X3_sips : GoodIn wsX3_isDone wsX3_sips := goodIn_r _ [66, 2, 25, 26, 7, 27, 67, 68, 69, 70, 71, 72, 73, 74, 75, 76, 77, 78, 79, 80, 81] (by decide +kernel) (by decide +kernel)
set_option maxRecDepth 20000 in
theorem gX3_isDone_X3_sips : GoodIn wsX3_isDone (wsV RX3 87 RX3 yX3_sips wsX3_sips) := goodIn_app (goodIn_of _ (by decide +kernel)) ggX3_isDone_X3_sips
theorem dX3_isDone_0 : decode cX3_isDone 0 = .ok (.aload_n 0, 1) := by decide +kernel
theorem dX3_isDone_1 : decode cX3_isDone 1 = .ok (.getfield 113, 3) := by decide +kernel
theorem dX3_isDone_4 : decode cX3_isDone 4 = .ok (.lookupswitch 178 #[(98, 52), (108, 143), (110, 125), (112, 97), (114, 161)], 52) := by decide +kernel
theorem dX3_isDone_56 : decode cX3_isDone 56 = .ok (.aload_n 0, 1) := by decide +kernel
theorem dX3_isDone_57 : decode cX3_isDone 57 = .ok (.getfield 7, 3) := by decide +kernel
theorem dX3_isDone_60 : decode cX3_isDone 60 = .ok (.aload_n 0, 1) := by decide +kernel
theorem dX3_isDone_61 : decode cX3_isDone 61 = .ok (.getfield 119, 3) := by decide +kernel
theorem dX3_isDone_64 : decode cX3_isDone 64 = .ok (.iconst 1, 1) := by decide +kernel
theorem dX3_isDone_65 : decode cX3_isDone 65 = .ok (.invokestatic 29, 3) := by decide +kernel
theorem dX3_isDone_68 : decode cX3_isDone 68 = .ok (.iaload, 1) := by decide +kernel
theorem dX3_isDone_69 : decode cX3_isDone 69 = .ok (.aload_n 0, 1) := by decide +kernel
theorem dX3_isDone_70 : decode cX3_isDone 70 = .ok (.getfield 122, 3) := by decide +kernel
theorem dX3_isDone_73 : decode cX3_isDone 73 = .ok (.iadd, 1) := by decide +kernel
theorem dX3_isDone_74 : decode cX3_isDone 74 = .ok (.sipush 200, 3) := by decide +kernel
theorem dX3_isDone_77 : decode cX3_isDone 77 = .ok (.if_icmp .gt 22, 3) := by decide +kernel
theorem dX3_isDone_80 : decode cX3_isDone 80 = .ok (.aload_n 0, 1) := by decide +kernel
theorem dX3_isDone_81 : decode cX3_isDone 81 = .ok (.aload_n 0, 1) := by decide +kernel
theorem dX3_isDone_82 : decode cX3_isDone 82 = .ok (.getfield 119, 3) := by decide +kernel
theorem dX3_isDone_85 : decode cX3_isDone 85 = .ok (.aload_n 0, 1) := by decide +kernel
theorem dX3_isDone_86 : decode cX3_isDone 86 = .ok (.getfield 122, 3) := by decide +kernel
theorem dX3_isDone_89 : decode cX3_isDone 89 = .ok (.invokevirtual 93, 3) := by decide +kernel
theorem dX3_isDone_92 : decode cX3_isDone 92 = .ok (.ifCond .le 7, 3) := by decide +kernel
theorem dX3_isDone_95 : decode cX3_isDone 95 = .ok (.iconst 1, 1) := by decide +kernel
theorem dX3_isDone_96 : decode cX3_isDone 96 = .ok (.goto 4, 3) := by decide +kernel
theorem dX3_isDone_99 : decode cX3_isDone 99 = .ok (.iconst 0, 1) := by decide +kernel
theorem dX3_isDone_100 : decode cX3_isDone 100 = .ok (.ireturn, 1) := by decide +kernel
theorem dX3_isDone_101 : decode cX3_isDone 101 = .ok (.aload_n 0, 1) := by decide +kernel
theorem dX3_isDone_102 : decode cX3_isDone 102 = .ok (.aload_n 0, 1) := by decide +kernel
theorem dX3_isDone_103 : decode cX3_isDone 103 = .ok (.getfield 119, 3) := by decide +kernel
theorem dX3_isDone_106 : decode cX3_isDone 106 = .ok (.invokevirtual 68, 3) := by decide +kernel
theorem dX3_isDone_109 : decode cX3_isDone 109 = .ok (.ifCond .ne 18, 3) := by decide +kernel
theorem dX3_isDone_112 : decode cX3_isDone 112 = .ok (.aload_n 0, 1) := by decide +kernel
theorem dX3_isDone_113 : decode cX3_isDone 113 = .ok (.aload_n 0, 1) := by decide +kernel
theorem dX3_isDone_114 : decode cX3_isDone 114 = .ok (.getfield 119, 3) := by decide +kernel
theorem dX3_isDone_117 : decode cX3_isDone 117 = .ok (.invokevirtual 71, 3) := by decide +kernel
theorem dX3_isDone_120 : decode cX3_isDone 120 = .ok (.ifCond .lt 7, 3) := by decide +kernel
theorem dX3_isDone_123 : decode cX3_isDone 123 = .ok (.iconst 1, 1) := by decide +kernel
theorem dX3_isDone_124 : decode cX3_isDone 124 = .ok (.goto 4, 3) := by decide +kernel
theorem dX3_isDone_127 : decode cX3_isDone 127 = .ok (.iconst 0, 1) := by decide +kernel
theorem dX3_isDone_128 : decode cX3_isDone 128 = .ok (.ireturn, 1) := by decide +kernel
theorem dX3_isDone_129 : decode cX3_isDone 129 = .ok (.aload_n 0, 1) := by decide +kernel
theorem dX3_isDone_130 : decode cX3_isDone 130 = .ok (.aload_n 0, 1) := by decide +kernel
theorem dX3_isDone_131 : decode cX3_isDone 131 = .ok (.getfield 119, 3) := by decide +kernel
theorem dX3_isDone_134 : decode cX3_isDone 134 = .ok (.iconst 1, 1) := by decide +kernel
theorem dX3_isDone_135 : decode cX3_isDone 135 = .ok (.invokevirtual 74, 3) := by decide +kernel
theorem dX3_isDone_138 : decode cX3_isDone 138 = .ok (.ifCond .lt 7, 3) := by decide +kernel
theorem dX3_isDone_141 : decode cX3_isDone 141 = .ok (.iconst 1, 1) := by decide +kernel
theorem dX3_isDone_142 : decode cX3_isDone 142 = .ok (.goto 4, 3) := by decide +kernel
theorem dX3_isDone_145 : decode cX3_isDone 145 = .ok (.iconst 0, 1) := by decide +kernel
theorem dX3_isDone_146 : decode cX3_isDone 146 = .ok (.ireturn, 1) := by decide +kernel
theorem dX3_isDone_147 : decode cX3_isDone 147 = .ok (.aload_n 0, 1) := by decide +kernel
theorem dX3_isDone_148 : decode cX3_isDone 148 = .ok (.aload_n 0, 1) := by decide +kernel
theorem dX3_isDone_149 : decode cX3_isDone 149 = .ok (.getfield 119, 3) := by decide +kernel
theorem dX3_isDone_152 : decode cX3_isDone 152 = .ok (.iconst (-1), 1) := by decide +kernel
theorem dX3_isDone_153 : decode cX3_isDone 153 = .ok (.invokevirtual 74, 3) := by decide +kernel
theorem dX3_isDone_156 : decode cX3_isDone 156 = .ok (.ifCond .lt 7, 3) := by decide +kernel
theorem dX3_isDone_159 : decode cX3_isDone 159 = .ok (.iconst 1, 1) := by decide +kernel
theorem dX3_isDone_160 : decode cX3_isDone 160 = .ok (.goto 4, 3) := by decide +kernel
theorem dX3_isDone_163 : decode cX3_isDone 163 = .ok (.iconst 0, 1) := by decide +kernel
theorem dX3_isDone_164 : decode cX3_isDone 164 = .ok (.ireturn, 1) := by decide +kernel
theorem dX3_isDone_165 : decode cX3_isDone 165 = .ok (.aload_n 0, 1) := by decide +kernel
theorem dX3_isDone_166 : decode cX3_isDone 166 = .ok (.aload_n 0, 1) := by decide +kernel
theorem dX3_isDone_167 : decode cX3_isDone 167 = .ok (.getfield 119, 3) := by decide +kernel
theorem dX3_isDone_170 : decode cX3_isDone 170 = .ok (.invokevirtual 96, 3) := by decide +kernel
theorem dX3_isDone_173 : decode cX3_isDone 173 = .ok (.ifCond .lt 7, 3) := by decide +kernel
theorem dX3_isDone_176 : decode cX3_isDone 176 = .ok (.iconst 1, 1) := by decide +kernel
theorem dX3_isDone_177 : decode cX3_isDone 177 = .ok (.goto 4, 3) := by decide +kernel
theorem dX3_isDone_180 : decode cX3_isDone 180 = .ok (.iconst 0, 1) := by decide +kernel
theorem dX3_isDone_181 : decode cX3_isDone 181 = .ok (.ireturn, 1) := by decide +kernel
theorem dX3_isDone_182 : decode cX3_isDone 182 = .ok (.aload_n 0, 1) := by decide +kernel
theorem dX3_isDone_183 : decode cX3_isDone 183 = .ok (.aload_n 0, 1) := by decide +kernel
theorem dX3_isDone_184 : decode cX3_isDone 184 = .ok (.getfield 119, 3) := by decide +kernel
theorem dX3_isDone_187 : decode cX3_isDone 187 = .ok (.invokevirtual 87, 3) := by decide +kernel
theorem dX3_isDone_190 : decode cX3_isDone 190 = .ok (.ifCond .lt 7, 3) := by decide +kernel
theorem dX3_isDone_193 : decode cX3_isDone 193 = .ok (.iconst 1, 1) := by decide +kernel
theorem dX3_isDone_194 : decode cX3_isDone 194 = .ok (.goto 4, 3) := by decide +kernel
theorem dX3_isDone_197 : decode cX3_isDone 197 = .ok (.iconst 0, 1) := by decide +kernel
theorem dX3_isDone_198 : decode cX3_isDone 198 = .ok (.ireturn, 1) := by decide +kernel
set_option maxRecDepth 20000 in
theorem ggX3_goesThrough_X3_readErrand : GoodIn wsX3_goesThrough wsX3_readErrand := goodIn_r _ [8, 1, 3, 9, 10, 2, 11, 12, 13, 14, 15, 7, 16, 17, 18, 19, 20, 21, 22, 23, 90, 91, 92, 93, 94, 95, 96, 97, 98, 99, 100, 101, 102, 103, 104] (by decide +kernel) (by decide +kernel)
set_option maxRecDepth 20000 in
theorem gX3_goesThrough_X3_readErrand : GoodIn wsX3_goesThrough (wsV RX3 125 RX3 yX3_readErrand wsX3_readErrand) := goodIn_app (goodIn_of _ (by decide +kernel)) ggX3_goesThrough_X3_readErrand
set_option maxRecDepth 20000 in
theorem ggX3_goesThrough_X3_isDone : GoodIn wsX3_goesThrough wsX3_isDone := goodIn_r _ [27, 10, 28, 11, 12, 29, 30, 7, 31, 32, 33, 34, 35, 36, 37, 38, 39, 40, 41, 42, 43, 44, 45, 46, 47, 48, 49, 50, 51, 52, 53, 54, 55, 56, 57, 58, 59, 60, 61, 62, 63, 64, 65, 66, 67, 68, 69, 70, 71, 72, 73, 74, 75, 76, 77, 78, 79, 80, 81, 82, 83, 84, 85, 86, 87, 88, 89, 90, 91, 92, 93, 94, 95, 96, 97, 98, 99, 100, 101, 102, 103, 104] (by decide +kernel) (by decide +kernel)
set_option maxRecDepth 20000 in
theorem gX3_goesThrough_X3_isDone : GoodIn wsX3_goesThrough (wsV RX3 128 RX3 yX3_isDone wsX3_isDone) := goodIn_app (goodIn_of _ (by decide +kernel)) ggX3_goesThrough_X3_isDone
set_option maxRecDepth 20000 in
theorem ggX3_goesThrough_X3_takes : GoodIn wsX3_goesThrough wsX3_takes := goodIn_r _ [16, 9, 1, 2, 17, 18, 19, 7, 20, 3, 21, 22, 23, 90, 91, 92, 93, 94, 95, 96, 97, 98, 99, 100, 101, 102, 103, 104] (by decide +kernel) (by decide +kernel)
set_option maxRecDepth 20000 in
theorem gX3_goesThrough_X3_takes : GoodIn wsX3_goesThrough (wsV RX3 116 RX3 yX3_takes wsX3_takes) := goodIn_app (goodIn_of _ (by decide +kernel)) ggX3_goesThrough_X3_takes
theorem dX3_goesThrough_0 : decode cX3_goesThrough 0 = .ok (.aload_n 0, 1) := by decide +kernel
theorem dX3_goesThrough_1 : decode cX3_goesThrough 1 = .ok (.iconst 0, 1) := by decide +kernel
theorem dX3_goesThrough_2 : decode cX3_goesThrough 2 = .ok (.putfield 106, 3) := by decide +kernel
theorem dX3_goesThrough_5 : decode cX3_goesThrough 5 = .ok (.aload_n 0, 1) := by decide +kernel
theorem dX3_goesThrough_6 : decode cX3_goesThrough 6 = .ok (.iconst 0, 1) := by decide +kernel
theorem dX3_goesThrough_7 : decode cX3_goesThrough 7 = .ok (.putfield 102, 3) := by decide +kernel
theorem dX3_goesThrough_10 : decode cX3_goesThrough 10 = .ok (.iconst 0, 1) := by decide +kernel
theorem dX3_goesThrough_11 : decode cX3_goesThrough 11 = .ok (.istore_n 2, 1) := by decide +kernel
theorem dX3_goesThrough_12 : decode cX3_goesThrough 12 = .ok (.iconst 1, 1) := by decide +kernel
theorem dX3_goesThrough_13 : decode cX3_goesThrough 13 = .ok (.istore_n 3, 1) := by decide +kernel
theorem dX3_goesThrough_14 : decode cX3_goesThrough 14 = .ok (.iload_n 3, 1) := by decide +kernel
theorem dX3_goesThrough_15 : decode cX3_goesThrough 15 = .ok (.ifCond .eq 94, 3) := by decide +kernel
theorem dX3_goesThrough_18 : decode cX3_goesThrough 18 = .ok (.aload_n 0, 1) := by decide +kernel
theorem dX3_goesThrough_19 : decode cX3_goesThrough 19 = .ok (.invokevirtual 125, 3) := by decide +kernel
theorem dX3_goesThrough_22 : decode cX3_goesThrough 22 = .ok (.aload_n 0, 1) := by decide +kernel
theorem dX3_goesThrough_23 : decode cX3_goesThrough 23 = .ok (.getfield 102, 3) := by decide +kernel
theorem dX3_goesThrough_26 : decode cX3_goesThrough 26 = .ok (.ifCond .ne 18, 3) := by decide +kernel
theorem dX3_goesThrough_29 : decode cX3_goesThrough 29 = .ok (.iload_n 1, 1) := by decide +kernel
theorem dX3_goesThrough_30 : decode cX3_goesThrough 30 = .ok (.ifCond .eq 10, 3) := by decide +kernel
theorem dX3_goesThrough_33 : decode cX3_goesThrough 33 = .ok (.aload_n 0, 1) := by decide +kernel
theorem dX3_goesThrough_34 : decode cX3_goesThrough 34 = .ok (.invokevirtual 128, 3) := by decide +kernel
theorem dX3_goesThrough_37 : decode cX3_goesThrough 37 = .ok (.ifCond .eq 7, 3) := by decide +kernel
theorem dX3_goesThrough_40 : decode cX3_goesThrough 40 = .ok (.iconst 1, 1) := by decide +kernel
theorem dX3_goesThrough_41 : decode cX3_goesThrough 41 = .ok (.goto 4, 3) := by decide +kernel
theorem dX3_goesThrough_44 : decode cX3_goesThrough 44 = .ok (.iconst 0, 1) := by decide +kernel
theorem dX3_goesThrough_45 : decode cX3_goesThrough 45 = .ok (.istore_n 3, 1) := by decide +kernel
theorem dX3_goesThrough_46 : decode cX3_goesThrough 46 = .ok (.iload_n 2, 1) := by decide +kernel
theorem dX3_goesThrough_47 : decode cX3_goesThrough 47 = .ok (.iload_n 3, 1) := by decide +kernel
theorem dX3_goesThrough_48 : decode cX3_goesThrough 48 = .ok (.ifCond .eq 7, 3) := by decide +kernel
theorem dX3_goesThrough_51 : decode cX3_goesThrough 51 = .ok (.iconst 1, 1) := by decide +kernel
theorem dX3_goesThrough_52 : decode cX3_goesThrough 52 = .ok (.goto 4, 3) := by decide +kernel
theorem dX3_goesThrough_55 : decode cX3_goesThrough 55 = .ok (.iconst 0, 1) := by decide +kernel
theorem dX3_goesThrough_56 : decode cX3_goesThrough 56 = .ok (.iadd, 1) := by decide +kernel
theorem dX3_goesThrough_57 : decode cX3_goesThrough 57 = .ok (.istore_n 2, 1) := by decide +kernel
theorem dX3_goesThrough_58 : decode cX3_goesThrough 58 = .ok (.iload_n 3, 1) := by decide +kernel
theorem dX3_goesThrough_59 : decode cX3_goesThrough 59 = .ok (.ifCond .eq 18, 3) := by decide +kernel
theorem dX3_goesThrough_62 : decode cX3_goesThrough 62 = .ok (.aload_n 0, 1) := by decide +kernel
theorem dX3_goesThrough_63 : decode cX3_goesThrough 63 = .ok (.getfield 106, 3) := by decide +kernel
theorem dX3_goesThrough_66 : decode cX3_goesThrough 66 = .ok (.aload_n 0, 1) := by decide +kernel
theorem dX3_goesThrough_67 : decode cX3_goesThrough 67 = .ok (.getfield 99, 3) := by decide +kernel
theorem dX3_goesThrough_70 : decode cX3_goesThrough 70 = .ok (.if_icmp .ge 7, 3) := by decide +kernel
theorem dX3_goesThrough_73 : decode cX3_goesThrough 73 = .ok (.iconst 1, 1) := by decide +kernel
theorem dX3_goesThrough_74 : decode cX3_goesThrough 74 = .ok (.goto 4, 3) := by decide +kernel
theorem dX3_goesThrough_77 : decode cX3_goesThrough 77 = .ok (.iconst 0, 1) := by decide +kernel
theorem dX3_goesThrough_78 : decode cX3_goesThrough 78 = .ok (.istore_n 3, 1) := by decide +kernel
theorem dX3_goesThrough_79 : decode cX3_goesThrough 79 = .ok (.iload_n 3, 1) := by decide +kernel
theorem dX3_goesThrough_80 : decode cX3_goesThrough 80 = .ok (.ifCond .eq (-66), 3) := by decide +kernel
theorem dX3_goesThrough_83 : decode cX3_goesThrough 83 = .ok (.aload_n 0, 1) := by decide +kernel
theorem dX3_goesThrough_84 : decode cX3_goesThrough 84 = .ok (.bipush 59, 2) := by decide +kernel
theorem dX3_goesThrough_86 : decode cX3_goesThrough 86 = .ok (.bipush 59, 2) := by decide +kernel
theorem dX3_goesThrough_88 : decode cX3_goesThrough 88 = .ok (.invokevirtual 116, 3) := by decide +kernel
theorem dX3_goesThrough_91 : decode cX3_goesThrough 91 = .ok (.istore 4, 2) := by decide +kernel
theorem dX3_goesThrough_93 : decode cX3_goesThrough 93 = .ok (.aload_n 0, 1) := by decide +kernel
theorem dX3_goesThrough_94 : decode cX3_goesThrough 94 = .ok (.getfield 102, 3) := by decide +kernel
theorem dX3_goesThrough_97 : decode cX3_goesThrough 97 = .ok (.ifCond .ne 7, 3) := by decide +kernel
theorem dX3_goesThrough_100 : decode cX3_goesThrough 100 = .ok (.iconst 1, 1) := by decide +kernel
theorem dX3_goesThrough_101 : decode cX3_goesThrough 101 = .ok (.goto 4, 3) := by decide +kernel
theorem dX3_goesThrough_104 : decode cX3_goesThrough 104 = .ok (.iconst 0, 1) := by decide +kernel
theorem dX3_goesThrough_105 : decode cX3_goesThrough 105 = .ok (.istore_n 3, 1) := by decide +kernel
theorem dX3_goesThrough_106 : decode cX3_goesThrough 106 = .ok (.goto (-92), 3) := by decide +kernel
theorem dX3_goesThrough_109 : decode cX3_goesThrough 109 = .ok (.iload_n 2, 1) := by decide +kernel
theorem dX3_goesThrough_110 : decode cX3_goesThrough 110 = .ok (.ireturn, 1) := by decide +kernel
set_option maxRecDepth 20000 in
theorem ggX3_firstError_X3_goesThrough : GoodIn wsX3_firstError wsX3_goesThrough := goodIn_r _ [9, 3, 2, 4, 10, 11, 12, 8, 13, 14, 15, 16, 17, 18, 19, 20, 21, 22, 23, 24, 25, 26, 27, 28, 29, 30, 31, 32, 33, 34, 35, 36, 37, 38, 39, 40, 41, 42, 43, 44, 45, 46, 47, 48, 49, 50, 51, 52, 53, 54, 55, 56, 57, 58, 59, 60, 61, 62, 63, 64, 65, 66, 67, 68, 69, 70, 71, 72, 73, 74, 75, 76, 77, 78, 79, 80, 81, 82, 83, 84, 85, 86, 87, 88, 89, 90, 91, 92, 93, 94, 95, 96, 97, 98, 99, 100, 101, 102, 103, 104, 105, 106, 107, 108, 109] (by decide +kernel) (by decide +kernel)
set_option maxRecDepth 20000 in
theorem gX3_firstError_X3_goesThrough : GoodIn wsX3_firstError (wsV RX3 132 RX3 yX3_goesThrough wsX3_goesThrough) := goodIn_app (goodIn_of _ (by decide +kernel)) ggX3_firstError_X3_goesThrough
theorem dX3_firstError_0 : decode cX3_firstError 0 = .ok (.aload_n 0, 1) := by decide +kernel
theorem dX3_firstError_1 : decode cX3_firstError 1 = .ok (.iconst 0, 1) := by decide +kernel
theorem dX3_firstError_2 : decode cX3_firstError 2 = .ok (.putfield 32, 3) := by decide +kernel
theorem dX3_firstError_5 : decode cX3_firstError 5 = .ok (.aload_n 0, 1) := by decide +kernel
theorem dX3_firstError_6 : decode cX3_firstError 6 = .ok (.iconst 0, 1) := by decide +kernel
theorem dX3_firstError_7 : decode cX3_firstError 7 = .ok (.invokevirtual 132, 3) := by decide +kernel
theorem dX3_firstError_10 : decode cX3_firstError 10 = .ok (.istore_n 1, 1) := by decide +kernel
theorem dX3_firstError_11 : decode cX3_firstError 11 = .ok (.aload_n 0, 1) := by decide +kernel
theorem dX3_firstError_12 : decode cX3_firstError 12 = .ok (.getfield 102, 3) := by decide +kernel
theorem dX3_firstError_15 : decode cX3_firstError 15 = .ok (.ifCond .eq 10, 3) := by decide +kernel
theorem dX3_firstError_18 : decode cX3_firstError 18 = .ok (.aload_n 0, 1) := by decide +kernel
theorem dX3_firstError_19 : decode cX3_firstError 19 = .ok (.getfield 106, 3) := by decide +kernel
theorem dX3_firstError_22 : decode cX3_firstError 22 = .ok (.goto 7, 3) := by decide +kernel
theorem dX3_firstError_25 : decode cX3_firstError 25 = .ok (.aload_n 0, 1) := by decide +kernel
theorem dX3_firstError_26 : decode cX3_firstError 26 = .ok (.getfield 99, 3) := by decide +kernel
theorem dX3_firstError_29 : decode cX3_firstError 29 = .ok (.ireturn, 1) := by decide +kernel
set_option maxRecDepth 20000 in
theorem ggX3_run_X3_goesThrough : GoodIn wsX3_run wsX3_goesThrough := goodIn_r _ [7, 8, 1, 2, 9, 10, 11, 6, 12, 13, 14, 15, 16, 17, 18, 19, 20, 21, 22, 23, 24, 25, 26, 27, 28, 29, 30, 31, 32, 33, 34, 35, 36, 37, 38, 39, 40, 41, 42, 43, 44, 45, 46, 47, 48, 49, 50, 51, 52, 53, 54, 55, 56, 57, 58, 59, 60, 61, 62, 63, 64, 65, 66, 67, 68, 69, 70, 71, 72, 73, 74, 75, 76, 77, 78, 79, 80, 81, 82, 83, 84, 85, 86, 87, 88, 89, 90, 91, 92, 93, 105, 106, 107, 108, 109, 110, 111, 112, 113, 114, 115, 116, 117, 118, 119] (by decide +kernel) (by decide +kernel)
set_option maxRecDepth 20000 in
theorem gX3_run_X3_goesThrough : GoodIn wsX3_run (wsV RX3 132 RX3 yX3_goesThrough wsX3_goesThrough) := goodIn_app (goodIn_of _ (by decide +kernel)) ggX3_run_X3_goesThrough
set_option maxRecDepth 20000 in
theorem ggX3_run_X3_holds : GoodIn wsX3_run wsX3_holds := goodIn_r _ [97, 98, 105, 106, 107, 108, 109, 110, 111, 112, 113, 114, 115, 116, 117, 118, 119] (by decide +kernel) (by decide +kernel)
set_option maxRecDepth 20000 in
theorem gX3_run_X3_holds : GoodIn wsX3_run (wsV RX3 81 RX3 yX3_holds wsX3_holds) := goodIn_app (goodIn_of _ (by decide +kernel)) ggX3_run_X3_holds
set_option maxRecDepth 20000 in
theorem ggX3_run_X3_save : GoodIn wsX3_run wsX3_save := goodIn_r _ [102, 103, 104, 32, 105, 106, 107, 108, 109, 110, 111, 112, 113, 114, 115, 116, 117, 118, 119] (by decide +kernel) (by decide +kernel)
set_option maxRecDepth 20000 in
theorem gX3_run_X3_save : GoodIn wsX3_run (wsV RX3 84 RX3 yX3_save wsX3_save) := goodIn_app (goodIn_of _ (by decide +kernel)) ggX3_run_X3_save
theorem dX3_run_0 : decode cX3_run 0 = .ok (.aload_n 0, 1) := by decide +kernel
theorem dX3_run_1 : decode cX3_run 1 = .ok (.iconst 0, 1) := by decide +kernel
theorem dX3_run_2 : decode cX3_run 2 = .ok (.invokevirtual 132, 3) := by decide +kernel
theorem dX3_run_5 : decode cX3_run 5 = .ok (.istore_n 1, 1) := by decide +kernel
theorem dX3_run_6 : decode cX3_run 6 = .ok (.aload_n 0, 1) := by decide +kernel
theorem dX3_run_7 : decode cX3_run 7 = .ok (.aload_n 0, 1) := by decide +kernel
theorem dX3_run_8 : decode cX3_run 8 = .ok (.getfield 102, 3) := by decide +kernel
theorem dX3_run_11 : decode cX3_run 11 = .ok (.ifCond .eq 7, 3) := by decide +kernel
theorem dX3_run_14 : decode cX3_run 14 = .ok (.iconst 1, 1) := by decide +kernel
theorem dX3_run_15 : decode cX3_run 15 = .ok (.goto 4, 3) := by decide +kernel
theorem dX3_run_18 : decode cX3_run 18 = .ok (.iconst 0, 1) := by decide +kernel
theorem dX3_run_19 : decode cX3_run 19 = .ok (.invokevirtual 81, 3) := by decide +kernel
theorem dX3_run_22 : decode cX3_run 22 = .ok (.ifCond .ne 5, 3) := by decide +kernel
theorem dX3_run_25 : decode cX3_run 25 = .ok (.iconst 0, 1) := by decide +kernel
theorem dX3_run_26 : decode cX3_run 26 = .ok (.ireturn, 1) := by decide +kernel
theorem dX3_run_27 : decode cX3_run 27 = .ok (.aload_n 0, 1) := by decide +kernel
theorem dX3_run_28 : decode cX3_run 28 = .ok (.invokevirtual 84, 3) := by decide +kernel
theorem dX3_run_31 : decode cX3_run 31 = .ok (.aload_n 0, 1) := by decide +kernel
theorem dX3_run_32 : decode cX3_run 32 = .ok (.iconst 1, 1) := by decide +kernel
theorem dX3_run_33 : decode cX3_run 33 = .ok (.invokevirtual 132, 3) := by decide +kernel
theorem dX3_run_36 : decode cX3_run 36 = .ok (.istore_n 1, 1) := by decide +kernel
theorem dX3_run_37 : decode cX3_run 37 = .ok (.aload_n 0, 1) := by decide +kernel
theorem dX3_run_38 : decode cX3_run 38 = .ok (.iconst 0, 1) := by decide +kernel
theorem dX3_run_39 : decode cX3_run 39 = .ok (.putfield 99, 3) := by decide +kernel
theorem dX3_run_42 : decode cX3_run 42 = .ok (.iload_n 1, 1) := by decide +kernel
theorem dX3_run_43 : decode cX3_run 43 = .ok (.ireturn, 1) := by decide +kernel
set_option maxRecDepth 20000 in
theorem ggX3_teaInPots_X3_ofPot : GoodIn wsX3_teaInPots wsX3_ofPot := goodIn_r _ [5] (by decide +kernel) (by decide +kernel)
set_option maxRecDepth 20000 in
theorem gX3_teaInPots_X3_ofPot : GoodIn wsX3_teaInPots (va_wsS RX3 29 yX3_ofPot wsX3_ofPot) := goodIn_app (goodIn_of _ (by decide +kernel)) ggX3_teaInPots_X3_ofPot
theorem dX3_teaInPots_0 : decode cX3_teaInPots 0 = .ok (.aload_n 0, 1) := by decide +kernel
theorem dX3_teaInPots_1 : decode cX3_teaInPots 1 = .ok (.getfield 7, 3) := by decide +kernel
theorem dX3_teaInPots_4 : decode cX3_teaInPots 4 = .ok (.iconst 0, 1) := by decide +kernel
theorem dX3_teaInPots_5 : decode cX3_teaInPots 5 = .ok (.iconst 1, 1) := by decide +kernel
theorem dX3_teaInPots_6 : decode cX3_teaInPots 6 = .ok (.invokestatic 29, 3) := by decide +kernel
theorem dX3_teaInPots_9 : decode cX3_teaInPots 9 = .ok (.iaload, 1) := by decide +kernel
theorem dX3_teaInPots_10 : decode cX3_teaInPots 10 = .ok (.aload_n 0, 1) := by decide +kernel
theorem dX3_teaInPots_11 : decode cX3_teaInPots 11 = .ok (.getfield 7, 3) := by decide +kernel
theorem dX3_teaInPots_14 : decode cX3_teaInPots 14 = .ok (.iconst 1, 1) := by decide +kernel
theorem dX3_teaInPots_15 : decode cX3_teaInPots 15 = .ok (.iconst 1, 1) := by decide +kernel
theorem dX3_teaInPots_16 : decode cX3_teaInPots 16 = .ok (.invokestatic 29, 3) := by decide +kernel
theorem dX3_teaInPots_19 : decode cX3_teaInPots 19 = .ok (.iaload, 1) := by decide +kernel
theorem dX3_teaInPots_20 : decode cX3_teaInPots 20 = .ok (.iadd, 1) := by decide +kernel
theorem dX3_teaInPots_21 : decode cX3_teaInPots 21 = .ok (.aload_n 0, 1) := by decide +kernel
theorem dX3_teaInPots_22 : decode cX3_teaInPots 22 = .ok (.getfield 7, 3) := by decide +kernel
theorem dX3_teaInPots_25 : decode cX3_teaInPots 25 = .ok (.iconst 2, 1) := by decide +kernel
theorem dX3_teaInPots_26 : decode cX3_teaInPots 26 = .ok (.iconst 1, 1) := by decide +kernel
theorem dX3_teaInPots_27 : decode cX3_teaInPots 27 = .ok (.invokestatic 29, 3) := by decide +kernel
theorem dX3_teaInPots_30 : decode cX3_teaInPots 30 = .ok (.iaload, 1) := by decide +kernel
theorem dX3_teaInPots_31 : decode cX3_teaInPots 31 = .ok (.iadd, 1) := by decide +kernel
theorem dX3_teaInPots_32 : decode cX3_teaInPots 32 = .ok (.ireturn, 1) := by decide +kernel
set_option maxRecDepth 20000 in
theorem ggX3_keep_X3_teaInPots : GoodIn wsX3_keep wsX3_teaInPots := goodIn_r _ [9, 3, 10, 11, 8, 12, 13, 14, 15, 16, 17, 18, 19, 20, 21, 22, 23, 24, 25, 26, 27] (by decide +kernel) (by decide +kernel)
set_option maxRecDepth 20000 in
theorem gX3_keep_X3_teaInPots : GoodIn wsX3_keep (wsV RX3 139 RX3 yX3_teaInPots wsX3_teaInPots) := goodIn_app (goodIn_of _ (by decide +kernel)) ggX3_keep_X3_teaInPots
theorem dX3_keep_0 : decode cX3_keep 0 = .ok (.aload_n 0, 1) := by decide +kernel
theorem dX3_keep_1 : decode cX3_keep 1 = .ok (.iconst 0, 1) := by decide +kernel
theorem dX3_keep_2 : decode cX3_keep 2 = .ok (.putfield 32, 3) := by decide +kernel
theorem dX3_keep_5 : decode cX3_keep 5 = .ok (.iconst 0, 1) := by decide +kernel
theorem dX3_keep_6 : decode cX3_keep 6 = .ok (.istore_n 1, 1) := by decide +kernel
theorem dX3_keep_7 : decode cX3_keep 7 = .ok (.iload_n 1, 1) := by decide +kernel
theorem dX3_keep_8 : decode cX3_keep 8 = .ok (.sipush 138, 3) := by decide +kernel
theorem dX3_keep_11 : decode cX3_keep 11 = .ok (.if_icmp .ge 21, 3) := by decide +kernel
theorem dX3_keep_14 : decode cX3_keep 14 = .ok (.aload_n 0, 1) := by decide +kernel
theorem dX3_keep_15 : decode cX3_keep 15 = .ok (.getfield 19, 3) := by decide +kernel
theorem dX3_keep_18 : decode cX3_keep 18 = .ok (.iload_n 1, 1) := by decide +kernel
theorem dX3_keep_19 : decode cX3_keep 19 = .ok (.aload_n 0, 1) := by decide +kernel
theorem dX3_keep_20 : decode cX3_keep 20 = .ok (.getfield 7, 3) := by decide +kernel
theorem dX3_keep_23 : decode cX3_keep 23 = .ok (.iload_n 1, 1) := by decide +kernel
theorem dX3_keep_24 : decode cX3_keep 24 = .ok (.iaload, 1) := by decide +kernel
theorem dX3_keep_25 : decode cX3_keep 25 = .ok (.iastore, 1) := by decide +kernel
theorem dX3_keep_26 : decode cX3_keep 26 = .ok (.iinc 1 1, 3) := by decide +kernel
theorem dX3_keep_29 : decode cX3_keep 29 = .ok (.goto (-22), 3) := by decide +kernel
theorem dX3_keep_32 : decode cX3_keep 32 = .ok (.aload_n 0, 1) := by decide +kernel
theorem dX3_keep_33 : decode cX3_keep 33 = .ok (.iconst 1, 1) := by decide +kernel
theorem dX3_keep_34 : decode cX3_keep 34 = .ok (.putfield 136, 3) := by decide +kernel
theorem dX3_keep_37 : decode cX3_keep 37 = .ok (.aload_n 0, 1) := by decide +kernel
theorem dX3_keep_38 : decode cX3_keep 38 = .ok (.invokevirtual 139, 3) := by decide +kernel
theorem dX3_keep_41 : decode cX3_keep 41 = .ok (.ireturn, 1) := by decide +kernel
set_option maxRecDepth 20000 in
theorem ggX3_goBack_X3_holds : GoodIn wsX3_goBack wsX3_holds := goodIn_r _ [8, 9, 23, 24, 25, 26, 27, 28, 29, 30, 31, 32, 33, 34, 35, 36, 37] (by decide +kernel) (by decide +kernel)
set_option maxRecDepth 20000 in
theorem gX3_goBack_X3_holds : GoodIn wsX3_goBack (wsV RX3 81 RX3 yX3_holds wsX3_holds) := goodIn_app (goodIn_of _ (by decide +kernel)) ggX3_goBack_X3_holds
set_option maxRecDepth 20000 in
theorem ggX3_goBack_X3_save : GoodIn wsX3_goBack wsX3_save := goodIn_r _ [13, 14, 15, 2, 23, 24, 25, 26, 27, 28, 29, 30, 31, 32, 33, 34, 35, 36, 37] (by decide +kernel) (by decide +kernel)
set_option maxRecDepth 20000 in
theorem gX3_goBack_X3_save : GoodIn wsX3_goBack (wsV RX3 84 RX3 yX3_save wsX3_save) := goodIn_app (goodIn_of _ (by decide +kernel)) ggX3_goBack_X3_save
set_option maxRecDepth 20000 in
theorem ggX3_goBack_X3_teaInPots : GoodIn wsX3_goBack wsX3_teaInPots := goodIn_r _ [19, 2, 20, 21, 7, 22, 23, 24, 25, 26, 27, 28, 29, 30, 31, 32, 33, 34, 35, 36, 37] (by decide +kernel) (by decide +kernel)
set_option maxRecDepth 20000 in
theorem gX3_goBack_X3_teaInPots : GoodIn wsX3_goBack (wsV RX3 139 RX3 yX3_teaInPots wsX3_teaInPots) := goodIn_app (goodIn_of _ (by decide +kernel)) ggX3_goBack_X3_teaInPots
theorem dX3_goBack_0 : decode cX3_goBack 0 = .ok (.aload_n 0, 1) := by decide +kernel
theorem dX3_goBack_1 : decode cX3_goBack 1 = .ok (.aload_n 0, 1) := by decide +kernel
theorem dX3_goBack_2 : decode cX3_goBack 2 = .ok (.getfield 136, 3) := by decide +kernel
theorem dX3_goBack_5 : decode cX3_goBack 5 = .ok (.ifCond .eq 7, 3) := by decide +kernel
theorem dX3_goBack_8 : decode cX3_goBack 8 = .ok (.iconst 0, 1) := by decide +kernel
theorem dX3_goBack_9 : decode cX3_goBack 9 = .ok (.goto 4, 3) := by decide +kernel
theorem dX3_goBack_12 : decode cX3_goBack 12 = .ok (.iconst 1, 1) := by decide +kernel
theorem dX3_goBack_13 : decode cX3_goBack 13 = .ok (.invokevirtual 81, 3) := by decide +kernel
theorem dX3_goBack_16 : decode cX3_goBack 16 = .ok (.ifCond .ne 5, 3) := by decide +kernel
theorem dX3_goBack_19 : decode cX3_goBack 19 = .ok (.iconst 0, 1) := by decide +kernel
theorem dX3_goBack_20 : decode cX3_goBack 20 = .ok (.ireturn, 1) := by decide +kernel
theorem dX3_goBack_21 : decode cX3_goBack 21 = .ok (.aload_n 0, 1) := by decide +kernel
theorem dX3_goBack_22 : decode cX3_goBack 22 = .ok (.invokevirtual 84, 3) := by decide +kernel
theorem dX3_goBack_25 : decode cX3_goBack 25 = .ok (.iconst 0, 1) := by decide +kernel
theorem dX3_goBack_26 : decode cX3_goBack 26 = .ok (.istore_n 1, 1) := by decide +kernel
theorem dX3_goBack_27 : decode cX3_goBack 27 = .ok (.iload_n 1, 1) := by decide +kernel
theorem dX3_goBack_28 : decode cX3_goBack 28 = .ok (.sipush 138, 3) := by decide +kernel
theorem dX3_goBack_31 : decode cX3_goBack 31 = .ok (.if_icmp .ge 21, 3) := by decide +kernel
theorem dX3_goBack_34 : decode cX3_goBack 34 = .ok (.aload_n 0, 1) := by decide +kernel
theorem dX3_goBack_35 : decode cX3_goBack 35 = .ok (.getfield 7, 3) := by decide +kernel
theorem dX3_goBack_38 : decode cX3_goBack 38 = .ok (.iload_n 1, 1) := by decide +kernel
theorem dX3_goBack_39 : decode cX3_goBack 39 = .ok (.aload_n 0, 1) := by decide +kernel
theorem dX3_goBack_40 : decode cX3_goBack 40 = .ok (.getfield 19, 3) := by decide +kernel
theorem dX3_goBack_43 : decode cX3_goBack 43 = .ok (.iload_n 1, 1) := by decide +kernel
theorem dX3_goBack_44 : decode cX3_goBack 44 = .ok (.iaload, 1) := by decide +kernel
theorem dX3_goBack_45 : decode cX3_goBack 45 = .ok (.iastore, 1) := by decide +kernel
theorem dX3_goBack_46 : decode cX3_goBack 46 = .ok (.iinc 1 1, 3) := by decide +kernel
theorem dX3_goBack_49 : decode cX3_goBack 49 = .ok (.goto (-22), 3) := by decide +kernel
theorem dX3_goBack_52 : decode cX3_goBack 52 = .ok (.aload_n 0, 1) := by decide +kernel
theorem dX3_goBack_53 : decode cX3_goBack 53 = .ok (.invokevirtual 139, 3) := by decide +kernel
theorem dX3_goBack_56 : decode cX3_goBack 56 = .ok (.ireturn, 1) := by decide +kernel
set_option maxRecDepth 20000 in
theorem ggX3_undo_X3_holds : GoodIn wsX3_undo wsX3_holds := goodIn_r _ [8, 9, 10, 11, 12, 13, 14, 15, 16, 17, 18, 19, 20, 21, 22, 23, 24] (by decide +kernel) (by decide +kernel)
set_option maxRecDepth 20000 in
theorem gX3_undo_X3_holds : GoodIn wsX3_undo (wsV RX3 81 RX3 yX3_holds wsX3_holds) := goodIn_app (goodIn_of _ (by decide +kernel)) ggX3_undo_X3_holds
theorem dX3_undo_0 : decode cX3_undo 0 = .ok (.aload_n 0, 1) := by decide +kernel
theorem dX3_undo_1 : decode cX3_undo 1 = .ok (.aload_n 0, 1) := by decide +kernel
theorem dX3_undo_2 : decode cX3_undo 2 = .ok (.getfield 40, 3) := by decide +kernel
theorem dX3_undo_5 : decode cX3_undo 5 = .ok (.ifCond .le 7, 3) := by decide +kernel
theorem dX3_undo_8 : decode cX3_undo 8 = .ok (.iconst 0, 1) := by decide +kernel
theorem dX3_undo_9 : decode cX3_undo 9 = .ok (.goto 4, 3) := by decide +kernel
theorem dX3_undo_12 : decode cX3_undo 12 = .ok (.iconst 1, 1) := by decide +kernel
theorem dX3_undo_13 : decode cX3_undo 13 = .ok (.invokevirtual 81, 3) := by decide +kernel
theorem dX3_undo_16 : decode cX3_undo 16 = .ok (.ifCond .ne 5, 3) := by decide +kernel
theorem dX3_undo_19 : decode cX3_undo 19 = .ok (.iconst 0, 1) := by decide +kernel
theorem dX3_undo_20 : decode cX3_undo 20 = .ok (.ireturn, 1) := by decide +kernel
theorem dX3_undo_21 : decode cX3_undo 21 = .ok (.aload_n 0, 1) := by decide +kernel
theorem dX3_undo_22 : decode cX3_undo 22 = .ok (.dup, 1) := by decide +kernel
theorem dX3_undo_23 : decode cX3_undo 23 = .ok (.getfield 40, 3) := by decide +kernel
theorem dX3_undo_26 : decode cX3_undo 26 = .ok (.iconst 1, 1) := by decide +kernel
theorem dX3_undo_27 : decode cX3_undo 27 = .ok (.isub, 1) := by decide +kernel
theorem dX3_undo_28 : decode cX3_undo 28 = .ok (.putfield 40, 3) := by decide +kernel
theorem dX3_undo_31 : decode cX3_undo 31 = .ok (.iconst 0, 1) := by decide +kernel
theorem dX3_undo_32 : decode cX3_undo 32 = .ok (.istore_n 1, 1) := by decide +kernel
theorem dX3_undo_33 : decode cX3_undo 33 = .ok (.iload_n 1, 1) := by decide +kernel
theorem dX3_undo_34 : decode cX3_undo 34 = .ok (.sipush 138, 3) := by decide +kernel
theorem dX3_undo_37 : decode cX3_undo 37 = .ok (.if_icmp .ge 30, 3) := by decide +kernel
theorem dX3_undo_40 : decode cX3_undo 40 = .ok (.aload_n 0, 1) := by decide +kernel
theorem dX3_undo_41 : decode cX3_undo 41 = .ok (.getfield 7, 3) := by decide +kernel
theorem dX3_undo_44 : decode cX3_undo 44 = .ok (.iload_n 1, 1) := by decide +kernel
theorem dX3_undo_45 : decode cX3_undo 45 = .ok (.aload_n 0, 1) := by decide +kernel
theorem dX3_undo_46 : decode cX3_undo 46 = .ok (.getfield 16, 3) := by decide +kernel
theorem dX3_undo_49 : decode cX3_undo 49 = .ok (.sipush 138, 3) := by decide +kernel
theorem dX3_undo_52 : decode cX3_undo 52 = .ok (.aload_n 0, 1) := by decide +kernel
theorem dX3_undo_53 : decode cX3_undo 53 = .ok (.getfield 40, 3) := by decide +kernel
theorem dX3_undo_56 : decode cX3_undo 56 = .ok (.imul, 1) := by decide +kernel
theorem dX3_undo_57 : decode cX3_undo 57 = .ok (.iload_n 1, 1) := by decide +kernel
theorem dX3_undo_58 : decode cX3_undo 58 = .ok (.iadd, 1) := by decide +kernel
theorem dX3_undo_59 : decode cX3_undo 59 = .ok (.iaload, 1) := by decide +kernel
theorem dX3_undo_60 : decode cX3_undo 60 = .ok (.iastore, 1) := by decide +kernel
theorem dX3_undo_61 : decode cX3_undo 61 = .ok (.iinc 1 1, 3) := by decide +kernel
theorem dX3_undo_64 : decode cX3_undo 64 = .ok (.goto (-31), 3) := by decide +kernel
theorem dX3_undo_67 : decode cX3_undo 67 = .ok (.aload_n 0, 1) := by decide +kernel
theorem dX3_undo_68 : decode cX3_undo 68 = .ok (.getfield 40, 3) := by decide +kernel
theorem dX3_undo_71 : decode cX3_undo 71 = .ok (.ireturn, 1) := by decide +kernel
set_option maxRecDepth 20000 in
theorem ggX3_potsWith_X3_with : GoodIn wsX3_potsWith wsX3_with := goodIn_r _ [5, 6, 7, 8, 4, 9, 10, 11, 12, 13, 14, 15, 16, 17, 18, 19, 20, 21, 22, 23, 24] (by decide +kernel) (by decide +kernel)
set_option maxRecDepth 20000 in
theorem gX3_potsWith_X3_with : GoodIn wsX3_potsWith (wsV RX3 43 RX3 yX3_with wsX3_with) := goodIn_app (goodIn_of _ (by decide +kernel)) ggX3_potsWith_X3_with
theorem dX3_potsWith_0 : decode cX3_potsWith 0 = .ok (.iconst 0, 1) := by decide +kernel
theorem dX3_potsWith_1 : decode cX3_potsWith 1 = .ok (.istore_n 2, 1) := by decide +kernel
theorem dX3_potsWith_2 : decode cX3_potsWith 2 = .ok (.iconst 0, 1) := by decide +kernel
theorem dX3_potsWith_3 : decode cX3_potsWith 3 = .ok (.istore_n 3, 1) := by decide +kernel
theorem dX3_potsWith_4 : decode cX3_potsWith 4 = .ok (.iload_n 3, 1) := by decide +kernel
theorem dX3_potsWith_5 : decode cX3_potsWith 5 = .ok (.iconst 3, 1) := by decide +kernel
theorem dX3_potsWith_6 : decode cX3_potsWith 6 = .ok (.if_icmp .ge 28, 3) := by decide +kernel
theorem dX3_potsWith_9 : decode cX3_potsWith 9 = .ok (.iload_n 2, 1) := by decide +kernel
theorem dX3_potsWith_10 : decode cX3_potsWith 10 = .ok (.aload_n 0, 1) := by decide +kernel
theorem dX3_potsWith_11 : decode cX3_potsWith 11 = .ok (.iload_n 3, 1) := by decide +kernel
theorem dX3_potsWith_12 : decode cX3_potsWith 12 = .ok (.invokevirtual 43, 3) := by decide +kernel
theorem dX3_potsWith_15 : decode cX3_potsWith 15 = .ok (.iload_n 1, 1) := by decide +kernel
theorem dX3_potsWith_16 : decode cX3_potsWith 16 = .ok (.if_icmp .ne 9, 3) := by decide +kernel
theorem dX3_potsWith_19 : decode cX3_potsWith 19 = .ok (.iconst 1, 1) := by decide +kernel
theorem dX3_potsWith_20 : decode cX3_potsWith 20 = .ok (.iload_n 3, 1) := by decide +kernel
theorem dX3_potsWith_21 : decode cX3_potsWith 21 = .ok (.ishl, 1) := by decide +kernel
theorem dX3_potsWith_22 : decode cX3_potsWith 22 = .ok (.goto 4, 3) := by decide +kernel
theorem dX3_potsWith_25 : decode cX3_potsWith 25 = .ok (.iconst 0, 1) := by decide +kernel
theorem dX3_potsWith_26 : decode cX3_potsWith 26 = .ok (.ior, 1) := by decide +kernel
theorem dX3_potsWith_27 : decode cX3_potsWith 27 = .ok (.istore_n 2, 1) := by decide +kernel
theorem dX3_potsWith_28 : decode cX3_potsWith 28 = .ok (.iinc 3 1, 3) := by decide +kernel
theorem dX3_potsWith_31 : decode cX3_potsWith 31 = .ok (.goto (-27), 3) := by decide +kernel
theorem dX3_potsWith_34 : decode cX3_potsWith 34 = .ok (.iload_n 2, 1) := by decide +kernel
theorem dX3_potsWith_35 : decode cX3_potsWith 35 = .ok (.ireturn, 1) := by decide +kernel
set_option maxRecDepth 20000 in
theorem ggX3_ofGuest_X3_of : GoodIn wsX3_ofGuest wsX3_of := goodIn_r _ [5] (by decide +kernel) (by decide +kernel)
set_option maxRecDepth 20000 in
theorem gX3_ofGuest_X3_of : GoodIn wsX3_ofGuest (va_wsS RX3 25 yX3_of wsX3_of) := goodIn_app (goodIn_of _ (by decide +kernel)) ggX3_ofGuest_X3_of
set_option maxRecDepth 20000 in
theorem ggX3_ofGuest_X3_potsWith : GoodIn wsX3_ofGuest wsX3_potsWith := goodIn_r _ [9, 10, 11, 12, 4, 13, 1, 14, 15, 16, 17, 18, 19, 20, 21, 22, 23, 24, 25, 26, 27, 28, 29, 30, 31] (by decide +kernel) (by decide +kernel)
set_option maxRecDepth 20000 in
theorem gX3_ofGuest_X3_potsWith : GoodIn wsX3_ofGuest (wsV RX3 143 RX3 yX3_potsWith wsX3_potsWith) := goodIn_app (goodIn_of _ (by decide +kernel)) ggX3_ofGuest_X3_potsWith
theorem dX3_ofGuest_0 : decode cX3_ofGuest 0 = .ok (.iload_n 2, 1) := by decide +kernel
theorem dX3_ofGuest_1 : decode cX3_ofGuest 1 = .ok (.bipush 9, 2) := by decide +kernel
theorem dX3_ofGuest_3 : decode cX3_ofGuest 3 = .ok (.if_icmp .ge 16, 3) := by decide +kernel
theorem dX3_ofGuest_6 : decode cX3_ofGuest 6 = .ok (.aload_n 0, 1) := by decide +kernel
theorem dX3_ofGuest_7 : decode cX3_ofGuest 7 = .ok (.getfield 7, 3) := by decide +kernel
theorem dX3_ofGuest_10 : decode cX3_ofGuest 10 = .ok (.iload_n 1, 1) := by decide +kernel
theorem dX3_ofGuest_11 : decode cX3_ofGuest 11 = .ok (.iload_n 2, 1) := by decide +kernel
theorem dX3_ofGuest_12 : decode cX3_ofGuest 12 = .ok (.invokestatic 25, 3) := by decide +kernel
theorem dX3_ofGuest_15 : decode cX3_ofGuest 15 = .ok (.iaload, 1) := by decide +kernel
theorem dX3_ofGuest_16 : decode cX3_ofGuest 16 = .ok (.goto 8, 3) := by decide +kernel
theorem dX3_ofGuest_19 : decode cX3_ofGuest 19 = .ok (.aload_n 0, 1) := by decide +kernel
theorem dX3_ofGuest_20 : decode cX3_ofGuest 20 = .ok (.iload_n 1, 1) := by decide +kernel
theorem dX3_ofGuest_21 : decode cX3_ofGuest 21 = .ok (.invokevirtual 143, 3) := by decide +kernel
theorem dX3_ofGuest_24 : decode cX3_ofGuest 24 = .ok (.ireturn, 1) := by decide +kernel
set_option maxRecDepth 20000 in
theorem ggX3_guest_X3_isGuest : GoodIn wsX3_guest wsX3_isGuest := goodIn_r _ [4, 5, 6, 3, 7] (by decide +kernel) (by decide +kernel)
set_option maxRecDepth 20000 in
theorem gX3_guest_X3_isGuest : GoodIn wsX3_guest (va_wsS RX3 77 yX3_isGuest wsX3_isGuest) := goodIn_app (goodIn_of _ (by decide +kernel)) ggX3_guest_X3_isGuest
set_option maxRecDepth 20000 in
theorem ggX3_guest_X3_in : GoodIn wsX3_guest wsX3_in := goodIn_r _ [7] (by decide +kernel) (by decide +kernel)
set_option maxRecDepth 20000 in
theorem gX3_guest_X3_in : GoodIn wsX3_guest (va_wsS RX3 36 yX3_in wsX3_in) := goodIn_app (goodIn_of _ (by decide +kernel)) ggX3_guest_X3_in
set_option maxRecDepth 20000 in
theorem ggX3_guest_X3_holds : GoodIn wsX3_guest wsX3_holds := goodIn_r _ [11, 12, 32, 33, 34, 35, 36, 37, 38, 39, 40, 41, 42, 43, 44, 45, 46] (by decide +kernel) (by decide +kernel)
set_option maxRecDepth 20000 in
theorem gX3_guest_X3_holds : GoodIn wsX3_guest (wsV RX3 81 RX3 yX3_holds wsX3_holds) := goodIn_app (goodIn_of _ (by decide +kernel)) ggX3_guest_X3_holds
set_option maxRecDepth 20000 in
theorem ggX3_guest_X3_ofGuest : GoodIn wsX3_guest wsX3_ofGuest := goodIn_r _ [16, 17, 18, 19, 3, 20, 21, 22, 23, 24, 25, 26, 27, 28, 29, 30, 31, 32, 33, 34, 35, 36, 37, 38, 39, 40, 41, 42, 43, 44, 45, 46] (by decide +kernel) (by decide +kernel)
set_option maxRecDepth 20000 in
theorem gX3_guest_X3_ofGuest : GoodIn wsX3_guest (wsV RX3 146 RX3 yX3_ofGuest wsX3_ofGuest) := goodIn_app (goodIn_of _ (by decide +kernel)) ggX3_guest_X3_ofGuest
theorem dX3_guest_0 : decode cX3_guest 0 = .ok (.aload_n 0, 1) := by decide +kernel
theorem dX3_guest_1 : decode cX3_guest 1 = .ok (.iload_n 1, 1) := by decide +kernel
theorem dX3_guest_2 : decode cX3_guest 2 = .ok (.invokestatic 77, 3) := by decide +kernel
theorem dX3_guest_5 : decode cX3_guest 5 = .ok (.ifCond .ne 7, 3) := by decide +kernel
theorem dX3_guest_8 : decode cX3_guest 8 = .ok (.iconst 1, 1) := by decide +kernel
theorem dX3_guest_9 : decode cX3_guest 9 = .ok (.goto 18, 3) := by decide +kernel
theorem dX3_guest_12 : decode cX3_guest 12 = .ok (.iload_n 2, 1) := by decide +kernel
theorem dX3_guest_13 : decode cX3_guest 13 = .ok (.iconst 0, 1) := by decide +kernel
theorem dX3_guest_14 : decode cX3_guest 14 = .ok (.bipush 9, 2) := by decide +kernel
theorem dX3_guest_16 : decode cX3_guest 16 = .ok (.invokestatic 36, 3) := by decide +kernel
theorem dX3_guest_19 : decode cX3_guest 19 = .ok (.ifCond .eq 7, 3) := by decide +kernel
theorem dX3_guest_22 : decode cX3_guest 22 = .ok (.iconst 0, 1) := by decide +kernel
theorem dX3_guest_23 : decode cX3_guest 23 = .ok (.goto 4, 3) := by decide +kernel
theorem dX3_guest_26 : decode cX3_guest 26 = .ok (.iconst 2, 1) := by decide +kernel
theorem dX3_guest_27 : decode cX3_guest 27 = .ok (.invokevirtual 81, 3) := by decide +kernel
theorem dX3_guest_30 : decode cX3_guest 30 = .ok (.ifCond .eq 12, 3) := by decide +kernel
theorem dX3_guest_33 : decode cX3_guest 33 = .ok (.aload_n 0, 1) := by decide +kernel
theorem dX3_guest_34 : decode cX3_guest 34 = .ok (.iload_n 1, 1) := by decide +kernel
theorem dX3_guest_35 : decode cX3_guest 35 = .ok (.iload_n 2, 1) := by decide +kernel
theorem dX3_guest_36 : decode cX3_guest 36 = .ok (.invokevirtual 146, 3) := by decide +kernel
theorem dX3_guest_39 : decode cX3_guest 39 = .ok (.goto 4, 3) := by decide +kernel
theorem dX3_guest_42 : decode cX3_guest 42 = .ok (.iconst 0, 1) := by decide +kernel
theorem dX3_guest_43 : decode cX3_guest 43 = .ok (.ireturn, 1) := by decide +kernel
set_option maxRecDepth 20000 in
theorem ggX3_ofOne_X3_weight : GoodIn wsX3_ofOne wsX3_weight := goodIn_r _ [6, 1, 7, 8, 5, 9, 29, 30, 31, 32, 33, 34, 35, 36, 37, 38, 39, 40, 41, 42, 43] (by decide +kernel) (by decide +kernel)
set_option maxRecDepth 20000 in
theorem gX3_ofOne_X3_weight : GoodIn wsX3_ofOne (wsV RX3 47 RX3 yX3_weight wsX3_weight) := goodIn_app (goodIn_of _ (by decide +kernel)) ggX3_ofOne_X3_weight
set_option maxRecDepth 20000 in
theorem ggX3_ofOne_X3_guess : GoodIn wsX3_ofOne wsX3_guess := goodIn_r _ [13, 1, 14, 15, 16, 5, 17, 7, 8, 9, 18, 19, 20, 2, 3, 4, 6, 29, 30, 31, 32, 33, 34, 35, 36, 37, 38, 39, 40, 41, 42, 43] (by decide +kernel) (by decide +kernel)
set_option maxRecDepth 20000 in
theorem gX3_ofOne_X3_guess : GoodIn wsX3_ofOne (wsV RX3 53 RX3 yX3_guess wsX3_guess) := goodIn_app (goodIn_of _ (by decide +kernel)) ggX3_ofOne_X3_guess
set_option maxRecDepth 20000 in
theorem ggX3_ofOne_X3_hindrance : GoodIn wsX3_ofOne wsX3_hindrance := goodIn_r _ [24, 1, 7, 8, 5, 9, 14, 15, 16, 17, 25, 26, 27, 28, 18, 19, 20, 29, 30, 31, 32, 33, 34, 35, 36, 37, 38, 39, 40, 41, 42, 43] (by decide +kernel) (by decide +kernel)
set_option maxRecDepth 20000 in
theorem gX3_ofOne_X3_hindrance : GoodIn wsX3_ofOne (wsV RX3 68 RX3 yX3_hindrance wsX3_hindrance) := goodIn_app (goodIn_of _ (by decide +kernel)) ggX3_ofOne_X3_hindrance
set_option maxRecDepth 20000 in
theorem ggX3_ofOne_X3_ofPot : GoodIn wsX3_ofOne wsX3_ofPot := goodIn_r _ [9] (by decide +kernel) (by decide +kernel)
set_option maxRecDepth 20000 in
theorem gX3_ofOne_X3_ofPot : GoodIn wsX3_ofOne (va_wsS RX3 29 yX3_ofPot wsX3_ofPot) := goodIn_app (goodIn_of _ (by decide +kernel)) ggX3_ofOne_X3_ofPot
theorem dX3_ofOne_0 : decode cX3_ofOne 0 = .ok (.iload_n 2, 1) := by decide +kernel
theorem dX3_ofOne_1 : decode cX3_ofOne 1 = .ok (.tableswitch 66 3 7 #[35, 41, 47, 53, 53], 35) := by decide +kernel
theorem dX3_ofOne_36 : decode cX3_ofOne 36 = .ok (.aload_n 0, 1) := by decide +kernel
theorem dX3_ofOne_37 : decode cX3_ofOne 37 = .ok (.iload_n 1, 1) := by decide +kernel
theorem dX3_ofOne_38 : decode cX3_ofOne 38 = .ok (.invokevirtual 47, 3) := by decide +kernel
theorem dX3_ofOne_41 : decode cX3_ofOne 41 = .ok (.ireturn, 1) := by decide +kernel
theorem dX3_ofOne_42 : decode cX3_ofOne 42 = .ok (.aload_n 0, 1) := by decide +kernel
theorem dX3_ofOne_43 : decode cX3_ofOne 43 = .ok (.iload_n 1, 1) := by decide +kernel
theorem dX3_ofOne_44 : decode cX3_ofOne 44 = .ok (.invokevirtual 53, 3) := by decide +kernel
theorem dX3_ofOne_47 : decode cX3_ofOne 47 = .ok (.ireturn, 1) := by decide +kernel
theorem dX3_ofOne_48 : decode cX3_ofOne 48 = .ok (.aload_n 0, 1) := by decide +kernel
theorem dX3_ofOne_49 : decode cX3_ofOne 49 = .ok (.iload_n 1, 1) := by decide +kernel
theorem dX3_ofOne_50 : decode cX3_ofOne 50 = .ok (.invokevirtual 68, 3) := by decide +kernel
theorem dX3_ofOne_53 : decode cX3_ofOne 53 = .ok (.ireturn, 1) := by decide +kernel
theorem dX3_ofOne_54 : decode cX3_ofOne 54 = .ok (.aload_n 0, 1) := by decide +kernel
theorem dX3_ofOne_55 : decode cX3_ofOne 55 = .ok (.getfield 7, 3) := by decide +kernel
theorem dX3_ofOne_58 : decode cX3_ofOne 58 = .ok (.iload_n 1, 1) := by decide +kernel
theorem dX3_ofOne_59 : decode cX3_ofOne 59 = .ok (.iload_n 2, 1) := by decide +kernel
theorem dX3_ofOne_60 : decode cX3_ofOne 60 = .ok (.iconst 3, 1) := by decide +kernel
theorem dX3_ofOne_61 : decode cX3_ofOne 61 = .ok (.isub, 1) := by decide +kernel
theorem dX3_ofOne_62 : decode cX3_ofOne 62 = .ok (.invokestatic 29, 3) := by decide +kernel
theorem dX3_ofOne_65 : decode cX3_ofOne 65 = .ok (.iaload, 1) := by decide +kernel
theorem dX3_ofOne_66 : decode cX3_ofOne 66 = .ok (.ireturn, 1) := by decide +kernel
theorem dX3_ofOne_67 : decode cX3_ofOne 67 = .ok (.aload_n 0, 1) := by decide +kernel
theorem dX3_ofOne_68 : decode cX3_ofOne 68 = .ok (.getfield 7, 3) := by decide +kernel
theorem dX3_ofOne_71 : decode cX3_ofOne 71 = .ok (.iload_n 1, 1) := by decide +kernel
theorem dX3_ofOne_72 : decode cX3_ofOne 72 = .ok (.iload_n 2, 1) := by decide +kernel
theorem dX3_ofOne_73 : decode cX3_ofOne 73 = .ok (.invokestatic 29, 3) := by decide +kernel
theorem dX3_ofOne_76 : decode cX3_ofOne 76 = .ok (.iaload, 1) := by decide +kernel
theorem dX3_ofOne_77 : decode cX3_ofOne 77 = .ok (.ireturn, 1) := by decide +kernel
set_option maxRecDepth 20000 in
theorem ggX3_pot_X3_isPot : GoodIn wsX3_pot wsX3_isPot := goodIn_r _ [4, 5, 6, 3, 7] (by decide +kernel) (by decide +kernel)
set_option maxRecDepth 20000 in
theorem gX3_pot_X3_isPot : GoodIn wsX3_pot (va_wsS RX3 90 yX3_isPot wsX3_isPot) := goodIn_app (goodIn_of _ (by decide +kernel)) ggX3_pot_X3_isPot
set_option maxRecDepth 20000 in
theorem ggX3_pot_X3_in : GoodIn wsX3_pot wsX3_in := goodIn_r _ [7] (by decide +kernel) (by decide +kernel)
set_option maxRecDepth 20000 in
theorem gX3_pot_X3_in : GoodIn wsX3_pot (va_wsS RX3 36 yX3_in wsX3_in) := goodIn_app (goodIn_of _ (by decide +kernel)) ggX3_pot_X3_in
set_option maxRecDepth 20000 in
theorem ggX3_pot_X3_holds : GoodIn wsX3_pot wsX3_holds := goodIn_r _ [11, 12, 44, 45, 46, 47, 48, 49, 50, 51, 52, 53, 54, 55, 56, 57, 58] (by decide +kernel) (by decide +kernel)
set_option maxRecDepth 20000 in
theorem gX3_pot_X3_holds : GoodIn wsX3_pot (wsV RX3 81 RX3 yX3_holds wsX3_holds) := goodIn_app (goodIn_of _ (by decide +kernel)) ggX3_pot_X3_holds
set_option maxRecDepth 20000 in
theorem ggX3_pot_X3_ofOne : GoodIn wsX3_pot wsX3_ofOne := goodIn_r _ [16, 17, 18, 19, 20, 3, 21, 22, 23, 24, 25, 26, 27, 28, 29, 30, 31, 32, 33, 34, 35, 36, 37, 38, 39, 40, 41, 42, 43, 44, 45, 46, 47, 48, 49, 50, 51, 52, 53, 54, 55, 56, 57, 58] (by decide +kernel) (by decide +kernel)
set_option maxRecDepth 20000 in
theorem gX3_pot_X3_ofOne : GoodIn wsX3_pot (wsV RX3 149 RX3 yX3_ofOne wsX3_ofOne) := goodIn_app (goodIn_of _ (by decide +kernel)) ggX3_pot_X3_ofOne
theorem dX3_pot_0 : decode cX3_pot 0 = .ok (.aload_n 0, 1) := by decide +kernel
theorem dX3_pot_1 : decode cX3_pot 1 = .ok (.iload_n 1, 1) := by decide +kernel
theorem dX3_pot_2 : decode cX3_pot 2 = .ok (.invokestatic 90, 3) := by decide +kernel
theorem dX3_pot_5 : decode cX3_pot 5 = .ok (.ifCond .ne 7, 3) := by decide +kernel
theorem dX3_pot_8 : decode cX3_pot 8 = .ok (.iconst 1, 1) := by decide +kernel
theorem dX3_pot_9 : decode cX3_pot 9 = .ok (.goto 18, 3) := by decide +kernel
theorem dX3_pot_12 : decode cX3_pot 12 = .ok (.iload_n 2, 1) := by decide +kernel
theorem dX3_pot_13 : decode cX3_pot 13 = .ok (.iconst 0, 1) := by decide +kernel
theorem dX3_pot_14 : decode cX3_pot 14 = .ok (.bipush 7, 2) := by decide +kernel
theorem dX3_pot_16 : decode cX3_pot 16 = .ok (.invokestatic 36, 3) := by decide +kernel
theorem dX3_pot_19 : decode cX3_pot 19 = .ok (.ifCond .eq 7, 3) := by decide +kernel
theorem dX3_pot_22 : decode cX3_pot 22 = .ok (.iconst 0, 1) := by decide +kernel
theorem dX3_pot_23 : decode cX3_pot 23 = .ok (.goto 4, 3) := by decide +kernel
theorem dX3_pot_26 : decode cX3_pot 26 = .ok (.iconst 2, 1) := by decide +kernel
theorem dX3_pot_27 : decode cX3_pot 27 = .ok (.invokevirtual 81, 3) := by decide +kernel
theorem dX3_pot_30 : decode cX3_pot 30 = .ok (.ifCond .eq 12, 3) := by decide +kernel
theorem dX3_pot_33 : decode cX3_pot 33 = .ok (.aload_n 0, 1) := by decide +kernel
theorem dX3_pot_34 : decode cX3_pot 34 = .ok (.iload_n 1, 1) := by decide +kernel
theorem dX3_pot_35 : decode cX3_pot 35 = .ok (.iload_n 2, 1) := by decide +kernel
theorem dX3_pot_36 : decode cX3_pot 36 = .ok (.invokevirtual 149, 3) := by decide +kernel
theorem dX3_pot_39 : decode cX3_pot 39 = .ok (.goto 4, 3) := by decide +kernel
theorem dX3_pot_42 : decode cX3_pot 42 = .ok (.iconst 0, 1) := by decide +kernel
theorem dX3_pot_43 : decode cX3_pot 43 = .ok (.ireturn, 1) := by decide +kernel
set_option maxRecDepth 20000 in
theorem ggX3_told_X3_isPot : GoodIn wsX3_told wsX3_isPot := goodIn_r _ [5, 6, 7, 4, 8] (by decide +kernel) (by decide +kernel)
set_option maxRecDepth 20000 in
theorem gX3_told_X3_isPot : GoodIn wsX3_told (va_wsS RX3 90 yX3_isPot wsX3_isPot) := goodIn_app (goodIn_of _ (by decide +kernel)) ggX3_told_X3_isPot
set_option maxRecDepth 20000 in
theorem ggX3_told_X3_isGuest : GoodIn wsX3_told wsX3_isGuest := goodIn_r _ [11, 6, 7, 4, 8] (by decide +kernel) (by decide +kernel)
set_option maxRecDepth 20000 in
theorem gX3_told_X3_isGuest : GoodIn wsX3_told (va_wsS RX3 77 yX3_isGuest wsX3_isGuest) := goodIn_app (goodIn_of _ (by decide +kernel)) ggX3_told_X3_isGuest
set_option maxRecDepth 20000 in
theorem ggX3_told_X3_holds : GoodIn wsX3_told wsX3_holds := goodIn_r _ [15, 16, 17, 18, 19, 20, 21, 22, 23, 24, 25, 26, 27, 28, 29, 30, 31] (by decide +kernel) (by decide +kernel)
set_option maxRecDepth 20000 in
theorem gX3_told_X3_holds : GoodIn wsX3_told (wsV RX3 81 RX3 yX3_holds wsX3_holds) := goodIn_app (goodIn_of _ (by decide +kernel)) ggX3_told_X3_holds
theorem dX3_told_0 : decode cX3_told 0 = .ok (.aload_n 0, 1) := by decide +kernel
theorem dX3_told_1 : decode cX3_told 1 = .ok (.iload_n 1, 1) := by decide +kernel
theorem dX3_told_2 : decode cX3_told 2 = .ok (.invokestatic 90, 3) := by decide +kernel
theorem dX3_told_5 : decode cX3_told 5 = .ok (.ifCond .eq 14, 3) := by decide +kernel
theorem dX3_told_8 : decode cX3_told 8 = .ok (.iload_n 2, 1) := by decide +kernel
theorem dX3_told_9 : decode cX3_told 9 = .ok (.invokestatic 77, 3) := by decide +kernel
theorem dX3_told_12 : decode cX3_told 12 = .ok (.ifCond .eq 7, 3) := by decide +kernel
theorem dX3_told_15 : decode cX3_told 15 = .ok (.iconst 0, 1) := by decide +kernel
theorem dX3_told_16 : decode cX3_told 16 = .ok (.goto 4, 3) := by decide +kernel
theorem dX3_told_19 : decode cX3_told 19 = .ok (.iconst 1, 1) := by decide +kernel
theorem dX3_told_20 : decode cX3_told 20 = .ok (.invokevirtual 81, 3) := by decide +kernel
theorem dX3_told_23 : decode cX3_told 23 = .ok (.ifCond .eq 20, 3) := by decide +kernel
theorem dX3_told_26 : decode cX3_told 26 = .ok (.aload_n 0, 1) := by decide +kernel
theorem dX3_told_27 : decode cX3_told 27 = .ok (.getfield 7, 3) := by decide +kernel
theorem dX3_told_30 : decode cX3_told 30 = .ok (.bipush 87, 2) := by decide +kernel
theorem dX3_told_32 : decode cX3_told 32 = .ok (.bipush 8, 2) := by decide +kernel
theorem dX3_told_34 : decode cX3_told 34 = .ok (.iload_n 1, 1) := by decide +kernel
theorem dX3_told_35 : decode cX3_told 35 = .ok (.imul, 1) := by decide +kernel
theorem dX3_told_36 : decode cX3_told 36 = .ok (.iadd, 1) := by decide +kernel
theorem dX3_told_37 : decode cX3_told 37 = .ok (.iload_n 2, 1) := by decide +kernel
theorem dX3_told_38 : decode cX3_told 38 = .ok (.iadd, 1) := by decide +kernel
theorem dX3_told_39 : decode cX3_told 39 = .ok (.iaload, 1) := by decide +kernel
theorem dX3_told_40 : decode cX3_told 40 = .ok (.goto 4, 3) := by decide +kernel
theorem dX3_told_43 : decode cX3_told 43 = .ok (.iconst 0, 1) := by decide +kernel
theorem dX3_told_44 : decode cX3_told 44 = .ok (.ireturn, 1) := by decide +kernel
set_option maxRecDepth 20000 in
theorem ggX3_tale_X3_in : GoodIn wsX3_tale wsX3_in := goodIn_r _ [5] (by decide +kernel) (by decide +kernel)
set_option maxRecDepth 20000 in
theorem gX3_tale_X3_in : GoodIn wsX3_tale (va_wsS RX3 36 yX3_in wsX3_in) := goodIn_app (goodIn_of _ (by decide +kernel)) ggX3_tale_X3_in
set_option maxRecDepth 20000 in
theorem ggX3_tale_X3_holds : GoodIn wsX3_tale wsX3_holds := goodIn_r _ [9, 10, 11, 12, 13, 14, 15, 16, 17, 18, 19, 20, 21, 22, 23, 24, 25] (by decide +kernel) (by decide +kernel)
set_option maxRecDepth 20000 in
theorem gX3_tale_X3_holds : GoodIn wsX3_tale (wsV RX3 81 RX3 yX3_holds wsX3_holds) := goodIn_app (goodIn_of _ (by decide +kernel)) ggX3_tale_X3_holds
theorem dX3_tale_0 : decode cX3_tale 0 = .ok (.aload_n 0, 1) := by decide +kernel
theorem dX3_tale_1 : decode cX3_tale 1 = .ok (.iload_n 1, 1) := by decide +kernel
theorem dX3_tale_2 : decode cX3_tale 2 = .ok (.ifCond .ge 7, 3) := by decide +kernel
theorem dX3_tale_5 : decode cX3_tale 5 = .ok (.iconst 1, 1) := by decide +kernel
theorem dX3_tale_6 : decode cX3_tale 6 = .ok (.goto 17, 3) := by decide +kernel
theorem dX3_tale_9 : decode cX3_tale 9 = .ok (.iload_n 2, 1) := by decide +kernel
theorem dX3_tale_10 : decode cX3_tale 10 = .ok (.iconst 0, 1) := by decide +kernel
theorem dX3_tale_11 : decode cX3_tale 11 = .ok (.iconst 1, 1) := by decide +kernel
theorem dX3_tale_12 : decode cX3_tale 12 = .ok (.invokestatic 36, 3) := by decide +kernel
theorem dX3_tale_15 : decode cX3_tale 15 = .ok (.ifCond .eq 7, 3) := by decide +kernel
theorem dX3_tale_18 : decode cX3_tale 18 = .ok (.iconst 0, 1) := by decide +kernel
theorem dX3_tale_19 : decode cX3_tale 19 = .ok (.goto 4, 3) := by decide +kernel
theorem dX3_tale_22 : decode cX3_tale 22 = .ok (.iconst 2, 1) := by decide +kernel
theorem dX3_tale_23 : decode cX3_tale 23 = .ok (.invokevirtual 81, 3) := by decide +kernel
theorem dX3_tale_26 : decode cX3_tale 26 = .ok (.ifCond .ne 5, 3) := by decide +kernel
theorem dX3_tale_29 : decode cX3_tale 29 = .ok (.iconst 0, 1) := by decide +kernel
theorem dX3_tale_30 : decode cX3_tale 30 = .ok (.ireturn, 1) := by decide +kernel
theorem dX3_tale_31 : decode cX3_tale 31 = .ok (.iload_n 1, 1) := by decide +kernel
theorem dX3_tale_32 : decode cX3_tale 32 = .ok (.aload_n 0, 1) := by decide +kernel
theorem dX3_tale_33 : decode cX3_tale 33 = .ok (.getfield 7, 3) := by decide +kernel
theorem dX3_tale_36 : decode cX3_tale 36 = .ok (.sipush 135, 3) := by decide +kernel
theorem dX3_tale_39 : decode cX3_tale 39 = .ok (.iaload, 1) := by decide +kernel
theorem dX3_tale_40 : decode cX3_tale 40 = .ok (.if_icmp .lt 5, 3) := by decide +kernel
theorem dX3_tale_43 : decode cX3_tale 43 = .ok (.iconst (-1), 1) := by decide +kernel
theorem dX3_tale_44 : decode cX3_tale 44 = .ok (.ireturn, 1) := by decide +kernel
theorem dX3_tale_45 : decode cX3_tale 45 = .ok (.iload_n 2, 1) := by decide +kernel
theorem dX3_tale_46 : decode cX3_tale 46 = .ok (.ifCond .ne 15, 3) := by decide +kernel
theorem dX3_tale_49 : decode cX3_tale 49 = .ok (.aload_n 0, 1) := by decide +kernel
theorem dX3_tale_50 : decode cX3_tale 50 = .ok (.getfield 7, 3) := by decide +kernel
theorem dX3_tale_53 : decode cX3_tale 53 = .ok (.bipush 111, 2) := by decide +kernel
theorem dX3_tale_55 : decode cX3_tale 55 = .ok (.iload_n 1, 1) := by decide +kernel
theorem dX3_tale_56 : decode cX3_tale 56 = .ok (.iadd, 1) := by decide +kernel
theorem dX3_tale_57 : decode cX3_tale 57 = .ok (.iaload, 1) := by decide +kernel
theorem dX3_tale_58 : decode cX3_tale 58 = .ok (.goto 20, 3) := by decide +kernel
theorem dX3_tale_61 : decode cX3_tale 61 = .ok (.aload_n 0, 1) := by decide +kernel
theorem dX3_tale_62 : decode cX3_tale 62 = .ok (.getfield 7, 3) := by decide +kernel
theorem dX3_tale_65 : decode cX3_tale 65 = .ok (.bipush 87, 2) := by decide +kernel
theorem dX3_tale_67 : decode cX3_tale 67 = .ok (.aload_n 0, 1) := by decide +kernel
theorem dX3_tale_68 : decode cX3_tale 68 = .ok (.getfield 7, 3) := by decide +kernel
theorem dX3_tale_71 : decode cX3_tale 71 = .ok (.bipush 111, 2) := by decide +kernel
theorem dX3_tale_73 : decode cX3_tale 73 = .ok (.iload_n 1, 1) := by decide +kernel
theorem dX3_tale_74 : decode cX3_tale 74 = .ok (.iadd, 1) := by decide +kernel
theorem dX3_tale_75 : decode cX3_tale 75 = .ok (.iaload, 1) := by decide +kernel
theorem dX3_tale_76 : decode cX3_tale 76 = .ok (.iadd, 1) := by decide +kernel
theorem dX3_tale_77 : decode cX3_tale 77 = .ok (.iaload, 1) := by decide +kernel
theorem dX3_tale_78 : decode cX3_tale 78 = .ok (.ireturn, 1) := by decide +kernel
set_option maxRecDepth 20000 in
theorem ggX3_sumOf_X3_of : GoodIn wsX3_sumOf wsX3_of := goodIn_r _ [5] (by decide +kernel) (by decide +kernel)
set_option maxRecDepth 20000 in
theorem gX3_sumOf_X3_of : GoodIn wsX3_sumOf (va_wsS RX3 25 yX3_of wsX3_of) := goodIn_app (goodIn_of _ (by decide +kernel)) ggX3_sumOf_X3_of
theorem dX3_sumOf_0 : decode cX3_sumOf 0 = .ok (.iconst 0, 1) := by decide +kernel
theorem dX3_sumOf_1 : decode cX3_sumOf 1 = .ok (.istore_n 2, 1) := by decide +kernel
theorem dX3_sumOf_2 : decode cX3_sumOf 2 = .ok (.iconst 0, 1) := by decide +kernel
theorem dX3_sumOf_3 : decode cX3_sumOf 3 = .ok (.istore_n 3, 1) := by decide +kernel
theorem dX3_sumOf_4 : decode cX3_sumOf 4 = .ok (.iload_n 3, 1) := by decide +kernel
theorem dX3_sumOf_5 : decode cX3_sumOf 5 = .ok (.bipush 8, 2) := by decide +kernel
theorem dX3_sumOf_7 : decode cX3_sumOf 7 = .ok (.if_icmp .ge 22, 3) := by decide +kernel
theorem dX3_sumOf_10 : decode cX3_sumOf 10 = .ok (.iload_n 2, 1) := by decide +kernel
theorem dX3_sumOf_11 : decode cX3_sumOf 11 = .ok (.aload_n 0, 1) := by decide +kernel
theorem dX3_sumOf_12 : decode cX3_sumOf 12 = .ok (.getfield 7, 3) := by decide +kernel
theorem dX3_sumOf_15 : decode cX3_sumOf 15 = .ok (.iload_n 3, 1) := by decide +kernel
theorem dX3_sumOf_16 : decode cX3_sumOf 16 = .ok (.iload_n 1, 1) := by decide +kernel
theorem dX3_sumOf_17 : decode cX3_sumOf 17 = .ok (.invokestatic 25, 3) := by decide +kernel
theorem dX3_sumOf_20 : decode cX3_sumOf 20 = .ok (.iaload, 1) := by decide +kernel
theorem dX3_sumOf_21 : decode cX3_sumOf 21 = .ok (.iadd, 1) := by decide +kernel
theorem dX3_sumOf_22 : decode cX3_sumOf 22 = .ok (.istore_n 2, 1) := by decide +kernel
theorem dX3_sumOf_23 : decode cX3_sumOf 23 = .ok (.iinc 3 1, 3) := by decide +kernel
theorem dX3_sumOf_26 : decode cX3_sumOf 26 = .ok (.goto (-22), 3) := by decide +kernel
theorem dX3_sumOf_29 : decode cX3_sumOf 29 = .ok (.iload_n 2, 1) := by decide +kernel
theorem dX3_sumOf_30 : decode cX3_sumOf 30 = .ok (.ireturn, 1) := by decide +kernel
set_option maxRecDepth 20000 in
theorem ggX3_sumOfPots_X3_ofPot : GoodIn wsX3_sumOfPots wsX3_ofPot := goodIn_r _ [5] (by decide +kernel) (by decide +kernel)
set_option maxRecDepth 20000 in
theorem gX3_sumOfPots_X3_ofPot : GoodIn wsX3_sumOfPots (va_wsS RX3 29 yX3_ofPot wsX3_ofPot) := goodIn_app (goodIn_of _ (by decide +kernel)) ggX3_sumOfPots_X3_ofPot
theorem dX3_sumOfPots_0 : decode cX3_sumOfPots 0 = .ok (.aload_n 0, 1) := by decide +kernel
theorem dX3_sumOfPots_1 : decode cX3_sumOfPots 1 = .ok (.getfield 7, 3) := by decide +kernel
theorem dX3_sumOfPots_4 : decode cX3_sumOfPots 4 = .ok (.iconst 0, 1) := by decide +kernel
theorem dX3_sumOfPots_5 : decode cX3_sumOfPots 5 = .ok (.iload_n 1, 1) := by decide +kernel
theorem dX3_sumOfPots_6 : decode cX3_sumOfPots 6 = .ok (.invokestatic 29, 3) := by decide +kernel
theorem dX3_sumOfPots_9 : decode cX3_sumOfPots 9 = .ok (.iaload, 1) := by decide +kernel
theorem dX3_sumOfPots_10 : decode cX3_sumOfPots 10 = .ok (.aload_n 0, 1) := by decide +kernel
theorem dX3_sumOfPots_11 : decode cX3_sumOfPots 11 = .ok (.getfield 7, 3) := by decide +kernel
theorem dX3_sumOfPots_14 : decode cX3_sumOfPots 14 = .ok (.iconst 1, 1) := by decide +kernel
theorem dX3_sumOfPots_15 : decode cX3_sumOfPots 15 = .ok (.iload_n 1, 1) := by decide +kernel
theorem dX3_sumOfPots_16 : decode cX3_sumOfPots 16 = .ok (.invokestatic 29, 3) := by decide +kernel
theorem dX3_sumOfPots_19 : decode cX3_sumOfPots 19 = .ok (.iaload, 1) := by decide +kernel
theorem dX3_sumOfPots_20 : decode cX3_sumOfPots 20 = .ok (.iadd, 1) := by decide +kernel
theorem dX3_sumOfPots_21 : decode cX3_sumOfPots 21 = .ok (.aload_n 0, 1) := by decide +kernel
theorem dX3_sumOfPots_22 : decode cX3_sumOfPots 22 = .ok (.getfield 7, 3) := by decide +kernel
theorem dX3_sumOfPots_25 : decode cX3_sumOfPots 25 = .ok (.iconst 2, 1) := by decide +kernel
theorem dX3_sumOfPots_26 : decode cX3_sumOfPots 26 = .ok (.iload_n 1, 1) := by decide +kernel
theorem dX3_sumOfPots_27 : decode cX3_sumOfPots 27 = .ok (.invokestatic 29, 3) := by decide +kernel
theorem dX3_sumOfPots_30 : decode cX3_sumOfPots 30 = .ok (.iaload, 1) := by decide +kernel
theorem dX3_sumOfPots_31 : decode cX3_sumOfPots 31 = .ok (.iadd, 1) := by decide +kernel
theorem dX3_sumOfPots_32 : decode cX3_sumOfPots 32 = .ok (.ireturn, 1) := by decide +kernel
set_option maxRecDepth 20000 in
theorem ggX3_counted_X3_sumOfPots : GoodIn wsX3_counted wsX3_sumOfPots := goodIn_r _ [7, 1, 8, 9, 6, 10, 22, 23, 24, 25, 26, 27, 28, 29, 30, 31, 32, 33, 34, 35, 36] (by decide +kernel) (by decide +kernel)
set_option maxRecDepth 20000 in
theorem gX3_counted_X3_sumOfPots : GoodIn wsX3_counted (wsV RX3 152 RX3 yX3_sumOfPots wsX3_sumOfPots) := goodIn_app (goodIn_of _ (by decide +kernel)) ggX3_counted_X3_sumOfPots
set_option maxRecDepth 20000 in
theorem ggX3_counted_X3_sumOf : GoodIn wsX3_counted wsX3_sumOf := goodIn_r _ [14, 1, 15, 16, 6, 17, 22, 23, 24, 25, 26, 27, 28, 29, 30, 31, 32, 33, 34, 35, 36] (by decide +kernel) (by decide +kernel)
set_option maxRecDepth 20000 in
theorem gX3_counted_X3_sumOf : GoodIn wsX3_counted (wsV RX3 155 RX3 yX3_sumOf wsX3_sumOf) := goodIn_app (goodIn_of _ (by decide +kernel)) ggX3_counted_X3_sumOf
set_option maxRecDepth 20000 in
theorem ggX3_counted_X3_teaInPots : GoodIn wsX3_counted wsX3_teaInPots := goodIn_r _ [21, 1, 8, 9, 6, 10, 22, 23, 24, 25, 26, 27, 28, 29, 30, 31, 32, 33, 34, 35, 36] (by decide +kernel) (by decide +kernel)
set_option maxRecDepth 20000 in
theorem gX3_counted_X3_teaInPots : GoodIn wsX3_counted (wsV RX3 139 RX3 yX3_teaInPots wsX3_teaInPots) := goodIn_app (goodIn_of _ (by decide +kernel)) ggX3_counted_X3_teaInPots
theorem dX3_counted_0 : decode cX3_counted 0 = .ok (.iload_n 1, 1) := by decide +kernel
theorem dX3_counted_1 : decode cX3_counted 1 = .ok (.tableswitch 135 0 8 #[51, 57, 64, 71, 82, 102, 111, 120, 126], 51) := by decide +kernel
theorem dX3_counted_52 : decode cX3_counted 52 = .ok (.aload_n 0, 1) := by decide +kernel
theorem dX3_counted_53 : decode cX3_counted 53 = .ok (.iconst 3, 1) := by decide +kernel
theorem dX3_counted_54 : decode cX3_counted 54 = .ok (.invokevirtual 152, 3) := by decide +kernel
theorem dX3_counted_57 : decode cX3_counted 57 = .ok (.ireturn, 1) := by decide +kernel
theorem dX3_counted_58 : decode cX3_counted 58 = .ok (.aload_n 0, 1) := by decide +kernel
theorem dX3_counted_59 : decode cX3_counted 59 = .ok (.bipush 6, 2) := by decide +kernel
theorem dX3_counted_61 : decode cX3_counted 61 = .ok (.invokevirtual 155, 3) := by decide +kernel
theorem dX3_counted_64 : decode cX3_counted 64 = .ok (.ireturn, 1) := by decide +kernel
theorem dX3_counted_65 : decode cX3_counted 65 = .ok (.aload_n 0, 1) := by decide +kernel
theorem dX3_counted_66 : decode cX3_counted 66 = .ok (.bipush 7, 2) := by decide +kernel
theorem dX3_counted_68 : decode cX3_counted 68 = .ok (.invokevirtual 155, 3) := by decide +kernel
theorem dX3_counted_71 : decode cX3_counted 71 = .ok (.ireturn, 1) := by decide +kernel
theorem dX3_counted_72 : decode cX3_counted 72 = .ok (.aload_n 0, 1) := by decide +kernel
theorem dX3_counted_73 : decode cX3_counted 73 = .ok (.invokevirtual 139, 3) := by decide +kernel
theorem dX3_counted_76 : decode cX3_counted 76 = .ok (.aload_n 0, 1) := by decide +kernel
theorem dX3_counted_77 : decode cX3_counted 77 = .ok (.iconst 1, 1) := by decide +kernel
theorem dX3_counted_78 : decode cX3_counted 78 = .ok (.invokevirtual 155, 3) := by decide +kernel
theorem dX3_counted_81 : decode cX3_counted 81 = .ok (.iadd, 1) := by decide +kernel
theorem dX3_counted_82 : decode cX3_counted 82 = .ok (.ireturn, 1) := by decide +kernel
theorem dX3_counted_83 : decode cX3_counted 83 = .ok (.aload_n 0, 1) := by decide +kernel
theorem dX3_counted_84 : decode cX3_counted 84 = .ok (.iconst 3, 1) := by decide +kernel
theorem dX3_counted_85 : decode cX3_counted 85 = .ok (.invokevirtual 152, 3) := by decide +kernel
theorem dX3_counted_88 : decode cX3_counted 88 = .ok (.aload_n 0, 1) := by decide +kernel
theorem dX3_counted_89 : decode cX3_counted 89 = .ok (.bipush 6, 2) := by decide +kernel
theorem dX3_counted_91 : decode cX3_counted 91 = .ok (.invokevirtual 155, 3) := by decide +kernel
theorem dX3_counted_94 : decode cX3_counted 94 = .ok (.isub, 1) := by decide +kernel
theorem dX3_counted_95 : decode cX3_counted 95 = .ok (.aload_n 0, 1) := by decide +kernel
theorem dX3_counted_96 : decode cX3_counted 96 = .ok (.bipush 7, 2) := by decide +kernel
theorem dX3_counted_98 : decode cX3_counted 98 = .ok (.invokevirtual 155, 3) := by decide +kernel
theorem dX3_counted_101 : decode cX3_counted 101 = .ok (.isub, 1) := by decide +kernel
theorem dX3_counted_102 : decode cX3_counted 102 = .ok (.ireturn, 1) := by decide +kernel
theorem dX3_counted_103 : decode cX3_counted 103 = .ok (.aload_n 0, 1) := by decide +kernel
theorem dX3_counted_104 : decode cX3_counted 104 = .ok (.getfield 7, 3) := by decide +kernel
theorem dX3_counted_107 : decode cX3_counted 107 = .ok (.sipush 136, 3) := by decide +kernel
theorem dX3_counted_110 : decode cX3_counted 110 = .ok (.iaload, 1) := by decide +kernel
theorem dX3_counted_111 : decode cX3_counted 111 = .ok (.ireturn, 1) := by decide +kernel
theorem dX3_counted_112 : decode cX3_counted 112 = .ok (.aload_n 0, 1) := by decide +kernel
theorem dX3_counted_113 : decode cX3_counted 113 = .ok (.getfield 7, 3) := by decide +kernel
theorem dX3_counted_116 : decode cX3_counted 116 = .ok (.sipush 137, 3) := by decide +kernel
theorem dX3_counted_119 : decode cX3_counted 119 = .ok (.iaload, 1) := by decide +kernel
theorem dX3_counted_120 : decode cX3_counted 120 = .ok (.ireturn, 1) := by decide +kernel
theorem dX3_counted_121 : decode cX3_counted 121 = .ok (.aload_n 0, 1) := by decide +kernel
theorem dX3_counted_122 : decode cX3_counted 122 = .ok (.iconst 4, 1) := by decide +kernel
theorem dX3_counted_123 : decode cX3_counted 123 = .ok (.invokevirtual 152, 3) := by decide +kernel
theorem dX3_counted_126 : decode cX3_counted 126 = .ok (.ireturn, 1) := by decide +kernel
theorem dX3_counted_127 : decode cX3_counted 127 = .ok (.aload_n 0, 1) := by decide +kernel
theorem dX3_counted_128 : decode cX3_counted 128 = .ok (.getfield 7, 3) := by decide +kernel
theorem dX3_counted_131 : decode cX3_counted 131 = .ok (.sipush 135, 3) := by decide +kernel
theorem dX3_counted_134 : decode cX3_counted 134 = .ok (.iaload, 1) := by decide +kernel
theorem dX3_counted_135 : decode cX3_counted 135 = .ok (.ireturn, 1) := by decide +kernel
theorem dX3_counted_136 : decode cX3_counted 136 = .ok (.aload_n 0, 1) := by decide +kernel
theorem dX3_counted_137 : decode cX3_counted 137 = .ok (.getfield 40, 3) := by decide +kernel
theorem dX3_counted_140 : decode cX3_counted 140 = .ok (.ireturn, 1) := by decide +kernel
set_option maxRecDepth 20000 in
theorem ggX3_count_X3_in : GoodIn wsX3_count wsX3_in := goodIn_r _ [4] (by decide +kernel) (by decide +kernel)
set_option maxRecDepth 20000 in
theorem gX3_count_X3_in : GoodIn wsX3_count (va_wsS RX3 36 yX3_in wsX3_in) := goodIn_app (goodIn_of _ (by decide +kernel)) ggX3_count_X3_in
set_option maxRecDepth 20000 in
theorem ggX3_count_X3_holds : GoodIn wsX3_count wsX3_holds := goodIn_r _ [8, 9, 34, 35, 36, 37, 38, 39, 40, 41, 42, 43, 44, 45, 46, 47, 48] (by decide +kernel) (by decide +kernel)
set_option maxRecDepth 20000 in
theorem gX3_count_X3_holds : GoodIn wsX3_count (wsV RX3 81 RX3 yX3_holds wsX3_holds) := goodIn_app (goodIn_of _ (by decide +kernel)) ggX3_count_X3_holds
set_option maxRecDepth 20000 in
theorem ggX3_count_X3_counted : GoodIn wsX3_count wsX3_counted := goodIn_r _ [13, 14, 15, 16, 17, 18, 3, 19, 20, 21, 22, 23, 24, 25, 26, 27, 28, 29, 30, 31, 32, 33, 34, 35, 36, 37, 38, 39, 40, 41, 42, 43, 44, 45, 46, 47, 48] (by decide +kernel) (by decide +kernel)
set_option maxRecDepth 20000 in
theorem gX3_count_X3_counted : GoodIn wsX3_count (wsV RX3 158 RX3 yX3_counted wsX3_counted) := goodIn_app (goodIn_of _ (by decide +kernel)) ggX3_count_X3_counted
theorem dX3_count_0 : decode cX3_count 0 = .ok (.aload_n 0, 1) := by decide +kernel
theorem dX3_count_1 : decode cX3_count 1 = .ok (.iload_n 1, 1) := by decide +kernel
theorem dX3_count_2 : decode cX3_count 2 = .ok (.iconst 0, 1) := by decide +kernel
theorem dX3_count_3 : decode cX3_count 3 = .ok (.bipush 9, 2) := by decide +kernel
theorem dX3_count_5 : decode cX3_count 5 = .ok (.invokestatic 36, 3) := by decide +kernel
theorem dX3_count_8 : decode cX3_count 8 = .ok (.ifCond .eq 7, 3) := by decide +kernel
theorem dX3_count_11 : decode cX3_count 11 = .ok (.iconst 0, 1) := by decide +kernel
theorem dX3_count_12 : decode cX3_count 12 = .ok (.goto 4, 3) := by decide +kernel
theorem dX3_count_15 : decode cX3_count 15 = .ok (.iconst 1, 1) := by decide +kernel
theorem dX3_count_16 : decode cX3_count 16 = .ok (.invokevirtual 81, 3) := by decide +kernel
theorem dX3_count_19 : decode cX3_count 19 = .ok (.ifCond .eq 11, 3) := by decide +kernel
theorem dX3_count_22 : decode cX3_count 22 = .ok (.aload_n 0, 1) := by decide +kernel
theorem dX3_count_23 : decode cX3_count 23 = .ok (.iload_n 1, 1) := by decide +kernel
theorem dX3_count_24 : decode cX3_count 24 = .ok (.invokevirtual 158, 3) := by decide +kernel
theorem dX3_count_27 : decode cX3_count 27 = .ok (.goto 4, 3) := by decide +kernel
theorem dX3_count_30 : decode cX3_count 30 = .ok (.iconst 0, 1) := by decide +kernel
theorem dX3_count_31 : decode cX3_count 31 = .ok (.ireturn, 1) := by decide +kernel
set_option maxRecDepth 20000 in
theorem ggX3_wouldBring_X3_hindrance : GoodIn wsX3_wouldBring wsX3_hindrance := goodIn_r _ [5, 6, 7, 8, 4, 9, 10, 11, 12, 13, 14, 15, 16, 17, 18, 19, 20, 44, 45, 46, 47, 48, 49, 50, 51, 52, 53, 54, 55, 56, 57, 58] (by decide +kernel) (by decide +kernel)
set_option maxRecDepth 20000 in
theorem gX3_wouldBring_X3_hindrance : GoodIn wsX3_wouldBring (wsV RX3 68 RX3 yX3_hindrance wsX3_hindrance) := goodIn_app (goodIn_of _ (by decide +kernel)) ggX3_wouldBring_X3_hindrance
set_option maxRecDepth 20000 in
theorem ggX3_wouldBring_X3_wouldCome : GoodIn wsX3_wouldBring wsX3_wouldCome := goodIn_r _ [24, 6, 7, 8, 4, 9, 25, 26, 27, 28, 10, 11, 12, 13, 18, 19, 20, 29, 30, 31, 32, 14, 15, 16, 17, 44, 45, 46, 47, 48, 49, 50, 51, 52, 53, 54, 55, 56, 57, 58] (by decide +kernel) (by decide +kernel)
set_option maxRecDepth 20000 in
theorem gX3_wouldBring_X3_wouldCome : GoodIn wsX3_wouldBring (wsV RX3 56 RX3 yX3_wouldCome wsX3_wouldCome) := goodIn_app (goodIn_of _ (by decide +kernel)) ggX3_wouldBring_X3_wouldCome
set_option maxRecDepth 20000 in
theorem ggX3_wouldBring_X3_wouldSpill : GoodIn wsX3_wouldBring wsX3_wouldSpill := goodIn_r _ [36, 21, 22, 23, 4, 24, 6, 7, 8, 9, 25, 26, 27, 28, 10, 11, 12, 13, 18, 19, 20, 29, 30, 31, 32, 14, 15, 16, 17, 44, 45, 46, 47, 48, 49, 50, 51, 52, 53, 54, 55, 56, 57, 58] (by decide +kernel) (by decide +kernel)
set_option maxRecDepth 20000 in
theorem gX3_wouldBring_X3_wouldSpill : GoodIn wsX3_wouldBring (wsV RX3 62 RX3 yX3_wouldSpill wsX3_wouldSpill) := goodIn_app (goodIn_of _ (by decide +kernel)) ggX3_wouldBring_X3_wouldSpill
set_option maxRecDepth 20000 in
theorem ggX3_wouldBring_X3_trustThen : GoodIn wsX3_wouldBring wsX3_trustThen := goodIn_r _ [40, 6, 7, 8, 4, 9, 41, 42, 43, 29, 30, 31, 32, 10, 11, 12, 13, 18, 19, 20, 44, 45, 46, 47, 48, 49, 50, 51, 52, 53, 54, 55, 56, 57, 58] (by decide +kernel) (by decide +kernel)
set_option maxRecDepth 20000 in
theorem gX3_wouldBring_X3_trustThen : GoodIn wsX3_wouldBring (wsV RX3 65 RX3 yX3_trustThen wsX3_trustThen) := goodIn_app (goodIn_of _ (by decide +kernel)) ggX3_wouldBring_X3_trustThen
theorem dX3_wouldBring_0 : decode cX3_wouldBring 0 = .ok (.aload_n 0, 1) := by decide +kernel
theorem dX3_wouldBring_1 : decode cX3_wouldBring 1 = .ok (.iload_n 1, 1) := by decide +kernel
theorem dX3_wouldBring_2 : decode cX3_wouldBring 2 = .ok (.invokevirtual 68, 3) := by decide +kernel
theorem dX3_wouldBring_5 : decode cX3_wouldBring 5 = .ok (.ifCond .le 5, 3) := by decide +kernel
theorem dX3_wouldBring_8 : decode cX3_wouldBring 8 = .ok (.iconst (-1), 1) := by decide +kernel
theorem dX3_wouldBring_9 : decode cX3_wouldBring 9 = .ok (.ireturn, 1) := by decide +kernel
theorem dX3_wouldBring_10 : decode cX3_wouldBring 10 = .ok (.iload_n 2, 1) := by decide +kernel
theorem dX3_wouldBring_11 : decode cX3_wouldBring 11 = .ok (.ifCond .ne 11, 3) := by decide +kernel
theorem dX3_wouldBring_14 : decode cX3_wouldBring 14 = .ok (.aload_n 0, 1) := by decide +kernel
theorem dX3_wouldBring_15 : decode cX3_wouldBring 15 = .ok (.iload_n 1, 1) := by decide +kernel
theorem dX3_wouldBring_16 : decode cX3_wouldBring 16 = .ok (.invokevirtual 56, 3) := by decide +kernel
theorem dX3_wouldBring_19 : decode cX3_wouldBring 19 = .ok (.goto 21, 3) := by decide +kernel
theorem dX3_wouldBring_22 : decode cX3_wouldBring 22 = .ok (.iload_n 2, 1) := by decide +kernel
theorem dX3_wouldBring_23 : decode cX3_wouldBring 23 = .ok (.iconst 1, 1) := by decide +kernel
theorem dX3_wouldBring_24 : decode cX3_wouldBring 24 = .ok (.if_icmp .ne 11, 3) := by decide +kernel
theorem dX3_wouldBring_27 : decode cX3_wouldBring 27 = .ok (.aload_n 0, 1) := by decide +kernel
theorem dX3_wouldBring_28 : decode cX3_wouldBring 28 = .ok (.iload_n 1, 1) := by decide +kernel
theorem dX3_wouldBring_29 : decode cX3_wouldBring 29 = .ok (.invokevirtual 62, 3) := by decide +kernel
theorem dX3_wouldBring_32 : decode cX3_wouldBring 32 = .ok (.goto 8, 3) := by decide +kernel
theorem dX3_wouldBring_35 : decode cX3_wouldBring 35 = .ok (.aload_n 0, 1) := by decide +kernel
theorem dX3_wouldBring_36 : decode cX3_wouldBring 36 = .ok (.iload_n 1, 1) := by decide +kernel
theorem dX3_wouldBring_37 : decode cX3_wouldBring 37 = .ok (.invokevirtual 65, 3) := by decide +kernel
theorem dX3_wouldBring_40 : decode cX3_wouldBring 40 = .ok (.ireturn, 1) := by decide +kernel
set_option maxRecDepth 20000 in
theorem ggX3_ifPoured_X3_isPot : GoodIn wsX3_ifPoured wsX3_isPot := goodIn_r _ [4, 5, 6, 3, 7] (by decide +kernel) (by decide +kernel)
set_option maxRecDepth 20000 in
theorem gX3_ifPoured_X3_isPot : GoodIn wsX3_ifPoured (va_wsS RX3 90 yX3_isPot wsX3_isPot) := goodIn_app (goodIn_of _ (by decide +kernel)) ggX3_ifPoured_X3_isPot
set_option maxRecDepth 20000 in
theorem ggX3_ifPoured_X3_in : GoodIn wsX3_ifPoured wsX3_in := goodIn_r _ [7] (by decide +kernel) (by decide +kernel)
set_option maxRecDepth 20000 in
theorem gX3_ifPoured_X3_in : GoodIn wsX3_ifPoured (va_wsS RX3 36 yX3_in wsX3_in) := goodIn_app (goodIn_of _ (by decide +kernel)) ggX3_ifPoured_X3_in
set_option maxRecDepth 20000 in
theorem ggX3_ifPoured_X3_holds : GoodIn wsX3_ifPoured wsX3_holds := goodIn_r _ [11, 12, 59, 60, 61, 62, 63, 64, 65, 66, 67, 68, 69, 70, 71, 72, 73] (by decide +kernel) (by decide +kernel)
set_option maxRecDepth 20000 in
theorem gX3_ifPoured_X3_holds : GoodIn wsX3_ifPoured (wsV RX3 81 RX3 yX3_holds wsX3_holds) := goodIn_app (goodIn_of _ (by decide +kernel)) ggX3_ifPoured_X3_holds
set_option maxRecDepth 20000 in
theorem ggX3_ifPoured_X3_wouldBring : GoodIn wsX3_ifPoured wsX3_wouldBring := goodIn_r _ [16, 17, 18, 19, 3, 20, 21, 22, 23, 24, 25, 26, 27, 28, 29, 30, 31, 32, 33, 34, 35, 36, 37, 38, 39, 40, 41, 42, 43, 44, 45, 46, 47, 48, 49, 50, 51, 52, 53, 54, 55, 56, 57, 58, 59, 60, 61, 62, 63, 64, 65, 66, 67, 68, 69, 70, 71, 72, 73] (by decide +kernel) (by decide +kernel)
set_option maxRecDepth 20000 in
theorem gX3_ifPoured_X3_wouldBring : GoodIn wsX3_ifPoured (wsV RX3 161 RX3 yX3_wouldBring wsX3_wouldBring) := goodIn_app (goodIn_of _ (by decide +kernel)) ggX3_ifPoured_X3_wouldBring
theorem dX3_ifPoured_0 : decode cX3_ifPoured 0 = .ok (.aload_n 0, 1) := by decide +kernel
theorem dX3_ifPoured_1 : decode cX3_ifPoured 1 = .ok (.iload_n 1, 1) := by decide +kernel
theorem dX3_ifPoured_2 : decode cX3_ifPoured 2 = .ok (.invokestatic 90, 3) := by decide +kernel
theorem dX3_ifPoured_5 : decode cX3_ifPoured 5 = .ok (.ifCond .ne 7, 3) := by decide +kernel
theorem dX3_ifPoured_8 : decode cX3_ifPoured 8 = .ok (.iconst 1, 1) := by decide +kernel
theorem dX3_ifPoured_9 : decode cX3_ifPoured 9 = .ok (.goto 17, 3) := by decide +kernel
theorem dX3_ifPoured_12 : decode cX3_ifPoured 12 = .ok (.iload_n 2, 1) := by decide +kernel
theorem dX3_ifPoured_13 : decode cX3_ifPoured 13 = .ok (.iconst 0, 1) := by decide +kernel
theorem dX3_ifPoured_14 : decode cX3_ifPoured 14 = .ok (.iconst 2, 1) := by decide +kernel
theorem dX3_ifPoured_15 : decode cX3_ifPoured 15 = .ok (.invokestatic 36, 3) := by decide +kernel
theorem dX3_ifPoured_18 : decode cX3_ifPoured 18 = .ok (.ifCond .eq 7, 3) := by decide +kernel
theorem dX3_ifPoured_21 : decode cX3_ifPoured 21 = .ok (.iconst 0, 1) := by decide +kernel
theorem dX3_ifPoured_22 : decode cX3_ifPoured 22 = .ok (.goto 4, 3) := by decide +kernel
theorem dX3_ifPoured_25 : decode cX3_ifPoured 25 = .ok (.iconst 2, 1) := by decide +kernel
theorem dX3_ifPoured_26 : decode cX3_ifPoured 26 = .ok (.invokevirtual 81, 3) := by decide +kernel
theorem dX3_ifPoured_29 : decode cX3_ifPoured 29 = .ok (.ifCond .eq 12, 3) := by decide +kernel
theorem dX3_ifPoured_32 : decode cX3_ifPoured 32 = .ok (.aload_n 0, 1) := by decide +kernel
theorem dX3_ifPoured_33 : decode cX3_ifPoured 33 = .ok (.iload_n 1, 1) := by decide +kernel
theorem dX3_ifPoured_34 : decode cX3_ifPoured 34 = .ok (.iload_n 2, 1) := by decide +kernel
theorem dX3_ifPoured_35 : decode cX3_ifPoured 35 = .ok (.invokevirtual 161, 3) := by decide +kernel
theorem dX3_ifPoured_38 : decode cX3_ifPoured 38 = .ok (.goto 4, 3) := by decide +kernel
theorem dX3_ifPoured_41 : decode cX3_ifPoured 41 = .ok (.iconst 0, 1) := by decide +kernel
theorem dX3_ifPoured_42 : decode cX3_ifPoured 42 = .ok (.ireturn, 1) := by decide +kernel
set_option maxRecDepth 20000 in
theorem ggX3_roundsUntilEmpty_X3_putAside : GoodIn wsX3_roundsUntilEmpty wsX3_putAside := goodIn_r _ [6, 7, 1, 69, 70, 71, 72, 73, 74, 75, 76, 77, 78, 79, 80, 81, 82, 83] (by decide +kernel) (by decide +kernel)
set_option maxRecDepth 20000 in
theorem gX3_roundsUntilEmpty_X3_putAside : GoodIn wsX3_roundsUntilEmpty (wsV RX3 164 RX3 yX3_putAside wsX3_putAside) := goodIn_app (goodIn_of _ (by decide +kernel)) ggX3_roundsUntilEmpty_X3_putAside
set_option maxRecDepth 20000 in
theorem ggX3_roundsUntilEmpty_X3_ofPot : GoodIn wsX3_roundsUntilEmpty wsX3_ofPot := goodIn_r _ [10] (by decide +kernel) (by decide +kernel)
set_option maxRecDepth 20000 in
theorem gX3_roundsUntilEmpty_X3_ofPot : GoodIn wsX3_roundsUntilEmpty (va_wsS RX3 29 yX3_ofPot wsX3_ofPot) := goodIn_app (goodIn_of _ (by decide +kernel)) ggX3_roundsUntilEmpty_X3_ofPot
set_option maxRecDepth 20000 in
theorem ggX3_roundsUntilEmpty_X3_goesRound : GoodIn wsX3_roundsUntilEmpty wsX3_goesRound := goodIn_r _ [14, 1, 15, 16, 17, 5, 18, 8, 9, 10, 19, 20, 21, 22, 23, 24, 25, 26, 27, 28, 29, 30, 31, 32, 33, 34, 35, 36, 37, 38, 39, 40, 41, 42, 43, 44, 45, 46, 47, 48, 49, 50, 51, 52, 53, 54, 55, 56, 57, 58, 59, 60, 69, 70, 71, 72, 73, 74, 75, 76, 77, 78, 79, 80, 81, 82, 83] (by decide +kernel) (by decide +kernel)
set_option maxRecDepth 20000 in
theorem gX3_roundsUntilEmpty_X3_goesRound : GoodIn wsX3_roundsUntilEmpty (wsV RX3 96 RX3 yX3_goesRound wsX3_goesRound) := goodIn_app (goodIn_of _ (by decide +kernel)) ggX3_roundsUntilEmpty_X3_goesRound
set_option maxRecDepth 20000 in
theorem ggX3_roundsUntilEmpty_X3_sips : GoodIn wsX3_roundsUntilEmpty wsX3_sips := goodIn_r _ [64, 1, 27, 28, 5, 29, 69, 70, 71, 72, 73, 74, 75, 76, 77, 78, 79, 80, 81, 82, 83] (by decide +kernel) (by decide +kernel)
set_option maxRecDepth 20000 in
theorem gX3_roundsUntilEmpty_X3_sips : GoodIn wsX3_roundsUntilEmpty (wsV RX3 87 RX3 yX3_sips wsX3_sips) := goodIn_app (goodIn_of _ (by decide +kernel)) ggX3_roundsUntilEmpty_X3_sips
set_option maxRecDepth 20000 in
theorem ggX3_roundsUntilEmpty_X3_putBack : GoodIn wsX3_roundsUntilEmpty wsX3_putBack := goodIn_r _ [68, 1, 7, 69, 70, 71, 72, 73, 74, 75, 76, 77, 78, 79, 80, 81, 82, 83] (by decide +kernel) (by decide +kernel)
set_option maxRecDepth 20000 in
theorem gX3_roundsUntilEmpty_X3_putBack : GoodIn wsX3_roundsUntilEmpty (wsV RX3 167 RX3 yX3_putBack wsX3_putBack) := goodIn_app (goodIn_of _ (by decide +kernel)) ggX3_roundsUntilEmpty_X3_putBack
theorem dX3_roundsUntilEmpty_0 : decode cX3_roundsUntilEmpty 0 = .ok (.aload_n 0, 1) := by decide +kernel
theorem dX3_roundsUntilEmpty_1 : decode cX3_roundsUntilEmpty 1 = .ok (.invokevirtual 164, 3) := by decide +kernel
theorem dX3_roundsUntilEmpty_4 : decode cX3_roundsUntilEmpty 4 = .ok (.iconst 0, 1) := by decide +kernel
theorem dX3_roundsUntilEmpty_5 : decode cX3_roundsUntilEmpty 5 = .ok (.istore_n 2, 1) := by decide +kernel
theorem dX3_roundsUntilEmpty_6 : decode cX3_roundsUntilEmpty 6 = .ok (.iload_n 2, 1) := by decide +kernel
theorem dX3_roundsUntilEmpty_7 : decode cX3_roundsUntilEmpty 7 = .ok (.bipush 20, 2) := by decide +kernel
theorem dX3_roundsUntilEmpty_9 : decode cX3_roundsUntilEmpty 9 = .ok (.if_icmp .gt 53, 3) := by decide +kernel
theorem dX3_roundsUntilEmpty_12 : decode cX3_roundsUntilEmpty 12 = .ok (.aload_n 0, 1) := by decide +kernel
theorem dX3_roundsUntilEmpty_13 : decode cX3_roundsUntilEmpty 13 = .ok (.getfield 7, 3) := by decide +kernel
theorem dX3_roundsUntilEmpty_16 : decode cX3_roundsUntilEmpty 16 = .ok (.iload_n 1, 1) := by decide +kernel
theorem dX3_roundsUntilEmpty_17 : decode cX3_roundsUntilEmpty 17 = .ok (.iconst 1, 1) := by decide +kernel
theorem dX3_roundsUntilEmpty_18 : decode cX3_roundsUntilEmpty 18 = .ok (.invokestatic 29, 3) := by decide +kernel
theorem dX3_roundsUntilEmpty_21 : decode cX3_roundsUntilEmpty 21 = .ok (.iaload, 1) := by decide +kernel
theorem dX3_roundsUntilEmpty_22 : decode cX3_roundsUntilEmpty 22 = .ok (.ifCond .le 40, 3) := by decide +kernel
theorem dX3_roundsUntilEmpty_25 : decode cX3_roundsUntilEmpty 25 = .ok (.aload_n 0, 1) := by decide +kernel
theorem dX3_roundsUntilEmpty_26 : decode cX3_roundsUntilEmpty 26 = .ok (.iload_n 1, 1) := by decide +kernel
theorem dX3_roundsUntilEmpty_27 : decode cX3_roundsUntilEmpty 27 = .ok (.invokevirtual 96, 3) := by decide +kernel
theorem dX3_roundsUntilEmpty_30 : decode cX3_roundsUntilEmpty 30 = .ok (.istore_n 3, 1) := by decide +kernel
theorem dX3_roundsUntilEmpty_31 : decode cX3_roundsUntilEmpty 31 = .ok (.iconst 0, 1) := by decide +kernel
theorem dX3_roundsUntilEmpty_32 : decode cX3_roundsUntilEmpty 32 = .ok (.istore 4, 2) := by decide +kernel
theorem dX3_roundsUntilEmpty_34 : decode cX3_roundsUntilEmpty 34 = .ok (.iload 4, 2) := by decide +kernel
theorem dX3_roundsUntilEmpty_36 : decode cX3_roundsUntilEmpty 36 = .ok (.bipush 8, 2) := by decide +kernel
theorem dX3_roundsUntilEmpty_38 : decode cX3_roundsUntilEmpty 38 = .ok (.if_icmp .ge 18, 3) := by decide +kernel
theorem dX3_roundsUntilEmpty_41 : decode cX3_roundsUntilEmpty 41 = .ok (.iload_n 3, 1) := by decide +kernel
theorem dX3_roundsUntilEmpty_42 : decode cX3_roundsUntilEmpty 42 = .ok (.aload_n 0, 1) := by decide +kernel
theorem dX3_roundsUntilEmpty_43 : decode cX3_roundsUntilEmpty 43 = .ok (.iload 4, 2) := by decide +kernel
theorem dX3_roundsUntilEmpty_45 : decode cX3_roundsUntilEmpty 45 = .ok (.invokevirtual 87, 3) := by decide +kernel
theorem dX3_roundsUntilEmpty_48 : decode cX3_roundsUntilEmpty 48 = .ok (.iadd, 1) := by decide +kernel
theorem dX3_roundsUntilEmpty_49 : decode cX3_roundsUntilEmpty 49 = .ok (.istore_n 3, 1) := by decide +kernel
theorem dX3_roundsUntilEmpty_50 : decode cX3_roundsUntilEmpty 50 = .ok (.iinc 4 1, 3) := by decide +kernel
theorem dX3_roundsUntilEmpty_53 : decode cX3_roundsUntilEmpty 53 = .ok (.goto (-19), 3) := by decide +kernel
theorem dX3_roundsUntilEmpty_56 : decode cX3_roundsUntilEmpty 56 = .ok (.iinc 2 1, 3) := by decide +kernel
theorem dX3_roundsUntilEmpty_59 : decode cX3_roundsUntilEmpty 59 = .ok (.goto (-53), 3) := by decide +kernel
theorem dX3_roundsUntilEmpty_62 : decode cX3_roundsUntilEmpty 62 = .ok (.aload_n 0, 1) := by decide +kernel
theorem dX3_roundsUntilEmpty_63 : decode cX3_roundsUntilEmpty 63 = .ok (.invokevirtual 167, 3) := by decide +kernel
theorem dX3_roundsUntilEmpty_66 : decode cX3_roundsUntilEmpty 66 = .ok (.iload_n 2, 1) := by decide +kernel
theorem dX3_roundsUntilEmpty_67 : decode cX3_roundsUntilEmpty 67 = .ok (.bipush 20, 2) := by decide +kernel
theorem dX3_roundsUntilEmpty_69 : decode cX3_roundsUntilEmpty 69 = .ok (.if_icmp .le 7, 3) := by decide +kernel
theorem dX3_roundsUntilEmpty_72 : decode cX3_roundsUntilEmpty 72 = .ok (.iconst (-1), 1) := by decide +kernel
theorem dX3_roundsUntilEmpty_73 : decode cX3_roundsUntilEmpty 73 = .ok (.goto 4, 3) := by decide +kernel
theorem dX3_roundsUntilEmpty_76 : decode cX3_roundsUntilEmpty 76 = .ok (.iload_n 2, 1) := by decide +kernel
theorem dX3_roundsUntilEmpty_77 : decode cX3_roundsUntilEmpty 77 = .ok (.ireturn, 1) := by decide +kernel
set_option maxRecDepth 20000 in
theorem ggX3_emptyIn_X3_isPot : GoodIn wsX3_emptyIn wsX3_isPot := goodIn_r _ [4, 5, 6, 3, 7] (by decide +kernel) (by decide +kernel)
set_option maxRecDepth 20000 in
theorem gX3_emptyIn_X3_isPot : GoodIn wsX3_emptyIn (va_wsS RX3 90 yX3_isPot wsX3_isPot) := goodIn_app (goodIn_of _ (by decide +kernel)) ggX3_emptyIn_X3_isPot
set_option maxRecDepth 20000 in
theorem ggX3_emptyIn_X3_holds : GoodIn wsX3_emptyIn wsX3_holds := goodIn_r _ [11, 12, 84, 85, 86, 87, 88, 89, 90, 91, 92, 93, 94, 95, 96, 97, 98] (by decide +kernel) (by decide +kernel)
set_option maxRecDepth 20000 in
theorem gX3_emptyIn_X3_holds : GoodIn wsX3_emptyIn (wsV RX3 81 RX3 yX3_holds wsX3_holds) := goodIn_app (goodIn_of _ (by decide +kernel)) ggX3_emptyIn_X3_holds
set_option maxRecDepth 20000 in
theorem ggX3_emptyIn_X3_roundsUntilEmpty : GoodIn wsX3_emptyIn wsX3_roundsUntilEmpty := goodIn_r _ [16, 17, 18, 19, 20, 3, 21, 22, 23, 24, 25, 26, 27, 28, 29, 30, 31, 32, 33, 34, 35, 36, 37, 38, 39, 40, 41, 42, 43, 44, 45, 46, 47, 48, 49, 50, 51, 52, 53, 54, 55, 56, 57, 58, 59, 60, 61, 62, 63, 64, 65, 66, 67, 68, 69, 70, 71, 72, 73, 74, 75, 76, 77, 78, 79, 80, 81, 82, 83, 84, 85, 86, 87, 88, 89, 90, 91, 92, 93, 94, 95, 96, 97, 98] (by decide +kernel) (by decide +kernel)
set_option maxRecDepth 20000 in
theorem gX3_emptyIn_X3_roundsUntilEmpty : GoodIn wsX3_emptyIn (wsV RX3 170 RX3 yX3_roundsUntilEmpty wsX3_roundsUntilEmpty) := goodIn_app (goodIn_of _ (by decide +kernel)) ggX3_emptyIn_X3_roundsUntilEmpty
theorem dX3_emptyIn_0 : decode cX3_emptyIn 0 = .ok (.aload_n 0, 1) := by decide +kernel
theorem dX3_emptyIn_1 : decode cX3_emptyIn 1 = .ok (.iload_n 1, 1) := by decide +kernel
theorem dX3_emptyIn_2 : decode cX3_emptyIn 2 = .ok (.invokestatic 90, 3) := by decide +kernel
theorem dX3_emptyIn_5 : decode cX3_emptyIn 5 = .ok (.ifCond .eq 7, 3) := by decide +kernel
theorem dX3_emptyIn_8 : decode cX3_emptyIn 8 = .ok (.iconst 0, 1) := by decide +kernel
theorem dX3_emptyIn_9 : decode cX3_emptyIn 9 = .ok (.goto 4, 3) := by decide +kernel
theorem dX3_emptyIn_12 : decode cX3_emptyIn 12 = .ok (.iconst 1, 1) := by decide +kernel
theorem dX3_emptyIn_13 : decode cX3_emptyIn 13 = .ok (.invokevirtual 81, 3) := by decide +kernel
theorem dX3_emptyIn_16 : decode cX3_emptyIn 16 = .ok (.ifCond .eq 11, 3) := by decide +kernel
theorem dX3_emptyIn_19 : decode cX3_emptyIn 19 = .ok (.aload_n 0, 1) := by decide +kernel
theorem dX3_emptyIn_20 : decode cX3_emptyIn 20 = .ok (.iload_n 1, 1) := by decide +kernel
theorem dX3_emptyIn_21 : decode cX3_emptyIn 21 = .ok (.invokevirtual 170, 3) := by decide +kernel
theorem dX3_emptyIn_24 : decode cX3_emptyIn 24 = .ok (.goto 4, 3) := by decide +kernel
theorem dX3_emptyIn_27 : decode cX3_emptyIn 27 = .ok (.iconst 0, 1) := by decide +kernel
theorem dX3_emptyIn_28 : decode cX3_emptyIn 28 = .ok (.ireturn, 1) := by decide +kernel
set_option maxRecDepth 20000 in
theorem ggX3_bestFor_X3_putAside : GoodIn wsX3_bestFor wsX3_putAside := goodIn_r _ [5, 6, 7, 50, 51, 52, 53, 54, 55, 56, 57, 58, 59, 60, 61, 62, 63, 64] (by decide +kernel) (by decide +kernel)
set_option maxRecDepth 20000 in
theorem gX3_bestFor_X3_putAside : GoodIn wsX3_bestFor (wsV RX3 164 RX3 yX3_putAside wsX3_putAside) := goodIn_app (goodIn_of _ (by decide +kernel)) ggX3_bestFor_X3_putAside
set_option maxRecDepth 20000 in
theorem ggX3_bestFor_X3_hindrance : GoodIn wsX3_bestFor wsX3_hindrance := goodIn_r _ [11, 7, 12, 13, 4, 14, 15, 16, 17, 18, 19, 20, 21, 22, 23, 24, 25, 50, 51, 52, 53, 54, 55, 56, 57, 58, 59, 60, 61, 62, 63, 64] (by decide +kernel) (by decide +kernel)
set_option maxRecDepth 20000 in
theorem gX3_bestFor_X3_hindrance : GoodIn wsX3_bestFor (wsV RX3 68 RX3 yX3_hindrance wsX3_hindrance) := goodIn_app (goodIn_of _ (by decide +kernel)) ggX3_bestFor_X3_hindrance
set_option maxRecDepth 20000 in
theorem ggX3_bestFor_X3_wouldSpill : GoodIn wsX3_bestFor wsX3_wouldSpill := goodIn_r _ [29, 30, 31, 32, 4, 33, 7, 12, 13, 14, 34, 35, 36, 37, 15, 16, 17, 18, 23, 24, 25, 38, 39, 40, 41, 19, 20, 21, 22, 50, 51, 52, 53, 54, 55, 56, 57, 58, 59, 60, 61, 62, 63, 64] (by decide +kernel) (by decide +kernel)
set_option maxRecDepth 20000 in
theorem gX3_bestFor_X3_wouldSpill : GoodIn wsX3_bestFor (wsV RX3 62 RX3 yX3_wouldSpill wsX3_wouldSpill) := goodIn_app (goodIn_of _ (by decide +kernel)) ggX3_bestFor_X3_wouldSpill
set_option maxRecDepth 20000 in
theorem ggX3_bestFor_X3_with : GoodIn wsX3_bestFor wsX3_with := goodIn_r _ [18, 7, 12, 13, 4, 14, 50, 51, 52, 53, 54, 55, 56, 57, 58, 59, 60, 61, 62, 63, 64] (by decide +kernel) (by decide +kernel)
set_option maxRecDepth 20000 in
theorem gX3_bestFor_X3_with : GoodIn wsX3_bestFor (wsV RX3 43 RX3 yX3_with wsX3_with) := goodIn_app (goodIn_of _ (by decide +kernel)) ggX3_bestFor_X3_with
set_option maxRecDepth 20000 in
theorem ggX3_bestFor_X3_hands : GoodIn wsX3_bestFor wsX3_hands := goodIn_r _ [45, 7, 15, 16, 17, 4, 18, 12, 13, 14, 34, 35, 36, 37, 23, 24, 25, 38, 39, 40, 41, 50, 51, 52, 53, 54, 55, 56, 57, 58, 59, 60, 61, 62, 63, 64] (by decide +kernel) (by decide +kernel)
set_option maxRecDepth 20000 in
theorem gX3_bestFor_X3_hands : GoodIn wsX3_bestFor (wsV RX3 74 RX3 yX3_hands wsX3_hands) := goodIn_app (goodIn_of _ (by decide +kernel)) ggX3_bestFor_X3_hands
set_option maxRecDepth 20000 in
theorem ggX3_bestFor_X3_putBack : GoodIn wsX3_bestFor wsX3_putBack := goodIn_r _ [49, 7, 6, 50, 51, 52, 53, 54, 55, 56, 57, 58, 59, 60, 61, 62, 63, 64] (by decide +kernel) (by decide +kernel)
set_option maxRecDepth 20000 in
theorem gX3_bestFor_X3_putBack : GoodIn wsX3_bestFor (wsV RX3 167 RX3 yX3_putBack wsX3_putBack) := goodIn_app (goodIn_of _ (by decide +kernel)) ggX3_bestFor_X3_putBack
theorem dX3_bestFor_0 : decode cX3_bestFor 0 = .ok (.aload_n 0, 1) := by decide +kernel
theorem dX3_bestFor_1 : decode cX3_bestFor 1 = .ok (.invokevirtual 164, 3) := by decide +kernel
theorem dX3_bestFor_4 : decode cX3_bestFor 4 = .ok (.iconst (-1), 1) := by decide +kernel
theorem dX3_bestFor_5 : decode cX3_bestFor 5 = .ok (.istore_n 2, 1) := by decide +kernel
theorem dX3_bestFor_6 : decode cX3_bestFor 6 = .ok (.iconst 0, 1) := by decide +kernel
theorem dX3_bestFor_7 : decode cX3_bestFor 7 = .ok (.istore_n 3, 1) := by decide +kernel
theorem dX3_bestFor_8 : decode cX3_bestFor 8 = .ok (.iconst 0, 1) := by decide +kernel
theorem dX3_bestFor_9 : decode cX3_bestFor 9 = .ok (.istore 4, 2) := by decide +kernel
theorem dX3_bestFor_11 : decode cX3_bestFor 11 = .ok (.iload 4, 2) := by decide +kernel
theorem dX3_bestFor_13 : decode cX3_bestFor 13 = .ok (.bipush 8, 2) := by decide +kernel
theorem dX3_bestFor_15 : decode cX3_bestFor 15 = .ok (.if_icmp .ge 76, 3) := by decide +kernel
theorem dX3_bestFor_18 : decode cX3_bestFor 18 = .ok (.aload_n 0, 1) := by decide +kernel
theorem dX3_bestFor_19 : decode cX3_bestFor 19 = .ok (.iload_n 1, 1) := by decide +kernel
theorem dX3_bestFor_20 : decode cX3_bestFor 20 = .ok (.invokevirtual 68, 3) := by decide +kernel
theorem dX3_bestFor_23 : decode cX3_bestFor 23 = .ok (.ifCond .ne 21, 3) := by decide +kernel
theorem dX3_bestFor_26 : decode cX3_bestFor 26 = .ok (.iload_n 2, 1) := by decide +kernel
theorem dX3_bestFor_27 : decode cX3_bestFor 27 = .ok (.iconst (-1), 1) := by decide +kernel
theorem dX3_bestFor_28 : decode cX3_bestFor 28 = .ok (.if_icmp .eq 12, 3) := by decide +kernel
theorem dX3_bestFor_31 : decode cX3_bestFor 31 = .ok (.aload_n 0, 1) := by decide +kernel
theorem dX3_bestFor_32 : decode cX3_bestFor 32 = .ok (.iload_n 1, 1) := by decide +kernel
theorem dX3_bestFor_33 : decode cX3_bestFor 33 = .ok (.invokevirtual 62, 3) := by decide +kernel
theorem dX3_bestFor_36 : decode cX3_bestFor 36 = .ok (.iload_n 3, 1) := by decide +kernel
theorem dX3_bestFor_37 : decode cX3_bestFor 37 = .ok (.if_icmp .ge 7, 3) := by decide +kernel
theorem dX3_bestFor_40 : decode cX3_bestFor 40 = .ok (.iconst 1, 1) := by decide +kernel
theorem dX3_bestFor_41 : decode cX3_bestFor 41 = .ok (.goto 4, 3) := by decide +kernel
theorem dX3_bestFor_44 : decode cX3_bestFor 44 = .ok (.iconst 0, 1) := by decide +kernel
theorem dX3_bestFor_45 : decode cX3_bestFor 45 = .ok (.istore 5, 2) := by decide +kernel
theorem dX3_bestFor_47 : decode cX3_bestFor 47 = .ok (.iload 5, 2) := by decide +kernel
theorem dX3_bestFor_49 : decode cX3_bestFor 49 = .ok (.ifCond .eq 11, 3) := by decide +kernel
theorem dX3_bestFor_52 : decode cX3_bestFor 52 = .ok (.aload_n 0, 1) := by decide +kernel
theorem dX3_bestFor_53 : decode cX3_bestFor 53 = .ok (.iload_n 1, 1) := by decide +kernel
theorem dX3_bestFor_54 : decode cX3_bestFor 54 = .ok (.invokevirtual 43, 3) := by decide +kernel
theorem dX3_bestFor_57 : decode cX3_bestFor 57 = .ok (.goto 4, 3) := by decide +kernel
theorem dX3_bestFor_60 : decode cX3_bestFor 60 = .ok (.iload_n 2, 1) := by decide +kernel
theorem dX3_bestFor_61 : decode cX3_bestFor 61 = .ok (.istore_n 2, 1) := by decide +kernel
theorem dX3_bestFor_62 : decode cX3_bestFor 62 = .ok (.iload 5, 2) := by decide +kernel
theorem dX3_bestFor_64 : decode cX3_bestFor 64 = .ok (.ifCond .eq 11, 3) := by decide +kernel
theorem dX3_bestFor_67 : decode cX3_bestFor 67 = .ok (.aload_n 0, 1) := by decide +kernel
theorem dX3_bestFor_68 : decode cX3_bestFor 68 = .ok (.iload_n 1, 1) := by decide +kernel
theorem dX3_bestFor_69 : decode cX3_bestFor 69 = .ok (.invokevirtual 62, 3) := by decide +kernel
theorem dX3_bestFor_72 : decode cX3_bestFor 72 = .ok (.goto 4, 3) := by decide +kernel
theorem dX3_bestFor_75 : decode cX3_bestFor 75 = .ok (.iload_n 3, 1) := by decide +kernel
theorem dX3_bestFor_76 : decode cX3_bestFor 76 = .ok (.istore_n 3, 1) := by decide +kernel
theorem dX3_bestFor_77 : decode cX3_bestFor 77 = .ok (.aload_n 0, 1) := by decide +kernel
theorem dX3_bestFor_78 : decode cX3_bestFor 78 = .ok (.iload_n 1, 1) := by decide +kernel
theorem dX3_bestFor_79 : decode cX3_bestFor 79 = .ok (.iconst 1, 1) := by decide +kernel
theorem dX3_bestFor_80 : decode cX3_bestFor 80 = .ok (.invokevirtual 74, 3) := by decide +kernel
theorem dX3_bestFor_83 : decode cX3_bestFor 83 = .ok (.istore 6, 2) := by decide +kernel
theorem dX3_bestFor_85 : decode cX3_bestFor 85 = .ok (.iinc 4 1, 3) := by decide +kernel
theorem dX3_bestFor_88 : decode cX3_bestFor 88 = .ok (.goto (-77), 3) := by decide +kernel
theorem dX3_bestFor_91 : decode cX3_bestFor 91 = .ok (.aload_n 0, 1) := by decide +kernel
theorem dX3_bestFor_92 : decode cX3_bestFor 92 = .ok (.invokevirtual 167, 3) := by decide +kernel
theorem dX3_bestFor_95 : decode cX3_bestFor 95 = .ok (.iload_n 2, 1) := by decide +kernel
theorem dX3_bestFor_96 : decode cX3_bestFor 96 = .ok (.ireturn, 1) := by decide +kernel
set_option maxRecDepth 20000 in
theorem ggX3_bestGuest_X3_isPot : GoodIn wsX3_bestGuest wsX3_isPot := goodIn_r _ [4, 5, 6, 3, 7] (by decide +kernel) (by decide +kernel)
set_option maxRecDepth 20000 in
theorem gX3_bestGuest_X3_isPot : GoodIn wsX3_bestGuest (va_wsS RX3 90 yX3_isPot wsX3_isPot) := goodIn_app (goodIn_of _ (by decide +kernel)) ggX3_bestGuest_X3_isPot
set_option maxRecDepth 20000 in
theorem ggX3_bestGuest_X3_holds : GoodIn wsX3_bestGuest wsX3_holds := goodIn_r _ [11, 12, 65, 66, 67, 68, 69, 70, 71, 72, 73, 74, 75, 76, 77, 78, 79] (by decide +kernel) (by decide +kernel)
set_option maxRecDepth 20000 in
theorem gX3_bestGuest_X3_holds : GoodIn wsX3_bestGuest (wsV RX3 81 RX3 yX3_holds wsX3_holds) := goodIn_app (goodIn_of _ (by decide +kernel)) ggX3_bestGuest_X3_holds
set_option maxRecDepth 20000 in
theorem ggX3_bestGuest_X3_bestFor : GoodIn wsX3_bestGuest wsX3_bestFor := goodIn_r _ [16, 17, 18, 19, 3, 20, 21, 22, 23, 24, 25, 26, 27, 28, 29, 30, 31, 32, 33, 34, 35, 36, 37, 38, 39, 40, 41, 42, 43, 44, 45, 46, 47, 48, 49, 50, 51, 52, 53, 54, 55, 56, 57, 58, 59, 60, 61, 62, 63, 64, 65, 66, 67, 68, 69, 70, 71, 72, 73, 74, 75, 76, 77, 78, 79] (by decide +kernel) (by decide +kernel)
set_option maxRecDepth 20000 in
theorem gX3_bestGuest_X3_bestFor : GoodIn wsX3_bestGuest (wsV RX3 173 RX3 yX3_bestFor wsX3_bestFor) := goodIn_app (goodIn_of _ (by decide +kernel)) ggX3_bestGuest_X3_bestFor
theorem dX3_bestGuest_0 : decode cX3_bestGuest 0 = .ok (.aload_n 0, 1) := by decide +kernel
theorem dX3_bestGuest_1 : decode cX3_bestGuest 1 = .ok (.iload_n 1, 1) := by decide +kernel
theorem dX3_bestGuest_2 : decode cX3_bestGuest 2 = .ok (.invokestatic 90, 3) := by decide +kernel
theorem dX3_bestGuest_5 : decode cX3_bestGuest 5 = .ok (.ifCond .eq 7, 3) := by decide +kernel
theorem dX3_bestGuest_8 : decode cX3_bestGuest 8 = .ok (.iconst 0, 1) := by decide +kernel
theorem dX3_bestGuest_9 : decode cX3_bestGuest 9 = .ok (.goto 4, 3) := by decide +kernel
theorem dX3_bestGuest_12 : decode cX3_bestGuest 12 = .ok (.iconst 1, 1) := by decide +kernel
theorem dX3_bestGuest_13 : decode cX3_bestGuest 13 = .ok (.invokevirtual 81, 3) := by decide +kernel
theorem dX3_bestGuest_16 : decode cX3_bestGuest 16 = .ok (.ifCond .eq 11, 3) := by decide +kernel
theorem dX3_bestGuest_19 : decode cX3_bestGuest 19 = .ok (.aload_n 0, 1) := by decide +kernel
theorem dX3_bestGuest_20 : decode cX3_bestGuest 20 = .ok (.iload_n 1, 1) := by decide +kernel
theorem dX3_bestGuest_21 : decode cX3_bestGuest 21 = .ok (.invokevirtual 173, 3) := by decide +kernel
theorem dX3_bestGuest_24 : decode cX3_bestGuest 24 = .ok (.goto 4, 3) := by decide +kernel
theorem dX3_bestGuest_27 : decode cX3_bestGuest 27 = .ok (.iconst 0, 1) := by decide +kernel
theorem dX3_bestGuest_28 : decode cX3_bestGuest 28 = .ok (.ireturn, 1) := by decide +kernel
set_option maxRecDepth 20000 in
theorem ggX3_share_X3_sumOf : GoodIn wsX3_share wsX3_sumOf := goodIn_r _ [5, 6, 7, 8, 4, 9, 10, 11, 12, 13, 14, 15, 16, 17, 18, 19, 20, 21, 22, 23, 24] (by decide +kernel) (by decide +kernel)
set_option maxRecDepth 20000 in
theorem gX3_share_X3_sumOf : GoodIn wsX3_share (wsV RX3 155 RX3 yX3_sumOf wsX3_sumOf) := goodIn_app (goodIn_of _ (by decide +kernel)) ggX3_share_X3_sumOf
theorem dX3_share_0 : decode cX3_share 0 = .ok (.aload_n 0, 1) := by decide +kernel
theorem dX3_share_1 : decode cX3_share 1 = .ok (.bipush 8, 2) := by decide +kernel
theorem dX3_share_3 : decode cX3_share 3 = .ok (.invokevirtual 155, 3) := by decide +kernel
theorem dX3_share_6 : decode cX3_share 6 = .ok (.istore_n 1, 1) := by decide +kernel
theorem dX3_share_7 : decode cX3_share 7 = .ok (.iload_n 1, 1) := by decide +kernel
theorem dX3_share_8 : decode cX3_share 8 = .ok (.ifCond .ne 7, 3) := by decide +kernel
theorem dX3_share_11 : decode cX3_share 11 = .ok (.dconst 0, 1) := by decide +kernel
theorem dX3_share_12 : decode cX3_share 12 = .ok (.goto 13, 3) := by decide +kernel
theorem dX3_share_15 : decode cX3_share 15 = .ok (.aload_n 0, 1) := by decide +kernel
theorem dX3_share_16 : decode cX3_share 16 = .ok (.bipush 7, 2) := by decide +kernel
theorem dX3_share_18 : decode cX3_share 18 = .ok (.invokevirtual 155, 3) := by decide +kernel
theorem dX3_share_21 : decode cX3_share 21 = .ok (.i2d, 1) := by decide +kernel
theorem dX3_share_22 : decode cX3_share 22 = .ok (.iload_n 1, 1) := by decide +kernel
theorem dX3_share_23 : decode cX3_share 23 = .ok (.i2d, 1) := by decide +kernel
theorem dX3_share_24 : decode cX3_share 24 = .ok (.ddiv, 1) := by decide +kernel
theorem dX3_share_25 : decode cX3_share 25 = .ok (.dreturn, 1) := by decide +kernel
set_option maxRecDepth 20000 in
theorem ggX3_spiltShare_X3_share : GoodIn wsX3_spiltShare wsX3_share := goodIn_r _ [6, 7, 8, 9, 5, 10, 11, 12, 13, 14, 15, 16, 17, 18, 19, 20, 21, 22, 23, 24, 25, 26, 27, 28, 29] (by decide +kernel) (by decide +kernel)
set_option maxRecDepth 20000 in
theorem gX3_spiltShare_X3_share : GoodIn wsX3_spiltShare (wsV RX3 176 RX3 yX3_share wsX3_share) := goodIn_app (goodIn_of _ (by decide +kernel)) ggX3_spiltShare_X3_share
theorem dX3_spiltShare_0 : decode cX3_spiltShare 0 = .ok (.aload_n 0, 1) := by decide +kernel
theorem dX3_spiltShare_1 : decode cX3_spiltShare 1 = .ok (.iconst 0, 1) := by decide +kernel
theorem dX3_spiltShare_2 : decode cX3_spiltShare 2 = .ok (.putfield 32, 3) := by decide +kernel
theorem dX3_spiltShare_5 : decode cX3_spiltShare 5 = .ok (.aload_n 0, 1) := by decide +kernel
theorem dX3_spiltShare_6 : decode cX3_spiltShare 6 = .ok (.invokevirtual 176, 3) := by decide +kernel
theorem dX3_spiltShare_9 : decode cX3_spiltShare 9 = .ok (.dreturn, 1) := by decide +kernel
set_option maxRecDepth 20000 in
theorem ggX3_trust_X3_sumOf : GoodIn wsX3_trust wsX3_sumOf := goodIn_r _ [6, 7, 8, 9, 5, 10, 11, 12, 13, 14, 15, 16, 17, 18, 19, 20, 21, 22, 23, 24, 25] (by decide +kernel) (by decide +kernel)
set_option maxRecDepth 20000 in
theorem gX3_trust_X3_sumOf : GoodIn wsX3_trust (wsV RX3 155 RX3 yX3_sumOf wsX3_sumOf) := goodIn_app (goodIn_of _ (by decide +kernel)) ggX3_trust_X3_sumOf
theorem dX3_trust_0 : decode cX3_trust 0 = .ok (.aload_n 0, 1) := by decide +kernel
theorem dX3_trust_1 : decode cX3_trust 1 = .ok (.iconst 3, 1) := by decide +kernel
theorem dX3_trust_2 : decode cX3_trust 2 = .ok (.invokevirtual 155, 3) := by decide +kernel
theorem dX3_trust_5 : decode cX3_trust 5 = .ok (.i2f, 1) := by decide +kernel
theorem dX3_trust_6 : decode cX3_trust 6 = .ok (.ldc 180, 2) := by decide +kernel
theorem dX3_trust_8 : decode cX3_trust 8 = .ok (.fdiv, 1) := by decide +kernel
theorem dX3_trust_9 : decode cX3_trust 9 = .ok (.freturn, 1) := by decide +kernel
set_option maxRecDepth 20000 in
theorem ggX3_meanTrust_X3_trust : GoodIn wsX3_meanTrust wsX3_trust := goodIn_r _ [6, 7, 8, 9, 10, 5, 11, 12, 13, 14, 15, 16, 17, 18, 19, 20, 21, 22, 23, 24, 25, 26, 27, 28, 29, 30] (by decide +kernel) (by decide +kernel)
set_option maxRecDepth 20000 in
theorem gX3_meanTrust_X3_trust : GoodIn wsX3_meanTrust (wsV RX3 181 RX3 yX3_trust wsX3_trust) := goodIn_app (goodIn_of _ (by decide +kernel)) ggX3_meanTrust_X3_trust
theorem dX3_meanTrust_0 : decode cX3_meanTrust 0 = .ok (.aload_n 0, 1) := by decide +kernel
theorem dX3_meanTrust_1 : decode cX3_meanTrust 1 = .ok (.iconst 0, 1) := by decide +kernel
theorem dX3_meanTrust_2 : decode cX3_meanTrust 2 = .ok (.putfield 32, 3) := by decide +kernel
theorem dX3_meanTrust_5 : decode cX3_meanTrust 5 = .ok (.aload_n 0, 1) := by decide +kernel
theorem dX3_meanTrust_6 : decode cX3_meanTrust 6 = .ok (.invokevirtual 181, 3) := by decide +kernel
theorem dX3_meanTrust_9 : decode cX3_meanTrust 9 = .ok (.freturn, 1) := by decide +kernel
theorem dX3_bitsOf_0 : decode cX3_bitsOf 0 = .ok (.dload_n 0, 1) := by decide +kernel
theorem dX3_bitsOf_1 : decode cX3_bitsOf 1 = .ok (.dconst 0, 1) := by decide +kernel
theorem dX3_bitsOf_2 : decode cX3_bitsOf 2 = .ok (.dcmp .l, 1) := by decide +kernel
theorem dX3_bitsOf_3 : decode cX3_bitsOf 3 = .ok (.ifCond .ne 5, 3) := by decide +kernel
theorem dX3_bitsOf_6 : decode cX3_bitsOf 6 = .ok (.lconst 0, 1) := by decide +kernel
theorem dX3_bitsOf_7 : decode cX3_bitsOf 7 = .ok (.lreturn, 1) := by decide +kernel
theorem dX3_bitsOf_8 : decode cX3_bitsOf 8 = .ok (.ldc2_w 185, 3) := by decide +kernel
theorem dX3_bitsOf_11 : decode cX3_bitsOf 11 = .ok (.lstore_n 2, 1) := by decide +kernel
theorem dX3_bitsOf_12 : decode cX3_bitsOf 12 = .ok (.dload_n 0, 1) := by decide +kernel
theorem dX3_bitsOf_13 : decode cX3_bitsOf 13 = .ok (.dstore 4, 2) := by decide +kernel
theorem dX3_bitsOf_15 : decode cX3_bitsOf 15 = .ok (.dload 4, 2) := by decide +kernel
theorem dX3_bitsOf_17 : decode cX3_bitsOf 17 = .ok (.dconst 1, 1) := by decide +kernel
theorem dX3_bitsOf_18 : decode cX3_bitsOf 18 = .ok (.dcmp .g, 1) := by decide +kernel
theorem dX3_bitsOf_19 : decode cX3_bitsOf 19 = .ok (.ifCond .ge 18, 3) := by decide +kernel
theorem dX3_bitsOf_22 : decode cX3_bitsOf 22 = .ok (.dload 4, 2) := by decide +kernel
theorem dX3_bitsOf_24 : decode cX3_bitsOf 24 = .ok (.ldc2_w 187, 3) := by decide +kernel
theorem dX3_bitsOf_27 : decode cX3_bitsOf 27 = .ok (.dmul, 1) := by decide +kernel
theorem dX3_bitsOf_28 : decode cX3_bitsOf 28 = .ok (.dstore 4, 2) := by decide +kernel
theorem dX3_bitsOf_30 : decode cX3_bitsOf 30 = .ok (.lload_n 2, 1) := by decide +kernel
theorem dX3_bitsOf_31 : decode cX3_bitsOf 31 = .ok (.lconst 1, 1) := by decide +kernel
theorem dX3_bitsOf_32 : decode cX3_bitsOf 32 = .ok (.lsub, 1) := by decide +kernel
theorem dX3_bitsOf_33 : decode cX3_bitsOf 33 = .ok (.lstore_n 2, 1) := by decide +kernel
theorem dX3_bitsOf_34 : decode cX3_bitsOf 34 = .ok (.goto (-19), 3) := by decide +kernel
theorem dX3_bitsOf_37 : decode cX3_bitsOf 37 = .ok (.lload_n 2, 1) := by decide +kernel
theorem dX3_bitsOf_38 : decode cX3_bitsOf 38 = .ok (.ldc2_w 189, 3) := by decide +kernel
theorem dX3_bitsOf_41 : decode cX3_bitsOf 41 = .ok (.lmul, 1) := by decide +kernel
theorem dX3_bitsOf_42 : decode cX3_bitsOf 42 = .ok (.dload 4, 2) := by decide +kernel
theorem dX3_bitsOf_44 : decode cX3_bitsOf 44 = .ok (.dconst 1, 1) := by decide +kernel
theorem dX3_bitsOf_45 : decode cX3_bitsOf 45 = .ok (.dsub, 1) := by decide +kernel
theorem dX3_bitsOf_46 : decode cX3_bitsOf 46 = .ok (.ldc2_w 191, 3) := by decide +kernel
theorem dX3_bitsOf_49 : decode cX3_bitsOf 49 = .ok (.dmul, 1) := by decide +kernel
theorem dX3_bitsOf_50 : decode cX3_bitsOf 50 = .ok (.d2l, 1) := by decide +kernel
theorem dX3_bitsOf_51 : decode cX3_bitsOf 51 = .ok (.ladd, 1) := by decide +kernel
theorem dX3_bitsOf_52 : decode cX3_bitsOf 52 = .ok (.lreturn, 1) := by decide +kernel
theorem dX3_floatBitsOf_0 : decode cX3_floatBitsOf 0 = .ok (.fload_n 0, 1) := by decide +kernel
theorem dX3_floatBitsOf_1 : decode cX3_floatBitsOf 1 = .ok (.fconst 0, 1) := by decide +kernel
theorem dX3_floatBitsOf_2 : decode cX3_floatBitsOf 2 = .ok (.fcmp .l, 1) := by decide +kernel
theorem dX3_floatBitsOf_3 : decode cX3_floatBitsOf 3 = .ok (.ifCond .ne 5, 3) := by decide +kernel
theorem dX3_floatBitsOf_6 : decode cX3_floatBitsOf 6 = .ok (.iconst 0, 1) := by decide +kernel
theorem dX3_floatBitsOf_7 : decode cX3_floatBitsOf 7 = .ok (.ireturn, 1) := by decide +kernel
theorem dX3_floatBitsOf_8 : decode cX3_floatBitsOf 8 = .ok (.fload_n 0, 1) := by decide +kernel
theorem dX3_floatBitsOf_9 : decode cX3_floatBitsOf 9 = .ok (.fstore_n 1, 1) := by decide +kernel
theorem dX3_floatBitsOf_10 : decode cX3_floatBitsOf 10 = .ok (.bipush 127, 2) := by decide +kernel
theorem dX3_floatBitsOf_12 : decode cX3_floatBitsOf 12 = .ok (.istore_n 2, 1) := by decide +kernel
theorem dX3_floatBitsOf_13 : decode cX3_floatBitsOf 13 = .ok (.fload_n 1, 1) := by decide +kernel
theorem dX3_floatBitsOf_14 : decode cX3_floatBitsOf 14 = .ok (.fconst 2, 1) := by decide +kernel
theorem dX3_floatBitsOf_15 : decode cX3_floatBitsOf 15 = .ok (.fcmp .l, 1) := by decide +kernel
theorem dX3_floatBitsOf_16 : decode cX3_floatBitsOf 16 = .ok (.ifCond .lt 13, 3) := by decide +kernel
theorem dX3_floatBitsOf_19 : decode cX3_floatBitsOf 19 = .ok (.fload_n 1, 1) := by decide +kernel
theorem dX3_floatBitsOf_20 : decode cX3_floatBitsOf 20 = .ok (.fconst 2, 1) := by decide +kernel
theorem dX3_floatBitsOf_21 : decode cX3_floatBitsOf 21 = .ok (.fdiv, 1) := by decide +kernel
theorem dX3_floatBitsOf_22 : decode cX3_floatBitsOf 22 = .ok (.fstore_n 1, 1) := by decide +kernel
theorem dX3_floatBitsOf_23 : decode cX3_floatBitsOf 23 = .ok (.iinc 2 1, 3) := by decide +kernel
theorem dX3_floatBitsOf_26 : decode cX3_floatBitsOf 26 = .ok (.goto (-13), 3) := by decide +kernel
theorem dX3_floatBitsOf_29 : decode cX3_floatBitsOf 29 = .ok (.fload_n 1, 1) := by decide +kernel
theorem dX3_floatBitsOf_30 : decode cX3_floatBitsOf 30 = .ok (.fconst 1, 1) := by decide +kernel
theorem dX3_floatBitsOf_31 : decode cX3_floatBitsOf 31 = .ok (.fcmp .g, 1) := by decide +kernel
theorem dX3_floatBitsOf_32 : decode cX3_floatBitsOf 32 = .ok (.ifCond .ge 13, 3) := by decide +kernel
theorem dX3_floatBitsOf_35 : decode cX3_floatBitsOf 35 = .ok (.fload_n 1, 1) := by decide +kernel
theorem dX3_floatBitsOf_36 : decode cX3_floatBitsOf 36 = .ok (.fconst 2, 1) := by decide +kernel
theorem dX3_floatBitsOf_37 : decode cX3_floatBitsOf 37 = .ok (.fmul, 1) := by decide +kernel
theorem dX3_floatBitsOf_38 : decode cX3_floatBitsOf 38 = .ok (.fstore_n 1, 1) := by decide +kernel
theorem dX3_floatBitsOf_39 : decode cX3_floatBitsOf 39 = .ok (.iinc 2 (-1), 3) := by decide +kernel
theorem dX3_floatBitsOf_42 : decode cX3_floatBitsOf 42 = .ok (.goto (-13), 3) := by decide +kernel
theorem dX3_floatBitsOf_45 : decode cX3_floatBitsOf 45 = .ok (.iload_n 2, 1) := by decide +kernel
theorem dX3_floatBitsOf_46 : decode cX3_floatBitsOf 46 = .ok (.ldc 193, 2) := by decide +kernel
theorem dX3_floatBitsOf_48 : decode cX3_floatBitsOf 48 = .ok (.imul, 1) := by decide +kernel
theorem dX3_floatBitsOf_49 : decode cX3_floatBitsOf 49 = .ok (.fload_n 1, 1) := by decide +kernel
theorem dX3_floatBitsOf_50 : decode cX3_floatBitsOf 50 = .ok (.fconst 1, 1) := by decide +kernel
theorem dX3_floatBitsOf_51 : decode cX3_floatBitsOf 51 = .ok (.fsub, 1) := by decide +kernel
theorem dX3_floatBitsOf_52 : decode cX3_floatBitsOf 52 = .ok (.ldc 194, 2) := by decide +kernel
theorem dX3_floatBitsOf_54 : decode cX3_floatBitsOf 54 = .ok (.fmul, 1) := by decide +kernel
theorem dX3_floatBitsOf_55 : decode cX3_floatBitsOf 55 = .ok (.f2i, 1) := by decide +kernel
theorem dX3_floatBitsOf_56 : decode cX3_floatBitsOf 56 = .ok (.iadd, 1) := by decide +kernel
theorem dX3_floatBitsOf_57 : decode cX3_floatBitsOf 57 = .ok (.ireturn, 1) := by decide +kernel
theorem dX3_digestOne_0 : decode cX3_digestOne 0 = .ok (.aload_n 0, 1) := by decide +kernel
theorem dX3_digestOne_1 : decode cX3_digestOne 1 = .ok (.ldc2_w 195, 3) := by decide +kernel
theorem dX3_digestOne_4 : decode cX3_digestOne 4 = .ok (.aload_n 0, 1) := by decide +kernel
theorem dX3_digestOne_5 : decode cX3_digestOne 5 = .ok (.getfield 197, 3) := by decide +kernel
theorem dX3_digestOne_8 : decode cX3_digestOne 8 = .ok (.lmul, 1) := by decide +kernel
theorem dX3_digestOne_9 : decode cX3_digestOne 9 = .ok (.lload_n 1, 1) := by decide +kernel
theorem dX3_digestOne_10 : decode cX3_digestOne 10 = .ok (.ladd, 1) := by decide +kernel
theorem dX3_digestOne_11 : decode cX3_digestOne 11 = .ok (.putfield 197, 3) := by decide +kernel
theorem dX3_digestOne_14 : decode cX3_digestOne 14 = .ok (.return_, 1) := by decide +kernel
set_option maxRecDepth 20000 in
theorem ggX3_digestPot_X3_ofOne : GoodIn wsX3_digestPot wsX3_ofOne := goodIn_r _ [6, 1, 7, 8, 9, 5, 10, 11, 12, 13, 14, 15, 16, 17, 18, 19, 20, 21, 22, 23, 24, 25, 26, 27, 28, 29, 30, 31, 32, 91, 92, 93, 94, 95, 96, 97, 98, 99, 100, 101, 102, 103, 104, 105] (by decide +kernel) (by decide +kernel)
set_option maxRecDepth 20000 in
theorem gX3_digestPot_X3_ofOne : GoodIn wsX3_digestPot (wsV RX3 149 RX3 yX3_ofOne wsX3_ofOne) := goodIn_app (goodIn_of _ (by decide +kernel)) ggX3_digestPot_X3_ofOne
set_option maxRecDepth 20000 in
theorem ggX3_digestPot_X3_digestOne : GoodIn wsX3_digestPot wsX3_digestOne := goodIn_r _ [36, 37, 38, 91, 92, 93, 94, 95, 96, 97, 98, 99, 100, 101, 102, 103, 104, 105] (by decide +kernel) (by decide +kernel)
set_option maxRecDepth 20000 in
theorem gX3_digestPot_X3_digestOne : GoodIn wsX3_digestPot (wsV RX3 201 RX3 yX3_digestOne wsX3_digestOne) := goodIn_app (goodIn_of _ (by decide +kernel)) ggX3_digestPot_X3_digestOne
set_option maxRecDepth 20000 in
theorem ggX3_digestPot_X3_wouldBring : GoodIn wsX3_digestPot wsX3_wouldBring := goodIn_r _ [42, 25, 26, 27, 5, 28, 1, 11, 12, 13, 18, 19, 20, 21, 29, 30, 31, 32, 22, 23, 24, 43, 44, 45, 46, 14, 15, 16, 17, 7, 8, 9, 10, 47, 48, 49, 50, 51, 52, 53, 54, 55, 56, 57, 91, 92, 93, 94, 95, 96, 97, 98, 99, 100, 101, 102, 103, 104, 105] (by decide +kernel) (by decide +kernel)
set_option maxRecDepth 20000 in
theorem gX3_digestPot_X3_wouldBring : GoodIn wsX3_digestPot (wsV RX3 161 RX3 yX3_wouldBring wsX3_wouldBring) := goodIn_app (goodIn_of _ (by decide +kernel)) ggX3_digestPot_X3_wouldBring
set_option maxRecDepth 20000 in
theorem ggX3_digestPot_X3_roundsUntilEmpty : GoodIn wsX3_digestPot wsX3_roundsUntilEmpty := goodIn_r _ [61, 1, 62, 63, 64, 5, 65, 66, 11, 12, 13, 67, 68, 69, 70, 18, 19, 20, 21, 25, 26, 27, 28, 29, 30, 31, 32, 22, 23, 24, 71, 72, 73, 74, 43, 44, 45, 46, 14, 15, 16, 17, 7, 8, 9, 10, 47, 48, 49, 50, 51, 52, 53, 54, 55, 56, 57, 75, 76, 77, 78, 79, 80, 81, 82, 83, 84, 85, 86, 91, 92, 93, 94, 95, 96, 97, 98, 99, 100, 101, 102, 103, 104, 105] (by decide +kernel) (by decide +kernel)
set_option maxRecDepth 20000 in
theorem gX3_digestPot_X3_roundsUntilEmpty : GoodIn wsX3_digestPot (wsV RX3 170 RX3 yX3_roundsUntilEmpty wsX3_roundsUntilEmpty) := goodIn_app (goodIn_of _ (by decide +kernel)) ggX3_digestPot_X3_roundsUntilEmpty
set_option maxRecDepth 20000 in
theorem ggX3_digestPot_X3_bestFor : GoodIn wsX3_digestPot wsX3_bestFor := goodIn_r _ [90, 62, 63, 64, 5, 65, 66, 1, 25, 26, 27, 28, 11, 12, 13, 18, 19, 20, 21, 29, 30, 31, 32, 22, 23, 24, 47, 48, 49, 50, 43, 44, 45, 46, 14, 15, 16, 17, 7, 8, 9, 10, 75, 76, 77, 78, 83, 84, 85, 86, 91, 92, 93, 94, 95, 96, 97, 98, 99, 100, 101, 102, 103, 104, 105] (by decide +kernel) (by decide +kernel)
set_option maxRecDepth 20000 in
theorem gX3_digestPot_X3_bestFor : GoodIn wsX3_digestPot (wsV RX3 173 RX3 yX3_bestFor wsX3_bestFor) := goodIn_app (goodIn_of _ (by decide +kernel)) ggX3_digestPot_X3_bestFor
theorem dX3_digestPot_0 : decode cX3_digestPot 0 = .ok (.iconst 0, 1) := by decide +kernel
theorem dX3_digestPot_1 : decode cX3_digestPot 1 = .ok (.istore_n 2, 1) := by decide +kernel
theorem dX3_digestPot_2 : decode cX3_digestPot 2 = .ok (.iload_n 2, 1) := by decide +kernel
theorem dX3_digestPot_3 : decode cX3_digestPot 3 = .ok (.bipush 8, 2) := by decide +kernel
theorem dX3_digestPot_5 : decode cX3_digestPot 5 = .ok (.if_icmp .ge 20, 3) := by decide +kernel
theorem dX3_digestPot_8 : decode cX3_digestPot 8 = .ok (.aload_n 0, 1) := by decide +kernel
theorem dX3_digestPot_9 : decode cX3_digestPot 9 = .ok (.aload_n 0, 1) := by decide +kernel
theorem dX3_digestPot_10 : decode cX3_digestPot 10 = .ok (.iload_n 1, 1) := by decide +kernel
theorem dX3_digestPot_11 : decode cX3_digestPot 11 = .ok (.iload_n 2, 1) := by decide +kernel
theorem dX3_digestPot_12 : decode cX3_digestPot 12 = .ok (.invokevirtual 149, 3) := by decide +kernel
theorem dX3_digestPot_15 : decode cX3_digestPot 15 = .ok (.i2l, 1) := by decide +kernel
theorem dX3_digestPot_16 : decode cX3_digestPot 16 = .ok (.invokevirtual 201, 3) := by decide +kernel
theorem dX3_digestPot_19 : decode cX3_digestPot 19 = .ok (.iinc 2 1, 3) := by decide +kernel
theorem dX3_digestPot_22 : decode cX3_digestPot 22 = .ok (.goto (-20), 3) := by decide +kernel
theorem dX3_digestPot_25 : decode cX3_digestPot 25 = .ok (.iconst 0, 1) := by decide +kernel
theorem dX3_digestPot_26 : decode cX3_digestPot 26 = .ok (.istore_n 2, 1) := by decide +kernel
theorem dX3_digestPot_27 : decode cX3_digestPot 27 = .ok (.iload_n 2, 1) := by decide +kernel
theorem dX3_digestPot_28 : decode cX3_digestPot 28 = .ok (.bipush 8, 2) := by decide +kernel
theorem dX3_digestPot_30 : decode cX3_digestPot 30 = .ok (.if_icmp .ge 28, 3) := by decide +kernel
theorem dX3_digestPot_33 : decode cX3_digestPot 33 = .ok (.aload_n 0, 1) := by decide +kernel
theorem dX3_digestPot_34 : decode cX3_digestPot 34 = .ok (.aload_n 0, 1) := by decide +kernel
theorem dX3_digestPot_35 : decode cX3_digestPot 35 = .ok (.getfield 7, 3) := by decide +kernel
theorem dX3_digestPot_38 : decode cX3_digestPot 38 = .ok (.bipush 87, 2) := by decide +kernel
theorem dX3_digestPot_40 : decode cX3_digestPot 40 = .ok (.bipush 8, 2) := by decide +kernel
theorem dX3_digestPot_42 : decode cX3_digestPot 42 = .ok (.iload_n 1, 1) := by decide +kernel
theorem dX3_digestPot_43 : decode cX3_digestPot 43 = .ok (.imul, 1) := by decide +kernel
theorem dX3_digestPot_44 : decode cX3_digestPot 44 = .ok (.iadd, 1) := by decide +kernel
theorem dX3_digestPot_45 : decode cX3_digestPot 45 = .ok (.iload_n 2, 1) := by decide +kernel
theorem dX3_digestPot_46 : decode cX3_digestPot 46 = .ok (.iadd, 1) := by decide +kernel
theorem dX3_digestPot_47 : decode cX3_digestPot 47 = .ok (.iaload, 1) := by decide +kernel
theorem dX3_digestPot_48 : decode cX3_digestPot 48 = .ok (.i2l, 1) := by decide +kernel
theorem dX3_digestPot_49 : decode cX3_digestPot 49 = .ok (.invokevirtual 201, 3) := by decide +kernel
theorem dX3_digestPot_52 : decode cX3_digestPot 52 = .ok (.iinc 2 1, 3) := by decide +kernel
theorem dX3_digestPot_55 : decode cX3_digestPot 55 = .ok (.goto (-28), 3) := by decide +kernel
theorem dX3_digestPot_58 : decode cX3_digestPot 58 = .ok (.iconst 0, 1) := by decide +kernel
theorem dX3_digestPot_59 : decode cX3_digestPot 59 = .ok (.istore_n 2, 1) := by decide +kernel
theorem dX3_digestPot_60 : decode cX3_digestPot 60 = .ok (.iload_n 2, 1) := by decide +kernel
theorem dX3_digestPot_61 : decode cX3_digestPot 61 = .ok (.iconst 3, 1) := by decide +kernel
theorem dX3_digestPot_62 : decode cX3_digestPot 62 = .ok (.if_icmp .ge 20, 3) := by decide +kernel
theorem dX3_digestPot_65 : decode cX3_digestPot 65 = .ok (.aload_n 0, 1) := by decide +kernel
theorem dX3_digestPot_66 : decode cX3_digestPot 66 = .ok (.aload_n 0, 1) := by decide +kernel
theorem dX3_digestPot_67 : decode cX3_digestPot 67 = .ok (.iload_n 1, 1) := by decide +kernel
theorem dX3_digestPot_68 : decode cX3_digestPot 68 = .ok (.iload_n 2, 1) := by decide +kernel
theorem dX3_digestPot_69 : decode cX3_digestPot 69 = .ok (.invokevirtual 161, 3) := by decide +kernel
theorem dX3_digestPot_72 : decode cX3_digestPot 72 = .ok (.i2l, 1) := by decide +kernel
theorem dX3_digestPot_73 : decode cX3_digestPot 73 = .ok (.invokevirtual 201, 3) := by decide +kernel
theorem dX3_digestPot_76 : decode cX3_digestPot 76 = .ok (.iinc 2 1, 3) := by decide +kernel
theorem dX3_digestPot_79 : decode cX3_digestPot 79 = .ok (.goto (-19), 3) := by decide +kernel
theorem dX3_digestPot_82 : decode cX3_digestPot 82 = .ok (.aload_n 0, 1) := by decide +kernel
theorem dX3_digestPot_83 : decode cX3_digestPot 83 = .ok (.aload_n 0, 1) := by decide +kernel
theorem dX3_digestPot_84 : decode cX3_digestPot 84 = .ok (.iload_n 1, 1) := by decide +kernel
theorem dX3_digestPot_85 : decode cX3_digestPot 85 = .ok (.invokevirtual 170, 3) := by decide +kernel
theorem dX3_digestPot_88 : decode cX3_digestPot 88 = .ok (.i2l, 1) := by decide +kernel
theorem dX3_digestPot_89 : decode cX3_digestPot 89 = .ok (.invokevirtual 201, 3) := by decide +kernel
theorem dX3_digestPot_92 : decode cX3_digestPot 92 = .ok (.aload_n 0, 1) := by decide +kernel
theorem dX3_digestPot_93 : decode cX3_digestPot 93 = .ok (.aload_n 0, 1) := by decide +kernel
theorem dX3_digestPot_94 : decode cX3_digestPot 94 = .ok (.iload_n 1, 1) := by decide +kernel
theorem dX3_digestPot_95 : decode cX3_digestPot 95 = .ok (.invokevirtual 173, 3) := by decide +kernel
theorem dX3_digestPot_98 : decode cX3_digestPot 98 = .ok (.i2l, 1) := by decide +kernel
theorem dX3_digestPot_99 : decode cX3_digestPot 99 = .ok (.invokevirtual 201, 3) := by decide +kernel
theorem dX3_digestPot_102 : decode cX3_digestPot 102 = .ok (.return_, 1) := by decide +kernel
set_option maxRecDepth 20000 in
theorem ggX3_digest_X3_counted : GoodIn wsX3_digest wsX3_counted := goodIn_r _ [12, 4, 13, 14, 15, 16, 11, 17, 18, 19, 20, 21, 22, 23, 24, 25, 26, 27, 28, 29, 30, 31, 146, 147, 148, 149, 150, 151, 152, 153, 154, 155, 156, 157, 158, 159, 160] (by decide +kernel) (by decide +kernel)
set_option maxRecDepth 20000 in
theorem gX3_digest_X3_counted : GoodIn wsX3_digest (wsV RX3 158 RX3 yX3_counted wsX3_counted) := goodIn_app (goodIn_of _ (by decide +kernel)) ggX3_digest_X3_counted
set_option maxRecDepth 20000 in
theorem ggX3_digest_X3_digestOne : GoodIn wsX3_digest wsX3_digestOne := goodIn_r _ [35, 36, 3, 146, 147, 148, 149, 150, 151, 152, 153, 154, 155, 156, 157, 158, 159, 160] (by decide +kernel) (by decide +kernel)
set_option maxRecDepth 20000 in
theorem gX3_digest_X3_digestOne : GoodIn wsX3_digest (wsV RX3 201 RX3 yX3_digestOne wsX3_digestOne) := goodIn_app (goodIn_of _ (by decide +kernel)) ggX3_digest_X3_digestOne
set_option maxRecDepth 20000 in
theorem ggX3_digest_X3_ofGuest : GoodIn wsX3_digest wsX3_ofGuest := goodIn_r _ [40, 4, 25, 26, 11, 27, 41, 42, 43, 44, 45, 46, 47, 48, 18, 19, 20, 146, 147, 148, 149, 150, 151, 152, 153, 154, 155, 156, 157, 158, 159, 160] (by decide +kernel) (by decide +kernel)
set_option maxRecDepth 20000 in
theorem gX3_digest_X3_ofGuest : GoodIn wsX3_digest (wsV RX3 146 RX3 yX3_ofGuest wsX3_ofGuest) := goodIn_app (goodIn_of _ (by decide +kernel)) ggX3_digest_X3_ofGuest
set_option maxRecDepth 20000 in
theorem ggX3_digest_X3_digestPot : GoodIn wsX3_digest wsX3_digestPot := goodIn_r _ [52, 4, 53, 54, 55, 11, 56, 57, 58, 59, 60, 18, 19, 20, 61, 62, 63, 64, 45, 46, 47, 48, 25, 26, 27, 65, 66, 67, 68, 69, 70, 71, 72, 32, 33, 34, 35, 36, 3, 73, 74, 75, 76, 77, 78, 79, 80, 81, 82, 83, 84, 85, 86, 87, 88, 89, 90, 91, 92, 93, 94, 95, 96, 97, 98, 99, 100, 101, 102, 103, 104, 105, 106, 107, 108, 109, 110, 111, 112, 113, 114, 115, 116, 117, 118, 119, 120, 121, 122, 123, 124, 146, 147, 148, 149, 150, 151, 152, 153, 154, 155, 156, 157, 158, 159, 160] (by decide +kernel) (by decide +kernel)
set_option maxRecDepth 20000 in
theorem gX3_digest_X3_digestPot : GoodIn wsX3_digest (wsV RX3 207 RX3 yX3_digestPot wsX3_digestPot) := goodIn_app (goodIn_of _ (by decide +kernel)) ggX3_digest_X3_digestPot
set_option maxRecDepth 20000 in
theorem ggX3_digest_X3_share : GoodIn wsX3_digest wsX3_share := goodIn_r _ [128, 21, 22, 23, 11, 24, 4, 25, 26, 27, 146, 147, 148, 149, 150, 151, 152, 153, 154, 155, 156, 157, 158, 159, 160] (by decide +kernel) (by decide +kernel)
set_option maxRecDepth 20000 in
theorem gX3_digest_X3_share : GoodIn wsX3_digest (wsV RX3 176 RX3 yX3_share wsX3_share) := goodIn_app (goodIn_of _ (by decide +kernel)) ggX3_digest_X3_share
set_option maxRecDepth 20000 in
theorem ggX3_digest_X3_bitsOf : GoodIn wsX3_digest wsX3_bitsOf := goodIn_r _ [131, 132, 133, 134, 135] (by decide +kernel) (by decide +kernel)
set_option maxRecDepth 20000 in
theorem gX3_digest_X3_bitsOf : GoodIn wsX3_digest (va_wsS RX3 211 yX3_bitsOf wsX3_bitsOf) := goodIn_app (goodIn_of _ (by decide +kernel)) ggX3_digest_X3_bitsOf
set_option maxRecDepth 20000 in
theorem ggX3_digest_X3_trust : GoodIn wsX3_digest wsX3_trust := goodIn_r _ [139, 140, 21, 22, 23, 11, 24, 4, 25, 26, 27, 146, 147, 148, 149, 150, 151, 152, 153, 154, 155, 156, 157, 158, 159, 160] (by decide +kernel) (by decide +kernel)
set_option maxRecDepth 20000 in
theorem gX3_digest_X3_trust : GoodIn wsX3_digest (wsV RX3 181 RX3 yX3_trust wsX3_trust) := goodIn_app (goodIn_of _ (by decide +kernel)) ggX3_digest_X3_trust
set_option maxRecDepth 20000 in
theorem ggX3_digest_X3_floatBitsOf : GoodIn wsX3_digest wsX3_floatBitsOf := goodIn_r _ [143, 144, 145] (by decide +kernel) (by decide +kernel)
set_option maxRecDepth 20000 in
theorem gX3_digest_X3_floatBitsOf : GoodIn wsX3_digest (va_wsS RX3 215 yX3_floatBitsOf wsX3_floatBitsOf) := goodIn_app (goodIn_of _ (by decide +kernel)) ggX3_digest_X3_floatBitsOf
theorem dX3_digest_0 : decode cX3_digest 0 = .ok (.aload_n 0, 1) := by decide +kernel
theorem dX3_digest_1 : decode cX3_digest 1 = .ok (.iconst 0, 1) := by decide +kernel
theorem dX3_digest_2 : decode cX3_digest 2 = .ok (.putfield 32, 3) := by decide +kernel
theorem dX3_digest_5 : decode cX3_digest 5 = .ok (.aload_n 0, 1) := by decide +kernel
theorem dX3_digest_6 : decode cX3_digest 6 = .ok (.ldc2_w 205, 3) := by decide +kernel
theorem dX3_digest_9 : decode cX3_digest 9 = .ok (.putfield 197, 3) := by decide +kernel
theorem dX3_digest_12 : decode cX3_digest 12 = .ok (.iconst 0, 1) := by decide +kernel
theorem dX3_digest_13 : decode cX3_digest 13 = .ok (.istore_n 1, 1) := by decide +kernel
theorem dX3_digest_14 : decode cX3_digest 14 = .ok (.iload_n 1, 1) := by decide +kernel
theorem dX3_digest_15 : decode cX3_digest 15 = .ok (.bipush 10, 2) := by decide +kernel
theorem dX3_digest_17 : decode cX3_digest 17 = .ok (.if_icmp .ge 19, 3) := by decide +kernel
theorem dX3_digest_20 : decode cX3_digest 20 = .ok (.aload_n 0, 1) := by decide +kernel
theorem dX3_digest_21 : decode cX3_digest 21 = .ok (.aload_n 0, 1) := by decide +kernel
theorem dX3_digest_22 : decode cX3_digest 22 = .ok (.iload_n 1, 1) := by decide +kernel
theorem dX3_digest_23 : decode cX3_digest 23 = .ok (.invokevirtual 158, 3) := by decide +kernel
theorem dX3_digest_26 : decode cX3_digest 26 = .ok (.i2l, 1) := by decide +kernel
theorem dX3_digest_27 : decode cX3_digest 27 = .ok (.invokevirtual 201, 3) := by decide +kernel
theorem dX3_digest_30 : decode cX3_digest 30 = .ok (.iinc 1 1, 3) := by decide +kernel
theorem dX3_digest_33 : decode cX3_digest 33 = .ok (.goto (-19), 3) := by decide +kernel
theorem dX3_digest_36 : decode cX3_digest 36 = .ok (.iconst 0, 1) := by decide +kernel
theorem dX3_digest_37 : decode cX3_digest 37 = .ok (.istore_n 1, 1) := by decide +kernel
theorem dX3_digest_38 : decode cX3_digest 38 = .ok (.iload_n 1, 1) := by decide +kernel
theorem dX3_digest_39 : decode cX3_digest 39 = .ok (.bipush 80, 2) := by decide +kernel
theorem dX3_digest_41 : decode cX3_digest 41 = .ok (.if_icmp .ge 26, 3) := by decide +kernel
theorem dX3_digest_44 : decode cX3_digest 44 = .ok (.aload_n 0, 1) := by decide +kernel
theorem dX3_digest_45 : decode cX3_digest 45 = .ok (.aload_n 0, 1) := by decide +kernel
theorem dX3_digest_46 : decode cX3_digest 46 = .ok (.iload_n 1, 1) := by decide +kernel
theorem dX3_digest_47 : decode cX3_digest 47 = .ok (.bipush 10, 2) := by decide +kernel
theorem dX3_digest_49 : decode cX3_digest 49 = .ok (.idiv, 1) := by decide +kernel
theorem dX3_digest_50 : decode cX3_digest 50 = .ok (.iload_n 1, 1) := by decide +kernel
theorem dX3_digest_51 : decode cX3_digest 51 = .ok (.bipush 10, 2) := by decide +kernel
theorem dX3_digest_53 : decode cX3_digest 53 = .ok (.irem, 1) := by decide +kernel
theorem dX3_digest_54 : decode cX3_digest 54 = .ok (.invokevirtual 146, 3) := by decide +kernel
theorem dX3_digest_57 : decode cX3_digest 57 = .ok (.i2l, 1) := by decide +kernel
theorem dX3_digest_58 : decode cX3_digest 58 = .ok (.invokevirtual 201, 3) := by decide +kernel
theorem dX3_digest_61 : decode cX3_digest 61 = .ok (.iinc 1 1, 3) := by decide +kernel
theorem dX3_digest_64 : decode cX3_digest 64 = .ok (.goto (-26), 3) := by decide +kernel
theorem dX3_digest_67 : decode cX3_digest 67 = .ok (.iconst 0, 1) := by decide +kernel
theorem dX3_digest_68 : decode cX3_digest 68 = .ok (.istore_n 1, 1) := by decide +kernel
theorem dX3_digest_69 : decode cX3_digest 69 = .ok (.iload_n 1, 1) := by decide +kernel
theorem dX3_digest_70 : decode cX3_digest 70 = .ok (.iconst 3, 1) := by decide +kernel
theorem dX3_digest_71 : decode cX3_digest 71 = .ok (.if_icmp .ge 14, 3) := by decide +kernel
theorem dX3_digest_74 : decode cX3_digest 74 = .ok (.aload_n 0, 1) := by decide +kernel
theorem dX3_digest_75 : decode cX3_digest 75 = .ok (.iload_n 1, 1) := by decide +kernel
theorem dX3_digest_76 : decode cX3_digest 76 = .ok (.invokevirtual 207, 3) := by decide +kernel
theorem dX3_digest_79 : decode cX3_digest 79 = .ok (.iinc 1 1, 3) := by decide +kernel
theorem dX3_digest_82 : decode cX3_digest 82 = .ok (.goto (-13), 3) := by decide +kernel
theorem dX3_digest_85 : decode cX3_digest 85 = .ok (.iconst 0, 1) := by decide +kernel
theorem dX3_digest_86 : decode cX3_digest 86 = .ok (.istore_n 1, 1) := by decide +kernel
theorem dX3_digest_87 : decode cX3_digest 87 = .ok (.iload_n 1, 1) := by decide +kernel
theorem dX3_digest_88 : decode cX3_digest 88 = .ok (.aload_n 0, 1) := by decide +kernel
theorem dX3_digest_89 : decode cX3_digest 89 = .ok (.getfield 7, 3) := by decide +kernel
theorem dX3_digest_92 : decode cX3_digest 92 = .ok (.sipush 135, 3) := by decide +kernel
theorem dX3_digest_95 : decode cX3_digest 95 = .ok (.iaload, 1) := by decide +kernel
theorem dX3_digest_96 : decode cX3_digest 96 = .ok (.if_icmp .ge 45, 3) := by decide +kernel
theorem dX3_digest_99 : decode cX3_digest 99 = .ok (.aload_n 0, 1) := by decide +kernel
theorem dX3_digest_100 : decode cX3_digest 100 = .ok (.aload_n 0, 1) := by decide +kernel
theorem dX3_digest_101 : decode cX3_digest 101 = .ok (.getfield 7, 3) := by decide +kernel
theorem dX3_digest_104 : decode cX3_digest 104 = .ok (.bipush 111, 2) := by decide +kernel
theorem dX3_digest_106 : decode cX3_digest 106 = .ok (.iload_n 1, 1) := by decide +kernel
theorem dX3_digest_107 : decode cX3_digest 107 = .ok (.iadd, 1) := by decide +kernel
theorem dX3_digest_108 : decode cX3_digest 108 = .ok (.iaload, 1) := by decide +kernel
theorem dX3_digest_109 : decode cX3_digest 109 = .ok (.i2l, 1) := by decide +kernel
theorem dX3_digest_110 : decode cX3_digest 110 = .ok (.invokevirtual 201, 3) := by decide +kernel
theorem dX3_digest_113 : decode cX3_digest 113 = .ok (.aload_n 0, 1) := by decide +kernel
theorem dX3_digest_114 : decode cX3_digest 114 = .ok (.aload_n 0, 1) := by decide +kernel
theorem dX3_digest_115 : decode cX3_digest 115 = .ok (.getfield 7, 3) := by decide +kernel
theorem dX3_digest_118 : decode cX3_digest 118 = .ok (.bipush 87, 2) := by decide +kernel
theorem dX3_digest_120 : decode cX3_digest 120 = .ok (.aload_n 0, 1) := by decide +kernel
theorem dX3_digest_121 : decode cX3_digest 121 = .ok (.getfield 7, 3) := by decide +kernel
theorem dX3_digest_124 : decode cX3_digest 124 = .ok (.bipush 111, 2) := by decide +kernel
theorem dX3_digest_126 : decode cX3_digest 126 = .ok (.iload_n 1, 1) := by decide +kernel
theorem dX3_digest_127 : decode cX3_digest 127 = .ok (.iadd, 1) := by decide +kernel
theorem dX3_digest_128 : decode cX3_digest 128 = .ok (.iaload, 1) := by decide +kernel
theorem dX3_digest_129 : decode cX3_digest 129 = .ok (.iadd, 1) := by decide +kernel
theorem dX3_digest_130 : decode cX3_digest 130 = .ok (.iaload, 1) := by decide +kernel
theorem dX3_digest_131 : decode cX3_digest 131 = .ok (.i2l, 1) := by decide +kernel
theorem dX3_digest_132 : decode cX3_digest 132 = .ok (.invokevirtual 201, 3) := by decide +kernel
theorem dX3_digest_135 : decode cX3_digest 135 = .ok (.iinc 1 1, 3) := by decide +kernel
theorem dX3_digest_138 : decode cX3_digest 138 = .ok (.goto (-51), 3) := by decide +kernel
theorem dX3_digest_141 : decode cX3_digest 141 = .ok (.aload_n 0, 1) := by decide +kernel
theorem dX3_digest_142 : decode cX3_digest 142 = .ok (.aload_n 0, 1) := by decide +kernel
theorem dX3_digest_143 : decode cX3_digest 143 = .ok (.invokevirtual 176, 3) := by decide +kernel
theorem dX3_digest_146 : decode cX3_digest 146 = .ok (.invokestatic 211, 3) := by decide +kernel
theorem dX3_digest_149 : decode cX3_digest 149 = .ok (.invokevirtual 201, 3) := by decide +kernel
theorem dX3_digest_152 : decode cX3_digest 152 = .ok (.aload_n 0, 1) := by decide +kernel
theorem dX3_digest_153 : decode cX3_digest 153 = .ok (.aload_n 0, 1) := by decide +kernel
theorem dX3_digest_154 : decode cX3_digest 154 = .ok (.invokevirtual 181, 3) := by decide +kernel
theorem dX3_digest_157 : decode cX3_digest 157 = .ok (.invokestatic 215, 3) := by decide +kernel
theorem dX3_digest_160 : decode cX3_digest 160 = .ok (.i2l, 1) := by decide +kernel
theorem dX3_digest_161 : decode cX3_digest 161 = .ok (.invokevirtual 201, 3) := by decide +kernel
theorem dX3_digest_164 : decode cX3_digest 164 = .ok (.aload_n 0, 1) := by decide +kernel
theorem dX3_digest_165 : decode cX3_digest 165 = .ok (.aload_n 0, 1) := by decide +kernel
theorem dX3_digest_166 : decode cX3_digest 166 = .ok (.getfield 136, 3) := by decide +kernel
theorem dX3_digest_169 : decode cX3_digest 169 = .ok (.ifCond .eq 7, 3) := by decide +kernel
theorem dX3_digest_172 : decode cX3_digest 172 = .ok (.lconst 1, 1) := by decide +kernel
theorem dX3_digest_173 : decode cX3_digest 173 = .ok (.goto 4, 3) := by decide +kernel
theorem dX3_digest_176 : decode cX3_digest 176 = .ok (.lconst 0, 1) := by decide +kernel
theorem dX3_digest_177 : decode cX3_digest 177 = .ok (.invokevirtual 201, 3) := by decide +kernel
theorem dX3_digest_180 : decode cX3_digest 180 = .ok (.aload_n 0, 1) := by decide +kernel
theorem dX3_digest_181 : decode cX3_digest 181 = .ok (.aload_n 0, 1) := by decide +kernel
theorem dX3_digest_182 : decode cX3_digest 182 = .ok (.getfield 99, 3) := by decide +kernel
theorem dX3_digest_185 : decode cX3_digest 185 = .ok (.i2l, 1) := by decide +kernel
theorem dX3_digest_186 : decode cX3_digest 186 = .ok (.invokevirtual 201, 3) := by decide +kernel
theorem dX3_digest_189 : decode cX3_digest 189 = .ok (.iconst 0, 1) := by decide +kernel
theorem dX3_digest_190 : decode cX3_digest 190 = .ok (.istore_n 1, 1) := by decide +kernel
theorem dX3_digest_191 : decode cX3_digest 191 = .ok (.iload_n 1, 1) := by decide +kernel
theorem dX3_digest_192 : decode cX3_digest 192 = .ok (.aload_n 0, 1) := by decide +kernel
theorem dX3_digest_193 : decode cX3_digest 193 = .ok (.getfield 99, 3) := by decide +kernel
theorem dX3_digest_196 : decode cX3_digest 196 = .ok (.if_icmp .ge 20, 3) := by decide +kernel
theorem dX3_digest_199 : decode cX3_digest 199 = .ok (.aload_n 0, 1) := by decide +kernel
theorem dX3_digest_200 : decode cX3_digest 200 = .ok (.aload_n 0, 1) := by decide +kernel
theorem dX3_digest_201 : decode cX3_digest 201 = .ok (.getfield 22, 3) := by decide +kernel
theorem dX3_digest_204 : decode cX3_digest 204 = .ok (.iload_n 1, 1) := by decide +kernel
theorem dX3_digest_205 : decode cX3_digest 205 = .ok (.iaload, 1) := by decide +kernel
theorem dX3_digest_206 : decode cX3_digest 206 = .ok (.i2l, 1) := by decide +kernel
theorem dX3_digest_207 : decode cX3_digest 207 = .ok (.invokevirtual 201, 3) := by decide +kernel
theorem dX3_digest_210 : decode cX3_digest 210 = .ok (.iinc 1 1, 3) := by decide +kernel
theorem dX3_digest_213 : decode cX3_digest 213 = .ok (.goto (-22), 3) := by decide +kernel
theorem dX3_digest_216 : decode cX3_digest 216 = .ok (.aload_n 0, 1) := by decide +kernel
theorem dX3_digest_217 : decode cX3_digest 217 = .ok (.getfield 197, 3) := by decide +kernel
theorem dX3_digest_220 : decode cX3_digest 220 = .ok (.lreturn, 1) := by decide +kernel

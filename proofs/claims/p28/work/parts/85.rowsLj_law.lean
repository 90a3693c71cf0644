set_option maxRecDepth 20000 in
theorem ggL_law_X2_init : GoodIn wsL_law wsX2_init := goodIn_r _ [6, 7, 8, 9, 10, 11, 12, 13, 14, 15, 16, 17, 18, 19, 20, 21, 22, 23, 24, 25, 26, 27, 3, 28, 29, 30, 31, 32, 33, 34, 35, 36, 37, 284, 276, 277, 278, 279, 280, 281, 282, 283, 285, 286, 287, 288, 289, 290] (by decide +kernel) (by decide +kernel)
set_option maxRecDepth 20000 in
theorem gL_law_X2_init : GoodIn wsL_law (wsX2_init) := ggL_law_X2_init
set_option maxRecDepth 20000 in
theorem ggL_law_L_cell : GoodIn wsL_law wsL_cell := goodIn_r _ [41] (by decide +kernel) (by decide +kernel)
set_option maxRecDepth 20000 in
theorem gL_law_L_cell : GoodIn wsL_law (va_wsS RL 91 yL_cell wsL_cell) := goodIn_app (goodIn_of _ (by decide +kernel)) ggL_law_L_cell
set_option maxRecDepth 20000 in
theorem ggL_law_X2_count : GoodIn wsL_law wsX2_count := goodIn_ca (goodIn_r _ [45, 13, 46, 22, 47, 48, 2, 49, 50, 51, 52, 53, 54, 12, 55, 56, 57, 58, 59, 28, 60, 61, 62, 63, 64, 65, 66, 67, 68, 69, 70, 71, 72, 73, 74, 75, 76, 77, 276, 277, 278, 279, 280, 281, 282, 283, 284] (by decide +kernel) (by decide +kernel)) (goodIn_sub (fun _ h => List.mem_append_left _ (List.mem_append_left _ (List.mem_append_right _ h))) (by decide +kernel))
set_option maxRecDepth 20000 in
theorem gL_law_X2_count : GoodIn wsL_law (wsV RL 57 RX2 yX2_count wsX2_count) := goodIn_app (goodIn_of _ (by decide +kernel)) ggL_law_X2_count
set_option maxRecDepth 20000 in
theorem gc_law_act_0 : GoodIn wsL_law [Cond.code yL_act cL_act 8 (some .int)] := fun w h => by
  rw [List.mem_singleton.mp h]
  exact ⟨List.mem_of_getElem? (i := 80) (by rfl), Or.inl rfl⟩
set_option maxRecDepth 20000 in
theorem gc_law_act_1 : GoodIn wsL_law wsL_act_r1 := goodIn_r _ [81, 82, 40, 83, 84, 85, 86, 87, 88, 89, 90, 91, 92, 93, 2, 94, 95, 96, 13, 97, 98, 99, 100, 101] (by decide +kernel) (by decide +kernel)
set_option maxRecDepth 20000 in
theorem gc_law_act_2 : GoodIn wsL_law wsL_act_r2 := goodIn_r _ [47, 48, 49, 50, 51, 102, 103, 104, 12, 105, 28, 106, 107, 108, 109, 22, 21, 16, 110, 111, 112, 113, 114, 115] (by decide +kernel) (by decide +kernel)
set_option maxRecDepth 20000 in
theorem gc_law_act_3 : GoodIn wsL_law wsL_act_r3 := goodIn_r _ [116, 117, 118, 119, 120, 121, 122, 123, 124, 125, 126, 127, 128, 129, 130, 131, 132, 133, 134, 135, 136, 137, 138, 139] (by decide +kernel) (by decide +kernel)
set_option maxRecDepth 20000 in
theorem gc_law_act_4 : GoodIn wsL_law wsL_act_r4 := goodIn_r _ [140, 141, 142, 143, 144, 145, 146, 147, 148, 149, 150, 151, 152, 153, 154, 155, 156, 157, 158, 159, 160, 161, 162, 163] (by decide +kernel) (by decide +kernel)
set_option maxRecDepth 20000 in
theorem gc_law_act_5 : GoodIn wsL_law wsL_act_r5 := goodIn_r _ [164, 165, 166, 167, 168, 169, 170, 171, 172, 173, 174, 175, 176, 177, 178, 179, 180, 181, 182, 183, 184, 185, 186, 187] (by decide +kernel) (by decide +kernel)
set_option maxRecDepth 20000 in
theorem gc_law_act_6 : GoodIn wsL_law wsL_act_r6 := goodIn_r _ [188, 189, 190, 191, 192, 193, 194, 195, 196, 197, 46, 198, 199, 200, 201, 202, 203, 204] (by decide +kernel) (by decide +kernel)
set_option maxRecDepth 20000 in
theorem gc_law_act_X20 : GoodIn wsL_law wsX20 := goodIn_r _ [276, 277, 278, 279, 280, 281, 282, 283] (by decide +kernel) (by decide +kernel)
set_option maxRecDepth 20000 in
theorem gc_law_act_X10 : GoodIn wsL_law wsX10 := goodIn_r _ [284] (by decide +kernel) (by decide +kernel)
theorem gc_law_act_c : GoodIn wsL_law ((Cond.code yL_act cL_act 8 (some .int)) :: (((wsL_act_r1 ++ (wsL_act_r2 ++ (wsL_act_r3 ++ (wsL_act_r4 ++ (wsL_act_r5 ++ wsL_act_r6))))) ++ wsX20) ++ wsX10)) := fun w h => (List.mem_cons.mp h).elim (fun e => gc_law_act_0 w (by rw [e]; exact List.mem_cons_self)) (fun h => (goodIn_app (goodIn_app (goodIn_app gc_law_act_1 (goodIn_app gc_law_act_2 (goodIn_app gc_law_act_3 (goodIn_app gc_law_act_4 (goodIn_app gc_law_act_5 gc_law_act_6))))) gc_law_act_X20) gc_law_act_X10) w h)
theorem ggL_law_L_act : GoodIn wsL_law wsL_act := goodIn_ca (goodIn_ca (goodIn_ca gc_law_act_c (goodIn_sub (fun _ h => List.mem_append_left _ (List.mem_append_right _ h)) (by decide +kernel))) (goodIn_sub (fun _ h => List.mem_append_right _ h) (by decide +kernel))) (goodIn_sub (fun _ h => List.mem_append_left _ (List.mem_append_left _ (List.mem_append_right _ h))) (by decide +kernel))
set_option maxRecDepth 20000 in
theorem gL_law_L_act : GoodIn wsL_law (va_wsS RL 95 yL_act wsL_act) := goodIn_app (goodIn_of _ (by decide +kernel)) ggL_law_L_act
set_option maxRecDepth 20000 in
theorem gc_law_areAlike_0 : GoodIn wsL_law [Cond.code yL_areAlike cL_areAlike 4 (some .boolean)] := fun w h => by
  rw [List.mem_singleton.mp h]
  exact ⟨List.mem_of_getElem? (i := 207) (by rfl), Or.inl rfl⟩
set_option maxRecDepth 20000 in
theorem gc_law_areAlike_1 : GoodIn wsL_law wsL_areAlike_r1 := goodIn_r _ [208, 209, 210, 2, 211, 13, 60, 61, 62, 12, 63, 56, 57, 58, 59, 28, 42, 43, 44, 45, 46, 22, 47, 48] (by decide +kernel) (by decide +kernel)
set_option maxRecDepth 20000 in
theorem gc_law_areAlike_2 : GoodIn wsL_law wsL_areAlike_r2 := goodIn_r _ [49, 50, 51, 52, 53, 54, 55, 64, 65, 66, 67, 68, 69, 70, 71, 72, 73, 74, 75, 76, 77, 212, 213, 214] (by decide +kernel) (by decide +kernel)
set_option maxRecDepth 20000 in
theorem gc_law_areAlike_3 : GoodIn wsL_law wsL_areAlike_r3 := goodIn_r _ [215, 187, 188, 189, 100, 101, 216, 217, 218, 219, 220, 221, 222, 223, 97, 98, 99, 224, 151, 152, 153, 225, 147, 148] (by decide +kernel) (by decide +kernel)
set_option maxRecDepth 20000 in
theorem gc_law_areAlike_4 : GoodIn wsL_law wsL_areAlike_r4 := goodIn_r _ [149, 150, 126, 127, 128, 129, 130, 131, 132, 133, 226, 227, 228, 229, 230, 231, 232, 233] (by decide +kernel) (by decide +kernel)
set_option maxRecDepth 20000 in
theorem gc_law_areAlike_X20 : GoodIn wsL_law wsX20 := goodIn_r _ [276, 277, 278, 279, 280, 281, 282, 283] (by decide +kernel) (by decide +kernel)
set_option maxRecDepth 20000 in
theorem gc_law_areAlike_X10 : GoodIn wsL_law wsX10 := goodIn_r _ [284] (by decide +kernel) (by decide +kernel)
theorem gc_law_areAlike_c : GoodIn wsL_law ((Cond.code yL_areAlike cL_areAlike 4 (some .boolean)) :: (((wsL_areAlike_r1 ++ (wsL_areAlike_r2 ++ (wsL_areAlike_r3 ++ wsL_areAlike_r4))) ++ wsX20) ++ wsX10)) := fun w h => (List.mem_cons.mp h).elim (fun e => gc_law_areAlike_0 w (by rw [e]; exact List.mem_cons_self)) (fun h => (goodIn_app (goodIn_app (goodIn_app gc_law_areAlike_1 (goodIn_app gc_law_areAlike_2 (goodIn_app gc_law_areAlike_3 gc_law_areAlike_4))) gc_law_areAlike_X20) gc_law_areAlike_X10) w h)
theorem ggL_law_L_areAlike : GoodIn wsL_law wsL_areAlike := goodIn_ca (goodIn_ca gc_law_areAlike_c (goodIn_sub (fun _ h => List.mem_append_left _ (List.mem_append_left _ (List.mem_append_right _ h))) (by decide +kernel))) (goodIn_sub (fun _ h => List.mem_append_right _ h) (by decide +kernel))
set_option maxRecDepth 20000 in
theorem gL_law_L_areAlike : GoodIn wsL_law (va_wsS RL 99 yL_areAlike wsL_areAlike) := goodIn_app (goodIn_of _ (by decide +kernel)) ggL_law_L_areAlike
set_option maxRecDepth 20000 in
theorem ggL_law_X2_undo : GoodIn wsL_law wsX2_undo := goodIn_ca (goodIn_r _ [237, 95, 96, 22, 13, 16, 21, 110, 111, 112, 12, 113, 28, 114, 115, 116, 117, 276, 277, 278, 279, 280, 281, 282, 283, 284] (by decide +kernel) (by decide +kernel)) (goodIn_sub (fun _ h => List.mem_append_left _ (List.mem_append_right _ h)) (by decide +kernel))
set_option maxRecDepth 20000 in
theorem gL_law_X2_undo : GoodIn wsL_law (wsV RL 83 RX2 yX2_undo wsX2_undo) := goodIn_app (goodIn_of _ (by decide +kernel)) ggL_law_X2_undo
set_option maxRecDepth 20000 in
theorem gc_law_areSums_0 : GoodIn wsL_law [Cond.code yL_areSums cL_areSums 16 (some .boolean)] := fun w h => by
  rw [List.mem_singleton.mp h]
  exact ⟨List.mem_of_getElem? (i := 240) (by rfl), Or.inl rfl⟩
set_option maxRecDepth 20000 in
theorem gc_law_areSums_1 : GoodIn wsL_law wsL_areSums_r1 := goodIn_r _ [241, 220, 221, 222, 2, 223, 13, 46, 97, 98, 99, 100, 101, 47, 48, 49, 50, 51, 224, 151, 152, 12, 153, 28] (by decide +kernel) (by decide +kernel)
set_option maxRecDepth 20000 in
theorem gc_law_areSums_2 : GoodIn wsL_law wsL_areSums_r2 := goodIn_r _ [225, 147, 148, 149, 150, 126, 127, 128, 129, 130, 131, 132, 133, 212, 213, 214, 215, 187, 188, 189, 216, 217, 218, 219] (by decide +kernel) (by decide +kernel)
set_option maxRecDepth 20000 in
theorem gc_law_areSums_3 : GoodIn wsL_law wsL_areSums_r3 := goodIn_r _ [226, 227, 228, 229, 230, 231, 232, 233, 42, 43, 44, 45, 22, 52, 53, 54, 55, 56, 57, 58, 59, 60, 61, 62] (by decide +kernel) (by decide +kernel)
set_option maxRecDepth 20000 in
theorem gc_law_areSums_4 : GoodIn wsL_law wsL_areSums_r4 := goodIn_r _ [63, 64, 65, 66, 67, 68, 69, 70, 71, 72, 73, 74, 75, 76, 77, 208, 209, 210, 211, 242, 243, 244, 245, 246] (by decide +kernel) (by decide +kernel)
set_option maxRecDepth 20000 in
theorem gc_law_areSums_X20 : GoodIn wsL_law wsX20 := goodIn_r _ [276, 277, 278, 279, 280, 281, 282, 283] (by decide +kernel) (by decide +kernel)
set_option maxRecDepth 20000 in
theorem gc_law_areSums_X10 : GoodIn wsL_law wsX10 := goodIn_r _ [284] (by decide +kernel) (by decide +kernel)
theorem gc_law_areSums_c : GoodIn wsL_law ((Cond.code yL_areSums cL_areSums 16 (some .boolean)) :: (((wsL_areSums_r1 ++ (wsL_areSums_r2 ++ (wsL_areSums_r3 ++ wsL_areSums_r4))) ++ wsX20) ++ wsX10)) := fun w h => (List.mem_cons.mp h).elim (fun e => gc_law_areSums_0 w (by rw [e]; exact List.mem_cons_self)) (fun h => (goodIn_app (goodIn_app (goodIn_app gc_law_areSums_1 (goodIn_app gc_law_areSums_2 (goodIn_app gc_law_areSums_3 gc_law_areSums_4))) gc_law_areSums_X20) gc_law_areSums_X10) w h)
theorem ggL_law_L_areSums : GoodIn wsL_law wsL_areSums := goodIn_ca (goodIn_ca gc_law_areSums_c (goodIn_sub (fun _ h => List.mem_append_right _ h) (by decide +kernel))) (goodIn_sub (fun _ h => List.mem_append_left _ (List.mem_append_left _ (List.mem_append_right _ h))) (by decide +kernel))
set_option maxRecDepth 20000 in
theorem gL_law_L_areSums : GoodIn wsL_law (va_wsS RL 103 yL_areSums wsL_areSums) := goodIn_app (goodIn_of _ (by decide +kernel)) ggL_law_L_areSums
set_option maxRecDepth 20000 in
theorem ggL_law_L_low : GoodIn wsL_law wsL_low := goodIn_r _ [83, 84] (by decide +kernel) (by decide +kernel)
set_option maxRecDepth 20000 in
theorem gL_law_L_low : GoodIn wsL_law (va_wsS RL 40 yL_low wsL_low) := goodIn_app (goodIn_of _ (by decide +kernel)) ggL_law_L_low
set_option maxRecDepth 20000 in
theorem gc_law_isPourSo_0 : GoodIn wsL_law [Cond.code yL_isPourSo cL_isPourSo 16 (some .boolean)] := fun w h => by
  rw [List.mem_singleton.mp h]
  exact ⟨List.mem_of_getElem? (i := 249) (by rfl), Or.inl rfl⟩
set_option maxRecDepth 20000 in
theorem gc_law_isPourSo_1 : GoodIn wsL_law wsL_isPourSo_r1 := goodIn_r _ [220, 221, 222, 2, 223, 13, 46, 97, 98, 99, 100, 101, 47, 48, 49, 50, 51, 224, 151, 152, 12, 153, 28, 225] (by decide +kernel) (by decide +kernel)
set_option maxRecDepth 20000 in
theorem gc_law_isPourSo_2 : GoodIn wsL_law wsL_isPourSo_r2 := goodIn_r _ [147, 148, 149, 150, 126, 127, 128, 129, 130, 131, 132, 133, 212, 213, 214, 215, 187, 188, 189, 216, 217, 218, 219, 250] (by decide +kernel) (by decide +kernel)
set_option maxRecDepth 20000 in
theorem gc_law_isPourSo_3 : GoodIn wsL_law wsL_isPourSo_r3 := goodIn_r _ [251, 252, 253, 15, 110, 111, 112, 113, 114, 115, 116, 117, 254, 255, 256, 257, 142, 143, 144, 145, 146, 165, 166, 167] (by decide +kernel) (by decide +kernel)
set_option maxRecDepth 20000 in
theorem gc_law_isPourSo_4 : GoodIn wsL_law wsL_isPourSo_r4 := goodIn_r _ [168, 169, 170, 140, 171, 138, 139, 141, 258, 259, 260, 261, 262, 263, 155, 156, 157, 158, 159, 160, 42, 43, 44, 45] (by decide +kernel) (by decide +kernel)
set_option maxRecDepth 20000 in
theorem gc_law_isPourSo_5 : GoodIn wsL_law wsL_isPourSo_r5 := goodIn_r _ [22, 52, 53, 54, 55, 56, 57, 58, 59, 60, 61, 62, 63, 64, 65, 66, 67, 68, 69, 70, 71, 72, 73, 74] (by decide +kernel) (by decide +kernel)
set_option maxRecDepth 20000 in
theorem gc_law_isPourSo_6 : GoodIn wsL_law wsL_isPourSo_r6 := goodIn_r _ [75, 76, 77, 85, 86, 40, 87, 88, 89, 90, 91, 92, 93, 94, 95, 96, 102, 103, 104, 105, 106, 107, 108, 109] (by decide +kernel) (by decide +kernel)
set_option maxRecDepth 20000 in
theorem gc_law_isPourSo_7 : GoodIn wsL_law wsL_isPourSo_r7 := goodIn_r _ [21, 16, 118, 119, 120, 121, 122, 123, 124, 125, 134, 135, 136, 137, 154, 161, 162, 163, 164, 172, 173, 174, 175, 176] (by decide +kernel) (by decide +kernel)
set_option maxRecDepth 20000 in
theorem gc_law_isPourSo_8 : GoodIn wsL_law wsL_isPourSo_r8 := goodIn_r _ [177, 178, 179, 180, 181, 182, 183, 184, 185, 186, 190, 191, 192, 193, 194, 195, 196, 197, 234, 235, 236, 237] (by decide +kernel) (by decide +kernel)
set_option maxRecDepth 20000 in
theorem gc_law_isPourSo_X20 : GoodIn wsL_law wsX20 := goodIn_r _ [276, 277, 278, 279, 280, 281, 282, 283] (by decide +kernel) (by decide +kernel)
set_option maxRecDepth 20000 in
theorem gc_law_isPourSo_X10 : GoodIn wsL_law wsX10 := goodIn_r _ [284] (by decide +kernel) (by decide +kernel)
theorem gc_law_isPourSo_c : GoodIn wsL_law ((Cond.code yL_isPourSo cL_isPourSo 16 (some .boolean)) :: (((wsL_isPourSo_r1 ++ (wsL_isPourSo_r2 ++ (wsL_isPourSo_r3 ++ (wsL_isPourSo_r4 ++ (wsL_isPourSo_r5 ++ (wsL_isPourSo_r6 ++ (wsL_isPourSo_r7 ++ wsL_isPourSo_r8))))))) ++ wsX20) ++ wsX10)) := fun w h => (List.mem_cons.mp h).elim (fun e => gc_law_isPourSo_0 w (by rw [e]; exact List.mem_cons_self)) (fun h => (goodIn_app (goodIn_app (goodIn_app gc_law_isPourSo_1 (goodIn_app gc_law_isPourSo_2 (goodIn_app gc_law_isPourSo_3 (goodIn_app gc_law_isPourSo_4 (goodIn_app gc_law_isPourSo_5 (goodIn_app gc_law_isPourSo_6 (goodIn_app gc_law_isPourSo_7 gc_law_isPourSo_8))))))) gc_law_isPourSo_X20) gc_law_isPourSo_X10) w h)
theorem ggL_law_L_isPourSo : GoodIn wsL_law wsL_isPourSo := goodIn_ca (goodIn_ca (goodIn_ca gc_law_isPourSo_c (goodIn_sub (fun _ h => List.mem_append_right _ h) (by decide +kernel))) (goodIn_sub (fun _ h => List.mem_append_left _ (List.mem_append_left _ (List.mem_append_right _ h))) (by decide +kernel))) (goodIn_sub (fun _ h => List.mem_append_left _ (List.mem_append_right _ h)) (by decide +kernel))
set_option maxRecDepth 20000 in
theorem gL_law_L_isPourSo : GoodIn wsL_law (va_wsS RL 107 yL_isPourSo wsL_isPourSo) := goodIn_app (goodIn_of _ (by decide +kernel)) ggL_law_L_isPourSo
set_option maxRecDepth 20000 in
theorem gc_law_isHandSo_0 : GoodIn wsL_law [Cond.code yL_isHandSo cL_isHandSo 8 (some .boolean)] := fun w h => by
  rw [List.mem_singleton.mp h]
  exact ⟨List.mem_of_getElem? (i := 266) (by rfl), Or.inl rfl⟩
set_option maxRecDepth 20000 in
theorem gc_law_isHandSo_1 : GoodIn wsL_law wsL_isHandSo_r1 := goodIn_r _ [220, 221, 222, 2, 223, 13, 46, 97, 98, 99, 100, 101, 47, 48, 49, 50, 51, 224, 151, 152, 12, 153, 28, 225] (by decide +kernel) (by decide +kernel)
set_option maxRecDepth 20000 in
theorem gc_law_isHandSo_2 : GoodIn wsL_law wsL_isHandSo_r2 := goodIn_r _ [147, 148, 149, 150, 126, 127, 128, 129, 130, 131, 132, 133, 212, 213, 214, 215, 187, 188, 189, 216, 217, 218, 219, 267] (by decide +kernel) (by decide +kernel)
set_option maxRecDepth 20000 in
theorem gc_law_isHandSo_3 : GoodIn wsL_law wsL_isHandSo_r3 := goodIn_r _ [268, 269, 270, 15, 110, 111, 112, 113, 114, 115, 116, 117, 176, 177, 178, 179, 180, 181, 135, 136, 137, 138, 139, 140] (by decide +kernel) (by decide +kernel)
set_option maxRecDepth 20000 in
theorem gc_law_isHandSo_4 : GoodIn wsL_law wsL_isHandSo_r4 := goodIn_r _ [141, 142, 143, 144, 145, 146, 154, 155, 156, 157, 158, 159, 160, 182, 166, 167, 168, 169, 170, 171, 271, 272, 273, 274] (by decide +kernel) (by decide +kernel)
set_option maxRecDepth 20000 in
theorem gc_law_isHandSo_5 : GoodIn wsL_law wsL_isHandSo_r5 := goodIn_r _ [275, 191, 192, 193, 161, 162, 163, 164, 106, 107, 108, 109, 22, 21, 16, 165, 226, 227, 228, 229, 234, 235, 236, 237] (by decide +kernel) (by decide +kernel)
set_option maxRecDepth 20000 in
theorem gc_law_isHandSo_6 : GoodIn wsL_law wsL_isHandSo_r6 := goodIn_r _ [95, 96] (by decide +kernel) (by decide +kernel)
set_option maxRecDepth 20000 in
theorem gc_law_isHandSo_X20 : GoodIn wsL_law wsX20 := goodIn_r _ [276, 277, 278, 279, 280, 281, 282, 283] (by decide +kernel) (by decide +kernel)
set_option maxRecDepth 20000 in
theorem gc_law_isHandSo_X10 : GoodIn wsL_law wsX10 := goodIn_r _ [284] (by decide +kernel) (by decide +kernel)
theorem gc_law_isHandSo_c : GoodIn wsL_law ((Cond.code yL_isHandSo cL_isHandSo 8 (some .boolean)) :: (((wsL_isHandSo_r1 ++ (wsL_isHandSo_r2 ++ (wsL_isHandSo_r3 ++ (wsL_isHandSo_r4 ++ (wsL_isHandSo_r5 ++ wsL_isHandSo_r6))))) ++ wsX20) ++ wsX10)) := fun w h => (List.mem_cons.mp h).elim (fun e => gc_law_isHandSo_0 w (by rw [e]; exact List.mem_cons_self)) (fun h => (goodIn_app (goodIn_app (goodIn_app gc_law_isHandSo_1 (goodIn_app gc_law_isHandSo_2 (goodIn_app gc_law_isHandSo_3 (goodIn_app gc_law_isHandSo_4 (goodIn_app gc_law_isHandSo_5 gc_law_isHandSo_6))))) gc_law_isHandSo_X20) gc_law_isHandSo_X10) w h)
theorem ggL_law_L_isHandSo : GoodIn wsL_law wsL_isHandSo := goodIn_ca (goodIn_ca (goodIn_ca gc_law_isHandSo_c (goodIn_sub (fun _ h => List.mem_append_right _ h) (by decide +kernel))) (goodIn_sub (fun _ h => List.mem_append_left _ (List.mem_append_left _ (List.mem_append_right _ h))) (by decide +kernel))) (goodIn_sub (fun _ h => List.mem_append_left _ (List.mem_append_right _ h)) (by decide +kernel))
set_option maxRecDepth 20000 in
theorem gL_law_L_isHandSo : GoodIn wsL_law (va_wsS RL 111 yL_isHandSo wsL_isHandSo) := goodIn_app (goodIn_of _ (by decide +kernel)) ggL_law_L_isHandSo
theorem dL_law_0 : decode cL_law 0 = .ok (.new 9, 3) := by decide +kernel
theorem dL_law_3 : decode cL_law 3 = .ok (.dup, 1) := by decide +kernel
theorem dL_law_4 : decode cL_law 4 = .ok (.invokespecial 90, 3) := by decide +kernel
theorem dL_law_7 : decode cL_law 7 = .ok (.astore_n 1, 1) := by decide +kernel
theorem dL_law_8 : decode cL_law 8 = .ok (.new 9, 3) := by decide +kernel
theorem dL_law_11 : decode cL_law 11 = .ok (.dup, 1) := by decide +kernel
theorem dL_law_12 : decode cL_law 12 = .ok (.invokespecial 90, 3) := by decide +kernel
theorem dL_law_15 : decode cL_law 15 = .ok (.astore_n 2, 1) := by decide +kernel
theorem dL_law_16 : decode cL_law 16 = .ok (.iconst 1, 1) := by decide +kernel
theorem dL_law_17 : decode cL_law 17 = .ok (.newarray .int, 2) := by decide +kernel
theorem dL_law_19 : decode cL_law 19 = .ok (.astore_n 3, 1) := by decide +kernel
theorem dL_law_20 : decode cL_law 20 = .ok (.iconst 0, 1) := by decide +kernel
theorem dL_law_21 : decode cL_law 21 = .ok (.istore 4, 2) := by decide +kernel
theorem dL_law_23 : decode cL_law 23 = .ok (.iload 4, 2) := by decide +kernel
theorem dL_law_25 : decode cL_law 25 = .ok (.bipush 56, 2) := by decide +kernel
theorem dL_law_27 : decode cL_law 27 = .ok (.if_icmp .ge 250, 3) := by decide +kernel
theorem dL_law_30 : decode cL_law 30 = .ok (.iload 4, 2) := by decide +kernel
theorem dL_law_32 : decode cL_law 32 = .ok (.iconst 2, 1) := by decide +kernel
theorem dL_law_33 : decode cL_law 33 = .ok (.if_icmp .ge 15, 3) := by decide +kernel
theorem dL_law_36 : decode cL_law 36 = .ok (.aload_n 0, 1) := by decide +kernel
theorem dL_law_37 : decode cL_law 37 = .ok (.iload 4, 2) := by decide +kernel
theorem dL_law_39 : decode cL_law 39 = .ok (.invokestatic 91, 3) := by decide +kernel
theorem dL_law_42 : decode cL_law 42 = .ok (.bipush (-32), 2) := by decide +kernel
theorem dL_law_44 : decode cL_law 44 = .ok (.iand, 1) := by decide +kernel
theorem dL_law_45 : decode cL_law 45 = .ok (.goto 9, 3) := by decide +kernel
theorem dL_law_48 : decode cL_law 48 = .ok (.aload_n 0, 1) := by decide +kernel
theorem dL_law_49 : decode cL_law 49 = .ok (.iload 4, 2) := by decide +kernel
theorem dL_law_51 : decode cL_law 51 = .ok (.invokestatic 91, 3) := by decide +kernel
theorem dL_law_54 : decode cL_law 54 = .ok (.istore 5, 2) := by decide +kernel
theorem dL_law_56 : decode cL_law 56 = .ok (.aload_n 1, 1) := by decide +kernel
theorem dL_law_57 : decode cL_law 57 = .ok (.bipush 9, 2) := by decide +kernel
theorem dL_law_59 : decode cL_law 59 = .ok (.invokevirtual 57, 3) := by decide +kernel
theorem dL_law_62 : decode cL_law 62 = .ok (.istore 6, 2) := by decide +kernel
theorem dL_law_64 : decode cL_law 64 = .ok (.aload_n 1, 1) := by decide +kernel
theorem dL_law_65 : decode cL_law 65 = .ok (.iload 5, 2) := by decide +kernel
theorem dL_law_67 : decode cL_law 67 = .ok (.aload_n 3, 1) := by decide +kernel
theorem dL_law_68 : decode cL_law 68 = .ok (.invokestatic 95, 3) := by decide +kernel
theorem dL_law_71 : decode cL_law 71 = .ok (.istore 7, 2) := by decide +kernel
theorem dL_law_73 : decode cL_law 73 = .ok (.aload_n 3, 1) := by decide +kernel
theorem dL_law_74 : decode cL_law 74 = .ok (.iconst 0, 1) := by decide +kernel
theorem dL_law_75 : decode cL_law 75 = .ok (.iaload, 1) := by decide +kernel
theorem dL_law_76 : decode cL_law 76 = .ok (.istore 8, 2) := by decide +kernel
theorem dL_law_78 : decode cL_law 78 = .ok (.iload 7, 2) := by decide +kernel
theorem dL_law_80 : decode cL_law 80 = .ok (.ifCond .eq 24, 3) := by decide +kernel
theorem dL_law_83 : decode cL_law 83 = .ok (.aload_n 1, 1) := by decide +kernel
theorem dL_law_84 : decode cL_law 84 = .ok (.aload_n 2, 1) := by decide +kernel
theorem dL_law_85 : decode cL_law 85 = .ok (.invokestatic 99, 3) := by decide +kernel
theorem dL_law_88 : decode cL_law 88 = .ok (.ifCond .eq 14, 3) := by decide +kernel
theorem dL_law_91 : decode cL_law 91 = .ok (.aload_n 1, 1) := by decide +kernel
theorem dL_law_92 : decode cL_law 92 = .ok (.bipush 9, 2) := by decide +kernel
theorem dL_law_94 : decode cL_law 94 = .ok (.invokevirtual 57, 3) := by decide +kernel
theorem dL_law_97 : decode cL_law 97 = .ok (.iload 6, 2) := by decide +kernel
theorem dL_law_99 : decode cL_law 99 = .ok (.if_icmp .eq 5, 3) := by decide +kernel
theorem dL_law_102 : decode cL_law 102 = .ok (.iconst 0, 1) := by decide +kernel
theorem dL_law_103 : decode cL_law 103 = .ok (.ireturn, 1) := by decide +kernel
theorem dL_law_104 : decode cL_law 104 = .ok (.iload 7, 2) := by decide +kernel
theorem dL_law_106 : decode cL_law 106 = .ok (.ifCond .ne 65, 3) := by decide +kernel
theorem dL_law_109 : decode cL_law 109 = .ok (.iload 5, 2) := by decide +kernel
theorem dL_law_111 : decode cL_law 111 = .ok (.bipush 9, 2) := by decide +kernel
theorem dL_law_113 : decode cL_law 113 = .ok (.ishr, 1) := by decide +kernel
theorem dL_law_114 : decode cL_law 114 = .ok (.iconst 1, 1) := by decide +kernel
theorem dL_law_115 : decode cL_law 115 = .ok (.iand, 1) := by decide +kernel
theorem dL_law_116 : decode cL_law 116 = .ok (.ifCond .ne 55, 3) := by decide +kernel
theorem dL_law_119 : decode cL_law 119 = .ok (.aload_n 1, 1) := by decide +kernel
theorem dL_law_120 : decode cL_law 120 = .ok (.invokevirtual 83, 3) := by decide +kernel
theorem dL_law_123 : decode cL_law 123 = .ok (.istore 9, 2) := by decide +kernel
theorem dL_law_125 : decode cL_law 125 = .ok (.iload 9, 2) := by decide +kernel
theorem dL_law_127 : decode cL_law 127 = .ok (.iload 6, 2) := by decide +kernel
theorem dL_law_129 : decode cL_law 129 = .ok (.bipush 6, 2) := by decide +kernel
theorem dL_law_131 : decode cL_law 131 = .ok (.if_icmp .ne 7, 3) := by decide +kernel
theorem dL_law_134 : decode cL_law 134 = .ok (.iconst 5, 1) := by decide +kernel
theorem dL_law_135 : decode cL_law 135 = .ok (.goto 5, 3) := by decide +kernel
theorem dL_law_138 : decode cL_law 138 = .ok (.iload 6, 2) := by decide +kernel
theorem dL_law_140 : decode cL_law 140 = .ok (.if_icmp .ne 29, 3) := by decide +kernel
theorem dL_law_143 : decode cL_law 143 = .ok (.aload_n 1, 1) := by decide +kernel
theorem dL_law_144 : decode cL_law 144 = .ok (.aload_n 2, 1) := by decide +kernel
theorem dL_law_145 : decode cL_law 145 = .ok (.invokestatic 99, 3) := by decide +kernel
theorem dL_law_148 : decode cL_law 148 = .ok (.ifCond .eq 21, 3) := by decide +kernel
theorem dL_law_151 : decode cL_law 151 = .ok (.aload_n 1, 1) := by decide +kernel
theorem dL_law_152 : decode cL_law 152 = .ok (.iload 5, 2) := by decide +kernel
theorem dL_law_154 : decode cL_law 154 = .ok (.aload_n 3, 1) := by decide +kernel
theorem dL_law_155 : decode cL_law 155 = .ok (.invokestatic 95, 3) := by decide +kernel
theorem dL_law_158 : decode cL_law 158 = .ok (.ifCond .ne 11, 3) := by decide +kernel
theorem dL_law_161 : decode cL_law 161 = .ok (.aload_n 3, 1) := by decide +kernel
theorem dL_law_162 : decode cL_law 162 = .ok (.iconst 0, 1) := by decide +kernel
theorem dL_law_163 : decode cL_law 163 = .ok (.iaload, 1) := by decide +kernel
theorem dL_law_164 : decode cL_law 164 = .ok (.iload 8, 2) := by decide +kernel
theorem dL_law_166 : decode cL_law 166 = .ok (.if_icmp .eq 5, 3) := by decide +kernel
theorem dL_law_169 : decode cL_law 169 = .ok (.iconst 0, 1) := by decide +kernel
theorem dL_law_170 : decode cL_law 170 = .ok (.ireturn, 1) := by decide +kernel
theorem dL_law_171 : decode cL_law 171 = .ok (.aload_n 2, 1) := by decide +kernel
theorem dL_law_172 : decode cL_law 172 = .ok (.iload 5, 2) := by decide +kernel
theorem dL_law_174 : decode cL_law 174 = .ok (.aload_n 3, 1) := by decide +kernel
theorem dL_law_175 : decode cL_law 175 = .ok (.invokestatic 95, 3) := by decide +kernel
theorem dL_law_178 : decode cL_law 178 = .ok (.iload 7, 2) := by decide +kernel
theorem dL_law_180 : decode cL_law 180 = .ok (.if_icmp .ne 24, 3) := by decide +kernel
theorem dL_law_183 : decode cL_law 183 = .ok (.iload 7, 2) := by decide +kernel
theorem dL_law_185 : decode cL_law 185 = .ok (.ifCond .ne 11, 3) := by decide +kernel
theorem dL_law_188 : decode cL_law 188 = .ok (.aload_n 3, 1) := by decide +kernel
theorem dL_law_189 : decode cL_law 189 = .ok (.iconst 0, 1) := by decide +kernel
theorem dL_law_190 : decode cL_law 190 = .ok (.iaload, 1) := by decide +kernel
theorem dL_law_191 : decode cL_law 191 = .ok (.iload 8, 2) := by decide +kernel
theorem dL_law_193 : decode cL_law 193 = .ok (.if_icmp .ne 11, 3) := by decide +kernel
theorem dL_law_196 : decode cL_law 196 = .ok (.aload_n 1, 1) := by decide +kernel
theorem dL_law_197 : decode cL_law 197 = .ok (.aload_n 2, 1) := by decide +kernel
theorem dL_law_198 : decode cL_law 198 = .ok (.invokestatic 99, 3) := by decide +kernel
theorem dL_law_201 : decode cL_law 201 = .ok (.ifCond .ne 5, 3) := by decide +kernel
theorem dL_law_204 : decode cL_law 204 = .ok (.iconst 0, 1) := by decide +kernel
theorem dL_law_205 : decode cL_law 205 = .ok (.ireturn, 1) := by decide +kernel
theorem dL_law_206 : decode cL_law 206 = .ok (.iload 4, 2) := by decide +kernel
theorem dL_law_208 : decode cL_law 208 = .ok (.iconst 3, 1) := by decide +kernel
theorem dL_law_209 : decode cL_law 209 = .ok (.irem, 1) := by decide +kernel
theorem dL_law_210 : decode cL_law 210 = .ok (.iconst 2, 1) := by decide +kernel
theorem dL_law_211 : decode cL_law 211 = .ok (.if_icmp .ne 60, 3) := by decide +kernel
theorem dL_law_214 : decode cL_law 214 = .ok (.aload_n 1, 1) := by decide +kernel
theorem dL_law_215 : decode cL_law 215 = .ok (.invokestatic 103, 3) := by decide +kernel
theorem dL_law_218 : decode cL_law 218 = .ok (.ifCond .eq 51, 3) := by decide +kernel
theorem dL_law_221 : decode cL_law 221 = .ok (.aload_n 1, 1) := by decide +kernel
theorem dL_law_222 : decode cL_law 222 = .ok (.iload 5, 2) := by decide +kernel
theorem dL_law_224 : decode cL_law 224 = .ok (.bipush 6, 2) := by decide +kernel
theorem dL_law_226 : decode cL_law 226 = .ok (.ishr, 1) := by decide +kernel
theorem dL_law_227 : decode cL_law 227 = .ok (.iconst 3, 1) := by decide +kernel
theorem dL_law_228 : decode cL_law 228 = .ok (.invokestatic 40, 3) := by decide +kernel
theorem dL_law_231 : decode cL_law 231 = .ok (.aload_n 3, 1) := by decide +kernel
theorem dL_law_232 : decode cL_law 232 = .ok (.invokestatic 107, 3) := by decide +kernel
theorem dL_law_235 : decode cL_law 235 = .ok (.ifCond .eq 34, 3) := by decide +kernel
theorem dL_law_238 : decode cL_law 238 = .ok (.aload_n 1, 1) := by decide +kernel
theorem dL_law_239 : decode cL_law 239 = .ok (.iload 5, 2) := by decide +kernel
theorem dL_law_241 : decode cL_law 241 = .ok (.bipush 8, 2) := by decide +kernel
theorem dL_law_243 : decode cL_law 243 = .ok (.ishr, 1) := by decide +kernel
theorem dL_law_244 : decode cL_law 244 = .ok (.iconst 3, 1) := by decide +kernel
theorem dL_law_245 : decode cL_law 245 = .ok (.invokestatic 40, 3) := by decide +kernel
theorem dL_law_248 : decode cL_law 248 = .ok (.iload 5, 2) := by decide +kernel
theorem dL_law_250 : decode cL_law 250 = .ok (.bipush 7, 2) := by decide +kernel
theorem dL_law_252 : decode cL_law 252 = .ok (.ishr, 1) := by decide +kernel
theorem dL_law_253 : decode cL_law 253 = .ok (.iconst 1, 1) := by decide +kernel
theorem dL_law_254 : decode cL_law 254 = .ok (.iand, 1) := by decide +kernel
theorem dL_law_255 : decode cL_law 255 = .ok (.invokestatic 111, 3) := by decide +kernel
theorem dL_law_258 : decode cL_law 258 = .ok (.ifCond .eq 11, 3) := by decide +kernel
theorem dL_law_261 : decode cL_law 261 = .ok (.aload_n 1, 1) := by decide +kernel
theorem dL_law_262 : decode cL_law 262 = .ok (.aload_n 2, 1) := by decide +kernel
theorem dL_law_263 : decode cL_law 263 = .ok (.invokestatic 99, 3) := by decide +kernel
theorem dL_law_266 : decode cL_law 266 = .ok (.ifCond .ne 5, 3) := by decide +kernel
theorem dL_law_269 : decode cL_law 269 = .ok (.iconst 0, 1) := by decide +kernel
theorem dL_law_270 : decode cL_law 270 = .ok (.ireturn, 1) := by decide +kernel
theorem dL_law_271 : decode cL_law 271 = .ok (.iinc 4 1, 3) := by decide +kernel
theorem dL_law_274 : decode cL_law 274 = .ok (.goto (-251), 3) := by decide +kernel
theorem dL_law_277 : decode cL_law 277 = .ok (.aload_n 1, 1) := by decide +kernel
theorem dL_law_278 : decode cL_law 278 = .ok (.invokestatic 103, 3) := by decide +kernel
theorem dL_law_281 : decode cL_law 281 = .ok (.ireturn, 1) := by decide +kernel


set_option maxRecDepth 20000 in
theorem ggL_law_X2_init : GoodIn wsL_law wsX2_init := goodIn_r _ [9, 10, 11, 12, 13, 14, 15, 16, 17, 18, 19, 20, 21, 22, 23, 24, 25, 26, 27, 28, 29, 30, 31, 32, 33, 34, 35, 36, 37, 38, 39, 40, 41, 729, 706, 707, 708, 709, 710, 711, 712, 713, 730, 731, 732, 733, 734, 735] (by decide +kernel) (by decide +kernel)
set_option maxRecDepth 20000 in
theorem gL_law_X2_init : GoodIn wsL_law (wsX2_init) := ggL_law_X2_init
set_option maxRecDepth 20000 in
theorem ggL_law_X3_init : GoodIn wsL_law wsX3_init := goodIn_r _ [44, 45, 11, 12, 31, 46, 47, 48, 49, 50, 51, 52, 5, 53, 54, 55, 56, 714, 715, 716, 717, 718, 719, 720, 721, 722, 723, 724, 725, 726, 727, 728] (by decide +kernel) (by decide +kernel)
set_option maxRecDepth 20000 in
theorem gL_law_X3_init : GoodIn wsL_law (wsX3_init) := ggL_law_X3_init
set_option maxRecDepth 20000 in
theorem ggL_law_L_like : GoodIn wsL_law wsL_like := goodIn_ca (goodIn_ca (goodIn_r _ [60, 61, 62, 63, 64, 65, 2, 66, 16, 67, 68, 69, 70, 71, 72, 73, 74, 75, 76, 77, 78, 79, 80, 81, 25, 24, 19, 82, 83, 84, 15, 85, 32, 86, 87, 88, 89, 706, 707, 708, 709, 710, 711, 712, 713, 729] (by decide +kernel) (by decide +kernel)) (goodIn_sub (fun _ h => List.mem_append_left _ (List.mem_append_left _ (List.mem_append_right _ h))) (by decide +kernel))) (goodIn_sub (fun _ h => List.mem_append_left _ (List.mem_append_right _ h)) (by decide +kernel))
set_option maxRecDepth 20000 in
theorem gL_law_L_like : GoodIn wsL_law (va_wsS RL 80 yL_like wsL_like) := goodIn_app (goodIn_of _ (by decide +kernel)) ggL_law_L_like
set_option maxRecDepth 20000 in
theorem ggL_law_X3_like : GoodIn wsL_law wsX3_like := goodIn_r _ [93, 46, 94, 95, 5, 96, 97, 98, 99, 100, 101, 102, 103, 104, 105, 106, 107, 108, 109, 48, 51, 52, 53, 714, 715, 716, 717, 718, 719, 720, 721, 722, 723, 724, 725, 726, 727, 728] (by decide +kernel) (by decide +kernel)
set_option maxRecDepth 20000 in
theorem gL_law_X3_like : GoodIn wsL_law (wsV RL 85 RX3 yX3_like wsX3_like) := goodIn_app (goodIn_of _ (by decide +kernel)) ggL_law_X3_like
set_option maxRecDepth 20000 in
theorem ggL_law_X3_thrown : GoodIn wsL_law wsX3_thrown := goodIn_r _ [113, 104, 714, 715, 716, 717, 718, 719, 720, 721, 722, 723, 724, 725, 726, 727, 728] (by decide +kernel) (by decide +kernel)
set_option maxRecDepth 20000 in
theorem gL_law_X3_thrown : GoodIn wsL_law (wsV RL 86 RX3 yX3_thrown wsX3_thrown) := goodIn_app (goodIn_of _ (by decide +kernel)) ggL_law_X3_thrown
set_option maxRecDepth 20000 in
theorem ggL_law_L_cup : GoodIn wsL_law wsL_cup := goodIn_ca (goodIn_ca (goodIn_ca (goodIn_r _ [116, 61, 62, 117, 118, 119, 120, 2, 121, 122, 123, 16, 67, 68, 69, 70, 71, 72, 73, 74, 75, 76, 77, 78, 79, 80, 81, 25, 24, 19, 82, 83, 84, 15, 85, 32, 86, 87, 88, 89, 706, 707, 708, 709, 710, 711, 712, 713, 729] (by decide +kernel) (by decide +kernel)) (goodIn_sub (fun _ h => List.mem_append_right _ h) (by decide +kernel))) (goodIn_sub (fun _ h => List.mem_append_left _ (List.mem_append_left _ (List.mem_append_right _ h))) (by decide +kernel))) (goodIn_sub (fun _ h => List.mem_append_left _ (List.mem_append_right _ h)) (by decide +kernel))
set_option maxRecDepth 20000 in
theorem gL_law_L_cup : GoodIn wsL_law (va_wsS RL 89 yL_cup wsL_cup) := goodIn_app (goodIn_of _ (by decide +kernel)) ggL_law_L_cup
set_option maxRecDepth 20000 in
theorem ggL_law_X3_cup : GoodIn wsL_law wsX3_cup := goodIn_r _ [127, 46, 97, 98, 5, 99, 94, 95, 96, 51, 52, 53, 100, 101, 102, 103, 104, 105, 106, 107, 108, 109, 48, 714, 715, 716, 717, 718, 719, 720, 721, 722, 723, 724, 725, 726, 727, 728] (by decide +kernel) (by decide +kernel)
set_option maxRecDepth 20000 in
theorem gL_law_X3_cup : GoodIn wsL_law (wsV RL 92 RX3 yX3_cup wsX3_cup) := goodIn_app (goodIn_of _ (by decide +kernel)) ggL_law_X3_cup
set_option maxRecDepth 20000 in
theorem ggL_law_L_sip : GoodIn wsL_law wsL_sip := goodIn_ca (goodIn_r _ [130, 61, 131, 132, 133, 2, 134, 16, 68, 69, 70, 71, 72, 78, 79, 80, 81, 25, 24, 19, 82, 83, 84, 15, 85, 32, 86, 87, 88, 89, 135, 136, 137, 138, 139, 140, 141, 142, 706, 707, 708, 709, 710, 711, 712, 713, 729] (by decide +kernel) (by decide +kernel)) (goodIn_sub (fun _ h => List.mem_append_left _ (List.mem_append_left _ (List.mem_append_right _ h))) (by decide +kernel))
set_option maxRecDepth 20000 in
theorem gL_law_L_sip : GoodIn wsL_law (va_wsS RL 93 yL_sip wsL_sip) := goodIn_app (goodIn_of _ (by decide +kernel)) ggL_law_L_sip
set_option maxRecDepth 20000 in
theorem ggL_law_X3_sip : GoodIn wsL_law wsX3_sip := goodIn_r _ [146, 97, 98, 5, 99, 94, 95, 96, 100, 101, 102, 103, 104, 105, 106, 107, 108, 109, 48, 46, 147, 148, 149, 150, 51, 52, 53, 714, 715, 716, 717, 718, 719, 720, 721, 722, 723, 724, 725, 726, 727, 728] (by decide +kernel) (by decide +kernel)
set_option maxRecDepth 20000 in
theorem gL_law_X3_sip : GoodIn wsL_law (wsV RL 96 RX3 yX3_sip wsX3_sip) := goodIn_app (goodIn_of _ (by decide +kernel)) ggL_law_X3_sip
set_option maxRecDepth 20000 in
theorem ggL_law_L_brew : GoodIn wsL_law wsL_brew := goodIn_ca (goodIn_ca (goodIn_ca (goodIn_r _ [153, 61, 62, 117, 154, 155, 156, 2, 157, 122, 123, 16, 158, 159, 160, 71, 72, 73, 74, 75, 76, 77, 161, 162, 163, 15, 164, 32, 78, 79, 80, 81, 25, 24, 19, 82, 83, 84, 85, 86, 87, 88, 89, 165, 166, 167, 168, 706, 707, 708, 709, 710, 711, 712, 713, 729] (by decide +kernel) (by decide +kernel)) (goodIn_sub (fun _ h => List.mem_append_right _ h) (by decide +kernel))) (goodIn_sub (fun _ h => List.mem_append_left _ (List.mem_append_left _ (List.mem_append_right _ h))) (by decide +kernel))) (goodIn_sub (fun _ h => List.mem_append_left _ (List.mem_append_right _ h)) (by decide +kernel))
set_option maxRecDepth 20000 in
theorem gL_law_L_brew : GoodIn wsL_law (va_wsS RL 97 yL_brew wsL_brew) := goodIn_app (goodIn_of _ (by decide +kernel)) ggL_law_L_brew
set_option maxRecDepth 20000 in
theorem ggL_law_X3_brew : GoodIn wsL_law wsX3_brew := goodIn_r _ [172, 46, 173, 174, 5, 175, 94, 95, 96, 54, 55, 56, 100, 101, 102, 103, 104, 105, 106, 107, 108, 109, 48, 176, 177, 178, 179, 714, 715, 716, 717, 718, 719, 720, 721, 722, 723, 724, 725, 726, 727, 728] (by decide +kernel) (by decide +kernel)
set_option maxRecDepth 20000 in
theorem gL_law_X3_brew : GoodIn wsL_law (wsV RL 99 RX3 yX3_brew wsX3_brew) := goodIn_app (goodIn_of _ (by decide +kernel)) ggL_law_X3_brew
set_option maxRecDepth 20000 in
theorem ggL_law_L_pour : GoodIn wsL_law wsL_pour := goodIn_ca (goodIn_ca (goodIn_r _ [182, 61, 117, 183, 184, 185, 2, 186, 122, 123, 16, 158, 159, 160, 71, 72, 187, 188, 189, 15, 190, 32, 191, 192, 193, 194, 78, 79, 80, 81, 25, 24, 19, 82, 83, 84, 85, 86, 87, 88, 89, 195, 196, 197, 198, 199, 200, 141, 201, 202, 203, 204, 205, 206, 207, 208, 209, 210, 211, 212, 213, 214, 215, 216, 217, 218, 219, 220, 706, 707, 708, 709, 710, 711, 712, 713, 729] (by decide +kernel) (by decide +kernel)) (goodIn_sub (fun _ h => List.mem_append_right _ h) (by decide +kernel))) (goodIn_sub (fun _ h => List.mem_append_left _ (List.mem_append_left _ (List.mem_append_right _ h))) (by decide +kernel))
set_option maxRecDepth 20000 in
theorem gL_law_L_pour : GoodIn wsL_law (va_wsS RL 100 yL_pour wsL_pour) := goodIn_app (goodIn_of _ (by decide +kernel)) ggL_law_L_pour
set_option maxRecDepth 20000 in
theorem ggL_law_X3_pour : GoodIn wsL_law wsX3_pour := goodIn_r _ [224, 173, 174, 5, 175, 94, 95, 96, 225, 226, 227, 228, 46, 54, 55, 56, 229, 230, 231, 232, 233, 234, 235, 236, 51, 52, 53, 100, 101, 102, 103, 104, 105, 106, 107, 108, 109, 48, 237, 238, 239, 240, 241, 242, 243, 244, 245, 246, 247, 248, 249, 250, 251, 252, 253, 254, 255, 256, 257, 258, 259, 260, 261, 262, 263, 714, 715, 716, 717, 718, 719, 720, 721, 722, 723, 724, 725, 726, 727, 728] (by decide +kernel) (by decide +kernel)
set_option maxRecDepth 20000 in
theorem gL_law_X3_pour : GoodIn wsL_law (wsV RL 102 RX3 yX3_pour wsX3_pour) := goodIn_app (goodIn_of _ (by decide +kernel)) ggL_law_X3_pour
set_option maxRecDepth 20000 in
theorem ggL_law_L_hand : GoodIn wsL_law wsL_hand := goodIn_ca (goodIn_ca (goodIn_r _ [266, 61, 62, 267, 268, 269, 2, 270, 16, 158, 159, 160, 71, 72, 73, 74, 75, 76, 77, 78, 79, 80, 81, 25, 24, 19, 82, 83, 84, 15, 85, 32, 86, 87, 88, 89, 271, 272, 273, 274, 139, 140, 141, 142, 199, 200, 201, 206, 207, 208, 209, 210, 211, 212, 213, 706, 707, 708, 709, 710, 711, 712, 713, 729] (by decide +kernel) (by decide +kernel)) (goodIn_sub (fun _ h => List.mem_append_left _ (List.mem_append_left _ (List.mem_append_right _ h))) (by decide +kernel))) (goodIn_sub (fun _ h => List.mem_append_left _ (List.mem_append_right _ h)) (by decide +kernel))
set_option maxRecDepth 20000 in
theorem gL_law_L_hand : GoodIn wsL_law (va_wsS RL 103 yL_hand wsL_hand) := goodIn_app (goodIn_of _ (by decide +kernel)) ggL_law_L_hand

set_option maxRecDepth 20000 in
theorem ggL_law_X3_goBack : GoodIn wsL_law wsX3_goBack := goodIn_r _ [452, 437, 46, 49, 100, 101, 102, 5, 103, 104, 105, 106, 107, 108, 109, 48, 438, 439, 440, 441, 54, 55, 56, 714, 715, 716, 717, 718, 719, 720, 721, 722, 723, 724, 725, 726, 727, 728] (by decide +kernel) (by decide +kernel)
set_option maxRecDepth 20000 in
theorem gL_law_X3_goBack : GoodIn wsL_law (wsV RL 130 RX3 yX3_goBack wsX3_goBack) := goodIn_app (goodIn_of _ (by decide +kernel)) ggL_law_X3_goBack
set_option maxRecDepth 20000 in
theorem ggL_law_L_undo : GoodIn wsL_law wsL_undo := goodIn_ca (goodIn_r _ [455, 117, 456, 457, 458, 2, 459, 122, 123, 25, 16, 19, 24, 82, 83, 84, 15, 85, 32, 86, 87, 88, 89, 706, 707, 708, 709, 710, 711, 712, 713, 729] (by decide +kernel) (by decide +kernel)) (goodIn_sub (fun _ h => List.mem_append_right _ h) (by decide +kernel))
set_option maxRecDepth 20000 in
theorem gL_law_L_undo : GoodIn wsL_law (va_wsS RL 131 yL_undo wsL_undo) := goodIn_app (goodIn_of _ (by decide +kernel)) ggL_law_L_undo
set_option maxRecDepth 20000 in
theorem ggL_law_X3_undo : GoodIn wsL_law wsX3_undo := goodIn_r _ [463, 109, 46, 48, 100, 101, 102, 5, 103, 104, 714, 715, 716, 717, 718, 719, 720, 721, 722, 723, 724, 725, 726, 727, 728] (by decide +kernel) (by decide +kernel)
set_option maxRecDepth 20000 in
theorem gL_law_X3_undo : GoodIn wsL_law (wsV RL 133 RX3 yX3_undo wsX3_undo) := goodIn_app (goodIn_of _ (by decide +kernel)) ggL_law_X3_undo
set_option maxRecDepth 20000 in
theorem ggL_law_L_guest : GoodIn wsL_law wsL_guest := goodIn_ca (goodIn_ca (goodIn_r _ [466, 61, 62, 467, 468, 469, 2, 470, 16, 67, 68, 69, 70, 71, 72, 73, 74, 75, 76, 77, 471, 472, 473, 15, 474, 32, 706, 707, 708, 709, 710, 711, 712, 713, 729] (by decide +kernel) (by decide +kernel)) (goodIn_sub (fun _ h => List.mem_append_left _ (List.mem_append_left _ (List.mem_append_right _ h))) (by decide +kernel))) (goodIn_sub (fun _ h => List.mem_append_left _ (List.mem_append_right _ h)) (by decide +kernel))
set_option maxRecDepth 20000 in
theorem gL_law_L_guest : GoodIn wsL_law (va_wsS RL 134 yL_guest wsL_guest) := goodIn_app (goodIn_of _ (by decide +kernel)) ggL_law_L_guest
set_option maxRecDepth 20000 in
theorem ggL_law_X3_guest : GoodIn wsL_law wsX3_guest := goodIn_r _ [478, 97, 98, 5, 99, 94, 95, 96, 100, 101, 102, 103, 104, 479, 480, 481, 482, 46, 51, 52, 53, 483, 484, 485, 486, 229, 230, 231, 232, 54, 55, 56, 714, 715, 716, 717, 718, 719, 720, 721, 722, 723, 724, 725, 726, 727, 728] (by decide +kernel) (by decide +kernel)
set_option maxRecDepth 20000 in
theorem gL_law_X3_guest : GoodIn wsL_law (wsV RL 136 RX3 yX3_guest wsX3_guest) := goodIn_app (goodIn_of _ (by decide +kernel)) ggL_law_X3_guest
set_option maxRecDepth 20000 in
theorem ggL_law_L_pot : GoodIn wsL_law wsL_pot := goodIn_ca (goodIn_ca (goodIn_r _ [489, 61, 62, 490, 491, 492, 2, 493, 16, 67, 158, 159, 160, 71, 72, 73, 74, 75, 76, 77, 494, 211, 212, 15, 213, 32, 495, 207, 208, 209, 210, 187, 188, 189, 190, 191, 192, 193, 194, 706, 707, 708, 709, 710, 711, 712, 713, 729] (by decide +kernel) (by decide +kernel)) (goodIn_sub (fun _ h => List.mem_append_left _ (List.mem_append_left _ (List.mem_append_right _ h))) (by decide +kernel))) (goodIn_sub (fun _ h => List.mem_append_left _ (List.mem_append_right _ h)) (by decide +kernel))
set_option maxRecDepth 20000 in
theorem gL_law_L_pot : GoodIn wsL_law (va_wsS RL 137 yL_pot wsL_pot) := goodIn_app (goodIn_of _ (by decide +kernel)) ggL_law_L_pot
set_option maxRecDepth 20000 in
theorem ggL_law_X3_pot : GoodIn wsL_law wsX3_pot := goodIn_r _ [499, 173, 174, 5, 175, 94, 95, 96, 100, 101, 102, 103, 104, 500, 501, 502, 503, 46, 249, 250, 251, 252, 54, 55, 56, 245, 246, 247, 248, 229, 230, 231, 232, 51, 52, 53, 225, 226, 227, 228, 233, 234, 235, 236, 714, 715, 716, 717, 718, 719, 720, 721, 722, 723, 724, 725, 726, 727, 728] (by decide +kernel) (by decide +kernel)
set_option maxRecDepth 20000 in
theorem gL_law_X3_pot : GoodIn wsL_law (wsV RL 139 RX3 yX3_pot wsX3_pot) := goodIn_app (goodIn_of _ (by decide +kernel)) ggL_law_X3_pot
set_option maxRecDepth 20000 in
theorem ggL_law_L_told : GoodIn wsL_law wsL_told := goodIn_ca (goodIn_r _ [506, 61, 507, 508, 509, 2, 510, 16, 67, 158, 159, 160, 71, 72, 68, 69, 70, 706, 707, 708, 709, 710, 711, 712, 713, 729] (by decide +kernel) (by decide +kernel)) (goodIn_sub (fun _ h => List.mem_append_left _ (List.mem_append_left _ (List.mem_append_right _ h))) (by decide +kernel))
set_option maxRecDepth 20000 in
theorem gL_law_L_told : GoodIn wsL_law (va_wsS RL 140 yL_told wsL_told) := goodIn_app (goodIn_of _ (by decide +kernel)) ggL_law_L_told
set_option maxRecDepth 20000 in
theorem ggL_law_X3_told : GoodIn wsL_law wsX3_told := goodIn_r _ [514, 46, 173, 174, 5, 175, 94, 95, 96, 97, 98, 99, 100, 101, 102, 103, 104, 714, 715, 716, 717, 718, 719, 720, 721, 722, 723, 724, 725, 726, 727, 728] (by decide +kernel) (by decide +kernel)
set_option maxRecDepth 20000 in
theorem gL_law_X3_told : GoodIn wsL_law (wsV RL 142 RX3 yX3_told wsX3_told) := goodIn_app (goodIn_of _ (by decide +kernel)) ggL_law_X3_told
set_option maxRecDepth 20000 in
theorem ggL_law_L_tale : GoodIn wsL_law wsL_tale := goodIn_ca (goodIn_ca (goodIn_r _ [517, 61, 62, 518, 519, 520, 2, 521, 71, 72, 16, 67, 73, 74, 75, 76, 77, 706, 707, 708, 709, 710, 711, 712, 713, 729] (by decide +kernel) (by decide +kernel)) (goodIn_sub (fun _ h => List.mem_append_left _ (List.mem_append_left _ (List.mem_append_right _ h))) (by decide +kernel))) (goodIn_sub (fun _ h => List.mem_append_left _ (List.mem_append_right _ h)) (by decide +kernel))
set_option maxRecDepth 20000 in
theorem gL_law_L_tale : GoodIn wsL_law (va_wsS RL 143 yL_tale wsL_tale) := goodIn_app (goodIn_of _ (by decide +kernel)) ggL_law_L_tale
set_option maxRecDepth 20000 in
theorem ggL_law_X3_tale : GoodIn wsL_law wsX3_tale := goodIn_r _ [525, 46, 94, 95, 5, 96, 100, 101, 102, 103, 104, 714, 715, 716, 717, 718, 719, 720, 721, 722, 723, 724, 725, 726, 727, 728] (by decide +kernel) (by decide +kernel)
set_option maxRecDepth 20000 in
theorem gL_law_X3_tale : GoodIn wsL_law (wsV RL 145 RX3 yX3_tale wsX3_tale) := goodIn_app (goodIn_of _ (by decide +kernel)) ggL_law_X3_tale
set_option maxRecDepth 20000 in
theorem ggL_law_L_count : GoodIn wsL_law wsL_count := goodIn_ca (goodIn_r _ [528, 62, 529, 530, 531, 2, 532, 16, 67, 25, 73, 74, 75, 76, 77, 533, 534, 535, 15, 536, 429, 430, 431, 432, 32, 537, 538, 539, 540, 425, 426, 427, 428, 541, 542, 543, 544, 545, 546, 547, 548, 549, 550, 706, 707, 708, 709, 710, 711, 712, 713, 729] (by decide +kernel) (by decide +kernel)) (goodIn_sub (fun _ h => List.mem_append_left _ (List.mem_append_right _ h)) (by decide +kernel))
set_option maxRecDepth 20000 in
theorem gL_law_L_count : GoodIn wsL_law (va_wsS RL 146 yL_count wsL_count) := goodIn_app (goodIn_of _ (by decide +kernel)) ggL_law_L_count
set_option maxRecDepth 20000 in
theorem ggL_law_X3_count : GoodIn wsL_law wsX3_count := goodIn_r _ [554, 94, 95, 5, 96, 100, 101, 102, 103, 104, 555, 556, 557, 558, 46, 109, 559, 560, 561, 562, 54, 55, 56, 563, 564, 565, 566, 51, 52, 53, 438, 439, 440, 441, 714, 715, 716, 717, 718, 719, 720, 721, 722, 723, 724, 725, 726, 727, 728] (by decide +kernel) (by decide +kernel)
set_option maxRecDepth 20000 in
theorem gL_law_X3_count : GoodIn wsL_law (wsV RL 148 RX3 yX3_count wsX3_count) := goodIn_app (goodIn_of _ (by decide +kernel)) ggL_law_X3_count
set_option maxRecDepth 20000 in
theorem ggL_law_L_ifPoured : GoodIn wsL_law wsL_ifPoured := goodIn_ca (goodIn_ca (goodIn_r _ [569, 61, 62, 570, 571, 572, 2, 573, 16, 158, 159, 160, 71, 72, 73, 74, 75, 76, 77, 187, 188, 189, 15, 190, 32, 191, 192, 193, 194, 574, 203, 204, 205, 206, 207, 208, 209, 210, 211, 212, 213, 575, 576, 577, 578, 202, 579, 215, 216, 217, 218, 219, 141, 220, 706, 707, 708, 709, 710, 711, 712, 713, 729] (by decide +kernel) (by decide +kernel)) (goodIn_sub (fun _ h => List.mem_append_left _ (List.mem_append_left _ (List.mem_append_right _ h))) (by decide +kernel))) (goodIn_sub (fun _ h => List.mem_append_left _ (List.mem_append_right _ h)) (by decide +kernel))
set_option maxRecDepth 20000 in
theorem gL_law_L_ifPoured : GoodIn wsL_law (va_wsS RL 149 yL_ifPoured wsL_ifPoured) := goodIn_app (goodIn_of _ (by decide +kernel)) ggL_law_L_ifPoured

set_option maxRecDepth 20000 in
theorem ggL_law_X3_ifPoured : GoodIn wsL_law wsX3_ifPoured := goodIn_r _ [583, 173, 174, 5, 175, 94, 95, 96, 100, 101, 102, 103, 104, 584, 585, 586, 587, 225, 226, 227, 228, 46, 54, 55, 56, 229, 230, 231, 232, 233, 234, 235, 236, 51, 52, 53, 241, 242, 243, 244, 245, 246, 247, 248, 249, 250, 251, 252, 253, 254, 255, 256, 257, 258, 259, 260, 261, 262, 263, 714, 715, 716, 717, 718, 719, 720, 721, 722, 723, 724, 725, 726, 727, 728] (by decide +kernel) (by decide +kernel)
set_option maxRecDepth 20000 in
theorem gL_law_X3_ifPoured : GoodIn wsL_law (wsV RL 151 RX3 yX3_ifPoured wsX3_ifPoured) := goodIn_app (goodIn_of _ (by decide +kernel)) ggL_law_X3_ifPoured
set_option maxRecDepth 20000 in
theorem ggL_law_L_emptyIn : GoodIn wsL_law wsL_emptyIn := goodIn_ca (goodIn_r _ [590, 61, 591, 592, 593, 2, 594, 18, 16, 67, 158, 159, 160, 71, 72, 82, 83, 84, 15, 85, 32, 86, 87, 88, 89, 290, 291, 292, 293, 294, 188, 189, 190, 191, 192, 193, 194, 295, 196, 197, 198, 199, 200, 141, 201, 202, 203, 204, 205, 206, 207, 208, 209, 210, 211, 212, 213, 214, 215, 216, 217, 218, 219, 220, 296, 272, 273, 274, 139, 140, 142, 595, 596, 597, 598, 599, 136, 137, 138, 706, 707, 708, 709, 710, 711, 712, 713, 729] (by decide +kernel) (by decide +kernel)) (goodIn_sub (fun _ h => List.mem_append_left _ (List.mem_append_left _ (List.mem_append_right _ h))) (by decide +kernel))
set_option maxRecDepth 20000 in
theorem gL_law_L_emptyIn : GoodIn wsL_law (va_wsS RL 152 yL_emptyIn wsL_emptyIn) := goodIn_app (goodIn_of _ (by decide +kernel)) ggL_law_L_emptyIn
set_option maxRecDepth 20000 in
theorem ggL_law_X3_emptyIn : GoodIn wsL_law wsX3_emptyIn := goodIn_r _ [603, 173, 174, 5, 175, 94, 95, 96, 100, 101, 102, 103, 104, 604, 605, 606, 607, 46, 608, 609, 610, 611, 47, 54, 55, 56, 301, 302, 303, 304, 229, 230, 231, 232, 225, 226, 227, 228, 233, 234, 235, 236, 51, 52, 53, 237, 238, 239, 240, 241, 242, 243, 244, 245, 246, 247, 248, 249, 250, 251, 252, 253, 254, 255, 256, 257, 258, 259, 260, 261, 262, 263, 279, 280, 281, 282, 147, 148, 149, 150, 612, 613, 614, 615, 714, 715, 716, 717, 718, 719, 720, 721, 722, 723, 724, 725, 726, 727, 728] (by decide +kernel) (by decide +kernel)
set_option maxRecDepth 20000 in
theorem gL_law_X3_emptyIn : GoodIn wsL_law (wsV RL 154 RX3 yX3_emptyIn wsX3_emptyIn) := goodIn_app (goodIn_of _ (by decide +kernel)) ggL_law_X3_emptyIn
set_option maxRecDepth 20000 in
theorem ggL_law_L_bestGuest : GoodIn wsL_law wsL_bestGuest := goodIn_ca (goodIn_r _ [618, 61, 619, 620, 621, 2, 622, 18, 16, 67, 158, 159, 160, 71, 72, 82, 83, 84, 15, 85, 32, 86, 87, 88, 89, 187, 188, 189, 190, 191, 192, 193, 194, 575, 576, 577, 578, 202, 203, 204, 205, 206, 207, 208, 209, 210, 211, 212, 213, 271, 272, 273, 274, 139, 140, 141, 142, 199, 200, 201, 706, 707, 708, 709, 710, 711, 712, 713, 729] (by decide +kernel) (by decide +kernel)) (goodIn_sub (fun _ h => List.mem_append_left _ (List.mem_append_left _ (List.mem_append_right _ h))) (by decide +kernel))
set_option maxRecDepth 20000 in
theorem gL_law_L_bestGuest : GoodIn wsL_law (va_wsS RL 155 yL_bestGuest wsL_bestGuest) := goodIn_app (goodIn_of _ (by decide +kernel)) ggL_law_L_bestGuest
set_option maxRecDepth 20000 in
theorem ggL_law_X3_bestGuest : GoodIn wsL_law wsX3_bestGuest := goodIn_r _ [626, 173, 174, 5, 175, 94, 95, 96, 100, 101, 102, 103, 104, 627, 628, 629, 630, 608, 609, 610, 611, 47, 46, 225, 226, 227, 228, 54, 55, 56, 229, 230, 231, 232, 233, 234, 235, 236, 51, 52, 53, 253, 254, 255, 256, 241, 242, 243, 244, 245, 246, 247, 248, 249, 250, 251, 252, 279, 280, 281, 282, 612, 613, 614, 615, 714, 715, 716, 717, 718, 719, 720, 721, 722, 723, 724, 725, 726, 727, 728] (by decide +kernel) (by decide +kernel)
set_option maxRecDepth 20000 in
theorem gL_law_X3_bestGuest : GoodIn wsL_law (wsV RL 157 RX3 yX3_bestGuest wsX3_bestGuest) := goodIn_app (goodIn_of _ (by decide +kernel)) ggL_law_X3_bestGuest
set_option maxRecDepth 20000 in
theorem ggL_law_X2_spiltShare : GoodIn wsL_law wsX2_spiltShare := goodIn_r _ [634, 16, 537, 538, 539, 15, 540, 429, 430, 431, 432, 32, 706, 707, 708, 709, 710, 711, 712, 713, 729] (by decide +kernel) (by decide +kernel)
set_option maxRecDepth 20000 in
theorem gL_law_X2_spiltShare : GoodIn wsL_law (wsV RL 158 RX2 yX2_spiltShare wsX2_spiltShare) := goodIn_app (goodIn_of _ (by decide +kernel)) ggL_law_X2_spiltShare
set_option maxRecDepth 20000 in
theorem ggL_law_X3_spiltShare : GoodIn wsL_law wsX3_spiltShare := goodIn_r _ [638, 104, 639, 640, 641, 5, 642, 563, 564, 565, 566, 46, 51, 52, 53, 714, 715, 716, 717, 718, 719, 720, 721, 722, 723, 724, 725, 726, 727, 728] (by decide +kernel) (by decide +kernel)
set_option maxRecDepth 20000 in
theorem gL_law_X3_spiltShare : GoodIn wsL_law (wsV RL 162 RX3 yX3_spiltShare wsX3_spiltShare) := goodIn_app (goodIn_of _ (by decide +kernel)) ggL_law_X3_spiltShare
set_option maxRecDepth 20000 in
theorem ggL_law_X2_meanTrust : GoodIn wsL_law wsX2_meanTrust := goodIn_r _ [646, 16, 647, 537, 538, 539, 15, 540, 429, 430, 431, 432, 32, 706, 707, 708, 709, 710, 711, 712, 713, 729] (by decide +kernel) (by decide +kernel)
set_option maxRecDepth 20000 in
theorem gL_law_X2_meanTrust : GoodIn wsL_law (wsV RL 163 RX2 yX2_meanTrust wsX2_meanTrust) := goodIn_app (goodIn_of _ (by decide +kernel)) ggL_law_X2_meanTrust
set_option maxRecDepth 20000 in
theorem ggL_law_X3_meanTrust : GoodIn wsL_law wsX3_meanTrust := goodIn_r _ [651, 104, 652, 653, 654, 5, 655, 656, 563, 564, 565, 566, 46, 51, 52, 53, 714, 715, 716, 717, 718, 719, 720, 721, 722, 723, 724, 725, 726, 727, 728] (by decide +kernel) (by decide +kernel)
set_option maxRecDepth 20000 in
theorem gL_law_X3_meanTrust : GoodIn wsL_law (wsV RL 167 RX3 yX3_meanTrust wsX3_meanTrust) := goodIn_app (goodIn_of _ (by decide +kernel)) ggL_law_X3_meanTrust

set_option maxRecDepth 20000 in
theorem ggL_law_X3_hand : GoodIn wsL_law wsX3_hand := goodIn_r _ [278, 173, 174, 5, 175, 94, 95, 96, 100, 101, 102, 103, 104, 105, 106, 107, 108, 109, 48, 46, 279, 280, 281, 282, 229, 230, 231, 232, 54, 55, 56, 245, 246, 247, 248, 51, 52, 53, 249, 250, 251, 252, 714, 715, 716, 717, 718, 719, 720, 721, 722, 723, 724, 725, 726, 727, 728] (by decide +kernel) (by decide +kernel)
set_option maxRecDepth 20000 in
theorem gL_law_X3_hand : GoodIn wsL_law (wsV RL 105 RX3 yX3_hand wsX3_hand) := goodIn_app (goodIn_of _ (by decide +kernel)) ggL_law_X3_hand
set_option maxRecDepth 20000 in
theorem ggL_law_L_round : GoodIn wsL_law wsL_round := goodIn_ca (goodIn_r _ [285, 61, 286, 287, 288, 2, 289, 16, 158, 159, 160, 71, 72, 78, 79, 80, 81, 25, 24, 19, 82, 83, 84, 15, 85, 32, 86, 87, 88, 89, 290, 291, 292, 293, 294, 188, 189, 190, 191, 192, 193, 194, 295, 196, 197, 198, 199, 200, 141, 201, 202, 203, 204, 205, 206, 207, 208, 209, 210, 211, 212, 213, 214, 215, 216, 217, 218, 219, 220, 296, 272, 273, 274, 139, 140, 142, 706, 707, 708, 709, 710, 711, 712, 713, 729] (by decide +kernel) (by decide +kernel)) (goodIn_sub (fun _ h => List.mem_append_left _ (List.mem_append_left _ (List.mem_append_right _ h))) (by decide +kernel))
set_option maxRecDepth 20000 in
theorem gL_law_L_round : GoodIn wsL_law (va_wsS RL 106 yL_round wsL_round) := goodIn_app (goodIn_of _ (by decide +kernel)) ggL_law_L_round
set_option maxRecDepth 20000 in
theorem ggL_law_X3_round : GoodIn wsL_law wsX3_round := goodIn_r _ [300, 173, 174, 5, 175, 94, 95, 96, 100, 101, 102, 103, 104, 105, 106, 107, 108, 109, 48, 46, 301, 302, 303, 304, 229, 230, 231, 232, 54, 55, 56, 225, 226, 227, 228, 233, 234, 235, 236, 51, 52, 53, 237, 238, 239, 240, 241, 242, 243, 244, 245, 246, 247, 248, 249, 250, 251, 252, 253, 254, 255, 256, 257, 258, 259, 260, 261, 262, 263, 279, 280, 281, 282, 714, 715, 716, 717, 718, 719, 720, 721, 722, 723, 724, 725, 726, 727, 728] (by decide +kernel) (by decide +kernel)
set_option maxRecDepth 20000 in
theorem gL_law_X3_round : GoodIn wsL_law (wsV RL 108 RX3 yX3_round wsX3_round) := goodIn_app (goodIn_of _ (by decide +kernel)) ggL_law_X3_round
set_option maxRecDepth 20000 in
theorem ggL_law_L_append : GoodIn wsL_law wsL_append := goodIn_ca (goodIn_ca (goodIn_r _ [307, 62, 117, 308, 309, 310, 2, 311, 122, 123, 23, 312, 73, 74, 75, 76, 77, 313, 314, 315, 22, 316, 36, 37, 706, 707, 708, 709, 710, 711, 712, 713, 730, 731, 732, 733, 734, 735] (by decide +kernel) (by decide +kernel)) (goodIn_sub (fun _ h => List.mem_append_right _ h) (by decide +kernel))) (goodIn_sub (fun _ h => List.mem_append_left _ (List.mem_append_right _ h)) (by decide +kernel))
set_option maxRecDepth 20000 in
theorem gL_law_L_append : GoodIn wsL_law (va_wsS RL 109 yL_append wsL_append) := goodIn_app (goodIn_of _ (by decide +kernel)) ggL_law_L_append
set_option maxRecDepth 20000 in
theorem ggL_law_X3_append : GoodIn wsL_law wsX3_append := goodIn_r _ [320, 321, 50, 94, 95, 5, 96, 100, 101, 102, 103, 104, 714, 715, 716, 717, 718, 719, 720, 721, 722, 723, 724, 725, 726, 727, 728] (by decide +kernel) (by decide +kernel)
set_option maxRecDepth 20000 in
theorem gL_law_X3_append : GoodIn wsL_law (wsV RL 111 RX3 yX3_append wsX3_append) := goodIn_app (goodIn_of _ (by decide +kernel)) ggL_law_X3_append
set_option maxRecDepth 20000 in
theorem ggL_law_X2_clearBuffer : GoodIn wsL_law wsX2_clearBuffer := goodIn_r _ [325, 23, 312, 706, 707, 708, 709, 710, 711, 712, 713, 730, 731, 732, 733, 734, 735] (by decide +kernel) (by decide +kernel)
set_option maxRecDepth 20000 in
theorem gL_law_X2_clearBuffer : GoodIn wsL_law (wsV RL 112 RX2 yX2_clearBuffer wsX2_clearBuffer) := goodIn_app (goodIn_of _ (by decide +kernel)) ggL_law_X2_clearBuffer
set_option maxRecDepth 20000 in
theorem ggL_law_X3_clearBuffer : GoodIn wsL_law wsX3_clearBuffer := goodIn_r _ [329, 104, 321, 714, 715, 716, 717, 718, 719, 720, 721, 722, 723, 724, 725, 726, 727, 728] (by decide +kernel) (by decide +kernel)
set_option maxRecDepth 20000 in
theorem gL_law_X3_clearBuffer : GoodIn wsL_law (wsV RL 115 RX3 yX3_clearBuffer wsX3_clearBuffer) := goodIn_app (goodIn_of _ (by decide +kernel)) ggL_law_X3_clearBuffer
set_option maxRecDepth 20000 in
theorem ggL_law_X2_firstError : GoodIn wsL_law wsX2_firstError := goodIn_r _ [333, 23, 334, 335, 336, 22, 337, 37, 36, 338, 339, 340, 341, 38, 342, 343, 344, 345, 346, 347, 348, 349, 39, 41, 350, 351, 352, 353, 40, 354, 355, 356, 357, 358, 359, 360, 361, 706, 707, 708, 709, 710, 711, 712, 713, 730, 731, 732, 733, 734, 735] (by decide +kernel) (by decide +kernel)
set_option maxRecDepth 20000 in
theorem gL_law_X2_firstError : GoodIn wsL_law (wsV RL 116 RX2 yX2_firstError wsX2_firstError) := goodIn_app (goodIn_of _ (by decide +kernel)) ggL_law_X2_firstError
set_option maxRecDepth 20000 in
theorem ggL_law_X3_firstError : GoodIn wsL_law wsX3_firstError := goodIn_r _ [365, 104, 366, 367, 321, 368, 369, 370, 5, 371, 372, 373, 374, 375, 50, 376, 377, 378, 379, 380, 381, 382, 383, 384, 385, 386, 94, 95, 96, 387, 388, 389, 390, 46, 54, 55, 56, 176, 177, 178, 179, 225, 226, 227, 228, 229, 230, 231, 232, 233, 234, 235, 236, 51, 52, 53, 237, 238, 239, 240, 241, 242, 243, 244, 245, 246, 247, 248, 249, 250, 251, 252, 253, 254, 255, 256, 257, 258, 259, 260, 261, 262, 263, 279, 280, 281, 282, 301, 302, 303, 304, 147, 148, 149, 150, 714, 715, 716, 717, 718, 719, 720, 721, 722, 723, 724, 725, 726, 727, 728] (by decide +kernel) (by decide +kernel)
set_option maxRecDepth 20000 in
theorem gL_law_X3_firstError : GoodIn wsL_law (wsV RL 119 RX3 yX3_firstError wsX3_firstError) := goodIn_app (goodIn_of _ (by decide +kernel)) ggL_law_X3_firstError
set_option maxRecDepth 20000 in
theorem ggL_law_L_run : GoodIn wsL_law wsL_run := goodIn_ca (goodIn_r _ [393, 62, 394, 395, 396, 2, 397, 76, 77, 23, 312, 398, 399, 400, 401, 402, 403, 404, 22, 405, 37, 38, 41, 406, 335, 336, 337, 36, 338, 339, 340, 341, 342, 343, 344, 345, 346, 347, 348, 349, 39, 350, 351, 352, 353, 40, 354, 355, 356, 357, 358, 359, 360, 361, 78, 79, 80, 81, 25, 24, 19, 16, 82, 83, 84, 15, 85, 32, 86, 87, 88, 89, 407, 408, 409, 410, 411, 412, 413, 414, 415, 416, 161, 162, 163, 164, 165, 166, 167, 168, 187, 188, 189, 190, 191, 192, 193, 194, 195, 196, 197, 198, 199, 200, 141, 201, 202, 203, 204, 205, 206, 207, 208, 209, 210, 211, 212, 213, 214, 215, 216, 217, 218, 219, 220, 271, 272, 273, 274, 139, 140, 142, 290, 291, 292, 293, 294, 295, 296, 135, 136, 137, 138, 706, 707, 708, 709, 710, 711, 712, 713, 730, 731, 732, 733, 734, 735, 729] (by decide +kernel) (by decide +kernel)) (goodIn_sub (fun _ h => List.mem_append_left _ (List.mem_append_right _ h)) (by decide +kernel))
set_option maxRecDepth 20000 in
theorem gL_law_L_run : GoodIn wsL_law (va_wsS RL 120 yL_run wsL_run) := goodIn_app (goodIn_of _ (by decide +kernel)) ggL_law_L_run
set_option maxRecDepth 20000 in
theorem ggL_law_X3_run : GoodIn wsL_law wsX3_run := goodIn_r _ [420, 366, 321, 368, 369, 370, 5, 371, 367, 372, 373, 374, 375, 50, 376, 377, 378, 379, 380, 381, 382, 383, 384, 385, 386, 94, 95, 96, 387, 388, 389, 390, 46, 54, 55, 56, 176, 177, 178, 179, 225, 226, 227, 228, 229, 230, 231, 232, 233, 234, 235, 236, 51, 52, 53, 237, 238, 239, 240, 241, 242, 243, 244, 245, 246, 247, 248, 249, 250, 251, 252, 253, 254, 255, 256, 257, 258, 259, 260, 261, 262, 263, 279, 280, 281, 282, 301, 302, 303, 304, 147, 148, 149, 150, 100, 101, 102, 103, 104, 105, 106, 107, 108, 109, 48, 714, 715, 716, 717, 718, 719, 720, 721, 722, 723, 724, 725, 726, 727, 728] (by decide +kernel) (by decide +kernel)
set_option maxRecDepth 20000 in
theorem gL_law_X3_run : GoodIn wsL_law (wsV RL 123 RX3 yX3_run wsX3_run) := goodIn_app (goodIn_of _ (by decide +kernel)) ggL_law_X3_run
set_option maxRecDepth 20000 in
theorem ggL_law_X2_keep : GoodIn wsL_law wsX2_keep := goodIn_r _ [424, 17, 16, 26, 82, 83, 84, 15, 85, 32, 86, 87, 88, 89, 425, 426, 427, 428, 429, 430, 431, 432, 706, 707, 708, 709, 710, 711, 712, 713, 729] (by decide +kernel) (by decide +kernel)
set_option maxRecDepth 20000 in
theorem gL_law_X2_keep : GoodIn wsL_law (wsV RL 124 RX2 yX2_keep wsX2_keep) := goodIn_app (goodIn_of _ (by decide +kernel)) ggL_law_X2_keep
set_option maxRecDepth 20000 in
theorem ggL_law_X3_keep : GoodIn wsL_law wsX3_keep := goodIn_r _ [436, 104, 49, 46, 437, 438, 439, 440, 5, 441, 54, 55, 56, 714, 715, 716, 717, 718, 719, 720, 721, 722, 723, 724, 725, 726, 727, 728] (by decide +kernel) (by decide +kernel)
set_option maxRecDepth 20000 in
theorem gL_law_X3_keep : GoodIn wsL_law (wsV RL 127 RX3 yX3_keep wsX3_keep) := goodIn_app (goodIn_of _ (by decide +kernel)) ggL_law_X3_keep
set_option maxRecDepth 20000 in
theorem ggL_law_L_goBack : GoodIn wsL_law wsL_goBack := goodIn_ca (goodIn_r _ [444, 117, 445, 446, 447, 2, 448, 122, 123, 26, 16, 17, 78, 79, 80, 81, 25, 24, 19, 82, 83, 84, 15, 85, 32, 86, 87, 88, 89, 425, 426, 427, 428, 429, 430, 431, 432, 706, 707, 708, 709, 710, 711, 712, 713, 729] (by decide +kernel) (by decide +kernel)) (goodIn_sub (fun _ h => List.mem_append_right _ h) (by decide +kernel))
set_option maxRecDepth 20000 in
theorem gL_law_L_goBack : GoodIn wsL_law (va_wsS RL 128 yL_goBack wsL_goBack) := goodIn_app (goodIn_of _ (by decide +kernel)) ggL_law_L_goBack

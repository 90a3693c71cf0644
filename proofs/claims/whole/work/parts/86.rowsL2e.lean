set_option maxRecDepth 20000 in
theorem gdX2_0 : GoodIn wsL_law [Cond.code yX2_digest cX2_digest 5 (some .long)] := goodIn_r _ [660] (by decide +kernel) (by decide +kernel)
set_option maxRecDepth 20000 in
theorem gdX2_1 : GoodIn wsL_law wsX2_digest_r1 := goodIn_r _ [661, 662, 16, 67, 663, 664, 26, 23, 312, 398, 665, 530, 531, 2, 532, 25, 73, 74, 75, 76, 77, 533, 534, 535] (by decide +kernel) (by decide +kernel)
set_option maxRecDepth 20000 in
theorem gdX2_2 : GoodIn wsL_law wsX2_digest_r2 := goodIn_r _ [15, 536, 429, 430, 431, 432, 32, 537, 538, 539, 540, 425, 426, 427, 428, 541, 542, 543, 544, 545, 546, 547, 548, 549] (by decide +kernel) (by decide +kernel)
set_option maxRecDepth 20000 in
theorem gdX2_3 : GoodIn wsL_law wsX2_digest_r3 := goodIn_r _ [550, 666, 468, 469, 470, 68, 69, 70, 71, 72, 471, 472, 473, 474, 667, 491, 492, 493, 158, 159, 160, 494, 211, 212] (by decide +kernel) (by decide +kernel)
set_option maxRecDepth 20000 in
theorem gdX2_4 : GoodIn wsL_law wsX2_digest_r4 := goodIn_r _ [213, 495, 207, 208, 209, 210, 187, 188, 189, 190, 191, 192, 193, 194, 668, 508, 509, 510, 669, 571, 572, 573, 574, 203] (by decide +kernel) (by decide +kernel)
set_option maxRecDepth 20000 in
theorem gdX2_5 : GoodIn wsL_law wsX2_digest_r5 := goodIn_r _ [204, 205, 206, 575, 576, 577, 578, 202, 579, 215, 216, 217, 218, 219, 141, 220, 670, 592, 593, 594, 18, 82, 83, 84] (by decide +kernel) (by decide +kernel)
set_option maxRecDepth 20000 in
theorem gdX2_6 : GoodIn wsL_law wsX2_digest_r6 := goodIn_r _ [85, 86, 87, 88, 89, 290, 291, 292, 293, 294, 295, 196, 197, 198, 199, 200, 201, 214, 296, 272, 273, 274, 139, 140] (by decide +kernel) (by decide +kernel)
set_option maxRecDepth 20000 in
theorem gdX2_7 : GoodIn wsL_law wsX2_digest_r7 := goodIn_r _ [142, 595, 596, 597, 598, 599, 136, 137, 138, 671, 620, 621, 622, 271, 672, 519, 520, 521, 673, 632, 633, 634, 674, 675] (by decide +kernel) (by decide +kernel)
set_option maxRecDepth 20000 in
theorem gdX2_8 : GoodIn wsL_law wsX2_digest_r8 := goodIn_r _ [676, 677, 678, 644, 645, 646, 647] (by decide +kernel) (by decide +kernel)
set_option maxRecDepth 20000 in
theorem gdX2_X20 : GoodIn wsL_law wsX20 := goodIn_r _ [706, 707, 708, 709, 710, 711, 712, 713] (by decide +kernel) (by decide +kernel)
set_option maxRecDepth 20000 in
theorem gdX2_X10 : GoodIn wsL_law wsX10 := goodIn_r _ [729] (by decide +kernel) (by decide +kernel)
set_option maxRecDepth 20000 in
theorem gdX2_X00 : GoodIn wsL_law wsX00 := goodIn_r _ [730, 731, 732, 733, 734, 735] (by decide +kernel) (by decide +kernel)
theorem ggL_law_X2_digest : GoodIn wsL_law wsX2_digest := fun w h => (List.mem_cons.mp h).elim (fun e => gdX2_0 w (by rw [e]; exact List.mem_cons_self)) (fun h => (goodIn_app (goodIn_app (goodIn_app (goodIn_app (goodIn_app (goodIn_app gdX2_1 (goodIn_app gdX2_2 (goodIn_app gdX2_3 (goodIn_app gdX2_4 (goodIn_app gdX2_5 (goodIn_app gdX2_6 (goodIn_app gdX2_7 gdX2_8))))))) gdX2_X20) gdX2_X10) gdX2_X00) (goodIn_sub (fun _ h => List.mem_append_left _ (List.mem_append_right _ h)) (by decide +kernel))) (goodIn_sub (fun _ h => List.mem_append_left _ (List.mem_append_left _ (List.mem_append_right _ h))) (by decide +kernel))) w h)
set_option maxRecDepth 20000 in
theorem gL_law_X2_digest : GoodIn wsL_law (wsV RL 168 RX2 yX2_digest wsX2_digest) := goodIn_app (goodIn_of _ (by decide +kernel)) ggL_law_X2_digest

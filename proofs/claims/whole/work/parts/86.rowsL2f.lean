set_option maxRecDepth 20000 in
theorem gdX3_0 : GoodIn wsL_law [Cond.code yX3_digest cX3_digest 2 (some .long)] := goodIn_r _ [682] (by decide +kernel) (by decide +kernel)
set_option maxRecDepth 20000 in
theorem gdX3_1 : GoodIn wsL_law wsX3_digest_r1 := goodIn_r _ [104, 683, 684, 46, 437, 321, 50, 555, 556, 557, 5, 558, 109, 559, 560, 561, 562, 54, 55, 56, 563, 564, 565, 566] (by decide +kernel) (by decide +kernel)
set_option maxRecDepth 20000 in
theorem gdX3_2 : GoodIn wsL_law wsX3_digest_r2 := goodIn_r _ [51, 52, 53, 438, 439, 440, 441, 685, 686, 687, 688, 689, 479, 480, 481, 482, 483, 484, 485, 486, 229, 230, 231, 232] (by decide +kernel) (by decide +kernel)
set_option maxRecDepth 20000 in
theorem gdX3_3 : GoodIn wsL_law wsX3_digest_r3 := goodIn_r _ [690, 691, 692, 693, 500, 501, 502, 503, 249, 250, 251, 252, 245, 246, 247, 248, 225, 226, 227, 228, 233, 234, 235, 236] (by decide +kernel) (by decide +kernel)
set_option maxRecDepth 20000 in
theorem gdX3_4 : GoodIn wsL_law wsX3_digest_r4 := goodIn_r _ [584, 585, 586, 587, 241, 242, 243, 244, 253, 254, 255, 256, 257, 258, 259, 260, 261, 262, 263, 604, 605, 606, 607, 608] (by decide +kernel) (by decide +kernel)
set_option maxRecDepth 20000 in
theorem gdX3_5 : GoodIn wsL_law wsX3_digest_r5 := goodIn_r _ [609, 610, 611, 47, 301, 302, 303, 304, 237, 238, 239, 240, 279, 280, 281, 282, 147, 148, 149, 150, 612, 613, 614, 615] (by decide +kernel) (by decide +kernel)
set_option maxRecDepth 20000 in
theorem gdX3_6 : GoodIn wsL_law wsX3_digest_r6 := goodIn_r _ [627, 628, 629, 630, 639, 640, 641, 642, 694, 695, 696, 697, 698, 699, 700, 652, 653, 654, 655, 656, 701, 702, 703, 704] (by decide +kernel) (by decide +kernel)
set_option maxRecDepth 20000 in
theorem gdX3_7 : GoodIn wsL_law wsX3_digest_r7 := goodIn_r _ [705] (by decide +kernel) (by decide +kernel)
set_option maxRecDepth 20000 in
theorem gdX3_X30 : GoodIn wsL_law wsX30 := goodIn_r _ [714, 715, 716, 717, 718, 719, 720, 721, 722, 723, 724, 725, 726, 727, 728] (by decide +kernel) (by decide +kernel)
theorem ggL_law_X3_digest : GoodIn wsL_law wsX3_digest := fun w h => (List.mem_cons.mp h).elim (fun e => gdX3_0 w (by rw [e]; exact List.mem_cons_self)) (fun h => (goodIn_app (goodIn_app gdX3_1 (goodIn_app gdX3_2 (goodIn_app gdX3_3 (goodIn_app gdX3_4 (goodIn_app gdX3_5 (goodIn_app gdX3_6 gdX3_7)))))) gdX3_X30) w h)
set_option maxRecDepth 20000 in
theorem gL_law_X3_digest : GoodIn wsL_law (wsV RL 172 RX3 yX3_digest wsX3_digest) := goodIn_app (goodIn_of _ (by decide +kernel)) ggL_law_X3_digest

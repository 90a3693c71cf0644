set_option maxRecDepth 20000 in
theorem ggL_like_X2_like : GoodIn wsL_like wsX2_like := goodIn_ca (goodIn_ca (goodIn_r _ [7, 8, 9, 10, 11, 6, 12, 13, 14, 15, 16, 17, 18, 19, 20, 21, 22, 23, 24, 25, 26, 27, 28, 29, 30, 31, 32, 33, 34, 35, 36, 37, 38, 39, 40, 41, 42, 43, 44, 45] (by decide +kernel) (by decide +kernel)) (goodIn_sub (fun _ h => List.mem_cons_of_mem _ (List.mem_append_left _ (List.mem_append_right _ h))) (by decide +kernel))) (goodIn_sub (fun _ h => List.mem_cons_of_mem _ (List.mem_append_right _ h)) (by decide +kernel))
set_option maxRecDepth 20000 in
theorem gL_like_X2_like : GoodIn wsL_like (wsV RL 7 RX2 yX2_like wsX2_like) := goodIn_app (goodIn_of _ (by decide +kernel)) ggL_like_X2_like
theorem dL_like_0 : decode cL_like 0 = .ok (.aload 5, 2) := by decide +kernel
theorem dL_like_2 : decode cL_like 2 = .ok (.iconst 0, 1) := by decide +kernel
theorem dL_like_3 : decode cL_like 3 = .ok (.aload_n 0, 1) := by decide +kernel
theorem dL_like_4 : decode cL_like 4 = .ok (.iload_n 1, 1) := by decide +kernel
theorem dL_like_5 : decode cL_like 5 = .ok (.iload_n 2, 1) := by decide +kernel
theorem dL_like_6 : decode cL_like 6 = .ok (.iload_n 3, 1) := by decide +kernel
theorem dL_like_7 : decode cL_like 7 = .ok (.iload 4, 2) := by decide +kernel
theorem dL_like_9 : decode cL_like 9 = .ok (.invokevirtual 7, 3) := by decide +kernel
theorem dL_like_12 : decode cL_like 12 = .ok (.i2l, 1) := by decide +kernel
theorem dL_like_13 : decode cL_like 13 = .ok (.lastore, 1) := by decide +kernel
theorem dL_like_14 : decode cL_like 14 = .ok (.goto 11, 3) := by decide +kernel
theorem dL_like_17 : decode cL_like 17 = .ok (.astore 6, 2) := by decide +kernel
theorem dL_like_19 : decode cL_like 19 = .ok (.iconst 1, 1) := by decide +kernel
theorem dL_like_20 : decode cL_like 20 = .ok (.ireturn, 1) := by decide +kernel
theorem dL_like_21 : decode cL_like 21 = .ok (.astore 6, 2) := by decide +kernel
theorem dL_like_23 : decode cL_like 23 = .ok (.iconst 2, 1) := by decide +kernel
theorem dL_like_24 : decode cL_like 24 = .ok (.ireturn, 1) := by decide +kernel
theorem dL_like_25 : decode cL_like 25 = .ok (.iconst 0, 1) := by decide +kernel
theorem dL_like_26 : decode cL_like 26 = .ok (.ireturn, 1) := by decide +kernel
set_option maxRecDepth 20000 in
theorem ggL_cup_X2_cup : GoodIn wsL_cup wsX2_cup := goodIn_ca (goodIn_ca (goodIn_ca (goodIn_r _ [8, 9, 10, 11, 12, 13, 14, 7, 15, 16, 17, 18, 19, 20, 21, 22, 23, 24, 25, 26, 27, 28, 29, 30, 31, 32, 33, 34, 35, 36, 37, 38, 39, 40, 41, 42, 43, 44, 45, 46, 47, 48] (by decide +kernel) (by decide +kernel)) (goodIn_sub (fun _ h => List.mem_cons_of_mem _ (List.mem_append_left _ (List.mem_append_left _ (List.mem_append_right _ h)))) (by decide +kernel))) (goodIn_sub (fun _ h => List.mem_cons_of_mem _ (List.mem_append_left _ (List.mem_append_right _ h))) (by decide +kernel))) (goodIn_sub (fun _ h => List.mem_cons_of_mem _ (List.mem_append_right _ h)) (by decide +kernel))
set_option maxRecDepth 20000 in
theorem gL_cup_X2_cup : GoodIn wsL_cup (wsV RL 17 RX2 yX2_cup wsX2_cup) := goodIn_app (goodIn_of _ (by decide +kernel)) ggL_cup_X2_cup
theorem dL_cup_0 : decode cL_cup 0 = .ok (.aload_n 3, 1) := by decide +kernel
theorem dL_cup_1 : decode cL_cup 1 = .ok (.iconst 0, 1) := by decide +kernel
theorem dL_cup_2 : decode cL_cup 2 = .ok (.aload_n 0, 1) := by decide +kernel
theorem dL_cup_3 : decode cL_cup 3 = .ok (.iload_n 1, 1) := by decide +kernel
theorem dL_cup_4 : decode cL_cup 4 = .ok (.iload_n 2, 1) := by decide +kernel
theorem dL_cup_5 : decode cL_cup 5 = .ok (.invokevirtual 17, 3) := by decide +kernel
theorem dL_cup_8 : decode cL_cup 8 = .ok (.i2l, 1) := by decide +kernel
theorem dL_cup_9 : decode cL_cup 9 = .ok (.lastore, 1) := by decide +kernel
theorem dL_cup_10 : decode cL_cup 10 = .ok (.goto 15, 3) := by decide +kernel
theorem dL_cup_13 : decode cL_cup 13 = .ok (.astore 4, 2) := by decide +kernel
theorem dL_cup_15 : decode cL_cup 15 = .ok (.iconst 1, 1) := by decide +kernel
theorem dL_cup_16 : decode cL_cup 16 = .ok (.ireturn, 1) := by decide +kernel
theorem dL_cup_17 : decode cL_cup 17 = .ok (.astore 4, 2) := by decide +kernel
theorem dL_cup_19 : decode cL_cup 19 = .ok (.iconst 2, 1) := by decide +kernel
theorem dL_cup_20 : decode cL_cup 20 = .ok (.ireturn, 1) := by decide +kernel
theorem dL_cup_21 : decode cL_cup 21 = .ok (.astore 4, 2) := by decide +kernel
theorem dL_cup_23 : decode cL_cup 23 = .ok (.iconst 3, 1) := by decide +kernel
theorem dL_cup_24 : decode cL_cup 24 = .ok (.ireturn, 1) := by decide +kernel
theorem dL_cup_25 : decode cL_cup 25 = .ok (.iconst 0, 1) := by decide +kernel
theorem dL_cup_26 : decode cL_cup 26 = .ok (.ireturn, 1) := by decide +kernel
set_option maxRecDepth 20000 in
theorem ggL_sip_X2_sip : GoodIn wsL_sip wsX2_sip := goodIn_ca (goodIn_r _ [6, 7, 8, 9, 5, 10, 11, 12, 13, 14, 15, 16, 17, 18, 19, 20, 21, 22, 23, 24, 25, 26, 27, 28, 29, 30, 31, 32, 33, 34, 35, 36, 37, 38, 39, 40, 41, 42, 43, 44, 45, 46] (by decide +kernel) (by decide +kernel)) (goodIn_sub (fun _ h => List.mem_cons_of_mem _ (List.mem_append_right _ h)) (by decide +kernel))
set_option maxRecDepth 20000 in
theorem gL_sip_X2_sip : GoodIn wsL_sip (wsV RL 23 RX2 yX2_sip wsX2_sip) := goodIn_app (goodIn_of _ (by decide +kernel)) ggL_sip_X2_sip
theorem dL_sip_0 : decode cL_sip 0 = .ok (.aload_n 2, 1) := by decide +kernel
theorem dL_sip_1 : decode cL_sip 1 = .ok (.iconst 0, 1) := by decide +kernel
theorem dL_sip_2 : decode cL_sip 2 = .ok (.aload_n 0, 1) := by decide +kernel
theorem dL_sip_3 : decode cL_sip 3 = .ok (.iload_n 1, 1) := by decide +kernel
theorem dL_sip_4 : decode cL_sip 4 = .ok (.invokevirtual 23, 3) := by decide +kernel
theorem dL_sip_7 : decode cL_sip 7 = .ok (.i2l, 1) := by decide +kernel
theorem dL_sip_8 : decode cL_sip 8 = .ok (.lastore, 1) := by decide +kernel
theorem dL_sip_9 : decode cL_sip 9 = .ok (.goto 6, 3) := by decide +kernel
theorem dL_sip_12 : decode cL_sip 12 = .ok (.astore_n 3, 1) := by decide +kernel
theorem dL_sip_13 : decode cL_sip 13 = .ok (.iconst 1, 1) := by decide +kernel
theorem dL_sip_14 : decode cL_sip 14 = .ok (.ireturn, 1) := by decide +kernel
theorem dL_sip_15 : decode cL_sip 15 = .ok (.iconst 0, 1) := by decide +kernel
theorem dL_sip_16 : decode cL_sip 16 = .ok (.ireturn, 1) := by decide +kernel
set_option maxRecDepth 20000 in
theorem ggL_brew_X2_brew : GoodIn wsL_brew wsX2_brew := goodIn_ca (goodIn_ca (goodIn_ca (goodIn_r _ [8, 9, 10, 11, 12, 13, 7, 14, 15, 16, 17, 18, 19, 20, 21, 22, 23, 24, 25, 26, 27, 28, 29, 30, 31, 32, 33, 34, 35, 36, 37, 38, 39, 40, 41, 42, 43, 44, 45, 46, 47, 48, 49, 50, 51, 52, 53, 54, 55] (by decide +kernel) (by decide +kernel)) (goodIn_sub (fun _ h => List.mem_cons_of_mem _ (List.mem_append_left _ (List.mem_append_left _ (List.mem_append_right _ h)))) (by decide +kernel))) (goodIn_sub (fun _ h => List.mem_cons_of_mem _ (List.mem_append_left _ (List.mem_append_right _ h))) (by decide +kernel))) (goodIn_sub (fun _ h => List.mem_cons_of_mem _ (List.mem_append_right _ h)) (by decide +kernel))
set_option maxRecDepth 20000 in
theorem gL_brew_X2_brew : GoodIn wsL_brew (wsV RL 27 RX2 yX2_brew wsX2_brew) := goodIn_app (goodIn_of _ (by decide +kernel)) ggL_brew_X2_brew
theorem dL_brew_0 : decode cL_brew 0 = .ok (.aload_n 3, 1) := by decide +kernel
theorem dL_brew_1 : decode cL_brew 1 = .ok (.iconst 0, 1) := by decide +kernel
theorem dL_brew_2 : decode cL_brew 2 = .ok (.aload_n 0, 1) := by decide +kernel
theorem dL_brew_3 : decode cL_brew 3 = .ok (.iload_n 1, 1) := by decide +kernel
theorem dL_brew_4 : decode cL_brew 4 = .ok (.iload_n 2, 1) := by decide +kernel
theorem dL_brew_5 : decode cL_brew 5 = .ok (.invokevirtual 27, 3) := by decide +kernel
theorem dL_brew_8 : decode cL_brew 8 = .ok (.i2l, 1) := by decide +kernel
theorem dL_brew_9 : decode cL_brew 9 = .ok (.lastore, 1) := by decide +kernel
theorem dL_brew_10 : decode cL_brew 10 = .ok (.goto 15, 3) := by decide +kernel
theorem dL_brew_13 : decode cL_brew 13 = .ok (.astore 4, 2) := by decide +kernel
theorem dL_brew_15 : decode cL_brew 15 = .ok (.iconst 1, 1) := by decide +kernel
theorem dL_brew_16 : decode cL_brew 16 = .ok (.ireturn, 1) := by decide +kernel
theorem dL_brew_17 : decode cL_brew 17 = .ok (.astore 4, 2) := by decide +kernel
theorem dL_brew_19 : decode cL_brew 19 = .ok (.iconst 2, 1) := by decide +kernel
theorem dL_brew_20 : decode cL_brew 20 = .ok (.ireturn, 1) := by decide +kernel
theorem dL_brew_21 : decode cL_brew 21 = .ok (.astore 4, 2) := by decide +kernel
theorem dL_brew_23 : decode cL_brew 23 = .ok (.iconst 3, 1) := by decide +kernel
theorem dL_brew_24 : decode cL_brew 24 = .ok (.ireturn, 1) := by decide +kernel
theorem dL_brew_25 : decode cL_brew 25 = .ok (.iconst 0, 1) := by decide +kernel
theorem dL_brew_26 : decode cL_brew 26 = .ok (.ireturn, 1) := by decide +kernel
set_option maxRecDepth 20000 in
theorem ggL_pour_X2_pour : GoodIn wsL_pour wsX2_pour := goodIn_ca (goodIn_ca (goodIn_r _ [7, 8, 9, 10, 11, 12, 6, 13, 14, 15, 16, 17, 18, 19, 20, 21, 22, 23, 24, 25, 26, 27, 28, 29, 30, 31, 32, 33, 34, 35, 36, 37, 38, 39, 40, 41, 42, 43, 44, 45, 46, 47, 48, 49, 50, 51, 52, 53, 54, 55, 56, 57, 58, 59, 60, 61, 62, 63, 64, 65, 66, 67, 68, 69, 70, 71, 72, 73, 74, 75, 76] (by decide +kernel) (by decide +kernel)) (goodIn_sub (fun _ h => List.mem_cons_of_mem _ (List.mem_append_left _ (List.mem_append_right _ h))) (by decide +kernel))) (goodIn_sub (fun _ h => List.mem_cons_of_mem _ (List.mem_append_right _ h)) (by decide +kernel))
set_option maxRecDepth 20000 in
theorem gL_pour_X2_pour : GoodIn wsL_pour (wsV RL 30 RX2 yX2_pour wsX2_pour) := goodIn_app (goodIn_of _ (by decide +kernel)) ggL_pour_X2_pour
theorem dL_pour_0 : decode cL_pour 0 = .ok (.aload_n 2, 1) := by decide +kernel
theorem dL_pour_1 : decode cL_pour 1 = .ok (.iconst 0, 1) := by decide +kernel
theorem dL_pour_2 : decode cL_pour 2 = .ok (.aload_n 0, 1) := by decide +kernel
theorem dL_pour_3 : decode cL_pour 3 = .ok (.iload_n 1, 1) := by decide +kernel
theorem dL_pour_4 : decode cL_pour 4 = .ok (.invokevirtual 30, 3) := by decide +kernel
theorem dL_pour_7 : decode cL_pour 7 = .ok (.i2l, 1) := by decide +kernel
theorem dL_pour_8 : decode cL_pour 8 = .ok (.lastore, 1) := by decide +kernel
theorem dL_pour_9 : decode cL_pour 9 = .ok (.goto 9, 3) := by decide +kernel
theorem dL_pour_12 : decode cL_pour 12 = .ok (.astore_n 3, 1) := by decide +kernel
theorem dL_pour_13 : decode cL_pour 13 = .ok (.iconst 1, 1) := by decide +kernel
theorem dL_pour_14 : decode cL_pour 14 = .ok (.ireturn, 1) := by decide +kernel
theorem dL_pour_15 : decode cL_pour 15 = .ok (.astore_n 3, 1) := by decide +kernel
theorem dL_pour_16 : decode cL_pour 16 = .ok (.iconst 2, 1) := by decide +kernel
theorem dL_pour_17 : decode cL_pour 17 = .ok (.ireturn, 1) := by decide +kernel
theorem dL_pour_18 : decode cL_pour 18 = .ok (.iconst 0, 1) := by decide +kernel
theorem dL_pour_19 : decode cL_pour 19 = .ok (.ireturn, 1) := by decide +kernel
set_option maxRecDepth 20000 in
theorem ggL_hand_X2_hand : GoodIn wsL_hand wsX2_hand := goodIn_ca (goodIn_ca (goodIn_r _ [7, 8, 9, 10, 6, 11, 12, 13, 14, 15, 16, 17, 18, 19, 20, 21, 22, 23, 24, 25, 26, 27, 28, 29, 30, 31, 32, 33, 34, 35, 36, 37, 38, 39, 40, 41, 42, 43, 44, 45, 46, 47, 48, 49, 50, 51, 52, 53, 54, 55, 56, 57, 58, 59, 60, 61, 62, 63] (by decide +kernel) (by decide +kernel)) (goodIn_sub (fun _ h => List.mem_cons_of_mem _ (List.mem_append_left _ (List.mem_append_right _ h))) (by decide +kernel))) (goodIn_sub (fun _ h => List.mem_cons_of_mem _ (List.mem_append_right _ h)) (by decide +kernel))
set_option maxRecDepth 20000 in
theorem gL_hand_X2_hand : GoodIn wsL_hand (wsV RL 33 RX2 yX2_hand wsX2_hand) := goodIn_app (goodIn_of _ (by decide +kernel)) ggL_hand_X2_hand
theorem dL_hand_0 : decode cL_hand 0 = .ok (.aload_n 3, 1) := by decide +kernel
theorem dL_hand_1 : decode cL_hand 1 = .ok (.iconst 0, 1) := by decide +kernel
theorem dL_hand_2 : decode cL_hand 2 = .ok (.aload_n 0, 1) := by decide +kernel
theorem dL_hand_3 : decode cL_hand 3 = .ok (.iload_n 1, 1) := by decide +kernel
theorem dL_hand_4 : decode cL_hand 4 = .ok (.iload_n 2, 1) := by decide +kernel
theorem dL_hand_5 : decode cL_hand 5 = .ok (.invokevirtual 33, 3) := by decide +kernel
theorem dL_hand_8 : decode cL_hand 8 = .ok (.i2l, 1) := by decide +kernel
theorem dL_hand_9 : decode cL_hand 9 = .ok (.lastore, 1) := by decide +kernel
theorem dL_hand_10 : decode cL_hand 10 = .ok (.goto 11, 3) := by decide +kernel
theorem dL_hand_13 : decode cL_hand 13 = .ok (.astore 4, 2) := by decide +kernel
theorem dL_hand_15 : decode cL_hand 15 = .ok (.iconst 1, 1) := by decide +kernel
theorem dL_hand_16 : decode cL_hand 16 = .ok (.ireturn, 1) := by decide +kernel
theorem dL_hand_17 : decode cL_hand 17 = .ok (.astore 4, 2) := by decide +kernel
theorem dL_hand_19 : decode cL_hand 19 = .ok (.iconst 2, 1) := by decide +kernel
theorem dL_hand_20 : decode cL_hand 20 = .ok (.ireturn, 1) := by decide +kernel
theorem dL_hand_21 : decode cL_hand 21 = .ok (.iconst 0, 1) := by decide +kernel
theorem dL_hand_22 : decode cL_hand 22 = .ok (.ireturn, 1) := by decide +kernel
set_option maxRecDepth 20000 in
theorem ggL_round_X2_round : GoodIn wsL_round wsX2_round := goodIn_ca (goodIn_r _ [6, 7, 8, 9, 5, 10, 11, 12, 13, 14, 15, 16, 17, 18, 19, 20, 21, 22, 23, 24, 25, 26, 27, 28, 29, 30, 31, 32, 33, 34, 35, 36, 37, 38, 39, 40, 41, 42, 43, 44, 45, 46, 47, 48, 49, 50, 51, 52, 53, 54, 55, 56, 57, 58, 59, 60, 61, 62, 63, 64, 65, 66, 67, 68, 69, 70, 71, 72, 73, 74, 75, 76, 77, 78, 79, 80, 81, 82, 83, 84] (by decide +kernel) (by decide +kernel)) (goodIn_sub (fun _ h => List.mem_cons_of_mem _ (List.mem_append_right _ h)) (by decide +kernel))
set_option maxRecDepth 20000 in
theorem gL_round_X2_round : GoodIn wsL_round (wsV RL 36 RX2 yX2_round wsX2_round) := goodIn_app (goodIn_of _ (by decide +kernel)) ggL_round_X2_round
theorem dL_round_0 : decode cL_round 0 = .ok (.aload_n 2, 1) := by decide +kernel
theorem dL_round_1 : decode cL_round 1 = .ok (.iconst 0, 1) := by decide +kernel
theorem dL_round_2 : decode cL_round 2 = .ok (.aload_n 0, 1) := by decide +kernel
theorem dL_round_3 : decode cL_round 3 = .ok (.iload_n 1, 1) := by decide +kernel
theorem dL_round_4 : decode cL_round 4 = .ok (.invokevirtual 36, 3) := by decide +kernel
theorem dL_round_7 : decode cL_round 7 = .ok (.i2l, 1) := by decide +kernel
theorem dL_round_8 : decode cL_round 8 = .ok (.lastore, 1) := by decide +kernel
theorem dL_round_9 : decode cL_round 9 = .ok (.goto 6, 3) := by decide +kernel
theorem dL_round_12 : decode cL_round 12 = .ok (.astore_n 3, 1) := by decide +kernel
theorem dL_round_13 : decode cL_round 13 = .ok (.iconst 1, 1) := by decide +kernel
theorem dL_round_14 : decode cL_round 14 = .ok (.ireturn, 1) := by decide +kernel
theorem dL_round_15 : decode cL_round 15 = .ok (.iconst 0, 1) := by decide +kernel
theorem dL_round_16 : decode cL_round 16 = .ok (.ireturn, 1) := by decide +kernel
set_option maxRecDepth 20000 in
theorem ggL_append_X2_append : GoodIn wsL_append wsX2_append := goodIn_ca (goodIn_ca (goodIn_r _ [7, 8, 9, 10, 11, 12, 13, 6, 14, 15, 16, 17, 18, 19, 20, 21, 22, 23, 24, 25, 26, 27, 28, 29, 30, 31, 32, 33, 34, 35, 36, 37] (by decide +kernel) (by decide +kernel)) (goodIn_sub (fun _ h => List.mem_cons_of_mem _ (List.mem_append_left _ (List.mem_append_right _ h))) (by decide +kernel))) (goodIn_sub (fun _ h => List.mem_cons_of_mem _ (List.mem_append_right _ h)) (by decide +kernel))
set_option maxRecDepth 20000 in
theorem gL_append_X2_append : GoodIn wsL_append (wsV RL 39 RX2 yX2_append wsX2_append) := goodIn_app (goodIn_of _ (by decide +kernel)) ggL_append_X2_append
theorem dL_append_0 : decode cL_append 0 = .ok (.aload_n 2, 1) := by decide +kernel
theorem dL_append_1 : decode cL_append 1 = .ok (.iconst 0, 1) := by decide +kernel
theorem dL_append_2 : decode cL_append 2 = .ok (.aload_n 0, 1) := by decide +kernel
theorem dL_append_3 : decode cL_append 3 = .ok (.iload_n 1, 1) := by decide +kernel
theorem dL_append_4 : decode cL_append 4 = .ok (.invokevirtual 39, 3) := by decide +kernel
theorem dL_append_7 : decode cL_append 7 = .ok (.i2l, 1) := by decide +kernel
theorem dL_append_8 : decode cL_append 8 = .ok (.lastore, 1) := by decide +kernel
theorem dL_append_9 : decode cL_append 9 = .ok (.goto 9, 3) := by decide +kernel
theorem dL_append_12 : decode cL_append 12 = .ok (.astore_n 3, 1) := by decide +kernel
theorem dL_append_13 : decode cL_append 13 = .ok (.iconst 1, 1) := by decide +kernel
theorem dL_append_14 : decode cL_append 14 = .ok (.ireturn, 1) := by decide +kernel
theorem dL_append_15 : decode cL_append 15 = .ok (.astore_n 3, 1) := by decide +kernel
theorem dL_append_16 : decode cL_append 16 = .ok (.iconst 2, 1) := by decide +kernel
theorem dL_append_17 : decode cL_append 17 = .ok (.ireturn, 1) := by decide +kernel
theorem dL_append_18 : decode cL_append 18 = .ok (.iconst 0, 1) := by decide +kernel
theorem dL_append_19 : decode cL_append 19 = .ok (.ireturn, 1) := by decide +kernel
set_option maxRecDepth 20000 in
theorem ggL_run_X2_run : GoodIn wsL_run wsX2_run := goodIn_ca (goodIn_r _ [6, 7, 8, 9, 10, 11, 12, 13, 14, 15, 16, 17, 18, 19, 20, 21, 22, 23, 24, 25, 26, 27, 28, 29, 30, 31, 32, 33, 34, 35, 36, 37, 38, 39, 40, 41, 42, 43, 44, 45, 46, 47, 48, 49, 50, 51, 52, 53, 54, 55, 56, 5, 57, 58, 59, 60, 61, 62, 63, 64, 65, 66, 67, 68, 69, 70, 71, 72, 73, 74, 75, 76, 77, 78, 79, 80, 81, 82, 83, 84, 85, 86, 87, 88, 89, 90, 91, 92, 93, 94, 95, 96, 97, 98, 99, 100, 101, 102, 103, 104, 105, 106, 107, 108, 109, 110, 111, 112, 113, 114, 115, 116, 117, 118, 119, 120, 121, 122, 123, 124, 125, 126, 127, 128, 129, 130, 131, 132, 133, 134, 135, 136, 137, 138, 139, 140, 141, 142, 143, 144, 145, 146, 147, 148, 149, 150, 151, 152, 153, 154, 155, 156, 157] (by decide +kernel) (by decide +kernel)) (goodIn_sub (fun _ h => List.mem_cons_of_mem _ (List.mem_append_right _ h)) (by decide +kernel))
set_option maxRecDepth 20000 in
theorem gL_run_X2_run : GoodIn wsL_run (wsV RL 42 RX2 yX2_run wsX2_run) := goodIn_app (goodIn_of _ (by decide +kernel)) ggL_run_X2_run
theorem dL_run_0 : decode cL_run 0 = .ok (.aload_n 1, 1) := by decide +kernel
theorem dL_run_1 : decode cL_run 1 = .ok (.iconst 0, 1) := by decide +kernel
theorem dL_run_2 : decode cL_run 2 = .ok (.aload_n 0, 1) := by decide +kernel
theorem dL_run_3 : decode cL_run 3 = .ok (.invokevirtual 42, 3) := by decide +kernel
theorem dL_run_6 : decode cL_run 6 = .ok (.i2l, 1) := by decide +kernel
theorem dL_run_7 : decode cL_run 7 = .ok (.lastore, 1) := by decide +kernel
theorem dL_run_8 : decode cL_run 8 = .ok (.goto 6, 3) := by decide +kernel
theorem dL_run_11 : decode cL_run 11 = .ok (.astore_n 2, 1) := by decide +kernel
theorem dL_run_12 : decode cL_run 12 = .ok (.iconst 1, 1) := by decide +kernel
theorem dL_run_13 : decode cL_run 13 = .ok (.ireturn, 1) := by decide +kernel
theorem dL_run_14 : decode cL_run 14 = .ok (.iconst 0, 1) := by decide +kernel
theorem dL_run_15 : decode cL_run 15 = .ok (.ireturn, 1) := by decide +kernel
set_option maxRecDepth 20000 in
theorem ggL_goBack_X2_goBack : GoodIn wsL_goBack wsX2_goBack := goodIn_ca (goodIn_r _ [6, 7, 8, 9, 10, 11, 12, 13, 14, 5, 15, 16, 17, 18, 19, 20, 21, 22, 23, 24, 25, 26, 27, 28, 29, 30, 31, 32, 33, 34, 35, 36, 37, 38, 39, 40, 41, 42, 43, 44, 45] (by decide +kernel) (by decide +kernel)) (goodIn_sub (fun _ h => List.mem_cons_of_mem _ (List.mem_append_right _ h)) (by decide +kernel))
set_option maxRecDepth 20000 in
theorem gL_goBack_X2_goBack : GoodIn wsL_goBack (wsV RL 46 RX2 yX2_goBack wsX2_goBack) := goodIn_app (goodIn_of _ (by decide +kernel)) ggL_goBack_X2_goBack
theorem dL_goBack_0 : decode cL_goBack 0 = .ok (.aload_n 1, 1) := by decide +kernel
theorem dL_goBack_1 : decode cL_goBack 1 = .ok (.iconst 0, 1) := by decide +kernel
theorem dL_goBack_2 : decode cL_goBack 2 = .ok (.aload_n 0, 1) := by decide +kernel
theorem dL_goBack_3 : decode cL_goBack 3 = .ok (.invokevirtual 46, 3) := by decide +kernel
theorem dL_goBack_6 : decode cL_goBack 6 = .ok (.i2l, 1) := by decide +kernel
theorem dL_goBack_7 : decode cL_goBack 7 = .ok (.lastore, 1) := by decide +kernel
theorem dL_goBack_8 : decode cL_goBack 8 = .ok (.goto 6, 3) := by decide +kernel
theorem dL_goBack_11 : decode cL_goBack 11 = .ok (.astore_n 2, 1) := by decide +kernel
theorem dL_goBack_12 : decode cL_goBack 12 = .ok (.iconst 1, 1) := by decide +kernel
theorem dL_goBack_13 : decode cL_goBack 13 = .ok (.ireturn, 1) := by decide +kernel
theorem dL_goBack_14 : decode cL_goBack 14 = .ok (.iconst 0, 1) := by decide +kernel
theorem dL_goBack_15 : decode cL_goBack 15 = .ok (.ireturn, 1) := by decide +kernel
set_option maxRecDepth 20000 in
theorem ggL_undo_X2_undo : GoodIn wsL_undo wsX2_undo := goodIn_ca (goodIn_r _ [6, 7, 8, 9, 10, 11, 12, 13, 14, 15, 16, 17, 18, 19, 20, 21, 22, 23, 24, 25, 26, 27, 28, 29, 30, 31] (by decide +kernel) (by decide +kernel)) (goodIn_sub (fun _ h => List.mem_cons_of_mem _ (List.mem_append_right _ h)) (by decide +kernel))
set_option maxRecDepth 20000 in
theorem gL_undo_X2_undo : GoodIn wsL_undo (wsV RL 49 RX2 yX2_undo wsX2_undo) := goodIn_app (goodIn_of _ (by decide +kernel)) ggL_undo_X2_undo
theorem dL_undo_0 : decode cL_undo 0 = .ok (.aload_n 1, 1) := by decide +kernel
theorem dL_undo_1 : decode cL_undo 1 = .ok (.iconst 0, 1) := by decide +kernel
theorem dL_undo_2 : decode cL_undo 2 = .ok (.aload_n 0, 1) := by decide +kernel
theorem dL_undo_3 : decode cL_undo 3 = .ok (.invokevirtual 49, 3) := by decide +kernel
theorem dL_undo_6 : decode cL_undo 6 = .ok (.i2l, 1) := by decide +kernel
theorem dL_undo_7 : decode cL_undo 7 = .ok (.lastore, 1) := by decide +kernel
theorem dL_undo_8 : decode cL_undo 8 = .ok (.goto 6, 3) := by decide +kernel
theorem dL_undo_11 : decode cL_undo 11 = .ok (.astore_n 2, 1) := by decide +kernel
theorem dL_undo_12 : decode cL_undo 12 = .ok (.iconst 1, 1) := by decide +kernel
theorem dL_undo_13 : decode cL_undo 13 = .ok (.ireturn, 1) := by decide +kernel
theorem dL_undo_14 : decode cL_undo 14 = .ok (.iconst 0, 1) := by decide +kernel
theorem dL_undo_15 : decode cL_undo 15 = .ok (.ireturn, 1) := by decide +kernel
set_option maxRecDepth 20000 in
theorem ggL_guest_X2_guest : GoodIn wsL_guest wsX2_guest := goodIn_ca (goodIn_ca (goodIn_r _ [7, 8, 9, 10, 11, 6, 12, 13, 14, 15, 16, 17, 18, 19, 20, 21, 22, 23, 24, 25, 26, 27, 28, 29, 30, 31, 32, 33, 34] (by decide +kernel) (by decide +kernel)) (goodIn_sub (fun _ h => List.mem_cons_of_mem _ (List.mem_append_left _ (List.mem_append_right _ h))) (by decide +kernel))) (goodIn_sub (fun _ h => List.mem_cons_of_mem _ (List.mem_append_right _ h)) (by decide +kernel))
set_option maxRecDepth 20000 in
theorem gL_guest_X2_guest : GoodIn wsL_guest (wsV RL 52 RX2 yX2_guest wsX2_guest) := goodIn_app (goodIn_of _ (by decide +kernel)) ggL_guest_X2_guest
theorem dL_guest_0 : decode cL_guest 0 = .ok (.aload_n 3, 1) := by decide +kernel
theorem dL_guest_1 : decode cL_guest 1 = .ok (.iconst 0, 1) := by decide +kernel
theorem dL_guest_2 : decode cL_guest 2 = .ok (.aload_n 0, 1) := by decide +kernel
theorem dL_guest_3 : decode cL_guest 3 = .ok (.iload_n 1, 1) := by decide +kernel
theorem dL_guest_4 : decode cL_guest 4 = .ok (.iload_n 2, 1) := by decide +kernel
theorem dL_guest_5 : decode cL_guest 5 = .ok (.invokevirtual 52, 3) := by decide +kernel
theorem dL_guest_8 : decode cL_guest 8 = .ok (.i2l, 1) := by decide +kernel
theorem dL_guest_9 : decode cL_guest 9 = .ok (.lastore, 1) := by decide +kernel
theorem dL_guest_10 : decode cL_guest 10 = .ok (.goto 11, 3) := by decide +kernel
theorem dL_guest_13 : decode cL_guest 13 = .ok (.astore 4, 2) := by decide +kernel
theorem dL_guest_15 : decode cL_guest 15 = .ok (.iconst 1, 1) := by decide +kernel
theorem dL_guest_16 : decode cL_guest 16 = .ok (.ireturn, 1) := by decide +kernel
theorem dL_guest_17 : decode cL_guest 17 = .ok (.astore 4, 2) := by decide +kernel
theorem dL_guest_19 : decode cL_guest 19 = .ok (.iconst 2, 1) := by decide +kernel
theorem dL_guest_20 : decode cL_guest 20 = .ok (.ireturn, 1) := by decide +kernel
theorem dL_guest_21 : decode cL_guest 21 = .ok (.iconst 0, 1) := by decide +kernel
theorem dL_guest_22 : decode cL_guest 22 = .ok (.ireturn, 1) := by decide +kernel
set_option maxRecDepth 20000 in
theorem ggL_pot_X2_pot : GoodIn wsL_pot wsX2_pot := goodIn_ca (goodIn_ca (goodIn_r _ [7, 8, 9, 10, 11, 6, 12, 13, 14, 15, 16, 17, 18, 19, 20, 21, 22, 23, 24, 25, 26, 27, 28, 29, 30, 31, 32, 33, 34, 35, 36, 37, 38, 39, 40, 41, 42, 43, 44, 45, 46, 47] (by decide +kernel) (by decide +kernel)) (goodIn_sub (fun _ h => List.mem_cons_of_mem _ (List.mem_append_left _ (List.mem_append_right _ h))) (by decide +kernel))) (goodIn_sub (fun _ h => List.mem_cons_of_mem _ (List.mem_append_right _ h)) (by decide +kernel))
set_option maxRecDepth 20000 in
theorem gL_pot_X2_pot : GoodIn wsL_pot (wsV RL 55 RX2 yX2_pot wsX2_pot) := goodIn_app (goodIn_of _ (by decide +kernel)) ggL_pot_X2_pot
theorem dL_pot_0 : decode cL_pot 0 = .ok (.aload_n 3, 1) := by decide +kernel
theorem dL_pot_1 : decode cL_pot 1 = .ok (.iconst 0, 1) := by decide +kernel
theorem dL_pot_2 : decode cL_pot 2 = .ok (.aload_n 0, 1) := by decide +kernel
theorem dL_pot_3 : decode cL_pot 3 = .ok (.iload_n 1, 1) := by decide +kernel
theorem dL_pot_4 : decode cL_pot 4 = .ok (.iload_n 2, 1) := by decide +kernel
theorem dL_pot_5 : decode cL_pot 5 = .ok (.invokevirtual 55, 3) := by decide +kernel
theorem dL_pot_8 : decode cL_pot 8 = .ok (.i2l, 1) := by decide +kernel
theorem dL_pot_9 : decode cL_pot 9 = .ok (.lastore, 1) := by decide +kernel
theorem dL_pot_10 : decode cL_pot 10 = .ok (.goto 11, 3) := by decide +kernel
theorem dL_pot_13 : decode cL_pot 13 = .ok (.astore 4, 2) := by decide +kernel
theorem dL_pot_15 : decode cL_pot 15 = .ok (.iconst 1, 1) := by decide +kernel
theorem dL_pot_16 : decode cL_pot 16 = .ok (.ireturn, 1) := by decide +kernel
theorem dL_pot_17 : decode cL_pot 17 = .ok (.astore 4, 2) := by decide +kernel
theorem dL_pot_19 : decode cL_pot 19 = .ok (.iconst 2, 1) := by decide +kernel
theorem dL_pot_20 : decode cL_pot 20 = .ok (.ireturn, 1) := by decide +kernel
theorem dL_pot_21 : decode cL_pot 21 = .ok (.iconst 0, 1) := by decide +kernel
theorem dL_pot_22 : decode cL_pot 22 = .ok (.ireturn, 1) := by decide +kernel
set_option maxRecDepth 20000 in
theorem ggL_told_X2_told : GoodIn wsL_told wsX2_told := goodIn_ca (goodIn_r _ [6, 7, 8, 9, 10, 5, 11, 12, 13, 14, 15, 16, 17, 18, 19, 20, 21, 22, 23, 24, 25] (by decide +kernel) (by decide +kernel)) (goodIn_sub (fun _ h => List.mem_cons_of_mem _ (List.mem_append_right _ h)) (by decide +kernel))
set_option maxRecDepth 20000 in
theorem gL_told_X2_told : GoodIn wsL_told (wsV RL 58 RX2 yX2_told wsX2_told) := goodIn_app (goodIn_of _ (by decide +kernel)) ggL_told_X2_told
theorem dL_told_0 : decode cL_told 0 = .ok (.aload_n 3, 1) := by decide +kernel
theorem dL_told_1 : decode cL_told 1 = .ok (.iconst 0, 1) := by decide +kernel
theorem dL_told_2 : decode cL_told 2 = .ok (.aload_n 0, 1) := by decide +kernel
theorem dL_told_3 : decode cL_told 3 = .ok (.iload_n 1, 1) := by decide +kernel
theorem dL_told_4 : decode cL_told 4 = .ok (.iload_n 2, 1) := by decide +kernel
theorem dL_told_5 : decode cL_told 5 = .ok (.invokevirtual 58, 3) := by decide +kernel
theorem dL_told_8 : decode cL_told 8 = .ok (.i2l, 1) := by decide +kernel
theorem dL_told_9 : decode cL_told 9 = .ok (.lastore, 1) := by decide +kernel
theorem dL_told_10 : decode cL_told 10 = .ok (.goto 7, 3) := by decide +kernel
theorem dL_told_13 : decode cL_told 13 = .ok (.astore 4, 2) := by decide +kernel
theorem dL_told_15 : decode cL_told 15 = .ok (.iconst 1, 1) := by decide +kernel
theorem dL_told_16 : decode cL_told 16 = .ok (.ireturn, 1) := by decide +kernel
theorem dL_told_17 : decode cL_told 17 = .ok (.iconst 0, 1) := by decide +kernel
theorem dL_told_18 : decode cL_told 18 = .ok (.ireturn, 1) := by decide +kernel
set_option maxRecDepth 20000 in
theorem ggL_tale_X2_tale : GoodIn wsL_tale wsX2_tale := goodIn_ca (goodIn_ca (goodIn_r _ [7, 8, 9, 10, 11, 12, 13, 6, 14, 15, 16, 17, 18, 19, 20, 21, 22, 23, 24, 25] (by decide +kernel) (by decide +kernel)) (goodIn_sub (fun _ h => List.mem_cons_of_mem _ (List.mem_append_left _ (List.mem_append_right _ h))) (by decide +kernel))) (goodIn_sub (fun _ h => List.mem_cons_of_mem _ (List.mem_append_right _ h)) (by decide +kernel))
set_option maxRecDepth 20000 in
theorem gL_tale_X2_tale : GoodIn wsL_tale (wsV RL 61 RX2 yX2_tale wsX2_tale) := goodIn_app (goodIn_of _ (by decide +kernel)) ggL_tale_X2_tale
theorem dL_tale_0 : decode cL_tale 0 = .ok (.aload_n 3, 1) := by decide +kernel
theorem dL_tale_1 : decode cL_tale 1 = .ok (.iconst 0, 1) := by decide +kernel
theorem dL_tale_2 : decode cL_tale 2 = .ok (.aload_n 0, 1) := by decide +kernel
theorem dL_tale_3 : decode cL_tale 3 = .ok (.iload_n 1, 1) := by decide +kernel
theorem dL_tale_4 : decode cL_tale 4 = .ok (.iload_n 2, 1) := by decide +kernel
theorem dL_tale_5 : decode cL_tale 5 = .ok (.invokevirtual 61, 3) := by decide +kernel
theorem dL_tale_8 : decode cL_tale 8 = .ok (.i2l, 1) := by decide +kernel
theorem dL_tale_9 : decode cL_tale 9 = .ok (.lastore, 1) := by decide +kernel
theorem dL_tale_10 : decode cL_tale 10 = .ok (.goto 11, 3) := by decide +kernel
theorem dL_tale_13 : decode cL_tale 13 = .ok (.astore 4, 2) := by decide +kernel
theorem dL_tale_15 : decode cL_tale 15 = .ok (.iconst 1, 1) := by decide +kernel
theorem dL_tale_16 : decode cL_tale 16 = .ok (.ireturn, 1) := by decide +kernel
theorem dL_tale_17 : decode cL_tale 17 = .ok (.astore 4, 2) := by decide +kernel
theorem dL_tale_19 : decode cL_tale 19 = .ok (.iconst 2, 1) := by decide +kernel
theorem dL_tale_20 : decode cL_tale 20 = .ok (.ireturn, 1) := by decide +kernel
theorem dL_tale_21 : decode cL_tale 21 = .ok (.iconst 0, 1) := by decide +kernel
theorem dL_tale_22 : decode cL_tale 22 = .ok (.ireturn, 1) := by decide +kernel
set_option maxRecDepth 20000 in
theorem ggL_count_X2_count : GoodIn wsL_count wsX2_count := goodIn_ca (goodIn_r _ [6, 7, 8, 9, 10, 11, 5, 12, 13, 14, 15, 16, 17, 18, 19, 20, 21, 22, 23, 24, 25, 26, 27, 28, 29, 30, 31, 32, 33, 34, 35, 36, 37, 38, 39, 40, 41, 42, 43, 44, 45, 46, 47, 48, 49, 50, 51] (by decide +kernel) (by decide +kernel)) (goodIn_sub (fun _ h => List.mem_cons_of_mem _ (List.mem_append_right _ h)) (by decide +kernel))
set_option maxRecDepth 20000 in
theorem gL_count_X2_count : GoodIn wsL_count (wsV RL 64 RX2 yX2_count wsX2_count) := goodIn_app (goodIn_of _ (by decide +kernel)) ggL_count_X2_count
theorem dL_count_0 : decode cL_count 0 = .ok (.aload_n 2, 1) := by decide +kernel
theorem dL_count_1 : decode cL_count 1 = .ok (.iconst 0, 1) := by decide +kernel
theorem dL_count_2 : decode cL_count 2 = .ok (.aload_n 0, 1) := by decide +kernel
theorem dL_count_3 : decode cL_count 3 = .ok (.iload_n 1, 1) := by decide +kernel
theorem dL_count_4 : decode cL_count 4 = .ok (.invokevirtual 64, 3) := by decide +kernel
theorem dL_count_7 : decode cL_count 7 = .ok (.i2l, 1) := by decide +kernel
theorem dL_count_8 : decode cL_count 8 = .ok (.lastore, 1) := by decide +kernel
theorem dL_count_9 : decode cL_count 9 = .ok (.goto 6, 3) := by decide +kernel
theorem dL_count_12 : decode cL_count 12 = .ok (.astore_n 3, 1) := by decide +kernel
theorem dL_count_13 : decode cL_count 13 = .ok (.iconst 1, 1) := by decide +kernel
theorem dL_count_14 : decode cL_count 14 = .ok (.ireturn, 1) := by decide +kernel
theorem dL_count_15 : decode cL_count 15 = .ok (.iconst 0, 1) := by decide +kernel
theorem dL_count_16 : decode cL_count 16 = .ok (.ireturn, 1) := by decide +kernel
set_option maxRecDepth 20000 in
theorem ggL_ifPoured_X2_ifPoured : GoodIn wsL_ifPoured wsX2_ifPoured := goodIn_ca (goodIn_ca (goodIn_r _ [7, 8, 9, 10, 6, 11, 12, 13, 14, 15, 16, 17, 18, 19, 20, 21, 22, 23, 24, 25, 26, 27, 28, 29, 30, 31, 32, 33, 34, 35, 36, 37, 38, 39, 40, 41, 42, 43, 44, 45, 46, 47, 48, 49, 50, 51, 52, 53, 54, 55, 56, 57, 58, 59, 60, 61, 62] (by decide +kernel) (by decide +kernel)) (goodIn_sub (fun _ h => List.mem_cons_of_mem _ (List.mem_append_left _ (List.mem_append_right _ h))) (by decide +kernel))) (goodIn_sub (fun _ h => List.mem_cons_of_mem _ (List.mem_append_right _ h)) (by decide +kernel))
set_option maxRecDepth 20000 in
theorem gL_ifPoured_X2_ifPoured : GoodIn wsL_ifPoured (wsV RL 67 RX2 yX2_ifPoured wsX2_ifPoured) := goodIn_app (goodIn_of _ (by decide +kernel)) ggL_ifPoured_X2_ifPoured
theorem dL_ifPoured_0 : decode cL_ifPoured 0 = .ok (.aload_n 3, 1) := by decide +kernel
theorem dL_ifPoured_1 : decode cL_ifPoured 1 = .ok (.iconst 0, 1) := by decide +kernel
theorem dL_ifPoured_2 : decode cL_ifPoured 2 = .ok (.aload_n 0, 1) := by decide +kernel
theorem dL_ifPoured_3 : decode cL_ifPoured 3 = .ok (.iload_n 1, 1) := by decide +kernel
theorem dL_ifPoured_4 : decode cL_ifPoured 4 = .ok (.iload_n 2, 1) := by decide +kernel
theorem dL_ifPoured_5 : decode cL_ifPoured 5 = .ok (.invokevirtual 67, 3) := by decide +kernel
theorem dL_ifPoured_8 : decode cL_ifPoured 8 = .ok (.i2l, 1) := by decide +kernel
theorem dL_ifPoured_9 : decode cL_ifPoured 9 = .ok (.lastore, 1) := by decide +kernel
theorem dL_ifPoured_10 : decode cL_ifPoured 10 = .ok (.goto 11, 3) := by decide +kernel
theorem dL_ifPoured_13 : decode cL_ifPoured 13 = .ok (.astore 4, 2) := by decide +kernel
theorem dL_ifPoured_15 : decode cL_ifPoured 15 = .ok (.iconst 1, 1) := by decide +kernel
theorem dL_ifPoured_16 : decode cL_ifPoured 16 = .ok (.ireturn, 1) := by decide +kernel
theorem dL_ifPoured_17 : decode cL_ifPoured 17 = .ok (.astore 4, 2) := by decide +kernel
theorem dL_ifPoured_19 : decode cL_ifPoured 19 = .ok (.iconst 2, 1) := by decide +kernel
theorem dL_ifPoured_20 : decode cL_ifPoured 20 = .ok (.ireturn, 1) := by decide +kernel
theorem dL_ifPoured_21 : decode cL_ifPoured 21 = .ok (.iconst 0, 1) := by decide +kernel
theorem dL_ifPoured_22 : decode cL_ifPoured 22 = .ok (.ireturn, 1) := by decide +kernel
set_option maxRecDepth 20000 in
theorem ggL_emptyIn_X2_emptyIn : GoodIn wsL_emptyIn wsX2_emptyIn := goodIn_ca (goodIn_r _ [6, 7, 8, 9, 10, 11, 5, 12, 13, 14, 15, 16, 17, 18, 19, 20, 21, 22, 23, 24, 25, 26, 27, 28, 29, 30, 31, 32, 33, 34, 35, 36, 37, 38, 39, 40, 41, 42, 43, 44, 45, 46, 47, 48, 49, 50, 51, 52, 53, 54, 55, 56, 57, 58, 59, 60, 61, 62, 63, 64, 65, 66, 67, 68, 69, 70, 71, 72, 73, 74, 75, 76, 77, 78, 79, 80, 81, 82, 83, 84, 85, 86, 87] (by decide +kernel) (by decide +kernel)) (goodIn_sub (fun _ h => List.mem_cons_of_mem _ (List.mem_append_right _ h)) (by decide +kernel))
set_option maxRecDepth 20000 in
theorem gL_emptyIn_X2_emptyIn : GoodIn wsL_emptyIn (wsV RL 70 RX2 yX2_emptyIn wsX2_emptyIn) := goodIn_app (goodIn_of _ (by decide +kernel)) ggL_emptyIn_X2_emptyIn
theorem dL_emptyIn_0 : decode cL_emptyIn 0 = .ok (.aload_n 2, 1) := by decide +kernel
theorem dL_emptyIn_1 : decode cL_emptyIn 1 = .ok (.iconst 0, 1) := by decide +kernel
theorem dL_emptyIn_2 : decode cL_emptyIn 2 = .ok (.aload_n 0, 1) := by decide +kernel
theorem dL_emptyIn_3 : decode cL_emptyIn 3 = .ok (.iload_n 1, 1) := by decide +kernel
theorem dL_emptyIn_4 : decode cL_emptyIn 4 = .ok (.invokevirtual 70, 3) := by decide +kernel
theorem dL_emptyIn_7 : decode cL_emptyIn 7 = .ok (.i2l, 1) := by decide +kernel
theorem dL_emptyIn_8 : decode cL_emptyIn 8 = .ok (.lastore, 1) := by decide +kernel
theorem dL_emptyIn_9 : decode cL_emptyIn 9 = .ok (.goto 6, 3) := by decide +kernel
theorem dL_emptyIn_12 : decode cL_emptyIn 12 = .ok (.astore_n 3, 1) := by decide +kernel
theorem dL_emptyIn_13 : decode cL_emptyIn 13 = .ok (.iconst 1, 1) := by decide +kernel
theorem dL_emptyIn_14 : decode cL_emptyIn 14 = .ok (.ireturn, 1) := by decide +kernel
theorem dL_emptyIn_15 : decode cL_emptyIn 15 = .ok (.iconst 0, 1) := by decide +kernel
theorem dL_emptyIn_16 : decode cL_emptyIn 16 = .ok (.ireturn, 1) := by decide +kernel
set_option maxRecDepth 20000 in
theorem ggL_bestGuest_X2_bestGuest : GoodIn wsL_bestGuest wsX2_bestGuest := goodIn_ca (goodIn_r _ [6, 7, 8, 9, 10, 11, 5, 12, 13, 14, 15, 16, 17, 18, 19, 20, 21, 22, 23, 24, 25, 26, 27, 28, 29, 30, 31, 32, 33, 34, 35, 36, 37, 38, 39, 40, 41, 42, 43, 44, 45, 46, 47, 48, 49, 50, 51, 52, 53, 54, 55, 56, 57, 58, 59, 60, 61, 62, 63, 64, 65, 66, 67, 68] (by decide +kernel) (by decide +kernel)) (goodIn_sub (fun _ h => List.mem_cons_of_mem _ (List.mem_append_right _ h)) (by decide +kernel))
set_option maxRecDepth 20000 in
theorem gL_bestGuest_X2_bestGuest : GoodIn wsL_bestGuest (wsV RL 73 RX2 yX2_bestGuest wsX2_bestGuest) := goodIn_app (goodIn_of _ (by decide +kernel)) ggL_bestGuest_X2_bestGuest
theorem dL_bestGuest_0 : decode cL_bestGuest 0 = .ok (.aload_n 2, 1) := by decide +kernel
theorem dL_bestGuest_1 : decode cL_bestGuest 1 = .ok (.iconst 0, 1) := by decide +kernel
theorem dL_bestGuest_2 : decode cL_bestGuest 2 = .ok (.aload_n 0, 1) := by decide +kernel
theorem dL_bestGuest_3 : decode cL_bestGuest 3 = .ok (.iload_n 1, 1) := by decide +kernel
theorem dL_bestGuest_4 : decode cL_bestGuest 4 = .ok (.invokevirtual 73, 3) := by decide +kernel
theorem dL_bestGuest_7 : decode cL_bestGuest 7 = .ok (.i2l, 1) := by decide +kernel
theorem dL_bestGuest_8 : decode cL_bestGuest 8 = .ok (.lastore, 1) := by decide +kernel
theorem dL_bestGuest_9 : decode cL_bestGuest 9 = .ok (.goto 6, 3) := by decide +kernel
theorem dL_bestGuest_12 : decode cL_bestGuest 12 = .ok (.astore_n 3, 1) := by decide +kernel
theorem dL_bestGuest_13 : decode cL_bestGuest 13 = .ok (.iconst 1, 1) := by decide +kernel
theorem dL_bestGuest_14 : decode cL_bestGuest 14 = .ok (.ireturn, 1) := by decide +kernel
theorem dL_bestGuest_15 : decode cL_bestGuest 15 = .ok (.iconst 0, 1) := by decide +kernel
theorem dL_bestGuest_16 : decode cL_bestGuest 16 = .ok (.ireturn, 1) := by decide +kernel

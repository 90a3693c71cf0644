set_option maxRecDepth 20000 in
theorem ggL_changes_X2_brew : GoodIn wsL_changes wsX2_brew := goodIn_ca (goodIn_ca (goodIn_ca (goodIn_r _ [8, 9, 10, 11, 12, 13, 7, 14, 15, 16, 17, 18, 19, 20, 21, 22, 23, 24, 25, 26, 27, 28, 29, 30, 31, 32, 33, 34, 35, 36, 37, 38, 39, 40, 41, 42, 43, 44, 45, 46, 124, 125, 126, 127, 128, 129, 130, 131, 132] (by decide +kernel) (by decide +kernel)) (goodIn_sub (fun _ h => List.mem_cons_of_mem _ (List.mem_append_left _ (List.mem_append_left _ (List.mem_append_right _ h)))) (by decide +kernel))) (goodIn_sub (fun _ h => List.mem_cons_of_mem _ (List.mem_append_left _ (List.mem_append_right _ h))) (by decide +kernel))) (goodIn_sub (fun _ h => List.mem_cons_of_mem _ (List.mem_append_right _ h)) (by decide +kernel))
set_option maxRecDepth 20000 in
theorem gL_changes_X2_brew : GoodIn wsL_changes (wsV RL 8 RX2 yX2_brew wsX2_brew) := goodIn_app (goodIn_of _ (by decide +kernel)) ggL_changes_X2_brew
set_option maxRecDepth 20000 in
theorem ggL_changes_X2_pour : GoodIn wsL_changes wsX2_pour := goodIn_ca (goodIn_ca (goodIn_r _ [50, 9, 10, 11, 12, 13, 7, 14, 15, 16, 51, 52, 53, 25, 54, 27, 55, 56, 57, 58, 28, 29, 30, 31, 32, 33, 34, 35, 36, 37, 38, 39, 40, 41, 42, 59, 60, 61, 62, 63, 64, 65, 66, 67, 68, 69, 70, 71, 72, 73, 74, 75, 76, 77, 78, 79, 80, 81, 82, 83, 84, 85, 124, 125, 126, 127, 128, 129, 130, 131, 132] (by decide +kernel) (by decide +kernel)) (goodIn_sub (fun _ h => List.mem_cons_of_mem _ (List.mem_append_left _ (List.mem_append_left _ (List.mem_append_right _ h)))) (by decide +kernel))) (goodIn_sub (fun _ h => List.mem_cons_of_mem _ (List.mem_append_left _ (List.mem_append_right _ h))) (by decide +kernel))
set_option maxRecDepth 20000 in
theorem gL_changes_X2_pour : GoodIn wsL_changes (wsV RL 14 RX2 yX2_pour wsX2_pour) := goodIn_app (goodIn_of _ (by decide +kernel)) ggL_changes_X2_pour
set_option maxRecDepth 20000 in
theorem ggL_changes_X2_hand : GoodIn wsL_changes wsX2_hand := goodIn_ca (goodIn_ca (goodIn_r _ [89, 11, 12, 13, 7, 14, 15, 16, 17, 18, 19, 20, 21, 28, 29, 30, 31, 32, 33, 34, 35, 36, 37, 25, 38, 27, 39, 40, 41, 42, 90, 91, 92, 93, 94, 95, 65, 96, 63, 64, 66, 71, 72, 73, 74, 75, 76, 77, 78, 124, 125, 126, 127, 128, 129, 130, 131, 132] (by decide +kernel) (by decide +kernel)) (goodIn_sub (fun _ h => List.mem_cons_of_mem _ (List.mem_append_left _ (List.mem_append_right _ h))) (by decide +kernel))) (goodIn_sub (fun _ h => List.mem_cons_of_mem _ (List.mem_append_right _ h)) (by decide +kernel))
set_option maxRecDepth 20000 in
theorem gL_changes_X2_hand : GoodIn wsL_changes (wsV RL 18 RX2 yX2_hand wsX2_hand) := goodIn_app (goodIn_of _ (by decide +kernel)) ggL_changes_X2_hand
set_option maxRecDepth 20000 in
theorem ggL_changes_X2_round : GoodIn wsL_changes wsX2_round := goodIn_ca (goodIn_r _ [100, 11, 12, 13, 7, 14, 15, 16, 28, 29, 30, 31, 32, 33, 34, 35, 36, 37, 25, 38, 27, 39, 40, 41, 42, 101, 102, 103, 104, 105, 52, 53, 54, 55, 56, 57, 58, 106, 60, 61, 62, 63, 64, 65, 66, 67, 68, 69, 70, 71, 72, 73, 74, 75, 76, 77, 78, 79, 80, 81, 82, 83, 84, 85, 107, 91, 92, 93, 94, 95, 96, 124, 125, 126, 127, 128, 129, 130, 131, 132] (by decide +kernel) (by decide +kernel)) (goodIn_sub (fun _ h => List.mem_cons_of_mem _ (List.mem_append_left _ (List.mem_append_right _ h))) (by decide +kernel))
set_option maxRecDepth 20000 in
theorem gL_changes_X2_round : GoodIn wsL_changes (wsV RL 21 RX2 yX2_round wsX2_round) := goodIn_app (goodIn_of _ (by decide +kernel)) ggL_changes_X2_round
set_option maxRecDepth 20000 in
theorem ggL_changes_X2_sip : GoodIn wsL_changes wsX2_sip := goodIn_ca (goodIn_r _ [111, 11, 112, 113, 7, 114, 15, 16, 28, 29, 30, 31, 32, 33, 34, 35, 36, 37, 25, 38, 27, 39, 40, 41, 42, 115, 116, 117, 118, 94, 95, 65, 96, 124, 125, 126, 127, 128, 129, 130, 131, 132] (by decide +kernel) (by decide +kernel)) (goodIn_sub (fun _ h => List.mem_cons_of_mem _ (List.mem_append_left _ (List.mem_append_right _ h))) (by decide +kernel))
set_option maxRecDepth 20000 in
theorem gL_changes_X2_sip : GoodIn wsL_changes (wsV RL 24 RX2 yX2_sip wsX2_sip) := goodIn_app (goodIn_of _ (by decide +kernel)) ggL_changes_X2_sip
set_option maxRecDepth 20000 in
theorem ggL_changes_X2_cup : GoodIn wsL_changes wsX2_cup := goodIn_ca (goodIn_ca (goodIn_ca (goodIn_r _ [122, 9, 10, 11, 123, 112, 113, 7, 114, 15, 16, 17, 18, 19, 20, 21, 28, 29, 30, 31, 32, 33, 34, 35, 36, 37, 25, 38, 27, 39, 40, 41, 42, 124, 125, 126, 127, 128, 129, 130, 131, 132] (by decide +kernel) (by decide +kernel)) (goodIn_sub (fun _ h => List.mem_cons_of_mem _ (List.mem_append_left _ (List.mem_append_left _ (List.mem_append_right _ h)))) (by decide +kernel))) (goodIn_sub (fun _ h => List.mem_cons_of_mem _ (List.mem_append_left _ (List.mem_append_right _ h))) (by decide +kernel))) (goodIn_sub (fun _ h => List.mem_cons_of_mem _ (List.mem_append_right _ h)) (by decide +kernel))
set_option maxRecDepth 20000 in
theorem gL_changes_X2_cup : GoodIn wsL_changes (wsV RL 27 RX2 yX2_cup wsX2_cup) := goodIn_app (goodIn_of _ (by decide +kernel)) ggL_changes_X2_cup
theorem dL_changes_0 : decode cL_changes 0 = .ok (.aload 4, 2) := by decide +kernel
theorem dL_changes_2 : decode cL_changes 2 = .ok (.iconst 0, 1) := by decide +kernel
theorem dL_changes_3 : decode cL_changes 3 = .ok (.iload_n 1, 1) := by decide +kernel
theorem dL_changes_4 : decode cL_changes 4 = .ok (.ifCond .ne 12, 3) := by decide +kernel
theorem dL_changes_7 : decode cL_changes 7 = .ok (.aload_n 0, 1) := by decide +kernel
theorem dL_changes_8 : decode cL_changes 8 = .ok (.iload_n 2, 1) := by decide +kernel
theorem dL_changes_9 : decode cL_changes 9 = .ok (.iload_n 3, 1) := by decide +kernel
theorem dL_changes_10 : decode cL_changes 10 = .ok (.invokevirtual 8, 3) := by decide +kernel
theorem dL_changes_13 : decode cL_changes 13 = .ok (.goto 62, 3) := by decide +kernel
theorem dL_changes_16 : decode cL_changes 16 = .ok (.iload_n 1, 1) := by decide +kernel
theorem dL_changes_17 : decode cL_changes 17 = .ok (.iconst 1, 1) := by decide +kernel
theorem dL_changes_18 : decode cL_changes 18 = .ok (.if_icmp .ne 11, 3) := by decide +kernel
theorem dL_changes_21 : decode cL_changes 21 = .ok (.aload_n 0, 1) := by decide +kernel
theorem dL_changes_22 : decode cL_changes 22 = .ok (.iload_n 2, 1) := by decide +kernel
theorem dL_changes_23 : decode cL_changes 23 = .ok (.invokevirtual 14, 3) := by decide +kernel
theorem dL_changes_26 : decode cL_changes 26 = .ok (.goto 49, 3) := by decide +kernel
theorem dL_changes_29 : decode cL_changes 29 = .ok (.iload_n 1, 1) := by decide +kernel
theorem dL_changes_30 : decode cL_changes 30 = .ok (.iconst 2, 1) := by decide +kernel
theorem dL_changes_31 : decode cL_changes 31 = .ok (.if_icmp .ne 12, 3) := by decide +kernel
theorem dL_changes_34 : decode cL_changes 34 = .ok (.aload_n 0, 1) := by decide +kernel
theorem dL_changes_35 : decode cL_changes 35 = .ok (.iload_n 2, 1) := by decide +kernel
theorem dL_changes_36 : decode cL_changes 36 = .ok (.iload_n 3, 1) := by decide +kernel
theorem dL_changes_37 : decode cL_changes 37 = .ok (.invokevirtual 18, 3) := by decide +kernel
theorem dL_changes_40 : decode cL_changes 40 = .ok (.goto 35, 3) := by decide +kernel
theorem dL_changes_43 : decode cL_changes 43 = .ok (.iload_n 1, 1) := by decide +kernel
theorem dL_changes_44 : decode cL_changes 44 = .ok (.iconst 3, 1) := by decide +kernel
theorem dL_changes_45 : decode cL_changes 45 = .ok (.if_icmp .ne 11, 3) := by decide +kernel
theorem dL_changes_48 : decode cL_changes 48 = .ok (.aload_n 0, 1) := by decide +kernel
theorem dL_changes_49 : decode cL_changes 49 = .ok (.iload_n 2, 1) := by decide +kernel
theorem dL_changes_50 : decode cL_changes 50 = .ok (.invokevirtual 21, 3) := by decide +kernel
theorem dL_changes_53 : decode cL_changes 53 = .ok (.goto 22, 3) := by decide +kernel
theorem dL_changes_56 : decode cL_changes 56 = .ok (.iload_n 1, 1) := by decide +kernel
theorem dL_changes_57 : decode cL_changes 57 = .ok (.iconst 4, 1) := by decide +kernel
theorem dL_changes_58 : decode cL_changes 58 = .ok (.if_icmp .ne 11, 3) := by decide +kernel
theorem dL_changes_61 : decode cL_changes 61 = .ok (.aload_n 0, 1) := by decide +kernel
theorem dL_changes_62 : decode cL_changes 62 = .ok (.iload_n 2, 1) := by decide +kernel
theorem dL_changes_63 : decode cL_changes 63 = .ok (.invokevirtual 24, 3) := by decide +kernel
theorem dL_changes_66 : decode cL_changes 66 = .ok (.goto 9, 3) := by decide +kernel
theorem dL_changes_69 : decode cL_changes 69 = .ok (.aload_n 0, 1) := by decide +kernel
theorem dL_changes_70 : decode cL_changes 70 = .ok (.iload_n 2, 1) := by decide +kernel
theorem dL_changes_71 : decode cL_changes 71 = .ok (.iload_n 3, 1) := by decide +kernel
theorem dL_changes_72 : decode cL_changes 72 = .ok (.invokevirtual 27, 3) := by decide +kernel
theorem dL_changes_75 : decode cL_changes 75 = .ok (.iastore, 1) := by decide +kernel
theorem dL_changes_76 : decode cL_changes 76 = .ok (.goto 15, 3) := by decide +kernel
theorem dL_changes_79 : decode cL_changes 79 = .ok (.astore 5, 2) := by decide +kernel
theorem dL_changes_81 : decode cL_changes 81 = .ok (.iconst 1, 1) := by decide +kernel
theorem dL_changes_82 : decode cL_changes 82 = .ok (.ireturn, 1) := by decide +kernel
theorem dL_changes_83 : decode cL_changes 83 = .ok (.astore 5, 2) := by decide +kernel
theorem dL_changes_85 : decode cL_changes 85 = .ok (.iconst 2, 1) := by decide +kernel
theorem dL_changes_86 : decode cL_changes 86 = .ok (.ireturn, 1) := by decide +kernel
theorem dL_changes_87 : decode cL_changes 87 = .ok (.astore 5, 2) := by decide +kernel
theorem dL_changes_89 : decode cL_changes 89 = .ok (.iconst 3, 1) := by decide +kernel
theorem dL_changes_90 : decode cL_changes 90 = .ok (.ireturn, 1) := by decide +kernel
theorem dL_changes_91 : decode cL_changes 91 = .ok (.iconst 0, 1) := by decide +kernel
theorem dL_changes_92 : decode cL_changes 92 = .ok (.ireturn, 1) := by decide +kernel

set_option maxRecDepth 20000 in
theorem ggL_likes_X2_like : GoodIn wsL_likes wsX2_like := goodIn_ca (goodIn_ca (goodIn_r _ [7, 8, 9, 10, 11, 6, 12, 13, 14, 15, 16, 17, 18, 19, 20, 21, 22, 23, 24, 25, 26, 27, 28, 29, 30, 31, 32, 33, 34, 35, 36, 37, 38, 39, 40, 41, 42, 43, 44, 45] (by decide +kernel) (by decide +kernel)) (goodIn_sub (fun _ h => List.mem_cons_of_mem _ (List.mem_append_left _ (List.mem_append_right _ h))) (by decide +kernel))) (goodIn_sub (fun _ h => List.mem_cons_of_mem _ (List.mem_append_right _ h)) (by decide +kernel))
set_option maxRecDepth 20000 in
theorem gL_likes_X2_like : GoodIn wsL_likes (wsV RL 36 RX2 yX2_like wsX2_like) := goodIn_app (goodIn_of _ (by decide +kernel)) ggL_likes_X2_like
theorem dL_likes_0 : decode cL_likes 0 = .ok (.aload 5, 2) := by decide +kernel
theorem dL_likes_2 : decode cL_likes 2 = .ok (.iconst 0, 1) := by decide +kernel
theorem dL_likes_3 : decode cL_likes 3 = .ok (.aload_n 0, 1) := by decide +kernel
theorem dL_likes_4 : decode cL_likes 4 = .ok (.iload_n 1, 1) := by decide +kernel
theorem dL_likes_5 : decode cL_likes 5 = .ok (.iload_n 2, 1) := by decide +kernel
theorem dL_likes_6 : decode cL_likes 6 = .ok (.iload_n 3, 1) := by decide +kernel
theorem dL_likes_7 : decode cL_likes 7 = .ok (.iload 4, 2) := by decide +kernel
theorem dL_likes_9 : decode cL_likes 9 = .ok (.invokevirtual 36, 3) := by decide +kernel
theorem dL_likes_12 : decode cL_likes 12 = .ok (.iastore, 1) := by decide +kernel
theorem dL_likes_13 : decode cL_likes 13 = .ok (.goto 11, 3) := by decide +kernel
theorem dL_likes_16 : decode cL_likes 16 = .ok (.astore 6, 2) := by decide +kernel
theorem dL_likes_18 : decode cL_likes 18 = .ok (.iconst 1, 1) := by decide +kernel
theorem dL_likes_19 : decode cL_likes 19 = .ok (.ireturn, 1) := by decide +kernel
theorem dL_likes_20 : decode cL_likes 20 = .ok (.astore 6, 2) := by decide +kernel
theorem dL_likes_22 : decode cL_likes 22 = .ok (.iconst 2, 1) := by decide +kernel
theorem dL_likes_23 : decode cL_likes 23 = .ok (.ireturn, 1) := by decide +kernel
theorem dL_likes_24 : decode cL_likes 24 = .ok (.iconst 0, 1) := by decide +kernel
theorem dL_likes_25 : decode cL_likes 25 = .ok (.ireturn, 1) := by decide +kernel

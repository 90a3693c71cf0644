set_option maxRecDepth 20000 in
theorem ggX2_init_X1_init : GoodIn wsX2_init wsX1_init := goodIn_r _ [20, 21, 2, 3, 22, 23, 33] (by decide +kernel) (by decide +kernel)
set_option maxRecDepth 20000 in
theorem gX2_init_X1_init : GoodIn wsX2_init (wsX1_init) := ggX2_init_X1_init
set_option maxRecDepth 20000 in
theorem ggX2_init_X0_init : GoodIn wsX2_init wsX0_init := goodIn_r _ [25, 26, 2, 3, 22, 27, 28, 29, 30, 31, 32, 42, 43, 44, 45, 46, 47] (by decide +kernel) (by decide +kernel)
set_option maxRecDepth 20000 in
theorem gX2_init_X0_init_n28 : GoodIn wsX2_init (wsX0_init) := ggX2_init_X0_init
theorem dX2_init_0 : decode cX2_init 0 = .ok (.aload_n 0, 1) := by decide +kernel
theorem dX2_init_1 : decode cX2_init 1 = .ok (.invokespecial 3, 3) := by decide +kernel
theorem dX2_init_4 : decode cX2_init 4 = .ok (.aload_n 0, 1) := by decide +kernel
theorem dX2_init_5 : decode cX2_init 5 = .ok (.new 9, 3) := by decide +kernel
theorem dX2_init_8 : decode cX2_init 8 = .ok (.dup, 1) := by decide +kernel
theorem dX2_init_9 : decode cX2_init 9 = .ok (.invokespecial 11, 3) := by decide +kernel
theorem dX2_init_12 : decode cX2_init 12 = .ok (.putfield 12, 3) := by decide +kernel
theorem dX2_init_15 : decode cX2_init 15 = .ok (.aload_n 0, 1) := by decide +kernel
theorem dX2_init_16 : decode cX2_init 16 = .ok (.new 9, 3) := by decide +kernel
theorem dX2_init_19 : decode cX2_init 19 = .ok (.dup, 1) := by decide +kernel
theorem dX2_init_20 : decode cX2_init 20 = .ok (.invokespecial 11, 3) := by decide +kernel
theorem dX2_init_23 : decode cX2_init 23 = .ok (.putfield 16, 3) := by decide +kernel
theorem dX2_init_26 : decode cX2_init 26 = .ok (.aload_n 0, 1) := by decide +kernel
theorem dX2_init_27 : decode cX2_init 27 = .ok (.new 9, 3) := by decide +kernel
theorem dX2_init_30 : decode cX2_init 30 = .ok (.dup, 1) := by decide +kernel
theorem dX2_init_31 : decode cX2_init 31 = .ok (.invokespecial 11, 3) := by decide +kernel
theorem dX2_init_34 : decode cX2_init 34 = .ok (.putfield 19, 3) := by decide +kernel
theorem dX2_init_37 : decode cX2_init 37 = .ok (.aload_n 0, 1) := by decide +kernel
theorem dX2_init_38 : decode cX2_init 38 = .ok (.bipush 6, 2) := by decide +kernel
theorem dX2_init_40 : decode cX2_init 40 = .ok (.anewarray 9, 3) := by decide +kernel
theorem dX2_init_43 : decode cX2_init 43 = .ok (.putfield 22, 3) := by decide +kernel
theorem dX2_init_46 : decode cX2_init 46 = .ok (.aload_n 0, 1) := by decide +kernel
theorem dX2_init_47 : decode cX2_init 47 = .ok (.new 26, 3) := by decide +kernel
theorem dX2_init_50 : decode cX2_init 50 = .ok (.dup, 1) := by decide +kernel
theorem dX2_init_51 : decode cX2_init 51 = .ok (.invokespecial 28, 3) := by decide +kernel
theorem dX2_init_54 : decode cX2_init 54 = .ok (.putfield 29, 3) := by decide +kernel
theorem dX2_init_57 : decode cX2_init 57 = .ok (.aload_n 0, 1) := by decide +kernel
theorem dX2_init_58 : decode cX2_init 58 = .ok (.iconst 0, 1) := by decide +kernel
theorem dX2_init_59 : decode cX2_init 59 = .ok (.putfield 33, 3) := by decide +kernel
theorem dX2_init_62 : decode cX2_init 62 = .ok (.aload_n 0, 1) := by decide +kernel
theorem dX2_init_63 : decode cX2_init 63 = .ok (.iconst 0, 1) := by decide +kernel
theorem dX2_init_64 : decode cX2_init 64 = .ok (.putfield 37, 3) := by decide +kernel
theorem dX2_init_67 : decode cX2_init 67 = .ok (.aload_n 0, 1) := by decide +kernel
theorem dX2_init_68 : decode cX2_init 68 = .ok (.iconst 0, 1) := by decide +kernel
theorem dX2_init_69 : decode cX2_init 69 = .ok (.putfield 40, 3) := by decide +kernel
theorem dX2_init_72 : decode cX2_init 72 = .ok (.iconst 0, 1) := by decide +kernel
theorem dX2_init_73 : decode cX2_init 73 = .ok (.istore_n 1, 1) := by decide +kernel
theorem dX2_init_74 : decode cX2_init 74 = .ok (.iload_n 1, 1) := by decide +kernel
theorem dX2_init_75 : decode cX2_init 75 = .ok (.bipush 6, 2) := by decide +kernel
theorem dX2_init_77 : decode cX2_init 77 = .ok (.if_icmp .ge 22, 3) := by decide +kernel
theorem dX2_init_80 : decode cX2_init 80 = .ok (.aload_n 0, 1) := by decide +kernel
theorem dX2_init_81 : decode cX2_init 81 = .ok (.getfield 22, 3) := by decide +kernel
theorem dX2_init_84 : decode cX2_init 84 = .ok (.iload_n 1, 1) := by decide +kernel
theorem dX2_init_85 : decode cX2_init 85 = .ok (.new 9, 3) := by decide +kernel
theorem dX2_init_88 : decode cX2_init 88 = .ok (.dup, 1) := by decide +kernel
theorem dX2_init_89 : decode cX2_init 89 = .ok (.invokespecial 11, 3) := by decide +kernel
theorem dX2_init_92 : decode cX2_init 92 = .ok (.aastore, 1) := by decide +kernel
theorem dX2_init_93 : decode cX2_init 93 = .ok (.iinc 1 1, 3) := by decide +kernel
theorem dX2_init_96 : decode cX2_init 96 = .ok (.goto (-22), 3) := by decide +kernel
theorem dX2_init_99 : decode cX2_init 99 = .ok (.return_, 1) := by decide +kernel
set_option maxRecDepth 20000 in
theorem ggX2_like_X2_requireGuest : GoodIn wsX2_like wsX2_requireGuest := goodIn_ca (goodIn_r _ [6, 7, 8] (by decide +kernel) (by decide +kernel)) (goodIn_sub (fun _ h => List.mem_cons_of_mem _ (List.mem_append_left _ (List.mem_append_right _ h))) (by decide +kernel))
set_option maxRecDepth 20000 in
theorem gX2_like_X2_requireGuest : GoodIn wsX2_like (va_wsS RX2 44 yX2_requireGuest wsX2_requireGuest) := goodIn_app (goodIn_of _ (by decide +kernel)) ggX2_like_X2_requireGuest
set_option maxRecDepth 20000 in
theorem ggX2_like_X2_requireWithin : GoodIn wsX2_like wsX2_requireWithin := goodIn_ca (goodIn_r _ [11, 12, 13] (by decide +kernel) (by decide +kernel)) (goodIn_sub (fun _ h => List.mem_cons_of_mem _ (List.mem_append_right _ h)) (by decide +kernel))
set_option maxRecDepth 20000 in
theorem gX2_like_X2_requireWithin : GoodIn wsX2_like (va_wsS RX2 48 yX2_requireWithin wsX2_requireWithin) := goodIn_app (goodIn_of _ (by decide +kernel)) ggX2_like_X2_requireWithin
set_option maxRecDepth 20000 in
theorem ggX2_like_X2_saveState : GoodIn wsX2_like wsX2_saveState := goodIn_r _ [17, 18, 19, 20, 1, 21, 22, 23, 24, 25, 26, 27, 28, 29, 30, 31, 32, 33, 34, 35, 36, 37, 38, 39] (by decide +kernel) (by decide +kernel)
set_option maxRecDepth 20000 in
theorem gX2_like_X2_saveState : GoodIn wsX2_like (wsV RX2 52 RX2 yX2_saveState wsX2_saveState) := goodIn_app (goodIn_of _ (by decide +kernel)) ggX2_like_X2_saveState
theorem dX2_like_0 : decode cX2_like 0 = .ok (.iload_n 1, 1) := by decide +kernel
theorem dX2_like_1 : decode cX2_like 1 = .ok (.invokestatic 44, 3) := by decide +kernel
theorem dX2_like_4 : decode cX2_like 4 = .ok (.iload_n 2, 1) := by decide +kernel
theorem dX2_like_5 : decode cX2_like 5 = .ok (.iconst 1, 1) := by decide +kernel
theorem dX2_like_6 : decode cX2_like 6 = .ok (.bipush 20, 2) := by decide +kernel
theorem dX2_like_8 : decode cX2_like 8 = .ok (.invokestatic 48, 3) := by decide +kernel
theorem dX2_like_11 : decode cX2_like 11 = .ok (.iload_n 3, 1) := by decide +kernel
theorem dX2_like_12 : decode cX2_like 12 = .ok (.iconst 0, 1) := by decide +kernel
theorem dX2_like_13 : decode cX2_like 13 = .ok (.bipush 10, 2) := by decide +kernel
theorem dX2_like_15 : decode cX2_like 15 = .ok (.invokestatic 48, 3) := by decide +kernel
theorem dX2_like_18 : decode cX2_like 18 = .ok (.iload 4, 2) := by decide +kernel
theorem dX2_like_20 : decode cX2_like 20 = .ok (.bipush (-20), 2) := by decide +kernel
theorem dX2_like_22 : decode cX2_like 22 = .ok (.bipush 20, 2) := by decide +kernel
theorem dX2_like_24 : decode cX2_like 24 = .ok (.invokestatic 48, 3) := by decide +kernel
theorem dX2_like_27 : decode cX2_like 27 = .ok (.aload_n 0, 1) := by decide +kernel
theorem dX2_like_28 : decode cX2_like 28 = .ok (.invokevirtual 52, 3) := by decide +kernel
theorem dX2_like_31 : decode cX2_like 31 = .ok (.aload_n 0, 1) := by decide +kernel
theorem dX2_like_32 : decode cX2_like 32 = .ok (.getfield 12, 3) := by decide +kernel
theorem dX2_like_35 : decode cX2_like 35 = .ok (.getfield 55, 3) := by decide +kernel
theorem dX2_like_38 : decode cX2_like 38 = .ok (.bipush 16, 2) := by decide +kernel
theorem dX2_like_40 : decode cX2_like 40 = .ok (.iload_n 1, 1) := by decide +kernel
theorem dX2_like_41 : decode cX2_like 41 = .ok (.iadd, 1) := by decide +kernel
theorem dX2_like_42 : decode cX2_like 42 = .ok (.iaload, 1) := by decide +kernel
theorem dX2_like_43 : decode cX2_like 43 = .ok (.istore 5, 2) := by decide +kernel
theorem dX2_like_45 : decode cX2_like 45 = .ok (.aload_n 0, 1) := by decide +kernel
theorem dX2_like_46 : decode cX2_like 46 = .ok (.getfield 12, 3) := by decide +kernel
theorem dX2_like_49 : decode cX2_like 49 = .ok (.getfield 55, 3) := by decide +kernel
theorem dX2_like_52 : decode cX2_like 52 = .ok (.bipush 16, 2) := by decide +kernel
theorem dX2_like_54 : decode cX2_like 54 = .ok (.iload_n 1, 1) := by decide +kernel
theorem dX2_like_55 : decode cX2_like 55 = .ok (.iadd, 1) := by decide +kernel
theorem dX2_like_56 : decode cX2_like 56 = .ok (.iload_n 2, 1) := by decide +kernel
theorem dX2_like_57 : decode cX2_like 57 = .ok (.iastore, 1) := by decide +kernel
theorem dX2_like_58 : decode cX2_like 58 = .ok (.aload_n 0, 1) := by decide +kernel
theorem dX2_like_59 : decode cX2_like 59 = .ok (.getfield 12, 3) := by decide +kernel
theorem dX2_like_62 : decode cX2_like 62 = .ok (.getfield 55, 3) := by decide +kernel
theorem dX2_like_65 : decode cX2_like 65 = .ok (.bipush 24, 2) := by decide +kernel
theorem dX2_like_67 : decode cX2_like 67 = .ok (.iload_n 1, 1) := by decide +kernel
theorem dX2_like_68 : decode cX2_like 68 = .ok (.iadd, 1) := by decide +kernel
theorem dX2_like_69 : decode cX2_like 69 = .ok (.iload_n 3, 1) := by decide +kernel
theorem dX2_like_70 : decode cX2_like 70 = .ok (.iastore, 1) := by decide +kernel
theorem dX2_like_71 : decode cX2_like 71 = .ok (.aload_n 0, 1) := by decide +kernel
theorem dX2_like_72 : decode cX2_like 72 = .ok (.getfield 12, 3) := by decide +kernel
theorem dX2_like_75 : decode cX2_like 75 = .ok (.getfield 55, 3) := by decide +kernel
theorem dX2_like_78 : decode cX2_like 78 = .ok (.bipush 32, 2) := by decide +kernel
theorem dX2_like_80 : decode cX2_like 80 = .ok (.iload_n 1, 1) := by decide +kernel
theorem dX2_like_81 : decode cX2_like 81 = .ok (.iadd, 1) := by decide +kernel
theorem dX2_like_82 : decode cX2_like 82 = .ok (.iload 4, 2) := by decide +kernel
theorem dX2_like_84 : decode cX2_like 84 = .ok (.iastore, 1) := by decide +kernel
theorem dX2_like_85 : decode cX2_like 85 = .ok (.iload 5, 2) := by decide +kernel
theorem dX2_like_87 : decode cX2_like 87 = .ok (.ireturn, 1) := by decide +kernel
set_option maxRecDepth 20000 in
theorem ggX2_cup_X2_requireGuest : GoodIn wsX2_cup wsX2_requireGuest := goodIn_ca (goodIn_r _ [8, 9, 10] (by decide +kernel) (by decide +kernel)) (goodIn_sub (fun _ h => List.mem_cons_of_mem _ (List.mem_append_left _ (List.mem_append_right _ h))) (by decide +kernel))
set_option maxRecDepth 20000 in
theorem gX2_cup_X2_requireGuest : GoodIn wsX2_cup (va_wsS RX2 44 yX2_requireGuest wsX2_requireGuest) := goodIn_app (goodIn_of _ (by decide +kernel)) ggX2_cup_X2_requireGuest
set_option maxRecDepth 20000 in
theorem ggX2_cup_X2_requireWithin : GoodIn wsX2_cup wsX2_requireWithin := goodIn_ca (goodIn_r _ [13, 14, 15] (by decide +kernel) (by decide +kernel)) (goodIn_sub (fun _ h => List.mem_cons_of_mem _ (List.mem_append_right _ h)) (by decide +kernel))
set_option maxRecDepth 20000 in
theorem gX2_cup_X2_requireWithin : GoodIn wsX2_cup (va_wsS RX2 48 yX2_requireWithin wsX2_requireWithin) := goodIn_app (goodIn_of _ (by decide +kernel)) ggX2_cup_X2_requireWithin
set_option maxRecDepth 20000 in
theorem ggX2_cup_X2_saveState : GoodIn wsX2_cup wsX2_saveState := goodIn_r _ [19, 20, 21, 22, 3, 23, 24, 25, 26, 27, 28, 29, 30, 31, 32, 33, 34, 35, 36, 37, 38, 39, 40, 41] (by decide +kernel) (by decide +kernel)
set_option maxRecDepth 20000 in
theorem gX2_cup_X2_saveState : GoodIn wsX2_cup (wsV RX2 52 RX2 yX2_saveState wsX2_saveState) := goodIn_app (goodIn_of _ (by decide +kernel)) ggX2_cup_X2_saveState
theorem dX2_cup_0 : decode cX2_cup 0 = .ok (.iload_n 1, 1) := by decide +kernel
theorem dX2_cup_1 : decode cX2_cup 1 = .ok (.invokestatic 44, 3) := by decide +kernel
theorem dX2_cup_4 : decode cX2_cup 4 = .ok (.iload_n 2, 1) := by decide +kernel
theorem dX2_cup_5 : decode cX2_cup 5 = .ok (.bipush 10, 2) := by decide +kernel
theorem dX2_cup_7 : decode cX2_cup 7 = .ok (.bipush 40, 2) := by decide +kernel
theorem dX2_cup_9 : decode cX2_cup 9 = .ok (.invokestatic 48, 3) := by decide +kernel
theorem dX2_cup_12 : decode cX2_cup 12 = .ok (.aload_n 0, 1) := by decide +kernel
theorem dX2_cup_13 : decode cX2_cup 13 = .ok (.getfield 12, 3) := by decide +kernel
theorem dX2_cup_16 : decode cX2_cup 16 = .ok (.getfield 55, 3) := by decide +kernel
theorem dX2_cup_19 : decode cX2_cup 19 = .ok (.bipush 8, 2) := by decide +kernel
theorem dX2_cup_21 : decode cX2_cup 21 = .ok (.iload_n 1, 1) := by decide +kernel
theorem dX2_cup_22 : decode cX2_cup 22 = .ok (.iadd, 1) := by decide +kernel
theorem dX2_cup_23 : decode cX2_cup 23 = .ok (.iaload, 1) := by decide +kernel
theorem dX2_cup_24 : decode cX2_cup 24 = .ok (.iload_n 2, 1) := by decide +kernel
theorem dX2_cup_25 : decode cX2_cup 25 = .ok (.if_icmp .le 13, 3) := by decide +kernel
theorem dX2_cup_28 : decode cX2_cup 28 = .ok (.new 59, 3) := by decide +kernel
theorem dX2_cup_31 : decode cX2_cup 31 = .ok (.dup, 1) := by decide +kernel
theorem dX2_cup_32 : decode cX2_cup 32 = .ok (.ldc 61, 2) := by decide +kernel
theorem dX2_cup_34 : decode cX2_cup 34 = .ok (.invokespecial 63, 3) := by decide +kernel
theorem dX2_cup_37 : decode cX2_cup 37 = .ok (.athrow, 1) := by decide +kernel
theorem dX2_cup_38 : decode cX2_cup 38 = .ok (.aload_n 0, 1) := by decide +kernel
theorem dX2_cup_39 : decode cX2_cup 39 = .ok (.invokevirtual 52, 3) := by decide +kernel
theorem dX2_cup_42 : decode cX2_cup 42 = .ok (.aload_n 0, 1) := by decide +kernel
theorem dX2_cup_43 : decode cX2_cup 43 = .ok (.getfield 12, 3) := by decide +kernel
theorem dX2_cup_46 : decode cX2_cup 46 = .ok (.getfield 55, 3) := by decide +kernel
theorem dX2_cup_49 : decode cX2_cup 49 = .ok (.iconst 0, 1) := by decide +kernel
theorem dX2_cup_50 : decode cX2_cup 50 = .ok (.iload_n 1, 1) := by decide +kernel
theorem dX2_cup_51 : decode cX2_cup 51 = .ok (.iadd, 1) := by decide +kernel
theorem dX2_cup_52 : decode cX2_cup 52 = .ok (.iaload, 1) := by decide +kernel
theorem dX2_cup_53 : decode cX2_cup 53 = .ok (.istore_n 3, 1) := by decide +kernel
theorem dX2_cup_54 : decode cX2_cup 54 = .ok (.aload_n 0, 1) := by decide +kernel
theorem dX2_cup_55 : decode cX2_cup 55 = .ok (.getfield 12, 3) := by decide +kernel
theorem dX2_cup_58 : decode cX2_cup 58 = .ok (.getfield 55, 3) := by decide +kernel
theorem dX2_cup_61 : decode cX2_cup 61 = .ok (.iconst 0, 1) := by decide +kernel
theorem dX2_cup_62 : decode cX2_cup 62 = .ok (.iload_n 1, 1) := by decide +kernel
theorem dX2_cup_63 : decode cX2_cup 63 = .ok (.iadd, 1) := by decide +kernel
theorem dX2_cup_64 : decode cX2_cup 64 = .ok (.iload_n 2, 1) := by decide +kernel
theorem dX2_cup_65 : decode cX2_cup 65 = .ok (.iastore, 1) := by decide +kernel
theorem dX2_cup_66 : decode cX2_cup 66 = .ok (.iload_n 3, 1) := by decide +kernel
theorem dX2_cup_67 : decode cX2_cup 67 = .ok (.ireturn, 1) := by decide +kernel
set_option maxRecDepth 20000 in
theorem ggX2_sip_X2_requireGuest : GoodIn wsX2_sip wsX2_requireGuest := goodIn_ca (goodIn_r _ [5, 6, 7] (by decide +kernel) (by decide +kernel)) (goodIn_sub (fun _ h => List.mem_cons_of_mem _ (List.mem_append_right _ h)) (by decide +kernel))
set_option maxRecDepth 20000 in
theorem gX2_sip_X2_requireGuest : GoodIn wsX2_sip (va_wsS RX2 44 yX2_requireGuest wsX2_requireGuest) := goodIn_app (goodIn_of _ (by decide +kernel)) ggX2_sip_X2_requireGuest
set_option maxRecDepth 20000 in
theorem ggX2_sip_X2_saveState : GoodIn wsX2_sip wsX2_saveState := goodIn_r _ [11, 12, 13, 14, 1, 15, 16, 17, 18, 19, 20, 21, 22, 23, 24, 33, 34, 35, 36, 37, 38, 39, 40, 41] (by decide +kernel) (by decide +kernel)
set_option maxRecDepth 20000 in
theorem gX2_sip_X2_saveState : GoodIn wsX2_sip (wsV RX2 52 RX2 yX2_saveState wsX2_saveState) := goodIn_app (goodIn_of _ (by decide +kernel)) ggX2_sip_X2_saveState
set_option maxRecDepth 20000 in
theorem ggX2_sip_X1_drinkFrom : GoodIn wsX2_sip wsX1_drinkFrom := goodIn_r _ [28, 20, 29, 30, 31, 32, 41] (by decide +kernel) (by decide +kernel)
set_option maxRecDepth 20000 in
theorem gX2_sip_X1_drinkFrom : GoodIn wsX2_sip (wsV RX2 66 RX1 yX1_drinkFrom wsX1_drinkFrom) := goodIn_app (goodIn_of _ (by decide +kernel)) ggX2_sip_X1_drinkFrom
theorem dX2_sip_0 : decode cX2_sip 0 = .ok (.iload_n 1, 1) := by decide +kernel
theorem dX2_sip_1 : decode cX2_sip 1 = .ok (.invokestatic 44, 3) := by decide +kernel
theorem dX2_sip_4 : decode cX2_sip 4 = .ok (.aload_n 0, 1) := by decide +kernel
theorem dX2_sip_5 : decode cX2_sip 5 = .ok (.invokevirtual 52, 3) := by decide +kernel
theorem dX2_sip_8 : decode cX2_sip 8 = .ok (.aload_n 0, 1) := by decide +kernel
theorem dX2_sip_9 : decode cX2_sip 9 = .ok (.getfield 12, 3) := by decide +kernel
theorem dX2_sip_12 : decode cX2_sip 12 = .ok (.iload_n 1, 1) := by decide +kernel
theorem dX2_sip_13 : decode cX2_sip 13 = .ok (.invokevirtual 66, 3) := by decide +kernel
theorem dX2_sip_16 : decode cX2_sip 16 = .ok (.ireturn, 1) := by decide +kernel
set_option maxRecDepth 20000 in
theorem ggX2_brew_X2_requirePot : GoodIn wsX2_brew wsX2_requirePot := goodIn_ca (goodIn_r _ [7, 8, 9] (by decide +kernel) (by decide +kernel)) (goodIn_sub (fun _ h => List.mem_cons_of_mem _ (List.mem_append_left _ (List.mem_append_right _ h))) (by decide +kernel))
set_option maxRecDepth 20000 in
theorem gX2_brew_X2_requirePot : GoodIn wsX2_brew (va_wsS RX2 70 yX2_requirePot wsX2_requirePot) := goodIn_app (goodIn_of _ (by decide +kernel)) ggX2_brew_X2_requirePot
set_option maxRecDepth 20000 in
theorem ggX2_brew_X2_requireWithin : GoodIn wsX2_brew wsX2_requireWithin := goodIn_ca (goodIn_r _ [12, 13, 14] (by decide +kernel) (by decide +kernel)) (goodIn_sub (fun _ h => List.mem_cons_of_mem _ (List.mem_append_right _ h)) (by decide +kernel))
set_option maxRecDepth 20000 in
theorem gX2_brew_X2_requireWithin : GoodIn wsX2_brew (va_wsS RX2 48 yX2_requireWithin wsX2_requireWithin) := goodIn_app (goodIn_of _ (by decide +kernel)) ggX2_brew_X2_requireWithin
set_option maxRecDepth 20000 in
theorem ggX2_brew_X1_hasRoomFor : GoodIn wsX2_brew wsX1_hasRoomFor := goodIn_r _ [19, 20, 48] (by decide +kernel) (by decide +kernel)
set_option maxRecDepth 20000 in
theorem gX2_brew_X1_hasRoomFor : GoodIn wsX2_brew (wsV RX2 73 RX1 yX1_hasRoomFor wsX1_hasRoomFor) := goodIn_app (goodIn_of _ (by decide +kernel)) ggX2_brew_X1_hasRoomFor
set_option maxRecDepth 20000 in
theorem ggX2_brew_X2_saveState : GoodIn wsX2_brew wsX2_saveState := goodIn_r _ [24, 25, 26, 27, 3, 28, 29, 30, 18, 31, 20, 32, 33, 34, 35, 40, 41, 42, 43, 44, 45, 46, 47, 48] (by decide +kernel) (by decide +kernel)
set_option maxRecDepth 20000 in
theorem gX2_brew_X2_saveState : GoodIn wsX2_brew (wsV RX2 52 RX2 yX2_saveState wsX2_saveState) := goodIn_app (goodIn_of _ (by decide +kernel)) ggX2_brew_X2_saveState
set_option maxRecDepth 20000 in
theorem ggX2_brew_X1_brewInto : GoodIn wsX2_brew wsX1_brewInto := goodIn_r _ [39, 20, 48] (by decide +kernel) (by decide +kernel)
set_option maxRecDepth 20000 in
theorem gX2_brew_X1_brewInto : GoodIn wsX2_brew (wsV RX2 79 RX1 yX1_brewInto wsX1_brewInto) := goodIn_app (goodIn_of _ (by decide +kernel)) ggX2_brew_X1_brewInto
theorem dX2_brew_0 : decode cX2_brew 0 = .ok (.iload_n 1, 1) := by decide +kernel
theorem dX2_brew_1 : decode cX2_brew 1 = .ok (.invokestatic 70, 3) := by decide +kernel
theorem dX2_brew_4 : decode cX2_brew 4 = .ok (.iload_n 2, 1) := by decide +kernel
theorem dX2_brew_5 : decode cX2_brew 5 = .ok (.iconst 1, 1) := by decide +kernel
theorem dX2_brew_6 : decode cX2_brew 6 = .ok (.sipush 200, 3) := by decide +kernel
theorem dX2_brew_9 : decode cX2_brew 9 = .ok (.invokestatic 48, 3) := by decide +kernel
theorem dX2_brew_12 : decode cX2_brew 12 = .ok (.aload_n 0, 1) := by decide +kernel
theorem dX2_brew_13 : decode cX2_brew 13 = .ok (.getfield 12, 3) := by decide +kernel
theorem dX2_brew_16 : decode cX2_brew 16 = .ok (.iload_n 1, 1) := by decide +kernel
theorem dX2_brew_17 : decode cX2_brew 17 = .ok (.iload_n 2, 1) := by decide +kernel
theorem dX2_brew_18 : decode cX2_brew 18 = .ok (.invokevirtual 73, 3) := by decide +kernel
theorem dX2_brew_21 : decode cX2_brew 21 = .ok (.ifCond .ne 13, 3) := by decide +kernel
theorem dX2_brew_24 : decode cX2_brew 24 = .ok (.new 59, 3) := by decide +kernel
theorem dX2_brew_27 : decode cX2_brew 27 = .ok (.dup, 1) := by decide +kernel
theorem dX2_brew_28 : decode cX2_brew 28 = .ok (.ldc 77, 2) := by decide +kernel
theorem dX2_brew_30 : decode cX2_brew 30 = .ok (.invokespecial 63, 3) := by decide +kernel
theorem dX2_brew_33 : decode cX2_brew 33 = .ok (.athrow, 1) := by decide +kernel
theorem dX2_brew_34 : decode cX2_brew 34 = .ok (.aload_n 0, 1) := by decide +kernel
theorem dX2_brew_35 : decode cX2_brew 35 = .ok (.invokevirtual 52, 3) := by decide +kernel
theorem dX2_brew_38 : decode cX2_brew 38 = .ok (.aload_n 0, 1) := by decide +kernel
theorem dX2_brew_39 : decode cX2_brew 39 = .ok (.getfield 12, 3) := by decide +kernel
theorem dX2_brew_42 : decode cX2_brew 42 = .ok (.iload_n 1, 1) := by decide +kernel
theorem dX2_brew_43 : decode cX2_brew 43 = .ok (.iload_n 2, 1) := by decide +kernel
theorem dX2_brew_44 : decode cX2_brew 44 = .ok (.invokevirtual 79, 3) := by decide +kernel
theorem dX2_brew_47 : decode cX2_brew 47 = .ok (.ireturn, 1) := by decide +kernel
set_option maxRecDepth 20000 in
theorem ggX2_pour_X2_requirePot : GoodIn wsX2_pour wsX2_requirePot := goodIn_ca (goodIn_r _ [7, 8, 9] (by decide +kernel) (by decide +kernel)) (goodIn_sub (fun _ h => List.mem_cons_of_mem _ (List.mem_append_right _ h)) (by decide +kernel))
set_option maxRecDepth 20000 in
theorem gX2_pour_X2_requirePot : GoodIn wsX2_pour (va_wsS RX2 70 yX2_requirePot wsX2_requirePot) := goodIn_app (goodIn_of _ (by decide +kernel)) ggX2_pour_X2_requirePot
set_option maxRecDepth 20000 in
theorem ggX2_pour_X1_whyNotPour : GoodIn wsX2_pour wsX1_whyNotPour := goodIn_r _ [14, 15, 16, 17, 18, 13, 19, 70] (by decide +kernel) (by decide +kernel)
set_option maxRecDepth 20000 in
theorem gX2_pour_X1_whyNotPour : GoodIn wsX2_pour (wsV RX2 83 RX1 yX1_whyNotPour wsX1_whyNotPour) := goodIn_app (goodIn_of _ (by decide +kernel)) ggX2_pour_X1_whyNotPour
set_option maxRecDepth 20000 in
theorem ggX2_pour_X2_saveState : GoodIn wsX2_pour wsX2_saveState := goodIn_r _ [23, 24, 25, 26, 3, 27, 28, 29, 13, 30, 15, 31, 32, 33, 34, 62, 63, 64, 65, 66, 67, 68, 69, 70] (by decide +kernel) (by decide +kernel)
set_option maxRecDepth 20000 in
theorem gX2_pour_X2_saveState : GoodIn wsX2_pour (wsV RX2 52 RX2 yX2_saveState wsX2_saveState) := goodIn_app (goodIn_of _ (by decide +kernel)) ggX2_pour_X2_saveState
set_option maxRecDepth 20000 in
theorem ggX2_pour_X1_pourFrom : GoodIn wsX2_pour wsX1_pourFrom := goodIn_r _ [38, 15, 39, 40, 41, 42, 43, 44, 45, 13, 46, 47, 48, 49, 50, 51, 52, 53, 54, 16, 17, 18, 19, 55, 56, 57, 58, 59, 60, 61, 70] (by decide +kernel) (by decide +kernel)
set_option maxRecDepth 20000 in
theorem gX2_pour_X1_pourFrom : GoodIn wsX2_pour (wsV RX2 88 RX1 yX1_pourFrom wsX1_pourFrom) := goodIn_app (goodIn_of _ (by decide +kernel)) ggX2_pour_X1_pourFrom
theorem dX2_pour_0 : decode cX2_pour 0 = .ok (.iload_n 1, 1) := by decide +kernel
theorem dX2_pour_1 : decode cX2_pour 1 = .ok (.invokestatic 70, 3) := by decide +kernel
theorem dX2_pour_4 : decode cX2_pour 4 = .ok (.aload_n 0, 1) := by decide +kernel
theorem dX2_pour_5 : decode cX2_pour 5 = .ok (.getfield 12, 3) := by decide +kernel
theorem dX2_pour_8 : decode cX2_pour 8 = .ok (.iload_n 1, 1) := by decide +kernel
theorem dX2_pour_9 : decode cX2_pour 9 = .ok (.invokevirtual 83, 3) := by decide +kernel
theorem dX2_pour_12 : decode cX2_pour 12 = .ok (.ifCond .eq 13, 3) := by decide +kernel
theorem dX2_pour_15 : decode cX2_pour 15 = .ok (.new 59, 3) := by decide +kernel
theorem dX2_pour_18 : decode cX2_pour 18 = .ok (.dup, 1) := by decide +kernel
theorem dX2_pour_19 : decode cX2_pour 19 = .ok (.ldc 86, 2) := by decide +kernel
theorem dX2_pour_21 : decode cX2_pour 21 = .ok (.invokespecial 63, 3) := by decide +kernel
theorem dX2_pour_24 : decode cX2_pour 24 = .ok (.athrow, 1) := by decide +kernel
theorem dX2_pour_25 : decode cX2_pour 25 = .ok (.aload_n 0, 1) := by decide +kernel
theorem dX2_pour_26 : decode cX2_pour 26 = .ok (.invokevirtual 52, 3) := by decide +kernel
theorem dX2_pour_29 : decode cX2_pour 29 = .ok (.aload_n 0, 1) := by decide +kernel
theorem dX2_pour_30 : decode cX2_pour 30 = .ok (.getfield 12, 3) := by decide +kernel
theorem dX2_pour_33 : decode cX2_pour 33 = .ok (.iload_n 1, 1) := by decide +kernel
theorem dX2_pour_34 : decode cX2_pour 34 = .ok (.invokevirtual 88, 3) := by decide +kernel
theorem dX2_pour_37 : decode cX2_pour 37 = .ok (.ireturn, 1) := by decide +kernel
set_option maxRecDepth 20000 in
theorem ggX2_hand_X2_requirePot : GoodIn wsX2_hand wsX2_requirePot := goodIn_ca (goodIn_r _ [5, 6, 7] (by decide +kernel) (by decide +kernel)) (goodIn_sub (fun _ h => List.mem_cons_of_mem _ (List.mem_append_left _ (List.mem_append_right _ h))) (by decide +kernel))
set_option maxRecDepth 20000 in
theorem gX2_hand_X2_requirePot : GoodIn wsX2_hand (va_wsS RX2 70 yX2_requirePot wsX2_requirePot) := goodIn_app (goodIn_of _ (by decide +kernel)) ggX2_hand_X2_requirePot
set_option maxRecDepth 20000 in
theorem ggX2_hand_X2_requireWithin : GoodIn wsX2_hand wsX2_requireWithin := goodIn_ca (goodIn_r _ [10, 11, 12] (by decide +kernel) (by decide +kernel)) (goodIn_sub (fun _ h => List.mem_cons_of_mem _ (List.mem_append_right _ h)) (by decide +kernel))
set_option maxRecDepth 20000 in
theorem gX2_hand_X2_requireWithin : GoodIn wsX2_hand (va_wsS RX2 48 yX2_requireWithin wsX2_requireWithin) := goodIn_app (goodIn_of _ (by decide +kernel)) ggX2_hand_X2_requireWithin
set_option maxRecDepth 20000 in
theorem ggX2_hand_X2_saveState : GoodIn wsX2_hand wsX2_saveState := goodIn_r _ [16, 17, 18, 19, 1, 20, 21, 22, 23, 24, 25, 26, 27, 28, 29, 49, 50, 51, 52, 53, 54, 55, 56, 57] (by decide +kernel) (by decide +kernel)
set_option maxRecDepth 20000 in
theorem gX2_hand_X2_saveState : GoodIn wsX2_hand (wsV RX2 52 RX2 yX2_saveState wsX2_saveState) := goodIn_app (goodIn_of _ (by decide +kernel)) ggX2_hand_X2_saveState
set_option maxRecDepth 20000 in
theorem ggX2_hand_X1_handOn : GoodIn wsX2_hand wsX1_handOn := goodIn_r _ [33, 25, 34, 35, 36, 37, 38, 39, 40, 41, 42, 43, 23, 44, 45, 46, 47, 48, 57] (by decide +kernel) (by decide +kernel)
set_option maxRecDepth 20000 in
theorem gX2_hand_X1_handOn : GoodIn wsX2_hand (wsV RX2 91 RX1 yX1_handOn wsX1_handOn) := goodIn_app (goodIn_of _ (by decide +kernel)) ggX2_hand_X1_handOn
theorem dX2_hand_0 : decode cX2_hand 0 = .ok (.iload_n 1, 1) := by decide +kernel
theorem dX2_hand_1 : decode cX2_hand 1 = .ok (.invokestatic 70, 3) := by decide +kernel
theorem dX2_hand_4 : decode cX2_hand 4 = .ok (.iload_n 2, 1) := by decide +kernel
theorem dX2_hand_5 : decode cX2_hand 5 = .ok (.iconst 0, 1) := by decide +kernel
theorem dX2_hand_6 : decode cX2_hand 6 = .ok (.iconst 1, 1) := by decide +kernel
theorem dX2_hand_7 : decode cX2_hand 7 = .ok (.invokestatic 48, 3) := by decide +kernel
theorem dX2_hand_10 : decode cX2_hand 10 = .ok (.aload_n 0, 1) := by decide +kernel
theorem dX2_hand_11 : decode cX2_hand 11 = .ok (.invokevirtual 52, 3) := by decide +kernel
theorem dX2_hand_14 : decode cX2_hand 14 = .ok (.aload_n 0, 1) := by decide +kernel
theorem dX2_hand_15 : decode cX2_hand 15 = .ok (.getfield 12, 3) := by decide +kernel
theorem dX2_hand_18 : decode cX2_hand 18 = .ok (.iload_n 1, 1) := by decide +kernel
theorem dX2_hand_19 : decode cX2_hand 19 = .ok (.iload_n 2, 1) := by decide +kernel
theorem dX2_hand_20 : decode cX2_hand 20 = .ok (.iconst 1, 1) := by decide +kernel
theorem dX2_hand_21 : decode cX2_hand 21 = .ok (.if_icmp .ne 7, 3) := by decide +kernel
theorem dX2_hand_24 : decode cX2_hand 24 = .ok (.iconst 1, 1) := by decide +kernel
theorem dX2_hand_25 : decode cX2_hand 25 = .ok (.goto 5, 3) := by decide +kernel
theorem dX2_hand_28 : decode cX2_hand 28 = .ok (.bipush 7, 2) := by decide +kernel
theorem dX2_hand_30 : decode cX2_hand 30 = .ok (.invokevirtual 91, 3) := by decide +kernel
theorem dX2_hand_33 : decode cX2_hand 33 = .ok (.ireturn, 1) := by decide +kernel
set_option maxRecDepth 20000 in
theorem ggX2_round_X2_requirePot : GoodIn wsX2_round wsX2_requirePot := goodIn_ca (goodIn_r _ [5, 6, 7] (by decide +kernel) (by decide +kernel)) (goodIn_sub (fun _ h => List.mem_cons_of_mem _ (List.mem_append_right _ h)) (by decide +kernel))
set_option maxRecDepth 20000 in
theorem gX2_round_X2_requirePot : GoodIn wsX2_round (va_wsS RX2 70 yX2_requirePot wsX2_requirePot) := goodIn_app (goodIn_of _ (by decide +kernel)) ggX2_round_X2_requirePot
set_option maxRecDepth 20000 in
theorem ggX2_round_X2_saveState : GoodIn wsX2_round wsX2_saveState := goodIn_r _ [11, 12, 13, 14, 1, 15, 16, 17, 18, 19, 20, 21, 22, 23, 24, 71, 72, 73, 74, 75, 76, 77, 78, 79] (by decide +kernel) (by decide +kernel)
set_option maxRecDepth 20000 in
theorem gX2_round_X2_saveState : GoodIn wsX2_round (wsV RX2 52 RX2 yX2_saveState wsX2_saveState) := goodIn_app (goodIn_of _ (by decide +kernel)) ggX2_round_X2_saveState
set_option maxRecDepth 20000 in
theorem ggX2_round_X1_goRound : GoodIn wsX2_round wsX1_goRound := goodIn_r _ [28, 20, 29, 30, 31, 18, 32, 33, 34, 35, 36, 37, 38, 39, 40, 41, 42, 43, 44, 45, 46, 47, 48, 49, 50, 51, 52, 53, 54, 55, 56, 57, 58, 59, 60, 61, 62, 63, 64, 65, 66, 67, 68, 69, 70, 79] (by decide +kernel) (by decide +kernel)
set_option maxRecDepth 20000 in
theorem gX2_round_X1_goRound : GoodIn wsX2_round (wsV RX2 94 RX1 yX1_goRound wsX1_goRound) := goodIn_app (goodIn_of _ (by decide +kernel)) ggX2_round_X1_goRound
theorem dX2_round_0 : decode cX2_round 0 = .ok (.iload_n 1, 1) := by decide +kernel
theorem dX2_round_1 : decode cX2_round 1 = .ok (.invokestatic 70, 3) := by decide +kernel
theorem dX2_round_4 : decode cX2_round 4 = .ok (.aload_n 0, 1) := by decide +kernel
theorem dX2_round_5 : decode cX2_round 5 = .ok (.invokevirtual 52, 3) := by decide +kernel
theorem dX2_round_8 : decode cX2_round 8 = .ok (.aload_n 0, 1) := by decide +kernel
theorem dX2_round_9 : decode cX2_round 9 = .ok (.getfield 12, 3) := by decide +kernel
theorem dX2_round_12 : decode cX2_round 12 = .ok (.iload_n 1, 1) := by decide +kernel
theorem dX2_round_13 : decode cX2_round 13 = .ok (.invokevirtual 94, 3) := by decide +kernel
theorem dX2_round_16 : decode cX2_round 16 = .ok (.ireturn, 1) := by decide +kernel
set_option maxRecDepth 20000 in
theorem ggX2_undo_X1_copyFrom : GoodIn wsX2_undo wsX1_copyFrom := goodIn_r _ [11, 12, 13, 14, 15, 16, 25] (by decide +kernel) (by decide +kernel)
set_option maxRecDepth 20000 in
theorem gX2_undo_X1_copyFrom : GoodIn wsX2_undo (wsV RX2 144 RX1 yX1_copyFrom wsX1_copyFrom) := goodIn_app (goodIn_of _ (by decide +kernel)) ggX2_undo_X1_copyFrom
theorem dX2_undo_0 : decode cX2_undo 0 = .ok (.aload_n 0, 1) := by decide +kernel
theorem dX2_undo_1 : decode cX2_undo 1 = .ok (.getfield 37, 3) := by decide +kernel
theorem dX2_undo_4 : decode cX2_undo 4 = .ok (.ifCond .ne 13, 3) := by decide +kernel
theorem dX2_undo_7 : decode cX2_undo 7 = .ok (.new 59, 3) := by decide +kernel
theorem dX2_undo_10 : decode cX2_undo 10 = .ok (.dup, 1) := by decide +kernel
theorem dX2_undo_11 : decode cX2_undo 11 = .ok (.ldc 153, 2) := by decide +kernel
theorem dX2_undo_13 : decode cX2_undo 13 = .ok (.invokespecial 63, 3) := by decide +kernel
theorem dX2_undo_16 : decode cX2_undo 16 = .ok (.athrow, 1) := by decide +kernel
theorem dX2_undo_17 : decode cX2_undo 17 = .ok (.aload_n 0, 1) := by decide +kernel
theorem dX2_undo_18 : decode cX2_undo 18 = .ok (.dup, 1) := by decide +kernel
theorem dX2_undo_19 : decode cX2_undo 19 = .ok (.getfield 37, 3) := by decide +kernel
theorem dX2_undo_22 : decode cX2_undo 22 = .ok (.iconst 1, 1) := by decide +kernel
theorem dX2_undo_23 : decode cX2_undo 23 = .ok (.isub, 1) := by decide +kernel
theorem dX2_undo_24 : decode cX2_undo 24 = .ok (.putfield 37, 3) := by decide +kernel
theorem dX2_undo_27 : decode cX2_undo 27 = .ok (.aload_n 0, 1) := by decide +kernel
theorem dX2_undo_28 : decode cX2_undo 28 = .ok (.getfield 12, 3) := by decide +kernel
theorem dX2_undo_31 : decode cX2_undo 31 = .ok (.aload_n 0, 1) := by decide +kernel
theorem dX2_undo_32 : decode cX2_undo 32 = .ok (.getfield 22, 3) := by decide +kernel
theorem dX2_undo_35 : decode cX2_undo 35 = .ok (.aload_n 0, 1) := by decide +kernel
theorem dX2_undo_36 : decode cX2_undo 36 = .ok (.getfield 33, 3) := by decide +kernel
theorem dX2_undo_39 : decode cX2_undo 39 = .ok (.aload_n 0, 1) := by decide +kernel
theorem dX2_undo_40 : decode cX2_undo 40 = .ok (.getfield 37, 3) := by decide +kernel
theorem dX2_undo_43 : decode cX2_undo 43 = .ok (.iadd, 1) := by decide +kernel
theorem dX2_undo_44 : decode cX2_undo 44 = .ok (.bipush 6, 2) := by decide +kernel
theorem dX2_undo_46 : decode cX2_undo 46 = .ok (.irem, 1) := by decide +kernel
theorem dX2_undo_47 : decode cX2_undo 47 = .ok (.aaload, 1) := by decide +kernel
theorem dX2_undo_48 : decode cX2_undo 48 = .ok (.invokevirtual 144, 3) := by decide +kernel
theorem dX2_undo_51 : decode cX2_undo 51 = .ok (.aload_n 0, 1) := by decide +kernel
theorem dX2_undo_52 : decode cX2_undo 52 = .ok (.getfield 37, 3) := by decide +kernel
theorem dX2_undo_55 : decode cX2_undo 55 = .ok (.ireturn, 1) := by decide +kernel
set_option maxRecDepth 20000 in
theorem ggX2_guest_X2_requireGuest : GoodIn wsX2_guest wsX2_requireGuest := goodIn_ca (goodIn_r _ [6, 7, 8] (by decide +kernel) (by decide +kernel)) (goodIn_sub (fun _ h => List.mem_cons_of_mem _ (List.mem_append_left _ (List.mem_append_right _ h))) (by decide +kernel))
set_option maxRecDepth 20000 in
theorem gX2_guest_X2_requireGuest : GoodIn wsX2_guest (va_wsS RX2 44 yX2_requireGuest wsX2_requireGuest) := goodIn_app (goodIn_of _ (by decide +kernel)) ggX2_guest_X2_requireGuest
set_option maxRecDepth 20000 in
theorem ggX2_guest_X2_requireWithin : GoodIn wsX2_guest wsX2_requireWithin := goodIn_ca (goodIn_r _ [11, 12, 13] (by decide +kernel) (by decide +kernel)) (goodIn_sub (fun _ h => List.mem_cons_of_mem _ (List.mem_append_right _ h)) (by decide +kernel))
set_option maxRecDepth 20000 in
theorem gX2_guest_X2_requireWithin : GoodIn wsX2_guest (va_wsS RX2 48 yX2_requireWithin wsX2_requireWithin) := goodIn_app (goodIn_of _ (by decide +kernel)) ggX2_guest_X2_requireWithin
set_option maxRecDepth 20000 in
theorem ggX2_guest_X1_potsWith : GoodIn wsX2_guest wsX1_potsWith := goodIn_r _ [18, 19, 28] (by decide +kernel) (by decide +kernel)
set_option maxRecDepth 20000 in
theorem gX2_guest_X1_potsWith : GoodIn wsX2_guest (wsV RX2 155 RX1 yX1_potsWith wsX1_potsWith) := goodIn_app (goodIn_of _ (by decide +kernel)) ggX2_guest_X1_potsWith
theorem dX2_guest_0 : decode cX2_guest 0 = .ok (.iload_n 1, 1) := by decide +kernel
theorem dX2_guest_1 : decode cX2_guest 1 = .ok (.invokestatic 44, 3) := by decide +kernel
theorem dX2_guest_4 : decode cX2_guest 4 = .ok (.iload_n 2, 1) := by decide +kernel
theorem dX2_guest_5 : decode cX2_guest 5 = .ok (.iconst 0, 1) := by decide +kernel
theorem dX2_guest_6 : decode cX2_guest 6 = .ok (.bipush 9, 2) := by decide +kernel
theorem dX2_guest_8 : decode cX2_guest 8 = .ok (.invokestatic 48, 3) := by decide +kernel
theorem dX2_guest_11 : decode cX2_guest 11 = .ok (.iload_n 2, 1) := by decide +kernel
theorem dX2_guest_12 : decode cX2_guest 12 = .ok (.bipush 9, 2) := by decide +kernel
theorem dX2_guest_14 : decode cX2_guest 14 = .ok (.if_icmp .ne 12, 3) := by decide +kernel
theorem dX2_guest_17 : decode cX2_guest 17 = .ok (.aload_n 0, 1) := by decide +kernel
theorem dX2_guest_18 : decode cX2_guest 18 = .ok (.getfield 12, 3) := by decide +kernel
theorem dX2_guest_21 : decode cX2_guest 21 = .ok (.iload_n 1, 1) := by decide +kernel
theorem dX2_guest_22 : decode cX2_guest 22 = .ok (.invokevirtual 155, 3) := by decide +kernel
theorem dX2_guest_25 : decode cX2_guest 25 = .ok (.ireturn, 1) := by decide +kernel
theorem dX2_guest_26 : decode cX2_guest 26 = .ok (.aload_n 0, 1) := by decide +kernel
theorem dX2_guest_27 : decode cX2_guest 27 = .ok (.getfield 12, 3) := by decide +kernel
theorem dX2_guest_30 : decode cX2_guest 30 = .ok (.getfield 55, 3) := by decide +kernel
theorem dX2_guest_33 : decode cX2_guest 33 = .ok (.iload_n 2, 1) := by decide +kernel
theorem dX2_guest_34 : decode cX2_guest 34 = .ok (.bipush 8, 2) := by decide +kernel
theorem dX2_guest_36 : decode cX2_guest 36 = .ok (.imul, 1) := by decide +kernel
theorem dX2_guest_37 : decode cX2_guest 37 = .ok (.iload_n 1, 1) := by decide +kernel
theorem dX2_guest_38 : decode cX2_guest 38 = .ok (.iadd, 1) := by decide +kernel
theorem dX2_guest_39 : decode cX2_guest 39 = .ok (.iaload, 1) := by decide +kernel
theorem dX2_guest_40 : decode cX2_guest 40 = .ok (.ireturn, 1) := by decide +kernel
set_option maxRecDepth 20000 in
theorem ggX2_pot_X2_requirePot : GoodIn wsX2_pot wsX2_requirePot := goodIn_ca (goodIn_r _ [6, 7, 8] (by decide +kernel) (by decide +kernel)) (goodIn_sub (fun _ h => List.mem_cons_of_mem _ (List.mem_append_left _ (List.mem_append_right _ h))) (by decide +kernel))
set_option maxRecDepth 20000 in
theorem gX2_pot_X2_requirePot : GoodIn wsX2_pot (va_wsS RX2 70 yX2_requirePot wsX2_requirePot) := goodIn_app (goodIn_of _ (by decide +kernel)) ggX2_pot_X2_requirePot
set_option maxRecDepth 20000 in
theorem ggX2_pot_X2_requireWithin : GoodIn wsX2_pot wsX2_requireWithin := goodIn_ca (goodIn_r _ [11, 12, 13] (by decide +kernel) (by decide +kernel)) (goodIn_sub (fun _ h => List.mem_cons_of_mem _ (List.mem_append_right _ h)) (by decide +kernel))
set_option maxRecDepth 20000 in
theorem gX2_pot_X2_requireWithin : GoodIn wsX2_pot (va_wsS RX2 48 yX2_requireWithin wsX2_requireWithin) := goodIn_app (goodIn_of _ (by decide +kernel)) ggX2_pot_X2_requireWithin
set_option maxRecDepth 20000 in
theorem ggX2_pot_X1_weightOf : GoodIn wsX2_pot wsX1_weightOf := goodIn_r _ [18, 19, 41] (by decide +kernel) (by decide +kernel)
set_option maxRecDepth 20000 in
theorem gX2_pot_X1_weightOf : GoodIn wsX2_pot (wsV RX2 158 RX1 yX1_weightOf wsX1_weightOf) := goodIn_app (goodIn_of _ (by decide +kernel)) ggX2_pot_X1_weightOf
set_option maxRecDepth 20000 in
theorem ggX2_pot_X1_guessOf : GoodIn wsX2_pot wsX1_guessOf := goodIn_r _ [23, 19, 24, 15, 16, 17, 18, 41] (by decide +kernel) (by decide +kernel)
set_option maxRecDepth 20000 in
theorem gX2_pot_X1_guessOf : GoodIn wsX2_pot (wsV RX2 161 RX1 yX1_guessOf wsX1_guessOf) := goodIn_app (goodIn_of _ (by decide +kernel)) ggX2_pot_X1_guessOf
set_option maxRecDepth 20000 in
theorem ggX2_pot_X1_whyNotPour : GoodIn wsX2_pot wsX1_whyNotPour := goodIn_r _ [28, 19, 29, 30, 31, 17, 32, 41] (by decide +kernel) (by decide +kernel)
set_option maxRecDepth 20000 in
theorem gX2_pot_X1_whyNotPour : GoodIn wsX2_pot (wsV RX2 83 RX1 yX1_whyNotPour wsX1_whyNotPour) := goodIn_app (goodIn_of _ (by decide +kernel)) ggX2_pot_X1_whyNotPour
theorem dX2_pot_0 : decode cX2_pot 0 = .ok (.iload_n 1, 1) := by decide +kernel
theorem dX2_pot_1 : decode cX2_pot 1 = .ok (.invokestatic 70, 3) := by decide +kernel
theorem dX2_pot_4 : decode cX2_pot 4 = .ok (.iload_n 2, 1) := by decide +kernel
theorem dX2_pot_5 : decode cX2_pot 5 = .ok (.iconst 0, 1) := by decide +kernel
theorem dX2_pot_6 : decode cX2_pot 6 = .ok (.bipush 7, 2) := by decide +kernel
theorem dX2_pot_8 : decode cX2_pot 8 = .ok (.invokestatic 48, 3) := by decide +kernel
theorem dX2_pot_11 : decode cX2_pot 11 = .ok (.iload_n 2, 1) := by decide +kernel
theorem dX2_pot_12 : decode cX2_pot 12 = .ok (.tableswitch 123 0 6 #[44, 57, 70, 83, 92, 101, 110], 44) := by decide +kernel
theorem dX2_pot_56 : decode cX2_pot 56 = .ok (.aload_n 0, 1) := by decide +kernel
theorem dX2_pot_57 : decode cX2_pot 57 = .ok (.getfield 12, 3) := by decide +kernel
theorem dX2_pot_60 : decode cX2_pot 60 = .ok (.getfield 55, 3) := by decide +kernel
theorem dX2_pot_63 : decode cX2_pot 63 = .ok (.bipush 72, 2) := by decide +kernel
theorem dX2_pot_65 : decode cX2_pot 65 = .ok (.iload_n 1, 1) := by decide +kernel
theorem dX2_pot_66 : decode cX2_pot 66 = .ok (.iadd, 1) := by decide +kernel
theorem dX2_pot_67 : decode cX2_pot 67 = .ok (.iaload, 1) := by decide +kernel
theorem dX2_pot_68 : decode cX2_pot 68 = .ok (.ireturn, 1) := by decide +kernel
theorem dX2_pot_69 : decode cX2_pot 69 = .ok (.aload_n 0, 1) := by decide +kernel
theorem dX2_pot_70 : decode cX2_pot 70 = .ok (.getfield 12, 3) := by decide +kernel
theorem dX2_pot_73 : decode cX2_pot 73 = .ok (.getfield 55, 3) := by decide +kernel
theorem dX2_pot_76 : decode cX2_pot 76 = .ok (.bipush 75, 2) := by decide +kernel
theorem dX2_pot_78 : decode cX2_pot 78 = .ok (.iload_n 1, 1) := by decide +kernel
theorem dX2_pot_79 : decode cX2_pot 79 = .ok (.iadd, 1) := by decide +kernel
theorem dX2_pot_80 : decode cX2_pot 80 = .ok (.iaload, 1) := by decide +kernel
theorem dX2_pot_81 : decode cX2_pot 81 = .ok (.ireturn, 1) := by decide +kernel
theorem dX2_pot_82 : decode cX2_pot 82 = .ok (.aload_n 0, 1) := by decide +kernel
theorem dX2_pot_83 : decode cX2_pot 83 = .ok (.getfield 12, 3) := by decide +kernel
theorem dX2_pot_86 : decode cX2_pot 86 = .ok (.getfield 55, 3) := by decide +kernel
theorem dX2_pot_89 : decode cX2_pot 89 = .ok (.bipush 78, 2) := by decide +kernel
theorem dX2_pot_91 : decode cX2_pot 91 = .ok (.iload_n 1, 1) := by decide +kernel
theorem dX2_pot_92 : decode cX2_pot 92 = .ok (.iadd, 1) := by decide +kernel
theorem dX2_pot_93 : decode cX2_pot 93 = .ok (.iaload, 1) := by decide +kernel
theorem dX2_pot_94 : decode cX2_pot 94 = .ok (.ireturn, 1) := by decide +kernel
theorem dX2_pot_95 : decode cX2_pot 95 = .ok (.aload_n 0, 1) := by decide +kernel
theorem dX2_pot_96 : decode cX2_pot 96 = .ok (.getfield 12, 3) := by decide +kernel
theorem dX2_pot_99 : decode cX2_pot 99 = .ok (.iload_n 1, 1) := by decide +kernel
theorem dX2_pot_100 : decode cX2_pot 100 = .ok (.invokevirtual 158, 3) := by decide +kernel
theorem dX2_pot_103 : decode cX2_pot 103 = .ok (.ireturn, 1) := by decide +kernel
theorem dX2_pot_104 : decode cX2_pot 104 = .ok (.aload_n 0, 1) := by decide +kernel
theorem dX2_pot_105 : decode cX2_pot 105 = .ok (.getfield 12, 3) := by decide +kernel
theorem dX2_pot_108 : decode cX2_pot 108 = .ok (.iload_n 1, 1) := by decide +kernel
theorem dX2_pot_109 : decode cX2_pot 109 = .ok (.invokevirtual 161, 3) := by decide +kernel
theorem dX2_pot_112 : decode cX2_pot 112 = .ok (.ireturn, 1) := by decide +kernel
theorem dX2_pot_113 : decode cX2_pot 113 = .ok (.aload_n 0, 1) := by decide +kernel
theorem dX2_pot_114 : decode cX2_pot 114 = .ok (.getfield 12, 3) := by decide +kernel
theorem dX2_pot_117 : decode cX2_pot 117 = .ok (.iload_n 1, 1) := by decide +kernel
theorem dX2_pot_118 : decode cX2_pot 118 = .ok (.invokevirtual 83, 3) := by decide +kernel
theorem dX2_pot_121 : decode cX2_pot 121 = .ok (.ireturn, 1) := by decide +kernel
theorem dX2_pot_122 : decode cX2_pot 122 = .ok (.aload_n 0, 1) := by decide +kernel
theorem dX2_pot_123 : decode cX2_pot 123 = .ok (.getfield 12, 3) := by decide +kernel
theorem dX2_pot_126 : decode cX2_pot 126 = .ok (.getfield 55, 3) := by decide +kernel
theorem dX2_pot_129 : decode cX2_pot 129 = .ok (.bipush 81, 2) := by decide +kernel
theorem dX2_pot_131 : decode cX2_pot 131 = .ok (.iload_n 1, 1) := by decide +kernel
theorem dX2_pot_132 : decode cX2_pot 132 = .ok (.iadd, 1) := by decide +kernel
theorem dX2_pot_133 : decode cX2_pot 133 = .ok (.iaload, 1) := by decide +kernel
theorem dX2_pot_134 : decode cX2_pot 134 = .ok (.ireturn, 1) := by decide +kernel
theorem dX2_pot_135 : decode cX2_pot 135 = .ok (.aload_n 0, 1) := by decide +kernel
theorem dX2_pot_136 : decode cX2_pot 136 = .ok (.getfield 12, 3) := by decide +kernel
theorem dX2_pot_139 : decode cX2_pot 139 = .ok (.getfield 55, 3) := by decide +kernel
theorem dX2_pot_142 : decode cX2_pot 142 = .ok (.bipush 84, 2) := by decide +kernel
theorem dX2_pot_144 : decode cX2_pot 144 = .ok (.iload_n 1, 1) := by decide +kernel
theorem dX2_pot_145 : decode cX2_pot 145 = .ok (.iadd, 1) := by decide +kernel
theorem dX2_pot_146 : decode cX2_pot 146 = .ok (.iaload, 1) := by decide +kernel
theorem dX2_pot_147 : decode cX2_pot 147 = .ok (.ireturn, 1) := by decide +kernel
set_option maxRecDepth 20000 in
theorem ggX2_told_X2_requirePot : GoodIn wsX2_told wsX2_requirePot := goodIn_ca (goodIn_r _ [6, 7, 8] (by decide +kernel) (by decide +kernel)) (goodIn_sub (fun _ h => List.mem_cons_of_mem _ (List.mem_append_right _ h)) (by decide +kernel))
set_option maxRecDepth 20000 in
theorem gX2_told_X2_requirePot : GoodIn wsX2_told (va_wsS RX2 70 yX2_requirePot wsX2_requirePot) := goodIn_app (goodIn_of _ (by decide +kernel)) ggX2_told_X2_requirePot
set_option maxRecDepth 20000 in
theorem ggX2_told_X2_requireGuest : GoodIn wsX2_told wsX2_requireGuest := goodIn_ca (goodIn_r _ [11, 7, 8] (by decide +kernel) (by decide +kernel)) (goodIn_sub (fun _ h => List.mem_cons_of_mem _ (List.mem_append_right _ h)) (by decide +kernel))
set_option maxRecDepth 20000 in
theorem gX2_told_X2_requireGuest : GoodIn wsX2_told (va_wsS RX2 44 yX2_requireGuest wsX2_requireGuest) := goodIn_app (goodIn_of _ (by decide +kernel)) ggX2_told_X2_requireGuest
theorem dX2_told_0 : decode cX2_told 0 = .ok (.iload_n 1, 1) := by decide +kernel
theorem dX2_told_1 : decode cX2_told 1 = .ok (.invokestatic 70, 3) := by decide +kernel
theorem dX2_told_4 : decode cX2_told 4 = .ok (.iload_n 2, 1) := by decide +kernel
theorem dX2_told_5 : decode cX2_told 5 = .ok (.invokestatic 44, 3) := by decide +kernel
theorem dX2_told_8 : decode cX2_told 8 = .ok (.aload_n 0, 1) := by decide +kernel
theorem dX2_told_9 : decode cX2_told 9 = .ok (.getfield 12, 3) := by decide +kernel
theorem dX2_told_12 : decode cX2_told 12 = .ok (.getfield 55, 3) := by decide +kernel
theorem dX2_told_15 : decode cX2_told 15 = .ok (.bipush 87, 2) := by decide +kernel
theorem dX2_told_17 : decode cX2_told 17 = .ok (.iload_n 1, 1) := by decide +kernel
theorem dX2_told_18 : decode cX2_told 18 = .ok (.bipush 8, 2) := by decide +kernel
theorem dX2_told_20 : decode cX2_told 20 = .ok (.imul, 1) := by decide +kernel
theorem dX2_told_21 : decode cX2_told 21 = .ok (.iadd, 1) := by decide +kernel
theorem dX2_told_22 : decode cX2_told 22 = .ok (.iload_n 2, 1) := by decide +kernel
theorem dX2_told_23 : decode cX2_told 23 = .ok (.iadd, 1) := by decide +kernel
theorem dX2_told_24 : decode cX2_told 24 = .ok (.iaload, 1) := by decide +kernel
theorem dX2_told_25 : decode cX2_told 25 = .ok (.ireturn, 1) := by decide +kernel
set_option maxRecDepth 20000 in
theorem ggX2_tale_X2_requireWithin : GoodIn wsX2_tale wsX2_requireWithin := goodIn_ca (goodIn_r _ [8, 9, 10] (by decide +kernel) (by decide +kernel)) (goodIn_sub (fun _ h => List.mem_cons_of_mem _ (List.mem_append_right _ h)) (by decide +kernel))
set_option maxRecDepth 20000 in
theorem gX2_tale_X2_requireWithin : GoodIn wsX2_tale (va_wsS RX2 48 yX2_requireWithin wsX2_requireWithin) := goodIn_app (goodIn_of _ (by decide +kernel)) ggX2_tale_X2_requireWithin
theorem dX2_tale_0 : decode cX2_tale 0 = .ok (.iload_n 1, 1) := by decide +kernel
theorem dX2_tale_1 : decode cX2_tale 1 = .ok (.ifCond .ge 13, 3) := by decide +kernel
theorem dX2_tale_4 : decode cX2_tale 4 = .ok (.new 164, 3) := by decide +kernel
theorem dX2_tale_7 : decode cX2_tale 7 = .ok (.dup, 1) := by decide +kernel
theorem dX2_tale_8 : decode cX2_tale 8 = .ok (.ldc 166, 2) := by decide +kernel
theorem dX2_tale_10 : decode cX2_tale 10 = .ok (.invokespecial 168, 3) := by decide +kernel
theorem dX2_tale_13 : decode cX2_tale 13 = .ok (.athrow, 1) := by decide +kernel
theorem dX2_tale_14 : decode cX2_tale 14 = .ok (.iload_n 2, 1) := by decide +kernel
theorem dX2_tale_15 : decode cX2_tale 15 = .ok (.iconst 0, 1) := by decide +kernel
theorem dX2_tale_16 : decode cX2_tale 16 = .ok (.iconst 1, 1) := by decide +kernel
theorem dX2_tale_17 : decode cX2_tale 17 = .ok (.invokestatic 48, 3) := by decide +kernel
theorem dX2_tale_20 : decode cX2_tale 20 = .ok (.iload_n 1, 1) := by decide +kernel
theorem dX2_tale_21 : decode cX2_tale 21 = .ok (.aload_n 0, 1) := by decide +kernel
theorem dX2_tale_22 : decode cX2_tale 22 = .ok (.getfield 12, 3) := by decide +kernel
theorem dX2_tale_25 : decode cX2_tale 25 = .ok (.getfield 55, 3) := by decide +kernel
theorem dX2_tale_28 : decode cX2_tale 28 = .ok (.sipush 135, 3) := by decide +kernel
theorem dX2_tale_31 : decode cX2_tale 31 = .ok (.iaload, 1) := by decide +kernel
theorem dX2_tale_32 : decode cX2_tale 32 = .ok (.if_icmp .lt 5, 3) := by decide +kernel
theorem dX2_tale_35 : decode cX2_tale 35 = .ok (.iconst (-1), 1) := by decide +kernel
theorem dX2_tale_36 : decode cX2_tale 36 = .ok (.ireturn, 1) := by decide +kernel
theorem dX2_tale_37 : decode cX2_tale 37 = .ok (.aload_n 0, 1) := by decide +kernel
theorem dX2_tale_38 : decode cX2_tale 38 = .ok (.getfield 12, 3) := by decide +kernel
theorem dX2_tale_41 : decode cX2_tale 41 = .ok (.getfield 55, 3) := by decide +kernel
theorem dX2_tale_44 : decode cX2_tale 44 = .ok (.bipush 111, 2) := by decide +kernel
theorem dX2_tale_46 : decode cX2_tale 46 = .ok (.iload_n 1, 1) := by decide +kernel
theorem dX2_tale_47 : decode cX2_tale 47 = .ok (.iadd, 1) := by decide +kernel
theorem dX2_tale_48 : decode cX2_tale 48 = .ok (.iaload, 1) := by decide +kernel
theorem dX2_tale_49 : decode cX2_tale 49 = .ok (.istore_n 3, 1) := by decide +kernel
theorem dX2_tale_50 : decode cX2_tale 50 = .ok (.iload_n 2, 1) := by decide +kernel
theorem dX2_tale_51 : decode cX2_tale 51 = .ok (.ifCond .ne 7, 3) := by decide +kernel
theorem dX2_tale_54 : decode cX2_tale 54 = .ok (.iload_n 3, 1) := by decide +kernel
theorem dX2_tale_55 : decode cX2_tale 55 = .ok (.goto 15, 3) := by decide +kernel
theorem dX2_tale_58 : decode cX2_tale 58 = .ok (.aload_n 0, 1) := by decide +kernel
theorem dX2_tale_59 : decode cX2_tale 59 = .ok (.getfield 12, 3) := by decide +kernel
theorem dX2_tale_62 : decode cX2_tale 62 = .ok (.getfield 55, 3) := by decide +kernel
theorem dX2_tale_65 : decode cX2_tale 65 = .ok (.bipush 87, 2) := by decide +kernel
theorem dX2_tale_67 : decode cX2_tale 67 = .ok (.iload_n 3, 1) := by decide +kernel
theorem dX2_tale_68 : decode cX2_tale 68 = .ok (.iadd, 1) := by decide +kernel
theorem dX2_tale_69 : decode cX2_tale 69 = .ok (.iaload, 1) := by decide +kernel
theorem dX2_tale_70 : decode cX2_tale 70 = .ok (.ireturn, 1) := by decide +kernel
set_option maxRecDepth 20000 in
theorem ggX2_count_X2_requireWithin : GoodIn wsX2_count wsX2_requireWithin := goodIn_ca (goodIn_r _ [7, 8, 9] (by decide +kernel) (by decide +kernel)) (goodIn_sub (fun _ h => List.mem_cons_of_mem _ (List.mem_append_right _ h)) (by decide +kernel))
set_option maxRecDepth 20000 in
theorem gX2_count_X2_requireWithin : GoodIn wsX2_count (va_wsS RX2 48 yX2_requireWithin wsX2_requireWithin) := goodIn_app (goodIn_of _ (by decide +kernel)) ggX2_count_X2_requireWithin
set_option maxRecDepth 20000 in
theorem ggX2_count_X1_brewedSoFar : GoodIn wsX2_count wsX1_brewedSoFar := goodIn_r _ [14, 15, 16, 17, 13, 18, 19, 46] (by decide +kernel) (by decide +kernel)
set_option maxRecDepth 20000 in
theorem gX2_count_X1_brewedSoFar : GoodIn wsX2_count (wsV RX2 169 RX1 yX1_brewedSoFar wsX1_brewedSoFar) := goodIn_app (goodIn_of _ (by decide +kernel)) ggX2_count_X1_brewedSoFar
set_option maxRecDepth 20000 in
theorem ggX2_count_X1_sumOverGuests : GoodIn wsX2_count wsX1_sumOverGuests := goodIn_r _ [23, 15, 16, 17, 13, 18, 19, 46] (by decide +kernel) (by decide +kernel)
set_option maxRecDepth 20000 in
theorem gX2_count_X1_sumOverGuests : GoodIn wsX2_count (wsV RX2 172 RX1 yX1_sumOverGuests wsX1_sumOverGuests) := goodIn_app (goodIn_of _ (by decide +kernel)) ggX2_count_X1_sumOverGuests
set_option maxRecDepth 20000 in
theorem ggX2_count_X1_teaInPots : GoodIn wsX2_count wsX1_teaInPots := goodIn_r _ [27, 15, 16, 17, 13, 18, 19, 46] (by decide +kernel) (by decide +kernel)
set_option maxRecDepth 20000 in
theorem gX2_count_X1_teaInPots : GoodIn wsX2_count (wsV RX2 148 RX1 yX1_teaInPots wsX1_teaInPots) := goodIn_app (goodIn_of _ (by decide +kernel)) ggX2_count_X1_teaInPots
set_option maxRecDepth 20000 in
theorem ggX2_count_X1_teaByAccounts : GoodIn wsX2_count wsX1_teaByAccounts := goodIn_r _ [31, 32, 11, 12, 13, 14, 15, 16, 17, 18, 19, 33, 21, 22, 23, 46] (by decide +kernel) (by decide +kernel)
set_option maxRecDepth 20000 in
theorem gX2_count_X1_teaByAccounts : GoodIn wsX2_count (wsV RX2 175 RX1 yX1_teaByAccounts wsX1_teaByAccounts) := goodIn_app (goodIn_of _ (by decide +kernel)) ggX2_count_X1_teaByAccounts
set_option maxRecDepth 20000 in
theorem ggX2_count_X1_handedSoFar : GoodIn wsX2_count wsX1_handedSoFar := goodIn_r _ [37, 15, 16, 17, 13, 18, 19, 46] (by decide +kernel) (by decide +kernel)
set_option maxRecDepth 20000 in
theorem gX2_count_X1_handedSoFar : GoodIn wsX2_count (wsV RX2 178 RX1 yX1_handedSoFar wsX1_handedSoFar) := goodIn_app (goodIn_of _ (by decide +kernel)) ggX2_count_X1_handedSoFar
theorem dX2_count_0 : decode cX2_count 0 = .ok (.iload_n 1, 1) := by decide +kernel
theorem dX2_count_1 : decode cX2_count 1 = .ok (.iconst 0, 1) := by decide +kernel
theorem dX2_count_2 : decode cX2_count 2 = .ok (.bipush 9, 2) := by decide +kernel
theorem dX2_count_4 : decode cX2_count 4 = .ok (.invokestatic 48, 3) := by decide +kernel
theorem dX2_count_7 : decode cX2_count 7 = .ok (.iload_n 1, 1) := by decide +kernel
theorem dX2_count_8 : decode cX2_count 8 = .ok (.tableswitch 150 0 8 #[52, 60, 70, 80, 98, 106, 118, 130, 138], 52) := by decide +kernel
theorem dX2_count_60 : decode cX2_count 60 = .ok (.aload_n 0, 1) := by decide +kernel
theorem dX2_count_61 : decode cX2_count 61 = .ok (.getfield 12, 3) := by decide +kernel
theorem dX2_count_64 : decode cX2_count 64 = .ok (.invokevirtual 169, 3) := by decide +kernel
theorem dX2_count_67 : decode cX2_count 67 = .ok (.ireturn, 1) := by decide +kernel
theorem dX2_count_68 : decode cX2_count 68 = .ok (.aload_n 0, 1) := by decide +kernel
theorem dX2_count_69 : decode cX2_count 69 = .ok (.getfield 12, 3) := by decide +kernel
theorem dX2_count_72 : decode cX2_count 72 = .ok (.bipush 48, 2) := by decide +kernel
theorem dX2_count_74 : decode cX2_count 74 = .ok (.invokevirtual 172, 3) := by decide +kernel
theorem dX2_count_77 : decode cX2_count 77 = .ok (.ireturn, 1) := by decide +kernel
theorem dX2_count_78 : decode cX2_count 78 = .ok (.aload_n 0, 1) := by decide +kernel
theorem dX2_count_79 : decode cX2_count 79 = .ok (.getfield 12, 3) := by decide +kernel
theorem dX2_count_82 : decode cX2_count 82 = .ok (.bipush 56, 2) := by decide +kernel
theorem dX2_count_84 : decode cX2_count 84 = .ok (.invokevirtual 172, 3) := by decide +kernel
theorem dX2_count_87 : decode cX2_count 87 = .ok (.ireturn, 1) := by decide +kernel
theorem dX2_count_88 : decode cX2_count 88 = .ok (.aload_n 0, 1) := by decide +kernel
theorem dX2_count_89 : decode cX2_count 89 = .ok (.getfield 12, 3) := by decide +kernel
theorem dX2_count_92 : decode cX2_count 92 = .ok (.invokevirtual 148, 3) := by decide +kernel
theorem dX2_count_95 : decode cX2_count 95 = .ok (.aload_n 0, 1) := by decide +kernel
theorem dX2_count_96 : decode cX2_count 96 = .ok (.getfield 12, 3) := by decide +kernel
theorem dX2_count_99 : decode cX2_count 99 = .ok (.bipush 8, 2) := by decide +kernel
theorem dX2_count_101 : decode cX2_count 101 = .ok (.invokevirtual 172, 3) := by decide +kernel
theorem dX2_count_104 : decode cX2_count 104 = .ok (.iadd, 1) := by decide +kernel
theorem dX2_count_105 : decode cX2_count 105 = .ok (.ireturn, 1) := by decide +kernel
theorem dX2_count_106 : decode cX2_count 106 = .ok (.aload_n 0, 1) := by decide +kernel
theorem dX2_count_107 : decode cX2_count 107 = .ok (.getfield 12, 3) := by decide +kernel
theorem dX2_count_110 : decode cX2_count 110 = .ok (.invokevirtual 175, 3) := by decide +kernel
theorem dX2_count_113 : decode cX2_count 113 = .ok (.ireturn, 1) := by decide +kernel
theorem dX2_count_114 : decode cX2_count 114 = .ok (.aload_n 0, 1) := by decide +kernel
theorem dX2_count_115 : decode cX2_count 115 = .ok (.getfield 12, 3) := by decide +kernel
theorem dX2_count_118 : decode cX2_count 118 = .ok (.getfield 55, 3) := by decide +kernel
theorem dX2_count_121 : decode cX2_count 121 = .ok (.sipush 136, 3) := by decide +kernel
theorem dX2_count_124 : decode cX2_count 124 = .ok (.iaload, 1) := by decide +kernel
theorem dX2_count_125 : decode cX2_count 125 = .ok (.ireturn, 1) := by decide +kernel
theorem dX2_count_126 : decode cX2_count 126 = .ok (.aload_n 0, 1) := by decide +kernel
theorem dX2_count_127 : decode cX2_count 127 = .ok (.getfield 12, 3) := by decide +kernel
theorem dX2_count_130 : decode cX2_count 130 = .ok (.getfield 55, 3) := by decide +kernel
theorem dX2_count_133 : decode cX2_count 133 = .ok (.sipush 137, 3) := by decide +kernel
theorem dX2_count_136 : decode cX2_count 136 = .ok (.iaload, 1) := by decide +kernel
theorem dX2_count_137 : decode cX2_count 137 = .ok (.ireturn, 1) := by decide +kernel
theorem dX2_count_138 : decode cX2_count 138 = .ok (.aload_n 0, 1) := by decide +kernel
theorem dX2_count_139 : decode cX2_count 139 = .ok (.getfield 12, 3) := by decide +kernel
theorem dX2_count_142 : decode cX2_count 142 = .ok (.invokevirtual 178, 3) := by decide +kernel
theorem dX2_count_145 : decode cX2_count 145 = .ok (.ireturn, 1) := by decide +kernel
theorem dX2_count_146 : decode cX2_count 146 = .ok (.aload_n 0, 1) := by decide +kernel
theorem dX2_count_147 : decode cX2_count 147 = .ok (.getfield 12, 3) := by decide +kernel
theorem dX2_count_150 : decode cX2_count 150 = .ok (.getfield 55, 3) := by decide +kernel
theorem dX2_count_153 : decode cX2_count 153 = .ok (.sipush 135, 3) := by decide +kernel
theorem dX2_count_156 : decode cX2_count 156 = .ok (.iaload, 1) := by decide +kernel
theorem dX2_count_157 : decode cX2_count 157 = .ok (.ireturn, 1) := by decide +kernel
theorem dX2_count_158 : decode cX2_count 158 = .ok (.aload_n 0, 1) := by decide +kernel
theorem dX2_count_159 : decode cX2_count 159 = .ok (.getfield 37, 3) := by decide +kernel
theorem dX2_count_162 : decode cX2_count 162 = .ok (.ireturn, 1) := by decide +kernel
set_option maxRecDepth 20000 in
theorem ggX2_ifPoured_X2_requirePot : GoodIn wsX2_ifPoured wsX2_requirePot := goodIn_ca (goodIn_r _ [5, 6, 7] (by decide +kernel) (by decide +kernel)) (goodIn_sub (fun _ h => List.mem_cons_of_mem _ (List.mem_append_left _ (List.mem_append_right _ h))) (by decide +kernel))
set_option maxRecDepth 20000 in
theorem gX2_ifPoured_X2_requirePot : GoodIn wsX2_ifPoured (va_wsS RX2 70 yX2_requirePot wsX2_requirePot) := goodIn_app (goodIn_of _ (by decide +kernel)) ggX2_ifPoured_X2_requirePot
set_option maxRecDepth 20000 in
theorem ggX2_ifPoured_X2_requireWithin : GoodIn wsX2_ifPoured wsX2_requireWithin := goodIn_ca (goodIn_r _ [10, 11, 12] (by decide +kernel) (by decide +kernel)) (goodIn_sub (fun _ h => List.mem_cons_of_mem _ (List.mem_append_right _ h)) (by decide +kernel))
set_option maxRecDepth 20000 in
theorem gX2_ifPoured_X2_requireWithin : GoodIn wsX2_ifPoured (va_wsS RX2 48 yX2_requireWithin wsX2_requireWithin) := goodIn_app (goodIn_of _ (by decide +kernel)) ggX2_ifPoured_X2_requireWithin
set_option maxRecDepth 20000 in
theorem ggX2_ifPoured_X1_whyNotPour : GoodIn wsX2_ifPoured wsX1_whyNotPour := goodIn_r _ [17, 18, 19, 20, 21, 16, 22, 56] (by decide +kernel) (by decide +kernel)
set_option maxRecDepth 20000 in
theorem gX2_ifPoured_X1_whyNotPour : GoodIn wsX2_ifPoured (wsV RX2 83 RX1 yX1_whyNotPour wsX1_whyNotPour) := goodIn_app (goodIn_of _ (by decide +kernel)) ggX2_ifPoured_X1_whyNotPour
set_option maxRecDepth 20000 in
theorem ggX2_ifPoured_X1_comesFrom : GoodIn wsX2_ifPoured wsX1_comesFrom := goodIn_r _ [26, 18, 27, 28, 29, 16, 30, 31, 32, 33, 34, 19, 20, 21, 22, 56] (by decide +kernel) (by decide +kernel)
set_option maxRecDepth 20000 in
theorem gX2_ifPoured_X1_comesFrom : GoodIn wsX2_ifPoured (wsV RX2 181 RX1 yX1_comesFrom wsX1_comesFrom) := goodIn_app (goodIn_of _ (by decide +kernel)) ggX2_ifPoured_X1_comesFrom
set_option maxRecDepth 20000 in
theorem ggX2_ifPoured_X1_wouldSpillFrom : GoodIn wsX2_ifPoured wsX1_wouldSpillFrom := goodIn_r _ [38, 18, 39, 24, 25, 16, 26, 27, 28, 29, 30, 31, 32, 33, 34, 19, 20, 21, 22, 56] (by decide +kernel) (by decide +kernel)
set_option maxRecDepth 20000 in
theorem gX2_ifPoured_X1_wouldSpillFrom : GoodIn wsX2_ifPoured (wsV RX2 184 RX1 yX1_wouldSpillFrom wsX1_wouldSpillFrom) := goodIn_app (goodIn_of _ (by decide +kernel)) ggX2_ifPoured_X1_wouldSpillFrom
set_option maxRecDepth 20000 in
theorem ggX2_ifPoured_X1_trustAfter : GoodIn wsX2_ifPoured wsX1_trustAfter := goodIn_r _ [43, 18, 44, 45, 46, 47, 31, 32, 33, 16, 34, 56] (by decide +kernel) (by decide +kernel)
set_option maxRecDepth 20000 in
theorem gX2_ifPoured_X1_trustAfter : GoodIn wsX2_ifPoured (wsV RX2 187 RX1 yX1_trustAfter wsX1_trustAfter) := goodIn_app (goodIn_of _ (by decide +kernel)) ggX2_ifPoured_X1_trustAfter
theorem dX2_ifPoured_0 : decode cX2_ifPoured 0 = .ok (.iload_n 1, 1) := by decide +kernel
theorem dX2_ifPoured_1 : decode cX2_ifPoured 1 = .ok (.invokestatic 70, 3) := by decide +kernel
theorem dX2_ifPoured_4 : decode cX2_ifPoured 4 = .ok (.iload_n 2, 1) := by decide +kernel
theorem dX2_ifPoured_5 : decode cX2_ifPoured 5 = .ok (.iconst 0, 1) := by decide +kernel
theorem dX2_ifPoured_6 : decode cX2_ifPoured 6 = .ok (.iconst 2, 1) := by decide +kernel
theorem dX2_ifPoured_7 : decode cX2_ifPoured 7 = .ok (.invokestatic 48, 3) := by decide +kernel
theorem dX2_ifPoured_10 : decode cX2_ifPoured 10 = .ok (.aload_n 0, 1) := by decide +kernel
theorem dX2_ifPoured_11 : decode cX2_ifPoured 11 = .ok (.getfield 12, 3) := by decide +kernel
theorem dX2_ifPoured_14 : decode cX2_ifPoured 14 = .ok (.iload_n 1, 1) := by decide +kernel
theorem dX2_ifPoured_15 : decode cX2_ifPoured 15 = .ok (.invokevirtual 83, 3) := by decide +kernel
theorem dX2_ifPoured_18 : decode cX2_ifPoured 18 = .ok (.ifCond .eq 5, 3) := by decide +kernel
theorem dX2_ifPoured_21 : decode cX2_ifPoured 21 = .ok (.iconst (-1), 1) := by decide +kernel
theorem dX2_ifPoured_22 : decode cX2_ifPoured 22 = .ok (.ireturn, 1) := by decide +kernel
theorem dX2_ifPoured_23 : decode cX2_ifPoured 23 = .ok (.iload_n 2, 1) := by decide +kernel
theorem dX2_ifPoured_24 : decode cX2_ifPoured 24 = .ok (.lookupswitch 46 #[(0, 28), (1, 37)], 28) := by decide +kernel
theorem dX2_ifPoured_52 : decode cX2_ifPoured 52 = .ok (.aload_n 0, 1) := by decide +kernel
theorem dX2_ifPoured_53 : decode cX2_ifPoured 53 = .ok (.getfield 12, 3) := by decide +kernel
theorem dX2_ifPoured_56 : decode cX2_ifPoured 56 = .ok (.iload_n 1, 1) := by decide +kernel
theorem dX2_ifPoured_57 : decode cX2_ifPoured 57 = .ok (.invokevirtual 181, 3) := by decide +kernel
theorem dX2_ifPoured_60 : decode cX2_ifPoured 60 = .ok (.ireturn, 1) := by decide +kernel
theorem dX2_ifPoured_61 : decode cX2_ifPoured 61 = .ok (.aload_n 0, 1) := by decide +kernel
theorem dX2_ifPoured_62 : decode cX2_ifPoured 62 = .ok (.getfield 12, 3) := by decide +kernel
theorem dX2_ifPoured_65 : decode cX2_ifPoured 65 = .ok (.iload_n 1, 1) := by decide +kernel
theorem dX2_ifPoured_66 : decode cX2_ifPoured 66 = .ok (.invokevirtual 184, 3) := by decide +kernel
theorem dX2_ifPoured_69 : decode cX2_ifPoured 69 = .ok (.ireturn, 1) := by decide +kernel
theorem dX2_ifPoured_70 : decode cX2_ifPoured 70 = .ok (.aload_n 0, 1) := by decide +kernel
theorem dX2_ifPoured_71 : decode cX2_ifPoured 71 = .ok (.getfield 12, 3) := by decide +kernel
theorem dX2_ifPoured_74 : decode cX2_ifPoured 74 = .ok (.iload_n 1, 1) := by decide +kernel
theorem dX2_ifPoured_75 : decode cX2_ifPoured 75 = .ok (.invokevirtual 187, 3) := by decide +kernel
theorem dX2_ifPoured_78 : decode cX2_ifPoured 78 = .ok (.ireturn, 1) := by decide +kernel
set_option maxRecDepth 20000 in
theorem ggX2_emptyIn_X2_requirePot : GoodIn wsX2_emptyIn wsX2_requirePot := goodIn_ca (goodIn_r _ [7, 8, 9] (by decide +kernel) (by decide +kernel)) (goodIn_sub (fun _ h => List.mem_cons_of_mem _ (List.mem_append_right _ h)) (by decide +kernel))
set_option maxRecDepth 20000 in
theorem gX2_emptyIn_X2_requirePot : GoodIn wsX2_emptyIn (va_wsS RX2 70 yX2_requirePot wsX2_requirePot) := goodIn_app (goodIn_of _ (by decide +kernel)) ggX2_emptyIn_X2_requirePot
set_option maxRecDepth 20000 in
theorem ggX2_emptyIn_X1_copyFrom : GoodIn wsX2_emptyIn wsX1_copyFrom := goodIn_r _ [14, 15, 16, 17, 18, 19, 82] (by decide +kernel) (by decide +kernel)
set_option maxRecDepth 20000 in
theorem gX2_emptyIn_X1_copyFrom : GoodIn wsX2_emptyIn (wsV RX2 144 RX1 yX1_copyFrom wsX1_copyFrom) := goodIn_app (goodIn_of _ (by decide +kernel)) ggX2_emptyIn_X1_copyFrom
set_option maxRecDepth 20000 in
theorem ggX2_emptyIn_X1_goRound : GoodIn wsX2_emptyIn wsX1_goRound := goodIn_r _ [23, 15, 24, 25, 26, 13, 27, 28, 29, 30, 31, 32, 33, 34, 35, 36, 37, 38, 39, 40, 41, 42, 43, 44, 45, 46, 47, 48, 49, 50, 51, 52, 53, 54, 55, 56, 57, 58, 59, 60, 61, 62, 63, 64, 65, 82] (by decide +kernel) (by decide +kernel)
set_option maxRecDepth 20000 in
theorem gX2_emptyIn_X1_goRound : GoodIn wsX2_emptyIn (wsV RX2 94 RX1 yX1_goRound wsX1_goRound) := goodIn_app (goodIn_of _ (by decide +kernel)) ggX2_emptyIn_X1_goRound
set_option maxRecDepth 20000 in
theorem ggX2_emptyIn_X1_allDrink : GoodIn wsX2_emptyIn wsX1_allDrink := goodIn_r _ [69, 70, 71, 72, 13, 73, 15, 63, 64, 38, 65, 82] (by decide +kernel) (by decide +kernel)
set_option maxRecDepth 20000 in
theorem gX2_emptyIn_X1_allDrink : GoodIn wsX2_emptyIn (wsV RX2 190 RX1 yX1_allDrink wsX1_allDrink) := goodIn_app (goodIn_of _ (by decide +kernel)) ggX2_emptyIn_X1_allDrink
theorem dX2_emptyIn_0 : decode cX2_emptyIn 0 = .ok (.iload_n 1, 1) := by decide +kernel
theorem dX2_emptyIn_1 : decode cX2_emptyIn 1 = .ok (.invokestatic 70, 3) := by decide +kernel
theorem dX2_emptyIn_4 : decode cX2_emptyIn 4 = .ok (.aload_n 0, 1) := by decide +kernel
theorem dX2_emptyIn_5 : decode cX2_emptyIn 5 = .ok (.getfield 19, 3) := by decide +kernel
theorem dX2_emptyIn_8 : decode cX2_emptyIn 8 = .ok (.aload_n 0, 1) := by decide +kernel
theorem dX2_emptyIn_9 : decode cX2_emptyIn 9 = .ok (.getfield 12, 3) := by decide +kernel
theorem dX2_emptyIn_12 : decode cX2_emptyIn 12 = .ok (.invokevirtual 144, 3) := by decide +kernel
theorem dX2_emptyIn_15 : decode cX2_emptyIn 15 = .ok (.iconst 0, 1) := by decide +kernel
theorem dX2_emptyIn_16 : decode cX2_emptyIn 16 = .ok (.istore_n 2, 1) := by decide +kernel
theorem dX2_emptyIn_17 : decode cX2_emptyIn 17 = .ok (.iload_n 2, 1) := by decide +kernel
theorem dX2_emptyIn_18 : decode cX2_emptyIn 18 = .ok (.bipush 20, 2) := by decide +kernel
theorem dX2_emptyIn_20 : decode cX2_emptyIn 20 = .ok (.if_icmp .gt 42, 3) := by decide +kernel
theorem dX2_emptyIn_23 : decode cX2_emptyIn 23 = .ok (.aload_n 0, 1) := by decide +kernel
theorem dX2_emptyIn_24 : decode cX2_emptyIn 24 = .ok (.getfield 19, 3) := by decide +kernel
theorem dX2_emptyIn_27 : decode cX2_emptyIn 27 = .ok (.getfield 55, 3) := by decide +kernel
theorem dX2_emptyIn_30 : decode cX2_emptyIn 30 = .ok (.bipush 75, 2) := by decide +kernel
theorem dX2_emptyIn_32 : decode cX2_emptyIn 32 = .ok (.iload_n 1, 1) := by decide +kernel
theorem dX2_emptyIn_33 : decode cX2_emptyIn 33 = .ok (.iadd, 1) := by decide +kernel
theorem dX2_emptyIn_34 : decode cX2_emptyIn 34 = .ok (.iaload, 1) := by decide +kernel
theorem dX2_emptyIn_35 : decode cX2_emptyIn 35 = .ok (.ifCond .ne 5, 3) := by decide +kernel
theorem dX2_emptyIn_38 : decode cX2_emptyIn 38 = .ok (.iload_n 2, 1) := by decide +kernel
theorem dX2_emptyIn_39 : decode cX2_emptyIn 39 = .ok (.ireturn, 1) := by decide +kernel
theorem dX2_emptyIn_40 : decode cX2_emptyIn 40 = .ok (.aload_n 0, 1) := by decide +kernel
theorem dX2_emptyIn_41 : decode cX2_emptyIn 41 = .ok (.getfield 19, 3) := by decide +kernel
theorem dX2_emptyIn_44 : decode cX2_emptyIn 44 = .ok (.iload_n 1, 1) := by decide +kernel
theorem dX2_emptyIn_45 : decode cX2_emptyIn 45 = .ok (.invokevirtual 94, 3) := by decide +kernel
theorem dX2_emptyIn_48 : decode cX2_emptyIn 48 = .ok (.pop, 1) := by decide +kernel
theorem dX2_emptyIn_49 : decode cX2_emptyIn 49 = .ok (.aload_n 0, 1) := by decide +kernel
theorem dX2_emptyIn_50 : decode cX2_emptyIn 50 = .ok (.getfield 19, 3) := by decide +kernel
theorem dX2_emptyIn_53 : decode cX2_emptyIn 53 = .ok (.invokevirtual 190, 3) := by decide +kernel
theorem dX2_emptyIn_56 : decode cX2_emptyIn 56 = .ok (.iinc 2 1, 3) := by decide +kernel
theorem dX2_emptyIn_59 : decode cX2_emptyIn 59 = .ok (.goto (-42), 3) := by decide +kernel
theorem dX2_emptyIn_62 : decode cX2_emptyIn 62 = .ok (.iconst (-1), 1) := by decide +kernel
theorem dX2_emptyIn_63 : decode cX2_emptyIn 63 = .ok (.ireturn, 1) := by decide +kernel
set_option maxRecDepth 20000 in
theorem ggX2_bestGuest_X2_requirePot : GoodIn wsX2_bestGuest wsX2_requirePot := goodIn_ca (goodIn_r _ [7, 8, 9] (by decide +kernel) (by decide +kernel)) (goodIn_sub (fun _ h => List.mem_cons_of_mem _ (List.mem_append_right _ h)) (by decide +kernel))
set_option maxRecDepth 20000 in
theorem gX2_bestGuest_X2_requirePot : GoodIn wsX2_bestGuest (va_wsS RX2 70 yX2_requirePot wsX2_requirePot) := goodIn_app (goodIn_of _ (by decide +kernel)) ggX2_bestGuest_X2_requirePot
set_option maxRecDepth 20000 in
theorem ggX2_bestGuest_X1_copyFrom : GoodIn wsX2_bestGuest wsX1_copyFrom := goodIn_r _ [14, 15, 16, 17, 18, 19, 63] (by decide +kernel) (by decide +kernel)
set_option maxRecDepth 20000 in
theorem gX2_bestGuest_X1_copyFrom : GoodIn wsX2_bestGuest (wsV RX2 144 RX1 yX1_copyFrom wsX1_copyFrom) := goodIn_app (goodIn_of _ (by decide +kernel)) ggX2_bestGuest_X1_copyFrom
set_option maxRecDepth 20000 in
theorem ggX2_bestGuest_X1_whyNotPour : GoodIn wsX2_bestGuest wsX1_whyNotPour := goodIn_r _ [23, 15, 24, 25, 26, 13, 27, 63] (by decide +kernel) (by decide +kernel)
set_option maxRecDepth 20000 in
theorem gX2_bestGuest_X1_whyNotPour : GoodIn wsX2_bestGuest (wsV RX2 83 RX1 yX1_whyNotPour wsX1_whyNotPour) := goodIn_app (goodIn_of _ (by decide +kernel)) ggX2_bestGuest_X1_whyNotPour
set_option maxRecDepth 20000 in
theorem ggX2_bestGuest_X1_wouldSpillFrom : GoodIn wsX2_bestGuest wsX1_wouldSpillFrom := goodIn_r _ [31, 15, 32, 33, 34, 13, 35, 36, 37, 38, 39, 40, 41, 42, 43, 24, 25, 26, 27, 63] (by decide +kernel) (by decide +kernel)
set_option maxRecDepth 20000 in
theorem gX2_bestGuest_X1_wouldSpillFrom : GoodIn wsX2_bestGuest (wsV RX2 184 RX1 yX1_wouldSpillFrom wsX1_wouldSpillFrom) := goodIn_app (goodIn_of _ (by decide +kernel)) ggX2_bestGuest_X1_wouldSpillFrom
set_option maxRecDepth 20000 in
theorem ggX2_bestGuest_X1_handOn : GoodIn wsX2_bestGuest wsX1_handOn := goodIn_r _ [47, 15, 48, 49, 50, 51, 52, 53, 54, 36, 37, 38, 13, 39, 40, 41, 42, 43, 63] (by decide +kernel) (by decide +kernel)
set_option maxRecDepth 20000 in
theorem gX2_bestGuest_X1_handOn : GoodIn wsX2_bestGuest (wsV RX2 91 RX1 yX1_handOn wsX1_handOn) := goodIn_app (goodIn_of _ (by decide +kernel)) ggX2_bestGuest_X1_handOn
theorem dX2_bestGuest_0 : decode cX2_bestGuest 0 = .ok (.iload_n 1, 1) := by decide +kernel
theorem dX2_bestGuest_1 : decode cX2_bestGuest 1 = .ok (.invokestatic 70, 3) := by decide +kernel
theorem dX2_bestGuest_4 : decode cX2_bestGuest 4 = .ok (.aload_n 0, 1) := by decide +kernel
theorem dX2_bestGuest_5 : decode cX2_bestGuest 5 = .ok (.getfield 19, 3) := by decide +kernel
theorem dX2_bestGuest_8 : decode cX2_bestGuest 8 = .ok (.aload_n 0, 1) := by decide +kernel
theorem dX2_bestGuest_9 : decode cX2_bestGuest 9 = .ok (.getfield 12, 3) := by decide +kernel
theorem dX2_bestGuest_12 : decode cX2_bestGuest 12 = .ok (.invokevirtual 144, 3) := by decide +kernel
theorem dX2_bestGuest_15 : decode cX2_bestGuest 15 = .ok (.iconst (-1), 1) := by decide +kernel
theorem dX2_bestGuest_16 : decode cX2_bestGuest 16 = .ok (.istore_n 2, 1) := by decide +kernel
theorem dX2_bestGuest_17 : decode cX2_bestGuest 17 = .ok (.iconst 0, 1) := by decide +kernel
theorem dX2_bestGuest_18 : decode cX2_bestGuest 18 = .ok (.istore_n 3, 1) := by decide +kernel
theorem dX2_bestGuest_19 : decode cX2_bestGuest 19 = .ok (.iconst 0, 1) := by decide +kernel
theorem dX2_bestGuest_20 : decode cX2_bestGuest 20 = .ok (.istore 4, 2) := by decide +kernel
theorem dX2_bestGuest_22 : decode cX2_bestGuest 22 = .ok (.iload 4, 2) := by decide +kernel
theorem dX2_bestGuest_24 : decode cX2_bestGuest 24 = .ok (.bipush 8, 2) := by decide +kernel
theorem dX2_bestGuest_26 : decode cX2_bestGuest 26 = .ok (.if_icmp .ge 67, 3) := by decide +kernel
theorem dX2_bestGuest_29 : decode cX2_bestGuest 29 = .ok (.aload_n 0, 1) := by decide +kernel
theorem dX2_bestGuest_30 : decode cX2_bestGuest 30 = .ok (.getfield 19, 3) := by decide +kernel
theorem dX2_bestGuest_33 : decode cX2_bestGuest 33 = .ok (.iload_n 1, 1) := by decide +kernel
theorem dX2_bestGuest_34 : decode cX2_bestGuest 34 = .ok (.invokevirtual 83, 3) := by decide +kernel
theorem dX2_bestGuest_37 : decode cX2_bestGuest 37 = .ok (.ifCond .ne 40, 3) := by decide +kernel
theorem dX2_bestGuest_40 : decode cX2_bestGuest 40 = .ok (.aload_n 0, 1) := by decide +kernel
theorem dX2_bestGuest_41 : decode cX2_bestGuest 41 = .ok (.getfield 19, 3) := by decide +kernel
theorem dX2_bestGuest_44 : decode cX2_bestGuest 44 = .ok (.iload_n 1, 1) := by decide +kernel
theorem dX2_bestGuest_45 : decode cX2_bestGuest 45 = .ok (.invokevirtual 184, 3) := by decide +kernel
theorem dX2_bestGuest_48 : decode cX2_bestGuest 48 = .ok (.istore 5, 2) := by decide +kernel
theorem dX2_bestGuest_50 : decode cX2_bestGuest 50 = .ok (.iload_n 2, 1) := by decide +kernel
theorem dX2_bestGuest_51 : decode cX2_bestGuest 51 = .ok (.iconst (-1), 1) := by decide +kernel
theorem dX2_bestGuest_52 : decode cX2_bestGuest 52 = .ok (.if_icmp .eq 9, 3) := by decide +kernel
theorem dX2_bestGuest_55 : decode cX2_bestGuest 55 = .ok (.iload 5, 2) := by decide +kernel
theorem dX2_bestGuest_57 : decode cX2_bestGuest 57 = .ok (.iload_n 3, 1) := by decide +kernel
theorem dX2_bestGuest_58 : decode cX2_bestGuest 58 = .ok (.if_icmp .ge 19, 3) := by decide +kernel
theorem dX2_bestGuest_61 : decode cX2_bestGuest 61 = .ok (.aload_n 0, 1) := by decide +kernel
theorem dX2_bestGuest_62 : decode cX2_bestGuest 62 = .ok (.getfield 19, 3) := by decide +kernel
theorem dX2_bestGuest_65 : decode cX2_bestGuest 65 = .ok (.getfield 55, 3) := by decide +kernel
theorem dX2_bestGuest_68 : decode cX2_bestGuest 68 = .ok (.bipush 72, 2) := by decide +kernel
theorem dX2_bestGuest_70 : decode cX2_bestGuest 70 = .ok (.iload_n 1, 1) := by decide +kernel
theorem dX2_bestGuest_71 : decode cX2_bestGuest 71 = .ok (.iadd, 1) := by decide +kernel
theorem dX2_bestGuest_72 : decode cX2_bestGuest 72 = .ok (.iaload, 1) := by decide +kernel
theorem dX2_bestGuest_73 : decode cX2_bestGuest 73 = .ok (.istore_n 2, 1) := by decide +kernel
theorem dX2_bestGuest_74 : decode cX2_bestGuest 74 = .ok (.iload 5, 2) := by decide +kernel
theorem dX2_bestGuest_76 : decode cX2_bestGuest 76 = .ok (.istore_n 3, 1) := by decide +kernel
theorem dX2_bestGuest_77 : decode cX2_bestGuest 77 = .ok (.aload_n 0, 1) := by decide +kernel
theorem dX2_bestGuest_78 : decode cX2_bestGuest 78 = .ok (.getfield 19, 3) := by decide +kernel
theorem dX2_bestGuest_81 : decode cX2_bestGuest 81 = .ok (.iload_n 1, 1) := by decide +kernel
theorem dX2_bestGuest_82 : decode cX2_bestGuest 82 = .ok (.iconst 1, 1) := by decide +kernel
theorem dX2_bestGuest_83 : decode cX2_bestGuest 83 = .ok (.invokevirtual 91, 3) := by decide +kernel
theorem dX2_bestGuest_86 : decode cX2_bestGuest 86 = .ok (.pop, 1) := by decide +kernel
theorem dX2_bestGuest_87 : decode cX2_bestGuest 87 = .ok (.iinc 4 1, 3) := by decide +kernel
theorem dX2_bestGuest_90 : decode cX2_bestGuest 90 = .ok (.goto (-68), 3) := by decide +kernel
theorem dX2_bestGuest_93 : decode cX2_bestGuest 93 = .ok (.iload_n 2, 1) := by decide +kernel
theorem dX2_bestGuest_94 : decode cX2_bestGuest 94 = .ok (.ireturn, 1) := by decide +kernel
set_option maxRecDepth 20000 in
theorem ggX2_spiltShare_X1_sumOverGuests : GoodIn wsX2_spiltShare wsX1_sumOverGuests := goodIn_r _ [6, 7, 8, 9, 5, 10, 11, 20] (by decide +kernel) (by decide +kernel)
set_option maxRecDepth 20000 in
theorem gX2_spiltShare_X1_sumOverGuests : GoodIn wsX2_spiltShare (wsV RX2 172 RX1 yX1_sumOverGuests wsX1_sumOverGuests) := goodIn_app (goodIn_of _ (by decide +kernel)) ggX2_spiltShare_X1_sumOverGuests
theorem dX2_spiltShare_0 : decode cX2_spiltShare 0 = .ok (.aload_n 0, 1) := by decide +kernel
theorem dX2_spiltShare_1 : decode cX2_spiltShare 1 = .ok (.getfield 12, 3) := by decide +kernel
theorem dX2_spiltShare_4 : decode cX2_spiltShare 4 = .ok (.bipush 64, 2) := by decide +kernel
theorem dX2_spiltShare_6 : decode cX2_spiltShare 6 = .ok (.invokevirtual 172, 3) := by decide +kernel
theorem dX2_spiltShare_9 : decode cX2_spiltShare 9 = .ok (.istore_n 1, 1) := by decide +kernel
theorem dX2_spiltShare_10 : decode cX2_spiltShare 10 = .ok (.iload_n 1, 1) := by decide +kernel
theorem dX2_spiltShare_11 : decode cX2_spiltShare 11 = .ok (.ifCond .gt 5, 3) := by decide +kernel
theorem dX2_spiltShare_14 : decode cX2_spiltShare 14 = .ok (.dconst 0, 1) := by decide +kernel
theorem dX2_spiltShare_15 : decode cX2_spiltShare 15 = .ok (.dreturn, 1) := by decide +kernel
theorem dX2_spiltShare_16 : decode cX2_spiltShare 16 = .ok (.aload_n 0, 1) := by decide +kernel
theorem dX2_spiltShare_17 : decode cX2_spiltShare 17 = .ok (.getfield 12, 3) := by decide +kernel
theorem dX2_spiltShare_20 : decode cX2_spiltShare 20 = .ok (.bipush 56, 2) := by decide +kernel
theorem dX2_spiltShare_22 : decode cX2_spiltShare 22 = .ok (.invokevirtual 172, 3) := by decide +kernel
theorem dX2_spiltShare_25 : decode cX2_spiltShare 25 = .ok (.i2d, 1) := by decide +kernel
theorem dX2_spiltShare_26 : decode cX2_spiltShare 26 = .ok (.iload_n 1, 1) := by decide +kernel
theorem dX2_spiltShare_27 : decode cX2_spiltShare 27 = .ok (.i2d, 1) := by decide +kernel
theorem dX2_spiltShare_28 : decode cX2_spiltShare 28 = .ok (.ddiv, 1) := by decide +kernel
theorem dX2_spiltShare_29 : decode cX2_spiltShare 29 = .ok (.dreturn, 1) := by decide +kernel
set_option maxRecDepth 20000 in
theorem ggX2_meanTrust_X1_sumOverGuests : GoodIn wsX2_meanTrust wsX1_sumOverGuests := goodIn_r _ [7, 8, 9, 10, 6, 11, 12, 21] (by decide +kernel) (by decide +kernel)
set_option maxRecDepth 20000 in
theorem gX2_meanTrust_X1_sumOverGuests : GoodIn wsX2_meanTrust (wsV RX2 172 RX1 yX1_sumOverGuests wsX1_sumOverGuests) := goodIn_app (goodIn_of _ (by decide +kernel)) ggX2_meanTrust_X1_sumOverGuests
theorem dX2_meanTrust_0 : decode cX2_meanTrust 0 = .ok (.aload_n 0, 1) := by decide +kernel
theorem dX2_meanTrust_1 : decode cX2_meanTrust 1 = .ok (.getfield 12, 3) := by decide +kernel
theorem dX2_meanTrust_4 : decode cX2_meanTrust 4 = .ok (.bipush 24, 2) := by decide +kernel
theorem dX2_meanTrust_6 : decode cX2_meanTrust 6 = .ok (.invokevirtual 172, 3) := by decide +kernel
theorem dX2_meanTrust_9 : decode cX2_meanTrust 9 = .ok (.i2f, 1) := by decide +kernel
theorem dX2_meanTrust_10 : decode cX2_meanTrust 10 = .ok (.ldc 193, 2) := by decide +kernel
theorem dX2_meanTrust_12 : decode cX2_meanTrust 12 = .ok (.fdiv, 1) := by decide +kernel
theorem dX2_meanTrust_13 : decode cX2_meanTrust 13 = .ok (.freturn, 1) := by decide +kernel
theorem dX2_requireGuest_0 : decode cX2_requireGuest 0 = .ok (.iload_n 0, 1) := by decide +kernel
theorem dX2_requireGuest_1 : decode cX2_requireGuest 1 = .ok (.ifCond .lt 9, 3) := by decide +kernel
theorem dX2_requireGuest_4 : decode cX2_requireGuest 4 = .ok (.iload_n 0, 1) := by decide +kernel
theorem dX2_requireGuest_5 : decode cX2_requireGuest 5 = .ok (.bipush 8, 2) := by decide +kernel
theorem dX2_requireGuest_7 : decode cX2_requireGuest 7 = .ok (.if_icmp .lt 13, 3) := by decide +kernel
theorem dX2_requireGuest_10 : decode cX2_requireGuest 10 = .ok (.new 164, 3) := by decide +kernel
theorem dX2_requireGuest_13 : decode cX2_requireGuest 13 = .ok (.dup, 1) := by decide +kernel
theorem dX2_requireGuest_14 : decode cX2_requireGuest 14 = .ok (.ldc 238, 2) := by decide +kernel
theorem dX2_requireGuest_16 : decode cX2_requireGuest 16 = .ok (.invokespecial 168, 3) := by decide +kernel
theorem dX2_requireGuest_19 : decode cX2_requireGuest 19 = .ok (.athrow, 1) := by decide +kernel
theorem dX2_requireGuest_20 : decode cX2_requireGuest 20 = .ok (.return_, 1) := by decide +kernel
theorem dX2_requirePot_0 : decode cX2_requirePot 0 = .ok (.iload_n 0, 1) := by decide +kernel
theorem dX2_requirePot_1 : decode cX2_requirePot 1 = .ok (.ifCond .lt 8, 3) := by decide +kernel
theorem dX2_requirePot_4 : decode cX2_requirePot 4 = .ok (.iload_n 0, 1) := by decide +kernel
theorem dX2_requirePot_5 : decode cX2_requirePot 5 = .ok (.iconst 3, 1) := by decide +kernel
theorem dX2_requirePot_6 : decode cX2_requirePot 6 = .ok (.if_icmp .lt 13, 3) := by decide +kernel
theorem dX2_requirePot_9 : decode cX2_requirePot 9 = .ok (.new 164, 3) := by decide +kernel
theorem dX2_requirePot_12 : decode cX2_requirePot 12 = .ok (.dup, 1) := by decide +kernel
theorem dX2_requirePot_13 : decode cX2_requirePot 13 = .ok (.ldc 240, 2) := by decide +kernel
theorem dX2_requirePot_15 : decode cX2_requirePot 15 = .ok (.invokespecial 168, 3) := by decide +kernel
theorem dX2_requirePot_18 : decode cX2_requirePot 18 = .ok (.athrow, 1) := by decide +kernel
theorem dX2_requirePot_19 : decode cX2_requirePot 19 = .ok (.return_, 1) := by decide +kernel
theorem dX2_requireWithin_0 : decode cX2_requireWithin 0 = .ok (.iload_n 0, 1) := by decide +kernel
theorem dX2_requireWithin_1 : decode cX2_requireWithin 1 = .ok (.iload_n 1, 1) := by decide +kernel
theorem dX2_requireWithin_2 : decode cX2_requireWithin 2 = .ok (.if_icmp .lt 8, 3) := by decide +kernel
theorem dX2_requireWithin_5 : decode cX2_requireWithin 5 = .ok (.iload_n 0, 1) := by decide +kernel
theorem dX2_requireWithin_6 : decode cX2_requireWithin 6 = .ok (.iload_n 2, 1) := by decide +kernel
theorem dX2_requireWithin_7 : decode cX2_requireWithin 7 = .ok (.if_icmp .le 13, 3) := by decide +kernel
theorem dX2_requireWithin_10 : decode cX2_requireWithin 10 = .ok (.new 113, 3) := by decide +kernel
theorem dX2_requireWithin_13 : decode cX2_requireWithin 13 = .ok (.dup, 1) := by decide +kernel
theorem dX2_requireWithin_14 : decode cX2_requireWithin 14 = .ok (.ldc 242, 2) := by decide +kernel
theorem dX2_requireWithin_16 : decode cX2_requireWithin 16 = .ok (.invokespecial 117, 3) := by decide +kernel
theorem dX2_requireWithin_19 : decode cX2_requireWithin 19 = .ok (.athrow, 1) := by decide +kernel
theorem dX2_requireWithin_20 : decode cX2_requireWithin 20 = .ok (.return_, 1) := by decide +kernel
set_option maxRecDepth 20000 in
theorem ggX2_saveState_X1_copyFrom : GoodIn wsX2_saveState wsX1_copyFrom := goodIn_r _ [9, 10, 11, 12, 13, 14, 23] (by decide +kernel) (by decide +kernel)
set_option maxRecDepth 20000 in
theorem gX2_saveState_X1_copyFrom : GoodIn wsX2_saveState (wsV RX2 144 RX1 yX1_copyFrom wsX1_copyFrom) := goodIn_app (goodIn_of _ (by decide +kernel)) ggX2_saveState_X1_copyFrom
theorem dX2_saveState_0 : decode cX2_saveState 0 = .ok (.aload_n 0, 1) := by decide +kernel
theorem dX2_saveState_1 : decode cX2_saveState 1 = .ok (.getfield 37, 3) := by decide +kernel
theorem dX2_saveState_4 : decode cX2_saveState 4 = .ok (.bipush 6, 2) := by decide +kernel
theorem dX2_saveState_6 : decode cX2_saveState 6 = .ok (.if_icmp .ne 26, 3) := by decide +kernel
theorem dX2_saveState_9 : decode cX2_saveState 9 = .ok (.aload_n 0, 1) := by decide +kernel
theorem dX2_saveState_10 : decode cX2_saveState 10 = .ok (.aload_n 0, 1) := by decide +kernel
theorem dX2_saveState_11 : decode cX2_saveState 11 = .ok (.getfield 33, 3) := by decide +kernel
theorem dX2_saveState_14 : decode cX2_saveState 14 = .ok (.iconst 1, 1) := by decide +kernel
theorem dX2_saveState_15 : decode cX2_saveState 15 = .ok (.iadd, 1) := by decide +kernel
theorem dX2_saveState_16 : decode cX2_saveState 16 = .ok (.bipush 6, 2) := by decide +kernel
theorem dX2_saveState_18 : decode cX2_saveState 18 = .ok (.irem, 1) := by decide +kernel
theorem dX2_saveState_19 : decode cX2_saveState 19 = .ok (.putfield 33, 3) := by decide +kernel
theorem dX2_saveState_22 : decode cX2_saveState 22 = .ok (.aload_n 0, 1) := by decide +kernel
theorem dX2_saveState_23 : decode cX2_saveState 23 = .ok (.dup, 1) := by decide +kernel
theorem dX2_saveState_24 : decode cX2_saveState 24 = .ok (.getfield 37, 3) := by decide +kernel
theorem dX2_saveState_27 : decode cX2_saveState 27 = .ok (.iconst 1, 1) := by decide +kernel
theorem dX2_saveState_28 : decode cX2_saveState 28 = .ok (.isub, 1) := by decide +kernel
theorem dX2_saveState_29 : decode cX2_saveState 29 = .ok (.putfield 37, 3) := by decide +kernel
theorem dX2_saveState_32 : decode cX2_saveState 32 = .ok (.aload_n 0, 1) := by decide +kernel
theorem dX2_saveState_33 : decode cX2_saveState 33 = .ok (.getfield 22, 3) := by decide +kernel
theorem dX2_saveState_36 : decode cX2_saveState 36 = .ok (.aload_n 0, 1) := by decide +kernel
theorem dX2_saveState_37 : decode cX2_saveState 37 = .ok (.getfield 33, 3) := by decide +kernel
theorem dX2_saveState_40 : decode cX2_saveState 40 = .ok (.aload_n 0, 1) := by decide +kernel
theorem dX2_saveState_41 : decode cX2_saveState 41 = .ok (.getfield 37, 3) := by decide +kernel
theorem dX2_saveState_44 : decode cX2_saveState 44 = .ok (.iadd, 1) := by decide +kernel
theorem dX2_saveState_45 : decode cX2_saveState 45 = .ok (.bipush 6, 2) := by decide +kernel
theorem dX2_saveState_47 : decode cX2_saveState 47 = .ok (.irem, 1) := by decide +kernel
theorem dX2_saveState_48 : decode cX2_saveState 48 = .ok (.aaload, 1) := by decide +kernel
theorem dX2_saveState_49 : decode cX2_saveState 49 = .ok (.aload_n 0, 1) := by decide +kernel
theorem dX2_saveState_50 : decode cX2_saveState 50 = .ok (.getfield 12, 3) := by decide +kernel
theorem dX2_saveState_53 : decode cX2_saveState 53 = .ok (.invokevirtual 144, 3) := by decide +kernel
theorem dX2_saveState_56 : decode cX2_saveState 56 = .ok (.aload_n 0, 1) := by decide +kernel
theorem dX2_saveState_57 : decode cX2_saveState 57 = .ok (.dup, 1) := by decide +kernel
theorem dX2_saveState_58 : decode cX2_saveState 58 = .ok (.getfield 37, 3) := by decide +kernel
theorem dX2_saveState_61 : decode cX2_saveState 61 = .ok (.iconst 1, 1) := by decide +kernel
theorem dX2_saveState_62 : decode cX2_saveState 62 = .ok (.iadd, 1) := by decide +kernel
theorem dX2_saveState_63 : decode cX2_saveState 63 = .ok (.putfield 37, 3) := by decide +kernel
theorem dX2_saveState_66 : decode cX2_saveState 66 = .ok (.return_, 1) := by decide +kernel

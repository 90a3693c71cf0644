theorem dX0_init_0 : decode cX0_init 0 = .ok (.aload_n 0, 1) := by decide +kernel
theorem dX0_init_1 : decode cX0_init 1 = .ok (.invokespecial 3, 3) := by decide +kernel
theorem dX0_init_4 : decode cX0_init 4 = .ok (.aload_n 0, 1) := by decide +kernel
theorem dX0_init_5 : decode cX0_init 5 = .ok (.bipush 60, 2) := by decide +kernel
theorem dX0_init_7 : decode cX0_init 7 = .ok (.newarray .int, 2) := by decide +kernel
theorem dX0_init_9 : decode cX0_init 9 = .ok (.putfield 9, 3) := by decide +kernel
theorem dX0_init_12 : decode cX0_init 12 = .ok (.aload_n 0, 1) := by decide +kernel
theorem dX0_init_13 : decode cX0_init 13 = .ok (.iconst 0, 1) := by decide +kernel
theorem dX0_init_14 : decode cX0_init 14 = .ok (.putfield 15, 3) := by decide +kernel
theorem dX0_init_17 : decode cX0_init 17 = .ok (.aload_n 0, 1) := by decide +kernel
theorem dX0_init_18 : decode cX0_init 18 = .ok (.iconst 0, 1) := by decide +kernel
theorem dX0_init_19 : decode cX0_init 19 = .ok (.putfield 19, 3) := by decide +kernel
theorem dX0_init_22 : decode cX0_init 22 = .ok (.aload_n 0, 1) := by decide +kernel
theorem dX0_init_23 : decode cX0_init 23 = .ok (.iconst 0, 1) := by decide +kernel
theorem dX0_init_24 : decode cX0_init 24 = .ok (.putfield 22, 3) := by decide +kernel
theorem dX0_init_27 : decode cX0_init 27 = .ok (.aload_n 0, 1) := by decide +kernel
theorem dX0_init_28 : decode cX0_init 28 = .ok (.iconst 0, 1) := by decide +kernel
theorem dX0_init_29 : decode cX0_init 29 = .ok (.putfield 25, 3) := by decide +kernel
theorem dX0_init_32 : decode cX0_init 32 = .ok (.aload_n 0, 1) := by decide +kernel
theorem dX0_init_33 : decode cX0_init 33 = .ok (.iconst 0, 1) := by decide +kernel
theorem dX0_init_34 : decode cX0_init 34 = .ok (.putfield 28, 3) := by decide +kernel
theorem dX0_init_37 : decode cX0_init 37 = .ok (.return_, 1) := by decide +kernel
theorem dX1_init_0 : decode cX1_init 0 = .ok (.aload_n 0, 1) := by decide +kernel
theorem dX1_init_1 : decode cX1_init 1 = .ok (.invokespecial 5, 3) := by decide +kernel
theorem dX1_init_4 : decode cX1_init 4 = .ok (.aload_n 0, 1) := by decide +kernel
theorem dX1_init_5 : decode cX1_init 5 = .ok (.sipush 138, 3) := by decide +kernel
theorem dX1_init_8 : decode cX1_init 8 = .ok (.newarray .int, 2) := by decide +kernel
theorem dX1_init_10 : decode cX1_init 10 = .ok (.putfield 11, 3) := by decide +kernel
theorem dX1_init_13 : decode cX1_init 13 = .ok (.iconst 0, 1) := by decide +kernel
theorem dX1_init_14 : decode cX1_init 14 = .ok (.istore_n 1, 1) := by decide +kernel
theorem dX1_init_15 : decode cX1_init 15 = .ok (.iload_n 1, 1) := by decide +kernel
theorem dX1_init_16 : decode cX1_init 16 = .ok (.bipush 8, 2) := by decide +kernel
theorem dX1_init_18 : decode cX1_init 18 = .ok (.if_icmp .ge 39, 3) := by decide +kernel
theorem dX1_init_21 : decode cX1_init 21 = .ok (.aload_n 0, 1) := by decide +kernel
theorem dX1_init_22 : decode cX1_init 22 = .ok (.getfield 11, 3) := by decide +kernel
theorem dX1_init_25 : decode cX1_init 25 = .ok (.iconst 0, 1) := by decide +kernel
theorem dX1_init_26 : decode cX1_init 26 = .ok (.iload_n 1, 1) := by decide +kernel
theorem dX1_init_27 : decode cX1_init 27 = .ok (.iadd, 1) := by decide +kernel
theorem dX1_init_28 : decode cX1_init 28 = .ok (.bipush 30, 2) := by decide +kernel
theorem dX1_init_30 : decode cX1_init 30 = .ok (.iastore, 1) := by decide +kernel
theorem dX1_init_31 : decode cX1_init 31 = .ok (.aload_n 0, 1) := by decide +kernel
theorem dX1_init_32 : decode cX1_init 32 = .ok (.getfield 11, 3) := by decide +kernel
theorem dX1_init_35 : decode cX1_init 35 = .ok (.bipush 16, 2) := by decide +kernel
theorem dX1_init_37 : decode cX1_init 37 = .ok (.iload_n 1, 1) := by decide +kernel
theorem dX1_init_38 : decode cX1_init 38 = .ok (.iadd, 1) := by decide +kernel
theorem dX1_init_39 : decode cX1_init 39 = .ok (.iconst 5, 1) := by decide +kernel
theorem dX1_init_40 : decode cX1_init 40 = .ok (.iastore, 1) := by decide +kernel
theorem dX1_init_41 : decode cX1_init 41 = .ok (.aload_n 0, 1) := by decide +kernel
theorem dX1_init_42 : decode cX1_init 42 = .ok (.getfield 11, 3) := by decide +kernel
theorem dX1_init_45 : decode cX1_init 45 = .ok (.bipush 24, 2) := by decide +kernel
theorem dX1_init_47 : decode cX1_init 47 = .ok (.iload_n 1, 1) := by decide +kernel
theorem dX1_init_48 : decode cX1_init 48 = .ok (.iadd, 1) := by decide +kernel
theorem dX1_init_49 : decode cX1_init 49 = .ok (.iconst 5, 1) := by decide +kernel
theorem dX1_init_50 : decode cX1_init 50 = .ok (.iastore, 1) := by decide +kernel
theorem dX1_init_51 : decode cX1_init 51 = .ok (.iinc 1 1, 3) := by decide +kernel
theorem dX1_init_54 : decode cX1_init 54 = .ok (.goto (-39), 3) := by decide +kernel
theorem dX1_init_57 : decode cX1_init 57 = .ok (.iconst 0, 1) := by decide +kernel
theorem dX1_init_58 : decode cX1_init 58 = .ok (.istore_n 1, 1) := by decide +kernel
theorem dX1_init_59 : decode cX1_init 59 = .ok (.iload_n 1, 1) := by decide +kernel
theorem dX1_init_60 : decode cX1_init 60 = .ok (.iconst 3, 1) := by decide +kernel
theorem dX1_init_61 : decode cX1_init 61 = .ok (.if_icmp .ge 21, 3) := by decide +kernel
theorem dX1_init_64 : decode cX1_init 64 = .ok (.aload_n 0, 1) := by decide +kernel
theorem dX1_init_65 : decode cX1_init 65 = .ok (.getfield 11, 3) := by decide +kernel
theorem dX1_init_68 : decode cX1_init 68 = .ok (.bipush 72, 2) := by decide +kernel
theorem dX1_init_70 : decode cX1_init 70 = .ok (.iload_n 1, 1) := by decide +kernel
theorem dX1_init_71 : decode cX1_init 71 = .ok (.iadd, 1) := by decide +kernel
theorem dX1_init_72 : decode cX1_init 72 = .ok (.iconst 2, 1) := by decide +kernel
theorem dX1_init_73 : decode cX1_init 73 = .ok (.iload_n 1, 1) := by decide +kernel
theorem dX1_init_74 : decode cX1_init 74 = .ok (.imul, 1) := by decide +kernel
theorem dX1_init_75 : decode cX1_init 75 = .ok (.iastore, 1) := by decide +kernel
theorem dX1_init_76 : decode cX1_init 76 = .ok (.iinc 1 1, 3) := by decide +kernel
theorem dX1_init_79 : decode cX1_init 79 = .ok (.goto (-20), 3) := by decide +kernel
theorem dX1_init_82 : decode cX1_init 82 = .ok (.iconst 0, 1) := by decide +kernel
theorem dX1_init_83 : decode cX1_init 83 = .ok (.istore_n 1, 1) := by decide +kernel
theorem dX1_init_84 : decode cX1_init 84 = .ok (.iload_n 1, 1) := by decide +kernel
theorem dX1_init_85 : decode cX1_init 85 = .ok (.bipush 24, 2) := by decide +kernel
theorem dX1_init_87 : decode cX1_init 87 = .ok (.if_icmp .ge 19, 3) := by decide +kernel
theorem dX1_init_90 : decode cX1_init 90 = .ok (.aload_n 0, 1) := by decide +kernel
theorem dX1_init_91 : decode cX1_init 91 = .ok (.getfield 11, 3) := by decide +kernel
theorem dX1_init_94 : decode cX1_init 94 = .ok (.bipush 87, 2) := by decide +kernel
theorem dX1_init_96 : decode cX1_init 96 = .ok (.iload_n 1, 1) := by decide +kernel
theorem dX1_init_97 : decode cX1_init 97 = .ok (.iadd, 1) := by decide +kernel
theorem dX1_init_98 : decode cX1_init 98 = .ok (.iconst (-1), 1) := by decide +kernel
theorem dX1_init_99 : decode cX1_init 99 = .ok (.iastore, 1) := by decide +kernel
theorem dX1_init_100 : decode cX1_init 100 = .ok (.iinc 1 1, 3) := by decide +kernel
theorem dX1_init_103 : decode cX1_init 103 = .ok (.goto (-19), 3) := by decide +kernel
theorem dX1_init_106 : decode cX1_init 106 = .ok (.return_, 1) := by decide +kernel
theorem dX1_copyFrom_0 : decode cX1_copyFrom 0 = .ok (.aload_n 1, 1) := by decide +kernel
theorem dX1_copyFrom_1 : decode cX1_copyFrom 1 = .ok (.getfield 11, 3) := by decide +kernel
theorem dX1_copyFrom_4 : decode cX1_copyFrom 4 = .ok (.iconst 0, 1) := by decide +kernel
theorem dX1_copyFrom_5 : decode cX1_copyFrom 5 = .ok (.aload_n 0, 1) := by decide +kernel
theorem dX1_copyFrom_6 : decode cX1_copyFrom 6 = .ok (.getfield 11, 3) := by decide +kernel
theorem dX1_copyFrom_9 : decode cX1_copyFrom 9 = .ok (.iconst 0, 1) := by decide +kernel
theorem dX1_copyFrom_10 : decode cX1_copyFrom 10 = .ok (.sipush 138, 3) := by decide +kernel
theorem dX1_copyFrom_13 : decode cX1_copyFrom 13 = .ok (.invokestatic 15, 3) := by decide +kernel
theorem dX1_copyFrom_16 : decode cX1_copyFrom 16 = .ok (.return_, 1) := by decide +kernel
theorem dX1_weightOf_0 : decode cX1_weightOf 0 = .ok (.aload_n 0, 1) := by decide +kernel
theorem dX1_weightOf_1 : decode cX1_weightOf 1 = .ok (.getfield 11, 3) := by decide +kernel
theorem dX1_weightOf_4 : decode cX1_weightOf 4 = .ok (.bipush 75, 2) := by decide +kernel
theorem dX1_weightOf_6 : decode cX1_weightOf 6 = .ok (.iload_n 1, 1) := by decide +kernel
theorem dX1_weightOf_7 : decode cX1_weightOf 7 = .ok (.iadd, 1) := by decide +kernel
theorem dX1_weightOf_8 : decode cX1_weightOf 8 = .ok (.iaload, 1) := by decide +kernel
theorem dX1_weightOf_9 : decode cX1_weightOf 9 = .ok (.istore_n 2, 1) := by decide +kernel
theorem dX1_weightOf_10 : decode cX1_weightOf 10 = .ok (.iload_n 2, 1) := by decide +kernel
theorem dX1_weightOf_11 : decode cX1_weightOf 11 = .ok (.iload_n 2, 1) := by decide +kernel
theorem dX1_weightOf_12 : decode cX1_weightOf 12 = .ok (.bipush 20, 2) := by decide +kernel
theorem dX1_weightOf_14 : decode cX1_weightOf 14 = .ok (.irem, 1) := by decide +kernel
theorem dX1_weightOf_15 : decode cX1_weightOf 15 = .ok (.isub, 1) := by decide +kernel
theorem dX1_weightOf_16 : decode cX1_weightOf 16 = .ok (.ireturn, 1) := by decide +kernel
set_option maxRecDepth 20000 in
theorem ggX1_guessOf_X1_weightOf : GoodIn wsX1_guessOf wsX1_weightOf := goodIn_r _ [6, 1, 7] (by decide +kernel) (by decide +kernel)
set_option maxRecDepth 20000 in
theorem gX1_guessOf_X1_weightOf : GoodIn wsX1_guessOf (wsV RX1 21 RX1 yX1_weightOf wsX1_weightOf) := goodIn_app (goodIn_of _ (by decide +kernel)) ggX1_guessOf_X1_weightOf
theorem dX1_guessOf_0 : decode cX1_guessOf 0 = .ok (.aload_n 0, 1) := by decide +kernel
theorem dX1_guessOf_1 : decode cX1_guessOf 1 = .ok (.getfield 11, 3) := by decide +kernel
theorem dX1_guessOf_4 : decode cX1_guessOf 4 = .ok (.bipush 24, 2) := by decide +kernel
theorem dX1_guessOf_6 : decode cX1_guessOf 6 = .ok (.aload_n 0, 1) := by decide +kernel
theorem dX1_guessOf_7 : decode cX1_guessOf 7 = .ok (.getfield 11, 3) := by decide +kernel
theorem dX1_guessOf_10 : decode cX1_guessOf 10 = .ok (.bipush 72, 2) := by decide +kernel
theorem dX1_guessOf_12 : decode cX1_guessOf 12 = .ok (.iload_n 1, 1) := by decide +kernel
theorem dX1_guessOf_13 : decode cX1_guessOf 13 = .ok (.iadd, 1) := by decide +kernel
theorem dX1_guessOf_14 : decode cX1_guessOf 14 = .ok (.iaload, 1) := by decide +kernel
theorem dX1_guessOf_15 : decode cX1_guessOf 15 = .ok (.iadd, 1) := by decide +kernel
theorem dX1_guessOf_16 : decode cX1_guessOf 16 = .ok (.iaload, 1) := by decide +kernel
theorem dX1_guessOf_17 : decode cX1_guessOf 17 = .ok (.istore_n 2, 1) := by decide +kernel
theorem dX1_guessOf_18 : decode cX1_guessOf 18 = .ok (.aload_n 0, 1) := by decide +kernel
theorem dX1_guessOf_19 : decode cX1_guessOf 19 = .ok (.getfield 11, 3) := by decide +kernel
theorem dX1_guessOf_22 : decode cX1_guessOf 22 = .ok (.bipush 78, 2) := by decide +kernel
theorem dX1_guessOf_24 : decode cX1_guessOf 24 = .ok (.iload_n 1, 1) := by decide +kernel
theorem dX1_guessOf_25 : decode cX1_guessOf 25 = .ok (.iadd, 1) := by decide +kernel
theorem dX1_guessOf_26 : decode cX1_guessOf 26 = .ok (.iaload, 1) := by decide +kernel
theorem dX1_guessOf_27 : decode cX1_guessOf 27 = .ok (.iload_n 2, 1) := by decide +kernel
theorem dX1_guessOf_28 : decode cX1_guessOf 28 = .ok (.imul, 1) := by decide +kernel
theorem dX1_guessOf_29 : decode cX1_guessOf 29 = .ok (.aload_n 0, 1) := by decide +kernel
theorem dX1_guessOf_30 : decode cX1_guessOf 30 = .ok (.iload_n 1, 1) := by decide +kernel
theorem dX1_guessOf_31 : decode cX1_guessOf 31 = .ok (.invokevirtual 21, 3) := by decide +kernel
theorem dX1_guessOf_34 : decode cX1_guessOf 34 = .ok (.bipush 10, 2) := by decide +kernel
theorem dX1_guessOf_36 : decode cX1_guessOf 36 = .ok (.iload_n 2, 1) := by decide +kernel
theorem dX1_guessOf_37 : decode cX1_guessOf 37 = .ok (.isub, 1) := by decide +kernel
theorem dX1_guessOf_38 : decode cX1_guessOf 38 = .ok (.imul, 1) := by decide +kernel
theorem dX1_guessOf_39 : decode cX1_guessOf 39 = .ok (.iadd, 1) := by decide +kernel
theorem dX1_guessOf_40 : decode cX1_guessOf 40 = .ok (.bipush 10, 2) := by decide +kernel
theorem dX1_guessOf_42 : decode cX1_guessOf 42 = .ok (.idiv, 1) := by decide +kernel
theorem dX1_guessOf_43 : decode cX1_guessOf 43 = .ok (.ireturn, 1) := by decide +kernel
theorem dX1_roomOf_0 : decode cX1_roomOf 0 = .ok (.aload_n 0, 1) := by decide +kernel
theorem dX1_roomOf_1 : decode cX1_roomOf 1 = .ok (.getfield 11, 3) := by decide +kernel
theorem dX1_roomOf_4 : decode cX1_roomOf 4 = .ok (.iconst 0, 1) := by decide +kernel
theorem dX1_roomOf_5 : decode cX1_roomOf 5 = .ok (.iload_n 1, 1) := by decide +kernel
theorem dX1_roomOf_6 : decode cX1_roomOf 6 = .ok (.iadd, 1) := by decide +kernel
theorem dX1_roomOf_7 : decode cX1_roomOf 7 = .ok (.iaload, 1) := by decide +kernel
theorem dX1_roomOf_8 : decode cX1_roomOf 8 = .ok (.aload_n 0, 1) := by decide +kernel
theorem dX1_roomOf_9 : decode cX1_roomOf 9 = .ok (.getfield 11, 3) := by decide +kernel
theorem dX1_roomOf_12 : decode cX1_roomOf 12 = .ok (.bipush 8, 2) := by decide +kernel
theorem dX1_roomOf_14 : decode cX1_roomOf 14 = .ok (.iload_n 1, 1) := by decide +kernel
theorem dX1_roomOf_15 : decode cX1_roomOf 15 = .ok (.iadd, 1) := by decide +kernel
theorem dX1_roomOf_16 : decode cX1_roomOf 16 = .ok (.iaload, 1) := by decide +kernel
theorem dX1_roomOf_17 : decode cX1_roomOf 17 = .ok (.isub, 1) := by decide +kernel
theorem dX1_roomOf_18 : decode cX1_roomOf 18 = .ok (.ireturn, 1) := by decide +kernel
theorem dX1_hasRoomFor_0 : decode cX1_hasRoomFor 0 = .ok (.aload_n 0, 1) := by decide +kernel
theorem dX1_hasRoomFor_1 : decode cX1_hasRoomFor 1 = .ok (.getfield 11, 3) := by decide +kernel
theorem dX1_hasRoomFor_4 : decode cX1_hasRoomFor 4 = .ok (.bipush 75, 2) := by decide +kernel
theorem dX1_hasRoomFor_6 : decode cX1_hasRoomFor 6 = .ok (.iload_n 1, 1) := by decide +kernel
theorem dX1_hasRoomFor_7 : decode cX1_hasRoomFor 7 = .ok (.iadd, 1) := by decide +kernel
theorem dX1_hasRoomFor_8 : decode cX1_hasRoomFor 8 = .ok (.iaload, 1) := by decide +kernel
theorem dX1_hasRoomFor_9 : decode cX1_hasRoomFor 9 = .ok (.iload_n 2, 1) := by decide +kernel
theorem dX1_hasRoomFor_10 : decode cX1_hasRoomFor 10 = .ok (.iadd, 1) := by decide +kernel
theorem dX1_hasRoomFor_11 : decode cX1_hasRoomFor 11 = .ok (.sipush 200, 3) := by decide +kernel
theorem dX1_hasRoomFor_14 : decode cX1_hasRoomFor 14 = .ok (.if_icmp .gt 7, 3) := by decide +kernel
theorem dX1_hasRoomFor_17 : decode cX1_hasRoomFor 17 = .ok (.iconst 1, 1) := by decide +kernel
theorem dX1_hasRoomFor_18 : decode cX1_hasRoomFor 18 = .ok (.goto 4, 3) := by decide +kernel
theorem dX1_hasRoomFor_21 : decode cX1_hasRoomFor 21 = .ok (.iconst 0, 1) := by decide +kernel
theorem dX1_hasRoomFor_22 : decode cX1_hasRoomFor 22 = .ok (.ireturn, 1) := by decide +kernel
set_option maxRecDepth 20000 in
theorem ggX1_whyNotPour_X1_roomOf : GoodIn wsX1_whyNotPour wsX1_roomOf := goodIn_r _ [6, 1, 7] (by decide +kernel) (by decide +kernel)
set_option maxRecDepth 20000 in
theorem gX1_whyNotPour_X1_roomOf : GoodIn wsX1_whyNotPour (wsV RX1 25 RX1 yX1_roomOf wsX1_roomOf) := goodIn_app (goodIn_of _ (by decide +kernel)) ggX1_whyNotPour_X1_roomOf
theorem dX1_whyNotPour_0 : decode cX1_whyNotPour 0 = .ok (.aload_n 0, 1) := by decide +kernel
theorem dX1_whyNotPour_1 : decode cX1_whyNotPour 1 = .ok (.getfield 11, 3) := by decide +kernel
theorem dX1_whyNotPour_4 : decode cX1_whyNotPour 4 = .ok (.bipush 75, 2) := by decide +kernel
theorem dX1_whyNotPour_6 : decode cX1_whyNotPour 6 = .ok (.iload_n 1, 1) := by decide +kernel
theorem dX1_whyNotPour_7 : decode cX1_whyNotPour 7 = .ok (.iadd, 1) := by decide +kernel
theorem dX1_whyNotPour_8 : decode cX1_whyNotPour 8 = .ok (.iaload, 1) := by decide +kernel
theorem dX1_whyNotPour_9 : decode cX1_whyNotPour 9 = .ok (.ifCond .ne 5, 3) := by decide +kernel
theorem dX1_whyNotPour_12 : decode cX1_whyNotPour 12 = .ok (.iconst 1, 1) := by decide +kernel
theorem dX1_whyNotPour_13 : decode cX1_whyNotPour 13 = .ok (.ireturn, 1) := by decide +kernel
theorem dX1_whyNotPour_14 : decode cX1_whyNotPour 14 = .ok (.aload_n 0, 1) := by decide +kernel
theorem dX1_whyNotPour_15 : decode cX1_whyNotPour 15 = .ok (.aload_n 0, 1) := by decide +kernel
theorem dX1_whyNotPour_16 : decode cX1_whyNotPour 16 = .ok (.getfield 11, 3) := by decide +kernel
theorem dX1_whyNotPour_19 : decode cX1_whyNotPour 19 = .ok (.bipush 72, 2) := by decide +kernel
theorem dX1_whyNotPour_21 : decode cX1_whyNotPour 21 = .ok (.iload_n 1, 1) := by decide +kernel
theorem dX1_whyNotPour_22 : decode cX1_whyNotPour 22 = .ok (.iadd, 1) := by decide +kernel
theorem dX1_whyNotPour_23 : decode cX1_whyNotPour 23 = .ok (.iaload, 1) := by decide +kernel
theorem dX1_whyNotPour_24 : decode cX1_whyNotPour 24 = .ok (.invokevirtual 25, 3) := by decide +kernel
theorem dX1_whyNotPour_27 : decode cX1_whyNotPour 27 = .ok (.ifCond .ne 5, 3) := by decide +kernel
theorem dX1_whyNotPour_30 : decode cX1_whyNotPour 30 = .ok (.iconst 2, 1) := by decide +kernel
theorem dX1_whyNotPour_31 : decode cX1_whyNotPour 31 = .ok (.ireturn, 1) := by decide +kernel
theorem dX1_whyNotPour_32 : decode cX1_whyNotPour 32 = .ok (.iconst 0, 1) := by decide +kernel
theorem dX1_whyNotPour_33 : decode cX1_whyNotPour 33 = .ok (.ireturn, 1) := by decide +kernel
set_option maxRecDepth 20000 in
theorem ggX1_comesFrom_X1_guessOf : GoodIn wsX1_comesFrom wsX1_guessOf := goodIn_r _ [6, 1, 7, 8, 9, 5, 10, 15] (by decide +kernel) (by decide +kernel)
set_option maxRecDepth 20000 in
theorem gX1_comesFrom_X1_guessOf : GoodIn wsX1_comesFrom (wsV RX1 28 RX1 yX1_guessOf wsX1_guessOf) := goodIn_app (goodIn_of _ (by decide +kernel)) ggX1_comesFrom_X1_guessOf
set_option maxRecDepth 20000 in
theorem ggX1_comesFrom_X1_roomOf : GoodIn wsX1_comesFrom wsX1_roomOf := goodIn_r _ [14, 1, 15] (by decide +kernel) (by decide +kernel)
set_option maxRecDepth 20000 in
theorem gX1_comesFrom_X1_roomOf : GoodIn wsX1_comesFrom (wsV RX1 25 RX1 yX1_roomOf wsX1_roomOf) := goodIn_app (goodIn_of _ (by decide +kernel)) ggX1_comesFrom_X1_roomOf
theorem dX1_comesFrom_0 : decode cX1_comesFrom 0 = .ok (.aload_n 0, 1) := by decide +kernel
theorem dX1_comesFrom_1 : decode cX1_comesFrom 1 = .ok (.getfield 11, 3) := by decide +kernel
theorem dX1_comesFrom_4 : decode cX1_comesFrom 4 = .ok (.bipush 75, 2) := by decide +kernel
theorem dX1_comesFrom_6 : decode cX1_comesFrom 6 = .ok (.iload_n 1, 1) := by decide +kernel
theorem dX1_comesFrom_7 : decode cX1_comesFrom 7 = .ok (.iadd, 1) := by decide +kernel
theorem dX1_comesFrom_8 : decode cX1_comesFrom 8 = .ok (.iaload, 1) := by decide +kernel
theorem dX1_comesFrom_9 : decode cX1_comesFrom 9 = .ok (.istore_n 2, 1) := by decide +kernel
theorem dX1_comesFrom_10 : decode cX1_comesFrom 10 = .ok (.aload_n 0, 1) := by decide +kernel
theorem dX1_comesFrom_11 : decode cX1_comesFrom 11 = .ok (.iload_n 1, 1) := by decide +kernel
theorem dX1_comesFrom_12 : decode cX1_comesFrom 12 = .ok (.invokevirtual 28, 3) := by decide +kernel
theorem dX1_comesFrom_15 : decode cX1_comesFrom 15 = .ok (.istore_n 3, 1) := by decide +kernel
theorem dX1_comesFrom_16 : decode cX1_comesFrom 16 = .ok (.iload_n 3, 1) := by decide +kernel
theorem dX1_comesFrom_17 : decode cX1_comesFrom 17 = .ok (.ifCond .le 7, 3) := by decide +kernel
theorem dX1_comesFrom_20 : decode cX1_comesFrom 20 = .ok (.iload_n 3, 1) := by decide +kernel
theorem dX1_comesFrom_21 : decode cX1_comesFrom 21 = .ok (.goto 4, 3) := by decide +kernel
theorem dX1_comesFrom_24 : decode cX1_comesFrom 24 = .ok (.iconst 1, 1) := by decide +kernel
theorem dX1_comesFrom_25 : decode cX1_comesFrom 25 = .ok (.istore 4, 2) := by decide +kernel
theorem dX1_comesFrom_27 : decode cX1_comesFrom 27 = .ok (.aload_n 0, 1) := by decide +kernel
theorem dX1_comesFrom_28 : decode cX1_comesFrom 28 = .ok (.aload_n 0, 1) := by decide +kernel
theorem dX1_comesFrom_29 : decode cX1_comesFrom 29 = .ok (.getfield 11, 3) := by decide +kernel
theorem dX1_comesFrom_32 : decode cX1_comesFrom 32 = .ok (.bipush 72, 2) := by decide +kernel
theorem dX1_comesFrom_34 : decode cX1_comesFrom 34 = .ok (.iload_n 1, 1) := by decide +kernel
theorem dX1_comesFrom_35 : decode cX1_comesFrom 35 = .ok (.iadd, 1) := by decide +kernel
theorem dX1_comesFrom_36 : decode cX1_comesFrom 36 = .ok (.iaload, 1) := by decide +kernel
theorem dX1_comesFrom_37 : decode cX1_comesFrom 37 = .ok (.invokevirtual 25, 3) := by decide +kernel
theorem dX1_comesFrom_40 : decode cX1_comesFrom 40 = .ok (.iload_n 2, 1) := by decide +kernel
theorem dX1_comesFrom_41 : decode cX1_comesFrom 41 = .ok (.imul, 1) := by decide +kernel
theorem dX1_comesFrom_42 : decode cX1_comesFrom 42 = .ok (.iload 4, 2) := by decide +kernel
theorem dX1_comesFrom_44 : decode cX1_comesFrom 44 = .ok (.idiv, 1) := by decide +kernel
theorem dX1_comesFrom_45 : decode cX1_comesFrom 45 = .ok (.istore 5, 2) := by decide +kernel
theorem dX1_comesFrom_47 : decode cX1_comesFrom 47 = .ok (.iload 5, 2) := by decide +kernel
theorem dX1_comesFrom_49 : decode cX1_comesFrom 49 = .ok (.iload_n 2, 1) := by decide +kernel
theorem dX1_comesFrom_50 : decode cX1_comesFrom 50 = .ok (.if_icmp .ge 8, 3) := by decide +kernel
theorem dX1_comesFrom_53 : decode cX1_comesFrom 53 = .ok (.iload 5, 2) := by decide +kernel
theorem dX1_comesFrom_55 : decode cX1_comesFrom 55 = .ok (.goto 4, 3) := by decide +kernel
theorem dX1_comesFrom_58 : decode cX1_comesFrom 58 = .ok (.iload_n 2, 1) := by decide +kernel
theorem dX1_comesFrom_59 : decode cX1_comesFrom 59 = .ok (.ireturn, 1) := by decide +kernel
set_option maxRecDepth 20000 in
theorem ggX1_wouldSpillFrom_X1_comesFrom : GoodIn wsX1_wouldSpillFrom wsX1_comesFrom := goodIn_r _ [6, 1, 7, 8, 9, 5, 10, 11, 12, 13, 14, 15, 16, 17, 18, 19] (by decide +kernel) (by decide +kernel)
set_option maxRecDepth 20000 in
theorem gX1_wouldSpillFrom_X1_comesFrom : GoodIn wsX1_wouldSpillFrom (wsV RX1 31 RX1 yX1_comesFrom wsX1_comesFrom) := goodIn_app (goodIn_of _ (by decide +kernel)) ggX1_wouldSpillFrom_X1_comesFrom
set_option maxRecDepth 20000 in
theorem ggX1_wouldSpillFrom_X1_roomOf : GoodIn wsX1_wouldSpillFrom wsX1_roomOf := goodIn_r _ [18, 1, 19] (by decide +kernel) (by decide +kernel)
set_option maxRecDepth 20000 in
theorem gX1_wouldSpillFrom_X1_roomOf : GoodIn wsX1_wouldSpillFrom (wsV RX1 25 RX1 yX1_roomOf wsX1_roomOf) := goodIn_app (goodIn_of _ (by decide +kernel)) ggX1_wouldSpillFrom_X1_roomOf
theorem dX1_wouldSpillFrom_0 : decode cX1_wouldSpillFrom 0 = .ok (.aload_n 0, 1) := by decide +kernel
theorem dX1_wouldSpillFrom_1 : decode cX1_wouldSpillFrom 1 = .ok (.iload_n 1, 1) := by decide +kernel
theorem dX1_wouldSpillFrom_2 : decode cX1_wouldSpillFrom 2 = .ok (.invokevirtual 31, 3) := by decide +kernel
theorem dX1_wouldSpillFrom_5 : decode cX1_wouldSpillFrom 5 = .ok (.aload_n 0, 1) := by decide +kernel
theorem dX1_wouldSpillFrom_6 : decode cX1_wouldSpillFrom 6 = .ok (.aload_n 0, 1) := by decide +kernel
theorem dX1_wouldSpillFrom_7 : decode cX1_wouldSpillFrom 7 = .ok (.getfield 11, 3) := by decide +kernel
theorem dX1_wouldSpillFrom_10 : decode cX1_wouldSpillFrom 10 = .ok (.bipush 72, 2) := by decide +kernel
theorem dX1_wouldSpillFrom_12 : decode cX1_wouldSpillFrom 12 = .ok (.iload_n 1, 1) := by decide +kernel
theorem dX1_wouldSpillFrom_13 : decode cX1_wouldSpillFrom 13 = .ok (.iadd, 1) := by decide +kernel
theorem dX1_wouldSpillFrom_14 : decode cX1_wouldSpillFrom 14 = .ok (.iaload, 1) := by decide +kernel
theorem dX1_wouldSpillFrom_15 : decode cX1_wouldSpillFrom 15 = .ok (.invokevirtual 25, 3) := by decide +kernel
theorem dX1_wouldSpillFrom_18 : decode cX1_wouldSpillFrom 18 = .ok (.isub, 1) := by decide +kernel
theorem dX1_wouldSpillFrom_19 : decode cX1_wouldSpillFrom 19 = .ok (.istore_n 2, 1) := by decide +kernel
theorem dX1_wouldSpillFrom_20 : decode cX1_wouldSpillFrom 20 = .ok (.iload_n 2, 1) := by decide +kernel
theorem dX1_wouldSpillFrom_21 : decode cX1_wouldSpillFrom 21 = .ok (.ifCond .le 7, 3) := by decide +kernel
theorem dX1_wouldSpillFrom_24 : decode cX1_wouldSpillFrom 24 = .ok (.iload_n 2, 1) := by decide +kernel
theorem dX1_wouldSpillFrom_25 : decode cX1_wouldSpillFrom 25 = .ok (.goto 4, 3) := by decide +kernel
theorem dX1_wouldSpillFrom_28 : decode cX1_wouldSpillFrom 28 = .ok (.iconst 0, 1) := by decide +kernel
theorem dX1_wouldSpillFrom_29 : decode cX1_wouldSpillFrom 29 = .ok (.ireturn, 1) := by decide +kernel
set_option maxRecDepth 20000 in
theorem ggX1_trustAfter_X1_weightOf : GoodIn wsX1_trustAfter wsX1_weightOf := goodIn_r _ [10, 1, 11] (by decide +kernel) (by decide +kernel)
set_option maxRecDepth 20000 in
theorem gX1_trustAfter_X1_weightOf : GoodIn wsX1_trustAfter (wsV RX1 21 RX1 yX1_weightOf wsX1_weightOf) := goodIn_app (goodIn_of _ (by decide +kernel)) ggX1_trustAfter_X1_weightOf
theorem dX1_trustAfter_0 : decode cX1_trustAfter 0 = .ok (.aload_n 0, 1) := by decide +kernel
theorem dX1_trustAfter_1 : decode cX1_trustAfter 1 = .ok (.getfield 11, 3) := by decide +kernel
theorem dX1_trustAfter_4 : decode cX1_trustAfter 4 = .ok (.bipush 75, 2) := by decide +kernel
theorem dX1_trustAfter_6 : decode cX1_trustAfter 6 = .ok (.iload_n 1, 1) := by decide +kernel
theorem dX1_trustAfter_7 : decode cX1_trustAfter 7 = .ok (.iadd, 1) := by decide +kernel
theorem dX1_trustAfter_8 : decode cX1_trustAfter 8 = .ok (.iaload, 1) := by decide +kernel
theorem dX1_trustAfter_9 : decode cX1_trustAfter 9 = .ok (.istore_n 2, 1) := by decide +kernel
theorem dX1_trustAfter_10 : decode cX1_trustAfter 10 = .ok (.aload_n 0, 1) := by decide +kernel
theorem dX1_trustAfter_11 : decode cX1_trustAfter 11 = .ok (.getfield 11, 3) := by decide +kernel
theorem dX1_trustAfter_14 : decode cX1_trustAfter 14 = .ok (.bipush 24, 2) := by decide +kernel
theorem dX1_trustAfter_16 : decode cX1_trustAfter 16 = .ok (.aload_n 0, 1) := by decide +kernel
theorem dX1_trustAfter_17 : decode cX1_trustAfter 17 = .ok (.getfield 11, 3) := by decide +kernel
theorem dX1_trustAfter_20 : decode cX1_trustAfter 20 = .ok (.bipush 72, 2) := by decide +kernel
theorem dX1_trustAfter_22 : decode cX1_trustAfter 22 = .ok (.iload_n 1, 1) := by decide +kernel
theorem dX1_trustAfter_23 : decode cX1_trustAfter 23 = .ok (.iadd, 1) := by decide +kernel
theorem dX1_trustAfter_24 : decode cX1_trustAfter 24 = .ok (.iaload, 1) := by decide +kernel
theorem dX1_trustAfter_25 : decode cX1_trustAfter 25 = .ok (.iadd, 1) := by decide +kernel
theorem dX1_trustAfter_26 : decode cX1_trustAfter 26 = .ok (.iaload, 1) := by decide +kernel
theorem dX1_trustAfter_27 : decode cX1_trustAfter 27 = .ok (.istore_n 3, 1) := by decide +kernel
theorem dX1_trustAfter_28 : decode cX1_trustAfter 28 = .ok (.aload_n 0, 1) := by decide +kernel
theorem dX1_trustAfter_29 : decode cX1_trustAfter 29 = .ok (.getfield 11, 3) := by decide +kernel
theorem dX1_trustAfter_32 : decode cX1_trustAfter 32 = .ok (.bipush 78, 2) := by decide +kernel
theorem dX1_trustAfter_34 : decode cX1_trustAfter 34 = .ok (.iload_n 1, 1) := by decide +kernel
theorem dX1_trustAfter_35 : decode cX1_trustAfter 35 = .ok (.iadd, 1) := by decide +kernel
theorem dX1_trustAfter_36 : decode cX1_trustAfter 36 = .ok (.iaload, 1) := by decide +kernel
theorem dX1_trustAfter_37 : decode cX1_trustAfter 37 = .ok (.iload_n 2, 1) := by decide +kernel
theorem dX1_trustAfter_38 : decode cX1_trustAfter 38 = .ok (.isub, 1) := by decide +kernel
theorem dX1_trustAfter_39 : decode cX1_trustAfter 39 = .ok (.invokestatic 34, 3) := by decide +kernel
theorem dX1_trustAfter_42 : decode cX1_trustAfter 42 = .ok (.istore 4, 2) := by decide +kernel
theorem dX1_trustAfter_44 : decode cX1_trustAfter 44 = .ok (.aload_n 0, 1) := by decide +kernel
theorem dX1_trustAfter_45 : decode cX1_trustAfter 45 = .ok (.iload_n 1, 1) := by decide +kernel
theorem dX1_trustAfter_46 : decode cX1_trustAfter 46 = .ok (.invokevirtual 21, 3) := by decide +kernel
theorem dX1_trustAfter_49 : decode cX1_trustAfter 49 = .ok (.iload_n 2, 1) := by decide +kernel
theorem dX1_trustAfter_50 : decode cX1_trustAfter 50 = .ok (.isub, 1) := by decide +kernel
theorem dX1_trustAfter_51 : decode cX1_trustAfter 51 = .ok (.invokestatic 34, 3) := by decide +kernel
theorem dX1_trustAfter_54 : decode cX1_trustAfter 54 = .ok (.istore 5, 2) := by decide +kernel
theorem dX1_trustAfter_56 : decode cX1_trustAfter 56 = .ok (.iload 4, 2) := by decide +kernel
theorem dX1_trustAfter_58 : decode cX1_trustAfter 58 = .ok (.iload 5, 2) := by decide +kernel
theorem dX1_trustAfter_60 : decode cX1_trustAfter 60 = .ok (.if_icmp .ge 17, 3) := by decide +kernel
theorem dX1_trustAfter_63 : decode cX1_trustAfter 63 = .ok (.iload_n 3, 1) := by decide +kernel
theorem dX1_trustAfter_64 : decode cX1_trustAfter 64 = .ok (.bipush 10, 2) := by decide +kernel
theorem dX1_trustAfter_66 : decode cX1_trustAfter 66 = .ok (.if_icmp .ge 9, 3) := by decide +kernel
theorem dX1_trustAfter_69 : decode cX1_trustAfter 69 = .ok (.iload_n 3, 1) := by decide +kernel
theorem dX1_trustAfter_70 : decode cX1_trustAfter 70 = .ok (.iconst 1, 1) := by decide +kernel
theorem dX1_trustAfter_71 : decode cX1_trustAfter 71 = .ok (.iadd, 1) := by decide +kernel
theorem dX1_trustAfter_72 : decode cX1_trustAfter 72 = .ok (.goto 4, 3) := by decide +kernel
theorem dX1_trustAfter_75 : decode cX1_trustAfter 75 = .ok (.iload_n 3, 1) := by decide +kernel
theorem dX1_trustAfter_76 : decode cX1_trustAfter 76 = .ok (.ireturn, 1) := by decide +kernel
theorem dX1_trustAfter_77 : decode cX1_trustAfter 77 = .ok (.iload 4, 2) := by decide +kernel
theorem dX1_trustAfter_79 : decode cX1_trustAfter 79 = .ok (.iload 5, 2) := by decide +kernel
theorem dX1_trustAfter_81 : decode cX1_trustAfter 81 = .ok (.if_icmp .le 15, 3) := by decide +kernel
theorem dX1_trustAfter_84 : decode cX1_trustAfter 84 = .ok (.iload_n 3, 1) := by decide +kernel
theorem dX1_trustAfter_85 : decode cX1_trustAfter 85 = .ok (.ifCond .le 9, 3) := by decide +kernel
theorem dX1_trustAfter_88 : decode cX1_trustAfter 88 = .ok (.iload_n 3, 1) := by decide +kernel
theorem dX1_trustAfter_89 : decode cX1_trustAfter 89 = .ok (.iconst 1, 1) := by decide +kernel
theorem dX1_trustAfter_90 : decode cX1_trustAfter 90 = .ok (.isub, 1) := by decide +kernel
theorem dX1_trustAfter_91 : decode cX1_trustAfter 91 = .ok (.goto 4, 3) := by decide +kernel
theorem dX1_trustAfter_94 : decode cX1_trustAfter 94 = .ok (.iload_n 3, 1) := by decide +kernel
theorem dX1_trustAfter_95 : decode cX1_trustAfter 95 = .ok (.ireturn, 1) := by decide +kernel
theorem dX1_trustAfter_96 : decode cX1_trustAfter 96 = .ok (.iload_n 3, 1) := by decide +kernel
theorem dX1_trustAfter_97 : decode cX1_trustAfter 97 = .ok (.ireturn, 1) := by decide +kernel
theorem dX1_potsWith_0 : decode cX1_potsWith 0 = .ok (.iconst 0, 1) := by decide +kernel
theorem dX1_potsWith_1 : decode cX1_potsWith 1 = .ok (.istore_n 2, 1) := by decide +kernel
theorem dX1_potsWith_2 : decode cX1_potsWith 2 = .ok (.iconst 0, 1) := by decide +kernel
theorem dX1_potsWith_3 : decode cX1_potsWith 3 = .ok (.istore_n 3, 1) := by decide +kernel
theorem dX1_potsWith_4 : decode cX1_potsWith 4 = .ok (.iload_n 3, 1) := by decide +kernel
theorem dX1_potsWith_5 : decode cX1_potsWith 5 = .ok (.iconst 3, 1) := by decide +kernel
theorem dX1_potsWith_6 : decode cX1_potsWith 6 = .ok (.if_icmp .ge 28, 3) := by decide +kernel
theorem dX1_potsWith_9 : decode cX1_potsWith 9 = .ok (.aload_n 0, 1) := by decide +kernel
theorem dX1_potsWith_10 : decode cX1_potsWith 10 = .ok (.getfield 11, 3) := by decide +kernel
theorem dX1_potsWith_13 : decode cX1_potsWith 13 = .ok (.bipush 72, 2) := by decide +kernel
theorem dX1_potsWith_15 : decode cX1_potsWith 15 = .ok (.iload_n 3, 1) := by decide +kernel
theorem dX1_potsWith_16 : decode cX1_potsWith 16 = .ok (.iadd, 1) := by decide +kernel
theorem dX1_potsWith_17 : decode cX1_potsWith 17 = .ok (.iaload, 1) := by decide +kernel
theorem dX1_potsWith_18 : decode cX1_potsWith 18 = .ok (.iload_n 1, 1) := by decide +kernel
theorem dX1_potsWith_19 : decode cX1_potsWith 19 = .ok (.if_icmp .ne 9, 3) := by decide +kernel
theorem dX1_potsWith_22 : decode cX1_potsWith 22 = .ok (.iload_n 2, 1) := by decide +kernel
theorem dX1_potsWith_23 : decode cX1_potsWith 23 = .ok (.iconst 1, 1) := by decide +kernel
theorem dX1_potsWith_24 : decode cX1_potsWith 24 = .ok (.iload_n 3, 1) := by decide +kernel
theorem dX1_potsWith_25 : decode cX1_potsWith 25 = .ok (.ishl, 1) := by decide +kernel
theorem dX1_potsWith_26 : decode cX1_potsWith 26 = .ok (.ior, 1) := by decide +kernel
theorem dX1_potsWith_27 : decode cX1_potsWith 27 = .ok (.istore_n 2, 1) := by decide +kernel
theorem dX1_potsWith_28 : decode cX1_potsWith 28 = .ok (.iinc 3 1, 3) := by decide +kernel
theorem dX1_potsWith_31 : decode cX1_potsWith 31 = .ok (.goto (-27), 3) := by decide +kernel
theorem dX1_potsWith_34 : decode cX1_potsWith 34 = .ok (.iload_n 2, 1) := by decide +kernel
theorem dX1_potsWith_35 : decode cX1_potsWith 35 = .ok (.ireturn, 1) := by decide +kernel
set_option maxRecDepth 20000 in
theorem ggX1_sumOverGuests_X1_sumOf : GoodIn wsX1_sumOverGuests wsX1_sumOf := goodIn_r _ [5, 6, 7] (by decide +kernel) (by decide +kernel)
set_option maxRecDepth 20000 in
theorem gX1_sumOverGuests_X1_sumOf : GoodIn wsX1_sumOverGuests (wsV RX1 39 RX1 yX1_sumOf wsX1_sumOf) := goodIn_app (goodIn_of _ (by decide +kernel)) ggX1_sumOverGuests_X1_sumOf
theorem dX1_sumOverGuests_0 : decode cX1_sumOverGuests 0 = .ok (.aload_n 0, 1) := by decide +kernel
theorem dX1_sumOverGuests_1 : decode cX1_sumOverGuests 1 = .ok (.iload_n 1, 1) := by decide +kernel
theorem dX1_sumOverGuests_2 : decode cX1_sumOverGuests 2 = .ok (.bipush 8, 2) := by decide +kernel
theorem dX1_sumOverGuests_4 : decode cX1_sumOverGuests 4 = .ok (.invokevirtual 39, 3) := by decide +kernel
theorem dX1_sumOverGuests_7 : decode cX1_sumOverGuests 7 = .ok (.ireturn, 1) := by decide +kernel
set_option maxRecDepth 20000 in
theorem ggX1_teaInPots_X1_sumOf : GoodIn wsX1_teaInPots wsX1_sumOf := goodIn_r _ [5, 6, 7] (by decide +kernel) (by decide +kernel)
set_option maxRecDepth 20000 in
theorem gX1_teaInPots_X1_sumOf : GoodIn wsX1_teaInPots (wsV RX1 39 RX1 yX1_sumOf wsX1_sumOf) := goodIn_app (goodIn_of _ (by decide +kernel)) ggX1_teaInPots_X1_sumOf
theorem dX1_teaInPots_0 : decode cX1_teaInPots 0 = .ok (.aload_n 0, 1) := by decide +kernel
theorem dX1_teaInPots_1 : decode cX1_teaInPots 1 = .ok (.bipush 75, 2) := by decide +kernel
theorem dX1_teaInPots_3 : decode cX1_teaInPots 3 = .ok (.iconst 3, 1) := by decide +kernel
theorem dX1_teaInPots_4 : decode cX1_teaInPots 4 = .ok (.invokevirtual 39, 3) := by decide +kernel
theorem dX1_teaInPots_7 : decode cX1_teaInPots 7 = .ok (.ireturn, 1) := by decide +kernel
set_option maxRecDepth 20000 in
theorem ggX1_brewedSoFar_X1_sumOf : GoodIn wsX1_brewedSoFar wsX1_sumOf := goodIn_r _ [5, 6, 7] (by decide +kernel) (by decide +kernel)
set_option maxRecDepth 20000 in
theorem gX1_brewedSoFar_X1_sumOf : GoodIn wsX1_brewedSoFar (wsV RX1 39 RX1 yX1_sumOf wsX1_sumOf) := goodIn_app (goodIn_of _ (by decide +kernel)) ggX1_brewedSoFar_X1_sumOf
theorem dX1_brewedSoFar_0 : decode cX1_brewedSoFar 0 = .ok (.aload_n 0, 1) := by decide +kernel
theorem dX1_brewedSoFar_1 : decode cX1_brewedSoFar 1 = .ok (.bipush 81, 2) := by decide +kernel
theorem dX1_brewedSoFar_3 : decode cX1_brewedSoFar 3 = .ok (.iconst 3, 1) := by decide +kernel
theorem dX1_brewedSoFar_4 : decode cX1_brewedSoFar 4 = .ok (.invokevirtual 39, 3) := by decide +kernel
theorem dX1_brewedSoFar_7 : decode cX1_brewedSoFar 7 = .ok (.ireturn, 1) := by decide +kernel
set_option maxRecDepth 20000 in
theorem ggX1_handedSoFar_X1_sumOf : GoodIn wsX1_handedSoFar wsX1_sumOf := goodIn_r _ [5, 6, 7] (by decide +kernel) (by decide +kernel)
set_option maxRecDepth 20000 in
theorem gX1_handedSoFar_X1_sumOf : GoodIn wsX1_handedSoFar (wsV RX1 39 RX1 yX1_sumOf wsX1_sumOf) := goodIn_app (goodIn_of _ (by decide +kernel)) ggX1_handedSoFar_X1_sumOf
theorem dX1_handedSoFar_0 : decode cX1_handedSoFar 0 = .ok (.aload_n 0, 1) := by decide +kernel
theorem dX1_handedSoFar_1 : decode cX1_handedSoFar 1 = .ok (.bipush 84, 2) := by decide +kernel
theorem dX1_handedSoFar_3 : decode cX1_handedSoFar 3 = .ok (.iconst 3, 1) := by decide +kernel
theorem dX1_handedSoFar_4 : decode cX1_handedSoFar 4 = .ok (.invokevirtual 39, 3) := by decide +kernel
theorem dX1_handedSoFar_7 : decode cX1_handedSoFar 7 = .ok (.ireturn, 1) := by decide +kernel
set_option maxRecDepth 20000 in
theorem ggX1_teaByAccounts_X1_brewedSoFar : GoodIn wsX1_teaByAccounts wsX1_brewedSoFar := goodIn_r _ [5, 6, 7, 8, 4, 9, 10, 15] (by decide +kernel) (by decide +kernel)
set_option maxRecDepth 20000 in
theorem gX1_teaByAccounts_X1_brewedSoFar : GoodIn wsX1_teaByAccounts (wsV RX1 43 RX1 yX1_brewedSoFar wsX1_brewedSoFar) := goodIn_app (goodIn_of _ (by decide +kernel)) ggX1_teaByAccounts_X1_brewedSoFar
set_option maxRecDepth 20000 in
theorem ggX1_teaByAccounts_X1_sumOverGuests : GoodIn wsX1_teaByAccounts wsX1_sumOverGuests := goodIn_r _ [14, 6, 7, 8, 4, 9, 10, 15] (by decide +kernel) (by decide +kernel)
set_option maxRecDepth 20000 in
theorem gX1_teaByAccounts_X1_sumOverGuests : GoodIn wsX1_teaByAccounts (wsV RX1 47 RX1 yX1_sumOverGuests wsX1_sumOverGuests) := goodIn_app (goodIn_of _ (by decide +kernel)) ggX1_teaByAccounts_X1_sumOverGuests
theorem dX1_teaByAccounts_0 : decode cX1_teaByAccounts 0 = .ok (.aload_n 0, 1) := by decide +kernel
theorem dX1_teaByAccounts_1 : decode cX1_teaByAccounts 1 = .ok (.invokevirtual 43, 3) := by decide +kernel
theorem dX1_teaByAccounts_4 : decode cX1_teaByAccounts 4 = .ok (.aload_n 0, 1) := by decide +kernel
theorem dX1_teaByAccounts_5 : decode cX1_teaByAccounts 5 = .ok (.bipush 48, 2) := by decide +kernel
theorem dX1_teaByAccounts_7 : decode cX1_teaByAccounts 7 = .ok (.invokevirtual 47, 3) := by decide +kernel
theorem dX1_teaByAccounts_10 : decode cX1_teaByAccounts 10 = .ok (.isub, 1) := by decide +kernel
theorem dX1_teaByAccounts_11 : decode cX1_teaByAccounts 11 = .ok (.aload_n 0, 1) := by decide +kernel
theorem dX1_teaByAccounts_12 : decode cX1_teaByAccounts 12 = .ok (.bipush 56, 2) := by decide +kernel
theorem dX1_teaByAccounts_14 : decode cX1_teaByAccounts 14 = .ok (.invokevirtual 47, 3) := by decide +kernel
theorem dX1_teaByAccounts_17 : decode cX1_teaByAccounts 17 = .ok (.isub, 1) := by decide +kernel
theorem dX1_teaByAccounts_18 : decode cX1_teaByAccounts 18 = .ok (.ireturn, 1) := by decide +kernel
theorem dX1_sumOf_0 : decode cX1_sumOf 0 = .ok (.iconst 0, 1) := by decide +kernel
theorem dX1_sumOf_1 : decode cX1_sumOf 1 = .ok (.istore_n 3, 1) := by decide +kernel
theorem dX1_sumOf_2 : decode cX1_sumOf 2 = .ok (.iconst 0, 1) := by decide +kernel
theorem dX1_sumOf_3 : decode cX1_sumOf 3 = .ok (.istore 4, 2) := by decide +kernel
theorem dX1_sumOf_5 : decode cX1_sumOf 5 = .ok (.iload 4, 2) := by decide +kernel
theorem dX1_sumOf_7 : decode cX1_sumOf 7 = .ok (.iload_n 2, 1) := by decide +kernel
theorem dX1_sumOf_8 : decode cX1_sumOf 8 = .ok (.if_icmp .ge 21, 3) := by decide +kernel
theorem dX1_sumOf_11 : decode cX1_sumOf 11 = .ok (.iload_n 3, 1) := by decide +kernel
theorem dX1_sumOf_12 : decode cX1_sumOf 12 = .ok (.aload_n 0, 1) := by decide +kernel
theorem dX1_sumOf_13 : decode cX1_sumOf 13 = .ok (.getfield 11, 3) := by decide +kernel
theorem dX1_sumOf_16 : decode cX1_sumOf 16 = .ok (.iload_n 1, 1) := by decide +kernel
theorem dX1_sumOf_17 : decode cX1_sumOf 17 = .ok (.iload 4, 2) := by decide +kernel
theorem dX1_sumOf_19 : decode cX1_sumOf 19 = .ok (.iadd, 1) := by decide +kernel
theorem dX1_sumOf_20 : decode cX1_sumOf 20 = .ok (.iaload, 1) := by decide +kernel
theorem dX1_sumOf_21 : decode cX1_sumOf 21 = .ok (.iadd, 1) := by decide +kernel
theorem dX1_sumOf_22 : decode cX1_sumOf 22 = .ok (.istore_n 3, 1) := by decide +kernel
theorem dX1_sumOf_23 : decode cX1_sumOf 23 = .ok (.iinc 4 1, 3) := by decide +kernel
theorem dX1_sumOf_26 : decode cX1_sumOf 26 = .ok (.goto (-21), 3) := by decide +kernel
theorem dX1_sumOf_29 : decode cX1_sumOf 29 = .ok (.iload_n 3, 1) := by decide +kernel
theorem dX1_sumOf_30 : decode cX1_sumOf 30 = .ok (.ireturn, 1) := by decide +kernel
theorem dX1_drinkFrom_0 : decode cX1_drinkFrom 0 = .ok (.aload_n 0, 1) := by decide +kernel
theorem dX1_drinkFrom_1 : decode cX1_drinkFrom 1 = .ok (.getfield 11, 3) := by decide +kernel
theorem dX1_drinkFrom_4 : decode cX1_drinkFrom 4 = .ok (.bipush 16, 2) := by decide +kernel
theorem dX1_drinkFrom_6 : decode cX1_drinkFrom 6 = .ok (.iload_n 1, 1) := by decide +kernel
theorem dX1_drinkFrom_7 : decode cX1_drinkFrom 7 = .ok (.iadd, 1) := by decide +kernel
theorem dX1_drinkFrom_8 : decode cX1_drinkFrom 8 = .ok (.iaload, 1) := by decide +kernel
theorem dX1_drinkFrom_9 : decode cX1_drinkFrom 9 = .ok (.aload_n 0, 1) := by decide +kernel
theorem dX1_drinkFrom_10 : decode cX1_drinkFrom 10 = .ok (.getfield 11, 3) := by decide +kernel
theorem dX1_drinkFrom_13 : decode cX1_drinkFrom 13 = .ok (.bipush 8, 2) := by decide +kernel
theorem dX1_drinkFrom_15 : decode cX1_drinkFrom 15 = .ok (.iload_n 1, 1) := by decide +kernel
theorem dX1_drinkFrom_16 : decode cX1_drinkFrom 16 = .ok (.iadd, 1) := by decide +kernel
theorem dX1_drinkFrom_17 : decode cX1_drinkFrom 17 = .ok (.iaload, 1) := by decide +kernel
theorem dX1_drinkFrom_18 : decode cX1_drinkFrom 18 = .ok (.invokestatic 50, 3) := by decide +kernel
theorem dX1_drinkFrom_21 : decode cX1_drinkFrom 21 = .ok (.istore_n 2, 1) := by decide +kernel
theorem dX1_drinkFrom_22 : decode cX1_drinkFrom 22 = .ok (.aload_n 0, 1) := by decide +kernel
theorem dX1_drinkFrom_23 : decode cX1_drinkFrom 23 = .ok (.getfield 11, 3) := by decide +kernel
theorem dX1_drinkFrom_26 : decode cX1_drinkFrom 26 = .ok (.bipush 8, 2) := by decide +kernel
theorem dX1_drinkFrom_28 : decode cX1_drinkFrom 28 = .ok (.iload_n 1, 1) := by decide +kernel
theorem dX1_drinkFrom_29 : decode cX1_drinkFrom 29 = .ok (.iadd, 1) := by decide +kernel
theorem dX1_drinkFrom_30 : decode cX1_drinkFrom 30 = .ok (.dup2, 1) := by decide +kernel
theorem dX1_drinkFrom_31 : decode cX1_drinkFrom 31 = .ok (.iaload, 1) := by decide +kernel
theorem dX1_drinkFrom_32 : decode cX1_drinkFrom 32 = .ok (.iload_n 2, 1) := by decide +kernel
theorem dX1_drinkFrom_33 : decode cX1_drinkFrom 33 = .ok (.isub, 1) := by decide +kernel
theorem dX1_drinkFrom_34 : decode cX1_drinkFrom 34 = .ok (.iastore, 1) := by decide +kernel
theorem dX1_drinkFrom_35 : decode cX1_drinkFrom 35 = .ok (.aload_n 0, 1) := by decide +kernel
theorem dX1_drinkFrom_36 : decode cX1_drinkFrom 36 = .ok (.getfield 11, 3) := by decide +kernel
theorem dX1_drinkFrom_39 : decode cX1_drinkFrom 39 = .ok (.bipush 48, 2) := by decide +kernel
theorem dX1_drinkFrom_41 : decode cX1_drinkFrom 41 = .ok (.iload_n 1, 1) := by decide +kernel
theorem dX1_drinkFrom_42 : decode cX1_drinkFrom 42 = .ok (.iadd, 1) := by decide +kernel
theorem dX1_drinkFrom_43 : decode cX1_drinkFrom 43 = .ok (.dup2, 1) := by decide +kernel
theorem dX1_drinkFrom_44 : decode cX1_drinkFrom 44 = .ok (.iaload, 1) := by decide +kernel
theorem dX1_drinkFrom_45 : decode cX1_drinkFrom 45 = .ok (.iload_n 2, 1) := by decide +kernel
theorem dX1_drinkFrom_46 : decode cX1_drinkFrom 46 = .ok (.iadd, 1) := by decide +kernel
theorem dX1_drinkFrom_47 : decode cX1_drinkFrom 47 = .ok (.iastore, 1) := by decide +kernel
theorem dX1_drinkFrom_48 : decode cX1_drinkFrom 48 = .ok (.iload_n 2, 1) := by decide +kernel
theorem dX1_drinkFrom_49 : decode cX1_drinkFrom 49 = .ok (.ireturn, 1) := by decide +kernel
set_option maxRecDepth 20000 in
theorem ggX1_allDrink_X1_drinkFrom : GoodIn wsX1_allDrink wsX1_drinkFrom := goodIn_r _ [5, 6, 7, 8, 9, 10, 11] (by decide +kernel) (by decide +kernel)
set_option maxRecDepth 20000 in
theorem gX1_allDrink_X1_drinkFrom : GoodIn wsX1_allDrink (wsV RX1 53 RX1 yX1_drinkFrom wsX1_drinkFrom) := goodIn_app (goodIn_of _ (by decide +kernel)) ggX1_allDrink_X1_drinkFrom
theorem dX1_allDrink_0 : decode cX1_allDrink 0 = .ok (.iconst 0, 1) := by decide +kernel
theorem dX1_allDrink_1 : decode cX1_allDrink 1 = .ok (.istore_n 1, 1) := by decide +kernel
theorem dX1_allDrink_2 : decode cX1_allDrink 2 = .ok (.iload_n 1, 1) := by decide +kernel
theorem dX1_allDrink_3 : decode cX1_allDrink 3 = .ok (.bipush 8, 2) := by decide +kernel
theorem dX1_allDrink_5 : decode cX1_allDrink 5 = .ok (.if_icmp .ge 15, 3) := by decide +kernel
theorem dX1_allDrink_8 : decode cX1_allDrink 8 = .ok (.aload_n 0, 1) := by decide +kernel
theorem dX1_allDrink_9 : decode cX1_allDrink 9 = .ok (.iload_n 1, 1) := by decide +kernel
theorem dX1_allDrink_10 : decode cX1_allDrink 10 = .ok (.invokevirtual 53, 3) := by decide +kernel
theorem dX1_allDrink_13 : decode cX1_allDrink 13 = .ok (.pop, 1) := by decide +kernel
theorem dX1_allDrink_14 : decode cX1_allDrink 14 = .ok (.iinc 1 1, 3) := by decide +kernel
theorem dX1_allDrink_17 : decode cX1_allDrink 17 = .ok (.goto (-15), 3) := by decide +kernel
theorem dX1_allDrink_20 : decode cX1_allDrink 20 = .ok (.return_, 1) := by decide +kernel
theorem dX1_brewInto_0 : decode cX1_brewInto 0 = .ok (.aload_n 0, 1) := by decide +kernel
theorem dX1_brewInto_1 : decode cX1_brewInto 1 = .ok (.getfield 11, 3) := by decide +kernel
theorem dX1_brewInto_4 : decode cX1_brewInto 4 = .ok (.bipush 75, 2) := by decide +kernel
theorem dX1_brewInto_6 : decode cX1_brewInto 6 = .ok (.iload_n 1, 1) := by decide +kernel
theorem dX1_brewInto_7 : decode cX1_brewInto 7 = .ok (.iadd, 1) := by decide +kernel
theorem dX1_brewInto_8 : decode cX1_brewInto 8 = .ok (.dup2, 1) := by decide +kernel
theorem dX1_brewInto_9 : decode cX1_brewInto 9 = .ok (.iaload, 1) := by decide +kernel
theorem dX1_brewInto_10 : decode cX1_brewInto 10 = .ok (.iload_n 2, 1) := by decide +kernel
theorem dX1_brewInto_11 : decode cX1_brewInto 11 = .ok (.iadd, 1) := by decide +kernel
theorem dX1_brewInto_12 : decode cX1_brewInto 12 = .ok (.iastore, 1) := by decide +kernel
theorem dX1_brewInto_13 : decode cX1_brewInto 13 = .ok (.aload_n 0, 1) := by decide +kernel
theorem dX1_brewInto_14 : decode cX1_brewInto 14 = .ok (.getfield 11, 3) := by decide +kernel
theorem dX1_brewInto_17 : decode cX1_brewInto 17 = .ok (.bipush 81, 2) := by decide +kernel
theorem dX1_brewInto_19 : decode cX1_brewInto 19 = .ok (.iload_n 1, 1) := by decide +kernel
theorem dX1_brewInto_20 : decode cX1_brewInto 20 = .ok (.iadd, 1) := by decide +kernel
theorem dX1_brewInto_21 : decode cX1_brewInto 21 = .ok (.dup2, 1) := by decide +kernel
theorem dX1_brewInto_22 : decode cX1_brewInto 22 = .ok (.iaload, 1) := by decide +kernel
theorem dX1_brewInto_23 : decode cX1_brewInto 23 = .ok (.iload_n 2, 1) := by decide +kernel
theorem dX1_brewInto_24 : decode cX1_brewInto 24 = .ok (.iadd, 1) := by decide +kernel
theorem dX1_brewInto_25 : decode cX1_brewInto 25 = .ok (.iastore, 1) := by decide +kernel
theorem dX1_brewInto_26 : decode cX1_brewInto 26 = .ok (.aload_n 0, 1) := by decide +kernel
theorem dX1_brewInto_27 : decode cX1_brewInto 27 = .ok (.getfield 11, 3) := by decide +kernel
theorem dX1_brewInto_30 : decode cX1_brewInto 30 = .ok (.bipush 75, 2) := by decide +kernel
theorem dX1_brewInto_32 : decode cX1_brewInto 32 = .ok (.iload_n 1, 1) := by decide +kernel
theorem dX1_brewInto_33 : decode cX1_brewInto 33 = .ok (.iadd, 1) := by decide +kernel
theorem dX1_brewInto_34 : decode cX1_brewInto 34 = .ok (.iaload, 1) := by decide +kernel
theorem dX1_brewInto_35 : decode cX1_brewInto 35 = .ok (.ireturn, 1) := by decide +kernel
set_option maxRecDepth 20000 in
theorem ggX1_pourFrom_X1_comesFrom : GoodIn wsX1_pourFrom wsX1_comesFrom := goodIn_r _ [10, 1, 11, 12, 13, 9, 14, 15, 16, 17, 18, 19, 20, 21, 22, 30] (by decide +kernel) (by decide +kernel)
set_option maxRecDepth 20000 in
theorem gX1_pourFrom_X1_comesFrom : GoodIn wsX1_pourFrom (wsV RX1 31 RX1 yX1_comesFrom wsX1_comesFrom) := goodIn_app (goodIn_of _ (by decide +kernel)) ggX1_pourFrom_X1_comesFrom
set_option maxRecDepth 20000 in
theorem ggX1_pourFrom_X1_roomOf : GoodIn wsX1_pourFrom wsX1_roomOf := goodIn_r _ [22, 1, 30] (by decide +kernel) (by decide +kernel)
set_option maxRecDepth 20000 in
theorem gX1_pourFrom_X1_roomOf : GoodIn wsX1_pourFrom (wsV RX1 25 RX1 yX1_roomOf wsX1_roomOf) := goodIn_app (goodIn_of _ (by decide +kernel)) ggX1_pourFrom_X1_roomOf
set_option maxRecDepth 20000 in
theorem ggX1_pourFrom_X1_trustAfter : GoodIn wsX1_pourFrom wsX1_trustAfter := goodIn_r _ [26, 1, 27, 28, 4, 29, 15, 16, 17, 9, 18, 30] (by decide +kernel) (by decide +kernel)
set_option maxRecDepth 20000 in
theorem gX1_pourFrom_X1_trustAfter : GoodIn wsX1_pourFrom (wsV RX1 59 RX1 yX1_trustAfter wsX1_trustAfter) := goodIn_app (goodIn_of _ (by decide +kernel)) ggX1_pourFrom_X1_trustAfter
theorem dX1_pourFrom_0 : decode cX1_pourFrom 0 = .ok (.aload_n 0, 1) := by decide +kernel
theorem dX1_pourFrom_1 : decode cX1_pourFrom 1 = .ok (.getfield 11, 3) := by decide +kernel
theorem dX1_pourFrom_4 : decode cX1_pourFrom 4 = .ok (.bipush 72, 2) := by decide +kernel
theorem dX1_pourFrom_6 : decode cX1_pourFrom 6 = .ok (.iload_n 1, 1) := by decide +kernel
theorem dX1_pourFrom_7 : decode cX1_pourFrom 7 = .ok (.iadd, 1) := by decide +kernel
theorem dX1_pourFrom_8 : decode cX1_pourFrom 8 = .ok (.iaload, 1) := by decide +kernel
theorem dX1_pourFrom_9 : decode cX1_pourFrom 9 = .ok (.istore_n 2, 1) := by decide +kernel
theorem dX1_pourFrom_10 : decode cX1_pourFrom 10 = .ok (.aload_n 0, 1) := by decide +kernel
theorem dX1_pourFrom_11 : decode cX1_pourFrom 11 = .ok (.iload_n 1, 1) := by decide +kernel
theorem dX1_pourFrom_12 : decode cX1_pourFrom 12 = .ok (.invokevirtual 31, 3) := by decide +kernel
theorem dX1_pourFrom_15 : decode cX1_pourFrom 15 = .ok (.istore_n 3, 1) := by decide +kernel
theorem dX1_pourFrom_16 : decode cX1_pourFrom 16 = .ok (.iload_n 3, 1) := by decide +kernel
theorem dX1_pourFrom_17 : decode cX1_pourFrom 17 = .ok (.aload_n 0, 1) := by decide +kernel
theorem dX1_pourFrom_18 : decode cX1_pourFrom 18 = .ok (.iload_n 2, 1) := by decide +kernel
theorem dX1_pourFrom_19 : decode cX1_pourFrom 19 = .ok (.invokevirtual 25, 3) := by decide +kernel
theorem dX1_pourFrom_22 : decode cX1_pourFrom 22 = .ok (.isub, 1) := by decide +kernel
theorem dX1_pourFrom_23 : decode cX1_pourFrom 23 = .ok (.iconst 0, 1) := by decide +kernel
theorem dX1_pourFrom_24 : decode cX1_pourFrom 24 = .ok (.invokestatic 56, 3) := by decide +kernel
theorem dX1_pourFrom_27 : decode cX1_pourFrom 27 = .ok (.istore 4, 2) := by decide +kernel
theorem dX1_pourFrom_29 : decode cX1_pourFrom 29 = .ok (.aload_n 0, 1) := by decide +kernel
theorem dX1_pourFrom_30 : decode cX1_pourFrom 30 = .ok (.getfield 11, 3) := by decide +kernel
theorem dX1_pourFrom_33 : decode cX1_pourFrom 33 = .ok (.bipush 24, 2) := by decide +kernel
theorem dX1_pourFrom_35 : decode cX1_pourFrom 35 = .ok (.iload_n 2, 1) := by decide +kernel
theorem dX1_pourFrom_36 : decode cX1_pourFrom 36 = .ok (.iadd, 1) := by decide +kernel
theorem dX1_pourFrom_37 : decode cX1_pourFrom 37 = .ok (.aload_n 0, 1) := by decide +kernel
theorem dX1_pourFrom_38 : decode cX1_pourFrom 38 = .ok (.iload_n 1, 1) := by decide +kernel
theorem dX1_pourFrom_39 : decode cX1_pourFrom 39 = .ok (.invokevirtual 59, 3) := by decide +kernel
theorem dX1_pourFrom_42 : decode cX1_pourFrom 42 = .ok (.iastore, 1) := by decide +kernel
theorem dX1_pourFrom_43 : decode cX1_pourFrom 43 = .ok (.aload_n 0, 1) := by decide +kernel
theorem dX1_pourFrom_44 : decode cX1_pourFrom 44 = .ok (.getfield 11, 3) := by decide +kernel
theorem dX1_pourFrom_47 : decode cX1_pourFrom 47 = .ok (.bipush 75, 2) := by decide +kernel
theorem dX1_pourFrom_49 : decode cX1_pourFrom 49 = .ok (.iload_n 1, 1) := by decide +kernel
theorem dX1_pourFrom_50 : decode cX1_pourFrom 50 = .ok (.iadd, 1) := by decide +kernel
theorem dX1_pourFrom_51 : decode cX1_pourFrom 51 = .ok (.dup2, 1) := by decide +kernel
theorem dX1_pourFrom_52 : decode cX1_pourFrom 52 = .ok (.iaload, 1) := by decide +kernel
theorem dX1_pourFrom_53 : decode cX1_pourFrom 53 = .ok (.iload_n 3, 1) := by decide +kernel
theorem dX1_pourFrom_54 : decode cX1_pourFrom 54 = .ok (.isub, 1) := by decide +kernel
theorem dX1_pourFrom_55 : decode cX1_pourFrom 55 = .ok (.iastore, 1) := by decide +kernel
theorem dX1_pourFrom_56 : decode cX1_pourFrom 56 = .ok (.aload_n 0, 1) := by decide +kernel
theorem dX1_pourFrom_57 : decode cX1_pourFrom 57 = .ok (.getfield 11, 3) := by decide +kernel
theorem dX1_pourFrom_60 : decode cX1_pourFrom 60 = .ok (.bipush 8, 2) := by decide +kernel
theorem dX1_pourFrom_62 : decode cX1_pourFrom 62 = .ok (.iload_n 2, 1) := by decide +kernel
theorem dX1_pourFrom_63 : decode cX1_pourFrom 63 = .ok (.iadd, 1) := by decide +kernel
theorem dX1_pourFrom_64 : decode cX1_pourFrom 64 = .ok (.dup2, 1) := by decide +kernel
theorem dX1_pourFrom_65 : decode cX1_pourFrom 65 = .ok (.iaload, 1) := by decide +kernel
theorem dX1_pourFrom_66 : decode cX1_pourFrom 66 = .ok (.iload_n 3, 1) := by decide +kernel
theorem dX1_pourFrom_67 : decode cX1_pourFrom 67 = .ok (.iload 4, 2) := by decide +kernel
theorem dX1_pourFrom_69 : decode cX1_pourFrom 69 = .ok (.isub, 1) := by decide +kernel
theorem dX1_pourFrom_70 : decode cX1_pourFrom 70 = .ok (.iadd, 1) := by decide +kernel
theorem dX1_pourFrom_71 : decode cX1_pourFrom 71 = .ok (.iastore, 1) := by decide +kernel
theorem dX1_pourFrom_72 : decode cX1_pourFrom 72 = .ok (.aload_n 0, 1) := by decide +kernel
theorem dX1_pourFrom_73 : decode cX1_pourFrom 73 = .ok (.getfield 11, 3) := by decide +kernel
theorem dX1_pourFrom_76 : decode cX1_pourFrom 76 = .ok (.bipush 56, 2) := by decide +kernel
theorem dX1_pourFrom_78 : decode cX1_pourFrom 78 = .ok (.iload_n 2, 1) := by decide +kernel
theorem dX1_pourFrom_79 : decode cX1_pourFrom 79 = .ok (.iadd, 1) := by decide +kernel
theorem dX1_pourFrom_80 : decode cX1_pourFrom 80 = .ok (.dup2, 1) := by decide +kernel
theorem dX1_pourFrom_81 : decode cX1_pourFrom 81 = .ok (.iaload, 1) := by decide +kernel
theorem dX1_pourFrom_82 : decode cX1_pourFrom 82 = .ok (.iload 4, 2) := by decide +kernel
theorem dX1_pourFrom_84 : decode cX1_pourFrom 84 = .ok (.iadd, 1) := by decide +kernel
theorem dX1_pourFrom_85 : decode cX1_pourFrom 85 = .ok (.iastore, 1) := by decide +kernel
theorem dX1_pourFrom_86 : decode cX1_pourFrom 86 = .ok (.aload_n 0, 1) := by decide +kernel
theorem dX1_pourFrom_87 : decode cX1_pourFrom 87 = .ok (.getfield 11, 3) := by decide +kernel
theorem dX1_pourFrom_90 : decode cX1_pourFrom 90 = .ok (.bipush 64, 2) := by decide +kernel
theorem dX1_pourFrom_92 : decode cX1_pourFrom 92 = .ok (.iload_n 2, 1) := by decide +kernel
theorem dX1_pourFrom_93 : decode cX1_pourFrom 93 = .ok (.iadd, 1) := by decide +kernel
theorem dX1_pourFrom_94 : decode cX1_pourFrom 94 = .ok (.dup2, 1) := by decide +kernel
theorem dX1_pourFrom_95 : decode cX1_pourFrom 95 = .ok (.iaload, 1) := by decide +kernel
theorem dX1_pourFrom_96 : decode cX1_pourFrom 96 = .ok (.iload_n 3, 1) := by decide +kernel
theorem dX1_pourFrom_97 : decode cX1_pourFrom 97 = .ok (.iadd, 1) := by decide +kernel
theorem dX1_pourFrom_98 : decode cX1_pourFrom 98 = .ok (.iastore, 1) := by decide +kernel
theorem dX1_pourFrom_99 : decode cX1_pourFrom 99 = .ok (.aload_n 0, 1) := by decide +kernel
theorem dX1_pourFrom_100 : decode cX1_pourFrom 100 = .ok (.getfield 11, 3) := by decide +kernel
theorem dX1_pourFrom_103 : decode cX1_pourFrom 103 = .ok (.sipush 136, 3) := by decide +kernel
theorem dX1_pourFrom_106 : decode cX1_pourFrom 106 = .ok (.dup2, 1) := by decide +kernel
theorem dX1_pourFrom_107 : decode cX1_pourFrom 107 = .ok (.iaload, 1) := by decide +kernel
theorem dX1_pourFrom_108 : decode cX1_pourFrom 108 = .ok (.iconst 1, 1) := by decide +kernel
theorem dX1_pourFrom_109 : decode cX1_pourFrom 109 = .ok (.iadd, 1) := by decide +kernel
theorem dX1_pourFrom_110 : decode cX1_pourFrom 110 = .ok (.iastore, 1) := by decide +kernel
theorem dX1_pourFrom_111 : decode cX1_pourFrom 111 = .ok (.iload 4, 2) := by decide +kernel
theorem dX1_pourFrom_113 : decode cX1_pourFrom 113 = .ok (.ifCond .le 28, 3) := by decide +kernel
theorem dX1_pourFrom_116 : decode cX1_pourFrom 116 = .ok (.aload_n 0, 1) := by decide +kernel
theorem dX1_pourFrom_117 : decode cX1_pourFrom 117 = .ok (.getfield 11, 3) := by decide +kernel
theorem dX1_pourFrom_120 : decode cX1_pourFrom 120 = .ok (.bipush 40, 2) := by decide +kernel
theorem dX1_pourFrom_122 : decode cX1_pourFrom 122 = .ok (.iload_n 2, 1) := by decide +kernel
theorem dX1_pourFrom_123 : decode cX1_pourFrom 123 = .ok (.iadd, 1) := by decide +kernel
theorem dX1_pourFrom_124 : decode cX1_pourFrom 124 = .ok (.dup2, 1) := by decide +kernel
theorem dX1_pourFrom_125 : decode cX1_pourFrom 125 = .ok (.iaload, 1) := by decide +kernel
theorem dX1_pourFrom_126 : decode cX1_pourFrom 126 = .ok (.iconst 1, 1) := by decide +kernel
theorem dX1_pourFrom_127 : decode cX1_pourFrom 127 = .ok (.iadd, 1) := by decide +kernel
theorem dX1_pourFrom_128 : decode cX1_pourFrom 128 = .ok (.iastore, 1) := by decide +kernel
theorem dX1_pourFrom_129 : decode cX1_pourFrom 129 = .ok (.aload_n 0, 1) := by decide +kernel
theorem dX1_pourFrom_130 : decode cX1_pourFrom 130 = .ok (.getfield 11, 3) := by decide +kernel
theorem dX1_pourFrom_133 : decode cX1_pourFrom 133 = .ok (.sipush 137, 3) := by decide +kernel
theorem dX1_pourFrom_136 : decode cX1_pourFrom 136 = .ok (.dup2, 1) := by decide +kernel
theorem dX1_pourFrom_137 : decode cX1_pourFrom 137 = .ok (.iaload, 1) := by decide +kernel
theorem dX1_pourFrom_138 : decode cX1_pourFrom 138 = .ok (.iconst 1, 1) := by decide +kernel
theorem dX1_pourFrom_139 : decode cX1_pourFrom 139 = .ok (.iadd, 1) := by decide +kernel
theorem dX1_pourFrom_140 : decode cX1_pourFrom 140 = .ok (.iastore, 1) := by decide +kernel
theorem dX1_pourFrom_141 : decode cX1_pourFrom 141 = .ok (.iload 4, 2) := by decide +kernel
theorem dX1_pourFrom_143 : decode cX1_pourFrom 143 = .ok (.ireturn, 1) := by decide +kernel
set_option maxRecDepth 20000 in
theorem ggX1_handOn_X1_guessOf : GoodIn wsX1_handOn wsX1_guessOf := goodIn_r _ [13, 1, 14, 15, 16, 12, 17, 18] (by decide +kernel) (by decide +kernel)
set_option maxRecDepth 20000 in
theorem gX1_handOn_X1_guessOf : GoodIn wsX1_handOn (wsV RX1 28 RX1 yX1_guessOf wsX1_guessOf) := goodIn_app (goodIn_of _ (by decide +kernel)) ggX1_handOn_X1_guessOf
theorem dX1_handOn_0 : decode cX1_handOn 0 = .ok (.aload_n 0, 1) := by decide +kernel
theorem dX1_handOn_1 : decode cX1_handOn 1 = .ok (.getfield 11, 3) := by decide +kernel
theorem dX1_handOn_4 : decode cX1_handOn 4 = .ok (.bipush 72, 2) := by decide +kernel
theorem dX1_handOn_6 : decode cX1_handOn 6 = .ok (.iload_n 1, 1) := by decide +kernel
theorem dX1_handOn_7 : decode cX1_handOn 7 = .ok (.iadd, 1) := by decide +kernel
theorem dX1_handOn_8 : decode cX1_handOn 8 = .ok (.iaload, 1) := by decide +kernel
theorem dX1_handOn_9 : decode cX1_handOn 9 = .ok (.istore_n 3, 1) := by decide +kernel
theorem dX1_handOn_10 : decode cX1_handOn 10 = .ok (.aload_n 0, 1) := by decide +kernel
theorem dX1_handOn_11 : decode cX1_handOn 11 = .ok (.iload_n 1, 1) := by decide +kernel
theorem dX1_handOn_12 : decode cX1_handOn 12 = .ok (.invokevirtual 28, 3) := by decide +kernel
theorem dX1_handOn_15 : decode cX1_handOn 15 = .ok (.aload_n 0, 1) := by decide +kernel
theorem dX1_handOn_16 : decode cX1_handOn 16 = .ok (.getfield 11, 3) := by decide +kernel
theorem dX1_handOn_19 : decode cX1_handOn 19 = .ok (.bipush 32, 2) := by decide +kernel
theorem dX1_handOn_21 : decode cX1_handOn 21 = .ok (.iload_n 3, 1) := by decide +kernel
theorem dX1_handOn_22 : decode cX1_handOn 22 = .ok (.iadd, 1) := by decide +kernel
theorem dX1_handOn_23 : decode cX1_handOn 23 = .ok (.iaload, 1) := by decide +kernel
theorem dX1_handOn_24 : decode cX1_handOn 24 = .ok (.iadd, 1) := by decide +kernel
theorem dX1_handOn_25 : decode cX1_handOn 25 = .ok (.istore 4, 2) := by decide +kernel
theorem dX1_handOn_27 : decode cX1_handOn 27 = .ok (.iconst 0, 1) := by decide +kernel
theorem dX1_handOn_28 : decode cX1_handOn 28 = .ok (.sipush 200, 3) := by decide +kernel
theorem dX1_handOn_31 : decode cX1_handOn 31 = .ok (.iload 4, 2) := by decide +kernel
theorem dX1_handOn_33 : decode cX1_handOn 33 = .ok (.invokestatic 50, 3) := by decide +kernel
theorem dX1_handOn_36 : decode cX1_handOn 36 = .ok (.invokestatic 56, 3) := by decide +kernel
theorem dX1_handOn_39 : decode cX1_handOn 39 = .ok (.istore 4, 2) := by decide +kernel
theorem dX1_handOn_41 : decode cX1_handOn 41 = .ok (.iload_n 1, 1) := by decide +kernel
theorem dX1_handOn_42 : decode cX1_handOn 42 = .ok (.bipush 8, 2) := by decide +kernel
theorem dX1_handOn_44 : decode cX1_handOn 44 = .ok (.imul, 1) := by decide +kernel
theorem dX1_handOn_45 : decode cX1_handOn 45 = .ok (.iload_n 3, 1) := by decide +kernel
theorem dX1_handOn_46 : decode cX1_handOn 46 = .ok (.iadd, 1) := by decide +kernel
theorem dX1_handOn_47 : decode cX1_handOn 47 = .ok (.istore 5, 2) := by decide +kernel
theorem dX1_handOn_49 : decode cX1_handOn 49 = .ok (.aload_n 0, 1) := by decide +kernel
theorem dX1_handOn_50 : decode cX1_handOn 50 = .ok (.getfield 11, 3) := by decide +kernel
theorem dX1_handOn_53 : decode cX1_handOn 53 = .ok (.bipush 87, 2) := by decide +kernel
theorem dX1_handOn_55 : decode cX1_handOn 55 = .ok (.iload 5, 2) := by decide +kernel
theorem dX1_handOn_57 : decode cX1_handOn 57 = .ok (.iadd, 1) := by decide +kernel
theorem dX1_handOn_58 : decode cX1_handOn 58 = .ok (.iaload, 1) := by decide +kernel
theorem dX1_handOn_59 : decode cX1_handOn 59 = .ok (.iconst (-1), 1) := by decide +kernel
theorem dX1_handOn_60 : decode cX1_handOn 60 = .ok (.if_icmp .ne 46, 3) := by decide +kernel
theorem dX1_handOn_63 : decode cX1_handOn 63 = .ok (.aload_n 0, 1) := by decide +kernel
theorem dX1_handOn_64 : decode cX1_handOn 64 = .ok (.getfield 11, 3) := by decide +kernel
theorem dX1_handOn_67 : decode cX1_handOn 67 = .ok (.sipush 135, 3) := by decide +kernel
theorem dX1_handOn_70 : decode cX1_handOn 70 = .ok (.iaload, 1) := by decide +kernel
theorem dX1_handOn_71 : decode cX1_handOn 71 = .ok (.bipush 24, 2) := by decide +kernel
theorem dX1_handOn_73 : decode cX1_handOn 73 = .ok (.if_icmp .ge 33, 3) := by decide +kernel
theorem dX1_handOn_76 : decode cX1_handOn 76 = .ok (.aload_n 0, 1) := by decide +kernel
theorem dX1_handOn_77 : decode cX1_handOn 77 = .ok (.getfield 11, 3) := by decide +kernel
theorem dX1_handOn_80 : decode cX1_handOn 80 = .ok (.bipush 111, 2) := by decide +kernel
theorem dX1_handOn_82 : decode cX1_handOn 82 = .ok (.aload_n 0, 1) := by decide +kernel
theorem dX1_handOn_83 : decode cX1_handOn 83 = .ok (.getfield 11, 3) := by decide +kernel
theorem dX1_handOn_86 : decode cX1_handOn 86 = .ok (.sipush 135, 3) := by decide +kernel
theorem dX1_handOn_89 : decode cX1_handOn 89 = .ok (.iaload, 1) := by decide +kernel
theorem dX1_handOn_90 : decode cX1_handOn 90 = .ok (.iadd, 1) := by decide +kernel
theorem dX1_handOn_91 : decode cX1_handOn 91 = .ok (.iload 5, 2) := by decide +kernel
theorem dX1_handOn_93 : decode cX1_handOn 93 = .ok (.iastore, 1) := by decide +kernel
theorem dX1_handOn_94 : decode cX1_handOn 94 = .ok (.aload_n 0, 1) := by decide +kernel
theorem dX1_handOn_95 : decode cX1_handOn 95 = .ok (.getfield 11, 3) := by decide +kernel
theorem dX1_handOn_98 : decode cX1_handOn 98 = .ok (.sipush 135, 3) := by decide +kernel
theorem dX1_handOn_101 : decode cX1_handOn 101 = .ok (.dup2, 1) := by decide +kernel
theorem dX1_handOn_102 : decode cX1_handOn 102 = .ok (.iaload, 1) := by decide +kernel
theorem dX1_handOn_103 : decode cX1_handOn 103 = .ok (.iconst 1, 1) := by decide +kernel
theorem dX1_handOn_104 : decode cX1_handOn 104 = .ok (.iadd, 1) := by decide +kernel
theorem dX1_handOn_105 : decode cX1_handOn 105 = .ok (.iastore, 1) := by decide +kernel
theorem dX1_handOn_106 : decode cX1_handOn 106 = .ok (.aload_n 0, 1) := by decide +kernel
theorem dX1_handOn_107 : decode cX1_handOn 107 = .ok (.getfield 11, 3) := by decide +kernel
theorem dX1_handOn_110 : decode cX1_handOn 110 = .ok (.bipush 87, 2) := by decide +kernel
theorem dX1_handOn_112 : decode cX1_handOn 112 = .ok (.iload 5, 2) := by decide +kernel
theorem dX1_handOn_114 : decode cX1_handOn 114 = .ok (.iadd, 1) := by decide +kernel
theorem dX1_handOn_115 : decode cX1_handOn 115 = .ok (.iload 4, 2) := by decide +kernel
theorem dX1_handOn_117 : decode cX1_handOn 117 = .ok (.iastore, 1) := by decide +kernel
theorem dX1_handOn_118 : decode cX1_handOn 118 = .ok (.aload_n 0, 1) := by decide +kernel
theorem dX1_handOn_119 : decode cX1_handOn 119 = .ok (.getfield 11, 3) := by decide +kernel
theorem dX1_handOn_122 : decode cX1_handOn 122 = .ok (.bipush 78, 2) := by decide +kernel
theorem dX1_handOn_124 : decode cX1_handOn 124 = .ok (.iload_n 1, 1) := by decide +kernel
theorem dX1_handOn_125 : decode cX1_handOn 125 = .ok (.iadd, 1) := by decide +kernel
theorem dX1_handOn_126 : decode cX1_handOn 126 = .ok (.iload 4, 2) := by decide +kernel
theorem dX1_handOn_128 : decode cX1_handOn 128 = .ok (.iastore, 1) := by decide +kernel
theorem dX1_handOn_129 : decode cX1_handOn 129 = .ok (.aload_n 0, 1) := by decide +kernel
theorem dX1_handOn_130 : decode cX1_handOn 130 = .ok (.getfield 11, 3) := by decide +kernel
theorem dX1_handOn_133 : decode cX1_handOn 133 = .ok (.bipush 84, 2) := by decide +kernel
theorem dX1_handOn_135 : decode cX1_handOn 135 = .ok (.iload_n 1, 1) := by decide +kernel
theorem dX1_handOn_136 : decode cX1_handOn 136 = .ok (.iadd, 1) := by decide +kernel
theorem dX1_handOn_137 : decode cX1_handOn 137 = .ok (.dup2, 1) := by decide +kernel
theorem dX1_handOn_138 : decode cX1_handOn 138 = .ok (.iaload, 1) := by decide +kernel
theorem dX1_handOn_139 : decode cX1_handOn 139 = .ok (.iconst 1, 1) := by decide +kernel
theorem dX1_handOn_140 : decode cX1_handOn 140 = .ok (.iadd, 1) := by decide +kernel
theorem dX1_handOn_141 : decode cX1_handOn 141 = .ok (.iastore, 1) := by decide +kernel
theorem dX1_handOn_142 : decode cX1_handOn 142 = .ok (.aload_n 0, 1) := by decide +kernel
theorem dX1_handOn_143 : decode cX1_handOn 143 = .ok (.getfield 11, 3) := by decide +kernel
theorem dX1_handOn_146 : decode cX1_handOn 146 = .ok (.bipush 72, 2) := by decide +kernel
theorem dX1_handOn_148 : decode cX1_handOn 148 = .ok (.iload_n 1, 1) := by decide +kernel
theorem dX1_handOn_149 : decode cX1_handOn 149 = .ok (.iadd, 1) := by decide +kernel
theorem dX1_handOn_150 : decode cX1_handOn 150 = .ok (.iload_n 3, 1) := by decide +kernel
theorem dX1_handOn_151 : decode cX1_handOn 151 = .ok (.iload_n 2, 1) := by decide +kernel
theorem dX1_handOn_152 : decode cX1_handOn 152 = .ok (.iadd, 1) := by decide +kernel
theorem dX1_handOn_153 : decode cX1_handOn 153 = .ok (.bipush 8, 2) := by decide +kernel
theorem dX1_handOn_155 : decode cX1_handOn 155 = .ok (.irem, 1) := by decide +kernel
theorem dX1_handOn_156 : decode cX1_handOn 156 = .ok (.iastore, 1) := by decide +kernel
theorem dX1_handOn_157 : decode cX1_handOn 157 = .ok (.aload_n 0, 1) := by decide +kernel
theorem dX1_handOn_158 : decode cX1_handOn 158 = .ok (.getfield 11, 3) := by decide +kernel
theorem dX1_handOn_161 : decode cX1_handOn 161 = .ok (.bipush 72, 2) := by decide +kernel
theorem dX1_handOn_163 : decode cX1_handOn 163 = .ok (.iload_n 1, 1) := by decide +kernel
theorem dX1_handOn_164 : decode cX1_handOn 164 = .ok (.iadd, 1) := by decide +kernel
theorem dX1_handOn_165 : decode cX1_handOn 165 = .ok (.iaload, 1) := by decide +kernel
theorem dX1_handOn_166 : decode cX1_handOn 166 = .ok (.ireturn, 1) := by decide +kernel
set_option maxRecDepth 20000 in
theorem ggX1_goRound_X1_whyNotPour : GoodIn wsX1_goRound wsX1_whyNotPour := goodIn_r _ [6, 1, 7, 8, 9, 5, 10, 45] (by decide +kernel) (by decide +kernel)
set_option maxRecDepth 20000 in
theorem gX1_goRound_X1_whyNotPour : GoodIn wsX1_goRound (wsV RX1 62 RX1 yX1_whyNotPour wsX1_whyNotPour) := goodIn_app (goodIn_of _ (by decide +kernel)) ggX1_goRound_X1_whyNotPour
set_option maxRecDepth 20000 in
theorem ggX1_goRound_X1_pourFrom : GoodIn wsX1_goRound wsX1_pourFrom := goodIn_r _ [14, 1, 15, 16, 17, 18, 19, 20, 21, 5, 22, 23, 24, 25, 26, 27, 28, 29, 30, 7, 8, 9, 10, 31, 32, 33, 34, 35, 36, 37, 45] (by decide +kernel) (by decide +kernel)
set_option maxRecDepth 20000 in
theorem gX1_goRound_X1_pourFrom : GoodIn wsX1_goRound (wsV RX1 65 RX1 yX1_pourFrom wsX1_pourFrom) := goodIn_app (goodIn_of _ (by decide +kernel)) ggX1_goRound_X1_pourFrom
set_option maxRecDepth 20000 in
theorem ggX1_goRound_X1_handOn : GoodIn wsX1_goRound wsX1_handOn := goodIn_r _ [41, 1, 42, 43, 17, 44, 15, 16, 18, 23, 24, 25, 5, 26, 27, 28, 29, 30, 45] (by decide +kernel) (by decide +kernel)
set_option maxRecDepth 20000 in
theorem gX1_goRound_X1_handOn : GoodIn wsX1_goRound (wsV RX1 68 RX1 yX1_handOn wsX1_handOn) := goodIn_app (goodIn_of _ (by decide +kernel)) ggX1_goRound_X1_handOn
theorem dX1_goRound_0 : decode cX1_goRound 0 = .ok (.iconst 0, 1) := by decide +kernel
theorem dX1_goRound_1 : decode cX1_goRound 1 = .ok (.istore_n 2, 1) := by decide +kernel
theorem dX1_goRound_2 : decode cX1_goRound 2 = .ok (.iconst 0, 1) := by decide +kernel
theorem dX1_goRound_3 : decode cX1_goRound 3 = .ok (.istore_n 3, 1) := by decide +kernel
theorem dX1_goRound_4 : decode cX1_goRound 4 = .ok (.iload_n 3, 1) := by decide +kernel
theorem dX1_goRound_5 : decode cX1_goRound 5 = .ok (.bipush 8, 2) := by decide +kernel
theorem dX1_goRound_7 : decode cX1_goRound 7 = .ok (.if_icmp .ge 80, 3) := by decide +kernel
theorem dX1_goRound_10 : decode cX1_goRound 10 = .ok (.aload_n 0, 1) := by decide +kernel
theorem dX1_goRound_11 : decode cX1_goRound 11 = .ok (.getfield 11, 3) := by decide +kernel
theorem dX1_goRound_14 : decode cX1_goRound 14 = .ok (.bipush 72, 2) := by decide +kernel
theorem dX1_goRound_16 : decode cX1_goRound 16 = .ok (.iload_n 1, 1) := by decide +kernel
theorem dX1_goRound_17 : decode cX1_goRound 17 = .ok (.iadd, 1) := by decide +kernel
theorem dX1_goRound_18 : decode cX1_goRound 18 = .ok (.iaload, 1) := by decide +kernel
theorem dX1_goRound_19 : decode cX1_goRound 19 = .ok (.istore 4, 2) := by decide +kernel
theorem dX1_goRound_21 : decode cX1_goRound 21 = .ok (.iconst 2, 1) := by decide +kernel
theorem dX1_goRound_22 : decode cX1_goRound 22 = .ok (.aload_n 0, 1) := by decide +kernel
theorem dX1_goRound_23 : decode cX1_goRound 23 = .ok (.getfield 11, 3) := by decide +kernel
theorem dX1_goRound_26 : decode cX1_goRound 26 = .ok (.bipush 8, 2) := by decide +kernel
theorem dX1_goRound_28 : decode cX1_goRound 28 = .ok (.iload 4, 2) := by decide +kernel
theorem dX1_goRound_30 : decode cX1_goRound 30 = .ok (.iadd, 1) := by decide +kernel
theorem dX1_goRound_31 : decode cX1_goRound 31 = .ok (.iaload, 1) := by decide +kernel
theorem dX1_goRound_32 : decode cX1_goRound 32 = .ok (.imul, 1) := by decide +kernel
theorem dX1_goRound_33 : decode cX1_goRound 33 = .ok (.aload_n 0, 1) := by decide +kernel
theorem dX1_goRound_34 : decode cX1_goRound 34 = .ok (.getfield 11, 3) := by decide +kernel
theorem dX1_goRound_37 : decode cX1_goRound 37 = .ok (.iconst 0, 1) := by decide +kernel
theorem dX1_goRound_38 : decode cX1_goRound 38 = .ok (.iload 4, 2) := by decide +kernel
theorem dX1_goRound_40 : decode cX1_goRound 40 = .ok (.iadd, 1) := by decide +kernel
theorem dX1_goRound_41 : decode cX1_goRound 41 = .ok (.iaload, 1) := by decide +kernel
theorem dX1_goRound_42 : decode cX1_goRound 42 = .ok (.if_icmp .ge 7, 3) := by decide +kernel
theorem dX1_goRound_45 : decode cX1_goRound 45 = .ok (.iconst 1, 1) := by decide +kernel
theorem dX1_goRound_46 : decode cX1_goRound 46 = .ok (.goto 4, 3) := by decide +kernel
theorem dX1_goRound_49 : decode cX1_goRound 49 = .ok (.iconst 0, 1) := by decide +kernel
theorem dX1_goRound_50 : decode cX1_goRound 50 = .ok (.istore 5, 2) := by decide +kernel
theorem dX1_goRound_52 : decode cX1_goRound 52 = .ok (.iload 5, 2) := by decide +kernel
theorem dX1_goRound_54 : decode cX1_goRound 54 = .ok (.ifCond .eq 20, 3) := by decide +kernel
theorem dX1_goRound_57 : decode cX1_goRound 57 = .ok (.aload_n 0, 1) := by decide +kernel
theorem dX1_goRound_58 : decode cX1_goRound 58 = .ok (.iload_n 1, 1) := by decide +kernel
theorem dX1_goRound_59 : decode cX1_goRound 59 = .ok (.invokevirtual 62, 3) := by decide +kernel
theorem dX1_goRound_62 : decode cX1_goRound 62 = .ok (.ifCond .ne 12, 3) := by decide +kernel
theorem dX1_goRound_65 : decode cX1_goRound 65 = .ok (.aload_n 0, 1) := by decide +kernel
theorem dX1_goRound_66 : decode cX1_goRound 66 = .ok (.iload_n 1, 1) := by decide +kernel
theorem dX1_goRound_67 : decode cX1_goRound 67 = .ok (.invokevirtual 65, 3) := by decide +kernel
theorem dX1_goRound_70 : decode cX1_goRound 70 = .ok (.pop, 1) := by decide +kernel
theorem dX1_goRound_71 : decode cX1_goRound 71 = .ok (.iinc 2 1, 3) := by decide +kernel
theorem dX1_goRound_74 : decode cX1_goRound 74 = .ok (.aload_n 0, 1) := by decide +kernel
theorem dX1_goRound_75 : decode cX1_goRound 75 = .ok (.iload_n 1, 1) := by decide +kernel
theorem dX1_goRound_76 : decode cX1_goRound 76 = .ok (.iconst 1, 1) := by decide +kernel
theorem dX1_goRound_77 : decode cX1_goRound 77 = .ok (.invokevirtual 68, 3) := by decide +kernel
theorem dX1_goRound_80 : decode cX1_goRound 80 = .ok (.pop, 1) := by decide +kernel
theorem dX1_goRound_81 : decode cX1_goRound 81 = .ok (.iinc 3 1, 3) := by decide +kernel
theorem dX1_goRound_84 : decode cX1_goRound 84 = .ok (.goto (-80), 3) := by decide +kernel
theorem dX1_goRound_87 : decode cX1_goRound 87 = .ok (.iload_n 2, 1) := by decide +kernel
theorem dX1_goRound_88 : decode cX1_goRound 88 = .ok (.ireturn, 1) := by decide +kernel

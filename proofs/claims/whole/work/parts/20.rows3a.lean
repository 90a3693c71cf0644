set_option maxRecDepth 20000 in
theorem ggX3_init_X3_of : GoodIn wsX3_init wsX3_of := goodIn_r _ [13] (by decide +kernel) (by decide +kernel)
set_option maxRecDepth 20000 in
theorem gX3_init_X3_of : GoodIn wsX3_init (va_wsS RX3 25 yX3_of wsX3_of) := goodIn_app (goodIn_of _ (by decide +kernel)) ggX3_init_X3_of
set_option maxRecDepth 20000 in
theorem ggX3_init_X3_ofPot : GoodIn wsX3_init wsX3_ofPot := goodIn_r _ [16] (by decide +kernel) (by decide +kernel)
set_option maxRecDepth 20000 in
theorem gX3_init_X3_ofPot : GoodIn wsX3_init (va_wsS RX3 29 yX3_ofPot wsX3_ofPot) := goodIn_app (goodIn_of _ (by decide +kernel)) ggX3_init_X3_ofPot
theorem dX3_init_0 : decode cX3_init 0 = .ok (.aload_n 0, 1) := by decide +kernel
theorem dX3_init_1 : decode cX3_init 1 = .ok (.invokespecial 1, 3) := by decide +kernel
theorem dX3_init_4 : decode cX3_init 4 = .ok (.aload_n 0, 1) := by decide +kernel
theorem dX3_init_5 : decode cX3_init 5 = .ok (.sipush 138, 3) := by decide +kernel
theorem dX3_init_8 : decode cX3_init 8 = .ok (.newarray .int, 2) := by decide +kernel
theorem dX3_init_10 : decode cX3_init 10 = .ok (.putfield 7, 3) := by decide +kernel
theorem dX3_init_13 : decode cX3_init 13 = .ok (.aload_n 0, 1) := by decide +kernel
theorem dX3_init_14 : decode cX3_init 14 = .ok (.sipush 138, 3) := by decide +kernel
theorem dX3_init_17 : decode cX3_init 17 = .ok (.newarray .int, 2) := by decide +kernel
theorem dX3_init_19 : decode cX3_init 19 = .ok (.putfield 13, 3) := by decide +kernel
theorem dX3_init_22 : decode cX3_init 22 = .ok (.aload_n 0, 1) := by decide +kernel
theorem dX3_init_23 : decode cX3_init 23 = .ok (.sipush 828, 3) := by decide +kernel
theorem dX3_init_26 : decode cX3_init 26 = .ok (.newarray .int, 2) := by decide +kernel
theorem dX3_init_28 : decode cX3_init 28 = .ok (.putfield 16, 3) := by decide +kernel
theorem dX3_init_31 : decode cX3_init 31 = .ok (.aload_n 0, 1) := by decide +kernel
theorem dX3_init_32 : decode cX3_init 32 = .ok (.sipush 138, 3) := by decide +kernel
theorem dX3_init_35 : decode cX3_init 35 = .ok (.newarray .int, 2) := by decide +kernel
theorem dX3_init_37 : decode cX3_init 37 = .ok (.putfield 19, 3) := by decide +kernel
theorem dX3_init_40 : decode cX3_init 40 = .ok (.aload_n 0, 1) := by decide +kernel
theorem dX3_init_41 : decode cX3_init 41 = .ok (.bipush 60, 2) := by decide +kernel
theorem dX3_init_43 : decode cX3_init 43 = .ok (.newarray .int, 2) := by decide +kernel
theorem dX3_init_45 : decode cX3_init 45 = .ok (.putfield 22, 3) := by decide +kernel
theorem dX3_init_48 : decode cX3_init 48 = .ok (.iconst 0, 1) := by decide +kernel
theorem dX3_init_49 : decode cX3_init 49 = .ok (.istore_n 1, 1) := by decide +kernel
theorem dX3_init_50 : decode cX3_init 50 = .ok (.iload_n 1, 1) := by decide +kernel
theorem dX3_init_51 : decode cX3_init 51 = .ok (.bipush 8, 2) := by decide +kernel
theorem dX3_init_53 : decode cX3_init 53 = .ok (.if_icmp .ge 43, 3) := by decide +kernel
theorem dX3_init_56 : decode cX3_init 56 = .ok (.aload_n 0, 1) := by decide +kernel
theorem dX3_init_57 : decode cX3_init 57 = .ok (.getfield 7, 3) := by decide +kernel
theorem dX3_init_60 : decode cX3_init 60 = .ok (.iload_n 1, 1) := by decide +kernel
theorem dX3_init_61 : decode cX3_init 61 = .ok (.iconst 0, 1) := by decide +kernel
theorem dX3_init_62 : decode cX3_init 62 = .ok (.invokestatic 25, 3) := by decide +kernel
theorem dX3_init_65 : decode cX3_init 65 = .ok (.bipush 30, 2) := by decide +kernel
theorem dX3_init_67 : decode cX3_init 67 = .ok (.iastore, 1) := by decide +kernel
theorem dX3_init_68 : decode cX3_init 68 = .ok (.aload_n 0, 1) := by decide +kernel
theorem dX3_init_69 : decode cX3_init 69 = .ok (.getfield 7, 3) := by decide +kernel
theorem dX3_init_72 : decode cX3_init 72 = .ok (.iload_n 1, 1) := by decide +kernel
theorem dX3_init_73 : decode cX3_init 73 = .ok (.iconst 2, 1) := by decide +kernel
theorem dX3_init_74 : decode cX3_init 74 = .ok (.invokestatic 25, 3) := by decide +kernel
theorem dX3_init_77 : decode cX3_init 77 = .ok (.iconst 5, 1) := by decide +kernel
theorem dX3_init_78 : decode cX3_init 78 = .ok (.iastore, 1) := by decide +kernel
theorem dX3_init_79 : decode cX3_init 79 = .ok (.aload_n 0, 1) := by decide +kernel
theorem dX3_init_80 : decode cX3_init 80 = .ok (.getfield 7, 3) := by decide +kernel
theorem dX3_init_83 : decode cX3_init 83 = .ok (.iload_n 1, 1) := by decide +kernel
theorem dX3_init_84 : decode cX3_init 84 = .ok (.iconst 3, 1) := by decide +kernel
theorem dX3_init_85 : decode cX3_init 85 = .ok (.invokestatic 25, 3) := by decide +kernel
theorem dX3_init_88 : decode cX3_init 88 = .ok (.iconst 5, 1) := by decide +kernel
theorem dX3_init_89 : decode cX3_init 89 = .ok (.iastore, 1) := by decide +kernel
theorem dX3_init_90 : decode cX3_init 90 = .ok (.iinc 1 1, 3) := by decide +kernel
theorem dX3_init_93 : decode cX3_init 93 = .ok (.goto (-43), 3) := by decide +kernel
theorem dX3_init_96 : decode cX3_init 96 = .ok (.iconst 0, 1) := by decide +kernel
theorem dX3_init_97 : decode cX3_init 97 = .ok (.istore_n 1, 1) := by decide +kernel
theorem dX3_init_98 : decode cX3_init 98 = .ok (.iload_n 1, 1) := by decide +kernel
theorem dX3_init_99 : decode cX3_init 99 = .ok (.iconst 3, 1) := by decide +kernel
theorem dX3_init_100 : decode cX3_init 100 = .ok (.if_icmp .ge 22, 3) := by decide +kernel
theorem dX3_init_103 : decode cX3_init 103 = .ok (.aload_n 0, 1) := by decide +kernel
theorem dX3_init_104 : decode cX3_init 104 = .ok (.getfield 7, 3) := by decide +kernel
theorem dX3_init_107 : decode cX3_init 107 = .ok (.iload_n 1, 1) := by decide +kernel
theorem dX3_init_108 : decode cX3_init 108 = .ok (.iconst 0, 1) := by decide +kernel
theorem dX3_init_109 : decode cX3_init 109 = .ok (.invokestatic 29, 3) := by decide +kernel
theorem dX3_init_112 : decode cX3_init 112 = .ok (.iconst 2, 1) := by decide +kernel
theorem dX3_init_113 : decode cX3_init 113 = .ok (.iload_n 1, 1) := by decide +kernel
theorem dX3_init_114 : decode cX3_init 114 = .ok (.imul, 1) := by decide +kernel
theorem dX3_init_115 : decode cX3_init 115 = .ok (.iastore, 1) := by decide +kernel
theorem dX3_init_116 : decode cX3_init 116 = .ok (.iinc 1 1, 3) := by decide +kernel
theorem dX3_init_119 : decode cX3_init 119 = .ok (.goto (-21), 3) := by decide +kernel
theorem dX3_init_122 : decode cX3_init 122 = .ok (.iconst 0, 1) := by decide +kernel
theorem dX3_init_123 : decode cX3_init 123 = .ok (.istore_n 1, 1) := by decide +kernel
theorem dX3_init_124 : decode cX3_init 124 = .ok (.iload_n 1, 1) := by decide +kernel
theorem dX3_init_125 : decode cX3_init 125 = .ok (.bipush 24, 2) := by decide +kernel
theorem dX3_init_127 : decode cX3_init 127 = .ok (.if_icmp .ge 19, 3) := by decide +kernel
theorem dX3_init_130 : decode cX3_init 130 = .ok (.aload_n 0, 1) := by decide +kernel
theorem dX3_init_131 : decode cX3_init 131 = .ok (.getfield 7, 3) := by decide +kernel
theorem dX3_init_134 : decode cX3_init 134 = .ok (.bipush 87, 2) := by decide +kernel
theorem dX3_init_136 : decode cX3_init 136 = .ok (.iload_n 1, 1) := by decide +kernel
theorem dX3_init_137 : decode cX3_init 137 = .ok (.iadd, 1) := by decide +kernel
theorem dX3_init_138 : decode cX3_init 138 = .ok (.iconst (-1), 1) := by decide +kernel
theorem dX3_init_139 : decode cX3_init 139 = .ok (.iastore, 1) := by decide +kernel
theorem dX3_init_140 : decode cX3_init 140 = .ok (.iinc 1 1, 3) := by decide +kernel
theorem dX3_init_143 : decode cX3_init 143 = .ok (.goto (-19), 3) := by decide +kernel
theorem dX3_init_146 : decode cX3_init 146 = .ok (.return_, 1) := by decide +kernel
theorem dX3_thrown_0 : decode cX3_thrown 0 = .ok (.aload_n 0, 1) := by decide +kernel
theorem dX3_thrown_1 : decode cX3_thrown 1 = .ok (.getfield 32, 3) := by decide +kernel
theorem dX3_thrown_4 : decode cX3_thrown 4 = .ok (.ireturn, 1) := by decide +kernel
theorem dX3_in_0 : decode cX3_in 0 = .ok (.iload_n 0, 1) := by decide +kernel
theorem dX3_in_1 : decode cX3_in 1 = .ok (.iload_n 1, 1) := by decide +kernel
theorem dX3_in_2 : decode cX3_in 2 = .ok (.if_icmp .lt 12, 3) := by decide +kernel
theorem dX3_in_5 : decode cX3_in 5 = .ok (.iload_n 0, 1) := by decide +kernel
theorem dX3_in_6 : decode cX3_in 6 = .ok (.iload_n 2, 1) := by decide +kernel
theorem dX3_in_7 : decode cX3_in 7 = .ok (.if_icmp .gt 7, 3) := by decide +kernel
theorem dX3_in_10 : decode cX3_in 10 = .ok (.iconst 1, 1) := by decide +kernel
theorem dX3_in_11 : decode cX3_in 11 = .ok (.goto 4, 3) := by decide +kernel
theorem dX3_in_14 : decode cX3_in 14 = .ok (.iconst 0, 1) := by decide +kernel
theorem dX3_in_15 : decode cX3_in 15 = .ok (.ireturn, 1) := by decide +kernel
theorem dX3_holds_0 : decode cX3_holds 0 = .ok (.aload_n 0, 1) := by decide +kernel
theorem dX3_holds_1 : decode cX3_holds 1 = .ok (.iload_n 1, 1) := by decide +kernel
theorem dX3_holds_2 : decode cX3_holds 2 = .ok (.putfield 32, 3) := by decide +kernel
theorem dX3_holds_5 : decode cX3_holds 5 = .ok (.iload_n 1, 1) := by decide +kernel
theorem dX3_holds_6 : decode cX3_holds 6 = .ok (.ifCond .ne 7, 3) := by decide +kernel
theorem dX3_holds_9 : decode cX3_holds 9 = .ok (.iconst 1, 1) := by decide +kernel
theorem dX3_holds_10 : decode cX3_holds 10 = .ok (.goto 4, 3) := by decide +kernel
theorem dX3_holds_13 : decode cX3_holds 13 = .ok (.iconst 0, 1) := by decide +kernel
theorem dX3_holds_14 : decode cX3_holds 14 = .ok (.ireturn, 1) := by decide +kernel
set_option maxRecDepth 20000 in
theorem ggX3_isGuest_X3_in : GoodIn wsX3_isGuest wsX3_in := goodIn_r _ [4] (by decide +kernel) (by decide +kernel)
set_option maxRecDepth 20000 in
theorem gX3_isGuest_X3_in : GoodIn wsX3_isGuest (va_wsS RX3 36 yX3_in wsX3_in) := goodIn_app (goodIn_of _ (by decide +kernel)) ggX3_isGuest_X3_in
theorem dX3_isGuest_0 : decode cX3_isGuest 0 = .ok (.iload_n 0, 1) := by decide +kernel
theorem dX3_isGuest_1 : decode cX3_isGuest 1 = .ok (.iconst 0, 1) := by decide +kernel
theorem dX3_isGuest_2 : decode cX3_isGuest 2 = .ok (.bipush 7, 2) := by decide +kernel
theorem dX3_isGuest_4 : decode cX3_isGuest 4 = .ok (.invokestatic 36, 3) := by decide +kernel
theorem dX3_isGuest_7 : decode cX3_isGuest 7 = .ok (.ireturn, 1) := by decide +kernel
set_option maxRecDepth 20000 in
theorem ggX3_isPot_X3_in : GoodIn wsX3_isPot wsX3_in := goodIn_r _ [4] (by decide +kernel) (by decide +kernel)
set_option maxRecDepth 20000 in
theorem gX3_isPot_X3_in : GoodIn wsX3_isPot (va_wsS RX3 36 yX3_in wsX3_in) := goodIn_app (goodIn_of _ (by decide +kernel)) ggX3_isPot_X3_in
theorem dX3_isPot_0 : decode cX3_isPot 0 = .ok (.iload_n 0, 1) := by decide +kernel
theorem dX3_isPot_1 : decode cX3_isPot 1 = .ok (.iconst 0, 1) := by decide +kernel
theorem dX3_isPot_2 : decode cX3_isPot 2 = .ok (.iconst 2, 1) := by decide +kernel
theorem dX3_isPot_3 : decode cX3_isPot 3 = .ok (.invokestatic 36, 3) := by decide +kernel
theorem dX3_isPot_6 : decode cX3_isPot 6 = .ok (.ireturn, 1) := by decide +kernel
theorem dX3_of_0 : decode cX3_of 0 = .ok (.iconst 0, 1) := by decide +kernel
theorem dX3_of_1 : decode cX3_of 1 = .ok (.bipush 9, 2) := by decide +kernel
theorem dX3_of_3 : decode cX3_of 3 = .ok (.iload_n 0, 1) := by decide +kernel
theorem dX3_of_4 : decode cX3_of 4 = .ok (.imul, 1) := by decide +kernel
theorem dX3_of_5 : decode cX3_of 5 = .ok (.iadd, 1) := by decide +kernel
theorem dX3_of_6 : decode cX3_of 6 = .ok (.iload_n 1, 1) := by decide +kernel
theorem dX3_of_7 : decode cX3_of 7 = .ok (.iadd, 1) := by decide +kernel
theorem dX3_of_8 : decode cX3_of 8 = .ok (.ireturn, 1) := by decide +kernel
theorem dX3_ofPot_0 : decode cX3_ofPot 0 = .ok (.bipush 72, 2) := by decide +kernel
theorem dX3_ofPot_2 : decode cX3_ofPot 2 = .ok (.iconst 5, 1) := by decide +kernel
theorem dX3_ofPot_3 : decode cX3_ofPot 3 = .ok (.iload_n 0, 1) := by decide +kernel
theorem dX3_ofPot_4 : decode cX3_ofPot 4 = .ok (.imul, 1) := by decide +kernel
theorem dX3_ofPot_5 : decode cX3_ofPot 5 = .ok (.iadd, 1) := by decide +kernel
theorem dX3_ofPot_6 : decode cX3_ofPot 6 = .ok (.iload_n 1, 1) := by decide +kernel
theorem dX3_ofPot_7 : decode cX3_ofPot 7 = .ok (.iadd, 1) := by decide +kernel
theorem dX3_ofPot_8 : decode cX3_ofPot 8 = .ok (.ireturn, 1) := by decide +kernel
theorem dX3_save_0 : decode cX3_save 0 = .ok (.aload_n 0, 1) := by decide +kernel
theorem dX3_save_1 : decode cX3_save 1 = .ok (.getfield 40, 3) := by decide +kernel
theorem dX3_save_4 : decode cX3_save 4 = .ok (.bipush 6, 2) := by decide +kernel
theorem dX3_save_6 : decode cX3_save 6 = .ok (.if_icmp .ne 44, 3) := by decide +kernel
theorem dX3_save_9 : decode cX3_save 9 = .ok (.iconst 0, 1) := by decide +kernel
theorem dX3_save_10 : decode cX3_save 10 = .ok (.istore_n 1, 1) := by decide +kernel
theorem dX3_save_11 : decode cX3_save 11 = .ok (.iload_n 1, 1) := by decide +kernel
theorem dX3_save_12 : decode cX3_save 12 = .ok (.sipush 690, 3) := by decide +kernel
theorem dX3_save_15 : decode cX3_save 15 = .ok (.if_icmp .ge 25, 3) := by decide +kernel
theorem dX3_save_18 : decode cX3_save 18 = .ok (.aload_n 0, 1) := by decide +kernel
theorem dX3_save_19 : decode cX3_save 19 = .ok (.getfield 16, 3) := by decide +kernel
theorem dX3_save_22 : decode cX3_save 22 = .ok (.iload_n 1, 1) := by decide +kernel
theorem dX3_save_23 : decode cX3_save 23 = .ok (.aload_n 0, 1) := by decide +kernel
theorem dX3_save_24 : decode cX3_save 24 = .ok (.getfield 16, 3) := by decide +kernel
theorem dX3_save_27 : decode cX3_save 27 = .ok (.iload_n 1, 1) := by decide +kernel
theorem dX3_save_28 : decode cX3_save 28 = .ok (.sipush 138, 3) := by decide +kernel
theorem dX3_save_31 : decode cX3_save 31 = .ok (.iadd, 1) := by decide +kernel
theorem dX3_save_32 : decode cX3_save 32 = .ok (.iaload, 1) := by decide +kernel
theorem dX3_save_33 : decode cX3_save 33 = .ok (.iastore, 1) := by decide +kernel
theorem dX3_save_34 : decode cX3_save 34 = .ok (.iinc 1 1, 3) := by decide +kernel
theorem dX3_save_37 : decode cX3_save 37 = .ok (.goto (-26), 3) := by decide +kernel
theorem dX3_save_40 : decode cX3_save 40 = .ok (.aload_n 0, 1) := by decide +kernel
theorem dX3_save_41 : decode cX3_save 41 = .ok (.dup, 1) := by decide +kernel
theorem dX3_save_42 : decode cX3_save 42 = .ok (.getfield 40, 3) := by decide +kernel
theorem dX3_save_45 : decode cX3_save 45 = .ok (.iconst 1, 1) := by decide +kernel
theorem dX3_save_46 : decode cX3_save 46 = .ok (.isub, 1) := by decide +kernel
theorem dX3_save_47 : decode cX3_save 47 = .ok (.putfield 40, 3) := by decide +kernel
theorem dX3_save_50 : decode cX3_save 50 = .ok (.iconst 0, 1) := by decide +kernel
theorem dX3_save_51 : decode cX3_save 51 = .ok (.istore_n 1, 1) := by decide +kernel
theorem dX3_save_52 : decode cX3_save 52 = .ok (.iload_n 1, 1) := by decide +kernel
theorem dX3_save_53 : decode cX3_save 53 = .ok (.sipush 138, 3) := by decide +kernel
theorem dX3_save_56 : decode cX3_save 56 = .ok (.if_icmp .ge 30, 3) := by decide +kernel
theorem dX3_save_59 : decode cX3_save 59 = .ok (.aload_n 0, 1) := by decide +kernel
theorem dX3_save_60 : decode cX3_save 60 = .ok (.getfield 16, 3) := by decide +kernel
theorem dX3_save_63 : decode cX3_save 63 = .ok (.sipush 138, 3) := by decide +kernel
theorem dX3_save_66 : decode cX3_save 66 = .ok (.aload_n 0, 1) := by decide +kernel
theorem dX3_save_67 : decode cX3_save 67 = .ok (.getfield 40, 3) := by decide +kernel
theorem dX3_save_70 : decode cX3_save 70 = .ok (.imul, 1) := by decide +kernel
theorem dX3_save_71 : decode cX3_save 71 = .ok (.iload_n 1, 1) := by decide +kernel
theorem dX3_save_72 : decode cX3_save 72 = .ok (.iadd, 1) := by decide +kernel
theorem dX3_save_73 : decode cX3_save 73 = .ok (.aload_n 0, 1) := by decide +kernel
theorem dX3_save_74 : decode cX3_save 74 = .ok (.getfield 7, 3) := by decide +kernel
theorem dX3_save_77 : decode cX3_save 77 = .ok (.iload_n 1, 1) := by decide +kernel
theorem dX3_save_78 : decode cX3_save 78 = .ok (.iaload, 1) := by decide +kernel
theorem dX3_save_79 : decode cX3_save 79 = .ok (.iastore, 1) := by decide +kernel
theorem dX3_save_80 : decode cX3_save 80 = .ok (.iinc 1 1, 3) := by decide +kernel
theorem dX3_save_83 : decode cX3_save 83 = .ok (.goto (-31), 3) := by decide +kernel
theorem dX3_save_86 : decode cX3_save 86 = .ok (.aload_n 0, 1) := by decide +kernel
theorem dX3_save_87 : decode cX3_save 87 = .ok (.dup, 1) := by decide +kernel
theorem dX3_save_88 : decode cX3_save 88 = .ok (.getfield 40, 3) := by decide +kernel
theorem dX3_save_91 : decode cX3_save 91 = .ok (.iconst 1, 1) := by decide +kernel
theorem dX3_save_92 : decode cX3_save 92 = .ok (.iadd, 1) := by decide +kernel
theorem dX3_save_93 : decode cX3_save 93 = .ok (.putfield 40, 3) := by decide +kernel
theorem dX3_save_96 : decode cX3_save 96 = .ok (.return_, 1) := by decide +kernel
theorem dX3_putAside_0 : decode cX3_putAside 0 = .ok (.iconst 0, 1) := by decide +kernel
theorem dX3_putAside_1 : decode cX3_putAside 1 = .ok (.istore_n 1, 1) := by decide +kernel
theorem dX3_putAside_2 : decode cX3_putAside 2 = .ok (.iload_n 1, 1) := by decide +kernel
theorem dX3_putAside_3 : decode cX3_putAside 3 = .ok (.sipush 138, 3) := by decide +kernel
theorem dX3_putAside_6 : decode cX3_putAside 6 = .ok (.if_icmp .ge 21, 3) := by decide +kernel
theorem dX3_putAside_9 : decode cX3_putAside 9 = .ok (.aload_n 0, 1) := by decide +kernel
theorem dX3_putAside_10 : decode cX3_putAside 10 = .ok (.getfield 13, 3) := by decide +kernel
theorem dX3_putAside_13 : decode cX3_putAside 13 = .ok (.iload_n 1, 1) := by decide +kernel
theorem dX3_putAside_14 : decode cX3_putAside 14 = .ok (.aload_n 0, 1) := by decide +kernel
theorem dX3_putAside_15 : decode cX3_putAside 15 = .ok (.getfield 7, 3) := by decide +kernel
theorem dX3_putAside_18 : decode cX3_putAside 18 = .ok (.iload_n 1, 1) := by decide +kernel
theorem dX3_putAside_19 : decode cX3_putAside 19 = .ok (.iaload, 1) := by decide +kernel
theorem dX3_putAside_20 : decode cX3_putAside 20 = .ok (.iastore, 1) := by decide +kernel
theorem dX3_putAside_21 : decode cX3_putAside 21 = .ok (.iinc 1 1, 3) := by decide +kernel
theorem dX3_putAside_24 : decode cX3_putAside 24 = .ok (.goto (-22), 3) := by decide +kernel
theorem dX3_putAside_27 : decode cX3_putAside 27 = .ok (.return_, 1) := by decide +kernel
theorem dX3_putBack_0 : decode cX3_putBack 0 = .ok (.iconst 0, 1) := by decide +kernel
theorem dX3_putBack_1 : decode cX3_putBack 1 = .ok (.istore_n 1, 1) := by decide +kernel
theorem dX3_putBack_2 : decode cX3_putBack 2 = .ok (.iload_n 1, 1) := by decide +kernel
theorem dX3_putBack_3 : decode cX3_putBack 3 = .ok (.sipush 138, 3) := by decide +kernel
theorem dX3_putBack_6 : decode cX3_putBack 6 = .ok (.if_icmp .ge 21, 3) := by decide +kernel
theorem dX3_putBack_9 : decode cX3_putBack 9 = .ok (.aload_n 0, 1) := by decide +kernel
theorem dX3_putBack_10 : decode cX3_putBack 10 = .ok (.getfield 7, 3) := by decide +kernel
theorem dX3_putBack_13 : decode cX3_putBack 13 = .ok (.iload_n 1, 1) := by decide +kernel
theorem dX3_putBack_14 : decode cX3_putBack 14 = .ok (.aload_n 0, 1) := by decide +kernel
theorem dX3_putBack_15 : decode cX3_putBack 15 = .ok (.getfield 13, 3) := by decide +kernel
theorem dX3_putBack_18 : decode cX3_putBack 18 = .ok (.iload_n 1, 1) := by decide +kernel
theorem dX3_putBack_19 : decode cX3_putBack 19 = .ok (.iaload, 1) := by decide +kernel
theorem dX3_putBack_20 : decode cX3_putBack 20 = .ok (.iastore, 1) := by decide +kernel
theorem dX3_putBack_21 : decode cX3_putBack 21 = .ok (.iinc 1 1, 3) := by decide +kernel
theorem dX3_putBack_24 : decode cX3_putBack 24 = .ok (.goto (-22), 3) := by decide +kernel
theorem dX3_putBack_27 : decode cX3_putBack 27 = .ok (.return_, 1) := by decide +kernel
theorem dX3_size_0 : decode cX3_size 0 = .ok (.iload_n 0, 1) := by decide +kernel
theorem dX3_size_1 : decode cX3_size 1 = .ok (.ifCond .ge 8, 3) := by decide +kernel
theorem dX3_size_4 : decode cX3_size 4 = .ok (.iload_n 0, 1) := by decide +kernel
theorem dX3_size_5 : decode cX3_size 5 = .ok (.ineg, 1) := by decide +kernel
theorem dX3_size_6 : decode cX3_size 6 = .ok (.goto 4, 3) := by decide +kernel
theorem dX3_size_9 : decode cX3_size 9 = .ok (.iload_n 0, 1) := by decide +kernel
theorem dX3_size_10 : decode cX3_size 10 = .ok (.ireturn, 1) := by decide +kernel
set_option maxRecDepth 20000 in
theorem ggX3_with_X3_ofPot : GoodIn wsX3_with wsX3_ofPot := goodIn_r _ [5] (by decide +kernel) (by decide +kernel)
set_option maxRecDepth 20000 in
theorem gX3_with_X3_ofPot : GoodIn wsX3_with (va_wsS RX3 29 yX3_ofPot wsX3_ofPot) := goodIn_app (goodIn_of _ (by decide +kernel)) ggX3_with_X3_ofPot
theorem dX3_with_0 : decode cX3_with 0 = .ok (.aload_n 0, 1) := by decide +kernel
theorem dX3_with_1 : decode cX3_with 1 = .ok (.getfield 7, 3) := by decide +kernel
theorem dX3_with_4 : decode cX3_with 4 = .ok (.iload_n 1, 1) := by decide +kernel
theorem dX3_with_5 : decode cX3_with 5 = .ok (.iconst 0, 1) := by decide +kernel
theorem dX3_with_6 : decode cX3_with 6 = .ok (.invokestatic 29, 3) := by decide +kernel
theorem dX3_with_9 : decode cX3_with 9 = .ok (.iaload, 1) := by decide +kernel
theorem dX3_with_10 : decode cX3_with 10 = .ok (.ireturn, 1) := by decide +kernel
set_option maxRecDepth 20000 in
theorem ggX3_weight_X3_ofPot : GoodIn wsX3_weight wsX3_ofPot := goodIn_r _ [5] (by decide +kernel) (by decide +kernel)
set_option maxRecDepth 20000 in
theorem gX3_weight_X3_ofPot : GoodIn wsX3_weight (va_wsS RX3 29 yX3_ofPot wsX3_ofPot) := goodIn_app (goodIn_of _ (by decide +kernel)) ggX3_weight_X3_ofPot
theorem dX3_weight_0 : decode cX3_weight 0 = .ok (.aload_n 0, 1) := by decide +kernel
theorem dX3_weight_1 : decode cX3_weight 1 = .ok (.getfield 7, 3) := by decide +kernel
theorem dX3_weight_4 : decode cX3_weight 4 = .ok (.iload_n 1, 1) := by decide +kernel
theorem dX3_weight_5 : decode cX3_weight 5 = .ok (.iconst 1, 1) := by decide +kernel
theorem dX3_weight_6 : decode cX3_weight 6 = .ok (.invokestatic 29, 3) := by decide +kernel
theorem dX3_weight_9 : decode cX3_weight 9 = .ok (.iaload, 1) := by decide +kernel
theorem dX3_weight_10 : decode cX3_weight 10 = .ok (.bipush 20, 2) := by decide +kernel
theorem dX3_weight_12 : decode cX3_weight 12 = .ok (.idiv, 1) := by decide +kernel
theorem dX3_weight_13 : decode cX3_weight 13 = .ok (.bipush 20, 2) := by decide +kernel
theorem dX3_weight_15 : decode cX3_weight 15 = .ok (.imul, 1) := by decide +kernel
theorem dX3_weight_16 : decode cX3_weight 16 = .ok (.ireturn, 1) := by decide +kernel
set_option maxRecDepth 20000 in
theorem ggX3_guess_X3_with : GoodIn wsX3_guess wsX3_with := goodIn_r _ [6, 1, 7, 8, 5, 9, 17, 18, 19, 20, 21, 22, 23, 24, 25, 26, 27, 28, 29, 30, 31] (by decide +kernel) (by decide +kernel)
set_option maxRecDepth 20000 in
theorem gX3_guess_X3_with : GoodIn wsX3_guess (wsV RX3 43 RX3 yX3_with wsX3_with) := goodIn_app (goodIn_of _ (by decide +kernel)) ggX3_guess_X3_with
set_option maxRecDepth 20000 in
theorem ggX3_guess_X3_of : GoodIn wsX3_guess wsX3_of := goodIn_r _ [12] (by decide +kernel) (by decide +kernel)
set_option maxRecDepth 20000 in
theorem gX3_guess_X3_of : GoodIn wsX3_guess (va_wsS RX3 25 yX3_of wsX3_of) := goodIn_app (goodIn_of _ (by decide +kernel)) ggX3_guess_X3_of
set_option maxRecDepth 20000 in
theorem ggX3_guess_X3_ofPot : GoodIn wsX3_guess wsX3_ofPot := goodIn_r _ [9] (by decide +kernel) (by decide +kernel)
set_option maxRecDepth 20000 in
theorem gX3_guess_X3_ofPot : GoodIn wsX3_guess (va_wsS RX3 29 yX3_ofPot wsX3_ofPot) := goodIn_app (goodIn_of _ (by decide +kernel)) ggX3_guess_X3_ofPot
set_option maxRecDepth 20000 in
theorem ggX3_guess_X3_weight : GoodIn wsX3_guess wsX3_weight := goodIn_r _ [16, 1, 7, 8, 5, 9, 17, 18, 19, 20, 21, 22, 23, 24, 25, 26, 27, 28, 29, 30, 31] (by decide +kernel) (by decide +kernel)
set_option maxRecDepth 20000 in
theorem gX3_guess_X3_weight : GoodIn wsX3_guess (wsV RX3 47 RX3 yX3_weight wsX3_weight) := goodIn_app (goodIn_of _ (by decide +kernel)) ggX3_guess_X3_weight
theorem dX3_guess_0 : decode cX3_guess 0 = .ok (.aload_n 0, 1) := by decide +kernel
theorem dX3_guess_1 : decode cX3_guess 1 = .ok (.getfield 7, 3) := by decide +kernel
theorem dX3_guess_4 : decode cX3_guess 4 = .ok (.aload_n 0, 1) := by decide +kernel
theorem dX3_guess_5 : decode cX3_guess 5 = .ok (.iload_n 1, 1) := by decide +kernel
theorem dX3_guess_6 : decode cX3_guess 6 = .ok (.invokevirtual 43, 3) := by decide +kernel
theorem dX3_guess_9 : decode cX3_guess 9 = .ok (.iconst 3, 1) := by decide +kernel
theorem dX3_guess_10 : decode cX3_guess 10 = .ok (.invokestatic 25, 3) := by decide +kernel
theorem dX3_guess_13 : decode cX3_guess 13 = .ok (.iaload, 1) := by decide +kernel
theorem dX3_guess_14 : decode cX3_guess 14 = .ok (.istore_n 2, 1) := by decide +kernel
theorem dX3_guess_15 : decode cX3_guess 15 = .ok (.aload_n 0, 1) := by decide +kernel
theorem dX3_guess_16 : decode cX3_guess 16 = .ok (.getfield 7, 3) := by decide +kernel
theorem dX3_guess_19 : decode cX3_guess 19 = .ok (.iload_n 1, 1) := by decide +kernel
theorem dX3_guess_20 : decode cX3_guess 20 = .ok (.iconst 2, 1) := by decide +kernel
theorem dX3_guess_21 : decode cX3_guess 21 = .ok (.invokestatic 29, 3) := by decide +kernel
theorem dX3_guess_24 : decode cX3_guess 24 = .ok (.iaload, 1) := by decide +kernel
theorem dX3_guess_25 : decode cX3_guess 25 = .ok (.iload_n 2, 1) := by decide +kernel
theorem dX3_guess_26 : decode cX3_guess 26 = .ok (.imul, 1) := by decide +kernel
theorem dX3_guess_27 : decode cX3_guess 27 = .ok (.aload_n 0, 1) := by decide +kernel
theorem dX3_guess_28 : decode cX3_guess 28 = .ok (.iload_n 1, 1) := by decide +kernel
theorem dX3_guess_29 : decode cX3_guess 29 = .ok (.invokevirtual 47, 3) := by decide +kernel
theorem dX3_guess_32 : decode cX3_guess 32 = .ok (.bipush 10, 2) := by decide +kernel
theorem dX3_guess_34 : decode cX3_guess 34 = .ok (.iload_n 2, 1) := by decide +kernel
theorem dX3_guess_35 : decode cX3_guess 35 = .ok (.isub, 1) := by decide +kernel
theorem dX3_guess_36 : decode cX3_guess 36 = .ok (.imul, 1) := by decide +kernel
theorem dX3_guess_37 : decode cX3_guess 37 = .ok (.iadd, 1) := by decide +kernel
theorem dX3_guess_38 : decode cX3_guess 38 = .ok (.bipush 10, 2) := by decide +kernel
theorem dX3_guess_40 : decode cX3_guess 40 = .ok (.idiv, 1) := by decide +kernel
theorem dX3_guess_41 : decode cX3_guess 41 = .ok (.ireturn, 1) := by decide +kernel
set_option maxRecDepth 20000 in
theorem ggX3_room_X3_of : GoodIn wsX3_room wsX3_of := goodIn_r _ [5] (by decide +kernel) (by decide +kernel)
set_option maxRecDepth 20000 in
theorem gX3_room_X3_of : GoodIn wsX3_room (va_wsS RX3 25 yX3_of wsX3_of) := goodIn_app (goodIn_of _ (by decide +kernel)) ggX3_room_X3_of
theorem dX3_room_0 : decode cX3_room 0 = .ok (.aload_n 0, 1) := by decide +kernel
theorem dX3_room_1 : decode cX3_room 1 = .ok (.getfield 7, 3) := by decide +kernel
theorem dX3_room_4 : decode cX3_room 4 = .ok (.iload_n 1, 1) := by decide +kernel
theorem dX3_room_5 : decode cX3_room 5 = .ok (.iconst 0, 1) := by decide +kernel
theorem dX3_room_6 : decode cX3_room 6 = .ok (.invokestatic 25, 3) := by decide +kernel
theorem dX3_room_9 : decode cX3_room 9 = .ok (.iaload, 1) := by decide +kernel
theorem dX3_room_10 : decode cX3_room 10 = .ok (.aload_n 0, 1) := by decide +kernel
theorem dX3_room_11 : decode cX3_room 11 = .ok (.getfield 7, 3) := by decide +kernel
theorem dX3_room_14 : decode cX3_room 14 = .ok (.iload_n 1, 1) := by decide +kernel
theorem dX3_room_15 : decode cX3_room 15 = .ok (.iconst 1, 1) := by decide +kernel
theorem dX3_room_16 : decode cX3_room 16 = .ok (.invokestatic 25, 3) := by decide +kernel
theorem dX3_room_19 : decode cX3_room 19 = .ok (.iaload, 1) := by decide +kernel
theorem dX3_room_20 : decode cX3_room 20 = .ok (.isub, 1) := by decide +kernel
theorem dX3_room_21 : decode cX3_room 21 = .ok (.ireturn, 1) := by decide +kernel
set_option maxRecDepth 20000 in
theorem ggX3_hindrance_X3_ofPot : GoodIn wsX3_hindrance wsX3_ofPot := goodIn_r _ [5] (by decide +kernel) (by decide +kernel)
set_option maxRecDepth 20000 in
theorem gX3_hindrance_X3_ofPot : GoodIn wsX3_hindrance (va_wsS RX3 29 yX3_ofPot wsX3_ofPot) := goodIn_app (goodIn_of _ (by decide +kernel)) ggX3_hindrance_X3_ofPot
set_option maxRecDepth 20000 in
theorem ggX3_hindrance_X3_with : GoodIn wsX3_hindrance wsX3_with := goodIn_r _ [9, 1, 2, 3, 4, 5, 17, 18, 19, 20, 21, 22, 23, 24, 25, 26, 27, 28, 29, 30, 31] (by decide +kernel) (by decide +kernel)
set_option maxRecDepth 20000 in
theorem gX3_hindrance_X3_with : GoodIn wsX3_hindrance (wsV RX3 43 RX3 yX3_with wsX3_with) := goodIn_app (goodIn_of _ (by decide +kernel)) ggX3_hindrance_X3_with
set_option maxRecDepth 20000 in
theorem ggX3_hindrance_X3_room : GoodIn wsX3_hindrance wsX3_room := goodIn_r _ [13, 1, 14, 15, 4, 16, 17, 18, 19, 20, 21, 22, 23, 24, 25, 26, 27, 28, 29, 30, 31] (by decide +kernel) (by decide +kernel)
set_option maxRecDepth 20000 in
theorem gX3_hindrance_X3_room : GoodIn wsX3_hindrance (wsV RX3 50 RX3 yX3_room wsX3_room) := goodIn_app (goodIn_of _ (by decide +kernel)) ggX3_hindrance_X3_room
theorem dX3_hindrance_0 : decode cX3_hindrance 0 = .ok (.aload_n 0, 1) := by decide +kernel
theorem dX3_hindrance_1 : decode cX3_hindrance 1 = .ok (.getfield 7, 3) := by decide +kernel
theorem dX3_hindrance_4 : decode cX3_hindrance 4 = .ok (.iload_n 1, 1) := by decide +kernel
theorem dX3_hindrance_5 : decode cX3_hindrance 5 = .ok (.iconst 1, 1) := by decide +kernel
theorem dX3_hindrance_6 : decode cX3_hindrance 6 = .ok (.invokestatic 29, 3) := by decide +kernel
theorem dX3_hindrance_9 : decode cX3_hindrance 9 = .ok (.iaload, 1) := by decide +kernel
theorem dX3_hindrance_10 : decode cX3_hindrance 10 = .ok (.ifCond .ne 7, 3) := by decide +kernel
theorem dX3_hindrance_13 : decode cX3_hindrance 13 = .ok (.iconst 1, 1) := by decide +kernel
theorem dX3_hindrance_14 : decode cX3_hindrance 14 = .ok (.goto 20, 3) := by decide +kernel
theorem dX3_hindrance_17 : decode cX3_hindrance 17 = .ok (.aload_n 0, 1) := by decide +kernel
theorem dX3_hindrance_18 : decode cX3_hindrance 18 = .ok (.aload_n 0, 1) := by decide +kernel
theorem dX3_hindrance_19 : decode cX3_hindrance 19 = .ok (.iload_n 1, 1) := by decide +kernel
theorem dX3_hindrance_20 : decode cX3_hindrance 20 = .ok (.invokevirtual 43, 3) := by decide +kernel
theorem dX3_hindrance_23 : decode cX3_hindrance 23 = .ok (.invokevirtual 50, 3) := by decide +kernel
theorem dX3_hindrance_26 : decode cX3_hindrance 26 = .ok (.ifCond .ne 7, 3) := by decide +kernel
theorem dX3_hindrance_29 : decode cX3_hindrance 29 = .ok (.iconst 2, 1) := by decide +kernel
theorem dX3_hindrance_30 : decode cX3_hindrance 30 = .ok (.goto 4, 3) := by decide +kernel
theorem dX3_hindrance_33 : decode cX3_hindrance 33 = .ok (.iconst 0, 1) := by decide +kernel
theorem dX3_hindrance_34 : decode cX3_hindrance 34 = .ok (.ireturn, 1) := by decide +kernel
set_option maxRecDepth 20000 in
theorem ggX3_wouldCome_X3_ofPot : GoodIn wsX3_wouldCome wsX3_ofPot := goodIn_r _ [5] (by decide +kernel) (by decide +kernel)
set_option maxRecDepth 20000 in
theorem gX3_wouldCome_X3_ofPot : GoodIn wsX3_wouldCome (va_wsS RX3 29 yX3_ofPot wsX3_ofPot) := goodIn_app (goodIn_of _ (by decide +kernel)) ggX3_wouldCome_X3_ofPot
set_option maxRecDepth 20000 in
theorem ggX3_wouldCome_X3_guess : GoodIn wsX3_wouldCome wsX3_guess := goodIn_r _ [9, 1, 10, 11, 12, 4, 13, 2, 3, 5, 14, 15, 16, 17, 18, 19, 20, 25, 26, 27, 28, 29, 30, 31, 32, 33, 34, 35, 36, 37, 38, 39] (by decide +kernel) (by decide +kernel)
set_option maxRecDepth 20000 in
theorem gX3_wouldCome_X3_guess : GoodIn wsX3_wouldCome (wsV RX3 53 RX3 yX3_guess wsX3_guess) := goodIn_app (goodIn_of _ (by decide +kernel)) ggX3_wouldCome_X3_guess
set_option maxRecDepth 20000 in
theorem ggX3_wouldCome_X3_with : GoodIn wsX3_wouldCome wsX3_with := goodIn_r _ [13, 1, 2, 3, 4, 5, 25, 26, 27, 28, 29, 30, 31, 32, 33, 34, 35, 36, 37, 38, 39] (by decide +kernel) (by decide +kernel)
set_option maxRecDepth 20000 in
theorem gX3_wouldCome_X3_with : GoodIn wsX3_wouldCome (wsV RX3 43 RX3 yX3_with wsX3_with) := goodIn_app (goodIn_of _ (by decide +kernel)) ggX3_wouldCome_X3_with
set_option maxRecDepth 20000 in
theorem ggX3_wouldCome_X3_room : GoodIn wsX3_wouldCome wsX3_room := goodIn_r _ [24, 1, 14, 15, 4, 16, 25, 26, 27, 28, 29, 30, 31, 32, 33, 34, 35, 36, 37, 38, 39] (by decide +kernel) (by decide +kernel)
set_option maxRecDepth 20000 in
theorem gX3_wouldCome_X3_room : GoodIn wsX3_wouldCome (wsV RX3 50 RX3 yX3_room wsX3_room) := goodIn_app (goodIn_of _ (by decide +kernel)) ggX3_wouldCome_X3_room
theorem dX3_wouldCome_0 : decode cX3_wouldCome 0 = .ok (.aload_n 0, 1) := by decide +kernel
theorem dX3_wouldCome_1 : decode cX3_wouldCome 1 = .ok (.getfield 7, 3) := by decide +kernel
theorem dX3_wouldCome_4 : decode cX3_wouldCome 4 = .ok (.iload_n 1, 1) := by decide +kernel
theorem dX3_wouldCome_5 : decode cX3_wouldCome 5 = .ok (.iconst 1, 1) := by decide +kernel
theorem dX3_wouldCome_6 : decode cX3_wouldCome 6 = .ok (.invokestatic 29, 3) := by decide +kernel
theorem dX3_wouldCome_9 : decode cX3_wouldCome 9 = .ok (.iaload, 1) := by decide +kernel
theorem dX3_wouldCome_10 : decode cX3_wouldCome 10 = .ok (.istore_n 2, 1) := by decide +kernel
theorem dX3_wouldCome_11 : decode cX3_wouldCome 11 = .ok (.aload_n 0, 1) := by decide +kernel
theorem dX3_wouldCome_12 : decode cX3_wouldCome 12 = .ok (.iload_n 1, 1) := by decide +kernel
theorem dX3_wouldCome_13 : decode cX3_wouldCome 13 = .ok (.invokevirtual 53, 3) := by decide +kernel
theorem dX3_wouldCome_16 : decode cX3_wouldCome 16 = .ok (.istore_n 3, 1) := by decide +kernel
theorem dX3_wouldCome_17 : decode cX3_wouldCome 17 = .ok (.aload_n 0, 1) := by decide +kernel
theorem dX3_wouldCome_18 : decode cX3_wouldCome 18 = .ok (.aload_n 0, 1) := by decide +kernel
theorem dX3_wouldCome_19 : decode cX3_wouldCome 19 = .ok (.iload_n 1, 1) := by decide +kernel
theorem dX3_wouldCome_20 : decode cX3_wouldCome 20 = .ok (.invokevirtual 43, 3) := by decide +kernel
theorem dX3_wouldCome_23 : decode cX3_wouldCome 23 = .ok (.invokevirtual 50, 3) := by decide +kernel
theorem dX3_wouldCome_26 : decode cX3_wouldCome 26 = .ok (.iload_n 2, 1) := by decide +kernel
theorem dX3_wouldCome_27 : decode cX3_wouldCome 27 = .ok (.imul, 1) := by decide +kernel
theorem dX3_wouldCome_28 : decode cX3_wouldCome 28 = .ok (.iload_n 3, 1) := by decide +kernel
theorem dX3_wouldCome_29 : decode cX3_wouldCome 29 = .ok (.ifCond .ne 7, 3) := by decide +kernel
theorem dX3_wouldCome_32 : decode cX3_wouldCome 32 = .ok (.iconst 1, 1) := by decide +kernel
theorem dX3_wouldCome_33 : decode cX3_wouldCome 33 = .ok (.goto 4, 3) := by decide +kernel
theorem dX3_wouldCome_36 : decode cX3_wouldCome 36 = .ok (.iload_n 3, 1) := by decide +kernel
theorem dX3_wouldCome_37 : decode cX3_wouldCome 37 = .ok (.idiv, 1) := by decide +kernel
theorem dX3_wouldCome_38 : decode cX3_wouldCome 38 = .ok (.istore 4, 2) := by decide +kernel
theorem dX3_wouldCome_40 : decode cX3_wouldCome 40 = .ok (.iload 4, 2) := by decide +kernel
theorem dX3_wouldCome_42 : decode cX3_wouldCome 42 = .ok (.iload_n 2, 1) := by decide +kernel
theorem dX3_wouldCome_43 : decode cX3_wouldCome 43 = .ok (.if_icmp .ge 8, 3) := by decide +kernel
theorem dX3_wouldCome_46 : decode cX3_wouldCome 46 = .ok (.iload 4, 2) := by decide +kernel
theorem dX3_wouldCome_48 : decode cX3_wouldCome 48 = .ok (.goto 4, 3) := by decide +kernel
theorem dX3_wouldCome_51 : decode cX3_wouldCome 51 = .ok (.iload_n 2, 1) := by decide +kernel
theorem dX3_wouldCome_52 : decode cX3_wouldCome 52 = .ok (.ireturn, 1) := by decide +kernel
set_option maxRecDepth 20000 in
theorem ggX3_wouldSpill_X3_wouldCome : GoodIn wsX3_wouldSpill wsX3_wouldCome := goodIn_r _ [5, 6, 7, 8, 4, 9, 10, 11, 12, 13, 14, 15, 16, 17, 18, 19, 20, 21, 22, 23, 24, 25, 26, 27, 28, 29, 30, 31, 32, 33, 34, 35, 36, 37, 38, 39, 40, 41, 42, 43] (by decide +kernel) (by decide +kernel)
set_option maxRecDepth 20000 in
theorem gX3_wouldSpill_X3_wouldCome : GoodIn wsX3_wouldSpill (wsV RX3 56 RX3 yX3_wouldCome wsX3_wouldCome) := goodIn_app (goodIn_of _ (by decide +kernel)) ggX3_wouldSpill_X3_wouldCome
set_option maxRecDepth 20000 in
theorem ggX3_wouldSpill_X3_with : GoodIn wsX3_wouldSpill wsX3_with := goodIn_r _ [17, 6, 7, 8, 4, 9, 29, 30, 31, 32, 33, 34, 35, 36, 37, 38, 39, 40, 41, 42, 43] (by decide +kernel) (by decide +kernel)
set_option maxRecDepth 20000 in
theorem gX3_wouldSpill_X3_with : GoodIn wsX3_wouldSpill (wsV RX3 43 RX3 yX3_with wsX3_with) := goodIn_app (goodIn_of _ (by decide +kernel)) ggX3_wouldSpill_X3_with
set_option maxRecDepth 20000 in
theorem ggX3_wouldSpill_X3_room : GoodIn wsX3_wouldSpill wsX3_room := goodIn_r _ [28, 6, 18, 19, 4, 20, 29, 30, 31, 32, 33, 34, 35, 36, 37, 38, 39, 40, 41, 42, 43] (by decide +kernel) (by decide +kernel)
set_option maxRecDepth 20000 in
theorem gX3_wouldSpill_X3_room : GoodIn wsX3_wouldSpill (wsV RX3 50 RX3 yX3_room wsX3_room) := goodIn_app (goodIn_of _ (by decide +kernel)) ggX3_wouldSpill_X3_room
theorem dX3_wouldSpill_0 : decode cX3_wouldSpill 0 = .ok (.aload_n 0, 1) := by decide +kernel
theorem dX3_wouldSpill_1 : decode cX3_wouldSpill 1 = .ok (.iload_n 1, 1) := by decide +kernel
theorem dX3_wouldSpill_2 : decode cX3_wouldSpill 2 = .ok (.invokevirtual 56, 3) := by decide +kernel
theorem dX3_wouldSpill_5 : decode cX3_wouldSpill 5 = .ok (.aload_n 0, 1) := by decide +kernel
theorem dX3_wouldSpill_6 : decode cX3_wouldSpill 6 = .ok (.aload_n 0, 1) := by decide +kernel
theorem dX3_wouldSpill_7 : decode cX3_wouldSpill 7 = .ok (.iload_n 1, 1) := by decide +kernel
theorem dX3_wouldSpill_8 : decode cX3_wouldSpill 8 = .ok (.invokevirtual 43, 3) := by decide +kernel
theorem dX3_wouldSpill_11 : decode cX3_wouldSpill 11 = .ok (.invokevirtual 50, 3) := by decide +kernel
theorem dX3_wouldSpill_14 : decode cX3_wouldSpill 14 = .ok (.isub, 1) := by decide +kernel
theorem dX3_wouldSpill_15 : decode cX3_wouldSpill 15 = .ok (.istore_n 2, 1) := by decide +kernel
theorem dX3_wouldSpill_16 : decode cX3_wouldSpill 16 = .ok (.iload_n 2, 1) := by decide +kernel
theorem dX3_wouldSpill_17 : decode cX3_wouldSpill 17 = .ok (.ifCond .le 7, 3) := by decide +kernel
theorem dX3_wouldSpill_20 : decode cX3_wouldSpill 20 = .ok (.iload_n 2, 1) := by decide +kernel
theorem dX3_wouldSpill_21 : decode cX3_wouldSpill 21 = .ok (.goto 4, 3) := by decide +kernel
theorem dX3_wouldSpill_24 : decode cX3_wouldSpill 24 = .ok (.iconst 0, 1) := by decide +kernel
theorem dX3_wouldSpill_25 : decode cX3_wouldSpill 25 = .ok (.ireturn, 1) := by decide +kernel
set_option maxRecDepth 20000 in
theorem ggX3_trustThen_X3_ofPot : GoodIn wsX3_trustThen wsX3_ofPot := goodIn_r _ [5] (by decide +kernel) (by decide +kernel)
set_option maxRecDepth 20000 in
theorem gX3_trustThen_X3_ofPot : GoodIn wsX3_trustThen (va_wsS RX3 29 yX3_ofPot wsX3_ofPot) := goodIn_app (goodIn_of _ (by decide +kernel)) ggX3_trustThen_X3_ofPot
set_option maxRecDepth 20000 in
theorem ggX3_trustThen_X3_size : GoodIn wsX3_trustThen wsX3_size := goodIn_r _ [8] (by decide +kernel) (by decide +kernel)
set_option maxRecDepth 20000 in
theorem gX3_trustThen_X3_size : GoodIn wsX3_trustThen (va_wsS RX3 59 yX3_size wsX3_size) := goodIn_app (goodIn_of _ (by decide +kernel)) ggX3_trustThen_X3_size
set_option maxRecDepth 20000 in
theorem ggX3_trustThen_X3_weight : GoodIn wsX3_trustThen wsX3_weight := goodIn_r _ [12, 1, 2, 3, 4, 5, 20, 21, 22, 23, 24, 25, 26, 27, 28, 29, 30, 31, 32, 33, 34] (by decide +kernel) (by decide +kernel)
set_option maxRecDepth 20000 in
theorem gX3_trustThen_X3_weight : GoodIn wsX3_trustThen (wsV RX3 47 RX3 yX3_weight wsX3_weight) := goodIn_app (goodIn_of _ (by decide +kernel)) ggX3_trustThen_X3_weight
set_option maxRecDepth 20000 in
theorem ggX3_trustThen_X3_with : GoodIn wsX3_trustThen wsX3_with := goodIn_r _ [16, 1, 2, 3, 4, 5, 20, 21, 22, 23, 24, 25, 26, 27, 28, 29, 30, 31, 32, 33, 34] (by decide +kernel) (by decide +kernel)
set_option maxRecDepth 20000 in
theorem gX3_trustThen_X3_with : GoodIn wsX3_trustThen (wsV RX3 43 RX3 yX3_with wsX3_with) := goodIn_app (goodIn_of _ (by decide +kernel)) ggX3_trustThen_X3_with
set_option maxRecDepth 20000 in
theorem ggX3_trustThen_X3_of : GoodIn wsX3_trustThen wsX3_of := goodIn_r _ [19] (by decide +kernel) (by decide +kernel)
set_option maxRecDepth 20000 in
theorem gX3_trustThen_X3_of : GoodIn wsX3_trustThen (va_wsS RX3 25 yX3_of wsX3_of) := goodIn_app (goodIn_of _ (by decide +kernel)) ggX3_trustThen_X3_of
theorem dX3_trustThen_0 : decode cX3_trustThen 0 = .ok (.aload_n 0, 1) := by decide +kernel
theorem dX3_trustThen_1 : decode cX3_trustThen 1 = .ok (.getfield 7, 3) := by decide +kernel
theorem dX3_trustThen_4 : decode cX3_trustThen 4 = .ok (.iload_n 1, 1) := by decide +kernel
theorem dX3_trustThen_5 : decode cX3_trustThen 5 = .ok (.iconst 1, 1) := by decide +kernel
theorem dX3_trustThen_6 : decode cX3_trustThen 6 = .ok (.invokestatic 29, 3) := by decide +kernel
theorem dX3_trustThen_9 : decode cX3_trustThen 9 = .ok (.iaload, 1) := by decide +kernel
theorem dX3_trustThen_10 : decode cX3_trustThen 10 = .ok (.istore_n 2, 1) := by decide +kernel
theorem dX3_trustThen_11 : decode cX3_trustThen 11 = .ok (.aload_n 0, 1) := by decide +kernel
theorem dX3_trustThen_12 : decode cX3_trustThen 12 = .ok (.getfield 7, 3) := by decide +kernel
theorem dX3_trustThen_15 : decode cX3_trustThen 15 = .ok (.iload_n 1, 1) := by decide +kernel
theorem dX3_trustThen_16 : decode cX3_trustThen 16 = .ok (.iconst 2, 1) := by decide +kernel
theorem dX3_trustThen_17 : decode cX3_trustThen 17 = .ok (.invokestatic 29, 3) := by decide +kernel
theorem dX3_trustThen_20 : decode cX3_trustThen 20 = .ok (.iaload, 1) := by decide +kernel
theorem dX3_trustThen_21 : decode cX3_trustThen 21 = .ok (.iload_n 2, 1) := by decide +kernel
theorem dX3_trustThen_22 : decode cX3_trustThen 22 = .ok (.isub, 1) := by decide +kernel
theorem dX3_trustThen_23 : decode cX3_trustThen 23 = .ok (.invokestatic 59, 3) := by decide +kernel
theorem dX3_trustThen_26 : decode cX3_trustThen 26 = .ok (.aload_n 0, 1) := by decide +kernel
theorem dX3_trustThen_27 : decode cX3_trustThen 27 = .ok (.iload_n 1, 1) := by decide +kernel
theorem dX3_trustThen_28 : decode cX3_trustThen 28 = .ok (.invokevirtual 47, 3) := by decide +kernel
theorem dX3_trustThen_31 : decode cX3_trustThen 31 = .ok (.iload_n 2, 1) := by decide +kernel
theorem dX3_trustThen_32 : decode cX3_trustThen 32 = .ok (.isub, 1) := by decide +kernel
theorem dX3_trustThen_33 : decode cX3_trustThen 33 = .ok (.invokestatic 59, 3) := by decide +kernel
theorem dX3_trustThen_36 : decode cX3_trustThen 36 = .ok (.isub, 1) := by decide +kernel
theorem dX3_trustThen_37 : decode cX3_trustThen 37 = .ok (.istore_n 3, 1) := by decide +kernel
theorem dX3_trustThen_38 : decode cX3_trustThen 38 = .ok (.aload_n 0, 1) := by decide +kernel
theorem dX3_trustThen_39 : decode cX3_trustThen 39 = .ok (.getfield 7, 3) := by decide +kernel
theorem dX3_trustThen_42 : decode cX3_trustThen 42 = .ok (.aload_n 0, 1) := by decide +kernel
theorem dX3_trustThen_43 : decode cX3_trustThen 43 = .ok (.iload_n 1, 1) := by decide +kernel
theorem dX3_trustThen_44 : decode cX3_trustThen 44 = .ok (.invokevirtual 43, 3) := by decide +kernel
theorem dX3_trustThen_47 : decode cX3_trustThen 47 = .ok (.iconst 3, 1) := by decide +kernel
theorem dX3_trustThen_48 : decode cX3_trustThen 48 = .ok (.invokestatic 25, 3) := by decide +kernel
theorem dX3_trustThen_51 : decode cX3_trustThen 51 = .ok (.iaload, 1) := by decide +kernel
theorem dX3_trustThen_52 : decode cX3_trustThen 52 = .ok (.iload_n 3, 1) := by decide +kernel
theorem dX3_trustThen_53 : decode cX3_trustThen 53 = .ok (.ifCond .ge 7, 3) := by decide +kernel
theorem dX3_trustThen_56 : decode cX3_trustThen 56 = .ok (.iconst 1, 1) := by decide +kernel
theorem dX3_trustThen_57 : decode cX3_trustThen 57 = .ok (.goto 12, 3) := by decide +kernel
theorem dX3_trustThen_60 : decode cX3_trustThen 60 = .ok (.iload_n 3, 1) := by decide +kernel
theorem dX3_trustThen_61 : decode cX3_trustThen 61 = .ok (.ifCond .le 7, 3) := by decide +kernel
theorem dX3_trustThen_64 : decode cX3_trustThen 64 = .ok (.iconst (-1), 1) := by decide +kernel
theorem dX3_trustThen_65 : decode cX3_trustThen 65 = .ok (.goto 4, 3) := by decide +kernel
theorem dX3_trustThen_68 : decode cX3_trustThen 68 = .ok (.iconst 0, 1) := by decide +kernel
theorem dX3_trustThen_69 : decode cX3_trustThen 69 = .ok (.iadd, 1) := by decide +kernel
theorem dX3_trustThen_70 : decode cX3_trustThen 70 = .ok (.istore 4, 2) := by decide +kernel
theorem dX3_trustThen_72 : decode cX3_trustThen 72 = .ok (.iload 4, 2) := by decide +kernel
theorem dX3_trustThen_74 : decode cX3_trustThen 74 = .ok (.ifCond .ge 7, 3) := by decide +kernel
theorem dX3_trustThen_77 : decode cX3_trustThen 77 = .ok (.iconst 0, 1) := by decide +kernel
theorem dX3_trustThen_78 : decode cX3_trustThen 78 = .ok (.goto 17, 3) := by decide +kernel
theorem dX3_trustThen_81 : decode cX3_trustThen 81 = .ok (.iload 4, 2) := by decide +kernel
theorem dX3_trustThen_83 : decode cX3_trustThen 83 = .ok (.bipush 10, 2) := by decide +kernel
theorem dX3_trustThen_85 : decode cX3_trustThen 85 = .ok (.if_icmp .le 8, 3) := by decide +kernel
theorem dX3_trustThen_88 : decode cX3_trustThen 88 = .ok (.bipush 10, 2) := by decide +kernel
theorem dX3_trustThen_90 : decode cX3_trustThen 90 = .ok (.goto 5, 3) := by decide +kernel
theorem dX3_trustThen_93 : decode cX3_trustThen 93 = .ok (.iload 4, 2) := by decide +kernel
theorem dX3_trustThen_95 : decode cX3_trustThen 95 = .ok (.ireturn, 1) := by decide +kernel
set_option maxRecDepth 20000 in
theorem ggX3_pours_X3_with : GoodIn wsX3_pours wsX3_with := goodIn_r _ [6, 1, 7, 8, 5, 9, 40, 41, 42, 43, 44, 45, 46, 47, 48, 49, 50, 51, 52, 53, 54] (by decide +kernel) (by decide +kernel)
set_option maxRecDepth 20000 in
theorem gX3_pours_X3_with : GoodIn wsX3_pours (wsV RX3 43 RX3 yX3_with wsX3_with) := goodIn_app (goodIn_of _ (by decide +kernel)) ggX3_pours_X3_with
set_option maxRecDepth 20000 in
theorem ggX3_pours_X3_wouldCome : GoodIn wsX3_pours wsX3_wouldCome := goodIn_r _ [13, 1, 7, 8, 5, 9, 14, 15, 16, 17, 2, 3, 4, 6, 18, 19, 20, 21, 22, 23, 24, 25, 26, 27, 28, 40, 41, 42, 43, 44, 45, 46, 47, 48, 49, 50, 51, 52, 53, 54] (by decide +kernel) (by decide +kernel)
set_option maxRecDepth 20000 in
theorem gX3_pours_X3_wouldCome : GoodIn wsX3_pours (wsV RX3 56 RX3 yX3_wouldCome wsX3_wouldCome) := goodIn_app (goodIn_of _ (by decide +kernel)) ggX3_pours_X3_wouldCome
set_option maxRecDepth 20000 in
theorem ggX3_pours_X3_wouldSpill : GoodIn wsX3_pours wsX3_wouldSpill := goodIn_r _ [32, 10, 11, 12, 5, 13, 1, 7, 8, 9, 14, 15, 16, 17, 2, 3, 4, 6, 18, 19, 20, 21, 22, 23, 24, 25, 26, 27, 28, 40, 41, 42, 43, 44, 45, 46, 47, 48, 49, 50, 51, 52, 53, 54] (by decide +kernel) (by decide +kernel)
set_option maxRecDepth 20000 in
theorem gX3_pours_X3_wouldSpill : GoodIn wsX3_pours (wsV RX3 62 RX3 yX3_wouldSpill wsX3_wouldSpill) := goodIn_app (goodIn_of _ (by decide +kernel)) ggX3_pours_X3_wouldSpill
set_option maxRecDepth 20000 in
theorem ggX3_pours_X3_trustThen : GoodIn wsX3_pours wsX3_trustThen := goodIn_r _ [36, 1, 7, 8, 5, 9, 37, 38, 39, 21, 22, 23, 24, 2, 3, 4, 6, 18, 19, 20, 40, 41, 42, 43, 44, 45, 46, 47, 48, 49, 50, 51, 52, 53, 54] (by decide +kernel) (by decide +kernel)
set_option maxRecDepth 20000 in
theorem gX3_pours_X3_trustThen : GoodIn wsX3_pours (wsV RX3 65 RX3 yX3_trustThen wsX3_trustThen) := goodIn_app (goodIn_of _ (by decide +kernel)) ggX3_pours_X3_trustThen
set_option maxRecDepth 20000 in
theorem ggX3_pours_X3_ofPot : GoodIn wsX3_pours wsX3_ofPot := goodIn_r _ [9] (by decide +kernel) (by decide +kernel)
set_option maxRecDepth 20000 in
theorem gX3_pours_X3_ofPot : GoodIn wsX3_pours (va_wsS RX3 29 yX3_ofPot wsX3_ofPot) := goodIn_app (goodIn_of _ (by decide +kernel)) ggX3_pours_X3_ofPot
set_option maxRecDepth 20000 in
theorem ggX3_pours_X3_of : GoodIn wsX3_pours wsX3_of := goodIn_r _ [20] (by decide +kernel) (by decide +kernel)
set_option maxRecDepth 20000 in
theorem gX3_pours_X3_of : GoodIn wsX3_pours (va_wsS RX3 25 yX3_of wsX3_of) := goodIn_app (goodIn_of _ (by decide +kernel)) ggX3_pours_X3_of
theorem dX3_pours_0 : decode cX3_pours 0 = .ok (.aload_n 0, 1) := by decide +kernel
theorem dX3_pours_1 : decode cX3_pours 1 = .ok (.iload_n 1, 1) := by decide +kernel
theorem dX3_pours_2 : decode cX3_pours 2 = .ok (.invokevirtual 43, 3) := by decide +kernel
theorem dX3_pours_5 : decode cX3_pours 5 = .ok (.istore_n 2, 1) := by decide +kernel
theorem dX3_pours_6 : decode cX3_pours 6 = .ok (.aload_n 0, 1) := by decide +kernel
theorem dX3_pours_7 : decode cX3_pours 7 = .ok (.iload_n 1, 1) := by decide +kernel
theorem dX3_pours_8 : decode cX3_pours 8 = .ok (.invokevirtual 56, 3) := by decide +kernel
theorem dX3_pours_11 : decode cX3_pours 11 = .ok (.istore_n 3, 1) := by decide +kernel
theorem dX3_pours_12 : decode cX3_pours 12 = .ok (.aload_n 0, 1) := by decide +kernel
theorem dX3_pours_13 : decode cX3_pours 13 = .ok (.iload_n 1, 1) := by decide +kernel
theorem dX3_pours_14 : decode cX3_pours 14 = .ok (.invokevirtual 62, 3) := by decide +kernel
theorem dX3_pours_17 : decode cX3_pours 17 = .ok (.istore 4, 2) := by decide +kernel
theorem dX3_pours_19 : decode cX3_pours 19 = .ok (.aload_n 0, 1) := by decide +kernel
theorem dX3_pours_20 : decode cX3_pours 20 = .ok (.iload_n 1, 1) := by decide +kernel
theorem dX3_pours_21 : decode cX3_pours 21 = .ok (.invokevirtual 65, 3) := by decide +kernel
theorem dX3_pours_24 : decode cX3_pours 24 = .ok (.istore 5, 2) := by decide +kernel
theorem dX3_pours_26 : decode cX3_pours 26 = .ok (.aload_n 0, 1) := by decide +kernel
theorem dX3_pours_27 : decode cX3_pours 27 = .ok (.getfield 7, 3) := by decide +kernel
theorem dX3_pours_30 : decode cX3_pours 30 = .ok (.iload_n 1, 1) := by decide +kernel
theorem dX3_pours_31 : decode cX3_pours 31 = .ok (.iconst 1, 1) := by decide +kernel
theorem dX3_pours_32 : decode cX3_pours 32 = .ok (.invokestatic 29, 3) := by decide +kernel
theorem dX3_pours_35 : decode cX3_pours 35 = .ok (.dup2, 1) := by decide +kernel
theorem dX3_pours_36 : decode cX3_pours 36 = .ok (.iaload, 1) := by decide +kernel
theorem dX3_pours_37 : decode cX3_pours 37 = .ok (.iload_n 3, 1) := by decide +kernel
theorem dX3_pours_38 : decode cX3_pours 38 = .ok (.isub, 1) := by decide +kernel
theorem dX3_pours_39 : decode cX3_pours 39 = .ok (.iastore, 1) := by decide +kernel
theorem dX3_pours_40 : decode cX3_pours 40 = .ok (.aload_n 0, 1) := by decide +kernel
theorem dX3_pours_41 : decode cX3_pours 41 = .ok (.getfield 7, 3) := by decide +kernel
theorem dX3_pours_44 : decode cX3_pours 44 = .ok (.iload_n 2, 1) := by decide +kernel
theorem dX3_pours_45 : decode cX3_pours 45 = .ok (.iconst 1, 1) := by decide +kernel
theorem dX3_pours_46 : decode cX3_pours 46 = .ok (.invokestatic 25, 3) := by decide +kernel
theorem dX3_pours_49 : decode cX3_pours 49 = .ok (.dup2, 1) := by decide +kernel
theorem dX3_pours_50 : decode cX3_pours 50 = .ok (.iaload, 1) := by decide +kernel
theorem dX3_pours_51 : decode cX3_pours 51 = .ok (.iload_n 3, 1) := by decide +kernel
theorem dX3_pours_52 : decode cX3_pours 52 = .ok (.iload 4, 2) := by decide +kernel
theorem dX3_pours_54 : decode cX3_pours 54 = .ok (.isub, 1) := by decide +kernel
theorem dX3_pours_55 : decode cX3_pours 55 = .ok (.iadd, 1) := by decide +kernel
theorem dX3_pours_56 : decode cX3_pours 56 = .ok (.iastore, 1) := by decide +kernel
theorem dX3_pours_57 : decode cX3_pours 57 = .ok (.aload_n 0, 1) := by decide +kernel
theorem dX3_pours_58 : decode cX3_pours 58 = .ok (.getfield 7, 3) := by decide +kernel
theorem dX3_pours_61 : decode cX3_pours 61 = .ok (.iload_n 2, 1) := by decide +kernel
theorem dX3_pours_62 : decode cX3_pours 62 = .ok (.bipush 7, 2) := by decide +kernel
theorem dX3_pours_64 : decode cX3_pours 64 = .ok (.invokestatic 25, 3) := by decide +kernel
theorem dX3_pours_67 : decode cX3_pours 67 = .ok (.dup2, 1) := by decide +kernel
theorem dX3_pours_68 : decode cX3_pours 68 = .ok (.iaload, 1) := by decide +kernel
theorem dX3_pours_69 : decode cX3_pours 69 = .ok (.iload 4, 2) := by decide +kernel
theorem dX3_pours_71 : decode cX3_pours 71 = .ok (.iadd, 1) := by decide +kernel
theorem dX3_pours_72 : decode cX3_pours 72 = .ok (.iastore, 1) := by decide +kernel
theorem dX3_pours_73 : decode cX3_pours 73 = .ok (.aload_n 0, 1) := by decide +kernel
theorem dX3_pours_74 : decode cX3_pours 74 = .ok (.getfield 7, 3) := by decide +kernel
theorem dX3_pours_77 : decode cX3_pours 77 = .ok (.iload_n 2, 1) := by decide +kernel
theorem dX3_pours_78 : decode cX3_pours 78 = .ok (.iconst 5, 1) := by decide +kernel
theorem dX3_pours_79 : decode cX3_pours 79 = .ok (.invokestatic 25, 3) := by decide +kernel
theorem dX3_pours_82 : decode cX3_pours 82 = .ok (.dup2, 1) := by decide +kernel
theorem dX3_pours_83 : decode cX3_pours 83 = .ok (.iaload, 1) := by decide +kernel
theorem dX3_pours_84 : decode cX3_pours 84 = .ok (.iload 4, 2) := by decide +kernel
theorem dX3_pours_86 : decode cX3_pours 86 = .ok (.ifCond .le 7, 3) := by decide +kernel
theorem dX3_pours_89 : decode cX3_pours 89 = .ok (.iconst 1, 1) := by decide +kernel
theorem dX3_pours_90 : decode cX3_pours 90 = .ok (.goto 4, 3) := by decide +kernel
theorem dX3_pours_93 : decode cX3_pours 93 = .ok (.iconst 0, 1) := by decide +kernel
theorem dX3_pours_94 : decode cX3_pours 94 = .ok (.iadd, 1) := by decide +kernel
theorem dX3_pours_95 : decode cX3_pours 95 = .ok (.iastore, 1) := by decide +kernel
theorem dX3_pours_96 : decode cX3_pours 96 = .ok (.aload_n 0, 1) := by decide +kernel
theorem dX3_pours_97 : decode cX3_pours 97 = .ok (.getfield 7, 3) := by decide +kernel
theorem dX3_pours_100 : decode cX3_pours 100 = .ok (.iload_n 2, 1) := by decide +kernel
theorem dX3_pours_101 : decode cX3_pours 101 = .ok (.bipush 8, 2) := by decide +kernel
theorem dX3_pours_103 : decode cX3_pours 103 = .ok (.invokestatic 25, 3) := by decide +kernel
theorem dX3_pours_106 : decode cX3_pours 106 = .ok (.dup2, 1) := by decide +kernel
theorem dX3_pours_107 : decode cX3_pours 107 = .ok (.iaload, 1) := by decide +kernel
theorem dX3_pours_108 : decode cX3_pours 108 = .ok (.iload_n 3, 1) := by decide +kernel
theorem dX3_pours_109 : decode cX3_pours 109 = .ok (.iadd, 1) := by decide +kernel
theorem dX3_pours_110 : decode cX3_pours 110 = .ok (.iastore, 1) := by decide +kernel
theorem dX3_pours_111 : decode cX3_pours 111 = .ok (.aload_n 0, 1) := by decide +kernel
theorem dX3_pours_112 : decode cX3_pours 112 = .ok (.getfield 7, 3) := by decide +kernel
theorem dX3_pours_115 : decode cX3_pours 115 = .ok (.iload_n 2, 1) := by decide +kernel
theorem dX3_pours_116 : decode cX3_pours 116 = .ok (.iconst 3, 1) := by decide +kernel
theorem dX3_pours_117 : decode cX3_pours 117 = .ok (.invokestatic 25, 3) := by decide +kernel
theorem dX3_pours_120 : decode cX3_pours 120 = .ok (.iload 5, 2) := by decide +kernel
theorem dX3_pours_122 : decode cX3_pours 122 = .ok (.iastore, 1) := by decide +kernel
theorem dX3_pours_123 : decode cX3_pours 123 = .ok (.aload_n 0, 1) := by decide +kernel
theorem dX3_pours_124 : decode cX3_pours 124 = .ok (.getfield 7, 3) := by decide +kernel
theorem dX3_pours_127 : decode cX3_pours 127 = .ok (.sipush 136, 3) := by decide +kernel
theorem dX3_pours_130 : decode cX3_pours 130 = .ok (.dup2, 1) := by decide +kernel
theorem dX3_pours_131 : decode cX3_pours 131 = .ok (.iaload, 1) := by decide +kernel
theorem dX3_pours_132 : decode cX3_pours 132 = .ok (.iconst 1, 1) := by decide +kernel
theorem dX3_pours_133 : decode cX3_pours 133 = .ok (.iadd, 1) := by decide +kernel
theorem dX3_pours_134 : decode cX3_pours 134 = .ok (.iastore, 1) := by decide +kernel
theorem dX3_pours_135 : decode cX3_pours 135 = .ok (.aload_n 0, 1) := by decide +kernel
theorem dX3_pours_136 : decode cX3_pours 136 = .ok (.getfield 7, 3) := by decide +kernel
theorem dX3_pours_139 : decode cX3_pours 139 = .ok (.sipush 137, 3) := by decide +kernel
theorem dX3_pours_142 : decode cX3_pours 142 = .ok (.dup2, 1) := by decide +kernel
theorem dX3_pours_143 : decode cX3_pours 143 = .ok (.iaload, 1) := by decide +kernel
theorem dX3_pours_144 : decode cX3_pours 144 = .ok (.iload 4, 2) := by decide +kernel
theorem dX3_pours_146 : decode cX3_pours 146 = .ok (.ifCond .le 7, 3) := by decide +kernel
theorem dX3_pours_149 : decode cX3_pours 149 = .ok (.iconst 1, 1) := by decide +kernel
theorem dX3_pours_150 : decode cX3_pours 150 = .ok (.goto 4, 3) := by decide +kernel
theorem dX3_pours_153 : decode cX3_pours 153 = .ok (.iconst 0, 1) := by decide +kernel
theorem dX3_pours_154 : decode cX3_pours 154 = .ok (.iadd, 1) := by decide +kernel
theorem dX3_pours_155 : decode cX3_pours 155 = .ok (.iastore, 1) := by decide +kernel
theorem dX3_pours_156 : decode cX3_pours 156 = .ok (.iload 4, 2) := by decide +kernel
theorem dX3_pours_158 : decode cX3_pours 158 = .ok (.ireturn, 1) := by decide +kernel
set_option maxRecDepth 20000 in
theorem ggX3_hands_X3_with : GoodIn wsX3_hands wsX3_with := goodIn_r _ [6, 1, 7, 8, 5, 9, 21, 22, 23, 24, 25, 26, 27, 28, 29, 30, 31, 32, 33, 34, 35] (by decide +kernel) (by decide +kernel)
set_option maxRecDepth 20000 in
theorem gX3_hands_X3_with : GoodIn wsX3_hands (wsV RX3 43 RX3 yX3_with wsX3_with) := goodIn_app (goodIn_of _ (by decide +kernel)) ggX3_hands_X3_with
set_option maxRecDepth 20000 in
theorem ggX3_hands_X3_guess : GoodIn wsX3_hands wsX3_guess := goodIn_r _ [13, 1, 2, 3, 4, 5, 6, 7, 8, 9, 14, 15, 16, 17, 18, 19, 20, 21, 22, 23, 24, 25, 26, 27, 28, 29, 30, 31, 32, 33, 34, 35] (by decide +kernel) (by decide +kernel)
set_option maxRecDepth 20000 in
theorem gX3_hands_X3_guess : GoodIn wsX3_hands (wsV RX3 53 RX3 yX3_guess wsX3_guess) := goodIn_app (goodIn_of _ (by decide +kernel)) ggX3_hands_X3_guess
set_option maxRecDepth 20000 in
theorem ggX3_hands_X3_of : GoodIn wsX3_hands wsX3_of := goodIn_r _ [16] (by decide +kernel) (by decide +kernel)
set_option maxRecDepth 20000 in
theorem gX3_hands_X3_of : GoodIn wsX3_hands (va_wsS RX3 25 yX3_of wsX3_of) := goodIn_app (goodIn_of _ (by decide +kernel)) ggX3_hands_X3_of
set_option maxRecDepth 20000 in
theorem ggX3_hands_X3_ofPot : GoodIn wsX3_hands wsX3_ofPot := goodIn_r _ [9] (by decide +kernel) (by decide +kernel)
set_option maxRecDepth 20000 in
theorem gX3_hands_X3_ofPot : GoodIn wsX3_hands (va_wsS RX3 29 yX3_ofPot wsX3_ofPot) := goodIn_app (goodIn_of _ (by decide +kernel)) ggX3_hands_X3_ofPot
theorem dX3_hands_0 : decode cX3_hands 0 = .ok (.aload_n 0, 1) := by decide +kernel
theorem dX3_hands_1 : decode cX3_hands 1 = .ok (.iload_n 1, 1) := by decide +kernel
theorem dX3_hands_2 : decode cX3_hands 2 = .ok (.invokevirtual 43, 3) := by decide +kernel
theorem dX3_hands_5 : decode cX3_hands 5 = .ok (.istore_n 3, 1) := by decide +kernel
theorem dX3_hands_6 : decode cX3_hands 6 = .ok (.aload_n 0, 1) := by decide +kernel
theorem dX3_hands_7 : decode cX3_hands 7 = .ok (.iload_n 1, 1) := by decide +kernel
theorem dX3_hands_8 : decode cX3_hands 8 = .ok (.invokevirtual 53, 3) := by decide +kernel
theorem dX3_hands_11 : decode cX3_hands 11 = .ok (.aload_n 0, 1) := by decide +kernel
theorem dX3_hands_12 : decode cX3_hands 12 = .ok (.getfield 7, 3) := by decide +kernel
theorem dX3_hands_15 : decode cX3_hands 15 = .ok (.iload_n 3, 1) := by decide +kernel
theorem dX3_hands_16 : decode cX3_hands 16 = .ok (.iconst 4, 1) := by decide +kernel
theorem dX3_hands_17 : decode cX3_hands 17 = .ok (.invokestatic 25, 3) := by decide +kernel
theorem dX3_hands_20 : decode cX3_hands 20 = .ok (.iaload, 1) := by decide +kernel
theorem dX3_hands_21 : decode cX3_hands 21 = .ok (.iadd, 1) := by decide +kernel
theorem dX3_hands_22 : decode cX3_hands 22 = .ok (.istore 4, 2) := by decide +kernel
theorem dX3_hands_24 : decode cX3_hands 24 = .ok (.iload 4, 2) := by decide +kernel
theorem dX3_hands_26 : decode cX3_hands 26 = .ok (.ifCond .ge 7, 3) := by decide +kernel
theorem dX3_hands_29 : decode cX3_hands 29 = .ok (.iconst 0, 1) := by decide +kernel
theorem dX3_hands_30 : decode cX3_hands 30 = .ok (.goto 19, 3) := by decide +kernel
theorem dX3_hands_33 : decode cX3_hands 33 = .ok (.iload 4, 2) := by decide +kernel
theorem dX3_hands_35 : decode cX3_hands 35 = .ok (.sipush 200, 3) := by decide +kernel
theorem dX3_hands_38 : decode cX3_hands 38 = .ok (.if_icmp .le 9, 3) := by decide +kernel
theorem dX3_hands_41 : decode cX3_hands 41 = .ok (.sipush 200, 3) := by decide +kernel
theorem dX3_hands_44 : decode cX3_hands 44 = .ok (.goto 5, 3) := by decide +kernel
theorem dX3_hands_47 : decode cX3_hands 47 = .ok (.iload 4, 2) := by decide +kernel
theorem dX3_hands_49 : decode cX3_hands 49 = .ok (.istore 4, 2) := by decide +kernel
theorem dX3_hands_51 : decode cX3_hands 51 = .ok (.bipush 8, 2) := by decide +kernel
theorem dX3_hands_53 : decode cX3_hands 53 = .ok (.iload_n 1, 1) := by decide +kernel
theorem dX3_hands_54 : decode cX3_hands 54 = .ok (.imul, 1) := by decide +kernel
theorem dX3_hands_55 : decode cX3_hands 55 = .ok (.iload_n 3, 1) := by decide +kernel
theorem dX3_hands_56 : decode cX3_hands 56 = .ok (.iadd, 1) := by decide +kernel
theorem dX3_hands_57 : decode cX3_hands 57 = .ok (.istore 5, 2) := by decide +kernel
theorem dX3_hands_59 : decode cX3_hands 59 = .ok (.aload_n 0, 1) := by decide +kernel
theorem dX3_hands_60 : decode cX3_hands 60 = .ok (.getfield 7, 3) := by decide +kernel
theorem dX3_hands_63 : decode cX3_hands 63 = .ok (.bipush 87, 2) := by decide +kernel
theorem dX3_hands_65 : decode cX3_hands 65 = .ok (.iload 5, 2) := by decide +kernel
theorem dX3_hands_67 : decode cX3_hands 67 = .ok (.iadd, 1) := by decide +kernel
theorem dX3_hands_68 : decode cX3_hands 68 = .ok (.iaload, 1) := by decide +kernel
theorem dX3_hands_69 : decode cX3_hands 69 = .ok (.iconst (-1), 1) := by decide +kernel
theorem dX3_hands_70 : decode cX3_hands 70 = .ok (.if_icmp .ne 33, 3) := by decide +kernel
theorem dX3_hands_73 : decode cX3_hands 73 = .ok (.aload_n 0, 1) := by decide +kernel
theorem dX3_hands_74 : decode cX3_hands 74 = .ok (.getfield 7, 3) := by decide +kernel
theorem dX3_hands_77 : decode cX3_hands 77 = .ok (.bipush 111, 2) := by decide +kernel
theorem dX3_hands_79 : decode cX3_hands 79 = .ok (.aload_n 0, 1) := by decide +kernel
theorem dX3_hands_80 : decode cX3_hands 80 = .ok (.getfield 7, 3) := by decide +kernel
theorem dX3_hands_83 : decode cX3_hands 83 = .ok (.sipush 135, 3) := by decide +kernel
theorem dX3_hands_86 : decode cX3_hands 86 = .ok (.iaload, 1) := by decide +kernel
theorem dX3_hands_87 : decode cX3_hands 87 = .ok (.iadd, 1) := by decide +kernel
theorem dX3_hands_88 : decode cX3_hands 88 = .ok (.iload 5, 2) := by decide +kernel
theorem dX3_hands_90 : decode cX3_hands 90 = .ok (.iastore, 1) := by decide +kernel
theorem dX3_hands_91 : decode cX3_hands 91 = .ok (.aload_n 0, 1) := by decide +kernel
theorem dX3_hands_92 : decode cX3_hands 92 = .ok (.getfield 7, 3) := by decide +kernel
theorem dX3_hands_95 : decode cX3_hands 95 = .ok (.sipush 135, 3) := by decide +kernel
theorem dX3_hands_98 : decode cX3_hands 98 = .ok (.dup2, 1) := by decide +kernel
theorem dX3_hands_99 : decode cX3_hands 99 = .ok (.iaload, 1) := by decide +kernel
theorem dX3_hands_100 : decode cX3_hands 100 = .ok (.iconst 1, 1) := by decide +kernel
theorem dX3_hands_101 : decode cX3_hands 101 = .ok (.iadd, 1) := by decide +kernel
theorem dX3_hands_102 : decode cX3_hands 102 = .ok (.iastore, 1) := by decide +kernel
theorem dX3_hands_103 : decode cX3_hands 103 = .ok (.aload_n 0, 1) := by decide +kernel
theorem dX3_hands_104 : decode cX3_hands 104 = .ok (.getfield 7, 3) := by decide +kernel
theorem dX3_hands_107 : decode cX3_hands 107 = .ok (.bipush 87, 2) := by decide +kernel
theorem dX3_hands_109 : decode cX3_hands 109 = .ok (.iload 5, 2) := by decide +kernel
theorem dX3_hands_111 : decode cX3_hands 111 = .ok (.iadd, 1) := by decide +kernel
theorem dX3_hands_112 : decode cX3_hands 112 = .ok (.iload 4, 2) := by decide +kernel
theorem dX3_hands_114 : decode cX3_hands 114 = .ok (.iastore, 1) := by decide +kernel
theorem dX3_hands_115 : decode cX3_hands 115 = .ok (.aload_n 0, 1) := by decide +kernel
theorem dX3_hands_116 : decode cX3_hands 116 = .ok (.getfield 7, 3) := by decide +kernel
theorem dX3_hands_119 : decode cX3_hands 119 = .ok (.iload_n 1, 1) := by decide +kernel
theorem dX3_hands_120 : decode cX3_hands 120 = .ok (.iconst 2, 1) := by decide +kernel
theorem dX3_hands_121 : decode cX3_hands 121 = .ok (.invokestatic 29, 3) := by decide +kernel
theorem dX3_hands_124 : decode cX3_hands 124 = .ok (.iload 4, 2) := by decide +kernel
theorem dX3_hands_126 : decode cX3_hands 126 = .ok (.iastore, 1) := by decide +kernel
theorem dX3_hands_127 : decode cX3_hands 127 = .ok (.aload_n 0, 1) := by decide +kernel
theorem dX3_hands_128 : decode cX3_hands 128 = .ok (.getfield 7, 3) := by decide +kernel
theorem dX3_hands_131 : decode cX3_hands 131 = .ok (.iload_n 1, 1) := by decide +kernel
theorem dX3_hands_132 : decode cX3_hands 132 = .ok (.iconst 4, 1) := by decide +kernel
theorem dX3_hands_133 : decode cX3_hands 133 = .ok (.invokestatic 29, 3) := by decide +kernel
theorem dX3_hands_136 : decode cX3_hands 136 = .ok (.dup2, 1) := by decide +kernel
theorem dX3_hands_137 : decode cX3_hands 137 = .ok (.iaload, 1) := by decide +kernel
theorem dX3_hands_138 : decode cX3_hands 138 = .ok (.iconst 1, 1) := by decide +kernel
theorem dX3_hands_139 : decode cX3_hands 139 = .ok (.iadd, 1) := by decide +kernel
theorem dX3_hands_140 : decode cX3_hands 140 = .ok (.iastore, 1) := by decide +kernel
theorem dX3_hands_141 : decode cX3_hands 141 = .ok (.aload_n 0, 1) := by decide +kernel
theorem dX3_hands_142 : decode cX3_hands 142 = .ok (.getfield 7, 3) := by decide +kernel
theorem dX3_hands_145 : decode cX3_hands 145 = .ok (.iload_n 1, 1) := by decide +kernel
theorem dX3_hands_146 : decode cX3_hands 146 = .ok (.iconst 0, 1) := by decide +kernel
theorem dX3_hands_147 : decode cX3_hands 147 = .ok (.invokestatic 29, 3) := by decide +kernel
theorem dX3_hands_150 : decode cX3_hands 150 = .ok (.iload_n 3, 1) := by decide +kernel
theorem dX3_hands_151 : decode cX3_hands 151 = .ok (.iload_n 2, 1) := by decide +kernel
theorem dX3_hands_152 : decode cX3_hands 152 = .ok (.iadd, 1) := by decide +kernel
theorem dX3_hands_153 : decode cX3_hands 153 = .ok (.bipush 8, 2) := by decide +kernel
theorem dX3_hands_155 : decode cX3_hands 155 = .ok (.iadd, 1) := by decide +kernel
theorem dX3_hands_156 : decode cX3_hands 156 = .ok (.bipush 8, 2) := by decide +kernel
theorem dX3_hands_158 : decode cX3_hands 158 = .ok (.irem, 1) := by decide +kernel
theorem dX3_hands_159 : decode cX3_hands 159 = .ok (.iastore, 1) := by decide +kernel
theorem dX3_hands_160 : decode cX3_hands 160 = .ok (.aload_n 0, 1) := by decide +kernel
theorem dX3_hands_161 : decode cX3_hands 161 = .ok (.iload_n 1, 1) := by decide +kernel
theorem dX3_hands_162 : decode cX3_hands 162 = .ok (.invokevirtual 43, 3) := by decide +kernel
theorem dX3_hands_165 : decode cX3_hands 165 = .ok (.ireturn, 1) := by decide +kernel
set_option maxRecDepth 20000 in
theorem ggX3_goesRound_X3_with : GoodIn wsX3_goesRound wsX3_with := goodIn_r _ [6, 1, 7, 8, 5, 9, 52, 53, 54, 55, 56, 57, 58, 59, 60, 61, 62, 63, 64, 65, 66] (by decide +kernel) (by decide +kernel)
set_option maxRecDepth 20000 in
theorem gX3_goesRound_X3_with : GoodIn wsX3_goesRound (wsV RX3 43 RX3 yX3_with wsX3_with) := goodIn_app (goodIn_of _ (by decide +kernel)) ggX3_goesRound_X3_with
set_option maxRecDepth 20000 in
theorem ggX3_goesRound_X3_hindrance : GoodIn wsX3_goesRound wsX3_hindrance := goodIn_r _ [13, 1, 7, 8, 5, 9, 2, 3, 4, 6, 14, 15, 16, 17, 18, 19, 20, 52, 53, 54, 55, 56, 57, 58, 59, 60, 61, 62, 63, 64, 65, 66] (by decide +kernel) (by decide +kernel)
set_option maxRecDepth 20000 in
theorem gX3_goesRound_X3_hindrance : GoodIn wsX3_goesRound (wsV RX3 68 RX3 yX3_hindrance wsX3_hindrance) := goodIn_app (goodIn_of _ (by decide +kernel)) ggX3_goesRound_X3_hindrance
set_option maxRecDepth 20000 in
theorem ggX3_goesRound_X3_of : GoodIn wsX3_goesRound wsX3_of := goodIn_r _ [20] (by decide +kernel) (by decide +kernel)
set_option maxRecDepth 20000 in
theorem gX3_goesRound_X3_of : GoodIn wsX3_goesRound (va_wsS RX3 25 yX3_of wsX3_of) := goodIn_app (goodIn_of _ (by decide +kernel)) ggX3_goesRound_X3_of
set_option maxRecDepth 20000 in
theorem ggX3_goesRound_X3_pours : GoodIn wsX3_goesRound wsX3_pours := goodIn_r _ [24, 1, 2, 3, 4, 5, 6, 7, 8, 9, 25, 26, 27, 28, 29, 30, 31, 32, 18, 19, 20, 33, 34, 35, 36, 14, 15, 16, 17, 37, 38, 39, 40, 41, 42, 43, 44, 45, 46, 47, 52, 53, 54, 55, 56, 57, 58, 59, 60, 61, 62, 63, 64, 65, 66] (by decide +kernel) (by decide +kernel)
set_option maxRecDepth 20000 in
theorem gX3_goesRound_X3_pours : GoodIn wsX3_goesRound (wsV RX3 71 RX3 yX3_pours wsX3_pours) := goodIn_app (goodIn_of _ (by decide +kernel)) ggX3_goesRound_X3_pours
set_option maxRecDepth 20000 in
theorem ggX3_goesRound_X3_hands : GoodIn wsX3_goesRound wsX3_hands := goodIn_r _ [51, 1, 2, 3, 4, 5, 6, 7, 8, 9, 29, 30, 31, 32, 18, 19, 20, 33, 34, 35, 36, 52, 53, 54, 55, 56, 57, 58, 59, 60, 61, 62, 63, 64, 65, 66] (by decide +kernel) (by decide +kernel)
set_option maxRecDepth 20000 in
theorem gX3_goesRound_X3_hands : GoodIn wsX3_goesRound (wsV RX3 74 RX3 yX3_hands wsX3_hands) := goodIn_app (goodIn_of _ (by decide +kernel)) ggX3_goesRound_X3_hands
theorem dX3_goesRound_0 : decode cX3_goesRound 0 = .ok (.iconst 0, 1) := by decide +kernel
theorem dX3_goesRound_1 : decode cX3_goesRound 1 = .ok (.istore_n 2, 1) := by decide +kernel
theorem dX3_goesRound_2 : decode cX3_goesRound 2 = .ok (.iconst 0, 1) := by decide +kernel
theorem dX3_goesRound_3 : decode cX3_goesRound 3 = .ok (.istore_n 3, 1) := by decide +kernel
theorem dX3_goesRound_4 : decode cX3_goesRound 4 = .ok (.iload_n 3, 1) := by decide +kernel
theorem dX3_goesRound_5 : decode cX3_goesRound 5 = .ok (.bipush 8, 2) := by decide +kernel
theorem dX3_goesRound_7 : decode cX3_goesRound 7 = .ok (.if_icmp .ge 69, 3) := by decide +kernel
theorem dX3_goesRound_10 : decode cX3_goesRound 10 = .ok (.aload_n 0, 1) := by decide +kernel
theorem dX3_goesRound_11 : decode cX3_goesRound 11 = .ok (.iload_n 1, 1) := by decide +kernel
theorem dX3_goesRound_12 : decode cX3_goesRound 12 = .ok (.invokevirtual 43, 3) := by decide +kernel
theorem dX3_goesRound_15 : decode cX3_goesRound 15 = .ok (.istore 4, 2) := by decide +kernel
theorem dX3_goesRound_17 : decode cX3_goesRound 17 = .ok (.aload_n 0, 1) := by decide +kernel
theorem dX3_goesRound_18 : decode cX3_goesRound 18 = .ok (.iload_n 1, 1) := by decide +kernel
theorem dX3_goesRound_19 : decode cX3_goesRound 19 = .ok (.invokevirtual 68, 3) := by decide +kernel
theorem dX3_goesRound_22 : decode cX3_goesRound 22 = .ok (.ifCond .ne 40, 3) := by decide +kernel
theorem dX3_goesRound_25 : decode cX3_goesRound 25 = .ok (.iconst 2, 1) := by decide +kernel
theorem dX3_goesRound_26 : decode cX3_goesRound 26 = .ok (.aload_n 0, 1) := by decide +kernel
theorem dX3_goesRound_27 : decode cX3_goesRound 27 = .ok (.getfield 7, 3) := by decide +kernel
theorem dX3_goesRound_30 : decode cX3_goesRound 30 = .ok (.iload 4, 2) := by decide +kernel
theorem dX3_goesRound_32 : decode cX3_goesRound 32 = .ok (.iconst 1, 1) := by decide +kernel
theorem dX3_goesRound_33 : decode cX3_goesRound 33 = .ok (.invokestatic 25, 3) := by decide +kernel
theorem dX3_goesRound_36 : decode cX3_goesRound 36 = .ok (.iaload, 1) := by decide +kernel
theorem dX3_goesRound_37 : decode cX3_goesRound 37 = .ok (.imul, 1) := by decide +kernel
theorem dX3_goesRound_38 : decode cX3_goesRound 38 = .ok (.aload_n 0, 1) := by decide +kernel
theorem dX3_goesRound_39 : decode cX3_goesRound 39 = .ok (.getfield 7, 3) := by decide +kernel
theorem dX3_goesRound_42 : decode cX3_goesRound 42 = .ok (.iload 4, 2) := by decide +kernel
theorem dX3_goesRound_44 : decode cX3_goesRound 44 = .ok (.iconst 0, 1) := by decide +kernel
theorem dX3_goesRound_45 : decode cX3_goesRound 45 = .ok (.invokestatic 25, 3) := by decide +kernel
theorem dX3_goesRound_48 : decode cX3_goesRound 48 = .ok (.iaload, 1) := by decide +kernel
theorem dX3_goesRound_49 : decode cX3_goesRound 49 = .ok (.if_icmp .ge 13, 3) := by decide +kernel
theorem dX3_goesRound_52 : decode cX3_goesRound 52 = .ok (.aload_n 0, 1) := by decide +kernel
theorem dX3_goesRound_53 : decode cX3_goesRound 53 = .ok (.iload_n 1, 1) := by decide +kernel
theorem dX3_goesRound_54 : decode cX3_goesRound 54 = .ok (.invokevirtual 71, 3) := by decide +kernel
theorem dX3_goesRound_57 : decode cX3_goesRound 57 = .ok (.istore 5, 2) := by decide +kernel
theorem dX3_goesRound_59 : decode cX3_goesRound 59 = .ok (.iinc 2 1, 3) := by decide +kernel
theorem dX3_goesRound_62 : decode cX3_goesRound 62 = .ok (.aload_n 0, 1) := by decide +kernel
theorem dX3_goesRound_63 : decode cX3_goesRound 63 = .ok (.iload_n 1, 1) := by decide +kernel
theorem dX3_goesRound_64 : decode cX3_goesRound 64 = .ok (.iconst 1, 1) := by decide +kernel
theorem dX3_goesRound_65 : decode cX3_goesRound 65 = .ok (.invokevirtual 74, 3) := by decide +kernel
theorem dX3_goesRound_68 : decode cX3_goesRound 68 = .ok (.istore 4, 2) := by decide +kernel
theorem dX3_goesRound_70 : decode cX3_goesRound 70 = .ok (.iinc 3 1, 3) := by decide +kernel
theorem dX3_goesRound_73 : decode cX3_goesRound 73 = .ok (.goto (-69), 3) := by decide +kernel
theorem dX3_goesRound_76 : decode cX3_goesRound 76 = .ok (.iload_n 2, 1) := by decide +kernel
theorem dX3_goesRound_77 : decode cX3_goesRound 77 = .ok (.ireturn, 1) := by decide +kernel
set_option maxRecDepth 20000 in
theorem ggX3_sips_X3_of : GoodIn wsX3_sips wsX3_of := goodIn_r _ [5] (by decide +kernel) (by decide +kernel)
set_option maxRecDepth 20000 in
theorem gX3_sips_X3_of : GoodIn wsX3_sips (va_wsS RX3 25 yX3_of wsX3_of) := goodIn_app (goodIn_of _ (by decide +kernel)) ggX3_sips_X3_of
theorem dX3_sips_0 : decode cX3_sips 0 = .ok (.aload_n 0, 1) := by decide +kernel
theorem dX3_sips_1 : decode cX3_sips 1 = .ok (.getfield 7, 3) := by decide +kernel
theorem dX3_sips_4 : decode cX3_sips 4 = .ok (.iload_n 1, 1) := by decide +kernel
theorem dX3_sips_5 : decode cX3_sips 5 = .ok (.iconst 1, 1) := by decide +kernel
theorem dX3_sips_6 : decode cX3_sips 6 = .ok (.invokestatic 25, 3) := by decide +kernel
theorem dX3_sips_9 : decode cX3_sips 9 = .ok (.iaload, 1) := by decide +kernel
theorem dX3_sips_10 : decode cX3_sips 10 = .ok (.aload_n 0, 1) := by decide +kernel
theorem dX3_sips_11 : decode cX3_sips 11 = .ok (.getfield 7, 3) := by decide +kernel
theorem dX3_sips_14 : decode cX3_sips 14 = .ok (.iload_n 1, 1) := by decide +kernel
theorem dX3_sips_15 : decode cX3_sips 15 = .ok (.iconst 2, 1) := by decide +kernel
theorem dX3_sips_16 : decode cX3_sips 16 = .ok (.invokestatic 25, 3) := by decide +kernel
theorem dX3_sips_19 : decode cX3_sips 19 = .ok (.iaload, 1) := by decide +kernel
theorem dX3_sips_20 : decode cX3_sips 20 = .ok (.if_icmp .ge 16, 3) := by decide +kernel
theorem dX3_sips_23 : decode cX3_sips 23 = .ok (.aload_n 0, 1) := by decide +kernel
theorem dX3_sips_24 : decode cX3_sips 24 = .ok (.getfield 7, 3) := by decide +kernel
theorem dX3_sips_27 : decode cX3_sips 27 = .ok (.iload_n 1, 1) := by decide +kernel
theorem dX3_sips_28 : decode cX3_sips 28 = .ok (.iconst 1, 1) := by decide +kernel
theorem dX3_sips_29 : decode cX3_sips 29 = .ok (.invokestatic 25, 3) := by decide +kernel
theorem dX3_sips_32 : decode cX3_sips 32 = .ok (.iaload, 1) := by decide +kernel
theorem dX3_sips_33 : decode cX3_sips 33 = .ok (.goto 13, 3) := by decide +kernel
theorem dX3_sips_36 : decode cX3_sips 36 = .ok (.aload_n 0, 1) := by decide +kernel
theorem dX3_sips_37 : decode cX3_sips 37 = .ok (.getfield 7, 3) := by decide +kernel
theorem dX3_sips_40 : decode cX3_sips 40 = .ok (.iload_n 1, 1) := by decide +kernel
theorem dX3_sips_41 : decode cX3_sips 41 = .ok (.iconst 2, 1) := by decide +kernel
theorem dX3_sips_42 : decode cX3_sips 42 = .ok (.invokestatic 25, 3) := by decide +kernel
theorem dX3_sips_45 : decode cX3_sips 45 = .ok (.iaload, 1) := by decide +kernel
theorem dX3_sips_46 : decode cX3_sips 46 = .ok (.istore_n 2, 1) := by decide +kernel
theorem dX3_sips_47 : decode cX3_sips 47 = .ok (.aload_n 0, 1) := by decide +kernel
theorem dX3_sips_48 : decode cX3_sips 48 = .ok (.getfield 7, 3) := by decide +kernel
theorem dX3_sips_51 : decode cX3_sips 51 = .ok (.iload_n 1, 1) := by decide +kernel
theorem dX3_sips_52 : decode cX3_sips 52 = .ok (.iconst 1, 1) := by decide +kernel
theorem dX3_sips_53 : decode cX3_sips 53 = .ok (.invokestatic 25, 3) := by decide +kernel
theorem dX3_sips_56 : decode cX3_sips 56 = .ok (.dup2, 1) := by decide +kernel
theorem dX3_sips_57 : decode cX3_sips 57 = .ok (.iaload, 1) := by decide +kernel
theorem dX3_sips_58 : decode cX3_sips 58 = .ok (.iload_n 2, 1) := by decide +kernel
theorem dX3_sips_59 : decode cX3_sips 59 = .ok (.isub, 1) := by decide +kernel
theorem dX3_sips_60 : decode cX3_sips 60 = .ok (.iastore, 1) := by decide +kernel
theorem dX3_sips_61 : decode cX3_sips 61 = .ok (.aload_n 0, 1) := by decide +kernel
theorem dX3_sips_62 : decode cX3_sips 62 = .ok (.getfield 7, 3) := by decide +kernel
theorem dX3_sips_65 : decode cX3_sips 65 = .ok (.iload_n 1, 1) := by decide +kernel
theorem dX3_sips_66 : decode cX3_sips 66 = .ok (.bipush 6, 2) := by decide +kernel
theorem dX3_sips_68 : decode cX3_sips 68 = .ok (.invokestatic 25, 3) := by decide +kernel
theorem dX3_sips_71 : decode cX3_sips 71 = .ok (.dup2, 1) := by decide +kernel
theorem dX3_sips_72 : decode cX3_sips 72 = .ok (.iaload, 1) := by decide +kernel
theorem dX3_sips_73 : decode cX3_sips 73 = .ok (.iload_n 2, 1) := by decide +kernel
theorem dX3_sips_74 : decode cX3_sips 74 = .ok (.iadd, 1) := by decide +kernel
theorem dX3_sips_75 : decode cX3_sips 75 = .ok (.iastore, 1) := by decide +kernel
theorem dX3_sips_76 : decode cX3_sips 76 = .ok (.iload_n 2, 1) := by decide +kernel
theorem dX3_sips_77 : decode cX3_sips 77 = .ok (.ireturn, 1) := by decide +kernel
set_option maxRecDepth 20000 in
theorem ggX3_brews_X3_ofPot : GoodIn wsX3_brews wsX3_ofPot := goodIn_r _ [5] (by decide +kernel) (by decide +kernel)
set_option maxRecDepth 20000 in
theorem gX3_brews_X3_ofPot : GoodIn wsX3_brews (va_wsS RX3 29 yX3_ofPot wsX3_ofPot) := goodIn_app (goodIn_of _ (by decide +kernel)) ggX3_brews_X3_ofPot
theorem dX3_brews_0 : decode cX3_brews 0 = .ok (.aload_n 0, 1) := by decide +kernel
theorem dX3_brews_1 : decode cX3_brews 1 = .ok (.getfield 7, 3) := by decide +kernel
theorem dX3_brews_4 : decode cX3_brews 4 = .ok (.iload_n 1, 1) := by decide +kernel
theorem dX3_brews_5 : decode cX3_brews 5 = .ok (.iconst 1, 1) := by decide +kernel
theorem dX3_brews_6 : decode cX3_brews 6 = .ok (.invokestatic 29, 3) := by decide +kernel
theorem dX3_brews_9 : decode cX3_brews 9 = .ok (.dup2, 1) := by decide +kernel
theorem dX3_brews_10 : decode cX3_brews 10 = .ok (.iaload, 1) := by decide +kernel
theorem dX3_brews_11 : decode cX3_brews 11 = .ok (.iload_n 2, 1) := by decide +kernel
theorem dX3_brews_12 : decode cX3_brews 12 = .ok (.iadd, 1) := by decide +kernel
theorem dX3_brews_13 : decode cX3_brews 13 = .ok (.iastore, 1) := by decide +kernel
theorem dX3_brews_14 : decode cX3_brews 14 = .ok (.aload_n 0, 1) := by decide +kernel
theorem dX3_brews_15 : decode cX3_brews 15 = .ok (.getfield 7, 3) := by decide +kernel
theorem dX3_brews_18 : decode cX3_brews 18 = .ok (.iload_n 1, 1) := by decide +kernel
theorem dX3_brews_19 : decode cX3_brews 19 = .ok (.iconst 3, 1) := by decide +kernel
theorem dX3_brews_20 : decode cX3_brews 20 = .ok (.invokestatic 29, 3) := by decide +kernel
theorem dX3_brews_23 : decode cX3_brews 23 = .ok (.dup2, 1) := by decide +kernel
theorem dX3_brews_24 : decode cX3_brews 24 = .ok (.iaload, 1) := by decide +kernel
theorem dX3_brews_25 : decode cX3_brews 25 = .ok (.iload_n 2, 1) := by decide +kernel
theorem dX3_brews_26 : decode cX3_brews 26 = .ok (.iadd, 1) := by decide +kernel
theorem dX3_brews_27 : decode cX3_brews 27 = .ok (.iastore, 1) := by decide +kernel
theorem dX3_brews_28 : decode cX3_brews 28 = .ok (.aload_n 0, 1) := by decide +kernel
theorem dX3_brews_29 : decode cX3_brews 29 = .ok (.getfield 7, 3) := by decide +kernel
theorem dX3_brews_32 : decode cX3_brews 32 = .ok (.iload_n 1, 1) := by decide +kernel
theorem dX3_brews_33 : decode cX3_brews 33 = .ok (.iconst 1, 1) := by decide +kernel
theorem dX3_brews_34 : decode cX3_brews 34 = .ok (.invokestatic 29, 3) := by decide +kernel
theorem dX3_brews_37 : decode cX3_brews 37 = .ok (.iaload, 1) := by decide +kernel
theorem dX3_brews_38 : decode cX3_brews 38 = .ok (.ireturn, 1) := by decide +kernel
set_option maxRecDepth 20000 in
theorem ggX3_like_X3_in : GoodIn wsX3_like wsX3_in := goodIn_r _ [5] (by decide +kernel) (by decide +kernel)
set_option maxRecDepth 20000 in
theorem gX3_like_X3_in : GoodIn wsX3_like (va_wsS RX3 36 yX3_in wsX3_in) := goodIn_app (goodIn_of _ (by decide +kernel)) ggX3_like_X3_in
set_option maxRecDepth 20000 in
theorem ggX3_like_X3_isGuest : GoodIn wsX3_like wsX3_isGuest := goodIn_r _ [8, 2, 3, 4, 5] (by decide +kernel) (by decide +kernel)
set_option maxRecDepth 20000 in
theorem gX3_like_X3_isGuest : GoodIn wsX3_like (va_wsS RX3 77 yX3_isGuest wsX3_isGuest) := goodIn_app (goodIn_of _ (by decide +kernel)) ggX3_like_X3_isGuest
set_option maxRecDepth 20000 in
theorem ggX3_like_X3_holds : GoodIn wsX3_like wsX3_holds := goodIn_r _ [12, 13, 23, 24, 25, 26, 27, 28, 29, 30, 31, 32, 33, 34, 35, 36, 37] (by decide +kernel) (by decide +kernel)
set_option maxRecDepth 20000 in
theorem gX3_like_X3_holds : GoodIn wsX3_like (wsV RX3 81 RX3 yX3_holds wsX3_holds) := goodIn_app (goodIn_of _ (by decide +kernel)) ggX3_like_X3_holds
set_option maxRecDepth 20000 in
theorem ggX3_like_X3_save : GoodIn wsX3_like wsX3_save := goodIn_r _ [17, 18, 19, 1, 23, 24, 25, 26, 27, 28, 29, 30, 31, 32, 33, 34, 35, 36, 37] (by decide +kernel) (by decide +kernel)
set_option maxRecDepth 20000 in
theorem gX3_like_X3_save : GoodIn wsX3_like (wsV RX3 84 RX3 yX3_save wsX3_save) := goodIn_app (goodIn_of _ (by decide +kernel)) ggX3_like_X3_save
set_option maxRecDepth 20000 in
theorem ggX3_like_X3_of : GoodIn wsX3_like wsX3_of := goodIn_r _ [22] (by decide +kernel) (by decide +kernel)
set_option maxRecDepth 20000 in
theorem gX3_like_X3_of : GoodIn wsX3_like (va_wsS RX3 25 yX3_of wsX3_of) := goodIn_app (goodIn_of _ (by decide +kernel)) ggX3_like_X3_of
theorem dX3_like_0 : decode cX3_like 0 = .ok (.iload_n 2, 1) := by decide +kernel
theorem dX3_like_1 : decode cX3_like 1 = .ok (.iconst 1, 1) := by decide +kernel
theorem dX3_like_2 : decode cX3_like 2 = .ok (.bipush 20, 2) := by decide +kernel
theorem dX3_like_4 : decode cX3_like 4 = .ok (.invokestatic 36, 3) := by decide +kernel
theorem dX3_like_7 : decode cX3_like 7 = .ok (.ifCond .eq 29, 3) := by decide +kernel
theorem dX3_like_10 : decode cX3_like 10 = .ok (.iload_n 3, 1) := by decide +kernel
theorem dX3_like_11 : decode cX3_like 11 = .ok (.iconst 0, 1) := by decide +kernel
theorem dX3_like_12 : decode cX3_like 12 = .ok (.bipush 10, 2) := by decide +kernel
theorem dX3_like_14 : decode cX3_like 14 = .ok (.invokestatic 36, 3) := by decide +kernel
theorem dX3_like_17 : decode cX3_like 17 = .ok (.ifCond .eq 19, 3) := by decide +kernel
theorem dX3_like_20 : decode cX3_like 20 = .ok (.iload 4, 2) := by decide +kernel
theorem dX3_like_22 : decode cX3_like 22 = .ok (.bipush (-20), 2) := by decide +kernel
theorem dX3_like_24 : decode cX3_like 24 = .ok (.bipush 20, 2) := by decide +kernel
theorem dX3_like_26 : decode cX3_like 26 = .ok (.invokestatic 36, 3) := by decide +kernel
theorem dX3_like_29 : decode cX3_like 29 = .ok (.ifCond .eq 7, 3) := by decide +kernel
theorem dX3_like_32 : decode cX3_like 32 = .ok (.iconst 1, 1) := by decide +kernel
theorem dX3_like_33 : decode cX3_like 33 = .ok (.goto 4, 3) := by decide +kernel
theorem dX3_like_36 : decode cX3_like 36 = .ok (.iconst 0, 1) := by decide +kernel
theorem dX3_like_37 : decode cX3_like 37 = .ok (.istore 5, 2) := by decide +kernel
theorem dX3_like_39 : decode cX3_like 39 = .ok (.aload_n 0, 1) := by decide +kernel
theorem dX3_like_40 : decode cX3_like 40 = .ok (.iload_n 1, 1) := by decide +kernel
theorem dX3_like_41 : decode cX3_like 41 = .ok (.invokestatic 77, 3) := by decide +kernel
theorem dX3_like_44 : decode cX3_like 44 = .ok (.ifCond .ne 7, 3) := by decide +kernel
theorem dX3_like_47 : decode cX3_like 47 = .ok (.iconst 1, 1) := by decide +kernel
theorem dX3_like_48 : decode cX3_like 48 = .ok (.goto 13, 3) := by decide +kernel
theorem dX3_like_51 : decode cX3_like 51 = .ok (.iload 5, 2) := by decide +kernel
theorem dX3_like_53 : decode cX3_like 53 = .ok (.ifCond .eq 7, 3) := by decide +kernel
theorem dX3_like_56 : decode cX3_like 56 = .ok (.iconst 0, 1) := by decide +kernel
theorem dX3_like_57 : decode cX3_like 57 = .ok (.goto 4, 3) := by decide +kernel
theorem dX3_like_60 : decode cX3_like 60 = .ok (.iconst 2, 1) := by decide +kernel
theorem dX3_like_61 : decode cX3_like 61 = .ok (.invokevirtual 81, 3) := by decide +kernel
theorem dX3_like_64 : decode cX3_like 64 = .ok (.ifCond .ne 5, 3) := by decide +kernel
theorem dX3_like_67 : decode cX3_like 67 = .ok (.iconst 0, 1) := by decide +kernel
theorem dX3_like_68 : decode cX3_like 68 = .ok (.ireturn, 1) := by decide +kernel
theorem dX3_like_69 : decode cX3_like 69 = .ok (.aload_n 0, 1) := by decide +kernel
theorem dX3_like_70 : decode cX3_like 70 = .ok (.invokevirtual 84, 3) := by decide +kernel
theorem dX3_like_73 : decode cX3_like 73 = .ok (.aload_n 0, 1) := by decide +kernel
theorem dX3_like_74 : decode cX3_like 74 = .ok (.getfield 7, 3) := by decide +kernel
theorem dX3_like_77 : decode cX3_like 77 = .ok (.iload_n 1, 1) := by decide +kernel
theorem dX3_like_78 : decode cX3_like 78 = .ok (.iconst 2, 1) := by decide +kernel
theorem dX3_like_79 : decode cX3_like 79 = .ok (.invokestatic 25, 3) := by decide +kernel
theorem dX3_like_82 : decode cX3_like 82 = .ok (.iaload, 1) := by decide +kernel
theorem dX3_like_83 : decode cX3_like 83 = .ok (.istore 6, 2) := by decide +kernel
theorem dX3_like_85 : decode cX3_like 85 = .ok (.aload_n 0, 1) := by decide +kernel
theorem dX3_like_86 : decode cX3_like 86 = .ok (.getfield 7, 3) := by decide +kernel
theorem dX3_like_89 : decode cX3_like 89 = .ok (.iload_n 1, 1) := by decide +kernel
theorem dX3_like_90 : decode cX3_like 90 = .ok (.iconst 2, 1) := by decide +kernel
theorem dX3_like_91 : decode cX3_like 91 = .ok (.invokestatic 25, 3) := by decide +kernel
theorem dX3_like_94 : decode cX3_like 94 = .ok (.iload_n 2, 1) := by decide +kernel
theorem dX3_like_95 : decode cX3_like 95 = .ok (.iastore, 1) := by decide +kernel
theorem dX3_like_96 : decode cX3_like 96 = .ok (.aload_n 0, 1) := by decide +kernel
theorem dX3_like_97 : decode cX3_like 97 = .ok (.getfield 7, 3) := by decide +kernel
theorem dX3_like_100 : decode cX3_like 100 = .ok (.iload_n 1, 1) := by decide +kernel
theorem dX3_like_101 : decode cX3_like 101 = .ok (.iconst 3, 1) := by decide +kernel
theorem dX3_like_102 : decode cX3_like 102 = .ok (.invokestatic 25, 3) := by decide +kernel
theorem dX3_like_105 : decode cX3_like 105 = .ok (.iload_n 3, 1) := by decide +kernel
theorem dX3_like_106 : decode cX3_like 106 = .ok (.iastore, 1) := by decide +kernel
theorem dX3_like_107 : decode cX3_like 107 = .ok (.aload_n 0, 1) := by decide +kernel
theorem dX3_like_108 : decode cX3_like 108 = .ok (.getfield 7, 3) := by decide +kernel
theorem dX3_like_111 : decode cX3_like 111 = .ok (.iload_n 1, 1) := by decide +kernel
theorem dX3_like_112 : decode cX3_like 112 = .ok (.iconst 4, 1) := by decide +kernel
theorem dX3_like_113 : decode cX3_like 113 = .ok (.invokestatic 25, 3) := by decide +kernel
theorem dX3_like_116 : decode cX3_like 116 = .ok (.iload 4, 2) := by decide +kernel
theorem dX3_like_118 : decode cX3_like 118 = .ok (.iastore, 1) := by decide +kernel
theorem dX3_like_119 : decode cX3_like 119 = .ok (.iload 6, 2) := by decide +kernel
theorem dX3_like_121 : decode cX3_like 121 = .ok (.ireturn, 1) := by decide +kernel
set_option maxRecDepth 20000 in
theorem ggX3_cup_X3_isGuest : GoodIn wsX3_cup wsX3_isGuest := goodIn_r _ [5, 6, 7, 4, 8] (by decide +kernel) (by decide +kernel)
set_option maxRecDepth 20000 in
theorem gX3_cup_X3_isGuest : GoodIn wsX3_cup (va_wsS RX3 77 yX3_isGuest wsX3_isGuest) := goodIn_app (goodIn_of _ (by decide +kernel)) ggX3_cup_X3_isGuest
set_option maxRecDepth 20000 in
theorem ggX3_cup_X3_in : GoodIn wsX3_cup wsX3_in := goodIn_r _ [8] (by decide +kernel) (by decide +kernel)
set_option maxRecDepth 20000 in
theorem gX3_cup_X3_in : GoodIn wsX3_cup (va_wsS RX3 36 yX3_in wsX3_in) := goodIn_app (goodIn_of _ (by decide +kernel)) ggX3_cup_X3_in
set_option maxRecDepth 20000 in
theorem ggX3_cup_X3_of : GoodIn wsX3_cup wsX3_of := goodIn_r _ [11] (by decide +kernel) (by decide +kernel)
set_option maxRecDepth 20000 in
theorem gX3_cup_X3_of : GoodIn wsX3_cup (va_wsS RX3 25 yX3_of wsX3_of) := goodIn_app (goodIn_of _ (by decide +kernel)) ggX3_cup_X3_of
set_option maxRecDepth 20000 in
theorem ggX3_cup_X3_holds : GoodIn wsX3_cup wsX3_holds := goodIn_r _ [15, 16, 23, 24, 25, 26, 27, 28, 29, 30, 31, 32, 33, 34, 35, 36, 37] (by decide +kernel) (by decide +kernel)
set_option maxRecDepth 20000 in
theorem gX3_cup_X3_holds : GoodIn wsX3_cup (wsV RX3 81 RX3 yX3_holds wsX3_holds) := goodIn_app (goodIn_of _ (by decide +kernel)) ggX3_cup_X3_holds
set_option maxRecDepth 20000 in
theorem ggX3_cup_X3_save : GoodIn wsX3_cup wsX3_save := goodIn_r _ [20, 21, 22, 1, 23, 24, 25, 26, 27, 28, 29, 30, 31, 32, 33, 34, 35, 36, 37] (by decide +kernel) (by decide +kernel)
set_option maxRecDepth 20000 in
theorem gX3_cup_X3_save : GoodIn wsX3_cup (wsV RX3 84 RX3 yX3_save wsX3_save) := goodIn_app (goodIn_of _ (by decide +kernel)) ggX3_cup_X3_save
theorem dX3_cup_0 : decode cX3_cup 0 = .ok (.aload_n 0, 1) := by decide +kernel
theorem dX3_cup_1 : decode cX3_cup 1 = .ok (.iload_n 1, 1) := by decide +kernel
theorem dX3_cup_2 : decode cX3_cup 2 = .ok (.invokestatic 77, 3) := by decide +kernel
theorem dX3_cup_5 : decode cX3_cup 5 = .ok (.ifCond .ne 7, 3) := by decide +kernel
theorem dX3_cup_8 : decode cX3_cup 8 = .ok (.iconst 1, 1) := by decide +kernel
theorem dX3_cup_9 : decode cX3_cup 9 = .ok (.goto 37, 3) := by decide +kernel
theorem dX3_cup_12 : decode cX3_cup 12 = .ok (.iload_n 2, 1) := by decide +kernel
theorem dX3_cup_13 : decode cX3_cup 13 = .ok (.bipush 10, 2) := by decide +kernel
theorem dX3_cup_15 : decode cX3_cup 15 = .ok (.bipush 40, 2) := by decide +kernel
theorem dX3_cup_17 : decode cX3_cup 17 = .ok (.invokestatic 36, 3) := by decide +kernel
theorem dX3_cup_20 : decode cX3_cup 20 = .ok (.ifCond .ne 7, 3) := by decide +kernel
theorem dX3_cup_23 : decode cX3_cup 23 = .ok (.iconst 2, 1) := by decide +kernel
theorem dX3_cup_24 : decode cX3_cup 24 = .ok (.goto 22, 3) := by decide +kernel
theorem dX3_cup_27 : decode cX3_cup 27 = .ok (.aload_n 0, 1) := by decide +kernel
theorem dX3_cup_28 : decode cX3_cup 28 = .ok (.getfield 7, 3) := by decide +kernel
theorem dX3_cup_31 : decode cX3_cup 31 = .ok (.iload_n 1, 1) := by decide +kernel
theorem dX3_cup_32 : decode cX3_cup 32 = .ok (.iconst 1, 1) := by decide +kernel
theorem dX3_cup_33 : decode cX3_cup 33 = .ok (.invokestatic 25, 3) := by decide +kernel
theorem dX3_cup_36 : decode cX3_cup 36 = .ok (.iaload, 1) := by decide +kernel
theorem dX3_cup_37 : decode cX3_cup 37 = .ok (.iload_n 2, 1) := by decide +kernel
theorem dX3_cup_38 : decode cX3_cup 38 = .ok (.if_icmp .le 7, 3) := by decide +kernel
theorem dX3_cup_41 : decode cX3_cup 41 = .ok (.iconst 3, 1) := by decide +kernel
theorem dX3_cup_42 : decode cX3_cup 42 = .ok (.goto 4, 3) := by decide +kernel
theorem dX3_cup_45 : decode cX3_cup 45 = .ok (.iconst 0, 1) := by decide +kernel
theorem dX3_cup_46 : decode cX3_cup 46 = .ok (.invokevirtual 81, 3) := by decide +kernel
theorem dX3_cup_49 : decode cX3_cup 49 = .ok (.ifCond .ne 5, 3) := by decide +kernel
theorem dX3_cup_52 : decode cX3_cup 52 = .ok (.iconst 0, 1) := by decide +kernel
theorem dX3_cup_53 : decode cX3_cup 53 = .ok (.ireturn, 1) := by decide +kernel
theorem dX3_cup_54 : decode cX3_cup 54 = .ok (.aload_n 0, 1) := by decide +kernel
theorem dX3_cup_55 : decode cX3_cup 55 = .ok (.invokevirtual 84, 3) := by decide +kernel
theorem dX3_cup_58 : decode cX3_cup 58 = .ok (.aload_n 0, 1) := by decide +kernel
theorem dX3_cup_59 : decode cX3_cup 59 = .ok (.getfield 7, 3) := by decide +kernel
theorem dX3_cup_62 : decode cX3_cup 62 = .ok (.iload_n 1, 1) := by decide +kernel
theorem dX3_cup_63 : decode cX3_cup 63 = .ok (.iconst 0, 1) := by decide +kernel
theorem dX3_cup_64 : decode cX3_cup 64 = .ok (.invokestatic 25, 3) := by decide +kernel
theorem dX3_cup_67 : decode cX3_cup 67 = .ok (.iaload, 1) := by decide +kernel
theorem dX3_cup_68 : decode cX3_cup 68 = .ok (.istore_n 3, 1) := by decide +kernel
theorem dX3_cup_69 : decode cX3_cup 69 = .ok (.aload_n 0, 1) := by decide +kernel
theorem dX3_cup_70 : decode cX3_cup 70 = .ok (.getfield 7, 3) := by decide +kernel
theorem dX3_cup_73 : decode cX3_cup 73 = .ok (.iload_n 1, 1) := by decide +kernel
theorem dX3_cup_74 : decode cX3_cup 74 = .ok (.iconst 0, 1) := by decide +kernel
theorem dX3_cup_75 : decode cX3_cup 75 = .ok (.invokestatic 25, 3) := by decide +kernel
theorem dX3_cup_78 : decode cX3_cup 78 = .ok (.iload_n 2, 1) := by decide +kernel
theorem dX3_cup_79 : decode cX3_cup 79 = .ok (.iastore, 1) := by decide +kernel
theorem dX3_cup_80 : decode cX3_cup 80 = .ok (.iload_n 3, 1) := by decide +kernel
theorem dX3_cup_81 : decode cX3_cup 81 = .ok (.ireturn, 1) := by decide +kernel
set_option maxRecDepth 20000 in
theorem ggX3_sip_X3_isGuest : GoodIn wsX3_sip wsX3_isGuest := goodIn_r _ [4, 5, 6, 3, 7] (by decide +kernel) (by decide +kernel)
set_option maxRecDepth 20000 in
theorem gX3_sip_X3_isGuest : GoodIn wsX3_sip (va_wsS RX3 77 yX3_isGuest wsX3_isGuest) := goodIn_app (goodIn_of _ (by decide +kernel)) ggX3_sip_X3_isGuest
set_option maxRecDepth 20000 in
theorem ggX3_sip_X3_holds : GoodIn wsX3_sip wsX3_holds := goodIn_r _ [11, 12, 27, 28, 29, 30, 31, 32, 33, 34, 35, 36, 37, 38, 39, 40, 41] (by decide +kernel) (by decide +kernel)
set_option maxRecDepth 20000 in
theorem gX3_sip_X3_holds : GoodIn wsX3_sip (wsV RX3 81 RX3 yX3_holds wsX3_holds) := goodIn_app (goodIn_of _ (by decide +kernel)) ggX3_sip_X3_holds
set_option maxRecDepth 20000 in
theorem ggX3_sip_X3_save : GoodIn wsX3_sip wsX3_save := goodIn_r _ [16, 17, 18, 19, 27, 28, 29, 30, 31, 32, 33, 34, 35, 36, 37, 38, 39, 40, 41] (by decide +kernel) (by decide +kernel)
set_option maxRecDepth 20000 in
theorem gX3_sip_X3_save : GoodIn wsX3_sip (wsV RX3 84 RX3 yX3_save wsX3_save) := goodIn_app (goodIn_of _ (by decide +kernel)) ggX3_sip_X3_save
set_option maxRecDepth 20000 in
theorem ggX3_sip_X3_sips : GoodIn wsX3_sip wsX3_sips := goodIn_r _ [23, 19, 24, 25, 3, 26, 27, 28, 29, 30, 31, 32, 33, 34, 35, 36, 37, 38, 39, 40, 41] (by decide +kernel) (by decide +kernel)
set_option maxRecDepth 20000 in
theorem gX3_sip_X3_sips : GoodIn wsX3_sip (wsV RX3 87 RX3 yX3_sips wsX3_sips) := goodIn_app (goodIn_of _ (by decide +kernel)) ggX3_sip_X3_sips
theorem dX3_sip_0 : decode cX3_sip 0 = .ok (.aload_n 0, 1) := by decide +kernel
theorem dX3_sip_1 : decode cX3_sip 1 = .ok (.iload_n 1, 1) := by decide +kernel
theorem dX3_sip_2 : decode cX3_sip 2 = .ok (.invokestatic 77, 3) := by decide +kernel
theorem dX3_sip_5 : decode cX3_sip 5 = .ok (.ifCond .eq 7, 3) := by decide +kernel
theorem dX3_sip_8 : decode cX3_sip 8 = .ok (.iconst 0, 1) := by decide +kernel
theorem dX3_sip_9 : decode cX3_sip 9 = .ok (.goto 4, 3) := by decide +kernel
theorem dX3_sip_12 : decode cX3_sip 12 = .ok (.iconst 1, 1) := by decide +kernel
theorem dX3_sip_13 : decode cX3_sip 13 = .ok (.invokevirtual 81, 3) := by decide +kernel
theorem dX3_sip_16 : decode cX3_sip 16 = .ok (.ifCond .ne 5, 3) := by decide +kernel
theorem dX3_sip_19 : decode cX3_sip 19 = .ok (.iconst 0, 1) := by decide +kernel
theorem dX3_sip_20 : decode cX3_sip 20 = .ok (.ireturn, 1) := by decide +kernel
theorem dX3_sip_21 : decode cX3_sip 21 = .ok (.aload_n 0, 1) := by decide +kernel
theorem dX3_sip_22 : decode cX3_sip 22 = .ok (.invokevirtual 84, 3) := by decide +kernel
theorem dX3_sip_25 : decode cX3_sip 25 = .ok (.aload_n 0, 1) := by decide +kernel
theorem dX3_sip_26 : decode cX3_sip 26 = .ok (.iload_n 1, 1) := by decide +kernel
theorem dX3_sip_27 : decode cX3_sip 27 = .ok (.invokevirtual 87, 3) := by decide +kernel
theorem dX3_sip_30 : decode cX3_sip 30 = .ok (.ireturn, 1) := by decide +kernel
set_option maxRecDepth 20000 in
theorem ggX3_brew_X3_isPot : GoodIn wsX3_brew wsX3_isPot := goodIn_r _ [5, 6, 7, 4, 8] (by decide +kernel) (by decide +kernel)
set_option maxRecDepth 20000 in
theorem gX3_brew_X3_isPot : GoodIn wsX3_brew (va_wsS RX3 90 yX3_isPot wsX3_isPot) := goodIn_app (goodIn_of _ (by decide +kernel)) ggX3_brew_X3_isPot
set_option maxRecDepth 20000 in
theorem ggX3_brew_X3_in : GoodIn wsX3_brew wsX3_in := goodIn_r _ [8] (by decide +kernel) (by decide +kernel)
set_option maxRecDepth 20000 in
theorem gX3_brew_X3_in : GoodIn wsX3_brew (va_wsS RX3 36 yX3_in wsX3_in) := goodIn_app (goodIn_of _ (by decide +kernel)) ggX3_brew_X3_in
set_option maxRecDepth 20000 in
theorem ggX3_brew_X3_ofPot : GoodIn wsX3_brew wsX3_ofPot := goodIn_r _ [11] (by decide +kernel) (by decide +kernel)
set_option maxRecDepth 20000 in
theorem gX3_brew_X3_ofPot : GoodIn wsX3_brew (va_wsS RX3 29 yX3_ofPot wsX3_ofPot) := goodIn_app (goodIn_of _ (by decide +kernel)) ggX3_brew_X3_ofPot
set_option maxRecDepth 20000 in
theorem ggX3_brew_X3_holds : GoodIn wsX3_brew wsX3_holds := goodIn_r _ [15, 16, 27, 28, 29, 30, 31, 32, 33, 34, 35, 36, 37, 38, 39, 40, 41] (by decide +kernel) (by decide +kernel)
set_option maxRecDepth 20000 in
theorem gX3_brew_X3_holds : GoodIn wsX3_brew (wsV RX3 81 RX3 yX3_holds wsX3_holds) := goodIn_app (goodIn_of _ (by decide +kernel)) ggX3_brew_X3_holds
set_option maxRecDepth 20000 in
theorem ggX3_brew_X3_save : GoodIn wsX3_brew wsX3_save := goodIn_r _ [20, 21, 22, 1, 27, 28, 29, 30, 31, 32, 33, 34, 35, 36, 37, 38, 39, 40, 41] (by decide +kernel) (by decide +kernel)
set_option maxRecDepth 20000 in
theorem gX3_brew_X3_save : GoodIn wsX3_brew (wsV RX3 84 RX3 yX3_save wsX3_save) := goodIn_app (goodIn_of _ (by decide +kernel)) ggX3_brew_X3_save
set_option maxRecDepth 20000 in
theorem ggX3_brew_X3_brews : GoodIn wsX3_brew wsX3_brews := goodIn_r _ [26, 1, 9, 10, 4, 11, 27, 28, 29, 30, 31, 32, 33, 34, 35, 36, 37, 38, 39, 40, 41] (by decide +kernel) (by decide +kernel)
set_option maxRecDepth 20000 in
theorem gX3_brew_X3_brews : GoodIn wsX3_brew (wsV RX3 93 RX3 yX3_brews wsX3_brews) := goodIn_app (goodIn_of _ (by decide +kernel)) ggX3_brew_X3_brews
theorem dX3_brew_0 : decode cX3_brew 0 = .ok (.aload_n 0, 1) := by decide +kernel
theorem dX3_brew_1 : decode cX3_brew 1 = .ok (.iload_n 1, 1) := by decide +kernel
theorem dX3_brew_2 : decode cX3_brew 2 = .ok (.invokestatic 90, 3) := by decide +kernel
theorem dX3_brew_5 : decode cX3_brew 5 = .ok (.ifCond .ne 7, 3) := by decide +kernel
theorem dX3_brew_8 : decode cX3_brew 8 = .ok (.iconst 1, 1) := by decide +kernel
theorem dX3_brew_9 : decode cX3_brew 9 = .ok (.goto 41, 3) := by decide +kernel
theorem dX3_brew_12 : decode cX3_brew 12 = .ok (.iload_n 2, 1) := by decide +kernel
theorem dX3_brew_13 : decode cX3_brew 13 = .ok (.iconst 1, 1) := by decide +kernel
theorem dX3_brew_14 : decode cX3_brew 14 = .ok (.sipush 200, 3) := by decide +kernel
theorem dX3_brew_17 : decode cX3_brew 17 = .ok (.invokestatic 36, 3) := by decide +kernel
theorem dX3_brew_20 : decode cX3_brew 20 = .ok (.ifCond .ne 7, 3) := by decide +kernel
theorem dX3_brew_23 : decode cX3_brew 23 = .ok (.iconst 2, 1) := by decide +kernel
theorem dX3_brew_24 : decode cX3_brew 24 = .ok (.goto 26, 3) := by decide +kernel
theorem dX3_brew_27 : decode cX3_brew 27 = .ok (.aload_n 0, 1) := by decide +kernel
theorem dX3_brew_28 : decode cX3_brew 28 = .ok (.getfield 7, 3) := by decide +kernel
theorem dX3_brew_31 : decode cX3_brew 31 = .ok (.iload_n 1, 1) := by decide +kernel
theorem dX3_brew_32 : decode cX3_brew 32 = .ok (.iconst 1, 1) := by decide +kernel
theorem dX3_brew_33 : decode cX3_brew 33 = .ok (.invokestatic 29, 3) := by decide +kernel
theorem dX3_brew_36 : decode cX3_brew 36 = .ok (.iaload, 1) := by decide +kernel
theorem dX3_brew_37 : decode cX3_brew 37 = .ok (.iload_n 2, 1) := by decide +kernel
theorem dX3_brew_38 : decode cX3_brew 38 = .ok (.iadd, 1) := by decide +kernel
theorem dX3_brew_39 : decode cX3_brew 39 = .ok (.sipush 200, 3) := by decide +kernel
theorem dX3_brew_42 : decode cX3_brew 42 = .ok (.if_icmp .le 7, 3) := by decide +kernel
theorem dX3_brew_45 : decode cX3_brew 45 = .ok (.iconst 3, 1) := by decide +kernel
theorem dX3_brew_46 : decode cX3_brew 46 = .ok (.goto 4, 3) := by decide +kernel
theorem dX3_brew_49 : decode cX3_brew 49 = .ok (.iconst 0, 1) := by decide +kernel
theorem dX3_brew_50 : decode cX3_brew 50 = .ok (.invokevirtual 81, 3) := by decide +kernel
theorem dX3_brew_53 : decode cX3_brew 53 = .ok (.ifCond .ne 5, 3) := by decide +kernel
theorem dX3_brew_56 : decode cX3_brew 56 = .ok (.iconst 0, 1) := by decide +kernel
theorem dX3_brew_57 : decode cX3_brew 57 = .ok (.ireturn, 1) := by decide +kernel
theorem dX3_brew_58 : decode cX3_brew 58 = .ok (.aload_n 0, 1) := by decide +kernel
theorem dX3_brew_59 : decode cX3_brew 59 = .ok (.invokevirtual 84, 3) := by decide +kernel
theorem dX3_brew_62 : decode cX3_brew 62 = .ok (.aload_n 0, 1) := by decide +kernel
theorem dX3_brew_63 : decode cX3_brew 63 = .ok (.iload_n 1, 1) := by decide +kernel
theorem dX3_brew_64 : decode cX3_brew 64 = .ok (.iload_n 2, 1) := by decide +kernel
theorem dX3_brew_65 : decode cX3_brew 65 = .ok (.invokevirtual 93, 3) := by decide +kernel
theorem dX3_brew_68 : decode cX3_brew 68 = .ok (.ireturn, 1) := by decide +kernel
set_option maxRecDepth 20000 in
theorem ggX3_pour_X3_isPot : GoodIn wsX3_pour wsX3_isPot := goodIn_r _ [4, 5, 6, 3, 7] (by decide +kernel) (by decide +kernel)
set_option maxRecDepth 20000 in
theorem gX3_pour_X3_isPot : GoodIn wsX3_pour (va_wsS RX3 90 yX3_isPot wsX3_isPot) := goodIn_app (goodIn_of _ (by decide +kernel)) ggX3_pour_X3_isPot
set_option maxRecDepth 20000 in
theorem ggX3_pour_X3_hindrance : GoodIn wsX3_pour wsX3_hindrance := goodIn_r _ [11, 12, 13, 14, 3, 15, 16, 17, 18, 19, 20, 21, 22, 23, 24, 25, 26, 65, 66, 67, 68, 69, 70, 71, 72, 73, 74, 75, 76, 77, 78, 79] (by decide +kernel) (by decide +kernel)
set_option maxRecDepth 20000 in
theorem gX3_pour_X3_hindrance : GoodIn wsX3_pour (wsV RX3 68 RX3 yX3_hindrance wsX3_hindrance) := goodIn_app (goodIn_of _ (by decide +kernel)) ggX3_pour_X3_hindrance
set_option maxRecDepth 20000 in
theorem ggX3_pour_X3_holds : GoodIn wsX3_pour wsX3_holds := goodIn_r _ [30, 31, 65, 66, 67, 68, 69, 70, 71, 72, 73, 74, 75, 76, 77, 78, 79] (by decide +kernel) (by decide +kernel)
set_option maxRecDepth 20000 in
theorem gX3_pour_X3_holds : GoodIn wsX3_pour (wsV RX3 81 RX3 yX3_holds wsX3_holds) := goodIn_app (goodIn_of _ (by decide +kernel)) ggX3_pour_X3_holds
set_option maxRecDepth 20000 in
theorem ggX3_pour_X3_save : GoodIn wsX3_pour wsX3_save := goodIn_r _ [35, 36, 37, 12, 65, 66, 67, 68, 69, 70, 71, 72, 73, 74, 75, 76, 77, 78, 79] (by decide +kernel) (by decide +kernel)
set_option maxRecDepth 20000 in
theorem gX3_pour_X3_save : GoodIn wsX3_pour (wsV RX3 84 RX3 yX3_save wsX3_save) := goodIn_app (goodIn_of _ (by decide +kernel)) ggX3_pour_X3_save
set_option maxRecDepth 20000 in
theorem ggX3_pour_X3_pours : GoodIn wsX3_pour wsX3_pours := goodIn_r _ [41, 12, 16, 17, 18, 3, 19, 13, 14, 15, 42, 43, 44, 45, 46, 47, 48, 49, 24, 25, 26, 50, 51, 52, 53, 20, 21, 22, 23, 54, 55, 56, 57, 58, 59, 60, 61, 62, 63, 64, 65, 66, 67, 68, 69, 70, 71, 72, 73, 74, 75, 76, 77, 78, 79] (by decide +kernel) (by decide +kernel)
set_option maxRecDepth 20000 in
theorem gX3_pour_X3_pours : GoodIn wsX3_pour (wsV RX3 71 RX3 yX3_pours wsX3_pours) := goodIn_app (goodIn_of _ (by decide +kernel)) ggX3_pour_X3_pours
theorem dX3_pour_0 : decode cX3_pour 0 = .ok (.aload_n 0, 1) := by decide +kernel
theorem dX3_pour_1 : decode cX3_pour 1 = .ok (.iload_n 1, 1) := by decide +kernel
theorem dX3_pour_2 : decode cX3_pour 2 = .ok (.invokestatic 90, 3) := by decide +kernel
theorem dX3_pour_5 : decode cX3_pour 5 = .ok (.ifCond .ne 7, 3) := by decide +kernel
theorem dX3_pour_8 : decode cX3_pour 8 = .ok (.iconst 1, 1) := by decide +kernel
theorem dX3_pour_9 : decode cX3_pour 9 = .ok (.goto 16, 3) := by decide +kernel
theorem dX3_pour_12 : decode cX3_pour 12 = .ok (.aload_n 0, 1) := by decide +kernel
theorem dX3_pour_13 : decode cX3_pour 13 = .ok (.iload_n 1, 1) := by decide +kernel
theorem dX3_pour_14 : decode cX3_pour 14 = .ok (.invokevirtual 68, 3) := by decide +kernel
theorem dX3_pour_17 : decode cX3_pour 17 = .ok (.ifCond .le 7, 3) := by decide +kernel
theorem dX3_pour_20 : decode cX3_pour 20 = .ok (.iconst 2, 1) := by decide +kernel
theorem dX3_pour_21 : decode cX3_pour 21 = .ok (.goto 4, 3) := by decide +kernel
theorem dX3_pour_24 : decode cX3_pour 24 = .ok (.iconst 0, 1) := by decide +kernel
theorem dX3_pour_25 : decode cX3_pour 25 = .ok (.invokevirtual 81, 3) := by decide +kernel
theorem dX3_pour_28 : decode cX3_pour 28 = .ok (.ifCond .ne 5, 3) := by decide +kernel
theorem dX3_pour_31 : decode cX3_pour 31 = .ok (.iconst 0, 1) := by decide +kernel
theorem dX3_pour_32 : decode cX3_pour 32 = .ok (.ireturn, 1) := by decide +kernel
theorem dX3_pour_33 : decode cX3_pour 33 = .ok (.aload_n 0, 1) := by decide +kernel
theorem dX3_pour_34 : decode cX3_pour 34 = .ok (.invokevirtual 84, 3) := by decide +kernel
theorem dX3_pour_37 : decode cX3_pour 37 = .ok (.aload_n 0, 1) := by decide +kernel
theorem dX3_pour_38 : decode cX3_pour 38 = .ok (.iload_n 1, 1) := by decide +kernel
theorem dX3_pour_39 : decode cX3_pour 39 = .ok (.invokevirtual 71, 3) := by decide +kernel
theorem dX3_pour_42 : decode cX3_pour 42 = .ok (.ireturn, 1) := by decide +kernel
set_option maxRecDepth 20000 in
theorem ggX3_hand_X3_isPot : GoodIn wsX3_hand wsX3_isPot := goodIn_r _ [4, 5, 6, 3, 7] (by decide +kernel) (by decide +kernel)
set_option maxRecDepth 20000 in
theorem gX3_hand_X3_isPot : GoodIn wsX3_hand (va_wsS RX3 90 yX3_isPot wsX3_isPot) := goodIn_app (goodIn_of _ (by decide +kernel)) ggX3_hand_X3_isPot
set_option maxRecDepth 20000 in
theorem ggX3_hand_X3_in : GoodIn wsX3_hand wsX3_in := goodIn_r _ [7] (by decide +kernel) (by decide +kernel)
set_option maxRecDepth 20000 in
theorem gX3_hand_X3_in : GoodIn wsX3_hand (va_wsS RX3 36 yX3_in wsX3_in) := goodIn_app (goodIn_of _ (by decide +kernel)) ggX3_hand_X3_in
set_option maxRecDepth 20000 in
theorem ggX3_hand_X3_holds : GoodIn wsX3_hand wsX3_holds := goodIn_r _ [11, 12, 42, 43, 44, 45, 46, 47, 48, 49, 50, 51, 52, 53, 54, 55, 56] (by decide +kernel) (by decide +kernel)
set_option maxRecDepth 20000 in
theorem gX3_hand_X3_holds : GoodIn wsX3_hand (wsV RX3 81 RX3 yX3_holds wsX3_holds) := goodIn_app (goodIn_of _ (by decide +kernel)) ggX3_hand_X3_holds
set_option maxRecDepth 20000 in
theorem ggX3_hand_X3_save : GoodIn wsX3_hand wsX3_save := goodIn_r _ [16, 17, 18, 19, 42, 43, 44, 45, 46, 47, 48, 49, 50, 51, 52, 53, 54, 55, 56] (by decide +kernel) (by decide +kernel)
set_option maxRecDepth 20000 in
theorem gX3_hand_X3_save : GoodIn wsX3_hand (wsV RX3 84 RX3 yX3_save wsX3_save) := goodIn_app (goodIn_of _ (by decide +kernel)) ggX3_hand_X3_save
set_option maxRecDepth 20000 in
theorem ggX3_hand_X3_hands : GoodIn wsX3_hand wsX3_hands := goodIn_r _ [23, 19, 24, 25, 26, 3, 27, 28, 29, 30, 31, 32, 33, 34, 35, 36, 37, 38, 39, 40, 41, 42, 43, 44, 45, 46, 47, 48, 49, 50, 51, 52, 53, 54, 55, 56] (by decide +kernel) (by decide +kernel)
set_option maxRecDepth 20000 in
theorem gX3_hand_X3_hands : GoodIn wsX3_hand (wsV RX3 74 RX3 yX3_hands wsX3_hands) := goodIn_app (goodIn_of _ (by decide +kernel)) ggX3_hand_X3_hands
theorem dX3_hand_0 : decode cX3_hand 0 = .ok (.aload_n 0, 1) := by decide +kernel
theorem dX3_hand_1 : decode cX3_hand 1 = .ok (.iload_n 1, 1) := by decide +kernel
theorem dX3_hand_2 : decode cX3_hand 2 = .ok (.invokestatic 90, 3) := by decide +kernel
theorem dX3_hand_5 : decode cX3_hand 5 = .ok (.ifCond .ne 7, 3) := by decide +kernel
theorem dX3_hand_8 : decode cX3_hand 8 = .ok (.iconst 1, 1) := by decide +kernel
theorem dX3_hand_9 : decode cX3_hand 9 = .ok (.goto 17, 3) := by decide +kernel
theorem dX3_hand_12 : decode cX3_hand 12 = .ok (.iload_n 2, 1) := by decide +kernel
theorem dX3_hand_13 : decode cX3_hand 13 = .ok (.iconst 0, 1) := by decide +kernel
theorem dX3_hand_14 : decode cX3_hand 14 = .ok (.iconst 1, 1) := by decide +kernel
theorem dX3_hand_15 : decode cX3_hand 15 = .ok (.invokestatic 36, 3) := by decide +kernel
theorem dX3_hand_18 : decode cX3_hand 18 = .ok (.ifCond .eq 7, 3) := by decide +kernel
theorem dX3_hand_21 : decode cX3_hand 21 = .ok (.iconst 0, 1) := by decide +kernel
theorem dX3_hand_22 : decode cX3_hand 22 = .ok (.goto 4, 3) := by decide +kernel
theorem dX3_hand_25 : decode cX3_hand 25 = .ok (.iconst 2, 1) := by decide +kernel
theorem dX3_hand_26 : decode cX3_hand 26 = .ok (.invokevirtual 81, 3) := by decide +kernel
theorem dX3_hand_29 : decode cX3_hand 29 = .ok (.ifCond .ne 5, 3) := by decide +kernel
theorem dX3_hand_32 : decode cX3_hand 32 = .ok (.iconst 0, 1) := by decide +kernel
theorem dX3_hand_33 : decode cX3_hand 33 = .ok (.ireturn, 1) := by decide +kernel
theorem dX3_hand_34 : decode cX3_hand 34 = .ok (.aload_n 0, 1) := by decide +kernel
theorem dX3_hand_35 : decode cX3_hand 35 = .ok (.invokevirtual 84, 3) := by decide +kernel
theorem dX3_hand_38 : decode cX3_hand 38 = .ok (.aload_n 0, 1) := by decide +kernel
theorem dX3_hand_39 : decode cX3_hand 39 = .ok (.iload_n 1, 1) := by decide +kernel
theorem dX3_hand_40 : decode cX3_hand 40 = .ok (.iconst 2, 1) := by decide +kernel
theorem dX3_hand_41 : decode cX3_hand 41 = .ok (.iload_n 2, 1) := by decide +kernel
theorem dX3_hand_42 : decode cX3_hand 42 = .ok (.imul, 1) := by decide +kernel
theorem dX3_hand_43 : decode cX3_hand 43 = .ok (.iconst 1, 1) := by decide +kernel
theorem dX3_hand_44 : decode cX3_hand 44 = .ok (.isub, 1) := by decide +kernel
theorem dX3_hand_45 : decode cX3_hand 45 = .ok (.invokevirtual 74, 3) := by decide +kernel
theorem dX3_hand_48 : decode cX3_hand 48 = .ok (.ireturn, 1) := by decide +kernel
set_option maxRecDepth 20000 in
theorem ggX3_round_X3_isPot : GoodIn wsX3_round wsX3_isPot := goodIn_r _ [4, 5, 6, 3, 7] (by decide +kernel) (by decide +kernel)
set_option maxRecDepth 20000 in
theorem gX3_round_X3_isPot : GoodIn wsX3_round (va_wsS RX3 90 yX3_isPot wsX3_isPot) := goodIn_app (goodIn_of _ (by decide +kernel)) ggX3_round_X3_isPot
set_option maxRecDepth 20000 in
theorem ggX3_round_X3_holds : GoodIn wsX3_round wsX3_holds := goodIn_r _ [11, 12, 73, 74, 75, 76, 77, 78, 79, 80, 81, 82, 83, 84, 85, 86, 87] (by decide +kernel) (by decide +kernel)
set_option maxRecDepth 20000 in
theorem gX3_round_X3_holds : GoodIn wsX3_round (wsV RX3 81 RX3 yX3_holds wsX3_holds) := goodIn_app (goodIn_of _ (by decide +kernel)) ggX3_round_X3_holds
set_option maxRecDepth 20000 in
theorem ggX3_round_X3_save : GoodIn wsX3_round wsX3_save := goodIn_r _ [16, 17, 18, 19, 73, 74, 75, 76, 77, 78, 79, 80, 81, 82, 83, 84, 85, 86, 87] (by decide +kernel) (by decide +kernel)
set_option maxRecDepth 20000 in
theorem gX3_round_X3_save : GoodIn wsX3_round (wsV RX3 84 RX3 yX3_save wsX3_save) := goodIn_app (goodIn_of _ (by decide +kernel)) ggX3_round_X3_save
set_option maxRecDepth 20000 in
theorem ggX3_round_X3_goesRound : GoodIn wsX3_round wsX3_goesRound := goodIn_r _ [23, 19, 24, 25, 26, 3, 27, 28, 29, 30, 31, 32, 33, 34, 35, 36, 37, 38, 39, 40, 41, 42, 43, 44, 45, 46, 47, 48, 49, 50, 51, 52, 53, 54, 55, 56, 57, 58, 59, 60, 61, 62, 63, 64, 65, 66, 67, 68, 69, 70, 71, 72, 73, 74, 75, 76, 77, 78, 79, 80, 81, 82, 83, 84, 85, 86, 87] (by decide +kernel) (by decide +kernel)
set_option maxRecDepth 20000 in
theorem gX3_round_X3_goesRound : GoodIn wsX3_round (wsV RX3 96 RX3 yX3_goesRound wsX3_goesRound) := goodIn_app (goodIn_of _ (by decide +kernel)) ggX3_round_X3_goesRound
theorem dX3_round_0 : decode cX3_round 0 = .ok (.aload_n 0, 1) := by decide +kernel
theorem dX3_round_1 : decode cX3_round 1 = .ok (.iload_n 1, 1) := by decide +kernel
theorem dX3_round_2 : decode cX3_round 2 = .ok (.invokestatic 90, 3) := by decide +kernel
theorem dX3_round_5 : decode cX3_round 5 = .ok (.ifCond .eq 7, 3) := by decide +kernel
theorem dX3_round_8 : decode cX3_round 8 = .ok (.iconst 0, 1) := by decide +kernel
theorem dX3_round_9 : decode cX3_round 9 = .ok (.goto 4, 3) := by decide +kernel
theorem dX3_round_12 : decode cX3_round 12 = .ok (.iconst 1, 1) := by decide +kernel
theorem dX3_round_13 : decode cX3_round 13 = .ok (.invokevirtual 81, 3) := by decide +kernel
theorem dX3_round_16 : decode cX3_round 16 = .ok (.ifCond .ne 5, 3) := by decide +kernel
theorem dX3_round_19 : decode cX3_round 19 = .ok (.iconst 0, 1) := by decide +kernel
theorem dX3_round_20 : decode cX3_round 20 = .ok (.ireturn, 1) := by decide +kernel
theorem dX3_round_21 : decode cX3_round 21 = .ok (.aload_n 0, 1) := by decide +kernel
theorem dX3_round_22 : decode cX3_round 22 = .ok (.invokevirtual 84, 3) := by decide +kernel
theorem dX3_round_25 : decode cX3_round 25 = .ok (.aload_n 0, 1) := by decide +kernel
theorem dX3_round_26 : decode cX3_round 26 = .ok (.iload_n 1, 1) := by decide +kernel
theorem dX3_round_27 : decode cX3_round 27 = .ok (.invokevirtual 96, 3) := by decide +kernel
theorem dX3_round_30 : decode cX3_round 30 = .ok (.ireturn, 1) := by decide +kernel
set_option maxRecDepth 20000 in
theorem ggX3_append_X3_in : GoodIn wsX3_append wsX3_in := goodIn_r _ [6] (by decide +kernel) (by decide +kernel)
set_option maxRecDepth 20000 in
theorem gX3_append_X3_in : GoodIn wsX3_append (va_wsS RX3 36 yX3_in wsX3_in) := goodIn_app (goodIn_of _ (by decide +kernel)) ggX3_append_X3_in
set_option maxRecDepth 20000 in
theorem ggX3_append_X3_holds : GoodIn wsX3_append wsX3_holds := goodIn_r _ [10, 11, 12, 13, 14, 15, 16, 17, 18, 19, 20, 21, 22, 23, 24, 25, 26] (by decide +kernel) (by decide +kernel)
set_option maxRecDepth 20000 in
theorem gX3_append_X3_holds : GoodIn wsX3_append (wsV RX3 81 RX3 yX3_holds wsX3_holds) := goodIn_app (goodIn_of _ (by decide +kernel)) ggX3_append_X3_holds
theorem dX3_append_0 : decode cX3_append 0 = .ok (.aload_n 0, 1) := by decide +kernel
theorem dX3_append_1 : decode cX3_append 1 = .ok (.iload_n 1, 1) := by decide +kernel
theorem dX3_append_2 : decode cX3_append 2 = .ok (.bipush 33, 2) := by decide +kernel
theorem dX3_append_4 : decode cX3_append 4 = .ok (.bipush 126, 2) := by decide +kernel
theorem dX3_append_6 : decode cX3_append 6 = .ok (.invokestatic 36, 3) := by decide +kernel
theorem dX3_append_9 : decode cX3_append 9 = .ok (.ifCond .ne 7, 3) := by decide +kernel
theorem dX3_append_12 : decode cX3_append 12 = .ok (.iconst 1, 1) := by decide +kernel
theorem dX3_append_13 : decode cX3_append 13 = .ok (.goto 17, 3) := by decide +kernel
theorem dX3_append_16 : decode cX3_append 16 = .ok (.aload_n 0, 1) := by decide +kernel
theorem dX3_append_17 : decode cX3_append 17 = .ok (.getfield 99, 3) := by decide +kernel
theorem dX3_append_20 : decode cX3_append 20 = .ok (.bipush 60, 2) := by decide +kernel
theorem dX3_append_22 : decode cX3_append 22 = .ok (.if_icmp .ne 7, 3) := by decide +kernel
theorem dX3_append_25 : decode cX3_append 25 = .ok (.iconst 2, 1) := by decide +kernel
theorem dX3_append_26 : decode cX3_append 26 = .ok (.goto 4, 3) := by decide +kernel
theorem dX3_append_29 : decode cX3_append 29 = .ok (.iconst 0, 1) := by decide +kernel
theorem dX3_append_30 : decode cX3_append 30 = .ok (.invokevirtual 81, 3) := by decide +kernel
theorem dX3_append_33 : decode cX3_append 33 = .ok (.ifCond .ne 5, 3) := by decide +kernel
theorem dX3_append_36 : decode cX3_append 36 = .ok (.iconst 0, 1) := by decide +kernel
theorem dX3_append_37 : decode cX3_append 37 = .ok (.ireturn, 1) := by decide +kernel
theorem dX3_append_38 : decode cX3_append 38 = .ok (.aload_n 0, 1) := by decide +kernel
theorem dX3_append_39 : decode cX3_append 39 = .ok (.getfield 22, 3) := by decide +kernel
theorem dX3_append_42 : decode cX3_append 42 = .ok (.aload_n 0, 1) := by decide +kernel
theorem dX3_append_43 : decode cX3_append 43 = .ok (.getfield 99, 3) := by decide +kernel
theorem dX3_append_46 : decode cX3_append 46 = .ok (.iload_n 1, 1) := by decide +kernel
theorem dX3_append_47 : decode cX3_append 47 = .ok (.iastore, 1) := by decide +kernel
theorem dX3_append_48 : decode cX3_append 48 = .ok (.aload_n 0, 1) := by decide +kernel
theorem dX3_append_49 : decode cX3_append 49 = .ok (.dup, 1) := by decide +kernel
theorem dX3_append_50 : decode cX3_append 50 = .ok (.getfield 99, 3) := by decide +kernel
theorem dX3_append_53 : decode cX3_append 53 = .ok (.iconst 1, 1) := by decide +kernel
theorem dX3_append_54 : decode cX3_append 54 = .ok (.iadd, 1) := by decide +kernel
theorem dX3_append_55 : decode cX3_append 55 = .ok (.putfield 99, 3) := by decide +kernel
theorem dX3_append_58 : decode cX3_append 58 = .ok (.aload_n 0, 1) := by decide +kernel
theorem dX3_append_59 : decode cX3_append 59 = .ok (.getfield 99, 3) := by decide +kernel
theorem dX3_append_62 : decode cX3_append 62 = .ok (.ireturn, 1) := by decide +kernel
theorem dX3_clearBuffer_0 : decode cX3_clearBuffer 0 = .ok (.aload_n 0, 1) := by decide +kernel
theorem dX3_clearBuffer_1 : decode cX3_clearBuffer 1 = .ok (.iconst 0, 1) := by decide +kernel
theorem dX3_clearBuffer_2 : decode cX3_clearBuffer 2 = .ok (.putfield 32, 3) := by decide +kernel
theorem dX3_clearBuffer_5 : decode cX3_clearBuffer 5 = .ok (.aload_n 0, 1) := by decide +kernel
theorem dX3_clearBuffer_6 : decode cX3_clearBuffer 6 = .ok (.getfield 99, 3) := by decide +kernel
theorem dX3_clearBuffer_9 : decode cX3_clearBuffer 9 = .ok (.istore_n 1, 1) := by decide +kernel
theorem dX3_clearBuffer_10 : decode cX3_clearBuffer 10 = .ok (.aload_n 0, 1) := by decide +kernel
theorem dX3_clearBuffer_11 : decode cX3_clearBuffer 11 = .ok (.iconst 0, 1) := by decide +kernel
theorem dX3_clearBuffer_12 : decode cX3_clearBuffer 12 = .ok (.putfield 99, 3) := by decide +kernel
theorem dX3_clearBuffer_15 : decode cX3_clearBuffer 15 = .ok (.iload_n 1, 1) := by decide +kernel
theorem dX3_clearBuffer_16 : decode cX3_clearBuffer 16 = .ok (.ireturn, 1) := by decide +kernel
set_option maxRecDepth 20000 in
theorem ggX3_isNext_X3_in : GoodIn wsX3_isNext wsX3_in := goodIn_r _ [8] (by decide +kernel) (by decide +kernel)
set_option maxRecDepth 20000 in
theorem gX3_isNext_X3_in : GoodIn wsX3_isNext (va_wsS RX3 36 yX3_in wsX3_in) := goodIn_app (goodIn_of _ (by decide +kernel)) ggX3_isNext_X3_in
theorem dX3_isNext_0 : decode cX3_isNext 0 = .ok (.aload_n 0, 1) := by decide +kernel
theorem dX3_isNext_1 : decode cX3_isNext 1 = .ok (.getfield 102, 3) := by decide +kernel
theorem dX3_isNext_4 : decode cX3_isNext 4 = .ok (.ifCond .ne 35, 3) := by decide +kernel
theorem dX3_isNext_7 : decode cX3_isNext 7 = .ok (.aload_n 0, 1) := by decide +kernel
theorem dX3_isNext_8 : decode cX3_isNext 8 = .ok (.getfield 106, 3) := by decide +kernel
theorem dX3_isNext_11 : decode cX3_isNext 11 = .ok (.aload_n 0, 1) := by decide +kernel
theorem dX3_isNext_12 : decode cX3_isNext 12 = .ok (.getfield 99, 3) := by decide +kernel
theorem dX3_isNext_15 : decode cX3_isNext 15 = .ok (.if_icmp .ge 24, 3) := by decide +kernel
theorem dX3_isNext_18 : decode cX3_isNext 18 = .ok (.aload_n 0, 1) := by decide +kernel
theorem dX3_isNext_19 : decode cX3_isNext 19 = .ok (.getfield 22, 3) := by decide +kernel
theorem dX3_isNext_22 : decode cX3_isNext 22 = .ok (.aload_n 0, 1) := by decide +kernel
theorem dX3_isNext_23 : decode cX3_isNext 23 = .ok (.getfield 106, 3) := by decide +kernel
theorem dX3_isNext_26 : decode cX3_isNext 26 = .ok (.iaload, 1) := by decide +kernel
theorem dX3_isNext_27 : decode cX3_isNext 27 = .ok (.iload_n 1, 1) := by decide +kernel
theorem dX3_isNext_28 : decode cX3_isNext 28 = .ok (.iload_n 2, 1) := by decide +kernel
theorem dX3_isNext_29 : decode cX3_isNext 29 = .ok (.invokestatic 36, 3) := by decide +kernel
theorem dX3_isNext_32 : decode cX3_isNext 32 = .ok (.ifCond .eq 7, 3) := by decide +kernel
theorem dX3_isNext_35 : decode cX3_isNext 35 = .ok (.iconst 1, 1) := by decide +kernel
theorem dX3_isNext_36 : decode cX3_isNext 36 = .ok (.goto 4, 3) := by decide +kernel
theorem dX3_isNext_39 : decode cX3_isNext 39 = .ok (.iconst 0, 1) := by decide +kernel
theorem dX3_isNext_40 : decode cX3_isNext 40 = .ok (.ireturn, 1) := by decide +kernel
set_option maxRecDepth 20000 in
theorem ggX3_takes_X3_isNext : GoodIn wsX3_takes wsX3_isNext := goodIn_r _ [8, 3, 2, 9, 1, 10, 11, 7, 12, 13, 14, 15, 16, 17, 18, 19, 20, 21, 22, 23, 24, 25, 26, 27] (by decide +kernel) (by decide +kernel)
set_option maxRecDepth 20000 in
theorem gX3_takes_X3_isNext : GoodIn wsX3_takes (wsV RX3 109 RX3 yX3_isNext wsX3_isNext) := goodIn_app (goodIn_of _ (by decide +kernel)) ggX3_takes_X3_isNext
theorem dX3_takes_0 : decode cX3_takes 0 = .ok (.aload_n 0, 1) := by decide +kernel
theorem dX3_takes_1 : decode cX3_takes 1 = .ok (.iload_n 1, 1) := by decide +kernel
theorem dX3_takes_2 : decode cX3_takes 2 = .ok (.iload_n 2, 1) := by decide +kernel
theorem dX3_takes_3 : decode cX3_takes 3 = .ok (.invokevirtual 109, 3) := by decide +kernel
theorem dX3_takes_6 : decode cX3_takes 6 = .ok (.istore_n 3, 1) := by decide +kernel
theorem dX3_takes_7 : decode cX3_takes 7 = .ok (.iload_n 3, 1) := by decide +kernel
theorem dX3_takes_8 : decode cX3_takes 8 = .ok (.ifCond .eq 17, 3) := by decide +kernel
theorem dX3_takes_11 : decode cX3_takes 11 = .ok (.aload_n 0, 1) := by decide +kernel
theorem dX3_takes_12 : decode cX3_takes 12 = .ok (.getfield 22, 3) := by decide +kernel
theorem dX3_takes_15 : decode cX3_takes 15 = .ok (.aload_n 0, 1) := by decide +kernel
theorem dX3_takes_16 : decode cX3_takes 16 = .ok (.getfield 106, 3) := by decide +kernel
theorem dX3_takes_19 : decode cX3_takes 19 = .ok (.iaload, 1) := by decide +kernel
theorem dX3_takes_20 : decode cX3_takes 20 = .ok (.iload_n 1, 1) := by decide +kernel
theorem dX3_takes_21 : decode cX3_takes 21 = .ok (.isub, 1) := by decide +kernel
theorem dX3_takes_22 : decode cX3_takes 22 = .ok (.goto 4, 3) := by decide +kernel
theorem dX3_takes_25 : decode cX3_takes 25 = .ok (.iconst 0, 1) := by decide +kernel
theorem dX3_takes_26 : decode cX3_takes 26 = .ok (.istore 4, 2) := by decide +kernel
theorem dX3_takes_28 : decode cX3_takes 28 = .ok (.aload_n 0, 1) := by decide +kernel
theorem dX3_takes_29 : decode cX3_takes 29 = .ok (.dup, 1) := by decide +kernel
theorem dX3_takes_30 : decode cX3_takes 30 = .ok (.getfield 106, 3) := by decide +kernel
theorem dX3_takes_33 : decode cX3_takes 33 = .ok (.iload_n 3, 1) := by decide +kernel
theorem dX3_takes_34 : decode cX3_takes 34 = .ok (.ifCond .eq 7, 3) := by decide +kernel
theorem dX3_takes_37 : decode cX3_takes 37 = .ok (.iconst 1, 1) := by decide +kernel
theorem dX3_takes_38 : decode cX3_takes 38 = .ok (.goto 4, 3) := by decide +kernel
theorem dX3_takes_41 : decode cX3_takes 41 = .ok (.iconst 0, 1) := by decide +kernel
theorem dX3_takes_42 : decode cX3_takes 42 = .ok (.iadd, 1) := by decide +kernel
theorem dX3_takes_43 : decode cX3_takes 43 = .ok (.putfield 106, 3) := by decide +kernel
theorem dX3_takes_46 : decode cX3_takes 46 = .ok (.aload_n 0, 1) := by decide +kernel
theorem dX3_takes_47 : decode cX3_takes 47 = .ok (.aload_n 0, 1) := by decide +kernel
theorem dX3_takes_48 : decode cX3_takes 48 = .ok (.getfield 102, 3) := by decide +kernel
theorem dX3_takes_51 : decode cX3_takes 51 = .ok (.ifCond .ne 7, 3) := by decide +kernel
theorem dX3_takes_54 : decode cX3_takes 54 = .ok (.iload_n 3, 1) := by decide +kernel
theorem dX3_takes_55 : decode cX3_takes 55 = .ok (.ifCond .ne 7, 3) := by decide +kernel
theorem dX3_takes_58 : decode cX3_takes 58 = .ok (.iconst 1, 1) := by decide +kernel
theorem dX3_takes_59 : decode cX3_takes 59 = .ok (.goto 4, 3) := by decide +kernel
theorem dX3_takes_62 : decode cX3_takes 62 = .ok (.iconst 0, 1) := by decide +kernel
theorem dX3_takes_63 : decode cX3_takes 63 = .ok (.putfield 102, 3) := by decide +kernel
theorem dX3_takes_66 : decode cX3_takes 66 = .ok (.iload 4, 2) := by decide +kernel
theorem dX3_takes_68 : decode cX3_takes 68 = .ok (.ireturn, 1) := by decide +kernel
set_option maxRecDepth 20000 in
theorem ggX3_readErrand_X3_takes : GoodIn wsX3_readErrand wsX3_takes := goodIn_r _ [12, 3, 1, 5, 13, 14, 15, 11, 16, 2, 17, 18, 19, 20, 21, 22, 23, 24, 25, 26, 27, 28, 29, 30, 31, 32, 33, 34] (by decide +kernel) (by decide +kernel)
set_option maxRecDepth 20000 in
theorem gX3_readErrand_X3_takes : GoodIn wsX3_readErrand (wsV RX3 116 RX3 yX3_takes wsX3_takes) := goodIn_app (goodIn_of _ (by decide +kernel)) ggX3_readErrand_X3_takes
set_option maxRecDepth 20000 in
theorem ggX3_readErrand_X3_isNext : GoodIn wsX3_readErrand wsX3_isNext := goodIn_r _ [16, 5, 1, 2, 3, 17, 18, 11, 19, 20, 21, 22, 23, 24, 25, 26, 27, 28, 29, 30, 31, 32, 33, 34] (by decide +kernel) (by decide +kernel)
set_option maxRecDepth 20000 in
theorem gX3_readErrand_X3_isNext : GoodIn wsX3_readErrand (wsV RX3 109 RX3 yX3_isNext wsX3_isNext) := goodIn_app (goodIn_of _ (by decide +kernel)) ggX3_readErrand_X3_isNext
theorem dX3_readErrand_0 : decode cX3_readErrand 0 = .ok (.aload_n 0, 1) := by decide +kernel
theorem dX3_readErrand_1 : decode cX3_readErrand 1 = .ok (.aload_n 0, 1) := by decide +kernel
theorem dX3_readErrand_2 : decode cX3_readErrand 2 = .ok (.getfield 106, 3) := by decide +kernel
theorem dX3_readErrand_5 : decode cX3_readErrand 5 = .ok (.aload_n 0, 1) := by decide +kernel
theorem dX3_readErrand_6 : decode cX3_readErrand 6 = .ok (.getfield 99, 3) := by decide +kernel
theorem dX3_readErrand_9 : decode cX3_readErrand 9 = .ok (.if_icmp .ge 15, 3) := by decide +kernel
theorem dX3_readErrand_12 : decode cX3_readErrand 12 = .ok (.aload_n 0, 1) := by decide +kernel
theorem dX3_readErrand_13 : decode cX3_readErrand 13 = .ok (.getfield 22, 3) := by decide +kernel
theorem dX3_readErrand_16 : decode cX3_readErrand 16 = .ok (.aload_n 0, 1) := by decide +kernel
theorem dX3_readErrand_17 : decode cX3_readErrand 17 = .ok (.getfield 106, 3) := by decide +kernel
theorem dX3_readErrand_20 : decode cX3_readErrand 20 = .ok (.iaload, 1) := by decide +kernel
theorem dX3_readErrand_21 : decode cX3_readErrand 21 = .ok (.goto 4, 3) := by decide +kernel
theorem dX3_readErrand_24 : decode cX3_readErrand 24 = .ok (.iconst 0, 1) := by decide +kernel
theorem dX3_readErrand_25 : decode cX3_readErrand 25 = .ok (.putfield 113, 3) := by decide +kernel
theorem dX3_readErrand_28 : decode cX3_readErrand 28 = .ok (.aload_n 0, 1) := by decide +kernel
theorem dX3_readErrand_29 : decode cX3_readErrand 29 = .ok (.aload_n 0, 1) := by decide +kernel
theorem dX3_readErrand_30 : decode cX3_readErrand 30 = .ok (.getfield 102, 3) := by decide +kernel
theorem dX3_readErrand_33 : decode cX3_readErrand 33 = .ok (.ifCond .ne 57, 3) := by decide +kernel
theorem dX3_readErrand_36 : decode cX3_readErrand 36 = .ok (.aload_n 0, 1) := by decide +kernel
theorem dX3_readErrand_37 : decode cX3_readErrand 37 = .ok (.getfield 113, 3) := by decide +kernel
theorem dX3_readErrand_40 : decode cX3_readErrand 40 = .ok (.bipush 98, 2) := by decide +kernel
theorem dX3_readErrand_42 : decode cX3_readErrand 42 = .ok (.if_icmp .eq 52, 3) := by decide +kernel
theorem dX3_readErrand_45 : decode cX3_readErrand 45 = .ok (.aload_n 0, 1) := by decide +kernel
theorem dX3_readErrand_46 : decode cX3_readErrand 46 = .ok (.getfield 113, 3) := by decide +kernel
theorem dX3_readErrand_49 : decode cX3_readErrand 49 = .ok (.bipush 112, 2) := by decide +kernel
theorem dX3_readErrand_51 : decode cX3_readErrand 51 = .ok (.if_icmp .eq 43, 3) := by decide +kernel
theorem dX3_readErrand_54 : decode cX3_readErrand 54 = .ok (.aload_n 0, 1) := by decide +kernel
theorem dX3_readErrand_55 : decode cX3_readErrand 55 = .ok (.getfield 113, 3) := by decide +kernel
theorem dX3_readErrand_58 : decode cX3_readErrand 58 = .ok (.bipush 110, 2) := by decide +kernel
theorem dX3_readErrand_60 : decode cX3_readErrand 60 = .ok (.if_icmp .eq 34, 3) := by decide +kernel
theorem dX3_readErrand_63 : decode cX3_readErrand 63 = .ok (.aload_n 0, 1) := by decide +kernel
theorem dX3_readErrand_64 : decode cX3_readErrand 64 = .ok (.getfield 113, 3) := by decide +kernel
theorem dX3_readErrand_67 : decode cX3_readErrand 67 = .ok (.bipush 108, 2) := by decide +kernel
theorem dX3_readErrand_69 : decode cX3_readErrand 69 = .ok (.if_icmp .eq 25, 3) := by decide +kernel
theorem dX3_readErrand_72 : decode cX3_readErrand 72 = .ok (.aload_n 0, 1) := by decide +kernel
theorem dX3_readErrand_73 : decode cX3_readErrand 73 = .ok (.getfield 113, 3) := by decide +kernel
theorem dX3_readErrand_76 : decode cX3_readErrand 76 = .ok (.bipush 114, 2) := by decide +kernel
theorem dX3_readErrand_78 : decode cX3_readErrand 78 = .ok (.if_icmp .eq 16, 3) := by decide +kernel
theorem dX3_readErrand_81 : decode cX3_readErrand 81 = .ok (.aload_n 0, 1) := by decide +kernel
theorem dX3_readErrand_82 : decode cX3_readErrand 82 = .ok (.getfield 113, 3) := by decide +kernel
theorem dX3_readErrand_85 : decode cX3_readErrand 85 = .ok (.bipush 115, 2) := by decide +kernel
theorem dX3_readErrand_87 : decode cX3_readErrand 87 = .ok (.if_icmp .eq 7, 3) := by decide +kernel
theorem dX3_readErrand_90 : decode cX3_readErrand 90 = .ok (.iconst 1, 1) := by decide +kernel
theorem dX3_readErrand_91 : decode cX3_readErrand 91 = .ok (.goto 4, 3) := by decide +kernel
theorem dX3_readErrand_94 : decode cX3_readErrand 94 = .ok (.iconst 0, 1) := by decide +kernel
theorem dX3_readErrand_95 : decode cX3_readErrand 95 = .ok (.putfield 102, 3) := by decide +kernel
theorem dX3_readErrand_98 : decode cX3_readErrand 98 = .ok (.aload_n 0, 1) := by decide +kernel
theorem dX3_readErrand_99 : decode cX3_readErrand 99 = .ok (.dup, 1) := by decide +kernel
theorem dX3_readErrand_100 : decode cX3_readErrand 100 = .ok (.getfield 106, 3) := by decide +kernel
theorem dX3_readErrand_103 : decode cX3_readErrand 103 = .ok (.aload_n 0, 1) := by decide +kernel
theorem dX3_readErrand_104 : decode cX3_readErrand 104 = .ok (.getfield 102, 3) := by decide +kernel
theorem dX3_readErrand_107 : decode cX3_readErrand 107 = .ok (.ifCond .eq 7, 3) := by decide +kernel
theorem dX3_readErrand_110 : decode cX3_readErrand 110 = .ok (.iconst 0, 1) := by decide +kernel
theorem dX3_readErrand_111 : decode cX3_readErrand 111 = .ok (.goto 4, 3) := by decide +kernel
theorem dX3_readErrand_114 : decode cX3_readErrand 114 = .ok (.iconst 1, 1) := by decide +kernel
theorem dX3_readErrand_115 : decode cX3_readErrand 115 = .ok (.iadd, 1) := by decide +kernel
theorem dX3_readErrand_116 : decode cX3_readErrand 116 = .ok (.putfield 106, 3) := by decide +kernel
theorem dX3_readErrand_119 : decode cX3_readErrand 119 = .ok (.aload_n 0, 1) := by decide +kernel
theorem dX3_readErrand_120 : decode cX3_readErrand 120 = .ok (.aload_n 0, 1) := by decide +kernel
theorem dX3_readErrand_121 : decode cX3_readErrand 121 = .ok (.bipush 48, 2) := by decide +kernel
theorem dX3_readErrand_123 : decode cX3_readErrand 123 = .ok (.aload_n 0, 1) := by decide +kernel
theorem dX3_readErrand_124 : decode cX3_readErrand 124 = .ok (.getfield 113, 3) := by decide +kernel
theorem dX3_readErrand_127 : decode cX3_readErrand 127 = .ok (.bipush 115, 2) := by decide +kernel
theorem dX3_readErrand_129 : decode cX3_readErrand 129 = .ok (.if_icmp .ne 8, 3) := by decide +kernel
theorem dX3_readErrand_132 : decode cX3_readErrand 132 = .ok (.bipush 55, 2) := by decide +kernel
theorem dX3_readErrand_134 : decode cX3_readErrand 134 = .ok (.goto 5, 3) := by decide +kernel
theorem dX3_readErrand_137 : decode cX3_readErrand 137 = .ok (.bipush 50, 2) := by decide +kernel
theorem dX3_readErrand_139 : decode cX3_readErrand 139 = .ok (.invokevirtual 116, 3) := by decide +kernel
theorem dX3_readErrand_142 : decode cX3_readErrand 142 = .ok (.putfield 119, 3) := by decide +kernel
theorem dX3_readErrand_145 : decode cX3_readErrand 145 = .ok (.aload_n 0, 1) := by decide +kernel
theorem dX3_readErrand_146 : decode cX3_readErrand 146 = .ok (.getfield 113, 3) := by decide +kernel

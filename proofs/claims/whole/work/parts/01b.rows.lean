theorem dX5_weigh_1 : decode cX5_weigh 1 = .ok (.getfield 18, 3) := by decide +kernel
theorem dX5_weigh_4 : decode cX5_weigh 4 = .ok (.iload_n 1, 1) := by decide +kernel
theorem dX5_weigh_5 : decode cX5_weigh 5 = .ok (.iaload, 1) := by decide +kernel
theorem dX5_weigh_6 : decode cX5_weigh 6 = .ok (.istore 4, 2) := by decide +kernel
theorem dX5_weigh_8 : decode cX5_weigh 8 = .ok (.iload 4, 2) := by decide +kernel
theorem dX5_weigh_10 : decode cX5_weigh 10 = .ok (.sipush 1001, 3) := by decide +kernel
theorem dX5_weigh_13 : decode cX5_weigh 13 = .ok (.if_icmp .ne 4, 3) := by decide +kernel
theorem dX5_weigh_16 : decode cX5_weigh 16 = .ok (.return_, 1) := by decide +kernel
theorem dX5_weigh_17 : decode cX5_weigh 17 = .ok (.iload_n 2, 1) := by decide +kernel
theorem dX5_weigh_18 : decode cX5_weigh 18 = .ok (.iconst (-1), 1) := by decide +kernel
theorem dX5_weigh_19 : decode cX5_weigh 19 = .ok (.if_icmp .ne 24, 3) := by decide +kernel
theorem dX5_weigh_22 : decode cX5_weigh 22 = .ok (.aload_n 0, 1) := by decide +kernel
theorem dX5_weigh_23 : decode cX5_weigh 23 = .ok (.getfield 18, 3) := by decide +kernel
theorem dX5_weigh_26 : decode cX5_weigh 26 = .ok (.iload_n 1, 1) := by decide +kernel
theorem dX5_weigh_27 : decode cX5_weigh 27 = .ok (.iload_n 3, 1) := by decide +kernel
theorem dX5_weigh_28 : decode cX5_weigh 28 = .ok (.ifCond .ne 8, 3) := by decide +kernel
theorem dX5_weigh_31 : decode cX5_weigh 31 = .ok (.iload 4, 2) := by decide +kernel
theorem dX5_weigh_33 : decode cX5_weigh 33 = .ok (.goto 6, 3) := by decide +kernel
theorem dX5_weigh_36 : decode cX5_weigh 36 = .ok (.sipush 1001, 3) := by decide +kernel
theorem dX5_weigh_39 : decode cX5_weigh 39 = .ok (.iastore, 1) := by decide +kernel
theorem dX5_weigh_40 : decode cX5_weigh 40 = .ok (.goto 40, 3) := by decide +kernel
theorem dX5_weigh_43 : decode cX5_weigh 43 = .ok (.iload 4, 2) := by decide +kernel
theorem dX5_weigh_45 : decode cX5_weigh 45 = .ok (.sipush 1000, 3) := by decide +kernel
theorem dX5_weigh_48 : decode cX5_weigh 48 = .ok (.if_icmp .ne 15, 3) := by decide +kernel
theorem dX5_weigh_51 : decode cX5_weigh 51 = .ok (.aload_n 0, 1) := by decide +kernel
theorem dX5_weigh_52 : decode cX5_weigh 52 = .ok (.getfield 18, 3) := by decide +kernel
theorem dX5_weigh_55 : decode cX5_weigh 55 = .ok (.iload_n 1, 1) := by decide +kernel
theorem dX5_weigh_56 : decode cX5_weigh 56 = .ok (.iload_n 3, 1) := by decide +kernel
theorem dX5_weigh_57 : decode cX5_weigh 57 = .ok (.iload_n 2, 1) := by decide +kernel
theorem dX5_weigh_58 : decode cX5_weigh 58 = .ok (.isub, 1) := by decide +kernel
theorem dX5_weigh_59 : decode cX5_weigh 59 = .ok (.iastore, 1) := by decide +kernel
theorem dX5_weigh_60 : decode cX5_weigh 60 = .ok (.goto 20, 3) := by decide +kernel
theorem dX5_weigh_63 : decode cX5_weigh 63 = .ok (.iload 4, 2) := by decide +kernel
theorem dX5_weigh_65 : decode cX5_weigh 65 = .ok (.iload_n 3, 1) := by decide +kernel
theorem dX5_weigh_66 : decode cX5_weigh 66 = .ok (.iload_n 2, 1) := by decide +kernel
theorem dX5_weigh_67 : decode cX5_weigh 67 = .ok (.isub, 1) := by decide +kernel
theorem dX5_weigh_68 : decode cX5_weigh 68 = .ok (.if_icmp .eq 12, 3) := by decide +kernel
theorem dX5_weigh_71 : decode cX5_weigh 71 = .ok (.aload_n 0, 1) := by decide +kernel
theorem dX5_weigh_72 : decode cX5_weigh 72 = .ok (.getfield 18, 3) := by decide +kernel
theorem dX5_weigh_75 : decode cX5_weigh 75 = .ok (.iload_n 1, 1) := by decide +kernel
theorem dX5_weigh_76 : decode cX5_weigh 76 = .ok (.sipush 1001, 3) := by decide +kernel
theorem dX5_weigh_79 : decode cX5_weigh 79 = .ok (.iastore, 1) := by decide +kernel
theorem dX5_weigh_80 : decode cX5_weigh 80 = .ok (.return_, 1) := by decide +kernel
set_option maxRecDepth 20000 in
theorem ggX5_decideRule_X6_decide : GoodIn wsX5_decideRule wsX6_decide := goodIn_r _ [7, 8, 9, 13, 14, 15, 16, 17] (by decide +kernel) (by decide +kernel)
set_option maxRecDepth 20000 in
theorem gX5_decideRule_X6_decide : GoodIn wsX5_decideRule (wsV RX5 87 RX6 yX6_decide wsX6_decide) := goodIn_app (goodIn_of _ (by decide +kernel)) ggX5_decideRule_X6_decide
theorem dX5_decideRule_0 : decode cX5_decideRule 0 = .ok (.iload_n 1, 1) := by decide +kernel
theorem dX5_decideRule_1 : decode cX5_decideRule 1 = .ok (.iconst 2, 1) := by decide +kernel
theorem dX5_decideRule_2 : decode cX5_decideRule 2 = .ok (.imul, 1) := by decide +kernel
theorem dX5_decideRule_3 : decode cX5_decideRule 3 = .ok (.iload_n 2, 1) := by decide +kernel
theorem dX5_decideRule_4 : decode cX5_decideRule 4 = .ok (.iadd, 1) := by decide +kernel
theorem dX5_decideRule_5 : decode cX5_decideRule 5 = .ok (.istore 4, 2) := by decide +kernel
theorem dX5_decideRule_7 : decode cX5_decideRule 7 = .ok (.iload 4, 2) := by decide +kernel
theorem dX5_decideRule_9 : decode cX5_decideRule 9 = .ok (.iconst 5, 1) := by decide +kernel
theorem dX5_decideRule_10 : decode cX5_decideRule 10 = .ok (.imul, 1) := by decide +kernel
theorem dX5_decideRule_11 : decode cX5_decideRule 11 = .ok (.istore 5, 2) := by decide +kernel
theorem dX5_decideRule_13 : decode cX5_decideRule 13 = .ok (.aload_n 0, 1) := by decide +kernel
theorem dX5_decideRule_14 : decode cX5_decideRule 14 = .ok (.getfield 18, 3) := by decide +kernel
theorem dX5_decideRule_17 : decode cX5_decideRule 17 = .ok (.iload 5, 2) := by decide +kernel
theorem dX5_decideRule_19 : decode cX5_decideRule 19 = .ok (.iaload, 1) := by decide +kernel
theorem dX5_decideRule_20 : decode cX5_decideRule 20 = .ok (.sipush 1000, 3) := by decide +kernel
theorem dX5_decideRule_23 : decode cX5_decideRule 23 = .ok (.if_icmp .ne 4, 3) := by decide +kernel
theorem dX5_decideRule_26 : decode cX5_decideRule 26 = .ok (.return_, 1) := by decide +kernel
theorem dX5_decideRule_27 : decode cX5_decideRule 27 = .ok (.iconst 0, 1) := by decide +kernel
theorem dX5_decideRule_28 : decode cX5_decideRule 28 = .ok (.istore 6, 2) := by decide +kernel
theorem dX5_decideRule_30 : decode cX5_decideRule 30 = .ok (.iload 6, 2) := by decide +kernel
theorem dX5_decideRule_32 : decode cX5_decideRule 32 = .ok (.iconst 5, 1) := by decide +kernel
theorem dX5_decideRule_33 : decode cX5_decideRule 33 = .ok (.if_icmp .ge 48, 3) := by decide +kernel
theorem dX5_decideRule_36 : decode cX5_decideRule 36 = .ok (.aload_n 0, 1) := by decide +kernel
theorem dX5_decideRule_37 : decode cX5_decideRule 37 = .ok (.getfield 18, 3) := by decide +kernel
theorem dX5_decideRule_40 : decode cX5_decideRule 40 = .ok (.iload 5, 2) := by decide +kernel
theorem dX5_decideRule_42 : decode cX5_decideRule 42 = .ok (.iload 6, 2) := by decide +kernel
theorem dX5_decideRule_44 : decode cX5_decideRule 44 = .ok (.iadd, 1) := by decide +kernel
theorem dX5_decideRule_45 : decode cX5_decideRule 45 = .ok (.iaload, 1) := by decide +kernel
theorem dX5_decideRule_46 : decode cX5_decideRule 46 = .ok (.istore 7, 2) := by decide +kernel
theorem dX5_decideRule_48 : decode cX5_decideRule 48 = .ok (.iload 7, 2) := by decide +kernel
theorem dX5_decideRule_50 : decode cX5_decideRule 50 = .ok (.sipush 1000, 3) := by decide +kernel
theorem dX5_decideRule_53 : decode cX5_decideRule 53 = .ok (.if_icmp .eq 22, 3) := by decide +kernel
theorem dX5_decideRule_56 : decode cX5_decideRule 56 = .ok (.iload 7, 2) := by decide +kernel
theorem dX5_decideRule_58 : decode cX5_decideRule 58 = .ok (.sipush 1001, 3) := by decide +kernel
theorem dX5_decideRule_61 : decode cX5_decideRule 61 = .ok (.if_icmp .eq 14, 3) := by decide +kernel
theorem dX5_decideRule_64 : decode cX5_decideRule 64 = .ok (.aload_n 3, 1) := by decide +kernel
theorem dX5_decideRule_65 : decode cX5_decideRule 65 = .ok (.iload_n 1, 1) := by decide +kernel
theorem dX5_decideRule_66 : decode cX5_decideRule 66 = .ok (.iload_n 2, 1) := by decide +kernel
theorem dX5_decideRule_67 : decode cX5_decideRule 67 = .ok (.iload 6, 2) := by decide +kernel
theorem dX5_decideRule_69 : decode cX5_decideRule 69 = .ok (.iload 7, 2) := by decide +kernel
theorem dX5_decideRule_71 : decode cX5_decideRule 71 = .ok (.invokevirtual 87, 3) := by decide +kernel
theorem dX5_decideRule_74 : decode cX5_decideRule 74 = .ok (.return_, 1) := by decide +kernel
theorem dX5_decideRule_75 : decode cX5_decideRule 75 = .ok (.iinc 6 1, 3) := by decide +kernel
theorem dX5_decideRule_78 : decode cX5_decideRule 78 = .ok (.goto (-48), 3) := by decide +kernel
theorem dX5_decideRule_81 : decode cX5_decideRule 81 = .ok (.aload_n 3, 1) := by decide +kernel
theorem dX5_decideRule_82 : decode cX5_decideRule 82 = .ok (.iload_n 1, 1) := by decide +kernel
theorem dX5_decideRule_83 : decode cX5_decideRule 83 = .ok (.iload_n 2, 1) := by decide +kernel
theorem dX5_decideRule_84 : decode cX5_decideRule 84 = .ok (.aload_n 0, 1) := by decide +kernel
theorem dX5_decideRule_85 : decode cX5_decideRule 85 = .ok (.getfield 22, 3) := by decide +kernel
theorem dX5_decideRule_88 : decode cX5_decideRule 88 = .ok (.iload 4, 2) := by decide +kernel
theorem dX5_decideRule_90 : decode cX5_decideRule 90 = .ok (.iaload, 1) := by decide +kernel
theorem dX5_decideRule_91 : decode cX5_decideRule 91 = .ok (.sipush 1001, 3) := by decide +kernel
theorem dX5_decideRule_94 : decode cX5_decideRule 94 = .ok (.if_icmp .ne 8, 3) := by decide +kernel
theorem dX5_decideRule_97 : decode cX5_decideRule 97 = .ok (.bipush 6, 2) := by decide +kernel
theorem dX5_decideRule_99 : decode cX5_decideRule 99 = .ok (.goto 4, 3) := by decide +kernel
theorem dX5_decideRule_102 : decode cX5_decideRule 102 = .ok (.iconst 5, 1) := by decide +kernel
theorem dX5_decideRule_103 : decode cX5_decideRule 103 = .ok (.sipush (-1000), 3) := by decide +kernel
theorem dX5_decideRule_106 : decode cX5_decideRule 106 = .ok (.invokevirtual 87, 3) := by decide +kernel
theorem dX5_decideRule_109 : decode cX5_decideRule 109 = .ok (.return_, 1) := by decide +kernel
theorem dX6_init_0 : decode cX6_init 0 = .ok (.aload_n 0, 1) := by decide +kernel
theorem dX6_init_1 : decode cX6_init 1 = .ok (.invokespecial 3, 3) := by decide +kernel
theorem dX6_init_4 : decode cX6_init 4 = .ok (.aload_n 0, 1) := by decide +kernel
theorem dX6_init_5 : decode cX6_init 5 = .ok (.bipush 6, 2) := by decide +kernel
theorem dX6_init_7 : decode cX6_init 7 = .ok (.newarray .int, 2) := by decide +kernel
theorem dX6_init_9 : decode cX6_init 9 = .ok (.putfield 9, 3) := by decide +kernel
theorem dX6_init_12 : decode cX6_init 12 = .ok (.aload_n 0, 1) := by decide +kernel
theorem dX6_init_13 : decode cX6_init 13 = .ok (.bipush 6, 2) := by decide +kernel
theorem dX6_init_15 : decode cX6_init 15 = .ok (.newarray .int, 2) := by decide +kernel
theorem dX6_init_17 : decode cX6_init 17 = .ok (.putfield 15, 3) := by decide +kernel
theorem dX6_init_20 : decode cX6_init 20 = .ok (.aload_n 0, 1) := by decide +kernel
theorem dX6_init_21 : decode cX6_init 21 = .ok (.bipush 96, 2) := by decide +kernel
theorem dX6_init_23 : decode cX6_init 23 = .ok (.newarray .int, 2) := by decide +kernel
theorem dX6_init_25 : decode cX6_init 25 = .ok (.putfield 18, 3) := by decide +kernel
theorem dX6_init_28 : decode cX6_init 28 = .ok (.aload_n 0, 1) := by decide +kernel
theorem dX6_init_29 : decode cX6_init 29 = .ok (.bipush 96, 2) := by decide +kernel
theorem dX6_init_31 : decode cX6_init 31 = .ok (.newarray .int, 2) := by decide +kernel
theorem dX6_init_33 : decode cX6_init 33 = .ok (.putfield 21, 3) := by decide +kernel
theorem dX6_init_36 : decode cX6_init 36 = .ok (.return_, 1) := by decide +kernel
set_option maxRecDepth 20000 in
theorem ggX6_clear_J7_fill_53178 : GoodIn wsX6_clear wsJ7_fill_53178 := goodIn_r _ [7] (by decide +kernel) (by decide +kernel)
set_option maxRecDepth 20000 in
theorem gX6_clear_J7_fill_53178 : GoodIn wsX6_clear (va_wsS RX6 24 yJ7_fill_53178 wsJ7_fill_53178) := goodIn_app (goodIn_of _ (by decide +kernel)) ggX6_clear_J7_fill_53178
theorem dX6_clear_0 : decode cX6_clear 0 = .ok (.aload_n 0, 1) := by decide +kernel
theorem dX6_clear_1 : decode cX6_clear 1 = .ok (.getfield 9, 3) := by decide +kernel
theorem dX6_clear_4 : decode cX6_clear 4 = .ok (.iconst (-1), 1) := by decide +kernel
theorem dX6_clear_5 : decode cX6_clear 5 = .ok (.invokestatic 24, 3) := by decide +kernel
theorem dX6_clear_8 : decode cX6_clear 8 = .ok (.aload_n 0, 1) := by decide +kernel
theorem dX6_clear_9 : decode cX6_clear 9 = .ok (.getfield 15, 3) := by decide +kernel
theorem dX6_clear_12 : decode cX6_clear 12 = .ok (.sipush (-1000), 3) := by decide +kernel
theorem dX6_clear_15 : decode cX6_clear 15 = .ok (.invokestatic 24, 3) := by decide +kernel
theorem dX6_clear_18 : decode cX6_clear 18 = .ok (.aload_n 0, 1) := by decide +kernel
theorem dX6_clear_19 : decode cX6_clear 19 = .ok (.iconst 0, 1) := by decide +kernel
theorem dX6_clear_20 : decode cX6_clear 20 = .ok (.putfield 30, 3) := by decide +kernel
theorem dX6_clear_23 : decode cX6_clear 23 = .ok (.return_, 1) := by decide +kernel
theorem dX6_decide_0 : decode cX6_decide 0 = .ok (.aload_n 0, 1) := by decide +kernel
theorem dX6_decide_1 : decode cX6_decide 1 = .ok (.getfield 9, 3) := by decide +kernel
theorem dX6_decide_4 : decode cX6_decide 4 = .ok (.iload_n 1, 1) := by decide +kernel
theorem dX6_decide_5 : decode cX6_decide 5 = .ok (.iconst 2, 1) := by decide +kernel
theorem dX6_decide_6 : decode cX6_decide 6 = .ok (.imul, 1) := by decide +kernel
theorem dX6_decide_7 : decode cX6_decide 7 = .ok (.iload_n 2, 1) := by decide +kernel
theorem dX6_decide_8 : decode cX6_decide 8 = .ok (.iadd, 1) := by decide +kernel
theorem dX6_decide_9 : decode cX6_decide 9 = .ok (.iload_n 3, 1) := by decide +kernel
theorem dX6_decide_10 : decode cX6_decide 10 = .ok (.iastore, 1) := by decide +kernel
theorem dX6_decide_11 : decode cX6_decide 11 = .ok (.aload_n 0, 1) := by decide +kernel
theorem dX6_decide_12 : decode cX6_decide 12 = .ok (.getfield 15, 3) := by decide +kernel
theorem dX6_decide_15 : decode cX6_decide 15 = .ok (.iload_n 1, 1) := by decide +kernel
theorem dX6_decide_16 : decode cX6_decide 16 = .ok (.iconst 2, 1) := by decide +kernel
theorem dX6_decide_17 : decode cX6_decide 17 = .ok (.imul, 1) := by decide +kernel
theorem dX6_decide_18 : decode cX6_decide 18 = .ok (.iload_n 2, 1) := by decide +kernel
theorem dX6_decide_19 : decode cX6_decide 19 = .ok (.iadd, 1) := by decide +kernel
theorem dX6_decide_20 : decode cX6_decide 20 = .ok (.iload 4, 2) := by decide +kernel
theorem dX6_decide_22 : decode cX6_decide 22 = .ok (.iastore, 1) := by decide +kernel
theorem dX6_decide_23 : decode cX6_decide 23 = .ok (.return_, 1) := by decide +kernel
set_option maxRecDepth 20000 in
theorem ggX6_firstAnswer_X6_find : GoodIn wsX6_firstAnswer wsX6_find := goodIn_r _ [8, 2, 3, 9, 10, 11, 12, 13] (by decide +kernel) (by decide +kernel)
set_option maxRecDepth 20000 in
theorem gX6_firstAnswer_X6_find : GoodIn wsX6_firstAnswer (wsV RX6 34 RX6 yX6_find wsX6_find) := goodIn_app (goodIn_of _ (by decide +kernel)) ggX6_firstAnswer_X6_find
theorem dX6_firstAnswer_0 : decode cX6_firstAnswer 0 = .ok (.aload_n 0, 1) := by decide +kernel
theorem dX6_firstAnswer_1 : decode cX6_firstAnswer 1 = .ok (.iload_n 1, 1) := by decide +kernel
theorem dX6_firstAnswer_2 : decode cX6_firstAnswer 2 = .ok (.iload_n 2, 1) := by decide +kernel
theorem dX6_firstAnswer_3 : decode cX6_firstAnswer 3 = .ok (.invokevirtual 34, 3) := by decide +kernel
theorem dX6_firstAnswer_6 : decode cX6_firstAnswer 6 = .ok (.istore 4, 2) := by decide +kernel
theorem dX6_firstAnswer_8 : decode cX6_firstAnswer 8 = .ok (.iload 4, 2) := by decide +kernel
theorem dX6_firstAnswer_10 : decode cX6_firstAnswer 10 = .ok (.iconst (-1), 1) := by decide +kernel
theorem dX6_firstAnswer_11 : decode cX6_firstAnswer 11 = .ok (.if_icmp .eq 11, 3) := by decide +kernel
theorem dX6_firstAnswer_14 : decode cX6_firstAnswer 14 = .ok (.aload_n 0, 1) := by decide +kernel
theorem dX6_firstAnswer_15 : decode cX6_firstAnswer 15 = .ok (.getfield 21, 3) := by decide +kernel
theorem dX6_firstAnswer_18 : decode cX6_firstAnswer 18 = .ok (.iload 4, 2) := by decide +kernel
theorem dX6_firstAnswer_20 : decode cX6_firstAnswer 20 = .ok (.iaload, 1) := by decide +kernel
theorem dX6_firstAnswer_21 : decode cX6_firstAnswer 21 = .ok (.ireturn, 1) := by decide +kernel
theorem dX6_firstAnswer_22 : decode cX6_firstAnswer 22 = .ok (.aload_n 0, 1) := by decide +kernel
theorem dX6_firstAnswer_23 : decode cX6_firstAnswer 23 = .ok (.getfield 30, 3) := by decide +kernel
theorem dX6_firstAnswer_26 : decode cX6_firstAnswer 26 = .ok (.bipush 96, 2) := by decide +kernel
theorem dX6_firstAnswer_28 : decode cX6_firstAnswer 28 = .ok (.if_icmp .ge 39, 3) := by decide +kernel
theorem dX6_firstAnswer_31 : decode cX6_firstAnswer 31 = .ok (.aload_n 0, 1) := by decide +kernel
theorem dX6_firstAnswer_32 : decode cX6_firstAnswer 32 = .ok (.getfield 18, 3) := by decide +kernel
theorem dX6_firstAnswer_35 : decode cX6_firstAnswer 35 = .ok (.aload_n 0, 1) := by decide +kernel
theorem dX6_firstAnswer_36 : decode cX6_firstAnswer 36 = .ok (.getfield 30, 3) := by decide +kernel
theorem dX6_firstAnswer_39 : decode cX6_firstAnswer 39 = .ok (.iload_n 1, 1) := by decide +kernel
theorem dX6_firstAnswer_40 : decode cX6_firstAnswer 40 = .ok (.sipush 10000, 3) := by decide +kernel
theorem dX6_firstAnswer_43 : decode cX6_firstAnswer 43 = .ok (.imul, 1) := by decide +kernel
theorem dX6_firstAnswer_44 : decode cX6_firstAnswer 44 = .ok (.iload_n 2, 1) := by decide +kernel
theorem dX6_firstAnswer_45 : decode cX6_firstAnswer 45 = .ok (.iadd, 1) := by decide +kernel
theorem dX6_firstAnswer_46 : decode cX6_firstAnswer 46 = .ok (.iastore, 1) := by decide +kernel
theorem dX6_firstAnswer_47 : decode cX6_firstAnswer 47 = .ok (.aload_n 0, 1) := by decide +kernel
theorem dX6_firstAnswer_48 : decode cX6_firstAnswer 48 = .ok (.getfield 21, 3) := by decide +kernel
theorem dX6_firstAnswer_51 : decode cX6_firstAnswer 51 = .ok (.aload_n 0, 1) := by decide +kernel
theorem dX6_firstAnswer_52 : decode cX6_firstAnswer 52 = .ok (.getfield 30, 3) := by decide +kernel
theorem dX6_firstAnswer_55 : decode cX6_firstAnswer 55 = .ok (.iload_n 3, 1) := by decide +kernel
theorem dX6_firstAnswer_56 : decode cX6_firstAnswer 56 = .ok (.iastore, 1) := by decide +kernel
theorem dX6_firstAnswer_57 : decode cX6_firstAnswer 57 = .ok (.aload_n 0, 1) := by decide +kernel
theorem dX6_firstAnswer_58 : decode cX6_firstAnswer 58 = .ok (.dup, 1) := by decide +kernel
theorem dX6_firstAnswer_59 : decode cX6_firstAnswer 59 = .ok (.getfield 30, 3) := by decide +kernel
theorem dX6_firstAnswer_62 : decode cX6_firstAnswer 62 = .ok (.iconst 1, 1) := by decide +kernel
theorem dX6_firstAnswer_63 : decode cX6_firstAnswer 63 = .ok (.iadd, 1) := by decide +kernel
theorem dX6_firstAnswer_64 : decode cX6_firstAnswer 64 = .ok (.putfield 30, 3) := by decide +kernel
theorem dX6_firstAnswer_67 : decode cX6_firstAnswer 67 = .ok (.iload_n 3, 1) := by decide +kernel
theorem dX6_firstAnswer_68 : decode cX6_firstAnswer 68 = .ok (.ireturn, 1) := by decide +kernel
theorem dX6_kindOf_0 : decode cX6_kindOf 0 = .ok (.aload_n 0, 1) := by decide +kernel
theorem dX6_kindOf_1 : decode cX6_kindOf 1 = .ok (.getfield 9, 3) := by decide +kernel
theorem dX6_kindOf_4 : decode cX6_kindOf 4 = .ok (.iload_n 1, 1) := by decide +kernel
theorem dX6_kindOf_5 : decode cX6_kindOf 5 = .ok (.iconst 2, 1) := by decide +kernel
theorem dX6_kindOf_6 : decode cX6_kindOf 6 = .ok (.imul, 1) := by decide +kernel
theorem dX6_kindOf_7 : decode cX6_kindOf 7 = .ok (.iload_n 2, 1) := by decide +kernel
theorem dX6_kindOf_8 : decode cX6_kindOf 8 = .ok (.iadd, 1) := by decide +kernel
theorem dX6_kindOf_9 : decode cX6_kindOf 9 = .ok (.iaload, 1) := by decide +kernel
theorem dX6_kindOf_10 : decode cX6_kindOf 10 = .ok (.ireturn, 1) := by decide +kernel
theorem dX6_offsetOf_0 : decode cX6_offsetOf 0 = .ok (.aload_n 0, 1) := by decide +kernel
theorem dX6_offsetOf_1 : decode cX6_offsetOf 1 = .ok (.getfield 15, 3) := by decide +kernel
theorem dX6_offsetOf_4 : decode cX6_offsetOf 4 = .ok (.iload_n 1, 1) := by decide +kernel
theorem dX6_offsetOf_5 : decode cX6_offsetOf 5 = .ok (.iconst 2, 1) := by decide +kernel
theorem dX6_offsetOf_6 : decode cX6_offsetOf 6 = .ok (.imul, 1) := by decide +kernel
theorem dX6_offsetOf_7 : decode cX6_offsetOf 7 = .ok (.iload_n 2, 1) := by decide +kernel
theorem dX6_offsetOf_8 : decode cX6_offsetOf 8 = .ok (.iadd, 1) := by decide +kernel
theorem dX6_offsetOf_9 : decode cX6_offsetOf 9 = .ok (.iaload, 1) := by decide +kernel
theorem dX6_offsetOf_10 : decode cX6_offsetOf 10 = .ok (.ireturn, 1) := by decide +kernel
theorem dX6_unlikeAsks_0 : decode cX6_unlikeAsks 0 = .ok (.aload_n 0, 1) := by decide +kernel
theorem dX6_unlikeAsks_1 : decode cX6_unlikeAsks 1 = .ok (.getfield 30, 3) := by decide +kernel
theorem dX6_unlikeAsks_4 : decode cX6_unlikeAsks 4 = .ok (.ireturn, 1) := by decide +kernel
set_option maxRecDepth 20000 in
theorem ggX6_lacks_X6_kindOf : GoodIn wsX6_lacks wsX6_kindOf := goodIn_r _ [5, 6, 13, 14, 15, 16, 17] (by decide +kernel) (by decide +kernel)
set_option maxRecDepth 20000 in
theorem gX6_lacks_X6_kindOf : GoodIn wsX6_lacks (wsV RX6 38 RX6 yX6_kindOf wsX6_kindOf) := goodIn_app (goodIn_of _ (by decide +kernel)) ggX6_lacks_X6_kindOf
set_option maxRecDepth 20000 in
theorem ggX6_lacks_X6_find : GoodIn wsX6_lacks wsX6_find := goodIn_r _ [10, 11, 12, 13, 14, 15, 16, 17] (by decide +kernel) (by decide +kernel)
set_option maxRecDepth 20000 in
theorem gX6_lacks_X6_find : GoodIn wsX6_lacks (wsV RX6 34 RX6 yX6_find wsX6_find) := goodIn_app (goodIn_of _ (by decide +kernel)) ggX6_lacks_X6_find
theorem dX6_lacks_0 : decode cX6_lacks 0 = .ok (.aload_n 0, 1) := by decide +kernel
theorem dX6_lacks_1 : decode cX6_lacks 1 = .ok (.iload_n 1, 1) := by decide +kernel
theorem dX6_lacks_2 : decode cX6_lacks 2 = .ok (.iconst 0, 1) := by decide +kernel
theorem dX6_lacks_3 : decode cX6_lacks 3 = .ok (.invokevirtual 38, 3) := by decide +kernel
theorem dX6_lacks_6 : decode cX6_lacks 6 = .ok (.iconst 5, 1) := by decide +kernel
theorem dX6_lacks_7 : decode cX6_lacks 7 = .ok (.if_icmp .eq 13, 3) := by decide +kernel
theorem dX6_lacks_10 : decode cX6_lacks 10 = .ok (.aload_n 0, 1) := by decide +kernel
theorem dX6_lacks_11 : decode cX6_lacks 11 = .ok (.iload_n 1, 1) := by decide +kernel
theorem dX6_lacks_12 : decode cX6_lacks 12 = .ok (.iconst 1, 1) := by decide +kernel
theorem dX6_lacks_13 : decode cX6_lacks 13 = .ok (.invokevirtual 38, 3) := by decide +kernel
theorem dX6_lacks_16 : decode cX6_lacks 16 = .ok (.iconst 5, 1) := by decide +kernel
theorem dX6_lacks_17 : decode cX6_lacks 17 = .ok (.if_icmp .ne 7, 3) := by decide +kernel
theorem dX6_lacks_20 : decode cX6_lacks 20 = .ok (.iconst 1, 1) := by decide +kernel
theorem dX6_lacks_21 : decode cX6_lacks 21 = .ok (.goto 4, 3) := by decide +kernel
theorem dX6_lacks_24 : decode cX6_lacks 24 = .ok (.iconst 0, 1) := by decide +kernel
theorem dX6_lacks_25 : decode cX6_lacks 25 = .ok (.istore_n 3, 1) := by decide +kernel
theorem dX6_lacks_26 : decode cX6_lacks 26 = .ok (.iload_n 3, 1) := by decide +kernel
theorem dX6_lacks_27 : decode cX6_lacks 27 = .ok (.ifCond .eq 17, 3) := by decide +kernel
theorem dX6_lacks_30 : decode cX6_lacks 30 = .ok (.aload_n 0, 1) := by decide +kernel
theorem dX6_lacks_31 : decode cX6_lacks 31 = .ok (.iload_n 1, 1) := by decide +kernel
theorem dX6_lacks_32 : decode cX6_lacks 32 = .ok (.iload_n 2, 1) := by decide +kernel
theorem dX6_lacks_33 : decode cX6_lacks 33 = .ok (.invokevirtual 34, 3) := by decide +kernel
theorem dX6_lacks_36 : decode cX6_lacks 36 = .ok (.iconst (-1), 1) := by decide +kernel
theorem dX6_lacks_37 : decode cX6_lacks 37 = .ok (.if_icmp .ne 7, 3) := by decide +kernel
theorem dX6_lacks_40 : decode cX6_lacks 40 = .ok (.iconst 1, 1) := by decide +kernel
theorem dX6_lacks_41 : decode cX6_lacks 41 = .ok (.goto 4, 3) := by decide +kernel
theorem dX6_lacks_44 : decode cX6_lacks 44 = .ok (.iconst 0, 1) := by decide +kernel
theorem dX6_lacks_45 : decode cX6_lacks 45 = .ok (.ireturn, 1) := by decide +kernel
set_option maxRecDepth 20000 in
theorem ggX6_foretell_X6_kindOf : GoodIn wsX6_foretell wsX6_kindOf := goodIn_r _ [6, 7, 29, 30, 31, 32, 33] (by decide +kernel) (by decide +kernel)
set_option maxRecDepth 20000 in
theorem gX6_foretell_X6_kindOf : GoodIn wsX6_foretell (wsV RX6 38 RX6 yX6_kindOf wsX6_kindOf) := goodIn_app (goodIn_of _ (by decide +kernel)) ggX6_foretell_X6_kindOf
set_option maxRecDepth 20000 in
theorem ggX6_foretell_X6_find : GoodIn wsX6_foretell wsX6_find := goodIn_r _ [11, 12, 13, 29, 30, 31, 32, 33] (by decide +kernel) (by decide +kernel)
set_option maxRecDepth 20000 in
theorem gX6_foretell_X6_find : GoodIn wsX6_foretell (wsV RX6 34 RX6 yX6_find wsX6_find) := goodIn_app (goodIn_of _ (by decide +kernel)) ggX6_foretell_X6_find
set_option maxRecDepth 20000 in
theorem ggX6_foretell_X9_fieldOf : GoodIn wsX6_foretell wsX9_fieldOf := goodIn_r _ [16] (by decide +kernel) (by decide +kernel)
set_option maxRecDepth 20000 in
theorem gX6_foretell_X9_fieldOf_n41 : GoodIn wsX6_foretell (wsX9_fieldOf) := ggX6_foretell_X9_fieldOf
set_option maxRecDepth 20000 in
theorem ggX6_foretell_X3_baseOf : GoodIn wsX6_foretell wsX3_baseOf := goodIn_r _ [21, 22, 23, 34, 35] (by decide +kernel) (by decide +kernel)
set_option maxRecDepth 20000 in
theorem gX6_foretell_X3_baseOf : GoodIn wsX6_foretell (wsV RX6 44 RX3 yX3_baseOf wsX3_baseOf) := goodIn_app (goodIn_of _ (by decide +kernel)) ggX6_foretell_X3_baseOf
set_option maxRecDepth 20000 in
theorem ggX6_foretell_X6_offsetOf : GoodIn wsX6_foretell wsX6_offsetOf := goodIn_r _ [27, 28, 29, 30, 31, 32, 33] (by decide +kernel) (by decide +kernel)
set_option maxRecDepth 20000 in
theorem gX6_foretell_X6_offsetOf : GoodIn wsX6_foretell (wsV RX6 50 RX6 yX6_offsetOf wsX6_offsetOf) := goodIn_app (goodIn_of _ (by decide +kernel)) ggX6_foretell_X6_offsetOf
theorem dX6_foretell_0 : decode cX6_foretell 0 = .ok (.aload_n 0, 1) := by decide +kernel
theorem dX6_foretell_1 : decode cX6_foretell 1 = .ok (.iload_n 1, 1) := by decide +kernel
theorem dX6_foretell_2 : decode cX6_foretell 2 = .ok (.iload_n 2, 1) := by decide +kernel
theorem dX6_foretell_3 : decode cX6_foretell 3 = .ok (.invokevirtual 38, 3) := by decide +kernel
theorem dX6_foretell_6 : decode cX6_foretell 6 = .ok (.istore 5, 2) := by decide +kernel
theorem dX6_foretell_8 : decode cX6_foretell 8 = .ok (.iload 5, 2) := by decide +kernel
theorem dX6_foretell_10 : decode cX6_foretell 10 = .ok (.iconst 5, 1) := by decide +kernel
theorem dX6_foretell_11 : decode cX6_foretell 11 = .ok (.if_icmp .ne 35, 3) := by decide +kernel
theorem dX6_foretell_14 : decode cX6_foretell 14 = .ok (.aload_n 0, 1) := by decide +kernel
theorem dX6_foretell_15 : decode cX6_foretell 15 = .ok (.iload_n 1, 1) := by decide +kernel
theorem dX6_foretell_16 : decode cX6_foretell 16 = .ok (.iload_n 3, 1) := by decide +kernel
theorem dX6_foretell_17 : decode cX6_foretell 17 = .ok (.invokevirtual 34, 3) := by decide +kernel
theorem dX6_foretell_20 : decode cX6_foretell 20 = .ok (.istore 6, 2) := by decide +kernel
theorem dX6_foretell_22 : decode cX6_foretell 22 = .ok (.iload 6, 2) := by decide +kernel
theorem dX6_foretell_24 : decode cX6_foretell 24 = .ok (.iconst (-1), 1) := by decide +kernel
theorem dX6_foretell_25 : decode cX6_foretell 25 = .ok (.if_icmp .ne 9, 3) := by decide +kernel
theorem dX6_foretell_28 : decode cX6_foretell 28 = .ok (.sipush (-1000), 3) := by decide +kernel
theorem dX6_foretell_31 : decode cX6_foretell 31 = .ok (.goto 14, 3) := by decide +kernel
theorem dX6_foretell_34 : decode cX6_foretell 34 = .ok (.aload_n 0, 1) := by decide +kernel
theorem dX6_foretell_35 : decode cX6_foretell 35 = .ok (.getfield 21, 3) := by decide +kernel
theorem dX6_foretell_38 : decode cX6_foretell 38 = .ok (.iload 6, 2) := by decide +kernel
theorem dX6_foretell_40 : decode cX6_foretell 40 = .ok (.iaload, 1) := by decide +kernel
theorem dX6_foretell_41 : decode cX6_foretell 41 = .ok (.iload_n 2, 1) := by decide +kernel
theorem dX6_foretell_42 : decode cX6_foretell 42 = .ok (.invokestatic 41, 3) := by decide +kernel
theorem dX6_foretell_45 : decode cX6_foretell 45 = .ok (.ireturn, 1) := by decide +kernel
theorem dX6_foretell_46 : decode cX6_foretell 46 = .ok (.iload 5, 2) := by decide +kernel
theorem dX6_foretell_48 : decode cX6_foretell 48 = .ok (.iconst (-1), 1) := by decide +kernel
theorem dX6_foretell_49 : decode cX6_foretell 49 = .ok (.if_icmp .eq 10, 3) := by decide +kernel
theorem dX6_foretell_52 : decode cX6_foretell 52 = .ok (.iload 5, 2) := by decide +kernel
theorem dX6_foretell_54 : decode cX6_foretell 54 = .ok (.bipush 6, 2) := by decide +kernel
theorem dX6_foretell_56 : decode cX6_foretell 56 = .ok (.if_icmp .ne 7, 3) := by decide +kernel
theorem dX6_foretell_59 : decode cX6_foretell 59 = .ok (.sipush (-1000), 3) := by decide +kernel
theorem dX6_foretell_62 : decode cX6_foretell 62 = .ok (.ireturn, 1) := by decide +kernel
theorem dX6_foretell_63 : decode cX6_foretell 63 = .ok (.aload 4, 2) := by decide +kernel
theorem dX6_foretell_65 : decode cX6_foretell 65 = .ok (.iload 5, 2) := by decide +kernel
theorem dX6_foretell_67 : decode cX6_foretell 67 = .ok (.iload_n 1, 1) := by decide +kernel
theorem dX6_foretell_68 : decode cX6_foretell 68 = .ok (.iload_n 3, 1) := by decide +kernel
theorem dX6_foretell_69 : decode cX6_foretell 69 = .ok (.invokevirtual 44, 3) := by decide +kernel
theorem dX6_foretell_72 : decode cX6_foretell 72 = .ok (.istore 6, 2) := by decide +kernel
theorem dX6_foretell_74 : decode cX6_foretell 74 = .ok (.iload 6, 2) := by decide +kernel
theorem dX6_foretell_76 : decode cX6_foretell 76 = .ok (.iconst (-1), 1) := by decide +kernel
theorem dX6_foretell_77 : decode cX6_foretell 77 = .ok (.if_icmp .ne 7, 3) := by decide +kernel
theorem dX6_foretell_80 : decode cX6_foretell 80 = .ok (.iconst 0, 1) := by decide +kernel
theorem dX6_foretell_81 : decode cX6_foretell 81 = .ok (.goto 12, 3) := by decide +kernel
theorem dX6_foretell_84 : decode cX6_foretell 84 = .ok (.iload 6, 2) := by decide +kernel
theorem dX6_foretell_86 : decode cX6_foretell 86 = .ok (.aload_n 0, 1) := by decide +kernel
theorem dX6_foretell_87 : decode cX6_foretell 87 = .ok (.iload_n 1, 1) := by decide +kernel
theorem dX6_foretell_88 : decode cX6_foretell 88 = .ok (.iload_n 2, 1) := by decide +kernel
theorem dX6_foretell_89 : decode cX6_foretell 89 = .ok (.invokevirtual 50, 3) := by decide +kernel
theorem dX6_foretell_92 : decode cX6_foretell 92 = .ok (.iadd, 1) := by decide +kernel
theorem dX6_foretell_93 : decode cX6_foretell 93 = .ok (.ireturn, 1) := by decide +kernel
theorem dX6_copy_0 : decode cX6_copy 0 = .ok (.aload_n 1, 1) := by decide +kernel
theorem dX6_copy_1 : decode cX6_copy 1 = .ok (.getfield 9, 3) := by decide +kernel
theorem dX6_copy_4 : decode cX6_copy 4 = .ok (.iconst 0, 1) := by decide +kernel
theorem dX6_copy_5 : decode cX6_copy 5 = .ok (.aload_n 0, 1) := by decide +kernel
theorem dX6_copy_6 : decode cX6_copy 6 = .ok (.getfield 9, 3) := by decide +kernel
theorem dX6_copy_9 : decode cX6_copy 9 = .ok (.iconst 0, 1) := by decide +kernel
theorem dX6_copy_10 : decode cX6_copy 10 = .ok (.bipush 6, 2) := by decide +kernel
theorem dX6_copy_12 : decode cX6_copy 12 = .ok (.invokestatic 53, 3) := by decide +kernel
theorem dX6_copy_15 : decode cX6_copy 15 = .ok (.aload_n 1, 1) := by decide +kernel
theorem dX6_copy_16 : decode cX6_copy 16 = .ok (.getfield 15, 3) := by decide +kernel
theorem dX6_copy_19 : decode cX6_copy 19 = .ok (.iconst 0, 1) := by decide +kernel
theorem dX6_copy_20 : decode cX6_copy 20 = .ok (.aload_n 0, 1) := by decide +kernel
theorem dX6_copy_21 : decode cX6_copy 21 = .ok (.getfield 15, 3) := by decide +kernel
theorem dX6_copy_24 : decode cX6_copy 24 = .ok (.iconst 0, 1) := by decide +kernel
theorem dX6_copy_25 : decode cX6_copy 25 = .ok (.bipush 6, 2) := by decide +kernel
theorem dX6_copy_27 : decode cX6_copy 27 = .ok (.invokestatic 53, 3) := by decide +kernel
theorem dX6_copy_30 : decode cX6_copy 30 = .ok (.aload_n 1, 1) := by decide +kernel
theorem dX6_copy_31 : decode cX6_copy 31 = .ok (.getfield 18, 3) := by decide +kernel
theorem dX6_copy_34 : decode cX6_copy 34 = .ok (.iconst 0, 1) := by decide +kernel
theorem dX6_copy_35 : decode cX6_copy 35 = .ok (.aload_n 0, 1) := by decide +kernel
theorem dX6_copy_36 : decode cX6_copy 36 = .ok (.getfield 18, 3) := by decide +kernel
theorem dX6_copy_39 : decode cX6_copy 39 = .ok (.iconst 0, 1) := by decide +kernel
theorem dX6_copy_40 : decode cX6_copy 40 = .ok (.bipush 96, 2) := by decide +kernel
theorem dX6_copy_42 : decode cX6_copy 42 = .ok (.invokestatic 53, 3) := by decide +kernel
theorem dX6_copy_45 : decode cX6_copy 45 = .ok (.aload_n 1, 1) := by decide +kernel
theorem dX6_copy_46 : decode cX6_copy 46 = .ok (.getfield 21, 3) := by decide +kernel
theorem dX6_copy_49 : decode cX6_copy 49 = .ok (.iconst 0, 1) := by decide +kernel
theorem dX6_copy_50 : decode cX6_copy 50 = .ok (.aload_n 0, 1) := by decide +kernel
theorem dX6_copy_51 : decode cX6_copy 51 = .ok (.getfield 21, 3) := by decide +kernel
theorem dX6_copy_54 : decode cX6_copy 54 = .ok (.iconst 0, 1) := by decide +kernel
theorem dX6_copy_55 : decode cX6_copy 55 = .ok (.bipush 96, 2) := by decide +kernel
theorem dX6_copy_57 : decode cX6_copy 57 = .ok (.invokestatic 53, 3) := by decide +kernel
theorem dX6_copy_60 : decode cX6_copy 60 = .ok (.aload_n 0, 1) := by decide +kernel
theorem dX6_copy_61 : decode cX6_copy 61 = .ok (.aload_n 1, 1) := by decide +kernel
theorem dX6_copy_62 : decode cX6_copy 62 = .ok (.getfield 30, 3) := by decide +kernel
theorem dX6_copy_65 : decode cX6_copy 65 = .ok (.putfield 30, 3) := by decide +kernel
theorem dX6_copy_68 : decode cX6_copy 68 = .ok (.return_, 1) := by decide +kernel
theorem dX6_find_0 : decode cX6_find 0 = .ok (.iload_n 1, 1) := by decide +kernel
theorem dX6_find_1 : decode cX6_find 1 = .ok (.sipush 10000, 3) := by decide +kernel
theorem dX6_find_4 : decode cX6_find 4 = .ok (.imul, 1) := by decide +kernel
theorem dX6_find_5 : decode cX6_find 5 = .ok (.iload_n 2, 1) := by decide +kernel
theorem dX6_find_6 : decode cX6_find 6 = .ok (.iadd, 1) := by decide +kernel
theorem dX6_find_7 : decode cX6_find 7 = .ok (.istore_n 3, 1) := by decide +kernel
theorem dX6_find_8 : decode cX6_find 8 = .ok (.iconst 0, 1) := by decide +kernel
theorem dX6_find_9 : decode cX6_find 9 = .ok (.istore 4, 2) := by decide +kernel
theorem dX6_find_11 : decode cX6_find 11 = .ok (.iload 4, 2) := by decide +kernel
theorem dX6_find_13 : decode cX6_find 13 = .ok (.aload_n 0, 1) := by decide +kernel
theorem dX6_find_14 : decode cX6_find 14 = .ok (.getfield 30, 3) := by decide +kernel
theorem dX6_find_17 : decode cX6_find 17 = .ok (.if_icmp .ge 23, 3) := by decide +kernel
theorem dX6_find_20 : decode cX6_find 20 = .ok (.aload_n 0, 1) := by decide +kernel
theorem dX6_find_21 : decode cX6_find 21 = .ok (.getfield 18, 3) := by decide +kernel
theorem dX6_find_24 : decode cX6_find 24 = .ok (.iload 4, 2) := by decide +kernel
theorem dX6_find_26 : decode cX6_find 26 = .ok (.iaload, 1) := by decide +kernel
theorem dX6_find_27 : decode cX6_find 27 = .ok (.iload_n 3, 1) := by decide +kernel
theorem dX6_find_28 : decode cX6_find 28 = .ok (.if_icmp .ne 6, 3) := by decide +kernel
theorem dX6_find_31 : decode cX6_find 31 = .ok (.iload 4, 2) := by decide +kernel
theorem dX6_find_33 : decode cX6_find 33 = .ok (.ireturn, 1) := by decide +kernel
theorem dX6_find_34 : decode cX6_find 34 = .ok (.iinc 4 1, 3) := by decide +kernel
theorem dX6_find_37 : decode cX6_find 37 = .ok (.goto (-26), 3) := by decide +kernel
theorem dX6_find_40 : decode cX6_find 40 = .ok (.iconst (-1), 1) := by decide +kernel
theorem dX6_find_41 : decode cX6_find 41 = .ok (.ireturn, 1) := by decide +kernel
set_option maxRecDepth 20000 in
theorem ggX7_init_X1_init : GoodIn wsX7_init wsX1_init := goodIn_r _ [19, 20, 2, 3, 16, 21, 22, 35, 36, 37] (by decide +kernel) (by decide +kernel)
set_option maxRecDepth 20000 in
theorem gX7_init_X1_init_n11 : GoodIn wsX7_init (wsX1_init) := ggX7_init_X1_init
set_option maxRecDepth 20000 in
theorem ggX7_init_X6_init : GoodIn wsX7_init wsX6_init := goodIn_r _ [24, 25, 2, 3, 16, 26, 27, 28, 29, 46, 47, 48, 49, 50] (by decide +kernel) (by decide +kernel)
set_option maxRecDepth 20000 in
theorem gX7_init_X6_init_n20 : GoodIn wsX7_init (wsX6_init) := ggX7_init_X6_init
set_option maxRecDepth 20000 in
theorem ggX7_init_X3_init : GoodIn wsX7_init wsX3_init := goodIn_r _ [31, 32, 2, 3, 16, 33, 34, 51, 52] (by decide +kernel) (by decide +kernel)
set_option maxRecDepth 20000 in
theorem gX7_init_X3_init_n27 : GoodIn wsX7_init (wsX3_init) := ggX7_init_X3_init
theorem dX7_init_0 : decode cX7_init 0 = .ok (.aload_n 0, 1) := by decide +kernel
theorem dX7_init_1 : decode cX7_init 1 = .ok (.invokespecial 3, 3) := by decide +kernel
theorem dX7_init_4 : decode cX7_init 4 = .ok (.aload_n 0, 1) := by decide +kernel
theorem dX7_init_5 : decode cX7_init 5 = .ok (.new 9, 3) := by decide +kernel
theorem dX7_init_8 : decode cX7_init 8 = .ok (.dup, 1) := by decide +kernel
theorem dX7_init_9 : decode cX7_init 9 = .ok (.invokespecial 11, 3) := by decide +kernel
theorem dX7_init_12 : decode cX7_init 12 = .ok (.putfield 12, 3) := by decide +kernel
theorem dX7_init_15 : decode cX7_init 15 = .ok (.aload_n 0, 1) := by decide +kernel
theorem dX7_init_16 : decode cX7_init 16 = .ok (.new 18, 3) := by decide +kernel
theorem dX7_init_19 : decode cX7_init 19 = .ok (.dup, 1) := by decide +kernel
theorem dX7_init_20 : decode cX7_init 20 = .ok (.invokespecial 20, 3) := by decide +kernel
theorem dX7_init_23 : decode cX7_init 23 = .ok (.putfield 21, 3) := by decide +kernel
theorem dX7_init_26 : decode cX7_init 26 = .ok (.aload_n 0, 1) := by decide +kernel
theorem dX7_init_27 : decode cX7_init 27 = .ok (.new 25, 3) := by decide +kernel
theorem dX7_init_30 : decode cX7_init 30 = .ok (.dup, 1) := by decide +kernel
theorem dX7_init_31 : decode cX7_init 31 = .ok (.invokespecial 27, 3) := by decide +kernel
theorem dX7_init_34 : decode cX7_init 34 = .ok (.putfield 28, 3) := by decide +kernel
theorem dX7_init_37 : decode cX7_init 37 = .ok (.aload_n 0, 1) := by decide +kernel
theorem dX7_init_38 : decode cX7_init 38 = .ok (.iconst 2, 1) := by decide +kernel
theorem dX7_init_39 : decode cX7_init 39 = .ok (.newarray .int, 2) := by decide +kernel
theorem dX7_init_41 : decode cX7_init 41 = .ok (.putfield 32, 3) := by decide +kernel
theorem dX7_init_44 : decode cX7_init 44 = .ok (.return_, 1) := by decide +kernel
set_option maxRecDepth 20000 in
theorem ggX7_start_X1_copy : GoodIn wsX7_start wsX1_copy := goodIn_r _ [13, 14, 15, 16, 17, 18, 19, 20, 52, 53, 54] (by decide +kernel) (by decide +kernel)
set_option maxRecDepth 20000 in
theorem gX7_start_X1_copy : GoodIn wsX7_start (wsV RX7 36 RX1 yX1_copy wsX1_copy) := goodIn_app (goodIn_of _ (by decide +kernel)) ggX7_start_X1_copy
set_option maxRecDepth 20000 in
theorem ggX7_start_X6_copy : GoodIn wsX7_start wsX6_copy := goodIn_r _ [25, 26, 27, 16, 17, 18, 28, 29, 30, 31, 55, 56, 57, 58, 59] (by decide +kernel) (by decide +kernel)
set_option maxRecDepth 20000 in
theorem gX7_start_X6_copy : GoodIn wsX7_start (wsV RX7 40 RX6 yX6_copy wsX6_copy) := goodIn_app (goodIn_of _ (by decide +kernel)) ggX7_start_X6_copy
set_option maxRecDepth 20000 in
theorem ggX7_start_X3_clear : GoodIn wsX7_start wsX3_clear := goodIn_r _ [36, 37, 38, 39, 40, 41, 42, 60, 61] (by decide +kernel) (by decide +kernel)
set_option maxRecDepth 20000 in
theorem gX7_start_X3_clear : GoodIn wsX7_start (wsV RX7 43 RX3 yX3_clear wsX3_clear) := goodIn_app (goodIn_of _ (by decide +kernel)) ggX7_start_X3_clear
set_option maxRecDepth 20000 in
theorem ggX7_start_J7_fill_53178 : GoodIn wsX7_start wsJ7_fill_53178 := goodIn_r _ [42] (by decide +kernel) (by decide +kernel)
set_option maxRecDepth 20000 in
theorem gX7_start_J7_fill_53178 : GoodIn wsX7_start (va_wsS RX7 46 yJ7_fill_53178 wsJ7_fill_53178) := goodIn_app (goodIn_of _ (by decide +kernel)) ggX7_start_J7_fill_53178
theorem dX7_start_0 : decode cX7_start 0 = .ok (.aload_n 0, 1) := by decide +kernel
theorem dX7_start_1 : decode cX7_start 1 = .ok (.getfield 12, 3) := by decide +kernel
theorem dX7_start_4 : decode cX7_start 4 = .ok (.aload_n 1, 1) := by decide +kernel
theorem dX7_start_5 : decode cX7_start 5 = .ok (.invokevirtual 36, 3) := by decide +kernel
theorem dX7_start_8 : decode cX7_start 8 = .ok (.aload_n 0, 1) := by decide +kernel
theorem dX7_start_9 : decode cX7_start 9 = .ok (.getfield 21, 3) := by decide +kernel
theorem dX7_start_12 : decode cX7_start 12 = .ok (.aload_n 2, 1) := by decide +kernel
theorem dX7_start_13 : decode cX7_start 13 = .ok (.invokevirtual 40, 3) := by decide +kernel
theorem dX7_start_16 : decode cX7_start 16 = .ok (.aload_n 0, 1) := by decide +kernel
theorem dX7_start_17 : decode cX7_start 17 = .ok (.getfield 28, 3) := by decide +kernel
theorem dX7_start_20 : decode cX7_start 20 = .ok (.invokevirtual 43, 3) := by decide +kernel
theorem dX7_start_23 : decode cX7_start 23 = .ok (.aload_n 0, 1) := by decide +kernel
theorem dX7_start_24 : decode cX7_start 24 = .ok (.getfield 32, 3) := by decide +kernel
theorem dX7_start_27 : decode cX7_start 27 = .ok (.sipush (-1000), 3) := by decide +kernel
theorem dX7_start_30 : decode cX7_start 30 = .ok (.invokestatic 46, 3) := by decide +kernel
theorem dX7_start_33 : decode cX7_start 33 = .ok (.aload_n 0, 1) := by decide +kernel
theorem dX7_start_34 : decode cX7_start 34 = .ok (.iconst 1, 1) := by decide +kernel
theorem dX7_start_35 : decode cX7_start 35 = .ok (.putfield 52, 3) := by decide +kernel
theorem dX7_start_38 : decode cX7_start 38 = .ok (.aload_n 0, 1) := by decide +kernel
theorem dX7_start_39 : decode cX7_start 39 = .ok (.iconst 0, 1) := by decide +kernel
theorem dX7_start_40 : decode cX7_start 40 = .ok (.putfield 56, 3) := by decide +kernel
theorem dX7_start_43 : decode cX7_start 43 = .ok (.aload_n 0, 1) := by decide +kernel
theorem dX7_start_44 : decode cX7_start 44 = .ok (.iconst 0, 1) := by decide +kernel
theorem dX7_start_45 : decode cX7_start 45 = .ok (.putfield 60, 3) := by decide +kernel
theorem dX7_start_48 : decode cX7_start 48 = .ok (.aload_n 0, 1) := by decide +kernel
theorem dX7_start_49 : decode cX7_start 49 = .ok (.iconst 0, 1) := by decide +kernel
theorem dX7_start_50 : decode cX7_start 50 = .ok (.putfield 63, 3) := by decide +kernel
theorem dX7_start_53 : decode cX7_start 53 = .ok (.return_, 1) := by decide +kernel
theorem dX7_stop_0 : decode cX7_stop 0 = .ok (.aload_n 0, 1) := by decide +kernel
theorem dX7_stop_1 : decode cX7_stop 1 = .ok (.iconst 0, 1) := by decide +kernel
theorem dX7_stop_2 : decode cX7_stop 2 = .ok (.putfield 52, 3) := by decide +kernel
theorem dX7_stop_5 : decode cX7_stop 5 = .ok (.return_, 1) := by decide +kernel
set_option maxRecDepth 20000 in
theorem ggX7_answer_X1_toldBy : GoodIn wsX7_answer wsX1_toldBy := goodIn_r _ [12, 13, 67, 68, 69] (by decide +kernel) (by decide +kernel)
set_option maxRecDepth 20000 in
theorem gX7_answer_X1_toldBy : GoodIn wsX7_answer (wsV RX7 66 RX1 yX1_toldBy wsX1_toldBy) := goodIn_app (goodIn_of _ (by decide +kernel)) ggX7_answer_X1_toldBy
set_option maxRecDepth 20000 in
theorem ggX7_answer_X6_lacks : GoodIn wsX7_answer wsX6_lacks := goodIn_r _ [18, 19, 20, 21, 17, 22, 23, 24, 25, 26, 27, 28, 29, 70, 71, 72, 73, 74] (by decide +kernel) (by decide +kernel)
set_option maxRecDepth 20000 in
theorem gX7_answer_X6_lacks : GoodIn wsX7_answer (wsV RX7 70 RX6 yX6_lacks wsX6_lacks) := goodIn_app (goodIn_of _ (by decide +kernel)) ggX7_answer_X6_lacks
set_option maxRecDepth 20000 in
theorem ggX7_answer_X6_foretell : GoodIn wsX7_answer wsX6_foretell := goodIn_r _ [33, 34, 19, 20, 21, 17, 22, 23, 24, 25, 26, 27, 28, 29, 35, 36, 37, 38, 39, 40, 41, 42, 43, 44, 45, 46, 47, 48, 49, 70, 71, 72, 73, 74, 75, 76] (by decide +kernel) (by decide +kernel)
set_option maxRecDepth 20000 in
theorem gX7_answer_X6_foretell : GoodIn wsX7_answer (wsV RX7 74 RX6 yX6_foretell wsX6_foretell) := goodIn_app (goodIn_of _ (by decide +kernel)) ggX7_answer_X6_foretell
set_option maxRecDepth 20000 in
theorem ggX7_answer_X3_note : GoodIn wsX7_answer wsX3_note := goodIn_r _ [53, 43, 44, 75, 76] (by decide +kernel) (by decide +kernel)
set_option maxRecDepth 20000 in
theorem gX7_answer_X3_note : GoodIn wsX7_answer (wsV RX7 78 RX3 yX3_note wsX3_note) := goodIn_app (goodIn_of _ (by decide +kernel)) ggX7_answer_X3_note
set_option maxRecDepth 20000 in
theorem ggX7_answer_X1_targetOf : GoodIn wsX7_answer wsX1_targetOf := goodIn_r _ [57, 58, 67, 68, 69] (by decide +kernel) (by decide +kernel)
set_option maxRecDepth 20000 in
theorem gX7_answer_X1_targetOf : GoodIn wsX7_answer (wsV RX7 82 RX1 yX1_targetOf wsX1_targetOf) := goodIn_app (goodIn_of _ (by decide +kernel)) ggX7_answer_X1_targetOf
theorem dX7_answer_0 : decode cX7_answer 0 = .ok (.aload_n 0, 1) := by decide +kernel
theorem dX7_answer_1 : decode cX7_answer 1 = .ok (.getfield 12, 3) := by decide +kernel
theorem dX7_answer_4 : decode cX7_answer 4 = .ok (.aload_n 0, 1) := by decide +kernel
theorem dX7_answer_5 : decode cX7_answer 5 = .ok (.getfield 56, 3) := by decide +kernel
theorem dX7_answer_8 : decode cX7_answer 8 = .ok (.iload_n 1, 1) := by decide +kernel
theorem dX7_answer_9 : decode cX7_answer 9 = .ok (.invokevirtual 66, 3) := by decide +kernel
theorem dX7_answer_12 : decode cX7_answer 12 = .ok (.istore_n 3, 1) := by decide +kernel
theorem dX7_answer_13 : decode cX7_answer 13 = .ok (.iload_n 3, 1) := by decide +kernel
theorem dX7_answer_14 : decode cX7_answer 14 = .ok (.iconst (-1), 1) := by decide +kernel
theorem dX7_answer_15 : decode cX7_answer 15 = .ok (.if_icmp .eq 15, 3) := by decide +kernel
theorem dX7_answer_18 : decode cX7_answer 18 = .ok (.aload_n 0, 1) := by decide +kernel
theorem dX7_answer_19 : decode cX7_answer 19 = .ok (.getfield 21, 3) := by decide +kernel
theorem dX7_answer_22 : decode cX7_answer 22 = .ok (.iload_n 1, 1) := by decide +kernel
theorem dX7_answer_23 : decode cX7_answer 23 = .ok (.iload_n 2, 1) := by decide +kernel
theorem dX7_answer_24 : decode cX7_answer 24 = .ok (.invokevirtual 70, 3) := by decide +kernel
theorem dX7_answer_27 : decode cX7_answer 27 = .ok (.ifCond .eq 16, 3) := by decide +kernel
theorem dX7_answer_30 : decode cX7_answer 30 = .ok (.aload_n 0, 1) := by decide +kernel
theorem dX7_answer_31 : decode cX7_answer 31 = .ok (.dup, 1) := by decide +kernel
theorem dX7_answer_32 : decode cX7_answer 32 = .ok (.getfield 63, 3) := by decide +kernel
theorem dX7_answer_35 : decode cX7_answer 35 = .ok (.iconst 1, 1) := by decide +kernel
theorem dX7_answer_36 : decode cX7_answer 36 = .ok (.iadd, 1) := by decide +kernel
theorem dX7_answer_37 : decode cX7_answer 37 = .ok (.putfield 63, 3) := by decide +kernel
theorem dX7_answer_40 : decode cX7_answer 40 = .ok (.bipush (-2), 2) := by decide +kernel
theorem dX7_answer_42 : decode cX7_answer 42 = .ok (.ireturn, 1) := by decide +kernel
theorem dX7_answer_43 : decode cX7_answer 43 = .ok (.iconst 0, 1) := by decide +kernel
theorem dX7_answer_44 : decode cX7_answer 44 = .ok (.istore 4, 2) := by decide +kernel
theorem dX7_answer_46 : decode cX7_answer 46 = .ok (.iload 4, 2) := by decide +kernel
theorem dX7_answer_48 : decode cX7_answer 48 = .ok (.iconst 2, 1) := by decide +kernel
theorem dX7_answer_49 : decode cX7_answer 49 = .ok (.if_icmp .ge 31, 3) := by decide +kernel
theorem dX7_answer_52 : decode cX7_answer 52 = .ok (.aload_n 0, 1) := by decide +kernel
theorem dX7_answer_53 : decode cX7_answer 53 = .ok (.getfield 32, 3) := by decide +kernel
theorem dX7_answer_56 : decode cX7_answer 56 = .ok (.iload 4, 2) := by decide +kernel
theorem dX7_answer_58 : decode cX7_answer 58 = .ok (.aload_n 0, 1) := by decide +kernel
theorem dX7_answer_59 : decode cX7_answer 59 = .ok (.getfield 21, 3) := by decide +kernel
theorem dX7_answer_62 : decode cX7_answer 62 = .ok (.iload_n 1, 1) := by decide +kernel
theorem dX7_answer_63 : decode cX7_answer 63 = .ok (.iload 4, 2) := by decide +kernel
theorem dX7_answer_65 : decode cX7_answer 65 = .ok (.iload_n 2, 1) := by decide +kernel
theorem dX7_answer_66 : decode cX7_answer 66 = .ok (.aload_n 0, 1) := by decide +kernel
theorem dX7_answer_67 : decode cX7_answer 67 = .ok (.getfield 28, 3) := by decide +kernel
theorem dX7_answer_70 : decode cX7_answer 70 = .ok (.invokevirtual 74, 3) := by decide +kernel
theorem dX7_answer_73 : decode cX7_answer 73 = .ok (.iastore, 1) := by decide +kernel
theorem dX7_answer_74 : decode cX7_answer 74 = .ok (.iinc 4 1, 3) := by decide +kernel
theorem dX7_answer_77 : decode cX7_answer 77 = .ok (.goto (-31), 3) := by decide +kernel
theorem dX7_answer_80 : decode cX7_answer 80 = .ok (.aload_n 0, 1) := by decide +kernel
theorem dX7_answer_81 : decode cX7_answer 81 = .ok (.getfield 28, 3) := by decide +kernel
theorem dX7_answer_84 : decode cX7_answer 84 = .ok (.iload_n 1, 1) := by decide +kernel
theorem dX7_answer_85 : decode cX7_answer 85 = .ok (.iload_n 2, 1) := by decide +kernel
theorem dX7_answer_86 : decode cX7_answer 86 = .ok (.invokevirtual 78, 3) := by decide +kernel
theorem dX7_answer_89 : decode cX7_answer 89 = .ok (.aload_n 0, 1) := by decide +kernel
theorem dX7_answer_90 : decode cX7_answer 90 = .ok (.aload_n 0, 1) := by decide +kernel
theorem dX7_answer_91 : decode cX7_answer 91 = .ok (.getfield 12, 3) := by decide +kernel
theorem dX7_answer_94 : decode cX7_answer 94 = .ok (.aload_n 0, 1) := by decide +kernel
theorem dX7_answer_95 : decode cX7_answer 95 = .ok (.getfield 56, 3) := by decide +kernel
theorem dX7_answer_98 : decode cX7_answer 98 = .ok (.iload_n 1, 1) := by decide +kernel
theorem dX7_answer_99 : decode cX7_answer 99 = .ok (.invokevirtual 82, 3) := by decide +kernel
theorem dX7_answer_102 : decode cX7_answer 102 = .ok (.putfield 56, 3) := by decide +kernel
theorem dX7_answer_105 : decode cX7_answer 105 = .ok (.aload_n 0, 1) := by decide +kernel
theorem dX7_answer_106 : decode cX7_answer 106 = .ok (.dup, 1) := by decide +kernel
theorem dX7_answer_107 : decode cX7_answer 107 = .ok (.getfield 60, 3) := by decide +kernel
theorem dX7_answer_110 : decode cX7_answer 110 = .ok (.iconst 1, 1) := by decide +kernel
theorem dX7_answer_111 : decode cX7_answer 111 = .ok (.iadd, 1) := by decide +kernel
theorem dX7_answer_112 : decode cX7_answer 112 = .ok (.putfield 60, 3) := by decide +kernel
theorem dX7_answer_115 : decode cX7_answer 115 = .ok (.iload_n 3, 1) := by decide +kernel
theorem dX7_answer_116 : decode cX7_answer 116 = .ok (.ireturn, 1) := by decide +kernel
theorem dX7_isOn_0 : decode cX7_isOn 0 = .ok (.aload_n 0, 1) := by decide +kernel
theorem dX7_isOn_1 : decode cX7_isOn 1 = .ok (.getfield 52, 3) := by decide +kernel
theorem dX7_isOn_4 : decode cX7_isOn 4 = .ok (.ireturn, 1) := by decide +kernel
theorem dX7_state_0 : decode cX7_state 0 = .ok (.aload_n 0, 1) := by decide +kernel
theorem dX7_state_1 : decode cX7_state 1 = .ok (.getfield 56, 3) := by decide +kernel
theorem dX7_state_4 : decode cX7_state 4 = .ok (.ireturn, 1) := by decide +kernel
theorem dX7_answered_0 : decode cX7_answered 0 = .ok (.aload_n 0, 1) := by decide +kernel
theorem dX7_answered_1 : decode cX7_answered 1 = .ok (.getfield 60, 3) := by decide +kernel
theorem dX7_answered_4 : decode cX7_answered 4 = .ok (.ireturn, 1) := by decide +kernel
theorem dX7_unseen_0 : decode cX7_unseen 0 = .ok (.aload_n 0, 1) := by decide +kernel
theorem dX7_unseen_1 : decode cX7_unseen 1 = .ok (.getfield 63, 3) := by decide +kernel
theorem dX7_unseen_4 : decode cX7_unseen 4 = .ok (.ireturn, 1) := by decide +kernel
theorem dX7_latestField_0 : decode cX7_latestField 0 = .ok (.aload_n 0, 1) := by decide +kernel
theorem dX7_latestField_1 : decode cX7_latestField 1 = .ok (.getfield 32, 3) := by decide +kernel
theorem dX7_latestField_4 : decode cX7_latestField 4 = .ok (.iload_n 1, 1) := by decide +kernel
theorem dX7_latestField_5 : decode cX7_latestField 5 = .ok (.iaload, 1) := by decide +kernel
theorem dX7_latestField_6 : decode cX7_latestField 6 = .ok (.ireturn, 1) := by decide +kernel
set_option maxRecDepth 20000 in
theorem ggX7_copy_X1_copy : GoodIn wsX7_copy wsX1_copy := goodIn_r _ [17, 18, 19, 6, 7, 8, 20, 21, 49, 50, 51] (by decide +kernel) (by decide +kernel)
set_option maxRecDepth 20000 in
theorem gX7_copy_X1_copy : GoodIn wsX7_copy (wsV RX7 36 RX1 yX1_copy wsX1_copy) := goodIn_app (goodIn_of _ (by decide +kernel)) ggX7_copy_X1_copy
set_option maxRecDepth 20000 in
theorem ggX7_copy_X6_copy : GoodIn wsX7_copy wsX6_copy := goodIn_r _ [26, 27, 28, 6, 7, 8, 29, 30, 31, 32, 52, 53, 54, 55, 56] (by decide +kernel) (by decide +kernel)
set_option maxRecDepth 20000 in
theorem gX7_copy_X6_copy : GoodIn wsX7_copy (wsV RX7 40 RX6 yX6_copy wsX6_copy) := goodIn_app (goodIn_of _ (by decide +kernel)) ggX7_copy_X6_copy
set_option maxRecDepth 20000 in
theorem ggX7_copy_X3_copy : GoodIn wsX7_copy wsX3_copy := goodIn_r _ [37, 38, 39, 6, 7, 8, 40, 57, 58] (by decide +kernel) (by decide +kernel)
set_option maxRecDepth 20000 in
theorem gX7_copy_X3_copy : GoodIn wsX7_copy (wsV RX7 85 RX3 yX3_copy wsX3_copy) := goodIn_app (goodIn_of _ (by decide +kernel)) ggX7_copy_X3_copy
theorem dX7_copy_0 : decode cX7_copy 0 = .ok (.aload_n 0, 1) := by decide +kernel
theorem dX7_copy_1 : decode cX7_copy 1 = .ok (.getfield 12, 3) := by decide +kernel
theorem dX7_copy_4 : decode cX7_copy 4 = .ok (.aload_n 1, 1) := by decide +kernel
theorem dX7_copy_5 : decode cX7_copy 5 = .ok (.getfield 12, 3) := by decide +kernel
theorem dX7_copy_8 : decode cX7_copy 8 = .ok (.invokevirtual 36, 3) := by decide +kernel
theorem dX7_copy_11 : decode cX7_copy 11 = .ok (.aload_n 0, 1) := by decide +kernel
theorem dX7_copy_12 : decode cX7_copy 12 = .ok (.getfield 21, 3) := by decide +kernel
theorem dX7_copy_15 : decode cX7_copy 15 = .ok (.aload_n 1, 1) := by decide +kernel
theorem dX7_copy_16 : decode cX7_copy 16 = .ok (.getfield 21, 3) := by decide +kernel
theorem dX7_copy_19 : decode cX7_copy 19 = .ok (.invokevirtual 40, 3) := by decide +kernel
theorem dX7_copy_22 : decode cX7_copy 22 = .ok (.aload_n 0, 1) := by decide +kernel
theorem dX7_copy_23 : decode cX7_copy 23 = .ok (.getfield 28, 3) := by decide +kernel
theorem dX7_copy_26 : decode cX7_copy 26 = .ok (.aload_n 1, 1) := by decide +kernel
theorem dX7_copy_27 : decode cX7_copy 27 = .ok (.getfield 28, 3) := by decide +kernel
theorem dX7_copy_30 : decode cX7_copy 30 = .ok (.invokevirtual 85, 3) := by decide +kernel
theorem dX7_copy_33 : decode cX7_copy 33 = .ok (.aload_n 1, 1) := by decide +kernel
theorem dX7_copy_34 : decode cX7_copy 34 = .ok (.getfield 32, 3) := by decide +kernel
theorem dX7_copy_37 : decode cX7_copy 37 = .ok (.iconst 0, 1) := by decide +kernel
theorem dX7_copy_38 : decode cX7_copy 38 = .ok (.aload_n 0, 1) := by decide +kernel
theorem dX7_copy_39 : decode cX7_copy 39 = .ok (.getfield 32, 3) := by decide +kernel
theorem dX7_copy_42 : decode cX7_copy 42 = .ok (.iconst 0, 1) := by decide +kernel
theorem dX7_copy_43 : decode cX7_copy 43 = .ok (.iconst 2, 1) := by decide +kernel
theorem dX7_copy_44 : decode cX7_copy 44 = .ok (.invokestatic 88, 3) := by decide +kernel
theorem dX7_copy_47 : decode cX7_copy 47 = .ok (.aload_n 0, 1) := by decide +kernel
theorem dX7_copy_48 : decode cX7_copy 48 = .ok (.aload_n 1, 1) := by decide +kernel
theorem dX7_copy_49 : decode cX7_copy 49 = .ok (.getfield 52, 3) := by decide +kernel
theorem dX7_copy_52 : decode cX7_copy 52 = .ok (.putfield 52, 3) := by decide +kernel
theorem dX7_copy_55 : decode cX7_copy 55 = .ok (.aload_n 0, 1) := by decide +kernel
theorem dX7_copy_56 : decode cX7_copy 56 = .ok (.aload_n 1, 1) := by decide +kernel
theorem dX7_copy_57 : decode cX7_copy 57 = .ok (.getfield 56, 3) := by decide +kernel
theorem dX7_copy_60 : decode cX7_copy 60 = .ok (.putfield 56, 3) := by decide +kernel
theorem dX7_copy_63 : decode cX7_copy 63 = .ok (.aload_n 0, 1) := by decide +kernel
theorem dX7_copy_64 : decode cX7_copy 64 = .ok (.aload_n 1, 1) := by decide +kernel
theorem dX7_copy_65 : decode cX7_copy 65 = .ok (.getfield 60, 3) := by decide +kernel
theorem dX7_copy_68 : decode cX7_copy 68 = .ok (.putfield 60, 3) := by decide +kernel
theorem dX7_copy_71 : decode cX7_copy 71 = .ok (.aload_n 0, 1) := by decide +kernel
theorem dX7_copy_72 : decode cX7_copy 72 = .ok (.aload_n 1, 1) := by decide +kernel
theorem dX7_copy_73 : decode cX7_copy 73 = .ok (.getfield 63, 3) := by decide +kernel
theorem dX7_copy_76 : decode cX7_copy 76 = .ok (.putfield 63, 3) := by decide +kernel
theorem dX7_copy_79 : decode cX7_copy 79 = .ok (.return_, 1) := by decide +kernel
set_option maxRecDepth 20000 in
theorem ggX8_init_X2_init : GoodIn wsX8_init wsX2_init := goodIn_r _ [22, 23, 2, 3, 24, 25, 26, 27, 28, 29, 30, 31, 32, 33, 34, 35, 36, 37, 38, 65, 66, 67, 68, 69, 70, 71, 72, 73, 74, 75, 76, 77, 78, 79, 80, 81] (by decide +kernel) (by decide +kernel)
set_option maxRecDepth 20000 in
theorem gX8_init_X2_init_n11 : GoodIn wsX8_init (wsX2_init) := ggX8_init_X2_init
set_option maxRecDepth 20000 in
theorem ggX8_init_X5_init : GoodIn wsX8_init wsX5_init := goodIn_r _ [40, 41, 2, 3, 42, 43, 44, 45, 24, 46, 47, 48, 49, 50, 51, 52, 100, 101, 89, 90, 91] (by decide +kernel) (by decide +kernel)
set_option maxRecDepth 20000 in
theorem gX8_init_X5_init_n20 : GoodIn wsX8_init (wsX5_init) := ggX8_init_X5_init
set_option maxRecDepth 20000 in
theorem ggX8_init_X1_init : GoodIn wsX8_init wsX1_init := goodIn_r _ [54, 55, 2, 3, 24, 56, 57, 92, 93, 94] (by decide +kernel) (by decide +kernel)
set_option maxRecDepth 20000 in
theorem gX8_init_X1_init_n27 : GoodIn wsX8_init (wsX1_init) := ggX8_init_X1_init
set_option maxRecDepth 20000 in
theorem ggX8_init_X6_init : GoodIn wsX8_init wsX6_init := goodIn_r _ [59, 60, 2, 3, 24, 61, 62, 63, 64, 95, 96, 97, 98, 99] (by decide +kernel) (by decide +kernel)
set_option maxRecDepth 20000 in
theorem gX8_init_X6_init_n34 : GoodIn wsX8_init (wsX6_init) := ggX8_init_X6_init
theorem dX8_init_0 : decode cX8_init 0 = .ok (.aload_n 0, 1) := by decide +kernel
theorem dX8_init_1 : decode cX8_init 1 = .ok (.invokespecial 3, 3) := by decide +kernel
theorem dX8_init_4 : decode cX8_init 4 = .ok (.aload_n 0, 1) := by decide +kernel
theorem dX8_init_5 : decode cX8_init 5 = .ok (.new 9, 3) := by decide +kernel
theorem dX8_init_8 : decode cX8_init 8 = .ok (.dup, 1) := by decide +kernel
theorem dX8_init_9 : decode cX8_init 9 = .ok (.invokespecial 11, 3) := by decide +kernel
theorem dX8_init_12 : decode cX8_init 12 = .ok (.putfield 12, 3) := by decide +kernel
theorem dX8_init_15 : decode cX8_init 15 = .ok (.aload_n 0, 1) := by decide +kernel
theorem dX8_init_16 : decode cX8_init 16 = .ok (.new 18, 3) := by decide +kernel
theorem dX8_init_19 : decode cX8_init 19 = .ok (.dup, 1) := by decide +kernel
theorem dX8_init_20 : decode cX8_init 20 = .ok (.invokespecial 20, 3) := by decide +kernel
theorem dX8_init_23 : decode cX8_init 23 = .ok (.putfield 21, 3) := by decide +kernel
theorem dX8_init_26 : decode cX8_init 26 = .ok (.aload_n 0, 1) := by decide +kernel
theorem dX8_init_27 : decode cX8_init 27 = .ok (.new 25, 3) := by decide +kernel
theorem dX8_init_30 : decode cX8_init 30 = .ok (.dup, 1) := by decide +kernel
theorem dX8_init_31 : decode cX8_init 31 = .ok (.invokespecial 27, 3) := by decide +kernel
theorem dX8_init_34 : decode cX8_init 34 = .ok (.putfield 28, 3) := by decide +kernel
theorem dX8_init_37 : decode cX8_init 37 = .ok (.aload_n 0, 1) := by decide +kernel
theorem dX8_init_38 : decode cX8_init 38 = .ok (.new 32, 3) := by decide +kernel
theorem dX8_init_41 : decode cX8_init 41 = .ok (.dup, 1) := by decide +kernel
theorem dX8_init_42 : decode cX8_init 42 = .ok (.invokespecial 34, 3) := by decide +kernel
theorem dX8_init_45 : decode cX8_init 45 = .ok (.putfield 35, 3) := by decide +kernel
theorem dX8_init_48 : decode cX8_init 48 = .ok (.aload_n 0, 1) := by decide +kernel
theorem dX8_init_49 : decode cX8_init 49 = .ok (.iconst (-1), 1) := by decide +kernel
theorem dX8_init_50 : decode cX8_init 50 = .ok (.putfield 39, 3) := by decide +kernel
theorem dX8_init_53 : decode cX8_init 53 = .ok (.return_, 1) := by decide +kernel
theorem dX8_forget_0 : decode cX8_forget 0 = .ok (.aload_n 0, 1) := by decide +kernel
theorem dX8_forget_1 : decode cX8_forget 1 = .ok (.iconst 0, 1) := by decide +kernel
theorem dX8_forget_2 : decode cX8_forget 2 = .ok (.putfield 43, 3) := by decide +kernel
theorem dX8_forget_5 : decode cX8_forget 5 = .ok (.aload_n 0, 1) := by decide +kernel
theorem dX8_forget_6 : decode cX8_forget 6 = .ok (.iconst 0, 1) := by decide +kernel
theorem dX8_forget_7 : decode cX8_forget 7 = .ok (.putfield 47, 3) := by decide +kernel
theorem dX8_forget_10 : decode cX8_forget 10 = .ok (.return_, 1) := by decide +kernel
set_option maxRecDepth 20000 in
theorem ggX8_leaveOut_X8_forget : GoodIn wsX8_leaveOut wsX8_forget := goodIn_r _ [6, 7, 8, 9, 10, 11, 12, 13, 14, 15] (by decide +kernel) (by decide +kernel)
set_option maxRecDepth 20000 in
theorem gX8_leaveOut_X8_forget : GoodIn wsX8_leaveOut (wsV RX8 50 RX8 yX8_forget wsX8_forget) := goodIn_app (goodIn_of _ (by decide +kernel)) ggX8_leaveOut_X8_forget
theorem dX8_leaveOut_0 : decode cX8_leaveOut 0 = .ok (.iload_n 1, 1) := by decide +kernel
theorem dX8_leaveOut_1 : decode cX8_leaveOut 1 = .ok (.aload_n 0, 1) := by decide +kernel
theorem dX8_leaveOut_2 : decode cX8_leaveOut 2 = .ok (.getfield 39, 3) := by decide +kernel
theorem dX8_leaveOut_5 : decode cX8_leaveOut 5 = .ok (.if_icmp .eq 12, 3) := by decide +kernel
theorem dX8_leaveOut_8 : decode cX8_leaveOut 8 = .ok (.aload_n 0, 1) := by decide +kernel
theorem dX8_leaveOut_9 : decode cX8_leaveOut 9 = .ok (.iload_n 1, 1) := by decide +kernel
theorem dX8_leaveOut_10 : decode cX8_leaveOut 10 = .ok (.putfield 39, 3) := by decide +kernel
theorem dX8_leaveOut_13 : decode cX8_leaveOut 13 = .ok (.aload_n 0, 1) := by decide +kernel
theorem dX8_leaveOut_14 : decode cX8_leaveOut 14 = .ok (.invokevirtual 50, 3) := by decide +kernel
theorem dX8_leaveOut_17 : decode cX8_leaveOut 17 = .ok (.return_, 1) := by decide +kernel
set_option maxRecDepth 20000 in
theorem ggX8_machineOf_X2_search_p0 : GoodIn wsX8_machineOf ((wsX2_search.drop 0).take 40) := goodIn_r _ [9, 10, 11, 12, 13, 14, 8, 15, 16, 17, 18, 19, 20, 21, 22, 23, 24, 25, 26, 27, 28, 29, 30, 31, 32, 33, 34, 35, 36, 37, 38, 39, 40, 41, 42, 43, 44, 45, 46, 47] (by decide +kernel) (by decide +kernel)
set_option maxRecDepth 20000 in
theorem ggX8_machineOf_X2_search_p1 : GoodIn wsX8_machineOf ((wsX2_search.drop 40).take 40) := goodIn_r _ [48, 49, 50, 51, 52, 53, 54, 55, 56, 57, 58, 59, 60, 61, 62, 63, 64, 65, 66, 67, 68, 69, 70, 71, 72, 73, 74, 75, 76, 77, 78, 79, 80, 81, 82, 83, 84, 85, 86, 87] (by decide +kernel) (by decide +kernel)
set_option maxRecDepth 20000 in
theorem ggX8_machineOf_X2_search_p2 : GoodIn wsX8_machineOf ((wsX2_search.drop 80).take 40) := goodIn_r _ [88, 89, 90, 91, 92, 93, 94, 95, 96, 97, 98, 99, 100, 101, 102, 103, 104, 105, 106, 107, 108, 109, 110, 111, 112, 113, 114, 115, 116, 117, 118, 119, 120, 121, 122, 123, 124, 132, 133, 134] (by decide +kernel) (by decide +kernel)
set_option maxRecDepth 20000 in
theorem ggX8_machineOf_X2_search_p3 : GoodIn wsX8_machineOf (wsX2_search.drop 120) := goodIn_r _ [135, 136, 137, 138, 139, 140, 141, 142, 143, 144, 145, 146, 147, 148, 149, 150, 151, 152, 153, 154, 155, 156] (by decide +kernel) (by decide +kernel)
theorem ggX8_machineOf_X2_search : GoodIn wsX8_machineOf wsX2_search := (goodIn_td 0 40 ggX8_machineOf_X2_search_p0 (goodIn_td 40 40 ggX8_machineOf_X2_search_p1 (goodIn_td 80 40 ggX8_machineOf_X2_search_p2 ggX8_machineOf_X2_search_p3)))
set_option maxRecDepth 20000 in
theorem gX8_machineOf_X2_search : GoodIn wsX8_machineOf (wsV RX8 53 RX2 yX2_search wsX2_search) := goodIn_app (goodIn_of _ (by decide +kernel)) ggX8_machineOf_X2_search
theorem dX8_machineOf_0 : decode cX8_machineOf 0 = .ok (.aload_n 0, 1) := by decide +kernel
theorem dX8_machineOf_1 : decode cX8_machineOf 1 = .ok (.getfield 43, 3) := by decide +kernel
theorem dX8_machineOf_4 : decode cX8_machineOf 4 = .ok (.ifCond .ne 24, 3) := by decide +kernel
theorem dX8_machineOf_7 : decode cX8_machineOf 7 = .ok (.aload_n 0, 1) := by decide +kernel
theorem dX8_machineOf_8 : decode cX8_machineOf 8 = .ok (.getfield 12, 3) := by decide +kernel
theorem dX8_machineOf_11 : decode cX8_machineOf 11 = .ok (.aload_n 1, 1) := by decide +kernel
theorem dX8_machineOf_12 : decode cX8_machineOf 12 = .ok (.aload_n 0, 1) := by decide +kernel
theorem dX8_machineOf_13 : decode cX8_machineOf 13 = .ok (.getfield 39, 3) := by decide +kernel
theorem dX8_machineOf_16 : decode cX8_machineOf 16 = .ok (.aload_n 0, 1) := by decide +kernel
theorem dX8_machineOf_17 : decode cX8_machineOf 17 = .ok (.getfield 28, 3) := by decide +kernel
theorem dX8_machineOf_20 : decode cX8_machineOf 20 = .ok (.invokevirtual 53, 3) := by decide +kernel
theorem dX8_machineOf_23 : decode cX8_machineOf 23 = .ok (.aload_n 0, 1) := by decide +kernel
theorem dX8_machineOf_24 : decode cX8_machineOf 24 = .ok (.iconst 1, 1) := by decide +kernel
theorem dX8_machineOf_25 : decode cX8_machineOf 25 = .ok (.putfield 43, 3) := by decide +kernel
theorem dX8_machineOf_28 : decode cX8_machineOf 28 = .ok (.aload_n 0, 1) := by decide +kernel
theorem dX8_machineOf_29 : decode cX8_machineOf 29 = .ok (.getfield 28, 3) := by decide +kernel
theorem dX8_machineOf_32 : decode cX8_machineOf 32 = .ok (.areturn, 1) := by decide +kernel
set_option maxRecDepth 20000 in
theorem ggX8_rulesOf_X5_learn_p0 : GoodIn wsX8_rulesOf ((wsX5_learn.drop 0).take 40) := goodIn_r _ [9, 10, 11, 12, 13, 14, 15, 16, 17, 18, 19, 20, 21, 22, 23, 24, 25, 26, 27, 28, 29, 30, 31, 32, 33, 8, 34, 35, 36, 37, 38, 39, 40, 41, 42, 43, 44, 45, 46, 47] (by decide +kernel) (by decide +kernel)
set_option maxRecDepth 20000 in
theorem ggX8_rulesOf_X5_learn_p1 : GoodIn wsX8_rulesOf ((wsX5_learn.drop 40).take 40) := goodIn_r _ [48, 49, 50, 51, 52, 53, 54, 55, 56, 57, 58, 59, 60, 61, 62, 63, 64, 65, 66, 67, 68, 69, 70, 71, 72, 73, 74, 75, 76, 77, 78, 79, 80, 81, 82, 83, 84, 85, 86, 87] (by decide +kernel) (by decide +kernel)
set_option maxRecDepth 20000 in
theorem ggX8_rulesOf_X5_learn_p2 : GoodIn wsX8_rulesOf (wsX5_learn.drop 80) := goodIn_r _ [88, 89, 90, 91, 92, 93, 94, 95, 96, 97, 98, 99, 100, 108, 109, 110, 111, 112, 113, 114, 115, 116, 117, 118, 119, 120, 121, 122] (by decide +kernel) (by decide +kernel)
theorem ggX8_rulesOf_X5_learn : GoodIn wsX8_rulesOf wsX5_learn := (goodIn_td 0 40 ggX8_rulesOf_X5_learn_p0 (goodIn_td 40 40 ggX8_rulesOf_X5_learn_p1 ggX8_rulesOf_X5_learn_p2))
set_option maxRecDepth 20000 in
theorem gX8_rulesOf_X5_learn : GoodIn wsX8_rulesOf (wsV RX8 57 RX5 yX5_learn wsX5_learn) := goodIn_app (goodIn_of _ (by decide +kernel)) ggX8_rulesOf_X5_learn
theorem dX8_rulesOf_0 : decode cX8_rulesOf 0 = .ok (.aload_n 0, 1) := by decide +kernel
theorem dX8_rulesOf_1 : decode cX8_rulesOf 1 = .ok (.getfield 47, 3) := by decide +kernel
theorem dX8_rulesOf_4 : decode cX8_rulesOf 4 = .ok (.ifCond .ne 24, 3) := by decide +kernel
theorem dX8_rulesOf_7 : decode cX8_rulesOf 7 = .ok (.aload_n 0, 1) := by decide +kernel
theorem dX8_rulesOf_8 : decode cX8_rulesOf 8 = .ok (.getfield 21, 3) := by decide +kernel
theorem dX8_rulesOf_11 : decode cX8_rulesOf 11 = .ok (.aload_n 1, 1) := by decide +kernel
theorem dX8_rulesOf_12 : decode cX8_rulesOf 12 = .ok (.aload_n 0, 1) := by decide +kernel
theorem dX8_rulesOf_13 : decode cX8_rulesOf 13 = .ok (.getfield 39, 3) := by decide +kernel
theorem dX8_rulesOf_16 : decode cX8_rulesOf 16 = .ok (.aload_n 0, 1) := by decide +kernel
theorem dX8_rulesOf_17 : decode cX8_rulesOf 17 = .ok (.getfield 35, 3) := by decide +kernel
theorem dX8_rulesOf_20 : decode cX8_rulesOf 20 = .ok (.invokevirtual 57, 3) := by decide +kernel
theorem dX8_rulesOf_23 : decode cX8_rulesOf 23 = .ok (.aload_n 0, 1) := by decide +kernel
theorem dX8_rulesOf_24 : decode cX8_rulesOf 24 = .ok (.iconst 1, 1) := by decide +kernel
theorem dX8_rulesOf_25 : decode cX8_rulesOf 25 = .ok (.putfield 47, 3) := by decide +kernel
theorem dX8_rulesOf_28 : decode cX8_rulesOf 28 = .ok (.aload_n 0, 1) := by decide +kernel
theorem dX8_rulesOf_29 : decode cX8_rulesOf 29 = .ok (.getfield 35, 3) := by decide +kernel
theorem dX8_rulesOf_32 : decode cX8_rulesOf 32 = .ok (.areturn, 1) := by decide +kernel
set_option maxRecDepth 20000 in
theorem ggX9_init_X0_init_p0 : GoodIn wsX9_init ((wsX0_init.drop 0).take 40) := goodIn_r _ [19, 20, 2, 3, 21, 22, 23, 24, 25, 15, 16, 26, 27, 28, 29, 30, 31, 32, 33, 34, 35, 36, 37, 38, 39, 40, 41, 42, 43, 44, 45, 46, 47, 48, 49, 50, 51, 52, 53, 54] (by decide +kernel) (by decide +kernel)
set_option maxRecDepth 20000 in
theorem ggX9_init_X0_init_p1 : GoodIn wsX9_init (wsX0_init.drop 40) := goodIn_r _ [55, 56, 57, 58, 59, 60, 61, 62, 63, 64, 65, 66, 67, 130, 131, 132, 133, 134, 108, 109, 122, 123, 124, 125, 126, 127, 128, 129, 135, 136, 137, 138, 139, 140, 141, 142, 143, 144] (by decide +kernel) (by decide +kernel)
theorem ggX9_init_X0_init : GoodIn wsX9_init wsX0_init := (goodIn_td 0 40 ggX9_init_X0_init_p0 ggX9_init_X0_init_p1)
set_option maxRecDepth 20000 in
theorem gX9_init_X0_init_n11 : GoodIn wsX9_init (wsX0_init) := ggX9_init_X0_init
set_option maxRecDepth 20000 in
theorem ggX9_init_X8_init_p0 : GoodIn wsX9_init ((wsX8_init.drop 0).take 40) := goodIn_r _ [69, 70, 2, 3, 71, 72, 73, 74, 75, 76, 77, 78, 79, 39, 40, 80, 81, 43, 44, 82, 83, 84, 85, 86, 30, 87, 88, 89, 90, 91, 92, 93, 94, 95, 96, 97, 98, 99, 100, 101] (by decide +kernel) (by decide +kernel)
set_option maxRecDepth 20000 in
theorem ggX9_init_X8_init_p1 : GoodIn wsX9_init ((wsX8_init.drop 40).take 40) := goodIn_r _ [102, 103, 104, 47, 48, 105, 106, 107, 63, 64, 65, 66, 67, 51, 52, 53, 54, 55, 56, 57, 58, 59, 60, 61, 62, 145, 146, 147, 148, 149, 150, 151, 152, 153, 154, 155, 156, 157, 158, 159] (by decide +kernel) (by decide +kernel)
set_option maxRecDepth 20000 in
theorem ggX9_init_X8_init_p2 : GoodIn wsX9_init (wsX8_init.drop 80) := goodIn_r _ [160, 161, 115, 116, 117, 118, 119, 120, 121, 162, 163, 164, 135, 136, 137, 138, 139, 140, 141, 142, 143, 144] (by decide +kernel) (by decide +kernel)
theorem ggX9_init_X8_init : GoodIn wsX9_init wsX8_init := (goodIn_td 0 40 ggX9_init_X8_init_p0 (goodIn_td 40 40 ggX9_init_X8_init_p1 ggX9_init_X8_init_p2))
set_option maxRecDepth 20000 in
theorem gX9_init_X8_init_n22 : GoodIn wsX9_init (wsX8_init) := ggX9_init_X8_init
set_option maxRecDepth 20000 in
theorem ggX9_init_X7_init : GoodIn wsX9_init wsX7_init := goodIn_r _ [36, 37, 2, 3, 38, 39, 40, 41, 42, 43, 44, 45, 46, 47, 48, 49, 30, 50, 51, 52, 53, 54, 55, 56, 57, 58, 59, 60, 61, 62, 63, 64, 65, 66, 67, 135, 136, 137, 122, 123, 124, 125, 126, 127, 128, 129, 138, 139, 140, 141, 142, 143, 144] (by decide +kernel) (by decide +kernel)
set_option maxRecDepth 20000 in
theorem gX9_init_X7_init_n32 : GoodIn wsX9_init (wsX7_init) := ggX9_init_X7_init
theorem dX9_init_0 : decode cX9_init 0 = .ok (.aload_n 0, 1) := by decide +kernel
theorem dX9_init_1 : decode cX9_init 1 = .ok (.invokespecial 3, 3) := by decide +kernel
theorem dX9_init_4 : decode cX9_init 4 = .ok (.aload_n 0, 1) := by decide +kernel
theorem dX9_init_5 : decode cX9_init 5 = .ok (.new 9, 3) := by decide +kernel
theorem dX9_init_8 : decode cX9_init 8 = .ok (.dup, 1) := by decide +kernel
theorem dX9_init_9 : decode cX9_init 9 = .ok (.invokespecial 11, 3) := by decide +kernel
theorem dX9_init_12 : decode cX9_init 12 = .ok (.putfield 12, 3) := by decide +kernel
theorem dX9_init_15 : decode cX9_init 15 = .ok (.aload_n 0, 1) := by decide +kernel
theorem dX9_init_16 : decode cX9_init 16 = .ok (.iconst 3, 1) := by decide +kernel
theorem dX9_init_17 : decode cX9_init 17 = .ok (.anewarray 9, 3) := by decide +kernel
theorem dX9_init_20 : decode cX9_init 20 = .ok (.putfield 16, 3) := by decide +kernel
theorem dX9_init_23 : decode cX9_init 23 = .ok (.aload_n 0, 1) := by decide +kernel
theorem dX9_init_24 : decode cX9_init 24 = .ok (.new 20, 3) := by decide +kernel
theorem dX9_init_27 : decode cX9_init 27 = .ok (.dup, 1) := by decide +kernel
theorem dX9_init_28 : decode cX9_init 28 = .ok (.invokespecial 22, 3) := by decide +kernel
theorem dX9_init_31 : decode cX9_init 31 = .ok (.putfield 23, 3) := by decide +kernel
theorem dX9_init_34 : decode cX9_init 34 = .ok (.aload_n 0, 1) := by decide +kernel
theorem dX9_init_35 : decode cX9_init 35 = .ok (.new 20, 3) := by decide +kernel
theorem dX9_init_38 : decode cX9_init 38 = .ok (.dup, 1) := by decide +kernel
theorem dX9_init_39 : decode cX9_init 39 = .ok (.invokespecial 22, 3) := by decide +kernel
theorem dX9_init_42 : decode cX9_init 42 = .ok (.putfield 27, 3) := by decide +kernel
theorem dX9_init_45 : decode cX9_init 45 = .ok (.aload_n 0, 1) := by decide +kernel
theorem dX9_init_46 : decode cX9_init 46 = .ok (.new 30, 3) := by decide +kernel
theorem dX9_init_49 : decode cX9_init 49 = .ok (.dup, 1) := by decide +kernel
theorem dX9_init_50 : decode cX9_init 50 = .ok (.invokespecial 32, 3) := by decide +kernel
theorem dX9_init_53 : decode cX9_init 53 = .ok (.putfield 33, 3) := by decide +kernel
theorem dX9_init_56 : decode cX9_init 56 = .ok (.return_, 1) := by decide +kernel
set_option maxRecDepth 20000 in
theorem ggX9_row_X4_open : GoodIn wsX9_row wsX4_open := goodIn_r _ [6, 7, 8, 16, 17, 18, 19, 20] (by decide +kernel) (by decide +kernel)
set_option maxRecDepth 20000 in
theorem gX9_row_X4_open : GoodIn wsX9_row (wsV RX9 41 RX4 yX4_open wsX4_open) := goodIn_app (goodIn_of _ (by decide +kernel)) ggX9_row_X4_open
theorem dX9_row_0 : decode cX9_row 0 = .ok (.aload_n 0, 1) := by decide +kernel
theorem dX9_row_1 : decode cX9_row 1 = .ok (.getfield 12, 3) := by decide +kernel
theorem dX9_row_4 : decode cX9_row 4 = .ok (.getfield 37, 3) := by decide +kernel
theorem dX9_row_7 : decode cX9_row 7 = .ok (.invokevirtual 41, 3) := by decide +kernel
theorem dX9_row_10 : decode cX9_row 10 = .ok (.ireturn, 1) := by decide +kernel
set_option maxRecDepth 20000 in
theorem ggX9_exchange_X9_within : GoodIn wsX9_exchange wsX9_within := goodIn_r _ [6] (by decide +kernel) (by decide +kernel)
set_option maxRecDepth 20000 in
theorem gX9_exchange_X9_within : GoodIn wsX9_exchange (va_wsS RX9 47 yX9_within wsX9_within) := goodIn_app (goodIn_of _ (by decide +kernel)) ggX9_exchange_X9_within
set_option maxRecDepth 20000 in
theorem ggX9_exchange_X4_append : GoodIn wsX9_exchange wsX4_append := goodIn_r _ [11, 12, 13, 14, 15, 16, 17, 18, 10, 19, 20, 41, 42, 43, 44, 45] (by decide +kernel) (by decide +kernel)
set_option maxRecDepth 20000 in
theorem gX9_exchange_X4_append : GoodIn wsX9_exchange (wsV RX9 52 RX4 yX4_append wsX4_append) := goodIn_app (goodIn_of _ (by decide +kernel)) ggX9_exchange_X4_append
set_option maxRecDepth 20000 in
theorem ggX9_exchange_X9_forgetStudies : GoodIn wsX9_exchange wsX9_forgetStudies := goodIn_r _ [24, 25, 26, 27, 28, 29, 30, 31, 32, 33, 34, 35, 36, 37, 38, 46, 47, 48, 49, 50, 51, 52] (by decide +kernel) (by decide +kernel)
set_option maxRecDepth 20000 in
theorem gX9_exchange_X9_forgetStudies : GoodIn wsX9_exchange (wsV RX9 56 RX9 yX9_forgetStudies wsX9_forgetStudies) := goodIn_app (goodIn_of _ (by decide +kernel)) ggX9_exchange_X9_forgetStudies
theorem dX9_exchange_0 : decode cX9_exchange 0 = .ok (.iload_n 2, 1) := by decide +kernel
theorem dX9_exchange_1 : decode cX9_exchange 1 = .ok (.iconst 3, 1) := by decide +kernel
theorem dX9_exchange_2 : decode cX9_exchange 2 = .ok (.invokestatic 47, 3) := by decide +kernel
theorem dX9_exchange_5 : decode cX9_exchange 5 = .ok (.ifCond .eq 23, 3) := by decide +kernel
theorem dX9_exchange_8 : decode cX9_exchange 8 = .ok (.iload_n 3, 1) := by decide +kernel
theorem dX9_exchange_9 : decode cX9_exchange 9 = .ok (.sipush 10000, 3) := by decide +kernel
theorem dX9_exchange_12 : decode cX9_exchange 12 = .ok (.invokestatic 47, 3) := by decide +kernel
theorem dX9_exchange_15 : decode cX9_exchange 15 = .ok (.ifCond .eq 13, 3) := by decide +kernel
theorem dX9_exchange_18 : decode cX9_exchange 18 = .ok (.iload 4, 2) := by decide +kernel
theorem dX9_exchange_20 : decode cX9_exchange 20 = .ok (.ldc 51, 2) := by decide +kernel
theorem dX9_exchange_22 : decode cX9_exchange 22 = .ok (.invokestatic 47, 3) := by decide +kernel
theorem dX9_exchange_25 : decode cX9_exchange 25 = .ok (.ifCond .ne 5, 3) := by decide +kernel
theorem dX9_exchange_28 : decode cX9_exchange 28 = .ok (.iconst (-1), 1) := by decide +kernel
theorem dX9_exchange_29 : decode cX9_exchange 29 = .ok (.ireturn, 1) := by decide +kernel
theorem dX9_exchange_30 : decode cX9_exchange 30 = .ok (.aload_n 0, 1) := by decide +kernel
theorem dX9_exchange_31 : decode cX9_exchange 31 = .ok (.getfield 12, 3) := by decide +kernel
theorem dX9_exchange_34 : decode cX9_exchange 34 = .ok (.getfield 37, 3) := by decide +kernel
theorem dX9_exchange_37 : decode cX9_exchange 37 = .ok (.iload_n 1, 1) := by decide +kernel
theorem dX9_exchange_38 : decode cX9_exchange 38 = .ok (.iload_n 2, 1) := by decide +kernel
theorem dX9_exchange_39 : decode cX9_exchange 39 = .ok (.iload_n 3, 1) := by decide +kernel
theorem dX9_exchange_40 : decode cX9_exchange 40 = .ok (.iload 4, 2) := by decide +kernel
theorem dX9_exchange_42 : decode cX9_exchange 42 = .ok (.invokevirtual 52, 3) := by decide +kernel
theorem dX9_exchange_45 : decode cX9_exchange 45 = .ok (.istore 5, 2) := by decide +kernel
theorem dX9_exchange_47 : decode cX9_exchange 47 = .ok (.iload 5, 2) := by decide +kernel
theorem dX9_exchange_49 : decode cX9_exchange 49 = .ok (.iconst (-1), 1) := by decide +kernel
theorem dX9_exchange_50 : decode cX9_exchange 50 = .ok (.if_icmp .eq 7, 3) := by decide +kernel
theorem dX9_exchange_53 : decode cX9_exchange 53 = .ok (.aload_n 0, 1) := by decide +kernel
theorem dX9_exchange_54 : decode cX9_exchange 54 = .ok (.invokevirtual 56, 3) := by decide +kernel
theorem dX9_exchange_57 : decode cX9_exchange 57 = .ok (.iload 5, 2) := by decide +kernel
theorem dX9_exchange_59 : decode cX9_exchange 59 = .ok (.ireturn, 1) := by decide +kernel
set_option maxRecDepth 20000 in
theorem ggX9_cut_X4_shorten : GoodIn wsX9_cut wsX4_shorten := goodIn_r _ [6, 7, 8, 9, 10, 5, 11, 12, 34, 35, 36, 37, 38] (by decide +kernel) (by decide +kernel)
set_option maxRecDepth 20000 in
theorem gX9_cut_X4_shorten : GoodIn wsX9_cut (wsV RX9 59 RX4 yX4_shorten wsX4_shorten) := goodIn_app (goodIn_of _ (by decide +kernel)) ggX9_cut_X4_shorten
set_option maxRecDepth 20000 in
theorem ggX9_cut_X9_forgetStudies : GoodIn wsX9_cut wsX9_forgetStudies := goodIn_r _ [17, 18, 19, 20, 21, 22, 23, 24, 25, 26, 27, 28, 29, 30, 31, 39, 40, 41, 42, 43, 44, 45] (by decide +kernel) (by decide +kernel)
set_option maxRecDepth 20000 in
theorem gX9_cut_X9_forgetStudies : GoodIn wsX9_cut (wsV RX9 56 RX9 yX9_forgetStudies wsX9_forgetStudies) := goodIn_app (goodIn_of _ (by decide +kernel)) ggX9_cut_X9_forgetStudies
theorem dX9_cut_0 : decode cX9_cut 0 = .ok (.aload_n 0, 1) := by decide +kernel
theorem dX9_cut_1 : decode cX9_cut 1 = .ok (.getfield 12, 3) := by decide +kernel
theorem dX9_cut_4 : decode cX9_cut 4 = .ok (.getfield 37, 3) := by decide +kernel
theorem dX9_cut_7 : decode cX9_cut 7 = .ok (.iload_n 1, 1) := by decide +kernel
theorem dX9_cut_8 : decode cX9_cut 8 = .ok (.iload_n 2, 1) := by decide +kernel
theorem dX9_cut_9 : decode cX9_cut 9 = .ok (.invokevirtual 59, 3) := by decide +kernel
theorem dX9_cut_12 : decode cX9_cut 12 = .ok (.istore_n 3, 1) := by decide +kernel
theorem dX9_cut_13 : decode cX9_cut 13 = .ok (.iload_n 3, 1) := by decide +kernel
theorem dX9_cut_14 : decode cX9_cut 14 = .ok (.ifCond .eq 7, 3) := by decide +kernel
theorem dX9_cut_17 : decode cX9_cut 17 = .ok (.aload_n 0, 1) := by decide +kernel
theorem dX9_cut_18 : decode cX9_cut 18 = .ok (.invokevirtual 56, 3) := by decide +kernel
theorem dX9_cut_21 : decode cX9_cut 21 = .ok (.iload_n 3, 1) := by decide +kernel
theorem dX9_cut_22 : decode cX9_cut 22 = .ok (.ireturn, 1) := by decide +kernel
set_option maxRecDepth 20000 in
theorem ggX9_tell_X4_length : GoodIn wsX9_tell wsX4_length := goodIn_r _ [6, 7, 8, 41, 42, 43, 44, 45] (by decide +kernel) (by decide +kernel)
set_option maxRecDepth 20000 in
theorem gX9_tell_X4_length : GoodIn wsX9_tell (wsV RX9 62 RX4 yX4_length wsX4_length) := goodIn_app (goodIn_of _ (by decide +kernel)) ggX9_tell_X4_length
set_option maxRecDepth 20000 in
theorem ggX9_tell_X9_within : GoodIn wsX9_tell wsX9_within := goodIn_r _ [12] (by decide +kernel) (by decide +kernel)
set_option maxRecDepth 20000 in
theorem gX9_tell_X9_within : GoodIn wsX9_tell (va_wsS RX9 47 yX9_within wsX9_within) := goodIn_app (goodIn_of _ (by decide +kernel)) ggX9_tell_X9_within
set_option maxRecDepth 20000 in
theorem ggX9_tell_X4_askAt : GoodIn wsX9_tell wsX4_askAt := goodIn_r _ [16, 17, 41, 42, 43, 44, 45] (by decide +kernel) (by decide +kernel)
set_option maxRecDepth 20000 in
theorem gX9_tell_X4_askAt : GoodIn wsX9_tell (wsV RX9 66 RX4 yX4_askAt wsX4_askAt) := goodIn_app (goodIn_of _ (by decide +kernel)) ggX9_tell_X4_askAt
set_option maxRecDepth 20000 in
theorem ggX9_tell_X4_answerAt : GoodIn wsX9_tell wsX4_answerAt := goodIn_r _ [21, 22, 41, 42, 43, 44, 45] (by decide +kernel) (by decide +kernel)
set_option maxRecDepth 20000 in
theorem gX9_tell_X4_answerAt : GoodIn wsX9_tell (wsV RX9 70 RX4 yX4_answerAt wsX4_answerAt) := goodIn_app (goodIn_of _ (by decide +kernel)) ggX9_tell_X4_answerAt
set_option maxRecDepth 20000 in
theorem ggX9_tell_X4_verbAt : GoodIn wsX9_tell wsX4_verbAt := goodIn_r _ [26, 27, 41, 42, 43, 44, 45] (by decide +kernel) (by decide +kernel)
set_option maxRecDepth 20000 in
theorem gX9_tell_X4_verbAt : GoodIn wsX9_tell (wsV RX9 73 RX4 yX4_verbAt wsX4_verbAt) := goodIn_app (goodIn_of _ (by decide +kernel)) ggX9_tell_X4_verbAt
set_option maxRecDepth 20000 in
theorem ggX9_tell_X9_codeOf : GoodIn wsX9_tell wsX9_codeOf := goodIn_r _ [30] (by decide +kernel) (by decide +kernel)
set_option maxRecDepth 20000 in
theorem gX9_tell_X9_codeOf : GoodIn wsX9_tell (va_wsS RX9 76 yX9_codeOf wsX9_codeOf) := goodIn_app (goodIn_of _ (by decide +kernel)) ggX9_tell_X9_codeOf
set_option maxRecDepth 20000 in
theorem ggX9_tell_X9_fieldOf : GoodIn wsX9_tell wsX9_fieldOf := goodIn_r _ [33] (by decide +kernel) (by decide +kernel)
set_option maxRecDepth 20000 in
theorem gX9_tell_X9_fieldOf : GoodIn wsX9_tell (va_wsS RX9 79 yX9_fieldOf wsX9_fieldOf) := goodIn_app (goodIn_of _ (by decide +kernel)) ggX9_tell_X9_fieldOf
theorem dX9_tell_0 : decode cX9_tell 0 = .ok (.aload_n 0, 1) := by decide +kernel
theorem dX9_tell_1 : decode cX9_tell 1 = .ok (.getfield 12, 3) := by decide +kernel
theorem dX9_tell_4 : decode cX9_tell 4 = .ok (.getfield 37, 3) := by decide +kernel
theorem dX9_tell_7 : decode cX9_tell 7 = .ok (.astore 4, 2) := by decide +kernel
theorem dX9_tell_9 : decode cX9_tell 9 = .ok (.iload_n 2, 1) := by decide +kernel
theorem dX9_tell_10 : decode cX9_tell 10 = .ok (.aload 4, 2) := by decide +kernel
theorem dX9_tell_12 : decode cX9_tell 12 = .ok (.iload_n 1, 1) := by decide +kernel
theorem dX9_tell_13 : decode cX9_tell 13 = .ok (.invokevirtual 62, 3) := by decide +kernel
theorem dX9_tell_16 : decode cX9_tell 16 = .ok (.invokestatic 47, 3) := by decide +kernel
theorem dX9_tell_19 : decode cX9_tell 19 = .ok (.ifCond .ne 5, 3) := by decide +kernel
theorem dX9_tell_22 : decode cX9_tell 22 = .ok (.iconst (-1), 1) := by decide +kernel
theorem dX9_tell_23 : decode cX9_tell 23 = .ok (.ireturn, 1) := by decide +kernel
theorem dX9_tell_24 : decode cX9_tell 24 = .ok (.aload 4, 2) := by decide +kernel
theorem dX9_tell_26 : decode cX9_tell 26 = .ok (.iload_n 1, 1) := by decide +kernel
theorem dX9_tell_27 : decode cX9_tell 27 = .ok (.iload_n 2, 1) := by decide +kernel
theorem dX9_tell_28 : decode cX9_tell 28 = .ok (.invokevirtual 66, 3) := by decide +kernel
theorem dX9_tell_31 : decode cX9_tell 31 = .ok (.istore 5, 2) := by decide +kernel
theorem dX9_tell_33 : decode cX9_tell 33 = .ok (.aload 4, 2) := by decide +kernel
theorem dX9_tell_35 : decode cX9_tell 35 = .ok (.iload_n 1, 1) := by decide +kernel
theorem dX9_tell_36 : decode cX9_tell 36 = .ok (.iload_n 2, 1) := by decide +kernel
theorem dX9_tell_37 : decode cX9_tell 37 = .ok (.invokevirtual 70, 3) := by decide +kernel
theorem dX9_tell_40 : decode cX9_tell 40 = .ok (.istore 6, 2) := by decide +kernel
theorem dX9_tell_42 : decode cX9_tell 42 = .ok (.iload_n 3, 1) := by decide +kernel
theorem dX9_tell_43 : decode cX9_tell 43 = .ok (.tableswitch 77 0 5 #[37, 45, 51, 57, 63, 70], 37) := by decide +kernel
theorem dX9_tell_80 : decode cX9_tell 80 = .ok (.aload 4, 2) := by decide +kernel
theorem dX9_tell_82 : decode cX9_tell 82 = .ok (.iload_n 1, 1) := by decide +kernel
theorem dX9_tell_83 : decode cX9_tell 83 = .ok (.iload_n 2, 1) := by decide +kernel
theorem dX9_tell_84 : decode cX9_tell 84 = .ok (.invokevirtual 73, 3) := by decide +kernel
theorem dX9_tell_87 : decode cX9_tell 87 = .ok (.ireturn, 1) := by decide +kernel
theorem dX9_tell_88 : decode cX9_tell 88 = .ok (.iload 5, 2) := by decide +kernel
theorem dX9_tell_90 : decode cX9_tell 90 = .ok (.bipush 100, 2) := by decide +kernel
theorem dX9_tell_92 : decode cX9_tell 92 = .ok (.idiv, 1) := by decide +kernel
theorem dX9_tell_93 : decode cX9_tell 93 = .ok (.ireturn, 1) := by decide +kernel
theorem dX9_tell_94 : decode cX9_tell 94 = .ok (.iload 5, 2) := by decide +kernel
theorem dX9_tell_96 : decode cX9_tell 96 = .ok (.bipush 100, 2) := by decide +kernel
theorem dX9_tell_98 : decode cX9_tell 98 = .ok (.irem, 1) := by decide +kernel
theorem dX9_tell_99 : decode cX9_tell 99 = .ok (.ireturn, 1) := by decide +kernel
theorem dX9_tell_100 : decode cX9_tell 100 = .ok (.iload 6, 2) := by decide +kernel
theorem dX9_tell_102 : decode cX9_tell 102 = .ok (.invokestatic 76, 3) := by decide +kernel
theorem dX9_tell_105 : decode cX9_tell 105 = .ok (.ireturn, 1) := by decide +kernel
theorem dX9_tell_106 : decode cX9_tell 106 = .ok (.iload 6, 2) := by decide +kernel
theorem dX9_tell_108 : decode cX9_tell 108 = .ok (.iconst 0, 1) := by decide +kernel
theorem dX9_tell_109 : decode cX9_tell 109 = .ok (.invokestatic 79, 3) := by decide +kernel
theorem dX9_tell_112 : decode cX9_tell 112 = .ok (.ireturn, 1) := by decide +kernel
theorem dX9_tell_113 : decode cX9_tell 113 = .ok (.iload 6, 2) := by decide +kernel
theorem dX9_tell_115 : decode cX9_tell 115 = .ok (.iconst 1, 1) := by decide +kernel
theorem dX9_tell_116 : decode cX9_tell 116 = .ok (.invokestatic 79, 3) := by decide +kernel
theorem dX9_tell_119 : decode cX9_tell 119 = .ok (.ireturn, 1) := by decide +kernel
theorem dX9_tell_120 : decode cX9_tell 120 = .ok (.iconst (-1), 1) := by decide +kernel
theorem dX9_tell_121 : decode cX9_tell 121 = .ok (.ireturn, 1) := by decide +kernel
set_option maxRecDepth 20000 in
theorem ggX9_quarrel_X4_size : GoodIn wsX9_quarrel wsX4_size := goodIn_r _ [6, 7, 40, 41, 42, 43, 44] (by decide +kernel) (by decide +kernel)
set_option maxRecDepth 20000 in
theorem gX9_quarrel_X4_size : GoodIn wsX9_quarrel (wsV RX9 82 RX4 yX4_size wsX4_size) := goodIn_app (goodIn_of _ (by decide +kernel)) ggX9_quarrel_X4_size
set_option maxRecDepth 20000 in
theorem ggX9_quarrel_X4_quarrelPlace : GoodIn wsX9_quarrel wsX4_quarrelPlace := goodIn_r _ [11, 12, 13, 14, 15, 16, 17, 18, 19, 5, 20, 21, 22, 23, 24, 25, 26, 27, 28, 29, 40, 41, 42, 43, 44] (by decide +kernel) (by decide +kernel)
set_option maxRecDepth 20000 in
theorem gX9_quarrel_X4_quarrelPlace : GoodIn wsX9_quarrel (wsV RX9 85 RX4 yX4_quarrelPlace wsX4_quarrelPlace) := goodIn_app (goodIn_of _ (by decide +kernel)) ggX9_quarrel_X4_quarrelPlace
set_option maxRecDepth 20000 in
theorem ggX9_quarrel_X9_pickOfThree : GoodIn wsX9_quarrel wsX9_pickOfThree := goodIn_r _ [32] (by decide +kernel) (by decide +kernel)
set_option maxRecDepth 20000 in
theorem gX9_quarrel_X9_pickOfThree : GoodIn wsX9_quarrel (va_wsS RX9 88 yX9_pickOfThree wsX9_pickOfThree) := goodIn_app (goodIn_of _ (by decide +kernel)) ggX9_quarrel_X9_pickOfThree
theorem dX9_quarrel_0 : decode cX9_quarrel 0 = .ok (.aload_n 0, 1) := by decide +kernel
theorem dX9_quarrel_1 : decode cX9_quarrel 1 = .ok (.getfield 12, 3) := by decide +kernel
theorem dX9_quarrel_4 : decode cX9_quarrel 4 = .ok (.getfield 37, 3) := by decide +kernel
theorem dX9_quarrel_7 : decode cX9_quarrel 7 = .ok (.astore_n 2, 1) := by decide +kernel
theorem dX9_quarrel_8 : decode cX9_quarrel 8 = .ok (.iconst 0, 1) := by decide +kernel
theorem dX9_quarrel_9 : decode cX9_quarrel 9 = .ok (.istore_n 3, 1) := by decide +kernel
theorem dX9_quarrel_10 : decode cX9_quarrel 10 = .ok (.iload_n 3, 1) := by decide +kernel
theorem dX9_quarrel_11 : decode cX9_quarrel 11 = .ok (.aload_n 2, 1) := by decide +kernel
theorem dX9_quarrel_12 : decode cX9_quarrel 12 = .ok (.invokevirtual 82, 3) := by decide +kernel
theorem dX9_quarrel_15 : decode cX9_quarrel 15 = .ok (.if_icmp .ge 54, 3) := by decide +kernel
theorem dX9_quarrel_18 : decode cX9_quarrel 18 = .ok (.iload_n 3, 1) := by decide +kernel
theorem dX9_quarrel_19 : decode cX9_quarrel 19 = .ok (.iconst 1, 1) := by decide +kernel
theorem dX9_quarrel_20 : decode cX9_quarrel 20 = .ok (.iadd, 1) := by decide +kernel
theorem dX9_quarrel_21 : decode cX9_quarrel 21 = .ok (.istore 4, 2) := by decide +kernel
theorem dX9_quarrel_23 : decode cX9_quarrel 23 = .ok (.iload 4, 2) := by decide +kernel
theorem dX9_quarrel_25 : decode cX9_quarrel 25 = .ok (.aload_n 2, 1) := by decide +kernel
theorem dX9_quarrel_26 : decode cX9_quarrel 26 = .ok (.invokevirtual 82, 3) := by decide +kernel
theorem dX9_quarrel_29 : decode cX9_quarrel 29 = .ok (.if_icmp .ge 34, 3) := by decide +kernel
theorem dX9_quarrel_32 : decode cX9_quarrel 32 = .ok (.aload_n 2, 1) := by decide +kernel
theorem dX9_quarrel_33 : decode cX9_quarrel 33 = .ok (.iload_n 3, 1) := by decide +kernel
theorem dX9_quarrel_34 : decode cX9_quarrel 34 = .ok (.iload 4, 2) := by decide +kernel
theorem dX9_quarrel_36 : decode cX9_quarrel 36 = .ok (.invokevirtual 85, 3) := by decide +kernel
theorem dX9_quarrel_39 : decode cX9_quarrel 39 = .ok (.istore 5, 2) := by decide +kernel
theorem dX9_quarrel_41 : decode cX9_quarrel 41 = .ok (.iload 5, 2) := by decide +kernel
theorem dX9_quarrel_43 : decode cX9_quarrel 43 = .ok (.iconst (-1), 1) := by decide +kernel
theorem dX9_quarrel_44 : decode cX9_quarrel 44 = .ok (.if_icmp .eq 13, 3) := by decide +kernel
theorem dX9_quarrel_47 : decode cX9_quarrel 47 = .ok (.iload_n 1, 1) := by decide +kernel
theorem dX9_quarrel_48 : decode cX9_quarrel 48 = .ok (.iload_n 3, 1) := by decide +kernel
theorem dX9_quarrel_49 : decode cX9_quarrel 49 = .ok (.iload 4, 2) := by decide +kernel
theorem dX9_quarrel_51 : decode cX9_quarrel 51 = .ok (.iload 5, 2) := by decide +kernel
theorem dX9_quarrel_53 : decode cX9_quarrel 53 = .ok (.invokestatic 88, 3) := by decide +kernel
theorem dX9_quarrel_56 : decode cX9_quarrel 56 = .ok (.ireturn, 1) := by decide +kernel
theorem dX9_quarrel_57 : decode cX9_quarrel 57 = .ok (.iinc 4 1, 3) := by decide +kernel
theorem dX9_quarrel_60 : decode cX9_quarrel 60 = .ok (.goto (-37), 3) := by decide +kernel
theorem dX9_quarrel_63 : decode cX9_quarrel 63 = .ok (.iinc 3 1, 3) := by decide +kernel
theorem dX9_quarrel_66 : decode cX9_quarrel 66 = .ok (.goto (-56), 3) := by decide +kernel
theorem dX9_quarrel_69 : decode cX9_quarrel 69 = .ok (.iconst (-1), 1) := by decide +kernel
theorem dX9_quarrel_70 : decode cX9_quarrel 70 = .ok (.ireturn, 1) := by decide +kernel
set_option maxRecDepth 20000 in
theorem ggX9_rule_X9_within : GoodIn wsX9_rule wsX9_within := goodIn_r _ [6] (by decide +kernel) (by decide +kernel)
set_option maxRecDepth 20000 in
theorem gX9_rule_X9_within : GoodIn wsX9_rule (va_wsS RX9 47 yX9_within wsX9_within) := goodIn_app (goodIn_of _ (by decide +kernel)) ggX9_rule_X9_within
set_option maxRecDepth 20000 in
theorem ggX9_rule_X8_rulesOf_p0 : GoodIn wsX9_rule ((wsX8_rulesOf.drop 0).take 40) := goodIn_r _ [11, 12, 13, 14, 15, 16, 17, 18, 19, 20, 21, 22, 23, 24, 25, 26, 27, 28, 29, 30, 31, 32, 33, 34, 35, 36, 37, 38, 39, 40, 41, 42, 43, 44, 45, 46, 47, 48, 49, 50] (by decide +kernel) (by decide +kernel)
set_option maxRecDepth 20000 in
theorem ggX9_rule_X8_rulesOf_p1 : GoodIn wsX9_rule ((wsX8_rulesOf.drop 40).take 40) := goodIn_r _ [51, 52, 53, 54, 55, 56, 57, 58, 59, 60, 61, 62, 63, 64, 65, 66, 67, 68, 69, 70, 71, 72, 73, 74, 75, 76, 77, 78, 79, 80, 81, 82, 83, 84, 85, 5, 86, 87, 88, 89] (by decide +kernel) (by decide +kernel)
set_option maxRecDepth 20000 in
theorem ggX9_rule_X8_rulesOf_p2 : GoodIn wsX9_rule ((wsX8_rulesOf.drop 80).take 40) := goodIn_r _ [90, 91, 92, 93, 94, 95, 96, 97, 98, 99, 100, 101, 102, 103, 104, 105, 106, 107, 108, 109, 110, 122, 123, 124, 125, 126, 127, 128, 129, 130, 131, 132, 133, 134, 135, 136, 137, 138, 139, 140] (by decide +kernel) (by decide +kernel)
set_option maxRecDepth 20000 in
theorem ggX9_rule_X8_rulesOf_p3 : GoodIn wsX9_rule (wsX8_rulesOf.drop 120) := goodIn_r _ [141, 142, 143] (by decide +kernel) (by decide +kernel)
theorem ggX9_rule_X8_rulesOf : GoodIn wsX9_rule wsX8_rulesOf := (goodIn_td 0 40 ggX9_rule_X8_rulesOf_p0 (goodIn_td 40 40 ggX9_rule_X8_rulesOf_p1 (goodIn_td 80 40 ggX9_rule_X8_rulesOf_p2 ggX9_rule_X8_rulesOf_p3)))
set_option maxRecDepth 20000 in
theorem gX9_rule_X8_rulesOf : GoodIn wsX9_rule (wsV RX9 91 RX8 yX8_rulesOf wsX8_rulesOf) := goodIn_app (goodIn_of _ (by decide +kernel)) ggX9_rule_X8_rulesOf
set_option maxRecDepth 20000 in
theorem ggX9_rule_X6_kindOf : GoodIn wsX9_rule wsX6_kindOf := goodIn_r _ [114, 32, 132, 133, 134, 135, 136] (by decide +kernel) (by decide +kernel)
set_option maxRecDepth 20000 in
theorem gX9_rule_X6_kindOf : GoodIn wsX9_rule (wsV RX9 95 RX6 yX6_kindOf wsX6_kindOf) := goodIn_app (goodIn_of _ (by decide +kernel)) ggX9_rule_X6_kindOf
theorem dX9_rule_0 : decode cX9_rule 0 = .ok (.iload_n 1, 1) := by decide +kernel
theorem dX9_rule_1 : decode cX9_rule 1 = .ok (.iconst 3, 1) := by decide +kernel
theorem dX9_rule_2 : decode cX9_rule 2 = .ok (.invokestatic 47, 3) := by decide +kernel
theorem dX9_rule_5 : decode cX9_rule 5 = .ok (.ifCond .eq 11, 3) := by decide +kernel
theorem dX9_rule_8 : decode cX9_rule 8 = .ok (.iload_n 2, 1) := by decide +kernel
theorem dX9_rule_9 : decode cX9_rule 9 = .ok (.iconst 2, 1) := by decide +kernel
theorem dX9_rule_10 : decode cX9_rule 10 = .ok (.invokestatic 47, 3) := by decide +kernel
theorem dX9_rule_13 : decode cX9_rule 13 = .ok (.ifCond .ne 5, 3) := by decide +kernel
theorem dX9_rule_16 : decode cX9_rule 16 = .ok (.iconst (-1), 1) := by decide +kernel
theorem dX9_rule_17 : decode cX9_rule 17 = .ok (.ireturn, 1) := by decide +kernel
theorem dX9_rule_18 : decode cX9_rule 18 = .ok (.aload_n 0, 1) := by decide +kernel
theorem dX9_rule_19 : decode cX9_rule 19 = .ok (.getfield 23, 3) := by decide +kernel
theorem dX9_rule_22 : decode cX9_rule 22 = .ok (.aload_n 0, 1) := by decide +kernel
theorem dX9_rule_23 : decode cX9_rule 23 = .ok (.getfield 12, 3) := by decide +kernel
theorem dX9_rule_26 : decode cX9_rule 26 = .ok (.getfield 37, 3) := by decide +kernel
theorem dX9_rule_29 : decode cX9_rule 29 = .ok (.invokevirtual 91, 3) := by decide +kernel
theorem dX9_rule_32 : decode cX9_rule 32 = .ok (.iload_n 1, 1) := by decide +kernel
theorem dX9_rule_33 : decode cX9_rule 33 = .ok (.iload_n 2, 1) := by decide +kernel
theorem dX9_rule_34 : decode cX9_rule 34 = .ok (.invokevirtual 95, 3) := by decide +kernel
theorem dX9_rule_37 : decode cX9_rule 37 = .ok (.ireturn, 1) := by decide +kernel
set_option maxRecDepth 20000 in
theorem ggX9_by_X9_within : GoodIn wsX9_by wsX9_within := goodIn_r _ [6] (by decide +kernel) (by decide +kernel)
set_option maxRecDepth 20000 in
theorem gX9_by_X9_within : GoodIn wsX9_by (va_wsS RX9 47 yX9_within wsX9_within) := goodIn_app (goodIn_of _ (by decide +kernel)) ggX9_by_X9_within
set_option maxRecDepth 20000 in
theorem ggX9_by_X8_rulesOf_p0 : GoodIn wsX9_by ((wsX8_rulesOf.drop 0).take 40) := goodIn_r _ [11, 12, 13, 14, 15, 16, 17, 18, 19, 20, 21, 22, 23, 24, 25, 26, 27, 28, 29, 30, 31, 32, 33, 34, 35, 36, 37, 38, 39, 40, 41, 42, 43, 44, 45, 46, 47, 48, 49, 50] (by decide +kernel) (by decide +kernel)
set_option maxRecDepth 20000 in
theorem ggX9_by_X8_rulesOf_p1 : GoodIn wsX9_by ((wsX8_rulesOf.drop 40).take 40) := goodIn_r _ [51, 52, 53, 54, 55, 56, 57, 58, 59, 60, 61, 62, 63, 64, 65, 66, 67, 68, 69, 70, 71, 72, 73, 74, 75, 76, 77, 78, 79, 80, 81, 82, 83, 84, 85, 5, 86, 87, 88, 89] (by decide +kernel) (by decide +kernel)
set_option maxRecDepth 20000 in
theorem ggX9_by_X8_rulesOf_p2 : GoodIn wsX9_by ((wsX8_rulesOf.drop 80).take 40) := goodIn_r _ [90, 91, 92, 93, 94, 95, 96, 97, 98, 99, 100, 101, 102, 103, 104, 105, 106, 107, 108, 109, 110, 122, 123, 124, 125, 126, 127, 128, 129, 130, 131, 132, 133, 134, 135, 136, 137, 138, 139, 140] (by decide +kernel) (by decide +kernel)
set_option maxRecDepth 20000 in
theorem ggX9_by_X8_rulesOf_p3 : GoodIn wsX9_by (wsX8_rulesOf.drop 120) := goodIn_r _ [141, 142, 143] (by decide +kernel) (by decide +kernel)
theorem ggX9_by_X8_rulesOf : GoodIn wsX9_by wsX8_rulesOf := (goodIn_td 0 40 ggX9_by_X8_rulesOf_p0 (goodIn_td 40 40 ggX9_by_X8_rulesOf_p1 (goodIn_td 80 40 ggX9_by_X8_rulesOf_p2 ggX9_by_X8_rulesOf_p3)))
set_option maxRecDepth 20000 in
theorem gX9_by_X8_rulesOf : GoodIn wsX9_by (wsV RX9 91 RX8 yX8_rulesOf wsX8_rulesOf) := goodIn_app (goodIn_of _ (by decide +kernel)) ggX9_by_X8_rulesOf
set_option maxRecDepth 20000 in
theorem ggX9_by_X6_offsetOf : GoodIn wsX9_by wsX6_offsetOf := goodIn_r _ [114, 33, 132, 133, 134, 135, 136] (by decide +kernel) (by decide +kernel)
set_option maxRecDepth 20000 in
theorem gX9_by_X6_offsetOf : GoodIn wsX9_by (wsV RX9 100 RX6 yX6_offsetOf wsX6_offsetOf) := goodIn_app (goodIn_of _ (by decide +kernel)) ggX9_by_X6_offsetOf
theorem dX9_by_0 : decode cX9_by 0 = .ok (.iload_n 1, 1) := by decide +kernel
theorem dX9_by_1 : decode cX9_by 1 = .ok (.iconst 3, 1) := by decide +kernel
theorem dX9_by_2 : decode cX9_by 2 = .ok (.invokestatic 47, 3) := by decide +kernel
theorem dX9_by_5 : decode cX9_by 5 = .ok (.ifCond .eq 11, 3) := by decide +kernel
theorem dX9_by_8 : decode cX9_by 8 = .ok (.iload_n 2, 1) := by decide +kernel
theorem dX9_by_9 : decode cX9_by 9 = .ok (.iconst 2, 1) := by decide +kernel
theorem dX9_by_10 : decode cX9_by 10 = .ok (.invokestatic 47, 3) := by decide +kernel
theorem dX9_by_13 : decode cX9_by 13 = .ok (.ifCond .ne 7, 3) := by decide +kernel
theorem dX9_by_16 : decode cX9_by 16 = .ok (.sipush (-1000), 3) := by decide +kernel
theorem dX9_by_19 : decode cX9_by 19 = .ok (.ireturn, 1) := by decide +kernel
theorem dX9_by_20 : decode cX9_by 20 = .ok (.aload_n 0, 1) := by decide +kernel
theorem dX9_by_21 : decode cX9_by 21 = .ok (.getfield 23, 3) := by decide +kernel
theorem dX9_by_24 : decode cX9_by 24 = .ok (.aload_n 0, 1) := by decide +kernel
theorem dX9_by_25 : decode cX9_by 25 = .ok (.getfield 12, 3) := by decide +kernel
theorem dX9_by_28 : decode cX9_by 28 = .ok (.getfield 37, 3) := by decide +kernel
theorem dX9_by_31 : decode cX9_by 31 = .ok (.invokevirtual 91, 3) := by decide +kernel
theorem dX9_by_34 : decode cX9_by 34 = .ok (.iload_n 1, 1) := by decide +kernel
theorem dX9_by_35 : decode cX9_by 35 = .ok (.iload_n 2, 1) := by decide +kernel
theorem dX9_by_36 : decode cX9_by 36 = .ok (.invokevirtual 100, 3) := by decide +kernel
theorem dX9_by_39 : decode cX9_by 39 = .ok (.ireturn, 1) := by decide +kernel
set_option maxRecDepth 20000 in
theorem ggX9_states_X8_machineOf_p0 : GoodIn wsX9_states ((wsX8_machineOf.drop 0).take 40) := goodIn_r _ [7, 8, 9, 10, 11, 12, 13, 14, 15, 16, 17, 18, 19, 20, 21, 22, 23, 24, 25, 26, 27, 28, 29, 30, 31, 32, 33, 34, 35, 36, 37, 38, 39, 40, 41, 42, 43, 44, 45, 46] (by decide +kernel) (by decide +kernel)
set_option maxRecDepth 20000 in
theorem ggX9_states_X8_machineOf_p1 : GoodIn wsX9_states ((wsX8_machineOf.drop 40).take 40) := goodIn_r _ [47, 48, 49, 50, 51, 52, 53, 54, 55, 56, 57, 58, 59, 60, 61, 62, 63, 64, 65, 66, 67, 68, 69, 70, 71, 72, 73, 74, 75, 76, 77, 78, 79, 80, 81, 82, 83, 84, 85, 86] (by decide +kernel) (by decide +kernel)
set_option maxRecDepth 20000 in
theorem ggX9_states_X8_machineOf_p2 : GoodIn wsX9_states ((wsX8_machineOf.drop 80).take 40) := goodIn_r _ [87, 88, 89, 90, 91, 92, 93, 94, 95, 96, 97, 98, 99, 100, 101, 102, 103, 104, 105, 106, 107, 108, 109, 110, 111, 112, 113, 114, 115, 116, 117, 118, 119, 120, 121, 122, 123, 124, 125, 126] (by decide +kernel) (by decide +kernel)
set_option maxRecDepth 20000 in
theorem ggX9_states_X8_machineOf_p3 : GoodIn wsX9_states (wsX8_machineOf.drop 120) := goodIn_r _ [127, 128, 129, 130, 131, 143, 144, 145, 146, 147, 148, 149, 150, 151, 152, 153, 154, 155, 156, 157, 158, 159, 160, 161, 162, 163, 164, 165, 166, 167, 168, 169, 170, 171, 172, 173, 174] (by decide +kernel) (by decide +kernel)
theorem ggX9_states_X8_machineOf : GoodIn wsX9_states wsX8_machineOf := (goodIn_td 0 40 ggX9_states_X8_machineOf_p0 (goodIn_td 40 40 ggX9_states_X8_machineOf_p1 (goodIn_td 80 40 ggX9_states_X8_machineOf_p2 ggX9_states_X8_machineOf_p3)))
set_option maxRecDepth 20000 in
theorem gX9_states_X8_machineOf : GoodIn wsX9_states (wsV RX9 103 RX8 yX8_machineOf wsX8_machineOf) := goodIn_app (goodIn_of _ (by decide +kernel)) ggX9_states_X8_machineOf
set_option maxRecDepth 20000 in
theorem ggX9_states_X1_size : GoodIn wsX9_states wsX1_size := goodIn_r _ [135, 70, 172, 173, 174] (by decide +kernel) (by decide +kernel)
set_option maxRecDepth 20000 in
theorem gX9_states_X1_size : GoodIn wsX9_states (wsV RX9 107 RX1 yX1_size wsX1_size) := goodIn_app (goodIn_of _ (by decide +kernel)) ggX9_states_X1_size
theorem dX9_states_0 : decode cX9_states 0 = .ok (.aload_n 0, 1) := by decide +kernel
theorem dX9_states_1 : decode cX9_states 1 = .ok (.getfield 23, 3) := by decide +kernel
theorem dX9_states_4 : decode cX9_states 4 = .ok (.aload_n 0, 1) := by decide +kernel
theorem dX9_states_5 : decode cX9_states 5 = .ok (.getfield 12, 3) := by decide +kernel
theorem dX9_states_8 : decode cX9_states 8 = .ok (.getfield 37, 3) := by decide +kernel
theorem dX9_states_11 : decode cX9_states 11 = .ok (.invokevirtual 103, 3) := by decide +kernel
theorem dX9_states_14 : decode cX9_states 14 = .ok (.invokevirtual 107, 3) := by decide +kernel
theorem dX9_states_17 : decode cX9_states 17 = .ok (.ireturn, 1) := by decide +kernel
set_option maxRecDepth 20000 in
theorem ggX9_leads_X9_within : GoodIn wsX9_leads wsX9_within := goodIn_r _ [6] (by decide +kernel) (by decide +kernel)
set_option maxRecDepth 20000 in
theorem gX9_leads_X9_within : GoodIn wsX9_leads (va_wsS RX9 47 yX9_within wsX9_within) := goodIn_app (goodIn_of _ (by decide +kernel)) ggX9_leads_X9_within
set_option maxRecDepth 20000 in
theorem ggX9_leads_X8_machineOf_p0 : GoodIn wsX9_leads ((wsX8_machineOf.drop 0).take 40) := goodIn_r _ [11, 12, 13, 14, 15, 16, 17, 18, 19, 20, 21, 22, 23, 24, 25, 26, 27, 28, 29, 30, 31, 32, 33, 34, 35, 36, 37, 38, 39, 40, 41, 42, 43, 44, 45, 46, 47, 48, 49, 50] (by decide +kernel) (by decide +kernel)
set_option maxRecDepth 20000 in
theorem ggX9_leads_X8_machineOf_p1 : GoodIn wsX9_leads ((wsX8_machineOf.drop 40).take 40) := goodIn_r _ [51, 52, 53, 5, 54, 55, 56, 57, 58, 59, 60, 61, 62, 63, 64, 65, 66, 67, 68, 69, 70, 71, 72, 73, 74, 75, 76, 77, 78, 79, 80, 81, 82, 83, 84, 85, 86, 87, 88, 89] (by decide +kernel) (by decide +kernel)
set_option maxRecDepth 20000 in
theorem ggX9_leads_X8_machineOf_p2 : GoodIn wsX9_leads ((wsX8_machineOf.drop 80).take 40) := goodIn_r _ [90, 91, 92, 93, 94, 95, 96, 97, 98, 99, 100, 101, 102, 103, 104, 105, 106, 107, 108, 109, 110, 111, 112, 113, 114, 115, 116, 117, 118, 119, 120, 121, 122, 123, 124, 125, 126, 127, 128, 129] (by decide +kernel) (by decide +kernel)
set_option maxRecDepth 20000 in
theorem ggX9_leads_X8_machineOf_p3 : GoodIn wsX9_leads (wsX8_machineOf.drop 120) := goodIn_r _ [130, 131, 132, 133, 134, 150, 151, 152, 153, 154, 155, 156, 157, 158, 159, 160, 161, 162, 163, 164, 165, 166, 167, 168, 169, 170, 171, 172, 173, 174, 175, 176, 177, 178, 179, 180, 181] (by decide +kernel) (by decide +kernel)
theorem ggX9_leads_X8_machineOf : GoodIn wsX9_leads wsX8_machineOf := (goodIn_td 0 40 ggX9_leads_X8_machineOf_p0 (goodIn_td 40 40 ggX9_leads_X8_machineOf_p1 (goodIn_td 80 40 ggX9_leads_X8_machineOf_p2 ggX9_leads_X8_machineOf_p3)))
set_option maxRecDepth 20000 in
theorem gX9_leads_X8_machineOf : GoodIn wsX9_leads (wsV RX9 103 RX8 yX8_machineOf wsX8_machineOf) := goodIn_app (goodIn_of _ (by decide +kernel)) ggX9_leads_X8_machineOf
set_option maxRecDepth 20000 in
theorem ggX9_leads_X1_targetOf : GoodIn wsX9_leads wsX1_targetOf := goodIn_r _ [138, 71, 179, 180, 181] (by decide +kernel) (by decide +kernel)
set_option maxRecDepth 20000 in
theorem gX9_leads_X1_targetOf : GoodIn wsX9_leads (wsV RX9 110 RX1 yX1_targetOf wsX1_targetOf) := goodIn_app (goodIn_of _ (by decide +kernel)) ggX9_leads_X1_targetOf
set_option maxRecDepth 20000 in
theorem ggX9_leads_X1_toldBy : GoodIn wsX9_leads wsX1_toldBy := goodIn_r _ [142, 72, 179, 180, 181] (by decide +kernel) (by decide +kernel)
set_option maxRecDepth 20000 in
theorem gX9_leads_X1_toldBy : GoodIn wsX9_leads (wsV RX9 113 RX1 yX1_toldBy wsX1_toldBy) := goodIn_app (goodIn_of _ (by decide +kernel)) ggX9_leads_X1_toldBy
theorem dX9_leads_0 : decode cX9_leads 0 = .ok (.iload_n 1, 1) := by decide +kernel
theorem dX9_leads_1 : decode cX9_leads 1 = .ok (.iconst 4, 1) := by decide +kernel
theorem dX9_leads_2 : decode cX9_leads 2 = .ok (.invokestatic 47, 3) := by decide +kernel
theorem dX9_leads_5 : decode cX9_leads 5 = .ok (.ifCond .eq 11, 3) := by decide +kernel
theorem dX9_leads_8 : decode cX9_leads 8 = .ok (.iload_n 2, 1) := by decide +kernel
theorem dX9_leads_9 : decode cX9_leads 9 = .ok (.iconst 3, 1) := by decide +kernel
theorem dX9_leads_10 : decode cX9_leads 10 = .ok (.invokestatic 47, 3) := by decide +kernel
theorem dX9_leads_13 : decode cX9_leads 13 = .ok (.ifCond .ne 5, 3) := by decide +kernel
theorem dX9_leads_16 : decode cX9_leads 16 = .ok (.iconst (-1), 1) := by decide +kernel
theorem dX9_leads_17 : decode cX9_leads 17 = .ok (.ireturn, 1) := by decide +kernel
theorem dX9_leads_18 : decode cX9_leads 18 = .ok (.aload_n 0, 1) := by decide +kernel
theorem dX9_leads_19 : decode cX9_leads 19 = .ok (.getfield 23, 3) := by decide +kernel
theorem dX9_leads_22 : decode cX9_leads 22 = .ok (.aload_n 0, 1) := by decide +kernel
theorem dX9_leads_23 : decode cX9_leads 23 = .ok (.getfield 12, 3) := by decide +kernel
theorem dX9_leads_26 : decode cX9_leads 26 = .ok (.getfield 37, 3) := by decide +kernel
theorem dX9_leads_29 : decode cX9_leads 29 = .ok (.invokevirtual 103, 3) := by decide +kernel
theorem dX9_leads_32 : decode cX9_leads 32 = .ok (.astore 4, 2) := by decide +kernel
theorem dX9_leads_34 : decode cX9_leads 34 = .ok (.iload_n 3, 1) := by decide +kernel
theorem dX9_leads_35 : decode cX9_leads 35 = .ok (.lookupswitch 41 #[(0, 25), (1, 33)], 25) := by decide +kernel
theorem dX9_leads_60 : decode cX9_leads 60 = .ok (.aload 4, 2) := by decide +kernel
theorem dX9_leads_62 : decode cX9_leads 62 = .ok (.iload_n 1, 1) := by decide +kernel
theorem dX9_leads_63 : decode cX9_leads 63 = .ok (.iload_n 2, 1) := by decide +kernel
theorem dX9_leads_64 : decode cX9_leads 64 = .ok (.invokevirtual 110, 3) := by decide +kernel
theorem dX9_leads_67 : decode cX9_leads 67 = .ok (.ireturn, 1) := by decide +kernel
theorem dX9_leads_68 : decode cX9_leads 68 = .ok (.aload 4, 2) := by decide +kernel
theorem dX9_leads_70 : decode cX9_leads 70 = .ok (.iload_n 1, 1) := by decide +kernel
theorem dX9_leads_71 : decode cX9_leads 71 = .ok (.iload_n 2, 1) := by decide +kernel
theorem dX9_leads_72 : decode cX9_leads 72 = .ok (.invokevirtual 113, 3) := by decide +kernel
theorem dX9_leads_75 : decode cX9_leads 75 = .ok (.ireturn, 1) := by decide +kernel
theorem dX9_leads_76 : decode cX9_leads 76 = .ok (.iconst (-1), 1) := by decide +kernel
theorem dX9_leads_77 : decode cX9_leads 77 = .ok (.ireturn, 1) := by decide +kernel
set_option maxRecDepth 20000 in
theorem ggX9_begin_X8_machineOf_p0 : GoodIn wsX9_begin ((wsX8_machineOf.drop 0).take 40) := goodIn_r _ [7, 8, 9, 10, 11, 12, 13, 14, 15, 16, 17, 18, 19, 20, 21, 22, 23, 24, 25, 26, 27, 28, 29, 30, 31, 32, 33, 34, 35, 36, 37, 38, 39, 40, 41, 42, 43, 44, 45, 46] (by decide +kernel) (by decide +kernel)
set_option maxRecDepth 20000 in
theorem ggX9_begin_X8_machineOf_p1 : GoodIn wsX9_begin ((wsX8_machineOf.drop 40).take 40) := goodIn_r _ [47, 48, 49, 50, 51, 52, 53, 54, 55, 56, 57, 58, 59, 60, 61, 62, 63, 64, 65, 66, 67, 68, 69, 70, 71, 72, 73, 74, 75, 76, 77, 78, 79, 80, 81, 82, 83, 84, 85, 86] (by decide +kernel) (by decide +kernel)
set_option maxRecDepth 20000 in
theorem ggX9_begin_X8_machineOf_p2 : GoodIn wsX9_begin ((wsX8_machineOf.drop 80).take 40) := goodIn_r _ [87, 88, 89, 90, 91, 92, 93, 94, 95, 96, 97, 98, 99, 100, 101, 102, 103, 104, 105, 106, 107, 108, 109, 110, 111, 112, 113, 114, 115, 116, 117, 118, 119, 120, 121, 122, 123, 124, 125, 126] (by decide +kernel) (by decide +kernel)
set_option maxRecDepth 20000 in
theorem ggX9_begin_X8_machineOf_p3 : GoodIn wsX9_begin (wsX8_machineOf.drop 120) := goodIn_r _ [127, 128, 129, 130, 131, 257, 258, 259, 260, 261, 262, 263, 264, 265, 266, 267, 268, 269, 270, 271, 272, 273, 274, 275, 276, 277, 278, 279, 280, 281, 282, 283, 284, 285, 286, 287, 288] (by decide +kernel) (by decide +kernel)
theorem ggX9_begin_X8_machineOf : GoodIn wsX9_begin wsX8_machineOf := (goodIn_td 0 40 ggX9_begin_X8_machineOf_p0 (goodIn_td 40 40 ggX9_begin_X8_machineOf_p1 (goodIn_td 80 40 ggX9_begin_X8_machineOf_p2 ggX9_begin_X8_machineOf_p3)))
set_option maxRecDepth 20000 in
theorem gX9_begin_X8_machineOf : GoodIn wsX9_begin (wsV RX9 103 RX8 yX8_machineOf wsX8_machineOf) := goodIn_app (goodIn_of _ (by decide +kernel)) ggX9_begin_X8_machineOf
set_option maxRecDepth 20000 in
theorem ggX9_begin_X1_stands : GoodIn wsX9_begin wsX1_stands := goodIn_r _ [135, 70, 286, 287, 288] (by decide +kernel) (by decide +kernel)
set_option maxRecDepth 20000 in
theorem gX9_begin_X1_stands : GoodIn wsX9_begin (wsV RX9 116 RX1 yX1_stands wsX1_stands) := goodIn_app (goodIn_of _ (by decide +kernel)) ggX9_begin_X1_stands
set_option maxRecDepth 20000 in
theorem ggX9_begin_X7_stop : GoodIn wsX9_begin wsX7_stop := goodIn_r _ [140, 141, 289, 290, 291, 292, 293, 294, 295, 296] (by decide +kernel) (by decide +kernel)
set_option maxRecDepth 20000 in
theorem gX9_begin_X7_stop : GoodIn wsX9_begin (wsV RX9 123 RX7 yX7_stop wsX7_stop) := goodIn_app (goodIn_of _ (by decide +kernel)) ggX9_begin_X7_stop
set_option maxRecDepth 20000 in
theorem ggX9_begin_X8_rulesOf_p0 : GoodIn wsX9_begin ((wsX8_rulesOf.drop 0).take 40) := goodIn_r _ [145, 146, 147, 10, 148, 149, 150, 151, 152, 153, 154, 155, 156, 25, 26, 27, 157, 158, 159, 160, 161, 162, 163, 164, 165, 166, 29, 30, 31, 32, 33, 167, 168, 169, 170, 171, 172, 173, 174, 175] (by decide +kernel) (by decide +kernel)
set_option maxRecDepth 20000 in
theorem ggX9_begin_X8_rulesOf_p1 : GoodIn wsX9_begin ((wsX8_rulesOf.drop 40).take 40) := goodIn_r _ [176, 177, 178, 179, 180, 40, 41, 42, 43, 181, 53, 54, 55, 56, 182, 183, 184, 185, 186, 187, 45, 46, 47, 48, 188, 189, 190, 191, 192, 193, 194, 195, 196, 197, 198, 50, 199, 200, 201, 202] (by decide +kernel) (by decide +kernel)
set_option maxRecDepth 20000 in
theorem ggX9_begin_X8_rulesOf_p2 : GoodIn wsX9_begin ((wsX8_rulesOf.drop 80).take 40) := goodIn_r _ [203, 204, 205, 206, 207, 208, 209, 210, 211, 212, 213, 214, 215, 216, 217, 218, 219, 220, 221, 222, 223, 257, 258, 259, 260, 261, 262, 263, 297, 298, 299, 300, 301, 302, 303, 304, 281, 282, 283, 284] (by decide +kernel) (by decide +kernel)
set_option maxRecDepth 20000 in
theorem ggX9_begin_X8_rulesOf_p3 : GoodIn wsX9_begin (wsX8_rulesOf.drop 120) := goodIn_r _ [285, 305, 306] (by decide +kernel) (by decide +kernel)
theorem ggX9_begin_X8_rulesOf : GoodIn wsX9_begin wsX8_rulesOf := (goodIn_td 0 40 ggX9_begin_X8_rulesOf_p0 (goodIn_td 40 40 ggX9_begin_X8_rulesOf_p1 (goodIn_td 80 40 ggX9_begin_X8_rulesOf_p2 ggX9_begin_X8_rulesOf_p3)))
set_option maxRecDepth 20000 in
theorem gX9_begin_X8_rulesOf : GoodIn wsX9_begin (wsV RX9 91 RX8 yX8_rulesOf wsX8_rulesOf) := goodIn_app (goodIn_of _ (by decide +kernel)) ggX9_begin_X8_rulesOf
set_option maxRecDepth 20000 in
theorem ggX9_begin_X7_start_p0 : GoodIn wsX9_begin ((wsX7_start.drop 0).take 40) := goodIn_r _ [227, 228, 229, 230, 231, 141, 232, 233, 234, 235, 236, 237, 66, 238, 68, 239, 240, 241, 242, 69, 70, 243, 244, 245, 160, 246, 162, 247, 163, 193, 192, 164, 248, 173, 174, 175, 176, 177, 178, 179] (by decide +kernel) (by decide +kernel)
set_option maxRecDepth 20000 in
theorem ggX9_begin_X7_start_p1 : GoodIn wsX9_begin (wsX7_start.drop 40) := goodIn_r _ [25, 26, 27, 249, 289, 290, 291, 292, 293, 294, 295, 296, 286, 287, 288, 300, 301, 302, 303, 304, 305, 306] (by decide +kernel) (by decide +kernel)
theorem ggX9_begin_X7_start : GoodIn wsX9_begin wsX7_start := (goodIn_td 0 40 ggX9_begin_X7_start_p0 ggX9_begin_X7_start_p1)
set_option maxRecDepth 20000 in
theorem gX9_begin_X7_start : GoodIn wsX9_begin (wsV RX9 126 RX7 yX7_start wsX7_start) := goodIn_app (goodIn_of _ (by decide +kernel)) ggX9_begin_X7_start
theorem dX9_begin_0 : decode cX9_begin 0 = .ok (.aload_n 0, 1) := by decide +kernel
theorem dX9_begin_1 : decode cX9_begin 1 = .ok (.getfield 23, 3) := by decide +kernel
theorem dX9_begin_4 : decode cX9_begin 4 = .ok (.aload_n 0, 1) := by decide +kernel
theorem dX9_begin_5 : decode cX9_begin 5 = .ok (.getfield 12, 3) := by decide +kernel
theorem dX9_begin_8 : decode cX9_begin 8 = .ok (.getfield 37, 3) := by decide +kernel
theorem dX9_begin_11 : decode cX9_begin 11 = .ok (.invokevirtual 103, 3) := by decide +kernel
theorem dX9_begin_14 : decode cX9_begin 14 = .ok (.astore_n 1, 1) := by decide +kernel
theorem dX9_begin_15 : decode cX9_begin 15 = .ok (.aload_n 1, 1) := by decide +kernel
theorem dX9_begin_16 : decode cX9_begin 16 = .ok (.invokevirtual 116, 3) := by decide +kernel
theorem dX9_begin_19 : decode cX9_begin 19 = .ok (.ifCond .ne 15, 3) := by decide +kernel
theorem dX9_begin_22 : decode cX9_begin 22 = .ok (.aload_n 0, 1) := by decide +kernel
theorem dX9_begin_23 : decode cX9_begin 23 = .ok (.getfield 12, 3) := by decide +kernel
theorem dX9_begin_26 : decode cX9_begin 26 = .ok (.getfield 120, 3) := by decide +kernel
theorem dX9_begin_29 : decode cX9_begin 29 = .ok (.invokevirtual 123, 3) := by decide +kernel
theorem dX9_begin_32 : decode cX9_begin 32 = .ok (.iconst 0, 1) := by decide +kernel
theorem dX9_begin_33 : decode cX9_begin 33 = .ok (.ireturn, 1) := by decide +kernel
theorem dX9_begin_34 : decode cX9_begin 34 = .ok (.aload_n 0, 1) := by decide +kernel
theorem dX9_begin_35 : decode cX9_begin 35 = .ok (.getfield 12, 3) := by decide +kernel
theorem dX9_begin_38 : decode cX9_begin 38 = .ok (.getfield 120, 3) := by decide +kernel
theorem dX9_begin_41 : decode cX9_begin 41 = .ok (.aload_n 1, 1) := by decide +kernel
theorem dX9_begin_42 : decode cX9_begin 42 = .ok (.aload_n 0, 1) := by decide +kernel
theorem dX9_begin_43 : decode cX9_begin 43 = .ok (.getfield 23, 3) := by decide +kernel
theorem dX9_begin_46 : decode cX9_begin 46 = .ok (.aload_n 0, 1) := by decide +kernel
theorem dX9_begin_47 : decode cX9_begin 47 = .ok (.getfield 12, 3) := by decide +kernel
theorem dX9_begin_50 : decode cX9_begin 50 = .ok (.getfield 37, 3) := by decide +kernel
theorem dX9_begin_53 : decode cX9_begin 53 = .ok (.invokevirtual 91, 3) := by decide +kernel
theorem dX9_begin_56 : decode cX9_begin 56 = .ok (.invokevirtual 126, 3) := by decide +kernel
theorem dX9_begin_59 : decode cX9_begin 59 = .ok (.iconst 1, 1) := by decide +kernel
theorem dX9_begin_60 : decode cX9_begin 60 = .ok (.ireturn, 1) := by decide +kernel
set_option maxRecDepth 20000 in
theorem ggX9_say_X7_isOn : GoodIn wsX9_say wsX7_isOn := goodIn_r _ [6, 7, 80, 81, 82, 83, 84, 85, 86, 87] (by decide +kernel) (by decide +kernel)
set_option maxRecDepth 20000 in
theorem gX9_say_X7_isOn : GoodIn wsX9_say (wsV RX9 130 RX7 yX7_isOn wsX7_isOn) := goodIn_app (goodIn_of _ (by decide +kernel)) ggX9_say_X7_isOn
set_option maxRecDepth 20000 in
theorem ggX9_say_X9_within : GoodIn wsX9_say wsX9_within := goodIn_r _ [11] (by decide +kernel) (by decide +kernel)
set_option maxRecDepth 20000 in
theorem gX9_say_X9_within : GoodIn wsX9_say (va_wsS RX9 47 yX9_within wsX9_within) := goodIn_app (goodIn_of _ (by decide +kernel)) ggX9_say_X9_within
set_option maxRecDepth 20000 in
theorem ggX9_say_X7_answer_p0 : GoodIn wsX9_say ((wsX7_answer.drop 0).take 40) := goodIn_r _ [15, 16, 17, 18, 19, 20, 21, 22, 23, 24, 25, 26, 27, 28, 29, 30, 31, 32, 33, 34, 35, 36, 37, 38, 39, 40, 41, 42, 43, 44, 45, 46, 47, 48, 49, 50, 10, 51, 52, 53] (by decide +kernel) (by decide +kernel)
set_option maxRecDepth 20000 in
theorem ggX9_say_X7_answer_p1 : GoodIn wsX9_say (wsX7_answer.drop 40) := goodIn_r _ [54, 55, 56, 57, 58, 59, 60, 61, 62, 63, 64, 65, 66, 67, 68, 69, 70, 71, 72, 80, 81, 82, 83, 84, 85, 86, 87, 88, 89, 90, 91, 92, 93, 94, 95, 96, 97] (by decide +kernel) (by decide +kernel)
theorem ggX9_say_X7_answer : GoodIn wsX9_say wsX7_answer := (goodIn_td 0 40 ggX9_say_X7_answer_p0 ggX9_say_X7_answer_p1)
set_option maxRecDepth 20000 in
theorem gX9_say_X7_answer : GoodIn wsX9_say (wsV RX9 133 RX7 yX7_answer wsX7_answer) := goodIn_app (goodIn_of _ (by decide +kernel)) ggX9_say_X7_answer
theorem dX9_say_0 : decode cX9_say 0 = .ok (.aload_n 0, 1) := by decide +kernel
theorem dX9_say_1 : decode cX9_say 1 = .ok (.getfield 12, 3) := by decide +kernel
theorem dX9_say_4 : decode cX9_say 4 = .ok (.getfield 120, 3) := by decide +kernel
theorem dX9_say_7 : decode cX9_say 7 = .ok (.invokevirtual 130, 3) := by decide +kernel
theorem dX9_say_10 : decode cX9_say 10 = .ok (.ifCond .eq 21, 3) := by decide +kernel
theorem dX9_say_13 : decode cX9_say 13 = .ok (.iload_n 1, 1) := by decide +kernel
theorem dX9_say_14 : decode cX9_say 14 = .ok (.iconst 3, 1) := by decide +kernel
theorem dX9_say_15 : decode cX9_say 15 = .ok (.invokestatic 47, 3) := by decide +kernel
theorem dX9_say_18 : decode cX9_say 18 = .ok (.ifCond .eq 13, 3) := by decide +kernel
theorem dX9_say_21 : decode cX9_say 21 = .ok (.iload_n 2, 1) := by decide +kernel
theorem dX9_say_22 : decode cX9_say 22 = .ok (.sipush 10000, 3) := by decide +kernel
theorem dX9_say_25 : decode cX9_say 25 = .ok (.invokestatic 47, 3) := by decide +kernel
theorem dX9_say_28 : decode cX9_say 28 = .ok (.ifCond .ne 5, 3) := by decide +kernel
theorem dX9_say_31 : decode cX9_say 31 = .ok (.iconst (-1), 1) := by decide +kernel
theorem dX9_say_32 : decode cX9_say 32 = .ok (.ireturn, 1) := by decide +kernel
theorem dX9_say_33 : decode cX9_say 33 = .ok (.aload_n 0, 1) := by decide +kernel
theorem dX9_say_34 : decode cX9_say 34 = .ok (.getfield 12, 3) := by decide +kernel
theorem dX9_say_37 : decode cX9_say 37 = .ok (.getfield 120, 3) := by decide +kernel
theorem dX9_say_40 : decode cX9_say 40 = .ok (.iload_n 1, 1) := by decide +kernel
theorem dX9_say_41 : decode cX9_say 41 = .ok (.iload_n 2, 1) := by decide +kernel
theorem dX9_say_42 : decode cX9_say 42 = .ok (.invokevirtual 133, 3) := by decide +kernel
theorem dX9_say_45 : decode cX9_say 45 = .ok (.ireturn, 1) := by decide +kernel
set_option maxRecDepth 20000 in
theorem ggX9_field_X7_isOn : GoodIn wsX9_field wsX7_isOn := goodIn_r _ [6, 7, 24, 25, 26, 27, 28, 29, 30, 31] (by decide +kernel) (by decide +kernel)
set_option maxRecDepth 20000 in
theorem gX9_field_X7_isOn : GoodIn wsX9_field (wsV RX9 130 RX7 yX7_isOn wsX7_isOn) := goodIn_app (goodIn_of _ (by decide +kernel)) ggX9_field_X7_isOn
set_option maxRecDepth 20000 in
theorem ggX9_field_X9_within : GoodIn wsX9_field wsX9_within := goodIn_r _ [11] (by decide +kernel) (by decide +kernel)
set_option maxRecDepth 20000 in
theorem gX9_field_X9_within : GoodIn wsX9_field (va_wsS RX9 47 yX9_within wsX9_within) := goodIn_app (goodIn_of _ (by decide +kernel)) ggX9_field_X9_within
set_option maxRecDepth 20000 in
theorem ggX9_field_X7_latestField : GoodIn wsX9_field wsX7_latestField := goodIn_r _ [15, 16, 24, 25, 26, 27, 28, 29, 30, 31] (by decide +kernel) (by decide +kernel)
set_option maxRecDepth 20000 in
theorem gX9_field_X7_latestField : GoodIn wsX9_field (wsV RX9 136 RX7 yX7_latestField wsX7_latestField) := goodIn_app (goodIn_of _ (by decide +kernel)) ggX9_field_X7_latestField
theorem dX9_field_0 : decode cX9_field 0 = .ok (.aload_n 0, 1) := by decide +kernel
theorem dX9_field_1 : decode cX9_field 1 = .ok (.getfield 12, 3) := by decide +kernel
theorem dX9_field_4 : decode cX9_field 4 = .ok (.getfield 120, 3) := by decide +kernel
theorem dX9_field_7 : decode cX9_field 7 = .ok (.invokevirtual 130, 3) := by decide +kernel
theorem dX9_field_10 : decode cX9_field 10 = .ok (.ifCond .eq 11, 3) := by decide +kernel
theorem dX9_field_13 : decode cX9_field 13 = .ok (.iload_n 1, 1) := by decide +kernel
theorem dX9_field_14 : decode cX9_field 14 = .ok (.iconst 2, 1) := by decide +kernel
theorem dX9_field_15 : decode cX9_field 15 = .ok (.invokestatic 47, 3) := by decide +kernel
theorem dX9_field_18 : decode cX9_field 18 = .ok (.ifCond .ne 7, 3) := by decide +kernel
theorem dX9_field_21 : decode cX9_field 21 = .ok (.sipush (-1000), 3) := by decide +kernel
theorem dX9_field_24 : decode cX9_field 24 = .ok (.ireturn, 1) := by decide +kernel
theorem dX9_field_25 : decode cX9_field 25 = .ok (.aload_n 0, 1) := by decide +kernel
theorem dX9_field_26 : decode cX9_field 26 = .ok (.getfield 12, 3) := by decide +kernel
theorem dX9_field_29 : decode cX9_field 29 = .ok (.getfield 120, 3) := by decide +kernel
theorem dX9_field_32 : decode cX9_field 32 = .ok (.iload_n 1, 1) := by decide +kernel
theorem dX9_field_33 : decode cX9_field 33 = .ok (.invokevirtual 136, 3) := by decide +kernel
theorem dX9_field_36 : decode cX9_field 36 = .ok (.ireturn, 1) := by decide +kernel
set_option maxRecDepth 20000 in
theorem ggX9_ran_X7_isOn : GoodIn wsX9_ran wsX7_isOn := goodIn_r _ [6, 7, 34, 35, 36, 37, 38, 39, 40, 41] (by decide +kernel) (by decide +kernel)
set_option maxRecDepth 20000 in
theorem gX9_ran_X7_isOn : GoodIn wsX9_ran (wsV RX9 130 RX7 yX7_isOn wsX7_isOn) := goodIn_app (goodIn_of _ (by decide +kernel)) ggX9_ran_X7_isOn
set_option maxRecDepth 20000 in
theorem ggX9_ran_X7_state : GoodIn wsX9_ran wsX7_state := goodIn_r _ [11, 12, 34, 35, 36, 37, 38, 39, 40, 41] (by decide +kernel) (by decide +kernel)
set_option maxRecDepth 20000 in
theorem gX9_ran_X7_state : GoodIn wsX9_ran (wsV RX9 139 RX7 yX7_state wsX7_state) := goodIn_app (goodIn_of _ (by decide +kernel)) ggX9_ran_X7_state
set_option maxRecDepth 20000 in
theorem ggX9_ran_X7_answered : GoodIn wsX9_ran wsX7_answered := goodIn_r _ [16, 17, 34, 35, 36, 37, 38, 39, 40, 41] (by decide +kernel) (by decide +kernel)
set_option maxRecDepth 20000 in
theorem gX9_ran_X7_answered : GoodIn wsX9_ran (wsV RX9 142 RX7 yX7_answered wsX7_answered) := goodIn_app (goodIn_of _ (by decide +kernel)) ggX9_ran_X7_answered
set_option maxRecDepth 20000 in
theorem ggX9_ran_X7_unseen : GoodIn wsX9_ran wsX7_unseen := goodIn_r _ [21, 22, 34, 35, 36, 37, 38, 39, 40, 41] (by decide +kernel) (by decide +kernel)
set_option maxRecDepth 20000 in
theorem gX9_ran_X7_unseen : GoodIn wsX9_ran (wsV RX9 145 RX7 yX7_unseen wsX7_unseen) := goodIn_app (goodIn_of _ (by decide +kernel)) ggX9_ran_X7_unseen
set_option maxRecDepth 20000 in
theorem ggX9_ran_X9_pickOfThree : GoodIn wsX9_ran wsX9_pickOfThree := goodIn_r _ [26] (by decide +kernel) (by decide +kernel)
set_option maxRecDepth 20000 in
theorem gX9_ran_X9_pickOfThree : GoodIn wsX9_ran (va_wsS RX9 88 yX9_pickOfThree wsX9_pickOfThree) := goodIn_app (goodIn_of _ (by decide +kernel)) ggX9_ran_X9_pickOfThree
theorem dX9_ran_0 : decode cX9_ran 0 = .ok (.aload_n 0, 1) := by decide +kernel
theorem dX9_ran_1 : decode cX9_ran 1 = .ok (.getfield 12, 3) := by decide +kernel
theorem dX9_ran_4 : decode cX9_ran 4 = .ok (.getfield 120, 3) := by decide +kernel
theorem dX9_ran_7 : decode cX9_ran 7 = .ok (.astore_n 2, 1) := by decide +kernel
theorem dX9_ran_8 : decode cX9_ran 8 = .ok (.aload_n 2, 1) := by decide +kernel
theorem dX9_ran_9 : decode cX9_ran 9 = .ok (.invokevirtual 130, 3) := by decide +kernel
theorem dX9_ran_12 : decode cX9_ran 12 = .ok (.ifCond .ne 5, 3) := by decide +kernel
theorem dX9_ran_15 : decode cX9_ran 15 = .ok (.iconst (-1), 1) := by decide +kernel
theorem dX9_ran_16 : decode cX9_ran 16 = .ok (.ireturn, 1) := by decide +kernel
theorem dX9_ran_17 : decode cX9_ran 17 = .ok (.iload_n 1, 1) := by decide +kernel
theorem dX9_ran_18 : decode cX9_ran 18 = .ok (.aload_n 2, 1) := by decide +kernel
theorem dX9_ran_19 : decode cX9_ran 19 = .ok (.invokevirtual 139, 3) := by decide +kernel
theorem dX9_ran_22 : decode cX9_ran 22 = .ok (.aload_n 2, 1) := by decide +kernel
theorem dX9_ran_23 : decode cX9_ran 23 = .ok (.invokevirtual 142, 3) := by decide +kernel
theorem dX9_ran_26 : decode cX9_ran 26 = .ok (.aload_n 2, 1) := by decide +kernel
theorem dX9_ran_27 : decode cX9_ran 27 = .ok (.invokevirtual 145, 3) := by decide +kernel
theorem dX9_ran_30 : decode cX9_ran 30 = .ok (.invokestatic 88, 3) := by decide +kernel
theorem dX9_ran_33 : decode cX9_ran 33 = .ok (.ireturn, 1) := by decide +kernel
set_option maxRecDepth 20000 in
theorem ggX9_held_X9_firstDifference_p0 : GoodIn wsX9_held ((wsX9_firstDifference.drop 0).take 40) := goodIn_r _ [6, 7, 8, 9, 10, 11, 12, 13, 14, 15, 16, 5, 17, 18, 19, 20, 21, 22, 23, 24, 25, 26, 27, 28, 29, 30, 31, 32, 33, 34, 35, 36, 37, 38, 39, 40, 41, 42, 43, 44] (by decide +kernel) (by decide +kernel)
set_option maxRecDepth 20000 in
theorem ggX9_held_X9_firstDifference_p1 : GoodIn wsX9_held ((wsX9_firstDifference.drop 40).take 40) := goodIn_r _ [45, 46, 47, 48, 49, 50, 51, 52, 53, 54, 55, 56, 57, 58, 59, 60, 61, 62, 63, 64, 65, 66, 67, 68, 69, 70, 71, 72, 73, 74, 75, 76, 77, 78, 79, 80, 81, 82, 83, 84] (by decide +kernel) (by decide +kernel)
set_option maxRecDepth 20000 in
theorem ggX9_held_X9_firstDifference_p2 : GoodIn wsX9_held ((wsX9_firstDifference.drop 80).take 40) := goodIn_r _ [85, 86, 87, 88, 89, 90, 91, 92, 93, 94, 95, 96, 97, 98, 99, 100, 101, 102, 103, 104, 105, 106, 107, 108, 109, 110, 111, 112, 113, 114, 115, 116, 117, 118, 119, 120, 121, 122, 123, 124] (by decide +kernel) (by decide +kernel)
set_option maxRecDepth 20000 in
theorem ggX9_held_X9_firstDifference_p3 : GoodIn wsX9_held ((wsX9_firstDifference.drop 120).take 40) := goodIn_r _ [125, 126, 127, 128, 129, 130, 131, 132, 133, 134, 135, 136, 137, 138, 139, 140, 141, 142, 143, 144, 145, 146, 147, 148, 149, 150, 151, 152, 153, 154, 155, 156, 157, 158, 159, 160, 161, 162, 163, 164] (by decide +kernel) (by decide +kernel)
set_option maxRecDepth 20000 in
theorem ggX9_held_X9_firstDifference_p4 : GoodIn wsX9_held ((wsX9_firstDifference.drop 160).take 40) := goodIn_r _ [165, 166, 167, 168, 169, 170, 171, 172, 173, 174, 175, 176, 177, 178, 179, 180, 181, 182, 183, 184, 185, 186, 187, 188, 189, 190, 191, 192, 193, 194, 195, 196, 197, 198, 199, 200, 201, 202, 203, 204] (by decide +kernel) (by decide +kernel)
set_option maxRecDepth 20000 in
theorem ggX9_held_X9_firstDifference_p5 : GoodIn wsX9_held ((wsX9_firstDifference.drop 200).take 40) := goodIn_r _ [205, 206, 207, 208, 209, 210, 211, 212, 213, 214, 215, 216, 217, 218, 219, 220, 221, 222, 223, 224, 225, 226, 227, 228, 229, 230, 231, 232, 233, 234, 235, 236, 237, 238, 239, 240, 241, 242, 243, 244] (by decide +kernel) (by decide +kernel)
set_option maxRecDepth 20000 in
theorem ggX9_held_X9_firstDifference_p6 : GoodIn wsX9_held ((wsX9_firstDifference.drop 240).take 40) := goodIn_r _ [245, 246, 247, 248, 249, 250, 251, 252, 253, 254, 255, 256, 257, 258, 259, 260, 261, 262, 263, 264, 265, 266, 267, 268, 269, 270, 271, 272, 273, 274, 275, 276, 277, 278, 279, 280, 281, 282, 283, 284] (by decide +kernel) (by decide +kernel)
set_option maxRecDepth 20000 in
theorem ggX9_held_X9_firstDifference_p7 : GoodIn wsX9_held ((wsX9_firstDifference.drop 280).take 40) := goodIn_r _ [285, 286, 287, 288, 289, 290, 291, 292, 293, 294, 295, 296, 297, 298, 299, 300, 301, 302, 303, 304, 305, 306, 307, 308, 309, 310, 311, 312, 313, 314, 315, 316, 317, 318, 319, 320, 321, 322, 323, 324] (by decide +kernel) (by decide +kernel)
set_option maxRecDepth 20000 in
theorem ggX9_held_X9_firstDifference_p8 : GoodIn wsX9_held (wsX9_firstDifference.drop 320) := goodIn_r _ [325, 326, 327, 328, 329, 330, 331, 332, 333, 334, 335, 336, 337, 338, 339, 340, 341, 342, 343, 344, 345, 346, 347, 348, 349, 350, 351, 352, 353, 354, 355, 356, 357, 358] (by decide +kernel) (by decide +kernel)
theorem ggX9_held_X9_firstDifference : GoodIn wsX9_held wsX9_firstDifference := (goodIn_td 0 40 ggX9_held_X9_firstDifference_p0 (goodIn_td 40 40 ggX9_held_X9_firstDifference_p1 (goodIn_td 80 40 ggX9_held_X9_firstDifference_p2 (goodIn_td 120 40 ggX9_held_X9_firstDifference_p3 (goodIn_td 160 40 ggX9_held_X9_firstDifference_p4 (goodIn_td 200 40 ggX9_held_X9_firstDifference_p5 (goodIn_td 240 40 ggX9_held_X9_firstDifference_p6 (goodIn_td 280 40 ggX9_held_X9_firstDifference_p7 ggX9_held_X9_firstDifference_p8))))))))
set_option maxRecDepth 20000 in
theorem gX9_held_X9_firstDifference : GoodIn wsX9_held (wsV RX9 148 RX9 yX9_firstDifference wsX9_firstDifference) := goodIn_app (goodIn_of _ (by decide +kernel)) ggX9_held_X9_firstDifference
theorem dX9_held_0 : decode cX9_held 0 = .ok (.aload_n 0, 1) := by decide +kernel
theorem dX9_held_1 : decode cX9_held 1 = .ok (.aload_n 0, 1) := by decide +kernel
theorem dX9_held_2 : decode cX9_held 2 = .ok (.getfield 23, 3) := by decide +kernel
theorem dX9_held_5 : decode cX9_held 5 = .ok (.iload_n 1, 1) := by decide +kernel
theorem dX9_held_6 : decode cX9_held 6 = .ok (.iload_n 2, 1) := by decide +kernel
theorem dX9_held_7 : decode cX9_held 7 = .ok (.invokevirtual 148, 3) := by decide +kernel
theorem dX9_held_10 : decode cX9_held 10 = .ok (.ireturn, 1) := by decide +kernel
set_option maxRecDepth 20000 in
theorem ggX9_fresh_X4_has : GoodIn wsX9_fresh wsX4_has := goodIn_r _ [7, 8, 317, 318, 319, 320, 321] (by decide +kernel) (by decide +kernel)
set_option maxRecDepth 20000 in
theorem gX9_fresh_X4_has : GoodIn wsX9_fresh (wsV RX9 152 RX4 yX4_has wsX4_has) := goodIn_app (goodIn_of _ (by decide +kernel)) ggX9_fresh_X4_has
set_option maxRecDepth 20000 in
theorem ggX9_fresh_X8_leaveOut : GoodIn wsX9_fresh wsX8_leaveOut := goodIn_r _ [13, 14, 15, 16, 17, 12, 18, 19, 20, 322, 323, 324, 325, 326, 327, 328] (by decide +kernel) (by decide +kernel)
set_option maxRecDepth 20000 in
theorem gX9_fresh_X8_leaveOut : GoodIn wsX9_fresh (wsV RX9 156 RX8 yX8_leaveOut wsX8_leaveOut) := goodIn_app (goodIn_of _ (by decide +kernel)) ggX9_fresh_X8_leaveOut
set_option maxRecDepth 20000 in
theorem ggX9_fresh_X9_firstDifference_p0 : GoodIn wsX9_fresh ((wsX9_firstDifference.drop 0).take 40) := goodIn_r _ [25, 1, 26, 3, 4, 5, 6, 7, 8, 27, 28, 24, 29, 30, 31, 32, 12, 33, 19, 34, 14, 35, 36, 37, 38, 39, 40, 41, 42, 43, 44, 45, 46, 47, 48, 49, 50, 51, 52, 53] (by decide +kernel) (by decide +kernel)
set_option maxRecDepth 20000 in
theorem ggX9_fresh_X9_firstDifference_p1 : GoodIn wsX9_fresh ((wsX9_firstDifference.drop 40).take 40) := goodIn_r _ [54, 55, 56, 57, 58, 59, 60, 61, 62, 63, 64, 65, 66, 67, 68, 69, 70, 71, 72, 73, 74, 75, 76, 77, 78, 79, 80, 81, 82, 83, 84, 85, 86, 87, 88, 89, 90, 91, 92, 93] (by decide +kernel) (by decide +kernel)
set_option maxRecDepth 20000 in
theorem ggX9_fresh_X9_firstDifference_p2 : GoodIn wsX9_fresh ((wsX9_firstDifference.drop 80).take 40) := goodIn_r _ [94, 95, 96, 97, 98, 99, 100, 101, 102, 103, 104, 105, 106, 107, 108, 109, 110, 111, 112, 113, 114, 115, 116, 117, 118, 119, 120, 121, 122, 123, 124, 125, 126, 127, 128, 129, 130, 131, 132, 133] (by decide +kernel) (by decide +kernel)
set_option maxRecDepth 20000 in
theorem ggX9_fresh_X9_firstDifference_p3 : GoodIn wsX9_fresh ((wsX9_firstDifference.drop 120).take 40) := goodIn_r _ [134, 135, 136, 137, 138, 139, 140, 141, 142, 143, 144, 145, 146, 147, 148, 149, 150, 151, 152, 153, 154, 155, 156, 157, 158, 159, 160, 20, 161, 162, 163, 164, 165, 166, 167, 168, 169, 170, 171, 172] (by decide +kernel) (by decide +kernel)
set_option maxRecDepth 20000 in
theorem ggX9_fresh_X9_firstDifference_p4 : GoodIn wsX9_fresh ((wsX9_firstDifference.drop 160).take 40) := goodIn_r _ [173, 174, 175, 176, 177, 178, 179, 180, 181, 182, 183, 184, 185, 186, 187, 188, 189, 190, 191, 192, 193, 194, 195, 196, 197, 198, 199, 200, 201, 202, 203, 204, 205, 206, 207, 208, 209, 210, 211, 212] (by decide +kernel) (by decide +kernel)
set_option maxRecDepth 20000 in
theorem ggX9_fresh_X9_firstDifference_p5 : GoodIn wsX9_fresh ((wsX9_firstDifference.drop 200).take 40) := goodIn_r _ [213, 214, 215, 216, 217, 218, 219, 220, 221, 222, 223, 224, 225, 226, 227, 228, 229, 230, 231, 232, 233, 234, 235, 236, 237, 238, 239, 240, 241, 242, 243, 244, 245, 246, 247, 248, 249, 250, 251, 252] (by decide +kernel) (by decide +kernel)
set_option maxRecDepth 20000 in
theorem ggX9_fresh_X9_firstDifference_p6 : GoodIn wsX9_fresh ((wsX9_firstDifference.drop 240).take 40) := goodIn_r _ [253, 254, 255, 256, 257, 258, 259, 260, 261, 262, 263, 264, 265, 266, 267, 268, 269, 270, 271, 272, 273, 274, 275, 276, 277, 278, 279, 280, 281, 282, 283, 284, 285, 286, 287, 288, 289, 290, 291, 292] (by decide +kernel) (by decide +kernel)
set_option maxRecDepth 20000 in
theorem ggX9_fresh_X9_firstDifference_p7 : GoodIn wsX9_fresh ((wsX9_firstDifference.drop 280).take 40) := goodIn_r _ [293, 294, 295, 296, 297, 298, 299, 300, 301, 302, 303, 304, 305, 306, 307, 308, 309, 310, 311, 312, 313, 314, 315, 316, 317, 318, 319, 320, 321, 322, 323, 324, 325, 326, 327, 328, 329, 330, 331, 332] (by decide +kernel) (by decide +kernel)
set_option maxRecDepth 20000 in
theorem ggX9_fresh_X9_firstDifference_p8 : GoodIn wsX9_fresh (wsX9_firstDifference.drop 320) := goodIn_r _ [333, 334, 335, 336, 337, 338, 339, 340, 341, 342, 343, 344, 345, 346, 347, 348, 349, 350, 351, 352, 353, 354, 355, 356, 357, 358, 359, 360, 361, 362, 363, 364, 365, 366] (by decide +kernel) (by decide +kernel)
theorem ggX9_fresh_X9_firstDifference : GoodIn wsX9_fresh wsX9_firstDifference := (goodIn_td 0 40 ggX9_fresh_X9_firstDifference_p0 (goodIn_td 40 40 ggX9_fresh_X9_firstDifference_p1 (goodIn_td 80 40 ggX9_fresh_X9_firstDifference_p2 (goodIn_td 120 40 ggX9_fresh_X9_firstDifference_p3 (goodIn_td 160 40 ggX9_fresh_X9_firstDifference_p4 (goodIn_td 200 40 ggX9_fresh_X9_firstDifference_p5 (goodIn_td 240 40 ggX9_fresh_X9_firstDifference_p6 (goodIn_td 280 40 ggX9_fresh_X9_firstDifference_p7 ggX9_fresh_X9_firstDifference_p8))))))))
set_option maxRecDepth 20000 in
theorem gX9_fresh_X9_firstDifference : GoodIn wsX9_fresh (wsV RX9 148 RX9 yX9_firstDifference wsX9_firstDifference) := goodIn_app (goodIn_of _ (by decide +kernel)) ggX9_fresh_X9_firstDifference
theorem dX9_fresh_0 : decode cX9_fresh 0 = .ok (.aload_n 0, 1) := by decide +kernel
theorem dX9_fresh_1 : decode cX9_fresh 1 = .ok (.getfield 12, 3) := by decide +kernel
theorem dX9_fresh_4 : decode cX9_fresh 4 = .ok (.getfield 37, 3) := by decide +kernel
theorem dX9_fresh_7 : decode cX9_fresh 7 = .ok (.iload_n 1, 1) := by decide +kernel
theorem dX9_fresh_8 : decode cX9_fresh 8 = .ok (.invokevirtual 152, 3) := by decide +kernel
theorem dX9_fresh_11 : decode cX9_fresh 11 = .ok (.ifCond .ne 5, 3) := by decide +kernel
theorem dX9_fresh_14 : decode cX9_fresh 14 = .ok (.iconst (-1), 1) := by decide +kernel
theorem dX9_fresh_15 : decode cX9_fresh 15 = .ok (.ireturn, 1) := by decide +kernel
theorem dX9_fresh_16 : decode cX9_fresh 16 = .ok (.aload_n 0, 1) := by decide +kernel
theorem dX9_fresh_17 : decode cX9_fresh 17 = .ok (.getfield 27, 3) := by decide +kernel
theorem dX9_fresh_20 : decode cX9_fresh 20 = .ok (.iload_n 1, 1) := by decide +kernel
theorem dX9_fresh_21 : decode cX9_fresh 21 = .ok (.invokevirtual 156, 3) := by decide +kernel
theorem dX9_fresh_24 : decode cX9_fresh 24 = .ok (.aload_n 0, 1) := by decide +kernel
theorem dX9_fresh_25 : decode cX9_fresh 25 = .ok (.aload_n 0, 1) := by decide +kernel
theorem dX9_fresh_26 : decode cX9_fresh 26 = .ok (.getfield 27, 3) := by decide +kernel
theorem dX9_fresh_29 : decode cX9_fresh 29 = .ok (.iload_n 1, 1) := by decide +kernel
theorem dX9_fresh_30 : decode cX9_fresh 30 = .ok (.iload_n 2, 1) := by decide +kernel
theorem dX9_fresh_31 : decode cX9_fresh 31 = .ok (.invokevirtual 148, 3) := by decide +kernel
theorem dX9_fresh_34 : decode cX9_fresh 34 = .ok (.ireturn, 1) := by decide +kernel
set_option maxRecDepth 20000 in
theorem ggX9_count_X4_size : GoodIn wsX9_count wsX4_size := goodIn_r _ [7, 8, 129, 130, 131, 132, 133] (by decide +kernel) (by decide +kernel)
set_option maxRecDepth 20000 in
theorem gX9_count_X4_size : GoodIn wsX9_count (wsV RX9 82 RX4 yX4_size wsX4_size) := goodIn_app (goodIn_of _ (by decide +kernel)) ggX9_count_X4_size
set_option maxRecDepth 20000 in
theorem ggX9_count_X4_exchanges : GoodIn wsX9_count wsX4_exchanges := goodIn_r _ [12, 8, 13, 129, 130, 131, 132, 133] (by decide +kernel) (by decide +kernel)
set_option maxRecDepth 20000 in
theorem gX9_count_X4_exchanges : GoodIn wsX9_count (wsV RX9 160 RX4 yX4_exchanges wsX4_exchanges) := goodIn_app (goodIn_of _ (by decide +kernel)) ggX9_count_X4_exchanges
set_option maxRecDepth 20000 in
theorem ggX9_count_X4_exchangesOf : GoodIn wsX9_count wsX4_exchangesOf := goodIn_r _ [17, 8, 13, 18, 19, 20, 6, 21, 22, 129, 130, 131, 132, 133] (by decide +kernel) (by decide +kernel)
set_option maxRecDepth 20000 in
theorem gX9_count_X4_exchangesOf : GoodIn wsX9_count (wsV RX9 163 RX4 yX4_exchangesOf wsX4_exchangesOf) := goodIn_app (goodIn_of _ (by decide +kernel)) ggX9_count_X4_exchangesOf
set_option maxRecDepth 20000 in
theorem ggX9_count_X8_rulesOf_p0 : GoodIn wsX9_count ((wsX8_rulesOf.drop 0).take 40) := goodIn_r _ [27, 28, 29, 30, 31, 32, 33, 34, 35, 36, 37, 38, 39, 40, 41, 42, 43, 44, 45, 46, 47, 48, 49, 50, 51, 52, 4, 5, 6, 7, 8, 53, 54, 55, 56, 57, 58, 59, 60, 61] (by decide +kernel) (by decide +kernel)
set_option maxRecDepth 20000 in
theorem ggX9_count_X8_rulesOf_p1 : GoodIn wsX9_count ((wsX8_rulesOf.drop 40).take 40) := goodIn_r _ [62, 63, 64, 65, 66, 67, 68, 69, 13, 70, 19, 20, 21, 22, 71, 72, 73, 74, 75, 76, 77, 78, 79, 80, 81, 82, 83, 84, 85, 86, 87, 88, 89, 90, 91, 92, 93, 94, 95, 96] (by decide +kernel) (by decide +kernel)
set_option maxRecDepth 20000 in
theorem ggX9_count_X8_rulesOf_p2 : GoodIn wsX9_count ((wsX8_rulesOf.drop 80).take 40) := goodIn_r _ [97, 98, 99, 100, 101, 102, 103, 104, 105, 106, 107, 108, 109, 110, 111, 112, 113, 114, 115, 116, 117, 134, 135, 136, 137, 138, 139, 140, 141, 142, 143, 144, 145, 146, 147, 148, 129, 130, 131, 132] (by decide +kernel) (by decide +kernel)
set_option maxRecDepth 20000 in
theorem ggX9_count_X8_rulesOf_p3 : GoodIn wsX9_count (wsX8_rulesOf.drop 120) := goodIn_r _ [133, 149, 150] (by decide +kernel) (by decide +kernel)
theorem ggX9_count_X8_rulesOf : GoodIn wsX9_count wsX8_rulesOf := (goodIn_td 0 40 ggX9_count_X8_rulesOf_p0 (goodIn_td 40 40 ggX9_count_X8_rulesOf_p1 (goodIn_td 80 40 ggX9_count_X8_rulesOf_p2 ggX9_count_X8_rulesOf_p3)))
set_option maxRecDepth 20000 in
theorem gX9_count_X8_rulesOf : GoodIn wsX9_count (wsV RX9 91 RX8 yX8_rulesOf wsX8_rulesOf) := goodIn_app (goodIn_of _ (by decide +kernel)) ggX9_count_X8_rulesOf
set_option maxRecDepth 20000 in
theorem ggX9_count_X6_unlikeAsks : GoodIn wsX9_count wsX6_unlikeAsks := goodIn_r _ [121, 50, 144, 145, 146, 147, 148] (by decide +kernel) (by decide +kernel)
set_option maxRecDepth 20000 in
theorem gX9_count_X6_unlikeAsks : GoodIn wsX9_count (wsV RX9 166 RX6 yX6_unlikeAsks wsX6_unlikeAsks) := goodIn_app (goodIn_of _ (by decide +kernel)) ggX9_count_X6_unlikeAsks
theorem dX9_count_0 : decode cX9_count 0 = .ok (.iload_n 1, 1) := by decide +kernel
theorem dX9_count_1 : decode cX9_count 1 = .ok (.tableswitch 93 0 5 #[39, 50, 61, 61, 61, 75], 39) := by decide +kernel
theorem dX9_count_40 : decode cX9_count 40 = .ok (.aload_n 0, 1) := by decide +kernel
theorem dX9_count_41 : decode cX9_count 41 = .ok (.getfield 12, 3) := by decide +kernel
theorem dX9_count_44 : decode cX9_count 44 = .ok (.getfield 37, 3) := by decide +kernel
theorem dX9_count_47 : decode cX9_count 47 = .ok (.invokevirtual 82, 3) := by decide +kernel
theorem dX9_count_50 : decode cX9_count 50 = .ok (.ireturn, 1) := by decide +kernel
theorem dX9_count_51 : decode cX9_count 51 = .ok (.aload_n 0, 1) := by decide +kernel
theorem dX9_count_52 : decode cX9_count 52 = .ok (.getfield 12, 3) := by decide +kernel
theorem dX9_count_55 : decode cX9_count 55 = .ok (.getfield 37, 3) := by decide +kernel
theorem dX9_count_58 : decode cX9_count 58 = .ok (.invokevirtual 160, 3) := by decide +kernel
theorem dX9_count_61 : decode cX9_count 61 = .ok (.ireturn, 1) := by decide +kernel
theorem dX9_count_62 : decode cX9_count 62 = .ok (.aload_n 0, 1) := by decide +kernel
theorem dX9_count_63 : decode cX9_count 63 = .ok (.getfield 12, 3) := by decide +kernel
theorem dX9_count_66 : decode cX9_count 66 = .ok (.getfield 37, 3) := by decide +kernel
theorem dX9_count_69 : decode cX9_count 69 = .ok (.iload_n 1, 1) := by decide +kernel
theorem dX9_count_70 : decode cX9_count 70 = .ok (.iconst 2, 1) := by decide +kernel
theorem dX9_count_71 : decode cX9_count 71 = .ok (.isub, 1) := by decide +kernel
theorem dX9_count_72 : decode cX9_count 72 = .ok (.invokevirtual 163, 3) := by decide +kernel
theorem dX9_count_75 : decode cX9_count 75 = .ok (.ireturn, 1) := by decide +kernel
theorem dX9_count_76 : decode cX9_count 76 = .ok (.aload_n 0, 1) := by decide +kernel
theorem dX9_count_77 : decode cX9_count 77 = .ok (.getfield 23, 3) := by decide +kernel
theorem dX9_count_80 : decode cX9_count 80 = .ok (.aload_n 0, 1) := by decide +kernel
theorem dX9_count_81 : decode cX9_count 81 = .ok (.getfield 12, 3) := by decide +kernel
theorem dX9_count_84 : decode cX9_count 84 = .ok (.getfield 37, 3) := by decide +kernel
theorem dX9_count_87 : decode cX9_count 87 = .ok (.invokevirtual 91, 3) := by decide +kernel
theorem dX9_count_90 : decode cX9_count 90 = .ok (.invokevirtual 166, 3) := by decide +kernel
theorem dX9_count_93 : decode cX9_count 93 = .ok (.ireturn, 1) := by decide +kernel
theorem dX9_count_94 : decode cX9_count 94 = .ok (.iconst (-1), 1) := by decide +kernel
theorem dX9_count_95 : decode cX9_count 95 = .ok (.ireturn, 1) := by decide +kernel
set_option maxRecDepth 20000 in
theorem ggX9_image_X9_within : GoodIn wsX9_image wsX9_within := goodIn_r _ [9] (by decide +kernel) (by decide +kernel)
set_option maxRecDepth 20000 in
theorem gX9_image_X9_within : GoodIn wsX9_image (va_wsS RX9 47 yX9_within wsX9_within) := goodIn_app (goodIn_of _ (by decide +kernel)) ggX9_image_X9_within
set_option maxRecDepth 20000 in
theorem ggX9_image_X0_init_p0 : GoodIn wsX9_image ((wsX0_init.drop 0).take 40) := goodIn_r _ [11, 12, 13, 14, 15, 16, 17, 18, 19, 20, 21, 22, 23, 24, 25, 26, 27, 28, 29, 30, 31, 32, 33, 34, 35, 36, 37, 38, 39, 40, 41, 42, 43, 44, 45, 46, 47, 48, 49, 50] (by decide +kernel) (by decide +kernel)
set_option maxRecDepth 20000 in
theorem ggX9_image_X0_init_p1 : GoodIn wsX9_image (wsX0_init.drop 40) := goodIn_r _ [51, 52, 53, 54, 55, 56, 57, 58, 59, 60, 61, 62, 63, 110, 111, 112, 113, 114, 108, 109, 115, 116, 117, 118, 119, 120, 121, 122, 123, 124, 125, 126, 127, 128, 129, 130, 131, 132] (by decide +kernel) (by decide +kernel)
theorem ggX9_image_X0_init : GoodIn wsX9_image wsX0_init := (goodIn_td 0 40 ggX9_image_X0_init_p0 ggX9_image_X0_init_p1)
set_option maxRecDepth 20000 in
theorem gX9_image_X0_init_n11 : GoodIn wsX9_image (wsX0_init) := ggX9_image_X0_init
set_option maxRecDepth 20000 in
theorem ggX9_image_X0_copy_p0 : GoodIn wsX9_image ((wsX0_copy.drop 0).take 40) := goodIn_r _ [67, 18, 22, 68, 69, 70, 17, 71, 27, 72, 73, 74, 75, 28, 29, 30, 76, 77, 78, 79, 21, 80, 37, 41, 45, 46, 81, 82, 83, 84, 85, 86, 87, 88, 36, 89, 50, 90, 51, 91] (by decide +kernel) (by decide +kernel)
set_option maxRecDepth 20000 in
theorem ggX9_image_X0_copy_p1 : GoodIn wsX9_image ((wsX0_copy.drop 40).take 40) := goodIn_r _ [92, 93, 94, 40, 95, 55, 96, 56, 57, 58, 97, 98, 99, 100, 44, 101, 62, 102, 63, 108, 109, 110, 111, 112, 113, 114, 115, 116, 117, 118, 119, 120, 121, 122, 123, 124, 125, 126, 127, 128] (by decide +kernel) (by decide +kernel)
set_option maxRecDepth 20000 in
theorem ggX9_image_X0_copy_p2 : GoodIn wsX9_image (wsX0_copy.drop 80) := goodIn_r _ [129, 130, 131, 132] (by decide +kernel) (by decide +kernel)
theorem ggX9_image_X0_copy : GoodIn wsX9_image wsX0_copy := (goodIn_td 0 40 ggX9_image_X0_copy_p0 (goodIn_td 40 40 ggX9_image_X0_copy_p1 ggX9_image_X0_copy_p2))
set_option maxRecDepth 20000 in
theorem gX9_image_X0_copy : GoodIn wsX9_image (wsV RX9 169 RX0 yX0_copy wsX0_copy) := goodIn_app (goodIn_of _ (by decide +kernel)) ggX9_image_X0_copy
theorem dX9_image_0 : decode cX9_image 0 = .ok (.iload_n 1, 1) := by decide +kernel
theorem dX9_image_1 : decode cX9_image 1 = .ok (.iconst 3, 1) := by decide +kernel
theorem dX9_image_2 : decode cX9_image 2 = .ok (.invokestatic 47, 3) := by decide +kernel
theorem dX9_image_5 : decode cX9_image 5 = .ok (.ifCond .ne 5, 3) := by decide +kernel
theorem dX9_image_8 : decode cX9_image 8 = .ok (.iconst 0, 1) := by decide +kernel
theorem dX9_image_9 : decode cX9_image 9 = .ok (.ireturn, 1) := by decide +kernel
theorem dX9_image_10 : decode cX9_image 10 = .ok (.aload_n 0, 1) := by decide +kernel
theorem dX9_image_11 : decode cX9_image 11 = .ok (.getfield 16, 3) := by decide +kernel
theorem dX9_image_14 : decode cX9_image 14 = .ok (.iload_n 1, 1) := by decide +kernel
theorem dX9_image_15 : decode cX9_image 15 = .ok (.aaload, 1) := by decide +kernel
theorem dX9_image_16 : decode cX9_image 16 = .ok (.ifnonnull 16, 3) := by decide +kernel
theorem dX9_image_19 : decode cX9_image 19 = .ok (.aload_n 0, 1) := by decide +kernel
theorem dX9_image_20 : decode cX9_image 20 = .ok (.getfield 16, 3) := by decide +kernel
theorem dX9_image_23 : decode cX9_image 23 = .ok (.iload_n 1, 1) := by decide +kernel
theorem dX9_image_24 : decode cX9_image 24 = .ok (.new 9, 3) := by decide +kernel
theorem dX9_image_27 : decode cX9_image 27 = .ok (.dup, 1) := by decide +kernel
theorem dX9_image_28 : decode cX9_image 28 = .ok (.invokespecial 11, 3) := by decide +kernel
theorem dX9_image_31 : decode cX9_image 31 = .ok (.aastore, 1) := by decide +kernel
theorem dX9_image_32 : decode cX9_image 32 = .ok (.aload_n 0, 1) := by decide +kernel
theorem dX9_image_33 : decode cX9_image 33 = .ok (.getfield 16, 3) := by decide +kernel
theorem dX9_image_36 : decode cX9_image 36 = .ok (.iload_n 1, 1) := by decide +kernel
theorem dX9_image_37 : decode cX9_image 37 = .ok (.aaload, 1) := by decide +kernel
theorem dX9_image_38 : decode cX9_image 38 = .ok (.aload_n 0, 1) := by decide +kernel
theorem dX9_image_39 : decode cX9_image 39 = .ok (.getfield 12, 3) := by decide +kernel
theorem dX9_image_42 : decode cX9_image 42 = .ok (.invokevirtual 169, 3) := by decide +kernel
theorem dX9_image_45 : decode cX9_image 45 = .ok (.iconst 1, 1) := by decide +kernel
theorem dX9_image_46 : decode cX9_image 46 = .ok (.ireturn, 1) := by decide +kernel
set_option maxRecDepth 20000 in
theorem ggX9_again_X9_within : GoodIn wsX9_again wsX9_within := goodIn_r _ [6] (by decide +kernel) (by decide +kernel)
set_option maxRecDepth 20000 in
theorem gX9_again_X9_within : GoodIn wsX9_again (va_wsS RX9 47 yX9_within wsX9_within) := goodIn_app (goodIn_of _ (by decide +kernel)) ggX9_again_X9_within
set_option maxRecDepth 20000 in
theorem ggX9_again_X0_copy_p0 : GoodIn wsX9_again ((wsX0_copy.drop 0).take 40) := goodIn_r _ [11, 12, 13, 14, 15, 16, 17, 18, 19, 20, 21, 22, 23, 24, 25, 26, 27, 28, 29, 30, 31, 32, 33, 34, 35, 36, 37, 38, 39, 40, 41, 42, 43, 44, 45, 46, 47, 48, 49, 50] (by decide +kernel) (by decide +kernel)
set_option maxRecDepth 20000 in
theorem ggX9_again_X0_copy_p1 : GoodIn wsX9_again ((wsX0_copy.drop 40).take 40) := goodIn_r _ [51, 52, 53, 54, 55, 56, 57, 58, 59, 60, 61, 62, 63, 64, 65, 66, 67, 68, 69, 88, 89, 90, 91, 92, 93, 94, 95, 96, 97, 98, 99, 100, 101, 102, 103, 104, 105, 106, 107, 108] (by decide +kernel) (by decide +kernel)
set_option maxRecDepth 20000 in
theorem ggX9_again_X0_copy_p2 : GoodIn wsX9_again (wsX0_copy.drop 80) := goodIn_r _ [109, 110, 111, 112] (by decide +kernel) (by decide +kernel)
theorem ggX9_again_X0_copy : GoodIn wsX9_again wsX0_copy := (goodIn_td 0 40 ggX9_again_X0_copy_p0 (goodIn_td 40 40 ggX9_again_X0_copy_p1 ggX9_again_X0_copy_p2))
set_option maxRecDepth 20000 in
theorem gX9_again_X0_copy : GoodIn wsX9_again (wsV RX9 169 RX0 yX0_copy wsX0_copy) := goodIn_app (goodIn_of _ (by decide +kernel)) ggX9_again_X0_copy
set_option maxRecDepth 20000 in
theorem ggX9_again_X9_forgetStudies : GoodIn wsX9_again wsX9_forgetStudies := goodIn_r _ [73, 74, 75, 76, 77, 78, 79, 80, 81, 82, 83, 84, 85, 86, 87, 113, 114, 115, 116, 117, 118, 119] (by decide +kernel) (by decide +kernel)
set_option maxRecDepth 20000 in
theorem gX9_again_X9_forgetStudies : GoodIn wsX9_again (wsV RX9 56 RX9 yX9_forgetStudies wsX9_forgetStudies) := goodIn_app (goodIn_of _ (by decide +kernel)) ggX9_again_X9_forgetStudies
theorem dX9_again_0 : decode cX9_again 0 = .ok (.iload_n 1, 1) := by decide +kernel
theorem dX9_again_1 : decode cX9_again 1 = .ok (.iconst 3, 1) := by decide +kernel
theorem dX9_again_2 : decode cX9_again 2 = .ok (.invokestatic 47, 3) := by decide +kernel
theorem dX9_again_5 : decode cX9_again 5 = .ok (.ifCond .eq 12, 3) := by decide +kernel
theorem dX9_again_8 : decode cX9_again 8 = .ok (.aload_n 0, 1) := by decide +kernel
theorem dX9_again_9 : decode cX9_again 9 = .ok (.getfield 16, 3) := by decide +kernel
theorem dX9_again_12 : decode cX9_again 12 = .ok (.iload_n 1, 1) := by decide +kernel
theorem dX9_again_13 : decode cX9_again 13 = .ok (.aaload, 1) := by decide +kernel
theorem dX9_again_14 : decode cX9_again 14 = .ok (.ifnonnull 5, 3) := by decide +kernel
theorem dX9_again_17 : decode cX9_again 17 = .ok (.iconst 0, 1) := by decide +kernel
theorem dX9_again_18 : decode cX9_again 18 = .ok (.ireturn, 1) := by decide +kernel
theorem dX9_again_19 : decode cX9_again 19 = .ok (.aload_n 0, 1) := by decide +kernel
theorem dX9_again_20 : decode cX9_again 20 = .ok (.getfield 12, 3) := by decide +kernel
theorem dX9_again_23 : decode cX9_again 23 = .ok (.aload_n 0, 1) := by decide +kernel
theorem dX9_again_24 : decode cX9_again 24 = .ok (.getfield 16, 3) := by decide +kernel
theorem dX9_again_27 : decode cX9_again 27 = .ok (.iload_n 1, 1) := by decide +kernel
theorem dX9_again_28 : decode cX9_again 28 = .ok (.aaload, 1) := by decide +kernel
theorem dX9_again_29 : decode cX9_again 29 = .ok (.invokevirtual 169, 3) := by decide +kernel
theorem dX9_again_32 : decode cX9_again 32 = .ok (.aload_n 0, 1) := by decide +kernel
theorem dX9_again_33 : decode cX9_again 33 = .ok (.invokevirtual 56, 3) := by decide +kernel
theorem dX9_again_36 : decode cX9_again 36 = .ok (.iconst 1, 1) := by decide +kernel
theorem dX9_again_37 : decode cX9_again 37 = .ok (.ireturn, 1) := by decide +kernel
set_option maxRecDepth 20000 in
theorem ggX9_forgetStudies_X8_forget : GoodIn wsX9_forgetStudies wsX8_forget := goodIn_r _ [7, 8, 9, 15, 16, 17, 18, 19, 20, 21] (by decide +kernel) (by decide +kernel)
set_option maxRecDepth 20000 in
theorem gX9_forgetStudies_X8_forget : GoodIn wsX9_forgetStudies (wsV RX9 173 RX8 yX8_forget wsX8_forget) := goodIn_app (goodIn_of _ (by decide +kernel)) ggX9_forgetStudies_X8_forget
theorem dX9_forgetStudies_0 : decode cX9_forgetStudies 0 = .ok (.aload_n 0, 1) := by decide +kernel
theorem dX9_forgetStudies_1 : decode cX9_forgetStudies 1 = .ok (.getfield 23, 3) := by decide +kernel
theorem dX9_forgetStudies_4 : decode cX9_forgetStudies 4 = .ok (.invokevirtual 173, 3) := by decide +kernel
theorem dX9_forgetStudies_7 : decode cX9_forgetStudies 7 = .ok (.aload_n 0, 1) := by decide +kernel
theorem dX9_forgetStudies_8 : decode cX9_forgetStudies 8 = .ok (.getfield 27, 3) := by decide +kernel
theorem dX9_forgetStudies_11 : decode cX9_forgetStudies 11 = .ok (.invokevirtual 173, 3) := by decide +kernel
theorem dX9_forgetStudies_14 : decode cX9_forgetStudies 14 = .ok (.return_, 1) := by decide +kernel
set_option maxRecDepth 20000 in
theorem ggX9_firstDifference_X4_has : GoodIn wsX9_firstDifference wsX4_has := goodIn_r _ [7, 8, 304, 305, 306, 307, 308] (by decide +kernel) (by decide +kernel)
set_option maxRecDepth 20000 in
theorem gX9_firstDifference_X4_has : GoodIn wsX9_firstDifference (wsV RX9 152 RX4 yX4_has wsX4_has) := goodIn_app (goodIn_of _ (by decide +kernel)) ggX9_firstDifference_X4_has
set_option maxRecDepth 20000 in
theorem ggX9_firstDifference_X9_within : GoodIn wsX9_firstDifference wsX9_within := goodIn_r _ [12] (by decide +kernel) (by decide +kernel)
set_option maxRecDepth 20000 in
theorem gX9_firstDifference_X9_within : GoodIn wsX9_firstDifference (va_wsS RX9 47 yX9_within wsX9_within) := goodIn_app (goodIn_of _ (by decide +kernel)) ggX9_firstDifference_X9_within
set_option maxRecDepth 20000 in
theorem ggX9_firstDifference_X8_machineOf_p0 : GoodIn wsX9_firstDifference ((wsX8_machineOf.drop 0).take 40) := goodIn_r _ [17, 18, 19, 20, 21, 22, 23, 24, 25, 26, 27, 28, 29, 30, 31, 32, 33, 34, 35, 36, 37, 38, 39, 40, 6, 41, 8, 42, 43, 44, 45, 46, 47, 48, 49, 50, 51, 52, 53, 54] (by decide +kernel) (by decide +kernel)
set_option maxRecDepth 20000 in
theorem ggX9_firstDifference_X8_machineOf_p1 : GoodIn wsX9_firstDifference ((wsX8_machineOf.drop 40).take 40) := goodIn_r _ [55, 56, 57, 11, 58, 59, 60, 61, 62, 63, 64, 65, 66, 67, 68, 69, 70, 71, 72, 73, 74, 75, 76, 77, 78, 79, 80, 81, 82, 83, 84, 85, 86, 87, 88, 89, 90, 91, 92, 93] (by decide +kernel) (by decide +kernel)
set_option maxRecDepth 20000 in
theorem ggX9_firstDifference_X8_machineOf_p2 : GoodIn wsX9_firstDifference ((wsX8_machineOf.drop 80).take 40) := goodIn_r _ [94, 95, 96, 97, 98, 99, 100, 101, 102, 103, 104, 105, 106, 107, 108, 109, 110, 111, 112, 113, 114, 115, 116, 117, 118, 119, 120, 121, 122, 123, 124, 125, 126, 127, 128, 129, 130, 131, 132, 133] (by decide +kernel) (by decide +kernel)
set_option maxRecDepth 20000 in
theorem ggX9_firstDifference_X8_machineOf_p3 : GoodIn wsX9_firstDifference (wsX8_machineOf.drop 120) := goodIn_r _ [134, 135, 136, 137, 138, 309, 310, 311, 312, 313, 314, 315, 316, 317, 318, 319, 320, 321, 322, 323, 324, 325, 326, 327, 328, 329, 330, 331, 332, 304, 305, 306, 307, 308, 333, 334, 335] (by decide +kernel) (by decide +kernel)
theorem ggX9_firstDifference_X8_machineOf : GoodIn wsX9_firstDifference wsX8_machineOf := (goodIn_td 0 40 ggX9_firstDifference_X8_machineOf_p0 (goodIn_td 40 40 ggX9_firstDifference_X8_machineOf_p1 (goodIn_td 80 40 ggX9_firstDifference_X8_machineOf_p2 ggX9_firstDifference_X8_machineOf_p3)))
set_option maxRecDepth 20000 in
theorem gX9_firstDifference_X8_machineOf : GoodIn wsX9_firstDifference (wsV RX9 103 RX8 yX8_machineOf wsX8_machineOf) := goodIn_app (goodIn_of _ (by decide +kernel)) ggX9_firstDifference_X8_machineOf
set_option maxRecDepth 20000 in
theorem ggX9_firstDifference_X1_stands : GoodIn wsX9_firstDifference wsX1_stands := goodIn_r _ [142, 77, 333, 334, 335] (by decide +kernel) (by decide +kernel)
set_option maxRecDepth 20000 in
theorem gX9_firstDifference_X1_stands : GoodIn wsX9_firstDifference (wsV RX9 116 RX1 yX1_stands wsX1_stands) := goodIn_app (goodIn_of _ (by decide +kernel)) ggX9_firstDifference_X1_stands
set_option maxRecDepth 20000 in
theorem ggX9_firstDifference_X8_rulesOf_p0 : GoodIn wsX9_firstDifference ((wsX8_rulesOf.drop 0).take 40) := goodIn_r _ [146, 147, 148, 20, 149, 150, 151, 152, 153, 154, 155, 156, 157, 35, 36, 37, 158, 159, 160, 161, 162, 163, 164, 165, 166, 167, 39, 40, 6, 41, 8, 168, 169, 170, 171, 172, 173, 174, 175, 176] (by decide +kernel) (by decide +kernel)
set_option maxRecDepth 20000 in
theorem ggX9_firstDifference_X8_rulesOf_p1 : GoodIn wsX9_firstDifference ((wsX8_rulesOf.drop 40).take 40) := goodIn_r _ [177, 178, 179, 180, 181, 48, 49, 50, 51, 182, 60, 61, 62, 63, 183, 184, 185, 186, 187, 188, 53, 54, 55, 56, 189, 190, 191, 192, 193, 194, 195, 196, 197, 198, 199, 11, 200, 201, 202, 203] (by decide +kernel) (by decide +kernel)
set_option maxRecDepth 20000 in
theorem ggX9_firstDifference_X8_rulesOf_p2 : GoodIn wsX9_firstDifference ((wsX8_rulesOf.drop 80).take 40) := goodIn_r _ [204, 205, 206, 207, 208, 209, 210, 211, 212, 213, 214, 215, 216, 217, 218, 219, 220, 221, 222, 223, 224, 309, 310, 311, 312, 313, 314, 315, 336, 337, 338, 339, 340, 341, 342, 343, 304, 305, 306, 307] (by decide +kernel) (by decide +kernel)
set_option maxRecDepth 20000 in
theorem ggX9_firstDifference_X8_rulesOf_p3 : GoodIn wsX9_firstDifference (wsX8_rulesOf.drop 120) := goodIn_r _ [308, 344, 345] (by decide +kernel) (by decide +kernel)
theorem ggX9_firstDifference_X8_rulesOf : GoodIn wsX9_firstDifference wsX8_rulesOf := (goodIn_td 0 40 ggX9_firstDifference_X8_rulesOf_p0 (goodIn_td 40 40 ggX9_firstDifference_X8_rulesOf_p1 (goodIn_td 80 40 ggX9_firstDifference_X8_rulesOf_p2 ggX9_firstDifference_X8_rulesOf_p3)))
set_option maxRecDepth 20000 in
theorem gX9_firstDifference_X8_rulesOf : GoodIn wsX9_firstDifference (wsV RX9 91 RX8 yX8_rulesOf wsX8_rulesOf) := goodIn_app (goodIn_of _ (by decide +kernel)) ggX9_firstDifference_X8_rulesOf
set_option maxRecDepth 20000 in
theorem ggX9_firstDifference_X7_start_p0 : GoodIn wsX9_firstDifference ((wsX7_start.drop 0).take 40) := goodIn_r _ [229, 230, 231, 232, 233, 234, 235, 236, 237, 238, 239, 240, 73, 241, 75, 242, 243, 244, 245, 76, 77, 246, 247, 248, 161, 249, 163, 250, 164, 194, 193, 165, 251, 174, 175, 176, 177, 178, 179, 180] (by decide +kernel) (by decide +kernel)
set_option maxRecDepth 20000 in
theorem ggX9_firstDifference_X7_start_p1 : GoodIn wsX9_firstDifference (wsX7_start.drop 40) := goodIn_r _ [35, 36, 37, 252, 346, 347, 348, 349, 350, 351, 352, 353, 333, 334, 335, 339, 340, 341, 342, 343, 344, 345] (by decide +kernel) (by decide +kernel)
theorem ggX9_firstDifference_X7_start : GoodIn wsX9_firstDifference wsX7_start := (goodIn_td 0 40 ggX9_firstDifference_X7_start_p0 ggX9_firstDifference_X7_start_p1)
set_option maxRecDepth 20000 in
theorem gX9_firstDifference_X7_start : GoodIn wsX9_firstDifference (wsV RX9 126 RX7 yX7_start wsX7_start) := goodIn_app (goodIn_of _ (by decide +kernel)) ggX9_firstDifference_X7_start
set_option maxRecDepth 20000 in
theorem ggX9_firstDifference_X4_length : GoodIn wsX9_firstDifference wsX4_length := goodIn_r _ [50, 8, 51, 304, 305, 306, 307, 308] (by decide +kernel) (by decide +kernel)
set_option maxRecDepth 20000 in
theorem gX9_firstDifference_X4_length : GoodIn wsX9_firstDifference (wsV RX9 62 RX4 yX4_length wsX4_length) := goodIn_app (goodIn_of _ (by decide +kernel)) ggX9_firstDifference_X4_length
set_option maxRecDepth 20000 in
theorem ggX9_firstDifference_X9_differenceAt_p0 : GoodIn wsX9_firstDifference ((wsX9_differenceAt.drop 0).take 40) := goodIn_r _ [257, 1, 2, 258, 60, 61, 6, 62, 63, 259, 184, 185, 186, 187, 260, 261, 262, 228, 263, 230, 235, 231, 237, 233, 232, 236, 264, 265, 266, 73, 267, 76, 268, 269, 270, 161, 271, 272, 273, 274] (by decide +kernel) (by decide +kernel)
set_option maxRecDepth 20000 in
theorem ggX9_firstDifference_X9_differenceAt_p1 : GoodIn wsX9_firstDifference ((wsX9_differenceAt.drop 40).take 40) := goodIn_r _ [275, 163, 195, 196, 197, 198, 165, 194, 276, 277, 278, 279, 193, 199, 11, 200, 280, 206, 207, 176, 208, 178, 179, 281, 282, 283, 284, 164, 285, 214, 215, 216, 286, 287, 288, 289, 75, 290, 53, 54] (by decide +kernel) (by decide +kernel)
set_option maxRecDepth 20000 in
theorem ggX9_firstDifference_X9_differenceAt_p2 : GoodIn wsX9_firstDifference (wsX9_differenceAt.drop 80) := goodIn_r _ [55, 56, 291, 57, 58, 292, 293, 294, 295, 296, 297, 298, 299, 300, 301, 302, 303, 304, 305, 306, 307, 308, 346, 347, 348, 349, 350, 351, 352, 353, 333, 334, 335, 339, 340, 341, 342, 343, 344, 345] (by decide +kernel) (by decide +kernel)
theorem ggX9_firstDifference_X9_differenceAt : GoodIn wsX9_firstDifference wsX9_differenceAt := (goodIn_td 0 40 ggX9_firstDifference_X9_differenceAt_p0 (goodIn_td 40 40 ggX9_firstDifference_X9_differenceAt_p1 ggX9_firstDifference_X9_differenceAt_p2))
set_option maxRecDepth 20000 in
theorem gX9_firstDifference_X9_differenceAt : GoodIn wsX9_firstDifference (wsV RX9 176 RX9 yX9_differenceAt wsX9_differenceAt) := goodIn_app (goodIn_of _ (by decide +kernel)) ggX9_firstDifference_X9_differenceAt
theorem dX9_firstDifference_0 : decode cX9_firstDifference 0 = .ok (.aload_n 0, 1) := by decide +kernel
theorem dX9_firstDifference_1 : decode cX9_firstDifference 1 = .ok (.getfield 12, 3) := by decide +kernel
theorem dX9_firstDifference_4 : decode cX9_firstDifference 4 = .ok (.getfield 37, 3) := by decide +kernel
theorem dX9_firstDifference_7 : decode cX9_firstDifference 7 = .ok (.iload_n 2, 1) := by decide +kernel
theorem dX9_firstDifference_8 : decode cX9_firstDifference 8 = .ok (.invokevirtual 152, 3) := by decide +kernel
theorem dX9_firstDifference_11 : decode cX9_firstDifference 11 = .ok (.ifCond .eq 11, 3) := by decide +kernel
theorem dX9_firstDifference_14 : decode cX9_firstDifference 14 = .ok (.iload_n 3, 1) := by decide +kernel
theorem dX9_firstDifference_15 : decode cX9_firstDifference 15 = .ok (.iconst 2, 1) := by decide +kernel
theorem dX9_firstDifference_16 : decode cX9_firstDifference 16 = .ok (.invokestatic 47, 3) := by decide +kernel
theorem dX9_firstDifference_19 : decode cX9_firstDifference 19 = .ok (.ifCond .ne 5, 3) := by decide +kernel
theorem dX9_firstDifference_22 : decode cX9_firstDifference 22 = .ok (.iconst (-1), 1) := by decide +kernel
theorem dX9_firstDifference_23 : decode cX9_firstDifference 23 = .ok (.ireturn, 1) := by decide +kernel
theorem dX9_firstDifference_24 : decode cX9_firstDifference 24 = .ok (.aload_n 1, 1) := by decide +kernel
theorem dX9_firstDifference_25 : decode cX9_firstDifference 25 = .ok (.aload_n 0, 1) := by decide +kernel
theorem dX9_firstDifference_26 : decode cX9_firstDifference 26 = .ok (.getfield 12, 3) := by decide +kernel
theorem dX9_firstDifference_29 : decode cX9_firstDifference 29 = .ok (.getfield 37, 3) := by decide +kernel
theorem dX9_firstDifference_32 : decode cX9_firstDifference 32 = .ok (.invokevirtual 103, 3) := by decide +kernel

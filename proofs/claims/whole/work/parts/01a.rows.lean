set_option maxRecDepth 20000 in
theorem ggX0_init_X4_init : GoodIn wsX0_init wsX4_init := goodIn_r _ [13, 14, 2, 3, 15, 16, 17, 18, 19, 53, 54, 55, 56, 57] (by decide +kernel) (by decide +kernel)
set_option maxRecDepth 20000 in
theorem gX0_init_X4_init_n9 : GoodIn wsX0_init (wsX4_init) := ggX0_init_X4_init
set_option maxRecDepth 20000 in
theorem ggX0_init_X7_init : GoodIn wsX0_init wsX7_init := goodIn_r _ [21, 22, 2, 3, 23, 24, 25, 26, 27, 28, 29, 30, 31, 32, 33, 34, 15, 35, 36, 37, 38, 39, 40, 41, 42, 43, 44, 45, 46, 47, 48, 49, 50, 51, 52, 68, 69, 70, 60, 61, 62, 63, 64, 65, 66, 67, 71, 72, 73, 74, 75, 76, 77] (by decide +kernel) (by decide +kernel)
set_option maxRecDepth 20000 in
theorem gX0_init_X7_init_n18 : GoodIn wsX0_init (wsX7_init) := ggX0_init_X7_init
theorem dX0_init_0 : decode cX0_init 0 = .ok (.aload_n 0, 1) := by decide +kernel
theorem dX0_init_1 : decode cX0_init 1 = .ok (.invokespecial 1, 3) := by decide +kernel
theorem dX0_init_4 : decode cX0_init 4 = .ok (.aload_n 0, 1) := by decide +kernel
theorem dX0_init_5 : decode cX0_init 5 = .ok (.new 7, 3) := by decide +kernel
theorem dX0_init_8 : decode cX0_init 8 = .ok (.dup, 1) := by decide +kernel
theorem dX0_init_9 : decode cX0_init 9 = .ok (.invokespecial 9, 3) := by decide +kernel
theorem dX0_init_12 : decode cX0_init 12 = .ok (.putfield 10, 3) := by decide +kernel
theorem dX0_init_15 : decode cX0_init 15 = .ok (.aload_n 0, 1) := by decide +kernel
theorem dX0_init_16 : decode cX0_init 16 = .ok (.new 16, 3) := by decide +kernel
theorem dX0_init_19 : decode cX0_init 19 = .ok (.dup, 1) := by decide +kernel
theorem dX0_init_20 : decode cX0_init 20 = .ok (.invokespecial 18, 3) := by decide +kernel
theorem dX0_init_23 : decode cX0_init 23 = .ok (.putfield 19, 3) := by decide +kernel
theorem dX0_init_26 : decode cX0_init 26 = .ok (.return_, 1) := by decide +kernel
set_option maxRecDepth 20000 in
theorem ggX0_copy_X4_copy : GoodIn wsX0_copy wsX4_copy := goodIn_r _ [7, 8, 9, 10, 11, 12, 13, 14, 15, 16, 61, 62, 63, 64, 65] (by decide +kernel) (by decide +kernel)
set_option maxRecDepth 20000 in
theorem gX0_copy_X4_copy : GoodIn wsX0_copy (wsV RX0 23 RX4 yX4_copy wsX4_copy) := goodIn_app (goodIn_of _ (by decide +kernel)) ggX0_copy_X4_copy
set_option maxRecDepth 20000 in
theorem ggX0_copy_X7_copy : GoodIn wsX0_copy wsX7_copy := goodIn_r _ [21, 22, 23, 24, 25, 26, 10, 11, 12, 27, 28, 29, 30, 31, 32, 33, 34, 35, 36, 37, 38, 39, 40, 41, 42, 43, 44, 45, 46, 47, 48, 49, 50, 51, 52, 53, 54, 55, 56, 57, 58, 66, 67, 68, 69, 70, 71, 72, 73, 74, 75, 76, 77, 78, 79, 80, 81, 82, 83] (by decide +kernel) (by decide +kernel)
set_option maxRecDepth 20000 in
theorem gX0_copy_X7_copy : GoodIn wsX0_copy (wsV RX0 27 RX7 yX7_copy wsX7_copy) := goodIn_app (goodIn_of _ (by decide +kernel)) ggX0_copy_X7_copy
theorem dX0_copy_0 : decode cX0_copy 0 = .ok (.aload_n 0, 1) := by decide +kernel
theorem dX0_copy_1 : decode cX0_copy 1 = .ok (.getfield 10, 3) := by decide +kernel
theorem dX0_copy_4 : decode cX0_copy 4 = .ok (.aload_n 1, 1) := by decide +kernel
theorem dX0_copy_5 : decode cX0_copy 5 = .ok (.getfield 10, 3) := by decide +kernel
theorem dX0_copy_8 : decode cX0_copy 8 = .ok (.invokevirtual 23, 3) := by decide +kernel
theorem dX0_copy_11 : decode cX0_copy 11 = .ok (.aload_n 0, 1) := by decide +kernel
theorem dX0_copy_12 : decode cX0_copy 12 = .ok (.getfield 19, 3) := by decide +kernel
theorem dX0_copy_15 : decode cX0_copy 15 = .ok (.aload_n 1, 1) := by decide +kernel
theorem dX0_copy_16 : decode cX0_copy 16 = .ok (.getfield 19, 3) := by decide +kernel
theorem dX0_copy_19 : decode cX0_copy 19 = .ok (.invokevirtual 27, 3) := by decide +kernel
theorem dX0_copy_22 : decode cX0_copy 22 = .ok (.return_, 1) := by decide +kernel
theorem dX1_init_0 : decode cX1_init 0 = .ok (.aload_n 0, 1) := by decide +kernel
theorem dX1_init_1 : decode cX1_init 1 = .ok (.invokespecial 3, 3) := by decide +kernel
theorem dX1_init_4 : decode cX1_init 4 = .ok (.aload_n 0, 1) := by decide +kernel
theorem dX1_init_5 : decode cX1_init 5 = .ok (.bipush 12, 2) := by decide +kernel
theorem dX1_init_7 : decode cX1_init 7 = .ok (.newarray .int, 2) := by decide +kernel
theorem dX1_init_9 : decode cX1_init 9 = .ok (.putfield 9, 3) := by decide +kernel
theorem dX1_init_12 : decode cX1_init 12 = .ok (.aload_n 0, 1) := by decide +kernel
theorem dX1_init_13 : decode cX1_init 13 = .ok (.bipush 12, 2) := by decide +kernel
theorem dX1_init_15 : decode cX1_init 15 = .ok (.newarray .int, 2) := by decide +kernel
theorem dX1_init_17 : decode cX1_init 17 = .ok (.putfield 15, 3) := by decide +kernel
theorem dX1_init_20 : decode cX1_init 20 = .ok (.return_, 1) := by decide +kernel
set_option maxRecDepth 20000 in
theorem ggX1_clear_J7_fill_53178 : GoodIn wsX1_clear wsJ7_fill_53178 := goodIn_r _ [7] (by decide +kernel) (by decide +kernel)
set_option maxRecDepth 20000 in
theorem gX1_clear_J7_fill_53178 : GoodIn wsX1_clear (va_wsS RX1 18 yJ7_fill_53178 wsJ7_fill_53178) := goodIn_app (goodIn_of _ (by decide +kernel)) ggX1_clear_J7_fill_53178
theorem dX1_clear_0 : decode cX1_clear 0 = .ok (.aload_n 0, 1) := by decide +kernel
theorem dX1_clear_1 : decode cX1_clear 1 = .ok (.getfield 9, 3) := by decide +kernel
theorem dX1_clear_4 : decode cX1_clear 4 = .ok (.iconst (-1), 1) := by decide +kernel
theorem dX1_clear_5 : decode cX1_clear 5 = .ok (.invokestatic 18, 3) := by decide +kernel
theorem dX1_clear_8 : decode cX1_clear 8 = .ok (.aload_n 0, 1) := by decide +kernel
theorem dX1_clear_9 : decode cX1_clear 9 = .ok (.getfield 15, 3) := by decide +kernel
theorem dX1_clear_12 : decode cX1_clear 12 = .ok (.iconst (-1), 1) := by decide +kernel
theorem dX1_clear_13 : decode cX1_clear 13 = .ok (.invokestatic 18, 3) := by decide +kernel
theorem dX1_clear_16 : decode cX1_clear 16 = .ok (.aload_n 0, 1) := by decide +kernel
theorem dX1_clear_17 : decode cX1_clear 17 = .ok (.iload_n 1, 1) := by decide +kernel
theorem dX1_clear_18 : decode cX1_clear 18 = .ok (.putfield 24, 3) := by decide +kernel
theorem dX1_clear_21 : decode cX1_clear 21 = .ok (.return_, 1) := by decide +kernel
theorem dX1_setMove_0 : decode cX1_setMove 0 = .ok (.aload_n 0, 1) := by decide +kernel
theorem dX1_setMove_1 : decode cX1_setMove 1 = .ok (.getfield 9, 3) := by decide +kernel
theorem dX1_setMove_4 : decode cX1_setMove 4 = .ok (.iload_n 1, 1) := by decide +kernel
theorem dX1_setMove_5 : decode cX1_setMove 5 = .ok (.iload_n 2, 1) := by decide +kernel
theorem dX1_setMove_6 : decode cX1_setMove 6 = .ok (.iastore, 1) := by decide +kernel
theorem dX1_setMove_7 : decode cX1_setMove 7 = .ok (.aload_n 0, 1) := by decide +kernel
theorem dX1_setMove_8 : decode cX1_setMove 8 = .ok (.getfield 15, 3) := by decide +kernel
theorem dX1_setMove_11 : decode cX1_setMove 11 = .ok (.iload_n 1, 1) := by decide +kernel
theorem dX1_setMove_12 : decode cX1_setMove 12 = .ok (.iload_n 3, 1) := by decide +kernel
theorem dX1_setMove_13 : decode cX1_setMove 13 = .ok (.iastore, 1) := by decide +kernel
theorem dX1_setMove_14 : decode cX1_setMove 14 = .ok (.return_, 1) := by decide +kernel
theorem dX1_size_0 : decode cX1_size 0 = .ok (.aload_n 0, 1) := by decide +kernel
theorem dX1_size_1 : decode cX1_size 1 = .ok (.getfield 24, 3) := by decide +kernel
theorem dX1_size_4 : decode cX1_size 4 = .ok (.ireturn, 1) := by decide +kernel
theorem dX1_stands_0 : decode cX1_stands 0 = .ok (.aload_n 0, 1) := by decide +kernel
theorem dX1_stands_1 : decode cX1_stands 1 = .ok (.getfield 24, 3) := by decide +kernel
theorem dX1_stands_4 : decode cX1_stands 4 = .ok (.ifCond .le 7, 3) := by decide +kernel
theorem dX1_stands_7 : decode cX1_stands 7 = .ok (.iconst 1, 1) := by decide +kernel
theorem dX1_stands_8 : decode cX1_stands 8 = .ok (.goto 4, 3) := by decide +kernel
theorem dX1_stands_11 : decode cX1_stands 11 = .ok (.iconst 0, 1) := by decide +kernel
theorem dX1_stands_12 : decode cX1_stands 12 = .ok (.ireturn, 1) := by decide +kernel
theorem dX1_targetOf_0 : decode cX1_targetOf 0 = .ok (.aload_n 0, 1) := by decide +kernel
theorem dX1_targetOf_1 : decode cX1_targetOf 1 = .ok (.getfield 9, 3) := by decide +kernel
theorem dX1_targetOf_4 : decode cX1_targetOf 4 = .ok (.iload_n 1, 1) := by decide +kernel
theorem dX1_targetOf_5 : decode cX1_targetOf 5 = .ok (.iconst 3, 1) := by decide +kernel
theorem dX1_targetOf_6 : decode cX1_targetOf 6 = .ok (.imul, 1) := by decide +kernel
theorem dX1_targetOf_7 : decode cX1_targetOf 7 = .ok (.iload_n 2, 1) := by decide +kernel
theorem dX1_targetOf_8 : decode cX1_targetOf 8 = .ok (.iadd, 1) := by decide +kernel
theorem dX1_targetOf_9 : decode cX1_targetOf 9 = .ok (.iaload, 1) := by decide +kernel
theorem dX1_targetOf_10 : decode cX1_targetOf 10 = .ok (.ireturn, 1) := by decide +kernel
theorem dX1_toldBy_0 : decode cX1_toldBy 0 = .ok (.aload_n 0, 1) := by decide +kernel
theorem dX1_toldBy_1 : decode cX1_toldBy 1 = .ok (.getfield 15, 3) := by decide +kernel
theorem dX1_toldBy_4 : decode cX1_toldBy 4 = .ok (.iload_n 1, 1) := by decide +kernel
theorem dX1_toldBy_5 : decode cX1_toldBy 5 = .ok (.iconst 3, 1) := by decide +kernel
theorem dX1_toldBy_6 : decode cX1_toldBy 6 = .ok (.imul, 1) := by decide +kernel
theorem dX1_toldBy_7 : decode cX1_toldBy 7 = .ok (.iload_n 2, 1) := by decide +kernel
theorem dX1_toldBy_8 : decode cX1_toldBy 8 = .ok (.iadd, 1) := by decide +kernel
theorem dX1_toldBy_9 : decode cX1_toldBy 9 = .ok (.iaload, 1) := by decide +kernel
theorem dX1_toldBy_10 : decode cX1_toldBy 10 = .ok (.ireturn, 1) := by decide +kernel
theorem dX1_copy_0 : decode cX1_copy 0 = .ok (.aload_n 1, 1) := by decide +kernel
theorem dX1_copy_1 : decode cX1_copy 1 = .ok (.getfield 9, 3) := by decide +kernel
theorem dX1_copy_4 : decode cX1_copy 4 = .ok (.iconst 0, 1) := by decide +kernel
theorem dX1_copy_5 : decode cX1_copy 5 = .ok (.aload_n 0, 1) := by decide +kernel
theorem dX1_copy_6 : decode cX1_copy 6 = .ok (.getfield 9, 3) := by decide +kernel
theorem dX1_copy_9 : decode cX1_copy 9 = .ok (.iconst 0, 1) := by decide +kernel
theorem dX1_copy_10 : decode cX1_copy 10 = .ok (.bipush 12, 2) := by decide +kernel
theorem dX1_copy_12 : decode cX1_copy 12 = .ok (.invokestatic 28, 3) := by decide +kernel
theorem dX1_copy_15 : decode cX1_copy 15 = .ok (.aload_n 1, 1) := by decide +kernel
theorem dX1_copy_16 : decode cX1_copy 16 = .ok (.getfield 15, 3) := by decide +kernel
theorem dX1_copy_19 : decode cX1_copy 19 = .ok (.iconst 0, 1) := by decide +kernel
theorem dX1_copy_20 : decode cX1_copy 20 = .ok (.aload_n 0, 1) := by decide +kernel
theorem dX1_copy_21 : decode cX1_copy 21 = .ok (.getfield 15, 3) := by decide +kernel
theorem dX1_copy_24 : decode cX1_copy 24 = .ok (.iconst 0, 1) := by decide +kernel
theorem dX1_copy_25 : decode cX1_copy 25 = .ok (.bipush 12, 2) := by decide +kernel
theorem dX1_copy_27 : decode cX1_copy 27 = .ok (.invokestatic 28, 3) := by decide +kernel
theorem dX1_copy_30 : decode cX1_copy 30 = .ok (.aload_n 0, 1) := by decide +kernel
theorem dX1_copy_31 : decode cX1_copy 31 = .ok (.aload_n 1, 1) := by decide +kernel
theorem dX1_copy_32 : decode cX1_copy 32 = .ok (.getfield 24, 3) := by decide +kernel
theorem dX1_copy_35 : decode cX1_copy 35 = .ok (.putfield 24, 3) := by decide +kernel
theorem dX1_copy_38 : decode cX1_copy 38 = .ok (.return_, 1) := by decide +kernel
theorem dX2_init_0 : decode cX2_init 0 = .ok (.aload_n 0, 1) := by decide +kernel
theorem dX2_init_1 : decode cX2_init 1 = .ok (.invokespecial 3, 3) := by decide +kernel
theorem dX2_init_4 : decode cX2_init 4 = .ok (.aload_n 0, 1) := by decide +kernel
theorem dX2_init_5 : decode cX2_init 5 = .ok (.bipush 97, 2) := by decide +kernel
theorem dX2_init_7 : decode cX2_init 7 = .ok (.newarray .int, 2) := by decide +kernel
theorem dX2_init_9 : decode cX2_init 9 = .ok (.putfield 11, 3) := by decide +kernel
theorem dX2_init_12 : decode cX2_init 12 = .ok (.aload_n 0, 1) := by decide +kernel
theorem dX2_init_13 : decode cX2_init 13 = .ok (.bipush 97, 2) := by decide +kernel
theorem dX2_init_15 : decode cX2_init 15 = .ok (.newarray .int, 2) := by decide +kernel
theorem dX2_init_17 : decode cX2_init 17 = .ok (.putfield 15, 3) := by decide +kernel
theorem dX2_init_20 : decode cX2_init 20 = .ok (.aload_n 0, 1) := by decide +kernel
theorem dX2_init_21 : decode cX2_init 21 = .ok (.bipush 97, 2) := by decide +kernel
theorem dX2_init_23 : decode cX2_init 23 = .ok (.newarray .int, 2) := by decide +kernel
theorem dX2_init_25 : decode cX2_init 25 = .ok (.putfield 18, 3) := by decide +kernel
theorem dX2_init_28 : decode cX2_init 28 = .ok (.aload_n 0, 1) := by decide +kernel
theorem dX2_init_29 : decode cX2_init 29 = .ok (.sipush 291, 3) := by decide +kernel
theorem dX2_init_32 : decode cX2_init 32 = .ok (.newarray .int, 2) := by decide +kernel
theorem dX2_init_34 : decode cX2_init 34 = .ok (.putfield 21, 3) := by decide +kernel
theorem dX2_init_37 : decode cX2_init 37 = .ok (.aload_n 0, 1) := by decide +kernel
theorem dX2_init_38 : decode cX2_init 38 = .ok (.bipush 97, 2) := by decide +kernel
theorem dX2_init_40 : decode cX2_init 40 = .ok (.newarray .int, 2) := by decide +kernel
theorem dX2_init_42 : decode cX2_init 42 = .ok (.putfield 24, 3) := by decide +kernel
theorem dX2_init_45 : decode cX2_init 45 = .ok (.aload_n 0, 1) := by decide +kernel
theorem dX2_init_46 : decode cX2_init 46 = .ok (.bipush 97, 2) := by decide +kernel
theorem dX2_init_48 : decode cX2_init 48 = .ok (.newarray .int, 2) := by decide +kernel
theorem dX2_init_50 : decode cX2_init 50 = .ok (.putfield 27, 3) := by decide +kernel
theorem dX2_init_53 : decode cX2_init 53 = .ok (.aload_n 0, 1) := by decide +kernel
theorem dX2_init_54 : decode cX2_init 54 = .ok (.bipush 12, 2) := by decide +kernel
theorem dX2_init_56 : decode cX2_init 56 = .ok (.newarray .int, 2) := by decide +kernel
theorem dX2_init_58 : decode cX2_init 58 = .ok (.putfield 30, 3) := by decide +kernel
theorem dX2_init_61 : decode cX2_init 61 = .ok (.aload_n 0, 1) := by decide +kernel
theorem dX2_init_62 : decode cX2_init 62 = .ok (.bipush 12, 2) := by decide +kernel
theorem dX2_init_64 : decode cX2_init 64 = .ok (.newarray .int, 2) := by decide +kernel
theorem dX2_init_66 : decode cX2_init 66 = .ok (.putfield 33, 3) := by decide +kernel
theorem dX2_init_69 : decode cX2_init 69 = .ok (.return_, 1) := by decide +kernel
set_option maxRecDepth 20000 in
theorem ggX2_search_X2_startTree : GoodIn wsX2_search wsX2_startTree := goodIn_r _ [8, 1, 9, 10, 11, 12, 13, 14, 15, 81, 82, 83, 84, 85, 86, 87, 88, 89, 90] (by decide +kernel) (by decide +kernel)
set_option maxRecDepth 20000 in
theorem gX2_search_X2_startTree : GoodIn wsX2_search (wsV RX2 36 RX2 yX2_startTree wsX2_startTree) := goodIn_app (goodIn_of _ (by decide +kernel)) ggX2_search_X2_startTree
set_option maxRecDepth 20000 in
theorem ggX2_search_X4_size : GoodIn wsX2_search wsX4_size := goodIn_r _ [20, 21, 91, 92, 93, 94, 95] (by decide +kernel) (by decide +kernel)
set_option maxRecDepth 20000 in
theorem gX2_search_X4_size : GoodIn wsX2_search (wsV RX2 39 RX4 yX4_size wsX4_size) := goodIn_app (goodIn_of _ (by decide +kernel)) ggX2_search_X4_size
set_option maxRecDepth 20000 in
theorem ggX2_search_X2_plantRow : GoodIn wsX2_search wsX2_plantRow := goodIn_r _ [25, 26, 27, 28, 29, 19, 30, 21, 31, 32, 33, 34, 35, 36, 37, 38, 39, 40, 41, 42, 43, 44, 45, 46, 47, 7, 48, 11, 1, 49, 50, 81, 82, 83, 84, 85, 86, 87, 88, 89, 90, 91, 92, 93, 94, 95] (by decide +kernel) (by decide +kernel)
set_option maxRecDepth 20000 in
theorem gX2_search_X2_plantRow : GoodIn wsX2_search (wsV RX2 45 RX2 yX2_plantRow wsX2_plantRow) := goodIn_app (goodIn_of _ (by decide +kernel)) ggX2_search_X2_plantRow
set_option maxRecDepth 20000 in
theorem ggX2_search_X1_clear : GoodIn wsX2_search wsX1_clear := goodIn_r _ [55, 56, 57, 58, 59, 13, 14, 15, 96, 97, 98] (by decide +kernel) (by decide +kernel)
set_option maxRecDepth 20000 in
theorem gX2_search_X1_clear : GoodIn wsX2_search (wsV RX2 53 RX1 yX1_clear wsX1_clear) := goodIn_app (goodIn_of _ (by decide +kernel)) ggX2_search_X1_clear
set_option maxRecDepth 20000 in
theorem ggX2_search_J7_fill_53178 : GoodIn wsX2_search wsJ7_fill_53178 := goodIn_r _ [15] (by decide +kernel) (by decide +kernel)
set_option maxRecDepth 20000 in
theorem gX2_search_J7_fill_53178 : GoodIn wsX2_search (va_wsS RX2 62 yJ7_fill_53178 wsJ7_fill_53178) := goodIn_app (goodIn_of _ (by decide +kernel)) ggX2_search_J7_fill_53178
set_option maxRecDepth 20000 in
theorem ggX2_search_X2_walk : GoodIn wsX2_search wsX2_walk := goodIn_r _ [63, 1, 49, 9, 50, 3, 64, 26, 10, 65, 66, 67, 7, 68, 2, 69, 70, 71, 72, 60, 61, 62, 81, 82, 83, 84, 85, 86, 87, 88, 89, 90] (by decide +kernel) (by decide +kernel)
set_option maxRecDepth 20000 in
theorem gX2_search_X2_walk : GoodIn wsX2_search (wsV RX2 68 RX2 yX2_walk wsX2_walk) := goodIn_app (goodIn_of _ (by decide +kernel)) ggX2_search_X2_walk
set_option maxRecDepth 20000 in
theorem ggX2_search_X2_hand : GoodIn wsX2_search wsX2_hand := goodIn_r _ [76, 2, 3, 26, 64, 51, 52, 53, 54, 55, 56, 57, 58, 59, 13, 14, 15, 77, 78, 79, 80, 81, 82, 83, 84, 85, 86, 87, 88, 89, 90, 96, 97, 98] (by decide +kernel) (by decide +kernel)
set_option maxRecDepth 20000 in
theorem gX2_search_X2_hand : GoodIn wsX2_search (wsV RX2 72 RX2 yX2_hand wsX2_hand) := goodIn_app (goodIn_of _ (by decide +kernel)) ggX2_search_X2_hand
theorem dX2_search_0 : decode cX2_search 0 = .ok (.aload_n 0, 1) := by decide +kernel
theorem dX2_search_1 : decode cX2_search 1 = .ok (.invokevirtual 36, 3) := by decide +kernel
theorem dX2_search_4 : decode cX2_search 4 = .ok (.iconst 0, 1) := by decide +kernel
theorem dX2_search_5 : decode cX2_search 5 = .ok (.istore 4, 2) := by decide +kernel
theorem dX2_search_7 : decode cX2_search 7 = .ok (.iconst 0, 1) := by decide +kernel
theorem dX2_search_8 : decode cX2_search 8 = .ok (.istore 5, 2) := by decide +kernel
theorem dX2_search_10 : decode cX2_search 10 = .ok (.iload 5, 2) := by decide +kernel
theorem dX2_search_12 : decode cX2_search 12 = .ok (.aload_n 1, 1) := by decide +kernel
theorem dX2_search_13 : decode cX2_search 13 = .ok (.invokevirtual 39, 3) := by decide +kernel
theorem dX2_search_16 : decode cX2_search 16 = .ok (.if_icmp .ge 37, 3) := by decide +kernel
theorem dX2_search_19 : decode cX2_search 19 = .ok (.iload 4, 2) := by decide +kernel
theorem dX2_search_21 : decode cX2_search 21 = .ok (.ifCond .ne 32, 3) := by decide +kernel
theorem dX2_search_24 : decode cX2_search 24 = .ok (.iload 5, 2) := by decide +kernel
theorem dX2_search_26 : decode cX2_search 26 = .ok (.iload_n 2, 1) := by decide +kernel
theorem dX2_search_27 : decode cX2_search 27 = .ok (.if_icmp .eq 17, 3) := by decide +kernel
theorem dX2_search_30 : decode cX2_search 30 = .ok (.aload_n 0, 1) := by decide +kernel
theorem dX2_search_31 : decode cX2_search 31 = .ok (.aload_n 1, 1) := by decide +kernel
theorem dX2_search_32 : decode cX2_search 32 = .ok (.iload 5, 2) := by decide +kernel
theorem dX2_search_34 : decode cX2_search 34 = .ok (.invokevirtual 45, 3) := by decide +kernel
theorem dX2_search_37 : decode cX2_search 37 = .ok (.ifCond .ne 7, 3) := by decide +kernel
theorem dX2_search_40 : decode cX2_search 40 = .ok (.iconst 1, 1) := by decide +kernel
theorem dX2_search_41 : decode cX2_search 41 = .ok (.goto 4, 3) := by decide +kernel
theorem dX2_search_44 : decode cX2_search 44 = .ok (.iconst 0, 1) := by decide +kernel
theorem dX2_search_45 : decode cX2_search 45 = .ok (.istore 4, 2) := by decide +kernel
theorem dX2_search_47 : decode cX2_search 47 = .ok (.iinc 5 1, 3) := by decide +kernel
theorem dX2_search_50 : decode cX2_search 50 = .ok (.goto (-40), 3) := by decide +kernel
theorem dX2_search_53 : decode cX2_search 53 = .ok (.aload_n 3, 1) := by decide +kernel
theorem dX2_search_54 : decode cX2_search 54 = .ok (.aload_n 0, 1) := by decide +kernel
theorem dX2_search_55 : decode cX2_search 55 = .ok (.getfield 49, 3) := by decide +kernel
theorem dX2_search_58 : decode cX2_search 58 = .ok (.iconst 1, 1) := by decide +kernel
theorem dX2_search_59 : decode cX2_search 59 = .ok (.if_icmp .le 7, 3) := by decide +kernel
theorem dX2_search_62 : decode cX2_search 62 = .ok (.iconst (-1), 1) := by decide +kernel
theorem dX2_search_63 : decode cX2_search 63 = .ok (.goto 4, 3) := by decide +kernel
theorem dX2_search_66 : decode cX2_search 66 = .ok (.iconst 0, 1) := by decide +kernel
theorem dX2_search_67 : decode cX2_search 67 = .ok (.invokevirtual 53, 3) := by decide +kernel
theorem dX2_search_70 : decode cX2_search 70 = .ok (.aload_n 0, 1) := by decide +kernel
theorem dX2_search_71 : decode cX2_search 71 = .ok (.getfield 49, 3) := by decide +kernel
theorem dX2_search_74 : decode cX2_search 74 = .ok (.iconst 1, 1) := by decide +kernel
theorem dX2_search_75 : decode cX2_search 75 = .ok (.if_icmp .eq 8, 3) := by decide +kernel
theorem dX2_search_78 : decode cX2_search 78 = .ok (.iload 4, 2) := by decide +kernel
theorem dX2_search_80 : decode cX2_search 80 = .ok (.ifCond .eq 4, 3) := by decide +kernel
theorem dX2_search_83 : decode cX2_search 83 = .ok (.return_, 1) := by decide +kernel
theorem dX2_search_84 : decode cX2_search 84 = .ok (.iconst 1, 1) := by decide +kernel
theorem dX2_search_85 : decode cX2_search 85 = .ok (.istore 5, 2) := by decide +kernel
theorem dX2_search_87 : decode cX2_search 87 = .ok (.iload 5, 2) := by decide +kernel
theorem dX2_search_89 : decode cX2_search 89 = .ok (.iconst 4, 1) := by decide +kernel
theorem dX2_search_90 : decode cX2_search 90 = .ok (.if_icmp .gt 40, 3) := by decide +kernel
theorem dX2_search_93 : decode cX2_search 93 = .ok (.aload_n 0, 1) := by decide +kernel
theorem dX2_search_94 : decode cX2_search 94 = .ok (.iload 5, 2) := by decide +kernel
theorem dX2_search_96 : decode cX2_search 96 = .ok (.putfield 59, 3) := by decide +kernel
theorem dX2_search_99 : decode cX2_search 99 = .ok (.aload_n 0, 1) := by decide +kernel
theorem dX2_search_100 : decode cX2_search 100 = .ok (.getfield 30, 3) := by decide +kernel
theorem dX2_search_103 : decode cX2_search 103 = .ok (.iconst (-1), 1) := by decide +kernel
theorem dX2_search_104 : decode cX2_search 104 = .ok (.invokestatic 62, 3) := by decide +kernel
theorem dX2_search_107 : decode cX2_search 107 = .ok (.aload_n 0, 1) := by decide +kernel
theorem dX2_search_108 : decode cX2_search 108 = .ok (.iconst 1, 1) := by decide +kernel
theorem dX2_search_109 : decode cX2_search 109 = .ok (.iconst 1, 1) := by decide +kernel
theorem dX2_search_110 : decode cX2_search 110 = .ok (.iconst 0, 1) := by decide +kernel
theorem dX2_search_111 : decode cX2_search 111 = .ok (.invokevirtual 68, 3) := by decide +kernel
theorem dX2_search_114 : decode cX2_search 114 = .ok (.iconst (-1), 1) := by decide +kernel
theorem dX2_search_115 : decode cX2_search 115 = .ok (.if_icmp .ne 9, 3) := by decide +kernel
theorem dX2_search_118 : decode cX2_search 118 = .ok (.aload_n 0, 1) := by decide +kernel
theorem dX2_search_119 : decode cX2_search 119 = .ok (.aload_n 3, 1) := by decide +kernel
theorem dX2_search_120 : decode cX2_search 120 = .ok (.invokevirtual 72, 3) := by decide +kernel
theorem dX2_search_123 : decode cX2_search 123 = .ok (.return_, 1) := by decide +kernel
theorem dX2_search_124 : decode cX2_search 124 = .ok (.iinc 5 1, 3) := by decide +kernel
theorem dX2_search_127 : decode cX2_search 127 = .ok (.goto (-40), 3) := by decide +kernel
theorem dX2_search_130 : decode cX2_search 130 = .ok (.return_, 1) := by decide +kernel
set_option maxRecDepth 20000 in
theorem ggX2_startTree_J7_fill_53178 : GoodIn wsX2_startTree wsJ7_fill_53178 := goodIn_r _ [8] (by decide +kernel) (by decide +kernel)
set_option maxRecDepth 20000 in
theorem gX2_startTree_J7_fill_53178 : GoodIn wsX2_startTree (va_wsS RX2 62 yJ7_fill_53178 wsJ7_fill_53178) := goodIn_app (goodIn_of _ (by decide +kernel)) ggX2_startTree_J7_fill_53178
theorem dX2_startTree_0 : decode cX2_startTree 0 = .ok (.aload_n 0, 1) := by decide +kernel
theorem dX2_startTree_1 : decode cX2_startTree 1 = .ok (.iconst 1, 1) := by decide +kernel
theorem dX2_startTree_2 : decode cX2_startTree 2 = .ok (.putfield 49, 3) := by decide +kernel
theorem dX2_startTree_5 : decode cX2_startTree 5 = .ok (.aload_n 0, 1) := by decide +kernel
theorem dX2_startTree_6 : decode cX2_startTree 6 = .ok (.getfield 24, 3) := by decide +kernel
theorem dX2_startTree_9 : decode cX2_startTree 9 = .ok (.iconst 0, 1) := by decide +kernel
theorem dX2_startTree_10 : decode cX2_startTree 10 = .ok (.iconst 0, 1) := by decide +kernel
theorem dX2_startTree_11 : decode cX2_startTree 11 = .ok (.iastore, 1) := by decide +kernel
theorem dX2_startTree_12 : decode cX2_startTree 12 = .ok (.aload_n 0, 1) := by decide +kernel
theorem dX2_startTree_13 : decode cX2_startTree 13 = .ok (.getfield 27, 3) := by decide +kernel
theorem dX2_startTree_16 : decode cX2_startTree 16 = .ok (.iconst 0, 1) := by decide +kernel
theorem dX2_startTree_17 : decode cX2_startTree 17 = .ok (.iconst 0, 1) := by decide +kernel
theorem dX2_startTree_18 : decode cX2_startTree 18 = .ok (.iastore, 1) := by decide +kernel
theorem dX2_startTree_19 : decode cX2_startTree 19 = .ok (.aload_n 0, 1) := by decide +kernel
theorem dX2_startTree_20 : decode cX2_startTree 20 = .ok (.getfield 21, 3) := by decide +kernel
theorem dX2_startTree_23 : decode cX2_startTree 23 = .ok (.iconst (-1), 1) := by decide +kernel
theorem dX2_startTree_24 : decode cX2_startTree 24 = .ok (.invokestatic 62, 3) := by decide +kernel
theorem dX2_startTree_27 : decode cX2_startTree 27 = .ok (.return_, 1) := by decide +kernel
set_option maxRecDepth 20000 in
theorem ggX2_plantRow_X4_length : GoodIn wsX2_plantRow wsX4_length := goodIn_r _ [6, 7, 8, 41, 42, 43, 44, 45] (by decide +kernel) (by decide +kernel)
set_option maxRecDepth 20000 in
theorem gX2_plantRow_X4_length : GoodIn wsX2_plantRow (wsV RX2 76 RX4 yX4_length wsX4_length) := goodIn_app (goodIn_of _ (by decide +kernel)) ggX2_plantRow_X4_length
set_option maxRecDepth 20000 in
theorem ggX2_plantRow_X4_answerAt : GoodIn wsX2_plantRow wsX4_answerAt := goodIn_r _ [12, 13, 41, 42, 43, 44, 45] (by decide +kernel) (by decide +kernel)
set_option maxRecDepth 20000 in
theorem gX2_plantRow_X4_answerAt : GoodIn wsX2_plantRow (wsV RX2 80 RX4 yX4_answerAt wsX4_answerAt) := goodIn_app (goodIn_of _ (by decide +kernel)) ggX2_plantRow_X4_answerAt
set_option maxRecDepth 20000 in
theorem ggX2_plantRow_X9_codeOf : GoodIn wsX2_plantRow wsX9_codeOf := goodIn_r _ [16] (by decide +kernel) (by decide +kernel)
set_option maxRecDepth 20000 in
theorem gX2_plantRow_X9_codeOf_n84 : GoodIn wsX2_plantRow (wsX9_codeOf) := ggX2_plantRow_X9_codeOf
set_option maxRecDepth 20000 in
theorem ggX2_plantRow_X4_verbAt : GoodIn wsX2_plantRow wsX4_verbAt := goodIn_r _ [20, 21, 41, 42, 43, 44, 45] (by decide +kernel) (by decide +kernel)
set_option maxRecDepth 20000 in
theorem gX2_plantRow_X4_verbAt : GoodIn wsX2_plantRow (wsV RX2 87 RX4 yX4_verbAt wsX4_verbAt) := goodIn_app (goodIn_of _ (by decide +kernel)) ggX2_plantRow_X4_verbAt
set_option maxRecDepth 20000 in
theorem ggX2_plantRow_X2_childOf : GoodIn wsX2_plantRow wsX2_childOf := goodIn_r _ [26, 27, 28, 29, 30, 1, 31, 32, 33, 34, 35, 36, 37, 38, 39, 40] (by decide +kernel) (by decide +kernel)
set_option maxRecDepth 20000 in
theorem gX2_plantRow_X2_childOf : GoodIn wsX2_plantRow (wsV RX2 90 RX2 yX2_childOf wsX2_childOf) := goodIn_app (goodIn_of _ (by decide +kernel)) ggX2_plantRow_X2_childOf
theorem dX2_plantRow_0 : decode cX2_plantRow 0 = .ok (.iconst 0, 1) := by decide +kernel
theorem dX2_plantRow_1 : decode cX2_plantRow 1 = .ok (.istore_n 3, 1) := by decide +kernel
theorem dX2_plantRow_2 : decode cX2_plantRow 2 = .ok (.iconst 0, 1) := by decide +kernel
theorem dX2_plantRow_3 : decode cX2_plantRow 3 = .ok (.istore 4, 2) := by decide +kernel
theorem dX2_plantRow_5 : decode cX2_plantRow 5 = .ok (.iload 4, 2) := by decide +kernel
theorem dX2_plantRow_7 : decode cX2_plantRow 7 = .ok (.aload_n 1, 1) := by decide +kernel
theorem dX2_plantRow_8 : decode cX2_plantRow 8 = .ok (.iload_n 2, 1) := by decide +kernel
theorem dX2_plantRow_9 : decode cX2_plantRow 9 = .ok (.invokevirtual 76, 3) := by decide +kernel
theorem dX2_plantRow_12 : decode cX2_plantRow 12 = .ok (.if_icmp .ge 49, 3) := by decide +kernel
theorem dX2_plantRow_15 : decode cX2_plantRow 15 = .ok (.aload_n 1, 1) := by decide +kernel
theorem dX2_plantRow_16 : decode cX2_plantRow 16 = .ok (.iload_n 2, 1) := by decide +kernel
theorem dX2_plantRow_17 : decode cX2_plantRow 17 = .ok (.iload 4, 2) := by decide +kernel
theorem dX2_plantRow_19 : decode cX2_plantRow 19 = .ok (.invokevirtual 80, 3) := by decide +kernel
theorem dX2_plantRow_22 : decode cX2_plantRow 22 = .ok (.invokestatic 84, 3) := by decide +kernel
theorem dX2_plantRow_25 : decode cX2_plantRow 25 = .ok (.istore 5, 2) := by decide +kernel
theorem dX2_plantRow_27 : decode cX2_plantRow 27 = .ok (.aload_n 0, 1) := by decide +kernel
theorem dX2_plantRow_28 : decode cX2_plantRow 28 = .ok (.iload_n 3, 1) := by decide +kernel
theorem dX2_plantRow_29 : decode cX2_plantRow 29 = .ok (.aload_n 1, 1) := by decide +kernel
theorem dX2_plantRow_30 : decode cX2_plantRow 30 = .ok (.iload_n 2, 1) := by decide +kernel
theorem dX2_plantRow_31 : decode cX2_plantRow 31 = .ok (.iload 4, 2) := by decide +kernel
theorem dX2_plantRow_33 : decode cX2_plantRow 33 = .ok (.invokevirtual 87, 3) := by decide +kernel
theorem dX2_plantRow_36 : decode cX2_plantRow 36 = .ok (.iload 5, 2) := by decide +kernel
theorem dX2_plantRow_38 : decode cX2_plantRow 38 = .ok (.invokevirtual 90, 3) := by decide +kernel
theorem dX2_plantRow_41 : decode cX2_plantRow 41 = .ok (.istore_n 3, 1) := by decide +kernel
theorem dX2_plantRow_42 : decode cX2_plantRow 42 = .ok (.aload_n 0, 1) := by decide +kernel
theorem dX2_plantRow_43 : decode cX2_plantRow 43 = .ok (.getfield 18, 3) := by decide +kernel
theorem dX2_plantRow_46 : decode cX2_plantRow 46 = .ok (.iload_n 3, 1) := by decide +kernel
theorem dX2_plantRow_47 : decode cX2_plantRow 47 = .ok (.iaload, 1) := by decide +kernel
theorem dX2_plantRow_48 : decode cX2_plantRow 48 = .ok (.iload 5, 2) := by decide +kernel
theorem dX2_plantRow_50 : decode cX2_plantRow 50 = .ok (.if_icmp .eq 5, 3) := by decide +kernel
theorem dX2_plantRow_53 : decode cX2_plantRow 53 = .ok (.iconst 0, 1) := by decide +kernel
theorem dX2_plantRow_54 : decode cX2_plantRow 54 = .ok (.ireturn, 1) := by decide +kernel
theorem dX2_plantRow_55 : decode cX2_plantRow 55 = .ok (.iinc 4 1, 3) := by decide +kernel
theorem dX2_plantRow_58 : decode cX2_plantRow 58 = .ok (.goto (-53), 3) := by decide +kernel
theorem dX2_plantRow_61 : decode cX2_plantRow 61 = .ok (.iconst 1, 1) := by decide +kernel
theorem dX2_plantRow_62 : decode cX2_plantRow 62 = .ok (.ireturn, 1) := by decide +kernel
theorem dX2_childOf_0 : decode cX2_childOf 0 = .ok (.iload_n 1, 1) := by decide +kernel
theorem dX2_childOf_1 : decode cX2_childOf 1 = .ok (.iconst 3, 1) := by decide +kernel
theorem dX2_childOf_2 : decode cX2_childOf 2 = .ok (.imul, 1) := by decide +kernel
theorem dX2_childOf_3 : decode cX2_childOf 3 = .ok (.iload_n 2, 1) := by decide +kernel
theorem dX2_childOf_4 : decode cX2_childOf 4 = .ok (.iadd, 1) := by decide +kernel
theorem dX2_childOf_5 : decode cX2_childOf 5 = .ok (.istore 4, 2) := by decide +kernel
theorem dX2_childOf_7 : decode cX2_childOf 7 = .ok (.aload_n 0, 1) := by decide +kernel
theorem dX2_childOf_8 : decode cX2_childOf 8 = .ok (.getfield 21, 3) := by decide +kernel
theorem dX2_childOf_11 : decode cX2_childOf 11 = .ok (.iload 4, 2) := by decide +kernel
theorem dX2_childOf_13 : decode cX2_childOf 13 = .ok (.iaload, 1) := by decide +kernel
theorem dX2_childOf_14 : decode cX2_childOf 14 = .ok (.iconst (-1), 1) := by decide +kernel
theorem dX2_childOf_15 : decode cX2_childOf 15 = .ok (.if_icmp .eq 11, 3) := by decide +kernel
theorem dX2_childOf_18 : decode cX2_childOf 18 = .ok (.aload_n 0, 1) := by decide +kernel
theorem dX2_childOf_19 : decode cX2_childOf 19 = .ok (.getfield 21, 3) := by decide +kernel
theorem dX2_childOf_22 : decode cX2_childOf 22 = .ok (.iload 4, 2) := by decide +kernel
theorem dX2_childOf_24 : decode cX2_childOf 24 = .ok (.iaload, 1) := by decide +kernel
theorem dX2_childOf_25 : decode cX2_childOf 25 = .ok (.ireturn, 1) := by decide +kernel
theorem dX2_childOf_26 : decode cX2_childOf 26 = .ok (.aload_n 0, 1) := by decide +kernel
theorem dX2_childOf_27 : decode cX2_childOf 27 = .ok (.getfield 49, 3) := by decide +kernel
theorem dX2_childOf_30 : decode cX2_childOf 30 = .ok (.bipush 97, 2) := by decide +kernel
theorem dX2_childOf_32 : decode cX2_childOf 32 = .ok (.if_icmp .lt 5, 3) := by decide +kernel
theorem dX2_childOf_35 : decode cX2_childOf 35 = .ok (.iconst 0, 1) := by decide +kernel
theorem dX2_childOf_36 : decode cX2_childOf 36 = .ok (.ireturn, 1) := by decide +kernel
theorem dX2_childOf_37 : decode cX2_childOf 37 = .ok (.aload_n 0, 1) := by decide +kernel
theorem dX2_childOf_38 : decode cX2_childOf 38 = .ok (.getfield 11, 3) := by decide +kernel
theorem dX2_childOf_41 : decode cX2_childOf 41 = .ok (.aload_n 0, 1) := by decide +kernel
theorem dX2_childOf_42 : decode cX2_childOf 42 = .ok (.getfield 49, 3) := by decide +kernel
theorem dX2_childOf_45 : decode cX2_childOf 45 = .ok (.iload_n 1, 1) := by decide +kernel
theorem dX2_childOf_46 : decode cX2_childOf 46 = .ok (.iastore, 1) := by decide +kernel
theorem dX2_childOf_47 : decode cX2_childOf 47 = .ok (.aload_n 0, 1) := by decide +kernel
theorem dX2_childOf_48 : decode cX2_childOf 48 = .ok (.getfield 15, 3) := by decide +kernel
theorem dX2_childOf_51 : decode cX2_childOf 51 = .ok (.aload_n 0, 1) := by decide +kernel
theorem dX2_childOf_52 : decode cX2_childOf 52 = .ok (.getfield 49, 3) := by decide +kernel
theorem dX2_childOf_55 : decode cX2_childOf 55 = .ok (.iload_n 2, 1) := by decide +kernel
theorem dX2_childOf_56 : decode cX2_childOf 56 = .ok (.iastore, 1) := by decide +kernel
theorem dX2_childOf_57 : decode cX2_childOf 57 = .ok (.aload_n 0, 1) := by decide +kernel
theorem dX2_childOf_58 : decode cX2_childOf 58 = .ok (.getfield 18, 3) := by decide +kernel
theorem dX2_childOf_61 : decode cX2_childOf 61 = .ok (.aload_n 0, 1) := by decide +kernel
theorem dX2_childOf_62 : decode cX2_childOf 62 = .ok (.getfield 49, 3) := by decide +kernel
theorem dX2_childOf_65 : decode cX2_childOf 65 = .ok (.iload_n 3, 1) := by decide +kernel
theorem dX2_childOf_66 : decode cX2_childOf 66 = .ok (.iastore, 1) := by decide +kernel
theorem dX2_childOf_67 : decode cX2_childOf 67 = .ok (.aload_n 0, 1) := by decide +kernel
theorem dX2_childOf_68 : decode cX2_childOf 68 = .ok (.getfield 21, 3) := by decide +kernel
theorem dX2_childOf_71 : decode cX2_childOf 71 = .ok (.iload 4, 2) := by decide +kernel
theorem dX2_childOf_73 : decode cX2_childOf 73 = .ok (.aload_n 0, 1) := by decide +kernel
theorem dX2_childOf_74 : decode cX2_childOf 74 = .ok (.getfield 49, 3) := by decide +kernel
theorem dX2_childOf_77 : decode cX2_childOf 77 = .ok (.iastore, 1) := by decide +kernel
theorem dX2_childOf_78 : decode cX2_childOf 78 = .ok (.aload_n 0, 1) := by decide +kernel
theorem dX2_childOf_79 : decode cX2_childOf 79 = .ok (.dup, 1) := by decide +kernel
theorem dX2_childOf_80 : decode cX2_childOf 80 = .ok (.getfield 49, 3) := by decide +kernel
theorem dX2_childOf_83 : decode cX2_childOf 83 = .ok (.iconst 1, 1) := by decide +kernel
theorem dX2_childOf_84 : decode cX2_childOf 84 = .ok (.iadd, 1) := by decide +kernel
theorem dX2_childOf_85 : decode cX2_childOf 85 = .ok (.putfield 49, 3) := by decide +kernel
theorem dX2_childOf_88 : decode cX2_childOf 88 = .ok (.aload_n 0, 1) := by decide +kernel
theorem dX2_childOf_89 : decode cX2_childOf 89 = .ok (.getfield 49, 3) := by decide +kernel
theorem dX2_childOf_92 : decode cX2_childOf 92 = .ok (.iconst 1, 1) := by decide +kernel
theorem dX2_childOf_93 : decode cX2_childOf 93 = .ok (.isub, 1) := by decide +kernel
theorem dX2_childOf_94 : decode cX2_childOf 94 = .ok (.ireturn, 1) := by decide +kernel
set_option maxRecDepth 20000 in
theorem ggX2_walk_X2_chooseTarget : GoodIn wsX2_walk wsX2_chooseTarget := goodIn_r _ [13, 6, 8, 2, 14, 5, 3, 15, 16, 17, 18, 19, 20, 21, 12, 0, 1, 4, 7, 9, 10, 11, 22, 23, 24, 25, 26, 27, 28, 29, 30, 31] (by decide +kernel) (by decide +kernel)
set_option maxRecDepth 20000 in
theorem gX2_walk_X2_chooseTarget : GoodIn wsX2_walk (wsV RX2 93 RX2 yX2_chooseTarget wsX2_chooseTarget) := goodIn_app (goodIn_of _ (by decide +kernel)) ggX2_walk_X2_chooseTarget
theorem dX2_walk_0 : decode cX2_walk 0 = .ok (.iload_n 1, 1) := by decide +kernel
theorem dX2_walk_1 : decode cX2_walk 1 = .ok (.istore 4, 2) := by decide +kernel
theorem dX2_walk_3 : decode cX2_walk 3 = .ok (.iload 4, 2) := by decide +kernel
theorem dX2_walk_5 : decode cX2_walk 5 = .ok (.aload_n 0, 1) := by decide +kernel
theorem dX2_walk_6 : decode cX2_walk 6 = .ok (.getfield 49, 3) := by decide +kernel
theorem dX2_walk_9 : decode cX2_walk 9 = .ok (.if_icmp .ge 139, 3) := by decide +kernel
theorem dX2_walk_12 : decode cX2_walk 12 = .ok (.aload_n 0, 1) := by decide +kernel
theorem dX2_walk_13 : decode cX2_walk 13 = .ok (.getfield 11, 3) := by decide +kernel
theorem dX2_walk_16 : decode cX2_walk 16 = .ok (.iload 4, 2) := by decide +kernel
theorem dX2_walk_18 : decode cX2_walk 18 = .ok (.iaload, 1) := by decide +kernel
theorem dX2_walk_19 : decode cX2_walk 19 = .ok (.istore 5, 2) := by decide +kernel
theorem dX2_walk_21 : decode cX2_walk 21 = .ok (.aload_n 0, 1) := by decide +kernel
theorem dX2_walk_22 : decode cX2_walk 22 = .ok (.getfield 24, 3) := by decide +kernel
theorem dX2_walk_25 : decode cX2_walk 25 = .ok (.iload 5, 2) := by decide +kernel
theorem dX2_walk_27 : decode cX2_walk 27 = .ok (.iaload, 1) := by decide +kernel
theorem dX2_walk_28 : decode cX2_walk 28 = .ok (.iconst 3, 1) := by decide +kernel
theorem dX2_walk_29 : decode cX2_walk 29 = .ok (.imul, 1) := by decide +kernel
theorem dX2_walk_30 : decode cX2_walk 30 = .ok (.aload_n 0, 1) := by decide +kernel
theorem dX2_walk_31 : decode cX2_walk 31 = .ok (.getfield 15, 3) := by decide +kernel
theorem dX2_walk_34 : decode cX2_walk 34 = .ok (.iload 4, 2) := by decide +kernel
theorem dX2_walk_36 : decode cX2_walk 36 = .ok (.iaload, 1) := by decide +kernel
theorem dX2_walk_37 : decode cX2_walk 37 = .ok (.iadd, 1) := by decide +kernel
theorem dX2_walk_38 : decode cX2_walk 38 = .ok (.istore 6, 2) := by decide +kernel
theorem dX2_walk_40 : decode cX2_walk 40 = .ok (.aload_n 0, 1) := by decide +kernel
theorem dX2_walk_41 : decode cX2_walk 41 = .ok (.getfield 30, 3) := by decide +kernel
theorem dX2_walk_44 : decode cX2_walk 44 = .ok (.iload 6, 2) := by decide +kernel
theorem dX2_walk_46 : decode cX2_walk 46 = .ok (.iaload, 1) := by decide +kernel
theorem dX2_walk_47 : decode cX2_walk 47 = .ok (.iconst (-1), 1) := by decide +kernel
theorem dX2_walk_48 : decode cX2_walk 48 = .ok (.if_icmp .ne 14, 3) := by decide +kernel
theorem dX2_walk_51 : decode cX2_walk 51 = .ok (.aload_n 0, 1) := by decide +kernel
theorem dX2_walk_52 : decode cX2_walk 52 = .ok (.iload 4, 2) := by decide +kernel
theorem dX2_walk_54 : decode cX2_walk 54 = .ok (.iload 6, 2) := by decide +kernel
theorem dX2_walk_56 : decode cX2_walk 56 = .ok (.iload_n 2, 1) := by decide +kernel
theorem dX2_walk_57 : decode cX2_walk 57 = .ok (.iload_n 3, 1) := by decide +kernel
theorem dX2_walk_58 : decode cX2_walk 58 = .ok (.invokevirtual 93, 3) := by decide +kernel
theorem dX2_walk_61 : decode cX2_walk 61 = .ok (.ireturn, 1) := by decide +kernel
theorem dX2_walk_62 : decode cX2_walk 62 = .ok (.aload_n 0, 1) := by decide +kernel
theorem dX2_walk_63 : decode cX2_walk 63 = .ok (.getfield 33, 3) := by decide +kernel
theorem dX2_walk_66 : decode cX2_walk 66 = .ok (.iload 6, 2) := by decide +kernel
theorem dX2_walk_68 : decode cX2_walk 68 = .ok (.iaload, 1) := by decide +kernel
theorem dX2_walk_69 : decode cX2_walk 69 = .ok (.istore 7, 2) := by decide +kernel
theorem dX2_walk_71 : decode cX2_walk 71 = .ok (.aload_n 0, 1) := by decide +kernel
theorem dX2_walk_72 : decode cX2_walk 72 = .ok (.getfield 18, 3) := by decide +kernel
theorem dX2_walk_75 : decode cX2_walk 75 = .ok (.iload 7, 2) := by decide +kernel
theorem dX2_walk_77 : decode cX2_walk 77 = .ok (.iaload, 1) := by decide +kernel
theorem dX2_walk_78 : decode cX2_walk 78 = .ok (.aload_n 0, 1) := by decide +kernel
theorem dX2_walk_79 : decode cX2_walk 79 = .ok (.getfield 18, 3) := by decide +kernel
theorem dX2_walk_82 : decode cX2_walk 82 = .ok (.iload 4, 2) := by decide +kernel
theorem dX2_walk_84 : decode cX2_walk 84 = .ok (.iaload, 1) := by decide +kernel
theorem dX2_walk_85 : decode cX2_walk 85 = .ok (.if_icmp .eq 24, 3) := by decide +kernel
theorem dX2_walk_88 : decode cX2_walk 88 = .ok (.aload_n 0, 1) := by decide +kernel
theorem dX2_walk_89 : decode cX2_walk 89 = .ok (.getfield 27, 3) := by decide +kernel
theorem dX2_walk_92 : decode cX2_walk 92 = .ok (.iload 5, 2) := by decide +kernel
theorem dX2_walk_94 : decode cX2_walk 94 = .ok (.iaload, 1) := by decide +kernel
theorem dX2_walk_95 : decode cX2_walk 95 = .ok (.aload_n 0, 1) := by decide +kernel
theorem dX2_walk_96 : decode cX2_walk 96 = .ok (.getfield 27, 3) := by decide +kernel
theorem dX2_walk_99 : decode cX2_walk 99 = .ok (.aload_n 0, 1) := by decide +kernel
theorem dX2_walk_100 : decode cX2_walk 100 = .ok (.getfield 11, 3) := by decide +kernel
theorem dX2_walk_103 : decode cX2_walk 103 = .ok (.iload 7, 2) := by decide +kernel
theorem dX2_walk_105 : decode cX2_walk 105 = .ok (.iaload, 1) := by decide +kernel
theorem dX2_walk_106 : decode cX2_walk 106 = .ok (.iaload, 1) := by decide +kernel
theorem dX2_walk_107 : decode cX2_walk 107 = .ok (.ior, 1) := by decide +kernel
theorem dX2_walk_108 : decode cX2_walk 108 = .ok (.ireturn, 1) := by decide +kernel
theorem dX2_walk_109 : decode cX2_walk 109 = .ok (.aload_n 0, 1) := by decide +kernel
theorem dX2_walk_110 : decode cX2_walk 110 = .ok (.getfield 24, 3) := by decide +kernel
theorem dX2_walk_113 : decode cX2_walk 113 = .ok (.iload 4, 2) := by decide +kernel
theorem dX2_walk_115 : decode cX2_walk 115 = .ok (.aload_n 0, 1) := by decide +kernel
theorem dX2_walk_116 : decode cX2_walk 116 = .ok (.getfield 30, 3) := by decide +kernel
theorem dX2_walk_119 : decode cX2_walk 119 = .ok (.iload 6, 2) := by decide +kernel
theorem dX2_walk_121 : decode cX2_walk 121 = .ok (.iaload, 1) := by decide +kernel
theorem dX2_walk_122 : decode cX2_walk 122 = .ok (.iastore, 1) := by decide +kernel
theorem dX2_walk_123 : decode cX2_walk 123 = .ok (.aload_n 0, 1) := by decide +kernel
theorem dX2_walk_124 : decode cX2_walk 124 = .ok (.getfield 27, 3) := by decide +kernel
theorem dX2_walk_127 : decode cX2_walk 127 = .ok (.iload 4, 2) := by decide +kernel
theorem dX2_walk_129 : decode cX2_walk 129 = .ok (.aload_n 0, 1) := by decide +kernel
theorem dX2_walk_130 : decode cX2_walk 130 = .ok (.getfield 27, 3) := by decide +kernel
theorem dX2_walk_133 : decode cX2_walk 133 = .ok (.iload 5, 2) := by decide +kernel
theorem dX2_walk_135 : decode cX2_walk 135 = .ok (.iaload, 1) := by decide +kernel
theorem dX2_walk_136 : decode cX2_walk 136 = .ok (.iconst 1, 1) := by decide +kernel
theorem dX2_walk_137 : decode cX2_walk 137 = .ok (.iload 6, 2) := by decide +kernel
theorem dX2_walk_139 : decode cX2_walk 139 = .ok (.ishl, 1) := by decide +kernel
theorem dX2_walk_140 : decode cX2_walk 140 = .ok (.ior, 1) := by decide +kernel
theorem dX2_walk_141 : decode cX2_walk 141 = .ok (.iastore, 1) := by decide +kernel
theorem dX2_walk_142 : decode cX2_walk 142 = .ok (.iinc 4 1, 3) := by decide +kernel
theorem dX2_walk_145 : decode cX2_walk 145 = .ok (.goto (-142), 3) := by decide +kernel
theorem dX2_walk_148 : decode cX2_walk 148 = .ok (.iconst (-1), 1) := by decide +kernel
theorem dX2_walk_149 : decode cX2_walk 149 = .ok (.ireturn, 1) := by decide +kernel
set_option maxRecDepth 20000 in
theorem ggX2_chooseTarget_X2_walk : GoodIn wsX2_chooseTarget wsX2_walk := goodIn_r _ [15, 16, 3, 6, 17, 5, 1, 18, 2, 19, 20, 21, 14, 0, 4, 7, 8, 9, 10, 11, 12, 13, 22, 23, 24, 25, 26, 27, 28, 29, 30, 31] (by decide +kernel) (by decide +kernel)
set_option maxRecDepth 20000 in
theorem gX2_chooseTarget_X2_walk : GoodIn wsX2_chooseTarget (wsV RX2 68 RX2 yX2_walk wsX2_walk) := goodIn_app (goodIn_of _ (by decide +kernel)) ggX2_chooseTarget_X2_walk
theorem dX2_chooseTarget_0 : decode cX2_chooseTarget 0 = .ok (.iload 4, 2) := by decide +kernel
theorem dX2_chooseTarget_2 : decode cX2_chooseTarget 2 = .ok (.bipush 12, 2) := by decide +kernel
theorem dX2_chooseTarget_4 : decode cX2_chooseTarget 4 = .ok (.if_icmp .lt 5, 3) := by decide +kernel
theorem dX2_chooseTarget_7 : decode cX2_chooseTarget 7 = .ok (.iconst 0, 1) := by decide +kernel
theorem dX2_chooseTarget_8 : decode cX2_chooseTarget 8 = .ok (.ireturn, 1) := by decide +kernel
theorem dX2_chooseTarget_9 : decode cX2_chooseTarget 9 = .ok (.iconst 1, 1) := by decide +kernel
theorem dX2_chooseTarget_10 : decode cX2_chooseTarget 10 = .ok (.iload_n 2, 1) := by decide +kernel
theorem dX2_chooseTarget_11 : decode cX2_chooseTarget 11 = .ok (.ishl, 1) := by decide +kernel
theorem dX2_chooseTarget_12 : decode cX2_chooseTarget 12 = .ok (.istore 5, 2) := by decide +kernel
theorem dX2_chooseTarget_14 : decode cX2_chooseTarget 14 = .ok (.iconst 0, 1) := by decide +kernel
theorem dX2_chooseTarget_15 : decode cX2_chooseTarget 15 = .ok (.istore 6, 2) := by decide +kernel
theorem dX2_chooseTarget_17 : decode cX2_chooseTarget 17 = .ok (.aload_n 0, 1) := by decide +kernel
theorem dX2_chooseTarget_18 : decode cX2_chooseTarget 18 = .ok (.getfield 33, 3) := by decide +kernel
theorem dX2_chooseTarget_21 : decode cX2_chooseTarget 21 = .ok (.iload_n 2, 1) := by decide +kernel
theorem dX2_chooseTarget_22 : decode cX2_chooseTarget 22 = .ok (.iload_n 1, 1) := by decide +kernel
theorem dX2_chooseTarget_23 : decode cX2_chooseTarget 23 = .ok (.iastore, 1) := by decide +kernel
theorem dX2_chooseTarget_24 : decode cX2_chooseTarget 24 = .ok (.aload_n 0, 1) := by decide +kernel
theorem dX2_chooseTarget_25 : decode cX2_chooseTarget 25 = .ok (.getfield 27, 3) := by decide +kernel
theorem dX2_chooseTarget_28 : decode cX2_chooseTarget 28 = .ok (.iload_n 1, 1) := by decide +kernel
theorem dX2_chooseTarget_29 : decode cX2_chooseTarget 29 = .ok (.aload_n 0, 1) := by decide +kernel
theorem dX2_chooseTarget_30 : decode cX2_chooseTarget 30 = .ok (.getfield 27, 3) := by decide +kernel
theorem dX2_chooseTarget_33 : decode cX2_chooseTarget 33 = .ok (.aload_n 0, 1) := by decide +kernel
theorem dX2_chooseTarget_34 : decode cX2_chooseTarget 34 = .ok (.getfield 11, 3) := by decide +kernel
theorem dX2_chooseTarget_37 : decode cX2_chooseTarget 37 = .ok (.iload_n 1, 1) := by decide +kernel
theorem dX2_chooseTarget_38 : decode cX2_chooseTarget 38 = .ok (.iaload, 1) := by decide +kernel
theorem dX2_chooseTarget_39 : decode cX2_chooseTarget 39 = .ok (.iaload, 1) := by decide +kernel
theorem dX2_chooseTarget_40 : decode cX2_chooseTarget 40 = .ok (.iload 5, 2) := by decide +kernel
theorem dX2_chooseTarget_42 : decode cX2_chooseTarget 42 = .ok (.ior, 1) := by decide +kernel
theorem dX2_chooseTarget_43 : decode cX2_chooseTarget 43 = .ok (.iastore, 1) := by decide +kernel
theorem dX2_chooseTarget_44 : decode cX2_chooseTarget 44 = .ok (.iconst 0, 1) := by decide +kernel
theorem dX2_chooseTarget_45 : decode cX2_chooseTarget 45 = .ok (.istore 7, 2) := by decide +kernel
theorem dX2_chooseTarget_47 : decode cX2_chooseTarget 47 = .ok (.iload 7, 2) := by decide +kernel
theorem dX2_chooseTarget_49 : decode cX2_chooseTarget 49 = .ok (.aload_n 0, 1) := by decide +kernel
theorem dX2_chooseTarget_50 : decode cX2_chooseTarget 50 = .ok (.getfield 59, 3) := by decide +kernel
theorem dX2_chooseTarget_53 : decode cX2_chooseTarget 53 = .ok (.if_icmp .ge 85, 3) := by decide +kernel
theorem dX2_chooseTarget_56 : decode cX2_chooseTarget 56 = .ok (.iload 7, 2) := by decide +kernel
theorem dX2_chooseTarget_58 : decode cX2_chooseTarget 58 = .ok (.iload_n 3, 1) := by decide +kernel
theorem dX2_chooseTarget_59 : decode cX2_chooseTarget 59 = .ok (.if_icmp .gt 79, 3) := by decide +kernel
theorem dX2_chooseTarget_62 : decode cX2_chooseTarget 62 = .ok (.aload_n 0, 1) := by decide +kernel
theorem dX2_chooseTarget_63 : decode cX2_chooseTarget 63 = .ok (.getfield 30, 3) := by decide +kernel
theorem dX2_chooseTarget_66 : decode cX2_chooseTarget 66 = .ok (.iload_n 2, 1) := by decide +kernel
theorem dX2_chooseTarget_67 : decode cX2_chooseTarget 67 = .ok (.iload 7, 2) := by decide +kernel
theorem dX2_chooseTarget_69 : decode cX2_chooseTarget 69 = .ok (.iastore, 1) := by decide +kernel
theorem dX2_chooseTarget_70 : decode cX2_chooseTarget 70 = .ok (.aload_n 0, 1) := by decide +kernel
theorem dX2_chooseTarget_71 : decode cX2_chooseTarget 71 = .ok (.getfield 24, 3) := by decide +kernel
theorem dX2_chooseTarget_74 : decode cX2_chooseTarget 74 = .ok (.iload_n 1, 1) := by decide +kernel
theorem dX2_chooseTarget_75 : decode cX2_chooseTarget 75 = .ok (.iload 7, 2) := by decide +kernel
theorem dX2_chooseTarget_77 : decode cX2_chooseTarget 77 = .ok (.iastore, 1) := by decide +kernel
theorem dX2_chooseTarget_78 : decode cX2_chooseTarget 78 = .ok (.aload_n 0, 1) := by decide +kernel
theorem dX2_chooseTarget_79 : decode cX2_chooseTarget 79 = .ok (.iload_n 1, 1) := by decide +kernel
theorem dX2_chooseTarget_80 : decode cX2_chooseTarget 80 = .ok (.iconst 1, 1) := by decide +kernel
theorem dX2_chooseTarget_81 : decode cX2_chooseTarget 81 = .ok (.iadd, 1) := by decide +kernel
theorem dX2_chooseTarget_82 : decode cX2_chooseTarget 82 = .ok (.iload_n 3, 1) := by decide +kernel
theorem dX2_chooseTarget_83 : decode cX2_chooseTarget 83 = .ok (.iload 7, 2) := by decide +kernel
theorem dX2_chooseTarget_85 : decode cX2_chooseTarget 85 = .ok (.iconst 1, 1) := by decide +kernel
theorem dX2_chooseTarget_86 : decode cX2_chooseTarget 86 = .ok (.iadd, 1) := by decide +kernel
theorem dX2_chooseTarget_87 : decode cX2_chooseTarget 87 = .ok (.invokestatic 97, 3) := by decide +kernel
theorem dX2_chooseTarget_90 : decode cX2_chooseTarget 90 = .ok (.iload 4, 2) := by decide +kernel
theorem dX2_chooseTarget_92 : decode cX2_chooseTarget 92 = .ok (.iconst 1, 1) := by decide +kernel
theorem dX2_chooseTarget_93 : decode cX2_chooseTarget 93 = .ok (.iadd, 1) := by decide +kernel
theorem dX2_chooseTarget_94 : decode cX2_chooseTarget 94 = .ok (.invokevirtual 68, 3) := by decide +kernel
theorem dX2_chooseTarget_97 : decode cX2_chooseTarget 97 = .ok (.istore 8, 2) := by decide +kernel
theorem dX2_chooseTarget_99 : decode cX2_chooseTarget 99 = .ok (.iload 8, 2) := by decide +kernel
theorem dX2_chooseTarget_101 : decode cX2_chooseTarget 101 = .ok (.iconst (-1), 1) := by decide +kernel
theorem dX2_chooseTarget_102 : decode cX2_chooseTarget 102 = .ok (.if_icmp .ne 5, 3) := by decide +kernel
theorem dX2_chooseTarget_105 : decode cX2_chooseTarget 105 = .ok (.iconst (-1), 1) := by decide +kernel
theorem dX2_chooseTarget_106 : decode cX2_chooseTarget 106 = .ok (.ireturn, 1) := by decide +kernel
theorem dX2_chooseTarget_107 : decode cX2_chooseTarget 107 = .ok (.iload 8, 2) := by decide +kernel
theorem dX2_chooseTarget_109 : decode cX2_chooseTarget 109 = .ok (.iload 5, 2) := by decide +kernel
theorem dX2_chooseTarget_111 : decode cX2_chooseTarget 111 = .ok (.iand, 1) := by decide +kernel
theorem dX2_chooseTarget_112 : decode cX2_chooseTarget 112 = .ok (.ifCond .ne 13, 3) := by decide +kernel
theorem dX2_chooseTarget_115 : decode cX2_chooseTarget 115 = .ok (.aload_n 0, 1) := by decide +kernel
theorem dX2_chooseTarget_116 : decode cX2_chooseTarget 116 = .ok (.getfield 30, 3) := by decide +kernel
theorem dX2_chooseTarget_119 : decode cX2_chooseTarget 119 = .ok (.iload_n 2, 1) := by decide +kernel
theorem dX2_chooseTarget_120 : decode cX2_chooseTarget 120 = .ok (.iconst (-1), 1) := by decide +kernel
theorem dX2_chooseTarget_121 : decode cX2_chooseTarget 121 = .ok (.iastore, 1) := by decide +kernel
theorem dX2_chooseTarget_122 : decode cX2_chooseTarget 122 = .ok (.iload 8, 2) := by decide +kernel
theorem dX2_chooseTarget_124 : decode cX2_chooseTarget 124 = .ok (.ireturn, 1) := by decide +kernel
theorem dX2_chooseTarget_125 : decode cX2_chooseTarget 125 = .ok (.iload 6, 2) := by decide +kernel
theorem dX2_chooseTarget_127 : decode cX2_chooseTarget 127 = .ok (.iload 8, 2) := by decide +kernel
theorem dX2_chooseTarget_129 : decode cX2_chooseTarget 129 = .ok (.ior, 1) := by decide +kernel
theorem dX2_chooseTarget_130 : decode cX2_chooseTarget 130 = .ok (.istore 6, 2) := by decide +kernel
theorem dX2_chooseTarget_132 : decode cX2_chooseTarget 132 = .ok (.iinc 7 1, 3) := by decide +kernel
theorem dX2_chooseTarget_135 : decode cX2_chooseTarget 135 = .ok (.goto (-88), 3) := by decide +kernel
theorem dX2_chooseTarget_138 : decode cX2_chooseTarget 138 = .ok (.aload_n 0, 1) := by decide +kernel
theorem dX2_chooseTarget_139 : decode cX2_chooseTarget 139 = .ok (.getfield 30, 3) := by decide +kernel
theorem dX2_chooseTarget_142 : decode cX2_chooseTarget 142 = .ok (.iload_n 2, 1) := by decide +kernel
theorem dX2_chooseTarget_143 : decode cX2_chooseTarget 143 = .ok (.iconst (-1), 1) := by decide +kernel
theorem dX2_chooseTarget_144 : decode cX2_chooseTarget 144 = .ok (.iastore, 1) := by decide +kernel
theorem dX2_chooseTarget_145 : decode cX2_chooseTarget 145 = .ok (.iload 6, 2) := by decide +kernel
theorem dX2_chooseTarget_147 : decode cX2_chooseTarget 147 = .ok (.iload 5, 2) := by decide +kernel
theorem dX2_chooseTarget_149 : decode cX2_chooseTarget 149 = .ok (.iconst (-1), 1) := by decide +kernel
theorem dX2_chooseTarget_150 : decode cX2_chooseTarget 150 = .ok (.ixor, 1) := by decide +kernel
theorem dX2_chooseTarget_151 : decode cX2_chooseTarget 151 = .ok (.iand, 1) := by decide +kernel
theorem dX2_chooseTarget_152 : decode cX2_chooseTarget 152 = .ok (.ireturn, 1) := by decide +kernel
set_option maxRecDepth 20000 in
theorem ggX2_hand_X1_clear : GoodIn wsX2_hand wsX1_clear := goodIn_r _ [9, 10, 11, 12, 13, 14, 15, 16, 31, 32, 33] (by decide +kernel) (by decide +kernel)
set_option maxRecDepth 20000 in
theorem gX2_hand_X1_clear : GoodIn wsX2_hand (wsV RX2 53 RX1 yX1_clear wsX1_clear) := goodIn_app (goodIn_of _ (by decide +kernel)) ggX2_hand_X1_clear
set_option maxRecDepth 20000 in
theorem ggX2_hand_X1_setMove : GoodIn wsX2_hand wsX1_setMove := goodIn_r _ [20, 10, 11, 31, 32, 33] (by decide +kernel) (by decide +kernel)
set_option maxRecDepth 20000 in
theorem gX2_hand_X1_setMove : GoodIn wsX2_hand (wsV RX2 102 RX1 yX1_setMove wsX1_setMove) := goodIn_app (goodIn_of _ (by decide +kernel)) ggX2_hand_X1_setMove
theorem dX2_hand_0 : decode cX2_hand 0 = .ok (.aload_n 1, 1) := by decide +kernel
theorem dX2_hand_1 : decode cX2_hand 1 = .ok (.aload_n 0, 1) := by decide +kernel
theorem dX2_hand_2 : decode cX2_hand 2 = .ok (.getfield 59, 3) := by decide +kernel
theorem dX2_hand_5 : decode cX2_hand 5 = .ok (.invokevirtual 53, 3) := by decide +kernel
theorem dX2_hand_8 : decode cX2_hand 8 = .ok (.iconst 0, 1) := by decide +kernel
theorem dX2_hand_9 : decode cX2_hand 9 = .ok (.istore_n 2, 1) := by decide +kernel
theorem dX2_hand_10 : decode cX2_hand 10 = .ok (.iload_n 2, 1) := by decide +kernel
theorem dX2_hand_11 : decode cX2_hand 11 = .ok (.bipush 12, 2) := by decide +kernel
theorem dX2_hand_13 : decode cX2_hand 13 = .ok (.if_icmp .ge 41, 3) := by decide +kernel
theorem dX2_hand_16 : decode cX2_hand 16 = .ok (.aload_n 0, 1) := by decide +kernel
theorem dX2_hand_17 : decode cX2_hand 17 = .ok (.getfield 30, 3) := by decide +kernel
theorem dX2_hand_20 : decode cX2_hand 20 = .ok (.iload_n 2, 1) := by decide +kernel
theorem dX2_hand_21 : decode cX2_hand 21 = .ok (.iaload, 1) := by decide +kernel
theorem dX2_hand_22 : decode cX2_hand 22 = .ok (.iconst (-1), 1) := by decide +kernel
theorem dX2_hand_23 : decode cX2_hand 23 = .ok (.if_icmp .eq 25, 3) := by decide +kernel
theorem dX2_hand_26 : decode cX2_hand 26 = .ok (.aload_n 1, 1) := by decide +kernel
theorem dX2_hand_27 : decode cX2_hand 27 = .ok (.iload_n 2, 1) := by decide +kernel
theorem dX2_hand_28 : decode cX2_hand 28 = .ok (.aload_n 0, 1) := by decide +kernel
theorem dX2_hand_29 : decode cX2_hand 29 = .ok (.getfield 30, 3) := by decide +kernel
theorem dX2_hand_32 : decode cX2_hand 32 = .ok (.iload_n 2, 1) := by decide +kernel
theorem dX2_hand_33 : decode cX2_hand 33 = .ok (.iaload, 1) := by decide +kernel
theorem dX2_hand_34 : decode cX2_hand 34 = .ok (.aload_n 0, 1) := by decide +kernel
theorem dX2_hand_35 : decode cX2_hand 35 = .ok (.getfield 18, 3) := by decide +kernel
theorem dX2_hand_38 : decode cX2_hand 38 = .ok (.aload_n 0, 1) := by decide +kernel
theorem dX2_hand_39 : decode cX2_hand 39 = .ok (.getfield 33, 3) := by decide +kernel
theorem dX2_hand_42 : decode cX2_hand 42 = .ok (.iload_n 2, 1) := by decide +kernel
theorem dX2_hand_43 : decode cX2_hand 43 = .ok (.iaload, 1) := by decide +kernel
theorem dX2_hand_44 : decode cX2_hand 44 = .ok (.iaload, 1) := by decide +kernel
theorem dX2_hand_45 : decode cX2_hand 45 = .ok (.invokevirtual 102, 3) := by decide +kernel
theorem dX2_hand_48 : decode cX2_hand 48 = .ok (.iinc 2 1, 3) := by decide +kernel
theorem dX2_hand_51 : decode cX2_hand 51 = .ok (.goto (-41), 3) := by decide +kernel
theorem dX2_hand_54 : decode cX2_hand 54 = .ok (.return_, 1) := by decide +kernel
theorem dX3_init_0 : decode cX3_init 0 = .ok (.aload_n 0, 1) := by decide +kernel
theorem dX3_init_1 : decode cX3_init 1 = .ok (.invokespecial 3, 3) := by decide +kernel
theorem dX3_init_4 : decode cX3_init 4 = .ok (.aload_n 0, 1) := by decide +kernel
theorem dX3_init_5 : decode cX3_init 5 = .ok (.iconst 3, 1) := by decide +kernel
theorem dX3_init_6 : decode cX3_init 6 = .ok (.newarray .int, 2) := by decide +kernel
theorem dX3_init_8 : decode cX3_init 8 = .ok (.putfield 9, 3) := by decide +kernel
theorem dX3_init_11 : decode cX3_init 11 = .ok (.aload_n 0, 1) := by decide +kernel
theorem dX3_init_12 : decode cX3_init 12 = .ok (.bipush 100, 2) := by decide +kernel
theorem dX3_init_14 : decode cX3_init 14 = .ok (.newarray .int, 2) := by decide +kernel
theorem dX3_init_16 : decode cX3_init 16 = .ok (.putfield 15, 3) := by decide +kernel
theorem dX3_init_19 : decode cX3_init 19 = .ok (.return_, 1) := by decide +kernel
set_option maxRecDepth 20000 in
theorem ggX3_clear_J7_fill_53178 : GoodIn wsX3_clear wsJ7_fill_53178 := goodIn_r _ [6] (by decide +kernel) (by decide +kernel)
set_option maxRecDepth 20000 in
theorem gX3_clear_J7_fill_53178 : GoodIn wsX3_clear (va_wsS RX3 18 yJ7_fill_53178 wsJ7_fill_53178) := goodIn_app (goodIn_of _ (by decide +kernel)) ggX3_clear_J7_fill_53178
theorem dX3_clear_0 : decode cX3_clear 0 = .ok (.aload_n 0, 1) := by decide +kernel
theorem dX3_clear_1 : decode cX3_clear 1 = .ok (.getfield 9, 3) := by decide +kernel
theorem dX3_clear_4 : decode cX3_clear 4 = .ok (.iconst 0, 1) := by decide +kernel
theorem dX3_clear_5 : decode cX3_clear 5 = .ok (.invokestatic 18, 3) := by decide +kernel
theorem dX3_clear_8 : decode cX3_clear 8 = .ok (.aload_n 0, 1) := by decide +kernel
theorem dX3_clear_9 : decode cX3_clear 9 = .ok (.getfield 15, 3) := by decide +kernel
theorem dX3_clear_12 : decode cX3_clear 12 = .ok (.iconst (-1), 1) := by decide +kernel
theorem dX3_clear_13 : decode cX3_clear 13 = .ok (.invokestatic 18, 3) := by decide +kernel
theorem dX3_clear_16 : decode cX3_clear 16 = .ok (.return_, 1) := by decide +kernel
theorem dX3_note_0 : decode cX3_note 0 = .ok (.aload_n 0, 1) := by decide +kernel
theorem dX3_note_1 : decode cX3_note 1 = .ok (.getfield 9, 3) := by decide +kernel
theorem dX3_note_4 : decode cX3_note 4 = .ok (.iload_n 1, 1) := by decide +kernel
theorem dX3_note_5 : decode cX3_note 5 = .ok (.dup2, 1) := by decide +kernel
theorem dX3_note_6 : decode cX3_note 6 = .ok (.iaload, 1) := by decide +kernel
theorem dX3_note_7 : decode cX3_note 7 = .ok (.iconst 1, 1) := by decide +kernel
theorem dX3_note_8 : decode cX3_note 8 = .ok (.iadd, 1) := by decide +kernel
theorem dX3_note_9 : decode cX3_note 9 = .ok (.iastore, 1) := by decide +kernel
theorem dX3_note_10 : decode cX3_note 10 = .ok (.aload_n 0, 1) := by decide +kernel
theorem dX3_note_11 : decode cX3_note 11 = .ok (.getfield 15, 3) := by decide +kernel
theorem dX3_note_14 : decode cX3_note 14 = .ok (.iload_n 2, 1) := by decide +kernel
theorem dX3_note_15 : decode cX3_note 15 = .ok (.bipush 100, 2) := by decide +kernel
theorem dX3_note_17 : decode cX3_note 17 = .ok (.idiv, 1) := by decide +kernel
theorem dX3_note_18 : decode cX3_note 18 = .ok (.iload_n 2, 1) := by decide +kernel
theorem dX3_note_19 : decode cX3_note 19 = .ok (.bipush 100, 2) := by decide +kernel
theorem dX3_note_21 : decode cX3_note 21 = .ok (.irem, 1) := by decide +kernel
theorem dX3_note_22 : decode cX3_note 22 = .ok (.iastore, 1) := by decide +kernel
theorem dX3_note_23 : decode cX3_note 23 = .ok (.return_, 1) := by decide +kernel
theorem dX3_baseOf_0 : decode cX3_baseOf 0 = .ok (.iload_n 1, 1) := by decide +kernel
theorem dX3_baseOf_1 : decode cX3_baseOf 1 = .ok (.tableswitch 58 1 4 #[31, 36, 41, 48], 31) := by decide +kernel
theorem dX3_baseOf_32 : decode cX3_baseOf 32 = .ok (.iload_n 3, 1) := by decide +kernel
theorem dX3_baseOf_33 : decode cX3_baseOf 33 = .ok (.bipush 100, 2) := by decide +kernel
theorem dX3_baseOf_35 : decode cX3_baseOf 35 = .ok (.idiv, 1) := by decide +kernel
theorem dX3_baseOf_36 : decode cX3_baseOf 36 = .ok (.ireturn, 1) := by decide +kernel
theorem dX3_baseOf_37 : decode cX3_baseOf 37 = .ok (.iload_n 3, 1) := by decide +kernel
theorem dX3_baseOf_38 : decode cX3_baseOf 38 = .ok (.bipush 100, 2) := by decide +kernel
theorem dX3_baseOf_40 : decode cX3_baseOf 40 = .ok (.irem, 1) := by decide +kernel
theorem dX3_baseOf_41 : decode cX3_baseOf 41 = .ok (.ireturn, 1) := by decide +kernel
theorem dX3_baseOf_42 : decode cX3_baseOf 42 = .ok (.aload_n 0, 1) := by decide +kernel
theorem dX3_baseOf_43 : decode cX3_baseOf 43 = .ok (.getfield 9, 3) := by decide +kernel
theorem dX3_baseOf_46 : decode cX3_baseOf 46 = .ok (.iload_n 2, 1) := by decide +kernel
theorem dX3_baseOf_47 : decode cX3_baseOf 47 = .ok (.iaload, 1) := by decide +kernel
theorem dX3_baseOf_48 : decode cX3_baseOf 48 = .ok (.ireturn, 1) := by decide +kernel
theorem dX3_baseOf_49 : decode cX3_baseOf 49 = .ok (.aload_n 0, 1) := by decide +kernel
theorem dX3_baseOf_50 : decode cX3_baseOf 50 = .ok (.getfield 15, 3) := by decide +kernel
theorem dX3_baseOf_53 : decode cX3_baseOf 53 = .ok (.iload_n 3, 1) := by decide +kernel
theorem dX3_baseOf_54 : decode cX3_baseOf 54 = .ok (.bipush 100, 2) := by decide +kernel
theorem dX3_baseOf_56 : decode cX3_baseOf 56 = .ok (.idiv, 1) := by decide +kernel
theorem dX3_baseOf_57 : decode cX3_baseOf 57 = .ok (.iaload, 1) := by decide +kernel
theorem dX3_baseOf_58 : decode cX3_baseOf 58 = .ok (.ireturn, 1) := by decide +kernel
theorem dX3_baseOf_59 : decode cX3_baseOf 59 = .ok (.iconst 0, 1) := by decide +kernel
theorem dX3_baseOf_60 : decode cX3_baseOf 60 = .ok (.ireturn, 1) := by decide +kernel
theorem dX3_copy_0 : decode cX3_copy 0 = .ok (.aload_n 1, 1) := by decide +kernel
theorem dX3_copy_1 : decode cX3_copy 1 = .ok (.getfield 9, 3) := by decide +kernel
theorem dX3_copy_4 : decode cX3_copy 4 = .ok (.iconst 0, 1) := by decide +kernel
theorem dX3_copy_5 : decode cX3_copy 5 = .ok (.aload_n 0, 1) := by decide +kernel
theorem dX3_copy_6 : decode cX3_copy 6 = .ok (.getfield 9, 3) := by decide +kernel
theorem dX3_copy_9 : decode cX3_copy 9 = .ok (.iconst 0, 1) := by decide +kernel
theorem dX3_copy_10 : decode cX3_copy 10 = .ok (.iconst 3, 1) := by decide +kernel
theorem dX3_copy_11 : decode cX3_copy 11 = .ok (.invokestatic 24, 3) := by decide +kernel
theorem dX3_copy_14 : decode cX3_copy 14 = .ok (.aload_n 1, 1) := by decide +kernel
theorem dX3_copy_15 : decode cX3_copy 15 = .ok (.getfield 15, 3) := by decide +kernel
theorem dX3_copy_18 : decode cX3_copy 18 = .ok (.iconst 0, 1) := by decide +kernel
theorem dX3_copy_19 : decode cX3_copy 19 = .ok (.aload_n 0, 1) := by decide +kernel
theorem dX3_copy_20 : decode cX3_copy 20 = .ok (.getfield 15, 3) := by decide +kernel
theorem dX3_copy_23 : decode cX3_copy 23 = .ok (.iconst 0, 1) := by decide +kernel
theorem dX3_copy_24 : decode cX3_copy 24 = .ok (.bipush 100, 2) := by decide +kernel
theorem dX3_copy_26 : decode cX3_copy 26 = .ok (.invokestatic 24, 3) := by decide +kernel
theorem dX3_copy_29 : decode cX3_copy 29 = .ok (.return_, 1) := by decide +kernel
theorem dX4_init_0 : decode cX4_init 0 = .ok (.aload_n 0, 1) := by decide +kernel
theorem dX4_init_1 : decode cX4_init 1 = .ok (.invokespecial 3, 3) := by decide +kernel
theorem dX4_init_4 : decode cX4_init 4 = .ok (.aload_n 0, 1) := by decide +kernel
theorem dX4_init_5 : decode cX4_init 5 = .ok (.bipush 8, 2) := by decide +kernel
theorem dX4_init_7 : decode cX4_init 7 = .ok (.newarray .int, 2) := by decide +kernel
theorem dX4_init_9 : decode cX4_init 9 = .ok (.putfield 9, 3) := by decide +kernel
theorem dX4_init_12 : decode cX4_init 12 = .ok (.aload_n 0, 1) := by decide +kernel
theorem dX4_init_13 : decode cX4_init 13 = .ok (.bipush 96, 2) := by decide +kernel
theorem dX4_init_15 : decode cX4_init 15 = .ok (.newarray .int, 2) := by decide +kernel
theorem dX4_init_17 : decode cX4_init 17 = .ok (.putfield 15, 3) := by decide +kernel
theorem dX4_init_20 : decode cX4_init 20 = .ok (.aload_n 0, 1) := by decide +kernel
theorem dX4_init_21 : decode cX4_init 21 = .ok (.bipush 96, 2) := by decide +kernel
theorem dX4_init_23 : decode cX4_init 23 = .ok (.newarray .int, 2) := by decide +kernel
theorem dX4_init_25 : decode cX4_init 25 = .ok (.putfield 18, 3) := by decide +kernel
theorem dX4_init_28 : decode cX4_init 28 = .ok (.aload_n 0, 1) := by decide +kernel
theorem dX4_init_29 : decode cX4_init 29 = .ok (.bipush 96, 2) := by decide +kernel
theorem dX4_init_31 : decode cX4_init 31 = .ok (.newarray .int, 2) := by decide +kernel
theorem dX4_init_33 : decode cX4_init 33 = .ok (.putfield 21, 3) := by decide +kernel
theorem dX4_init_36 : decode cX4_init 36 = .ok (.return_, 1) := by decide +kernel
theorem dX4_open_0 : decode cX4_open 0 = .ok (.aload_n 0, 1) := by decide +kernel
theorem dX4_open_1 : decode cX4_open 1 = .ok (.getfield 24, 3) := by decide +kernel
theorem dX4_open_4 : decode cX4_open 4 = .ok (.bipush 8, 2) := by decide +kernel
theorem dX4_open_6 : decode cX4_open 6 = .ok (.if_icmp .lt 5, 3) := by decide +kernel
theorem dX4_open_9 : decode cX4_open 9 = .ok (.iconst (-1), 1) := by decide +kernel
theorem dX4_open_10 : decode cX4_open 10 = .ok (.ireturn, 1) := by decide +kernel
theorem dX4_open_11 : decode cX4_open 11 = .ok (.aload_n 0, 1) := by decide +kernel
theorem dX4_open_12 : decode cX4_open 12 = .ok (.getfield 9, 3) := by decide +kernel
theorem dX4_open_15 : decode cX4_open 15 = .ok (.aload_n 0, 1) := by decide +kernel
theorem dX4_open_16 : decode cX4_open 16 = .ok (.getfield 24, 3) := by decide +kernel
theorem dX4_open_19 : decode cX4_open 19 = .ok (.iconst 0, 1) := by decide +kernel
theorem dX4_open_20 : decode cX4_open 20 = .ok (.iastore, 1) := by decide +kernel
theorem dX4_open_21 : decode cX4_open 21 = .ok (.aload_n 0, 1) := by decide +kernel
theorem dX4_open_22 : decode cX4_open 22 = .ok (.dup, 1) := by decide +kernel
theorem dX4_open_23 : decode cX4_open 23 = .ok (.getfield 24, 3) := by decide +kernel
theorem dX4_open_26 : decode cX4_open 26 = .ok (.iconst 1, 1) := by decide +kernel
theorem dX4_open_27 : decode cX4_open 27 = .ok (.iadd, 1) := by decide +kernel
theorem dX4_open_28 : decode cX4_open 28 = .ok (.putfield 24, 3) := by decide +kernel
theorem dX4_open_31 : decode cX4_open 31 = .ok (.aload_n 0, 1) := by decide +kernel
theorem dX4_open_32 : decode cX4_open 32 = .ok (.getfield 24, 3) := by decide +kernel
theorem dX4_open_35 : decode cX4_open 35 = .ok (.iconst 1, 1) := by decide +kernel
theorem dX4_open_36 : decode cX4_open 36 = .ok (.isub, 1) := by decide +kernel
theorem dX4_open_37 : decode cX4_open 37 = .ok (.ireturn, 1) := by decide +kernel
set_option maxRecDepth 20000 in
theorem ggX4_append_X4_has : GoodIn wsX4_append wsX4_has := goodIn_r _ [9, 10, 11, 12, 13, 14, 15] (by decide +kernel) (by decide +kernel)
set_option maxRecDepth 20000 in
theorem gX4_append_X4_has : GoodIn wsX4_append (wsV RX4 28 RX4 yX4_has wsX4_has) := goodIn_app (goodIn_of _ (by decide +kernel)) ggX4_append_X4_has
theorem dX4_append_0 : decode cX4_append 0 = .ok (.aload_n 0, 1) := by decide +kernel
theorem dX4_append_1 : decode cX4_append 1 = .ok (.iload_n 1, 1) := by decide +kernel
theorem dX4_append_2 : decode cX4_append 2 = .ok (.invokevirtual 28, 3) := by decide +kernel
theorem dX4_append_5 : decode cX4_append 5 = .ok (.ifCond .eq 14, 3) := by decide +kernel
theorem dX4_append_8 : decode cX4_append 8 = .ok (.aload_n 0, 1) := by decide +kernel
theorem dX4_append_9 : decode cX4_append 9 = .ok (.getfield 9, 3) := by decide +kernel
theorem dX4_append_12 : decode cX4_append 12 = .ok (.iload_n 1, 1) := by decide +kernel
theorem dX4_append_13 : decode cX4_append 13 = .ok (.iaload, 1) := by decide +kernel
theorem dX4_append_14 : decode cX4_append 14 = .ok (.bipush 12, 2) := by decide +kernel
theorem dX4_append_16 : decode cX4_append 16 = .ok (.if_icmp .lt 5, 3) := by decide +kernel
theorem dX4_append_19 : decode cX4_append 19 = .ok (.iconst (-1), 1) := by decide +kernel
theorem dX4_append_20 : decode cX4_append 20 = .ok (.ireturn, 1) := by decide +kernel
theorem dX4_append_21 : decode cX4_append 21 = .ok (.aload_n 0, 1) := by decide +kernel
theorem dX4_append_22 : decode cX4_append 22 = .ok (.getfield 9, 3) := by decide +kernel
theorem dX4_append_25 : decode cX4_append 25 = .ok (.iload_n 1, 1) := by decide +kernel
theorem dX4_append_26 : decode cX4_append 26 = .ok (.iaload, 1) := by decide +kernel
theorem dX4_append_27 : decode cX4_append 27 = .ok (.istore 5, 2) := by decide +kernel
theorem dX4_append_29 : decode cX4_append 29 = .ok (.iload_n 1, 1) := by decide +kernel
theorem dX4_append_30 : decode cX4_append 30 = .ok (.bipush 12, 2) := by decide +kernel
theorem dX4_append_32 : decode cX4_append 32 = .ok (.imul, 1) := by decide +kernel
theorem dX4_append_33 : decode cX4_append 33 = .ok (.iload 5, 2) := by decide +kernel
theorem dX4_append_35 : decode cX4_append 35 = .ok (.iadd, 1) := by decide +kernel
theorem dX4_append_36 : decode cX4_append 36 = .ok (.istore 6, 2) := by decide +kernel
theorem dX4_append_38 : decode cX4_append 38 = .ok (.aload_n 0, 1) := by decide +kernel
theorem dX4_append_39 : decode cX4_append 39 = .ok (.getfield 15, 3) := by decide +kernel
theorem dX4_append_42 : decode cX4_append 42 = .ok (.iload 6, 2) := by decide +kernel
theorem dX4_append_44 : decode cX4_append 44 = .ok (.iload_n 2, 1) := by decide +kernel
theorem dX4_append_45 : decode cX4_append 45 = .ok (.iastore, 1) := by decide +kernel
theorem dX4_append_46 : decode cX4_append 46 = .ok (.aload_n 0, 1) := by decide +kernel
theorem dX4_append_47 : decode cX4_append 47 = .ok (.getfield 18, 3) := by decide +kernel
theorem dX4_append_50 : decode cX4_append 50 = .ok (.iload 6, 2) := by decide +kernel
theorem dX4_append_52 : decode cX4_append 52 = .ok (.iload_n 3, 1) := by decide +kernel
theorem dX4_append_53 : decode cX4_append 53 = .ok (.iastore, 1) := by decide +kernel
theorem dX4_append_54 : decode cX4_append 54 = .ok (.aload_n 0, 1) := by decide +kernel
theorem dX4_append_55 : decode cX4_append 55 = .ok (.getfield 21, 3) := by decide +kernel
theorem dX4_append_58 : decode cX4_append 58 = .ok (.iload 6, 2) := by decide +kernel
theorem dX4_append_60 : decode cX4_append 60 = .ok (.iload 4, 2) := by decide +kernel
theorem dX4_append_62 : decode cX4_append 62 = .ok (.iastore, 1) := by decide +kernel
theorem dX4_append_63 : decode cX4_append 63 = .ok (.aload_n 0, 1) := by decide +kernel
theorem dX4_append_64 : decode cX4_append 64 = .ok (.getfield 9, 3) := by decide +kernel
theorem dX4_append_67 : decode cX4_append 67 = .ok (.iload_n 1, 1) := by decide +kernel
theorem dX4_append_68 : decode cX4_append 68 = .ok (.dup2, 1) := by decide +kernel
theorem dX4_append_69 : decode cX4_append 69 = .ok (.iaload, 1) := by decide +kernel
theorem dX4_append_70 : decode cX4_append 70 = .ok (.iconst 1, 1) := by decide +kernel
theorem dX4_append_71 : decode cX4_append 71 = .ok (.iadd, 1) := by decide +kernel
theorem dX4_append_72 : decode cX4_append 72 = .ok (.iastore, 1) := by decide +kernel
theorem dX4_append_73 : decode cX4_append 73 = .ok (.iload 5, 2) := by decide +kernel
theorem dX4_append_75 : decode cX4_append 75 = .ok (.ireturn, 1) := by decide +kernel
set_option maxRecDepth 20000 in
theorem ggX4_shorten_X4_has : GoodIn wsX4_shorten wsX4_has := goodIn_r _ [6, 7, 8, 9, 10, 11, 12] (by decide +kernel) (by decide +kernel)
set_option maxRecDepth 20000 in
theorem gX4_shorten_X4_has : GoodIn wsX4_shorten (wsV RX4 28 RX4 yX4_has wsX4_has) := goodIn_app (goodIn_of _ (by decide +kernel)) ggX4_shorten_X4_has
theorem dX4_shorten_0 : decode cX4_shorten 0 = .ok (.aload_n 0, 1) := by decide +kernel
theorem dX4_shorten_1 : decode cX4_shorten 1 = .ok (.iload_n 1, 1) := by decide +kernel
theorem dX4_shorten_2 : decode cX4_shorten 2 = .ok (.invokevirtual 28, 3) := by decide +kernel
theorem dX4_shorten_5 : decode cX4_shorten 5 = .ok (.ifCond .eq 17, 3) := by decide +kernel
theorem dX4_shorten_8 : decode cX4_shorten 8 = .ok (.iload_n 2, 1) := by decide +kernel
theorem dX4_shorten_9 : decode cX4_shorten 9 = .ok (.ifCond .lt 13, 3) := by decide +kernel
theorem dX4_shorten_12 : decode cX4_shorten 12 = .ok (.iload_n 2, 1) := by decide +kernel
theorem dX4_shorten_13 : decode cX4_shorten 13 = .ok (.aload_n 0, 1) := by decide +kernel
theorem dX4_shorten_14 : decode cX4_shorten 14 = .ok (.getfield 9, 3) := by decide +kernel
theorem dX4_shorten_17 : decode cX4_shorten 17 = .ok (.iload_n 1, 1) := by decide +kernel
theorem dX4_shorten_18 : decode cX4_shorten 18 = .ok (.iaload, 1) := by decide +kernel
theorem dX4_shorten_19 : decode cX4_shorten 19 = .ok (.if_icmp .le 5, 3) := by decide +kernel
theorem dX4_shorten_22 : decode cX4_shorten 22 = .ok (.iconst 0, 1) := by decide +kernel
theorem dX4_shorten_23 : decode cX4_shorten 23 = .ok (.ireturn, 1) := by decide +kernel
theorem dX4_shorten_24 : decode cX4_shorten 24 = .ok (.aload_n 0, 1) := by decide +kernel
theorem dX4_shorten_25 : decode cX4_shorten 25 = .ok (.getfield 9, 3) := by decide +kernel
theorem dX4_shorten_28 : decode cX4_shorten 28 = .ok (.iload_n 1, 1) := by decide +kernel
theorem dX4_shorten_29 : decode cX4_shorten 29 = .ok (.iload_n 2, 1) := by decide +kernel
theorem dX4_shorten_30 : decode cX4_shorten 30 = .ok (.iastore, 1) := by decide +kernel
theorem dX4_shorten_31 : decode cX4_shorten 31 = .ok (.iconst 1, 1) := by decide +kernel
theorem dX4_shorten_32 : decode cX4_shorten 32 = .ok (.ireturn, 1) := by decide +kernel
theorem dX4_has_0 : decode cX4_has 0 = .ok (.iload_n 1, 1) := by decide +kernel
theorem dX4_has_1 : decode cX4_has 1 = .ok (.ifCond .lt 15, 3) := by decide +kernel
theorem dX4_has_4 : decode cX4_has 4 = .ok (.iload_n 1, 1) := by decide +kernel
theorem dX4_has_5 : decode cX4_has 5 = .ok (.aload_n 0, 1) := by decide +kernel
theorem dX4_has_6 : decode cX4_has 6 = .ok (.getfield 24, 3) := by decide +kernel
theorem dX4_has_9 : decode cX4_has 9 = .ok (.if_icmp .ge 7, 3) := by decide +kernel
theorem dX4_has_12 : decode cX4_has 12 = .ok (.iconst 1, 1) := by decide +kernel
theorem dX4_has_13 : decode cX4_has 13 = .ok (.goto 4, 3) := by decide +kernel
theorem dX4_has_16 : decode cX4_has 16 = .ok (.iconst 0, 1) := by decide +kernel
theorem dX4_has_17 : decode cX4_has 17 = .ok (.ireturn, 1) := by decide +kernel
theorem dX4_size_0 : decode cX4_size 0 = .ok (.aload_n 0, 1) := by decide +kernel
theorem dX4_size_1 : decode cX4_size 1 = .ok (.getfield 24, 3) := by decide +kernel
theorem dX4_size_4 : decode cX4_size 4 = .ok (.ireturn, 1) := by decide +kernel
theorem dX4_length_0 : decode cX4_length 0 = .ok (.iload_n 1, 1) := by decide +kernel
theorem dX4_length_1 : decode cX4_length 1 = .ok (.ifCond .lt 20, 3) := by decide +kernel
theorem dX4_length_4 : decode cX4_length 4 = .ok (.iload_n 1, 1) := by decide +kernel
theorem dX4_length_5 : decode cX4_length 5 = .ok (.aload_n 0, 1) := by decide +kernel
theorem dX4_length_6 : decode cX4_length 6 = .ok (.getfield 24, 3) := by decide +kernel
theorem dX4_length_9 : decode cX4_length 9 = .ok (.if_icmp .ge 12, 3) := by decide +kernel
theorem dX4_length_12 : decode cX4_length 12 = .ok (.aload_n 0, 1) := by decide +kernel
theorem dX4_length_13 : decode cX4_length 13 = .ok (.getfield 9, 3) := by decide +kernel
theorem dX4_length_16 : decode cX4_length 16 = .ok (.iload_n 1, 1) := by decide +kernel
theorem dX4_length_17 : decode cX4_length 17 = .ok (.iaload, 1) := by decide +kernel
theorem dX4_length_18 : decode cX4_length 18 = .ok (.goto 4, 3) := by decide +kernel
theorem dX4_length_21 : decode cX4_length 21 = .ok (.iconst 0, 1) := by decide +kernel
theorem dX4_length_22 : decode cX4_length 22 = .ok (.ireturn, 1) := by decide +kernel
theorem dX4_verbAt_0 : decode cX4_verbAt 0 = .ok (.aload_n 0, 1) := by decide +kernel
theorem dX4_verbAt_1 : decode cX4_verbAt 1 = .ok (.getfield 15, 3) := by decide +kernel
theorem dX4_verbAt_4 : decode cX4_verbAt 4 = .ok (.iload_n 1, 1) := by decide +kernel
theorem dX4_verbAt_5 : decode cX4_verbAt 5 = .ok (.bipush 12, 2) := by decide +kernel
theorem dX4_verbAt_7 : decode cX4_verbAt 7 = .ok (.imul, 1) := by decide +kernel
theorem dX4_verbAt_8 : decode cX4_verbAt 8 = .ok (.iload_n 2, 1) := by decide +kernel
theorem dX4_verbAt_9 : decode cX4_verbAt 9 = .ok (.iadd, 1) := by decide +kernel
theorem dX4_verbAt_10 : decode cX4_verbAt 10 = .ok (.iaload, 1) := by decide +kernel
theorem dX4_verbAt_11 : decode cX4_verbAt 11 = .ok (.ireturn, 1) := by decide +kernel
theorem dX4_askAt_0 : decode cX4_askAt 0 = .ok (.aload_n 0, 1) := by decide +kernel
theorem dX4_askAt_1 : decode cX4_askAt 1 = .ok (.getfield 18, 3) := by decide +kernel
theorem dX4_askAt_4 : decode cX4_askAt 4 = .ok (.iload_n 1, 1) := by decide +kernel
theorem dX4_askAt_5 : decode cX4_askAt 5 = .ok (.bipush 12, 2) := by decide +kernel
theorem dX4_askAt_7 : decode cX4_askAt 7 = .ok (.imul, 1) := by decide +kernel
theorem dX4_askAt_8 : decode cX4_askAt 8 = .ok (.iload_n 2, 1) := by decide +kernel
theorem dX4_askAt_9 : decode cX4_askAt 9 = .ok (.iadd, 1) := by decide +kernel
theorem dX4_askAt_10 : decode cX4_askAt 10 = .ok (.iaload, 1) := by decide +kernel
theorem dX4_askAt_11 : decode cX4_askAt 11 = .ok (.ireturn, 1) := by decide +kernel
theorem dX4_answerAt_0 : decode cX4_answerAt 0 = .ok (.aload_n 0, 1) := by decide +kernel
theorem dX4_answerAt_1 : decode cX4_answerAt 1 = .ok (.getfield 21, 3) := by decide +kernel
theorem dX4_answerAt_4 : decode cX4_answerAt 4 = .ok (.iload_n 1, 1) := by decide +kernel
theorem dX4_answerAt_5 : decode cX4_answerAt 5 = .ok (.bipush 12, 2) := by decide +kernel
theorem dX4_answerAt_7 : decode cX4_answerAt 7 = .ok (.imul, 1) := by decide +kernel
theorem dX4_answerAt_8 : decode cX4_answerAt 8 = .ok (.iload_n 2, 1) := by decide +kernel
theorem dX4_answerAt_9 : decode cX4_answerAt 9 = .ok (.iadd, 1) := by decide +kernel
theorem dX4_answerAt_10 : decode cX4_answerAt 10 = .ok (.iaload, 1) := by decide +kernel
theorem dX4_answerAt_11 : decode cX4_answerAt 11 = .ok (.ireturn, 1) := by decide +kernel
theorem dX4_exchanges_0 : decode cX4_exchanges 0 = .ok (.iconst 0, 1) := by decide +kernel
theorem dX4_exchanges_1 : decode cX4_exchanges 1 = .ok (.istore_n 1, 1) := by decide +kernel
theorem dX4_exchanges_2 : decode cX4_exchanges 2 = .ok (.iconst 0, 1) := by decide +kernel
theorem dX4_exchanges_3 : decode cX4_exchanges 3 = .ok (.istore_n 2, 1) := by decide +kernel
theorem dX4_exchanges_4 : decode cX4_exchanges 4 = .ok (.iload_n 2, 1) := by decide +kernel
theorem dX4_exchanges_5 : decode cX4_exchanges 5 = .ok (.aload_n 0, 1) := by decide +kernel
theorem dX4_exchanges_6 : decode cX4_exchanges 6 = .ok (.getfield 24, 3) := by decide +kernel
theorem dX4_exchanges_9 : decode cX4_exchanges 9 = .ok (.if_icmp .ge 18, 3) := by decide +kernel
theorem dX4_exchanges_12 : decode cX4_exchanges 12 = .ok (.iload_n 1, 1) := by decide +kernel
theorem dX4_exchanges_13 : decode cX4_exchanges 13 = .ok (.aload_n 0, 1) := by decide +kernel
theorem dX4_exchanges_14 : decode cX4_exchanges 14 = .ok (.getfield 9, 3) := by decide +kernel
theorem dX4_exchanges_17 : decode cX4_exchanges 17 = .ok (.iload_n 2, 1) := by decide +kernel
theorem dX4_exchanges_18 : decode cX4_exchanges 18 = .ok (.iaload, 1) := by decide +kernel
theorem dX4_exchanges_19 : decode cX4_exchanges 19 = .ok (.iadd, 1) := by decide +kernel
theorem dX4_exchanges_20 : decode cX4_exchanges 20 = .ok (.istore_n 1, 1) := by decide +kernel
theorem dX4_exchanges_21 : decode cX4_exchanges 21 = .ok (.iinc 2 1, 3) := by decide +kernel
theorem dX4_exchanges_24 : decode cX4_exchanges 24 = .ok (.goto (-20), 3) := by decide +kernel
theorem dX4_exchanges_27 : decode cX4_exchanges 27 = .ok (.iload_n 1, 1) := by decide +kernel
theorem dX4_exchanges_28 : decode cX4_exchanges 28 = .ok (.ireturn, 1) := by decide +kernel
set_option maxRecDepth 20000 in
theorem ggX4_exchangesOf_X4_verbAt : GoodIn wsX4_exchangesOf wsX4_verbAt := goodIn_r _ [7, 8, 9, 10, 11, 12, 13] (by decide +kernel) (by decide +kernel)
set_option maxRecDepth 20000 in
theorem gX4_exchangesOf_X4_verbAt : GoodIn wsX4_exchangesOf (wsV RX4 32 RX4 yX4_verbAt wsX4_verbAt) := goodIn_app (goodIn_of _ (by decide +kernel)) ggX4_exchangesOf_X4_verbAt
theorem dX4_exchangesOf_0 : decode cX4_exchangesOf 0 = .ok (.iconst 0, 1) := by decide +kernel
theorem dX4_exchangesOf_1 : decode cX4_exchangesOf 1 = .ok (.istore_n 2, 1) := by decide +kernel
theorem dX4_exchangesOf_2 : decode cX4_exchangesOf 2 = .ok (.iconst 0, 1) := by decide +kernel
theorem dX4_exchangesOf_3 : decode cX4_exchangesOf 3 = .ok (.istore_n 3, 1) := by decide +kernel
theorem dX4_exchangesOf_4 : decode cX4_exchangesOf 4 = .ok (.iload_n 3, 1) := by decide +kernel
theorem dX4_exchangesOf_5 : decode cX4_exchangesOf 5 = .ok (.aload_n 0, 1) := by decide +kernel
theorem dX4_exchangesOf_6 : decode cX4_exchangesOf 6 = .ok (.getfield 24, 3) := by decide +kernel
theorem dX4_exchangesOf_9 : decode cX4_exchangesOf 9 = .ok (.if_icmp .ge 48, 3) := by decide +kernel
theorem dX4_exchangesOf_12 : decode cX4_exchangesOf 12 = .ok (.iconst 0, 1) := by decide +kernel
theorem dX4_exchangesOf_13 : decode cX4_exchangesOf 13 = .ok (.istore 4, 2) := by decide +kernel
theorem dX4_exchangesOf_15 : decode cX4_exchangesOf 15 = .ok (.iload 4, 2) := by decide +kernel
theorem dX4_exchangesOf_17 : decode cX4_exchangesOf 17 = .ok (.aload_n 0, 1) := by decide +kernel
theorem dX4_exchangesOf_18 : decode cX4_exchangesOf 18 = .ok (.getfield 9, 3) := by decide +kernel
theorem dX4_exchangesOf_21 : decode cX4_exchangesOf 21 = .ok (.iload_n 3, 1) := by decide +kernel
theorem dX4_exchangesOf_22 : decode cX4_exchangesOf 22 = .ok (.iaload, 1) := by decide +kernel
theorem dX4_exchangesOf_23 : decode cX4_exchangesOf 23 = .ok (.if_icmp .ge 28, 3) := by decide +kernel
theorem dX4_exchangesOf_26 : decode cX4_exchangesOf 26 = .ok (.iload_n 2, 1) := by decide +kernel
theorem dX4_exchangesOf_27 : decode cX4_exchangesOf 27 = .ok (.aload_n 0, 1) := by decide +kernel
theorem dX4_exchangesOf_28 : decode cX4_exchangesOf 28 = .ok (.iload_n 3, 1) := by decide +kernel
theorem dX4_exchangesOf_29 : decode cX4_exchangesOf 29 = .ok (.iload 4, 2) := by decide +kernel
theorem dX4_exchangesOf_31 : decode cX4_exchangesOf 31 = .ok (.invokevirtual 32, 3) := by decide +kernel
theorem dX4_exchangesOf_34 : decode cX4_exchangesOf 34 = .ok (.iload_n 1, 1) := by decide +kernel
theorem dX4_exchangesOf_35 : decode cX4_exchangesOf 35 = .ok (.if_icmp .ne 7, 3) := by decide +kernel
theorem dX4_exchangesOf_38 : decode cX4_exchangesOf 38 = .ok (.iconst 1, 1) := by decide +kernel
theorem dX4_exchangesOf_39 : decode cX4_exchangesOf 39 = .ok (.goto 4, 3) := by decide +kernel
theorem dX4_exchangesOf_42 : decode cX4_exchangesOf 42 = .ok (.iconst 0, 1) := by decide +kernel
theorem dX4_exchangesOf_43 : decode cX4_exchangesOf 43 = .ok (.iadd, 1) := by decide +kernel
theorem dX4_exchangesOf_44 : decode cX4_exchangesOf 44 = .ok (.istore_n 2, 1) := by decide +kernel
theorem dX4_exchangesOf_45 : decode cX4_exchangesOf 45 = .ok (.iinc 4 1, 3) := by decide +kernel
theorem dX4_exchangesOf_48 : decode cX4_exchangesOf 48 = .ok (.goto (-33), 3) := by decide +kernel
theorem dX4_exchangesOf_51 : decode cX4_exchangesOf 51 = .ok (.iinc 3 1, 3) := by decide +kernel
theorem dX4_exchangesOf_54 : decode cX4_exchangesOf 54 = .ok (.goto (-50), 3) := by decide +kernel
theorem dX4_exchangesOf_57 : decode cX4_exchangesOf 57 = .ok (.iload_n 2, 1) := by decide +kernel
theorem dX4_exchangesOf_58 : decode cX4_exchangesOf 58 = .ok (.ireturn, 1) := by decide +kernel
set_option maxRecDepth 20000 in
theorem ggX4_quarrelPlace_X4_verbAt : GoodIn wsX4_quarrelPlace wsX4_verbAt := goodIn_r _ [10, 11, 20, 21, 22, 23, 24] (by decide +kernel) (by decide +kernel)
set_option maxRecDepth 20000 in
theorem gX4_quarrelPlace_X4_verbAt : GoodIn wsX4_quarrelPlace (wsV RX4 32 RX4 yX4_verbAt wsX4_verbAt) := goodIn_app (goodIn_of _ (by decide +kernel)) ggX4_quarrelPlace_X4_verbAt
set_option maxRecDepth 20000 in
theorem ggX4_quarrelPlace_X4_answerAt : GoodIn wsX4_quarrelPlace wsX4_answerAt := goodIn_r _ [15, 16, 20, 21, 22, 23, 24] (by decide +kernel) (by decide +kernel)
set_option maxRecDepth 20000 in
theorem gX4_quarrelPlace_X4_answerAt : GoodIn wsX4_quarrelPlace (wsV RX4 41 RX4 yX4_answerAt wsX4_answerAt) := goodIn_app (goodIn_of _ (by decide +kernel)) ggX4_quarrelPlace_X4_answerAt
set_option maxRecDepth 20000 in
theorem ggX4_quarrelPlace_X9_codeOf : GoodIn wsX4_quarrelPlace wsX9_codeOf := goodIn_r _ [19] (by decide +kernel) (by decide +kernel)
set_option maxRecDepth 20000 in
theorem gX4_quarrelPlace_X9_codeOf_n44 : GoodIn wsX4_quarrelPlace (wsX9_codeOf) := ggX4_quarrelPlace_X9_codeOf
theorem dX4_quarrelPlace_0 : decode cX4_quarrelPlace 0 = .ok (.aload_n 0, 1) := by decide +kernel
theorem dX4_quarrelPlace_1 : decode cX4_quarrelPlace 1 = .ok (.getfield 9, 3) := by decide +kernel
theorem dX4_quarrelPlace_4 : decode cX4_quarrelPlace 4 = .ok (.iload_n 1, 1) := by decide +kernel
theorem dX4_quarrelPlace_5 : decode cX4_quarrelPlace 5 = .ok (.iaload, 1) := by decide +kernel
theorem dX4_quarrelPlace_6 : decode cX4_quarrelPlace 6 = .ok (.aload_n 0, 1) := by decide +kernel
theorem dX4_quarrelPlace_7 : decode cX4_quarrelPlace 7 = .ok (.getfield 9, 3) := by decide +kernel
theorem dX4_quarrelPlace_10 : decode cX4_quarrelPlace 10 = .ok (.iload_n 2, 1) := by decide +kernel
theorem dX4_quarrelPlace_11 : decode cX4_quarrelPlace 11 = .ok (.iaload, 1) := by decide +kernel
theorem dX4_quarrelPlace_12 : decode cX4_quarrelPlace 12 = .ok (.invokestatic 36, 3) := by decide +kernel
theorem dX4_quarrelPlace_15 : decode cX4_quarrelPlace 15 = .ok (.istore_n 3, 1) := by decide +kernel
theorem dX4_quarrelPlace_16 : decode cX4_quarrelPlace 16 = .ok (.iconst 0, 1) := by decide +kernel
theorem dX4_quarrelPlace_17 : decode cX4_quarrelPlace 17 = .ok (.istore 4, 2) := by decide +kernel
theorem dX4_quarrelPlace_19 : decode cX4_quarrelPlace 19 = .ok (.iload 4, 2) := by decide +kernel
theorem dX4_quarrelPlace_21 : decode cX4_quarrelPlace 21 = .ok (.iload_n 3, 1) := by decide +kernel
theorem dX4_quarrelPlace_22 : decode cX4_quarrelPlace 22 = .ok (.if_icmp .ge 54, 3) := by decide +kernel
theorem dX4_quarrelPlace_25 : decode cX4_quarrelPlace 25 = .ok (.aload_n 0, 1) := by decide +kernel
theorem dX4_quarrelPlace_26 : decode cX4_quarrelPlace 26 = .ok (.iload_n 1, 1) := by decide +kernel
theorem dX4_quarrelPlace_27 : decode cX4_quarrelPlace 27 = .ok (.iload 4, 2) := by decide +kernel
theorem dX4_quarrelPlace_29 : decode cX4_quarrelPlace 29 = .ok (.invokevirtual 32, 3) := by decide +kernel
theorem dX4_quarrelPlace_32 : decode cX4_quarrelPlace 32 = .ok (.aload_n 0, 1) := by decide +kernel
theorem dX4_quarrelPlace_33 : decode cX4_quarrelPlace 33 = .ok (.iload_n 2, 1) := by decide +kernel
theorem dX4_quarrelPlace_34 : decode cX4_quarrelPlace 34 = .ok (.iload 4, 2) := by decide +kernel
theorem dX4_quarrelPlace_36 : decode cX4_quarrelPlace 36 = .ok (.invokevirtual 32, 3) := by decide +kernel
theorem dX4_quarrelPlace_39 : decode cX4_quarrelPlace 39 = .ok (.if_icmp .eq 5, 3) := by decide +kernel
theorem dX4_quarrelPlace_42 : decode cX4_quarrelPlace 42 = .ok (.iconst (-1), 1) := by decide +kernel
theorem dX4_quarrelPlace_43 : decode cX4_quarrelPlace 43 = .ok (.ireturn, 1) := by decide +kernel
theorem dX4_quarrelPlace_44 : decode cX4_quarrelPlace 44 = .ok (.aload_n 0, 1) := by decide +kernel
theorem dX4_quarrelPlace_45 : decode cX4_quarrelPlace 45 = .ok (.iload_n 1, 1) := by decide +kernel
theorem dX4_quarrelPlace_46 : decode cX4_quarrelPlace 46 = .ok (.iload 4, 2) := by decide +kernel
theorem dX4_quarrelPlace_48 : decode cX4_quarrelPlace 48 = .ok (.invokevirtual 41, 3) := by decide +kernel
theorem dX4_quarrelPlace_51 : decode cX4_quarrelPlace 51 = .ok (.invokestatic 44, 3) := by decide +kernel
theorem dX4_quarrelPlace_54 : decode cX4_quarrelPlace 54 = .ok (.aload_n 0, 1) := by decide +kernel
theorem dX4_quarrelPlace_55 : decode cX4_quarrelPlace 55 = .ok (.iload_n 2, 1) := by decide +kernel
theorem dX4_quarrelPlace_56 : decode cX4_quarrelPlace 56 = .ok (.iload 4, 2) := by decide +kernel
theorem dX4_quarrelPlace_58 : decode cX4_quarrelPlace 58 = .ok (.invokevirtual 41, 3) := by decide +kernel
theorem dX4_quarrelPlace_61 : decode cX4_quarrelPlace 61 = .ok (.invokestatic 44, 3) := by decide +kernel
theorem dX4_quarrelPlace_64 : decode cX4_quarrelPlace 64 = .ok (.if_icmp .eq 6, 3) := by decide +kernel
theorem dX4_quarrelPlace_67 : decode cX4_quarrelPlace 67 = .ok (.iload 4, 2) := by decide +kernel
theorem dX4_quarrelPlace_69 : decode cX4_quarrelPlace 69 = .ok (.ireturn, 1) := by decide +kernel
theorem dX4_quarrelPlace_70 : decode cX4_quarrelPlace 70 = .ok (.iinc 4 1, 3) := by decide +kernel
theorem dX4_quarrelPlace_73 : decode cX4_quarrelPlace 73 = .ok (.goto (-54), 3) := by decide +kernel
theorem dX4_quarrelPlace_76 : decode cX4_quarrelPlace 76 = .ok (.iconst (-1), 1) := by decide +kernel
theorem dX4_quarrelPlace_77 : decode cX4_quarrelPlace 77 = .ok (.ireturn, 1) := by decide +kernel
theorem dX4_copy_0 : decode cX4_copy 0 = .ok (.aload_n 1, 1) := by decide +kernel
theorem dX4_copy_1 : decode cX4_copy 1 = .ok (.getfield 9, 3) := by decide +kernel
theorem dX4_copy_4 : decode cX4_copy 4 = .ok (.iconst 0, 1) := by decide +kernel
theorem dX4_copy_5 : decode cX4_copy 5 = .ok (.aload_n 0, 1) := by decide +kernel
theorem dX4_copy_6 : decode cX4_copy 6 = .ok (.getfield 9, 3) := by decide +kernel
theorem dX4_copy_9 : decode cX4_copy 9 = .ok (.iconst 0, 1) := by decide +kernel
theorem dX4_copy_10 : decode cX4_copy 10 = .ok (.bipush 8, 2) := by decide +kernel
theorem dX4_copy_12 : decode cX4_copy 12 = .ok (.invokestatic 48, 3) := by decide +kernel
theorem dX4_copy_15 : decode cX4_copy 15 = .ok (.aload_n 1, 1) := by decide +kernel
theorem dX4_copy_16 : decode cX4_copy 16 = .ok (.getfield 15, 3) := by decide +kernel
theorem dX4_copy_19 : decode cX4_copy 19 = .ok (.iconst 0, 1) := by decide +kernel
theorem dX4_copy_20 : decode cX4_copy 20 = .ok (.aload_n 0, 1) := by decide +kernel
theorem dX4_copy_21 : decode cX4_copy 21 = .ok (.getfield 15, 3) := by decide +kernel
theorem dX4_copy_24 : decode cX4_copy 24 = .ok (.iconst 0, 1) := by decide +kernel
theorem dX4_copy_25 : decode cX4_copy 25 = .ok (.bipush 96, 2) := by decide +kernel
theorem dX4_copy_27 : decode cX4_copy 27 = .ok (.invokestatic 48, 3) := by decide +kernel
theorem dX4_copy_30 : decode cX4_copy 30 = .ok (.aload_n 1, 1) := by decide +kernel
theorem dX4_copy_31 : decode cX4_copy 31 = .ok (.getfield 18, 3) := by decide +kernel
theorem dX4_copy_34 : decode cX4_copy 34 = .ok (.iconst 0, 1) := by decide +kernel
theorem dX4_copy_35 : decode cX4_copy 35 = .ok (.aload_n 0, 1) := by decide +kernel
theorem dX4_copy_36 : decode cX4_copy 36 = .ok (.getfield 18, 3) := by decide +kernel
theorem dX4_copy_39 : decode cX4_copy 39 = .ok (.iconst 0, 1) := by decide +kernel
theorem dX4_copy_40 : decode cX4_copy 40 = .ok (.bipush 96, 2) := by decide +kernel
theorem dX4_copy_42 : decode cX4_copy 42 = .ok (.invokestatic 48, 3) := by decide +kernel
theorem dX4_copy_45 : decode cX4_copy 45 = .ok (.aload_n 1, 1) := by decide +kernel
theorem dX4_copy_46 : decode cX4_copy 46 = .ok (.getfield 21, 3) := by decide +kernel
theorem dX4_copy_49 : decode cX4_copy 49 = .ok (.iconst 0, 1) := by decide +kernel
theorem dX4_copy_50 : decode cX4_copy 50 = .ok (.aload_n 0, 1) := by decide +kernel
theorem dX4_copy_51 : decode cX4_copy 51 = .ok (.getfield 21, 3) := by decide +kernel
theorem dX4_copy_54 : decode cX4_copy 54 = .ok (.iconst 0, 1) := by decide +kernel
theorem dX4_copy_55 : decode cX4_copy 55 = .ok (.bipush 96, 2) := by decide +kernel
theorem dX4_copy_57 : decode cX4_copy 57 = .ok (.invokestatic 48, 3) := by decide +kernel
theorem dX4_copy_60 : decode cX4_copy 60 = .ok (.aload_n 0, 1) := by decide +kernel
theorem dX4_copy_61 : decode cX4_copy 61 = .ok (.aload_n 1, 1) := by decide +kernel
theorem dX4_copy_62 : decode cX4_copy 62 = .ok (.getfield 24, 3) := by decide +kernel
theorem dX4_copy_65 : decode cX4_copy 65 = .ok (.putfield 24, 3) := by decide +kernel
theorem dX4_copy_68 : decode cX4_copy 68 = .ok (.return_, 1) := by decide +kernel
set_option maxRecDepth 20000 in
theorem ggX5_init_X3_init : GoodIn wsX5_init wsX3_init := goodIn_r _ [12, 13, 2, 3, 8, 14, 15, 16, 17] (by decide +kernel) (by decide +kernel)
set_option maxRecDepth 20000 in
theorem gX5_init_X3_init_n13 : GoodIn wsX5_init (wsX3_init) := ggX5_init_X3_init
theorem dX5_init_0 : decode cX5_init 0 = .ok (.aload_n 0, 1) := by decide +kernel
theorem dX5_init_1 : decode cX5_init 1 = .ok (.invokespecial 5, 3) := by decide +kernel
theorem dX5_init_4 : decode cX5_init 4 = .ok (.aload_n 0, 1) := by decide +kernel
theorem dX5_init_5 : decode cX5_init 5 = .ok (.new 11, 3) := by decide +kernel
theorem dX5_init_8 : decode cX5_init 8 = .ok (.dup, 1) := by decide +kernel
theorem dX5_init_9 : decode cX5_init 9 = .ok (.invokespecial 13, 3) := by decide +kernel
theorem dX5_init_12 : decode cX5_init 12 = .ok (.putfield 14, 3) := by decide +kernel
theorem dX5_init_15 : decode cX5_init 15 = .ok (.aload_n 0, 1) := by decide +kernel
theorem dX5_init_16 : decode cX5_init 16 = .ok (.bipush 30, 2) := by decide +kernel
theorem dX5_init_18 : decode cX5_init 18 = .ok (.newarray .int, 2) := by decide +kernel
theorem dX5_init_20 : decode cX5_init 20 = .ok (.putfield 20, 3) := by decide +kernel
theorem dX5_init_23 : decode cX5_init 23 = .ok (.aload_n 0, 1) := by decide +kernel
theorem dX5_init_24 : decode cX5_init 24 = .ok (.bipush 6, 2) := by decide +kernel
theorem dX5_init_26 : decode cX5_init 26 = .ok (.newarray .int, 2) := by decide +kernel
theorem dX5_init_28 : decode cX5_init 28 = .ok (.putfield 24, 3) := by decide +kernel
theorem dX5_init_31 : decode cX5_init 31 = .ok (.return_, 1) := by decide +kernel
set_option maxRecDepth 20000 in
theorem ggX5_learn_J7_fill_53178 : GoodIn wsX5_learn wsJ7_fill_53178 := goodIn_r _ [7] (by decide +kernel) (by decide +kernel)
set_option maxRecDepth 20000 in
theorem gX5_learn_J7_fill_53178 : GoodIn wsX5_learn (va_wsS RX5 28 yJ7_fill_53178 wsJ7_fill_53178) := goodIn_app (goodIn_of _ (by decide +kernel)) ggX5_learn_J7_fill_53178
set_option maxRecDepth 20000 in
theorem ggX5_learn_X6_clear : GoodIn wsX5_learn wsX6_clear := goodIn_r _ [12, 13, 14, 15, 16, 5, 6, 7, 98, 99, 100, 101, 102] (by decide +kernel) (by decide +kernel)
set_option maxRecDepth 20000 in
theorem gX5_learn_X6_clear : GoodIn wsX5_learn (wsV RX5 34 RX6 yX6_clear wsX6_clear) := goodIn_app (goodIn_of _ (by decide +kernel)) ggX5_learn_X6_clear
set_option maxRecDepth 20000 in
theorem ggX5_learn_X4_size : GoodIn wsX5_learn wsX4_size := goodIn_r _ [21, 22, 103, 104, 105, 106, 107] (by decide +kernel) (by decide +kernel)
set_option maxRecDepth 20000 in
theorem gX5_learn_X4_size : GoodIn wsX5_learn (wsV RX5 39 RX4 yX4_size wsX4_size) := goodIn_app (goodIn_of _ (by decide +kernel)) ggX5_learn_X4_size
set_option maxRecDepth 20000 in
theorem ggX5_learn_X5_hearRow : GoodIn wsX5_learn wsX5_hearRow := goodIn_r _ [27, 28, 3, 29, 30, 31, 32, 33, 34, 35, 36, 37, 5, 6, 7, 38, 39, 40, 20, 41, 22, 42, 43, 44, 45, 46, 47, 48, 49, 50, 51, 52, 53, 54, 55, 56, 57, 58, 59, 60, 11, 61, 62, 15, 63, 64, 65, 66, 67, 68, 69, 70, 71, 72, 73, 26, 74, 75, 76, 77, 78, 79, 80, 81, 82, 1, 2, 83, 84, 85, 86, 95, 96, 97, 108, 109, 103, 104, 105, 106, 107, 98, 99, 100, 101, 102] (by decide +kernel) (by decide +kernel)
set_option maxRecDepth 20000 in
theorem gX5_learn_X5_hearRow : GoodIn wsX5_learn (wsV RX5 45 RX5 yX5_hearRow wsX5_hearRow) := goodIn_app (goodIn_of _ (by decide +kernel)) ggX5_learn_X5_hearRow
set_option maxRecDepth 20000 in
theorem ggX5_learn_X5_decideRule : GoodIn wsX5_learn wsX5_decideRule := goodIn_r _ [90, 1, 2, 29, 3, 91, 92, 93, 11, 94, 13, 14, 95, 96, 97, 98, 99, 100, 101, 102] (by decide +kernel) (by decide +kernel)
set_option maxRecDepth 20000 in
theorem gX5_learn_X5_decideRule : GoodIn wsX5_learn (wsV RX5 49 RX5 yX5_decideRule wsX5_decideRule) := goodIn_app (goodIn_of _ (by decide +kernel)) ggX5_learn_X5_decideRule
theorem dX5_learn_0 : decode cX5_learn 0 = .ok (.aload_n 0, 1) := by decide +kernel
theorem dX5_learn_1 : decode cX5_learn 1 = .ok (.getfield 20, 3) := by decide +kernel
theorem dX5_learn_4 : decode cX5_learn 4 = .ok (.ldc 27, 2) := by decide +kernel
theorem dX5_learn_6 : decode cX5_learn 6 = .ok (.invokestatic 28, 3) := by decide +kernel
theorem dX5_learn_9 : decode cX5_learn 9 = .ok (.aload_n 0, 1) := by decide +kernel
theorem dX5_learn_10 : decode cX5_learn 10 = .ok (.getfield 24, 3) := by decide +kernel
theorem dX5_learn_13 : decode cX5_learn 13 = .ok (.ldc 27, 2) := by decide +kernel
theorem dX5_learn_15 : decode cX5_learn 15 = .ok (.invokestatic 28, 3) := by decide +kernel
theorem dX5_learn_18 : decode cX5_learn 18 = .ok (.aload_n 3, 1) := by decide +kernel
theorem dX5_learn_19 : decode cX5_learn 19 = .ok (.invokevirtual 34, 3) := by decide +kernel
theorem dX5_learn_22 : decode cX5_learn 22 = .ok (.iconst 0, 1) := by decide +kernel
theorem dX5_learn_23 : decode cX5_learn 23 = .ok (.istore 4, 2) := by decide +kernel
theorem dX5_learn_25 : decode cX5_learn 25 = .ok (.iload 4, 2) := by decide +kernel
theorem dX5_learn_27 : decode cX5_learn 27 = .ok (.aload_n 1, 1) := by decide +kernel
theorem dX5_learn_28 : decode cX5_learn 28 = .ok (.invokevirtual 39, 3) := by decide +kernel
theorem dX5_learn_31 : decode cX5_learn 31 = .ok (.if_icmp .ge 23, 3) := by decide +kernel
theorem dX5_learn_34 : decode cX5_learn 34 = .ok (.iload 4, 2) := by decide +kernel
theorem dX5_learn_36 : decode cX5_learn 36 = .ok (.iload_n 2, 1) := by decide +kernel
theorem dX5_learn_37 : decode cX5_learn 37 = .ok (.if_icmp .eq 11, 3) := by decide +kernel
theorem dX5_learn_40 : decode cX5_learn 40 = .ok (.aload_n 0, 1) := by decide +kernel
theorem dX5_learn_41 : decode cX5_learn 41 = .ok (.aload_n 1, 1) := by decide +kernel
theorem dX5_learn_42 : decode cX5_learn 42 = .ok (.iload 4, 2) := by decide +kernel
theorem dX5_learn_44 : decode cX5_learn 44 = .ok (.aload_n 3, 1) := by decide +kernel
theorem dX5_learn_45 : decode cX5_learn 45 = .ok (.invokevirtual 45, 3) := by decide +kernel
theorem dX5_learn_48 : decode cX5_learn 48 = .ok (.iinc 4 1, 3) := by decide +kernel
theorem dX5_learn_51 : decode cX5_learn 51 = .ok (.goto (-26), 3) := by decide +kernel
theorem dX5_learn_54 : decode cX5_learn 54 = .ok (.iconst 0, 1) := by decide +kernel
theorem dX5_learn_55 : decode cX5_learn 55 = .ok (.istore 4, 2) := by decide +kernel
theorem dX5_learn_57 : decode cX5_learn 57 = .ok (.iload 4, 2) := by decide +kernel
theorem dX5_learn_59 : decode cX5_learn 59 = .ok (.iconst 3, 1) := by decide +kernel
theorem dX5_learn_60 : decode cX5_learn 60 = .ok (.if_icmp .ge 33, 3) := by decide +kernel
theorem dX5_learn_63 : decode cX5_learn 63 = .ok (.iconst 0, 1) := by decide +kernel
theorem dX5_learn_64 : decode cX5_learn 64 = .ok (.istore 5, 2) := by decide +kernel
theorem dX5_learn_66 : decode cX5_learn 66 = .ok (.iload 5, 2) := by decide +kernel
theorem dX5_learn_68 : decode cX5_learn 68 = .ok (.iconst 2, 1) := by decide +kernel
theorem dX5_learn_69 : decode cX5_learn 69 = .ok (.if_icmp .ge 18, 3) := by decide +kernel
theorem dX5_learn_72 : decode cX5_learn 72 = .ok (.aload_n 0, 1) := by decide +kernel
theorem dX5_learn_73 : decode cX5_learn 73 = .ok (.iload 4, 2) := by decide +kernel
theorem dX5_learn_75 : decode cX5_learn 75 = .ok (.iload 5, 2) := by decide +kernel
theorem dX5_learn_77 : decode cX5_learn 77 = .ok (.aload_n 3, 1) := by decide +kernel
theorem dX5_learn_78 : decode cX5_learn 78 = .ok (.invokevirtual 49, 3) := by decide +kernel
theorem dX5_learn_81 : decode cX5_learn 81 = .ok (.iinc 5 1, 3) := by decide +kernel
theorem dX5_learn_84 : decode cX5_learn 84 = .ok (.goto (-18), 3) := by decide +kernel
theorem dX5_learn_87 : decode cX5_learn 87 = .ok (.iinc 4 1, 3) := by decide +kernel
theorem dX5_learn_90 : decode cX5_learn 90 = .ok (.goto (-33), 3) := by decide +kernel
theorem dX5_learn_93 : decode cX5_learn 93 = .ok (.return_, 1) := by decide +kernel
set_option maxRecDepth 20000 in
theorem ggX5_hearRow_X3_clear : GoodIn wsX5_hearRow wsX3_clear := goodIn_r _ [8, 9, 10, 11, 12, 13, 14, 74, 75] (by decide +kernel) (by decide +kernel)
set_option maxRecDepth 20000 in
theorem gX5_hearRow_X3_clear : GoodIn wsX5_hearRow (wsV RX5 53 RX3 yX3_clear wsX3_clear) := goodIn_app (goodIn_of _ (by decide +kernel)) ggX5_hearRow_X3_clear
set_option maxRecDepth 20000 in
theorem ggX5_hearRow_X4_length : GoodIn wsX5_hearRow wsX4_length := goodIn_r _ [19, 20, 21, 76, 77, 78, 79, 80] (by decide +kernel) (by decide +kernel)
set_option maxRecDepth 20000 in
theorem gX5_hearRow_X4_length : GoodIn wsX5_hearRow (wsV RX5 54 RX4 yX4_length wsX4_length) := goodIn_app (goodIn_of _ (by decide +kernel)) ggX5_hearRow_X4_length
set_option maxRecDepth 20000 in
theorem ggX5_hearRow_X4_verbAt : GoodIn wsX5_hearRow wsX4_verbAt := goodIn_r _ [25, 26, 76, 77, 78, 79, 80] (by decide +kernel) (by decide +kernel)
set_option maxRecDepth 20000 in
theorem gX5_hearRow_X4_verbAt : GoodIn wsX5_hearRow (wsV RX5 58 RX4 yX4_verbAt wsX4_verbAt) := goodIn_app (goodIn_of _ (by decide +kernel)) ggX5_hearRow_X4_verbAt
set_option maxRecDepth 20000 in
theorem ggX5_hearRow_X4_askAt : GoodIn wsX5_hearRow wsX4_askAt := goodIn_r _ [30, 31, 76, 77, 78, 79, 80] (by decide +kernel) (by decide +kernel)
set_option maxRecDepth 20000 in
theorem gX5_hearRow_X4_askAt : GoodIn wsX5_hearRow (wsV RX5 62 RX4 yX4_askAt wsX4_askAt) := goodIn_app (goodIn_of _ (by decide +kernel)) ggX5_hearRow_X4_askAt
set_option maxRecDepth 20000 in
theorem ggX5_hearRow_X4_answerAt : GoodIn wsX5_hearRow wsX4_answerAt := goodIn_r _ [35, 36, 76, 77, 78, 79, 80] (by decide +kernel) (by decide +kernel)
set_option maxRecDepth 20000 in
theorem gX5_hearRow_X4_answerAt : GoodIn wsX5_hearRow (wsV RX5 65 RX4 yX4_answerAt wsX4_answerAt) := goodIn_app (goodIn_of _ (by decide +kernel)) ggX5_hearRow_X4_answerAt
set_option maxRecDepth 20000 in
theorem ggX5_hearRow_X6_firstAnswer : GoodIn wsX5_hearRow wsX6_firstAnswer := goodIn_r _ [41, 42, 43, 44, 45, 46, 47, 40, 48, 81, 82, 83, 84, 85] (by decide +kernel) (by decide +kernel)
set_option maxRecDepth 20000 in
theorem gX5_hearRow_X6_firstAnswer : GoodIn wsX5_hearRow (wsV RX5 68 RX6 yX6_firstAnswer wsX6_firstAnswer) := goodIn_app (goodIn_of _ (by decide +kernel)) ggX5_hearRow_X6_firstAnswer
set_option maxRecDepth 20000 in
theorem ggX5_hearRow_X9_fieldOf : GoodIn wsX5_hearRow wsX9_fieldOf := goodIn_r _ [51] (by decide +kernel) (by decide +kernel)
set_option maxRecDepth 20000 in
theorem gX5_hearRow_X9_fieldOf_n72 : GoodIn wsX5_hearRow (wsX9_fieldOf) := ggX5_hearRow_X9_fieldOf
set_option maxRecDepth 20000 in
theorem ggX5_hearRow_X5_hearField : GoodIn wsX5_hearRow wsX5_hearField := goodIn_r _ [56, 1, 57, 58, 59, 7, 60, 9, 10, 61, 62, 63, 55, 64, 65, 3, 66, 71, 72, 73, 74, 75] (by decide +kernel) (by decide +kernel)
set_option maxRecDepth 20000 in
theorem gX5_hearRow_X5_hearField : GoodIn wsX5_hearRow (wsV RX5 75 RX5 yX5_hearField wsX5_hearField) := goodIn_app (goodIn_of _ (by decide +kernel)) ggX5_hearRow_X5_hearField
set_option maxRecDepth 20000 in
theorem ggX5_hearRow_X3_note : GoodIn wsX5_hearRow wsX3_note := goodIn_r _ [70, 9, 10, 74, 75] (by decide +kernel) (by decide +kernel)
set_option maxRecDepth 20000 in
theorem gX5_hearRow_X3_note : GoodIn wsX5_hearRow (wsV RX5 80 RX3 yX3_note wsX3_note) := goodIn_app (goodIn_of _ (by decide +kernel)) ggX5_hearRow_X3_note
theorem dX5_hearRow_0 : decode cX5_hearRow 0 = .ok (.aload_n 0, 1) := by decide +kernel
theorem dX5_hearRow_1 : decode cX5_hearRow 1 = .ok (.getfield 14, 3) := by decide +kernel
theorem dX5_hearRow_4 : decode cX5_hearRow 4 = .ok (.invokevirtual 53, 3) := by decide +kernel
theorem dX5_hearRow_7 : decode cX5_hearRow 7 = .ok (.iconst 0, 1) := by decide +kernel
theorem dX5_hearRow_8 : decode cX5_hearRow 8 = .ok (.istore 4, 2) := by decide +kernel
theorem dX5_hearRow_10 : decode cX5_hearRow 10 = .ok (.iload 4, 2) := by decide +kernel
theorem dX5_hearRow_12 : decode cX5_hearRow 12 = .ok (.aload_n 1, 1) := by decide +kernel
theorem dX5_hearRow_13 : decode cX5_hearRow 13 = .ok (.iload_n 2, 1) := by decide +kernel
theorem dX5_hearRow_14 : decode cX5_hearRow 14 = .ok (.invokevirtual 54, 3) := by decide +kernel
theorem dX5_hearRow_17 : decode cX5_hearRow 17 = .ok (.if_icmp .ge 122, 3) := by decide +kernel
theorem dX5_hearRow_20 : decode cX5_hearRow 20 = .ok (.aload_n 1, 1) := by decide +kernel
theorem dX5_hearRow_21 : decode cX5_hearRow 21 = .ok (.iload_n 2, 1) := by decide +kernel
theorem dX5_hearRow_22 : decode cX5_hearRow 22 = .ok (.iload 4, 2) := by decide +kernel
theorem dX5_hearRow_24 : decode cX5_hearRow 24 = .ok (.invokevirtual 58, 3) := by decide +kernel
theorem dX5_hearRow_27 : decode cX5_hearRow 27 = .ok (.istore 5, 2) := by decide +kernel
theorem dX5_hearRow_29 : decode cX5_hearRow 29 = .ok (.aload_n 1, 1) := by decide +kernel
theorem dX5_hearRow_30 : decode cX5_hearRow 30 = .ok (.iload_n 2, 1) := by decide +kernel
theorem dX5_hearRow_31 : decode cX5_hearRow 31 = .ok (.iload 4, 2) := by decide +kernel
theorem dX5_hearRow_33 : decode cX5_hearRow 33 = .ok (.invokevirtual 62, 3) := by decide +kernel
theorem dX5_hearRow_36 : decode cX5_hearRow 36 = .ok (.istore 6, 2) := by decide +kernel
theorem dX5_hearRow_38 : decode cX5_hearRow 38 = .ok (.aload_n 1, 1) := by decide +kernel
theorem dX5_hearRow_39 : decode cX5_hearRow 39 = .ok (.iload_n 2, 1) := by decide +kernel
theorem dX5_hearRow_40 : decode cX5_hearRow 40 = .ok (.iload 4, 2) := by decide +kernel
theorem dX5_hearRow_42 : decode cX5_hearRow 42 = .ok (.invokevirtual 65, 3) := by decide +kernel
theorem dX5_hearRow_45 : decode cX5_hearRow 45 = .ok (.istore 7, 2) := by decide +kernel
theorem dX5_hearRow_47 : decode cX5_hearRow 47 = .ok (.aload_n 3, 1) := by decide +kernel
theorem dX5_hearRow_48 : decode cX5_hearRow 48 = .ok (.iload 5, 2) := by decide +kernel
theorem dX5_hearRow_50 : decode cX5_hearRow 50 = .ok (.iload 6, 2) := by decide +kernel
theorem dX5_hearRow_52 : decode cX5_hearRow 52 = .ok (.iload 7, 2) := by decide +kernel
theorem dX5_hearRow_54 : decode cX5_hearRow 54 = .ok (.invokevirtual 68, 3) := by decide +kernel
theorem dX5_hearRow_57 : decode cX5_hearRow 57 = .ok (.istore 8, 2) := by decide +kernel
theorem dX5_hearRow_59 : decode cX5_hearRow 59 = .ok (.iconst 0, 1) := by decide +kernel
theorem dX5_hearRow_60 : decode cX5_hearRow 60 = .ok (.istore 9, 2) := by decide +kernel
theorem dX5_hearRow_62 : decode cX5_hearRow 62 = .ok (.iload 9, 2) := by decide +kernel
theorem dX5_hearRow_64 : decode cX5_hearRow 64 = .ok (.iconst 2, 1) := by decide +kernel
theorem dX5_hearRow_65 : decode cX5_hearRow 65 = .ok (.if_icmp .ge 57, 3) := by decide +kernel
theorem dX5_hearRow_68 : decode cX5_hearRow 68 = .ok (.aload_n 0, 1) := by decide +kernel
theorem dX5_hearRow_69 : decode cX5_hearRow 69 = .ok (.iload 5, 2) := by decide +kernel
theorem dX5_hearRow_71 : decode cX5_hearRow 71 = .ok (.iload 9, 2) := by decide +kernel
theorem dX5_hearRow_73 : decode cX5_hearRow 73 = .ok (.iload 6, 2) := by decide +kernel
theorem dX5_hearRow_75 : decode cX5_hearRow 75 = .ok (.iload 7, 2) := by decide +kernel
theorem dX5_hearRow_77 : decode cX5_hearRow 77 = .ok (.iload 9, 2) := by decide +kernel
theorem dX5_hearRow_79 : decode cX5_hearRow 79 = .ok (.invokestatic 72, 3) := by decide +kernel
theorem dX5_hearRow_82 : decode cX5_hearRow 82 = .ok (.invokevirtual 75, 3) := by decide +kernel
theorem dX5_hearRow_85 : decode cX5_hearRow 85 = .ok (.iload 8, 2) := by decide +kernel
theorem dX5_hearRow_87 : decode cX5_hearRow 87 = .ok (.iload 9, 2) := by decide +kernel
theorem dX5_hearRow_89 : decode cX5_hearRow 89 = .ok (.invokestatic 72, 3) := by decide +kernel
theorem dX5_hearRow_92 : decode cX5_hearRow 92 = .ok (.iload 7, 2) := by decide +kernel
theorem dX5_hearRow_94 : decode cX5_hearRow 94 = .ok (.iload 9, 2) := by decide +kernel
theorem dX5_hearRow_96 : decode cX5_hearRow 96 = .ok (.invokestatic 72, 3) := by decide +kernel
theorem dX5_hearRow_99 : decode cX5_hearRow 99 = .ok (.if_icmp .eq 17, 3) := by decide +kernel
theorem dX5_hearRow_102 : decode cX5_hearRow 102 = .ok (.aload_n 0, 1) := by decide +kernel
theorem dX5_hearRow_103 : decode cX5_hearRow 103 = .ok (.getfield 24, 3) := by decide +kernel
theorem dX5_hearRow_106 : decode cX5_hearRow 106 = .ok (.iload 5, 2) := by decide +kernel
theorem dX5_hearRow_108 : decode cX5_hearRow 108 = .ok (.iconst 2, 1) := by decide +kernel
theorem dX5_hearRow_109 : decode cX5_hearRow 109 = .ok (.imul, 1) := by decide +kernel
theorem dX5_hearRow_110 : decode cX5_hearRow 110 = .ok (.iload 9, 2) := by decide +kernel
theorem dX5_hearRow_112 : decode cX5_hearRow 112 = .ok (.iadd, 1) := by decide +kernel
theorem dX5_hearRow_113 : decode cX5_hearRow 113 = .ok (.ldc 79, 2) := by decide +kernel
theorem dX5_hearRow_115 : decode cX5_hearRow 115 = .ok (.iastore, 1) := by decide +kernel
theorem dX5_hearRow_116 : decode cX5_hearRow 116 = .ok (.iinc 9 1, 3) := by decide +kernel
theorem dX5_hearRow_119 : decode cX5_hearRow 119 = .ok (.goto (-57), 3) := by decide +kernel
theorem dX5_hearRow_122 : decode cX5_hearRow 122 = .ok (.aload_n 0, 1) := by decide +kernel
theorem dX5_hearRow_123 : decode cX5_hearRow 123 = .ok (.getfield 14, 3) := by decide +kernel
theorem dX5_hearRow_126 : decode cX5_hearRow 126 = .ok (.iload 5, 2) := by decide +kernel
theorem dX5_hearRow_128 : decode cX5_hearRow 128 = .ok (.iload 6, 2) := by decide +kernel
theorem dX5_hearRow_130 : decode cX5_hearRow 130 = .ok (.invokevirtual 80, 3) := by decide +kernel
theorem dX5_hearRow_133 : decode cX5_hearRow 133 = .ok (.iinc 4 1, 3) := by decide +kernel
theorem dX5_hearRow_136 : decode cX5_hearRow 136 = .ok (.goto (-126), 3) := by decide +kernel
theorem dX5_hearRow_139 : decode cX5_hearRow 139 = .ok (.return_, 1) := by decide +kernel
set_option maxRecDepth 20000 in
theorem ggX5_hearField_X3_baseOf : GoodIn wsX5_hearField wsX3_baseOf := goodIn_r _ [6, 7, 8, 20, 21] (by decide +kernel) (by decide +kernel)
set_option maxRecDepth 20000 in
theorem gX5_hearField_X3_baseOf : GoodIn wsX5_hearField (wsV RX5 84 RX3 yX3_baseOf wsX3_baseOf) := goodIn_app (goodIn_of _ (by decide +kernel)) ggX5_hearField_X3_baseOf
set_option maxRecDepth 20000 in
theorem ggX5_hearField_X5_weigh : GoodIn wsX5_hearField wsX5_weigh := goodIn_r _ [13, 14, 15, 16, 17, 18, 19] (by decide +kernel) (by decide +kernel)
set_option maxRecDepth 20000 in
theorem gX5_hearField_X5_weigh : GoodIn wsX5_hearField (wsV RX5 87 RX5 yX5_weigh wsX5_weigh) := goodIn_app (goodIn_of _ (by decide +kernel)) ggX5_hearField_X5_weigh
theorem dX5_hearField_0 : decode cX5_hearField 0 = .ok (.iload_n 1, 1) := by decide +kernel
theorem dX5_hearField_1 : decode cX5_hearField 1 = .ok (.iconst 2, 1) := by decide +kernel
theorem dX5_hearField_2 : decode cX5_hearField 2 = .ok (.imul, 1) := by decide +kernel
theorem dX5_hearField_3 : decode cX5_hearField 3 = .ok (.iload_n 2, 1) := by decide +kernel
theorem dX5_hearField_4 : decode cX5_hearField 4 = .ok (.iadd, 1) := by decide +kernel
theorem dX5_hearField_5 : decode cX5_hearField 5 = .ok (.iconst 5, 1) := by decide +kernel
theorem dX5_hearField_6 : decode cX5_hearField 6 = .ok (.imul, 1) := by decide +kernel
theorem dX5_hearField_7 : decode cX5_hearField 7 = .ok (.istore 5, 2) := by decide +kernel
theorem dX5_hearField_9 : decode cX5_hearField 9 = .ok (.iconst 0, 1) := by decide +kernel
theorem dX5_hearField_10 : decode cX5_hearField 10 = .ok (.istore 6, 2) := by decide +kernel
theorem dX5_hearField_12 : decode cX5_hearField 12 = .ok (.iload 6, 2) := by decide +kernel
theorem dX5_hearField_14 : decode cX5_hearField 14 = .ok (.iconst 5, 1) := by decide +kernel
theorem dX5_hearField_15 : decode cX5_hearField 15 = .ok (.if_icmp .ge 31, 3) := by decide +kernel
theorem dX5_hearField_18 : decode cX5_hearField 18 = .ok (.aload_n 0, 1) := by decide +kernel
theorem dX5_hearField_19 : decode cX5_hearField 19 = .ok (.iload 5, 2) := by decide +kernel
theorem dX5_hearField_21 : decode cX5_hearField 21 = .ok (.iload 6, 2) := by decide +kernel
theorem dX5_hearField_23 : decode cX5_hearField 23 = .ok (.iadd, 1) := by decide +kernel
theorem dX5_hearField_24 : decode cX5_hearField 24 = .ok (.aload_n 0, 1) := by decide +kernel
theorem dX5_hearField_25 : decode cX5_hearField 25 = .ok (.getfield 14, 3) := by decide +kernel
theorem dX5_hearField_28 : decode cX5_hearField 28 = .ok (.iload 6, 2) := by decide +kernel
theorem dX5_hearField_30 : decode cX5_hearField 30 = .ok (.iload_n 1, 1) := by decide +kernel
theorem dX5_hearField_31 : decode cX5_hearField 31 = .ok (.iload_n 3, 1) := by decide +kernel
theorem dX5_hearField_32 : decode cX5_hearField 32 = .ok (.invokevirtual 84, 3) := by decide +kernel
theorem dX5_hearField_35 : decode cX5_hearField 35 = .ok (.iload 4, 2) := by decide +kernel
theorem dX5_hearField_37 : decode cX5_hearField 37 = .ok (.invokevirtual 87, 3) := by decide +kernel
theorem dX5_hearField_40 : decode cX5_hearField 40 = .ok (.iinc 6 1, 3) := by decide +kernel
theorem dX5_hearField_43 : decode cX5_hearField 43 = .ok (.goto (-31), 3) := by decide +kernel
theorem dX5_hearField_46 : decode cX5_hearField 46 = .ok (.return_, 1) := by decide +kernel
theorem dX5_weigh_0 : decode cX5_weigh 0 = .ok (.aload_n 0, 1) := by decide +kernel
theorem dX5_weigh_1 : decode cX5_weigh 1 = .ok (.getfield 20, 3) := by decide +kernel
theorem dX5_weigh_4 : decode cX5_weigh 4 = .ok (.iload_n 1, 1) := by decide +kernel
theorem dX5_weigh_5 : decode cX5_weigh 5 = .ok (.iaload, 1) := by decide +kernel
theorem dX5_weigh_6 : decode cX5_weigh 6 = .ok (.istore 4, 2) := by decide +kernel
theorem dX5_weigh_8 : decode cX5_weigh 8 = .ok (.iload 4, 2) := by decide +kernel
theorem dX5_weigh_10 : decode cX5_weigh 10 = .ok (.ldc 79, 2) := by decide +kernel
theorem dX5_weigh_12 : decode cX5_weigh 12 = .ok (.if_icmp .ne 4, 3) := by decide +kernel
theorem dX5_weigh_15 : decode cX5_weigh 15 = .ok (.return_, 1) := by decide +kernel
theorem dX5_weigh_16 : decode cX5_weigh 16 = .ok (.iload_n 2, 1) := by decide +kernel
theorem dX5_weigh_17 : decode cX5_weigh 17 = .ok (.iconst (-1), 1) := by decide +kernel
theorem dX5_weigh_18 : decode cX5_weigh 18 = .ok (.if_icmp .ne 23, 3) := by decide +kernel
theorem dX5_weigh_21 : decode cX5_weigh 21 = .ok (.aload_n 0, 1) := by decide +kernel
theorem dX5_weigh_22 : decode cX5_weigh 22 = .ok (.getfield 20, 3) := by decide +kernel
theorem dX5_weigh_25 : decode cX5_weigh 25 = .ok (.iload_n 1, 1) := by decide +kernel
theorem dX5_weigh_26 : decode cX5_weigh 26 = .ok (.iload_n 3, 1) := by decide +kernel
theorem dX5_weigh_27 : decode cX5_weigh 27 = .ok (.ifCond .ne 8, 3) := by decide +kernel
theorem dX5_weigh_30 : decode cX5_weigh 30 = .ok (.iload 4, 2) := by decide +kernel
theorem dX5_weigh_32 : decode cX5_weigh 32 = .ok (.goto 5, 3) := by decide +kernel
theorem dX5_weigh_35 : decode cX5_weigh 35 = .ok (.ldc 79, 2) := by decide +kernel
theorem dX5_weigh_37 : decode cX5_weigh 37 = .ok (.iastore, 1) := by decide +kernel
theorem dX5_weigh_38 : decode cX5_weigh 38 = .ok (.goto 38, 3) := by decide +kernel
theorem dX5_weigh_41 : decode cX5_weigh 41 = .ok (.iload 4, 2) := by decide +kernel
theorem dX5_weigh_43 : decode cX5_weigh 43 = .ok (.ldc 27, 2) := by decide +kernel
theorem dX5_weigh_45 : decode cX5_weigh 45 = .ok (.if_icmp .ne 15, 3) := by decide +kernel
theorem dX5_weigh_48 : decode cX5_weigh 48 = .ok (.aload_n 0, 1) := by decide +kernel
theorem dX5_weigh_49 : decode cX5_weigh 49 = .ok (.getfield 20, 3) := by decide +kernel
theorem dX5_weigh_52 : decode cX5_weigh 52 = .ok (.iload_n 1, 1) := by decide +kernel
theorem dX5_weigh_53 : decode cX5_weigh 53 = .ok (.iload_n 3, 1) := by decide +kernel
theorem dX5_weigh_54 : decode cX5_weigh 54 = .ok (.iload_n 2, 1) := by decide +kernel
theorem dX5_weigh_55 : decode cX5_weigh 55 = .ok (.isub, 1) := by decide +kernel
theorem dX5_weigh_56 : decode cX5_weigh 56 = .ok (.iastore, 1) := by decide +kernel
theorem dX5_weigh_57 : decode cX5_weigh 57 = .ok (.goto 19, 3) := by decide +kernel
theorem dX5_weigh_60 : decode cX5_weigh 60 = .ok (.iload 4, 2) := by decide +kernel
theorem dX5_weigh_62 : decode cX5_weigh 62 = .ok (.iload_n 3, 1) := by decide +kernel
theorem dX5_weigh_63 : decode cX5_weigh 63 = .ok (.iload_n 2, 1) := by decide +kernel
theorem dX5_weigh_64 : decode cX5_weigh 64 = .ok (.isub, 1) := by decide +kernel
theorem dX5_weigh_65 : decode cX5_weigh 65 = .ok (.if_icmp .eq 11, 3) := by decide +kernel
theorem dX5_weigh_68 : decode cX5_weigh 68 = .ok (.aload_n 0, 1) := by decide +kernel
theorem dX5_weigh_69 : decode cX5_weigh 69 = .ok (.getfield 20, 3) := by decide +kernel
theorem dX5_weigh_72 : decode cX5_weigh 72 = .ok (.iload_n 1, 1) := by decide +kernel
theorem dX5_weigh_73 : decode cX5_weigh 73 = .ok (.ldc 79, 2) := by decide +kernel
theorem dX5_weigh_75 : decode cX5_weigh 75 = .ok (.iastore, 1) := by decide +kernel
theorem dX5_weigh_76 : decode cX5_weigh 76 = .ok (.return_, 1) := by decide +kernel
set_option maxRecDepth 20000 in
theorem ggX5_decideRule_X6_decide : GoodIn wsX5_decideRule wsX6_decide := goodIn_r _ [9, 10, 11, 15, 16, 17, 18, 19] (by decide +kernel) (by decide +kernel)
set_option maxRecDepth 20000 in
theorem gX5_decideRule_X6_decide : GoodIn wsX5_decideRule (wsV RX5 91 RX6 yX6_decide wsX6_decide) := goodIn_app (goodIn_of _ (by decide +kernel)) ggX5_decideRule_X6_decide
theorem dX5_decideRule_0 : decode cX5_decideRule 0 = .ok (.iload_n 1, 1) := by decide +kernel
theorem dX5_decideRule_1 : decode cX5_decideRule 1 = .ok (.iconst 2, 1) := by decide +kernel
theorem dX5_decideRule_2 : decode cX5_decideRule 2 = .ok (.imul, 1) := by decide +kernel
theorem dX5_decideRule_3 : decode cX5_decideRule 3 = .ok (.iload_n 2, 1) := by decide +kernel
theorem dX5_decideRule_4 : decode cX5_decideRule 4 = .ok (.iadd, 1) := by decide +kernel
theorem dX5_decideRule_5 : decode cX5_decideRule 5 = .ok (.istore 4, 2) := by decide +kernel
theorem dX5_decideRule_7 : decode cX5_decideRule 7 = .ok (.iload 4, 2) := by decide +kernel
theorem dX5_decideRule_9 : decode cX5_decideRule 9 = .ok (.iconst 5, 1) := by decide +kernel
theorem dX5_decideRule_10 : decode cX5_decideRule 10 = .ok (.imul, 1) := by decide +kernel
theorem dX5_decideRule_11 : decode cX5_decideRule 11 = .ok (.istore 5, 2) := by decide +kernel
theorem dX5_decideRule_13 : decode cX5_decideRule 13 = .ok (.aload_n 0, 1) := by decide +kernel
theorem dX5_decideRule_14 : decode cX5_decideRule 14 = .ok (.getfield 20, 3) := by decide +kernel
theorem dX5_decideRule_17 : decode cX5_decideRule 17 = .ok (.iload 5, 2) := by decide +kernel
theorem dX5_decideRule_19 : decode cX5_decideRule 19 = .ok (.iaload, 1) := by decide +kernel
theorem dX5_decideRule_20 : decode cX5_decideRule 20 = .ok (.ldc 27, 2) := by decide +kernel
theorem dX5_decideRule_22 : decode cX5_decideRule 22 = .ok (.if_icmp .ne 4, 3) := by decide +kernel
theorem dX5_decideRule_25 : decode cX5_decideRule 25 = .ok (.return_, 1) := by decide +kernel
theorem dX5_decideRule_26 : decode cX5_decideRule 26 = .ok (.iconst 0, 1) := by decide +kernel
theorem dX5_decideRule_27 : decode cX5_decideRule 27 = .ok (.istore 6, 2) := by decide +kernel
theorem dX5_decideRule_29 : decode cX5_decideRule 29 = .ok (.iload 6, 2) := by decide +kernel
theorem dX5_decideRule_31 : decode cX5_decideRule 31 = .ok (.iconst 5, 1) := by decide +kernel
theorem dX5_decideRule_32 : decode cX5_decideRule 32 = .ok (.if_icmp .ge 46, 3) := by decide +kernel
theorem dX5_decideRule_35 : decode cX5_decideRule 35 = .ok (.aload_n 0, 1) := by decide +kernel
theorem dX5_decideRule_36 : decode cX5_decideRule 36 = .ok (.getfield 20, 3) := by decide +kernel
theorem dX5_decideRule_39 : decode cX5_decideRule 39 = .ok (.iload 5, 2) := by decide +kernel
theorem dX5_decideRule_41 : decode cX5_decideRule 41 = .ok (.iload 6, 2) := by decide +kernel
theorem dX5_decideRule_43 : decode cX5_decideRule 43 = .ok (.iadd, 1) := by decide +kernel
theorem dX5_decideRule_44 : decode cX5_decideRule 44 = .ok (.iaload, 1) := by decide +kernel
theorem dX5_decideRule_45 : decode cX5_decideRule 45 = .ok (.istore 7, 2) := by decide +kernel
theorem dX5_decideRule_47 : decode cX5_decideRule 47 = .ok (.iload 7, 2) := by decide +kernel
theorem dX5_decideRule_49 : decode cX5_decideRule 49 = .ok (.ldc 27, 2) := by decide +kernel
theorem dX5_decideRule_51 : decode cX5_decideRule 51 = .ok (.if_icmp .eq 21, 3) := by decide +kernel
theorem dX5_decideRule_54 : decode cX5_decideRule 54 = .ok (.iload 7, 2) := by decide +kernel
theorem dX5_decideRule_56 : decode cX5_decideRule 56 = .ok (.ldc 79, 2) := by decide +kernel
theorem dX5_decideRule_58 : decode cX5_decideRule 58 = .ok (.if_icmp .eq 14, 3) := by decide +kernel
theorem dX5_decideRule_61 : decode cX5_decideRule 61 = .ok (.aload_n 3, 1) := by decide +kernel
theorem dX5_decideRule_62 : decode cX5_decideRule 62 = .ok (.iload_n 1, 1) := by decide +kernel
theorem dX5_decideRule_63 : decode cX5_decideRule 63 = .ok (.iload_n 2, 1) := by decide +kernel
theorem dX5_decideRule_64 : decode cX5_decideRule 64 = .ok (.iload 6, 2) := by decide +kernel
theorem dX5_decideRule_66 : decode cX5_decideRule 66 = .ok (.iload 7, 2) := by decide +kernel
theorem dX5_decideRule_68 : decode cX5_decideRule 68 = .ok (.invokevirtual 91, 3) := by decide +kernel
theorem dX5_decideRule_71 : decode cX5_decideRule 71 = .ok (.return_, 1) := by decide +kernel
theorem dX5_decideRule_72 : decode cX5_decideRule 72 = .ok (.iinc 6 1, 3) := by decide +kernel
theorem dX5_decideRule_75 : decode cX5_decideRule 75 = .ok (.goto (-46), 3) := by decide +kernel
theorem dX5_decideRule_78 : decode cX5_decideRule 78 = .ok (.aload_n 3, 1) := by decide +kernel
theorem dX5_decideRule_79 : decode cX5_decideRule 79 = .ok (.iload_n 1, 1) := by decide +kernel
theorem dX5_decideRule_80 : decode cX5_decideRule 80 = .ok (.iload_n 2, 1) := by decide +kernel
theorem dX5_decideRule_81 : decode cX5_decideRule 81 = .ok (.aload_n 0, 1) := by decide +kernel
theorem dX5_decideRule_82 : decode cX5_decideRule 82 = .ok (.getfield 24, 3) := by decide +kernel
theorem dX5_decideRule_85 : decode cX5_decideRule 85 = .ok (.iload 4, 2) := by decide +kernel
theorem dX5_decideRule_87 : decode cX5_decideRule 87 = .ok (.iaload, 1) := by decide +kernel
theorem dX5_decideRule_88 : decode cX5_decideRule 88 = .ok (.ldc 79, 2) := by decide +kernel
theorem dX5_decideRule_90 : decode cX5_decideRule 90 = .ok (.if_icmp .ne 8, 3) := by decide +kernel
theorem dX5_decideRule_93 : decode cX5_decideRule 93 = .ok (.bipush 6, 2) := by decide +kernel
theorem dX5_decideRule_95 : decode cX5_decideRule 95 = .ok (.goto 4, 3) := by decide +kernel
theorem dX5_decideRule_98 : decode cX5_decideRule 98 = .ok (.iconst 5, 1) := by decide +kernel
theorem dX5_decideRule_99 : decode cX5_decideRule 99 = .ok (.sipush (-1000), 3) := by decide +kernel
theorem dX5_decideRule_102 : decode cX5_decideRule 102 = .ok (.invokevirtual 91, 3) := by decide +kernel
theorem dX5_decideRule_105 : decode cX5_decideRule 105 = .ok (.return_, 1) := by decide +kernel
theorem dX6_init_0 : decode cX6_init 0 = .ok (.aload_n 0, 1) := by decide +kernel
theorem dX6_init_1 : decode cX6_init 1 = .ok (.invokespecial 3, 3) := by decide +kernel
theorem dX6_init_4 : decode cX6_init 4 = .ok (.aload_n 0, 1) := by decide +kernel
theorem dX6_init_5 : decode cX6_init 5 = .ok (.bipush 6, 2) := by decide +kernel
theorem dX6_init_7 : decode cX6_init 7 = .ok (.newarray .int, 2) := by decide +kernel
theorem dX6_init_9 : decode cX6_init 9 = .ok (.putfield 9, 3) := by decide +kernel
theorem dX6_init_12 : decode cX6_init 12 = .ok (.aload_n 0, 1) := by decide +kernel
theorem dX6_init_13 : decode cX6_init 13 = .ok (.bipush 6, 2) := by decide +kernel
theorem dX6_init_15 : decode cX6_init 15 = .ok (.newarray .int, 2) := by decide +kernel
theorem dX6_init_17 : decode cX6_init 17 = .ok (.putfield 15, 3) := by decide +kernel
theorem dX6_init_20 : decode cX6_init 20 = .ok (.aload_n 0, 1) := by decide +kernel
theorem dX6_init_21 : decode cX6_init 21 = .ok (.bipush 96, 2) := by decide +kernel
theorem dX6_init_23 : decode cX6_init 23 = .ok (.newarray .int, 2) := by decide +kernel
theorem dX6_init_25 : decode cX6_init 25 = .ok (.putfield 18, 3) := by decide +kernel
theorem dX6_init_28 : decode cX6_init 28 = .ok (.aload_n 0, 1) := by decide +kernel
theorem dX6_init_29 : decode cX6_init 29 = .ok (.bipush 96, 2) := by decide +kernel
theorem dX6_init_31 : decode cX6_init 31 = .ok (.newarray .int, 2) := by decide +kernel
theorem dX6_init_33 : decode cX6_init 33 = .ok (.putfield 21, 3) := by decide +kernel
theorem dX6_init_36 : decode cX6_init 36 = .ok (.return_, 1) := by decide +kernel
set_option maxRecDepth 20000 in
theorem ggX6_clear_J7_fill_53178 : GoodIn wsX6_clear wsJ7_fill_53178 := goodIn_r _ [7] (by decide +kernel) (by decide +kernel)
set_option maxRecDepth 20000 in
theorem gX6_clear_J7_fill_53178 : GoodIn wsX6_clear (va_wsS RX6 24 yJ7_fill_53178 wsJ7_fill_53178) := goodIn_app (goodIn_of _ (by decide +kernel)) ggX6_clear_J7_fill_53178
theorem dX6_clear_0 : decode cX6_clear 0 = .ok (.aload_n 0, 1) := by decide +kernel
theorem dX6_clear_1 : decode cX6_clear 1 = .ok (.getfield 9, 3) := by decide +kernel
theorem dX6_clear_4 : decode cX6_clear 4 = .ok (.iconst (-1), 1) := by decide +kernel
theorem dX6_clear_5 : decode cX6_clear 5 = .ok (.invokestatic 24, 3) := by decide +kernel
theorem dX6_clear_8 : decode cX6_clear 8 = .ok (.aload_n 0, 1) := by decide +kernel
theorem dX6_clear_9 : decode cX6_clear 9 = .ok (.getfield 15, 3) := by decide +kernel
theorem dX6_clear_12 : decode cX6_clear 12 = .ok (.sipush (-1000), 3) := by decide +kernel
theorem dX6_clear_15 : decode cX6_clear 15 = .ok (.invokestatic 24, 3) := by decide +kernel
theorem dX6_clear_18 : decode cX6_clear 18 = .ok (.aload_n 0, 1) := by decide +kernel
theorem dX6_clear_19 : decode cX6_clear 19 = .ok (.iconst 0, 1) := by decide +kernel
theorem dX6_clear_20 : decode cX6_clear 20 = .ok (.putfield 30, 3) := by decide +kernel
theorem dX6_clear_23 : decode cX6_clear 23 = .ok (.return_, 1) := by decide +kernel
theorem dX6_decide_0 : decode cX6_decide 0 = .ok (.aload_n 0, 1) := by decide +kernel
theorem dX6_decide_1 : decode cX6_decide 1 = .ok (.getfield 9, 3) := by decide +kernel
theorem dX6_decide_4 : decode cX6_decide 4 = .ok (.iload_n 1, 1) := by decide +kernel
theorem dX6_decide_5 : decode cX6_decide 5 = .ok (.iconst 2, 1) := by decide +kernel
theorem dX6_decide_6 : decode cX6_decide 6 = .ok (.imul, 1) := by decide +kernel
theorem dX6_decide_7 : decode cX6_decide 7 = .ok (.iload_n 2, 1) := by decide +kernel
theorem dX6_decide_8 : decode cX6_decide 8 = .ok (.iadd, 1) := by decide +kernel
theorem dX6_decide_9 : decode cX6_decide 9 = .ok (.iload_n 3, 1) := by decide +kernel
theorem dX6_decide_10 : decode cX6_decide 10 = .ok (.iastore, 1) := by decide +kernel
theorem dX6_decide_11 : decode cX6_decide 11 = .ok (.aload_n 0, 1) := by decide +kernel
theorem dX6_decide_12 : decode cX6_decide 12 = .ok (.getfield 15, 3) := by decide +kernel
theorem dX6_decide_15 : decode cX6_decide 15 = .ok (.iload_n 1, 1) := by decide +kernel
theorem dX6_decide_16 : decode cX6_decide 16 = .ok (.iconst 2, 1) := by decide +kernel
theorem dX6_decide_17 : decode cX6_decide 17 = .ok (.imul, 1) := by decide +kernel
theorem dX6_decide_18 : decode cX6_decide 18 = .ok (.iload_n 2, 1) := by decide +kernel
theorem dX6_decide_19 : decode cX6_decide 19 = .ok (.iadd, 1) := by decide +kernel
theorem dX6_decide_20 : decode cX6_decide 20 = .ok (.iload 4, 2) := by decide +kernel
theorem dX6_decide_22 : decode cX6_decide 22 = .ok (.iastore, 1) := by decide +kernel
theorem dX6_decide_23 : decode cX6_decide 23 = .ok (.return_, 1) := by decide +kernel
set_option maxRecDepth 20000 in
theorem ggX6_firstAnswer_X6_find : GoodIn wsX6_firstAnswer wsX6_find := goodIn_r _ [8, 2, 3, 9, 10, 11, 12, 13] (by decide +kernel) (by decide +kernel)
set_option maxRecDepth 20000 in
theorem gX6_firstAnswer_X6_find : GoodIn wsX6_firstAnswer (wsV RX6 34 RX6 yX6_find wsX6_find) := goodIn_app (goodIn_of _ (by decide +kernel)) ggX6_firstAnswer_X6_find
theorem dX6_firstAnswer_0 : decode cX6_firstAnswer 0 = .ok (.aload_n 0, 1) := by decide +kernel
theorem dX6_firstAnswer_1 : decode cX6_firstAnswer 1 = .ok (.iload_n 1, 1) := by decide +kernel
theorem dX6_firstAnswer_2 : decode cX6_firstAnswer 2 = .ok (.iload_n 2, 1) := by decide +kernel
theorem dX6_firstAnswer_3 : decode cX6_firstAnswer 3 = .ok (.invokevirtual 34, 3) := by decide +kernel
theorem dX6_firstAnswer_6 : decode cX6_firstAnswer 6 = .ok (.istore 4, 2) := by decide +kernel
theorem dX6_firstAnswer_8 : decode cX6_firstAnswer 8 = .ok (.iload 4, 2) := by decide +kernel
theorem dX6_firstAnswer_10 : decode cX6_firstAnswer 10 = .ok (.iconst (-1), 1) := by decide +kernel
theorem dX6_firstAnswer_11 : decode cX6_firstAnswer 11 = .ok (.if_icmp .eq 11, 3) := by decide +kernel
theorem dX6_firstAnswer_14 : decode cX6_firstAnswer 14 = .ok (.aload_n 0, 1) := by decide +kernel
theorem dX6_firstAnswer_15 : decode cX6_firstAnswer 15 = .ok (.getfield 21, 3) := by decide +kernel
theorem dX6_firstAnswer_18 : decode cX6_firstAnswer 18 = .ok (.iload 4, 2) := by decide +kernel
theorem dX6_firstAnswer_20 : decode cX6_firstAnswer 20 = .ok (.iaload, 1) := by decide +kernel
theorem dX6_firstAnswer_21 : decode cX6_firstAnswer 21 = .ok (.ireturn, 1) := by decide +kernel
theorem dX6_firstAnswer_22 : decode cX6_firstAnswer 22 = .ok (.aload_n 0, 1) := by decide +kernel
theorem dX6_firstAnswer_23 : decode cX6_firstAnswer 23 = .ok (.getfield 30, 3) := by decide +kernel
theorem dX6_firstAnswer_26 : decode cX6_firstAnswer 26 = .ok (.bipush 96, 2) := by decide +kernel
theorem dX6_firstAnswer_28 : decode cX6_firstAnswer 28 = .ok (.if_icmp .ge 39, 3) := by decide +kernel
theorem dX6_firstAnswer_31 : decode cX6_firstAnswer 31 = .ok (.aload_n 0, 1) := by decide +kernel
theorem dX6_firstAnswer_32 : decode cX6_firstAnswer 32 = .ok (.getfield 18, 3) := by decide +kernel
theorem dX6_firstAnswer_35 : decode cX6_firstAnswer 35 = .ok (.aload_n 0, 1) := by decide +kernel
theorem dX6_firstAnswer_36 : decode cX6_firstAnswer 36 = .ok (.getfield 30, 3) := by decide +kernel
theorem dX6_firstAnswer_39 : decode cX6_firstAnswer 39 = .ok (.iload_n 1, 1) := by decide +kernel
theorem dX6_firstAnswer_40 : decode cX6_firstAnswer 40 = .ok (.sipush 10000, 3) := by decide +kernel
theorem dX6_firstAnswer_43 : decode cX6_firstAnswer 43 = .ok (.imul, 1) := by decide +kernel
theorem dX6_firstAnswer_44 : decode cX6_firstAnswer 44 = .ok (.iload_n 2, 1) := by decide +kernel
theorem dX6_firstAnswer_45 : decode cX6_firstAnswer 45 = .ok (.iadd, 1) := by decide +kernel
theorem dX6_firstAnswer_46 : decode cX6_firstAnswer 46 = .ok (.iastore, 1) := by decide +kernel
theorem dX6_firstAnswer_47 : decode cX6_firstAnswer 47 = .ok (.aload_n 0, 1) := by decide +kernel
theorem dX6_firstAnswer_48 : decode cX6_firstAnswer 48 = .ok (.getfield 21, 3) := by decide +kernel

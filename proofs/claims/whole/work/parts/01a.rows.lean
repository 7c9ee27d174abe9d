theorem goodIn_td {big ws : List Cond} (a n : Nat) (h1 : GoodIn big ((ws.drop a).take n)) (h2 : GoodIn big (ws.drop (a + n))) : GoodIn big (ws.drop a) := by
  have e : (ws.drop a).drop n = ws.drop (a + n) := by first | exact List.drop_drop .. | (rw [List.drop_drop, Nat.add_comm]) | simp [List.drop_drop, Nat.add_comm]
  intro w hw
  rw [← List.take_append_drop n (ws.drop a)] at hw
  rcases List.mem_append.mp hw with q | q
  · exact h1 w q
  · rw [e] at q; exact h2 w q
set_option maxRecDepth 20000 in
theorem ggX0_init_X4_init : GoodIn wsX0_init wsX4_init := goodIn_r _ [13, 14, 2, 3, 15, 16, 17, 18, 19, 53, 54, 55, 56, 57] (by decide +kernel) (by decide +kernel)
set_option maxRecDepth 20000 in
theorem gX0_init_X4_init_n9 : GoodIn wsX0_init (wsX4_init) := ggX0_init_X4_init
set_option maxRecDepth 20000 in
theorem ggX0_init_X7_init : GoodIn wsX0_init wsX7_init := goodIn_r _ [21, 22, 2, 3, 23, 24, 25, 26, 27, 28, 29, 30, 31, 32, 33, 34, 15, 35, 36, 37, 38, 39, 40, 41, 42, 43, 44, 45, 46, 47, 48, 49, 50, 51, 52, 68, 69, 70, 60, 61, 62, 63, 64, 65, 66, 67, 71, 72, 73, 74, 75, 76, 77] (by decide +kernel) (by decide +kernel)
set_option maxRecDepth 20000 in
theorem gX0_init_X7_init_n18 : GoodIn wsX0_init (wsX7_init) := ggX0_init_X7_init
theorem dX0_init_0 : decode cX0_init 0 = .ok (.aload_n 0, 1) := by decide +kernel
theorem dX0_init_1 : decode cX0_init 1 = .ok (.invokespecial 1, 3) := by decide +kernel
theorem dX0_init_4 : decode cX0_init 4 = .ok (.aload_n 0, 1) := by decide +kernel
theorem dX0_init_5 : decode cX0_init 5 = .ok (.new 7, 3) := by decide +kernel
theorem dX0_init_8 : decode cX0_init 8 = .ok (.dup, 1) := by decide +kernel
theorem dX0_init_9 : decode cX0_init 9 = .ok (.invokespecial 9, 3) := by decide +kernel
theorem dX0_init_12 : decode cX0_init 12 = .ok (.putfield 10, 3) := by decide +kernel
theorem dX0_init_15 : decode cX0_init 15 = .ok (.aload_n 0, 1) := by decide +kernel
theorem dX0_init_16 : decode cX0_init 16 = .ok (.new 16, 3) := by decide +kernel
theorem dX0_init_19 : decode cX0_init 19 = .ok (.dup, 1) := by decide +kernel
theorem dX0_init_20 : decode cX0_init 20 = .ok (.invokespecial 18, 3) := by decide +kernel
theorem dX0_init_23 : decode cX0_init 23 = .ok (.putfield 19, 3) := by decide +kernel
theorem dX0_init_26 : decode cX0_init 26 = .ok (.return_, 1) := by decide +kernel
set_option maxRecDepth 20000 in
theorem ggX0_copy_X4_copy : GoodIn wsX0_copy wsX4_copy := goodIn_r _ [7, 8, 9, 10, 11, 12, 13, 14, 15, 16, 61, 62, 63, 64, 65] (by decide +kernel) (by decide +kernel)
set_option maxRecDepth 20000 in
theorem gX0_copy_X4_copy : GoodIn wsX0_copy (wsV RX0 23 RX4 yX4_copy wsX4_copy) := goodIn_app (goodIn_of _ (by decide +kernel)) ggX0_copy_X4_copy
set_option maxRecDepth 20000 in
theorem ggX0_copy_X7_copy : GoodIn wsX0_copy wsX7_copy := goodIn_r _ [21, 22, 23, 24, 25, 26, 10, 11, 12, 27, 28, 29, 30, 31, 32, 33, 34, 35, 36, 37, 38, 39, 40, 41, 42, 43, 44, 45, 46, 47, 48, 49, 50, 51, 52, 53, 54, 55, 56, 57, 58, 66, 67, 68, 69, 70, 71, 72, 73, 74, 75, 76, 77, 78, 79, 80, 81, 82, 83] (by decide +kernel) (by decide +kernel)
set_option maxRecDepth 20000 in
theorem gX0_copy_X7_copy : GoodIn wsX0_copy (wsV RX0 27 RX7 yX7_copy wsX7_copy) := goodIn_app (goodIn_of _ (by decide +kernel)) ggX0_copy_X7_copy
theorem dX0_copy_0 : decode cX0_copy 0 = .ok (.aload_n 0, 1) := by decide +kernel
theorem dX0_copy_1 : decode cX0_copy 1 = .ok (.getfield 10, 3) := by decide +kernel
theorem dX0_copy_4 : decode cX0_copy 4 = .ok (.aload_n 1, 1) := by decide +kernel
theorem dX0_copy_5 : decode cX0_copy 5 = .ok (.getfield 10, 3) := by decide +kernel
theorem dX0_copy_8 : decode cX0_copy 8 = .ok (.invokevirtual 23, 3) := by decide +kernel
theorem dX0_copy_11 : decode cX0_copy 11 = .ok (.aload_n 0, 1) := by decide +kernel
theorem dX0_copy_12 : decode cX0_copy 12 = .ok (.getfield 19, 3) := by decide +kernel
theorem dX0_copy_15 : decode cX0_copy 15 = .ok (.aload_n 1, 1) := by decide +kernel
theorem dX0_copy_16 : decode cX0_copy 16 = .ok (.getfield 19, 3) := by decide +kernel
theorem dX0_copy_19 : decode cX0_copy 19 = .ok (.invokevirtual 27, 3) := by decide +kernel
theorem dX0_copy_22 : decode cX0_copy 22 = .ok (.return_, 1) := by decide +kernel
theorem dX1_init_0 : decode cX1_init 0 = .ok (.aload_n 0, 1) := by decide +kernel
theorem dX1_init_1 : decode cX1_init 1 = .ok (.invokespecial 3, 3) := by decide +kernel
theorem dX1_init_4 : decode cX1_init 4 = .ok (.aload_n 0, 1) := by decide +kernel
theorem dX1_init_5 : decode cX1_init 5 = .ok (.bipush 12, 2) := by decide +kernel
theorem dX1_init_7 : decode cX1_init 7 = .ok (.newarray .int, 2) := by decide +kernel
theorem dX1_init_9 : decode cX1_init 9 = .ok (.putfield 9, 3) := by decide +kernel
theorem dX1_init_12 : decode cX1_init 12 = .ok (.aload_n 0, 1) := by decide +kernel
theorem dX1_init_13 : decode cX1_init 13 = .ok (.bipush 12, 2) := by decide +kernel
theorem dX1_init_15 : decode cX1_init 15 = .ok (.newarray .int, 2) := by decide +kernel
theorem dX1_init_17 : decode cX1_init 17 = .ok (.putfield 15, 3) := by decide +kernel
theorem dX1_init_20 : decode cX1_init 20 = .ok (.return_, 1) := by decide +kernel
set_option maxRecDepth 20000 in
theorem ggX1_clear_J7_fill_53178 : GoodIn wsX1_clear wsJ7_fill_53178 := goodIn_r _ [7] (by decide +kernel) (by decide +kernel)
set_option maxRecDepth 20000 in
theorem gX1_clear_J7_fill_53178 : GoodIn wsX1_clear (va_wsS RX1 18 yJ7_fill_53178 wsJ7_fill_53178) := goodIn_app (goodIn_of _ (by decide +kernel)) ggX1_clear_J7_fill_53178
theorem dX1_clear_0 : decode cX1_clear 0 = .ok (.aload_n 0, 1) := by decide +kernel
theorem dX1_clear_1 : decode cX1_clear 1 = .ok (.getfield 9, 3) := by decide +kernel
theorem dX1_clear_4 : decode cX1_clear 4 = .ok (.iconst (-1), 1) := by decide +kernel
theorem dX1_clear_5 : decode cX1_clear 5 = .ok (.invokestatic 18, 3) := by decide +kernel
theorem dX1_clear_8 : decode cX1_clear 8 = .ok (.aload_n 0, 1) := by decide +kernel
theorem dX1_clear_9 : decode cX1_clear 9 = .ok (.getfield 15, 3) := by decide +kernel
theorem dX1_clear_12 : decode cX1_clear 12 = .ok (.iconst (-1), 1) := by decide +kernel
theorem dX1_clear_13 : decode cX1_clear 13 = .ok (.invokestatic 18, 3) := by decide +kernel
theorem dX1_clear_16 : decode cX1_clear 16 = .ok (.aload_n 0, 1) := by decide +kernel
theorem dX1_clear_17 : decode cX1_clear 17 = .ok (.iload_n 1, 1) := by decide +kernel
theorem dX1_clear_18 : decode cX1_clear 18 = .ok (.putfield 24, 3) := by decide +kernel
theorem dX1_clear_21 : decode cX1_clear 21 = .ok (.return_, 1) := by decide +kernel
theorem dX1_setMove_0 : decode cX1_setMove 0 = .ok (.aload_n 0, 1) := by decide +kernel
theorem dX1_setMove_1 : decode cX1_setMove 1 = .ok (.getfield 9, 3) := by decide +kernel
theorem dX1_setMove_4 : decode cX1_setMove 4 = .ok (.iload_n 1, 1) := by decide +kernel
theorem dX1_setMove_5 : decode cX1_setMove 5 = .ok (.iload_n 2, 1) := by decide +kernel
theorem dX1_setMove_6 : decode cX1_setMove 6 = .ok (.iastore, 1) := by decide +kernel
theorem dX1_setMove_7 : decode cX1_setMove 7 = .ok (.aload_n 0, 1) := by decide +kernel
theorem dX1_setMove_8 : decode cX1_setMove 8 = .ok (.getfield 15, 3) := by decide +kernel
theorem dX1_setMove_11 : decode cX1_setMove 11 = .ok (.iload_n 1, 1) := by decide +kernel
theorem dX1_setMove_12 : decode cX1_setMove 12 = .ok (.iload_n 3, 1) := by decide +kernel
theorem dX1_setMove_13 : decode cX1_setMove 13 = .ok (.iastore, 1) := by decide +kernel
theorem dX1_setMove_14 : decode cX1_setMove 14 = .ok (.return_, 1) := by decide +kernel
theorem dX1_size_0 : decode cX1_size 0 = .ok (.aload_n 0, 1) := by decide +kernel
theorem dX1_size_1 : decode cX1_size 1 = .ok (.getfield 24, 3) := by decide +kernel
theorem dX1_size_4 : decode cX1_size 4 = .ok (.ireturn, 1) := by decide +kernel
theorem dX1_stands_0 : decode cX1_stands 0 = .ok (.aload_n 0, 1) := by decide +kernel
theorem dX1_stands_1 : decode cX1_stands 1 = .ok (.getfield 24, 3) := by decide +kernel
theorem dX1_stands_4 : decode cX1_stands 4 = .ok (.ifCond .le 7, 3) := by decide +kernel
theorem dX1_stands_7 : decode cX1_stands 7 = .ok (.iconst 1, 1) := by decide +kernel
theorem dX1_stands_8 : decode cX1_stands 8 = .ok (.goto 4, 3) := by decide +kernel
theorem dX1_stands_11 : decode cX1_stands 11 = .ok (.iconst 0, 1) := by decide +kernel
theorem dX1_stands_12 : decode cX1_stands 12 = .ok (.ireturn, 1) := by decide +kernel
theorem dX1_targetOf_0 : decode cX1_targetOf 0 = .ok (.aload_n 0, 1) := by decide +kernel
theorem dX1_targetOf_1 : decode cX1_targetOf 1 = .ok (.getfield 9, 3) := by decide +kernel
theorem dX1_targetOf_4 : decode cX1_targetOf 4 = .ok (.iload_n 1, 1) := by decide +kernel
theorem dX1_targetOf_5 : decode cX1_targetOf 5 = .ok (.iconst 3, 1) := by decide +kernel
theorem dX1_targetOf_6 : decode cX1_targetOf 6 = .ok (.imul, 1) := by decide +kernel
theorem dX1_targetOf_7 : decode cX1_targetOf 7 = .ok (.iload_n 2, 1) := by decide +kernel
theorem dX1_targetOf_8 : decode cX1_targetOf 8 = .ok (.iadd, 1) := by decide +kernel
theorem dX1_targetOf_9 : decode cX1_targetOf 9 = .ok (.iaload, 1) := by decide +kernel
theorem dX1_targetOf_10 : decode cX1_targetOf 10 = .ok (.ireturn, 1) := by decide +kernel
theorem dX1_toldBy_0 : decode cX1_toldBy 0 = .ok (.aload_n 0, 1) := by decide +kernel
theorem dX1_toldBy_1 : decode cX1_toldBy 1 = .ok (.getfield 15, 3) := by decide +kernel
theorem dX1_toldBy_4 : decode cX1_toldBy 4 = .ok (.iload_n 1, 1) := by decide +kernel
theorem dX1_toldBy_5 : decode cX1_toldBy 5 = .ok (.iconst 3, 1) := by decide +kernel
theorem dX1_toldBy_6 : decode cX1_toldBy 6 = .ok (.imul, 1) := by decide +kernel
theorem dX1_toldBy_7 : decode cX1_toldBy 7 = .ok (.iload_n 2, 1) := by decide +kernel
theorem dX1_toldBy_8 : decode cX1_toldBy 8 = .ok (.iadd, 1) := by decide +kernel
theorem dX1_toldBy_9 : decode cX1_toldBy 9 = .ok (.iaload, 1) := by decide +kernel
theorem dX1_toldBy_10 : decode cX1_toldBy 10 = .ok (.ireturn, 1) := by decide +kernel
theorem dX1_copy_0 : decode cX1_copy 0 = .ok (.aload_n 1, 1) := by decide +kernel
theorem dX1_copy_1 : decode cX1_copy 1 = .ok (.getfield 9, 3) := by decide +kernel
theorem dX1_copy_4 : decode cX1_copy 4 = .ok (.iconst 0, 1) := by decide +kernel
theorem dX1_copy_5 : decode cX1_copy 5 = .ok (.aload_n 0, 1) := by decide +kernel
theorem dX1_copy_6 : decode cX1_copy 6 = .ok (.getfield 9, 3) := by decide +kernel
theorem dX1_copy_9 : decode cX1_copy 9 = .ok (.iconst 0, 1) := by decide +kernel
theorem dX1_copy_10 : decode cX1_copy 10 = .ok (.bipush 12, 2) := by decide +kernel
theorem dX1_copy_12 : decode cX1_copy 12 = .ok (.invokestatic 28, 3) := by decide +kernel
theorem dX1_copy_15 : decode cX1_copy 15 = .ok (.aload_n 1, 1) := by decide +kernel
theorem dX1_copy_16 : decode cX1_copy 16 = .ok (.getfield 15, 3) := by decide +kernel
theorem dX1_copy_19 : decode cX1_copy 19 = .ok (.iconst 0, 1) := by decide +kernel
theorem dX1_copy_20 : decode cX1_copy 20 = .ok (.aload_n 0, 1) := by decide +kernel
theorem dX1_copy_21 : decode cX1_copy 21 = .ok (.getfield 15, 3) := by decide +kernel
theorem dX1_copy_24 : decode cX1_copy 24 = .ok (.iconst 0, 1) := by decide +kernel
theorem dX1_copy_25 : decode cX1_copy 25 = .ok (.bipush 12, 2) := by decide +kernel
theorem dX1_copy_27 : decode cX1_copy 27 = .ok (.invokestatic 28, 3) := by decide +kernel
theorem dX1_copy_30 : decode cX1_copy 30 = .ok (.aload_n 0, 1) := by decide +kernel
theorem dX1_copy_31 : decode cX1_copy 31 = .ok (.aload_n 1, 1) := by decide +kernel
theorem dX1_copy_32 : decode cX1_copy 32 = .ok (.getfield 24, 3) := by decide +kernel
theorem dX1_copy_35 : decode cX1_copy 35 = .ok (.putfield 24, 3) := by decide +kernel
theorem dX1_copy_38 : decode cX1_copy 38 = .ok (.return_, 1) := by decide +kernel
theorem dX2_init_0 : decode cX2_init 0 = .ok (.aload_n 0, 1) := by decide +kernel
theorem dX2_init_1 : decode cX2_init 1 = .ok (.invokespecial 3, 3) := by decide +kernel
theorem dX2_init_4 : decode cX2_init 4 = .ok (.aload_n 0, 1) := by decide +kernel
theorem dX2_init_5 : decode cX2_init 5 = .ok (.bipush 97, 2) := by decide +kernel
theorem dX2_init_7 : decode cX2_init 7 = .ok (.newarray .int, 2) := by decide +kernel
theorem dX2_init_9 : decode cX2_init 9 = .ok (.putfield 11, 3) := by decide +kernel
theorem dX2_init_12 : decode cX2_init 12 = .ok (.aload_n 0, 1) := by decide +kernel
theorem dX2_init_13 : decode cX2_init 13 = .ok (.bipush 97, 2) := by decide +kernel
theorem dX2_init_15 : decode cX2_init 15 = .ok (.newarray .int, 2) := by decide +kernel
theorem dX2_init_17 : decode cX2_init 17 = .ok (.putfield 15, 3) := by decide +kernel
theorem dX2_init_20 : decode cX2_init 20 = .ok (.aload_n 0, 1) := by decide +kernel
theorem dX2_init_21 : decode cX2_init 21 = .ok (.bipush 97, 2) := by decide +kernel
theorem dX2_init_23 : decode cX2_init 23 = .ok (.newarray .int, 2) := by decide +kernel
theorem dX2_init_25 : decode cX2_init 25 = .ok (.putfield 18, 3) := by decide +kernel
theorem dX2_init_28 : decode cX2_init 28 = .ok (.aload_n 0, 1) := by decide +kernel
theorem dX2_init_29 : decode cX2_init 29 = .ok (.sipush 291, 3) := by decide +kernel
theorem dX2_init_32 : decode cX2_init 32 = .ok (.newarray .int, 2) := by decide +kernel
theorem dX2_init_34 : decode cX2_init 34 = .ok (.putfield 21, 3) := by decide +kernel
theorem dX2_init_37 : decode cX2_init 37 = .ok (.aload_n 0, 1) := by decide +kernel
theorem dX2_init_38 : decode cX2_init 38 = .ok (.bipush 12, 2) := by decide +kernel
theorem dX2_init_40 : decode cX2_init 40 = .ok (.newarray .int, 2) := by decide +kernel
theorem dX2_init_42 : decode cX2_init 42 = .ok (.putfield 24, 3) := by decide +kernel
theorem dX2_init_45 : decode cX2_init 45 = .ok (.aload_n 0, 1) := by decide +kernel
theorem dX2_init_46 : decode cX2_init 46 = .ok (.bipush 97, 2) := by decide +kernel
theorem dX2_init_48 : decode cX2_init 48 = .ok (.newarray .int, 2) := by decide +kernel
theorem dX2_init_50 : decode cX2_init 50 = .ok (.putfield 27, 3) := by decide +kernel
theorem dX2_init_53 : decode cX2_init 53 = .ok (.aload_n 0, 1) := by decide +kernel
theorem dX2_init_54 : decode cX2_init 54 = .ok (.bipush 97, 2) := by decide +kernel
theorem dX2_init_56 : decode cX2_init 56 = .ok (.newarray .int, 2) := by decide +kernel
theorem dX2_init_58 : decode cX2_init 58 = .ok (.putfield 30, 3) := by decide +kernel
theorem dX2_init_61 : decode cX2_init 61 = .ok (.aload_n 0, 1) := by decide +kernel
theorem dX2_init_62 : decode cX2_init 62 = .ok (.bipush 97, 2) := by decide +kernel
theorem dX2_init_64 : decode cX2_init 64 = .ok (.newarray .int, 2) := by decide +kernel
theorem dX2_init_66 : decode cX2_init 66 = .ok (.putfield 33, 3) := by decide +kernel
theorem dX2_init_69 : decode cX2_init 69 = .ok (.aload_n 0, 1) := by decide +kernel
theorem dX2_init_70 : decode cX2_init 70 = .ok (.bipush 97, 2) := by decide +kernel
theorem dX2_init_72 : decode cX2_init 72 = .ok (.newarray .int, 2) := by decide +kernel
theorem dX2_init_74 : decode cX2_init 74 = .ok (.putfield 36, 3) := by decide +kernel
theorem dX2_init_77 : decode cX2_init 77 = .ok (.aload_n 0, 1) := by decide +kernel
theorem dX2_init_78 : decode cX2_init 78 = .ok (.bipush 97, 2) := by decide +kernel
theorem dX2_init_80 : decode cX2_init 80 = .ok (.newarray .int, 2) := by decide +kernel
theorem dX2_init_82 : decode cX2_init 82 = .ok (.putfield 39, 3) := by decide +kernel
theorem dX2_init_85 : decode cX2_init 85 = .ok (.aload_n 0, 1) := by decide +kernel
theorem dX2_init_86 : decode cX2_init 86 = .ok (.bipush 12, 2) := by decide +kernel
theorem dX2_init_88 : decode cX2_init 88 = .ok (.newarray .int, 2) := by decide +kernel
theorem dX2_init_90 : decode cX2_init 90 = .ok (.putfield 42, 3) := by decide +kernel
theorem dX2_init_93 : decode cX2_init 93 = .ok (.aload_n 0, 1) := by decide +kernel
theorem dX2_init_94 : decode cX2_init 94 = .ok (.sipush 1164, 3) := by decide +kernel
theorem dX2_init_97 : decode cX2_init 97 = .ok (.newarray .int, 2) := by decide +kernel
theorem dX2_init_99 : decode cX2_init 99 = .ok (.putfield 45, 3) := by decide +kernel
theorem dX2_init_102 : decode cX2_init 102 = .ok (.aload_n 0, 1) := by decide +kernel
theorem dX2_init_103 : decode cX2_init 103 = .ok (.bipush 12, 2) := by decide +kernel
theorem dX2_init_105 : decode cX2_init 105 = .ok (.newarray .int, 2) := by decide +kernel
theorem dX2_init_107 : decode cX2_init 107 = .ok (.putfield 48, 3) := by decide +kernel
theorem dX2_init_110 : decode cX2_init 110 = .ok (.aload_n 0, 1) := by decide +kernel
theorem dX2_init_111 : decode cX2_init 111 = .ok (.bipush 12, 2) := by decide +kernel
theorem dX2_init_113 : decode cX2_init 113 = .ok (.newarray .int, 2) := by decide +kernel
theorem dX2_init_115 : decode cX2_init 115 = .ok (.putfield 51, 3) := by decide +kernel
theorem dX2_init_118 : decode cX2_init 118 = .ok (.return_, 1) := by decide +kernel
set_option maxRecDepth 20000 in
theorem ggX2_search_X2_startTree : GoodIn wsX2_search wsX2_startTree := goodIn_r _ [7, 1, 8, 9, 10, 11, 12, 117, 118, 119, 120, 121, 122, 123, 124, 125, 126, 127, 128, 129, 130, 131, 132, 133] (by decide +kernel) (by decide +kernel)
set_option maxRecDepth 20000 in
theorem gX2_search_X2_startTree : GoodIn wsX2_search (wsV RX2 54 RX2 yX2_startTree wsX2_startTree) := goodIn_app (goodIn_of _ (by decide +kernel)) ggX2_search_X2_startTree
set_option maxRecDepth 20000 in
theorem ggX2_search_X4_size : GoodIn wsX2_search wsX4_size := goodIn_r _ [17, 18, 134, 135, 136, 137, 138] (by decide +kernel) (by decide +kernel)
set_option maxRecDepth 20000 in
theorem gX2_search_X4_size : GoodIn wsX2_search (wsV RX2 57 RX4 yX4_size wsX4_size) := goodIn_app (goodIn_of _ (by decide +kernel)) ggX2_search_X4_size
set_option maxRecDepth 20000 in
theorem ggX2_search_X2_plantRow : GoodIn wsX2_search wsX2_plantRow := goodIn_r _ [22, 23, 24, 25, 26, 16, 27, 18, 28, 29, 30, 31, 32, 33, 34, 35, 36, 37, 38, 39, 40, 41, 42, 43, 44, 6, 45, 8, 1, 46, 47, 117, 118, 119, 120, 121, 122, 123, 124, 125, 126, 127, 128, 129, 130, 131, 132, 133, 134, 135, 136, 137, 138] (by decide +kernel) (by decide +kernel)
set_option maxRecDepth 20000 in
theorem gX2_search_X2_plantRow : GoodIn wsX2_search (wsV RX2 63 RX2 yX2_plantRow wsX2_plantRow) := goodIn_app (goodIn_of _ (by decide +kernel)) ggX2_search_X2_plantRow
set_option maxRecDepth 20000 in
theorem ggX2_search_X1_clear : GoodIn wsX2_search wsX1_clear := goodIn_r _ [52, 53, 54, 55, 56, 10, 11, 12, 139, 140, 141] (by decide +kernel) (by decide +kernel)
set_option maxRecDepth 20000 in
theorem gX2_search_X1_clear : GoodIn wsX2_search (wsV RX2 71 RX1 yX1_clear wsX1_clear) := goodIn_app (goodIn_of _ (by decide +kernel)) ggX2_search_X1_clear
set_option maxRecDepth 20000 in
theorem ggX2_search_X2_weighNodes : GoodIn wsX2_search wsX2_weighNodes := goodIn_r _ [60, 61, 62, 1, 47, 23, 46, 9, 10, 11, 12, 63, 64, 65, 6, 66, 67, 117, 118, 119, 120, 121, 122, 123, 124, 125, 126, 127, 128, 129, 130, 131, 132, 133] (by decide +kernel) (by decide +kernel)
set_option maxRecDepth 20000 in
theorem gX2_search_X2_weighNodes : GoodIn wsX2_search (wsV RX2 77 RX2 yX2_weighNodes wsX2_weighNodes) := goodIn_app (goodIn_of _ (by decide +kernel)) ggX2_search_X2_weighNodes
set_option maxRecDepth 20000 in
theorem ggX2_search_X2_startMoves : GoodIn wsX2_search wsX2_startMoves := goodIn_r _ [71, 72, 73, 74, 75, 9, 10, 11, 12, 76, 77, 78, 6, 79, 80, 81, 8, 82, 23, 46, 62, 83, 84, 117, 118, 119, 120, 121, 122, 123, 124, 125, 126, 127, 128, 129, 130, 131, 132, 133] (by decide +kernel) (by decide +kernel)
set_option maxRecDepth 20000 in
theorem gX2_search_X2_startMoves : GoodIn wsX2_search (wsV RX2 80 RX2 yX2_startMoves wsX2_startMoves) := goodIn_app (goodIn_of _ (by decide +kernel)) ggX2_search_X2_startMoves
set_option maxRecDepth 20000 in
theorem ggX2_search_X2_solve : GoodIn wsX2_search wsX2_solve := goodIn_r _ [88, 75, 2, 89, 90, 91, 92, 93, 94, 95, 6, 96, 72, 74, 97, 98, 99, 100, 73, 82, 81, 46, 84, 83, 76, 77, 78, 79, 80, 8, 23, 62, 85, 86, 87, 101, 102, 103, 104, 117, 118, 119, 120, 121, 122, 123, 124, 125, 126, 127, 128, 129, 130, 131, 132, 133] (by decide +kernel) (by decide +kernel)
set_option maxRecDepth 20000 in
theorem gX2_search_X2_solve : GoodIn wsX2_search (wsV RX2 86 RX2 yX2_solve wsX2_solve) := goodIn_app (goodIn_of _ (by decide +kernel)) ggX2_search_X2_solve
set_option maxRecDepth 20000 in
theorem ggX2_search_X2_settleInOrder : GoodIn wsX2_search wsX2_settleInOrder := goodIn_r _ [108, 1, 80, 46, 47, 72, 2, 75, 89, 90, 91, 92, 97, 98, 99, 6, 100, 73, 82, 81, 84, 83, 76, 77, 78, 79, 8, 23, 74, 62, 85, 86, 87, 88, 93, 94, 95, 96, 101, 102, 103, 104, 117, 118, 119, 120, 121, 122, 123, 124, 125, 126, 127, 128, 129, 130, 131, 132, 133] (by decide +kernel) (by decide +kernel)
set_option maxRecDepth 20000 in
theorem gX2_search_X2_settleInOrder : GoodIn wsX2_search (wsV RX2 90 RX2 yX2_settleInOrder wsX2_settleInOrder) := goodIn_app (goodIn_of _ (by decide +kernel)) ggX2_search_X2_settleInOrder
set_option maxRecDepth 20000 in
theorem ggX2_search_X2_hand : GoodIn wsX2_search wsX2_hand := goodIn_r _ [112, 2, 72, 23, 82, 48, 49, 50, 51, 52, 53, 54, 55, 56, 10, 11, 12, 113, 114, 115, 116, 117, 118, 119, 120, 121, 122, 123, 124, 125, 126, 127, 128, 129, 130, 131, 132, 133, 139, 140, 141] (by decide +kernel) (by decide +kernel)
set_option maxRecDepth 20000 in
theorem gX2_search_X2_hand : GoodIn wsX2_search (wsV RX2 93 RX2 yX2_hand wsX2_hand) := goodIn_app (goodIn_of _ (by decide +kernel)) ggX2_search_X2_hand
theorem dX2_search_0 : decode cX2_search 0 = .ok (.aload_n 0, 1) := by decide +kernel
theorem dX2_search_1 : decode cX2_search 1 = .ok (.invokevirtual 54, 3) := by decide +kernel
theorem dX2_search_4 : decode cX2_search 4 = .ok (.iconst 0, 1) := by decide +kernel
theorem dX2_search_5 : decode cX2_search 5 = .ok (.istore 4, 2) := by decide +kernel
theorem dX2_search_7 : decode cX2_search 7 = .ok (.iconst 0, 1) := by decide +kernel
theorem dX2_search_8 : decode cX2_search 8 = .ok (.istore 5, 2) := by decide +kernel
theorem dX2_search_10 : decode cX2_search 10 = .ok (.iload 5, 2) := by decide +kernel
theorem dX2_search_12 : decode cX2_search 12 = .ok (.aload_n 1, 1) := by decide +kernel
theorem dX2_search_13 : decode cX2_search 13 = .ok (.invokevirtual 57, 3) := by decide +kernel
theorem dX2_search_16 : decode cX2_search 16 = .ok (.if_icmp .ge 37, 3) := by decide +kernel
theorem dX2_search_19 : decode cX2_search 19 = .ok (.iload 4, 2) := by decide +kernel
theorem dX2_search_21 : decode cX2_search 21 = .ok (.ifCond .ne 32, 3) := by decide +kernel
theorem dX2_search_24 : decode cX2_search 24 = .ok (.iload 5, 2) := by decide +kernel
theorem dX2_search_26 : decode cX2_search 26 = .ok (.iload_n 2, 1) := by decide +kernel
theorem dX2_search_27 : decode cX2_search 27 = .ok (.if_icmp .eq 17, 3) := by decide +kernel
theorem dX2_search_30 : decode cX2_search 30 = .ok (.aload_n 0, 1) := by decide +kernel
theorem dX2_search_31 : decode cX2_search 31 = .ok (.aload_n 1, 1) := by decide +kernel
theorem dX2_search_32 : decode cX2_search 32 = .ok (.iload 5, 2) := by decide +kernel
theorem dX2_search_34 : decode cX2_search 34 = .ok (.invokevirtual 63, 3) := by decide +kernel
theorem dX2_search_37 : decode cX2_search 37 = .ok (.ifCond .ne 7, 3) := by decide +kernel
theorem dX2_search_40 : decode cX2_search 40 = .ok (.iconst 1, 1) := by decide +kernel
theorem dX2_search_41 : decode cX2_search 41 = .ok (.goto 4, 3) := by decide +kernel
theorem dX2_search_44 : decode cX2_search 44 = .ok (.iconst 0, 1) := by decide +kernel
theorem dX2_search_45 : decode cX2_search 45 = .ok (.istore 4, 2) := by decide +kernel
theorem dX2_search_47 : decode cX2_search 47 = .ok (.iinc 5 1, 3) := by decide +kernel
theorem dX2_search_50 : decode cX2_search 50 = .ok (.goto (-40), 3) := by decide +kernel
theorem dX2_search_53 : decode cX2_search 53 = .ok (.aload_n 3, 1) := by decide +kernel
theorem dX2_search_54 : decode cX2_search 54 = .ok (.aload_n 0, 1) := by decide +kernel
theorem dX2_search_55 : decode cX2_search 55 = .ok (.getfield 67, 3) := by decide +kernel
theorem dX2_search_58 : decode cX2_search 58 = .ok (.iconst 1, 1) := by decide +kernel
theorem dX2_search_59 : decode cX2_search 59 = .ok (.if_icmp .le 7, 3) := by decide +kernel
theorem dX2_search_62 : decode cX2_search 62 = .ok (.iconst (-1), 1) := by decide +kernel
theorem dX2_search_63 : decode cX2_search 63 = .ok (.goto 4, 3) := by decide +kernel
theorem dX2_search_66 : decode cX2_search 66 = .ok (.iconst 0, 1) := by decide +kernel
theorem dX2_search_67 : decode cX2_search 67 = .ok (.invokevirtual 71, 3) := by decide +kernel
theorem dX2_search_70 : decode cX2_search 70 = .ok (.aload_n 0, 1) := by decide +kernel
theorem dX2_search_71 : decode cX2_search 71 = .ok (.getfield 67, 3) := by decide +kernel
theorem dX2_search_74 : decode cX2_search 74 = .ok (.iconst 1, 1) := by decide +kernel
theorem dX2_search_75 : decode cX2_search 75 = .ok (.if_icmp .eq 8, 3) := by decide +kernel
theorem dX2_search_78 : decode cX2_search 78 = .ok (.iload 4, 2) := by decide +kernel
theorem dX2_search_80 : decode cX2_search 80 = .ok (.ifCond .eq 4, 3) := by decide +kernel
theorem dX2_search_83 : decode cX2_search 83 = .ok (.return_, 1) := by decide +kernel
theorem dX2_search_84 : decode cX2_search 84 = .ok (.aload_n 0, 1) := by decide +kernel
theorem dX2_search_85 : decode cX2_search 85 = .ok (.invokevirtual 77, 3) := by decide +kernel
theorem dX2_search_88 : decode cX2_search 88 = .ok (.aload_n 0, 1) := by decide +kernel
theorem dX2_search_89 : decode cX2_search 89 = .ok (.invokevirtual 80, 3) := by decide +kernel
theorem dX2_search_92 : decode cX2_search 92 = .ok (.iconst 1, 1) := by decide +kernel
theorem dX2_search_93 : decode cX2_search 93 = .ok (.istore 5, 2) := by decide +kernel
theorem dX2_search_95 : decode cX2_search 95 = .ok (.iload 5, 2) := by decide +kernel
theorem dX2_search_97 : decode cX2_search 97 = .ok (.iconst 4, 1) := by decide +kernel
theorem dX2_search_98 : decode cX2_search 98 = .ok (.if_icmp .gt 35, 3) := by decide +kernel
theorem dX2_search_101 : decode cX2_search 101 = .ok (.aload_n 0, 1) := by decide +kernel
theorem dX2_search_102 : decode cX2_search 102 = .ok (.iload 5, 2) := by decide +kernel
theorem dX2_search_104 : decode cX2_search 104 = .ok (.putfield 83, 3) := by decide +kernel
theorem dX2_search_107 : decode cX2_search 107 = .ok (.aload_n 0, 1) := by decide +kernel
theorem dX2_search_108 : decode cX2_search 108 = .ok (.iconst 1, 1) := by decide +kernel
theorem dX2_search_109 : decode cX2_search 109 = .ok (.iconst 0, 1) := by decide +kernel
theorem dX2_search_110 : decode cX2_search 110 = .ok (.invokevirtual 86, 3) := by decide +kernel
theorem dX2_search_113 : decode cX2_search 113 = .ok (.iconst (-1), 1) := by decide +kernel
theorem dX2_search_114 : decode cX2_search 114 = .ok (.if_icmp .ne 13, 3) := by decide +kernel
theorem dX2_search_117 : decode cX2_search 117 = .ok (.aload_n 0, 1) := by decide +kernel
theorem dX2_search_118 : decode cX2_search 118 = .ok (.invokevirtual 90, 3) := by decide +kernel
theorem dX2_search_121 : decode cX2_search 121 = .ok (.aload_n 0, 1) := by decide +kernel
theorem dX2_search_122 : decode cX2_search 122 = .ok (.aload_n 3, 1) := by decide +kernel
theorem dX2_search_123 : decode cX2_search 123 = .ok (.invokevirtual 93, 3) := by decide +kernel
theorem dX2_search_126 : decode cX2_search 126 = .ok (.return_, 1) := by decide +kernel
theorem dX2_search_127 : decode cX2_search 127 = .ok (.iinc 5 1, 3) := by decide +kernel
theorem dX2_search_130 : decode cX2_search 130 = .ok (.goto (-35), 3) := by decide +kernel
theorem dX2_search_133 : decode cX2_search 133 = .ok (.return_, 1) := by decide +kernel
set_option maxRecDepth 20000 in
theorem ggX2_startTree_J7_fill_53178 : GoodIn wsX2_startTree wsJ7_fill_53178 := goodIn_r _ [6] (by decide +kernel) (by decide +kernel)
set_option maxRecDepth 20000 in
theorem gX2_startTree_J7_fill_53178 : GoodIn wsX2_startTree (va_wsS RX2 97 yJ7_fill_53178 wsJ7_fill_53178) := goodIn_app (goodIn_of _ (by decide +kernel)) ggX2_startTree_J7_fill_53178
theorem dX2_startTree_0 : decode cX2_startTree 0 = .ok (.aload_n 0, 1) := by decide +kernel
theorem dX2_startTree_1 : decode cX2_startTree 1 = .ok (.iconst 1, 1) := by decide +kernel
theorem dX2_startTree_2 : decode cX2_startTree 2 = .ok (.putfield 67, 3) := by decide +kernel
theorem dX2_startTree_5 : decode cX2_startTree 5 = .ok (.aload_n 0, 1) := by decide +kernel
theorem dX2_startTree_6 : decode cX2_startTree 6 = .ok (.getfield 21, 3) := by decide +kernel
theorem dX2_startTree_9 : decode cX2_startTree 9 = .ok (.iconst (-1), 1) := by decide +kernel
theorem dX2_startTree_10 : decode cX2_startTree 10 = .ok (.invokestatic 97, 3) := by decide +kernel
theorem dX2_startTree_13 : decode cX2_startTree 13 = .ok (.return_, 1) := by decide +kernel
set_option maxRecDepth 20000 in
theorem ggX2_plantRow_X4_length : GoodIn wsX2_plantRow wsX4_length := goodIn_r _ [6, 7, 8, 48, 49, 50, 51, 52] (by decide +kernel) (by decide +kernel)
set_option maxRecDepth 20000 in
theorem gX2_plantRow_X4_length : GoodIn wsX2_plantRow (wsV RX2 103 RX4 yX4_length wsX4_length) := goodIn_app (goodIn_of _ (by decide +kernel)) ggX2_plantRow_X4_length
set_option maxRecDepth 20000 in
theorem ggX2_plantRow_X4_answerAt : GoodIn wsX2_plantRow wsX4_answerAt := goodIn_r _ [12, 13, 48, 49, 50, 51, 52] (by decide +kernel) (by decide +kernel)
set_option maxRecDepth 20000 in
theorem gX2_plantRow_X4_answerAt : GoodIn wsX2_plantRow (wsV RX2 107 RX4 yX4_answerAt wsX4_answerAt) := goodIn_app (goodIn_of _ (by decide +kernel)) ggX2_plantRow_X4_answerAt
set_option maxRecDepth 20000 in
theorem ggX2_plantRow_X9_codeOf : GoodIn wsX2_plantRow wsX9_codeOf := goodIn_r _ [16] (by decide +kernel) (by decide +kernel)
set_option maxRecDepth 20000 in
theorem gX2_plantRow_X9_codeOf_n110 : GoodIn wsX2_plantRow (wsX9_codeOf) := ggX2_plantRow_X9_codeOf
set_option maxRecDepth 20000 in
theorem ggX2_plantRow_X4_verbAt : GoodIn wsX2_plantRow wsX4_verbAt := goodIn_r _ [20, 21, 48, 49, 50, 51, 52] (by decide +kernel) (by decide +kernel)
set_option maxRecDepth 20000 in
theorem gX2_plantRow_X4_verbAt : GoodIn wsX2_plantRow (wsV RX2 113 RX4 yX4_verbAt wsX4_verbAt) := goodIn_app (goodIn_of _ (by decide +kernel)) ggX2_plantRow_X4_verbAt
set_option maxRecDepth 20000 in
theorem ggX2_plantRow_X2_childOf : GoodIn wsX2_plantRow wsX2_childOf := goodIn_r _ [26, 27, 28, 29, 30, 1, 31, 32, 33, 34, 35, 36, 37, 38, 39, 40, 41, 42, 43, 44, 45, 46, 47] (by decide +kernel) (by decide +kernel)
set_option maxRecDepth 20000 in
theorem gX2_plantRow_X2_childOf : GoodIn wsX2_plantRow (wsV RX2 116 RX2 yX2_childOf wsX2_childOf) := goodIn_app (goodIn_of _ (by decide +kernel)) ggX2_plantRow_X2_childOf
theorem dX2_plantRow_0 : decode cX2_plantRow 0 = .ok (.iconst 0, 1) := by decide +kernel
theorem dX2_plantRow_1 : decode cX2_plantRow 1 = .ok (.istore_n 3, 1) := by decide +kernel
theorem dX2_plantRow_2 : decode cX2_plantRow 2 = .ok (.iconst 0, 1) := by decide +kernel
theorem dX2_plantRow_3 : decode cX2_plantRow 3 = .ok (.istore 4, 2) := by decide +kernel
theorem dX2_plantRow_5 : decode cX2_plantRow 5 = .ok (.iload 4, 2) := by decide +kernel
theorem dX2_plantRow_7 : decode cX2_plantRow 7 = .ok (.aload_n 1, 1) := by decide +kernel
theorem dX2_plantRow_8 : decode cX2_plantRow 8 = .ok (.iload_n 2, 1) := by decide +kernel
theorem dX2_plantRow_9 : decode cX2_plantRow 9 = .ok (.invokevirtual 103, 3) := by decide +kernel
theorem dX2_plantRow_12 : decode cX2_plantRow 12 = .ok (.if_icmp .ge 49, 3) := by decide +kernel
theorem dX2_plantRow_15 : decode cX2_plantRow 15 = .ok (.aload_n 1, 1) := by decide +kernel
theorem dX2_plantRow_16 : decode cX2_plantRow 16 = .ok (.iload_n 2, 1) := by decide +kernel
theorem dX2_plantRow_17 : decode cX2_plantRow 17 = .ok (.iload 4, 2) := by decide +kernel
theorem dX2_plantRow_19 : decode cX2_plantRow 19 = .ok (.invokevirtual 107, 3) := by decide +kernel
theorem dX2_plantRow_22 : decode cX2_plantRow 22 = .ok (.invokestatic 110, 3) := by decide +kernel
theorem dX2_plantRow_25 : decode cX2_plantRow 25 = .ok (.istore 5, 2) := by decide +kernel
theorem dX2_plantRow_27 : decode cX2_plantRow 27 = .ok (.aload_n 0, 1) := by decide +kernel
theorem dX2_plantRow_28 : decode cX2_plantRow 28 = .ok (.iload_n 3, 1) := by decide +kernel
theorem dX2_plantRow_29 : decode cX2_plantRow 29 = .ok (.aload_n 1, 1) := by decide +kernel
theorem dX2_plantRow_30 : decode cX2_plantRow 30 = .ok (.iload_n 2, 1) := by decide +kernel
theorem dX2_plantRow_31 : decode cX2_plantRow 31 = .ok (.iload 4, 2) := by decide +kernel
theorem dX2_plantRow_33 : decode cX2_plantRow 33 = .ok (.invokevirtual 113, 3) := by decide +kernel
theorem dX2_plantRow_36 : decode cX2_plantRow 36 = .ok (.iload 5, 2) := by decide +kernel
theorem dX2_plantRow_38 : decode cX2_plantRow 38 = .ok (.invokevirtual 116, 3) := by decide +kernel
theorem dX2_plantRow_41 : decode cX2_plantRow 41 = .ok (.istore_n 3, 1) := by decide +kernel
theorem dX2_plantRow_42 : decode cX2_plantRow 42 = .ok (.aload_n 0, 1) := by decide +kernel
theorem dX2_plantRow_43 : decode cX2_plantRow 43 = .ok (.getfield 18, 3) := by decide +kernel
theorem dX2_plantRow_46 : decode cX2_plantRow 46 = .ok (.iload_n 3, 1) := by decide +kernel
theorem dX2_plantRow_47 : decode cX2_plantRow 47 = .ok (.iaload, 1) := by decide +kernel
theorem dX2_plantRow_48 : decode cX2_plantRow 48 = .ok (.iload 5, 2) := by decide +kernel
theorem dX2_plantRow_50 : decode cX2_plantRow 50 = .ok (.if_icmp .eq 5, 3) := by decide +kernel
theorem dX2_plantRow_53 : decode cX2_plantRow 53 = .ok (.iconst 0, 1) := by decide +kernel
theorem dX2_plantRow_54 : decode cX2_plantRow 54 = .ok (.ireturn, 1) := by decide +kernel
theorem dX2_plantRow_55 : decode cX2_plantRow 55 = .ok (.iinc 4 1, 3) := by decide +kernel
theorem dX2_plantRow_58 : decode cX2_plantRow 58 = .ok (.goto (-53), 3) := by decide +kernel
theorem dX2_plantRow_61 : decode cX2_plantRow 61 = .ok (.iconst 1, 1) := by decide +kernel
theorem dX2_plantRow_62 : decode cX2_plantRow 62 = .ok (.ireturn, 1) := by decide +kernel
theorem dX2_childOf_0 : decode cX2_childOf 0 = .ok (.iload_n 1, 1) := by decide +kernel
theorem dX2_childOf_1 : decode cX2_childOf 1 = .ok (.iconst 3, 1) := by decide +kernel
theorem dX2_childOf_2 : decode cX2_childOf 2 = .ok (.imul, 1) := by decide +kernel
theorem dX2_childOf_3 : decode cX2_childOf 3 = .ok (.iload_n 2, 1) := by decide +kernel
theorem dX2_childOf_4 : decode cX2_childOf 4 = .ok (.iadd, 1) := by decide +kernel
theorem dX2_childOf_5 : decode cX2_childOf 5 = .ok (.istore 4, 2) := by decide +kernel
theorem dX2_childOf_7 : decode cX2_childOf 7 = .ok (.aload_n 0, 1) := by decide +kernel
theorem dX2_childOf_8 : decode cX2_childOf 8 = .ok (.getfield 21, 3) := by decide +kernel
theorem dX2_childOf_11 : decode cX2_childOf 11 = .ok (.iload 4, 2) := by decide +kernel
theorem dX2_childOf_13 : decode cX2_childOf 13 = .ok (.iaload, 1) := by decide +kernel
theorem dX2_childOf_14 : decode cX2_childOf 14 = .ok (.iconst (-1), 1) := by decide +kernel
theorem dX2_childOf_15 : decode cX2_childOf 15 = .ok (.if_icmp .eq 11, 3) := by decide +kernel
theorem dX2_childOf_18 : decode cX2_childOf 18 = .ok (.aload_n 0, 1) := by decide +kernel
theorem dX2_childOf_19 : decode cX2_childOf 19 = .ok (.getfield 21, 3) := by decide +kernel
theorem dX2_childOf_22 : decode cX2_childOf 22 = .ok (.iload 4, 2) := by decide +kernel
theorem dX2_childOf_24 : decode cX2_childOf 24 = .ok (.iaload, 1) := by decide +kernel
theorem dX2_childOf_25 : decode cX2_childOf 25 = .ok (.ireturn, 1) := by decide +kernel
theorem dX2_childOf_26 : decode cX2_childOf 26 = .ok (.aload_n 0, 1) := by decide +kernel
theorem dX2_childOf_27 : decode cX2_childOf 27 = .ok (.getfield 67, 3) := by decide +kernel
theorem dX2_childOf_30 : decode cX2_childOf 30 = .ok (.bipush 97, 2) := by decide +kernel
theorem dX2_childOf_32 : decode cX2_childOf 32 = .ok (.if_icmp .lt 5, 3) := by decide +kernel
theorem dX2_childOf_35 : decode cX2_childOf 35 = .ok (.iconst 0, 1) := by decide +kernel
theorem dX2_childOf_36 : decode cX2_childOf 36 = .ok (.ireturn, 1) := by decide +kernel
theorem dX2_childOf_37 : decode cX2_childOf 37 = .ok (.aload_n 0, 1) := by decide +kernel
theorem dX2_childOf_38 : decode cX2_childOf 38 = .ok (.getfield 11, 3) := by decide +kernel
theorem dX2_childOf_41 : decode cX2_childOf 41 = .ok (.aload_n 0, 1) := by decide +kernel
theorem dX2_childOf_42 : decode cX2_childOf 42 = .ok (.getfield 67, 3) := by decide +kernel
theorem dX2_childOf_45 : decode cX2_childOf 45 = .ok (.iload_n 1, 1) := by decide +kernel
theorem dX2_childOf_46 : decode cX2_childOf 46 = .ok (.iastore, 1) := by decide +kernel
theorem dX2_childOf_47 : decode cX2_childOf 47 = .ok (.aload_n 0, 1) := by decide +kernel
theorem dX2_childOf_48 : decode cX2_childOf 48 = .ok (.getfield 15, 3) := by decide +kernel
theorem dX2_childOf_51 : decode cX2_childOf 51 = .ok (.aload_n 0, 1) := by decide +kernel
theorem dX2_childOf_52 : decode cX2_childOf 52 = .ok (.getfield 67, 3) := by decide +kernel
theorem dX2_childOf_55 : decode cX2_childOf 55 = .ok (.iload_n 2, 1) := by decide +kernel
theorem dX2_childOf_56 : decode cX2_childOf 56 = .ok (.iastore, 1) := by decide +kernel
theorem dX2_childOf_57 : decode cX2_childOf 57 = .ok (.aload_n 0, 1) := by decide +kernel
theorem dX2_childOf_58 : decode cX2_childOf 58 = .ok (.getfield 18, 3) := by decide +kernel
theorem dX2_childOf_61 : decode cX2_childOf 61 = .ok (.aload_n 0, 1) := by decide +kernel
theorem dX2_childOf_62 : decode cX2_childOf 62 = .ok (.getfield 67, 3) := by decide +kernel
theorem dX2_childOf_65 : decode cX2_childOf 65 = .ok (.iload_n 3, 1) := by decide +kernel
theorem dX2_childOf_66 : decode cX2_childOf 66 = .ok (.iastore, 1) := by decide +kernel
theorem dX2_childOf_67 : decode cX2_childOf 67 = .ok (.aload_n 0, 1) := by decide +kernel
theorem dX2_childOf_68 : decode cX2_childOf 68 = .ok (.getfield 21, 3) := by decide +kernel
theorem dX2_childOf_71 : decode cX2_childOf 71 = .ok (.iload 4, 2) := by decide +kernel
theorem dX2_childOf_73 : decode cX2_childOf 73 = .ok (.aload_n 0, 1) := by decide +kernel
theorem dX2_childOf_74 : decode cX2_childOf 74 = .ok (.getfield 67, 3) := by decide +kernel
theorem dX2_childOf_77 : decode cX2_childOf 77 = .ok (.iastore, 1) := by decide +kernel
theorem dX2_childOf_78 : decode cX2_childOf 78 = .ok (.aload_n 0, 1) := by decide +kernel
theorem dX2_childOf_79 : decode cX2_childOf 79 = .ok (.dup, 1) := by decide +kernel
theorem dX2_childOf_80 : decode cX2_childOf 80 = .ok (.getfield 67, 3) := by decide +kernel
theorem dX2_childOf_83 : decode cX2_childOf 83 = .ok (.iconst 1, 1) := by decide +kernel
theorem dX2_childOf_84 : decode cX2_childOf 84 = .ok (.iadd, 1) := by decide +kernel
theorem dX2_childOf_85 : decode cX2_childOf 85 = .ok (.putfield 67, 3) := by decide +kernel
theorem dX2_childOf_88 : decode cX2_childOf 88 = .ok (.aload_n 0, 1) := by decide +kernel
theorem dX2_childOf_89 : decode cX2_childOf 89 = .ok (.getfield 67, 3) := by decide +kernel
theorem dX2_childOf_92 : decode cX2_childOf 92 = .ok (.iconst 1, 1) := by decide +kernel
theorem dX2_childOf_93 : decode cX2_childOf 93 = .ok (.isub, 1) := by decide +kernel
theorem dX2_childOf_94 : decode cX2_childOf 94 = .ok (.ireturn, 1) := by decide +kernel
set_option maxRecDepth 20000 in
theorem ggX2_weighNodes_J7_fill_53178 : GoodIn wsX2_weighNodes wsJ7_fill_53178 := goodIn_r _ [10] (by decide +kernel) (by decide +kernel)
set_option maxRecDepth 20000 in
theorem gX2_weighNodes_J7_fill_53178 : GoodIn wsX2_weighNodes (va_wsS RX2 97 yJ7_fill_53178 wsJ7_fill_53178) := goodIn_app (goodIn_of _ (by decide +kernel)) ggX2_weighNodes_J7_fill_53178
set_option maxRecDepth 20000 in
theorem ggX2_weighNodes_X2_rarity : GoodIn wsX2_weighNodes wsX2_rarity := goodIn_r _ [15, 1, 16, 17, 18, 19, 20, 21, 22, 23, 24, 25, 26, 27, 28, 29, 30, 31, 32, 33] (by decide +kernel) (by decide +kernel)
set_option maxRecDepth 20000 in
theorem gX2_weighNodes_X2_rarity : GoodIn wsX2_weighNodes (wsV RX2 120 RX2 yX2_rarity wsX2_rarity) := goodIn_app (goodIn_of _ (by decide +kernel)) ggX2_weighNodes_X2_rarity
theorem dX2_weighNodes_0 : decode cX2_weighNodes 0 = .ok (.aload_n 0, 1) := by decide +kernel
theorem dX2_weighNodes_1 : decode cX2_weighNodes 1 = .ok (.getfield 24, 3) := by decide +kernel
theorem dX2_weighNodes_4 : decode cX2_weighNodes 4 = .ok (.iconst 0, 1) := by decide +kernel
theorem dX2_weighNodes_5 : decode cX2_weighNodes 5 = .ok (.invokestatic 97, 3) := by decide +kernel
theorem dX2_weighNodes_8 : decode cX2_weighNodes 8 = .ok (.aload_n 0, 1) := by decide +kernel
theorem dX2_weighNodes_9 : decode cX2_weighNodes 9 = .ok (.getfield 27, 3) := by decide +kernel
theorem dX2_weighNodes_12 : decode cX2_weighNodes 12 = .ok (.iconst 0, 1) := by decide +kernel
theorem dX2_weighNodes_13 : decode cX2_weighNodes 13 = .ok (.invokestatic 97, 3) := by decide +kernel
theorem dX2_weighNodes_16 : decode cX2_weighNodes 16 = .ok (.iconst 1, 1) := by decide +kernel
theorem dX2_weighNodes_17 : decode cX2_weighNodes 17 = .ok (.istore_n 1, 1) := by decide +kernel
theorem dX2_weighNodes_18 : decode cX2_weighNodes 18 = .ok (.iload_n 1, 1) := by decide +kernel
theorem dX2_weighNodes_19 : decode cX2_weighNodes 19 = .ok (.aload_n 0, 1) := by decide +kernel
theorem dX2_weighNodes_20 : decode cX2_weighNodes 20 = .ok (.getfield 67, 3) := by decide +kernel
theorem dX2_weighNodes_23 : decode cX2_weighNodes 23 = .ok (.if_icmp .ge 33, 3) := by decide +kernel
theorem dX2_weighNodes_26 : decode cX2_weighNodes 26 = .ok (.aload_n 0, 1) := by decide +kernel
theorem dX2_weighNodes_27 : decode cX2_weighNodes 27 = .ok (.getfield 24, 3) := by decide +kernel
theorem dX2_weighNodes_30 : decode cX2_weighNodes 30 = .ok (.aload_n 0, 1) := by decide +kernel
theorem dX2_weighNodes_31 : decode cX2_weighNodes 31 = .ok (.getfield 15, 3) := by decide +kernel
theorem dX2_weighNodes_34 : decode cX2_weighNodes 34 = .ok (.iload_n 1, 1) := by decide +kernel
theorem dX2_weighNodes_35 : decode cX2_weighNodes 35 = .ok (.iaload, 1) := by decide +kernel
theorem dX2_weighNodes_36 : decode cX2_weighNodes 36 = .ok (.iconst 4, 1) := by decide +kernel
theorem dX2_weighNodes_37 : decode cX2_weighNodes 37 = .ok (.imul, 1) := by decide +kernel
theorem dX2_weighNodes_38 : decode cX2_weighNodes 38 = .ok (.aload_n 0, 1) := by decide +kernel
theorem dX2_weighNodes_39 : decode cX2_weighNodes 39 = .ok (.getfield 18, 3) := by decide +kernel
theorem dX2_weighNodes_42 : decode cX2_weighNodes 42 = .ok (.iload_n 1, 1) := by decide +kernel
theorem dX2_weighNodes_43 : decode cX2_weighNodes 43 = .ok (.iaload, 1) := by decide +kernel
theorem dX2_weighNodes_44 : decode cX2_weighNodes 44 = .ok (.iadd, 1) := by decide +kernel
theorem dX2_weighNodes_45 : decode cX2_weighNodes 45 = .ok (.dup2, 1) := by decide +kernel
theorem dX2_weighNodes_46 : decode cX2_weighNodes 46 = .ok (.iaload, 1) := by decide +kernel
theorem dX2_weighNodes_47 : decode cX2_weighNodes 47 = .ok (.iconst 1, 1) := by decide +kernel
theorem dX2_weighNodes_48 : decode cX2_weighNodes 48 = .ok (.iadd, 1) := by decide +kernel
theorem dX2_weighNodes_49 : decode cX2_weighNodes 49 = .ok (.iastore, 1) := by decide +kernel
theorem dX2_weighNodes_50 : decode cX2_weighNodes 50 = .ok (.iinc 1 1, 3) := by decide +kernel
theorem dX2_weighNodes_53 : decode cX2_weighNodes 53 = .ok (.goto (-35), 3) := by decide +kernel
theorem dX2_weighNodes_56 : decode cX2_weighNodes 56 = .ok (.aload_n 0, 1) := by decide +kernel
theorem dX2_weighNodes_57 : decode cX2_weighNodes 57 = .ok (.getfield 67, 3) := by decide +kernel
theorem dX2_weighNodes_60 : decode cX2_weighNodes 60 = .ok (.iconst 1, 1) := by decide +kernel
theorem dX2_weighNodes_61 : decode cX2_weighNodes 61 = .ok (.isub, 1) := by decide +kernel
theorem dX2_weighNodes_62 : decode cX2_weighNodes 62 = .ok (.istore_n 1, 1) := by decide +kernel
theorem dX2_weighNodes_63 : decode cX2_weighNodes 63 = .ok (.iload_n 1, 1) := by decide +kernel
theorem dX2_weighNodes_64 : decode cX2_weighNodes 64 = .ok (.ifCond .le 50, 3) := by decide +kernel
theorem dX2_weighNodes_67 : decode cX2_weighNodes 67 = .ok (.aload_n 0, 1) := by decide +kernel
theorem dX2_weighNodes_68 : decode cX2_weighNodes 68 = .ok (.getfield 27, 3) := by decide +kernel
theorem dX2_weighNodes_71 : decode cX2_weighNodes 71 = .ok (.aload_n 0, 1) := by decide +kernel
theorem dX2_weighNodes_72 : decode cX2_weighNodes 72 = .ok (.getfield 11, 3) := by decide +kernel
theorem dX2_weighNodes_75 : decode cX2_weighNodes 75 = .ok (.iload_n 1, 1) := by decide +kernel
theorem dX2_weighNodes_76 : decode cX2_weighNodes 76 = .ok (.iaload, 1) := by decide +kernel
theorem dX2_weighNodes_77 : decode cX2_weighNodes 77 = .ok (.dup2, 1) := by decide +kernel
theorem dX2_weighNodes_78 : decode cX2_weighNodes 78 = .ok (.iaload, 1) := by decide +kernel
theorem dX2_weighNodes_79 : decode cX2_weighNodes 79 = .ok (.aload_n 0, 1) := by decide +kernel
theorem dX2_weighNodes_80 : decode cX2_weighNodes 80 = .ok (.aload_n 0, 1) := by decide +kernel
theorem dX2_weighNodes_81 : decode cX2_weighNodes 81 = .ok (.getfield 15, 3) := by decide +kernel
theorem dX2_weighNodes_84 : decode cX2_weighNodes 84 = .ok (.iload_n 1, 1) := by decide +kernel
theorem dX2_weighNodes_85 : decode cX2_weighNodes 85 = .ok (.iaload, 1) := by decide +kernel
theorem dX2_weighNodes_86 : decode cX2_weighNodes 86 = .ok (.aload_n 0, 1) := by decide +kernel
theorem dX2_weighNodes_87 : decode cX2_weighNodes 87 = .ok (.getfield 18, 3) := by decide +kernel
theorem dX2_weighNodes_90 : decode cX2_weighNodes 90 = .ok (.iload_n 1, 1) := by decide +kernel
theorem dX2_weighNodes_91 : decode cX2_weighNodes 91 = .ok (.iaload, 1) := by decide +kernel
theorem dX2_weighNodes_92 : decode cX2_weighNodes 92 = .ok (.invokevirtual 120, 3) := by decide +kernel
theorem dX2_weighNodes_95 : decode cX2_weighNodes 95 = .ok (.aload_n 0, 1) := by decide +kernel
theorem dX2_weighNodes_96 : decode cX2_weighNodes 96 = .ok (.getfield 27, 3) := by decide +kernel
theorem dX2_weighNodes_99 : decode cX2_weighNodes 99 = .ok (.iload_n 1, 1) := by decide +kernel
theorem dX2_weighNodes_100 : decode cX2_weighNodes 100 = .ok (.iaload, 1) := by decide +kernel
theorem dX2_weighNodes_101 : decode cX2_weighNodes 101 = .ok (.iconst 2, 1) := by decide +kernel
theorem dX2_weighNodes_102 : decode cX2_weighNodes 102 = .ok (.imul, 1) := by decide +kernel
theorem dX2_weighNodes_103 : decode cX2_weighNodes 103 = .ok (.iconst 3, 1) := by decide +kernel
theorem dX2_weighNodes_104 : decode cX2_weighNodes 104 = .ok (.idiv, 1) := by decide +kernel
theorem dX2_weighNodes_105 : decode cX2_weighNodes 105 = .ok (.iadd, 1) := by decide +kernel
theorem dX2_weighNodes_106 : decode cX2_weighNodes 106 = .ok (.iadd, 1) := by decide +kernel
theorem dX2_weighNodes_107 : decode cX2_weighNodes 107 = .ok (.iastore, 1) := by decide +kernel
theorem dX2_weighNodes_108 : decode cX2_weighNodes 108 = .ok (.iinc 1 (-1), 3) := by decide +kernel
theorem dX2_weighNodes_111 : decode cX2_weighNodes 111 = .ok (.goto (-48), 3) := by decide +kernel
theorem dX2_weighNodes_114 : decode cX2_weighNodes 114 = .ok (.return_, 1) := by decide +kernel
theorem dX2_rarity_0 : decode cX2_rarity 0 = .ok (.iconst 0, 1) := by decide +kernel
theorem dX2_rarity_1 : decode cX2_rarity 1 = .ok (.istore_n 3, 1) := by decide +kernel
theorem dX2_rarity_2 : decode cX2_rarity 2 = .ok (.iconst 0, 1) := by decide +kernel
theorem dX2_rarity_3 : decode cX2_rarity 3 = .ok (.istore 4, 2) := by decide +kernel
theorem dX2_rarity_5 : decode cX2_rarity 5 = .ok (.iload 4, 2) := by decide +kernel
theorem dX2_rarity_7 : decode cX2_rarity 7 = .ok (.iconst 4, 1) := by decide +kernel
theorem dX2_rarity_8 : decode cX2_rarity 8 = .ok (.if_icmp .ge 23, 3) := by decide +kernel
theorem dX2_rarity_11 : decode cX2_rarity 11 = .ok (.iload_n 3, 1) := by decide +kernel
theorem dX2_rarity_12 : decode cX2_rarity 12 = .ok (.aload_n 0, 1) := by decide +kernel
theorem dX2_rarity_13 : decode cX2_rarity 13 = .ok (.getfield 24, 3) := by decide +kernel
theorem dX2_rarity_16 : decode cX2_rarity 16 = .ok (.iload_n 1, 1) := by decide +kernel
theorem dX2_rarity_17 : decode cX2_rarity 17 = .ok (.iconst 4, 1) := by decide +kernel
theorem dX2_rarity_18 : decode cX2_rarity 18 = .ok (.imul, 1) := by decide +kernel
theorem dX2_rarity_19 : decode cX2_rarity 19 = .ok (.iload 4, 2) := by decide +kernel
theorem dX2_rarity_21 : decode cX2_rarity 21 = .ok (.iadd, 1) := by decide +kernel
theorem dX2_rarity_22 : decode cX2_rarity 22 = .ok (.iaload, 1) := by decide +kernel
theorem dX2_rarity_23 : decode cX2_rarity 23 = .ok (.iadd, 1) := by decide +kernel
theorem dX2_rarity_24 : decode cX2_rarity 24 = .ok (.istore_n 3, 1) := by decide +kernel
theorem dX2_rarity_25 : decode cX2_rarity 25 = .ok (.iinc 4 1, 3) := by decide +kernel
theorem dX2_rarity_28 : decode cX2_rarity 28 = .ok (.goto (-23), 3) := by decide +kernel
theorem dX2_rarity_31 : decode cX2_rarity 31 = .ok (.aload_n 0, 1) := by decide +kernel
theorem dX2_rarity_32 : decode cX2_rarity 32 = .ok (.getfield 24, 3) := by decide +kernel
theorem dX2_rarity_35 : decode cX2_rarity 35 = .ok (.iload_n 1, 1) := by decide +kernel
theorem dX2_rarity_36 : decode cX2_rarity 36 = .ok (.iconst 4, 1) := by decide +kernel
theorem dX2_rarity_37 : decode cX2_rarity 37 = .ok (.imul, 1) := by decide +kernel
theorem dX2_rarity_38 : decode cX2_rarity 38 = .ok (.iload_n 2, 1) := by decide +kernel
theorem dX2_rarity_39 : decode cX2_rarity 39 = .ok (.iadd, 1) := by decide +kernel
theorem dX2_rarity_40 : decode cX2_rarity 40 = .ok (.iaload, 1) := by decide +kernel
theorem dX2_rarity_41 : decode cX2_rarity 41 = .ok (.istore 4, 2) := by decide +kernel
theorem dX2_rarity_43 : decode cX2_rarity 43 = .ok (.iload 4, 2) := by decide +kernel
theorem dX2_rarity_45 : decode cX2_rarity 45 = .ok (.ifCond .le 20, 3) := by decide +kernel
theorem dX2_rarity_48 : decode cX2_rarity 48 = .ok (.iload_n 3, 1) := by decide +kernel
theorem dX2_rarity_49 : decode cX2_rarity 49 = .ok (.ifCond .le 16, 3) := by decide +kernel
theorem dX2_rarity_52 : decode cX2_rarity 52 = .ok (.ldc 123, 2) := by decide +kernel
theorem dX2_rarity_54 : decode cX2_rarity 54 = .ok (.iload 4, 2) := by decide +kernel
theorem dX2_rarity_56 : decode cX2_rarity 56 = .ok (.idiv, 1) := by decide +kernel
theorem dX2_rarity_57 : decode cX2_rarity 57 = .ok (.ldc 123, 2) := by decide +kernel
theorem dX2_rarity_59 : decode cX2_rarity 59 = .ok (.iload_n 3, 1) := by decide +kernel
theorem dX2_rarity_60 : decode cX2_rarity 60 = .ok (.idiv, 1) := by decide +kernel
theorem dX2_rarity_61 : decode cX2_rarity 61 = .ok (.isub, 1) := by decide +kernel
theorem dX2_rarity_62 : decode cX2_rarity 62 = .ok (.goto 4, 3) := by decide +kernel
theorem dX2_rarity_65 : decode cX2_rarity 65 = .ok (.iconst 0, 1) := by decide +kernel
theorem dX2_rarity_66 : decode cX2_rarity 66 = .ok (.ireturn, 1) := by decide +kernel
set_option maxRecDepth 20000 in
theorem ggX2_startMoves_J7_fill_53178 : GoodIn wsX2_startMoves wsJ7_fill_53178 := goodIn_r _ [8] (by decide +kernel) (by decide +kernel)
set_option maxRecDepth 20000 in
theorem gX2_startMoves_J7_fill_53178 : GoodIn wsX2_startMoves (va_wsS RX2 97 yJ7_fill_53178 wsJ7_fill_53178) := goodIn_app (goodIn_of _ (by decide +kernel)) ggX2_startMoves_J7_fill_53178
set_option maxRecDepth 20000 in
theorem ggX2_startMoves_X2_enter : GoodIn wsX2_startMoves wsX2_enter := goodIn_r _ [13, 14, 15, 16, 4, 17, 2, 18, 19, 3, 20, 21, 22, 23, 24, 25, 26, 27, 28, 29, 30, 31, 32, 33, 34, 35, 36, 37, 38, 39] (by decide +kernel) (by decide +kernel)
set_option maxRecDepth 20000 in
theorem gX2_startMoves_X2_enter : GoodIn wsX2_startMoves (wsV RX2 127 RX2 yX2_enter wsX2_enter) := goodIn_app (goodIn_of _ (by decide +kernel)) ggX2_startMoves_X2_enter
theorem dX2_startMoves_0 : decode cX2_startMoves 0 = .ok (.aload_n 0, 1) := by decide +kernel
theorem dX2_startMoves_1 : decode cX2_startMoves 1 = .ok (.getfield 42, 3) := by decide +kernel
theorem dX2_startMoves_4 : decode cX2_startMoves 4 = .ok (.iconst (-1), 1) := by decide +kernel
theorem dX2_startMoves_5 : decode cX2_startMoves 5 = .ok (.invokestatic 97, 3) := by decide +kernel
theorem dX2_startMoves_8 : decode cX2_startMoves 8 = .ok (.aload_n 0, 1) := by decide +kernel
theorem dX2_startMoves_9 : decode cX2_startMoves 9 = .ok (.getfield 48, 3) := by decide +kernel
theorem dX2_startMoves_12 : decode cX2_startMoves 12 = .ok (.iconst 0, 1) := by decide +kernel
theorem dX2_startMoves_13 : decode cX2_startMoves 13 = .ok (.invokestatic 97, 3) := by decide +kernel
theorem dX2_startMoves_16 : decode cX2_startMoves 16 = .ok (.aload_n 0, 1) := by decide +kernel
theorem dX2_startMoves_17 : decode cX2_startMoves 17 = .ok (.getfield 51, 3) := by decide +kernel
theorem dX2_startMoves_20 : decode cX2_startMoves 20 = .ok (.iconst 0, 1) := by decide +kernel
theorem dX2_startMoves_21 : decode cX2_startMoves 21 = .ok (.invokestatic 97, 3) := by decide +kernel
theorem dX2_startMoves_24 : decode cX2_startMoves 24 = .ok (.aload_n 0, 1) := by decide +kernel
theorem dX2_startMoves_25 : decode cX2_startMoves 25 = .ok (.iconst 0, 1) := by decide +kernel
theorem dX2_startMoves_26 : decode cX2_startMoves 26 = .ok (.putfield 124, 3) := by decide +kernel
theorem dX2_startMoves_29 : decode cX2_startMoves 29 = .ok (.aload_n 0, 1) := by decide +kernel
theorem dX2_startMoves_30 : decode cX2_startMoves 30 = .ok (.iconst 0, 1) := by decide +kernel
theorem dX2_startMoves_31 : decode cX2_startMoves 31 = .ok (.iconst 0, 1) := by decide +kernel
theorem dX2_startMoves_32 : decode cX2_startMoves 32 = .ok (.iconst 0, 1) := by decide +kernel
theorem dX2_startMoves_33 : decode cX2_startMoves 33 = .ok (.invokevirtual 127, 3) := by decide +kernel
theorem dX2_startMoves_36 : decode cX2_startMoves 36 = .ok (.pop, 1) := by decide +kernel
theorem dX2_startMoves_37 : decode cX2_startMoves 37 = .ok (.return_, 1) := by decide +kernel
set_option maxRecDepth 20000 in
theorem ggX2_solve_X2_heaviestOpenMove : GoodIn wsX2_solve wsX2_heaviestOpenMove := goodIn_r _ [11, 12, 13, 39, 40, 41, 42, 43, 44, 45, 46, 47, 48, 49, 50, 51, 52, 53, 54, 55] (by decide +kernel) (by decide +kernel)
set_option maxRecDepth 20000 in
theorem gX2_solve_X2_heaviestOpenMove : GoodIn wsX2_solve (wsV RX2 130 RX2 yX2_heaviestOpenMove wsX2_heaviestOpenMove) := goodIn_app (goodIn_of _ (by decide +kernel)) ggX2_solve_X2_heaviestOpenMove
set_option maxRecDepth 20000 in
theorem ggX2_solve_X2_settle : GoodIn wsX2_solve wsX2_settle := goodIn_r _ [17, 1, 18, 12, 19, 20, 21, 22, 23, 24, 25, 26, 10, 27, 28, 29, 30, 13, 31, 39, 40, 41, 42, 43, 44, 45, 46, 47, 48, 49, 50, 51, 52, 53, 54, 55] (by decide +kernel) (by decide +kernel)
set_option maxRecDepth 20000 in
theorem gX2_solve_X2_settle : GoodIn wsX2_solve (wsV RX2 133 RX2 yX2_settle wsX2_settle) := goodIn_app (goodIn_of _ (by decide +kernel)) ggX2_solve_X2_settle
set_option maxRecDepth 20000 in
theorem ggX2_solve_X2_solve : GoodIn wsX2_solve wsX2_solve := goodIn_r _ [0, 1, 2, 3, 4, 5, 6, 7, 8, 9, 10, 11, 12, 13, 14, 15, 16, 17, 18, 19, 20, 21, 22, 23, 24, 25, 26, 27, 28, 29, 30, 31, 32, 33, 34, 35, 36, 37, 38, 39, 40, 41, 42, 43, 44, 45, 46, 47, 48, 49, 50, 51, 52, 53, 54, 55] (by decide +kernel) (by decide +kernel)
set_option maxRecDepth 20000 in
theorem gX2_solve_X2_solve : GoodIn wsX2_solve (wsV RX2 86 RX2 yX2_solve wsX2_solve) := goodIn_app (goodIn_of _ (by decide +kernel)) ggX2_solve_X2_solve
set_option maxRecDepth 20000 in
theorem ggX2_solve_X2_unsettle : GoodIn wsX2_solve wsX2_unsettle := goodIn_r _ [38, 1, 22, 18, 23, 13, 31, 12, 39, 40, 41, 42, 43, 44, 45, 46, 47, 48, 49, 50, 51, 52, 53, 54, 55] (by decide +kernel) (by decide +kernel)
set_option maxRecDepth 20000 in
theorem gX2_solve_X2_unsettle : GoodIn wsX2_solve (wsV RX2 141 RX2 yX2_unsettle wsX2_unsettle) := goodIn_app (goodIn_of _ (by decide +kernel)) ggX2_solve_X2_unsettle
theorem dX2_solve_0 : decode cX2_solve 0 = .ok (.aload_n 0, 1) := by decide +kernel
theorem dX2_solve_1 : decode cX2_solve 1 = .ok (.invokevirtual 130, 3) := by decide +kernel
theorem dX2_solve_4 : decode cX2_solve 4 = .ok (.istore_n 3, 1) := by decide +kernel
theorem dX2_solve_5 : decode cX2_solve 5 = .ok (.iload_n 3, 1) := by decide +kernel
theorem dX2_solve_6 : decode cX2_solve 6 = .ok (.iconst (-1), 1) := by decide +kernel
theorem dX2_solve_7 : decode cX2_solve 7 = .ok (.if_icmp .ne 5, 3) := by decide +kernel
theorem dX2_solve_10 : decode cX2_solve 10 = .ok (.iconst (-1), 1) := by decide +kernel
theorem dX2_solve_11 : decode cX2_solve 11 = .ok (.ireturn, 1) := by decide +kernel
theorem dX2_solve_12 : decode cX2_solve 12 = .ok (.iload_n 2, 1) := by decide +kernel
theorem dX2_solve_13 : decode cX2_solve 13 = .ok (.bipush 12, 2) := by decide +kernel
theorem dX2_solve_15 : decode cX2_solve 15 = .ok (.if_icmp .lt 5, 3) := by decide +kernel
theorem dX2_solve_18 : decode cX2_solve 18 = .ok (.iconst 0, 1) := by decide +kernel
theorem dX2_solve_19 : decode cX2_solve 19 = .ok (.ireturn, 1) := by decide +kernel
theorem dX2_solve_20 : decode cX2_solve 20 = .ok (.iconst 1, 1) := by decide +kernel
theorem dX2_solve_21 : decode cX2_solve 21 = .ok (.iload_n 3, 1) := by decide +kernel
theorem dX2_solve_22 : decode cX2_solve 22 = .ok (.ishl, 1) := by decide +kernel
theorem dX2_solve_23 : decode cX2_solve 23 = .ok (.istore 4, 2) := by decide +kernel
theorem dX2_solve_25 : decode cX2_solve 25 = .ok (.aload_n 0, 1) := by decide +kernel
theorem dX2_solve_26 : decode cX2_solve 26 = .ok (.getfield 124, 3) := by decide +kernel
theorem dX2_solve_29 : decode cX2_solve 29 = .ok (.istore 5, 2) := by decide +kernel
theorem dX2_solve_31 : decode cX2_solve 31 = .ok (.iconst 0, 1) := by decide +kernel
theorem dX2_solve_32 : decode cX2_solve 32 = .ok (.istore 6, 2) := by decide +kernel
theorem dX2_solve_34 : decode cX2_solve 34 = .ok (.iconst 0, 1) := by decide +kernel
theorem dX2_solve_35 : decode cX2_solve 35 = .ok (.istore 7, 2) := by decide +kernel
theorem dX2_solve_37 : decode cX2_solve 37 = .ok (.iload 7, 2) := by decide +kernel
theorem dX2_solve_39 : decode cX2_solve 39 = .ok (.aload_n 0, 1) := by decide +kernel
theorem dX2_solve_40 : decode cX2_solve 40 = .ok (.getfield 83, 3) := by decide +kernel
theorem dX2_solve_43 : decode cX2_solve 43 = .ok (.if_icmp .ge 78, 3) := by decide +kernel
theorem dX2_solve_46 : decode cX2_solve 46 = .ok (.iload 7, 2) := by decide +kernel
theorem dX2_solve_48 : decode cX2_solve 48 = .ok (.iload_n 1, 1) := by decide +kernel
theorem dX2_solve_49 : decode cX2_solve 49 = .ok (.if_icmp .gt 72, 3) := by decide +kernel
theorem dX2_solve_52 : decode cX2_solve 52 = .ok (.aload_n 0, 1) := by decide +kernel
theorem dX2_solve_53 : decode cX2_solve 53 = .ok (.iload_n 3, 1) := by decide +kernel
theorem dX2_solve_54 : decode cX2_solve 54 = .ok (.iload 7, 2) := by decide +kernel
theorem dX2_solve_56 : decode cX2_solve 56 = .ok (.invokevirtual 133, 3) := by decide +kernel
theorem dX2_solve_59 : decode cX2_solve 59 = .ok (.istore 8, 2) := by decide +kernel
theorem dX2_solve_61 : decode cX2_solve 61 = .ok (.iload 8, 2) := by decide +kernel
theorem dX2_solve_63 : decode cX2_solve 63 = .ok (.iconst (-1), 1) := by decide +kernel
theorem dX2_solve_64 : decode cX2_solve 64 = .ok (.if_icmp .ne 20, 3) := by decide +kernel
theorem dX2_solve_67 : decode cX2_solve 67 = .ok (.aload_n 0, 1) := by decide +kernel
theorem dX2_solve_68 : decode cX2_solve 68 = .ok (.iload_n 1, 1) := by decide +kernel
theorem dX2_solve_69 : decode cX2_solve 69 = .ok (.iload 7, 2) := by decide +kernel
theorem dX2_solve_71 : decode cX2_solve 71 = .ok (.iconst 1, 1) := by decide +kernel
theorem dX2_solve_72 : decode cX2_solve 72 = .ok (.iadd, 1) := by decide +kernel
theorem dX2_solve_73 : decode cX2_solve 73 = .ok (.invokestatic 136, 3) := by decide +kernel
theorem dX2_solve_76 : decode cX2_solve 76 = .ok (.iload_n 2, 1) := by decide +kernel
theorem dX2_solve_77 : decode cX2_solve 77 = .ok (.iconst 1, 1) := by decide +kernel
theorem dX2_solve_78 : decode cX2_solve 78 = .ok (.iadd, 1) := by decide +kernel
theorem dX2_solve_79 : decode cX2_solve 79 = .ok (.invokevirtual 86, 3) := by decide +kernel
theorem dX2_solve_82 : decode cX2_solve 82 = .ok (.istore 8, 2) := by decide +kernel
theorem dX2_solve_84 : decode cX2_solve 84 = .ok (.aload_n 0, 1) := by decide +kernel
theorem dX2_solve_85 : decode cX2_solve 85 = .ok (.iload_n 3, 1) := by decide +kernel
theorem dX2_solve_86 : decode cX2_solve 86 = .ok (.iload 5, 2) := by decide +kernel
theorem dX2_solve_88 : decode cX2_solve 88 = .ok (.invokevirtual 141, 3) := by decide +kernel
theorem dX2_solve_91 : decode cX2_solve 91 = .ok (.iload 8, 2) := by decide +kernel
theorem dX2_solve_93 : decode cX2_solve 93 = .ok (.iconst (-1), 1) := by decide +kernel
theorem dX2_solve_94 : decode cX2_solve 94 = .ok (.if_icmp .eq 11, 3) := by decide +kernel
theorem dX2_solve_97 : decode cX2_solve 97 = .ok (.iload 8, 2) := by decide +kernel
theorem dX2_solve_99 : decode cX2_solve 99 = .ok (.iload 4, 2) := by decide +kernel
theorem dX2_solve_101 : decode cX2_solve 101 = .ok (.iand, 1) := by decide +kernel
theorem dX2_solve_102 : decode cX2_solve 102 = .ok (.ifCond .ne 6, 3) := by decide +kernel
theorem dX2_solve_105 : decode cX2_solve 105 = .ok (.iload 8, 2) := by decide +kernel
theorem dX2_solve_107 : decode cX2_solve 107 = .ok (.ireturn, 1) := by decide +kernel
theorem dX2_solve_108 : decode cX2_solve 108 = .ok (.iload 6, 2) := by decide +kernel
theorem dX2_solve_110 : decode cX2_solve 110 = .ok (.iload 8, 2) := by decide +kernel
theorem dX2_solve_112 : decode cX2_solve 112 = .ok (.ior, 1) := by decide +kernel
theorem dX2_solve_113 : decode cX2_solve 113 = .ok (.istore 6, 2) := by decide +kernel
theorem dX2_solve_115 : decode cX2_solve 115 = .ok (.iinc 7 1, 3) := by decide +kernel
theorem dX2_solve_118 : decode cX2_solve 118 = .ok (.goto (-81), 3) := by decide +kernel
theorem dX2_solve_121 : decode cX2_solve 121 = .ok (.iload 6, 2) := by decide +kernel
theorem dX2_solve_123 : decode cX2_solve 123 = .ok (.iload 4, 2) := by decide +kernel
theorem dX2_solve_125 : decode cX2_solve 125 = .ok (.iconst (-1), 1) := by decide +kernel
theorem dX2_solve_126 : decode cX2_solve 126 = .ok (.ixor, 1) := by decide +kernel
theorem dX2_solve_127 : decode cX2_solve 127 = .ok (.iand, 1) := by decide +kernel
theorem dX2_solve_128 : decode cX2_solve 128 = .ok (.ireturn, 1) := by decide +kernel
theorem dX2_heaviestOpenMove_0 : decode cX2_heaviestOpenMove 0 = .ok (.iconst (-1), 1) := by decide +kernel
theorem dX2_heaviestOpenMove_1 : decode cX2_heaviestOpenMove 1 = .ok (.istore_n 1, 1) := by decide +kernel
theorem dX2_heaviestOpenMove_2 : decode cX2_heaviestOpenMove 2 = .ok (.iconst 0, 1) := by decide +kernel
theorem dX2_heaviestOpenMove_3 : decode cX2_heaviestOpenMove 3 = .ok (.istore_n 2, 1) := by decide +kernel
theorem dX2_heaviestOpenMove_4 : decode cX2_heaviestOpenMove 4 = .ok (.iconst 0, 1) := by decide +kernel
theorem dX2_heaviestOpenMove_5 : decode cX2_heaviestOpenMove 5 = .ok (.istore_n 3, 1) := by decide +kernel
theorem dX2_heaviestOpenMove_6 : decode cX2_heaviestOpenMove 6 = .ok (.iload_n 3, 1) := by decide +kernel
theorem dX2_heaviestOpenMove_7 : decode cX2_heaviestOpenMove 7 = .ok (.bipush 12, 2) := by decide +kernel
theorem dX2_heaviestOpenMove_9 : decode cX2_heaviestOpenMove 9 = .ok (.if_icmp .ge 38, 3) := by decide +kernel
theorem dX2_heaviestOpenMove_12 : decode cX2_heaviestOpenMove 12 = .ok (.aload_n 0, 1) := by decide +kernel
theorem dX2_heaviestOpenMove_13 : decode cX2_heaviestOpenMove 13 = .ok (.getfield 42, 3) := by decide +kernel
theorem dX2_heaviestOpenMove_16 : decode cX2_heaviestOpenMove 16 = .ok (.iload_n 3, 1) := by decide +kernel
theorem dX2_heaviestOpenMove_17 : decode cX2_heaviestOpenMove 17 = .ok (.iaload, 1) := by decide +kernel
theorem dX2_heaviestOpenMove_18 : decode cX2_heaviestOpenMove 18 = .ok (.iconst (-1), 1) := by decide +kernel
theorem dX2_heaviestOpenMove_19 : decode cX2_heaviestOpenMove 19 = .ok (.if_icmp .ne 22, 3) := by decide +kernel
theorem dX2_heaviestOpenMove_22 : decode cX2_heaviestOpenMove 22 = .ok (.aload_n 0, 1) := by decide +kernel
theorem dX2_heaviestOpenMove_23 : decode cX2_heaviestOpenMove 23 = .ok (.getfield 51, 3) := by decide +kernel
theorem dX2_heaviestOpenMove_26 : decode cX2_heaviestOpenMove 26 = .ok (.iload_n 3, 1) := by decide +kernel
theorem dX2_heaviestOpenMove_27 : decode cX2_heaviestOpenMove 27 = .ok (.iaload, 1) := by decide +kernel
theorem dX2_heaviestOpenMove_28 : decode cX2_heaviestOpenMove 28 = .ok (.iload_n 2, 1) := by decide +kernel
theorem dX2_heaviestOpenMove_29 : decode cX2_heaviestOpenMove 29 = .ok (.if_icmp .le 12, 3) := by decide +kernel
theorem dX2_heaviestOpenMove_32 : decode cX2_heaviestOpenMove 32 = .ok (.iload_n 3, 1) := by decide +kernel
theorem dX2_heaviestOpenMove_33 : decode cX2_heaviestOpenMove 33 = .ok (.istore_n 1, 1) := by decide +kernel
theorem dX2_heaviestOpenMove_34 : decode cX2_heaviestOpenMove 34 = .ok (.aload_n 0, 1) := by decide +kernel
theorem dX2_heaviestOpenMove_35 : decode cX2_heaviestOpenMove 35 = .ok (.getfield 51, 3) := by decide +kernel
theorem dX2_heaviestOpenMove_38 : decode cX2_heaviestOpenMove 38 = .ok (.iload_n 3, 1) := by decide +kernel
theorem dX2_heaviestOpenMove_39 : decode cX2_heaviestOpenMove 39 = .ok (.iaload, 1) := by decide +kernel
theorem dX2_heaviestOpenMove_40 : decode cX2_heaviestOpenMove 40 = .ok (.istore_n 2, 1) := by decide +kernel
theorem dX2_heaviestOpenMove_41 : decode cX2_heaviestOpenMove 41 = .ok (.iinc 3 1, 3) := by decide +kernel
theorem dX2_heaviestOpenMove_44 : decode cX2_heaviestOpenMove 44 = .ok (.goto (-38), 3) := by decide +kernel
theorem dX2_heaviestOpenMove_47 : decode cX2_heaviestOpenMove 47 = .ok (.iload_n 1, 1) := by decide +kernel
theorem dX2_heaviestOpenMove_48 : decode cX2_heaviestOpenMove 48 = .ok (.ireturn, 1) := by decide +kernel
set_option maxRecDepth 20000 in
theorem ggX2_settleInOrder_X2_settle : GoodIn wsX2_settleInOrder wsX2_settle := goodIn_r _ [16, 7, 17, 5, 18, 19, 3, 20, 21, 22, 23, 24, 15, 25, 2, 26, 27, 28, 29, 42, 43, 44, 45, 46, 47, 48, 49, 50, 51, 52, 53, 54, 55, 56, 57, 58] (by decide +kernel) (by decide +kernel)
set_option maxRecDepth 20000 in
theorem gX2_settleInOrder_X2_settle : GoodIn wsX2_settleInOrder (wsV RX2 133 RX2 yX2_settle wsX2_settle) := goodIn_app (goodIn_of _ (by decide +kernel)) ggX2_settleInOrder_X2_settle
set_option maxRecDepth 20000 in
theorem ggX2_settleInOrder_X2_solve : GoodIn wsX2_settleInOrder wsX2_solve := goodIn_r _ [33, 7, 6, 8, 9, 10, 11, 34, 35, 36, 15, 37, 5, 28, 12, 13, 14, 16, 17, 18, 19, 3, 20, 21, 22, 23, 24, 25, 2, 26, 27, 29, 30, 31, 32, 38, 39, 40, 41, 42, 43, 44, 45, 46, 47, 48, 49, 50, 51, 52, 53, 54, 55, 56, 57, 58] (by decide +kernel) (by decide +kernel)
set_option maxRecDepth 20000 in
theorem gX2_settleInOrder_X2_solve : GoodIn wsX2_settleInOrder (wsV RX2 86 RX2 yX2_solve wsX2_solve) := goodIn_app (goodIn_of _ (by decide +kernel)) ggX2_settleInOrder_X2_solve
set_option maxRecDepth 20000 in
theorem ggX2_settleInOrder_X2_unsettle : GoodIn wsX2_settleInOrder wsX2_unsettle := goodIn_r _ [41, 7, 20, 17, 21, 28, 29, 5, 42, 43, 44, 45, 46, 47, 48, 49, 50, 51, 52, 53, 54, 55, 56, 57, 58] (by decide +kernel) (by decide +kernel)
set_option maxRecDepth 20000 in
theorem gX2_settleInOrder_X2_unsettle : GoodIn wsX2_settleInOrder (wsV RX2 141 RX2 yX2_unsettle wsX2_unsettle) := goodIn_app (goodIn_of _ (by decide +kernel)) ggX2_settleInOrder_X2_unsettle
theorem dX2_settleInOrder_0 : decode cX2_settleInOrder 0 = .ok (.iconst 1, 1) := by decide +kernel
theorem dX2_settleInOrder_1 : decode cX2_settleInOrder 1 = .ok (.istore_n 1, 1) := by decide +kernel
theorem dX2_settleInOrder_2 : decode cX2_settleInOrder 2 = .ok (.iconst 1, 1) := by decide +kernel
theorem dX2_settleInOrder_3 : decode cX2_settleInOrder 3 = .ok (.istore_n 2, 1) := by decide +kernel
theorem dX2_settleInOrder_4 : decode cX2_settleInOrder 4 = .ok (.iload_n 2, 1) := by decide +kernel
theorem dX2_settleInOrder_5 : decode cX2_settleInOrder 5 = .ok (.aload_n 0, 1) := by decide +kernel
theorem dX2_settleInOrder_6 : decode cX2_settleInOrder 6 = .ok (.getfield 67, 3) := by decide +kernel
theorem dX2_settleInOrder_9 : decode cX2_settleInOrder 9 = .ok (.if_icmp .ge 142, 3) := by decide +kernel
theorem dX2_settleInOrder_12 : decode cX2_settleInOrder 12 = .ok (.aload_n 0, 1) := by decide +kernel
theorem dX2_settleInOrder_13 : decode cX2_settleInOrder 13 = .ok (.getfield 30, 3) := by decide +kernel
theorem dX2_settleInOrder_16 : decode cX2_settleInOrder 16 = .ok (.aload_n 0, 1) := by decide +kernel
theorem dX2_settleInOrder_17 : decode cX2_settleInOrder 17 = .ok (.getfield 11, 3) := by decide +kernel
theorem dX2_settleInOrder_20 : decode cX2_settleInOrder 20 = .ok (.iload_n 2, 1) := by decide +kernel
theorem dX2_settleInOrder_21 : decode cX2_settleInOrder 21 = .ok (.iaload, 1) := by decide +kernel
theorem dX2_settleInOrder_22 : decode cX2_settleInOrder 22 = .ok (.iaload, 1) := by decide +kernel
theorem dX2_settleInOrder_23 : decode cX2_settleInOrder 23 = .ok (.iconst 3, 1) := by decide +kernel
theorem dX2_settleInOrder_24 : decode cX2_settleInOrder 24 = .ok (.imul, 1) := by decide +kernel
theorem dX2_settleInOrder_25 : decode cX2_settleInOrder 25 = .ok (.aload_n 0, 1) := by decide +kernel
theorem dX2_settleInOrder_26 : decode cX2_settleInOrder 26 = .ok (.getfield 15, 3) := by decide +kernel
theorem dX2_settleInOrder_29 : decode cX2_settleInOrder 29 = .ok (.iload_n 2, 1) := by decide +kernel
theorem dX2_settleInOrder_30 : decode cX2_settleInOrder 30 = .ok (.iaload, 1) := by decide +kernel
theorem dX2_settleInOrder_31 : decode cX2_settleInOrder 31 = .ok (.iadd, 1) := by decide +kernel
theorem dX2_settleInOrder_32 : decode cX2_settleInOrder 32 = .ok (.istore_n 3, 1) := by decide +kernel
theorem dX2_settleInOrder_33 : decode cX2_settleInOrder 33 = .ok (.aload_n 0, 1) := by decide +kernel
theorem dX2_settleInOrder_34 : decode cX2_settleInOrder 34 = .ok (.getfield 42, 3) := by decide +kernel
theorem dX2_settleInOrder_37 : decode cX2_settleInOrder 37 = .ok (.iload_n 3, 1) := by decide +kernel
theorem dX2_settleInOrder_38 : decode cX2_settleInOrder 38 = .ok (.iaload, 1) := by decide +kernel
theorem dX2_settleInOrder_39 : decode cX2_settleInOrder 39 = .ok (.iconst (-1), 1) := by decide +kernel
theorem dX2_settleInOrder_40 : decode cX2_settleInOrder 40 = .ok (.if_icmp .eq 7, 3) := by decide +kernel
theorem dX2_settleInOrder_43 : decode cX2_settleInOrder 43 = .ok (.iconst 1, 1) := by decide +kernel
theorem dX2_settleInOrder_44 : decode cX2_settleInOrder 44 = .ok (.goto 4, 3) := by decide +kernel
theorem dX2_settleInOrder_47 : decode cX2_settleInOrder 47 = .ok (.iconst 0, 1) := by decide +kernel
theorem dX2_settleInOrder_48 : decode cX2_settleInOrder 48 = .ok (.istore 4, 2) := by decide +kernel
theorem dX2_settleInOrder_50 : decode cX2_settleInOrder 50 = .ok (.iconst 0, 1) := by decide +kernel
theorem dX2_settleInOrder_51 : decode cX2_settleInOrder 51 = .ok (.istore 5, 2) := by decide +kernel
theorem dX2_settleInOrder_53 : decode cX2_settleInOrder 53 = .ok (.iload 5, 2) := by decide +kernel
theorem dX2_settleInOrder_55 : decode cX2_settleInOrder 55 = .ok (.aload_n 0, 1) := by decide +kernel
theorem dX2_settleInOrder_56 : decode cX2_settleInOrder 56 = .ok (.getfield 83, 3) := by decide +kernel
theorem dX2_settleInOrder_59 : decode cX2_settleInOrder 59 = .ok (.if_icmp .ge 73, 3) := by decide +kernel
theorem dX2_settleInOrder_62 : decode cX2_settleInOrder 62 = .ok (.iload 5, 2) := by decide +kernel
theorem dX2_settleInOrder_64 : decode cX2_settleInOrder 64 = .ok (.iload_n 1, 1) := by decide +kernel
theorem dX2_settleInOrder_65 : decode cX2_settleInOrder 65 = .ok (.if_icmp .gt 67, 3) := by decide +kernel
theorem dX2_settleInOrder_68 : decode cX2_settleInOrder 68 = .ok (.iload 4, 2) := by decide +kernel
theorem dX2_settleInOrder_70 : decode cX2_settleInOrder 70 = .ok (.ifCond .ne 62, 3) := by decide +kernel
theorem dX2_settleInOrder_73 : decode cX2_settleInOrder 73 = .ok (.aload_n 0, 1) := by decide +kernel
theorem dX2_settleInOrder_74 : decode cX2_settleInOrder 74 = .ok (.getfield 124, 3) := by decide +kernel
theorem dX2_settleInOrder_77 : decode cX2_settleInOrder 77 = .ok (.istore 6, 2) := by decide +kernel
theorem dX2_settleInOrder_79 : decode cX2_settleInOrder 79 = .ok (.aload_n 0, 1) := by decide +kernel
theorem dX2_settleInOrder_80 : decode cX2_settleInOrder 80 = .ok (.iload_n 3, 1) := by decide +kernel
theorem dX2_settleInOrder_81 : decode cX2_settleInOrder 81 = .ok (.iload 5, 2) := by decide +kernel
theorem dX2_settleInOrder_83 : decode cX2_settleInOrder 83 = .ok (.invokevirtual 133, 3) := by decide +kernel
theorem dX2_settleInOrder_86 : decode cX2_settleInOrder 86 = .ok (.iconst (-1), 1) := by decide +kernel
theorem dX2_settleInOrder_87 : decode cX2_settleInOrder 87 = .ok (.if_icmp .ne 24, 3) := by decide +kernel
theorem dX2_settleInOrder_90 : decode cX2_settleInOrder 90 = .ok (.aload_n 0, 1) := by decide +kernel
theorem dX2_settleInOrder_91 : decode cX2_settleInOrder 91 = .ok (.iload_n 1, 1) := by decide +kernel
theorem dX2_settleInOrder_92 : decode cX2_settleInOrder 92 = .ok (.iload 5, 2) := by decide +kernel
theorem dX2_settleInOrder_94 : decode cX2_settleInOrder 94 = .ok (.iconst 1, 1) := by decide +kernel
theorem dX2_settleInOrder_95 : decode cX2_settleInOrder 95 = .ok (.iadd, 1) := by decide +kernel
theorem dX2_settleInOrder_96 : decode cX2_settleInOrder 96 = .ok (.invokestatic 136, 3) := by decide +kernel
theorem dX2_settleInOrder_99 : decode cX2_settleInOrder 99 = .ok (.iconst 0, 1) := by decide +kernel
theorem dX2_settleInOrder_100 : decode cX2_settleInOrder 100 = .ok (.invokevirtual 86, 3) := by decide +kernel
theorem dX2_settleInOrder_103 : decode cX2_settleInOrder 103 = .ok (.iconst (-1), 1) := by decide +kernel
theorem dX2_settleInOrder_104 : decode cX2_settleInOrder 104 = .ok (.if_icmp .ne 7, 3) := by decide +kernel
theorem dX2_settleInOrder_107 : decode cX2_settleInOrder 107 = .ok (.iconst 1, 1) := by decide +kernel
theorem dX2_settleInOrder_108 : decode cX2_settleInOrder 108 = .ok (.goto 4, 3) := by decide +kernel
theorem dX2_settleInOrder_111 : decode cX2_settleInOrder 111 = .ok (.iconst 0, 1) := by decide +kernel
theorem dX2_settleInOrder_112 : decode cX2_settleInOrder 112 = .ok (.istore 4, 2) := by decide +kernel
theorem dX2_settleInOrder_114 : decode cX2_settleInOrder 114 = .ok (.iload 4, 2) := by decide +kernel
theorem dX2_settleInOrder_116 : decode cX2_settleInOrder 116 = .ok (.ifCond .ne 10, 3) := by decide +kernel
theorem dX2_settleInOrder_119 : decode cX2_settleInOrder 119 = .ok (.aload_n 0, 1) := by decide +kernel
theorem dX2_settleInOrder_120 : decode cX2_settleInOrder 120 = .ok (.iload_n 3, 1) := by decide +kernel
theorem dX2_settleInOrder_121 : decode cX2_settleInOrder 121 = .ok (.iload 6, 2) := by decide +kernel
theorem dX2_settleInOrder_123 : decode cX2_settleInOrder 123 = .ok (.invokevirtual 141, 3) := by decide +kernel
theorem dX2_settleInOrder_126 : decode cX2_settleInOrder 126 = .ok (.iinc 5 1, 3) := by decide +kernel
theorem dX2_settleInOrder_129 : decode cX2_settleInOrder 129 = .ok (.goto (-76), 3) := by decide +kernel
theorem dX2_settleInOrder_132 : decode cX2_settleInOrder 132 = .ok (.iload_n 1, 1) := by decide +kernel
theorem dX2_settleInOrder_133 : decode cX2_settleInOrder 133 = .ok (.aload_n 0, 1) := by decide +kernel
theorem dX2_settleInOrder_134 : decode cX2_settleInOrder 134 = .ok (.getfield 42, 3) := by decide +kernel
theorem dX2_settleInOrder_137 : decode cX2_settleInOrder 137 = .ok (.iload_n 3, 1) := by decide +kernel
theorem dX2_settleInOrder_138 : decode cX2_settleInOrder 138 = .ok (.iaload, 1) := by decide +kernel
theorem dX2_settleInOrder_139 : decode cX2_settleInOrder 139 = .ok (.iconst 1, 1) := by decide +kernel
theorem dX2_settleInOrder_140 : decode cX2_settleInOrder 140 = .ok (.iadd, 1) := by decide +kernel
theorem dX2_settleInOrder_141 : decode cX2_settleInOrder 141 = .ok (.invokestatic 136, 3) := by decide +kernel
theorem dX2_settleInOrder_144 : decode cX2_settleInOrder 144 = .ok (.istore_n 1, 1) := by decide +kernel
theorem dX2_settleInOrder_145 : decode cX2_settleInOrder 145 = .ok (.iinc 2 1, 3) := by decide +kernel
theorem dX2_settleInOrder_148 : decode cX2_settleInOrder 148 = .ok (.goto (-144), 3) := by decide +kernel
theorem dX2_settleInOrder_151 : decode cX2_settleInOrder 151 = .ok (.return_, 1) := by decide +kernel
set_option maxRecDepth 20000 in
theorem ggX2_settle_X2_enter : GoodIn wsX2_settle wsX2_enter := goodIn_r _ [13, 14, 5, 15, 1, 4, 2, 16, 6, 17, 18, 8, 7, 19, 20, 21, 22, 23, 24, 25, 26, 27, 28, 29, 30, 31, 32, 33, 34, 35] (by decide +kernel) (by decide +kernel)
set_option maxRecDepth 20000 in
theorem gX2_settle_X2_enter : GoodIn wsX2_settle (wsV RX2 127 RX2 yX2_enter wsX2_enter) := goodIn_app (goodIn_of _ (by decide +kernel)) ggX2_settle_X2_enter
theorem dX2_settle_0 : decode cX2_settle 0 = .ok (.aload_n 0, 1) := by decide +kernel
theorem dX2_settle_1 : decode cX2_settle 1 = .ok (.getfield 124, 3) := by decide +kernel
theorem dX2_settle_4 : decode cX2_settle 4 = .ok (.istore_n 3, 1) := by decide +kernel
theorem dX2_settle_5 : decode cX2_settle 5 = .ok (.aload_n 0, 1) := by decide +kernel
theorem dX2_settle_6 : decode cX2_settle 6 = .ok (.getfield 48, 3) := by decide +kernel
theorem dX2_settle_9 : decode cX2_settle 9 = .ok (.iload_n 1, 1) := by decide +kernel
theorem dX2_settle_10 : decode cX2_settle 10 = .ok (.iaload, 1) := by decide +kernel
theorem dX2_settle_11 : decode cX2_settle 11 = .ok (.istore 4, 2) := by decide +kernel
theorem dX2_settle_13 : decode cX2_settle 13 = .ok (.iconst (-1), 1) := by decide +kernel
theorem dX2_settle_14 : decode cX2_settle 14 = .ok (.istore 5, 2) := by decide +kernel
theorem dX2_settle_16 : decode cX2_settle 16 = .ok (.aload_n 0, 1) := by decide +kernel
theorem dX2_settle_17 : decode cX2_settle 17 = .ok (.getfield 42, 3) := by decide +kernel
theorem dX2_settle_20 : decode cX2_settle 20 = .ok (.iload_n 1, 1) := by decide +kernel
theorem dX2_settle_21 : decode cX2_settle 21 = .ok (.iload_n 2, 1) := by decide +kernel
theorem dX2_settle_22 : decode cX2_settle 22 = .ok (.iastore, 1) := by decide +kernel
theorem dX2_settle_23 : decode cX2_settle 23 = .ok (.iconst 0, 1) := by decide +kernel
theorem dX2_settle_24 : decode cX2_settle 24 = .ok (.istore 6, 2) := by decide +kernel
theorem dX2_settle_26 : decode cX2_settle 26 = .ok (.iload 6, 2) := by decide +kernel
theorem dX2_settle_28 : decode cX2_settle 28 = .ok (.iload 4, 2) := by decide +kernel
theorem dX2_settle_30 : decode cX2_settle 30 = .ok (.if_icmp .ge 54, 3) := by decide +kernel
theorem dX2_settle_33 : decode cX2_settle 33 = .ok (.iload 5, 2) := by decide +kernel
theorem dX2_settle_35 : decode cX2_settle 35 = .ok (.iconst (-1), 1) := by decide +kernel
theorem dX2_settle_36 : decode cX2_settle 36 = .ok (.if_icmp .ne 48, 3) := by decide +kernel
theorem dX2_settle_39 : decode cX2_settle 39 = .ok (.aload_n 0, 1) := by decide +kernel
theorem dX2_settle_40 : decode cX2_settle 40 = .ok (.getfield 45, 3) := by decide +kernel
theorem dX2_settle_43 : decode cX2_settle 43 = .ok (.iload_n 1, 1) := by decide +kernel
theorem dX2_settle_44 : decode cX2_settle 44 = .ok (.bipush 97, 2) := by decide +kernel
theorem dX2_settle_46 : decode cX2_settle 46 = .ok (.imul, 1) := by decide +kernel
theorem dX2_settle_47 : decode cX2_settle 47 = .ok (.iload 6, 2) := by decide +kernel
theorem dX2_settle_49 : decode cX2_settle 49 = .ok (.iadd, 1) := by decide +kernel
theorem dX2_settle_50 : decode cX2_settle 50 = .ok (.iaload, 1) := by decide +kernel
theorem dX2_settle_51 : decode cX2_settle 51 = .ok (.istore 7, 2) := by decide +kernel
theorem dX2_settle_53 : decode cX2_settle 53 = .ok (.aload_n 0, 1) := by decide +kernel
theorem dX2_settle_54 : decode cX2_settle 54 = .ok (.iload 7, 2) := by decide +kernel
theorem dX2_settle_56 : decode cX2_settle 56 = .ok (.iload_n 2, 1) := by decide +kernel
theorem dX2_settle_57 : decode cX2_settle 57 = .ok (.aload_n 0, 1) := by decide +kernel
theorem dX2_settle_58 : decode cX2_settle 58 = .ok (.getfield 33, 3) := by decide +kernel
theorem dX2_settle_61 : decode cX2_settle 61 = .ok (.aload_n 0, 1) := by decide +kernel
theorem dX2_settle_62 : decode cX2_settle 62 = .ok (.getfield 11, 3) := by decide +kernel
theorem dX2_settle_65 : decode cX2_settle 65 = .ok (.iload 7, 2) := by decide +kernel
theorem dX2_settle_67 : decode cX2_settle 67 = .ok (.iaload, 1) := by decide +kernel
theorem dX2_settle_68 : decode cX2_settle 68 = .ok (.iaload, 1) := by decide +kernel
theorem dX2_settle_69 : decode cX2_settle 69 = .ok (.iconst 1, 1) := by decide +kernel
theorem dX2_settle_70 : decode cX2_settle 70 = .ok (.iload_n 1, 1) := by decide +kernel
theorem dX2_settle_71 : decode cX2_settle 71 = .ok (.ishl, 1) := by decide +kernel
theorem dX2_settle_72 : decode cX2_settle 72 = .ok (.ior, 1) := by decide +kernel
theorem dX2_settle_73 : decode cX2_settle 73 = .ok (.invokevirtual 127, 3) := by decide +kernel
theorem dX2_settle_76 : decode cX2_settle 76 = .ok (.istore 5, 2) := by decide +kernel
theorem dX2_settle_78 : decode cX2_settle 78 = .ok (.iinc 6 1, 3) := by decide +kernel
theorem dX2_settle_81 : decode cX2_settle 81 = .ok (.goto (-55), 3) := by decide +kernel
theorem dX2_settle_84 : decode cX2_settle 84 = .ok (.iload_n 3, 1) := by decide +kernel
theorem dX2_settle_85 : decode cX2_settle 85 = .ok (.istore 6, 2) := by decide +kernel
theorem dX2_settle_87 : decode cX2_settle 87 = .ok (.iload 6, 2) := by decide +kernel
theorem dX2_settle_89 : decode cX2_settle 89 = .ok (.aload_n 0, 1) := by decide +kernel
theorem dX2_settle_90 : decode cX2_settle 90 = .ok (.getfield 124, 3) := by decide +kernel
theorem dX2_settle_93 : decode cX2_settle 93 = .ok (.if_icmp .ge 76, 3) := by decide +kernel
theorem dX2_settle_96 : decode cX2_settle 96 = .ok (.iload 5, 2) := by decide +kernel
theorem dX2_settle_98 : decode cX2_settle 98 = .ok (.iconst (-1), 1) := by decide +kernel
theorem dX2_settle_99 : decode cX2_settle 99 = .ok (.if_icmp .ne 70, 3) := by decide +kernel
theorem dX2_settle_102 : decode cX2_settle 102 = .ok (.aload_n 0, 1) := by decide +kernel
theorem dX2_settle_103 : decode cX2_settle 103 = .ok (.getfield 39, 3) := by decide +kernel
theorem dX2_settle_106 : decode cX2_settle 106 = .ok (.iload 6, 2) := by decide +kernel
theorem dX2_settle_108 : decode cX2_settle 108 = .ok (.iaload, 1) := by decide +kernel
theorem dX2_settle_109 : decode cX2_settle 109 = .ok (.istore 7, 2) := by decide +kernel
theorem dX2_settle_111 : decode cX2_settle 111 = .ok (.aload_n 0, 1) := by decide +kernel
theorem dX2_settle_112 : decode cX2_settle 112 = .ok (.getfield 36, 3) := by decide +kernel
theorem dX2_settle_115 : decode cX2_settle 115 = .ok (.iload 7, 2) := by decide +kernel
theorem dX2_settle_117 : decode cX2_settle 117 = .ok (.iaload, 1) := by decide +kernel
theorem dX2_settle_118 : decode cX2_settle 118 = .ok (.istore 8, 2) := by decide +kernel
theorem dX2_settle_120 : decode cX2_settle 120 = .ok (.aload_n 0, 1) := by decide +kernel
theorem dX2_settle_121 : decode cX2_settle 121 = .ok (.getfield 42, 3) := by decide +kernel
theorem dX2_settle_124 : decode cX2_settle 124 = .ok (.iload 8, 2) := by decide +kernel
theorem dX2_settle_126 : decode cX2_settle 126 = .ok (.iaload, 1) := by decide +kernel
theorem dX2_settle_127 : decode cX2_settle 127 = .ok (.iconst (-1), 1) := by decide +kernel
theorem dX2_settle_128 : decode cX2_settle 128 = .ok (.if_icmp .eq 35, 3) := by decide +kernel
theorem dX2_settle_131 : decode cX2_settle 131 = .ok (.aload_n 0, 1) := by decide +kernel
theorem dX2_settle_132 : decode cX2_settle 132 = .ok (.iload 7, 2) := by decide +kernel
theorem dX2_settle_134 : decode cX2_settle 134 = .ok (.aload_n 0, 1) := by decide +kernel
theorem dX2_settle_135 : decode cX2_settle 135 = .ok (.getfield 42, 3) := by decide +kernel
theorem dX2_settle_138 : decode cX2_settle 138 = .ok (.iload 8, 2) := by decide +kernel
theorem dX2_settle_140 : decode cX2_settle 140 = .ok (.iaload, 1) := by decide +kernel
theorem dX2_settle_141 : decode cX2_settle 141 = .ok (.aload_n 0, 1) := by decide +kernel
theorem dX2_settle_142 : decode cX2_settle 142 = .ok (.getfield 33, 3) := by decide +kernel
theorem dX2_settle_145 : decode cX2_settle 145 = .ok (.aload_n 0, 1) := by decide +kernel
theorem dX2_settle_146 : decode cX2_settle 146 = .ok (.getfield 11, 3) := by decide +kernel
theorem dX2_settle_149 : decode cX2_settle 149 = .ok (.iload 7, 2) := by decide +kernel
theorem dX2_settle_151 : decode cX2_settle 151 = .ok (.iaload, 1) := by decide +kernel
theorem dX2_settle_152 : decode cX2_settle 152 = .ok (.iaload, 1) := by decide +kernel
theorem dX2_settle_153 : decode cX2_settle 153 = .ok (.iconst 1, 1) := by decide +kernel
theorem dX2_settle_154 : decode cX2_settle 154 = .ok (.iload 8, 2) := by decide +kernel
theorem dX2_settle_156 : decode cX2_settle 156 = .ok (.ishl, 1) := by decide +kernel
theorem dX2_settle_157 : decode cX2_settle 157 = .ok (.ior, 1) := by decide +kernel
theorem dX2_settle_158 : decode cX2_settle 158 = .ok (.invokevirtual 127, 3) := by decide +kernel
theorem dX2_settle_161 : decode cX2_settle 161 = .ok (.istore 5, 2) := by decide +kernel
theorem dX2_settle_163 : decode cX2_settle 163 = .ok (.iinc 6 1, 3) := by decide +kernel
theorem dX2_settle_166 : decode cX2_settle 166 = .ok (.goto (-79), 3) := by decide +kernel
theorem dX2_settle_169 : decode cX2_settle 169 = .ok (.iload 5, 2) := by decide +kernel
theorem dX2_settle_171 : decode cX2_settle 171 = .ok (.ireturn, 1) := by decide +kernel
theorem dX2_enter_0 : decode cX2_enter 0 = .ok (.aload_n 0, 1) := by decide +kernel
theorem dX2_enter_1 : decode cX2_enter 1 = .ok (.getfield 30, 3) := by decide +kernel
theorem dX2_enter_4 : decode cX2_enter 4 = .ok (.iload_n 1, 1) := by decide +kernel
theorem dX2_enter_5 : decode cX2_enter 5 = .ok (.iload_n 2, 1) := by decide +kernel
theorem dX2_enter_6 : decode cX2_enter 6 = .ok (.iastore, 1) := by decide +kernel
theorem dX2_enter_7 : decode cX2_enter 7 = .ok (.aload_n 0, 1) := by decide +kernel
theorem dX2_enter_8 : decode cX2_enter 8 = .ok (.getfield 33, 3) := by decide +kernel
theorem dX2_enter_11 : decode cX2_enter 11 = .ok (.iload_n 1, 1) := by decide +kernel
theorem dX2_enter_12 : decode cX2_enter 12 = .ok (.iload_n 3, 1) := by decide +kernel
theorem dX2_enter_13 : decode cX2_enter 13 = .ok (.iastore, 1) := by decide +kernel
theorem dX2_enter_14 : decode cX2_enter 14 = .ok (.iconst 0, 1) := by decide +kernel
theorem dX2_enter_15 : decode cX2_enter 15 = .ok (.istore 4, 2) := by decide +kernel
theorem dX2_enter_17 : decode cX2_enter 17 = .ok (.iload 4, 2) := by decide +kernel
theorem dX2_enter_19 : decode cX2_enter 19 = .ok (.iconst 3, 1) := by decide +kernel
theorem dX2_enter_20 : decode cX2_enter 20 = .ok (.if_icmp .ge 180, 3) := by decide +kernel
theorem dX2_enter_23 : decode cX2_enter 23 = .ok (.aload_n 0, 1) := by decide +kernel
theorem dX2_enter_24 : decode cX2_enter 24 = .ok (.getfield 21, 3) := by decide +kernel
theorem dX2_enter_27 : decode cX2_enter 27 = .ok (.iload_n 1, 1) := by decide +kernel
theorem dX2_enter_28 : decode cX2_enter 28 = .ok (.iconst 3, 1) := by decide +kernel
theorem dX2_enter_29 : decode cX2_enter 29 = .ok (.imul, 1) := by decide +kernel
theorem dX2_enter_30 : decode cX2_enter 30 = .ok (.iload 4, 2) := by decide +kernel
theorem dX2_enter_32 : decode cX2_enter 32 = .ok (.iadd, 1) := by decide +kernel
theorem dX2_enter_33 : decode cX2_enter 33 = .ok (.iaload, 1) := by decide +kernel
theorem dX2_enter_34 : decode cX2_enter 34 = .ok (.istore 5, 2) := by decide +kernel
theorem dX2_enter_36 : decode cX2_enter 36 = .ok (.iload 5, 2) := by decide +kernel
theorem dX2_enter_38 : decode cX2_enter 38 = .ok (.iconst (-1), 1) := by decide +kernel
theorem dX2_enter_39 : decode cX2_enter 39 = .ok (.if_icmp .eq 155, 3) := by decide +kernel
theorem dX2_enter_42 : decode cX2_enter 42 = .ok (.aload_n 0, 1) := by decide +kernel
theorem dX2_enter_43 : decode cX2_enter 43 = .ok (.getfield 124, 3) := by decide +kernel
theorem dX2_enter_46 : decode cX2_enter 46 = .ok (.bipush 97, 2) := by decide +kernel
theorem dX2_enter_48 : decode cX2_enter 48 = .ok (.if_icmp .lt 6, 3) := by decide +kernel
theorem dX2_enter_51 : decode cX2_enter 51 = .ok (.goto 143, 3) := by decide +kernel
theorem dX2_enter_54 : decode cX2_enter 54 = .ok (.iload_n 2, 1) := by decide +kernel
theorem dX2_enter_55 : decode cX2_enter 55 = .ok (.iconst 3, 1) := by decide +kernel
theorem dX2_enter_56 : decode cX2_enter 56 = .ok (.imul, 1) := by decide +kernel
theorem dX2_enter_57 : decode cX2_enter 57 = .ok (.iload 4, 2) := by decide +kernel
theorem dX2_enter_59 : decode cX2_enter 59 = .ok (.iadd, 1) := by decide +kernel
theorem dX2_enter_60 : decode cX2_enter 60 = .ok (.istore 6, 2) := by decide +kernel
theorem dX2_enter_62 : decode cX2_enter 62 = .ok (.aload_n 0, 1) := by decide +kernel
theorem dX2_enter_63 : decode cX2_enter 63 = .ok (.getfield 45, 3) := by decide +kernel
theorem dX2_enter_66 : decode cX2_enter 66 = .ok (.iload 6, 2) := by decide +kernel
theorem dX2_enter_68 : decode cX2_enter 68 = .ok (.bipush 97, 2) := by decide +kernel
theorem dX2_enter_70 : decode cX2_enter 70 = .ok (.imul, 1) := by decide +kernel
theorem dX2_enter_71 : decode cX2_enter 71 = .ok (.iaload, 1) := by decide +kernel
theorem dX2_enter_72 : decode cX2_enter 72 = .ok (.istore 7, 2) := by decide +kernel
theorem dX2_enter_74 : decode cX2_enter 74 = .ok (.aload_n 0, 1) := by decide +kernel
theorem dX2_enter_75 : decode cX2_enter 75 = .ok (.getfield 48, 3) := by decide +kernel
theorem dX2_enter_78 : decode cX2_enter 78 = .ok (.iload 6, 2) := by decide +kernel
theorem dX2_enter_80 : decode cX2_enter 80 = .ok (.iaload, 1) := by decide +kernel
theorem dX2_enter_81 : decode cX2_enter 81 = .ok (.ifCond .le 35, 3) := by decide +kernel
theorem dX2_enter_84 : decode cX2_enter 84 = .ok (.aload_n 0, 1) := by decide +kernel
theorem dX2_enter_85 : decode cX2_enter 85 = .ok (.getfield 18, 3) := by decide +kernel
theorem dX2_enter_88 : decode cX2_enter 88 = .ok (.iload 7, 2) := by decide +kernel
theorem dX2_enter_90 : decode cX2_enter 90 = .ok (.iaload, 1) := by decide +kernel
theorem dX2_enter_91 : decode cX2_enter 91 = .ok (.aload_n 0, 1) := by decide +kernel
theorem dX2_enter_92 : decode cX2_enter 92 = .ok (.getfield 18, 3) := by decide +kernel
theorem dX2_enter_95 : decode cX2_enter 95 = .ok (.iload 5, 2) := by decide +kernel
theorem dX2_enter_97 : decode cX2_enter 97 = .ok (.iaload, 1) := by decide +kernel
theorem dX2_enter_98 : decode cX2_enter 98 = .ok (.if_icmp .eq 18, 3) := by decide +kernel
theorem dX2_enter_101 : decode cX2_enter 101 = .ok (.iload_n 3, 1) := by decide +kernel
theorem dX2_enter_102 : decode cX2_enter 102 = .ok (.aload_n 0, 1) := by decide +kernel
theorem dX2_enter_103 : decode cX2_enter 103 = .ok (.getfield 33, 3) := by decide +kernel
theorem dX2_enter_106 : decode cX2_enter 106 = .ok (.aload_n 0, 1) := by decide +kernel
theorem dX2_enter_107 : decode cX2_enter 107 = .ok (.getfield 11, 3) := by decide +kernel
theorem dX2_enter_110 : decode cX2_enter 110 = .ok (.iload 7, 2) := by decide +kernel
theorem dX2_enter_112 : decode cX2_enter 112 = .ok (.iaload, 1) := by decide +kernel
theorem dX2_enter_113 : decode cX2_enter 113 = .ok (.iaload, 1) := by decide +kernel
theorem dX2_enter_114 : decode cX2_enter 114 = .ok (.ior, 1) := by decide +kernel
theorem dX2_enter_115 : decode cX2_enter 115 = .ok (.ireturn, 1) := by decide +kernel
theorem dX2_enter_116 : decode cX2_enter 116 = .ok (.aload_n 0, 1) := by decide +kernel
theorem dX2_enter_117 : decode cX2_enter 117 = .ok (.getfield 45, 3) := by decide +kernel
theorem dX2_enter_120 : decode cX2_enter 120 = .ok (.iload 6, 2) := by decide +kernel
theorem dX2_enter_122 : decode cX2_enter 122 = .ok (.bipush 97, 2) := by decide +kernel
theorem dX2_enter_124 : decode cX2_enter 124 = .ok (.imul, 1) := by decide +kernel
theorem dX2_enter_125 : decode cX2_enter 125 = .ok (.aload_n 0, 1) := by decide +kernel
theorem dX2_enter_126 : decode cX2_enter 126 = .ok (.getfield 48, 3) := by decide +kernel
theorem dX2_enter_129 : decode cX2_enter 129 = .ok (.iload 6, 2) := by decide +kernel
theorem dX2_enter_131 : decode cX2_enter 131 = .ok (.iaload, 1) := by decide +kernel
theorem dX2_enter_132 : decode cX2_enter 132 = .ok (.iadd, 1) := by decide +kernel
theorem dX2_enter_133 : decode cX2_enter 133 = .ok (.iload 5, 2) := by decide +kernel
theorem dX2_enter_135 : decode cX2_enter 135 = .ok (.iastore, 1) := by decide +kernel
theorem dX2_enter_136 : decode cX2_enter 136 = .ok (.aload_n 0, 1) := by decide +kernel
theorem dX2_enter_137 : decode cX2_enter 137 = .ok (.getfield 48, 3) := by decide +kernel
theorem dX2_enter_140 : decode cX2_enter 140 = .ok (.iload 6, 2) := by decide +kernel
theorem dX2_enter_142 : decode cX2_enter 142 = .ok (.dup2, 1) := by decide +kernel
theorem dX2_enter_143 : decode cX2_enter 143 = .ok (.iaload, 1) := by decide +kernel
theorem dX2_enter_144 : decode cX2_enter 144 = .ok (.iconst 1, 1) := by decide +kernel
theorem dX2_enter_145 : decode cX2_enter 145 = .ok (.iadd, 1) := by decide +kernel
theorem dX2_enter_146 : decode cX2_enter 146 = .ok (.iastore, 1) := by decide +kernel
theorem dX2_enter_147 : decode cX2_enter 147 = .ok (.aload_n 0, 1) := by decide +kernel
theorem dX2_enter_148 : decode cX2_enter 148 = .ok (.getfield 51, 3) := by decide +kernel
theorem dX2_enter_151 : decode cX2_enter 151 = .ok (.iload 6, 2) := by decide +kernel
theorem dX2_enter_153 : decode cX2_enter 153 = .ok (.dup2, 1) := by decide +kernel
theorem dX2_enter_154 : decode cX2_enter 154 = .ok (.iaload, 1) := by decide +kernel
theorem dX2_enter_155 : decode cX2_enter 155 = .ok (.aload_n 0, 1) := by decide +kernel
theorem dX2_enter_156 : decode cX2_enter 156 = .ok (.getfield 27, 3) := by decide +kernel
theorem dX2_enter_159 : decode cX2_enter 159 = .ok (.iload 5, 2) := by decide +kernel
theorem dX2_enter_161 : decode cX2_enter 161 = .ok (.iaload, 1) := by decide +kernel
theorem dX2_enter_162 : decode cX2_enter 162 = .ok (.iadd, 1) := by decide +kernel
theorem dX2_enter_163 : decode cX2_enter 163 = .ok (.iastore, 1) := by decide +kernel
theorem dX2_enter_164 : decode cX2_enter 164 = .ok (.aload_n 0, 1) := by decide +kernel
theorem dX2_enter_165 : decode cX2_enter 165 = .ok (.getfield 36, 3) := by decide +kernel
theorem dX2_enter_168 : decode cX2_enter 168 = .ok (.iload 5, 2) := by decide +kernel
theorem dX2_enter_170 : decode cX2_enter 170 = .ok (.iload 6, 2) := by decide +kernel
theorem dX2_enter_172 : decode cX2_enter 172 = .ok (.iastore, 1) := by decide +kernel
theorem dX2_enter_173 : decode cX2_enter 173 = .ok (.aload_n 0, 1) := by decide +kernel
theorem dX2_enter_174 : decode cX2_enter 174 = .ok (.getfield 39, 3) := by decide +kernel
theorem dX2_enter_177 : decode cX2_enter 177 = .ok (.aload_n 0, 1) := by decide +kernel
theorem dX2_enter_178 : decode cX2_enter 178 = .ok (.getfield 124, 3) := by decide +kernel
theorem dX2_enter_181 : decode cX2_enter 181 = .ok (.iload 5, 2) := by decide +kernel
theorem dX2_enter_183 : decode cX2_enter 183 = .ok (.iastore, 1) := by decide +kernel
theorem dX2_enter_184 : decode cX2_enter 184 = .ok (.aload_n 0, 1) := by decide +kernel
theorem dX2_enter_185 : decode cX2_enter 185 = .ok (.dup, 1) := by decide +kernel
theorem dX2_enter_186 : decode cX2_enter 186 = .ok (.getfield 124, 3) := by decide +kernel
theorem dX2_enter_189 : decode cX2_enter 189 = .ok (.iconst 1, 1) := by decide +kernel
theorem dX2_enter_190 : decode cX2_enter 190 = .ok (.iadd, 1) := by decide +kernel
theorem dX2_enter_191 : decode cX2_enter 191 = .ok (.putfield 124, 3) := by decide +kernel
theorem dX2_enter_194 : decode cX2_enter 194 = .ok (.iinc 4 1, 3) := by decide +kernel
theorem dX2_enter_197 : decode cX2_enter 197 = .ok (.goto (-180), 3) := by decide +kernel
theorem dX2_enter_200 : decode cX2_enter 200 = .ok (.iconst (-1), 1) := by decide +kernel
theorem dX2_enter_201 : decode cX2_enter 201 = .ok (.ireturn, 1) := by decide +kernel
theorem dX2_unsettle_0 : decode cX2_unsettle 0 = .ok (.aload_n 0, 1) := by decide +kernel
theorem dX2_unsettle_1 : decode cX2_unsettle 1 = .ok (.getfield 124, 3) := by decide +kernel
theorem dX2_unsettle_4 : decode cX2_unsettle 4 = .ok (.iconst 1, 1) := by decide +kernel
theorem dX2_unsettle_5 : decode cX2_unsettle 5 = .ok (.isub, 1) := by decide +kernel
theorem dX2_unsettle_6 : decode cX2_unsettle 6 = .ok (.istore_n 3, 1) := by decide +kernel
theorem dX2_unsettle_7 : decode cX2_unsettle 7 = .ok (.iload_n 3, 1) := by decide +kernel
theorem dX2_unsettle_8 : decode cX2_unsettle 8 = .ok (.iload_n 2, 1) := by decide +kernel
theorem dX2_unsettle_9 : decode cX2_unsettle 9 = .ok (.if_icmp .lt 55, 3) := by decide +kernel
theorem dX2_unsettle_12 : decode cX2_unsettle 12 = .ok (.aload_n 0, 1) := by decide +kernel
theorem dX2_unsettle_13 : decode cX2_unsettle 13 = .ok (.getfield 39, 3) := by decide +kernel
theorem dX2_unsettle_16 : decode cX2_unsettle 16 = .ok (.iload_n 3, 1) := by decide +kernel
theorem dX2_unsettle_17 : decode cX2_unsettle 17 = .ok (.iaload, 1) := by decide +kernel
theorem dX2_unsettle_18 : decode cX2_unsettle 18 = .ok (.istore 4, 2) := by decide +kernel
theorem dX2_unsettle_20 : decode cX2_unsettle 20 = .ok (.aload_n 0, 1) := by decide +kernel
theorem dX2_unsettle_21 : decode cX2_unsettle 21 = .ok (.getfield 48, 3) := by decide +kernel
theorem dX2_unsettle_24 : decode cX2_unsettle 24 = .ok (.aload_n 0, 1) := by decide +kernel
theorem dX2_unsettle_25 : decode cX2_unsettle 25 = .ok (.getfield 36, 3) := by decide +kernel
theorem dX2_unsettle_28 : decode cX2_unsettle 28 = .ok (.iload 4, 2) := by decide +kernel
theorem dX2_unsettle_30 : decode cX2_unsettle 30 = .ok (.iaload, 1) := by decide +kernel
theorem dX2_unsettle_31 : decode cX2_unsettle 31 = .ok (.dup2, 1) := by decide +kernel
theorem dX2_unsettle_32 : decode cX2_unsettle 32 = .ok (.iaload, 1) := by decide +kernel
theorem dX2_unsettle_33 : decode cX2_unsettle 33 = .ok (.iconst 1, 1) := by decide +kernel
theorem dX2_unsettle_34 : decode cX2_unsettle 34 = .ok (.isub, 1) := by decide +kernel
theorem dX2_unsettle_35 : decode cX2_unsettle 35 = .ok (.iastore, 1) := by decide +kernel
theorem dX2_unsettle_36 : decode cX2_unsettle 36 = .ok (.aload_n 0, 1) := by decide +kernel
theorem dX2_unsettle_37 : decode cX2_unsettle 37 = .ok (.getfield 51, 3) := by decide +kernel
theorem dX2_unsettle_40 : decode cX2_unsettle 40 = .ok (.aload_n 0, 1) := by decide +kernel
theorem dX2_unsettle_41 : decode cX2_unsettle 41 = .ok (.getfield 36, 3) := by decide +kernel
theorem dX2_unsettle_44 : decode cX2_unsettle 44 = .ok (.iload 4, 2) := by decide +kernel
theorem dX2_unsettle_46 : decode cX2_unsettle 46 = .ok (.iaload, 1) := by decide +kernel
theorem dX2_unsettle_47 : decode cX2_unsettle 47 = .ok (.dup2, 1) := by decide +kernel
theorem dX2_unsettle_48 : decode cX2_unsettle 48 = .ok (.iaload, 1) := by decide +kernel
theorem dX2_unsettle_49 : decode cX2_unsettle 49 = .ok (.aload_n 0, 1) := by decide +kernel
theorem dX2_unsettle_50 : decode cX2_unsettle 50 = .ok (.getfield 27, 3) := by decide +kernel
theorem dX2_unsettle_53 : decode cX2_unsettle 53 = .ok (.iload 4, 2) := by decide +kernel
theorem dX2_unsettle_55 : decode cX2_unsettle 55 = .ok (.iaload, 1) := by decide +kernel
theorem dX2_unsettle_56 : decode cX2_unsettle 56 = .ok (.isub, 1) := by decide +kernel
theorem dX2_unsettle_57 : decode cX2_unsettle 57 = .ok (.iastore, 1) := by decide +kernel
theorem dX2_unsettle_58 : decode cX2_unsettle 58 = .ok (.iinc 3 (-1), 3) := by decide +kernel
theorem dX2_unsettle_61 : decode cX2_unsettle 61 = .ok (.goto (-54), 3) := by decide +kernel
theorem dX2_unsettle_64 : decode cX2_unsettle 64 = .ok (.aload_n 0, 1) := by decide +kernel
theorem dX2_unsettle_65 : decode cX2_unsettle 65 = .ok (.iload_n 2, 1) := by decide +kernel
theorem dX2_unsettle_66 : decode cX2_unsettle 66 = .ok (.putfield 124, 3) := by decide +kernel
theorem dX2_unsettle_69 : decode cX2_unsettle 69 = .ok (.aload_n 0, 1) := by decide +kernel
theorem dX2_unsettle_70 : decode cX2_unsettle 70 = .ok (.getfield 42, 3) := by decide +kernel
theorem dX2_unsettle_73 : decode cX2_unsettle 73 = .ok (.iload_n 1, 1) := by decide +kernel
theorem dX2_unsettle_74 : decode cX2_unsettle 74 = .ok (.iconst (-1), 1) := by decide +kernel
theorem dX2_unsettle_75 : decode cX2_unsettle 75 = .ok (.iastore, 1) := by decide +kernel
theorem dX2_unsettle_76 : decode cX2_unsettle 76 = .ok (.return_, 1) := by decide +kernel
set_option maxRecDepth 20000 in
theorem ggX2_hand_X1_clear : GoodIn wsX2_hand wsX1_clear := goodIn_r _ [9, 10, 11, 12, 13, 14, 15, 16, 38, 39, 40] (by decide +kernel) (by decide +kernel)
set_option maxRecDepth 20000 in
theorem gX2_hand_X1_clear : GoodIn wsX2_hand (wsV RX2 71 RX1 yX1_clear wsX1_clear) := goodIn_app (goodIn_of _ (by decide +kernel)) ggX2_hand_X1_clear
set_option maxRecDepth 20000 in
theorem ggX2_hand_X1_setMove : GoodIn wsX2_hand wsX1_setMove := goodIn_r _ [20, 10, 11, 38, 39, 40] (by decide +kernel) (by decide +kernel)
set_option maxRecDepth 20000 in
theorem gX2_hand_X1_setMove : GoodIn wsX2_hand (wsV RX2 145 RX1 yX1_setMove wsX1_setMove) := goodIn_app (goodIn_of _ (by decide +kernel)) ggX2_hand_X1_setMove
theorem dX2_hand_0 : decode cX2_hand 0 = .ok (.aload_n 1, 1) := by decide +kernel
theorem dX2_hand_1 : decode cX2_hand 1 = .ok (.aload_n 0, 1) := by decide +kernel
theorem dX2_hand_2 : decode cX2_hand 2 = .ok (.getfield 83, 3) := by decide +kernel
theorem dX2_hand_5 : decode cX2_hand 5 = .ok (.invokevirtual 71, 3) := by decide +kernel
theorem dX2_hand_8 : decode cX2_hand 8 = .ok (.iconst 0, 1) := by decide +kernel
theorem dX2_hand_9 : decode cX2_hand 9 = .ok (.istore_n 2, 1) := by decide +kernel
theorem dX2_hand_10 : decode cX2_hand 10 = .ok (.iload_n 2, 1) := by decide +kernel
theorem dX2_hand_11 : decode cX2_hand 11 = .ok (.bipush 12, 2) := by decide +kernel
theorem dX2_hand_13 : decode cX2_hand 13 = .ok (.if_icmp .ge 44, 3) := by decide +kernel
theorem dX2_hand_16 : decode cX2_hand 16 = .ok (.aload_n 0, 1) := by decide +kernel
theorem dX2_hand_17 : decode cX2_hand 17 = .ok (.getfield 42, 3) := by decide +kernel
theorem dX2_hand_20 : decode cX2_hand 20 = .ok (.iload_n 2, 1) := by decide +kernel
theorem dX2_hand_21 : decode cX2_hand 21 = .ok (.iaload, 1) := by decide +kernel
theorem dX2_hand_22 : decode cX2_hand 22 = .ok (.iconst (-1), 1) := by decide +kernel
theorem dX2_hand_23 : decode cX2_hand 23 = .ok (.if_icmp .eq 28, 3) := by decide +kernel
theorem dX2_hand_26 : decode cX2_hand 26 = .ok (.aload_n 1, 1) := by decide +kernel
theorem dX2_hand_27 : decode cX2_hand 27 = .ok (.iload_n 2, 1) := by decide +kernel
theorem dX2_hand_28 : decode cX2_hand 28 = .ok (.aload_n 0, 1) := by decide +kernel
theorem dX2_hand_29 : decode cX2_hand 29 = .ok (.getfield 42, 3) := by decide +kernel
theorem dX2_hand_32 : decode cX2_hand 32 = .ok (.iload_n 2, 1) := by decide +kernel
theorem dX2_hand_33 : decode cX2_hand 33 = .ok (.iaload, 1) := by decide +kernel
theorem dX2_hand_34 : decode cX2_hand 34 = .ok (.aload_n 0, 1) := by decide +kernel
theorem dX2_hand_35 : decode cX2_hand 35 = .ok (.getfield 18, 3) := by decide +kernel
theorem dX2_hand_38 : decode cX2_hand 38 = .ok (.aload_n 0, 1) := by decide +kernel
theorem dX2_hand_39 : decode cX2_hand 39 = .ok (.getfield 45, 3) := by decide +kernel
theorem dX2_hand_42 : decode cX2_hand 42 = .ok (.iload_n 2, 1) := by decide +kernel
theorem dX2_hand_43 : decode cX2_hand 43 = .ok (.bipush 97, 2) := by decide +kernel
theorem dX2_hand_45 : decode cX2_hand 45 = .ok (.imul, 1) := by decide +kernel
theorem dX2_hand_46 : decode cX2_hand 46 = .ok (.iaload, 1) := by decide +kernel
theorem dX2_hand_47 : decode cX2_hand 47 = .ok (.iaload, 1) := by decide +kernel
theorem dX2_hand_48 : decode cX2_hand 48 = .ok (.invokevirtual 145, 3) := by decide +kernel
theorem dX2_hand_51 : decode cX2_hand 51 = .ok (.iinc 2 1, 3) := by decide +kernel
theorem dX2_hand_54 : decode cX2_hand 54 = .ok (.goto (-44), 3) := by decide +kernel
theorem dX2_hand_57 : decode cX2_hand 57 = .ok (.return_, 1) := by decide +kernel
theorem dX3_init_0 : decode cX3_init 0 = .ok (.aload_n 0, 1) := by decide +kernel
theorem dX3_init_1 : decode cX3_init 1 = .ok (.invokespecial 3, 3) := by decide +kernel
theorem dX3_init_4 : decode cX3_init 4 = .ok (.aload_n 0, 1) := by decide +kernel
theorem dX3_init_5 : decode cX3_init 5 = .ok (.iconst 3, 1) := by decide +kernel
theorem dX3_init_6 : decode cX3_init 6 = .ok (.newarray .int, 2) := by decide +kernel
theorem dX3_init_8 : decode cX3_init 8 = .ok (.putfield 9, 3) := by decide +kernel
theorem dX3_init_11 : decode cX3_init 11 = .ok (.aload_n 0, 1) := by decide +kernel
theorem dX3_init_12 : decode cX3_init 12 = .ok (.bipush 100, 2) := by decide +kernel
theorem dX3_init_14 : decode cX3_init 14 = .ok (.newarray .int, 2) := by decide +kernel
theorem dX3_init_16 : decode cX3_init 16 = .ok (.putfield 15, 3) := by decide +kernel
theorem dX3_init_19 : decode cX3_init 19 = .ok (.return_, 1) := by decide +kernel
set_option maxRecDepth 20000 in
theorem ggX3_clear_J7_fill_53178 : GoodIn wsX3_clear wsJ7_fill_53178 := goodIn_r _ [6] (by decide +kernel) (by decide +kernel)
set_option maxRecDepth 20000 in
theorem gX3_clear_J7_fill_53178 : GoodIn wsX3_clear (va_wsS RX3 18 yJ7_fill_53178 wsJ7_fill_53178) := goodIn_app (goodIn_of _ (by decide +kernel)) ggX3_clear_J7_fill_53178
theorem dX3_clear_0 : decode cX3_clear 0 = .ok (.aload_n 0, 1) := by decide +kernel
theorem dX3_clear_1 : decode cX3_clear 1 = .ok (.getfield 9, 3) := by decide +kernel
theorem dX3_clear_4 : decode cX3_clear 4 = .ok (.iconst 0, 1) := by decide +kernel
theorem dX3_clear_5 : decode cX3_clear 5 = .ok (.invokestatic 18, 3) := by decide +kernel
theorem dX3_clear_8 : decode cX3_clear 8 = .ok (.aload_n 0, 1) := by decide +kernel
theorem dX3_clear_9 : decode cX3_clear 9 = .ok (.getfield 15, 3) := by decide +kernel
theorem dX3_clear_12 : decode cX3_clear 12 = .ok (.iconst (-1), 1) := by decide +kernel
theorem dX3_clear_13 : decode cX3_clear 13 = .ok (.invokestatic 18, 3) := by decide +kernel
theorem dX3_clear_16 : decode cX3_clear 16 = .ok (.return_, 1) := by decide +kernel
theorem dX3_note_0 : decode cX3_note 0 = .ok (.aload_n 0, 1) := by decide +kernel
theorem dX3_note_1 : decode cX3_note 1 = .ok (.getfield 9, 3) := by decide +kernel
theorem dX3_note_4 : decode cX3_note 4 = .ok (.iload_n 1, 1) := by decide +kernel
theorem dX3_note_5 : decode cX3_note 5 = .ok (.dup2, 1) := by decide +kernel
theorem dX3_note_6 : decode cX3_note 6 = .ok (.iaload, 1) := by decide +kernel
theorem dX3_note_7 : decode cX3_note 7 = .ok (.iconst 1, 1) := by decide +kernel
theorem dX3_note_8 : decode cX3_note 8 = .ok (.iadd, 1) := by decide +kernel
theorem dX3_note_9 : decode cX3_note 9 = .ok (.iastore, 1) := by decide +kernel
theorem dX3_note_10 : decode cX3_note 10 = .ok (.aload_n 0, 1) := by decide +kernel
theorem dX3_note_11 : decode cX3_note 11 = .ok (.getfield 15, 3) := by decide +kernel
theorem dX3_note_14 : decode cX3_note 14 = .ok (.iload_n 2, 1) := by decide +kernel
theorem dX3_note_15 : decode cX3_note 15 = .ok (.bipush 100, 2) := by decide +kernel
theorem dX3_note_17 : decode cX3_note 17 = .ok (.idiv, 1) := by decide +kernel
theorem dX3_note_18 : decode cX3_note 18 = .ok (.iload_n 2, 1) := by decide +kernel
theorem dX3_note_19 : decode cX3_note 19 = .ok (.bipush 100, 2) := by decide +kernel
theorem dX3_note_21 : decode cX3_note 21 = .ok (.irem, 1) := by decide +kernel
theorem dX3_note_22 : decode cX3_note 22 = .ok (.iastore, 1) := by decide +kernel
theorem dX3_note_23 : decode cX3_note 23 = .ok (.return_, 1) := by decide +kernel
theorem dX3_baseOf_0 : decode cX3_baseOf 0 = .ok (.iload_n 1, 1) := by decide +kernel
theorem dX3_baseOf_1 : decode cX3_baseOf 1 = .ok (.tableswitch 58 1 4 #[31, 36, 41, 48], 31) := by decide +kernel
theorem dX3_baseOf_32 : decode cX3_baseOf 32 = .ok (.iload_n 3, 1) := by decide +kernel
theorem dX3_baseOf_33 : decode cX3_baseOf 33 = .ok (.bipush 100, 2) := by decide +kernel
theorem dX3_baseOf_35 : decode cX3_baseOf 35 = .ok (.idiv, 1) := by decide +kernel
theorem dX3_baseOf_36 : decode cX3_baseOf 36 = .ok (.ireturn, 1) := by decide +kernel
theorem dX3_baseOf_37 : decode cX3_baseOf 37 = .ok (.iload_n 3, 1) := by decide +kernel
theorem dX3_baseOf_38 : decode cX3_baseOf 38 = .ok (.bipush 100, 2) := by decide +kernel
theorem dX3_baseOf_40 : decode cX3_baseOf 40 = .ok (.irem, 1) := by decide +kernel
theorem dX3_baseOf_41 : decode cX3_baseOf 41 = .ok (.ireturn, 1) := by decide +kernel
theorem dX3_baseOf_42 : decode cX3_baseOf 42 = .ok (.aload_n 0, 1) := by decide +kernel
theorem dX3_baseOf_43 : decode cX3_baseOf 43 = .ok (.getfield 9, 3) := by decide +kernel
theorem dX3_baseOf_46 : decode cX3_baseOf 46 = .ok (.iload_n 2, 1) := by decide +kernel
theorem dX3_baseOf_47 : decode cX3_baseOf 47 = .ok (.iaload, 1) := by decide +kernel
theorem dX3_baseOf_48 : decode cX3_baseOf 48 = .ok (.ireturn, 1) := by decide +kernel
theorem dX3_baseOf_49 : decode cX3_baseOf 49 = .ok (.aload_n 0, 1) := by decide +kernel
theorem dX3_baseOf_50 : decode cX3_baseOf 50 = .ok (.getfield 15, 3) := by decide +kernel
theorem dX3_baseOf_53 : decode cX3_baseOf 53 = .ok (.iload_n 3, 1) := by decide +kernel
theorem dX3_baseOf_54 : decode cX3_baseOf 54 = .ok (.bipush 100, 2) := by decide +kernel
theorem dX3_baseOf_56 : decode cX3_baseOf 56 = .ok (.idiv, 1) := by decide +kernel
theorem dX3_baseOf_57 : decode cX3_baseOf 57 = .ok (.iaload, 1) := by decide +kernel
theorem dX3_baseOf_58 : decode cX3_baseOf 58 = .ok (.ireturn, 1) := by decide +kernel
theorem dX3_baseOf_59 : decode cX3_baseOf 59 = .ok (.iconst 0, 1) := by decide +kernel
theorem dX3_baseOf_60 : decode cX3_baseOf 60 = .ok (.ireturn, 1) := by decide +kernel
theorem dX3_copy_0 : decode cX3_copy 0 = .ok (.aload_n 1, 1) := by decide +kernel
theorem dX3_copy_1 : decode cX3_copy 1 = .ok (.getfield 9, 3) := by decide +kernel
theorem dX3_copy_4 : decode cX3_copy 4 = .ok (.iconst 0, 1) := by decide +kernel
theorem dX3_copy_5 : decode cX3_copy 5 = .ok (.aload_n 0, 1) := by decide +kernel
theorem dX3_copy_6 : decode cX3_copy 6 = .ok (.getfield 9, 3) := by decide +kernel
theorem dX3_copy_9 : decode cX3_copy 9 = .ok (.iconst 0, 1) := by decide +kernel
theorem dX3_copy_10 : decode cX3_copy 10 = .ok (.iconst 3, 1) := by decide +kernel
theorem dX3_copy_11 : decode cX3_copy 11 = .ok (.invokestatic 24, 3) := by decide +kernel
theorem dX3_copy_14 : decode cX3_copy 14 = .ok (.aload_n 1, 1) := by decide +kernel
theorem dX3_copy_15 : decode cX3_copy 15 = .ok (.getfield 15, 3) := by decide +kernel
theorem dX3_copy_18 : decode cX3_copy 18 = .ok (.iconst 0, 1) := by decide +kernel
theorem dX3_copy_19 : decode cX3_copy 19 = .ok (.aload_n 0, 1) := by decide +kernel
theorem dX3_copy_20 : decode cX3_copy 20 = .ok (.getfield 15, 3) := by decide +kernel
theorem dX3_copy_23 : decode cX3_copy 23 = .ok (.iconst 0, 1) := by decide +kernel
theorem dX3_copy_24 : decode cX3_copy 24 = .ok (.bipush 100, 2) := by decide +kernel
theorem dX3_copy_26 : decode cX3_copy 26 = .ok (.invokestatic 24, 3) := by decide +kernel
theorem dX3_copy_29 : decode cX3_copy 29 = .ok (.return_, 1) := by decide +kernel
theorem dX4_init_0 : decode cX4_init 0 = .ok (.aload_n 0, 1) := by decide +kernel
theorem dX4_init_1 : decode cX4_init 1 = .ok (.invokespecial 3, 3) := by decide +kernel
theorem dX4_init_4 : decode cX4_init 4 = .ok (.aload_n 0, 1) := by decide +kernel
theorem dX4_init_5 : decode cX4_init 5 = .ok (.bipush 8, 2) := by decide +kernel
theorem dX4_init_7 : decode cX4_init 7 = .ok (.newarray .int, 2) := by decide +kernel
theorem dX4_init_9 : decode cX4_init 9 = .ok (.putfield 9, 3) := by decide +kernel
theorem dX4_init_12 : decode cX4_init 12 = .ok (.aload_n 0, 1) := by decide +kernel
theorem dX4_init_13 : decode cX4_init 13 = .ok (.bipush 96, 2) := by decide +kernel
theorem dX4_init_15 : decode cX4_init 15 = .ok (.newarray .int, 2) := by decide +kernel
theorem dX4_init_17 : decode cX4_init 17 = .ok (.putfield 15, 3) := by decide +kernel
theorem dX4_init_20 : decode cX4_init 20 = .ok (.aload_n 0, 1) := by decide +kernel
theorem dX4_init_21 : decode cX4_init 21 = .ok (.bipush 96, 2) := by decide +kernel
theorem dX4_init_23 : decode cX4_init 23 = .ok (.newarray .int, 2) := by decide +kernel
theorem dX4_init_25 : decode cX4_init 25 = .ok (.putfield 18, 3) := by decide +kernel
theorem dX4_init_28 : decode cX4_init 28 = .ok (.aload_n 0, 1) := by decide +kernel
theorem dX4_init_29 : decode cX4_init 29 = .ok (.bipush 96, 2) := by decide +kernel
theorem dX4_init_31 : decode cX4_init 31 = .ok (.newarray .int, 2) := by decide +kernel
theorem dX4_init_33 : decode cX4_init 33 = .ok (.putfield 21, 3) := by decide +kernel
theorem dX4_init_36 : decode cX4_init 36 = .ok (.return_, 1) := by decide +kernel
theorem dX4_open_0 : decode cX4_open 0 = .ok (.aload_n 0, 1) := by decide +kernel
theorem dX4_open_1 : decode cX4_open 1 = .ok (.getfield 24, 3) := by decide +kernel
theorem dX4_open_4 : decode cX4_open 4 = .ok (.bipush 8, 2) := by decide +kernel
theorem dX4_open_6 : decode cX4_open 6 = .ok (.if_icmp .lt 5, 3) := by decide +kernel
theorem dX4_open_9 : decode cX4_open 9 = .ok (.iconst (-1), 1) := by decide +kernel
theorem dX4_open_10 : decode cX4_open 10 = .ok (.ireturn, 1) := by decide +kernel
theorem dX4_open_11 : decode cX4_open 11 = .ok (.aload_n 0, 1) := by decide +kernel
theorem dX4_open_12 : decode cX4_open 12 = .ok (.getfield 9, 3) := by decide +kernel
theorem dX4_open_15 : decode cX4_open 15 = .ok (.aload_n 0, 1) := by decide +kernel
theorem dX4_open_16 : decode cX4_open 16 = .ok (.getfield 24, 3) := by decide +kernel
theorem dX4_open_19 : decode cX4_open 19 = .ok (.iconst 0, 1) := by decide +kernel
theorem dX4_open_20 : decode cX4_open 20 = .ok (.iastore, 1) := by decide +kernel
theorem dX4_open_21 : decode cX4_open 21 = .ok (.aload_n 0, 1) := by decide +kernel
theorem dX4_open_22 : decode cX4_open 22 = .ok (.dup, 1) := by decide +kernel
theorem dX4_open_23 : decode cX4_open 23 = .ok (.getfield 24, 3) := by decide +kernel
theorem dX4_open_26 : decode cX4_open 26 = .ok (.iconst 1, 1) := by decide +kernel
theorem dX4_open_27 : decode cX4_open 27 = .ok (.iadd, 1) := by decide +kernel
theorem dX4_open_28 : decode cX4_open 28 = .ok (.putfield 24, 3) := by decide +kernel
theorem dX4_open_31 : decode cX4_open 31 = .ok (.aload_n 0, 1) := by decide +kernel
theorem dX4_open_32 : decode cX4_open 32 = .ok (.getfield 24, 3) := by decide +kernel
theorem dX4_open_35 : decode cX4_open 35 = .ok (.iconst 1, 1) := by decide +kernel
theorem dX4_open_36 : decode cX4_open 36 = .ok (.isub, 1) := by decide +kernel
theorem dX4_open_37 : decode cX4_open 37 = .ok (.ireturn, 1) := by decide +kernel
set_option maxRecDepth 20000 in
theorem ggX4_append_X4_has : GoodIn wsX4_append wsX4_has := goodIn_r _ [9, 10, 11, 12, 13, 14, 15] (by decide +kernel) (by decide +kernel)
set_option maxRecDepth 20000 in
theorem gX4_append_X4_has : GoodIn wsX4_append (wsV RX4 28 RX4 yX4_has wsX4_has) := goodIn_app (goodIn_of _ (by decide +kernel)) ggX4_append_X4_has
theorem dX4_append_0 : decode cX4_append 0 = .ok (.aload_n 0, 1) := by decide +kernel
theorem dX4_append_1 : decode cX4_append 1 = .ok (.iload_n 1, 1) := by decide +kernel
theorem dX4_append_2 : decode cX4_append 2 = .ok (.invokevirtual 28, 3) := by decide +kernel
theorem dX4_append_5 : decode cX4_append 5 = .ok (.ifCond .eq 14, 3) := by decide +kernel
theorem dX4_append_8 : decode cX4_append 8 = .ok (.aload_n 0, 1) := by decide +kernel
theorem dX4_append_9 : decode cX4_append 9 = .ok (.getfield 9, 3) := by decide +kernel
theorem dX4_append_12 : decode cX4_append 12 = .ok (.iload_n 1, 1) := by decide +kernel
theorem dX4_append_13 : decode cX4_append 13 = .ok (.iaload, 1) := by decide +kernel
theorem dX4_append_14 : decode cX4_append 14 = .ok (.bipush 12, 2) := by decide +kernel
theorem dX4_append_16 : decode cX4_append 16 = .ok (.if_icmp .lt 5, 3) := by decide +kernel
theorem dX4_append_19 : decode cX4_append 19 = .ok (.iconst (-1), 1) := by decide +kernel
theorem dX4_append_20 : decode cX4_append 20 = .ok (.ireturn, 1) := by decide +kernel
theorem dX4_append_21 : decode cX4_append 21 = .ok (.aload_n 0, 1) := by decide +kernel
theorem dX4_append_22 : decode cX4_append 22 = .ok (.getfield 9, 3) := by decide +kernel
theorem dX4_append_25 : decode cX4_append 25 = .ok (.iload_n 1, 1) := by decide +kernel
theorem dX4_append_26 : decode cX4_append 26 = .ok (.iaload, 1) := by decide +kernel
theorem dX4_append_27 : decode cX4_append 27 = .ok (.istore 5, 2) := by decide +kernel
theorem dX4_append_29 : decode cX4_append 29 = .ok (.iload_n 1, 1) := by decide +kernel
theorem dX4_append_30 : decode cX4_append 30 = .ok (.bipush 12, 2) := by decide +kernel
theorem dX4_append_32 : decode cX4_append 32 = .ok (.imul, 1) := by decide +kernel
theorem dX4_append_33 : decode cX4_append 33 = .ok (.iload 5, 2) := by decide +kernel
theorem dX4_append_35 : decode cX4_append 35 = .ok (.iadd, 1) := by decide +kernel
theorem dX4_append_36 : decode cX4_append 36 = .ok (.istore 6, 2) := by decide +kernel
theorem dX4_append_38 : decode cX4_append 38 = .ok (.aload_n 0, 1) := by decide +kernel
theorem dX4_append_39 : decode cX4_append 39 = .ok (.getfield 15, 3) := by decide +kernel
theorem dX4_append_42 : decode cX4_append 42 = .ok (.iload 6, 2) := by decide +kernel
theorem dX4_append_44 : decode cX4_append 44 = .ok (.iload_n 2, 1) := by decide +kernel
theorem dX4_append_45 : decode cX4_append 45 = .ok (.iastore, 1) := by decide +kernel
theorem dX4_append_46 : decode cX4_append 46 = .ok (.aload_n 0, 1) := by decide +kernel
theorem dX4_append_47 : decode cX4_append 47 = .ok (.getfield 18, 3) := by decide +kernel
theorem dX4_append_50 : decode cX4_append 50 = .ok (.iload 6, 2) := by decide +kernel
theorem dX4_append_52 : decode cX4_append 52 = .ok (.iload_n 3, 1) := by decide +kernel
theorem dX4_append_53 : decode cX4_append 53 = .ok (.iastore, 1) := by decide +kernel
theorem dX4_append_54 : decode cX4_append 54 = .ok (.aload_n 0, 1) := by decide +kernel
theorem dX4_append_55 : decode cX4_append 55 = .ok (.getfield 21, 3) := by decide +kernel
theorem dX4_append_58 : decode cX4_append 58 = .ok (.iload 6, 2) := by decide +kernel
theorem dX4_append_60 : decode cX4_append 60 = .ok (.iload 4, 2) := by decide +kernel
theorem dX4_append_62 : decode cX4_append 62 = .ok (.iastore, 1) := by decide +kernel
theorem dX4_append_63 : decode cX4_append 63 = .ok (.aload_n 0, 1) := by decide +kernel
theorem dX4_append_64 : decode cX4_append 64 = .ok (.getfield 9, 3) := by decide +kernel
theorem dX4_append_67 : decode cX4_append 67 = .ok (.iload_n 1, 1) := by decide +kernel
theorem dX4_append_68 : decode cX4_append 68 = .ok (.dup2, 1) := by decide +kernel
theorem dX4_append_69 : decode cX4_append 69 = .ok (.iaload, 1) := by decide +kernel
theorem dX4_append_70 : decode cX4_append 70 = .ok (.iconst 1, 1) := by decide +kernel
theorem dX4_append_71 : decode cX4_append 71 = .ok (.iadd, 1) := by decide +kernel
theorem dX4_append_72 : decode cX4_append 72 = .ok (.iastore, 1) := by decide +kernel
theorem dX4_append_73 : decode cX4_append 73 = .ok (.iload 5, 2) := by decide +kernel
theorem dX4_append_75 : decode cX4_append 75 = .ok (.ireturn, 1) := by decide +kernel
set_option maxRecDepth 20000 in
theorem ggX4_shorten_X4_has : GoodIn wsX4_shorten wsX4_has := goodIn_r _ [6, 7, 8, 9, 10, 11, 12] (by decide +kernel) (by decide +kernel)
set_option maxRecDepth 20000 in
theorem gX4_shorten_X4_has : GoodIn wsX4_shorten (wsV RX4 28 RX4 yX4_has wsX4_has) := goodIn_app (goodIn_of _ (by decide +kernel)) ggX4_shorten_X4_has
theorem dX4_shorten_0 : decode cX4_shorten 0 = .ok (.aload_n 0, 1) := by decide +kernel
theorem dX4_shorten_1 : decode cX4_shorten 1 = .ok (.iload_n 1, 1) := by decide +kernel
theorem dX4_shorten_2 : decode cX4_shorten 2 = .ok (.invokevirtual 28, 3) := by decide +kernel
theorem dX4_shorten_5 : decode cX4_shorten 5 = .ok (.ifCond .eq 17, 3) := by decide +kernel
theorem dX4_shorten_8 : decode cX4_shorten 8 = .ok (.iload_n 2, 1) := by decide +kernel
theorem dX4_shorten_9 : decode cX4_shorten 9 = .ok (.ifCond .lt 13, 3) := by decide +kernel
theorem dX4_shorten_12 : decode cX4_shorten 12 = .ok (.iload_n 2, 1) := by decide +kernel
theorem dX4_shorten_13 : decode cX4_shorten 13 = .ok (.aload_n 0, 1) := by decide +kernel
theorem dX4_shorten_14 : decode cX4_shorten 14 = .ok (.getfield 9, 3) := by decide +kernel
theorem dX4_shorten_17 : decode cX4_shorten 17 = .ok (.iload_n 1, 1) := by decide +kernel
theorem dX4_shorten_18 : decode cX4_shorten 18 = .ok (.iaload, 1) := by decide +kernel
theorem dX4_shorten_19 : decode cX4_shorten 19 = .ok (.if_icmp .le 5, 3) := by decide +kernel
theorem dX4_shorten_22 : decode cX4_shorten 22 = .ok (.iconst 0, 1) := by decide +kernel
theorem dX4_shorten_23 : decode cX4_shorten 23 = .ok (.ireturn, 1) := by decide +kernel
theorem dX4_shorten_24 : decode cX4_shorten 24 = .ok (.aload_n 0, 1) := by decide +kernel
theorem dX4_shorten_25 : decode cX4_shorten 25 = .ok (.getfield 9, 3) := by decide +kernel
theorem dX4_shorten_28 : decode cX4_shorten 28 = .ok (.iload_n 1, 1) := by decide +kernel
theorem dX4_shorten_29 : decode cX4_shorten 29 = .ok (.iload_n 2, 1) := by decide +kernel
theorem dX4_shorten_30 : decode cX4_shorten 30 = .ok (.iastore, 1) := by decide +kernel
theorem dX4_shorten_31 : decode cX4_shorten 31 = .ok (.iconst 1, 1) := by decide +kernel
theorem dX4_shorten_32 : decode cX4_shorten 32 = .ok (.ireturn, 1) := by decide +kernel
theorem dX4_has_0 : decode cX4_has 0 = .ok (.iload_n 1, 1) := by decide +kernel
theorem dX4_has_1 : decode cX4_has 1 = .ok (.ifCond .lt 15, 3) := by decide +kernel
theorem dX4_has_4 : decode cX4_has 4 = .ok (.iload_n 1, 1) := by decide +kernel
theorem dX4_has_5 : decode cX4_has 5 = .ok (.aload_n 0, 1) := by decide +kernel
theorem dX4_has_6 : decode cX4_has 6 = .ok (.getfield 24, 3) := by decide +kernel
theorem dX4_has_9 : decode cX4_has 9 = .ok (.if_icmp .ge 7, 3) := by decide +kernel
theorem dX4_has_12 : decode cX4_has 12 = .ok (.iconst 1, 1) := by decide +kernel
theorem dX4_has_13 : decode cX4_has 13 = .ok (.goto 4, 3) := by decide +kernel
theorem dX4_has_16 : decode cX4_has 16 = .ok (.iconst 0, 1) := by decide +kernel
theorem dX4_has_17 : decode cX4_has 17 = .ok (.ireturn, 1) := by decide +kernel
theorem dX4_size_0 : decode cX4_size 0 = .ok (.aload_n 0, 1) := by decide +kernel
theorem dX4_size_1 : decode cX4_size 1 = .ok (.getfield 24, 3) := by decide +kernel
theorem dX4_size_4 : decode cX4_size 4 = .ok (.ireturn, 1) := by decide +kernel
theorem dX4_length_0 : decode cX4_length 0 = .ok (.iload_n 1, 1) := by decide +kernel
theorem dX4_length_1 : decode cX4_length 1 = .ok (.ifCond .lt 20, 3) := by decide +kernel
theorem dX4_length_4 : decode cX4_length 4 = .ok (.iload_n 1, 1) := by decide +kernel
theorem dX4_length_5 : decode cX4_length 5 = .ok (.aload_n 0, 1) := by decide +kernel
theorem dX4_length_6 : decode cX4_length 6 = .ok (.getfield 24, 3) := by decide +kernel
theorem dX4_length_9 : decode cX4_length 9 = .ok (.if_icmp .ge 12, 3) := by decide +kernel
theorem dX4_length_12 : decode cX4_length 12 = .ok (.aload_n 0, 1) := by decide +kernel
theorem dX4_length_13 : decode cX4_length 13 = .ok (.getfield 9, 3) := by decide +kernel
theorem dX4_length_16 : decode cX4_length 16 = .ok (.iload_n 1, 1) := by decide +kernel
theorem dX4_length_17 : decode cX4_length 17 = .ok (.iaload, 1) := by decide +kernel
theorem dX4_length_18 : decode cX4_length 18 = .ok (.goto 4, 3) := by decide +kernel
theorem dX4_length_21 : decode cX4_length 21 = .ok (.iconst 0, 1) := by decide +kernel
theorem dX4_length_22 : decode cX4_length 22 = .ok (.ireturn, 1) := by decide +kernel
theorem dX4_verbAt_0 : decode cX4_verbAt 0 = .ok (.aload_n 0, 1) := by decide +kernel
theorem dX4_verbAt_1 : decode cX4_verbAt 1 = .ok (.getfield 15, 3) := by decide +kernel
theorem dX4_verbAt_4 : decode cX4_verbAt 4 = .ok (.iload_n 1, 1) := by decide +kernel
theorem dX4_verbAt_5 : decode cX4_verbAt 5 = .ok (.bipush 12, 2) := by decide +kernel
theorem dX4_verbAt_7 : decode cX4_verbAt 7 = .ok (.imul, 1) := by decide +kernel
theorem dX4_verbAt_8 : decode cX4_verbAt 8 = .ok (.iload_n 2, 1) := by decide +kernel
theorem dX4_verbAt_9 : decode cX4_verbAt 9 = .ok (.iadd, 1) := by decide +kernel
theorem dX4_verbAt_10 : decode cX4_verbAt 10 = .ok (.iaload, 1) := by decide +kernel
theorem dX4_verbAt_11 : decode cX4_verbAt 11 = .ok (.ireturn, 1) := by decide +kernel
theorem dX4_askAt_0 : decode cX4_askAt 0 = .ok (.aload_n 0, 1) := by decide +kernel
theorem dX4_askAt_1 : decode cX4_askAt 1 = .ok (.getfield 18, 3) := by decide +kernel
theorem dX4_askAt_4 : decode cX4_askAt 4 = .ok (.iload_n 1, 1) := by decide +kernel
theorem dX4_askAt_5 : decode cX4_askAt 5 = .ok (.bipush 12, 2) := by decide +kernel
theorem dX4_askAt_7 : decode cX4_askAt 7 = .ok (.imul, 1) := by decide +kernel
theorem dX4_askAt_8 : decode cX4_askAt 8 = .ok (.iload_n 2, 1) := by decide +kernel
theorem dX4_askAt_9 : decode cX4_askAt 9 = .ok (.iadd, 1) := by decide +kernel
theorem dX4_askAt_10 : decode cX4_askAt 10 = .ok (.iaload, 1) := by decide +kernel
theorem dX4_askAt_11 : decode cX4_askAt 11 = .ok (.ireturn, 1) := by decide +kernel
theorem dX4_answerAt_0 : decode cX4_answerAt 0 = .ok (.aload_n 0, 1) := by decide +kernel
theorem dX4_answerAt_1 : decode cX4_answerAt 1 = .ok (.getfield 21, 3) := by decide +kernel
theorem dX4_answerAt_4 : decode cX4_answerAt 4 = .ok (.iload_n 1, 1) := by decide +kernel
theorem dX4_answerAt_5 : decode cX4_answerAt 5 = .ok (.bipush 12, 2) := by decide +kernel
theorem dX4_answerAt_7 : decode cX4_answerAt 7 = .ok (.imul, 1) := by decide +kernel
theorem dX4_answerAt_8 : decode cX4_answerAt 8 = .ok (.iload_n 2, 1) := by decide +kernel
theorem dX4_answerAt_9 : decode cX4_answerAt 9 = .ok (.iadd, 1) := by decide +kernel
theorem dX4_answerAt_10 : decode cX4_answerAt 10 = .ok (.iaload, 1) := by decide +kernel
theorem dX4_answerAt_11 : decode cX4_answerAt 11 = .ok (.ireturn, 1) := by decide +kernel
theorem dX4_exchanges_0 : decode cX4_exchanges 0 = .ok (.iconst 0, 1) := by decide +kernel
theorem dX4_exchanges_1 : decode cX4_exchanges 1 = .ok (.istore_n 1, 1) := by decide +kernel
theorem dX4_exchanges_2 : decode cX4_exchanges 2 = .ok (.iconst 0, 1) := by decide +kernel
theorem dX4_exchanges_3 : decode cX4_exchanges 3 = .ok (.istore_n 2, 1) := by decide +kernel
theorem dX4_exchanges_4 : decode cX4_exchanges 4 = .ok (.iload_n 2, 1) := by decide +kernel
theorem dX4_exchanges_5 : decode cX4_exchanges 5 = .ok (.aload_n 0, 1) := by decide +kernel
theorem dX4_exchanges_6 : decode cX4_exchanges 6 = .ok (.getfield 24, 3) := by decide +kernel
theorem dX4_exchanges_9 : decode cX4_exchanges 9 = .ok (.if_icmp .ge 18, 3) := by decide +kernel
theorem dX4_exchanges_12 : decode cX4_exchanges 12 = .ok (.iload_n 1, 1) := by decide +kernel
theorem dX4_exchanges_13 : decode cX4_exchanges 13 = .ok (.aload_n 0, 1) := by decide +kernel
theorem dX4_exchanges_14 : decode cX4_exchanges 14 = .ok (.getfield 9, 3) := by decide +kernel
theorem dX4_exchanges_17 : decode cX4_exchanges 17 = .ok (.iload_n 2, 1) := by decide +kernel
theorem dX4_exchanges_18 : decode cX4_exchanges 18 = .ok (.iaload, 1) := by decide +kernel
theorem dX4_exchanges_19 : decode cX4_exchanges 19 = .ok (.iadd, 1) := by decide +kernel
theorem dX4_exchanges_20 : decode cX4_exchanges 20 = .ok (.istore_n 1, 1) := by decide +kernel
theorem dX4_exchanges_21 : decode cX4_exchanges 21 = .ok (.iinc 2 1, 3) := by decide +kernel
theorem dX4_exchanges_24 : decode cX4_exchanges 24 = .ok (.goto (-20), 3) := by decide +kernel
theorem dX4_exchanges_27 : decode cX4_exchanges 27 = .ok (.iload_n 1, 1) := by decide +kernel
theorem dX4_exchanges_28 : decode cX4_exchanges 28 = .ok (.ireturn, 1) := by decide +kernel
set_option maxRecDepth 20000 in
theorem ggX4_exchangesOf_X4_verbAt : GoodIn wsX4_exchangesOf wsX4_verbAt := goodIn_r _ [7, 8, 9, 10, 11, 12, 13] (by decide +kernel) (by decide +kernel)
set_option maxRecDepth 20000 in
theorem gX4_exchangesOf_X4_verbAt : GoodIn wsX4_exchangesOf (wsV RX4 32 RX4 yX4_verbAt wsX4_verbAt) := goodIn_app (goodIn_of _ (by decide +kernel)) ggX4_exchangesOf_X4_verbAt
theorem dX4_exchangesOf_0 : decode cX4_exchangesOf 0 = .ok (.iconst 0, 1) := by decide +kernel
theorem dX4_exchangesOf_1 : decode cX4_exchangesOf 1 = .ok (.istore_n 2, 1) := by decide +kernel
theorem dX4_exchangesOf_2 : decode cX4_exchangesOf 2 = .ok (.iconst 0, 1) := by decide +kernel
theorem dX4_exchangesOf_3 : decode cX4_exchangesOf 3 = .ok (.istore_n 3, 1) := by decide +kernel
theorem dX4_exchangesOf_4 : decode cX4_exchangesOf 4 = .ok (.iload_n 3, 1) := by decide +kernel
theorem dX4_exchangesOf_5 : decode cX4_exchangesOf 5 = .ok (.aload_n 0, 1) := by decide +kernel
theorem dX4_exchangesOf_6 : decode cX4_exchangesOf 6 = .ok (.getfield 24, 3) := by decide +kernel
theorem dX4_exchangesOf_9 : decode cX4_exchangesOf 9 = .ok (.if_icmp .ge 48, 3) := by decide +kernel
theorem dX4_exchangesOf_12 : decode cX4_exchangesOf 12 = .ok (.iconst 0, 1) := by decide +kernel
theorem dX4_exchangesOf_13 : decode cX4_exchangesOf 13 = .ok (.istore 4, 2) := by decide +kernel
theorem dX4_exchangesOf_15 : decode cX4_exchangesOf 15 = .ok (.iload 4, 2) := by decide +kernel
theorem dX4_exchangesOf_17 : decode cX4_exchangesOf 17 = .ok (.aload_n 0, 1) := by decide +kernel
theorem dX4_exchangesOf_18 : decode cX4_exchangesOf 18 = .ok (.getfield 9, 3) := by decide +kernel
theorem dX4_exchangesOf_21 : decode cX4_exchangesOf 21 = .ok (.iload_n 3, 1) := by decide +kernel
theorem dX4_exchangesOf_22 : decode cX4_exchangesOf 22 = .ok (.iaload, 1) := by decide +kernel
theorem dX4_exchangesOf_23 : decode cX4_exchangesOf 23 = .ok (.if_icmp .ge 28, 3) := by decide +kernel
theorem dX4_exchangesOf_26 : decode cX4_exchangesOf 26 = .ok (.iload_n 2, 1) := by decide +kernel
theorem dX4_exchangesOf_27 : decode cX4_exchangesOf 27 = .ok (.aload_n 0, 1) := by decide +kernel
theorem dX4_exchangesOf_28 : decode cX4_exchangesOf 28 = .ok (.iload_n 3, 1) := by decide +kernel
theorem dX4_exchangesOf_29 : decode cX4_exchangesOf 29 = .ok (.iload 4, 2) := by decide +kernel
theorem dX4_exchangesOf_31 : decode cX4_exchangesOf 31 = .ok (.invokevirtual 32, 3) := by decide +kernel
theorem dX4_exchangesOf_34 : decode cX4_exchangesOf 34 = .ok (.iload_n 1, 1) := by decide +kernel
theorem dX4_exchangesOf_35 : decode cX4_exchangesOf 35 = .ok (.if_icmp .ne 7, 3) := by decide +kernel
theorem dX4_exchangesOf_38 : decode cX4_exchangesOf 38 = .ok (.iconst 1, 1) := by decide +kernel
theorem dX4_exchangesOf_39 : decode cX4_exchangesOf 39 = .ok (.goto 4, 3) := by decide +kernel
theorem dX4_exchangesOf_42 : decode cX4_exchangesOf 42 = .ok (.iconst 0, 1) := by decide +kernel
theorem dX4_exchangesOf_43 : decode cX4_exchangesOf 43 = .ok (.iadd, 1) := by decide +kernel
theorem dX4_exchangesOf_44 : decode cX4_exchangesOf 44 = .ok (.istore_n 2, 1) := by decide +kernel
theorem dX4_exchangesOf_45 : decode cX4_exchangesOf 45 = .ok (.iinc 4 1, 3) := by decide +kernel
theorem dX4_exchangesOf_48 : decode cX4_exchangesOf 48 = .ok (.goto (-33), 3) := by decide +kernel
theorem dX4_exchangesOf_51 : decode cX4_exchangesOf 51 = .ok (.iinc 3 1, 3) := by decide +kernel
theorem dX4_exchangesOf_54 : decode cX4_exchangesOf 54 = .ok (.goto (-50), 3) := by decide +kernel
theorem dX4_exchangesOf_57 : decode cX4_exchangesOf 57 = .ok (.iload_n 2, 1) := by decide +kernel
theorem dX4_exchangesOf_58 : decode cX4_exchangesOf 58 = .ok (.ireturn, 1) := by decide +kernel
set_option maxRecDepth 20000 in
theorem ggX4_quarrelPlace_X4_verbAt : GoodIn wsX4_quarrelPlace wsX4_verbAt := goodIn_r _ [10, 11, 20, 21, 22, 23, 24] (by decide +kernel) (by decide +kernel)
set_option maxRecDepth 20000 in
theorem gX4_quarrelPlace_X4_verbAt : GoodIn wsX4_quarrelPlace (wsV RX4 32 RX4 yX4_verbAt wsX4_verbAt) := goodIn_app (goodIn_of _ (by decide +kernel)) ggX4_quarrelPlace_X4_verbAt
set_option maxRecDepth 20000 in
theorem ggX4_quarrelPlace_X4_answerAt : GoodIn wsX4_quarrelPlace wsX4_answerAt := goodIn_r _ [15, 16, 20, 21, 22, 23, 24] (by decide +kernel) (by decide +kernel)
set_option maxRecDepth 20000 in
theorem gX4_quarrelPlace_X4_answerAt : GoodIn wsX4_quarrelPlace (wsV RX4 41 RX4 yX4_answerAt wsX4_answerAt) := goodIn_app (goodIn_of _ (by decide +kernel)) ggX4_quarrelPlace_X4_answerAt
set_option maxRecDepth 20000 in
theorem ggX4_quarrelPlace_X9_codeOf : GoodIn wsX4_quarrelPlace wsX9_codeOf := goodIn_r _ [19] (by decide +kernel) (by decide +kernel)
set_option maxRecDepth 20000 in
theorem gX4_quarrelPlace_X9_codeOf_n44 : GoodIn wsX4_quarrelPlace (wsX9_codeOf) := ggX4_quarrelPlace_X9_codeOf
theorem dX4_quarrelPlace_0 : decode cX4_quarrelPlace 0 = .ok (.aload_n 0, 1) := by decide +kernel
theorem dX4_quarrelPlace_1 : decode cX4_quarrelPlace 1 = .ok (.getfield 9, 3) := by decide +kernel
theorem dX4_quarrelPlace_4 : decode cX4_quarrelPlace 4 = .ok (.iload_n 1, 1) := by decide +kernel
theorem dX4_quarrelPlace_5 : decode cX4_quarrelPlace 5 = .ok (.iaload, 1) := by decide +kernel
theorem dX4_quarrelPlace_6 : decode cX4_quarrelPlace 6 = .ok (.aload_n 0, 1) := by decide +kernel
theorem dX4_quarrelPlace_7 : decode cX4_quarrelPlace 7 = .ok (.getfield 9, 3) := by decide +kernel
theorem dX4_quarrelPlace_10 : decode cX4_quarrelPlace 10 = .ok (.iload_n 2, 1) := by decide +kernel
theorem dX4_quarrelPlace_11 : decode cX4_quarrelPlace 11 = .ok (.iaload, 1) := by decide +kernel
theorem dX4_quarrelPlace_12 : decode cX4_quarrelPlace 12 = .ok (.invokestatic 36, 3) := by decide +kernel
theorem dX4_quarrelPlace_15 : decode cX4_quarrelPlace 15 = .ok (.istore_n 3, 1) := by decide +kernel
theorem dX4_quarrelPlace_16 : decode cX4_quarrelPlace 16 = .ok (.iconst 0, 1) := by decide +kernel
theorem dX4_quarrelPlace_17 : decode cX4_quarrelPlace 17 = .ok (.istore 4, 2) := by decide +kernel
theorem dX4_quarrelPlace_19 : decode cX4_quarrelPlace 19 = .ok (.iload 4, 2) := by decide +kernel
theorem dX4_quarrelPlace_21 : decode cX4_quarrelPlace 21 = .ok (.iload_n 3, 1) := by decide +kernel
theorem dX4_quarrelPlace_22 : decode cX4_quarrelPlace 22 = .ok (.if_icmp .ge 54, 3) := by decide +kernel
theorem dX4_quarrelPlace_25 : decode cX4_quarrelPlace 25 = .ok (.aload_n 0, 1) := by decide +kernel
theorem dX4_quarrelPlace_26 : decode cX4_quarrelPlace 26 = .ok (.iload_n 1, 1) := by decide +kernel
theorem dX4_quarrelPlace_27 : decode cX4_quarrelPlace 27 = .ok (.iload 4, 2) := by decide +kernel
theorem dX4_quarrelPlace_29 : decode cX4_quarrelPlace 29 = .ok (.invokevirtual 32, 3) := by decide +kernel
theorem dX4_quarrelPlace_32 : decode cX4_quarrelPlace 32 = .ok (.aload_n 0, 1) := by decide +kernel
theorem dX4_quarrelPlace_33 : decode cX4_quarrelPlace 33 = .ok (.iload_n 2, 1) := by decide +kernel
theorem dX4_quarrelPlace_34 : decode cX4_quarrelPlace 34 = .ok (.iload 4, 2) := by decide +kernel
theorem dX4_quarrelPlace_36 : decode cX4_quarrelPlace 36 = .ok (.invokevirtual 32, 3) := by decide +kernel
theorem dX4_quarrelPlace_39 : decode cX4_quarrelPlace 39 = .ok (.if_icmp .eq 5, 3) := by decide +kernel
theorem dX4_quarrelPlace_42 : decode cX4_quarrelPlace 42 = .ok (.iconst (-1), 1) := by decide +kernel
theorem dX4_quarrelPlace_43 : decode cX4_quarrelPlace 43 = .ok (.ireturn, 1) := by decide +kernel
theorem dX4_quarrelPlace_44 : decode cX4_quarrelPlace 44 = .ok (.aload_n 0, 1) := by decide +kernel
theorem dX4_quarrelPlace_45 : decode cX4_quarrelPlace 45 = .ok (.iload_n 1, 1) := by decide +kernel
theorem dX4_quarrelPlace_46 : decode cX4_quarrelPlace 46 = .ok (.iload 4, 2) := by decide +kernel
theorem dX4_quarrelPlace_48 : decode cX4_quarrelPlace 48 = .ok (.invokevirtual 41, 3) := by decide +kernel
theorem dX4_quarrelPlace_51 : decode cX4_quarrelPlace 51 = .ok (.invokestatic 44, 3) := by decide +kernel
theorem dX4_quarrelPlace_54 : decode cX4_quarrelPlace 54 = .ok (.aload_n 0, 1) := by decide +kernel
theorem dX4_quarrelPlace_55 : decode cX4_quarrelPlace 55 = .ok (.iload_n 2, 1) := by decide +kernel
theorem dX4_quarrelPlace_56 : decode cX4_quarrelPlace 56 = .ok (.iload 4, 2) := by decide +kernel
theorem dX4_quarrelPlace_58 : decode cX4_quarrelPlace 58 = .ok (.invokevirtual 41, 3) := by decide +kernel
theorem dX4_quarrelPlace_61 : decode cX4_quarrelPlace 61 = .ok (.invokestatic 44, 3) := by decide +kernel
theorem dX4_quarrelPlace_64 : decode cX4_quarrelPlace 64 = .ok (.if_icmp .eq 6, 3) := by decide +kernel
theorem dX4_quarrelPlace_67 : decode cX4_quarrelPlace 67 = .ok (.iload 4, 2) := by decide +kernel
theorem dX4_quarrelPlace_69 : decode cX4_quarrelPlace 69 = .ok (.ireturn, 1) := by decide +kernel
theorem dX4_quarrelPlace_70 : decode cX4_quarrelPlace 70 = .ok (.iinc 4 1, 3) := by decide +kernel
theorem dX4_quarrelPlace_73 : decode cX4_quarrelPlace 73 = .ok (.goto (-54), 3) := by decide +kernel
theorem dX4_quarrelPlace_76 : decode cX4_quarrelPlace 76 = .ok (.iconst (-1), 1) := by decide +kernel
theorem dX4_quarrelPlace_77 : decode cX4_quarrelPlace 77 = .ok (.ireturn, 1) := by decide +kernel
theorem dX4_copy_0 : decode cX4_copy 0 = .ok (.aload_n 1, 1) := by decide +kernel
theorem dX4_copy_1 : decode cX4_copy 1 = .ok (.getfield 9, 3) := by decide +kernel
theorem dX4_copy_4 : decode cX4_copy 4 = .ok (.iconst 0, 1) := by decide +kernel
theorem dX4_copy_5 : decode cX4_copy 5 = .ok (.aload_n 0, 1) := by decide +kernel
theorem dX4_copy_6 : decode cX4_copy 6 = .ok (.getfield 9, 3) := by decide +kernel
theorem dX4_copy_9 : decode cX4_copy 9 = .ok (.iconst 0, 1) := by decide +kernel
theorem dX4_copy_10 : decode cX4_copy 10 = .ok (.bipush 8, 2) := by decide +kernel
theorem dX4_copy_12 : decode cX4_copy 12 = .ok (.invokestatic 48, 3) := by decide +kernel
theorem dX4_copy_15 : decode cX4_copy 15 = .ok (.aload_n 1, 1) := by decide +kernel
theorem dX4_copy_16 : decode cX4_copy 16 = .ok (.getfield 15, 3) := by decide +kernel
theorem dX4_copy_19 : decode cX4_copy 19 = .ok (.iconst 0, 1) := by decide +kernel
theorem dX4_copy_20 : decode cX4_copy 20 = .ok (.aload_n 0, 1) := by decide +kernel
theorem dX4_copy_21 : decode cX4_copy 21 = .ok (.getfield 15, 3) := by decide +kernel
theorem dX4_copy_24 : decode cX4_copy 24 = .ok (.iconst 0, 1) := by decide +kernel
theorem dX4_copy_25 : decode cX4_copy 25 = .ok (.bipush 96, 2) := by decide +kernel
theorem dX4_copy_27 : decode cX4_copy 27 = .ok (.invokestatic 48, 3) := by decide +kernel
theorem dX4_copy_30 : decode cX4_copy 30 = .ok (.aload_n 1, 1) := by decide +kernel
theorem dX4_copy_31 : decode cX4_copy 31 = .ok (.getfield 18, 3) := by decide +kernel
theorem dX4_copy_34 : decode cX4_copy 34 = .ok (.iconst 0, 1) := by decide +kernel
theorem dX4_copy_35 : decode cX4_copy 35 = .ok (.aload_n 0, 1) := by decide +kernel
theorem dX4_copy_36 : decode cX4_copy 36 = .ok (.getfield 18, 3) := by decide +kernel
theorem dX4_copy_39 : decode cX4_copy 39 = .ok (.iconst 0, 1) := by decide +kernel
theorem dX4_copy_40 : decode cX4_copy 40 = .ok (.bipush 96, 2) := by decide +kernel
theorem dX4_copy_42 : decode cX4_copy 42 = .ok (.invokestatic 48, 3) := by decide +kernel
theorem dX4_copy_45 : decode cX4_copy 45 = .ok (.aload_n 1, 1) := by decide +kernel
theorem dX4_copy_46 : decode cX4_copy 46 = .ok (.getfield 21, 3) := by decide +kernel
theorem dX4_copy_49 : decode cX4_copy 49 = .ok (.iconst 0, 1) := by decide +kernel
theorem dX4_copy_50 : decode cX4_copy 50 = .ok (.aload_n 0, 1) := by decide +kernel
theorem dX4_copy_51 : decode cX4_copy 51 = .ok (.getfield 21, 3) := by decide +kernel
theorem dX4_copy_54 : decode cX4_copy 54 = .ok (.iconst 0, 1) := by decide +kernel
theorem dX4_copy_55 : decode cX4_copy 55 = .ok (.bipush 96, 2) := by decide +kernel
theorem dX4_copy_57 : decode cX4_copy 57 = .ok (.invokestatic 48, 3) := by decide +kernel
theorem dX4_copy_60 : decode cX4_copy 60 = .ok (.aload_n 0, 1) := by decide +kernel
theorem dX4_copy_61 : decode cX4_copy 61 = .ok (.aload_n 1, 1) := by decide +kernel
theorem dX4_copy_62 : decode cX4_copy 62 = .ok (.getfield 24, 3) := by decide +kernel
theorem dX4_copy_65 : decode cX4_copy 65 = .ok (.putfield 24, 3) := by decide +kernel
theorem dX4_copy_68 : decode cX4_copy 68 = .ok (.return_, 1) := by decide +kernel
set_option maxRecDepth 20000 in
theorem ggX5_init_X3_init : GoodIn wsX5_init wsX3_init := goodIn_r _ [12, 13, 2, 3, 8, 14, 15, 16, 17] (by decide +kernel) (by decide +kernel)
set_option maxRecDepth 20000 in
theorem gX5_init_X3_init_n11 : GoodIn wsX5_init (wsX3_init) := ggX5_init_X3_init
theorem dX5_init_0 : decode cX5_init 0 = .ok (.aload_n 0, 1) := by decide +kernel
theorem dX5_init_1 : decode cX5_init 1 = .ok (.invokespecial 3, 3) := by decide +kernel
theorem dX5_init_4 : decode cX5_init 4 = .ok (.aload_n 0, 1) := by decide +kernel
theorem dX5_init_5 : decode cX5_init 5 = .ok (.new 9, 3) := by decide +kernel
theorem dX5_init_8 : decode cX5_init 8 = .ok (.dup, 1) := by decide +kernel
theorem dX5_init_9 : decode cX5_init 9 = .ok (.invokespecial 11, 3) := by decide +kernel
theorem dX5_init_12 : decode cX5_init 12 = .ok (.putfield 12, 3) := by decide +kernel
theorem dX5_init_15 : decode cX5_init 15 = .ok (.aload_n 0, 1) := by decide +kernel
theorem dX5_init_16 : decode cX5_init 16 = .ok (.bipush 30, 2) := by decide +kernel
theorem dX5_init_18 : decode cX5_init 18 = .ok (.newarray .int, 2) := by decide +kernel
theorem dX5_init_20 : decode cX5_init 20 = .ok (.putfield 18, 3) := by decide +kernel
theorem dX5_init_23 : decode cX5_init 23 = .ok (.aload_n 0, 1) := by decide +kernel
theorem dX5_init_24 : decode cX5_init 24 = .ok (.bipush 6, 2) := by decide +kernel
theorem dX5_init_26 : decode cX5_init 26 = .ok (.newarray .int, 2) := by decide +kernel
theorem dX5_init_28 : decode cX5_init 28 = .ok (.putfield 22, 3) := by decide +kernel
theorem dX5_init_31 : decode cX5_init 31 = .ok (.return_, 1) := by decide +kernel
set_option maxRecDepth 20000 in
theorem ggX5_learn_J7_fill_53178 : GoodIn wsX5_learn wsJ7_fill_53178 := goodIn_r _ [6] (by decide +kernel) (by decide +kernel)
set_option maxRecDepth 20000 in
theorem gX5_learn_J7_fill_53178 : GoodIn wsX5_learn (va_wsS RX5 25 yJ7_fill_53178 wsJ7_fill_53178) := goodIn_app (goodIn_of _ (by decide +kernel)) ggX5_learn_J7_fill_53178
set_option maxRecDepth 20000 in
theorem ggX5_learn_X6_clear : GoodIn wsX5_learn wsX6_clear := goodIn_r _ [11, 12, 13, 14, 15, 4, 5, 6, 96, 97, 98, 99, 100] (by decide +kernel) (by decide +kernel)
set_option maxRecDepth 20000 in
theorem gX5_learn_X6_clear : GoodIn wsX5_learn (wsV RX5 31 RX6 yX6_clear wsX6_clear) := goodIn_app (goodIn_of _ (by decide +kernel)) ggX5_learn_X6_clear
set_option maxRecDepth 20000 in
theorem ggX5_learn_X4_size : GoodIn wsX5_learn wsX4_size := goodIn_r _ [20, 21, 101, 102, 103, 104, 105] (by decide +kernel) (by decide +kernel)
set_option maxRecDepth 20000 in
theorem gX5_learn_X4_size : GoodIn wsX5_learn (wsV RX5 36 RX4 yX4_size wsX4_size) := goodIn_app (goodIn_of _ (by decide +kernel)) ggX5_learn_X4_size
set_option maxRecDepth 20000 in
theorem ggX5_learn_X5_hearRow_p0 : GoodIn wsX5_learn ((wsX5_hearRow.drop 0).take 40) := goodIn_r _ [26, 27, 2, 28, 29, 30, 31, 32, 33, 34, 35, 4, 5, 6, 36, 37, 38, 19, 39, 21, 40, 41, 42, 43, 44, 45, 46, 47, 48, 49, 50, 51, 52, 53, 54, 55, 56, 57, 58, 10] (by decide +kernel) (by decide +kernel)
set_option maxRecDepth 20000 in
theorem ggX5_learn_X5_hearRow_p1 : GoodIn wsX5_learn ((wsX5_hearRow.drop 40).take 40) := goodIn_r _ [59, 60, 14, 61, 62, 63, 64, 65, 66, 67, 68, 69, 70, 71, 25, 72, 73, 74, 75, 76, 77, 78, 79, 80, 1, 81, 82, 83, 84, 93, 94, 95, 106, 107, 101, 102, 103, 104, 105, 96] (by decide +kernel) (by decide +kernel)
set_option maxRecDepth 20000 in
theorem ggX5_learn_X5_hearRow_p2 : GoodIn wsX5_learn (wsX5_hearRow.drop 80) := goodIn_r _ [97, 98, 99, 100] (by decide +kernel) (by decide +kernel)
theorem ggX5_learn_X5_hearRow : GoodIn wsX5_learn wsX5_hearRow := (goodIn_td 0 40 ggX5_learn_X5_hearRow_p0 (goodIn_td 40 40 ggX5_learn_X5_hearRow_p1 ggX5_learn_X5_hearRow_p2))
set_option maxRecDepth 20000 in
theorem gX5_learn_X5_hearRow : GoodIn wsX5_learn (wsV RX5 42 RX5 yX5_hearRow wsX5_hearRow) := goodIn_app (goodIn_of _ (by decide +kernel)) ggX5_learn_X5_hearRow
set_option maxRecDepth 20000 in
theorem ggX5_learn_X5_decideRule : GoodIn wsX5_learn wsX5_decideRule := goodIn_r _ [88, 1, 2, 89, 90, 91, 10, 92, 12, 13, 93, 94, 95, 96, 97, 98, 99, 100] (by decide +kernel) (by decide +kernel)
set_option maxRecDepth 20000 in
theorem gX5_learn_X5_decideRule : GoodIn wsX5_learn (wsV RX5 46 RX5 yX5_decideRule wsX5_decideRule) := goodIn_app (goodIn_of _ (by decide +kernel)) ggX5_learn_X5_decideRule
theorem dX5_learn_0 : decode cX5_learn 0 = .ok (.aload_n 0, 1) := by decide +kernel
theorem dX5_learn_1 : decode cX5_learn 1 = .ok (.getfield 18, 3) := by decide +kernel
theorem dX5_learn_4 : decode cX5_learn 4 = .ok (.sipush 1000, 3) := by decide +kernel
theorem dX5_learn_7 : decode cX5_learn 7 = .ok (.invokestatic 25, 3) := by decide +kernel
theorem dX5_learn_10 : decode cX5_learn 10 = .ok (.aload_n 0, 1) := by decide +kernel
theorem dX5_learn_11 : decode cX5_learn 11 = .ok (.getfield 22, 3) := by decide +kernel
theorem dX5_learn_14 : decode cX5_learn 14 = .ok (.sipush 1000, 3) := by decide +kernel
theorem dX5_learn_17 : decode cX5_learn 17 = .ok (.invokestatic 25, 3) := by decide +kernel
theorem dX5_learn_20 : decode cX5_learn 20 = .ok (.aload_n 3, 1) := by decide +kernel
theorem dX5_learn_21 : decode cX5_learn 21 = .ok (.invokevirtual 31, 3) := by decide +kernel
theorem dX5_learn_24 : decode cX5_learn 24 = .ok (.iconst 0, 1) := by decide +kernel
theorem dX5_learn_25 : decode cX5_learn 25 = .ok (.istore 4, 2) := by decide +kernel
theorem dX5_learn_27 : decode cX5_learn 27 = .ok (.iload 4, 2) := by decide +kernel
theorem dX5_learn_29 : decode cX5_learn 29 = .ok (.aload_n 1, 1) := by decide +kernel
theorem dX5_learn_30 : decode cX5_learn 30 = .ok (.invokevirtual 36, 3) := by decide +kernel
theorem dX5_learn_33 : decode cX5_learn 33 = .ok (.if_icmp .ge 23, 3) := by decide +kernel
theorem dX5_learn_36 : decode cX5_learn 36 = .ok (.iload 4, 2) := by decide +kernel
theorem dX5_learn_38 : decode cX5_learn 38 = .ok (.iload_n 2, 1) := by decide +kernel
theorem dX5_learn_39 : decode cX5_learn 39 = .ok (.if_icmp .eq 11, 3) := by decide +kernel
theorem dX5_learn_42 : decode cX5_learn 42 = .ok (.aload_n 0, 1) := by decide +kernel
theorem dX5_learn_43 : decode cX5_learn 43 = .ok (.aload_n 1, 1) := by decide +kernel
theorem dX5_learn_44 : decode cX5_learn 44 = .ok (.iload 4, 2) := by decide +kernel
theorem dX5_learn_46 : decode cX5_learn 46 = .ok (.aload_n 3, 1) := by decide +kernel
theorem dX5_learn_47 : decode cX5_learn 47 = .ok (.invokevirtual 42, 3) := by decide +kernel
theorem dX5_learn_50 : decode cX5_learn 50 = .ok (.iinc 4 1, 3) := by decide +kernel
theorem dX5_learn_53 : decode cX5_learn 53 = .ok (.goto (-26), 3) := by decide +kernel
theorem dX5_learn_56 : decode cX5_learn 56 = .ok (.iconst 0, 1) := by decide +kernel
theorem dX5_learn_57 : decode cX5_learn 57 = .ok (.istore 4, 2) := by decide +kernel
theorem dX5_learn_59 : decode cX5_learn 59 = .ok (.iload 4, 2) := by decide +kernel
theorem dX5_learn_61 : decode cX5_learn 61 = .ok (.iconst 3, 1) := by decide +kernel
theorem dX5_learn_62 : decode cX5_learn 62 = .ok (.if_icmp .ge 33, 3) := by decide +kernel
theorem dX5_learn_65 : decode cX5_learn 65 = .ok (.iconst 0, 1) := by decide +kernel
theorem dX5_learn_66 : decode cX5_learn 66 = .ok (.istore 5, 2) := by decide +kernel
theorem dX5_learn_68 : decode cX5_learn 68 = .ok (.iload 5, 2) := by decide +kernel
theorem dX5_learn_70 : decode cX5_learn 70 = .ok (.iconst 2, 1) := by decide +kernel
theorem dX5_learn_71 : decode cX5_learn 71 = .ok (.if_icmp .ge 18, 3) := by decide +kernel
theorem dX5_learn_74 : decode cX5_learn 74 = .ok (.aload_n 0, 1) := by decide +kernel
theorem dX5_learn_75 : decode cX5_learn 75 = .ok (.iload 4, 2) := by decide +kernel
theorem dX5_learn_77 : decode cX5_learn 77 = .ok (.iload 5, 2) := by decide +kernel
theorem dX5_learn_79 : decode cX5_learn 79 = .ok (.aload_n 3, 1) := by decide +kernel
theorem dX5_learn_80 : decode cX5_learn 80 = .ok (.invokevirtual 46, 3) := by decide +kernel
theorem dX5_learn_83 : decode cX5_learn 83 = .ok (.iinc 5 1, 3) := by decide +kernel
theorem dX5_learn_86 : decode cX5_learn 86 = .ok (.goto (-18), 3) := by decide +kernel
theorem dX5_learn_89 : decode cX5_learn 89 = .ok (.iinc 4 1, 3) := by decide +kernel
theorem dX5_learn_92 : decode cX5_learn 92 = .ok (.goto (-33), 3) := by decide +kernel
theorem dX5_learn_95 : decode cX5_learn 95 = .ok (.return_, 1) := by decide +kernel
set_option maxRecDepth 20000 in
theorem ggX5_hearRow_X3_clear : GoodIn wsX5_hearRow wsX3_clear := goodIn_r _ [7, 8, 9, 10, 11, 12, 13, 72, 73] (by decide +kernel) (by decide +kernel)
set_option maxRecDepth 20000 in
theorem gX5_hearRow_X3_clear : GoodIn wsX5_hearRow (wsV RX5 50 RX3 yX3_clear wsX3_clear) := goodIn_app (goodIn_of _ (by decide +kernel)) ggX5_hearRow_X3_clear
set_option maxRecDepth 20000 in
theorem ggX5_hearRow_X4_length : GoodIn wsX5_hearRow wsX4_length := goodIn_r _ [18, 19, 20, 74, 75, 76, 77, 78] (by decide +kernel) (by decide +kernel)
set_option maxRecDepth 20000 in
theorem gX5_hearRow_X4_length : GoodIn wsX5_hearRow (wsV RX5 51 RX4 yX4_length wsX4_length) := goodIn_app (goodIn_of _ (by decide +kernel)) ggX5_hearRow_X4_length
set_option maxRecDepth 20000 in
theorem ggX5_hearRow_X4_verbAt : GoodIn wsX5_hearRow wsX4_verbAt := goodIn_r _ [24, 25, 74, 75, 76, 77, 78] (by decide +kernel) (by decide +kernel)
set_option maxRecDepth 20000 in
theorem gX5_hearRow_X4_verbAt : GoodIn wsX5_hearRow (wsV RX5 55 RX4 yX4_verbAt wsX4_verbAt) := goodIn_app (goodIn_of _ (by decide +kernel)) ggX5_hearRow_X4_verbAt
set_option maxRecDepth 20000 in
theorem ggX5_hearRow_X4_askAt : GoodIn wsX5_hearRow wsX4_askAt := goodIn_r _ [29, 30, 74, 75, 76, 77, 78] (by decide +kernel) (by decide +kernel)
set_option maxRecDepth 20000 in
theorem gX5_hearRow_X4_askAt : GoodIn wsX5_hearRow (wsV RX5 59 RX4 yX4_askAt wsX4_askAt) := goodIn_app (goodIn_of _ (by decide +kernel)) ggX5_hearRow_X4_askAt
set_option maxRecDepth 20000 in
theorem ggX5_hearRow_X4_answerAt : GoodIn wsX5_hearRow wsX4_answerAt := goodIn_r _ [34, 35, 74, 75, 76, 77, 78] (by decide +kernel) (by decide +kernel)
set_option maxRecDepth 20000 in
theorem gX5_hearRow_X4_answerAt : GoodIn wsX5_hearRow (wsV RX5 62 RX4 yX4_answerAt wsX4_answerAt) := goodIn_app (goodIn_of _ (by decide +kernel)) ggX5_hearRow_X4_answerAt
set_option maxRecDepth 20000 in
theorem ggX5_hearRow_X6_firstAnswer : GoodIn wsX5_hearRow wsX6_firstAnswer := goodIn_r _ [40, 41, 42, 43, 44, 45, 46, 39, 47, 79, 80, 81, 82, 83] (by decide +kernel) (by decide +kernel)
set_option maxRecDepth 20000 in
theorem gX5_hearRow_X6_firstAnswer : GoodIn wsX5_hearRow (wsV RX5 65 RX6 yX6_firstAnswer wsX6_firstAnswer) := goodIn_app (goodIn_of _ (by decide +kernel)) ggX5_hearRow_X6_firstAnswer
set_option maxRecDepth 20000 in
theorem ggX5_hearRow_X9_fieldOf : GoodIn wsX5_hearRow wsX9_fieldOf := goodIn_r _ [50] (by decide +kernel) (by decide +kernel)
set_option maxRecDepth 20000 in
theorem gX5_hearRow_X9_fieldOf_n69 : GoodIn wsX5_hearRow (wsX9_fieldOf) := ggX5_hearRow_X9_fieldOf
set_option maxRecDepth 20000 in
theorem ggX5_hearRow_X5_hearField : GoodIn wsX5_hearRow wsX5_hearField := goodIn_r _ [55, 1, 56, 57, 58, 6, 59, 8, 9, 60, 61, 62, 54, 63, 64, 69, 70, 71, 72, 73] (by decide +kernel) (by decide +kernel)
set_option maxRecDepth 20000 in
theorem gX5_hearRow_X5_hearField : GoodIn wsX5_hearRow (wsV RX5 72 RX5 yX5_hearField wsX5_hearField) := goodIn_app (goodIn_of _ (by decide +kernel)) ggX5_hearRow_X5_hearField
set_option maxRecDepth 20000 in
theorem ggX5_hearRow_X3_note : GoodIn wsX5_hearRow wsX3_note := goodIn_r _ [68, 8, 9, 72, 73] (by decide +kernel) (by decide +kernel)
set_option maxRecDepth 20000 in
theorem gX5_hearRow_X3_note : GoodIn wsX5_hearRow (wsV RX5 76 RX3 yX3_note wsX3_note) := goodIn_app (goodIn_of _ (by decide +kernel)) ggX5_hearRow_X3_note
theorem dX5_hearRow_0 : decode cX5_hearRow 0 = .ok (.aload_n 0, 1) := by decide +kernel
theorem dX5_hearRow_1 : decode cX5_hearRow 1 = .ok (.getfield 12, 3) := by decide +kernel
theorem dX5_hearRow_4 : decode cX5_hearRow 4 = .ok (.invokevirtual 50, 3) := by decide +kernel
theorem dX5_hearRow_7 : decode cX5_hearRow 7 = .ok (.iconst 0, 1) := by decide +kernel
theorem dX5_hearRow_8 : decode cX5_hearRow 8 = .ok (.istore 4, 2) := by decide +kernel
theorem dX5_hearRow_10 : decode cX5_hearRow 10 = .ok (.iload 4, 2) := by decide +kernel
theorem dX5_hearRow_12 : decode cX5_hearRow 12 = .ok (.aload_n 1, 1) := by decide +kernel
theorem dX5_hearRow_13 : decode cX5_hearRow 13 = .ok (.iload_n 2, 1) := by decide +kernel
theorem dX5_hearRow_14 : decode cX5_hearRow 14 = .ok (.invokevirtual 51, 3) := by decide +kernel
theorem dX5_hearRow_17 : decode cX5_hearRow 17 = .ok (.if_icmp .ge 123, 3) := by decide +kernel
theorem dX5_hearRow_20 : decode cX5_hearRow 20 = .ok (.aload_n 1, 1) := by decide +kernel
theorem dX5_hearRow_21 : decode cX5_hearRow 21 = .ok (.iload_n 2, 1) := by decide +kernel
theorem dX5_hearRow_22 : decode cX5_hearRow 22 = .ok (.iload 4, 2) := by decide +kernel
theorem dX5_hearRow_24 : decode cX5_hearRow 24 = .ok (.invokevirtual 55, 3) := by decide +kernel
theorem dX5_hearRow_27 : decode cX5_hearRow 27 = .ok (.istore 5, 2) := by decide +kernel
theorem dX5_hearRow_29 : decode cX5_hearRow 29 = .ok (.aload_n 1, 1) := by decide +kernel
theorem dX5_hearRow_30 : decode cX5_hearRow 30 = .ok (.iload_n 2, 1) := by decide +kernel
theorem dX5_hearRow_31 : decode cX5_hearRow 31 = .ok (.iload 4, 2) := by decide +kernel
theorem dX5_hearRow_33 : decode cX5_hearRow 33 = .ok (.invokevirtual 59, 3) := by decide +kernel
theorem dX5_hearRow_36 : decode cX5_hearRow 36 = .ok (.istore 6, 2) := by decide +kernel
theorem dX5_hearRow_38 : decode cX5_hearRow 38 = .ok (.aload_n 1, 1) := by decide +kernel
theorem dX5_hearRow_39 : decode cX5_hearRow 39 = .ok (.iload_n 2, 1) := by decide +kernel
theorem dX5_hearRow_40 : decode cX5_hearRow 40 = .ok (.iload 4, 2) := by decide +kernel
theorem dX5_hearRow_42 : decode cX5_hearRow 42 = .ok (.invokevirtual 62, 3) := by decide +kernel
theorem dX5_hearRow_45 : decode cX5_hearRow 45 = .ok (.istore 7, 2) := by decide +kernel
theorem dX5_hearRow_47 : decode cX5_hearRow 47 = .ok (.aload_n 3, 1) := by decide +kernel
theorem dX5_hearRow_48 : decode cX5_hearRow 48 = .ok (.iload 5, 2) := by decide +kernel
theorem dX5_hearRow_50 : decode cX5_hearRow 50 = .ok (.iload 6, 2) := by decide +kernel
theorem dX5_hearRow_52 : decode cX5_hearRow 52 = .ok (.iload 7, 2) := by decide +kernel
theorem dX5_hearRow_54 : decode cX5_hearRow 54 = .ok (.invokevirtual 65, 3) := by decide +kernel
theorem dX5_hearRow_57 : decode cX5_hearRow 57 = .ok (.istore 8, 2) := by decide +kernel
theorem dX5_hearRow_59 : decode cX5_hearRow 59 = .ok (.iconst 0, 1) := by decide +kernel
theorem dX5_hearRow_60 : decode cX5_hearRow 60 = .ok (.istore 9, 2) := by decide +kernel
theorem dX5_hearRow_62 : decode cX5_hearRow 62 = .ok (.iload 9, 2) := by decide +kernel
theorem dX5_hearRow_64 : decode cX5_hearRow 64 = .ok (.iconst 2, 1) := by decide +kernel
theorem dX5_hearRow_65 : decode cX5_hearRow 65 = .ok (.if_icmp .ge 58, 3) := by decide +kernel
theorem dX5_hearRow_68 : decode cX5_hearRow 68 = .ok (.aload_n 0, 1) := by decide +kernel
theorem dX5_hearRow_69 : decode cX5_hearRow 69 = .ok (.iload 5, 2) := by decide +kernel
theorem dX5_hearRow_71 : decode cX5_hearRow 71 = .ok (.iload 9, 2) := by decide +kernel
theorem dX5_hearRow_73 : decode cX5_hearRow 73 = .ok (.iload 6, 2) := by decide +kernel
theorem dX5_hearRow_75 : decode cX5_hearRow 75 = .ok (.iload 7, 2) := by decide +kernel
theorem dX5_hearRow_77 : decode cX5_hearRow 77 = .ok (.iload 9, 2) := by decide +kernel
theorem dX5_hearRow_79 : decode cX5_hearRow 79 = .ok (.invokestatic 69, 3) := by decide +kernel
theorem dX5_hearRow_82 : decode cX5_hearRow 82 = .ok (.invokevirtual 72, 3) := by decide +kernel
theorem dX5_hearRow_85 : decode cX5_hearRow 85 = .ok (.iload 8, 2) := by decide +kernel
theorem dX5_hearRow_87 : decode cX5_hearRow 87 = .ok (.iload 9, 2) := by decide +kernel
theorem dX5_hearRow_89 : decode cX5_hearRow 89 = .ok (.invokestatic 69, 3) := by decide +kernel
theorem dX5_hearRow_92 : decode cX5_hearRow 92 = .ok (.iload 7, 2) := by decide +kernel
theorem dX5_hearRow_94 : decode cX5_hearRow 94 = .ok (.iload 9, 2) := by decide +kernel
theorem dX5_hearRow_96 : decode cX5_hearRow 96 = .ok (.invokestatic 69, 3) := by decide +kernel
theorem dX5_hearRow_99 : decode cX5_hearRow 99 = .ok (.if_icmp .eq 18, 3) := by decide +kernel
theorem dX5_hearRow_102 : decode cX5_hearRow 102 = .ok (.aload_n 0, 1) := by decide +kernel
theorem dX5_hearRow_103 : decode cX5_hearRow 103 = .ok (.getfield 22, 3) := by decide +kernel
theorem dX5_hearRow_106 : decode cX5_hearRow 106 = .ok (.iload 5, 2) := by decide +kernel
theorem dX5_hearRow_108 : decode cX5_hearRow 108 = .ok (.iconst 2, 1) := by decide +kernel
theorem dX5_hearRow_109 : decode cX5_hearRow 109 = .ok (.imul, 1) := by decide +kernel
theorem dX5_hearRow_110 : decode cX5_hearRow 110 = .ok (.iload 9, 2) := by decide +kernel
theorem dX5_hearRow_112 : decode cX5_hearRow 112 = .ok (.iadd, 1) := by decide +kernel
theorem dX5_hearRow_113 : decode cX5_hearRow 113 = .ok (.sipush 1001, 3) := by decide +kernel
theorem dX5_hearRow_116 : decode cX5_hearRow 116 = .ok (.iastore, 1) := by decide +kernel
theorem dX5_hearRow_117 : decode cX5_hearRow 117 = .ok (.iinc 9 1, 3) := by decide +kernel
theorem dX5_hearRow_120 : decode cX5_hearRow 120 = .ok (.goto (-58), 3) := by decide +kernel
theorem dX5_hearRow_123 : decode cX5_hearRow 123 = .ok (.aload_n 0, 1) := by decide +kernel
theorem dX5_hearRow_124 : decode cX5_hearRow 124 = .ok (.getfield 12, 3) := by decide +kernel
theorem dX5_hearRow_127 : decode cX5_hearRow 127 = .ok (.iload 5, 2) := by decide +kernel
theorem dX5_hearRow_129 : decode cX5_hearRow 129 = .ok (.iload 6, 2) := by decide +kernel
theorem dX5_hearRow_131 : decode cX5_hearRow 131 = .ok (.invokevirtual 76, 3) := by decide +kernel
theorem dX5_hearRow_134 : decode cX5_hearRow 134 = .ok (.iinc 4 1, 3) := by decide +kernel
theorem dX5_hearRow_137 : decode cX5_hearRow 137 = .ok (.goto (-127), 3) := by decide +kernel
theorem dX5_hearRow_140 : decode cX5_hearRow 140 = .ok (.return_, 1) := by decide +kernel
set_option maxRecDepth 20000 in
theorem ggX5_hearField_X3_baseOf : GoodIn wsX5_hearField wsX3_baseOf := goodIn_r _ [6, 7, 8, 18, 19] (by decide +kernel) (by decide +kernel)
set_option maxRecDepth 20000 in
theorem gX5_hearField_X3_baseOf : GoodIn wsX5_hearField (wsV RX5 80 RX3 yX3_baseOf wsX3_baseOf) := goodIn_app (goodIn_of _ (by decide +kernel)) ggX5_hearField_X3_baseOf
set_option maxRecDepth 20000 in
theorem ggX5_hearField_X5_weigh : GoodIn wsX5_hearField wsX5_weigh := goodIn_r _ [13, 14, 15, 16, 17] (by decide +kernel) (by decide +kernel)
set_option maxRecDepth 20000 in
theorem gX5_hearField_X5_weigh : GoodIn wsX5_hearField (wsV RX5 83 RX5 yX5_weigh wsX5_weigh) := goodIn_app (goodIn_of _ (by decide +kernel)) ggX5_hearField_X5_weigh
theorem dX5_hearField_0 : decode cX5_hearField 0 = .ok (.iload_n 1, 1) := by decide +kernel
theorem dX5_hearField_1 : decode cX5_hearField 1 = .ok (.iconst 2, 1) := by decide +kernel
theorem dX5_hearField_2 : decode cX5_hearField 2 = .ok (.imul, 1) := by decide +kernel
theorem dX5_hearField_3 : decode cX5_hearField 3 = .ok (.iload_n 2, 1) := by decide +kernel
theorem dX5_hearField_4 : decode cX5_hearField 4 = .ok (.iadd, 1) := by decide +kernel
theorem dX5_hearField_5 : decode cX5_hearField 5 = .ok (.iconst 5, 1) := by decide +kernel
theorem dX5_hearField_6 : decode cX5_hearField 6 = .ok (.imul, 1) := by decide +kernel
theorem dX5_hearField_7 : decode cX5_hearField 7 = .ok (.istore 5, 2) := by decide +kernel
theorem dX5_hearField_9 : decode cX5_hearField 9 = .ok (.iconst 0, 1) := by decide +kernel
theorem dX5_hearField_10 : decode cX5_hearField 10 = .ok (.istore 6, 2) := by decide +kernel
theorem dX5_hearField_12 : decode cX5_hearField 12 = .ok (.iload 6, 2) := by decide +kernel
theorem dX5_hearField_14 : decode cX5_hearField 14 = .ok (.iconst 5, 1) := by decide +kernel
theorem dX5_hearField_15 : decode cX5_hearField 15 = .ok (.if_icmp .ge 31, 3) := by decide +kernel
theorem dX5_hearField_18 : decode cX5_hearField 18 = .ok (.aload_n 0, 1) := by decide +kernel
theorem dX5_hearField_19 : decode cX5_hearField 19 = .ok (.iload 5, 2) := by decide +kernel
theorem dX5_hearField_21 : decode cX5_hearField 21 = .ok (.iload 6, 2) := by decide +kernel
theorem dX5_hearField_23 : decode cX5_hearField 23 = .ok (.iadd, 1) := by decide +kernel
theorem dX5_hearField_24 : decode cX5_hearField 24 = .ok (.aload_n 0, 1) := by decide +kernel
theorem dX5_hearField_25 : decode cX5_hearField 25 = .ok (.getfield 12, 3) := by decide +kernel
theorem dX5_hearField_28 : decode cX5_hearField 28 = .ok (.iload 6, 2) := by decide +kernel
theorem dX5_hearField_30 : decode cX5_hearField 30 = .ok (.iload_n 1, 1) := by decide +kernel
theorem dX5_hearField_31 : decode cX5_hearField 31 = .ok (.iload_n 3, 1) := by decide +kernel
theorem dX5_hearField_32 : decode cX5_hearField 32 = .ok (.invokevirtual 80, 3) := by decide +kernel
theorem dX5_hearField_35 : decode cX5_hearField 35 = .ok (.iload 4, 2) := by decide +kernel
theorem dX5_hearField_37 : decode cX5_hearField 37 = .ok (.invokevirtual 83, 3) := by decide +kernel
theorem dX5_hearField_40 : decode cX5_hearField 40 = .ok (.iinc 6 1, 3) := by decide +kernel
theorem dX5_hearField_43 : decode cX5_hearField 43 = .ok (.goto (-31), 3) := by decide +kernel
theorem dX5_hearField_46 : decode cX5_hearField 46 = .ok (.return_, 1) := by decide +kernel
theorem dX5_weigh_0 : decode cX5_weigh 0 = .ok (.aload_n 0, 1) := by decide +kernel

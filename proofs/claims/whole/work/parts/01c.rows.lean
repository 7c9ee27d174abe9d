theorem dX9_firstDifference_35 : decode cX9_firstDifference 35 = .ok (.astore 4, 2) := by decide +kernel
theorem dX9_firstDifference_37 : decode cX9_firstDifference 37 = .ok (.aload 4, 2) := by decide +kernel
theorem dX9_firstDifference_39 : decode cX9_firstDifference 39 = .ok (.invokevirtual 116, 3) := by decide +kernel
theorem dX9_firstDifference_42 : decode cX9_firstDifference 42 = .ok (.ifCond .ne 5, 3) := by decide +kernel
theorem dX9_firstDifference_45 : decode cX9_firstDifference 45 = .ok (.iconst (-1), 1) := by decide +kernel
theorem dX9_firstDifference_46 : decode cX9_firstDifference 46 = .ok (.ireturn, 1) := by decide +kernel
theorem dX9_firstDifference_47 : decode cX9_firstDifference 47 = .ok (.aload_n 0, 1) := by decide +kernel
theorem dX9_firstDifference_48 : decode cX9_firstDifference 48 = .ok (.getfield 33, 3) := by decide +kernel
theorem dX9_firstDifference_51 : decode cX9_firstDifference 51 = .ok (.aload 4, 2) := by decide +kernel
theorem dX9_firstDifference_53 : decode cX9_firstDifference 53 = .ok (.aload_n 1, 1) := by decide +kernel
theorem dX9_firstDifference_54 : decode cX9_firstDifference 54 = .ok (.aload_n 0, 1) := by decide +kernel
theorem dX9_firstDifference_55 : decode cX9_firstDifference 55 = .ok (.getfield 12, 3) := by decide +kernel
theorem dX9_firstDifference_58 : decode cX9_firstDifference 58 = .ok (.getfield 37, 3) := by decide +kernel
theorem dX9_firstDifference_61 : decode cX9_firstDifference 61 = .ok (.invokevirtual 91, 3) := by decide +kernel
theorem dX9_firstDifference_64 : decode cX9_firstDifference 64 = .ok (.invokevirtual 126, 3) := by decide +kernel
theorem dX9_firstDifference_67 : decode cX9_firstDifference 67 = .ok (.iconst 0, 1) := by decide +kernel
theorem dX9_firstDifference_68 : decode cX9_firstDifference 68 = .ok (.istore 5, 2) := by decide +kernel
theorem dX9_firstDifference_70 : decode cX9_firstDifference 70 = .ok (.iload 5, 2) := by decide +kernel
theorem dX9_firstDifference_72 : decode cX9_firstDifference 72 = .ok (.aload_n 0, 1) := by decide +kernel
theorem dX9_firstDifference_73 : decode cX9_firstDifference 73 = .ok (.getfield 12, 3) := by decide +kernel
theorem dX9_firstDifference_76 : decode cX9_firstDifference 76 = .ok (.getfield 37, 3) := by decide +kernel
theorem dX9_firstDifference_79 : decode cX9_firstDifference 79 = .ok (.iload_n 2, 1) := by decide +kernel
theorem dX9_firstDifference_80 : decode cX9_firstDifference 80 = .ok (.invokevirtual 62, 3) := by decide +kernel
theorem dX9_firstDifference_83 : decode cX9_firstDifference 83 = .ok (.if_icmp .ge 36, 3) := by decide +kernel
theorem dX9_firstDifference_86 : decode cX9_firstDifference 86 = .ok (.aload_n 0, 1) := by decide +kernel
theorem dX9_firstDifference_87 : decode cX9_firstDifference 87 = .ok (.iload_n 2, 1) := by decide +kernel
theorem dX9_firstDifference_88 : decode cX9_firstDifference 88 = .ok (.iload 5, 2) := by decide +kernel
theorem dX9_firstDifference_90 : decode cX9_firstDifference 90 = .ok (.invokevirtual 176, 3) := by decide +kernel
theorem dX9_firstDifference_93 : decode cX9_firstDifference 93 = .ok (.istore 6, 2) := by decide +kernel
theorem dX9_firstDifference_95 : decode cX9_firstDifference 95 = .ok (.iload 6, 2) := by decide +kernel
theorem dX9_firstDifference_97 : decode cX9_firstDifference 97 = .ok (.iconst (-1), 1) := by decide +kernel
theorem dX9_firstDifference_98 : decode cX9_firstDifference 98 = .ok (.if_icmp .eq 15, 3) := by decide +kernel
theorem dX9_firstDifference_101 : decode cX9_firstDifference 101 = .ok (.iload_n 3, 1) := by decide +kernel
theorem dX9_firstDifference_102 : decode cX9_firstDifference 102 = .ok (.ifCond .ne 8, 3) := by decide +kernel
theorem dX9_firstDifference_105 : decode cX9_firstDifference 105 = .ok (.iload 5, 2) := by decide +kernel
theorem dX9_firstDifference_107 : decode cX9_firstDifference 107 = .ok (.goto 5, 3) := by decide +kernel
theorem dX9_firstDifference_110 : decode cX9_firstDifference 110 = .ok (.iload 6, 2) := by decide +kernel
theorem dX9_firstDifference_112 : decode cX9_firstDifference 112 = .ok (.ireturn, 1) := by decide +kernel
theorem dX9_firstDifference_113 : decode cX9_firstDifference 113 = .ok (.iinc 5 1, 3) := by decide +kernel
theorem dX9_firstDifference_116 : decode cX9_firstDifference 116 = .ok (.goto (-46), 3) := by decide +kernel
theorem dX9_firstDifference_119 : decode cX9_firstDifference 119 = .ok (.iconst (-1), 1) := by decide +kernel
theorem dX9_firstDifference_120 : decode cX9_firstDifference 120 = .ok (.ireturn, 1) := by decide +kernel
set_option maxRecDepth 20000 in
theorem ggX9_differenceAt_X4_verbAt : GoodIn wsX9_differenceAt wsX4_verbAt := goodIn_r _ [7, 8, 97, 98, 99, 100, 101] (by decide +kernel) (by decide +kernel)
set_option maxRecDepth 20000 in
theorem gX9_differenceAt_X4_verbAt : GoodIn wsX9_differenceAt (wsV RX9 73 RX4 yX4_verbAt wsX4_verbAt) := goodIn_app (goodIn_of _ (by decide +kernel)) ggX9_differenceAt_X4_verbAt
set_option maxRecDepth 20000 in
theorem ggX9_differenceAt_X4_askAt : GoodIn wsX9_differenceAt wsX4_askAt := goodIn_r _ [12, 13, 97, 98, 99, 100, 101] (by decide +kernel) (by decide +kernel)
set_option maxRecDepth 20000 in
theorem gX9_differenceAt_X4_askAt : GoodIn wsX9_differenceAt (wsV RX9 66 RX4 yX4_askAt wsX4_askAt) := goodIn_app (goodIn_of _ (by decide +kernel)) ggX9_differenceAt_X4_askAt
set_option maxRecDepth 20000 in
theorem ggX9_differenceAt_X7_answer_p0 : GoodIn wsX9_differenceAt ((wsX7_answer.drop 0).take 40) := goodIn_r _ [18, 19, 20, 21, 22, 23, 24, 25, 26, 27, 28, 29, 30, 31, 32, 33, 34, 35, 36, 37, 38, 39, 40, 41, 42, 43, 44, 45, 46, 47, 48, 49, 50, 51, 52, 53, 54, 55, 56, 57] (by decide +kernel) (by decide +kernel)
set_option maxRecDepth 20000 in
theorem ggX9_differenceAt_X7_answer_p1 : GoodIn wsX9_differenceAt (wsX7_answer.drop 40) := goodIn_r _ [58, 59, 60, 61, 62, 63, 64, 65, 66, 67, 68, 69, 70, 71, 72, 73, 74, 75, 76, 102, 103, 104, 105, 106, 107, 108, 109, 110, 111, 112, 113, 114, 115, 116, 117, 118, 119] (by decide +kernel) (by decide +kernel)
theorem ggX9_differenceAt_X7_answer : GoodIn wsX9_differenceAt wsX7_answer := (goodIn_td 0 40 ggX9_differenceAt_X7_answer_p0 ggX9_differenceAt_X7_answer_p1)
set_option maxRecDepth 20000 in
theorem gX9_differenceAt_X7_answer : GoodIn wsX9_differenceAt (wsV RX9 133 RX7 yX7_answer wsX7_answer) := goodIn_app (goodIn_of _ (by decide +kernel)) ggX9_differenceAt_X7_answer
set_option maxRecDepth 20000 in
theorem ggX9_differenceAt_X4_answerAt : GoodIn wsX9_differenceAt wsX4_answerAt := goodIn_r _ [80, 81, 97, 98, 99, 100, 101] (by decide +kernel) (by decide +kernel)
set_option maxRecDepth 20000 in
theorem gX9_differenceAt_X4_answerAt : GoodIn wsX9_differenceAt (wsV RX9 70 RX4 yX4_answerAt wsX4_answerAt) := goodIn_app (goodIn_of _ (by decide +kernel)) ggX9_differenceAt_X4_answerAt
set_option maxRecDepth 20000 in
theorem ggX9_differenceAt_X9_codeOf : GoodIn wsX9_differenceAt wsX9_codeOf := goodIn_r _ [84] (by decide +kernel) (by decide +kernel)
set_option maxRecDepth 20000 in
theorem gX9_differenceAt_X9_codeOf : GoodIn wsX9_differenceAt (va_wsS RX9 76 yX9_codeOf wsX9_codeOf) := goodIn_app (goodIn_of _ (by decide +kernel)) ggX9_differenceAt_X9_codeOf
set_option maxRecDepth 20000 in
theorem ggX9_differenceAt_X7_latestField : GoodIn wsX9_differenceAt wsX7_latestField := goodIn_r _ [88, 23, 102, 103, 104, 105, 106, 107, 108, 109] (by decide +kernel) (by decide +kernel)
set_option maxRecDepth 20000 in
theorem gX9_differenceAt_X7_latestField : GoodIn wsX9_differenceAt (wsV RX9 136 RX7 yX7_latestField wsX7_latestField) := goodIn_app (goodIn_of _ (by decide +kernel)) ggX9_differenceAt_X7_latestField
set_option maxRecDepth 20000 in
theorem ggX9_differenceAt_X9_fieldOf : GoodIn wsX9_differenceAt wsX9_fieldOf := goodIn_r _ [55] (by decide +kernel) (by decide +kernel)
set_option maxRecDepth 20000 in
theorem gX9_differenceAt_X9_fieldOf : GoodIn wsX9_differenceAt (va_wsS RX9 79 yX9_fieldOf wsX9_fieldOf) := goodIn_app (goodIn_of _ (by decide +kernel)) ggX9_differenceAt_X9_fieldOf
theorem dX9_differenceAt_0 : decode cX9_differenceAt 0 = .ok (.aload_n 0, 1) := by decide +kernel
theorem dX9_differenceAt_1 : decode cX9_differenceAt 1 = .ok (.getfield 12, 3) := by decide +kernel
theorem dX9_differenceAt_4 : decode cX9_differenceAt 4 = .ok (.getfield 37, 3) := by decide +kernel
theorem dX9_differenceAt_7 : decode cX9_differenceAt 7 = .ok (.astore_n 3, 1) := by decide +kernel
theorem dX9_differenceAt_8 : decode cX9_differenceAt 8 = .ok (.aload_n 0, 1) := by decide +kernel
theorem dX9_differenceAt_9 : decode cX9_differenceAt 9 = .ok (.getfield 33, 3) := by decide +kernel
theorem dX9_differenceAt_12 : decode cX9_differenceAt 12 = .ok (.aload_n 3, 1) := by decide +kernel
theorem dX9_differenceAt_13 : decode cX9_differenceAt 13 = .ok (.iload_n 1, 1) := by decide +kernel
theorem dX9_differenceAt_14 : decode cX9_differenceAt 14 = .ok (.iload_n 2, 1) := by decide +kernel
theorem dX9_differenceAt_15 : decode cX9_differenceAt 15 = .ok (.invokevirtual 73, 3) := by decide +kernel
theorem dX9_differenceAt_18 : decode cX9_differenceAt 18 = .ok (.aload_n 3, 1) := by decide +kernel
theorem dX9_differenceAt_19 : decode cX9_differenceAt 19 = .ok (.iload_n 1, 1) := by decide +kernel
theorem dX9_differenceAt_20 : decode cX9_differenceAt 20 = .ok (.iload_n 2, 1) := by decide +kernel
theorem dX9_differenceAt_21 : decode cX9_differenceAt 21 = .ok (.invokevirtual 66, 3) := by decide +kernel
theorem dX9_differenceAt_24 : decode cX9_differenceAt 24 = .ok (.invokevirtual 133, 3) := by decide +kernel
theorem dX9_differenceAt_27 : decode cX9_differenceAt 27 = .ok (.istore 4, 2) := by decide +kernel
theorem dX9_differenceAt_29 : decode cX9_differenceAt 29 = .ok (.aload_n 3, 1) := by decide +kernel
theorem dX9_differenceAt_30 : decode cX9_differenceAt 30 = .ok (.iload_n 1, 1) := by decide +kernel
theorem dX9_differenceAt_31 : decode cX9_differenceAt 31 = .ok (.iload_n 2, 1) := by decide +kernel
theorem dX9_differenceAt_32 : decode cX9_differenceAt 32 = .ok (.invokevirtual 70, 3) := by decide +kernel
theorem dX9_differenceAt_35 : decode cX9_differenceAt 35 = .ok (.istore 5, 2) := by decide +kernel
theorem dX9_differenceAt_37 : decode cX9_differenceAt 37 = .ok (.iload 4, 2) := by decide +kernel
theorem dX9_differenceAt_39 : decode cX9_differenceAt 39 = .ok (.bipush (-2), 2) := by decide +kernel
theorem dX9_differenceAt_41 : decode cX9_differenceAt 41 = .ok (.if_icmp .ne 5, 3) := by decide +kernel
theorem dX9_differenceAt_44 : decode cX9_differenceAt 44 = .ok (.iconst 0, 1) := by decide +kernel
theorem dX9_differenceAt_45 : decode cX9_differenceAt 45 = .ok (.ireturn, 1) := by decide +kernel
theorem dX9_differenceAt_46 : decode cX9_differenceAt 46 = .ok (.iload 4, 2) := by decide +kernel
theorem dX9_differenceAt_48 : decode cX9_differenceAt 48 = .ok (.iload 5, 2) := by decide +kernel
theorem dX9_differenceAt_50 : decode cX9_differenceAt 50 = .ok (.invokestatic 76, 3) := by decide +kernel
theorem dX9_differenceAt_53 : decode cX9_differenceAt 53 = .ok (.if_icmp .eq 5, 3) := by decide +kernel
theorem dX9_differenceAt_56 : decode cX9_differenceAt 56 = .ok (.iconst 1, 1) := by decide +kernel
theorem dX9_differenceAt_57 : decode cX9_differenceAt 57 = .ok (.ireturn, 1) := by decide +kernel
theorem dX9_differenceAt_58 : decode cX9_differenceAt 58 = .ok (.iconst 0, 1) := by decide +kernel
theorem dX9_differenceAt_59 : decode cX9_differenceAt 59 = .ok (.istore 6, 2) := by decide +kernel
theorem dX9_differenceAt_61 : decode cX9_differenceAt 61 = .ok (.iload 6, 2) := by decide +kernel
theorem dX9_differenceAt_63 : decode cX9_differenceAt 63 = .ok (.iconst 2, 1) := by decide +kernel
theorem dX9_differenceAt_64 : decode cX9_differenceAt 64 = .ok (.if_icmp .ge 45, 3) := by decide +kernel
theorem dX9_differenceAt_67 : decode cX9_differenceAt 67 = .ok (.aload_n 0, 1) := by decide +kernel
theorem dX9_differenceAt_68 : decode cX9_differenceAt 68 = .ok (.getfield 33, 3) := by decide +kernel
theorem dX9_differenceAt_71 : decode cX9_differenceAt 71 = .ok (.iload 6, 2) := by decide +kernel
theorem dX9_differenceAt_73 : decode cX9_differenceAt 73 = .ok (.invokevirtual 136, 3) := by decide +kernel
theorem dX9_differenceAt_76 : decode cX9_differenceAt 76 = .ok (.istore 7, 2) := by decide +kernel
theorem dX9_differenceAt_78 : decode cX9_differenceAt 78 = .ok (.iload 7, 2) := by decide +kernel
theorem dX9_differenceAt_80 : decode cX9_differenceAt 80 = .ok (.sipush (-1000), 3) := by decide +kernel
theorem dX9_differenceAt_83 : decode cX9_differenceAt 83 = .ok (.if_icmp .eq 20, 3) := by decide +kernel
theorem dX9_differenceAt_86 : decode cX9_differenceAt 86 = .ok (.iload 7, 2) := by decide +kernel
theorem dX9_differenceAt_88 : decode cX9_differenceAt 88 = .ok (.iload 5, 2) := by decide +kernel
theorem dX9_differenceAt_90 : decode cX9_differenceAt 90 = .ok (.iload 6, 2) := by decide +kernel
theorem dX9_differenceAt_92 : decode cX9_differenceAt 92 = .ok (.invokestatic 79, 3) := by decide +kernel
theorem dX9_differenceAt_95 : decode cX9_differenceAt 95 = .ok (.if_icmp .eq 8, 3) := by decide +kernel
theorem dX9_differenceAt_98 : decode cX9_differenceAt 98 = .ok (.iconst 2, 1) := by decide +kernel
theorem dX9_differenceAt_99 : decode cX9_differenceAt 99 = .ok (.iload 6, 2) := by decide +kernel
theorem dX9_differenceAt_101 : decode cX9_differenceAt 101 = .ok (.iadd, 1) := by decide +kernel
theorem dX9_differenceAt_102 : decode cX9_differenceAt 102 = .ok (.ireturn, 1) := by decide +kernel
theorem dX9_differenceAt_103 : decode cX9_differenceAt 103 = .ok (.iinc 6 1, 3) := by decide +kernel
theorem dX9_differenceAt_106 : decode cX9_differenceAt 106 = .ok (.goto (-45), 3) := by decide +kernel
theorem dX9_differenceAt_109 : decode cX9_differenceAt 109 = .ok (.iconst (-1), 1) := by decide +kernel
theorem dX9_differenceAt_110 : decode cX9_differenceAt 110 = .ok (.ireturn, 1) := by decide +kernel
theorem dX9_within_0 : decode cX9_within 0 = .ok (.iload_n 0, 1) := by decide +kernel
theorem dX9_within_1 : decode cX9_within 1 = .ok (.ifCond .lt 12, 3) := by decide +kernel
theorem dX9_within_4 : decode cX9_within 4 = .ok (.iload_n 0, 1) := by decide +kernel
theorem dX9_within_5 : decode cX9_within 5 = .ok (.iload_n 1, 1) := by decide +kernel
theorem dX9_within_6 : decode cX9_within 6 = .ok (.if_icmp .ge 7, 3) := by decide +kernel
theorem dX9_within_9 : decode cX9_within 9 = .ok (.iconst 1, 1) := by decide +kernel
theorem dX9_within_10 : decode cX9_within 10 = .ok (.goto 4, 3) := by decide +kernel
theorem dX9_within_13 : decode cX9_within 13 = .ok (.iconst 0, 1) := by decide +kernel
theorem dX9_within_14 : decode cX9_within 14 = .ok (.ireturn, 1) := by decide +kernel
theorem dX9_pickOfThree_0 : decode cX9_pickOfThree 0 = .ok (.iload_n 0, 1) := by decide +kernel
theorem dX9_pickOfThree_1 : decode cX9_pickOfThree 1 = .ok (.tableswitch 33 0 2 #[27, 29, 31], 27) := by decide +kernel
theorem dX9_pickOfThree_28 : decode cX9_pickOfThree 28 = .ok (.iload_n 1, 1) := by decide +kernel
theorem dX9_pickOfThree_29 : decode cX9_pickOfThree 29 = .ok (.ireturn, 1) := by decide +kernel
theorem dX9_pickOfThree_30 : decode cX9_pickOfThree 30 = .ok (.iload_n 2, 1) := by decide +kernel
theorem dX9_pickOfThree_31 : decode cX9_pickOfThree 31 = .ok (.ireturn, 1) := by decide +kernel
theorem dX9_pickOfThree_32 : decode cX9_pickOfThree 32 = .ok (.iload_n 3, 1) := by decide +kernel
theorem dX9_pickOfThree_33 : decode cX9_pickOfThree 33 = .ok (.ireturn, 1) := by decide +kernel
theorem dX9_pickOfThree_34 : decode cX9_pickOfThree 34 = .ok (.iconst (-1), 1) := by decide +kernel
theorem dX9_pickOfThree_35 : decode cX9_pickOfThree 35 = .ok (.ireturn, 1) := by decide +kernel
theorem dX9_codeOf_0 : decode cX9_codeOf 0 = .ok (.iload_n 0, 1) := by decide +kernel
theorem dX9_codeOf_1 : decode cX9_codeOf 1 = .ok (.sipush 10000, 3) := by decide +kernel
theorem dX9_codeOf_4 : decode cX9_codeOf 4 = .ok (.idiv, 1) := by decide +kernel
theorem dX9_codeOf_5 : decode cX9_codeOf 5 = .ok (.ireturn, 1) := by decide +kernel
theorem dX9_fieldOf_0 : decode cX9_fieldOf 0 = .ok (.iload_n 1, 1) := by decide +kernel
theorem dX9_fieldOf_1 : decode cX9_fieldOf 1 = .ok (.ifCond .ne 13, 3) := by decide +kernel
theorem dX9_fieldOf_4 : decode cX9_fieldOf 4 = .ok (.iload_n 0, 1) := by decide +kernel
theorem dX9_fieldOf_5 : decode cX9_fieldOf 5 = .ok (.bipush 100, 2) := by decide +kernel
theorem dX9_fieldOf_7 : decode cX9_fieldOf 7 = .ok (.idiv, 1) := by decide +kernel
theorem dX9_fieldOf_8 : decode cX9_fieldOf 8 = .ok (.bipush 100, 2) := by decide +kernel
theorem dX9_fieldOf_10 : decode cX9_fieldOf 10 = .ok (.irem, 1) := by decide +kernel
theorem dX9_fieldOf_11 : decode cX9_fieldOf 11 = .ok (.goto 7, 3) := by decide +kernel
theorem dX9_fieldOf_14 : decode cX9_fieldOf 14 = .ok (.iload_n 0, 1) := by decide +kernel
theorem dX9_fieldOf_15 : decode cX9_fieldOf 15 = .ok (.bipush 100, 2) := by decide +kernel
theorem dX9_fieldOf_17 : decode cX9_fieldOf 17 = .ok (.irem, 1) := by decide +kernel
theorem dX9_fieldOf_18 : decode cX9_fieldOf 18 = .ok (.ireturn, 1) := by decide +kernel
set_option maxRecDepth 20000 in
theorem ggX10_init_X10_clearsFields : GoodIn wsX10_init wsX10_clearsFields := goodIn_r _ [21, 5, 22, 23, 24, 25, 26, 27, 28, 29, 30, 31, 32, 33, 34, 35, 36] (by decide +kernel) (by decide +kernel)
set_option maxRecDepth 20000 in
theorem gX10_init_X10_clearsFields : GoodIn wsX10_init (wsV RX10 44 RX10 yX10_clearsFields wsX10_clearsFields) := goodIn_app (goodIn_of _ (by decide +kernel)) ggX10_init_X10_clearsFields
theorem dX10_init_0 : decode cX10_init 0 = .ok (.aload_n 0, 1) := by decide +kernel
theorem dX10_init_1 : decode cX10_init 1 = .ok (.invokespecial 1, 3) := by decide +kernel
theorem dX10_init_4 : decode cX10_init 4 = .ok (.aload_n 0, 1) := by decide +kernel
theorem dX10_init_5 : decode cX10_init 5 = .ok (.sipush 5400, 3) := by decide +kernel
theorem dX10_init_8 : decode cX10_init 8 = .ok (.newarray .int, 2) := by decide +kernel
theorem dX10_init_10 : decode cX10_init 10 = .ok (.putfield 7, 3) := by decide +kernel
theorem dX10_init_13 : decode cX10_init 13 = .ok (.aload_n 0, 1) := by decide +kernel
theorem dX10_init_14 : decode cX10_init 14 = .ok (.iconst 3, 1) := by decide +kernel
theorem dX10_init_15 : decode cX10_init 15 = .ok (.newarray .boolean, 2) := by decide +kernel
theorem dX10_init_17 : decode cX10_init 17 = .ok (.putfield 13, 3) := by decide +kernel
theorem dX10_init_20 : decode cX10_init 20 = .ok (.aload_n 0, 1) := by decide +kernel
theorem dX10_init_21 : decode cX10_init 21 = .ok (.bipush 12, 2) := by decide +kernel
theorem dX10_init_23 : decode cX10_init 23 = .ok (.newarray .int, 2) := by decide +kernel
theorem dX10_init_25 : decode cX10_init 25 = .ok (.putfield 17, 3) := by decide +kernel
theorem dX10_init_28 : decode cX10_init 28 = .ok (.aload_n 0, 1) := by decide +kernel
theorem dX10_init_29 : decode cX10_init 29 = .ok (.bipush 96, 2) := by decide +kernel
theorem dX10_init_31 : decode cX10_init 31 = .ok (.newarray .int, 2) := by decide +kernel
theorem dX10_init_33 : decode cX10_init 33 = .ok (.putfield 20, 3) := by decide +kernel
theorem dX10_init_36 : decode cX10_init 36 = .ok (.aload_n 0, 1) := by decide +kernel
theorem dX10_init_37 : decode cX10_init 37 = .ok (.bipush 96, 2) := by decide +kernel
theorem dX10_init_39 : decode cX10_init 39 = .ok (.newarray .int, 2) := by decide +kernel
theorem dX10_init_41 : decode cX10_init 41 = .ok (.putfield 23, 3) := by decide +kernel
theorem dX10_init_44 : decode cX10_init 44 = .ok (.aload_n 0, 1) := by decide +kernel
theorem dX10_init_45 : decode cX10_init 45 = .ok (.bipush 12, 2) := by decide +kernel
theorem dX10_init_47 : decode cX10_init 47 = .ok (.newarray .int, 2) := by decide +kernel
theorem dX10_init_49 : decode cX10_init 49 = .ok (.putfield 26, 3) := by decide +kernel
theorem dX10_init_52 : decode cX10_init 52 = .ok (.aload_n 0, 1) := by decide +kernel
theorem dX10_init_53 : decode cX10_init 53 = .ok (.bipush 12, 2) := by decide +kernel
theorem dX10_init_55 : decode cX10_init 55 = .ok (.newarray .int, 2) := by decide +kernel
theorem dX10_init_57 : decode cX10_init 57 = .ok (.putfield 29, 3) := by decide +kernel
theorem dX10_init_60 : decode cX10_init 60 = .ok (.aload_n 0, 1) := by decide +kernel
theorem dX10_init_61 : decode cX10_init 61 = .ok (.bipush 12, 2) := by decide +kernel
theorem dX10_init_63 : decode cX10_init 63 = .ok (.newarray .int, 2) := by decide +kernel
theorem dX10_init_65 : decode cX10_init 65 = .ok (.putfield 32, 3) := by decide +kernel
theorem dX10_init_68 : decode cX10_init 68 = .ok (.aload_n 0, 1) := by decide +kernel
theorem dX10_init_69 : decode cX10_init 69 = .ok (.bipush 12, 2) := by decide +kernel
theorem dX10_init_71 : decode cX10_init 71 = .ok (.newarray .int, 2) := by decide +kernel
theorem dX10_init_73 : decode cX10_init 73 = .ok (.putfield 35, 3) := by decide +kernel
theorem dX10_init_76 : decode cX10_init 76 = .ok (.aload_n 0, 1) := by decide +kernel
theorem dX10_init_77 : decode cX10_init 77 = .ok (.bipush 12, 2) := by decide +kernel
theorem dX10_init_79 : decode cX10_init 79 = .ok (.newarray .int, 2) := by decide +kernel
theorem dX10_init_81 : decode cX10_init 81 = .ok (.putfield 38, 3) := by decide +kernel
theorem dX10_init_84 : decode cX10_init 84 = .ok (.aload_n 0, 1) := by decide +kernel
theorem dX10_init_85 : decode cX10_init 85 = .ok (.bipush 12, 2) := by decide +kernel
theorem dX10_init_87 : decode cX10_init 87 = .ok (.newarray .int, 2) := by decide +kernel
theorem dX10_init_89 : decode cX10_init 89 = .ok (.putfield 41, 3) := by decide +kernel
theorem dX10_init_92 : decode cX10_init 92 = .ok (.aload_n 0, 1) := by decide +kernel
theorem dX10_init_93 : decode cX10_init 93 = .ok (.invokevirtual 44, 3) := by decide +kernel
theorem dX10_init_96 : decode cX10_init 96 = .ok (.return_, 1) := by decide +kernel
theorem dX10_isIn_0 : decode cX10_isIn 0 = .ok (.iload_n 0, 1) := by decide +kernel
theorem dX10_isIn_1 : decode cX10_isIn 1 = .ok (.iload_n 1, 1) := by decide +kernel
theorem dX10_isIn_2 : decode cX10_isIn 2 = .ok (.if_icmp .lt 12, 3) := by decide +kernel
theorem dX10_isIn_5 : decode cX10_isIn 5 = .ok (.iload_n 0, 1) := by decide +kernel
theorem dX10_isIn_6 : decode cX10_isIn 6 = .ok (.iload_n 2, 1) := by decide +kernel
theorem dX10_isIn_7 : decode cX10_isIn 7 = .ok (.if_icmp .gt 7, 3) := by decide +kernel
theorem dX10_isIn_10 : decode cX10_isIn 10 = .ok (.iconst 1, 1) := by decide +kernel
theorem dX10_isIn_11 : decode cX10_isIn 11 = .ok (.goto 4, 3) := by decide +kernel
theorem dX10_isIn_14 : decode cX10_isIn 14 = .ok (.iconst 0, 1) := by decide +kernel
theorem dX10_isIn_15 : decode cX10_isIn 15 = .ok (.ireturn, 1) := by decide +kernel
theorem dX10_clearsFields_0 : decode cX10_clearsFields 0 = .ok (.aload_n 0, 1) := by decide +kernel
theorem dX10_clearsFields_1 : decode cX10_clearsFields 1 = .ok (.getfield 7, 3) := by decide +kernel
theorem dX10_clearsFields_4 : decode cX10_clearsFields 4 = .ok (.iconst 5, 1) := by decide +kernel
theorem dX10_clearsFields_5 : decode cX10_clearsFields 5 = .ok (.sipush (-1000), 3) := by decide +kernel
theorem dX10_clearsFields_8 : decode cX10_clearsFields 8 = .ok (.iastore, 1) := by decide +kernel
theorem dX10_clearsFields_9 : decode cX10_clearsFields 9 = .ok (.aload_n 0, 1) := by decide +kernel
theorem dX10_clearsFields_10 : decode cX10_clearsFields 10 = .ok (.getfield 7, 3) := by decide +kernel
theorem dX10_clearsFields_13 : decode cX10_clearsFields 13 = .ok (.bipush 6, 2) := by decide +kernel
theorem dX10_clearsFields_15 : decode cX10_clearsFields 15 = .ok (.sipush (-1000), 3) := by decide +kernel
theorem dX10_clearsFields_18 : decode cX10_clearsFields 18 = .ok (.iastore, 1) := by decide +kernel
theorem dX10_clearsFields_19 : decode cX10_clearsFields 19 = .ok (.return_, 1) := by decide +kernel
set_option maxRecDepth 20000 in
theorem ggX10_isRow_X10_isIn : GoodIn wsX10_isRow wsX10_isIn := goodIn_r _ [5] (by decide +kernel) (by decide +kernel)
set_option maxRecDepth 20000 in
theorem gX10_isRow_X10_isIn : GoodIn wsX10_isRow (va_wsS RX10 47 yX10_isIn wsX10_isIn) := goodIn_app (goodIn_of _ (by decide +kernel)) ggX10_isRow_X10_isIn
theorem dX10_isRow_0 : decode cX10_isRow 0 = .ok (.iload_n 1, 1) := by decide +kernel
theorem dX10_isRow_1 : decode cX10_isRow 1 = .ok (.iconst 0, 1) := by decide +kernel
theorem dX10_isRow_2 : decode cX10_isRow 2 = .ok (.aload_n 0, 1) := by decide +kernel
theorem dX10_isRow_3 : decode cX10_isRow 3 = .ok (.getfield 7, 3) := by decide +kernel
theorem dX10_isRow_6 : decode cX10_isRow 6 = .ok (.iconst 0, 1) := by decide +kernel
theorem dX10_isRow_7 : decode cX10_isRow 7 = .ok (.iaload, 1) := by decide +kernel
theorem dX10_isRow_8 : decode cX10_isRow 8 = .ok (.iconst 1, 1) := by decide +kernel
theorem dX10_isRow_9 : decode cX10_isRow 9 = .ok (.isub, 1) := by decide +kernel
theorem dX10_isRow_10 : decode cX10_isRow 10 = .ok (.invokestatic 47, 3) := by decide +kernel
theorem dX10_isRow_13 : decode cX10_isRow 13 = .ok (.ireturn, 1) := by decide +kernel
theorem dX10_sizeOf_0 : decode cX10_sizeOf 0 = .ok (.aload_n 0, 1) := by decide +kernel
theorem dX10_sizeOf_1 : decode cX10_sizeOf 1 = .ok (.getfield 7, 3) := by decide +kernel
theorem dX10_sizeOf_4 : decode cX10_sizeOf 4 = .ok (.bipush 10, 2) := by decide +kernel
theorem dX10_sizeOf_6 : decode cX10_sizeOf 6 = .ok (.iload_n 1, 1) := by decide +kernel
theorem dX10_sizeOf_7 : decode cX10_sizeOf 7 = .ok (.iadd, 1) := by decide +kernel
theorem dX10_sizeOf_8 : decode cX10_sizeOf 8 = .ok (.iaload, 1) := by decide +kernel
theorem dX10_sizeOf_9 : decode cX10_sizeOf 9 = .ok (.ireturn, 1) := by decide +kernel
theorem dX10_of_0 : decode cX10_of 0 = .ok (.aload_n 0, 1) := by decide +kernel
theorem dX10_of_1 : decode cX10_of 1 = .ok (.getfield 7, 3) := by decide +kernel
theorem dX10_of_4 : decode cX10_of 4 = .ok (.bipush 20, 2) := by decide +kernel
theorem dX10_of_6 : decode cX10_of 6 = .ok (.bipush 72, 2) := by decide +kernel
theorem dX10_of_8 : decode cX10_of 8 = .ok (.iload_n 1, 1) := by decide +kernel
theorem dX10_of_9 : decode cX10_of 9 = .ok (.imul, 1) := by decide +kernel
theorem dX10_of_10 : decode cX10_of 10 = .ok (.iadd, 1) := by decide +kernel
theorem dX10_of_11 : decode cX10_of 11 = .ok (.bipush 6, 2) := by decide +kernel
theorem dX10_of_13 : decode cX10_of 13 = .ok (.iload_n 2, 1) := by decide +kernel
theorem dX10_of_14 : decode cX10_of 14 = .ok (.imul, 1) := by decide +kernel
theorem dX10_of_15 : decode cX10_of 15 = .ok (.iadd, 1) := by decide +kernel
theorem dX10_of_16 : decode cX10_of 16 = .ok (.iload_n 3, 1) := by decide +kernel
theorem dX10_of_17 : decode cX10_of 17 = .ok (.iadd, 1) := by decide +kernel
theorem dX10_of_18 : decode cX10_of 18 = .ok (.iaload, 1) := by decide +kernel
theorem dX10_of_19 : decode cX10_of 19 = .ok (.ireturn, 1) := by decide +kernel
theorem dX10_row_0 : decode cX10_row 0 = .ok (.aload_n 0, 1) := by decide +kernel
theorem dX10_row_1 : decode cX10_row 1 = .ok (.getfield 7, 3) := by decide +kernel
theorem dX10_row_4 : decode cX10_row 4 = .ok (.iconst 0, 1) := by decide +kernel
theorem dX10_row_5 : decode cX10_row 5 = .ok (.iaload, 1) := by decide +kernel
theorem dX10_row_6 : decode cX10_row 6 = .ok (.bipush 8, 2) := by decide +kernel
theorem dX10_row_8 : decode cX10_row 8 = .ok (.if_icmp .ne 5, 3) := by decide +kernel
theorem dX10_row_11 : decode cX10_row 11 = .ok (.iconst (-1), 1) := by decide +kernel
theorem dX10_row_12 : decode cX10_row 12 = .ok (.ireturn, 1) := by decide +kernel
theorem dX10_row_13 : decode cX10_row 13 = .ok (.aload_n 0, 1) := by decide +kernel
theorem dX10_row_14 : decode cX10_row 14 = .ok (.getfield 7, 3) := by decide +kernel
theorem dX10_row_17 : decode cX10_row 17 = .ok (.bipush 10, 2) := by decide +kernel
theorem dX10_row_19 : decode cX10_row 19 = .ok (.aload_n 0, 1) := by decide +kernel
theorem dX10_row_20 : decode cX10_row 20 = .ok (.getfield 7, 3) := by decide +kernel
theorem dX10_row_23 : decode cX10_row 23 = .ok (.iconst 0, 1) := by decide +kernel
theorem dX10_row_24 : decode cX10_row 24 = .ok (.iaload, 1) := by decide +kernel
theorem dX10_row_25 : decode cX10_row 25 = .ok (.iadd, 1) := by decide +kernel
theorem dX10_row_26 : decode cX10_row 26 = .ok (.iconst 0, 1) := by decide +kernel
theorem dX10_row_27 : decode cX10_row 27 = .ok (.iastore, 1) := by decide +kernel
theorem dX10_row_28 : decode cX10_row 28 = .ok (.aload_n 0, 1) := by decide +kernel
theorem dX10_row_29 : decode cX10_row 29 = .ok (.getfield 7, 3) := by decide +kernel
theorem dX10_row_32 : decode cX10_row 32 = .ok (.iconst 0, 1) := by decide +kernel
theorem dX10_row_33 : decode cX10_row 33 = .ok (.dup2, 1) := by decide +kernel
theorem dX10_row_34 : decode cX10_row 34 = .ok (.iaload, 1) := by decide +kernel
theorem dX10_row_35 : decode cX10_row 35 = .ok (.iconst 1, 1) := by decide +kernel
theorem dX10_row_36 : decode cX10_row 36 = .ok (.iadd, 1) := by decide +kernel
theorem dX10_row_37 : decode cX10_row 37 = .ok (.iastore, 1) := by decide +kernel
theorem dX10_row_38 : decode cX10_row 38 = .ok (.aload_n 0, 1) := by decide +kernel
theorem dX10_row_39 : decode cX10_row 39 = .ok (.getfield 7, 3) := by decide +kernel
theorem dX10_row_42 : decode cX10_row 42 = .ok (.iconst 0, 1) := by decide +kernel
theorem dX10_row_43 : decode cX10_row 43 = .ok (.iaload, 1) := by decide +kernel
theorem dX10_row_44 : decode cX10_row 44 = .ok (.iconst 1, 1) := by decide +kernel
theorem dX10_row_45 : decode cX10_row 45 = .ok (.isub, 1) := by decide +kernel
theorem dX10_row_46 : decode cX10_row 46 = .ok (.ireturn, 1) := by decide +kernel
set_option maxRecDepth 20000 in
theorem ggX10_exchange_X10_isRow : GoodIn wsX10_exchange wsX10_isRow := goodIn_r _ [7, 2, 8, 9, 6, 10, 15, 16, 17, 18, 19, 20, 21, 22, 23, 24, 25, 26, 27, 28, 29] (by decide +kernel) (by decide +kernel)
set_option maxRecDepth 20000 in
theorem gX10_exchange_X10_isRow : GoodIn wsX10_exchange (wsV RX10 51 RX10 yX10_isRow wsX10_isRow) := goodIn_app (goodIn_of _ (by decide +kernel)) ggX10_exchange_X10_isRow
set_option maxRecDepth 20000 in
theorem ggX10_exchange_X10_isIn : GoodIn wsX10_exchange wsX10_isIn := goodIn_r _ [10] (by decide +kernel) (by decide +kernel)
set_option maxRecDepth 20000 in
theorem gX10_exchange_X10_isIn : GoodIn wsX10_exchange (va_wsS RX10 47 yX10_isIn wsX10_isIn) := goodIn_app (goodIn_of _ (by decide +kernel)) ggX10_exchange_X10_isIn
set_option maxRecDepth 20000 in
theorem ggX10_exchange_X10_sizeOf : GoodIn wsX10_exchange wsX10_sizeOf := goodIn_r _ [14, 2, 15, 16, 17, 18, 19, 20, 21, 22, 23, 24, 25, 26, 27, 28, 29] (by decide +kernel) (by decide +kernel)
set_option maxRecDepth 20000 in
theorem gX10_exchange_X10_sizeOf : GoodIn wsX10_exchange (wsV RX10 56 RX10 yX10_sizeOf wsX10_sizeOf) := goodIn_app (goodIn_of _ (by decide +kernel)) ggX10_exchange_X10_sizeOf
theorem dX10_exchange_0 : decode cX10_exchange 0 = .ok (.aload_n 0, 1) := by decide +kernel
theorem dX10_exchange_1 : decode cX10_exchange 1 = .ok (.iload_n 1, 1) := by decide +kernel
theorem dX10_exchange_2 : decode cX10_exchange 2 = .ok (.invokevirtual 51, 3) := by decide +kernel
theorem dX10_exchange_5 : decode cX10_exchange 5 = .ok (.ifCond .eq 44, 3) := by decide +kernel
theorem dX10_exchange_8 : decode cX10_exchange 8 = .ok (.iload_n 2, 1) := by decide +kernel
theorem dX10_exchange_9 : decode cX10_exchange 9 = .ok (.iconst 0, 1) := by decide +kernel
theorem dX10_exchange_10 : decode cX10_exchange 10 = .ok (.iconst 2, 1) := by decide +kernel
theorem dX10_exchange_11 : decode cX10_exchange 11 = .ok (.invokestatic 47, 3) := by decide +kernel
theorem dX10_exchange_14 : decode cX10_exchange 14 = .ok (.ifCond .eq 35, 3) := by decide +kernel
theorem dX10_exchange_17 : decode cX10_exchange 17 = .ok (.iload_n 3, 1) := by decide +kernel
theorem dX10_exchange_18 : decode cX10_exchange 18 = .ok (.iconst 0, 1) := by decide +kernel
theorem dX10_exchange_19 : decode cX10_exchange 19 = .ok (.sipush 9999, 3) := by decide +kernel
theorem dX10_exchange_22 : decode cX10_exchange 22 = .ok (.invokestatic 47, 3) := by decide +kernel
theorem dX10_exchange_25 : decode cX10_exchange 25 = .ok (.ifCond .eq 24, 3) := by decide +kernel
theorem dX10_exchange_28 : decode cX10_exchange 28 = .ok (.iload 4, 2) := by decide +kernel
theorem dX10_exchange_30 : decode cX10_exchange 30 = .ok (.iconst 0, 1) := by decide +kernel
theorem dX10_exchange_31 : decode cX10_exchange 31 = .ok (.ldc 55, 2) := by decide +kernel
theorem dX10_exchange_33 : decode cX10_exchange 33 = .ok (.invokestatic 47, 3) := by decide +kernel
theorem dX10_exchange_36 : decode cX10_exchange 36 = .ok (.ifCond .eq 13, 3) := by decide +kernel
theorem dX10_exchange_39 : decode cX10_exchange 39 = .ok (.aload_n 0, 1) := by decide +kernel
theorem dX10_exchange_40 : decode cX10_exchange 40 = .ok (.iload_n 1, 1) := by decide +kernel
theorem dX10_exchange_41 : decode cX10_exchange 41 = .ok (.invokevirtual 56, 3) := by decide +kernel
theorem dX10_exchange_44 : decode cX10_exchange 44 = .ok (.bipush 12, 2) := by decide +kernel
theorem dX10_exchange_46 : decode cX10_exchange 46 = .ok (.if_icmp .ne 5, 3) := by decide +kernel
theorem dX10_exchange_49 : decode cX10_exchange 49 = .ok (.iconst (-1), 1) := by decide +kernel
theorem dX10_exchange_50 : decode cX10_exchange 50 = .ok (.ireturn, 1) := by decide +kernel
theorem dX10_exchange_51 : decode cX10_exchange 51 = .ok (.bipush 20, 2) := by decide +kernel
theorem dX10_exchange_53 : decode cX10_exchange 53 = .ok (.bipush 72, 2) := by decide +kernel
theorem dX10_exchange_55 : decode cX10_exchange 55 = .ok (.iload_n 1, 1) := by decide +kernel
theorem dX10_exchange_56 : decode cX10_exchange 56 = .ok (.imul, 1) := by decide +kernel
theorem dX10_exchange_57 : decode cX10_exchange 57 = .ok (.iadd, 1) := by decide +kernel
theorem dX10_exchange_58 : decode cX10_exchange 58 = .ok (.bipush 6, 2) := by decide +kernel
theorem dX10_exchange_60 : decode cX10_exchange 60 = .ok (.aload_n 0, 1) := by decide +kernel
theorem dX10_exchange_61 : decode cX10_exchange 61 = .ok (.iload_n 1, 1) := by decide +kernel
theorem dX10_exchange_62 : decode cX10_exchange 62 = .ok (.invokevirtual 56, 3) := by decide +kernel
theorem dX10_exchange_65 : decode cX10_exchange 65 = .ok (.imul, 1) := by decide +kernel
theorem dX10_exchange_66 : decode cX10_exchange 66 = .ok (.iadd, 1) := by decide +kernel
theorem dX10_exchange_67 : decode cX10_exchange 67 = .ok (.istore 5, 2) := by decide +kernel
theorem dX10_exchange_69 : decode cX10_exchange 69 = .ok (.aload_n 0, 1) := by decide +kernel
theorem dX10_exchange_70 : decode cX10_exchange 70 = .ok (.getfield 7, 3) := by decide +kernel
theorem dX10_exchange_73 : decode cX10_exchange 73 = .ok (.iload 5, 2) := by decide +kernel
theorem dX10_exchange_75 : decode cX10_exchange 75 = .ok (.iload_n 2, 1) := by decide +kernel
theorem dX10_exchange_76 : decode cX10_exchange 76 = .ok (.iastore, 1) := by decide +kernel
theorem dX10_exchange_77 : decode cX10_exchange 77 = .ok (.aload_n 0, 1) := by decide +kernel
theorem dX10_exchange_78 : decode cX10_exchange 78 = .ok (.getfield 7, 3) := by decide +kernel
theorem dX10_exchange_81 : decode cX10_exchange 81 = .ok (.iload 5, 2) := by decide +kernel
theorem dX10_exchange_83 : decode cX10_exchange 83 = .ok (.iconst 1, 1) := by decide +kernel
theorem dX10_exchange_84 : decode cX10_exchange 84 = .ok (.iadd, 1) := by decide +kernel
theorem dX10_exchange_85 : decode cX10_exchange 85 = .ok (.iload_n 3, 1) := by decide +kernel
theorem dX10_exchange_86 : decode cX10_exchange 86 = .ok (.bipush 100, 2) := by decide +kernel
theorem dX10_exchange_88 : decode cX10_exchange 88 = .ok (.idiv, 1) := by decide +kernel
theorem dX10_exchange_89 : decode cX10_exchange 89 = .ok (.iastore, 1) := by decide +kernel
theorem dX10_exchange_90 : decode cX10_exchange 90 = .ok (.aload_n 0, 1) := by decide +kernel
theorem dX10_exchange_91 : decode cX10_exchange 91 = .ok (.getfield 7, 3) := by decide +kernel
theorem dX10_exchange_94 : decode cX10_exchange 94 = .ok (.iload 5, 2) := by decide +kernel
theorem dX10_exchange_96 : decode cX10_exchange 96 = .ok (.iconst 2, 1) := by decide +kernel
theorem dX10_exchange_97 : decode cX10_exchange 97 = .ok (.iadd, 1) := by decide +kernel
theorem dX10_exchange_98 : decode cX10_exchange 98 = .ok (.iload_n 3, 1) := by decide +kernel
theorem dX10_exchange_99 : decode cX10_exchange 99 = .ok (.bipush 100, 2) := by decide +kernel
theorem dX10_exchange_101 : decode cX10_exchange 101 = .ok (.irem, 1) := by decide +kernel
theorem dX10_exchange_102 : decode cX10_exchange 102 = .ok (.iastore, 1) := by decide +kernel
theorem dX10_exchange_103 : decode cX10_exchange 103 = .ok (.aload_n 0, 1) := by decide +kernel
theorem dX10_exchange_104 : decode cX10_exchange 104 = .ok (.getfield 7, 3) := by decide +kernel
theorem dX10_exchange_107 : decode cX10_exchange 107 = .ok (.iload 5, 2) := by decide +kernel
theorem dX10_exchange_109 : decode cX10_exchange 109 = .ok (.iconst 3, 1) := by decide +kernel
theorem dX10_exchange_110 : decode cX10_exchange 110 = .ok (.iadd, 1) := by decide +kernel
theorem dX10_exchange_111 : decode cX10_exchange 111 = .ok (.iload 4, 2) := by decide +kernel
theorem dX10_exchange_113 : decode cX10_exchange 113 = .ok (.sipush 10000, 3) := by decide +kernel
theorem dX10_exchange_116 : decode cX10_exchange 116 = .ok (.idiv, 1) := by decide +kernel
theorem dX10_exchange_117 : decode cX10_exchange 117 = .ok (.iastore, 1) := by decide +kernel
theorem dX10_exchange_118 : decode cX10_exchange 118 = .ok (.aload_n 0, 1) := by decide +kernel
theorem dX10_exchange_119 : decode cX10_exchange 119 = .ok (.getfield 7, 3) := by decide +kernel
theorem dX10_exchange_122 : decode cX10_exchange 122 = .ok (.iload 5, 2) := by decide +kernel
theorem dX10_exchange_124 : decode cX10_exchange 124 = .ok (.iconst 4, 1) := by decide +kernel
theorem dX10_exchange_125 : decode cX10_exchange 125 = .ok (.iadd, 1) := by decide +kernel
theorem dX10_exchange_126 : decode cX10_exchange 126 = .ok (.iload 4, 2) := by decide +kernel
theorem dX10_exchange_128 : decode cX10_exchange 128 = .ok (.bipush 100, 2) := by decide +kernel
theorem dX10_exchange_130 : decode cX10_exchange 130 = .ok (.idiv, 1) := by decide +kernel
theorem dX10_exchange_131 : decode cX10_exchange 131 = .ok (.bipush 100, 2) := by decide +kernel
theorem dX10_exchange_133 : decode cX10_exchange 133 = .ok (.irem, 1) := by decide +kernel
theorem dX10_exchange_134 : decode cX10_exchange 134 = .ok (.iastore, 1) := by decide +kernel
theorem dX10_exchange_135 : decode cX10_exchange 135 = .ok (.aload_n 0, 1) := by decide +kernel
theorem dX10_exchange_136 : decode cX10_exchange 136 = .ok (.getfield 7, 3) := by decide +kernel
theorem dX10_exchange_139 : decode cX10_exchange 139 = .ok (.iload 5, 2) := by decide +kernel
theorem dX10_exchange_141 : decode cX10_exchange 141 = .ok (.iconst 5, 1) := by decide +kernel
theorem dX10_exchange_142 : decode cX10_exchange 142 = .ok (.iadd, 1) := by decide +kernel
theorem dX10_exchange_143 : decode cX10_exchange 143 = .ok (.iload 4, 2) := by decide +kernel
theorem dX10_exchange_145 : decode cX10_exchange 145 = .ok (.bipush 100, 2) := by decide +kernel
theorem dX10_exchange_147 : decode cX10_exchange 147 = .ok (.irem, 1) := by decide +kernel
theorem dX10_exchange_148 : decode cX10_exchange 148 = .ok (.iastore, 1) := by decide +kernel
theorem dX10_exchange_149 : decode cX10_exchange 149 = .ok (.aload_n 0, 1) := by decide +kernel
theorem dX10_exchange_150 : decode cX10_exchange 150 = .ok (.getfield 7, 3) := by decide +kernel
theorem dX10_exchange_153 : decode cX10_exchange 153 = .ok (.bipush 10, 2) := by decide +kernel
theorem dX10_exchange_155 : decode cX10_exchange 155 = .ok (.iload_n 1, 1) := by decide +kernel
theorem dX10_exchange_156 : decode cX10_exchange 156 = .ok (.iadd, 1) := by decide +kernel
theorem dX10_exchange_157 : decode cX10_exchange 157 = .ok (.dup2, 1) := by decide +kernel
theorem dX10_exchange_158 : decode cX10_exchange 158 = .ok (.iaload, 1) := by decide +kernel
theorem dX10_exchange_159 : decode cX10_exchange 159 = .ok (.iconst 1, 1) := by decide +kernel
theorem dX10_exchange_160 : decode cX10_exchange 160 = .ok (.iadd, 1) := by decide +kernel
theorem dX10_exchange_161 : decode cX10_exchange 161 = .ok (.iastore, 1) := by decide +kernel
theorem dX10_exchange_162 : decode cX10_exchange 162 = .ok (.aload_n 0, 1) := by decide +kernel
theorem dX10_exchange_163 : decode cX10_exchange 163 = .ok (.iload_n 1, 1) := by decide +kernel
theorem dX10_exchange_164 : decode cX10_exchange 164 = .ok (.invokevirtual 56, 3) := by decide +kernel
theorem dX10_exchange_167 : decode cX10_exchange 167 = .ok (.iconst 1, 1) := by decide +kernel
theorem dX10_exchange_168 : decode cX10_exchange 168 = .ok (.isub, 1) := by decide +kernel
theorem dX10_exchange_169 : decode cX10_exchange 169 = .ok (.ireturn, 1) := by decide +kernel
set_option maxRecDepth 20000 in
theorem ggX10_cut_X10_isRow : GoodIn wsX10_cut wsX10_isRow := goodIn_r _ [6, 1, 7, 8, 5, 9, 14, 15, 16, 17, 18, 19, 20, 21, 22, 23, 24, 25, 26, 27, 28] (by decide +kernel) (by decide +kernel)
set_option maxRecDepth 20000 in
theorem gX10_cut_X10_isRow : GoodIn wsX10_cut (wsV RX10 51 RX10 yX10_isRow wsX10_isRow) := goodIn_app (goodIn_of _ (by decide +kernel)) ggX10_cut_X10_isRow
set_option maxRecDepth 20000 in
theorem ggX10_cut_X10_sizeOf : GoodIn wsX10_cut wsX10_sizeOf := goodIn_r _ [13, 1, 14, 15, 16, 17, 18, 19, 20, 21, 22, 23, 24, 25, 26, 27, 28] (by decide +kernel) (by decide +kernel)
set_option maxRecDepth 20000 in
theorem gX10_cut_X10_sizeOf : GoodIn wsX10_cut (wsV RX10 56 RX10 yX10_sizeOf wsX10_sizeOf) := goodIn_app (goodIn_of _ (by decide +kernel)) ggX10_cut_X10_sizeOf
set_option maxRecDepth 20000 in
theorem ggX10_cut_X10_isIn : GoodIn wsX10_cut wsX10_isIn := goodIn_r _ [9] (by decide +kernel) (by decide +kernel)
set_option maxRecDepth 20000 in
theorem gX10_cut_X10_isIn : GoodIn wsX10_cut (va_wsS RX10 47 yX10_isIn wsX10_isIn) := goodIn_app (goodIn_of _ (by decide +kernel)) ggX10_cut_X10_isIn
theorem dX10_cut_0 : decode cX10_cut 0 = .ok (.aload_n 0, 1) := by decide +kernel
theorem dX10_cut_1 : decode cX10_cut 1 = .ok (.iload_n 1, 1) := by decide +kernel
theorem dX10_cut_2 : decode cX10_cut 2 = .ok (.invokevirtual 51, 3) := by decide +kernel
theorem dX10_cut_5 : decode cX10_cut 5 = .ok (.ifCond .eq 16, 3) := by decide +kernel
theorem dX10_cut_8 : decode cX10_cut 8 = .ok (.iload_n 2, 1) := by decide +kernel
theorem dX10_cut_9 : decode cX10_cut 9 = .ok (.iconst 0, 1) := by decide +kernel
theorem dX10_cut_10 : decode cX10_cut 10 = .ok (.aload_n 0, 1) := by decide +kernel
theorem dX10_cut_11 : decode cX10_cut 11 = .ok (.iload_n 1, 1) := by decide +kernel
theorem dX10_cut_12 : decode cX10_cut 12 = .ok (.invokevirtual 56, 3) := by decide +kernel
theorem dX10_cut_15 : decode cX10_cut 15 = .ok (.invokestatic 47, 3) := by decide +kernel
theorem dX10_cut_18 : decode cX10_cut 18 = .ok (.ifCond .ne 5, 3) := by decide +kernel
theorem dX10_cut_21 : decode cX10_cut 21 = .ok (.iconst 0, 1) := by decide +kernel
theorem dX10_cut_22 : decode cX10_cut 22 = .ok (.ireturn, 1) := by decide +kernel
theorem dX10_cut_23 : decode cX10_cut 23 = .ok (.aload_n 0, 1) := by decide +kernel
theorem dX10_cut_24 : decode cX10_cut 24 = .ok (.getfield 7, 3) := by decide +kernel
theorem dX10_cut_27 : decode cX10_cut 27 = .ok (.bipush 10, 2) := by decide +kernel
theorem dX10_cut_29 : decode cX10_cut 29 = .ok (.iload_n 1, 1) := by decide +kernel
theorem dX10_cut_30 : decode cX10_cut 30 = .ok (.iadd, 1) := by decide +kernel
theorem dX10_cut_31 : decode cX10_cut 31 = .ok (.iload_n 2, 1) := by decide +kernel
theorem dX10_cut_32 : decode cX10_cut 32 = .ok (.iastore, 1) := by decide +kernel
theorem dX10_cut_33 : decode cX10_cut 33 = .ok (.iconst 1, 1) := by decide +kernel
theorem dX10_cut_34 : decode cX10_cut 34 = .ok (.ireturn, 1) := by decide +kernel
set_option maxRecDepth 20000 in
theorem ggX10_tell_X10_isRow : GoodIn wsX10_tell wsX10_isRow := goodIn_r _ [5, 6, 7, 8, 4, 9, 18, 19, 20, 21, 22, 23, 24, 25, 26, 27, 28, 29, 30, 31, 32] (by decide +kernel) (by decide +kernel)
set_option maxRecDepth 20000 in
theorem gX10_tell_X10_isRow : GoodIn wsX10_tell (wsV RX10 51 RX10 yX10_isRow wsX10_isRow) := goodIn_app (goodIn_of _ (by decide +kernel)) ggX10_tell_X10_isRow
set_option maxRecDepth 20000 in
theorem ggX10_tell_X10_sizeOf : GoodIn wsX10_tell wsX10_sizeOf := goodIn_r _ [13, 6, 18, 19, 20, 21, 22, 23, 24, 25, 26, 27, 28, 29, 30, 31, 32] (by decide +kernel) (by decide +kernel)
set_option maxRecDepth 20000 in
theorem gX10_tell_X10_sizeOf : GoodIn wsX10_tell (wsV RX10 56 RX10 yX10_sizeOf wsX10_sizeOf) := goodIn_app (goodIn_of _ (by decide +kernel)) ggX10_tell_X10_sizeOf
set_option maxRecDepth 20000 in
theorem ggX10_tell_X10_isIn : GoodIn wsX10_tell wsX10_isIn := goodIn_r _ [9] (by decide +kernel) (by decide +kernel)
set_option maxRecDepth 20000 in
theorem gX10_tell_X10_isIn : GoodIn wsX10_tell (va_wsS RX10 47 yX10_isIn wsX10_isIn) := goodIn_app (goodIn_of _ (by decide +kernel)) ggX10_tell_X10_isIn
set_option maxRecDepth 20000 in
theorem ggX10_tell_X10_of : GoodIn wsX10_tell wsX10_of := goodIn_r _ [17, 6, 18, 19, 20, 21, 22, 23, 24, 25, 26, 27, 28, 29, 30, 31, 32] (by decide +kernel) (by decide +kernel)
set_option maxRecDepth 20000 in
theorem gX10_tell_X10_of : GoodIn wsX10_tell (wsV RX10 60 RX10 yX10_of wsX10_of) := goodIn_app (goodIn_of _ (by decide +kernel)) ggX10_tell_X10_of
theorem dX10_tell_0 : decode cX10_tell 0 = .ok (.aload_n 0, 1) := by decide +kernel
theorem dX10_tell_1 : decode cX10_tell 1 = .ok (.iload_n 1, 1) := by decide +kernel
theorem dX10_tell_2 : decode cX10_tell 2 = .ok (.invokevirtual 51, 3) := by decide +kernel
theorem dX10_tell_5 : decode cX10_tell 5 = .ok (.ifCond .eq 37, 3) := by decide +kernel
theorem dX10_tell_8 : decode cX10_tell 8 = .ok (.iload_n 2, 1) := by decide +kernel
theorem dX10_tell_9 : decode cX10_tell 9 = .ok (.iconst 0, 1) := by decide +kernel
theorem dX10_tell_10 : decode cX10_tell 10 = .ok (.aload_n 0, 1) := by decide +kernel
theorem dX10_tell_11 : decode cX10_tell 11 = .ok (.iload_n 1, 1) := by decide +kernel
theorem dX10_tell_12 : decode cX10_tell 12 = .ok (.invokevirtual 56, 3) := by decide +kernel
theorem dX10_tell_15 : decode cX10_tell 15 = .ok (.iconst 1, 1) := by decide +kernel
theorem dX10_tell_16 : decode cX10_tell 16 = .ok (.isub, 1) := by decide +kernel
theorem dX10_tell_17 : decode cX10_tell 17 = .ok (.invokestatic 47, 3) := by decide +kernel
theorem dX10_tell_20 : decode cX10_tell 20 = .ok (.ifCond .eq 22, 3) := by decide +kernel
theorem dX10_tell_23 : decode cX10_tell 23 = .ok (.iload_n 3, 1) := by decide +kernel
theorem dX10_tell_24 : decode cX10_tell 24 = .ok (.iconst 0, 1) := by decide +kernel
theorem dX10_tell_25 : decode cX10_tell 25 = .ok (.iconst 5, 1) := by decide +kernel
theorem dX10_tell_26 : decode cX10_tell 26 = .ok (.invokestatic 47, 3) := by decide +kernel
theorem dX10_tell_29 : decode cX10_tell 29 = .ok (.ifCond .eq 13, 3) := by decide +kernel
theorem dX10_tell_32 : decode cX10_tell 32 = .ok (.aload_n 0, 1) := by decide +kernel
theorem dX10_tell_33 : decode cX10_tell 33 = .ok (.iload_n 1, 1) := by decide +kernel
theorem dX10_tell_34 : decode cX10_tell 34 = .ok (.iload_n 2, 1) := by decide +kernel
theorem dX10_tell_35 : decode cX10_tell 35 = .ok (.iload_n 3, 1) := by decide +kernel
theorem dX10_tell_36 : decode cX10_tell 36 = .ok (.invokevirtual 60, 3) := by decide +kernel
theorem dX10_tell_39 : decode cX10_tell 39 = .ok (.goto 4, 3) := by decide +kernel
theorem dX10_tell_42 : decode cX10_tell 42 = .ok (.iconst (-1), 1) := by decide +kernel
theorem dX10_tell_43 : decode cX10_tell 43 = .ok (.ireturn, 1) := by decide +kernel
set_option maxRecDepth 20000 in
theorem ggX10_quarrelAt_X10_sizeOf : GoodIn wsX10_quarrelAt wsX10_sizeOf := goodIn_r _ [5, 6, 11, 12, 13, 14, 15, 16, 17, 18, 19, 20, 21, 22, 23, 24, 25] (by decide +kernel) (by decide +kernel)
set_option maxRecDepth 20000 in
theorem gX10_quarrelAt_X10_sizeOf : GoodIn wsX10_quarrelAt (wsV RX10 56 RX10 yX10_sizeOf wsX10_sizeOf) := goodIn_app (goodIn_of _ (by decide +kernel)) ggX10_quarrelAt_X10_sizeOf
set_option maxRecDepth 20000 in
theorem ggX10_quarrelAt_X10_of : GoodIn wsX10_quarrelAt wsX10_of := goodIn_r _ [10, 6, 11, 12, 13, 14, 15, 16, 17, 18, 19, 20, 21, 22, 23, 24, 25] (by decide +kernel) (by decide +kernel)
set_option maxRecDepth 20000 in
theorem gX10_quarrelAt_X10_of : GoodIn wsX10_quarrelAt (wsV RX10 60 RX10 yX10_of wsX10_of) := goodIn_app (goodIn_of _ (by decide +kernel)) ggX10_quarrelAt_X10_of
theorem dX10_quarrelAt_0 : decode cX10_quarrelAt 0 = .ok (.iconst 0, 1) := by decide +kernel
theorem dX10_quarrelAt_1 : decode cX10_quarrelAt 1 = .ok (.istore_n 3, 1) := by decide +kernel
theorem dX10_quarrelAt_2 : decode cX10_quarrelAt 2 = .ok (.iload_n 3, 1) := by decide +kernel
theorem dX10_quarrelAt_3 : decode cX10_quarrelAt 3 = .ok (.aload_n 0, 1) := by decide +kernel
theorem dX10_quarrelAt_4 : decode cX10_quarrelAt 4 = .ok (.iload_n 1, 1) := by decide +kernel
theorem dX10_quarrelAt_5 : decode cX10_quarrelAt 5 = .ok (.invokevirtual 56, 3) := by decide +kernel
theorem dX10_quarrelAt_8 : decode cX10_quarrelAt 8 = .ok (.if_icmp .ge 56, 3) := by decide +kernel
theorem dX10_quarrelAt_11 : decode cX10_quarrelAt 11 = .ok (.iload_n 3, 1) := by decide +kernel
theorem dX10_quarrelAt_12 : decode cX10_quarrelAt 12 = .ok (.aload_n 0, 1) := by decide +kernel
theorem dX10_quarrelAt_13 : decode cX10_quarrelAt 13 = .ok (.iload_n 2, 1) := by decide +kernel
theorem dX10_quarrelAt_14 : decode cX10_quarrelAt 14 = .ok (.invokevirtual 56, 3) := by decide +kernel
theorem dX10_quarrelAt_17 : decode cX10_quarrelAt 17 = .ok (.if_icmp .ge 47, 3) := by decide +kernel
theorem dX10_quarrelAt_20 : decode cX10_quarrelAt 20 = .ok (.aload_n 0, 1) := by decide +kernel
theorem dX10_quarrelAt_21 : decode cX10_quarrelAt 21 = .ok (.iload_n 1, 1) := by decide +kernel
theorem dX10_quarrelAt_22 : decode cX10_quarrelAt 22 = .ok (.iload_n 3, 1) := by decide +kernel
theorem dX10_quarrelAt_23 : decode cX10_quarrelAt 23 = .ok (.iconst 0, 1) := by decide +kernel
theorem dX10_quarrelAt_24 : decode cX10_quarrelAt 24 = .ok (.invokevirtual 60, 3) := by decide +kernel
theorem dX10_quarrelAt_27 : decode cX10_quarrelAt 27 = .ok (.aload_n 0, 1) := by decide +kernel
theorem dX10_quarrelAt_28 : decode cX10_quarrelAt 28 = .ok (.iload_n 2, 1) := by decide +kernel
theorem dX10_quarrelAt_29 : decode cX10_quarrelAt 29 = .ok (.iload_n 3, 1) := by decide +kernel
theorem dX10_quarrelAt_30 : decode cX10_quarrelAt 30 = .ok (.iconst 0, 1) := by decide +kernel
theorem dX10_quarrelAt_31 : decode cX10_quarrelAt 31 = .ok (.invokevirtual 60, 3) := by decide +kernel
theorem dX10_quarrelAt_34 : decode cX10_quarrelAt 34 = .ok (.if_icmp .eq 5, 3) := by decide +kernel
theorem dX10_quarrelAt_37 : decode cX10_quarrelAt 37 = .ok (.iconst (-1), 1) := by decide +kernel
theorem dX10_quarrelAt_38 : decode cX10_quarrelAt 38 = .ok (.ireturn, 1) := by decide +kernel
theorem dX10_quarrelAt_39 : decode cX10_quarrelAt 39 = .ok (.aload_n 0, 1) := by decide +kernel
theorem dX10_quarrelAt_40 : decode cX10_quarrelAt 40 = .ok (.iload_n 1, 1) := by decide +kernel
theorem dX10_quarrelAt_41 : decode cX10_quarrelAt 41 = .ok (.iload_n 3, 1) := by decide +kernel
theorem dX10_quarrelAt_42 : decode cX10_quarrelAt 42 = .ok (.iconst 3, 1) := by decide +kernel
theorem dX10_quarrelAt_43 : decode cX10_quarrelAt 43 = .ok (.invokevirtual 60, 3) := by decide +kernel
theorem dX10_quarrelAt_46 : decode cX10_quarrelAt 46 = .ok (.aload_n 0, 1) := by decide +kernel
theorem dX10_quarrelAt_47 : decode cX10_quarrelAt 47 = .ok (.iload_n 2, 1) := by decide +kernel
theorem dX10_quarrelAt_48 : decode cX10_quarrelAt 48 = .ok (.iload_n 3, 1) := by decide +kernel
theorem dX10_quarrelAt_49 : decode cX10_quarrelAt 49 = .ok (.iconst 3, 1) := by decide +kernel
theorem dX10_quarrelAt_50 : decode cX10_quarrelAt 50 = .ok (.invokevirtual 60, 3) := by decide +kernel
theorem dX10_quarrelAt_53 : decode cX10_quarrelAt 53 = .ok (.if_icmp .eq 5, 3) := by decide +kernel
theorem dX10_quarrelAt_56 : decode cX10_quarrelAt 56 = .ok (.iload_n 3, 1) := by decide +kernel
theorem dX10_quarrelAt_57 : decode cX10_quarrelAt 57 = .ok (.ireturn, 1) := by decide +kernel
theorem dX10_quarrelAt_58 : decode cX10_quarrelAt 58 = .ok (.iinc 3 1, 3) := by decide +kernel
theorem dX10_quarrelAt_61 : decode cX10_quarrelAt 61 = .ok (.goto (-59), 3) := by decide +kernel
theorem dX10_quarrelAt_64 : decode cX10_quarrelAt 64 = .ok (.iconst (-1), 1) := by decide +kernel
theorem dX10_quarrelAt_65 : decode cX10_quarrelAt 65 = .ok (.ireturn, 1) := by decide +kernel
set_option maxRecDepth 20000 in
theorem ggX10_quarrel_X10_isIn : GoodIn wsX10_quarrel wsX10_isIn := goodIn_r _ [5] (by decide +kernel) (by decide +kernel)
set_option maxRecDepth 20000 in
theorem gX10_quarrel_X10_isIn : GoodIn wsX10_quarrel (va_wsS RX10 47 yX10_isIn wsX10_isIn) := goodIn_app (goodIn_of _ (by decide +kernel)) ggX10_quarrel_X10_isIn
set_option maxRecDepth 20000 in
theorem ggX10_quarrel_X10_quarrelAt : GoodIn wsX10_quarrel wsX10_quarrelAt := goodIn_r _ [9, 10, 11, 12, 4, 13, 1, 14, 15, 16, 17, 18, 19, 20, 21, 22, 23, 24, 25, 26, 27, 28, 29, 30, 31, 32] (by decide +kernel) (by decide +kernel)
set_option maxRecDepth 20000 in
theorem gX10_quarrel_X10_quarrelAt : GoodIn wsX10_quarrel (wsV RX10 64 RX10 yX10_quarrelAt wsX10_quarrelAt) := goodIn_app (goodIn_of _ (by decide +kernel)) ggX10_quarrel_X10_quarrelAt
theorem dX10_quarrel_0 : decode cX10_quarrel 0 = .ok (.iload_n 1, 1) := by decide +kernel
theorem dX10_quarrel_1 : decode cX10_quarrel 1 = .ok (.iconst 0, 1) := by decide +kernel
theorem dX10_quarrel_2 : decode cX10_quarrel 2 = .ok (.iconst 2, 1) := by decide +kernel
theorem dX10_quarrel_3 : decode cX10_quarrel 3 = .ok (.invokestatic 47, 3) := by decide +kernel
theorem dX10_quarrel_6 : decode cX10_quarrel 6 = .ok (.ifCond .ne 5, 3) := by decide +kernel
theorem dX10_quarrel_9 : decode cX10_quarrel 9 = .ok (.iconst (-1), 1) := by decide +kernel
theorem dX10_quarrel_10 : decode cX10_quarrel 10 = .ok (.ireturn, 1) := by decide +kernel
theorem dX10_quarrel_11 : decode cX10_quarrel 11 = .ok (.iconst 0, 1) := by decide +kernel
theorem dX10_quarrel_12 : decode cX10_quarrel 12 = .ok (.istore_n 2, 1) := by decide +kernel
theorem dX10_quarrel_13 : decode cX10_quarrel 13 = .ok (.iload_n 2, 1) := by decide +kernel
theorem dX10_quarrel_14 : decode cX10_quarrel 14 = .ok (.aload_n 0, 1) := by decide +kernel
theorem dX10_quarrel_15 : decode cX10_quarrel 15 = .ok (.getfield 7, 3) := by decide +kernel
theorem dX10_quarrel_18 : decode cX10_quarrel 18 = .ok (.iconst 0, 1) := by decide +kernel
theorem dX10_quarrel_19 : decode cX10_quarrel 19 = .ok (.iaload, 1) := by decide +kernel
theorem dX10_quarrel_20 : decode cX10_quarrel 20 = .ok (.if_icmp .ge 62, 3) := by decide +kernel
theorem dX10_quarrel_23 : decode cX10_quarrel 23 = .ok (.iload_n 2, 1) := by decide +kernel
theorem dX10_quarrel_24 : decode cX10_quarrel 24 = .ok (.iconst 1, 1) := by decide +kernel
theorem dX10_quarrel_25 : decode cX10_quarrel 25 = .ok (.iadd, 1) := by decide +kernel
theorem dX10_quarrel_26 : decode cX10_quarrel 26 = .ok (.istore_n 3, 1) := by decide +kernel
theorem dX10_quarrel_27 : decode cX10_quarrel 27 = .ok (.iload_n 3, 1) := by decide +kernel
theorem dX10_quarrel_28 : decode cX10_quarrel 28 = .ok (.aload_n 0, 1) := by decide +kernel
theorem dX10_quarrel_29 : decode cX10_quarrel 29 = .ok (.getfield 7, 3) := by decide +kernel
theorem dX10_quarrel_32 : decode cX10_quarrel 32 = .ok (.iconst 0, 1) := by decide +kernel
theorem dX10_quarrel_33 : decode cX10_quarrel 33 = .ok (.iaload, 1) := by decide +kernel
theorem dX10_quarrel_34 : decode cX10_quarrel 34 = .ok (.if_icmp .ge 42, 3) := by decide +kernel
theorem dX10_quarrel_37 : decode cX10_quarrel 37 = .ok (.aload_n 0, 1) := by decide +kernel
theorem dX10_quarrel_38 : decode cX10_quarrel 38 = .ok (.iload_n 2, 1) := by decide +kernel
theorem dX10_quarrel_39 : decode cX10_quarrel 39 = .ok (.iload_n 3, 1) := by decide +kernel
theorem dX10_quarrel_40 : decode cX10_quarrel 40 = .ok (.invokevirtual 64, 3) := by decide +kernel
theorem dX10_quarrel_43 : decode cX10_quarrel 43 = .ok (.istore 4, 2) := by decide +kernel
theorem dX10_quarrel_45 : decode cX10_quarrel 45 = .ok (.iload 4, 2) := by decide +kernel
theorem dX10_quarrel_47 : decode cX10_quarrel 47 = .ok (.ifCond .lt 23, 3) := by decide +kernel
theorem dX10_quarrel_50 : decode cX10_quarrel 50 = .ok (.iload_n 1, 1) := by decide +kernel
theorem dX10_quarrel_51 : decode cX10_quarrel 51 = .ok (.ifCond .ne 7, 3) := by decide +kernel
theorem dX10_quarrel_54 : decode cX10_quarrel 54 = .ok (.iload_n 2, 1) := by decide +kernel
theorem dX10_quarrel_55 : decode cX10_quarrel 55 = .ok (.goto 14, 3) := by decide +kernel
theorem dX10_quarrel_58 : decode cX10_quarrel 58 = .ok (.iload_n 1, 1) := by decide +kernel
theorem dX10_quarrel_59 : decode cX10_quarrel 59 = .ok (.iconst 1, 1) := by decide +kernel
theorem dX10_quarrel_60 : decode cX10_quarrel 60 = .ok (.if_icmp .ne 7, 3) := by decide +kernel
theorem dX10_quarrel_63 : decode cX10_quarrel 63 = .ok (.iload_n 3, 1) := by decide +kernel
theorem dX10_quarrel_64 : decode cX10_quarrel 64 = .ok (.goto 5, 3) := by decide +kernel
theorem dX10_quarrel_67 : decode cX10_quarrel 67 = .ok (.iload 4, 2) := by decide +kernel
theorem dX10_quarrel_69 : decode cX10_quarrel 69 = .ok (.ireturn, 1) := by decide +kernel
theorem dX10_quarrel_70 : decode cX10_quarrel 70 = .ok (.iinc 3 1, 3) := by decide +kernel
theorem dX10_quarrel_73 : decode cX10_quarrel 73 = .ok (.goto (-46), 3) := by decide +kernel
theorem dX10_quarrel_76 : decode cX10_quarrel 76 = .ok (.iinc 2 1, 3) := by decide +kernel
theorem dX10_quarrel_79 : decode cX10_quarrel 79 = .ok (.goto (-66), 3) := by decide +kernel
theorem dX10_quarrel_82 : decode cX10_quarrel 82 = .ok (.iconst (-1), 1) := by decide +kernel
theorem dX10_quarrel_83 : decode cX10_quarrel 83 = .ok (.ireturn, 1) := by decide +kernel
set_option maxRecDepth 20000 in
theorem ggX10_ahead_X10_of : GoodIn wsX10_ahead wsX10_of := goodIn_r _ [5, 6, 7, 8, 9, 10, 11, 12, 13, 14, 15, 16, 17, 18, 19, 20, 21] (by decide +kernel) (by decide +kernel)
set_option maxRecDepth 20000 in
theorem gX10_ahead_X10_of : GoodIn wsX10_ahead (wsV RX10 60 RX10 yX10_of wsX10_of) := goodIn_app (goodIn_of _ (by decide +kernel)) ggX10_ahead_X10_of
theorem dX10_ahead_0 : decode cX10_ahead 0 = .ok (.iconst 0, 1) := by decide +kernel
theorem dX10_ahead_1 : decode cX10_ahead 1 = .ok (.istore_n 3, 1) := by decide +kernel
theorem dX10_ahead_2 : decode cX10_ahead 2 = .ok (.iconst 0, 1) := by decide +kernel
theorem dX10_ahead_3 : decode cX10_ahead 3 = .ok (.istore 4, 2) := by decide +kernel
theorem dX10_ahead_5 : decode cX10_ahead 5 = .ok (.iload 4, 2) := by decide +kernel
theorem dX10_ahead_7 : decode cX10_ahead 7 = .ok (.iload_n 2, 1) := by decide +kernel
theorem dX10_ahead_8 : decode cX10_ahead 8 = .ok (.if_icmp .ge 35, 3) := by decide +kernel
theorem dX10_ahead_11 : decode cX10_ahead 11 = .ok (.iload_n 3, 1) := by decide +kernel
theorem dX10_ahead_12 : decode cX10_ahead 12 = .ok (.aload_n 0, 1) := by decide +kernel
theorem dX10_ahead_13 : decode cX10_ahead 13 = .ok (.iload_n 1, 1) := by decide +kernel
theorem dX10_ahead_14 : decode cX10_ahead 14 = .ok (.iload 4, 2) := by decide +kernel
theorem dX10_ahead_16 : decode cX10_ahead 16 = .ok (.iconst 0, 1) := by decide +kernel
theorem dX10_ahead_17 : decode cX10_ahead 17 = .ok (.invokevirtual 60, 3) := by decide +kernel
theorem dX10_ahead_20 : decode cX10_ahead 20 = .ok (.aload_n 0, 1) := by decide +kernel
theorem dX10_ahead_21 : decode cX10_ahead 21 = .ok (.iload_n 1, 1) := by decide +kernel
theorem dX10_ahead_22 : decode cX10_ahead 22 = .ok (.iload_n 2, 1) := by decide +kernel
theorem dX10_ahead_23 : decode cX10_ahead 23 = .ok (.iconst 0, 1) := by decide +kernel
theorem dX10_ahead_24 : decode cX10_ahead 24 = .ok (.invokevirtual 60, 3) := by decide +kernel
theorem dX10_ahead_27 : decode cX10_ahead 27 = .ok (.if_icmp .ne 7, 3) := by decide +kernel
theorem dX10_ahead_30 : decode cX10_ahead 30 = .ok (.iconst 1, 1) := by decide +kernel
theorem dX10_ahead_31 : decode cX10_ahead 31 = .ok (.goto 4, 3) := by decide +kernel
theorem dX10_ahead_34 : decode cX10_ahead 34 = .ok (.iconst 0, 1) := by decide +kernel
theorem dX10_ahead_35 : decode cX10_ahead 35 = .ok (.iadd, 1) := by decide +kernel
theorem dX10_ahead_36 : decode cX10_ahead 36 = .ok (.istore_n 3, 1) := by decide +kernel
theorem dX10_ahead_37 : decode cX10_ahead 37 = .ok (.iinc 4 1, 3) := by decide +kernel
theorem dX10_ahead_40 : decode cX10_ahead 40 = .ok (.goto (-35), 3) := by decide +kernel
theorem dX10_ahead_43 : decode cX10_ahead 43 = .ok (.iload_n 3, 1) := by decide +kernel
theorem dX10_ahead_44 : decode cX10_ahead 44 = .ok (.ireturn, 1) := by decide +kernel
set_option maxRecDepth 20000 in
theorem ggX10_latest_X10_of : GoodIn wsX10_latest wsX10_of := goodIn_r _ [5, 6, 7, 8, 9, 10, 11, 12, 13, 14, 15, 16, 17, 18, 19, 20, 21] (by decide +kernel) (by decide +kernel)
set_option maxRecDepth 20000 in
theorem gX10_latest_X10_of : GoodIn wsX10_latest (wsV RX10 60 RX10 yX10_of wsX10_of) := goodIn_app (goodIn_of _ (by decide +kernel)) ggX10_latest_X10_of
theorem dX10_latest_0 : decode cX10_latest 0 = .ok (.iconst (-1), 1) := by decide +kernel
theorem dX10_latest_1 : decode cX10_latest 1 = .ok (.istore_n 3, 1) := by decide +kernel
theorem dX10_latest_2 : decode cX10_latest 2 = .ok (.iconst 0, 1) := by decide +kernel
theorem dX10_latest_3 : decode cX10_latest 3 = .ok (.istore 4, 2) := by decide +kernel
theorem dX10_latest_5 : decode cX10_latest 5 = .ok (.iload 4, 2) := by decide +kernel
theorem dX10_latest_7 : decode cX10_latest 7 = .ok (.iload_n 2, 1) := by decide +kernel
theorem dX10_latest_8 : decode cX10_latest 8 = .ok (.if_icmp .ge 36, 3) := by decide +kernel
theorem dX10_latest_11 : decode cX10_latest 11 = .ok (.aload_n 0, 1) := by decide +kernel
theorem dX10_latest_12 : decode cX10_latest 12 = .ok (.iload_n 1, 1) := by decide +kernel
theorem dX10_latest_13 : decode cX10_latest 13 = .ok (.iload 4, 2) := by decide +kernel
theorem dX10_latest_15 : decode cX10_latest 15 = .ok (.iconst 1, 1) := by decide +kernel
theorem dX10_latest_16 : decode cX10_latest 16 = .ok (.invokevirtual 60, 3) := by decide +kernel
theorem dX10_latest_19 : decode cX10_latest 19 = .ok (.aload_n 0, 1) := by decide +kernel
theorem dX10_latest_20 : decode cX10_latest 20 = .ok (.iload_n 1, 1) := by decide +kernel
theorem dX10_latest_21 : decode cX10_latest 21 = .ok (.iload_n 2, 1) := by decide +kernel
theorem dX10_latest_22 : decode cX10_latest 22 = .ok (.iconst 1, 1) := by decide +kernel
theorem dX10_latest_23 : decode cX10_latest 23 = .ok (.invokevirtual 60, 3) := by decide +kernel
theorem dX10_latest_26 : decode cX10_latest 26 = .ok (.if_icmp .ne 12, 3) := by decide +kernel
theorem dX10_latest_29 : decode cX10_latest 29 = .ok (.aload_n 0, 1) := by decide +kernel
theorem dX10_latest_30 : decode cX10_latest 30 = .ok (.iload_n 1, 1) := by decide +kernel
theorem dX10_latest_31 : decode cX10_latest 31 = .ok (.iload 4, 2) := by decide +kernel
theorem dX10_latest_33 : decode cX10_latest 33 = .ok (.iconst 2, 1) := by decide +kernel
theorem dX10_latest_34 : decode cX10_latest 34 = .ok (.invokevirtual 60, 3) := by decide +kernel
theorem dX10_latest_37 : decode cX10_latest 37 = .ok (.istore_n 3, 1) := by decide +kernel
theorem dX10_latest_38 : decode cX10_latest 38 = .ok (.iinc 4 1, 3) := by decide +kernel
theorem dX10_latest_41 : decode cX10_latest 41 = .ok (.goto (-36), 3) := by decide +kernel
theorem dX10_latest_44 : decode cX10_latest 44 = .ok (.iload_n 3, 1) := by decide +kernel
theorem dX10_latest_45 : decode cX10_latest 45 = .ok (.ireturn, 1) := by decide +kernel
set_option maxRecDepth 20000 in
theorem ggX10_base_X10_of : GoodIn wsX10_base wsX10_of := goodIn_r _ [5, 6, 15, 16, 17, 18, 19, 20, 21, 22, 23, 24, 25, 26, 27, 28, 29] (by decide +kernel) (by decide +kernel)
set_option maxRecDepth 20000 in
theorem gX10_base_X10_of : GoodIn wsX10_base (wsV RX10 60 RX10 yX10_of wsX10_of) := goodIn_app (goodIn_of _ (by decide +kernel)) ggX10_base_X10_of
set_option maxRecDepth 20000 in
theorem ggX10_base_X10_ahead : GoodIn wsX10_base wsX10_ahead := goodIn_r _ [10, 1, 2, 3, 4, 5, 6, 15, 16, 17, 18, 19, 20, 21, 22, 23, 24, 25, 26, 27, 28, 29] (by decide +kernel) (by decide +kernel)
set_option maxRecDepth 20000 in
theorem gX10_base_X10_ahead : GoodIn wsX10_base (wsV RX10 68 RX10 yX10_ahead wsX10_ahead) := goodIn_app (goodIn_of _ (by decide +kernel)) ggX10_base_X10_ahead
set_option maxRecDepth 20000 in
theorem ggX10_base_X10_latest : GoodIn wsX10_base wsX10_latest := goodIn_r _ [14, 1, 2, 3, 4, 5, 6, 15, 16, 17, 18, 19, 20, 21, 22, 23, 24, 25, 26, 27, 28, 29] (by decide +kernel) (by decide +kernel)
set_option maxRecDepth 20000 in
theorem gX10_base_X10_latest : GoodIn wsX10_base (wsV RX10 71 RX10 yX10_latest wsX10_latest) := goodIn_app (goodIn_of _ (by decide +kernel)) ggX10_base_X10_latest
theorem dX10_base_0 : decode cX10_base 0 = .ok (.iload_n 1, 1) := by decide +kernel
theorem dX10_base_1 : decode cX10_base 1 = .ok (.tableswitch 56 0 3 #[31, 33, 41, 49], 31) := by decide +kernel
theorem dX10_base_32 : decode cX10_base 32 = .ok (.iconst 0, 1) := by decide +kernel
theorem dX10_base_33 : decode cX10_base 33 = .ok (.ireturn, 1) := by decide +kernel
theorem dX10_base_34 : decode cX10_base 34 = .ok (.aload_n 0, 1) := by decide +kernel
theorem dX10_base_35 : decode cX10_base 35 = .ok (.iload_n 2, 1) := by decide +kernel
theorem dX10_base_36 : decode cX10_base 36 = .ok (.iload_n 3, 1) := by decide +kernel
theorem dX10_base_37 : decode cX10_base 37 = .ok (.iconst 1, 1) := by decide +kernel
theorem dX10_base_38 : decode cX10_base 38 = .ok (.invokevirtual 60, 3) := by decide +kernel
theorem dX10_base_41 : decode cX10_base 41 = .ok (.ireturn, 1) := by decide +kernel
theorem dX10_base_42 : decode cX10_base 42 = .ok (.aload_n 0, 1) := by decide +kernel
theorem dX10_base_43 : decode cX10_base 43 = .ok (.iload_n 2, 1) := by decide +kernel
theorem dX10_base_44 : decode cX10_base 44 = .ok (.iload_n 3, 1) := by decide +kernel
theorem dX10_base_45 : decode cX10_base 45 = .ok (.iconst 2, 1) := by decide +kernel
theorem dX10_base_46 : decode cX10_base 46 = .ok (.invokevirtual 60, 3) := by decide +kernel
theorem dX10_base_49 : decode cX10_base 49 = .ok (.ireturn, 1) := by decide +kernel
theorem dX10_base_50 : decode cX10_base 50 = .ok (.aload_n 0, 1) := by decide +kernel
theorem dX10_base_51 : decode cX10_base 51 = .ok (.iload_n 2, 1) := by decide +kernel
theorem dX10_base_52 : decode cX10_base 52 = .ok (.iload_n 3, 1) := by decide +kernel
theorem dX10_base_53 : decode cX10_base 53 = .ok (.invokevirtual 68, 3) := by decide +kernel
theorem dX10_base_56 : decode cX10_base 56 = .ok (.ireturn, 1) := by decide +kernel
theorem dX10_base_57 : decode cX10_base 57 = .ok (.aload_n 0, 1) := by decide +kernel
theorem dX10_base_58 : decode cX10_base 58 = .ok (.iload_n 2, 1) := by decide +kernel
theorem dX10_base_59 : decode cX10_base 59 = .ok (.iload_n 3, 1) := by decide +kernel
theorem dX10_base_60 : decode cX10_base 60 = .ok (.invokevirtual 71, 3) := by decide +kernel
theorem dX10_base_63 : decode cX10_base 63 = .ok (.ifCond .ge 9, 3) := by decide +kernel
theorem dX10_base_66 : decode cX10_base 66 = .ok (.sipush (-1000), 3) := by decide +kernel
theorem dX10_base_69 : decode cX10_base 69 = .ok (.goto 9, 3) := by decide +kernel
theorem dX10_base_72 : decode cX10_base 72 = .ok (.aload_n 0, 1) := by decide +kernel
theorem dX10_base_73 : decode cX10_base 73 = .ok (.iload_n 2, 1) := by decide +kernel
theorem dX10_base_74 : decode cX10_base 74 = .ok (.iload_n 3, 1) := by decide +kernel
theorem dX10_base_75 : decode cX10_base 75 = .ok (.invokevirtual 71, 3) := by decide +kernel
theorem dX10_base_78 : decode cX10_base 78 = .ok (.ireturn, 1) := by decide +kernel
set_option maxRecDepth 20000 in
theorem ggX10_holds_X10_sizeOf : GoodIn wsX10_holds wsX10_sizeOf := goodIn_r _ [7, 1, 24, 25, 26, 27, 28, 29, 30, 31, 32, 33, 34, 35, 36, 37, 38] (by decide +kernel) (by decide +kernel)
set_option maxRecDepth 20000 in
theorem gX10_holds_X10_sizeOf : GoodIn wsX10_holds (wsV RX10 56 RX10 yX10_sizeOf wsX10_sizeOf) := goodIn_app (goodIn_of _ (by decide +kernel)) ggX10_holds_X10_sizeOf
set_option maxRecDepth 20000 in
theorem ggX10_holds_X10_of : GoodIn wsX10_holds wsX10_of := goodIn_r _ [11, 1, 24, 25, 26, 27, 28, 29, 30, 31, 32, 33, 34, 35, 36, 37, 38] (by decide +kernel) (by decide +kernel)
set_option maxRecDepth 20000 in
theorem gX10_holds_X10_of : GoodIn wsX10_holds (wsV RX10 60 RX10 yX10_of wsX10_of) := goodIn_app (goodIn_of _ (by decide +kernel)) ggX10_holds_X10_of
set_option maxRecDepth 20000 in
theorem ggX10_holds_X10_base : GoodIn wsX10_holds wsX10_base := goodIn_r _ [15, 8, 9, 10, 6, 11, 1, 16, 17, 18, 19, 20, 21, 22, 23, 24, 25, 26, 27, 28, 29, 30, 31, 32, 33, 34, 35, 36, 37, 38] (by decide +kernel) (by decide +kernel)
set_option maxRecDepth 20000 in
theorem gX10_holds_X10_base : GoodIn wsX10_holds (wsV RX10 74 RX10 yX10_base wsX10_base) := goodIn_app (goodIn_of _ (by decide +kernel)) ggX10_holds_X10_base
theorem dX10_holds_0 : decode cX10_holds 0 = .ok (.iconst 0, 1) := by decide +kernel
theorem dX10_holds_1 : decode cX10_holds 1 = .ok (.istore 5, 2) := by decide +kernel
theorem dX10_holds_3 : decode cX10_holds 3 = .ok (.iconst 0, 1) := by decide +kernel
theorem dX10_holds_4 : decode cX10_holds 4 = .ok (.istore 6, 2) := by decide +kernel
theorem dX10_holds_6 : decode cX10_holds 6 = .ok (.iload 6, 2) := by decide +kernel
theorem dX10_holds_8 : decode cX10_holds 8 = .ok (.aload_n 0, 1) := by decide +kernel
theorem dX10_holds_9 : decode cX10_holds 9 = .ok (.getfield 7, 3) := by decide +kernel
theorem dX10_holds_12 : decode cX10_holds 12 = .ok (.iconst 0, 1) := by decide +kernel
theorem dX10_holds_13 : decode cX10_holds 13 = .ok (.iaload, 1) := by decide +kernel
theorem dX10_holds_14 : decode cX10_holds 14 = .ok (.if_icmp .ge 122, 3) := by decide +kernel
theorem dX10_holds_17 : decode cX10_holds 17 = .ok (.iconst 0, 1) := by decide +kernel
theorem dX10_holds_18 : decode cX10_holds 18 = .ok (.istore 7, 2) := by decide +kernel
theorem dX10_holds_20 : decode cX10_holds 20 = .ok (.iload 7, 2) := by decide +kernel
theorem dX10_holds_22 : decode cX10_holds 22 = .ok (.aload_n 0, 1) := by decide +kernel
theorem dX10_holds_23 : decode cX10_holds 23 = .ok (.iload 6, 2) := by decide +kernel
theorem dX10_holds_25 : decode cX10_holds 25 = .ok (.invokevirtual 56, 3) := by decide +kernel
theorem dX10_holds_28 : decode cX10_holds 28 = .ok (.if_icmp .ge 102, 3) := by decide +kernel
theorem dX10_holds_31 : decode cX10_holds 31 = .ok (.iload 6, 2) := by decide +kernel
theorem dX10_holds_33 : decode cX10_holds 33 = .ok (.iload 4, 2) := by decide +kernel
theorem dX10_holds_35 : decode cX10_holds 35 = .ok (.if_icmp .eq 95, 3) := by decide +kernel
theorem dX10_holds_38 : decode cX10_holds 38 = .ok (.aload_n 0, 1) := by decide +kernel
theorem dX10_holds_39 : decode cX10_holds 39 = .ok (.iload 6, 2) := by decide +kernel
theorem dX10_holds_41 : decode cX10_holds 41 = .ok (.iload 7, 2) := by decide +kernel
theorem dX10_holds_43 : decode cX10_holds 43 = .ok (.iconst 0, 1) := by decide +kernel
theorem dX10_holds_44 : decode cX10_holds 44 = .ok (.invokevirtual 60, 3) := by decide +kernel
theorem dX10_holds_47 : decode cX10_holds 47 = .ok (.iload_n 2, 1) := by decide +kernel
theorem dX10_holds_48 : decode cX10_holds 48 = .ok (.if_icmp .eq 6, 3) := by decide +kernel
theorem dX10_holds_51 : decode cX10_holds 51 = .ok (.goto 73, 3) := by decide +kernel
theorem dX10_holds_54 : decode cX10_holds 54 = .ok (.aload_n 0, 1) := by decide +kernel
theorem dX10_holds_55 : decode cX10_holds 55 = .ok (.iload 6, 2) := by decide +kernel
theorem dX10_holds_57 : decode cX10_holds 57 = .ok (.iload 7, 2) := by decide +kernel
theorem dX10_holds_59 : decode cX10_holds 59 = .ok (.iconst 4, 1) := by decide +kernel
theorem dX10_holds_60 : decode cX10_holds 60 = .ok (.iload_n 3, 1) := by decide +kernel
theorem dX10_holds_61 : decode cX10_holds 61 = .ok (.iadd, 1) := by decide +kernel
theorem dX10_holds_62 : decode cX10_holds 62 = .ok (.invokevirtual 60, 3) := by decide +kernel
theorem dX10_holds_65 : decode cX10_holds 65 = .ok (.istore 8, 2) := by decide +kernel
theorem dX10_holds_67 : decode cX10_holds 67 = .ok (.aload_n 0, 1) := by decide +kernel
theorem dX10_holds_68 : decode cX10_holds 68 = .ok (.iload_n 1, 1) := by decide +kernel
theorem dX10_holds_69 : decode cX10_holds 69 = .ok (.iload 6, 2) := by decide +kernel
theorem dX10_holds_71 : decode cX10_holds 71 = .ok (.iload 7, 2) := by decide +kernel
theorem dX10_holds_73 : decode cX10_holds 73 = .ok (.invokevirtual 74, 3) := by decide +kernel
theorem dX10_holds_76 : decode cX10_holds 76 = .ok (.istore 9, 2) := by decide +kernel
theorem dX10_holds_78 : decode cX10_holds 78 = .ok (.iload 9, 2) := by decide +kernel
theorem dX10_holds_80 : decode cX10_holds 80 = .ok (.sipush (-1000), 3) := by decide +kernel
theorem dX10_holds_83 : decode cX10_holds 83 = .ok (.if_icmp .ne 10, 3) := by decide +kernel
theorem dX10_holds_86 : decode cX10_holds 86 = .ok (.iload 8, 2) := by decide +kernel
theorem dX10_holds_88 : decode cX10_holds 88 = .ok (.ifCond .eq 36, 3) := by decide +kernel
theorem dX10_holds_91 : decode cX10_holds 91 = .ok (.iconst 0, 1) := by decide +kernel
theorem dX10_holds_92 : decode cX10_holds 92 = .ok (.ireturn, 1) := by decide +kernel
theorem dX10_holds_93 : decode cX10_holds 93 = .ok (.iload 5, 2) := by decide +kernel
theorem dX10_holds_95 : decode cX10_holds 95 = .ok (.ifCond .ne 12, 3) := by decide +kernel
theorem dX10_holds_98 : decode cX10_holds 98 = .ok (.aload_n 0, 1) := by decide +kernel
theorem dX10_holds_99 : decode cX10_holds 99 = .ok (.iload 8, 2) := by decide +kernel
theorem dX10_holds_101 : decode cX10_holds 101 = .ok (.iload 9, 2) := by decide +kernel
theorem dX10_holds_103 : decode cX10_holds 103 = .ok (.isub, 1) := by decide +kernel
theorem dX10_holds_104 : decode cX10_holds 104 = .ok (.putfield 77, 3) := by decide +kernel
theorem dX10_holds_107 : decode cX10_holds 107 = .ok (.iconst 1, 1) := by decide +kernel
theorem dX10_holds_108 : decode cX10_holds 108 = .ok (.istore 5, 2) := by decide +kernel
theorem dX10_holds_110 : decode cX10_holds 110 = .ok (.iload 8, 2) := by decide +kernel
theorem dX10_holds_112 : decode cX10_holds 112 = .ok (.iload 9, 2) := by decide +kernel
theorem dX10_holds_114 : decode cX10_holds 114 = .ok (.aload_n 0, 1) := by decide +kernel
theorem dX10_holds_115 : decode cX10_holds 115 = .ok (.getfield 77, 3) := by decide +kernel
theorem dX10_holds_118 : decode cX10_holds 118 = .ok (.iadd, 1) := by decide +kernel
theorem dX10_holds_119 : decode cX10_holds 119 = .ok (.if_icmp .eq 5, 3) := by decide +kernel
theorem dX10_holds_122 : decode cX10_holds 122 = .ok (.iconst 0, 1) := by decide +kernel
theorem dX10_holds_123 : decode cX10_holds 123 = .ok (.ireturn, 1) := by decide +kernel
theorem dX10_holds_124 : decode cX10_holds 124 = .ok (.iinc 7 1, 3) := by decide +kernel
theorem dX10_holds_127 : decode cX10_holds 127 = .ok (.goto (-107), 3) := by decide +kernel
theorem dX10_holds_130 : decode cX10_holds 130 = .ok (.iinc 6 1, 3) := by decide +kernel
theorem dX10_holds_133 : decode cX10_holds 133 = .ok (.goto (-127), 3) := by decide +kernel
theorem dX10_holds_136 : decode cX10_holds 136 = .ok (.iload 5, 2) := by decide +kernel
theorem dX10_holds_138 : decode cX10_holds 138 = .ok (.ireturn, 1) := by decide +kernel
set_option maxRecDepth 20000 in
theorem ggX10_isTable_X10_sizeOf : GoodIn wsX10_isTable wsX10_sizeOf := goodIn_r _ [6, 1, 11, 12, 13, 14, 15, 16, 17, 18, 19, 20, 21, 22, 23, 24, 25] (by decide +kernel) (by decide +kernel)
set_option maxRecDepth 20000 in
theorem gX10_isTable_X10_sizeOf : GoodIn wsX10_isTable (wsV RX10 56 RX10 yX10_sizeOf wsX10_sizeOf) := goodIn_app (goodIn_of _ (by decide +kernel)) ggX10_isTable_X10_sizeOf
set_option maxRecDepth 20000 in
theorem ggX10_isTable_X10_of : GoodIn wsX10_isTable wsX10_of := goodIn_r _ [10, 1, 11, 12, 13, 14, 15, 16, 17, 18, 19, 20, 21, 22, 23, 24, 25] (by decide +kernel) (by decide +kernel)
set_option maxRecDepth 20000 in
theorem gX10_isTable_X10_of : GoodIn wsX10_isTable (wsV RX10 60 RX10 yX10_of wsX10_of) := goodIn_app (goodIn_of _ (by decide +kernel)) ggX10_isTable_X10_of
theorem dX10_isTable_0 : decode cX10_isTable 0 = .ok (.iconst 0, 1) := by decide +kernel
theorem dX10_isTable_1 : decode cX10_isTable 1 = .ok (.istore 4, 2) := by decide +kernel
theorem dX10_isTable_3 : decode cX10_isTable 3 = .ok (.iload 4, 2) := by decide +kernel
theorem dX10_isTable_5 : decode cX10_isTable 5 = .ok (.aload_n 0, 1) := by decide +kernel
theorem dX10_isTable_6 : decode cX10_isTable 6 = .ok (.getfield 7, 3) := by decide +kernel
theorem dX10_isTable_9 : decode cX10_isTable 9 = .ok (.iconst 0, 1) := by decide +kernel
theorem dX10_isTable_10 : decode cX10_isTable 10 = .ok (.iaload, 1) := by decide +kernel
theorem dX10_isTable_11 : decode cX10_isTable 11 = .ok (.if_icmp .ge 191, 3) := by decide +kernel
theorem dX10_isTable_14 : decode cX10_isTable 14 = .ok (.iconst 0, 1) := by decide +kernel
theorem dX10_isTable_15 : decode cX10_isTable 15 = .ok (.istore 5, 2) := by decide +kernel
theorem dX10_isTable_17 : decode cX10_isTable 17 = .ok (.iload 5, 2) := by decide +kernel
theorem dX10_isTable_19 : decode cX10_isTable 19 = .ok (.aload_n 0, 1) := by decide +kernel
theorem dX10_isTable_20 : decode cX10_isTable 20 = .ok (.iload 4, 2) := by decide +kernel
theorem dX10_isTable_22 : decode cX10_isTable 22 = .ok (.invokevirtual 56, 3) := by decide +kernel
theorem dX10_isTable_25 : decode cX10_isTable 25 = .ok (.if_icmp .ge 171, 3) := by decide +kernel
theorem dX10_isTable_28 : decode cX10_isTable 28 = .ok (.iload 4, 2) := by decide +kernel
theorem dX10_isTable_30 : decode cX10_isTable 30 = .ok (.iload_n 3, 1) := by decide +kernel
theorem dX10_isTable_31 : decode cX10_isTable 31 = .ok (.if_icmp .eq 165, 3) := by decide +kernel
theorem dX10_isTable_34 : decode cX10_isTable 34 = .ok (.aload_n 0, 1) := by decide +kernel
theorem dX10_isTable_35 : decode cX10_isTable 35 = .ok (.iload 4, 2) := by decide +kernel
theorem dX10_isTable_37 : decode cX10_isTable 37 = .ok (.iload 5, 2) := by decide +kernel
theorem dX10_isTable_39 : decode cX10_isTable 39 = .ok (.iconst 0, 1) := by decide +kernel
theorem dX10_isTable_40 : decode cX10_isTable 40 = .ok (.invokevirtual 60, 3) := by decide +kernel
theorem dX10_isTable_43 : decode cX10_isTable 43 = .ok (.iload_n 1, 1) := by decide +kernel
theorem dX10_isTable_44 : decode cX10_isTable 44 = .ok (.if_icmp .eq 6, 3) := by decide +kernel
theorem dX10_isTable_47 : decode cX10_isTable 47 = .ok (.goto 143, 3) := by decide +kernel
theorem dX10_isTable_50 : decode cX10_isTable 50 = .ok (.iconst 0, 1) := by decide +kernel
theorem dX10_isTable_51 : decode cX10_isTable 51 = .ok (.istore 6, 2) := by decide +kernel
theorem dX10_isTable_53 : decode cX10_isTable 53 = .ok (.iload 6, 2) := by decide +kernel
theorem dX10_isTable_55 : decode cX10_isTable 55 = .ok (.aload_n 0, 1) := by decide +kernel
theorem dX10_isTable_56 : decode cX10_isTable 56 = .ok (.getfield 7, 3) := by decide +kernel
theorem dX10_isTable_59 : decode cX10_isTable 59 = .ok (.iconst 0, 1) := by decide +kernel
theorem dX10_isTable_60 : decode cX10_isTable 60 = .ok (.iaload, 1) := by decide +kernel
theorem dX10_isTable_61 : decode cX10_isTable 61 = .ok (.if_icmp .ge 129, 3) := by decide +kernel
theorem dX10_isTable_64 : decode cX10_isTable 64 = .ok (.iconst 0, 1) := by decide +kernel
theorem dX10_isTable_65 : decode cX10_isTable 65 = .ok (.istore 7, 2) := by decide +kernel
theorem dX10_isTable_67 : decode cX10_isTable 67 = .ok (.iload 7, 2) := by decide +kernel
theorem dX10_isTable_69 : decode cX10_isTable 69 = .ok (.aload_n 0, 1) := by decide +kernel
theorem dX10_isTable_70 : decode cX10_isTable 70 = .ok (.iload 6, 2) := by decide +kernel
theorem dX10_isTable_72 : decode cX10_isTable 72 = .ok (.invokevirtual 56, 3) := by decide +kernel
theorem dX10_isTable_75 : decode cX10_isTable 75 = .ok (.if_icmp .ge 109, 3) := by decide +kernel
theorem dX10_isTable_78 : decode cX10_isTable 78 = .ok (.iload 6, 2) := by decide +kernel
theorem dX10_isTable_80 : decode cX10_isTable 80 = .ok (.iload_n 3, 1) := by decide +kernel
theorem dX10_isTable_81 : decode cX10_isTable 81 = .ok (.if_icmp .eq 103, 3) := by decide +kernel
theorem dX10_isTable_84 : decode cX10_isTable 84 = .ok (.aload_n 0, 1) := by decide +kernel
theorem dX10_isTable_85 : decode cX10_isTable 85 = .ok (.iload 6, 2) := by decide +kernel
theorem dX10_isTable_87 : decode cX10_isTable 87 = .ok (.iload 7, 2) := by decide +kernel
theorem dX10_isTable_89 : decode cX10_isTable 89 = .ok (.iconst 0, 1) := by decide +kernel
theorem dX10_isTable_90 : decode cX10_isTable 90 = .ok (.invokevirtual 60, 3) := by decide +kernel
theorem dX10_isTable_93 : decode cX10_isTable 93 = .ok (.iload_n 1, 1) := by decide +kernel
theorem dX10_isTable_94 : decode cX10_isTable 94 = .ok (.if_icmp .ne 49, 3) := by decide +kernel
theorem dX10_isTable_97 : decode cX10_isTable 97 = .ok (.aload_n 0, 1) := by decide +kernel
theorem dX10_isTable_98 : decode cX10_isTable 98 = .ok (.iload 6, 2) := by decide +kernel
theorem dX10_isTable_100 : decode cX10_isTable 100 = .ok (.iload 7, 2) := by decide +kernel
theorem dX10_isTable_102 : decode cX10_isTable 102 = .ok (.iconst 1, 1) := by decide +kernel
theorem dX10_isTable_103 : decode cX10_isTable 103 = .ok (.invokevirtual 60, 3) := by decide +kernel
theorem dX10_isTable_106 : decode cX10_isTable 106 = .ok (.aload_n 0, 1) := by decide +kernel
theorem dX10_isTable_107 : decode cX10_isTable 107 = .ok (.iload 4, 2) := by decide +kernel
theorem dX10_isTable_109 : decode cX10_isTable 109 = .ok (.iload 5, 2) := by decide +kernel
theorem dX10_isTable_111 : decode cX10_isTable 111 = .ok (.iconst 1, 1) := by decide +kernel
theorem dX10_isTable_112 : decode cX10_isTable 112 = .ok (.invokevirtual 60, 3) := by decide +kernel
theorem dX10_isTable_115 : decode cX10_isTable 115 = .ok (.if_icmp .ne 28, 3) := by decide +kernel
theorem dX10_isTable_118 : decode cX10_isTable 118 = .ok (.aload_n 0, 1) := by decide +kernel
theorem dX10_isTable_119 : decode cX10_isTable 119 = .ok (.iload 6, 2) := by decide +kernel
theorem dX10_isTable_121 : decode cX10_isTable 121 = .ok (.iload 7, 2) := by decide +kernel
theorem dX10_isTable_123 : decode cX10_isTable 123 = .ok (.iconst 2, 1) := by decide +kernel
theorem dX10_isTable_124 : decode cX10_isTable 124 = .ok (.invokevirtual 60, 3) := by decide +kernel
theorem dX10_isTable_127 : decode cX10_isTable 127 = .ok (.aload_n 0, 1) := by decide +kernel
theorem dX10_isTable_128 : decode cX10_isTable 128 = .ok (.iload 4, 2) := by decide +kernel
theorem dX10_isTable_130 : decode cX10_isTable 130 = .ok (.iload 5, 2) := by decide +kernel
theorem dX10_isTable_132 : decode cX10_isTable 132 = .ok (.iconst 2, 1) := by decide +kernel
theorem dX10_isTable_133 : decode cX10_isTable 133 = .ok (.invokevirtual 60, 3) := by decide +kernel
theorem dX10_isTable_136 : decode cX10_isTable 136 = .ok (.if_icmp .ne 7, 3) := by decide +kernel
theorem dX10_isTable_139 : decode cX10_isTable 139 = .ok (.iconst 1, 1) := by decide +kernel
theorem dX10_isTable_140 : decode cX10_isTable 140 = .ok (.goto 4, 3) := by decide +kernel
theorem dX10_isTable_143 : decode cX10_isTable 143 = .ok (.iconst 0, 1) := by decide +kernel
theorem dX10_isTable_144 : decode cX10_isTable 144 = .ok (.istore 8, 2) := by decide +kernel
theorem dX10_isTable_146 : decode cX10_isTable 146 = .ok (.iload 8, 2) := by decide +kernel
theorem dX10_isTable_148 : decode cX10_isTable 148 = .ok (.ifCond .eq 30, 3) := by decide +kernel
theorem dX10_isTable_151 : decode cX10_isTable 151 = .ok (.aload_n 0, 1) := by decide +kernel
theorem dX10_isTable_152 : decode cX10_isTable 152 = .ok (.iload 6, 2) := by decide +kernel
theorem dX10_isTable_154 : decode cX10_isTable 154 = .ok (.iload 7, 2) := by decide +kernel
theorem dX10_isTable_156 : decode cX10_isTable 156 = .ok (.iconst 4, 1) := by decide +kernel
theorem dX10_isTable_157 : decode cX10_isTable 157 = .ok (.iload_n 2, 1) := by decide +kernel
theorem dX10_isTable_158 : decode cX10_isTable 158 = .ok (.iadd, 1) := by decide +kernel
theorem dX10_isTable_159 : decode cX10_isTable 159 = .ok (.invokevirtual 60, 3) := by decide +kernel
theorem dX10_isTable_162 : decode cX10_isTable 162 = .ok (.aload_n 0, 1) := by decide +kernel
theorem dX10_isTable_163 : decode cX10_isTable 163 = .ok (.iload 4, 2) := by decide +kernel
theorem dX10_isTable_165 : decode cX10_isTable 165 = .ok (.iload 5, 2) := by decide +kernel
theorem dX10_isTable_167 : decode cX10_isTable 167 = .ok (.iconst 4, 1) := by decide +kernel
theorem dX10_isTable_168 : decode cX10_isTable 168 = .ok (.iload_n 2, 1) := by decide +kernel
theorem dX10_isTable_169 : decode cX10_isTable 169 = .ok (.iadd, 1) := by decide +kernel
theorem dX10_isTable_170 : decode cX10_isTable 170 = .ok (.invokevirtual 60, 3) := by decide +kernel
theorem dX10_isTable_173 : decode cX10_isTable 173 = .ok (.if_icmp .eq 5, 3) := by decide +kernel
theorem dX10_isTable_176 : decode cX10_isTable 176 = .ok (.iconst 0, 1) := by decide +kernel
theorem dX10_isTable_177 : decode cX10_isTable 177 = .ok (.ireturn, 1) := by decide +kernel
theorem dX10_isTable_178 : decode cX10_isTable 178 = .ok (.iinc 7 1, 3) := by decide +kernel
theorem dX10_isTable_181 : decode cX10_isTable 181 = .ok (.goto (-114), 3) := by decide +kernel
theorem dX10_isTable_184 : decode cX10_isTable 184 = .ok (.iinc 6 1, 3) := by decide +kernel
theorem dX10_isTable_187 : decode cX10_isTable 187 = .ok (.goto (-134), 3) := by decide +kernel
theorem dX10_isTable_190 : decode cX10_isTable 190 = .ok (.iinc 5 1, 3) := by decide +kernel
theorem dX10_isTable_193 : decode cX10_isTable 193 = .ok (.goto (-176), 3) := by decide +kernel
theorem dX10_isTable_196 : decode cX10_isTable 196 = .ok (.iinc 4 1, 3) := by decide +kernel
theorem dX10_isTable_199 : decode cX10_isTable 199 = .ok (.goto (-196), 3) := by decide +kernel
theorem dX10_isTable_202 : decode cX10_isTable 202 = .ok (.iconst 1, 1) := by decide +kernel
theorem dX10_isTable_203 : decode cX10_isTable 203 = .ok (.ireturn, 1) := by decide +kernel
set_option maxRecDepth 20000 in
theorem ggX10_isThere_X10_sizeOf : GoodIn wsX10_isThere wsX10_sizeOf := goodIn_r _ [6, 1, 11, 12, 13, 14, 15, 16, 17, 18, 19, 20, 21, 22, 23, 24, 25] (by decide +kernel) (by decide +kernel)
set_option maxRecDepth 20000 in
theorem gX10_isThere_X10_sizeOf : GoodIn wsX10_isThere (wsV RX10 56 RX10 yX10_sizeOf wsX10_sizeOf) := goodIn_app (goodIn_of _ (by decide +kernel)) ggX10_isThere_X10_sizeOf
set_option maxRecDepth 20000 in
theorem ggX10_isThere_X10_of : GoodIn wsX10_isThere wsX10_of := goodIn_r _ [10, 1, 11, 12, 13, 14, 15, 16, 17, 18, 19, 20, 21, 22, 23, 24, 25] (by decide +kernel) (by decide +kernel)
set_option maxRecDepth 20000 in
theorem gX10_isThere_X10_of : GoodIn wsX10_isThere (wsV RX10 60 RX10 yX10_of wsX10_of) := goodIn_app (goodIn_of _ (by decide +kernel)) ggX10_isThere_X10_of
theorem dX10_isThere_0 : decode cX10_isThere 0 = .ok (.iconst 0, 1) := by decide +kernel
theorem dX10_isThere_1 : decode cX10_isThere 1 = .ok (.istore_n 3, 1) := by decide +kernel
theorem dX10_isThere_2 : decode cX10_isThere 2 = .ok (.iload_n 3, 1) := by decide +kernel
theorem dX10_isThere_3 : decode cX10_isThere 3 = .ok (.aload_n 0, 1) := by decide +kernel
theorem dX10_isThere_4 : decode cX10_isThere 4 = .ok (.getfield 7, 3) := by decide +kernel
theorem dX10_isThere_7 : decode cX10_isThere 7 = .ok (.iconst 0, 1) := by decide +kernel
theorem dX10_isThere_8 : decode cX10_isThere 8 = .ok (.iaload, 1) := by decide +kernel
theorem dX10_isThere_9 : decode cX10_isThere 9 = .ok (.if_icmp .ge 47, 3) := by decide +kernel
theorem dX10_isThere_12 : decode cX10_isThere 12 = .ok (.iconst 0, 1) := by decide +kernel
theorem dX10_isThere_13 : decode cX10_isThere 13 = .ok (.istore 4, 2) := by decide +kernel
theorem dX10_isThere_15 : decode cX10_isThere 15 = .ok (.iload 4, 2) := by decide +kernel
theorem dX10_isThere_17 : decode cX10_isThere 17 = .ok (.aload_n 0, 1) := by decide +kernel
theorem dX10_isThere_18 : decode cX10_isThere 18 = .ok (.iload_n 3, 1) := by decide +kernel
theorem dX10_isThere_19 : decode cX10_isThere 19 = .ok (.invokevirtual 56, 3) := by decide +kernel
theorem dX10_isThere_22 : decode cX10_isThere 22 = .ok (.if_icmp .ge 28, 3) := by decide +kernel
theorem dX10_isThere_25 : decode cX10_isThere 25 = .ok (.iload_n 3, 1) := by decide +kernel
theorem dX10_isThere_26 : decode cX10_isThere 26 = .ok (.iload_n 2, 1) := by decide +kernel
theorem dX10_isThere_27 : decode cX10_isThere 27 = .ok (.if_icmp .eq 23, 3) := by decide +kernel
theorem dX10_isThere_30 : decode cX10_isThere 30 = .ok (.aload_n 0, 1) := by decide +kernel
theorem dX10_isThere_31 : decode cX10_isThere 31 = .ok (.iload_n 3, 1) := by decide +kernel
theorem dX10_isThere_32 : decode cX10_isThere 32 = .ok (.iload 4, 2) := by decide +kernel
theorem dX10_isThere_34 : decode cX10_isThere 34 = .ok (.iconst 0, 1) := by decide +kernel
theorem dX10_isThere_35 : decode cX10_isThere 35 = .ok (.invokevirtual 60, 3) := by decide +kernel
theorem dX10_isThere_38 : decode cX10_isThere 38 = .ok (.iload_n 1, 1) := by decide +kernel
theorem dX10_isThere_39 : decode cX10_isThere 39 = .ok (.if_icmp .ne 5, 3) := by decide +kernel
theorem dX10_isThere_42 : decode cX10_isThere 42 = .ok (.iconst 1, 1) := by decide +kernel
theorem dX10_isThere_43 : decode cX10_isThere 43 = .ok (.ireturn, 1) := by decide +kernel
theorem dX10_isThere_44 : decode cX10_isThere 44 = .ok (.iinc 4 1, 3) := by decide +kernel
theorem dX10_isThere_47 : decode cX10_isThere 47 = .ok (.goto (-32), 3) := by decide +kernel
theorem dX10_isThere_50 : decode cX10_isThere 50 = .ok (.iinc 3 1, 3) := by decide +kernel
theorem dX10_isThere_53 : decode cX10_isThere 53 = .ok (.goto (-51), 3) := by decide +kernel
theorem dX10_isThere_56 : decode cX10_isThere 56 = .ok (.iconst 0, 1) := by decide +kernel
theorem dX10_isThere_57 : decode cX10_isThere 57 = .ok (.ireturn, 1) := by decide +kernel
set_option maxRecDepth 20000 in
theorem ggX10_reckons_X10_isThere : GoodIn wsX10_reckons wsX10_isThere := goodIn_r _ [7, 8, 9, 10, 11, 6, 12, 13, 14, 15, 16, 37, 38, 39, 40, 41, 42, 43, 44, 45, 46, 47, 48, 49, 50, 51] (by decide +kernel) (by decide +kernel)
set_option maxRecDepth 20000 in
theorem gX10_reckons_X10_isThere : GoodIn wsX10_reckons (wsV RX10 81 RX10 yX10_isThere wsX10_isThere) := goodIn_app (goodIn_of _ (by decide +kernel)) ggX10_reckons_X10_isThere
set_option maxRecDepth 20000 in
theorem ggX10_reckons_X10_isTable : GoodIn wsX10_reckons wsX10_isTable := goodIn_r _ [20, 8, 9, 10, 11, 6, 12, 13, 14, 15, 16, 37, 38, 39, 40, 41, 42, 43, 44, 45, 46, 47, 48, 49, 50, 51] (by decide +kernel) (by decide +kernel)
set_option maxRecDepth 20000 in
theorem gX10_reckons_X10_isTable : GoodIn wsX10_reckons (wsV RX10 85 RX10 yX10_isTable wsX10_isTable) := goodIn_app (goodIn_of _ (by decide +kernel)) ggX10_reckons_X10_isTable
set_option maxRecDepth 20000 in
theorem ggX10_reckons_X10_holds : GoodIn wsX10_reckons wsX10_holds := goodIn_r _ [24, 8, 2, 9, 10, 11, 6, 12, 13, 14, 15, 16, 25, 26, 27, 28, 29, 30, 31, 32, 33, 34, 35, 36, 37, 38, 39, 40, 41, 42, 43, 44, 45, 46, 47, 48, 49, 50, 51] (by decide +kernel) (by decide +kernel)
set_option maxRecDepth 20000 in
theorem gX10_reckons_X10_holds : GoodIn wsX10_reckons (wsV RX10 88 RX10 yX10_holds wsX10_holds) := goodIn_app (goodIn_of _ (by decide +kernel)) ggX10_reckons_X10_holds
theorem dX10_reckons_0 : decode cX10_reckons 0 = .ok (.iconst 4, 1) := by decide +kernel
theorem dX10_reckons_1 : decode cX10_reckons 1 = .ok (.iload_n 1, 1) := by decide +kernel
theorem dX10_reckons_2 : decode cX10_reckons 2 = .ok (.imul, 1) := by decide +kernel
theorem dX10_reckons_3 : decode cX10_reckons 3 = .ok (.iconst 2, 1) := by decide +kernel
theorem dX10_reckons_4 : decode cX10_reckons 4 = .ok (.iload_n 2, 1) := by decide +kernel
theorem dX10_reckons_5 : decode cX10_reckons 5 = .ok (.imul, 1) := by decide +kernel
theorem dX10_reckons_6 : decode cX10_reckons 6 = .ok (.iadd, 1) := by decide +kernel
theorem dX10_reckons_7 : decode cX10_reckons 7 = .ok (.istore 4, 2) := by decide +kernel
theorem dX10_reckons_9 : decode cX10_reckons 9 = .ok (.aload_n 0, 1) := by decide +kernel
theorem dX10_reckons_10 : decode cX10_reckons 10 = .ok (.getfield 17, 3) := by decide +kernel
theorem dX10_reckons_13 : decode cX10_reckons 13 = .ok (.iload 4, 2) := by decide +kernel
theorem dX10_reckons_15 : decode cX10_reckons 15 = .ok (.iconst 1, 1) := by decide +kernel
theorem dX10_reckons_16 : decode cX10_reckons 16 = .ok (.iadd, 1) := by decide +kernel
theorem dX10_reckons_17 : decode cX10_reckons 17 = .ok (.sipush (-1000), 3) := by decide +kernel
theorem dX10_reckons_20 : decode cX10_reckons 20 = .ok (.iastore, 1) := by decide +kernel
theorem dX10_reckons_21 : decode cX10_reckons 21 = .ok (.aload_n 0, 1) := by decide +kernel
theorem dX10_reckons_22 : decode cX10_reckons 22 = .ok (.getfield 17, 3) := by decide +kernel
theorem dX10_reckons_25 : decode cX10_reckons 25 = .ok (.iload 4, 2) := by decide +kernel
theorem dX10_reckons_27 : decode cX10_reckons 27 = .ok (.iconst (-1), 1) := by decide +kernel
theorem dX10_reckons_28 : decode cX10_reckons 28 = .ok (.iastore, 1) := by decide +kernel
theorem dX10_reckons_29 : decode cX10_reckons 29 = .ok (.aload_n 0, 1) := by decide +kernel
theorem dX10_reckons_30 : decode cX10_reckons 30 = .ok (.iload_n 1, 1) := by decide +kernel
theorem dX10_reckons_31 : decode cX10_reckons 31 = .ok (.iload_n 3, 1) := by decide +kernel
theorem dX10_reckons_32 : decode cX10_reckons 32 = .ok (.invokevirtual 81, 3) := by decide +kernel
theorem dX10_reckons_35 : decode cX10_reckons 35 = .ok (.ifCond .ne 4, 3) := by decide +kernel
theorem dX10_reckons_38 : decode cX10_reckons 38 = .ok (.return_, 1) := by decide +kernel
theorem dX10_reckons_39 : decode cX10_reckons 39 = .ok (.aload_n 0, 1) := by decide +kernel
theorem dX10_reckons_40 : decode cX10_reckons 40 = .ok (.getfield 17, 3) := by decide +kernel
theorem dX10_reckons_43 : decode cX10_reckons 43 = .ok (.iload 4, 2) := by decide +kernel
theorem dX10_reckons_45 : decode cX10_reckons 45 = .ok (.aload_n 0, 1) := by decide +kernel
theorem dX10_reckons_46 : decode cX10_reckons 46 = .ok (.iload_n 1, 1) := by decide +kernel
theorem dX10_reckons_47 : decode cX10_reckons 47 = .ok (.iload_n 2, 1) := by decide +kernel
theorem dX10_reckons_48 : decode cX10_reckons 48 = .ok (.iload_n 3, 1) := by decide +kernel
theorem dX10_reckons_49 : decode cX10_reckons 49 = .ok (.invokevirtual 85, 3) := by decide +kernel
theorem dX10_reckons_52 : decode cX10_reckons 52 = .ok (.ifCond .eq 7, 3) := by decide +kernel
theorem dX10_reckons_55 : decode cX10_reckons 55 = .ok (.iconst 5, 1) := by decide +kernel
theorem dX10_reckons_56 : decode cX10_reckons 56 = .ok (.goto 5, 3) := by decide +kernel
theorem dX10_reckons_59 : decode cX10_reckons 59 = .ok (.bipush 6, 2) := by decide +kernel
theorem dX10_reckons_61 : decode cX10_reckons 61 = .ok (.iastore, 1) := by decide +kernel
theorem dX10_reckons_62 : decode cX10_reckons 62 = .ok (.iconst 4, 1) := by decide +kernel
theorem dX10_reckons_63 : decode cX10_reckons 63 = .ok (.istore 5, 2) := by decide +kernel
theorem dX10_reckons_65 : decode cX10_reckons 65 = .ok (.iload 5, 2) := by decide +kernel
theorem dX10_reckons_67 : decode cX10_reckons 67 = .ok (.ifCond .lt 46, 3) := by decide +kernel
theorem dX10_reckons_70 : decode cX10_reckons 70 = .ok (.aload_n 0, 1) := by decide +kernel
theorem dX10_reckons_71 : decode cX10_reckons 71 = .ok (.iload 5, 2) := by decide +kernel
theorem dX10_reckons_73 : decode cX10_reckons 73 = .ok (.iload_n 1, 1) := by decide +kernel
theorem dX10_reckons_74 : decode cX10_reckons 74 = .ok (.iload_n 2, 1) := by decide +kernel
theorem dX10_reckons_75 : decode cX10_reckons 75 = .ok (.iload_n 3, 1) := by decide +kernel
theorem dX10_reckons_76 : decode cX10_reckons 76 = .ok (.invokevirtual 88, 3) := by decide +kernel
theorem dX10_reckons_79 : decode cX10_reckons 79 = .ok (.ifCond .ne 6, 3) := by decide +kernel
theorem dX10_reckons_82 : decode cX10_reckons 82 = .ok (.goto 25, 3) := by decide +kernel
theorem dX10_reckons_85 : decode cX10_reckons 85 = .ok (.aload_n 0, 1) := by decide +kernel
theorem dX10_reckons_86 : decode cX10_reckons 86 = .ok (.getfield 17, 3) := by decide +kernel
theorem dX10_reckons_89 : decode cX10_reckons 89 = .ok (.iload 4, 2) := by decide +kernel
theorem dX10_reckons_91 : decode cX10_reckons 91 = .ok (.iload 5, 2) := by decide +kernel
theorem dX10_reckons_93 : decode cX10_reckons 93 = .ok (.iastore, 1) := by decide +kernel
theorem dX10_reckons_94 : decode cX10_reckons 94 = .ok (.aload_n 0, 1) := by decide +kernel
theorem dX10_reckons_95 : decode cX10_reckons 95 = .ok (.getfield 17, 3) := by decide +kernel
theorem dX10_reckons_98 : decode cX10_reckons 98 = .ok (.iload 4, 2) := by decide +kernel
theorem dX10_reckons_100 : decode cX10_reckons 100 = .ok (.iconst 1, 1) := by decide +kernel
theorem dX10_reckons_101 : decode cX10_reckons 101 = .ok (.iadd, 1) := by decide +kernel
theorem dX10_reckons_102 : decode cX10_reckons 102 = .ok (.aload_n 0, 1) := by decide +kernel
theorem dX10_reckons_103 : decode cX10_reckons 103 = .ok (.getfield 77, 3) := by decide +kernel
theorem dX10_reckons_106 : decode cX10_reckons 106 = .ok (.iastore, 1) := by decide +kernel
theorem dX10_reckons_107 : decode cX10_reckons 107 = .ok (.iinc 5 (-1), 3) := by decide +kernel
theorem dX10_reckons_110 : decode cX10_reckons 110 = .ok (.goto (-45), 3) := by decide +kernel
theorem dX10_reckons_113 : decode cX10_reckons 113 = .ok (.return_, 1) := by decide +kernel
set_option maxRecDepth 20000 in
theorem ggX10_rulesBut_X10_reckons : GoodIn wsX10_rulesBut wsX10_reckons := goodIn_r _ [5, 6, 7, 8, 9, 10, 4, 11, 12, 13, 14, 15, 16, 17, 18, 19, 20, 21, 22, 23, 24, 25, 26, 27, 28, 29, 30, 31, 32, 33, 34, 35, 36, 37, 38, 39, 40, 41, 42, 43, 44, 45, 46, 47, 48, 49, 50, 51, 52, 53, 54, 55] (by decide +kernel) (by decide +kernel)
set_option maxRecDepth 20000 in
theorem gX10_rulesBut_X10_reckons : GoodIn wsX10_rulesBut (wsV RX10 92 RX10 yX10_reckons wsX10_reckons) := goodIn_app (goodIn_of _ (by decide +kernel)) ggX10_rulesBut_X10_reckons
theorem dX10_rulesBut_0 : decode cX10_rulesBut 0 = .ok (.iconst 0, 1) := by decide +kernel
theorem dX10_rulesBut_1 : decode cX10_rulesBut 1 = .ok (.istore_n 2, 1) := by decide +kernel
theorem dX10_rulesBut_2 : decode cX10_rulesBut 2 = .ok (.iload_n 2, 1) := by decide +kernel
theorem dX10_rulesBut_3 : decode cX10_rulesBut 3 = .ok (.iconst 3, 1) := by decide +kernel
theorem dX10_rulesBut_4 : decode cX10_rulesBut 4 = .ok (.if_icmp .ge 23, 3) := by decide +kernel
theorem dX10_rulesBut_7 : decode cX10_rulesBut 7 = .ok (.aload_n 0, 1) := by decide +kernel
theorem dX10_rulesBut_8 : decode cX10_rulesBut 8 = .ok (.iload_n 2, 1) := by decide +kernel
theorem dX10_rulesBut_9 : decode cX10_rulesBut 9 = .ok (.iconst 0, 1) := by decide +kernel
theorem dX10_rulesBut_10 : decode cX10_rulesBut 10 = .ok (.iload_n 1, 1) := by decide +kernel
theorem dX10_rulesBut_11 : decode cX10_rulesBut 11 = .ok (.invokevirtual 92, 3) := by decide +kernel
theorem dX10_rulesBut_14 : decode cX10_rulesBut 14 = .ok (.aload_n 0, 1) := by decide +kernel
theorem dX10_rulesBut_15 : decode cX10_rulesBut 15 = .ok (.iload_n 2, 1) := by decide +kernel
theorem dX10_rulesBut_16 : decode cX10_rulesBut 16 = .ok (.iconst 1, 1) := by decide +kernel
theorem dX10_rulesBut_17 : decode cX10_rulesBut 17 = .ok (.iload_n 1, 1) := by decide +kernel
theorem dX10_rulesBut_18 : decode cX10_rulesBut 18 = .ok (.invokevirtual 92, 3) := by decide +kernel
theorem dX10_rulesBut_21 : decode cX10_rulesBut 21 = .ok (.iinc 2 1, 3) := by decide +kernel
theorem dX10_rulesBut_24 : decode cX10_rulesBut 24 = .ok (.goto (-22), 3) := by decide +kernel
theorem dX10_rulesBut_27 : decode cX10_rulesBut 27 = .ok (.return_, 1) := by decide +kernel
set_option maxRecDepth 20000 in
theorem ggX10_rule_X10_isIn : GoodIn wsX10_rule wsX10_isIn := goodIn_r _ [5] (by decide +kernel) (by decide +kernel)
set_option maxRecDepth 20000 in
theorem gX10_rule_X10_isIn : GoodIn wsX10_rule (va_wsS RX10 47 yX10_isIn wsX10_isIn) := goodIn_app (goodIn_of _ (by decide +kernel)) ggX10_rule_X10_isIn
set_option maxRecDepth 20000 in
theorem ggX10_rule_X10_reckons : GoodIn wsX10_rule wsX10_reckons := goodIn_r _ [9, 1, 10, 11, 12, 13, 4, 14, 15, 16, 17, 18, 19, 20, 21, 22, 23, 24, 25, 26, 27, 28, 29, 30, 31, 32, 33, 34, 35, 36, 37, 38, 39, 40, 41, 42, 43, 44, 45, 46, 47, 48, 49, 50, 51, 52, 53, 54, 55, 56, 57, 58] (by decide +kernel) (by decide +kernel)
set_option maxRecDepth 20000 in
theorem gX10_rule_X10_reckons : GoodIn wsX10_rule (wsV RX10 92 RX10 yX10_reckons wsX10_reckons) := goodIn_app (goodIn_of _ (by decide +kernel)) ggX10_rule_X10_reckons
theorem dX10_rule_0 : decode cX10_rule 0 = .ok (.iload_n 1, 1) := by decide +kernel
theorem dX10_rule_1 : decode cX10_rule 1 = .ok (.iconst 0, 1) := by decide +kernel
theorem dX10_rule_2 : decode cX10_rule 2 = .ok (.iconst 2, 1) := by decide +kernel
theorem dX10_rule_3 : decode cX10_rule 3 = .ok (.invokestatic 47, 3) := by decide +kernel
theorem dX10_rule_6 : decode cX10_rule 6 = .ok (.ifCond .eq 12, 3) := by decide +kernel
theorem dX10_rule_9 : decode cX10_rule 9 = .ok (.iload_n 2, 1) := by decide +kernel
theorem dX10_rule_10 : decode cX10_rule 10 = .ok (.iconst 0, 1) := by decide +kernel
theorem dX10_rule_11 : decode cX10_rule 11 = .ok (.iconst 1, 1) := by decide +kernel
theorem dX10_rule_12 : decode cX10_rule 12 = .ok (.invokestatic 47, 3) := by decide +kernel
theorem dX10_rule_15 : decode cX10_rule 15 = .ok (.ifCond .ne 5, 3) := by decide +kernel
theorem dX10_rule_18 : decode cX10_rule 18 = .ok (.iconst (-1), 1) := by decide +kernel
theorem dX10_rule_19 : decode cX10_rule 19 = .ok (.ireturn, 1) := by decide +kernel
theorem dX10_rule_20 : decode cX10_rule 20 = .ok (.aload_n 0, 1) := by decide +kernel
theorem dX10_rule_21 : decode cX10_rule 21 = .ok (.iload_n 1, 1) := by decide +kernel
theorem dX10_rule_22 : decode cX10_rule 22 = .ok (.iload_n 2, 1) := by decide +kernel
theorem dX10_rule_23 : decode cX10_rule 23 = .ok (.iconst (-1), 1) := by decide +kernel
theorem dX10_rule_24 : decode cX10_rule 24 = .ok (.invokevirtual 92, 3) := by decide +kernel
theorem dX10_rule_27 : decode cX10_rule 27 = .ok (.aload_n 0, 1) := by decide +kernel
theorem dX10_rule_28 : decode cX10_rule 28 = .ok (.getfield 17, 3) := by decide +kernel
theorem dX10_rule_31 : decode cX10_rule 31 = .ok (.iconst 4, 1) := by decide +kernel
theorem dX10_rule_32 : decode cX10_rule 32 = .ok (.iload_n 1, 1) := by decide +kernel
theorem dX10_rule_33 : decode cX10_rule 33 = .ok (.imul, 1) := by decide +kernel
theorem dX10_rule_34 : decode cX10_rule 34 = .ok (.iconst 2, 1) := by decide +kernel
theorem dX10_rule_35 : decode cX10_rule 35 = .ok (.iload_n 2, 1) := by decide +kernel
theorem dX10_rule_36 : decode cX10_rule 36 = .ok (.imul, 1) := by decide +kernel
theorem dX10_rule_37 : decode cX10_rule 37 = .ok (.iadd, 1) := by decide +kernel
theorem dX10_rule_38 : decode cX10_rule 38 = .ok (.iaload, 1) := by decide +kernel
theorem dX10_rule_39 : decode cX10_rule 39 = .ok (.ireturn, 1) := by decide +kernel
set_option maxRecDepth 20000 in
theorem ggX10_by_X10_isIn : GoodIn wsX10_by wsX10_isIn := goodIn_r _ [5] (by decide +kernel) (by decide +kernel)
set_option maxRecDepth 20000 in
theorem gX10_by_X10_isIn : GoodIn wsX10_by (va_wsS RX10 47 yX10_isIn wsX10_isIn) := goodIn_app (goodIn_of _ (by decide +kernel)) ggX10_by_X10_isIn
set_option maxRecDepth 20000 in
theorem ggX10_by_X10_reckons : GoodIn wsX10_by wsX10_reckons := goodIn_r _ [9, 1, 10, 11, 12, 13, 4, 14, 15, 16, 17, 18, 19, 20, 21, 22, 23, 24, 25, 26, 27, 28, 29, 30, 31, 32, 33, 34, 35, 36, 37, 38, 39, 40, 41, 42, 43, 44, 45, 46, 47, 48, 49, 50, 51, 52, 53, 54, 55, 56, 57, 58] (by decide +kernel) (by decide +kernel)
set_option maxRecDepth 20000 in
theorem gX10_by_X10_reckons : GoodIn wsX10_by (wsV RX10 92 RX10 yX10_reckons wsX10_reckons) := goodIn_app (goodIn_of _ (by decide +kernel)) ggX10_by_X10_reckons
theorem dX10_by_0 : decode cX10_by 0 = .ok (.iload_n 1, 1) := by decide +kernel
theorem dX10_by_1 : decode cX10_by 1 = .ok (.iconst 0, 1) := by decide +kernel
theorem dX10_by_2 : decode cX10_by 2 = .ok (.iconst 2, 1) := by decide +kernel
theorem dX10_by_3 : decode cX10_by 3 = .ok (.invokestatic 47, 3) := by decide +kernel
theorem dX10_by_6 : decode cX10_by 6 = .ok (.ifCond .eq 12, 3) := by decide +kernel
theorem dX10_by_9 : decode cX10_by 9 = .ok (.iload_n 2, 1) := by decide +kernel
theorem dX10_by_10 : decode cX10_by 10 = .ok (.iconst 0, 1) := by decide +kernel
theorem dX10_by_11 : decode cX10_by 11 = .ok (.iconst 1, 1) := by decide +kernel
theorem dX10_by_12 : decode cX10_by 12 = .ok (.invokestatic 47, 3) := by decide +kernel
theorem dX10_by_15 : decode cX10_by 15 = .ok (.ifCond .ne 7, 3) := by decide +kernel
theorem dX10_by_18 : decode cX10_by 18 = .ok (.sipush (-1000), 3) := by decide +kernel
theorem dX10_by_21 : decode cX10_by 21 = .ok (.ireturn, 1) := by decide +kernel
theorem dX10_by_22 : decode cX10_by 22 = .ok (.aload_n 0, 1) := by decide +kernel
theorem dX10_by_23 : decode cX10_by 23 = .ok (.iload_n 1, 1) := by decide +kernel
theorem dX10_by_24 : decode cX10_by 24 = .ok (.iload_n 2, 1) := by decide +kernel
theorem dX10_by_25 : decode cX10_by 25 = .ok (.iconst (-1), 1) := by decide +kernel
theorem dX10_by_26 : decode cX10_by 26 = .ok (.invokevirtual 92, 3) := by decide +kernel
theorem dX10_by_29 : decode cX10_by 29 = .ok (.aload_n 0, 1) := by decide +kernel
theorem dX10_by_30 : decode cX10_by 30 = .ok (.getfield 17, 3) := by decide +kernel
theorem dX10_by_33 : decode cX10_by 33 = .ok (.iconst 4, 1) := by decide +kernel
theorem dX10_by_34 : decode cX10_by 34 = .ok (.iload_n 1, 1) := by decide +kernel
theorem dX10_by_35 : decode cX10_by 35 = .ok (.imul, 1) := by decide +kernel
theorem dX10_by_36 : decode cX10_by 36 = .ok (.iconst 2, 1) := by decide +kernel
theorem dX10_by_37 : decode cX10_by 37 = .ok (.iload_n 2, 1) := by decide +kernel
theorem dX10_by_38 : decode cX10_by 38 = .ok (.imul, 1) := by decide +kernel
theorem dX10_by_39 : decode cX10_by 39 = .ok (.iadd, 1) := by decide +kernel
theorem dX10_by_40 : decode cX10_by 40 = .ok (.iconst 1, 1) := by decide +kernel
theorem dX10_by_41 : decode cX10_by 41 = .ok (.iadd, 1) := by decide +kernel
theorem dX10_by_42 : decode cX10_by 42 = .ok (.iaload, 1) := by decide +kernel
theorem dX10_by_43 : decode cX10_by 43 = .ok (.ireturn, 1) := by decide +kernel
set_option maxRecDepth 20000 in
theorem ggX10_lays_X10_sizeOf : GoodIn wsX10_lays wsX10_sizeOf := goodIn_r _ [9, 2, 10, 11, 12, 13, 14, 15, 16, 17, 18, 19, 20, 21, 22, 23, 24] (by decide +kernel) (by decide +kernel)
set_option maxRecDepth 20000 in
theorem gX10_lays_X10_sizeOf : GoodIn wsX10_lays (wsV RX10 56 RX10 yX10_sizeOf wsX10_sizeOf) := goodIn_app (goodIn_of _ (by decide +kernel)) ggX10_lays_X10_sizeOf
theorem dX10_lays_0 : decode cX10_lays 0 = .ok (.aload_n 0, 1) := by decide +kernel
theorem dX10_lays_1 : decode cX10_lays 1 = .ok (.iconst 0, 1) := by decide +kernel
theorem dX10_lays_2 : decode cX10_lays 2 = .ok (.putfield 96, 3) := by decide +kernel
theorem dX10_lays_5 : decode cX10_lays 5 = .ok (.iconst 0, 1) := by decide +kernel
theorem dX10_lays_6 : decode cX10_lays 6 = .ok (.istore_n 2, 1) := by decide +kernel
theorem dX10_lays_7 : decode cX10_lays 7 = .ok (.iload_n 2, 1) := by decide +kernel
theorem dX10_lays_8 : decode cX10_lays 8 = .ok (.aload_n 0, 1) := by decide +kernel
theorem dX10_lays_9 : decode cX10_lays 9 = .ok (.getfield 7, 3) := by decide +kernel
theorem dX10_lays_12 : decode cX10_lays 12 = .ok (.iconst 0, 1) := by decide +kernel
theorem dX10_lays_13 : decode cX10_lays 13 = .ok (.iaload, 1) := by decide +kernel
theorem dX10_lays_14 : decode cX10_lays 14 = .ok (.if_icmp .ge 61, 3) := by decide +kernel
theorem dX10_lays_17 : decode cX10_lays 17 = .ok (.iconst 0, 1) := by decide +kernel
theorem dX10_lays_18 : decode cX10_lays 18 = .ok (.istore_n 3, 1) := by decide +kernel
theorem dX10_lays_19 : decode cX10_lays 19 = .ok (.iload_n 3, 1) := by decide +kernel
theorem dX10_lays_20 : decode cX10_lays 20 = .ok (.aload_n 0, 1) := by decide +kernel
theorem dX10_lays_21 : decode cX10_lays 21 = .ok (.iload_n 2, 1) := by decide +kernel
theorem dX10_lays_22 : decode cX10_lays 22 = .ok (.invokevirtual 56, 3) := by decide +kernel
theorem dX10_lays_25 : decode cX10_lays 25 = .ok (.if_icmp .ge 44, 3) := by decide +kernel
theorem dX10_lays_28 : decode cX10_lays 28 = .ok (.iload_n 2, 1) := by decide +kernel
theorem dX10_lays_29 : decode cX10_lays 29 = .ok (.iload_n 1, 1) := by decide +kernel
theorem dX10_lays_30 : decode cX10_lays 30 = .ok (.if_icmp .eq 39, 3) := by decide +kernel
theorem dX10_lays_33 : decode cX10_lays 33 = .ok (.aload_n 0, 1) := by decide +kernel
theorem dX10_lays_34 : decode cX10_lays 34 = .ok (.getfield 20, 3) := by decide +kernel
theorem dX10_lays_37 : decode cX10_lays 37 = .ok (.aload_n 0, 1) := by decide +kernel
theorem dX10_lays_38 : decode cX10_lays 38 = .ok (.getfield 96, 3) := by decide +kernel
theorem dX10_lays_41 : decode cX10_lays 41 = .ok (.iload_n 2, 1) := by decide +kernel
theorem dX10_lays_42 : decode cX10_lays 42 = .ok (.iastore, 1) := by decide +kernel
theorem dX10_lays_43 : decode cX10_lays 43 = .ok (.aload_n 0, 1) := by decide +kernel
theorem dX10_lays_44 : decode cX10_lays 44 = .ok (.getfield 23, 3) := by decide +kernel
theorem dX10_lays_47 : decode cX10_lays 47 = .ok (.aload_n 0, 1) := by decide +kernel
theorem dX10_lays_48 : decode cX10_lays 48 = .ok (.getfield 96, 3) := by decide +kernel
theorem dX10_lays_51 : decode cX10_lays 51 = .ok (.iload_n 3, 1) := by decide +kernel
theorem dX10_lays_52 : decode cX10_lays 52 = .ok (.iastore, 1) := by decide +kernel
theorem dX10_lays_53 : decode cX10_lays 53 = .ok (.aload_n 0, 1) := by decide +kernel
theorem dX10_lays_54 : decode cX10_lays 54 = .ok (.dup, 1) := by decide +kernel
theorem dX10_lays_55 : decode cX10_lays 55 = .ok (.getfield 96, 3) := by decide +kernel
theorem dX10_lays_58 : decode cX10_lays 58 = .ok (.iconst 1, 1) := by decide +kernel
theorem dX10_lays_59 : decode cX10_lays 59 = .ok (.iadd, 1) := by decide +kernel
theorem dX10_lays_60 : decode cX10_lays 60 = .ok (.putfield 96, 3) := by decide +kernel
theorem dX10_lays_63 : decode cX10_lays 63 = .ok (.iinc 3 1, 3) := by decide +kernel
theorem dX10_lays_66 : decode cX10_lays 66 = .ok (.goto (-47), 3) := by decide +kernel
theorem dX10_lays_69 : decode cX10_lays 69 = .ok (.iinc 2 1, 3) := by decide +kernel
theorem dX10_lays_72 : decode cX10_lays 72 = .ok (.goto (-65), 3) := by decide +kernel
theorem dX10_lays_75 : decode cX10_lays 75 = .ok (.return_, 1) := by decide +kernel
theorem dX10_turnsBack_0 : decode cX10_turnsBack 0 = .ok (.aload_n 0, 1) := by decide +kernel
theorem dX10_turnsBack_1 : decode cX10_turnsBack 1 = .ok (.getfield 99, 3) := by decide +kernel
theorem dX10_turnsBack_4 : decode cX10_turnsBack 4 = .ok (.ifCond .le 123, 3) := by decide +kernel
theorem dX10_turnsBack_7 : decode cX10_turnsBack 7 = .ok (.aload_n 0, 1) := by decide +kernel
theorem dX10_turnsBack_8 : decode cX10_turnsBack 8 = .ok (.getfield 99, 3) := by decide +kernel
theorem dX10_turnsBack_11 : decode cX10_turnsBack 11 = .ok (.iconst 1, 1) := by decide +kernel
theorem dX10_turnsBack_12 : decode cX10_turnsBack 12 = .ok (.isub, 1) := by decide +kernel
theorem dX10_turnsBack_13 : decode cX10_turnsBack 13 = .ok (.istore_n 2, 1) := by decide +kernel
theorem dX10_turnsBack_14 : decode cX10_turnsBack 14 = .ok (.aload_n 0, 1) := by decide +kernel
theorem dX10_turnsBack_15 : decode cX10_turnsBack 15 = .ok (.getfield 38, 3) := by decide +kernel
theorem dX10_turnsBack_18 : decode cX10_turnsBack 18 = .ok (.iload_n 2, 1) := by decide +kernel
theorem dX10_turnsBack_19 : decode cX10_turnsBack 19 = .ok (.iaload, 1) := by decide +kernel
theorem dX10_turnsBack_20 : decode cX10_turnsBack 20 = .ok (.iconst 1, 1) := by decide +kernel
theorem dX10_turnsBack_21 : decode cX10_turnsBack 21 = .ok (.iadd, 1) := by decide +kernel
theorem dX10_turnsBack_22 : decode cX10_turnsBack 22 = .ok (.istore_n 3, 1) := by decide +kernel
theorem dX10_turnsBack_23 : decode cX10_turnsBack 23 = .ok (.iload_n 3, 1) := by decide +kernel
theorem dX10_turnsBack_24 : decode cX10_turnsBack 24 = .ok (.aload_n 0, 1) := by decide +kernel
theorem dX10_turnsBack_25 : decode cX10_turnsBack 25 = .ok (.getfield 41, 3) := by decide +kernel
theorem dX10_turnsBack_28 : decode cX10_turnsBack 28 = .ok (.iload_n 2, 1) := by decide +kernel
theorem dX10_turnsBack_29 : decode cX10_turnsBack 29 = .ok (.iaload, 1) := by decide +kernel
theorem dX10_turnsBack_30 : decode cX10_turnsBack 30 = .ok (.if_icmp .lt 18, 3) := by decide +kernel
theorem dX10_turnsBack_33 : decode cX10_turnsBack 33 = .ok (.iload_n 3, 1) := by decide +kernel
theorem dX10_turnsBack_34 : decode cX10_turnsBack 34 = .ok (.aload_n 0, 1) := by decide +kernel
theorem dX10_turnsBack_35 : decode cX10_turnsBack 35 = .ok (.getfield 41, 3) := by decide +kernel
theorem dX10_turnsBack_38 : decode cX10_turnsBack 38 = .ok (.iload_n 2, 1) := by decide +kernel
theorem dX10_turnsBack_39 : decode cX10_turnsBack 39 = .ok (.iaload, 1) := by decide +kernel
theorem dX10_turnsBack_40 : decode cX10_turnsBack 40 = .ok (.if_icmp .ne 62, 3) := by decide +kernel
theorem dX10_turnsBack_43 : decode cX10_turnsBack 43 = .ok (.iload_n 3, 1) := by decide +kernel
theorem dX10_turnsBack_44 : decode cX10_turnsBack 44 = .ok (.iload_n 1, 1) := by decide +kernel
theorem dX10_turnsBack_45 : decode cX10_turnsBack 45 = .ok (.if_icmp .ge 57, 3) := by decide +kernel
theorem dX10_turnsBack_48 : decode cX10_turnsBack 48 = .ok (.aload_n 0, 1) := by decide +kernel
theorem dX10_turnsBack_49 : decode cX10_turnsBack 49 = .ok (.getfield 38, 3) := by decide +kernel
theorem dX10_turnsBack_52 : decode cX10_turnsBack 52 = .ok (.iload_n 2, 1) := by decide +kernel
theorem dX10_turnsBack_53 : decode cX10_turnsBack 53 = .ok (.iload_n 3, 1) := by decide +kernel
theorem dX10_turnsBack_54 : decode cX10_turnsBack 54 = .ok (.iastore, 1) := by decide +kernel
theorem dX10_turnsBack_55 : decode cX10_turnsBack 55 = .ok (.aload_n 0, 1) := by decide +kernel
theorem dX10_turnsBack_56 : decode cX10_turnsBack 56 = .ok (.getfield 26, 3) := by decide +kernel
theorem dX10_turnsBack_59 : decode cX10_turnsBack 59 = .ok (.aload_n 0, 1) := by decide +kernel
theorem dX10_turnsBack_60 : decode cX10_turnsBack 60 = .ok (.getfield 35, 3) := by decide +kernel
theorem dX10_turnsBack_63 : decode cX10_turnsBack 63 = .ok (.iload_n 2, 1) := by decide +kernel
theorem dX10_turnsBack_64 : decode cX10_turnsBack 64 = .ok (.iaload, 1) := by decide +kernel
theorem dX10_turnsBack_65 : decode cX10_turnsBack 65 = .ok (.iload_n 3, 1) := by decide +kernel
theorem dX10_turnsBack_66 : decode cX10_turnsBack 66 = .ok (.iastore, 1) := by decide +kernel
theorem dX10_turnsBack_67 : decode cX10_turnsBack 67 = .ok (.aload_n 0, 1) := by decide +kernel
theorem dX10_turnsBack_68 : decode cX10_turnsBack 68 = .ok (.iload_n 3, 1) := by decide +kernel
theorem dX10_turnsBack_69 : decode cX10_turnsBack 69 = .ok (.aload_n 0, 1) := by decide +kernel
theorem dX10_turnsBack_70 : decode cX10_turnsBack 70 = .ok (.getfield 41, 3) := by decide +kernel
theorem dX10_turnsBack_73 : decode cX10_turnsBack 73 = .ok (.iload_n 2, 1) := by decide +kernel
theorem dX10_turnsBack_74 : decode cX10_turnsBack 74 = .ok (.iaload, 1) := by decide +kernel
theorem dX10_turnsBack_75 : decode cX10_turnsBack 75 = .ok (.if_icmp .ne 9, 3) := by decide +kernel
theorem dX10_turnsBack_78 : decode cX10_turnsBack 78 = .ok (.iload_n 3, 1) := by decide +kernel
theorem dX10_turnsBack_79 : decode cX10_turnsBack 79 = .ok (.iconst 1, 1) := by decide +kernel
theorem dX10_turnsBack_80 : decode cX10_turnsBack 80 = .ok (.iadd, 1) := by decide +kernel
theorem dX10_turnsBack_81 : decode cX10_turnsBack 81 = .ok (.goto 9, 3) := by decide +kernel
theorem dX10_turnsBack_84 : decode cX10_turnsBack 84 = .ok (.aload_n 0, 1) := by decide +kernel
theorem dX10_turnsBack_85 : decode cX10_turnsBack 85 = .ok (.getfield 41, 3) := by decide +kernel
theorem dX10_turnsBack_88 : decode cX10_turnsBack 88 = .ok (.iload_n 2, 1) := by decide +kernel
theorem dX10_turnsBack_89 : decode cX10_turnsBack 89 = .ok (.iaload, 1) := by decide +kernel
theorem dX10_turnsBack_90 : decode cX10_turnsBack 90 = .ok (.putfield 102, 3) := by decide +kernel
theorem dX10_turnsBack_93 : decode cX10_turnsBack 93 = .ok (.aload_n 0, 1) := by decide +kernel
theorem dX10_turnsBack_94 : decode cX10_turnsBack 94 = .ok (.getfield 32, 3) := by decide +kernel
theorem dX10_turnsBack_97 : decode cX10_turnsBack 97 = .ok (.iload_n 2, 1) := by decide +kernel
theorem dX10_turnsBack_98 : decode cX10_turnsBack 98 = .ok (.iaload, 1) := by decide +kernel
theorem dX10_turnsBack_99 : decode cX10_turnsBack 99 = .ok (.iconst 1, 1) := by decide +kernel
theorem dX10_turnsBack_100 : decode cX10_turnsBack 100 = .ok (.iadd, 1) := by decide +kernel
theorem dX10_turnsBack_101 : decode cX10_turnsBack 101 = .ok (.ireturn, 1) := by decide +kernel
theorem dX10_turnsBack_102 : decode cX10_turnsBack 102 = .ok (.aload_n 0, 1) := by decide +kernel
theorem dX10_turnsBack_103 : decode cX10_turnsBack 103 = .ok (.getfield 26, 3) := by decide +kernel
theorem dX10_turnsBack_106 : decode cX10_turnsBack 106 = .ok (.aload_n 0, 1) := by decide +kernel
theorem dX10_turnsBack_107 : decode cX10_turnsBack 107 = .ok (.getfield 35, 3) := by decide +kernel
theorem dX10_turnsBack_110 : decode cX10_turnsBack 110 = .ok (.iload_n 2, 1) := by decide +kernel
theorem dX10_turnsBack_111 : decode cX10_turnsBack 111 = .ok (.iaload, 1) := by decide +kernel
theorem dX10_turnsBack_112 : decode cX10_turnsBack 112 = .ok (.iconst (-1), 1) := by decide +kernel
theorem dX10_turnsBack_113 : decode cX10_turnsBack 113 = .ok (.iastore, 1) := by decide +kernel
theorem dX10_turnsBack_114 : decode cX10_turnsBack 114 = .ok (.aload_n 0, 1) := by decide +kernel
theorem dX10_turnsBack_115 : decode cX10_turnsBack 115 = .ok (.dup, 1) := by decide +kernel
theorem dX10_turnsBack_116 : decode cX10_turnsBack 116 = .ok (.getfield 99, 3) := by decide +kernel
theorem dX10_turnsBack_119 : decode cX10_turnsBack 119 = .ok (.iconst 1, 1) := by decide +kernel
theorem dX10_turnsBack_120 : decode cX10_turnsBack 120 = .ok (.isub, 1) := by decide +kernel
theorem dX10_turnsBack_121 : decode cX10_turnsBack 121 = .ok (.putfield 99, 3) := by decide +kernel
theorem dX10_turnsBack_124 : decode cX10_turnsBack 124 = .ok (.goto (-124), 3) := by decide +kernel
theorem dX10_turnsBack_127 : decode cX10_turnsBack 127 = .ok (.iconst (-1), 1) := by decide +kernel
theorem dX10_turnsBack_128 : decode cX10_turnsBack 128 = .ok (.ireturn, 1) := by decide +kernel
set_option maxRecDepth 20000 in
theorem ggX10_finds_X10_of : GoodIn wsX10_finds wsX10_of := goodIn_r _ [16, 17, 22, 23, 24, 25, 26, 27, 28, 29, 30, 31, 32, 33, 34, 35, 36] (by decide +kernel) (by decide +kernel)
set_option maxRecDepth 20000 in
theorem gX10_finds_X10_of : GoodIn wsX10_finds (wsV RX10 60 RX10 yX10_of wsX10_of) := goodIn_app (goodIn_of _ (by decide +kernel)) ggX10_finds_X10_of
set_option maxRecDepth 20000 in
theorem ggX10_finds_X10_turnsBack : GoodIn wsX10_finds wsX10_turnsBack := goodIn_r _ [21, 2, 10, 11, 1, 9, 3, 8, 22, 23, 24, 25, 26, 27, 28, 29, 30, 31, 32, 33, 34, 35, 36] (by decide +kernel) (by decide +kernel)
set_option maxRecDepth 20000 in
theorem gX10_finds_X10_turnsBack : GoodIn wsX10_finds (wsV RX10 105 RX10 yX10_turnsBack wsX10_turnsBack) := goodIn_app (goodIn_of _ (by decide +kernel)) ggX10_finds_X10_turnsBack
theorem dX10_finds_0 : decode cX10_finds 0 = .ok (.iconst 0, 1) := by decide +kernel
theorem dX10_finds_1 : decode cX10_finds 1 = .ok (.istore_n 2, 1) := by decide +kernel
theorem dX10_finds_2 : decode cX10_finds 2 = .ok (.iload_n 2, 1) := by decide +kernel
theorem dX10_finds_3 : decode cX10_finds 3 = .ok (.bipush 12, 2) := by decide +kernel
theorem dX10_finds_5 : decode cX10_finds 5 = .ok (.if_icmp .ge 16, 3) := by decide +kernel
theorem dX10_finds_8 : decode cX10_finds 8 = .ok (.aload_n 0, 1) := by decide +kernel
theorem dX10_finds_9 : decode cX10_finds 9 = .ok (.getfield 26, 3) := by decide +kernel
theorem dX10_finds_12 : decode cX10_finds 12 = .ok (.iload_n 2, 1) := by decide +kernel
theorem dX10_finds_13 : decode cX10_finds 13 = .ok (.iconst (-1), 1) := by decide +kernel
theorem dX10_finds_14 : decode cX10_finds 14 = .ok (.iastore, 1) := by decide +kernel
theorem dX10_finds_15 : decode cX10_finds 15 = .ok (.iinc 2 1, 3) := by decide +kernel
theorem dX10_finds_18 : decode cX10_finds 18 = .ok (.goto (-16), 3) := by decide +kernel
theorem dX10_finds_21 : decode cX10_finds 21 = .ok (.aload_n 0, 1) := by decide +kernel
theorem dX10_finds_22 : decode cX10_finds 22 = .ok (.iconst 0, 1) := by decide +kernel
theorem dX10_finds_23 : decode cX10_finds 23 = .ok (.putfield 99, 3) := by decide +kernel
theorem dX10_finds_26 : decode cX10_finds 26 = .ok (.aload_n 0, 1) := by decide +kernel
theorem dX10_finds_27 : decode cX10_finds 27 = .ok (.iconst 1, 1) := by decide +kernel
theorem dX10_finds_28 : decode cX10_finds 28 = .ok (.putfield 102, 3) := by decide +kernel
theorem dX10_finds_31 : decode cX10_finds 31 = .ok (.iconst 0, 1) := by decide +kernel
theorem dX10_finds_32 : decode cX10_finds 32 = .ok (.istore_n 2, 1) := by decide +kernel
theorem dX10_finds_33 : decode cX10_finds 33 = .ok (.iconst 0, 1) := by decide +kernel
theorem dX10_finds_34 : decode cX10_finds 34 = .ok (.istore_n 3, 1) := by decide +kernel
theorem dX10_finds_35 : decode cX10_finds 35 = .ok (.iload_n 2, 1) := by decide +kernel
theorem dX10_finds_36 : decode cX10_finds 36 = .ok (.ifCond .lt 195, 3) := by decide +kernel
theorem dX10_finds_39 : decode cX10_finds 39 = .ok (.iload_n 2, 1) := by decide +kernel
theorem dX10_finds_40 : decode cX10_finds 40 = .ok (.aload_n 0, 1) := by decide +kernel
theorem dX10_finds_41 : decode cX10_finds 41 = .ok (.getfield 96, 3) := by decide +kernel
theorem dX10_finds_44 : decode cX10_finds 44 = .ok (.if_icmp .ge 187, 3) := by decide +kernel
theorem dX10_finds_47 : decode cX10_finds 47 = .ok (.aload_n 0, 1) := by decide +kernel
theorem dX10_finds_48 : decode cX10_finds 48 = .ok (.getfield 20, 3) := by decide +kernel
theorem dX10_finds_51 : decode cX10_finds 51 = .ok (.iload_n 2, 1) := by decide +kernel
theorem dX10_finds_52 : decode cX10_finds 52 = .ok (.iaload, 1) := by decide +kernel
theorem dX10_finds_53 : decode cX10_finds 53 = .ok (.istore 4, 2) := by decide +kernel
theorem dX10_finds_55 : decode cX10_finds 55 = .ok (.aload_n 0, 1) := by decide +kernel
theorem dX10_finds_56 : decode cX10_finds 56 = .ok (.getfield 23, 3) := by decide +kernel
theorem dX10_finds_59 : decode cX10_finds 59 = .ok (.iload_n 2, 1) := by decide +kernel
theorem dX10_finds_60 : decode cX10_finds 60 = .ok (.iaload, 1) := by decide +kernel
theorem dX10_finds_61 : decode cX10_finds 61 = .ok (.istore 5, 2) := by decide +kernel
theorem dX10_finds_63 : decode cX10_finds 63 = .ok (.iload 5, 2) := by decide +kernel
theorem dX10_finds_65 : decode cX10_finds 65 = .ok (.ifCond .ne 5, 3) := by decide +kernel
theorem dX10_finds_68 : decode cX10_finds 68 = .ok (.iconst 0, 1) := by decide +kernel
theorem dX10_finds_69 : decode cX10_finds 69 = .ok (.istore_n 3, 1) := by decide +kernel
theorem dX10_finds_70 : decode cX10_finds 70 = .ok (.iconst 3, 1) := by decide +kernel
theorem dX10_finds_71 : decode cX10_finds 71 = .ok (.iload_n 3, 1) := by decide +kernel
theorem dX10_finds_72 : decode cX10_finds 72 = .ok (.imul, 1) := by decide +kernel
theorem dX10_finds_73 : decode cX10_finds 73 = .ok (.aload_n 0, 1) := by decide +kernel
theorem dX10_finds_74 : decode cX10_finds 74 = .ok (.iload 4, 2) := by decide +kernel
theorem dX10_finds_76 : decode cX10_finds 76 = .ok (.iload 5, 2) := by decide +kernel
theorem dX10_finds_78 : decode cX10_finds 78 = .ok (.iconst 0, 1) := by decide +kernel
theorem dX10_finds_79 : decode cX10_finds 79 = .ok (.invokevirtual 60, 3) := by decide +kernel
theorem dX10_finds_82 : decode cX10_finds 82 = .ok (.iadd, 1) := by decide +kernel
theorem dX10_finds_83 : decode cX10_finds 83 = .ok (.istore 6, 2) := by decide +kernel
theorem dX10_finds_85 : decode cX10_finds 85 = .ok (.aload_n 0, 1) := by decide +kernel
theorem dX10_finds_86 : decode cX10_finds 86 = .ok (.getfield 26, 3) := by decide +kernel
theorem dX10_finds_89 : decode cX10_finds 89 = .ok (.iload 6, 2) := by decide +kernel
theorem dX10_finds_91 : decode cX10_finds 91 = .ok (.iaload, 1) := by decide +kernel
theorem dX10_finds_92 : decode cX10_finds 92 = .ok (.ifCond .ge 81, 3) := by decide +kernel
theorem dX10_finds_95 : decode cX10_finds 95 = .ok (.aload_n 0, 1) := by decide +kernel
theorem dX10_finds_96 : decode cX10_finds 96 = .ok (.getfield 26, 3) := by decide +kernel
theorem dX10_finds_99 : decode cX10_finds 99 = .ok (.iload 6, 2) := by decide +kernel
theorem dX10_finds_101 : decode cX10_finds 101 = .ok (.iconst 0, 1) := by decide +kernel
theorem dX10_finds_102 : decode cX10_finds 102 = .ok (.iastore, 1) := by decide +kernel
theorem dX10_finds_103 : decode cX10_finds 103 = .ok (.aload_n 0, 1) := by decide +kernel
theorem dX10_finds_104 : decode cX10_finds 104 = .ok (.getfield 29, 3) := by decide +kernel
theorem dX10_finds_107 : decode cX10_finds 107 = .ok (.iload 6, 2) := by decide +kernel
theorem dX10_finds_109 : decode cX10_finds 109 = .ok (.aload_n 0, 1) := by decide +kernel
theorem dX10_finds_110 : decode cX10_finds 110 = .ok (.iload 4, 2) := by decide +kernel
theorem dX10_finds_112 : decode cX10_finds 112 = .ok (.iload 5, 2) := by decide +kernel
theorem dX10_finds_114 : decode cX10_finds 114 = .ok (.iconst 3, 1) := by decide +kernel
theorem dX10_finds_115 : decode cX10_finds 115 = .ok (.invokevirtual 60, 3) := by decide +kernel
theorem dX10_finds_118 : decode cX10_finds 118 = .ok (.iastore, 1) := by decide +kernel
theorem dX10_finds_119 : decode cX10_finds 119 = .ok (.aload_n 0, 1) := by decide +kernel
theorem dX10_finds_120 : decode cX10_finds 120 = .ok (.getfield 32, 3) := by decide +kernel
theorem dX10_finds_123 : decode cX10_finds 123 = .ok (.aload_n 0, 1) := by decide +kernel
theorem dX10_finds_124 : decode cX10_finds 124 = .ok (.getfield 99, 3) := by decide +kernel
theorem dX10_finds_127 : decode cX10_finds 127 = .ok (.iload_n 2, 1) := by decide +kernel
theorem dX10_finds_128 : decode cX10_finds 128 = .ok (.iastore, 1) := by decide +kernel
theorem dX10_finds_129 : decode cX10_finds 129 = .ok (.aload_n 0, 1) := by decide +kernel
theorem dX10_finds_130 : decode cX10_finds 130 = .ok (.getfield 35, 3) := by decide +kernel
theorem dX10_finds_133 : decode cX10_finds 133 = .ok (.aload_n 0, 1) := by decide +kernel
theorem dX10_finds_134 : decode cX10_finds 134 = .ok (.getfield 99, 3) := by decide +kernel
theorem dX10_finds_137 : decode cX10_finds 137 = .ok (.iload 6, 2) := by decide +kernel
theorem dX10_finds_139 : decode cX10_finds 139 = .ok (.iastore, 1) := by decide +kernel
theorem dX10_finds_140 : decode cX10_finds 140 = .ok (.aload_n 0, 1) := by decide +kernel
theorem dX10_finds_141 : decode cX10_finds 141 = .ok (.getfield 38, 3) := by decide +kernel
theorem dX10_finds_144 : decode cX10_finds 144 = .ok (.aload_n 0, 1) := by decide +kernel
theorem dX10_finds_145 : decode cX10_finds 145 = .ok (.getfield 99, 3) := by decide +kernel
theorem dX10_finds_148 : decode cX10_finds 148 = .ok (.iconst 0, 1) := by decide +kernel
theorem dX10_finds_149 : decode cX10_finds 149 = .ok (.iastore, 1) := by decide +kernel
theorem dX10_finds_150 : decode cX10_finds 150 = .ok (.aload_n 0, 1) := by decide +kernel
theorem dX10_finds_151 : decode cX10_finds 151 = .ok (.getfield 41, 3) := by decide +kernel
theorem dX10_finds_154 : decode cX10_finds 154 = .ok (.aload_n 0, 1) := by decide +kernel
theorem dX10_finds_155 : decode cX10_finds 155 = .ok (.getfield 99, 3) := by decide +kernel
theorem dX10_finds_158 : decode cX10_finds 158 = .ok (.aload_n 0, 1) := by decide +kernel
theorem dX10_finds_159 : decode cX10_finds 159 = .ok (.getfield 102, 3) := by decide +kernel
theorem dX10_finds_162 : decode cX10_finds 162 = .ok (.iastore, 1) := by decide +kernel
theorem dX10_finds_163 : decode cX10_finds 163 = .ok (.aload_n 0, 1) := by decide +kernel
theorem dX10_finds_164 : decode cX10_finds 164 = .ok (.dup, 1) := by decide +kernel
theorem dX10_finds_165 : decode cX10_finds 165 = .ok (.getfield 99, 3) := by decide +kernel
theorem dX10_finds_168 : decode cX10_finds 168 = .ok (.iconst 1, 1) := by decide +kernel
theorem dX10_finds_169 : decode cX10_finds 169 = .ok (.iadd, 1) := by decide +kernel
theorem dX10_finds_170 : decode cX10_finds 170 = .ok (.putfield 99, 3) := by decide +kernel
theorem dX10_finds_173 : decode cX10_finds 173 = .ok (.aload_n 0, 1) := by decide +kernel
theorem dX10_finds_174 : decode cX10_finds 174 = .ok (.getfield 29, 3) := by decide +kernel
theorem dX10_finds_177 : decode cX10_finds 177 = .ok (.iload 6, 2) := by decide +kernel
theorem dX10_finds_179 : decode cX10_finds 179 = .ok (.iaload, 1) := by decide +kernel
theorem dX10_finds_180 : decode cX10_finds 180 = .ok (.aload_n 0, 1) := by decide +kernel
theorem dX10_finds_181 : decode cX10_finds 181 = .ok (.iload 4, 2) := by decide +kernel
theorem dX10_finds_183 : decode cX10_finds 183 = .ok (.iload 5, 2) := by decide +kernel
theorem dX10_finds_185 : decode cX10_finds 185 = .ok (.iconst 3, 1) := by decide +kernel
theorem dX10_finds_186 : decode cX10_finds 186 = .ok (.invokevirtual 60, 3) := by decide +kernel
theorem dX10_finds_189 : decode cX10_finds 189 = .ok (.if_icmp .ne 17, 3) := by decide +kernel
theorem dX10_finds_192 : decode cX10_finds 192 = .ok (.aload_n 0, 1) := by decide +kernel
theorem dX10_finds_193 : decode cX10_finds 193 = .ok (.getfield 26, 3) := by decide +kernel
theorem dX10_finds_196 : decode cX10_finds 196 = .ok (.iload 6, 2) := by decide +kernel
theorem dX10_finds_198 : decode cX10_finds 198 = .ok (.iaload, 1) := by decide +kernel
theorem dX10_finds_199 : decode cX10_finds 199 = .ok (.istore_n 3, 1) := by decide +kernel
theorem dX10_finds_200 : decode cX10_finds 200 = .ok (.iinc 2 1, 3) := by decide +kernel
theorem dX10_finds_203 : decode cX10_finds 203 = .ok (.goto 25, 3) := by decide +kernel
theorem dX10_finds_206 : decode cX10_finds 206 = .ok (.aload_n 0, 1) := by decide +kernel
theorem dX10_finds_207 : decode cX10_finds 207 = .ok (.iload_n 1, 1) := by decide +kernel
theorem dX10_finds_208 : decode cX10_finds 208 = .ok (.invokevirtual 105, 3) := by decide +kernel
theorem dX10_finds_211 : decode cX10_finds 211 = .ok (.istore_n 2, 1) := by decide +kernel
theorem dX10_finds_212 : decode cX10_finds 212 = .ok (.iload_n 2, 1) := by decide +kernel
theorem dX10_finds_213 : decode cX10_finds 213 = .ok (.ifCond .lt 15, 3) := by decide +kernel
theorem dX10_finds_216 : decode cX10_finds 216 = .ok (.aload_n 0, 1) := by decide +kernel
theorem dX10_finds_217 : decode cX10_finds 217 = .ok (.getfield 38, 3) := by decide +kernel
theorem dX10_finds_220 : decode cX10_finds 220 = .ok (.aload_n 0, 1) := by decide +kernel
theorem dX10_finds_221 : decode cX10_finds 221 = .ok (.getfield 99, 3) := by decide +kernel
theorem dX10_finds_224 : decode cX10_finds 224 = .ok (.iconst 1, 1) := by decide +kernel
theorem dX10_finds_225 : decode cX10_finds 225 = .ok (.isub, 1) := by decide +kernel
theorem dX10_finds_226 : decode cX10_finds 226 = .ok (.iaload, 1) := by decide +kernel
theorem dX10_finds_227 : decode cX10_finds 227 = .ok (.istore_n 3, 1) := by decide +kernel
theorem dX10_finds_228 : decode cX10_finds 228 = .ok (.goto (-193), 3) := by decide +kernel
theorem dX10_finds_231 : decode cX10_finds 231 = .ok (.iload_n 2, 1) := by decide +kernel
theorem dX10_finds_232 : decode cX10_finds 232 = .ok (.ifCond .lt 7, 3) := by decide +kernel
theorem dX10_finds_235 : decode cX10_finds 235 = .ok (.iconst 1, 1) := by decide +kernel
theorem dX10_finds_236 : decode cX10_finds 236 = .ok (.goto 4, 3) := by decide +kernel
theorem dX10_finds_239 : decode cX10_finds 239 = .ok (.iconst 0, 1) := by decide +kernel
theorem dX10_finds_240 : decode cX10_finds 240 = .ok (.ireturn, 1) := by decide +kernel
set_option maxRecDepth 20000 in
theorem ggX10_machine_X10_lays : GoodIn wsX10_machine wsX10_lays := goodIn_r _ [8, 3, 9, 10, 11, 12, 13, 14, 7, 15, 34, 35, 36, 37, 38, 39, 40, 41, 42, 43, 44, 45, 46, 47, 48] (by decide +kernel) (by decide +kernel)
set_option maxRecDepth 20000 in
theorem gX10_machine_X10_lays : GoodIn wsX10_machine (wsV RX10 108 RX10 yX10_lays wsX10_lays) := goodIn_app (goodIn_of _ (by decide +kernel)) ggX10_machine_X10_lays
set_option maxRecDepth 20000 in
theorem ggX10_machine_X10_finds : GoodIn wsX10_machine wsX10_finds := goodIn_r _ [19, 1, 20, 21, 3, 10, 11, 2, 22, 23, 24, 25, 26, 27, 28, 7, 29, 9, 30, 31, 32, 33, 34, 35, 36, 37, 38, 39, 40, 41, 42, 43, 44, 45, 46, 47, 48] (by decide +kernel) (by decide +kernel)
set_option maxRecDepth 20000 in
theorem gX10_machine_X10_finds : GoodIn wsX10_machine (wsV RX10 112 RX10 yX10_finds wsX10_finds) := goodIn_app (goodIn_of _ (by decide +kernel)) ggX10_machine_X10_finds
theorem dX10_machine_0 : decode cX10_machine 0 = .ok (.aload_n 0, 1) := by decide +kernel
theorem dX10_machine_1 : decode cX10_machine 1 = .ok (.iload_n 1, 1) := by decide +kernel
theorem dX10_machine_2 : decode cX10_machine 2 = .ok (.invokevirtual 108, 3) := by decide +kernel
theorem dX10_machine_5 : decode cX10_machine 5 = .ok (.iconst 0, 1) := by decide +kernel
theorem dX10_machine_6 : decode cX10_machine 6 = .ok (.istore_n 2, 1) := by decide +kernel
theorem dX10_machine_7 : decode cX10_machine 7 = .ok (.iload_n 2, 1) := by decide +kernel
theorem dX10_machine_8 : decode cX10_machine 8 = .ok (.bipush 12, 2) := by decide +kernel
theorem dX10_machine_10 : decode cX10_machine 10 = .ok (.if_icmp .ge 23, 3) := by decide +kernel
theorem dX10_machine_13 : decode cX10_machine 13 = .ok (.aload_n 0, 1) := by decide +kernel
theorem dX10_machine_14 : decode cX10_machine 14 = .ok (.getfield 26, 3) := by decide +kernel
theorem dX10_machine_17 : decode cX10_machine 17 = .ok (.iload_n 2, 1) := by decide +kernel
theorem dX10_machine_18 : decode cX10_machine 18 = .ok (.iconst (-1), 1) := by decide +kernel
theorem dX10_machine_19 : decode cX10_machine 19 = .ok (.iastore, 1) := by decide +kernel
theorem dX10_machine_20 : decode cX10_machine 20 = .ok (.aload_n 0, 1) := by decide +kernel
theorem dX10_machine_21 : decode cX10_machine 21 = .ok (.getfield 29, 3) := by decide +kernel
theorem dX10_machine_24 : decode cX10_machine 24 = .ok (.iload_n 2, 1) := by decide +kernel
theorem dX10_machine_25 : decode cX10_machine 25 = .ok (.iconst (-1), 1) := by decide +kernel
theorem dX10_machine_26 : decode cX10_machine 26 = .ok (.iastore, 1) := by decide +kernel
theorem dX10_machine_27 : decode cX10_machine 27 = .ok (.iinc 2 1, 3) := by decide +kernel
theorem dX10_machine_30 : decode cX10_machine 30 = .ok (.goto (-23), 3) := by decide +kernel
theorem dX10_machine_33 : decode cX10_machine 33 = .ok (.aload_n 0, 1) := by decide +kernel
theorem dX10_machine_34 : decode cX10_machine 34 = .ok (.getfield 96, 3) := by decide +kernel
theorem dX10_machine_37 : decode cX10_machine 37 = .ok (.ifCond .ne 5, 3) := by decide +kernel
theorem dX10_machine_40 : decode cX10_machine 40 = .ok (.iconst 0, 1) := by decide +kernel
theorem dX10_machine_41 : decode cX10_machine 41 = .ok (.ireturn, 1) := by decide +kernel
theorem dX10_machine_42 : decode cX10_machine 42 = .ok (.iconst 1, 1) := by decide +kernel
theorem dX10_machine_43 : decode cX10_machine 43 = .ok (.istore_n 2, 1) := by decide +kernel
theorem dX10_machine_44 : decode cX10_machine 44 = .ok (.iload_n 2, 1) := by decide +kernel
theorem dX10_machine_45 : decode cX10_machine 45 = .ok (.iconst 4, 1) := by decide +kernel
theorem dX10_machine_46 : decode cX10_machine 46 = .ok (.if_icmp .gt 19, 3) := by decide +kernel
theorem dX10_machine_49 : decode cX10_machine 49 = .ok (.aload_n 0, 1) := by decide +kernel
theorem dX10_machine_50 : decode cX10_machine 50 = .ok (.iload_n 2, 1) := by decide +kernel
theorem dX10_machine_51 : decode cX10_machine 51 = .ok (.invokevirtual 112, 3) := by decide +kernel
theorem dX10_machine_54 : decode cX10_machine 54 = .ok (.ifCond .eq 5, 3) := by decide +kernel
theorem dX10_machine_57 : decode cX10_machine 57 = .ok (.iload_n 2, 1) := by decide +kernel
theorem dX10_machine_58 : decode cX10_machine 58 = .ok (.ireturn, 1) := by decide +kernel
theorem dX10_machine_59 : decode cX10_machine 59 = .ok (.iinc 2 1, 3) := by decide +kernel
theorem dX10_machine_62 : decode cX10_machine 62 = .ok (.goto (-18), 3) := by decide +kernel
theorem dX10_machine_65 : decode cX10_machine 65 = .ok (.iconst (-1), 1) := by decide +kernel
theorem dX10_machine_66 : decode cX10_machine 66 = .ok (.ireturn, 1) := by decide +kernel
set_option maxRecDepth 20000 in
theorem ggX10_states_X10_machine : GoodIn wsX10_states wsX10_machine := goodIn_r _ [5, 6, 7, 8, 9, 10, 11, 4, 12, 13, 14, 15, 16, 17, 18, 19, 20, 21, 22, 23, 24, 25, 26, 27, 28, 29, 30, 31, 32, 33, 34, 35, 36, 37, 38, 39, 40, 41, 42, 43, 44, 45, 46, 47, 48, 49, 50, 51, 52] (by decide +kernel) (by decide +kernel)
set_option maxRecDepth 20000 in
theorem gX10_states_X10_machine : GoodIn wsX10_states (wsV RX10 115 RX10 yX10_machine wsX10_machine) := goodIn_app (goodIn_of _ (by decide +kernel)) ggX10_states_X10_machine
theorem dX10_states_0 : decode cX10_states 0 = .ok (.aload_n 0, 1) := by decide +kernel
theorem dX10_states_1 : decode cX10_states 1 = .ok (.iconst (-1), 1) := by decide +kernel
theorem dX10_states_2 : decode cX10_states 2 = .ok (.invokevirtual 115, 3) := by decide +kernel
theorem dX10_states_5 : decode cX10_states 5 = .ok (.ireturn, 1) := by decide +kernel
set_option maxRecDepth 20000 in
theorem ggX10_leads_X10_isIn : GoodIn wsX10_leads wsX10_isIn := goodIn_r _ [6] (by decide +kernel) (by decide +kernel)
set_option maxRecDepth 20000 in
theorem gX10_leads_X10_isIn : GoodIn wsX10_leads (va_wsS RX10 47 yX10_isIn wsX10_isIn) := goodIn_app (goodIn_of _ (by decide +kernel)) ggX10_leads_X10_isIn
set_option maxRecDepth 20000 in
theorem ggX10_leads_X10_machine : GoodIn wsX10_leads wsX10_machine := goodIn_r _ [10, 1, 2, 11, 12, 13, 14, 5, 15, 16, 17, 18, 19, 20, 21, 22, 23, 24, 25, 26, 27, 28, 29, 30, 31, 32, 33, 34, 35, 36, 37, 38, 39, 40, 41, 42, 43, 44, 45, 46, 47, 48, 49, 50, 51, 52, 53, 54, 55] (by decide +kernel) (by decide +kernel)
set_option maxRecDepth 20000 in
theorem gX10_leads_X10_machine : GoodIn wsX10_leads (wsV RX10 115 RX10 yX10_machine wsX10_machine) := goodIn_app (goodIn_of _ (by decide +kernel)) ggX10_leads_X10_machine
theorem dX10_leads_0 : decode cX10_leads 0 = .ok (.iload_n 1, 1) := by decide +kernel
theorem dX10_leads_1 : decode cX10_leads 1 = .ok (.iconst 0, 1) := by decide +kernel
theorem dX10_leads_2 : decode cX10_leads 2 = .ok (.iconst 3, 1) := by decide +kernel
theorem dX10_leads_3 : decode cX10_leads 3 = .ok (.invokestatic 47, 3) := by decide +kernel
theorem dX10_leads_6 : decode cX10_leads 6 = .ok (.ifCond .eq 30, 3) := by decide +kernel
theorem dX10_leads_9 : decode cX10_leads 9 = .ok (.iload_n 2, 1) := by decide +kernel
theorem dX10_leads_10 : decode cX10_leads 10 = .ok (.iconst 0, 1) := by decide +kernel
theorem dX10_leads_11 : decode cX10_leads 11 = .ok (.iconst 2, 1) := by decide +kernel
theorem dX10_leads_12 : decode cX10_leads 12 = .ok (.invokestatic 47, 3) := by decide +kernel
theorem dX10_leads_15 : decode cX10_leads 15 = .ok (.ifCond .eq 21, 3) := by decide +kernel
theorem dX10_leads_18 : decode cX10_leads 18 = .ok (.iload_n 3, 1) := by decide +kernel
theorem dX10_leads_19 : decode cX10_leads 19 = .ok (.iconst 0, 1) := by decide +kernel
theorem dX10_leads_20 : decode cX10_leads 20 = .ok (.iconst 1, 1) := by decide +kernel
theorem dX10_leads_21 : decode cX10_leads 21 = .ok (.invokestatic 47, 3) := by decide +kernel
theorem dX10_leads_24 : decode cX10_leads 24 = .ok (.ifCond .eq 12, 3) := by decide +kernel
theorem dX10_leads_27 : decode cX10_leads 27 = .ok (.aload_n 0, 1) := by decide +kernel
theorem dX10_leads_28 : decode cX10_leads 28 = .ok (.iconst (-1), 1) := by decide +kernel
theorem dX10_leads_29 : decode cX10_leads 29 = .ok (.invokevirtual 115, 3) := by decide +kernel
theorem dX10_leads_32 : decode cX10_leads 32 = .ok (.iconst 1, 1) := by decide +kernel
theorem dX10_leads_33 : decode cX10_leads 33 = .ok (.if_icmp .ge 5, 3) := by decide +kernel
theorem dX10_leads_36 : decode cX10_leads 36 = .ok (.iconst (-1), 1) := by decide +kernel
theorem dX10_leads_37 : decode cX10_leads 37 = .ok (.ireturn, 1) := by decide +kernel
theorem dX10_leads_38 : decode cX10_leads 38 = .ok (.iconst 3, 1) := by decide +kernel
theorem dX10_leads_39 : decode cX10_leads 39 = .ok (.iload_n 1, 1) := by decide +kernel
theorem dX10_leads_40 : decode cX10_leads 40 = .ok (.imul, 1) := by decide +kernel
theorem dX10_leads_41 : decode cX10_leads 41 = .ok (.iload_n 2, 1) := by decide +kernel
theorem dX10_leads_42 : decode cX10_leads 42 = .ok (.iadd, 1) := by decide +kernel
theorem dX10_leads_43 : decode cX10_leads 43 = .ok (.istore 4, 2) := by decide +kernel
theorem dX10_leads_45 : decode cX10_leads 45 = .ok (.aload_n 0, 1) := by decide +kernel
theorem dX10_leads_46 : decode cX10_leads 46 = .ok (.getfield 26, 3) := by decide +kernel
theorem dX10_leads_49 : decode cX10_leads 49 = .ok (.iload 4, 2) := by decide +kernel
theorem dX10_leads_51 : decode cX10_leads 51 = .ok (.iaload, 1) := by decide +kernel
theorem dX10_leads_52 : decode cX10_leads 52 = .ok (.ifCond .ge 7, 3) := by decide +kernel
theorem dX10_leads_55 : decode cX10_leads 55 = .ok (.iconst (-1), 1) := by decide +kernel
theorem dX10_leads_56 : decode cX10_leads 56 = .ok (.goto 24, 3) := by decide +kernel
theorem dX10_leads_59 : decode cX10_leads 59 = .ok (.iload_n 3, 1) := by decide +kernel
theorem dX10_leads_60 : decode cX10_leads 60 = .ok (.ifCond .ne 13, 3) := by decide +kernel
theorem dX10_leads_63 : decode cX10_leads 63 = .ok (.aload_n 0, 1) := by decide +kernel
theorem dX10_leads_64 : decode cX10_leads 64 = .ok (.getfield 26, 3) := by decide +kernel
theorem dX10_leads_67 : decode cX10_leads 67 = .ok (.iload 4, 2) := by decide +kernel
theorem dX10_leads_69 : decode cX10_leads 69 = .ok (.iaload, 1) := by decide +kernel
theorem dX10_leads_70 : decode cX10_leads 70 = .ok (.goto 10, 3) := by decide +kernel
theorem dX10_leads_73 : decode cX10_leads 73 = .ok (.aload_n 0, 1) := by decide +kernel
theorem dX10_leads_74 : decode cX10_leads 74 = .ok (.getfield 29, 3) := by decide +kernel
theorem dX10_leads_77 : decode cX10_leads 77 = .ok (.iload 4, 2) := by decide +kernel
theorem dX10_leads_79 : decode cX10_leads 79 = .ok (.iaload, 1) := by decide +kernel
theorem dX10_leads_80 : decode cX10_leads 80 = .ok (.ireturn, 1) := by decide +kernel
set_option maxRecDepth 20000 in
theorem ggX10_begin_X10_clearsFields : GoodIn wsX10_begin wsX10_clearsFields := goodIn_r _ [9, 1, 76, 77, 78, 79, 80, 81, 82, 83, 84, 85, 86, 87, 88, 89, 90] (by decide +kernel) (by decide +kernel)
set_option maxRecDepth 20000 in
theorem gX10_begin_X10_clearsFields : GoodIn wsX10_begin (wsV RX10 44 RX10 yX10_clearsFields wsX10_clearsFields) := goodIn_app (goodIn_of _ (by decide +kernel)) ggX10_begin_X10_clearsFields
set_option maxRecDepth 20000 in
theorem ggX10_begin_X10_machine : GoodIn wsX10_begin wsX10_machine := goodIn_r _ [13, 2, 3, 14, 15, 16, 17, 8, 18, 1, 19, 20, 21, 22, 23, 24, 25, 26, 27, 28, 29, 30, 31, 32, 33, 34, 35, 36, 37, 38, 39, 40, 41, 42, 76, 77, 78, 79, 80, 81, 82, 83, 84, 85, 86, 87, 88, 89, 90] (by decide +kernel) (by decide +kernel)
set_option maxRecDepth 20000 in
theorem gX10_begin_X10_machine : GoodIn wsX10_begin (wsV RX10 115 RX10 yX10_machine wsX10_machine) := goodIn_app (goodIn_of _ (by decide +kernel)) ggX10_begin_X10_machine
set_option maxRecDepth 20000 in
theorem ggX10_begin_X10_rulesBut : GoodIn wsX10_begin wsX10_rulesBut := goodIn_r _ [46, 47, 48, 49, 8, 50, 4, 51, 52, 53, 54, 55, 1, 21, 22, 23, 24, 35, 36, 37, 38, 56, 57, 58, 59, 60, 61, 62, 63, 64, 65, 66, 67, 68, 69, 70, 71, 72, 73, 74, 75, 76, 77, 78, 79, 80, 81, 82, 83, 84, 85, 86, 87, 88, 89, 90] (by decide +kernel) (by decide +kernel)
set_option maxRecDepth 20000 in
theorem gX10_begin_X10_rulesBut : GoodIn wsX10_begin (wsV RX10 118 RX10 yX10_rulesBut wsX10_rulesBut) := goodIn_app (goodIn_of _ (by decide +kernel)) ggX10_begin_X10_rulesBut
theorem dX10_begin_0 : decode cX10_begin 0 = .ok (.aload_n 0, 1) := by decide +kernel
theorem dX10_begin_1 : decode cX10_begin 1 = .ok (.getfield 7, 3) := by decide +kernel
theorem dX10_begin_4 : decode cX10_begin 4 = .ok (.iconst 1, 1) := by decide +kernel
theorem dX10_begin_5 : decode cX10_begin 5 = .ok (.iconst 0, 1) := by decide +kernel
theorem dX10_begin_6 : decode cX10_begin 6 = .ok (.iastore, 1) := by decide +kernel
theorem dX10_begin_7 : decode cX10_begin 7 = .ok (.aload_n 0, 1) := by decide +kernel
theorem dX10_begin_8 : decode cX10_begin 8 = .ok (.invokevirtual 44, 3) := by decide +kernel
theorem dX10_begin_11 : decode cX10_begin 11 = .ok (.aload_n 0, 1) := by decide +kernel
theorem dX10_begin_12 : decode cX10_begin 12 = .ok (.iconst (-1), 1) := by decide +kernel
theorem dX10_begin_13 : decode cX10_begin 13 = .ok (.invokevirtual 115, 3) := by decide +kernel
theorem dX10_begin_16 : decode cX10_begin 16 = .ok (.iconst 1, 1) := by decide +kernel
theorem dX10_begin_17 : decode cX10_begin 17 = .ok (.if_icmp .ge 5, 3) := by decide +kernel
theorem dX10_begin_20 : decode cX10_begin 20 = .ok (.iconst 0, 1) := by decide +kernel
theorem dX10_begin_21 : decode cX10_begin 21 = .ok (.ireturn, 1) := by decide +kernel
theorem dX10_begin_22 : decode cX10_begin 22 = .ok (.aload_n 0, 1) := by decide +kernel
theorem dX10_begin_23 : decode cX10_begin 23 = .ok (.iconst (-1), 1) := by decide +kernel
theorem dX10_begin_24 : decode cX10_begin 24 = .ok (.invokevirtual 118, 3) := by decide +kernel
theorem dX10_begin_27 : decode cX10_begin 27 = .ok (.aload_n 0, 1) := by decide +kernel
theorem dX10_begin_28 : decode cX10_begin 28 = .ok (.getfield 7, 3) := by decide +kernel
theorem dX10_begin_31 : decode cX10_begin 31 = .ok (.iconst 1, 1) := by decide +kernel
theorem dX10_begin_32 : decode cX10_begin 32 = .ok (.iconst 1, 1) := by decide +kernel
theorem dX10_begin_33 : decode cX10_begin 33 = .ok (.iastore, 1) := by decide +kernel
theorem dX10_begin_34 : decode cX10_begin 34 = .ok (.aload_n 0, 1) := by decide +kernel
theorem dX10_begin_35 : decode cX10_begin 35 = .ok (.getfield 7, 3) := by decide +kernel
theorem dX10_begin_38 : decode cX10_begin 38 = .ok (.iconst 2, 1) := by decide +kernel
theorem dX10_begin_39 : decode cX10_begin 39 = .ok (.iconst 0, 1) := by decide +kernel
theorem dX10_begin_40 : decode cX10_begin 40 = .ok (.iastore, 1) := by decide +kernel
theorem dX10_begin_41 : decode cX10_begin 41 = .ok (.aload_n 0, 1) := by decide +kernel
theorem dX10_begin_42 : decode cX10_begin 42 = .ok (.getfield 7, 3) := by decide +kernel
theorem dX10_begin_45 : decode cX10_begin 45 = .ok (.iconst 3, 1) := by decide +kernel
theorem dX10_begin_46 : decode cX10_begin 46 = .ok (.iconst 0, 1) := by decide +kernel
theorem dX10_begin_47 : decode cX10_begin 47 = .ok (.iastore, 1) := by decide +kernel
theorem dX10_begin_48 : decode cX10_begin 48 = .ok (.aload_n 0, 1) := by decide +kernel
theorem dX10_begin_49 : decode cX10_begin 49 = .ok (.getfield 7, 3) := by decide +kernel
theorem dX10_begin_52 : decode cX10_begin 52 = .ok (.iconst 4, 1) := by decide +kernel
theorem dX10_begin_53 : decode cX10_begin 53 = .ok (.iconst 0, 1) := by decide +kernel
theorem dX10_begin_54 : decode cX10_begin 54 = .ok (.iastore, 1) := by decide +kernel
theorem dX10_begin_55 : decode cX10_begin 55 = .ok (.iconst 0, 1) := by decide +kernel
theorem dX10_begin_56 : decode cX10_begin 56 = .ok (.istore_n 1, 1) := by decide +kernel
theorem dX10_begin_57 : decode cX10_begin 57 = .ok (.iload_n 1, 1) := by decide +kernel
theorem dX10_begin_58 : decode cX10_begin 58 = .ok (.bipush 8, 2) := by decide +kernel
theorem dX10_begin_60 : decode cX10_begin 60 = .ok (.if_icmp .ge 42, 3) := by decide +kernel
theorem dX10_begin_63 : decode cX10_begin 63 = .ok (.aload_n 0, 1) := by decide +kernel
theorem dX10_begin_64 : decode cX10_begin 64 = .ok (.getfield 7, 3) := by decide +kernel
theorem dX10_begin_67 : decode cX10_begin 67 = .ok (.sipush 600, 3) := by decide +kernel
theorem dX10_begin_70 : decode cX10_begin 70 = .ok (.iload_n 1, 1) := by decide +kernel
theorem dX10_begin_71 : decode cX10_begin 71 = .ok (.iadd, 1) := by decide +kernel
theorem dX10_begin_72 : decode cX10_begin 72 = .ok (.iload_n 1, 1) := by decide +kernel
theorem dX10_begin_73 : decode cX10_begin 73 = .ok (.aload_n 0, 1) := by decide +kernel
theorem dX10_begin_74 : decode cX10_begin 74 = .ok (.getfield 7, 3) := by decide +kernel
theorem dX10_begin_77 : decode cX10_begin 77 = .ok (.iconst 0, 1) := by decide +kernel
theorem dX10_begin_78 : decode cX10_begin 78 = .ok (.iaload, 1) := by decide +kernel
theorem dX10_begin_79 : decode cX10_begin 79 = .ok (.if_icmp .ge 15, 3) := by decide +kernel
theorem dX10_begin_82 : decode cX10_begin 82 = .ok (.aload_n 0, 1) := by decide +kernel
theorem dX10_begin_83 : decode cX10_begin 83 = .ok (.getfield 7, 3) := by decide +kernel
theorem dX10_begin_86 : decode cX10_begin 86 = .ok (.bipush 10, 2) := by decide +kernel
theorem dX10_begin_88 : decode cX10_begin 88 = .ok (.iload_n 1, 1) := by decide +kernel
theorem dX10_begin_89 : decode cX10_begin 89 = .ok (.iadd, 1) := by decide +kernel
theorem dX10_begin_90 : decode cX10_begin 90 = .ok (.iaload, 1) := by decide +kernel
theorem dX10_begin_91 : decode cX10_begin 91 = .ok (.goto 4, 3) := by decide +kernel
theorem dX10_begin_94 : decode cX10_begin 94 = .ok (.iconst 0, 1) := by decide +kernel
theorem dX10_begin_95 : decode cX10_begin 95 = .ok (.iastore, 1) := by decide +kernel
theorem dX10_begin_96 : decode cX10_begin 96 = .ok (.iinc 1 1, 3) := by decide +kernel
theorem dX10_begin_99 : decode cX10_begin 99 = .ok (.goto (-42), 3) := by decide +kernel
theorem dX10_begin_102 : decode cX10_begin 102 = .ok (.iconst 0, 1) := by decide +kernel
theorem dX10_begin_103 : decode cX10_begin 103 = .ok (.istore_n 1, 1) := by decide +kernel
theorem dX10_begin_104 : decode cX10_begin 104 = .ok (.iload_n 1, 1) := by decide +kernel
theorem dX10_begin_105 : decode cX10_begin 105 = .ok (.sipush 576, 3) := by decide +kernel
theorem dX10_begin_108 : decode cX10_begin 108 = .ok (.if_icmp .ge 28, 3) := by decide +kernel
theorem dX10_begin_111 : decode cX10_begin 111 = .ok (.aload_n 0, 1) := by decide +kernel
theorem dX10_begin_112 : decode cX10_begin 112 = .ok (.getfield 7, 3) := by decide +kernel
theorem dX10_begin_115 : decode cX10_begin 115 = .ok (.sipush 610, 3) := by decide +kernel
theorem dX10_begin_118 : decode cX10_begin 118 = .ok (.iload_n 1, 1) := by decide +kernel
theorem dX10_begin_119 : decode cX10_begin 119 = .ok (.iadd, 1) := by decide +kernel
theorem dX10_begin_120 : decode cX10_begin 120 = .ok (.aload_n 0, 1) := by decide +kernel
theorem dX10_begin_121 : decode cX10_begin 121 = .ok (.getfield 7, 3) := by decide +kernel
theorem dX10_begin_124 : decode cX10_begin 124 = .ok (.bipush 20, 2) := by decide +kernel
theorem dX10_begin_126 : decode cX10_begin 126 = .ok (.iload_n 1, 1) := by decide +kernel
theorem dX10_begin_127 : decode cX10_begin 127 = .ok (.iadd, 1) := by decide +kernel
theorem dX10_begin_128 : decode cX10_begin 128 = .ok (.iaload, 1) := by decide +kernel
theorem dX10_begin_129 : decode cX10_begin 129 = .ok (.iastore, 1) := by decide +kernel
theorem dX10_begin_130 : decode cX10_begin 130 = .ok (.iinc 1 1, 3) := by decide +kernel
theorem dX10_begin_133 : decode cX10_begin 133 = .ok (.goto (-29), 3) := by decide +kernel
theorem dX10_begin_136 : decode cX10_begin 136 = .ok (.iconst 0, 1) := by decide +kernel
theorem dX10_begin_137 : decode cX10_begin 137 = .ok (.istore_n 1, 1) := by decide +kernel
theorem dX10_begin_138 : decode cX10_begin 138 = .ok (.iload_n 1, 1) := by decide +kernel
theorem dX10_begin_139 : decode cX10_begin 139 = .ok (.bipush 12, 2) := by decide +kernel
theorem dX10_begin_141 : decode cX10_begin 141 = .ok (.if_icmp .ge 57, 3) := by decide +kernel
theorem dX10_begin_144 : decode cX10_begin 144 = .ok (.aload_n 0, 1) := by decide +kernel
theorem dX10_begin_145 : decode cX10_begin 145 = .ok (.getfield 7, 3) := by decide +kernel
theorem dX10_begin_148 : decode cX10_begin 148 = .ok (.sipush 1190, 3) := by decide +kernel
theorem dX10_begin_151 : decode cX10_begin 151 = .ok (.iload_n 1, 1) := by decide +kernel
theorem dX10_begin_152 : decode cX10_begin 152 = .ok (.iadd, 1) := by decide +kernel
theorem dX10_begin_153 : decode cX10_begin 153 = .ok (.aload_n 0, 1) := by decide +kernel
theorem dX10_begin_154 : decode cX10_begin 154 = .ok (.getfield 26, 3) := by decide +kernel
theorem dX10_begin_157 : decode cX10_begin 157 = .ok (.iload_n 1, 1) := by decide +kernel
theorem dX10_begin_158 : decode cX10_begin 158 = .ok (.iaload, 1) := by decide +kernel
theorem dX10_begin_159 : decode cX10_begin 159 = .ok (.iastore, 1) := by decide +kernel
theorem dX10_begin_160 : decode cX10_begin 160 = .ok (.aload_n 0, 1) := by decide +kernel
theorem dX10_begin_161 : decode cX10_begin 161 = .ok (.getfield 7, 3) := by decide +kernel
theorem dX10_begin_164 : decode cX10_begin 164 = .ok (.sipush 1202, 3) := by decide +kernel
theorem dX10_begin_167 : decode cX10_begin 167 = .ok (.iload_n 1, 1) := by decide +kernel
theorem dX10_begin_168 : decode cX10_begin 168 = .ok (.iadd, 1) := by decide +kernel
theorem dX10_begin_169 : decode cX10_begin 169 = .ok (.aload_n 0, 1) := by decide +kernel
theorem dX10_begin_170 : decode cX10_begin 170 = .ok (.getfield 29, 3) := by decide +kernel
theorem dX10_begin_173 : decode cX10_begin 173 = .ok (.iload_n 1, 1) := by decide +kernel
theorem dX10_begin_174 : decode cX10_begin 174 = .ok (.iaload, 1) := by decide +kernel
theorem dX10_begin_175 : decode cX10_begin 175 = .ok (.iastore, 1) := by decide +kernel
theorem dX10_begin_176 : decode cX10_begin 176 = .ok (.aload_n 0, 1) := by decide +kernel
theorem dX10_begin_177 : decode cX10_begin 177 = .ok (.getfield 7, 3) := by decide +kernel
theorem dX10_begin_180 : decode cX10_begin 180 = .ok (.sipush 1220, 3) := by decide +kernel
theorem dX10_begin_183 : decode cX10_begin 183 = .ok (.iload_n 1, 1) := by decide +kernel
theorem dX10_begin_184 : decode cX10_begin 184 = .ok (.iadd, 1) := by decide +kernel
theorem dX10_begin_185 : decode cX10_begin 185 = .ok (.aload_n 0, 1) := by decide +kernel
theorem dX10_begin_186 : decode cX10_begin 186 = .ok (.getfield 17, 3) := by decide +kernel
theorem dX10_begin_189 : decode cX10_begin 189 = .ok (.iload_n 1, 1) := by decide +kernel
theorem dX10_begin_190 : decode cX10_begin 190 = .ok (.iaload, 1) := by decide +kernel
theorem dX10_begin_191 : decode cX10_begin 191 = .ok (.iastore, 1) := by decide +kernel
theorem dX10_begin_192 : decode cX10_begin 192 = .ok (.iinc 1 1, 3) := by decide +kernel
theorem dX10_begin_195 : decode cX10_begin 195 = .ok (.goto (-57), 3) := by decide +kernel
theorem dX10_begin_198 : decode cX10_begin 198 = .ok (.iconst 0, 1) := by decide +kernel
theorem dX10_begin_199 : decode cX10_begin 199 = .ok (.istore_n 1, 1) := by decide +kernel
theorem dX10_begin_200 : decode cX10_begin 200 = .ok (.iload_n 1, 1) := by decide +kernel
theorem dX10_begin_201 : decode cX10_begin 201 = .ok (.bipush 100, 2) := by decide +kernel
theorem dX10_begin_203 : decode cX10_begin 203 = .ok (.if_icmp .ge 20, 3) := by decide +kernel
theorem dX10_begin_206 : decode cX10_begin 206 = .ok (.aload_n 0, 1) := by decide +kernel
theorem dX10_begin_207 : decode cX10_begin 207 = .ok (.getfield 7, 3) := by decide +kernel
theorem dX10_begin_210 : decode cX10_begin 210 = .ok (.sipush 1240, 3) := by decide +kernel
theorem dX10_begin_213 : decode cX10_begin 213 = .ok (.iload_n 1, 1) := by decide +kernel
theorem dX10_begin_214 : decode cX10_begin 214 = .ok (.iadd, 1) := by decide +kernel
theorem dX10_begin_215 : decode cX10_begin 215 = .ok (.iconst 0, 1) := by decide +kernel
theorem dX10_begin_216 : decode cX10_begin 216 = .ok (.iastore, 1) := by decide +kernel
theorem dX10_begin_217 : decode cX10_begin 217 = .ok (.iinc 1 1, 3) := by decide +kernel
theorem dX10_begin_220 : decode cX10_begin 220 = .ok (.goto (-20), 3) := by decide +kernel
theorem dX10_begin_223 : decode cX10_begin 223 = .ok (.iconst 0, 1) := by decide +kernel
theorem dX10_begin_224 : decode cX10_begin 224 = .ok (.istore_n 1, 1) := by decide +kernel
theorem dX10_begin_225 : decode cX10_begin 225 = .ok (.iload_n 1, 1) := by decide +kernel
theorem dX10_begin_226 : decode cX10_begin 226 = .ok (.iconst 3, 1) := by decide +kernel
theorem dX10_begin_227 : decode cX10_begin 227 = .ok (.if_icmp .ge 20, 3) := by decide +kernel
theorem dX10_begin_230 : decode cX10_begin 230 = .ok (.aload_n 0, 1) := by decide +kernel
theorem dX10_begin_231 : decode cX10_begin 231 = .ok (.getfield 7, 3) := by decide +kernel
theorem dX10_begin_234 : decode cX10_begin 234 = .ok (.sipush 1340, 3) := by decide +kernel
theorem dX10_begin_237 : decode cX10_begin 237 = .ok (.iload_n 1, 1) := by decide +kernel
theorem dX10_begin_238 : decode cX10_begin 238 = .ok (.iadd, 1) := by decide +kernel
theorem dX10_begin_239 : decode cX10_begin 239 = .ok (.iconst 0, 1) := by decide +kernel
theorem dX10_begin_240 : decode cX10_begin 240 = .ok (.iastore, 1) := by decide +kernel
theorem dX10_begin_241 : decode cX10_begin 241 = .ok (.iinc 1 1, 3) := by decide +kernel
theorem dX10_begin_244 : decode cX10_begin 244 = .ok (.goto (-19), 3) := by decide +kernel
theorem dX10_begin_247 : decode cX10_begin 247 = .ok (.iconst 1, 1) := by decide +kernel
theorem dX10_begin_248 : decode cX10_begin 248 = .ok (.ireturn, 1) := by decide +kernel
theorem dX10_oldField_0 : decode cX10_oldField 0 = .ok (.iconst 0, 1) := by decide +kernel
theorem dX10_oldField_1 : decode cX10_oldField 1 = .ok (.istore 5, 2) := by decide +kernel
theorem dX10_oldField_3 : decode cX10_oldField 3 = .ok (.iload 5, 2) := by decide +kernel
theorem dX10_oldField_5 : decode cX10_oldField 5 = .ok (.bipush 8, 2) := by decide +kernel
theorem dX10_oldField_7 : decode cX10_oldField 7 = .ok (.if_icmp .ge 101, 3) := by decide +kernel
theorem dX10_oldField_10 : decode cX10_oldField 10 = .ok (.iconst 0, 1) := by decide +kernel
theorem dX10_oldField_11 : decode cX10_oldField 11 = .ok (.istore 6, 2) := by decide +kernel
theorem dX10_oldField_13 : decode cX10_oldField 13 = .ok (.iload 6, 2) := by decide +kernel
theorem dX10_oldField_15 : decode cX10_oldField 15 = .ok (.aload_n 0, 1) := by decide +kernel
theorem dX10_oldField_16 : decode cX10_oldField 16 = .ok (.getfield 7, 3) := by decide +kernel
theorem dX10_oldField_19 : decode cX10_oldField 19 = .ok (.sipush 600, 3) := by decide +kernel
theorem dX10_oldField_22 : decode cX10_oldField 22 = .ok (.iload 5, 2) := by decide +kernel
theorem dX10_oldField_24 : decode cX10_oldField 24 = .ok (.iadd, 1) := by decide +kernel
theorem dX10_oldField_25 : decode cX10_oldField 25 = .ok (.iaload, 1) := by decide +kernel
theorem dX10_oldField_26 : decode cX10_oldField 26 = .ok (.if_icmp .ge 76, 3) := by decide +kernel
theorem dX10_oldField_29 : decode cX10_oldField 29 = .ok (.sipush 610, 3) := by decide +kernel
theorem dX10_oldField_32 : decode cX10_oldField 32 = .ok (.bipush 72, 2) := by decide +kernel
theorem dX10_oldField_34 : decode cX10_oldField 34 = .ok (.iload 5, 2) := by decide +kernel
theorem dX10_oldField_36 : decode cX10_oldField 36 = .ok (.imul, 1) := by decide +kernel
theorem dX10_oldField_37 : decode cX10_oldField 37 = .ok (.iadd, 1) := by decide +kernel
theorem dX10_oldField_38 : decode cX10_oldField 38 = .ok (.bipush 6, 2) := by decide +kernel
theorem dX10_oldField_40 : decode cX10_oldField 40 = .ok (.iload 6, 2) := by decide +kernel
theorem dX10_oldField_42 : decode cX10_oldField 42 = .ok (.imul, 1) := by decide +kernel
theorem dX10_oldField_43 : decode cX10_oldField 43 = .ok (.iadd, 1) := by decide +kernel
theorem dX10_oldField_44 : decode cX10_oldField 44 = .ok (.istore 7, 2) := by decide +kernel
theorem dX10_oldField_46 : decode cX10_oldField 46 = .ok (.aload_n 0, 1) := by decide +kernel
theorem dX10_oldField_47 : decode cX10_oldField 47 = .ok (.getfield 7, 3) := by decide +kernel
theorem dX10_oldField_50 : decode cX10_oldField 50 = .ok (.iload 7, 2) := by decide +kernel
theorem dX10_oldField_52 : decode cX10_oldField 52 = .ok (.iaload, 1) := by decide +kernel
theorem dX10_oldField_53 : decode cX10_oldField 53 = .ok (.iload_n 1, 1) := by decide +kernel
theorem dX10_oldField_54 : decode cX10_oldField 54 = .ok (.if_icmp .ne 42, 3) := by decide +kernel
theorem dX10_oldField_57 : decode cX10_oldField 57 = .ok (.aload_n 0, 1) := by decide +kernel
theorem dX10_oldField_58 : decode cX10_oldField 58 = .ok (.getfield 7, 3) := by decide +kernel
theorem dX10_oldField_61 : decode cX10_oldField 61 = .ok (.iload 7, 2) := by decide +kernel
theorem dX10_oldField_63 : decode cX10_oldField 63 = .ok (.iconst 1, 1) := by decide +kernel
theorem dX10_oldField_64 : decode cX10_oldField 64 = .ok (.iadd, 1) := by decide +kernel
theorem dX10_oldField_65 : decode cX10_oldField 65 = .ok (.iaload, 1) := by decide +kernel
theorem dX10_oldField_66 : decode cX10_oldField 66 = .ok (.iload_n 2, 1) := by decide +kernel
theorem dX10_oldField_67 : decode cX10_oldField 67 = .ok (.if_icmp .ne 29, 3) := by decide +kernel
theorem dX10_oldField_70 : decode cX10_oldField 70 = .ok (.aload_n 0, 1) := by decide +kernel

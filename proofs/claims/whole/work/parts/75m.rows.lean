set_option maxRecDepth 20000 in
theorem ggL_law_X9_init_p0 : GoodIn wsL_law ((wsX9_init.drop 0).take 40) := goodIn_r _ [8, 9, 10, 11, 12, 13, 14, 15, 16, 17, 18, 19, 20, 21, 22, 23, 24, 25, 26, 27, 28, 29, 30, 31, 32, 33, 34, 35, 36, 37, 38, 39, 40, 41, 42, 43, 44, 45, 46, 47] (by decide +kernel) (by decide +kernel)
set_option maxRecDepth 20000 in
theorem ggL_law_X9_init_p1 : GoodIn wsL_law ((wsX9_init.drop 40).take 40) := goodIn_r _ [48, 49, 50, 51, 52, 53, 54, 55, 56, 57, 58, 59, 60, 61, 62, 63, 64, 65, 66, 67, 68, 69, 70, 71, 72, 73, 74, 75, 76, 77, 78, 79, 80, 81, 82, 83, 84, 85, 86, 87] (by decide +kernel) (by decide +kernel)
set_option maxRecDepth 20000 in
theorem ggL_law_X9_init_p2 : GoodIn wsL_law ((wsX9_init.drop 80).take 40) := goodIn_r _ [88, 89, 90, 91, 92, 93, 94, 95, 96, 97, 98, 99, 100, 101, 102, 103, 104, 105, 106, 107, 108, 109, 110, 111, 112, 113, 114, 115, 748, 749, 728, 729, 730, 731, 732, 750, 751, 752, 753, 754] (by decide +kernel) (by decide +kernel)
set_option maxRecDepth 20000 in
theorem ggL_law_X9_init_p3 : GoodIn wsL_law ((wsX9_init.drop 120).take 40) := goodIn_r _ [755, 756, 757, 758, 759, 760, 761, 762, 763, 764, 765, 766, 767, 768, 769, 770, 771, 772, 773, 774, 775, 776, 777, 778, 779, 780, 781, 782, 783, 784, 785, 786, 787, 788, 789, 790, 791, 792, 793, 794] (by decide +kernel) (by decide +kernel)
set_option maxRecDepth 20000 in
theorem ggL_law_X9_init_p4 : GoodIn wsL_law (wsX9_init.drop 160) := goodIn_r _ [795, 796, 797, 798, 799] (by decide +kernel) (by decide +kernel)
theorem ggL_law_X9_init : GoodIn wsL_law wsX9_init := (goodIn_td 0 40 ggL_law_X9_init_p0 (goodIn_td 40 40 ggL_law_X9_init_p1 (goodIn_td 80 40 ggL_law_X9_init_p2 (goodIn_td 120 40 ggL_law_X9_init_p3 ggL_law_X9_init_p4))))
set_option maxRecDepth 20000 in
theorem gL_law_X9_init : GoodIn wsL_law (wsX9_init) := ggL_law_X9_init
set_option maxRecDepth 20000 in
theorem ggL_law_X10_init : GoodIn wsL_law wsX10_init := goodIn_r _ [118, 119, 10, 11, 38, 120, 121, 122, 123, 124, 125, 126, 127, 128, 129, 130, 131, 132, 133, 134, 5, 135, 733, 734, 735, 736, 737, 738, 739, 740, 741, 742, 743, 744, 745, 746, 747] (by decide +kernel) (by decide +kernel)
set_option maxRecDepth 20000 in
theorem gL_law_X10_init : GoodIn wsL_law (wsX10_init) := ggL_law_X10_init
set_option maxRecDepth 20000 in
theorem ggL_law_X9_row : GoodIn wsL_law wsX9_row := goodIn_r _ [139, 15, 140, 141, 142, 31, 143, 144, 39, 728, 729, 730, 731, 732, 748, 749, 765, 766, 767, 768, 769] (by decide +kernel) (by decide +kernel)
set_option maxRecDepth 20000 in
theorem gL_law_X9_row : GoodIn wsL_law (wsV RL 13 RX9 yX9_row wsX9_row) := goodIn_app (goodIn_of _ (by decide +kernel)) ggL_law_X9_row
set_option maxRecDepth 20000 in
theorem ggL_law_X10_row : GoodIn wsL_law wsX10_row := goodIn_r _ [148, 120, 733, 734, 735, 736, 737, 738, 739, 740, 741, 742, 743, 744, 745, 746, 747] (by decide +kernel) (by decide +kernel)
set_option maxRecDepth 20000 in
theorem gL_law_X10_row : GoodIn wsL_law (wsV RL 17 RX10 yX10_row wsX10_row) := goodIn_app (goodIn_of _ (by decide +kernel)) ggL_law_X10_row
set_option maxRecDepth 20000 in
theorem ggL_law_X9_exchange : GoodIn wsL_law wsX9_exchange := goodIn_r _ [152, 153, 15, 154, 155, 2, 156, 157, 158, 159, 31, 160, 39, 40, 41, 42, 161, 162, 163, 164, 144, 165, 166, 167, 168, 20, 21, 169, 170, 171, 19, 172, 173, 174, 728, 729, 730, 731, 732, 748, 749, 765, 766, 767, 768, 769, 750, 751, 752, 753, 754, 755, 756] (by decide +kernel) (by decide +kernel)
set_option maxRecDepth 20000 in
theorem gL_law_X9_exchange : GoodIn wsL_law (wsV RL 18 RX9 yX9_exchange wsX9_exchange) := goodIn_app (goodIn_of _ (by decide +kernel)) ggL_law_X9_exchange
set_option maxRecDepth 20000 in
theorem ggL_law_X10_exchange : GoodIn wsL_law wsX10_exchange := goodIn_r _ [178, 179, 120, 180, 181, 182, 5, 183, 184, 185, 186, 187, 188, 189, 190, 733, 734, 735, 736, 737, 738, 739, 740, 741, 742, 743, 744, 745, 746, 747] (by decide +kernel) (by decide +kernel)
set_option maxRecDepth 20000 in
theorem gL_law_X10_exchange : GoodIn wsL_law (wsV RL 22 RX10 yX10_exchange wsX10_exchange) := goodIn_app (goodIn_of _ (by decide +kernel)) ggL_law_X10_exchange
set_option maxRecDepth 20000 in
theorem ggL_law_X9_cut : GoodIn wsL_law wsX9_cut := goodIn_r _ [194, 15, 195, 196, 197, 31, 198, 39, 161, 162, 163, 164, 144, 165, 166, 167, 2, 168, 20, 21, 169, 170, 171, 19, 172, 173, 174, 728, 729, 730, 731, 732, 748, 749, 765, 766, 767, 768, 769, 750, 751, 752, 753, 754, 755, 756] (by decide +kernel) (by decide +kernel)
set_option maxRecDepth 20000 in
theorem gL_law_X9_cut : GoodIn wsL_law (wsV RL 23 RX9 yX9_cut wsX9_cut) := goodIn_app (goodIn_of _ (by decide +kernel)) ggL_law_X9_cut
set_option maxRecDepth 20000 in
theorem ggL_law_X10_cut : GoodIn wsL_law wsX10_cut := goodIn_r _ [202, 120, 180, 181, 182, 5, 183, 184, 185, 186, 187, 188, 189, 190, 733, 734, 735, 736, 737, 738, 739, 740, 741, 742, 743, 744, 745, 746, 747] (by decide +kernel) (by decide +kernel)
set_option maxRecDepth 20000 in
theorem gL_law_X10_cut : GoodIn wsL_law (wsV RL 27 RX10 yX10_cut wsX10_cut) := goodIn_app (goodIn_of _ (by decide +kernel)) ggL_law_X10_cut
set_option maxRecDepth 20000 in
theorem ggL_law_X9_tell : GoodIn wsL_law wsX9_tell := goodIn_r _ [206, 15, 207, 208, 209, 31, 210, 144, 39, 154, 155, 2, 156, 211, 212, 213, 214, 41, 215, 216, 217, 218, 42, 219, 220, 221, 222, 40, 223, 224, 225, 226, 227, 228, 728, 729, 730, 731, 732, 748, 749, 765, 766, 767, 768, 769] (by decide +kernel) (by decide +kernel)
set_option maxRecDepth 20000 in
theorem gL_law_X9_tell : GoodIn wsL_law (wsV RL 28 RX9 yX9_tell wsX9_tell) := goodIn_app (goodIn_of _ (by decide +kernel)) ggL_law_X9_tell
set_option maxRecDepth 20000 in
theorem ggL_law_X10_tell : GoodIn wsL_law wsX10_tell := goodIn_r _ [232, 180, 181, 182, 5, 183, 120, 184, 185, 186, 187, 188, 189, 190, 233, 234, 235, 236, 733, 734, 735, 736, 737, 738, 739, 740, 741, 742, 743, 744, 745, 746, 747] (by decide +kernel) (by decide +kernel)
set_option maxRecDepth 20000 in
theorem gL_law_X10_tell : GoodIn wsL_law (wsV RL 32 RX10 yX10_tell wsX10_tell) := goodIn_app (goodIn_of _ (by decide +kernel)) ggL_law_X10_tell
set_option maxRecDepth 20000 in
theorem ggL_law_X9_quarrel : GoodIn wsL_law wsX9_quarrel := goodIn_r _ [240, 15, 241, 242, 243, 31, 244, 144, 245, 246, 247, 248, 39, 249, 250, 251, 252, 253, 220, 221, 222, 40, 254, 216, 217, 218, 42, 224, 2, 225, 255, 256, 257, 728, 729, 730, 731, 732, 748, 749, 765, 766, 767, 768, 769] (by decide +kernel) (by decide +kernel)
set_option maxRecDepth 20000 in
theorem gL_law_X9_quarrel : GoodIn wsL_law (wsV RL 33 RX9 yX9_quarrel wsX9_quarrel) := goodIn_app (goodIn_of _ (by decide +kernel)) ggL_law_X9_quarrel
set_option maxRecDepth 20000 in
theorem ggL_law_X10_quarrel : GoodIn wsL_law wsX10_quarrel := goodIn_r _ [261, 120, 184, 185, 5, 186, 262, 263, 264, 265, 187, 188, 189, 190, 233, 234, 235, 236, 733, 734, 735, 736, 737, 738, 739, 740, 741, 742, 743, 744, 745, 746, 747] (by decide +kernel) (by decide +kernel)
set_option maxRecDepth 20000 in
theorem gL_law_X10_quarrel : GoodIn wsL_law (wsV RL 37 RX10 yX10_quarrel wsX10_quarrel) := goodIn_app (goodIn_of _ (by decide +kernel)) ggL_law_X10_quarrel
set_option maxRecDepth 20000 in
theorem ggL_law_X9_rule_p0 : GoodIn wsL_law ((wsX9_rule.drop 0).take 40) := goodIn_r _ [269, 20, 15, 154, 155, 2, 156, 270, 271, 272, 19, 273, 174, 86, 91, 90, 274, 275, 276, 85, 277, 114, 115, 278, 279, 280, 281, 282, 283, 284, 52, 285, 67, 68, 286, 287, 288, 242, 243, 31] (by decide +kernel) (by decide +kernel)
set_option maxRecDepth 20000 in
theorem ggL_law_X9_rule_p1 : GoodIn wsL_law ((wsX9_rule.drop 40).take 40) := goodIn_r _ [244, 144, 289, 290, 291, 292, 113, 293, 294, 295, 56, 296, 74, 75, 297, 298, 208, 209, 210, 39, 299, 220, 221, 222, 40, 300, 212, 213, 214, 41, 301, 216, 217, 218, 42, 302, 303, 304, 305, 70] (by decide +kernel) (by decide +kernel)

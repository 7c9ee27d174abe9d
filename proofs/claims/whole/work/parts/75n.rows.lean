set_option maxRecDepth 20000 in
theorem ggL_law_X9_rule_p2 : GoodIn wsL_law ((wsX9_rule.drop 80).take 40) := goodIn_r _ [69, 306, 307, 308, 309, 227, 228, 310, 311, 312, 313, 314, 315, 316, 317, 318, 319, 320, 321, 322, 323, 324, 325, 326, 327, 328, 329, 330, 331, 332, 333, 334, 335, 336, 337, 728, 729, 730, 731, 732] (by decide +kernel) (by decide +kernel)
set_option maxRecDepth 20000 in
theorem ggL_law_X9_rule_p3 : GoodIn wsL_law (wsX9_rule.drop 120) := goodIn_r _ [748, 749, 750, 751, 752, 753, 754, 755, 756, 797, 798, 799, 773, 774, 775, 776, 777, 765, 766, 767, 768, 769, 778, 779] (by decide +kernel) (by decide +kernel)
theorem ggL_law_X9_rule : GoodIn wsL_law wsX9_rule := (goodIn_td 0 40 ggL_law_X9_rule_p0 (goodIn_td 40 40 ggL_law_X9_rule_p1 (goodIn_td 80 40 ggL_law_X9_rule_p2 ggL_law_X9_rule_p3)))
set_option maxRecDepth 20000 in
theorem gL_law_X9_rule : GoodIn wsL_law (wsV RL 38 RX9 yX9_rule wsX9_rule) := goodIn_app (goodIn_of _ (by decide +kernel)) ggL_law_X9_rule
set_option maxRecDepth 20000 in
theorem ggL_law_X10_rule : GoodIn wsL_law wsX10_rule := goodIn_r _ [341, 123, 184, 185, 5, 186, 342, 343, 344, 345, 346, 347, 348, 349, 350, 120, 187, 188, 189, 190, 233, 234, 235, 236, 351, 352, 353, 354, 355, 356, 357, 358, 359, 360, 361, 362, 363, 364, 365, 366, 367, 368, 369, 370, 733, 734, 735, 736, 737, 738, 739, 740, 741, 742, 743, 744, 745, 746, 747] (by decide +kernel) (by decide +kernel)
set_option maxRecDepth 20000 in
theorem gL_law_X10_rule : GoodIn wsL_law (wsV RL 42 RX10 yX10_rule wsX10_rule) := goodIn_app (goodIn_of _ (by decide +kernel)) ggL_law_X10_rule
set_option maxRecDepth 20000 in
theorem ggL_law_X9_by_p0 : GoodIn wsL_law ((wsX9_by.drop 0).take 40) := goodIn_r _ [374, 20, 15, 154, 155, 2, 156, 270, 271, 272, 19, 273, 174, 86, 91, 90, 274, 275, 276, 85, 277, 114, 115, 278, 279, 280, 281, 282, 283, 284, 52, 285, 67, 68, 286, 287, 288, 242, 243, 31] (by decide +kernel) (by decide +kernel)
set_option maxRecDepth 20000 in
theorem ggL_law_X9_by_p1 : GoodIn wsL_law ((wsX9_by.drop 40).take 40) := goodIn_r _ [244, 144, 289, 290, 291, 292, 113, 293, 294, 295, 56, 296, 74, 75, 297, 298, 208, 209, 210, 39, 299, 220, 221, 222, 40, 300, 212, 213, 214, 41, 301, 216, 217, 218, 42, 302, 303, 304, 305, 70] (by decide +kernel) (by decide +kernel)
set_option maxRecDepth 20000 in
theorem ggL_law_X9_by_p2 : GoodIn wsL_law ((wsX9_by.drop 80).take 40) := goodIn_r _ [69, 306, 307, 308, 309, 227, 228, 310, 311, 312, 313, 314, 315, 316, 317, 318, 319, 320, 321, 322, 323, 324, 325, 326, 327, 328, 329, 330, 331, 332, 333, 375, 376, 377, 378, 728, 729, 730, 731, 732] (by decide +kernel) (by decide +kernel)
set_option maxRecDepth 20000 in
theorem ggL_law_X9_by_p3 : GoodIn wsL_law (wsX9_by.drop 120) := goodIn_r _ [748, 749, 750, 751, 752, 753, 754, 755, 756, 797, 798, 799, 773, 774, 775, 776, 777, 765, 766, 767, 768, 769, 778, 779] (by decide +kernel) (by decide +kernel)
theorem ggL_law_X9_by : GoodIn wsL_law wsX9_by := (goodIn_td 0 40 ggL_law_X9_by_p0 (goodIn_td 40 40 ggL_law_X9_by_p1 (goodIn_td 80 40 ggL_law_X9_by_p2 ggL_law_X9_by_p3)))
set_option maxRecDepth 20000 in
theorem gL_law_X9_by : GoodIn wsL_law (wsV RL 43 RX9 yX9_by wsX9_by) := goodIn_app (goodIn_of _ (by decide +kernel)) ggL_law_X9_by
set_option maxRecDepth 20000 in
theorem ggL_law_X10_by : GoodIn wsL_law wsX10_by := goodIn_r _ [382, 123, 184, 185, 5, 186, 342, 343, 344, 345, 346, 347, 348, 349, 350, 120, 187, 188, 189, 190, 233, 234, 235, 236, 351, 352, 353, 354, 355, 356, 357, 358, 359, 360, 361, 362, 363, 364, 365, 366, 367, 368, 369, 370, 733, 734, 735, 736, 737, 738, 739, 740, 741, 742, 743, 744, 745, 746, 747] (by decide +kernel) (by decide +kernel)
set_option maxRecDepth 20000 in
theorem gL_law_X10_by : GoodIn wsL_law (wsV RL 46 RX10 yX10_by wsX10_by) := goodIn_app (goodIn_of _ (by decide +kernel)) ggL_law_X10_by
set_option maxRecDepth 20000 in
theorem ggL_law_X9_states_p0 : GoodIn wsL_law ((wsX9_states.drop 0).take 40) := goodIn_r _ [386, 20, 15, 387, 388, 389, 19, 390, 173, 82, 91, 88, 391, 392, 393, 81, 394, 395, 396, 397, 398, 399, 400, 98, 401, 279, 280, 281, 402, 242, 243, 31, 244, 144, 403, 404, 405, 406, 97, 407] (by decide +kernel) (by decide +kernel)
set_option maxRecDepth 20000 in
theorem ggL_law_X9_states_p1 : GoodIn wsL_law ((wsX9_states.drop 40).take 40) := goodIn_r _ [208, 209, 210, 39, 408, 216, 217, 218, 42, 224, 2, 225, 409, 220, 221, 222, 40, 410, 411, 412, 413, 95, 96, 414, 415, 416, 48, 417, 62, 63, 418, 419, 420, 421, 422, 423, 99, 100, 424, 425] (by decide +kernel) (by decide +kernel)
set_option maxRecDepth 20000 in
theorem ggL_law_X9_states_p2 : GoodIn wsL_law ((wsX9_states.drop 80).take 40) := goodIn_r _ [426, 427, 428, 429, 430, 431, 432, 105, 107, 108, 433, 434, 435, 436, 437, 101, 102, 106, 103, 104, 438, 439, 440, 441, 442, 443, 251, 444, 445, 446, 447, 448, 449, 450, 451, 452, 453, 454, 455, 456] (by decide +kernel) (by decide +kernel)
set_option maxRecDepth 20000 in
theorem ggL_law_X9_states_p3 : GoodIn wsL_law ((wsX9_states.drop 120).take 40) := goodIn_r _ [457, 458, 459, 460, 461, 462, 463, 464, 465, 466, 467, 468, 469, 470, 471, 472, 728, 729, 730, 731, 732, 748, 749, 750, 751, 752, 753, 754, 755, 756, 780, 781, 782, 783, 784, 785, 786, 787, 788, 789] (by decide +kernel) (by decide +kernel)
set_option maxRecDepth 20000 in
theorem ggL_law_X9_states_p4 : GoodIn wsL_law (wsX9_states.drop 160) := goodIn_r _ [790, 791, 792, 793, 794, 795, 796, 765, 766, 767, 768, 769, 770, 771, 772] (by decide +kernel) (by decide +kernel)

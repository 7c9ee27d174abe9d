set_option maxRecDepth 20000 in
theorem ggL_law_X10_begin_p0 : GoodIn wsL_law ((wsX10_begin.drop 0).take 40) := goodIn_r _ [550, 120, 126, 127, 123, 132, 133, 134, 5, 135, 477, 478, 479, 480, 481, 482, 483, 484, 485, 124, 125, 187, 188, 189, 190, 486, 487, 488, 489, 490, 491, 128, 129, 130, 131, 233, 234, 235, 236, 492] (by decide +kernel) (by decide +kernel)
set_option maxRecDepth 20000 in
theorem ggL_law_X10_begin_p1 : GoodIn wsL_law ((wsX10_begin.drop 40).take 40) := goodIn_r _ [493, 494, 495, 551, 552, 553, 554, 342, 343, 344, 345, 346, 347, 348, 349, 350, 351, 352, 353, 354, 355, 356, 357, 358, 359, 360, 361, 362, 363, 364, 365, 366, 367, 368, 369, 370, 733, 734, 735, 736] (by decide +kernel) (by decide +kernel)
set_option maxRecDepth 20000 in
theorem ggL_law_X10_begin_p2 : GoodIn wsL_law (wsX10_begin.drop 80) := goodIn_r _ [737, 738, 739, 740, 741, 742, 743, 744, 745, 746, 747] (by decide +kernel) (by decide +kernel)
theorem ggL_law_X10_begin : GoodIn wsL_law wsX10_begin := (goodIn_td 0 40 ggL_law_X10_begin_p0 (goodIn_td 40 40 ggL_law_X10_begin_p1 ggL_law_X10_begin_p2))
set_option maxRecDepth 20000 in
theorem gL_law_X10_begin : GoodIn wsL_law (wsV RL 59 RX10 yX10_begin wsX10_begin) := goodIn_app (goodIn_of _ (by decide +kernel)) ggL_law_X10_begin
set_option maxRecDepth 20000 in
theorem ggL_law_X9_say_p0 : GoodIn wsL_law ((wsX9_say.drop 0).take 40) := goodIn_r _ [558, 15, 559, 560, 561, 24, 562, 524, 154, 155, 2, 156, 563, 564, 565, 566, 49, 529, 53, 531, 58, 57, 530, 567, 505, 506, 48, 507, 63, 568, 569, 570, 52, 571, 572, 335, 336, 337, 67, 306] (by decide +kernel) (by decide +kernel)
set_option maxRecDepth 20000 in
theorem ggL_law_X9_say_p1 : GoodIn wsL_law ((wsX9_say.drop 40).take 40) := goodIn_r _ [307, 308, 309, 286, 69, 573, 574, 575, 576, 70, 227, 228, 577, 315, 316, 56, 317, 74, 75, 578, 376, 377, 378, 68, 579, 323, 324, 325, 580, 501, 502, 503, 62, 728, 729, 730, 731, 732, 748, 749] (by decide +kernel) (by decide +kernel)
set_option maxRecDepth 20000 in
theorem ggL_law_X9_say_p2 : GoodIn wsL_law (wsX9_say.drop 80) := goodIn_r _ [757, 758, 759, 760, 761, 762, 763, 764, 770, 771, 772, 773, 774, 775, 776, 777, 778, 779] (by decide +kernel) (by decide +kernel)
theorem ggL_law_X9_say : GoodIn wsL_law wsX9_say := (goodIn_td 0 40 ggL_law_X9_say_p0 (goodIn_td 40 40 ggL_law_X9_say_p1 ggL_law_X9_say_p2))
set_option maxRecDepth 20000 in
theorem gL_law_X9_say : GoodIn wsL_law (wsV RL 60 RX9 yX9_say wsX9_say) := goodIn_app (goodIn_of _ (by decide +kernel)) ggL_law_X9_say
set_option maxRecDepth 20000 in
theorem ggL_law_X10_say : GoodIn wsL_law wsX10_say := goodIn_r _ [584, 120, 184, 185, 5, 186, 585, 586, 587, 588, 589, 590, 591, 733, 734, 735, 736, 737, 738, 739, 740, 741, 742, 743, 744, 745, 746, 747] (by decide +kernel) (by decide +kernel)
set_option maxRecDepth 20000 in
theorem gL_law_X10_say : GoodIn wsL_law (wsV RL 63 RX10 yX10_say wsX10_say) := goodIn_app (goodIn_of _ (by decide +kernel)) ggL_law_X10_say
set_option maxRecDepth 20000 in
theorem ggL_law_X9_field : GoodIn wsL_law wsX9_field := goodIn_r _ [595, 15, 559, 560, 561, 24, 562, 524, 154, 155, 2, 156, 596, 597, 598, 599, 58, 728, 729, 730, 731, 732, 748, 749, 757, 758, 759, 760, 761, 762, 763, 764] (by decide +kernel) (by decide +kernel)
set_option maxRecDepth 20000 in
theorem gL_law_X9_field : GoodIn wsL_law (wsV RL 64 RX9 yX9_field wsX9_field) := goodIn_app (goodIn_of _ (by decide +kernel)) ggL_law_X9_field
set_option maxRecDepth 20000 in
theorem ggL_law_X10_field : GoodIn wsL_law wsX10_field := goodIn_r _ [603, 120, 184, 185, 5, 186, 733, 734, 735, 736, 737, 738, 739, 740, 741, 742, 743, 744, 745, 746, 747] (by decide +kernel) (by decide +kernel)
set_option maxRecDepth 20000 in
theorem gL_law_X10_field : GoodIn wsL_law (wsV RL 67 RX10 yX10_field wsX10_field) := goodIn_app (goodIn_of _ (by decide +kernel)) ggL_law_X10_field
set_option maxRecDepth 20000 in
theorem ggL_law_X9_ran : GoodIn wsL_law wsX9_ran := goodIn_r _ [607, 15, 559, 560, 561, 24, 562, 524, 608, 609, 610, 611, 529, 612, 613, 614, 615, 530, 616, 617, 618, 619, 531, 255, 256, 2, 257, 728, 729, 730, 731, 732, 748, 749, 757, 758, 759, 760, 761, 762, 763, 764] (by decide +kernel) (by decide +kernel)
set_option maxRecDepth 20000 in
theorem gL_law_X9_ran : GoodIn wsL_law (wsV RL 68 RX9 yX9_ran wsX9_ran) := goodIn_app (goodIn_of _ (by decide +kernel)) ggL_law_X9_ran
set_option maxRecDepth 20000 in
theorem ggL_law_X10_ran : GoodIn wsL_law wsX10_ran := goodIn_r _ [623, 120, 184, 185, 5, 186, 733, 734, 735, 736, 737, 738, 739, 740, 741, 742, 743, 744, 745, 746, 747] (by decide +kernel) (by decide +kernel)
set_option maxRecDepth 20000 in
theorem gL_law_X10_ran : GoodIn wsL_law (wsV RL 71 RX10 yX10_ran wsX10_ran) := goodIn_app (goodIn_of _ (by decide +kernel)) ggL_law_X10_ran
set_option maxRecDepth 20000 in
theorem ggL_law_X9_held_p0 : GoodIn wsL_law ((wsX9_held.drop 0).take 40) := goodIn_r _ [627, 20, 628, 629, 630, 2, 631, 15, 25, 632, 162, 163, 31, 164, 144, 154, 155, 156, 387, 388, 389, 19, 390, 173, 82, 91, 88, 391, 392, 393, 81, 394, 395, 396, 397, 398, 399, 400, 98, 401] (by decide +kernel) (by decide +kernel)
set_option maxRecDepth 20000 in
theorem ggL_law_X9_held_p1 : GoodIn wsL_law ((wsX9_held.drop 40).take 40) := goodIn_r _ [279, 280, 281, 402, 242, 243, 244, 403, 404, 405, 406, 97, 407, 208, 209, 210, 39, 408, 216, 217, 218, 42, 224, 225, 409, 220, 221, 222, 40, 410, 411, 412, 413, 95, 96, 414, 415, 416, 48, 417] (by decide +kernel) (by decide +kernel)
set_option maxRecDepth 20000 in
theorem ggL_law_X9_held_p2 : GoodIn wsL_law ((wsX9_held.drop 80).take 40) := goodIn_r _ [62, 63, 418, 419, 420, 421, 422, 423, 99, 100, 424, 425, 426, 427, 428, 429, 430, 431, 432, 105, 107, 108, 433, 434, 435, 436, 437, 101, 102, 106, 103, 104, 438, 439, 440, 441, 442, 443, 251, 444] (by decide +kernel) (by decide +kernel)
set_option maxRecDepth 20000 in
theorem ggL_law_X9_held_p3 : GoodIn wsL_law ((wsX9_held.drop 120).take 40) := goodIn_r _ [445, 446, 447, 448, 449, 450, 451, 452, 453, 454, 455, 456, 457, 458, 459, 460, 461, 462, 463, 464, 465, 466, 467, 468, 516, 517, 518, 519, 270, 271, 272, 273, 174, 86, 90, 274, 275, 276, 85, 277] (by decide +kernel) (by decide +kernel)
set_option maxRecDepth 20000 in
theorem ggL_law_X9_held_p4 : GoodIn wsL_law ((wsX9_held.drop 160).take 40) := goodIn_r _ [114, 115, 278, 282, 283, 284, 52, 285, 67, 68, 286, 287, 288, 289, 290, 291, 292, 113, 293, 294, 295, 56, 296, 74, 75, 297, 298, 299, 300, 212, 213, 214, 41, 301, 302, 303, 304, 305, 70, 69] (by decide +kernel) (by decide +kernel)
set_option maxRecDepth 20000 in
theorem ggL_law_X9_held_p5 : GoodIn wsL_law ((wsX9_held.drop 200).take 40) := goodIn_r _ [306, 307, 308, 309, 227, 228, 310, 311, 312, 313, 314, 315, 316, 317, 318, 319, 320, 321, 322, 323, 324, 325, 326, 327, 328, 329, 330, 331, 332, 333, 525, 526, 527, 24, 528, 49, 53, 57, 58, 524] (by decide +kernel) (by decide +kernel)
set_option maxRecDepth 20000 in
theorem ggL_law_X9_held_p6 : GoodIn wsL_law ((wsX9_held.drop 240).take 40) := goodIn_r _ [529, 530, 531, 532, 533, 534, 535, 536, 537, 538, 539, 540, 541, 542, 543, 544, 545, 546, 207, 633, 634, 635, 636, 219, 211, 563, 564, 565, 566, 567, 505, 506, 507, 568, 569, 570, 571, 572, 335, 336] (by decide +kernel) (by decide +kernel)
set_option maxRecDepth 20000 in
theorem ggL_law_X9_held_p7 : GoodIn wsL_law ((wsX9_held.drop 280).take 40) := goodIn_r _ [337, 573, 574, 575, 576, 577, 578, 376, 377, 378, 579, 580, 501, 502, 503, 215, 223, 596, 597, 598, 599, 226, 728, 729, 730, 731, 732, 748, 749, 765, 766, 767, 768, 769, 750, 751, 752, 753, 754, 755] (by decide +kernel) (by decide +kernel)
set_option maxRecDepth 20000 in
theorem ggL_law_X9_held_p8 : GoodIn wsL_law (wsX9_held.drop 320) := goodIn_r _ [756, 780, 781, 782, 783, 784, 785, 786, 787, 788, 789, 790, 791, 792, 793, 794, 795, 796, 770, 771, 772, 797, 798, 799, 773, 774, 775, 776, 777, 778, 779, 757, 758, 759, 760, 761, 762, 763, 764] (by decide +kernel) (by decide +kernel)

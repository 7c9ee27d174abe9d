set_option maxRecDepth 20000 in
theorem ggL_law_X10_leads : GoodIn wsL_law wsX10_leads := goodIn_r _ [511, 126, 127, 184, 185, 5, 186, 477, 478, 479, 480, 481, 482, 483, 484, 485, 120, 124, 125, 187, 188, 189, 190, 486, 487, 488, 489, 490, 491, 128, 129, 130, 131, 233, 234, 235, 236, 492, 493, 494, 495, 733, 734, 735, 736, 737, 738, 739, 740, 741, 742, 743, 744, 745, 746, 747] (by decide +kernel) (by decide +kernel)
set_option maxRecDepth 20000 in
theorem gL_law_X10_leads : GoodIn wsL_law (wsV RL 54 RX10 yX10_leads wsX10_leads) := goodIn_app (goodIn_of _ (by decide +kernel)) ggL_law_X10_leads
set_option maxRecDepth 20000 in
theorem ggL_law_X9_begin_p0 : GoodIn wsL_law ((wsX9_begin.drop 0).take 40) := goodIn_r _ [515, 20, 15, 387, 388, 389, 19, 390, 173, 82, 91, 88, 391, 392, 393, 81, 394, 395, 396, 397, 398, 399, 400, 98, 401, 279, 280, 281, 402, 242, 243, 31, 244, 144, 403, 404, 405, 406, 97, 407] (by decide +kernel) (by decide +kernel)
set_option maxRecDepth 20000 in
theorem ggL_law_X9_begin_p1 : GoodIn wsL_law ((wsX9_begin.drop 40).take 40) := goodIn_r _ [208, 209, 210, 39, 408, 216, 217, 218, 42, 224, 2, 225, 409, 220, 221, 222, 40, 410, 411, 412, 413, 95, 96, 414, 415, 416, 48, 417, 62, 63, 418, 419, 420, 421, 422, 423, 99, 100, 424, 425] (by decide +kernel) (by decide +kernel)
set_option maxRecDepth 20000 in
theorem ggL_law_X9_begin_p2 : GoodIn wsL_law ((wsX9_begin.drop 80).take 40) := goodIn_r _ [426, 427, 428, 429, 430, 431, 432, 105, 107, 108, 433, 434, 435, 436, 437, 101, 102, 106, 103, 104, 438, 439, 440, 441, 442, 443, 251, 444, 445, 446, 447, 448, 449, 450, 451, 452, 453, 454, 455, 456] (by decide +kernel) (by decide +kernel)
set_option maxRecDepth 20000 in
theorem ggL_law_X9_begin_p3 : GoodIn wsL_law ((wsX9_begin.drop 120).take 40) := goodIn_r _ [457, 458, 459, 460, 461, 462, 463, 464, 465, 466, 467, 468, 516, 517, 518, 519, 520, 521, 522, 24, 523, 524, 270, 271, 272, 273, 174, 86, 90, 274, 275, 276, 85, 277, 114, 115, 278, 282, 283, 284] (by decide +kernel) (by decide +kernel)
set_option maxRecDepth 20000 in
theorem ggL_law_X9_begin_p4 : GoodIn wsL_law ((wsX9_begin.drop 160).take 40) := goodIn_r _ [52, 285, 67, 68, 286, 287, 288, 289, 290, 291, 292, 113, 293, 294, 295, 56, 296, 74, 75, 297, 298, 299, 300, 212, 213, 214, 41, 301, 302, 303, 304, 305, 70, 69, 306, 307, 308, 309, 227, 228] (by decide +kernel) (by decide +kernel)
set_option maxRecDepth 20000 in
theorem ggL_law_X9_begin_p5 : GoodIn wsL_law ((wsX9_begin.drop 200).take 40) := goodIn_r _ [310, 311, 312, 313, 314, 315, 316, 317, 318, 319, 320, 321, 322, 323, 324, 325, 326, 327, 328, 329, 330, 331, 332, 333, 525, 526, 527, 528, 49, 53, 57, 58, 529, 530, 531, 532, 533, 534, 535, 536] (by decide +kernel) (by decide +kernel)
set_option maxRecDepth 20000 in
theorem ggL_law_X9_begin_p6 : GoodIn wsL_law ((wsX9_begin.drop 240).take 40) := goodIn_r _ [537, 538, 539, 540, 541, 542, 543, 544, 545, 546, 728, 729, 730, 731, 732, 748, 749, 750, 751, 752, 753, 754, 755, 756, 780, 781, 782, 783, 784, 785, 786, 787, 788, 789, 790, 791, 792, 793, 794, 795] (by decide +kernel) (by decide +kernel)
set_option maxRecDepth 20000 in
theorem ggL_law_X9_begin_p7 : GoodIn wsL_law (wsX9_begin.drop 280) := goodIn_r _ [796, 765, 766, 767, 768, 769, 770, 771, 772, 757, 758, 759, 760, 761, 762, 763, 764, 797, 798, 799, 773, 774, 775, 776, 777, 778, 779] (by decide +kernel) (by decide +kernel)

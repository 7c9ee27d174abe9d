set_option maxRecDepth 20000 in
theorem ggL_law_X10_held_p0 : GoodIn wsL_law ((wsX10_held.drop 0).take 40) := goodIn_r _ [640, 641, 642, 643, 5, 644, 126, 180, 181, 182, 183, 120, 184, 185, 186, 477, 478, 479, 480, 127, 481, 482, 483, 484, 485, 124, 125, 187, 188, 189, 190, 486, 487, 488, 489, 490, 491, 128, 129, 130] (by decide +kernel) (by decide +kernel)
set_option maxRecDepth 20000 in
theorem ggL_law_X10_held_p1 : GoodIn wsL_law ((wsX10_held.drop 40).take 40) := goodIn_r _ [131, 233, 234, 235, 236, 492, 493, 494, 495, 551, 552, 553, 554, 342, 343, 344, 345, 123, 346, 347, 348, 349, 350, 351, 352, 353, 354, 355, 356, 357, 358, 359, 360, 361, 362, 363, 364, 365, 366, 367] (by decide +kernel) (by decide +kernel)
set_option maxRecDepth 20000 in
theorem ggL_law_X10_held_p2 : GoodIn wsL_law (wsX10_held.drop 80) := goodIn_r _ [368, 369, 370, 645, 646, 647, 648, 649, 650, 651, 652, 589, 590, 591, 653, 654, 655, 733, 734, 735, 736, 737, 738, 739, 740, 741, 742, 743, 744, 745, 746, 747] (by decide +kernel) (by decide +kernel)
theorem ggL_law_X10_held : GoodIn wsL_law wsX10_held := (goodIn_td 0 40 ggL_law_X10_held_p0 (goodIn_td 40 40 ggL_law_X10_held_p1 ggL_law_X10_held_p2))
set_option maxRecDepth 20000 in
theorem gL_law_X10_held : GoodIn wsL_law (wsV RL 75 RX10 yX10_held wsX10_held) := goodIn_app (goodIn_of _ (by decide +kernel)) ggL_law_X10_held
set_option maxRecDepth 20000 in
theorem ggL_law_X9_fresh_p0 : GoodIn wsL_law ((wsX9_fresh.drop 0).take 40) := goodIn_r _ [659, 15, 21, 632, 162, 163, 31, 164, 144, 660, 661, 662, 19, 663, 91, 664, 170, 171, 172, 173, 174, 628, 629, 630, 2, 631, 25, 154, 155, 156, 387, 388, 389, 390, 82, 88, 391, 392, 393, 81] (by decide +kernel) (by decide +kernel)
set_option maxRecDepth 20000 in
theorem ggL_law_X9_fresh_p1 : GoodIn wsL_law ((wsX9_fresh.drop 40).take 40) := goodIn_r _ [394, 395, 396, 397, 398, 399, 400, 98, 401, 279, 280, 281, 402, 242, 243, 244, 403, 404, 405, 406, 97, 407, 208, 209, 210, 39, 408, 216, 217, 218, 42, 224, 225, 409, 220, 221, 222, 40, 410, 411] (by decide +kernel) (by decide +kernel)
set_option maxRecDepth 20000 in
theorem ggL_law_X9_fresh_p2 : GoodIn wsL_law ((wsX9_fresh.drop 80).take 40) := goodIn_r _ [412, 413, 95, 96, 414, 415, 416, 48, 417, 62, 63, 418, 419, 420, 421, 422, 423, 99, 100, 424, 425, 426, 427, 428, 429, 430, 431, 432, 105, 107, 108, 433, 434, 435, 436, 437, 101, 102, 106, 103] (by decide +kernel) (by decide +kernel)
set_option maxRecDepth 20000 in
theorem ggL_law_X9_fresh_p3 : GoodIn wsL_law ((wsX9_fresh.drop 120).take 40) := goodIn_r _ [104, 438, 439, 440, 441, 442, 443, 251, 444, 445, 446, 447, 448, 449, 450, 451, 452, 453, 454, 455, 456, 457, 458, 459, 460, 461, 462, 463, 464, 465, 466, 467, 468, 516, 517, 518, 519, 270, 271, 272] (by decide +kernel) (by decide +kernel)
set_option maxRecDepth 20000 in
theorem ggL_law_X9_fresh_p4 : GoodIn wsL_law ((wsX9_fresh.drop 160).take 40) := goodIn_r _ [273, 86, 90, 274, 275, 276, 85, 277, 114, 115, 278, 282, 283, 284, 52, 285, 67, 68, 286, 287, 288, 289, 290, 291, 292, 113, 293, 294, 295, 56, 296, 74, 75, 297, 298, 299, 300, 212, 213, 214] (by decide +kernel) (by decide +kernel)
set_option maxRecDepth 20000 in
theorem ggL_law_X9_fresh_p5 : GoodIn wsL_law ((wsX9_fresh.drop 200).take 40) := goodIn_r _ [41, 301, 302, 303, 304, 305, 70, 69, 306, 307, 308, 309, 227, 228, 310, 311, 312, 313, 314, 315, 316, 317, 318, 319, 320, 321, 322, 323, 324, 325, 326, 327, 328, 329, 330, 331, 332, 333, 525, 526] (by decide +kernel) (by decide +kernel)
set_option maxRecDepth 20000 in
theorem ggL_law_X9_fresh_p6 : GoodIn wsL_law ((wsX9_fresh.drop 240).take 40) := goodIn_r _ [527, 24, 528, 49, 53, 57, 58, 524, 529, 530, 531, 532, 533, 534, 535, 536, 537, 538, 539, 540, 541, 542, 543, 544, 545, 546, 207, 633, 634, 635, 636, 219, 211, 563, 564, 565, 566, 567, 505, 506] (by decide +kernel) (by decide +kernel)
set_option maxRecDepth 20000 in
theorem ggL_law_X9_fresh_p7 : GoodIn wsL_law ((wsX9_fresh.drop 280).take 40) := goodIn_r _ [507, 568, 569, 570, 571, 572, 335, 336, 337, 573, 574, 575, 576, 577, 578, 376, 377, 378, 579, 580, 501, 502, 503, 215, 223, 596, 597, 598, 599, 226, 728, 729, 730, 731, 732, 748, 749, 765, 766, 767] (by decide +kernel) (by decide +kernel)
set_option maxRecDepth 20000 in
theorem ggL_law_X9_fresh_p8 : GoodIn wsL_law ((wsX9_fresh.drop 320).take 40) := goodIn_r _ [768, 769, 750, 751, 752, 753, 754, 755, 756, 780, 781, 782, 783, 784, 785, 786, 787, 788, 789, 790, 791, 792, 793, 794, 795, 796, 770, 771, 772, 797, 798, 799, 773, 774, 775, 776, 777, 778, 779, 757] (by decide +kernel) (by decide +kernel)
set_option maxRecDepth 20000 in
theorem ggL_law_X9_fresh_p9 : GoodIn wsL_law (wsX9_fresh.drop 360) := goodIn_r _ [758, 759, 760, 761, 762, 763, 764] (by decide +kernel) (by decide +kernel)

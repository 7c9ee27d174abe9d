set_option maxRecDepth 20000 in
theorem ggL_law_X10_states : GoodIn wsL_law wsX10_states := goodIn_r _ [476, 477, 478, 479, 5, 480, 126, 127, 481, 482, 483, 484, 485, 120, 124, 125, 187, 188, 189, 190, 486, 487, 488, 489, 490, 491, 128, 129, 130, 131, 233, 234, 235, 236, 492, 493, 494, 495, 733, 734, 735, 736, 737, 738, 739, 740, 741, 742, 743, 744, 745, 746, 747] (by decide +kernel) (by decide +kernel)
set_option maxRecDepth 20000 in
theorem gL_law_X10_states : GoodIn wsL_law (wsV RL 50 RX10 yX10_states wsX10_states) := goodIn_app (goodIn_of _ (by decide +kernel)) ggL_law_X10_states
set_option maxRecDepth 20000 in
theorem ggL_law_X9_leads_p0 : GoodIn wsL_law ((wsX9_leads.drop 0).take 40) := goodIn_r _ [499, 20, 15, 154, 155, 2, 156, 387, 388, 389, 19, 390, 173, 82, 91, 88, 391, 392, 393, 81, 394, 395, 396, 397, 398, 399, 400, 98, 401, 279, 280, 281, 402, 242, 243, 31, 244, 144, 403, 404] (by decide +kernel) (by decide +kernel)
set_option maxRecDepth 20000 in
theorem ggL_law_X9_leads_p1 : GoodIn wsL_law ((wsX9_leads.drop 40).take 40) := goodIn_r _ [405, 406, 97, 407, 208, 209, 210, 39, 408, 216, 217, 218, 42, 224, 225, 409, 220, 221, 222, 40, 410, 411, 412, 413, 95, 96, 414, 415, 416, 48, 417, 62, 63, 418, 419, 420, 421, 422, 423, 99] (by decide +kernel) (by decide +kernel)
set_option maxRecDepth 20000 in
theorem ggL_law_X9_leads_p2 : GoodIn wsL_law ((wsX9_leads.drop 80).take 40) := goodIn_r _ [100, 424, 425, 426, 427, 428, 429, 430, 431, 432, 105, 107, 108, 433, 434, 435, 436, 437, 101, 102, 106, 103, 104, 438, 439, 440, 441, 442, 443, 251, 444, 445, 446, 447, 448, 449, 450, 451, 452, 453] (by decide +kernel) (by decide +kernel)
set_option maxRecDepth 20000 in
theorem ggL_law_X9_leads_p3 : GoodIn wsL_law ((wsX9_leads.drop 120).take 40) := goodIn_r _ [454, 455, 456, 457, 458, 459, 460, 461, 462, 463, 464, 465, 466, 467, 468, 500, 501, 502, 503, 504, 505, 506, 507, 728, 729, 730, 731, 732, 748, 749, 750, 751, 752, 753, 754, 755, 756, 780, 781, 782] (by decide +kernel) (by decide +kernel)
set_option maxRecDepth 20000 in
theorem ggL_law_X9_leads_p4 : GoodIn wsL_law (wsX9_leads.drop 160) := goodIn_r _ [783, 784, 785, 786, 787, 788, 789, 790, 791, 792, 793, 794, 795, 796, 765, 766, 767, 768, 769, 770, 771, 772] (by decide +kernel) (by decide +kernel)

theorem ggL_law_X9_begin : GoodIn wsL_law wsX9_begin := (goodIn_td 0 40 ggL_law_X9_begin_p0 (goodIn_td 40 40 ggL_law_X9_begin_p1 (goodIn_td 80 40 ggL_law_X9_begin_p2 (goodIn_td 120 40 ggL_law_X9_begin_p3 (goodIn_td 160 40 ggL_law_X9_begin_p4 (goodIn_td 200 40 ggL_law_X9_begin_p5 (goodIn_td 240 40 ggL_law_X9_begin_p6 ggL_law_X9_begin_p7)))))))
set_option maxRecDepth 20000 in
theorem gL_law_X9_begin : GoodIn wsL_law (wsV RL 55 RX9 yX9_begin wsX9_begin) := goodIn_app (goodIn_of _ (by decide +kernel)) ggL_law_X9_begin

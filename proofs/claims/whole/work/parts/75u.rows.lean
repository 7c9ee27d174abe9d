theorem ggL_law_X9_held : GoodIn wsL_law wsX9_held := (goodIn_td 0 40 ggL_law_X9_held_p0 (goodIn_td 40 40 ggL_law_X9_held_p1 (goodIn_td 80 40 ggL_law_X9_held_p2 (goodIn_td 120 40 ggL_law_X9_held_p3 (goodIn_td 160 40 ggL_law_X9_held_p4 (goodIn_td 200 40 ggL_law_X9_held_p5 (goodIn_td 240 40 ggL_law_X9_held_p6 (goodIn_td 280 40 ggL_law_X9_held_p7 ggL_law_X9_held_p8))))))))
set_option maxRecDepth 20000 in
theorem gL_law_X9_held : GoodIn wsL_law (wsV RL 72 RX9 yX9_held wsX9_held) := goodIn_app (goodIn_of _ (by decide +kernel)) ggL_law_X9_held

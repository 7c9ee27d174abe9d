theorem ggL_law_X9_fresh : GoodIn wsL_law wsX9_fresh := (goodIn_td 0 40 ggL_law_X9_fresh_p0 (goodIn_td 40 40 ggL_law_X9_fresh_p1 (goodIn_td 80 40 ggL_law_X9_fresh_p2 (goodIn_td 120 40 ggL_law_X9_fresh_p3 (goodIn_td 160 40 ggL_law_X9_fresh_p4 (goodIn_td 200 40 ggL_law_X9_fresh_p5 (goodIn_td 240 40 ggL_law_X9_fresh_p6 (goodIn_td 280 40 ggL_law_X9_fresh_p7 (goodIn_td 320 40 ggL_law_X9_fresh_p8 ggL_law_X9_fresh_p9)))))))))
set_option maxRecDepth 20000 in
theorem gL_law_X9_fresh : GoodIn wsL_law (wsV RL 76 RX9 yX9_fresh wsX9_fresh) := goodIn_app (goodIn_of _ (by decide +kernel)) ggL_law_X9_fresh

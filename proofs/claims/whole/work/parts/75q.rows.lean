theorem ggL_law_X9_leads : GoodIn wsL_law wsX9_leads := (goodIn_td 0 40 ggL_law_X9_leads_p0 (goodIn_td 40 40 ggL_law_X9_leads_p1 (goodIn_td 80 40 ggL_law_X9_leads_p2 (goodIn_td 120 40 ggL_law_X9_leads_p3 ggL_law_X9_leads_p4))))
set_option maxRecDepth 20000 in
theorem gL_law_X9_leads : GoodIn wsL_law (wsV RL 51 RX9 yX9_leads wsX9_leads) := goodIn_app (goodIn_of _ (by decide +kernel)) ggL_law_X9_leads

set_option maxRecDepth 20000 in
theorem gL_law_L_isKept : GoodIn wsL_law (va_wsS RL 124 yL_isKept wsL_isKept) := goodIn_app (goodIn_of _ (by decide +kernel)) ggL_law_L_isKept

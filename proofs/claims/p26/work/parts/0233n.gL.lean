set_option maxRecDepth 20000 in
theorem gL_isSo_X4_count : GoodIn wsL_isSo (wsV RL 123 RX4 yX4_count wsX4_count) := goodIn_app (goodIn_of _ (by decide +kernel)) ggL_isSo_X4_count
set_option maxRecDepth 20000 in
theorem ggL_isSo_L_wrong : GoodIn wsL_isSo wsL_wrong := goodIn_r _ [196, 127, 128, 4, 129, 130, 131, 132, 133, 134, 135, 136, 117, 118, 119, 120, 114, 115, 116, 121, 122, 123, 124, 125, 126] (by decide +kernel) (by decide +kernel)
set_option maxRecDepth 20000 in
theorem gL_isSo_L_wrong : GoodIn wsL_isSo (va_wsS RL 107 yL_wrong wsL_wrong) := goodIn_app (goodIn_of _ (by decide +kernel)) ggL_isSo_L_wrong

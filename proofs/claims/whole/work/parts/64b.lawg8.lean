set_option maxRecDepth 20000 in
theorem ggL_law_X7_digest : GoodIn wsL_law wsX7_digest := goodIn_r _ [902, 178, 903, 904, 792, 79, 192, 905, 906, 907, 5, 908, 909, 910, 911, 912, 913, 263, 264, 265, 204, 205, 206, 207, 320, 321, 322, 562, 563, 564, 565, 498, 499, 500, 501, 506, 507, 508, 919, 920, 921, 922, 923, 924, 925, 926, 927, 928] (by decide +kernel) (by decide +kernel)
set_option maxRecDepth 20000 in
theorem gL_law_X7_digest : GoodIn wsL_law (wsV RL 206 RX7 yX7_digest wsX7_digest) := goodIn_app (goodIn_of _ (by decide +kernel)) ggL_law_X7_digest

set_option maxRecDepth 20000 in
theorem ggL_law_X7_digest : GoodIn wsL_law wsX7_digest := goodIn_r _ [906, 178, 907, 908, 796, 79, 192, 909, 910, 911, 5, 912, 913, 914, 915, 916, 917, 263, 264, 265, 204, 205, 206, 207, 320, 321, 322, 567, 568, 569, 570, 506, 507, 508, 509, 514, 515, 516, 923, 924, 925, 926, 927, 928, 929, 930, 931, 932] (by decide +kernel) (by decide +kernel)
set_option maxRecDepth 20000 in
theorem gL_law_X7_digest : GoodIn wsL_law (wsV RL 206 RX7 yX7_digest wsX7_digest) := goodIn_app (goodIn_of _ (by decide +kernel)) ggL_law_X7_digest

set_option maxRecDepth 20000 in
theorem ggL_law_X7_lose : GoodIn wsL_law wsX7_lose := goodIn_r _ [530, 178, 531, 532, 533, 5, 534, 79, 185, 186, 187, 188, 189, 190, 191, 192, 82, 193, 194, 195, 498, 499, 500, 501, 506, 507, 508, 535, 536, 537, 538, 919, 920, 921, 922, 923, 924, 925, 926, 927, 928] (by decide +kernel) (by decide +kernel)
set_option maxRecDepth 20000 in
theorem gL_law_X7_lose : GoodIn wsL_law (wsV RL 134 RX7 yX7_lose wsX7_lose) := goodIn_app (goodIn_of _ (by decide +kernel)) ggL_law_X7_lose
set_option maxRecDepth 20000 in
theorem ggL_law_X6_underWay : GoodIn wsL_law wsX6_underWay := goodIn_r _ [542, 16, 516, 521, 914, 915, 916, 917, 918, 929, 930, 931, 932, 933, 943, 944, 945, 946] (by decide +kernel) (by decide +kernel)
set_option maxRecDepth 20000 in
theorem gL_law_X6_underWay : GoodIn wsL_law (wsV RL 135 RX6 yX6_underWay wsX6_underWay) := goodIn_app (goodIn_of _ (by decide +kernel)) ggL_law_X6_underWay
set_option maxRecDepth 20000 in
theorem ggL_law_X7_underWay : GoodIn wsL_law wsX7_underWay := goodIn_r _ [546, 178, 79, 919, 920, 921, 922, 923, 924, 925, 926, 927, 928] (by decide +kernel) (by decide +kernel)
set_option maxRecDepth 20000 in
theorem gL_law_X7_underWay : GoodIn wsL_law (wsV RL 138 RX7 yX7_underWay wsX7_underWay) := goodIn_app (goodIn_of _ (by decide +kernel)) ggL_law_X7_underWay
set_option maxRecDepth 20000 in
theorem ggL_law_L_message : GoodIn wsL_law wsL_message := goodIn_ca (goodIn_ca (goodIn_r _ [549, 88, 89, 550, 551, 552, 2, 553, 16, 516, 517, 518, 519, 520, 102, 103, 521, 448, 449, 450, 97, 98, 554, 555, 556, 40, 557, 68, 475, 476, 477, 478, 141, 526, 484, 485, 914, 915, 916, 917, 918, 929, 930, 931, 932, 933, 943, 944, 945, 946] (by decide +kernel) (by decide +kernel)) (goodIn_sub (fun _ h => List.mem_append_left _ (List.mem_append_right _ h)) (by decide +kernel))) (goodIn_sub (fun _ h => List.mem_append_left _ (List.mem_append_left _ (List.mem_append_right _ h))) (by decide +kernel))
set_option maxRecDepth 20000 in
theorem gL_law_L_message : GoodIn wsL_law (va_wsS RL 139 yL_message wsL_message) := goodIn_app (goodIn_of _ (by decide +kernel)) ggL_law_L_message
set_option maxRecDepth 20000 in
theorem ggL_law_X7_message : GoodIn wsL_law wsX7_message := goodIn_r _ [561, 178, 531, 532, 533, 5, 534, 79, 185, 186, 187, 562, 563, 564, 565, 498, 499, 500, 501, 506, 507, 508, 919, 920, 921, 922, 923, 924, 925, 926, 927, 928] (by decide +kernel) (by decide +kernel)
set_option maxRecDepth 20000 in
theorem gL_law_X7_message : GoodIn wsL_law (wsV RL 141 RX7 yX7_message wsX7_message) := goodIn_app (goodIn_of _ (by decide +kernel)) ggL_law_X7_message
set_option maxRecDepth 20000 in
theorem ggL_law_L_count : GoodIn wsL_law wsL_count := goodIn_ca (goodIn_r _ [568, 89, 569, 570, 571, 2, 572, 16, 516, 573, 448, 449, 450, 97, 98, 914, 915, 916, 917, 918, 929, 930, 931, 932, 933, 943, 944, 945, 946] (by decide +kernel) (by decide +kernel)) (goodIn_sub (fun _ h => List.mem_append_left _ (List.mem_append_left _ (List.mem_append_right _ h))) (by decide +kernel))
set_option maxRecDepth 20000 in
theorem gL_law_L_count : GoodIn wsL_law (va_wsS RL 142 yL_count wsL_count) := goodIn_app (goodIn_of _ (by decide +kernel)) ggL_law_L_count
set_option maxRecDepth 20000 in
theorem ggL_law_X7_count : GoodIn wsL_law wsX7_count := goodIn_r _ [577, 178, 79, 185, 186, 5, 187, 919, 920, 921, 922, 923, 924, 925, 926, 927, 928] (by decide +kernel) (by decide +kernel)
set_option maxRecDepth 20000 in
theorem gL_law_X7_count : GoodIn wsL_law (wsV RL 144 RX7 yX7_count wsX7_count) := goodIn_app (goodIn_of _ (by decide +kernel)) ggL_law_X7_count
set_option maxRecDepth 20000 in
theorem ggL_law_L_entry : GoodIn wsL_law wsL_entry := goodIn_ca (goodIn_ca (goodIn_r _ [580, 88, 89, 581, 582, 583, 2, 584, 16, 585, 94, 95, 96, 97, 98, 99, 100, 101, 102, 103, 586, 587, 588, 32, 589, 53, 914, 915, 916, 917, 918, 929, 930, 931, 932, 933, 939, 940, 941] (by decide +kernel) (by decide +kernel)) (goodIn_sub (fun _ h => List.mem_append_left _ (List.mem_append_left _ (List.mem_append_right _ h))) (by decide +kernel))) (goodIn_sub (fun _ h => List.mem_append_left _ (List.mem_append_right _ h)) (by decide +kernel))
set_option maxRecDepth 20000 in
theorem gL_law_L_entry : GoodIn wsL_law (va_wsS RL 145 yL_entry wsL_entry) := goodIn_app (goodIn_of _ (by decide +kernel)) ggL_law_L_entry

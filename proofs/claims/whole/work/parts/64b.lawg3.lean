set_option maxRecDepth 20000 in
theorem ggL_law_X7_lose : GoodIn wsL_law wsX7_lose := goodIn_r _ [538, 178, 539, 540, 541, 5, 542, 79, 185, 186, 187, 188, 189, 190, 191, 192, 82, 193, 194, 195, 506, 507, 508, 509, 514, 515, 516, 543, 544, 545, 546, 923, 924, 925, 926, 927, 928, 929, 930, 931, 932] (by decide +kernel) (by decide +kernel)
set_option maxRecDepth 20000 in
theorem gL_law_X7_lose : GoodIn wsL_law (wsV RL 134 RX7 yX7_lose wsX7_lose) := goodIn_app (goodIn_of _ (by decide +kernel)) ggL_law_X7_lose
set_option maxRecDepth 20000 in
theorem ggL_law_X6_underWay : GoodIn wsL_law wsX6_underWay := goodIn_r _ [550, 16, 524, 529, 918, 919, 920, 921, 922, 933, 934, 935, 936, 937, 947, 948, 949, 950] (by decide +kernel) (by decide +kernel)
set_option maxRecDepth 20000 in
theorem gL_law_X6_underWay : GoodIn wsL_law (wsV RL 135 RX6 yX6_underWay wsX6_underWay) := goodIn_app (goodIn_of _ (by decide +kernel)) ggL_law_X6_underWay
set_option maxRecDepth 20000 in
theorem ggL_law_X7_underWay : GoodIn wsL_law wsX7_underWay := goodIn_r _ [554, 178, 79, 923, 924, 925, 926, 927, 928, 929, 930, 931, 932] (by decide +kernel) (by decide +kernel)
set_option maxRecDepth 20000 in
theorem gL_law_X7_underWay : GoodIn wsL_law (wsV RL 138 RX7 yX7_underWay wsX7_underWay) := goodIn_app (goodIn_of _ (by decide +kernel)) ggL_law_X7_underWay
set_option maxRecDepth 20000 in
theorem ggL_law_L_message : GoodIn wsL_law wsL_message := goodIn_ca (goodIn_ca (goodIn_r _ [557, 88, 89, 558, 559, 560, 2, 561, 16, 524, 525, 526, 527, 528, 102, 103, 529, 448, 449, 450, 97, 98, 562, 476, 477, 40, 478, 68, 479, 480, 481, 482, 141, 483, 484, 485, 486, 534, 492, 493, 918, 919, 920, 921, 922, 933, 934, 935, 936, 937, 947, 948, 949, 950] (by decide +kernel) (by decide +kernel)) (goodIn_sub (fun _ h => List.mem_append_left _ (List.mem_append_right _ h)) (by decide +kernel))) (goodIn_sub (fun _ h => List.mem_append_left _ (List.mem_append_left _ (List.mem_append_right _ h))) (by decide +kernel))
set_option maxRecDepth 20000 in
theorem gL_law_L_message : GoodIn wsL_law (va_wsS RL 139 yL_message wsL_message) := goodIn_app (goodIn_of _ (by decide +kernel)) ggL_law_L_message
set_option maxRecDepth 20000 in
theorem ggL_law_X7_message : GoodIn wsL_law wsX7_message := goodIn_r _ [566, 178, 539, 540, 541, 5, 542, 79, 185, 186, 187, 567, 568, 569, 570, 506, 507, 508, 509, 514, 515, 516, 923, 924, 925, 926, 927, 928, 929, 930, 931, 932] (by decide +kernel) (by decide +kernel)
set_option maxRecDepth 20000 in
theorem gL_law_X7_message : GoodIn wsL_law (wsV RL 141 RX7 yX7_message wsX7_message) := goodIn_app (goodIn_of _ (by decide +kernel)) ggL_law_X7_message
set_option maxRecDepth 20000 in
theorem ggL_law_L_count : GoodIn wsL_law wsL_count := goodIn_ca (goodIn_r _ [573, 89, 574, 575, 576, 2, 577, 16, 524, 578, 448, 449, 450, 97, 98, 918, 919, 920, 921, 922, 933, 934, 935, 936, 937, 947, 948, 949, 950] (by decide +kernel) (by decide +kernel)) (goodIn_sub (fun _ h => List.mem_append_left _ (List.mem_append_left _ (List.mem_append_right _ h))) (by decide +kernel))
set_option maxRecDepth 20000 in
theorem gL_law_L_count : GoodIn wsL_law (va_wsS RL 142 yL_count wsL_count) := goodIn_app (goodIn_of _ (by decide +kernel)) ggL_law_L_count
set_option maxRecDepth 20000 in
theorem ggL_law_X7_count : GoodIn wsL_law wsX7_count := goodIn_r _ [582, 178, 79, 185, 186, 5, 187, 923, 924, 925, 926, 927, 928, 929, 930, 931, 932] (by decide +kernel) (by decide +kernel)
set_option maxRecDepth 20000 in
theorem gL_law_X7_count : GoodIn wsL_law (wsV RL 144 RX7 yX7_count wsX7_count) := goodIn_app (goodIn_of _ (by decide +kernel)) ggL_law_X7_count
set_option maxRecDepth 20000 in
theorem ggL_law_L_entry : GoodIn wsL_law wsL_entry := goodIn_ca (goodIn_ca (goodIn_r _ [585, 88, 89, 586, 587, 588, 2, 589, 16, 590, 94, 95, 96, 97, 98, 99, 100, 101, 102, 103, 591, 592, 593, 32, 594, 53, 918, 919, 920, 921, 922, 933, 934, 935, 936, 937, 943, 944, 945] (by decide +kernel) (by decide +kernel)) (goodIn_sub (fun _ h => List.mem_append_left _ (List.mem_append_left _ (List.mem_append_right _ h))) (by decide +kernel))) (goodIn_sub (fun _ h => List.mem_append_left _ (List.mem_append_right _ h)) (by decide +kernel))
set_option maxRecDepth 20000 in
theorem gL_law_L_entry : GoodIn wsL_law (va_wsS RL 145 yL_entry wsL_entry) := goodIn_app (goodIn_of _ (by decide +kernel)) ggL_law_L_entry

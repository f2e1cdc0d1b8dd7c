set_option maxRecDepth 20000 in
theorem ggL_law_X7_entry : GoodIn wsL_law wsX7_entry := goodIn_r _ [593, 178, 179, 180, 5, 181, 182, 183, 184, 185, 186, 187, 204, 205, 206, 207, 79, 919, 920, 921, 922, 923, 924, 925, 926, 927, 928] (by decide +kernel) (by decide +kernel)
set_option maxRecDepth 20000 in
theorem gL_law_X7_entry : GoodIn wsL_law (wsV RL 147 RX7 yX7_entry wsX7_entry) := goodIn_app (goodIn_of _ (by decide +kernel)) ggL_law_X7_entry
set_option maxRecDepth 20000 in
theorem ggL_law_L_version : GoodIn wsL_law wsL_version := goodIn_ca (goodIn_ca (goodIn_r _ [596, 88, 89, 597, 598, 599, 2, 600, 16, 585, 99, 100, 101, 102, 103, 601, 602, 603, 32, 604, 55, 94, 95, 96, 97, 98, 605, 606, 607, 608, 54, 914, 915, 916, 917, 918, 929, 930, 931, 932, 933, 939, 940, 941] (by decide +kernel) (by decide +kernel)) (goodIn_sub (fun _ h => List.mem_append_left _ (List.mem_append_right _ h)) (by decide +kernel))) (goodIn_sub (fun _ h => List.mem_append_left _ (List.mem_append_left _ (List.mem_append_right _ h))) (by decide +kernel))
set_option maxRecDepth 20000 in
theorem gL_law_L_version : GoodIn wsL_law (va_wsS RL 148 yL_version wsL_version) := goodIn_app (goodIn_of _ (by decide +kernel)) ggL_law_L_version
set_option maxRecDepth 20000 in
theorem ggL_law_X7_version : GoodIn wsL_law wsX7_version := goodIn_r _ [612, 178, 79, 182, 183, 5, 184, 185, 186, 187, 179, 180, 181, 919, 920, 921, 922, 923, 924, 925, 926, 927, 928] (by decide +kernel) (by decide +kernel)
set_option maxRecDepth 20000 in
theorem gL_law_X7_version : GoodIn wsL_law (wsV RL 150 RX7 yX7_version wsX7_version) := goodIn_app (goodIn_of _ (by decide +kernel)) ggL_law_X7_version
set_option maxRecDepth 20000 in
theorem ggL_law_L_changedSince : GoodIn wsL_law wsL_changedSince := goodIn_ca (goodIn_ca (goodIn_r _ [615, 88, 89, 616, 617, 618, 2, 619, 97, 98, 16, 585, 99, 100, 101, 102, 103, 620, 621, 622, 32, 623, 54, 914, 915, 916, 917, 918, 929, 930, 931, 932, 933, 939, 940, 941] (by decide +kernel) (by decide +kernel)) (goodIn_sub (fun _ h => List.mem_append_left _ (List.mem_append_left _ (List.mem_append_right _ h))) (by decide +kernel))) (goodIn_sub (fun _ h => List.mem_append_left _ (List.mem_append_right _ h)) (by decide +kernel))
set_option maxRecDepth 20000 in
theorem gL_law_L_changedSince : GoodIn wsL_law (va_wsS RL 151 yL_changedSince wsL_changedSince) := goodIn_app (goodIn_of _ (by decide +kernel)) ggL_law_L_changedSince
set_option maxRecDepth 20000 in
theorem ggL_law_X7_changedSince : GoodIn wsL_law wsX7_changedSince := goodIn_r _ [627, 178, 79, 182, 183, 5, 184, 185, 186, 187, 919, 920, 921, 922, 923, 924, 925, 926, 927, 928] (by decide +kernel) (by decide +kernel)
set_option maxRecDepth 20000 in
theorem gL_law_X7_changedSince : GoodIn wsL_law (wsV RL 153 RX7 yX7_changedSince wsX7_changedSince) := goodIn_app (goodIn_of _ (by decide +kernel)) ggL_law_X7_changedSince
set_option maxRecDepth 20000 in
theorem ggL_law_L_view : GoodIn wsL_law wsL_view := goodIn_ca (goodIn_ca (goodIn_r _ [630, 88, 89, 631, 632, 633, 2, 634, 16, 635, 361, 362, 363, 102, 103, 99, 100, 101, 94, 95, 96, 97, 98, 636, 637, 638, 36, 639, 60, 914, 915, 916, 917, 918, 929, 930, 931, 932, 933, 942] (by decide +kernel) (by decide +kernel)) (goodIn_sub (fun _ h => List.mem_append_left _ (List.mem_append_right _ h)) (by decide +kernel))) (goodIn_sub (fun _ h => List.mem_append_left _ (List.mem_append_left _ (List.mem_append_right _ h))) (by decide +kernel))
set_option maxRecDepth 20000 in
theorem gL_law_L_view : GoodIn wsL_law (va_wsS RL 154 yL_view wsL_view) := goodIn_app (goodIn_of _ (by decide +kernel)) ggL_law_L_view
set_option maxRecDepth 20000 in
theorem ggL_law_X7_view : GoodIn wsL_law wsX7_view := goodIn_r _ [643, 178, 79, 182, 183, 5, 184, 185, 186, 187, 386, 387, 388, 320, 321, 322, 919, 920, 921, 922, 923, 924, 925, 926, 927, 928] (by decide +kernel) (by decide +kernel)
set_option maxRecDepth 20000 in
theorem gL_law_X7_view : GoodIn wsL_law (wsV RL 156 RX7 yX7_view wsX7_view) := goodIn_app (goodIn_of _ (by decide +kernel)) ggL_law_X7_view
set_option maxRecDepth 20000 in
theorem ggL_law_L_areApart : GoodIn wsL_law wsL_areApart := goodIn_ca (goodIn_ca (goodIn_r _ [646, 88, 89, 647, 648, 649, 2, 650, 16, 94, 95, 96, 97, 98, 99, 100, 101, 102, 103, 651, 164, 165, 15, 166, 43, 914, 915, 916, 917, 918, 929, 930, 931, 932, 933] (by decide +kernel) (by decide +kernel)) (goodIn_sub (fun _ h => List.mem_append_left _ (List.mem_append_left _ (List.mem_append_right _ h))) (by decide +kernel))) (goodIn_sub (fun _ h => List.mem_append_left _ (List.mem_append_right _ h)) (by decide +kernel))
set_option maxRecDepth 20000 in
theorem gL_law_L_areApart : GoodIn wsL_law (va_wsS RL 157 yL_areApart wsL_areApart) := goodIn_app (goodIn_of _ (by decide +kernel)) ggL_law_L_areApart

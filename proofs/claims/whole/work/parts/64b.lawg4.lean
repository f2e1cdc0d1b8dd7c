set_option maxRecDepth 20000 in
theorem ggL_law_X7_entry : GoodIn wsL_law wsX7_entry := goodIn_r _ [598, 178, 179, 180, 5, 181, 182, 183, 184, 185, 186, 187, 204, 205, 206, 207, 79, 923, 924, 925, 926, 927, 928, 929, 930, 931, 932] (by decide +kernel) (by decide +kernel)
set_option maxRecDepth 20000 in
theorem gL_law_X7_entry : GoodIn wsL_law (wsV RL 147 RX7 yX7_entry wsX7_entry) := goodIn_app (goodIn_of _ (by decide +kernel)) ggL_law_X7_entry
set_option maxRecDepth 20000 in
theorem ggL_law_L_version : GoodIn wsL_law wsL_version := goodIn_ca (goodIn_ca (goodIn_r _ [601, 88, 89, 602, 603, 604, 2, 605, 16, 590, 99, 100, 101, 102, 103, 606, 607, 608, 32, 609, 55, 94, 95, 96, 97, 98, 610, 611, 612, 613, 54, 918, 919, 920, 921, 922, 933, 934, 935, 936, 937, 943, 944, 945] (by decide +kernel) (by decide +kernel)) (goodIn_sub (fun _ h => List.mem_append_left _ (List.mem_append_right _ h)) (by decide +kernel))) (goodIn_sub (fun _ h => List.mem_append_left _ (List.mem_append_left _ (List.mem_append_right _ h))) (by decide +kernel))
set_option maxRecDepth 20000 in
theorem gL_law_L_version : GoodIn wsL_law (va_wsS RL 148 yL_version wsL_version) := goodIn_app (goodIn_of _ (by decide +kernel)) ggL_law_L_version
set_option maxRecDepth 20000 in
theorem ggL_law_X7_version : GoodIn wsL_law wsX7_version := goodIn_r _ [617, 178, 79, 182, 183, 5, 184, 185, 186, 187, 179, 180, 181, 923, 924, 925, 926, 927, 928, 929, 930, 931, 932] (by decide +kernel) (by decide +kernel)
set_option maxRecDepth 20000 in
theorem gL_law_X7_version : GoodIn wsL_law (wsV RL 150 RX7 yX7_version wsX7_version) := goodIn_app (goodIn_of _ (by decide +kernel)) ggL_law_X7_version
set_option maxRecDepth 20000 in
theorem ggL_law_L_changedSince : GoodIn wsL_law wsL_changedSince := goodIn_ca (goodIn_ca (goodIn_r _ [620, 88, 89, 621, 622, 623, 2, 624, 97, 98, 16, 590, 99, 100, 101, 102, 103, 625, 626, 627, 32, 628, 54, 918, 919, 920, 921, 922, 933, 934, 935, 936, 937, 943, 944, 945] (by decide +kernel) (by decide +kernel)) (goodIn_sub (fun _ h => List.mem_append_left _ (List.mem_append_left _ (List.mem_append_right _ h))) (by decide +kernel))) (goodIn_sub (fun _ h => List.mem_append_left _ (List.mem_append_right _ h)) (by decide +kernel))
set_option maxRecDepth 20000 in
theorem gL_law_L_changedSince : GoodIn wsL_law (va_wsS RL 151 yL_changedSince wsL_changedSince) := goodIn_app (goodIn_of _ (by decide +kernel)) ggL_law_L_changedSince
set_option maxRecDepth 20000 in
theorem ggL_law_X7_changedSince : GoodIn wsL_law wsX7_changedSince := goodIn_r _ [632, 178, 79, 182, 183, 5, 184, 185, 186, 187, 923, 924, 925, 926, 927, 928, 929, 930, 931, 932] (by decide +kernel) (by decide +kernel)
set_option maxRecDepth 20000 in
theorem gL_law_X7_changedSince : GoodIn wsL_law (wsV RL 153 RX7 yX7_changedSince wsX7_changedSince) := goodIn_app (goodIn_of _ (by decide +kernel)) ggL_law_X7_changedSince
set_option maxRecDepth 20000 in
theorem ggL_law_L_view : GoodIn wsL_law wsL_view := goodIn_ca (goodIn_ca (goodIn_r _ [635, 88, 89, 636, 637, 638, 2, 639, 16, 640, 361, 362, 363, 102, 103, 99, 100, 101, 94, 95, 96, 97, 98, 641, 642, 643, 36, 644, 60, 918, 919, 920, 921, 922, 933, 934, 935, 936, 937, 946] (by decide +kernel) (by decide +kernel)) (goodIn_sub (fun _ h => List.mem_append_left _ (List.mem_append_right _ h)) (by decide +kernel))) (goodIn_sub (fun _ h => List.mem_append_left _ (List.mem_append_left _ (List.mem_append_right _ h))) (by decide +kernel))
set_option maxRecDepth 20000 in
theorem gL_law_L_view : GoodIn wsL_law (va_wsS RL 154 yL_view wsL_view) := goodIn_app (goodIn_of _ (by decide +kernel)) ggL_law_L_view
set_option maxRecDepth 20000 in
theorem ggL_law_X7_view : GoodIn wsL_law wsX7_view := goodIn_r _ [648, 178, 79, 182, 183, 5, 184, 185, 186, 187, 386, 387, 388, 320, 321, 322, 923, 924, 925, 926, 927, 928, 929, 930, 931, 932] (by decide +kernel) (by decide +kernel)
set_option maxRecDepth 20000 in
theorem gL_law_X7_view : GoodIn wsL_law (wsV RL 156 RX7 yX7_view wsX7_view) := goodIn_app (goodIn_of _ (by decide +kernel)) ggL_law_X7_view
set_option maxRecDepth 20000 in
theorem ggL_law_L_areApart : GoodIn wsL_law wsL_areApart := goodIn_ca (goodIn_ca (goodIn_r _ [651, 88, 89, 652, 653, 654, 2, 655, 16, 94, 95, 96, 97, 98, 99, 100, 101, 102, 103, 656, 164, 165, 15, 166, 43, 918, 919, 920, 921, 922, 933, 934, 935, 936, 937] (by decide +kernel) (by decide +kernel)) (goodIn_sub (fun _ h => List.mem_append_left _ (List.mem_append_left _ (List.mem_append_right _ h))) (by decide +kernel))) (goodIn_sub (fun _ h => List.mem_append_left _ (List.mem_append_right _ h)) (by decide +kernel))
set_option maxRecDepth 20000 in
theorem gL_law_L_areApart : GoodIn wsL_law (va_wsS RL 157 yL_areApart wsL_areApart) := goodIn_app (goodIn_of _ (by decide +kernel)) ggL_law_L_areApart

set_option maxRecDepth 20000 in
theorem ggL_law_X7_areApart : GoodIn wsL_law wsX7_areApart := goodIn_r _ [660, 178, 179, 180, 5, 181, 182, 183, 184, 185, 186, 187, 216, 217, 218, 219, 79, 923, 924, 925, 926, 927, 928, 929, 930, 931, 932] (by decide +kernel) (by decide +kernel)
set_option maxRecDepth 20000 in
theorem gL_law_X7_areApart : GoodIn wsL_law (wsV RL 159 RX7 yX7_areApart wsX7_areApart) := goodIn_app (goodIn_of _ (by decide +kernel)) ggL_law_X7_areApart
set_option maxRecDepth 20000 in
theorem ggL_law_L_agree : GoodIn wsL_law wsL_agree := goodIn_ca (goodIn_ca (goodIn_r _ [663, 88, 89, 664, 665, 666, 2, 667, 16, 590, 94, 95, 96, 97, 98, 99, 100, 101, 102, 103, 668, 669, 670, 32, 671, 53, 918, 919, 920, 921, 922, 933, 934, 935, 936, 937, 943, 944, 945] (by decide +kernel) (by decide +kernel)) (goodIn_sub (fun _ h => List.mem_append_left _ (List.mem_append_left _ (List.mem_append_right _ h))) (by decide +kernel))) (goodIn_sub (fun _ h => List.mem_append_left _ (List.mem_append_right _ h)) (by decide +kernel))
set_option maxRecDepth 20000 in
theorem gL_law_L_agree : GoodIn wsL_law (va_wsS RL 160 yL_agree wsL_agree) := goodIn_app (goodIn_of _ (by decide +kernel)) ggL_law_L_agree
set_option maxRecDepth 20000 in
theorem ggL_law_X7_agree : GoodIn wsL_law wsX7_agree := goodIn_r _ [675, 178, 179, 180, 5, 181, 182, 183, 184, 185, 186, 187, 676, 677, 678, 679, 200, 201, 202, 203, 204, 205, 206, 207, 79, 923, 924, 925, 926, 927, 928, 929, 930, 931, 932] (by decide +kernel) (by decide +kernel)
set_option maxRecDepth 20000 in
theorem gL_law_X7_agree : GoodIn wsL_law (wsV RL 162 RX7 yX7_agree wsX7_agree) := goodIn_app (goodIn_of _ (by decide +kernel)) ggL_law_X7_agree
set_option maxRecDepth 20000 in
theorem ggL_law_X6_agreeing : GoodIn wsL_law wsX6_agreeing := goodIn_r _ [683, 16, 590, 684, 685, 686, 32, 687, 688, 669, 670, 671, 53, 918, 919, 920, 921, 922, 933, 934, 935, 936, 937, 943, 944, 945] (by decide +kernel) (by decide +kernel)
set_option maxRecDepth 20000 in
theorem gL_law_X6_agreeing : GoodIn wsL_law (wsV RL 163 RX6 yX6_agreeing wsX6_agreeing) := goodIn_app (goodIn_of _ (by decide +kernel)) ggL_law_X6_agreeing
set_option maxRecDepth 20000 in
theorem ggL_law_X7_agreeing : GoodIn wsL_law wsX7_agreeing := goodIn_r _ [692, 178, 693, 694, 695, 5, 696, 676, 677, 678, 679, 200, 201, 202, 203, 204, 205, 206, 207, 79, 923, 924, 925, 926, 927, 928, 929, 930, 931, 932] (by decide +kernel) (by decide +kernel)
set_option maxRecDepth 20000 in
theorem gL_law_X7_agreeing : GoodIn wsL_law (wsV RL 166 RX7 yX7_agreeing wsX7_agreeing) := goodIn_app (goodIn_of _ (by decide +kernel)) ggL_law_X7_agreeing
set_option maxRecDepth 20000 in
theorem ggL_law_L_wrongViews : GoodIn wsL_law wsL_wrongViews := goodIn_ca (goodIn_r _ [699, 88, 700, 701, 702, 2, 703, 16, 99, 100, 101, 102, 103, 704, 705, 706, 15, 707, 29, 33, 37, 338, 339, 340, 28, 341, 342, 343, 344, 345, 47, 147, 148, 149, 32, 150, 53, 708, 642, 643, 36, 644, 60, 709, 710, 711, 712, 239, 240, 241, 242, 243, 244, 245, 246, 49, 918, 919, 920, 921, 922, 933, 934, 935, 936, 937, 940, 941, 942, 943, 944, 945, 946] (by decide +kernel) (by decide +kernel)) (goodIn_sub (fun _ h => List.mem_append_left _ (List.mem_append_right _ h)) (by decide +kernel))
set_option maxRecDepth 20000 in
theorem gL_law_L_wrongViews : GoodIn wsL_law (va_wsS RL 167 yL_wrongViews wsL_wrongViews) := goodIn_app (goodIn_of _ (by decide +kernel)) ggL_law_L_wrongViews
set_option maxRecDepth 20000 in
theorem ggL_law_X7_wrongViews : GoodIn wsL_law wsX7_wrongViews := goodIn_r _ [716, 178, 182, 183, 5, 184, 185, 186, 187, 717, 718, 719, 720, 79, 320, 321, 322, 259, 260, 261, 262, 263, 264, 265, 200, 201, 202, 203, 204, 205, 206, 207, 350, 351, 352, 353, 923, 924, 925, 926, 927, 928, 929, 930, 931, 932] (by decide +kernel) (by decide +kernel)
set_option maxRecDepth 20000 in
theorem gL_law_X7_wrongViews : GoodIn wsL_law (wsV RL 169 RX7 yX7_wrongViews wsX7_wrongViews) := goodIn_app (goodIn_of _ (by decide +kernel)) ggL_law_X7_wrongViews
set_option maxRecDepth 20000 in
theorem ggL_law_X6_untilRest : GoodIn wsL_law wsX6_untilRest := goodIn_r _ [724, 17, 16, 524, 529, 113, 114, 115, 15, 116, 29, 33, 37, 41, 43, 117, 118, 119, 120, 121, 122, 123, 28, 124, 47, 125, 48, 49, 126, 127, 128, 32, 129, 53, 130, 54, 55, 131, 132, 133, 36, 134, 60, 135, 136, 137, 138, 40, 139, 68, 140, 69, 141, 142, 466, 467, 468, 469, 470, 471, 472, 473, 474, 475, 476, 477, 478, 479, 480, 481, 482, 483, 484, 485, 486, 487, 488, 489, 490, 491, 492, 493, 163, 164, 165, 166, 147, 148, 149, 150, 155, 156, 157, 158, 159, 160, 161, 162, 167, 168, 169, 170, 171, 172, 173, 235, 236, 237, 238, 239, 240, 241, 242, 243, 244, 245, 246, 151, 152, 153, 154, 277, 278, 279, 280, 304, 305, 306, 307, 338, 339, 340, 341, 342, 343, 344, 345, 494, 495, 496, 497, 918, 919, 920, 921, 922, 933, 934, 935, 936, 937, 947, 948, 949, 950, 940, 941, 942, 943, 944, 945, 946] (by decide +kernel) (by decide +kernel)
set_option maxRecDepth 20000 in
theorem gL_law_X6_untilRest : GoodIn wsL_law (wsV RL 170 RX6 yX6_untilRest wsX6_untilRest) := goodIn_app (goodIn_of _ (by decide +kernel)) ggL_law_X6_untilRest

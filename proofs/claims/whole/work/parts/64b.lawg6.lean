set_option maxRecDepth 20000 in
theorem ggL_law_X7_untilRest : GoodIn wsL_law wsX7_untilRest := goodIn_r _ [728, 178, 79, 80, 193, 194, 5, 195, 729, 730, 731, 732, 502, 503, 504, 505, 506, 507, 508, 509, 510, 511, 512, 513, 514, 515, 516, 204, 205, 206, 207, 200, 201, 202, 203, 216, 217, 218, 219, 212, 213, 214, 215, 255, 256, 257, 258, 259, 260, 261, 262, 263, 264, 265, 208, 209, 210, 211, 289, 290, 291, 292, 316, 317, 318, 319, 320, 321, 322, 350, 351, 352, 353, 923, 924, 925, 926, 927, 928, 929, 930, 931, 932] (by decide +kernel) (by decide +kernel)
set_option maxRecDepth 20000 in
theorem gL_law_X7_untilRest : GoodIn wsL_law (wsV RL 173 RX7 yX7_untilRest wsX7_untilRest) := goodIn_app (goodIn_of _ (by decide +kernel)) ggL_law_X7_untilRest
set_option maxRecDepth 20000 in
theorem ggL_law_X6_agreeingAtRest : GoodIn wsL_law wsX6_agreeingAtRest := goodIn_r _ [736, 17, 16, 113, 114, 115, 15, 116, 29, 33, 37, 41, 43, 117, 118, 119, 120, 121, 122, 123, 28, 124, 47, 125, 48, 49, 126, 127, 128, 32, 129, 53, 130, 54, 55, 131, 132, 133, 36, 134, 60, 135, 136, 137, 138, 40, 139, 68, 140, 69, 141, 142, 737, 738, 739, 740, 470, 741, 467, 468, 469, 471, 472, 473, 474, 475, 476, 477, 478, 479, 480, 481, 482, 483, 484, 485, 486, 487, 488, 489, 490, 491, 492, 493, 163, 164, 165, 166, 147, 148, 149, 150, 155, 156, 157, 158, 159, 160, 161, 162, 167, 168, 169, 170, 171, 172, 173, 235, 236, 237, 238, 239, 240, 241, 242, 243, 244, 245, 246, 151, 152, 153, 154, 277, 278, 279, 280, 304, 305, 306, 307, 338, 339, 340, 341, 342, 343, 344, 345, 494, 495, 496, 497, 742, 685, 686, 687, 688, 669, 670, 671, 918, 919, 920, 921, 922, 933, 934, 935, 936, 937, 940, 941, 942, 943, 944, 945, 946, 947, 948, 949, 950] (by decide +kernel) (by decide +kernel)
set_option maxRecDepth 20000 in
theorem gL_law_X6_agreeingAtRest : GoodIn wsL_law (wsV RL 174 RX6 yX6_agreeingAtRest wsX6_agreeingAtRest) := goodIn_app (goodIn_of _ (by decide +kernel)) ggL_law_X6_agreeingAtRest
set_option maxRecDepth 20000 in
theorem ggL_law_X7_agreeingAtRest : GoodIn wsL_law wsX7_agreeingAtRest := goodIn_r _ [746, 178, 79, 80, 193, 194, 5, 195, 729, 730, 731, 732, 502, 503, 504, 505, 506, 507, 508, 509, 510, 511, 512, 513, 514, 515, 516, 204, 205, 206, 207, 200, 201, 202, 203, 216, 217, 218, 219, 212, 213, 214, 215, 255, 256, 257, 258, 259, 260, 261, 262, 263, 264, 265, 208, 209, 210, 211, 289, 290, 291, 292, 316, 317, 318, 319, 320, 321, 322, 350, 351, 352, 353, 693, 694, 695, 696, 676, 677, 678, 679, 923, 924, 925, 926, 927, 928, 929, 930, 931, 932] (by decide +kernel) (by decide +kernel)
set_option maxRecDepth 20000 in
theorem gL_law_X7_agreeingAtRest : GoodIn wsL_law (wsV RL 177 RX7 yX7_agreeingAtRest wsX7_agreeingAtRest) := goodIn_app (goodIn_of _ (by decide +kernel)) ggL_law_X7_agreeingAtRest
set_option maxRecDepth 20000 in
theorem ggL_law_X6_mostNeeded : GoodIn wsL_law wsX6_mostNeeded := goodIn_r _ [750, 17, 16, 524, 529, 113, 114, 115, 15, 116, 29, 33, 37, 41, 43, 117, 118, 119, 120, 121, 122, 123, 28, 124, 47, 125, 48, 49, 126, 127, 128, 32, 129, 53, 130, 54, 55, 131, 132, 133, 36, 134, 60, 135, 136, 137, 138, 40, 139, 68, 140, 69, 141, 142, 737, 738, 739, 740, 470, 741, 467, 468, 469, 471, 472, 473, 474, 475, 476, 477, 478, 479, 480, 481, 482, 483, 484, 485, 486, 487, 488, 489, 490, 491, 492, 493, 163, 164, 165, 166, 147, 148, 149, 150, 155, 156, 157, 158, 159, 160, 161, 162, 167, 168, 169, 170, 171, 172, 173, 235, 236, 237, 238, 239, 240, 241, 242, 243, 244, 245, 246, 151, 152, 153, 154, 277, 278, 279, 280, 304, 305, 306, 307, 338, 339, 340, 341, 342, 343, 344, 345, 494, 495, 496, 497, 742, 685, 686, 687, 688, 669, 670, 671, 751, 752, 753, 754, 755, 530, 531, 532, 533, 918, 919, 920, 921, 922, 933, 934, 935, 936, 937, 947, 948, 949, 950, 940, 941, 942, 943, 944, 945, 946] (by decide +kernel) (by decide +kernel)
set_option maxRecDepth 20000 in
theorem gL_law_X6_mostNeeded : GoodIn wsL_law (wsV RL 178 RX6 yX6_mostNeeded wsX6_mostNeeded) := goodIn_app (goodIn_of _ (by decide +kernel)) ggL_law_X6_mostNeeded
set_option maxRecDepth 20000 in
theorem ggL_law_X7_mostNeeded : GoodIn wsL_law wsX7_mostNeeded := goodIn_r _ [759, 178, 79, 80, 193, 194, 5, 195, 543, 544, 545, 546, 506, 507, 508, 509, 729, 730, 731, 732, 502, 503, 504, 505, 510, 511, 512, 513, 514, 515, 516, 204, 205, 206, 207, 200, 201, 202, 203, 216, 217, 218, 219, 212, 213, 214, 215, 255, 256, 257, 258, 259, 260, 261, 262, 263, 264, 265, 208, 209, 210, 211, 289, 290, 291, 292, 316, 317, 318, 319, 320, 321, 322, 350, 351, 352, 353, 693, 694, 695, 696, 676, 677, 678, 679, 923, 924, 925, 926, 927, 928, 929, 930, 931, 932] (by decide +kernel) (by decide +kernel)
set_option maxRecDepth 20000 in
theorem gL_law_X7_mostNeeded : GoodIn wsL_law (wsV RL 181 RX7 yX7_mostNeeded wsX7_mostNeeded) := goodIn_app (goodIn_of _ (by decide +kernel)) ggL_law_X7_mostNeeded
set_option maxRecDepth 20000 in
theorem ggL_law_X6_visible : GoodIn wsL_law wsX6_visible := goodIn_r _ [763, 16, 640, 764, 765, 766, 767, 36, 768, 769, 770, 771, 772, 773, 642, 643, 644, 60, 918, 919, 920, 921, 922, 933, 934, 935, 936, 937, 946] (by decide +kernel) (by decide +kernel)
set_option maxRecDepth 20000 in
theorem gL_law_X6_visible : GoodIn wsL_law (wsV RL 182 RX6 yX6_visible wsX6_visible) := goodIn_app (goodIn_of _ (by decide +kernel)) ggL_law_X6_visible
set_option maxRecDepth 20000 in
theorem ggL_law_X7_visible : GoodIn wsL_law wsX7_visible := goodIn_r _ [777, 178, 79, 778, 320, 321, 5, 322, 923, 924, 925, 926, 927, 928, 929, 930, 931, 932] (by decide +kernel) (by decide +kernel)
set_option maxRecDepth 20000 in
theorem gL_law_X7_visible : GoodIn wsL_law (wsV RL 186 RX7 yX7_visible wsX7_visible) := goodIn_app (goodIn_of _ (by decide +kernel)) ggL_law_X7_visible
set_option maxRecDepth 20000 in
theorem ggL_law_L_append : GoodIn wsL_law wsL_append := goodIn_ca (goodIn_ca (goodIn_r _ [781, 89, 400, 782, 783, 784, 2, 785, 97, 98, 405, 406, 21, 786, 787, 788, 789, 20, 790, 74, 791, 918, 919, 920, 921, 922, 938, 939] (by decide +kernel) (by decide +kernel)) (goodIn_sub (fun _ h => List.mem_append_left _ (List.mem_append_left _ (List.mem_append_right _ h))) (by decide +kernel))) (goodIn_sub (fun _ h => List.mem_append_right _ h) (by decide +kernel))
set_option maxRecDepth 20000 in
theorem gL_law_L_append : GoodIn wsL_law (va_wsS RL 187 yL_append wsL_append) := goodIn_app (goodIn_of _ (by decide +kernel)) ggL_law_L_append

set_option maxRecDepth 20000 in
theorem ggL_law_X7_append : GoodIn wsL_law wsX7_append := goodIn_r _ [795, 796, 178, 83, 185, 186, 5, 187, 923, 924, 925, 926, 927, 928, 929, 930, 931, 932] (by decide +kernel) (by decide +kernel)
set_option maxRecDepth 20000 in
theorem gL_law_X7_append : GoodIn wsL_law (wsV RL 189 RX7 yX7_append wsX7_append) := goodIn_app (goodIn_of _ (by decide +kernel)) ggL_law_X7_append
set_option maxRecDepth 20000 in
theorem ggL_law_X6_clearText : GoodIn wsL_law wsX6_clearText := goodIn_r _ [800, 21, 786, 918, 919, 920, 921, 922, 938, 939] (by decide +kernel) (by decide +kernel)
set_option maxRecDepth 20000 in
theorem gL_law_X6_clearText : GoodIn wsL_law (wsV RL 190 RX6 yX6_clearText wsX6_clearText) := goodIn_app (goodIn_of _ (by decide +kernel)) ggL_law_X6_clearText
set_option maxRecDepth 20000 in
theorem ggL_law_X7_clearText : GoodIn wsL_law wsX7_clearText := goodIn_r _ [804, 178, 796, 923, 924, 925, 926, 927, 928, 929, 930, 931, 932] (by decide +kernel) (by decide +kernel)
set_option maxRecDepth 20000 in
theorem gL_law_X7_clearText : GoodIn wsL_law (wsV RL 193 RX7 yX7_clearText wsX7_clearText) := goodIn_app (goodIn_of _ (by decide +kernel)) ggL_law_X7_clearText
set_option maxRecDepth 20000 in
theorem ggL_law_X6_carryOut : GoodIn wsL_law wsX6_carryOut := goodIn_r _ [808, 21, 17, 16, 809, 810, 811, 20, 812, 791, 813, 814, 815, 816, 74, 817, 818, 819, 820, 821, 822, 823, 824, 825, 826, 827, 828, 829, 830, 831, 832, 833, 113, 114, 115, 15, 116, 29, 33, 37, 41, 43, 117, 118, 119, 120, 121, 122, 123, 28, 124, 47, 125, 48, 49, 126, 127, 128, 32, 129, 53, 130, 54, 55, 131, 132, 133, 36, 134, 60, 135, 136, 137, 138, 40, 139, 68, 140, 69, 141, 142, 834, 835, 836, 837, 838, 839, 840, 2, 841, 842, 843, 143, 144, 145, 146, 147, 148, 149, 150, 151, 152, 153, 154, 155, 156, 157, 158, 159, 160, 161, 162, 163, 164, 165, 166, 167, 168, 169, 170, 171, 172, 173, 231, 232, 233, 234, 235, 236, 237, 238, 239, 240, 241, 242, 243, 244, 245, 246, 273, 274, 275, 276, 277, 278, 279, 280, 300, 301, 302, 303, 304, 305, 306, 307, 364, 365, 366, 367, 338, 339, 340, 341, 342, 343, 344, 345, 368, 369, 370, 371, 372, 373, 374, 375, 376, 377, 378, 379, 380, 381, 409, 410, 411, 412, 413, 414, 415, 416, 466, 467, 468, 469, 470, 471, 472, 473, 474, 475, 476, 477, 478, 479, 480, 481, 482, 483, 484, 485, 486, 487, 488, 489, 490, 491, 492, 493, 494, 495, 496, 497, 104, 105, 106, 107, 108, 22, 109, 110, 111, 112, 918, 919, 920, 921, 922, 938, 939, 933, 934, 935, 936, 937, 940, 941, 942, 943, 944, 945, 946, 947, 948, 949, 950] (by decide +kernel) (by decide +kernel)
set_option maxRecDepth 20000 in
theorem gL_law_X6_carryOut : GoodIn wsL_law (wsV RL 194 RX6 yX6_carryOut wsX6_carryOut) := goodIn_app (goodIn_of _ (by decide +kernel)) ggL_law_X6_carryOut
set_option maxRecDepth 20000 in
theorem ggL_law_X7_carryOut : GoodIn wsL_law wsX7_carryOut := goodIn_r _ [847, 178, 848, 79, 81, 796, 80, 849, 850, 851, 5, 852, 853, 854, 855, 856, 83, 857, 858, 859, 860, 861, 862, 863, 185, 186, 187, 193, 194, 195, 864, 865, 866, 867, 196, 197, 198, 199, 200, 201, 202, 203, 204, 205, 206, 207, 208, 209, 210, 211, 212, 213, 214, 215, 216, 217, 218, 219, 251, 252, 253, 254, 255, 256, 257, 258, 259, 260, 261, 262, 263, 264, 265, 285, 286, 287, 288, 289, 290, 291, 292, 312, 313, 314, 315, 316, 317, 318, 319, 320, 321, 322, 389, 390, 391, 392, 350, 351, 352, 353, 393, 394, 395, 396, 421, 422, 423, 424, 502, 503, 504, 505, 506, 507, 508, 509, 510, 511, 512, 513, 514, 515, 516, 188, 189, 190, 191, 192, 82, 923, 924, 925, 926, 927, 928, 929, 930, 931, 932] (by decide +kernel) (by decide +kernel)
set_option maxRecDepth 20000 in
theorem gL_law_X7_carryOut : GoodIn wsL_law (wsV RL 197 RX7 yX7_carryOut wsX7_carryOut) := goodIn_app (goodIn_of _ (by decide +kernel)) ggL_law_X7_carryOut
set_option maxRecDepth 20000 in
theorem ggL_law_L_undo : GoodIn wsL_law wsL_undo := goodIn_ca (goodIn_r _ [870, 400, 871, 872, 873, 2, 874, 405, 406, 108, 16, 22, 113, 114, 115, 15, 116, 29, 33, 37, 41, 43, 117, 118, 119, 120, 121, 122, 123, 28, 124, 47, 125, 48, 49, 126, 127, 128, 32, 129, 53, 130, 54, 55, 131, 132, 133, 36, 134, 60, 135, 136, 137, 138, 40, 139, 68, 140, 69, 141, 142, 918, 919, 920, 921, 922, 933, 934, 935, 936, 937, 940, 941, 942, 943, 944, 945, 946, 947, 948, 949, 950] (by decide +kernel) (by decide +kernel)) (goodIn_sub (fun _ h => List.mem_append_right _ h) (by decide +kernel))
set_option maxRecDepth 20000 in
theorem gL_law_L_undo : GoodIn wsL_law (va_wsS RL 198 yL_undo wsL_undo) := goodIn_app (goodIn_of _ (by decide +kernel)) ggL_law_L_undo
set_option maxRecDepth 20000 in
theorem ggL_law_X7_undo : GoodIn wsL_law wsX7_undo := goodIn_r _ [878, 192, 178, 82, 79, 193, 194, 5, 195, 923, 924, 925, 926, 927, 928, 929, 930, 931, 932] (by decide +kernel) (by decide +kernel)
set_option maxRecDepth 20000 in
theorem gL_law_X7_undo : GoodIn wsL_law (wsV RL 201 RX7 yX7_undo wsX7_undo) := goodIn_app (goodIn_of _ (by decide +kernel)) ggL_law_X7_undo
set_option maxRecDepth 20000 in
theorem ggL_law_X6_digest : GoodIn wsL_law wsX6_digest := goodIn_r _ [882, 883, 21, 786, 16, 524, 884, 108, 885, 886, 887, 15, 888, 889, 33, 29, 890, 607, 608, 32, 609, 55, 891, 452, 453, 28, 454, 47, 48, 49, 892, 893, 894, 895, 43, 37, 896, 592, 593, 594, 53, 897, 611, 612, 613, 54, 708, 642, 643, 36, 644, 60, 898, 899, 900, 40, 901, 902, 69, 142, 475, 476, 477, 478, 68, 479, 480, 481, 482, 141, 483, 484, 485, 486, 755, 492, 493, 918, 919, 920, 921, 922, 938, 939, 933, 934, 935, 936, 937, 943, 944, 945, 940, 941, 942, 946, 947, 948, 949, 950] (by decide +kernel) (by decide +kernel)
set_option maxRecDepth 20000 in
theorem gL_law_X6_digest : GoodIn wsL_law (wsV RL 202 RX6 yX6_digest wsX6_digest) := goodIn_app (goodIn_of _ (by decide +kernel)) ggL_law_X6_digest

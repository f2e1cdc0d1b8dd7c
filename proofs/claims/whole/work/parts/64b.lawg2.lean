set_option maxRecDepth 20000 in
theorem ggL_law_X7_turnOff : GoodIn wsL_law wsX7_turnOff := goodIn_r _ [420, 178, 386, 387, 5, 388, 182, 183, 184, 185, 186, 187, 259, 260, 261, 262, 79, 263, 264, 265, 188, 189, 190, 191, 192, 82, 193, 194, 195, 421, 422, 423, 424, 200, 201, 202, 203, 204, 205, 206, 207, 212, 213, 214, 215, 216, 217, 218, 219, 350, 351, 352, 353, 393, 394, 395, 396, 316, 317, 318, 319, 320, 321, 322, 923, 924, 925, 926, 927, 928, 929, 930, 931, 932] (by decide +kernel) (by decide +kernel)
set_option maxRecDepth 20000 in
theorem gL_law_X7_turnOff : GoodIn wsL_law (wsV RL 120 RX7 yX7_turnOff wsX7_turnOff) := goodIn_app (goodIn_of _ (by decide +kernel)) ggL_law_X7_turnOff
set_option maxRecDepth 20000 in
theorem ggL_law_L_bestSeat : GoodIn wsL_law wsL_bestSeat := goodIn_ca (goodIn_r _ [427, 88, 428, 429, 430, 2, 431, 16, 407, 99, 100, 101, 102, 103, 432, 433, 434, 28, 435, 48, 436, 240, 241, 242, 47, 918, 919, 920, 921, 922, 933, 934, 935, 936, 937, 940, 941, 942] (by decide +kernel) (by decide +kernel)) (goodIn_sub (fun _ h => List.mem_append_left _ (List.mem_append_right _ h)) (by decide +kernel))
set_option maxRecDepth 20000 in
theorem gL_law_L_bestSeat : GoodIn wsL_law (va_wsS RL 121 yL_bestSeat wsL_bestSeat) := goodIn_app (goodIn_of _ (by decide +kernel)) ggL_law_L_bestSeat
set_option maxRecDepth 20000 in
theorem ggL_law_X7_bestSeat : GoodIn wsL_law wsX7_bestSeat := goodIn_r _ [440, 178, 79, 182, 183, 5, 184, 185, 186, 187, 263, 264, 265, 259, 260, 261, 262, 923, 924, 925, 926, 927, 928, 929, 930, 931, 932] (by decide +kernel) (by decide +kernel)
set_option maxRecDepth 20000 in
theorem gL_law_X7_bestSeat : GoodIn wsL_law (wsV RL 124 RX7 yX7_bestSeat wsX7_bestSeat) := goodIn_app (goodIn_of _ (by decide +kernel)) ggL_law_X7_bestSeat
set_option maxRecDepth 20000 in
theorem ggL_law_L_seat : GoodIn wsL_law wsL_seat := goodIn_ca (goodIn_ca (goodIn_r _ [443, 88, 89, 444, 445, 446, 2, 447, 16, 407, 361, 362, 363, 102, 103, 99, 100, 101, 448, 449, 450, 97, 98, 451, 452, 453, 28, 454, 47, 48, 49, 918, 919, 920, 921, 922, 933, 934, 935, 936, 937, 940, 941, 942] (by decide +kernel) (by decide +kernel)) (goodIn_sub (fun _ h => List.mem_append_left _ (List.mem_append_right _ h)) (by decide +kernel))) (goodIn_sub (fun _ h => List.mem_append_left _ (List.mem_append_left _ (List.mem_append_right _ h))) (by decide +kernel))
set_option maxRecDepth 20000 in
theorem gL_law_L_seat : GoodIn wsL_law (va_wsS RL 125 yL_seat wsL_seat) := goodIn_app (goodIn_of _ (by decide +kernel)) ggL_law_L_seat
set_option maxRecDepth 20000 in
theorem ggL_law_X7_seat : GoodIn wsL_law wsX7_seat := goodIn_r _ [458, 178, 79, 386, 387, 5, 388, 182, 183, 184, 185, 186, 187, 263, 264, 265, 923, 924, 925, 926, 927, 928, 929, 930, 931, 932] (by decide +kernel) (by decide +kernel)
set_option maxRecDepth 20000 in
theorem gL_law_X7_seat : GoodIn wsL_law (wsV RL 128 RX7 yX7_seat wsX7_seat) := goodIn_app (goodIn_of _ (by decide +kernel)) ggL_law_X7_seat
set_option maxRecDepth 20000 in
theorem ggL_law_L_deliver : GoodIn wsL_law wsL_deliver := goodIn_ca (goodIn_r _ [461, 89, 462, 463, 464, 2, 465, 97, 98, 16, 104, 105, 106, 107, 108, 22, 109, 110, 111, 112, 113, 114, 115, 15, 116, 29, 33, 37, 41, 43, 117, 118, 119, 120, 121, 122, 123, 28, 124, 47, 125, 48, 49, 126, 127, 128, 32, 129, 53, 130, 54, 55, 131, 132, 133, 36, 134, 60, 135, 136, 137, 138, 40, 139, 68, 140, 69, 141, 142, 466, 467, 468, 469, 470, 471, 472, 473, 474, 475, 476, 477, 478, 479, 480, 481, 482, 483, 484, 485, 486, 487, 488, 489, 490, 491, 492, 493, 163, 164, 165, 166, 147, 148, 149, 150, 155, 156, 157, 158, 159, 160, 161, 162, 167, 168, 169, 170, 171, 172, 173, 235, 236, 237, 238, 239, 240, 241, 242, 243, 244, 245, 246, 151, 152, 153, 154, 277, 278, 279, 280, 304, 305, 306, 307, 338, 339, 340, 341, 342, 343, 344, 345, 494, 495, 496, 497, 918, 919, 920, 921, 922, 933, 934, 935, 936, 937, 940, 941, 942, 943, 944, 945, 946, 947, 948, 949, 950] (by decide +kernel) (by decide +kernel)) (goodIn_sub (fun _ h => List.mem_append_left _ (List.mem_append_left _ (List.mem_append_right _ h))) (by decide +kernel))
set_option maxRecDepth 20000 in
theorem gL_law_L_deliver : GoodIn wsL_law (va_wsS RL 129 yL_deliver wsL_deliver) := goodIn_app (goodIn_of _ (by decide +kernel)) ggL_law_L_deliver
set_option maxRecDepth 20000 in
theorem ggL_law_X7_deliver : GoodIn wsL_law wsX7_deliver := goodIn_r _ [501, 178, 185, 186, 5, 187, 188, 189, 190, 191, 192, 82, 79, 193, 194, 195, 502, 503, 504, 505, 506, 507, 508, 509, 510, 511, 512, 513, 514, 515, 516, 204, 205, 206, 207, 200, 201, 202, 203, 216, 217, 218, 219, 212, 213, 214, 215, 255, 256, 257, 258, 259, 260, 261, 262, 263, 264, 265, 208, 209, 210, 211, 289, 290, 291, 292, 316, 317, 318, 319, 320, 321, 322, 350, 351, 352, 353, 923, 924, 925, 926, 927, 928, 929, 930, 931, 932] (by decide +kernel) (by decide +kernel)
set_option maxRecDepth 20000 in
theorem gL_law_X7_deliver : GoodIn wsL_law (wsV RL 131 RX7 yX7_deliver wsX7_deliver) := goodIn_app (goodIn_of _ (by decide +kernel)) ggL_law_X7_deliver
set_option maxRecDepth 20000 in
theorem ggL_law_L_lose : GoodIn wsL_law wsL_lose := goodIn_ca (goodIn_r _ [519, 88, 520, 521, 522, 2, 523, 16, 524, 525, 526, 527, 528, 102, 103, 529, 104, 105, 106, 107, 108, 22, 109, 110, 111, 112, 113, 114, 115, 15, 116, 29, 33, 37, 41, 43, 117, 118, 119, 120, 121, 122, 123, 28, 124, 47, 125, 48, 49, 126, 127, 128, 32, 129, 53, 130, 54, 55, 131, 132, 133, 36, 134, 60, 135, 136, 137, 138, 40, 139, 68, 140, 69, 141, 142, 530, 531, 532, 533, 475, 476, 477, 478, 479, 480, 481, 482, 483, 484, 485, 486, 534, 492, 493, 918, 919, 920, 921, 922, 933, 934, 935, 936, 937, 947, 948, 949, 950, 940, 941, 942, 943, 944, 945, 946] (by decide +kernel) (by decide +kernel)) (goodIn_sub (fun _ h => List.mem_append_left _ (List.mem_append_right _ h)) (by decide +kernel))
set_option maxRecDepth 20000 in
theorem gL_law_L_lose : GoodIn wsL_law (va_wsS RL 132 yL_lose wsL_lose) := goodIn_app (goodIn_of _ (by decide +kernel)) ggL_law_L_lose

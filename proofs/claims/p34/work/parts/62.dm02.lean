set_option maxRecDepth 20000 in
theorem gr_refuses_16 : GoodIn wsL_law wsL_refuses_r16 := goodIn_r _ [411, 412, 413, 414, 415, 416, 417, 418, 419, 420, 421, 422, 423, 424, 425, 426, 427, 428, 429, 430, 431, 432, 433, 434] (by decide +kernel) (by decide +kernel)
set_option maxRecDepth 20000 in
theorem gr_refuses_17 : GoodIn wsL_law wsL_refuses_r17 := goodIn_r _ [435, 436, 437, 438, 439, 440, 441, 442, 443, 444, 445, 446, 447, 448, 449, 450, 451, 452, 453, 454, 455, 456, 457, 458] (by decide +kernel) (by decide +kernel)
set_option maxRecDepth 20000 in
theorem gr_refuses_18 : GoodIn wsL_law wsL_refuses_r18 := goodIn_r _ [459, 460, 461, 462, 463, 464, 465, 466, 467, 468, 469, 470, 471, 472, 473, 474, 475, 476, 477, 478, 479, 480, 481, 482] (by decide +kernel) (by decide +kernel)
set_option maxRecDepth 20000 in
theorem gr_refuses_19 : GoodIn wsL_law wsL_refuses_r19 := goodIn_r _ [483, 484, 485, 486, 487, 488, 489, 490, 491, 492, 493, 494, 495, 496, 497, 498, 499, 500, 501, 502, 503, 504, 505, 506] (by decide +kernel) (by decide +kernel)
set_option maxRecDepth 20000 in
theorem gr_refuses_20 : GoodIn wsL_law wsL_refuses_r20 := goodIn_r _ [507, 16, 508, 70, 509] (by decide +kernel) (by decide +kernel)

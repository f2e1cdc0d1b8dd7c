set_option maxRecDepth 20000 in
theorem gr_act_8 : GoodIn wsL_law wsL_act_r8 := goodIn_r _ [261, 262, 263, 264, 265, 266, 267, 268, 269, 270, 271, 272, 273, 297, 298, 299, 300, 301, 302, 303, 304, 305, 306, 307] (by decide +kernel) (by decide +kernel)
set_option maxRecDepth 20000 in
theorem gr_act_9 : GoodIn wsL_law wsL_act_r9 := goodIn_r _ [308, 309, 310, 289, 290, 291, 292, 293, 294, 295, 296, 311, 312, 313, 314, 315, 316, 317, 318, 319, 320, 321, 322, 323] (by decide +kernel) (by decide +kernel)
set_option maxRecDepth 20000 in
theorem gr_act_10 : GoodIn wsL_law wsL_act_r10 := goodIn_r _ [324, 357, 358, 359, 360, 361, 362, 363, 335, 364, 365, 366, 367, 94, 95, 96, 325, 326, 327, 328, 329, 330, 331, 332] (by decide +kernel) (by decide +kernel)
set_option maxRecDepth 20000 in
theorem gr_act_11 : GoodIn wsL_law wsL_act_r11 := goodIn_r _ [333, 334, 336, 337, 338, 339, 340, 341, 342, 343, 344, 274, 275, 276, 277, 278, 279, 280, 281, 282, 283, 284, 285, 286] (by decide +kernel) (by decide +kernel)
set_option maxRecDepth 20000 in
theorem gr_act_12 : GoodIn wsL_law wsL_act_r12 := goodIn_r _ [287, 288, 464, 465, 466, 467, 468, 469, 470, 471, 551, 552, 553, 554, 81, 404, 410, 411, 412, 413, 414, 415, 416, 400] (by decide +kernel) (by decide +kernel)
set_option maxRecDepth 20000 in
theorem gr_act_13 : GoodIn wsL_law wsL_act_r13 := goodIn_r _ [401, 402, 403, 417, 120, 121, 122, 123, 124, 125, 126, 128, 129, 130, 131, 409, 133, 134, 393, 394, 395, 396, 397, 398] (by decide +kernel) (by decide +kernel)
set_option maxRecDepth 20000 in
theorem gr_act_14 : GoodIn wsL_law wsL_act_r14 := goodIn_r _ [399, 405, 406, 407, 408, 119, 368, 369, 370, 371, 372, 373, 374, 375, 376, 377, 378, 379, 380, 381, 382, 383, 384, 385] (by decide +kernel) (by decide +kernel)
set_option maxRecDepth 20000 in
theorem gr_act_15 : GoodIn wsL_law wsL_act_r15 := goodIn_r _ [386, 387, 388, 389, 390, 391, 392] (by decide +kernel) (by decide +kernel)

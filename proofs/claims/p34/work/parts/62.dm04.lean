set_option maxRecDepth 20000 in
theorem gr_act_0 : GoodIn wsL_law [Cond.code yL_act cL_act 12 (some .int)] := goodIn_r _ [546] rfl (by decide +kernel)
set_option maxRecDepth 20000 in
theorem gr_act_1 : GoodIn wsL_law wsL_act_r1 := goodIn_r _ [547, 548, 73, 549, 550, 426, 427, 428, 138, 139, 429, 430, 431, 2, 432, 12, 433, 144, 145, 146, 147, 148, 149, 150] (by decide +kernel) (by decide +kernel)
set_option maxRecDepth 20000 in
theorem gr_act_2 : GoodIn wsL_law wsL_act_r2 := goodIn_r _ [151, 152, 153, 434, 102, 103, 28, 104, 49, 135, 136, 137, 140, 141, 142, 143, 154, 155, 156, 157, 83, 18, 158, 159] (by decide +kernel) (by decide +kernel)
set_option maxRecDepth 20000 in
theorem gr_act_3 : GoodIn wsL_law wsL_act_r3 := goodIn_r _ [160, 161, 162, 163, 164, 11, 165, 25, 29, 33, 37, 39, 166, 167, 168, 169, 170, 171, 172, 24, 173, 43, 174, 44] (by decide +kernel) (by decide +kernel)
set_option maxRecDepth 20000 in
theorem gr_act_4 : GoodIn wsL_law wsL_act_r4 := goodIn_r _ [45, 175, 176, 177, 178, 179, 50, 51, 180, 181, 182, 32, 183, 56, 184, 185, 186, 187, 36, 188, 64, 189, 65, 127] (by decide +kernel) (by decide +kernel)
set_option maxRecDepth 20000 in
theorem gr_act_5 : GoodIn wsL_law wsL_act_r5 := goodIn_r _ [118, 190, 191, 192, 193, 194, 195, 196, 197, 198, 199, 200, 201, 202, 203, 204, 205, 206, 207, 208, 209, 210, 211, 212] (by decide +kernel) (by decide +kernel)
set_option maxRecDepth 20000 in
theorem gr_act_6 : GoodIn wsL_law wsL_act_r6 := goodIn_r _ [213, 214, 215, 216, 217, 218, 219, 220, 221, 222, 223, 224, 225, 226, 227, 228, 229, 230, 231, 232, 233, 234, 235, 236] (by decide +kernel) (by decide +kernel)
set_option maxRecDepth 20000 in
theorem gr_act_7 : GoodIn wsL_law wsL_act_r7 := goodIn_r _ [237, 238, 239, 240, 241, 242, 243, 244, 245, 246, 247, 248, 249, 250, 251, 252, 253, 254, 255, 256, 257, 258, 259, 260] (by decide +kernel) (by decide +kernel)

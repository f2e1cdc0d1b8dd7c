set_option maxRecDepth 20000 in
theorem gr_refuses_0 : GoodIn wsL_law [Cond.code yL_refuses cL_refuses 4 (some .boolean)] := goodIn_r _ [74] rfl (by decide +kernel)
set_option maxRecDepth 20000 in
theorem gr_refuses_1 : GoodIn wsL_law wsL_refuses_r1 := goodIn_r _ [75, 76, 77, 2, 78, 79, 17, 80, 12, 81, 82, 83, 84, 85, 86, 11, 87, 88, 29, 25, 89, 90, 91, 28] (by decide +kernel) (by decide +kernel)
set_option maxRecDepth 20000 in
theorem gr_refuses_2 : GoodIn wsL_law wsL_refuses_r2 := goodIn_r _ [92, 51, 93, 94, 95, 24, 96, 43, 44, 45, 97, 98, 99, 100, 39, 33, 101, 102, 103, 104, 49, 105, 106, 107] (by decide +kernel) (by decide +kernel)
set_option maxRecDepth 20000 in
theorem gr_refuses_3 : GoodIn wsL_law wsL_refuses_r3 := goodIn_r _ [108, 50, 109, 110, 111, 32, 112, 56, 113, 114, 115, 36, 116, 117, 65, 118, 119, 120, 121, 122, 64, 123, 124, 125] (by decide +kernel) (by decide +kernel)
set_option maxRecDepth 20000 in
theorem gr_refuses_4 : GoodIn wsL_law wsL_refuses_r4 := goodIn_r _ [126, 127, 128, 129, 130, 131, 132, 133, 134, 135, 136, 73, 137, 138, 139, 140, 141, 142, 143, 144, 145, 146, 147, 148] (by decide +kernel) (by decide +kernel)
set_option maxRecDepth 20000 in
theorem gr_refuses_5 : GoodIn wsL_law wsL_refuses_r5 := goodIn_r _ [149, 150, 151, 152, 153, 154, 155, 156, 157, 18, 158, 159, 160, 161, 162, 163, 164, 165, 37, 166, 167, 168, 169, 170] (by decide +kernel) (by decide +kernel)
set_option maxRecDepth 20000 in
theorem gr_refuses_6 : GoodIn wsL_law wsL_refuses_r6 := goodIn_r _ [171, 172, 173, 174, 175, 176, 177, 178, 179, 180, 181, 182, 183, 184, 185, 186, 187, 188, 189, 190, 191, 192, 193, 194] (by decide +kernel) (by decide +kernel)
set_option maxRecDepth 20000 in
theorem gr_refuses_7 : GoodIn wsL_law wsL_refuses_r7 := goodIn_r _ [195, 196, 197, 198, 199, 200, 201, 202, 203, 204, 205, 206, 207, 208, 209, 210, 211, 212, 213, 214, 215, 216, 217, 218] (by decide +kernel) (by decide +kernel)

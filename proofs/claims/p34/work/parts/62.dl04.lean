theorem dL_rests_65 : decode cL_rests 65 = .ok (.if_icmp .ne 16, 3) := by decide +kernel
theorem dL_rests_68 : decode cL_rests 68 = .ok (.aload_n 0, 1) := by decide +kernel
theorem dL_rests_69 : decode cL_rests 69 = .ok (.iconst 1, 1) := by decide +kernel
theorem dL_rests_70 : decode cL_rests 70 = .ok (.invokestatic 139, 3) := by decide +kernel
theorem dL_rests_73 : decode cL_rests 73 = .ok (.iload 4, 2) := by decide +kernel
theorem dL_rests_75 : decode cL_rests 75 = .ok (.iload 5, 2) := by decide +kernel
theorem dL_rests_77 : decode cL_rests 77 = .ok (.iadd, 1) := by decide +kernel
theorem dL_rests_78 : decode cL_rests 78 = .ok (.if_icmp .eq 5, 3) := by decide +kernel
theorem dL_rests_81 : decode cL_rests 81 = .ok (.iconst 0, 1) := by decide +kernel
theorem dL_rests_82 : decode cL_rests 82 = .ok (.ireturn, 1) := by decide +kernel
theorem dL_rests_83 : decode cL_rests 83 = .ok (.aload_n 0, 1) := by decide +kernel
theorem dL_rests_84 : decode cL_rests 84 = .ok (.invokestatic 143, 3) := by decide +kernel
theorem dL_rests_87 : decode cL_rests 87 = .ok (.ifCond .lt 25, 3) := by decide +kernel
theorem dL_rests_90 : decode cL_rests 90 = .ok (.aload_n 0, 1) := by decide +kernel
theorem dL_rests_91 : decode cL_rests 91 = .ok (.invokevirtual 125, 3) := by decide +kernel
theorem dL_rests_94 : decode cL_rests 94 = .ok (.iload_n 1, 1) := by decide +kernel
theorem dL_rests_95 : decode cL_rests 95 = .ok (.if_icmp .ne 17, 3) := by decide +kernel
theorem dL_rests_98 : decode cL_rests 98 = .ok (.aload_n 0, 1) := by decide +kernel
theorem dL_rests_99 : decode cL_rests 99 = .ok (.iconst 1, 1) := by decide +kernel
theorem dL_rests_100 : decode cL_rests 100 = .ok (.invokestatic 139, 3) := by decide +kernel
theorem dL_rests_103 : decode cL_rests 103 = .ok (.iload 4, 2) := by decide +kernel
theorem dL_rests_105 : decode cL_rests 105 = .ok (.if_icmp .ne 7, 3) := by decide +kernel
theorem dL_rests_108 : decode cL_rests 108 = .ok (.iconst 1, 1) := by decide +kernel
theorem dL_rests_109 : decode cL_rests 109 = .ok (.goto 4, 3) := by decide +kernel
theorem dL_rests_112 : decode cL_rests 112 = .ok (.iconst 0, 1) := by decide +kernel
theorem dL_rests_113 : decode cL_rests 113 = .ok (.ireturn, 1) := by decide +kernel
set_option maxRecDepth 20000 in
theorem ggL_refuses_X6_digest : GoodIn wsL_refuses wsX6_digest := goodIn_r _ [5, 6, 7, 8, 9, 10, 11, 12, 13, 14, 15, 16, 17, 18, 19, 20, 21, 22, 23, 24, 25, 26, 27, 28, 29, 30, 31, 32, 33, 34, 35, 36, 37, 38, 39, 40, 41, 42, 43, 44, 45, 46, 47, 48, 49, 50, 51, 52, 53, 54, 55, 56, 57, 58, 59, 60, 61, 62, 63, 64, 65, 66, 67, 68, 69, 70, 71, 72, 73, 74, 75, 76, 77, 78, 79, 80, 81, 462, 463, 464, 465, 466, 467, 468, 469, 470, 471, 472, 473, 474, 475, 476, 477, 478, 479, 480, 481, 482, 483, 484] (by decide +kernel) (by decide +kernel)
set_option maxRecDepth 20000 in
theorem gL_refuses_X6_digest : GoodIn wsL_refuses (wsV RL 146 RX6 yX6_digest wsX6_digest) := goodIn_app (goodIn_of _ (by decide +kernel)) ggL_refuses_X6_digest
set_option maxRecDepth 20000 in
theorem ggL_refuses_L_ask : GoodIn wsL_refuses wsL_ask := goodIn_ca (goodIn_ca (goodIn_r _ [85, 86, 87, 88, 89, 90, 4, 91, 9, 92, 93, 94, 95, 96, 97, 98, 99, 100, 101, 102, 103, 104, 105, 12, 106, 107, 108, 109, 110, 111, 112, 113, 16, 114, 20, 19, 40, 115, 39, 116, 117, 118, 119, 120, 121, 122, 30, 123, 32, 124, 33, 34, 125, 126, 127, 24, 128, 45, 129, 50, 26, 130, 131, 132, 54, 133, 56, 134, 135, 136, 137, 60, 138, 69, 139, 63, 74, 64, 140, 141, 142, 143, 144, 145, 146, 147, 148, 149, 150, 151, 152, 153, 154, 155, 156, 157, 158, 159, 160, 161, 162, 163, 164, 165, 166, 167, 168, 169, 170, 462, 463, 464, 465, 466, 469, 470, 471, 472, 473, 477, 478, 479, 474, 475, 476, 480, 481, 482, 483, 484] (by decide +kernel) (by decide +kernel)) (goodIn_sub (fun _ h => List.mem_cons_of_mem _ (List.mem_append_left _ (List.mem_append_left _ (List.mem_append_right _ h)))) (by decide +kernel))) (goodIn_sub (fun _ h => List.mem_cons_of_mem _ (List.mem_append_left _ (List.mem_append_right _ h))) (by decide +kernel))
set_option maxRecDepth 20000 in
theorem gL_refuses_L_ask : GoodIn wsL_refuses (va_wsS RL 150 yL_ask wsL_ask) := goodIn_app (goodIn_of _ (by decide +kernel)) ggL_refuses_L_ask
set_option maxRecDepth 20000 in
theorem ggL_refuses_L_grant : GoodIn wsL_refuses wsL_grant := goodIn_ca (goodIn_ca (goodIn_r _ [173, 86, 87, 174, 175, 176, 4, 177, 9, 92, 93, 94, 95, 96, 97, 98, 99, 100, 101, 102, 103, 104, 105, 12, 106, 107, 108, 109, 110, 111, 112, 113, 16, 114, 20, 19, 40, 115, 39, 116, 117, 118, 119, 120, 121, 122, 30, 123, 32, 124, 33, 34, 125, 126, 127, 24, 128, 45, 129, 50, 26, 130, 131, 132, 54, 133, 56, 134, 135, 136, 137, 60, 138, 69, 139, 63, 74, 64, 178, 179, 180, 181, 144, 145, 146, 147, 148, 149, 150, 151, 152, 153, 154, 155, 156, 157, 158, 159, 160, 161, 162, 163, 164, 165, 166, 167, 168, 169, 170, 182, 183, 184, 185, 186, 187, 188, 189, 190, 191, 192, 193, 462, 463, 464, 465, 466, 469, 470, 471, 472, 473, 477, 478, 479, 474, 475, 476, 480, 481, 482, 483, 484] (by decide +kernel) (by decide +kernel)) (goodIn_sub (fun _ h => List.mem_cons_of_mem _ (List.mem_append_left _ (List.mem_append_left _ (List.mem_append_right _ h)))) (by decide +kernel))) (goodIn_sub (fun _ h => List.mem_cons_of_mem _ (List.mem_append_left _ (List.mem_append_right _ h))) (by decide +kernel))
set_option maxRecDepth 20000 in
theorem gL_refuses_L_grant : GoodIn wsL_refuses (va_wsS RL 152 yL_grant wsL_grant) := goodIn_app (goodIn_of _ (by decide +kernel)) ggL_refuses_L_grant
set_option maxRecDepth 20000 in
theorem ggL_refuses_L_refuse : GoodIn wsL_refuses wsL_refuse := goodIn_ca (goodIn_ca (goodIn_r _ [196, 86, 87, 197, 198, 199, 4, 200, 9, 92, 93, 94, 95, 96, 97, 98, 99, 100, 101, 102, 103, 104, 105, 12, 106, 107, 108, 109, 110, 111, 112, 113, 16, 114, 20, 19, 40, 115, 39, 116, 117, 118, 119, 120, 121, 122, 30, 123, 32, 124, 33, 34, 125, 126, 127, 24, 128, 45, 129, 50, 26, 130, 131, 132, 54, 133, 56, 134, 135, 136, 137, 60, 138, 69, 139, 63, 74, 64, 201, 202, 203, 204, 144, 145, 146, 147, 148, 149, 150, 151, 152, 153, 154, 155, 156, 157, 158, 159, 160, 161, 162, 163, 164, 165, 166, 167, 168, 169, 170, 205, 206, 207, 208, 186, 187, 188, 189, 462, 463, 464, 465, 466, 469, 470, 471, 472, 473, 477, 478, 479, 474, 475, 476, 480, 481, 482, 483, 484] (by decide +kernel) (by decide +kernel)) (goodIn_sub (fun _ h => List.mem_cons_of_mem _ (List.mem_append_left _ (List.mem_append_left _ (List.mem_append_right _ h)))) (by decide +kernel))) (goodIn_sub (fun _ h => List.mem_cons_of_mem _ (List.mem_append_left _ (List.mem_append_right _ h))) (by decide +kernel))
set_option maxRecDepth 20000 in
theorem gL_refuses_L_refuse : GoodIn wsL_refuses (va_wsS RL 154 yL_refuse wsL_refuse) := goodIn_app (goodIn_of _ (by decide +kernel)) ggL_refuses_L_refuse
set_option maxRecDepth 20000 in
theorem ggL_refuses_L_stop : GoodIn wsL_refuses wsL_stop := goodIn_ca (goodIn_ca (goodIn_r _ [211, 86, 87, 212, 213, 214, 4, 215, 9, 92, 93, 94, 95, 96, 97, 98, 99, 100, 101, 102, 103, 104, 105, 12, 106, 107, 108, 109, 110, 111, 112, 113, 16, 114, 20, 19, 40, 115, 39, 116, 117, 118, 119, 120, 121, 122, 30, 123, 32, 124, 33, 34, 125, 126, 127, 24, 128, 45, 129, 50, 26, 130, 131, 132, 54, 133, 56, 134, 135, 136, 137, 60, 138, 69, 139, 63, 74, 64, 216, 217, 218, 219, 144, 145, 146, 147, 148, 149, 150, 151, 152, 153, 154, 155, 156, 157, 158, 159, 160, 161, 162, 163, 164, 165, 166, 167, 168, 169, 170, 220, 221, 222, 223, 462, 463, 464, 465, 466, 469, 470, 471, 472, 473, 477, 478, 479, 474, 475, 476, 480, 481, 482, 483, 484] (by decide +kernel) (by decide +kernel)) (goodIn_sub (fun _ h => List.mem_cons_of_mem _ (List.mem_append_left _ (List.mem_append_left _ (List.mem_append_right _ h)))) (by decide +kernel))) (goodIn_sub (fun _ h => List.mem_cons_of_mem _ (List.mem_append_left _ (List.mem_append_right _ h))) (by decide +kernel))
set_option maxRecDepth 20000 in
theorem gL_refuses_L_stop : GoodIn wsL_refuses (va_wsS RL 156 yL_stop wsL_stop) := goodIn_app (goodIn_of _ (by decide +kernel)) ggL_refuses_L_stop
set_option maxRecDepth 20000 in
theorem ggL_refuses_L_block : GoodIn wsL_refuses wsL_block := goodIn_ca (goodIn_ca (goodIn_r _ [226, 86, 87, 227, 228, 229, 4, 230, 9, 92, 93, 94, 95, 96, 97, 98, 99, 100, 101, 102, 103, 104, 105, 12, 106, 107, 108, 109, 110, 111, 112, 113, 16, 114, 20, 19, 40, 115, 39, 116, 117, 118, 119, 120, 121, 122, 30, 123, 32, 124, 33, 34, 125, 126, 127, 24, 128, 45, 129, 50, 26, 130, 131, 132, 54, 133, 56, 134, 135, 136, 137, 60, 138, 69, 139, 63, 74, 64, 231, 232, 233, 234, 144, 145, 146, 147, 205, 206, 207, 208, 186, 187, 188, 189, 156, 157, 158, 159, 160, 161, 162, 163, 164, 165, 166, 167, 168, 169, 170, 220, 221, 222, 223, 235, 236, 237, 238, 239, 240, 241, 242, 243, 244, 245, 246, 152, 153, 154, 155, 182, 183, 184, 185, 190, 191, 192, 193, 462, 463, 464, 465, 466, 469, 470, 471, 472, 473, 477, 478, 479, 474, 475, 476, 480, 481, 482, 483, 484] (by decide +kernel) (by decide +kernel)) (goodIn_sub (fun _ h => List.mem_cons_of_mem _ (List.mem_append_left _ (List.mem_append_left _ (List.mem_append_right _ h)))) (by decide +kernel))) (goodIn_sub (fun _ h => List.mem_cons_of_mem _ (List.mem_append_left _ (List.mem_append_right _ h))) (by decide +kernel))
set_option maxRecDepth 20000 in
theorem gL_refuses_L_block : GoodIn wsL_refuses (va_wsS RL 158 yL_block wsL_block) := goodIn_app (goodIn_of _ (by decide +kernel)) ggL_refuses_L_block
set_option maxRecDepth 20000 in
theorem ggL_refuses_L_turnOn : GoodIn wsL_refuses wsL_turnOn := goodIn_ca (goodIn_ca (goodIn_r _ [249, 86, 87, 250, 251, 252, 4, 253, 95, 96, 9, 254, 255, 256, 100, 101, 97, 98, 99, 102, 103, 104, 105, 12, 106, 107, 108, 109, 110, 111, 112, 113, 16, 114, 20, 19, 40, 115, 39, 116, 117, 118, 119, 120, 121, 122, 30, 123, 32, 124, 33, 34, 125, 126, 127, 24, 128, 45, 129, 50, 26, 130, 131, 132, 54, 133, 56, 134, 135, 136, 137, 60, 138, 69, 139, 63, 74, 64, 257, 258, 259, 260, 239, 240, 241, 242, 243, 244, 245, 246, 261, 262, 263, 264, 265, 266, 267, 268, 269, 221, 222, 223, 144, 145, 146, 147, 152, 153, 154, 155, 156, 157, 158, 159, 160, 161, 162, 163, 164, 165, 166, 167, 168, 169, 170, 270, 271, 272, 273, 274, 462, 463, 464, 465, 466, 469, 470, 471, 472, 473, 477, 478, 479, 474, 475, 476, 480, 481, 482, 483, 484] (by decide +kernel) (by decide +kernel)) (goodIn_sub (fun _ h => List.mem_cons_of_mem _ (List.mem_append_left _ (List.mem_append_left _ (List.mem_append_right _ h)))) (by decide +kernel))) (goodIn_sub (fun _ h => List.mem_cons_of_mem _ (List.mem_append_left _ (List.mem_append_right _ h))) (by decide +kernel))
set_option maxRecDepth 20000 in
theorem gL_refuses_L_turnOn : GoodIn wsL_refuses (va_wsS RL 161 yL_turnOn wsL_turnOn) := goodIn_app (goodIn_of _ (by decide +kernel)) ggL_refuses_L_turnOn
set_option maxRecDepth 20000 in
theorem ggL_refuses_L_turnOff : GoodIn wsL_refuses wsL_turnOff := goodIn_ca (goodIn_ca (goodIn_r _ [277, 86, 278, 279, 280, 281, 4, 282, 283, 284, 9, 285, 254, 255, 256, 100, 101, 97, 98, 99, 286, 187, 188, 30, 189, 32, 102, 103, 104, 105, 12, 106, 107, 108, 109, 110, 111, 112, 113, 16, 114, 20, 19, 40, 115, 39, 116, 117, 118, 119, 120, 121, 122, 123, 124, 33, 34, 125, 126, 127, 24, 128, 45, 129, 50, 26, 130, 131, 132, 54, 133, 56, 134, 135, 136, 137, 60, 138, 69, 139, 63, 74, 64, 287, 288, 289, 290, 186, 291, 292, 293, 294, 270, 271, 272, 273, 144, 145, 146, 147, 156, 157, 158, 159, 160, 161, 162, 163, 164, 165, 166, 167, 168, 169, 170, 239, 240, 241, 242, 243, 244, 245, 246, 265, 266, 267, 268, 269, 221, 222, 223, 274, 462, 463, 464, 465, 466, 469, 470, 471, 472, 473, 477, 478, 479, 474, 475, 476, 480, 481, 482, 483, 484] (by decide +kernel) (by decide +kernel)) (goodIn_sub (fun _ h => List.mem_cons_of_mem _ (List.mem_append_right _ h)) (by decide +kernel))) (goodIn_sub (fun _ h => List.mem_cons_of_mem _ (List.mem_append_left _ (List.mem_append_right _ h))) (by decide +kernel))
set_option maxRecDepth 20000 in
theorem gL_refuses_L_turnOff : GoodIn wsL_refuses (va_wsS RL 164 yL_turnOff wsL_turnOff) := goodIn_app (goodIn_of _ (by decide +kernel)) ggL_refuses_L_turnOff
set_option maxRecDepth 20000 in
theorem ggL_refuses_L_bestSeat : GoodIn wsL_refuses wsL_bestSeat := goodIn_ca (goodIn_r _ [297, 86, 298, 299, 300, 4, 301, 9, 285, 97, 98, 99, 100, 101, 302, 303, 304, 30, 305, 33, 306, 187, 188, 189, 32, 462, 463, 464, 465, 466, 469, 470, 471, 472, 473, 477, 478, 479] (by decide +kernel) (by decide +kernel)) (goodIn_sub (fun _ h => List.mem_cons_of_mem _ (List.mem_append_left _ (List.mem_append_right _ h))) (by decide +kernel))
set_option maxRecDepth 20000 in
theorem gL_refuses_L_bestSeat : GoodIn wsL_refuses (va_wsS RL 112 yL_bestSeat wsL_bestSeat) := goodIn_app (goodIn_of _ (by decide +kernel)) ggL_refuses_L_bestSeat
set_option maxRecDepth 20000 in
theorem ggL_refuses_L_seat : GoodIn wsL_refuses wsL_seat := goodIn_ca (goodIn_ca (goodIn_r _ [309, 86, 87, 310, 311, 312, 4, 313, 9, 285, 254, 255, 256, 100, 101, 97, 98, 99, 314, 315, 316, 95, 96, 317, 28, 29, 30, 31, 32, 33, 34, 462, 463, 464, 465, 466, 469, 470, 471, 472, 473, 477, 478, 479] (by decide +kernel) (by decide +kernel)) (goodIn_sub (fun _ h => List.mem_cons_of_mem _ (List.mem_append_left _ (List.mem_append_right _ h))) (by decide +kernel))) (goodIn_sub (fun _ h => List.mem_cons_of_mem _ (List.mem_append_left _ (List.mem_append_left _ (List.mem_append_right _ h)))) (by decide +kernel))
set_option maxRecDepth 20000 in
theorem gL_refuses_L_seat : GoodIn wsL_refuses (va_wsS RL 109 yL_seat wsL_seat) := goodIn_app (goodIn_of _ (by decide +kernel)) ggL_refuses_L_seat
set_option maxRecDepth 20000 in
theorem ggL_refuses_L_deliver : GoodIn wsL_refuses wsL_deliver := goodIn_ca (goodIn_r _ [320, 87, 321, 322, 323, 4, 324, 95, 96, 9, 102, 103, 104, 105, 12, 106, 107, 108, 109, 110, 111, 112, 113, 16, 114, 20, 19, 40, 115, 39, 116, 117, 118, 119, 120, 121, 122, 30, 123, 32, 124, 33, 34, 125, 126, 127, 24, 128, 45, 129, 50, 26, 130, 131, 132, 54, 133, 56, 134, 135, 136, 137, 60, 138, 69, 139, 63, 74, 64, 325, 326, 327, 328, 329, 330, 331, 332, 333, 65, 66, 67, 68, 70, 71, 72, 73, 75, 76, 77, 78, 334, 335, 336, 337, 338, 80, 81, 160, 161, 162, 163, 144, 145, 146, 147, 152, 153, 154, 155, 156, 157, 158, 159, 164, 165, 166, 167, 168, 169, 170, 182, 183, 184, 185, 186, 187, 188, 189, 190, 191, 192, 193, 148, 149, 150, 151, 205, 206, 207, 208, 220, 221, 222, 223, 239, 240, 241, 242, 243, 244, 245, 246, 339, 340, 341, 342, 462, 463, 464, 465, 466, 469, 470, 471, 472, 473, 477, 478, 479, 474, 475, 476, 480, 481, 482, 483, 484] (by decide +kernel) (by decide +kernel)) (goodIn_sub (fun _ h => List.mem_cons_of_mem _ (List.mem_append_left _ (List.mem_append_left _ (List.mem_append_right _ h)))) (by decide +kernel))
set_option maxRecDepth 20000 in
theorem gL_refuses_L_deliver : GoodIn wsL_refuses (va_wsS RL 141 yL_deliver wsL_deliver) := goodIn_app (goodIn_of _ (by decide +kernel)) ggL_refuses_L_deliver
set_option maxRecDepth 20000 in
theorem ggL_refuses_L_lose : GoodIn wsL_refuses wsL_lose := goodIn_ca (goodIn_r _ [345, 86, 346, 347, 348, 4, 349, 9, 10, 350, 351, 352, 353, 100, 101, 354, 102, 103, 104, 105, 12, 106, 107, 108, 109, 110, 111, 112, 113, 16, 114, 20, 19, 40, 115, 39, 116, 117, 118, 119, 120, 121, 122, 30, 123, 32, 124, 33, 34, 125, 126, 127, 24, 128, 45, 129, 50, 26, 130, 131, 132, 54, 133, 56, 134, 135, 136, 137, 60, 138, 69, 139, 63, 74, 64, 355, 356, 357, 358, 65, 66, 67, 68, 70, 71, 72, 73, 75, 76, 77, 78, 359, 80, 81, 462, 463, 464, 465, 466, 469, 470, 471, 472, 473, 481, 482, 483, 484, 477, 478, 479, 474, 475, 476, 480] (by decide +kernel) (by decide +kernel)) (goodIn_sub (fun _ h => List.mem_cons_of_mem _ (List.mem_append_left _ (List.mem_append_right _ h))) (by decide +kernel))
set_option maxRecDepth 20000 in
theorem gL_refuses_L_lose : GoodIn wsL_refuses (va_wsS RL 166 yL_lose wsL_lose) := goodIn_app (goodIn_of _ (by decide +kernel)) ggL_refuses_L_lose
set_option maxRecDepth 20000 in
theorem ggL_refuses_L_message : GoodIn wsL_refuses wsL_message := goodIn_ca (goodIn_ca (goodIn_r _ [362, 86, 87, 363, 364, 365, 4, 366, 9, 10, 350, 351, 352, 353, 100, 101, 354, 314, 315, 316, 95, 96, 367, 66, 67, 60, 68, 69, 70, 71, 72, 73, 74, 75, 76, 77, 78, 359, 80, 81, 462, 463, 464, 465, 466, 469, 470, 471, 472, 473, 481, 482, 483, 484] (by decide +kernel) (by decide +kernel)) (goodIn_sub (fun _ h => List.mem_cons_of_mem _ (List.mem_append_left _ (List.mem_append_right _ h))) (by decide +kernel))) (goodIn_sub (fun _ h => List.mem_cons_of_mem _ (List.mem_append_left _ (List.mem_append_left _ (List.mem_append_right _ h)))) (by decide +kernel))
set_option maxRecDepth 20000 in
theorem gL_refuses_L_message : GoodIn wsL_refuses (va_wsS RL 128 yL_message wsL_message) := goodIn_app (goodIn_of _ (by decide +kernel)) ggL_refuses_L_message
set_option maxRecDepth 20000 in
theorem ggL_refuses_L_count : GoodIn wsL_refuses wsL_count := goodIn_ca (goodIn_r _ [370, 87, 371, 372, 373, 4, 374, 9, 10, 375, 314, 315, 316, 95, 96, 462, 463, 464, 465, 466, 469, 470, 471, 472, 473, 481, 482, 483, 484] (by decide +kernel) (by decide +kernel)) (goodIn_sub (fun _ h => List.mem_cons_of_mem _ (List.mem_append_left _ (List.mem_append_left _ (List.mem_append_right _ h)))) (by decide +kernel))
set_option maxRecDepth 20000 in
theorem gL_refuses_L_count : GoodIn wsL_refuses (va_wsS RL 139 yL_count wsL_count) := goodIn_app (goodIn_of _ (by decide +kernel)) ggL_refuses_L_count
set_option maxRecDepth 20000 in
theorem ggL_refuses_L_entry : GoodIn wsL_refuses wsL_entry := goodIn_ca (goodIn_ca (goodIn_r _ [378, 86, 87, 379, 380, 381, 4, 382, 9, 383, 92, 93, 94, 95, 96, 97, 98, 99, 100, 101, 384, 42, 43, 24, 44, 45, 462, 463, 464, 465, 466, 469, 470, 471, 472, 473, 474, 475, 476] (by decide +kernel) (by decide +kernel)) (goodIn_sub (fun _ h => List.mem_cons_of_mem _ (List.mem_append_left _ (List.mem_append_left _ (List.mem_append_right _ h)))) (by decide +kernel))) (goodIn_sub (fun _ h => List.mem_cons_of_mem _ (List.mem_append_left _ (List.mem_append_right _ h))) (by decide +kernel))
set_option maxRecDepth 20000 in
theorem gL_refuses_L_entry : GoodIn wsL_refuses (va_wsS RL 98 yL_entry wsL_entry) := goodIn_app (goodIn_of _ (by decide +kernel)) ggL_refuses_L_entry
set_option maxRecDepth 20000 in
theorem ggL_refuses_L_version : GoodIn wsL_refuses wsL_version := goodIn_ca (goodIn_ca (goodIn_r _ [387, 86, 87, 388, 389, 390, 4, 391, 9, 383, 97, 98, 99, 100, 101, 392, 22, 23, 24, 25, 26, 92, 93, 94, 95, 96, 393, 47, 48, 49, 50, 462, 463, 464, 465, 466, 469, 470, 471, 472, 473, 474, 475, 476] (by decide +kernel) (by decide +kernel)) (goodIn_sub (fun _ h => List.mem_cons_of_mem _ (List.mem_append_left _ (List.mem_append_right _ h))) (by decide +kernel))) (goodIn_sub (fun _ h => List.mem_cons_of_mem _ (List.mem_append_left _ (List.mem_append_left _ (List.mem_append_right _ h)))) (by decide +kernel))
set_option maxRecDepth 20000 in
theorem gL_refuses_L_version : GoodIn wsL_refuses (va_wsS RL 90 yL_version wsL_version) := goodIn_app (goodIn_of _ (by decide +kernel)) ggL_refuses_L_version
set_option maxRecDepth 20000 in
theorem ggL_refuses_L_changedSince : GoodIn wsL_refuses wsL_changedSince := goodIn_ca (goodIn_ca (goodIn_r _ [396, 86, 87, 397, 398, 399, 4, 400, 95, 96, 9, 383, 97, 98, 99, 100, 101, 401, 402, 403, 24, 404, 50, 462, 463, 464, 465, 466, 469, 470, 471, 472, 473, 474, 475, 476] (by decide +kernel) (by decide +kernel)) (goodIn_sub (fun _ h => List.mem_cons_of_mem _ (List.mem_append_left _ (List.mem_append_left _ (List.mem_append_right _ h)))) (by decide +kernel))) (goodIn_sub (fun _ h => List.mem_cons_of_mem _ (List.mem_append_left _ (List.mem_append_right _ h))) (by decide +kernel))
set_option maxRecDepth 20000 in
theorem gL_refuses_L_changedSince : GoodIn wsL_refuses (va_wsS RL 104 yL_changedSince wsL_changedSince) := goodIn_app (goodIn_of _ (by decide +kernel)) ggL_refuses_L_changedSince
set_option maxRecDepth 20000 in
theorem ggL_refuses_L_view : GoodIn wsL_refuses wsL_view := goodIn_ca (goodIn_ca (goodIn_r _ [407, 86, 87, 408, 409, 410, 4, 411, 9, 412, 254, 255, 256, 100, 101, 97, 98, 99, 92, 93, 94, 95, 96, 413, 52, 53, 54, 55, 56, 462, 463, 464, 465, 466, 469, 470, 471, 472, 473, 480] (by decide +kernel) (by decide +kernel)) (goodIn_sub (fun _ h => List.mem_cons_of_mem _ (List.mem_append_left _ (List.mem_append_right _ h))) (by decide +kernel))) (goodIn_sub (fun _ h => List.mem_cons_of_mem _ (List.mem_append_left _ (List.mem_append_left _ (List.mem_append_right _ h)))) (by decide +kernel))
set_option maxRecDepth 20000 in
theorem gL_refuses_L_view : GoodIn wsL_refuses (va_wsS RL 117 yL_view wsL_view) := goodIn_app (goodIn_of _ (by decide +kernel)) ggL_refuses_L_view
set_option maxRecDepth 20000 in
theorem ggL_refuses_L_areApart : GoodIn wsL_refuses wsL_areApart := goodIn_ca (goodIn_ca (goodIn_r _ [416, 86, 87, 417, 418, 419, 4, 420, 9, 92, 93, 94, 95, 96, 97, 98, 99, 100, 101, 421, 161, 162, 16, 163, 39, 462, 463, 464, 465, 466, 469, 470, 471, 472, 473] (by decide +kernel) (by decide +kernel)) (goodIn_sub (fun _ h => List.mem_cons_of_mem _ (List.mem_append_left _ (List.mem_append_left _ (List.mem_append_right _ h)))) (by decide +kernel))) (goodIn_sub (fun _ h => List.mem_cons_of_mem _ (List.mem_append_left _ (List.mem_append_right _ h))) (by decide +kernel))
set_option maxRecDepth 20000 in
theorem gL_refuses_L_areApart : GoodIn wsL_refuses (va_wsS RL 102 yL_areApart wsL_areApart) := goodIn_app (goodIn_of _ (by decide +kernel)) ggL_refuses_L_areApart
set_option maxRecDepth 20000 in
theorem ggL_refuses_L_agree : GoodIn wsL_refuses wsL_agree := goodIn_ca (goodIn_ca (goodIn_r _ [424, 86, 87, 425, 426, 427, 4, 428, 9, 383, 92, 93, 94, 95, 96, 97, 98, 99, 100, 101, 429, 430, 431, 24, 432, 45, 462, 463, 464, 465, 466, 469, 470, 471, 472, 473, 474, 475, 476] (by decide +kernel) (by decide +kernel)) (goodIn_sub (fun _ h => List.mem_cons_of_mem _ (List.mem_append_left _ (List.mem_append_left _ (List.mem_append_right _ h)))) (by decide +kernel))) (goodIn_sub (fun _ h => List.mem_cons_of_mem _ (List.mem_append_left _ (List.mem_append_right _ h))) (by decide +kernel))
set_option maxRecDepth 20000 in
theorem gL_refuses_L_agree : GoodIn wsL_refuses (va_wsS RL 100 yL_agree wsL_agree) := goodIn_app (goodIn_of _ (by decide +kernel)) ggL_refuses_L_agree
set_option maxRecDepth 20000 in
theorem ggL_refuses_L_wrongViews : GoodIn wsL_refuses wsL_wrongViews := goodIn_ca (goodIn_r _ [435, 86, 436, 437, 438, 4, 439, 9, 97, 98, 99, 100, 101, 440, 441, 442, 16, 443, 20, 19, 40, 239, 240, 241, 30, 242, 243, 244, 245, 246, 32, 144, 145, 146, 24, 147, 45, 51, 52, 53, 54, 55, 56, 444, 445, 446, 447, 186, 187, 188, 189, 190, 191, 192, 193, 34, 462, 463, 464, 465, 466, 469, 470, 471, 472, 473, 477, 478, 479, 474, 475, 476, 480] (by decide +kernel) (by decide +kernel)) (goodIn_sub (fun _ h => List.mem_cons_of_mem _ (List.mem_append_left _ (List.mem_append_right _ h))) (by decide +kernel))
set_option maxRecDepth 20000 in
theorem gL_refuses_L_wrongViews : GoodIn wsL_refuses (va_wsS RL 115 yL_wrongViews wsL_wrongViews) := goodIn_app (goodIn_of _ (by decide +kernel)) ggL_refuses_L_wrongViews
set_option maxRecDepth 20000 in
theorem ggL_refuses_L_append : GoodIn wsL_refuses wsL_append := goodIn_ca (goodIn_ca (goodIn_r _ [450, 87, 278, 451, 452, 453, 4, 454, 95, 96, 283, 284, 7, 8, 455, 456, 457, 458, 459, 460, 461, 462, 463, 464, 465, 466, 467, 468] (by decide +kernel) (by decide +kernel)) (goodIn_sub (fun _ h => List.mem_cons_of_mem _ (List.mem_append_left _ (List.mem_append_left _ (List.mem_append_right _ h)))) (by decide +kernel))) (goodIn_sub (fun _ h => List.mem_cons_of_mem _ (List.mem_append_right _ h)) (by decide +kernel))
set_option maxRecDepth 20000 in
theorem gL_refuses_L_append : GoodIn wsL_refuses (va_wsS RL 168 yL_append wsL_append) := goodIn_app (goodIn_of _ (by decide +kernel)) ggL_refuses_L_append
theorem dL_refuses_0 : decode cL_refuses 0 = .ok (.aload_n 0, 1) := by decide +kernel
theorem dL_refuses_1 : decode cL_refuses 1 = .ok (.invokevirtual 146, 3) := by decide +kernel
theorem dL_refuses_4 : decode cL_refuses 4 = .ok (.lstore_n 1, 1) := by decide +kernel
theorem dL_refuses_5 : decode cL_refuses 5 = .ok (.aload_n 0, 1) := by decide +kernel
theorem dL_refuses_6 : decode cL_refuses 6 = .ok (.bipush 6, 2) := by decide +kernel
theorem dL_refuses_8 : decode cL_refuses 8 = .ok (.bipush 6, 2) := by decide +kernel
theorem dL_refuses_10 : decode cL_refuses 10 = .ok (.invokestatic 150, 3) := by decide +kernel
theorem dL_refuses_13 : decode cL_refuses 13 = .ok (.sipush (-903), 3) := by decide +kernel
theorem dL_refuses_16 : decode cL_refuses 16 = .ok (.if_icmp .ne 164, 3) := by decide +kernel
theorem dL_refuses_19 : decode cL_refuses 19 = .ok (.aload_n 0, 1) := by decide +kernel
theorem dL_refuses_20 : decode cL_refuses 20 = .ok (.iconst 1, 1) := by decide +kernel
theorem dL_refuses_21 : decode cL_refuses 21 = .ok (.iconst 1, 1) := by decide +kernel
theorem dL_refuses_22 : decode cL_refuses 22 = .ok (.invokestatic 150, 3) := by decide +kernel
theorem dL_refuses_25 : decode cL_refuses 25 = .ok (.sipush (-901), 3) := by decide +kernel
theorem dL_refuses_28 : decode cL_refuses 28 = .ok (.if_icmp .ne 152, 3) := by decide +kernel
theorem dL_refuses_31 : decode cL_refuses 31 = .ok (.aload_n 0, 1) := by decide +kernel
theorem dL_refuses_32 : decode cL_refuses 32 = .ok (.iconst (-1), 1) := by decide +kernel
theorem dL_refuses_33 : decode cL_refuses 33 = .ok (.iconst 0, 1) := by decide +kernel
theorem dL_refuses_34 : decode cL_refuses 34 = .ok (.invokestatic 152, 3) := by decide +kernel
theorem dL_refuses_37 : decode cL_refuses 37 = .ok (.sipush (-903), 3) := by decide +kernel
theorem dL_refuses_40 : decode cL_refuses 40 = .ok (.if_icmp .ne 140, 3) := by decide +kernel
theorem dL_refuses_43 : decode cL_refuses 43 = .ok (.aload_n 0, 1) := by decide +kernel
theorem dL_refuses_44 : decode cL_refuses 44 = .ok (.iconst 0, 1) := by decide +kernel
theorem dL_refuses_45 : decode cL_refuses 45 = .ok (.iconst 0, 1) := by decide +kernel
theorem dL_refuses_46 : decode cL_refuses 46 = .ok (.invokestatic 154, 3) := by decide +kernel
theorem dL_refuses_49 : decode cL_refuses 49 = .ok (.sipush (-901), 3) := by decide +kernel
theorem dL_refuses_52 : decode cL_refuses 52 = .ok (.if_icmp .ne 128, 3) := by decide +kernel
theorem dL_refuses_55 : decode cL_refuses 55 = .ok (.aload_n 0, 1) := by decide +kernel
theorem dL_refuses_56 : decode cL_refuses 56 = .ok (.iconst 0, 1) := by decide +kernel
theorem dL_refuses_57 : decode cL_refuses 57 = .ok (.bipush 6, 2) := by decide +kernel
theorem dL_refuses_59 : decode cL_refuses 59 = .ok (.invokestatic 156, 3) := by decide +kernel
theorem dL_refuses_62 : decode cL_refuses 62 = .ok (.sipush (-903), 3) := by decide +kernel
theorem dL_refuses_65 : decode cL_refuses 65 = .ok (.if_icmp .ne 115, 3) := by decide +kernel
theorem dL_refuses_68 : decode cL_refuses 68 = .ok (.aload_n 0, 1) := by decide +kernel
theorem dL_refuses_69 : decode cL_refuses 69 = .ok (.iconst 2, 1) := by decide +kernel
theorem dL_refuses_70 : decode cL_refuses 70 = .ok (.iconst 2, 1) := by decide +kernel
theorem dL_refuses_71 : decode cL_refuses 71 = .ok (.iconst 1, 1) := by decide +kernel
theorem dL_refuses_72 : decode cL_refuses 72 = .ok (.invokestatic 158, 3) := by decide +kernel
theorem dL_refuses_75 : decode cL_refuses 75 = .ok (.sipush (-901), 3) := by decide +kernel
theorem dL_refuses_78 : decode cL_refuses 78 = .ok (.if_icmp .ne 102, 3) := by decide +kernel
theorem dL_refuses_81 : decode cL_refuses 81 = .ok (.aload_n 0, 1) := by decide +kernel
theorem dL_refuses_82 : decode cL_refuses 82 = .ok (.iconst 0, 1) := by decide +kernel
theorem dL_refuses_83 : decode cL_refuses 83 = .ok (.iconst 3, 1) := by decide +kernel
theorem dL_refuses_84 : decode cL_refuses 84 = .ok (.bipush 10, 2) := by decide +kernel
theorem dL_refuses_86 : decode cL_refuses 86 = .ok (.bipush 9, 2) := by decide +kernel
theorem dL_refuses_88 : decode cL_refuses 88 = .ok (.invokestatic 161, 3) := by decide +kernel
theorem dL_refuses_91 : decode cL_refuses 91 = .ok (.sipush (-903), 3) := by decide +kernel
theorem dL_refuses_94 : decode cL_refuses 94 = .ok (.if_icmp .ne 86, 3) := by decide +kernel
theorem dL_refuses_97 : decode cL_refuses 97 = .ok (.aload_n 0, 1) := by decide +kernel
theorem dL_refuses_98 : decode cL_refuses 98 = .ok (.iconst 0, 1) := by decide +kernel
theorem dL_refuses_99 : decode cL_refuses 99 = .ok (.iconst 0, 1) := by decide +kernel
theorem dL_refuses_100 : decode cL_refuses 100 = .ok (.bipush (-10), 2) := by decide +kernel
theorem dL_refuses_102 : decode cL_refuses 102 = .ok (.iconst 0, 1) := by decide +kernel
theorem dL_refuses_103 : decode cL_refuses 103 = .ok (.invokestatic 161, 3) := by decide +kernel
theorem dL_refuses_106 : decode cL_refuses 106 = .ok (.sipush (-901), 3) := by decide +kernel
theorem dL_refuses_109 : decode cL_refuses 109 = .ok (.if_icmp .ne 71, 3) := by decide +kernel
theorem dL_refuses_112 : decode cL_refuses 112 = .ok (.aload_n 0, 1) := by decide +kernel
theorem dL_refuses_113 : decode cL_refuses 113 = .ok (.iconst 0, 1) := by decide +kernel
theorem dL_refuses_114 : decode cL_refuses 114 = .ok (.iconst 0, 1) := by decide +kernel
theorem dL_refuses_115 : decode cL_refuses 115 = .ok (.iconst 0, 1) := by decide +kernel
theorem dL_refuses_116 : decode cL_refuses 116 = .ok (.iconst (-1), 1) := by decide +kernel
theorem dL_refuses_117 : decode cL_refuses 117 = .ok (.invokestatic 161, 3) := by decide +kernel
theorem dL_refuses_120 : decode cL_refuses 120 = .ok (.sipush (-901), 3) := by decide +kernel
theorem dL_refuses_123 : decode cL_refuses 123 = .ok (.if_icmp .ne 57, 3) := by decide +kernel
theorem dL_refuses_126 : decode cL_refuses 126 = .ok (.aload_n 0, 1) := by decide +kernel
theorem dL_refuses_127 : decode cL_refuses 127 = .ok (.bipush 6, 2) := by decide +kernel
theorem dL_refuses_129 : decode cL_refuses 129 = .ok (.iconst 0, 1) := by decide +kernel
theorem dL_refuses_130 : decode cL_refuses 130 = .ok (.invokestatic 164, 3) := by decide +kernel
theorem dL_refuses_133 : decode cL_refuses 133 = .ok (.sipush (-903), 3) := by decide +kernel
theorem dL_refuses_136 : decode cL_refuses 136 = .ok (.if_icmp .ne 44, 3) := by decide +kernel
theorem dL_refuses_139 : decode cL_refuses 139 = .ok (.aload_n 0, 1) := by decide +kernel
theorem dL_refuses_140 : decode cL_refuses 140 = .ok (.iconst (-1), 1) := by decide +kernel
theorem dL_refuses_141 : decode cL_refuses 141 = .ok (.invokestatic 112, 3) := by decide +kernel
theorem dL_refuses_144 : decode cL_refuses 144 = .ok (.sipush (-903), 3) := by decide +kernel
theorem dL_refuses_147 : decode cL_refuses 147 = .ok (.if_icmp .ne 33, 3) := by decide +kernel
theorem dL_refuses_150 : decode cL_refuses 150 = .ok (.aload_n 0, 1) := by decide +kernel
theorem dL_refuses_151 : decode cL_refuses 151 = .ok (.iconst 0, 1) := by decide +kernel
theorem dL_refuses_152 : decode cL_refuses 152 = .ok (.iconst (-1), 1) := by decide +kernel
theorem dL_refuses_153 : decode cL_refuses 153 = .ok (.iconst 0, 1) := by decide +kernel
theorem dL_refuses_154 : decode cL_refuses 154 = .ok (.invokestatic 109, 3) := by decide +kernel
theorem dL_refuses_157 : decode cL_refuses 157 = .ok (.sipush (-903), 3) := by decide +kernel
theorem dL_refuses_160 : decode cL_refuses 160 = .ok (.if_icmp .ne 20, 3) := by decide +kernel
theorem dL_refuses_163 : decode cL_refuses 163 = .ok (.aload_n 0, 1) := by decide +kernel
theorem dL_refuses_164 : decode cL_refuses 164 = .ok (.iconst 0, 1) := by decide +kernel
theorem dL_refuses_165 : decode cL_refuses 165 = .ok (.iconst 0, 1) := by decide +kernel
theorem dL_refuses_166 : decode cL_refuses 166 = .ok (.iconst 3, 1) := by decide +kernel
theorem dL_refuses_167 : decode cL_refuses 167 = .ok (.invokestatic 109, 3) := by decide +kernel
theorem dL_refuses_170 : decode cL_refuses 170 = .ok (.sipush (-901), 3) := by decide +kernel
theorem dL_refuses_173 : decode cL_refuses 173 = .ok (.if_icmp .ne 7, 3) := by decide +kernel
theorem dL_refuses_176 : decode cL_refuses 176 = .ok (.iconst 1, 1) := by decide +kernel
theorem dL_refuses_177 : decode cL_refuses 177 = .ok (.goto 4, 3) := by decide +kernel
theorem dL_refuses_180 : decode cL_refuses 180 = .ok (.iconst 0, 1) := by decide +kernel
theorem dL_refuses_181 : decode cL_refuses 181 = .ok (.istore_n 3, 1) := by decide +kernel
theorem dL_refuses_182 : decode cL_refuses 182 = .ok (.iload_n 3, 1) := by decide +kernel
theorem dL_refuses_183 : decode cL_refuses 183 = .ok (.ifCond .eq 217, 3) := by decide +kernel
theorem dL_refuses_186 : decode cL_refuses 186 = .ok (.aload_n 0, 1) := by decide +kernel
theorem dL_refuses_187 : decode cL_refuses 187 = .ok (.iconst (-1), 1) := by decide +kernel
theorem dL_refuses_188 : decode cL_refuses 188 = .ok (.invokestatic 141, 3) := by decide +kernel
theorem dL_refuses_191 : decode cL_refuses 191 = .ok (.sipush (-901), 3) := by decide +kernel
theorem dL_refuses_194 : decode cL_refuses 194 = .ok (.if_icmp .ne 206, 3) := by decide +kernel
theorem dL_refuses_197 : decode cL_refuses 197 = .ok (.aload_n 0, 1) := by decide +kernel
theorem dL_refuses_198 : decode cL_refuses 198 = .ok (.sipush 1001, 3) := by decide +kernel
theorem dL_refuses_201 : decode cL_refuses 201 = .ok (.invokestatic 141, 3) := by decide +kernel
theorem dL_refuses_204 : decode cL_refuses 204 = .ok (.sipush (-901), 3) := by decide +kernel
theorem dL_refuses_207 : decode cL_refuses 207 = .ok (.if_icmp .ne 193, 3) := by decide +kernel
theorem dL_refuses_210 : decode cL_refuses 210 = .ok (.aload_n 0, 1) := by decide +kernel
theorem dL_refuses_211 : decode cL_refuses 211 = .ok (.iconst (-1), 1) := by decide +kernel
theorem dL_refuses_212 : decode cL_refuses 212 = .ok (.invokestatic 166, 3) := by decide +kernel
theorem dL_refuses_215 : decode cL_refuses 215 = .ok (.sipush (-903), 3) := by decide +kernel
theorem dL_refuses_218 : decode cL_refuses 218 = .ok (.if_icmp .ne 182, 3) := by decide +kernel
theorem dL_refuses_221 : decode cL_refuses 221 = .ok (.aload_n 0, 1) := by decide +kernel
theorem dL_refuses_222 : decode cL_refuses 222 = .ok (.sipush 300, 3) := by decide +kernel
theorem dL_refuses_225 : decode cL_refuses 225 = .ok (.invokestatic 166, 3) := by decide +kernel
theorem dL_refuses_228 : decode cL_refuses 228 = .ok (.sipush (-903), 3) := by decide +kernel
theorem dL_refuses_231 : decode cL_refuses 231 = .ok (.if_icmp .ne 169, 3) := by decide +kernel
theorem dL_refuses_234 : decode cL_refuses 234 = .ok (.aload_n 0, 1) := by decide +kernel

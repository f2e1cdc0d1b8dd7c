theorem dL_act_547 : decode cL_act 547 = .ok (.iload 9, 2) := by decide +kernel
theorem dL_act_549 : decode cL_act 549 = .ok (.iconst 0, 1) := by decide +kernel
theorem dL_act_550 : decode cL_act 550 = .ok (.invokestatic 128, 3) := by decide +kernel
theorem dL_act_553 : decode cL_act 553 = .ok (.istore 10, 2) := by decide +kernel
theorem dL_act_555 : decode cL_act 555 = .ok (.aload_n 0, 1) := by decide +kernel
theorem dL_act_556 : decode cL_act 556 = .ok (.iload 9, 2) := by decide +kernel
theorem dL_act_558 : decode cL_act 558 = .ok (.invokestatic 166, 3) := by decide +kernel
theorem dL_act_561 : decode cL_act 561 = .ok (.iload 10, 2) := by decide +kernel
theorem dL_act_563 : decode cL_act 563 = .ok (.if_icmp .ne 8, 3) := by decide +kernel
theorem dL_act_566 : decode cL_act 566 = .ok (.iload 10, 2) := by decide +kernel
theorem dL_act_568 : decode cL_act 568 = .ok (.goto 6, 3) := by decide +kernel
theorem dL_act_571 : decode cL_act 571 = .ok (.sipush (-5000), 3) := by decide +kernel
theorem dL_act_574 : decode cL_act 574 = .ok (.ireturn, 1) := by decide +kernel
theorem dL_act_575 : decode cL_act 575 = .ok (.aload_n 0, 1) := by decide +kernel
theorem dL_act_576 : decode cL_act 576 = .ok (.invokevirtual 125, 3) := by decide +kernel
theorem dL_act_579 : decode cL_act 579 = .ok (.istore 9, 2) := by decide +kernel
theorem dL_act_581 : decode cL_act 581 = .ok (.iload_n 2, 1) := by decide +kernel
theorem dL_act_582 : decode cL_act 582 = .ok (.bipush 9, 2) := by decide +kernel
theorem dL_act_584 : decode cL_act 584 = .ok (.invokestatic 95, 3) := by decide +kernel
theorem dL_act_587 : decode cL_act 587 = .ok (.istore 10, 2) := by decide +kernel
theorem dL_act_589 : decode cL_act 589 = .ok (.aload_n 0, 1) := by decide +kernel
theorem dL_act_590 : decode cL_act 590 = .ok (.iload 10, 2) := by decide +kernel
theorem dL_act_592 : decode cL_act 592 = .ok (.invokestatic 141, 3) := by decide +kernel
theorem dL_act_595 : decode cL_act 595 = .ok (.istore 11, 2) := by decide +kernel
theorem dL_act_597 : decode cL_act 597 = .ok (.iload 11, 2) := by decide +kernel
theorem dL_act_599 : decode cL_act 599 = .ok (.iload 10, 2) := by decide +kernel
theorem dL_act_601 : decode cL_act 601 = .ok (.if_icmp .gt 32, 3) := by decide +kernel
theorem dL_act_604 : decode cL_act 604 = .ok (.iload 11, 2) := by decide +kernel
theorem dL_act_606 : decode cL_act 606 = .ok (.iload 10, 2) := by decide +kernel
theorem dL_act_608 : decode cL_act 608 = .ok (.if_icmp .eq 10, 3) := by decide +kernel
theorem dL_act_611 : decode cL_act 611 = .ok (.aload_n 0, 1) := by decide +kernel
theorem dL_act_612 : decode cL_act 612 = .ok (.invokevirtual 125, 3) := by decide +kernel
theorem dL_act_615 : decode cL_act 615 = .ok (.ifCond .ne 18, 3) := by decide +kernel
theorem dL_act_618 : decode cL_act 618 = .ok (.iload 9, 2) := by decide +kernel
theorem dL_act_620 : decode cL_act 620 = .ok (.ifCond .gt 8, 3) := by decide +kernel
theorem dL_act_623 : decode cL_act 623 = .ok (.iload 11, 2) := by decide +kernel
theorem dL_act_625 : decode cL_act 625 = .ok (.ifCond .ne 8, 3) := by decide +kernel
theorem dL_act_628 : decode cL_act 628 = .ok (.iload 11, 2) := by decide +kernel
theorem dL_act_630 : decode cL_act 630 = .ok (.goto 6, 3) := by decide +kernel
theorem dL_act_633 : decode cL_act 633 = .ok (.sipush (-5000), 3) := by decide +kernel
theorem dL_act_636 : decode cL_act 636 = .ok (.ireturn, 1) := by decide +kernel
set_option maxRecDepth 20000 in
theorem ggL_law_X6_init : GoodIn wsL_law wsX6_init := goodIn_r _ [5, 6, 7, 8, 9, 10, 11, 12, 13, 14, 15, 16, 17, 18, 19, 20, 21, 22, 23, 24, 25, 26, 27, 28, 29, 30, 31, 32, 33, 34, 35, 36, 37, 38, 39, 40, 41, 42, 43, 44, 45, 46, 47, 48, 49, 50, 51, 52, 53, 54, 55, 56, 57, 58, 59, 60, 61, 62, 63, 64, 65, 66, 67, 68, 69, 70, 598, 599, 600, 601, 602, 593, 594, 595, 596, 597, 603, 604, 605, 606, 607, 608, 609, 610, 611, 612, 613, 614, 615] (by decide +kernel) (by decide +kernel)
set_option maxRecDepth 20000 in
theorem gL_law_X6_init : GoodIn wsL_law (wsX6_init) := ggL_law_X6_init
set_option maxRecDepth 20000 in
theorem ggL_law_L_undo : GoodIn wsL_law wsL_undo := goodIn_ca (goodIn_r _ [512, 328, 513, 514, 515, 2, 516, 333, 334, 83, 12, 18, 162, 163, 164, 11, 165, 25, 29, 33, 37, 39, 166, 167, 168, 169, 170, 171, 172, 24, 173, 43, 174, 44, 45, 175, 176, 177, 28, 178, 49, 179, 50, 51, 180, 181, 182, 32, 183, 56, 184, 185, 186, 187, 36, 188, 64, 189, 65, 127, 118, 593, 594, 595, 596, 597, 598, 599, 600, 601, 602, 605, 606, 607, 608, 609, 610, 611, 612, 613, 614, 615] (by decide +kernel) (by decide +kernel)) (goodIn_sub (fun _ h => List.mem_append_right _ h) (by decide +kernel))
set_option maxRecDepth 20000 in
theorem gL_law_L_undo : GoodIn wsL_law (va_wsS RL 143 yL_undo wsL_undo) := goodIn_app (goodIn_of _ (by decide +kernel)) ggL_law_L_undo
set_option maxRecDepth 20000 in
theorem ggL_law_X6_agreeing : GoodIn wsL_law wsX6_agreeing := goodIn_r _ [520, 12, 433, 521, 522, 523, 28, 524, 525, 480, 481, 482, 49, 593, 594, 595, 596, 597, 598, 599, 600, 601, 602, 608, 609, 610] (by decide +kernel) (by decide +kernel)
set_option maxRecDepth 20000 in
theorem gL_law_X6_agreeing : GoodIn wsL_law (wsV RL 106 RX6 yX6_agreeing wsX6_agreeing) := goodIn_app (goodIn_of _ (by decide +kernel)) ggL_law_X6_agreeing
set_option maxRecDepth 20000 in
theorem ggL_law_X6_visible : GoodIn wsL_law wsX6_visible := goodIn_r _ [529, 12, 462, 530, 531, 532, 533, 32, 534, 535, 536, 537, 538, 539, 110, 111, 112, 56, 593, 594, 595, 596, 597, 598, 599, 600, 601, 602, 611] (by decide +kernel) (by decide +kernel)
set_option maxRecDepth 20000 in
theorem gL_law_X6_visible : GoodIn wsL_law (wsV RL 119 RX6 yX6_visible wsX6_visible) := goodIn_app (goodIn_of _ (by decide +kernel)) ggL_law_X6_visible
set_option maxRecDepth 20000 in
theorem ggL_law_L_cell : GoodIn wsL_law wsL_cell := goodIn_r _ [542, 543] (by decide +kernel) (by decide +kernel)
set_option maxRecDepth 20000 in
theorem gL_law_L_cell : GoodIn wsL_law (va_wsS RL 175 yL_cell wsL_cell) := goodIn_app (goodIn_of _ (by decide +kernel)) ggL_law_L_cell
set_option maxRecDepth 20000 in
theorem ggL_law_L_rosters : GoodIn wsL_law wsL_rosters := goodIn_ca (goodIn_ca (goodIn_r _ [557, 435, 436, 73, 437, 138, 139, 438, 439, 440, 2, 441, 12, 433, 149, 150, 151, 152, 153, 442, 90, 91, 28, 92, 51, 144, 145, 146, 147, 148, 443, 106, 107, 108, 50, 547, 548, 549, 550, 426, 427, 428, 429, 430, 431, 432, 434, 102, 103, 104, 49, 472, 473, 474, 475, 476, 477, 478, 479, 480, 481, 482, 464, 465, 466, 467, 468, 469, 470, 471, 211, 212, 11, 213, 39, 444, 445, 446, 447, 448, 449, 450, 451, 452, 453, 454, 517, 518, 519, 520, 521, 522, 523, 524, 525, 593, 594, 595, 596, 597, 598, 599, 600, 601, 602, 608, 609, 610] (by decide +kernel) (by decide +kernel)) (goodIn_sub (fun _ h => List.mem_append_left _ (List.mem_append_right _ h)) (by decide +kernel))) (goodIn_sub (fun _ h => List.mem_append_left _ (List.mem_append_left _ (List.mem_append_right _ h))) (by decide +kernel))
set_option maxRecDepth 20000 in
theorem gL_law_L_rosters : GoodIn wsL_law (va_wsS RL 182 yL_rosters wsL_rosters) := goodIn_app (goodIn_of _ (by decide +kernel)) ggL_law_L_rosters
set_option maxRecDepth 20000 in
theorem ggL_law_L_views : GoodIn wsL_law wsL_views := goodIn_ca (goodIn_ca (goodIn_r _ [560, 561, 357, 358, 73, 359, 138, 139, 360, 361, 362, 2, 363, 12, 335, 304, 305, 306, 152, 153, 149, 150, 151, 364, 365, 366, 147, 148, 367, 94, 95, 24, 96, 43, 44, 45, 345, 346, 347, 348, 349, 350, 351, 352, 353, 354, 355, 356, 237, 238, 239, 483, 484, 485, 486, 487, 488, 489, 490, 491, 492, 11, 493, 25, 29, 33, 289, 290, 291, 292, 293, 294, 295, 296, 194, 195, 196, 28, 197, 49, 109, 110, 111, 32, 112, 56, 494, 495, 496, 497, 236, 240, 241, 242, 243, 455, 456, 457, 458, 459, 460, 461, 462, 144, 145, 146, 463, 526, 527, 528, 529, 530, 531, 532, 533, 534, 535, 536, 537, 538, 539, 593, 594, 595, 596, 597, 598, 599, 600, 601, 602, 605, 606, 607, 608, 609, 610, 611] (by decide +kernel) (by decide +kernel)) (goodIn_sub (fun _ h => List.mem_append_left _ (List.mem_append_right _ h)) (by decide +kernel))) (goodIn_sub (fun _ h => List.mem_append_left _ (List.mem_append_left _ (List.mem_append_right _ h))) (by decide +kernel))
set_option maxRecDepth 20000 in
theorem gL_law_L_views : GoodIn wsL_law (va_wsS RL 186 yL_views wsL_views) := goodIn_app (goodIn_of _ (by decide +kernel)) ggL_law_L_views
set_option maxRecDepth 20000 in
theorem ggL_law_L_messages : GoodIn wsL_law wsL_messages := goodIn_ca (goodIn_ca (goodIn_r _ [564, 551, 552, 553, 2, 554, 12, 81, 404, 410, 411, 73, 412, 138, 139, 413, 414, 415, 416, 400, 401, 402, 403, 152, 153, 364, 365, 366, 147, 148, 417, 120, 121, 36, 122, 64, 123, 124, 125, 126, 127, 128, 129, 130, 131, 409, 133, 134, 565, 566, 567, 568, 13, 162, 163, 164, 11, 165, 25, 29, 33, 37, 39, 166, 167, 168, 169, 170, 171, 172, 24, 173, 43, 174, 44, 45, 175, 176, 177, 28, 178, 49, 179, 50, 51, 180, 181, 182, 32, 183, 56, 184, 185, 186, 187, 188, 189, 65, 118, 375, 376, 377, 378, 379, 380, 381, 382, 383, 119, 384, 385, 386, 387, 388, 210, 211, 212, 213, 194, 195, 196, 197, 202, 203, 204, 205, 206, 207, 208, 209, 214, 215, 216, 217, 218, 219, 220, 232, 233, 234, 235, 236, 237, 238, 239, 240, 241, 242, 243, 198, 199, 200, 201, 255, 256, 257, 258, 270, 271, 272, 273, 289, 290, 291, 292, 293, 294, 295, 296, 389, 390, 391, 392, 569, 570, 571, 572, 573, 574, 575, 576, 577, 578, 522, 523, 524, 525, 480, 481, 482, 579, 580, 581, 582, 583, 584, 585, 586, 132, 405, 406, 407, 408, 418, 419, 420, 421, 422, 423, 424, 425, 517, 518, 519, 520, 433, 521, 593, 594, 595, 596, 597, 598, 599, 600, 601, 602, 612, 613, 614, 615, 605, 606, 607, 608, 609, 610, 611] (by decide +kernel) (by decide +kernel)) (goodIn_sub (fun _ h => List.mem_append_left _ (List.mem_append_right _ h)) (by decide +kernel))) (goodIn_sub (fun _ h => List.mem_append_left _ (List.mem_append_left _ (List.mem_append_right _ h))) (by decide +kernel))
set_option maxRecDepth 20000 in
theorem gL_law_L_messages : GoodIn wsL_law (va_wsS RL 189 yL_messages wsL_messages) := goodIn_app (goodIn_of _ (by decide +kernel)) ggL_law_L_messages
set_option maxRecDepth 20000 in
theorem ggL_law_L_rests : GoodIn wsL_law wsL_rests := goodIn_ca (goodIn_ca (goodIn_r _ [589, 551, 552, 553, 2, 554, 12, 81, 404, 565, 566, 567, 568, 13, 162, 163, 164, 11, 165, 25, 29, 33, 37, 39, 166, 167, 168, 169, 170, 171, 172, 24, 173, 43, 174, 44, 45, 175, 176, 177, 28, 178, 49, 179, 50, 51, 180, 181, 182, 32, 183, 56, 184, 185, 186, 187, 36, 188, 64, 189, 65, 127, 118, 375, 376, 377, 378, 379, 380, 381, 382, 383, 119, 120, 121, 122, 123, 124, 125, 126, 128, 129, 130, 131, 384, 385, 386, 387, 388, 133, 134, 210, 211, 212, 213, 194, 195, 196, 197, 202, 203, 204, 205, 206, 207, 208, 209, 214, 215, 216, 217, 218, 219, 220, 232, 233, 234, 235, 236, 237, 238, 239, 240, 241, 242, 243, 198, 199, 200, 201, 255, 256, 257, 258, 270, 271, 272, 273, 289, 290, 291, 292, 293, 294, 295, 296, 389, 390, 391, 392, 569, 570, 571, 572, 573, 574, 575, 576, 577, 578, 522, 523, 524, 525, 480, 481, 482, 418, 419, 73, 420, 139, 421, 422, 423, 424, 425, 364, 365, 366, 147, 148, 368, 369, 370, 371, 372, 373, 374, 154, 155, 156, 157, 83, 18, 158, 159, 160, 161, 517, 518, 519, 520, 433, 521, 510, 511, 512, 328, 513, 514, 515, 516, 333, 334, 593, 594, 595, 596, 597, 598, 599, 600, 601, 602, 612, 613, 614, 615, 605, 606, 607, 608, 609, 610, 611] (by decide +kernel) (by decide +kernel)) (goodIn_sub (fun _ h => List.mem_append_left _ (List.mem_append_left _ (List.mem_append_right _ h))) (by decide +kernel))) (goodIn_sub (fun _ h => List.mem_append_right _ h) (by decide +kernel))
set_option maxRecDepth 20000 in
theorem gL_law_L_rests : GoodIn wsL_law (va_wsS RL 192 yL_rests wsL_rests) := goodIn_app (goodIn_of _ (by decide +kernel)) ggL_law_L_rests
set_option maxRecDepth 20000 in
theorem ggL_law_L_deliver : GoodIn wsL_law wsL_deliver := goodIn_ca (goodIn_r _ [370, 139, 371, 372, 373, 2, 374, 147, 148, 12, 154, 155, 156, 157, 83, 18, 158, 159, 160, 161, 162, 163, 164, 11, 165, 25, 29, 33, 37, 39, 166, 167, 168, 169, 170, 171, 172, 24, 173, 43, 174, 44, 45, 175, 176, 177, 28, 178, 49, 179, 50, 51, 180, 181, 182, 32, 183, 56, 184, 185, 186, 187, 36, 188, 64, 189, 65, 127, 118, 375, 376, 377, 378, 379, 380, 381, 382, 383, 119, 120, 121, 122, 123, 124, 125, 126, 128, 129, 130, 131, 384, 385, 386, 387, 388, 133, 134, 210, 211, 212, 213, 194, 195, 196, 197, 202, 203, 204, 205, 206, 207, 208, 209, 214, 215, 216, 217, 218, 219, 220, 232, 233, 234, 235, 236, 237, 238, 239, 240, 241, 242, 243, 198, 199, 200, 201, 255, 256, 257, 258, 270, 271, 272, 273, 289, 290, 291, 292, 293, 294, 295, 296, 389, 390, 391, 392, 593, 594, 595, 596, 597, 598, 599, 600, 601, 602, 605, 606, 607, 608, 609, 610, 611, 612, 613, 614, 615] (by decide +kernel) (by decide +kernel)) (goodIn_sub (fun _ h => List.mem_append_left _ (List.mem_append_left _ (List.mem_append_right _ h))) (by decide +kernel))
set_option maxRecDepth 20000 in
theorem gL_law_L_deliver : GoodIn wsL_law (va_wsS RL 141 yL_deliver wsL_deliver) := goodIn_app (goodIn_of _ (by decide +kernel)) ggL_law_L_deliver
set_option maxRecDepth 20000 in
theorem ggL_law_X6_underWay : GoodIn wsL_law wsX6_underWay := goodIn_r _ [554, 12, 81, 404, 593, 594, 595, 596, 597, 598, 599, 600, 601, 602, 612, 613, 614, 615] (by decide +kernel) (by decide +kernel)
set_option maxRecDepth 20000 in
theorem gL_law_X6_underWay : GoodIn wsL_law (wsV RL 125 RX6 yX6_underWay wsX6_underWay) := goodIn_app (goodIn_of _ (by decide +kernel)) ggL_law_X6_underWay
set_option maxRecDepth 20000 in
theorem ggL_law_L_calm : GoodIn wsL_law wsL_calm := goodIn_ca (goodIn_r _ [592, 483, 484, 73, 485, 138, 486, 487, 488, 2, 489, 12, 149, 150, 151, 152, 153, 490, 491, 492, 11, 493, 25, 29, 33, 289, 290, 291, 24, 292, 293, 294, 295, 296, 43, 194, 195, 196, 28, 197, 49, 109, 110, 111, 32, 112, 56, 494, 495, 496, 497, 236, 237, 238, 239, 240, 241, 242, 243, 45, 517, 518, 519, 520, 433, 521, 522, 523, 524, 525, 480, 481, 482, 593, 594, 595, 596, 597, 598, 599, 600, 601, 602, 605, 606, 607, 608, 609, 610, 611] (by decide +kernel) (by decide +kernel)) (goodIn_sub (fun _ h => List.mem_append_left _ (List.mem_append_right _ h)) (by decide +kernel))
set_option maxRecDepth 20000 in
theorem gL_law_L_calm : GoodIn wsL_law (va_wsS RL 195 yL_calm wsL_calm) := goodIn_app (goodIn_of _ (by decide +kernel)) ggL_law_L_calm
set_option maxRecDepth 20000 in
theorem ggL_law_L_low : GoodIn wsL_law wsL_low := goodIn_r _ [549, 550] (by decide +kernel) (by decide +kernel)
set_option maxRecDepth 20000 in
theorem gL_law_L_low : GoodIn wsL_law (va_wsS RL 95 yL_low wsL_low) := goodIn_app (goodIn_of _ (by decide +kernel)) ggL_law_L_low
set_option maxRecDepth 20000 in
theorem ggL_law_L_ask : GoodIn wsL_law wsL_ask := goodIn_ca (goodIn_ca (goodIn_r _ [137, 138, 139, 140, 141, 142, 2, 143, 12, 144, 145, 146, 147, 148, 149, 150, 151, 152, 153, 154, 155, 156, 157, 83, 18, 158, 159, 160, 161, 162, 163, 164, 11, 165, 25, 29, 33, 37, 39, 166, 167, 168, 169, 170, 171, 172, 24, 173, 43, 174, 44, 45, 175, 176, 177, 28, 178, 49, 179, 50, 51, 180, 181, 182, 32, 183, 56, 184, 185, 186, 187, 36, 188, 64, 189, 65, 127, 118, 190, 191, 192, 193, 194, 195, 196, 197, 198, 199, 200, 201, 202, 203, 204, 205, 206, 207, 208, 209, 210, 211, 212, 213, 214, 215, 216, 217, 218, 219, 220, 593, 594, 595, 596, 597, 598, 599, 600, 601, 602, 605, 606, 607, 608, 609, 610, 611, 612, 613, 614, 615] (by decide +kernel) (by decide +kernel)) (goodIn_sub (fun _ h => List.mem_append_left _ (List.mem_append_left _ (List.mem_append_right _ h))) (by decide +kernel))) (goodIn_sub (fun _ h => List.mem_append_left _ (List.mem_append_right _ h)) (by decide +kernel))
set_option maxRecDepth 20000 in
theorem gL_law_L_ask : GoodIn wsL_law (va_wsS RL 150 yL_ask wsL_ask) := goodIn_app (goodIn_of _ (by decide +kernel)) ggL_law_L_ask
set_option maxRecDepth 20000 in
theorem ggL_law_L_grant : GoodIn wsL_law wsL_grant := goodIn_ca (goodIn_ca (goodIn_r _ [223, 138, 139, 224, 225, 226, 2, 227, 12, 144, 145, 146, 147, 148, 149, 150, 151, 152, 153, 154, 155, 156, 157, 83, 18, 158, 159, 160, 161, 162, 163, 164, 11, 165, 25, 29, 33, 37, 39, 166, 167, 168, 169, 170, 171, 172, 24, 173, 43, 174, 44, 45, 175, 176, 177, 28, 178, 49, 179, 50, 51, 180, 181, 182, 32, 183, 56, 184, 185, 186, 187, 36, 188, 64, 189, 65, 127, 118, 228, 229, 230, 231, 194, 195, 196, 197, 198, 199, 200, 201, 202, 203, 204, 205, 206, 207, 208, 209, 210, 211, 212, 213, 214, 215, 216, 217, 218, 219, 220, 232, 233, 234, 235, 236, 237, 238, 239, 240, 241, 242, 243, 593, 594, 595, 596, 597, 598, 599, 600, 601, 602, 605, 606, 607, 608, 609, 610, 611, 612, 613, 614, 615] (by decide +kernel) (by decide +kernel)) (goodIn_sub (fun _ h => List.mem_append_left _ (List.mem_append_left _ (List.mem_append_right _ h))) (by decide +kernel))) (goodIn_sub (fun _ h => List.mem_append_left _ (List.mem_append_right _ h)) (by decide +kernel))
set_option maxRecDepth 20000 in
theorem gL_law_L_grant : GoodIn wsL_law (va_wsS RL 152 yL_grant wsL_grant) := goodIn_app (goodIn_of _ (by decide +kernel)) ggL_law_L_grant
set_option maxRecDepth 20000 in
theorem ggL_law_L_count : GoodIn wsL_law wsL_count := goodIn_ca (goodIn_r _ [420, 139, 421, 422, 423, 2, 424, 12, 81, 425, 364, 365, 366, 147, 148, 593, 594, 595, 596, 597, 598, 599, 600, 601, 602, 612, 613, 614, 615] (by decide +kernel) (by decide +kernel)) (goodIn_sub (fun _ h => List.mem_append_left _ (List.mem_append_left _ (List.mem_append_right _ h))) (by decide +kernel))
set_option maxRecDepth 20000 in
theorem gL_law_L_count : GoodIn wsL_law (va_wsS RL 139 yL_count wsL_count) := goodIn_app (goodIn_of _ (by decide +kernel)) ggL_law_L_count
set_option maxRecDepth 20000 in
theorem ggL_law_L_turnOn : GoodIn wsL_law wsL_turnOn := goodIn_ca (goodIn_ca (goodIn_r _ [299, 138, 139, 300, 301, 302, 2, 303, 147, 148, 12, 304, 305, 306, 152, 153, 149, 150, 151, 154, 155, 156, 157, 83, 18, 158, 159, 160, 161, 162, 163, 164, 11, 165, 25, 29, 33, 37, 39, 166, 167, 168, 169, 170, 171, 172, 24, 173, 43, 174, 44, 45, 175, 176, 177, 28, 178, 49, 179, 50, 51, 180, 181, 182, 32, 183, 56, 184, 185, 186, 187, 36, 188, 64, 189, 65, 127, 118, 307, 308, 309, 310, 289, 290, 291, 292, 293, 294, 295, 296, 311, 312, 313, 314, 315, 316, 317, 318, 319, 271, 272, 273, 194, 195, 196, 197, 202, 203, 204, 205, 206, 207, 208, 209, 210, 211, 212, 213, 214, 215, 216, 217, 218, 219, 220, 320, 321, 322, 323, 324, 593, 594, 595, 596, 597, 598, 599, 600, 601, 602, 605, 606, 607, 608, 609, 610, 611, 612, 613, 614, 615] (by decide +kernel) (by decide +kernel)) (goodIn_sub (fun _ h => List.mem_append_left _ (List.mem_append_left _ (List.mem_append_right _ h))) (by decide +kernel))) (goodIn_sub (fun _ h => List.mem_append_left _ (List.mem_append_right _ h)) (by decide +kernel))
set_option maxRecDepth 20000 in
theorem gL_law_L_turnOn : GoodIn wsL_law (va_wsS RL 161 yL_turnOn wsL_turnOn) := goodIn_app (goodIn_of _ (by decide +kernel)) ggL_law_L_turnOn
theorem dL_law_0 : decode cL_law 0 = .ok (.new 10, 3) := by decide +kernel
theorem dL_law_3 : decode cL_law 3 = .ok (.dup, 1) := by decide +kernel
theorem dL_law_4 : decode cL_law 4 = .ok (.invokespecial 170, 3) := by decide +kernel
theorem dL_law_7 : decode cL_law 7 = .ok (.astore_n 1, 1) := by decide +kernel
theorem dL_law_8 : decode cL_law 8 = .ok (.new 10, 3) := by decide +kernel
theorem dL_law_11 : decode cL_law 11 = .ok (.dup, 1) := by decide +kernel
theorem dL_law_12 : decode cL_law 12 = .ok (.invokespecial 170, 3) := by decide +kernel
theorem dL_law_15 : decode cL_law 15 = .ok (.astore_n 2, 1) := by decide +kernel
theorem dL_law_16 : decode cL_law 16 = .ok (.aload_n 1, 1) := by decide +kernel
theorem dL_law_17 : decode cL_law 17 = .ok (.invokestatic 171, 3) := by decide +kernel
theorem dL_law_20 : decode cL_law 20 = .ok (.ifCond .eq 31, 3) := by decide +kernel
theorem dL_law_23 : decode cL_law 23 = .ok (.aload_n 1, 1) := by decide +kernel
theorem dL_law_24 : decode cL_law 24 = .ok (.invokestatic 143, 3) := by decide +kernel
theorem dL_law_27 : decode cL_law 27 = .ok (.sipush (-902), 3) := by decide +kernel
theorem dL_law_30 : decode cL_law 30 = .ok (.if_icmp .ne 21, 3) := by decide +kernel
theorem dL_law_33 : decode cL_law 33 = .ok (.aload_n 1, 1) := by decide +kernel
theorem dL_law_34 : decode cL_law 34 = .ok (.invokevirtual 106, 3) := by decide +kernel
theorem dL_law_37 : decode cL_law 37 = .ok (.bipush 15, 2) := by decide +kernel
theorem dL_law_39 : decode cL_law 39 = .ok (.if_icmp .ne 12, 3) := by decide +kernel
theorem dL_law_42 : decode cL_law 42 = .ok (.aload_n 1, 1) := by decide +kernel
theorem dL_law_43 : decode cL_law 43 = .ok (.invokevirtual 119, 3) := by decide +kernel
theorem dL_law_46 : decode cL_law 46 = .ok (.dconst 0, 1) := by decide +kernel
theorem dL_law_47 : decode cL_law 47 = .ok (.dcmp .l, 1) := by decide +kernel
theorem dL_law_48 : decode cL_law 48 = .ok (.ifCond .eq 5, 3) := by decide +kernel
theorem dL_law_51 : decode cL_law 51 = .ok (.iconst 0, 1) := by decide +kernel
theorem dL_law_52 : decode cL_law 52 = .ok (.ireturn, 1) := by decide +kernel
theorem dL_law_53 : decode cL_law 53 = .ok (.iconst 0, 1) := by decide +kernel
theorem dL_law_54 : decode cL_law 54 = .ok (.istore_n 3, 1) := by decide +kernel
theorem dL_law_55 : decode cL_law 55 = .ok (.iload_n 3, 1) := by decide +kernel
theorem dL_law_56 : decode cL_law 56 = .ok (.bipush 24, 2) := by decide +kernel
theorem dL_law_58 : decode cL_law 58 = .ok (.if_icmp .ge 120, 3) := by decide +kernel
theorem dL_law_61 : decode cL_law 61 = .ok (.aload_n 0, 1) := by decide +kernel
theorem dL_law_62 : decode cL_law 62 = .ok (.iconst 2, 1) := by decide +kernel
theorem dL_law_63 : decode cL_law 63 = .ok (.iload_n 3, 1) := by decide +kernel
theorem dL_law_64 : decode cL_law 64 = .ok (.imul, 1) := by decide +kernel
theorem dL_law_65 : decode cL_law 65 = .ok (.invokestatic 175, 3) := by decide +kernel
theorem dL_law_68 : decode cL_law 68 = .ok (.istore 4, 2) := by decide +kernel
theorem dL_law_70 : decode cL_law 70 = .ok (.aload_n 0, 1) := by decide +kernel
theorem dL_law_71 : decode cL_law 71 = .ok (.iconst 2, 1) := by decide +kernel
theorem dL_law_72 : decode cL_law 72 = .ok (.iload_n 3, 1) := by decide +kernel
theorem dL_law_73 : decode cL_law 73 = .ok (.imul, 1) := by decide +kernel
theorem dL_law_74 : decode cL_law 74 = .ok (.iconst 1, 1) := by decide +kernel
theorem dL_law_75 : decode cL_law 75 = .ok (.iadd, 1) := by decide +kernel
theorem dL_law_76 : decode cL_law 76 = .ok (.invokestatic 175, 3) := by decide +kernel
theorem dL_law_79 : decode cL_law 79 = .ok (.istore 5, 2) := by decide +kernel
theorem dL_law_81 : decode cL_law 81 = .ok (.aload_n 1, 1) := by decide +kernel
theorem dL_law_82 : decode cL_law 82 = .ok (.iload 4, 2) := by decide +kernel
theorem dL_law_84 : decode cL_law 84 = .ok (.iload 5, 2) := by decide +kernel
theorem dL_law_86 : decode cL_law 86 = .ok (.iconst 0, 1) := by decide +kernel
theorem dL_law_87 : decode cL_law 87 = .ok (.invokestatic 179, 3) := by decide +kernel
theorem dL_law_90 : decode cL_law 90 = .ok (.ifCond .lt 42, 3) := by decide +kernel
theorem dL_law_93 : decode cL_law 93 = .ok (.aload_n 1, 1) := by decide +kernel
theorem dL_law_94 : decode cL_law 94 = .ok (.iload 5, 2) := by decide +kernel
theorem dL_law_96 : decode cL_law 96 = .ok (.iconst 3, 1) := by decide +kernel
theorem dL_law_97 : decode cL_law 97 = .ok (.ishr, 1) := by decide +kernel
theorem dL_law_98 : decode cL_law 98 = .ok (.invokestatic 182, 3) := by decide +kernel
theorem dL_law_101 : decode cL_law 101 = .ok (.ifCond .eq 31, 3) := by decide +kernel
theorem dL_law_104 : decode cL_law 104 = .ok (.aload_n 1, 1) := by decide +kernel
theorem dL_law_105 : decode cL_law 105 = .ok (.invokestatic 186, 3) := by decide +kernel
theorem dL_law_108 : decode cL_law 108 = .ok (.ifCond .eq 24, 3) := by decide +kernel
theorem dL_law_111 : decode cL_law 111 = .ok (.aload_n 1, 1) := by decide +kernel
theorem dL_law_112 : decode cL_law 112 = .ok (.invokestatic 189, 3) := by decide +kernel
theorem dL_law_115 : decode cL_law 115 = .ok (.ifCond .eq 17, 3) := by decide +kernel
theorem dL_law_118 : decode cL_law 118 = .ok (.iload_n 3, 1) := by decide +kernel
theorem dL_law_119 : decode cL_law 119 = .ok (.iconst 4, 1) := by decide +kernel
theorem dL_law_120 : decode cL_law 120 = .ok (.irem, 1) := by decide +kernel
theorem dL_law_121 : decode cL_law 121 = .ok (.iconst 3, 1) := by decide +kernel
theorem dL_law_122 : decode cL_law 122 = .ok (.if_icmp .ne 12, 3) := by decide +kernel
theorem dL_law_125 : decode cL_law 125 = .ok (.aload_n 1, 1) := by decide +kernel
theorem dL_law_126 : decode cL_law 126 = .ok (.invokestatic 192, 3) := by decide +kernel
theorem dL_law_129 : decode cL_law 129 = .ok (.ifCond .ne 5, 3) := by decide +kernel
theorem dL_law_132 : decode cL_law 132 = .ok (.iconst 0, 1) := by decide +kernel
theorem dL_law_133 : decode cL_law 133 = .ok (.ireturn, 1) := by decide +kernel
theorem dL_law_134 : decode cL_law 134 = .ok (.aload_n 2, 1) := by decide +kernel
theorem dL_law_135 : decode cL_law 135 = .ok (.iload 5, 2) := by decide +kernel
theorem dL_law_137 : decode cL_law 137 = .ok (.iload 4, 2) := by decide +kernel
theorem dL_law_139 : decode cL_law 139 = .ok (.iconst 1, 1) := by decide +kernel
theorem dL_law_140 : decode cL_law 140 = .ok (.invokestatic 179, 3) := by decide +kernel
theorem dL_law_143 : decode cL_law 143 = .ok (.ifCond .lt 27, 3) := by decide +kernel
theorem dL_law_146 : decode cL_law 146 = .ok (.aload_n 2, 1) := by decide +kernel
theorem dL_law_147 : decode cL_law 147 = .ok (.sipush 1000, 3) := by decide +kernel
theorem dL_law_150 : decode cL_law 150 = .ok (.invokestatic 141, 3) := by decide +kernel
theorem dL_law_153 : decode cL_law 153 = .ok (.ifCond .lt 17, 3) := by decide +kernel
theorem dL_law_156 : decode cL_law 156 = .ok (.aload_n 2, 1) := by decide +kernel
theorem dL_law_157 : decode cL_law 157 = .ok (.invokevirtual 125, 3) := by decide +kernel
theorem dL_law_160 : decode cL_law 160 = .ok (.ifCond .ne 10, 3) := by decide +kernel
theorem dL_law_163 : decode cL_law 163 = .ok (.aload_n 2, 1) := by decide +kernel
theorem dL_law_164 : decode cL_law 164 = .ok (.invokestatic 195, 3) := by decide +kernel
theorem dL_law_167 : decode cL_law 167 = .ok (.ifCond .ne 5, 3) := by decide +kernel
theorem dL_law_170 : decode cL_law 170 = .ok (.iconst 0, 1) := by decide +kernel
theorem dL_law_171 : decode cL_law 171 = .ok (.ireturn, 1) := by decide +kernel
theorem dL_law_172 : decode cL_law 172 = .ok (.iinc 3 1, 3) := by decide +kernel
theorem dL_law_175 : decode cL_law 175 = .ok (.goto (-120), 3) := by decide +kernel
theorem dL_law_178 : decode cL_law 178 = .ok (.aload_n 0, 1) := by decide +kernel
theorem dL_law_179 : decode cL_law 179 = .ok (.bipush 50, 2) := by decide +kernel
theorem dL_law_181 : decode cL_law 181 = .ok (.invokestatic 175, 3) := by decide +kernel
theorem dL_law_184 : decode cL_law 184 = .ok (.iconst 3, 1) := by decide +kernel
theorem dL_law_185 : decode cL_law 185 = .ok (.invokestatic 95, 3) := by decide +kernel
theorem dL_law_188 : decode cL_law 188 = .ok (.ifCond .ne 151, 3) := by decide +kernel
theorem dL_law_191 : decode cL_law 191 = .ok (.iconst 1, 1) := by decide +kernel
theorem dL_law_192 : decode cL_law 192 = .ok (.istore_n 3, 1) := by decide +kernel
theorem dL_law_193 : decode cL_law 193 = .ok (.iload_n 3, 1) := by decide +kernel
theorem dL_law_194 : decode cL_law 194 = .ok (.bipush 6, 2) := by decide +kernel
theorem dL_law_196 : decode cL_law 196 = .ok (.if_icmp .ge 51, 3) := by decide +kernel
theorem dL_law_199 : decode cL_law 199 = .ok (.aload_n 2, 1) := by decide +kernel
theorem dL_law_200 : decode cL_law 200 = .ok (.iload_n 3, 1) := by decide +kernel
theorem dL_law_201 : decode cL_law 201 = .ok (.iconst 0, 1) := by decide +kernel
theorem dL_law_202 : decode cL_law 202 = .ok (.invokestatic 150, 3) := by decide +kernel
theorem dL_law_205 : decode cL_law 205 = .ok (.istore 4, 2) := by decide +kernel
theorem dL_law_207 : decode cL_law 207 = .ok (.aload_n 2, 1) := by decide +kernel
theorem dL_law_208 : decode cL_law 208 = .ok (.sipush 1000, 3) := by decide +kernel
theorem dL_law_211 : decode cL_law 211 = .ok (.invokestatic 141, 3) := by decide +kernel
theorem dL_law_214 : decode cL_law 214 = .ok (.istore 5, 2) := by decide +kernel
theorem dL_law_216 : decode cL_law 216 = .ok (.aload_n 2, 1) := by decide +kernel
theorem dL_law_217 : decode cL_law 217 = .ok (.iconst 0, 1) := by decide +kernel
theorem dL_law_218 : decode cL_law 218 = .ok (.iload_n 3, 1) := by decide +kernel
theorem dL_law_219 : decode cL_law 219 = .ok (.invokestatic 152, 3) := by decide +kernel
theorem dL_law_222 : decode cL_law 222 = .ok (.istore 6, 2) := by decide +kernel
theorem dL_law_224 : decode cL_law 224 = .ok (.iload 4, 2) := by decide +kernel
theorem dL_law_226 : decode cL_law 226 = .ok (.ifCond .lt 13, 3) := by decide +kernel
theorem dL_law_229 : decode cL_law 229 = .ok (.iload 5, 2) := by decide +kernel

theorem dL_cell_0 : decode cL_cell 0 = .ok (.iload_n 1, 1) := by decide +kernel
theorem dL_cell_1 : decode cL_cell 1 = .ok (.aload_n 0, 1) := by decide +kernel
theorem dL_cell_2 : decode cL_cell 2 = .ok (.arraylength, 1) := by decide +kernel
theorem dL_cell_3 : decode cL_cell 3 = .ok (.if_icmp .ge 9, 3) := by decide +kernel
theorem dL_cell_6 : decode cL_cell 6 = .ok (.aload_n 0, 1) := by decide +kernel
theorem dL_cell_7 : decode cL_cell 7 = .ok (.iload_n 1, 1) := by decide +kernel
theorem dL_cell_8 : decode cL_cell 8 = .ok (.iaload, 1) := by decide +kernel
theorem dL_cell_9 : decode cL_cell 9 = .ok (.goto 15, 3) := by decide +kernel
theorem dL_cell_12 : decode cL_cell 12 = .ok (.ldc 7, 2) := by decide +kernel
theorem dL_cell_14 : decode cL_cell 14 = .ok (.iload_n 1, 1) := by decide +kernel
theorem dL_cell_15 : decode cL_cell 15 = .ok (.sipush 1549, 3) := by decide +kernel
theorem dL_cell_18 : decode cL_cell 18 = .ok (.iadd, 1) := by decide +kernel
theorem dL_cell_19 : decode cL_cell 19 = .ok (.imul, 1) := by decide +kernel
theorem dL_cell_20 : decode cL_cell 20 = .ok (.sipush 1367, 3) := by decide +kernel
theorem dL_cell_23 : decode cL_cell 23 = .ok (.iadd, 1) := by decide +kernel
theorem dL_cell_24 : decode cL_cell 24 = .ok (.ireturn, 1) := by decide +kernel
theorem dL_low_0 : decode cL_low 0 = .ok (.iload_n 0, 1) := by decide +kernel
theorem dL_low_1 : decode cL_low 1 = .ok (.ldc 8, 2) := by decide +kernel
theorem dL_low_3 : decode cL_low 3 = .ok (.iand, 1) := by decide +kernel
theorem dL_low_4 : decode cL_low 4 = .ok (.iload_n 1, 1) := by decide +kernel
theorem dL_low_5 : decode cL_low 5 = .ok (.irem, 1) := by decide +kernel
theorem dL_low_6 : decode cL_low 6 = .ok (.ireturn, 1) := by decide +kernel
set_option maxRecDepth 20000 in
theorem ggL_ask_X6_ask : GoodIn wsL_ask wsX6_ask := goodIn_ca (goodIn_ca (goodIn_r _ [7, 8, 9, 10, 6, 11, 12, 13, 14, 15, 16, 17, 18, 19, 20, 21, 22, 23, 24, 25, 26, 27, 28, 29, 30, 31, 32, 33, 34, 35, 36, 37, 38, 39, 40, 41, 42, 43, 44, 45, 46, 47, 48, 49, 50, 51, 52, 53, 54, 55, 56, 57, 58, 59, 60, 61, 62, 63, 64, 65, 66, 67, 68, 69, 70, 71, 72, 73, 74, 75, 76, 77, 78, 79, 80, 81, 82, 83, 84, 85, 86, 87, 88, 89, 90, 91, 92, 93, 94, 95, 96, 97, 98, 99, 100, 101, 102, 103, 104, 105, 106, 107, 108, 109, 110, 111, 112, 113, 114, 115, 116, 117, 118, 119, 120, 121, 122, 123, 124, 125, 126, 127, 128, 129] (by decide +kernel) (by decide +kernel)) (goodIn_sub (fun _ h => List.mem_cons_of_mem _ (List.mem_append_left _ (List.mem_append_right _ h))) (by decide +kernel))) (goodIn_sub (fun _ h => List.mem_cons_of_mem _ (List.mem_append_right _ h)) (by decide +kernel))
set_option maxRecDepth 20000 in
theorem gL_ask_X6_ask : GoodIn wsL_ask (wsV RL 9 RX6 yX6_ask wsX6_ask) := goodIn_app (goodIn_of _ (by decide +kernel)) ggL_ask_X6_ask
theorem dL_ask_0 : decode cL_ask 0 = .ok (.aload_n 0, 1) := by decide +kernel
theorem dL_ask_1 : decode cL_ask 1 = .ok (.iload_n 1, 1) := by decide +kernel
theorem dL_ask_2 : decode cL_ask 2 = .ok (.iload_n 2, 1) := by decide +kernel
theorem dL_ask_3 : decode cL_ask 3 = .ok (.invokevirtual 9, 3) := by decide +kernel
theorem dL_ask_6 : decode cL_ask 6 = .ok (.ireturn, 1) := by decide +kernel
theorem dL_ask_7 : decode cL_ask 7 = .ok (.astore_n 3, 1) := by decide +kernel
theorem dL_ask_8 : decode cL_ask 8 = .ok (.sipush (-903), 3) := by decide +kernel
theorem dL_ask_11 : decode cL_ask 11 = .ok (.ireturn, 1) := by decide +kernel
theorem dL_ask_12 : decode cL_ask 12 = .ok (.astore_n 3, 1) := by decide +kernel
theorem dL_ask_13 : decode cL_ask 13 = .ok (.sipush (-901), 3) := by decide +kernel
theorem dL_ask_16 : decode cL_ask 16 = .ok (.ireturn, 1) := by decide +kernel
set_option maxRecDepth 20000 in
theorem ggL_grant_X6_grant : GoodIn wsL_grant wsX6_grant := goodIn_ca (goodIn_ca (goodIn_r _ [7, 8, 9, 10, 6, 11, 12, 13, 14, 15, 16, 17, 18, 19, 20, 21, 22, 23, 24, 25, 26, 27, 28, 29, 30, 31, 32, 33, 34, 35, 36, 37, 38, 39, 40, 41, 42, 43, 44, 45, 46, 47, 48, 49, 50, 51, 52, 53, 54, 55, 56, 57, 58, 59, 60, 61, 62, 63, 64, 65, 66, 67, 68, 69, 70, 71, 72, 73, 74, 75, 76, 77, 78, 79, 80, 81, 82, 83, 84, 85, 86, 87, 88, 89, 90, 91, 92, 93, 94, 95, 96, 97, 98, 99, 100, 101, 102, 103, 104, 105, 106, 107, 108, 109, 110, 111, 112, 113, 114, 115, 116, 117, 118, 119, 120, 121, 122, 123, 124, 125, 126, 127, 128, 129, 130, 131, 132, 133, 134, 135, 136, 137, 138, 139, 140, 141] (by decide +kernel) (by decide +kernel)) (goodIn_sub (fun _ h => List.mem_cons_of_mem _ (List.mem_append_left _ (List.mem_append_right _ h))) (by decide +kernel))) (goodIn_sub (fun _ h => List.mem_cons_of_mem _ (List.mem_append_right _ h)) (by decide +kernel))
set_option maxRecDepth 20000 in
theorem gL_grant_X6_grant : GoodIn wsL_grant (wsV RL 19 RX6 yX6_grant wsX6_grant) := goodIn_app (goodIn_of _ (by decide +kernel)) ggL_grant_X6_grant
theorem dL_grant_0 : decode cL_grant 0 = .ok (.aload_n 0, 1) := by decide +kernel
theorem dL_grant_1 : decode cL_grant 1 = .ok (.iload_n 1, 1) := by decide +kernel
theorem dL_grant_2 : decode cL_grant 2 = .ok (.iload_n 2, 1) := by decide +kernel
theorem dL_grant_3 : decode cL_grant 3 = .ok (.invokevirtual 19, 3) := by decide +kernel
theorem dL_grant_6 : decode cL_grant 6 = .ok (.ireturn, 1) := by decide +kernel
theorem dL_grant_7 : decode cL_grant 7 = .ok (.astore_n 3, 1) := by decide +kernel
theorem dL_grant_8 : decode cL_grant 8 = .ok (.sipush (-903), 3) := by decide +kernel
theorem dL_grant_11 : decode cL_grant 11 = .ok (.ireturn, 1) := by decide +kernel
theorem dL_grant_12 : decode cL_grant 12 = .ok (.astore_n 3, 1) := by decide +kernel
theorem dL_grant_13 : decode cL_grant 13 = .ok (.sipush (-901), 3) := by decide +kernel
theorem dL_grant_16 : decode cL_grant 16 = .ok (.ireturn, 1) := by decide +kernel
set_option maxRecDepth 20000 in
theorem ggL_refuse_X6_refuse : GoodIn wsL_refuse wsX6_refuse := goodIn_ca (goodIn_ca (goodIn_r _ [7, 8, 9, 10, 6, 11, 12, 13, 14, 15, 16, 17, 18, 19, 20, 21, 22, 23, 24, 25, 26, 27, 28, 29, 30, 31, 32, 33, 34, 35, 36, 37, 38, 39, 40, 41, 42, 43, 44, 45, 46, 47, 48, 49, 50, 51, 52, 53, 54, 55, 56, 57, 58, 59, 60, 61, 62, 63, 64, 65, 66, 67, 68, 69, 70, 71, 72, 73, 74, 75, 76, 77, 78, 79, 80, 81, 82, 83, 84, 85, 86, 87, 88, 89, 90, 91, 92, 93, 94, 95, 96, 97, 98, 99, 100, 101, 102, 103, 104, 105, 106, 107, 108, 109, 110, 111, 112, 113, 114, 115, 116, 117, 118, 119, 120, 121, 122, 123, 124, 125, 126, 127, 128, 129, 130, 131, 132, 133, 134, 135, 136, 137] (by decide +kernel) (by decide +kernel)) (goodIn_sub (fun _ h => List.mem_cons_of_mem _ (List.mem_append_left _ (List.mem_append_right _ h))) (by decide +kernel))) (goodIn_sub (fun _ h => List.mem_cons_of_mem _ (List.mem_append_right _ h)) (by decide +kernel))
set_option maxRecDepth 20000 in
theorem gL_refuse_X6_refuse : GoodIn wsL_refuse (wsV RL 22 RX6 yX6_refuse wsX6_refuse) := goodIn_app (goodIn_of _ (by decide +kernel)) ggL_refuse_X6_refuse
theorem dL_refuse_0 : decode cL_refuse 0 = .ok (.aload_n 0, 1) := by decide +kernel
theorem dL_refuse_1 : decode cL_refuse 1 = .ok (.iload_n 1, 1) := by decide +kernel
theorem dL_refuse_2 : decode cL_refuse 2 = .ok (.iload_n 2, 1) := by decide +kernel
theorem dL_refuse_3 : decode cL_refuse 3 = .ok (.invokevirtual 22, 3) := by decide +kernel
theorem dL_refuse_6 : decode cL_refuse 6 = .ok (.ireturn, 1) := by decide +kernel
theorem dL_refuse_7 : decode cL_refuse 7 = .ok (.astore_n 3, 1) := by decide +kernel
theorem dL_refuse_8 : decode cL_refuse 8 = .ok (.sipush (-903), 3) := by decide +kernel
theorem dL_refuse_11 : decode cL_refuse 11 = .ok (.ireturn, 1) := by decide +kernel
theorem dL_refuse_12 : decode cL_refuse 12 = .ok (.astore_n 3, 1) := by decide +kernel
theorem dL_refuse_13 : decode cL_refuse 13 = .ok (.sipush (-901), 3) := by decide +kernel
theorem dL_refuse_16 : decode cL_refuse 16 = .ok (.ireturn, 1) := by decide +kernel
set_option maxRecDepth 20000 in
theorem ggL_stop_X6_stop : GoodIn wsL_stop wsX6_stop := goodIn_ca (goodIn_ca (goodIn_r _ [7, 8, 9, 10, 6, 11, 12, 13, 14, 15, 16, 17, 18, 19, 20, 21, 22, 23, 24, 25, 26, 27, 28, 29, 30, 31, 32, 33, 34, 35, 36, 37, 38, 39, 40, 41, 42, 43, 44, 45, 46, 47, 48, 49, 50, 51, 52, 53, 54, 55, 56, 57, 58, 59, 60, 61, 62, 63, 64, 65, 66, 67, 68, 69, 70, 71, 72, 73, 74, 75, 76, 77, 78, 79, 80, 81, 82, 83, 84, 85, 86, 87, 88, 89, 90, 91, 92, 93, 94, 95, 96, 97, 98, 99, 100, 101, 102, 103, 104, 105, 106, 107, 108, 109, 110, 111, 112, 113, 114, 115, 116, 117, 118, 119, 120, 121, 122, 123, 124, 125, 126, 127, 128, 129, 130, 131, 132, 133] (by decide +kernel) (by decide +kernel)) (goodIn_sub (fun _ h => List.mem_cons_of_mem _ (List.mem_append_left _ (List.mem_append_right _ h))) (by decide +kernel))) (goodIn_sub (fun _ h => List.mem_cons_of_mem _ (List.mem_append_right _ h)) (by decide +kernel))
set_option maxRecDepth 20000 in
theorem gL_stop_X6_stop : GoodIn wsL_stop (wsV RL 25 RX6 yX6_stop wsX6_stop) := goodIn_app (goodIn_of _ (by decide +kernel)) ggL_stop_X6_stop
theorem dL_stop_0 : decode cL_stop 0 = .ok (.aload_n 0, 1) := by decide +kernel
theorem dL_stop_1 : decode cL_stop 1 = .ok (.iload_n 1, 1) := by decide +kernel
theorem dL_stop_2 : decode cL_stop 2 = .ok (.iload_n 2, 1) := by decide +kernel
theorem dL_stop_3 : decode cL_stop 3 = .ok (.invokevirtual 25, 3) := by decide +kernel
theorem dL_stop_6 : decode cL_stop 6 = .ok (.ireturn, 1) := by decide +kernel
theorem dL_stop_7 : decode cL_stop 7 = .ok (.astore_n 3, 1) := by decide +kernel
theorem dL_stop_8 : decode cL_stop 8 = .ok (.sipush (-903), 3) := by decide +kernel
theorem dL_stop_11 : decode cL_stop 11 = .ok (.ireturn, 1) := by decide +kernel
theorem dL_stop_12 : decode cL_stop 12 = .ok (.astore_n 3, 1) := by decide +kernel
theorem dL_stop_13 : decode cL_stop 13 = .ok (.sipush (-901), 3) := by decide +kernel
theorem dL_stop_16 : decode cL_stop 16 = .ok (.ireturn, 1) := by decide +kernel
set_option maxRecDepth 20000 in
theorem ggL_block_X6_block : GoodIn wsL_block wsX6_block := goodIn_ca (goodIn_ca (goodIn_r _ [7, 8, 9, 10, 6, 11, 12, 13, 14, 15, 16, 17, 18, 19, 20, 21, 22, 23, 24, 25, 26, 27, 28, 29, 30, 31, 32, 33, 34, 35, 36, 37, 38, 39, 40, 41, 42, 43, 44, 45, 46, 47, 48, 49, 50, 51, 52, 53, 54, 55, 56, 57, 58, 59, 60, 61, 62, 63, 64, 65, 66, 67, 68, 69, 70, 71, 72, 73, 74, 75, 76, 77, 78, 79, 80, 81, 82, 83, 84, 85, 86, 87, 88, 89, 90, 91, 92, 93, 94, 95, 96, 97, 98, 99, 100, 101, 102, 103, 104, 105, 106, 107, 108, 109, 110, 111, 112, 113, 114, 115, 116, 117, 118, 119, 120, 121, 122, 123, 124, 125, 126, 127, 128, 129, 130, 131, 132, 133, 134, 135, 136, 137, 138, 139, 140, 141, 142, 143, 144, 145, 146, 147, 148, 149, 150, 151, 152, 153, 154, 155, 156, 157] (by decide +kernel) (by decide +kernel)) (goodIn_sub (fun _ h => List.mem_cons_of_mem _ (List.mem_append_left _ (List.mem_append_right _ h))) (by decide +kernel))) (goodIn_sub (fun _ h => List.mem_cons_of_mem _ (List.mem_append_right _ h)) (by decide +kernel))
set_option maxRecDepth 20000 in
theorem gL_block_X6_block : GoodIn wsL_block (wsV RL 28 RX6 yX6_block wsX6_block) := goodIn_app (goodIn_of _ (by decide +kernel)) ggL_block_X6_block
theorem dL_block_0 : decode cL_block 0 = .ok (.aload_n 0, 1) := by decide +kernel
theorem dL_block_1 : decode cL_block 1 = .ok (.iload_n 1, 1) := by decide +kernel
theorem dL_block_2 : decode cL_block 2 = .ok (.iload_n 2, 1) := by decide +kernel
theorem dL_block_3 : decode cL_block 3 = .ok (.iload_n 3, 1) := by decide +kernel
theorem dL_block_4 : decode cL_block 4 = .ok (.invokevirtual 28, 3) := by decide +kernel
theorem dL_block_7 : decode cL_block 7 = .ok (.ireturn, 1) := by decide +kernel
theorem dL_block_8 : decode cL_block 8 = .ok (.astore 4, 2) := by decide +kernel
theorem dL_block_10 : decode cL_block 10 = .ok (.sipush (-903), 3) := by decide +kernel
theorem dL_block_13 : decode cL_block 13 = .ok (.ireturn, 1) := by decide +kernel
theorem dL_block_14 : decode cL_block 14 = .ok (.astore 4, 2) := by decide +kernel
theorem dL_block_16 : decode cL_block 16 = .ok (.sipush (-901), 3) := by decide +kernel
theorem dL_block_19 : decode cL_block 19 = .ok (.ireturn, 1) := by decide +kernel
set_option maxRecDepth 20000 in
theorem ggL_turnOn_X6_turnOn : GoodIn wsL_turnOn wsX6_turnOn := goodIn_ca (goodIn_ca (goodIn_r _ [7, 8, 9, 10, 11, 12, 6, 13, 14, 15, 16, 17, 18, 19, 20, 21, 22, 23, 24, 25, 26, 27, 28, 29, 30, 31, 32, 33, 34, 35, 36, 37, 38, 39, 40, 41, 42, 43, 44, 45, 46, 47, 48, 49, 50, 51, 52, 53, 54, 55, 56, 57, 58, 59, 60, 61, 62, 63, 64, 65, 66, 67, 68, 69, 70, 71, 72, 73, 74, 75, 76, 77, 78, 79, 80, 81, 82, 83, 84, 85, 86, 87, 88, 89, 90, 91, 92, 93, 94, 95, 96, 97, 98, 99, 100, 101, 102, 103, 104, 105, 106, 107, 108, 109, 110, 111, 112, 113, 114, 115, 116, 117, 118, 119, 120, 121, 122, 123, 124, 125, 126, 127, 128, 129, 130, 131, 132, 133, 134, 135, 136, 137, 138, 139, 140, 141, 142, 143, 144, 145, 146, 147, 148, 149, 150] (by decide +kernel) (by decide +kernel)) (goodIn_sub (fun _ h => List.mem_cons_of_mem _ (List.mem_append_left _ (List.mem_append_right _ h))) (by decide +kernel))) (goodIn_sub (fun _ h => List.mem_cons_of_mem _ (List.mem_append_right _ h)) (by decide +kernel))
set_option maxRecDepth 20000 in
theorem gL_turnOn_X6_turnOn : GoodIn wsL_turnOn (wsV RL 32 RX6 yX6_turnOn wsX6_turnOn) := goodIn_app (goodIn_of _ (by decide +kernel)) ggL_turnOn_X6_turnOn
theorem dL_turnOn_0 : decode cL_turnOn 0 = .ok (.aload_n 0, 1) := by decide +kernel
theorem dL_turnOn_1 : decode cL_turnOn 1 = .ok (.iload_n 1, 1) := by decide +kernel
theorem dL_turnOn_2 : decode cL_turnOn 2 = .ok (.iload_n 2, 1) := by decide +kernel
theorem dL_turnOn_3 : decode cL_turnOn 3 = .ok (.iload_n 3, 1) := by decide +kernel
theorem dL_turnOn_4 : decode cL_turnOn 4 = .ok (.iload 4, 2) := by decide +kernel
theorem dL_turnOn_6 : decode cL_turnOn 6 = .ok (.invokevirtual 32, 3) := by decide +kernel
theorem dL_turnOn_9 : decode cL_turnOn 9 = .ok (.ireturn, 1) := by decide +kernel
theorem dL_turnOn_10 : decode cL_turnOn 10 = .ok (.astore 5, 2) := by decide +kernel
theorem dL_turnOn_12 : decode cL_turnOn 12 = .ok (.sipush (-903), 3) := by decide +kernel
theorem dL_turnOn_15 : decode cL_turnOn 15 = .ok (.ireturn, 1) := by decide +kernel
theorem dL_turnOn_16 : decode cL_turnOn 16 = .ok (.astore 5, 2) := by decide +kernel
theorem dL_turnOn_18 : decode cL_turnOn 18 = .ok (.sipush (-901), 3) := by decide +kernel
theorem dL_turnOn_21 : decode cL_turnOn 21 = .ok (.ireturn, 1) := by decide +kernel
set_option maxRecDepth 20000 in
theorem ggL_turnOff_X6_turnOff : GoodIn wsL_turnOff wsX6_turnOff := goodIn_ca (goodIn_ca (goodIn_r _ [7, 8, 9, 10, 11, 12, 13, 6, 14, 15, 16, 17, 18, 19, 20, 21, 22, 23, 24, 25, 26, 27, 28, 29, 30, 31, 32, 33, 34, 35, 36, 37, 38, 39, 40, 41, 42, 43, 44, 45, 46, 47, 48, 49, 50, 51, 52, 53, 54, 55, 56, 57, 58, 59, 60, 61, 62, 63, 64, 65, 66, 67, 68, 69, 70, 71, 72, 73, 74, 75, 76, 77, 78, 79, 80, 81, 82, 83, 84, 85, 86, 87, 88, 89, 90, 91, 92, 93, 94, 95, 96, 97, 98, 99, 100, 101, 102, 103, 104, 105, 106, 107, 108, 109, 110, 111, 112, 113, 114, 115, 116, 117, 118, 119, 120, 121, 122, 123, 124, 125, 126, 127, 128, 129, 130, 131, 132, 133, 134, 135, 136, 137, 138, 139, 140, 141, 142, 143, 144, 145, 146, 147, 148, 149, 150, 151, 152] (by decide +kernel) (by decide +kernel)) (goodIn_sub (fun _ h => List.mem_cons_of_mem _ (List.mem_append_left _ (List.mem_append_right _ h))) (by decide +kernel))) (goodIn_sub (fun _ h => List.mem_cons_of_mem _ (List.mem_append_right _ h)) (by decide +kernel))
set_option maxRecDepth 20000 in
theorem gL_turnOff_X6_turnOff : GoodIn wsL_turnOff (wsV RL 36 RX6 yX6_turnOff wsX6_turnOff) := goodIn_app (goodIn_of _ (by decide +kernel)) ggL_turnOff_X6_turnOff
theorem dL_turnOff_0 : decode cL_turnOff 0 = .ok (.aload_n 0, 1) := by decide +kernel
theorem dL_turnOff_1 : decode cL_turnOff 1 = .ok (.iload_n 1, 1) := by decide +kernel
theorem dL_turnOff_2 : decode cL_turnOff 2 = .ok (.iload_n 2, 1) := by decide +kernel
theorem dL_turnOff_3 : decode cL_turnOff 3 = .ok (.invokevirtual 36, 3) := by decide +kernel
theorem dL_turnOff_6 : decode cL_turnOff 6 = .ok (.ireturn, 1) := by decide +kernel
theorem dL_turnOff_7 : decode cL_turnOff 7 = .ok (.astore_n 3, 1) := by decide +kernel
theorem dL_turnOff_8 : decode cL_turnOff 8 = .ok (.sipush (-903), 3) := by decide +kernel
theorem dL_turnOff_11 : decode cL_turnOff 11 = .ok (.ireturn, 1) := by decide +kernel
theorem dL_turnOff_12 : decode cL_turnOff 12 = .ok (.astore_n 3, 1) := by decide +kernel
theorem dL_turnOff_13 : decode cL_turnOff 13 = .ok (.sipush (-902), 3) := by decide +kernel
theorem dL_turnOff_16 : decode cL_turnOff 16 = .ok (.ireturn, 1) := by decide +kernel
set_option maxRecDepth 20000 in
theorem ggL_bestSeat_X6_bestSeat : GoodIn wsL_bestSeat wsX6_bestSeat := goodIn_ca (goodIn_r _ [6, 7, 8, 9, 10, 5, 11, 12, 13, 14, 15, 16, 17, 18, 19, 20, 21, 22, 23, 24, 25, 26, 27, 28, 29, 30, 31, 32, 33, 34, 35, 36, 37] (by decide +kernel) (by decide +kernel)) (goodIn_sub (fun _ h => List.mem_cons_of_mem _ (List.mem_append_right _ h)) (by decide +kernel))
set_option maxRecDepth 20000 in
theorem gL_bestSeat_X6_bestSeat : GoodIn wsL_bestSeat (wsV RL 41 RX6 yX6_bestSeat wsX6_bestSeat) := goodIn_app (goodIn_of _ (by decide +kernel)) ggL_bestSeat_X6_bestSeat
theorem dL_bestSeat_0 : decode cL_bestSeat 0 = .ok (.aload_n 0, 1) := by decide +kernel
theorem dL_bestSeat_1 : decode cL_bestSeat 1 = .ok (.iload_n 1, 1) := by decide +kernel
theorem dL_bestSeat_2 : decode cL_bestSeat 2 = .ok (.invokevirtual 41, 3) := by decide +kernel
theorem dL_bestSeat_5 : decode cL_bestSeat 5 = .ok (.ireturn, 1) := by decide +kernel
theorem dL_bestSeat_6 : decode cL_bestSeat 6 = .ok (.astore_n 2, 1) := by decide +kernel
theorem dL_bestSeat_7 : decode cL_bestSeat 7 = .ok (.sipush (-903), 3) := by decide +kernel
theorem dL_bestSeat_10 : decode cL_bestSeat 10 = .ok (.ireturn, 1) := by decide +kernel
set_option maxRecDepth 20000 in
theorem ggL_seat_X6_seat : GoodIn wsL_seat wsX6_seat := goodIn_ca (goodIn_ca (goodIn_r _ [7, 8, 9, 10, 11, 6, 12, 13, 14, 15, 16, 17, 18, 19, 20, 21, 22, 23, 24, 25, 26, 27, 28, 29, 30, 31, 32, 33, 34, 35, 36, 37, 38, 39, 40, 41, 42, 43] (by decide +kernel) (by decide +kernel)) (goodIn_sub (fun _ h => List.mem_cons_of_mem _ (List.mem_append_left _ (List.mem_append_right _ h))) (by decide +kernel))) (goodIn_sub (fun _ h => List.mem_cons_of_mem _ (List.mem_append_right _ h)) (by decide +kernel))
set_option maxRecDepth 20000 in
theorem gL_seat_X6_seat : GoodIn wsL_seat (wsV RL 45 RX6 yX6_seat wsX6_seat) := goodIn_app (goodIn_of _ (by decide +kernel)) ggL_seat_X6_seat
theorem dL_seat_0 : decode cL_seat 0 = .ok (.aload_n 0, 1) := by decide +kernel
theorem dL_seat_1 : decode cL_seat 1 = .ok (.iload_n 1, 1) := by decide +kernel
theorem dL_seat_2 : decode cL_seat 2 = .ok (.iload_n 2, 1) := by decide +kernel
theorem dL_seat_3 : decode cL_seat 3 = .ok (.iload_n 3, 1) := by decide +kernel
theorem dL_seat_4 : decode cL_seat 4 = .ok (.invokevirtual 45, 3) := by decide +kernel
theorem dL_seat_7 : decode cL_seat 7 = .ok (.ireturn, 1) := by decide +kernel
theorem dL_seat_8 : decode cL_seat 8 = .ok (.astore 4, 2) := by decide +kernel
theorem dL_seat_10 : decode cL_seat 10 = .ok (.sipush (-903), 3) := by decide +kernel
theorem dL_seat_13 : decode cL_seat 13 = .ok (.ireturn, 1) := by decide +kernel
theorem dL_seat_14 : decode cL_seat 14 = .ok (.astore 4, 2) := by decide +kernel
theorem dL_seat_16 : decode cL_seat 16 = .ok (.sipush (-901), 3) := by decide +kernel
theorem dL_seat_19 : decode cL_seat 19 = .ok (.ireturn, 1) := by decide +kernel
set_option maxRecDepth 20000 in
theorem ggL_deliver_X6_deliver : GoodIn wsL_deliver wsX6_deliver := goodIn_ca (goodIn_r _ [6, 7, 8, 9, 10, 11, 12, 5, 13, 14, 15, 16, 17, 18, 19, 20, 21, 22, 23, 24, 25, 26, 27, 28, 29, 30, 31, 32, 33, 34, 35, 36, 37, 38, 39, 40, 41, 42, 43, 44, 45, 46, 47, 48, 49, 50, 51, 52, 53, 54, 55, 56, 57, 58, 59, 60, 61, 62, 63, 64, 65, 66, 67, 68, 69, 70, 71, 72, 73, 74, 75, 76, 77, 78, 79, 80, 81, 82, 83, 84, 85, 86, 87, 88, 89, 90, 91, 92, 93, 94, 95, 96, 97, 98, 99, 100, 101, 102, 103, 104, 105, 106, 107, 108, 109, 110, 111, 112, 113, 114, 115, 116, 117, 118, 119, 120, 121, 122, 123, 124, 125, 126, 127, 128, 129, 130, 131, 132, 133, 134, 135, 136, 137, 138, 139, 140, 141, 142, 143, 144, 145, 146, 147, 148, 149, 150, 151, 152, 153, 154, 155, 156, 157, 158, 159, 160, 161, 162, 163, 164, 165, 166, 167, 168, 169, 170, 171, 172, 173, 174, 175, 176] (by decide +kernel) (by decide +kernel)) (goodIn_sub (fun _ h => List.mem_cons_of_mem _ (List.mem_append_right _ h)) (by decide +kernel))
set_option maxRecDepth 20000 in
theorem gL_deliver_X6_deliver : GoodIn wsL_deliver (wsV RL 49 RX6 yX6_deliver wsX6_deliver) := goodIn_app (goodIn_of _ (by decide +kernel)) ggL_deliver_X6_deliver
theorem dL_deliver_0 : decode cL_deliver 0 = .ok (.aload_n 0, 1) := by decide +kernel
theorem dL_deliver_1 : decode cL_deliver 1 = .ok (.iload_n 1, 1) := by decide +kernel
theorem dL_deliver_2 : decode cL_deliver 2 = .ok (.invokevirtual 49, 3) := by decide +kernel
theorem dL_deliver_5 : decode cL_deliver 5 = .ok (.ireturn, 1) := by decide +kernel
theorem dL_deliver_6 : decode cL_deliver 6 = .ok (.astore_n 2, 1) := by decide +kernel
theorem dL_deliver_7 : decode cL_deliver 7 = .ok (.sipush (-901), 3) := by decide +kernel
theorem dL_deliver_10 : decode cL_deliver 10 = .ok (.ireturn, 1) := by decide +kernel
set_option maxRecDepth 20000 in
theorem ggL_lose_X6_lose : GoodIn wsL_lose wsX6_lose := goodIn_ca (goodIn_r _ [6, 7, 8, 9, 10, 11, 5, 12, 13, 14, 15, 16, 17, 18, 19, 20, 21, 22, 23, 24, 25, 26, 27, 28, 29, 30, 31, 32, 33, 34, 35, 36, 37, 38, 39, 40, 41, 42, 43, 44, 45, 46, 47, 48, 49, 50, 51, 52, 53, 54, 55, 56, 57, 58, 59, 60, 61, 62, 63, 64, 65, 66, 67, 68, 69, 70, 71, 72, 73, 74, 75, 76, 77, 78, 79, 80, 81, 82, 83, 84, 85, 86, 87, 88, 89, 90, 91, 92, 93, 94, 95, 96, 97, 98, 99, 100, 101, 102, 103, 104, 105, 106, 107, 108, 109, 110, 111, 112, 113, 114] (by decide +kernel) (by decide +kernel)) (goodIn_sub (fun _ h => List.mem_cons_of_mem _ (List.mem_append_right _ h)) (by decide +kernel))
set_option maxRecDepth 20000 in
theorem gL_lose_X6_lose : GoodIn wsL_lose (wsV RL 52 RX6 yX6_lose wsX6_lose) := goodIn_app (goodIn_of _ (by decide +kernel)) ggL_lose_X6_lose
theorem dL_lose_0 : decode cL_lose 0 = .ok (.aload_n 0, 1) := by decide +kernel
theorem dL_lose_1 : decode cL_lose 1 = .ok (.iload_n 1, 1) := by decide +kernel
theorem dL_lose_2 : decode cL_lose 2 = .ok (.invokevirtual 52, 3) := by decide +kernel
theorem dL_lose_5 : decode cL_lose 5 = .ok (.ireturn, 1) := by decide +kernel
theorem dL_lose_6 : decode cL_lose 6 = .ok (.astore_n 2, 1) := by decide +kernel
theorem dL_lose_7 : decode cL_lose 7 = .ok (.sipush (-903), 3) := by decide +kernel
theorem dL_lose_10 : decode cL_lose 10 = .ok (.ireturn, 1) := by decide +kernel
set_option maxRecDepth 20000 in
theorem ggL_message_X6_message : GoodIn wsL_message wsX6_message := goodIn_ca (goodIn_ca (goodIn_r _ [7, 8, 9, 10, 11, 12, 6, 13, 14, 15, 16, 17, 18, 19, 20, 21, 22, 23, 24, 25, 26, 27, 28, 29, 30, 31, 32, 33, 34, 35, 36, 37, 38, 39, 40, 41, 42, 43, 44, 45, 46, 47, 48, 49, 50, 51, 52, 53] (by decide +kernel) (by decide +kernel)) (goodIn_sub (fun _ h => List.mem_cons_of_mem _ (List.mem_append_left _ (List.mem_append_right _ h))) (by decide +kernel))) (goodIn_sub (fun _ h => List.mem_cons_of_mem _ (List.mem_append_right _ h)) (by decide +kernel))
set_option maxRecDepth 20000 in
theorem gL_message_X6_message : GoodIn wsL_message (wsV RL 55 RX6 yX6_message wsX6_message) := goodIn_app (goodIn_of _ (by decide +kernel)) ggL_message_X6_message
theorem dL_message_0 : decode cL_message 0 = .ok (.aload_n 0, 1) := by decide +kernel
theorem dL_message_1 : decode cL_message 1 = .ok (.iload_n 1, 1) := by decide +kernel
theorem dL_message_2 : decode cL_message 2 = .ok (.iload_n 2, 1) := by decide +kernel
theorem dL_message_3 : decode cL_message 3 = .ok (.invokevirtual 55, 3) := by decide +kernel
theorem dL_message_6 : decode cL_message 6 = .ok (.ireturn, 1) := by decide +kernel
theorem dL_message_7 : decode cL_message 7 = .ok (.astore_n 3, 1) := by decide +kernel
theorem dL_message_8 : decode cL_message 8 = .ok (.sipush (-903), 3) := by decide +kernel
theorem dL_message_11 : decode cL_message 11 = .ok (.ireturn, 1) := by decide +kernel
theorem dL_message_12 : decode cL_message 12 = .ok (.astore_n 3, 1) := by decide +kernel
theorem dL_message_13 : decode cL_message 13 = .ok (.sipush (-901), 3) := by decide +kernel
theorem dL_message_16 : decode cL_message 16 = .ok (.ireturn, 1) := by decide +kernel
set_option maxRecDepth 20000 in
theorem ggL_count_X6_count : GoodIn wsL_count wsX6_count := goodIn_ca (goodIn_r _ [6, 7, 8, 9, 10, 11, 5, 12, 13, 14, 15, 16, 17, 18, 19, 20, 21, 22, 23, 24, 25, 26, 27, 28] (by decide +kernel) (by decide +kernel)) (goodIn_sub (fun _ h => List.mem_cons_of_mem _ (List.mem_append_right _ h)) (by decide +kernel))
set_option maxRecDepth 20000 in
theorem gL_count_X6_count : GoodIn wsL_count (wsV RL 58 RX6 yX6_count wsX6_count) := goodIn_app (goodIn_of _ (by decide +kernel)) ggL_count_X6_count
theorem dL_count_0 : decode cL_count 0 = .ok (.aload_n 0, 1) := by decide +kernel
theorem dL_count_1 : decode cL_count 1 = .ok (.iload_n 1, 1) := by decide +kernel
theorem dL_count_2 : decode cL_count 2 = .ok (.invokevirtual 58, 3) := by decide +kernel
theorem dL_count_5 : decode cL_count 5 = .ok (.ireturn, 1) := by decide +kernel
theorem dL_count_6 : decode cL_count 6 = .ok (.astore_n 2, 1) := by decide +kernel
theorem dL_count_7 : decode cL_count 7 = .ok (.sipush (-901), 3) := by decide +kernel
theorem dL_count_10 : decode cL_count 10 = .ok (.ireturn, 1) := by decide +kernel
set_option maxRecDepth 20000 in
theorem ggL_entry_X6_entry : GoodIn wsL_entry wsX6_entry := goodIn_ca (goodIn_ca (goodIn_r _ [7, 8, 9, 10, 11, 6, 12, 13, 14, 15, 16, 17, 18, 19, 20, 21, 22, 23, 24, 25, 26, 27, 28, 29, 30, 31, 32, 33, 34, 35, 36, 37, 38] (by decide +kernel) (by decide +kernel)) (goodIn_sub (fun _ h => List.mem_cons_of_mem _ (List.mem_append_left _ (List.mem_append_right _ h))) (by decide +kernel))) (goodIn_sub (fun _ h => List.mem_cons_of_mem _ (List.mem_append_right _ h)) (by decide +kernel))
set_option maxRecDepth 20000 in
theorem gL_entry_X6_entry : GoodIn wsL_entry (wsV RL 61 RX6 yX6_entry wsX6_entry) := goodIn_app (goodIn_of _ (by decide +kernel)) ggL_entry_X6_entry
theorem dL_entry_0 : decode cL_entry 0 = .ok (.aload_n 0, 1) := by decide +kernel
theorem dL_entry_1 : decode cL_entry 1 = .ok (.iload_n 1, 1) := by decide +kernel
theorem dL_entry_2 : decode cL_entry 2 = .ok (.iload_n 2, 1) := by decide +kernel
theorem dL_entry_3 : decode cL_entry 3 = .ok (.invokevirtual 61, 3) := by decide +kernel
theorem dL_entry_6 : decode cL_entry 6 = .ok (.ireturn, 1) := by decide +kernel
theorem dL_entry_7 : decode cL_entry 7 = .ok (.astore_n 3, 1) := by decide +kernel
theorem dL_entry_8 : decode cL_entry 8 = .ok (.sipush (-903), 3) := by decide +kernel
theorem dL_entry_11 : decode cL_entry 11 = .ok (.ireturn, 1) := by decide +kernel
theorem dL_entry_12 : decode cL_entry 12 = .ok (.astore_n 3, 1) := by decide +kernel
theorem dL_entry_13 : decode cL_entry 13 = .ok (.sipush (-901), 3) := by decide +kernel
theorem dL_entry_16 : decode cL_entry 16 = .ok (.ireturn, 1) := by decide +kernel
set_option maxRecDepth 20000 in
theorem ggL_version_X6_version : GoodIn wsL_version wsX6_version := goodIn_ca (goodIn_ca (goodIn_r _ [7, 8, 9, 10, 11, 6, 12, 13, 14, 15, 16, 17, 18, 19, 20, 21, 22, 23, 24, 25, 26, 27, 28, 29, 30, 31, 32, 33, 34, 35, 36, 37, 38, 39, 40, 41, 42, 43] (by decide +kernel) (by decide +kernel)) (goodIn_sub (fun _ h => List.mem_cons_of_mem _ (List.mem_append_left _ (List.mem_append_right _ h))) (by decide +kernel))) (goodIn_sub (fun _ h => List.mem_cons_of_mem _ (List.mem_append_right _ h)) (by decide +kernel))
set_option maxRecDepth 20000 in
theorem gL_version_X6_version : GoodIn wsL_version (wsV RL 64 RX6 yX6_version wsX6_version) := goodIn_app (goodIn_of _ (by decide +kernel)) ggL_version_X6_version
theorem dL_version_0 : decode cL_version 0 = .ok (.aload_n 0, 1) := by decide +kernel
theorem dL_version_1 : decode cL_version 1 = .ok (.iload_n 1, 1) := by decide +kernel
theorem dL_version_2 : decode cL_version 2 = .ok (.iload_n 2, 1) := by decide +kernel
theorem dL_version_3 : decode cL_version 3 = .ok (.invokevirtual 64, 3) := by decide +kernel
theorem dL_version_6 : decode cL_version 6 = .ok (.ireturn, 1) := by decide +kernel
theorem dL_version_7 : decode cL_version 7 = .ok (.astore_n 3, 1) := by decide +kernel

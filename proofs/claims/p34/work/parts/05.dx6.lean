set_option maxRecDepth 20000 in
theorem ggX6_init_X5_init : GoodIn wsX6_init wsX5_init := goodIn_r _ [15, 16, 2, 3, 17, 18, 19, 20, 21, 22, 23, 24, 25, 26, 27, 28, 29, 30, 31, 32, 33, 34, 35, 36, 37, 38, 39, 40, 41, 42, 43, 44, 45, 46, 47, 48, 49, 50, 51, 52, 53, 54, 55, 56, 57, 58, 59, 60, 78, 79, 80, 66, 67, 68, 69, 70, 81, 82, 83, 84, 85, 86, 87, 88] (by decide +kernel) (by decide +kernel)
set_option maxRecDepth 20000 in
theorem gX6_init_X5_init_n11 : GoodIn wsX6_init (wsX5_init) := ggX6_init_X5_init
set_option maxRecDepth 20000 in
theorem ggX6_init_X2_init : GoodIn wsX6_init wsX2_init := goodIn_r _ [62, 63, 2, 3, 64, 65, 76, 77] (by decide +kernel) (by decide +kernel)
set_option maxRecDepth 20000 in
theorem gX6_init_X2_init_n21 : GoodIn wsX6_init (wsX2_init) := ggX6_init_X2_init
theorem dX6_init_0 : decode cX6_init 0 = .ok (.aload_n 0, 1) := by decide +kernel
theorem dX6_init_1 : decode cX6_init 1 = .ok (.invokespecial 3, 3) := by decide +kernel
theorem dX6_init_4 : decode cX6_init 4 = .ok (.aload_n 0, 1) := by decide +kernel
theorem dX6_init_5 : decode cX6_init 5 = .ok (.new 9, 3) := by decide +kernel
theorem dX6_init_8 : decode cX6_init 8 = .ok (.dup, 1) := by decide +kernel
theorem dX6_init_9 : decode cX6_init 9 = .ok (.invokespecial 11, 3) := by decide +kernel
theorem dX6_init_12 : decode cX6_init 12 = .ok (.putfield 12, 3) := by decide +kernel
theorem dX6_init_15 : decode cX6_init 15 = .ok (.aload_n 0, 1) := by decide +kernel
theorem dX6_init_16 : decode cX6_init 16 = .ok (.new 9, 3) := by decide +kernel
theorem dX6_init_19 : decode cX6_init 19 = .ok (.dup, 1) := by decide +kernel
theorem dX6_init_20 : decode cX6_init 20 = .ok (.invokespecial 11, 3) := by decide +kernel
theorem dX6_init_23 : decode cX6_init 23 = .ok (.putfield 16, 3) := by decide +kernel
theorem dX6_init_26 : decode cX6_init 26 = .ok (.aload_n 0, 1) := by decide +kernel
theorem dX6_init_27 : decode cX6_init 27 = .ok (.new 19, 3) := by decide +kernel
theorem dX6_init_30 : decode cX6_init 30 = .ok (.dup, 1) := by decide +kernel
theorem dX6_init_31 : decode cX6_init 31 = .ok (.invokespecial 21, 3) := by decide +kernel
theorem dX6_init_34 : decode cX6_init 34 = .ok (.putfield 22, 3) := by decide +kernel
theorem dX6_init_37 : decode cX6_init 37 = .ok (.aload_n 0, 1) := by decide +kernel
theorem dX6_init_38 : decode cX6_init 38 = .ok (.iconst 4, 1) := by decide +kernel
theorem dX6_init_39 : decode cX6_init 39 = .ok (.anewarray 9, 3) := by decide +kernel
theorem dX6_init_42 : decode cX6_init 42 = .ok (.putfield 26, 3) := by decide +kernel
theorem dX6_init_45 : decode cX6_init 45 = .ok (.iconst 0, 1) := by decide +kernel
theorem dX6_init_46 : decode cX6_init 46 = .ok (.istore_n 1, 1) := by decide +kernel
theorem dX6_init_47 : decode cX6_init 47 = .ok (.iload_n 1, 1) := by decide +kernel
theorem dX6_init_48 : decode cX6_init 48 = .ok (.iconst 4, 1) := by decide +kernel
theorem dX6_init_49 : decode cX6_init 49 = .ok (.if_icmp .ge 22, 3) := by decide +kernel
theorem dX6_init_52 : decode cX6_init 52 = .ok (.aload_n 0, 1) := by decide +kernel
theorem dX6_init_53 : decode cX6_init 53 = .ok (.getfield 26, 3) := by decide +kernel
theorem dX6_init_56 : decode cX6_init 56 = .ok (.iload_n 1, 1) := by decide +kernel
theorem dX6_init_57 : decode cX6_init 57 = .ok (.new 9, 3) := by decide +kernel
theorem dX6_init_60 : decode cX6_init 60 = .ok (.dup, 1) := by decide +kernel
theorem dX6_init_61 : decode cX6_init 61 = .ok (.invokespecial 11, 3) := by decide +kernel
theorem dX6_init_64 : decode cX6_init 64 = .ok (.aastore, 1) := by decide +kernel
theorem dX6_init_65 : decode cX6_init 65 = .ok (.iinc 1 1, 3) := by decide +kernel
theorem dX6_init_68 : decode cX6_init 68 = .ok (.goto (-21), 3) := by decide +kernel
theorem dX6_init_71 : decode cX6_init 71 = .ok (.return_, 1) := by decide +kernel
set_option maxRecDepth 20000 in
theorem ggX6_ask_X6_checkPair : GoodIn wsX6_ask wsX6_checkPair := goodIn_ca (goodIn_ca (goodIn_r _ [5, 6, 7, 8, 9, 4, 10, 11, 12] (by decide +kernel) (by decide +kernel)) (goodIn_sub (fun _ h => List.mem_cons_of_mem _ (List.mem_append_left _ (List.mem_append_right _ h))) (by decide +kernel))) (goodIn_sub (fun _ h => List.mem_cons_of_mem _ (List.mem_append_right _ h)) (by decide +kernel))
set_option maxRecDepth 20000 in
theorem gX6_ask_X6_checkPair : GoodIn wsX6_ask (va_wsS RX6 30 yX6_checkPair wsX6_checkPair) := goodIn_app (goodIn_of _ (by decide +kernel)) ggX6_ask_X6_checkPair
set_option maxRecDepth 20000 in
theorem ggX6_ask_X6_saveState : GoodIn wsX6_ask wsX6_saveState := goodIn_r _ [16, 17, 18, 1, 19, 20, 21, 4, 22, 23, 24, 25, 26, 27, 28, 29, 30, 31, 32, 33, 34, 35, 36, 37, 38, 39, 40, 41, 42, 43, 44, 45, 46, 47, 48, 49, 50, 51, 52, 53, 54, 55, 56, 57, 58, 59, 60, 61, 62, 63, 64, 65, 66, 67, 68, 69, 70, 71, 103, 104, 105, 106, 107, 108, 109, 110, 111, 112, 113, 114, 115, 116, 117, 118, 119, 120, 121, 122, 123] (by decide +kernel) (by decide +kernel)
set_option maxRecDepth 20000 in
theorem gX6_ask_X6_saveState : GoodIn wsX6_ask (wsV RX6 34 RX6 yX6_saveState wsX6_saveState) := goodIn_app (goodIn_of _ (by decide +kernel)) ggX6_ask_X6_saveState
set_option maxRecDepth 20000 in
theorem ggX6_ask_X5_askFor : GoodIn wsX6_ask wsX5_askFor := goodIn_r _ [75, 29, 76, 77, 78, 49, 79, 51, 80, 81, 82, 83, 54, 53, 84, 85, 86, 26, 87, 88, 89, 90, 91, 31, 92, 93, 94, 95, 32, 96, 97, 65, 98, 99, 100, 101, 102, 69, 71, 67, 70, 108, 109, 110, 111, 112, 116, 117, 118, 120, 121, 122, 123] (by decide +kernel) (by decide +kernel)
set_option maxRecDepth 20000 in
theorem gX6_ask_X5_askFor : GoodIn wsX6_ask (wsV RX6 37 RX5 yX5_askFor wsX5_askFor) := goodIn_app (goodIn_of _ (by decide +kernel)) ggX6_ask_X5_askFor
theorem dX6_ask_0 : decode cX6_ask 0 = .ok (.iload_n 1, 1) := by decide +kernel
theorem dX6_ask_1 : decode cX6_ask 1 = .ok (.iload_n 2, 1) := by decide +kernel
theorem dX6_ask_2 : decode cX6_ask 2 = .ok (.invokestatic 30, 3) := by decide +kernel
theorem dX6_ask_5 : decode cX6_ask 5 = .ok (.aload_n 0, 1) := by decide +kernel
theorem dX6_ask_6 : decode cX6_ask 6 = .ok (.invokevirtual 34, 3) := by decide +kernel
theorem dX6_ask_9 : decode cX6_ask 9 = .ok (.aload_n 0, 1) := by decide +kernel
theorem dX6_ask_10 : decode cX6_ask 10 = .ok (.getfield 12, 3) := by decide +kernel
theorem dX6_ask_13 : decode cX6_ask 13 = .ok (.iload_n 1, 1) := by decide +kernel
theorem dX6_ask_14 : decode cX6_ask 14 = .ok (.iload_n 2, 1) := by decide +kernel
theorem dX6_ask_15 : decode cX6_ask 15 = .ok (.invokevirtual 37, 3) := by decide +kernel
theorem dX6_ask_18 : decode cX6_ask 18 = .ok (.ireturn, 1) := by decide +kernel
set_option maxRecDepth 20000 in
theorem ggX6_grant_X6_checkPair : GoodIn wsX6_grant wsX6_checkPair := goodIn_ca (goodIn_ca (goodIn_r _ [5, 6, 7, 8, 9, 4, 10, 11, 12] (by decide +kernel) (by decide +kernel)) (goodIn_sub (fun _ h => List.mem_cons_of_mem _ (List.mem_append_left _ (List.mem_append_right _ h))) (by decide +kernel))) (goodIn_sub (fun _ h => List.mem_cons_of_mem _ (List.mem_append_right _ h)) (by decide +kernel))
set_option maxRecDepth 20000 in
theorem gX6_grant_X6_checkPair : GoodIn wsX6_grant (va_wsS RX6 30 yX6_checkPair wsX6_checkPair) := goodIn_app (goodIn_of _ (by decide +kernel)) ggX6_grant_X6_checkPair
set_option maxRecDepth 20000 in
theorem ggX6_grant_X6_saveState : GoodIn wsX6_grant wsX6_saveState := goodIn_r _ [16, 17, 18, 1, 19, 20, 21, 4, 22, 23, 24, 25, 26, 27, 28, 29, 30, 31, 32, 33, 34, 35, 36, 37, 38, 39, 40, 41, 42, 43, 44, 45, 46, 47, 48, 49, 50, 51, 52, 53, 54, 55, 56, 57, 58, 59, 60, 61, 62, 63, 64, 65, 66, 67, 68, 69, 70, 71, 115, 116, 117, 118, 119, 120, 121, 122, 123, 124, 125, 126, 127, 128, 129, 130, 131, 132, 133, 134, 135] (by decide +kernel) (by decide +kernel)
set_option maxRecDepth 20000 in
theorem gX6_grant_X6_saveState : GoodIn wsX6_grant (wsV RX6 34 RX6 yX6_saveState wsX6_saveState) := goodIn_app (goodIn_of _ (by decide +kernel)) ggX6_grant_X6_saveState
set_option maxRecDepth 20000 in
theorem ggX6_grant_X5_grantTo : GoodIn wsX6_grant wsX5_grantTo := goodIn_r _ [75, 29, 76, 77, 78, 49, 79, 51, 80, 81, 82, 83, 54, 53, 84, 85, 86, 26, 87, 88, 89, 90, 91, 31, 92, 93, 94, 95, 32, 96, 97, 65, 98, 99, 100, 101, 102, 69, 71, 67, 70, 103, 104, 105, 106, 28, 107, 108, 109, 40, 110, 42, 111, 112, 113, 114, 45, 120, 121, 122, 123, 124, 128, 129, 130, 132, 133, 134, 135, 125, 126, 127] (by decide +kernel) (by decide +kernel)
set_option maxRecDepth 20000 in
theorem gX6_grant_X5_grantTo : GoodIn wsX6_grant (wsV RX6 41 RX5 yX5_grantTo wsX5_grantTo) := goodIn_app (goodIn_of _ (by decide +kernel)) ggX6_grant_X5_grantTo
theorem dX6_grant_0 : decode cX6_grant 0 = .ok (.iload_n 1, 1) := by decide +kernel
theorem dX6_grant_1 : decode cX6_grant 1 = .ok (.iload_n 2, 1) := by decide +kernel
theorem dX6_grant_2 : decode cX6_grant 2 = .ok (.invokestatic 30, 3) := by decide +kernel
theorem dX6_grant_5 : decode cX6_grant 5 = .ok (.aload_n 0, 1) := by decide +kernel
theorem dX6_grant_6 : decode cX6_grant 6 = .ok (.invokevirtual 34, 3) := by decide +kernel
theorem dX6_grant_9 : decode cX6_grant 9 = .ok (.aload_n 0, 1) := by decide +kernel
theorem dX6_grant_10 : decode cX6_grant 10 = .ok (.getfield 12, 3) := by decide +kernel
theorem dX6_grant_13 : decode cX6_grant 13 = .ok (.iload_n 1, 1) := by decide +kernel
theorem dX6_grant_14 : decode cX6_grant 14 = .ok (.iload_n 2, 1) := by decide +kernel
theorem dX6_grant_15 : decode cX6_grant 15 = .ok (.invokevirtual 41, 3) := by decide +kernel
theorem dX6_grant_18 : decode cX6_grant 18 = .ok (.ireturn, 1) := by decide +kernel
set_option maxRecDepth 20000 in
theorem ggX6_refuse_X6_checkPair : GoodIn wsX6_refuse wsX6_checkPair := goodIn_ca (goodIn_ca (goodIn_r _ [5, 6, 7, 8, 9, 4, 10, 11, 12] (by decide +kernel) (by decide +kernel)) (goodIn_sub (fun _ h => List.mem_cons_of_mem _ (List.mem_append_left _ (List.mem_append_right _ h))) (by decide +kernel))) (goodIn_sub (fun _ h => List.mem_cons_of_mem _ (List.mem_append_right _ h)) (by decide +kernel))
set_option maxRecDepth 20000 in
theorem gX6_refuse_X6_checkPair : GoodIn wsX6_refuse (va_wsS RX6 30 yX6_checkPair wsX6_checkPair) := goodIn_app (goodIn_of _ (by decide +kernel)) ggX6_refuse_X6_checkPair
set_option maxRecDepth 20000 in
theorem ggX6_refuse_X6_saveState : GoodIn wsX6_refuse wsX6_saveState := goodIn_r _ [16, 17, 18, 1, 19, 20, 21, 4, 22, 23, 24, 25, 26, 27, 28, 29, 30, 31, 32, 33, 34, 35, 36, 37, 38, 39, 40, 41, 42, 43, 44, 45, 46, 47, 48, 49, 50, 51, 52, 53, 54, 55, 56, 57, 58, 59, 60, 61, 62, 63, 64, 65, 66, 67, 68, 69, 70, 71, 111, 112, 113, 114, 115, 116, 117, 118, 119, 120, 121, 122, 123, 124, 125, 126, 127, 128, 129, 130, 131] (by decide +kernel) (by decide +kernel)
set_option maxRecDepth 20000 in
theorem gX6_refuse_X6_saveState : GoodIn wsX6_refuse (wsV RX6 34 RX6 yX6_saveState wsX6_saveState) := goodIn_app (goodIn_of _ (by decide +kernel)) ggX6_refuse_X6_saveState
set_option maxRecDepth 20000 in
theorem ggX6_refuse_X5_refuseTo : GoodIn wsX6_refuse wsX5_refuseTo := goodIn_r _ [75, 29, 76, 77, 78, 49, 79, 51, 80, 81, 82, 83, 54, 53, 84, 85, 86, 26, 87, 88, 89, 90, 91, 31, 92, 93, 94, 95, 32, 96, 97, 65, 98, 99, 100, 101, 102, 69, 71, 67, 70, 103, 104, 105, 106, 28, 107, 108, 109, 40, 110, 42, 116, 117, 118, 119, 120, 124, 125, 126, 128, 129, 130, 131, 121, 122, 123] (by decide +kernel) (by decide +kernel)
set_option maxRecDepth 20000 in
theorem gX6_refuse_X5_refuseTo : GoodIn wsX6_refuse (wsV RX6 44 RX5 yX5_refuseTo wsX5_refuseTo) := goodIn_app (goodIn_of _ (by decide +kernel)) ggX6_refuse_X5_refuseTo
theorem dX6_refuse_0 : decode cX6_refuse 0 = .ok (.iload_n 1, 1) := by decide +kernel
theorem dX6_refuse_1 : decode cX6_refuse 1 = .ok (.iload_n 2, 1) := by decide +kernel
theorem dX6_refuse_2 : decode cX6_refuse 2 = .ok (.invokestatic 30, 3) := by decide +kernel
theorem dX6_refuse_5 : decode cX6_refuse 5 = .ok (.aload_n 0, 1) := by decide +kernel
theorem dX6_refuse_6 : decode cX6_refuse 6 = .ok (.invokevirtual 34, 3) := by decide +kernel
theorem dX6_refuse_9 : decode cX6_refuse 9 = .ok (.aload_n 0, 1) := by decide +kernel
theorem dX6_refuse_10 : decode cX6_refuse 10 = .ok (.getfield 12, 3) := by decide +kernel
theorem dX6_refuse_13 : decode cX6_refuse 13 = .ok (.iload_n 1, 1) := by decide +kernel
theorem dX6_refuse_14 : decode cX6_refuse 14 = .ok (.iload_n 2, 1) := by decide +kernel
theorem dX6_refuse_15 : decode cX6_refuse 15 = .ok (.invokevirtual 44, 3) := by decide +kernel
theorem dX6_refuse_18 : decode cX6_refuse 18 = .ok (.ireturn, 1) := by decide +kernel
set_option maxRecDepth 20000 in
theorem ggX6_stop_X6_checkPair : GoodIn wsX6_stop wsX6_checkPair := goodIn_ca (goodIn_ca (goodIn_r _ [5, 6, 7, 8, 9, 4, 10, 11, 12] (by decide +kernel) (by decide +kernel)) (goodIn_sub (fun _ h => List.mem_cons_of_mem _ (List.mem_append_left _ (List.mem_append_right _ h))) (by decide +kernel))) (goodIn_sub (fun _ h => List.mem_cons_of_mem _ (List.mem_append_right _ h)) (by decide +kernel))
set_option maxRecDepth 20000 in
theorem gX6_stop_X6_checkPair : GoodIn wsX6_stop (va_wsS RX6 30 yX6_checkPair wsX6_checkPair) := goodIn_app (goodIn_of _ (by decide +kernel)) ggX6_stop_X6_checkPair
set_option maxRecDepth 20000 in
theorem ggX6_stop_X6_saveState : GoodIn wsX6_stop wsX6_saveState := goodIn_r _ [16, 17, 18, 1, 19, 20, 21, 4, 22, 23, 24, 25, 26, 27, 28, 29, 30, 31, 32, 33, 34, 35, 36, 37, 38, 39, 40, 41, 42, 43, 44, 45, 46, 47, 48, 49, 50, 51, 52, 53, 54, 55, 56, 57, 58, 59, 60, 61, 62, 63, 64, 65, 66, 67, 68, 69, 70, 71, 107, 108, 109, 110, 111, 112, 113, 114, 115, 116, 117, 118, 119, 120, 121, 122, 123, 124, 125, 126, 127] (by decide +kernel) (by decide +kernel)
set_option maxRecDepth 20000 in
theorem gX6_stop_X6_saveState : GoodIn wsX6_stop (wsV RX6 34 RX6 yX6_saveState wsX6_saveState) := goodIn_app (goodIn_of _ (by decide +kernel)) ggX6_stop_X6_saveState
set_option maxRecDepth 20000 in
theorem ggX6_stop_X5_stopSeeing : GoodIn wsX6_stop wsX5_stopSeeing := goodIn_r _ [75, 29, 30, 76, 77, 78, 49, 79, 51, 80, 81, 82, 83, 54, 53, 84, 85, 86, 26, 87, 88, 89, 90, 91, 31, 92, 93, 94, 95, 32, 96, 97, 65, 98, 99, 100, 101, 102, 69, 71, 67, 70, 103, 104, 105, 58, 106, 60, 112, 113, 114, 115, 116, 120, 121, 122, 124, 125, 126, 127, 123] (by decide +kernel) (by decide +kernel)
set_option maxRecDepth 20000 in
theorem gX6_stop_X5_stopSeeing : GoodIn wsX6_stop (wsV RX6 47 RX5 yX5_stopSeeing wsX5_stopSeeing) := goodIn_app (goodIn_of _ (by decide +kernel)) ggX6_stop_X5_stopSeeing
theorem dX6_stop_0 : decode cX6_stop 0 = .ok (.iload_n 1, 1) := by decide +kernel
theorem dX6_stop_1 : decode cX6_stop 1 = .ok (.iload_n 2, 1) := by decide +kernel
theorem dX6_stop_2 : decode cX6_stop 2 = .ok (.invokestatic 30, 3) := by decide +kernel
theorem dX6_stop_5 : decode cX6_stop 5 = .ok (.aload_n 0, 1) := by decide +kernel
theorem dX6_stop_6 : decode cX6_stop 6 = .ok (.invokevirtual 34, 3) := by decide +kernel
theorem dX6_stop_9 : decode cX6_stop 9 = .ok (.aload_n 0, 1) := by decide +kernel
theorem dX6_stop_10 : decode cX6_stop 10 = .ok (.getfield 12, 3) := by decide +kernel
theorem dX6_stop_13 : decode cX6_stop 13 = .ok (.iload_n 1, 1) := by decide +kernel
theorem dX6_stop_14 : decode cX6_stop 14 = .ok (.iload_n 2, 1) := by decide +kernel
theorem dX6_stop_15 : decode cX6_stop 15 = .ok (.invokevirtual 47, 3) := by decide +kernel
theorem dX6_stop_18 : decode cX6_stop 18 = .ok (.ireturn, 1) := by decide +kernel
set_option maxRecDepth 20000 in
theorem ggX6_block_X6_checkPair : GoodIn wsX6_block wsX6_checkPair := goodIn_ca (goodIn_ca (goodIn_r _ [5, 6, 7, 8, 9, 4, 10, 11, 12] (by decide +kernel) (by decide +kernel)) (goodIn_sub (fun _ h => List.mem_cons_of_mem _ (List.mem_append_left _ (List.mem_append_right _ h))) (by decide +kernel))) (goodIn_sub (fun _ h => List.mem_cons_of_mem _ (List.mem_append_right _ h)) (by decide +kernel))
set_option maxRecDepth 20000 in
theorem gX6_block_X6_checkPair : GoodIn wsX6_block (va_wsS RX6 30 yX6_checkPair wsX6_checkPair) := goodIn_app (goodIn_of _ (by decide +kernel)) ggX6_block_X6_checkPair
set_option maxRecDepth 20000 in
theorem ggX6_block_X6_saveState : GoodIn wsX6_block wsX6_saveState := goodIn_r _ [16, 17, 18, 1, 19, 20, 21, 4, 22, 23, 24, 25, 26, 27, 28, 29, 30, 31, 32, 33, 34, 35, 36, 37, 38, 39, 40, 41, 42, 43, 44, 45, 46, 47, 48, 49, 50, 51, 52, 53, 54, 55, 56, 57, 58, 59, 60, 61, 62, 63, 64, 65, 66, 67, 68, 69, 70, 71, 131, 132, 133, 134, 135, 136, 137, 138, 139, 140, 141, 142, 143, 144, 145, 146, 147, 148, 149, 150, 151] (by decide +kernel) (by decide +kernel)
set_option maxRecDepth 20000 in
theorem gX6_block_X6_saveState : GoodIn wsX6_block (wsV RX6 34 RX6 yX6_saveState wsX6_saveState) := goodIn_app (goodIn_of _ (by decide +kernel)) ggX6_block_X6_saveState
set_option maxRecDepth 20000 in
theorem ggX6_block_X5_changeBlock : GoodIn wsX6_block wsX5_changeBlock := goodIn_r _ [75, 32, 29, 30, 76, 77, 78, 49, 79, 51, 80, 81, 82, 26, 83, 28, 84, 85, 86, 40, 87, 42, 88, 89, 90, 91, 31, 92, 93, 94, 95, 96, 97, 65, 98, 99, 100, 101, 102, 69, 71, 67, 70, 103, 104, 105, 58, 106, 60, 107, 108, 109, 110, 111, 112, 113, 114, 115, 116, 117, 118, 119, 120, 121, 122, 123, 124, 125, 126, 127, 128, 129, 130, 45, 136, 137, 138, 139, 140, 144, 145, 146, 141, 142, 143, 148, 149, 150, 151, 147] (by decide +kernel) (by decide +kernel)
set_option maxRecDepth 20000 in
theorem gX6_block_X5_changeBlock : GoodIn wsX6_block (wsV RX6 50 RX5 yX5_changeBlock wsX5_changeBlock) := goodIn_app (goodIn_of _ (by decide +kernel)) ggX6_block_X5_changeBlock
theorem dX6_block_0 : decode cX6_block 0 = .ok (.iload_n 1, 1) := by decide +kernel
theorem dX6_block_1 : decode cX6_block 1 = .ok (.iload_n 2, 1) := by decide +kernel
theorem dX6_block_2 : decode cX6_block 2 = .ok (.invokestatic 30, 3) := by decide +kernel
theorem dX6_block_5 : decode cX6_block 5 = .ok (.aload_n 0, 1) := by decide +kernel
theorem dX6_block_6 : decode cX6_block 6 = .ok (.invokevirtual 34, 3) := by decide +kernel
theorem dX6_block_9 : decode cX6_block 9 = .ok (.aload_n 0, 1) := by decide +kernel
theorem dX6_block_10 : decode cX6_block 10 = .ok (.getfield 12, 3) := by decide +kernel
theorem dX6_block_13 : decode cX6_block 13 = .ok (.iload_n 1, 1) := by decide +kernel
theorem dX6_block_14 : decode cX6_block 14 = .ok (.iload_n 2, 1) := by decide +kernel
theorem dX6_block_15 : decode cX6_block 15 = .ok (.iload_n 3, 1) := by decide +kernel
theorem dX6_block_16 : decode cX6_block 16 = .ok (.invokevirtual 50, 3) := by decide +kernel
theorem dX6_block_19 : decode cX6_block 19 = .ok (.ireturn, 1) := by decide +kernel
set_option maxRecDepth 20000 in
theorem ggX6_turnOn_X6_checkSeat : GoodIn wsX6_turnOn wsX6_checkSeat := goodIn_ca (goodIn_r _ [7, 8, 9, 10, 11, 6, 12] (by decide +kernel) (by decide +kernel)) (goodIn_sub (fun _ h => List.mem_cons_of_mem _ (List.mem_append_right _ h)) (by decide +kernel))
set_option maxRecDepth 20000 in
theorem gX6_turnOn_X6_checkSeat : GoodIn wsX6_turnOn (va_wsS RX6 54 yX6_checkSeat wsX6_checkSeat) := goodIn_app (goodIn_of _ (by decide +kernel)) ggX6_turnOn_X6_checkSeat
set_option maxRecDepth 20000 in
theorem ggX6_turnOn_X6_saveState : GoodIn wsX6_turnOn wsX6_saveState := goodIn_r _ [16, 17, 18, 3, 19, 20, 21, 6, 22, 23, 24, 25, 26, 27, 28, 29, 30, 31, 32, 33, 34, 35, 36, 37, 38, 39, 40, 41, 42, 43, 44, 45, 46, 47, 48, 49, 50, 51, 52, 53, 54, 55, 56, 57, 58, 59, 60, 61, 62, 63, 64, 65, 66, 67, 68, 69, 70, 71, 124, 125, 126, 127, 128, 129, 130, 131, 132, 133, 134, 135, 136, 137, 138, 139, 140, 141, 142, 143, 144] (by decide +kernel) (by decide +kernel)
set_option maxRecDepth 20000 in
theorem gX6_turnOn_X6_saveState : GoodIn wsX6_turnOn (wsV RX6 34 RX6 yX6_saveState wsX6_saveState) := goodIn_app (goodIn_of _ (by decide +kernel)) ggX6_turnOn_X6_saveState
set_option maxRecDepth 20000 in
theorem ggX6_turnOn_X5_switchOn : GoodIn wsX6_turnOn wsX5_switchOn := goodIn_r _ [75, 28, 30, 29, 76, 77, 78, 40, 79, 80, 81, 82, 83, 42, 84, 85, 86, 87, 44, 45, 88, 89, 90, 58, 91, 92, 93, 94, 95, 60, 96, 97, 98, 49, 99, 51, 100, 101, 102, 26, 103, 104, 105, 106, 107, 31, 108, 109, 110, 111, 32, 112, 113, 65, 114, 115, 116, 117, 118, 69, 71, 67, 70, 119, 120, 121, 122, 123, 129, 130, 131, 132, 133, 134, 135, 136, 140, 137, 138, 139, 141, 142, 143, 144] (by decide +kernel) (by decide +kernel)
set_option maxRecDepth 20000 in
theorem gX6_turnOn_X5_switchOn : GoodIn wsX6_turnOn (wsV RX6 64 RX5 yX5_switchOn wsX5_switchOn) := goodIn_app (goodIn_of _ (by decide +kernel)) ggX6_turnOn_X5_switchOn
theorem dX6_turnOn_0 : decode cX6_turnOn 0 = .ok (.iload_n 1, 1) := by decide +kernel
theorem dX6_turnOn_1 : decode cX6_turnOn 1 = .ok (.iload_n 2, 1) := by decide +kernel
theorem dX6_turnOn_2 : decode cX6_turnOn 2 = .ok (.invokestatic 54, 3) := by decide +kernel
theorem dX6_turnOn_5 : decode cX6_turnOn 5 = .ok (.iload_n 3, 1) := by decide +kernel
theorem dX6_turnOn_6 : decode cX6_turnOn 6 = .ok (.bipush (-9), 2) := by decide +kernel
theorem dX6_turnOn_8 : decode cX6_turnOn 8 = .ok (.if_icmp .lt 20, 3) := by decide +kernel
theorem dX6_turnOn_11 : decode cX6_turnOn 11 = .ok (.iload_n 3, 1) := by decide +kernel
theorem dX6_turnOn_12 : decode cX6_turnOn 12 = .ok (.bipush 9, 2) := by decide +kernel
theorem dX6_turnOn_14 : decode cX6_turnOn 14 = .ok (.if_icmp .gt 14, 3) := by decide +kernel
theorem dX6_turnOn_17 : decode cX6_turnOn 17 = .ok (.iload 4, 2) := by decide +kernel
theorem dX6_turnOn_19 : decode cX6_turnOn 19 = .ok (.ifCond .lt 9, 3) := by decide +kernel
theorem dX6_turnOn_22 : decode cX6_turnOn 22 = .ok (.iload 4, 2) := by decide +kernel
theorem dX6_turnOn_24 : decode cX6_turnOn 24 = .ok (.iconst 5, 1) := by decide +kernel
theorem dX6_turnOn_25 : decode cX6_turnOn 25 = .ok (.if_icmp .lt 13, 3) := by decide +kernel
theorem dX6_turnOn_28 : decode cX6_turnOn 28 = .ok (.new 57, 3) := by decide +kernel
theorem dX6_turnOn_31 : decode cX6_turnOn 31 = .ok (.dup, 1) := by decide +kernel
theorem dX6_turnOn_32 : decode cX6_turnOn 32 = .ok (.ldc 59, 2) := by decide +kernel
theorem dX6_turnOn_34 : decode cX6_turnOn 34 = .ok (.invokespecial 61, 3) := by decide +kernel
theorem dX6_turnOn_37 : decode cX6_turnOn 37 = .ok (.athrow, 1) := by decide +kernel
theorem dX6_turnOn_38 : decode cX6_turnOn 38 = .ok (.aload_n 0, 1) := by decide +kernel
theorem dX6_turnOn_39 : decode cX6_turnOn 39 = .ok (.invokevirtual 34, 3) := by decide +kernel
theorem dX6_turnOn_42 : decode cX6_turnOn 42 = .ok (.aload_n 0, 1) := by decide +kernel
theorem dX6_turnOn_43 : decode cX6_turnOn 43 = .ok (.getfield 12, 3) := by decide +kernel
theorem dX6_turnOn_46 : decode cX6_turnOn 46 = .ok (.iload_n 1, 1) := by decide +kernel
theorem dX6_turnOn_47 : decode cX6_turnOn 47 = .ok (.iload_n 2, 1) := by decide +kernel
theorem dX6_turnOn_48 : decode cX6_turnOn 48 = .ok (.iload_n 3, 1) := by decide +kernel
theorem dX6_turnOn_49 : decode cX6_turnOn 49 = .ok (.iload 4, 2) := by decide +kernel
theorem dX6_turnOn_51 : decode cX6_turnOn 51 = .ok (.invokevirtual 64, 3) := by decide +kernel
theorem dX6_turnOn_54 : decode cX6_turnOn 54 = .ok (.ireturn, 1) := by decide +kernel
set_option maxRecDepth 20000 in
theorem ggX6_turnOff_X6_checkSeat : GoodIn wsX6_turnOff wsX6_checkSeat := goodIn_ca (goodIn_r _ [8, 9, 10, 11, 12, 7, 13] (by decide +kernel) (by decide +kernel)) (goodIn_sub (fun _ h => List.mem_cons_of_mem _ (List.mem_append_right _ h)) (by decide +kernel))
set_option maxRecDepth 20000 in
theorem gX6_turnOff_X6_checkSeat : GoodIn wsX6_turnOff (va_wsS RX6 54 yX6_checkSeat wsX6_checkSeat) := goodIn_app (goodIn_of _ (by decide +kernel)) ggX6_turnOff_X6_checkSeat
set_option maxRecDepth 20000 in
theorem ggX6_turnOff_X3_isOn : GoodIn wsX6_turnOff wsX3_isOn := goodIn_r _ [18, 19, 136, 137, 138] (by decide +kernel) (by decide +kernel)
set_option maxRecDepth 20000 in
theorem gX6_turnOff_X3_isOn : GoodIn wsX6_turnOff (wsV RX6 72 RX3 yX3_isOn wsX3_isOn) := goodIn_app (goodIn_of _ (by decide +kernel)) ggX6_turnOff_X3_isOn
set_option maxRecDepth 20000 in
theorem ggX6_turnOff_X6_saveState : GoodIn wsX6_turnOff wsX6_saveState := goodIn_r _ [23, 24, 25, 3, 26, 27, 28, 7, 29, 30, 31, 32, 33, 34, 35, 36, 37, 38, 39, 40, 41, 42, 43, 44, 45, 46, 17, 47, 19, 48, 49, 50, 51, 52, 53, 54, 55, 56, 57, 58, 59, 60, 61, 62, 63, 64, 65, 66, 67, 68, 69, 70, 71, 72, 73, 74, 75, 76, 126, 127, 128, 129, 130, 131, 132, 133, 134, 135, 136, 137, 138, 139, 140, 141, 142, 143, 144, 145, 146] (by decide +kernel) (by decide +kernel)
set_option maxRecDepth 20000 in
theorem gX6_turnOff_X6_saveState : GoodIn wsX6_turnOff (wsV RX6 34 RX6 yX6_saveState wsX6_saveState) := goodIn_app (goodIn_of _ (by decide +kernel)) ggX6_turnOff_X6_saveState
set_option maxRecDepth 20000 in
theorem ggX6_turnOff_X5_switchOff : GoodIn wsX6_turnOff wsX5_switchOff := goodIn_r _ [80, 35, 37, 81, 15, 16, 17, 18, 19, 82, 83, 84, 85, 86, 87, 88, 33, 89, 36, 90, 91, 92, 54, 93, 56, 94, 95, 96, 97, 38, 98, 99, 100, 101, 39, 102, 103, 70, 104, 105, 106, 107, 108, 74, 76, 72, 75, 109, 110, 111, 112, 113, 114, 115, 116, 117, 118, 119, 63, 120, 121, 122, 123, 124, 65, 125, 131, 132, 133, 134, 135, 136, 137, 138, 139, 140, 141, 143, 144, 145, 146, 142] (by decide +kernel) (by decide +kernel)
set_option maxRecDepth 20000 in
theorem gX6_turnOff_X5_switchOff : GoodIn wsX6_turnOff (wsV RX6 83 RX5 yX5_switchOff wsX5_switchOff) := goodIn_app (goodIn_of _ (by decide +kernel)) ggX6_turnOff_X5_switchOff
theorem dX6_turnOff_0 : decode cX6_turnOff 0 = .ok (.iload_n 1, 1) := by decide +kernel
theorem dX6_turnOff_1 : decode cX6_turnOff 1 = .ok (.iload_n 2, 1) := by decide +kernel
theorem dX6_turnOff_2 : decode cX6_turnOff 2 = .ok (.invokestatic 54, 3) := by decide +kernel
theorem dX6_turnOff_5 : decode cX6_turnOff 5 = .ok (.aload_n 0, 1) := by decide +kernel
theorem dX6_turnOff_6 : decode cX6_turnOff 6 = .ok (.getfield 12, 3) := by decide +kernel
theorem dX6_turnOff_9 : decode cX6_turnOff 9 = .ok (.getfield 68, 3) := by decide +kernel
theorem dX6_turnOff_12 : decode cX6_turnOff 12 = .ok (.iload_n 1, 1) := by decide +kernel
theorem dX6_turnOff_13 : decode cX6_turnOff 13 = .ok (.iload_n 2, 1) := by decide +kernel
theorem dX6_turnOff_14 : decode cX6_turnOff 14 = .ok (.invokevirtual 72, 3) := by decide +kernel
theorem dX6_turnOff_17 : decode cX6_turnOff 17 = .ok (.ifCond .ne 13, 3) := by decide +kernel
theorem dX6_turnOff_20 : decode cX6_turnOff 20 = .ok (.new 78, 3) := by decide +kernel
theorem dX6_turnOff_23 : decode cX6_turnOff 23 = .ok (.dup, 1) := by decide +kernel
theorem dX6_turnOff_24 : decode cX6_turnOff 24 = .ok (.ldc 80, 2) := by decide +kernel
theorem dX6_turnOff_26 : decode cX6_turnOff 26 = .ok (.invokespecial 82, 3) := by decide +kernel
theorem dX6_turnOff_29 : decode cX6_turnOff 29 = .ok (.athrow, 1) := by decide +kernel
theorem dX6_turnOff_30 : decode cX6_turnOff 30 = .ok (.aload_n 0, 1) := by decide +kernel
theorem dX6_turnOff_31 : decode cX6_turnOff 31 = .ok (.invokevirtual 34, 3) := by decide +kernel
theorem dX6_turnOff_34 : decode cX6_turnOff 34 = .ok (.aload_n 0, 1) := by decide +kernel
theorem dX6_turnOff_35 : decode cX6_turnOff 35 = .ok (.getfield 12, 3) := by decide +kernel
theorem dX6_turnOff_38 : decode cX6_turnOff 38 = .ok (.iload_n 1, 1) := by decide +kernel
theorem dX6_turnOff_39 : decode cX6_turnOff 39 = .ok (.iload_n 2, 1) := by decide +kernel
theorem dX6_turnOff_40 : decode cX6_turnOff 40 = .ok (.invokevirtual 83, 3) := by decide +kernel
theorem dX6_turnOff_43 : decode cX6_turnOff 43 = .ok (.ireturn, 1) := by decide +kernel
set_option maxRecDepth 20000 in
theorem ggX6_bestSeat_X6_checkUser : GoodIn wsX6_bestSeat wsX6_checkUser := goodIn_ca (goodIn_r _ [6, 7, 8] (by decide +kernel) (by decide +kernel)) (goodIn_sub (fun _ h => List.mem_cons_of_mem _ (List.mem_append_right _ h)) (by decide +kernel))
set_option maxRecDepth 20000 in
theorem gX6_bestSeat_X6_checkUser : GoodIn wsX6_bestSeat (va_wsS RX6 86 yX6_checkUser wsX6_checkUser) := goodIn_app (goodIn_of _ (by decide +kernel)) ggX6_bestSeat_X6_checkUser
set_option maxRecDepth 20000 in
theorem ggX6_bestSeat_X3_best : GoodIn wsX6_bestSeat wsX3_best := goodIn_r _ [13, 14, 15, 16, 17, 12, 18, 19, 30, 31, 32] (by decide +kernel) (by decide +kernel)
set_option maxRecDepth 20000 in
theorem gX6_bestSeat_X3_best : GoodIn wsX6_bestSeat (wsV RX6 90 RX3 yX3_best wsX3_best) := goodIn_app (goodIn_of _ (by decide +kernel)) ggX6_bestSeat_X3_best
theorem dX6_bestSeat_0 : decode cX6_bestSeat 0 = .ok (.iload_n 1, 1) := by decide +kernel
theorem dX6_bestSeat_1 : decode cX6_bestSeat 1 = .ok (.invokestatic 86, 3) := by decide +kernel
theorem dX6_bestSeat_4 : decode cX6_bestSeat 4 = .ok (.aload_n 0, 1) := by decide +kernel
theorem dX6_bestSeat_5 : decode cX6_bestSeat 5 = .ok (.getfield 12, 3) := by decide +kernel
theorem dX6_bestSeat_8 : decode cX6_bestSeat 8 = .ok (.getfield 68, 3) := by decide +kernel
theorem dX6_bestSeat_11 : decode cX6_bestSeat 11 = .ok (.iload_n 1, 1) := by decide +kernel
theorem dX6_bestSeat_12 : decode cX6_bestSeat 12 = .ok (.invokevirtual 90, 3) := by decide +kernel
theorem dX6_bestSeat_15 : decode cX6_bestSeat 15 = .ok (.ireturn, 1) := by decide +kernel
set_option maxRecDepth 20000 in
theorem ggX6_seat_X6_checkSeat : GoodIn wsX6_seat wsX6_checkSeat := goodIn_ca (goodIn_r _ [6, 7, 8, 9, 10, 5, 11] (by decide +kernel) (by decide +kernel)) (goodIn_sub (fun _ h => List.mem_cons_of_mem _ (List.mem_append_left _ (List.mem_append_right _ h))) (by decide +kernel))
set_option maxRecDepth 20000 in
theorem gX6_seat_X6_checkSeat : GoodIn wsX6_seat (va_wsS RX6 54 yX6_checkSeat wsX6_checkSeat) := goodIn_app (goodIn_of _ (by decide +kernel)) ggX6_seat_X6_checkSeat
set_option maxRecDepth 20000 in
theorem ggX6_seat_X6_checkWhat : GoodIn wsX6_seat wsX6_checkWhat := goodIn_ca (goodIn_r _ [14, 15, 16] (by decide +kernel) (by decide +kernel)) (goodIn_sub (fun _ h => List.mem_cons_of_mem _ (List.mem_append_right _ h)) (by decide +kernel))
set_option maxRecDepth 20000 in
theorem gX6_seat_X6_checkWhat : GoodIn wsX6_seat (va_wsS RX6 94 yX6_checkWhat wsX6_checkWhat) := goodIn_app (goodIn_of _ (by decide +kernel)) ggX6_seat_X6_checkWhat
set_option maxRecDepth 20000 in
theorem ggX6_seat_X3_value : GoodIn wsX6_seat wsX3_value := goodIn_r _ [21, 22, 23, 24, 35, 36, 37] (by decide +kernel) (by decide +kernel)
set_option maxRecDepth 20000 in
theorem gX6_seat_X3_value : GoodIn wsX6_seat (wsV RX6 97 RX3 yX3_value wsX3_value) := goodIn_app (goodIn_of _ (by decide +kernel)) ggX6_seat_X3_value
theorem dX6_seat_0 : decode cX6_seat 0 = .ok (.iload_n 1, 1) := by decide +kernel
theorem dX6_seat_1 : decode cX6_seat 1 = .ok (.iload_n 2, 1) := by decide +kernel
theorem dX6_seat_2 : decode cX6_seat 2 = .ok (.invokestatic 54, 3) := by decide +kernel
theorem dX6_seat_5 : decode cX6_seat 5 = .ok (.iload_n 3, 1) := by decide +kernel
theorem dX6_seat_6 : decode cX6_seat 6 = .ok (.iconst 3, 1) := by decide +kernel
theorem dX6_seat_7 : decode cX6_seat 7 = .ok (.invokestatic 94, 3) := by decide +kernel
theorem dX6_seat_10 : decode cX6_seat 10 = .ok (.aload_n 0, 1) := by decide +kernel
theorem dX6_seat_11 : decode cX6_seat 11 = .ok (.getfield 12, 3) := by decide +kernel
theorem dX6_seat_14 : decode cX6_seat 14 = .ok (.getfield 68, 3) := by decide +kernel
theorem dX6_seat_17 : decode cX6_seat 17 = .ok (.iload_n 1, 1) := by decide +kernel
theorem dX6_seat_18 : decode cX6_seat 18 = .ok (.iload_n 2, 1) := by decide +kernel
theorem dX6_seat_19 : decode cX6_seat 19 = .ok (.iload_n 3, 1) := by decide +kernel
theorem dX6_seat_20 : decode cX6_seat 20 = .ok (.invokevirtual 97, 3) := by decide +kernel
theorem dX6_seat_23 : decode cX6_seat 23 = .ok (.ireturn, 1) := by decide +kernel
set_option maxRecDepth 20000 in
theorem ggX6_deliver_X6_saveState : GoodIn wsX6_deliver wsX6_saveState := goodIn_r _ [8, 9, 10, 3, 11, 12, 13, 7, 14, 15, 16, 17, 18, 19, 20, 21, 22, 23, 24, 25, 26, 27, 28, 29, 30, 31, 32, 33, 34, 35, 36, 37, 38, 39, 40, 41, 42, 43, 44, 45, 46, 47, 48, 49, 50, 51, 52, 53, 54, 55, 56, 57, 58, 59, 60, 61, 62, 63, 151, 152, 153, 154, 155, 156, 157, 158, 159, 160, 161, 162, 163, 164, 165, 166, 167, 168, 169, 170, 171] (by decide +kernel) (by decide +kernel)
set_option maxRecDepth 20000 in
theorem gX6_deliver_X6_saveState : GoodIn wsX6_deliver (wsV RX6 34 RX6 yX6_saveState wsX6_saveState) := goodIn_app (goodIn_of _ (by decide +kernel)) ggX6_deliver_X6_saveState
set_option maxRecDepth 20000 in
theorem ggX6_deliver_X5_letArrive : GoodIn wsX6_deliver wsX5_letArrive := goodIn_r _ [67, 23, 68, 69, 70, 71, 57, 72, 62, 63, 61, 73, 74, 75, 76, 59, 77, 78, 79, 80, 81, 82, 83, 84, 85, 86, 87, 18, 88, 21, 22, 20, 89, 90, 91, 92, 93, 94, 95, 24, 96, 97, 98, 41, 99, 43, 100, 101, 102, 103, 104, 105, 106, 107, 108, 109, 110, 111, 112, 113, 114, 115, 116, 117, 118, 119, 120, 121, 32, 122, 34, 123, 124, 125, 126, 37, 127, 128, 129, 130, 46, 45, 131, 132, 133, 134, 135, 136, 137, 50, 138, 52, 139, 140, 141, 142, 143, 144, 145, 146, 147, 148, 149, 150, 156, 157, 158, 159, 160, 168, 169, 170, 171, 164, 165, 166, 161, 162, 163, 167] (by decide +kernel) (by decide +kernel)
set_option maxRecDepth 20000 in
theorem gX6_deliver_X5_letArrive : GoodIn wsX6_deliver (wsV RX6 103 RX5 yX5_letArrive wsX5_letArrive) := goodIn_app (goodIn_of _ (by decide +kernel)) ggX6_deliver_X5_letArrive
theorem dX6_deliver_0 : decode cX6_deliver 0 = .ok (.iload_n 1, 1) := by decide +kernel
theorem dX6_deliver_1 : decode cX6_deliver 1 = .ok (.ifCond .lt 10, 3) := by decide +kernel
theorem dX6_deliver_4 : decode cX6_deliver 4 = .ok (.iload_n 1, 1) := by decide +kernel
theorem dX6_deliver_5 : decode cX6_deliver 5 = .ok (.sipush 1000, 3) := by decide +kernel
theorem dX6_deliver_8 : decode cX6_deliver 8 = .ok (.if_icmp .le 13, 3) := by decide +kernel
theorem dX6_deliver_11 : decode cX6_deliver 11 = .ok (.new 57, 3) := by decide +kernel
theorem dX6_deliver_14 : decode cX6_deliver 14 = .ok (.dup, 1) := by decide +kernel
theorem dX6_deliver_15 : decode cX6_deliver 15 = .ok (.ldc 101, 2) := by decide +kernel
theorem dX6_deliver_17 : decode cX6_deliver 17 = .ok (.invokespecial 61, 3) := by decide +kernel
theorem dX6_deliver_20 : decode cX6_deliver 20 = .ok (.athrow, 1) := by decide +kernel
theorem dX6_deliver_21 : decode cX6_deliver 21 = .ok (.aload_n 0, 1) := by decide +kernel
theorem dX6_deliver_22 : decode cX6_deliver 22 = .ok (.invokevirtual 34, 3) := by decide +kernel
theorem dX6_deliver_25 : decode cX6_deliver 25 = .ok (.aload_n 0, 1) := by decide +kernel
theorem dX6_deliver_26 : decode cX6_deliver 26 = .ok (.getfield 12, 3) := by decide +kernel
theorem dX6_deliver_29 : decode cX6_deliver 29 = .ok (.iload_n 1, 1) := by decide +kernel
theorem dX6_deliver_30 : decode cX6_deliver 30 = .ok (.invokevirtual 103, 3) := by decide +kernel
theorem dX6_deliver_33 : decode cX6_deliver 33 = .ok (.ireturn, 1) := by decide +kernel
set_option maxRecDepth 20000 in
theorem ggX6_lose_X6_checkMessage : GoodIn wsX6_lose wsX6_checkMessage := goodIn_ca (goodIn_r _ [7, 8, 9, 1, 2, 10, 89, 90, 91, 92, 93, 94, 95, 96, 97, 98, 99, 100, 101, 102] (by decide +kernel) (by decide +kernel)) (goodIn_sub (fun _ h => List.mem_cons_of_mem _ (List.mem_append_right _ h)) (by decide +kernel))
set_option maxRecDepth 20000 in
theorem gX6_lose_X6_checkMessage : GoodIn wsX6_lose (wsV RX6 106 RX6 yX6_checkMessage wsX6_checkMessage) := goodIn_app (goodIn_of _ (by decide +kernel)) ggX6_lose_X6_checkMessage
set_option maxRecDepth 20000 in
theorem ggX6_lose_X6_saveState : GoodIn wsX6_lose wsX6_saveState := goodIn_r _ [14, 15, 16, 1, 17, 18, 19, 6, 20, 21, 22, 23, 24, 25, 26, 27, 28, 29, 30, 31, 32, 33, 34, 35, 36, 37, 38, 39, 40, 41, 42, 43, 44, 45, 46, 47, 48, 49, 50, 51, 52, 53, 54, 55, 56, 57, 58, 59, 60, 61, 62, 63, 64, 65, 66, 67, 68, 69, 89, 90, 91, 92, 93, 94, 95, 96, 97, 98, 103, 104, 105, 106, 107, 108, 109, 99, 100, 101, 102] (by decide +kernel) (by decide +kernel)
set_option maxRecDepth 20000 in
theorem gX6_lose_X6_saveState : GoodIn wsX6_lose (wsV RX6 34 RX6 yX6_saveState wsX6_saveState) := goodIn_app (goodIn_of _ (by decide +kernel)) ggX6_lose_X6_saveState
set_option maxRecDepth 20000 in
theorem ggX6_lose_X0_loseAt : GoodIn wsX6_lose wsX0_loseAt := goodIn_r _ [73, 69, 65, 67, 74, 75, 76, 63, 77, 78, 79, 80, 81, 68, 82, 83, 84, 85, 99, 100, 101, 102] (by decide +kernel) (by decide +kernel)
set_option maxRecDepth 20000 in
theorem gX6_lose_X0_loseAt : GoodIn wsX6_lose (wsV RX6 113 RX0 yX0_loseAt wsX0_loseAt) := goodIn_app (goodIn_of _ (by decide +kernel)) ggX6_lose_X0_loseAt
set_option maxRecDepth 20000 in
theorem ggX6_lose_X0_part : GoodIn wsX6_lose wsX0_part := goodIn_r _ [88, 82, 83, 84, 85] (by decide +kernel) (by decide +kernel)
set_option maxRecDepth 20000 in
theorem gX6_lose_X0_part : GoodIn wsX6_lose (va_wsS RX6 118 yX0_part wsX0_part) := goodIn_app (goodIn_of _ (by decide +kernel)) ggX6_lose_X0_part
theorem dX6_lose_0 : decode cX6_lose 0 = .ok (.aload_n 0, 1) := by decide +kernel
theorem dX6_lose_1 : decode cX6_lose 1 = .ok (.iload_n 1, 1) := by decide +kernel
theorem dX6_lose_2 : decode cX6_lose 2 = .ok (.invokevirtual 106, 3) := by decide +kernel
theorem dX6_lose_5 : decode cX6_lose 5 = .ok (.aload_n 0, 1) := by decide +kernel
theorem dX6_lose_6 : decode cX6_lose 6 = .ok (.invokevirtual 34, 3) := by decide +kernel
theorem dX6_lose_9 : decode cX6_lose 9 = .ok (.aload_n 0, 1) := by decide +kernel
theorem dX6_lose_10 : decode cX6_lose 10 = .ok (.getfield 12, 3) := by decide +kernel
theorem dX6_lose_13 : decode cX6_lose 13 = .ok (.getfield 109, 3) := by decide +kernel
theorem dX6_lose_16 : decode cX6_lose 16 = .ok (.iload_n 1, 1) := by decide +kernel
theorem dX6_lose_17 : decode cX6_lose 17 = .ok (.invokevirtual 113, 3) := by decide +kernel
theorem dX6_lose_20 : decode cX6_lose 20 = .ok (.iconst 0, 1) := by decide +kernel
theorem dX6_lose_21 : decode cX6_lose 21 = .ok (.invokestatic 118, 3) := by decide +kernel
theorem dX6_lose_24 : decode cX6_lose 24 = .ok (.ireturn, 1) := by decide +kernel
theorem dX6_underWay_0 : decode cX6_underWay 0 = .ok (.aload_n 0, 1) := by decide +kernel
theorem dX6_underWay_1 : decode cX6_underWay 1 = .ok (.getfield 12, 3) := by decide +kernel
theorem dX6_underWay_4 : decode cX6_underWay 4 = .ok (.getfield 109, 3) := by decide +kernel
theorem dX6_underWay_7 : decode cX6_underWay 7 = .ok (.getfield 121, 3) := by decide +kernel
theorem dX6_underWay_10 : decode cX6_underWay 10 = .ok (.ireturn, 1) := by decide +kernel
set_option maxRecDepth 20000 in
theorem ggX6_message_X6_checkMessage : GoodIn wsX6_message wsX6_checkMessage := goodIn_ca (goodIn_r _ [7, 8, 9, 1, 2, 10, 34, 35, 36, 37, 38, 39, 40, 41, 42, 43, 44, 45, 46, 47] (by decide +kernel) (by decide +kernel)) (goodIn_sub (fun _ h => List.mem_cons_of_mem _ (List.mem_append_left _ (List.mem_append_right _ h))) (by decide +kernel))
set_option maxRecDepth 20000 in
theorem gX6_message_X6_checkMessage : GoodIn wsX6_message (wsV RX6 106 RX6 yX6_checkMessage wsX6_checkMessage) := goodIn_app (goodIn_of _ (by decide +kernel)) ggX6_message_X6_checkMessage
set_option maxRecDepth 20000 in
theorem ggX6_message_X6_checkWhat : GoodIn wsX6_message wsX6_checkWhat := goodIn_ca (goodIn_r _ [13, 14, 15] (by decide +kernel) (by decide +kernel)) (goodIn_sub (fun _ h => List.mem_cons_of_mem _ (List.mem_append_right _ h)) (by decide +kernel))
set_option maxRecDepth 20000 in
theorem gX6_message_X6_checkWhat : GoodIn wsX6_message (va_wsS RX6 94 yX6_checkWhat wsX6_checkWhat) := goodIn_app (goodIn_of _ (by decide +kernel)) ggX6_message_X6_checkWhat
set_option maxRecDepth 20000 in
theorem ggX6_message_X0_messageAt : GoodIn wsX6_message wsX0_messageAt := goodIn_r _ [20, 21, 22, 23, 24, 19, 25, 26, 27, 28, 29, 30, 44, 45, 46, 47] (by decide +kernel) (by decide +kernel)
set_option maxRecDepth 20000 in
theorem gX6_message_X0_messageAt : GoodIn wsX6_message (wsV RX6 125 RX0 yX0_messageAt wsX0_messageAt) := goodIn_app (goodIn_of _ (by decide +kernel)) ggX6_message_X0_messageAt
set_option maxRecDepth 20000 in
theorem ggX6_message_X0_part : GoodIn wsX6_message wsX0_part := goodIn_r _ [33, 27, 28, 29, 30] (by decide +kernel) (by decide +kernel)
set_option maxRecDepth 20000 in
theorem gX6_message_X0_part : GoodIn wsX6_message (va_wsS RX6 118 yX0_part wsX0_part) := goodIn_app (goodIn_of _ (by decide +kernel)) ggX6_message_X0_part
theorem dX6_message_0 : decode cX6_message 0 = .ok (.aload_n 0, 1) := by decide +kernel
theorem dX6_message_1 : decode cX6_message 1 = .ok (.iload_n 1, 1) := by decide +kernel
theorem dX6_message_2 : decode cX6_message 2 = .ok (.invokevirtual 106, 3) := by decide +kernel
theorem dX6_message_5 : decode cX6_message 5 = .ok (.iload_n 2, 1) := by decide +kernel
theorem dX6_message_6 : decode cX6_message 6 = .ok (.iconst 5, 1) := by decide +kernel
theorem dX6_message_7 : decode cX6_message 7 = .ok (.invokestatic 94, 3) := by decide +kernel
theorem dX6_message_10 : decode cX6_message 10 = .ok (.aload_n 0, 1) := by decide +kernel
theorem dX6_message_11 : decode cX6_message 11 = .ok (.getfield 12, 3) := by decide +kernel
theorem dX6_message_14 : decode cX6_message 14 = .ok (.getfield 109, 3) := by decide +kernel
theorem dX6_message_17 : decode cX6_message 17 = .ok (.iload_n 1, 1) := by decide +kernel
theorem dX6_message_18 : decode cX6_message 18 = .ok (.invokevirtual 125, 3) := by decide +kernel
theorem dX6_message_21 : decode cX6_message 21 = .ok (.iload_n 2, 1) := by decide +kernel
theorem dX6_message_22 : decode cX6_message 22 = .ok (.invokestatic 118, 3) := by decide +kernel
theorem dX6_message_25 : decode cX6_message 25 = .ok (.ireturn, 1) := by decide +kernel
set_option maxRecDepth 20000 in
theorem ggX6_count_X6_checkWhat : GoodIn wsX6_count wsX6_checkWhat := goodIn_ca (goodIn_r _ [7, 8, 9] (by decide +kernel) (by decide +kernel)) (goodIn_sub (fun _ h => List.mem_cons_of_mem _ (List.mem_append_right _ h)) (by decide +kernel))
set_option maxRecDepth 20000 in
theorem gX6_count_X6_checkWhat : GoodIn wsX6_count (va_wsS RX6 94 yX6_checkWhat wsX6_checkWhat) := goodIn_app (goodIn_of _ (by decide +kernel)) ggX6_count_X6_checkWhat
theorem dX6_count_0 : decode cX6_count 0 = .ok (.iload_n 1, 1) := by decide +kernel
theorem dX6_count_1 : decode cX6_count 1 = .ok (.iconst 3, 1) := by decide +kernel
theorem dX6_count_2 : decode cX6_count 2 = .ok (.invokestatic 94, 3) := by decide +kernel
theorem dX6_count_5 : decode cX6_count 5 = .ok (.aload_n 0, 1) := by decide +kernel
theorem dX6_count_6 : decode cX6_count 6 = .ok (.getfield 12, 3) := by decide +kernel
theorem dX6_count_9 : decode cX6_count 9 = .ok (.getfield 109, 3) := by decide +kernel
theorem dX6_count_12 : decode cX6_count 12 = .ok (.getfield 128, 3) := by decide +kernel
theorem dX6_count_15 : decode cX6_count 15 = .ok (.iload_n 1, 1) := by decide +kernel
theorem dX6_count_16 : decode cX6_count 16 = .ok (.iaload, 1) := by decide +kernel
theorem dX6_count_17 : decode cX6_count 17 = .ok (.ireturn, 1) := by decide +kernel
set_option maxRecDepth 20000 in
theorem ggX6_entry_X6_checkPair : GoodIn wsX6_entry wsX6_checkPair := goodIn_ca (goodIn_ca (goodIn_r _ [6, 7, 8, 9, 10, 5, 11, 12, 13] (by decide +kernel) (by decide +kernel)) (goodIn_sub (fun _ h => List.mem_cons_of_mem _ (List.mem_append_left _ (List.mem_append_right _ h))) (by decide +kernel))) (goodIn_sub (fun _ h => List.mem_cons_of_mem _ (List.mem_append_right _ h)) (by decide +kernel))
set_option maxRecDepth 20000 in
theorem gX6_entry_X6_checkPair : GoodIn wsX6_entry (va_wsS RX6 30 yX6_checkPair wsX6_checkPair) := goodIn_app (goodIn_of _ (by decide +kernel)) ggX6_entry_X6_checkPair
set_option maxRecDepth 20000 in
theorem ggX6_entry_X1_state : GoodIn wsX6_entry wsX1_state := goodIn_r _ [18, 19, 30, 31, 32] (by decide +kernel) (by decide +kernel)
set_option maxRecDepth 20000 in
theorem gX6_entry_X1_state : GoodIn wsX6_entry (wsV RX6 136 RX1 yX1_state wsX1_state) := goodIn_app (goodIn_of _ (by decide +kernel)) ggX6_entry_X1_state
theorem dX6_entry_0 : decode cX6_entry 0 = .ok (.iload_n 1, 1) := by decide +kernel
theorem dX6_entry_1 : decode cX6_entry 1 = .ok (.iload_n 2, 1) := by decide +kernel
theorem dX6_entry_2 : decode cX6_entry 2 = .ok (.invokestatic 30, 3) := by decide +kernel
theorem dX6_entry_5 : decode cX6_entry 5 = .ok (.aload_n 0, 1) := by decide +kernel
theorem dX6_entry_6 : decode cX6_entry 6 = .ok (.getfield 12, 3) := by decide +kernel
theorem dX6_entry_9 : decode cX6_entry 9 = .ok (.getfield 132, 3) := by decide +kernel
theorem dX6_entry_12 : decode cX6_entry 12 = .ok (.iload_n 1, 1) := by decide +kernel
theorem dX6_entry_13 : decode cX6_entry 13 = .ok (.iload_n 2, 1) := by decide +kernel
theorem dX6_entry_14 : decode cX6_entry 14 = .ok (.invokevirtual 136, 3) := by decide +kernel
theorem dX6_entry_17 : decode cX6_entry 17 = .ok (.ireturn, 1) := by decide +kernel
set_option maxRecDepth 20000 in
theorem ggX6_version_X6_checkUser : GoodIn wsX6_version wsX6_checkUser := goodIn_ca (goodIn_r _ [6, 7, 8] (by decide +kernel) (by decide +kernel)) (goodIn_sub (fun _ h => List.mem_cons_of_mem _ (List.mem_append_left _ (List.mem_append_right _ h))) (by decide +kernel))
set_option maxRecDepth 20000 in
theorem gX6_version_X6_checkUser : GoodIn wsX6_version (va_wsS RX6 86 yX6_checkUser wsX6_checkUser) := goodIn_app (goodIn_of _ (by decide +kernel)) ggX6_version_X6_checkUser
set_option maxRecDepth 20000 in
theorem ggX6_version_X1_rosterVersion : GoodIn wsX6_version wsX1_rosterVersion := goodIn_r _ [13, 14, 35, 36, 37] (by decide +kernel) (by decide +kernel)
set_option maxRecDepth 20000 in
theorem gX6_version_X1_rosterVersion : GoodIn wsX6_version (wsV RX6 141 RX1 yX1_rosterVersion wsX1_rosterVersion) := goodIn_app (goodIn_of _ (by decide +kernel)) ggX6_version_X1_rosterVersion
set_option maxRecDepth 20000 in
theorem ggX6_version_X6_checkPair : GoodIn wsX6_version wsX6_checkPair := goodIn_ca (goodIn_ca (goodIn_r _ [17, 18, 19, 3, 4, 5, 6, 7, 8] (by decide +kernel) (by decide +kernel)) (goodIn_sub (fun _ h => List.mem_cons_of_mem _ (List.mem_append_right _ h)) (by decide +kernel))) (goodIn_sub (fun _ h => List.mem_cons_of_mem _ (List.mem_append_left _ (List.mem_append_right _ h))) (by decide +kernel))
set_option maxRecDepth 20000 in
theorem gX6_version_X6_checkPair : GoodIn wsX6_version (va_wsS RX6 30 yX6_checkPair wsX6_checkPair) := goodIn_app (goodIn_of _ (by decide +kernel)) ggX6_version_X6_checkPair
set_option maxRecDepth 20000 in
theorem ggX6_version_X1_entryVersion : GoodIn wsX6_version wsX1_entryVersion := goodIn_r _ [23, 24, 35, 36, 37] (by decide +kernel) (by decide +kernel)
set_option maxRecDepth 20000 in
theorem gX6_version_X1_entryVersion : GoodIn wsX6_version (wsV RX6 144 RX1 yX1_entryVersion wsX1_entryVersion) := goodIn_app (goodIn_of _ (by decide +kernel)) ggX6_version_X1_entryVersion
theorem dX6_version_0 : decode cX6_version 0 = .ok (.iload_n 1, 1) := by decide +kernel
theorem dX6_version_1 : decode cX6_version 1 = .ok (.invokestatic 86, 3) := by decide +kernel
theorem dX6_version_4 : decode cX6_version 4 = .ok (.iload_n 2, 1) := by decide +kernel
theorem dX6_version_5 : decode cX6_version 5 = .ok (.iconst (-1), 1) := by decide +kernel
theorem dX6_version_6 : decode cX6_version 6 = .ok (.if_icmp .ne 15, 3) := by decide +kernel
theorem dX6_version_9 : decode cX6_version 9 = .ok (.aload_n 0, 1) := by decide +kernel
theorem dX6_version_10 : decode cX6_version 10 = .ok (.getfield 12, 3) := by decide +kernel
theorem dX6_version_13 : decode cX6_version 13 = .ok (.getfield 132, 3) := by decide +kernel
theorem dX6_version_16 : decode cX6_version 16 = .ok (.iload_n 1, 1) := by decide +kernel
theorem dX6_version_17 : decode cX6_version 17 = .ok (.invokevirtual 141, 3) := by decide +kernel
theorem dX6_version_20 : decode cX6_version 20 = .ok (.ireturn, 1) := by decide +kernel
theorem dX6_version_21 : decode cX6_version 21 = .ok (.iload_n 1, 1) := by decide +kernel
theorem dX6_version_22 : decode cX6_version 22 = .ok (.iload_n 2, 1) := by decide +kernel
theorem dX6_version_23 : decode cX6_version 23 = .ok (.invokestatic 30, 3) := by decide +kernel
theorem dX6_version_26 : decode cX6_version 26 = .ok (.aload_n 0, 1) := by decide +kernel
theorem dX6_version_27 : decode cX6_version 27 = .ok (.getfield 12, 3) := by decide +kernel
theorem dX6_version_30 : decode cX6_version 30 = .ok (.getfield 132, 3) := by decide +kernel
theorem dX6_version_33 : decode cX6_version 33 = .ok (.iload_n 1, 1) := by decide +kernel
theorem dX6_version_34 : decode cX6_version 34 = .ok (.iload_n 2, 1) := by decide +kernel
theorem dX6_version_35 : decode cX6_version 35 = .ok (.invokevirtual 144, 3) := by decide +kernel
theorem dX6_version_38 : decode cX6_version 38 = .ok (.ireturn, 1) := by decide +kernel
set_option maxRecDepth 20000 in
theorem ggX6_changedSince_X6_checkUser : GoodIn wsX6_changedSince wsX6_checkUser := goodIn_ca (goodIn_r _ [8, 9, 10] (by decide +kernel) (by decide +kernel)) (goodIn_sub (fun _ h => List.mem_cons_of_mem _ (List.mem_append_right _ h)) (by decide +kernel))
set_option maxRecDepth 20000 in
theorem gX6_changedSince_X6_checkUser : GoodIn wsX6_changedSince (va_wsS RX6 86 yX6_checkUser wsX6_checkUser) := goodIn_app (goodIn_of _ (by decide +kernel)) ggX6_changedSince_X6_checkUser
set_option maxRecDepth 20000 in
theorem ggX6_changedSince_X1_changedAfter : GoodIn wsX6_changedSince wsX1_changedAfter := goodIn_r _ [15, 16, 27, 28, 29] (by decide +kernel) (by decide +kernel)
set_option maxRecDepth 20000 in
theorem gX6_changedSince_X1_changedAfter : GoodIn wsX6_changedSince (wsV RX6 149 RX1 yX1_changedAfter wsX1_changedAfter) := goodIn_app (goodIn_of _ (by decide +kernel)) ggX6_changedSince_X1_changedAfter
theorem dX6_changedSince_0 : decode cX6_changedSince 0 = .ok (.iload_n 1, 1) := by decide +kernel
theorem dX6_changedSince_1 : decode cX6_changedSince 1 = .ok (.invokestatic 86, 3) := by decide +kernel
theorem dX6_changedSince_4 : decode cX6_changedSince 4 = .ok (.iload_n 2, 1) := by decide +kernel
theorem dX6_changedSince_5 : decode cX6_changedSince 5 = .ok (.ifCond .ge 13, 3) := by decide +kernel
theorem dX6_changedSince_8 : decode cX6_changedSince 8 = .ok (.new 57, 3) := by decide +kernel
theorem dX6_changedSince_11 : decode cX6_changedSince 11 = .ok (.dup, 1) := by decide +kernel
theorem dX6_changedSince_12 : decode cX6_changedSince 12 = .ok (.ldc 147, 2) := by decide +kernel
theorem dX6_changedSince_14 : decode cX6_changedSince 14 = .ok (.invokespecial 61, 3) := by decide +kernel
theorem dX6_changedSince_17 : decode cX6_changedSince 17 = .ok (.athrow, 1) := by decide +kernel
theorem dX6_changedSince_18 : decode cX6_changedSince 18 = .ok (.aload_n 0, 1) := by decide +kernel
theorem dX6_changedSince_19 : decode cX6_changedSince 19 = .ok (.getfield 12, 3) := by decide +kernel
theorem dX6_changedSince_22 : decode cX6_changedSince 22 = .ok (.getfield 132, 3) := by decide +kernel
theorem dX6_changedSince_25 : decode cX6_changedSince 25 = .ok (.iload_n 1, 1) := by decide +kernel
theorem dX6_changedSince_26 : decode cX6_changedSince 26 = .ok (.iload_n 2, 1) := by decide +kernel
theorem dX6_changedSince_27 : decode cX6_changedSince 27 = .ok (.invokevirtual 149, 3) := by decide +kernel
theorem dX6_changedSince_30 : decode cX6_changedSince 30 = .ok (.ireturn, 1) := by decide +kernel
set_option maxRecDepth 20000 in
theorem ggX6_view_X6_checkSeat : GoodIn wsX6_view wsX6_checkSeat := goodIn_ca (goodIn_r _ [6, 7, 8, 9, 10, 5, 11] (by decide +kernel) (by decide +kernel)) (goodIn_sub (fun _ h => List.mem_cons_of_mem _ (List.mem_append_left _ (List.mem_append_right _ h))) (by decide +kernel))
set_option maxRecDepth 20000 in
theorem gX6_view_X6_checkSeat : GoodIn wsX6_view (va_wsS RX6 54 yX6_checkSeat wsX6_checkSeat) := goodIn_app (goodIn_of _ (by decide +kernel)) ggX6_view_X6_checkSeat
set_option maxRecDepth 20000 in
theorem ggX6_view_X6_checkPair : GoodIn wsX6_view wsX6_checkPair := goodIn_ca (goodIn_ca (goodIn_r _ [14, 15, 16, 9, 10, 5, 11, 7, 8] (by decide +kernel) (by decide +kernel)) (goodIn_sub (fun _ h => List.mem_cons_of_mem _ (List.mem_append_right _ h)) (by decide +kernel))) (goodIn_sub (fun _ h => List.mem_cons_of_mem _ (List.mem_append_left _ (List.mem_append_right _ h))) (by decide +kernel))
set_option maxRecDepth 20000 in
theorem gX6_view_X6_checkPair : GoodIn wsX6_view (va_wsS RX6 30 yX6_checkPair wsX6_checkPair) := goodIn_app (goodIn_of _ (by decide +kernel)) ggX6_view_X6_checkPair
set_option maxRecDepth 20000 in
theorem ggX6_view_X4_mood : GoodIn wsX6_view wsX4_mood := goodIn_r _ [21, 22, 33] (by decide +kernel) (by decide +kernel)
set_option maxRecDepth 20000 in
theorem gX6_view_X4_mood : GoodIn wsX6_view (wsV RX6 156 RX4 yX4_mood wsX4_mood) := goodIn_app (goodIn_of _ (by decide +kernel)) ggX6_view_X4_mood
theorem dX6_view_0 : decode cX6_view 0 = .ok (.iload_n 1, 1) := by decide +kernel
theorem dX6_view_1 : decode cX6_view 1 = .ok (.iload_n 3, 1) := by decide +kernel
theorem dX6_view_2 : decode cX6_view 2 = .ok (.invokestatic 54, 3) := by decide +kernel
theorem dX6_view_5 : decode cX6_view 5 = .ok (.iload_n 1, 1) := by decide +kernel
theorem dX6_view_6 : decode cX6_view 6 = .ok (.iload_n 2, 1) := by decide +kernel
theorem dX6_view_7 : decode cX6_view 7 = .ok (.invokestatic 30, 3) := by decide +kernel
theorem dX6_view_10 : decode cX6_view 10 = .ok (.aload_n 0, 1) := by decide +kernel
theorem dX6_view_11 : decode cX6_view 11 = .ok (.getfield 12, 3) := by decide +kernel
theorem dX6_view_14 : decode cX6_view 14 = .ok (.getfield 152, 3) := by decide +kernel
theorem dX6_view_17 : decode cX6_view 17 = .ok (.iload_n 1, 1) := by decide +kernel
theorem dX6_view_18 : decode cX6_view 18 = .ok (.iload_n 2, 1) := by decide +kernel
theorem dX6_view_19 : decode cX6_view 19 = .ok (.iload_n 3, 1) := by decide +kernel
theorem dX6_view_20 : decode cX6_view 20 = .ok (.invokevirtual 156, 3) := by decide +kernel
theorem dX6_view_23 : decode cX6_view 23 = .ok (.ireturn, 1) := by decide +kernel
set_option maxRecDepth 20000 in
theorem ggX6_areApart_X6_checkPair : GoodIn wsX6_areApart wsX6_checkPair := goodIn_ca (goodIn_ca (goodIn_r _ [5, 6, 7, 8, 9, 4, 10, 11, 12] (by decide +kernel) (by decide +kernel)) (goodIn_sub (fun _ h => List.mem_cons_of_mem _ (List.mem_append_left _ (List.mem_append_right _ h))) (by decide +kernel))) (goodIn_sub (fun _ h => List.mem_cons_of_mem _ (List.mem_append_right _ h)) (by decide +kernel))
set_option maxRecDepth 20000 in
theorem gX6_areApart_X6_checkPair : GoodIn wsX6_areApart (va_wsS RX6 30 yX6_checkPair wsX6_checkPair) := goodIn_app (goodIn_of _ (by decide +kernel)) ggX6_areApart_X6_checkPair
set_option maxRecDepth 20000 in
theorem ggX6_areApart_X5_apart : GoodIn wsX6_areApart wsX5_apart := goodIn_r _ [17, 18, 24, 25, 26, 27, 28] (by decide +kernel) (by decide +kernel)
set_option maxRecDepth 20000 in
theorem gX6_areApart_X5_apart : GoodIn wsX6_areApart (wsV RX6 161 RX5 yX5_apart wsX5_apart) := goodIn_app (goodIn_of _ (by decide +kernel)) ggX6_areApart_X5_apart
theorem dX6_areApart_0 : decode cX6_areApart 0 = .ok (.iload_n 1, 1) := by decide +kernel
theorem dX6_areApart_1 : decode cX6_areApart 1 = .ok (.iload_n 2, 1) := by decide +kernel
theorem dX6_areApart_2 : decode cX6_areApart 2 = .ok (.invokestatic 30, 3) := by decide +kernel
theorem dX6_areApart_5 : decode cX6_areApart 5 = .ok (.aload_n 0, 1) := by decide +kernel
theorem dX6_areApart_6 : decode cX6_areApart 6 = .ok (.getfield 12, 3) := by decide +kernel
theorem dX6_areApart_9 : decode cX6_areApart 9 = .ok (.iload_n 1, 1) := by decide +kernel
theorem dX6_areApart_10 : decode cX6_areApart 10 = .ok (.iload_n 2, 1) := by decide +kernel
theorem dX6_areApart_11 : decode cX6_areApart 11 = .ok (.invokevirtual 161, 3) := by decide +kernel
theorem dX6_areApart_14 : decode cX6_areApart 14 = .ok (.ireturn, 1) := by decide +kernel
set_option maxRecDepth 20000 in
theorem ggX6_agree_X6_checkPair : GoodIn wsX6_agree wsX6_checkPair := goodIn_ca (goodIn_ca (goodIn_r _ [6, 7, 8, 9, 10, 5, 11, 12, 13] (by decide +kernel) (by decide +kernel)) (goodIn_sub (fun _ h => List.mem_cons_of_mem _ (List.mem_append_left _ (List.mem_append_right _ h))) (by decide +kernel))) (goodIn_sub (fun _ h => List.mem_cons_of_mem _ (List.mem_append_right _ h)) (by decide +kernel))
set_option maxRecDepth 20000 in
theorem gX6_agree_X6_checkPair : GoodIn wsX6_agree (va_wsS RX6 30 yX6_checkPair wsX6_checkPair) := goodIn_app (goodIn_of _ (by decide +kernel)) ggX6_agree_X6_checkPair
set_option maxRecDepth 20000 in
theorem ggX6_agree_X1_match : GoodIn wsX6_agree wsX1_match := goodIn_r _ [18, 19, 30, 31, 32] (by decide +kernel) (by decide +kernel)
set_option maxRecDepth 20000 in
theorem gX6_agree_X1_match : GoodIn wsX6_agree (wsV RX6 164 RX1 yX1_match wsX1_match) := goodIn_app (goodIn_of _ (by decide +kernel)) ggX6_agree_X1_match
theorem dX6_agree_0 : decode cX6_agree 0 = .ok (.iload_n 1, 1) := by decide +kernel
theorem dX6_agree_1 : decode cX6_agree 1 = .ok (.iload_n 2, 1) := by decide +kernel
theorem dX6_agree_2 : decode cX6_agree 2 = .ok (.invokestatic 30, 3) := by decide +kernel
theorem dX6_agree_5 : decode cX6_agree 5 = .ok (.aload_n 0, 1) := by decide +kernel
theorem dX6_agree_6 : decode cX6_agree 6 = .ok (.getfield 12, 3) := by decide +kernel
theorem dX6_agree_9 : decode cX6_agree 9 = .ok (.getfield 132, 3) := by decide +kernel
theorem dX6_agree_12 : decode cX6_agree 12 = .ok (.iload_n 1, 1) := by decide +kernel
theorem dX6_agree_13 : decode cX6_agree 13 = .ok (.iload_n 2, 1) := by decide +kernel
theorem dX6_agree_14 : decode cX6_agree 14 = .ok (.invokevirtual 164, 3) := by decide +kernel
theorem dX6_agree_17 : decode cX6_agree 17 = .ok (.ireturn, 1) := by decide +kernel
set_option maxRecDepth 20000 in
theorem ggX6_agreeing_X1_matchingPairs : GoodIn wsX6_agreeing wsX1_matchingPairs := goodIn_r _ [7, 8, 9, 10, 6, 11, 12, 23, 24, 25] (by decide +kernel) (by decide +kernel)
set_option maxRecDepth 20000 in
theorem gX6_agreeing_X1_matchingPairs : GoodIn wsX6_agreeing (wsV RX6 167 RX1 yX1_matchingPairs wsX1_matchingPairs) := goodIn_app (goodIn_of _ (by decide +kernel)) ggX6_agreeing_X1_matchingPairs
theorem dX6_agreeing_0 : decode cX6_agreeing 0 = .ok (.aload_n 0, 1) := by decide +kernel
theorem dX6_agreeing_1 : decode cX6_agreeing 1 = .ok (.getfield 12, 3) := by decide +kernel
theorem dX6_agreeing_4 : decode cX6_agreeing 4 = .ok (.getfield 132, 3) := by decide +kernel
theorem dX6_agreeing_7 : decode cX6_agreeing 7 = .ok (.invokevirtual 167, 3) := by decide +kernel
theorem dX6_agreeing_10 : decode cX6_agreeing 10 = .ok (.ireturn, 1) := by decide +kernel
set_option maxRecDepth 20000 in
theorem ggX6_wrongViews_X6_checkUser : GoodIn wsX6_wrongViews wsX6_checkUser := goodIn_ca (goodIn_r _ [5, 6, 7] (by decide +kernel) (by decide +kernel)) (goodIn_sub (fun _ h => List.mem_cons_of_mem _ (List.mem_append_right _ h)) (by decide +kernel))
set_option maxRecDepth 20000 in
theorem gX6_wrongViews_X6_checkUser : GoodIn wsX6_wrongViews (va_wsS RX6 86 yX6_checkUser wsX6_checkUser) := goodIn_app (goodIn_of _ (by decide +kernel)) ggX6_wrongViews_X6_checkUser
set_option maxRecDepth 20000 in
theorem ggX6_wrongViews_X5_wrongViewsOf : GoodIn wsX6_wrongViews wsX5_wrongViewsOf := goodIn_r _ [12, 13, 14, 15, 16, 17, 18, 19, 20, 21, 22, 23, 24, 25, 26, 27, 28, 29, 30, 31, 32, 33, 34, 35, 36, 37, 38, 39, 40, 11, 41, 42, 43, 44, 45, 46, 47, 48, 49, 50, 56, 57, 58, 59, 60, 61, 62, 63, 64, 65, 66, 67] (by decide +kernel) (by decide +kernel)
set_option maxRecDepth 20000 in
theorem gX6_wrongViews_X5_wrongViewsOf : GoodIn wsX6_wrongViews (wsV RX6 171 RX5 yX5_wrongViewsOf wsX5_wrongViewsOf) := goodIn_app (goodIn_of _ (by decide +kernel)) ggX6_wrongViews_X5_wrongViewsOf
theorem dX6_wrongViews_0 : decode cX6_wrongViews 0 = .ok (.iload_n 1, 1) := by decide +kernel
theorem dX6_wrongViews_1 : decode cX6_wrongViews 1 = .ok (.invokestatic 86, 3) := by decide +kernel
theorem dX6_wrongViews_4 : decode cX6_wrongViews 4 = .ok (.aload_n 0, 1) := by decide +kernel
theorem dX6_wrongViews_5 : decode cX6_wrongViews 5 = .ok (.getfield 12, 3) := by decide +kernel
theorem dX6_wrongViews_8 : decode cX6_wrongViews 8 = .ok (.iload_n 1, 1) := by decide +kernel
theorem dX6_wrongViews_9 : decode cX6_wrongViews 9 = .ok (.invokevirtual 171, 3) := by decide +kernel
theorem dX6_wrongViews_12 : decode cX6_wrongViews 12 = .ok (.ireturn, 1) := by decide +kernel
set_option maxRecDepth 20000 in
theorem ggX6_untilRest_X5_copyFrom : GoodIn wsX6_untilRest wsX5_copyFrom := goodIn_r _ [9, 10, 11, 12, 13, 14, 15, 16, 17, 18, 19, 20, 21, 22, 23, 24, 25, 26, 27, 28, 29, 30, 31, 32, 33, 34, 35, 36, 37, 38, 39, 40, 41, 42, 43, 44, 45, 46, 47, 48, 49, 50, 51, 52, 53, 146, 147, 148, 149, 150, 155, 156, 157, 158, 159, 160, 161, 151, 152, 153, 154] (by decide +kernel) (by decide +kernel)
set_option maxRecDepth 20000 in
theorem gX6_untilRest_X5_copyFrom : GoodIn wsX6_untilRest (wsV RX6 174 RX5 yX5_copyFrom wsX5_copyFrom) := goodIn_app (goodIn_of _ (by decide +kernel)) ggX6_untilRest_X5_copyFrom
set_option maxRecDepth 20000 in
theorem ggX6_untilRest_X5_letArrive : GoodIn wsX6_untilRest wsX5_letArrive := goodIn_r _ [57, 13, 58, 59, 60, 61, 47, 62, 52, 53, 51, 63, 64, 65, 66, 49, 67, 68, 69, 70, 71, 72, 73, 74, 75, 76, 77, 8, 78, 11, 12, 10, 79, 80, 81, 82, 83, 84, 85, 14, 86, 87, 88, 31, 89, 33, 90, 91, 92, 93, 94, 95, 96, 97, 98, 99, 100, 101, 102, 103, 104, 105, 106, 107, 108, 109, 110, 111, 22, 112, 24, 113, 114, 115, 116, 27, 117, 118, 119, 120, 36, 35, 121, 122, 123, 124, 125, 126, 127, 40, 128, 42, 129, 130, 131, 132, 133, 134, 135, 136, 137, 138, 139, 140, 146, 147, 148, 149, 150, 151, 152, 153, 154, 158, 159, 160, 155, 156, 157, 161] (by decide +kernel) (by decide +kernel)
set_option maxRecDepth 20000 in
theorem gX6_untilRest_X5_letArrive : GoodIn wsX6_untilRest (wsV RX6 103 RX5 yX5_letArrive wsX5_letArrive) := goodIn_app (goodIn_of _ (by decide +kernel)) ggX6_untilRest_X5_letArrive
theorem dX6_untilRest_0 : decode cX6_untilRest 0 = .ok (.aload_n 0, 1) := by decide +kernel
theorem dX6_untilRest_1 : decode cX6_untilRest 1 = .ok (.getfield 16, 3) := by decide +kernel
theorem dX6_untilRest_4 : decode cX6_untilRest 4 = .ok (.aload_n 0, 1) := by decide +kernel
theorem dX6_untilRest_5 : decode cX6_untilRest 5 = .ok (.getfield 12, 3) := by decide +kernel
theorem dX6_untilRest_8 : decode cX6_untilRest 8 = .ok (.invokevirtual 174, 3) := by decide +kernel
theorem dX6_untilRest_11 : decode cX6_untilRest 11 = .ok (.aload_n 0, 1) := by decide +kernel
theorem dX6_untilRest_12 : decode cX6_untilRest 12 = .ok (.getfield 16, 3) := by decide +kernel
theorem dX6_untilRest_15 : decode cX6_untilRest 15 = .ok (.sipush 1000, 3) := by decide +kernel
theorem dX6_untilRest_18 : decode cX6_untilRest 18 = .ok (.invokevirtual 103, 3) := by decide +kernel
theorem dX6_untilRest_21 : decode cX6_untilRest 21 = .ok (.istore_n 1, 1) := by decide +kernel
theorem dX6_untilRest_22 : decode cX6_untilRest 22 = .ok (.aload_n 0, 1) := by decide +kernel
theorem dX6_untilRest_23 : decode cX6_untilRest 23 = .ok (.getfield 16, 3) := by decide +kernel
theorem dX6_untilRest_26 : decode cX6_untilRest 26 = .ok (.getfield 109, 3) := by decide +kernel
theorem dX6_untilRest_29 : decode cX6_untilRest 29 = .ok (.getfield 121, 3) := by decide +kernel
theorem dX6_untilRest_32 : decode cX6_untilRest 32 = .ok (.ifCond .ne 7, 3) := by decide +kernel
theorem dX6_untilRest_35 : decode cX6_untilRest 35 = .ok (.iload_n 1, 1) := by decide +kernel
theorem dX6_untilRest_36 : decode cX6_untilRest 36 = .ok (.goto 4, 3) := by decide +kernel
theorem dX6_untilRest_39 : decode cX6_untilRest 39 = .ok (.iconst (-1), 1) := by decide +kernel
theorem dX6_untilRest_40 : decode cX6_untilRest 40 = .ok (.ireturn, 1) := by decide +kernel
set_option maxRecDepth 20000 in
theorem ggX6_agreeingAtRest_X5_copyFrom : GoodIn wsX6_agreeingAtRest wsX5_copyFrom := goodIn_r _ [7, 8, 9, 10, 11, 12, 13, 14, 15, 16, 17, 18, 19, 20, 21, 22, 23, 24, 25, 26, 27, 28, 29, 30, 31, 32, 33, 34, 35, 36, 37, 38, 39, 40, 41, 42, 43, 44, 45, 46, 47, 48, 49, 50, 51, 156, 157, 158, 159, 160, 161, 162, 163, 164, 165, 166, 167, 168, 169, 170, 171] (by decide +kernel) (by decide +kernel)
set_option maxRecDepth 20000 in
theorem gX6_agreeingAtRest_X5_copyFrom : GoodIn wsX6_agreeingAtRest (wsV RX6 174 RX5 yX5_copyFrom wsX5_copyFrom) := goodIn_app (goodIn_of _ (by decide +kernel)) ggX6_agreeingAtRest_X5_copyFrom
set_option maxRecDepth 20000 in
theorem ggX6_agreeingAtRest_X5_matchingPairsAtRest : GoodIn wsX6_agreeingAtRest wsX5_matchingPairsAtRest := goodIn_r _ [55, 11, 56, 9, 57, 58, 59, 6, 60, 61, 62, 63, 45, 64, 50, 51, 49, 65, 66, 67, 68, 47, 69, 70, 71, 72, 73, 74, 75, 76, 77, 78, 79, 80, 10, 8, 81, 82, 83, 84, 85, 86, 87, 12, 88, 89, 90, 29, 91, 31, 92, 93, 94, 95, 96, 97, 98, 99, 100, 101, 102, 103, 104, 105, 106, 107, 108, 109, 110, 111, 112, 113, 20, 114, 22, 115, 116, 117, 118, 25, 119, 120, 121, 122, 34, 33, 123, 124, 125, 126, 127, 128, 129, 38, 130, 40, 131, 132, 133, 134, 135, 136, 137, 138, 139, 140, 141, 142, 143, 144, 145, 146, 147, 148, 149, 150, 156, 157, 158, 159, 160, 168, 169, 170, 171, 164, 165, 166, 161, 162, 163, 167] (by decide +kernel) (by decide +kernel)
set_option maxRecDepth 20000 in
theorem gX6_agreeingAtRest_X5_matchingPairsAtRest : GoodIn wsX6_agreeingAtRest (wsV RX6 178 RX5 yX5_matchingPairsAtRest wsX5_matchingPairsAtRest) := goodIn_app (goodIn_of _ (by decide +kernel)) ggX6_agreeingAtRest_X5_matchingPairsAtRest
theorem dX6_agreeingAtRest_0 : decode cX6_agreeingAtRest 0 = .ok (.aload_n 0, 1) := by decide +kernel
theorem dX6_agreeingAtRest_1 : decode cX6_agreeingAtRest 1 = .ok (.getfield 16, 3) := by decide +kernel
theorem dX6_agreeingAtRest_4 : decode cX6_agreeingAtRest 4 = .ok (.aload_n 0, 1) := by decide +kernel
theorem dX6_agreeingAtRest_5 : decode cX6_agreeingAtRest 5 = .ok (.getfield 12, 3) := by decide +kernel
theorem dX6_agreeingAtRest_8 : decode cX6_agreeingAtRest 8 = .ok (.invokevirtual 174, 3) := by decide +kernel
theorem dX6_agreeingAtRest_11 : decode cX6_agreeingAtRest 11 = .ok (.aload_n 0, 1) := by decide +kernel
theorem dX6_agreeingAtRest_12 : decode cX6_agreeingAtRest 12 = .ok (.getfield 16, 3) := by decide +kernel
theorem dX6_agreeingAtRest_15 : decode cX6_agreeingAtRest 15 = .ok (.invokevirtual 178, 3) := by decide +kernel
theorem dX6_agreeingAtRest_18 : decode cX6_agreeingAtRest 18 = .ok (.ireturn, 1) := by decide +kernel
set_option maxRecDepth 20000 in
theorem ggX6_mostNeeded_X5_copyFrom : GoodIn wsX6_mostNeeded wsX5_copyFrom := goodIn_r _ [9, 10, 11, 12, 13, 14, 15, 16, 17, 18, 19, 20, 21, 22, 23, 24, 25, 26, 27, 28, 29, 30, 31, 32, 33, 34, 35, 36, 37, 38, 39, 40, 41, 42, 43, 44, 45, 46, 47, 48, 49, 50, 51, 52, 53, 167, 168, 169, 170, 171, 176, 177, 178, 179, 180, 181, 182, 172, 173, 174, 175] (by decide +kernel) (by decide +kernel)
set_option maxRecDepth 20000 in
theorem gX6_mostNeeded_X5_copyFrom : GoodIn wsX6_mostNeeded (wsV RX6 174 RX5 yX5_copyFrom wsX5_copyFrom) := goodIn_app (goodIn_of _ (by decide +kernel)) ggX6_mostNeeded_X5_copyFrom
set_option maxRecDepth 20000 in
theorem ggX6_mostNeeded_X5_matchingPairsAtRest : GoodIn wsX6_mostNeeded wsX5_matchingPairsAtRest := goodIn_r _ [57, 13, 58, 11, 59, 60, 61, 8, 62, 63, 64, 65, 47, 66, 52, 53, 51, 67, 68, 69, 70, 49, 71, 72, 73, 74, 75, 76, 77, 78, 79, 80, 81, 82, 12, 10, 83, 84, 85, 86, 87, 88, 89, 14, 90, 91, 92, 31, 93, 33, 94, 95, 96, 97, 98, 99, 100, 101, 102, 103, 104, 105, 106, 107, 108, 109, 110, 111, 112, 113, 114, 115, 22, 116, 24, 117, 118, 119, 120, 27, 121, 122, 123, 124, 36, 35, 125, 126, 127, 128, 129, 130, 131, 40, 132, 42, 133, 134, 135, 136, 137, 138, 139, 140, 141, 142, 143, 144, 145, 146, 147, 148, 149, 150, 151, 152, 167, 168, 169, 170, 171, 172, 173, 174, 175, 179, 180, 181, 176, 177, 178, 182] (by decide +kernel) (by decide +kernel)
set_option maxRecDepth 20000 in
theorem gX6_mostNeeded_X5_matchingPairsAtRest : GoodIn wsX6_mostNeeded (wsV RX6 178 RX5 yX5_matchingPairsAtRest wsX5_matchingPairsAtRest) := goodIn_app (goodIn_of _ (by decide +kernel)) ggX6_mostNeeded_X5_matchingPairsAtRest
set_option maxRecDepth 20000 in
theorem ggX6_mostNeeded_X0_isOfSeat : GoodIn wsX6_mostNeeded wsX0_isOfSeat := goodIn_r _ [156, 67, 68, 69, 47, 70, 49, 71, 72, 73, 74, 52, 75, 76, 77, 78, 157, 84, 85, 172, 173, 174, 175] (by decide +kernel) (by decide +kernel)
set_option maxRecDepth 20000 in
theorem gX6_mostNeeded_X0_isOfSeat : GoodIn wsX6_mostNeeded (wsV RX6 181 RX0 yX0_isOfSeat wsX0_isOfSeat) := goodIn_app (goodIn_of _ (by decide +kernel)) ggX6_mostNeeded_X0_isOfSeat
set_option maxRecDepth 20000 in
theorem ggX6_mostNeeded_X0_loseAt : GoodIn wsX6_mostNeeded wsX0_loseAt := goodIn_r _ [161, 53, 49, 51, 67, 68, 69, 47, 70, 71, 72, 73, 74, 52, 75, 76, 77, 78, 172, 173, 174, 175] (by decide +kernel) (by decide +kernel)
set_option maxRecDepth 20000 in
theorem gX6_mostNeeded_X0_loseAt : GoodIn wsX6_mostNeeded (wsV RX6 113 RX0 yX0_loseAt wsX0_loseAt) := goodIn_app (goodIn_of _ (by decide +kernel)) ggX6_mostNeeded_X0_loseAt
theorem dX6_mostNeeded_0 : decode cX6_mostNeeded 0 = .ok (.aload_n 0, 1) := by decide +kernel
theorem dX6_mostNeeded_1 : decode cX6_mostNeeded 1 = .ok (.getfield 16, 3) := by decide +kernel
theorem dX6_mostNeeded_4 : decode cX6_mostNeeded 4 = .ok (.aload_n 0, 1) := by decide +kernel
theorem dX6_mostNeeded_5 : decode cX6_mostNeeded 5 = .ok (.getfield 12, 3) := by decide +kernel
theorem dX6_mostNeeded_8 : decode cX6_mostNeeded 8 = .ok (.invokevirtual 174, 3) := by decide +kernel
theorem dX6_mostNeeded_11 : decode cX6_mostNeeded 11 = .ok (.aload_n 0, 1) := by decide +kernel
theorem dX6_mostNeeded_12 : decode cX6_mostNeeded 12 = .ok (.getfield 16, 3) := by decide +kernel
theorem dX6_mostNeeded_15 : decode cX6_mostNeeded 15 = .ok (.invokevirtual 178, 3) := by decide +kernel
theorem dX6_mostNeeded_18 : decode cX6_mostNeeded 18 = .ok (.istore_n 1, 1) := by decide +kernel
theorem dX6_mostNeeded_19 : decode cX6_mostNeeded 19 = .ok (.iconst (-1), 1) := by decide +kernel
theorem dX6_mostNeeded_20 : decode cX6_mostNeeded 20 = .ok (.istore_n 2, 1) := by decide +kernel
theorem dX6_mostNeeded_21 : decode cX6_mostNeeded 21 = .ok (.bipush 36, 2) := by decide +kernel
theorem dX6_mostNeeded_23 : decode cX6_mostNeeded 23 = .ok (.istore_n 3, 1) := by decide +kernel
theorem dX6_mostNeeded_24 : decode cX6_mostNeeded 24 = .ok (.aload_n 0, 1) := by decide +kernel
theorem dX6_mostNeeded_25 : decode cX6_mostNeeded 25 = .ok (.getfield 12, 3) := by decide +kernel
theorem dX6_mostNeeded_28 : decode cX6_mostNeeded 28 = .ok (.getfield 109, 3) := by decide +kernel
theorem dX6_mostNeeded_31 : decode cX6_mostNeeded 31 = .ok (.getfield 121, 3) := by decide +kernel
theorem dX6_mostNeeded_34 : decode cX6_mostNeeded 34 = .ok (.istore 4, 2) := by decide +kernel
theorem dX6_mostNeeded_36 : decode cX6_mostNeeded 36 = .ok (.iconst 0, 1) := by decide +kernel
theorem dX6_mostNeeded_37 : decode cX6_mostNeeded 37 = .ok (.istore 5, 2) := by decide +kernel
theorem dX6_mostNeeded_39 : decode cX6_mostNeeded 39 = .ok (.iload 5, 2) := by decide +kernel
theorem dX6_mostNeeded_41 : decode cX6_mostNeeded 41 = .ok (.iload 4, 2) := by decide +kernel
theorem dX6_mostNeeded_43 : decode cX6_mostNeeded 43 = .ok (.if_icmp .ge 80, 3) := by decide +kernel
theorem dX6_mostNeeded_46 : decode cX6_mostNeeded 46 = .ok (.iload_n 1, 1) := by decide +kernel
theorem dX6_mostNeeded_47 : decode cX6_mostNeeded 47 = .ok (.istore 6, 2) := by decide +kernel
theorem dX6_mostNeeded_49 : decode cX6_mostNeeded 49 = .ok (.aload_n 0, 1) := by decide +kernel
theorem dX6_mostNeeded_50 : decode cX6_mostNeeded 50 = .ok (.getfield 12, 3) := by decide +kernel
theorem dX6_mostNeeded_53 : decode cX6_mostNeeded 53 = .ok (.getfield 109, 3) := by decide +kernel
theorem dX6_mostNeeded_56 : decode cX6_mostNeeded 56 = .ok (.iload 5, 2) := by decide +kernel
theorem dX6_mostNeeded_58 : decode cX6_mostNeeded 58 = .ok (.invokevirtual 181, 3) := by decide +kernel
theorem dX6_mostNeeded_61 : decode cX6_mostNeeded 61 = .ok (.ifCond .ne 36, 3) := by decide +kernel
theorem dX6_mostNeeded_64 : decode cX6_mostNeeded 64 = .ok (.aload_n 0, 1) := by decide +kernel
theorem dX6_mostNeeded_65 : decode cX6_mostNeeded 65 = .ok (.getfield 16, 3) := by decide +kernel
theorem dX6_mostNeeded_68 : decode cX6_mostNeeded 68 = .ok (.aload_n 0, 1) := by decide +kernel
theorem dX6_mostNeeded_69 : decode cX6_mostNeeded 69 = .ok (.getfield 12, 3) := by decide +kernel
theorem dX6_mostNeeded_72 : decode cX6_mostNeeded 72 = .ok (.invokevirtual 174, 3) := by decide +kernel
theorem dX6_mostNeeded_75 : decode cX6_mostNeeded 75 = .ok (.aload_n 0, 1) := by decide +kernel
theorem dX6_mostNeeded_76 : decode cX6_mostNeeded 76 = .ok (.getfield 16, 3) := by decide +kernel
theorem dX6_mostNeeded_79 : decode cX6_mostNeeded 79 = .ok (.getfield 109, 3) := by decide +kernel
theorem dX6_mostNeeded_82 : decode cX6_mostNeeded 82 = .ok (.iload 5, 2) := by decide +kernel
theorem dX6_mostNeeded_84 : decode cX6_mostNeeded 84 = .ok (.invokevirtual 113, 3) := by decide +kernel
theorem dX6_mostNeeded_87 : decode cX6_mostNeeded 87 = .ok (.pop, 1) := by decide +kernel
theorem dX6_mostNeeded_88 : decode cX6_mostNeeded 88 = .ok (.aload_n 0, 1) := by decide +kernel
theorem dX6_mostNeeded_89 : decode cX6_mostNeeded 89 = .ok (.getfield 16, 3) := by decide +kernel
theorem dX6_mostNeeded_92 : decode cX6_mostNeeded 92 = .ok (.invokevirtual 178, 3) := by decide +kernel
theorem dX6_mostNeeded_95 : decode cX6_mostNeeded 95 = .ok (.istore 6, 2) := by decide +kernel
theorem dX6_mostNeeded_97 : decode cX6_mostNeeded 97 = .ok (.iload 6, 2) := by decide +kernel
theorem dX6_mostNeeded_99 : decode cX6_mostNeeded 99 = .ok (.iconst (-1), 1) := by decide +kernel
theorem dX6_mostNeeded_100 : decode cX6_mostNeeded 100 = .ok (.if_icmp .ne 5, 3) := by decide +kernel
theorem dX6_mostNeeded_103 : decode cX6_mostNeeded 103 = .ok (.iconst (-1), 1) := by decide +kernel
theorem dX6_mostNeeded_104 : decode cX6_mostNeeded 104 = .ok (.ireturn, 1) := by decide +kernel
theorem dX6_mostNeeded_105 : decode cX6_mostNeeded 105 = .ok (.iload 6, 2) := by decide +kernel
theorem dX6_mostNeeded_107 : decode cX6_mostNeeded 107 = .ok (.iload_n 3, 1) := by decide +kernel
theorem dX6_mostNeeded_108 : decode cX6_mostNeeded 108 = .ok (.if_icmp .ge 9, 3) := by decide +kernel
theorem dX6_mostNeeded_111 : decode cX6_mostNeeded 111 = .ok (.iload 6, 2) := by decide +kernel
theorem dX6_mostNeeded_113 : decode cX6_mostNeeded 113 = .ok (.istore_n 3, 1) := by decide +kernel
theorem dX6_mostNeeded_114 : decode cX6_mostNeeded 114 = .ok (.iload 5, 2) := by decide +kernel
theorem dX6_mostNeeded_116 : decode cX6_mostNeeded 116 = .ok (.istore_n 2, 1) := by decide +kernel
theorem dX6_mostNeeded_117 : decode cX6_mostNeeded 117 = .ok (.iinc 5 1, 3) := by decide +kernel
theorem dX6_mostNeeded_120 : decode cX6_mostNeeded 120 = .ok (.goto (-81), 3) := by decide +kernel
theorem dX6_mostNeeded_123 : decode cX6_mostNeeded 123 = .ok (.iload_n 2, 1) := by decide +kernel
theorem dX6_mostNeeded_124 : decode cX6_mostNeeded 124 = .ok (.ireturn, 1) := by decide +kernel
set_option maxRecDepth 20000 in
theorem ggX6_visible_X4_seeingPairs : GoodIn wsX6_visible wsX4_seeingPairs := goodIn_r _ [8, 9, 10, 11, 7, 12, 13, 14, 15, 16, 17, 28] (by decide +kernel) (by decide +kernel)
set_option maxRecDepth 20000 in
theorem gX6_visible_X4_seeingPairs : GoodIn wsX6_visible (wsV RX6 185 RX4 yX4_seeingPairs wsX4_seeingPairs) := goodIn_app (goodIn_of _ (by decide +kernel)) ggX6_visible_X4_seeingPairs
theorem dX6_visible_0 : decode cX6_visible 0 = .ok (.aload_n 0, 1) := by decide +kernel
theorem dX6_visible_1 : decode cX6_visible 1 = .ok (.getfield 12, 3) := by decide +kernel
theorem dX6_visible_4 : decode cX6_visible 4 = .ok (.getfield 152, 3) := by decide +kernel
theorem dX6_visible_7 : decode cX6_visible 7 = .ok (.invokevirtual 185, 3) := by decide +kernel
theorem dX6_visible_10 : decode cX6_visible 10 = .ok (.i2d, 1) := by decide +kernel
theorem dX6_visible_11 : decode cX6_visible 11 = .ok (.ldc2_w 188, 3) := by decide +kernel
theorem dX6_visible_14 : decode cX6_visible 14 = .ok (.ddiv, 1) := by decide +kernel
theorem dX6_visible_15 : decode cX6_visible 15 = .ok (.dreturn, 1) := by decide +kernel
set_option maxRecDepth 20000 in
theorem ggX6_append_X2_add : GoodIn wsX6_append wsX2_add := goodIn_r _ [11, 12, 13, 19, 20] (by decide +kernel) (by decide +kernel)
set_option maxRecDepth 20000 in
theorem gX6_append_X2_add : GoodIn wsX6_append (wsV RX6 197 RX2 yX2_add wsX2_add) := goodIn_app (goodIn_of _ (by decide +kernel)) ggX6_append_X2_add
theorem dX6_append_0 : decode cX6_append 0 = .ok (.iload_n 1, 1) := by decide +kernel
theorem dX6_append_1 : decode cX6_append 1 = .ok (.ifCond .lt 9, 3) := by decide +kernel
theorem dX6_append_4 : decode cX6_append 4 = .ok (.iload_n 1, 1) := by decide +kernel
theorem dX6_append_5 : decode cX6_append 5 = .ok (.bipush 127, 2) := by decide +kernel
theorem dX6_append_7 : decode cX6_append 7 = .ok (.if_icmp .le 13, 3) := by decide +kernel
theorem dX6_append_10 : decode cX6_append 10 = .ok (.new 57, 3) := by decide +kernel
theorem dX6_append_13 : decode cX6_append 13 = .ok (.dup, 1) := by decide +kernel
theorem dX6_append_14 : decode cX6_append 14 = .ok (.ldc 190, 2) := by decide +kernel
theorem dX6_append_16 : decode cX6_append 16 = .ok (.invokespecial 61, 3) := by decide +kernel
theorem dX6_append_19 : decode cX6_append 19 = .ok (.athrow, 1) := by decide +kernel
theorem dX6_append_20 : decode cX6_append 20 = .ok (.aload_n 0, 1) := by decide +kernel
theorem dX6_append_21 : decode cX6_append 21 = .ok (.getfield 22, 3) := by decide +kernel
theorem dX6_append_24 : decode cX6_append 24 = .ok (.getfield 192, 3) := by decide +kernel
theorem dX6_append_27 : decode cX6_append 27 = .ok (.bipush 100, 2) := by decide +kernel
theorem dX6_append_29 : decode cX6_append 29 = .ok (.if_icmp .lt 13, 3) := by decide +kernel
theorem dX6_append_32 : decode cX6_append 32 = .ok (.new 78, 3) := by decide +kernel
theorem dX6_append_35 : decode cX6_append 35 = .ok (.dup, 1) := by decide +kernel
theorem dX6_append_36 : decode cX6_append 36 = .ok (.ldc 195, 2) := by decide +kernel
theorem dX6_append_38 : decode cX6_append 38 = .ok (.invokespecial 82, 3) := by decide +kernel
theorem dX6_append_41 : decode cX6_append 41 = .ok (.athrow, 1) := by decide +kernel
theorem dX6_append_42 : decode cX6_append 42 = .ok (.aload_n 0, 1) := by decide +kernel
theorem dX6_append_43 : decode cX6_append 43 = .ok (.getfield 22, 3) := by decide +kernel
theorem dX6_append_46 : decode cX6_append 46 = .ok (.iload_n 1, 1) := by decide +kernel
theorem dX6_append_47 : decode cX6_append 47 = .ok (.i2b, 1) := by decide +kernel
theorem dX6_append_48 : decode cX6_append 48 = .ok (.invokevirtual 197, 3) := by decide +kernel
theorem dX6_append_51 : decode cX6_append 51 = .ok (.ireturn, 1) := by decide +kernel
set_option maxRecDepth 20000 in
theorem ggX6_undo_X5_copyFrom : GoodIn wsX6_undo wsX5_copyFrom := goodIn_r _ [10, 11, 12, 13, 14, 15, 16, 17, 18, 19, 20, 21, 22, 23, 24, 25, 26, 27, 28, 29, 30, 31, 32, 33, 34, 35, 36, 37, 38, 39, 40, 41, 42, 43, 44, 45, 46, 47, 48, 49, 50, 51, 52, 53, 54, 60, 61, 62, 63, 64, 65, 66, 67, 68, 69, 70, 71, 72, 73, 74, 75] (by decide +kernel) (by decide +kernel)
set_option maxRecDepth 20000 in
theorem gX6_undo_X5_copyFrom : GoodIn wsX6_undo (wsV RX6 174 RX5 yX5_copyFrom wsX5_copyFrom) := goodIn_app (goodIn_of _ (by decide +kernel)) ggX6_undo_X5_copyFrom
theorem dX6_undo_0 : decode cX6_undo 0 = .ok (.aload_n 0, 1) := by decide +kernel
theorem dX6_undo_1 : decode cX6_undo 1 = .ok (.getfield 210, 3) := by decide +kernel
theorem dX6_undo_4 : decode cX6_undo 4 = .ok (.iconst 1, 1) := by decide +kernel
theorem dX6_undo_5 : decode cX6_undo 5 = .ok (.if_icmp .ge 13, 3) := by decide +kernel
theorem dX6_undo_8 : decode cX6_undo 8 = .ok (.new 78, 3) := by decide +kernel
theorem dX6_undo_11 : decode cX6_undo 11 = .ok (.dup, 1) := by decide +kernel
theorem dX6_undo_12 : decode cX6_undo 12 = .ok (.ldc 213, 2) := by decide +kernel
theorem dX6_undo_14 : decode cX6_undo 14 = .ok (.invokespecial 82, 3) := by decide +kernel
theorem dX6_undo_17 : decode cX6_undo 17 = .ok (.athrow, 1) := by decide +kernel
theorem dX6_undo_18 : decode cX6_undo 18 = .ok (.aload_n 0, 1) := by decide +kernel
theorem dX6_undo_19 : decode cX6_undo 19 = .ok (.dup, 1) := by decide +kernel
theorem dX6_undo_20 : decode cX6_undo 20 = .ok (.getfield 210, 3) := by decide +kernel
theorem dX6_undo_23 : decode cX6_undo 23 = .ok (.iconst 1, 1) := by decide +kernel
theorem dX6_undo_24 : decode cX6_undo 24 = .ok (.isub, 1) := by decide +kernel
theorem dX6_undo_25 : decode cX6_undo 25 = .ok (.putfield 210, 3) := by decide +kernel
theorem dX6_undo_28 : decode cX6_undo 28 = .ok (.aload_n 0, 1) := by decide +kernel
theorem dX6_undo_29 : decode cX6_undo 29 = .ok (.getfield 12, 3) := by decide +kernel
theorem dX6_undo_32 : decode cX6_undo 32 = .ok (.aload_n 0, 1) := by decide +kernel
theorem dX6_undo_33 : decode cX6_undo 33 = .ok (.getfield 26, 3) := by decide +kernel
theorem dX6_undo_36 : decode cX6_undo 36 = .ok (.aload_n 0, 1) := by decide +kernel
theorem dX6_undo_37 : decode cX6_undo 37 = .ok (.getfield 210, 3) := by decide +kernel
theorem dX6_undo_40 : decode cX6_undo 40 = .ok (.aaload, 1) := by decide +kernel
theorem dX6_undo_41 : decode cX6_undo 41 = .ok (.invokevirtual 174, 3) := by decide +kernel
theorem dX6_undo_44 : decode cX6_undo 44 = .ok (.aload_n 0, 1) := by decide +kernel
theorem dX6_undo_45 : decode cX6_undo 45 = .ok (.getfield 210, 3) := by decide +kernel
theorem dX6_undo_48 : decode cX6_undo 48 = .ok (.ireturn, 1) := by decide +kernel
set_option maxRecDepth 20000 in
theorem ggX6_digest_X5_hashUser : GoodIn wsX6_digest wsX5_hashUser := goodIn_r _ [12, 13, 14, 15, 16, 17, 18, 19, 20, 21, 22, 23, 24, 25, 26, 27, 28, 29, 30, 31, 32, 11, 33, 34, 35, 36, 37, 38, 39, 40, 41, 42, 43, 44, 45, 46, 47, 48, 49, 50, 51, 84, 85, 86, 87, 88, 89, 90, 91, 92, 93, 94, 95] (by decide +kernel) (by decide +kernel)
set_option maxRecDepth 20000 in
theorem gX6_digest_X5_hashUser : GoodIn wsX6_digest (wsV RX6 217 RX5 yX5_hashUser wsX5_hashUser) := goodIn_app (goodIn_of _ (by decide +kernel)) ggX6_digest_X5_hashUser
set_option maxRecDepth 20000 in
theorem ggX6_digest_X0_hashMessages : GoodIn wsX6_digest wsX0_hashMessages := goodIn_r _ [56, 57, 58, 59, 60, 61, 62, 55, 63, 64, 65, 66, 67, 68, 69, 70, 71, 72, 73, 74, 75, 76, 96, 97, 98, 99] (by decide +kernel) (by decide +kernel)
set_option maxRecDepth 20000 in
theorem gX6_digest_X0_hashMessages : GoodIn wsX6_digest (wsV RX6 221 RX0 yX0_hashMessages wsX0_hashMessages) := goodIn_app (goodIn_of _ (by decide +kernel)) ggX6_digest_X0_hashMessages
theorem dX6_digest_0 : decode cX6_digest 0 = .ok (.ldc2_w 215, 3) := by decide +kernel
theorem dX6_digest_3 : decode cX6_digest 3 = .ok (.aload_n 0, 1) := by decide +kernel
theorem dX6_digest_4 : decode cX6_digest 4 = .ok (.getfield 22, 3) := by decide +kernel
theorem dX6_digest_7 : decode cX6_digest 7 = .ok (.getfield 192, 3) := by decide +kernel
theorem dX6_digest_10 : decode cX6_digest 10 = .ok (.i2l, 1) := by decide +kernel
theorem dX6_digest_11 : decode cX6_digest 11 = .ok (.ladd, 1) := by decide +kernel
theorem dX6_digest_12 : decode cX6_digest 12 = .ok (.lstore_n 1, 1) := by decide +kernel
theorem dX6_digest_13 : decode cX6_digest 13 = .ok (.iconst 0, 1) := by decide +kernel
theorem dX6_digest_14 : decode cX6_digest 14 = .ok (.istore_n 3, 1) := by decide +kernel
theorem dX6_digest_15 : decode cX6_digest 15 = .ok (.iload_n 3, 1) := by decide +kernel
theorem dX6_digest_16 : decode cX6_digest 16 = .ok (.bipush 6, 2) := by decide +kernel
theorem dX6_digest_18 : decode cX6_digest 18 = .ok (.if_icmp .ge 19, 3) := by decide +kernel
theorem dX6_digest_21 : decode cX6_digest 21 = .ok (.aload_n 0, 1) := by decide +kernel
theorem dX6_digest_22 : decode cX6_digest 22 = .ok (.getfield 12, 3) := by decide +kernel
theorem dX6_digest_25 : decode cX6_digest 25 = .ok (.lload_n 1, 1) := by decide +kernel
theorem dX6_digest_26 : decode cX6_digest 26 = .ok (.iload_n 3, 1) := by decide +kernel
theorem dX6_digest_27 : decode cX6_digest 27 = .ok (.invokevirtual 217, 3) := by decide +kernel
theorem dX6_digest_30 : decode cX6_digest 30 = .ok (.lstore_n 1, 1) := by decide +kernel
theorem dX6_digest_31 : decode cX6_digest 31 = .ok (.iinc 3 1, 3) := by decide +kernel
theorem dX6_digest_34 : decode cX6_digest 34 = .ok (.goto (-19), 3) := by decide +kernel
theorem dX6_digest_37 : decode cX6_digest 37 = .ok (.aload_n 0, 1) := by decide +kernel
theorem dX6_digest_38 : decode cX6_digest 38 = .ok (.getfield 12, 3) := by decide +kernel
theorem dX6_digest_41 : decode cX6_digest 41 = .ok (.getfield 109, 3) := by decide +kernel
theorem dX6_digest_44 : decode cX6_digest 44 = .ok (.lload_n 1, 1) := by decide +kernel
theorem dX6_digest_45 : decode cX6_digest 45 = .ok (.invokevirtual 221, 3) := by decide +kernel
theorem dX6_digest_48 : decode cX6_digest 48 = .ok (.lstore_n 1, 1) := by decide +kernel
theorem dX6_digest_49 : decode cX6_digest 49 = .ok (.ldc2_w 225, 3) := by decide +kernel
theorem dX6_digest_52 : decode cX6_digest 52 = .ok (.lload_n 1, 1) := by decide +kernel
theorem dX6_digest_53 : decode cX6_digest 53 = .ok (.lmul, 1) := by decide +kernel
theorem dX6_digest_54 : decode cX6_digest 54 = .ok (.aload_n 0, 1) := by decide +kernel
theorem dX6_digest_55 : decode cX6_digest 55 = .ok (.getfield 210, 3) := by decide +kernel
theorem dX6_digest_58 : decode cX6_digest 58 = .ok (.i2l, 1) := by decide +kernel
theorem dX6_digest_59 : decode cX6_digest 59 = .ok (.ladd, 1) := by decide +kernel
theorem dX6_digest_60 : decode cX6_digest 60 = .ok (.lreturn, 1) := by decide +kernel
theorem dX6_checkUser_0 : decode cX6_checkUser 0 = .ok (.iload_n 0, 1) := by decide +kernel
theorem dX6_checkUser_1 : decode cX6_checkUser 1 = .ok (.ifCond .lt 9, 3) := by decide +kernel
theorem dX6_checkUser_4 : decode cX6_checkUser 4 = .ok (.iload_n 0, 1) := by decide +kernel
theorem dX6_checkUser_5 : decode cX6_checkUser 5 = .ok (.bipush 6, 2) := by decide +kernel
theorem dX6_checkUser_7 : decode cX6_checkUser 7 = .ok (.if_icmp .lt 13, 3) := by decide +kernel
theorem dX6_checkUser_10 : decode cX6_checkUser 10 = .ok (.new 227, 3) := by decide +kernel
theorem dX6_checkUser_13 : decode cX6_checkUser 13 = .ok (.dup, 1) := by decide +kernel
theorem dX6_checkUser_14 : decode cX6_checkUser 14 = .ok (.ldc 229, 2) := by decide +kernel
theorem dX6_checkUser_16 : decode cX6_checkUser 16 = .ok (.invokespecial 231, 3) := by decide +kernel
theorem dX6_checkUser_19 : decode cX6_checkUser 19 = .ok (.athrow, 1) := by decide +kernel
theorem dX6_checkUser_20 : decode cX6_checkUser 20 = .ok (.return_, 1) := by decide +kernel
set_option maxRecDepth 20000 in
theorem ggX6_checkPair_X6_checkUser : GoodIn wsX6_checkPair wsX6_checkUser := goodIn_ca (goodIn_r _ [6, 7, 8] (by decide +kernel) (by decide +kernel)) (goodIn_sub (fun _ h => List.mem_cons_of_mem _ (List.mem_append_right _ h)) (by decide +kernel))
set_option maxRecDepth 20000 in
theorem gX6_checkPair_X6_checkUser : GoodIn wsX6_checkPair (va_wsS RX6 86 yX6_checkUser wsX6_checkUser) := goodIn_app (goodIn_of _ (by decide +kernel)) ggX6_checkPair_X6_checkUser
theorem dX6_checkPair_0 : decode cX6_checkPair 0 = .ok (.iload_n 0, 1) := by decide +kernel
theorem dX6_checkPair_1 : decode cX6_checkPair 1 = .ok (.invokestatic 86, 3) := by decide +kernel
theorem dX6_checkPair_4 : decode cX6_checkPair 4 = .ok (.iload_n 1, 1) := by decide +kernel
theorem dX6_checkPair_5 : decode cX6_checkPair 5 = .ok (.invokestatic 86, 3) := by decide +kernel
theorem dX6_checkPair_8 : decode cX6_checkPair 8 = .ok (.iload_n 0, 1) := by decide +kernel
theorem dX6_checkPair_9 : decode cX6_checkPair 9 = .ok (.iload_n 1, 1) := by decide +kernel
theorem dX6_checkPair_10 : decode cX6_checkPair 10 = .ok (.if_icmp .ne 13, 3) := by decide +kernel
theorem dX6_checkPair_13 : decode cX6_checkPair 13 = .ok (.new 57, 3) := by decide +kernel
theorem dX6_checkPair_16 : decode cX6_checkPair 16 = .ok (.dup, 1) := by decide +kernel
theorem dX6_checkPair_17 : decode cX6_checkPair 17 = .ok (.ldc 232, 2) := by decide +kernel
theorem dX6_checkPair_19 : decode cX6_checkPair 19 = .ok (.invokespecial 61, 3) := by decide +kernel
theorem dX6_checkPair_22 : decode cX6_checkPair 22 = .ok (.athrow, 1) := by decide +kernel
theorem dX6_checkPair_23 : decode cX6_checkPair 23 = .ok (.return_, 1) := by decide +kernel
set_option maxRecDepth 20000 in
theorem ggX6_checkSeat_X6_checkUser : GoodIn wsX6_checkSeat wsX6_checkUser := goodIn_ca (goodIn_r _ [6, 1, 2] (by decide +kernel) (by decide +kernel)) (goodIn_sub (fun _ h => List.mem_cons_of_mem _ (List.mem_append_right _ h)) (by decide +kernel))
set_option maxRecDepth 20000 in
theorem gX6_checkSeat_X6_checkUser : GoodIn wsX6_checkSeat (va_wsS RX6 86 yX6_checkUser wsX6_checkUser) := goodIn_app (goodIn_of _ (by decide +kernel)) ggX6_checkSeat_X6_checkUser
theorem dX6_checkSeat_0 : decode cX6_checkSeat 0 = .ok (.iload_n 0, 1) := by decide +kernel
theorem dX6_checkSeat_1 : decode cX6_checkSeat 1 = .ok (.invokestatic 86, 3) := by decide +kernel
theorem dX6_checkSeat_4 : decode cX6_checkSeat 4 = .ok (.iload_n 1, 1) := by decide +kernel
theorem dX6_checkSeat_5 : decode cX6_checkSeat 5 = .ok (.ifCond .lt 8, 3) := by decide +kernel
theorem dX6_checkSeat_8 : decode cX6_checkSeat 8 = .ok (.iload_n 1, 1) := by decide +kernel
theorem dX6_checkSeat_9 : decode cX6_checkSeat 9 = .ok (.iconst 3, 1) := by decide +kernel
theorem dX6_checkSeat_10 : decode cX6_checkSeat 10 = .ok (.if_icmp .lt 13, 3) := by decide +kernel
theorem dX6_checkSeat_13 : decode cX6_checkSeat 13 = .ok (.new 227, 3) := by decide +kernel
theorem dX6_checkSeat_16 : decode cX6_checkSeat 16 = .ok (.dup, 1) := by decide +kernel
theorem dX6_checkSeat_17 : decode cX6_checkSeat 17 = .ok (.ldc 234, 2) := by decide +kernel
theorem dX6_checkSeat_19 : decode cX6_checkSeat 19 = .ok (.invokespecial 231, 3) := by decide +kernel
theorem dX6_checkSeat_22 : decode cX6_checkSeat 22 = .ok (.athrow, 1) := by decide +kernel
theorem dX6_checkSeat_23 : decode cX6_checkSeat 23 = .ok (.return_, 1) := by decide +kernel
theorem dX6_checkWhat_0 : decode cX6_checkWhat 0 = .ok (.iload_n 0, 1) := by decide +kernel
theorem dX6_checkWhat_1 : decode cX6_checkWhat 1 = .ok (.ifCond .lt 8, 3) := by decide +kernel
theorem dX6_checkWhat_4 : decode cX6_checkWhat 4 = .ok (.iload_n 0, 1) := by decide +kernel
theorem dX6_checkWhat_5 : decode cX6_checkWhat 5 = .ok (.iload_n 1, 1) := by decide +kernel
theorem dX6_checkWhat_6 : decode cX6_checkWhat 6 = .ok (.if_icmp .lt 13, 3) := by decide +kernel
theorem dX6_checkWhat_9 : decode cX6_checkWhat 9 = .ok (.new 57, 3) := by decide +kernel
theorem dX6_checkWhat_12 : decode cX6_checkWhat 12 = .ok (.dup, 1) := by decide +kernel
theorem dX6_checkWhat_13 : decode cX6_checkWhat 13 = .ok (.ldc 236, 2) := by decide +kernel
theorem dX6_checkWhat_15 : decode cX6_checkWhat 15 = .ok (.invokespecial 61, 3) := by decide +kernel
theorem dX6_checkWhat_18 : decode cX6_checkWhat 18 = .ok (.athrow, 1) := by decide +kernel
theorem dX6_checkWhat_19 : decode cX6_checkWhat 19 = .ok (.return_, 1) := by decide +kernel
theorem dX6_checkMessage_0 : decode cX6_checkMessage 0 = .ok (.iload_n 1, 1) := by decide +kernel
theorem dX6_checkMessage_1 : decode cX6_checkMessage 1 = .ok (.ifCond .lt 17, 3) := by decide +kernel
theorem dX6_checkMessage_4 : decode cX6_checkMessage 4 = .ok (.iload_n 1, 1) := by decide +kernel
theorem dX6_checkMessage_5 : decode cX6_checkMessage 5 = .ok (.aload_n 0, 1) := by decide +kernel
theorem dX6_checkMessage_6 : decode cX6_checkMessage 6 = .ok (.getfield 12, 3) := by decide +kernel
theorem dX6_checkMessage_9 : decode cX6_checkMessage 9 = .ok (.getfield 109, 3) := by decide +kernel
theorem dX6_checkMessage_12 : decode cX6_checkMessage 12 = .ok (.getfield 121, 3) := by decide +kernel
theorem dX6_checkMessage_15 : decode cX6_checkMessage 15 = .ok (.if_icmp .lt 13, 3) := by decide +kernel
theorem dX6_checkMessage_18 : decode cX6_checkMessage 18 = .ok (.new 227, 3) := by decide +kernel
theorem dX6_checkMessage_21 : decode cX6_checkMessage 21 = .ok (.dup, 1) := by decide +kernel
theorem dX6_checkMessage_22 : decode cX6_checkMessage 22 = .ok (.ldc 238, 2) := by decide +kernel
theorem dX6_checkMessage_24 : decode cX6_checkMessage 24 = .ok (.invokespecial 231, 3) := by decide +kernel
theorem dX6_checkMessage_27 : decode cX6_checkMessage 27 = .ok (.athrow, 1) := by decide +kernel
theorem dX6_checkMessage_28 : decode cX6_checkMessage 28 = .ok (.return_, 1) := by decide +kernel
set_option maxRecDepth 20000 in
theorem ggX6_saveState_X6_dropOldestState : GoodIn wsX6_saveState wsX6_dropOldestState := goodIn_r _ [8, 2, 1, 58, 59, 60, 61, 62] (by decide +kernel) (by decide +kernel)
set_option maxRecDepth 20000 in
theorem gX6_saveState_X6_dropOldestState : GoodIn wsX6_saveState (wsV RX6 240 RX6 yX6_dropOldestState wsX6_dropOldestState) := goodIn_app (goodIn_of _ (by decide +kernel)) ggX6_saveState_X6_dropOldestState
set_option maxRecDepth 20000 in
theorem ggX6_saveState_X5_copyFrom : GoodIn wsX6_saveState wsX5_copyFrom := goodIn_r _ [13, 14, 15, 16, 17, 18, 19, 20, 21, 22, 23, 24, 25, 26, 27, 28, 29, 30, 31, 32, 33, 34, 35, 36, 37, 38, 39, 40, 41, 42, 43, 44, 45, 46, 47, 48, 49, 50, 51, 52, 53, 54, 55, 56, 57, 63, 64, 65, 66, 67, 68, 69, 70, 71, 72, 73, 74, 75, 76, 77, 78] (by decide +kernel) (by decide +kernel)
set_option maxRecDepth 20000 in
theorem gX6_saveState_X5_copyFrom : GoodIn wsX6_saveState (wsV RX6 174 RX5 yX5_copyFrom wsX5_copyFrom) := goodIn_app (goodIn_of _ (by decide +kernel)) ggX6_saveState_X5_copyFrom
theorem dX6_saveState_0 : decode cX6_saveState 0 = .ok (.aload_n 0, 1) := by decide +kernel
theorem dX6_saveState_1 : decode cX6_saveState 1 = .ok (.getfield 210, 3) := by decide +kernel
theorem dX6_saveState_4 : decode cX6_saveState 4 = .ok (.iconst 4, 1) := by decide +kernel
theorem dX6_saveState_5 : decode cX6_saveState 5 = .ok (.if_icmp .lt 7, 3) := by decide +kernel
theorem dX6_saveState_8 : decode cX6_saveState 8 = .ok (.aload_n 0, 1) := by decide +kernel
theorem dX6_saveState_9 : decode cX6_saveState 9 = .ok (.invokevirtual 240, 3) := by decide +kernel
theorem dX6_saveState_12 : decode cX6_saveState 12 = .ok (.aload_n 0, 1) := by decide +kernel
theorem dX6_saveState_13 : decode cX6_saveState 13 = .ok (.getfield 26, 3) := by decide +kernel
theorem dX6_saveState_16 : decode cX6_saveState 16 = .ok (.aload_n 0, 1) := by decide +kernel
theorem dX6_saveState_17 : decode cX6_saveState 17 = .ok (.getfield 210, 3) := by decide +kernel
theorem dX6_saveState_20 : decode cX6_saveState 20 = .ok (.aaload, 1) := by decide +kernel
theorem dX6_saveState_21 : decode cX6_saveState 21 = .ok (.aload_n 0, 1) := by decide +kernel
theorem dX6_saveState_22 : decode cX6_saveState 22 = .ok (.getfield 12, 3) := by decide +kernel
theorem dX6_saveState_25 : decode cX6_saveState 25 = .ok (.invokevirtual 174, 3) := by decide +kernel
theorem dX6_saveState_28 : decode cX6_saveState 28 = .ok (.aload_n 0, 1) := by decide +kernel
theorem dX6_saveState_29 : decode cX6_saveState 29 = .ok (.dup, 1) := by decide +kernel
theorem dX6_saveState_30 : decode cX6_saveState 30 = .ok (.getfield 210, 3) := by decide +kernel
theorem dX6_saveState_33 : decode cX6_saveState 33 = .ok (.iconst 1, 1) := by decide +kernel
theorem dX6_saveState_34 : decode cX6_saveState 34 = .ok (.iadd, 1) := by decide +kernel
theorem dX6_saveState_35 : decode cX6_saveState 35 = .ok (.putfield 210, 3) := by decide +kernel
theorem dX6_saveState_38 : decode cX6_saveState 38 = .ok (.return_, 1) := by decide +kernel
theorem dX6_dropOldestState_0 : decode cX6_dropOldestState 0 = .ok (.aload_n 0, 1) := by decide +kernel
theorem dX6_dropOldestState_1 : decode cX6_dropOldestState 1 = .ok (.getfield 26, 3) := by decide +kernel
theorem dX6_dropOldestState_4 : decode cX6_dropOldestState 4 = .ok (.iconst 0, 1) := by decide +kernel
theorem dX6_dropOldestState_5 : decode cX6_dropOldestState 5 = .ok (.aaload, 1) := by decide +kernel
theorem dX6_dropOldestState_6 : decode cX6_dropOldestState 6 = .ok (.astore_n 1, 1) := by decide +kernel
theorem dX6_dropOldestState_7 : decode cX6_dropOldestState 7 = .ok (.iconst 1, 1) := by decide +kernel
theorem dX6_dropOldestState_8 : decode cX6_dropOldestState 8 = .ok (.istore_n 2, 1) := by decide +kernel
theorem dX6_dropOldestState_9 : decode cX6_dropOldestState 9 = .ok (.iload_n 2, 1) := by decide +kernel
theorem dX6_dropOldestState_10 : decode cX6_dropOldestState 10 = .ok (.iconst 4, 1) := by decide +kernel
theorem dX6_dropOldestState_11 : decode cX6_dropOldestState 11 = .ok (.if_icmp .ge 23, 3) := by decide +kernel
theorem dX6_dropOldestState_14 : decode cX6_dropOldestState 14 = .ok (.aload_n 0, 1) := by decide +kernel
theorem dX6_dropOldestState_15 : decode cX6_dropOldestState 15 = .ok (.getfield 26, 3) := by decide +kernel
theorem dX6_dropOldestState_18 : decode cX6_dropOldestState 18 = .ok (.iload_n 2, 1) := by decide +kernel
theorem dX6_dropOldestState_19 : decode cX6_dropOldestState 19 = .ok (.iconst 1, 1) := by decide +kernel
theorem dX6_dropOldestState_20 : decode cX6_dropOldestState 20 = .ok (.isub, 1) := by decide +kernel
theorem dX6_dropOldestState_21 : decode cX6_dropOldestState 21 = .ok (.aload_n 0, 1) := by decide +kernel
theorem dX6_dropOldestState_22 : decode cX6_dropOldestState 22 = .ok (.getfield 26, 3) := by decide +kernel
theorem dX6_dropOldestState_25 : decode cX6_dropOldestState 25 = .ok (.iload_n 2, 1) := by decide +kernel
theorem dX6_dropOldestState_26 : decode cX6_dropOldestState 26 = .ok (.aaload, 1) := by decide +kernel
theorem dX6_dropOldestState_27 : decode cX6_dropOldestState 27 = .ok (.aastore, 1) := by decide +kernel
theorem dX6_dropOldestState_28 : decode cX6_dropOldestState 28 = .ok (.iinc 2 1, 3) := by decide +kernel
theorem dX6_dropOldestState_31 : decode cX6_dropOldestState 31 = .ok (.goto (-22), 3) := by decide +kernel
theorem dX6_dropOldestState_34 : decode cX6_dropOldestState 34 = .ok (.aload_n 0, 1) := by decide +kernel
theorem dX6_dropOldestState_35 : decode cX6_dropOldestState 35 = .ok (.getfield 26, 3) := by decide +kernel
theorem dX6_dropOldestState_38 : decode cX6_dropOldestState 38 = .ok (.iconst 3, 1) := by decide +kernel
theorem dX6_dropOldestState_39 : decode cX6_dropOldestState 39 = .ok (.aload_n 1, 1) := by decide +kernel
theorem dX6_dropOldestState_40 : decode cX6_dropOldestState 40 = .ok (.aastore, 1) := by decide +kernel
theorem dX6_dropOldestState_41 : decode cX6_dropOldestState 41 = .ok (.aload_n 0, 1) := by decide +kernel
theorem dX6_dropOldestState_42 : decode cX6_dropOldestState 42 = .ok (.iconst 3, 1) := by decide +kernel
theorem dX6_dropOldestState_43 : decode cX6_dropOldestState 43 = .ok (.putfield 210, 3) := by decide +kernel
theorem dX6_dropOldestState_46 : decode cX6_dropOldestState 46 = .ok (.return_, 1) := by decide +kernel
theorem dJ9_floorMod_7cf53_0 : decode cJ9_floorMod_7cf53 0 = .ok (.iload_n 0, 1) := by decide +kernel
theorem dJ9_floorMod_7cf53_1 : decode cJ9_floorMod_7cf53 1 = .ok (.iload_n 1, 1) := by decide +kernel
theorem dJ9_floorMod_7cf53_2 : decode cJ9_floorMod_7cf53 2 = .ok (.irem, 1) := by decide +kernel
theorem dJ9_floorMod_7cf53_3 : decode cJ9_floorMod_7cf53 3 = .ok (.istore_n 2, 1) := by decide +kernel
theorem dJ9_floorMod_7cf53_4 : decode cJ9_floorMod_7cf53 4 = .ok (.iload_n 0, 1) := by decide +kernel
theorem dJ9_floorMod_7cf53_5 : decode cJ9_floorMod_7cf53 5 = .ok (.iload_n 1, 1) := by decide +kernel
theorem dJ9_floorMod_7cf53_6 : decode cJ9_floorMod_7cf53 6 = .ok (.ixor, 1) := by decide +kernel
theorem dJ9_floorMod_7cf53_7 : decode cJ9_floorMod_7cf53 7 = .ok (.ifCond .ge 11, 3) := by decide +kernel
theorem dJ9_floorMod_7cf53_10 : decode cJ9_floorMod_7cf53 10 = .ok (.iload_n 2, 1) := by decide +kernel
theorem dJ9_floorMod_7cf53_11 : decode cJ9_floorMod_7cf53 11 = .ok (.ifCond .eq 7, 3) := by decide +kernel
theorem dJ9_floorMod_7cf53_14 : decode cJ9_floorMod_7cf53 14 = .ok (.iload_n 2, 1) := by decide +kernel
theorem dJ9_floorMod_7cf53_15 : decode cJ9_floorMod_7cf53 15 = .ok (.iload_n 1, 1) := by decide +kernel
theorem dJ9_floorMod_7cf53_16 : decode cJ9_floorMod_7cf53 16 = .ok (.iadd, 1) := by decide +kernel
theorem dJ9_floorMod_7cf53_17 : decode cJ9_floorMod_7cf53 17 = .ok (.ireturn, 1) := by decide +kernel
theorem dJ9_floorMod_7cf53_18 : decode cJ9_floorMod_7cf53 18 = .ok (.iload_n 2, 1) := by decide +kernel
theorem dJ9_floorMod_7cf53_19 : decode cJ9_floorMod_7cf53 19 = .ok (.ireturn, 1) := by decide +kernel
theorem dJ7_fill_53178_0 : decode cJ7_fill_53178 0 = .ok (.iconst 0, 1) := by decide +kernel
theorem dJ7_fill_53178_1 : decode cJ7_fill_53178 1 = .ok (.istore_n 2, 1) := by decide +kernel
theorem dJ7_fill_53178_2 : decode cJ7_fill_53178 2 = .ok (.aload_n 0, 1) := by decide +kernel
theorem dJ7_fill_53178_3 : decode cJ7_fill_53178 3 = .ok (.arraylength, 1) := by decide +kernel
theorem dJ7_fill_53178_4 : decode cJ7_fill_53178 4 = .ok (.istore_n 3, 1) := by decide +kernel
theorem dJ7_fill_53178_5 : decode cJ7_fill_53178 5 = .ok (.iload_n 2, 1) := by decide +kernel
theorem dJ7_fill_53178_6 : decode cJ7_fill_53178 6 = .ok (.iload_n 3, 1) := by decide +kernel
theorem dJ7_fill_53178_7 : decode cJ7_fill_53178 7 = .ok (.if_icmp .ge 13, 3) := by decide +kernel
theorem dJ7_fill_53178_10 : decode cJ7_fill_53178 10 = .ok (.aload_n 0, 1) := by decide +kernel
theorem dJ7_fill_53178_11 : decode cJ7_fill_53178 11 = .ok (.iload_n 2, 1) := by decide +kernel
theorem dJ7_fill_53178_12 : decode cJ7_fill_53178 12 = .ok (.iload_n 1, 1) := by decide +kernel
theorem dJ7_fill_53178_13 : decode cJ7_fill_53178 13 = .ok (.iastore, 1) := by decide +kernel
theorem dJ7_fill_53178_14 : decode cJ7_fill_53178 14 = .ok (.iinc 2 1, 3) := by decide +kernel
theorem dJ7_fill_53178_17 : decode cJ7_fill_53178 17 = .ok (.goto (-12), 3) := by decide +kernel
theorem dJ7_fill_53178_20 : decode cJ7_fill_53178 20 = .ok (.return_, 1) := by decide +kernel

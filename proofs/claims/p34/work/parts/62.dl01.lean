theorem dL_version_8 : decode cL_version 8 = .ok (.sipush (-903), 3) := by decide +kernel
theorem dL_version_11 : decode cL_version 11 = .ok (.ireturn, 1) := by decide +kernel
theorem dL_version_12 : decode cL_version 12 = .ok (.astore_n 3, 1) := by decide +kernel
theorem dL_version_13 : decode cL_version 13 = .ok (.sipush (-901), 3) := by decide +kernel
theorem dL_version_16 : decode cL_version 16 = .ok (.ireturn, 1) := by decide +kernel
set_option maxRecDepth 20000 in
theorem ggL_changedSince_X6_changedSince : GoodIn wsL_changedSince wsX6_changedSince := goodIn_ca (goodIn_ca (goodIn_r _ [7, 8, 9, 10, 11, 12, 13, 6, 14, 15, 16, 17, 18, 19, 20, 21, 22, 23, 24, 25, 26, 27, 28, 29, 30, 31, 32, 33, 34, 35] (by decide +kernel) (by decide +kernel)) (goodIn_sub (fun _ h => List.mem_cons_of_mem _ (List.mem_append_left _ (List.mem_append_right _ h))) (by decide +kernel))) (goodIn_sub (fun _ h => List.mem_cons_of_mem _ (List.mem_append_right _ h)) (by decide +kernel))
set_option maxRecDepth 20000 in
theorem gL_changedSince_X6_changedSince : GoodIn wsL_changedSince (wsV RL 67 RX6 yX6_changedSince wsX6_changedSince) := goodIn_app (goodIn_of _ (by decide +kernel)) ggL_changedSince_X6_changedSince
theorem dL_changedSince_0 : decode cL_changedSince 0 = .ok (.aload_n 0, 1) := by decide +kernel
theorem dL_changedSince_1 : decode cL_changedSince 1 = .ok (.iload_n 1, 1) := by decide +kernel
theorem dL_changedSince_2 : decode cL_changedSince 2 = .ok (.iload_n 2, 1) := by decide +kernel
theorem dL_changedSince_3 : decode cL_changedSince 3 = .ok (.invokevirtual 67, 3) := by decide +kernel
theorem dL_changedSince_6 : decode cL_changedSince 6 = .ok (.ireturn, 1) := by decide +kernel
theorem dL_changedSince_7 : decode cL_changedSince 7 = .ok (.astore_n 3, 1) := by decide +kernel
theorem dL_changedSince_8 : decode cL_changedSince 8 = .ok (.sipush (-903), 3) := by decide +kernel
theorem dL_changedSince_11 : decode cL_changedSince 11 = .ok (.ireturn, 1) := by decide +kernel
theorem dL_changedSince_12 : decode cL_changedSince 12 = .ok (.astore_n 3, 1) := by decide +kernel
theorem dL_changedSince_13 : decode cL_changedSince 13 = .ok (.sipush (-901), 3) := by decide +kernel
theorem dL_changedSince_16 : decode cL_changedSince 16 = .ok (.ireturn, 1) := by decide +kernel
set_option maxRecDepth 20000 in
theorem ggL_view_X6_view : GoodIn wsL_view wsX6_view := goodIn_ca (goodIn_ca (goodIn_r _ [7, 8, 9, 10, 11, 6, 12, 13, 14, 15, 16, 17, 18, 19, 20, 21, 22, 23, 24, 25, 26, 27, 28, 29, 30, 31, 32, 33, 34, 35, 36, 37, 38, 39] (by decide +kernel) (by decide +kernel)) (goodIn_sub (fun _ h => List.mem_cons_of_mem _ (List.mem_append_left _ (List.mem_append_right _ h))) (by decide +kernel))) (goodIn_sub (fun _ h => List.mem_cons_of_mem _ (List.mem_append_right _ h)) (by decide +kernel))
set_option maxRecDepth 20000 in
theorem gL_view_X6_view : GoodIn wsL_view (wsV RL 70 RX6 yX6_view wsX6_view) := goodIn_app (goodIn_of _ (by decide +kernel)) ggL_view_X6_view
theorem dL_view_0 : decode cL_view 0 = .ok (.aload_n 0, 1) := by decide +kernel
theorem dL_view_1 : decode cL_view 1 = .ok (.iload_n 1, 1) := by decide +kernel
theorem dL_view_2 : decode cL_view 2 = .ok (.iload_n 2, 1) := by decide +kernel
theorem dL_view_3 : decode cL_view 3 = .ok (.iload_n 3, 1) := by decide +kernel
theorem dL_view_4 : decode cL_view 4 = .ok (.invokevirtual 70, 3) := by decide +kernel
theorem dL_view_7 : decode cL_view 7 = .ok (.ireturn, 1) := by decide +kernel
theorem dL_view_8 : decode cL_view 8 = .ok (.astore 4, 2) := by decide +kernel
theorem dL_view_10 : decode cL_view 10 = .ok (.sipush (-903), 3) := by decide +kernel
theorem dL_view_13 : decode cL_view 13 = .ok (.ireturn, 1) := by decide +kernel
theorem dL_view_14 : decode cL_view 14 = .ok (.astore 4, 2) := by decide +kernel
theorem dL_view_16 : decode cL_view 16 = .ok (.sipush (-901), 3) := by decide +kernel
theorem dL_view_19 : decode cL_view 19 = .ok (.ireturn, 1) := by decide +kernel
set_option maxRecDepth 20000 in
theorem ggL_areApart_X6_areApart : GoodIn wsL_areApart wsX6_areApart := goodIn_ca (goodIn_ca (goodIn_r _ [7, 8, 9, 10, 6, 11, 12, 13, 14, 15, 16, 17, 18, 19, 20, 21, 22, 23, 24, 25, 26, 27, 28, 29, 30, 31, 32, 33, 34] (by decide +kernel) (by decide +kernel)) (goodIn_sub (fun _ h => List.mem_cons_of_mem _ (List.mem_append_left _ (List.mem_append_right _ h))) (by decide +kernel))) (goodIn_sub (fun _ h => List.mem_cons_of_mem _ (List.mem_append_right _ h)) (by decide +kernel))
set_option maxRecDepth 20000 in
theorem gL_areApart_X6_areApart : GoodIn wsL_areApart (wsV RL 73 RX6 yX6_areApart wsX6_areApart) := goodIn_app (goodIn_of _ (by decide +kernel)) ggL_areApart_X6_areApart
theorem dL_areApart_0 : decode cL_areApart 0 = .ok (.aload_n 0, 1) := by decide +kernel
theorem dL_areApart_1 : decode cL_areApart 1 = .ok (.iload_n 1, 1) := by decide +kernel
theorem dL_areApart_2 : decode cL_areApart 2 = .ok (.iload_n 2, 1) := by decide +kernel
theorem dL_areApart_3 : decode cL_areApart 3 = .ok (.invokevirtual 73, 3) := by decide +kernel
theorem dL_areApart_6 : decode cL_areApart 6 = .ok (.ifCond .eq 7, 3) := by decide +kernel
theorem dL_areApart_9 : decode cL_areApart 9 = .ok (.iconst 1, 1) := by decide +kernel
theorem dL_areApart_10 : decode cL_areApart 10 = .ok (.goto 4, 3) := by decide +kernel
theorem dL_areApart_13 : decode cL_areApart 13 = .ok (.iconst 0, 1) := by decide +kernel
theorem dL_areApart_14 : decode cL_areApart 14 = .ok (.ireturn, 1) := by decide +kernel
theorem dL_areApart_15 : decode cL_areApart 15 = .ok (.astore_n 3, 1) := by decide +kernel
theorem dL_areApart_16 : decode cL_areApart 16 = .ok (.sipush (-903), 3) := by decide +kernel
theorem dL_areApart_19 : decode cL_areApart 19 = .ok (.ireturn, 1) := by decide +kernel
theorem dL_areApart_20 : decode cL_areApart 20 = .ok (.astore_n 3, 1) := by decide +kernel
theorem dL_areApart_21 : decode cL_areApart 21 = .ok (.sipush (-901), 3) := by decide +kernel
theorem dL_areApart_24 : decode cL_areApart 24 = .ok (.ireturn, 1) := by decide +kernel
set_option maxRecDepth 20000 in
theorem ggL_agree_X6_agree : GoodIn wsL_agree wsX6_agree := goodIn_ca (goodIn_ca (goodIn_r _ [7, 8, 9, 10, 11, 6, 12, 13, 14, 15, 16, 17, 18, 19, 20, 21, 22, 23, 24, 25, 26, 27, 28, 29, 30, 31, 32, 33, 34, 35, 36, 37, 38] (by decide +kernel) (by decide +kernel)) (goodIn_sub (fun _ h => List.mem_cons_of_mem _ (List.mem_append_left _ (List.mem_append_right _ h))) (by decide +kernel))) (goodIn_sub (fun _ h => List.mem_cons_of_mem _ (List.mem_append_right _ h)) (by decide +kernel))
set_option maxRecDepth 20000 in
theorem gL_agree_X6_agree : GoodIn wsL_agree (wsV RL 77 RX6 yX6_agree wsX6_agree) := goodIn_app (goodIn_of _ (by decide +kernel)) ggL_agree_X6_agree
theorem dL_agree_0 : decode cL_agree 0 = .ok (.aload_n 0, 1) := by decide +kernel
theorem dL_agree_1 : decode cL_agree 1 = .ok (.iload_n 1, 1) := by decide +kernel
theorem dL_agree_2 : decode cL_agree 2 = .ok (.iload_n 2, 1) := by decide +kernel
theorem dL_agree_3 : decode cL_agree 3 = .ok (.invokevirtual 77, 3) := by decide +kernel
theorem dL_agree_6 : decode cL_agree 6 = .ok (.ifCond .eq 7, 3) := by decide +kernel
theorem dL_agree_9 : decode cL_agree 9 = .ok (.iconst 1, 1) := by decide +kernel
theorem dL_agree_10 : decode cL_agree 10 = .ok (.goto 4, 3) := by decide +kernel
theorem dL_agree_13 : decode cL_agree 13 = .ok (.iconst 0, 1) := by decide +kernel
theorem dL_agree_14 : decode cL_agree 14 = .ok (.ireturn, 1) := by decide +kernel
theorem dL_agree_15 : decode cL_agree 15 = .ok (.astore_n 3, 1) := by decide +kernel
theorem dL_agree_16 : decode cL_agree 16 = .ok (.sipush (-903), 3) := by decide +kernel
theorem dL_agree_19 : decode cL_agree 19 = .ok (.ireturn, 1) := by decide +kernel
theorem dL_agree_20 : decode cL_agree 20 = .ok (.astore_n 3, 1) := by decide +kernel
theorem dL_agree_21 : decode cL_agree 21 = .ok (.sipush (-901), 3) := by decide +kernel
theorem dL_agree_24 : decode cL_agree 24 = .ok (.ireturn, 1) := by decide +kernel
set_option maxRecDepth 20000 in
theorem ggL_wrongViews_X6_wrongViews : GoodIn wsL_wrongViews wsX6_wrongViews := goodIn_ca (goodIn_r _ [6, 7, 8, 9, 5, 10, 11, 12, 13, 14, 15, 16, 17, 18, 19, 20, 21, 22, 23, 24, 25, 26, 27, 28, 29, 30, 31, 32, 33, 34, 35, 36, 37, 38, 39, 40, 41, 42, 43, 44, 45, 46, 47, 48, 49, 50, 51, 52, 53, 54, 55, 56, 57, 58, 59, 60, 61, 62, 63, 64, 65, 66, 67, 68, 69, 70, 71, 72] (by decide +kernel) (by decide +kernel)) (goodIn_sub (fun _ h => List.mem_cons_of_mem _ (List.mem_append_right _ h)) (by decide +kernel))
set_option maxRecDepth 20000 in
theorem gL_wrongViews_X6_wrongViews : GoodIn wsL_wrongViews (wsV RL 80 RX6 yX6_wrongViews wsX6_wrongViews) := goodIn_app (goodIn_of _ (by decide +kernel)) ggL_wrongViews_X6_wrongViews
theorem dL_wrongViews_0 : decode cL_wrongViews 0 = .ok (.aload_n 0, 1) := by decide +kernel
theorem dL_wrongViews_1 : decode cL_wrongViews 1 = .ok (.iload_n 1, 1) := by decide +kernel
theorem dL_wrongViews_2 : decode cL_wrongViews 2 = .ok (.invokevirtual 80, 3) := by decide +kernel
theorem dL_wrongViews_5 : decode cL_wrongViews 5 = .ok (.ireturn, 1) := by decide +kernel
theorem dL_wrongViews_6 : decode cL_wrongViews 6 = .ok (.astore_n 2, 1) := by decide +kernel
theorem dL_wrongViews_7 : decode cL_wrongViews 7 = .ok (.sipush (-903), 3) := by decide +kernel
theorem dL_wrongViews_10 : decode cL_wrongViews 10 = .ok (.ireturn, 1) := by decide +kernel
set_option maxRecDepth 20000 in
theorem ggL_append_X6_append : GoodIn wsL_append wsX6_append := goodIn_ca (goodIn_ca (goodIn_r _ [7, 8, 9, 10, 11, 12, 13, 14, 15, 16, 17, 18, 19, 20, 21, 22, 23, 24, 25, 26, 27] (by decide +kernel) (by decide +kernel)) (goodIn_sub (fun _ h => List.mem_cons_of_mem _ (List.mem_append_left _ (List.mem_append_right _ h))) (by decide +kernel))) (goodIn_sub (fun _ h => List.mem_cons_of_mem _ (List.mem_append_right _ h)) (by decide +kernel))
set_option maxRecDepth 20000 in
theorem gL_append_X6_append : GoodIn wsL_append (wsV RL 83 RX6 yX6_append wsX6_append) := goodIn_app (goodIn_of _ (by decide +kernel)) ggL_append_X6_append
theorem dL_append_0 : decode cL_append 0 = .ok (.aload_n 0, 1) := by decide +kernel
theorem dL_append_1 : decode cL_append 1 = .ok (.iload_n 1, 1) := by decide +kernel
theorem dL_append_2 : decode cL_append 2 = .ok (.invokevirtual 83, 3) := by decide +kernel
theorem dL_append_5 : decode cL_append 5 = .ok (.ireturn, 1) := by decide +kernel
theorem dL_append_6 : decode cL_append 6 = .ok (.astore_n 2, 1) := by decide +kernel
theorem dL_append_7 : decode cL_append 7 = .ok (.sipush (-901), 3) := by decide +kernel
theorem dL_append_10 : decode cL_append 10 = .ok (.ireturn, 1) := by decide +kernel
theorem dL_append_11 : decode cL_append 11 = .ok (.astore_n 2, 1) := by decide +kernel
theorem dL_append_12 : decode cL_append 12 = .ok (.sipush (-902), 3) := by decide +kernel
theorem dL_append_15 : decode cL_append 15 = .ok (.ireturn, 1) := by decide +kernel
set_option maxRecDepth 20000 in
theorem ggL_undo_X6_undo : GoodIn wsL_undo wsX6_undo := goodIn_ca (goodIn_r _ [6, 7, 8, 9, 10, 11, 12, 13, 14, 15, 16, 17, 18, 19, 20, 21, 22, 23, 24, 25, 26, 27, 28, 29, 30, 31, 32, 33, 34, 35, 36, 37, 38, 39, 40, 41, 42, 43, 44, 45, 46, 47, 48, 49, 50, 51, 52, 53, 54, 55, 56, 57, 58, 59, 60, 61, 62, 63, 64, 65, 66, 67, 68, 69, 70, 71, 72, 73, 74, 75, 76, 77, 78, 79, 80, 81] (by decide +kernel) (by decide +kernel)) (goodIn_sub (fun _ h => List.mem_cons_of_mem _ (List.mem_append_right _ h)) (by decide +kernel))
set_option maxRecDepth 20000 in
theorem gL_undo_X6_undo : GoodIn wsL_undo (wsV RL 86 RX6 yX6_undo wsX6_undo) := goodIn_app (goodIn_of _ (by decide +kernel)) ggL_undo_X6_undo
theorem dL_undo_0 : decode cL_undo 0 = .ok (.aload_n 0, 1) := by decide +kernel
theorem dL_undo_1 : decode cL_undo 1 = .ok (.invokevirtual 86, 3) := by decide +kernel
theorem dL_undo_4 : decode cL_undo 4 = .ok (.ireturn, 1) := by decide +kernel
theorem dL_undo_5 : decode cL_undo 5 = .ok (.astore_n 1, 1) := by decide +kernel
theorem dL_undo_6 : decode cL_undo 6 = .ok (.sipush (-902), 3) := by decide +kernel
theorem dL_undo_9 : decode cL_undo 9 = .ok (.ireturn, 1) := by decide +kernel
set_option maxRecDepth 20000 in
theorem ggL_rosters_L_version : GoodIn wsL_rosters wsL_version := goodIn_ca (goodIn_ca (goodIn_r _ [4, 5, 6, 7, 8, 9, 10, 11, 12, 13, 14, 15, 16, 17, 18, 19, 20, 21, 22, 23, 24, 25, 26, 27, 28, 29, 30, 31, 32, 33, 34, 95, 96, 97, 98, 99, 100, 101, 102, 103, 104, 105, 106, 107] (by decide +kernel) (by decide +kernel)) (goodIn_sub (fun _ h => List.mem_cons_of_mem _ (List.mem_append_left _ (List.mem_append_right _ h))) (by decide +kernel))) (goodIn_sub (fun _ h => List.mem_cons_of_mem _ (List.mem_append_right _ h)) (by decide +kernel))
set_option maxRecDepth 20000 in
theorem gL_rosters_L_version : GoodIn wsL_rosters (va_wsS RL 90 yL_version wsL_version) := goodIn_app (goodIn_of _ (by decide +kernel)) ggL_rosters_L_version
set_option maxRecDepth 20000 in
theorem ggL_rosters_L_low : GoodIn wsL_rosters wsL_low := goodIn_r _ [37, 38] (by decide +kernel) (by decide +kernel)
set_option maxRecDepth 20000 in
theorem gL_rosters_L_low : GoodIn wsL_rosters (va_wsS RL 95 yL_low wsL_low) := goodIn_app (goodIn_of _ (by decide +kernel)) ggL_rosters_L_low
set_option maxRecDepth 20000 in
theorem ggL_rosters_L_entry : GoodIn wsL_rosters wsL_entry := goodIn_ca (goodIn_ca (goodIn_r _ [41, 5, 6, 42, 43, 44, 10, 45, 12, 13, 25, 26, 27, 28, 29, 14, 15, 16, 17, 18, 46, 47, 48, 22, 49, 50, 95, 96, 97, 98, 99, 100, 101, 102, 103, 104, 105, 106, 107] (by decide +kernel) (by decide +kernel)) (goodIn_sub (fun _ h => List.mem_cons_of_mem _ (List.mem_append_right _ h)) (by decide +kernel))) (goodIn_sub (fun _ h => List.mem_cons_of_mem _ (List.mem_append_left _ (List.mem_append_right _ h))) (by decide +kernel))
set_option maxRecDepth 20000 in
theorem gL_rosters_L_entry : GoodIn wsL_rosters (va_wsS RL 98 yL_entry wsL_entry) := goodIn_app (goodIn_of _ (by decide +kernel)) ggL_rosters_L_entry
set_option maxRecDepth 20000 in
theorem ggL_rosters_L_agree : GoodIn wsL_rosters wsL_agree := goodIn_ca (goodIn_ca (goodIn_r _ [53, 5, 6, 54, 55, 56, 10, 57, 12, 13, 25, 26, 27, 28, 29, 14, 15, 16, 17, 18, 58, 59, 60, 22, 61, 50, 95, 96, 97, 98, 99, 100, 101, 102, 103, 104, 105, 106, 107] (by decide +kernel) (by decide +kernel)) (goodIn_sub (fun _ h => List.mem_cons_of_mem _ (List.mem_append_right _ h)) (by decide +kernel))) (goodIn_sub (fun _ h => List.mem_cons_of_mem _ (List.mem_append_left _ (List.mem_append_right _ h))) (by decide +kernel))
set_option maxRecDepth 20000 in
theorem gL_rosters_L_agree : GoodIn wsL_rosters (va_wsS RL 100 yL_agree wsL_agree) := goodIn_app (goodIn_of _ (by decide +kernel)) ggL_rosters_L_agree
set_option maxRecDepth 20000 in
theorem ggL_rosters_L_areApart : GoodIn wsL_rosters wsL_areApart := goodIn_ca (goodIn_ca (goodIn_r _ [64, 5, 6, 65, 66, 67, 10, 68, 12, 25, 26, 27, 28, 29, 14, 15, 16, 17, 18, 69, 70, 71, 72, 73, 74, 95, 96, 97, 98, 99, 100, 101, 102, 103, 104] (by decide +kernel) (by decide +kernel)) (goodIn_sub (fun _ h => List.mem_cons_of_mem _ (List.mem_append_right _ h)) (by decide +kernel))) (goodIn_sub (fun _ h => List.mem_cons_of_mem _ (List.mem_append_left _ (List.mem_append_right _ h))) (by decide +kernel))
set_option maxRecDepth 20000 in
theorem gL_rosters_L_areApart : GoodIn wsL_rosters (va_wsS RL 102 yL_areApart wsL_areApart) := goodIn_app (goodIn_of _ (by decide +kernel)) ggL_rosters_L_areApart
set_option maxRecDepth 20000 in
theorem ggL_rosters_L_changedSince : GoodIn wsL_rosters wsL_changedSince := goodIn_ca (goodIn_ca (goodIn_r _ [77, 5, 6, 78, 79, 80, 10, 81, 28, 29, 12, 13, 14, 15, 16, 17, 18, 82, 83, 84, 22, 85, 34, 95, 96, 97, 98, 99, 100, 101, 102, 103, 104, 105, 106, 107] (by decide +kernel) (by decide +kernel)) (goodIn_sub (fun _ h => List.mem_cons_of_mem _ (List.mem_append_right _ h)) (by decide +kernel))) (goodIn_sub (fun _ h => List.mem_cons_of_mem _ (List.mem_append_left _ (List.mem_append_right _ h))) (by decide +kernel))
set_option maxRecDepth 20000 in
theorem gL_rosters_L_changedSince : GoodIn wsL_rosters (va_wsS RL 104 yL_changedSince wsL_changedSince) := goodIn_app (goodIn_of _ (by decide +kernel)) ggL_rosters_L_changedSince
set_option maxRecDepth 20000 in
theorem ggL_rosters_X6_agreeing : GoodIn wsL_rosters wsX6_agreeing := goodIn_r _ [89, 12, 13, 90, 91, 92, 22, 93, 94, 59, 60, 61, 50, 95, 96, 97, 98, 99, 100, 101, 102, 103, 104, 105, 106, 107] (by decide +kernel) (by decide +kernel)
set_option maxRecDepth 20000 in
theorem gL_rosters_X6_agreeing : GoodIn wsL_rosters (wsV RL 106 RX6 yX6_agreeing wsX6_agreeing) := goodIn_app (goodIn_of _ (by decide +kernel)) ggL_rosters_X6_agreeing
theorem dL_rosters_0 : decode cL_rosters 0 = .ok (.iconst 0, 1) := by decide +kernel
theorem dL_rosters_1 : decode cL_rosters 1 = .ok (.istore_n 2, 1) := by decide +kernel
theorem dL_rosters_2 : decode cL_rosters 2 = .ok (.iconst 0, 1) := by decide +kernel
theorem dL_rosters_3 : decode cL_rosters 3 = .ok (.istore_n 3, 1) := by decide +kernel
theorem dL_rosters_4 : decode cL_rosters 4 = .ok (.iload_n 3, 1) := by decide +kernel
theorem dL_rosters_5 : decode cL_rosters 5 = .ok (.bipush 6, 2) := by decide +kernel
theorem dL_rosters_7 : decode cL_rosters 7 = .ok (.if_icmp .ge 249, 3) := by decide +kernel
theorem dL_rosters_10 : decode cL_rosters 10 = .ok (.aload_n 0, 1) := by decide +kernel
theorem dL_rosters_11 : decode cL_rosters 11 = .ok (.iload_n 3, 1) := by decide +kernel
theorem dL_rosters_12 : decode cL_rosters 12 = .ok (.iconst (-1), 1) := by decide +kernel
theorem dL_rosters_13 : decode cL_rosters 13 = .ok (.invokestatic 90, 3) := by decide +kernel
theorem dL_rosters_16 : decode cL_rosters 16 = .ok (.istore 4, 2) := by decide +kernel
theorem dL_rosters_18 : decode cL_rosters 18 = .ok (.iload_n 1, 1) := by decide +kernel
theorem dL_rosters_19 : decode cL_rosters 19 = .ok (.iload 4, 2) := by decide +kernel
theorem dL_rosters_21 : decode cL_rosters 21 = .ok (.iconst 2, 1) := by decide +kernel
theorem dL_rosters_22 : decode cL_rosters 22 = .ok (.iadd, 1) := by decide +kernel
theorem dL_rosters_23 : decode cL_rosters 23 = .ok (.invokestatic 95, 3) := by decide +kernel
theorem dL_rosters_26 : decode cL_rosters 26 = .ok (.istore 5, 2) := by decide +kernel
theorem dL_rosters_28 : decode cL_rosters 28 = .ok (.iconst 0, 1) := by decide +kernel
theorem dL_rosters_29 : decode cL_rosters 29 = .ok (.istore 6, 2) := by decide +kernel
theorem dL_rosters_31 : decode cL_rosters 31 = .ok (.iconst 0, 1) := by decide +kernel
theorem dL_rosters_32 : decode cL_rosters 32 = .ok (.istore 7, 2) := by decide +kernel
theorem dL_rosters_34 : decode cL_rosters 34 = .ok (.iconst 0, 1) := by decide +kernel
theorem dL_rosters_35 : decode cL_rosters 35 = .ok (.istore 8, 2) := by decide +kernel
theorem dL_rosters_37 : decode cL_rosters 37 = .ok (.iload 8, 2) := by decide +kernel
theorem dL_rosters_39 : decode cL_rosters 39 = .ok (.bipush 6, 2) := by decide +kernel
theorem dL_rosters_41 : decode cL_rosters 41 = .ok (.if_icmp .ge 180, 3) := by decide +kernel
theorem dL_rosters_44 : decode cL_rosters 44 = .ok (.iload 8, 2) := by decide +kernel
theorem dL_rosters_46 : decode cL_rosters 46 = .ok (.iload_n 3, 1) := by decide +kernel
theorem dL_rosters_47 : decode cL_rosters 47 = .ok (.if_icmp .ne 6, 3) := by decide +kernel
theorem dL_rosters_50 : decode cL_rosters 50 = .ok (.goto 165, 3) := by decide +kernel
theorem dL_rosters_53 : decode cL_rosters 53 = .ok (.aload_n 0, 1) := by decide +kernel
theorem dL_rosters_54 : decode cL_rosters 54 = .ok (.iload_n 3, 1) := by decide +kernel
theorem dL_rosters_55 : decode cL_rosters 55 = .ok (.iload 8, 2) := by decide +kernel
theorem dL_rosters_57 : decode cL_rosters 57 = .ok (.invokestatic 98, 3) := by decide +kernel
theorem dL_rosters_60 : decode cL_rosters 60 = .ok (.istore 9, 2) := by decide +kernel
theorem dL_rosters_62 : decode cL_rosters 62 = .ok (.aload_n 0, 1) := by decide +kernel
theorem dL_rosters_63 : decode cL_rosters 63 = .ok (.iload_n 3, 1) := by decide +kernel
theorem dL_rosters_64 : decode cL_rosters 64 = .ok (.iload 8, 2) := by decide +kernel
theorem dL_rosters_66 : decode cL_rosters 66 = .ok (.invokestatic 90, 3) := by decide +kernel
theorem dL_rosters_69 : decode cL_rosters 69 = .ok (.istore 10, 2) := by decide +kernel
theorem dL_rosters_71 : decode cL_rosters 71 = .ok (.iload 6, 2) := by decide +kernel
theorem dL_rosters_73 : decode cL_rosters 73 = .ok (.iload 10, 2) := by decide +kernel
theorem dL_rosters_75 : decode cL_rosters 75 = .ok (.iload 5, 2) := by decide +kernel
theorem dL_rosters_77 : decode cL_rosters 77 = .ok (.if_icmp .le 7, 3) := by decide +kernel
theorem dL_rosters_80 : decode cL_rosters 80 = .ok (.iconst 1, 1) := by decide +kernel
theorem dL_rosters_81 : decode cL_rosters 81 = .ok (.goto 4, 3) := by decide +kernel
theorem dL_rosters_84 : decode cL_rosters 84 = .ok (.iconst 0, 1) := by decide +kernel
theorem dL_rosters_85 : decode cL_rosters 85 = .ok (.iadd, 1) := by decide +kernel
theorem dL_rosters_86 : decode cL_rosters 86 = .ok (.istore 6, 2) := by decide +kernel
theorem dL_rosters_88 : decode cL_rosters 88 = .ok (.iload 7, 2) := by decide +kernel
theorem dL_rosters_90 : decode cL_rosters 90 = .ok (.ifCond .ne 10, 3) := by decide +kernel
theorem dL_rosters_93 : decode cL_rosters 93 = .ok (.iload 10, 2) := by decide +kernel
theorem dL_rosters_95 : decode cL_rosters 95 = .ok (.iload 4, 2) := by decide +kernel
theorem dL_rosters_97 : decode cL_rosters 97 = .ok (.if_icmp .ne 7, 3) := by decide +kernel
theorem dL_rosters_100 : decode cL_rosters 100 = .ok (.iconst 1, 1) := by decide +kernel
theorem dL_rosters_101 : decode cL_rosters 101 = .ok (.goto 4, 3) := by decide +kernel
theorem dL_rosters_104 : decode cL_rosters 104 = .ok (.iconst 0, 1) := by decide +kernel
theorem dL_rosters_105 : decode cL_rosters 105 = .ok (.istore 7, 2) := by decide +kernel
theorem dL_rosters_107 : decode cL_rosters 107 = .ok (.iload 9, 2) := by decide +kernel
theorem dL_rosters_109 : decode cL_rosters 109 = .ok (.ifCond .lt 84, 3) := by decide +kernel
theorem dL_rosters_112 : decode cL_rosters 112 = .ok (.iload 9, 2) := by decide +kernel
theorem dL_rosters_114 : decode cL_rosters 114 = .ok (.bipush 15, 2) := by decide +kernel
theorem dL_rosters_116 : decode cL_rosters 116 = .ok (.if_icmp .gt 77, 3) := by decide +kernel
theorem dL_rosters_119 : decode cL_rosters 119 = .ok (.iload 9, 2) := by decide +kernel
theorem dL_rosters_121 : decode cL_rosters 121 = .ok (.iconst 5, 1) := by decide +kernel
theorem dL_rosters_122 : decode cL_rosters 122 = .ok (.iand, 1) := by decide +kernel
theorem dL_rosters_123 : decode cL_rosters 123 = .ok (.iconst 5, 1) := by decide +kernel
theorem dL_rosters_124 : decode cL_rosters 124 = .ok (.if_icmp .eq 69, 3) := by decide +kernel
theorem dL_rosters_127 : decode cL_rosters 127 = .ok (.iload 9, 2) := by decide +kernel
theorem dL_rosters_129 : decode cL_rosters 129 = .ok (.bipush 10, 2) := by decide +kernel
theorem dL_rosters_131 : decode cL_rosters 131 = .ok (.iand, 1) := by decide +kernel
theorem dL_rosters_132 : decode cL_rosters 132 = .ok (.bipush 10, 2) := by decide +kernel
theorem dL_rosters_134 : decode cL_rosters 134 = .ok (.if_icmp .eq 59, 3) := by decide +kernel
theorem dL_rosters_137 : decode cL_rosters 137 = .ok (.iload 10, 2) := by decide +kernel
theorem dL_rosters_139 : decode cL_rosters 139 = .ok (.iload 4, 2) := by decide +kernel
theorem dL_rosters_141 : decode cL_rosters 141 = .ok (.if_icmp .gt 52, 3) := by decide +kernel
theorem dL_rosters_144 : decode cL_rosters 144 = .ok (.iload 10, 2) := by decide +kernel
theorem dL_rosters_146 : decode cL_rosters 146 = .ok (.ifCond .lt 47, 3) := by decide +kernel
theorem dL_rosters_149 : decode cL_rosters 149 = .ok (.iload 10, 2) := by decide +kernel
theorem dL_rosters_151 : decode cL_rosters 151 = .ok (.ifCond .ne 8, 3) := by decide +kernel
theorem dL_rosters_154 : decode cL_rosters 154 = .ok (.iload 9, 2) := by decide +kernel
theorem dL_rosters_156 : decode cL_rosters 156 = .ok (.ifCond .ne 37, 3) := by decide +kernel
theorem dL_rosters_159 : decode cL_rosters 159 = .ok (.aload_n 0, 1) := by decide +kernel
theorem dL_rosters_160 : decode cL_rosters 160 = .ok (.iload_n 3, 1) := by decide +kernel
theorem dL_rosters_161 : decode cL_rosters 161 = .ok (.iload 8, 2) := by decide +kernel
theorem dL_rosters_163 : decode cL_rosters 163 = .ok (.invokestatic 100, 3) := by decide +kernel
theorem dL_rosters_166 : decode cL_rosters 166 = .ok (.aload_n 0, 1) := by decide +kernel
theorem dL_rosters_167 : decode cL_rosters 167 = .ok (.iload 8, 2) := by decide +kernel
theorem dL_rosters_169 : decode cL_rosters 169 = .ok (.iload_n 3, 1) := by decide +kernel
theorem dL_rosters_170 : decode cL_rosters 170 = .ok (.invokestatic 100, 3) := by decide +kernel
theorem dL_rosters_173 : decode cL_rosters 173 = .ok (.if_icmp .ne 20, 3) := by decide +kernel
theorem dL_rosters_176 : decode cL_rosters 176 = .ok (.aload_n 0, 1) := by decide +kernel

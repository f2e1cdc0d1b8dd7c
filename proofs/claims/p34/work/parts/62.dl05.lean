theorem dL_refuses_235 : decode cL_refuses 235 = .ok (.iconst (-1), 1) := by decide +kernel
theorem dL_refuses_236 : decode cL_refuses 236 = .ok (.iconst 0, 1) := by decide +kernel
theorem dL_refuses_237 : decode cL_refuses 237 = .ok (.invokestatic 128, 3) := by decide +kernel
theorem dL_refuses_240 : decode cL_refuses 240 = .ok (.sipush (-903), 3) := by decide +kernel
theorem dL_refuses_243 : decode cL_refuses 243 = .ok (.if_icmp .ne 157, 3) := by decide +kernel
theorem dL_refuses_246 : decode cL_refuses 246 = .ok (.aload_n 0, 1) := by decide +kernel
theorem dL_refuses_247 : decode cL_refuses 247 = .ok (.iconst 3, 1) := by decide +kernel
theorem dL_refuses_248 : decode cL_refuses 248 = .ok (.invokestatic 139, 3) := by decide +kernel
theorem dL_refuses_251 : decode cL_refuses 251 = .ok (.sipush (-901), 3) := by decide +kernel
theorem dL_refuses_254 : decode cL_refuses 254 = .ok (.if_icmp .ne 146, 3) := by decide +kernel
theorem dL_refuses_257 : decode cL_refuses 257 = .ok (.aload_n 0, 1) := by decide +kernel
theorem dL_refuses_258 : decode cL_refuses 258 = .ok (.iconst 0, 1) := by decide +kernel
theorem dL_refuses_259 : decode cL_refuses 259 = .ok (.bipush 6, 2) := by decide +kernel
theorem dL_refuses_261 : decode cL_refuses 261 = .ok (.invokestatic 98, 3) := by decide +kernel
theorem dL_refuses_264 : decode cL_refuses 264 = .ok (.sipush (-903), 3) := by decide +kernel
theorem dL_refuses_267 : decode cL_refuses 267 = .ok (.if_icmp .ne 133, 3) := by decide +kernel
theorem dL_refuses_270 : decode cL_refuses 270 = .ok (.aload_n 0, 1) := by decide +kernel
theorem dL_refuses_271 : decode cL_refuses 271 = .ok (.iconst 0, 1) := by decide +kernel
theorem dL_refuses_272 : decode cL_refuses 272 = .ok (.iconst 0, 1) := by decide +kernel
theorem dL_refuses_273 : decode cL_refuses 273 = .ok (.invokestatic 90, 3) := by decide +kernel
theorem dL_refuses_276 : decode cL_refuses 276 = .ok (.sipush (-901), 3) := by decide +kernel
theorem dL_refuses_279 : decode cL_refuses 279 = .ok (.if_icmp .ne 121, 3) := by decide +kernel
theorem dL_refuses_282 : decode cL_refuses 282 = .ok (.aload_n 0, 1) := by decide +kernel
theorem dL_refuses_283 : decode cL_refuses 283 = .ok (.bipush 6, 2) := by decide +kernel
theorem dL_refuses_285 : decode cL_refuses 285 = .ok (.iconst (-1), 1) := by decide +kernel
theorem dL_refuses_286 : decode cL_refuses 286 = .ok (.invokestatic 90, 3) := by decide +kernel
theorem dL_refuses_289 : decode cL_refuses 289 = .ok (.sipush (-903), 3) := by decide +kernel
theorem dL_refuses_292 : decode cL_refuses 292 = .ok (.if_icmp .ne 108, 3) := by decide +kernel
theorem dL_refuses_295 : decode cL_refuses 295 = .ok (.aload_n 0, 1) := by decide +kernel
theorem dL_refuses_296 : decode cL_refuses 296 = .ok (.iconst 0, 1) := by decide +kernel
theorem dL_refuses_297 : decode cL_refuses 297 = .ok (.bipush (-2), 2) := by decide +kernel
theorem dL_refuses_299 : decode cL_refuses 299 = .ok (.invokestatic 90, 3) := by decide +kernel
theorem dL_refuses_302 : decode cL_refuses 302 = .ok (.sipush (-903), 3) := by decide +kernel
theorem dL_refuses_305 : decode cL_refuses 305 = .ok (.if_icmp .ne 95, 3) := by decide +kernel
theorem dL_refuses_308 : decode cL_refuses 308 = .ok (.aload_n 0, 1) := by decide +kernel
theorem dL_refuses_309 : decode cL_refuses 309 = .ok (.iconst 0, 1) := by decide +kernel
theorem dL_refuses_310 : decode cL_refuses 310 = .ok (.iconst (-1), 1) := by decide +kernel
theorem dL_refuses_311 : decode cL_refuses 311 = .ok (.invokestatic 104, 3) := by decide +kernel
theorem dL_refuses_314 : decode cL_refuses 314 = .ok (.sipush (-901), 3) := by decide +kernel
theorem dL_refuses_317 : decode cL_refuses 317 = .ok (.if_icmp .ne 83, 3) := by decide +kernel
theorem dL_refuses_320 : decode cL_refuses 320 = .ok (.aload_n 0, 1) := by decide +kernel
theorem dL_refuses_321 : decode cL_refuses 321 = .ok (.iconst 0, 1) := by decide +kernel
theorem dL_refuses_322 : decode cL_refuses 322 = .ok (.iconst 1, 1) := by decide +kernel
theorem dL_refuses_323 : decode cL_refuses 323 = .ok (.iconst 3, 1) := by decide +kernel
theorem dL_refuses_324 : decode cL_refuses 324 = .ok (.invokestatic 117, 3) := by decide +kernel
theorem dL_refuses_327 : decode cL_refuses 327 = .ok (.sipush (-903), 3) := by decide +kernel
theorem dL_refuses_330 : decode cL_refuses 330 = .ok (.if_icmp .ne 70, 3) := by decide +kernel
theorem dL_refuses_333 : decode cL_refuses 333 = .ok (.aload_n 0, 1) := by decide +kernel
theorem dL_refuses_334 : decode cL_refuses 334 = .ok (.iconst 1, 1) := by decide +kernel
theorem dL_refuses_335 : decode cL_refuses 335 = .ok (.iconst 1, 1) := by decide +kernel
theorem dL_refuses_336 : decode cL_refuses 336 = .ok (.iconst 0, 1) := by decide +kernel
theorem dL_refuses_337 : decode cL_refuses 337 = .ok (.invokestatic 117, 3) := by decide +kernel
theorem dL_refuses_340 : decode cL_refuses 340 = .ok (.sipush (-901), 3) := by decide +kernel
theorem dL_refuses_343 : decode cL_refuses 343 = .ok (.if_icmp .ne 57, 3) := by decide +kernel
theorem dL_refuses_346 : decode cL_refuses 346 = .ok (.aload_n 0, 1) := by decide +kernel
theorem dL_refuses_347 : decode cL_refuses 347 = .ok (.iconst 3, 1) := by decide +kernel
theorem dL_refuses_348 : decode cL_refuses 348 = .ok (.iconst 3, 1) := by decide +kernel
theorem dL_refuses_349 : decode cL_refuses 349 = .ok (.invokestatic 102, 3) := by decide +kernel
theorem dL_refuses_352 : decode cL_refuses 352 = .ok (.sipush (-901), 3) := by decide +kernel
theorem dL_refuses_355 : decode cL_refuses 355 = .ok (.if_icmp .ne 45, 3) := by decide +kernel
theorem dL_refuses_358 : decode cL_refuses 358 = .ok (.aload_n 0, 1) := by decide +kernel
theorem dL_refuses_359 : decode cL_refuses 359 = .ok (.bipush 6, 2) := by decide +kernel
theorem dL_refuses_361 : decode cL_refuses 361 = .ok (.iconst 0, 1) := by decide +kernel
theorem dL_refuses_362 : decode cL_refuses 362 = .ok (.invokestatic 100, 3) := by decide +kernel
theorem dL_refuses_365 : decode cL_refuses 365 = .ok (.sipush (-903), 3) := by decide +kernel
theorem dL_refuses_368 : decode cL_refuses 368 = .ok (.if_icmp .ne 32, 3) := by decide +kernel
theorem dL_refuses_371 : decode cL_refuses 371 = .ok (.aload_n 0, 1) := by decide +kernel
theorem dL_refuses_372 : decode cL_refuses 372 = .ok (.bipush 6, 2) := by decide +kernel
theorem dL_refuses_374 : decode cL_refuses 374 = .ok (.invokestatic 115, 3) := by decide +kernel
theorem dL_refuses_377 : decode cL_refuses 377 = .ok (.sipush (-903), 3) := by decide +kernel
theorem dL_refuses_380 : decode cL_refuses 380 = .ok (.if_icmp .ne 20, 3) := by decide +kernel
theorem dL_refuses_383 : decode cL_refuses 383 = .ok (.aload_n 0, 1) := by decide +kernel
theorem dL_refuses_384 : decode cL_refuses 384 = .ok (.sipush 128, 3) := by decide +kernel
theorem dL_refuses_387 : decode cL_refuses 387 = .ok (.invokestatic 168, 3) := by decide +kernel
theorem dL_refuses_390 : decode cL_refuses 390 = .ok (.sipush (-901), 3) := by decide +kernel
theorem dL_refuses_393 : decode cL_refuses 393 = .ok (.if_icmp .ne 7, 3) := by decide +kernel
theorem dL_refuses_396 : decode cL_refuses 396 = .ok (.iconst 1, 1) := by decide +kernel
theorem dL_refuses_397 : decode cL_refuses 397 = .ok (.goto 4, 3) := by decide +kernel
theorem dL_refuses_400 : decode cL_refuses 400 = .ok (.iconst 0, 1) := by decide +kernel
theorem dL_refuses_401 : decode cL_refuses 401 = .ok (.istore_n 3, 1) := by decide +kernel
theorem dL_refuses_402 : decode cL_refuses 402 = .ok (.iload_n 3, 1) := by decide +kernel
theorem dL_refuses_403 : decode cL_refuses 403 = .ok (.ifCond .eq 16, 3) := by decide +kernel
theorem dL_refuses_406 : decode cL_refuses 406 = .ok (.aload_n 0, 1) := by decide +kernel
theorem dL_refuses_407 : decode cL_refuses 407 = .ok (.invokevirtual 146, 3) := by decide +kernel
theorem dL_refuses_410 : decode cL_refuses 410 = .ok (.lload_n 1, 1) := by decide +kernel
theorem dL_refuses_411 : decode cL_refuses 411 = .ok (.lcmp, 1) := by decide +kernel
theorem dL_refuses_412 : decode cL_refuses 412 = .ok (.ifCond .ne 7, 3) := by decide +kernel
theorem dL_refuses_415 : decode cL_refuses 415 = .ok (.iconst 1, 1) := by decide +kernel
theorem dL_refuses_416 : decode cL_refuses 416 = .ok (.goto 4, 3) := by decide +kernel
theorem dL_refuses_419 : decode cL_refuses 419 = .ok (.iconst 0, 1) := by decide +kernel
theorem dL_refuses_420 : decode cL_refuses 420 = .ok (.ireturn, 1) := by decide +kernel
set_option maxRecDepth 20000 in
theorem ggL_calm_L_wrongViews : GoodIn wsL_calm wsL_wrongViews := goodIn_ca (goodIn_r _ [4, 5, 6, 7, 8, 9, 10, 11, 12, 13, 14, 15, 16, 17, 18, 19, 20, 21, 22, 23, 24, 25, 26, 27, 28, 29, 30, 31, 32, 33, 34, 35, 36, 37, 38, 39, 40, 41, 42, 43, 44, 45, 46, 47, 48, 49, 50, 51, 52, 53, 54, 55, 56, 57, 58, 59, 73, 74, 75, 76, 77, 78, 79, 80, 81, 82, 83, 84, 85, 86, 87, 88, 89] (by decide +kernel) (by decide +kernel)) (goodIn_sub (fun _ h => List.mem_cons_of_mem _ (List.mem_append_right _ h)) (by decide +kernel))
set_option maxRecDepth 20000 in
theorem gL_calm_L_wrongViews : GoodIn wsL_calm (va_wsS RL 115 yL_wrongViews wsL_wrongViews) := goodIn_app (goodIn_of _ (by decide +kernel)) ggL_calm_L_wrongViews
set_option maxRecDepth 20000 in
theorem ggL_calm_X6_agreeing : GoodIn wsL_calm wsX6_agreeing := goodIn_r _ [63, 11, 64, 65, 66, 67, 38, 68, 69, 70, 71, 72, 40, 73, 74, 75, 76, 77, 78, 79, 80, 81, 82, 86, 87, 88] (by decide +kernel) (by decide +kernel)
set_option maxRecDepth 20000 in
theorem gL_calm_X6_agreeing : GoodIn wsL_calm (wsV RL 106 RX6 yX6_agreeing wsX6_agreeing) := goodIn_app (goodIn_of _ (by decide +kernel)) ggL_calm_X6_agreeing
theorem dL_calm_0 : decode cL_calm 0 = .ok (.iconst 0, 1) := by decide +kernel
theorem dL_calm_1 : decode cL_calm 1 = .ok (.istore_n 1, 1) := by decide +kernel
theorem dL_calm_2 : decode cL_calm 2 = .ok (.iload_n 1, 1) := by decide +kernel
theorem dL_calm_3 : decode cL_calm 3 = .ok (.bipush 6, 2) := by decide +kernel
theorem dL_calm_5 : decode cL_calm 5 = .ok (.if_icmp .ge 19, 3) := by decide +kernel
theorem dL_calm_8 : decode cL_calm 8 = .ok (.aload_n 0, 1) := by decide +kernel
theorem dL_calm_9 : decode cL_calm 9 = .ok (.iload_n 1, 1) := by decide +kernel
theorem dL_calm_10 : decode cL_calm 10 = .ok (.invokestatic 115, 3) := by decide +kernel
theorem dL_calm_13 : decode cL_calm 13 = .ok (.ifCond .eq 5, 3) := by decide +kernel
theorem dL_calm_16 : decode cL_calm 16 = .ok (.iconst 0, 1) := by decide +kernel
theorem dL_calm_17 : decode cL_calm 17 = .ok (.ireturn, 1) := by decide +kernel
theorem dL_calm_18 : decode cL_calm 18 = .ok (.iinc 1 1, 3) := by decide +kernel
theorem dL_calm_21 : decode cL_calm 21 = .ok (.goto (-19), 3) := by decide +kernel
theorem dL_calm_24 : decode cL_calm 24 = .ok (.aload_n 0, 1) := by decide +kernel
theorem dL_calm_25 : decode cL_calm 25 = .ok (.invokevirtual 106, 3) := by decide +kernel
theorem dL_calm_28 : decode cL_calm 28 = .ok (.bipush 15, 2) := by decide +kernel
theorem dL_calm_30 : decode cL_calm 30 = .ok (.if_icmp .ne 7, 3) := by decide +kernel
theorem dL_calm_33 : decode cL_calm 33 = .ok (.iconst 1, 1) := by decide +kernel
theorem dL_calm_34 : decode cL_calm 34 = .ok (.goto 4, 3) := by decide +kernel
theorem dL_calm_37 : decode cL_calm 37 = .ok (.iconst 0, 1) := by decide +kernel
theorem dL_calm_38 : decode cL_calm 38 = .ok (.ireturn, 1) := by decide +kernel
set_option maxRecDepth 20000 in
theorem ggL_act_L_low : GoodIn wsL_act wsL_low := goodIn_r _ [4, 5] (by decide +kernel) (by decide +kernel)
set_option maxRecDepth 20000 in
theorem gL_act_L_low : GoodIn wsL_act (va_wsS RL 95 yL_low wsL_low) := goodIn_app (goodIn_of _ (by decide +kernel)) ggL_act_L_low
set_option maxRecDepth 20000 in
theorem ggL_act_L_entry : GoodIn wsL_act wsL_entry := goodIn_ca (goodIn_ca (goodIn_r _ [8, 9, 10, 11, 12, 13, 14, 15, 16, 17, 18, 19, 20, 21, 22, 23, 24, 25, 26, 27, 28, 29, 30, 31, 32, 33, 344, 345, 346, 347, 348, 349, 350, 351, 352, 353, 354, 355, 356] (by decide +kernel) (by decide +kernel)) (goodIn_sub (fun _ h => List.mem_cons_of_mem _ (List.mem_append_left _ (List.mem_append_left _ (List.mem_append_right _ h)))) (by decide +kernel))) (goodIn_sub (fun _ h => List.mem_cons_of_mem _ (List.mem_append_left _ (List.mem_append_right _ h))) (by decide +kernel))
set_option maxRecDepth 20000 in
theorem gL_act_L_entry : GoodIn wsL_act (va_wsS RL 98 yL_entry wsL_entry) := goodIn_app (goodIn_of _ (by decide +kernel)) ggL_act_L_entry
set_option maxRecDepth 20000 in
theorem ggL_act_L_ask : GoodIn wsL_act wsL_ask := goodIn_ca (goodIn_ca (goodIn_r _ [36, 9, 10, 37, 38, 39, 14, 40, 16, 18, 19, 20, 21, 22, 23, 24, 25, 26, 27, 41, 42, 43, 44, 45, 46, 47, 48, 49, 50, 51, 52, 53, 54, 55, 56, 57, 58, 59, 60, 61, 62, 63, 64, 65, 66, 67, 68, 69, 70, 71, 72, 73, 74, 75, 76, 31, 77, 33, 78, 79, 80, 81, 82, 83, 84, 85, 86, 87, 88, 89, 90, 91, 92, 93, 94, 95, 96, 97, 98, 99, 100, 101, 102, 103, 104, 105, 106, 107, 108, 109, 110, 111, 112, 113, 114, 115, 116, 117, 118, 119, 120, 121, 122, 123, 124, 125, 126, 127, 128, 344, 345, 346, 347, 348, 349, 350, 351, 352, 353, 357, 358, 359, 354, 355, 356, 360, 361, 362, 363, 364] (by decide +kernel) (by decide +kernel)) (goodIn_sub (fun _ h => List.mem_cons_of_mem _ (List.mem_append_left _ (List.mem_append_left _ (List.mem_append_right _ h)))) (by decide +kernel))) (goodIn_sub (fun _ h => List.mem_cons_of_mem _ (List.mem_append_left _ (List.mem_append_right _ h))) (by decide +kernel))
set_option maxRecDepth 20000 in
theorem gL_act_L_ask : GoodIn wsL_act (va_wsS RL 150 yL_ask wsL_ask) := goodIn_app (goodIn_of _ (by decide +kernel)) ggL_act_L_ask
set_option maxRecDepth 20000 in
theorem ggL_act_L_grant : GoodIn wsL_act wsL_grant := goodIn_ca (goodIn_ca (goodIn_r _ [131, 9, 10, 132, 133, 134, 14, 135, 16, 18, 19, 20, 21, 22, 23, 24, 25, 26, 27, 41, 42, 43, 44, 45, 46, 47, 48, 49, 50, 51, 52, 53, 54, 55, 56, 57, 58, 59, 60, 61, 62, 63, 64, 65, 66, 67, 68, 69, 70, 71, 72, 73, 74, 75, 76, 31, 77, 33, 78, 79, 80, 81, 82, 83, 84, 85, 86, 87, 88, 89, 90, 91, 92, 93, 94, 95, 96, 97, 136, 137, 138, 139, 102, 103, 104, 105, 106, 107, 108, 109, 110, 111, 112, 113, 114, 115, 116, 117, 118, 119, 120, 121, 122, 123, 124, 125, 126, 127, 128, 140, 141, 142, 143, 144, 145, 146, 147, 148, 149, 150, 151, 344, 345, 346, 347, 348, 349, 350, 351, 352, 353, 357, 358, 359, 354, 355, 356, 360, 361, 362, 363, 364] (by decide +kernel) (by decide +kernel)) (goodIn_sub (fun _ h => List.mem_cons_of_mem _ (List.mem_append_left _ (List.mem_append_left _ (List.mem_append_right _ h)))) (by decide +kernel))) (goodIn_sub (fun _ h => List.mem_cons_of_mem _ (List.mem_append_left _ (List.mem_append_right _ h))) (by decide +kernel))
set_option maxRecDepth 20000 in
theorem gL_act_L_grant : GoodIn wsL_act (va_wsS RL 152 yL_grant wsL_grant) := goodIn_app (goodIn_of _ (by decide +kernel)) ggL_act_L_grant
set_option maxRecDepth 20000 in
theorem ggL_act_L_refuse : GoodIn wsL_act wsL_refuse := goodIn_ca (goodIn_ca (goodIn_r _ [154, 9, 10, 155, 156, 157, 14, 158, 16, 18, 19, 20, 21, 22, 23, 24, 25, 26, 27, 41, 42, 43, 44, 45, 46, 47, 48, 49, 50, 51, 52, 53, 54, 55, 56, 57, 58, 59, 60, 61, 62, 63, 64, 65, 66, 67, 68, 69, 70, 71, 72, 73, 74, 75, 76, 31, 77, 33, 78, 79, 80, 81, 82, 83, 84, 85, 86, 87, 88, 89, 90, 91, 92, 93, 94, 95, 96, 97, 159, 160, 161, 162, 102, 103, 104, 105, 106, 107, 108, 109, 110, 111, 112, 113, 114, 115, 116, 117, 118, 119, 120, 121, 122, 123, 124, 125, 126, 127, 128, 163, 164, 165, 166, 144, 145, 146, 147, 344, 345, 346, 347, 348, 349, 350, 351, 352, 353, 357, 358, 359, 354, 355, 356, 360, 361, 362, 363, 364] (by decide +kernel) (by decide +kernel)) (goodIn_sub (fun _ h => List.mem_cons_of_mem _ (List.mem_append_left _ (List.mem_append_left _ (List.mem_append_right _ h)))) (by decide +kernel))) (goodIn_sub (fun _ h => List.mem_cons_of_mem _ (List.mem_append_left _ (List.mem_append_right _ h))) (by decide +kernel))
set_option maxRecDepth 20000 in
theorem gL_act_L_refuse : GoodIn wsL_act (va_wsS RL 154 yL_refuse wsL_refuse) := goodIn_app (goodIn_of _ (by decide +kernel)) ggL_act_L_refuse
set_option maxRecDepth 20000 in
theorem ggL_act_L_stop : GoodIn wsL_act wsL_stop := goodIn_ca (goodIn_ca (goodIn_r _ [169, 9, 10, 170, 171, 172, 14, 173, 16, 18, 19, 20, 21, 22, 23, 24, 25, 26, 27, 41, 42, 43, 44, 45, 46, 47, 48, 49, 50, 51, 52, 53, 54, 55, 56, 57, 58, 59, 60, 61, 62, 63, 64, 65, 66, 67, 68, 69, 70, 71, 72, 73, 74, 75, 76, 31, 77, 33, 78, 79, 80, 81, 82, 83, 84, 85, 86, 87, 88, 89, 90, 91, 92, 93, 94, 95, 96, 97, 174, 175, 176, 177, 102, 103, 104, 105, 106, 107, 108, 109, 110, 111, 112, 113, 114, 115, 116, 117, 118, 119, 120, 121, 122, 123, 124, 125, 126, 127, 128, 178, 179, 180, 181, 344, 345, 346, 347, 348, 349, 350, 351, 352, 353, 357, 358, 359, 354, 355, 356, 360, 361, 362, 363, 364] (by decide +kernel) (by decide +kernel)) (goodIn_sub (fun _ h => List.mem_cons_of_mem _ (List.mem_append_left _ (List.mem_append_left _ (List.mem_append_right _ h)))) (by decide +kernel))) (goodIn_sub (fun _ h => List.mem_cons_of_mem _ (List.mem_append_left _ (List.mem_append_right _ h))) (by decide +kernel))
set_option maxRecDepth 20000 in
theorem gL_act_L_stop : GoodIn wsL_act (va_wsS RL 156 yL_stop wsL_stop) := goodIn_app (goodIn_of _ (by decide +kernel)) ggL_act_L_stop
set_option maxRecDepth 20000 in
theorem ggL_act_L_turnOn : GoodIn wsL_act wsL_turnOn := goodIn_ca (goodIn_ca (goodIn_r _ [184, 9, 10, 185, 186, 187, 14, 188, 21, 22, 16, 189, 190, 191, 26, 27, 23, 24, 25, 41, 42, 43, 44, 45, 46, 47, 48, 49, 50, 51, 52, 53, 54, 55, 56, 57, 58, 59, 60, 61, 62, 63, 64, 65, 66, 67, 68, 69, 70, 71, 72, 73, 74, 75, 76, 31, 77, 33, 78, 79, 80, 81, 82, 83, 84, 85, 86, 87, 88, 89, 90, 91, 92, 93, 94, 95, 96, 97, 192, 193, 194, 195, 196, 197, 198, 199, 200, 201, 202, 203, 204, 205, 206, 207, 208, 209, 210, 211, 212, 179, 180, 181, 102, 103, 104, 105, 110, 111, 112, 113, 114, 115, 116, 117, 118, 119, 120, 121, 122, 123, 124, 125, 126, 127, 128, 213, 214, 215, 216, 217, 344, 345, 346, 347, 348, 349, 350, 351, 352, 353, 357, 358, 359, 354, 355, 356, 360, 361, 362, 363, 364] (by decide +kernel) (by decide +kernel)) (goodIn_sub (fun _ h => List.mem_cons_of_mem _ (List.mem_append_left _ (List.mem_append_left _ (List.mem_append_right _ h)))) (by decide +kernel))) (goodIn_sub (fun _ h => List.mem_cons_of_mem _ (List.mem_append_left _ (List.mem_append_right _ h))) (by decide +kernel))
set_option maxRecDepth 20000 in
theorem gL_act_L_turnOn : GoodIn wsL_act (va_wsS RL 161 yL_turnOn wsL_turnOn) := goodIn_app (goodIn_of _ (by decide +kernel)) ggL_act_L_turnOn
set_option maxRecDepth 20000 in
theorem ggL_act_L_seat : GoodIn wsL_act wsL_seat := goodIn_ca (goodIn_ca (goodIn_r _ [220, 9, 10, 221, 222, 223, 14, 224, 16, 225, 189, 190, 191, 26, 27, 23, 24, 25, 226, 227, 228, 21, 22, 229, 230, 231, 68, 232, 70, 72, 73, 344, 345, 346, 347, 348, 349, 350, 351, 352, 353, 357, 358, 359] (by decide +kernel) (by decide +kernel)) (goodIn_sub (fun _ h => List.mem_cons_of_mem _ (List.mem_append_left _ (List.mem_append_right _ h))) (by decide +kernel))) (goodIn_sub (fun _ h => List.mem_cons_of_mem _ (List.mem_append_left _ (List.mem_append_left _ (List.mem_append_right _ h)))) (by decide +kernel))
set_option maxRecDepth 20000 in
theorem gL_act_L_seat : GoodIn wsL_act (va_wsS RL 109 yL_seat wsL_seat) := goodIn_app (goodIn_of _ (by decide +kernel)) ggL_act_L_seat
set_option maxRecDepth 20000 in
theorem ggL_act_L_turnOff : GoodIn wsL_act wsL_turnOff := goodIn_ca (goodIn_ca (goodIn_r _ [235, 9, 236, 237, 238, 239, 14, 240, 241, 242, 16, 225, 189, 190, 191, 26, 27, 23, 24, 25, 243, 145, 146, 68, 147, 70, 41, 42, 43, 44, 45, 46, 47, 48, 49, 50, 51, 52, 53, 54, 55, 56, 57, 58, 59, 60, 61, 62, 63, 64, 65, 66, 67, 69, 71, 72, 73, 74, 75, 76, 31, 77, 33, 78, 79, 80, 81, 82, 83, 84, 85, 86, 87, 88, 89, 90, 91, 92, 93, 94, 95, 96, 97, 244, 245, 246, 247, 144, 248, 249, 250, 251, 213, 214, 215, 216, 102, 103, 104, 105, 114, 115, 116, 117, 118, 119, 120, 121, 122, 123, 124, 125, 126, 127, 128, 196, 197, 198, 199, 200, 201, 202, 203, 208, 209, 210, 211, 212, 179, 180, 181, 217, 344, 345, 346, 347, 348, 349, 350, 351, 352, 353, 357, 358, 359, 354, 355, 356, 360, 361, 362, 363, 364] (by decide +kernel) (by decide +kernel)) (goodIn_sub (fun _ h => List.mem_cons_of_mem _ (List.mem_append_right _ h)) (by decide +kernel))) (goodIn_sub (fun _ h => List.mem_cons_of_mem _ (List.mem_append_left _ (List.mem_append_right _ h))) (by decide +kernel))
set_option maxRecDepth 20000 in
theorem gL_act_L_turnOff : GoodIn wsL_act (va_wsS RL 164 yL_turnOff wsL_turnOff) := goodIn_app (goodIn_of _ (by decide +kernel)) ggL_act_L_turnOff
set_option maxRecDepth 20000 in
theorem ggL_act_L_block : GoodIn wsL_act wsL_block := goodIn_ca (goodIn_ca (goodIn_r _ [254, 9, 10, 255, 256, 257, 14, 258, 16, 18, 19, 20, 21, 22, 23, 24, 25, 26, 27, 41, 42, 43, 44, 45, 46, 47, 48, 49, 50, 51, 52, 53, 54, 55, 56, 57, 58, 59, 60, 61, 62, 63, 64, 65, 66, 67, 68, 69, 70, 71, 72, 73, 74, 75, 76, 31, 77, 33, 78, 79, 80, 81, 82, 83, 84, 85, 86, 87, 88, 89, 90, 91, 92, 93, 94, 95, 96, 97, 259, 260, 261, 262, 102, 103, 104, 105, 163, 164, 165, 166, 144, 145, 146, 147, 114, 115, 116, 117, 118, 119, 120, 121, 122, 123, 124, 125, 126, 127, 128, 178, 179, 180, 181, 263, 264, 265, 266, 196, 197, 198, 199, 200, 201, 202, 203, 110, 111, 112, 113, 140, 141, 142, 143, 148, 149, 150, 151, 344, 345, 346, 347, 348, 349, 350, 351, 352, 353, 357, 358, 359, 354, 355, 356, 360, 361, 362, 363, 364] (by decide +kernel) (by decide +kernel)) (goodIn_sub (fun _ h => List.mem_cons_of_mem _ (List.mem_append_left _ (List.mem_append_left _ (List.mem_append_right _ h)))) (by decide +kernel))) (goodIn_sub (fun _ h => List.mem_cons_of_mem _ (List.mem_append_left _ (List.mem_append_right _ h))) (by decide +kernel))
set_option maxRecDepth 20000 in
theorem gL_act_L_block : GoodIn wsL_act (va_wsS RL 158 yL_block wsL_block) := goodIn_app (goodIn_of _ (by decide +kernel)) ggL_act_L_block
set_option maxRecDepth 20000 in
theorem ggL_act_L_areApart : GoodIn wsL_act wsL_areApart := goodIn_ca (goodIn_ca (goodIn_r _ [269, 9, 10, 270, 271, 272, 14, 273, 16, 18, 19, 20, 21, 22, 23, 24, 25, 26, 27, 274, 119, 120, 54, 121, 60, 344, 345, 346, 347, 348, 349, 350, 351, 352, 353] (by decide +kernel) (by decide +kernel)) (goodIn_sub (fun _ h => List.mem_cons_of_mem _ (List.mem_append_left _ (List.mem_append_left _ (List.mem_append_right _ h)))) (by decide +kernel))) (goodIn_sub (fun _ h => List.mem_cons_of_mem _ (List.mem_append_left _ (List.mem_append_right _ h))) (by decide +kernel))
set_option maxRecDepth 20000 in
theorem gL_act_L_areApart : GoodIn wsL_act (va_wsS RL 102 yL_areApart wsL_areApart) := goodIn_app (goodIn_of _ (by decide +kernel)) ggL_act_L_areApart
set_option maxRecDepth 20000 in
theorem ggL_act_X6_underWay : GoodIn wsL_act wsX6_underWay := goodIn_r _ [278, 16, 279, 280, 344, 345, 346, 347, 348, 349, 350, 351, 352, 353, 361, 362, 363, 364] (by decide +kernel) (by decide +kernel)
set_option maxRecDepth 20000 in
theorem gL_act_X6_underWay : GoodIn wsL_act (wsV RL 125 RX6 yX6_underWay wsX6_underWay) := goodIn_app (goodIn_of _ (by decide +kernel)) ggL_act_X6_underWay
set_option maxRecDepth 20000 in
theorem ggL_act_L_message : GoodIn wsL_act wsL_message := goodIn_ca (goodIn_ca (goodIn_r _ [283, 9, 10, 284, 285, 286, 14, 287, 16, 279, 288, 289, 290, 291, 26, 27, 280, 226, 227, 228, 21, 22, 292, 293, 294, 91, 295, 93, 296, 297, 298, 299, 96, 300, 301, 302, 303, 304, 305, 306, 344, 345, 346, 347, 348, 349, 350, 351, 352, 353, 361, 362, 363, 364] (by decide +kernel) (by decide +kernel)) (goodIn_sub (fun _ h => List.mem_cons_of_mem _ (List.mem_append_left _ (List.mem_append_right _ h))) (by decide +kernel))) (goodIn_sub (fun _ h => List.mem_cons_of_mem _ (List.mem_append_left _ (List.mem_append_left _ (List.mem_append_right _ h)))) (by decide +kernel))
set_option maxRecDepth 20000 in
theorem gL_act_L_message : GoodIn wsL_act (va_wsS RL 128 yL_message wsL_message) := goodIn_app (goodIn_of _ (by decide +kernel)) ggL_act_L_message
set_option maxRecDepth 20000 in
theorem ggL_act_L_lose : GoodIn wsL_act wsL_lose := goodIn_ca (goodIn_r _ [309, 9, 310, 311, 312, 14, 313, 16, 279, 288, 289, 290, 291, 26, 27, 280, 41, 42, 43, 44, 45, 46, 47, 48, 49, 50, 51, 52, 53, 54, 55, 56, 57, 58, 59, 60, 61, 62, 63, 64, 65, 66, 67, 68, 69, 70, 71, 72, 73, 74, 75, 76, 31, 77, 33, 78, 79, 80, 81, 82, 83, 84, 85, 86, 87, 88, 89, 90, 91, 92, 93, 94, 95, 96, 97, 314, 315, 316, 317, 318, 293, 294, 295, 296, 297, 298, 299, 300, 301, 302, 303, 304, 305, 306, 344, 345, 346, 347, 348, 349, 350, 351, 352, 353, 361, 362, 363, 364, 357, 358, 359, 354, 355, 356, 360] (by decide +kernel) (by decide +kernel)) (goodIn_sub (fun _ h => List.mem_cons_of_mem _ (List.mem_append_left _ (List.mem_append_right _ h))) (by decide +kernel))
set_option maxRecDepth 20000 in
theorem gL_act_L_lose : GoodIn wsL_act (va_wsS RL 166 yL_lose wsL_lose) := goodIn_app (goodIn_of _ (by decide +kernel)) ggL_act_L_lose
set_option maxRecDepth 20000 in
theorem ggL_act_L_deliver : GoodIn wsL_act wsL_deliver := goodIn_ca (goodIn_r _ [321, 10, 322, 323, 324, 14, 325, 21, 22, 16, 41, 42, 43, 44, 45, 46, 47, 48, 49, 50, 51, 52, 53, 54, 55, 56, 57, 58, 59, 60, 61, 62, 63, 64, 65, 66, 67, 68, 69, 70, 71, 72, 73, 74, 75, 76, 31, 77, 33, 78, 79, 80, 81, 82, 83, 84, 85, 86, 87, 88, 89, 90, 91, 92, 93, 94, 95, 96, 97, 326, 327, 328, 329, 330, 331, 332, 333, 334, 318, 293, 294, 295, 296, 297, 298, 299, 300, 301, 302, 303, 335, 336, 337, 338, 339, 305, 306, 118, 119, 120, 121, 102, 103, 104, 105, 110, 111, 112, 113, 114, 115, 116, 117, 122, 123, 124, 125, 126, 127, 128, 140, 141, 142, 143, 144, 145, 146, 147, 148, 149, 150, 151, 106, 107, 108, 109, 163, 164, 165, 166, 178, 179, 180, 181, 196, 197, 198, 199, 200, 201, 202, 203, 340, 341, 342, 343, 344, 345, 346, 347, 348, 349, 350, 351, 352, 353, 357, 358, 359, 354, 355, 356, 360, 361, 362, 363, 364] (by decide +kernel) (by decide +kernel)) (goodIn_sub (fun _ h => List.mem_cons_of_mem _ (List.mem_append_left _ (List.mem_append_left _ (List.mem_append_right _ h)))) (by decide +kernel))
set_option maxRecDepth 20000 in
theorem gL_act_L_deliver : GoodIn wsL_act (va_wsS RL 141 yL_deliver wsL_deliver) := goodIn_app (goodIn_of _ (by decide +kernel)) ggL_act_L_deliver
theorem dL_act_0 : decode cL_act 0 = .ok (.iload_n 1, 1) := by decide +kernel
theorem dL_act_1 : decode cL_act 1 = .ok (.iload_n 3, 1) := by decide +kernel
theorem dL_act_2 : decode cL_act 2 = .ok (.ifCond .eq 8, 3) := by decide +kernel
theorem dL_act_5 : decode cL_act 5 = .ok (.bipush 11, 2) := by decide +kernel
theorem dL_act_7 : decode cL_act 7 = .ok (.goto 5, 3) := by decide +kernel
theorem dL_act_10 : decode cL_act 10 = .ok (.bipush 14, 2) := by decide +kernel
theorem dL_act_12 : decode cL_act 12 = .ok (.invokestatic 95, 3) := by decide +kernel
theorem dL_act_15 : decode cL_act 15 = .ok (.istore 4, 2) := by decide +kernel
theorem dL_act_17 : decode cL_act 17 = .ok (.iload_n 1, 1) := by decide +kernel
theorem dL_act_18 : decode cL_act 18 = .ok (.iconst 4, 1) := by decide +kernel
theorem dL_act_19 : decode cL_act 19 = .ok (.ishr, 1) := by decide +kernel
theorem dL_act_20 : decode cL_act 20 = .ok (.bipush 6, 2) := by decide +kernel
theorem dL_act_22 : decode cL_act 22 = .ok (.invokestatic 95, 3) := by decide +kernel
theorem dL_act_25 : decode cL_act 25 = .ok (.istore 5, 2) := by decide +kernel
theorem dL_act_27 : decode cL_act 27 = .ok (.iload 5, 2) := by decide +kernel
theorem dL_act_29 : decode cL_act 29 = .ok (.iconst 1, 1) := by decide +kernel
theorem dL_act_30 : decode cL_act 30 = .ok (.iadd, 1) := by decide +kernel
theorem dL_act_31 : decode cL_act 31 = .ok (.iload_n 1, 1) := by decide +kernel
theorem dL_act_32 : decode cL_act 32 = .ok (.bipush 7, 2) := by decide +kernel
theorem dL_act_34 : decode cL_act 34 = .ok (.ishr, 1) := by decide +kernel
theorem dL_act_35 : decode cL_act 35 = .ok (.iload_n 1, 1) := by decide +kernel
theorem dL_act_36 : decode cL_act 36 = .ok (.bipush 20, 2) := by decide +kernel
theorem dL_act_38 : decode cL_act 38 = .ok (.ishr, 1) := by decide +kernel
theorem dL_act_39 : decode cL_act 39 = .ok (.iconst 2, 1) := by decide +kernel
theorem dL_act_40 : decode cL_act 40 = .ok (.invokestatic 95, 3) := by decide +kernel
theorem dL_act_43 : decode cL_act 43 = .ok (.ifCond .ne 7, 3) := by decide +kernel
theorem dL_act_46 : decode cL_act 46 = .ok (.iconst 2, 1) := by decide +kernel
theorem dL_act_47 : decode cL_act 47 = .ok (.goto 4, 3) := by decide +kernel
theorem dL_act_50 : decode cL_act 50 = .ok (.iconst 5, 1) := by decide +kernel
theorem dL_act_51 : decode cL_act 51 = .ok (.invokestatic 95, 3) := by decide +kernel
theorem dL_act_54 : decode cL_act 54 = .ok (.iadd, 1) := by decide +kernel
theorem dL_act_55 : decode cL_act 55 = .ok (.bipush 6, 2) := by decide +kernel
theorem dL_act_57 : decode cL_act 57 = .ok (.irem, 1) := by decide +kernel
theorem dL_act_58 : decode cL_act 58 = .ok (.istore 6, 2) := by decide +kernel
theorem dL_act_60 : decode cL_act 60 = .ok (.iload_n 2, 1) := by decide +kernel
theorem dL_act_61 : decode cL_act 61 = .ok (.iconst 3, 1) := by decide +kernel
theorem dL_act_62 : decode cL_act 62 = .ok (.invokestatic 95, 3) := by decide +kernel
theorem dL_act_65 : decode cL_act 65 = .ok (.istore 7, 2) := by decide +kernel
theorem dL_act_67 : decode cL_act 67 = .ok (.aload_n 0, 1) := by decide +kernel
theorem dL_act_68 : decode cL_act 68 = .ok (.iload 5, 2) := by decide +kernel
theorem dL_act_70 : decode cL_act 70 = .ok (.iload 6, 2) := by decide +kernel
theorem dL_act_72 : decode cL_act 72 = .ok (.invokestatic 98, 3) := by decide +kernel
theorem dL_act_75 : decode cL_act 75 = .ok (.istore 8, 2) := by decide +kernel
theorem dL_act_77 : decode cL_act 77 = .ok (.iload 4, 2) := by decide +kernel
theorem dL_act_79 : decode cL_act 79 = .ok (.iconst 3, 1) := by decide +kernel
theorem dL_act_80 : decode cL_act 80 = .ok (.if_icmp .ge 52, 3) := by decide +kernel
theorem dL_act_83 : decode cL_act 83 = .ok (.aload_n 0, 1) := by decide +kernel
theorem dL_act_84 : decode cL_act 84 = .ok (.iload 5, 2) := by decide +kernel
theorem dL_act_86 : decode cL_act 86 = .ok (.iload 6, 2) := by decide +kernel
theorem dL_act_88 : decode cL_act 88 = .ok (.invokestatic 150, 3) := by decide +kernel

set_option maxRecDepth 20000 in
theorem gL_messages_L_count : GoodIn wsL_messages (va_wsS RL 139 yL_count wsL_count) := goodIn_app (goodIn_of _ (by decide +kernel)) ggL_messages_L_count
set_option maxRecDepth 20000 in
theorem ggL_messages_X6_agreeing : GoodIn wsL_messages wsX6_agreeing := goodIn_r _ [214, 6, 215, 216, 183, 184, 79, 185, 186, 187, 188, 189, 81, 217, 218, 219, 220, 221, 222, 223, 224, 225, 226, 234, 235, 236] (by decide +kernel) (by decide +kernel)
set_option maxRecDepth 20000 in
theorem gL_messages_X6_agreeing : GoodIn wsL_messages (wsV RL 106 RX6 yX6_agreeing wsX6_agreeing) := goodIn_app (goodIn_of _ (by decide +kernel)) ggL_messages_X6_agreeing
theorem dL_messages_0 : decode cL_messages 0 = .ok (.aload_n 0, 1) := by decide +kernel
theorem dL_messages_1 : decode cL_messages 1 = .ok (.invokevirtual 125, 3) := by decide +kernel
theorem dL_messages_4 : decode cL_messages 4 = .ok (.istore_n 1, 1) := by decide +kernel
theorem dL_messages_5 : decode cL_messages 5 = .ok (.iconst 0, 1) := by decide +kernel
theorem dL_messages_6 : decode cL_messages 6 = .ok (.istore_n 2, 1) := by decide +kernel
theorem dL_messages_7 : decode cL_messages 7 = .ok (.iload_n 2, 1) := by decide +kernel
theorem dL_messages_8 : decode cL_messages 8 = .ok (.iload_n 1, 1) := by decide +kernel
theorem dL_messages_9 : decode cL_messages 9 = .ok (.if_icmp .ge 125, 3) := by decide +kernel
theorem dL_messages_12 : decode cL_messages 12 = .ok (.aload_n 0, 1) := by decide +kernel
theorem dL_messages_13 : decode cL_messages 13 = .ok (.iload_n 2, 1) := by decide +kernel
theorem dL_messages_14 : decode cL_messages 14 = .ok (.iconst 0, 1) := by decide +kernel
theorem dL_messages_15 : decode cL_messages 15 = .ok (.invokestatic 128, 3) := by decide +kernel
theorem dL_messages_18 : decode cL_messages 18 = .ok (.istore_n 3, 1) := by decide +kernel
theorem dL_messages_19 : decode cL_messages 19 = .ok (.iload_n 3, 1) := by decide +kernel
theorem dL_messages_20 : decode cL_messages 20 = .ok (.iconst 4, 1) := by decide +kernel
theorem dL_messages_21 : decode cL_messages 21 = .ok (.if_icmp .eq 8, 3) := by decide +kernel
theorem dL_messages_24 : decode cL_messages 24 = .ok (.iload_n 3, 1) := by decide +kernel
theorem dL_messages_25 : decode cL_messages 25 = .ok (.iconst 5, 1) := by decide +kernel
theorem dL_messages_26 : decode cL_messages 26 = .ok (.if_icmp .ne 7, 3) := by decide +kernel
theorem dL_messages_29 : decode cL_messages 29 = .ok (.iconst 1, 1) := by decide +kernel
theorem dL_messages_30 : decode cL_messages 30 = .ok (.goto 4, 3) := by decide +kernel
theorem dL_messages_33 : decode cL_messages 33 = .ok (.iconst 0, 1) := by decide +kernel
theorem dL_messages_34 : decode cL_messages 34 = .ok (.istore 4, 2) := by decide +kernel
theorem dL_messages_36 : decode cL_messages 36 = .ok (.iload_n 3, 1) := by decide +kernel
theorem dL_messages_37 : decode cL_messages 37 = .ok (.ifCond .lt 89, 3) := by decide +kernel
theorem dL_messages_40 : decode cL_messages 40 = .ok (.iload_n 3, 1) := by decide +kernel
theorem dL_messages_41 : decode cL_messages 41 = .ok (.bipush 6, 2) := by decide +kernel
theorem dL_messages_43 : decode cL_messages 43 = .ok (.if_icmp .gt 83, 3) := by decide +kernel
theorem dL_messages_46 : decode cL_messages 46 = .ok (.aload_n 0, 1) := by decide +kernel
theorem dL_messages_47 : decode cL_messages 47 = .ok (.iload_n 2, 1) := by decide +kernel
theorem dL_messages_48 : decode cL_messages 48 = .ok (.iconst 1, 1) := by decide +kernel
theorem dL_messages_49 : decode cL_messages 49 = .ok (.invokestatic 128, 3) := by decide +kernel
theorem dL_messages_52 : decode cL_messages 52 = .ok (.aload_n 0, 1) := by decide +kernel
theorem dL_messages_53 : decode cL_messages 53 = .ok (.iload_n 2, 1) := by decide +kernel
theorem dL_messages_54 : decode cL_messages 54 = .ok (.iconst 2, 1) := by decide +kernel
theorem dL_messages_55 : decode cL_messages 55 = .ok (.invokestatic 128, 3) := by decide +kernel
theorem dL_messages_58 : decode cL_messages 58 = .ok (.if_icmp .eq 68, 3) := by decide +kernel
theorem dL_messages_61 : decode cL_messages 61 = .ok (.aload_n 0, 1) := by decide +kernel
theorem dL_messages_62 : decode cL_messages 62 = .ok (.iload_n 2, 1) := by decide +kernel
theorem dL_messages_63 : decode cL_messages 63 = .ok (.iconst 1, 1) := by decide +kernel
theorem dL_messages_64 : decode cL_messages 64 = .ok (.invokestatic 128, 3) := by decide +kernel
theorem dL_messages_67 : decode cL_messages 67 = .ok (.ifCond .lt 59, 3) := by decide +kernel
theorem dL_messages_70 : decode cL_messages 70 = .ok (.aload_n 0, 1) := by decide +kernel
theorem dL_messages_71 : decode cL_messages 71 = .ok (.iload_n 2, 1) := by decide +kernel
theorem dL_messages_72 : decode cL_messages 72 = .ok (.iconst 2, 1) := by decide +kernel
theorem dL_messages_73 : decode cL_messages 73 = .ok (.invokestatic 128, 3) := by decide +kernel
theorem dL_messages_76 : decode cL_messages 76 = .ok (.iconst 5, 1) := by decide +kernel
theorem dL_messages_77 : decode cL_messages 77 = .ok (.if_icmp .gt 49, 3) := by decide +kernel
theorem dL_messages_80 : decode cL_messages 80 = .ok (.aload_n 0, 1) := by decide +kernel
theorem dL_messages_81 : decode cL_messages 81 = .ok (.iload_n 2, 1) := by decide +kernel
theorem dL_messages_82 : decode cL_messages 82 = .ok (.iconst 3, 1) := by decide +kernel
theorem dL_messages_83 : decode cL_messages 83 = .ok (.invokestatic 128, 3) := by decide +kernel
theorem dL_messages_86 : decode cL_messages 86 = .ok (.ifCond .lt 7, 3) := by decide +kernel
theorem dL_messages_89 : decode cL_messages 89 = .ok (.iconst 1, 1) := by decide +kernel
theorem dL_messages_90 : decode cL_messages 90 = .ok (.goto 4, 3) := by decide +kernel
theorem dL_messages_93 : decode cL_messages 93 = .ok (.iconst 0, 1) := by decide +kernel
theorem dL_messages_94 : decode cL_messages 94 = .ok (.iload 4, 2) := by decide +kernel
theorem dL_messages_96 : decode cL_messages 96 = .ok (.if_icmp .ne 30, 3) := by decide +kernel
theorem dL_messages_99 : decode cL_messages 99 = .ok (.aload_n 0, 1) := by decide +kernel
theorem dL_messages_100 : decode cL_messages 100 = .ok (.iload_n 2, 1) := by decide +kernel
theorem dL_messages_101 : decode cL_messages 101 = .ok (.iconst 4, 1) := by decide +kernel
theorem dL_messages_102 : decode cL_messages 102 = .ok (.invokestatic 128, 3) := by decide +kernel
theorem dL_messages_105 : decode cL_messages 105 = .ok (.ifCond .lt 7, 3) := by decide +kernel
theorem dL_messages_108 : decode cL_messages 108 = .ok (.iconst 1, 1) := by decide +kernel
theorem dL_messages_109 : decode cL_messages 109 = .ok (.goto 4, 3) := by decide +kernel
theorem dL_messages_112 : decode cL_messages 112 = .ok (.iconst 0, 1) := by decide +kernel
theorem dL_messages_113 : decode cL_messages 113 = .ok (.iload_n 3, 1) := by decide +kernel
theorem dL_messages_114 : decode cL_messages 114 = .ok (.iconst 4, 1) := by decide +kernel
theorem dL_messages_115 : decode cL_messages 115 = .ok (.if_icmp .ne 7, 3) := by decide +kernel
theorem dL_messages_118 : decode cL_messages 118 = .ok (.iconst 1, 1) := by decide +kernel
theorem dL_messages_119 : decode cL_messages 119 = .ok (.goto 4, 3) := by decide +kernel
theorem dL_messages_122 : decode cL_messages 122 = .ok (.iconst 0, 1) := by decide +kernel
theorem dL_messages_123 : decode cL_messages 123 = .ok (.if_icmp .eq 5, 3) := by decide +kernel
theorem dL_messages_126 : decode cL_messages 126 = .ok (.iconst 0, 1) := by decide +kernel
theorem dL_messages_127 : decode cL_messages 127 = .ok (.ireturn, 1) := by decide +kernel
theorem dL_messages_128 : decode cL_messages 128 = .ok (.iinc 2 1, 3) := by decide +kernel
theorem dL_messages_131 : decode cL_messages 131 = .ok (.goto (-124), 3) := by decide +kernel
theorem dL_messages_134 : decode cL_messages 134 = .ok (.aload_n 0, 1) := by decide +kernel
theorem dL_messages_135 : decode cL_messages 135 = .ok (.invokevirtual 130, 3) := by decide +kernel
theorem dL_messages_138 : decode cL_messages 138 = .ok (.istore_n 2, 1) := by decide +kernel
theorem dL_messages_139 : decode cL_messages 139 = .ok (.aload_n 0, 1) := by decide +kernel
theorem dL_messages_140 : decode cL_messages 140 = .ok (.invokevirtual 133, 3) := by decide +kernel
theorem dL_messages_143 : decode cL_messages 143 = .ok (.istore_n 3, 1) := by decide +kernel
theorem dL_messages_144 : decode cL_messages 144 = .ok (.iload_n 1, 1) := by decide +kernel
theorem dL_messages_145 : decode cL_messages 145 = .ok (.bipush 40, 2) := by decide +kernel
theorem dL_messages_147 : decode cL_messages 147 = .ok (.if_icmp .le 7, 3) := by decide +kernel
theorem dL_messages_150 : decode cL_messages 150 = .ok (.iconst 0, 1) := by decide +kernel
theorem dL_messages_151 : decode cL_messages 151 = .ok (.goto 7, 3) := by decide +kernel
theorem dL_messages_154 : decode cL_messages 154 = .ok (.aload_n 0, 1) := by decide +kernel
theorem dL_messages_155 : decode cL_messages 155 = .ok (.invokevirtual 136, 3) := by decide +kernel
theorem dL_messages_158 : decode cL_messages 158 = .ok (.istore 4, 2) := by decide +kernel
theorem dL_messages_160 : decode cL_messages 160 = .ok (.iload_n 1, 1) := by decide +kernel
theorem dL_messages_161 : decode cL_messages 161 = .ok (.ifCond .lt 131, 3) := by decide +kernel
theorem dL_messages_164 : decode cL_messages 164 = .ok (.iload_n 1, 1) := by decide +kernel
theorem dL_messages_165 : decode cL_messages 165 = .ok (.sipush 300, 3) := by decide +kernel
theorem dL_messages_168 : decode cL_messages 168 = .ok (.if_icmp .gt 124, 3) := by decide +kernel
theorem dL_messages_171 : decode cL_messages 171 = .ok (.aload_n 0, 1) := by decide +kernel
theorem dL_messages_172 : decode cL_messages 172 = .ok (.iconst 0, 1) := by decide +kernel
theorem dL_messages_173 : decode cL_messages 173 = .ok (.invokestatic 139, 3) := by decide +kernel
theorem dL_messages_176 : decode cL_messages 176 = .ok (.aload_n 0, 1) := by decide +kernel
theorem dL_messages_177 : decode cL_messages 177 = .ok (.iconst 1, 1) := by decide +kernel
theorem dL_messages_178 : decode cL_messages 178 = .ok (.invokestatic 139, 3) := by decide +kernel
theorem dL_messages_181 : decode cL_messages 181 = .ok (.aload_n 0, 1) := by decide +kernel
theorem dL_messages_182 : decode cL_messages 182 = .ok (.iconst 2, 1) := by decide +kernel
theorem dL_messages_183 : decode cL_messages 183 = .ok (.invokestatic 139, 3) := by decide +kernel
theorem dL_messages_186 : decode cL_messages 186 = .ok (.iadd, 1) := by decide +kernel
theorem dL_messages_187 : decode cL_messages 187 = .ok (.iload_n 1, 1) := by decide +kernel
theorem dL_messages_188 : decode cL_messages 188 = .ok (.iadd, 1) := by decide +kernel
theorem dL_messages_189 : decode cL_messages 189 = .ok (.if_icmp .ne 103, 3) := by decide +kernel
theorem dL_messages_192 : decode cL_messages 192 = .ok (.iload_n 2, 1) := by decide +kernel
theorem dL_messages_193 : decode cL_messages 193 = .ok (.ifCond .ne 7, 3) := by decide +kernel
theorem dL_messages_196 : decode cL_messages 196 = .ok (.iconst 1, 1) := by decide +kernel
theorem dL_messages_197 : decode cL_messages 197 = .ok (.goto 4, 3) := by decide +kernel
theorem dL_messages_200 : decode cL_messages 200 = .ok (.iconst 0, 1) := by decide +kernel
theorem dL_messages_201 : decode cL_messages 201 = .ok (.iload_n 1, 1) := by decide +kernel
theorem dL_messages_202 : decode cL_messages 202 = .ok (.ifCond .ne 7, 3) := by decide +kernel
theorem dL_messages_205 : decode cL_messages 205 = .ok (.iconst 1, 1) := by decide +kernel
theorem dL_messages_206 : decode cL_messages 206 = .ok (.goto 4, 3) := by decide +kernel
theorem dL_messages_209 : decode cL_messages 209 = .ok (.iconst 0, 1) := by decide +kernel
theorem dL_messages_210 : decode cL_messages 210 = .ok (.if_icmp .ne 82, 3) := by decide +kernel
theorem dL_messages_213 : decode cL_messages 213 = .ok (.iload_n 2, 1) := by decide +kernel
theorem dL_messages_214 : decode cL_messages 214 = .ok (.ifCond .ge 7, 3) := by decide +kernel
theorem dL_messages_217 : decode cL_messages 217 = .ok (.iconst 1, 1) := by decide +kernel
theorem dL_messages_218 : decode cL_messages 218 = .ok (.goto 4, 3) := by decide +kernel
theorem dL_messages_221 : decode cL_messages 221 = .ok (.iconst 0, 1) := by decide +kernel
theorem dL_messages_222 : decode cL_messages 222 = .ok (.iload_n 3, 1) := by decide +kernel
theorem dL_messages_223 : decode cL_messages 223 = .ok (.ifCond .ge 7, 3) := by decide +kernel
theorem dL_messages_226 : decode cL_messages 226 = .ok (.iconst 1, 1) := by decide +kernel
theorem dL_messages_227 : decode cL_messages 227 = .ok (.goto 4, 3) := by decide +kernel
theorem dL_messages_230 : decode cL_messages 230 = .ok (.iconst 0, 1) := by decide +kernel
theorem dL_messages_231 : decode cL_messages 231 = .ok (.if_icmp .ne 61, 3) := by decide +kernel
theorem dL_messages_234 : decode cL_messages 234 = .ok (.iload_n 1, 1) := by decide +kernel
theorem dL_messages_235 : decode cL_messages 235 = .ok (.ifCond .gt 17, 3) := by decide +kernel
theorem dL_messages_238 : decode cL_messages 238 = .ok (.iload_n 3, 1) := by decide +kernel
theorem dL_messages_239 : decode cL_messages 239 = .ok (.aload_n 0, 1) := by decide +kernel
theorem dL_messages_240 : decode cL_messages 240 = .ok (.invokevirtual 106, 3) := by decide +kernel
theorem dL_messages_243 : decode cL_messages 243 = .ok (.if_icmp .ne 49, 3) := by decide +kernel
theorem dL_messages_246 : decode cL_messages 246 = .ok (.iload 4, 2) := by decide +kernel
theorem dL_messages_248 : decode cL_messages 248 = .ok (.iconst (-1), 1) := by decide +kernel
theorem dL_messages_249 : decode cL_messages 249 = .ok (.if_icmp .ne 43, 3) := by decide +kernel
theorem dL_messages_252 : decode cL_messages 252 = .ok (.iload 4, 2) := by decide +kernel
theorem dL_messages_254 : decode cL_messages 254 = .ok (.iload_n 1, 1) := by decide +kernel
theorem dL_messages_255 : decode cL_messages 255 = .ok (.iload_n 1, 1) := by decide +kernel
theorem dL_messages_256 : decode cL_messages 256 = .ok (.ifCond .ne 7, 3) := by decide +kernel
theorem dL_messages_259 : decode cL_messages 259 = .ok (.iconst 1, 1) := by decide +kernel
theorem dL_messages_260 : decode cL_messages 260 = .ok (.goto 4, 3) := by decide +kernel
theorem dL_messages_263 : decode cL_messages 263 = .ok (.iconst 0, 1) := by decide +kernel
theorem dL_messages_264 : decode cL_messages 264 = .ok (.iadd, 1) := by decide +kernel
theorem dL_messages_265 : decode cL_messages 265 = .ok (.if_icmp .ge 27, 3) := by decide +kernel
theorem dL_messages_268 : decode cL_messages 268 = .ok (.aload_n 0, 1) := by decide +kernel
theorem dL_messages_269 : decode cL_messages 269 = .ok (.invokevirtual 125, 3) := by decide +kernel
theorem dL_messages_272 : decode cL_messages 272 = .ok (.iload_n 1, 1) := by decide +kernel
theorem dL_messages_273 : decode cL_messages 273 = .ok (.if_icmp .ne 19, 3) := by decide +kernel
theorem dL_messages_276 : decode cL_messages 276 = .ok (.aload_n 0, 1) := by decide +kernel
theorem dL_messages_277 : decode cL_messages 277 = .ok (.iload_n 1, 1) := by decide +kernel
theorem dL_messages_278 : decode cL_messages 278 = .ok (.iconst 0, 1) := by decide +kernel
theorem dL_messages_279 : decode cL_messages 279 = .ok (.invokestatic 128, 3) := by decide +kernel
theorem dL_messages_282 : decode cL_messages 282 = .ok (.sipush (-903), 3) := by decide +kernel
theorem dL_messages_285 : decode cL_messages 285 = .ok (.if_icmp .ne 7, 3) := by decide +kernel
theorem dL_messages_288 : decode cL_messages 288 = .ok (.iconst 1, 1) := by decide +kernel
theorem dL_messages_289 : decode cL_messages 289 = .ok (.goto 4, 3) := by decide +kernel
theorem dL_messages_292 : decode cL_messages 292 = .ok (.iconst 0, 1) := by decide +kernel
theorem dL_messages_293 : decode cL_messages 293 = .ok (.ireturn, 1) := by decide +kernel
set_option maxRecDepth 20000 in
theorem ggL_rests_X6_underWay : GoodIn wsL_rests wsX6_underWay := goodIn_r _ [5, 6, 7, 8, 215, 216, 217, 218, 219, 220, 221, 222, 223, 224, 225, 226, 227, 228] (by decide +kernel) (by decide +kernel)
set_option maxRecDepth 20000 in
theorem gL_rests_X6_underWay : GoodIn wsL_rests (wsV RL 125 RX6 yX6_underWay wsX6_underWay) := goodIn_app (goodIn_of _ (by decide +kernel)) ggL_rests_X6_underWay
set_option maxRecDepth 20000 in
theorem ggL_rests_X6_untilRest : GoodIn wsL_rests wsX6_untilRest := goodIn_r _ [12, 13, 6, 7, 8, 14, 15, 16, 17, 18, 19, 20, 21, 22, 23, 24, 25, 26, 27, 28, 29, 30, 31, 32, 33, 34, 35, 36, 37, 38, 39, 40, 41, 42, 43, 44, 45, 46, 47, 48, 49, 50, 51, 52, 53, 54, 55, 56, 57, 58, 59, 60, 61, 62, 63, 64, 65, 66, 67, 68, 69, 70, 71, 72, 73, 74, 75, 76, 77, 78, 79, 80, 81, 82, 83, 84, 85, 86, 87, 88, 89, 90, 91, 92, 93, 94, 95, 96, 97, 98, 99, 100, 101, 102, 103, 104, 105, 106, 107, 108, 109, 110, 111, 112, 113, 114, 115, 116, 117, 118, 119, 120, 121, 122, 123, 124, 125, 126, 127, 128, 129, 130, 131, 132, 133, 134, 135, 136, 137, 138, 139, 140, 141, 142, 143, 144, 145, 146, 147, 148, 149, 215, 216, 217, 218, 219, 220, 221, 222, 223, 224, 225, 226, 227, 228, 229, 230, 231, 232, 233, 234, 235] (by decide +kernel) (by decide +kernel)
set_option maxRecDepth 20000 in
theorem gL_rests_X6_untilRest : GoodIn wsL_rests (wsV RL 130 RX6 yX6_untilRest wsX6_untilRest) := goodIn_app (goodIn_of _ (by decide +kernel)) ggL_rests_X6_untilRest
set_option maxRecDepth 20000 in
theorem ggL_rests_X6_agreeingAtRest : GoodIn wsL_rests wsX6_agreeingAtRest := goodIn_r _ [153, 13, 6, 14, 15, 16, 17, 18, 19, 20, 21, 22, 23, 24, 25, 26, 27, 28, 29, 30, 31, 32, 33, 34, 35, 36, 37, 38, 39, 40, 41, 42, 43, 44, 45, 46, 47, 48, 49, 50, 51, 52, 53, 54, 55, 56, 57, 58, 59, 60, 61, 62, 154, 155, 156, 157, 67, 158, 64, 65, 66, 68, 69, 70, 71, 72, 73, 74, 75, 76, 77, 78, 79, 80, 81, 82, 83, 84, 85, 86, 87, 88, 89, 90, 91, 92, 93, 94, 95, 96, 97, 98, 99, 100, 101, 102, 103, 104, 105, 106, 107, 108, 109, 110, 111, 112, 113, 114, 115, 116, 117, 118, 119, 120, 121, 122, 123, 124, 125, 126, 127, 128, 129, 130, 131, 132, 133, 134, 135, 136, 137, 138, 139, 140, 141, 142, 143, 144, 145, 146, 147, 148, 149, 159, 160, 161, 162, 163, 164, 165, 166, 215, 216, 217, 218, 219, 220, 221, 222, 223, 224, 229, 230, 231, 232, 233, 234, 235, 225, 226, 227, 228] (by decide +kernel) (by decide +kernel)
set_option maxRecDepth 20000 in
theorem gL_rests_X6_agreeingAtRest : GoodIn wsL_rests (wsV RL 133 RX6 yX6_agreeingAtRest wsX6_agreeingAtRest) := goodIn_app (goodIn_of _ (by decide +kernel)) ggL_rests_X6_agreeingAtRest
set_option maxRecDepth 20000 in
theorem ggL_rests_L_count : GoodIn wsL_rests wsL_count := goodIn_ca (goodIn_r _ [170, 171, 172, 173, 174, 4, 175, 6, 7, 176, 177, 178, 179, 180, 181, 215, 216, 217, 218, 219, 220, 221, 222, 223, 224, 225, 226, 227, 228] (by decide +kernel) (by decide +kernel)) (goodIn_sub (fun _ h => List.mem_cons_of_mem _ (List.mem_append_left _ (List.mem_append_right _ h))) (by decide +kernel))
set_option maxRecDepth 20000 in
theorem gL_rests_L_count : GoodIn wsL_rests (va_wsS RL 139 yL_count wsL_count) := goodIn_app (goodIn_of _ (by decide +kernel)) ggL_rests_L_count
set_option maxRecDepth 20000 in
theorem ggL_rests_L_deliver : GoodIn wsL_rests wsL_deliver := goodIn_ca (goodIn_r _ [184, 171, 185, 186, 187, 4, 188, 180, 181, 6, 189, 190, 191, 192, 193, 194, 195, 196, 197, 198, 14, 15, 16, 17, 18, 19, 20, 21, 22, 23, 24, 25, 26, 27, 28, 29, 30, 31, 32, 33, 34, 35, 36, 37, 38, 39, 40, 41, 42, 43, 44, 45, 46, 47, 48, 49, 50, 51, 52, 53, 54, 55, 56, 57, 58, 59, 60, 61, 62, 63, 64, 65, 66, 67, 68, 69, 70, 71, 72, 73, 74, 75, 76, 77, 78, 79, 80, 81, 82, 83, 84, 85, 86, 87, 88, 89, 90, 91, 92, 93, 94, 95, 96, 97, 98, 99, 100, 101, 102, 103, 104, 105, 106, 107, 108, 109, 110, 111, 112, 113, 114, 115, 116, 117, 118, 119, 120, 121, 122, 123, 124, 125, 126, 127, 128, 129, 130, 131, 132, 133, 134, 135, 136, 137, 138, 139, 140, 141, 142, 143, 144, 145, 146, 147, 148, 149, 215, 216, 217, 218, 219, 220, 221, 222, 223, 224, 229, 230, 231, 232, 233, 234, 235, 225, 226, 227, 228] (by decide +kernel) (by decide +kernel)) (goodIn_sub (fun _ h => List.mem_cons_of_mem _ (List.mem_append_left _ (List.mem_append_right _ h))) (by decide +kernel))
set_option maxRecDepth 20000 in
theorem gL_rests_L_deliver : GoodIn wsL_rests (va_wsS RL 141 yL_deliver wsL_deliver) := goodIn_app (goodIn_of _ (by decide +kernel)) ggL_rests_L_deliver
set_option maxRecDepth 20000 in
theorem ggL_rests_X6_agreeing : GoodIn wsL_rests wsX6_agreeing := goodIn_r _ [202, 6, 203, 204, 160, 161, 40, 162, 163, 164, 165, 166, 42, 215, 216, 217, 218, 219, 220, 221, 222, 223, 224, 232, 233, 234] (by decide +kernel) (by decide +kernel)
set_option maxRecDepth 20000 in
theorem gL_rests_X6_agreeing : GoodIn wsL_rests (wsV RL 106 RX6 yX6_agreeing wsX6_agreeing) := goodIn_app (goodIn_of _ (by decide +kernel)) ggL_rests_X6_agreeing
set_option maxRecDepth 20000 in
theorem ggL_rests_L_undo : GoodIn wsL_rests wsL_undo := goodIn_ca (goodIn_r _ [207, 208, 209, 210, 211, 4, 212, 213, 214, 193, 6, 194, 14, 15, 16, 17, 18, 19, 20, 21, 22, 23, 24, 25, 26, 27, 28, 29, 30, 31, 32, 33, 34, 35, 36, 37, 38, 39, 40, 41, 42, 43, 44, 45, 46, 47, 48, 49, 50, 51, 52, 53, 54, 55, 56, 57, 58, 59, 60, 61, 62, 215, 216, 217, 218, 219, 220, 221, 222, 223, 224, 229, 230, 231, 232, 233, 234, 235, 225, 226, 227, 228] (by decide +kernel) (by decide +kernel)) (goodIn_sub (fun _ h => List.mem_cons_of_mem _ (List.mem_append_right _ h)) (by decide +kernel))
set_option maxRecDepth 20000 in
theorem gL_rests_L_undo : GoodIn wsL_rests (va_wsS RL 143 yL_undo wsL_undo) := goodIn_app (goodIn_of _ (by decide +kernel)) ggL_rests_L_undo
theorem dL_rests_0 : decode cL_rests 0 = .ok (.aload_n 0, 1) := by decide +kernel
theorem dL_rests_1 : decode cL_rests 1 = .ok (.invokevirtual 125, 3) := by decide +kernel
theorem dL_rests_4 : decode cL_rests 4 = .ok (.istore_n 1, 1) := by decide +kernel
theorem dL_rests_5 : decode cL_rests 5 = .ok (.aload_n 0, 1) := by decide +kernel
theorem dL_rests_6 : decode cL_rests 6 = .ok (.invokevirtual 130, 3) := by decide +kernel
theorem dL_rests_9 : decode cL_rests 9 = .ok (.istore_n 2, 1) := by decide +kernel
theorem dL_rests_10 : decode cL_rests 10 = .ok (.aload_n 0, 1) := by decide +kernel
theorem dL_rests_11 : decode cL_rests 11 = .ok (.invokevirtual 133, 3) := by decide +kernel
theorem dL_rests_14 : decode cL_rests 14 = .ok (.istore_n 3, 1) := by decide +kernel
theorem dL_rests_15 : decode cL_rests 15 = .ok (.aload_n 0, 1) := by decide +kernel
theorem dL_rests_16 : decode cL_rests 16 = .ok (.iconst 1, 1) := by decide +kernel
theorem dL_rests_17 : decode cL_rests 17 = .ok (.invokestatic 139, 3) := by decide +kernel
theorem dL_rests_20 : decode cL_rests 20 = .ok (.istore 4, 2) := by decide +kernel
theorem dL_rests_22 : decode cL_rests 22 = .ok (.aload_n 0, 1) := by decide +kernel
theorem dL_rests_23 : decode cL_rests 23 = .ok (.sipush 1000, 3) := by decide +kernel
theorem dL_rests_26 : decode cL_rests 26 = .ok (.invokestatic 141, 3) := by decide +kernel
theorem dL_rests_29 : decode cL_rests 29 = .ok (.istore 5, 2) := by decide +kernel
theorem dL_rests_31 : decode cL_rests 31 = .ok (.iload_n 2, 1) := by decide +kernel
theorem dL_rests_32 : decode cL_rests 32 = .ok (.ifCond .lt 24, 3) := by decide +kernel
theorem dL_rests_35 : decode cL_rests 35 = .ok (.iload 5, 2) := by decide +kernel
theorem dL_rests_37 : decode cL_rests 37 = .ok (.iload_n 2, 1) := by decide +kernel
theorem dL_rests_38 : decode cL_rests 38 = .ok (.if_icmp .ne 43, 3) := by decide +kernel
theorem dL_rests_41 : decode cL_rests 41 = .ok (.aload_n 0, 1) := by decide +kernel
theorem dL_rests_42 : decode cL_rests 42 = .ok (.invokevirtual 125, 3) := by decide +kernel
theorem dL_rests_45 : decode cL_rests 45 = .ok (.ifCond .ne 36, 3) := by decide +kernel
theorem dL_rests_48 : decode cL_rests 48 = .ok (.aload_n 0, 1) := by decide +kernel
theorem dL_rests_49 : decode cL_rests 49 = .ok (.invokevirtual 106, 3) := by decide +kernel
theorem dL_rests_52 : decode cL_rests 52 = .ok (.iload_n 3, 1) := by decide +kernel
theorem dL_rests_53 : decode cL_rests 53 = .ok (.if_icmp .ne 28, 3) := by decide +kernel
theorem dL_rests_56 : decode cL_rests 56 = .ok (.iload_n 2, 1) := by decide +kernel
theorem dL_rests_57 : decode cL_rests 57 = .ok (.ifCond .ge 11, 3) := by decide +kernel
theorem dL_rests_60 : decode cL_rests 60 = .ok (.iload 5, 2) := by decide +kernel
theorem dL_rests_62 : decode cL_rests 62 = .ok (.sipush 1000, 3) := by decide +kernel

theorem dL_rosters_177 : decode cL_rosters 177 = .ok (.iload_n 3, 1) := by decide +kernel
theorem dL_rosters_178 : decode cL_rosters 178 = .ok (.iload 8, 2) := by decide +kernel
theorem dL_rosters_180 : decode cL_rosters 180 = .ok (.invokestatic 102, 3) := by decide +kernel
theorem dL_rosters_183 : decode cL_rosters 183 = .ok (.aload_n 0, 1) := by decide +kernel
theorem dL_rosters_184 : decode cL_rosters 184 = .ok (.iload 8, 2) := by decide +kernel
theorem dL_rosters_186 : decode cL_rosters 186 = .ok (.iload_n 3, 1) := by decide +kernel
theorem dL_rosters_187 : decode cL_rosters 187 = .ok (.invokestatic 102, 3) := by decide +kernel
theorem dL_rosters_190 : decode cL_rosters 190 = .ok (.if_icmp .eq 5, 3) := by decide +kernel
theorem dL_rosters_193 : decode cL_rosters 193 = .ok (.iconst 0, 1) := by decide +kernel
theorem dL_rosters_194 : decode cL_rosters 194 = .ok (.ireturn, 1) := by decide +kernel
theorem dL_rosters_195 : decode cL_rosters 195 = .ok (.iload_n 2, 1) := by decide +kernel
theorem dL_rosters_196 : decode cL_rosters 196 = .ok (.iload_n 3, 1) := by decide +kernel
theorem dL_rosters_197 : decode cL_rosters 197 = .ok (.iload 8, 2) := by decide +kernel
theorem dL_rosters_199 : decode cL_rosters 199 = .ok (.if_icmp .ge 13, 3) := by decide +kernel
theorem dL_rosters_202 : decode cL_rosters 202 = .ok (.aload_n 0, 1) := by decide +kernel
theorem dL_rosters_203 : decode cL_rosters 203 = .ok (.iload_n 3, 1) := by decide +kernel
theorem dL_rosters_204 : decode cL_rosters 204 = .ok (.iload 8, 2) := by decide +kernel
theorem dL_rosters_206 : decode cL_rosters 206 = .ok (.invokestatic 100, 3) := by decide +kernel
theorem dL_rosters_209 : decode cL_rosters 209 = .ok (.goto 4, 3) := by decide +kernel
theorem dL_rosters_212 : decode cL_rosters 212 = .ok (.iconst 0, 1) := by decide +kernel
theorem dL_rosters_213 : decode cL_rosters 213 = .ok (.iadd, 1) := by decide +kernel
theorem dL_rosters_214 : decode cL_rosters 214 = .ok (.istore_n 2, 1) := by decide +kernel
theorem dL_rosters_215 : decode cL_rosters 215 = .ok (.iinc 8 1, 3) := by decide +kernel
theorem dL_rosters_218 : decode cL_rosters 218 = .ok (.goto (-181), 3) := by decide +kernel
theorem dL_rosters_221 : decode cL_rosters 221 = .ok (.iload 7, 2) := by decide +kernel
theorem dL_rosters_223 : decode cL_rosters 223 = .ok (.ifCond .eq 25, 3) := by decide +kernel
theorem dL_rosters_226 : decode cL_rosters 226 = .ok (.aload_n 0, 1) := by decide +kernel
theorem dL_rosters_227 : decode cL_rosters 227 = .ok (.iload_n 3, 1) := by decide +kernel
theorem dL_rosters_228 : decode cL_rosters 228 = .ok (.iload 5, 2) := by decide +kernel
theorem dL_rosters_230 : decode cL_rosters 230 = .ok (.invokestatic 104, 3) := by decide +kernel
theorem dL_rosters_233 : decode cL_rosters 233 = .ok (.iload 6, 2) := by decide +kernel
theorem dL_rosters_235 : decode cL_rosters 235 = .ok (.if_icmp .ne 13, 3) := by decide +kernel
theorem dL_rosters_238 : decode cL_rosters 238 = .ok (.aload_n 0, 1) := by decide +kernel
theorem dL_rosters_239 : decode cL_rosters 239 = .ok (.iload_n 3, 1) := by decide +kernel
theorem dL_rosters_240 : decode cL_rosters 240 = .ok (.iload 4, 2) := by decide +kernel
theorem dL_rosters_242 : decode cL_rosters 242 = .ok (.invokestatic 104, 3) := by decide +kernel
theorem dL_rosters_245 : decode cL_rosters 245 = .ok (.ifCond .eq 5, 3) := by decide +kernel
theorem dL_rosters_248 : decode cL_rosters 248 = .ok (.iconst 0, 1) := by decide +kernel
theorem dL_rosters_249 : decode cL_rosters 249 = .ok (.ireturn, 1) := by decide +kernel
theorem dL_rosters_250 : decode cL_rosters 250 = .ok (.iinc 3 1, 3) := by decide +kernel
theorem dL_rosters_253 : decode cL_rosters 253 = .ok (.goto (-249), 3) := by decide +kernel
theorem dL_rosters_256 : decode cL_rosters 256 = .ok (.iload_n 2, 1) := by decide +kernel
theorem dL_rosters_257 : decode cL_rosters 257 = .ok (.aload_n 0, 1) := by decide +kernel
theorem dL_rosters_258 : decode cL_rosters 258 = .ok (.invokevirtual 106, 3) := by decide +kernel
theorem dL_rosters_261 : decode cL_rosters 261 = .ok (.if_icmp .ne 7, 3) := by decide +kernel
theorem dL_rosters_264 : decode cL_rosters 264 = .ok (.iconst 1, 1) := by decide +kernel
theorem dL_rosters_265 : decode cL_rosters 265 = .ok (.goto 4, 3) := by decide +kernel
theorem dL_rosters_268 : decode cL_rosters 268 = .ok (.iconst 0, 1) := by decide +kernel
theorem dL_rosters_269 : decode cL_rosters 269 = .ok (.ireturn, 1) := by decide +kernel
set_option maxRecDepth 20000 in
theorem ggL_views_L_seat : GoodIn wsL_views wsL_seat := goodIn_ca (goodIn_ca (goodIn_r _ [5, 6, 7, 8, 9, 10, 11, 12, 13, 14, 15, 16, 17, 18, 19, 20, 21, 22, 23, 24, 25, 26, 27, 28, 29, 30, 31, 32, 33, 34, 35, 121, 122, 123, 124, 125, 126, 127, 128, 129, 130, 131, 132, 133] (by decide +kernel) (by decide +kernel)) (goodIn_sub (fun _ h => List.mem_cons_of_mem _ (List.mem_append_left _ (List.mem_append_right _ h))) (by decide +kernel))) (goodIn_sub (fun _ h => List.mem_cons_of_mem _ (List.mem_append_right _ h)) (by decide +kernel))
set_option maxRecDepth 20000 in
theorem gL_views_L_seat : GoodIn wsL_views (va_wsS RL 109 yL_seat wsL_seat) := goodIn_app (goodIn_of _ (by decide +kernel)) ggL_views_L_seat
set_option maxRecDepth 20000 in
theorem ggL_views_L_bestSeat : GoodIn wsL_views wsL_bestSeat := goodIn_ca (goodIn_r _ [38, 6, 39, 40, 41, 11, 42, 13, 14, 20, 21, 22, 18, 19, 43, 44, 45, 31, 46, 34, 47, 48, 49, 50, 33, 121, 122, 123, 124, 125, 126, 127, 128, 129, 130, 131, 132, 133] (by decide +kernel) (by decide +kernel)) (goodIn_sub (fun _ h => List.mem_cons_of_mem _ (List.mem_append_left _ (List.mem_append_right _ h))) (by decide +kernel))
set_option maxRecDepth 20000 in
theorem gL_views_L_bestSeat : GoodIn wsL_views (va_wsS RL 112 yL_bestSeat wsL_bestSeat) := goodIn_app (goodIn_of _ (by decide +kernel)) ggL_views_L_bestSeat
set_option maxRecDepth 20000 in
theorem ggL_views_L_wrongViews : GoodIn wsL_views wsL_wrongViews := goodIn_ca (goodIn_r _ [53, 6, 54, 55, 56, 11, 57, 13, 20, 21, 22, 18, 19, 58, 59, 60, 61, 62, 63, 64, 65, 66, 67, 68, 31, 69, 70, 71, 72, 73, 33, 74, 75, 76, 77, 78, 79, 80, 81, 82, 83, 84, 85, 86, 87, 88, 89, 90, 48, 49, 50, 91, 92, 93, 94, 35, 121, 122, 123, 124, 125, 126, 127, 128, 129, 130, 131, 132, 133, 134, 135, 136, 137] (by decide +kernel) (by decide +kernel)) (goodIn_sub (fun _ h => List.mem_cons_of_mem _ (List.mem_append_left _ (List.mem_append_right _ h))) (by decide +kernel))
set_option maxRecDepth 20000 in
theorem gL_views_L_wrongViews : GoodIn wsL_views (va_wsS RL 115 yL_wrongViews wsL_wrongViews) := goodIn_app (goodIn_of _ (by decide +kernel)) ggL_views_L_wrongViews
set_option maxRecDepth 20000 in
theorem ggL_views_L_view : GoodIn wsL_views wsL_view := goodIn_ca (goodIn_ca (goodIn_r _ [97, 6, 7, 98, 99, 100, 11, 101, 13, 102, 15, 16, 17, 18, 19, 20, 21, 22, 103, 104, 105, 26, 27, 106, 81, 82, 83, 84, 85, 121, 122, 123, 124, 125, 126, 127, 128, 129, 130, 137] (by decide +kernel) (by decide +kernel)) (goodIn_sub (fun _ h => List.mem_cons_of_mem _ (List.mem_append_left _ (List.mem_append_right _ h))) (by decide +kernel))) (goodIn_sub (fun _ h => List.mem_cons_of_mem _ (List.mem_append_right _ h)) (by decide +kernel))
set_option maxRecDepth 20000 in
theorem gL_views_L_view : GoodIn wsL_views (va_wsS RL 117 yL_view wsL_view) := goodIn_app (goodIn_of _ (by decide +kernel)) ggL_views_L_view
set_option maxRecDepth 20000 in
theorem ggL_views_X6_visible : GoodIn wsL_views wsX6_visible := goodIn_r _ [110, 13, 102, 111, 112, 113, 114, 83, 115, 116, 117, 118, 119, 120, 81, 82, 84, 85, 121, 122, 123, 124, 125, 126, 127, 128, 129, 130, 137] (by decide +kernel) (by decide +kernel)
set_option maxRecDepth 20000 in
theorem gL_views_X6_visible : GoodIn wsL_views (wsV RL 119 RX6 yX6_visible wsX6_visible) := goodIn_app (goodIn_of _ (by decide +kernel)) ggL_views_X6_visible
theorem dL_views_0 : decode cL_views 0 = .ok (.iconst 0, 1) := by decide +kernel
theorem dL_views_1 : decode cL_views 1 = .ok (.istore_n 1, 1) := by decide +kernel
theorem dL_views_2 : decode cL_views 2 = .ok (.iconst 0, 1) := by decide +kernel
theorem dL_views_3 : decode cL_views 3 = .ok (.istore_n 2, 1) := by decide +kernel
theorem dL_views_4 : decode cL_views 4 = .ok (.iload_n 2, 1) := by decide +kernel
theorem dL_views_5 : decode cL_views 5 = .ok (.bipush 6, 2) := by decide +kernel
theorem dL_views_7 : decode cL_views 7 = .ok (.if_icmp .ge 206, 3) := by decide +kernel
theorem dL_views_10 : decode cL_views 10 = .ok (.aload_n 0, 1) := by decide +kernel
theorem dL_views_11 : decode cL_views 11 = .ok (.iload_n 2, 1) := by decide +kernel
theorem dL_views_12 : decode cL_views 12 = .ok (.iconst 0, 1) := by decide +kernel
theorem dL_views_13 : decode cL_views 13 = .ok (.iconst 0, 1) := by decide +kernel
theorem dL_views_14 : decode cL_views 14 = .ok (.invokestatic 109, 3) := by decide +kernel
theorem dL_views_17 : decode cL_views 17 = .ok (.aload_n 0, 1) := by decide +kernel
theorem dL_views_18 : decode cL_views 18 = .ok (.iload_n 2, 1) := by decide +kernel
theorem dL_views_19 : decode cL_views 19 = .ok (.iconst 1, 1) := by decide +kernel
theorem dL_views_20 : decode cL_views 20 = .ok (.iconst 0, 1) := by decide +kernel
theorem dL_views_21 : decode cL_views 21 = .ok (.invokestatic 109, 3) := by decide +kernel
theorem dL_views_24 : decode cL_views 24 = .ok (.iadd, 1) := by decide +kernel
theorem dL_views_25 : decode cL_views 25 = .ok (.aload_n 0, 1) := by decide +kernel
theorem dL_views_26 : decode cL_views 26 = .ok (.iload_n 2, 1) := by decide +kernel
theorem dL_views_27 : decode cL_views 27 = .ok (.iconst 2, 1) := by decide +kernel
theorem dL_views_28 : decode cL_views 28 = .ok (.iconst 0, 1) := by decide +kernel
theorem dL_views_29 : decode cL_views 29 = .ok (.invokestatic 109, 3) := by decide +kernel
theorem dL_views_32 : decode cL_views 32 = .ok (.iadd, 1) := by decide +kernel
theorem dL_views_33 : decode cL_views 33 = .ok (.istore_n 3, 1) := by decide +kernel
theorem dL_views_34 : decode cL_views 34 = .ok (.aload_n 0, 1) := by decide +kernel
theorem dL_views_35 : decode cL_views 35 = .ok (.iload_n 2, 1) := by decide +kernel
theorem dL_views_36 : decode cL_views 36 = .ok (.invokestatic 112, 3) := by decide +kernel
theorem dL_views_39 : decode cL_views 39 = .ok (.istore 4, 2) := by decide +kernel
theorem dL_views_41 : decode cL_views 41 = .ok (.iload 4, 2) := by decide +kernel
theorem dL_views_43 : decode cL_views 43 = .ok (.iconst (-1), 1) := by decide +kernel
theorem dL_views_44 : decode cL_views 44 = .ok (.if_icmp .lt 57, 3) := by decide +kernel
theorem dL_views_47 : decode cL_views 47 = .ok (.iload 4, 2) := by decide +kernel
theorem dL_views_49 : decode cL_views 49 = .ok (.iconst 2, 1) := by decide +kernel
theorem dL_views_50 : decode cL_views 50 = .ok (.if_icmp .gt 51, 3) := by decide +kernel
theorem dL_views_53 : decode cL_views 53 = .ok (.iload 4, 2) := by decide +kernel
theorem dL_views_55 : decode cL_views 55 = .ok (.ifCond .lt 26, 3) := by decide +kernel
theorem dL_views_58 : decode cL_views 58 = .ok (.aload_n 0, 1) := by decide +kernel
theorem dL_views_59 : decode cL_views 59 = .ok (.iload_n 2, 1) := by decide +kernel
theorem dL_views_60 : decode cL_views 60 = .ok (.iload 4, 2) := by decide +kernel
theorem dL_views_62 : decode cL_views 62 = .ok (.iconst 0, 1) := by decide +kernel
theorem dL_views_63 : decode cL_views 63 = .ok (.invokestatic 109, 3) := by decide +kernel
theorem dL_views_66 : decode cL_views 66 = .ok (.iconst 1, 1) := by decide +kernel
theorem dL_views_67 : decode cL_views 67 = .ok (.if_icmp .ne 34, 3) := by decide +kernel
theorem dL_views_70 : decode cL_views 70 = .ok (.aload_n 0, 1) := by decide +kernel
theorem dL_views_71 : decode cL_views 71 = .ok (.iload_n 2, 1) := by decide +kernel
theorem dL_views_72 : decode cL_views 72 = .ok (.iload 4, 2) := by decide +kernel
theorem dL_views_74 : decode cL_views 74 = .ok (.iconst 1, 1) := by decide +kernel
theorem dL_views_75 : decode cL_views 75 = .ok (.invokestatic 109, 3) := by decide +kernel
theorem dL_views_78 : decode cL_views 78 = .ok (.ifCond .lt 23, 3) := by decide +kernel
theorem dL_views_81 : decode cL_views 81 = .ok (.iload_n 3, 1) := by decide +kernel
theorem dL_views_82 : decode cL_views 82 = .ok (.ifCond .ne 11, 3) := by decide +kernel
theorem dL_views_85 : decode cL_views 85 = .ok (.aload_n 0, 1) := by decide +kernel
theorem dL_views_86 : decode cL_views 86 = .ok (.iload_n 2, 1) := by decide +kernel
theorem dL_views_87 : decode cL_views 87 = .ok (.invokestatic 115, 3) := by decide +kernel
theorem dL_views_90 : decode cL_views 90 = .ok (.ifCond .ne 11, 3) := by decide +kernel
theorem dL_views_93 : decode cL_views 93 = .ok (.aload_n 0, 1) := by decide +kernel
theorem dL_views_94 : decode cL_views 94 = .ok (.iload_n 2, 1) := by decide +kernel
theorem dL_views_95 : decode cL_views 95 = .ok (.invokestatic 115, 3) := by decide +kernel
theorem dL_views_98 : decode cL_views 98 = .ok (.ifCond .ge 5, 3) := by decide +kernel
theorem dL_views_101 : decode cL_views 101 = .ok (.iconst 0, 1) := by decide +kernel
theorem dL_views_102 : decode cL_views 102 = .ok (.ireturn, 1) := by decide +kernel
theorem dL_views_103 : decode cL_views 103 = .ok (.iconst 0, 1) := by decide +kernel
theorem dL_views_104 : decode cL_views 104 = .ok (.istore 5, 2) := by decide +kernel
theorem dL_views_106 : decode cL_views 106 = .ok (.iload 5, 2) := by decide +kernel
theorem dL_views_108 : decode cL_views 108 = .ok (.bipush 6, 2) := by decide +kernel
theorem dL_views_110 : decode cL_views 110 = .ok (.if_icmp .ge 97, 3) := by decide +kernel
theorem dL_views_113 : decode cL_views 113 = .ok (.iconst 0, 1) := by decide +kernel
theorem dL_views_114 : decode cL_views 114 = .ok (.istore 6, 2) := by decide +kernel
theorem dL_views_116 : decode cL_views 116 = .ok (.iconst 0, 1) := by decide +kernel
theorem dL_views_117 : decode cL_views 117 = .ok (.istore 7, 2) := by decide +kernel
theorem dL_views_119 : decode cL_views 119 = .ok (.iload 7, 2) := by decide +kernel
theorem dL_views_121 : decode cL_views 121 = .ok (.iconst 3, 1) := by decide +kernel
theorem dL_views_122 : decode cL_views 122 = .ok (.if_icmp .ge 66, 3) := by decide +kernel
theorem dL_views_125 : decode cL_views 125 = .ok (.iload_n 2, 1) := by decide +kernel
theorem dL_views_126 : decode cL_views 126 = .ok (.iload 5, 2) := by decide +kernel
theorem dL_views_128 : decode cL_views 128 = .ok (.if_icmp .eq 60, 3) := by decide +kernel
theorem dL_views_131 : decode cL_views 131 = .ok (.aload_n 0, 1) := by decide +kernel
theorem dL_views_132 : decode cL_views 132 = .ok (.iload_n 2, 1) := by decide +kernel
theorem dL_views_133 : decode cL_views 133 = .ok (.iload 5, 2) := by decide +kernel
theorem dL_views_135 : decode cL_views 135 = .ok (.iload 7, 2) := by decide +kernel
theorem dL_views_137 : decode cL_views 137 = .ok (.invokestatic 117, 3) := by decide +kernel
theorem dL_views_140 : decode cL_views 140 = .ok (.istore 8, 2) := by decide +kernel
theorem dL_views_142 : decode cL_views 142 = .ok (.iload 6, 2) := by decide +kernel
theorem dL_views_144 : decode cL_views 144 = .ok (.ifCond .ne 8, 3) := by decide +kernel
theorem dL_views_147 : decode cL_views 147 = .ok (.iload 8, 2) := by decide +kernel
theorem dL_views_149 : decode cL_views 149 = .ok (.ifCond .lt 7, 3) := by decide +kernel
theorem dL_views_152 : decode cL_views 152 = .ok (.iconst 1, 1) := by decide +kernel
theorem dL_views_153 : decode cL_views 153 = .ok (.goto 4, 3) := by decide +kernel
theorem dL_views_156 : decode cL_views 156 = .ok (.iconst 0, 1) := by decide +kernel
theorem dL_views_157 : decode cL_views 157 = .ok (.istore 6, 2) := by decide +kernel
theorem dL_views_159 : decode cL_views 159 = .ok (.iload 8, 2) := by decide +kernel
theorem dL_views_161 : decode cL_views 161 = .ok (.iconst (-1), 1) := by decide +kernel
theorem dL_views_162 : decode cL_views 162 = .ok (.if_icmp .lt 18, 3) := by decide +kernel
theorem dL_views_165 : decode cL_views 165 = .ok (.iload 8, 2) := by decide +kernel
theorem dL_views_167 : decode cL_views 167 = .ok (.iconst 4, 1) := by decide +kernel
theorem dL_views_168 : decode cL_views 168 = .ok (.if_icmp .gt 12, 3) := by decide +kernel
theorem dL_views_171 : decode cL_views 171 = .ok (.iload_n 3, 1) := by decide +kernel
theorem dL_views_172 : decode cL_views 172 = .ok (.ifCond .ne 10, 3) := by decide +kernel
theorem dL_views_175 : decode cL_views 175 = .ok (.iload 8, 2) := by decide +kernel
theorem dL_views_177 : decode cL_views 177 = .ok (.ifCond .lt 5, 3) := by decide +kernel
theorem dL_views_180 : decode cL_views 180 = .ok (.iconst 0, 1) := by decide +kernel
theorem dL_views_181 : decode cL_views 181 = .ok (.ireturn, 1) := by decide +kernel
theorem dL_views_182 : decode cL_views 182 = .ok (.iinc 7 1, 3) := by decide +kernel
theorem dL_views_185 : decode cL_views 185 = .ok (.goto (-66), 3) := by decide +kernel
theorem dL_views_188 : decode cL_views 188 = .ok (.iload_n 1, 1) := by decide +kernel
theorem dL_views_189 : decode cL_views 189 = .ok (.iload 6, 2) := by decide +kernel
theorem dL_views_191 : decode cL_views 191 = .ok (.ifCond .eq 7, 3) := by decide +kernel
theorem dL_views_194 : decode cL_views 194 = .ok (.iconst 1, 1) := by decide +kernel
theorem dL_views_195 : decode cL_views 195 = .ok (.goto 4, 3) := by decide +kernel
theorem dL_views_198 : decode cL_views 198 = .ok (.iconst 0, 1) := by decide +kernel
theorem dL_views_199 : decode cL_views 199 = .ok (.iadd, 1) := by decide +kernel
theorem dL_views_200 : decode cL_views 200 = .ok (.istore_n 1, 1) := by decide +kernel
theorem dL_views_201 : decode cL_views 201 = .ok (.iinc 5 1, 3) := by decide +kernel
theorem dL_views_204 : decode cL_views 204 = .ok (.goto (-98), 3) := by decide +kernel
theorem dL_views_207 : decode cL_views 207 = .ok (.iinc 2 1, 3) := by decide +kernel
theorem dL_views_210 : decode cL_views 210 = .ok (.goto (-206), 3) := by decide +kernel
theorem dL_views_213 : decode cL_views 213 = .ok (.aload_n 0, 1) := by decide +kernel
theorem dL_views_214 : decode cL_views 214 = .ok (.invokevirtual 119, 3) := by decide +kernel
theorem dL_views_217 : decode cL_views 217 = .ok (.iload_n 1, 1) := by decide +kernel
theorem dL_views_218 : decode cL_views 218 = .ok (.i2d, 1) := by decide +kernel
theorem dL_views_219 : decode cL_views 219 = .ok (.ldc2_w 123, 3) := by decide +kernel
theorem dL_views_222 : decode cL_views 222 = .ok (.ddiv, 1) := by decide +kernel
theorem dL_views_223 : decode cL_views 223 = .ok (.dcmp .l, 1) := by decide +kernel
theorem dL_views_224 : decode cL_views 224 = .ok (.ifCond .ne 25, 3) := by decide +kernel
theorem dL_views_227 : decode cL_views 227 = .ok (.aload_n 0, 1) := by decide +kernel
theorem dL_views_228 : decode cL_views 228 = .ok (.invokevirtual 119, 3) := by decide +kernel
theorem dL_views_231 : decode cL_views 231 = .ok (.dconst 0, 1) := by decide +kernel
theorem dL_views_232 : decode cL_views 232 = .ok (.dcmp .l, 1) := by decide +kernel
theorem dL_views_233 : decode cL_views 233 = .ok (.ifCond .lt 16, 3) := by decide +kernel
theorem dL_views_236 : decode cL_views 236 = .ok (.aload_n 0, 1) := by decide +kernel
theorem dL_views_237 : decode cL_views 237 = .ok (.invokevirtual 119, 3) := by decide +kernel
theorem dL_views_240 : decode cL_views 240 = .ok (.dconst 1, 1) := by decide +kernel
theorem dL_views_241 : decode cL_views 241 = .ok (.dcmp .g, 1) := by decide +kernel
theorem dL_views_242 : decode cL_views 242 = .ok (.ifCond .gt 7, 3) := by decide +kernel
theorem dL_views_245 : decode cL_views 245 = .ok (.iconst 1, 1) := by decide +kernel
theorem dL_views_246 : decode cL_views 246 = .ok (.goto 4, 3) := by decide +kernel
theorem dL_views_249 : decode cL_views 249 = .ok (.iconst 0, 1) := by decide +kernel
theorem dL_views_250 : decode cL_views 250 = .ok (.ireturn, 1) := by decide +kernel
set_option maxRecDepth 20000 in
theorem ggL_messages_X6_underWay : GoodIn wsL_messages wsX6_underWay := goodIn_r _ [5, 6, 7, 8, 217, 218, 219, 220, 221, 222, 223, 224, 225, 226, 227, 228, 229, 230] (by decide +kernel) (by decide +kernel)
set_option maxRecDepth 20000 in
theorem gL_messages_X6_underWay : GoodIn wsL_messages (wsV RL 125 RX6 yX6_underWay wsX6_underWay) := goodIn_app (goodIn_of _ (by decide +kernel)) ggL_messages_X6_underWay
set_option maxRecDepth 20000 in
theorem ggL_messages_L_message : GoodIn wsL_messages wsL_message := goodIn_ca (goodIn_ca (goodIn_r _ [12, 13, 14, 15, 16, 17, 4, 18, 6, 7, 19, 20, 21, 22, 23, 24, 8, 25, 26, 27, 28, 29, 30, 31, 32, 33, 34, 35, 36, 37, 38, 39, 40, 41, 42, 43, 44, 45, 46, 47, 217, 218, 219, 220, 221, 222, 223, 224, 225, 226, 227, 228, 229, 230] (by decide +kernel) (by decide +kernel)) (goodIn_sub (fun _ h => List.mem_cons_of_mem _ (List.mem_append_left _ (List.mem_append_right _ h))) (by decide +kernel))) (goodIn_sub (fun _ h => List.mem_cons_of_mem _ (List.mem_append_right _ h)) (by decide +kernel))
set_option maxRecDepth 20000 in
theorem gL_messages_L_message : GoodIn wsL_messages (va_wsS RL 128 yL_message wsL_message) := goodIn_app (goodIn_of _ (by decide +kernel)) ggL_messages_L_message
set_option maxRecDepth 20000 in
theorem ggL_messages_X6_untilRest : GoodIn wsL_messages wsX6_untilRest := goodIn_r _ [51, 52, 6, 7, 8, 53, 54, 55, 56, 57, 58, 59, 60, 61, 62, 63, 64, 65, 66, 67, 68, 69, 70, 71, 72, 73, 74, 75, 76, 77, 78, 79, 80, 81, 82, 83, 84, 85, 86, 87, 88, 89, 90, 91, 92, 93, 94, 33, 95, 35, 96, 97, 40, 98, 99, 100, 101, 102, 103, 104, 105, 106, 107, 108, 31, 32, 34, 36, 37, 38, 39, 41, 42, 43, 44, 109, 110, 111, 112, 113, 46, 47, 114, 115, 116, 117, 118, 119, 120, 121, 122, 123, 124, 125, 126, 127, 128, 129, 130, 131, 132, 133, 134, 135, 136, 137, 138, 139, 140, 141, 142, 143, 144, 145, 146, 147, 148, 149, 150, 151, 152, 153, 154, 155, 156, 157, 158, 159, 160, 161, 162, 163, 164, 165, 166, 167, 168, 169, 170, 171, 172, 217, 218, 219, 220, 221, 222, 223, 224, 225, 226, 227, 228, 229, 230, 231, 232, 233, 234, 235, 236, 237] (by decide +kernel) (by decide +kernel)
set_option maxRecDepth 20000 in
theorem gL_messages_X6_untilRest : GoodIn wsL_messages (wsV RL 130 RX6 yX6_untilRest wsX6_untilRest) := goodIn_app (goodIn_of _ (by decide +kernel)) ggL_messages_X6_untilRest
set_option maxRecDepth 20000 in
theorem ggL_messages_X6_agreeingAtRest : GoodIn wsL_messages wsX6_agreeingAtRest := goodIn_r _ [176, 52, 6, 53, 54, 55, 56, 57, 58, 59, 60, 61, 62, 63, 64, 65, 66, 67, 68, 69, 70, 71, 72, 73, 74, 75, 76, 77, 78, 79, 80, 81, 82, 83, 84, 85, 86, 87, 88, 89, 90, 91, 92, 93, 94, 33, 95, 35, 96, 97, 40, 98, 177, 178, 179, 180, 103, 181, 100, 101, 102, 104, 105, 106, 107, 108, 31, 32, 34, 36, 37, 38, 39, 41, 42, 43, 44, 109, 110, 111, 112, 113, 46, 47, 114, 115, 116, 117, 118, 119, 120, 121, 122, 123, 124, 125, 126, 127, 128, 129, 130, 131, 132, 133, 134, 135, 136, 137, 138, 139, 140, 141, 142, 143, 144, 145, 146, 147, 148, 149, 150, 151, 152, 153, 154, 155, 156, 157, 158, 159, 160, 161, 162, 163, 164, 165, 166, 167, 168, 169, 170, 171, 172, 182, 183, 184, 185, 186, 187, 188, 189, 217, 218, 219, 220, 221, 222, 223, 224, 225, 226, 231, 232, 233, 234, 235, 236, 237, 227, 228, 229, 230] (by decide +kernel) (by decide +kernel)
set_option maxRecDepth 20000 in
theorem gL_messages_X6_agreeingAtRest : GoodIn wsL_messages (wsV RL 133 RX6 yX6_agreeingAtRest wsX6_agreeingAtRest) := goodIn_app (goodIn_of _ (by decide +kernel)) ggL_messages_X6_agreeingAtRest
set_option maxRecDepth 20000 in
theorem ggL_messages_X6_mostNeeded : GoodIn wsL_messages wsX6_mostNeeded := goodIn_r _ [193, 52, 6, 7, 8, 53, 54, 55, 56, 57, 58, 59, 60, 61, 62, 63, 64, 65, 66, 67, 68, 69, 70, 71, 72, 73, 74, 75, 76, 77, 78, 79, 80, 81, 82, 83, 84, 85, 86, 87, 88, 89, 90, 91, 92, 93, 94, 33, 95, 35, 96, 97, 40, 98, 177, 178, 179, 180, 103, 181, 100, 101, 102, 104, 105, 106, 107, 108, 31, 32, 34, 36, 37, 38, 39, 41, 42, 43, 44, 109, 110, 111, 112, 113, 46, 47, 114, 115, 116, 117, 118, 119, 120, 121, 122, 123, 124, 125, 126, 127, 128, 129, 130, 131, 132, 133, 134, 135, 136, 137, 138, 139, 140, 141, 142, 143, 144, 145, 146, 147, 148, 149, 150, 151, 152, 153, 154, 155, 156, 157, 158, 159, 160, 161, 162, 163, 164, 165, 166, 167, 168, 169, 170, 171, 172, 182, 183, 184, 185, 186, 187, 188, 189, 194, 195, 196, 197, 198, 199, 200, 201, 202, 217, 218, 219, 220, 221, 222, 223, 224, 225, 226, 227, 228, 229, 230, 231, 232, 233, 234, 235, 236, 237] (by decide +kernel) (by decide +kernel)
set_option maxRecDepth 20000 in
theorem gL_messages_X6_mostNeeded : GoodIn wsL_messages (wsV RL 136 RX6 yX6_mostNeeded wsX6_mostNeeded) := goodIn_app (goodIn_of _ (by decide +kernel)) ggL_messages_X6_mostNeeded
set_option maxRecDepth 20000 in
theorem ggL_messages_L_count : GoodIn wsL_messages wsL_count := goodIn_ca (goodIn_r _ [205, 14, 206, 207, 208, 4, 209, 6, 7, 210, 25, 26, 27, 28, 29, 217, 218, 219, 220, 221, 222, 223, 224, 225, 226, 227, 228, 229, 230] (by decide +kernel) (by decide +kernel)) (goodIn_sub (fun _ h => List.mem_cons_of_mem _ (List.mem_append_right _ h)) (by decide +kernel))
